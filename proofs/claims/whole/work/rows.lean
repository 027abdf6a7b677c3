section
-- ===== PART A: goes FIRST, ahead of the names: the tables' words, and 'selects' of the private methods out of them =====
/-- a private method of a class that the tables say can be made, by its rows of tables_1 -/
def lw_okq (q : MethodName × Nat) : Prop := (q.1.cls ≠ "java/lang/invoke/MethodHandle" ∧ q.1.cls ≠ "java/lang/invoke/VarHandle") ∧ Cond.instantiable q.1.cls q.2 ∈ tables_1 ∧ Cond.privateMethod q.1 ∈ tables_1 ∧ Cond.instanceMethod q.1 ∈ tables_1
theorem lw_p0 : lw_okq (⟨"java/lang/Throwable", "fillInStackTrace", "(I)Ljava/lang/Throwable;"⟩, 6) := ⟨⟨by decide +kernel, by decide +kernel⟩, List.mem_of_getElem? (i := 178) (by decide +kernel), List.mem_of_getElem? (i := 176) (by decide +kernel), List.mem_of_getElem? (i := 177) (by decide +kernel)⟩
theorem lw_p1 : lw_okq (⟨"WaterCascade", "runPlant", "(I)V"⟩, 7) := ⟨⟨by decide +kernel, by decide +kernel⟩, List.mem_of_getElem? (i := 12) (by decide +kernel), List.mem_of_getElem? (i := 264) (by decide +kernel), List.mem_of_getElem? (i := 265) (by decide +kernel)⟩
theorem lw_p2 : lw_okq (⟨"WaterCascade$Plant", "setParts", "(I)V"⟩, 16) := ⟨⟨by decide +kernel, by decide +kernel⟩, List.mem_of_getElem? (i := 21) (by decide +kernel), List.mem_of_getElem? (i := 290) (by decide +kernel), List.mem_of_getElem? (i := 291) (by decide +kernel)⟩
theorem lw_p3 : lw_okq (⟨"WaterCascade$Plant", "ownerWithMore", "()I"⟩, 16) := ⟨⟨by decide +kernel, by decide +kernel⟩, List.mem_of_getElem? (i := 21) (by decide +kernel), List.mem_of_getElem? (i := 294) (by decide +kernel), List.mem_of_getElem? (i := 295) (by decide +kernel)⟩
theorem lw_p4 : lw_okq (⟨"WaterCascade$Plant", "cutParts", "(I)V"⟩, 16) := ⟨⟨by decide +kernel, by decide +kernel⟩, List.mem_of_getElem? (i := 21) (by decide +kernel), List.mem_of_getElem? (i := 298) (by decide +kernel), List.mem_of_getElem? (i := 299) (by decide +kernel)⟩
theorem lw_p5 : lw_okq (⟨"WaterCascade", "sendOn", "(II)V"⟩, 7) := ⟨⟨by decide +kernel, by decide +kernel⟩, List.mem_of_getElem? (i := 12) (by decide +kernel), List.mem_of_getElem? (i := 317) (by decide +kernel), List.mem_of_getElem? (i := 318) (by decide +kernel)⟩
theorem lw_p6 : lw_okq (⟨"WaterCascade", "workBackTo", "(I)V"⟩, 7) := ⟨⟨by decide +kernel, by decide +kernel⟩, List.mem_of_getElem? (i := 12) (by decide +kernel), List.mem_of_getElem? (i := 429) (by decide +kernel), List.mem_of_getElem? (i := 430) (by decide +kernel)⟩
theorem lw_p7 : lw_okq (⟨"WaterCascade", "greatestFrom", "(I)I"⟩, 7) := ⟨⟨by decide +kernel, by decide +kernel⟩, List.mem_of_getElem? (i := 12) (by decide +kernel), List.mem_of_getElem? (i := 433) (by decide +kernel), List.mem_of_getElem? (i := 434) (by decide +kernel)⟩
theorem lw_p8 : lw_okq (⟨"WaterCascade", "leastBestRelease", "(I)I"⟩, 7) := ⟨⟨by decide +kernel, by decide +kernel⟩, List.mem_of_getElem? (i := 12) (by decide +kernel), List.mem_of_getElem? (i := 437) (by decide +kernel), List.mem_of_getElem? (i := 438) (by decide +kernel)⟩
theorem lw_p9 : lw_okq (⟨"WaterCascade", "energyFrom", "(II)I"⟩, 7) := ⟨⟨by decide +kernel, by decide +kernel⟩, List.mem_of_getElem? (i := 12) (by decide +kernel), List.mem_of_getElem? (i := 445) (by decide +kernel), List.mem_of_getElem? (i := 446) (by decide +kernel)⟩
theorem lw_p10 : lw_okq (⟨"WaterCascadeModel", "works", "(I)V"⟩, 20) := ⟨⟨by decide +kernel, by decide +kernel⟩, List.mem_of_getElem? (i := 475) (by decide +kernel), List.mem_of_getElem? (i := 579) (by decide +kernel), List.mem_of_getElem? (i := 580) (by decide +kernel)⟩
theorem lw_p11 : lw_okq (⟨"WaterCascadeModel", "filled", "(I)I"⟩, 20) := ⟨⟨by decide +kernel, by decide +kernel⟩, List.mem_of_getElem? (i := 475) (by decide +kernel), List.mem_of_getElem? (i := 583) (by decide +kernel), List.mem_of_getElem? (i := 584) (by decide +kernel)⟩
theorem lw_p12 : lw_okq (⟨"WaterCascadeModel", "richer", "(I)I"⟩, 20) := ⟨⟨by decide +kernel, by decide +kernel⟩, List.mem_of_getElem? (i := 475) (by decide +kernel), List.mem_of_getElem? (i := 587) (by decide +kernel), List.mem_of_getElem? (i := 588) (by decide +kernel)⟩
theorem lw_p13 : lw_okq (⟨"WaterCascadeModel", "sends", "(III)V"⟩, 20) := ⟨⟨by decide +kernel, by decide +kernel⟩, List.mem_of_getElem? (i := 475) (by decide +kernel), List.mem_of_getElem? (i := 591) (by decide +kernel), List.mem_of_getElem? (i := 592) (by decide +kernel)⟩
theorem lw_p14 : lw_okq (⟨"WaterCascadeModel", "mixed", "(II)I"⟩, 20) := ⟨⟨by decide +kernel, by decide +kernel⟩, List.mem_of_getElem? (i := 475) (by decide +kernel), List.mem_of_getElem? (i := 595) (by decide +kernel), List.mem_of_getElem? (i := 596) (by decide +kernel)⟩
theorem lw_p15 : lw_okq (⟨"WaterCascadeModel", "asks", "(I)Z"⟩, 20) := ⟨⟨by decide +kernel, by decide +kernel⟩, List.mem_of_getElem? (i := 475) (by decide +kernel), List.mem_of_getElem? (i := 615) (by decide +kernel), List.mem_of_getElem? (i := 616) (by decide +kernel)⟩
def lw_privs_1 : List (MethodName × Nat) := [(⟨"java/lang/Throwable", "fillInStackTrace", "(I)Ljava/lang/Throwable;"⟩, 6), (⟨"WaterCascade", "runPlant", "(I)V"⟩, 7), (⟨"WaterCascade$Plant", "setParts", "(I)V"⟩, 16), (⟨"WaterCascade$Plant", "ownerWithMore", "()I"⟩, 16), (⟨"WaterCascade$Plant", "cutParts", "(I)V"⟩, 16), (⟨"WaterCascade", "sendOn", "(II)V"⟩, 7), (⟨"WaterCascade", "workBackTo", "(I)V"⟩, 7), (⟨"WaterCascade", "greatestFrom", "(I)I"⟩, 7), (⟨"WaterCascade", "leastBestRelease", "(I)I"⟩, 7), (⟨"WaterCascade", "energyFrom", "(II)I"⟩, 7), (⟨"WaterCascadeModel", "works", "(I)V"⟩, 20), (⟨"WaterCascadeModel", "filled", "(I)I"⟩, 20), (⟨"WaterCascadeModel", "richer", "(I)I"⟩, 20), (⟨"WaterCascadeModel", "sends", "(III)V"⟩, 20), (⟨"WaterCascadeModel", "mixed", "(II)I"⟩, 20), (⟨"WaterCascadeModel", "asks", "(I)Z"⟩, 20)]
theorem lw_r1 : ∀ q ∈ lw_privs_1, lw_okq q := List.forall_mem_cons.mpr ⟨lw_p0, List.forall_mem_cons.mpr ⟨lw_p1, List.forall_mem_cons.mpr ⟨lw_p2, List.forall_mem_cons.mpr ⟨lw_p3, List.forall_mem_cons.mpr ⟨lw_p4, List.forall_mem_cons.mpr ⟨lw_p5, List.forall_mem_cons.mpr ⟨lw_p6, List.forall_mem_cons.mpr ⟨lw_p7, List.forall_mem_cons.mpr ⟨lw_p8, List.forall_mem_cons.mpr ⟨lw_p9, List.forall_mem_cons.mpr ⟨lw_p10, List.forall_mem_cons.mpr ⟨lw_p11, List.forall_mem_cons.mpr ⟨lw_p12, List.forall_mem_cons.mpr ⟨lw_p13, List.forall_mem_cons.mpr ⟨lw_p14, List.forall_mem_cons.mpr ⟨lw_p15, fun _ h => absurd h List.not_mem_nil⟩⟩⟩⟩⟩⟩⟩⟩⟩⟩⟩⟩⟩⟩⟩⟩
theorem lw_p16 : lw_okq (⟨"WaterCascadeModel", "knows", "(I)Z"⟩, 20) := ⟨⟨by decide +kernel, by decide +kernel⟩, List.mem_of_getElem? (i := 475) (by decide +kernel), List.mem_of_getElem? (i := 631) (by decide +kernel), List.mem_of_getElem? (i := 632) (by decide +kernel)⟩
theorem lw_p17 : lw_okq (⟨"WaterCascadeModel", "greatest", "(I)I"⟩, 20) := ⟨⟨by decide +kernel, by decide +kernel⟩, List.mem_of_getElem? (i := 475) (by decide +kernel), List.mem_of_getElem? (i := 667) (by decide +kernel), List.mem_of_getElem? (i := 668) (by decide +kernel)⟩
theorem lw_p18 : lw_okq (⟨"WaterCascadeModel", "lays", "(I)V"⟩, 20) := ⟨⟨by decide +kernel, by decide +kernel⟩, List.mem_of_getElem? (i := 475) (by decide +kernel), List.mem_of_getElem? (i := 671) (by decide +kernel), List.mem_of_getElem? (i := 672) (by decide +kernel)⟩
theorem lw_p19 : lw_okq (⟨"WaterCascadeModel", "may", "(II)Z"⟩, 20) := ⟨⟨by decide +kernel, by decide +kernel⟩, List.mem_of_getElem? (i := 475) (by decide +kernel), List.mem_of_getElem? (i := 675) (by decide +kernel), List.mem_of_getElem? (i := 676) (by decide +kernel)⟩
theorem lw_p20 : lw_okq (⟨"WaterCascadeModel", "comes", "(III)I"⟩, 20) := ⟨⟨by decide +kernel, by decide +kernel⟩, List.mem_of_getElem? (i := 475) (by decide +kernel), List.mem_of_getElem? (i := 679) (by decide +kernel), List.mem_of_getElem? (i := 680) (by decide +kernel)⟩
def lw_privs_2 : List (MethodName × Nat) := [(⟨"WaterCascadeModel", "knows", "(I)Z"⟩, 20), (⟨"WaterCascadeModel", "greatest", "(I)I"⟩, 20), (⟨"WaterCascadeModel", "lays", "(I)V"⟩, 20), (⟨"WaterCascadeModel", "may", "(II)Z"⟩, 20), (⟨"WaterCascadeModel", "comes", "(III)I"⟩, 20)]
theorem lw_r2 : ∀ q ∈ lw_privs_2, lw_okq q := List.forall_mem_cons.mpr ⟨lw_p16, List.forall_mem_cons.mpr ⟨lw_p17, List.forall_mem_cons.mpr ⟨lw_p18, List.forall_mem_cons.mpr ⟨lw_p19, List.forall_mem_cons.mpr ⟨lw_p20, fun _ h => absurd h List.not_mem_nil⟩⟩⟩⟩⟩
def lw_privs : List (MethodName × Nat) := lw_privs_1 ++ (lw_privs_2)
def lw_tbl : List Cond := k2_sels lw_privs ++ tables_1
theorem lw_privs_ok : ∀ q ∈ lw_privs, lw_okq q := by
  show ∀ q ∈ lw_privs_1 ++ (lw_privs_2), lw_okq q
  exact List.forall_mem_append.mpr ⟨lw_r1, lw_r2⟩
/-- arrays over arrays: the text of NAMES calls these two and nothing defines them -/
def va_AOA (ty : FieldType) (U : State) : Prop := (Cond.arrayOver (.array ty)).before #[] U = true
theorem va_AOA.use {ty : FieldType} {A : Array Value} {U : State} (h : va_AOA ty U) : (Cond.arrayOver (.array ty)).before A U = true := h
/-! ===== BEGIN words of one list among another's, by their places ===== -/
theorem goodIn_r {big : List Cond} (ws : List Cond) (ps : List Nat) (hp : ws = ps.filterMap (fun i => big[i]?)) (h : ws.all goodWord = true) : GoodIn big ws := by
  intro w hw
  have h1 := List.all_eq_true.mp h w hw
  rw [hp] at hw
  obtain ⟨i, -, hi⟩ := List.mem_filterMap.mp hw
  have hm : w ∈ big := by first | exact List.mem_of_getElem? hi | exact List.getElem?_mem hi
  exact ⟨hm, good_of_word h1⟩
theorem goodIn_app {big a b : List Cond} (ha : GoodIn big a) (hb : GoodIn big b) : GoodIn big (a ++ b) := fun w h => (List.mem_append.mp h).elim (ha w) (hb w)
theorem goodIn_ca {big a b : List Cond} {c : Cond} (ha : GoodIn big (c :: a)) (hb : GoodIn big b) : GoodIn big (c :: (a ++ b)) := fun w h => (List.mem_cons.mp h).elim (fun e => ha w (List.mem_cons.mpr (Or.inl e))) (fun h => (List.mem_append.mp h).elim (fun h => ha w (List.mem_cons.mpr (Or.inr h))) (hb w))
theorem goodIn_sub {big ws : List Cond} (hm : ∀ w ∈ ws, w ∈ big) (h : ws.all goodWord = true) : GoodIn big ws := fun w hw => ⟨hm w hw, good_of_word (List.all_eq_true.mp h w hw)⟩
/-! ===== END ===== -/

/-! ===== BEGIN new T[n][m]: the outer array a place, the inner ones among the pooled ===== -/
/-- f, but v at every address of l -/
def vr_up {α : Type} (f : Nat → α) (l : List Nat) (v : α) : Nat → α := fun a => if a ∈ l then v else f a
theorem vr_up_in {α : Type} {f : Nat → α} {l : List Nat} {v : α} {a : Nat} (h : a ∈ l) : vr_up f l v a = v := if_pos h
theorem vr_up_ne {α : Type} {f : Nat → α} {l : List Nat} {v : α} {a : Nat} (h : a ∉ l) : vr_up f l v a = f a := if_neg h
theorem vr_rows {L l : List Nat} {f : Nat → va_E} {e : va_E} (h : ∀ a, a ∈ l → a ∉ L) : va_pl L f ++ l.map (fun a => (a, e)) = va_pl (L ++ l) (vr_up f l e) := by
  unfold va_pl
  rw [List.map_append]
  congr 1
  · apply List.map_congr_left
    intro a ha
    rw [vr_up_ne (fun q => h a q ha)]
  · apply List.map_congr_left
    intro a ha
    rw [vr_up_in ha]
theorem vr_lay {X rows : va_W} {x : Nat × va_E} {pl : va_W} {D : va_G} {cl : List vw_C} {H : Heap} (hP : va_P D cl (((X ++ pl) ++ [x]) ++ rows) H) : va_P D cl ((X ++ [x]) ++ (pl ++ rows)) H := by
  rw [List.append_assoc (X ++ pl)] at hP
  have h := va_P.swap hP
  rw [← List.append_assoc X] at h
  have h2 := va_P.swap h
  rw [List.append_assoc (X ++ [x])] at h2
  exact h2
theorem vr_layD {X rows : va_W} {x : Nat × va_E} {pl : va_W} {A : Nat → Prop} (hD : va_D A (((X ++ pl) ++ [x]) ++ rows)) : va_D A ((X ++ [x]) ++ (pl ++ rows)) := by
  rw [List.append_assoc (X ++ pl)] at hD
  have h := va_D.swap hD
  rw [← List.append_assoc X] at h
  have h2 := va_D.swap h
  rw [List.append_assoc (X ++ [x])] at h2
  exact h2
theorem vr_outer (c : ClassId) (N h0 : Nat) : ∀ i : Nat, Jvm.Free.Multi.outerC c N h0 i = arrV c N (fun j => va_rf (if j < i then some (h0 + 1 + j) else none))
  | 0 => by
    show ({ cls := c, slots := Array.replicate N .null, vm := .none } : Cell) = _
    rw [arrV_new]
    refine congrArg (arrV c N) (funext fun j => ?_)
    simp [va_rf]
  | i + 1 => by
    show (Jvm.Free.Multi.outerC c N h0 i).setSlot i (.ref (h0 + 1 + i)) = _
    rw [vr_outer c N h0 i, arrV_store]
    refine congrArg (arrV c N) (funext fun j => ?_)
    by_cases e : j = i
    · subst e
      simp [updV, va_rf]
    · by_cases h : j < i
      · simp [updV, e, h, Nat.lt_succ_of_lt h]
      · simp [updV, e, h, show ¬ j < i + 1 by omega]
section VGM
variable {p : Program} {l : Launch} {e : Env} {R : Room} {s : State} {m : MethodId} {args : Array Value} {below : List Frame} {meth : Method} {c : Code} {H : Heap} {locs : List Loc} {cells slots : Nat} {Q : State → Prop}
variable {cc : ByteArray} {pc : Nat} {ls : Array Slot} {rest : List Value} {D : va_G} {cl : List vw_C} {A : Nat → Prop} {a : Nat} {tys : List (ClassId × FieldType)} {ws : va_W} {H0 : Heap}
theorem va_mna {X : va_W} {L : List Nat} {f : Nat → va_E} {cc : ByteArray} (hexec : p.tables.exec = Jvm.exec) (hb : c.code = cc) {own : String} {index : Nat} {ty : FieldType} {cy : ClassId} (hown : s.vm.findClass own = some m.cls) (hclink : (Cond.classLink own index ("[" ++ (FieldType.array ty).toString)).before args s = true) (hover : va_AOA ty s) (harr : (Cond.arrayClass ty).before args s = true) (hcy : s.vm.findClass (FieldType.array ty).toString = some cy)
    (hK : va_K D cl tys s) (hP : va_P D cl (X ++ va_pl L f) H) (hD : va_D A (X ++ va_pl L f)) (hS : va_S A H0 H locs) (hA : ∀ q, H0.size ≤ q → A q) {n k : Int32} {N' K' : Nat} {z : vp_A} (hn : ¬ n < 0) (hk : ¬ k < 0) (hN : n.toNatClampNeg = N') (hM : k.toNatClampNeg = K')
    (hb1 : N' * 4 ≤ 536870912) (hb2 : K' * componentBytes ty ≤ 536870912) (hb3 : K' ≤ 536870912) (hdf : fits ty (defaultValue ty) = true) (hdd : (defaultValue ty).isDefault = true) (hcells : cells + (1 + N') ≤ R.cells) (hslots : slots + (N' + N' * K') ≤ R.slots) (hz : ∀ c : ClassId, Jvm.Free.Multi.innerC c K' (defaultValue ty) = vp_cell c z) (hdg : decode cc pc = .ok (.multianewarray index 2, 4))
    (kk : ∀ (q : Nat) (r : Nat → Nat) (cA : ClassId) (H1 : Heap), (∀ i j : Nat, i < N' → j < N' → r i = r j → i = j) → (∀ i : Nat, i < N' → r i ∉ L) → va_K D cl (tys ++ [(cA, .array ty)]) s →
      va_P D cl ((X ++ [(q, .inl (cA, N', .inr (.inr (.inr (.inr (fun i => if i < N' then some (r i) else none))))))]) ++ va_pl (L ++ (List.range N').map r) (vr_up f ((List.range N').map r) (.inl (cy, z)))) H1 → va_D A ((X ++ [(q, .inl (cA, N', .inr (.inr (.inr (.inr (fun i => if i < N' then some (r i) else none))))))]) ++ va_pl (L ++ (List.range N').map r) (vr_up f ((List.range N').map r) (.inl (cy, z)))) → va_S A H0 H1 locs →
      W p l e R s m args below meth c H1 locs (cells + 1 + N') (slots + N' + N' * K') Q (F0 m (pc + 4) ls (.ref q :: rest))) : W p l e R s m args below meth c H locs cells slots Q (F0 m pc ls (.int k :: .int n :: rest)) := by
  subst hN
  subst hM
  intro T hT Xs
  obtain ⟨vm₁, cA, comp, -, fA, fC, hO, -, X', step⟩ := Xs.multianewarray2F hexec hown hclink (va_AOA.use hover) harr (g := F0 m pc ls (.int k :: .int n :: rest)) rfl (by rw [hb]; exact hdg) rfl hn hk hb1 hb2 hb3 hdf hdd hcells hslots
  have ec : some cy = some comp := hcy.symm.trans fC
  cases ec
  generalize hF : Jvm.Free.Multi.fill (T.setVm vm₁) cA cy n.toNatClampNeg k.toNatClampNeg (defaultValue ty) n.toNatClampNeg = F at X' step
  have hTh : (T.setVm vm₁).heap = H := hT
  obtain ⟨f1, f2, -, -⟩ := Jvm.Free.Multi.fill_facts (T.setVm vm₁) cA cy n.toNatClampNeg k.toNatClampNeg (defaultValue ty) n.toNatClampNeg
  rw [hF, hTh] at f1 f2
  have hold : ∀ x : Nat, x < H.size → F.heap[x]? = H[x]? := fun x hx => by
    have := Jvm.Free.Multi.fill_old (T.setVm vm₁) cA cy n.toNatClampNeg k.toNatClampNeg (defaultValue ty) (a := x) (by rw [hTh]; exact hx) n.toNatClampNeg
    rw [hF, hTh] at this
    exact this
  have hrow : ∀ j : Nat, j < n.toNatClampNeg → F.heap[H.size + 1 + j]? = some (vp_cell cy z) := fun j hj => by
    have := Jvm.Free.Multi.fill_inner (T.setVm vm₁) cA cy n.toNatClampNeg k.toNatClampNeg (defaultValue ty) n.toNatClampNeg j hj
    rw [hF, hTh, hz] at this
    exact this
  have hout : Jvm.Free.Multi.outerC cA n.toNatClampNeg H.size n.toNatClampNeg = vp_cell cA (n.toNatClampNeg, .inr (.inr (.inr (.inr (fun i => if i < n.toNatClampNeg then some (H.size + 1 + i) else none))))) := by
    rw [vp_cell_q]
    exact vr_outer cA n.toNatClampNeg H.size n.toNatClampNeg
  rw [hout] at f2
  have hlt : ∀ a, a ∈ L → a < H.size := fun a ha => by
    obtain ⟨k9, hk9⟩ := va_pl_get (X := X) (f := f) ha
    exact (hP k9 _ hk9).lt
  have hnl : ∀ i : Nat, i < n.toNatClampNeg → H.size + 1 + i ∉ L := fun i _ h => by
    have := hlt _ h
    omega
  have hnm : ∀ a, a ∈ (List.range n.toNatClampNeg).map (fun i => H.size + 1 + i) → a ∉ L := fun a ha h => by
    obtain ⟨i, -, rfl⟩ := List.mem_map.mp ha
    have := hlt _ h
    omega
  have hP0 : va_P D cl (X ++ va_pl L f) F.heap := hP.kept (fun k9 x hx => hold x.1 ((hP k9 x hx).lt))
  have hP1 : va_P D cl ((X ++ va_pl L f) ++ [(H.size, .inl (cA, n.toNatClampNeg, .inr (.inr (.inr (.inr (fun i => if i < n.toNatClampNeg then some (H.size + 1 + i) else none))))))]) F.heap := hP0.app (fun k9 x hx => by
    have h0 : k9 < 1 := (List.getElem?_eq_some_iff.mp hx).1
    rw [show k9 = 0 by omega] at hx
    cases hx
    exact f2)
  have hP2 : va_P D cl (((X ++ va_pl L f) ++ [(H.size, .inl (cA, n.toNatClampNeg, .inr (.inr (.inr (.inr (fun i => if i < n.toNatClampNeg then some (H.size + 1 + i) else none))))))]) ++ ((List.range n.toNatClampNeg).map (fun i => H.size + 1 + i)).map (fun a => (a, .inl (cy, z)))) F.heap := hP1.app (fun k9 x hx => by
    obtain ⟨a, ha, rfl⟩ := List.mem_map.mp (List.mem_of_getElem? hx)
    obtain ⟨i, hi, rfl⟩ := List.mem_map.mp ha
    exact hrow i (List.mem_range.mp hi))
  have hD2 : va_D A (((X ++ va_pl L f) ++ [(H.size, .inl (cA, n.toNatClampNeg, .inr (.inr (.inr (.inr (fun i => if i < n.toNatClampNeg then some (H.size + 1 + i) else none))))))]) ++ ((List.range n.toNatClampNeg).map (fun i => H.size + 1 + i)).map (fun a => (a, .inl (cy, z)))) := by
    have hD1 := hD.push (e := .inl (cA, n.toNatClampNeg, .inr (.inr (.inr (.inr (fun i => if i < n.toNatClampNeg then some (H.size + 1 + i) else none)))))) hP rfl (hA _ hS.1)
    generalize hW1 : (X ++ va_pl L f) ++ [(H.size, .inl (cA, n.toNatClampNeg, .inr (.inr (.inr (.inr (fun i => if i < n.toNatClampNeg then some (H.size + 1 + i) else none))))))] = W1 at hD1 hP1 ⊢
    have hle : ∀ (k9 : Nat) (x : Nat × va_E), W1[k9]? = some x → x.1 ≤ H.size := fun k9 x hx => by
      rw [← hW1] at hx
      by_cases hl : k9 < (X ++ va_pl L f).length
      · rw [List.getElem?_append_left hl] at hx
        exact Nat.le_of_lt ((hP k9 x hx).lt)
      · rw [List.getElem?_append_right (by omega)] at hx
        have h0 : k9 - (X ++ va_pl L f).length < 1 := (List.getElem?_eq_some_iff.mp hx).1
        rw [show k9 - (X ++ va_pl L f).length = 0 by omega] at hx
        cases hx
        exact Nat.le_refl _
    have hr : ∀ (k9 : Nat) (x : Nat × va_E), (((List.range n.toNatClampNeg).map (fun i => H.size + 1 + i)).map (fun a => ((a, .inl (cy, z)) : Nat × va_E)))[k9]? = some x → x.1 = H.size + 1 + k9 := fun k9 x hx => by
      rw [List.getElem?_map, List.getElem?_map] at hx
      by_cases h9 : k9 < n.toNatClampNeg
      · rw [List.getElem?_range h9] at hx
        cases hx
        rfl
      · have hn0 : (List.range n.toNatClampNeg)[k9]? = none := List.getElem?_eq_none (by rw [List.length_range]; omega)
        rw [hn0] at hx
        cases hx
    refine ⟨fun i j x y hi hj hxy => ?_, fun k9 x hx => ?_⟩
    · by_cases h1 : i < W1.length <;> by_cases h2 : j < W1.length
      · rw [List.getElem?_append_left h1] at hi
        rw [List.getElem?_append_left h2] at hj
        exact hD1.1 i j x y hi hj hxy
      · rw [List.getElem?_append_left h1] at hi
        rw [List.getElem?_append_right (by omega)] at hj
        have := hle _ _ hi
        have := hr _ _ hj
        omega
      · rw [List.getElem?_append_right (by omega)] at hi
        rw [List.getElem?_append_left h2] at hj
        have := hle _ _ hj
        have := hr _ _ hi
        omega
      · rw [List.getElem?_append_right (by omega)] at hi hj
        have := hr _ _ hi
        have := hr _ _ hj
        omega
    · by_cases h1 : k9 < W1.length
      · rw [List.getElem?_append_left h1] at hx
        exact hD1.2 k9 x hx
      · rw [List.getElem?_append_right (by omega)] at hx
        have := hr _ _ hx
        exact hA _ (by have := hS.1; omega)
  have hAr : ArrOfT s cA (.array ty) := fun N9 z9 => by
    obtain ⟨-, k9, hk9, cm9, hkk9⟩ := (hO 0 0 0).1
    exact ⟨(fun q hq => by cases hq), k9, hk9, cm9, hkk9⟩
  have hK2 : va_K D cl (tys ++ [(cA, .array ty)]) s := ⟨hK.1, fun k9 x hx => by
    by_cases hl : k9 < tys.length
    · rw [List.getElem?_append_left hl] at hx
      exact hK.2 k9 x hx
    · rw [List.getElem?_append_right (by omega)] at hx
      have h0 : k9 - tys.length < 1 := (List.getElem?_eq_some_iff.mp hx).1
      rw [show k9 - tys.length = 0 by omega] at hx
      cases hx
      exact ⟨hAr, fA⟩⟩
  obtain ⟨t, a1, b1⟩ := kk H.size (fun i => H.size + 1 + i) cA F.heap (fun i j _ _ h => by have h9 : H.size + 1 + i = H.size + 1 + j := h; omega) hnl hK2 (by rw [← vr_rows hnm]; exact vr_lay hP2) (by rw [← vr_rows hnm]; exact vr_layD hD2) ⟨by rw [f1]; have := hS.1; omega, fun x h1 h2 => (hold x (Nat.lt_of_lt_of_le h1 hS.1)).trans (hS.2.1 x h1 h2), hS.2.2⟩ F rfl X'
  refine ⟨t, step t ?_, b1⟩
  have e : T.heap.size = H.size := by rw [hT]
  rw [e]
  exact a1
end VGM
/-! ===== END ===== -/

/-! ===== BEGIN exceptions that leave a method, and their catching by the caller (launches without stack traces) ===== -/
section VXA
/-! The laws vx_back, vx_callV, vx_callS, vx_callSW, vx_throw0, vx_throwS follow proofs of the library, with one case more: JvmDerived/Free/Laws.lean (Back.of_free), Shelf42/LK1.lean (callV, callS), Shelf/KitTraced.lean (throwNew0V, throwNewS). -/
/-- where a method has thrown q: the class by its name, the cell, what was written, the world -/
def vx_T (XC : String → State → State → Prop) (st : State) (q : Addr) (t : State) (mc ms : Nat) (free : Addr → Prop) : Prop :=
  ∃ (E : String) (ce : Cell) (L : List Loc), XC E st t ∧ t.heap[q]? = some ce ∧ ce.vm = .none ∧ st.vm.findClass E = some ce.cls ∧ st.WarmedH t.vm ∧ st.sameButNew ({ t with vm := st.vm } : State) L mc ms ∧ ∀ z ∈ L, free z.base
def vx_Q (Qc : Array Value → State → Outcome → State → Prop) (XC : String → State → State → Prop) (mc ms : Nat) (free : Addr → Prop) : Array Value → State → Outcome → State → Prop := fun a st o t =>
  (Qc a st o t ∧ ∃ L, FrameEnd st o t L mc ms ∧ ∀ q ∈ L, free q.base) ∨ ∃ q, o = .threw q ∧ vx_T XC st q t mc ms free
/-- a callee that returns or throws -/
def vx_Met (l : Launch) (y : MethodName) (ws : List Cond) (rm : Room) (Pc : Array Value → State → Prop) (Qc : Array Value → State → Outcome → State → Prop) (XC : String → State → State → Prop) (mc ms : Nat) (free : Addr → Prop) : Prop :=
  MetFree l y (headSpec ws rm) Pc (fun _ _ _ _ _ => True) (vx_Q Qc XC mc ms free)
def vx_Post (XC : String → State → State → Prop) (mc ms : Nat) (free : Addr → Prop) : Pt → Array Value → Addr → Pt → Prop := fun A a q B =>
  ∃ (g : JFrame) (mk : MethodId) (t : State) (L : List Loc) (E : String) (ce : Cell), B.U.heap = t.heap ∧ B.U.vm = t.vm ∧ XC E (A.U.calling g mk a) t ∧ t.heap[q]? = some ce ∧ ce.vm = .none ∧ A.U.vm.findClass E = some ce.cls ∧ B.locs = A.locs ++ L ∧ (∀ z ∈ L, free z.base) ∧ B.cells = A.cells + mc ∧ B.slots = A.slots + ms
def vx_Back (l : Launch) (R : Room) (p : Program) (e : Env) (below : List Frame) (s : State) (sargs : Array Value) (y : MethodName) (len W9 : Nat)
    (Pre : Pt → Array Value → Prop) (Post : Pt → Array Value → Option Value → Pt → Prop) (PostX : Pt → Array Value → Addr → Pt → Prop) : Prop :=
  ∀ (m : MethodId) (meth : Method) (c : Code) (A : Pt) (g : JFrame) (ig : Instr) (mk : MethodId) (a : Array Value),
    Stand p l e R s m sargs below meth c A.U A.locs A.cells A.slots → g.method = m → g.locals.size = c.maxLocals → decode c.code g.pc = .ok (ig, len) →
    2 * g.monitorRoom + (g.stack.map fun v => v.category).sum ≤ W9 → A.U.methodNamed? y = some mk → Pre A a →
    (∃ (v : Option Value) (B : Pt), Stand p l e R s m sargs below meth c B.U B.locs B.cells B.slots ∧ Post A a v B ∧
      Steps p.tables e below (doInvoke e (A.U.setTop g) [] mk a).1 (B.U.setTop { g with pc := g.pc + len, stack := v.toList ++ g.stack })) ∨
    (∃ (q : Addr) (B : Pt), Stand p l e R s m sargs below meth c B.U B.locs B.cells B.slots ∧ PostX A a q B ∧
      Steps p.tables e below (doInvoke e (A.U.setTop g) [] mk a).1 ((B.U.setTop g).pushFrame (.throwing q)))
section Payer
variable {l : Launch} {R : Room} {p : Program} {e : Env} {below : List Frame} {s : State} {sargs : Array Value} {y : MethodName} {len W9 : Nat}
theorem vx_back {ws : List Cond} {rm : Room} {Pc : Array Value → State → Prop} {Qc : Array Value → State → Outcome → State → Prop} {XC : String → State → State → Prop} {mc ms : Nat} {free : Addr → Prop} {bytes : ByteArray} {maxL : Nat} {ret : Option FieldType}
    (hM : vx_Met l y ws rm Pc Qc XC mc ms free) (hblind : FrameBlind Pc) (hrc : rm.cells = mc) (hrs : rm.slots = ms)
    (hframes : rm.frames + 1 ≤ R.frames) (hlocals : W9 + (maxL + 11) + rm.locals ≤ R.locals)
    (hws : ∀ w ∈ ws, ∀ a' U, s.WarmedH U.vm → w.before a' U = true) (hcode : Cond.code y bytes maxL ret ∈ ws) (hinit : ∀ a' U, s.WarmedH U.vm → (Cond.initialized y.cls).before a' U = true) :
    vx_Back l R p e below s sargs y len W9 (PreOf R mc ms Pc) (PostOf Qc mc ms free) (vx_Post XC mc ms free) := by
  intro m meth c A g ig mk a X hg hsize hdg hW hn hp
  have h1 : (headSpec ws rm).pre.before a A.U = true := atoms_intro fun w hw => hws w hw _ _ X.warmed
  have h2 : (Cond.code y bytes maxL ret).before a A.U = true := hws _ hcode _ _ X.warmed
  have h3 : (Cond.initialized y.cls).before a A.U = true := hinit _ _ X.warmed
  have h4 : A.cells + (headSpec ws rm).room.cells ≤ R.cells := by rw [show (headSpec ws rm).room.cells = mc from hrc]; exact hp.1
  have h5 : A.slots + (headSpec ws rm).room.slots ≤ R.slots := by rw [show (headSpec ws rm).room.slots = ms from hrs]; exact hp.2.1
  have hPc : Pc a (A.U.calling g mk a) := hblind _ _ _ _ hp.2.2
  obtain ⟨U, Ls, c0, s0⟩ := A
  dsimp only [Pt.U, Pt.locs, Pt.cells, Pt.slots] at h1 h2 h3 h4 h5 X hn hPc ⊢
  obtain ⟨methY, cY, hmY, hcY, -, hlY, -, -, -, -⟩ := Cond.code_spec hn h2
  obtain ⟨kY, hkY, -⟩ := className_of_methodNamed hn
  have hinitY : kY.init = .initialized := Cond.initialized_spec (findClass_of_methodNamed hn) hkY h3
  have h : At U g.method c below := by rw [hg]; exact X.here
  have hlocals9 : W9 + (maxL + 11) + (headSpec ws rm).room.locals ≤ R.locals := hlocals
  have happ : (headSpec ws rm).appliesLoose y e.platform (U.calling g mk a) = true :=
    Spec.appliesLoose_calling (g := g) h hdg hn hkY hinitY
      (X.room_calling (g := g) (R' := (headSpec ws rm).room) hsize hmY hcY hframes (by rw [hlY]; omega) h4 h5) h1
  obtain ⟨mid, hmid⟩ := h.above
  have hfr : (U.setTop g).frames = (.java g :: mid) ++ below := by rw [State.frames_setTop' g h.top, hmid]; rfl
  obtain ⟨o, s₂, hsteps, -, hend, hq⟩ := Steps.callFree hM p X.admits X.cas X.clock (acts := []) hfr happ hPc trivial
  have hq' : vx_Q Qc XC mc ms free a (U.calling g mk a) o s₂ := hq
  rw [State.frames_setTop' g h.top] at hend
  obtain ⟨g₀, hg0⟩ := Option.isSome_iff_exists.mp h.top
  obtain ⟨r, hr⟩ := State.topJava?_eq_some.mp hg0
  have hr' : (({ U with heap := s₂.heap, slotsUsed := s₂.slotsUsed } : State).setVm s₂.vm).frames = .java g₀ :: r := hr
  rcases hq' with ⟨hqc, L, hfe, hL⟩ | ⟨q, rfl, E, ce, L, hx, hce, hcv, hcl, hW₂, hsm, hL⟩
  · obtain ⟨⟨v, rfl⟩, hW₂, e2, q2, q3, q4, q5, q6⟩ := id hfe
    have e3 : s₂ = ({ (U.calling g mk a).setFrames s₂.frames with heap := s₂.heap, slotsUsed := s₂.slotsUsed } : State).setVm s₂.vm := by
      have : s₂ = ({ s₂ with vm := (U.calling g mk a).vm } : State).setVm s₂.vm := rfl
      rw [e2] at this
      exact this
    obtain ⟨c₂, i₂, len₂, hc₂, hd₂, hf₂⟩ := hend
    have hW' : U.WarmedH s₂.vm := hW₂
    have hcc : c₂ = c := by
      have h1 : s₂.code? g.method = U.code? g.method := by
        rw [State.code?_eq, State.code?_eq, hW'.alike.method?]
      exact Option.some.inj (hc₂.symm.trans (h1.trans h.code))
    subst hcc
    have hlen : len₂ = len := by rw [hdg] at hd₂; cases hd₂; rfl
    subst hlen
    have hs₂ : s₂ = (({ U with heap := s₂.heap, slotsUsed := s₂.slotsUsed } : State).setVm s₂.vm).setTop { g with pc := g.pc + len₂, stack := v.toList ++ g.stack } := by
      refine e3.trans ?_
      rw [hf₂, State.calling_eq h.top, State.setFrames_setFrames, State.setTop_of_frames _ hr', hr]
      rfl
    have hsame : U.sameButNew ({ U with heap := s₂.heap, slotsUsed := s₂.slotsUsed } : State) L mc ms := by
      refine ⟨?_, q2, q3, q4, q5, q6⟩
      obtain ⟨t, ht, -⟩ := State.frames_cons hr
      show ({ U with heap := s₂.heap, slotsUsed := s₂.slotsUsed } : State) = { U.setFrames U.frames with heap := s₂.heap, slotsUsed := s₂.slotsUsed }
      rw [State.setFrames_self ht]
    subst hg
    refine Or.inl ⟨v, ⟨(({ U with heap := s₂.heap, slotsUsed := s₂.slotsUsed } : State).setVm s₂.vm), Ls ++ L, c0 + mc, s0 + ms⟩,
      ⟨X.admits, X.cas, X.clock, X.frames, X.room, X.hears, X.method, X.code, (X.here.setHeapUsed s₂.heap s₂.slotsUsed).setVm hW'.alike, X.tail, State.WarmedH.trans X.warmed hW', X.limits, X.bytes, X.same.trans (hsame.setVm s.vm)⟩,
      ⟨g, mk, s₂, L, rfl, rfl, hqc, rfl, hL, rfl, rfl⟩, ?_⟩
    show Steps p.tables e below _ ((({ U with heap := s₂.heap, slotsUsed := s₂.slotsUsed } : State).setVm s₂.vm).setTop { g with pc := g.pc + len₂, stack := v.toList ++ g.stack })
    rw [← hs₂]
    exact hsteps
  · obtain ⟨e2, q2, q3, q4, q5, q6⟩ := id hsm
    have e3 : s₂ = ({ (U.calling g mk a).setFrames s₂.frames with heap := s₂.heap, slotsUsed := s₂.slotsUsed } : State).setVm s₂.vm := by
      have : s₂ = ({ s₂ with vm := (U.calling g mk a).vm } : State).setVm s₂.vm := rfl
      rw [e2] at this
      exact this
    have hf₂ : s₂.frames = .throwing q :: .java g :: U.frames.tail := hend
    have hW' : U.WarmedH s₂.vm := hW₂
    have hs₂ : s₂ = ((({ U with heap := s₂.heap, slotsUsed := s₂.slotsUsed } : State).setVm s₂.vm).setTop g).pushFrame (.throwing q) := by
      refine e3.trans ?_
      rw [hf₂, State.calling_eq h.top, State.setFrames_setFrames, State.pushFrame, State.frames_setTop _ hr', State.setTop_of_frames _ hr', State.setFrames_setFrames, hr]
      rfl
    have hsame : U.sameButNew ({ U with heap := s₂.heap, slotsUsed := s₂.slotsUsed } : State) L mc ms := by
      refine ⟨?_, q2, q3, q4, q5, q6⟩
      obtain ⟨t, ht, -⟩ := State.frames_cons hr
      show ({ U with heap := s₂.heap, slotsUsed := s₂.slotsUsed } : State) = { U.setFrames U.frames with heap := s₂.heap, slotsUsed := s₂.slotsUsed }
      rw [State.setFrames_self ht]
    subst hg
    refine Or.inr ⟨q, ⟨(({ U with heap := s₂.heap, slotsUsed := s₂.slotsUsed } : State).setVm s₂.vm), Ls ++ L, c0 + mc, s0 + ms⟩,
      ⟨X.admits, X.cas, X.clock, X.frames, X.room, X.hears, X.method, X.code, (X.here.setHeapUsed s₂.heap s₂.slotsUsed).setVm hW'.alike, X.tail, State.WarmedH.trans X.warmed hW', X.limits, X.bytes, X.same.trans (hsame.setVm s.vm)⟩,
      ⟨g, mk, s₂, L, E, ce, rfl, rfl, hx, hce, hcv, hcl, rfl, hL, rfl, rfl⟩, ?_⟩
    show Steps p.tables e below _ (((({ U with heap := s₂.heap, slotsUsed := s₂.slotsUsed } : State).setVm s₂.vm).setTop g).pushFrame (.throwing q))
    rw [← hs₂]
    exact hsteps
end Payer
section Calls
variable {p : Program} {l : Launch} {e : Env} {R : Room} {s : State} {m : MethodId} {args : Array Value} {below : List Frame} {meth : Method} {c : Code} {T : State} {locs : List Loc} {cells slots : Nat}
theorem vx_callV (X : Stand p l e R s m args below meth c T locs cells slots) (hexec : p.tables.exec = Jvm.exec) {own C : String} {index : Nat} {y : MethodName} {bytes : ByteArray} {maxL : Nat} {ret : Option FieldType}
    (hown : s.vm.findClass own = some m.cls) (hlink : (Cond.methodLink own index y).before args s = true) (hinst : (Cond.instanceMethod y).before args s = true) (hsel : (Cond.selects C y y).before args s = true)
    (hcode : (Cond.code y bytes maxL ret).before args s = true) (hy : y.cls ≠ "java/lang/invoke/MethodHandle" ∧ y.cls ≠ "java/lang/invoke/VarHandle")
    {W9 : Nat} {Pre : Pt → Array Value → Prop} {Post : Pt → Array Value → Option Value → Pt → Prop} {PostX : Pt → Array Value → Addr → Pt → Prop} (hK : vx_Back l R p e below s args y 3 W9 Pre Post PostX)
    {b : Addr} {cellB : Cell} (hcell : T.heap[b]? = some cellB) (hobj : cellB.vm.isStatics = false) (hcls : s.vm.findClass C = some cellB.cls)
    {g : JFrame} (hg : g.method = m) (hsize : g.locals.size = c.maxLocals) {argsL rest : List Value} (hlen : ∀ sig, parseMethodDescriptor y.desc = some sig → argsL.length = sig.parameters.length)
    (hstack : g.stack = argsL.reverse ++ .ref b :: rest) (hW : 2 * g.monitorRoom + (rest.map fun v => v.category).sum ≤ W9) (hdg : decode c.code g.pc = .ok (.invokevirtual index, 3))
    (hpre : ∀ vm₁, s.WarmedH vm₁ → Pre ⟨T.setVm vm₁, locs, cells, slots⟩ (Value.ref b :: argsL).toArray) :
    (∃ (v : Option Value) (vm₁ : Vm) (B : Pt), s.WarmedH vm₁ ∧ Stand p l e R s m args below meth c B.U B.locs B.cells B.slots ∧ Post ⟨T.setVm vm₁, locs, cells, slots⟩ (Value.ref b :: argsL).toArray v B ∧
      ∀ target, Steps p.tables e below (B.U.setTop { g with pc := g.pc + 3, stack := v.toList ++ rest }) target → Steps p.tables e below (T.setTop g) target) ∨
    (∃ (q : Addr) (vm₁ : Vm) (B : Pt), s.WarmedH vm₁ ∧ Stand p l e R s m args below meth c B.U B.locs B.cells B.slots ∧ PostX ⟨T.setVm vm₁, locs, cells, slots⟩ (Value.ref b :: argsL).toArray q B ∧
      Steps p.tables e below (T.setTop g) ((B.U.setTop { g with stack := rest }).pushFrame (.throwing q))) := by
  obtain ⟨mk, methM, hnamed, hmethM, hstM, habM⟩ := Cond.instanceMethod_spec hinst
  obtain ⟨methM', cM, hmethM', -, -, -, -, -, -, hsigM⟩ := Cond.code_spec hnamed hcode
  cases hmethM.symm.trans hmethM'
  obtain ⟨c2, r2, m2, q1, q2, q3, q4, kP, hkP, hkPi⟩ := Cond.selects_spec hsel
  cases hcls.symm.trans q1
  cases (State.methodFound?_of_named hnamed hy).symm.trans q2
  cases hnamed.symm.trans q3
  have hselP : selectMethod e.platform s.vm cellB.cls mk = .method mk := by rw [Launch.admits_selectMethod X.admits]; exact q4
  obtain ⟨vm₁, X₁, hstep₁⟩ := X.invokevirtual hexec hown hlink hnamed hmethM hstM hkP hkPi hy (a := b) (cell := cellB) hcell
    (fun z h => by rw [h] at hobj; cases hobj) hselP hmethM habM hkP hkPi (g := g) hg (argsL := argsL) (rest := rest) (hlen _ hsigM) hstack hdg
  rcases hK m meth c ⟨T.setVm vm₁, locs, cells, slots⟩ { g with stack := rest } (.invokevirtual index) mk (Value.ref b :: argsL).toArray X₁ hg hsize hdg hW (X₁.named hnamed) (hpre vm₁ X₁.warmed) with ⟨v, B, X', hpost, hsteps⟩ | ⟨q, B, X', hpost, hsteps⟩
  · exact Or.inl ⟨v, vm₁, B, X₁.warmed, X', hpost, fun target h => hstep₁ _ fun acts => by rw [doInvoke_state]; exact hsteps.trans h⟩
  · exact Or.inr ⟨q, vm₁, B, X₁.warmed, X', hpost, hstep₁ _ fun acts => by rw [doInvoke_state]; exact hsteps⟩
theorem vx_callS (X : Stand p l e R s m args below meth c T locs cells slots) (hexec : p.tables.exec = Jvm.exec) {own : String} {index : Nat} {y : MethodName} {bytes : ByteArray} {maxL : Nat} {ret : Option FieldType}
    (hown : s.vm.findClass own = some m.cls) (hlink : (Cond.methodLink own index y).before args s = true) (hstat : (Cond.static y).before args s = true) (hinit : (Cond.initialized y.cls).before args s = true)
    (hcode : (Cond.code y bytes maxL ret).before args s = true) (hy : y.cls ≠ "java/lang/invoke/MethodHandle" ∧ y.cls ≠ "java/lang/invoke/VarHandle")
    {W9 : Nat} {Pre : Pt → Array Value → Prop} {Post : Pt → Array Value → Option Value → Pt → Prop} {PostX : Pt → Array Value → Addr → Pt → Prop} (hK : vx_Back l R p e below s args y 3 W9 Pre Post PostX)
    {g : JFrame} (hg : g.method = m) (hsize : g.locals.size = c.maxLocals) {argsL rest : List Value} (hlen : ∀ sig, parseMethodDescriptor y.desc = some sig → argsL.length = sig.parameters.length)
    (hstack : g.stack = argsL.reverse ++ rest) (hW : 2 * g.monitorRoom + (rest.map fun v => v.category).sum ≤ W9) (hdg : decode c.code g.pc = .ok (.invokestatic index, 3))
    (hpre : ∀ vm₁, s.WarmedH vm₁ → Pre ⟨T.setVm vm₁, locs, cells, slots⟩ argsL.toArray) :
    (∃ (v : Option Value) (vm₁ : Vm) (B : Pt), s.WarmedH vm₁ ∧ Stand p l e R s m args below meth c B.U B.locs B.cells B.slots ∧ Post ⟨T.setVm vm₁, locs, cells, slots⟩ argsL.toArray v B ∧
      ∀ target, Steps p.tables e below (B.U.setTop { g with pc := g.pc + 3, stack := v.toList ++ rest }) target → Steps p.tables e below (T.setTop g) target) ∨
    (∃ (q : Addr) (vm₁ : Vm) (B : Pt), s.WarmedH vm₁ ∧ Stand p l e R s m args below meth c B.U B.locs B.cells B.slots ∧ PostX ⟨T.setVm vm₁, locs, cells, slots⟩ argsL.toArray q B ∧
      Steps p.tables e below (T.setTop g) ((B.U.setTop { g with stack := rest }).pushFrame (.throwing q))) := by
  obtain ⟨mk, hnamed⟩ := Cond.code_named hcode
  obtain ⟨methM, cM, hmethM, -, -, -, -, -, -, hsigM⟩ := Cond.code_spec hnamed hcode
  have hstatic : methM.isStatic = true := Cond.static_spec hnamed hmethM hstat
  obtain ⟨kP, hkP, -⟩ := className_of_methodNamed hnamed
  have hinitP : kP.init = .initialized := Cond.initialized_spec (findClass_of_methodNamed hnamed) hkP hinit
  obtain ⟨vm₁, X₁, hstep₁⟩ := X.invokestatic hexec hown hlink hnamed hmethM hstatic hkP hinitP hy (g := g) hg (argsL := argsL) (rest := rest) (hlen _ hsigM) hstack hdg
  rcases hK m meth c ⟨T.setVm vm₁, locs, cells, slots⟩ { g with stack := rest } (.invokestatic index) mk argsL.toArray X₁ hg hsize hdg hW (X₁.named hnamed) (hpre vm₁ X₁.warmed) with ⟨v, B, X', hpost, hsteps⟩ | ⟨q, B, X', hpost, hsteps⟩
  · exact Or.inl ⟨v, vm₁, B, X₁.warmed, X', hpost, fun target h => hstep₁ _ fun acts => by rw [doInvoke_state]; exact hsteps.trans h⟩
  · exact Or.inr ⟨q, vm₁, B, X₁.warmed, X', hpost, hstep₁ _ fun acts => by rw [doInvoke_state]; exact hsteps⟩
end Calls
theorem vx_cls {s : State} {T : State} {vm₁ : Vm} {E : String} {k : ClassId} (hW : s.WarmedH vm₁) (h : (T.setVm vm₁).vm.findClass E = some k) : s.vm.findClass E = some k := by
  have h1 : vm₁.findClass E = some k := h
  rw [hW.alike.findClass] at h1
  exact h1
/-- the method's frame g, with q thrown over it -/
def vx_W (p : Program) (l : Launch) (e : Env) (R : Room) (s : State) (m : MethodId) (args : Array Value) (below : List Frame) (meth : Method) (c : Code) (H : Heap) (locs : List Loc) (cells slots : Nat) (Q : State → Prop) (g : JFrame) (q : Addr) : Prop :=
  ∀ T : State, T.heap = H → Stand p l e R s m args below meth c T locs cells slots → ∃ t, Steps p.tables e below ((T.setTop g).pushFrame (.throwing q)) t ∧ Q t
def vx_Run (p : Program) (l : Launch) (e : Env) (R : Room) (s : State) (m : MethodId) (args : Array Value) (below : List Frame) (meth : Method) (c : Code) (H : Heap) (locs : List Loc) (cells slots mc ms : Nat) (g : JFrame) (rest : List Value) (Qa : State → Outcome → State → Prop) (XC : String → State → State → Prop) (free : Addr → Prop) : Prop :=
  ∀ T : State, T.heap = H → Stand p l e R s m args below meth c T locs cells slots →
    (∃ (v : Option Value) (st₀ t T' : State) (L : List Loc), st₀.heap = H ∧ Stand p l e R s m args below meth c T' (locs ++ L) (cells + mc) (slots + ms) ∧ (∀ q ∈ L, free q.base) ∧ T'.heap = t.heap ∧ T'.vm = t.vm ∧ Qa st₀ (.returned v) t ∧
      Goes p e below T g T' { g with pc := g.pc + 3, stack := v.toList ++ rest }) ∨
    (∃ (q : Addr) (st₀ t T' : State) (L : List Loc) (E : String) (ce : Cell), st₀.heap = H ∧ Stand p l e R s m args below meth c T' (locs ++ L) (cells + mc) (slots + ms) ∧ (∀ z ∈ L, free z.base) ∧ T'.heap = t.heap ∧ T'.vm = t.vm ∧ XC E st₀ t ∧ t.heap[q]? = some ce ∧ ce.vm = .none ∧ s.vm.findClass E = some ce.cls ∧
      Steps p.tables e below (T.setTop g) ((T'.setTop { g with stack := rest }).pushFrame (.throwing q)))
def vx_X {S : Type} (px : S → Prop) (B : String → S → State → Prop) (A : Nat → Prop) : String → State → State → Prop := fun E st t => ∃ u : S, px u ∧ B E u t ∧ va_F A st t
section Runs
variable {p : Program} {l : Launch} {e : Env} {R : Room} {s : State} {m : MethodId} {args : Array Value} {below : List Frame} {meth : Method} {c : Code} {H : Heap} {locs : List Loc} {cells slots : Nat}
variable {y : MethodName} {bytes cc : ByteArray} {maxL nL mc ms n index : Nat} {ret : Option FieldType} {ws : List Cond} {rm : Room} {Pc : Array Value → State → Prop} {Qc : Array Value → State → Outcome → State → Prop} {XC : String → State → State → Prop} {free : Addr → Prop} {Ts : List Cond} {own C : String} {b : Addr} {As rest : List Value} {g : JFrame}
theorem vx_callBack (cb : CallB R s args own index y bytes maxL ret ws rm mc ms n) (hM : vx_Met l y ws rm Pc Qc XC mc ms free) (hbl : FrameBlind Pc) : vx_Back l R p e below s args y 3 8 (PreOf R mc ms Pc) (PostOf Qc mc ms free) (vx_Post XC mc ms free) := by
  obtain ⟨hrc, hrs, hfr, hlo, hws, hcw, -, hini, -⟩ := cb
  exact vx_back (bytes := bytes) (maxL := maxL) (ret := ret) hM hbl hrc hrs hfr hlo hws hcw (fun a' U hW => word_at hW (Or.inl (by first | rfl | simp [Cond.onTables, Cond.keeps, Cond.steady])) hini)
theorem vx_runV (S : CallFix p m c cc nL s args Ts own) (hM : vx_Met l y ws rm Pc Qc XC mc ms free) (cw : CallW R s args own C index y bytes maxL ret ws rm mc ms n) (hp : PreV s H C b Pc As)
    (hg : g.method = m) (hn : As.length = n) (hsize : g.locals.size = nL) (hstack : g.stack = As.reverse ++ .ref b :: rest) (hW : 2 * g.monitorRoom + (rest.map fun v => v.category).sum ≤ 8) (hdg : decode cc g.pc = .ok (.invokevirtual index, 3)) (hf : cells + mc ≤ R.cells ∧ slots + ms ≤ R.slots) :
    vx_Run p l e R s m args below meth c H locs cells slots mc ms g rest (Qc (Value.ref b :: As).toArray) XC free := by
  have hK : vx_Back l R p e below s args y 3 8 (PreOf R mc ms Pc) (PostOf Qc mc ms free) (vx_Post XC mc ms free) := vx_callBack cw.1 hM hp.1
  obtain ⟨⟨-, -, -, -, -, -, hcode, -, hy, hlen, hl⟩, hin, hse⟩ := cw
  obtain ⟨hx, hb, hml, ho, -⟩ := S
  obtain ⟨-, ⟨cellB, hcB, hoB, hclB⟩, hPc⟩ := hp
  intro T hT X
  rcases vx_callV X hx (C := C) (bytes := bytes) (maxL := maxL) (ret := ret) ho hl hin hse hcode hy hK (by rw [hT]; exact hcB) hoB hclB hg (hsize.trans hml.symm) (argsL := As) (rest := rest) (fun sig h => hn.trans (hlen sig h)) hstack hW (by rw [hb]; exact hdg)
    (fun vm₁ hW₁ => ⟨hf.1, hf.2, hPc (T.setVm vm₁) hT hW₁⟩) with ⟨v, vm₁, ⟨U', l2, c2, s2⟩, hW₁, X', ⟨g', mk, t, L, e1, e2, hq, h1, hL, h2, h3⟩, st⟩ | ⟨q, vm₁, ⟨U', l2, c2, s2⟩, hW₁, X', ⟨g', mk, t, L, E, ce, e1, e2, hq, hce, hcv, hcl, h1, hL, h2, h3⟩, st⟩
  · dsimp only [Pt.U, Pt.locs, Pt.cells, Pt.slots] at X' e1 e2 h1 h2 h3 st
    subst h1; subst h2; subst h3
    exact Or.inl ⟨v, (T.setVm vm₁).calling g' mk (Value.ref b :: As).toArray, t, U', L, hT, X', hL, e1, e2, hq, st⟩
  · dsimp only [Pt.U, Pt.locs, Pt.cells, Pt.slots] at X' e1 e2 h1 h2 h3 st hcl
    subst h1; subst h2; subst h3
    exact Or.inr ⟨q, (T.setVm vm₁).calling g' mk (Value.ref b :: As).toArray, t, U', L, E, ce, hT, X', hL, e1, e2, hq, hce, hcv, vx_cls hW₁ hcl, st⟩
theorem vx_runS (S : CallFix p m c cc nL s args Ts own) (hM : vx_Met l y ws rm Pc Qc XC mc ms free) (cw : CallB R s args own index y bytes maxL ret ws rm mc ms n ∧ (Cond.static y).before args s = true) (hp : PreS s H Pc As)
    (hg : g.method = m) (hn : As.length = n) (hsize : g.locals.size = nL) (hstack : g.stack = As.reverse ++ rest) (hW : 2 * g.monitorRoom + (rest.map fun v => v.category).sum ≤ 8) (hdg : decode cc g.pc = .ok (.invokestatic index, 3)) (hf : cells + mc ≤ R.cells ∧ slots + ms ≤ R.slots) :
    vx_Run p l e R s m args below meth c H locs cells slots mc ms g rest (Qc As.toArray) XC free := by
  have hK : vx_Back l R p e below s args y 3 8 (PreOf R mc ms Pc) (PostOf Qc mc ms free) (vx_Post XC mc ms free) := vx_callBack cw.1 hM hp.1
  obtain ⟨⟨-, -, -, -, -, -, hcode, hini, hy, hlen, hl⟩, hstt⟩ := cw
  obtain ⟨hx, hb, hml, ho, -⟩ := S
  intro T hT X
  rcases vx_callS X hx (bytes := bytes) (maxL := maxL) (ret := ret) ho hl hstt hini hcode hy hK hg (hsize.trans hml.symm) (argsL := As) (rest := rest) (fun sig h => hn.trans (hlen sig h)) hstack hW (by rw [hb]; exact hdg)
    (fun vm₁ hW₁ => ⟨hf.1, hf.2, hp.2 (T.setVm vm₁) hT hW₁⟩) with ⟨v, vm₁, ⟨U', l2, c2, s2⟩, hW₁, X', ⟨g', mk, t, L, e1, e2, hq, h1, hL, h2, h3⟩, st⟩ | ⟨q, vm₁, ⟨U', l2, c2, s2⟩, hW₁, X', ⟨g', mk, t, L, E, ce, e1, e2, hq, hce, hcv, hcl, h1, hL, h2, h3⟩, st⟩
  · dsimp only [Pt.U, Pt.locs, Pt.cells, Pt.slots] at X' e1 e2 h1 h2 h3 st
    subst h1; subst h2; subst h3
    exact Or.inl ⟨v, (T.setVm vm₁).calling g' mk As.toArray, t, U', L, hT, X', hL, e1, e2, hq, st⟩
  · dsimp only [Pt.U, Pt.locs, Pt.cells, Pt.slots] at X' e1 e2 h1 h2 h3 st hcl
    subst h1; subst h2; subst h3
    exact Or.inr ⟨q, (T.setVm vm₁).calling g' mk As.toArray, t, U', L, E, ce, hT, X', hL, e1, e2, hq, hce, hcv, vx_cls hW₁ hcl, st⟩
end Runs
section Rows
variable {p : Program} {l : Launch} {e : Env} {R : Room} {s : State} {m : MethodId} {args : Array Value} {below : List Frame} {meth : Method} {c : Code} {H : Heap} {locs : List Loc} {cells slots : Nat} {Q : State → Prop}
variable {mc ms : Nat} {free : Addr → Prop} {A0 A1 : Nat → Prop} {H0 : Heap} {a : Array Value} {pc : Nat} {ls : Array Slot} {st0 rest : List Value}
theorem vx_keep {st₀ t T' : State} {L : List Loc} (h0 : st₀.heap = H) (e1 : T'.heap = t.heap) (hS : va_S A0 H0 H locs) (hA : ∀ q, q < H.size → A1 q → A0 q) (hf : ∀ q, free q → A0 q) (hL : ∀ q ∈ L, free q.base) (hF : va_F A1 st₀ t) :
    H.size ≤ T'.heap.size ∧ (∀ q : Nat, q < H.size → ¬ A1 q → T'.heap[q]? = H[q]?) ∧ va_S A0 H0 T'.heap (locs ++ L) := by
  obtain ⟨hz, hk⟩ := hF
  rw [h0] at hz hk
  exact ⟨by rw [e1]; exact hz, fun q h1 h2 => by rw [e1]; exact hk q h1 h2,
    ⟨Nat.le_trans hS.1 (by rw [e1]; exact hz), fun q h1 h2 => by rw [e1, hk q (Nat.lt_of_lt_of_le h1 hS.1) (fun z => h2 (hA q (Nat.lt_of_lt_of_le h1 hS.1) z))]; exact hS.2.1 q h1 h2, fun q hq => by
      rcases List.mem_append.mp hq with h | h
      · exact hS.2.2 q h
      · exact hf _ (hL q h)⟩⟩
theorem vx_calli {S SX : Type} {post : Int32 → S → Prop} {px : SX → Prop} {B : S → State → Prop} {BX : String → SX → State → Prop} {AX : Nat → Prop} (hr : vx_Run p l e R s m args below meth c H locs cells slots mc ms (F0 m pc ls st0) rest (va_Qi post B A1 a) (vx_X px BX AX) free) (hS : va_S A0 H0 H locs) (hA : ∀ q, q < H.size → A1 q → A0 q) (hf : ∀ q, free q → A0 q) (hAX : ∀ q, q < H.size → AX q → A0 q)
    (kx : ∀ (E : String) (ce : Cell) (q9 : Addr) (u : SX) (t : State) (H1 : Heap) (locs1 : List Loc), t.heap = H1 → s.vm.Alike t.vm → px u → BX E u t → H.size ≤ H1.size → (∀ q : Nat, q < H.size → ¬ AX q → H1[q]? = H[q]?) → va_S A0 H0 H1 locs1 → H1[q9]? = some ce → ce.vm = .none → s.vm.findClass E = some ce.cls → vx_W p l e R s m args below meth c H1 locs1 (cells + mc) (slots + ms) Q (F0 m pc ls rest) q9)
    (kk : ∀ (r : Int32) (u : S) (t : State) (H1 : Heap) (locs1 : List Loc), t.heap = H1 → s.vm.Alike t.vm → post r u → B u t → H.size ≤ H1.size → (∀ q : Nat, q < H.size → ¬ A1 q → H1[q]? = H[q]?) → va_S A0 H0 H1 locs1 → W p l e R s m args below meth c H1 locs1 (cells + mc) (slots + ms) Q (F0 m (pc + 3) ls (.int r :: rest))) : W p l e R s m args below meth c H locs cells slots Q (F0 m pc ls st0) := by
  intro T hT X
  rcases hr T hT X with ⟨v, st₀, t, T', L, h0, X', hL, e1, e2, ⟨⟨r, u, hv, hp, hb⟩, hF⟩, st⟩ | ⟨q, st₀, t, T', L, E, ce, h0, X', hL, e1, e2, ⟨u, hp, hb, hF⟩, hce, hcv, hcl, st⟩
  · cases hv
    obtain ⟨k1, k2, k3⟩ := vx_keep h0 e1 hS hA hf hL hF
    obtain ⟨t2, a1, b1⟩ := kk r u t T'.heap (locs ++ L) e1.symm (by rw [← e2]; exact X'.warmed.alike) hp hb k1 k2 k3 T' rfl X'
    exact ⟨t2, st t2 a1, b1⟩
  · obtain ⟨k1, k2, k3⟩ := vx_keep h0 e1 hS hAX hf hL hF
    obtain ⟨t2, a1, b1⟩ := kx E ce q u t T'.heap (locs ++ L) e1.symm (by rw [← e2]; exact X'.warmed.alike) hp hb k1 k2 k3 (by rw [e1]; exact hce) hcv hcl T' rfl X'
    exact ⟨t2, st.trans a1, b1⟩
theorem vx_calll {S SX : Type} {post : Int64 → S → Prop} {px : SX → Prop} {B : S → State → Prop} {BX : String → SX → State → Prop} {AX : Nat → Prop} (hr : vx_Run p l e R s m args below meth c H locs cells slots mc ms (F0 m pc ls st0) rest (va_Ql post B A1 a) (vx_X px BX AX) free) (hS : va_S A0 H0 H locs) (hA : ∀ q, q < H.size → A1 q → A0 q) (hf : ∀ q, free q → A0 q) (hAX : ∀ q, q < H.size → AX q → A0 q)
    (kx : ∀ (E : String) (ce : Cell) (q9 : Addr) (u : SX) (t : State) (H1 : Heap) (locs1 : List Loc), t.heap = H1 → s.vm.Alike t.vm → px u → BX E u t → H.size ≤ H1.size → (∀ q : Nat, q < H.size → ¬ AX q → H1[q]? = H[q]?) → va_S A0 H0 H1 locs1 → H1[q9]? = some ce → ce.vm = .none → s.vm.findClass E = some ce.cls → vx_W p l e R s m args below meth c H1 locs1 (cells + mc) (slots + ms) Q (F0 m pc ls rest) q9)
    (kk : ∀ (r : Int64) (u : S) (t : State) (H1 : Heap) (locs1 : List Loc), t.heap = H1 → s.vm.Alike t.vm → post r u → B u t → H.size ≤ H1.size → (∀ q : Nat, q < H.size → ¬ A1 q → H1[q]? = H[q]?) → va_S A0 H0 H1 locs1 → W p l e R s m args below meth c H1 locs1 (cells + mc) (slots + ms) Q (F0 m (pc + 3) ls (.long r :: rest))) : W p l e R s m args below meth c H locs cells slots Q (F0 m pc ls st0) := by
  intro T hT X
  rcases hr T hT X with ⟨v, st₀, t, T', L, h0, X', hL, e1, e2, ⟨⟨r, u, hv, hp, hb⟩, hF⟩, st⟩ | ⟨q, st₀, t, T', L, E, ce, h0, X', hL, e1, e2, ⟨u, hp, hb, hF⟩, hce, hcv, hcl, st⟩
  · cases hv
    obtain ⟨k1, k2, k3⟩ := vx_keep h0 e1 hS hA hf hL hF
    obtain ⟨t2, a1, b1⟩ := kk r u t T'.heap (locs ++ L) e1.symm (by rw [← e2]; exact X'.warmed.alike) hp hb k1 k2 k3 T' rfl X'
    exact ⟨t2, st t2 a1, b1⟩
  · obtain ⟨k1, k2, k3⟩ := vx_keep h0 e1 hS hAX hf hL hF
    obtain ⟨t2, a1, b1⟩ := kx E ce q u t T'.heap (locs ++ L) e1.symm (by rw [← e2]; exact X'.warmed.alike) hp hb k1 k2 k3 (by rw [e1]; exact hce) hcv hcl T' rfl X'
    exact ⟨t2, st.trans a1, b1⟩
theorem vx_callf {S SX : Type} {post : UInt32 → S → Prop} {px : SX → Prop} {B : S → State → Prop} {BX : String → SX → State → Prop} {AX : Nat → Prop} (hr : vx_Run p l e R s m args below meth c H locs cells slots mc ms (F0 m pc ls st0) rest (va_Qf post B A1 a) (vx_X px BX AX) free) (hS : va_S A0 H0 H locs) (hA : ∀ q, q < H.size → A1 q → A0 q) (hf : ∀ q, free q → A0 q) (hAX : ∀ q, q < H.size → AX q → A0 q)
    (kx : ∀ (E : String) (ce : Cell) (q9 : Addr) (u : SX) (t : State) (H1 : Heap) (locs1 : List Loc), t.heap = H1 → s.vm.Alike t.vm → px u → BX E u t → H.size ≤ H1.size → (∀ q : Nat, q < H.size → ¬ AX q → H1[q]? = H[q]?) → va_S A0 H0 H1 locs1 → H1[q9]? = some ce → ce.vm = .none → s.vm.findClass E = some ce.cls → vx_W p l e R s m args below meth c H1 locs1 (cells + mc) (slots + ms) Q (F0 m pc ls rest) q9)
    (kk : ∀ (r : UInt32) (u : S) (t : State) (H1 : Heap) (locs1 : List Loc), t.heap = H1 → s.vm.Alike t.vm → post r u → B u t → H.size ≤ H1.size → (∀ q : Nat, q < H.size → ¬ A1 q → H1[q]? = H[q]?) → va_S A0 H0 H1 locs1 → W p l e R s m args below meth c H1 locs1 (cells + mc) (slots + ms) Q (F0 m (pc + 3) ls (.float r :: rest))) : W p l e R s m args below meth c H locs cells slots Q (F0 m pc ls st0) := by
  intro T hT X
  rcases hr T hT X with ⟨v, st₀, t, T', L, h0, X', hL, e1, e2, ⟨⟨r, u, hv, hp, hb⟩, hF⟩, st⟩ | ⟨q, st₀, t, T', L, E, ce, h0, X', hL, e1, e2, ⟨u, hp, hb, hF⟩, hce, hcv, hcl, st⟩
  · cases hv
    obtain ⟨k1, k2, k3⟩ := vx_keep h0 e1 hS hA hf hL hF
    obtain ⟨t2, a1, b1⟩ := kk r u t T'.heap (locs ++ L) e1.symm (by rw [← e2]; exact X'.warmed.alike) hp hb k1 k2 k3 T' rfl X'
    exact ⟨t2, st t2 a1, b1⟩
  · obtain ⟨k1, k2, k3⟩ := vx_keep h0 e1 hS hAX hf hL hF
    obtain ⟨t2, a1, b1⟩ := kx E ce q u t T'.heap (locs ++ L) e1.symm (by rw [← e2]; exact X'.warmed.alike) hp hb k1 k2 k3 (by rw [e1]; exact hce) hcv hcl T' rfl X'
    exact ⟨t2, st.trans a1, b1⟩
theorem vx_calld {S SX : Type} {post : UInt64 → S → Prop} {px : SX → Prop} {B : S → State → Prop} {BX : String → SX → State → Prop} {AX : Nat → Prop} (hr : vx_Run p l e R s m args below meth c H locs cells slots mc ms (F0 m pc ls st0) rest (va_Qd post B A1 a) (vx_X px BX AX) free) (hS : va_S A0 H0 H locs) (hA : ∀ q, q < H.size → A1 q → A0 q) (hf : ∀ q, free q → A0 q) (hAX : ∀ q, q < H.size → AX q → A0 q)
    (kx : ∀ (E : String) (ce : Cell) (q9 : Addr) (u : SX) (t : State) (H1 : Heap) (locs1 : List Loc), t.heap = H1 → s.vm.Alike t.vm → px u → BX E u t → H.size ≤ H1.size → (∀ q : Nat, q < H.size → ¬ AX q → H1[q]? = H[q]?) → va_S A0 H0 H1 locs1 → H1[q9]? = some ce → ce.vm = .none → s.vm.findClass E = some ce.cls → vx_W p l e R s m args below meth c H1 locs1 (cells + mc) (slots + ms) Q (F0 m pc ls rest) q9)
    (kk : ∀ (r : UInt64) (u : S) (t : State) (H1 : Heap) (locs1 : List Loc), t.heap = H1 → s.vm.Alike t.vm → post r u → B u t → H.size ≤ H1.size → (∀ q : Nat, q < H.size → ¬ A1 q → H1[q]? = H[q]?) → va_S A0 H0 H1 locs1 → W p l e R s m args below meth c H1 locs1 (cells + mc) (slots + ms) Q (F0 m (pc + 3) ls (.double r :: rest))) : W p l e R s m args below meth c H locs cells slots Q (F0 m pc ls st0) := by
  intro T hT X
  rcases hr T hT X with ⟨v, st₀, t, T', L, h0, X', hL, e1, e2, ⟨⟨r, u, hv, hp, hb⟩, hF⟩, st⟩ | ⟨q, st₀, t, T', L, E, ce, h0, X', hL, e1, e2, ⟨u, hp, hb, hF⟩, hce, hcv, hcl, st⟩
  · cases hv
    obtain ⟨k1, k2, k3⟩ := vx_keep h0 e1 hS hA hf hL hF
    obtain ⟨t2, a1, b1⟩ := kk r u t T'.heap (locs ++ L) e1.symm (by rw [← e2]; exact X'.warmed.alike) hp hb k1 k2 k3 T' rfl X'
    exact ⟨t2, st t2 a1, b1⟩
  · obtain ⟨k1, k2, k3⟩ := vx_keep h0 e1 hS hAX hf hL hF
    obtain ⟨t2, a1, b1⟩ := kx E ce q u t T'.heap (locs ++ L) e1.symm (by rw [← e2]; exact X'.warmed.alike) hp hb k1 k2 k3 (by rw [e1]; exact hce) hcv hcl T' rfl X'
    exact ⟨t2, st.trans a1, b1⟩
theorem vx_callv {S SX : Type} {post : S → Prop} {px : SX → Prop} {B : S → State → Prop} {BX : String → SX → State → Prop} {AX : Nat → Prop} (hr : vx_Run p l e R s m args below meth c H locs cells slots mc ms (F0 m pc ls st0) rest (va_Qv post B A1 a) (vx_X px BX AX) free) (hS : va_S A0 H0 H locs) (hA : ∀ q, q < H.size → A1 q → A0 q) (hf : ∀ q, free q → A0 q) (hAX : ∀ q, q < H.size → AX q → A0 q)
    (kx : ∀ (E : String) (ce : Cell) (q9 : Addr) (u : SX) (t : State) (H1 : Heap) (locs1 : List Loc), t.heap = H1 → s.vm.Alike t.vm → px u → BX E u t → H.size ≤ H1.size → (∀ q : Nat, q < H.size → ¬ AX q → H1[q]? = H[q]?) → va_S A0 H0 H1 locs1 → H1[q9]? = some ce → ce.vm = .none → s.vm.findClass E = some ce.cls → vx_W p l e R s m args below meth c H1 locs1 (cells + mc) (slots + ms) Q (F0 m pc ls rest) q9)
    (kk : ∀ (u : S) (t : State) (H1 : Heap) (locs1 : List Loc), t.heap = H1 → s.vm.Alike t.vm → post u → B u t → H.size ≤ H1.size → (∀ q : Nat, q < H.size → ¬ A1 q → H1[q]? = H[q]?) → va_S A0 H0 H1 locs1 → W p l e R s m args below meth c H1 locs1 (cells + mc) (slots + ms) Q (F0 m (pc + 3) ls (rest))) : W p l e R s m args below meth c H locs cells slots Q (F0 m pc ls st0) := by
  intro T hT X
  rcases hr T hT X with ⟨v, st₀, t, T', L, h0, X', hL, e1, e2, ⟨⟨u, hv, hp, hb⟩, hF⟩, st⟩ | ⟨q, st₀, t, T', L, E, ce, h0, X', hL, e1, e2, ⟨u, hp, hb, hF⟩, hce, hcv, hcl, st⟩
  · cases hv
    obtain ⟨k1, k2, k3⟩ := vx_keep h0 e1 hS hA hf hL hF
    obtain ⟨t2, a1, b1⟩ := kk u t T'.heap (locs ++ L) e1.symm (by rw [← e2]; exact X'.warmed.alike) hp hb k1 k2 k3 T' rfl X'
    exact ⟨t2, st t2 a1, b1⟩
  · obtain ⟨k1, k2, k3⟩ := vx_keep h0 e1 hS hAX hf hL hF
    obtain ⟨t2, a1, b1⟩ := kx E ce q u t T'.heap (locs ++ L) e1.symm (by rw [← e2]; exact X'.warmed.alike) hp hb k1 k2 k3 (by rw [e1]; exact hce) hcv hcl T' rfl X'
    exact ⟨t2, st.trans a1, b1⟩
/-- caught by the row x of this method's table; the rows ahead don't take it -/
theorem vx_catch {own name : String} {E : String} {ce : Cell} {q : Addr} (hown : s.vm.findClass own = some m.cls) (pre : List ExceptionTableEntry) (x : ExceptionTableEntry) (suf : List ExceptionTableEntry) (hsplit : c.exceptionTable.toList = pre ++ x :: suf)
    (hpass : ∀ z ∈ pre, covers z pc = false ∨ (z.catchType ≠ 0 ∧ ∃ nm : String, (Cond.classLink own z.catchType nm).before args s = true ∧ va_Nc E nm s)) (hx : covers x pc = true) (h0 : x.catchType ≠ 0)
    (hlink : (Cond.classLink own x.catchType name).before args s = true) (hcast : (Cond.castable E name).before args s = true) (hcell : H[q]? = some ce) (hv : ce.vm = .none) (hcl : s.vm.findClass E = some ce.cls)
    (kk : W p l e R s m args below meth c H locs cells slots Q (F0 m x.handlerPc ls [.ref q])) : vx_W p l e R s m args below meth c H locs cells slots Q (F0 m pc ls rest) q := by
  intro T hT X
  have hpl : e.platform.magicAccessors = ({} : Platform).magicAccessors := by rw [X.admits.platform]
  obtain ⟨c3, c4, hc3, hc4, hasg⟩ := Cond.castable_spec hcast
  cases Option.some.inj (hc3.symm.trans hcl)
  obtain ⟨c5, hc5, hcl5⟩ := Cond.classLink_spec hown hlink e.platform hpl
  cases Option.some.inj (hc4.symm.trans hc5)
  obtain ⟨vm', X', st⟩ := X.thenCaughtThrough q (g := F0 m pc ls rest) rfl (Steps.refl _) (by rw [hT]; exact hcell) (by rw [hv]; rfl) (by obtain ⟨k9, h9, -⟩ := Vm.findClass_spec hcl; exact ⟨k9, h9⟩) pre x suf hsplit
    (fun z hz => by
      rcases hpass z hz with h | ⟨hz0, nm, hl1, hn1⟩
      · exact Or.inl h
      · obtain ⟨c6, hc6, hcl6⟩ := Cond.classLink_spec hown hl1 e.platform hpl
        obtain ⟨a8, b8, h1, h2, h3⟩ := hn1
        cases Option.some.inj (h1.symm.trans hcl)
        cases Option.some.inj (h2.symm.trans hc6)
        exact Or.inr ⟨hz0, _, hcl6, h3⟩) hx (Or.inr ⟨h0, c4, hcl5, hasg⟩)
  obtain ⟨t, a1, b1⟩ := kk (T.setVm vm') hT X'
  exact ⟨t, st.trans a1, b1⟩
end Rows
section Ends
variable {p : Program} {l : Launch} {e : Env} {R : Room} {s : State} {m : MethodId} {args : Array Value} {below : List Frame} {meth : Method} {c : Code} {H : Heap} {locs : List Loc} {cells slots : Nat} {Q : State → Prop}
variable {mc ms : Nat} {free : Addr → Prop} {A0 A1 : Nat → Prop} {H0 : Heap} {a : Array Value} {ls : Array Slot} {st0 rest : List Value}
variable {Qc : Array Value → State → Outcome → State → Prop} {XC : String → State → State → Prop}
/-- what a body that may throw owes at its end -/
def vx_MQ (below : List Frame) (Qc : Array Value → State → Outcome → State → Prop) (XC : String → State → State → Prop) (a : Array Value) (s : State) (mc ms : Nat) (free : Addr → Prop) : State → Prop := fun t =>
  ∃ o, t.status = .running ∧ Ended t below o ∧ vx_Q Qc XC mc ms free a s o t
theorem vx_ret {g : JFrame} {mc ms : Nat} (k : W p l e R s m args below meth c H locs cells slots (MQ below Qc args s mc ms free) g) : W p l e R s m args below meth c H locs cells slots (vx_MQ below Qc XC args s mc ms free) g := by
  intro T hT X
  obtain ⟨t, a1, o, b1, b2, b3, b4⟩ := k T hT X
  exact ⟨t, a1, o, b1, b2, Or.inl ⟨b3, b4⟩⟩
/-- not caught here: it goes on to the caller -/
theorem vx_widen {g : JFrame} {q : Addr} {k n : Nat} (h1 : cells ≤ k) (h2 : slots ≤ n) (kk : vx_W p l e R s m args below meth c H locs k n Q g q) : vx_W p l e R s m args below meth c H locs cells slots Q g q := fun T hT X => kk T hT (stand_widen X h1 h2)
theorem vx_out {pc : Nat} {E : String} {ce : Cell} {q : Addr} {mc ms : Nat} (hout : ∀ x ∈ c.exceptionTable.toList, covers x pc = false) (hlocks : meth.locks = false) (hcell : H[q]? = some ce) (hv : ce.vm = .none) (hcl : s.vm.findClass E = some ce.cls)
    (hx : ∀ t : State, t.heap = H → s.vm.Alike t.vm → XC E s t) (hf : ∀ z ∈ locs, free z.base) (hc : cells ≤ mc) (hs : slots ≤ ms) :
    vx_W p l e R s m args below meth c H locs cells slots (vx_MQ below Qc XC args s mc ms free) (F0 m pc ls rest) q := by
  intro T hT X
  obtain ⟨st1, hrun, hend, hW, hsm⟩ := X.leaveThrown q (g := F0 m pc ls rest) rfl rfl rfl hout hlocks
  have hcell9 : (T.setFrames (.throwing q :: below)).heap[q]? = some ce := by
    show T.heap[q]? = some ce
    rw [hT]; exact hcell
  exact ⟨_, st1, .threw q, hrun, hend, Or.inr ⟨q, rfl, E, ce, locs, hx _ hT hW.alike, hcell9, hv, hcl, hW, hsm.mono hc hs, hf⟩⟩
theorem vx_frame {U : State} {k n : Nat} (h : s.sameButNew ({ U with vm := s.vm } : State) locs k n) : s.heap.size ≤ U.heap.size ∧ ∀ q : Nat, q < s.heap.size → (∀ z ∈ locs, z.base ≠ q) → U.heap[q]? = s.heap[q]? := by
  obtain ⟨-, h2, -, -, -, h6⟩ := h
  refine ⟨h2, fun q hq hz => ?_⟩
  obtain ⟨c9, e1, e2, e3, e4⟩ := h6 q _ (Array.getElem?_eq_getElem hq)
  have hs : c9.slots = (s.heap[q]).slots := Array.ext_getElem? fun i => e4 i fun hm => hz _ hm rfl
  have h9 : c9 = s.heap[q] := by
    rw [hs] at e2
    exact e2
  have e5 : U.heap[q]? = some c9 := e1
  rw [e5, h9, Array.getElem?_eq_getElem hq]
/-- the words of a throw but the four that speak of the heap -/
def vx_no (w : Cond) : Bool := decide (w ≠ .isRef (.static Bundle.tN "UNASSIGNED_STACK" Bundle.steD)) && decide (w ≠ .isRef (.static Bundle.tN "SUPPRESSED_SENTINEL" Bundle.listD)) && decide (w ≠ .laysStatic Bundle.tN "UNASSIGNED_STACK" Bundle.steD) && decide (w ≠ .laysStatic Bundle.tN "SUPPRESSED_SENTINEL" Bundle.listD)
def vx_at0 (own : String) (ic : Nat) (X : String) (names : List String) : List Cond := (Bundle.ownAtoms0 own ic X names).filter vx_no
def vx_atS (own : String) (ic : Nat) (X : String) (names : List String) : List Cond := (Bundle.ownAtoms own ic X names).filter vx_no
/-- a word that the tables alone decide, or a good one -/
def vx_ot (w : Cond) : Bool := w.onTables || goodWord w
theorem vx_ot_at {args a' : Array Value} {s U : State} {w : Cond} (hW : s.WarmedH U.vm) (hvm : s.vm = U.vm) (hg : vx_ot w = true) (h : w.before args s = true) : w.before a' U = true := by
  simp only [vx_ot, Bool.or_eq_true] at hg
  rcases hg with hg | hg
  · exact va_tabs hg hvm h
  · exact word_at hW (good_of_word hg) h
/-- a list's words: the good ones out of the method's own list, the others by premises of their own -/
theorem vx_hat {args : Array Value} {s : State} {L B : List Cond} (h1 : ∀ w ∈ L.filter goodWord, w.before args s = true) (h2 : ∀ w ∈ L.filter (fun w => !goodWord w), w ∈ B) (h3 : ∀ w ∈ B, w.before args s = true) : ∀ w ∈ L, w.before args s = true := by
  intro w hw
  by_cases g : goodWord w = true
  · exact h1 w (List.mem_filter.mpr ⟨hw, g⟩)
  · refine h3 w (h2 w (List.mem_filter.mpr ⟨hw, ?_⟩))
    show (!goodWord w) = true
    cases hgw : goodWord w
    · rfl
    · exact absurd hgw g
theorem vx_c {args : Array Value} {s : State} {w : Cond} {B : List Cond} (h : w.before args s = true) (t : ∀ w ∈ B, w.before args s = true) : ∀ w' ∈ w :: B, w'.before args s = true := fun w' h' => (List.mem_cons.mp h').elim (fun e => by rw [e]; exact h) (t w')
theorem vx_n {args : Array Value} {s : State} : ∀ w ∈ ([] : List Cond), w.before args s = true := fun _ h => nomatch h
theorem vx_own {args : Array Value} {s : State} {L : List Cond} (h1 : ∀ w ∈ L.filter vx_no, w.before args s = true)
    (hU : (Cond.isRef (.static Bundle.tN "UNASSIGNED_STACK" Bundle.steD)).before args s = true) (hN : (Cond.isRef (.static Bundle.tN "SUPPRESSED_SENTINEL" Bundle.listD)).before args s = true)
    (lU : (Cond.laysStatic Bundle.tN "UNASSIGNED_STACK" Bundle.steD).before args s = true) (lN : (Cond.laysStatic Bundle.tN "SUPPRESSED_SENTINEL" Bundle.listD).before args s = true) : ∀ w ∈ L, w.before args s = true := by
  intro w hw
  by_cases e1 : w = .isRef (.static Bundle.tN "UNASSIGNED_STACK" Bundle.steD)
  · rw [e1]; exact hU
  · by_cases e2 : w = .isRef (.static Bundle.tN "SUPPRESSED_SENTINEL" Bundle.listD)
    · rw [e2]; exact hN
    · by_cases e3 : w = .laysStatic Bundle.tN "UNASSIGNED_STACK" Bundle.steD
      · rw [e3]; exact lU
      · by_cases e4 : w = .laysStatic Bundle.tN "SUPPRESSED_SENTINEL" Bundle.listD
        · rw [e4]; exact lN
        · exact h1 w (List.mem_filter.mpr ⟨hw, by unfold vx_no; rw [decide_eq_true e1, decide_eq_true e2, decide_eq_true e3, decide_eq_true e4]; rfl⟩)
/-- where a static field lies, its class's statics cell in H -/
def vx_L (C n d : String) (A : Nat → Prop) (U : State) (H : Heap) : Prop := ∃ (c : ClassId) (k : Class) (i : Nat) (f : Field) (a : Nat) (cell : Cell), U.vm.findClass C = some c ∧ U.fieldFound? C n d = some (c, k, i, f) ∧ f.isStatic = true ∧ k.statics = some a ∧ H[a]? = some cell ∧ cell.vm.isStatics = true ∧ cell.cls = c ∧ f.slot < cell.slots.size ∧ k.staticTypes[f.slot]? = some f.type ∧ ¬ A a
theorem vx_L.moved {C n d : String} {A : Nat → Prop} {u U : State} {H : Heap} (hvm : u.vm.Alike U.vm) (h : vx_L C n d A u H) : vx_L C n d A U H := by
  obtain ⟨c, k, i, f, a, cell, h1, h2, h3, h4, h5, h6, h7, h8, h9, h10⟩ := h
  obtain ⟨k', hi', he⟩ := State.fieldFound?_setVm hvm h2
  exact ⟨c, k', i, f, a, cell, by rw [hvm.findClass]; exact h1, hi', h3, by rw [he]; exact h4, h5, h6, h7, h8, by rw [he]; exact h9, h10⟩
theorem vx_L.kept {C n d : String} {A : Nat → Prop} {U : State} {H H1 : Heap} (h : vx_L C n d A U H) (hq : ∀ a : Nat, a < H.size → ¬ A a → H1[a]? = H[a]?) : vx_L C n d A U H1 := by
  obtain ⟨c, k, i, f, a, cell, h1, h2, h3, h4, h5, h6, h7, h8, h9, h10⟩ := h
  exact ⟨c, k, i, f, a, cell, h1, h2, h3, h4, by rw [hq a (Array.getElem?_eq_some_iff.mp h5).1 h10]; exact h5, h6, h7, h8, h9, h10⟩
theorem vx_L.narrow {C n d : String} {A B : Nat → Prop} {U : State} {H : Heap} (h : vx_L C n d A U H) (hAB : ∀ q, B q → A q) : vx_L C n d B U H := by
  obtain ⟨c, k, i, f, a, cell, h1, h2, h3, h4, h5, h6, h7, h8, h9, h10⟩ := h
  exact ⟨c, k, i, f, a, cell, h1, h2, h3, h4, h5, h6, h7, h8, h9, fun z => h10 (hAB _ z)⟩
theorem vx_L.word {C n d : String} {A : Nat → Prop} {s : State} {args : Array Value} (h : vx_L C n d A s s.heap) : (Cond.laysStatic C n d).before args s = true := by
  obtain ⟨c, k, i, f, a, cell, h1, h2, h3, h4, h5, h6, h7, h8, h9, -⟩ := h
  show (Cond.laysStatic C n d).holds args s none s [] = true
  exact Cond.laysStatic_of h1 h2 h3 h4 h5 h6 h7 h8 h9
/-- .. and what it holds: null or some reference -/
def vx_Zq (C n d : String) (A : Nat → Prop) (U : State) (H : Heap) : Prop := va_Zq C n d A U H ∧ vx_L C n d A U H
theorem vx_Zq.moved {C n d : String} {A : Nat → Prop} {u U : State} {H : Heap} (hvm : u.vm.Alike U.vm) (h : vx_Zq C n d A u H) : vx_Zq C n d A U H := ⟨va_Zq.moved hvm h.1, vx_L.moved hvm h.2⟩
theorem vx_Zq.kept {C n d : String} {A : Nat → Prop} {U : State} {H H1 : Heap} (h : vx_Zq C n d A U H) (hq : ∀ a : Nat, a < H.size → ¬ A a → H1[a]? = H[a]?) : vx_Zq C n d A U H1 := ⟨va_Zq.kept h.1 hq, vx_L.kept h.2 hq⟩
theorem vx_Zq.narrow {C n d : String} {A B : Nat → Prop} {U : State} {H : Heap} (h : vx_Zq C n d A U H) (hAB : ∀ q, B q → A q) : vx_Zq C n d B U H := ⟨va_Zq.narrow h.1 hAB, vx_L.narrow h.2 hAB⟩
theorem vx_Zqof {args : Array Value} {s : State} {C n d : String} {A : Nat → Prop} (hl : (Cond.laysStatic C n d).before args s = true) (hini : (Cond.initialized C).before args s = true) (h : (Cond.isRef (.static C n d)).before args s = true) (hA : ∀ a : Nat, a < s.heap.size → ¬ A a) : vx_Zq C n d A s s.heap := by
  refine ⟨va_Zqof hl hini h hA, ?_⟩
  obtain ⟨c, k, i, f, a, cell, h1, h2, h3, h4, h5, h6, h7, h8, h9⟩ := Cond.laysStatic_spec hl
  exact ⟨c, k, i, f, a, cell, h1, h2, h3, h4, h5, h6, h7, h8, h9, hA a (Array.getElem?_eq_some_iff.mp h5).1⟩
theorem vx_isRef {C n d : String} {v : Value} {A : Nat → Prop} {s : State} {args : Array Value} (h : va_Z C n d v A s s.heap) (hv : v.isRef = true) : (Cond.isRef (.static C n d)).before args s = true := by
  obtain ⟨cf, kf, fi, f, a, cell, h1, h2, h3, h4, h5, h6, h7, -⟩ := h
  have he : (Term.static C n d).eval args s none [] s = some v := by
    simp [Term.eval, State.fieldNamed?, h1, h2, h4, h5, h6, h7]
  simp only [Cond.before, Cond.holds, Cond.value, he]
  cases v <;> simp_all [Value.isRef]
theorem vx_isRefq {C n d : String} {A : Nat → Prop} {s : State} {args : Array Value} (h : va_Zq C n d A s s.heap) : (Cond.isRef (.static C n d)).before args s = true := by
  rcases h with h | ⟨t, h⟩
  · exact vx_isRef h rfl
  · exact vx_isRef h rfl
/-- the same frame, seen from here: as if the method were called anew in this heap -/
theorem vx_rebase {T : State} (X : Stand p l e R s m args below meth c T locs cells slots) {R' : Room} (hf : R'.frames ≤ R.frames) (hl : R'.locals ≤ R.locals) (hc : cells + R'.cells ≤ R.cells) (hs : slots + R'.slots ≤ R.slots) :
    Stand p l e R' ((T.setVm s.vm).setFrames (.invoking m args :: below)) m args below meth c T [] 0 0 := by
  have htop : (T.setVm s.vm).topJava?.isSome := X.here.top
  have hF : ((T.setVm s.vm).setFrames (.invoking m args :: below)).frames = .invoking m args :: below := State.frames_setFrames _ (State.cur_lt_of_top htop)
  obtain ⟨g₀, hg0⟩ := Option.isSome_iff_exists.mp htop
  obtain ⟨r, hr⟩ := State.topJava?_eq_some.mp hg0
  have hl9 : e.platform.stackLimits (T.setVm s.vm).me = e.platform.stackLimits s.me := X.limits
  have hb9 : (T.setVm s.vm).me.stackBytes = s.me.stackBytes := X.bytes
  refine ⟨X.admits, X.cas, X.clock, hF, ?_, X.hears, X.method, X.code, X.here, X.tail, X.warmed, ?_, ?_, ?_⟩
  · have h := X.room
    have hU : ((T.setVm s.vm).setFrames (.invoking m args :: below)).localsInUse = s.localsInUse := by
      rw [State.localsInUse_invoking hF (meth := meth) (c := c) X.method X.code, State.localsInUse_invoking X.frames X.method X.code]
    simp only [State.hasRoom, Bool.and_eq_true, decide_eq_true_eq] at h ⊢
    obtain ⟨⟨⟨⟨h1, h2, h3, h4, h5, h6⟩, h7⟩, h8⟩, h9⟩ := h
    rw [X.frames, List.length_cons] at h2 h3
    have q1 := X.heapSize
    have q2 := X.used
    simp only [hF, hU, List.length_cons, State.stackLimits_setFrames, State.stackBytes_setFrames, hl9, hb9]
    refine ⟨⟨⟨⟨by omega, by omega, by omega, by omega, by omega, h6⟩, ?_⟩, ?_⟩, X.book⟩
    · show T.heap.size + R'.cells ≤ e.platform.maxCells
      omega
    · show T.slotsUsed + R'.slots ≤ e.platform.maxSlots
      omega
  · rw [State.stackLimits_setFrames]; rfl
  · rw [State.stackBytes_setFrames]; rfl
  · refine ⟨?_, Nat.le_refl _, Nat.le_refl _, ?_, ?_, fun a c9 h9 => ⟨c9, h9, rfl, rfl, fun _ _ => rfl⟩⟩
    · obtain ⟨t, ht, -⟩ := State.frames_cons hr
      show T.setVm s.vm = { ((T.setVm s.vm).setFrames (.invoking m args :: below)).setFrames (T.setVm s.vm).frames with heap := T.heap, slotsUsed := T.slotsUsed }
      rw [State.setFrames_setFrames, State.setFrames_self ht]
      rfl
    · show T.slotsUsed = T.slotsUsed + ((T.heap.toList.drop T.heap.size).map (·.slots.size)).sum
      rw [List.drop_eq_nil_of_le (Nat.le_of_eq Array.length_toList)]
      rfl
    · show ((T.heap.toList.drop T.heap.size).map (·.slots.size)).sum ≤ 0
      rw [List.drop_eq_nil_of_le (Nat.le_of_eq Array.length_toList)]
      exact Nat.le_refl _
/-- 'throw new E()': new; dup; invokespecial; athrow -/
theorem vx_throw0 {cc : ByteArray} {pc : Nat} (hexec : p.tables.exec = Jvm.exec) (hb : c.code = cc) (hl : l.stackTraces = false) {own cls : String} {names : List String} {ik ic mc ms : Nat} {A : Nat → Prop}
    (hown : s.vm.findClass own = some m.cls) (hcls : Bundle.fit cls = true) (hnames : ∀ n ∈ names, Bundle.fit n = true)
    (hk : (Cond.classLink own ik cls).before args s = true) (hini : (Cond.initialized cls).before args s = true) (hat : ∀ w ∈ vx_at0 own ic cls names, w.before args s = true)
    (hgood : ∀ w ∈ Cond.classLink own ik cls :: Cond.initialized cls :: vx_at0 own ic cls names, vx_ot w = true)
    (hU : vx_Zq Bundle.tN "UNASSIGNED_STACK" Bundle.steD A s s.heap) (hN : vx_Zq Bundle.tN "SUPPRESSED_SENTINEL" Bundle.listD A s s.heap) (hS : va_S A s.heap H locs) (hsize : ls.size = c.maxLocals)
    (d0 : decode cc pc = .ok (.new ik, 3)) (d3 : decode cc (pc + 3) = .ok (.dup, 1)) (d4 : decode cc (pc + 4) = .ok (.invokespecial ic, 3)) (d7 : decode cc (pc + 7) = .ok (.athrow, 1))
    (hout : ∀ x ∈ c.exceptionTable.toList, covers x (pc + 7) = false)
    (hRframes : names.length + 3 < R.frames) (hRlocals : (rest.map fun v => v.category).sum + (13 * (names.length + 1) + 42) ≤ R.locals) (hRcells : cells + 1 ≤ R.cells) (hRslots : slots + 6 ≤ R.slots) (hlocks : meth.locks = false)
    (hx : ∀ t : State, s.vm.Alike t.vm → H.size ≤ t.heap.size → (∀ q : Nat, q < H.size → t.heap[q]? = H[q]?) → XC cls s t)
    (hf : ∀ z ∈ locs, free z.base) (hc : cells + 1 ≤ mc) (hs : slots + 6 ≤ ms) :
    W p l e R s m args below meth c H locs cells slots (vx_MQ below Qc XC args s mc ms free) (F0 m pc ls rest) := by
  intro T hT X
  have htr : e.platform.stackTraces = false := (show e.platform.stackTraces = l.stackTraces by rw [X.admits.platform]).trans hl
  have Y := vx_rebase X (R' := { frames := R.frames, locals := R.locals, cells := 1, slots := 6 }) (Nat.le_refl _) (Nat.le_refl _) hRcells hRslots
  obtain ⟨s', hA⟩ : ∃ z, z = (T.setVm s.vm).setFrames (.invoking m args :: below) := ⟨_, rfl⟩
  rw [← hA] at Y
  have hvm : s'.vm = s.vm := by rw [hA]; rfl
  have hhp : s'.heap = H := by rw [hA]; exact hT
  have hW0 : s.WarmedH s'.vm := by rw [hvm]; exact State.WarmedH.refl s
  have hat' : ∀ w ∈ vx_at0 own ic cls names, w.before args s' = true := fun w hw => vx_ot_at hW0 hvm.symm (hgood w (List.mem_cons_of_mem _ (List.mem_cons_of_mem _ hw))) (hat w hw)
  have hk' : (Cond.classLink own ik cls).before args s' = true := vx_ot_at hW0 hvm.symm (hgood _ List.mem_cons_self) hk
  have hini' : (Cond.initialized cls).before args s' = true := vx_ot_at hW0 hvm.symm (hgood _ (List.mem_cons_of_mem _ List.mem_cons_self)) hini
  have hU' : vx_Zq Bundle.tN "UNASSIGNED_STACK" Bundle.steD A s' s'.heap := by rw [hhp]; exact vx_Zq.moved hW0.alike (hU.kept hS.2.1)
  have hN' : vx_Zq Bundle.tN "SUPPRESSED_SENTINEL" Bundle.listD A s' s'.heap := by rw [hhp]; exact vx_Zq.moved hW0.alike (hN.kept hS.2.1)
  have h : ∀ w ∈ Bundle.ownAtoms0 own ic cls names, w.before args s' = true := vx_own hat' (vx_isRefq hU'.1) (vx_isRefq hN'.1) hU'.2.word hN'.2.word
  have hown' : s'.vm.findClass own = some m.cls := by rw [hvm]; exact hown
  have hins : (Cond.instantiable cls 6).before args s' = true := h _ (by simp [Bundle.ownAtoms0])
  obtain ⟨vm₁, cX, kX, hfX, hkX, -, -, X₁, st1⟩ := Y.newCold hexec (own := own) (C := cls) (index := ik) (n := 6) hown' hk' hins hini'
    (g := F0 m pc ls rest) rfl (by rw [hb]; exact d0) (Nat.le_refl _) (Nat.le_refl _)
  generalize hT1 : (T.setVm vm₁).pushCell { cls := cX, slots := kX.instanceTypes.map defaultValue, vm := .none } = T1 at X₁ st1
  have hcat : (Value.ref T.heap.size).category = 1 := rfl
  have hcellA : T1.heap[T.heap.size]? = some (freshCell cX kX) := by rw [← hT1]; exact State.heap_pushCell_size _ _
  have d3' : decode c.code (pc + 3) = .ok (.dup, 1) := by rw [hb]; exact d3
  obtain ⟨U, hsteps, hrun, hend, hW, hsame, ce, hce, hO⟩ := X₁.ctorThrow0 hexec htr (own := own) (cls := cls) (names := names) (ic := ic) hown' hcls hnames h (fun x hx => nomatch hx) hfX hkX hcellA (by rw [hhp, hT]; exact Nat.le_refl _)
    (g := { method := m, pc := pc + 4, locals := ls, stack := .ref T.heap.size :: .ref T.heap.size :: rest, locked := none }) rfl hsize rfl rfl (rest := rest) rfl
    (by rw [hb]; exact d4) (by rw [hb]; exact d7) hout hRframes (by simp only [List.map_cons, List.sum_cons, hcat]; omega) hlocks
  obtain ⟨f1, f2⟩ := vx_frame hsame
  rw [hhp] at f1 f2
  have hWs : s.WarmedH U.vm := State.WarmedH.trans hW0 hW
  have hcl : s.vm.findClass cls = some ce.cls := by
    have h9 := hO.cls
    rw [hvm] at h9
    exact h9
  have hall : s.sameButNew ({ U with vm := s.vm } : State) locs mc ms := by
    subst hA
    obtain ⟨e1, e2⟩ := hsame
    rw [State.setFrames_setFrames] at e1
    have h2 : (T.setVm s.vm).sameButNew ({ U with vm := s.vm } : State) [] (0 + 1) (0 + 6) := ⟨e1, e2⟩
    have h3 := X.same.trans h2
    rw [List.append_nil] at h3
    exact h3.mono hc hs
  refine ⟨U, ?_, .threw T.heap.size, hrun, hend, Or.inr ⟨T.heap.size, rfl, cls, ce, locs, hx U hWs.alike f1 (fun q hq => f2 q hq (fun z hz => nomatch hz)), hce, hO.vm, hcl, hWs, hall, hf⟩⟩
  refine st1 _ ?_
  show Steps p.tables e below (T1.setTop { method := m, pc := pc + 3, locals := ls, stack := .ref T.heap.size :: rest, locked := none }) _
  jvm_step X₁.here [X₁.here.top, hexec, d3', Value.category]
  exact hsteps
/-- 'throw new E("text")': new; dup; ldc; invokespecial; athrow -/
theorem vx_throwS {cc : ByteArray} {pc : Nat} (hexec : p.tables.exec = Jvm.exec) (hb : c.code = cc) (hl : l.stackTraces = false) {own cls text : String} {names : List String} {ik is ic mc ms sa : Nat} {A : Nat → Prop}
    (hown : s.vm.findClass own = some m.cls) (hcls : Bundle.fit cls = true) (hnames : ∀ n ∈ names, Bundle.fit n = true)
    (hk : (Cond.classLink own ik cls).before args s = true) (hini : (Cond.initialized cls).before args s = true) (hstr : vk_R own is text sa s) (hat : ∀ w ∈ vx_atS own ic cls names, w.before args s = true)
    (hgood : ∀ w ∈ Cond.classLink own ik cls :: Cond.initialized cls :: vx_atS own ic cls names, vx_ot w = true)
    (hU : vx_Zq Bundle.tN "UNASSIGNED_STACK" Bundle.steD A s s.heap) (hN : vx_Zq Bundle.tN "SUPPRESSED_SENTINEL" Bundle.listD A s s.heap) (hS : va_S A s.heap H locs) (hsize : ls.size = c.maxLocals)
    (d0 : decode cc pc = .ok (.new ik, 3)) (d3 : decode cc (pc + 3) = .ok (.dup, 1)) (d4 : decode cc (pc + 4) = .ok (.ldc is, 2)) (d6 : decode cc (pc + 6) = .ok (.invokespecial ic, 3)) (d9 : decode cc (pc + 9) = .ok (.athrow, 1))
    (hout : ∀ x ∈ c.exceptionTable.toList, covers x (pc + 9) = false)
    (hRframes : names.length + 3 < R.frames) (hRlocals : (rest.map fun v => v.category).sum + (13 * (names.length + 1) + 43) ≤ R.locals) (hRcells : cells + 1 ≤ R.cells) (hRslots : slots + 6 ≤ R.slots) (hlocks : meth.locks = false)
    (hx : ∀ t : State, s.vm.Alike t.vm → H.size ≤ t.heap.size → (∀ q : Nat, q < H.size → t.heap[q]? = H[q]?) → XC cls s t)
    (hf : ∀ z ∈ locs, free z.base) (hc : cells + 1 ≤ mc) (hs : slots + 6 ≤ ms) :
    W p l e R s m args below meth c H locs cells slots (vx_MQ below Qc XC args s mc ms free) (F0 m pc ls rest) := by
  intro T hT X
  have htr : e.platform.stackTraces = false := (show e.platform.stackTraces = l.stackTraces by rw [X.admits.platform]).trans hl
  have Y := vx_rebase X (R' := { frames := R.frames, locals := R.locals, cells := 1, slots := 6 }) (Nat.le_refl _) (Nat.le_refl _) hRcells hRslots
  obtain ⟨s', hA⟩ : ∃ z, z = (T.setVm s.vm).setFrames (.invoking m args :: below) := ⟨_, rfl⟩
  rw [← hA] at Y
  have hvm : s'.vm = s.vm := by rw [hA]; rfl
  have hhp : s'.heap = H := by rw [hA]; exact hT
  have hW0 : s.WarmedH s'.vm := by rw [hvm]; exact State.WarmedH.refl s
  have hat' : ∀ w ∈ vx_atS own ic cls names, w.before args s' = true := fun w hw => vx_ot_at hW0 hvm.symm (hgood w (List.mem_cons_of_mem _ (List.mem_cons_of_mem _ hw))) (hat w hw)
  have hk' : (Cond.classLink own ik cls).before args s' = true := vx_ot_at hW0 hvm.symm (hgood _ List.mem_cons_self) hk
  have hini' : (Cond.initialized cls).before args s' = true := vx_ot_at hW0 hvm.symm (hgood _ (List.mem_cons_of_mem _ List.mem_cons_self)) hini
  have hU' : vx_Zq Bundle.tN "UNASSIGNED_STACK" Bundle.steD A s' s'.heap := by rw [hhp]; exact vx_Zq.moved hW0.alike (hU.kept hS.2.1)
  have hN' : vx_Zq Bundle.tN "SUPPRESSED_SENTINEL" Bundle.listD A s' s'.heap := by rw [hhp]; exact vx_Zq.moved hW0.alike (hN.kept hS.2.1)
  have h : ∀ w ∈ Bundle.ownAtoms own ic cls names, w.before args s' = true := vx_own hat' (vx_isRefq hU'.1) (vx_isRefq hN'.1) hU'.2.word hN'.2.word
  have hown' : s'.vm.findClass own = some m.cls := by rw [hvm]; exact hown
  have hins : (Cond.instantiable cls 6).before args s' = true := h _ (by simp [Bundle.ownAtoms])
  obtain ⟨vm₁, cX, kX, hfX, hkX, -, -, X₁, st1⟩ := Y.newCold hexec (own := own) (C := cls) (index := ik) (n := 6) hown' hk' hins hini'
    (g := F0 m pc ls rest) rfl (by rw [hb]; exact d0) (Nat.le_refl _) (Nat.le_refl _)
  generalize hT1 : (T.setVm vm₁).pushCell { cls := cX, slots := kX.instanceTypes.map defaultValue, vm := .none } = T1 at X₁ st1
  have hcat : (Value.ref T.heap.size).category = 1 := rfl
  have hcellA : T1.heap[T.heap.size]? = some (freshCell cX kX) := by rw [← hT1]; exact State.heap_pushCell_size _ _
  have d3' : decode c.code (pc + 3) = .ok (.dup, 1) := by rw [hb]; exact d3
  have d4' : decode c.code (pc + 4) = .ok (.ldc is, 2) := by rw [hb]; exact d4
  have hstr' : vk_R own is text sa s' := vk_R.warm hW0 hstr
  obtain ⟨U, hsteps, hrun, hend, hW, hsame, ce, hce, hO⟩ := X₁.ctorThrowS hexec htr (own := own) (cls := cls) (names := names) (ic := ic) hown' hcls hnames h (fun x hx => nomatch hx) hfX hkX hcellA (by rw [hhp, hT]; exact Nat.le_refl _) (msg := .ref sa) rfl
    (g := { method := m, pc := pc + 6, locals := ls, stack := .ref sa :: .ref T.heap.size :: .ref T.heap.size :: rest, locked := none }) rfl hsize rfl rfl (rest := rest) rfl
    (by rw [hb]; exact d6) (by rw [hb]; exact d9) hout hRframes (by simp only [List.map_cons, List.sum_cons, hcat]; omega) hlocks
  obtain ⟨f1, f2⟩ := vx_frame hsame
  rw [hhp] at f1 f2
  have hWs : s.WarmedH U.vm := State.WarmedH.trans hW0 hW
  have hcl : s.vm.findClass cls = some ce.cls := by
    have h9 := hO.cls
    rw [hvm] at h9
    exact h9
  have hall : s.sameButNew ({ U with vm := s.vm } : State) locs mc ms := by
    subst hA
    obtain ⟨e1, e2⟩ := hsame
    rw [State.setFrames_setFrames] at e1
    have h2 : (T.setVm s.vm).sameButNew ({ U with vm := s.vm } : State) [] (0 + 1) (0 + 6) := ⟨e1, e2⟩
    have h3 := X.same.trans h2
    rw [List.append_nil] at h3
    exact h3.mono hc hs
  refine ⟨U, ?_, .threw T.heap.size, hrun, hend, Or.inr ⟨T.heap.size, rfl, cls, ce, locs, hx U hWs.alike f1 (fun q hq => f2 q hq (fun z hz => nomatch hz)), hce, hO.vm, hcl, hWs, hall, hf⟩⟩
  refine st1 _ ?_
  show Steps p.tables e below (T1.setTop { method := m, pc := pc + 3, locals := ls, stack := .ref T.heap.size :: rest, locked := none }) _
  jvm_step X₁.here [X₁.here.top, hexec, d3', Value.category]
  exact X₁.ldcString hexec (own := own) (text := text) (index := is) (a := sa) hown' hstr'.1 hstr'.2
    (g := { method := m, pc := pc + 4, locals := ls, stack := .ref T.heap.size :: .ref T.heap.size :: rest, locked := none }) rfl d4' _ hsteps
/-- 'throw new E("text")', the text by a wide index -/
theorem vx_throwSW {cc : ByteArray} {pc : Nat} (hexec : p.tables.exec = Jvm.exec) (hb : c.code = cc) (hl : l.stackTraces = false) {own cls text : String} {names : List String} {ik is ic mc ms sa : Nat} {A : Nat → Prop}
    (hown : s.vm.findClass own = some m.cls) (hcls : Bundle.fit cls = true) (hnames : ∀ n ∈ names, Bundle.fit n = true)
    (hk : (Cond.classLink own ik cls).before args s = true) (hini : (Cond.initialized cls).before args s = true) (hstr : vk_R own is text sa s) (hat : ∀ w ∈ vx_atS own ic cls names, w.before args s = true)
    (hgood : ∀ w ∈ Cond.classLink own ik cls :: Cond.initialized cls :: vx_atS own ic cls names, vx_ot w = true)
    (hU : vx_Zq Bundle.tN "UNASSIGNED_STACK" Bundle.steD A s s.heap) (hN : vx_Zq Bundle.tN "SUPPRESSED_SENTINEL" Bundle.listD A s s.heap) (hS : va_S A s.heap H locs) (hsize : ls.size = c.maxLocals)
    (d0 : decode cc pc = .ok (.new ik, 3)) (d3 : decode cc (pc + 3) = .ok (.dup, 1)) (d4 : decode cc (pc + 4) = .ok (.ldc_w is, 3)) (d7 : decode cc (pc + 7) = .ok (.invokespecial ic, 3)) (d10 : decode cc (pc + 10) = .ok (.athrow, 1))
    (hout : ∀ x ∈ c.exceptionTable.toList, covers x (pc + 10) = false)
    (hRframes : names.length + 3 < R.frames) (hRlocals : (rest.map fun v => v.category).sum + (13 * (names.length + 1) + 43) ≤ R.locals) (hRcells : cells + 1 ≤ R.cells) (hRslots : slots + 6 ≤ R.slots) (hlocks : meth.locks = false)
    (hx : ∀ t : State, s.vm.Alike t.vm → H.size ≤ t.heap.size → (∀ q : Nat, q < H.size → t.heap[q]? = H[q]?) → XC cls s t)
    (hf : ∀ z ∈ locs, free z.base) (hc : cells + 1 ≤ mc) (hs : slots + 6 ≤ ms) :
    W p l e R s m args below meth c H locs cells slots (vx_MQ below Qc XC args s mc ms free) (F0 m pc ls rest) := by
  intro T hT X
  have htr : e.platform.stackTraces = false := (show e.platform.stackTraces = l.stackTraces by rw [X.admits.platform]).trans hl
  have Y := vx_rebase X (R' := { frames := R.frames, locals := R.locals, cells := 1, slots := 6 }) (Nat.le_refl _) (Nat.le_refl _) hRcells hRslots
  obtain ⟨s', hA⟩ : ∃ z, z = (T.setVm s.vm).setFrames (.invoking m args :: below) := ⟨_, rfl⟩
  rw [← hA] at Y
  have hvm : s'.vm = s.vm := by rw [hA]; rfl
  have hhp : s'.heap = H := by rw [hA]; exact hT
  have hW0 : s.WarmedH s'.vm := by rw [hvm]; exact State.WarmedH.refl s
  have hat' : ∀ w ∈ vx_atS own ic cls names, w.before args s' = true := fun w hw => vx_ot_at hW0 hvm.symm (hgood w (List.mem_cons_of_mem _ (List.mem_cons_of_mem _ hw))) (hat w hw)
  have hk' : (Cond.classLink own ik cls).before args s' = true := vx_ot_at hW0 hvm.symm (hgood _ List.mem_cons_self) hk
  have hini' : (Cond.initialized cls).before args s' = true := vx_ot_at hW0 hvm.symm (hgood _ (List.mem_cons_of_mem _ List.mem_cons_self)) hini
  have hU' : vx_Zq Bundle.tN "UNASSIGNED_STACK" Bundle.steD A s' s'.heap := by rw [hhp]; exact vx_Zq.moved hW0.alike (hU.kept hS.2.1)
  have hN' : vx_Zq Bundle.tN "SUPPRESSED_SENTINEL" Bundle.listD A s' s'.heap := by rw [hhp]; exact vx_Zq.moved hW0.alike (hN.kept hS.2.1)
  have h : ∀ w ∈ Bundle.ownAtoms own ic cls names, w.before args s' = true := vx_own hat' (vx_isRefq hU'.1) (vx_isRefq hN'.1) hU'.2.word hN'.2.word
  have hown' : s'.vm.findClass own = some m.cls := by rw [hvm]; exact hown
  have hins : (Cond.instantiable cls 6).before args s' = true := h _ (by simp [Bundle.ownAtoms])
  obtain ⟨vm₁, cX, kX, hfX, hkX, -, -, X₁, st1⟩ := Y.newCold hexec (own := own) (C := cls) (index := ik) (n := 6) hown' hk' hins hini'
    (g := F0 m pc ls rest) rfl (by rw [hb]; exact d0) (Nat.le_refl _) (Nat.le_refl _)
  generalize hT1 : (T.setVm vm₁).pushCell { cls := cX, slots := kX.instanceTypes.map defaultValue, vm := .none } = T1 at X₁ st1
  have hcat : (Value.ref T.heap.size).category = 1 := rfl
  have hcellA : T1.heap[T.heap.size]? = some (freshCell cX kX) := by rw [← hT1]; exact State.heap_pushCell_size _ _
  have d3' : decode c.code (pc + 3) = .ok (.dup, 1) := by rw [hb]; exact d3
  have d4' : decode c.code (pc + 4) = .ok (.ldc_w is, 3) := by rw [hb]; exact d4
  have hstr' : vk_R own is text sa s' := vk_R.warm hW0 hstr
  obtain ⟨U, hsteps, hrun, hend, hW, hsame, ce, hce, hO⟩ := X₁.ctorThrowS hexec htr (own := own) (cls := cls) (names := names) (ic := ic) hown' hcls hnames h (fun x hx => nomatch hx) hfX hkX hcellA (by rw [hhp, hT]; exact Nat.le_refl _) (msg := .ref sa) rfl
    (g := { method := m, pc := pc + 7, locals := ls, stack := .ref sa :: .ref T.heap.size :: .ref T.heap.size :: rest, locked := none }) rfl hsize rfl rfl (rest := rest) rfl
    (by rw [hb]; exact d7) (by rw [hb]; exact d10) hout hRframes (by simp only [List.map_cons, List.sum_cons, hcat]; omega) hlocks
  obtain ⟨f1, f2⟩ := vx_frame hsame
  rw [hhp] at f1 f2
  have hWs : s.WarmedH U.vm := State.WarmedH.trans hW0 hW
  have hcl : s.vm.findClass cls = some ce.cls := by
    have h9 := hO.cls
    rw [hvm] at h9
    exact h9
  have hall : s.sameButNew ({ U with vm := s.vm } : State) locs mc ms := by
    subst hA
    obtain ⟨e1, e2⟩ := hsame
    rw [State.setFrames_setFrames] at e1
    have h2 : (T.setVm s.vm).sameButNew ({ U with vm := s.vm } : State) [] (0 + 1) (0 + 6) := ⟨e1, e2⟩
    have h3 := X.same.trans h2
    rw [List.append_nil] at h3
    exact h3.mono hc hs
  refine ⟨U, ?_, .threw T.heap.size, hrun, hend, Or.inr ⟨T.heap.size, rfl, cls, ce, locs, hx U hWs.alike f1 (fun q hq => f2 q hq (fun z hz => nomatch hz)), hce, hO.vm, hcl, hWs, hall, hf⟩⟩
  refine st1 _ ?_
  show Steps p.tables e below (T1.setTop { method := m, pc := pc + 3, locals := ls, stack := .ref T.heap.size :: rest, locked := none }) _
  jvm_step X₁.here [X₁.here.top, hexec, d3', Value.category]
  exact X₁.ldcStringW hexec (own := own) (text := text) (index := is) (a := sa) hown' hstr'.1 hstr'.2
    (g := { method := m, pc := pc + 4, locals := ls, stack := .ref T.heap.size :: .ref T.heap.size :: rest, locked := none }) rfl d4' _ hsteps
end Ends
section Bodies
variable {l : Launch}
theorem vx_ofW {y : MethodName} {ws ws' : List Cond} {rm : Room} {Pc : Array Value → State → Prop} {Qc : Array Value → State → Outcome → State → Prop} {XC : String → State → State → Prop} {mc ms : Nat} {free : Addr → Prop} {cc : ByteArray} {maxL : Nat} {ret : Option FieldType}
    (hy : plainName y.cls = true) (hw : ws = Cond.code y cc maxL ret :: ws')
    (body : ∀ p e s m args below meth c s₁, BodyLoose p l y (headSpec ws rm) cc maxL ret e s m args below meth c s₁ → c.maxLocals = maxL → (∀ x ∈ c.exceptionTable.toList, False) → Pc args s →
      W p l e (headSpec ws rm).room s m args below meth c s.heap [] 0 0 (vx_MQ below Qc XC args s mc ms free) (entryFrame m args maxL)) : vx_Met l y ws rm Pc Qc XC mc ms free := by
  refine MetFree.of_bodyS (code := cc) (maxLocals := maxL) (ret := ret) hy ?_ ?_
  · intro args s m h hn
    obtain ⟨meth, c, h1, h2, h3, h4, h5, h6, -, -⟩ := Cond.code_spec hn (atoms_spec (ws := ws) h _ (by rw [hw]; exact List.mem_cons_self))
    exact ⟨meth, c, h1, h2, h3, h4, h5, h6⟩
  · intro p e s m args below meth c s₁ B hml hP _
    have hh0 : s₁.heap = s.heap := by rw [B.state]; rfl
    have ht : ∀ x ∈ c.exceptionTable.toList, False := by
      obtain ⟨meth9, c9, h1, h2, -, -, -, -, h7, -⟩ := Cond.code_spec B.named (atoms_spec (ws := ws) B.pre _ (by rw [hw]; exact List.mem_cons_self))
      cases Option.some.inj (h1.symm.trans B.method)
      cases Option.some.inj (h2.symm.trans (Stand.of_body B).code)
      intro x hx
      rw [Array.isEmpty_iff.mp h7] at hx
      cases hx
    obtain ⟨t, a1, o, b1, b2, b3⟩ := body p e s m args below meth c s₁ B hml ht hP s₁ hh0 (Stand.of_body B)
    exact ⟨t, o, a1, b1, b2, b3⟩
/-- the table of a body with handlers -/
theorem vx_table {p : Program} {x y : MethodName} {S : Spec} {cc bytes : ByteArray} {maxL maxL' : Nat} {ret ret' : Option FieldType} {e : Env} {s s₁ : State} {m : MethodId} {args : Array Value} {below : List Frame} {meth : Method} {c : Code} {hh : List (Nat × Nat × Nat × Nat)}
    (B : BodyLoose p l y S cc maxL ret e s m args below meth c s₁) (h : (Cond.codeWith y bytes maxL' ret' hh).before args s = true) : c.exceptionTable.toList = tableOf hh := by
  obtain ⟨m9, meth9, c9, hn9, h1, h2, -, -, h6, -⟩ := Cond.codeWith_spec h
  cases Option.some.inj (hn9.symm.trans B.named)
  cases Option.some.inj (h1.symm.trans B.method)
  cases Option.some.inj (h2.symm.trans (Stand.of_body B).code)
  rw [← h6, table_eq]
end Bodies
end VXA
/-! ===== END ===== -/
/-! ===== BEGIN a static call of a method with an exception table ===== -/
section VXS
variable {p : Program} {l : Launch} {e : Env} {R : Room} {s : State} {m : MethodId} {args : Array Value} {below : List Frame} {meth : Method} {c : Code} {T : State} {H : Heap} {locs : List Loc} {cells slots : Nat}
abbrev vx_CSW (R : Room) (s : State) (args : Array Value) (own : String) (index : Nat) (y : MethodName) (bytes : ByteArray) (maxL : Nat) (ret : Option FieldType) (hh : List (Nat × Nat × Nat × Nat)) (ws : List Cond) (rm : Room) (mc ms n : Nat) : Prop :=
  (rm.cells = mc ∧ rm.slots = ms ∧ rm.frames + 1 ≤ R.frames ∧ 8 + (maxL + 11) + rm.locals ≤ R.locals ∧ (∀ w ∈ ws, ∀ (a' : Array Value) (U : State), s.WarmedH U.vm → w.before a' U = true) ∧ Cond.codeWith y bytes maxL ret hh ∈ ws) ∧
  (Cond.codeWith y bytes maxL ret hh).before args s = true ∧ (Cond.initialized y.cls).before args s = true ∧ (y.cls ≠ "java/lang/invoke/MethodHandle" ∧ y.cls ≠ "java/lang/invoke/VarHandle") ∧
  (∀ sig, parseMethodDescriptor y.desc = some sig → n = sig.parameters.length) ∧ (Cond.methodLink own index y).before args s = true ∧ (Cond.static y).before args s = true
theorem vx_cwSW {own : String} {index maxL mc ms : Nat} {y : MethodName} {bytes : ByteArray} {ret : Option FieldType} {hh : List (Nat × Nat × Nat × Nat)} {Ts ws ws' : List Cond} {rm : Room} (n : Nat) (ht : ∀ w ∈ Ts, w.before args s = true) (hT : GoodIn Ts (va_wsS own index y ws)) (hw : ws = Cond.codeWith y bytes maxL ret hh :: ws') (hrc : rm.cells = mc) (hrs : rm.slots = ms)
    (hd : y.cls ≠ "java/lang/invoke/MethodHandle" ∧ y.cls ≠ "java/lang/invoke/VarHandle" ∧ (parseMethodDescriptor y.desc).map (fun d => d.parameters.length) = some n) (hR : rm.frames + 1 ≤ R.frames ∧ 8 + (maxL + 11) + rm.locals ≤ R.locals) :
    vx_CSW R s args own index y bytes maxL ret hh ws rm mc ms n := by
  have ok : ∀ w ∈ va_wsS own index y ws, w.before args s = true := fun w h => ht w (hT w h).1
  have hG : GoodIn Ts ws := fun w h => hT w (by unfold va_wsS; exact List.mem_append_right _ h)
  have hc : Cond.codeWith y bytes maxL ret hh ∈ ws := by rw [hw]; exact List.mem_cons_self
  refine ⟨⟨hrc, hrs, hR.1, hR.2, pay_in ht hG, hc⟩, ht _ (hG _ hc).1, ok _ (by simp [va_wsS]), ⟨hd.1, hd.2.1⟩, fun sig h => ?_, ok _ (by simp [va_wsS]), ok _ (by simp [va_wsS])⟩
  have h2 := hd.2.2
  rw [h] at h2
  exact (Option.some.inj h2).symm
theorem vx_callSW (X : Stand p l e R s m args below meth c T locs cells slots) (hexec : p.tables.exec = Jvm.exec) {own : String} {index : Nat} {y : MethodName} {bytes : ByteArray} {maxL : Nat} {ret : Option FieldType} {hh : List (Nat × Nat × Nat × Nat)}
    (hown : s.vm.findClass own = some m.cls) (hlink : (Cond.methodLink own index y).before args s = true) (hstat : (Cond.static y).before args s = true) (hinit : (Cond.initialized y.cls).before args s = true)
    (hcode : (Cond.codeWith y bytes maxL ret hh).before args s = true) (hy : y.cls ≠ "java/lang/invoke/MethodHandle" ∧ y.cls ≠ "java/lang/invoke/VarHandle")
    {W9 : Nat} {Pre : Pt → Array Value → Prop} {Post : Pt → Array Value → Option Value → Pt → Prop} (hK : Back l R p e below s args y 3 W9 Pre Post)
    {g : JFrame} (hg : g.method = m) (hsize : g.locals.size = c.maxLocals) {argsL rest : List Value} (hlen : ∀ sig, parseMethodDescriptor y.desc = some sig → argsL.length = sig.parameters.length)
    (hstack : g.stack = argsL.reverse ++ rest) (hW : 2 * g.monitorRoom + (rest.map fun v => v.category).sum ≤ W9) (hdg : decode c.code g.pc = .ok (.invokestatic index, 3))
    (hpre : ∀ vm₁, s.WarmedH vm₁ → Pre ⟨T.setVm vm₁, locs, cells, slots⟩ argsL.toArray) :
    ∃ (v : Option Value) (vm₁ : Vm) (B : Pt), s.WarmedH vm₁ ∧ Stand p l e R s m args below meth c B.U B.locs B.cells B.slots ∧ Post ⟨T.setVm vm₁, locs, cells, slots⟩ argsL.toArray v B ∧
      ∀ target, Steps p.tables e below (B.U.setTop { g with pc := g.pc + 3, stack := v.toList ++ rest }) target → Steps p.tables e below (T.setTop g) target := by
  obtain ⟨mk, methM, cM, hnamed, hmethM, -, -, -, -, -, -, hsigM⟩ := Cond.codeWith_spec hcode
  have hstatic : methM.isStatic = true := Cond.static_spec hnamed hmethM hstat
  obtain ⟨kP, hkP, -⟩ := className_of_methodNamed hnamed
  have hinitP : kP.init = .initialized := Cond.initialized_spec (findClass_of_methodNamed hnamed) hkP hinit
  obtain ⟨vm₁, X₁, hstep₁⟩ := X.invokestatic hexec hown hlink hnamed hmethM hstatic hkP hinitP hy (g := g) hg (argsL := argsL) (rest := rest) (hlen _ hsigM) hstack hdg
  obtain ⟨v, B, X', hpost, hsteps⟩ := hK m meth c ⟨T.setVm vm₁, locs, cells, slots⟩ { g with stack := rest } (.invokestatic index) mk argsL.toArray X₁ hg hsize hdg hW (X₁.named hnamed) (hpre vm₁ X₁.warmed)
  exact ⟨v, vm₁, B, X₁.warmed, X', hpost, fun target h => hstep₁ _ fun acts => by rw [doInvoke_state]; exact hsteps.trans h⟩
theorem vx_runSW {y : MethodName} {bytes cc : ByteArray} {maxL nL mc ms n index : Nat} {ret : Option FieldType} {hh : List (Nat × Nat × Nat × Nat)} {ws : List Cond} {rm : Room} {Pc : Array Value → State → Prop} {Qc : Array Value → State → Outcome → State → Prop} {free : Addr → Prop} {Ts : List Cond} {own : String} {As rest : List Value} {g : JFrame}
    (S : CallFix p m c cc nL s args Ts own) (hM : Met l y ws rm Pc Qc mc ms free) (cw : vx_CSW R s args own index y bytes maxL ret hh ws rm mc ms n) (hp : PreS s H Pc As)
    (hg : g.method = m) (hn : As.length = n) (hsize : g.locals.size = nL) (hstack : g.stack = As.reverse ++ rest) (hW : 2 * g.monitorRoom + (rest.map fun v => v.category).sum ≤ 8) (hdg : decode cc g.pc = .ok (.invokestatic index, 3)) (hf : cells + mc ≤ R.cells ∧ slots + ms ≤ R.slots) :
    va_Run p l e R s m args below meth c H locs cells slots mc ms g rest (Qc As.toArray) (free) := by
  obtain ⟨⟨hrc, hrs, hfr, hlo, hws, hcw⟩, hcode, hini, hy, hlen, hl, hstt⟩ := cw
  have hK : Back l R p e below s args y 3 8 (PreOf R mc ms Pc) (PostOf Qc mc ms free) := va_backW (hh := hh) (bytes := bytes) (maxL := maxL) (ret := ret) hM hp.1 hrc hrs hfr hlo hws hcw (fun a' U hW => word_at hW (Or.inl (by first | rfl | simp [Cond.onTables, Cond.keeps, Cond.steady])) hini)
  obtain ⟨hx, hb, hml, ho, -⟩ := S
  intro T hT X
  obtain ⟨v, vm₁, ⟨U', l2, c2, s2⟩, hW₁, X', ⟨g', mk, t, L, e1, e2, hq, h1, hL, h2, h3⟩, st⟩ := vx_callSW X hx (hh := hh) (bytes := bytes) (maxL := maxL) (ret := ret) ho hl hstt hini hcode hy hK hg (hsize.trans hml.symm) (argsL := As) (rest := rest) (fun sig h => hn.trans (hlen sig h)) hstack hW (by rw [hb]; exact hdg)
    (fun vm₁ hW₁ => ⟨hf.1, hf.2, hp.2 (T.setVm vm₁) hT hW₁⟩)
  dsimp only [Pt.U, Pt.locs, Pt.cells, Pt.slots] at X' e1 e2 h1 h2 h3 st
  subst h1; subst h2; subst h3
  exact ⟨v, (T.setVm vm₁).calling g' mk As.toArray, t, U', L, hT, X', hL, e1, e2, hq, st⟩
/-- not caught here, past rows that name other classes: it goes on to the caller -/
theorem vx_outP {p : Program} {l : Launch} {e : Env} {R : Room} {s : State} {m : MethodId} {args : Array Value} {below : List Frame} {meth : Method} {c : Code} {H : Heap} {locs : List Loc} {cells slots : Nat} {free : Addr → Prop} {ls : Array Slot} {rest : List Value} {Qc : Array Value → State → Outcome → State → Prop} {XC : String → State → State → Prop}
    {pc : Nat} {own E : String} {ce : Cell} {q : Addr} {mc ms : Nat} (hown : s.vm.findClass own = some m.cls) (hlocks : meth.locks = false)
    (hpass : ∀ z ∈ c.exceptionTable.toList, covers z pc = false ∨ (z.catchType ≠ 0 ∧ ∃ nm : String, (Cond.classLink own z.catchType nm).before args s = true ∧ va_Nc E nm s)) (hcell : H[q]? = some ce) (hv : ce.vm = .none) (hcl : s.vm.findClass E = some ce.cls)
    (hx : ∀ t : State, t.heap = H → s.vm.Alike t.vm → XC E s t) (hf : ∀ z ∈ locs, free z.base) (hc : cells ≤ mc) (hs : slots ≤ ms) :
    vx_W p l e R s m args below meth c H locs cells slots (vx_MQ below Qc XC args s mc ms free) (F0 m pc ls rest) q := by
  intro T hT X
  have hpl : e.platform.magicAccessors = ({} : Platform).magicAccessors := by rw [X.admits.platform]
  obtain ⟨vm', hW', X', st⟩ := X.outThrough hlocks q (g := F0 m pc ls rest) rfl rfl rfl (cell := ce) (by rw [hT]; exact hcell) (by rw [hv]; rfl)
    (by obtain ⟨k9, h9, -⟩ := Vm.findClass_spec hcl; exact ⟨k9, h9⟩) (fun z hz => by
      rcases hpass z hz with h | ⟨hz0, nm, hl1, hn1⟩
      · exact Or.inl h
      · obtain ⟨c6, hc6, hcl6⟩ := Cond.classLink_spec hown hl1 e.platform hpl
        obtain ⟨a8, b8, h1, h2, h3⟩ := hn1
        cases Option.some.inj (h1.symm.trans hcl)
        cases Option.some.inj (h2.symm.trans hc6)
        exact Or.inr ⟨hz0, _, hcl6, h3⟩)
  obtain ⟨g₀, hfr⟩ := X'.frames_eq
  have hcell9 : ((T.setVm vm').setFrames (.throwing q :: below)).heap[q]? = some ce := by
    show T.heap[q]? = some ce
    rw [hT]; exact hcell
  have hend : Ended ((T.setVm vm').setFrames (.throwing q :: below)) below (.threw q) := State.frames_setFrames _ (State.cur_lt_of_frames hfr)
  refine ⟨(T.setVm vm').setFrames (.throwing q :: below), ?_, .threw q, X'.here.running, hend, Or.inr ⟨q, rfl, E, ce, locs, hx _ hT (X'.ends _).1.alike, hcell9, hv, hcl, (X'.ends _).1, (X'.ends _).2.mono hc hs, hf⟩⟩
  rw [X.pushThrowing_eq]
  exact st
/-- a thing of a world lies in the heap -/
theorem vx_lt {D : va_G} {cl : List vw_C} {ws : va_W} {H1 : Heap} (h : va_P D cl ws H1) {k : Nat} {q : Nat × va_E} (hk : ws[k]? = some q) : q.1 < H1.size := (h k q hk).lt
end VXS
/-! ===== END ===== -/
/-! ===== BEGIN methods with a table of their own: called by a name, returning or throwing ===== -/
section VXH
/-! vx_backW, vx_callVX, vx_callSX, vx_callVW, vx_runVW, vx_runVX, vx_runSX, vx_ofWH follow the same proofs as their sisters above (Free/Laws.lean, Shelf42/LK1.lean); vx_outP calls Shelf42/NT130.lean (outThrough). -/
section
variable {l : Launch} {R : Room} {p : Program} {e : Env} {below : List Frame} {s : State} {sargs : Array Value} {y : MethodName} {len W9 : Nat}
theorem vx_backW {ws : List Cond} {rm : Room} {Pc : Array Value → State → Prop} {Qc : Array Value → State → Outcome → State → Prop} {XC : String → State → State → Prop} {mc ms : Nat} {free : Addr → Prop} {bytes : ByteArray} {maxL : Nat} {ret : Option FieldType} {hh : List (Nat × Nat × Nat × Nat)}
    (hM : vx_Met l y ws rm Pc Qc XC mc ms free) (hblind : FrameBlind Pc) (hrc : rm.cells = mc) (hrs : rm.slots = ms)
    (hframes : rm.frames + 1 ≤ R.frames) (hlocals : W9 + (maxL + 11) + rm.locals ≤ R.locals)
    (hws : ∀ w ∈ ws, ∀ a' U, s.WarmedH U.vm → w.before a' U = true) (hcode : Cond.codeWith y bytes maxL ret hh ∈ ws) (hinit : ∀ a' U, s.WarmedH U.vm → (Cond.initialized y.cls).before a' U = true) :
    vx_Back l R p e below s sargs y len W9 (PreOf R mc ms Pc) (PostOf Qc mc ms free) (vx_Post XC mc ms free) := by
  intro m meth c A g ig mk a X hg hsize hdg hW hn hp
  have h1 : (headSpec ws rm).pre.before a A.U = true := atoms_intro fun w hw => hws w hw _ _ X.warmed
  have h2 : (Cond.codeWith y bytes maxL ret hh).before a A.U = true := hws _ hcode _ _ X.warmed
  have h3 : (Cond.initialized y.cls).before a A.U = true := hinit _ _ X.warmed
  have h4 : A.cells + (headSpec ws rm).room.cells ≤ R.cells := by rw [show (headSpec ws rm).room.cells = mc from hrc]; exact hp.1
  have h5 : A.slots + (headSpec ws rm).room.slots ≤ R.slots := by rw [show (headSpec ws rm).room.slots = ms from hrs]; exact hp.2.1
  have hPc : Pc a (A.U.calling g mk a) := hblind _ _ _ _ hp.2.2
  obtain ⟨U, Ls, c0, s0⟩ := A
  dsimp only [Pt.U, Pt.locs, Pt.cells, Pt.slots] at h1 h2 h3 h4 h5 X hn hPc ⊢
  obtain ⟨m9, methY, cY, hn9, hmY, hcY, -, hlY, -⟩ := Cond.codeWith_spec h2
  cases Option.some.inj (hn9.symm.trans hn)
  obtain ⟨kY, hkY, -⟩ := className_of_methodNamed hn
  have hinitY : kY.init = .initialized := Cond.initialized_spec (findClass_of_methodNamed hn) hkY h3
  have h : At U g.method c below := by rw [hg]; exact X.here
  have hlocals9 : W9 + (maxL + 11) + (headSpec ws rm).room.locals ≤ R.locals := hlocals
  have happ : (headSpec ws rm).appliesLoose y e.platform (U.calling g mk a) = true :=
    Spec.appliesLoose_calling (g := g) h hdg hn hkY hinitY
      (X.room_calling (g := g) (R' := (headSpec ws rm).room) hsize hmY hcY hframes (by rw [hlY]; omega) h4 h5) h1
  obtain ⟨mid, hmid⟩ := h.above
  have hfr : (U.setTop g).frames = (.java g :: mid) ++ below := by rw [State.frames_setTop' g h.top, hmid]; rfl
  obtain ⟨o, s₂, hsteps, -, hend, hq⟩ := Steps.callFree hM p X.admits X.cas X.clock (acts := []) hfr happ hPc trivial
  have hq' : vx_Q Qc XC mc ms free a (U.calling g mk a) o s₂ := hq
  rw [State.frames_setTop' g h.top] at hend
  obtain ⟨g₀, hg0⟩ := Option.isSome_iff_exists.mp h.top
  obtain ⟨r, hr⟩ := State.topJava?_eq_some.mp hg0
  have hr' : (({ U with heap := s₂.heap, slotsUsed := s₂.slotsUsed } : State).setVm s₂.vm).frames = .java g₀ :: r := hr
  rcases hq' with ⟨hqc, L, hfe, hL⟩ | ⟨q, rfl, E, ce, L, hx, hce, hcv, hcl, hW₂, hsm, hL⟩
  · obtain ⟨⟨v, rfl⟩, hW₂, e2, q2, q3, q4, q5, q6⟩ := id hfe
    have e3 : s₂ = ({ (U.calling g mk a).setFrames s₂.frames with heap := s₂.heap, slotsUsed := s₂.slotsUsed } : State).setVm s₂.vm := by
      have : s₂ = ({ s₂ with vm := (U.calling g mk a).vm } : State).setVm s₂.vm := rfl
      rw [e2] at this
      exact this
    obtain ⟨c₂, i₂, len₂, hc₂, hd₂, hf₂⟩ := hend
    have hW' : U.WarmedH s₂.vm := hW₂
    have hcc : c₂ = c := by
      have h1 : s₂.code? g.method = U.code? g.method := by
        rw [State.code?_eq, State.code?_eq, hW'.alike.method?]
      exact Option.some.inj (hc₂.symm.trans (h1.trans h.code))
    subst hcc
    have hlen : len₂ = len := by rw [hdg] at hd₂; cases hd₂; rfl
    subst hlen
    have hs₂ : s₂ = (({ U with heap := s₂.heap, slotsUsed := s₂.slotsUsed } : State).setVm s₂.vm).setTop { g with pc := g.pc + len₂, stack := v.toList ++ g.stack } := by
      refine e3.trans ?_
      rw [hf₂, State.calling_eq h.top, State.setFrames_setFrames, State.setTop_of_frames _ hr', hr]
      rfl
    have hsame : U.sameButNew ({ U with heap := s₂.heap, slotsUsed := s₂.slotsUsed } : State) L mc ms := by
      refine ⟨?_, q2, q3, q4, q5, q6⟩
      obtain ⟨t, ht, -⟩ := State.frames_cons hr
      show ({ U with heap := s₂.heap, slotsUsed := s₂.slotsUsed } : State) = { U.setFrames U.frames with heap := s₂.heap, slotsUsed := s₂.slotsUsed }
      rw [State.setFrames_self ht]
    subst hg
    refine Or.inl ⟨v, ⟨(({ U with heap := s₂.heap, slotsUsed := s₂.slotsUsed } : State).setVm s₂.vm), Ls ++ L, c0 + mc, s0 + ms⟩,
      ⟨X.admits, X.cas, X.clock, X.frames, X.room, X.hears, X.method, X.code, (X.here.setHeapUsed s₂.heap s₂.slotsUsed).setVm hW'.alike, X.tail, State.WarmedH.trans X.warmed hW', X.limits, X.bytes, X.same.trans (hsame.setVm s.vm)⟩,
      ⟨g, mk, s₂, L, rfl, rfl, hqc, rfl, hL, rfl, rfl⟩, ?_⟩
    show Steps p.tables e below _ ((({ U with heap := s₂.heap, slotsUsed := s₂.slotsUsed } : State).setVm s₂.vm).setTop { g with pc := g.pc + len₂, stack := v.toList ++ g.stack })
    rw [← hs₂]
    exact hsteps
  · obtain ⟨e2, q2, q3, q4, q5, q6⟩ := id hsm
    have e3 : s₂ = ({ (U.calling g mk a).setFrames s₂.frames with heap := s₂.heap, slotsUsed := s₂.slotsUsed } : State).setVm s₂.vm := by
      have : s₂ = ({ s₂ with vm := (U.calling g mk a).vm } : State).setVm s₂.vm := rfl
      rw [e2] at this
      exact this
    have hf₂ : s₂.frames = .throwing q :: .java g :: U.frames.tail := hend
    have hW' : U.WarmedH s₂.vm := hW₂
    have hs₂ : s₂ = ((({ U with heap := s₂.heap, slotsUsed := s₂.slotsUsed } : State).setVm s₂.vm).setTop g).pushFrame (.throwing q) := by
      refine e3.trans ?_
      rw [hf₂, State.calling_eq h.top, State.setFrames_setFrames, State.pushFrame, State.frames_setTop _ hr', State.setTop_of_frames _ hr', State.setFrames_setFrames, hr]
      rfl
    have hsame : U.sameButNew ({ U with heap := s₂.heap, slotsUsed := s₂.slotsUsed } : State) L mc ms := by
      refine ⟨?_, q2, q3, q4, q5, q6⟩
      obtain ⟨t, ht, -⟩ := State.frames_cons hr
      show ({ U with heap := s₂.heap, slotsUsed := s₂.slotsUsed } : State) = { U.setFrames U.frames with heap := s₂.heap, slotsUsed := s₂.slotsUsed }
      rw [State.setFrames_self ht]
    subst hg
    refine Or.inr ⟨q, ⟨(({ U with heap := s₂.heap, slotsUsed := s₂.slotsUsed } : State).setVm s₂.vm), Ls ++ L, c0 + mc, s0 + ms⟩,
      ⟨X.admits, X.cas, X.clock, X.frames, X.room, X.hears, X.method, X.code, (X.here.setHeapUsed s₂.heap s₂.slotsUsed).setVm hW'.alike, X.tail, State.WarmedH.trans X.warmed hW', X.limits, X.bytes, X.same.trans (hsame.setVm s.vm)⟩,
      ⟨g, mk, s₂, L, E, ce, rfl, rfl, hx, hce, hcv, hcl, rfl, hL, rfl, rfl⟩, ?_⟩
    show Steps p.tables e below _ (((({ U with heap := s₂.heap, slotsUsed := s₂.slotsUsed } : State).setVm s₂.vm).setTop g).pushFrame (.throwing q))
    rw [← hs₂]
    exact hsteps
end
variable {p : Program} {l : Launch} {e : Env} {R : Room} {s : State} {m : MethodId} {args : Array Value} {below : List Frame} {meth : Method} {c : Code} {T : State} {H : Heap} {locs : List Loc} {cells slots : Nat}
theorem vx_callVX (X : Stand p l e R s m args below meth c T locs cells slots) (hexec : p.tables.exec = Jvm.exec) {own C : String} {index : Nat} {y : MethodName} {bytes : ByteArray} {maxL : Nat} {ret : Option FieldType} {hh : List (Nat × Nat × Nat × Nat)}
    (hown : s.vm.findClass own = some m.cls) (hlink : (Cond.methodLink own index y).before args s = true) (hinst : (Cond.instanceMethod y).before args s = true) (hsel : (Cond.selects C y y).before args s = true)
    (hcode : (Cond.codeWith y bytes maxL ret hh).before args s = true) (hy : y.cls ≠ "java/lang/invoke/MethodHandle" ∧ y.cls ≠ "java/lang/invoke/VarHandle")
    {W9 : Nat} {Pre : Pt → Array Value → Prop} {Post : Pt → Array Value → Option Value → Pt → Prop} {PostX : Pt → Array Value → Addr → Pt → Prop} (hK : vx_Back l R p e below s args y 3 W9 Pre Post PostX)
    {b : Addr} {cellB : Cell} (hcell : T.heap[b]? = some cellB) (hobj : cellB.vm.isStatics = false) (hcls : s.vm.findClass C = some cellB.cls)
    {g : JFrame} (hg : g.method = m) (hsize : g.locals.size = c.maxLocals) {argsL rest : List Value} (hlen : ∀ sig, parseMethodDescriptor y.desc = some sig → argsL.length = sig.parameters.length)
    (hstack : g.stack = argsL.reverse ++ .ref b :: rest) (hW : 2 * g.monitorRoom + (rest.map fun v => v.category).sum ≤ W9) (hdg : decode c.code g.pc = .ok (.invokevirtual index, 3))
    (hpre : ∀ vm₁, s.WarmedH vm₁ → Pre ⟨T.setVm vm₁, locs, cells, slots⟩ (Value.ref b :: argsL).toArray) :
    (∃ (v : Option Value) (vm₁ : Vm) (B : Pt), s.WarmedH vm₁ ∧ Stand p l e R s m args below meth c B.U B.locs B.cells B.slots ∧ Post ⟨T.setVm vm₁, locs, cells, slots⟩ (Value.ref b :: argsL).toArray v B ∧
      ∀ target, Steps p.tables e below (B.U.setTop { g with pc := g.pc + 3, stack := v.toList ++ rest }) target → Steps p.tables e below (T.setTop g) target) ∨
    (∃ (q : Addr) (vm₁ : Vm) (B : Pt), s.WarmedH vm₁ ∧ Stand p l e R s m args below meth c B.U B.locs B.cells B.slots ∧ PostX ⟨T.setVm vm₁, locs, cells, slots⟩ (Value.ref b :: argsL).toArray q B ∧
      Steps p.tables e below (T.setTop g) ((B.U.setTop { g with stack := rest }).pushFrame (.throwing q))) := by
  obtain ⟨mk, methM, hnamed, hmethM, hstM, habM⟩ := Cond.instanceMethod_spec hinst
  obtain ⟨m8, methM', cM, hn8, hmethM', -, -, -, -, -, -, hsigM⟩ := Cond.codeWith_spec hcode
  cases Option.some.inj (hn8.symm.trans hnamed)
  cases hmethM.symm.trans hmethM'
  obtain ⟨c2, r2, m2, q1, q2, q3, q4, kP, hkP, hkPi⟩ := Cond.selects_spec hsel
  cases hcls.symm.trans q1
  cases (State.methodFound?_of_named hnamed hy).symm.trans q2
  cases hnamed.symm.trans q3
  have hselP : selectMethod e.platform s.vm cellB.cls mk = .method mk := by rw [Launch.admits_selectMethod X.admits]; exact q4
  obtain ⟨vm₁, X₁, hstep₁⟩ := X.invokevirtual hexec hown hlink hnamed hmethM hstM hkP hkPi hy (a := b) (cell := cellB) hcell
    (fun z h => by rw [h] at hobj; cases hobj) hselP hmethM habM hkP hkPi (g := g) hg (argsL := argsL) (rest := rest) (hlen _ hsigM) hstack hdg
  rcases hK m meth c ⟨T.setVm vm₁, locs, cells, slots⟩ { g with stack := rest } (.invokevirtual index) mk (Value.ref b :: argsL).toArray X₁ hg hsize hdg hW (X₁.named hnamed) (hpre vm₁ X₁.warmed) with ⟨v, B, X', hpost, hsteps⟩ | ⟨q, B, X', hpost, hsteps⟩
  · exact Or.inl ⟨v, vm₁, B, X₁.warmed, X', hpost, fun target h => hstep₁ _ fun acts => by rw [doInvoke_state]; exact hsteps.trans h⟩
  · exact Or.inr ⟨q, vm₁, B, X₁.warmed, X', hpost, hstep₁ _ fun acts => by rw [doInvoke_state]; exact hsteps⟩
theorem vx_callSX (X : Stand p l e R s m args below meth c T locs cells slots) (hexec : p.tables.exec = Jvm.exec) {own : String} {index : Nat} {y : MethodName} {bytes : ByteArray} {maxL : Nat} {ret : Option FieldType} {hh : List (Nat × Nat × Nat × Nat)}
    (hown : s.vm.findClass own = some m.cls) (hlink : (Cond.methodLink own index y).before args s = true) (hstat : (Cond.static y).before args s = true) (hinit : (Cond.initialized y.cls).before args s = true)
    (hcode : (Cond.codeWith y bytes maxL ret hh).before args s = true) (hy : y.cls ≠ "java/lang/invoke/MethodHandle" ∧ y.cls ≠ "java/lang/invoke/VarHandle")
    {W9 : Nat} {Pre : Pt → Array Value → Prop} {Post : Pt → Array Value → Option Value → Pt → Prop} {PostX : Pt → Array Value → Addr → Pt → Prop} (hK : vx_Back l R p e below s args y 3 W9 Pre Post PostX)
    {g : JFrame} (hg : g.method = m) (hsize : g.locals.size = c.maxLocals) {argsL rest : List Value} (hlen : ∀ sig, parseMethodDescriptor y.desc = some sig → argsL.length = sig.parameters.length)
    (hstack : g.stack = argsL.reverse ++ rest) (hW : 2 * g.monitorRoom + (rest.map fun v => v.category).sum ≤ W9) (hdg : decode c.code g.pc = .ok (.invokestatic index, 3))
    (hpre : ∀ vm₁, s.WarmedH vm₁ → Pre ⟨T.setVm vm₁, locs, cells, slots⟩ argsL.toArray) :
    (∃ (v : Option Value) (vm₁ : Vm) (B : Pt), s.WarmedH vm₁ ∧ Stand p l e R s m args below meth c B.U B.locs B.cells B.slots ∧ Post ⟨T.setVm vm₁, locs, cells, slots⟩ argsL.toArray v B ∧
      ∀ target, Steps p.tables e below (B.U.setTop { g with pc := g.pc + 3, stack := v.toList ++ rest }) target → Steps p.tables e below (T.setTop g) target) ∨
    (∃ (q : Addr) (vm₁ : Vm) (B : Pt), s.WarmedH vm₁ ∧ Stand p l e R s m args below meth c B.U B.locs B.cells B.slots ∧ PostX ⟨T.setVm vm₁, locs, cells, slots⟩ argsL.toArray q B ∧
      Steps p.tables e below (T.setTop g) ((B.U.setTop { g with stack := rest }).pushFrame (.throwing q))) := by
  obtain ⟨mk, methM, cM, hnamed, hmethM, -, -, -, -, -, -, hsigM⟩ := Cond.codeWith_spec hcode
  have hstatic : methM.isStatic = true := Cond.static_spec hnamed hmethM hstat
  obtain ⟨kP, hkP, -⟩ := className_of_methodNamed hnamed
  have hinitP : kP.init = .initialized := Cond.initialized_spec (findClass_of_methodNamed hnamed) hkP hinit
  obtain ⟨vm₁, X₁, hstep₁⟩ := X.invokestatic hexec hown hlink hnamed hmethM hstatic hkP hinitP hy (g := g) hg (argsL := argsL) (rest := rest) (hlen _ hsigM) hstack hdg
  rcases hK m meth c ⟨T.setVm vm₁, locs, cells, slots⟩ { g with stack := rest } (.invokestatic index) mk argsL.toArray X₁ hg hsize hdg hW (X₁.named hnamed) (hpre vm₁ X₁.warmed) with ⟨v, B, X', hpost, hsteps⟩ | ⟨q, B, X', hpost, hsteps⟩
  · exact Or.inl ⟨v, vm₁, B, X₁.warmed, X', hpost, fun target h => hstep₁ _ fun acts => by rw [doInvoke_state]; exact hsteps.trans h⟩
  · exact Or.inr ⟨q, vm₁, B, X₁.warmed, X', hpost, hstep₁ _ fun acts => by rw [doInvoke_state]; exact hsteps⟩
theorem vx_callVW (X : Stand p l e R s m args below meth c T locs cells slots) (hexec : p.tables.exec = Jvm.exec) {own C : String} {index : Nat} {y : MethodName} {bytes : ByteArray} {maxL : Nat} {ret : Option FieldType} {hh : List (Nat × Nat × Nat × Nat)}
    (hown : s.vm.findClass own = some m.cls) (hlink : (Cond.methodLink own index y).before args s = true) (hinst : (Cond.instanceMethod y).before args s = true) (hsel : (Cond.selects C y y).before args s = true)
    (hcode : (Cond.codeWith y bytes maxL ret hh).before args s = true) (hy : y.cls ≠ "java/lang/invoke/MethodHandle" ∧ y.cls ≠ "java/lang/invoke/VarHandle")
    {W9 : Nat} {Pre : Pt → Array Value → Prop} {Post : Pt → Array Value → Option Value → Pt → Prop} (hK : Back l R p e below s args y 3 W9 Pre Post)
    {b : Addr} {cellB : Cell} (hcell : T.heap[b]? = some cellB) (hobj : cellB.vm.isStatics = false) (hcls : s.vm.findClass C = some cellB.cls)
    {g : JFrame} (hg : g.method = m) (hsize : g.locals.size = c.maxLocals) {argsL rest : List Value} (hlen : ∀ sig, parseMethodDescriptor y.desc = some sig → argsL.length = sig.parameters.length)
    (hstack : g.stack = argsL.reverse ++ .ref b :: rest) (hW : 2 * g.monitorRoom + (rest.map fun v => v.category).sum ≤ W9) (hdg : decode c.code g.pc = .ok (.invokevirtual index, 3))
    (hpre : ∀ vm₁, s.WarmedH vm₁ → Pre ⟨T.setVm vm₁, locs, cells, slots⟩ (Value.ref b :: argsL).toArray) :
    ∃ (v : Option Value) (vm₁ : Vm) (B : Pt), s.WarmedH vm₁ ∧ Stand p l e R s m args below meth c B.U B.locs B.cells B.slots ∧ Post ⟨T.setVm vm₁, locs, cells, slots⟩ (Value.ref b :: argsL).toArray v B ∧
      ∀ target, Steps p.tables e below (B.U.setTop { g with pc := g.pc + 3, stack := v.toList ++ rest }) target → Steps p.tables e below (T.setTop g) target := by
  obtain ⟨mk, methM, hnamed, hmethM, hstM, habM⟩ := Cond.instanceMethod_spec hinst
  obtain ⟨m8, methM', cM, hn8, hmethM', -, -, -, -, -, -, hsigM⟩ := Cond.codeWith_spec hcode
  cases Option.some.inj (hn8.symm.trans hnamed)
  cases hmethM.symm.trans hmethM'
  obtain ⟨c2, r2, m2, q1, q2, q3, q4, kP, hkP, hkPi⟩ := Cond.selects_spec hsel
  cases hcls.symm.trans q1
  cases (State.methodFound?_of_named hnamed hy).symm.trans q2
  cases hnamed.symm.trans q3
  have hselP : selectMethod e.platform s.vm cellB.cls mk = .method mk := by rw [Launch.admits_selectMethod X.admits]; exact q4
  obtain ⟨vm₁, X₁, hstep₁⟩ := X.invokevirtual hexec hown hlink hnamed hmethM hstM hkP hkPi hy (a := b) (cell := cellB) hcell
    (fun z h => by rw [h] at hobj; cases hobj) hselP hmethM habM hkP hkPi (g := g) hg (argsL := argsL) (rest := rest) (hlen _ hsigM) hstack hdg
  obtain ⟨v, B, X', hpost, hsteps⟩ := hK m meth c ⟨T.setVm vm₁, locs, cells, slots⟩ { g with stack := rest } (.invokevirtual index) mk (Value.ref b :: argsL).toArray X₁ hg hsize hdg hW (X₁.named hnamed) (hpre vm₁ X₁.warmed)
  exact ⟨v, vm₁, B, X₁.warmed, X', hpost, fun target h => hstep₁ _ fun acts => by rw [doInvoke_state]; exact hsteps.trans h⟩
abbrev vx_CVW (R : Room) (s : State) (args : Array Value) (own C : String) (index : Nat) (y : MethodName) (bytes : ByteArray) (maxL : Nat) (ret : Option FieldType) (hh : List (Nat × Nat × Nat × Nat)) (ws : List Cond) (rm : Room) (mc ms n : Nat) : Prop :=
  (rm.cells = mc ∧ rm.slots = ms ∧ rm.frames + 1 ≤ R.frames ∧ 8 + (maxL + 11) + rm.locals ≤ R.locals ∧ (∀ w ∈ ws, ∀ (a' : Array Value) (U : State), s.WarmedH U.vm → w.before a' U = true) ∧ Cond.codeWith y bytes maxL ret hh ∈ ws) ∧
  (Cond.codeWith y bytes maxL ret hh).before args s = true ∧ (Cond.initialized y.cls).before args s = true ∧ (y.cls ≠ "java/lang/invoke/MethodHandle" ∧ y.cls ≠ "java/lang/invoke/VarHandle") ∧
  (∀ sig, parseMethodDescriptor y.desc = some sig → n = sig.parameters.length) ∧ (Cond.methodLink own index y).before args s = true ∧ (Cond.instanceMethod y).before args s = true ∧ (Cond.selects C y y).before args s = true
theorem vx_cwVW {own C : String} {index maxL mc ms : Nat} {y : MethodName} {bytes : ByteArray} {ret : Option FieldType} {hh : List (Nat × Nat × Nat × Nat)} {Ts ws ws' : List Cond} {rm : Room} (n : Nat) (ht : ∀ w ∈ Ts, w.before args s = true) (hT : GoodIn Ts (wsV own index C y ws)) (hw : ws = Cond.codeWith y bytes maxL ret hh :: ws') (hrc : rm.cells = mc) (hrs : rm.slots = ms)
    (hd : y.cls = C ∧ y.cls ≠ "java/lang/invoke/MethodHandle" ∧ y.cls ≠ "java/lang/invoke/VarHandle" ∧ (parseMethodDescriptor y.desc).map (fun d => d.parameters.length) = some n) (hR : rm.frames + 1 ≤ R.frames ∧ 8 + (maxL + 11) + rm.locals ≤ R.locals) :
    vx_CVW R s args own C index y bytes maxL ret hh ws rm mc ms n := by
  obtain ⟨hC, hd⟩ := hd
  subst hC
  have ok : ∀ w ∈ wsV own index y.cls y ws, w.before args s = true := fun w h => ht w (hT w h).1
  have hG : GoodIn Ts ws := fun w h => hT w (by unfold wsV; exact List.mem_append_right _ h)
  have hc : Cond.codeWith y bytes maxL ret hh ∈ ws := by rw [hw]; exact List.mem_cons_self
  refine ⟨⟨hrc, hrs, hR.1, hR.2, pay_in ht hG, hc⟩, ht _ (hG _ hc).1, ok _ (by simp [wsV]), ⟨hd.1, hd.2.1⟩, fun sig h => ?_, ok _ (by simp [wsV]), ok _ (by simp [wsV]), ok _ (by simp [wsV])⟩
  have h2 := hd.2.2
  rw [h] at h2
  exact (Option.some.inj h2).symm
theorem vx_runVW {y : MethodName} {bytes cc : ByteArray} {maxL nL mc ms n index : Nat} {ret : Option FieldType} {hh : List (Nat × Nat × Nat × Nat)} {ws : List Cond} {rm : Room} {Pc : Array Value → State → Prop} {Qc : Array Value → State → Outcome → State → Prop} {free : Addr → Prop} {Ts : List Cond} {own C : String} {b : Addr} {As rest : List Value} {g : JFrame}
    (S : CallFix p m c cc nL s args Ts own) (hM : Met l y ws rm Pc Qc mc ms free) (cw : vx_CVW R s args own C index y bytes maxL ret hh ws rm mc ms n) (hp : PreV s H C b Pc As)
    (hg : g.method = m) (hn : As.length = n) (hsize : g.locals.size = nL) (hstack : g.stack = As.reverse ++ .ref b :: rest) (hW : 2 * g.monitorRoom + (rest.map fun v => v.category).sum ≤ 8) (hdg : decode cc g.pc = .ok (.invokevirtual index, 3)) (hf : cells + mc ≤ R.cells ∧ slots + ms ≤ R.slots) :
    va_Run p l e R s m args below meth c H locs cells slots mc ms g rest (Qc (Value.ref b :: As).toArray) free := by
  obtain ⟨⟨hrc, hrs, hfr, hlo, hws, hcw⟩, hcode, hini, hy, hlen, hl, hin, hse⟩ := cw
  have hK : Back l R p e below s args y 3 8 (PreOf R mc ms Pc) (PostOf Qc mc ms free) := va_backW (hh := hh) (bytes := bytes) (maxL := maxL) (ret := ret) hM hp.1 hrc hrs hfr hlo hws hcw (fun a' U hW => word_at hW (Or.inl (by first | rfl | simp [Cond.onTables, Cond.keeps, Cond.steady])) hini)
  obtain ⟨hx, hb, hml, ho, -⟩ := S
  obtain ⟨-, ⟨cellB, hcB, hoB, hclB⟩, hPc⟩ := hp
  intro T hT X
  obtain ⟨v, vm₁, ⟨U', l2, c2, s2⟩, hW₁, X', ⟨g', mk, t, L, e1, e2, hq, h1, hL, h2, h3⟩, st⟩ := vx_callVW X hx (C := C) (hh := hh) (bytes := bytes) (maxL := maxL) (ret := ret) ho hl hin hse hcode hy hK (by rw [hT]; exact hcB) hoB hclB hg (hsize.trans hml.symm) (argsL := As) (rest := rest) (fun sig h => hn.trans (hlen sig h)) hstack hW (by rw [hb]; exact hdg)
    (fun vm₁ hW₁ => ⟨hf.1, hf.2, hPc (T.setVm vm₁) hT hW₁⟩)
  dsimp only [Pt.U, Pt.locs, Pt.cells, Pt.slots] at X' e1 e2 h1 h2 h3 st
  subst h1; subst h2; subst h3
  exact ⟨v, (T.setVm vm₁).calling g' mk (Value.ref b :: As).toArray, t, U', L, hT, X', hL, e1, e2, hq, st⟩
section
variable {y : MethodName} {bytes cc : ByteArray} {maxL nL mc ms n index : Nat} {ret : Option FieldType} {ws : List Cond} {rm : Room} {Pc : Array Value → State → Prop} {Qc : Array Value → State → Outcome → State → Prop} {XC : String → State → State → Prop} {free : Addr → Prop} {Ts : List Cond} {own C : String} {b : Addr} {As rest : List Value} {g : JFrame}
theorem vx_runVX {hh : List (Nat × Nat × Nat × Nat)} (S : CallFix p m c cc nL s args Ts own) (hM : vx_Met l y ws rm Pc Qc XC mc ms free) (cw : vx_CVW R s args own C index y bytes maxL ret hh ws rm mc ms n) (hp : PreV s H C b Pc As)
    (hg : g.method = m) (hn : As.length = n) (hsize : g.locals.size = nL) (hstack : g.stack = As.reverse ++ .ref b :: rest) (hW : 2 * g.monitorRoom + (rest.map fun v => v.category).sum ≤ 8) (hdg : decode cc g.pc = .ok (.invokevirtual index, 3)) (hf : cells + mc ≤ R.cells ∧ slots + ms ≤ R.slots) :
    vx_Run p l e R s m args below meth c H locs cells slots mc ms g rest (Qc (Value.ref b :: As).toArray) XC free := by
  obtain ⟨⟨hrc, hrs, hfr, hlo, hws, hcw⟩, hcode, hini, hy, hlen, hl, hin, hse⟩ := cw
  have hK : vx_Back l R p e below s args y 3 8 (PreOf R mc ms Pc) (PostOf Qc mc ms free) (vx_Post XC mc ms free) := vx_backW (hh := hh) (bytes := bytes) (maxL := maxL) (ret := ret) hM hp.1 hrc hrs hfr hlo hws hcw (fun a' U hW => word_at hW (Or.inl (by first | rfl | simp [Cond.onTables, Cond.keeps, Cond.steady])) hini)
  obtain ⟨hx, hb, hml, ho, -⟩ := S
  obtain ⟨-, ⟨cellB, hcB, hoB, hclB⟩, hPc⟩ := hp
  intro T hT X
  rcases vx_callVX X hx (C := C) (hh := hh) (bytes := bytes) (maxL := maxL) (ret := ret) ho hl hin hse hcode hy hK (by rw [hT]; exact hcB) hoB hclB hg (hsize.trans hml.symm) (argsL := As) (rest := rest) (fun sig h => hn.trans (hlen sig h)) hstack hW (by rw [hb]; exact hdg)
    (fun vm₁ hW₁ => ⟨hf.1, hf.2, hPc (T.setVm vm₁) hT hW₁⟩) with ⟨v, vm₁, ⟨U', l2, c2, s2⟩, hW₁, X', ⟨g', mk, t, L, e1, e2, hq, h1, hL, h2, h3⟩, st⟩ | ⟨q, vm₁, ⟨U', l2, c2, s2⟩, hW₁, X', ⟨g', mk, t, L, E, ce, e1, e2, hq, hce, hcv, hcl, h1, hL, h2, h3⟩, st⟩
  · dsimp only [Pt.U, Pt.locs, Pt.cells, Pt.slots] at X' e1 e2 h1 h2 h3 st
    subst h1; subst h2; subst h3
    exact Or.inl ⟨v, (T.setVm vm₁).calling g' mk (Value.ref b :: As).toArray, t, U', L, hT, X', hL, e1, e2, hq, st⟩
  · dsimp only [Pt.U, Pt.locs, Pt.cells, Pt.slots] at X' e1 e2 h1 h2 h3 st hcl
    subst h1; subst h2; subst h3
    exact Or.inr ⟨q, (T.setVm vm₁).calling g' mk (Value.ref b :: As).toArray, t, U', L, E, ce, hT, X', hL, e1, e2, hq, hce, hcv, vx_cls hW₁ hcl, st⟩
theorem vx_runSX {hh : List (Nat × Nat × Nat × Nat)} (S : CallFix p m c cc nL s args Ts own) (hM : vx_Met l y ws rm Pc Qc XC mc ms free) (cw : vx_CSW R s args own index y bytes maxL ret hh ws rm mc ms n) (hp : PreS s H Pc As)
    (hg : g.method = m) (hn : As.length = n) (hsize : g.locals.size = nL) (hstack : g.stack = As.reverse ++ rest) (hW : 2 * g.monitorRoom + (rest.map fun v => v.category).sum ≤ 8) (hdg : decode cc g.pc = .ok (.invokestatic index, 3)) (hf : cells + mc ≤ R.cells ∧ slots + ms ≤ R.slots) :
    vx_Run p l e R s m args below meth c H locs cells slots mc ms g rest (Qc As.toArray) XC free := by
  obtain ⟨⟨hrc, hrs, hfr, hlo, hws, hcw⟩, hcode, hini, hy, hlen, hl, hstt⟩ := cw
  have hK : vx_Back l R p e below s args y 3 8 (PreOf R mc ms Pc) (PostOf Qc mc ms free) (vx_Post XC mc ms free) := vx_backW (hh := hh) (bytes := bytes) (maxL := maxL) (ret := ret) hM hp.1 hrc hrs hfr hlo hws hcw (fun a' U hW => word_at hW (Or.inl (by first | rfl | simp [Cond.onTables, Cond.keeps, Cond.steady])) hini)
  obtain ⟨hx, hb, hml, ho, -⟩ := S
  intro T hT X
  rcases vx_callSX X hx (hh := hh) (bytes := bytes) (maxL := maxL) (ret := ret) ho hl hstt hini hcode hy hK hg (hsize.trans hml.symm) (argsL := As) (rest := rest) (fun sig h => hn.trans (hlen sig h)) hstack hW (by rw [hb]; exact hdg)
    (fun vm₁ hW₁ => ⟨hf.1, hf.2, hp.2 (T.setVm vm₁) hT hW₁⟩) with ⟨v, vm₁, ⟨U', l2, c2, s2⟩, hW₁, X', ⟨g', mk, t, L, e1, e2, hq, h1, hL, h2, h3⟩, st⟩ | ⟨q, vm₁, ⟨U', l2, c2, s2⟩, hW₁, X', ⟨g', mk, t, L, E, ce, e1, e2, hq, hce, hcv, hcl, h1, hL, h2, h3⟩, st⟩
  · dsimp only [Pt.U, Pt.locs, Pt.cells, Pt.slots] at X' e1 e2 h1 h2 h3 st
    subst h1; subst h2; subst h3
    exact Or.inl ⟨v, (T.setVm vm₁).calling g' mk As.toArray, t, U', L, hT, X', hL, e1, e2, hq, st⟩
  · dsimp only [Pt.U, Pt.locs, Pt.cells, Pt.slots] at X' e1 e2 h1 h2 h3 st hcl
    subst h1; subst h2; subst h3
    exact Or.inr ⟨q, (T.setVm vm₁).calling g' mk As.toArray, t, U', L, E, ce, hT, X', hL, e1, e2, hq, hce, hcv, vx_cls hW₁ hcl, st⟩
end
end VXH
theorem vx_ofWH {l : Launch} {y : MethodName} {ws ws' : List Cond} {rm : Room} {Pc : Array Value → State → Prop} {Qc : Array Value → State → Outcome → State → Prop} {XC : String → State → State → Prop} {mc ms : Nat} {free : Addr → Prop} {cc : ByteArray} {maxL : Nat} {ret : Option FieldType} {hh : List (Nat × Nat × Nat × Nat)}
    (hy : plainName y.cls = true) (hw : ws = Cond.codeWith y cc maxL ret hh :: ws')
    (body : ∀ p e s m args below meth c s₁, BodyLoose p l y (headSpec ws rm) cc maxL ret e s m args below meth c s₁ → c.maxLocals = maxL → Pc args s →
      W p l e (headSpec ws rm).room s m args below meth c s.heap [] 0 0 (vx_MQ below Qc XC args s mc ms free) (entryFrame m args maxL)) : vx_Met l y ws rm Pc Qc XC mc ms free := by
  refine MetFree.of_bodyS (code := cc) (maxLocals := maxL) (ret := ret) hy ?_ ?_
  · intro args s m h hn
    obtain ⟨m9, meth, c, hn9, h1, h2, h3, h4, -, h5, h6, -⟩ := Cond.codeWith_spec (atoms_spec (ws := ws) h _ (by rw [hw]; exact List.mem_cons_self))
    cases hn.symm.trans hn9
    exact ⟨meth, c, h1, h2, h3, h4, h5, h6⟩
  · intro p e s m args below meth c s₁ B hml hP _
    have hh0 : s₁.heap = s.heap := by rw [B.state]; rfl
    obtain ⟨t, a1, o, b1, b2, b3⟩ := body p e s m args below meth c s₁ B hml hP s₁ hh0 (Stand.of_body B)
    exact ⟨t, o, a1, b1, b2, b3⟩
/-! ===== END ===== -/

def RX0 : String := "WaterCascade$Plant"
def TX0 : u_T := fun k => match k with
  | 0 => ("WaterCascade$Plant", "capacity", "I", false)
  | 1 => ("WaterCascade$Plant", "base", "I", false)
  | 2 => ("WaterCascade$Plant", "travel", "I", false)
  | 3 => ("WaterCascade$Plant", "minimum", "I", false)
  | 4 => ("WaterCascade$Plant", "inflow", "I", false)
  | 5 => ("WaterCascade$Plant", "share", "I", false)
  | 6 => ("WaterCascade$Plant", "orders", "[I", true)
  | 7 => ("WaterCascade$Plant", "accounts", "[I", true)
  | 8 => ("WaterCascade$Plant", "away", "[I", true)
  | 9 => ("WaterCascade$Plant", "underWay", "[[I", true)
  | 10 => ("WaterCascade$Plant", "yields", "[[I", true)
  | 11 => ("WaterCascade$Plant", "mixes", "[I", true)
  | 12 => ("WaterCascade$Plant", "spilledSoFar", "I", false)
  | 13 => ("WaterCascade$Plant", "missedHours", "I", false)
  | 14 => ("WaterCascade$Plant", "latestFlow", "I", false)
  | _ => ("WaterCascade$Plant", "energySoFar", "I", false)
def tyX0 : Nat → FieldType := fun k => match k with
  | 0 => .int
  | 1 => .int
  | 2 => .int
  | 3 => .int
  | 4 => .int
  | 5 => .int
  | 6 => .array .int
  | 7 => .array .int
  | 8 => .array .int
  | 9 => .array (.array .int)
  | 10 => .array (.array .int)
  | 11 => .array .int
  | 12 => .int
  | 13 => .int
  | 14 => .int
  | _ => .int
abbrev wsX00 : List Cond := u_ws RX0 TX0 16
theorem nmX0 : ∀ a, a < 16 → ∀ b, b < 16 → a ≠ b → (TX0 a).2.1 ≠ (TX0 b).2.1 := by decide +kernel
theorem tyX0_ok : ∀ k, k < 16 → parseFieldDescriptor (TX0 k).2.2.1 = some (tyX0 k) := by decide +kernel
abbrev cX0_init : ByteArray := prog_2_method_1_code
def yX0_init : MethodName := ⟨RX0, "<init>", "()V"⟩
abbrev cX0_findMixes : ByteArray := prog_2_method_2_code
def yX0_findMixes : MethodName := ⟨RX0, "findMixes", "()V"⟩
abbrev cX0_mixFor : ByteArray := prog_2_method_3_code
def yX0_mixFor : MethodName := ⟨RX0, "mixFor", "(I)I"⟩
abbrev cX0_waterInPond : ByteArray := prog_2_method_4_code
def yX0_waterInPond : MethodName := ⟨RX0, "waterInPond", "()I"⟩
abbrev cX0_energyAt : ByteArray := prog_2_method_5_code
def yX0_energyAt : MethodName := ⟨RX0, "energyAt", "(II)I"⟩
abbrev cX0_inflowOf : ByteArray := prog_2_method_6_code
def yX0_inflowOf : MethodName := ⟨RX0, "inflowOf", "(I)I"⟩
abbrev cX0_takeArrived : ByteArray := prog_2_method_7_code
def yX0_takeArrived : MethodName := ⟨RX0, "takeArrived", "(II)I"⟩
abbrev cX0_allUnderWay : ByteArray := prog_2_method_8_code
def yX0_allUnderWay : MethodName := ⟨RX0, "allUnderWay", "(I)I"⟩
abbrev cX0_letGo : ByteArray := prog_2_method_9_code
def yX0_letGo : MethodName := ⟨RX0, "letGo", "()V"⟩
abbrev cX0_setParts : ByteArray := prog_2_method_10_code
def yX0_setParts : MethodName := ⟨RX0, "setParts", "(I)V"⟩
abbrev cX0_cutParts : ByteArray := prog_2_method_11_code
def yX0_cutParts : MethodName := ⟨RX0, "cutParts", "(I)V"⟩
abbrev cX0_ownerWithMore : ByteArray := prog_2_method_12_code
def yX0_ownerWithMore : MethodName := ⟨RX0, "ownerWithMore", "()I"⟩
abbrev cX0_spillOver : ByteArray := prog_2_method_13_code
def yX0_spillOver : MethodName := ⟨RX0, "spillOver", "()V"⟩
abbrev cX0_leastRelease : ByteArray := prog_2_method_14_code
def yX0_leastRelease : MethodName := ⟨RX0, "leastRelease", "(I)I"⟩
abbrev cX0_levelBehind : ByteArray := prog_2_method_15_code
def yX0_levelBehind : MethodName := ⟨RX0, "levelBehind", "(II)I"⟩
def RX1 : String := "WaterCascade"
def TX1 : u_T := fun k => match k with
  | 0 => ("WaterCascade", "plants", "[LWaterCascade$Plant;", true)
  | 1 => ("WaterCascade", "inflowSoFar", "[I", true)
  | 2 => ("WaterCascade", "goneSoFar", "[I", true)
  | 3 => ("WaterCascade", "borrowed", "[I", true)
  | 4 => ("WaterCascade", "bestLater", "[I", true)
  | 5 => ("WaterCascade", "bestNow", "[I", true)
  | _ => ("WaterCascade", "nextHour", "I", false)
def tyX1 : Nat → FieldType := fun k => match k with
  | 0 => .array (.object "WaterCascade$Plant")
  | 1 => .array .int
  | 2 => .array .int
  | 3 => .array .int
  | 4 => .array .int
  | 5 => .array .int
  | _ => .int
abbrev wsX10 : List Cond := u_ws RX1 TX1 7
theorem nmX1 : ∀ a, a < 7 → ∀ b, b < 7 → a ≠ b → (TX1 a).2.1 ≠ (TX1 b).2.1 := by decide +kernel
theorem tyX1_ok : ∀ k, k < 7 → parseFieldDescriptor (TX1 k).2.2.1 = some (tyX1 k) := by decide +kernel
abbrev cX1_init : ByteArray := prog_1_method_1_code
def yX1_init : MethodName := ⟨RX1, "<init>", "()V"⟩
abbrev cX1_setPond : ByteArray := prog_1_method_2_code
def yX1_setPond : MethodName := ⟨RX1, "setPond", "(IIII)V"⟩
abbrev cX1_setInflow : ByteArray := prog_1_method_3_code
def yX1_setInflow : MethodName := ⟨RX1, "setInflow", "(III)I"⟩
abbrev cX1_setMinimum : ByteArray := prog_1_method_4_code
def yX1_setMinimum : MethodName := ⟨RX1, "setMinimum", "(II)I"⟩
abbrev cX1_order : ByteArray := prog_1_method_5_code
def yX1_order : MethodName := ⟨RX1, "order", "(III)I"⟩
abbrev cX1_setYield : ByteArray := prog_1_method_6_code
def yX1_setYield : MethodName := ⟨RX1, "setYield", "(IIII)I"⟩
abbrev cX1_run : ByteArray := prog_1_method_7_code
def yX1_run : MethodName := ⟨RX1, "run", "(I)I"⟩
abbrev cX1_hour : ByteArray := prog_1_method_8_code
def yX1_hour : MethodName := ⟨RX1, "hour", "()I"⟩
abbrev cX1_lend : ByteArray := prog_1_method_9_code
def yX1_lend : MethodName := ⟨RX1, "lend", "(III)I"⟩
abbrev cX1_account : ByteArray := prog_1_method_10_code
def yX1_account : MethodName := ⟨RX1, "account", "(II)I"⟩
abbrev cX1_level : ByteArray := prog_1_method_11_code
def yX1_level : MethodName := ⟨RX1, "level", "(I)I"⟩
abbrev cX1_travelling : ByteArray := prog_1_method_12_code
def yX1_travelling : MethodName := ⟨RX1, "travelling", "(II)I"⟩
abbrev cX1_arriving : ByteArray := prog_1_method_13_code
def yX1_arriving : MethodName := ⟨RX1, "arriving", "(III)I"⟩
abbrev cX1_cameIn : ByteArray := prog_1_method_14_code
def yX1_cameIn : MethodName := ⟨RX1, "cameIn", "(I)I"⟩
abbrev cX1_gone : ByteArray := prog_1_method_15_code
def yX1_gone : MethodName := ⟨RX1, "gone", "(I)I"⟩
abbrev cX1_balance : ByteArray := prog_1_method_16_code
def yX1_balance : MethodName := ⟨RX1, "balance", "(I)I"⟩
abbrev cX1_spilled : ByteArray := prog_1_method_17_code
def yX1_spilled : MethodName := ⟨RX1, "spilled", "(I)I"⟩
abbrev cX1_missed : ByteArray := prog_1_method_18_code
def yX1_missed : MethodName := ⟨RX1, "missed", "(I)I"⟩
abbrev cX1_flow : ByteArray := prog_1_method_19_code
def yX1_flow : MethodName := ⟨RX1, "flow", "(I)I"⟩
abbrev cX1_energy : ByteArray := prog_1_method_20_code
def yX1_energy : MethodName := ⟨RX1, "energy", "(I)I"⟩
abbrev cX1_mix : ByteArray := prog_1_method_21_code
def yX1_mix : MethodName := ⟨RX1, "mix", "(II)I"⟩
abbrev cX1_bestEnergy : ByteArray := prog_1_method_22_code
def yX1_bestEnergy : MethodName := ⟨RX1, "bestEnergy", "(I)I"⟩
abbrev cX1_bestEnergyByAll : ByteArray := prog_1_method_23_code
def yX1_bestEnergyByAll : MethodName := ⟨RX1, "bestEnergyByAll", "(I)I"⟩
abbrev cX1_bestRelease : ByteArray := prog_1_method_24_code
def yX1_bestRelease : MethodName := ⟨RX1, "bestRelease", "(I)I"⟩
abbrev cX1_checkRange : ByteArray := prog_1_method_25_code
def yX1_checkRange : MethodName := ⟨RX1, "checkRange", "(III)V"⟩
abbrev cX1_checkPlant : ByteArray := prog_1_method_26_code
def yX1_checkPlant : MethodName := ⟨RX1, "checkPlant", "(I)V"⟩
abbrev cX1_checkLowerPlant : ByteArray := prog_1_method_27_code
def yX1_checkLowerPlant : MethodName := ⟨RX1, "checkLowerPlant", "(I)V"⟩
abbrev cX1_checkOwner : ByteArray := prog_1_method_28_code
def yX1_checkOwner : MethodName := ⟨RX1, "checkOwner", "(I)V"⟩
abbrev cX1_slotOf : ByteArray := prog_1_method_29_code
def yX1_slotOf : MethodName := ⟨RX1, "slotOf", "(I)I"⟩
abbrev cX1_runPlant : ByteArray := prog_1_method_30_code
def yX1_runPlant : MethodName := ⟨RX1, "runPlant", "(I)V"⟩
abbrev cX1_sendOn : ByteArray := prog_1_method_31_code
def yX1_sendOn : MethodName := ⟨RX1, "sendOn", "(II)V"⟩
abbrev cX1_workBackTo : ByteArray := prog_1_method_32_code
def yX1_workBackTo : MethodName := ⟨RX1, "workBackTo", "(I)V"⟩
abbrev cX1_greatestFrom : ByteArray := prog_1_method_33_code
def yX1_greatestFrom : MethodName := ⟨RX1, "greatestFrom", "(I)I"⟩
abbrev cX1_leastBestRelease : ByteArray := prog_1_method_34_code
def yX1_leastBestRelease : MethodName := ⟨RX1, "leastBestRelease", "(I)I"⟩
abbrev cX1_energyFrom : ByteArray := prog_1_method_35_code
def yX1_energyFrom : MethodName := ⟨RX1, "energyFrom", "(II)I"⟩
abbrev cX1_greatestByTrying : ByteArray := prog_1_method_36_code
def yX1_greatestByTrying : MethodName := ⟨RX1, "greatestByTrying", "(LWaterCascade$Plant;II)I"⟩
def RX2 : String := "WaterCascadeModel"
def TX2 : u_T := fun k => match k with
  | 0 => ("WaterCascadeModel", "capacity", "[I", true)
  | 1 => ("WaterCascadeModel", "base", "[I", true)
  | 2 => ("WaterCascadeModel", "travel", "[I", true)
  | 3 => ("WaterCascadeModel", "inflow", "[I", true)
  | 4 => ("WaterCascadeModel", "share", "[I", true)
  | 5 => ("WaterCascadeModel", "minimum", "[I", true)
  | 6 => ("WaterCascadeModel", "orders", "[I", true)
  | 7 => ("WaterCascadeModel", "yields", "[I", true)
  | 8 => ("WaterCascadeModel", "account", "[I", true)
  | 9 => ("WaterCascadeModel", "under", "[I", true)
  | 10 => ("WaterCascadeModel", "hour", "I", false)
  | 11 => ("WaterCascadeModel", "came", "[I", true)
  | 12 => ("WaterCascadeModel", "away", "[I", true)
  | 13 => ("WaterCascadeModel", "lent", "[I", true)
  | 14 => ("WaterCascadeModel", "spilt", "[I", true)
  | 15 => ("WaterCascadeModel", "shorts", "[I", true)
  | 16 => ("WaterCascadeModel", "flows", "[I", true)
  | 17 => ("WaterCascadeModel", "energies", "[I", true)
  | 18 => ("WaterCascadeModel", "best", "[I", true)
  | _ => ("WaterCascadeModel", "thrown", "I", false)
def tyX2 : Nat → FieldType := fun k => match k with
  | 0 => .array .int
  | 1 => .array .int
  | 2 => .array .int
  | 3 => .array .int
  | 4 => .array .int
  | 5 => .array .int
  | 6 => .array .int
  | 7 => .array .int
  | 8 => .array .int
  | 9 => .array .int
  | 10 => .int
  | 11 => .array .int
  | 12 => .array .int
  | 13 => .array .int
  | 14 => .array .int
  | 15 => .array .int
  | 16 => .array .int
  | 17 => .array .int
  | 18 => .array .int
  | _ => .int
abbrev wsX20 : List Cond := u_ws RX2 TX2 20
theorem nmX2 : ∀ a, a < 20 → ∀ b, b < 20 → a ≠ b → (TX2 a).2.1 ≠ (TX2 b).2.1 := by decide +kernel
theorem tyX2_ok : ∀ k, k < 20 → parseFieldDescriptor (TX2 k).2.2.1 = some (tyX2 k) := by decide +kernel
abbrev cX2_init : ByteArray := prog_4_method_1_code
def yX2_init : MethodName := ⟨RX2, "<init>", "()V"⟩
abbrev cX2_thrown : ByteArray := prog_4_method_2_code
def yX2_thrown : MethodName := ⟨RX2, "thrown", "()I"⟩
abbrev cX2_isIn : ByteArray := prog_4_method_3_code
def yX2_isIn : MethodName := ⟨RX2, "isIn", "(III)Z"⟩
abbrev cX2_isPlant : ByteArray := prog_4_method_4_code
def yX2_isPlant : MethodName := ⟨RX2, "isPlant", "(I)Z"⟩
abbrev cX2_isOwner : ByteArray := prog_4_method_5_code
def yX2_isOwner : MethodName := ⟨RX2, "isOwner", "(I)Z"⟩
abbrev cX2_setPond : ByteArray := prog_4_method_6_code
def yX2_setPond : MethodName := ⟨RX2, "setPond", "(IIII)V"⟩
abbrev cX2_setInflow : ByteArray := prog_4_method_7_code
def yX2_setInflow : MethodName := ⟨RX2, "setInflow", "(III)I"⟩
abbrev cX2_setMinimum : ByteArray := prog_4_method_8_code
def yX2_setMinimum : MethodName := ⟨RX2, "setMinimum", "(II)I"⟩
abbrev cX2_order : ByteArray := prog_4_method_9_code
def yX2_order : MethodName := ⟨RX2, "order", "(III)I"⟩
abbrev cX2_setYield : ByteArray := prog_4_method_10_code
def yX2_setYield : MethodName := ⟨RX2, "setYield", "(IIII)I"⟩
abbrev cX2_mixed : ByteArray := prog_4_method_11_code
def yX2_mixed : MethodName := ⟨RX2, "mixed", "(II)I"⟩
abbrev cX2_filled : ByteArray := prog_4_method_12_code
def yX2_filled : MethodName := ⟨RX2, "filled", "(I)I"⟩
abbrev cX2_richer : ByteArray := prog_4_method_13_code
def yX2_richer : MethodName := ⟨RX2, "richer", "(I)I"⟩
abbrev cX2_sends : ByteArray := prog_4_method_14_code
def yX2_sends : MethodName := ⟨RX2, "sends", "(III)V"⟩
abbrev cX2_works : ByteArray := prog_4_method_15_code
def yX2_works : MethodName := ⟨RX2, "works", "(I)V"⟩
abbrev cX2_run : ByteArray := prog_4_method_16_code
def yX2_run : MethodName := ⟨RX2, "run", "(I)I"⟩
abbrev cX2_hour : ByteArray := prog_4_method_17_code
def yX2_hour : MethodName := ⟨RX2, "hour", "()I"⟩
abbrev cX2_lend : ByteArray := prog_4_method_18_code
def yX2_lend : MethodName := ⟨RX2, "lend", "(III)I"⟩
abbrev cX2_account : ByteArray := prog_4_method_19_code
def yX2_account : MethodName := ⟨RX2, "account", "(II)I"⟩
abbrev cX2_asks : ByteArray := prog_4_method_20_code
def yX2_asks : MethodName := ⟨RX2, "asks", "(I)Z"⟩
abbrev cX2_level : ByteArray := prog_4_method_21_code
def yX2_level : MethodName := ⟨RX2, "level", "(I)I"⟩
abbrev cX2_travelling : ByteArray := prog_4_method_22_code
def yX2_travelling : MethodName := ⟨RX2, "travelling", "(II)I"⟩
abbrev cX2_arriving : ByteArray := prog_4_method_23_code
def yX2_arriving : MethodName := ⟨RX2, "arriving", "(III)I"⟩
abbrev cX2_knows : ByteArray := prog_4_method_24_code
def yX2_knows : MethodName := ⟨RX2, "knows", "(I)Z"⟩
abbrev cX2_cameIn : ByteArray := prog_4_method_25_code
def yX2_cameIn : MethodName := ⟨RX2, "cameIn", "(I)I"⟩
abbrev cX2_gone : ByteArray := prog_4_method_26_code
def yX2_gone : MethodName := ⟨RX2, "gone", "(I)I"⟩
abbrev cX2_balance : ByteArray := prog_4_method_27_code
def yX2_balance : MethodName := ⟨RX2, "balance", "(I)I"⟩
abbrev cX2_spilled : ByteArray := prog_4_method_28_code
def yX2_spilled : MethodName := ⟨RX2, "spilled", "(I)I"⟩
abbrev cX2_missed : ByteArray := prog_4_method_29_code
def yX2_missed : MethodName := ⟨RX2, "missed", "(I)I"⟩
abbrev cX2_flow : ByteArray := prog_4_method_30_code
def yX2_flow : MethodName := ⟨RX2, "flow", "(I)I"⟩
abbrev cX2_energy : ByteArray := prog_4_method_31_code
def yX2_energy : MethodName := ⟨RX2, "energy", "(I)I"⟩
abbrev cX2_mix : ByteArray := prog_4_method_32_code
def yX2_mix : MethodName := ⟨RX2, "mix", "(II)I"⟩
abbrev cX2_may : ByteArray := prog_4_method_33_code
def yX2_may : MethodName := ⟨RX2, "may", "(II)Z"⟩
abbrev cX2_comes : ByteArray := prog_4_method_34_code
def yX2_comes : MethodName := ⟨RX2, "comes", "(III)I"⟩
abbrev cX2_lays : ByteArray := prog_4_method_35_code
def yX2_lays : MethodName := ⟨RX2, "lays", "(I)V"⟩
abbrev cX2_greatest : ByteArray := prog_4_method_36_code
def yX2_greatest : MethodName := ⟨RX2, "greatest", "(I)I"⟩
abbrev cX2_bestEnergy : ByteArray := prog_4_method_37_code
def yX2_bestEnergy : MethodName := ⟨RX2, "bestEnergy", "(I)I"⟩
abbrev cX2_bestEnergyByAll : ByteArray := prog_4_method_38_code
def yX2_bestEnergyByAll : MethodName := ⟨RX2, "bestEnergyByAll", "(I)I"⟩
abbrev cX2_bestRelease : ByteArray := prog_4_method_39_code
def yX2_bestRelease : MethodName := ⟨RX2, "bestRelease", "(I)I"⟩
def RJ9 : String := "java/lang/Math"
def TJ9 : u_T := fun k => match k with
  | _ => ("", "", "", false)
def tyJ9 : Nat → FieldType := fun k => match k with
  | _ => .int
abbrev wsJ90 : List Cond := u_ws RJ9 TJ9 0
theorem nmJ9 : ∀ a, a < 0 → ∀ b, b < 0 → a ≠ b → (TJ9 a).2.1 ≠ (TJ9 b).2.1 := by decide +kernel
theorem tyJ9_ok : ∀ k, k < 0 → parseFieldDescriptor (TJ9 k).2.2.1 = some (tyJ9 k) := by decide +kernel
abbrev cJ9_floorMod_7cf53 : ByteArray := prog_8_method_50_code
def yJ9_floorMod_7cf53 : MethodName := ⟨RJ9, "floorMod", "(II)I"⟩
abbrev cJ9_max_7cf53 : ByteArray := prog_8_method_65_code
def yJ9_max_7cf53 : MethodName := ⟨RJ9, "max", "(II)I"⟩
abbrev cJ9_min_7cf53 : ByteArray := prog_8_method_69_code
def yJ9_min_7cf53 : MethodName := ⟨RJ9, "min", "(II)I"⟩
def RJ0 : String := "java/lang/String"
def TJ0 : u_T := fun k => match k with
  | _ => ("", "", "", false)
def tyJ0 : Nat → FieldType := fun k => match k with
  | _ => .int
abbrev wsJ00 : List Cond := u_ws RJ0 TJ0 0
theorem nmJ0 : ∀ a, a < 0 → ∀ b, b < 0 → a ≠ b → (TJ0 a).2.1 ≠ (TJ0 b).2.1 := by decide +kernel
theorem tyJ0_ok : ∀ k, k < 0 → parseFieldDescriptor (TJ0 k).2.2.1 = some (tyJ0 k) := by decide +kernel
def RJ10 : String := "java/lang/System"
def TJ10 : u_T := fun k => match k with
  | _ => ("", "", "", false)
def tyJ10 : Nat → FieldType := fun k => match k with
  | _ => .int
abbrev wsJ100 : List Cond := u_ws RJ10 TJ10 0
theorem nmJ10 : ∀ a, a < 0 → ∀ b, b < 0 → a ≠ b → (TJ10 a).2.1 ≠ (TJ10 b).2.1 := by decide +kernel
theorem tyJ10_ok : ∀ k, k < 0 → parseFieldDescriptor (TJ10 k).2.2.1 = some (tyJ10 k) := by decide +kernel
def RL : String := "WaterCascadeLaw"
abbrev cL_setPond : ByteArray := method_3_code
def yL_setPond : MethodName := ⟨RL, "setPond", "(LWaterCascade;IIII)I"⟩
abbrev cL_setInflow : ByteArray := method_4_code
def yL_setInflow : MethodName := ⟨RL, "setInflow", "(LWaterCascade;III[J)I"⟩
abbrev cL_setMinimum : ByteArray := method_5_code
def yL_setMinimum : MethodName := ⟨RL, "setMinimum", "(LWaterCascade;II[J)I"⟩
abbrev cL_order : ByteArray := method_6_code
def yL_order : MethodName := ⟨RL, "order", "(LWaterCascade;III[J)I"⟩
abbrev cL_setYield : ByteArray := method_7_code
def yL_setYield : MethodName := ⟨RL, "setYield", "(LWaterCascade;IIII[J)I"⟩
abbrev cL_run : ByteArray := method_8_code
def yL_run : MethodName := ⟨RL, "run", "(LWaterCascade;I[J)I"⟩
abbrev cL_lend : ByteArray := method_9_code
def yL_lend : MethodName := ⟨RL, "lend", "(LWaterCascade;III[J)I"⟩
abbrev cL_account : ByteArray := method_10_code
def yL_account : MethodName := ⟨RL, "account", "(LWaterCascade;II[J)I"⟩
abbrev cL_level : ByteArray := method_11_code
def yL_level : MethodName := ⟨RL, "level", "(LWaterCascade;I[J)I"⟩
abbrev cL_travelling : ByteArray := method_12_code
def yL_travelling : MethodName := ⟨RL, "travelling", "(LWaterCascade;II[J)I"⟩
abbrev cL_arriving : ByteArray := method_13_code
def yL_arriving : MethodName := ⟨RL, "arriving", "(LWaterCascade;III[J)I"⟩
abbrev cL_cameIn : ByteArray := method_14_code
def yL_cameIn : MethodName := ⟨RL, "cameIn", "(LWaterCascade;I[J)I"⟩
abbrev cL_gone : ByteArray := method_15_code
def yL_gone : MethodName := ⟨RL, "gone", "(LWaterCascade;I[J)I"⟩
abbrev cL_balance : ByteArray := method_16_code
def yL_balance : MethodName := ⟨RL, "balance", "(LWaterCascade;I[J)I"⟩
abbrev cL_spilled : ByteArray := method_17_code
def yL_spilled : MethodName := ⟨RL, "spilled", "(LWaterCascade;I[J)I"⟩
abbrev cL_missed : ByteArray := method_18_code
def yL_missed : MethodName := ⟨RL, "missed", "(LWaterCascade;I[J)I"⟩
abbrev cL_flow : ByteArray := method_19_code
def yL_flow : MethodName := ⟨RL, "flow", "(LWaterCascade;I[J)I"⟩
abbrev cL_energy : ByteArray := method_20_code
def yL_energy : MethodName := ⟨RL, "energy", "(LWaterCascade;I[J)I"⟩
abbrev cL_mix : ByteArray := method_21_code
def yL_mix : MethodName := ⟨RL, "mix", "(LWaterCascade;II[J)I"⟩
abbrev cL_bestEnergy : ByteArray := method_22_code
def yL_bestEnergy : MethodName := ⟨RL, "bestEnergy", "(LWaterCascade;I[J)I"⟩
abbrev cL_bestEnergyByAll : ByteArray := method_23_code
def yL_bestEnergyByAll : MethodName := ⟨RL, "bestEnergyByAll", "(LWaterCascade;I[J)I"⟩
abbrev cL_bestRelease : ByteArray := method_24_code
def yL_bestRelease : MethodName := ⟨RL, "bestRelease", "(LWaterCascade;I[J)I"⟩
abbrev cL_law : ByteArray := code
def yL_law : MethodName := ⟨RL, "law", "([I)Z"⟩
end
section
theorem dX0_init_0 : decode cX0_init 0 = .ok (.aload_n 0, 1) := by decide +kernel
theorem dX0_init_1 : decode cX0_init 1 = .ok (.invokespecial 3, 3) := by decide +kernel
theorem dX0_init_4 : decode cX0_init 4 = .ok (.aload_n 0, 1) := by decide +kernel
theorem dX0_init_5 : decode cX0_init 5 = .ok (.bipush 100, 2) := by decide +kernel
theorem dX0_init_7 : decode cX0_init 7 = .ok (.putfield 9, 3) := by decide +kernel
theorem dX0_init_10 : decode cX0_init 10 = .ok (.aload_n 0, 1) := by decide +kernel
theorem dX0_init_11 : decode cX0_init 11 = .ok (.bipush 10, 2) := by decide +kernel
theorem dX0_init_13 : decode cX0_init 13 = .ok (.putfield 15, 3) := by decide +kernel
theorem dX0_init_16 : decode cX0_init 16 = .ok (.aload_n 0, 1) := by decide +kernel
theorem dX0_init_17 : decode cX0_init 17 = .ok (.iconst 1, 1) := by decide +kernel
theorem dX0_init_18 : decode cX0_init 18 = .ok (.putfield 18, 3) := by decide +kernel
theorem dX0_init_21 : decode cX0_init 21 = .ok (.aload_n 0, 1) := by decide +kernel
theorem dX0_init_22 : decode cX0_init 22 = .ok (.bipush 50, 2) := by decide +kernel
theorem dX0_init_24 : decode cX0_init 24 = .ok (.putfield 21, 3) := by decide +kernel
theorem dX0_init_27 : decode cX0_init 27 = .ok (.aload_n 0, 1) := by decide +kernel
theorem dX0_init_28 : decode cX0_init 28 = .ok (.iconst 2, 1) := by decide +kernel
theorem dX0_init_29 : decode cX0_init 29 = .ok (.newarray .int, 2) := by decide +kernel
theorem dX0_init_31 : decode cX0_init 31 = .ok (.putfield 24, 3) := by decide +kernel
theorem dX0_init_34 : decode cX0_init 34 = .ok (.aload_n 0, 1) := by decide +kernel
theorem dX0_init_35 : decode cX0_init 35 = .ok (.iconst 2, 1) := by decide +kernel
theorem dX0_init_36 : decode cX0_init 36 = .ok (.newarray .int, 2) := by decide +kernel
theorem dX0_init_38 : decode cX0_init 38 = .ok (.putfield 28, 3) := by decide +kernel
theorem dX0_init_41 : decode cX0_init 41 = .ok (.aload_n 0, 1) := by decide +kernel
theorem dX0_init_42 : decode cX0_init 42 = .ok (.iconst 2, 1) := by decide +kernel
theorem dX0_init_43 : decode cX0_init 43 = .ok (.newarray .int, 2) := by decide +kernel
theorem dX0_init_45 : decode cX0_init 45 = .ok (.putfield 31, 3) := by decide +kernel
theorem dX0_init_48 : decode cX0_init 48 = .ok (.aload_n 0, 1) := by decide +kernel
theorem dX0_init_49 : decode cX0_init 49 = .ok (.iconst 2, 1) := by decide +kernel
theorem dX0_init_50 : decode cX0_init 50 = .ok (.bipush 6, 2) := by decide +kernel
theorem dX0_init_52 : decode cX0_init 52 = .ok (.multianewarray 34 2, 4) := by decide +kernel
theorem dX0_init_56 : decode cX0_init 56 = .ok (.putfield 36, 3) := by decide +kernel
theorem dX0_init_59 : decode cX0_init 59 = .ok (.aload_n 0, 1) := by decide +kernel
theorem dX0_init_60 : decode cX0_init 60 = .ok (.iconst 2, 1) := by decide +kernel
theorem dX0_init_61 : decode cX0_init 61 = .ok (.bipush 9, 2) := by decide +kernel
theorem dX0_init_63 : decode cX0_init 63 = .ok (.multianewarray 34 2, 4) := by decide +kernel
theorem dX0_init_67 : decode cX0_init 67 = .ok (.putfield 39, 3) := by decide +kernel
theorem dX0_init_70 : decode cX0_init 70 = .ok (.aload_n 0, 1) := by decide +kernel
theorem dX0_init_71 : decode cX0_init 71 = .ok (.bipush 17, 2) := by decide +kernel
theorem dX0_init_73 : decode cX0_init 73 = .ok (.newarray .int, 2) := by decide +kernel
theorem dX0_init_75 : decode cX0_init 75 = .ok (.putfield 42, 3) := by decide +kernel
theorem dX0_init_78 : decode cX0_init 78 = .ok (.iconst 0, 1) := by decide +kernel
theorem dX0_init_79 : decode cX0_init 79 = .ok (.istore_n 1, 1) := by decide +kernel
theorem dX0_init_80 : decode cX0_init 80 = .ok (.iload_n 1, 1) := by decide +kernel
theorem dX0_init_81 : decode cX0_init 81 = .ok (.bipush 8, 2) := by decide +kernel
theorem dX0_init_83 : decode cX0_init 83 = .ok (.if_icmp .gt 33, 3) := by decide +kernel
theorem dX0_init_86 : decode cX0_init 86 = .ok (.aload_n 0, 1) := by decide +kernel
theorem dX0_init_87 : decode cX0_init 87 = .ok (.getfield 39, 3) := by decide +kernel
theorem dX0_init_90 : decode cX0_init 90 = .ok (.iconst 0, 1) := by decide +kernel
theorem dX0_init_91 : decode cX0_init 91 = .ok (.aaload, 1) := by decide +kernel
theorem dX0_init_92 : decode cX0_init 92 = .ok (.iload_n 1, 1) := by decide +kernel
theorem dX0_init_93 : decode cX0_init 93 = .ok (.bipush 10, 2) := by decide +kernel
theorem dX0_init_95 : decode cX0_init 95 = .ok (.iload_n 1, 1) := by decide +kernel
theorem dX0_init_96 : decode cX0_init 96 = .ok (.imul, 1) := by decide +kernel
theorem dX0_init_97 : decode cX0_init 97 = .ok (.iastore, 1) := by decide +kernel
theorem dX0_init_98 : decode cX0_init 98 = .ok (.aload_n 0, 1) := by decide +kernel
theorem dX0_init_99 : decode cX0_init 99 = .ok (.getfield 39, 3) := by decide +kernel
theorem dX0_init_102 : decode cX0_init 102 = .ok (.iconst 1, 1) := by decide +kernel
theorem dX0_init_103 : decode cX0_init 103 = .ok (.aaload, 1) := by decide +kernel
theorem dX0_init_104 : decode cX0_init 104 = .ok (.iload_n 1, 1) := by decide +kernel
theorem dX0_init_105 : decode cX0_init 105 = .ok (.bipush 10, 2) := by decide +kernel
theorem dX0_init_107 : decode cX0_init 107 = .ok (.iload_n 1, 1) := by decide +kernel
theorem dX0_init_108 : decode cX0_init 108 = .ok (.imul, 1) := by decide +kernel
theorem dX0_init_109 : decode cX0_init 109 = .ok (.iastore, 1) := by decide +kernel
theorem dX0_init_110 : decode cX0_init 110 = .ok (.iinc 1 1, 3) := by decide +kernel
theorem dX0_init_113 : decode cX0_init 113 = .ok (.goto (-33), 3) := by decide +kernel
theorem dX0_init_116 : decode cX0_init 116 = .ok (.aload_n 0, 1) := by decide +kernel
theorem dX0_init_117 : decode cX0_init 117 = .ok (.invokevirtual 45, 3) := by decide +kernel
theorem dX0_init_120 : decode cX0_init 120 = .ok (.return_, 1) := by decide +kernel
theorem dX0_findMixes_0 : decode cX0_findMixes 0 = .ok (.iconst 0, 1) := by decide +kernel
theorem dX0_findMixes_1 : decode cX0_findMixes 1 = .ok (.istore_n 1, 1) := by decide +kernel
theorem dX0_findMixes_2 : decode cX0_findMixes 2 = .ok (.iload_n 1, 1) := by decide +kernel
theorem dX0_findMixes_3 : decode cX0_findMixes 3 = .ok (.bipush 16, 2) := by decide +kernel
theorem dX0_findMixes_5 : decode cX0_findMixes 5 = .ok (.if_icmp .gt 16, 3) := by decide +kernel
theorem dX0_findMixes_8 : decode cX0_findMixes 8 = .ok (.aload_n 0, 1) := by decide +kernel
theorem dX0_findMixes_9 : decode cX0_findMixes 9 = .ok (.getfield 42, 3) := by decide +kernel
theorem dX0_findMixes_12 : decode cX0_findMixes 12 = .ok (.iload_n 1, 1) := by decide +kernel
theorem dX0_findMixes_13 : decode cX0_findMixes 13 = .ok (.iconst 0, 1) := by decide +kernel
theorem dX0_findMixes_14 : decode cX0_findMixes 14 = .ok (.iastore, 1) := by decide +kernel
theorem dX0_findMixes_15 : decode cX0_findMixes 15 = .ok (.iinc 1 1, 3) := by decide +kernel
theorem dX0_findMixes_18 : decode cX0_findMixes 18 = .ok (.goto (-16), 3) := by decide +kernel
theorem dX0_findMixes_21 : decode cX0_findMixes 21 = .ok (.iconst 0, 1) := by decide +kernel
theorem dX0_findMixes_22 : decode cX0_findMixes 22 = .ok (.istore_n 1, 1) := by decide +kernel
theorem dX0_findMixes_23 : decode cX0_findMixes 23 = .ok (.iload_n 1, 1) := by decide +kernel
theorem dX0_findMixes_24 : decode cX0_findMixes 24 = .ok (.bipush 8, 2) := by decide +kernel
theorem dX0_findMixes_26 : decode cX0_findMixes 26 = .ok (.if_icmp .gt 61, 3) := by decide +kernel
theorem dX0_findMixes_29 : decode cX0_findMixes 29 = .ok (.iconst 0, 1) := by decide +kernel
theorem dX0_findMixes_30 : decode cX0_findMixes 30 = .ok (.istore_n 2, 1) := by decide +kernel
theorem dX0_findMixes_31 : decode cX0_findMixes 31 = .ok (.iload_n 2, 1) := by decide +kernel
theorem dX0_findMixes_32 : decode cX0_findMixes 32 = .ok (.bipush 8, 2) := by decide +kernel
theorem dX0_findMixes_34 : decode cX0_findMixes 34 = .ok (.if_icmp .gt 47, 3) := by decide +kernel
theorem dX0_findMixes_37 : decode cX0_findMixes 37 = .ok (.aload_n 0, 1) := by decide +kernel
theorem dX0_findMixes_38 : decode cX0_findMixes 38 = .ok (.getfield 39, 3) := by decide +kernel
theorem dX0_findMixes_41 : decode cX0_findMixes 41 = .ok (.iconst 0, 1) := by decide +kernel
theorem dX0_findMixes_42 : decode cX0_findMixes 42 = .ok (.aaload, 1) := by decide +kernel
theorem dX0_findMixes_43 : decode cX0_findMixes 43 = .ok (.iload_n 1, 1) := by decide +kernel
theorem dX0_findMixes_44 : decode cX0_findMixes 44 = .ok (.iaload, 1) := by decide +kernel
theorem dX0_findMixes_45 : decode cX0_findMixes 45 = .ok (.aload_n 0, 1) := by decide +kernel
theorem dX0_findMixes_46 : decode cX0_findMixes 46 = .ok (.getfield 39, 3) := by decide +kernel
theorem dX0_findMixes_49 : decode cX0_findMixes 49 = .ok (.iconst 1, 1) := by decide +kernel
theorem dX0_findMixes_50 : decode cX0_findMixes 50 = .ok (.aaload, 1) := by decide +kernel
theorem dX0_findMixes_51 : decode cX0_findMixes 51 = .ok (.iload_n 2, 1) := by decide +kernel
theorem dX0_findMixes_52 : decode cX0_findMixes 52 = .ok (.iaload, 1) := by decide +kernel
theorem dX0_findMixes_53 : decode cX0_findMixes 53 = .ok (.iadd, 1) := by decide +kernel
theorem dX0_findMixes_54 : decode cX0_findMixes 54 = .ok (.istore_n 3, 1) := by decide +kernel
theorem dX0_findMixes_55 : decode cX0_findMixes 55 = .ok (.aload_n 0, 1) := by decide +kernel
theorem dX0_findMixes_56 : decode cX0_findMixes 56 = .ok (.getfield 42, 3) := by decide +kernel
theorem dX0_findMixes_59 : decode cX0_findMixes 59 = .ok (.iload_n 1, 1) := by decide +kernel
theorem dX0_findMixes_60 : decode cX0_findMixes 60 = .ok (.iload_n 2, 1) := by decide +kernel
theorem dX0_findMixes_61 : decode cX0_findMixes 61 = .ok (.iadd, 1) := by decide +kernel
theorem dX0_findMixes_62 : decode cX0_findMixes 62 = .ok (.aload_n 0, 1) := by decide +kernel
theorem dX0_findMixes_63 : decode cX0_findMixes 63 = .ok (.getfield 42, 3) := by decide +kernel
theorem dX0_findMixes_66 : decode cX0_findMixes 66 = .ok (.iload_n 1, 1) := by decide +kernel
theorem dX0_findMixes_67 : decode cX0_findMixes 67 = .ok (.iload_n 2, 1) := by decide +kernel
theorem dX0_findMixes_68 : decode cX0_findMixes 68 = .ok (.iadd, 1) := by decide +kernel
theorem dX0_findMixes_69 : decode cX0_findMixes 69 = .ok (.iaload, 1) := by decide +kernel
theorem dX0_findMixes_70 : decode cX0_findMixes 70 = .ok (.iload_n 3, 1) := by decide +kernel
theorem dX0_findMixes_71 : decode cX0_findMixes 71 = .ok (.invokestatic 48, 3) := by decide +kernel
theorem dX0_findMixes_74 : decode cX0_findMixes 74 = .ok (.iastore, 1) := by decide +kernel
theorem dX0_findMixes_75 : decode cX0_findMixes 75 = .ok (.iinc 2 1, 3) := by decide +kernel
theorem dX0_findMixes_78 : decode cX0_findMixes 78 = .ok (.goto (-47), 3) := by decide +kernel
theorem dX0_findMixes_81 : decode cX0_findMixes 81 = .ok (.iinc 1 1, 3) := by decide +kernel
theorem dX0_findMixes_84 : decode cX0_findMixes 84 = .ok (.goto (-61), 3) := by decide +kernel
theorem dX0_findMixes_87 : decode cX0_findMixes 87 = .ok (.iconst 1, 1) := by decide +kernel
theorem dX0_findMixes_88 : decode cX0_findMixes 88 = .ok (.istore_n 1, 1) := by decide +kernel
theorem dX0_findMixes_89 : decode cX0_findMixes 89 = .ok (.iload_n 1, 1) := by decide +kernel
theorem dX0_findMixes_90 : decode cX0_findMixes 90 = .ok (.bipush 16, 2) := by decide +kernel
theorem dX0_findMixes_92 : decode cX0_findMixes 92 = .ok (.if_icmp .gt 32, 3) := by decide +kernel
theorem dX0_findMixes_95 : decode cX0_findMixes 95 = .ok (.aload_n 0, 1) := by decide +kernel
theorem dX0_findMixes_96 : decode cX0_findMixes 96 = .ok (.getfield 42, 3) := by decide +kernel
theorem dX0_findMixes_99 : decode cX0_findMixes 99 = .ok (.iload_n 1, 1) := by decide +kernel
theorem dX0_findMixes_100 : decode cX0_findMixes 100 = .ok (.aload_n 0, 1) := by decide +kernel
theorem dX0_findMixes_101 : decode cX0_findMixes 101 = .ok (.getfield 42, 3) := by decide +kernel
theorem dX0_findMixes_104 : decode cX0_findMixes 104 = .ok (.iload_n 1, 1) := by decide +kernel
theorem dX0_findMixes_105 : decode cX0_findMixes 105 = .ok (.iaload, 1) := by decide +kernel
theorem dX0_findMixes_106 : decode cX0_findMixes 106 = .ok (.aload_n 0, 1) := by decide +kernel
theorem dX0_findMixes_107 : decode cX0_findMixes 107 = .ok (.getfield 42, 3) := by decide +kernel
theorem dX0_findMixes_110 : decode cX0_findMixes 110 = .ok (.iload_n 1, 1) := by decide +kernel
theorem dX0_findMixes_111 : decode cX0_findMixes 111 = .ok (.iconst 1, 1) := by decide +kernel
theorem dX0_findMixes_112 : decode cX0_findMixes 112 = .ok (.isub, 1) := by decide +kernel
theorem dX0_findMixes_113 : decode cX0_findMixes 113 = .ok (.iaload, 1) := by decide +kernel
theorem dX0_findMixes_114 : decode cX0_findMixes 114 = .ok (.invokestatic 48, 3) := by decide +kernel
theorem dX0_findMixes_117 : decode cX0_findMixes 117 = .ok (.iastore, 1) := by decide +kernel
theorem dX0_findMixes_118 : decode cX0_findMixes 118 = .ok (.iinc 1 1, 3) := by decide +kernel
theorem dX0_findMixes_121 : decode cX0_findMixes 121 = .ok (.goto (-32), 3) := by decide +kernel
theorem dX0_findMixes_124 : decode cX0_findMixes 124 = .ok (.return_, 1) := by decide +kernel
theorem dX0_mixFor_0 : decode cX0_mixFor 0 = .ok (.iload_n 1, 1) := by decide +kernel
theorem dX0_mixFor_1 : decode cX0_mixFor 1 = .ok (.ifCond .lt 9, 3) := by decide +kernel
theorem dX0_mixFor_4 : decode cX0_mixFor 4 = .ok (.iload_n 1, 1) := by decide +kernel
theorem dX0_mixFor_5 : decode cX0_mixFor 5 = .ok (.bipush 16, 2) := by decide +kernel
theorem dX0_mixFor_7 : decode cX0_mixFor 7 = .ok (.if_icmp .le 7, 3) := by decide +kernel
theorem dX0_mixFor_10 : decode cX0_mixFor 10 = .ok (.iconst 0, 1) := by decide +kernel
theorem dX0_mixFor_11 : decode cX0_mixFor 11 = .ok (.goto 9, 3) := by decide +kernel
theorem dX0_mixFor_14 : decode cX0_mixFor 14 = .ok (.aload_n 0, 1) := by decide +kernel
theorem dX0_mixFor_15 : decode cX0_mixFor 15 = .ok (.getfield 42, 3) := by decide +kernel
theorem dX0_mixFor_18 : decode cX0_mixFor 18 = .ok (.iload_n 1, 1) := by decide +kernel
theorem dX0_mixFor_19 : decode cX0_mixFor 19 = .ok (.iaload, 1) := by decide +kernel
theorem dX0_mixFor_20 : decode cX0_mixFor 20 = .ok (.ireturn, 1) := by decide +kernel
theorem dX0_waterInPond_0 : decode cX0_waterInPond 0 = .ok (.aload_n 0, 1) := by decide +kernel
theorem dX0_waterInPond_1 : decode cX0_waterInPond 1 = .ok (.getfield 28, 3) := by decide +kernel
theorem dX0_waterInPond_4 : decode cX0_waterInPond 4 = .ok (.iconst 0, 1) := by decide +kernel
theorem dX0_waterInPond_5 : decode cX0_waterInPond 5 = .ok (.iaload, 1) := by decide +kernel
theorem dX0_waterInPond_6 : decode cX0_waterInPond 6 = .ok (.aload_n 0, 1) := by decide +kernel
theorem dX0_waterInPond_7 : decode cX0_waterInPond 7 = .ok (.getfield 28, 3) := by decide +kernel
theorem dX0_waterInPond_10 : decode cX0_waterInPond 10 = .ok (.iconst 1, 1) := by decide +kernel
theorem dX0_waterInPond_11 : decode cX0_waterInPond 11 = .ok (.iaload, 1) := by decide +kernel
theorem dX0_waterInPond_12 : decode cX0_waterInPond 12 = .ok (.iadd, 1) := by decide +kernel
theorem dX0_waterInPond_13 : decode cX0_waterInPond 13 = .ok (.ireturn, 1) := by decide +kernel
theorem dX0_energyAt_0 : decode cX0_energyAt 0 = .ok (.aload_n 0, 1) := by decide +kernel
theorem dX0_energyAt_1 : decode cX0_energyAt 1 = .ok (.iload_n 2, 1) := by decide +kernel
theorem dX0_energyAt_2 : decode cX0_energyAt 2 = .ok (.invokevirtual 54, 3) := by decide +kernel
theorem dX0_energyAt_5 : decode cX0_energyAt 5 = .ok (.aload_n 0, 1) := by decide +kernel
theorem dX0_energyAt_6 : decode cX0_energyAt 6 = .ok (.getfield 15, 3) := by decide +kernel
theorem dX0_energyAt_9 : decode cX0_energyAt 9 = .ok (.iload_n 1, 1) := by decide +kernel
theorem dX0_energyAt_10 : decode cX0_energyAt 10 = .ok (.iconst 5, 1) := by decide +kernel
theorem dX0_energyAt_11 : decode cX0_energyAt 11 = .ok (.idiv, 1) := by decide +kernel
theorem dX0_energyAt_12 : decode cX0_energyAt 12 = .ok (.iadd, 1) := by decide +kernel
theorem dX0_energyAt_13 : decode cX0_energyAt 13 = .ok (.imul, 1) := by decide +kernel
theorem dX0_energyAt_14 : decode cX0_energyAt 14 = .ok (.bipush 10, 2) := by decide +kernel
theorem dX0_energyAt_16 : decode cX0_energyAt 16 = .ok (.idiv, 1) := by decide +kernel
theorem dX0_energyAt_17 : decode cX0_energyAt 17 = .ok (.ireturn, 1) := by decide +kernel
theorem dX0_inflowOf_0 : decode cX0_inflowOf 0 = .ok (.aload_n 0, 1) := by decide +kernel
theorem dX0_inflowOf_1 : decode cX0_inflowOf 1 = .ok (.getfield 58, 3) := by decide +kernel
theorem dX0_inflowOf_4 : decode cX0_inflowOf 4 = .ok (.aload_n 0, 1) := by decide +kernel
theorem dX0_inflowOf_5 : decode cX0_inflowOf 5 = .ok (.getfield 21, 3) := by decide +kernel
theorem dX0_inflowOf_8 : decode cX0_inflowOf 8 = .ok (.imul, 1) := by decide +kernel
theorem dX0_inflowOf_9 : decode cX0_inflowOf 9 = .ok (.bipush 100, 2) := by decide +kernel
theorem dX0_inflowOf_11 : decode cX0_inflowOf 11 = .ok (.idiv, 1) := by decide +kernel
theorem dX0_inflowOf_12 : decode cX0_inflowOf 12 = .ok (.istore_n 2, 1) := by decide +kernel
theorem dX0_inflowOf_13 : decode cX0_inflowOf 13 = .ok (.iload_n 1, 1) := by decide +kernel
theorem dX0_inflowOf_14 : decode cX0_inflowOf 14 = .ok (.ifCond .ne 7, 3) := by decide +kernel
theorem dX0_inflowOf_17 : decode cX0_inflowOf 17 = .ok (.iload_n 2, 1) := by decide +kernel
theorem dX0_inflowOf_18 : decode cX0_inflowOf 18 = .ok (.goto 9, 3) := by decide +kernel
theorem dX0_inflowOf_21 : decode cX0_inflowOf 21 = .ok (.aload_n 0, 1) := by decide +kernel
theorem dX0_inflowOf_22 : decode cX0_inflowOf 22 = .ok (.getfield 58, 3) := by decide +kernel
theorem dX0_inflowOf_25 : decode cX0_inflowOf 25 = .ok (.iload_n 2, 1) := by decide +kernel
theorem dX0_inflowOf_26 : decode cX0_inflowOf 26 = .ok (.isub, 1) := by decide +kernel
theorem dX0_inflowOf_27 : decode cX0_inflowOf 27 = .ok (.ireturn, 1) := by decide +kernel
theorem dX0_takeArrived_0 : decode cX0_takeArrived 0 = .ok (.aload_n 0, 1) := by decide +kernel
theorem dX0_takeArrived_1 : decode cX0_takeArrived 1 = .ok (.getfield 36, 3) := by decide +kernel
theorem dX0_takeArrived_4 : decode cX0_takeArrived 4 = .ok (.iload_n 1, 1) := by decide +kernel
theorem dX0_takeArrived_5 : decode cX0_takeArrived 5 = .ok (.aaload, 1) := by decide +kernel
theorem dX0_takeArrived_6 : decode cX0_takeArrived 6 = .ok (.iload_n 2, 1) := by decide +kernel
theorem dX0_takeArrived_7 : decode cX0_takeArrived 7 = .ok (.iaload, 1) := by decide +kernel
theorem dX0_takeArrived_8 : decode cX0_takeArrived 8 = .ok (.istore_n 3, 1) := by decide +kernel
theorem dX0_takeArrived_9 : decode cX0_takeArrived 9 = .ok (.aload_n 0, 1) := by decide +kernel
theorem dX0_takeArrived_10 : decode cX0_takeArrived 10 = .ok (.getfield 36, 3) := by decide +kernel
theorem dX0_takeArrived_13 : decode cX0_takeArrived 13 = .ok (.iload_n 1, 1) := by decide +kernel
theorem dX0_takeArrived_14 : decode cX0_takeArrived 14 = .ok (.aaload, 1) := by decide +kernel
theorem dX0_takeArrived_15 : decode cX0_takeArrived 15 = .ok (.iload_n 2, 1) := by decide +kernel
theorem dX0_takeArrived_16 : decode cX0_takeArrived 16 = .ok (.iconst 0, 1) := by decide +kernel
theorem dX0_takeArrived_17 : decode cX0_takeArrived 17 = .ok (.iastore, 1) := by decide +kernel
theorem dX0_takeArrived_18 : decode cX0_takeArrived 18 = .ok (.iload_n 3, 1) := by decide +kernel
theorem dX0_takeArrived_19 : decode cX0_takeArrived 19 = .ok (.ireturn, 1) := by decide +kernel
theorem dX0_allUnderWay_0 : decode cX0_allUnderWay 0 = .ok (.iconst 0, 1) := by decide +kernel
theorem dX0_allUnderWay_1 : decode cX0_allUnderWay 1 = .ok (.istore_n 2, 1) := by decide +kernel
theorem dX0_allUnderWay_2 : decode cX0_allUnderWay 2 = .ok (.iconst 0, 1) := by decide +kernel
theorem dX0_allUnderWay_3 : decode cX0_allUnderWay 3 = .ok (.istore_n 3, 1) := by decide +kernel
theorem dX0_allUnderWay_4 : decode cX0_allUnderWay 4 = .ok (.iload_n 3, 1) := by decide +kernel
theorem dX0_allUnderWay_5 : decode cX0_allUnderWay 5 = .ok (.bipush 6, 2) := by decide +kernel
theorem dX0_allUnderWay_7 : decode cX0_allUnderWay 7 = .ok (.if_icmp .ge 20, 3) := by decide +kernel
theorem dX0_allUnderWay_10 : decode cX0_allUnderWay 10 = .ok (.iload_n 2, 1) := by decide +kernel
theorem dX0_allUnderWay_11 : decode cX0_allUnderWay 11 = .ok (.aload_n 0, 1) := by decide +kernel
theorem dX0_allUnderWay_12 : decode cX0_allUnderWay 12 = .ok (.getfield 36, 3) := by decide +kernel
theorem dX0_allUnderWay_15 : decode cX0_allUnderWay 15 = .ok (.iload_n 1, 1) := by decide +kernel
theorem dX0_allUnderWay_16 : decode cX0_allUnderWay 16 = .ok (.aaload, 1) := by decide +kernel
theorem dX0_allUnderWay_17 : decode cX0_allUnderWay 17 = .ok (.iload_n 3, 1) := by decide +kernel
theorem dX0_allUnderWay_18 : decode cX0_allUnderWay 18 = .ok (.iaload, 1) := by decide +kernel
theorem dX0_allUnderWay_19 : decode cX0_allUnderWay 19 = .ok (.iadd, 1) := by decide +kernel
theorem dX0_allUnderWay_20 : decode cX0_allUnderWay 20 = .ok (.istore_n 2, 1) := by decide +kernel
theorem dX0_allUnderWay_21 : decode cX0_allUnderWay 21 = .ok (.iinc 3 1, 3) := by decide +kernel
theorem dX0_allUnderWay_24 : decode cX0_allUnderWay 24 = .ok (.goto (-20), 3) := by decide +kernel
theorem dX0_allUnderWay_27 : decode cX0_allUnderWay 27 = .ok (.iload_n 2, 1) := by decide +kernel
theorem dX0_allUnderWay_28 : decode cX0_allUnderWay 28 = .ok (.ireturn, 1) := by decide +kernel
theorem dX0_letGo_0 : decode cX0_letGo 0 = .ok (.aload_n 0, 1) := by decide +kernel
theorem dX0_letGo_1 : decode cX0_letGo 1 = .ok (.invokevirtual 61, 3) := by decide +kernel
theorem dX0_letGo_4 : decode cX0_letGo 4 = .ok (.istore_n 1, 1) := by decide +kernel
theorem dX0_letGo_5 : decode cX0_letGo 5 = .ok (.aload_n 0, 1) := by decide +kernel
theorem dX0_letGo_6 : decode cX0_letGo 6 = .ok (.iload_n 1, 1) := by decide +kernel
theorem dX0_letGo_7 : decode cX0_letGo 7 = .ok (.invokevirtual 65, 3) := by decide +kernel
theorem dX0_letGo_10 : decode cX0_letGo 10 = .ok (.aload_n 0, 1) := by decide +kernel
theorem dX0_letGo_11 : decode cX0_letGo 11 = .ok (.getfield 31, 3) := by decide +kernel
theorem dX0_letGo_14 : decode cX0_letGo 14 = .ok (.iconst 0, 1) := by decide +kernel
theorem dX0_letGo_15 : decode cX0_letGo 15 = .ok (.iaload, 1) := by decide +kernel
theorem dX0_letGo_16 : decode cX0_letGo 16 = .ok (.aload_n 0, 1) := by decide +kernel
theorem dX0_letGo_17 : decode cX0_letGo 17 = .ok (.getfield 31, 3) := by decide +kernel
theorem dX0_letGo_20 : decode cX0_letGo 20 = .ok (.iconst 1, 1) := by decide +kernel
theorem dX0_letGo_21 : decode cX0_letGo 21 = .ok (.iaload, 1) := by decide +kernel
theorem dX0_letGo_22 : decode cX0_letGo 22 = .ok (.iadd, 1) := by decide +kernel
theorem dX0_letGo_23 : decode cX0_letGo 23 = .ok (.istore_n 2, 1) := by decide +kernel
theorem dX0_letGo_24 : decode cX0_letGo 24 = .ok (.iload_n 2, 1) := by decide +kernel
theorem dX0_letGo_25 : decode cX0_letGo 25 = .ok (.aload_n 0, 1) := by decide +kernel
theorem dX0_letGo_26 : decode cX0_letGo 26 = .ok (.getfield 69, 3) := by decide +kernel
theorem dX0_letGo_29 : decode cX0_letGo 29 = .ok (.if_icmp .ge 13, 3) := by decide +kernel
theorem dX0_letGo_32 : decode cX0_letGo 32 = .ok (.aload_n 0, 1) := by decide +kernel
theorem dX0_letGo_33 : decode cX0_letGo 33 = .ok (.dup, 1) := by decide +kernel
theorem dX0_letGo_34 : decode cX0_letGo 34 = .ok (.getfield 72, 3) := by decide +kernel
theorem dX0_letGo_37 : decode cX0_letGo 37 = .ok (.iconst 1, 1) := by decide +kernel
theorem dX0_letGo_38 : decode cX0_letGo 38 = .ok (.iadd, 1) := by decide +kernel
theorem dX0_letGo_39 : decode cX0_letGo 39 = .ok (.putfield 72, 3) := by decide +kernel
theorem dX0_letGo_42 : decode cX0_letGo 42 = .ok (.aload_n 0, 1) := by decide +kernel
theorem dX0_letGo_43 : decode cX0_letGo 43 = .ok (.iload_n 2, 1) := by decide +kernel
theorem dX0_letGo_44 : decode cX0_letGo 44 = .ok (.bipush 16, 2) := by decide +kernel
theorem dX0_letGo_46 : decode cX0_letGo 46 = .ok (.invokestatic 75, 3) := by decide +kernel
theorem dX0_letGo_49 : decode cX0_letGo 49 = .ok (.putfield 78, 3) := by decide +kernel
theorem dX0_letGo_52 : decode cX0_letGo 52 = .ok (.aload_n 0, 1) := by decide +kernel
theorem dX0_letGo_53 : decode cX0_letGo 53 = .ok (.dup, 1) := by decide +kernel
theorem dX0_letGo_54 : decode cX0_letGo 54 = .ok (.getfield 81, 3) := by decide +kernel
theorem dX0_letGo_57 : decode cX0_letGo 57 = .ok (.aload_n 0, 1) := by decide +kernel
theorem dX0_letGo_58 : decode cX0_letGo 58 = .ok (.iload_n 1, 1) := by decide +kernel
theorem dX0_letGo_59 : decode cX0_letGo 59 = .ok (.aload_n 0, 1) := by decide +kernel
theorem dX0_letGo_60 : decode cX0_letGo 60 = .ok (.getfield 78, 3) := by decide +kernel
theorem dX0_letGo_63 : decode cX0_letGo 63 = .ok (.invokevirtual 84, 3) := by decide +kernel
theorem dX0_letGo_66 : decode cX0_letGo 66 = .ok (.iadd, 1) := by decide +kernel
theorem dX0_letGo_67 : decode cX0_letGo 67 = .ok (.putfield 81, 3) := by decide +kernel
theorem dX0_letGo_70 : decode cX0_letGo 70 = .ok (.aload_n 0, 1) := by decide +kernel
theorem dX0_letGo_71 : decode cX0_letGo 71 = .ok (.getfield 28, 3) := by decide +kernel
theorem dX0_letGo_74 : decode cX0_letGo 74 = .ok (.iconst 0, 1) := by decide +kernel
theorem dX0_letGo_75 : decode cX0_letGo 75 = .ok (.dup2, 1) := by decide +kernel
theorem dX0_letGo_76 : decode cX0_letGo 76 = .ok (.iaload, 1) := by decide +kernel
theorem dX0_letGo_77 : decode cX0_letGo 77 = .ok (.aload_n 0, 1) := by decide +kernel
theorem dX0_letGo_78 : decode cX0_letGo 78 = .ok (.getfield 31, 3) := by decide +kernel
theorem dX0_letGo_81 : decode cX0_letGo 81 = .ok (.iconst 0, 1) := by decide +kernel
theorem dX0_letGo_82 : decode cX0_letGo 82 = .ok (.iaload, 1) := by decide +kernel
theorem dX0_letGo_83 : decode cX0_letGo 83 = .ok (.isub, 1) := by decide +kernel
theorem dX0_letGo_84 : decode cX0_letGo 84 = .ok (.iastore, 1) := by decide +kernel
theorem dX0_letGo_85 : decode cX0_letGo 85 = .ok (.aload_n 0, 1) := by decide +kernel
theorem dX0_letGo_86 : decode cX0_letGo 86 = .ok (.getfield 28, 3) := by decide +kernel
theorem dX0_letGo_89 : decode cX0_letGo 89 = .ok (.iconst 1, 1) := by decide +kernel
theorem dX0_letGo_90 : decode cX0_letGo 90 = .ok (.dup2, 1) := by decide +kernel
theorem dX0_letGo_91 : decode cX0_letGo 91 = .ok (.iaload, 1) := by decide +kernel
theorem dX0_letGo_92 : decode cX0_letGo 92 = .ok (.aload_n 0, 1) := by decide +kernel
theorem dX0_letGo_93 : decode cX0_letGo 93 = .ok (.getfield 31, 3) := by decide +kernel
theorem dX0_letGo_96 : decode cX0_letGo 96 = .ok (.iconst 1, 1) := by decide +kernel
theorem dX0_letGo_97 : decode cX0_letGo 97 = .ok (.iaload, 1) := by decide +kernel
theorem dX0_letGo_98 : decode cX0_letGo 98 = .ok (.isub, 1) := by decide +kernel
theorem dX0_letGo_99 : decode cX0_letGo 99 = .ok (.iastore, 1) := by decide +kernel
theorem dX0_letGo_100 : decode cX0_letGo 100 = .ok (.return_, 1) := by decide +kernel
theorem dX0_setParts_0 : decode cX0_setParts 0 = .ok (.aload_n 0, 1) := by decide +kernel
theorem dX0_setParts_1 : decode cX0_setParts 1 = .ok (.getfield 31, 3) := by decide +kernel
theorem dX0_setParts_4 : decode cX0_setParts 4 = .ok (.iconst 0, 1) := by decide +kernel
theorem dX0_setParts_5 : decode cX0_setParts 5 = .ok (.aload_n 0, 1) := by decide +kernel
theorem dX0_setParts_6 : decode cX0_setParts 6 = .ok (.getfield 24, 3) := by decide +kernel
theorem dX0_setParts_9 : decode cX0_setParts 9 = .ok (.iconst 0, 1) := by decide +kernel
theorem dX0_setParts_10 : decode cX0_setParts 10 = .ok (.iaload, 1) := by decide +kernel
theorem dX0_setParts_11 : decode cX0_setParts 11 = .ok (.iastore, 1) := by decide +kernel
theorem dX0_setParts_12 : decode cX0_setParts 12 = .ok (.aload_n 0, 1) := by decide +kernel
theorem dX0_setParts_13 : decode cX0_setParts 13 = .ok (.getfield 31, 3) := by decide +kernel
theorem dX0_setParts_16 : decode cX0_setParts 16 = .ok (.iconst 1, 1) := by decide +kernel
theorem dX0_setParts_17 : decode cX0_setParts 17 = .ok (.aload_n 0, 1) := by decide +kernel
theorem dX0_setParts_18 : decode cX0_setParts 18 = .ok (.getfield 24, 3) := by decide +kernel
theorem dX0_setParts_21 : decode cX0_setParts 21 = .ok (.iconst 1, 1) := by decide +kernel
theorem dX0_setParts_22 : decode cX0_setParts 22 = .ok (.iaload, 1) := by decide +kernel
theorem dX0_setParts_23 : decode cX0_setParts 23 = .ok (.iastore, 1) := by decide +kernel
theorem dX0_setParts_24 : decode cX0_setParts 24 = .ok (.aload_n 0, 1) := by decide +kernel
theorem dX0_setParts_25 : decode cX0_setParts 25 = .ok (.getfield 69, 3) := by decide +kernel
theorem dX0_setParts_28 : decode cX0_setParts 28 = .ok (.aload_n 0, 1) := by decide +kernel
theorem dX0_setParts_29 : decode cX0_setParts 29 = .ok (.getfield 31, 3) := by decide +kernel
theorem dX0_setParts_32 : decode cX0_setParts 32 = .ok (.iconst 0, 1) := by decide +kernel
theorem dX0_setParts_33 : decode cX0_setParts 33 = .ok (.iaload, 1) := by decide +kernel
theorem dX0_setParts_34 : decode cX0_setParts 34 = .ok (.isub, 1) := by decide +kernel
theorem dX0_setParts_35 : decode cX0_setParts 35 = .ok (.aload_n 0, 1) := by decide +kernel
theorem dX0_setParts_36 : decode cX0_setParts 36 = .ok (.getfield 31, 3) := by decide +kernel
theorem dX0_setParts_39 : decode cX0_setParts 39 = .ok (.iconst 1, 1) := by decide +kernel
theorem dX0_setParts_40 : decode cX0_setParts 40 = .ok (.iaload, 1) := by decide +kernel
theorem dX0_setParts_41 : decode cX0_setParts 41 = .ok (.isub, 1) := by decide +kernel
theorem dX0_setParts_42 : decode cX0_setParts 42 = .ok (.istore_n 2, 1) := by decide +kernel
theorem dX0_setParts_43 : decode cX0_setParts 43 = .ok (.iload_n 2, 1) := by decide +kernel
theorem dX0_setParts_44 : decode cX0_setParts 44 = .ok (.ifCond .le 16, 3) := by decide +kernel
theorem dX0_setParts_47 : decode cX0_setParts 47 = .ok (.aload_n 0, 1) := by decide +kernel
theorem dX0_setParts_48 : decode cX0_setParts 48 = .ok (.getfield 31, 3) := by decide +kernel
theorem dX0_setParts_51 : decode cX0_setParts 51 = .ok (.aload_n 0, 1) := by decide +kernel
theorem dX0_setParts_52 : decode cX0_setParts 52 = .ok (.invokevirtual 87, 3) := by decide +kernel
theorem dX0_setParts_55 : decode cX0_setParts 55 = .ok (.dup2, 1) := by decide +kernel
theorem dX0_setParts_56 : decode cX0_setParts 56 = .ok (.iaload, 1) := by decide +kernel
theorem dX0_setParts_57 : decode cX0_setParts 57 = .ok (.iload_n 2, 1) := by decide +kernel
theorem dX0_setParts_58 : decode cX0_setParts 58 = .ok (.iadd, 1) := by decide +kernel
theorem dX0_setParts_59 : decode cX0_setParts 59 = .ok (.iastore, 1) := by decide +kernel
theorem dX0_setParts_60 : decode cX0_setParts 60 = .ok (.aload_n 0, 1) := by decide +kernel
theorem dX0_setParts_61 : decode cX0_setParts 61 = .ok (.getfield 31, 3) := by decide +kernel
theorem dX0_setParts_64 : decode cX0_setParts 64 = .ok (.iconst 0, 1) := by decide +kernel
theorem dX0_setParts_65 : decode cX0_setParts 65 = .ok (.iaload, 1) := by decide +kernel
theorem dX0_setParts_66 : decode cX0_setParts 66 = .ok (.aload_n 0, 1) := by decide +kernel
theorem dX0_setParts_67 : decode cX0_setParts 67 = .ok (.getfield 31, 3) := by decide +kernel
theorem dX0_setParts_70 : decode cX0_setParts 70 = .ok (.iconst 1, 1) := by decide +kernel
theorem dX0_setParts_71 : decode cX0_setParts 71 = .ok (.iaload, 1) := by decide +kernel
theorem dX0_setParts_72 : decode cX0_setParts 72 = .ok (.iadd, 1) := by decide +kernel
theorem dX0_setParts_73 : decode cX0_setParts 73 = .ok (.iload_n 1, 1) := by decide +kernel
theorem dX0_setParts_74 : decode cX0_setParts 74 = .ok (.isub, 1) := by decide +kernel
theorem dX0_setParts_75 : decode cX0_setParts 75 = .ok (.istore_n 3, 1) := by decide +kernel
theorem dX0_setParts_76 : decode cX0_setParts 76 = .ok (.iload_n 3, 1) := by decide +kernel
theorem dX0_setParts_77 : decode cX0_setParts 77 = .ok (.ifCond .le 8, 3) := by decide +kernel
theorem dX0_setParts_80 : decode cX0_setParts 80 = .ok (.aload_n 0, 1) := by decide +kernel
theorem dX0_setParts_81 : decode cX0_setParts 81 = .ok (.iload_n 3, 1) := by decide +kernel
theorem dX0_setParts_82 : decode cX0_setParts 82 = .ok (.invokevirtual 90, 3) := by decide +kernel
theorem dX0_setParts_85 : decode cX0_setParts 85 = .ok (.return_, 1) := by decide +kernel
theorem dX0_cutParts_0 : decode cX0_cutParts 0 = .ok (.aload_n 0, 1) := by decide +kernel
theorem dX0_cutParts_1 : decode cX0_cutParts 1 = .ok (.getfield 28, 3) := by decide +kernel
theorem dX0_cutParts_4 : decode cX0_cutParts 4 = .ok (.iconst 0, 1) := by decide +kernel
theorem dX0_cutParts_5 : decode cX0_cutParts 5 = .ok (.iaload, 1) := by decide +kernel
theorem dX0_cutParts_6 : decode cX0_cutParts 6 = .ok (.aload_n 0, 1) := by decide +kernel
theorem dX0_cutParts_7 : decode cX0_cutParts 7 = .ok (.getfield 31, 3) := by decide +kernel
theorem dX0_cutParts_10 : decode cX0_cutParts 10 = .ok (.iconst 0, 1) := by decide +kernel
theorem dX0_cutParts_11 : decode cX0_cutParts 11 = .ok (.iaload, 1) := by decide +kernel
theorem dX0_cutParts_12 : decode cX0_cutParts 12 = .ok (.isub, 1) := by decide +kernel
theorem dX0_cutParts_13 : decode cX0_cutParts 13 = .ok (.aload_n 0, 1) := by decide +kernel
theorem dX0_cutParts_14 : decode cX0_cutParts 14 = .ok (.getfield 28, 3) := by decide +kernel
theorem dX0_cutParts_17 : decode cX0_cutParts 17 = .ok (.iconst 1, 1) := by decide +kernel
theorem dX0_cutParts_18 : decode cX0_cutParts 18 = .ok (.iaload, 1) := by decide +kernel
theorem dX0_cutParts_19 : decode cX0_cutParts 19 = .ok (.aload_n 0, 1) := by decide +kernel
theorem dX0_cutParts_20 : decode cX0_cutParts 20 = .ok (.getfield 31, 3) := by decide +kernel
theorem dX0_cutParts_23 : decode cX0_cutParts 23 = .ok (.iconst 1, 1) := by decide +kernel
theorem dX0_cutParts_24 : decode cX0_cutParts 24 = .ok (.iaload, 1) := by decide +kernel
theorem dX0_cutParts_25 : decode cX0_cutParts 25 = .ok (.isub, 1) := by decide +kernel
theorem dX0_cutParts_26 : decode cX0_cutParts 26 = .ok (.if_icmp .ge 7, 3) := by decide +kernel
theorem dX0_cutParts_29 : decode cX0_cutParts 29 = .ok (.iconst 0, 1) := by decide +kernel
theorem dX0_cutParts_30 : decode cX0_cutParts 30 = .ok (.goto 4, 3) := by decide +kernel
theorem dX0_cutParts_33 : decode cX0_cutParts 33 = .ok (.iconst 1, 1) := by decide +kernel
theorem dX0_cutParts_34 : decode cX0_cutParts 34 = .ok (.istore_n 2, 1) := by decide +kernel
theorem dX0_cutParts_35 : decode cX0_cutParts 35 = .ok (.iload_n 1, 1) := by decide +kernel
theorem dX0_cutParts_36 : decode cX0_cutParts 36 = .ok (.aload_n 0, 1) := by decide +kernel
theorem dX0_cutParts_37 : decode cX0_cutParts 37 = .ok (.getfield 31, 3) := by decide +kernel
theorem dX0_cutParts_40 : decode cX0_cutParts 40 = .ok (.iload_n 2, 1) := by decide +kernel
theorem dX0_cutParts_41 : decode cX0_cutParts 41 = .ok (.iaload, 1) := by decide +kernel
theorem dX0_cutParts_42 : decode cX0_cutParts 42 = .ok (.invokestatic 75, 3) := by decide +kernel
theorem dX0_cutParts_45 : decode cX0_cutParts 45 = .ok (.istore_n 3, 1) := by decide +kernel
theorem dX0_cutParts_46 : decode cX0_cutParts 46 = .ok (.aload_n 0, 1) := by decide +kernel
theorem dX0_cutParts_47 : decode cX0_cutParts 47 = .ok (.getfield 31, 3) := by decide +kernel
theorem dX0_cutParts_50 : decode cX0_cutParts 50 = .ok (.iload_n 2, 1) := by decide +kernel
theorem dX0_cutParts_51 : decode cX0_cutParts 51 = .ok (.dup2, 1) := by decide +kernel
theorem dX0_cutParts_52 : decode cX0_cutParts 52 = .ok (.iaload, 1) := by decide +kernel
theorem dX0_cutParts_53 : decode cX0_cutParts 53 = .ok (.iload_n 3, 1) := by decide +kernel
theorem dX0_cutParts_54 : decode cX0_cutParts 54 = .ok (.isub, 1) := by decide +kernel
theorem dX0_cutParts_55 : decode cX0_cutParts 55 = .ok (.iastore, 1) := by decide +kernel
theorem dX0_cutParts_56 : decode cX0_cutParts 56 = .ok (.aload_n 0, 1) := by decide +kernel
theorem dX0_cutParts_57 : decode cX0_cutParts 57 = .ok (.getfield 31, 3) := by decide +kernel
theorem dX0_cutParts_60 : decode cX0_cutParts 60 = .ok (.iconst 1, 1) := by decide +kernel
theorem dX0_cutParts_61 : decode cX0_cutParts 61 = .ok (.iload_n 2, 1) := by decide +kernel
theorem dX0_cutParts_62 : decode cX0_cutParts 62 = .ok (.isub, 1) := by decide +kernel
theorem dX0_cutParts_63 : decode cX0_cutParts 63 = .ok (.dup2, 1) := by decide +kernel
theorem dX0_cutParts_64 : decode cX0_cutParts 64 = .ok (.iaload, 1) := by decide +kernel
theorem dX0_cutParts_65 : decode cX0_cutParts 65 = .ok (.iload_n 1, 1) := by decide +kernel
theorem dX0_cutParts_66 : decode cX0_cutParts 66 = .ok (.iload_n 3, 1) := by decide +kernel
theorem dX0_cutParts_67 : decode cX0_cutParts 67 = .ok (.isub, 1) := by decide +kernel
theorem dX0_cutParts_68 : decode cX0_cutParts 68 = .ok (.isub, 1) := by decide +kernel
theorem dX0_cutParts_69 : decode cX0_cutParts 69 = .ok (.iastore, 1) := by decide +kernel
theorem dX0_cutParts_70 : decode cX0_cutParts 70 = .ok (.return_, 1) := by decide +kernel
theorem dX0_ownerWithMore_0 : decode cX0_ownerWithMore 0 = .ok (.aload_n 0, 1) := by decide +kernel
theorem dX0_ownerWithMore_1 : decode cX0_ownerWithMore 1 = .ok (.getfield 28, 3) := by decide +kernel
theorem dX0_ownerWithMore_4 : decode cX0_ownerWithMore 4 = .ok (.iconst 0, 1) := by decide +kernel
theorem dX0_ownerWithMore_5 : decode cX0_ownerWithMore 5 = .ok (.iaload, 1) := by decide +kernel
theorem dX0_ownerWithMore_6 : decode cX0_ownerWithMore 6 = .ok (.aload_n 0, 1) := by decide +kernel
theorem dX0_ownerWithMore_7 : decode cX0_ownerWithMore 7 = .ok (.getfield 28, 3) := by decide +kernel
theorem dX0_ownerWithMore_10 : decode cX0_ownerWithMore 10 = .ok (.iconst 1, 1) := by decide +kernel
theorem dX0_ownerWithMore_11 : decode cX0_ownerWithMore 11 = .ok (.iaload, 1) := by decide +kernel
theorem dX0_ownerWithMore_12 : decode cX0_ownerWithMore 12 = .ok (.if_icmp .lt 7, 3) := by decide +kernel
theorem dX0_ownerWithMore_15 : decode cX0_ownerWithMore 15 = .ok (.iconst 0, 1) := by decide +kernel
theorem dX0_ownerWithMore_16 : decode cX0_ownerWithMore 16 = .ok (.goto 4, 3) := by decide +kernel
theorem dX0_ownerWithMore_19 : decode cX0_ownerWithMore 19 = .ok (.iconst 1, 1) := by decide +kernel
theorem dX0_ownerWithMore_20 : decode cX0_ownerWithMore 20 = .ok (.ireturn, 1) := by decide +kernel
theorem dX0_spillOver_0 : decode cX0_spillOver 0 = .ok (.aload_n 0, 1) := by decide +kernel
theorem dX0_spillOver_1 : decode cX0_spillOver 1 = .ok (.invokevirtual 61, 3) := by decide +kernel
theorem dX0_spillOver_4 : decode cX0_spillOver 4 = .ok (.aload_n 0, 1) := by decide +kernel
theorem dX0_spillOver_5 : decode cX0_spillOver 5 = .ok (.getfield 9, 3) := by decide +kernel
theorem dX0_spillOver_8 : decode cX0_spillOver 8 = .ok (.isub, 1) := by decide +kernel
theorem dX0_spillOver_9 : decode cX0_spillOver 9 = .ok (.istore_n 1, 1) := by decide +kernel
theorem dX0_spillOver_10 : decode cX0_spillOver 10 = .ok (.iload_n 1, 1) := by decide +kernel
theorem dX0_spillOver_11 : decode cX0_spillOver 11 = .ok (.ifCond .le 38, 3) := by decide +kernel
theorem dX0_spillOver_14 : decode cX0_spillOver 14 = .ok (.aload_n 0, 1) := by decide +kernel
theorem dX0_spillOver_15 : decode cX0_spillOver 15 = .ok (.invokevirtual 87, 3) := by decide +kernel
theorem dX0_spillOver_18 : decode cX0_spillOver 18 = .ok (.istore_n 2, 1) := by decide +kernel
theorem dX0_spillOver_19 : decode cX0_spillOver 19 = .ok (.aload_n 0, 1) := by decide +kernel
theorem dX0_spillOver_20 : decode cX0_spillOver 20 = .ok (.getfield 28, 3) := by decide +kernel
theorem dX0_spillOver_23 : decode cX0_spillOver 23 = .ok (.iload_n 2, 1) := by decide +kernel
theorem dX0_spillOver_24 : decode cX0_spillOver 24 = .ok (.dup2, 1) := by decide +kernel
theorem dX0_spillOver_25 : decode cX0_spillOver 25 = .ok (.iaload, 1) := by decide +kernel
theorem dX0_spillOver_26 : decode cX0_spillOver 26 = .ok (.iload_n 1, 1) := by decide +kernel
theorem dX0_spillOver_27 : decode cX0_spillOver 27 = .ok (.isub, 1) := by decide +kernel
theorem dX0_spillOver_28 : decode cX0_spillOver 28 = .ok (.iastore, 1) := by decide +kernel
theorem dX0_spillOver_29 : decode cX0_spillOver 29 = .ok (.aload_n 0, 1) := by decide +kernel
theorem dX0_spillOver_30 : decode cX0_spillOver 30 = .ok (.getfield 31, 3) := by decide +kernel
theorem dX0_spillOver_33 : decode cX0_spillOver 33 = .ok (.iload_n 2, 1) := by decide +kernel
theorem dX0_spillOver_34 : decode cX0_spillOver 34 = .ok (.dup2, 1) := by decide +kernel
theorem dX0_spillOver_35 : decode cX0_spillOver 35 = .ok (.iaload, 1) := by decide +kernel
theorem dX0_spillOver_36 : decode cX0_spillOver 36 = .ok (.iload_n 1, 1) := by decide +kernel
theorem dX0_spillOver_37 : decode cX0_spillOver 37 = .ok (.iadd, 1) := by decide +kernel
theorem dX0_spillOver_38 : decode cX0_spillOver 38 = .ok (.iastore, 1) := by decide +kernel
theorem dX0_spillOver_39 : decode cX0_spillOver 39 = .ok (.aload_n 0, 1) := by decide +kernel
theorem dX0_spillOver_40 : decode cX0_spillOver 40 = .ok (.dup, 1) := by decide +kernel
theorem dX0_spillOver_41 : decode cX0_spillOver 41 = .ok (.getfield 93, 3) := by decide +kernel
theorem dX0_spillOver_44 : decode cX0_spillOver 44 = .ok (.iload_n 1, 1) := by decide +kernel
theorem dX0_spillOver_45 : decode cX0_spillOver 45 = .ok (.iadd, 1) := by decide +kernel
theorem dX0_spillOver_46 : decode cX0_spillOver 46 = .ok (.putfield 93, 3) := by decide +kernel
theorem dX0_spillOver_49 : decode cX0_spillOver 49 = .ok (.return_, 1) := by decide +kernel
theorem dX0_leastRelease_0 : decode cX0_leastRelease 0 = .ok (.aload_n 0, 1) := by decide +kernel
theorem dX0_leastRelease_1 : decode cX0_leastRelease 1 = .ok (.getfield 69, 3) := by decide +kernel
theorem dX0_leastRelease_4 : decode cX0_leastRelease 4 = .ok (.iconst 4, 1) := by decide +kernel
theorem dX0_leastRelease_5 : decode cX0_leastRelease 5 = .ok (.iadd, 1) := by decide +kernel
theorem dX0_leastRelease_6 : decode cX0_leastRelease 6 = .ok (.iconst 1, 1) := by decide +kernel
theorem dX0_leastRelease_7 : decode cX0_leastRelease 7 = .ok (.isub, 1) := by decide +kernel
theorem dX0_leastRelease_8 : decode cX0_leastRelease 8 = .ok (.iconst 4, 1) := by decide +kernel
theorem dX0_leastRelease_9 : decode cX0_leastRelease 9 = .ok (.idiv, 1) := by decide +kernel
theorem dX0_leastRelease_10 : decode cX0_leastRelease 10 = .ok (.iconst 4, 1) := by decide +kernel
theorem dX0_leastRelease_11 : decode cX0_leastRelease 11 = .ok (.imul, 1) := by decide +kernel
theorem dX0_leastRelease_12 : decode cX0_leastRelease 12 = .ok (.istore_n 2, 1) := by decide +kernel
theorem dX0_leastRelease_13 : decode cX0_leastRelease 13 = .ok (.iload_n 2, 1) := by decide +kernel
theorem dX0_leastRelease_14 : decode cX0_leastRelease 14 = .ok (.bipush 16, 2) := by decide +kernel
theorem dX0_leastRelease_16 : decode cX0_leastRelease 16 = .ok (.if_icmp .gt 8, 3) := by decide +kernel
theorem dX0_leastRelease_19 : decode cX0_leastRelease 19 = .ok (.iload_n 2, 1) := by decide +kernel
theorem dX0_leastRelease_20 : decode cX0_leastRelease 20 = .ok (.iload_n 1, 1) := by decide +kernel
theorem dX0_leastRelease_21 : decode cX0_leastRelease 21 = .ok (.if_icmp .le 7, 3) := by decide +kernel
theorem dX0_leastRelease_24 : decode cX0_leastRelease 24 = .ok (.iconst 0, 1) := by decide +kernel
theorem dX0_leastRelease_25 : decode cX0_leastRelease 25 = .ok (.goto 4, 3) := by decide +kernel
theorem dX0_leastRelease_28 : decode cX0_leastRelease 28 = .ok (.iload_n 2, 1) := by decide +kernel
theorem dX0_leastRelease_29 : decode cX0_leastRelease 29 = .ok (.ireturn, 1) := by decide +kernel
theorem dX0_levelBehind_0 : decode cX0_levelBehind 0 = .ok (.iload_n 1, 1) := by decide +kernel
theorem dX0_levelBehind_1 : decode cX0_levelBehind 1 = .ok (.iload_n 2, 1) := by decide +kernel
theorem dX0_levelBehind_2 : decode cX0_levelBehind 2 = .ok (.isub, 1) := by decide +kernel
theorem dX0_levelBehind_3 : decode cX0_levelBehind 3 = .ok (.aload_n 0, 1) := by decide +kernel
theorem dX0_levelBehind_4 : decode cX0_levelBehind 4 = .ok (.getfield 9, 3) := by decide +kernel
theorem dX0_levelBehind_7 : decode cX0_levelBehind 7 = .ok (.invokestatic 75, 3) := by decide +kernel
theorem dX0_levelBehind_10 : decode cX0_levelBehind 10 = .ok (.ireturn, 1) := by decide +kernel
theorem dX1_init_0 : decode cX1_init 0 = .ok (.aload_n 0, 1) := by decide +kernel
theorem dX1_init_1 : decode cX1_init 1 = .ok (.invokespecial 3, 3) := by decide +kernel
theorem dX1_init_4 : decode cX1_init 4 = .ok (.aload_n 0, 1) := by decide +kernel
theorem dX1_init_5 : decode cX1_init 5 = .ok (.iconst 3, 1) := by decide +kernel
theorem dX1_init_6 : decode cX1_init 6 = .ok (.anewarray 9, 3) := by decide +kernel
theorem dX1_init_9 : decode cX1_init 9 = .ok (.putfield 11, 3) := by decide +kernel
theorem dX1_init_12 : decode cX1_init 12 = .ok (.aload_n 0, 1) := by decide +kernel
theorem dX1_init_13 : decode cX1_init 13 = .ok (.iconst 2, 1) := by decide +kernel
theorem dX1_init_14 : decode cX1_init 14 = .ok (.newarray .int, 2) := by decide +kernel
theorem dX1_init_16 : decode cX1_init 16 = .ok (.putfield 15, 3) := by decide +kernel
theorem dX1_init_19 : decode cX1_init 19 = .ok (.aload_n 0, 1) := by decide +kernel
theorem dX1_init_20 : decode cX1_init 20 = .ok (.iconst 2, 1) := by decide +kernel
theorem dX1_init_21 : decode cX1_init 21 = .ok (.newarray .int, 2) := by decide +kernel
theorem dX1_init_23 : decode cX1_init 23 = .ok (.putfield 19, 3) := by decide +kernel
theorem dX1_init_26 : decode cX1_init 26 = .ok (.aload_n 0, 1) := by decide +kernel
theorem dX1_init_27 : decode cX1_init 27 = .ok (.iconst 2, 1) := by decide +kernel
theorem dX1_init_28 : decode cX1_init 28 = .ok (.newarray .int, 2) := by decide +kernel
theorem dX1_init_30 : decode cX1_init 30 = .ok (.putfield 22, 3) := by decide +kernel
theorem dX1_init_33 : decode cX1_init 33 = .ok (.aload_n 0, 1) := by decide +kernel
theorem dX1_init_34 : decode cX1_init 34 = .ok (.sipush 201, 3) := by decide +kernel
theorem dX1_init_37 : decode cX1_init 37 = .ok (.newarray .int, 2) := by decide +kernel
theorem dX1_init_39 : decode cX1_init 39 = .ok (.putfield 25, 3) := by decide +kernel
theorem dX1_init_42 : decode cX1_init 42 = .ok (.aload_n 0, 1) := by decide +kernel
theorem dX1_init_43 : decode cX1_init 43 = .ok (.sipush 201, 3) := by decide +kernel
theorem dX1_init_46 : decode cX1_init 46 = .ok (.newarray .int, 2) := by decide +kernel
theorem dX1_init_48 : decode cX1_init 48 = .ok (.putfield 28, 3) := by decide +kernel
theorem dX1_init_51 : decode cX1_init 51 = .ok (.iconst 0, 1) := by decide +kernel
theorem dX1_init_52 : decode cX1_init 52 = .ok (.istore_n 1, 1) := by decide +kernel
theorem dX1_init_53 : decode cX1_init 53 = .ok (.iload_n 1, 1) := by decide +kernel
theorem dX1_init_54 : decode cX1_init 54 = .ok (.iconst 3, 1) := by decide +kernel
theorem dX1_init_55 : decode cX1_init 55 = .ok (.if_icmp .ge 22, 3) := by decide +kernel
theorem dX1_init_58 : decode cX1_init 58 = .ok (.aload_n 0, 1) := by decide +kernel
theorem dX1_init_59 : decode cX1_init 59 = .ok (.getfield 11, 3) := by decide +kernel
theorem dX1_init_62 : decode cX1_init 62 = .ok (.iload_n 1, 1) := by decide +kernel
theorem dX1_init_63 : decode cX1_init 63 = .ok (.new 9, 3) := by decide +kernel
theorem dX1_init_66 : decode cX1_init 66 = .ok (.dup, 1) := by decide +kernel
theorem dX1_init_67 : decode cX1_init 67 = .ok (.invokespecial 31, 3) := by decide +kernel
theorem dX1_init_70 : decode cX1_init 70 = .ok (.aastore, 1) := by decide +kernel
theorem dX1_init_71 : decode cX1_init 71 = .ok (.iinc 1 1, 3) := by decide +kernel
theorem dX1_init_74 : decode cX1_init 74 = .ok (.goto (-21), 3) := by decide +kernel
theorem dX1_init_77 : decode cX1_init 77 = .ok (.return_, 1) := by decide +kernel
theorem dX1_setPond_0 : decode cX1_setPond 0 = .ok (.iload_n 1, 1) := by decide +kernel
theorem dX1_setPond_1 : decode cX1_setPond 1 = .ok (.invokestatic 32, 3) := by decide +kernel
theorem dX1_setPond_4 : decode cX1_setPond 4 = .ok (.iload_n 2, 1) := by decide +kernel
theorem dX1_setPond_5 : decode cX1_setPond 5 = .ok (.iconst 1, 1) := by decide +kernel
theorem dX1_setPond_6 : decode cX1_setPond 6 = .ok (.sipush 200, 3) := by decide +kernel
theorem dX1_setPond_9 : decode cX1_setPond 9 = .ok (.invokestatic 36, 3) := by decide +kernel
theorem dX1_setPond_12 : decode cX1_setPond 12 = .ok (.iload_n 3, 1) := by decide +kernel
theorem dX1_setPond_13 : decode cX1_setPond 13 = .ok (.iconst 0, 1) := by decide +kernel
theorem dX1_setPond_14 : decode cX1_setPond 14 = .ok (.bipush 100, 2) := by decide +kernel
theorem dX1_setPond_16 : decode cX1_setPond 16 = .ok (.invokestatic 36, 3) := by decide +kernel
theorem dX1_setPond_19 : decode cX1_setPond 19 = .ok (.iload 4, 2) := by decide +kernel
theorem dX1_setPond_21 : decode cX1_setPond 21 = .ok (.iconst 0, 1) := by decide +kernel
theorem dX1_setPond_22 : decode cX1_setPond 22 = .ok (.iconst 5, 1) := by decide +kernel
theorem dX1_setPond_23 : decode cX1_setPond 23 = .ok (.invokestatic 36, 3) := by decide +kernel
theorem dX1_setPond_26 : decode cX1_setPond 26 = .ok (.aload_n 0, 1) := by decide +kernel
theorem dX1_setPond_27 : decode cX1_setPond 27 = .ok (.getfield 11, 3) := by decide +kernel
theorem dX1_setPond_30 : decode cX1_setPond 30 = .ok (.iload_n 1, 1) := by decide +kernel
theorem dX1_setPond_31 : decode cX1_setPond 31 = .ok (.aaload, 1) := by decide +kernel
theorem dX1_setPond_32 : decode cX1_setPond 32 = .ok (.astore 5, 2) := by decide +kernel
theorem dX1_setPond_34 : decode cX1_setPond 34 = .ok (.aload 5, 2) := by decide +kernel
theorem dX1_setPond_36 : decode cX1_setPond 36 = .ok (.iload_n 2, 1) := by decide +kernel
theorem dX1_setPond_37 : decode cX1_setPond 37 = .ok (.putfield 40, 3) := by decide +kernel
theorem dX1_setPond_40 : decode cX1_setPond 40 = .ok (.aload 5, 2) := by decide +kernel
theorem dX1_setPond_42 : decode cX1_setPond 42 = .ok (.iload_n 3, 1) := by decide +kernel
theorem dX1_setPond_43 : decode cX1_setPond 43 = .ok (.putfield 44, 3) := by decide +kernel
theorem dX1_setPond_46 : decode cX1_setPond 46 = .ok (.aload 5, 2) := by decide +kernel
theorem dX1_setPond_48 : decode cX1_setPond 48 = .ok (.iload 4, 2) := by decide +kernel
theorem dX1_setPond_50 : decode cX1_setPond 50 = .ok (.putfield 47, 3) := by decide +kernel
theorem dX1_setPond_53 : decode cX1_setPond 53 = .ok (.return_, 1) := by decide +kernel
theorem dX1_setInflow_0 : decode cX1_setInflow 0 = .ok (.iload_n 1, 1) := by decide +kernel
theorem dX1_setInflow_1 : decode cX1_setInflow 1 = .ok (.invokestatic 32, 3) := by decide +kernel
theorem dX1_setInflow_4 : decode cX1_setInflow 4 = .ok (.iload_n 2, 1) := by decide +kernel
theorem dX1_setInflow_5 : decode cX1_setInflow 5 = .ok (.iconst 0, 1) := by decide +kernel
theorem dX1_setInflow_6 : decode cX1_setInflow 6 = .ok (.bipush 50, 2) := by decide +kernel
theorem dX1_setInflow_8 : decode cX1_setInflow 8 = .ok (.invokestatic 36, 3) := by decide +kernel
theorem dX1_setInflow_11 : decode cX1_setInflow 11 = .ok (.iload_n 3, 1) := by decide +kernel
theorem dX1_setInflow_12 : decode cX1_setInflow 12 = .ok (.iconst 0, 1) := by decide +kernel
theorem dX1_setInflow_13 : decode cX1_setInflow 13 = .ok (.bipush 100, 2) := by decide +kernel
theorem dX1_setInflow_15 : decode cX1_setInflow 15 = .ok (.invokestatic 36, 3) := by decide +kernel
theorem dX1_setInflow_18 : decode cX1_setInflow 18 = .ok (.aload_n 0, 1) := by decide +kernel
theorem dX1_setInflow_19 : decode cX1_setInflow 19 = .ok (.getfield 11, 3) := by decide +kernel
theorem dX1_setInflow_22 : decode cX1_setInflow 22 = .ok (.iload_n 1, 1) := by decide +kernel
theorem dX1_setInflow_23 : decode cX1_setInflow 23 = .ok (.aaload, 1) := by decide +kernel
theorem dX1_setInflow_24 : decode cX1_setInflow 24 = .ok (.getfield 50, 3) := by decide +kernel
theorem dX1_setInflow_27 : decode cX1_setInflow 27 = .ok (.istore 4, 2) := by decide +kernel
theorem dX1_setInflow_29 : decode cX1_setInflow 29 = .ok (.aload_n 0, 1) := by decide +kernel
theorem dX1_setInflow_30 : decode cX1_setInflow 30 = .ok (.getfield 11, 3) := by decide +kernel
theorem dX1_setInflow_33 : decode cX1_setInflow 33 = .ok (.iload_n 1, 1) := by decide +kernel
theorem dX1_setInflow_34 : decode cX1_setInflow 34 = .ok (.aaload, 1) := by decide +kernel
theorem dX1_setInflow_35 : decode cX1_setInflow 35 = .ok (.iload_n 2, 1) := by decide +kernel
theorem dX1_setInflow_36 : decode cX1_setInflow 36 = .ok (.putfield 50, 3) := by decide +kernel
theorem dX1_setInflow_39 : decode cX1_setInflow 39 = .ok (.aload_n 0, 1) := by decide +kernel
theorem dX1_setInflow_40 : decode cX1_setInflow 40 = .ok (.getfield 11, 3) := by decide +kernel
theorem dX1_setInflow_43 : decode cX1_setInflow 43 = .ok (.iload_n 1, 1) := by decide +kernel
theorem dX1_setInflow_44 : decode cX1_setInflow 44 = .ok (.aaload, 1) := by decide +kernel
theorem dX1_setInflow_45 : decode cX1_setInflow 45 = .ok (.iload_n 3, 1) := by decide +kernel
theorem dX1_setInflow_46 : decode cX1_setInflow 46 = .ok (.putfield 53, 3) := by decide +kernel
theorem dX1_setInflow_49 : decode cX1_setInflow 49 = .ok (.iload 4, 2) := by decide +kernel
theorem dX1_setInflow_51 : decode cX1_setInflow 51 = .ok (.ireturn, 1) := by decide +kernel
theorem dX1_setMinimum_0 : decode cX1_setMinimum 0 = .ok (.iload_n 1, 1) := by decide +kernel
theorem dX1_setMinimum_1 : decode cX1_setMinimum 1 = .ok (.invokestatic 32, 3) := by decide +kernel
theorem dX1_setMinimum_4 : decode cX1_setMinimum 4 = .ok (.iload_n 2, 1) := by decide +kernel
theorem dX1_setMinimum_5 : decode cX1_setMinimum 5 = .ok (.iconst 0, 1) := by decide +kernel
theorem dX1_setMinimum_6 : decode cX1_setMinimum 6 = .ok (.bipush 20, 2) := by decide +kernel
theorem dX1_setMinimum_8 : decode cX1_setMinimum 8 = .ok (.invokestatic 36, 3) := by decide +kernel
theorem dX1_setMinimum_11 : decode cX1_setMinimum 11 = .ok (.aload_n 0, 1) := by decide +kernel
theorem dX1_setMinimum_12 : decode cX1_setMinimum 12 = .ok (.getfield 11, 3) := by decide +kernel
theorem dX1_setMinimum_15 : decode cX1_setMinimum 15 = .ok (.iload_n 1, 1) := by decide +kernel
theorem dX1_setMinimum_16 : decode cX1_setMinimum 16 = .ok (.aaload, 1) := by decide +kernel
theorem dX1_setMinimum_17 : decode cX1_setMinimum 17 = .ok (.getfield 56, 3) := by decide +kernel
theorem dX1_setMinimum_20 : decode cX1_setMinimum 20 = .ok (.istore_n 3, 1) := by decide +kernel
theorem dX1_setMinimum_21 : decode cX1_setMinimum 21 = .ok (.aload_n 0, 1) := by decide +kernel
theorem dX1_setMinimum_22 : decode cX1_setMinimum 22 = .ok (.getfield 11, 3) := by decide +kernel
theorem dX1_setMinimum_25 : decode cX1_setMinimum 25 = .ok (.iload_n 1, 1) := by decide +kernel
theorem dX1_setMinimum_26 : decode cX1_setMinimum 26 = .ok (.aaload, 1) := by decide +kernel
theorem dX1_setMinimum_27 : decode cX1_setMinimum 27 = .ok (.iload_n 2, 1) := by decide +kernel
theorem dX1_setMinimum_28 : decode cX1_setMinimum 28 = .ok (.putfield 56, 3) := by decide +kernel
theorem dX1_setMinimum_31 : decode cX1_setMinimum 31 = .ok (.iload_n 3, 1) := by decide +kernel
theorem dX1_setMinimum_32 : decode cX1_setMinimum 32 = .ok (.ireturn, 1) := by decide +kernel
theorem dX1_order_0 : decode cX1_order 0 = .ok (.iload_n 1, 1) := by decide +kernel
theorem dX1_order_1 : decode cX1_order 1 = .ok (.invokestatic 32, 3) := by decide +kernel
theorem dX1_order_4 : decode cX1_order 4 = .ok (.iload_n 2, 1) := by decide +kernel
theorem dX1_order_5 : decode cX1_order 5 = .ok (.invokestatic 59, 3) := by decide +kernel
theorem dX1_order_8 : decode cX1_order 8 = .ok (.iload_n 3, 1) := by decide +kernel
theorem dX1_order_9 : decode cX1_order 9 = .ok (.iconst 0, 1) := by decide +kernel
theorem dX1_order_10 : decode cX1_order 10 = .ok (.bipush 30, 2) := by decide +kernel
theorem dX1_order_12 : decode cX1_order 12 = .ok (.invokestatic 36, 3) := by decide +kernel
theorem dX1_order_15 : decode cX1_order 15 = .ok (.aload_n 0, 1) := by decide +kernel
theorem dX1_order_16 : decode cX1_order 16 = .ok (.getfield 11, 3) := by decide +kernel
theorem dX1_order_19 : decode cX1_order 19 = .ok (.iload_n 1, 1) := by decide +kernel
theorem dX1_order_20 : decode cX1_order 20 = .ok (.aaload, 1) := by decide +kernel
theorem dX1_order_21 : decode cX1_order 21 = .ok (.getfield 62, 3) := by decide +kernel
theorem dX1_order_24 : decode cX1_order 24 = .ok (.iload_n 2, 1) := by decide +kernel
theorem dX1_order_25 : decode cX1_order 25 = .ok (.iaload, 1) := by decide +kernel
theorem dX1_order_26 : decode cX1_order 26 = .ok (.istore 4, 2) := by decide +kernel
theorem dX1_order_28 : decode cX1_order 28 = .ok (.aload_n 0, 1) := by decide +kernel
theorem dX1_order_29 : decode cX1_order 29 = .ok (.getfield 11, 3) := by decide +kernel
theorem dX1_order_32 : decode cX1_order 32 = .ok (.iload_n 1, 1) := by decide +kernel
theorem dX1_order_33 : decode cX1_order 33 = .ok (.aaload, 1) := by decide +kernel
theorem dX1_order_34 : decode cX1_order 34 = .ok (.getfield 62, 3) := by decide +kernel
theorem dX1_order_37 : decode cX1_order 37 = .ok (.iload_n 2, 1) := by decide +kernel
theorem dX1_order_38 : decode cX1_order 38 = .ok (.iload_n 3, 1) := by decide +kernel
theorem dX1_order_39 : decode cX1_order 39 = .ok (.iastore, 1) := by decide +kernel
theorem dX1_order_40 : decode cX1_order 40 = .ok (.iload 4, 2) := by decide +kernel
theorem dX1_order_42 : decode cX1_order 42 = .ok (.ireturn, 1) := by decide +kernel
theorem dX1_setYield_0 : decode cX1_setYield 0 = .ok (.iload_n 1, 1) := by decide +kernel
theorem dX1_setYield_1 : decode cX1_setYield 1 = .ok (.invokestatic 32, 3) := by decide +kernel
theorem dX1_setYield_4 : decode cX1_setYield 4 = .ok (.iload_n 2, 1) := by decide +kernel
theorem dX1_setYield_5 : decode cX1_setYield 5 = .ok (.iconst 0, 1) := by decide +kernel
theorem dX1_setYield_6 : decode cX1_setYield 6 = .ok (.iconst 1, 1) := by decide +kernel
theorem dX1_setYield_7 : decode cX1_setYield 7 = .ok (.invokestatic 36, 3) := by decide +kernel
theorem dX1_setYield_10 : decode cX1_setYield 10 = .ok (.iload_n 3, 1) := by decide +kernel
theorem dX1_setYield_11 : decode cX1_setYield 11 = .ok (.iconst 1, 1) := by decide +kernel
theorem dX1_setYield_12 : decode cX1_setYield 12 = .ok (.bipush 8, 2) := by decide +kernel
theorem dX1_setYield_14 : decode cX1_setYield 14 = .ok (.invokestatic 36, 3) := by decide +kernel
theorem dX1_setYield_17 : decode cX1_setYield 17 = .ok (.iload 4, 2) := by decide +kernel
theorem dX1_setYield_19 : decode cX1_setYield 19 = .ok (.iconst 0, 1) := by decide +kernel
theorem dX1_setYield_20 : decode cX1_setYield 20 = .ok (.sipush 200, 3) := by decide +kernel
theorem dX1_setYield_23 : decode cX1_setYield 23 = .ok (.invokestatic 36, 3) := by decide +kernel
theorem dX1_setYield_26 : decode cX1_setYield 26 = .ok (.aload_n 0, 1) := by decide +kernel
theorem dX1_setYield_27 : decode cX1_setYield 27 = .ok (.getfield 11, 3) := by decide +kernel
theorem dX1_setYield_30 : decode cX1_setYield 30 = .ok (.iload_n 1, 1) := by decide +kernel
theorem dX1_setYield_31 : decode cX1_setYield 31 = .ok (.aaload, 1) := by decide +kernel
theorem dX1_setYield_32 : decode cX1_setYield 32 = .ok (.getfield 65, 3) := by decide +kernel
theorem dX1_setYield_35 : decode cX1_setYield 35 = .ok (.iload_n 2, 1) := by decide +kernel
theorem dX1_setYield_36 : decode cX1_setYield 36 = .ok (.aaload, 1) := by decide +kernel
theorem dX1_setYield_37 : decode cX1_setYield 37 = .ok (.iload_n 3, 1) := by decide +kernel
theorem dX1_setYield_38 : decode cX1_setYield 38 = .ok (.iaload, 1) := by decide +kernel
theorem dX1_setYield_39 : decode cX1_setYield 39 = .ok (.istore 5, 2) := by decide +kernel
theorem dX1_setYield_41 : decode cX1_setYield 41 = .ok (.aload_n 0, 1) := by decide +kernel
theorem dX1_setYield_42 : decode cX1_setYield 42 = .ok (.getfield 11, 3) := by decide +kernel
theorem dX1_setYield_45 : decode cX1_setYield 45 = .ok (.iload_n 1, 1) := by decide +kernel
theorem dX1_setYield_46 : decode cX1_setYield 46 = .ok (.aaload, 1) := by decide +kernel
theorem dX1_setYield_47 : decode cX1_setYield 47 = .ok (.getfield 65, 3) := by decide +kernel
theorem dX1_setYield_50 : decode cX1_setYield 50 = .ok (.iload_n 2, 1) := by decide +kernel
theorem dX1_setYield_51 : decode cX1_setYield 51 = .ok (.aaload, 1) := by decide +kernel
theorem dX1_setYield_52 : decode cX1_setYield 52 = .ok (.iload_n 3, 1) := by decide +kernel
theorem dX1_setYield_53 : decode cX1_setYield 53 = .ok (.iload 4, 2) := by decide +kernel
theorem dX1_setYield_55 : decode cX1_setYield 55 = .ok (.iastore, 1) := by decide +kernel
theorem dX1_setYield_56 : decode cX1_setYield 56 = .ok (.aload_n 0, 1) := by decide +kernel
theorem dX1_setYield_57 : decode cX1_setYield 57 = .ok (.getfield 11, 3) := by decide +kernel
theorem dX1_setYield_60 : decode cX1_setYield 60 = .ok (.iload_n 1, 1) := by decide +kernel
theorem dX1_setYield_61 : decode cX1_setYield 61 = .ok (.aaload, 1) := by decide +kernel
theorem dX1_setYield_62 : decode cX1_setYield 62 = .ok (.invokevirtual 69, 3) := by decide +kernel
theorem dX1_setYield_65 : decode cX1_setYield 65 = .ok (.iload 5, 2) := by decide +kernel
theorem dX1_setYield_67 : decode cX1_setYield 67 = .ok (.ireturn, 1) := by decide +kernel
theorem dX1_run_0 : decode cX1_run 0 = .ok (.iload_n 1, 1) := by decide +kernel
theorem dX1_run_1 : decode cX1_run 1 = .ok (.iconst 1, 1) := by decide +kernel
theorem dX1_run_2 : decode cX1_run 2 = .ok (.bipush 24, 2) := by decide +kernel
theorem dX1_run_4 : decode cX1_run 4 = .ok (.invokestatic 36, 3) := by decide +kernel
theorem dX1_run_7 : decode cX1_run 7 = .ok (.aload_n 0, 1) := by decide +kernel
theorem dX1_run_8 : decode cX1_run 8 = .ok (.getfield 72, 3) := by decide +kernel
theorem dX1_run_11 : decode cX1_run 11 = .ok (.iload_n 1, 1) := by decide +kernel
theorem dX1_run_12 : decode cX1_run 12 = .ok (.iadd, 1) := by decide +kernel
theorem dX1_run_13 : decode cX1_run 13 = .ok (.sipush 200, 3) := by decide +kernel
theorem dX1_run_16 : decode cX1_run 16 = .ok (.if_icmp .le 13, 3) := by decide +kernel
theorem dX1_run_19 : decode cX1_run 19 = .ok (.new 75, 3) := by decide +kernel
theorem dX1_run_22 : decode cX1_run 22 = .ok (.dup, 1) := by decide +kernel
theorem dX1_run_23 : decode cX1_run 23 = .ok (.ldc 77, 2) := by decide +kernel
theorem dX1_run_25 : decode cX1_run 25 = .ok (.invokespecial 79, 3) := by decide +kernel
theorem dX1_run_28 : decode cX1_run 28 = .ok (.athrow, 1) := by decide +kernel
theorem dX1_run_29 : decode cX1_run 29 = .ok (.iconst 0, 1) := by decide +kernel
theorem dX1_run_30 : decode cX1_run 30 = .ok (.istore_n 2, 1) := by decide +kernel
theorem dX1_run_31 : decode cX1_run 31 = .ok (.iload_n 2, 1) := by decide +kernel
theorem dX1_run_32 : decode cX1_run 32 = .ok (.iload_n 1, 1) := by decide +kernel
theorem dX1_run_33 : decode cX1_run 33 = .ok (.if_icmp .ge 37, 3) := by decide +kernel
theorem dX1_run_36 : decode cX1_run 36 = .ok (.iconst 0, 1) := by decide +kernel
theorem dX1_run_37 : decode cX1_run 37 = .ok (.istore_n 3, 1) := by decide +kernel
theorem dX1_run_38 : decode cX1_run 38 = .ok (.iload_n 3, 1) := by decide +kernel
theorem dX1_run_39 : decode cX1_run 39 = .ok (.iconst 3, 1) := by decide +kernel
theorem dX1_run_40 : decode cX1_run 40 = .ok (.if_icmp .ge 14, 3) := by decide +kernel
theorem dX1_run_43 : decode cX1_run 43 = .ok (.aload_n 0, 1) := by decide +kernel
theorem dX1_run_44 : decode cX1_run 44 = .ok (.iload_n 3, 1) := by decide +kernel
theorem dX1_run_45 : decode cX1_run 45 = .ok (.invokevirtual 82, 3) := by decide +kernel
theorem dX1_run_48 : decode cX1_run 48 = .ok (.iinc 3 1, 3) := by decide +kernel
theorem dX1_run_51 : decode cX1_run 51 = .ok (.goto (-13), 3) := by decide +kernel
theorem dX1_run_54 : decode cX1_run 54 = .ok (.aload_n 0, 1) := by decide +kernel
theorem dX1_run_55 : decode cX1_run 55 = .ok (.dup, 1) := by decide +kernel
theorem dX1_run_56 : decode cX1_run 56 = .ok (.getfield 72, 3) := by decide +kernel
theorem dX1_run_59 : decode cX1_run 59 = .ok (.iconst 1, 1) := by decide +kernel
theorem dX1_run_60 : decode cX1_run 60 = .ok (.iadd, 1) := by decide +kernel
theorem dX1_run_61 : decode cX1_run 61 = .ok (.putfield 72, 3) := by decide +kernel
theorem dX1_run_64 : decode cX1_run 64 = .ok (.iinc 2 1, 3) := by decide +kernel
theorem dX1_run_67 : decode cX1_run 67 = .ok (.goto (-36), 3) := by decide +kernel
theorem dX1_run_70 : decode cX1_run 70 = .ok (.aload_n 0, 1) := by decide +kernel
theorem dX1_run_71 : decode cX1_run 71 = .ok (.getfield 72, 3) := by decide +kernel
theorem dX1_run_74 : decode cX1_run 74 = .ok (.ireturn, 1) := by decide +kernel
theorem dX1_hour_0 : decode cX1_hour 0 = .ok (.aload_n 0, 1) := by decide +kernel
theorem dX1_hour_1 : decode cX1_hour 1 = .ok (.getfield 72, 3) := by decide +kernel
theorem dX1_hour_4 : decode cX1_hour 4 = .ok (.ireturn, 1) := by decide +kernel
theorem dX1_lend_0 : decode cX1_lend 0 = .ok (.iload_n 1, 1) := by decide +kernel
theorem dX1_lend_1 : decode cX1_lend 1 = .ok (.invokestatic 32, 3) := by decide +kernel
theorem dX1_lend_4 : decode cX1_lend 4 = .ok (.iload_n 2, 1) := by decide +kernel
theorem dX1_lend_5 : decode cX1_lend 5 = .ok (.invokestatic 59, 3) := by decide +kernel
theorem dX1_lend_8 : decode cX1_lend 8 = .ok (.iload_n 3, 1) := by decide +kernel
theorem dX1_lend_9 : decode cX1_lend 9 = .ok (.iconst 1, 1) := by decide +kernel
theorem dX1_lend_10 : decode cX1_lend 10 = .ok (.bipush 100, 2) := by decide +kernel
theorem dX1_lend_12 : decode cX1_lend 12 = .ok (.invokestatic 36, 3) := by decide +kernel
theorem dX1_lend_15 : decode cX1_lend 15 = .ok (.aload_n 0, 1) := by decide +kernel
theorem dX1_lend_16 : decode cX1_lend 16 = .ok (.getfield 11, 3) := by decide +kernel
theorem dX1_lend_19 : decode cX1_lend 19 = .ok (.iload_n 1, 1) := by decide +kernel
theorem dX1_lend_20 : decode cX1_lend 20 = .ok (.aaload, 1) := by decide +kernel
theorem dX1_lend_21 : decode cX1_lend 21 = .ok (.getfield 85, 3) := by decide +kernel
theorem dX1_lend_24 : decode cX1_lend 24 = .ok (.astore 4, 2) := by decide +kernel
theorem dX1_lend_26 : decode cX1_lend 26 = .ok (.aload 4, 2) := by decide +kernel
theorem dX1_lend_28 : decode cX1_lend 28 = .ok (.iload_n 2, 1) := by decide +kernel
theorem dX1_lend_29 : decode cX1_lend 29 = .ok (.iaload, 1) := by decide +kernel
theorem dX1_lend_30 : decode cX1_lend 30 = .ok (.iload_n 3, 1) := by decide +kernel
theorem dX1_lend_31 : decode cX1_lend 31 = .ok (.if_icmp .ge 13, 3) := by decide +kernel
theorem dX1_lend_34 : decode cX1_lend 34 = .ok (.new 75, 3) := by decide +kernel
theorem dX1_lend_37 : decode cX1_lend 37 = .ok (.dup, 1) := by decide +kernel
theorem dX1_lend_38 : decode cX1_lend 38 = .ok (.ldc 88, 2) := by decide +kernel
theorem dX1_lend_40 : decode cX1_lend 40 = .ok (.invokespecial 79, 3) := by decide +kernel
theorem dX1_lend_43 : decode cX1_lend 43 = .ok (.athrow, 1) := by decide +kernel
theorem dX1_lend_44 : decode cX1_lend 44 = .ok (.iconst 1, 1) := by decide +kernel
theorem dX1_lend_45 : decode cX1_lend 45 = .ok (.iload_n 2, 1) := by decide +kernel
theorem dX1_lend_46 : decode cX1_lend 46 = .ok (.isub, 1) := by decide +kernel
theorem dX1_lend_47 : decode cX1_lend 47 = .ok (.istore 5, 2) := by decide +kernel
theorem dX1_lend_49 : decode cX1_lend 49 = .ok (.aload 4, 2) := by decide +kernel
theorem dX1_lend_51 : decode cX1_lend 51 = .ok (.iload_n 2, 1) := by decide +kernel
theorem dX1_lend_52 : decode cX1_lend 52 = .ok (.dup2, 1) := by decide +kernel
theorem dX1_lend_53 : decode cX1_lend 53 = .ok (.iaload, 1) := by decide +kernel
theorem dX1_lend_54 : decode cX1_lend 54 = .ok (.iload_n 3, 1) := by decide +kernel
theorem dX1_lend_55 : decode cX1_lend 55 = .ok (.isub, 1) := by decide +kernel
theorem dX1_lend_56 : decode cX1_lend 56 = .ok (.iastore, 1) := by decide +kernel
theorem dX1_lend_57 : decode cX1_lend 57 = .ok (.aload 4, 2) := by decide +kernel
theorem dX1_lend_59 : decode cX1_lend 59 = .ok (.iload 5, 2) := by decide +kernel
theorem dX1_lend_61 : decode cX1_lend 61 = .ok (.dup2, 1) := by decide +kernel
theorem dX1_lend_62 : decode cX1_lend 62 = .ok (.iaload, 1) := by decide +kernel
theorem dX1_lend_63 : decode cX1_lend 63 = .ok (.iload_n 3, 1) := by decide +kernel
theorem dX1_lend_64 : decode cX1_lend 64 = .ok (.iadd, 1) := by decide +kernel
theorem dX1_lend_65 : decode cX1_lend 65 = .ok (.iastore, 1) := by decide +kernel
theorem dX1_lend_66 : decode cX1_lend 66 = .ok (.aload_n 0, 1) := by decide +kernel
theorem dX1_lend_67 : decode cX1_lend 67 = .ok (.getfield 22, 3) := by decide +kernel
theorem dX1_lend_70 : decode cX1_lend 70 = .ok (.iload_n 2, 1) := by decide +kernel
theorem dX1_lend_71 : decode cX1_lend 71 = .ok (.dup2, 1) := by decide +kernel
theorem dX1_lend_72 : decode cX1_lend 72 = .ok (.iaload, 1) := by decide +kernel
theorem dX1_lend_73 : decode cX1_lend 73 = .ok (.iload_n 3, 1) := by decide +kernel
theorem dX1_lend_74 : decode cX1_lend 74 = .ok (.isub, 1) := by decide +kernel
theorem dX1_lend_75 : decode cX1_lend 75 = .ok (.iastore, 1) := by decide +kernel
theorem dX1_lend_76 : decode cX1_lend 76 = .ok (.aload_n 0, 1) := by decide +kernel
theorem dX1_lend_77 : decode cX1_lend 77 = .ok (.getfield 22, 3) := by decide +kernel
theorem dX1_lend_80 : decode cX1_lend 80 = .ok (.iload 5, 2) := by decide +kernel
theorem dX1_lend_82 : decode cX1_lend 82 = .ok (.dup2, 1) := by decide +kernel
theorem dX1_lend_83 : decode cX1_lend 83 = .ok (.iaload, 1) := by decide +kernel
theorem dX1_lend_84 : decode cX1_lend 84 = .ok (.iload_n 3, 1) := by decide +kernel
theorem dX1_lend_85 : decode cX1_lend 85 = .ok (.iadd, 1) := by decide +kernel
theorem dX1_lend_86 : decode cX1_lend 86 = .ok (.iastore, 1) := by decide +kernel
theorem dX1_lend_87 : decode cX1_lend 87 = .ok (.aload 4, 2) := by decide +kernel
theorem dX1_lend_89 : decode cX1_lend 89 = .ok (.iload_n 2, 1) := by decide +kernel
theorem dX1_lend_90 : decode cX1_lend 90 = .ok (.iaload, 1) := by decide +kernel
theorem dX1_lend_91 : decode cX1_lend 91 = .ok (.ireturn, 1) := by decide +kernel
theorem dX1_account_0 : decode cX1_account 0 = .ok (.iload_n 1, 1) := by decide +kernel
theorem dX1_account_1 : decode cX1_account 1 = .ok (.invokestatic 32, 3) := by decide +kernel
theorem dX1_account_4 : decode cX1_account 4 = .ok (.iload_n 2, 1) := by decide +kernel
theorem dX1_account_5 : decode cX1_account 5 = .ok (.invokestatic 59, 3) := by decide +kernel
theorem dX1_account_8 : decode cX1_account 8 = .ok (.aload_n 0, 1) := by decide +kernel
theorem dX1_account_9 : decode cX1_account 9 = .ok (.getfield 11, 3) := by decide +kernel
theorem dX1_account_12 : decode cX1_account 12 = .ok (.iload_n 1, 1) := by decide +kernel
theorem dX1_account_13 : decode cX1_account 13 = .ok (.aaload, 1) := by decide +kernel
theorem dX1_account_14 : decode cX1_account 14 = .ok (.getfield 85, 3) := by decide +kernel
theorem dX1_account_17 : decode cX1_account 17 = .ok (.iload_n 2, 1) := by decide +kernel
theorem dX1_account_18 : decode cX1_account 18 = .ok (.iaload, 1) := by decide +kernel
theorem dX1_account_19 : decode cX1_account 19 = .ok (.ireturn, 1) := by decide +kernel
theorem dX1_level_0 : decode cX1_level 0 = .ok (.iload_n 1, 1) := by decide +kernel
theorem dX1_level_1 : decode cX1_level 1 = .ok (.invokestatic 32, 3) := by decide +kernel
theorem dX1_level_4 : decode cX1_level 4 = .ok (.aload_n 0, 1) := by decide +kernel
theorem dX1_level_5 : decode cX1_level 5 = .ok (.getfield 11, 3) := by decide +kernel
theorem dX1_level_8 : decode cX1_level 8 = .ok (.iload_n 1, 1) := by decide +kernel
theorem dX1_level_9 : decode cX1_level 9 = .ok (.aaload, 1) := by decide +kernel
theorem dX1_level_10 : decode cX1_level 10 = .ok (.invokevirtual 90, 3) := by decide +kernel
theorem dX1_level_13 : decode cX1_level 13 = .ok (.ireturn, 1) := by decide +kernel
theorem dX1_travelling_0 : decode cX1_travelling 0 = .ok (.iload_n 1, 1) := by decide +kernel
theorem dX1_travelling_1 : decode cX1_travelling 1 = .ok (.invokestatic 94, 3) := by decide +kernel
theorem dX1_travelling_4 : decode cX1_travelling 4 = .ok (.iload_n 2, 1) := by decide +kernel
theorem dX1_travelling_5 : decode cX1_travelling 5 = .ok (.invokestatic 59, 3) := by decide +kernel
theorem dX1_travelling_8 : decode cX1_travelling 8 = .ok (.aload_n 0, 1) := by decide +kernel
theorem dX1_travelling_9 : decode cX1_travelling 9 = .ok (.getfield 11, 3) := by decide +kernel
theorem dX1_travelling_12 : decode cX1_travelling 12 = .ok (.iload_n 1, 1) := by decide +kernel
theorem dX1_travelling_13 : decode cX1_travelling 13 = .ok (.aaload, 1) := by decide +kernel
theorem dX1_travelling_14 : decode cX1_travelling 14 = .ok (.iload_n 2, 1) := by decide +kernel
theorem dX1_travelling_15 : decode cX1_travelling 15 = .ok (.invokevirtual 97, 3) := by decide +kernel
theorem dX1_travelling_18 : decode cX1_travelling 18 = .ok (.ireturn, 1) := by decide +kernel
theorem dX1_arriving_0 : decode cX1_arriving 0 = .ok (.iload_n 1, 1) := by decide +kernel
theorem dX1_arriving_1 : decode cX1_arriving 1 = .ok (.invokestatic 94, 3) := by decide +kernel
theorem dX1_arriving_4 : decode cX1_arriving 4 = .ok (.iload_n 2, 1) := by decide +kernel
theorem dX1_arriving_5 : decode cX1_arriving 5 = .ok (.invokestatic 59, 3) := by decide +kernel
theorem dX1_arriving_8 : decode cX1_arriving 8 = .ok (.iload_n 3, 1) := by decide +kernel
theorem dX1_arriving_9 : decode cX1_arriving 9 = .ok (.iconst 0, 1) := by decide +kernel
theorem dX1_arriving_10 : decode cX1_arriving 10 = .ok (.sipush 300, 3) := by decide +kernel
theorem dX1_arriving_13 : decode cX1_arriving 13 = .ok (.invokestatic 36, 3) := by decide +kernel
theorem dX1_arriving_16 : decode cX1_arriving 16 = .ok (.iload_n 3, 1) := by decide +kernel
theorem dX1_arriving_17 : decode cX1_arriving 17 = .ok (.aload_n 0, 1) := by decide +kernel
theorem dX1_arriving_18 : decode cX1_arriving 18 = .ok (.getfield 72, 3) := by decide +kernel
theorem dX1_arriving_21 : decode cX1_arriving 21 = .ok (.if_icmp .lt 13, 3) := by decide +kernel
theorem dX1_arriving_24 : decode cX1_arriving 24 = .ok (.iload_n 3, 1) := by decide +kernel
theorem dX1_arriving_25 : decode cX1_arriving 25 = .ok (.aload_n 0, 1) := by decide +kernel
theorem dX1_arriving_26 : decode cX1_arriving 26 = .ok (.getfield 72, 3) := by decide +kernel
theorem dX1_arriving_29 : decode cX1_arriving 29 = .ok (.iconst 5, 1) := by decide +kernel
theorem dX1_arriving_30 : decode cX1_arriving 30 = .ok (.iadd, 1) := by decide +kernel
theorem dX1_arriving_31 : decode cX1_arriving 31 = .ok (.if_icmp .le 5, 3) := by decide +kernel
theorem dX1_arriving_34 : decode cX1_arriving 34 = .ok (.iconst 0, 1) := by decide +kernel
theorem dX1_arriving_35 : decode cX1_arriving 35 = .ok (.ireturn, 1) := by decide +kernel
theorem dX1_arriving_36 : decode cX1_arriving 36 = .ok (.aload_n 0, 1) := by decide +kernel
theorem dX1_arriving_37 : decode cX1_arriving 37 = .ok (.getfield 11, 3) := by decide +kernel
theorem dX1_arriving_40 : decode cX1_arriving 40 = .ok (.iload_n 1, 1) := by decide +kernel
theorem dX1_arriving_41 : decode cX1_arriving 41 = .ok (.aaload, 1) := by decide +kernel
theorem dX1_arriving_42 : decode cX1_arriving 42 = .ok (.getfield 101, 3) := by decide +kernel
theorem dX1_arriving_45 : decode cX1_arriving 45 = .ok (.iload_n 2, 1) := by decide +kernel
theorem dX1_arriving_46 : decode cX1_arriving 46 = .ok (.aaload, 1) := by decide +kernel
theorem dX1_arriving_47 : decode cX1_arriving 47 = .ok (.iload_n 3, 1) := by decide +kernel
theorem dX1_arriving_48 : decode cX1_arriving 48 = .ok (.invokestatic 104, 3) := by decide +kernel
theorem dX1_arriving_51 : decode cX1_arriving 51 = .ok (.iaload, 1) := by decide +kernel
theorem dX1_arriving_52 : decode cX1_arriving 52 = .ok (.ireturn, 1) := by decide +kernel
theorem dX1_cameIn_0 : decode cX1_cameIn 0 = .ok (.iload_n 1, 1) := by decide +kernel
theorem dX1_cameIn_1 : decode cX1_cameIn 1 = .ok (.invokestatic 59, 3) := by decide +kernel
theorem dX1_cameIn_4 : decode cX1_cameIn 4 = .ok (.aload_n 0, 1) := by decide +kernel
theorem dX1_cameIn_5 : decode cX1_cameIn 5 = .ok (.getfield 15, 3) := by decide +kernel
theorem dX1_cameIn_8 : decode cX1_cameIn 8 = .ok (.iload_n 1, 1) := by decide +kernel
theorem dX1_cameIn_9 : decode cX1_cameIn 9 = .ok (.iaload, 1) := by decide +kernel
theorem dX1_cameIn_10 : decode cX1_cameIn 10 = .ok (.ireturn, 1) := by decide +kernel
theorem dX1_gone_0 : decode cX1_gone 0 = .ok (.iload_n 1, 1) := by decide +kernel
theorem dX1_gone_1 : decode cX1_gone 1 = .ok (.invokestatic 59, 3) := by decide +kernel
theorem dX1_gone_4 : decode cX1_gone 4 = .ok (.aload_n 0, 1) := by decide +kernel
theorem dX1_gone_5 : decode cX1_gone 5 = .ok (.getfield 19, 3) := by decide +kernel
theorem dX1_gone_8 : decode cX1_gone 8 = .ok (.iload_n 1, 1) := by decide +kernel
theorem dX1_gone_9 : decode cX1_gone 9 = .ok (.iaload, 1) := by decide +kernel
theorem dX1_gone_10 : decode cX1_gone 10 = .ok (.ireturn, 1) := by decide +kernel
theorem dX1_balance_0 : decode cX1_balance 0 = .ok (.iload_n 1, 1) := by decide +kernel
theorem dX1_balance_1 : decode cX1_balance 1 = .ok (.invokestatic 59, 3) := by decide +kernel
theorem dX1_balance_4 : decode cX1_balance 4 = .ok (.aload_n 0, 1) := by decide +kernel
theorem dX1_balance_5 : decode cX1_balance 5 = .ok (.getfield 15, 3) := by decide +kernel
theorem dX1_balance_8 : decode cX1_balance 8 = .ok (.iload_n 1, 1) := by decide +kernel
theorem dX1_balance_9 : decode cX1_balance 9 = .ok (.iaload, 1) := by decide +kernel
theorem dX1_balance_10 : decode cX1_balance 10 = .ok (.aload_n 0, 1) := by decide +kernel
theorem dX1_balance_11 : decode cX1_balance 11 = .ok (.getfield 19, 3) := by decide +kernel
theorem dX1_balance_14 : decode cX1_balance 14 = .ok (.iload_n 1, 1) := by decide +kernel
theorem dX1_balance_15 : decode cX1_balance 15 = .ok (.iaload, 1) := by decide +kernel
theorem dX1_balance_16 : decode cX1_balance 16 = .ok (.isub, 1) := by decide +kernel
theorem dX1_balance_17 : decode cX1_balance 17 = .ok (.aload_n 0, 1) := by decide +kernel
theorem dX1_balance_18 : decode cX1_balance 18 = .ok (.getfield 22, 3) := by decide +kernel
theorem dX1_balance_21 : decode cX1_balance 21 = .ok (.iload_n 1, 1) := by decide +kernel
theorem dX1_balance_22 : decode cX1_balance 22 = .ok (.iaload, 1) := by decide +kernel
theorem dX1_balance_23 : decode cX1_balance 23 = .ok (.iadd, 1) := by decide +kernel
theorem dX1_balance_24 : decode cX1_balance 24 = .ok (.ireturn, 1) := by decide +kernel
theorem dX1_spilled_0 : decode cX1_spilled 0 = .ok (.iload_n 1, 1) := by decide +kernel
theorem dX1_spilled_1 : decode cX1_spilled 1 = .ok (.invokestatic 32, 3) := by decide +kernel
theorem dX1_spilled_4 : decode cX1_spilled 4 = .ok (.aload_n 0, 1) := by decide +kernel
theorem dX1_spilled_5 : decode cX1_spilled 5 = .ok (.getfield 11, 3) := by decide +kernel
theorem dX1_spilled_8 : decode cX1_spilled 8 = .ok (.iload_n 1, 1) := by decide +kernel
theorem dX1_spilled_9 : decode cX1_spilled 9 = .ok (.aaload, 1) := by decide +kernel
theorem dX1_spilled_10 : decode cX1_spilled 10 = .ok (.getfield 107, 3) := by decide +kernel
theorem dX1_spilled_13 : decode cX1_spilled 13 = .ok (.ireturn, 1) := by decide +kernel
theorem dX1_missed_0 : decode cX1_missed 0 = .ok (.iload_n 1, 1) := by decide +kernel
theorem dX1_missed_1 : decode cX1_missed 1 = .ok (.invokestatic 32, 3) := by decide +kernel
theorem dX1_missed_4 : decode cX1_missed 4 = .ok (.aload_n 0, 1) := by decide +kernel
theorem dX1_missed_5 : decode cX1_missed 5 = .ok (.getfield 11, 3) := by decide +kernel
theorem dX1_missed_8 : decode cX1_missed 8 = .ok (.iload_n 1, 1) := by decide +kernel
theorem dX1_missed_9 : decode cX1_missed 9 = .ok (.aaload, 1) := by decide +kernel
theorem dX1_missed_10 : decode cX1_missed 10 = .ok (.getfield 110, 3) := by decide +kernel
theorem dX1_missed_13 : decode cX1_missed 13 = .ok (.ireturn, 1) := by decide +kernel
theorem dX1_flow_0 : decode cX1_flow 0 = .ok (.iload_n 1, 1) := by decide +kernel
theorem dX1_flow_1 : decode cX1_flow 1 = .ok (.invokestatic 32, 3) := by decide +kernel
theorem dX1_flow_4 : decode cX1_flow 4 = .ok (.aload_n 0, 1) := by decide +kernel
theorem dX1_flow_5 : decode cX1_flow 5 = .ok (.getfield 11, 3) := by decide +kernel
theorem dX1_flow_8 : decode cX1_flow 8 = .ok (.iload_n 1, 1) := by decide +kernel
theorem dX1_flow_9 : decode cX1_flow 9 = .ok (.aaload, 1) := by decide +kernel
theorem dX1_flow_10 : decode cX1_flow 10 = .ok (.getfield 113, 3) := by decide +kernel
theorem dX1_flow_13 : decode cX1_flow 13 = .ok (.ireturn, 1) := by decide +kernel
theorem dX1_energy_0 : decode cX1_energy 0 = .ok (.iload_n 1, 1) := by decide +kernel
theorem dX1_energy_1 : decode cX1_energy 1 = .ok (.invokestatic 32, 3) := by decide +kernel
theorem dX1_energy_4 : decode cX1_energy 4 = .ok (.aload_n 0, 1) := by decide +kernel
theorem dX1_energy_5 : decode cX1_energy 5 = .ok (.getfield 11, 3) := by decide +kernel
theorem dX1_energy_8 : decode cX1_energy 8 = .ok (.iload_n 1, 1) := by decide +kernel
theorem dX1_energy_9 : decode cX1_energy 9 = .ok (.aaload, 1) := by decide +kernel
theorem dX1_energy_10 : decode cX1_energy 10 = .ok (.getfield 116, 3) := by decide +kernel
theorem dX1_energy_13 : decode cX1_energy 13 = .ok (.ireturn, 1) := by decide +kernel
theorem dX1_mix_0 : decode cX1_mix 0 = .ok (.iload_n 1, 1) := by decide +kernel
theorem dX1_mix_1 : decode cX1_mix 1 = .ok (.invokestatic 32, 3) := by decide +kernel
theorem dX1_mix_4 : decode cX1_mix 4 = .ok (.iload_n 2, 1) := by decide +kernel
theorem dX1_mix_5 : decode cX1_mix 5 = .ok (.iconst 0, 1) := by decide +kernel
theorem dX1_mix_6 : decode cX1_mix 6 = .ok (.bipush 16, 2) := by decide +kernel
theorem dX1_mix_8 : decode cX1_mix 8 = .ok (.invokestatic 36, 3) := by decide +kernel
theorem dX1_mix_11 : decode cX1_mix 11 = .ok (.aload_n 0, 1) := by decide +kernel
theorem dX1_mix_12 : decode cX1_mix 12 = .ok (.getfield 11, 3) := by decide +kernel
theorem dX1_mix_15 : decode cX1_mix 15 = .ok (.iload_n 1, 1) := by decide +kernel
theorem dX1_mix_16 : decode cX1_mix 16 = .ok (.aaload, 1) := by decide +kernel
theorem dX1_mix_17 : decode cX1_mix 17 = .ok (.iload_n 2, 1) := by decide +kernel
theorem dX1_mix_18 : decode cX1_mix 18 = .ok (.invokevirtual 119, 3) := by decide +kernel
theorem dX1_mix_21 : decode cX1_mix 21 = .ok (.ireturn, 1) := by decide +kernel
theorem dX1_bestEnergy_0 : decode cX1_bestEnergy 0 = .ok (.iload_n 1, 1) := by decide +kernel
theorem dX1_bestEnergy_1 : decode cX1_bestEnergy 1 = .ok (.iconst 1, 1) := by decide +kernel
theorem dX1_bestEnergy_2 : decode cX1_bestEnergy 2 = .ok (.bipush 6, 2) := by decide +kernel
theorem dX1_bestEnergy_4 : decode cX1_bestEnergy 4 = .ok (.invokestatic 36, 3) := by decide +kernel
theorem dX1_bestEnergy_7 : decode cX1_bestEnergy 7 = .ok (.aload_n 0, 1) := by decide +kernel
theorem dX1_bestEnergy_8 : decode cX1_bestEnergy 8 = .ok (.iload_n 1, 1) := by decide +kernel
theorem dX1_bestEnergy_9 : decode cX1_bestEnergy 9 = .ok (.iconst 1, 1) := by decide +kernel
theorem dX1_bestEnergy_10 : decode cX1_bestEnergy 10 = .ok (.isub, 1) := by decide +kernel
theorem dX1_bestEnergy_11 : decode cX1_bestEnergy 11 = .ok (.invokevirtual 122, 3) := by decide +kernel
theorem dX1_bestEnergy_14 : decode cX1_bestEnergy 14 = .ok (.aload_n 0, 1) := by decide +kernel
theorem dX1_bestEnergy_15 : decode cX1_bestEnergy 15 = .ok (.aload_n 0, 1) := by decide +kernel
theorem dX1_bestEnergy_16 : decode cX1_bestEnergy 16 = .ok (.getfield 11, 3) := by decide +kernel
theorem dX1_bestEnergy_19 : decode cX1_bestEnergy 19 = .ok (.iconst 0, 1) := by decide +kernel
theorem dX1_bestEnergy_20 : decode cX1_bestEnergy 20 = .ok (.aaload, 1) := by decide +kernel
theorem dX1_bestEnergy_21 : decode cX1_bestEnergy 21 = .ok (.invokevirtual 90, 3) := by decide +kernel
theorem dX1_bestEnergy_24 : decode cX1_bestEnergy 24 = .ok (.invokevirtual 125, 3) := by decide +kernel
theorem dX1_bestEnergy_27 : decode cX1_bestEnergy 27 = .ok (.ireturn, 1) := by decide +kernel
theorem dX1_bestEnergyByAll_0 : decode cX1_bestEnergyByAll 0 = .ok (.iload_n 1, 1) := by decide +kernel
theorem dX1_bestEnergyByAll_1 : decode cX1_bestEnergyByAll 1 = .ok (.iconst 1, 1) := by decide +kernel
theorem dX1_bestEnergyByAll_2 : decode cX1_bestEnergyByAll 2 = .ok (.bipush 6, 2) := by decide +kernel
theorem dX1_bestEnergyByAll_4 : decode cX1_bestEnergyByAll 4 = .ok (.invokestatic 36, 3) := by decide +kernel
theorem dX1_bestEnergyByAll_7 : decode cX1_bestEnergyByAll 7 = .ok (.aload_n 0, 1) := by decide +kernel
theorem dX1_bestEnergyByAll_8 : decode cX1_bestEnergyByAll 8 = .ok (.getfield 11, 3) := by decide +kernel
theorem dX1_bestEnergyByAll_11 : decode cX1_bestEnergyByAll 11 = .ok (.iconst 0, 1) := by decide +kernel
theorem dX1_bestEnergyByAll_12 : decode cX1_bestEnergyByAll 12 = .ok (.aaload, 1) := by decide +kernel
theorem dX1_bestEnergyByAll_13 : decode cX1_bestEnergyByAll 13 = .ok (.aload_n 0, 1) := by decide +kernel
theorem dX1_bestEnergyByAll_14 : decode cX1_bestEnergyByAll 14 = .ok (.getfield 11, 3) := by decide +kernel
theorem dX1_bestEnergyByAll_17 : decode cX1_bestEnergyByAll 17 = .ok (.iconst 0, 1) := by decide +kernel
theorem dX1_bestEnergyByAll_18 : decode cX1_bestEnergyByAll 18 = .ok (.aaload, 1) := by decide +kernel
theorem dX1_bestEnergyByAll_19 : decode cX1_bestEnergyByAll 19 = .ok (.invokevirtual 90, 3) := by decide +kernel
theorem dX1_bestEnergyByAll_22 : decode cX1_bestEnergyByAll 22 = .ok (.iload_n 1, 1) := by decide +kernel
theorem dX1_bestEnergyByAll_23 : decode cX1_bestEnergyByAll 23 = .ok (.invokestatic 128, 3) := by decide +kernel
theorem dX1_bestEnergyByAll_26 : decode cX1_bestEnergyByAll 26 = .ok (.ireturn, 1) := by decide +kernel
theorem dX1_bestRelease_0 : decode cX1_bestRelease 0 = .ok (.iload_n 1, 1) := by decide +kernel
theorem dX1_bestRelease_1 : decode cX1_bestRelease 1 = .ok (.iconst 1, 1) := by decide +kernel
theorem dX1_bestRelease_2 : decode cX1_bestRelease 2 = .ok (.bipush 6, 2) := by decide +kernel
theorem dX1_bestRelease_4 : decode cX1_bestRelease 4 = .ok (.invokestatic 36, 3) := by decide +kernel
theorem dX1_bestRelease_7 : decode cX1_bestRelease 7 = .ok (.aload_n 0, 1) := by decide +kernel
theorem dX1_bestRelease_8 : decode cX1_bestRelease 8 = .ok (.iload_n 1, 1) := by decide +kernel
theorem dX1_bestRelease_9 : decode cX1_bestRelease 9 = .ok (.iconst 1, 1) := by decide +kernel
theorem dX1_bestRelease_10 : decode cX1_bestRelease 10 = .ok (.isub, 1) := by decide +kernel
theorem dX1_bestRelease_11 : decode cX1_bestRelease 11 = .ok (.invokevirtual 122, 3) := by decide +kernel
theorem dX1_bestRelease_14 : decode cX1_bestRelease 14 = .ok (.aload_n 0, 1) := by decide +kernel
theorem dX1_bestRelease_15 : decode cX1_bestRelease 15 = .ok (.aload_n 0, 1) := by decide +kernel
theorem dX1_bestRelease_16 : decode cX1_bestRelease 16 = .ok (.getfield 11, 3) := by decide +kernel
theorem dX1_bestRelease_19 : decode cX1_bestRelease 19 = .ok (.iconst 0, 1) := by decide +kernel
theorem dX1_bestRelease_20 : decode cX1_bestRelease 20 = .ok (.aaload, 1) := by decide +kernel
theorem dX1_bestRelease_21 : decode cX1_bestRelease 21 = .ok (.invokevirtual 90, 3) := by decide +kernel
theorem dX1_bestRelease_24 : decode cX1_bestRelease 24 = .ok (.aload_n 0, 1) := by decide +kernel
theorem dX1_bestRelease_25 : decode cX1_bestRelease 25 = .ok (.getfield 11, 3) := by decide +kernel
theorem dX1_bestRelease_28 : decode cX1_bestRelease 28 = .ok (.iconst 0, 1) := by decide +kernel
theorem dX1_bestRelease_29 : decode cX1_bestRelease 29 = .ok (.aaload, 1) := by decide +kernel
theorem dX1_bestRelease_30 : decode cX1_bestRelease 30 = .ok (.getfield 50, 3) := by decide +kernel
theorem dX1_bestRelease_33 : decode cX1_bestRelease 33 = .ok (.iadd, 1) := by decide +kernel
theorem dX1_bestRelease_34 : decode cX1_bestRelease 34 = .ok (.invokevirtual 132, 3) := by decide +kernel
theorem dX1_bestRelease_37 : decode cX1_bestRelease 37 = .ok (.ireturn, 1) := by decide +kernel
theorem dX1_checkRange_0 : decode cX1_checkRange 0 = .ok (.iload_n 0, 1) := by decide +kernel
theorem dX1_checkRange_1 : decode cX1_checkRange 1 = .ok (.iload_n 1, 1) := by decide +kernel
theorem dX1_checkRange_2 : decode cX1_checkRange 2 = .ok (.if_icmp .lt 8, 3) := by decide +kernel
theorem dX1_checkRange_5 : decode cX1_checkRange 5 = .ok (.iload_n 0, 1) := by decide +kernel
theorem dX1_checkRange_6 : decode cX1_checkRange 6 = .ok (.iload_n 2, 1) := by decide +kernel
theorem dX1_checkRange_7 : decode cX1_checkRange 7 = .ok (.if_icmp .le 13, 3) := by decide +kernel
theorem dX1_checkRange_10 : decode cX1_checkRange 10 = .ok (.new 135, 3) := by decide +kernel
theorem dX1_checkRange_13 : decode cX1_checkRange 13 = .ok (.dup, 1) := by decide +kernel
theorem dX1_checkRange_14 : decode cX1_checkRange 14 = .ok (.ldc 137, 2) := by decide +kernel
theorem dX1_checkRange_16 : decode cX1_checkRange 16 = .ok (.invokespecial 139, 3) := by decide +kernel
theorem dX1_checkRange_19 : decode cX1_checkRange 19 = .ok (.athrow, 1) := by decide +kernel
theorem dX1_checkRange_20 : decode cX1_checkRange 20 = .ok (.return_, 1) := by decide +kernel
theorem dX1_checkPlant_0 : decode cX1_checkPlant 0 = .ok (.iload_n 0, 1) := by decide +kernel
theorem dX1_checkPlant_1 : decode cX1_checkPlant 1 = .ok (.iconst 0, 1) := by decide +kernel
theorem dX1_checkPlant_2 : decode cX1_checkPlant 2 = .ok (.iconst 2, 1) := by decide +kernel
theorem dX1_checkPlant_3 : decode cX1_checkPlant 3 = .ok (.invokestatic 36, 3) := by decide +kernel
theorem dX1_checkPlant_6 : decode cX1_checkPlant 6 = .ok (.return_, 1) := by decide +kernel
theorem dX1_checkLowerPlant_0 : decode cX1_checkLowerPlant 0 = .ok (.iload_n 0, 1) := by decide +kernel
theorem dX1_checkLowerPlant_1 : decode cX1_checkLowerPlant 1 = .ok (.iconst 1, 1) := by decide +kernel
theorem dX1_checkLowerPlant_2 : decode cX1_checkLowerPlant 2 = .ok (.iconst 2, 1) := by decide +kernel
theorem dX1_checkLowerPlant_3 : decode cX1_checkLowerPlant 3 = .ok (.invokestatic 36, 3) := by decide +kernel
theorem dX1_checkLowerPlant_6 : decode cX1_checkLowerPlant 6 = .ok (.return_, 1) := by decide +kernel
theorem dX1_checkOwner_0 : decode cX1_checkOwner 0 = .ok (.iload_n 0, 1) := by decide +kernel
theorem dX1_checkOwner_1 : decode cX1_checkOwner 1 = .ok (.iconst 0, 1) := by decide +kernel
theorem dX1_checkOwner_2 : decode cX1_checkOwner 2 = .ok (.iconst 1, 1) := by decide +kernel
theorem dX1_checkOwner_3 : decode cX1_checkOwner 3 = .ok (.invokestatic 36, 3) := by decide +kernel
theorem dX1_checkOwner_6 : decode cX1_checkOwner 6 = .ok (.return_, 1) := by decide +kernel
theorem dX1_slotOf_0 : decode cX1_slotOf 0 = .ok (.iload_n 0, 1) := by decide +kernel
theorem dX1_slotOf_1 : decode cX1_slotOf 1 = .ok (.bipush 6, 2) := by decide +kernel
theorem dX1_slotOf_3 : decode cX1_slotOf 3 = .ok (.invokestatic 140, 3) := by decide +kernel
theorem dX1_slotOf_6 : decode cX1_slotOf 6 = .ok (.ireturn, 1) := by decide +kernel
theorem dX1_runPlant_0 : decode cX1_runPlant 0 = .ok (.aload_n 0, 1) := by decide +kernel
theorem dX1_runPlant_1 : decode cX1_runPlant 1 = .ok (.getfield 11, 3) := by decide +kernel
theorem dX1_runPlant_4 : decode cX1_runPlant 4 = .ok (.iload_n 1, 1) := by decide +kernel
theorem dX1_runPlant_5 : decode cX1_runPlant 5 = .ok (.aaload, 1) := by decide +kernel
theorem dX1_runPlant_6 : decode cX1_runPlant 6 = .ok (.astore_n 2, 1) := by decide +kernel
theorem dX1_runPlant_7 : decode cX1_runPlant 7 = .ok (.iconst 0, 1) := by decide +kernel
theorem dX1_runPlant_8 : decode cX1_runPlant 8 = .ok (.istore_n 3, 1) := by decide +kernel
theorem dX1_runPlant_9 : decode cX1_runPlant 9 = .ok (.iload_n 3, 1) := by decide +kernel
theorem dX1_runPlant_10 : decode cX1_runPlant 10 = .ok (.iconst 2, 1) := by decide +kernel
theorem dX1_runPlant_11 : decode cX1_runPlant 11 = .ok (.if_icmp .ge 51, 3) := by decide +kernel
theorem dX1_runPlant_14 : decode cX1_runPlant 14 = .ok (.aload_n 2, 1) := by decide +kernel
theorem dX1_runPlant_15 : decode cX1_runPlant 15 = .ok (.iload_n 3, 1) := by decide +kernel
theorem dX1_runPlant_16 : decode cX1_runPlant 16 = .ok (.invokevirtual 146, 3) := by decide +kernel
theorem dX1_runPlant_19 : decode cX1_runPlant 19 = .ok (.istore 4, 2) := by decide +kernel
theorem dX1_runPlant_21 : decode cX1_runPlant 21 = .ok (.aload_n 2, 1) := by decide +kernel
theorem dX1_runPlant_22 : decode cX1_runPlant 22 = .ok (.getfield 85, 3) := by decide +kernel
theorem dX1_runPlant_25 : decode cX1_runPlant 25 = .ok (.iload_n 3, 1) := by decide +kernel
theorem dX1_runPlant_26 : decode cX1_runPlant 26 = .ok (.dup2, 1) := by decide +kernel
theorem dX1_runPlant_27 : decode cX1_runPlant 27 = .ok (.iaload, 1) := by decide +kernel
theorem dX1_runPlant_28 : decode cX1_runPlant 28 = .ok (.aload_n 2, 1) := by decide +kernel
theorem dX1_runPlant_29 : decode cX1_runPlant 29 = .ok (.iload_n 3, 1) := by decide +kernel
theorem dX1_runPlant_30 : decode cX1_runPlant 30 = .ok (.aload_n 0, 1) := by decide +kernel
theorem dX1_runPlant_31 : decode cX1_runPlant 31 = .ok (.getfield 72, 3) := by decide +kernel
theorem dX1_runPlant_34 : decode cX1_runPlant 34 = .ok (.invokestatic 104, 3) := by decide +kernel
theorem dX1_runPlant_37 : decode cX1_runPlant 37 = .ok (.invokevirtual 149, 3) := by decide +kernel
theorem dX1_runPlant_40 : decode cX1_runPlant 40 = .ok (.iload 4, 2) := by decide +kernel
theorem dX1_runPlant_42 : decode cX1_runPlant 42 = .ok (.iadd, 1) := by decide +kernel
theorem dX1_runPlant_43 : decode cX1_runPlant 43 = .ok (.iadd, 1) := by decide +kernel
theorem dX1_runPlant_44 : decode cX1_runPlant 44 = .ok (.iastore, 1) := by decide +kernel
theorem dX1_runPlant_45 : decode cX1_runPlant 45 = .ok (.aload_n 0, 1) := by decide +kernel
theorem dX1_runPlant_46 : decode cX1_runPlant 46 = .ok (.getfield 15, 3) := by decide +kernel
theorem dX1_runPlant_49 : decode cX1_runPlant 49 = .ok (.iload_n 3, 1) := by decide +kernel
theorem dX1_runPlant_50 : decode cX1_runPlant 50 = .ok (.dup2, 1) := by decide +kernel
theorem dX1_runPlant_51 : decode cX1_runPlant 51 = .ok (.iaload, 1) := by decide +kernel
theorem dX1_runPlant_52 : decode cX1_runPlant 52 = .ok (.iload 4, 2) := by decide +kernel
theorem dX1_runPlant_54 : decode cX1_runPlant 54 = .ok (.iadd, 1) := by decide +kernel
theorem dX1_runPlant_55 : decode cX1_runPlant 55 = .ok (.iastore, 1) := by decide +kernel
theorem dX1_runPlant_56 : decode cX1_runPlant 56 = .ok (.iinc 3 1, 3) := by decide +kernel
theorem dX1_runPlant_59 : decode cX1_runPlant 59 = .ok (.goto (-50), 3) := by decide +kernel
theorem dX1_runPlant_62 : decode cX1_runPlant 62 = .ok (.aload_n 2, 1) := by decide +kernel
theorem dX1_runPlant_63 : decode cX1_runPlant 63 = .ok (.invokevirtual 152, 3) := by decide +kernel
theorem dX1_runPlant_66 : decode cX1_runPlant 66 = .ok (.aload_n 2, 1) := by decide +kernel
theorem dX1_runPlant_67 : decode cX1_runPlant 67 = .ok (.invokevirtual 155, 3) := by decide +kernel
theorem dX1_runPlant_70 : decode cX1_runPlant 70 = .ok (.iconst 0, 1) := by decide +kernel
theorem dX1_runPlant_71 : decode cX1_runPlant 71 = .ok (.istore_n 3, 1) := by decide +kernel
theorem dX1_runPlant_72 : decode cX1_runPlant 72 = .ok (.iload_n 3, 1) := by decide +kernel
theorem dX1_runPlant_73 : decode cX1_runPlant 73 = .ok (.iconst 2, 1) := by decide +kernel
theorem dX1_runPlant_74 : decode cX1_runPlant 74 = .ok (.if_icmp .ge 15, 3) := by decide +kernel
theorem dX1_runPlant_77 : decode cX1_runPlant 77 = .ok (.aload_n 0, 1) := by decide +kernel
theorem dX1_runPlant_78 : decode cX1_runPlant 78 = .ok (.iload_n 1, 1) := by decide +kernel
theorem dX1_runPlant_79 : decode cX1_runPlant 79 = .ok (.iload_n 3, 1) := by decide +kernel
theorem dX1_runPlant_80 : decode cX1_runPlant 80 = .ok (.invokevirtual 158, 3) := by decide +kernel
theorem dX1_runPlant_83 : decode cX1_runPlant 83 = .ok (.iinc 3 1, 3) := by decide +kernel
theorem dX1_runPlant_86 : decode cX1_runPlant 86 = .ok (.goto (-14), 3) := by decide +kernel
theorem dX1_runPlant_89 : decode cX1_runPlant 89 = .ok (.return_, 1) := by decide +kernel
theorem dX1_sendOn_0 : decode cX1_sendOn 0 = .ok (.aload_n 0, 1) := by decide +kernel
theorem dX1_sendOn_1 : decode cX1_sendOn 1 = .ok (.getfield 11, 3) := by decide +kernel
theorem dX1_sendOn_4 : decode cX1_sendOn 4 = .ok (.iload_n 1, 1) := by decide +kernel
theorem dX1_sendOn_5 : decode cX1_sendOn 5 = .ok (.aaload, 1) := by decide +kernel
theorem dX1_sendOn_6 : decode cX1_sendOn 6 = .ok (.getfield 162, 3) := by decide +kernel
theorem dX1_sendOn_9 : decode cX1_sendOn 9 = .ok (.iload_n 2, 1) := by decide +kernel
theorem dX1_sendOn_10 : decode cX1_sendOn 10 = .ok (.iaload, 1) := by decide +kernel
theorem dX1_sendOn_11 : decode cX1_sendOn 11 = .ok (.istore_n 3, 1) := by decide +kernel
theorem dX1_sendOn_12 : decode cX1_sendOn 12 = .ok (.iload_n 1, 1) := by decide +kernel
theorem dX1_sendOn_13 : decode cX1_sendOn 13 = .ok (.iconst 1, 1) := by decide +kernel
theorem dX1_sendOn_14 : decode cX1_sendOn 14 = .ok (.iadd, 1) := by decide +kernel
theorem dX1_sendOn_15 : decode cX1_sendOn 15 = .ok (.istore 4, 2) := by decide +kernel
theorem dX1_sendOn_17 : decode cX1_sendOn 17 = .ok (.iload 4, 2) := by decide +kernel
theorem dX1_sendOn_19 : decode cX1_sendOn 19 = .ok (.iconst 3, 1) := by decide +kernel
theorem dX1_sendOn_20 : decode cX1_sendOn 20 = .ok (.if_icmp .ge 40, 3) := by decide +kernel
theorem dX1_sendOn_23 : decode cX1_sendOn 23 = .ok (.aload_n 0, 1) := by decide +kernel
theorem dX1_sendOn_24 : decode cX1_sendOn 24 = .ok (.getfield 11, 3) := by decide +kernel
theorem dX1_sendOn_27 : decode cX1_sendOn 27 = .ok (.iload 4, 2) := by decide +kernel
theorem dX1_sendOn_29 : decode cX1_sendOn 29 = .ok (.aaload, 1) := by decide +kernel
theorem dX1_sendOn_30 : decode cX1_sendOn 30 = .ok (.getfield 101, 3) := by decide +kernel
theorem dX1_sendOn_33 : decode cX1_sendOn 33 = .ok (.iload_n 2, 1) := by decide +kernel
theorem dX1_sendOn_34 : decode cX1_sendOn 34 = .ok (.aaload, 1) := by decide +kernel
theorem dX1_sendOn_35 : decode cX1_sendOn 35 = .ok (.aload_n 0, 1) := by decide +kernel
theorem dX1_sendOn_36 : decode cX1_sendOn 36 = .ok (.getfield 72, 3) := by decide +kernel
theorem dX1_sendOn_39 : decode cX1_sendOn 39 = .ok (.aload_n 0, 1) := by decide +kernel
theorem dX1_sendOn_40 : decode cX1_sendOn 40 = .ok (.getfield 11, 3) := by decide +kernel
theorem dX1_sendOn_43 : decode cX1_sendOn 43 = .ok (.iload_n 1, 1) := by decide +kernel
theorem dX1_sendOn_44 : decode cX1_sendOn 44 = .ok (.aaload, 1) := by decide +kernel
theorem dX1_sendOn_45 : decode cX1_sendOn 45 = .ok (.getfield 47, 3) := by decide +kernel
theorem dX1_sendOn_48 : decode cX1_sendOn 48 = .ok (.iadd, 1) := by decide +kernel
theorem dX1_sendOn_49 : decode cX1_sendOn 49 = .ok (.invokestatic 104, 3) := by decide +kernel
theorem dX1_sendOn_52 : decode cX1_sendOn 52 = .ok (.dup2, 1) := by decide +kernel
theorem dX1_sendOn_53 : decode cX1_sendOn 53 = .ok (.iaload, 1) := by decide +kernel
theorem dX1_sendOn_54 : decode cX1_sendOn 54 = .ok (.iload_n 3, 1) := by decide +kernel
theorem dX1_sendOn_55 : decode cX1_sendOn 55 = .ok (.iadd, 1) := by decide +kernel
theorem dX1_sendOn_56 : decode cX1_sendOn 56 = .ok (.iastore, 1) := by decide +kernel
theorem dX1_sendOn_57 : decode cX1_sendOn 57 = .ok (.goto 13, 3) := by decide +kernel
theorem dX1_sendOn_60 : decode cX1_sendOn 60 = .ok (.aload_n 0, 1) := by decide +kernel
theorem dX1_sendOn_61 : decode cX1_sendOn 61 = .ok (.getfield 19, 3) := by decide +kernel
theorem dX1_sendOn_64 : decode cX1_sendOn 64 = .ok (.iload_n 2, 1) := by decide +kernel
theorem dX1_sendOn_65 : decode cX1_sendOn 65 = .ok (.dup2, 1) := by decide +kernel
theorem dX1_sendOn_66 : decode cX1_sendOn 66 = .ok (.iaload, 1) := by decide +kernel
theorem dX1_sendOn_67 : decode cX1_sendOn 67 = .ok (.iload_n 3, 1) := by decide +kernel
theorem dX1_sendOn_68 : decode cX1_sendOn 68 = .ok (.iadd, 1) := by decide +kernel
theorem dX1_sendOn_69 : decode cX1_sendOn 69 = .ok (.iastore, 1) := by decide +kernel
theorem dX1_sendOn_70 : decode cX1_sendOn 70 = .ok (.return_, 1) := by decide +kernel
theorem dX1_workBackTo_0 : decode cX1_workBackTo 0 = .ok (.iconst 0, 1) := by decide +kernel
theorem dX1_workBackTo_1 : decode cX1_workBackTo 1 = .ok (.istore_n 2, 1) := by decide +kernel
theorem dX1_workBackTo_2 : decode cX1_workBackTo 2 = .ok (.iload_n 2, 1) := by decide +kernel
theorem dX1_workBackTo_3 : decode cX1_workBackTo 3 = .ok (.sipush 200, 3) := by decide +kernel
theorem dX1_workBackTo_6 : decode cX1_workBackTo 6 = .ok (.if_icmp .gt 16, 3) := by decide +kernel
theorem dX1_workBackTo_9 : decode cX1_workBackTo 9 = .ok (.aload_n 0, 1) := by decide +kernel
theorem dX1_workBackTo_10 : decode cX1_workBackTo 10 = .ok (.getfield 25, 3) := by decide +kernel
theorem dX1_workBackTo_13 : decode cX1_workBackTo 13 = .ok (.iload_n 2, 1) := by decide +kernel
theorem dX1_workBackTo_14 : decode cX1_workBackTo 14 = .ok (.iconst 0, 1) := by decide +kernel
theorem dX1_workBackTo_15 : decode cX1_workBackTo 15 = .ok (.iastore, 1) := by decide +kernel
theorem dX1_workBackTo_16 : decode cX1_workBackTo 16 = .ok (.iinc 2 1, 3) := by decide +kernel
theorem dX1_workBackTo_19 : decode cX1_workBackTo 19 = .ok (.goto (-17), 3) := by decide +kernel
theorem dX1_workBackTo_22 : decode cX1_workBackTo 22 = .ok (.iconst 0, 1) := by decide +kernel
theorem dX1_workBackTo_23 : decode cX1_workBackTo 23 = .ok (.istore_n 2, 1) := by decide +kernel
theorem dX1_workBackTo_24 : decode cX1_workBackTo 24 = .ok (.iload_n 2, 1) := by decide +kernel
theorem dX1_workBackTo_25 : decode cX1_workBackTo 25 = .ok (.iload_n 1, 1) := by decide +kernel
theorem dX1_workBackTo_26 : decode cX1_workBackTo 26 = .ok (.if_icmp .ge 51, 3) := by decide +kernel
theorem dX1_workBackTo_29 : decode cX1_workBackTo 29 = .ok (.iconst 0, 1) := by decide +kernel
theorem dX1_workBackTo_30 : decode cX1_workBackTo 30 = .ok (.istore_n 3, 1) := by decide +kernel
theorem dX1_workBackTo_31 : decode cX1_workBackTo 31 = .ok (.iload_n 3, 1) := by decide +kernel
theorem dX1_workBackTo_32 : decode cX1_workBackTo 32 = .ok (.sipush 200, 3) := by decide +kernel
theorem dX1_workBackTo_35 : decode cX1_workBackTo 35 = .ok (.if_icmp .gt 20, 3) := by decide +kernel
theorem dX1_workBackTo_38 : decode cX1_workBackTo 38 = .ok (.aload_n 0, 1) := by decide +kernel
theorem dX1_workBackTo_39 : decode cX1_workBackTo 39 = .ok (.getfield 28, 3) := by decide +kernel
theorem dX1_workBackTo_42 : decode cX1_workBackTo 42 = .ok (.iload_n 3, 1) := by decide +kernel
theorem dX1_workBackTo_43 : decode cX1_workBackTo 43 = .ok (.aload_n 0, 1) := by decide +kernel
theorem dX1_workBackTo_44 : decode cX1_workBackTo 44 = .ok (.iload_n 3, 1) := by decide +kernel
theorem dX1_workBackTo_45 : decode cX1_workBackTo 45 = .ok (.invokevirtual 125, 3) := by decide +kernel
theorem dX1_workBackTo_48 : decode cX1_workBackTo 48 = .ok (.iastore, 1) := by decide +kernel
theorem dX1_workBackTo_49 : decode cX1_workBackTo 49 = .ok (.iinc 3 1, 3) := by decide +kernel
theorem dX1_workBackTo_52 : decode cX1_workBackTo 52 = .ok (.goto (-21), 3) := by decide +kernel
theorem dX1_workBackTo_55 : decode cX1_workBackTo 55 = .ok (.aload_n 0, 1) := by decide +kernel
theorem dX1_workBackTo_56 : decode cX1_workBackTo 56 = .ok (.getfield 28, 3) := by decide +kernel
theorem dX1_workBackTo_59 : decode cX1_workBackTo 59 = .ok (.iconst 0, 1) := by decide +kernel
theorem dX1_workBackTo_60 : decode cX1_workBackTo 60 = .ok (.aload_n 0, 1) := by decide +kernel
theorem dX1_workBackTo_61 : decode cX1_workBackTo 61 = .ok (.getfield 25, 3) := by decide +kernel
theorem dX1_workBackTo_64 : decode cX1_workBackTo 64 = .ok (.iconst 0, 1) := by decide +kernel
theorem dX1_workBackTo_65 : decode cX1_workBackTo 65 = .ok (.sipush 201, 3) := by decide +kernel
theorem dX1_workBackTo_68 : decode cX1_workBackTo 68 = .ok (.invokestatic 165, 3) := by decide +kernel
theorem dX1_workBackTo_71 : decode cX1_workBackTo 71 = .ok (.iinc 2 1, 3) := by decide +kernel
theorem dX1_workBackTo_74 : decode cX1_workBackTo 74 = .ok (.goto (-50), 3) := by decide +kernel
theorem dX1_workBackTo_77 : decode cX1_workBackTo 77 = .ok (.return_, 1) := by decide +kernel
theorem dX1_greatestFrom_0 : decode cX1_greatestFrom 0 = .ok (.iload_n 1, 1) := by decide +kernel
theorem dX1_greatestFrom_1 : decode cX1_greatestFrom 1 = .ok (.aload_n 0, 1) := by decide +kernel
theorem dX1_greatestFrom_2 : decode cX1_greatestFrom 2 = .ok (.getfield 11, 3) := by decide +kernel
theorem dX1_greatestFrom_5 : decode cX1_greatestFrom 5 = .ok (.iconst 0, 1) := by decide +kernel
theorem dX1_greatestFrom_6 : decode cX1_greatestFrom 6 = .ok (.aaload, 1) := by decide +kernel
theorem dX1_greatestFrom_7 : decode cX1_greatestFrom 7 = .ok (.getfield 50, 3) := by decide +kernel
theorem dX1_greatestFrom_10 : decode cX1_greatestFrom 10 = .ok (.iadd, 1) := by decide +kernel
theorem dX1_greatestFrom_11 : decode cX1_greatestFrom 11 = .ok (.istore_n 2, 1) := by decide +kernel
theorem dX1_greatestFrom_12 : decode cX1_greatestFrom 12 = .ok (.aload_n 0, 1) := by decide +kernel
theorem dX1_greatestFrom_13 : decode cX1_greatestFrom 13 = .ok (.iload_n 2, 1) := by decide +kernel
theorem dX1_greatestFrom_14 : decode cX1_greatestFrom 14 = .ok (.aload_n 0, 1) := by decide +kernel
theorem dX1_greatestFrom_15 : decode cX1_greatestFrom 15 = .ok (.iload_n 2, 1) := by decide +kernel
theorem dX1_greatestFrom_16 : decode cX1_greatestFrom 16 = .ok (.invokevirtual 132, 3) := by decide +kernel
theorem dX1_greatestFrom_19 : decode cX1_greatestFrom 19 = .ok (.invokevirtual 171, 3) := by decide +kernel
theorem dX1_greatestFrom_22 : decode cX1_greatestFrom 22 = .ok (.ireturn, 1) := by decide +kernel
theorem dX1_leastBestRelease_0 : decode cX1_leastBestRelease 0 = .ok (.aload_n 0, 1) := by decide +kernel
theorem dX1_leastBestRelease_1 : decode cX1_leastBestRelease 1 = .ok (.getfield 11, 3) := by decide +kernel
theorem dX1_leastBestRelease_4 : decode cX1_leastBestRelease 4 = .ok (.iconst 0, 1) := by decide +kernel
theorem dX1_leastBestRelease_5 : decode cX1_leastBestRelease 5 = .ok (.aaload, 1) := by decide +kernel
theorem dX1_leastBestRelease_6 : decode cX1_leastBestRelease 6 = .ok (.iload_n 1, 1) := by decide +kernel
theorem dX1_leastBestRelease_7 : decode cX1_leastBestRelease 7 = .ok (.invokevirtual 174, 3) := by decide +kernel
theorem dX1_leastBestRelease_10 : decode cX1_leastBestRelease 10 = .ok (.istore_n 2, 1) := by decide +kernel
theorem dX1_leastBestRelease_11 : decode cX1_leastBestRelease 11 = .ok (.iload_n 2, 1) := by decide +kernel
theorem dX1_leastBestRelease_12 : decode cX1_leastBestRelease 12 = .ok (.istore_n 3, 1) := by decide +kernel
theorem dX1_leastBestRelease_13 : decode cX1_leastBestRelease 13 = .ok (.aload_n 0, 1) := by decide +kernel
theorem dX1_leastBestRelease_14 : decode cX1_leastBestRelease 14 = .ok (.iload_n 1, 1) := by decide +kernel
theorem dX1_leastBestRelease_15 : decode cX1_leastBestRelease 15 = .ok (.iload_n 2, 1) := by decide +kernel
theorem dX1_leastBestRelease_16 : decode cX1_leastBestRelease 16 = .ok (.invokevirtual 171, 3) := by decide +kernel
theorem dX1_leastBestRelease_19 : decode cX1_leastBestRelease 19 = .ok (.istore 4, 2) := by decide +kernel
theorem dX1_leastBestRelease_21 : decode cX1_leastBestRelease 21 = .ok (.iload_n 2, 1) := by decide +kernel
theorem dX1_leastBestRelease_22 : decode cX1_leastBestRelease 22 = .ok (.iconst 4, 1) := by decide +kernel
theorem dX1_leastBestRelease_23 : decode cX1_leastBestRelease 23 = .ok (.iadd, 1) := by decide +kernel
theorem dX1_leastBestRelease_24 : decode cX1_leastBestRelease 24 = .ok (.istore 5, 2) := by decide +kernel
theorem dX1_leastBestRelease_26 : decode cX1_leastBestRelease 26 = .ok (.iload 5, 2) := by decide +kernel
theorem dX1_leastBestRelease_28 : decode cX1_leastBestRelease 28 = .ok (.bipush 16, 2) := by decide +kernel
theorem dX1_leastBestRelease_30 : decode cX1_leastBestRelease 30 = .ok (.if_icmp .gt 38, 3) := by decide +kernel
theorem dX1_leastBestRelease_33 : decode cX1_leastBestRelease 33 = .ok (.iload 5, 2) := by decide +kernel
theorem dX1_leastBestRelease_35 : decode cX1_leastBestRelease 35 = .ok (.iload_n 1, 1) := by decide +kernel
theorem dX1_leastBestRelease_36 : decode cX1_leastBestRelease 36 = .ok (.if_icmp .gt 32, 3) := by decide +kernel
theorem dX1_leastBestRelease_39 : decode cX1_leastBestRelease 39 = .ok (.aload_n 0, 1) := by decide +kernel
theorem dX1_leastBestRelease_40 : decode cX1_leastBestRelease 40 = .ok (.iload_n 1, 1) := by decide +kernel
theorem dX1_leastBestRelease_41 : decode cX1_leastBestRelease 41 = .ok (.iload 5, 2) := by decide +kernel
theorem dX1_leastBestRelease_43 : decode cX1_leastBestRelease 43 = .ok (.invokevirtual 171, 3) := by decide +kernel
theorem dX1_leastBestRelease_46 : decode cX1_leastBestRelease 46 = .ok (.istore 6, 2) := by decide +kernel
theorem dX1_leastBestRelease_48 : decode cX1_leastBestRelease 48 = .ok (.iload 6, 2) := by decide +kernel
theorem dX1_leastBestRelease_50 : decode cX1_leastBestRelease 50 = .ok (.iload 4, 2) := by decide +kernel
theorem dX1_leastBestRelease_52 : decode cX1_leastBestRelease 52 = .ok (.if_icmp .le 10, 3) := by decide +kernel
theorem dX1_leastBestRelease_55 : decode cX1_leastBestRelease 55 = .ok (.iload 5, 2) := by decide +kernel
theorem dX1_leastBestRelease_57 : decode cX1_leastBestRelease 57 = .ok (.istore_n 3, 1) := by decide +kernel
theorem dX1_leastBestRelease_58 : decode cX1_leastBestRelease 58 = .ok (.iload 6, 2) := by decide +kernel
theorem dX1_leastBestRelease_60 : decode cX1_leastBestRelease 60 = .ok (.istore 4, 2) := by decide +kernel
theorem dX1_leastBestRelease_62 : decode cX1_leastBestRelease 62 = .ok (.iinc 5 4, 3) := by decide +kernel
theorem dX1_leastBestRelease_65 : decode cX1_leastBestRelease 65 = .ok (.goto (-39), 3) := by decide +kernel
theorem dX1_leastBestRelease_68 : decode cX1_leastBestRelease 68 = .ok (.iload_n 3, 1) := by decide +kernel
theorem dX1_leastBestRelease_69 : decode cX1_leastBestRelease 69 = .ok (.ireturn, 1) := by decide +kernel
theorem dX1_energyFrom_0 : decode cX1_energyFrom 0 = .ok (.aload_n 0, 1) := by decide +kernel
theorem dX1_energyFrom_1 : decode cX1_energyFrom 1 = .ok (.getfield 11, 3) := by decide +kernel
theorem dX1_energyFrom_4 : decode cX1_energyFrom 4 = .ok (.iconst 0, 1) := by decide +kernel
theorem dX1_energyFrom_5 : decode cX1_energyFrom 5 = .ok (.aaload, 1) := by decide +kernel
theorem dX1_energyFrom_6 : decode cX1_energyFrom 6 = .ok (.iload_n 1, 1) := by decide +kernel
theorem dX1_energyFrom_7 : decode cX1_energyFrom 7 = .ok (.iload_n 2, 1) := by decide +kernel
theorem dX1_energyFrom_8 : decode cX1_energyFrom 8 = .ok (.invokevirtual 177, 3) := by decide +kernel
theorem dX1_energyFrom_11 : decode cX1_energyFrom 11 = .ok (.istore_n 3, 1) := by decide +kernel
theorem dX1_energyFrom_12 : decode cX1_energyFrom 12 = .ok (.iload_n 3, 1) := by decide +kernel
theorem dX1_energyFrom_13 : decode cX1_energyFrom 13 = .ok (.ifCond .lt 10, 3) := by decide +kernel
theorem dX1_energyFrom_16 : decode cX1_energyFrom 16 = .ok (.iload_n 3, 1) := by decide +kernel
theorem dX1_energyFrom_17 : decode cX1_energyFrom 17 = .ok (.sipush 200, 3) := by decide +kernel
theorem dX1_energyFrom_20 : decode cX1_energyFrom 20 = .ok (.if_icmp .le 7, 3) := by decide +kernel
theorem dX1_energyFrom_23 : decode cX1_energyFrom 23 = .ok (.iconst 0, 1) := by decide +kernel
theorem dX1_energyFrom_24 : decode cX1_energyFrom 24 = .ok (.goto 9, 3) := by decide +kernel
theorem dX1_energyFrom_27 : decode cX1_energyFrom 27 = .ok (.aload_n 0, 1) := by decide +kernel
theorem dX1_energyFrom_28 : decode cX1_energyFrom 28 = .ok (.getfield 25, 3) := by decide +kernel
theorem dX1_energyFrom_31 : decode cX1_energyFrom 31 = .ok (.iload_n 3, 1) := by decide +kernel
theorem dX1_energyFrom_32 : decode cX1_energyFrom 32 = .ok (.iaload, 1) := by decide +kernel
theorem dX1_energyFrom_33 : decode cX1_energyFrom 33 = .ok (.istore 4, 2) := by decide +kernel
theorem dX1_energyFrom_35 : decode cX1_energyFrom 35 = .ok (.aload_n 0, 1) := by decide +kernel
theorem dX1_energyFrom_36 : decode cX1_energyFrom 36 = .ok (.getfield 11, 3) := by decide +kernel
theorem dX1_energyFrom_39 : decode cX1_energyFrom 39 = .ok (.iconst 0, 1) := by decide +kernel
theorem dX1_energyFrom_40 : decode cX1_energyFrom 40 = .ok (.aaload, 1) := by decide +kernel
theorem dX1_energyFrom_41 : decode cX1_energyFrom 41 = .ok (.iload_n 1, 1) := by decide +kernel
theorem dX1_energyFrom_42 : decode cX1_energyFrom 42 = .ok (.iload_n 2, 1) := by decide +kernel
theorem dX1_energyFrom_43 : decode cX1_energyFrom 43 = .ok (.invokevirtual 180, 3) := by decide +kernel
theorem dX1_energyFrom_46 : decode cX1_energyFrom 46 = .ok (.iload 4, 2) := by decide +kernel
theorem dX1_energyFrom_48 : decode cX1_energyFrom 48 = .ok (.iadd, 1) := by decide +kernel
theorem dX1_energyFrom_49 : decode cX1_energyFrom 49 = .ok (.ireturn, 1) := by decide +kernel
theorem dX1_greatestByTrying_0 : decode cX1_greatestByTrying 0 = .ok (.iload_n 2, 1) := by decide +kernel
theorem dX1_greatestByTrying_1 : decode cX1_greatestByTrying 1 = .ok (.iconst 1, 1) := by decide +kernel
theorem dX1_greatestByTrying_2 : decode cX1_greatestByTrying 2 = .ok (.if_icmp .lt 9, 3) := by decide +kernel
theorem dX1_greatestByTrying_5 : decode cX1_greatestByTrying 5 = .ok (.iload_n 2, 1) := by decide +kernel
theorem dX1_greatestByTrying_6 : decode cX1_greatestByTrying 6 = .ok (.bipush 6, 2) := by decide +kernel
theorem dX1_greatestByTrying_8 : decode cX1_greatestByTrying 8 = .ok (.if_icmp .le 5, 3) := by decide +kernel
theorem dX1_greatestByTrying_11 : decode cX1_greatestByTrying 11 = .ok (.iconst 0, 1) := by decide +kernel
theorem dX1_greatestByTrying_12 : decode cX1_greatestByTrying 12 = .ok (.ireturn, 1) := by decide +kernel
theorem dX1_greatestByTrying_13 : decode cX1_greatestByTrying 13 = .ok (.iload_n 1, 1) := by decide +kernel
theorem dX1_greatestByTrying_14 : decode cX1_greatestByTrying 14 = .ok (.aload_n 0, 1) := by decide +kernel
theorem dX1_greatestByTrying_15 : decode cX1_greatestByTrying 15 = .ok (.getfield 50, 3) := by decide +kernel
theorem dX1_greatestByTrying_18 : decode cX1_greatestByTrying 18 = .ok (.iadd, 1) := by decide +kernel
theorem dX1_greatestByTrying_19 : decode cX1_greatestByTrying 19 = .ok (.istore_n 3, 1) := by decide +kernel
theorem dX1_greatestByTrying_20 : decode cX1_greatestByTrying 20 = .ok (.iconst 0, 1) := by decide +kernel
theorem dX1_greatestByTrying_21 : decode cX1_greatestByTrying 21 = .ok (.istore 4, 2) := by decide +kernel
theorem dX1_greatestByTrying_23 : decode cX1_greatestByTrying 23 = .ok (.aload_n 0, 1) := by decide +kernel
theorem dX1_greatestByTrying_24 : decode cX1_greatestByTrying 24 = .ok (.iload_n 3, 1) := by decide +kernel
theorem dX1_greatestByTrying_25 : decode cX1_greatestByTrying 25 = .ok (.invokevirtual 174, 3) := by decide +kernel
theorem dX1_greatestByTrying_28 : decode cX1_greatestByTrying 28 = .ok (.istore 5, 2) := by decide +kernel
theorem dX1_greatestByTrying_30 : decode cX1_greatestByTrying 30 = .ok (.iload 5, 2) := by decide +kernel
theorem dX1_greatestByTrying_32 : decode cX1_greatestByTrying 32 = .ok (.istore 6, 2) := by decide +kernel
theorem dX1_greatestByTrying_34 : decode cX1_greatestByTrying 34 = .ok (.iload 6, 2) := by decide +kernel
theorem dX1_greatestByTrying_36 : decode cX1_greatestByTrying 36 = .ok (.bipush 16, 2) := by decide +kernel
theorem dX1_greatestByTrying_38 : decode cX1_greatestByTrying 38 = .ok (.if_icmp .gt 48, 3) := by decide +kernel
theorem dX1_greatestByTrying_41 : decode cX1_greatestByTrying 41 = .ok (.iload 6, 2) := by decide +kernel
theorem dX1_greatestByTrying_43 : decode cX1_greatestByTrying 43 = .ok (.iload_n 3, 1) := by decide +kernel
theorem dX1_greatestByTrying_44 : decode cX1_greatestByTrying 44 = .ok (.if_icmp .gt 42, 3) := by decide +kernel
theorem dX1_greatestByTrying_47 : decode cX1_greatestByTrying 47 = .ok (.aload_n 0, 1) := by decide +kernel
theorem dX1_greatestByTrying_48 : decode cX1_greatestByTrying 48 = .ok (.aload_n 0, 1) := by decide +kernel
theorem dX1_greatestByTrying_49 : decode cX1_greatestByTrying 49 = .ok (.iload_n 3, 1) := by decide +kernel
theorem dX1_greatestByTrying_50 : decode cX1_greatestByTrying 50 = .ok (.iload 6, 2) := by decide +kernel
theorem dX1_greatestByTrying_52 : decode cX1_greatestByTrying 52 = .ok (.invokevirtual 177, 3) := by decide +kernel
theorem dX1_greatestByTrying_55 : decode cX1_greatestByTrying 55 = .ok (.iload_n 2, 1) := by decide +kernel
theorem dX1_greatestByTrying_56 : decode cX1_greatestByTrying 56 = .ok (.iconst 1, 1) := by decide +kernel
theorem dX1_greatestByTrying_57 : decode cX1_greatestByTrying 57 = .ok (.isub, 1) := by decide +kernel
theorem dX1_greatestByTrying_58 : decode cX1_greatestByTrying 58 = .ok (.invokestatic 128, 3) := by decide +kernel
theorem dX1_greatestByTrying_61 : decode cX1_greatestByTrying 61 = .ok (.istore 7, 2) := by decide +kernel
theorem dX1_greatestByTrying_63 : decode cX1_greatestByTrying 63 = .ok (.iload 4, 2) := by decide +kernel
theorem dX1_greatestByTrying_65 : decode cX1_greatestByTrying 65 = .ok (.aload_n 0, 1) := by decide +kernel
theorem dX1_greatestByTrying_66 : decode cX1_greatestByTrying 66 = .ok (.iload_n 3, 1) := by decide +kernel
theorem dX1_greatestByTrying_67 : decode cX1_greatestByTrying 67 = .ok (.iload 6, 2) := by decide +kernel
theorem dX1_greatestByTrying_69 : decode cX1_greatestByTrying 69 = .ok (.invokevirtual 180, 3) := by decide +kernel
theorem dX1_greatestByTrying_72 : decode cX1_greatestByTrying 72 = .ok (.iload 7, 2) := by decide +kernel
theorem dX1_greatestByTrying_74 : decode cX1_greatestByTrying 74 = .ok (.iadd, 1) := by decide +kernel
theorem dX1_greatestByTrying_75 : decode cX1_greatestByTrying 75 = .ok (.invokestatic 183, 3) := by decide +kernel
theorem dX1_greatestByTrying_78 : decode cX1_greatestByTrying 78 = .ok (.istore 4, 2) := by decide +kernel
theorem dX1_greatestByTrying_80 : decode cX1_greatestByTrying 80 = .ok (.iinc 6 4, 3) := by decide +kernel
theorem dX1_greatestByTrying_83 : decode cX1_greatestByTrying 83 = .ok (.goto (-49), 3) := by decide +kernel
theorem dX1_greatestByTrying_86 : decode cX1_greatestByTrying 86 = .ok (.iload 4, 2) := by decide +kernel
theorem dX1_greatestByTrying_88 : decode cX1_greatestByTrying 88 = .ok (.ireturn, 1) := by decide +kernel
theorem dJ9_floorMod_7cf53_0 : decode cJ9_floorMod_7cf53 0 = .ok (.iload_n 0, 1) := by decide +kernel
theorem dJ9_floorMod_7cf53_1 : decode cJ9_floorMod_7cf53 1 = .ok (.iload_n 1, 1) := by decide +kernel
theorem dJ9_floorMod_7cf53_2 : decode cJ9_floorMod_7cf53 2 = .ok (.irem, 1) := by decide +kernel
theorem dJ9_floorMod_7cf53_3 : decode cJ9_floorMod_7cf53 3 = .ok (.istore_n 2, 1) := by decide +kernel
theorem dJ9_floorMod_7cf53_4 : decode cJ9_floorMod_7cf53 4 = .ok (.iload_n 0, 1) := by decide +kernel
theorem dJ9_floorMod_7cf53_5 : decode cJ9_floorMod_7cf53 5 = .ok (.iload_n 1, 1) := by decide +kernel
theorem dJ9_floorMod_7cf53_6 : decode cJ9_floorMod_7cf53 6 = .ok (.ixor, 1) := by decide +kernel
theorem dJ9_floorMod_7cf53_7 : decode cJ9_floorMod_7cf53 7 = .ok (.ifCond .ge 11, 3) := by decide +kernel
theorem dJ9_floorMod_7cf53_10 : decode cJ9_floorMod_7cf53 10 = .ok (.iload_n 2, 1) := by decide +kernel
theorem dJ9_floorMod_7cf53_11 : decode cJ9_floorMod_7cf53 11 = .ok (.ifCond .eq 7, 3) := by decide +kernel
theorem dJ9_floorMod_7cf53_14 : decode cJ9_floorMod_7cf53 14 = .ok (.iload_n 2, 1) := by decide +kernel
theorem dJ9_floorMod_7cf53_15 : decode cJ9_floorMod_7cf53 15 = .ok (.iload_n 1, 1) := by decide +kernel
theorem dJ9_floorMod_7cf53_16 : decode cJ9_floorMod_7cf53 16 = .ok (.iadd, 1) := by decide +kernel
theorem dJ9_floorMod_7cf53_17 : decode cJ9_floorMod_7cf53 17 = .ok (.ireturn, 1) := by decide +kernel
theorem dJ9_floorMod_7cf53_18 : decode cJ9_floorMod_7cf53 18 = .ok (.iload_n 2, 1) := by decide +kernel
theorem dJ9_floorMod_7cf53_19 : decode cJ9_floorMod_7cf53 19 = .ok (.ireturn, 1) := by decide +kernel
theorem dJ9_max_7cf53_0 : decode cJ9_max_7cf53 0 = .ok (.iload_n 0, 1) := by decide +kernel
theorem dJ9_max_7cf53_1 : decode cJ9_max_7cf53 1 = .ok (.iload_n 1, 1) := by decide +kernel
theorem dJ9_max_7cf53_2 : decode cJ9_max_7cf53 2 = .ok (.if_icmp .lt 7, 3) := by decide +kernel
theorem dJ9_max_7cf53_5 : decode cJ9_max_7cf53 5 = .ok (.iload_n 0, 1) := by decide +kernel
theorem dJ9_max_7cf53_6 : decode cJ9_max_7cf53 6 = .ok (.goto 4, 3) := by decide +kernel
theorem dJ9_max_7cf53_9 : decode cJ9_max_7cf53 9 = .ok (.iload_n 1, 1) := by decide +kernel
theorem dJ9_max_7cf53_10 : decode cJ9_max_7cf53 10 = .ok (.ireturn, 1) := by decide +kernel
theorem dJ9_min_7cf53_0 : decode cJ9_min_7cf53 0 = .ok (.iload_n 0, 1) := by decide +kernel
theorem dJ9_min_7cf53_1 : decode cJ9_min_7cf53 1 = .ok (.iload_n 1, 1) := by decide +kernel
theorem dJ9_min_7cf53_2 : decode cJ9_min_7cf53 2 = .ok (.if_icmp .gt 7, 3) := by decide +kernel
theorem dJ9_min_7cf53_5 : decode cJ9_min_7cf53 5 = .ok (.iload_n 0, 1) := by decide +kernel
theorem dJ9_min_7cf53_6 : decode cJ9_min_7cf53 6 = .ok (.goto 4, 3) := by decide +kernel
theorem dJ9_min_7cf53_9 : decode cJ9_min_7cf53 9 = .ok (.iload_n 1, 1) := by decide +kernel
theorem dJ9_min_7cf53_10 : decode cJ9_min_7cf53 10 = .ok (.ireturn, 1) := by decide +kernel
end
section
theorem dX2_init_0 : decode cX2_init 0 = .ok (.aload_n 0, 1) := by decide +kernel
theorem dX2_init_1 : decode cX2_init 1 = .ok (.invokespecial 1, 3) := by decide +kernel
theorem dX2_init_4 : decode cX2_init 4 = .ok (.aload_n 0, 1) := by decide +kernel
theorem dX2_init_5 : decode cX2_init 5 = .ok (.iconst 3, 1) := by decide +kernel
theorem dX2_init_6 : decode cX2_init 6 = .ok (.newarray .int, 2) := by decide +kernel
theorem dX2_init_8 : decode cX2_init 8 = .ok (.putfield 7, 3) := by decide +kernel
theorem dX2_init_11 : decode cX2_init 11 = .ok (.aload_n 0, 1) := by decide +kernel
theorem dX2_init_12 : decode cX2_init 12 = .ok (.iconst 3, 1) := by decide +kernel
theorem dX2_init_13 : decode cX2_init 13 = .ok (.newarray .int, 2) := by decide +kernel
theorem dX2_init_15 : decode cX2_init 15 = .ok (.putfield 13, 3) := by decide +kernel
theorem dX2_init_18 : decode cX2_init 18 = .ok (.aload_n 0, 1) := by decide +kernel
theorem dX2_init_19 : decode cX2_init 19 = .ok (.iconst 3, 1) := by decide +kernel
theorem dX2_init_20 : decode cX2_init 20 = .ok (.newarray .int, 2) := by decide +kernel
theorem dX2_init_22 : decode cX2_init 22 = .ok (.putfield 16, 3) := by decide +kernel
theorem dX2_init_25 : decode cX2_init 25 = .ok (.aload_n 0, 1) := by decide +kernel
theorem dX2_init_26 : decode cX2_init 26 = .ok (.iconst 3, 1) := by decide +kernel
theorem dX2_init_27 : decode cX2_init 27 = .ok (.newarray .int, 2) := by decide +kernel
theorem dX2_init_29 : decode cX2_init 29 = .ok (.putfield 19, 3) := by decide +kernel
theorem dX2_init_32 : decode cX2_init 32 = .ok (.aload_n 0, 1) := by decide +kernel
theorem dX2_init_33 : decode cX2_init 33 = .ok (.iconst 3, 1) := by decide +kernel
theorem dX2_init_34 : decode cX2_init 34 = .ok (.newarray .int, 2) := by decide +kernel
theorem dX2_init_36 : decode cX2_init 36 = .ok (.putfield 22, 3) := by decide +kernel
theorem dX2_init_39 : decode cX2_init 39 = .ok (.aload_n 0, 1) := by decide +kernel
theorem dX2_init_40 : decode cX2_init 40 = .ok (.iconst 3, 1) := by decide +kernel
theorem dX2_init_41 : decode cX2_init 41 = .ok (.newarray .int, 2) := by decide +kernel
theorem dX2_init_43 : decode cX2_init 43 = .ok (.putfield 25, 3) := by decide +kernel
theorem dX2_init_46 : decode cX2_init 46 = .ok (.aload_n 0, 1) := by decide +kernel
theorem dX2_init_47 : decode cX2_init 47 = .ok (.bipush 6, 2) := by decide +kernel
theorem dX2_init_49 : decode cX2_init 49 = .ok (.newarray .int, 2) := by decide +kernel
theorem dX2_init_51 : decode cX2_init 51 = .ok (.putfield 28, 3) := by decide +kernel
theorem dX2_init_54 : decode cX2_init 54 = .ok (.aload_n 0, 1) := by decide +kernel
theorem dX2_init_55 : decode cX2_init 55 = .ok (.bipush 54, 2) := by decide +kernel
theorem dX2_init_57 : decode cX2_init 57 = .ok (.newarray .int, 2) := by decide +kernel
theorem dX2_init_59 : decode cX2_init 59 = .ok (.putfield 31, 3) := by decide +kernel
theorem dX2_init_62 : decode cX2_init 62 = .ok (.aload_n 0, 1) := by decide +kernel
theorem dX2_init_63 : decode cX2_init 63 = .ok (.bipush 6, 2) := by decide +kernel
theorem dX2_init_65 : decode cX2_init 65 = .ok (.newarray .int, 2) := by decide +kernel
theorem dX2_init_67 : decode cX2_init 67 = .ok (.putfield 34, 3) := by decide +kernel
theorem dX2_init_70 : decode cX2_init 70 = .ok (.aload_n 0, 1) := by decide +kernel
theorem dX2_init_71 : decode cX2_init 71 = .ok (.sipush 1260, 3) := by decide +kernel
theorem dX2_init_74 : decode cX2_init 74 = .ok (.newarray .int, 2) := by decide +kernel
theorem dX2_init_76 : decode cX2_init 76 = .ok (.putfield 37, 3) := by decide +kernel
theorem dX2_init_79 : decode cX2_init 79 = .ok (.aload_n 0, 1) := by decide +kernel
theorem dX2_init_80 : decode cX2_init 80 = .ok (.iconst 2, 1) := by decide +kernel
theorem dX2_init_81 : decode cX2_init 81 = .ok (.newarray .int, 2) := by decide +kernel
theorem dX2_init_83 : decode cX2_init 83 = .ok (.putfield 40, 3) := by decide +kernel
theorem dX2_init_86 : decode cX2_init 86 = .ok (.aload_n 0, 1) := by decide +kernel
theorem dX2_init_87 : decode cX2_init 87 = .ok (.iconst 2, 1) := by decide +kernel
theorem dX2_init_88 : decode cX2_init 88 = .ok (.newarray .int, 2) := by decide +kernel
theorem dX2_init_90 : decode cX2_init 90 = .ok (.putfield 43, 3) := by decide +kernel
theorem dX2_init_93 : decode cX2_init 93 = .ok (.aload_n 0, 1) := by decide +kernel
theorem dX2_init_94 : decode cX2_init 94 = .ok (.iconst 2, 1) := by decide +kernel
theorem dX2_init_95 : decode cX2_init 95 = .ok (.newarray .int, 2) := by decide +kernel
theorem dX2_init_97 : decode cX2_init 97 = .ok (.putfield 46, 3) := by decide +kernel
theorem dX2_init_100 : decode cX2_init 100 = .ok (.aload_n 0, 1) := by decide +kernel
theorem dX2_init_101 : decode cX2_init 101 = .ok (.iconst 3, 1) := by decide +kernel
theorem dX2_init_102 : decode cX2_init 102 = .ok (.newarray .int, 2) := by decide +kernel
theorem dX2_init_104 : decode cX2_init 104 = .ok (.putfield 49, 3) := by decide +kernel
theorem dX2_init_107 : decode cX2_init 107 = .ok (.aload_n 0, 1) := by decide +kernel
theorem dX2_init_108 : decode cX2_init 108 = .ok (.iconst 3, 1) := by decide +kernel
theorem dX2_init_109 : decode cX2_init 109 = .ok (.newarray .int, 2) := by decide +kernel
theorem dX2_init_111 : decode cX2_init 111 = .ok (.putfield 52, 3) := by decide +kernel
theorem dX2_init_114 : decode cX2_init 114 = .ok (.aload_n 0, 1) := by decide +kernel
theorem dX2_init_115 : decode cX2_init 115 = .ok (.iconst 3, 1) := by decide +kernel
theorem dX2_init_116 : decode cX2_init 116 = .ok (.newarray .int, 2) := by decide +kernel
theorem dX2_init_118 : decode cX2_init 118 = .ok (.putfield 55, 3) := by decide +kernel
theorem dX2_init_121 : decode cX2_init 121 = .ok (.aload_n 0, 1) := by decide +kernel
theorem dX2_init_122 : decode cX2_init 122 = .ok (.iconst 3, 1) := by decide +kernel
theorem dX2_init_123 : decode cX2_init 123 = .ok (.newarray .int, 2) := by decide +kernel
theorem dX2_init_125 : decode cX2_init 125 = .ok (.putfield 58, 3) := by decide +kernel
theorem dX2_init_128 : decode cX2_init 128 = .ok (.aload_n 0, 1) := by decide +kernel
theorem dX2_init_129 : decode cX2_init 129 = .ok (.sipush 1820, 3) := by decide +kernel
theorem dX2_init_132 : decode cX2_init 132 = .ok (.newarray .int, 2) := by decide +kernel
theorem dX2_init_134 : decode cX2_init 134 = .ok (.putfield 61, 3) := by decide +kernel
theorem dX2_init_137 : decode cX2_init 137 = .ok (.iconst 0, 1) := by decide +kernel
theorem dX2_init_138 : decode cX2_init 138 = .ok (.istore_n 1, 1) := by decide +kernel
theorem dX2_init_139 : decode cX2_init 139 = .ok (.iload_n 1, 1) := by decide +kernel
theorem dX2_init_140 : decode cX2_init 140 = .ok (.iconst 3, 1) := by decide +kernel
theorem dX2_init_141 : decode cX2_init 141 = .ok (.if_icmp .ge 40, 3) := by decide +kernel
theorem dX2_init_144 : decode cX2_init 144 = .ok (.aload_n 0, 1) := by decide +kernel
theorem dX2_init_145 : decode cX2_init 145 = .ok (.getfield 7, 3) := by decide +kernel
theorem dX2_init_148 : decode cX2_init 148 = .ok (.iload_n 1, 1) := by decide +kernel
theorem dX2_init_149 : decode cX2_init 149 = .ok (.bipush 100, 2) := by decide +kernel
theorem dX2_init_151 : decode cX2_init 151 = .ok (.iastore, 1) := by decide +kernel
theorem dX2_init_152 : decode cX2_init 152 = .ok (.aload_n 0, 1) := by decide +kernel
theorem dX2_init_153 : decode cX2_init 153 = .ok (.getfield 13, 3) := by decide +kernel
theorem dX2_init_156 : decode cX2_init 156 = .ok (.iload_n 1, 1) := by decide +kernel
theorem dX2_init_157 : decode cX2_init 157 = .ok (.bipush 10, 2) := by decide +kernel
theorem dX2_init_159 : decode cX2_init 159 = .ok (.iastore, 1) := by decide +kernel
theorem dX2_init_160 : decode cX2_init 160 = .ok (.aload_n 0, 1) := by decide +kernel
theorem dX2_init_161 : decode cX2_init 161 = .ok (.getfield 16, 3) := by decide +kernel
theorem dX2_init_164 : decode cX2_init 164 = .ok (.iload_n 1, 1) := by decide +kernel
theorem dX2_init_165 : decode cX2_init 165 = .ok (.iconst 1, 1) := by decide +kernel
theorem dX2_init_166 : decode cX2_init 166 = .ok (.iastore, 1) := by decide +kernel
theorem dX2_init_167 : decode cX2_init 167 = .ok (.aload_n 0, 1) := by decide +kernel
theorem dX2_init_168 : decode cX2_init 168 = .ok (.getfield 22, 3) := by decide +kernel
theorem dX2_init_171 : decode cX2_init 171 = .ok (.iload_n 1, 1) := by decide +kernel
theorem dX2_init_172 : decode cX2_init 172 = .ok (.bipush 50, 2) := by decide +kernel
theorem dX2_init_174 : decode cX2_init 174 = .ok (.iastore, 1) := by decide +kernel
theorem dX2_init_175 : decode cX2_init 175 = .ok (.iinc 1 1, 3) := by decide +kernel
theorem dX2_init_178 : decode cX2_init 178 = .ok (.goto (-39), 3) := by decide +kernel
theorem dX2_init_181 : decode cX2_init 181 = .ok (.iconst 0, 1) := by decide +kernel
theorem dX2_init_182 : decode cX2_init 182 = .ok (.istore_n 1, 1) := by decide +kernel
theorem dX2_init_183 : decode cX2_init 183 = .ok (.iload_n 1, 1) := by decide +kernel
theorem dX2_init_184 : decode cX2_init 184 = .ok (.bipush 54, 2) := by decide +kernel
theorem dX2_init_186 : decode cX2_init 186 = .ok (.if_icmp .ge 22, 3) := by decide +kernel
theorem dX2_init_189 : decode cX2_init 189 = .ok (.aload_n 0, 1) := by decide +kernel
theorem dX2_init_190 : decode cX2_init 190 = .ok (.getfield 31, 3) := by decide +kernel
theorem dX2_init_193 : decode cX2_init 193 = .ok (.iload_n 1, 1) := by decide +kernel
theorem dX2_init_194 : decode cX2_init 194 = .ok (.bipush 10, 2) := by decide +kernel
theorem dX2_init_196 : decode cX2_init 196 = .ok (.iload_n 1, 1) := by decide +kernel
theorem dX2_init_197 : decode cX2_init 197 = .ok (.bipush 9, 2) := by decide +kernel
theorem dX2_init_199 : decode cX2_init 199 = .ok (.irem, 1) := by decide +kernel
theorem dX2_init_200 : decode cX2_init 200 = .ok (.imul, 1) := by decide +kernel
theorem dX2_init_201 : decode cX2_init 201 = .ok (.iastore, 1) := by decide +kernel
theorem dX2_init_202 : decode cX2_init 202 = .ok (.iinc 1 1, 3) := by decide +kernel
theorem dX2_init_205 : decode cX2_init 205 = .ok (.goto (-22), 3) := by decide +kernel
theorem dX2_init_208 : decode cX2_init 208 = .ok (.return_, 1) := by decide +kernel
theorem dX2_thrown_0 : decode cX2_thrown 0 = .ok (.aload_n 0, 1) := by decide +kernel
theorem dX2_thrown_1 : decode cX2_thrown 1 = .ok (.getfield 64, 3) := by decide +kernel
theorem dX2_thrown_4 : decode cX2_thrown 4 = .ok (.ireturn, 1) := by decide +kernel
theorem dX2_isIn_0 : decode cX2_isIn 0 = .ok (.iload_n 0, 1) := by decide +kernel
theorem dX2_isIn_1 : decode cX2_isIn 1 = .ok (.iload_n 1, 1) := by decide +kernel
theorem dX2_isIn_2 : decode cX2_isIn 2 = .ok (.if_icmp .lt 12, 3) := by decide +kernel
theorem dX2_isIn_5 : decode cX2_isIn 5 = .ok (.iload_n 0, 1) := by decide +kernel
theorem dX2_isIn_6 : decode cX2_isIn 6 = .ok (.iload_n 2, 1) := by decide +kernel
theorem dX2_isIn_7 : decode cX2_isIn 7 = .ok (.if_icmp .gt 7, 3) := by decide +kernel
theorem dX2_isIn_10 : decode cX2_isIn 10 = .ok (.iconst 1, 1) := by decide +kernel
theorem dX2_isIn_11 : decode cX2_isIn 11 = .ok (.goto 4, 3) := by decide +kernel
theorem dX2_isIn_14 : decode cX2_isIn 14 = .ok (.iconst 0, 1) := by decide +kernel
theorem dX2_isIn_15 : decode cX2_isIn 15 = .ok (.ireturn, 1) := by decide +kernel
theorem dX2_isPlant_0 : decode cX2_isPlant 0 = .ok (.iload_n 0, 1) := by decide +kernel
theorem dX2_isPlant_1 : decode cX2_isPlant 1 = .ok (.iconst 0, 1) := by decide +kernel
theorem dX2_isPlant_2 : decode cX2_isPlant 2 = .ok (.iconst 2, 1) := by decide +kernel
theorem dX2_isPlant_3 : decode cX2_isPlant 3 = .ok (.invokestatic 68, 3) := by decide +kernel
theorem dX2_isPlant_6 : decode cX2_isPlant 6 = .ok (.ireturn, 1) := by decide +kernel
theorem dX2_isOwner_0 : decode cX2_isOwner 0 = .ok (.iload_n 0, 1) := by decide +kernel
theorem dX2_isOwner_1 : decode cX2_isOwner 1 = .ok (.iconst 0, 1) := by decide +kernel
theorem dX2_isOwner_2 : decode cX2_isOwner 2 = .ok (.iconst 1, 1) := by decide +kernel
theorem dX2_isOwner_3 : decode cX2_isOwner 3 = .ok (.invokestatic 68, 3) := by decide +kernel
theorem dX2_isOwner_6 : decode cX2_isOwner 6 = .ok (.ireturn, 1) := by decide +kernel
theorem dX2_setPond_0 : decode cX2_setPond 0 = .ok (.aload_n 0, 1) := by decide +kernel
theorem dX2_setPond_1 : decode cX2_setPond 1 = .ok (.iload_n 1, 1) := by decide +kernel
theorem dX2_setPond_2 : decode cX2_setPond 2 = .ok (.invokestatic 72, 3) := by decide +kernel
theorem dX2_setPond_5 : decode cX2_setPond 5 = .ok (.ifCond .eq 38, 3) := by decide +kernel
theorem dX2_setPond_8 : decode cX2_setPond 8 = .ok (.iload_n 2, 1) := by decide +kernel
theorem dX2_setPond_9 : decode cX2_setPond 9 = .ok (.iconst 1, 1) := by decide +kernel
theorem dX2_setPond_10 : decode cX2_setPond 10 = .ok (.sipush 200, 3) := by decide +kernel
theorem dX2_setPond_13 : decode cX2_setPond 13 = .ok (.invokestatic 68, 3) := by decide +kernel
theorem dX2_setPond_16 : decode cX2_setPond 16 = .ok (.ifCond .eq 27, 3) := by decide +kernel
theorem dX2_setPond_19 : decode cX2_setPond 19 = .ok (.iload_n 3, 1) := by decide +kernel
theorem dX2_setPond_20 : decode cX2_setPond 20 = .ok (.iconst 0, 1) := by decide +kernel
theorem dX2_setPond_21 : decode cX2_setPond 21 = .ok (.bipush 100, 2) := by decide +kernel
theorem dX2_setPond_23 : decode cX2_setPond 23 = .ok (.invokestatic 68, 3) := by decide +kernel
theorem dX2_setPond_26 : decode cX2_setPond 26 = .ok (.ifCond .eq 17, 3) := by decide +kernel
theorem dX2_setPond_29 : decode cX2_setPond 29 = .ok (.iload 4, 2) := by decide +kernel
theorem dX2_setPond_31 : decode cX2_setPond 31 = .ok (.iconst 0, 1) := by decide +kernel
theorem dX2_setPond_32 : decode cX2_setPond 32 = .ok (.iconst 5, 1) := by decide +kernel
theorem dX2_setPond_33 : decode cX2_setPond 33 = .ok (.invokestatic 68, 3) := by decide +kernel
theorem dX2_setPond_36 : decode cX2_setPond 36 = .ok (.ifCond .eq 7, 3) := by decide +kernel
theorem dX2_setPond_39 : decode cX2_setPond 39 = .ok (.iconst 0, 1) := by decide +kernel
theorem dX2_setPond_40 : decode cX2_setPond 40 = .ok (.goto 4, 3) := by decide +kernel
theorem dX2_setPond_43 : decode cX2_setPond 43 = .ok (.iconst 1, 1) := by decide +kernel
theorem dX2_setPond_44 : decode cX2_setPond 44 = .ok (.putfield 64, 3) := by decide +kernel
theorem dX2_setPond_47 : decode cX2_setPond 47 = .ok (.aload_n 0, 1) := by decide +kernel
theorem dX2_setPond_48 : decode cX2_setPond 48 = .ok (.getfield 64, 3) := by decide +kernel
theorem dX2_setPond_51 : decode cX2_setPond 51 = .ok (.ifCond .ne 25, 3) := by decide +kernel
theorem dX2_setPond_54 : decode cX2_setPond 54 = .ok (.aload_n 0, 1) := by decide +kernel
theorem dX2_setPond_55 : decode cX2_setPond 55 = .ok (.getfield 7, 3) := by decide +kernel
theorem dX2_setPond_58 : decode cX2_setPond 58 = .ok (.iload_n 1, 1) := by decide +kernel
theorem dX2_setPond_59 : decode cX2_setPond 59 = .ok (.iload_n 2, 1) := by decide +kernel
theorem dX2_setPond_60 : decode cX2_setPond 60 = .ok (.iastore, 1) := by decide +kernel
theorem dX2_setPond_61 : decode cX2_setPond 61 = .ok (.aload_n 0, 1) := by decide +kernel
theorem dX2_setPond_62 : decode cX2_setPond 62 = .ok (.getfield 13, 3) := by decide +kernel
theorem dX2_setPond_65 : decode cX2_setPond 65 = .ok (.iload_n 1, 1) := by decide +kernel
theorem dX2_setPond_66 : decode cX2_setPond 66 = .ok (.iload_n 3, 1) := by decide +kernel
theorem dX2_setPond_67 : decode cX2_setPond 67 = .ok (.iastore, 1) := by decide +kernel
theorem dX2_setPond_68 : decode cX2_setPond 68 = .ok (.aload_n 0, 1) := by decide +kernel
theorem dX2_setPond_69 : decode cX2_setPond 69 = .ok (.getfield 16, 3) := by decide +kernel
theorem dX2_setPond_72 : decode cX2_setPond 72 = .ok (.iload_n 1, 1) := by decide +kernel
theorem dX2_setPond_73 : decode cX2_setPond 73 = .ok (.iload 4, 2) := by decide +kernel
theorem dX2_setPond_75 : decode cX2_setPond 75 = .ok (.iastore, 1) := by decide +kernel
theorem dX2_setPond_76 : decode cX2_setPond 76 = .ok (.return_, 1) := by decide +kernel
theorem dX2_setInflow_0 : decode cX2_setInflow 0 = .ok (.aload_n 0, 1) := by decide +kernel
theorem dX2_setInflow_1 : decode cX2_setInflow 1 = .ok (.iload_n 1, 1) := by decide +kernel
theorem dX2_setInflow_2 : decode cX2_setInflow 2 = .ok (.invokestatic 72, 3) := by decide +kernel
theorem dX2_setInflow_5 : decode cX2_setInflow 5 = .ok (.ifCond .eq 27, 3) := by decide +kernel
theorem dX2_setInflow_8 : decode cX2_setInflow 8 = .ok (.iload_n 2, 1) := by decide +kernel
theorem dX2_setInflow_9 : decode cX2_setInflow 9 = .ok (.iconst 0, 1) := by decide +kernel
theorem dX2_setInflow_10 : decode cX2_setInflow 10 = .ok (.bipush 50, 2) := by decide +kernel
theorem dX2_setInflow_12 : decode cX2_setInflow 12 = .ok (.invokestatic 68, 3) := by decide +kernel
theorem dX2_setInflow_15 : decode cX2_setInflow 15 = .ok (.ifCond .eq 17, 3) := by decide +kernel
theorem dX2_setInflow_18 : decode cX2_setInflow 18 = .ok (.iload_n 3, 1) := by decide +kernel
theorem dX2_setInflow_19 : decode cX2_setInflow 19 = .ok (.iconst 0, 1) := by decide +kernel
theorem dX2_setInflow_20 : decode cX2_setInflow 20 = .ok (.bipush 100, 2) := by decide +kernel
theorem dX2_setInflow_22 : decode cX2_setInflow 22 = .ok (.invokestatic 68, 3) := by decide +kernel
theorem dX2_setInflow_25 : decode cX2_setInflow 25 = .ok (.ifCond .eq 7, 3) := by decide +kernel
theorem dX2_setInflow_28 : decode cX2_setInflow 28 = .ok (.iconst 0, 1) := by decide +kernel
theorem dX2_setInflow_29 : decode cX2_setInflow 29 = .ok (.goto 4, 3) := by decide +kernel
theorem dX2_setInflow_32 : decode cX2_setInflow 32 = .ok (.iconst 1, 1) := by decide +kernel
theorem dX2_setInflow_33 : decode cX2_setInflow 33 = .ok (.putfield 64, 3) := by decide +kernel
theorem dX2_setInflow_36 : decode cX2_setInflow 36 = .ok (.aload_n 0, 1) := by decide +kernel
theorem dX2_setInflow_37 : decode cX2_setInflow 37 = .ok (.getfield 64, 3) := by decide +kernel
theorem dX2_setInflow_40 : decode cX2_setInflow 40 = .ok (.ifCond .le 5, 3) := by decide +kernel
theorem dX2_setInflow_43 : decode cX2_setInflow 43 = .ok (.iconst 0, 1) := by decide +kernel
theorem dX2_setInflow_44 : decode cX2_setInflow 44 = .ok (.ireturn, 1) := by decide +kernel
theorem dX2_setInflow_45 : decode cX2_setInflow 45 = .ok (.aload_n 0, 1) := by decide +kernel
theorem dX2_setInflow_46 : decode cX2_setInflow 46 = .ok (.getfield 19, 3) := by decide +kernel
theorem dX2_setInflow_49 : decode cX2_setInflow 49 = .ok (.iload_n 1, 1) := by decide +kernel
theorem dX2_setInflow_50 : decode cX2_setInflow 50 = .ok (.iaload, 1) := by decide +kernel
theorem dX2_setInflow_51 : decode cX2_setInflow 51 = .ok (.istore 4, 2) := by decide +kernel
theorem dX2_setInflow_53 : decode cX2_setInflow 53 = .ok (.aload_n 0, 1) := by decide +kernel
theorem dX2_setInflow_54 : decode cX2_setInflow 54 = .ok (.getfield 19, 3) := by decide +kernel
theorem dX2_setInflow_57 : decode cX2_setInflow 57 = .ok (.iload_n 1, 1) := by decide +kernel
theorem dX2_setInflow_58 : decode cX2_setInflow 58 = .ok (.iload_n 2, 1) := by decide +kernel
theorem dX2_setInflow_59 : decode cX2_setInflow 59 = .ok (.iastore, 1) := by decide +kernel
theorem dX2_setInflow_60 : decode cX2_setInflow 60 = .ok (.aload_n 0, 1) := by decide +kernel
theorem dX2_setInflow_61 : decode cX2_setInflow 61 = .ok (.getfield 22, 3) := by decide +kernel
theorem dX2_setInflow_64 : decode cX2_setInflow 64 = .ok (.iload_n 1, 1) := by decide +kernel
theorem dX2_setInflow_65 : decode cX2_setInflow 65 = .ok (.iload_n 3, 1) := by decide +kernel
theorem dX2_setInflow_66 : decode cX2_setInflow 66 = .ok (.iastore, 1) := by decide +kernel
theorem dX2_setInflow_67 : decode cX2_setInflow 67 = .ok (.iload 4, 2) := by decide +kernel
theorem dX2_setInflow_69 : decode cX2_setInflow 69 = .ok (.ireturn, 1) := by decide +kernel
theorem dX2_setMinimum_0 : decode cX2_setMinimum 0 = .ok (.aload_n 0, 1) := by decide +kernel
theorem dX2_setMinimum_1 : decode cX2_setMinimum 1 = .ok (.iload_n 1, 1) := by decide +kernel
theorem dX2_setMinimum_2 : decode cX2_setMinimum 2 = .ok (.invokestatic 72, 3) := by decide +kernel
theorem dX2_setMinimum_5 : decode cX2_setMinimum 5 = .ok (.ifCond .eq 17, 3) := by decide +kernel
theorem dX2_setMinimum_8 : decode cX2_setMinimum 8 = .ok (.iload_n 2, 1) := by decide +kernel
theorem dX2_setMinimum_9 : decode cX2_setMinimum 9 = .ok (.iconst 0, 1) := by decide +kernel
theorem dX2_setMinimum_10 : decode cX2_setMinimum 10 = .ok (.bipush 20, 2) := by decide +kernel
theorem dX2_setMinimum_12 : decode cX2_setMinimum 12 = .ok (.invokestatic 68, 3) := by decide +kernel
theorem dX2_setMinimum_15 : decode cX2_setMinimum 15 = .ok (.ifCond .eq 7, 3) := by decide +kernel
theorem dX2_setMinimum_18 : decode cX2_setMinimum 18 = .ok (.iconst 0, 1) := by decide +kernel
theorem dX2_setMinimum_19 : decode cX2_setMinimum 19 = .ok (.goto 4, 3) := by decide +kernel
theorem dX2_setMinimum_22 : decode cX2_setMinimum 22 = .ok (.iconst 1, 1) := by decide +kernel
theorem dX2_setMinimum_23 : decode cX2_setMinimum 23 = .ok (.putfield 64, 3) := by decide +kernel
theorem dX2_setMinimum_26 : decode cX2_setMinimum 26 = .ok (.aload_n 0, 1) := by decide +kernel
theorem dX2_setMinimum_27 : decode cX2_setMinimum 27 = .ok (.getfield 64, 3) := by decide +kernel
theorem dX2_setMinimum_30 : decode cX2_setMinimum 30 = .ok (.ifCond .le 5, 3) := by decide +kernel
theorem dX2_setMinimum_33 : decode cX2_setMinimum 33 = .ok (.iconst 0, 1) := by decide +kernel
theorem dX2_setMinimum_34 : decode cX2_setMinimum 34 = .ok (.ireturn, 1) := by decide +kernel
theorem dX2_setMinimum_35 : decode cX2_setMinimum 35 = .ok (.aload_n 0, 1) := by decide +kernel
theorem dX2_setMinimum_36 : decode cX2_setMinimum 36 = .ok (.getfield 25, 3) := by decide +kernel
theorem dX2_setMinimum_39 : decode cX2_setMinimum 39 = .ok (.iload_n 1, 1) := by decide +kernel
theorem dX2_setMinimum_40 : decode cX2_setMinimum 40 = .ok (.iaload, 1) := by decide +kernel
theorem dX2_setMinimum_41 : decode cX2_setMinimum 41 = .ok (.istore_n 3, 1) := by decide +kernel
theorem dX2_setMinimum_42 : decode cX2_setMinimum 42 = .ok (.aload_n 0, 1) := by decide +kernel
theorem dX2_setMinimum_43 : decode cX2_setMinimum 43 = .ok (.getfield 25, 3) := by decide +kernel
theorem dX2_setMinimum_46 : decode cX2_setMinimum 46 = .ok (.iload_n 1, 1) := by decide +kernel
theorem dX2_setMinimum_47 : decode cX2_setMinimum 47 = .ok (.iload_n 2, 1) := by decide +kernel
theorem dX2_setMinimum_48 : decode cX2_setMinimum 48 = .ok (.iastore, 1) := by decide +kernel
theorem dX2_setMinimum_49 : decode cX2_setMinimum 49 = .ok (.iload_n 3, 1) := by decide +kernel
theorem dX2_setMinimum_50 : decode cX2_setMinimum 50 = .ok (.ireturn, 1) := by decide +kernel
theorem dX2_order_0 : decode cX2_order 0 = .ok (.aload_n 0, 1) := by decide +kernel
theorem dX2_order_1 : decode cX2_order 1 = .ok (.iload_n 1, 1) := by decide +kernel
theorem dX2_order_2 : decode cX2_order 2 = .ok (.invokestatic 72, 3) := by decide +kernel
theorem dX2_order_5 : decode cX2_order 5 = .ok (.ifCond .eq 24, 3) := by decide +kernel
theorem dX2_order_8 : decode cX2_order 8 = .ok (.iload_n 2, 1) := by decide +kernel
theorem dX2_order_9 : decode cX2_order 9 = .ok (.invokestatic 76, 3) := by decide +kernel
theorem dX2_order_12 : decode cX2_order 12 = .ok (.ifCond .eq 17, 3) := by decide +kernel
theorem dX2_order_15 : decode cX2_order 15 = .ok (.iload_n 3, 1) := by decide +kernel
theorem dX2_order_16 : decode cX2_order 16 = .ok (.iconst 0, 1) := by decide +kernel
theorem dX2_order_17 : decode cX2_order 17 = .ok (.bipush 30, 2) := by decide +kernel
theorem dX2_order_19 : decode cX2_order 19 = .ok (.invokestatic 68, 3) := by decide +kernel
theorem dX2_order_22 : decode cX2_order 22 = .ok (.ifCond .eq 7, 3) := by decide +kernel
theorem dX2_order_25 : decode cX2_order 25 = .ok (.iconst 0, 1) := by decide +kernel
theorem dX2_order_26 : decode cX2_order 26 = .ok (.goto 4, 3) := by decide +kernel
theorem dX2_order_29 : decode cX2_order 29 = .ok (.iconst 1, 1) := by decide +kernel
theorem dX2_order_30 : decode cX2_order 30 = .ok (.putfield 64, 3) := by decide +kernel
theorem dX2_order_33 : decode cX2_order 33 = .ok (.aload_n 0, 1) := by decide +kernel
theorem dX2_order_34 : decode cX2_order 34 = .ok (.getfield 64, 3) := by decide +kernel
theorem dX2_order_37 : decode cX2_order 37 = .ok (.ifCond .le 5, 3) := by decide +kernel
theorem dX2_order_40 : decode cX2_order 40 = .ok (.iconst 0, 1) := by decide +kernel
theorem dX2_order_41 : decode cX2_order 41 = .ok (.ireturn, 1) := by decide +kernel
theorem dX2_order_42 : decode cX2_order 42 = .ok (.aload_n 0, 1) := by decide +kernel
theorem dX2_order_43 : decode cX2_order 43 = .ok (.getfield 28, 3) := by decide +kernel
theorem dX2_order_46 : decode cX2_order 46 = .ok (.iconst 2, 1) := by decide +kernel
theorem dX2_order_47 : decode cX2_order 47 = .ok (.iload_n 1, 1) := by decide +kernel
theorem dX2_order_48 : decode cX2_order 48 = .ok (.imul, 1) := by decide +kernel
theorem dX2_order_49 : decode cX2_order 49 = .ok (.iload_n 2, 1) := by decide +kernel
theorem dX2_order_50 : decode cX2_order 50 = .ok (.iadd, 1) := by decide +kernel
theorem dX2_order_51 : decode cX2_order 51 = .ok (.iaload, 1) := by decide +kernel
theorem dX2_order_52 : decode cX2_order 52 = .ok (.istore 4, 2) := by decide +kernel
theorem dX2_order_54 : decode cX2_order 54 = .ok (.aload_n 0, 1) := by decide +kernel
theorem dX2_order_55 : decode cX2_order 55 = .ok (.getfield 28, 3) := by decide +kernel
theorem dX2_order_58 : decode cX2_order 58 = .ok (.iconst 2, 1) := by decide +kernel
theorem dX2_order_59 : decode cX2_order 59 = .ok (.iload_n 1, 1) := by decide +kernel
theorem dX2_order_60 : decode cX2_order 60 = .ok (.imul, 1) := by decide +kernel
theorem dX2_order_61 : decode cX2_order 61 = .ok (.iload_n 2, 1) := by decide +kernel
theorem dX2_order_62 : decode cX2_order 62 = .ok (.iadd, 1) := by decide +kernel
theorem dX2_order_63 : decode cX2_order 63 = .ok (.iload_n 3, 1) := by decide +kernel
theorem dX2_order_64 : decode cX2_order 64 = .ok (.iastore, 1) := by decide +kernel
theorem dX2_order_65 : decode cX2_order 65 = .ok (.iload 4, 2) := by decide +kernel
theorem dX2_order_67 : decode cX2_order 67 = .ok (.ireturn, 1) := by decide +kernel
theorem dX2_setYield_0 : decode cX2_setYield 0 = .ok (.aload_n 0, 1) := by decide +kernel
theorem dX2_setYield_1 : decode cX2_setYield 1 = .ok (.iload_n 1, 1) := by decide +kernel
theorem dX2_setYield_2 : decode cX2_setYield 2 = .ok (.invokestatic 72, 3) := by decide +kernel
theorem dX2_setYield_5 : decode cX2_setYield 5 = .ok (.ifCond .eq 38, 3) := by decide +kernel
theorem dX2_setYield_8 : decode cX2_setYield 8 = .ok (.iload_n 2, 1) := by decide +kernel
theorem dX2_setYield_9 : decode cX2_setYield 9 = .ok (.iconst 0, 1) := by decide +kernel
theorem dX2_setYield_10 : decode cX2_setYield 10 = .ok (.iconst 1, 1) := by decide +kernel
theorem dX2_setYield_11 : decode cX2_setYield 11 = .ok (.invokestatic 68, 3) := by decide +kernel
theorem dX2_setYield_14 : decode cX2_setYield 14 = .ok (.ifCond .eq 29, 3) := by decide +kernel
theorem dX2_setYield_17 : decode cX2_setYield 17 = .ok (.iload_n 3, 1) := by decide +kernel
theorem dX2_setYield_18 : decode cX2_setYield 18 = .ok (.iconst 1, 1) := by decide +kernel
theorem dX2_setYield_19 : decode cX2_setYield 19 = .ok (.bipush 8, 2) := by decide +kernel
theorem dX2_setYield_21 : decode cX2_setYield 21 = .ok (.invokestatic 68, 3) := by decide +kernel
theorem dX2_setYield_24 : decode cX2_setYield 24 = .ok (.ifCond .eq 19, 3) := by decide +kernel
theorem dX2_setYield_27 : decode cX2_setYield 27 = .ok (.iload 4, 2) := by decide +kernel
theorem dX2_setYield_29 : decode cX2_setYield 29 = .ok (.iconst 0, 1) := by decide +kernel
theorem dX2_setYield_30 : decode cX2_setYield 30 = .ok (.sipush 200, 3) := by decide +kernel
theorem dX2_setYield_33 : decode cX2_setYield 33 = .ok (.invokestatic 68, 3) := by decide +kernel
theorem dX2_setYield_36 : decode cX2_setYield 36 = .ok (.ifCond .eq 7, 3) := by decide +kernel
theorem dX2_setYield_39 : decode cX2_setYield 39 = .ok (.iconst 0, 1) := by decide +kernel
theorem dX2_setYield_40 : decode cX2_setYield 40 = .ok (.goto 4, 3) := by decide +kernel
theorem dX2_setYield_43 : decode cX2_setYield 43 = .ok (.iconst 1, 1) := by decide +kernel
theorem dX2_setYield_44 : decode cX2_setYield 44 = .ok (.putfield 64, 3) := by decide +kernel
theorem dX2_setYield_47 : decode cX2_setYield 47 = .ok (.aload_n 0, 1) := by decide +kernel
theorem dX2_setYield_48 : decode cX2_setYield 48 = .ok (.getfield 64, 3) := by decide +kernel
theorem dX2_setYield_51 : decode cX2_setYield 51 = .ok (.ifCond .le 5, 3) := by decide +kernel
theorem dX2_setYield_54 : decode cX2_setYield 54 = .ok (.iconst 0, 1) := by decide +kernel
theorem dX2_setYield_55 : decode cX2_setYield 55 = .ok (.ireturn, 1) := by decide +kernel
theorem dX2_setYield_56 : decode cX2_setYield 56 = .ok (.bipush 18, 2) := by decide +kernel
theorem dX2_setYield_58 : decode cX2_setYield 58 = .ok (.iload_n 1, 1) := by decide +kernel
theorem dX2_setYield_59 : decode cX2_setYield 59 = .ok (.imul, 1) := by decide +kernel
theorem dX2_setYield_60 : decode cX2_setYield 60 = .ok (.bipush 9, 2) := by decide +kernel
theorem dX2_setYield_62 : decode cX2_setYield 62 = .ok (.iload_n 2, 1) := by decide +kernel
theorem dX2_setYield_63 : decode cX2_setYield 63 = .ok (.imul, 1) := by decide +kernel
theorem dX2_setYield_64 : decode cX2_setYield 64 = .ok (.iadd, 1) := by decide +kernel
theorem dX2_setYield_65 : decode cX2_setYield 65 = .ok (.iload_n 3, 1) := by decide +kernel
theorem dX2_setYield_66 : decode cX2_setYield 66 = .ok (.iadd, 1) := by decide +kernel
theorem dX2_setYield_67 : decode cX2_setYield 67 = .ok (.istore 5, 2) := by decide +kernel
theorem dX2_setYield_69 : decode cX2_setYield 69 = .ok (.aload_n 0, 1) := by decide +kernel
theorem dX2_setYield_70 : decode cX2_setYield 70 = .ok (.getfield 31, 3) := by decide +kernel
theorem dX2_setYield_73 : decode cX2_setYield 73 = .ok (.iload 5, 2) := by decide +kernel
theorem dX2_setYield_75 : decode cX2_setYield 75 = .ok (.iaload, 1) := by decide +kernel
theorem dX2_setYield_76 : decode cX2_setYield 76 = .ok (.istore 6, 2) := by decide +kernel
theorem dX2_setYield_78 : decode cX2_setYield 78 = .ok (.aload_n 0, 1) := by decide +kernel
theorem dX2_setYield_79 : decode cX2_setYield 79 = .ok (.getfield 31, 3) := by decide +kernel
theorem dX2_setYield_82 : decode cX2_setYield 82 = .ok (.iload 5, 2) := by decide +kernel
theorem dX2_setYield_84 : decode cX2_setYield 84 = .ok (.iload 4, 2) := by decide +kernel
theorem dX2_setYield_86 : decode cX2_setYield 86 = .ok (.iastore, 1) := by decide +kernel
theorem dX2_setYield_87 : decode cX2_setYield 87 = .ok (.iload 6, 2) := by decide +kernel
theorem dX2_setYield_89 : decode cX2_setYield 89 = .ok (.ireturn, 1) := by decide +kernel
theorem dX2_mixed_0 : decode cX2_mixed 0 = .ok (.iconst 0, 1) := by decide +kernel
theorem dX2_mixed_1 : decode cX2_mixed 1 = .ok (.istore_n 3, 1) := by decide +kernel
theorem dX2_mixed_2 : decode cX2_mixed 2 = .ok (.iconst 0, 1) := by decide +kernel
theorem dX2_mixed_3 : decode cX2_mixed 3 = .ok (.istore 4, 2) := by decide +kernel
theorem dX2_mixed_5 : decode cX2_mixed 5 = .ok (.iload 4, 2) := by decide +kernel
theorem dX2_mixed_7 : decode cX2_mixed 7 = .ok (.bipush 81, 2) := by decide +kernel
theorem dX2_mixed_9 : decode cX2_mixed 9 = .ok (.if_icmp .ge 73, 3) := by decide +kernel
theorem dX2_mixed_12 : decode cX2_mixed 12 = .ok (.aload_n 0, 1) := by decide +kernel
theorem dX2_mixed_13 : decode cX2_mixed 13 = .ok (.getfield 31, 3) := by decide +kernel
theorem dX2_mixed_16 : decode cX2_mixed 16 = .ok (.bipush 18, 2) := by decide +kernel
theorem dX2_mixed_18 : decode cX2_mixed 18 = .ok (.iload_n 1, 1) := by decide +kernel
theorem dX2_mixed_19 : decode cX2_mixed 19 = .ok (.imul, 1) := by decide +kernel
theorem dX2_mixed_20 : decode cX2_mixed 20 = .ok (.iload 4, 2) := by decide +kernel
theorem dX2_mixed_22 : decode cX2_mixed 22 = .ok (.bipush 9, 2) := by decide +kernel
theorem dX2_mixed_24 : decode cX2_mixed 24 = .ok (.idiv, 1) := by decide +kernel
theorem dX2_mixed_25 : decode cX2_mixed 25 = .ok (.iadd, 1) := by decide +kernel
theorem dX2_mixed_26 : decode cX2_mixed 26 = .ok (.iaload, 1) := by decide +kernel
theorem dX2_mixed_27 : decode cX2_mixed 27 = .ok (.aload_n 0, 1) := by decide +kernel
theorem dX2_mixed_28 : decode cX2_mixed 28 = .ok (.getfield 31, 3) := by decide +kernel
theorem dX2_mixed_31 : decode cX2_mixed 31 = .ok (.bipush 18, 2) := by decide +kernel
theorem dX2_mixed_33 : decode cX2_mixed 33 = .ok (.iload_n 1, 1) := by decide +kernel
theorem dX2_mixed_34 : decode cX2_mixed 34 = .ok (.imul, 1) := by decide +kernel
theorem dX2_mixed_35 : decode cX2_mixed 35 = .ok (.bipush 9, 2) := by decide +kernel
theorem dX2_mixed_37 : decode cX2_mixed 37 = .ok (.iadd, 1) := by decide +kernel
theorem dX2_mixed_38 : decode cX2_mixed 38 = .ok (.iload 4, 2) := by decide +kernel
theorem dX2_mixed_40 : decode cX2_mixed 40 = .ok (.bipush 9, 2) := by decide +kernel
theorem dX2_mixed_42 : decode cX2_mixed 42 = .ok (.irem, 1) := by decide +kernel
theorem dX2_mixed_43 : decode cX2_mixed 43 = .ok (.iadd, 1) := by decide +kernel
theorem dX2_mixed_44 : decode cX2_mixed 44 = .ok (.iaload, 1) := by decide +kernel
theorem dX2_mixed_45 : decode cX2_mixed 45 = .ok (.iadd, 1) := by decide +kernel
theorem dX2_mixed_46 : decode cX2_mixed 46 = .ok (.istore 5, 2) := by decide +kernel
theorem dX2_mixed_48 : decode cX2_mixed 48 = .ok (.iload 4, 2) := by decide +kernel
theorem dX2_mixed_50 : decode cX2_mixed 50 = .ok (.bipush 9, 2) := by decide +kernel
theorem dX2_mixed_52 : decode cX2_mixed 52 = .ok (.idiv, 1) := by decide +kernel
theorem dX2_mixed_53 : decode cX2_mixed 53 = .ok (.iload 4, 2) := by decide +kernel
theorem dX2_mixed_55 : decode cX2_mixed 55 = .ok (.bipush 9, 2) := by decide +kernel
theorem dX2_mixed_57 : decode cX2_mixed 57 = .ok (.irem, 1) := by decide +kernel
theorem dX2_mixed_58 : decode cX2_mixed 58 = .ok (.iadd, 1) := by decide +kernel
theorem dX2_mixed_59 : decode cX2_mixed 59 = .ok (.iload_n 2, 1) := by decide +kernel
theorem dX2_mixed_60 : decode cX2_mixed 60 = .ok (.if_icmp .gt 14, 3) := by decide +kernel
theorem dX2_mixed_63 : decode cX2_mixed 63 = .ok (.iload 5, 2) := by decide +kernel
theorem dX2_mixed_65 : decode cX2_mixed 65 = .ok (.iload_n 3, 1) := by decide +kernel
theorem dX2_mixed_66 : decode cX2_mixed 66 = .ok (.if_icmp .le 8, 3) := by decide +kernel
theorem dX2_mixed_69 : decode cX2_mixed 69 = .ok (.iload 5, 2) := by decide +kernel
theorem dX2_mixed_71 : decode cX2_mixed 71 = .ok (.goto 4, 3) := by decide +kernel
theorem dX2_mixed_74 : decode cX2_mixed 74 = .ok (.iload_n 3, 1) := by decide +kernel
theorem dX2_mixed_75 : decode cX2_mixed 75 = .ok (.istore_n 3, 1) := by decide +kernel
theorem dX2_mixed_76 : decode cX2_mixed 76 = .ok (.iinc 4 1, 3) := by decide +kernel
theorem dX2_mixed_79 : decode cX2_mixed 79 = .ok (.goto (-74), 3) := by decide +kernel
theorem dX2_mixed_82 : decode cX2_mixed 82 = .ok (.iload_n 3, 1) := by decide +kernel
theorem dX2_mixed_83 : decode cX2_mixed 83 = .ok (.ireturn, 1) := by decide +kernel
theorem dX2_filled_0 : decode cX2_filled 0 = .ok (.aload_n 0, 1) := by decide +kernel
theorem dX2_filled_1 : decode cX2_filled 1 = .ok (.getfield 34, 3) := by decide +kernel
theorem dX2_filled_4 : decode cX2_filled 4 = .ok (.iconst 2, 1) := by decide +kernel
theorem dX2_filled_5 : decode cX2_filled 5 = .ok (.iload_n 1, 1) := by decide +kernel
theorem dX2_filled_6 : decode cX2_filled 6 = .ok (.imul, 1) := by decide +kernel
theorem dX2_filled_7 : decode cX2_filled 7 = .ok (.iaload, 1) := by decide +kernel
theorem dX2_filled_8 : decode cX2_filled 8 = .ok (.aload_n 0, 1) := by decide +kernel
theorem dX2_filled_9 : decode cX2_filled 9 = .ok (.getfield 34, 3) := by decide +kernel
theorem dX2_filled_12 : decode cX2_filled 12 = .ok (.iconst 2, 1) := by decide +kernel
theorem dX2_filled_13 : decode cX2_filled 13 = .ok (.iload_n 1, 1) := by decide +kernel
theorem dX2_filled_14 : decode cX2_filled 14 = .ok (.imul, 1) := by decide +kernel
theorem dX2_filled_15 : decode cX2_filled 15 = .ok (.iconst 1, 1) := by decide +kernel
theorem dX2_filled_16 : decode cX2_filled 16 = .ok (.iadd, 1) := by decide +kernel
theorem dX2_filled_17 : decode cX2_filled 17 = .ok (.iaload, 1) := by decide +kernel
theorem dX2_filled_18 : decode cX2_filled 18 = .ok (.iadd, 1) := by decide +kernel
theorem dX2_filled_19 : decode cX2_filled 19 = .ok (.ireturn, 1) := by decide +kernel
theorem dX2_richer_0 : decode cX2_richer 0 = .ok (.aload_n 0, 1) := by decide +kernel
theorem dX2_richer_1 : decode cX2_richer 1 = .ok (.getfield 34, 3) := by decide +kernel
theorem dX2_richer_4 : decode cX2_richer 4 = .ok (.iconst 2, 1) := by decide +kernel
theorem dX2_richer_5 : decode cX2_richer 5 = .ok (.iload_n 1, 1) := by decide +kernel
theorem dX2_richer_6 : decode cX2_richer 6 = .ok (.imul, 1) := by decide +kernel
theorem dX2_richer_7 : decode cX2_richer 7 = .ok (.iconst 1, 1) := by decide +kernel
theorem dX2_richer_8 : decode cX2_richer 8 = .ok (.iadd, 1) := by decide +kernel
theorem dX2_richer_9 : decode cX2_richer 9 = .ok (.iaload, 1) := by decide +kernel
theorem dX2_richer_10 : decode cX2_richer 10 = .ok (.aload_n 0, 1) := by decide +kernel
theorem dX2_richer_11 : decode cX2_richer 11 = .ok (.getfield 34, 3) := by decide +kernel
theorem dX2_richer_14 : decode cX2_richer 14 = .ok (.iconst 2, 1) := by decide +kernel
theorem dX2_richer_15 : decode cX2_richer 15 = .ok (.iload_n 1, 1) := by decide +kernel
theorem dX2_richer_16 : decode cX2_richer 16 = .ok (.imul, 1) := by decide +kernel
theorem dX2_richer_17 : decode cX2_richer 17 = .ok (.iaload, 1) := by decide +kernel
theorem dX2_richer_18 : decode cX2_richer 18 = .ok (.if_icmp .le 7, 3) := by decide +kernel
theorem dX2_richer_21 : decode cX2_richer 21 = .ok (.iconst 1, 1) := by decide +kernel
theorem dX2_richer_22 : decode cX2_richer 22 = .ok (.goto 4, 3) := by decide +kernel
theorem dX2_richer_25 : decode cX2_richer 25 = .ok (.iconst 0, 1) := by decide +kernel
theorem dX2_richer_26 : decode cX2_richer 26 = .ok (.ireturn, 1) := by decide +kernel
theorem dX2_sends_0 : decode cX2_sends 0 = .ok (.iload_n 1, 1) := by decide +kernel
theorem dX2_sends_1 : decode cX2_sends 1 = .ok (.iconst 2, 1) := by decide +kernel
theorem dX2_sends_2 : decode cX2_sends 2 = .ok (.if_icmp .ne 16, 3) := by decide +kernel
theorem dX2_sends_5 : decode cX2_sends 5 = .ok (.aload_n 0, 1) := by decide +kernel
theorem dX2_sends_6 : decode cX2_sends 6 = .ok (.getfield 43, 3) := by decide +kernel
theorem dX2_sends_9 : decode cX2_sends 9 = .ok (.iload_n 2, 1) := by decide +kernel
theorem dX2_sends_10 : decode cX2_sends 10 = .ok (.dup2, 1) := by decide +kernel
theorem dX2_sends_11 : decode cX2_sends 11 = .ok (.iaload, 1) := by decide +kernel
theorem dX2_sends_12 : decode cX2_sends 12 = .ok (.iload_n 3, 1) := by decide +kernel
theorem dX2_sends_13 : decode cX2_sends 13 = .ok (.iadd, 1) := by decide +kernel
theorem dX2_sends_14 : decode cX2_sends 14 = .ok (.iastore, 1) := by decide +kernel
theorem dX2_sends_15 : decode cX2_sends 15 = .ok (.goto 35, 3) := by decide +kernel
theorem dX2_sends_18 : decode cX2_sends 18 = .ok (.aload_n 0, 1) := by decide +kernel
theorem dX2_sends_19 : decode cX2_sends 19 = .ok (.getfield 37, 3) := by decide +kernel
theorem dX2_sends_22 : decode cX2_sends 22 = .ok (.sipush 210, 3) := by decide +kernel
theorem dX2_sends_25 : decode cX2_sends 25 = .ok (.iconst 2, 1) := by decide +kernel
theorem dX2_sends_26 : decode cX2_sends 26 = .ok (.iload_n 1, 1) := by decide +kernel
theorem dX2_sends_27 : decode cX2_sends 27 = .ok (.imul, 1) := by decide +kernel
theorem dX2_sends_28 : decode cX2_sends 28 = .ok (.iconst 2, 1) := by decide +kernel
theorem dX2_sends_29 : decode cX2_sends 29 = .ok (.iadd, 1) := by decide +kernel
theorem dX2_sends_30 : decode cX2_sends 30 = .ok (.iload_n 2, 1) := by decide +kernel
theorem dX2_sends_31 : decode cX2_sends 31 = .ok (.iadd, 1) := by decide +kernel
theorem dX2_sends_32 : decode cX2_sends 32 = .ok (.imul, 1) := by decide +kernel
theorem dX2_sends_33 : decode cX2_sends 33 = .ok (.aload_n 0, 1) := by decide +kernel
theorem dX2_sends_34 : decode cX2_sends 34 = .ok (.getfield 79, 3) := by decide +kernel
theorem dX2_sends_37 : decode cX2_sends 37 = .ok (.iadd, 1) := by decide +kernel
theorem dX2_sends_38 : decode cX2_sends 38 = .ok (.aload_n 0, 1) := by decide +kernel
theorem dX2_sends_39 : decode cX2_sends 39 = .ok (.getfield 16, 3) := by decide +kernel
theorem dX2_sends_42 : decode cX2_sends 42 = .ok (.iload_n 1, 1) := by decide +kernel
theorem dX2_sends_43 : decode cX2_sends 43 = .ok (.iaload, 1) := by decide +kernel
theorem dX2_sends_44 : decode cX2_sends 44 = .ok (.iadd, 1) := by decide +kernel
theorem dX2_sends_45 : decode cX2_sends 45 = .ok (.dup2, 1) := by decide +kernel
theorem dX2_sends_46 : decode cX2_sends 46 = .ok (.iaload, 1) := by decide +kernel
theorem dX2_sends_47 : decode cX2_sends 47 = .ok (.iload_n 3, 1) := by decide +kernel
theorem dX2_sends_48 : decode cX2_sends 48 = .ok (.iadd, 1) := by decide +kernel
theorem dX2_sends_49 : decode cX2_sends 49 = .ok (.iastore, 1) := by decide +kernel
theorem dX2_sends_50 : decode cX2_sends 50 = .ok (.return_, 1) := by decide +kernel
theorem dX2_works_0 : decode cX2_works 0 = .ok (.iconst 2, 1) := by decide +kernel
theorem dX2_works_1 : decode cX2_works 1 = .ok (.iload_n 1, 1) := by decide +kernel
theorem dX2_works_2 : decode cX2_works 2 = .ok (.imul, 1) := by decide +kernel
theorem dX2_works_3 : decode cX2_works 3 = .ok (.istore_n 2, 1) := by decide +kernel
theorem dX2_works_4 : decode cX2_works 4 = .ok (.iload_n 2, 1) := by decide +kernel
theorem dX2_works_5 : decode cX2_works 5 = .ok (.iconst 1, 1) := by decide +kernel
theorem dX2_works_6 : decode cX2_works 6 = .ok (.iadd, 1) := by decide +kernel
theorem dX2_works_7 : decode cX2_works 7 = .ok (.istore_n 3, 1) := by decide +kernel
theorem dX2_works_8 : decode cX2_works 8 = .ok (.iconst 0, 1) := by decide +kernel
theorem dX2_works_9 : decode cX2_works 9 = .ok (.istore 4, 2) := by decide +kernel
theorem dX2_works_11 : decode cX2_works 11 = .ok (.iload 4, 2) := by decide +kernel
theorem dX2_works_13 : decode cX2_works 13 = .ok (.iconst 2, 1) := by decide +kernel
theorem dX2_works_14 : decode cX2_works 14 = .ok (.if_icmp .ge 58, 3) := by decide +kernel
theorem dX2_works_17 : decode cX2_works 17 = .ok (.aload_n 0, 1) := by decide +kernel
theorem dX2_works_18 : decode cX2_works 18 = .ok (.getfield 34, 3) := by decide +kernel
theorem dX2_works_21 : decode cX2_works 21 = .ok (.iload_n 2, 1) := by decide +kernel
theorem dX2_works_22 : decode cX2_works 22 = .ok (.iload 4, 2) := by decide +kernel
theorem dX2_works_24 : decode cX2_works 24 = .ok (.iadd, 1) := by decide +kernel
theorem dX2_works_25 : decode cX2_works 25 = .ok (.dup2, 1) := by decide +kernel
theorem dX2_works_26 : decode cX2_works 26 = .ok (.iaload, 1) := by decide +kernel
theorem dX2_works_27 : decode cX2_works 27 = .ok (.aload_n 0, 1) := by decide +kernel
theorem dX2_works_28 : decode cX2_works 28 = .ok (.getfield 37, 3) := by decide +kernel
theorem dX2_works_31 : decode cX2_works 31 = .ok (.sipush 210, 3) := by decide +kernel
theorem dX2_works_34 : decode cX2_works 34 = .ok (.iload_n 2, 1) := by decide +kernel
theorem dX2_works_35 : decode cX2_works 35 = .ok (.iload 4, 2) := by decide +kernel
theorem dX2_works_37 : decode cX2_works 37 = .ok (.iadd, 1) := by decide +kernel
theorem dX2_works_38 : decode cX2_works 38 = .ok (.imul, 1) := by decide +kernel
theorem dX2_works_39 : decode cX2_works 39 = .ok (.aload_n 0, 1) := by decide +kernel
theorem dX2_works_40 : decode cX2_works 40 = .ok (.getfield 79, 3) := by decide +kernel
theorem dX2_works_43 : decode cX2_works 43 = .ok (.iadd, 1) := by decide +kernel
theorem dX2_works_44 : decode cX2_works 44 = .ok (.iaload, 1) := by decide +kernel
theorem dX2_works_45 : decode cX2_works 45 = .ok (.iadd, 1) := by decide +kernel
theorem dX2_works_46 : decode cX2_works 46 = .ok (.iastore, 1) := by decide +kernel
theorem dX2_works_47 : decode cX2_works 47 = .ok (.aload_n 0, 1) := by decide +kernel
theorem dX2_works_48 : decode cX2_works 48 = .ok (.getfield 37, 3) := by decide +kernel
theorem dX2_works_51 : decode cX2_works 51 = .ok (.sipush 210, 3) := by decide +kernel
theorem dX2_works_54 : decode cX2_works 54 = .ok (.iload_n 2, 1) := by decide +kernel
theorem dX2_works_55 : decode cX2_works 55 = .ok (.iload 4, 2) := by decide +kernel
theorem dX2_works_57 : decode cX2_works 57 = .ok (.iadd, 1) := by decide +kernel
theorem dX2_works_58 : decode cX2_works 58 = .ok (.imul, 1) := by decide +kernel
theorem dX2_works_59 : decode cX2_works 59 = .ok (.aload_n 0, 1) := by decide +kernel
theorem dX2_works_60 : decode cX2_works 60 = .ok (.getfield 79, 3) := by decide +kernel
theorem dX2_works_63 : decode cX2_works 63 = .ok (.iadd, 1) := by decide +kernel
theorem dX2_works_64 : decode cX2_works 64 = .ok (.iconst 0, 1) := by decide +kernel
theorem dX2_works_65 : decode cX2_works 65 = .ok (.iastore, 1) := by decide +kernel
theorem dX2_works_66 : decode cX2_works 66 = .ok (.iinc 4 1, 3) := by decide +kernel
theorem dX2_works_69 : decode cX2_works 69 = .ok (.goto (-58), 3) := by decide +kernel
theorem dX2_works_72 : decode cX2_works 72 = .ok (.aload_n 0, 1) := by decide +kernel
theorem dX2_works_73 : decode cX2_works 73 = .ok (.getfield 19, 3) := by decide +kernel
theorem dX2_works_76 : decode cX2_works 76 = .ok (.iload_n 1, 1) := by decide +kernel
theorem dX2_works_77 : decode cX2_works 77 = .ok (.iaload, 1) := by decide +kernel
theorem dX2_works_78 : decode cX2_works 78 = .ok (.aload_n 0, 1) := by decide +kernel
theorem dX2_works_79 : decode cX2_works 79 = .ok (.getfield 22, 3) := by decide +kernel
theorem dX2_works_82 : decode cX2_works 82 = .ok (.iload_n 1, 1) := by decide +kernel
theorem dX2_works_83 : decode cX2_works 83 = .ok (.iaload, 1) := by decide +kernel
theorem dX2_works_84 : decode cX2_works 84 = .ok (.imul, 1) := by decide +kernel
theorem dX2_works_85 : decode cX2_works 85 = .ok (.bipush 100, 2) := by decide +kernel
theorem dX2_works_87 : decode cX2_works 87 = .ok (.idiv, 1) := by decide +kernel
theorem dX2_works_88 : decode cX2_works 88 = .ok (.istore 4, 2) := by decide +kernel
theorem dX2_works_90 : decode cX2_works 90 = .ok (.aload_n 0, 1) := by decide +kernel
theorem dX2_works_91 : decode cX2_works 91 = .ok (.getfield 34, 3) := by decide +kernel
theorem dX2_works_94 : decode cX2_works 94 = .ok (.iload_n 2, 1) := by decide +kernel
theorem dX2_works_95 : decode cX2_works 95 = .ok (.dup2, 1) := by decide +kernel
theorem dX2_works_96 : decode cX2_works 96 = .ok (.iaload, 1) := by decide +kernel
theorem dX2_works_97 : decode cX2_works 97 = .ok (.iload 4, 2) := by decide +kernel
theorem dX2_works_99 : decode cX2_works 99 = .ok (.iadd, 1) := by decide +kernel
theorem dX2_works_100 : decode cX2_works 100 = .ok (.iastore, 1) := by decide +kernel
theorem dX2_works_101 : decode cX2_works 101 = .ok (.aload_n 0, 1) := by decide +kernel
theorem dX2_works_102 : decode cX2_works 102 = .ok (.getfield 34, 3) := by decide +kernel
theorem dX2_works_105 : decode cX2_works 105 = .ok (.iload_n 3, 1) := by decide +kernel
theorem dX2_works_106 : decode cX2_works 106 = .ok (.dup2, 1) := by decide +kernel
theorem dX2_works_107 : decode cX2_works 107 = .ok (.iaload, 1) := by decide +kernel
theorem dX2_works_108 : decode cX2_works 108 = .ok (.aload_n 0, 1) := by decide +kernel
theorem dX2_works_109 : decode cX2_works 109 = .ok (.getfield 19, 3) := by decide +kernel
theorem dX2_works_112 : decode cX2_works 112 = .ok (.iload_n 1, 1) := by decide +kernel
theorem dX2_works_113 : decode cX2_works 113 = .ok (.iaload, 1) := by decide +kernel
theorem dX2_works_114 : decode cX2_works 114 = .ok (.iload 4, 2) := by decide +kernel
theorem dX2_works_116 : decode cX2_works 116 = .ok (.isub, 1) := by decide +kernel
theorem dX2_works_117 : decode cX2_works 117 = .ok (.iadd, 1) := by decide +kernel
theorem dX2_works_118 : decode cX2_works 118 = .ok (.iastore, 1) := by decide +kernel
theorem dX2_works_119 : decode cX2_works 119 = .ok (.aload_n 0, 1) := by decide +kernel
theorem dX2_works_120 : decode cX2_works 120 = .ok (.getfield 40, 3) := by decide +kernel
theorem dX2_works_123 : decode cX2_works 123 = .ok (.iconst 0, 1) := by decide +kernel
theorem dX2_works_124 : decode cX2_works 124 = .ok (.dup2, 1) := by decide +kernel
theorem dX2_works_125 : decode cX2_works 125 = .ok (.iaload, 1) := by decide +kernel
theorem dX2_works_126 : decode cX2_works 126 = .ok (.iload 4, 2) := by decide +kernel
theorem dX2_works_128 : decode cX2_works 128 = .ok (.iadd, 1) := by decide +kernel
theorem dX2_works_129 : decode cX2_works 129 = .ok (.iastore, 1) := by decide +kernel
theorem dX2_works_130 : decode cX2_works 130 = .ok (.aload_n 0, 1) := by decide +kernel
theorem dX2_works_131 : decode cX2_works 131 = .ok (.getfield 40, 3) := by decide +kernel
theorem dX2_works_134 : decode cX2_works 134 = .ok (.iconst 1, 1) := by decide +kernel
theorem dX2_works_135 : decode cX2_works 135 = .ok (.dup2, 1) := by decide +kernel
theorem dX2_works_136 : decode cX2_works 136 = .ok (.iaload, 1) := by decide +kernel
theorem dX2_works_137 : decode cX2_works 137 = .ok (.aload_n 0, 1) := by decide +kernel
theorem dX2_works_138 : decode cX2_works 138 = .ok (.getfield 19, 3) := by decide +kernel
theorem dX2_works_141 : decode cX2_works 141 = .ok (.iload_n 1, 1) := by decide +kernel
theorem dX2_works_142 : decode cX2_works 142 = .ok (.iaload, 1) := by decide +kernel
theorem dX2_works_143 : decode cX2_works 143 = .ok (.iload 4, 2) := by decide +kernel
theorem dX2_works_145 : decode cX2_works 145 = .ok (.isub, 1) := by decide +kernel
theorem dX2_works_146 : decode cX2_works 146 = .ok (.iadd, 1) := by decide +kernel
theorem dX2_works_147 : decode cX2_works 147 = .ok (.iastore, 1) := by decide +kernel
theorem dX2_works_148 : decode cX2_works 148 = .ok (.aload_n 0, 1) := by decide +kernel
theorem dX2_works_149 : decode cX2_works 149 = .ok (.getfield 13, 3) := by decide +kernel
theorem dX2_works_152 : decode cX2_works 152 = .ok (.iload_n 1, 1) := by decide +kernel
theorem dX2_works_153 : decode cX2_works 153 = .ok (.iaload, 1) := by decide +kernel
theorem dX2_works_154 : decode cX2_works 154 = .ok (.aload_n 0, 1) := by decide +kernel
theorem dX2_works_155 : decode cX2_works 155 = .ok (.iload_n 1, 1) := by decide +kernel
theorem dX2_works_156 : decode cX2_works 156 = .ok (.invokevirtual 82, 3) := by decide +kernel
theorem dX2_works_159 : decode cX2_works 159 = .ok (.iconst 5, 1) := by decide +kernel
theorem dX2_works_160 : decode cX2_works 160 = .ok (.idiv, 1) := by decide +kernel
theorem dX2_works_161 : decode cX2_works 161 = .ok (.iadd, 1) := by decide +kernel
theorem dX2_works_162 : decode cX2_works 162 = .ok (.istore 5, 2) := by decide +kernel
theorem dX2_works_164 : decode cX2_works 164 = .ok (.aload_n 0, 1) := by decide +kernel
theorem dX2_works_165 : decode cX2_works 165 = .ok (.getfield 28, 3) := by decide +kernel
theorem dX2_works_168 : decode cX2_works 168 = .ok (.iload_n 2, 1) := by decide +kernel
theorem dX2_works_169 : decode cX2_works 169 = .ok (.iaload, 1) := by decide +kernel
theorem dX2_works_170 : decode cX2_works 170 = .ok (.istore 6, 2) := by decide +kernel
theorem dX2_works_172 : decode cX2_works 172 = .ok (.aload_n 0, 1) := by decide +kernel
theorem dX2_works_173 : decode cX2_works 173 = .ok (.getfield 28, 3) := by decide +kernel
theorem dX2_works_176 : decode cX2_works 176 = .ok (.iload_n 3, 1) := by decide +kernel
theorem dX2_works_177 : decode cX2_works 177 = .ok (.iaload, 1) := by decide +kernel
theorem dX2_works_178 : decode cX2_works 178 = .ok (.istore 7, 2) := by decide +kernel
theorem dX2_works_180 : decode cX2_works 180 = .ok (.aload_n 0, 1) := by decide +kernel
theorem dX2_works_181 : decode cX2_works 181 = .ok (.getfield 25, 3) := by decide +kernel
theorem dX2_works_184 : decode cX2_works 184 = .ok (.iload_n 1, 1) := by decide +kernel
theorem dX2_works_185 : decode cX2_works 185 = .ok (.iaload, 1) := by decide +kernel
theorem dX2_works_186 : decode cX2_works 186 = .ok (.iload 6, 2) := by decide +kernel
theorem dX2_works_188 : decode cX2_works 188 = .ok (.isub, 1) := by decide +kernel
theorem dX2_works_189 : decode cX2_works 189 = .ok (.iload 7, 2) := by decide +kernel
theorem dX2_works_191 : decode cX2_works 191 = .ok (.isub, 1) := by decide +kernel
theorem dX2_works_192 : decode cX2_works 192 = .ok (.istore 8, 2) := by decide +kernel
theorem dX2_works_194 : decode cX2_works 194 = .ok (.iload 6, 2) := by decide +kernel
theorem dX2_works_196 : decode cX2_works 196 = .ok (.iload 8, 2) := by decide +kernel
theorem dX2_works_198 : decode cX2_works 198 = .ok (.ifCond .le 16, 3) := by decide +kernel
theorem dX2_works_201 : decode cX2_works 201 = .ok (.aload_n 0, 1) := by decide +kernel
theorem dX2_works_202 : decode cX2_works 202 = .ok (.iload_n 1, 1) := by decide +kernel
theorem dX2_works_203 : decode cX2_works 203 = .ok (.invokevirtual 86, 3) := by decide +kernel
theorem dX2_works_206 : decode cX2_works 206 = .ok (.ifCond .ne 8, 3) := by decide +kernel
theorem dX2_works_209 : decode cX2_works 209 = .ok (.iload 8, 2) := by decide +kernel
theorem dX2_works_211 : decode cX2_works 211 = .ok (.goto 4, 3) := by decide +kernel
theorem dX2_works_214 : decode cX2_works 214 = .ok (.iconst 0, 1) := by decide +kernel
theorem dX2_works_215 : decode cX2_works 215 = .ok (.iadd, 1) := by decide +kernel
theorem dX2_works_216 : decode cX2_works 216 = .ok (.istore 6, 2) := by decide +kernel
theorem dX2_works_218 : decode cX2_works 218 = .ok (.iload 7, 2) := by decide +kernel
theorem dX2_works_220 : decode cX2_works 220 = .ok (.iload 8, 2) := by decide +kernel
theorem dX2_works_222 : decode cX2_works 222 = .ok (.ifCond .le 17, 3) := by decide +kernel
theorem dX2_works_225 : decode cX2_works 225 = .ok (.aload_n 0, 1) := by decide +kernel
theorem dX2_works_226 : decode cX2_works 226 = .ok (.iload_n 1, 1) := by decide +kernel
theorem dX2_works_227 : decode cX2_works 227 = .ok (.invokevirtual 86, 3) := by decide +kernel
theorem dX2_works_230 : decode cX2_works 230 = .ok (.iconst 1, 1) := by decide +kernel
theorem dX2_works_231 : decode cX2_works 231 = .ok (.if_icmp .ne 8, 3) := by decide +kernel
theorem dX2_works_234 : decode cX2_works 234 = .ok (.iload 8, 2) := by decide +kernel
theorem dX2_works_236 : decode cX2_works 236 = .ok (.goto 4, 3) := by decide +kernel
theorem dX2_works_239 : decode cX2_works 239 = .ok (.iconst 0, 1) := by decide +kernel
theorem dX2_works_240 : decode cX2_works 240 = .ok (.iadd, 1) := by decide +kernel
theorem dX2_works_241 : decode cX2_works 241 = .ok (.istore 7, 2) := by decide +kernel
theorem dX2_works_243 : decode cX2_works 243 = .ok (.iload 6, 2) := by decide +kernel
theorem dX2_works_245 : decode cX2_works 245 = .ok (.iload 7, 2) := by decide +kernel
theorem dX2_works_247 : decode cX2_works 247 = .ok (.iadd, 1) := by decide +kernel
theorem dX2_works_248 : decode cX2_works 248 = .ok (.aload_n 0, 1) := by decide +kernel
theorem dX2_works_249 : decode cX2_works 249 = .ok (.iload_n 1, 1) := by decide +kernel
theorem dX2_works_250 : decode cX2_works 250 = .ok (.invokevirtual 82, 3) := by decide +kernel
theorem dX2_works_253 : decode cX2_works 253 = .ok (.isub, 1) := by decide +kernel
theorem dX2_works_254 : decode cX2_works 254 = .ok (.istore 9, 2) := by decide +kernel
theorem dX2_works_256 : decode cX2_works 256 = .ok (.iload 9, 2) := by decide +kernel
theorem dX2_works_258 : decode cX2_works 258 = .ok (.ifCond .le 101, 3) := by decide +kernel
theorem dX2_works_261 : decode cX2_works 261 = .ok (.aload_n 0, 1) := by decide +kernel
theorem dX2_works_262 : decode cX2_works 262 = .ok (.getfield 34, 3) := by decide +kernel
theorem dX2_works_265 : decode cX2_works 265 = .ok (.iload_n 2, 1) := by decide +kernel
theorem dX2_works_266 : decode cX2_works 266 = .ok (.iaload, 1) := by decide +kernel
theorem dX2_works_267 : decode cX2_works 267 = .ok (.iload 6, 2) := by decide +kernel
theorem dX2_works_269 : decode cX2_works 269 = .ok (.isub, 1) := by decide +kernel
theorem dX2_works_270 : decode cX2_works 270 = .ok (.aload_n 0, 1) := by decide +kernel
theorem dX2_works_271 : decode cX2_works 271 = .ok (.getfield 34, 3) := by decide +kernel
theorem dX2_works_274 : decode cX2_works 274 = .ok (.iload_n 3, 1) := by decide +kernel
theorem dX2_works_275 : decode cX2_works 275 = .ok (.iaload, 1) := by decide +kernel
theorem dX2_works_276 : decode cX2_works 276 = .ok (.iload 7, 2) := by decide +kernel
theorem dX2_works_278 : decode cX2_works 278 = .ok (.isub, 1) := by decide +kernel
theorem dX2_works_279 : decode cX2_works 279 = .ok (.if_icmp .ge 7, 3) := by decide +kernel
theorem dX2_works_282 : decode cX2_works 282 = .ok (.iconst 1, 1) := by decide +kernel
theorem dX2_works_283 : decode cX2_works 283 = .ok (.goto 4, 3) := by decide +kernel
theorem dX2_works_286 : decode cX2_works 286 = .ok (.iconst 0, 1) := by decide +kernel
theorem dX2_works_287 : decode cX2_works 287 = .ok (.istore 10, 2) := by decide +kernel
theorem dX2_works_289 : decode cX2_works 289 = .ok (.iload 10, 2) := by decide +kernel
theorem dX2_works_291 : decode cX2_works 291 = .ok (.ifCond .eq 8, 3) := by decide +kernel
theorem dX2_works_294 : decode cX2_works 294 = .ok (.iload 6, 2) := by decide +kernel
theorem dX2_works_296 : decode cX2_works 296 = .ok (.goto 5, 3) := by decide +kernel
theorem dX2_works_299 : decode cX2_works 299 = .ok (.iload 7, 2) := by decide +kernel
theorem dX2_works_301 : decode cX2_works 301 = .ok (.istore 11, 2) := by decide +kernel
theorem dX2_works_303 : decode cX2_works 303 = .ok (.iload 11, 2) := by decide +kernel
theorem dX2_works_305 : decode cX2_works 305 = .ok (.iload 9, 2) := by decide +kernel
theorem dX2_works_307 : decode cX2_works 307 = .ok (.if_icmp .ge 8, 3) := by decide +kernel
theorem dX2_works_310 : decode cX2_works 310 = .ok (.iload 11, 2) := by decide +kernel
theorem dX2_works_312 : decode cX2_works 312 = .ok (.goto 5, 3) := by decide +kernel
theorem dX2_works_315 : decode cX2_works 315 = .ok (.iload 9, 2) := by decide +kernel
theorem dX2_works_317 : decode cX2_works 317 = .ok (.istore 11, 2) := by decide +kernel
theorem dX2_works_319 : decode cX2_works 319 = .ok (.iload 6, 2) := by decide +kernel
theorem dX2_works_321 : decode cX2_works 321 = .ok (.iload 10, 2) := by decide +kernel
theorem dX2_works_323 : decode cX2_works 323 = .ok (.ifCond .eq 8, 3) := by decide +kernel
theorem dX2_works_326 : decode cX2_works 326 = .ok (.iload 11, 2) := by decide +kernel
theorem dX2_works_328 : decode cX2_works 328 = .ok (.goto 8, 3) := by decide +kernel
theorem dX2_works_331 : decode cX2_works 331 = .ok (.iload 9, 2) := by decide +kernel
theorem dX2_works_333 : decode cX2_works 333 = .ok (.iload 11, 2) := by decide +kernel
theorem dX2_works_335 : decode cX2_works 335 = .ok (.isub, 1) := by decide +kernel
theorem dX2_works_336 : decode cX2_works 336 = .ok (.isub, 1) := by decide +kernel
theorem dX2_works_337 : decode cX2_works 337 = .ok (.istore 6, 2) := by decide +kernel
theorem dX2_works_339 : decode cX2_works 339 = .ok (.iload 7, 2) := by decide +kernel
theorem dX2_works_341 : decode cX2_works 341 = .ok (.iload 10, 2) := by decide +kernel
theorem dX2_works_343 : decode cX2_works 343 = .ok (.ifCond .eq 11, 3) := by decide +kernel
theorem dX2_works_346 : decode cX2_works 346 = .ok (.iload 9, 2) := by decide +kernel
theorem dX2_works_348 : decode cX2_works 348 = .ok (.iload 11, 2) := by decide +kernel
theorem dX2_works_350 : decode cX2_works 350 = .ok (.isub, 1) := by decide +kernel
theorem dX2_works_351 : decode cX2_works 351 = .ok (.goto 5, 3) := by decide +kernel
theorem dX2_works_354 : decode cX2_works 354 = .ok (.iload 11, 2) := by decide +kernel
theorem dX2_works_356 : decode cX2_works 356 = .ok (.isub, 1) := by decide +kernel
theorem dX2_works_357 : decode cX2_works 357 = .ok (.istore 7, 2) := by decide +kernel
theorem dX2_works_359 : decode cX2_works 359 = .ok (.aload_n 0, 1) := by decide +kernel
theorem dX2_works_360 : decode cX2_works 360 = .ok (.getfield 34, 3) := by decide +kernel
theorem dX2_works_363 : decode cX2_works 363 = .ok (.iload_n 2, 1) := by decide +kernel
theorem dX2_works_364 : decode cX2_works 364 = .ok (.dup2, 1) := by decide +kernel
theorem dX2_works_365 : decode cX2_works 365 = .ok (.iaload, 1) := by decide +kernel
theorem dX2_works_366 : decode cX2_works 366 = .ok (.iload 6, 2) := by decide +kernel
theorem dX2_works_368 : decode cX2_works 368 = .ok (.isub, 1) := by decide +kernel
theorem dX2_works_369 : decode cX2_works 369 = .ok (.iastore, 1) := by decide +kernel
theorem dX2_works_370 : decode cX2_works 370 = .ok (.aload_n 0, 1) := by decide +kernel
theorem dX2_works_371 : decode cX2_works 371 = .ok (.getfield 34, 3) := by decide +kernel
theorem dX2_works_374 : decode cX2_works 374 = .ok (.iload_n 3, 1) := by decide +kernel
theorem dX2_works_375 : decode cX2_works 375 = .ok (.dup2, 1) := by decide +kernel
theorem dX2_works_376 : decode cX2_works 376 = .ok (.iaload, 1) := by decide +kernel
theorem dX2_works_377 : decode cX2_works 377 = .ok (.iload 7, 2) := by decide +kernel
theorem dX2_works_379 : decode cX2_works 379 = .ok (.isub, 1) := by decide +kernel
theorem dX2_works_380 : decode cX2_works 380 = .ok (.iastore, 1) := by decide +kernel
theorem dX2_works_381 : decode cX2_works 381 = .ok (.aload_n 0, 1) := by decide +kernel
theorem dX2_works_382 : decode cX2_works 382 = .ok (.iload_n 1, 1) := by decide +kernel
theorem dX2_works_383 : decode cX2_works 383 = .ok (.iconst 0, 1) := by decide +kernel
theorem dX2_works_384 : decode cX2_works 384 = .ok (.iload 6, 2) := by decide +kernel
theorem dX2_works_386 : decode cX2_works 386 = .ok (.invokevirtual 89, 3) := by decide +kernel
theorem dX2_works_389 : decode cX2_works 389 = .ok (.aload_n 0, 1) := by decide +kernel
theorem dX2_works_390 : decode cX2_works 390 = .ok (.iload_n 1, 1) := by decide +kernel
theorem dX2_works_391 : decode cX2_works 391 = .ok (.iconst 1, 1) := by decide +kernel
theorem dX2_works_392 : decode cX2_works 392 = .ok (.iload 7, 2) := by decide +kernel
theorem dX2_works_394 : decode cX2_works 394 = .ok (.invokevirtual 89, 3) := by decide +kernel
theorem dX2_works_397 : decode cX2_works 397 = .ok (.aload_n 0, 1) := by decide +kernel
theorem dX2_works_398 : decode cX2_works 398 = .ok (.getfield 52, 3) := by decide +kernel
theorem dX2_works_401 : decode cX2_works 401 = .ok (.iload_n 1, 1) := by decide +kernel
theorem dX2_works_402 : decode cX2_works 402 = .ok (.dup2, 1) := by decide +kernel
theorem dX2_works_403 : decode cX2_works 403 = .ok (.iaload, 1) := by decide +kernel
theorem dX2_works_404 : decode cX2_works 404 = .ok (.iload 6, 2) := by decide +kernel
theorem dX2_works_406 : decode cX2_works 406 = .ok (.iload 7, 2) := by decide +kernel
theorem dX2_works_408 : decode cX2_works 408 = .ok (.iadd, 1) := by decide +kernel
theorem dX2_works_409 : decode cX2_works 409 = .ok (.aload_n 0, 1) := by decide +kernel
theorem dX2_works_410 : decode cX2_works 410 = .ok (.getfield 25, 3) := by decide +kernel
theorem dX2_works_413 : decode cX2_works 413 = .ok (.iload_n 1, 1) := by decide +kernel
theorem dX2_works_414 : decode cX2_works 414 = .ok (.iaload, 1) := by decide +kernel
theorem dX2_works_415 : decode cX2_works 415 = .ok (.if_icmp .ge 7, 3) := by decide +kernel
theorem dX2_works_418 : decode cX2_works 418 = .ok (.iconst 1, 1) := by decide +kernel
theorem dX2_works_419 : decode cX2_works 419 = .ok (.goto 4, 3) := by decide +kernel
theorem dX2_works_422 : decode cX2_works 422 = .ok (.iconst 0, 1) := by decide +kernel
theorem dX2_works_423 : decode cX2_works 423 = .ok (.iadd, 1) := by decide +kernel
theorem dX2_works_424 : decode cX2_works 424 = .ok (.iastore, 1) := by decide +kernel
theorem dX2_works_425 : decode cX2_works 425 = .ok (.aload_n 0, 1) := by decide +kernel
theorem dX2_works_426 : decode cX2_works 426 = .ok (.getfield 55, 3) := by decide +kernel
theorem dX2_works_429 : decode cX2_works 429 = .ok (.iload_n 1, 1) := by decide +kernel
theorem dX2_works_430 : decode cX2_works 430 = .ok (.iload 6, 2) := by decide +kernel
theorem dX2_works_432 : decode cX2_works 432 = .ok (.iload 7, 2) := by decide +kernel
theorem dX2_works_434 : decode cX2_works 434 = .ok (.iadd, 1) := by decide +kernel
theorem dX2_works_435 : decode cX2_works 435 = .ok (.bipush 16, 2) := by decide +kernel
theorem dX2_works_437 : decode cX2_works 437 = .ok (.if_icmp .ge 11, 3) := by decide +kernel
theorem dX2_works_440 : decode cX2_works 440 = .ok (.iload 6, 2) := by decide +kernel
theorem dX2_works_442 : decode cX2_works 442 = .ok (.iload 7, 2) := by decide +kernel
theorem dX2_works_444 : decode cX2_works 444 = .ok (.iadd, 1) := by decide +kernel
theorem dX2_works_445 : decode cX2_works 445 = .ok (.goto 5, 3) := by decide +kernel
theorem dX2_works_448 : decode cX2_works 448 = .ok (.bipush 16, 2) := by decide +kernel
theorem dX2_works_450 : decode cX2_works 450 = .ok (.iastore, 1) := by decide +kernel
theorem dX2_works_451 : decode cX2_works 451 = .ok (.aload_n 0, 1) := by decide +kernel
theorem dX2_works_452 : decode cX2_works 452 = .ok (.getfield 58, 3) := by decide +kernel
theorem dX2_works_455 : decode cX2_works 455 = .ok (.iload_n 1, 1) := by decide +kernel
theorem dX2_works_456 : decode cX2_works 456 = .ok (.dup2, 1) := by decide +kernel
theorem dX2_works_457 : decode cX2_works 457 = .ok (.iaload, 1) := by decide +kernel
theorem dX2_works_458 : decode cX2_works 458 = .ok (.aload_n 0, 1) := by decide +kernel
theorem dX2_works_459 : decode cX2_works 459 = .ok (.iload_n 1, 1) := by decide +kernel
theorem dX2_works_460 : decode cX2_works 460 = .ok (.aload_n 0, 1) := by decide +kernel
theorem dX2_works_461 : decode cX2_works 461 = .ok (.getfield 55, 3) := by decide +kernel
theorem dX2_works_464 : decode cX2_works 464 = .ok (.iload_n 1, 1) := by decide +kernel
theorem dX2_works_465 : decode cX2_works 465 = .ok (.iaload, 1) := by decide +kernel
theorem dX2_works_466 : decode cX2_works 466 = .ok (.invokevirtual 93, 3) := by decide +kernel
theorem dX2_works_469 : decode cX2_works 469 = .ok (.iload 5, 2) := by decide +kernel
theorem dX2_works_471 : decode cX2_works 471 = .ok (.imul, 1) := by decide +kernel
theorem dX2_works_472 : decode cX2_works 472 = .ok (.bipush 10, 2) := by decide +kernel
theorem dX2_works_474 : decode cX2_works 474 = .ok (.idiv, 1) := by decide +kernel
theorem dX2_works_475 : decode cX2_works 475 = .ok (.iadd, 1) := by decide +kernel
theorem dX2_works_476 : decode cX2_works 476 = .ok (.iastore, 1) := by decide +kernel
theorem dX2_works_477 : decode cX2_works 477 = .ok (.aload_n 0, 1) := by decide +kernel
theorem dX2_works_478 : decode cX2_works 478 = .ok (.iload_n 1, 1) := by decide +kernel
theorem dX2_works_479 : decode cX2_works 479 = .ok (.invokevirtual 82, 3) := by decide +kernel
theorem dX2_works_482 : decode cX2_works 482 = .ok (.aload_n 0, 1) := by decide +kernel
theorem dX2_works_483 : decode cX2_works 483 = .ok (.getfield 7, 3) := by decide +kernel
theorem dX2_works_486 : decode cX2_works 486 = .ok (.iload_n 1, 1) := by decide +kernel
theorem dX2_works_487 : decode cX2_works 487 = .ok (.iaload, 1) := by decide +kernel
theorem dX2_works_488 : decode cX2_works 488 = .ok (.isub, 1) := by decide +kernel
theorem dX2_works_489 : decode cX2_works 489 = .ok (.istore 10, 2) := by decide +kernel
theorem dX2_works_491 : decode cX2_works 491 = .ok (.iload 10, 2) := by decide +kernel
theorem dX2_works_493 : decode cX2_works 493 = .ok (.ifCond .le 44, 3) := by decide +kernel
theorem dX2_works_496 : decode cX2_works 496 = .ok (.aload_n 0, 1) := by decide +kernel
theorem dX2_works_497 : decode cX2_works 497 = .ok (.iload_n 1, 1) := by decide +kernel
theorem dX2_works_498 : decode cX2_works 498 = .ok (.invokevirtual 86, 3) := by decide +kernel
theorem dX2_works_501 : decode cX2_works 501 = .ok (.istore 11, 2) := by decide +kernel
theorem dX2_works_503 : decode cX2_works 503 = .ok (.aload_n 0, 1) := by decide +kernel
theorem dX2_works_504 : decode cX2_works 504 = .ok (.getfield 34, 3) := by decide +kernel
theorem dX2_works_507 : decode cX2_works 507 = .ok (.iload_n 2, 1) := by decide +kernel
theorem dX2_works_508 : decode cX2_works 508 = .ok (.iload 11, 2) := by decide +kernel
theorem dX2_works_510 : decode cX2_works 510 = .ok (.iadd, 1) := by decide +kernel
theorem dX2_works_511 : decode cX2_works 511 = .ok (.dup2, 1) := by decide +kernel
theorem dX2_works_512 : decode cX2_works 512 = .ok (.iaload, 1) := by decide +kernel
theorem dX2_works_513 : decode cX2_works 513 = .ok (.iload 10, 2) := by decide +kernel
theorem dX2_works_515 : decode cX2_works 515 = .ok (.isub, 1) := by decide +kernel
theorem dX2_works_516 : decode cX2_works 516 = .ok (.iastore, 1) := by decide +kernel
theorem dX2_works_517 : decode cX2_works 517 = .ok (.aload_n 0, 1) := by decide +kernel
theorem dX2_works_518 : decode cX2_works 518 = .ok (.getfield 49, 3) := by decide +kernel
theorem dX2_works_521 : decode cX2_works 521 = .ok (.iload_n 1, 1) := by decide +kernel
theorem dX2_works_522 : decode cX2_works 522 = .ok (.dup2, 1) := by decide +kernel
theorem dX2_works_523 : decode cX2_works 523 = .ok (.iaload, 1) := by decide +kernel
theorem dX2_works_524 : decode cX2_works 524 = .ok (.iload 10, 2) := by decide +kernel
theorem dX2_works_526 : decode cX2_works 526 = .ok (.iadd, 1) := by decide +kernel
theorem dX2_works_527 : decode cX2_works 527 = .ok (.iastore, 1) := by decide +kernel
theorem dX2_works_528 : decode cX2_works 528 = .ok (.aload_n 0, 1) := by decide +kernel
theorem dX2_works_529 : decode cX2_works 529 = .ok (.iload_n 1, 1) := by decide +kernel
theorem dX2_works_530 : decode cX2_works 530 = .ok (.iload 11, 2) := by decide +kernel
theorem dX2_works_532 : decode cX2_works 532 = .ok (.iload 10, 2) := by decide +kernel
theorem dX2_works_534 : decode cX2_works 534 = .ok (.invokevirtual 89, 3) := by decide +kernel
theorem dX2_works_537 : decode cX2_works 537 = .ok (.return_, 1) := by decide +kernel
theorem dX2_run_0 : decode cX2_run 0 = .ok (.aload_n 0, 1) := by decide +kernel
theorem dX2_run_1 : decode cX2_run 1 = .ok (.iload_n 1, 1) := by decide +kernel
theorem dX2_run_2 : decode cX2_run 2 = .ok (.iconst 1, 1) := by decide +kernel
theorem dX2_run_3 : decode cX2_run 3 = .ok (.bipush 24, 2) := by decide +kernel
theorem dX2_run_5 : decode cX2_run 5 = .ok (.invokestatic 68, 3) := by decide +kernel
theorem dX2_run_8 : decode cX2_run 8 = .ok (.ifCond .ne 7, 3) := by decide +kernel
theorem dX2_run_11 : decode cX2_run 11 = .ok (.iconst 1, 1) := by decide +kernel
theorem dX2_run_12 : decode cX2_run 12 = .ok (.goto 20, 3) := by decide +kernel
theorem dX2_run_15 : decode cX2_run 15 = .ok (.aload_n 0, 1) := by decide +kernel
theorem dX2_run_16 : decode cX2_run 16 = .ok (.getfield 79, 3) := by decide +kernel
theorem dX2_run_19 : decode cX2_run 19 = .ok (.iload_n 1, 1) := by decide +kernel
theorem dX2_run_20 : decode cX2_run 20 = .ok (.iadd, 1) := by decide +kernel
theorem dX2_run_21 : decode cX2_run 21 = .ok (.sipush 200, 3) := by decide +kernel
theorem dX2_run_24 : decode cX2_run 24 = .ok (.if_icmp .le 7, 3) := by decide +kernel
theorem dX2_run_27 : decode cX2_run 27 = .ok (.iconst 2, 1) := by decide +kernel
theorem dX2_run_28 : decode cX2_run 28 = .ok (.goto 4, 3) := by decide +kernel
theorem dX2_run_31 : decode cX2_run 31 = .ok (.iconst 0, 1) := by decide +kernel
theorem dX2_run_32 : decode cX2_run 32 = .ok (.putfield 64, 3) := by decide +kernel
theorem dX2_run_35 : decode cX2_run 35 = .ok (.aload_n 0, 1) := by decide +kernel
theorem dX2_run_36 : decode cX2_run 36 = .ok (.getfield 64, 3) := by decide +kernel
theorem dX2_run_39 : decode cX2_run 39 = .ok (.ifCond .le 5, 3) := by decide +kernel
theorem dX2_run_42 : decode cX2_run 42 = .ok (.iconst 0, 1) := by decide +kernel
theorem dX2_run_43 : decode cX2_run 43 = .ok (.ireturn, 1) := by decide +kernel
theorem dX2_run_44 : decode cX2_run 44 = .ok (.iconst 0, 1) := by decide +kernel
theorem dX2_run_45 : decode cX2_run 45 = .ok (.istore_n 2, 1) := by decide +kernel
theorem dX2_run_46 : decode cX2_run 46 = .ok (.iload_n 2, 1) := by decide +kernel
theorem dX2_run_47 : decode cX2_run 47 = .ok (.iload_n 1, 1) := by decide +kernel
theorem dX2_run_48 : decode cX2_run 48 = .ok (.if_icmp .ge 37, 3) := by decide +kernel
theorem dX2_run_51 : decode cX2_run 51 = .ok (.iconst 0, 1) := by decide +kernel
theorem dX2_run_52 : decode cX2_run 52 = .ok (.istore_n 3, 1) := by decide +kernel
theorem dX2_run_53 : decode cX2_run 53 = .ok (.iload_n 3, 1) := by decide +kernel
theorem dX2_run_54 : decode cX2_run 54 = .ok (.iconst 3, 1) := by decide +kernel
theorem dX2_run_55 : decode cX2_run 55 = .ok (.if_icmp .ge 14, 3) := by decide +kernel
theorem dX2_run_58 : decode cX2_run 58 = .ok (.aload_n 0, 1) := by decide +kernel
theorem dX2_run_59 : decode cX2_run 59 = .ok (.iload_n 3, 1) := by decide +kernel
theorem dX2_run_60 : decode cX2_run 60 = .ok (.invokevirtual 97, 3) := by decide +kernel
theorem dX2_run_63 : decode cX2_run 63 = .ok (.iinc 3 1, 3) := by decide +kernel
theorem dX2_run_66 : decode cX2_run 66 = .ok (.goto (-13), 3) := by decide +kernel
theorem dX2_run_69 : decode cX2_run 69 = .ok (.aload_n 0, 1) := by decide +kernel
theorem dX2_run_70 : decode cX2_run 70 = .ok (.dup, 1) := by decide +kernel
theorem dX2_run_71 : decode cX2_run 71 = .ok (.getfield 79, 3) := by decide +kernel
theorem dX2_run_74 : decode cX2_run 74 = .ok (.iconst 1, 1) := by decide +kernel
theorem dX2_run_75 : decode cX2_run 75 = .ok (.iadd, 1) := by decide +kernel
theorem dX2_run_76 : decode cX2_run 76 = .ok (.putfield 79, 3) := by decide +kernel
theorem dX2_run_79 : decode cX2_run 79 = .ok (.iinc 2 1, 3) := by decide +kernel
theorem dX2_run_82 : decode cX2_run 82 = .ok (.goto (-36), 3) := by decide +kernel
theorem dX2_run_85 : decode cX2_run 85 = .ok (.aload_n 0, 1) := by decide +kernel
theorem dX2_run_86 : decode cX2_run 86 = .ok (.getfield 79, 3) := by decide +kernel
theorem dX2_run_89 : decode cX2_run 89 = .ok (.ireturn, 1) := by decide +kernel
theorem dX2_hour_0 : decode cX2_hour 0 = .ok (.aload_n 0, 1) := by decide +kernel
theorem dX2_hour_1 : decode cX2_hour 1 = .ok (.iconst 0, 1) := by decide +kernel
theorem dX2_hour_2 : decode cX2_hour 2 = .ok (.putfield 64, 3) := by decide +kernel
theorem dX2_hour_5 : decode cX2_hour 5 = .ok (.aload_n 0, 1) := by decide +kernel
theorem dX2_hour_6 : decode cX2_hour 6 = .ok (.getfield 79, 3) := by decide +kernel
theorem dX2_hour_9 : decode cX2_hour 9 = .ok (.ireturn, 1) := by decide +kernel
theorem dX2_lend_0 : decode cX2_lend 0 = .ok (.aload_n 0, 1) := by decide +kernel
theorem dX2_lend_1 : decode cX2_lend 1 = .ok (.iload_n 1, 1) := by decide +kernel
theorem dX2_lend_2 : decode cX2_lend 2 = .ok (.invokestatic 72, 3) := by decide +kernel
theorem dX2_lend_5 : decode cX2_lend 5 = .ok (.ifCond .eq 24, 3) := by decide +kernel
theorem dX2_lend_8 : decode cX2_lend 8 = .ok (.iload_n 2, 1) := by decide +kernel
theorem dX2_lend_9 : decode cX2_lend 9 = .ok (.invokestatic 76, 3) := by decide +kernel
theorem dX2_lend_12 : decode cX2_lend 12 = .ok (.ifCond .eq 17, 3) := by decide +kernel
theorem dX2_lend_15 : decode cX2_lend 15 = .ok (.iload_n 3, 1) := by decide +kernel
theorem dX2_lend_16 : decode cX2_lend 16 = .ok (.iconst 1, 1) := by decide +kernel
theorem dX2_lend_17 : decode cX2_lend 17 = .ok (.bipush 100, 2) := by decide +kernel
theorem dX2_lend_19 : decode cX2_lend 19 = .ok (.invokestatic 68, 3) := by decide +kernel
theorem dX2_lend_22 : decode cX2_lend 22 = .ok (.ifCond .eq 7, 3) := by decide +kernel
theorem dX2_lend_25 : decode cX2_lend 25 = .ok (.iconst 0, 1) := by decide +kernel
theorem dX2_lend_26 : decode cX2_lend 26 = .ok (.goto 4, 3) := by decide +kernel
theorem dX2_lend_29 : decode cX2_lend 29 = .ok (.iconst 1, 1) := by decide +kernel
theorem dX2_lend_30 : decode cX2_lend 30 = .ok (.putfield 64, 3) := by decide +kernel
theorem dX2_lend_33 : decode cX2_lend 33 = .ok (.aload_n 0, 1) := by decide +kernel
theorem dX2_lend_34 : decode cX2_lend 34 = .ok (.getfield 64, 3) := by decide +kernel
theorem dX2_lend_37 : decode cX2_lend 37 = .ok (.ifCond .le 5, 3) := by decide +kernel
theorem dX2_lend_40 : decode cX2_lend 40 = .ok (.iconst 0, 1) := by decide +kernel
theorem dX2_lend_41 : decode cX2_lend 41 = .ok (.ireturn, 1) := by decide +kernel
theorem dX2_lend_42 : decode cX2_lend 42 = .ok (.aload_n 0, 1) := by decide +kernel
theorem dX2_lend_43 : decode cX2_lend 43 = .ok (.aload_n 0, 1) := by decide +kernel
theorem dX2_lend_44 : decode cX2_lend 44 = .ok (.getfield 34, 3) := by decide +kernel
theorem dX2_lend_47 : decode cX2_lend 47 = .ok (.iconst 2, 1) := by decide +kernel
theorem dX2_lend_48 : decode cX2_lend 48 = .ok (.iload_n 1, 1) := by decide +kernel
theorem dX2_lend_49 : decode cX2_lend 49 = .ok (.imul, 1) := by decide +kernel
theorem dX2_lend_50 : decode cX2_lend 50 = .ok (.iload_n 2, 1) := by decide +kernel
theorem dX2_lend_51 : decode cX2_lend 51 = .ok (.iadd, 1) := by decide +kernel
theorem dX2_lend_52 : decode cX2_lend 52 = .ok (.iaload, 1) := by decide +kernel
theorem dX2_lend_53 : decode cX2_lend 53 = .ok (.iload_n 3, 1) := by decide +kernel
theorem dX2_lend_54 : decode cX2_lend 54 = .ok (.if_icmp .ge 7, 3) := by decide +kernel
theorem dX2_lend_57 : decode cX2_lend 57 = .ok (.iconst 2, 1) := by decide +kernel
theorem dX2_lend_58 : decode cX2_lend 58 = .ok (.goto 4, 3) := by decide +kernel
theorem dX2_lend_61 : decode cX2_lend 61 = .ok (.iconst 0, 1) := by decide +kernel
theorem dX2_lend_62 : decode cX2_lend 62 = .ok (.putfield 64, 3) := by decide +kernel
theorem dX2_lend_65 : decode cX2_lend 65 = .ok (.aload_n 0, 1) := by decide +kernel
theorem dX2_lend_66 : decode cX2_lend 66 = .ok (.getfield 64, 3) := by decide +kernel
theorem dX2_lend_69 : decode cX2_lend 69 = .ok (.ifCond .le 5, 3) := by decide +kernel
theorem dX2_lend_72 : decode cX2_lend 72 = .ok (.iconst 0, 1) := by decide +kernel
theorem dX2_lend_73 : decode cX2_lend 73 = .ok (.ireturn, 1) := by decide +kernel
theorem dX2_lend_74 : decode cX2_lend 74 = .ok (.aload_n 0, 1) := by decide +kernel
theorem dX2_lend_75 : decode cX2_lend 75 = .ok (.getfield 34, 3) := by decide +kernel
theorem dX2_lend_78 : decode cX2_lend 78 = .ok (.iconst 2, 1) := by decide +kernel
theorem dX2_lend_79 : decode cX2_lend 79 = .ok (.iload_n 1, 1) := by decide +kernel
theorem dX2_lend_80 : decode cX2_lend 80 = .ok (.imul, 1) := by decide +kernel
theorem dX2_lend_81 : decode cX2_lend 81 = .ok (.iload_n 2, 1) := by decide +kernel
theorem dX2_lend_82 : decode cX2_lend 82 = .ok (.iadd, 1) := by decide +kernel
theorem dX2_lend_83 : decode cX2_lend 83 = .ok (.dup2, 1) := by decide +kernel
theorem dX2_lend_84 : decode cX2_lend 84 = .ok (.iaload, 1) := by decide +kernel
theorem dX2_lend_85 : decode cX2_lend 85 = .ok (.iload_n 3, 1) := by decide +kernel
theorem dX2_lend_86 : decode cX2_lend 86 = .ok (.isub, 1) := by decide +kernel
theorem dX2_lend_87 : decode cX2_lend 87 = .ok (.iastore, 1) := by decide +kernel
theorem dX2_lend_88 : decode cX2_lend 88 = .ok (.aload_n 0, 1) := by decide +kernel
theorem dX2_lend_89 : decode cX2_lend 89 = .ok (.getfield 34, 3) := by decide +kernel
theorem dX2_lend_92 : decode cX2_lend 92 = .ok (.iconst 2, 1) := by decide +kernel
theorem dX2_lend_93 : decode cX2_lend 93 = .ok (.iload_n 1, 1) := by decide +kernel
theorem dX2_lend_94 : decode cX2_lend 94 = .ok (.imul, 1) := by decide +kernel
theorem dX2_lend_95 : decode cX2_lend 95 = .ok (.iconst 1, 1) := by decide +kernel
theorem dX2_lend_96 : decode cX2_lend 96 = .ok (.iadd, 1) := by decide +kernel
theorem dX2_lend_97 : decode cX2_lend 97 = .ok (.iload_n 2, 1) := by decide +kernel
theorem dX2_lend_98 : decode cX2_lend 98 = .ok (.isub, 1) := by decide +kernel
theorem dX2_lend_99 : decode cX2_lend 99 = .ok (.dup2, 1) := by decide +kernel
theorem dX2_lend_100 : decode cX2_lend 100 = .ok (.iaload, 1) := by decide +kernel
theorem dX2_lend_101 : decode cX2_lend 101 = .ok (.iload_n 3, 1) := by decide +kernel
theorem dX2_lend_102 : decode cX2_lend 102 = .ok (.iadd, 1) := by decide +kernel
theorem dX2_lend_103 : decode cX2_lend 103 = .ok (.iastore, 1) := by decide +kernel
theorem dX2_lend_104 : decode cX2_lend 104 = .ok (.aload_n 0, 1) := by decide +kernel
theorem dX2_lend_105 : decode cX2_lend 105 = .ok (.getfield 46, 3) := by decide +kernel
theorem dX2_lend_108 : decode cX2_lend 108 = .ok (.iload_n 2, 1) := by decide +kernel
theorem dX2_lend_109 : decode cX2_lend 109 = .ok (.dup2, 1) := by decide +kernel
theorem dX2_lend_110 : decode cX2_lend 110 = .ok (.iaload, 1) := by decide +kernel
theorem dX2_lend_111 : decode cX2_lend 111 = .ok (.iload_n 3, 1) := by decide +kernel
theorem dX2_lend_112 : decode cX2_lend 112 = .ok (.iadd, 1) := by decide +kernel
theorem dX2_lend_113 : decode cX2_lend 113 = .ok (.iastore, 1) := by decide +kernel
theorem dX2_lend_114 : decode cX2_lend 114 = .ok (.aload_n 0, 1) := by decide +kernel
theorem dX2_lend_115 : decode cX2_lend 115 = .ok (.getfield 46, 3) := by decide +kernel
theorem dX2_lend_118 : decode cX2_lend 118 = .ok (.iconst 1, 1) := by decide +kernel
theorem dX2_lend_119 : decode cX2_lend 119 = .ok (.iload_n 2, 1) := by decide +kernel
theorem dX2_lend_120 : decode cX2_lend 120 = .ok (.isub, 1) := by decide +kernel
theorem dX2_lend_121 : decode cX2_lend 121 = .ok (.dup2, 1) := by decide +kernel
theorem dX2_lend_122 : decode cX2_lend 122 = .ok (.iaload, 1) := by decide +kernel
theorem dX2_lend_123 : decode cX2_lend 123 = .ok (.iload_n 3, 1) := by decide +kernel
theorem dX2_lend_124 : decode cX2_lend 124 = .ok (.isub, 1) := by decide +kernel
theorem dX2_lend_125 : decode cX2_lend 125 = .ok (.iastore, 1) := by decide +kernel
theorem dX2_lend_126 : decode cX2_lend 126 = .ok (.aload_n 0, 1) := by decide +kernel
theorem dX2_lend_127 : decode cX2_lend 127 = .ok (.getfield 34, 3) := by decide +kernel
theorem dX2_lend_130 : decode cX2_lend 130 = .ok (.iconst 2, 1) := by decide +kernel
theorem dX2_lend_131 : decode cX2_lend 131 = .ok (.iload_n 1, 1) := by decide +kernel
theorem dX2_lend_132 : decode cX2_lend 132 = .ok (.imul, 1) := by decide +kernel
theorem dX2_lend_133 : decode cX2_lend 133 = .ok (.iload_n 2, 1) := by decide +kernel
theorem dX2_lend_134 : decode cX2_lend 134 = .ok (.iadd, 1) := by decide +kernel
theorem dX2_lend_135 : decode cX2_lend 135 = .ok (.iaload, 1) := by decide +kernel
theorem dX2_lend_136 : decode cX2_lend 136 = .ok (.ireturn, 1) := by decide +kernel
theorem dX2_account_0 : decode cX2_account 0 = .ok (.aload_n 0, 1) := by decide +kernel
theorem dX2_account_1 : decode cX2_account 1 = .ok (.iload_n 1, 1) := by decide +kernel
theorem dX2_account_2 : decode cX2_account 2 = .ok (.invokestatic 72, 3) := by decide +kernel
theorem dX2_account_5 : decode cX2_account 5 = .ok (.ifCond .eq 14, 3) := by decide +kernel
theorem dX2_account_8 : decode cX2_account 8 = .ok (.iload_n 2, 1) := by decide +kernel
theorem dX2_account_9 : decode cX2_account 9 = .ok (.invokestatic 76, 3) := by decide +kernel
theorem dX2_account_12 : decode cX2_account 12 = .ok (.ifCond .eq 7, 3) := by decide +kernel
theorem dX2_account_15 : decode cX2_account 15 = .ok (.iconst 0, 1) := by decide +kernel
theorem dX2_account_16 : decode cX2_account 16 = .ok (.goto 4, 3) := by decide +kernel
theorem dX2_account_19 : decode cX2_account 19 = .ok (.iconst 1, 1) := by decide +kernel
theorem dX2_account_20 : decode cX2_account 20 = .ok (.putfield 64, 3) := by decide +kernel
theorem dX2_account_23 : decode cX2_account 23 = .ok (.aload_n 0, 1) := by decide +kernel
theorem dX2_account_24 : decode cX2_account 24 = .ok (.getfield 64, 3) := by decide +kernel
theorem dX2_account_27 : decode cX2_account 27 = .ok (.ifCond .le 7, 3) := by decide +kernel
theorem dX2_account_30 : decode cX2_account 30 = .ok (.iconst 0, 1) := by decide +kernel
theorem dX2_account_31 : decode cX2_account 31 = .ok (.goto 13, 3) := by decide +kernel
theorem dX2_account_34 : decode cX2_account 34 = .ok (.aload_n 0, 1) := by decide +kernel
theorem dX2_account_35 : decode cX2_account 35 = .ok (.getfield 34, 3) := by decide +kernel
theorem dX2_account_38 : decode cX2_account 38 = .ok (.iconst 2, 1) := by decide +kernel
theorem dX2_account_39 : decode cX2_account 39 = .ok (.iload_n 1, 1) := by decide +kernel
theorem dX2_account_40 : decode cX2_account 40 = .ok (.imul, 1) := by decide +kernel
theorem dX2_account_41 : decode cX2_account 41 = .ok (.iload_n 2, 1) := by decide +kernel
theorem dX2_account_42 : decode cX2_account 42 = .ok (.iadd, 1) := by decide +kernel
theorem dX2_account_43 : decode cX2_account 43 = .ok (.iaload, 1) := by decide +kernel
theorem dX2_account_44 : decode cX2_account 44 = .ok (.ireturn, 1) := by decide +kernel
theorem dX2_asks_0 : decode cX2_asks 0 = .ok (.aload_n 0, 1) := by decide +kernel
theorem dX2_asks_1 : decode cX2_asks 1 = .ok (.iload_n 1, 1) := by decide +kernel
theorem dX2_asks_2 : decode cX2_asks 2 = .ok (.invokestatic 72, 3) := by decide +kernel
theorem dX2_asks_5 : decode cX2_asks 5 = .ok (.ifCond .eq 7, 3) := by decide +kernel
theorem dX2_asks_8 : decode cX2_asks 8 = .ok (.iconst 0, 1) := by decide +kernel
theorem dX2_asks_9 : decode cX2_asks 9 = .ok (.goto 4, 3) := by decide +kernel
theorem dX2_asks_12 : decode cX2_asks 12 = .ok (.iconst 1, 1) := by decide +kernel
theorem dX2_asks_13 : decode cX2_asks 13 = .ok (.putfield 64, 3) := by decide +kernel
theorem dX2_asks_16 : decode cX2_asks 16 = .ok (.aload_n 0, 1) := by decide +kernel
theorem dX2_asks_17 : decode cX2_asks 17 = .ok (.getfield 64, 3) := by decide +kernel
theorem dX2_asks_20 : decode cX2_asks 20 = .ok (.ifCond .ne 7, 3) := by decide +kernel
theorem dX2_asks_23 : decode cX2_asks 23 = .ok (.iconst 1, 1) := by decide +kernel
theorem dX2_asks_24 : decode cX2_asks 24 = .ok (.goto 4, 3) := by decide +kernel
theorem dX2_asks_27 : decode cX2_asks 27 = .ok (.iconst 0, 1) := by decide +kernel
theorem dX2_asks_28 : decode cX2_asks 28 = .ok (.ireturn, 1) := by decide +kernel
theorem dX2_level_0 : decode cX2_level 0 = .ok (.aload_n 0, 1) := by decide +kernel
theorem dX2_level_1 : decode cX2_level 1 = .ok (.iload_n 1, 1) := by decide +kernel
theorem dX2_level_2 : decode cX2_level 2 = .ok (.invokevirtual 101, 3) := by decide +kernel
theorem dX2_level_5 : decode cX2_level 5 = .ok (.ifCond .eq 11, 3) := by decide +kernel
theorem dX2_level_8 : decode cX2_level 8 = .ok (.aload_n 0, 1) := by decide +kernel
theorem dX2_level_9 : decode cX2_level 9 = .ok (.iload_n 1, 1) := by decide +kernel
theorem dX2_level_10 : decode cX2_level 10 = .ok (.invokevirtual 82, 3) := by decide +kernel
theorem dX2_level_13 : decode cX2_level 13 = .ok (.goto 4, 3) := by decide +kernel
theorem dX2_level_16 : decode cX2_level 16 = .ok (.iconst 0, 1) := by decide +kernel
theorem dX2_level_17 : decode cX2_level 17 = .ok (.ireturn, 1) := by decide +kernel
theorem dX2_travelling_0 : decode cX2_travelling 0 = .ok (.aload_n 0, 1) := by decide +kernel
theorem dX2_travelling_1 : decode cX2_travelling 1 = .ok (.iload_n 1, 1) := by decide +kernel
theorem dX2_travelling_2 : decode cX2_travelling 2 = .ok (.iconst 1, 1) := by decide +kernel
theorem dX2_travelling_3 : decode cX2_travelling 3 = .ok (.iconst 2, 1) := by decide +kernel
theorem dX2_travelling_4 : decode cX2_travelling 4 = .ok (.invokestatic 68, 3) := by decide +kernel
theorem dX2_travelling_7 : decode cX2_travelling 7 = .ok (.ifCond .eq 14, 3) := by decide +kernel
theorem dX2_travelling_10 : decode cX2_travelling 10 = .ok (.iload_n 2, 1) := by decide +kernel
theorem dX2_travelling_11 : decode cX2_travelling 11 = .ok (.invokestatic 76, 3) := by decide +kernel
theorem dX2_travelling_14 : decode cX2_travelling 14 = .ok (.ifCond .eq 7, 3) := by decide +kernel
theorem dX2_travelling_17 : decode cX2_travelling 17 = .ok (.iconst 0, 1) := by decide +kernel
theorem dX2_travelling_18 : decode cX2_travelling 18 = .ok (.goto 4, 3) := by decide +kernel
theorem dX2_travelling_21 : decode cX2_travelling 21 = .ok (.iconst 1, 1) := by decide +kernel
theorem dX2_travelling_22 : decode cX2_travelling 22 = .ok (.putfield 64, 3) := by decide +kernel
theorem dX2_travelling_25 : decode cX2_travelling 25 = .ok (.iconst 0, 1) := by decide +kernel
theorem dX2_travelling_26 : decode cX2_travelling 26 = .ok (.istore_n 3, 1) := by decide +kernel
theorem dX2_travelling_27 : decode cX2_travelling 27 = .ok (.iconst 0, 1) := by decide +kernel
theorem dX2_travelling_28 : decode cX2_travelling 28 = .ok (.istore 4, 2) := by decide +kernel
theorem dX2_travelling_30 : decode cX2_travelling 30 = .ok (.iload 4, 2) := by decide +kernel
theorem dX2_travelling_32 : decode cX2_travelling 32 = .ok (.sipush 210, 3) := by decide +kernel
theorem dX2_travelling_35 : decode cX2_travelling 35 = .ok (.if_icmp .ge 36, 3) := by decide +kernel
theorem dX2_travelling_38 : decode cX2_travelling 38 = .ok (.aload_n 0, 1) := by decide +kernel
theorem dX2_travelling_39 : decode cX2_travelling 39 = .ok (.getfield 64, 3) := by decide +kernel
theorem dX2_travelling_42 : decode cX2_travelling 42 = .ok (.ifCond .ne 29, 3) := by decide +kernel
theorem dX2_travelling_45 : decode cX2_travelling 45 = .ok (.iload_n 3, 1) := by decide +kernel
theorem dX2_travelling_46 : decode cX2_travelling 46 = .ok (.aload_n 0, 1) := by decide +kernel
theorem dX2_travelling_47 : decode cX2_travelling 47 = .ok (.getfield 37, 3) := by decide +kernel
theorem dX2_travelling_50 : decode cX2_travelling 50 = .ok (.sipush 210, 3) := by decide +kernel
theorem dX2_travelling_53 : decode cX2_travelling 53 = .ok (.iconst 2, 1) := by decide +kernel
theorem dX2_travelling_54 : decode cX2_travelling 54 = .ok (.iload_n 1, 1) := by decide +kernel
theorem dX2_travelling_55 : decode cX2_travelling 55 = .ok (.imul, 1) := by decide +kernel
theorem dX2_travelling_56 : decode cX2_travelling 56 = .ok (.iload_n 2, 1) := by decide +kernel
theorem dX2_travelling_57 : decode cX2_travelling 57 = .ok (.iadd, 1) := by decide +kernel
theorem dX2_travelling_58 : decode cX2_travelling 58 = .ok (.imul, 1) := by decide +kernel
theorem dX2_travelling_59 : decode cX2_travelling 59 = .ok (.iload 4, 2) := by decide +kernel
theorem dX2_travelling_61 : decode cX2_travelling 61 = .ok (.iadd, 1) := by decide +kernel
theorem dX2_travelling_62 : decode cX2_travelling 62 = .ok (.iaload, 1) := by decide +kernel
theorem dX2_travelling_63 : decode cX2_travelling 63 = .ok (.iadd, 1) := by decide +kernel
theorem dX2_travelling_64 : decode cX2_travelling 64 = .ok (.istore_n 3, 1) := by decide +kernel
theorem dX2_travelling_65 : decode cX2_travelling 65 = .ok (.iinc 4 1, 3) := by decide +kernel
theorem dX2_travelling_68 : decode cX2_travelling 68 = .ok (.goto (-38), 3) := by decide +kernel
theorem dX2_travelling_71 : decode cX2_travelling 71 = .ok (.iload_n 3, 1) := by decide +kernel
theorem dX2_travelling_72 : decode cX2_travelling 72 = .ok (.ireturn, 1) := by decide +kernel
theorem dX2_arriving_0 : decode cX2_arriving 0 = .ok (.aload_n 0, 1) := by decide +kernel
theorem dX2_arriving_1 : decode cX2_arriving 1 = .ok (.iload_n 1, 1) := by decide +kernel
theorem dX2_arriving_2 : decode cX2_arriving 2 = .ok (.iconst 1, 1) := by decide +kernel
theorem dX2_arriving_3 : decode cX2_arriving 3 = .ok (.iconst 2, 1) := by decide +kernel
theorem dX2_arriving_4 : decode cX2_arriving 4 = .ok (.invokestatic 68, 3) := by decide +kernel
theorem dX2_arriving_7 : decode cX2_arriving 7 = .ok (.ifCond .eq 25, 3) := by decide +kernel
theorem dX2_arriving_10 : decode cX2_arriving 10 = .ok (.iload_n 2, 1) := by decide +kernel
theorem dX2_arriving_11 : decode cX2_arriving 11 = .ok (.invokestatic 76, 3) := by decide +kernel
theorem dX2_arriving_14 : decode cX2_arriving 14 = .ok (.ifCond .eq 18, 3) := by decide +kernel
theorem dX2_arriving_17 : decode cX2_arriving 17 = .ok (.iload_n 3, 1) := by decide +kernel
theorem dX2_arriving_18 : decode cX2_arriving 18 = .ok (.iconst 0, 1) := by decide +kernel
theorem dX2_arriving_19 : decode cX2_arriving 19 = .ok (.sipush 300, 3) := by decide +kernel
theorem dX2_arriving_22 : decode cX2_arriving 22 = .ok (.invokestatic 68, 3) := by decide +kernel
theorem dX2_arriving_25 : decode cX2_arriving 25 = .ok (.ifCond .eq 7, 3) := by decide +kernel
theorem dX2_arriving_28 : decode cX2_arriving 28 = .ok (.iconst 0, 1) := by decide +kernel
theorem dX2_arriving_29 : decode cX2_arriving 29 = .ok (.goto 4, 3) := by decide +kernel
theorem dX2_arriving_32 : decode cX2_arriving 32 = .ok (.iconst 1, 1) := by decide +kernel
theorem dX2_arriving_33 : decode cX2_arriving 33 = .ok (.putfield 64, 3) := by decide +kernel
theorem dX2_arriving_36 : decode cX2_arriving 36 = .ok (.aload_n 0, 1) := by decide +kernel
theorem dX2_arriving_37 : decode cX2_arriving 37 = .ok (.getfield 64, 3) := by decide +kernel
theorem dX2_arriving_40 : decode cX2_arriving 40 = .ok (.ifCond .gt 10, 3) := by decide +kernel
theorem dX2_arriving_43 : decode cX2_arriving 43 = .ok (.iload_n 3, 1) := by decide +kernel
theorem dX2_arriving_44 : decode cX2_arriving 44 = .ok (.sipush 209, 3) := by decide +kernel
theorem dX2_arriving_47 : decode cX2_arriving 47 = .ok (.if_icmp .le 7, 3) := by decide +kernel
theorem dX2_arriving_50 : decode cX2_arriving 50 = .ok (.iconst 0, 1) := by decide +kernel
theorem dX2_arriving_51 : decode cX2_arriving 51 = .ok (.goto 19, 3) := by decide +kernel
theorem dX2_arriving_54 : decode cX2_arriving 54 = .ok (.aload_n 0, 1) := by decide +kernel
theorem dX2_arriving_55 : decode cX2_arriving 55 = .ok (.getfield 37, 3) := by decide +kernel
theorem dX2_arriving_58 : decode cX2_arriving 58 = .ok (.sipush 210, 3) := by decide +kernel
theorem dX2_arriving_61 : decode cX2_arriving 61 = .ok (.iconst 2, 1) := by decide +kernel
theorem dX2_arriving_62 : decode cX2_arriving 62 = .ok (.iload_n 1, 1) := by decide +kernel
theorem dX2_arriving_63 : decode cX2_arriving 63 = .ok (.imul, 1) := by decide +kernel
theorem dX2_arriving_64 : decode cX2_arriving 64 = .ok (.iload_n 2, 1) := by decide +kernel
theorem dX2_arriving_65 : decode cX2_arriving 65 = .ok (.iadd, 1) := by decide +kernel
theorem dX2_arriving_66 : decode cX2_arriving 66 = .ok (.imul, 1) := by decide +kernel
theorem dX2_arriving_67 : decode cX2_arriving 67 = .ok (.iload_n 3, 1) := by decide +kernel
theorem dX2_arriving_68 : decode cX2_arriving 68 = .ok (.iadd, 1) := by decide +kernel
theorem dX2_arriving_69 : decode cX2_arriving 69 = .ok (.iaload, 1) := by decide +kernel
theorem dX2_arriving_70 : decode cX2_arriving 70 = .ok (.ireturn, 1) := by decide +kernel
theorem dX2_knows_0 : decode cX2_knows 0 = .ok (.aload_n 0, 1) := by decide +kernel
theorem dX2_knows_1 : decode cX2_knows 1 = .ok (.iload_n 1, 1) := by decide +kernel
theorem dX2_knows_2 : decode cX2_knows 2 = .ok (.invokestatic 76, 3) := by decide +kernel
theorem dX2_knows_5 : decode cX2_knows 5 = .ok (.ifCond .eq 7, 3) := by decide +kernel
theorem dX2_knows_8 : decode cX2_knows 8 = .ok (.iconst 0, 1) := by decide +kernel
theorem dX2_knows_9 : decode cX2_knows 9 = .ok (.goto 4, 3) := by decide +kernel
theorem dX2_knows_12 : decode cX2_knows 12 = .ok (.iconst 1, 1) := by decide +kernel
theorem dX2_knows_13 : decode cX2_knows 13 = .ok (.putfield 64, 3) := by decide +kernel
theorem dX2_knows_16 : decode cX2_knows 16 = .ok (.aload_n 0, 1) := by decide +kernel
theorem dX2_knows_17 : decode cX2_knows 17 = .ok (.getfield 64, 3) := by decide +kernel
theorem dX2_knows_20 : decode cX2_knows 20 = .ok (.ifCond .ne 7, 3) := by decide +kernel
theorem dX2_knows_23 : decode cX2_knows 23 = .ok (.iconst 1, 1) := by decide +kernel
theorem dX2_knows_24 : decode cX2_knows 24 = .ok (.goto 4, 3) := by decide +kernel
theorem dX2_knows_27 : decode cX2_knows 27 = .ok (.iconst 0, 1) := by decide +kernel
theorem dX2_knows_28 : decode cX2_knows 28 = .ok (.ireturn, 1) := by decide +kernel
theorem dX2_cameIn_0 : decode cX2_cameIn 0 = .ok (.aload_n 0, 1) := by decide +kernel
theorem dX2_cameIn_1 : decode cX2_cameIn 1 = .ok (.iload_n 1, 1) := by decide +kernel
theorem dX2_cameIn_2 : decode cX2_cameIn 2 = .ok (.invokevirtual 104, 3) := by decide +kernel
theorem dX2_cameIn_5 : decode cX2_cameIn 5 = .ok (.ifCond .eq 12, 3) := by decide +kernel
theorem dX2_cameIn_8 : decode cX2_cameIn 8 = .ok (.aload_n 0, 1) := by decide +kernel
theorem dX2_cameIn_9 : decode cX2_cameIn 9 = .ok (.getfield 40, 3) := by decide +kernel
theorem dX2_cameIn_12 : decode cX2_cameIn 12 = .ok (.iload_n 1, 1) := by decide +kernel
theorem dX2_cameIn_13 : decode cX2_cameIn 13 = .ok (.iaload, 1) := by decide +kernel
theorem dX2_cameIn_14 : decode cX2_cameIn 14 = .ok (.goto 4, 3) := by decide +kernel
theorem dX2_cameIn_17 : decode cX2_cameIn 17 = .ok (.iconst 0, 1) := by decide +kernel
theorem dX2_cameIn_18 : decode cX2_cameIn 18 = .ok (.ireturn, 1) := by decide +kernel
theorem dX2_gone_0 : decode cX2_gone 0 = .ok (.aload_n 0, 1) := by decide +kernel
theorem dX2_gone_1 : decode cX2_gone 1 = .ok (.iload_n 1, 1) := by decide +kernel
theorem dX2_gone_2 : decode cX2_gone 2 = .ok (.invokevirtual 104, 3) := by decide +kernel
theorem dX2_gone_5 : decode cX2_gone 5 = .ok (.ifCond .eq 12, 3) := by decide +kernel
theorem dX2_gone_8 : decode cX2_gone 8 = .ok (.aload_n 0, 1) := by decide +kernel
theorem dX2_gone_9 : decode cX2_gone 9 = .ok (.getfield 43, 3) := by decide +kernel
theorem dX2_gone_12 : decode cX2_gone 12 = .ok (.iload_n 1, 1) := by decide +kernel
theorem dX2_gone_13 : decode cX2_gone 13 = .ok (.iaload, 1) := by decide +kernel
theorem dX2_gone_14 : decode cX2_gone 14 = .ok (.goto 4, 3) := by decide +kernel
theorem dX2_gone_17 : decode cX2_gone 17 = .ok (.iconst 0, 1) := by decide +kernel
theorem dX2_gone_18 : decode cX2_gone 18 = .ok (.ireturn, 1) := by decide +kernel
theorem dX2_balance_0 : decode cX2_balance 0 = .ok (.aload_n 0, 1) := by decide +kernel
theorem dX2_balance_1 : decode cX2_balance 1 = .ok (.iload_n 1, 1) := by decide +kernel
theorem dX2_balance_2 : decode cX2_balance 2 = .ok (.invokevirtual 104, 3) := by decide +kernel
theorem dX2_balance_5 : decode cX2_balance 5 = .ok (.ifCond .eq 26, 3) := by decide +kernel
theorem dX2_balance_8 : decode cX2_balance 8 = .ok (.aload_n 0, 1) := by decide +kernel
theorem dX2_balance_9 : decode cX2_balance 9 = .ok (.getfield 40, 3) := by decide +kernel
theorem dX2_balance_12 : decode cX2_balance 12 = .ok (.iload_n 1, 1) := by decide +kernel
theorem dX2_balance_13 : decode cX2_balance 13 = .ok (.iaload, 1) := by decide +kernel
theorem dX2_balance_14 : decode cX2_balance 14 = .ok (.aload_n 0, 1) := by decide +kernel
theorem dX2_balance_15 : decode cX2_balance 15 = .ok (.getfield 43, 3) := by decide +kernel
theorem dX2_balance_18 : decode cX2_balance 18 = .ok (.iload_n 1, 1) := by decide +kernel
theorem dX2_balance_19 : decode cX2_balance 19 = .ok (.iaload, 1) := by decide +kernel
theorem dX2_balance_20 : decode cX2_balance 20 = .ok (.isub, 1) := by decide +kernel
theorem dX2_balance_21 : decode cX2_balance 21 = .ok (.aload_n 0, 1) := by decide +kernel
theorem dX2_balance_22 : decode cX2_balance 22 = .ok (.getfield 46, 3) := by decide +kernel
theorem dX2_balance_25 : decode cX2_balance 25 = .ok (.iload_n 1, 1) := by decide +kernel
theorem dX2_balance_26 : decode cX2_balance 26 = .ok (.iaload, 1) := by decide +kernel
theorem dX2_balance_27 : decode cX2_balance 27 = .ok (.isub, 1) := by decide +kernel
theorem dX2_balance_28 : decode cX2_balance 28 = .ok (.goto 4, 3) := by decide +kernel
theorem dX2_balance_31 : decode cX2_balance 31 = .ok (.iconst 0, 1) := by decide +kernel
theorem dX2_balance_32 : decode cX2_balance 32 = .ok (.ireturn, 1) := by decide +kernel
theorem dX2_spilled_0 : decode cX2_spilled 0 = .ok (.aload_n 0, 1) := by decide +kernel
theorem dX2_spilled_1 : decode cX2_spilled 1 = .ok (.iload_n 1, 1) := by decide +kernel
theorem dX2_spilled_2 : decode cX2_spilled 2 = .ok (.invokevirtual 101, 3) := by decide +kernel
theorem dX2_spilled_5 : decode cX2_spilled 5 = .ok (.ifCond .eq 12, 3) := by decide +kernel
theorem dX2_spilled_8 : decode cX2_spilled 8 = .ok (.aload_n 0, 1) := by decide +kernel
theorem dX2_spilled_9 : decode cX2_spilled 9 = .ok (.getfield 49, 3) := by decide +kernel
theorem dX2_spilled_12 : decode cX2_spilled 12 = .ok (.iload_n 1, 1) := by decide +kernel
theorem dX2_spilled_13 : decode cX2_spilled 13 = .ok (.iaload, 1) := by decide +kernel
theorem dX2_spilled_14 : decode cX2_spilled 14 = .ok (.goto 4, 3) := by decide +kernel
theorem dX2_spilled_17 : decode cX2_spilled 17 = .ok (.iconst 0, 1) := by decide +kernel
theorem dX2_spilled_18 : decode cX2_spilled 18 = .ok (.ireturn, 1) := by decide +kernel
theorem dX2_missed_0 : decode cX2_missed 0 = .ok (.aload_n 0, 1) := by decide +kernel
theorem dX2_missed_1 : decode cX2_missed 1 = .ok (.iload_n 1, 1) := by decide +kernel
theorem dX2_missed_2 : decode cX2_missed 2 = .ok (.invokevirtual 101, 3) := by decide +kernel
theorem dX2_missed_5 : decode cX2_missed 5 = .ok (.ifCond .eq 12, 3) := by decide +kernel
theorem dX2_missed_8 : decode cX2_missed 8 = .ok (.aload_n 0, 1) := by decide +kernel
theorem dX2_missed_9 : decode cX2_missed 9 = .ok (.getfield 52, 3) := by decide +kernel
theorem dX2_missed_12 : decode cX2_missed 12 = .ok (.iload_n 1, 1) := by decide +kernel
theorem dX2_missed_13 : decode cX2_missed 13 = .ok (.iaload, 1) := by decide +kernel
theorem dX2_missed_14 : decode cX2_missed 14 = .ok (.goto 4, 3) := by decide +kernel
theorem dX2_missed_17 : decode cX2_missed 17 = .ok (.iconst 0, 1) := by decide +kernel
theorem dX2_missed_18 : decode cX2_missed 18 = .ok (.ireturn, 1) := by decide +kernel
theorem dX2_flow_0 : decode cX2_flow 0 = .ok (.aload_n 0, 1) := by decide +kernel
theorem dX2_flow_1 : decode cX2_flow 1 = .ok (.iload_n 1, 1) := by decide +kernel
theorem dX2_flow_2 : decode cX2_flow 2 = .ok (.invokevirtual 101, 3) := by decide +kernel
theorem dX2_flow_5 : decode cX2_flow 5 = .ok (.ifCond .eq 12, 3) := by decide +kernel
theorem dX2_flow_8 : decode cX2_flow 8 = .ok (.aload_n 0, 1) := by decide +kernel
theorem dX2_flow_9 : decode cX2_flow 9 = .ok (.getfield 55, 3) := by decide +kernel
theorem dX2_flow_12 : decode cX2_flow 12 = .ok (.iload_n 1, 1) := by decide +kernel
theorem dX2_flow_13 : decode cX2_flow 13 = .ok (.iaload, 1) := by decide +kernel
theorem dX2_flow_14 : decode cX2_flow 14 = .ok (.goto 4, 3) := by decide +kernel
theorem dX2_flow_17 : decode cX2_flow 17 = .ok (.iconst 0, 1) := by decide +kernel
theorem dX2_flow_18 : decode cX2_flow 18 = .ok (.ireturn, 1) := by decide +kernel
theorem dX2_energy_0 : decode cX2_energy 0 = .ok (.aload_n 0, 1) := by decide +kernel
theorem dX2_energy_1 : decode cX2_energy 1 = .ok (.iload_n 1, 1) := by decide +kernel
theorem dX2_energy_2 : decode cX2_energy 2 = .ok (.invokevirtual 101, 3) := by decide +kernel
theorem dX2_energy_5 : decode cX2_energy 5 = .ok (.ifCond .eq 12, 3) := by decide +kernel
theorem dX2_energy_8 : decode cX2_energy 8 = .ok (.aload_n 0, 1) := by decide +kernel
theorem dX2_energy_9 : decode cX2_energy 9 = .ok (.getfield 58, 3) := by decide +kernel
theorem dX2_energy_12 : decode cX2_energy 12 = .ok (.iload_n 1, 1) := by decide +kernel
theorem dX2_energy_13 : decode cX2_energy 13 = .ok (.iaload, 1) := by decide +kernel
theorem dX2_energy_14 : decode cX2_energy 14 = .ok (.goto 4, 3) := by decide +kernel
theorem dX2_energy_17 : decode cX2_energy 17 = .ok (.iconst 0, 1) := by decide +kernel
theorem dX2_energy_18 : decode cX2_energy 18 = .ok (.ireturn, 1) := by decide +kernel
theorem dX2_mix_0 : decode cX2_mix 0 = .ok (.aload_n 0, 1) := by decide +kernel
theorem dX2_mix_1 : decode cX2_mix 1 = .ok (.iload_n 1, 1) := by decide +kernel
theorem dX2_mix_2 : decode cX2_mix 2 = .ok (.invokestatic 72, 3) := by decide +kernel
theorem dX2_mix_5 : decode cX2_mix 5 = .ok (.ifCond .eq 17, 3) := by decide +kernel
theorem dX2_mix_8 : decode cX2_mix 8 = .ok (.iload_n 2, 1) := by decide +kernel
theorem dX2_mix_9 : decode cX2_mix 9 = .ok (.iconst 0, 1) := by decide +kernel
theorem dX2_mix_10 : decode cX2_mix 10 = .ok (.bipush 16, 2) := by decide +kernel
theorem dX2_mix_12 : decode cX2_mix 12 = .ok (.invokestatic 68, 3) := by decide +kernel
theorem dX2_mix_15 : decode cX2_mix 15 = .ok (.ifCond .eq 7, 3) := by decide +kernel
theorem dX2_mix_18 : decode cX2_mix 18 = .ok (.iconst 0, 1) := by decide +kernel
theorem dX2_mix_19 : decode cX2_mix 19 = .ok (.goto 4, 3) := by decide +kernel
theorem dX2_mix_22 : decode cX2_mix 22 = .ok (.iconst 1, 1) := by decide +kernel
theorem dX2_mix_23 : decode cX2_mix 23 = .ok (.putfield 64, 3) := by decide +kernel
theorem dX2_mix_26 : decode cX2_mix 26 = .ok (.aload_n 0, 1) := by decide +kernel
theorem dX2_mix_27 : decode cX2_mix 27 = .ok (.getfield 64, 3) := by decide +kernel
theorem dX2_mix_30 : decode cX2_mix 30 = .ok (.ifCond .le 7, 3) := by decide +kernel
theorem dX2_mix_33 : decode cX2_mix 33 = .ok (.iconst 0, 1) := by decide +kernel
theorem dX2_mix_34 : decode cX2_mix 34 = .ok (.goto 9, 3) := by decide +kernel
theorem dX2_mix_37 : decode cX2_mix 37 = .ok (.aload_n 0, 1) := by decide +kernel
theorem dX2_mix_38 : decode cX2_mix 38 = .ok (.iload_n 1, 1) := by decide +kernel
theorem dX2_mix_39 : decode cX2_mix 39 = .ok (.iload_n 2, 1) := by decide +kernel
theorem dX2_mix_40 : decode cX2_mix 40 = .ok (.invokevirtual 93, 3) := by decide +kernel
theorem dX2_mix_43 : decode cX2_mix 43 = .ok (.ireturn, 1) := by decide +kernel
theorem dX2_may_0 : decode cX2_may 0 = .ok (.iload_n 2, 1) := by decide +kernel
theorem dX2_may_1 : decode cX2_may 1 = .ok (.iconst 4, 1) := by decide +kernel
theorem dX2_may_2 : decode cX2_may 2 = .ok (.idiv, 1) := by decide +kernel
theorem dX2_may_3 : decode cX2_may 3 = .ok (.iconst 4, 1) := by decide +kernel
theorem dX2_may_4 : decode cX2_may 4 = .ok (.imul, 1) := by decide +kernel
theorem dX2_may_5 : decode cX2_may 5 = .ok (.bipush 16, 2) := by decide +kernel
theorem dX2_may_7 : decode cX2_may 7 = .ok (.if_icmp .ge 11, 3) := by decide +kernel
theorem dX2_may_10 : decode cX2_may 10 = .ok (.iload_n 2, 1) := by decide +kernel
theorem dX2_may_11 : decode cX2_may 11 = .ok (.iconst 4, 1) := by decide +kernel
theorem dX2_may_12 : decode cX2_may 12 = .ok (.idiv, 1) := by decide +kernel
theorem dX2_may_13 : decode cX2_may 13 = .ok (.iconst 4, 1) := by decide +kernel
theorem dX2_may_14 : decode cX2_may 14 = .ok (.imul, 1) := by decide +kernel
theorem dX2_may_15 : decode cX2_may 15 = .ok (.goto 5, 3) := by decide +kernel
theorem dX2_may_18 : decode cX2_may 18 = .ok (.bipush 16, 2) := by decide +kernel
theorem dX2_may_20 : decode cX2_may 20 = .ok (.istore_n 3, 1) := by decide +kernel
theorem dX2_may_21 : decode cX2_may 21 = .ok (.iload_n 1, 1) := by decide +kernel
theorem dX2_may_22 : decode cX2_may 22 = .ok (.iload_n 2, 1) := by decide +kernel
theorem dX2_may_23 : decode cX2_may 23 = .ok (.if_icmp .gt 27, 3) := by decide +kernel
theorem dX2_may_26 : decode cX2_may 26 = .ok (.iload_n 1, 1) := by decide +kernel
theorem dX2_may_27 : decode cX2_may 27 = .ok (.aload_n 0, 1) := by decide +kernel
theorem dX2_may_28 : decode cX2_may 28 = .ok (.getfield 25, 3) := by decide +kernel
theorem dX2_may_31 : decode cX2_may 31 = .ok (.iconst 0, 1) := by decide +kernel
theorem dX2_may_32 : decode cX2_may 32 = .ok (.iaload, 1) := by decide +kernel
theorem dX2_may_33 : decode cX2_may 33 = .ok (.if_icmp .ge 13, 3) := by decide +kernel
theorem dX2_may_36 : decode cX2_may 36 = .ok (.iload_n 3, 1) := by decide +kernel
theorem dX2_may_37 : decode cX2_may 37 = .ok (.aload_n 0, 1) := by decide +kernel
theorem dX2_may_38 : decode cX2_may 38 = .ok (.getfield 25, 3) := by decide +kernel
theorem dX2_may_41 : decode cX2_may 41 = .ok (.iconst 0, 1) := by decide +kernel
theorem dX2_may_42 : decode cX2_may 42 = .ok (.iaload, 1) := by decide +kernel
theorem dX2_may_43 : decode cX2_may 43 = .ok (.if_icmp .ge 7, 3) := by decide +kernel
theorem dX2_may_46 : decode cX2_may 46 = .ok (.iconst 1, 1) := by decide +kernel
theorem dX2_may_47 : decode cX2_may 47 = .ok (.goto 4, 3) := by decide +kernel
theorem dX2_may_50 : decode cX2_may 50 = .ok (.iconst 0, 1) := by decide +kernel
theorem dX2_may_51 : decode cX2_may 51 = .ok (.ireturn, 1) := by decide +kernel
theorem dX2_comes_0 : decode cX2_comes 0 = .ok (.iload_n 2, 1) := by decide +kernel
theorem dX2_comes_1 : decode cX2_comes 1 = .ok (.iload_n 1, 1) := by decide +kernel
theorem dX2_comes_2 : decode cX2_comes 2 = .ok (.isub, 1) := by decide +kernel
theorem dX2_comes_3 : decode cX2_comes 3 = .ok (.aload_n 0, 1) := by decide +kernel
theorem dX2_comes_4 : decode cX2_comes 4 = .ok (.getfield 7, 3) := by decide +kernel
theorem dX2_comes_7 : decode cX2_comes 7 = .ok (.iconst 0, 1) := by decide +kernel
theorem dX2_comes_8 : decode cX2_comes 8 = .ok (.iaload, 1) := by decide +kernel
theorem dX2_comes_9 : decode cX2_comes 9 = .ok (.if_icmp .ge 9, 3) := by decide +kernel
theorem dX2_comes_12 : decode cX2_comes 12 = .ok (.iload_n 2, 1) := by decide +kernel
theorem dX2_comes_13 : decode cX2_comes 13 = .ok (.iload_n 1, 1) := by decide +kernel
theorem dX2_comes_14 : decode cX2_comes 14 = .ok (.isub, 1) := by decide +kernel
theorem dX2_comes_15 : decode cX2_comes 15 = .ok (.goto 9, 3) := by decide +kernel
theorem dX2_comes_18 : decode cX2_comes 18 = .ok (.aload_n 0, 1) := by decide +kernel
theorem dX2_comes_19 : decode cX2_comes 19 = .ok (.getfield 7, 3) := by decide +kernel
theorem dX2_comes_22 : decode cX2_comes 22 = .ok (.iconst 0, 1) := by decide +kernel
theorem dX2_comes_23 : decode cX2_comes 23 = .ok (.iaload, 1) := by decide +kernel
theorem dX2_comes_24 : decode cX2_comes 24 = .ok (.istore 4, 2) := by decide +kernel
theorem dX2_comes_26 : decode cX2_comes 26 = .ok (.aload_n 0, 1) := by decide +kernel
theorem dX2_comes_27 : decode cX2_comes 27 = .ok (.iconst 0, 1) := by decide +kernel
theorem dX2_comes_28 : decode cX2_comes 28 = .ok (.iload_n 1, 1) := by decide +kernel
theorem dX2_comes_29 : decode cX2_comes 29 = .ok (.invokevirtual 93, 3) := by decide +kernel
theorem dX2_comes_32 : decode cX2_comes 32 = .ok (.aload_n 0, 1) := by decide +kernel
theorem dX2_comes_33 : decode cX2_comes 33 = .ok (.getfield 13, 3) := by decide +kernel
theorem dX2_comes_36 : decode cX2_comes 36 = .ok (.iconst 0, 1) := by decide +kernel
theorem dX2_comes_37 : decode cX2_comes 37 = .ok (.iaload, 1) := by decide +kernel
theorem dX2_comes_38 : decode cX2_comes 38 = .ok (.iload_n 2, 1) := by decide +kernel
theorem dX2_comes_39 : decode cX2_comes 39 = .ok (.iconst 5, 1) := by decide +kernel
theorem dX2_comes_40 : decode cX2_comes 40 = .ok (.idiv, 1) := by decide +kernel
theorem dX2_comes_41 : decode cX2_comes 41 = .ok (.iadd, 1) := by decide +kernel
theorem dX2_comes_42 : decode cX2_comes 42 = .ok (.imul, 1) := by decide +kernel
theorem dX2_comes_43 : decode cX2_comes 43 = .ok (.bipush 10, 2) := by decide +kernel
theorem dX2_comes_45 : decode cX2_comes 45 = .ok (.idiv, 1) := by decide +kernel
theorem dX2_comes_46 : decode cX2_comes 46 = .ok (.istore 5, 2) := by decide +kernel
theorem dX2_comes_48 : decode cX2_comes 48 = .ok (.iload 5, 2) := by decide +kernel
theorem dX2_comes_50 : decode cX2_comes 50 = .ok (.aload_n 0, 1) := by decide +kernel
theorem dX2_comes_51 : decode cX2_comes 51 = .ok (.getfield 61, 3) := by decide +kernel
theorem dX2_comes_54 : decode cX2_comes 54 = .ok (.sipush 260, 3) := by decide +kernel
theorem dX2_comes_57 : decode cX2_comes 57 = .ok (.iload_n 3, 1) := by decide +kernel
theorem dX2_comes_58 : decode cX2_comes 58 = .ok (.iconst 1, 1) := by decide +kernel
theorem dX2_comes_59 : decode cX2_comes 59 = .ok (.isub, 1) := by decide +kernel
theorem dX2_comes_60 : decode cX2_comes 60 = .ok (.imul, 1) := by decide +kernel
theorem dX2_comes_61 : decode cX2_comes 61 = .ok (.iload 4, 2) := by decide +kernel
theorem dX2_comes_63 : decode cX2_comes 63 = .ok (.iadd, 1) := by decide +kernel
theorem dX2_comes_64 : decode cX2_comes 64 = .ok (.iaload, 1) := by decide +kernel
theorem dX2_comes_65 : decode cX2_comes 65 = .ok (.iadd, 1) := by decide +kernel
theorem dX2_comes_66 : decode cX2_comes 66 = .ok (.ireturn, 1) := by decide +kernel
theorem dX2_lays_0 : decode cX2_lays 0 = .ok (.iconst 0, 1) := by decide +kernel
theorem dX2_lays_1 : decode cX2_lays 1 = .ok (.istore_n 2, 1) := by decide +kernel
theorem dX2_lays_2 : decode cX2_lays 2 = .ok (.iload_n 2, 1) := by decide +kernel
theorem dX2_lays_3 : decode cX2_lays 3 = .ok (.sipush 260, 3) := by decide +kernel
theorem dX2_lays_6 : decode cX2_lays 6 = .ok (.if_icmp .ge 16, 3) := by decide +kernel
theorem dX2_lays_9 : decode cX2_lays 9 = .ok (.aload_n 0, 1) := by decide +kernel
theorem dX2_lays_10 : decode cX2_lays 10 = .ok (.getfield 61, 3) := by decide +kernel
theorem dX2_lays_13 : decode cX2_lays 13 = .ok (.iload_n 2, 1) := by decide +kernel
theorem dX2_lays_14 : decode cX2_lays 14 = .ok (.iconst 0, 1) := by decide +kernel
theorem dX2_lays_15 : decode cX2_lays 15 = .ok (.iastore, 1) := by decide +kernel
theorem dX2_lays_16 : decode cX2_lays 16 = .ok (.iinc 2 1, 3) := by decide +kernel
theorem dX2_lays_19 : decode cX2_lays 19 = .ok (.goto (-17), 3) := by decide +kernel
theorem dX2_lays_22 : decode cX2_lays 22 = .ok (.iconst 1, 1) := by decide +kernel
theorem dX2_lays_23 : decode cX2_lays 23 = .ok (.istore_n 2, 1) := by decide +kernel
theorem dX2_lays_24 : decode cX2_lays 24 = .ok (.iload_n 2, 1) := by decide +kernel
theorem dX2_lays_25 : decode cX2_lays 25 = .ok (.iload_n 1, 1) := by decide +kernel
theorem dX2_lays_26 : decode cX2_lays 26 = .ok (.if_icmp .gt 111, 3) := by decide +kernel
theorem dX2_lays_29 : decode cX2_lays 29 = .ok (.iconst 0, 1) := by decide +kernel
theorem dX2_lays_30 : decode cX2_lays 30 = .ok (.istore_n 3, 1) := by decide +kernel
theorem dX2_lays_31 : decode cX2_lays 31 = .ok (.iload_n 3, 1) := by decide +kernel
theorem dX2_lays_32 : decode cX2_lays 32 = .ok (.sipush 200, 3) := by decide +kernel
theorem dX2_lays_35 : decode cX2_lays 35 = .ok (.if_icmp .gt 96, 3) := by decide +kernel
theorem dX2_lays_38 : decode cX2_lays 38 = .ok (.iconst 0, 1) := by decide +kernel
theorem dX2_lays_39 : decode cX2_lays 39 = .ok (.istore 4, 2) := by decide +kernel
theorem dX2_lays_41 : decode cX2_lays 41 = .ok (.iconst 0, 1) := by decide +kernel
theorem dX2_lays_42 : decode cX2_lays 42 = .ok (.istore 5, 2) := by decide +kernel
theorem dX2_lays_44 : decode cX2_lays 44 = .ok (.iload 5, 2) := by decide +kernel
theorem dX2_lays_46 : decode cX2_lays 46 = .ok (.bipush 16, 2) := by decide +kernel
theorem dX2_lays_48 : decode cX2_lays 48 = .ok (.if_icmp .gt 63, 3) := by decide +kernel
theorem dX2_lays_51 : decode cX2_lays 51 = .ok (.aload_n 0, 1) := by decide +kernel
theorem dX2_lays_52 : decode cX2_lays 52 = .ok (.iload 5, 2) := by decide +kernel
theorem dX2_lays_54 : decode cX2_lays 54 = .ok (.iload_n 3, 1) := by decide +kernel
theorem dX2_lays_55 : decode cX2_lays 55 = .ok (.aload_n 0, 1) := by decide +kernel
theorem dX2_lays_56 : decode cX2_lays 56 = .ok (.getfield 19, 3) := by decide +kernel
theorem dX2_lays_59 : decode cX2_lays 59 = .ok (.iconst 0, 1) := by decide +kernel
theorem dX2_lays_60 : decode cX2_lays 60 = .ok (.iaload, 1) := by decide +kernel
theorem dX2_lays_61 : decode cX2_lays 61 = .ok (.iadd, 1) := by decide +kernel
theorem dX2_lays_62 : decode cX2_lays 62 = .ok (.invokevirtual 107, 3) := by decide +kernel
theorem dX2_lays_65 : decode cX2_lays 65 = .ok (.ifCond .eq 21, 3) := by decide +kernel
theorem dX2_lays_68 : decode cX2_lays 68 = .ok (.aload_n 0, 1) := by decide +kernel
theorem dX2_lays_69 : decode cX2_lays 69 = .ok (.iload 5, 2) := by decide +kernel
theorem dX2_lays_71 : decode cX2_lays 71 = .ok (.iload_n 3, 1) := by decide +kernel
theorem dX2_lays_72 : decode cX2_lays 72 = .ok (.aload_n 0, 1) := by decide +kernel
theorem dX2_lays_73 : decode cX2_lays 73 = .ok (.getfield 19, 3) := by decide +kernel
theorem dX2_lays_76 : decode cX2_lays 76 = .ok (.iconst 0, 1) := by decide +kernel
theorem dX2_lays_77 : decode cX2_lays 77 = .ok (.iaload, 1) := by decide +kernel
theorem dX2_lays_78 : decode cX2_lays 78 = .ok (.iadd, 1) := by decide +kernel
theorem dX2_lays_79 : decode cX2_lays 79 = .ok (.iload_n 2, 1) := by decide +kernel
theorem dX2_lays_80 : decode cX2_lays 80 = .ok (.invokevirtual 111, 3) := by decide +kernel
theorem dX2_lays_83 : decode cX2_lays 83 = .ok (.goto 4, 3) := by decide +kernel
theorem dX2_lays_86 : decode cX2_lays 86 = .ok (.iconst 0, 1) := by decide +kernel
theorem dX2_lays_87 : decode cX2_lays 87 = .ok (.istore 6, 2) := by decide +kernel
theorem dX2_lays_89 : decode cX2_lays 89 = .ok (.iload 6, 2) := by decide +kernel
theorem dX2_lays_91 : decode cX2_lays 91 = .ok (.iload 4, 2) := by decide +kernel
theorem dX2_lays_93 : decode cX2_lays 93 = .ok (.if_icmp .le 8, 3) := by decide +kernel
theorem dX2_lays_96 : decode cX2_lays 96 = .ok (.iload 6, 2) := by decide +kernel
theorem dX2_lays_98 : decode cX2_lays 98 = .ok (.goto 5, 3) := by decide +kernel
theorem dX2_lays_101 : decode cX2_lays 101 = .ok (.iload 4, 2) := by decide +kernel
theorem dX2_lays_103 : decode cX2_lays 103 = .ok (.istore 4, 2) := by decide +kernel
theorem dX2_lays_105 : decode cX2_lays 105 = .ok (.iinc 5 4, 3) := by decide +kernel
theorem dX2_lays_108 : decode cX2_lays 108 = .ok (.goto (-64), 3) := by decide +kernel
theorem dX2_lays_111 : decode cX2_lays 111 = .ok (.aload_n 0, 1) := by decide +kernel
theorem dX2_lays_112 : decode cX2_lays 112 = .ok (.getfield 61, 3) := by decide +kernel
theorem dX2_lays_115 : decode cX2_lays 115 = .ok (.sipush 260, 3) := by decide +kernel
theorem dX2_lays_118 : decode cX2_lays 118 = .ok (.iload_n 2, 1) := by decide +kernel
theorem dX2_lays_119 : decode cX2_lays 119 = .ok (.imul, 1) := by decide +kernel
theorem dX2_lays_120 : decode cX2_lays 120 = .ok (.iload_n 3, 1) := by decide +kernel
theorem dX2_lays_121 : decode cX2_lays 121 = .ok (.iadd, 1) := by decide +kernel
theorem dX2_lays_122 : decode cX2_lays 122 = .ok (.iload 4, 2) := by decide +kernel
theorem dX2_lays_124 : decode cX2_lays 124 = .ok (.iastore, 1) := by decide +kernel
theorem dX2_lays_125 : decode cX2_lays 125 = .ok (.iinc 3 1, 3) := by decide +kernel
theorem dX2_lays_128 : decode cX2_lays 128 = .ok (.goto (-97), 3) := by decide +kernel
theorem dX2_lays_131 : decode cX2_lays 131 = .ok (.iinc 2 1, 3) := by decide +kernel
theorem dX2_lays_134 : decode cX2_lays 134 = .ok (.goto (-110), 3) := by decide +kernel
theorem dX2_lays_137 : decode cX2_lays 137 = .ok (.return_, 1) := by decide +kernel
theorem dX2_greatest_0 : decode cX2_greatest 0 = .ok (.aload_n 0, 1) := by decide +kernel
theorem dX2_greatest_1 : decode cX2_greatest 1 = .ok (.iload_n 1, 1) := by decide +kernel
theorem dX2_greatest_2 : decode cX2_greatest 2 = .ok (.iconst 1, 1) := by decide +kernel
theorem dX2_greatest_3 : decode cX2_greatest 3 = .ok (.bipush 6, 2) := by decide +kernel
theorem dX2_greatest_5 : decode cX2_greatest 5 = .ok (.invokestatic 68, 3) := by decide +kernel
theorem dX2_greatest_8 : decode cX2_greatest 8 = .ok (.ifCond .eq 7, 3) := by decide +kernel
theorem dX2_greatest_11 : decode cX2_greatest 11 = .ok (.iconst 0, 1) := by decide +kernel
theorem dX2_greatest_12 : decode cX2_greatest 12 = .ok (.goto 4, 3) := by decide +kernel
theorem dX2_greatest_15 : decode cX2_greatest 15 = .ok (.iconst 1, 1) := by decide +kernel
theorem dX2_greatest_16 : decode cX2_greatest 16 = .ok (.putfield 64, 3) := by decide +kernel
theorem dX2_greatest_19 : decode cX2_greatest 19 = .ok (.aload_n 0, 1) := by decide +kernel
theorem dX2_greatest_20 : decode cX2_greatest 20 = .ok (.getfield 64, 3) := by decide +kernel
theorem dX2_greatest_23 : decode cX2_greatest 23 = .ok (.ifCond .le 5, 3) := by decide +kernel
theorem dX2_greatest_26 : decode cX2_greatest 26 = .ok (.iconst 0, 1) := by decide +kernel
theorem dX2_greatest_27 : decode cX2_greatest 27 = .ok (.ireturn, 1) := by decide +kernel
theorem dX2_greatest_28 : decode cX2_greatest 28 = .ok (.aload_n 0, 1) := by decide +kernel
theorem dX2_greatest_29 : decode cX2_greatest 29 = .ok (.iload_n 1, 1) := by decide +kernel
theorem dX2_greatest_30 : decode cX2_greatest 30 = .ok (.invokevirtual 115, 3) := by decide +kernel
theorem dX2_greatest_33 : decode cX2_greatest 33 = .ok (.aload_n 0, 1) := by decide +kernel
theorem dX2_greatest_34 : decode cX2_greatest 34 = .ok (.getfield 61, 3) := by decide +kernel
theorem dX2_greatest_37 : decode cX2_greatest 37 = .ok (.sipush 260, 3) := by decide +kernel
theorem dX2_greatest_40 : decode cX2_greatest 40 = .ok (.iload_n 1, 1) := by decide +kernel
theorem dX2_greatest_41 : decode cX2_greatest 41 = .ok (.imul, 1) := by decide +kernel
theorem dX2_greatest_42 : decode cX2_greatest 42 = .ok (.aload_n 0, 1) := by decide +kernel
theorem dX2_greatest_43 : decode cX2_greatest 43 = .ok (.iconst 0, 1) := by decide +kernel
theorem dX2_greatest_44 : decode cX2_greatest 44 = .ok (.invokevirtual 82, 3) := by decide +kernel
theorem dX2_greatest_47 : decode cX2_greatest 47 = .ok (.iadd, 1) := by decide +kernel
theorem dX2_greatest_48 : decode cX2_greatest 48 = .ok (.iaload, 1) := by decide +kernel
theorem dX2_greatest_49 : decode cX2_greatest 49 = .ok (.ireturn, 1) := by decide +kernel
theorem dX2_bestEnergy_0 : decode cX2_bestEnergy 0 = .ok (.aload_n 0, 1) := by decide +kernel
theorem dX2_bestEnergy_1 : decode cX2_bestEnergy 1 = .ok (.iload_n 1, 1) := by decide +kernel
theorem dX2_bestEnergy_2 : decode cX2_bestEnergy 2 = .ok (.invokevirtual 118, 3) := by decide +kernel
theorem dX2_bestEnergy_5 : decode cX2_bestEnergy 5 = .ok (.ireturn, 1) := by decide +kernel
theorem dX2_bestEnergyByAll_0 : decode cX2_bestEnergyByAll 0 = .ok (.aload_n 0, 1) := by decide +kernel
theorem dX2_bestEnergyByAll_1 : decode cX2_bestEnergyByAll 1 = .ok (.iload_n 1, 1) := by decide +kernel
theorem dX2_bestEnergyByAll_2 : decode cX2_bestEnergyByAll 2 = .ok (.invokevirtual 118, 3) := by decide +kernel
theorem dX2_bestEnergyByAll_5 : decode cX2_bestEnergyByAll 5 = .ok (.ireturn, 1) := by decide +kernel
theorem dX2_bestRelease_0 : decode cX2_bestRelease 0 = .ok (.aload_n 0, 1) := by decide +kernel
theorem dX2_bestRelease_1 : decode cX2_bestRelease 1 = .ok (.iload_n 1, 1) := by decide +kernel
theorem dX2_bestRelease_2 : decode cX2_bestRelease 2 = .ok (.invokevirtual 118, 3) := by decide +kernel
theorem dX2_bestRelease_5 : decode cX2_bestRelease 5 = .ok (.istore_n 2, 1) := by decide +kernel
theorem dX2_bestRelease_6 : decode cX2_bestRelease 6 = .ok (.iconst 0, 1) := by decide +kernel
theorem dX2_bestRelease_7 : decode cX2_bestRelease 7 = .ok (.istore_n 3, 1) := by decide +kernel
theorem dX2_bestRelease_8 : decode cX2_bestRelease 8 = .ok (.aload_n 0, 1) := by decide +kernel
theorem dX2_bestRelease_9 : decode cX2_bestRelease 9 = .ok (.iconst 0, 1) := by decide +kernel
theorem dX2_bestRelease_10 : decode cX2_bestRelease 10 = .ok (.invokevirtual 82, 3) := by decide +kernel
theorem dX2_bestRelease_13 : decode cX2_bestRelease 13 = .ok (.aload_n 0, 1) := by decide +kernel
theorem dX2_bestRelease_14 : decode cX2_bestRelease 14 = .ok (.getfield 19, 3) := by decide +kernel
theorem dX2_bestRelease_17 : decode cX2_bestRelease 17 = .ok (.iconst 0, 1) := by decide +kernel
theorem dX2_bestRelease_18 : decode cX2_bestRelease 18 = .ok (.iaload, 1) := by decide +kernel
theorem dX2_bestRelease_19 : decode cX2_bestRelease 19 = .ok (.iadd, 1) := by decide +kernel
theorem dX2_bestRelease_20 : decode cX2_bestRelease 20 = .ok (.istore 4, 2) := by decide +kernel
theorem dX2_bestRelease_22 : decode cX2_bestRelease 22 = .ok (.bipush 16, 2) := by decide +kernel
theorem dX2_bestRelease_24 : decode cX2_bestRelease 24 = .ok (.istore 5, 2) := by decide +kernel
theorem dX2_bestRelease_26 : decode cX2_bestRelease 26 = .ok (.iload 5, 2) := by decide +kernel
theorem dX2_bestRelease_28 : decode cX2_bestRelease 28 = .ok (.ifCond .lt 47, 3) := by decide +kernel
theorem dX2_bestRelease_31 : decode cX2_bestRelease 31 = .ok (.aload_n 0, 1) := by decide +kernel
theorem dX2_bestRelease_32 : decode cX2_bestRelease 32 = .ok (.getfield 64, 3) := by decide +kernel
theorem dX2_bestRelease_35 : decode cX2_bestRelease 35 = .ok (.ifCond .ne 40, 3) := by decide +kernel
theorem dX2_bestRelease_38 : decode cX2_bestRelease 38 = .ok (.aload_n 0, 1) := by decide +kernel
theorem dX2_bestRelease_39 : decode cX2_bestRelease 39 = .ok (.iload 5, 2) := by decide +kernel
theorem dX2_bestRelease_41 : decode cX2_bestRelease 41 = .ok (.iload 4, 2) := by decide +kernel
theorem dX2_bestRelease_43 : decode cX2_bestRelease 43 = .ok (.invokevirtual 107, 3) := by decide +kernel
theorem dX2_bestRelease_46 : decode cX2_bestRelease 46 = .ok (.ifCond .eq 21, 3) := by decide +kernel
theorem dX2_bestRelease_49 : decode cX2_bestRelease 49 = .ok (.aload_n 0, 1) := by decide +kernel
theorem dX2_bestRelease_50 : decode cX2_bestRelease 50 = .ok (.iload 5, 2) := by decide +kernel
theorem dX2_bestRelease_52 : decode cX2_bestRelease 52 = .ok (.iload 4, 2) := by decide +kernel
theorem dX2_bestRelease_54 : decode cX2_bestRelease 54 = .ok (.iload_n 1, 1) := by decide +kernel
theorem dX2_bestRelease_55 : decode cX2_bestRelease 55 = .ok (.invokevirtual 111, 3) := by decide +kernel
theorem dX2_bestRelease_58 : decode cX2_bestRelease 58 = .ok (.iload_n 2, 1) := by decide +kernel
theorem dX2_bestRelease_59 : decode cX2_bestRelease 59 = .ok (.if_icmp .ne 8, 3) := by decide +kernel
theorem dX2_bestRelease_62 : decode cX2_bestRelease 62 = .ok (.iload 5, 2) := by decide +kernel
theorem dX2_bestRelease_64 : decode cX2_bestRelease 64 = .ok (.goto 4, 3) := by decide +kernel
theorem dX2_bestRelease_67 : decode cX2_bestRelease 67 = .ok (.iload_n 3, 1) := by decide +kernel
theorem dX2_bestRelease_68 : decode cX2_bestRelease 68 = .ok (.istore_n 3, 1) := by decide +kernel
theorem dX2_bestRelease_69 : decode cX2_bestRelease 69 = .ok (.iinc 5 (-4), 3) := by decide +kernel
theorem dX2_bestRelease_72 : decode cX2_bestRelease 72 = .ok (.goto (-46), 3) := by decide +kernel
theorem dX2_bestRelease_75 : decode cX2_bestRelease 75 = .ok (.iload_n 3, 1) := by decide +kernel
theorem dX2_bestRelease_76 : decode cX2_bestRelease 76 = .ok (.ireturn, 1) := by decide +kernel
end
section
theorem dL_setPond_0 : decode cL_setPond 0 = .ok (.aload_n 0, 1) := by decide +kernel
theorem dL_setPond_1 : decode cL_setPond 1 = .ok (.iload_n 1, 1) := by decide +kernel
theorem dL_setPond_2 : decode cL_setPond 2 = .ok (.iload_n 2, 1) := by decide +kernel
theorem dL_setPond_3 : decode cL_setPond 3 = .ok (.iload_n 3, 1) := by decide +kernel
theorem dL_setPond_4 : decode cL_setPond 4 = .ok (.iload 4, 2) := by decide +kernel
theorem dL_setPond_6 : decode cL_setPond 6 = .ok (.invokevirtual 7, 3) := by decide +kernel
theorem dL_setPond_9 : decode cL_setPond 9 = .ok (.goto 7, 3) := by decide +kernel
theorem dL_setPond_12 : decode cL_setPond 12 = .ok (.astore 5, 2) := by decide +kernel
theorem dL_setPond_14 : decode cL_setPond 14 = .ok (.iconst 1, 1) := by decide +kernel
theorem dL_setPond_15 : decode cL_setPond 15 = .ok (.ireturn, 1) := by decide +kernel
theorem dL_setPond_16 : decode cL_setPond 16 = .ok (.iconst 0, 1) := by decide +kernel
theorem dL_setPond_17 : decode cL_setPond 17 = .ok (.ireturn, 1) := by decide +kernel
theorem dL_setInflow_0 : decode cL_setInflow 0 = .ok (.aload 4, 2) := by decide +kernel
theorem dL_setInflow_2 : decode cL_setInflow 2 = .ok (.iconst 0, 1) := by decide +kernel
theorem dL_setInflow_3 : decode cL_setInflow 3 = .ok (.aload_n 0, 1) := by decide +kernel
theorem dL_setInflow_4 : decode cL_setInflow 4 = .ok (.iload_n 1, 1) := by decide +kernel
theorem dL_setInflow_5 : decode cL_setInflow 5 = .ok (.iload_n 2, 1) := by decide +kernel
theorem dL_setInflow_6 : decode cL_setInflow 6 = .ok (.iload_n 3, 1) := by decide +kernel
theorem dL_setInflow_7 : decode cL_setInflow 7 = .ok (.invokevirtual 15, 3) := by decide +kernel
theorem dL_setInflow_10 : decode cL_setInflow 10 = .ok (.i2l, 1) := by decide +kernel
theorem dL_setInflow_11 : decode cL_setInflow 11 = .ok (.lastore, 1) := by decide +kernel
theorem dL_setInflow_12 : decode cL_setInflow 12 = .ok (.goto 7, 3) := by decide +kernel
theorem dL_setInflow_15 : decode cL_setInflow 15 = .ok (.astore 5, 2) := by decide +kernel
theorem dL_setInflow_17 : decode cL_setInflow 17 = .ok (.iconst 1, 1) := by decide +kernel
theorem dL_setInflow_18 : decode cL_setInflow 18 = .ok (.ireturn, 1) := by decide +kernel
theorem dL_setInflow_19 : decode cL_setInflow 19 = .ok (.iconst 0, 1) := by decide +kernel
theorem dL_setInflow_20 : decode cL_setInflow 20 = .ok (.ireturn, 1) := by decide +kernel
theorem dL_setMinimum_0 : decode cL_setMinimum 0 = .ok (.aload_n 3, 1) := by decide +kernel
theorem dL_setMinimum_1 : decode cL_setMinimum 1 = .ok (.iconst 0, 1) := by decide +kernel
theorem dL_setMinimum_2 : decode cL_setMinimum 2 = .ok (.aload_n 0, 1) := by decide +kernel
theorem dL_setMinimum_3 : decode cL_setMinimum 3 = .ok (.iload_n 1, 1) := by decide +kernel
theorem dL_setMinimum_4 : decode cL_setMinimum 4 = .ok (.iload_n 2, 1) := by decide +kernel
theorem dL_setMinimum_5 : decode cL_setMinimum 5 = .ok (.invokevirtual 19, 3) := by decide +kernel
theorem dL_setMinimum_8 : decode cL_setMinimum 8 = .ok (.i2l, 1) := by decide +kernel
theorem dL_setMinimum_9 : decode cL_setMinimum 9 = .ok (.lastore, 1) := by decide +kernel
theorem dL_setMinimum_10 : decode cL_setMinimum 10 = .ok (.goto 7, 3) := by decide +kernel
theorem dL_setMinimum_13 : decode cL_setMinimum 13 = .ok (.astore 4, 2) := by decide +kernel
theorem dL_setMinimum_15 : decode cL_setMinimum 15 = .ok (.iconst 1, 1) := by decide +kernel
theorem dL_setMinimum_16 : decode cL_setMinimum 16 = .ok (.ireturn, 1) := by decide +kernel
theorem dL_setMinimum_17 : decode cL_setMinimum 17 = .ok (.iconst 0, 1) := by decide +kernel
theorem dL_setMinimum_18 : decode cL_setMinimum 18 = .ok (.ireturn, 1) := by decide +kernel
theorem dL_order_0 : decode cL_order 0 = .ok (.aload 4, 2) := by decide +kernel
theorem dL_order_2 : decode cL_order 2 = .ok (.iconst 0, 1) := by decide +kernel
theorem dL_order_3 : decode cL_order 3 = .ok (.aload_n 0, 1) := by decide +kernel
theorem dL_order_4 : decode cL_order 4 = .ok (.iload_n 1, 1) := by decide +kernel
theorem dL_order_5 : decode cL_order 5 = .ok (.iload_n 2, 1) := by decide +kernel
theorem dL_order_6 : decode cL_order 6 = .ok (.iload_n 3, 1) := by decide +kernel
theorem dL_order_7 : decode cL_order 7 = .ok (.invokevirtual 23, 3) := by decide +kernel
theorem dL_order_10 : decode cL_order 10 = .ok (.i2l, 1) := by decide +kernel
theorem dL_order_11 : decode cL_order 11 = .ok (.lastore, 1) := by decide +kernel
theorem dL_order_12 : decode cL_order 12 = .ok (.goto 7, 3) := by decide +kernel
theorem dL_order_15 : decode cL_order 15 = .ok (.astore 5, 2) := by decide +kernel
theorem dL_order_17 : decode cL_order 17 = .ok (.iconst 1, 1) := by decide +kernel
theorem dL_order_18 : decode cL_order 18 = .ok (.ireturn, 1) := by decide +kernel
theorem dL_order_19 : decode cL_order 19 = .ok (.iconst 0, 1) := by decide +kernel
theorem dL_order_20 : decode cL_order 20 = .ok (.ireturn, 1) := by decide +kernel
theorem dL_setYield_0 : decode cL_setYield 0 = .ok (.aload 5, 2) := by decide +kernel
theorem dL_setYield_2 : decode cL_setYield 2 = .ok (.iconst 0, 1) := by decide +kernel
theorem dL_setYield_3 : decode cL_setYield 3 = .ok (.aload_n 0, 1) := by decide +kernel
theorem dL_setYield_4 : decode cL_setYield 4 = .ok (.iload_n 1, 1) := by decide +kernel
theorem dL_setYield_5 : decode cL_setYield 5 = .ok (.iload_n 2, 1) := by decide +kernel
theorem dL_setYield_6 : decode cL_setYield 6 = .ok (.iload_n 3, 1) := by decide +kernel
theorem dL_setYield_7 : decode cL_setYield 7 = .ok (.iload 4, 2) := by decide +kernel
theorem dL_setYield_9 : decode cL_setYield 9 = .ok (.invokevirtual 26, 3) := by decide +kernel
theorem dL_setYield_12 : decode cL_setYield 12 = .ok (.i2l, 1) := by decide +kernel
theorem dL_setYield_13 : decode cL_setYield 13 = .ok (.lastore, 1) := by decide +kernel
theorem dL_setYield_14 : decode cL_setYield 14 = .ok (.goto 7, 3) := by decide +kernel
theorem dL_setYield_17 : decode cL_setYield 17 = .ok (.astore 6, 2) := by decide +kernel
theorem dL_setYield_19 : decode cL_setYield 19 = .ok (.iconst 1, 1) := by decide +kernel
theorem dL_setYield_20 : decode cL_setYield 20 = .ok (.ireturn, 1) := by decide +kernel
theorem dL_setYield_21 : decode cL_setYield 21 = .ok (.iconst 0, 1) := by decide +kernel
theorem dL_setYield_22 : decode cL_setYield 22 = .ok (.ireturn, 1) := by decide +kernel
theorem dL_run_0 : decode cL_run 0 = .ok (.aload_n 2, 1) := by decide +kernel
theorem dL_run_1 : decode cL_run 1 = .ok (.iconst 0, 1) := by decide +kernel
theorem dL_run_2 : decode cL_run 2 = .ok (.aload_n 0, 1) := by decide +kernel
theorem dL_run_3 : decode cL_run 3 = .ok (.iload_n 1, 1) := by decide +kernel
theorem dL_run_4 : decode cL_run 4 = .ok (.invokevirtual 30, 3) := by decide +kernel
theorem dL_run_7 : decode cL_run 7 = .ok (.i2l, 1) := by decide +kernel
theorem dL_run_8 : decode cL_run 8 = .ok (.lastore, 1) := by decide +kernel
theorem dL_run_9 : decode cL_run 9 = .ok (.goto 9, 3) := by decide +kernel
theorem dL_run_12 : decode cL_run 12 = .ok (.astore_n 3, 1) := by decide +kernel
theorem dL_run_13 : decode cL_run 13 = .ok (.iconst 1, 1) := by decide +kernel
theorem dL_run_14 : decode cL_run 14 = .ok (.ireturn, 1) := by decide +kernel
theorem dL_run_15 : decode cL_run 15 = .ok (.astore_n 3, 1) := by decide +kernel
theorem dL_run_16 : decode cL_run 16 = .ok (.iconst 2, 1) := by decide +kernel
theorem dL_run_17 : decode cL_run 17 = .ok (.ireturn, 1) := by decide +kernel
theorem dL_run_18 : decode cL_run 18 = .ok (.iconst 0, 1) := by decide +kernel
theorem dL_run_19 : decode cL_run 19 = .ok (.ireturn, 1) := by decide +kernel
theorem dL_lend_0 : decode cL_lend 0 = .ok (.aload 4, 2) := by decide +kernel
theorem dL_lend_2 : decode cL_lend 2 = .ok (.iconst 0, 1) := by decide +kernel
theorem dL_lend_3 : decode cL_lend 3 = .ok (.aload_n 0, 1) := by decide +kernel
theorem dL_lend_4 : decode cL_lend 4 = .ok (.iload_n 1, 1) := by decide +kernel
theorem dL_lend_5 : decode cL_lend 5 = .ok (.iload_n 2, 1) := by decide +kernel
theorem dL_lend_6 : decode cL_lend 6 = .ok (.iload_n 3, 1) := by decide +kernel
theorem dL_lend_7 : decode cL_lend 7 = .ok (.invokevirtual 36, 3) := by decide +kernel
theorem dL_lend_10 : decode cL_lend 10 = .ok (.i2l, 1) := by decide +kernel
theorem dL_lend_11 : decode cL_lend 11 = .ok (.lastore, 1) := by decide +kernel
theorem dL_lend_12 : decode cL_lend 12 = .ok (.goto 11, 3) := by decide +kernel
theorem dL_lend_15 : decode cL_lend 15 = .ok (.astore 5, 2) := by decide +kernel
theorem dL_lend_17 : decode cL_lend 17 = .ok (.iconst 1, 1) := by decide +kernel
theorem dL_lend_18 : decode cL_lend 18 = .ok (.ireturn, 1) := by decide +kernel
theorem dL_lend_19 : decode cL_lend 19 = .ok (.astore 5, 2) := by decide +kernel
theorem dL_lend_21 : decode cL_lend 21 = .ok (.iconst 2, 1) := by decide +kernel
theorem dL_lend_22 : decode cL_lend 22 = .ok (.ireturn, 1) := by decide +kernel
theorem dL_lend_23 : decode cL_lend 23 = .ok (.iconst 0, 1) := by decide +kernel
theorem dL_lend_24 : decode cL_lend 24 = .ok (.ireturn, 1) := by decide +kernel
theorem dL_account_0 : decode cL_account 0 = .ok (.aload_n 3, 1) := by decide +kernel
theorem dL_account_1 : decode cL_account 1 = .ok (.iconst 0, 1) := by decide +kernel
theorem dL_account_2 : decode cL_account 2 = .ok (.aload_n 0, 1) := by decide +kernel
theorem dL_account_3 : decode cL_account 3 = .ok (.iload_n 1, 1) := by decide +kernel
theorem dL_account_4 : decode cL_account 4 = .ok (.iload_n 2, 1) := by decide +kernel
theorem dL_account_5 : decode cL_account 5 = .ok (.invokevirtual 39, 3) := by decide +kernel
theorem dL_account_8 : decode cL_account 8 = .ok (.i2l, 1) := by decide +kernel
theorem dL_account_9 : decode cL_account 9 = .ok (.lastore, 1) := by decide +kernel
theorem dL_account_10 : decode cL_account 10 = .ok (.goto 7, 3) := by decide +kernel
theorem dL_account_13 : decode cL_account 13 = .ok (.astore 4, 2) := by decide +kernel
theorem dL_account_15 : decode cL_account 15 = .ok (.iconst 1, 1) := by decide +kernel
theorem dL_account_16 : decode cL_account 16 = .ok (.ireturn, 1) := by decide +kernel
theorem dL_account_17 : decode cL_account 17 = .ok (.iconst 0, 1) := by decide +kernel
theorem dL_account_18 : decode cL_account 18 = .ok (.ireturn, 1) := by decide +kernel
theorem dL_level_0 : decode cL_level 0 = .ok (.aload_n 2, 1) := by decide +kernel
theorem dL_level_1 : decode cL_level 1 = .ok (.iconst 0, 1) := by decide +kernel
theorem dL_level_2 : decode cL_level 2 = .ok (.aload_n 0, 1) := by decide +kernel
theorem dL_level_3 : decode cL_level 3 = .ok (.iload_n 1, 1) := by decide +kernel
theorem dL_level_4 : decode cL_level 4 = .ok (.invokevirtual 42, 3) := by decide +kernel
theorem dL_level_7 : decode cL_level 7 = .ok (.i2l, 1) := by decide +kernel
theorem dL_level_8 : decode cL_level 8 = .ok (.lastore, 1) := by decide +kernel
theorem dL_level_9 : decode cL_level 9 = .ok (.goto 6, 3) := by decide +kernel
theorem dL_level_12 : decode cL_level 12 = .ok (.astore_n 3, 1) := by decide +kernel
theorem dL_level_13 : decode cL_level 13 = .ok (.iconst 1, 1) := by decide +kernel
theorem dL_level_14 : decode cL_level 14 = .ok (.ireturn, 1) := by decide +kernel
theorem dL_level_15 : decode cL_level 15 = .ok (.iconst 0, 1) := by decide +kernel
theorem dL_level_16 : decode cL_level 16 = .ok (.ireturn, 1) := by decide +kernel
theorem dL_travelling_0 : decode cL_travelling 0 = .ok (.aload_n 3, 1) := by decide +kernel
theorem dL_travelling_1 : decode cL_travelling 1 = .ok (.iconst 0, 1) := by decide +kernel
theorem dL_travelling_2 : decode cL_travelling 2 = .ok (.aload_n 0, 1) := by decide +kernel
theorem dL_travelling_3 : decode cL_travelling 3 = .ok (.iload_n 1, 1) := by decide +kernel
theorem dL_travelling_4 : decode cL_travelling 4 = .ok (.iload_n 2, 1) := by decide +kernel
theorem dL_travelling_5 : decode cL_travelling 5 = .ok (.invokevirtual 45, 3) := by decide +kernel
theorem dL_travelling_8 : decode cL_travelling 8 = .ok (.i2l, 1) := by decide +kernel
theorem dL_travelling_9 : decode cL_travelling 9 = .ok (.lastore, 1) := by decide +kernel
theorem dL_travelling_10 : decode cL_travelling 10 = .ok (.goto 7, 3) := by decide +kernel
theorem dL_travelling_13 : decode cL_travelling 13 = .ok (.astore 4, 2) := by decide +kernel
theorem dL_travelling_15 : decode cL_travelling 15 = .ok (.iconst 1, 1) := by decide +kernel
theorem dL_travelling_16 : decode cL_travelling 16 = .ok (.ireturn, 1) := by decide +kernel
theorem dL_travelling_17 : decode cL_travelling 17 = .ok (.iconst 0, 1) := by decide +kernel
theorem dL_travelling_18 : decode cL_travelling 18 = .ok (.ireturn, 1) := by decide +kernel
theorem dL_arriving_0 : decode cL_arriving 0 = .ok (.aload 4, 2) := by decide +kernel
theorem dL_arriving_2 : decode cL_arriving 2 = .ok (.iconst 0, 1) := by decide +kernel
theorem dL_arriving_3 : decode cL_arriving 3 = .ok (.aload_n 0, 1) := by decide +kernel
theorem dL_arriving_4 : decode cL_arriving 4 = .ok (.iload_n 1, 1) := by decide +kernel
theorem dL_arriving_5 : decode cL_arriving 5 = .ok (.iload_n 2, 1) := by decide +kernel
theorem dL_arriving_6 : decode cL_arriving 6 = .ok (.iload_n 3, 1) := by decide +kernel
theorem dL_arriving_7 : decode cL_arriving 7 = .ok (.invokevirtual 48, 3) := by decide +kernel
theorem dL_arriving_10 : decode cL_arriving 10 = .ok (.i2l, 1) := by decide +kernel
theorem dL_arriving_11 : decode cL_arriving 11 = .ok (.lastore, 1) := by decide +kernel
theorem dL_arriving_12 : decode cL_arriving 12 = .ok (.goto 7, 3) := by decide +kernel
theorem dL_arriving_15 : decode cL_arriving 15 = .ok (.astore 5, 2) := by decide +kernel
theorem dL_arriving_17 : decode cL_arriving 17 = .ok (.iconst 1, 1) := by decide +kernel
theorem dL_arriving_18 : decode cL_arriving 18 = .ok (.ireturn, 1) := by decide +kernel
theorem dL_arriving_19 : decode cL_arriving 19 = .ok (.iconst 0, 1) := by decide +kernel
theorem dL_arriving_20 : decode cL_arriving 20 = .ok (.ireturn, 1) := by decide +kernel
theorem dL_cameIn_0 : decode cL_cameIn 0 = .ok (.aload_n 2, 1) := by decide +kernel
theorem dL_cameIn_1 : decode cL_cameIn 1 = .ok (.iconst 0, 1) := by decide +kernel
theorem dL_cameIn_2 : decode cL_cameIn 2 = .ok (.aload_n 0, 1) := by decide +kernel
theorem dL_cameIn_3 : decode cL_cameIn 3 = .ok (.iload_n 1, 1) := by decide +kernel
theorem dL_cameIn_4 : decode cL_cameIn 4 = .ok (.invokevirtual 51, 3) := by decide +kernel
theorem dL_cameIn_7 : decode cL_cameIn 7 = .ok (.i2l, 1) := by decide +kernel
theorem dL_cameIn_8 : decode cL_cameIn 8 = .ok (.lastore, 1) := by decide +kernel
theorem dL_cameIn_9 : decode cL_cameIn 9 = .ok (.goto 6, 3) := by decide +kernel
theorem dL_cameIn_12 : decode cL_cameIn 12 = .ok (.astore_n 3, 1) := by decide +kernel
theorem dL_cameIn_13 : decode cL_cameIn 13 = .ok (.iconst 1, 1) := by decide +kernel
theorem dL_cameIn_14 : decode cL_cameIn 14 = .ok (.ireturn, 1) := by decide +kernel
theorem dL_cameIn_15 : decode cL_cameIn 15 = .ok (.iconst 0, 1) := by decide +kernel
theorem dL_cameIn_16 : decode cL_cameIn 16 = .ok (.ireturn, 1) := by decide +kernel
theorem dL_gone_0 : decode cL_gone 0 = .ok (.aload_n 2, 1) := by decide +kernel
theorem dL_gone_1 : decode cL_gone 1 = .ok (.iconst 0, 1) := by decide +kernel
theorem dL_gone_2 : decode cL_gone 2 = .ok (.aload_n 0, 1) := by decide +kernel
theorem dL_gone_3 : decode cL_gone 3 = .ok (.iload_n 1, 1) := by decide +kernel
theorem dL_gone_4 : decode cL_gone 4 = .ok (.invokevirtual 54, 3) := by decide +kernel
theorem dL_gone_7 : decode cL_gone 7 = .ok (.i2l, 1) := by decide +kernel
theorem dL_gone_8 : decode cL_gone 8 = .ok (.lastore, 1) := by decide +kernel
theorem dL_gone_9 : decode cL_gone 9 = .ok (.goto 6, 3) := by decide +kernel
theorem dL_gone_12 : decode cL_gone 12 = .ok (.astore_n 3, 1) := by decide +kernel
theorem dL_gone_13 : decode cL_gone 13 = .ok (.iconst 1, 1) := by decide +kernel
theorem dL_gone_14 : decode cL_gone 14 = .ok (.ireturn, 1) := by decide +kernel
theorem dL_gone_15 : decode cL_gone 15 = .ok (.iconst 0, 1) := by decide +kernel
theorem dL_gone_16 : decode cL_gone 16 = .ok (.ireturn, 1) := by decide +kernel
theorem dL_balance_0 : decode cL_balance 0 = .ok (.aload_n 2, 1) := by decide +kernel
theorem dL_balance_1 : decode cL_balance 1 = .ok (.iconst 0, 1) := by decide +kernel
theorem dL_balance_2 : decode cL_balance 2 = .ok (.aload_n 0, 1) := by decide +kernel
theorem dL_balance_3 : decode cL_balance 3 = .ok (.iload_n 1, 1) := by decide +kernel
theorem dL_balance_4 : decode cL_balance 4 = .ok (.invokevirtual 57, 3) := by decide +kernel
theorem dL_balance_7 : decode cL_balance 7 = .ok (.i2l, 1) := by decide +kernel
theorem dL_balance_8 : decode cL_balance 8 = .ok (.lastore, 1) := by decide +kernel
theorem dL_balance_9 : decode cL_balance 9 = .ok (.goto 6, 3) := by decide +kernel
theorem dL_balance_12 : decode cL_balance 12 = .ok (.astore_n 3, 1) := by decide +kernel
theorem dL_balance_13 : decode cL_balance 13 = .ok (.iconst 1, 1) := by decide +kernel
theorem dL_balance_14 : decode cL_balance 14 = .ok (.ireturn, 1) := by decide +kernel
theorem dL_balance_15 : decode cL_balance 15 = .ok (.iconst 0, 1) := by decide +kernel
theorem dL_balance_16 : decode cL_balance 16 = .ok (.ireturn, 1) := by decide +kernel
theorem dL_spilled_0 : decode cL_spilled 0 = .ok (.aload_n 2, 1) := by decide +kernel
theorem dL_spilled_1 : decode cL_spilled 1 = .ok (.iconst 0, 1) := by decide +kernel
theorem dL_spilled_2 : decode cL_spilled 2 = .ok (.aload_n 0, 1) := by decide +kernel
theorem dL_spilled_3 : decode cL_spilled 3 = .ok (.iload_n 1, 1) := by decide +kernel
theorem dL_spilled_4 : decode cL_spilled 4 = .ok (.invokevirtual 60, 3) := by decide +kernel
theorem dL_spilled_7 : decode cL_spilled 7 = .ok (.i2l, 1) := by decide +kernel
theorem dL_spilled_8 : decode cL_spilled 8 = .ok (.lastore, 1) := by decide +kernel
theorem dL_spilled_9 : decode cL_spilled 9 = .ok (.goto 6, 3) := by decide +kernel
theorem dL_spilled_12 : decode cL_spilled 12 = .ok (.astore_n 3, 1) := by decide +kernel
theorem dL_spilled_13 : decode cL_spilled 13 = .ok (.iconst 1, 1) := by decide +kernel
theorem dL_spilled_14 : decode cL_spilled 14 = .ok (.ireturn, 1) := by decide +kernel
theorem dL_spilled_15 : decode cL_spilled 15 = .ok (.iconst 0, 1) := by decide +kernel
theorem dL_spilled_16 : decode cL_spilled 16 = .ok (.ireturn, 1) := by decide +kernel
theorem dL_missed_0 : decode cL_missed 0 = .ok (.aload_n 2, 1) := by decide +kernel
theorem dL_missed_1 : decode cL_missed 1 = .ok (.iconst 0, 1) := by decide +kernel
theorem dL_missed_2 : decode cL_missed 2 = .ok (.aload_n 0, 1) := by decide +kernel
theorem dL_missed_3 : decode cL_missed 3 = .ok (.iload_n 1, 1) := by decide +kernel
theorem dL_missed_4 : decode cL_missed 4 = .ok (.invokevirtual 63, 3) := by decide +kernel
theorem dL_missed_7 : decode cL_missed 7 = .ok (.i2l, 1) := by decide +kernel
theorem dL_missed_8 : decode cL_missed 8 = .ok (.lastore, 1) := by decide +kernel
theorem dL_missed_9 : decode cL_missed 9 = .ok (.goto 6, 3) := by decide +kernel
theorem dL_missed_12 : decode cL_missed 12 = .ok (.astore_n 3, 1) := by decide +kernel
theorem dL_missed_13 : decode cL_missed 13 = .ok (.iconst 1, 1) := by decide +kernel
theorem dL_missed_14 : decode cL_missed 14 = .ok (.ireturn, 1) := by decide +kernel
theorem dL_missed_15 : decode cL_missed 15 = .ok (.iconst 0, 1) := by decide +kernel
theorem dL_missed_16 : decode cL_missed 16 = .ok (.ireturn, 1) := by decide +kernel
theorem dL_flow_0 : decode cL_flow 0 = .ok (.aload_n 2, 1) := by decide +kernel
theorem dL_flow_1 : decode cL_flow 1 = .ok (.iconst 0, 1) := by decide +kernel
theorem dL_flow_2 : decode cL_flow 2 = .ok (.aload_n 0, 1) := by decide +kernel
theorem dL_flow_3 : decode cL_flow 3 = .ok (.iload_n 1, 1) := by decide +kernel
theorem dL_flow_4 : decode cL_flow 4 = .ok (.invokevirtual 66, 3) := by decide +kernel
theorem dL_flow_7 : decode cL_flow 7 = .ok (.i2l, 1) := by decide +kernel
theorem dL_flow_8 : decode cL_flow 8 = .ok (.lastore, 1) := by decide +kernel
theorem dL_flow_9 : decode cL_flow 9 = .ok (.goto 6, 3) := by decide +kernel
theorem dL_flow_12 : decode cL_flow 12 = .ok (.astore_n 3, 1) := by decide +kernel
theorem dL_flow_13 : decode cL_flow 13 = .ok (.iconst 1, 1) := by decide +kernel
theorem dL_flow_14 : decode cL_flow 14 = .ok (.ireturn, 1) := by decide +kernel
theorem dL_flow_15 : decode cL_flow 15 = .ok (.iconst 0, 1) := by decide +kernel
theorem dL_flow_16 : decode cL_flow 16 = .ok (.ireturn, 1) := by decide +kernel
theorem dL_energy_0 : decode cL_energy 0 = .ok (.aload_n 2, 1) := by decide +kernel
theorem dL_energy_1 : decode cL_energy 1 = .ok (.iconst 0, 1) := by decide +kernel
theorem dL_energy_2 : decode cL_energy 2 = .ok (.aload_n 0, 1) := by decide +kernel
theorem dL_energy_3 : decode cL_energy 3 = .ok (.iload_n 1, 1) := by decide +kernel
theorem dL_energy_4 : decode cL_energy 4 = .ok (.invokevirtual 69, 3) := by decide +kernel
theorem dL_energy_7 : decode cL_energy 7 = .ok (.i2l, 1) := by decide +kernel
theorem dL_energy_8 : decode cL_energy 8 = .ok (.lastore, 1) := by decide +kernel
theorem dL_energy_9 : decode cL_energy 9 = .ok (.goto 6, 3) := by decide +kernel
theorem dL_energy_12 : decode cL_energy 12 = .ok (.astore_n 3, 1) := by decide +kernel
theorem dL_energy_13 : decode cL_energy 13 = .ok (.iconst 1, 1) := by decide +kernel
theorem dL_energy_14 : decode cL_energy 14 = .ok (.ireturn, 1) := by decide +kernel
theorem dL_energy_15 : decode cL_energy 15 = .ok (.iconst 0, 1) := by decide +kernel
theorem dL_energy_16 : decode cL_energy 16 = .ok (.ireturn, 1) := by decide +kernel
theorem dL_mix_0 : decode cL_mix 0 = .ok (.aload_n 3, 1) := by decide +kernel
theorem dL_mix_1 : decode cL_mix 1 = .ok (.iconst 0, 1) := by decide +kernel
theorem dL_mix_2 : decode cL_mix 2 = .ok (.aload_n 0, 1) := by decide +kernel
theorem dL_mix_3 : decode cL_mix 3 = .ok (.iload_n 1, 1) := by decide +kernel
theorem dL_mix_4 : decode cL_mix 4 = .ok (.iload_n 2, 1) := by decide +kernel
theorem dL_mix_5 : decode cL_mix 5 = .ok (.invokevirtual 72, 3) := by decide +kernel
theorem dL_mix_8 : decode cL_mix 8 = .ok (.i2l, 1) := by decide +kernel
theorem dL_mix_9 : decode cL_mix 9 = .ok (.lastore, 1) := by decide +kernel
theorem dL_mix_10 : decode cL_mix 10 = .ok (.goto 7, 3) := by decide +kernel
theorem dL_mix_13 : decode cL_mix 13 = .ok (.astore 4, 2) := by decide +kernel
theorem dL_mix_15 : decode cL_mix 15 = .ok (.iconst 1, 1) := by decide +kernel
theorem dL_mix_16 : decode cL_mix 16 = .ok (.ireturn, 1) := by decide +kernel
theorem dL_mix_17 : decode cL_mix 17 = .ok (.iconst 0, 1) := by decide +kernel
theorem dL_mix_18 : decode cL_mix 18 = .ok (.ireturn, 1) := by decide +kernel
theorem dL_bestEnergy_0 : decode cL_bestEnergy 0 = .ok (.aload_n 2, 1) := by decide +kernel
theorem dL_bestEnergy_1 : decode cL_bestEnergy 1 = .ok (.iconst 0, 1) := by decide +kernel
theorem dL_bestEnergy_2 : decode cL_bestEnergy 2 = .ok (.aload_n 0, 1) := by decide +kernel
theorem dL_bestEnergy_3 : decode cL_bestEnergy 3 = .ok (.iload_n 1, 1) := by decide +kernel
theorem dL_bestEnergy_4 : decode cL_bestEnergy 4 = .ok (.invokevirtual 75, 3) := by decide +kernel
theorem dL_bestEnergy_7 : decode cL_bestEnergy 7 = .ok (.i2l, 1) := by decide +kernel
theorem dL_bestEnergy_8 : decode cL_bestEnergy 8 = .ok (.lastore, 1) := by decide +kernel
theorem dL_bestEnergy_9 : decode cL_bestEnergy 9 = .ok (.goto 6, 3) := by decide +kernel
theorem dL_bestEnergy_12 : decode cL_bestEnergy 12 = .ok (.astore_n 3, 1) := by decide +kernel
theorem dL_bestEnergy_13 : decode cL_bestEnergy 13 = .ok (.iconst 1, 1) := by decide +kernel
theorem dL_bestEnergy_14 : decode cL_bestEnergy 14 = .ok (.ireturn, 1) := by decide +kernel
theorem dL_bestEnergy_15 : decode cL_bestEnergy 15 = .ok (.iconst 0, 1) := by decide +kernel
theorem dL_bestEnergy_16 : decode cL_bestEnergy 16 = .ok (.ireturn, 1) := by decide +kernel
theorem dL_bestEnergyByAll_0 : decode cL_bestEnergyByAll 0 = .ok (.aload_n 2, 1) := by decide +kernel
theorem dL_bestEnergyByAll_1 : decode cL_bestEnergyByAll 1 = .ok (.iconst 0, 1) := by decide +kernel
theorem dL_bestEnergyByAll_2 : decode cL_bestEnergyByAll 2 = .ok (.aload_n 0, 1) := by decide +kernel
theorem dL_bestEnergyByAll_3 : decode cL_bestEnergyByAll 3 = .ok (.iload_n 1, 1) := by decide +kernel
theorem dL_bestEnergyByAll_4 : decode cL_bestEnergyByAll 4 = .ok (.invokevirtual 78, 3) := by decide +kernel
theorem dL_bestEnergyByAll_7 : decode cL_bestEnergyByAll 7 = .ok (.i2l, 1) := by decide +kernel
theorem dL_bestEnergyByAll_8 : decode cL_bestEnergyByAll 8 = .ok (.lastore, 1) := by decide +kernel
theorem dL_bestEnergyByAll_9 : decode cL_bestEnergyByAll 9 = .ok (.goto 6, 3) := by decide +kernel
theorem dL_bestEnergyByAll_12 : decode cL_bestEnergyByAll 12 = .ok (.astore_n 3, 1) := by decide +kernel
theorem dL_bestEnergyByAll_13 : decode cL_bestEnergyByAll 13 = .ok (.iconst 1, 1) := by decide +kernel
theorem dL_bestEnergyByAll_14 : decode cL_bestEnergyByAll 14 = .ok (.ireturn, 1) := by decide +kernel
theorem dL_bestEnergyByAll_15 : decode cL_bestEnergyByAll 15 = .ok (.iconst 0, 1) := by decide +kernel
theorem dL_bestEnergyByAll_16 : decode cL_bestEnergyByAll 16 = .ok (.ireturn, 1) := by decide +kernel
theorem dL_bestRelease_0 : decode cL_bestRelease 0 = .ok (.aload_n 2, 1) := by decide +kernel
theorem dL_bestRelease_1 : decode cL_bestRelease 1 = .ok (.iconst 0, 1) := by decide +kernel
theorem dL_bestRelease_2 : decode cL_bestRelease 2 = .ok (.aload_n 0, 1) := by decide +kernel
theorem dL_bestRelease_3 : decode cL_bestRelease 3 = .ok (.iload_n 1, 1) := by decide +kernel
theorem dL_bestRelease_4 : decode cL_bestRelease 4 = .ok (.invokevirtual 81, 3) := by decide +kernel
theorem dL_bestRelease_7 : decode cL_bestRelease 7 = .ok (.i2l, 1) := by decide +kernel
theorem dL_bestRelease_8 : decode cL_bestRelease 8 = .ok (.lastore, 1) := by decide +kernel
theorem dL_bestRelease_9 : decode cL_bestRelease 9 = .ok (.goto 6, 3) := by decide +kernel
theorem dL_bestRelease_12 : decode cL_bestRelease 12 = .ok (.astore_n 3, 1) := by decide +kernel
theorem dL_bestRelease_13 : decode cL_bestRelease 13 = .ok (.iconst 1, 1) := by decide +kernel
theorem dL_bestRelease_14 : decode cL_bestRelease 14 = .ok (.ireturn, 1) := by decide +kernel
theorem dL_bestRelease_15 : decode cL_bestRelease 15 = .ok (.iconst 0, 1) := by decide +kernel
theorem dL_bestRelease_16 : decode cL_bestRelease 16 = .ok (.ireturn, 1) := by decide +kernel
theorem dL_law_0 : decode cL_law 0 = .ok (.new 8, 3) := by decide +kernel
theorem dL_law_3 : decode cL_law 3 = .ok (.dup, 1) := by decide +kernel
theorem dL_law_4 : decode cL_law 4 = .ok (.invokespecial 84, 3) := by decide +kernel
theorem dL_law_7 : decode cL_law 7 = .ok (.astore_n 1, 1) := by decide +kernel
theorem dL_law_8 : decode cL_law 8 = .ok (.new 85, 3) := by decide +kernel
theorem dL_law_11 : decode cL_law 11 = .ok (.dup, 1) := by decide +kernel
theorem dL_law_12 : decode cL_law 12 = .ok (.invokespecial 87, 3) := by decide +kernel
theorem dL_law_15 : decode cL_law 15 = .ok (.astore_n 2, 1) := by decide +kernel
theorem dL_law_16 : decode cL_law 16 = .ok (.iconst 1, 1) := by decide +kernel
theorem dL_law_17 : decode cL_law 17 = .ok (.newarray .long, 2) := by decide +kernel
theorem dL_law_19 : decode cL_law 19 = .ok (.astore_n 3, 1) := by decide +kernel
theorem dL_law_20 : decode cL_law 20 = .ok (.iconst 0, 1) := by decide +kernel
theorem dL_law_21 : decode cL_law 21 = .ok (.istore 4, 2) := by decide +kernel
theorem dL_law_23 : decode cL_law 23 = .ok (.iload 4, 2) := by decide +kernel
theorem dL_law_25 : decode cL_law 25 = .ok (.aload_n 0, 1) := by decide +kernel
theorem dL_law_26 : decode cL_law 26 = .ok (.arraylength, 1) := by decide +kernel
theorem dL_law_27 : decode cL_law 27 = .ok (.iconst 5, 1) := by decide +kernel
theorem dL_law_28 : decode cL_law 28 = .ok (.isub, 1) := by decide +kernel
theorem dL_law_29 : decode cL_law 29 = .ok (.if_icmp .gt 1562, 3) := by decide +kernel
theorem dL_law_32 : decode cL_law 32 = .ok (.aload_n 0, 1) := by decide +kernel
theorem dL_law_33 : decode cL_law 33 = .ok (.iload 4, 2) := by decide +kernel
theorem dL_law_35 : decode cL_law 35 = .ok (.iaload, 1) := by decide +kernel
theorem dL_law_36 : decode cL_law 36 = .ok (.bipush 31, 2) := by decide +kernel
theorem dL_law_38 : decode cL_law 38 = .ok (.iand, 1) := by decide +kernel
theorem dL_law_39 : decode cL_law 39 = .ok (.tableswitch 1546 0 22 #[105, 177, 257, 325, 405, 497, 553, 566, 646, 714, 770, 838, 918, 974, 1030, 1086, 1142, 1198, 1254, 1310, 1378, 1434, 1490], 105) := by decide +kernel
theorem dL_law_144 : decode cL_law 144 = .ok (.aload_n 1, 1) := by decide +kernel
theorem dL_law_145 : decode cL_law 145 = .ok (.aload_n 0, 1) := by decide +kernel
theorem dL_law_146 : decode cL_law 146 = .ok (.iload 4, 2) := by decide +kernel
theorem dL_law_148 : decode cL_law 148 = .ok (.iconst 1, 1) := by decide +kernel
theorem dL_law_149 : decode cL_law 149 = .ok (.iadd, 1) := by decide +kernel
theorem dL_law_150 : decode cL_law 150 = .ok (.iaload, 1) := by decide +kernel
theorem dL_law_151 : decode cL_law 151 = .ok (.aload_n 0, 1) := by decide +kernel
theorem dL_law_152 : decode cL_law 152 = .ok (.iload 4, 2) := by decide +kernel
theorem dL_law_154 : decode cL_law 154 = .ok (.iconst 2, 1) := by decide +kernel
theorem dL_law_155 : decode cL_law 155 = .ok (.iadd, 1) := by decide +kernel
theorem dL_law_156 : decode cL_law 156 = .ok (.iaload, 1) := by decide +kernel
theorem dL_law_157 : decode cL_law 157 = .ok (.aload_n 0, 1) := by decide +kernel
theorem dL_law_158 : decode cL_law 158 = .ok (.iload 4, 2) := by decide +kernel
theorem dL_law_160 : decode cL_law 160 = .ok (.iconst 3, 1) := by decide +kernel
theorem dL_law_161 : decode cL_law 161 = .ok (.iadd, 1) := by decide +kernel
theorem dL_law_162 : decode cL_law 162 = .ok (.iaload, 1) := by decide +kernel
theorem dL_law_163 : decode cL_law 163 = .ok (.aload_n 0, 1) := by decide +kernel
theorem dL_law_164 : decode cL_law 164 = .ok (.iload 4, 2) := by decide +kernel
theorem dL_law_166 : decode cL_law 166 = .ok (.iconst 4, 1) := by decide +kernel
theorem dL_law_167 : decode cL_law 167 = .ok (.iadd, 1) := by decide +kernel
theorem dL_law_168 : decode cL_law 168 = .ok (.iaload, 1) := by decide +kernel
theorem dL_law_169 : decode cL_law 169 = .ok (.invokestatic 88, 3) := by decide +kernel
theorem dL_law_172 : decode cL_law 172 = .ok (.istore 5, 2) := by decide +kernel
theorem dL_law_174 : decode cL_law 174 = .ok (.aload_n 2, 1) := by decide +kernel
theorem dL_law_175 : decode cL_law 175 = .ok (.aload_n 0, 1) := by decide +kernel
theorem dL_law_176 : decode cL_law 176 = .ok (.iload 4, 2) := by decide +kernel
theorem dL_law_178 : decode cL_law 178 = .ok (.iconst 1, 1) := by decide +kernel
theorem dL_law_179 : decode cL_law 179 = .ok (.iadd, 1) := by decide +kernel
theorem dL_law_180 : decode cL_law 180 = .ok (.iaload, 1) := by decide +kernel
theorem dL_law_181 : decode cL_law 181 = .ok (.aload_n 0, 1) := by decide +kernel
theorem dL_law_182 : decode cL_law 182 = .ok (.iload 4, 2) := by decide +kernel
theorem dL_law_184 : decode cL_law 184 = .ok (.iconst 2, 1) := by decide +kernel
theorem dL_law_185 : decode cL_law 185 = .ok (.iadd, 1) := by decide +kernel
theorem dL_law_186 : decode cL_law 186 = .ok (.iaload, 1) := by decide +kernel
theorem dL_law_187 : decode cL_law 187 = .ok (.aload_n 0, 1) := by decide +kernel
theorem dL_law_188 : decode cL_law 188 = .ok (.iload 4, 2) := by decide +kernel
theorem dL_law_190 : decode cL_law 190 = .ok (.iconst 3, 1) := by decide +kernel
theorem dL_law_191 : decode cL_law 191 = .ok (.iadd, 1) := by decide +kernel
theorem dL_law_192 : decode cL_law 192 = .ok (.iaload, 1) := by decide +kernel
theorem dL_law_193 : decode cL_law 193 = .ok (.aload_n 0, 1) := by decide +kernel
theorem dL_law_194 : decode cL_law 194 = .ok (.iload 4, 2) := by decide +kernel
theorem dL_law_196 : decode cL_law 196 = .ok (.iconst 4, 1) := by decide +kernel
theorem dL_law_197 : decode cL_law 197 = .ok (.iadd, 1) := by decide +kernel
theorem dL_law_198 : decode cL_law 198 = .ok (.iaload, 1) := by decide +kernel
theorem dL_law_199 : decode cL_law 199 = .ok (.invokevirtual 93, 3) := by decide +kernel
theorem dL_law_202 : decode cL_law 202 = .ok (.aload_n 2, 1) := by decide +kernel
theorem dL_law_203 : decode cL_law 203 = .ok (.invokevirtual 94, 3) := by decide +kernel
theorem dL_law_206 : decode cL_law 206 = .ok (.iload 5, 2) := by decide +kernel
theorem dL_law_208 : decode cL_law 208 = .ok (.if_icmp .eq 5, 3) := by decide +kernel
theorem dL_law_211 : decode cL_law 211 = .ok (.iconst 0, 1) := by decide +kernel
theorem dL_law_212 : decode cL_law 212 = .ok (.ireturn, 1) := by decide +kernel
theorem dL_law_213 : decode cL_law 213 = .ok (.goto 1372, 3) := by decide +kernel
theorem dL_law_216 : decode cL_law 216 = .ok (.aload_n 1, 1) := by decide +kernel
theorem dL_law_217 : decode cL_law 217 = .ok (.aload_n 0, 1) := by decide +kernel
theorem dL_law_218 : decode cL_law 218 = .ok (.iload 4, 2) := by decide +kernel
theorem dL_law_220 : decode cL_law 220 = .ok (.iconst 1, 1) := by decide +kernel
theorem dL_law_221 : decode cL_law 221 = .ok (.iadd, 1) := by decide +kernel
theorem dL_law_222 : decode cL_law 222 = .ok (.iaload, 1) := by decide +kernel
theorem dL_law_223 : decode cL_law 223 = .ok (.aload_n 0, 1) := by decide +kernel
theorem dL_law_224 : decode cL_law 224 = .ok (.iload 4, 2) := by decide +kernel
theorem dL_law_226 : decode cL_law 226 = .ok (.iconst 2, 1) := by decide +kernel
theorem dL_law_227 : decode cL_law 227 = .ok (.iadd, 1) := by decide +kernel
theorem dL_law_228 : decode cL_law 228 = .ok (.iaload, 1) := by decide +kernel
theorem dL_law_229 : decode cL_law 229 = .ok (.aload_n 0, 1) := by decide +kernel
theorem dL_law_230 : decode cL_law 230 = .ok (.iload 4, 2) := by decide +kernel
theorem dL_law_232 : decode cL_law 232 = .ok (.iconst 3, 1) := by decide +kernel
theorem dL_law_233 : decode cL_law 233 = .ok (.iadd, 1) := by decide +kernel
theorem dL_law_234 : decode cL_law 234 = .ok (.iaload, 1) := by decide +kernel
theorem dL_law_235 : decode cL_law 235 = .ok (.aload_n 3, 1) := by decide +kernel
theorem dL_law_236 : decode cL_law 236 = .ok (.invokestatic 98, 3) := by decide +kernel
theorem dL_law_239 : decode cL_law 239 = .ok (.istore 5, 2) := by decide +kernel
theorem dL_law_241 : decode cL_law 241 = .ok (.aload_n 2, 1) := by decide +kernel
theorem dL_law_242 : decode cL_law 242 = .ok (.aload_n 0, 1) := by decide +kernel
theorem dL_law_243 : decode cL_law 243 = .ok (.iload 4, 2) := by decide +kernel
theorem dL_law_245 : decode cL_law 245 = .ok (.iconst 1, 1) := by decide +kernel
theorem dL_law_246 : decode cL_law 246 = .ok (.iadd, 1) := by decide +kernel
theorem dL_law_247 : decode cL_law 247 = .ok (.iaload, 1) := by decide +kernel
theorem dL_law_248 : decode cL_law 248 = .ok (.aload_n 0, 1) := by decide +kernel
theorem dL_law_249 : decode cL_law 249 = .ok (.iload 4, 2) := by decide +kernel
theorem dL_law_251 : decode cL_law 251 = .ok (.iconst 2, 1) := by decide +kernel
theorem dL_law_252 : decode cL_law 252 = .ok (.iadd, 1) := by decide +kernel
theorem dL_law_253 : decode cL_law 253 = .ok (.iaload, 1) := by decide +kernel
theorem dL_law_254 : decode cL_law 254 = .ok (.aload_n 0, 1) := by decide +kernel
theorem dL_law_255 : decode cL_law 255 = .ok (.iload 4, 2) := by decide +kernel
theorem dL_law_257 : decode cL_law 257 = .ok (.iconst 3, 1) := by decide +kernel
theorem dL_law_258 : decode cL_law 258 = .ok (.iadd, 1) := by decide +kernel
theorem dL_law_259 : decode cL_law 259 = .ok (.iaload, 1) := by decide +kernel
theorem dL_law_260 : decode cL_law 260 = .ok (.invokevirtual 101, 3) := by decide +kernel
theorem dL_law_263 : decode cL_law 263 = .ok (.istore 6, 2) := by decide +kernel
theorem dL_law_265 : decode cL_law 265 = .ok (.aload_n 2, 1) := by decide +kernel
theorem dL_law_266 : decode cL_law 266 = .ok (.invokevirtual 94, 3) := by decide +kernel
theorem dL_law_269 : decode cL_law 269 = .ok (.iload 5, 2) := by decide +kernel
theorem dL_law_271 : decode cL_law 271 = .ok (.if_icmp .eq 5, 3) := by decide +kernel
theorem dL_law_274 : decode cL_law 274 = .ok (.iconst 0, 1) := by decide +kernel
theorem dL_law_275 : decode cL_law 275 = .ok (.ireturn, 1) := by decide +kernel
theorem dL_law_276 : decode cL_law 276 = .ok (.iload 5, 2) := by decide +kernel
theorem dL_law_278 : decode cL_law 278 = .ok (.ifCond .ne 15, 3) := by decide +kernel
theorem dL_law_281 : decode cL_law 281 = .ok (.aload_n 3, 1) := by decide +kernel
theorem dL_law_282 : decode cL_law 282 = .ok (.iconst 0, 1) := by decide +kernel
theorem dL_law_283 : decode cL_law 283 = .ok (.laload, 1) := by decide +kernel
theorem dL_law_284 : decode cL_law 284 = .ok (.iload 6, 2) := by decide +kernel
theorem dL_law_286 : decode cL_law 286 = .ok (.i2l, 1) := by decide +kernel
theorem dL_law_287 : decode cL_law 287 = .ok (.lcmp, 1) := by decide +kernel
theorem dL_law_288 : decode cL_law 288 = .ok (.ifCond .eq 5, 3) := by decide +kernel
theorem dL_law_291 : decode cL_law 291 = .ok (.iconst 0, 1) := by decide +kernel
theorem dL_law_292 : decode cL_law 292 = .ok (.ireturn, 1) := by decide +kernel
theorem dL_law_293 : decode cL_law 293 = .ok (.goto 1292, 3) := by decide +kernel
theorem dL_law_296 : decode cL_law 296 = .ok (.aload_n 1, 1) := by decide +kernel
theorem dL_law_297 : decode cL_law 297 = .ok (.aload_n 0, 1) := by decide +kernel
theorem dL_law_298 : decode cL_law 298 = .ok (.iload 4, 2) := by decide +kernel
theorem dL_law_300 : decode cL_law 300 = .ok (.iconst 1, 1) := by decide +kernel
theorem dL_law_301 : decode cL_law 301 = .ok (.iadd, 1) := by decide +kernel
theorem dL_law_302 : decode cL_law 302 = .ok (.iaload, 1) := by decide +kernel
theorem dL_law_303 : decode cL_law 303 = .ok (.aload_n 0, 1) := by decide +kernel
theorem dL_law_304 : decode cL_law 304 = .ok (.iload 4, 2) := by decide +kernel
theorem dL_law_306 : decode cL_law 306 = .ok (.iconst 2, 1) := by decide +kernel
theorem dL_law_307 : decode cL_law 307 = .ok (.iadd, 1) := by decide +kernel
theorem dL_law_308 : decode cL_law 308 = .ok (.iaload, 1) := by decide +kernel
theorem dL_law_309 : decode cL_law 309 = .ok (.aload_n 3, 1) := by decide +kernel
theorem dL_law_310 : decode cL_law 310 = .ok (.invokestatic 102, 3) := by decide +kernel
theorem dL_law_313 : decode cL_law 313 = .ok (.istore 5, 2) := by decide +kernel
theorem dL_law_315 : decode cL_law 315 = .ok (.aload_n 2, 1) := by decide +kernel
theorem dL_law_316 : decode cL_law 316 = .ok (.aload_n 0, 1) := by decide +kernel
theorem dL_law_317 : decode cL_law 317 = .ok (.iload 4, 2) := by decide +kernel
theorem dL_law_319 : decode cL_law 319 = .ok (.iconst 1, 1) := by decide +kernel
theorem dL_law_320 : decode cL_law 320 = .ok (.iadd, 1) := by decide +kernel
theorem dL_law_321 : decode cL_law 321 = .ok (.iaload, 1) := by decide +kernel
theorem dL_law_322 : decode cL_law 322 = .ok (.aload_n 0, 1) := by decide +kernel
theorem dL_law_323 : decode cL_law 323 = .ok (.iload 4, 2) := by decide +kernel
theorem dL_law_325 : decode cL_law 325 = .ok (.iconst 2, 1) := by decide +kernel
theorem dL_law_326 : decode cL_law 326 = .ok (.iadd, 1) := by decide +kernel
theorem dL_law_327 : decode cL_law 327 = .ok (.iaload, 1) := by decide +kernel
theorem dL_law_328 : decode cL_law 328 = .ok (.invokevirtual 105, 3) := by decide +kernel
theorem dL_law_331 : decode cL_law 331 = .ok (.istore 6, 2) := by decide +kernel
theorem dL_law_333 : decode cL_law 333 = .ok (.aload_n 2, 1) := by decide +kernel
theorem dL_law_334 : decode cL_law 334 = .ok (.invokevirtual 94, 3) := by decide +kernel
theorem dL_law_337 : decode cL_law 337 = .ok (.iload 5, 2) := by decide +kernel
theorem dL_law_339 : decode cL_law 339 = .ok (.if_icmp .eq 5, 3) := by decide +kernel
theorem dL_law_342 : decode cL_law 342 = .ok (.iconst 0, 1) := by decide +kernel
theorem dL_law_343 : decode cL_law 343 = .ok (.ireturn, 1) := by decide +kernel
theorem dL_law_344 : decode cL_law 344 = .ok (.iload 5, 2) := by decide +kernel
theorem dL_law_346 : decode cL_law 346 = .ok (.ifCond .ne 15, 3) := by decide +kernel
theorem dL_law_349 : decode cL_law 349 = .ok (.aload_n 3, 1) := by decide +kernel
theorem dL_law_350 : decode cL_law 350 = .ok (.iconst 0, 1) := by decide +kernel
theorem dL_law_351 : decode cL_law 351 = .ok (.laload, 1) := by decide +kernel
theorem dL_law_352 : decode cL_law 352 = .ok (.iload 6, 2) := by decide +kernel
theorem dL_law_354 : decode cL_law 354 = .ok (.i2l, 1) := by decide +kernel
theorem dL_law_355 : decode cL_law 355 = .ok (.lcmp, 1) := by decide +kernel
theorem dL_law_356 : decode cL_law 356 = .ok (.ifCond .eq 5, 3) := by decide +kernel
theorem dL_law_359 : decode cL_law 359 = .ok (.iconst 0, 1) := by decide +kernel
theorem dL_law_360 : decode cL_law 360 = .ok (.ireturn, 1) := by decide +kernel
theorem dL_law_361 : decode cL_law 361 = .ok (.goto 1224, 3) := by decide +kernel
theorem dL_law_364 : decode cL_law 364 = .ok (.aload_n 1, 1) := by decide +kernel
theorem dL_law_365 : decode cL_law 365 = .ok (.aload_n 0, 1) := by decide +kernel
theorem dL_law_366 : decode cL_law 366 = .ok (.iload 4, 2) := by decide +kernel
theorem dL_law_368 : decode cL_law 368 = .ok (.iconst 1, 1) := by decide +kernel
theorem dL_law_369 : decode cL_law 369 = .ok (.iadd, 1) := by decide +kernel
theorem dL_law_370 : decode cL_law 370 = .ok (.iaload, 1) := by decide +kernel
theorem dL_law_371 : decode cL_law 371 = .ok (.aload_n 0, 1) := by decide +kernel
theorem dL_law_372 : decode cL_law 372 = .ok (.iload 4, 2) := by decide +kernel
theorem dL_law_374 : decode cL_law 374 = .ok (.iconst 2, 1) := by decide +kernel
theorem dL_law_375 : decode cL_law 375 = .ok (.iadd, 1) := by decide +kernel
theorem dL_law_376 : decode cL_law 376 = .ok (.iaload, 1) := by decide +kernel
theorem dL_law_377 : decode cL_law 377 = .ok (.aload_n 0, 1) := by decide +kernel
theorem dL_law_378 : decode cL_law 378 = .ok (.iload 4, 2) := by decide +kernel
theorem dL_law_380 : decode cL_law 380 = .ok (.iconst 3, 1) := by decide +kernel
theorem dL_law_381 : decode cL_law 381 = .ok (.iadd, 1) := by decide +kernel
theorem dL_law_382 : decode cL_law 382 = .ok (.iaload, 1) := by decide +kernel
theorem dL_law_383 : decode cL_law 383 = .ok (.aload_n 3, 1) := by decide +kernel
theorem dL_law_384 : decode cL_law 384 = .ok (.invokestatic 106, 3) := by decide +kernel
theorem dL_law_387 : decode cL_law 387 = .ok (.istore 5, 2) := by decide +kernel
theorem dL_law_389 : decode cL_law 389 = .ok (.aload_n 2, 1) := by decide +kernel
theorem dL_law_390 : decode cL_law 390 = .ok (.aload_n 0, 1) := by decide +kernel
theorem dL_law_391 : decode cL_law 391 = .ok (.iload 4, 2) := by decide +kernel
theorem dL_law_393 : decode cL_law 393 = .ok (.iconst 1, 1) := by decide +kernel
theorem dL_law_394 : decode cL_law 394 = .ok (.iadd, 1) := by decide +kernel
theorem dL_law_395 : decode cL_law 395 = .ok (.iaload, 1) := by decide +kernel
theorem dL_law_396 : decode cL_law 396 = .ok (.aload_n 0, 1) := by decide +kernel
theorem dL_law_397 : decode cL_law 397 = .ok (.iload 4, 2) := by decide +kernel
theorem dL_law_399 : decode cL_law 399 = .ok (.iconst 2, 1) := by decide +kernel
theorem dL_law_400 : decode cL_law 400 = .ok (.iadd, 1) := by decide +kernel
theorem dL_law_401 : decode cL_law 401 = .ok (.iaload, 1) := by decide +kernel
theorem dL_law_402 : decode cL_law 402 = .ok (.aload_n 0, 1) := by decide +kernel
theorem dL_law_403 : decode cL_law 403 = .ok (.iload 4, 2) := by decide +kernel
theorem dL_law_405 : decode cL_law 405 = .ok (.iconst 3, 1) := by decide +kernel
theorem dL_law_406 : decode cL_law 406 = .ok (.iadd, 1) := by decide +kernel
theorem dL_law_407 : decode cL_law 407 = .ok (.iaload, 1) := by decide +kernel
theorem dL_law_408 : decode cL_law 408 = .ok (.invokevirtual 108, 3) := by decide +kernel
theorem dL_law_411 : decode cL_law 411 = .ok (.istore 6, 2) := by decide +kernel
theorem dL_law_413 : decode cL_law 413 = .ok (.aload_n 2, 1) := by decide +kernel
theorem dL_law_414 : decode cL_law 414 = .ok (.invokevirtual 94, 3) := by decide +kernel
theorem dL_law_417 : decode cL_law 417 = .ok (.iload 5, 2) := by decide +kernel
theorem dL_law_419 : decode cL_law 419 = .ok (.if_icmp .eq 5, 3) := by decide +kernel
theorem dL_law_422 : decode cL_law 422 = .ok (.iconst 0, 1) := by decide +kernel
theorem dL_law_423 : decode cL_law 423 = .ok (.ireturn, 1) := by decide +kernel
theorem dL_law_424 : decode cL_law 424 = .ok (.iload 5, 2) := by decide +kernel
theorem dL_law_426 : decode cL_law 426 = .ok (.ifCond .ne 15, 3) := by decide +kernel
theorem dL_law_429 : decode cL_law 429 = .ok (.aload_n 3, 1) := by decide +kernel
theorem dL_law_430 : decode cL_law 430 = .ok (.iconst 0, 1) := by decide +kernel
theorem dL_law_431 : decode cL_law 431 = .ok (.laload, 1) := by decide +kernel
theorem dL_law_432 : decode cL_law 432 = .ok (.iload 6, 2) := by decide +kernel
theorem dL_law_434 : decode cL_law 434 = .ok (.i2l, 1) := by decide +kernel
theorem dL_law_435 : decode cL_law 435 = .ok (.lcmp, 1) := by decide +kernel
theorem dL_law_436 : decode cL_law 436 = .ok (.ifCond .eq 5, 3) := by decide +kernel
theorem dL_law_439 : decode cL_law 439 = .ok (.iconst 0, 1) := by decide +kernel
theorem dL_law_440 : decode cL_law 440 = .ok (.ireturn, 1) := by decide +kernel
theorem dL_law_441 : decode cL_law 441 = .ok (.goto 1144, 3) := by decide +kernel
theorem dL_law_444 : decode cL_law 444 = .ok (.aload_n 1, 1) := by decide +kernel
theorem dL_law_445 : decode cL_law 445 = .ok (.aload_n 0, 1) := by decide +kernel
theorem dL_law_446 : decode cL_law 446 = .ok (.iload 4, 2) := by decide +kernel
theorem dL_law_448 : decode cL_law 448 = .ok (.iconst 1, 1) := by decide +kernel
theorem dL_law_449 : decode cL_law 449 = .ok (.iadd, 1) := by decide +kernel
theorem dL_law_450 : decode cL_law 450 = .ok (.iaload, 1) := by decide +kernel
theorem dL_law_451 : decode cL_law 451 = .ok (.aload_n 0, 1) := by decide +kernel
theorem dL_law_452 : decode cL_law 452 = .ok (.iload 4, 2) := by decide +kernel
theorem dL_law_454 : decode cL_law 454 = .ok (.iconst 2, 1) := by decide +kernel
theorem dL_law_455 : decode cL_law 455 = .ok (.iadd, 1) := by decide +kernel
theorem dL_law_456 : decode cL_law 456 = .ok (.iaload, 1) := by decide +kernel
theorem dL_law_457 : decode cL_law 457 = .ok (.aload_n 0, 1) := by decide +kernel
theorem dL_law_458 : decode cL_law 458 = .ok (.iload 4, 2) := by decide +kernel
theorem dL_law_460 : decode cL_law 460 = .ok (.iconst 3, 1) := by decide +kernel
theorem dL_law_461 : decode cL_law 461 = .ok (.iadd, 1) := by decide +kernel
theorem dL_law_462 : decode cL_law 462 = .ok (.iaload, 1) := by decide +kernel
theorem dL_law_463 : decode cL_law 463 = .ok (.aload_n 0, 1) := by decide +kernel
theorem dL_law_464 : decode cL_law 464 = .ok (.iload 4, 2) := by decide +kernel
theorem dL_law_466 : decode cL_law 466 = .ok (.iconst 4, 1) := by decide +kernel
theorem dL_law_467 : decode cL_law 467 = .ok (.iadd, 1) := by decide +kernel
theorem dL_law_468 : decode cL_law 468 = .ok (.iaload, 1) := by decide +kernel
theorem dL_law_469 : decode cL_law 469 = .ok (.aload_n 3, 1) := by decide +kernel
theorem dL_law_470 : decode cL_law 470 = .ok (.invokestatic 109, 3) := by decide +kernel
theorem dL_law_473 : decode cL_law 473 = .ok (.istore 5, 2) := by decide +kernel
theorem dL_law_475 : decode cL_law 475 = .ok (.aload_n 2, 1) := by decide +kernel
theorem dL_law_476 : decode cL_law 476 = .ok (.aload_n 0, 1) := by decide +kernel
theorem dL_law_477 : decode cL_law 477 = .ok (.iload 4, 2) := by decide +kernel
theorem dL_law_479 : decode cL_law 479 = .ok (.iconst 1, 1) := by decide +kernel
theorem dL_law_480 : decode cL_law 480 = .ok (.iadd, 1) := by decide +kernel
theorem dL_law_481 : decode cL_law 481 = .ok (.iaload, 1) := by decide +kernel
theorem dL_law_482 : decode cL_law 482 = .ok (.aload_n 0, 1) := by decide +kernel
theorem dL_law_483 : decode cL_law 483 = .ok (.iload 4, 2) := by decide +kernel
theorem dL_law_485 : decode cL_law 485 = .ok (.iconst 2, 1) := by decide +kernel
theorem dL_law_486 : decode cL_law 486 = .ok (.iadd, 1) := by decide +kernel
theorem dL_law_487 : decode cL_law 487 = .ok (.iaload, 1) := by decide +kernel
theorem dL_law_488 : decode cL_law 488 = .ok (.aload_n 0, 1) := by decide +kernel
theorem dL_law_489 : decode cL_law 489 = .ok (.iload 4, 2) := by decide +kernel
theorem dL_law_491 : decode cL_law 491 = .ok (.iconst 3, 1) := by decide +kernel
theorem dL_law_492 : decode cL_law 492 = .ok (.iadd, 1) := by decide +kernel
theorem dL_law_493 : decode cL_law 493 = .ok (.iaload, 1) := by decide +kernel
theorem dL_law_494 : decode cL_law 494 = .ok (.aload_n 0, 1) := by decide +kernel
theorem dL_law_495 : decode cL_law 495 = .ok (.iload 4, 2) := by decide +kernel
theorem dL_law_497 : decode cL_law 497 = .ok (.iconst 4, 1) := by decide +kernel
theorem dL_law_498 : decode cL_law 498 = .ok (.iadd, 1) := by decide +kernel
theorem dL_law_499 : decode cL_law 499 = .ok (.iaload, 1) := by decide +kernel
theorem dL_law_500 : decode cL_law 500 = .ok (.invokevirtual 112, 3) := by decide +kernel
theorem dL_law_503 : decode cL_law 503 = .ok (.istore 6, 2) := by decide +kernel
theorem dL_law_505 : decode cL_law 505 = .ok (.aload_n 2, 1) := by decide +kernel
theorem dL_law_506 : decode cL_law 506 = .ok (.invokevirtual 94, 3) := by decide +kernel
theorem dL_law_509 : decode cL_law 509 = .ok (.iload 5, 2) := by decide +kernel
theorem dL_law_511 : decode cL_law 511 = .ok (.if_icmp .eq 5, 3) := by decide +kernel
theorem dL_law_514 : decode cL_law 514 = .ok (.iconst 0, 1) := by decide +kernel
theorem dL_law_515 : decode cL_law 515 = .ok (.ireturn, 1) := by decide +kernel
theorem dL_law_516 : decode cL_law 516 = .ok (.iload 5, 2) := by decide +kernel
theorem dL_law_518 : decode cL_law 518 = .ok (.ifCond .ne 15, 3) := by decide +kernel
theorem dL_law_521 : decode cL_law 521 = .ok (.aload_n 3, 1) := by decide +kernel
theorem dL_law_522 : decode cL_law 522 = .ok (.iconst 0, 1) := by decide +kernel
theorem dL_law_523 : decode cL_law 523 = .ok (.laload, 1) := by decide +kernel
theorem dL_law_524 : decode cL_law 524 = .ok (.iload 6, 2) := by decide +kernel
theorem dL_law_526 : decode cL_law 526 = .ok (.i2l, 1) := by decide +kernel
theorem dL_law_527 : decode cL_law 527 = .ok (.lcmp, 1) := by decide +kernel
theorem dL_law_528 : decode cL_law 528 = .ok (.ifCond .eq 5, 3) := by decide +kernel
theorem dL_law_531 : decode cL_law 531 = .ok (.iconst 0, 1) := by decide +kernel
theorem dL_law_532 : decode cL_law 532 = .ok (.ireturn, 1) := by decide +kernel
theorem dL_law_533 : decode cL_law 533 = .ok (.goto 1052, 3) := by decide +kernel
theorem dL_law_536 : decode cL_law 536 = .ok (.aload_n 1, 1) := by decide +kernel
theorem dL_law_537 : decode cL_law 537 = .ok (.aload_n 0, 1) := by decide +kernel
theorem dL_law_538 : decode cL_law 538 = .ok (.iload 4, 2) := by decide +kernel
theorem dL_law_540 : decode cL_law 540 = .ok (.iconst 1, 1) := by decide +kernel
theorem dL_law_541 : decode cL_law 541 = .ok (.iadd, 1) := by decide +kernel
theorem dL_law_542 : decode cL_law 542 = .ok (.iaload, 1) := by decide +kernel
theorem dL_law_543 : decode cL_law 543 = .ok (.aload_n 3, 1) := by decide +kernel
theorem dL_law_544 : decode cL_law 544 = .ok (.invokestatic 113, 3) := by decide +kernel
theorem dL_law_547 : decode cL_law 547 = .ok (.istore 5, 2) := by decide +kernel
theorem dL_law_549 : decode cL_law 549 = .ok (.aload_n 2, 1) := by decide +kernel
theorem dL_law_550 : decode cL_law 550 = .ok (.aload_n 0, 1) := by decide +kernel
theorem dL_law_551 : decode cL_law 551 = .ok (.iload 4, 2) := by decide +kernel
theorem dL_law_553 : decode cL_law 553 = .ok (.iconst 1, 1) := by decide +kernel
theorem dL_law_554 : decode cL_law 554 = .ok (.iadd, 1) := by decide +kernel
theorem dL_law_555 : decode cL_law 555 = .ok (.iaload, 1) := by decide +kernel
theorem dL_law_556 : decode cL_law 556 = .ok (.invokevirtual 116, 3) := by decide +kernel
theorem dL_law_559 : decode cL_law 559 = .ok (.istore 6, 2) := by decide +kernel
theorem dL_law_561 : decode cL_law 561 = .ok (.aload_n 2, 1) := by decide +kernel
theorem dL_law_562 : decode cL_law 562 = .ok (.invokevirtual 94, 3) := by decide +kernel
theorem dL_law_565 : decode cL_law 565 = .ok (.iload 5, 2) := by decide +kernel
theorem dL_law_567 : decode cL_law 567 = .ok (.if_icmp .eq 5, 3) := by decide +kernel
theorem dL_law_570 : decode cL_law 570 = .ok (.iconst 0, 1) := by decide +kernel
theorem dL_law_571 : decode cL_law 571 = .ok (.ireturn, 1) := by decide +kernel
theorem dL_law_572 : decode cL_law 572 = .ok (.iload 5, 2) := by decide +kernel
theorem dL_law_574 : decode cL_law 574 = .ok (.ifCond .ne 15, 3) := by decide +kernel
theorem dL_law_577 : decode cL_law 577 = .ok (.aload_n 3, 1) := by decide +kernel
theorem dL_law_578 : decode cL_law 578 = .ok (.iconst 0, 1) := by decide +kernel
theorem dL_law_579 : decode cL_law 579 = .ok (.laload, 1) := by decide +kernel
theorem dL_law_580 : decode cL_law 580 = .ok (.iload 6, 2) := by decide +kernel
theorem dL_law_582 : decode cL_law 582 = .ok (.i2l, 1) := by decide +kernel
theorem dL_law_583 : decode cL_law 583 = .ok (.lcmp, 1) := by decide +kernel
theorem dL_law_584 : decode cL_law 584 = .ok (.ifCond .eq 5, 3) := by decide +kernel
theorem dL_law_587 : decode cL_law 587 = .ok (.iconst 0, 1) := by decide +kernel
theorem dL_law_588 : decode cL_law 588 = .ok (.ireturn, 1) := by decide +kernel
theorem dL_law_589 : decode cL_law 589 = .ok (.goto 996, 3) := by decide +kernel
theorem dL_law_592 : decode cL_law 592 = .ok (.aload_n 1, 1) := by decide +kernel
theorem dL_law_593 : decode cL_law 593 = .ok (.invokevirtual 117, 3) := by decide +kernel
theorem dL_law_596 : decode cL_law 596 = .ok (.aload_n 2, 1) := by decide +kernel
theorem dL_law_597 : decode cL_law 597 = .ok (.invokevirtual 120, 3) := by decide +kernel
theorem dL_law_600 : decode cL_law 600 = .ok (.if_icmp .eq 985, 3) := by decide +kernel
theorem dL_law_603 : decode cL_law 603 = .ok (.iconst 0, 1) := by decide +kernel
theorem dL_law_604 : decode cL_law 604 = .ok (.ireturn, 1) := by decide +kernel
theorem dL_law_605 : decode cL_law 605 = .ok (.aload_n 1, 1) := by decide +kernel
theorem dL_law_606 : decode cL_law 606 = .ok (.aload_n 0, 1) := by decide +kernel
theorem dL_law_607 : decode cL_law 607 = .ok (.iload 4, 2) := by decide +kernel
theorem dL_law_609 : decode cL_law 609 = .ok (.iconst 1, 1) := by decide +kernel
theorem dL_law_610 : decode cL_law 610 = .ok (.iadd, 1) := by decide +kernel
theorem dL_law_611 : decode cL_law 611 = .ok (.iaload, 1) := by decide +kernel
theorem dL_law_612 : decode cL_law 612 = .ok (.aload_n 0, 1) := by decide +kernel
theorem dL_law_613 : decode cL_law 613 = .ok (.iload 4, 2) := by decide +kernel
theorem dL_law_615 : decode cL_law 615 = .ok (.iconst 2, 1) := by decide +kernel
theorem dL_law_616 : decode cL_law 616 = .ok (.iadd, 1) := by decide +kernel
theorem dL_law_617 : decode cL_law 617 = .ok (.iaload, 1) := by decide +kernel
theorem dL_law_618 : decode cL_law 618 = .ok (.aload_n 0, 1) := by decide +kernel
theorem dL_law_619 : decode cL_law 619 = .ok (.iload 4, 2) := by decide +kernel
theorem dL_law_621 : decode cL_law 621 = .ok (.iconst 3, 1) := by decide +kernel
theorem dL_law_622 : decode cL_law 622 = .ok (.iadd, 1) := by decide +kernel
theorem dL_law_623 : decode cL_law 623 = .ok (.iaload, 1) := by decide +kernel
theorem dL_law_624 : decode cL_law 624 = .ok (.aload_n 3, 1) := by decide +kernel
theorem dL_law_625 : decode cL_law 625 = .ok (.invokestatic 121, 3) := by decide +kernel
theorem dL_law_628 : decode cL_law 628 = .ok (.istore 5, 2) := by decide +kernel
theorem dL_law_630 : decode cL_law 630 = .ok (.aload_n 2, 1) := by decide +kernel
theorem dL_law_631 : decode cL_law 631 = .ok (.aload_n 0, 1) := by decide +kernel
theorem dL_law_632 : decode cL_law 632 = .ok (.iload 4, 2) := by decide +kernel
theorem dL_law_634 : decode cL_law 634 = .ok (.iconst 1, 1) := by decide +kernel
theorem dL_law_635 : decode cL_law 635 = .ok (.iadd, 1) := by decide +kernel
theorem dL_law_636 : decode cL_law 636 = .ok (.iaload, 1) := by decide +kernel
theorem dL_law_637 : decode cL_law 637 = .ok (.aload_n 0, 1) := by decide +kernel
theorem dL_law_638 : decode cL_law 638 = .ok (.iload 4, 2) := by decide +kernel
theorem dL_law_640 : decode cL_law 640 = .ok (.iconst 2, 1) := by decide +kernel
theorem dL_law_641 : decode cL_law 641 = .ok (.iadd, 1) := by decide +kernel
theorem dL_law_642 : decode cL_law 642 = .ok (.iaload, 1) := by decide +kernel
theorem dL_law_643 : decode cL_law 643 = .ok (.aload_n 0, 1) := by decide +kernel
theorem dL_law_644 : decode cL_law 644 = .ok (.iload 4, 2) := by decide +kernel
theorem dL_law_646 : decode cL_law 646 = .ok (.iconst 3, 1) := by decide +kernel
theorem dL_law_647 : decode cL_law 647 = .ok (.iadd, 1) := by decide +kernel
theorem dL_law_648 : decode cL_law 648 = .ok (.iaload, 1) := by decide +kernel
theorem dL_law_649 : decode cL_law 649 = .ok (.invokevirtual 123, 3) := by decide +kernel
theorem dL_law_652 : decode cL_law 652 = .ok (.istore 6, 2) := by decide +kernel
theorem dL_law_654 : decode cL_law 654 = .ok (.aload_n 2, 1) := by decide +kernel
theorem dL_law_655 : decode cL_law 655 = .ok (.invokevirtual 94, 3) := by decide +kernel
theorem dL_law_658 : decode cL_law 658 = .ok (.iload 5, 2) := by decide +kernel
theorem dL_law_660 : decode cL_law 660 = .ok (.if_icmp .eq 5, 3) := by decide +kernel
theorem dL_law_663 : decode cL_law 663 = .ok (.iconst 0, 1) := by decide +kernel
theorem dL_law_664 : decode cL_law 664 = .ok (.ireturn, 1) := by decide +kernel
theorem dL_law_665 : decode cL_law 665 = .ok (.iload 5, 2) := by decide +kernel
theorem dL_law_667 : decode cL_law 667 = .ok (.ifCond .ne 15, 3) := by decide +kernel
theorem dL_law_670 : decode cL_law 670 = .ok (.aload_n 3, 1) := by decide +kernel
theorem dL_law_671 : decode cL_law 671 = .ok (.iconst 0, 1) := by decide +kernel
theorem dL_law_672 : decode cL_law 672 = .ok (.laload, 1) := by decide +kernel
theorem dL_law_673 : decode cL_law 673 = .ok (.iload 6, 2) := by decide +kernel
theorem dL_law_675 : decode cL_law 675 = .ok (.i2l, 1) := by decide +kernel
theorem dL_law_676 : decode cL_law 676 = .ok (.lcmp, 1) := by decide +kernel
theorem dL_law_677 : decode cL_law 677 = .ok (.ifCond .eq 5, 3) := by decide +kernel
theorem dL_law_680 : decode cL_law 680 = .ok (.iconst 0, 1) := by decide +kernel
theorem dL_law_681 : decode cL_law 681 = .ok (.ireturn, 1) := by decide +kernel
theorem dL_law_682 : decode cL_law 682 = .ok (.goto 903, 3) := by decide +kernel
end
section
theorem dL_law_685 : decode cL_law 685 = .ok (.aload_n 1, 1) := by decide +kernel
theorem dL_law_686 : decode cL_law 686 = .ok (.aload_n 0, 1) := by decide +kernel
theorem dL_law_687 : decode cL_law 687 = .ok (.iload 4, 2) := by decide +kernel
theorem dL_law_689 : decode cL_law 689 = .ok (.iconst 1, 1) := by decide +kernel
theorem dL_law_690 : decode cL_law 690 = .ok (.iadd, 1) := by decide +kernel
theorem dL_law_691 : decode cL_law 691 = .ok (.iaload, 1) := by decide +kernel
theorem dL_law_692 : decode cL_law 692 = .ok (.aload_n 0, 1) := by decide +kernel
theorem dL_law_693 : decode cL_law 693 = .ok (.iload 4, 2) := by decide +kernel
theorem dL_law_695 : decode cL_law 695 = .ok (.iconst 2, 1) := by decide +kernel
theorem dL_law_696 : decode cL_law 696 = .ok (.iadd, 1) := by decide +kernel
theorem dL_law_697 : decode cL_law 697 = .ok (.iaload, 1) := by decide +kernel
theorem dL_law_698 : decode cL_law 698 = .ok (.aload_n 3, 1) := by decide +kernel
theorem dL_law_699 : decode cL_law 699 = .ok (.invokestatic 124, 3) := by decide +kernel
theorem dL_law_702 : decode cL_law 702 = .ok (.istore 5, 2) := by decide +kernel
theorem dL_law_704 : decode cL_law 704 = .ok (.aload_n 2, 1) := by decide +kernel
theorem dL_law_705 : decode cL_law 705 = .ok (.aload_n 0, 1) := by decide +kernel
theorem dL_law_706 : decode cL_law 706 = .ok (.iload 4, 2) := by decide +kernel
theorem dL_law_708 : decode cL_law 708 = .ok (.iconst 1, 1) := by decide +kernel
theorem dL_law_709 : decode cL_law 709 = .ok (.iadd, 1) := by decide +kernel
theorem dL_law_710 : decode cL_law 710 = .ok (.iaload, 1) := by decide +kernel
theorem dL_law_711 : decode cL_law 711 = .ok (.aload_n 0, 1) := by decide +kernel
theorem dL_law_712 : decode cL_law 712 = .ok (.iload 4, 2) := by decide +kernel
theorem dL_law_714 : decode cL_law 714 = .ok (.iconst 2, 1) := by decide +kernel
theorem dL_law_715 : decode cL_law 715 = .ok (.iadd, 1) := by decide +kernel
theorem dL_law_716 : decode cL_law 716 = .ok (.iaload, 1) := by decide +kernel
theorem dL_law_717 : decode cL_law 717 = .ok (.invokevirtual 126, 3) := by decide +kernel
theorem dL_law_720 : decode cL_law 720 = .ok (.istore 6, 2) := by decide +kernel
theorem dL_law_722 : decode cL_law 722 = .ok (.aload_n 2, 1) := by decide +kernel
theorem dL_law_723 : decode cL_law 723 = .ok (.invokevirtual 94, 3) := by decide +kernel
theorem dL_law_726 : decode cL_law 726 = .ok (.iload 5, 2) := by decide +kernel
theorem dL_law_728 : decode cL_law 728 = .ok (.if_icmp .eq 5, 3) := by decide +kernel
theorem dL_law_731 : decode cL_law 731 = .ok (.iconst 0, 1) := by decide +kernel
theorem dL_law_732 : decode cL_law 732 = .ok (.ireturn, 1) := by decide +kernel
theorem dL_law_733 : decode cL_law 733 = .ok (.iload 5, 2) := by decide +kernel
theorem dL_law_735 : decode cL_law 735 = .ok (.ifCond .ne 15, 3) := by decide +kernel
theorem dL_law_738 : decode cL_law 738 = .ok (.aload_n 3, 1) := by decide +kernel
theorem dL_law_739 : decode cL_law 739 = .ok (.iconst 0, 1) := by decide +kernel
theorem dL_law_740 : decode cL_law 740 = .ok (.laload, 1) := by decide +kernel
theorem dL_law_741 : decode cL_law 741 = .ok (.iload 6, 2) := by decide +kernel
theorem dL_law_743 : decode cL_law 743 = .ok (.i2l, 1) := by decide +kernel
theorem dL_law_744 : decode cL_law 744 = .ok (.lcmp, 1) := by decide +kernel
theorem dL_law_745 : decode cL_law 745 = .ok (.ifCond .eq 5, 3) := by decide +kernel
theorem dL_law_748 : decode cL_law 748 = .ok (.iconst 0, 1) := by decide +kernel
theorem dL_law_749 : decode cL_law 749 = .ok (.ireturn, 1) := by decide +kernel
theorem dL_law_750 : decode cL_law 750 = .ok (.goto 835, 3) := by decide +kernel
theorem dL_law_753 : decode cL_law 753 = .ok (.aload_n 1, 1) := by decide +kernel
theorem dL_law_754 : decode cL_law 754 = .ok (.aload_n 0, 1) := by decide +kernel
theorem dL_law_755 : decode cL_law 755 = .ok (.iload 4, 2) := by decide +kernel
theorem dL_law_757 : decode cL_law 757 = .ok (.iconst 1, 1) := by decide +kernel
theorem dL_law_758 : decode cL_law 758 = .ok (.iadd, 1) := by decide +kernel
theorem dL_law_759 : decode cL_law 759 = .ok (.iaload, 1) := by decide +kernel
theorem dL_law_760 : decode cL_law 760 = .ok (.aload_n 3, 1) := by decide +kernel
theorem dL_law_761 : decode cL_law 761 = .ok (.invokestatic 127, 3) := by decide +kernel
theorem dL_law_764 : decode cL_law 764 = .ok (.istore 5, 2) := by decide +kernel
theorem dL_law_766 : decode cL_law 766 = .ok (.aload_n 2, 1) := by decide +kernel
theorem dL_law_767 : decode cL_law 767 = .ok (.aload_n 0, 1) := by decide +kernel
theorem dL_law_768 : decode cL_law 768 = .ok (.iload 4, 2) := by decide +kernel
theorem dL_law_770 : decode cL_law 770 = .ok (.iconst 1, 1) := by decide +kernel
theorem dL_law_771 : decode cL_law 771 = .ok (.iadd, 1) := by decide +kernel
theorem dL_law_772 : decode cL_law 772 = .ok (.iaload, 1) := by decide +kernel
theorem dL_law_773 : decode cL_law 773 = .ok (.invokevirtual 129, 3) := by decide +kernel
theorem dL_law_776 : decode cL_law 776 = .ok (.istore 6, 2) := by decide +kernel
theorem dL_law_778 : decode cL_law 778 = .ok (.aload_n 2, 1) := by decide +kernel
theorem dL_law_779 : decode cL_law 779 = .ok (.invokevirtual 94, 3) := by decide +kernel
theorem dL_law_782 : decode cL_law 782 = .ok (.iload 5, 2) := by decide +kernel
theorem dL_law_784 : decode cL_law 784 = .ok (.if_icmp .eq 5, 3) := by decide +kernel
theorem dL_law_787 : decode cL_law 787 = .ok (.iconst 0, 1) := by decide +kernel
theorem dL_law_788 : decode cL_law 788 = .ok (.ireturn, 1) := by decide +kernel
theorem dL_law_789 : decode cL_law 789 = .ok (.iload 5, 2) := by decide +kernel
theorem dL_law_791 : decode cL_law 791 = .ok (.ifCond .ne 15, 3) := by decide +kernel
theorem dL_law_794 : decode cL_law 794 = .ok (.aload_n 3, 1) := by decide +kernel
theorem dL_law_795 : decode cL_law 795 = .ok (.iconst 0, 1) := by decide +kernel
theorem dL_law_796 : decode cL_law 796 = .ok (.laload, 1) := by decide +kernel
theorem dL_law_797 : decode cL_law 797 = .ok (.iload 6, 2) := by decide +kernel
theorem dL_law_799 : decode cL_law 799 = .ok (.i2l, 1) := by decide +kernel
theorem dL_law_800 : decode cL_law 800 = .ok (.lcmp, 1) := by decide +kernel
theorem dL_law_801 : decode cL_law 801 = .ok (.ifCond .eq 5, 3) := by decide +kernel
theorem dL_law_804 : decode cL_law 804 = .ok (.iconst 0, 1) := by decide +kernel
theorem dL_law_805 : decode cL_law 805 = .ok (.ireturn, 1) := by decide +kernel
theorem dL_law_806 : decode cL_law 806 = .ok (.goto 779, 3) := by decide +kernel
theorem dL_law_809 : decode cL_law 809 = .ok (.aload_n 1, 1) := by decide +kernel
theorem dL_law_810 : decode cL_law 810 = .ok (.aload_n 0, 1) := by decide +kernel
theorem dL_law_811 : decode cL_law 811 = .ok (.iload 4, 2) := by decide +kernel
theorem dL_law_813 : decode cL_law 813 = .ok (.iconst 1, 1) := by decide +kernel
theorem dL_law_814 : decode cL_law 814 = .ok (.iadd, 1) := by decide +kernel
theorem dL_law_815 : decode cL_law 815 = .ok (.iaload, 1) := by decide +kernel
theorem dL_law_816 : decode cL_law 816 = .ok (.aload_n 0, 1) := by decide +kernel
theorem dL_law_817 : decode cL_law 817 = .ok (.iload 4, 2) := by decide +kernel
theorem dL_law_819 : decode cL_law 819 = .ok (.iconst 2, 1) := by decide +kernel
theorem dL_law_820 : decode cL_law 820 = .ok (.iadd, 1) := by decide +kernel
theorem dL_law_821 : decode cL_law 821 = .ok (.iaload, 1) := by decide +kernel
theorem dL_law_822 : decode cL_law 822 = .ok (.aload_n 3, 1) := by decide +kernel
theorem dL_law_823 : decode cL_law 823 = .ok (.invokestatic 130, 3) := by decide +kernel
theorem dL_law_826 : decode cL_law 826 = .ok (.istore 5, 2) := by decide +kernel
theorem dL_law_828 : decode cL_law 828 = .ok (.aload_n 2, 1) := by decide +kernel
theorem dL_law_829 : decode cL_law 829 = .ok (.aload_n 0, 1) := by decide +kernel
theorem dL_law_830 : decode cL_law 830 = .ok (.iload 4, 2) := by decide +kernel
theorem dL_law_832 : decode cL_law 832 = .ok (.iconst 1, 1) := by decide +kernel
theorem dL_law_833 : decode cL_law 833 = .ok (.iadd, 1) := by decide +kernel
theorem dL_law_834 : decode cL_law 834 = .ok (.iaload, 1) := by decide +kernel
theorem dL_law_835 : decode cL_law 835 = .ok (.aload_n 0, 1) := by decide +kernel
theorem dL_law_836 : decode cL_law 836 = .ok (.iload 4, 2) := by decide +kernel
theorem dL_law_838 : decode cL_law 838 = .ok (.iconst 2, 1) := by decide +kernel
theorem dL_law_839 : decode cL_law 839 = .ok (.iadd, 1) := by decide +kernel
theorem dL_law_840 : decode cL_law 840 = .ok (.iaload, 1) := by decide +kernel
theorem dL_law_841 : decode cL_law 841 = .ok (.invokevirtual 132, 3) := by decide +kernel
theorem dL_law_844 : decode cL_law 844 = .ok (.istore 6, 2) := by decide +kernel
theorem dL_law_846 : decode cL_law 846 = .ok (.aload_n 2, 1) := by decide +kernel
theorem dL_law_847 : decode cL_law 847 = .ok (.invokevirtual 94, 3) := by decide +kernel
theorem dL_law_850 : decode cL_law 850 = .ok (.iload 5, 2) := by decide +kernel
theorem dL_law_852 : decode cL_law 852 = .ok (.if_icmp .eq 5, 3) := by decide +kernel
theorem dL_law_855 : decode cL_law 855 = .ok (.iconst 0, 1) := by decide +kernel
theorem dL_law_856 : decode cL_law 856 = .ok (.ireturn, 1) := by decide +kernel
theorem dL_law_857 : decode cL_law 857 = .ok (.iload 5, 2) := by decide +kernel
theorem dL_law_859 : decode cL_law 859 = .ok (.ifCond .ne 15, 3) := by decide +kernel
theorem dL_law_862 : decode cL_law 862 = .ok (.aload_n 3, 1) := by decide +kernel
theorem dL_law_863 : decode cL_law 863 = .ok (.iconst 0, 1) := by decide +kernel
theorem dL_law_864 : decode cL_law 864 = .ok (.laload, 1) := by decide +kernel
theorem dL_law_865 : decode cL_law 865 = .ok (.iload 6, 2) := by decide +kernel
theorem dL_law_867 : decode cL_law 867 = .ok (.i2l, 1) := by decide +kernel
theorem dL_law_868 : decode cL_law 868 = .ok (.lcmp, 1) := by decide +kernel
theorem dL_law_869 : decode cL_law 869 = .ok (.ifCond .eq 5, 3) := by decide +kernel
theorem dL_law_872 : decode cL_law 872 = .ok (.iconst 0, 1) := by decide +kernel
theorem dL_law_873 : decode cL_law 873 = .ok (.ireturn, 1) := by decide +kernel
theorem dL_law_874 : decode cL_law 874 = .ok (.goto 711, 3) := by decide +kernel
theorem dL_law_877 : decode cL_law 877 = .ok (.aload_n 1, 1) := by decide +kernel
theorem dL_law_878 : decode cL_law 878 = .ok (.aload_n 0, 1) := by decide +kernel
theorem dL_law_879 : decode cL_law 879 = .ok (.iload 4, 2) := by decide +kernel
theorem dL_law_881 : decode cL_law 881 = .ok (.iconst 1, 1) := by decide +kernel
theorem dL_law_882 : decode cL_law 882 = .ok (.iadd, 1) := by decide +kernel
theorem dL_law_883 : decode cL_law 883 = .ok (.iaload, 1) := by decide +kernel
theorem dL_law_884 : decode cL_law 884 = .ok (.aload_n 0, 1) := by decide +kernel
theorem dL_law_885 : decode cL_law 885 = .ok (.iload 4, 2) := by decide +kernel
theorem dL_law_887 : decode cL_law 887 = .ok (.iconst 2, 1) := by decide +kernel
theorem dL_law_888 : decode cL_law 888 = .ok (.iadd, 1) := by decide +kernel
theorem dL_law_889 : decode cL_law 889 = .ok (.iaload, 1) := by decide +kernel
theorem dL_law_890 : decode cL_law 890 = .ok (.aload_n 0, 1) := by decide +kernel
theorem dL_law_891 : decode cL_law 891 = .ok (.iload 4, 2) := by decide +kernel
theorem dL_law_893 : decode cL_law 893 = .ok (.iconst 3, 1) := by decide +kernel
theorem dL_law_894 : decode cL_law 894 = .ok (.iadd, 1) := by decide +kernel
theorem dL_law_895 : decode cL_law 895 = .ok (.iaload, 1) := by decide +kernel
theorem dL_law_896 : decode cL_law 896 = .ok (.aload_n 3, 1) := by decide +kernel
theorem dL_law_897 : decode cL_law 897 = .ok (.invokestatic 133, 3) := by decide +kernel
theorem dL_law_900 : decode cL_law 900 = .ok (.istore 5, 2) := by decide +kernel
theorem dL_law_902 : decode cL_law 902 = .ok (.aload_n 2, 1) := by decide +kernel
theorem dL_law_903 : decode cL_law 903 = .ok (.aload_n 0, 1) := by decide +kernel
theorem dL_law_904 : decode cL_law 904 = .ok (.iload 4, 2) := by decide +kernel
theorem dL_law_906 : decode cL_law 906 = .ok (.iconst 1, 1) := by decide +kernel
theorem dL_law_907 : decode cL_law 907 = .ok (.iadd, 1) := by decide +kernel
theorem dL_law_908 : decode cL_law 908 = .ok (.iaload, 1) := by decide +kernel
theorem dL_law_909 : decode cL_law 909 = .ok (.aload_n 0, 1) := by decide +kernel
theorem dL_law_910 : decode cL_law 910 = .ok (.iload 4, 2) := by decide +kernel
theorem dL_law_912 : decode cL_law 912 = .ok (.iconst 2, 1) := by decide +kernel
theorem dL_law_913 : decode cL_law 913 = .ok (.iadd, 1) := by decide +kernel
theorem dL_law_914 : decode cL_law 914 = .ok (.iaload, 1) := by decide +kernel
theorem dL_law_915 : decode cL_law 915 = .ok (.aload_n 0, 1) := by decide +kernel
theorem dL_law_916 : decode cL_law 916 = .ok (.iload 4, 2) := by decide +kernel
theorem dL_law_918 : decode cL_law 918 = .ok (.iconst 3, 1) := by decide +kernel
theorem dL_law_919 : decode cL_law 919 = .ok (.iadd, 1) := by decide +kernel
theorem dL_law_920 : decode cL_law 920 = .ok (.iaload, 1) := by decide +kernel
theorem dL_law_921 : decode cL_law 921 = .ok (.invokevirtual 135, 3) := by decide +kernel
theorem dL_law_924 : decode cL_law 924 = .ok (.istore 6, 2) := by decide +kernel
theorem dL_law_926 : decode cL_law 926 = .ok (.aload_n 2, 1) := by decide +kernel
theorem dL_law_927 : decode cL_law 927 = .ok (.invokevirtual 94, 3) := by decide +kernel
theorem dL_law_930 : decode cL_law 930 = .ok (.iload 5, 2) := by decide +kernel
theorem dL_law_932 : decode cL_law 932 = .ok (.if_icmp .eq 5, 3) := by decide +kernel
theorem dL_law_935 : decode cL_law 935 = .ok (.iconst 0, 1) := by decide +kernel
theorem dL_law_936 : decode cL_law 936 = .ok (.ireturn, 1) := by decide +kernel
theorem dL_law_937 : decode cL_law 937 = .ok (.iload 5, 2) := by decide +kernel
theorem dL_law_939 : decode cL_law 939 = .ok (.ifCond .ne 15, 3) := by decide +kernel
theorem dL_law_942 : decode cL_law 942 = .ok (.aload_n 3, 1) := by decide +kernel
theorem dL_law_943 : decode cL_law 943 = .ok (.iconst 0, 1) := by decide +kernel
theorem dL_law_944 : decode cL_law 944 = .ok (.laload, 1) := by decide +kernel
theorem dL_law_945 : decode cL_law 945 = .ok (.iload 6, 2) := by decide +kernel
theorem dL_law_947 : decode cL_law 947 = .ok (.i2l, 1) := by decide +kernel
theorem dL_law_948 : decode cL_law 948 = .ok (.lcmp, 1) := by decide +kernel
theorem dL_law_949 : decode cL_law 949 = .ok (.ifCond .eq 5, 3) := by decide +kernel
theorem dL_law_952 : decode cL_law 952 = .ok (.iconst 0, 1) := by decide +kernel
theorem dL_law_953 : decode cL_law 953 = .ok (.ireturn, 1) := by decide +kernel
theorem dL_law_954 : decode cL_law 954 = .ok (.goto 631, 3) := by decide +kernel
theorem dL_law_957 : decode cL_law 957 = .ok (.aload_n 1, 1) := by decide +kernel
theorem dL_law_958 : decode cL_law 958 = .ok (.aload_n 0, 1) := by decide +kernel
theorem dL_law_959 : decode cL_law 959 = .ok (.iload 4, 2) := by decide +kernel
theorem dL_law_961 : decode cL_law 961 = .ok (.iconst 1, 1) := by decide +kernel
theorem dL_law_962 : decode cL_law 962 = .ok (.iadd, 1) := by decide +kernel
theorem dL_law_963 : decode cL_law 963 = .ok (.iaload, 1) := by decide +kernel
theorem dL_law_964 : decode cL_law 964 = .ok (.aload_n 3, 1) := by decide +kernel
theorem dL_law_965 : decode cL_law 965 = .ok (.invokestatic 136, 3) := by decide +kernel
theorem dL_law_968 : decode cL_law 968 = .ok (.istore 5, 2) := by decide +kernel
theorem dL_law_970 : decode cL_law 970 = .ok (.aload_n 2, 1) := by decide +kernel
theorem dL_law_971 : decode cL_law 971 = .ok (.aload_n 0, 1) := by decide +kernel
theorem dL_law_972 : decode cL_law 972 = .ok (.iload 4, 2) := by decide +kernel
theorem dL_law_974 : decode cL_law 974 = .ok (.iconst 1, 1) := by decide +kernel
theorem dL_law_975 : decode cL_law 975 = .ok (.iadd, 1) := by decide +kernel
theorem dL_law_976 : decode cL_law 976 = .ok (.iaload, 1) := by decide +kernel
theorem dL_law_977 : decode cL_law 977 = .ok (.invokevirtual 138, 3) := by decide +kernel
theorem dL_law_980 : decode cL_law 980 = .ok (.istore 6, 2) := by decide +kernel
theorem dL_law_982 : decode cL_law 982 = .ok (.aload_n 2, 1) := by decide +kernel
theorem dL_law_983 : decode cL_law 983 = .ok (.invokevirtual 94, 3) := by decide +kernel
theorem dL_law_986 : decode cL_law 986 = .ok (.iload 5, 2) := by decide +kernel
theorem dL_law_988 : decode cL_law 988 = .ok (.if_icmp .eq 5, 3) := by decide +kernel
theorem dL_law_991 : decode cL_law 991 = .ok (.iconst 0, 1) := by decide +kernel
theorem dL_law_992 : decode cL_law 992 = .ok (.ireturn, 1) := by decide +kernel
theorem dL_law_993 : decode cL_law 993 = .ok (.iload 5, 2) := by decide +kernel
theorem dL_law_995 : decode cL_law 995 = .ok (.ifCond .ne 15, 3) := by decide +kernel
theorem dL_law_998 : decode cL_law 998 = .ok (.aload_n 3, 1) := by decide +kernel
theorem dL_law_999 : decode cL_law 999 = .ok (.iconst 0, 1) := by decide +kernel
theorem dL_law_1000 : decode cL_law 1000 = .ok (.laload, 1) := by decide +kernel
theorem dL_law_1001 : decode cL_law 1001 = .ok (.iload 6, 2) := by decide +kernel
theorem dL_law_1003 : decode cL_law 1003 = .ok (.i2l, 1) := by decide +kernel
theorem dL_law_1004 : decode cL_law 1004 = .ok (.lcmp, 1) := by decide +kernel
theorem dL_law_1005 : decode cL_law 1005 = .ok (.ifCond .eq 5, 3) := by decide +kernel
theorem dL_law_1008 : decode cL_law 1008 = .ok (.iconst 0, 1) := by decide +kernel
theorem dL_law_1009 : decode cL_law 1009 = .ok (.ireturn, 1) := by decide +kernel
theorem dL_law_1010 : decode cL_law 1010 = .ok (.goto 575, 3) := by decide +kernel
theorem dL_law_1013 : decode cL_law 1013 = .ok (.aload_n 1, 1) := by decide +kernel
theorem dL_law_1014 : decode cL_law 1014 = .ok (.aload_n 0, 1) := by decide +kernel
theorem dL_law_1015 : decode cL_law 1015 = .ok (.iload 4, 2) := by decide +kernel
theorem dL_law_1017 : decode cL_law 1017 = .ok (.iconst 1, 1) := by decide +kernel
theorem dL_law_1018 : decode cL_law 1018 = .ok (.iadd, 1) := by decide +kernel
theorem dL_law_1019 : decode cL_law 1019 = .ok (.iaload, 1) := by decide +kernel
theorem dL_law_1020 : decode cL_law 1020 = .ok (.aload_n 3, 1) := by decide +kernel
theorem dL_law_1021 : decode cL_law 1021 = .ok (.invokestatic 139, 3) := by decide +kernel
theorem dL_law_1024 : decode cL_law 1024 = .ok (.istore 5, 2) := by decide +kernel
theorem dL_law_1026 : decode cL_law 1026 = .ok (.aload_n 2, 1) := by decide +kernel
theorem dL_law_1027 : decode cL_law 1027 = .ok (.aload_n 0, 1) := by decide +kernel
theorem dL_law_1028 : decode cL_law 1028 = .ok (.iload 4, 2) := by decide +kernel
theorem dL_law_1030 : decode cL_law 1030 = .ok (.iconst 1, 1) := by decide +kernel
theorem dL_law_1031 : decode cL_law 1031 = .ok (.iadd, 1) := by decide +kernel
theorem dL_law_1032 : decode cL_law 1032 = .ok (.iaload, 1) := by decide +kernel
theorem dL_law_1033 : decode cL_law 1033 = .ok (.invokevirtual 141, 3) := by decide +kernel
theorem dL_law_1036 : decode cL_law 1036 = .ok (.istore 6, 2) := by decide +kernel
theorem dL_law_1038 : decode cL_law 1038 = .ok (.aload_n 2, 1) := by decide +kernel
theorem dL_law_1039 : decode cL_law 1039 = .ok (.invokevirtual 94, 3) := by decide +kernel
theorem dL_law_1042 : decode cL_law 1042 = .ok (.iload 5, 2) := by decide +kernel
theorem dL_law_1044 : decode cL_law 1044 = .ok (.if_icmp .eq 5, 3) := by decide +kernel
theorem dL_law_1047 : decode cL_law 1047 = .ok (.iconst 0, 1) := by decide +kernel
theorem dL_law_1048 : decode cL_law 1048 = .ok (.ireturn, 1) := by decide +kernel
theorem dL_law_1049 : decode cL_law 1049 = .ok (.iload 5, 2) := by decide +kernel
theorem dL_law_1051 : decode cL_law 1051 = .ok (.ifCond .ne 15, 3) := by decide +kernel
theorem dL_law_1054 : decode cL_law 1054 = .ok (.aload_n 3, 1) := by decide +kernel
theorem dL_law_1055 : decode cL_law 1055 = .ok (.iconst 0, 1) := by decide +kernel
theorem dL_law_1056 : decode cL_law 1056 = .ok (.laload, 1) := by decide +kernel
theorem dL_law_1057 : decode cL_law 1057 = .ok (.iload 6, 2) := by decide +kernel
theorem dL_law_1059 : decode cL_law 1059 = .ok (.i2l, 1) := by decide +kernel
theorem dL_law_1060 : decode cL_law 1060 = .ok (.lcmp, 1) := by decide +kernel
theorem dL_law_1061 : decode cL_law 1061 = .ok (.ifCond .eq 5, 3) := by decide +kernel
theorem dL_law_1064 : decode cL_law 1064 = .ok (.iconst 0, 1) := by decide +kernel
theorem dL_law_1065 : decode cL_law 1065 = .ok (.ireturn, 1) := by decide +kernel
theorem dL_law_1066 : decode cL_law 1066 = .ok (.goto 519, 3) := by decide +kernel
theorem dL_law_1069 : decode cL_law 1069 = .ok (.aload_n 1, 1) := by decide +kernel
theorem dL_law_1070 : decode cL_law 1070 = .ok (.aload_n 0, 1) := by decide +kernel
theorem dL_law_1071 : decode cL_law 1071 = .ok (.iload 4, 2) := by decide +kernel
theorem dL_law_1073 : decode cL_law 1073 = .ok (.iconst 1, 1) := by decide +kernel
theorem dL_law_1074 : decode cL_law 1074 = .ok (.iadd, 1) := by decide +kernel
theorem dL_law_1075 : decode cL_law 1075 = .ok (.iaload, 1) := by decide +kernel
theorem dL_law_1076 : decode cL_law 1076 = .ok (.aload_n 3, 1) := by decide +kernel
theorem dL_law_1077 : decode cL_law 1077 = .ok (.invokestatic 142, 3) := by decide +kernel
theorem dL_law_1080 : decode cL_law 1080 = .ok (.istore 5, 2) := by decide +kernel
theorem dL_law_1082 : decode cL_law 1082 = .ok (.aload_n 2, 1) := by decide +kernel
theorem dL_law_1083 : decode cL_law 1083 = .ok (.aload_n 0, 1) := by decide +kernel
theorem dL_law_1084 : decode cL_law 1084 = .ok (.iload 4, 2) := by decide +kernel
theorem dL_law_1086 : decode cL_law 1086 = .ok (.iconst 1, 1) := by decide +kernel
theorem dL_law_1087 : decode cL_law 1087 = .ok (.iadd, 1) := by decide +kernel
theorem dL_law_1088 : decode cL_law 1088 = .ok (.iaload, 1) := by decide +kernel
theorem dL_law_1089 : decode cL_law 1089 = .ok (.invokevirtual 144, 3) := by decide +kernel
theorem dL_law_1092 : decode cL_law 1092 = .ok (.istore 6, 2) := by decide +kernel
theorem dL_law_1094 : decode cL_law 1094 = .ok (.aload_n 2, 1) := by decide +kernel
theorem dL_law_1095 : decode cL_law 1095 = .ok (.invokevirtual 94, 3) := by decide +kernel
theorem dL_law_1098 : decode cL_law 1098 = .ok (.iload 5, 2) := by decide +kernel
theorem dL_law_1100 : decode cL_law 1100 = .ok (.if_icmp .eq 5, 3) := by decide +kernel
theorem dL_law_1103 : decode cL_law 1103 = .ok (.iconst 0, 1) := by decide +kernel
theorem dL_law_1104 : decode cL_law 1104 = .ok (.ireturn, 1) := by decide +kernel
theorem dL_law_1105 : decode cL_law 1105 = .ok (.iload 5, 2) := by decide +kernel
theorem dL_law_1107 : decode cL_law 1107 = .ok (.ifCond .ne 15, 3) := by decide +kernel
theorem dL_law_1110 : decode cL_law 1110 = .ok (.aload_n 3, 1) := by decide +kernel
theorem dL_law_1111 : decode cL_law 1111 = .ok (.iconst 0, 1) := by decide +kernel
theorem dL_law_1112 : decode cL_law 1112 = .ok (.laload, 1) := by decide +kernel
theorem dL_law_1113 : decode cL_law 1113 = .ok (.iload 6, 2) := by decide +kernel
theorem dL_law_1115 : decode cL_law 1115 = .ok (.i2l, 1) := by decide +kernel
theorem dL_law_1116 : decode cL_law 1116 = .ok (.lcmp, 1) := by decide +kernel
theorem dL_law_1117 : decode cL_law 1117 = .ok (.ifCond .eq 5, 3) := by decide +kernel
theorem dL_law_1120 : decode cL_law 1120 = .ok (.iconst 0, 1) := by decide +kernel
theorem dL_law_1121 : decode cL_law 1121 = .ok (.ireturn, 1) := by decide +kernel
theorem dL_law_1122 : decode cL_law 1122 = .ok (.goto 463, 3) := by decide +kernel
theorem dL_law_1125 : decode cL_law 1125 = .ok (.aload_n 1, 1) := by decide +kernel
theorem dL_law_1126 : decode cL_law 1126 = .ok (.aload_n 0, 1) := by decide +kernel
theorem dL_law_1127 : decode cL_law 1127 = .ok (.iload 4, 2) := by decide +kernel
theorem dL_law_1129 : decode cL_law 1129 = .ok (.iconst 1, 1) := by decide +kernel
theorem dL_law_1130 : decode cL_law 1130 = .ok (.iadd, 1) := by decide +kernel
theorem dL_law_1131 : decode cL_law 1131 = .ok (.iaload, 1) := by decide +kernel
theorem dL_law_1132 : decode cL_law 1132 = .ok (.aload_n 3, 1) := by decide +kernel
theorem dL_law_1133 : decode cL_law 1133 = .ok (.invokestatic 145, 3) := by decide +kernel
theorem dL_law_1136 : decode cL_law 1136 = .ok (.istore 5, 2) := by decide +kernel
theorem dL_law_1138 : decode cL_law 1138 = .ok (.aload_n 2, 1) := by decide +kernel
theorem dL_law_1139 : decode cL_law 1139 = .ok (.aload_n 0, 1) := by decide +kernel
theorem dL_law_1140 : decode cL_law 1140 = .ok (.iload 4, 2) := by decide +kernel
theorem dL_law_1142 : decode cL_law 1142 = .ok (.iconst 1, 1) := by decide +kernel
theorem dL_law_1143 : decode cL_law 1143 = .ok (.iadd, 1) := by decide +kernel
theorem dL_law_1144 : decode cL_law 1144 = .ok (.iaload, 1) := by decide +kernel
theorem dL_law_1145 : decode cL_law 1145 = .ok (.invokevirtual 147, 3) := by decide +kernel
theorem dL_law_1148 : decode cL_law 1148 = .ok (.istore 6, 2) := by decide +kernel
theorem dL_law_1150 : decode cL_law 1150 = .ok (.aload_n 2, 1) := by decide +kernel
theorem dL_law_1151 : decode cL_law 1151 = .ok (.invokevirtual 94, 3) := by decide +kernel
theorem dL_law_1154 : decode cL_law 1154 = .ok (.iload 5, 2) := by decide +kernel
theorem dL_law_1156 : decode cL_law 1156 = .ok (.if_icmp .eq 5, 3) := by decide +kernel
theorem dL_law_1159 : decode cL_law 1159 = .ok (.iconst 0, 1) := by decide +kernel
theorem dL_law_1160 : decode cL_law 1160 = .ok (.ireturn, 1) := by decide +kernel
theorem dL_law_1161 : decode cL_law 1161 = .ok (.iload 5, 2) := by decide +kernel
theorem dL_law_1163 : decode cL_law 1163 = .ok (.ifCond .ne 15, 3) := by decide +kernel
theorem dL_law_1166 : decode cL_law 1166 = .ok (.aload_n 3, 1) := by decide +kernel
theorem dL_law_1167 : decode cL_law 1167 = .ok (.iconst 0, 1) := by decide +kernel
theorem dL_law_1168 : decode cL_law 1168 = .ok (.laload, 1) := by decide +kernel
theorem dL_law_1169 : decode cL_law 1169 = .ok (.iload 6, 2) := by decide +kernel
theorem dL_law_1171 : decode cL_law 1171 = .ok (.i2l, 1) := by decide +kernel
theorem dL_law_1172 : decode cL_law 1172 = .ok (.lcmp, 1) := by decide +kernel
theorem dL_law_1173 : decode cL_law 1173 = .ok (.ifCond .eq 5, 3) := by decide +kernel
theorem dL_law_1176 : decode cL_law 1176 = .ok (.iconst 0, 1) := by decide +kernel
theorem dL_law_1177 : decode cL_law 1177 = .ok (.ireturn, 1) := by decide +kernel
theorem dL_law_1178 : decode cL_law 1178 = .ok (.goto 407, 3) := by decide +kernel
theorem dL_law_1181 : decode cL_law 1181 = .ok (.aload_n 1, 1) := by decide +kernel
theorem dL_law_1182 : decode cL_law 1182 = .ok (.aload_n 0, 1) := by decide +kernel
theorem dL_law_1183 : decode cL_law 1183 = .ok (.iload 4, 2) := by decide +kernel
theorem dL_law_1185 : decode cL_law 1185 = .ok (.iconst 1, 1) := by decide +kernel
theorem dL_law_1186 : decode cL_law 1186 = .ok (.iadd, 1) := by decide +kernel
theorem dL_law_1187 : decode cL_law 1187 = .ok (.iaload, 1) := by decide +kernel
theorem dL_law_1188 : decode cL_law 1188 = .ok (.aload_n 3, 1) := by decide +kernel
theorem dL_law_1189 : decode cL_law 1189 = .ok (.invokestatic 148, 3) := by decide +kernel
theorem dL_law_1192 : decode cL_law 1192 = .ok (.istore 5, 2) := by decide +kernel
theorem dL_law_1194 : decode cL_law 1194 = .ok (.aload_n 2, 1) := by decide +kernel
theorem dL_law_1195 : decode cL_law 1195 = .ok (.aload_n 0, 1) := by decide +kernel
theorem dL_law_1196 : decode cL_law 1196 = .ok (.iload 4, 2) := by decide +kernel
theorem dL_law_1198 : decode cL_law 1198 = .ok (.iconst 1, 1) := by decide +kernel
theorem dL_law_1199 : decode cL_law 1199 = .ok (.iadd, 1) := by decide +kernel
theorem dL_law_1200 : decode cL_law 1200 = .ok (.iaload, 1) := by decide +kernel
theorem dL_law_1201 : decode cL_law 1201 = .ok (.invokevirtual 150, 3) := by decide +kernel
theorem dL_law_1204 : decode cL_law 1204 = .ok (.istore 6, 2) := by decide +kernel
theorem dL_law_1206 : decode cL_law 1206 = .ok (.aload_n 2, 1) := by decide +kernel
theorem dL_law_1207 : decode cL_law 1207 = .ok (.invokevirtual 94, 3) := by decide +kernel
theorem dL_law_1210 : decode cL_law 1210 = .ok (.iload 5, 2) := by decide +kernel
theorem dL_law_1212 : decode cL_law 1212 = .ok (.if_icmp .eq 5, 3) := by decide +kernel
theorem dL_law_1215 : decode cL_law 1215 = .ok (.iconst 0, 1) := by decide +kernel
theorem dL_law_1216 : decode cL_law 1216 = .ok (.ireturn, 1) := by decide +kernel
theorem dL_law_1217 : decode cL_law 1217 = .ok (.iload 5, 2) := by decide +kernel
theorem dL_law_1219 : decode cL_law 1219 = .ok (.ifCond .ne 15, 3) := by decide +kernel
theorem dL_law_1222 : decode cL_law 1222 = .ok (.aload_n 3, 1) := by decide +kernel
theorem dL_law_1223 : decode cL_law 1223 = .ok (.iconst 0, 1) := by decide +kernel
theorem dL_law_1224 : decode cL_law 1224 = .ok (.laload, 1) := by decide +kernel
theorem dL_law_1225 : decode cL_law 1225 = .ok (.iload 6, 2) := by decide +kernel
theorem dL_law_1227 : decode cL_law 1227 = .ok (.i2l, 1) := by decide +kernel
theorem dL_law_1228 : decode cL_law 1228 = .ok (.lcmp, 1) := by decide +kernel
theorem dL_law_1229 : decode cL_law 1229 = .ok (.ifCond .eq 5, 3) := by decide +kernel
theorem dL_law_1232 : decode cL_law 1232 = .ok (.iconst 0, 1) := by decide +kernel
theorem dL_law_1233 : decode cL_law 1233 = .ok (.ireturn, 1) := by decide +kernel
theorem dL_law_1234 : decode cL_law 1234 = .ok (.goto 351, 3) := by decide +kernel
theorem dL_law_1237 : decode cL_law 1237 = .ok (.aload_n 1, 1) := by decide +kernel
theorem dL_law_1238 : decode cL_law 1238 = .ok (.aload_n 0, 1) := by decide +kernel
theorem dL_law_1239 : decode cL_law 1239 = .ok (.iload 4, 2) := by decide +kernel
theorem dL_law_1241 : decode cL_law 1241 = .ok (.iconst 1, 1) := by decide +kernel
theorem dL_law_1242 : decode cL_law 1242 = .ok (.iadd, 1) := by decide +kernel
theorem dL_law_1243 : decode cL_law 1243 = .ok (.iaload, 1) := by decide +kernel
theorem dL_law_1244 : decode cL_law 1244 = .ok (.aload_n 3, 1) := by decide +kernel
theorem dL_law_1245 : decode cL_law 1245 = .ok (.invokestatic 151, 3) := by decide +kernel
theorem dL_law_1248 : decode cL_law 1248 = .ok (.istore 5, 2) := by decide +kernel
theorem dL_law_1250 : decode cL_law 1250 = .ok (.aload_n 2, 1) := by decide +kernel
theorem dL_law_1251 : decode cL_law 1251 = .ok (.aload_n 0, 1) := by decide +kernel
theorem dL_law_1252 : decode cL_law 1252 = .ok (.iload 4, 2) := by decide +kernel
theorem dL_law_1254 : decode cL_law 1254 = .ok (.iconst 1, 1) := by decide +kernel
theorem dL_law_1255 : decode cL_law 1255 = .ok (.iadd, 1) := by decide +kernel
theorem dL_law_1256 : decode cL_law 1256 = .ok (.iaload, 1) := by decide +kernel
theorem dL_law_1257 : decode cL_law 1257 = .ok (.invokevirtual 153, 3) := by decide +kernel
theorem dL_law_1260 : decode cL_law 1260 = .ok (.istore 6, 2) := by decide +kernel
theorem dL_law_1262 : decode cL_law 1262 = .ok (.aload_n 2, 1) := by decide +kernel
theorem dL_law_1263 : decode cL_law 1263 = .ok (.invokevirtual 94, 3) := by decide +kernel
theorem dL_law_1266 : decode cL_law 1266 = .ok (.iload 5, 2) := by decide +kernel
theorem dL_law_1268 : decode cL_law 1268 = .ok (.if_icmp .eq 5, 3) := by decide +kernel
theorem dL_law_1271 : decode cL_law 1271 = .ok (.iconst 0, 1) := by decide +kernel
theorem dL_law_1272 : decode cL_law 1272 = .ok (.ireturn, 1) := by decide +kernel
theorem dL_law_1273 : decode cL_law 1273 = .ok (.iload 5, 2) := by decide +kernel
theorem dL_law_1275 : decode cL_law 1275 = .ok (.ifCond .ne 15, 3) := by decide +kernel
theorem dL_law_1278 : decode cL_law 1278 = .ok (.aload_n 3, 1) := by decide +kernel
theorem dL_law_1279 : decode cL_law 1279 = .ok (.iconst 0, 1) := by decide +kernel
theorem dL_law_1280 : decode cL_law 1280 = .ok (.laload, 1) := by decide +kernel
theorem dL_law_1281 : decode cL_law 1281 = .ok (.iload 6, 2) := by decide +kernel
theorem dL_law_1283 : decode cL_law 1283 = .ok (.i2l, 1) := by decide +kernel
theorem dL_law_1284 : decode cL_law 1284 = .ok (.lcmp, 1) := by decide +kernel
theorem dL_law_1285 : decode cL_law 1285 = .ok (.ifCond .eq 5, 3) := by decide +kernel
theorem dL_law_1288 : decode cL_law 1288 = .ok (.iconst 0, 1) := by decide +kernel
theorem dL_law_1289 : decode cL_law 1289 = .ok (.ireturn, 1) := by decide +kernel
theorem dL_law_1290 : decode cL_law 1290 = .ok (.goto 295, 3) := by decide +kernel
theorem dL_law_1293 : decode cL_law 1293 = .ok (.aload_n 1, 1) := by decide +kernel
theorem dL_law_1294 : decode cL_law 1294 = .ok (.aload_n 0, 1) := by decide +kernel
theorem dL_law_1295 : decode cL_law 1295 = .ok (.iload 4, 2) := by decide +kernel
theorem dL_law_1297 : decode cL_law 1297 = .ok (.iconst 1, 1) := by decide +kernel
theorem dL_law_1298 : decode cL_law 1298 = .ok (.iadd, 1) := by decide +kernel
theorem dL_law_1299 : decode cL_law 1299 = .ok (.iaload, 1) := by decide +kernel
theorem dL_law_1300 : decode cL_law 1300 = .ok (.aload_n 3, 1) := by decide +kernel
theorem dL_law_1301 : decode cL_law 1301 = .ok (.invokestatic 154, 3) := by decide +kernel
theorem dL_law_1304 : decode cL_law 1304 = .ok (.istore 5, 2) := by decide +kernel
theorem dL_law_1306 : decode cL_law 1306 = .ok (.aload_n 2, 1) := by decide +kernel
theorem dL_law_1307 : decode cL_law 1307 = .ok (.aload_n 0, 1) := by decide +kernel
theorem dL_law_1308 : decode cL_law 1308 = .ok (.iload 4, 2) := by decide +kernel
theorem dL_law_1310 : decode cL_law 1310 = .ok (.iconst 1, 1) := by decide +kernel
theorem dL_law_1311 : decode cL_law 1311 = .ok (.iadd, 1) := by decide +kernel
theorem dL_law_1312 : decode cL_law 1312 = .ok (.iaload, 1) := by decide +kernel
theorem dL_law_1313 : decode cL_law 1313 = .ok (.invokevirtual 156, 3) := by decide +kernel
theorem dL_law_1316 : decode cL_law 1316 = .ok (.istore 6, 2) := by decide +kernel
theorem dL_law_1318 : decode cL_law 1318 = .ok (.aload_n 2, 1) := by decide +kernel
theorem dL_law_1319 : decode cL_law 1319 = .ok (.invokevirtual 94, 3) := by decide +kernel
theorem dL_law_1322 : decode cL_law 1322 = .ok (.iload 5, 2) := by decide +kernel
theorem dL_law_1324 : decode cL_law 1324 = .ok (.if_icmp .eq 5, 3) := by decide +kernel
theorem dL_law_1327 : decode cL_law 1327 = .ok (.iconst 0, 1) := by decide +kernel
theorem dL_law_1328 : decode cL_law 1328 = .ok (.ireturn, 1) := by decide +kernel
theorem dL_law_1329 : decode cL_law 1329 = .ok (.iload 5, 2) := by decide +kernel
theorem dL_law_1331 : decode cL_law 1331 = .ok (.ifCond .ne 15, 3) := by decide +kernel
theorem dL_law_1334 : decode cL_law 1334 = .ok (.aload_n 3, 1) := by decide +kernel
theorem dL_law_1335 : decode cL_law 1335 = .ok (.iconst 0, 1) := by decide +kernel
theorem dL_law_1336 : decode cL_law 1336 = .ok (.laload, 1) := by decide +kernel
theorem dL_law_1337 : decode cL_law 1337 = .ok (.iload 6, 2) := by decide +kernel
theorem dL_law_1339 : decode cL_law 1339 = .ok (.i2l, 1) := by decide +kernel
theorem dL_law_1340 : decode cL_law 1340 = .ok (.lcmp, 1) := by decide +kernel
theorem dL_law_1341 : decode cL_law 1341 = .ok (.ifCond .eq 5, 3) := by decide +kernel
theorem dL_law_1344 : decode cL_law 1344 = .ok (.iconst 0, 1) := by decide +kernel
theorem dL_law_1345 : decode cL_law 1345 = .ok (.ireturn, 1) := by decide +kernel
theorem dL_law_1346 : decode cL_law 1346 = .ok (.goto 239, 3) := by decide +kernel
theorem dL_law_1349 : decode cL_law 1349 = .ok (.aload_n 1, 1) := by decide +kernel
theorem dL_law_1350 : decode cL_law 1350 = .ok (.aload_n 0, 1) := by decide +kernel
theorem dL_law_1351 : decode cL_law 1351 = .ok (.iload 4, 2) := by decide +kernel
theorem dL_law_1353 : decode cL_law 1353 = .ok (.iconst 1, 1) := by decide +kernel
theorem dL_law_1354 : decode cL_law 1354 = .ok (.iadd, 1) := by decide +kernel
theorem dL_law_1355 : decode cL_law 1355 = .ok (.iaload, 1) := by decide +kernel
theorem dL_law_1356 : decode cL_law 1356 = .ok (.aload_n 0, 1) := by decide +kernel
theorem dL_law_1357 : decode cL_law 1357 = .ok (.iload 4, 2) := by decide +kernel
theorem dL_law_1359 : decode cL_law 1359 = .ok (.iconst 2, 1) := by decide +kernel
theorem dL_law_1360 : decode cL_law 1360 = .ok (.iadd, 1) := by decide +kernel
theorem dL_law_1361 : decode cL_law 1361 = .ok (.iaload, 1) := by decide +kernel
theorem dL_law_1362 : decode cL_law 1362 = .ok (.aload_n 3, 1) := by decide +kernel
theorem dL_law_1363 : decode cL_law 1363 = .ok (.invokestatic 157, 3) := by decide +kernel
theorem dL_law_1366 : decode cL_law 1366 = .ok (.istore 5, 2) := by decide +kernel
theorem dL_law_1368 : decode cL_law 1368 = .ok (.aload_n 2, 1) := by decide +kernel
theorem dL_law_1369 : decode cL_law 1369 = .ok (.aload_n 0, 1) := by decide +kernel
theorem dL_law_1370 : decode cL_law 1370 = .ok (.iload 4, 2) := by decide +kernel
theorem dL_law_1372 : decode cL_law 1372 = .ok (.iconst 1, 1) := by decide +kernel
theorem dL_law_1373 : decode cL_law 1373 = .ok (.iadd, 1) := by decide +kernel
theorem dL_law_1374 : decode cL_law 1374 = .ok (.iaload, 1) := by decide +kernel
theorem dL_law_1375 : decode cL_law 1375 = .ok (.aload_n 0, 1) := by decide +kernel
theorem dL_law_1376 : decode cL_law 1376 = .ok (.iload 4, 2) := by decide +kernel
theorem dL_law_1378 : decode cL_law 1378 = .ok (.iconst 2, 1) := by decide +kernel
theorem dL_law_1379 : decode cL_law 1379 = .ok (.iadd, 1) := by decide +kernel
theorem dL_law_1380 : decode cL_law 1380 = .ok (.iaload, 1) := by decide +kernel
theorem dL_law_1381 : decode cL_law 1381 = .ok (.invokevirtual 159, 3) := by decide +kernel
theorem dL_law_1384 : decode cL_law 1384 = .ok (.istore 6, 2) := by decide +kernel
theorem dL_law_1386 : decode cL_law 1386 = .ok (.aload_n 2, 1) := by decide +kernel
theorem dL_law_1387 : decode cL_law 1387 = .ok (.invokevirtual 94, 3) := by decide +kernel
theorem dL_law_1390 : decode cL_law 1390 = .ok (.iload 5, 2) := by decide +kernel
theorem dL_law_1392 : decode cL_law 1392 = .ok (.if_icmp .eq 5, 3) := by decide +kernel
theorem dL_law_1395 : decode cL_law 1395 = .ok (.iconst 0, 1) := by decide +kernel
theorem dL_law_1396 : decode cL_law 1396 = .ok (.ireturn, 1) := by decide +kernel
theorem dL_law_1397 : decode cL_law 1397 = .ok (.iload 5, 2) := by decide +kernel
theorem dL_law_1399 : decode cL_law 1399 = .ok (.ifCond .ne 15, 3) := by decide +kernel
theorem dL_law_1402 : decode cL_law 1402 = .ok (.aload_n 3, 1) := by decide +kernel
theorem dL_law_1403 : decode cL_law 1403 = .ok (.iconst 0, 1) := by decide +kernel
theorem dL_law_1404 : decode cL_law 1404 = .ok (.laload, 1) := by decide +kernel
theorem dL_law_1405 : decode cL_law 1405 = .ok (.iload 6, 2) := by decide +kernel
theorem dL_law_1407 : decode cL_law 1407 = .ok (.i2l, 1) := by decide +kernel
theorem dL_law_1408 : decode cL_law 1408 = .ok (.lcmp, 1) := by decide +kernel
theorem dL_law_1409 : decode cL_law 1409 = .ok (.ifCond .eq 5, 3) := by decide +kernel
theorem dL_law_1412 : decode cL_law 1412 = .ok (.iconst 0, 1) := by decide +kernel
theorem dL_law_1413 : decode cL_law 1413 = .ok (.ireturn, 1) := by decide +kernel
theorem dL_law_1414 : decode cL_law 1414 = .ok (.goto 171, 3) := by decide +kernel
theorem dL_law_1417 : decode cL_law 1417 = .ok (.aload_n 1, 1) := by decide +kernel
theorem dL_law_1418 : decode cL_law 1418 = .ok (.aload_n 0, 1) := by decide +kernel
theorem dL_law_1419 : decode cL_law 1419 = .ok (.iload 4, 2) := by decide +kernel
theorem dL_law_1421 : decode cL_law 1421 = .ok (.iconst 1, 1) := by decide +kernel
theorem dL_law_1422 : decode cL_law 1422 = .ok (.iadd, 1) := by decide +kernel
theorem dL_law_1423 : decode cL_law 1423 = .ok (.iaload, 1) := by decide +kernel
theorem dL_law_1424 : decode cL_law 1424 = .ok (.aload_n 3, 1) := by decide +kernel
theorem dL_law_1425 : decode cL_law 1425 = .ok (.invokestatic 160, 3) := by decide +kernel
theorem dL_law_1428 : decode cL_law 1428 = .ok (.istore 5, 2) := by decide +kernel
theorem dL_law_1430 : decode cL_law 1430 = .ok (.aload_n 2, 1) := by decide +kernel
theorem dL_law_1431 : decode cL_law 1431 = .ok (.aload_n 0, 1) := by decide +kernel
theorem dL_law_1432 : decode cL_law 1432 = .ok (.iload 4, 2) := by decide +kernel
theorem dL_law_1434 : decode cL_law 1434 = .ok (.iconst 1, 1) := by decide +kernel
theorem dL_law_1435 : decode cL_law 1435 = .ok (.iadd, 1) := by decide +kernel
theorem dL_law_1436 : decode cL_law 1436 = .ok (.iaload, 1) := by decide +kernel
theorem dL_law_1437 : decode cL_law 1437 = .ok (.invokevirtual 162, 3) := by decide +kernel
theorem dL_law_1440 : decode cL_law 1440 = .ok (.istore 6, 2) := by decide +kernel
theorem dL_law_1442 : decode cL_law 1442 = .ok (.aload_n 2, 1) := by decide +kernel
theorem dL_law_1443 : decode cL_law 1443 = .ok (.invokevirtual 94, 3) := by decide +kernel
theorem dL_law_1446 : decode cL_law 1446 = .ok (.iload 5, 2) := by decide +kernel
theorem dL_law_1448 : decode cL_law 1448 = .ok (.if_icmp .eq 5, 3) := by decide +kernel
theorem dL_law_1451 : decode cL_law 1451 = .ok (.iconst 0, 1) := by decide +kernel
theorem dL_law_1452 : decode cL_law 1452 = .ok (.ireturn, 1) := by decide +kernel
theorem dL_law_1453 : decode cL_law 1453 = .ok (.iload 5, 2) := by decide +kernel
theorem dL_law_1455 : decode cL_law 1455 = .ok (.ifCond .ne 15, 3) := by decide +kernel
theorem dL_law_1458 : decode cL_law 1458 = .ok (.aload_n 3, 1) := by decide +kernel
theorem dL_law_1459 : decode cL_law 1459 = .ok (.iconst 0, 1) := by decide +kernel
theorem dL_law_1460 : decode cL_law 1460 = .ok (.laload, 1) := by decide +kernel
theorem dL_law_1461 : decode cL_law 1461 = .ok (.iload 6, 2) := by decide +kernel
theorem dL_law_1463 : decode cL_law 1463 = .ok (.i2l, 1) := by decide +kernel
theorem dL_law_1464 : decode cL_law 1464 = .ok (.lcmp, 1) := by decide +kernel
theorem dL_law_1465 : decode cL_law 1465 = .ok (.ifCond .eq 5, 3) := by decide +kernel
theorem dL_law_1468 : decode cL_law 1468 = .ok (.iconst 0, 1) := by decide +kernel
theorem dL_law_1469 : decode cL_law 1469 = .ok (.ireturn, 1) := by decide +kernel
theorem dL_law_1470 : decode cL_law 1470 = .ok (.goto 115, 3) := by decide +kernel
theorem dL_law_1473 : decode cL_law 1473 = .ok (.aload_n 1, 1) := by decide +kernel
theorem dL_law_1474 : decode cL_law 1474 = .ok (.aload_n 0, 1) := by decide +kernel
theorem dL_law_1475 : decode cL_law 1475 = .ok (.iload 4, 2) := by decide +kernel
theorem dL_law_1477 : decode cL_law 1477 = .ok (.iconst 1, 1) := by decide +kernel
theorem dL_law_1478 : decode cL_law 1478 = .ok (.iadd, 1) := by decide +kernel
theorem dL_law_1479 : decode cL_law 1479 = .ok (.iaload, 1) := by decide +kernel
theorem dL_law_1480 : decode cL_law 1480 = .ok (.aload_n 3, 1) := by decide +kernel
theorem dL_law_1481 : decode cL_law 1481 = .ok (.invokestatic 163, 3) := by decide +kernel
theorem dL_law_1484 : decode cL_law 1484 = .ok (.istore 5, 2) := by decide +kernel
theorem dL_law_1486 : decode cL_law 1486 = .ok (.aload_n 2, 1) := by decide +kernel
theorem dL_law_1487 : decode cL_law 1487 = .ok (.aload_n 0, 1) := by decide +kernel
theorem dL_law_1488 : decode cL_law 1488 = .ok (.iload 4, 2) := by decide +kernel
theorem dL_law_1490 : decode cL_law 1490 = .ok (.iconst 1, 1) := by decide +kernel
theorem dL_law_1491 : decode cL_law 1491 = .ok (.iadd, 1) := by decide +kernel
theorem dL_law_1492 : decode cL_law 1492 = .ok (.iaload, 1) := by decide +kernel
theorem dL_law_1493 : decode cL_law 1493 = .ok (.invokevirtual 165, 3) := by decide +kernel
theorem dL_law_1496 : decode cL_law 1496 = .ok (.istore 6, 2) := by decide +kernel
theorem dL_law_1498 : decode cL_law 1498 = .ok (.aload_n 2, 1) := by decide +kernel
theorem dL_law_1499 : decode cL_law 1499 = .ok (.invokevirtual 94, 3) := by decide +kernel
theorem dL_law_1502 : decode cL_law 1502 = .ok (.iload 5, 2) := by decide +kernel
theorem dL_law_1504 : decode cL_law 1504 = .ok (.if_icmp .eq 5, 3) := by decide +kernel
theorem dL_law_1507 : decode cL_law 1507 = .ok (.iconst 0, 1) := by decide +kernel
theorem dL_law_1508 : decode cL_law 1508 = .ok (.ireturn, 1) := by decide +kernel
theorem dL_law_1509 : decode cL_law 1509 = .ok (.iload 5, 2) := by decide +kernel
theorem dL_law_1511 : decode cL_law 1511 = .ok (.ifCond .ne 15, 3) := by decide +kernel
theorem dL_law_1514 : decode cL_law 1514 = .ok (.aload_n 3, 1) := by decide +kernel
theorem dL_law_1515 : decode cL_law 1515 = .ok (.iconst 0, 1) := by decide +kernel
theorem dL_law_1516 : decode cL_law 1516 = .ok (.laload, 1) := by decide +kernel
theorem dL_law_1517 : decode cL_law 1517 = .ok (.iload 6, 2) := by decide +kernel
theorem dL_law_1519 : decode cL_law 1519 = .ok (.i2l, 1) := by decide +kernel
theorem dL_law_1520 : decode cL_law 1520 = .ok (.lcmp, 1) := by decide +kernel
theorem dL_law_1521 : decode cL_law 1521 = .ok (.ifCond .eq 5, 3) := by decide +kernel
theorem dL_law_1524 : decode cL_law 1524 = .ok (.iconst 0, 1) := by decide +kernel
theorem dL_law_1525 : decode cL_law 1525 = .ok (.ireturn, 1) := by decide +kernel
theorem dL_law_1526 : decode cL_law 1526 = .ok (.goto 59, 3) := by decide +kernel
theorem dL_law_1529 : decode cL_law 1529 = .ok (.aload_n 1, 1) := by decide +kernel
theorem dL_law_1530 : decode cL_law 1530 = .ok (.aload_n 0, 1) := by decide +kernel
theorem dL_law_1531 : decode cL_law 1531 = .ok (.iload 4, 2) := by decide +kernel
theorem dL_law_1533 : decode cL_law 1533 = .ok (.iconst 1, 1) := by decide +kernel
theorem dL_law_1534 : decode cL_law 1534 = .ok (.iadd, 1) := by decide +kernel
theorem dL_law_1535 : decode cL_law 1535 = .ok (.iaload, 1) := by decide +kernel
theorem dL_law_1536 : decode cL_law 1536 = .ok (.aload_n 3, 1) := by decide +kernel
theorem dL_law_1537 : decode cL_law 1537 = .ok (.invokestatic 166, 3) := by decide +kernel
theorem dL_law_1540 : decode cL_law 1540 = .ok (.istore 5, 2) := by decide +kernel
theorem dL_law_1542 : decode cL_law 1542 = .ok (.aload_n 2, 1) := by decide +kernel
theorem dL_law_1543 : decode cL_law 1543 = .ok (.aload_n 0, 1) := by decide +kernel
theorem dL_law_1544 : decode cL_law 1544 = .ok (.iload 4, 2) := by decide +kernel
theorem dL_law_1546 : decode cL_law 1546 = .ok (.iconst 1, 1) := by decide +kernel
theorem dL_law_1547 : decode cL_law 1547 = .ok (.iadd, 1) := by decide +kernel
theorem dL_law_1548 : decode cL_law 1548 = .ok (.iaload, 1) := by decide +kernel
theorem dL_law_1549 : decode cL_law 1549 = .ok (.invokevirtual 168, 3) := by decide +kernel
theorem dL_law_1552 : decode cL_law 1552 = .ok (.istore 6, 2) := by decide +kernel
theorem dL_law_1554 : decode cL_law 1554 = .ok (.aload_n 2, 1) := by decide +kernel
theorem dL_law_1555 : decode cL_law 1555 = .ok (.invokevirtual 94, 3) := by decide +kernel
theorem dL_law_1558 : decode cL_law 1558 = .ok (.iload 5, 2) := by decide +kernel
theorem dL_law_1560 : decode cL_law 1560 = .ok (.if_icmp .eq 5, 3) := by decide +kernel
theorem dL_law_1563 : decode cL_law 1563 = .ok (.iconst 0, 1) := by decide +kernel
theorem dL_law_1564 : decode cL_law 1564 = .ok (.ireturn, 1) := by decide +kernel
theorem dL_law_1565 : decode cL_law 1565 = .ok (.iload 5, 2) := by decide +kernel
theorem dL_law_1567 : decode cL_law 1567 = .ok (.ifCond .ne 15, 3) := by decide +kernel
theorem dL_law_1570 : decode cL_law 1570 = .ok (.aload_n 3, 1) := by decide +kernel
theorem dL_law_1571 : decode cL_law 1571 = .ok (.iconst 0, 1) := by decide +kernel
theorem dL_law_1572 : decode cL_law 1572 = .ok (.laload, 1) := by decide +kernel
theorem dL_law_1573 : decode cL_law 1573 = .ok (.iload 6, 2) := by decide +kernel
theorem dL_law_1575 : decode cL_law 1575 = .ok (.i2l, 1) := by decide +kernel
theorem dL_law_1576 : decode cL_law 1576 = .ok (.lcmp, 1) := by decide +kernel
theorem dL_law_1577 : decode cL_law 1577 = .ok (.ifCond .eq 5, 3) := by decide +kernel
theorem dL_law_1580 : decode cL_law 1580 = .ok (.iconst 0, 1) := by decide +kernel
theorem dL_law_1581 : decode cL_law 1581 = .ok (.ireturn, 1) := by decide +kernel
theorem dL_law_1582 : decode cL_law 1582 = .ok (.goto 3, 3) := by decide +kernel
theorem dL_law_1585 : decode cL_law 1585 = .ok (.iinc 4 5, 3) := by decide +kernel
theorem dL_law_1588 : decode cL_law 1588 = .ok (.goto (-1565), 3) := by decide +kernel
theorem dL_law_1591 : decode cL_law 1591 = .ok (.iconst 1, 1) := by decide +kernel
theorem dL_law_1592 : decode cL_law 1592 = .ok (.ireturn, 1) := by decide +kernel
end
section
/-! THE WORLD BY NAMES. A cell has a name (a number); ad says where it lies. A layout: how many names there are; of each its kind and length; which names its references hold. The ints lie in a memory I, the longs in L. -/
abbrev mw_Y : Type := Nat × (Nat → Nat × Nat) × (Nat → Nat → Option Nat)
abbrev mw_I : Type := Nat → Nat → Int32
abbrev mw_L : Type := Nat → Nat → Int64
abbrev mw_cl : List vw_C := [(RX0, TX0, 16), (RX1, TX1, 7), (RX2, TX2, 20)]
def mw_isI : Nat → Nat → Bool
  | 0, j => decide (j < 6) || decide (12 ≤ j)
  | 1, j => j == 6
  | _, j => j == 10 || j == 19
def mw_nf : Nat → Nat
  | 0 => 16
  | 1 => 7
  | _ => 20
def mw_fv (ad : Nat → Nat) (t : Nat) (y : mw_Y) (I : mw_I) (k j : Nat) : Value := if mw_isI t j = true then .int (I k j) else va_rf ((y.2.2 k j).map ad)
def mw_fs (ad : Nat → Nat) (t : Nat) (y : mw_Y) (I : mw_I) (k : Nat) : List Value := (List.range (mw_nf t)).map (mw_fv ad t y I k)
def mw_en (cA : Nat → ClassId) (ad : Nat → Nat) (y : mw_Y) (I : mw_I) (L : mw_L) (k : Nat) : va_E :=
  match y.2.1 k with
  | (0, n) => .inl (cA 0, n, .inl (I k))
  | (1, n) => .inl (cA 1, n, .inr (.inl (L k)))
  | (2, n) => .inl (cA 2, n, .inr (.inr (.inr (.inr (fun j => (y.2.2 k j).map ad)))))
  | (3, n) => .inl (cA 3, n, .inr (.inr (.inr (.inr (fun j => (y.2.2 k j).map ad)))))
  | (t + 4, _) => .inr (t, mw_fs ad t y I k)
def mw_ws (cA : Nat → ClassId) (ad : Nat → Nat) (y : mw_Y) (I : mw_I) (L : mw_L) : va_W := (List.range y.1).map (fun k => (ad k, mw_en cA ad y I L k))
theorem mw_get {cA : Nat → ClassId} {ad : Nat → Nat} {y : mw_Y} {I : mw_I} {L : mw_L} {k : Nat} (h : k < y.1) : (mw_ws cA ad y I L)[k]? = some (ad k, mw_en cA ad y I L k) := by
  simp [mw_ws, List.getElem?_map, List.getElem?_range h]
theorem mw_got {cA : Nat → ClassId} {ad : Nat → Nat} {y : mw_Y} {I : mw_I} {L : mw_L} {k : Nat} {q : Nat × va_E} (h : (mw_ws cA ad y I L)[k]? = some q) : k < y.1 ∧ q = (ad k, mw_en cA ad y I L k) := by
  have hl : k < (mw_ws cA ad y I L).length := (List.getElem?_eq_some_iff.mp h).1
  have hk : k < y.1 := by simpa [mw_ws] using hl
  exact ⟨hk, Option.some.inj (h.symm.trans (mw_get hk))⟩
theorem mw_len {cA : Nat → ClassId} {ad : Nat → Nat} {y : mw_Y} {I : mw_I} {L : mw_L} : (mw_ws cA ad y I L).length = y.1 := by simp [mw_ws]
theorem mw_set {cA : Nat → ClassId} {ad : Nat → Nat} {y y' : mw_Y} {I I' : mw_I} {L L' : mw_L} {k : Nat} {e : va_E} (hk : k < y.1) (hy : y'.1 = y.1) (he : mw_en cA ad y' I' L' k = e) (ho : ∀ j, j ≠ k → mw_en cA ad y' I' L' j = mw_en cA ad y I L j) :
    (mw_ws cA ad y I L).set k (ad k, e) = mw_ws cA ad y' I' L' := by
  apply List.ext_getElem?
  intro i
  by_cases hi : i < y.1
  · by_cases hik : i = k
    · subst hik
      rw [List.getElem?_set_self (by rw [mw_len]; exact hk), mw_get (by rw [hy]; exact hi), he]
    · rw [List.getElem?_set_ne (Ne.symm hik), mw_get hi, mw_get (by rw [hy]; exact hi), ho i hik]
  · rw [List.getElem?_eq_none (by rw [List.length_set, mw_len]; omega), List.getElem?_eq_none (by rw [mw_len, hy]; omega)]
def mw_up (I : mw_I) (k j : Nat) (x : Int32) : mw_I := fun a => if a = k then upd (I k) j x else I a
def mw_upL (L : mw_L) (k j : Nat) (x : Int64) : mw_L := fun a => if a = k then vp_updL (L k) j x else L a
def mw_pr (y : mw_Y) (k j r : Nat) : mw_Y := (y.1, y.2.1, fun a => if a = k then va_up (y.2.2 k) j (some r) else y.2.2 a)
theorem mw_en_I {cA : Nat → ClassId} {ad : Nat → Nat} {y : mw_Y} {I I' : mw_I} {L L' : mw_L} {k : Nat} (h : I' k = I k) (h2 : L' k = L k) : mw_en cA ad y I' L' k = mw_en cA ad y I L k := by
  unfold mw_en
  split <;> simp [h, h2, mw_fs, mw_fv]
theorem mw_en_R {cA : Nat → ClassId} {ad : Nat → Nat} {y y' : mw_Y} {I : mw_I} {L : mw_L} {k : Nat} (h : y'.2.1 k = y.2.1 k) (h2 : y'.2.2 k = y.2.2 k) : mw_en cA ad y' I L k = mw_en cA ad y I L k := by
  unfold mw_en
  rw [h]
  split <;> simp [h2, mw_fs, mw_fv]
theorem mw_up_ne {I : mw_I} {k j a : Nat} {x : Int32} (h : a ≠ k) : mw_up I k j x a = I a := if_neg h
theorem mw_up_eq {I : mw_I} {k j : Nat} {x : Int32} : mw_up I k j x k = upd (I k) j x := if_pos rfl
theorem mw_upL_ne {I : mw_L} {k j a : Nat} {x : Int64} (h : a ≠ k) : mw_upL I k j x a = I a := if_neg h
theorem mw_upL_eq {I : mw_L} {k j : Nat} {x : Int64} : mw_upL I k j x k = vp_updL (I k) j x := if_pos rfl
theorem mw_fs_set {ad : Nat → Nat} {t : Nat} {y : mw_Y} {I : mw_I} {k j : Nat} {x : Int32} (hj : j < mw_nf t) (hi : mw_isI t j = true) : (mw_fs ad t y I k).set j (.int x) = mw_fs ad t y (mw_up I k j x) k := by
  apply List.ext_getElem?
  intro i
  unfold mw_fs
  by_cases h : i < mw_nf t
  · by_cases hij : i = j
    · subst hij
      rw [List.getElem?_set_self (by simpa using h)]
      simp [List.getElem?_range h, mw_fv, hi, mw_up, upd]
    · rw [List.getElem?_set_ne (Ne.symm hij)]
      simp [List.getElem?_range h, mw_fv, mw_up, upd, hij]
  · rw [List.getElem?_eq_none (by simpa using h), List.getElem?_eq_none (by simpa using h)]
theorem mw_fs_setR {ad : Nat → Nat} {t : Nat} {y : mw_Y} {I : mw_I} {k j r : Nat} (hj : j < mw_nf t) (hi : mw_isI t j = false) : (mw_fs ad t y I k).set j (.ref (ad r)) = mw_fs ad t (mw_pr y k j r) I k := by
  apply List.ext_getElem?
  intro i
  unfold mw_fs
  by_cases h : i < mw_nf t
  · by_cases hij : i = j
    · subst hij
      rw [List.getElem?_set_self (by simpa using h)]
      simp [List.getElem?_range h, mw_fv, hi, mw_pr, va_up, va_rf]
    · rw [List.getElem?_set_ne (Ne.symm hij)]
      simp [List.getElem?_range h, mw_fv, mw_pr, va_up, hij]
  · rw [List.getElem?_eq_none (by simpa using h), List.getElem?_eq_none (by simpa using h)]
theorem mw_fs_get {ad : Nat → Nat} {t : Nat} {y : mw_Y} {I : mw_I} {k j : Nat} (hj : j < mw_nf t) : (mw_fs ad t y I k)[j]? = some (mw_fv ad t y I k j) := by
  simp [mw_fs, List.getElem?_range hj]
theorem mw_fs_len {ad : Nat → Nat} {t : Nat} {y : mw_Y} {I : mw_I} {k : Nat} : (mw_fs ad t y I k).length = mw_nf t := by simp [mw_fs]
/-- names in the layout name cells of it -/
def mw_wf (y : mw_Y) : Prop := ∀ k j r, k < y.1 → y.2.2 k j = some r → r < y.1
theorem mw_map_ad {ad ad' : Nat → Nat} {y : mw_Y} {k j : Nat} (hw : mw_wf y) (hk : k < y.1) (h : ∀ r, r < y.1 → ad' r = ad r) : (y.2.2 k j).map ad' = (y.2.2 k j).map ad := by
  cases hr : y.2.2 k j with
  | none => rfl
  | some r => simp [h r (hw k j r hk hr)]
theorem mw_en_ad {cA : Nat → ClassId} {ad ad' : Nat → Nat} {y : mw_Y} {I : mw_I} {L : mw_L} {k : Nat} (hw : mw_wf y) (hk : k < y.1) (h : ∀ r, r < y.1 → ad' r = ad r) : mw_en cA ad' y I L k = mw_en cA ad y I L k := by
  have hm : ∀ j, (y.2.2 k j).map ad' = (y.2.2 k j).map ad := fun j => mw_map_ad hw hk h
  unfold mw_en
  split <;> simp [hm, mw_fs, mw_fv]
theorem mw_ws_ad {cA : Nat → ClassId} {ad ad' : Nat → Nat} {y : mw_Y} {I : mw_I} {L : mw_L} (hw : mw_wf y) (h : ∀ r, r < y.1 → ad' r = ad r) : mw_ws cA ad' y I L = mw_ws cA ad y I L := by
  unfold mw_ws
  apply List.map_congr_left
  intro k hk
  have hk' : k < y.1 := List.mem_range.mp hk
  rw [h k hk', mw_en_ad hw hk' h]
/-- values with names, as values of the machine -/
def mw_tr (ad : Nat → Nat) : Value → Value
  | .ref k => .ref (ad k)
  | v => v
theorem mw_tr_cat (ad : Nat → Nat) (v : Value) : (mw_tr ad v).category = v.category := by cases v <;> rfl
def mw_LR (ad : Nat → Nat) (nL : Nat) (ls : List (Option Value)) (lsC : Array Slot) : Prop := lsC.size = nL ∧ lv_wf lsC ∧ ls.length = nL ∧ ∀ (i : Nat) (v : Value), ls[i]? = some (some v) → v.category = 1 ∧ lsC[i]? = some (.val (mw_tr ad v))
def mw_prs (ad : Nat → Nat) (ls : List (Option Value)) : List (Nat × Value) := (List.range ls.length).filterMap (fun i => match ls[i]? with
  | some (some v) => some (i, mw_tr ad v)
  | _ => none)
theorem mw_prs_mem {ad : Nat → Nat} {ls : List (Option Value)} {q : Nat × Value} : q ∈ mw_prs ad ls ↔ ∃ v, ls[q.1]? = some (some v) ∧ q.2 = mw_tr ad v := by
  unfold mw_prs
  rw [List.mem_filterMap]
  constructor
  · rintro ⟨i, -, h⟩
    split at h
    next v hv => cases h; exact ⟨v, hv, rfl⟩
    next => cases h
  · rintro ⟨v, hv, h2⟩
    refine ⟨q.1, List.mem_range.mpr (List.getElem?_eq_some_iff.mp hv).1, ?_⟩
    obtain ⟨a, b⟩ := q
    simp only at hv h2 ⊢
    rw [hv, h2]
theorem mw_LR.has {ad : Nat → Nat} {nL : Nat} {ls : List (Option Value)} {lsC : Array Slot} (h : mw_LR ad nL ls lsC) : lv_has lsC nL (mw_prs ad ls) := by
  refine ⟨h.1, h.2.1, fun q hq => ?_⟩
  obtain ⟨v, h1, h2⟩ := mw_prs_mem.mp hq
  rw [h2]
  exact (h.2.2.2 q.1 v h1).2
theorem mw_LR.kept {ad : Nat → Nat} {nL : Nat} {ls : List (Option Value)} {lsC lsC' : Array Slot} (h : mw_LR ad nL ls lsC) {i : Nat} {w : Value} (h2 : lv_has lsC' nL ((i, w) :: (mw_prs ad ls).filter (fun q => !(q.1 == i) && !(q.1 + 1 == i && q.2.category == 2)))) {j : Nat} {v : Value} (hj : ls[j]? = some (some v)) (hij : j ≠ i) : v.category = 1 ∧ lsC'[j]? = some (.val (mw_tr ad v)) := by
  obtain ⟨c1, c2⟩ := h.2.2.2 j v hj
  refine ⟨c1, h2.2.2 (j, mw_tr ad v) (List.mem_cons_of_mem _ (List.mem_filter.mpr ⟨mw_prs_mem.mpr ⟨v, hj, rfl⟩, ?_⟩))⟩
  simp [hij, mw_tr_cat, c1]
theorem mw_LR.put {ad : Nat → Nat} {nL : Nat} {ls : List (Option Value)} {lsC lsC' : Array Slot} (h : mw_LR ad nL ls lsC) {i : Nat} {v : Value} (hc : v.category = 1) (h2 : lv_has lsC' nL ((i, mw_tr ad v) :: (mw_prs ad ls).filter (fun q => !(q.1 == i) && !(q.1 + 1 == i && q.2.category == 2)))) : mw_LR ad nL (ls.set i (some v)) lsC' := by
  refine ⟨h2.1, h2.2.1, by rw [List.length_set]; exact h.2.2.1, fun j w hj => ?_⟩
  by_cases hij : j = i
  · subst hij
    have hl : j < ls.length := by
      have := (List.getElem?_eq_some_iff.mp hj).1
      simpa using this
    rw [List.getElem?_set_self hl] at hj
    cases hj
    exact ⟨hc, h2.2.2 (j, mw_tr ad v) List.mem_cons_self⟩
  · rw [List.getElem?_set_ne (Ne.symm hij)] at hj
    exact h.kept h2 hj hij
theorem mw_LR.drop {ad : Nat → Nat} {nL : Nat} {ls : List (Option Value)} {lsC lsC' : Array Slot} (h : mw_LR ad nL ls lsC) {i : Nat} {w : Value} (h2 : lv_has lsC' nL ((i, w) :: (mw_prs ad ls).filter (fun q => !(q.1 == i) && !(q.1 + 1 == i && q.2.category == 2)))) : mw_LR ad nL (ls.set i none) lsC' := by
  refine ⟨h2.1, h2.2.1, by rw [List.length_set]; exact h.2.2.1, fun j v hj => ?_⟩
  by_cases hij : j = i
  · subst hij
    have hl : j < ls.length := by
      have := (List.getElem?_eq_some_iff.mp hj).1
      simpa using this
    rw [List.getElem?_set_self hl] at hj
    cases hj
  · rw [List.getElem?_set_ne (Ne.symm hij)] at hj
    exact h.kept h2 hj hij
/-- a value that names no cell of those that come -/
def mw_ok (a b : Nat) : Value → Prop
  | .ref r => r < a ∨ b ≤ r
  | _ => True
theorem mw_tr_ok {ad ad' : Nat → Nat} {a b : Nat} (h : ∀ k, (k < a ∨ b ≤ k) → ad' k = ad k) {v : Value} (hv : mw_ok a b v) : mw_tr ad' v = mw_tr ad v := by
  cases v <;> first | rfl | exact congrArg Value.ref (h _ hv)
theorem mw_LR.ad {ad ad' : Nat → Nat} {nL a b : Nat} {ls : List (Option Value)} {lsC : Array Slot} (h : mw_LR ad nL ls lsC) (ha : ∀ k, (k < a ∨ b ≤ k) → ad' k = ad k) (hl : ∀ v, some v ∈ ls → mw_ok a b v) : mw_LR ad' nL ls lsC := by
  refine ⟨h.1, h.2.1, h.2.2.1, fun i v hv => ?_⟩
  obtain ⟨c1, c2⟩ := h.2.2.2 i v hv
  exact ⟨c1, by rw [mw_tr_ok ha (hl v (List.mem_of_getElem? hv))]; exact c2⟩
theorem mw_st_ad {ad ad' : Nat → Nat} {a b : Nat} (ha : ∀ k, (k < a ∨ b ≤ k) → ad' k = ad k) : ∀ (st : List Value), (∀ v, v ∈ st → mw_ok a b v) → st.map (mw_tr ad') = st.map (mw_tr ad)
  | [], _ => rfl
  | v :: st, h => by rw [List.map_cons, List.map_cons, mw_tr_ok ha (h v List.mem_cons_self), mw_st_ad ha st (fun w hw => h w (List.mem_cons_of_mem _ hw))]
theorem mw_st_cat (ad : Nat → Nat) (st : List Value) : ((st.map (mw_tr ad)).map fun v => v.category).sum = (st.map fun v => v.category).sum := by
  congr 1
  rw [List.map_map]
  apply List.map_congr_left
  intro v _
  exact mw_tr_cat ad v
end
section
/-! THE MACHINE BY NAMES: mw_G: from here, wherever the named cells lie, the machine comes to its end. A row an instruction. -/
def mw_bg : List Cond := lw_tbl.filter goodWord
theorem mw_in {w : Cond} (h : w ∈ lw_tbl) (g : goodWord w = true) : w ∈ mw_bg := List.mem_filter.mpr ⟨h, g⟩
theorem mw_inT {w : Cond} (i : Nat) (h : tables_1[i]? = some w) (g : goodWord w = true) : w ∈ mw_bg := mw_in (List.mem_append_right _ (List.mem_of_getElem? h)) g
theorem mw_inS {w : Cond} (i : Nat) (h : (k2_sels lw_privs)[i]? = some w) (g : goodWord w = true) : w ∈ mw_bg := mw_in (List.mem_append_left _ (List.mem_of_getElem? h)) g
theorem mw_bgood {ws : List Cond} (h : ∀ w ∈ ws, w ∈ mw_bg) {y : Cond} : GoodIn (y :: mw_bg) ws := fun w hw => ⟨List.mem_cons_of_mem _ (h w hw), good_of_word (List.mem_filter.mp (h w hw)).2⟩
theorem mw_bgood' {ws : List Cond} (h : ∀ w ∈ ws, w ∈ mw_bg) : GoodIn mw_bg ws := fun w hw => ⟨h w hw, good_of_word (List.mem_filter.mp (h w hw)).2⟩
abbrev mw_X : Type := Program × Launch × Env × Room × State × MethodId × Array Value × List Frame × Method × Code × (State → Prop) × va_G × (Nat → ClassId) × (Nat → Nat) × Nat
abbrev mw_l (X : mw_X) : Launch := X.2.1
abbrev mw_meth (X : mw_X) : Method := X.2.2.2.2.2.2.2.2.1
abbrev mw_code (X : mw_X) : Code := X.2.2.2.2.2.2.2.2.2.1
def mw_AA (ad0 : Nat → Nat) (N0 sz : Nat) : Nat → Prop := fun q => (∃ k, k < N0 ∧ q = ad0 k) ∨ sz ≤ q
def mw_ty (cA : Nat → ClassId) : List (ClassId × FieldType) := [(cA 0, .int), (cA 1, .long), (cA 2, .object RX0), (cA 3, .array .int)]
def mw_Rl (D : va_G) (cA : Nat → ClassId) (ad0 : Nat → Nat) (N0 : Nat) (s : State) (ad : Nat → Nat) (y : mw_Y) (I : mw_I) (L : mw_L) (H : Heap) (locs : List Loc) : Prop :=
  N0 ≤ y.1 ∧ (∀ k, (k < N0 ∨ y.1 ≤ k) → ad k = ad0 k) ∧ mw_wf y ∧ va_P D mw_cl (mw_ws cA ad y I L) H ∧ va_D (mw_AA ad0 N0 s.heap.size) (mw_ws cA ad y I L) ∧ va_S (mw_AA ad0 N0 s.heap.size) s.heap H locs
def mw_G (X : mw_X) (pc : Nat) (ls : List (Option Value)) (st : List Value) (y : mw_Y) (I : mw_I) (L : mw_L) (n k : Nat) : Prop :=
  match X with
  | (p, l, e, R, s, m, args, below, meth, c, Q, D, cA, ad0, N0) => ∀ (ad : Nat → Nat) (H : Heap) (locs : List Loc) (lsC : Array Slot), mw_Rl D cA ad0 N0 s ad y I L H locs → mw_LR ad c.maxLocals ls lsC → W p l e R s m args below meth c H locs n k Q (F0 m pc lsC (st.map (mw_tr ad)))
abbrev mw_IAE : String := "java/lang/IllegalArgumentException"
abbrev mw_ISE : String := "java/lang/IllegalStateException"
abbrev mw_dR : MethodName := ⟨"java/lang/RuntimeException", "<init>", "(Ljava/lang/String;)V"⟩
abbrev mw_dE : MethodName := ⟨"java/lang/Exception", "<init>", "(Ljava/lang/String;)V"⟩
abbrev mw_dT : MethodName := ⟨"java/lang/Throwable", "<init>", "(Ljava/lang/String;)V"⟩
/-- what a throw and a new array ask of the state beside the words -/
def mw_ZZ (A : Nat → Prop) (U : State) : Prop :=
  vx_Zq Bundle.tN "UNASSIGNED_STACK" Bundle.steD A U U.heap ∧ vx_Zq Bundle.tN "SUPPRESSED_SENTINEL" Bundle.listD A U U.heap ∧ (∃ sa, vk_R RX1 137 "out of range" sa U) ∧ (∃ sa, vk_R RX1 77 "more than 200 hours" sa U) ∧ (∃ sa, vk_R RX1 88 "the account is less than the amount" sa U) ∧
  va_Nw (.castable mw_IAE mw_IAE) U ∧ va_Nw (.castable mw_ISE mw_ISE) U ∧ va_Nc mw_IAE mw_ISE U ∧ va_Nc mw_ISE mw_IAE U ∧ va_AO RX0 U ∧ va_AOA .int U ∧ va_Nw (.declares mw_dR) U ∧ va_Nw (.declares mw_dE) U ∧ va_Nw (.declares mw_dT) U
def mw_Ok (own : String) (cc : ByteArray) (D0 CM SM : Nat) (X : mw_X) : Prop :=
  match X with
  | (p, l, e, R, s, m, args, below, meth, c, Q, D, cA, ad0, N0) => p.tables.exec = Jvm.exec ∧ c.code = cc ∧ s.vm.findClass own = some m.cls ∧ (∀ w ∈ mw_bg, w.before args s = true) ∧ va_K D mw_cl (mw_ty cA) s ∧ mw_ZZ (mw_AA ad0 N0 s.heap.size) s ∧ l.stackTraces = false ∧ (10 * D0 + 10 ≤ R.frames ∧ 200 * D0 + 300 ≤ R.locals ∧ CM ≤ R.cells ∧ SM ≤ R.slots)
section MWR
variable {own : String} {cc : ByteArray} {D0 CM SM : Nat} {X : mw_X} {pc : Nat} {ls : List (Option Value)} {st : List Value} {y : mw_Y} {I : mw_I} {L : mw_L} {n k : Nat}
theorem mw_iconst (hX : mw_Ok own cc D0 CM SM X) {i : Int} (d : decode cc pc = .ok (.iconst i, 1)) (kk : mw_G X (pc + 1) ls (.int (Int32.ofInt i) :: st) y I L n k) : mw_G X pc ls (st) y I L n k := by
  obtain ⟨p, l, e, R, s, m, args, below, meth, c, Q, D, cA, ad0, N0⟩ := X
  obtain ⟨hx, hb, -⟩ := hX
  intro ad H locs lsC hR hL
  exact lv_iconst hx hb d rfl (kk ad H locs lsC hR hL)
theorem mw_bipush (hX : mw_Ok own cc D0 CM SM X) {i : Int} (d : decode cc pc = .ok (.bipush i, 2)) (kk : mw_G X (pc + 2) ls (.int (Int8.ofInt i).toInt32 :: st) y I L n k) : mw_G X pc ls (st) y I L n k := by
  obtain ⟨p, l, e, R, s, m, args, below, meth, c, Q, D, cA, ad0, N0⟩ := X
  obtain ⟨hx, hb, -⟩ := hX
  intro ad H locs lsC hR hL
  exact lv_bipush hx hb d rfl (kk ad H locs lsC hR hL)
theorem mw_sipush (hX : mw_Ok own cc D0 CM SM X) {i : Int} (d : decode cc pc = .ok (.sipush i, 3)) (kk : mw_G X (pc + 3) ls (.int (Int16.ofInt i).toInt32 :: st) y I L n k) : mw_G X pc ls (st) y I L n k := by
  obtain ⟨p, l, e, R, s, m, args, below, meth, c, Q, D, cA, ad0, N0⟩ := X
  obtain ⟨hx, hb, -⟩ := hX
  intro ad H locs lsC hR hL
  exact lv_sipush hx hb d rfl (kk ad H locs lsC hR hL)
theorem mw_iadd (hX : mw_Ok own cc D0 CM SM X) {a b : Int32} (d : decode cc pc = .ok (.iadd, 1)) (kk : mw_G X (pc + 1) ls (.int (a + b) :: st) y I L n k) : mw_G X pc ls (.int b :: .int a :: st) y I L n k := by
  obtain ⟨p, l, e, R, s, m, args, below, meth, c, Q, D, cA, ad0, N0⟩ := X
  obtain ⟨hx, hb, -⟩ := hX
  intro ad H locs lsC hR hL
  exact lv_iadd hx hb d  (kk ad H locs lsC hR hL)
theorem mw_isub (hX : mw_Ok own cc D0 CM SM X) {a b : Int32} (d : decode cc pc = .ok (.isub, 1)) (kk : mw_G X (pc + 1) ls (.int (a - b) :: st) y I L n k) : mw_G X pc ls (.int b :: .int a :: st) y I L n k := by
  obtain ⟨p, l, e, R, s, m, args, below, meth, c, Q, D, cA, ad0, N0⟩ := X
  obtain ⟨hx, hb, -⟩ := hX
  intro ad H locs lsC hR hL
  exact lv_isub hx hb d  (kk ad H locs lsC hR hL)
theorem mw_imul (hX : mw_Ok own cc D0 CM SM X) {a b : Int32} (d : decode cc pc = .ok (.imul, 1)) (kk : mw_G X (pc + 1) ls (.int (a * b) :: st) y I L n k) : mw_G X pc ls (.int b :: .int a :: st) y I L n k := by
  obtain ⟨p, l, e, R, s, m, args, below, meth, c, Q, D, cA, ad0, N0⟩ := X
  obtain ⟨hx, hb, -⟩ := hX
  intro ad H locs lsC hR hL
  exact lv_imul hx hb d  (kk ad H locs lsC hR hL)
theorem mw_iand (hX : mw_Ok own cc D0 CM SM X) {a b : Int32} (d : decode cc pc = .ok (.iand, 1)) (kk : mw_G X (pc + 1) ls (.int (a &&& b) :: st) y I L n k) : mw_G X pc ls (.int b :: .int a :: st) y I L n k := by
  obtain ⟨p, l, e, R, s, m, args, below, meth, c, Q, D, cA, ad0, N0⟩ := X
  obtain ⟨hx, hb, -⟩ := hX
  intro ad H locs lsC hR hL
  exact lv_iand hx hb d  (kk ad H locs lsC hR hL)
theorem mw_ixor (hX : mw_Ok own cc D0 CM SM X) {a b : Int32} (d : decode cc pc = .ok (.ixor, 1)) (kk : mw_G X (pc + 1) ls (.int (a ^^^ b) :: st) y I L n k) : mw_G X pc ls (.int b :: .int a :: st) y I L n k := by
  obtain ⟨p, l, e, R, s, m, args, below, meth, c, Q, D, cA, ad0, N0⟩ := X
  obtain ⟨hx, hb, -⟩ := hX
  intro ad H locs lsC hR hL
  exact lv_ixor hx hb d  (kk ad H locs lsC hR hL)
theorem mw_idiv (hX : mw_Ok own cc D0 CM SM X) {a b : Int32} (hne : ¬ b = 0) (d : decode cc pc = .ok (.idiv, 1)) (kk : mw_G X (pc + 1) ls (.int (a / b) :: st) y I L n k) : mw_G X pc ls (.int b :: .int a :: st) y I L n k := by
  obtain ⟨p, l, e, R, s, m, args, below, meth, c, Q, D, cA, ad0, N0⟩ := X
  obtain ⟨hx, hb, -⟩ := hX
  intro ad H locs lsC hR hL
  exact lv_idiv hx hb d hne (kk ad H locs lsC hR hL)
theorem mw_irem (hX : mw_Ok own cc D0 CM SM X) {a b : Int32} (hne : ¬ b = 0) (d : decode cc pc = .ok (.irem, 1)) (kk : mw_G X (pc + 1) ls (.int (a - a / b * b) :: st) y I L n k) : mw_G X pc ls (.int b :: .int a :: st) y I L n k := by
  obtain ⟨p, l, e, R, s, m, args, below, meth, c, Q, D, cA, ad0, N0⟩ := X
  obtain ⟨hx, hb, -⟩ := hX
  intro ad H locs lsC hR hL
  exact lv_irem hx hb d hne (kk ad H locs lsC hR hL)
theorem mw_i2l (hX : mw_Ok own cc D0 CM SM X) {a : Int32} (d : decode cc pc = .ok (.i2l, 1)) (kk : mw_G X (pc + 1) ls (.long a.toInt64 :: st) y I L n k) : mw_G X pc ls (.int a :: st) y I L n k := by
  obtain ⟨p, l, e, R, s, m, args, below, meth, c, Q, D, cA, ad0, N0⟩ := X
  obtain ⟨hx, hb, -⟩ := hX
  intro ad H locs lsC hR hL
  exact lv_i2l hx hb d rfl (kk ad H locs lsC hR hL)
theorem mw_lcmp (hX : mw_Ok own cc D0 CM SM X) {a b : Int64} (d : decode cc pc = .ok (.lcmp, 1)) (kk : mw_G X (pc + 1) ls (.int (lg_cmp a b) :: st) y I L n k) : mw_G X pc ls (.long b :: .long a :: st) y I L n k := by
  obtain ⟨p, l, e, R, s, m, args, below, meth, c, Q, D, cA, ad0, N0⟩ := X
  obtain ⟨hx, hb, -⟩ := hX
  intro ad H locs lsC hR hL
  exact W.lcmp hx hb d  (kk ad H locs lsC hR hL)
theorem mw_dupR (hX : mw_Ok own cc D0 CM SM X) {a : Nat} (d : decode cc pc = .ok (.dup, 1)) (kk : mw_G X (pc + 1) ls (.ref a :: .ref a :: st) y I L n k) : mw_G X pc ls (.ref a :: st) y I L n k := by
  obtain ⟨p, l, e, R, s, m, args, below, meth, c, Q, D, cA, ad0, N0⟩ := X
  obtain ⟨hx, hb, -⟩ := hX
  intro ad H locs lsC hR hL
  exact lv_dup hx hb d rfl (kk ad H locs lsC hR hL)
theorem mw_dupI (hX : mw_Ok own cc D0 CM SM X) {a : Int32} (d : decode cc pc = .ok (.dup, 1)) (kk : mw_G X (pc + 1) ls (.int a :: .int a :: st) y I L n k) : mw_G X pc ls (.int a :: st) y I L n k := by
  obtain ⟨p, l, e, R, s, m, args, below, meth, c, Q, D, cA, ad0, N0⟩ := X
  obtain ⟨hx, hb, -⟩ := hX
  intro ad H locs lsC hR hL
  exact lv_dup hx hb d rfl (kk ad H locs lsC hR hL)
theorem mw_dup2 (hX : mw_Ok own cc D0 CM SM X) {a : Nat} {b : Int32} (d : decode cc pc = .ok (.dup2, 1)) (kk : mw_G X (pc + 1) ls (.int b :: .ref a :: .int b :: .ref a :: st) y I L n k) : mw_G X pc ls (.int b :: .ref a :: st) y I L n k := by
  obtain ⟨p, l, e, R, s, m, args, below, meth, c, Q, D, cA, ad0, N0⟩ := X
  obtain ⟨hx, hb, -⟩ := hX
  intro ad H locs lsC hR hL
  exact lv_dup2_11 hx hb d rfl rfl (kk ad H locs lsC hR hL)
theorem mw_popI (hX : mw_Ok own cc D0 CM SM X) {a : Int32} (d : decode cc pc = .ok (.pop, 1)) (kk : mw_G X (pc + 1) ls (st) y I L n k) : mw_G X pc ls (.int a :: st) y I L n k := by
  obtain ⟨p, l, e, R, s, m, args, below, meth, c, Q, D, cA, ad0, N0⟩ := X
  obtain ⟨hx, hb, -⟩ := hX
  intro ad H locs lsC hR hL
  exact lv_pop hx hb d rfl (kk ad H locs lsC hR hL)
theorem mw_iload_n (hX : mw_Ok own cc D0 CM SM X) {f : Fin 4} {i : Nat} {v : Int32} (d : decode cc pc = .ok (.iload_n f, 1)) (hi : (f : Nat) = i) (h : ls[i]? = some (some (.int v))) (kk : mw_G X (pc + 1) ls (.int v :: st) y I L n k) : mw_G X pc ls st y I L n k := by
  obtain ⟨p, l, e, R, s, m, args, below, meth, c, Q, D, cA, ad0, N0⟩ := X
  obtain ⟨hx, hb, -⟩ := hX
  intro ad H locs lsC hR hL
  exact lv_iload_n hx hb d hi (hL.2.2.2 i _ h).2 (kk ad H locs lsC hR hL)
theorem mw_aload_n (hX : mw_Ok own cc D0 CM SM X) {f : Fin 4} {i : Nat} {v : Nat} (d : decode cc pc = .ok (.aload_n f, 1)) (hi : (f : Nat) = i) (h : ls[i]? = some (some (.ref v))) (kk : mw_G X (pc + 1) ls (.ref v :: st) y I L n k) : mw_G X pc ls st y I L n k := by
  obtain ⟨p, l, e, R, s, m, args, below, meth, c, Q, D, cA, ad0, N0⟩ := X
  obtain ⟨hx, hb, -⟩ := hX
  intro ad H locs lsC hR hL
  exact lv_aload_n hx hb d hi (hL.2.2.2 i _ h).2 (kk ad H locs lsC hR hL)
theorem mw_iload (hX : mw_Ok own cc D0 CM SM X) {i : Nat} {v : Int32} (d : decode cc pc = .ok (.iload i, 2)) (h : ls[i]? = some (some (.int v))) (kk : mw_G X (pc + 2) ls (.int v :: st) y I L n k) : mw_G X pc ls st y I L n k := by
  obtain ⟨p, l, e, R, s, m, args, below, meth, c, Q, D, cA, ad0, N0⟩ := X
  obtain ⟨hx, hb, -⟩ := hX
  intro ad H locs lsC hR hL
  exact lv_iload hx hb d (hL.2.2.2 i _ h).2 (kk ad H locs lsC hR hL)
theorem mw_aload (hX : mw_Ok own cc D0 CM SM X) {i : Nat} {v : Nat} (d : decode cc pc = .ok (.aload i, 2)) (h : ls[i]? = some (some (.ref v))) (kk : mw_G X (pc + 2) ls (.ref v :: st) y I L n k) : mw_G X pc ls st y I L n k := by
  obtain ⟨p, l, e, R, s, m, args, below, meth, c, Q, D, cA, ad0, N0⟩ := X
  obtain ⟨hx, hb, -⟩ := hX
  intro ad H locs lsC hR hL
  exact lv_aload hx hb d (hL.2.2.2 i _ h).2 (kk ad H locs lsC hR hL)
theorem mw_istore_n (hX : mw_Ok own cc D0 CM SM X) {f : Fin 4} {i : Nat} {v : Int32} (d : decode cc pc = .ok (.istore_n f, 1)) (hi : (f : Nat) = i) (hn : i < ls.length) (kk : mw_G X (pc + 1) (ls.set i (some (.int v))) st y I L n k) : mw_G X pc ls (.int v :: st) y I L n k := by
  obtain ⟨p, l, e, R, s, m, args, below, meth, c, Q, D, cA, ad0, N0⟩ := X
  obtain ⟨hx, hb, -⟩ := hX
  intro ad H locs lsC hR hL
  exact lv_istore_n hx hb d hi hL.has (by rw [← hL.2.2.1]; exact hn) rfl (fun ls' h' => kk ad H locs ls' hR (hL.put (v := .int v) rfl h'))
theorem mw_istore (hX : mw_Ok own cc D0 CM SM X) {i : Nat} {v : Int32} (d : decode cc pc = .ok (.istore i, 2)) (hn : i < ls.length) (kk : mw_G X (pc + 2) (ls.set i (some (.int v))) st y I L n k) : mw_G X pc ls (.int v :: st) y I L n k := by
  obtain ⟨p, l, e, R, s, m, args, below, meth, c, Q, D, cA, ad0, N0⟩ := X
  obtain ⟨hx, hb, -⟩ := hX
  intro ad H locs lsC hR hL
  exact lv_istore hx hb d hL.has (by rw [← hL.2.2.1]; exact hn) rfl (fun ls' h' => kk ad H locs ls' hR (hL.put (v := .int v) rfl h'))
theorem mw_astore_n (hX : mw_Ok own cc D0 CM SM X) {f : Fin 4} {i : Nat} {v : Nat} (d : decode cc pc = .ok (.astore_n f, 1)) (hi : (f : Nat) = i) (hn : i < ls.length) (kk : mw_G X (pc + 1) (ls.set i (some (.ref v))) st y I L n k) : mw_G X pc ls (.ref v :: st) y I L n k := by
  obtain ⟨p, l, e, R, s, m, args, below, meth, c, Q, D, cA, ad0, N0⟩ := X
  obtain ⟨hx, hb, -⟩ := hX
  intro ad H locs lsC hR hL
  exact lv_astore_n hx hb d hi hL.has (by rw [← hL.2.2.1]; exact hn) rfl (fun ls' h' => kk ad H locs ls' hR (hL.put (v := .ref v) rfl h'))
theorem mw_astore (hX : mw_Ok own cc D0 CM SM X) {i : Nat} {v : Nat} (d : decode cc pc = .ok (.astore i, 2)) (hn : i < ls.length) (kk : mw_G X (pc + 2) (ls.set i (some (.ref v))) st y I L n k) : mw_G X pc ls (.ref v :: st) y I L n k := by
  obtain ⟨p, l, e, R, s, m, args, below, meth, c, Q, D, cA, ad0, N0⟩ := X
  obtain ⟨hx, hb, -⟩ := hX
  intro ad H locs lsC hR hL
  exact lv_astore hx hb d hL.has (by rw [← hL.2.2.1]; exact hn) rfl (fun ls' h' => kk ad H locs ls' hR (hL.put (v := .ref v) rfl h'))
theorem mw_iinc (hX : mw_Ok own cc D0 CM SM X) {i : Nat} {z : Int} {v : Int32} (d : decode cc pc = .ok (.iinc i z, 3)) (h : ls[i]? = some (some (.int v))) (kk : mw_G X (pc + 3) (ls.set i (some (.int (v + Int32.ofInt z)))) st y I L n k) : mw_G X pc ls st y I L n k := by
  obtain ⟨p, l, e, R, s, m, args, below, meth, c, Q, D, cA, ad0, N0⟩ := X
  obtain ⟨hx, hb, -⟩ := hX
  intro ad H locs lsC hR hL
  obtain ⟨j, hj⟩ := List.getElem?_of_mem (mw_prs_mem (ad := ad) (q := (i, .int v)).mpr ⟨_, h, rfl⟩)
  exact lv_iinc (k := j) (v := v + Int32.ofInt z) hx hb d hL.has hj rfl (by rw [← hL.2.2.1]; exact (List.getElem?_eq_some_iff.mp h).1) rfl (fun ls' h' => kk ad H locs ls' hR (hL.put (v := .int (v + Int32.ofInt z)) rfl h'))
theorem mw_goto (hX : mw_Ok own cc D0 CM SM X) {off : Int} {tgt : Nat} (d : decode cc pc = .ok (.goto off, 3)) (ht : (pc : Int) + off = (tgt : Int)) (kk : mw_G X tgt ls st y I L n k) : mw_G X pc ls st y I L n k := by
  obtain ⟨p, l, e, R, s, m, args, below, meth, c, Q, D, cA, ad0, N0⟩ := X
  obtain ⟨hx, hb, -⟩ := hX
  intro ad H locs lsC hR hL
  exact lv_goto hx hb d ht (kk ad H locs lsC hR hL)
theorem mw_if_eq (hX : mw_Ok own cc D0 CM SM X) {a : Int32} {off : Int} {tgt : Nat} (d : decode cc pc = .ok (.ifCond .eq off, 3)) (ht : (pc : Int) + off = (tgt : Int)) (kt : a = 0 → mw_G X tgt ls st y I L n k) (kf : ¬ a = 0 → mw_G X (pc + 3) ls st y I L n k) : mw_G X pc ls (.int a :: st) y I L n k := by
  obtain ⟨p, l, e, R, s, m, args, below, meth, c, Q, D, cA, ad0, N0⟩ := X
  obtain ⟨hx, hb, -⟩ := hX
  intro ad H locs lsC hR hL
  exact lv_if_eq hx hb d ht (fun h => kt h ad H locs lsC hR hL) (fun h => kf h ad H locs lsC hR hL)
theorem mw_icmp_eq (hX : mw_Ok own cc D0 CM SM X) {a b : Int32} {off : Int} {tgt : Nat} (d : decode cc pc = .ok (.if_icmp .eq off, 3)) (ht : (pc : Int) + off = (tgt : Int)) (kt : a = b → mw_G X tgt ls st y I L n k) (kf : ¬ a = b → mw_G X (pc + 3) ls st y I L n k) : mw_G X pc ls (.int b :: .int a :: st) y I L n k := by
  obtain ⟨p, l, e, R, s, m, args, below, meth, c, Q, D, cA, ad0, N0⟩ := X
  obtain ⟨hx, hb, -⟩ := hX
  intro ad H locs lsC hR hL
  exact lv_icmp_eq hx hb d ht (fun h => kt h ad H locs lsC hR hL) (fun h => kf h ad H locs lsC hR hL)
theorem mw_if_ne (hX : mw_Ok own cc D0 CM SM X) {a : Int32} {off : Int} {tgt : Nat} (d : decode cc pc = .ok (.ifCond .ne off, 3)) (ht : (pc : Int) + off = (tgt : Int)) (kt : ¬ a = 0 → mw_G X tgt ls st y I L n k) (kf : a = 0 → mw_G X (pc + 3) ls st y I L n k) : mw_G X pc ls (.int a :: st) y I L n k := by
  obtain ⟨p, l, e, R, s, m, args, below, meth, c, Q, D, cA, ad0, N0⟩ := X
  obtain ⟨hx, hb, -⟩ := hX
  intro ad H locs lsC hR hL
  exact lv_if_ne hx hb d ht (fun h => kt h ad H locs lsC hR hL) (fun h => kf h ad H locs lsC hR hL)
theorem mw_icmp_ne (hX : mw_Ok own cc D0 CM SM X) {a b : Int32} {off : Int} {tgt : Nat} (d : decode cc pc = .ok (.if_icmp .ne off, 3)) (ht : (pc : Int) + off = (tgt : Int)) (kt : ¬ a = b → mw_G X tgt ls st y I L n k) (kf : a = b → mw_G X (pc + 3) ls st y I L n k) : mw_G X pc ls (.int b :: .int a :: st) y I L n k := by
  obtain ⟨p, l, e, R, s, m, args, below, meth, c, Q, D, cA, ad0, N0⟩ := X
  obtain ⟨hx, hb, -⟩ := hX
  intro ad H locs lsC hR hL
  exact lv_icmp_ne hx hb d ht (fun h => kt h ad H locs lsC hR hL) (fun h => kf h ad H locs lsC hR hL)
theorem mw_if_lt (hX : mw_Ok own cc D0 CM SM X) {a : Int32} {off : Int} {tgt : Nat} (d : decode cc pc = .ok (.ifCond .lt off, 3)) (ht : (pc : Int) + off = (tgt : Int)) (kt : a < 0 → mw_G X tgt ls st y I L n k) (kf : ¬ a < 0 → mw_G X (pc + 3) ls st y I L n k) : mw_G X pc ls (.int a :: st) y I L n k := by
  obtain ⟨p, l, e, R, s, m, args, below, meth, c, Q, D, cA, ad0, N0⟩ := X
  obtain ⟨hx, hb, -⟩ := hX
  intro ad H locs lsC hR hL
  exact lv_if_lt hx hb d ht (fun h => kt h ad H locs lsC hR hL) (fun h => kf h ad H locs lsC hR hL)
theorem mw_icmp_lt (hX : mw_Ok own cc D0 CM SM X) {a b : Int32} {off : Int} {tgt : Nat} (d : decode cc pc = .ok (.if_icmp .lt off, 3)) (ht : (pc : Int) + off = (tgt : Int)) (kt : a < b → mw_G X tgt ls st y I L n k) (kf : ¬ a < b → mw_G X (pc + 3) ls st y I L n k) : mw_G X pc ls (.int b :: .int a :: st) y I L n k := by
  obtain ⟨p, l, e, R, s, m, args, below, meth, c, Q, D, cA, ad0, N0⟩ := X
  obtain ⟨hx, hb, -⟩ := hX
  intro ad H locs lsC hR hL
  exact lv_icmp_lt hx hb d ht (fun h => kt h ad H locs lsC hR hL) (fun h => kf h ad H locs lsC hR hL)
theorem mw_if_ge (hX : mw_Ok own cc D0 CM SM X) {a : Int32} {off : Int} {tgt : Nat} (d : decode cc pc = .ok (.ifCond .ge off, 3)) (ht : (pc : Int) + off = (tgt : Int)) (kt : 0 ≤ a → mw_G X tgt ls st y I L n k) (kf : ¬ 0 ≤ a → mw_G X (pc + 3) ls st y I L n k) : mw_G X pc ls (.int a :: st) y I L n k := by
  obtain ⟨p, l, e, R, s, m, args, below, meth, c, Q, D, cA, ad0, N0⟩ := X
  obtain ⟨hx, hb, -⟩ := hX
  intro ad H locs lsC hR hL
  exact lv_if_ge hx hb d ht (fun h => kt h ad H locs lsC hR hL) (fun h => kf h ad H locs lsC hR hL)
theorem mw_icmp_ge (hX : mw_Ok own cc D0 CM SM X) {a b : Int32} {off : Int} {tgt : Nat} (d : decode cc pc = .ok (.if_icmp .ge off, 3)) (ht : (pc : Int) + off = (tgt : Int)) (kt : b ≤ a → mw_G X tgt ls st y I L n k) (kf : ¬ b ≤ a → mw_G X (pc + 3) ls st y I L n k) : mw_G X pc ls (.int b :: .int a :: st) y I L n k := by
  obtain ⟨p, l, e, R, s, m, args, below, meth, c, Q, D, cA, ad0, N0⟩ := X
  obtain ⟨hx, hb, -⟩ := hX
  intro ad H locs lsC hR hL
  exact lv_icmp_ge hx hb d ht (fun h => kt h ad H locs lsC hR hL) (fun h => kf h ad H locs lsC hR hL)
theorem mw_if_gt (hX : mw_Ok own cc D0 CM SM X) {a : Int32} {off : Int} {tgt : Nat} (d : decode cc pc = .ok (.ifCond .gt off, 3)) (ht : (pc : Int) + off = (tgt : Int)) (kt : 0 < a → mw_G X tgt ls st y I L n k) (kf : ¬ 0 < a → mw_G X (pc + 3) ls st y I L n k) : mw_G X pc ls (.int a :: st) y I L n k := by
  obtain ⟨p, l, e, R, s, m, args, below, meth, c, Q, D, cA, ad0, N0⟩ := X
  obtain ⟨hx, hb, -⟩ := hX
  intro ad H locs lsC hR hL
  exact lv_if_gt hx hb d ht (fun h => kt h ad H locs lsC hR hL) (fun h => kf h ad H locs lsC hR hL)
theorem mw_icmp_gt (hX : mw_Ok own cc D0 CM SM X) {a b : Int32} {off : Int} {tgt : Nat} (d : decode cc pc = .ok (.if_icmp .gt off, 3)) (ht : (pc : Int) + off = (tgt : Int)) (kt : b < a → mw_G X tgt ls st y I L n k) (kf : ¬ b < a → mw_G X (pc + 3) ls st y I L n k) : mw_G X pc ls (.int b :: .int a :: st) y I L n k := by
  obtain ⟨p, l, e, R, s, m, args, below, meth, c, Q, D, cA, ad0, N0⟩ := X
  obtain ⟨hx, hb, -⟩ := hX
  intro ad H locs lsC hR hL
  exact lv_icmp_gt hx hb d ht (fun h => kt h ad H locs lsC hR hL) (fun h => kf h ad H locs lsC hR hL)
theorem mw_if_le (hX : mw_Ok own cc D0 CM SM X) {a : Int32} {off : Int} {tgt : Nat} (d : decode cc pc = .ok (.ifCond .le off, 3)) (ht : (pc : Int) + off = (tgt : Int)) (kt : a ≤ 0 → mw_G X tgt ls st y I L n k) (kf : ¬ a ≤ 0 → mw_G X (pc + 3) ls st y I L n k) : mw_G X pc ls (.int a :: st) y I L n k := by
  obtain ⟨p, l, e, R, s, m, args, below, meth, c, Q, D, cA, ad0, N0⟩ := X
  obtain ⟨hx, hb, -⟩ := hX
  intro ad H locs lsC hR hL
  exact lv_if_le hx hb d ht (fun h => kt h ad H locs lsC hR hL) (fun h => kf h ad H locs lsC hR hL)
theorem mw_icmp_le (hX : mw_Ok own cc D0 CM SM X) {a b : Int32} {off : Int} {tgt : Nat} (d : decode cc pc = .ok (.if_icmp .le off, 3)) (ht : (pc : Int) + off = (tgt : Int)) (kt : a ≤ b → mw_G X tgt ls st y I L n k) (kf : ¬ a ≤ b → mw_G X (pc + 3) ls st y I L n k) : mw_G X pc ls (.int b :: .int a :: st) y I L n k := by
  obtain ⟨p, l, e, R, s, m, args, below, meth, c, Q, D, cA, ad0, N0⟩ := X
  obtain ⟨hx, hb, -⟩ := hX
  intro ad H locs lsC hR hL
  exact lv_icmp_le hx hb d ht (fun h => kt h ad H locs lsC hR hL) (fun h => kf h ad H locs lsC hR hL)
end MWR
end
section
/-! rows that read and write cells -/
def mw_Cn : Nat → String
  | 0 => RX0
  | 1 => RX1
  | _ => RX2
def mw_Tn : Nat → u_T
  | 0 => TX0
  | 1 => TX1
  | _ => TX2
def mw_tyn : Nat → Nat → FieldType
  | 0 => tyX0
  | 1 => tyX1
  | _ => tyX2
theorem mw_cl_t : ∀ {t : Nat}, t < 3 → mw_cl[t]? = some (mw_Cn t, mw_Tn t, mw_nf t)
  | 0, _ => rfl
  | 1, _ => rfl
  | 2, _ => rfl
  | t + 3, h => absurd h (by omega)
theorem mw_u0 : ∀ w ∈ u_ws RX0 TX0 16, w ∈ lw_tbl := by decide +kernel
theorem mw_u1 : ∀ w ∈ u_ws RX1 TX1 7, w ∈ lw_tbl := by decide +kernel
theorem mw_u2 : ∀ w ∈ u_ws RX2 TX2 20, w ∈ lw_tbl := by decide +kernel
theorem mw_g0 : ∀ w ∈ u_ws RX0 TX0 16, goodWord w = true := by decide +kernel
theorem mw_g1 : ∀ w ∈ u_ws RX1 TX1 7, goodWord w = true := by decide +kernel
theorem mw_g2 : ∀ w ∈ u_ws RX2 TX2 20, goodWord w = true := by decide +kernel
theorem mw_uws : ∀ {t : Nat}, t < 3 → ∀ w ∈ u_ws (mw_Cn t) (mw_Tn t) (mw_nf t), w ∈ mw_bg
  | 0, _ => fun w h => mw_in (mw_u0 w h) (mw_g0 w h)
  | 1, _ => fun w h => mw_in (mw_u1 w h) (mw_g1 w h)
  | 2, _ => fun w h => mw_in (mw_u2 w h) (mw_g2 w h)
  | t + 3, h => absurd h (by omega)
theorem mw_nms : ∀ {t : Nat}, t < 3 → ∀ a, a < mw_nf t → ∀ b, b < mw_nf t → a ≠ b → (mw_Tn t a).2.1 ≠ (mw_Tn t b).2.1
  | 0, _ => nmX0
  | 1, _ => nmX1
  | 2, _ => nmX2
  | t + 3, h => absurd h (by omega)
theorem mw_tys : ∀ {t : Nat}, t < 3 → ∀ k, k < mw_nf t → parseFieldDescriptor (mw_Tn t k).2.2.1 = some (mw_tyn t k)
  | 0, _ => tyX0_ok
  | 1, _ => tyX1_ok
  | 2, _ => tyX2_ok
  | t + 3, h => absurd h (by omega)
theorem mw_ints : ∀ t, t < 3 → ∀ j, j < mw_nf t → mw_isI t j = true → (mw_Tn t j).2.2.2 = false ∧ mw_tyn t j = .int := by decide +kernel
theorem mw_refs : ∀ t, t < 3 → ∀ j, j < mw_nf t → mw_isI t j = false → (mw_Tn t j).2.2.2 = true ∧ (mw_Tn t j).1 = mw_Cn t := by decide +kernel
theorem mw_dflt : ∀ t, t < 3 → ∀ j, j < mw_nf t → defaultValue (mw_tyn t j) = if mw_isI t j = true then .int 0 else .null := by decide +kernel
/-- a field's link -/
def mw_fl (own : String) (idx t j : Nat) : Prop := Cond.fieldLink own idx (mw_Tn t j).1 (mw_Tn t j).2.1 (mw_Tn t j).2.2.1 ∈ mw_bg
theorem mw_eo {cA : Nat → ClassId} {ad : Nat → Nat} {y : mw_Y} {I : mw_I} {L : mw_L} {a t n0 : Nat} (h : y.2.1 a = (t + 4, n0)) : mw_en cA ad y I L a = .inr (t, mw_fs ad t y I a) := by
  unfold mw_en
  rw [h]
theorem mw_e0 {cA : Nat → ClassId} {ad : Nat → Nat} {y : mw_Y} {I : mw_I} {L : mw_L} {a n0 : Nat} (h : y.2.1 a = (0, n0)) : mw_en cA ad y I L a = .inl (cA 0, n0, .inl (I a)) := by
  unfold mw_en
  rw [h]
theorem mw_e1 {cA : Nat → ClassId} {ad : Nat → Nat} {y : mw_Y} {I : mw_I} {L : mw_L} {a n0 : Nat} (h : y.2.1 a = (1, n0)) : mw_en cA ad y I L a = .inl (cA 1, n0, .inr (.inl (L a))) := by
  unfold mw_en
  rw [h]
theorem mw_e2 {cA : Nat → ClassId} {ad : Nat → Nat} {y : mw_Y} {I : mw_I} {L : mw_L} {a n0 : Nat} (h : y.2.1 a = (2, n0)) : mw_en cA ad y I L a = .inl (cA 2, n0, .inr (.inr (.inr (.inr (fun j => (y.2.2 a j).map ad))))) := by
  unfold mw_en
  rw [h]
theorem mw_e3 {cA : Nat → ClassId} {ad : Nat → Nat} {y : mw_Y} {I : mw_I} {L : mw_L} {a n0 : Nat} (h : y.2.1 a = (3, n0)) : mw_en cA ad y I L a = .inl (cA 3, n0, .inr (.inr (.inr (.inr (fun j => (y.2.2 a j).map ad))))) := by
  unfold mw_en
  rw [h]
theorem mw_Rl.I {D : va_G} {cA : Nat → ClassId} {ad0 : Nat → Nat} {N0 : Nat} {s : State} {ad : Nat → Nat} {y : mw_Y} {I I' : mw_I} {L L' : mw_L} {H H1 : Heap} {locs locs1 : List Loc} {a : Nat} {e : va_E} (h : mw_Rl D cA ad0 N0 s ad y I L H locs) (he : (mw_ws cA ad y I L).set a (ad a, e) = mw_ws cA ad y I' L') (hP : va_P D mw_cl ((mw_ws cA ad y I L).set a (ad a, e)) H1) (hD : va_D (mw_AA ad0 N0 s.heap.size) ((mw_ws cA ad y I L).set a (ad a, e))) (hS : va_S (mw_AA ad0 N0 s.heap.size) s.heap H1 locs1) : mw_Rl D cA ad0 N0 s ad y I' L' H1 locs1 := by
  rw [he] at hP hD
  exact ⟨h.1, h.2.1, h.2.2.1, hP, hD, hS⟩
section MWM
variable {own : String} {cc : ByteArray} {D0 CM SM : Nat} {X : mw_X} {pc : Nat} {ls : List (Option Value)} {st : List Value} {y : mw_Y} {I : mw_I} {L : mw_L} {n k : Nat}
theorem mw_getI (hX : mw_Ok own cc D0 CM SM X) {a t j idx n0 : Nat} (d : decode cc pc = .ok (.getfield idx, 3)) (ha : a < y.1) (hsh : y.2.1 a = (t + 4, n0)) (hl : mw_fl own idx t j) (ht : t < 3) (hj : j < mw_nf t) (hi : mw_isI t j = true) (kk : mw_G X (pc + 3) ls (.int (I a j) :: st) y I L n k) : mw_G X pc ls (.ref a :: st) y I L n k := by
  obtain ⟨p, l, e, R, s, m, args, below, meth, c, Q, D, cA, ad0, N0⟩ := X
  obtain ⟨hx, hb, hown, hts, hK, -⟩ := hX
  intro ad H locs lsC hR hL
  have he : (mw_ws cA ad y I L)[a]? = some (ad a, .inr (t, mw_fs ad t y I a)) := by rw [mw_get ha, mw_eo hsh]
  refine va_get (ci := t) (v := .int (I a j)) hx hb hts (mw_uws ht) hown hK hR.2.2.2.1 a he (mw_cl_t ht) j hj (hts _ hl) (fun _ h => h) ?_ d (kk ad H locs lsC hR hL)
  rw [mw_fs_get hj]
  simp [mw_fv, hi]
theorem mw_getR (hX : mw_Ok own cc D0 CM SM X) {a t j idx n0 r : Nat} (d : decode cc pc = .ok (.getfield idx, 3)) (ha : a < y.1) (hsh : y.2.1 a = (t + 4, n0)) (hl : mw_fl own idx t j) (ht : t < 3) (hj : j < mw_nf t) (hi : mw_isI t j = false) (hr : y.2.2 a j = some r) (kk : mw_G X (pc + 3) ls (.ref r :: st) y I L n k) : mw_G X pc ls (.ref a :: st) y I L n k := by
  obtain ⟨p, l, e, R, s, m, args, below, meth, c, Q, D, cA, ad0, N0⟩ := X
  obtain ⟨hx, hb, hown, hts, hK, -⟩ := hX
  intro ad H locs lsC hR hL
  have he : (mw_ws cA ad y I L)[a]? = some (ad a, .inr (t, mw_fs ad t y I a)) := by rw [mw_get ha, mw_eo hsh]
  refine va_get (ci := t) (v := .ref (ad r)) hx hb hts (mw_uws ht) hown hK hR.2.2.2.1 a he (mw_cl_t ht) j hj (hts _ hl) (fun _ h => h) ?_ d (kk ad H locs lsC hR hL)
  rw [mw_fs_get hj]
  simp [mw_fv, hi, hr, va_rf]
theorem mw_putI (hX : mw_Ok own cc D0 CM SM X) {a t j idx n0 : Nat} {x : Int32} (d : decode cc pc = .ok (.putfield idx, 3)) (ha : a < y.1) (hsh : y.2.1 a = (t + 4, n0)) (hl : mw_fl own idx t j) (ht : t < 3) (hj : j < mw_nf t) (hi : mw_isI t j = true) (kk : mw_G X (pc + 3) ls st y (mw_up I a j x) L n k) : mw_G X pc ls (.int x :: .ref a :: st) y I L n k := by
  obtain ⟨p, l, e, R, s, m, args, below, meth, c, Q, D, cA, ad0, N0⟩ := X
  obtain ⟨hx, hb, hown, hts, hK, -⟩ := hX
  intro ad H locs lsC hR hL
  have he : (mw_ws cA ad y I L)[a]? = some (ad a, .inr (t, mw_fs ad t y I a)) := by rw [mw_get ha, mw_eo hsh]
  obtain ⟨hf, hty⟩ := mw_ints t ht j hj hi
  refine va_put (ci := t) (v := .int x) (ty := .int) hx hb hts (mw_uws ht) (mw_tyn t) (mw_tys ht) (mw_nms ht) hown hK hR.2.2.2.1 hR.2.2.2.2.1 hR.2.2.2.2.2 a he (mw_cl_t ht) j hj (hts _ hl) (fun _ h => h) hf (by rw [mw_tys ht j hj, hty]) rfl rfl (by rw [mw_fs_len]; exact hj) d (fun H1 locs1 hP hD hS => kk ad H1 locs1 lsC (hR.I ?_ hP hD hS) hL)
  refine mw_set ha rfl ?_ (fun i hi2 => mw_en_I (mw_up_ne hi2) rfl)
  rw [mw_eo hsh, mw_fs_set hj hi]
theorem mw_iaload (hX : mw_Ok own cc D0 CM SM X) {a N j : Nat} {i : Int32} (d : decode cc pc = .ok (.iaload, 1)) (ha : a < y.1) (hsh : y.2.1 a = (0, N)) (hi : i = nI j) (hj : j < N) (hN : N < 2 ^ 31) (kk : mw_G X (pc + 1) ls (.int (I a j) :: st) y I L n k) : mw_G X pc ls (.int i :: .ref a :: st) y I L n k := by
  obtain ⟨p, l, e, R, s, m, args, below, meth, c, Q, D, cA, ad0, N0⟩ := X
  obtain ⟨hx, hb, hown, hts, hK, -⟩ := hX
  intro ad H locs lsC hR hL
  subst hi
  have he : (mw_ws cA ad y I L)[a]? = some (ad a, .inl (cA 0, N, .inl (I a))) := by rw [mw_get ha, mw_e0 hsh]
  have h9 := kk ad H locs lsC hR hL
  rw [← nI_clamp (n := j) (by omega)] at h9
  exact va_iald hx hb hK hR.2.2.2.1 a 0 he rfl (vp_in_nI hj hN) d h9
theorem mw_iastore (hX : mw_Ok own cc D0 CM SM X) {a N j : Nat} {i x : Int32} (d : decode cc pc = .ok (.iastore, 1)) (ha : a < y.1) (hsh : y.2.1 a = (0, N)) (hi : i = nI j) (hj : j < N) (hN : N < 2 ^ 31) (kk : mw_G X (pc + 1) ls st y (mw_up I a j x) L n k) : mw_G X pc ls (.int x :: .int i :: .ref a :: st) y I L n k := by
  obtain ⟨p, l, e, R, s, m, args, below, meth, c, Q, D, cA, ad0, N0⟩ := X
  obtain ⟨hx, hb, hown, hts, hK, -⟩ := hX
  intro ad H locs lsC hR hL
  subst hi
  have he : (mw_ws cA ad y I L)[a]? = some (ad a, .inl (cA 0, N, .inl (I a))) := by rw [mw_get ha, mw_e0 hsh]
  refine va_iast hx hb hK hR.2.2.2.1 hR.2.2.2.2.1 hR.2.2.2.2.2 a 0 he rfl (vp_in_nI hj hN) d (fun H1 locs1 hP hD hS => kk ad H1 locs1 lsC (hR.I ?_ hP hD hS) hL)
  refine mw_set ha rfl ?_ (fun i hi2 => mw_en_I (mw_up_ne hi2) rfl)
  rw [mw_e0 hsh, mw_up_eq, nI_clamp (by omega)]
theorem mw_laload (hX : mw_Ok own cc D0 CM SM X) {a N j : Nat} {i : Int32} (d : decode cc pc = .ok (.laload, 1)) (ha : a < y.1) (hsh : y.2.1 a = (1, N)) (hi : i = nI j) (hj : j < N) (hN : N < 2 ^ 31) (kk : mw_G X (pc + 1) ls (.long (L a j) :: st) y I L n k) : mw_G X pc ls (.int i :: .ref a :: st) y I L n k := by
  obtain ⟨p, l, e, R, s, m, args, below, meth, c, Q, D, cA, ad0, N0⟩ := X
  obtain ⟨hx, hb, hown, hts, hK, -⟩ := hX
  intro ad H locs lsC hR hL
  subst hi
  have he : (mw_ws cA ad y I L)[a]? = some (ad a, .inl (cA 1, N, .inr (.inl (L a)))) := by rw [mw_get ha, mw_e1 hsh]
  have h9 := kk ad H locs lsC hR hL
  rw [← nI_clamp (n := j) (by omega)] at h9
  exact va_lald hx hb hK hR.2.2.2.1 a 1 he rfl (vp_in_nI hj hN) d h9
theorem mw_lastore (hX : mw_Ok own cc D0 CM SM X) {a N j : Nat} {i : Int32} {x : Int64} (d : decode cc pc = .ok (.lastore, 1)) (ha : a < y.1) (hsh : y.2.1 a = (1, N)) (hi : i = nI j) (hj : j < N) (hN : N < 2 ^ 31) (kk : mw_G X (pc + 1) ls st y I (mw_upL L a j x) n k) : mw_G X pc ls (.long x :: .int i :: .ref a :: st) y I L n k := by
  obtain ⟨p, l, e, R, s, m, args, below, meth, c, Q, D, cA, ad0, N0⟩ := X
  obtain ⟨hx, hb, hown, hts, hK, -⟩ := hX
  intro ad H locs lsC hR hL
  subst hi
  have he : (mw_ws cA ad y I L)[a]? = some (ad a, .inl (cA 1, N, .inr (.inl (L a)))) := by rw [mw_get ha, mw_e1 hsh]
  refine va_last hx hb hK hR.2.2.2.1 hR.2.2.2.2.1 hR.2.2.2.2.2 a 1 he rfl (vp_in_nI hj hN) d (fun H1 locs1 hP hD hS => kk ad H1 locs1 lsC (hR.I ?_ hP hD hS) hL)
  refine mw_set ha rfl ?_ (fun i hi2 => mw_en_I rfl (mw_upL_ne hi2))
  rw [mw_e1 hsh, mw_upL_eq, nI_clamp (by omega)]
theorem mw_aaloadP (hX : mw_Ok own cc D0 CM SM X) {a N j r : Nat} {i : Int32} (d : decode cc pc = .ok (.aaload, 1)) (ha : a < y.1) (hsh : y.2.1 a = (2, N)) (hi : i = nI j) (hj : j < N) (hN : N < 2 ^ 31) (hr : y.2.2 a j = some r) (kk : mw_G X (pc + 1) ls (.ref r :: st) y I L n k) : mw_G X pc ls (.int i :: .ref a :: st) y I L n k := by
  obtain ⟨p, l, e, R, s, m, args, below, meth, c, Q, D, cA, ad0, N0⟩ := X
  obtain ⟨hx, hb, hown, hts, hK, -⟩ := hX
  intro ad H locs lsC hR hL
  subst hi
  have he : (mw_ws cA ad y I L)[a]? = some (ad a, .inl (cA 2, N, .inr (.inr (.inr (.inr (fun j => (y.2.2 a j).map ad)))))) := by rw [mw_get ha, mw_e2 hsh]
  have h9 := kk ad H locs lsC hR hL
  have h8 : va_rf ((y.2.2 a (nI j).toNatClampNeg).map ad) = mw_tr ad (.ref r) := by rw [nI_clamp (by omega), hr]; rfl
  rw [List.map_cons, ← h8] at h9
  exact va_aldq hx hb hK hR.2.2.2.1 a 2 he rfl (vp_in_nI hj hN) d h9
theorem mw_aaloadR (hX : mw_Ok own cc D0 CM SM X) {a N j r : Nat} {i : Int32} (d : decode cc pc = .ok (.aaload, 1)) (ha : a < y.1) (hsh : y.2.1 a = (3, N)) (hi : i = nI j) (hj : j < N) (hN : N < 2 ^ 31) (hr : y.2.2 a j = some r) (kk : mw_G X (pc + 1) ls (.ref r :: st) y I L n k) : mw_G X pc ls (.int i :: .ref a :: st) y I L n k := by
  obtain ⟨p, l, e, R, s, m, args, below, meth, c, Q, D, cA, ad0, N0⟩ := X
  obtain ⟨hx, hb, hown, hts, hK, -⟩ := hX
  intro ad H locs lsC hR hL
  subst hi
  have he : (mw_ws cA ad y I L)[a]? = some (ad a, .inl (cA 3, N, .inr (.inr (.inr (.inr (fun j => (y.2.2 a j).map ad)))))) := by rw [mw_get ha, mw_e3 hsh]
  have h9 := kk ad H locs lsC hR hL
  have h8 : va_rf ((y.2.2 a (nI j).toNatClampNeg).map ad) = mw_tr ad (.ref r) := by rw [nI_clamp (by omega), hr]; rfl
  rw [List.map_cons, ← h8] at h9
  have hlt : (nI j).toNatClampNeg < N := by rw [nI_clamp (by omega)]; exact hj
  exact W.aald (v := va_rf ((y.2.2 a (nI j).toNatClampNeg).map ad)) (ty := .array .int) hx hb (hR.2.2.2.1 a _ he) ((hK.2 3 _ rfl).1 N (fun j => va_rf ((y.2.2 a j).map ad))) rfl (fun q => by cases q) (by show ¬ (nI j < 0 ∨ (arrV _ _ _).slots.size ≤ _); rw [arrV_size]; exact vp_in_nI hj hN) (by show (arrV _ _ _).slots[_]? = _; rw [arrV_read _ _ hlt]) rfl rfl d h9
theorem mw_copy (hX : mw_Ok own cc D0 CM SM X) {a b N M idx : Nat} {i j z : Int32} (d : decode cc pc = .ok (.invokestatic idx, 3)) (hw : Cond.methodLink own idx arraycopyName ∈ mw_bg ∧ Cond.native arraycopyName ∈ mw_bg ∧ Cond.static arraycopyName ∈ mw_bg ∧ Cond.initialized "java/lang/System" ∈ mw_bg) (ha : a < y.1) (hb0 : b < y.1) (hsa : y.2.1 a = (0, N)) (hsb : y.2.1 b = (0, N)) (hi : i = 0) (hj : j = 0) (hz : z = nI M) (hM : M ≤ N) (hN : N < 2 ^ 31) (hst : (st.map fun v => v.category).sum ≤ 8) (kk : mw_G X (pc + 3) ls st y (fun q => if q = b then va_cpy (I a) (I b) 0 0 M else I q) L n k) : mw_G X pc ls (.int z :: .int j :: .ref b :: .int i :: .ref a :: st) y I L n k := by
  obtain ⟨p, l, e, R, s, m, args, below, meth, c, Q, D, cA, ad0, N0⟩ := X
  obtain ⟨hx, hb, hown, hts, hK, -, -, hr1, hr2, -⟩ := hX
  intro ad H locs lsC hR hL
  subst hi
  subst hj
  subst hz
  have hea : (mw_ws cA ad y I L)[a]? = some (ad a, .inl (cA 0, N, .inl (I a))) := by rw [mw_get ha, mw_e0 hsa]
  have heb : (mw_ws cA ad y I L)[b]? = some (ad b, .inl (cA 0, N, .inl (I b))) := by rw [mw_get hb0, mw_e0 hsb]
  have hc : (nI M).toNatClampNeg = M := nI_clamp (by omega)
  have h0 : (0 : Int32).toNatClampNeg = 0 := rfl
  refine va_copyi (ty := .int) hx hb hL.1.symm hown (hts _ hw.1) (hts _ hw.2.1) (hts _ hw.2.2.1) (hts _ hw.2.2.2) hK hR.2.2.2.1 hR.2.2.2.2.1 hR.2.2.2.2.2 a b 0 0 hea heb rfl rfl rfl (by decide) (by decide) (nI_pos (by omega)) (by rw [hc, h0]; omega) (by rw [hc, h0]; omega) (fun _ _ => rfl) (by omega) ?_ d (fun H1 locs1 hP hD hS => kk ad H1 locs1 lsC (hR.I ?_ hP hD hS) hL)
  · rw [mw_st_cat]
    have : nativeFrameWords "java/lang/System" "arraycopy" 5 + 11 ≤ 200 := by decide +kernel
    omega
  · refine mw_set hb0 rfl ?_ (fun i hi2 => mw_en_I (if_neg hi2) rfl)
    rw [mw_e0 hsb, if_pos rfl, hc, h0]
end MWM
end
section
/-! ===== BEGIN a constructor that throws (launches without stack traces) ===== -/
section VXIA
variable {p : Program} {l : Launch} {e : Env} {R : Room} {s : State} {m : MethodId} {args : Array Value} {below : List Frame} {meth : Method} {c : Code} {T : State} {locs : List Loc} {cells slots : Nat}
theorem vx_callI (X : Stand p l e R s m args below meth c T locs cells slots) (hexec : p.tables.exec = Jvm.exec) {own : String} {index : Nat} {y : MethodName} {bytes : ByteArray} {maxL : Nat}
    (hown : s.vm.findClass own = some m.cls) (hy1 : y.name = "<init>") (hlink : (Cond.methodLink own index y).before args s = true) (hinst : (Cond.instanceMethod y).before args s = true)
    (hcode : (Cond.code y bytes maxL none).before args s = true) (hy : y.cls ≠ "java/lang/invoke/MethodHandle" ∧ y.cls ≠ "java/lang/invoke/VarHandle")
    {W9 : Nat} {Pre : Pt → Array Value → Prop} {Post : Pt → Array Value → Option Value → Pt → Prop} {PostX : Pt → Array Value → Addr → Pt → Prop} (hK : vx_Back l R p e below s args y 3 W9 Pre Post PostX)
    {g : JFrame} (hg : g.method = m) (hsize : g.locals.size = c.maxLocals) {a : Addr} {argsL rest : List Value} (hlen : ∀ sig, parseMethodDescriptor y.desc = some sig → argsL.length = sig.parameters.length)
    (hstack : g.stack = argsL.reverse ++ .ref a :: rest) (hW : 2 * g.monitorRoom + (rest.map fun v => v.category).sum ≤ W9) (hdg : decode c.code g.pc = .ok (.invokespecial index, 3))
    (hpre : ∀ vm₁, s.WarmedH vm₁ → Pre ⟨T.setVm vm₁, locs, cells, slots⟩ (Value.ref a :: argsL).toArray) :
    (∃ (v : Option Value) (vm₁ : Vm) (B : Pt), s.WarmedH vm₁ ∧ Stand p l e R s m args below meth c B.U B.locs B.cells B.slots ∧ Post ⟨T.setVm vm₁, locs, cells, slots⟩ (Value.ref a :: argsL).toArray v B ∧
      ∀ target, Steps p.tables e below (B.U.setTop { g with pc := g.pc + 3, stack := v.toList ++ rest }) target → Steps p.tables e below (T.setTop g) target) ∨
    (∃ (q : Addr) (vm₁ : Vm) (B : Pt), s.WarmedH vm₁ ∧ Stand p l e R s m args below meth c B.U B.locs B.cells B.slots ∧ PostX ⟨T.setVm vm₁, locs, cells, slots⟩ (Value.ref a :: argsL).toArray q B ∧
      Steps p.tables e below (T.setTop g) ((B.U.setTop { g with stack := rest }).pushFrame (.throwing q))) := by
  subst hg
  have hpl : e.platform.magicAccessors = ({} : Platform).magicAccessors := by rw [X.admits.platform]
  obtain ⟨mk, methM, cM, kP, vm₁, hnamed, hmethM, hcodeM, -, hlocalsM, -, hkP, -, hW₁, hstep₁⟩ := Steps.initColdArgs (e := e) X.here hexec X.warmed hpl hown hy1 hy hlink hinst hcode (f := g) rfl hlen hstack hdg
  have X₁ := X.noted hW₁
  rcases hK g.method meth c ⟨T.setVm vm₁, locs, cells, slots⟩ { g with stack := rest } (.invokespecial index) mk (Value.ref a :: argsL).toArray X₁ rfl hsize hdg hW (X₁.named hnamed) (hpre vm₁ X₁.warmed) with ⟨v, B, X', hpost, hsteps⟩ | ⟨q, B, X', hpost, hsteps⟩
  · exact Or.inl ⟨v, vm₁, B, X₁.warmed, X', hpost, fun target h => hstep₁ _ fun acts => by rw [doInvoke_state]; exact hsteps.trans h⟩
  · exact Or.inr ⟨q, vm₁, B, X₁.warmed, X', hpost, hstep₁ _ fun acts => by rw [doInvoke_state]; exact hsteps⟩
end VXIA
section VXIB
variable {p : Program} {l : Launch} {e : Env} {R : Room} {s : State} {m : MethodId} {args : Array Value} {below : List Frame} {meth : Method} {c : Code} {H : Heap} {locs : List Loc} {cells slots : Nat}
variable {y : MethodName} {bytes cc : ByteArray} {maxL nL mc ms n index : Nat} {ret : Option FieldType} {ws : List Cond} {rm : Room} {Pc : Array Value → State → Prop} {Qc : Array Value → State → Outcome → State → Prop} {XC : String → State → State → Prop} {free : Addr → Prop} {Ts : List Cond} {own C : String} {b : Addr} {As rest : List Value} {g : JFrame}
theorem vx_runI (S : CallFix p m c cc nL s args Ts own) (hM : vx_Met l y ws rm Pc Qc XC mc ms free) (cw : CallB R s args own index y bytes maxL none ws rm mc ms n ∧ y.name = "<init>" ∧ (Cond.instanceMethod y).before args s = true) (hp : PreS s H Pc (.ref b :: As))
    (hg : g.method = m) (hn : As.length = n) (hsize : g.locals.size = nL) (hstack : g.stack = As.reverse ++ .ref b :: rest) (hW : 2 * g.monitorRoom + (rest.map fun v => v.category).sum ≤ 8) (hdg : decode cc g.pc = .ok (.invokespecial index, 3)) (hf : cells + mc ≤ R.cells ∧ slots + ms ≤ R.slots) :
    vx_Run p l e R s m args below meth c H locs cells slots mc ms g rest (Qc (Value.ref b :: As).toArray) XC free := by
  have hK : vx_Back l R p e below s args y 3 8 (PreOf R mc ms Pc) (PostOf Qc mc ms free) (vx_Post XC mc ms free) := vx_callBack cw.1 hM hp.1
  obtain ⟨⟨-, -, -, -, -, -, hcode, -, hy, hlen, hl⟩, hy1, hin⟩ := cw
  obtain ⟨hx, hb, hml, ho, -⟩ := S
  have hPc := hp.2
  intro T hT X
  rcases vx_callI X hx (bytes := bytes) (maxL := maxL) ho hy1 hl hin hcode hy hK hg (hsize.trans hml.symm) (a := b) (argsL := As) (rest := rest) (fun sig h => hn.trans (hlen sig h)) hstack hW (by rw [hb]; exact hdg)
    (fun vm₁ hW₁ => ⟨hf.1, hf.2, hPc (T.setVm vm₁) hT hW₁⟩) with ⟨v, vm₁, ⟨U', l2, c2, s2⟩, hW₁, X', ⟨g', mk, t, L, e1, e2, hq, h1, hL, h2, h3⟩, st⟩ | ⟨q, vm₁, ⟨U', l2, c2, s2⟩, hW₁, X', ⟨g', mk, t, L, E, ce, e1, e2, hq, hce, hcv, hcl, h1, hL, h2, h3⟩, st⟩
  · dsimp only [Pt.U, Pt.locs, Pt.cells, Pt.slots] at X' e1 e2 h1 h2 h3 st
    subst h1; subst h2; subst h3
    exact Or.inl ⟨v, (T.setVm vm₁).calling g' mk (Value.ref b :: As).toArray, t, U', L, hT, X', hL, e1, e2, hq, st⟩
  · dsimp only [Pt.U, Pt.locs, Pt.cells, Pt.slots] at X' e1 e2 h1 h2 h3 st hcl
    subst h1; subst h2; subst h3
    exact Or.inr ⟨q, (T.setVm vm₁).calling g' mk (Value.ref b :: As).toArray, t, U', L, E, ce, hT, X', hL, e1, e2, hq, hce, hcv, vx_cls hW₁ hcl, st⟩
end VXIB
/-! ===== END ===== -/
end
section
/-! CONTRACTS: from named cells S, with arguments as, the method returns what 'out' says (.inl: a value, the cells behind), or throws (.inr: the name of the exception's type), the cells as they were. -/
abbrev mw_S : Type := mw_Y × mw_I × mw_L
abbrev mw_O : Type := (Option Value × mw_S) ⊕ String
theorem va_AOA.moved {ty : FieldType} {u U : State} (hvm : u.vm.Alike U.vm) (h : va_AOA ty u) : va_AOA ty U := by
  have e := Cond.arrayOver_setVmC (args := #[]) (s := u) (vm' := U.vm) hvm (.array ty)
  have h1 : (Cond.arrayOver (.array ty)).before #[] (u.setVm U.vm) = true := by rw [e]; exact h
  exact h1
def mw_rm (d mc ms : Nat) : Room := { frames := 10 * d + 10, cells := mc, slots := ms, locals := 200 * d + 300 }
theorem mw_room {d0 D0 mc ms maxL F Lo : Nat} (h : d0 < D0) (hF : 10 * D0 + 10 ≤ F) (hL : 200 * D0 + 300 ≤ Lo) (hm : maxL ≤ 181) : (mw_rm d0 mc ms).frames + 1 ≤ F ∧ 8 + (maxL + 11) + (mw_rm d0 mc ms).locals ≤ Lo := by
  unfold mw_rm
  dsimp only
  omega
def mw_Pc (D : va_G) (cA : Nat → ClassId) (ad : Nat → Nat) (sz : Nat) (as : List Value) (S : mw_S) : Array Value → State → Prop := va_Pc (as.map (mw_tr ad)) (fun U => U.heap.size = sz ∧ va_K D mw_cl (mw_ty cA) U ∧ va_P D mw_cl (mw_ws cA ad S.1 S.2.1 S.2.2) U.heap ∧ va_D (fun _ => True) (mw_ws cA ad S.1 S.2.1 S.2.2) ∧ mw_ZZ (mw_AA ad S.1.1 sz) U)
def mw_Qc (D : va_G) (cA : Nat → ClassId) (ad : Nat → Nat) (sz : Nat) (S : mw_S) (out : mw_O) : Array Value → State → Outcome → State → Prop := fun _ st oc t => ∃ (v : Option Value) (y' : mw_Y) (I' : mw_I) (L' : mw_L) (ad' : Nat → Nat), out = .inl (v, y', I', L') ∧ oc = .returned (v.map (mw_tr ad')) ∧ S.1.1 ≤ y'.1 ∧ mw_wf y' ∧ (∀ k, (k < S.1.1 ∨ y'.1 ≤ k) → ad' k = ad k) ∧ va_P D mw_cl (mw_ws cA ad' y' I' L') t.heap ∧ va_D (mw_AA ad S.1.1 sz) (mw_ws cA ad' y' I' L') ∧ va_F (mw_AA ad S.1.1 sz) st t
def mw_XC (D : va_G) (cA : Nat → ClassId) (ad : Nat → Nat) (sz : Nat) (S : mw_S) (out : mw_O) : String → State → State → Prop := fun E st t => out = .inr E ∧ va_P D mw_cl (mw_ws cA ad S.1 S.2.1 S.2.2) t.heap ∧ va_F (mw_AA ad S.1.1 sz) st t
def mw_CT (l : Launch) (yn : MethodName) (code0 : Cond) (d mc ms : Nat) (as : List Value) (S : mw_S) (out : mw_O) : Prop := l.stackTraces = false → ∀ (D : va_G) (cA : Nat → ClassId) (ad : Nat → Nat) (sz : Nat), mw_wf S.1 → vx_Met l yn (code0 :: mw_bg) (mw_rm d mc ms) (mw_Pc D cA ad sz as S) (mw_Qc D cA ad sz S out) (mw_XC D cA ad sz S out) mc ms (mw_AA ad S.1.1 sz)
theorem mw_ZZ.go {A B : Nat → Prop} {s U : State} {H : Heap} {locs : List Loc} (h : mw_ZZ A s) (hS : va_S A s.heap H locs) (hB : ∀ q, B q → A q) (hU : U.heap = H) (hW : s.WarmedH U.vm) : mw_ZZ B U := by
  obtain ⟨h1, h2, ⟨a3, h3⟩, ⟨a4, h4⟩, ⟨a5, h5⟩, h6, h7, h8, h9, h10, h11, h12, h13, h14⟩ := h
  refine ⟨?_, ?_, ⟨a3, h3.warm hW⟩, ⟨a4, h4.warm hW⟩, ⟨a5, h5.warm hW⟩, va_Nw.warmC hW h6, va_Nw.warmC hW h7, h8.moved hW.alike, h9.moved hW.alike, h10.moved hW.alike, h11.moved hW.alike, va_Nw.warmD hW h12, va_Nw.warmD hW h13, va_Nw.warmD hW h14⟩
  · rw [hU]; exact ((h1.kept hS.2.1).moved hW.alike).narrow hB
  · rw [hU]; exact ((h2.kept hS.2.1).moved hW.alike).narrow hB
theorem mw_ZZ.calling {A : Nat → Prop} {U : State} (h : mw_ZZ A U) (g : JFrame) (mk : MethodId) (a : Array Value) : mw_ZZ A (U.calling g mk a) := by
  obtain ⟨h1, h2, ⟨a3, h3⟩, ⟨a4, h4⟩, ⟨a5, h5⟩, h6, h7, h8, h9, h10, h11, h12, h13, h14⟩ := h
  have e : (U.calling g mk a).vm = U.vm := rfl
  have hA : U.vm.Alike (U.calling g mk a).vm := Vm.Alike.refl U.vm
  exact ⟨h1.moved hA, h2.moved hA, ⟨a3, h3.same e⟩, ⟨a4, h4.same e⟩, ⟨a5, h5.same e⟩, va_tabs rfl e.symm h6, va_tabs rfl e.symm h7, h8.moved hA, h9.moved hA, h10.moved hA, h11.moved hA, va_tabs rfl e.symm h12, va_tabs rfl e.symm h13, va_tabs rfl e.symm h14⟩
theorem mw_blind {D : va_G} {cA : Nat → ClassId} {ad : Nat → Nat} {sz : Nat} {as : List Value} {S : mw_S} : FrameBlind (mw_Pc D cA ad sz as S) := fun a U g mk h => ⟨h.1, h.2.1, va_K.moved (u := U) (U := U.calling g mk a) (Vm.Alike.refl U.vm) h.2.2.1, h.2.2.2.1, h.2.2.2.2.1, h.2.2.2.2.2.calling g mk a⟩
theorem mw_sub {D : va_G} {cA : Nat → ClassId} {ad0 : Nat → Nat} {N0 : Nat} {s : State} {ad : Nat → Nat} {y : mw_Y} {I : mw_I} {L : mw_L} {H : Heap} {locs : List Loc} (hR : mw_Rl D cA ad0 N0 s ad y I L H locs) : ∀ q, mw_AA ad y.1 H.size q → mw_AA ad0 N0 s.heap.size q := by
  rintro q (⟨k, hk, rfl⟩ | h)
  · exact hR.2.2.2.2.1.2 k _ (mw_get (I := I) (L := L) hk)
  · exact Or.inr (Nat.le_trans hR.2.2.2.2.2.1 h)
theorem mw_pre {D : va_G} {cA : Nat → ClassId} {ad0 : Nat → Nat} {N0 : Nat} {s : State} {ad : Nat → Nat} {y : mw_Y} {I : mw_I} {L : mw_L} {H : Heap} {locs : List Loc} {as : List Value} (hR : mw_Rl D cA ad0 N0 s ad y I L H locs) (hK : va_K D mw_cl (mw_ty cA) s) (hZ : mw_ZZ (mw_AA ad0 N0 s.heap.size) s) : FrameBlind (mw_Pc D cA ad H.size as (y, I, L)) ∧ ∀ U : State, U.heap = H → s.WarmedH U.vm → mw_Pc D cA ad H.size as (y, I, L) (as.map (mw_tr ad)).toArray U :=
  ⟨mw_blind, fun U hU hW => ⟨rfl, by rw [hU], hK.moved hW.alike, by rw [hU]; exact hR.2.2.2.1, hR.2.2.2.2.1.weaken (fun _ _ _ _ => trivial), hZ.go hR.2.2.2.2.2 (mw_sub hR) hU hW⟩⟩
section MWU
variable {p : Program} {l : Launch} {e : Env} {R : Room} {s : State} {m : MethodId} {args : Array Value} {below : List Frame} {meth : Method} {c : Code} {H : Heap} {locs : List Loc} {n k : Nat} {Q : State → Prop}
variable {D : va_G} {cA : Nat → ClassId} {ad0 : Nat → Nat} {N0 : Nat} {ad : Nat → Nat} {y : mw_Y} {I : mw_I} {L : mw_L} {mc ms pc : Nat} {lsC : Array Slot} {st0 rest : List Value} {out : mw_O} {a : Array Value}
theorem mw_use (hr : vx_Run p l e R s m args below meth c H locs n k mc ms (F0 m pc lsC st0) rest (mw_Qc D cA ad H.size (y, I, L) out a) (mw_XC D cA ad H.size (y, I, L) out) (mw_AA ad y.1 H.size)) (hR : mw_Rl D cA ad0 N0 s ad y I L H locs) {v : Option Value} {y' : mw_Y} {I' : mw_I} {L' : mw_L} (ho : out = .inl (v, y', I', L'))
    (kk : ∀ (ad' : Nat → Nat) (H1 : Heap) (locs1 : List Loc), mw_Rl D cA ad0 N0 s ad' y' I' L' H1 locs1 → (∀ j, (j < y.1 ∨ y'.1 ≤ j) → ad' j = ad j) → W p l e R s m args below meth c H1 locs1 (n + mc) (k + ms) Q (F0 m (pc + 3) lsC ((v.map (mw_tr ad')).toList ++ rest))) : W p l e R s m args below meth c H locs n k Q (F0 m pc lsC st0) := by
  intro T hT X
  rcases hr T hT X with ⟨v9, st₀, t, T', L9, h0, X', hL, e1, e2, ⟨v2, y2, I2, L2, ad', ho2, hv, hle, hwf, hadd, hP, hD, hF⟩, st⟩ | ⟨q, st₀, t, T', L9, E, ce, h0, X', hL, e1, e2, ⟨ho2, -⟩, -⟩
  · have he := Sum.inl.inj (ho2.symm.trans ho)
    simp only [Prod.mk.injEq] at he
    obtain ⟨rfl, rfl, rfl, rfl⟩ := he
    cases hv
    obtain ⟨k1, k2, k3⟩ := vx_keep h0 e1 hR.2.2.2.2.2 (fun q _ h => mw_sub hR q h) (mw_sub hR) hL hF
    have hj9 : ∀ j, (j < N0 ∨ y2.1 ≤ j) → ad' j = ad0 j := by
      intro j hj
      rcases hj with hj | hj
      · rw [hadd j (Or.inl (Nat.lt_of_lt_of_le hj hR.1))]; exact hR.2.1 j (Or.inl hj)
      · rw [hadd j (Or.inr hj)]; exact hR.2.1 j (Or.inr (Nat.le_trans hle hj))
    obtain ⟨t2, a1, b1⟩ := kk ad' T'.heap (locs ++ L9) ⟨Nat.le_trans hR.1 hle, hj9, hwf, by rw [e1]; exact hP, hD.weaken (fun _ q _ h => mw_sub hR q.1 h), k3⟩ hadd T' rfl X'
    exact ⟨t2, st t2 a1, b1⟩
  · rw [ho] at ho2; cases ho2
theorem mw_useX (hr : vx_Run p l e R s m args below meth c H locs n k mc ms (F0 m pc lsC st0) rest (mw_Qc D cA ad H.size (y, I, L) out a) (mw_XC D cA ad H.size (y, I, L) out) (mw_AA ad y.1 H.size)) (hR : mw_Rl D cA ad0 N0 s ad y I L H locs) {E : String} (ho : out = .inr E)
    (kx : ∀ (q : Addr) (ce : Cell) (H1 : Heap) (locs1 : List Loc), mw_Rl D cA ad0 N0 s ad y I L H1 locs1 → H1[q]? = some ce → ce.vm = .none → s.vm.findClass E = some ce.cls → vx_W p l e R s m args below meth c H1 locs1 (n + mc) (k + ms) Q (F0 m pc lsC rest) q) : W p l e R s m args below meth c H locs n k Q (F0 m pc lsC st0) := by
  intro T hT X
  rcases hr T hT X with ⟨v9, st₀, t, T', L9, h0, X', hL, e1, e2, ⟨v2, y2, I2, L2, ad', ho2, -⟩, -⟩ | ⟨q, st₀, t, T', L9, E2, ce, h0, X', hL, e1, e2, ⟨ho2, hP, hF⟩, hce, hcv, hcl, st⟩
  · rw [ho] at ho2; cases ho2
  · cases Sum.inr.inj (ho2.symm.trans ho)
    obtain ⟨k1, k2, k3⟩ := vx_keep h0 e1 hR.2.2.2.2.2 (fun q _ h => mw_sub hR q h) (mw_sub hR) hL hF
    obtain ⟨t2, a1, b1⟩ := kx q ce T'.heap (locs ++ L9) ⟨hR.1, hR.2.1, hR.2.2.1, by rw [e1]; exact hP, hR.2.2.2.2.1, k3⟩ (by rw [e1]; exact hce) hcv hcl T' rfl X'
    exact ⟨t2, st.trans a1, b1⟩
end MWU
/-- the words of a static call; of a virtual one; of a constructor -/
def mw_wS (own : String) (idx : Nat) (yn : MethodName) (bytes : ByteArray) (maxL : Nat) (ret : Option FieldType) (z : Nat) : Prop :=
  (∀ w ∈ va_wsS own idx yn [.code yn bytes maxL ret], w ∈ mw_bg) ∧ (yn.cls ≠ "java/lang/invoke/MethodHandle" ∧ yn.cls ≠ "java/lang/invoke/VarHandle" ∧ (parseMethodDescriptor yn.desc).map (fun d => d.parameters.length) = some z) ∧ maxL ≤ 181
def mw_wV (own : String) (idx t : Nat) (yn : MethodName) (bytes : ByteArray) (maxL : Nat) (ret : Option FieldType) (z : Nat) : Prop :=
  (∀ w ∈ wsV own idx (mw_Cn t) yn [.code yn bytes maxL ret], w ∈ mw_bg) ∧ (yn.cls = mw_Cn t ∧ yn.cls ≠ "java/lang/invoke/MethodHandle" ∧ yn.cls ≠ "java/lang/invoke/VarHandle" ∧ (parseMethodDescriptor yn.desc).map (fun d => d.parameters.length) = some z) ∧ maxL ≤ 181
def mw_wI (own : String) (idx : Nat) (yn : MethodName) (bytes : ByteArray) (maxL z : Nat) : Prop :=
  (∀ w ∈ ([.methodLink own idx yn, .instanceMethod yn, .initialized yn.cls, .code yn bytes maxL none] : List Cond), w ∈ mw_bg) ∧ (yn.cls ≠ "java/lang/invoke/MethodHandle" ∧ yn.cls ≠ "java/lang/invoke/VarHandle" ∧ (parseMethodDescriptor yn.desc).map (fun d => d.parameters.length) = some z) ∧ yn.name = "<init>" ∧ maxL ≤ 181
theorem mw_wcode {w : Cond} (h : w ∈ mw_bg) : ∀ z ∈ w :: mw_bg, z ∈ mw_bg := fun z hz => (List.mem_cons.mp hz).elim (fun e => e ▸ h) id
theorem mw_gS {own : String} {idx : Nat} {yn : MethodName} {w : Cond} (h : ∀ z ∈ va_wsS own idx yn [w], z ∈ mw_bg) : GoodIn mw_bg (va_wsS own idx yn (w :: mw_bg)) := by
  refine mw_bgood' (fun z hz => ?_)
  unfold va_wsS at h hz
  rcases List.mem_append.mp hz with h1 | h1
  · exact h z (List.mem_append_left _ h1)
  · exact mw_wcode (h w (List.mem_append_right _ List.mem_cons_self)) z h1
theorem mw_gV {own C : String} {idx : Nat} {yn : MethodName} {w : Cond} (h : ∀ z ∈ wsV own idx C yn [w], z ∈ mw_bg) : GoodIn mw_bg (wsV own idx C yn (w :: mw_bg)) := by
  refine mw_bgood' (fun z hz => ?_)
  unfold wsV at h hz
  rcases List.mem_append.mp hz with h1 | h1
  · exact h z (List.mem_append_left _ h1)
  · exact mw_wcode (h w (List.mem_append_right _ List.mem_cons_self)) z h1
section MWC
variable {own : String} {cc : ByteArray} {D0 CM SM : Nat} {X : mw_X} {pc : Nat} {ls : List (Option Value)} {st rest : List Value} {y : mw_Y} {I : mw_I} {L : mw_L} {n k : Nat}
theorem mw_rev (ad : Nat → Nat) (as rest : List Value) : (as.reverse ++ rest).map (mw_tr ad) = (as.map (mw_tr ad)).reverse ++ rest.map (mw_tr ad) := by rw [List.map_append, List.map_reverse]
theorem mw_revV (ad : Nat → Nat) (as rest : List Value) (b : Nat) : (as.reverse ++ .ref b :: rest).map (mw_tr ad) = (as.map (mw_tr ad)).reverse ++ .ref (ad b) :: rest.map (mw_tr ad) := by rw [List.map_append, List.map_reverse, List.map_cons]; rfl
theorem mw_back (ad : Nat → Nat) (v : Option Value) (rest : List Value) : (v.map (mw_tr ad)).toList ++ rest.map (mw_tr ad) = (v.toList ++ rest).map (mw_tr ad) := by cases v <;> rfl
/-- a static call that returns, making no cell that lasts -/
theorem mw_cS (hX : mw_Ok own cc D0 CM SM X) {yn : MethodName} {bytes : ByteArray} {maxL : Nat} {ret : Option FieldType} {d0 mc ms idx z : Nat} (as : List Value) {v : Option Value} {I' : mw_I} {L' : mw_L} (w : mw_wS own idx yn bytes maxL ret z) (dg : decode cc pc = .ok (.invokestatic idx, 3)) (hc : mw_CT (mw_l X) yn (.code yn bytes maxL ret) d0 mc ms as (y, I, L) (.inl (v, y, I', L'))) (hz : as.length = z) (hd : d0 < D0) (hn : n + mc ≤ CM) (hk : k + ms ≤ SM) (hst : (rest.map fun v => v.category).sum ≤ 8)
    (kk : mw_G X (pc + 3) ls (v.toList ++ rest) y I' L' (n + mc) (k + ms)) : mw_G X pc ls (as.reverse ++ rest) y I L n k := by
  obtain ⟨p, l, e, R, s, m, args, below, meth, c, Q, D, cA, ad0, N0⟩ := X
  obtain ⟨hx, hb, hown, hts, hK, hZ, hl, hr1, hr2, hr3, hr4⟩ := hX
  intro ad H locs lsC hR hL
  rw [mw_rev]
  have hM := hc hl D cA ad H.size hR.2.2.1
  have hp := mw_pre (as := as) hR hK hZ
  have cw := va_cwS (R := R) (bytes := bytes) (maxL := maxL) (ret := ret) (rm := mw_rm d0 mc ms) (mc := mc) (ms := ms) z hts (mw_gS w.1) rfl rfl rfl w.2.1 (mw_room hd hr1 hr2 w.2.2)
  refine mw_use (vx_runS (nL := c.maxLocals) ⟨hx, hb, rfl, hown, hts⟩ hM cw hp rfl (by rw [List.length_map]; exact hz) hL.1 rfl (lv_room (by rw [mw_st_cat]; exact hst)) dg ⟨by omega, by omega⟩) hR rfl (fun ad' H1 locs1 hR1 hadd => ?_)
  have ha : ∀ j, ad' j = ad j := fun j => hadd j (by omega)
  have hae : ad' = ad := funext ha
  subst hae
  rw [mw_back]
  exact kk ad' H1 locs1 lsC hR1 hL
/-- a call of a method that returns, making no cell that lasts -/
theorem mw_cV (hX : mw_Ok own cc D0 CM SM X) {yn : MethodName} {bytes : ByteArray} {maxL : Nat} {ret : Option FieldType} {d0 mc ms idx z t b n0 : Nat} (as : List Value) {v : Option Value} {I' : mw_I} {L' : mw_L} (w : mw_wV own idx t yn bytes maxL ret z) (dg : decode cc pc = .ok (.invokevirtual idx, 3)) (hc : mw_CT (mw_l X) yn (.code yn bytes maxL ret) d0 mc ms (.ref b :: as) (y, I, L) (.inl (v, y, I', L'))) (hb0 : b < y.1) (hsh : y.2.1 b = (t + 4, n0)) (ht : t < 3) (hz : as.length = z) (hd : d0 < D0) (hn : n + mc ≤ CM) (hk : k + ms ≤ SM) (hst : (rest.map fun v => v.category).sum ≤ 8)
    (kk : mw_G X (pc + 3) ls (v.toList ++ rest) y I' L' (n + mc) (k + ms)) : mw_G X pc ls (as.reverse ++ .ref b :: rest) y I L n k := by
  obtain ⟨p, l, e, R, s, m, args, below, meth, c, Q, D, cA, ad0, N0⟩ := X
  obtain ⟨hx, hb, hown, hts, hK, hZ, hl, hr1, hr2, hr3, hr4⟩ := hX
  intro ad H locs lsC hR hL
  rw [mw_revV]
  have hM := hc hl D cA ad H.size hR.2.2.1
  have hp := mw_pre (as := .ref b :: as) hR hK hZ
  have he : (mw_ws cA ad y I L)[b]? = some (ad b, .inr (t, mw_fs ad t y I b)) := by rw [mw_get hb0, mw_eo hsh]
  have cw := cwV (R := R) (bytes := bytes) (maxL := maxL) (ret := ret) (rm := mw_rm d0 mc ms) (mc := mc) (ms := ms) z hts (mw_gV w.1) rfl rfl rfl w.2.1 (mw_room hd hr1 hr2 w.2.2)
  refine mw_use (vx_runV (nL := c.maxLocals) (b := ad b) (As := as.map (mw_tr ad)) ⟨hx, hb, rfl, hown, hts⟩ hM cw ⟨hp.1, va_recv hK hR.2.2.2.1 (mw_cl_t ht) he, hp.2⟩ rfl (by rw [List.length_map]; exact hz) hL.1 rfl (lv_room (by rw [mw_st_cat]; exact hst)) dg ⟨by omega, by omega⟩) hR rfl (fun ad' H1 locs1 hR1 hadd => ?_)
  have ha : ∀ j, ad' j = ad j := fun j => hadd j (by omega)
  have hae : ad' = ad := funext ha
  subst hae
  rw [mw_back]
  exact kk ad' H1 locs1 lsC hR1 hL
/-- a constructor: cells may come -/
theorem mw_cI (hX : mw_Ok own cc D0 CM SM X) {yn : MethodName} {bytes : ByteArray} {maxL : Nat} {d0 mc ms idx z b : Nat} (as : List Value) {y' : mw_Y} {I' : mw_I} {L' : mw_L} (w : mw_wI own idx yn bytes maxL z) (dg : decode cc pc = .ok (.invokespecial idx, 3)) (hc : mw_CT (mw_l X) yn (.code yn bytes maxL none) d0 mc ms (.ref b :: as) (y, I, L) (.inl (none, y', I', L'))) (hz : as.length = z) (hd : d0 < D0) (hn : n + mc ≤ CM) (hk : k + ms ≤ SM) (hst : (rest.map fun v => v.category).sum ≤ 8)
    (hls : ∀ v, some v ∈ ls → mw_ok y.1 y'.1 v) (hrs : ∀ v, v ∈ rest → mw_ok y.1 y'.1 v)
    (kk : mw_G X (pc + 3) ls rest y' I' L' (n + mc) (k + ms)) : mw_G X pc ls (as.reverse ++ .ref b :: rest) y I L n k := by
  obtain ⟨p, l, e, R, s, m, args, below, meth, c, Q, D, cA, ad0, N0⟩ := X
  obtain ⟨hx, hb, hown, hts, hK, hZ, hl, hr1, hr2, hr3, hr4⟩ := hX
  intro ad H locs lsC hR hL
  rw [mw_revV]
  have hM := hc hl D cA ad H.size hR.2.2.1
  have hp := mw_pre (as := .ref b :: as) hR hK hZ
  have cw := cwI (R := R) (own := own) (index := idx) (bytes := bytes) (maxL := maxL) (rm := mw_rm d0 mc ms) (mc := mc) (ms := ms) z hts (ws := .code yn bytes maxL none :: mw_bg) (mw_bgood' (mw_wcode (w.1 _ (by simp)))) rfl rfl rfl (hts _ (w.1 _ (by simp))) (hts _ (w.1 _ (by simp))) (hts _ (w.1 _ (by simp))) w.2.2.1 w.2.1 (mw_room hd hr1 hr2 w.2.2.2)
  refine mw_use (vx_runI (nL := c.maxLocals) (b := ad b) (As := as.map (mw_tr ad)) ⟨hx, hb, rfl, hown, hts⟩ hM cw hp rfl (by rw [List.length_map]; exact hz) hL.1 rfl (lv_room (by rw [mw_st_cat]; exact hst)) dg ⟨by omega, by omega⟩) hR rfl (fun ad' H1 locs1 hR1 hadd => ?_)
  have h9 := kk ad' H1 locs1 lsC hR1 (hL.ad hadd hls)
  rw [mw_st_ad hadd rest hrs] at h9
  exact h9
/-- what a body owes at its end -/
def mw_End (S0 : mw_S) (out : mw_O) (mc ms : Nat) (ret : Option FieldType) (X : mw_X) : Prop :=
  match X with
  | (p, l, e, R, s, m, args, below, meth, c, Q, D, cA, ad0, N0) => Q = vx_MQ below (mw_Qc D cA ad0 s.heap.size S0 out) (mw_XC D cA ad0 s.heap.size S0 out) args s mc ms (mw_AA ad0 S0.1.1 s.heap.size) ∧ N0 = S0.1.1 ∧ meth.locks = false ∧ meth.sig.returnType = ret
def mw_noT (X : mw_X) : Prop := ∀ x ∈ (mw_code X).exceptionTable.toList, False
variable {S0 : mw_S} {out : mw_O} {mc ms : Nat}
theorem mw_ireturn (hX : mw_Ok own cc D0 CM SM X) (hE : mw_End S0 out mc ms (some .int) X) {v : Int32} (d : decode cc pc = .ok (.ireturn, 1)) (ho : out = .inl (some (.int v), y, I, L)) (hn : n ≤ mc) (hk : k ≤ ms) : mw_G X pc ls [.int v] y I L n k := by
  obtain ⟨p, l, e, R, s, m, args, below, meth, c, Q, D, cA, ad0, N0⟩ := X
  obtain ⟨hx, hb, -⟩ := hX
  obtain ⟨hQ, hN, hlk, hret⟩ := hE
  subst hQ
  subst hN
  intro ad H locs lsC hR hL
  refine W.widen hn hk (vx_ret ?_)
  exact W.iret (v := v) hx hb hret (fun t ht hW => ⟨some (.int v), y, I, L, ad, ho, rfl, hR.1, hR.2.2.1, hR.2.1, by rw [ht]; exact hR.2.2.2.1, hR.2.2.2.2.1, hR.2.2.2.2.2.F ht⟩) hR.2.2.2.2.2.2.2 d hlk
theorem mw_zreturn (hX : mw_Ok own cc D0 CM SM X) (hE : mw_End S0 out mc ms (some .boolean) X) {v : Int32} (d : decode cc pc = .ok (.ireturn, 1)) (ho : out = .inl (some (.int v), y, I, L)) (hv : v = 0 ∨ v = 1) (hn : n ≤ mc) (hk : k ≤ ms) : mw_G X pc ls [.int v] y I L n k := by
  obtain ⟨p, l, e, R, s, m, args, below, meth, c, Q, D, cA, ad0, N0⟩ := X
  obtain ⟨hx, hb, -⟩ := hX
  obtain ⟨hQ, hN, hlk, hret⟩ := hE
  subst hQ
  subst hN
  intro ad H locs lsC hR hL
  refine W.widen hn hk (vx_ret ?_)
  exact W.zret (v := v) hx hb hret (by rcases hv with rfl | rfl <;> rfl) (fun t ht hW => ⟨some (.int v), y, I, L, ad, ho, rfl, hR.1, hR.2.2.1, hR.2.1, by rw [ht]; exact hR.2.2.2.1, hR.2.2.2.2.1, hR.2.2.2.2.2.F ht⟩) hR.2.2.2.2.2.2.2 d hlk
theorem mw_return (hX : mw_Ok own cc D0 CM SM X) (hE : mw_End S0 out mc ms none X) (d : decode cc pc = .ok (.return_, 1)) (ho : out = .inl (none, y, I, L)) (hn : n ≤ mc) (hk : k ≤ ms) : mw_G X pc ls [] y I L n k := by
  obtain ⟨p, l, e, R, s, m, args, below, meth, c, Q, D, cA, ad0, N0⟩ := X
  obtain ⟨hx, hb, -⟩ := hX
  obtain ⟨hQ, hN, hlk, hret⟩ := hE
  subst hQ
  subst hN
  intro ad H locs lsC hR hL
  refine W.widen hn hk (vx_ret ?_)
  exact W.vret hx hb hret (fun t ht hW => ⟨none, y, I, L, ad, ho, rfl, hR.1, hR.2.2.1, hR.2.1, by rw [ht]; exact hR.2.2.2.1, hR.2.2.2.2.1, hR.2.2.2.2.2.F ht⟩) hR.2.2.2.2.2.2.2 d hlk
theorem mw_home {D : va_G} {cA : Nat → ClassId} {ad0 : Nat → Nat} {s : State} {ad : Nat → Nat} {H : Heap} {locs : List Loc} (hR : mw_Rl D cA ad0 y.1 s ad y I L H locs) : mw_ws cA ad y I L = mw_ws cA ad0 y I L := mw_ws_ad hR.2.2.1 (fun r hr => hR.2.1 r (Or.inl hr))
/-- a static call that throws; nobody here catches -/
theorem mw_cSX (hX : mw_Ok own cc D0 CM SM X) {ret0 : Option FieldType} (hE : mw_End (y, I, L) out mc ms ret0 X) (hT : mw_noT X) {yn : MethodName} {bytes : ByteArray} {maxL : Nat} {ret : Option FieldType} {d0 mc0 ms0 idx z : Nat} (as : List Value) {E : String} (w : mw_wS own idx yn bytes maxL ret z) (dg : decode cc pc = .ok (.invokestatic idx, 3)) (hc : mw_CT (mw_l X) yn (.code yn bytes maxL ret) d0 mc0 ms0 as (y, I, L) (.inr E)) (hz : as.length = z) (hd : d0 < D0) (hn : n + mc0 ≤ CM) (hk : k + ms0 ≤ SM) (hst : (rest.map fun v => v.category).sum ≤ 8) (ho : out = .inr E) (hn1 : n + mc0 ≤ mc) (hk1 : k + ms0 ≤ ms) : mw_G X pc ls (as.reverse ++ rest) y I L n k := by
  obtain ⟨p, l, e, R, s, m, args, below, meth, c, Q, D, cA, ad0, N0⟩ := X
  obtain ⟨hx, hb, hown, hts, hK, hZ, hl, hr1, hr2, hr3, hr4⟩ := hX
  obtain ⟨hQ, hN, hlk, hret⟩ := hE
  subst hQ
  subst hN
  intro ad H locs lsC hR hL
  rw [mw_rev]
  have hM := hc hl D cA ad H.size hR.2.2.1
  have hp := mw_pre (as := as) hR hK hZ
  have cw := va_cwS (R := R) (bytes := bytes) (maxL := maxL) (ret := ret) (rm := mw_rm d0 mc0 ms0) (mc := mc0) (ms := ms0) z hts (mw_gS w.1) rfl rfl rfl w.2.1 (mw_room hd hr1 hr2 w.2.2)
  refine mw_useX (vx_runS (nL := c.maxLocals) ⟨hx, hb, rfl, hown, hts⟩ hM cw hp rfl (by rw [List.length_map]; exact hz) hL.1 rfl (lv_room (by rw [mw_st_cat]; exact hst)) dg ⟨by omega, by omega⟩) hR rfl (fun q ce H1 locs1 hR1 hce hcv hcl => ?_)
  refine vx_out (fun x hx => (hT x hx).elim) hlk hce hcv hcl (fun t ht hA => ⟨ho, ?_, hR1.2.2.2.2.2.F ht⟩) hR1.2.2.2.2.2.2.2 hn1 hk1
  rw [ht]
  show va_P D mw_cl (mw_ws cA ad0 y I L) H1
  rw [← mw_home hR1]
  exact hR1.2.2.2.1
end MWC
end
section
/-! a body's entry; throws; catches; cells that come -/
theorem mw_args_mem : ∀ (vs : List Value) (b : Nat), (∀ v ∈ vs, v.category = 1) → ∀ (i : Nat) (v : Value), vs[i]? = some v → (b + i, v) ∈ lv_args b vs
  | [], _, _, i, v, h => by simp at h
  | w :: vs, b, hc, 0, v, h => by
    simp only [List.getElem?_cons_zero, Option.some.injEq] at h
    subst h
    exact List.mem_cons_self
  | w :: vs, b, hc, i + 1, v, h => by
    rw [List.getElem?_cons_succ] at h
    have h1 := mw_args_mem vs (b + 1) (fun v hv => hc v (List.mem_cons_of_mem _ hv)) i v h
    have hw : ¬ w.category = 2 := by rw [hc w List.mem_cons_self]; decide
    show (b + (i + 1), v) ∈ (b, w) :: lv_args (if w.category = 2 then b + 2 else b + 1) vs
    rw [if_neg hw, show b + (i + 1) = b + 1 + i by omega]
    exact List.mem_cons_of_mem _ h1
theorem mw_sl_len : ∀ (vs : List Value), (∀ v ∈ vs, v.category = 1) → (lg_sl vs).length = vs.length
  | [], _ => rfl
  | w :: vs, hc => by
    have hw : ¬ w.category = 2 := by rw [hc w List.mem_cons_self]; decide
    have h1 := mw_sl_len vs (fun v hv => hc v (List.mem_cons_of_mem _ hv))
    have h2 : lg_sl (w :: vs) = [.val w] ++ lg_sl vs := by simp [lg_sl, hw]
    rw [h2, List.length_append, h1]
    simp [Nat.add_comm]
theorem mw_LR0 {ad : Nat → Nat} {nL : Nat} {as : List Value} (hc : ∀ v ∈ as, v.category = 1) (hl : as.length ≤ nL) : mw_LR ad nL (as.map some ++ List.replicate (nL - as.length) none) ((lg_sl (as.map (mw_tr ad)) ++ List.replicate (nL - (lg_sl (as.map (mw_tr ad))).length) Slot.unset).toArray) := by
  have hc' : ∀ v ∈ as.map (mw_tr ad), v.category = 1 := by
    intro v hv
    obtain ⟨w, hw, rfl⟩ := List.mem_map.mp hv
    rw [mw_tr_cat]
    exact hc w hw
  have h := lv_entry (as.map (mw_tr ad)) (n := nL) (by rw [mw_sl_len _ hc', List.length_map]; exact hl)
  refine ⟨h.1, h.2.1, by simp; omega, fun i v hv => ?_⟩
  have hi : i < as.length := by
    rcases Nat.lt_or_ge i as.length with q | q
    · exact q
    · rw [List.getElem?_append_right (by simpa using q)] at hv
      have := List.mem_of_getElem? hv
      have := List.eq_of_mem_replicate this
      cases this
  rw [List.getElem?_append_left (by simpa using hi)] at hv
  have hv2 : as[i]? = some v := by
    rw [List.getElem?_map] at hv
    cases ha : as[i]? with
    | none => rw [ha] at hv; cases hv
    | some w => rw [ha] at hv; exact Option.some.inj hv
  refine ⟨hc v (List.mem_of_getElem? hv2), h.2.2 (i, mw_tr ad v) ?_⟩
  have h3 := mw_args_mem (as.map (mw_tr ad)) 0 hc' i (mw_tr ad v) (by rw [List.getElem?_map, hv2]; rfl)
  rw [Nat.zero_add] at h3
  exact h3
def mw_nm (nm : String) (X : mw_X) : Prop := (mw_meth X).name = nm
theorem mw_rm_ok (d mc ms : Nat) : 10 * d + 10 ≤ (mw_rm d mc ms).frames ∧ 200 * d + 300 ≤ (mw_rm d mc ms).locals ∧ mc ≤ (mw_rm d mc ms).cells ∧ ms ≤ (mw_rm d mc ms).slots := by
  unfold mw_rm
  dsimp only
  omega
theorem mw_D0 {cA : Nat → ClassId} {ad : Nat → Nat} {y : mw_Y} {I : mw_I} {L : mw_L} {A : Nat → Prop} {sz : Nat} (h : va_D A (mw_ws cA ad y I L)) : va_D (mw_AA ad y.1 sz) (mw_ws cA ad y I L) := ⟨h.1, fun k q hk => by
  obtain ⟨h1, rfl⟩ := mw_got hk
  exact Or.inl ⟨k, h1, rfl⟩⟩
theorem mw_enter {l : Launch} {yn : MethodName} {bytes : ByteArray} {maxL : Nat} {ret : Option FieldType} {d mc ms : Nat} {as : List Value} {y : mw_Y} {I : mw_I} {L : mw_L} {out : mw_O} (own : String) (ho : yn.cls = own) (hy : plainName yn.cls = true) (hcat : ∀ v ∈ as, v.category = 1) (hlen : as.length ≤ maxL)
    (body : ∀ X : mw_X, mw_Ok own bytes d mc ms X → mw_l X = l → mw_End (y, I, L) out mc ms ret X → mw_noT X → mw_nm yn.name X → mw_G X 0 (as.map some ++ List.replicate (maxL - as.length) none) [] y I L 0 0) : mw_CT l yn (.code yn bytes maxL ret) d mc ms as (y, I, L) out := by
  intro hl D cA ad sz hwf
  refine vx_ofW (cc := bytes) (maxL := maxL) (ret := ret) hy rfl ?_
  intro p e s m args below meth c s₁ B hml htab hv
  obtain ⟨rfl, hsz, hK, hP, hD0, hZ⟩ := hv
  have hts := atoms_spec (ws := .code yn bytes maxL ret :: mw_bg) B.pre
  have hown := findClass_of_methodNamed B.named
  rw [ho] at hown
  subst hsz
  rw [lg_entry_eq]
  have h := body (p, l, e, mw_rm d mc ms, s, m, (as.map (mw_tr ad)).toArray, below, meth, c, vx_MQ below (mw_Qc D cA ad s.heap.size (y, I, L) out) (mw_XC D cA ad s.heap.size (y, I, L) out) (as.map (mw_tr ad)).toArray s mc ms (mw_AA ad y.1 s.heap.size), D, cA, ad, y.1) ⟨B.exec, B.bytes, hown, fun w hw => hts w (List.mem_cons_of_mem _ hw), hK, hZ, hl, mw_rm_ok d mc ms⟩ rfl ⟨rfl, rfl, B.notSynchronized, B.returns⟩ htab (name_of_methodNamed B.named B.method).1
  exact h ad s.heap [] _ ⟨Nat.le_refl _, fun _ _ => rfl, hwf, hP, mw_D0 hD0, va_S.rf⟩ (by rw [hml]; exact mw_LR0 hcat hlen)
/-- .. of a body with handlers -/
theorem mw_enterH {l : Launch} {yn : MethodName} {bytes : ByteArray} {maxL : Nat} {ret : Option FieldType} {hh : List (Nat × Nat × Nat × Nat)} {d mc ms : Nat} {as : List Value} {y : mw_Y} {I : mw_I} {L : mw_L} {out : mw_O} (own : String) (ho : yn.cls = own) (hy : plainName yn.cls = true) (hcat : ∀ v ∈ as, v.category = 1) (hlen : as.length ≤ maxL)
    (body : ∀ X : mw_X, mw_Ok own bytes d mc ms X → mw_l X = l → mw_End (y, I, L) out mc ms ret X → (mw_code X).exceptionTable.toList = tableOf hh → mw_G X 0 (as.map some ++ List.replicate (maxL - as.length) none) [] y I L 0 0) : mw_CT l yn (.codeWith yn bytes maxL ret hh) d mc ms as (y, I, L) out := by
  intro hl D cA ad sz hwf
  refine vx_ofWH (cc := bytes) (maxL := maxL) (ret := ret) (hh := hh) hy rfl ?_
  intro p e s m args below meth c s₁ B hml hv
  obtain ⟨rfl, hsz, hK, hP, hD0, hZ⟩ := hv
  have hts := atoms_spec (ws := .codeWith yn bytes maxL ret hh :: mw_bg) B.pre
  have hown := findClass_of_methodNamed B.named
  rw [ho] at hown
  subst hsz
  rw [lg_entry_eq]
  have h := body (p, l, e, mw_rm d mc ms, s, m, (as.map (mw_tr ad)).toArray, below, meth, c, vx_MQ below (mw_Qc D cA ad s.heap.size (y, I, L) out) (mw_XC D cA ad s.heap.size (y, I, L) out) (as.map (mw_tr ad)).toArray s mc ms (mw_AA ad y.1 s.heap.size), D, cA, ad, y.1) ⟨B.exec, B.bytes, hown, fun w hw => hts w (List.mem_cons_of_mem _ hw), hK, hZ, hl, mw_rm_ok d mc ms⟩ rfl ⟨rfl, rfl, B.notSynchronized, B.returns⟩ (vx_table (x := yn) B (hts _ List.mem_cons_self))
  exact h ad s.heap [] _ ⟨Nat.le_refl _, fun _ _ => rfl, hwf, hP, mw_D0 hD0, va_S.rf⟩ (by rw [hml]; exact mw_LR0 hcat hlen)
abbrev mw_sup : List String := ["java/lang/RuntimeException", "java/lang/Exception"]
def mw_cw (cls : String) : List Cond := [.castable cls cls, .declares mw_dR, .declares mw_dE, .declares mw_dT]
theorem mw_cwT (cls : String) : ∀ w ∈ mw_cw cls, w.onTables = true := by
  intro w hw
  simp only [mw_cw, List.mem_cons, List.not_mem_nil, or_false] at hw
  rcases hw with rfl | rfl | rfl | rfl <;> rfl
theorem mw_cwZ {cls : String} {U : State} (h1 : va_Nw (.castable cls cls) U) (h2 : va_Nw (.declares mw_dR) U ∧ va_Nw (.declares mw_dE) U ∧ va_Nw (.declares mw_dT) U) : ∀ w ∈ mw_cw cls, va_Nw w U := by
  intro w hw
  simp only [mw_cw, List.mem_cons, List.not_mem_nil, or_false] at hw
  rcases hw with rfl | rfl | rfl | rfl
  · exact h1
  · exact h2.1
  · exact h2.2.1
  · exact h2.2.2
/-- what 'throw new cls(text)' in WaterCascade asks of the tables -/
def mw_thr (ik is ic : Nat) (cls text : String) : Prop :=
  Bundle.fit cls = true ∧ Cond.classLink RX1 ik cls ∈ mw_bg ∧ Cond.initialized cls ∈ mw_bg ∧ (∀ w ∈ (vx_atS RX1 ic cls mw_sup).filter goodWord, w ∈ mw_bg) ∧ (∀ w ∈ (vx_atS RX1 ic cls mw_sup).filter (fun w => !goodWord w), w ∈ mw_cw cls) ∧ (∀ w ∈ Cond.classLink RX1 ik cls :: Cond.initialized cls :: vx_atS RX1 ic cls mw_sup, vx_ot w = true) ∧ (∀ (A : Nat → Prop) (U : State), mw_ZZ A U → (∃ sa, vk_R RX1 is text sa U) ∧ ∀ w ∈ mw_cw cls, va_Nw w U)
theorem mw_supfit : ∀ z ∈ mw_sup, Bundle.fit z = true := by decide +kernel
section MWT
variable {own : String} {cc : ByteArray} {D0 CM SM : Nat} {X : mw_X} {pc : Nat} {ls : List (Option Value)} {st rest : List Value} {y : mw_Y} {I : mw_I} {L : mw_L} {n k : Nat} {S0 : mw_S} {out : mw_O} {mc ms : Nat}
theorem mw_throw (hX : mw_Ok RX1 cc D0 CM SM X) {ret0 : Option FieldType} (hE : mw_End (y, I, L) out mc ms ret0 X) (hT : mw_noT X) {ik is ic : Nat} {cls text : String} (hq : mw_thr ik is ic cls text) (d0 : decode cc pc = .ok (.new ik, 3)) (d3 : decode cc (pc + 3) = .ok (.dup, 1)) (d4 : decode cc (pc + 4) = .ok (.ldc is, 2)) (d6 : decode cc (pc + 6) = .ok (.invokespecial ic, 3)) (d9 : decode cc (pc + 9) = .ok (.athrow, 1)) (ho : out = .inr cls) (hn : n + 1 ≤ CM) (hk : k + 6 ≤ SM) (hn1 : n + 1 ≤ mc) (hk1 : k + 6 ≤ ms) (hst : (st.map fun v => v.category).sum ≤ 8) : mw_G X pc ls st y I L n k := by
  obtain ⟨p, l, e, R, s, m, args, below, meth, c, Q, D, cA, ad0, N0⟩ := X
  obtain ⟨hx, hb, hown, hts, hK, hZ, hl, hr1, hr2, hr3, hr4⟩ := hX
  obtain ⟨hQ, hN, hlk, hret⟩ := hE
  subst hQ
  subst hN
  intro ad H locs lsC hR hL
  obtain ⟨q1, q2, q3, q4, q5, q6, q7⟩ := hq
  obtain ⟨⟨sa, hstr⟩, hca⟩ := q7 _ _ hZ
  refine vx_throwS (A := mw_AA ad0 y.1 s.heap.size) (names := mw_sup) hx hb hl hown q1 mw_supfit (hts _ q2) (hts _ q3) hstr (vx_hat (fun w hw => hts w (q4 w hw)) q5 (fun w hw => va_Nw.use (mw_cwT _ w hw) (hca w hw))) q6 hZ.1 hZ.2.1 hR.2.2.2.2.2 hL.1 d0 d3 d4 d6 d9 (fun x hx => (hT x hx).elim) ?_ ?_ (by omega) (by omega) hlk (fun t hA hz hq9 => ⟨ho, ?_, ?_⟩) hR.2.2.2.2.2.2.2 hn1 hk1
  · show 2 + 3 < R.frames
    omega
  · rw [mw_st_cat]
    show _ + (13 * (2 + 1) + 43) ≤ R.locals
    omega
  · show va_P D mw_cl (mw_ws cA ad0 y I L) t.heap
    rw [← mw_home hR]
    exact hR.2.2.2.1.kept (fun j q hj => hq9 q.1 (hR.2.2.2.1 j q hj).lt)
  · exact ⟨Nat.le_trans hR.2.2.2.2.2.1 hz, fun q h1 h2 => (hq9 q (Nat.lt_of_lt_of_le h1 hR.2.2.2.2.2.1)).trans (hR.2.2.2.2.2.2.1 q h1 h2)⟩
def mw_wSH (own : String) (idx : Nat) (yn : MethodName) (bytes : ByteArray) (maxL : Nat) (ret : Option FieldType) (hh : List (Nat × Nat × Nat × Nat)) (z : Nat) : Prop :=
  (∀ w ∈ va_wsS own idx yn [.codeWith yn bytes maxL ret hh], w ∈ mw_bg) ∧ (yn.cls ≠ "java/lang/invoke/MethodHandle" ∧ yn.cls ≠ "java/lang/invoke/VarHandle" ∧ (parseMethodDescriptor yn.desc).map (fun d => d.parameters.length) = some z) ∧ maxL ≤ 181
/-- a static call of a method with handlers that returns -/
theorem mw_cSH (hX : mw_Ok own cc D0 CM SM X) {yn : MethodName} {bytes : ByteArray} {maxL : Nat} {ret : Option FieldType} {hh : List (Nat × Nat × Nat × Nat)} {d0 mc ms idx z : Nat} (as : List Value) {v : Option Value} {I' : mw_I} {L' : mw_L} (w : mw_wSH own idx yn bytes maxL ret hh z) (dg : decode cc pc = .ok (.invokestatic idx, 3)) (hc : mw_CT (mw_l X) yn (.codeWith yn bytes maxL ret hh) d0 mc ms as (y, I, L) (.inl (v, y, I', L'))) (hz : as.length = z) (hd : d0 < D0) (hn : n + mc ≤ CM) (hk : k + ms ≤ SM) (hst : (rest.map fun v => v.category).sum ≤ 8)
    (kk : mw_G X (pc + 3) ls (v.toList ++ rest) y I' L' (n + mc) (k + ms)) : mw_G X pc ls (as.reverse ++ rest) y I L n k := by
  obtain ⟨p, l, e, R, s, m, args, below, meth, c, Q, D, cA, ad0, N0⟩ := X
  obtain ⟨hx, hb, hown, hts, hK, hZ, hl, hr1, hr2, hr3, hr4⟩ := hX
  intro ad H locs lsC hR hL
  rw [mw_rev]
  have hM := hc hl D cA ad H.size hR.2.2.1
  have hp := mw_pre (as := as) hR hK hZ
  have cw := vx_cwSW (R := R) (bytes := bytes) (maxL := maxL) (ret := ret) (hh := hh) (rm := mw_rm d0 mc ms) (mc := mc) (ms := ms) z hts (mw_gS w.1) rfl rfl rfl w.2.1 (mw_room hd hr1 hr2 w.2.2)
  refine mw_use (vx_runSX (nL := c.maxLocals) ⟨hx, hb, rfl, hown, hts⟩ hM cw hp rfl (by rw [List.length_map]; exact hz) hL.1 rfl (lv_room (by rw [mw_st_cat]; exact hst)) dg ⟨by omega, by omega⟩) hR rfl (fun ad' H1 locs1 hR1 hadd => ?_)
  have ha : ∀ j, ad' j = ad j := fun j => hadd j (by omega)
  have hae : ad' = ad := funext ha
  subst hae
  rw [mw_back]
  exact kk ad' H1 locs1 lsC hR1 hL
/-- which of the two an exception's type isn't -/
theorem mw_other {A : Nat → Prop} {U : State} (h : mw_ZZ A U) {E nm : String} (he : (E = mw_IAE ∧ nm = mw_ISE) ∨ (E = mw_ISE ∧ nm = mw_IAE)) : va_Nc E nm U := by
  rcases he with ⟨rfl, rfl⟩ | ⟨rfl, rfl⟩
  · exact h.2.2.2.2.2.2.2.1
  · exact h.2.2.2.2.2.2.2.2.1
theorem mw_self {A : Nat → Prop} {U : State} (h : mw_ZZ A U) {E : String} (he : E = mw_IAE ∨ E = mw_ISE) {args : Array Value} : (Cond.castable E E).before args U = true := by
  rcases he with rfl | rfl
  · exact va_any rfl h.2.2.2.2.2.1
  · exact va_any rfl h.2.2.2.2.2.2.1
/-- a call that throws; a handler here takes it and lays it away -/
theorem mw_cVC (hX : mw_Ok own cc D0 CM SM X) {yn : MethodName} {bytes : ByteArray} {maxL : Nat} {ret : Option FieldType} {d0 mc ms idx z t b n0 : Nat} (as : List Value) {E : String} (w : mw_wV own idx t yn bytes maxL ret z) (dg : decode cc pc = .ok (.invokevirtual idx, 3)) (hc : mw_CT (mw_l X) yn (.code yn bytes maxL ret) d0 mc ms (.ref b :: as) (y, I, L) (.inr E)) (hb0 : b < y.1) (hsh : y.2.1 b = (t + 4, n0)) (ht : t < 3) (hz : as.length = z) (hd : d0 < D0) (hn : n + mc ≤ CM) (hk : k + ms ≤ SM) (hst : (rest.map fun v => v.category).sum ≤ 8)
    (pre : List ExceptionTableEntry) (x : ExceptionTableEntry) (suf : List ExceptionTableEntry) (hT : (mw_code X).exceptionTable.toList = pre ++ x :: suf) (hpass : ∀ z ∈ pre, z.catchType ≠ 0 ∧ ∃ nm : String, Cond.classLink own z.catchType nm ∈ mw_bg ∧ ((E = mw_IAE ∧ nm = mw_ISE) ∨ (E = mw_ISE ∧ nm = mw_IAE))) (hx0 : covers x pc = true) (h0 : x.catchType ≠ 0) (hl0 : Cond.classLink own x.catchType E ∈ mw_bg) (hE : E = mw_IAE ∨ E = mw_ISE) {hp2 i wd : Nat} (hpc : x.handlerPc = hp2) (hi : i < ls.length)
    (da : (∃ f : Fin 4, decode cc hp2 = .ok (.astore_n f, 1) ∧ (f : Nat) = i ∧ wd = 1) ∨ (decode cc hp2 = .ok (.astore i, 2) ∧ wd = 2))
    (kk : mw_G X (hp2 + wd) (ls.set i none) [] y I L (n + mc) (k + ms)) : mw_G X pc ls (as.reverse ++ .ref b :: rest) y I L n k := by
  obtain ⟨p, l, e, R, s, m, args, below, meth, c, Q, D, cA, ad0, N0⟩ := X
  obtain ⟨hx, hb, hown, hts, hK, hZ, hl, hr1, hr2, hr3, hr4⟩ := hX
  intro ad H locs lsC hR hL
  rw [mw_revV]
  have hM := hc hl D cA ad H.size hR.2.2.1
  have hp := mw_pre (as := .ref b :: as) hR hK hZ
  have he : (mw_ws cA ad y I L)[b]? = some (ad b, .inr (t, mw_fs ad t y I b)) := by rw [mw_get hb0, mw_eo hsh]
  have cw := cwV (R := R) (bytes := bytes) (maxL := maxL) (ret := ret) (rm := mw_rm d0 mc ms) (mc := mc) (ms := ms) z hts (mw_gV w.1) rfl rfl rfl w.2.1 (mw_room hd hr1 hr2 w.2.2)
  refine mw_useX (vx_runV (nL := c.maxLocals) (b := ad b) (As := as.map (mw_tr ad)) ⟨hx, hb, rfl, hown, hts⟩ hM cw ⟨hp.1, va_recv hK hR.2.2.2.1 (mw_cl_t ht) he, hp.2⟩ rfl (by rw [List.length_map]; exact hz) hL.1 rfl (lv_room (by rw [mw_st_cat]; exact hst)) dg ⟨by omega, by omega⟩) hR rfl (fun q ce H1 locs1 hR1 hce hcv hcl => ?_)
  refine vx_catch hown pre x suf hT (fun z hz => Or.inr ?_) hx0 h0 (hts _ hl0) (mw_self hZ hE) hce hcv hcl ?_
  · obtain ⟨z0, nm, z1, z2⟩ := hpass z hz
    exact ⟨z0, nm, hts _ z1, mw_other hZ z2⟩
  · rw [hpc]
    rcases da with ⟨f, da, hf, hw⟩ | ⟨da, hw⟩
    · subst hw
      exact lv_astore_n hx hb da hf hL.has (by rw [← hL.2.2.1]; exact hi) rfl (fun ls' h' => kk ad H1 locs1 ls' hR1 (hL.drop h'))
    · subst hw
      exact lv_astore hx hb da hL.has (by rw [← hL.2.2.1]; exact hi) rfl (fun ls' h' => kk ad H1 locs1 ls' hR1 (hL.drop h'))
end MWT
end
section
/-! cells that come -/
def mw_ny (y : mw_Y) (kd : Nat × Nat) : mw_Y := (y.1 + 1, fun a => if a = y.1 then kd else y.2.1 a, fun a => if a = y.1 then fun _ => none else y.2.2 a)
def mw_zI (I : mw_I) (a : Nat) : mw_I := fun q => if q = a then fun _ => 0 else I q
def mw_zL (L : mw_L) (a : Nat) : mw_L := fun q => if q = a then fun _ => 0 else L q
def mw_aa (ad : Nat → Nat) (a q : Nat) : Nat → Nat := fun k => if k = a then q else ad k
theorem mw_aa_ne {ad : Nat → Nat} {a q k : Nat} (h : k ≠ a) : mw_aa ad a q k = ad k := if_neg h
theorem mw_aa_eq {ad : Nat → Nat} {a q : Nat} : mw_aa ad a q a = q := if_pos rfl
theorem mw_wf_ny {y : mw_Y} {kd : Nat × Nat} (h : mw_wf y) : mw_wf (mw_ny y kd) := by
  intro k j r hk hr
  show r < y.1 + 1
  by_cases e : k = y.1
  · subst e
    simp [mw_ny] at hr
  · have h1 : y.2.2 k j = some r := by simpa [mw_ny, e] using hr
    have h2 : k < y.1 := by
      have : k < y.1 + 1 := hk
      omega
    exact Nat.lt_succ_of_lt (h k j r h2 h1)
/-- a layout that agrees with y on y's names; contents too -/
def mw_ext (y y' : mw_Y) (I I' : mw_I) (L L' : mw_L) : Prop := ∀ k, k < y.1 → y'.2.1 k = y.2.1 k ∧ y'.2.2 k = y.2.2 k ∧ I' k = I k ∧ L' k = L k
theorem mw_en_ext {cA : Nat → ClassId} {ad ad' : Nat → Nat} {y y' : mw_Y} {I I' : mw_I} {L L' : mw_L} {k : Nat} (hw : mw_wf y) (h : mw_ext y y' I I' L L') (ha : ∀ r, r < y.1 → ad' r = ad r) (hk : k < y.1) : mw_en cA ad' y' I' L' k = mw_en cA ad y I L k := by
  obtain ⟨h1, h2, h3, h4⟩ := h k hk
  rw [mw_en_I (I := I) (L := L) h3 h4, mw_en_R (y := y) h1 h2]
  exact mw_en_ad hw hk ha
theorem mw_ws_push {cA : Nat → ClassId} {ad ad' : Nat → Nat} {y y' : mw_Y} {I I' : mw_I} {L L' : mw_L} (hw : mw_wf y) (hy : y'.1 = y.1 + 1) (h : mw_ext y y' I I' L L') (ha : ∀ r, r < y.1 → ad' r = ad r) : mw_ws cA ad' y' I' L' = mw_ws cA ad y I L ++ [(ad' y.1, mw_en cA ad' y' I' L' y.1)] := by
  unfold mw_ws
  rw [hy, List.range_succ, List.map_append]
  congr 1
  apply List.map_congr_left
  intro k hk
  have hk' : k < y.1 := List.mem_range.mp hk
  rw [ha k hk', mw_en_ext hw h ha hk']
theorem mw_ext_ny {y : mw_Y} {kd : Nat × Nat} {I : mw_I} {L : mw_L} : mw_ext y (mw_ny y kd) I (mw_zI I y.1) L (mw_zL L y.1) := fun k hk => by
  have e : ¬ k = y.1 := by omega
  exact ⟨if_neg e, if_neg e, if_neg e, if_neg e⟩
theorem mw_Rl.push {D : va_G} {cA : Nat → ClassId} {ad0 : Nat → Nat} {N0 : Nat} {s : State} {ad : Nat → Nat} {y : mw_Y} {I : mw_I} {L : mw_L} {H H1 : Heap} {locs locs1 : List Loc} {q : Nat} {kd : Nat × Nat} {e : va_E} (h : mw_Rl D cA ad0 N0 s ad y I L H locs) (he : mw_en cA (mw_aa ad y.1 q) (mw_ny y kd) (mw_zI I y.1) (mw_zL L y.1) y.1 = e) (hP : va_P D mw_cl (mw_ws cA ad y I L ++ [(q, e)]) H1) (hD : va_D (mw_AA ad0 N0 s.heap.size) (mw_ws cA ad y I L ++ [(q, e)])) (hS : va_S (mw_AA ad0 N0 s.heap.size) s.heap H1 locs1) : mw_Rl D cA ad0 N0 s (mw_aa ad y.1 q) (mw_ny y kd) (mw_zI I y.1) (mw_zL L y.1) H1 locs1 := by
  have hw : mw_ws cA (mw_aa ad y.1 q) (mw_ny y kd) (mw_zI I y.1) (mw_zL L y.1) = mw_ws cA ad y I L ++ [(q, e)] := by
    rw [mw_ws_push (ad := ad) (y := y) (I := I) (L := L) h.2.2.1 rfl mw_ext_ny (fun r hr => mw_aa_ne (by omega)), he, mw_aa_eq]
  rw [← hw] at hP hD
  refine ⟨Nat.le_succ_of_le h.1, fun k hk => ?_, mw_wf_ny h.2.2.1, hP, hD, hS⟩
  have h1 := h.1
  have hk2 : k < N0 ∨ y.1 + 1 ≤ k := hk
  rw [mw_aa_ne (by omega)]
  exact h.2.1 k (by omega)
theorem mw_add_aa {ad : Nat → Nat} {y : mw_Y} {q : Nat} : ∀ k, (k < y.1 ∨ y.1 + 1 ≤ k) → mw_aa ad y.1 q k = ad k := fun k hk => mw_aa_ne (by omega)
section MWN
variable {own : String} {cc : ByteArray} {D0 CM SM : Nat} {X : mw_X} {pc : Nat} {ls : List (Option Value)} {st : List Value} {y : mw_Y} {I : mw_I} {L : mw_L} {n k : Nat}
theorem mw_fs0 (ad : Nat → Nat) {t : Nat} (ht : t < 3) {y : mw_Y} {n0 : Nat} {I : mw_I} : ∀ j, j < mw_nf t → defaultValue (mw_tyn t j) = vp_V (mw_fs ad t (mw_ny y (t + 4, n0)) (mw_zI I y.1) y.1) j := by
  intro j hj
  rw [mw_dflt t ht j hj]
  unfold vp_V
  rw [List.getD_eq_getElem?_getD, mw_fs_get hj]
  simp only [Option.getD_some, mw_fv, mw_zI, mw_ny, if_pos]
  rfl
theorem mw_new (hX : mw_Ok own cc D0 CM SM X) {t idx : Nat} (ht : t < 3) (d : decode cc pc = .ok (.new idx, 3)) (hw : Cond.classLink own idx (mw_Cn t) ∈ mw_bg ∧ Cond.instantiable (mw_Cn t) (mw_nf t) ∈ mw_bg ∧ Cond.initialized (mw_Cn t) ∈ mw_bg) (hn : n + 1 ≤ CM) (hk : k + mw_nf t ≤ SM) (hls : ∀ v, some v ∈ ls → mw_ok y.1 (y.1 + 1) v) (hst : ∀ v, v ∈ st → mw_ok y.1 (y.1 + 1) v)
    (kk : mw_G X (pc + 3) ls (.ref y.1 :: st) (mw_ny y (t + 4, 0)) (mw_zI I y.1) (mw_zL L y.1) (n + 1) (k + mw_nf t)) : mw_G X pc ls st y I L n k := by
  obtain ⟨p, l, e, R, s, m, args, below, meth, c, Q, D, cA, ad0, N0⟩ := X
  obtain ⟨hx, hb, hown, hts, hK, hZ, hl, hr1, hr2, hr3, hr4⟩ := hX
  intro ad H locs lsC hR hL
  have hfs : ∀ q, mw_en cA (mw_aa ad y.1 q) (mw_ny y (t + 4, 0)) (mw_zI I y.1) (mw_zL L y.1) y.1 = .inr (t, mw_fs ad t (mw_ny y (t + 4, 0)) (mw_zI I y.1) y.1) := by
    intro q
    rw [mw_eo (t := t) (n0 := 0) (if_pos rfl)]
    refine congrArg (fun z => Sum.inr (t, z)) ?_
    unfold mw_fs
    apply List.map_congr_left
    intro j _
    simp [mw_fv, mw_ny]
  refine va_new (ci := t) (fs := mw_fs ad t (mw_ny y (t + 4, 0)) (mw_zI I y.1) y.1) hx hb hts (mw_uws ht) (mw_tyn t) (mw_tys ht) hown (hts _ hw.1) (hts _ hw.2.1) (hts _ hw.2.2) hK hR.2.2.2.1 hR.2.2.2.2.1 hR.2.2.2.2.2 (fun q h => Or.inr h) (mw_cl_t ht) (mw_fs0 ad ht) (by omega) (by omega) d (fun q H1 hP hD hS => ?_)
  have h9 := kk (mw_aa ad y.1 q) H1 locs lsC (hR.push (hfs q) hP hD hS) (hL.ad mw_add_aa hls)
  rw [List.map_cons, mw_st_ad mw_add_aa st hst] at h9
  have e9 : mw_tr (mw_aa ad y.1 q) (.ref y.1) = .ref q := congrArg Value.ref mw_aa_eq
  rw [e9] at h9
  exact h9
theorem mw_newI (hX : mw_Ok own cc D0 CM SM X) {i : Int32} {N : Nat} (d : decode cc pc = .ok (.newarray .int, 2)) (hw : Cond.arrayClass .int ∈ mw_bg) (hi : i = nI N) (hN : N < 10000) (hn : n + 1 ≤ CM) (hk : k + N ≤ SM) (hls : ∀ v, some v ∈ ls → mw_ok y.1 (y.1 + 1) v) (hst : ∀ v, v ∈ st → mw_ok y.1 (y.1 + 1) v)
    (kk : mw_G X (pc + 2) ls (.ref y.1 :: st) (mw_ny y (0, N)) (mw_zI I y.1) (mw_zL L y.1) (n + 1) (k + N)) : mw_G X pc ls (.int i :: st) y I L n k := by
  obtain ⟨p, l, e, R, s, m, args, below, meth, c, Q, D, cA, ad0, N0⟩ := X
  obtain ⟨hx, hb, hown, hts, hK, hZ, hl, hr1, hr2, hr3, hr4⟩ := hX
  intro ad H locs lsC hR hL
  subst hi
  refine va_newa (atype := .int) (ty := .int) (a0 := (N, .inl (fun _ => 0))) hx hb (hts _ hw) rfl hK hR.2.2.2.1 hR.2.2.2.2.1 hR.2.2.2.2.2 (fun q h => Or.inr h) (fun cA => rfl) (nI_pos (by omega)) (nI_clamp (by omega)) (by show N * 4 ≤ 536870912; omega) (by omega) (by omega) d (fun q cA1 H1 hK1 hP hD hS => ?_)
  have h1 := (hK1.2 4 (cA1, .int) rfl).2
  have h2 := (hK.2 0 (cA 0, .int) rfl).2
  have h3 : cA1 = cA 0 := Option.some.inj (Eq.trans (Eq.symm h1) h2)
  subst h3
  have he : mw_en cA (mw_aa ad y.1 q) (mw_ny y (0, N)) (mw_zI I y.1) (mw_zL L y.1) y.1 = .inl (cA 0, N, .inl (fun _ => 0)) := by
    rw [mw_e0 (n0 := N) (if_pos rfl)]
    simp [mw_zI]
  have h9 := kk (mw_aa ad y.1 q) H1 locs lsC (hR.push he hP hD hS) (hL.ad mw_add_aa hls)
  rw [List.map_cons, mw_st_ad mw_add_aa st hst] at h9
  have e9 : mw_tr (mw_aa ad y.1 q) (.ref y.1) = .ref q := congrArg Value.ref mw_aa_eq
  rw [e9] at h9
  exact h9
theorem mw_newJ (hX : mw_Ok own cc D0 CM SM X) {i : Int32} {N : Nat} (d : decode cc pc = .ok (.newarray .long, 2)) (hw : Cond.arrayClass .long ∈ mw_bg) (hi : i = nI N) (hN : N < 10000) (hn : n + 1 ≤ CM) (hk : k + N ≤ SM) (hls : ∀ v, some v ∈ ls → mw_ok y.1 (y.1 + 1) v) (hst : ∀ v, v ∈ st → mw_ok y.1 (y.1 + 1) v)
    (kk : mw_G X (pc + 2) ls (.ref y.1 :: st) (mw_ny y (1, N)) (mw_zI I y.1) (mw_zL L y.1) (n + 1) (k + N)) : mw_G X pc ls (.int i :: st) y I L n k := by
  obtain ⟨p, l, e, R, s, m, args, below, meth, c, Q, D, cA, ad0, N0⟩ := X
  obtain ⟨hx, hb, hown, hts, hK, hZ, hl, hr1, hr2, hr3, hr4⟩ := hX
  intro ad H locs lsC hR hL
  subst hi
  refine va_newa (atype := .long) (ty := .long) (a0 := (N, .inr (.inl (fun _ => 0)))) hx hb (hts _ hw) rfl hK hR.2.2.2.1 hR.2.2.2.2.1 hR.2.2.2.2.2 (fun q h => Or.inr h) (fun cA => rfl) (nI_pos (by omega)) (nI_clamp (by omega)) (by show N * 8 ≤ 536870912; omega) (by omega) (by omega) d (fun q cA1 H1 hK1 hP hD hS => ?_)
  have h1 := (hK1.2 4 (cA1, .long) rfl).2
  have h2 := (hK.2 1 (cA 1, .long) rfl).2
  have h3 : cA1 = cA 1 := Option.some.inj (Eq.trans (Eq.symm h1) h2)
  subst h3
  have he : mw_en cA (mw_aa ad y.1 q) (mw_ny y (1, N)) (mw_zI I y.1) (mw_zL L y.1) y.1 = .inl (cA 1, N, .inr (.inl (fun _ => 0))) := by
    rw [mw_e1 (n0 := N) (if_pos rfl)]
    simp [mw_zL]
  have h9 := kk (mw_aa ad y.1 q) H1 locs lsC (hR.push he hP hD hS) (hL.ad mw_add_aa hls)
  rw [List.map_cons, mw_st_ad mw_add_aa st hst] at h9
  have e9 : mw_tr (mw_aa ad y.1 q) (.ref y.1) = .ref q := congrArg Value.ref mw_aa_eq
  rw [e9] at h9
  exact h9
theorem mw_newP (hX : mw_Ok own cc D0 CM SM X) {i : Int32} {N idx : Nat} (d : decode cc pc = .ok (.anewarray idx, 3)) (hw : Cond.classLink own idx RX0 ∈ mw_bg) (hi : i = nI N) (hN : N < 10000) (hn : n + 1 ≤ CM) (hk : k + N ≤ SM) (hls : ∀ v, some v ∈ ls → mw_ok y.1 (y.1 + 1) v) (hst : ∀ v, v ∈ st → mw_ok y.1 (y.1 + 1) v)
    (kk : mw_G X (pc + 3) ls (.ref y.1 :: st) (mw_ny y (2, N)) (mw_zI I y.1) (mw_zL L y.1) (n + 1) (k + N)) : mw_G X pc ls (.int i :: st) y I L n k := by
  obtain ⟨p, l, e, R, s, m, args, below, meth, c, Q, D, cA, ad0, N0⟩ := X
  obtain ⟨hx, hb, hown, hts, hK, hZ, hl, hr1, hr2, hr3, hr4⟩ := hX
  intro ad H locs lsC hR hL
  subst hi
  refine va_newq (C := RX0) hx hb hown (hts _ hw) hZ.2.2.2.2.2.2.2.2.2.1 hK hR.2.2.2.1 hR.2.2.2.2.1 hR.2.2.2.2.2 (fun q h => Or.inr h) (nI_pos (by omega)) (nI_clamp (by omega)) (by omega) (by omega) (by omega) d (fun q cA1 H1 hK1 hP hD hS => ?_)
  obtain ⟨-, -, -, -, -, h1⟩ := (hK1.2 4 (cA1, .object RX0) rfl).2
  obtain ⟨-, -, -, -, -, h2⟩ := (hK.2 2 (cA 2, .object RX0) rfl).2
  have h3 : cA1 = cA 2 := Option.some.inj (Eq.trans (Eq.symm h1) h2)
  subst h3
  have he : mw_en cA (mw_aa ad y.1 q) (mw_ny y (2, N)) (mw_zI I y.1) (mw_zL L y.1) y.1 = .inl (cA 2, N, .inr (.inr (.inr (.inr (fun _ => none))))) := by
    rw [mw_e2 (n0 := N) (if_pos rfl)]
    simp [mw_ny]
  have h9 := kk (mw_aa ad y.1 q) H1 locs lsC (hR.push he hP hD hS) (hL.ad mw_add_aa hls)
  rw [List.map_cons, mw_st_ad mw_add_aa st hst] at h9
  have e9 : mw_tr (mw_aa ad y.1 q) (.ref y.1) = .ref q := congrArg Value.ref mw_aa_eq
  rw [e9] at h9
  exact h9
theorem mw_wf_pr {y : mw_Y} {a j r : Nat} (h : mw_wf y) (hr : r < y.1) : mw_wf (mw_pr y a j r) := by
  intro k i q hk hq
  by_cases e : k = a
  · subst e
    have h1 : va_up (y.2.2 k) j (some r) i = some q := by simpa [mw_pr] using hq
    by_cases ei : i = j
    · subst ei
      have : r = q := by simpa [va_up] using h1
      subst this
      exact hr
    · have : y.2.2 k i = some q := by simpa [va_up, ei] using h1
      exact h k i q hk this
  · have h1 : y.2.2 k i = some q := by simpa [mw_pr, e] using hq
    exact h k i q hk h1
theorem mw_putR (hX : mw_Ok own cc D0 CM SM X) (hnm : mw_nm "<init>" X) {a t j idx n0 r : Nat} {u : FieldType} (d : decode cc pc = .ok (.putfield idx, 3)) (ha : a < y.1) (hsh : y.2.1 a = (t + 4, n0)) (hl : mw_fl own idx t j) (ho : own = mw_Cn t) (hu : mw_tyn t j = .array u) (ht : t < 3) (hj : j < mw_nf t) (hi : mw_isI t j = false) (hr : r < y.1) (kk : mw_G X (pc + 3) ls st (mw_pr y a j r) I L n k) : mw_G X pc ls (.ref r :: .ref a :: st) y I L n k := by
  obtain ⟨p, l, e, R, s, m, args, below, meth, c, Q, D, cA, ad0, N0⟩ := X
  obtain ⟨hx, hb, hown, hts, hK, -⟩ := hX
  intro ad H locs lsC hR hL
  have he : (mw_ws cA ad y I L)[a]? = some (ad a, .inr (t, mw_fs ad t y I a)) := by rw [mw_get ha, mw_eo hsh]
  obtain ⟨hf, hdc⟩ := mw_refs t ht j hj hi
  refine va_putF (ci := t) (v := .ref (ad r)) (ty := .array u) hx hb hts (mw_uws ht) (mw_tyn t) (mw_tys ht) (mw_nms ht) hown hK hR.2.2.2.1 hR.2.2.2.2.1 hR.2.2.2.2.2 a he (mw_cl_t ht) j hj (hts _ hl) (fun _ h => h) hf hnm (hdc.trans ho.symm) (by rw [mw_tys ht j hj, hu]) rfl rfl (by rw [mw_fs_len]; exact hj) d (fun H1 locs1 hP hD hS => kk ad H1 locs1 lsC ?_ hL)
  have hset : (mw_ws cA ad y I L).set a (ad a, .inr (t, (mw_fs ad t y I a).set j (.ref (ad r)))) = mw_ws cA ad (mw_pr y a j r) I L := by
    refine mw_set ha rfl ?_ (fun i hi2 => mw_en_R rfl (if_neg hi2))
    rw [mw_eo (y := mw_pr y a j r) hsh, mw_fs_setR hj hi]
  rw [hset] at hP hD
  exact ⟨hR.1, hR.2.1, mw_wf_pr hR.2.2.1 hr, hP, hD, hS⟩
theorem mw_aastore (hX : mw_Ok own cc D0 CM SM X) {a N j r n0 : Nat} {i : Int32} (d : decode cc pc = .ok (.aastore, 1)) (ha : a < y.1) (hsh : y.2.1 a = (2, N)) (hi : i = nI j) (hj : j < N) (hN : N < 2 ^ 31) (hr : r < y.1) (hs2 : y.2.1 r = (0 + 4, n0)) (kk : mw_G X (pc + 1) ls st (mw_pr y a j r) I L n k) : mw_G X pc ls (.ref r :: .int i :: .ref a :: st) y I L n k := by
  obtain ⟨p, l, e, R, s, m, args, below, meth, c, Q, D, cA, ad0, N0⟩ := X
  obtain ⟨hx, hb, hown, hts, hK, -⟩ := hX
  intro ad H locs lsC hR hL
  subst hi
  have he : (mw_ws cA ad y I L)[a]? = some (ad a, .inl (cA 2, N, .inr (.inr (.inr (.inr (fun j => (y.2.2 a j).map ad)))))) := by rw [mw_get ha, mw_e2 hsh]
  have hv : (mw_ws cA ad y I L)[r]? = some (ad r, .inr (0, mw_fs ad 0 y I r)) := by rw [mw_get hr, mw_eo hs2]
  refine va_astq (r := (RX0, TX0, 16)) hx hb hK hR.2.2.2.1 hR.2.2.2.2.1 hR.2.2.2.2.2 a 2 r 0 he rfl hv rfl (vp_in_nI hj hN) d (fun H1 locs1 hP hD hS => kk ad H1 locs1 lsC ?_ hL)
  have hset : (mw_ws cA ad y I L).set a (ad a, .inl (cA 2, N, .inr (.inr (.inr (.inr (va_up (fun j => (y.2.2 a j).map ad) (nI j).toNatClampNeg (some (ad r)))))))) = mw_ws cA ad (mw_pr y a j r) I L := by
    refine mw_set ha rfl ?_ (fun i hi2 => mw_en_R rfl (if_neg hi2))
    rw [mw_e2 (y := mw_pr y a j r) hsh, nI_clamp (by omega)]
    have hfn : (fun q => ((mw_pr y a j r).2.2 a q).map ad) = va_up (fun q => (y.2.2 a q).map ad) j (some (ad r)) := by
      funext q
      by_cases hq : q = j
      · subst hq
        simp [mw_pr, va_up]
      · simp [mw_pr, va_up, hq]
    rw [hfn]
  rw [hset] at hP hD
  exact ⟨hR.1, hR.2.1, mw_wf_pr hR.2.2.1 hr, hP, hD, hS⟩
theorem mw_obj (hX : mw_Ok own cc D0 CM SM X) {a idx : Nat} (d : decode cc pc = .ok (.invokespecial idx, 3)) (hw : Cond.methodLink own idx objectInit ∈ mw_bg ∧ Cond.instanceMethod objectInit ∈ mw_bg ∧ Cond.code objectInit ⟨#[0xb1]⟩ 1 none ∈ mw_bg) (hst : (st.map fun v => v.category).sum ≤ 8) (kk : mw_G X (pc + 3) ls st y I L n k) : mw_G X pc ls (.ref a :: st) y I L n k := by
  obtain ⟨p, l, e, R, s, m, args, below, meth, c, Q, D, cA, ad0, N0⟩ := X
  obtain ⟨hx, hb, hown, hts, hK, hZ, hl, hr1, hr2, hr3, hr4⟩ := hX
  intro ad H locs lsC hR hL
  refine W.objInit hx hb hown (hts _ hw.1) (hts _ hw.2.1) (hts _ hw.2.2) rfl hL.1 rfl d (by omega) ?_ (W.eq (g2 := F0 m (pc + 3) lsC (st.map (mw_tr ad))) rfl (kk ad H locs lsC hR hL))
  have h9 : ((st.map (mw_tr ad)).map fun v => v.category).sum ≤ 8 := by rw [mw_st_cat]; exact hst
  show 2 * 0 + ((st.map (mw_tr ad)).map fun v => v.category).sum + 12 ≤ R.locals
  omega
/-- new int[2][K] -/
def mw_nm2 (y : mw_Y) (K : Nat) : mw_Y := (y.1 + 3, fun a => if a = y.1 then (3, 2) else if a = y.1 + 1 then (0, K) else if a = y.1 + 2 then (0, K) else y.2.1 a, fun a => if a = y.1 then (fun j => if j < 2 then some (y.1 + 1 + j) else none) else if a = y.1 + 1 then fun _ => none else if a = y.1 + 2 then fun _ => none else y.2.2 a)
def mw_z3 (I : mw_I) (a : Nat) : mw_I := fun q => if q = a + 1 then fun _ => 0 else if q = a + 2 then fun _ => 0 else I q
def mw_a3 (ad : Nat → Nat) (a q : Nat) (r : Nat → Nat) : Nat → Nat := fun k => if k = a then q else if k = a + 1 then r 0 else if k = a + 2 then r 1 else ad k
theorem mw_newM (hX : mw_Ok own cc D0 CM SM X) {i z : Int32} {K idx : Nat} (d : decode cc pc = .ok (.multianewarray idx 2, 4)) (hw : Cond.classLink own idx ("[" ++ (FieldType.array .int).toString) ∈ mw_bg ∧ Cond.arrayClass .int ∈ mw_bg) (hi : i = nI 2) (hz : z = nI K) (hK0 : K < 10000) (hn : n + 3 ≤ CM) (hk : k + (2 + 2 * K) ≤ SM) (hls : ∀ v, some v ∈ ls → mw_ok y.1 (y.1 + 3) v) (hst : ∀ v, v ∈ st → mw_ok y.1 (y.1 + 3) v)
    (kk : mw_G X (pc + 4) ls (.ref y.1 :: st) (mw_nm2 y K) (mw_z3 I y.1) L (n + 3) (k + (2 + 2 * K))) : mw_G X pc ls (.int z :: .int i :: st) y I L n k := by
  obtain ⟨p, l, e, R, s, m, args, below, meth, c, Q, D, cA, ad0, N0⟩ := X
  obtain ⟨hx, hb, hown, hts, hK, hZ, hl, hr1, hr2, hr3, hr4⟩ := hX
  intro ad H locs lsC hR hL
  subst hi
  subst hz
  have hcy : s.vm.findClass (FieldType.array .int).toString = some (cA 0) := (hK.2 0 (cA 0, .int) rfl).2
  refine va_mna (X := mw_ws cA ad y I L) (L := []) (f := fun _ => .inr (0, [])) (ty := .int) (cy := cA 0) (N' := 2) (K' := K) (z := (K, .inl (fun _ => 0))) hx hb hown (hts _ hw.1) hZ.2.2.2.2.2.2.2.2.2.2.1 (hts _ hw.2) hcy hK (by show va_P D mw_cl (mw_ws cA ad y I L ++ []) H; rw [List.append_nil]; exact hR.2.2.2.1) (by show va_D _ (mw_ws cA ad y I L ++ []); rw [List.append_nil]; exact hR.2.2.2.2.1) hR.2.2.2.2.2 (fun q h => Or.inr h) (by decide) (nI_pos (by omega)) (by decide) (nI_clamp (by omega)) (by decide) (by show K * 4 ≤ 536870912; omega) (by omega) rfl rfl (by omega) (by omega) (fun c => ?_) d (fun q r cA1 H1 hinj _ hK1 hP hD hS => ?_)
  · rw [vp_cell_i, ← arrV_new]
    rfl
  · have h1 := (hK1.2 4 (cA1, .array .int) rfl).2
    have h2 := (hK.2 3 (cA 3, .array .int) rfl).2
    have h3 : cA1 = cA 3 := Option.some.inj (Eq.trans (Eq.symm h1) h2)
    subst h3
    have hpl : va_pl ([] ++ (List.range 2).map r) (vr_up (fun _ => .inr (0, [])) ((List.range 2).map r) (.inl (cA 0, (K, .inl (fun _ => 0))))) = [(r 0, .inl (cA 0, (K, .inl (fun _ => 0)))), (r 1, .inl (cA 0, (K, .inl (fun _ => 0))))] := by
      simp [va_pl, vr_up, List.range_succ]
    have hext : mw_ext y (mw_nm2 y K) I (mw_z3 I y.1) L L := fun j hj => by
      have e0 : ¬ j = y.1 := by omega
      have e1 : ¬ j = y.1 + 1 := by omega
      have e2 : ¬ j = y.1 + 2 := by omega
      refine ⟨?_, ?_, ?_, rfl⟩
      · simp [mw_nm2, e0, e1, e2]
      · simp [mw_nm2, e0, e1, e2]
      · simp [mw_z3, e1, e2]
    have had : ∀ j, (j < y.1 ∨ y.1 + 3 ≤ j) → mw_a3 ad y.1 q r j = ad j := fun j hj => by
      have e0 : ¬ j = y.1 := by omega
      have e1 : ¬ j = y.1 + 1 := by omega
      have e2 : ¬ j = y.1 + 2 := by omega
      simp [mw_a3, e0, e1, e2]
    have a0 : mw_a3 ad y.1 q r y.1 = q := if_pos rfl
    have a1 : mw_a3 ad y.1 q r (y.1 + 1) = r 0 := by simp [mw_a3]
    have a2 : mw_a3 ad y.1 q r (y.1 + 2) = r 1 := by simp [mw_a3]
    have n0 : mw_en cA (mw_a3 ad y.1 q r) (mw_nm2 y K) (mw_z3 I y.1) L y.1 = .inl (cA 3, 2, .inr (.inr (.inr (.inr (fun i => if i < 2 then some (r i) else none))))) := by
      rw [mw_e3 (n0 := 2) (by simp [mw_nm2])]
      have hfn : (fun j => ((mw_nm2 y K).2.2 y.1 j).map (mw_a3 ad y.1 q r)) = (fun i => if i < 2 then some (r i) else none) := by
        funext j
        rcases (by omega : j = 0 ∨ j = 1 ∨ 2 ≤ j) with rfl | rfl | hj
        · simp [mw_nm2, a1]
        · simp [mw_nm2, a2]
        · simp [mw_nm2, Nat.not_lt.mpr hj]
      rw [hfn]
    have n1 : mw_en cA (mw_a3 ad y.1 q r) (mw_nm2 y K) (mw_z3 I y.1) L (y.1 + 1) = .inl (cA 0, K, .inl (fun _ => 0)) := by
      rw [mw_e0 (n0 := K) (by simp [mw_nm2])]
      simp [mw_z3]
    have n2 : mw_en cA (mw_a3 ad y.1 q r) (mw_nm2 y K) (mw_z3 I y.1) L (y.1 + 2) = .inl (cA 0, K, .inl (fun _ => 0)) := by
      rw [mw_e0 (n0 := K) (by simp [mw_nm2])]
      simp [mw_z3]
    have hws : mw_ws cA (mw_a3 ad y.1 q r) (mw_nm2 y K) (mw_z3 I y.1) L = (mw_ws cA ad y I L ++ [(q, .inl (cA 3, 2, .inr (.inr (.inr (.inr (fun i => if i < 2 then some (r i) else none))))))]) ++ [(r 0, .inl (cA 0, (K, .inl (fun _ => 0)))), (r 1, .inl (cA 0, (K, .inl (fun _ => 0))))] := by
      have e3 : (List.range (y.1 + 3)) = List.range y.1 ++ [y.1] ++ [y.1 + 1, y.1 + 2] := by simp [List.range_succ]
      unfold mw_ws
      rw [show (mw_nm2 y K).1 = y.1 + 3 from rfl, e3, List.map_append, List.map_append]
      congr 1
      · congr 1
        · apply List.map_congr_left
          intro j hj
          have hj' : j < y.1 := List.mem_range.mp hj
          rw [had j (Or.inl hj'), mw_en_ext hR.2.2.1 hext (fun x hx => had x (Or.inl hx)) hj']
        · simp [a0, n0]
      · simp [a1, a2, n1, n2]
    rw [hpl, ← hws] at hP hD
    have hwf : mw_wf (mw_nm2 y K) := by
      intro a j x ha hx
      show x < y.1 + 3
      by_cases e0 : a = y.1
      · subst e0
        have hx2 : (if j < 2 then some (y.1 + 1 + j) else none) = some x := by simpa [mw_nm2] using hx
        split at hx2
        · cases hx2; omega
        · cases hx2
      · by_cases hlt : a < y.1
        · have e1 : ¬ a = y.1 + 1 := by omega
          have e2 : ¬ a = y.1 + 2 := by omega
          have hx2 : y.2.2 a j = some x := by simpa [mw_nm2, e0, e1, e2] using hx
          have := hR.2.2.1 a j x hlt hx2
          omega
        · have ha3 : a < y.1 + 3 := ha
          rcases (by omega : a = y.1 + 1 ∨ a = y.1 + 2) with rfl | rfl
          · simp [mw_nm2] at hx
          · simp [mw_nm2] at hx
    have h9 := kk (mw_a3 ad y.1 q r) H1 locs lsC ⟨Nat.le_trans hR.1 (by show y.1 ≤ y.1 + 3; omega), fun j hj => ?_, hwf, hP, hD, hS⟩ (hL.ad had hls)
    · rw [List.map_cons, mw_st_ad had st hst] at h9
      have e9 : mw_tr (mw_a3 ad y.1 q r) (.ref y.1) = .ref q := congrArg Value.ref a0
      rw [e9] at h9
      rw [show n + 1 + 2 = n + 3 by omega, show k + 2 + 2 * K = k + (2 + 2 * K) by omega]
      exact h9
    · have h1 := hR.1
      have hj2 : j < N0 ∨ y.1 + 3 ≤ j := hj
      rw [had j (by omega)]
      exact hR.2.1 j (by omega)
end MWN
end
section
/-! the tables' words by the pool's numbers: fields, calls, throws, new cells (by program: wip/whole/gen13.py) -/
theorem fl_X0_9 : mw_fl RX0 9 0 0 := mw_inT 35 (by decide +kernel) rfl
theorem fl_X0_15 : mw_fl RX0 15 0 1 := mw_inT 37 (by decide +kernel) rfl
theorem fl_X0_18 : mw_fl RX0 18 0 2 := mw_inT 39 (by decide +kernel) rfl
theorem fl_X0_21 : mw_fl RX0 21 0 5 := mw_inT 45 (by decide +kernel) rfl
theorem fl_X0_24 : mw_fl RX0 24 0 6 := mw_inT 47 (by decide +kernel) rfl
theorem fl_X0_28 : mw_fl RX0 28 0 7 := mw_inT 49 (by decide +kernel) rfl
theorem fl_X0_31 : mw_fl RX0 31 0 8 := mw_inT 51 (by decide +kernel) rfl
theorem fl_X0_36 : mw_fl RX0 36 0 9 := mw_inT 53 (by decide +kernel) rfl
theorem fl_X0_39 : mw_fl RX0 39 0 10 := mw_inT 55 (by decide +kernel) rfl
theorem fl_X0_42 : mw_fl RX0 42 0 11 := mw_inT 57 (by decide +kernel) rfl
theorem fl_X0_58 : mw_fl RX0 58 0 4 := mw_inT 44 (by decide +kernel) rfl
theorem fl_X0_69 : mw_fl RX0 69 0 3 := mw_inT 42 (by decide +kernel) rfl
theorem fl_X0_72 : mw_fl RX0 72 0 13 := mw_inT 60 (by decide +kernel) rfl
theorem fl_X0_78 : mw_fl RX0 78 0 14 := mw_inT 62 (by decide +kernel) rfl
theorem fl_X0_81 : mw_fl RX0 81 0 15 := mw_inT 64 (by decide +kernel) rfl
theorem fl_X0_93 : mw_fl RX0 93 0 12 := mw_inT 58 (by decide +kernel) rfl
theorem fl_X1_11 : mw_fl RX1 11 1 0 := mw_inT 100 (by decide +kernel) rfl
theorem fl_X1_15 : mw_fl RX1 15 1 1 := mw_inT 101 (by decide +kernel) rfl
theorem fl_X1_19 : mw_fl RX1 19 1 2 := mw_inT 102 (by decide +kernel) rfl
theorem fl_X1_22 : mw_fl RX1 22 1 3 := mw_inT 103 (by decide +kernel) rfl
theorem fl_X1_25 : mw_fl RX1 25 1 4 := mw_inT 104 (by decide +kernel) rfl
theorem fl_X1_28 : mw_fl RX1 28 1 5 := mw_inT 105 (by decide +kernel) rfl
theorem fl_X1_40 : mw_fl RX1 40 0 0 := mw_inT 36 (by decide +kernel) rfl
theorem fl_X1_44 : mw_fl RX1 44 0 1 := mw_inT 38 (by decide +kernel) rfl
theorem fl_X1_47 : mw_fl RX1 47 0 2 := mw_inT 40 (by decide +kernel) rfl
theorem fl_X1_50 : mw_fl RX1 50 0 4 := mw_inT 43 (by decide +kernel) rfl
theorem fl_X1_53 : mw_fl RX1 53 0 5 := mw_inT 46 (by decide +kernel) rfl
theorem fl_X1_56 : mw_fl RX1 56 0 3 := mw_inT 41 (by decide +kernel) rfl
theorem fl_X1_62 : mw_fl RX1 62 0 6 := mw_inT 48 (by decide +kernel) rfl
theorem fl_X1_65 : mw_fl RX1 65 0 10 := mw_inT 56 (by decide +kernel) rfl
theorem fl_X1_72 : mw_fl RX1 72 1 6 := mw_inT 106 (by decide +kernel) rfl
theorem fl_X1_85 : mw_fl RX1 85 0 7 := mw_inT 50 (by decide +kernel) rfl
theorem fl_X1_101 : mw_fl RX1 101 0 9 := mw_inT 54 (by decide +kernel) rfl
theorem fl_X1_107 : mw_fl RX1 107 0 12 := mw_inT 59 (by decide +kernel) rfl
theorem fl_X1_110 : mw_fl RX1 110 0 13 := mw_inT 61 (by decide +kernel) rfl
theorem fl_X1_113 : mw_fl RX1 113 0 14 := mw_inT 63 (by decide +kernel) rfl
theorem fl_X1_116 : mw_fl RX1 116 0 15 := mw_inT 65 (by decide +kernel) rfl
theorem fl_X1_162 : mw_fl RX1 162 0 8 := mw_inT 52 (by decide +kernel) rfl
theorem fl_X2_7 : mw_fl RX2 7 2 0 := mw_inT 480 (by decide +kernel) rfl
theorem fl_X2_13 : mw_fl RX2 13 2 1 := mw_inT 481 (by decide +kernel) rfl
theorem fl_X2_16 : mw_fl RX2 16 2 2 := mw_inT 482 (by decide +kernel) rfl
theorem fl_X2_19 : mw_fl RX2 19 2 3 := mw_inT 483 (by decide +kernel) rfl
theorem fl_X2_22 : mw_fl RX2 22 2 4 := mw_inT 484 (by decide +kernel) rfl
theorem fl_X2_25 : mw_fl RX2 25 2 5 := mw_inT 485 (by decide +kernel) rfl
theorem fl_X2_28 : mw_fl RX2 28 2 6 := mw_inT 486 (by decide +kernel) rfl
theorem fl_X2_31 : mw_fl RX2 31 2 7 := mw_inT 487 (by decide +kernel) rfl
theorem fl_X2_34 : mw_fl RX2 34 2 8 := mw_inT 488 (by decide +kernel) rfl
theorem fl_X2_37 : mw_fl RX2 37 2 9 := mw_inT 489 (by decide +kernel) rfl
theorem fl_X2_40 : mw_fl RX2 40 2 11 := mw_inT 491 (by decide +kernel) rfl
theorem fl_X2_43 : mw_fl RX2 43 2 12 := mw_inT 492 (by decide +kernel) rfl
theorem fl_X2_46 : mw_fl RX2 46 2 13 := mw_inT 493 (by decide +kernel) rfl
theorem fl_X2_49 : mw_fl RX2 49 2 14 := mw_inT 494 (by decide +kernel) rfl
theorem fl_X2_52 : mw_fl RX2 52 2 15 := mw_inT 495 (by decide +kernel) rfl
theorem fl_X2_55 : mw_fl RX2 55 2 16 := mw_inT 496 (by decide +kernel) rfl
theorem fl_X2_58 : mw_fl RX2 58 2 17 := mw_inT 497 (by decide +kernel) rfl
theorem fl_X2_61 : mw_fl RX2 61 2 18 := mw_inT 498 (by decide +kernel) rfl
theorem fl_X2_64 : mw_fl RX2 64 2 19 := mw_inT 499 (by decide +kernel) rfl
theorem fl_X2_79 : mw_fl RX2 79 2 10 := mw_inT 490 (by decide +kernel) rfl
theorem ws_L_7 : mw_wV RL 7 1 yX1_setPond cX1_setPond 6 none 4 := ⟨List.forall_mem_cons.mpr ⟨mw_inT 130 (by decide +kernel) rfl, List.forall_mem_cons.mpr ⟨mw_inT 131 (by decide +kernel) rfl, List.forall_mem_cons.mpr ⟨mw_inT 132 (by decide +kernel) rfl, List.forall_mem_cons.mpr ⟨mw_inT 1 (by decide +kernel) rfl, List.forall_mem_cons.mpr ⟨mw_inT 133 (by decide +kernel) rfl, fun _ h => nomatch h⟩⟩⟩⟩⟩, by decide +kernel, by decide⟩
theorem ws_L_15 : mw_wV RL 15 1 yX1_setInflow cX1_setInflow 5 (some .int) 3 := ⟨List.forall_mem_cons.mpr ⟨mw_inT 210 (by decide +kernel) rfl, List.forall_mem_cons.mpr ⟨mw_inT 211 (by decide +kernel) rfl, List.forall_mem_cons.mpr ⟨mw_inT 212 (by decide +kernel) rfl, List.forall_mem_cons.mpr ⟨mw_inT 1 (by decide +kernel) rfl, List.forall_mem_cons.mpr ⟨mw_inT 213 (by decide +kernel) rfl, fun _ h => nomatch h⟩⟩⟩⟩⟩, by decide +kernel, by decide⟩
theorem ws_L_19 : mw_wV RL 19 1 yX1_setMinimum cX1_setMinimum 4 (some .int) 2 := ⟨List.forall_mem_cons.mpr ⟨mw_inT 217 (by decide +kernel) rfl, List.forall_mem_cons.mpr ⟨mw_inT 218 (by decide +kernel) rfl, List.forall_mem_cons.mpr ⟨mw_inT 219 (by decide +kernel) rfl, List.forall_mem_cons.mpr ⟨mw_inT 1 (by decide +kernel) rfl, List.forall_mem_cons.mpr ⟨mw_inT 220 (by decide +kernel) rfl, fun _ h => nomatch h⟩⟩⟩⟩⟩, by decide +kernel, by decide⟩
theorem ws_L_23 : mw_wV RL 23 1 yX1_order cX1_order 5 (some .int) 3 := ⟨List.forall_mem_cons.mpr ⟨mw_inT 224 (by decide +kernel) rfl, List.forall_mem_cons.mpr ⟨mw_inT 225 (by decide +kernel) rfl, List.forall_mem_cons.mpr ⟨mw_inT 226 (by decide +kernel) rfl, List.forall_mem_cons.mpr ⟨mw_inT 1 (by decide +kernel) rfl, List.forall_mem_cons.mpr ⟨mw_inT 227 (by decide +kernel) rfl, fun _ h => nomatch h⟩⟩⟩⟩⟩, by decide +kernel, by decide⟩
theorem ws_L_26 : mw_wV RL 26 1 yX1_setYield cX1_setYield 6 (some .int) 4 := ⟨List.forall_mem_cons.mpr ⟨mw_inT 234 (by decide +kernel) rfl, List.forall_mem_cons.mpr ⟨mw_inT 235 (by decide +kernel) rfl, List.forall_mem_cons.mpr ⟨mw_inT 236 (by decide +kernel) rfl, List.forall_mem_cons.mpr ⟨mw_inT 1 (by decide +kernel) rfl, List.forall_mem_cons.mpr ⟨mw_inT 237 (by decide +kernel) rfl, fun _ h => nomatch h⟩⟩⟩⟩⟩, by decide +kernel, by decide⟩
theorem ws_L_30 : mw_wV RL 30 1 yX1_run cX1_run 4 (some .int) 1 := ⟨List.forall_mem_cons.mpr ⟨mw_inT 243 (by decide +kernel) rfl, List.forall_mem_cons.mpr ⟨mw_inT 244 (by decide +kernel) rfl, List.forall_mem_cons.mpr ⟨mw_inT 245 (by decide +kernel) rfl, List.forall_mem_cons.mpr ⟨mw_inT 1 (by decide +kernel) rfl, List.forall_mem_cons.mpr ⟨mw_inT 246 (by decide +kernel) rfl, fun _ h => nomatch h⟩⟩⟩⟩⟩, by decide +kernel, by decide⟩
theorem ws_L_36 : mw_wV RL 36 1 yX1_lend cX1_lend 6 (some .int) 3 := ⟨List.forall_mem_cons.mpr ⟨mw_inT 323 (by decide +kernel) rfl, List.forall_mem_cons.mpr ⟨mw_inT 324 (by decide +kernel) rfl, List.forall_mem_cons.mpr ⟨mw_inT 325 (by decide +kernel) rfl, List.forall_mem_cons.mpr ⟨mw_inT 1 (by decide +kernel) rfl, List.forall_mem_cons.mpr ⟨mw_inT 326 (by decide +kernel) rfl, fun _ h => nomatch h⟩⟩⟩⟩⟩, by decide +kernel, by decide⟩
theorem ws_L_39 : mw_wV RL 39 1 yX1_account cX1_account 3 (some .int) 2 := ⟨List.forall_mem_cons.mpr ⟨mw_inT 331 (by decide +kernel) rfl, List.forall_mem_cons.mpr ⟨mw_inT 332 (by decide +kernel) rfl, List.forall_mem_cons.mpr ⟨mw_inT 333 (by decide +kernel) rfl, List.forall_mem_cons.mpr ⟨mw_inT 1 (by decide +kernel) rfl, List.forall_mem_cons.mpr ⟨mw_inT 334 (by decide +kernel) rfl, fun _ h => nomatch h⟩⟩⟩⟩⟩, by decide +kernel, by decide⟩
theorem ws_L_42 : mw_wV RL 42 1 yX1_level cX1_level 2 (some .int) 1 := ⟨List.forall_mem_cons.mpr ⟨mw_inT 338 (by decide +kernel) rfl, List.forall_mem_cons.mpr ⟨mw_inT 339 (by decide +kernel) rfl, List.forall_mem_cons.mpr ⟨mw_inT 340 (by decide +kernel) rfl, List.forall_mem_cons.mpr ⟨mw_inT 1 (by decide +kernel) rfl, List.forall_mem_cons.mpr ⟨mw_inT 341 (by decide +kernel) rfl, fun _ h => nomatch h⟩⟩⟩⟩⟩, by decide +kernel, by decide⟩
theorem ws_L_45 : mw_wV RL 45 1 yX1_travelling cX1_travelling 3 (some .int) 2 := ⟨List.forall_mem_cons.mpr ⟨mw_inT 346 (by decide +kernel) rfl, List.forall_mem_cons.mpr ⟨mw_inT 347 (by decide +kernel) rfl, List.forall_mem_cons.mpr ⟨mw_inT 348 (by decide +kernel) rfl, List.forall_mem_cons.mpr ⟨mw_inT 1 (by decide +kernel) rfl, List.forall_mem_cons.mpr ⟨mw_inT 349 (by decide +kernel) rfl, fun _ h => nomatch h⟩⟩⟩⟩⟩, by decide +kernel, by decide⟩
theorem ws_L_48 : mw_wV RL 48 1 yX1_arriving cX1_arriving 4 (some .int) 3 := ⟨List.forall_mem_cons.mpr ⟨mw_inT 360 (by decide +kernel) rfl, List.forall_mem_cons.mpr ⟨mw_inT 361 (by decide +kernel) rfl, List.forall_mem_cons.mpr ⟨mw_inT 362 (by decide +kernel) rfl, List.forall_mem_cons.mpr ⟨mw_inT 1 (by decide +kernel) rfl, List.forall_mem_cons.mpr ⟨mw_inT 363 (by decide +kernel) rfl, fun _ h => nomatch h⟩⟩⟩⟩⟩, by decide +kernel, by decide⟩
theorem ws_L_51 : mw_wV RL 51 1 yX1_cameIn cX1_cameIn 2 (some .int) 1 := ⟨List.forall_mem_cons.mpr ⟨mw_inT 367 (by decide +kernel) rfl, List.forall_mem_cons.mpr ⟨mw_inT 368 (by decide +kernel) rfl, List.forall_mem_cons.mpr ⟨mw_inT 369 (by decide +kernel) rfl, List.forall_mem_cons.mpr ⟨mw_inT 1 (by decide +kernel) rfl, List.forall_mem_cons.mpr ⟨mw_inT 370 (by decide +kernel) rfl, fun _ h => nomatch h⟩⟩⟩⟩⟩, by decide +kernel, by decide⟩
theorem ws_L_54 : mw_wV RL 54 1 yX1_gone cX1_gone 2 (some .int) 1 := ⟨List.forall_mem_cons.mpr ⟨mw_inT 374 (by decide +kernel) rfl, List.forall_mem_cons.mpr ⟨mw_inT 375 (by decide +kernel) rfl, List.forall_mem_cons.mpr ⟨mw_inT 376 (by decide +kernel) rfl, List.forall_mem_cons.mpr ⟨mw_inT 1 (by decide +kernel) rfl, List.forall_mem_cons.mpr ⟨mw_inT 377 (by decide +kernel) rfl, fun _ h => nomatch h⟩⟩⟩⟩⟩, by decide +kernel, by decide⟩
theorem ws_L_57 : mw_wV RL 57 1 yX1_balance cX1_balance 2 (some .int) 1 := ⟨List.forall_mem_cons.mpr ⟨mw_inT 381 (by decide +kernel) rfl, List.forall_mem_cons.mpr ⟨mw_inT 382 (by decide +kernel) rfl, List.forall_mem_cons.mpr ⟨mw_inT 383 (by decide +kernel) rfl, List.forall_mem_cons.mpr ⟨mw_inT 1 (by decide +kernel) rfl, List.forall_mem_cons.mpr ⟨mw_inT 384 (by decide +kernel) rfl, fun _ h => nomatch h⟩⟩⟩⟩⟩, by decide +kernel, by decide⟩
theorem ws_L_60 : mw_wV RL 60 1 yX1_spilled cX1_spilled 2 (some .int) 1 := ⟨List.forall_mem_cons.mpr ⟨mw_inT 388 (by decide +kernel) rfl, List.forall_mem_cons.mpr ⟨mw_inT 389 (by decide +kernel) rfl, List.forall_mem_cons.mpr ⟨mw_inT 390 (by decide +kernel) rfl, List.forall_mem_cons.mpr ⟨mw_inT 1 (by decide +kernel) rfl, List.forall_mem_cons.mpr ⟨mw_inT 391 (by decide +kernel) rfl, fun _ h => nomatch h⟩⟩⟩⟩⟩, by decide +kernel, by decide⟩
theorem ws_L_63 : mw_wV RL 63 1 yX1_missed cX1_missed 2 (some .int) 1 := ⟨List.forall_mem_cons.mpr ⟨mw_inT 395 (by decide +kernel) rfl, List.forall_mem_cons.mpr ⟨mw_inT 396 (by decide +kernel) rfl, List.forall_mem_cons.mpr ⟨mw_inT 397 (by decide +kernel) rfl, List.forall_mem_cons.mpr ⟨mw_inT 1 (by decide +kernel) rfl, List.forall_mem_cons.mpr ⟨mw_inT 398 (by decide +kernel) rfl, fun _ h => nomatch h⟩⟩⟩⟩⟩, by decide +kernel, by decide⟩
theorem ws_L_66 : mw_wV RL 66 1 yX1_flow cX1_flow 2 (some .int) 1 := ⟨List.forall_mem_cons.mpr ⟨mw_inT 402 (by decide +kernel) rfl, List.forall_mem_cons.mpr ⟨mw_inT 403 (by decide +kernel) rfl, List.forall_mem_cons.mpr ⟨mw_inT 404 (by decide +kernel) rfl, List.forall_mem_cons.mpr ⟨mw_inT 1 (by decide +kernel) rfl, List.forall_mem_cons.mpr ⟨mw_inT 405 (by decide +kernel) rfl, fun _ h => nomatch h⟩⟩⟩⟩⟩, by decide +kernel, by decide⟩
theorem ws_L_69 : mw_wV RL 69 1 yX1_energy cX1_energy 2 (some .int) 1 := ⟨List.forall_mem_cons.mpr ⟨mw_inT 409 (by decide +kernel) rfl, List.forall_mem_cons.mpr ⟨mw_inT 410 (by decide +kernel) rfl, List.forall_mem_cons.mpr ⟨mw_inT 411 (by decide +kernel) rfl, List.forall_mem_cons.mpr ⟨mw_inT 1 (by decide +kernel) rfl, List.forall_mem_cons.mpr ⟨mw_inT 412 (by decide +kernel) rfl, fun _ h => nomatch h⟩⟩⟩⟩⟩, by decide +kernel, by decide⟩
theorem ws_L_72 : mw_wV RL 72 1 yX1_mix cX1_mix 3 (some .int) 2 := ⟨List.forall_mem_cons.mpr ⟨mw_inT 416 (by decide +kernel) rfl, List.forall_mem_cons.mpr ⟨mw_inT 417 (by decide +kernel) rfl, List.forall_mem_cons.mpr ⟨mw_inT 418 (by decide +kernel) rfl, List.forall_mem_cons.mpr ⟨mw_inT 1 (by decide +kernel) rfl, List.forall_mem_cons.mpr ⟨mw_inT 419 (by decide +kernel) rfl, fun _ h => nomatch h⟩⟩⟩⟩⟩, by decide +kernel, by decide⟩
theorem ws_L_75 : mw_wV RL 75 1 yX1_bestEnergy cX1_bestEnergy 2 (some .int) 1 := ⟨List.forall_mem_cons.mpr ⟨mw_inT 424 (by decide +kernel) rfl, List.forall_mem_cons.mpr ⟨mw_inT 425 (by decide +kernel) rfl, List.forall_mem_cons.mpr ⟨mw_inT 426 (by decide +kernel) rfl, List.forall_mem_cons.mpr ⟨mw_inT 1 (by decide +kernel) rfl, List.forall_mem_cons.mpr ⟨mw_inT 427 (by decide +kernel) rfl, fun _ h => nomatch h⟩⟩⟩⟩⟩, by decide +kernel, by decide⟩
theorem ws_L_78 : mw_wV RL 78 1 yX1_bestEnergyByAll cX1_bestEnergyByAll 2 (some .int) 1 := ⟨List.forall_mem_cons.mpr ⟨mw_inT 459 (by decide +kernel) rfl, List.forall_mem_cons.mpr ⟨mw_inT 460 (by decide +kernel) rfl, List.forall_mem_cons.mpr ⟨mw_inT 461 (by decide +kernel) rfl, List.forall_mem_cons.mpr ⟨mw_inT 1 (by decide +kernel) rfl, List.forall_mem_cons.mpr ⟨mw_inT 462 (by decide +kernel) rfl, fun _ h => nomatch h⟩⟩⟩⟩⟩, by decide +kernel, by decide⟩
theorem ws_L_81 : mw_wV RL 81 1 yX1_bestRelease cX1_bestRelease 2 (some .int) 1 := ⟨List.forall_mem_cons.mpr ⟨mw_inT 470 (by decide +kernel) rfl, List.forall_mem_cons.mpr ⟨mw_inT 471 (by decide +kernel) rfl, List.forall_mem_cons.mpr ⟨mw_inT 472 (by decide +kernel) rfl, List.forall_mem_cons.mpr ⟨mw_inT 1 (by decide +kernel) rfl, List.forall_mem_cons.mpr ⟨mw_inT 473 (by decide +kernel) rfl, fun _ h => nomatch h⟩⟩⟩⟩⟩, by decide +kernel, by decide⟩
theorem ws_L_84 : mw_wI RL 84 yX1_init cX1_init 2 0 := ⟨List.forall_mem_cons.mpr ⟨mw_inT 13 (by decide +kernel) rfl, List.forall_mem_cons.mpr ⟨mw_inT 14 (by decide +kernel) rfl, List.forall_mem_cons.mpr ⟨mw_inT 1 (by decide +kernel) rfl, List.forall_mem_cons.mpr ⟨mw_inT 15 (by decide +kernel) rfl, fun _ h => nomatch h⟩⟩⟩⟩, by decide +kernel, rfl, by decide⟩
theorem ws_L_87 : mw_wI RL 87 yX2_init cX2_init 2 0 := ⟨List.forall_mem_cons.mpr ⟨mw_inT 476 (by decide +kernel) rfl, List.forall_mem_cons.mpr ⟨mw_inT 477 (by decide +kernel) rfl, List.forall_mem_cons.mpr ⟨mw_inT 4 (by decide +kernel) rfl, List.forall_mem_cons.mpr ⟨mw_inT 478 (by decide +kernel) rfl, fun _ h => nomatch h⟩⟩⟩⟩, by decide +kernel, rfl, by decide⟩
theorem ws_L_88 : mw_wSH RL 88 yL_setPond cL_setPond 6 (some .int) [(0, 9, 12, 13)] 5 := ⟨List.forall_mem_cons.mpr ⟨mw_inT 126 (by decide +kernel) rfl, List.forall_mem_cons.mpr ⟨mw_inT 127 (by decide +kernel) rfl, List.forall_mem_cons.mpr ⟨mw_inT 0 (by decide +kernel) rfl, List.forall_mem_cons.mpr ⟨mw_inT 128 (by decide +kernel) rfl, fun _ h => nomatch h⟩⟩⟩⟩, by decide +kernel, by decide⟩
theorem ws_L_93 : mw_wV RL 93 2 yX2_setPond cX2_setPond 5 none 4 := ⟨List.forall_mem_cons.mpr ⟨mw_inT 545 (by decide +kernel) rfl, List.forall_mem_cons.mpr ⟨mw_inT 546 (by decide +kernel) rfl, List.forall_mem_cons.mpr ⟨mw_inT 547 (by decide +kernel) rfl, List.forall_mem_cons.mpr ⟨mw_inT 4 (by decide +kernel) rfl, List.forall_mem_cons.mpr ⟨mw_inT 548 (by decide +kernel) rfl, fun _ h => nomatch h⟩⟩⟩⟩⟩, by decide +kernel, by decide⟩
theorem ws_L_94 : mw_wV RL 94 2 yX2_thrown cX2_thrown 1 (some .int) 0 := ⟨List.forall_mem_cons.mpr ⟨mw_inT 541 (by decide +kernel) rfl, List.forall_mem_cons.mpr ⟨mw_inT 542 (by decide +kernel) rfl, List.forall_mem_cons.mpr ⟨mw_inT 543 (by decide +kernel) rfl, List.forall_mem_cons.mpr ⟨mw_inT 4 (by decide +kernel) rfl, List.forall_mem_cons.mpr ⟨mw_inT 544 (by decide +kernel) rfl, fun _ h => nomatch h⟩⟩⟩⟩⟩, by decide +kernel, by decide⟩
theorem ws_L_98 : mw_wSH RL 98 yL_setInflow cL_setInflow 6 (some .int) [(0, 12, 15, 13)] 5 := ⟨List.forall_mem_cons.mpr ⟨mw_inT 207 (by decide +kernel) rfl, List.forall_mem_cons.mpr ⟨mw_inT 208 (by decide +kernel) rfl, List.forall_mem_cons.mpr ⟨mw_inT 0 (by decide +kernel) rfl, List.forall_mem_cons.mpr ⟨mw_inT 209 (by decide +kernel) rfl, fun _ h => nomatch h⟩⟩⟩⟩, by decide +kernel, by decide⟩
theorem ws_L_101 : mw_wV RL 101 2 yX2_setInflow cX2_setInflow 5 (some .int) 3 := ⟨List.forall_mem_cons.mpr ⟨mw_inT 555 (by decide +kernel) rfl, List.forall_mem_cons.mpr ⟨mw_inT 556 (by decide +kernel) rfl, List.forall_mem_cons.mpr ⟨mw_inT 557 (by decide +kernel) rfl, List.forall_mem_cons.mpr ⟨mw_inT 4 (by decide +kernel) rfl, List.forall_mem_cons.mpr ⟨mw_inT 558 (by decide +kernel) rfl, fun _ h => nomatch h⟩⟩⟩⟩⟩, by decide +kernel, by decide⟩
theorem ws_L_102 : mw_wSH RL 102 yL_setMinimum cL_setMinimum 5 (some .int) [(0, 10, 13, 13)] 4 := ⟨List.forall_mem_cons.mpr ⟨mw_inT 214 (by decide +kernel) rfl, List.forall_mem_cons.mpr ⟨mw_inT 215 (by decide +kernel) rfl, List.forall_mem_cons.mpr ⟨mw_inT 0 (by decide +kernel) rfl, List.forall_mem_cons.mpr ⟨mw_inT 216 (by decide +kernel) rfl, fun _ h => nomatch h⟩⟩⟩⟩, by decide +kernel, by decide⟩
theorem ws_L_105 : mw_wV RL 105 2 yX2_setMinimum cX2_setMinimum 4 (some .int) 2 := ⟨List.forall_mem_cons.mpr ⟨mw_inT 559 (by decide +kernel) rfl, List.forall_mem_cons.mpr ⟨mw_inT 560 (by decide +kernel) rfl, List.forall_mem_cons.mpr ⟨mw_inT 561 (by decide +kernel) rfl, List.forall_mem_cons.mpr ⟨mw_inT 4 (by decide +kernel) rfl, List.forall_mem_cons.mpr ⟨mw_inT 562 (by decide +kernel) rfl, fun _ h => nomatch h⟩⟩⟩⟩⟩, by decide +kernel, by decide⟩
theorem ws_L_106 : mw_wSH RL 106 yL_order cL_order 6 (some .int) [(0, 12, 15, 13)] 5 := ⟨List.forall_mem_cons.mpr ⟨mw_inT 221 (by decide +kernel) rfl, List.forall_mem_cons.mpr ⟨mw_inT 222 (by decide +kernel) rfl, List.forall_mem_cons.mpr ⟨mw_inT 0 (by decide +kernel) rfl, List.forall_mem_cons.mpr ⟨mw_inT 223 (by decide +kernel) rfl, fun _ h => nomatch h⟩⟩⟩⟩, by decide +kernel, by decide⟩
theorem ws_L_108 : mw_wV RL 108 2 yX2_order cX2_order 5 (some .int) 3 := ⟨List.forall_mem_cons.mpr ⟨mw_inT 563 (by decide +kernel) rfl, List.forall_mem_cons.mpr ⟨mw_inT 564 (by decide +kernel) rfl, List.forall_mem_cons.mpr ⟨mw_inT 565 (by decide +kernel) rfl, List.forall_mem_cons.mpr ⟨mw_inT 4 (by decide +kernel) rfl, List.forall_mem_cons.mpr ⟨mw_inT 566 (by decide +kernel) rfl, fun _ h => nomatch h⟩⟩⟩⟩⟩, by decide +kernel, by decide⟩
theorem ws_L_109 : mw_wSH RL 109 yL_setYield cL_setYield 7 (some .int) [(0, 14, 17, 13)] 6 := ⟨List.forall_mem_cons.mpr ⟨mw_inT 231 (by decide +kernel) rfl, List.forall_mem_cons.mpr ⟨mw_inT 232 (by decide +kernel) rfl, List.forall_mem_cons.mpr ⟨mw_inT 0 (by decide +kernel) rfl, List.forall_mem_cons.mpr ⟨mw_inT 233 (by decide +kernel) rfl, fun _ h => nomatch h⟩⟩⟩⟩, by decide +kernel, by decide⟩
theorem ws_L_112 : mw_wV RL 112 2 yX2_setYield cX2_setYield 7 (some .int) 4 := ⟨List.forall_mem_cons.mpr ⟨mw_inT 570 (by decide +kernel) rfl, List.forall_mem_cons.mpr ⟨mw_inT 571 (by decide +kernel) rfl, List.forall_mem_cons.mpr ⟨mw_inT 572 (by decide +kernel) rfl, List.forall_mem_cons.mpr ⟨mw_inT 4 (by decide +kernel) rfl, List.forall_mem_cons.mpr ⟨mw_inT 573 (by decide +kernel) rfl, fun _ h => nomatch h⟩⟩⟩⟩⟩, by decide +kernel, by decide⟩
theorem ws_L_113 : mw_wSH RL 113 yL_run cL_run 4 (some .int) [(0, 9, 12, 13), (0, 9, 15, 34)] 3 := ⟨List.forall_mem_cons.mpr ⟨mw_inT 239 (by decide +kernel) rfl, List.forall_mem_cons.mpr ⟨mw_inT 240 (by decide +kernel) rfl, List.forall_mem_cons.mpr ⟨mw_inT 0 (by decide +kernel) rfl, List.forall_mem_cons.mpr ⟨mw_inT 241 (by decide +kernel) rfl, fun _ h => nomatch h⟩⟩⟩⟩, by decide +kernel, by decide⟩
theorem ws_L_116 : mw_wV RL 116 2 yX2_run cX2_run 4 (some .int) 1 := ⟨List.forall_mem_cons.mpr ⟨mw_inT 574 (by decide +kernel) rfl, List.forall_mem_cons.mpr ⟨mw_inT 575 (by decide +kernel) rfl, List.forall_mem_cons.mpr ⟨mw_inT 576 (by decide +kernel) rfl, List.forall_mem_cons.mpr ⟨mw_inT 4 (by decide +kernel) rfl, List.forall_mem_cons.mpr ⟨mw_inT 577 (by decide +kernel) rfl, fun _ h => nomatch h⟩⟩⟩⟩⟩, by decide +kernel, by decide⟩
theorem ws_L_117 : mw_wV RL 117 1 yX1_hour cX1_hour 1 (some .int) 0 := ⟨List.forall_mem_cons.mpr ⟨mw_inT 122 (by decide +kernel) rfl, List.forall_mem_cons.mpr ⟨mw_inT 123 (by decide +kernel) rfl, List.forall_mem_cons.mpr ⟨mw_inT 124 (by decide +kernel) rfl, List.forall_mem_cons.mpr ⟨mw_inT 1 (by decide +kernel) rfl, List.forall_mem_cons.mpr ⟨mw_inT 125 (by decide +kernel) rfl, fun _ h => nomatch h⟩⟩⟩⟩⟩, by decide +kernel, by decide⟩
theorem ws_L_120 : mw_wV RL 120 2 yX2_hour cX2_hour 1 (some .int) 0 := ⟨List.forall_mem_cons.mpr ⟨mw_inT 598 (by decide +kernel) rfl, List.forall_mem_cons.mpr ⟨mw_inT 599 (by decide +kernel) rfl, List.forall_mem_cons.mpr ⟨mw_inT 600 (by decide +kernel) rfl, List.forall_mem_cons.mpr ⟨mw_inT 4 (by decide +kernel) rfl, List.forall_mem_cons.mpr ⟨mw_inT 601 (by decide +kernel) rfl, fun _ h => nomatch h⟩⟩⟩⟩⟩, by decide +kernel, by decide⟩
theorem ws_L_121 : mw_wSH RL 121 yL_lend cL_lend 6 (some .int) [(0, 12, 15, 13), (0, 12, 19, 34)] 5 := ⟨List.forall_mem_cons.mpr ⟨mw_inT 320 (by decide +kernel) rfl, List.forall_mem_cons.mpr ⟨mw_inT 321 (by decide +kernel) rfl, List.forall_mem_cons.mpr ⟨mw_inT 0 (by decide +kernel) rfl, List.forall_mem_cons.mpr ⟨mw_inT 322 (by decide +kernel) rfl, fun _ h => nomatch h⟩⟩⟩⟩, by decide +kernel, by decide⟩
theorem ws_L_123 : mw_wV RL 123 2 yX2_lend cX2_lend 4 (some .int) 3 := ⟨List.forall_mem_cons.mpr ⟨mw_inT 602 (by decide +kernel) rfl, List.forall_mem_cons.mpr ⟨mw_inT 603 (by decide +kernel) rfl, List.forall_mem_cons.mpr ⟨mw_inT 604 (by decide +kernel) rfl, List.forall_mem_cons.mpr ⟨mw_inT 4 (by decide +kernel) rfl, List.forall_mem_cons.mpr ⟨mw_inT 605 (by decide +kernel) rfl, fun _ h => nomatch h⟩⟩⟩⟩⟩, by decide +kernel, by decide⟩
theorem ws_L_124 : mw_wSH RL 124 yL_account cL_account 5 (some .int) [(0, 10, 13, 13)] 4 := ⟨List.forall_mem_cons.mpr ⟨mw_inT 328 (by decide +kernel) rfl, List.forall_mem_cons.mpr ⟨mw_inT 329 (by decide +kernel) rfl, List.forall_mem_cons.mpr ⟨mw_inT 0 (by decide +kernel) rfl, List.forall_mem_cons.mpr ⟨mw_inT 330 (by decide +kernel) rfl, fun _ h => nomatch h⟩⟩⟩⟩, by decide +kernel, by decide⟩
theorem ws_L_126 : mw_wV RL 126 2 yX2_account cX2_account 3 (some .int) 2 := ⟨List.forall_mem_cons.mpr ⟨mw_inT 606 (by decide +kernel) rfl, List.forall_mem_cons.mpr ⟨mw_inT 607 (by decide +kernel) rfl, List.forall_mem_cons.mpr ⟨mw_inT 608 (by decide +kernel) rfl, List.forall_mem_cons.mpr ⟨mw_inT 4 (by decide +kernel) rfl, List.forall_mem_cons.mpr ⟨mw_inT 609 (by decide +kernel) rfl, fun _ h => nomatch h⟩⟩⟩⟩⟩, by decide +kernel, by decide⟩
theorem ws_L_127 : mw_wSH RL 127 yL_level cL_level 4 (some .int) [(0, 9, 12, 13)] 3 := ⟨List.forall_mem_cons.mpr ⟨mw_inT 335 (by decide +kernel) rfl, List.forall_mem_cons.mpr ⟨mw_inT 336 (by decide +kernel) rfl, List.forall_mem_cons.mpr ⟨mw_inT 0 (by decide +kernel) rfl, List.forall_mem_cons.mpr ⟨mw_inT 337 (by decide +kernel) rfl, fun _ h => nomatch h⟩⟩⟩⟩, by decide +kernel, by decide⟩
theorem ws_L_129 : mw_wV RL 129 2 yX2_level cX2_level 2 (some .int) 1 := ⟨List.forall_mem_cons.mpr ⟨mw_inT 610 (by decide +kernel) rfl, List.forall_mem_cons.mpr ⟨mw_inT 611 (by decide +kernel) rfl, List.forall_mem_cons.mpr ⟨mw_inT 612 (by decide +kernel) rfl, List.forall_mem_cons.mpr ⟨mw_inT 4 (by decide +kernel) rfl, List.forall_mem_cons.mpr ⟨mw_inT 613 (by decide +kernel) rfl, fun _ h => nomatch h⟩⟩⟩⟩⟩, by decide +kernel, by decide⟩
theorem ws_L_130 : mw_wSH RL 130 yL_travelling cL_travelling 5 (some .int) [(0, 10, 13, 13)] 4 := ⟨List.forall_mem_cons.mpr ⟨mw_inT 343 (by decide +kernel) rfl, List.forall_mem_cons.mpr ⟨mw_inT 344 (by decide +kernel) rfl, List.forall_mem_cons.mpr ⟨mw_inT 0 (by decide +kernel) rfl, List.forall_mem_cons.mpr ⟨mw_inT 345 (by decide +kernel) rfl, fun _ h => nomatch h⟩⟩⟩⟩, by decide +kernel, by decide⟩
theorem ws_L_132 : mw_wV RL 132 2 yX2_travelling cX2_travelling 5 (some .int) 2 := ⟨List.forall_mem_cons.mpr ⟨mw_inT 618 (by decide +kernel) rfl, List.forall_mem_cons.mpr ⟨mw_inT 619 (by decide +kernel) rfl, List.forall_mem_cons.mpr ⟨mw_inT 620 (by decide +kernel) rfl, List.forall_mem_cons.mpr ⟨mw_inT 4 (by decide +kernel) rfl, List.forall_mem_cons.mpr ⟨mw_inT 621 (by decide +kernel) rfl, fun _ h => nomatch h⟩⟩⟩⟩⟩, by decide +kernel, by decide⟩
theorem ws_L_133 : mw_wSH RL 133 yL_arriving cL_arriving 6 (some .int) [(0, 12, 15, 13)] 5 := ⟨List.forall_mem_cons.mpr ⟨mw_inT 357 (by decide +kernel) rfl, List.forall_mem_cons.mpr ⟨mw_inT 358 (by decide +kernel) rfl, List.forall_mem_cons.mpr ⟨mw_inT 0 (by decide +kernel) rfl, List.forall_mem_cons.mpr ⟨mw_inT 359 (by decide +kernel) rfl, fun _ h => nomatch h⟩⟩⟩⟩, by decide +kernel, by decide⟩
theorem ws_L_135 : mw_wV RL 135 2 yX2_arriving cX2_arriving 4 (some .int) 3 := ⟨List.forall_mem_cons.mpr ⟨mw_inT 622 (by decide +kernel) rfl, List.forall_mem_cons.mpr ⟨mw_inT 623 (by decide +kernel) rfl, List.forall_mem_cons.mpr ⟨mw_inT 624 (by decide +kernel) rfl, List.forall_mem_cons.mpr ⟨mw_inT 4 (by decide +kernel) rfl, List.forall_mem_cons.mpr ⟨mw_inT 625 (by decide +kernel) rfl, fun _ h => nomatch h⟩⟩⟩⟩⟩, by decide +kernel, by decide⟩
theorem ws_L_136 : mw_wSH RL 136 yL_cameIn cL_cameIn 4 (some .int) [(0, 9, 12, 13)] 3 := ⟨List.forall_mem_cons.mpr ⟨mw_inT 364 (by decide +kernel) rfl, List.forall_mem_cons.mpr ⟨mw_inT 365 (by decide +kernel) rfl, List.forall_mem_cons.mpr ⟨mw_inT 0 (by decide +kernel) rfl, List.forall_mem_cons.mpr ⟨mw_inT 366 (by decide +kernel) rfl, fun _ h => nomatch h⟩⟩⟩⟩, by decide +kernel, by decide⟩
theorem ws_L_138 : mw_wV RL 138 2 yX2_cameIn cX2_cameIn 2 (some .int) 1 := ⟨List.forall_mem_cons.mpr ⟨mw_inT 626 (by decide +kernel) rfl, List.forall_mem_cons.mpr ⟨mw_inT 627 (by decide +kernel) rfl, List.forall_mem_cons.mpr ⟨mw_inT 628 (by decide +kernel) rfl, List.forall_mem_cons.mpr ⟨mw_inT 4 (by decide +kernel) rfl, List.forall_mem_cons.mpr ⟨mw_inT 629 (by decide +kernel) rfl, fun _ h => nomatch h⟩⟩⟩⟩⟩, by decide +kernel, by decide⟩
theorem ws_L_139 : mw_wSH RL 139 yL_gone cL_gone 4 (some .int) [(0, 9, 12, 13)] 3 := ⟨List.forall_mem_cons.mpr ⟨mw_inT 371 (by decide +kernel) rfl, List.forall_mem_cons.mpr ⟨mw_inT 372 (by decide +kernel) rfl, List.forall_mem_cons.mpr ⟨mw_inT 0 (by decide +kernel) rfl, List.forall_mem_cons.mpr ⟨mw_inT 373 (by decide +kernel) rfl, fun _ h => nomatch h⟩⟩⟩⟩, by decide +kernel, by decide⟩
theorem ws_L_141 : mw_wV RL 141 2 yX2_gone cX2_gone 2 (some .int) 1 := ⟨List.forall_mem_cons.mpr ⟨mw_inT 634 (by decide +kernel) rfl, List.forall_mem_cons.mpr ⟨mw_inT 635 (by decide +kernel) rfl, List.forall_mem_cons.mpr ⟨mw_inT 636 (by decide +kernel) rfl, List.forall_mem_cons.mpr ⟨mw_inT 4 (by decide +kernel) rfl, List.forall_mem_cons.mpr ⟨mw_inT 637 (by decide +kernel) rfl, fun _ h => nomatch h⟩⟩⟩⟩⟩, by decide +kernel, by decide⟩
theorem ws_L_142 : mw_wSH RL 142 yL_balance cL_balance 4 (some .int) [(0, 9, 12, 13)] 3 := ⟨List.forall_mem_cons.mpr ⟨mw_inT 378 (by decide +kernel) rfl, List.forall_mem_cons.mpr ⟨mw_inT 379 (by decide +kernel) rfl, List.forall_mem_cons.mpr ⟨mw_inT 0 (by decide +kernel) rfl, List.forall_mem_cons.mpr ⟨mw_inT 380 (by decide +kernel) rfl, fun _ h => nomatch h⟩⟩⟩⟩, by decide +kernel, by decide⟩
theorem ws_L_144 : mw_wV RL 144 2 yX2_balance cX2_balance 2 (some .int) 1 := ⟨List.forall_mem_cons.mpr ⟨mw_inT 638 (by decide +kernel) rfl, List.forall_mem_cons.mpr ⟨mw_inT 639 (by decide +kernel) rfl, List.forall_mem_cons.mpr ⟨mw_inT 640 (by decide +kernel) rfl, List.forall_mem_cons.mpr ⟨mw_inT 4 (by decide +kernel) rfl, List.forall_mem_cons.mpr ⟨mw_inT 641 (by decide +kernel) rfl, fun _ h => nomatch h⟩⟩⟩⟩⟩, by decide +kernel, by decide⟩
theorem ws_L_145 : mw_wSH RL 145 yL_spilled cL_spilled 4 (some .int) [(0, 9, 12, 13)] 3 := ⟨List.forall_mem_cons.mpr ⟨mw_inT 385 (by decide +kernel) rfl, List.forall_mem_cons.mpr ⟨mw_inT 386 (by decide +kernel) rfl, List.forall_mem_cons.mpr ⟨mw_inT 0 (by decide +kernel) rfl, List.forall_mem_cons.mpr ⟨mw_inT 387 (by decide +kernel) rfl, fun _ h => nomatch h⟩⟩⟩⟩, by decide +kernel, by decide⟩
theorem ws_L_147 : mw_wV RL 147 2 yX2_spilled cX2_spilled 2 (some .int) 1 := ⟨List.forall_mem_cons.mpr ⟨mw_inT 642 (by decide +kernel) rfl, List.forall_mem_cons.mpr ⟨mw_inT 643 (by decide +kernel) rfl, List.forall_mem_cons.mpr ⟨mw_inT 644 (by decide +kernel) rfl, List.forall_mem_cons.mpr ⟨mw_inT 4 (by decide +kernel) rfl, List.forall_mem_cons.mpr ⟨mw_inT 645 (by decide +kernel) rfl, fun _ h => nomatch h⟩⟩⟩⟩⟩, by decide +kernel, by decide⟩
theorem ws_L_148 : mw_wSH RL 148 yL_missed cL_missed 4 (some .int) [(0, 9, 12, 13)] 3 := ⟨List.forall_mem_cons.mpr ⟨mw_inT 392 (by decide +kernel) rfl, List.forall_mem_cons.mpr ⟨mw_inT 393 (by decide +kernel) rfl, List.forall_mem_cons.mpr ⟨mw_inT 0 (by decide +kernel) rfl, List.forall_mem_cons.mpr ⟨mw_inT 394 (by decide +kernel) rfl, fun _ h => nomatch h⟩⟩⟩⟩, by decide +kernel, by decide⟩
theorem ws_L_150 : mw_wV RL 150 2 yX2_missed cX2_missed 2 (some .int) 1 := ⟨List.forall_mem_cons.mpr ⟨mw_inT 646 (by decide +kernel) rfl, List.forall_mem_cons.mpr ⟨mw_inT 647 (by decide +kernel) rfl, List.forall_mem_cons.mpr ⟨mw_inT 648 (by decide +kernel) rfl, List.forall_mem_cons.mpr ⟨mw_inT 4 (by decide +kernel) rfl, List.forall_mem_cons.mpr ⟨mw_inT 649 (by decide +kernel) rfl, fun _ h => nomatch h⟩⟩⟩⟩⟩, by decide +kernel, by decide⟩
theorem ws_L_151 : mw_wSH RL 151 yL_flow cL_flow 4 (some .int) [(0, 9, 12, 13)] 3 := ⟨List.forall_mem_cons.mpr ⟨mw_inT 399 (by decide +kernel) rfl, List.forall_mem_cons.mpr ⟨mw_inT 400 (by decide +kernel) rfl, List.forall_mem_cons.mpr ⟨mw_inT 0 (by decide +kernel) rfl, List.forall_mem_cons.mpr ⟨mw_inT 401 (by decide +kernel) rfl, fun _ h => nomatch h⟩⟩⟩⟩, by decide +kernel, by decide⟩
theorem ws_L_153 : mw_wV RL 153 2 yX2_flow cX2_flow 2 (some .int) 1 := ⟨List.forall_mem_cons.mpr ⟨mw_inT 650 (by decide +kernel) rfl, List.forall_mem_cons.mpr ⟨mw_inT 651 (by decide +kernel) rfl, List.forall_mem_cons.mpr ⟨mw_inT 652 (by decide +kernel) rfl, List.forall_mem_cons.mpr ⟨mw_inT 4 (by decide +kernel) rfl, List.forall_mem_cons.mpr ⟨mw_inT 653 (by decide +kernel) rfl, fun _ h => nomatch h⟩⟩⟩⟩⟩, by decide +kernel, by decide⟩
theorem ws_L_154 : mw_wSH RL 154 yL_energy cL_energy 4 (some .int) [(0, 9, 12, 13)] 3 := ⟨List.forall_mem_cons.mpr ⟨mw_inT 406 (by decide +kernel) rfl, List.forall_mem_cons.mpr ⟨mw_inT 407 (by decide +kernel) rfl, List.forall_mem_cons.mpr ⟨mw_inT 0 (by decide +kernel) rfl, List.forall_mem_cons.mpr ⟨mw_inT 408 (by decide +kernel) rfl, fun _ h => nomatch h⟩⟩⟩⟩, by decide +kernel, by decide⟩
theorem ws_L_156 : mw_wV RL 156 2 yX2_energy cX2_energy 2 (some .int) 1 := ⟨List.forall_mem_cons.mpr ⟨mw_inT 654 (by decide +kernel) rfl, List.forall_mem_cons.mpr ⟨mw_inT 655 (by decide +kernel) rfl, List.forall_mem_cons.mpr ⟨mw_inT 656 (by decide +kernel) rfl, List.forall_mem_cons.mpr ⟨mw_inT 4 (by decide +kernel) rfl, List.forall_mem_cons.mpr ⟨mw_inT 657 (by decide +kernel) rfl, fun _ h => nomatch h⟩⟩⟩⟩⟩, by decide +kernel, by decide⟩
theorem ws_L_157 : mw_wSH RL 157 yL_mix cL_mix 5 (some .int) [(0, 10, 13, 13)] 4 := ⟨List.forall_mem_cons.mpr ⟨mw_inT 413 (by decide +kernel) rfl, List.forall_mem_cons.mpr ⟨mw_inT 414 (by decide +kernel) rfl, List.forall_mem_cons.mpr ⟨mw_inT 0 (by decide +kernel) rfl, List.forall_mem_cons.mpr ⟨mw_inT 415 (by decide +kernel) rfl, fun _ h => nomatch h⟩⟩⟩⟩, by decide +kernel, by decide⟩
theorem ws_L_159 : mw_wV RL 159 2 yX2_mix cX2_mix 3 (some .int) 2 := ⟨List.forall_mem_cons.mpr ⟨mw_inT 658 (by decide +kernel) rfl, List.forall_mem_cons.mpr ⟨mw_inT 659 (by decide +kernel) rfl, List.forall_mem_cons.mpr ⟨mw_inT 660 (by decide +kernel) rfl, List.forall_mem_cons.mpr ⟨mw_inT 4 (by decide +kernel) rfl, List.forall_mem_cons.mpr ⟨mw_inT 661 (by decide +kernel) rfl, fun _ h => nomatch h⟩⟩⟩⟩⟩, by decide +kernel, by decide⟩
theorem ws_L_160 : mw_wSH RL 160 yL_bestEnergy cL_bestEnergy 4 (some .int) [(0, 9, 12, 13)] 3 := ⟨List.forall_mem_cons.mpr ⟨mw_inT 421 (by decide +kernel) rfl, List.forall_mem_cons.mpr ⟨mw_inT 422 (by decide +kernel) rfl, List.forall_mem_cons.mpr ⟨mw_inT 0 (by decide +kernel) rfl, List.forall_mem_cons.mpr ⟨mw_inT 423 (by decide +kernel) rfl, fun _ h => nomatch h⟩⟩⟩⟩, by decide +kernel, by decide⟩
theorem ws_L_162 : mw_wV RL 162 2 yX2_bestEnergy cX2_bestEnergy 2 (some .int) 1 := ⟨List.forall_mem_cons.mpr ⟨mw_inT 662 (by decide +kernel) rfl, List.forall_mem_cons.mpr ⟨mw_inT 663 (by decide +kernel) rfl, List.forall_mem_cons.mpr ⟨mw_inT 664 (by decide +kernel) rfl, List.forall_mem_cons.mpr ⟨mw_inT 4 (by decide +kernel) rfl, List.forall_mem_cons.mpr ⟨mw_inT 665 (by decide +kernel) rfl, fun _ h => nomatch h⟩⟩⟩⟩⟩, by decide +kernel, by decide⟩
theorem ws_L_163 : mw_wSH RL 163 yL_bestEnergyByAll cL_bestEnergyByAll 4 (some .int) [(0, 9, 12, 13)] 3 := ⟨List.forall_mem_cons.mpr ⟨mw_inT 456 (by decide +kernel) rfl, List.forall_mem_cons.mpr ⟨mw_inT 457 (by decide +kernel) rfl, List.forall_mem_cons.mpr ⟨mw_inT 0 (by decide +kernel) rfl, List.forall_mem_cons.mpr ⟨mw_inT 458 (by decide +kernel) rfl, fun _ h => nomatch h⟩⟩⟩⟩, by decide +kernel, by decide⟩
theorem ws_L_165 : mw_wV RL 165 2 yX2_bestEnergyByAll cX2_bestEnergyByAll 2 (some .int) 1 := ⟨List.forall_mem_cons.mpr ⟨mw_inT 682 (by decide +kernel) rfl, List.forall_mem_cons.mpr ⟨mw_inT 683 (by decide +kernel) rfl, List.forall_mem_cons.mpr ⟨mw_inT 684 (by decide +kernel) rfl, List.forall_mem_cons.mpr ⟨mw_inT 4 (by decide +kernel) rfl, List.forall_mem_cons.mpr ⟨mw_inT 685 (by decide +kernel) rfl, fun _ h => nomatch h⟩⟩⟩⟩⟩, by decide +kernel, by decide⟩
theorem ws_L_166 : mw_wSH RL 166 yL_bestRelease cL_bestRelease 4 (some .int) [(0, 9, 12, 13)] 3 := ⟨List.forall_mem_cons.mpr ⟨mw_inT 467 (by decide +kernel) rfl, List.forall_mem_cons.mpr ⟨mw_inT 468 (by decide +kernel) rfl, List.forall_mem_cons.mpr ⟨mw_inT 0 (by decide +kernel) rfl, List.forall_mem_cons.mpr ⟨mw_inT 469 (by decide +kernel) rfl, fun _ h => nomatch h⟩⟩⟩⟩, by decide +kernel, by decide⟩
theorem ws_L_168 : mw_wV RL 168 2 yX2_bestRelease cX2_bestRelease 6 (some .int) 1 := ⟨List.forall_mem_cons.mpr ⟨mw_inT 686 (by decide +kernel) rfl, List.forall_mem_cons.mpr ⟨mw_inT 687 (by decide +kernel) rfl, List.forall_mem_cons.mpr ⟨mw_inT 688 (by decide +kernel) rfl, List.forall_mem_cons.mpr ⟨mw_inT 4 (by decide +kernel) rfl, List.forall_mem_cons.mpr ⟨mw_inT 689 (by decide +kernel) rfl, fun _ h => nomatch h⟩⟩⟩⟩⟩, by decide +kernel, by decide⟩
theorem ws_X0_45 : mw_wV RX0 45 0 yX0_findMixes cX0_findMixes 4 none 0 := ⟨List.forall_mem_cons.mpr ⟨mw_inT 28 (by decide +kernel) rfl, List.forall_mem_cons.mpr ⟨mw_inT 29 (by decide +kernel) rfl, List.forall_mem_cons.mpr ⟨mw_inT 30 (by decide +kernel) rfl, List.forall_mem_cons.mpr ⟨mw_inT 2 (by decide +kernel) rfl, List.forall_mem_cons.mpr ⟨mw_inT 31 (by decide +kernel) rfl, fun _ h => nomatch h⟩⟩⟩⟩⟩, by decide +kernel, by decide⟩
theorem ws_X0_48 : mw_wS RX0 48 yJ9_max_7cf53 cJ9_max_7cf53 2 (some .int) 2 := ⟨List.forall_mem_cons.mpr ⟨mw_inT 32 (by decide +kernel) rfl, List.forall_mem_cons.mpr ⟨mw_inT 33 (by decide +kernel) rfl, List.forall_mem_cons.mpr ⟨mw_inT 3 (by decide +kernel) rfl, List.forall_mem_cons.mpr ⟨mw_inT 34 (by decide +kernel) rfl, fun _ h => nomatch h⟩⟩⟩⟩, by decide +kernel, by decide⟩
theorem ws_X0_54 : mw_wV RX0 54 0 yX0_mixFor cX0_mixFor 2 (some .int) 1 := ⟨List.forall_mem_cons.mpr ⟨mw_inT 308 (by decide +kernel) rfl, List.forall_mem_cons.mpr ⟨mw_inT 309 (by decide +kernel) rfl, List.forall_mem_cons.mpr ⟨mw_inT 310 (by decide +kernel) rfl, List.forall_mem_cons.mpr ⟨mw_inT 2 (by decide +kernel) rfl, List.forall_mem_cons.mpr ⟨mw_inT 311 (by decide +kernel) rfl, fun _ h => nomatch h⟩⟩⟩⟩⟩, by decide +kernel, by decide⟩
theorem ws_X0_61 : mw_wV RX0 61 0 yX0_waterInPond cX0_waterInPond 1 (some .int) 0 := ⟨List.forall_mem_cons.mpr ⟨mw_inT 285 (by decide +kernel) rfl, List.forall_mem_cons.mpr ⟨mw_inT 286 (by decide +kernel) rfl, List.forall_mem_cons.mpr ⟨mw_inT 287 (by decide +kernel) rfl, List.forall_mem_cons.mpr ⟨mw_inT 2 (by decide +kernel) rfl, List.forall_mem_cons.mpr ⟨mw_inT 288 (by decide +kernel) rfl, fun _ h => nomatch h⟩⟩⟩⟩⟩, by decide +kernel, by decide⟩
theorem ws_X0_65 : mw_wV RX0 65 0 yX0_setParts cX0_setParts 4 none 1 := ⟨List.forall_mem_cons.mpr ⟨mw_inT 289 (by decide +kernel) rfl, List.forall_mem_cons.mpr ⟨mw_inT 291 (by decide +kernel) rfl, List.forall_mem_cons.mpr ⟨mw_inS 2 (by decide +kernel) rfl, List.forall_mem_cons.mpr ⟨mw_inT 2 (by decide +kernel) rfl, List.forall_mem_cons.mpr ⟨mw_inT 292 (by decide +kernel) rfl, fun _ h => nomatch h⟩⟩⟩⟩⟩, by decide +kernel, by decide⟩
theorem ws_X0_75 : mw_wS RX0 75 yJ9_min_7cf53 cJ9_min_7cf53 2 (some .int) 2 := ⟨List.forall_mem_cons.mpr ⟨mw_inT 301 (by decide +kernel) rfl, List.forall_mem_cons.mpr ⟨mw_inT 302 (by decide +kernel) rfl, List.forall_mem_cons.mpr ⟨mw_inT 3 (by decide +kernel) rfl, List.forall_mem_cons.mpr ⟨mw_inT 303 (by decide +kernel) rfl, fun _ h => nomatch h⟩⟩⟩⟩, by decide +kernel, by decide⟩
theorem ws_X0_84 : mw_wV RX0 84 0 yX0_energyAt cX0_energyAt 3 (some .int) 2 := ⟨List.forall_mem_cons.mpr ⟨mw_inT 304 (by decide +kernel) rfl, List.forall_mem_cons.mpr ⟨mw_inT 305 (by decide +kernel) rfl, List.forall_mem_cons.mpr ⟨mw_inT 306 (by decide +kernel) rfl, List.forall_mem_cons.mpr ⟨mw_inT 2 (by decide +kernel) rfl, List.forall_mem_cons.mpr ⟨mw_inT 307 (by decide +kernel) rfl, fun _ h => nomatch h⟩⟩⟩⟩⟩, by decide +kernel, by decide⟩
theorem ws_X0_87 : mw_wV RX0 87 0 yX0_ownerWithMore cX0_ownerWithMore 1 (some .int) 0 := ⟨List.forall_mem_cons.mpr ⟨mw_inT 293 (by decide +kernel) rfl, List.forall_mem_cons.mpr ⟨mw_inT 295 (by decide +kernel) rfl, List.forall_mem_cons.mpr ⟨mw_inS 3 (by decide +kernel) rfl, List.forall_mem_cons.mpr ⟨mw_inT 2 (by decide +kernel) rfl, List.forall_mem_cons.mpr ⟨mw_inT 296 (by decide +kernel) rfl, fun _ h => nomatch h⟩⟩⟩⟩⟩, by decide +kernel, by decide⟩
theorem ws_X0_90 : mw_wV RX0 90 0 yX0_cutParts cX0_cutParts 4 none 1 := ⟨List.forall_mem_cons.mpr ⟨mw_inT 297 (by decide +kernel) rfl, List.forall_mem_cons.mpr ⟨mw_inT 299 (by decide +kernel) rfl, List.forall_mem_cons.mpr ⟨mw_inS 4 (by decide +kernel) rfl, List.forall_mem_cons.mpr ⟨mw_inT 2 (by decide +kernel) rfl, List.forall_mem_cons.mpr ⟨mw_inT 300 (by decide +kernel) rfl, fun _ h => nomatch h⟩⟩⟩⟩⟩, by decide +kernel, by decide⟩
theorem ws_X1_31 : mw_wI RX1 31 yX0_init cX0_init 2 0 := ⟨List.forall_mem_cons.mpr ⟨mw_inT 22 (by decide +kernel) rfl, List.forall_mem_cons.mpr ⟨mw_inT 23 (by decide +kernel) rfl, List.forall_mem_cons.mpr ⟨mw_inT 2 (by decide +kernel) rfl, List.forall_mem_cons.mpr ⟨mw_inT 24 (by decide +kernel) rfl, fun _ h => nomatch h⟩⟩⟩⟩, by decide +kernel, rfl, by decide⟩
theorem ws_X1_32 : mw_wS RX1 32 yX1_checkPlant cX1_checkPlant 1 none 1 := ⟨List.forall_mem_cons.mpr ⟨mw_inT 134 (by decide +kernel) rfl, List.forall_mem_cons.mpr ⟨mw_inT 135 (by decide +kernel) rfl, List.forall_mem_cons.mpr ⟨mw_inT 1 (by decide +kernel) rfl, List.forall_mem_cons.mpr ⟨mw_inT 136 (by decide +kernel) rfl, fun _ h => nomatch h⟩⟩⟩⟩, by decide +kernel, by decide⟩
theorem ws_X1_36 : mw_wS RX1 36 yX1_checkRange cX1_checkRange 3 none 3 := ⟨List.forall_mem_cons.mpr ⟨mw_inT 137 (by decide +kernel) rfl, List.forall_mem_cons.mpr ⟨mw_inT 138 (by decide +kernel) rfl, List.forall_mem_cons.mpr ⟨mw_inT 1 (by decide +kernel) rfl, List.forall_mem_cons.mpr ⟨mw_inT 139 (by decide +kernel) rfl, fun _ h => nomatch h⟩⟩⟩⟩, by decide +kernel, by decide⟩
theorem ws_X1_59 : mw_wS RX1 59 yX1_checkOwner cX1_checkOwner 1 none 1 := ⟨List.forall_mem_cons.mpr ⟨mw_inT 228 (by decide +kernel) rfl, List.forall_mem_cons.mpr ⟨mw_inT 229 (by decide +kernel) rfl, List.forall_mem_cons.mpr ⟨mw_inT 1 (by decide +kernel) rfl, List.forall_mem_cons.mpr ⟨mw_inT 230 (by decide +kernel) rfl, fun _ h => nomatch h⟩⟩⟩⟩, by decide +kernel, by decide⟩
theorem ws_X1_69 : mw_wV RX1 69 0 yX0_findMixes cX0_findMixes 4 none 0 := ⟨List.forall_mem_cons.mpr ⟨mw_inT 238 (by decide +kernel) rfl, List.forall_mem_cons.mpr ⟨mw_inT 29 (by decide +kernel) rfl, List.forall_mem_cons.mpr ⟨mw_inT 30 (by decide +kernel) rfl, List.forall_mem_cons.mpr ⟨mw_inT 2 (by decide +kernel) rfl, List.forall_mem_cons.mpr ⟨mw_inT 31 (by decide +kernel) rfl, fun _ h => nomatch h⟩⟩⟩⟩⟩, by decide +kernel, by decide⟩
theorem ws_X1_82 : mw_wV RX1 82 1 yX1_runPlant cX1_runPlant 5 none 1 := ⟨List.forall_mem_cons.mpr ⟨mw_inT 263 (by decide +kernel) rfl, List.forall_mem_cons.mpr ⟨mw_inT 265 (by decide +kernel) rfl, List.forall_mem_cons.mpr ⟨mw_inS 1 (by decide +kernel) rfl, List.forall_mem_cons.mpr ⟨mw_inT 1 (by decide +kernel) rfl, List.forall_mem_cons.mpr ⟨mw_inT 266 (by decide +kernel) rfl, fun _ h => nomatch h⟩⟩⟩⟩⟩, by decide +kernel, by decide⟩
theorem ws_X1_90 : mw_wV RX1 90 0 yX0_waterInPond cX0_waterInPond 1 (some .int) 0 := ⟨List.forall_mem_cons.mpr ⟨mw_inT 342 (by decide +kernel) rfl, List.forall_mem_cons.mpr ⟨mw_inT 286 (by decide +kernel) rfl, List.forall_mem_cons.mpr ⟨mw_inT 287 (by decide +kernel) rfl, List.forall_mem_cons.mpr ⟨mw_inT 2 (by decide +kernel) rfl, List.forall_mem_cons.mpr ⟨mw_inT 288 (by decide +kernel) rfl, fun _ h => nomatch h⟩⟩⟩⟩⟩, by decide +kernel, by decide⟩
theorem ws_X1_94 : mw_wS RX1 94 yX1_checkLowerPlant cX1_checkLowerPlant 1 none 1 := ⟨List.forall_mem_cons.mpr ⟨mw_inT 350 (by decide +kernel) rfl, List.forall_mem_cons.mpr ⟨mw_inT 351 (by decide +kernel) rfl, List.forall_mem_cons.mpr ⟨mw_inT 1 (by decide +kernel) rfl, List.forall_mem_cons.mpr ⟨mw_inT 352 (by decide +kernel) rfl, fun _ h => nomatch h⟩⟩⟩⟩, by decide +kernel, by decide⟩
theorem ws_X1_97 : mw_wV RX1 97 0 yX0_allUnderWay cX0_allUnderWay 4 (some .int) 1 := ⟨List.forall_mem_cons.mpr ⟨mw_inT 353 (by decide +kernel) rfl, List.forall_mem_cons.mpr ⟨mw_inT 354 (by decide +kernel) rfl, List.forall_mem_cons.mpr ⟨mw_inT 355 (by decide +kernel) rfl, List.forall_mem_cons.mpr ⟨mw_inT 2 (by decide +kernel) rfl, List.forall_mem_cons.mpr ⟨mw_inT 356 (by decide +kernel) rfl, fun _ h => nomatch h⟩⟩⟩⟩⟩, by decide +kernel, by decide⟩
theorem ws_X1_104 : mw_wS RX1 104 yX1_slotOf cX1_slotOf 1 (some .int) 1 := ⟨List.forall_mem_cons.mpr ⟨mw_inT 271 (by decide +kernel) rfl, List.forall_mem_cons.mpr ⟨mw_inT 272 (by decide +kernel) rfl, List.forall_mem_cons.mpr ⟨mw_inT 1 (by decide +kernel) rfl, List.forall_mem_cons.mpr ⟨mw_inT 273 (by decide +kernel) rfl, fun _ h => nomatch h⟩⟩⟩⟩, by decide +kernel, by decide⟩
theorem ws_X1_119 : mw_wV RX1 119 0 yX0_mixFor cX0_mixFor 2 (some .int) 1 := ⟨List.forall_mem_cons.mpr ⟨mw_inT 420 (by decide +kernel) rfl, List.forall_mem_cons.mpr ⟨mw_inT 309 (by decide +kernel) rfl, List.forall_mem_cons.mpr ⟨mw_inT 310 (by decide +kernel) rfl, List.forall_mem_cons.mpr ⟨mw_inT 2 (by decide +kernel) rfl, List.forall_mem_cons.mpr ⟨mw_inT 311 (by decide +kernel) rfl, fun _ h => nomatch h⟩⟩⟩⟩⟩, by decide +kernel, by decide⟩
theorem ws_X1_122 : mw_wV RX1 122 1 yX1_workBackTo cX1_workBackTo 4 none 1 := ⟨List.forall_mem_cons.mpr ⟨mw_inT 428 (by decide +kernel) rfl, List.forall_mem_cons.mpr ⟨mw_inT 430 (by decide +kernel) rfl, List.forall_mem_cons.mpr ⟨mw_inS 6 (by decide +kernel) rfl, List.forall_mem_cons.mpr ⟨mw_inT 1 (by decide +kernel) rfl, List.forall_mem_cons.mpr ⟨mw_inT 431 (by decide +kernel) rfl, fun _ h => nomatch h⟩⟩⟩⟩⟩, by decide +kernel, by decide⟩
theorem ws_X1_125 : mw_wV RX1 125 1 yX1_greatestFrom cX1_greatestFrom 3 (some .int) 1 := ⟨List.forall_mem_cons.mpr ⟨mw_inT 432 (by decide +kernel) rfl, List.forall_mem_cons.mpr ⟨mw_inT 434 (by decide +kernel) rfl, List.forall_mem_cons.mpr ⟨mw_inS 7 (by decide +kernel) rfl, List.forall_mem_cons.mpr ⟨mw_inT 1 (by decide +kernel) rfl, List.forall_mem_cons.mpr ⟨mw_inT 435 (by decide +kernel) rfl, fun _ h => nomatch h⟩⟩⟩⟩⟩, by decide +kernel, by decide⟩
theorem ws_X1_128 : mw_wS RX1 128 yX1_greatestByTrying cX1_greatestByTrying 8 (some .int) 3 := ⟨List.forall_mem_cons.mpr ⟨mw_inT 463 (by decide +kernel) rfl, List.forall_mem_cons.mpr ⟨mw_inT 464 (by decide +kernel) rfl, List.forall_mem_cons.mpr ⟨mw_inT 1 (by decide +kernel) rfl, List.forall_mem_cons.mpr ⟨mw_inT 465 (by decide +kernel) rfl, fun _ h => nomatch h⟩⟩⟩⟩, by decide +kernel, by decide⟩
theorem ws_X1_132 : mw_wV RX1 132 1 yX1_leastBestRelease cX1_leastBestRelease 7 (some .int) 1 := ⟨List.forall_mem_cons.mpr ⟨mw_inT 436 (by decide +kernel) rfl, List.forall_mem_cons.mpr ⟨mw_inT 438 (by decide +kernel) rfl, List.forall_mem_cons.mpr ⟨mw_inS 8 (by decide +kernel) rfl, List.forall_mem_cons.mpr ⟨mw_inT 1 (by decide +kernel) rfl, List.forall_mem_cons.mpr ⟨mw_inT 439 (by decide +kernel) rfl, fun _ h => nomatch h⟩⟩⟩⟩⟩, by decide +kernel, by decide⟩
theorem ws_X1_140 : mw_wS RX1 140 yJ9_floorMod_7cf53 cJ9_floorMod_7cf53 3 (some .int) 2 := ⟨List.forall_mem_cons.mpr ⟨mw_inT 274 (by decide +kernel) rfl, List.forall_mem_cons.mpr ⟨mw_inT 275 (by decide +kernel) rfl, List.forall_mem_cons.mpr ⟨mw_inT 3 (by decide +kernel) rfl, List.forall_mem_cons.mpr ⟨mw_inT 276 (by decide +kernel) rfl, fun _ h => nomatch h⟩⟩⟩⟩, by decide +kernel, by decide⟩
theorem ws_X1_146 : mw_wV RX1 146 0 yX0_inflowOf cX0_inflowOf 3 (some .int) 1 := ⟨List.forall_mem_cons.mpr ⟨mw_inT 267 (by decide +kernel) rfl, List.forall_mem_cons.mpr ⟨mw_inT 268 (by decide +kernel) rfl, List.forall_mem_cons.mpr ⟨mw_inT 269 (by decide +kernel) rfl, List.forall_mem_cons.mpr ⟨mw_inT 2 (by decide +kernel) rfl, List.forall_mem_cons.mpr ⟨mw_inT 270 (by decide +kernel) rfl, fun _ h => nomatch h⟩⟩⟩⟩⟩, by decide +kernel, by decide⟩
theorem ws_X1_149 : mw_wV RX1 149 0 yX0_takeArrived cX0_takeArrived 4 (some .int) 2 := ⟨List.forall_mem_cons.mpr ⟨mw_inT 277 (by decide +kernel) rfl, List.forall_mem_cons.mpr ⟨mw_inT 278 (by decide +kernel) rfl, List.forall_mem_cons.mpr ⟨mw_inT 279 (by decide +kernel) rfl, List.forall_mem_cons.mpr ⟨mw_inT 2 (by decide +kernel) rfl, List.forall_mem_cons.mpr ⟨mw_inT 280 (by decide +kernel) rfl, fun _ h => nomatch h⟩⟩⟩⟩⟩, by decide +kernel, by decide⟩
theorem ws_X1_152 : mw_wV RX1 152 0 yX0_letGo cX0_letGo 3 none 0 := ⟨List.forall_mem_cons.mpr ⟨mw_inT 281 (by decide +kernel) rfl, List.forall_mem_cons.mpr ⟨mw_inT 282 (by decide +kernel) rfl, List.forall_mem_cons.mpr ⟨mw_inT 283 (by decide +kernel) rfl, List.forall_mem_cons.mpr ⟨mw_inT 2 (by decide +kernel) rfl, List.forall_mem_cons.mpr ⟨mw_inT 284 (by decide +kernel) rfl, fun _ h => nomatch h⟩⟩⟩⟩⟩, by decide +kernel, by decide⟩
theorem ws_X1_155 : mw_wV RX1 155 0 yX0_spillOver cX0_spillOver 3 none 0 := ⟨List.forall_mem_cons.mpr ⟨mw_inT 312 (by decide +kernel) rfl, List.forall_mem_cons.mpr ⟨mw_inT 313 (by decide +kernel) rfl, List.forall_mem_cons.mpr ⟨mw_inT 314 (by decide +kernel) rfl, List.forall_mem_cons.mpr ⟨mw_inT 2 (by decide +kernel) rfl, List.forall_mem_cons.mpr ⟨mw_inT 315 (by decide +kernel) rfl, fun _ h => nomatch h⟩⟩⟩⟩⟩, by decide +kernel, by decide⟩
theorem ws_X1_158 : mw_wV RX1 158 1 yX1_sendOn cX1_sendOn 5 none 2 := ⟨List.forall_mem_cons.mpr ⟨mw_inT 316 (by decide +kernel) rfl, List.forall_mem_cons.mpr ⟨mw_inT 318 (by decide +kernel) rfl, List.forall_mem_cons.mpr ⟨mw_inS 5 (by decide +kernel) rfl, List.forall_mem_cons.mpr ⟨mw_inT 1 (by decide +kernel) rfl, List.forall_mem_cons.mpr ⟨mw_inT 319 (by decide +kernel) rfl, fun _ h => nomatch h⟩⟩⟩⟩⟩, by decide +kernel, by decide⟩
theorem ws_X1_171 : mw_wV RX1 171 1 yX1_energyFrom cX1_energyFrom 5 (some .int) 2 := ⟨List.forall_mem_cons.mpr ⟨mw_inT 444 (by decide +kernel) rfl, List.forall_mem_cons.mpr ⟨mw_inT 446 (by decide +kernel) rfl, List.forall_mem_cons.mpr ⟨mw_inS 9 (by decide +kernel) rfl, List.forall_mem_cons.mpr ⟨mw_inT 1 (by decide +kernel) rfl, List.forall_mem_cons.mpr ⟨mw_inT 447 (by decide +kernel) rfl, fun _ h => nomatch h⟩⟩⟩⟩⟩, by decide +kernel, by decide⟩
theorem ws_X1_174 : mw_wV RX1 174 0 yX0_leastRelease cX0_leastRelease 3 (some .int) 1 := ⟨List.forall_mem_cons.mpr ⟨mw_inT 440 (by decide +kernel) rfl, List.forall_mem_cons.mpr ⟨mw_inT 441 (by decide +kernel) rfl, List.forall_mem_cons.mpr ⟨mw_inT 442 (by decide +kernel) rfl, List.forall_mem_cons.mpr ⟨mw_inT 2 (by decide +kernel) rfl, List.forall_mem_cons.mpr ⟨mw_inT 443 (by decide +kernel) rfl, fun _ h => nomatch h⟩⟩⟩⟩⟩, by decide +kernel, by decide⟩
theorem ws_X1_177 : mw_wV RX1 177 0 yX0_levelBehind cX0_levelBehind 3 (some .int) 2 := ⟨List.forall_mem_cons.mpr ⟨mw_inT 448 (by decide +kernel) rfl, List.forall_mem_cons.mpr ⟨mw_inT 449 (by decide +kernel) rfl, List.forall_mem_cons.mpr ⟨mw_inT 450 (by decide +kernel) rfl, List.forall_mem_cons.mpr ⟨mw_inT 2 (by decide +kernel) rfl, List.forall_mem_cons.mpr ⟨mw_inT 451 (by decide +kernel) rfl, fun _ h => nomatch h⟩⟩⟩⟩⟩, by decide +kernel, by decide⟩
theorem ws_X1_180 : mw_wV RX1 180 0 yX0_energyAt cX0_energyAt 3 (some .int) 2 := ⟨List.forall_mem_cons.mpr ⟨mw_inT 452 (by decide +kernel) rfl, List.forall_mem_cons.mpr ⟨mw_inT 305 (by decide +kernel) rfl, List.forall_mem_cons.mpr ⟨mw_inT 306 (by decide +kernel) rfl, List.forall_mem_cons.mpr ⟨mw_inT 2 (by decide +kernel) rfl, List.forall_mem_cons.mpr ⟨mw_inT 307 (by decide +kernel) rfl, fun _ h => nomatch h⟩⟩⟩⟩⟩, by decide +kernel, by decide⟩
theorem ws_X1_183 : mw_wS RX1 183 yJ9_max_7cf53 cJ9_max_7cf53 2 (some .int) 2 := ⟨List.forall_mem_cons.mpr ⟨mw_inT 466 (by decide +kernel) rfl, List.forall_mem_cons.mpr ⟨mw_inT 33 (by decide +kernel) rfl, List.forall_mem_cons.mpr ⟨mw_inT 3 (by decide +kernel) rfl, List.forall_mem_cons.mpr ⟨mw_inT 34 (by decide +kernel) rfl, fun _ h => nomatch h⟩⟩⟩⟩, by decide +kernel, by decide⟩
theorem ws_X2_68 : mw_wS RX2 68 yX2_isIn cX2_isIn 3 (some .boolean) 3 := ⟨List.forall_mem_cons.mpr ⟨mw_inT 552 (by decide +kernel) rfl, List.forall_mem_cons.mpr ⟨mw_inT 553 (by decide +kernel) rfl, List.forall_mem_cons.mpr ⟨mw_inT 4 (by decide +kernel) rfl, List.forall_mem_cons.mpr ⟨mw_inT 554 (by decide +kernel) rfl, fun _ h => nomatch h⟩⟩⟩⟩, by decide +kernel, by decide⟩
theorem ws_X2_72 : mw_wS RX2 72 yX2_isPlant cX2_isPlant 1 (some .boolean) 1 := ⟨List.forall_mem_cons.mpr ⟨mw_inT 549 (by decide +kernel) rfl, List.forall_mem_cons.mpr ⟨mw_inT 550 (by decide +kernel) rfl, List.forall_mem_cons.mpr ⟨mw_inT 4 (by decide +kernel) rfl, List.forall_mem_cons.mpr ⟨mw_inT 551 (by decide +kernel) rfl, fun _ h => nomatch h⟩⟩⟩⟩, by decide +kernel, by decide⟩
theorem ws_X2_76 : mw_wS RX2 76 yX2_isOwner cX2_isOwner 1 (some .boolean) 1 := ⟨List.forall_mem_cons.mpr ⟨mw_inT 567 (by decide +kernel) rfl, List.forall_mem_cons.mpr ⟨mw_inT 568 (by decide +kernel) rfl, List.forall_mem_cons.mpr ⟨mw_inT 4 (by decide +kernel) rfl, List.forall_mem_cons.mpr ⟨mw_inT 569 (by decide +kernel) rfl, fun _ h => nomatch h⟩⟩⟩⟩, by decide +kernel, by decide⟩
theorem ws_X2_82 : mw_wV RX2 82 2 yX2_filled cX2_filled 2 (some .int) 1 := ⟨List.forall_mem_cons.mpr ⟨mw_inT 582 (by decide +kernel) rfl, List.forall_mem_cons.mpr ⟨mw_inT 584 (by decide +kernel) rfl, List.forall_mem_cons.mpr ⟨mw_inS 11 (by decide +kernel) rfl, List.forall_mem_cons.mpr ⟨mw_inT 4 (by decide +kernel) rfl, List.forall_mem_cons.mpr ⟨mw_inT 585 (by decide +kernel) rfl, fun _ h => nomatch h⟩⟩⟩⟩⟩, by decide +kernel, by decide⟩
theorem ws_X2_86 : mw_wV RX2 86 2 yX2_richer cX2_richer 2 (some .int) 1 := ⟨List.forall_mem_cons.mpr ⟨mw_inT 586 (by decide +kernel) rfl, List.forall_mem_cons.mpr ⟨mw_inT 588 (by decide +kernel) rfl, List.forall_mem_cons.mpr ⟨mw_inS 12 (by decide +kernel) rfl, List.forall_mem_cons.mpr ⟨mw_inT 4 (by decide +kernel) rfl, List.forall_mem_cons.mpr ⟨mw_inT 589 (by decide +kernel) rfl, fun _ h => nomatch h⟩⟩⟩⟩⟩, by decide +kernel, by decide⟩
theorem ws_X2_89 : mw_wV RX2 89 2 yX2_sends cX2_sends 4 none 3 := ⟨List.forall_mem_cons.mpr ⟨mw_inT 590 (by decide +kernel) rfl, List.forall_mem_cons.mpr ⟨mw_inT 592 (by decide +kernel) rfl, List.forall_mem_cons.mpr ⟨mw_inS 13 (by decide +kernel) rfl, List.forall_mem_cons.mpr ⟨mw_inT 4 (by decide +kernel) rfl, List.forall_mem_cons.mpr ⟨mw_inT 593 (by decide +kernel) rfl, fun _ h => nomatch h⟩⟩⟩⟩⟩, by decide +kernel, by decide⟩
theorem ws_X2_93 : mw_wV RX2 93 2 yX2_mixed cX2_mixed 6 (some .int) 2 := ⟨List.forall_mem_cons.mpr ⟨mw_inT 594 (by decide +kernel) rfl, List.forall_mem_cons.mpr ⟨mw_inT 596 (by decide +kernel) rfl, List.forall_mem_cons.mpr ⟨mw_inS 14 (by decide +kernel) rfl, List.forall_mem_cons.mpr ⟨mw_inT 4 (by decide +kernel) rfl, List.forall_mem_cons.mpr ⟨mw_inT 597 (by decide +kernel) rfl, fun _ h => nomatch h⟩⟩⟩⟩⟩, by decide +kernel, by decide⟩
theorem ws_X2_97 : mw_wV RX2 97 2 yX2_works cX2_works 12 none 1 := ⟨List.forall_mem_cons.mpr ⟨mw_inT 578 (by decide +kernel) rfl, List.forall_mem_cons.mpr ⟨mw_inT 580 (by decide +kernel) rfl, List.forall_mem_cons.mpr ⟨mw_inS 10 (by decide +kernel) rfl, List.forall_mem_cons.mpr ⟨mw_inT 4 (by decide +kernel) rfl, List.forall_mem_cons.mpr ⟨mw_inT 581 (by decide +kernel) rfl, fun _ h => nomatch h⟩⟩⟩⟩⟩, by decide +kernel, by decide⟩
theorem ws_X2_101 : mw_wV RX2 101 2 yX2_asks cX2_asks 2 (some .boolean) 1 := ⟨List.forall_mem_cons.mpr ⟨mw_inT 614 (by decide +kernel) rfl, List.forall_mem_cons.mpr ⟨mw_inT 616 (by decide +kernel) rfl, List.forall_mem_cons.mpr ⟨mw_inS 15 (by decide +kernel) rfl, List.forall_mem_cons.mpr ⟨mw_inT 4 (by decide +kernel) rfl, List.forall_mem_cons.mpr ⟨mw_inT 617 (by decide +kernel) rfl, fun _ h => nomatch h⟩⟩⟩⟩⟩, by decide +kernel, by decide⟩
theorem ws_X2_104 : mw_wV RX2 104 2 yX2_knows cX2_knows 2 (some .boolean) 1 := ⟨List.forall_mem_cons.mpr ⟨mw_inT 630 (by decide +kernel) rfl, List.forall_mem_cons.mpr ⟨mw_inT 632 (by decide +kernel) rfl, List.forall_mem_cons.mpr ⟨mw_inS 16 (by decide +kernel) rfl, List.forall_mem_cons.mpr ⟨mw_inT 4 (by decide +kernel) rfl, List.forall_mem_cons.mpr ⟨mw_inT 633 (by decide +kernel) rfl, fun _ h => nomatch h⟩⟩⟩⟩⟩, by decide +kernel, by decide⟩
theorem ws_X2_107 : mw_wV RX2 107 2 yX2_may cX2_may 4 (some .boolean) 2 := ⟨List.forall_mem_cons.mpr ⟨mw_inT 674 (by decide +kernel) rfl, List.forall_mem_cons.mpr ⟨mw_inT 676 (by decide +kernel) rfl, List.forall_mem_cons.mpr ⟨mw_inS 19 (by decide +kernel) rfl, List.forall_mem_cons.mpr ⟨mw_inT 4 (by decide +kernel) rfl, List.forall_mem_cons.mpr ⟨mw_inT 677 (by decide +kernel) rfl, fun _ h => nomatch h⟩⟩⟩⟩⟩, by decide +kernel, by decide⟩
theorem ws_X2_111 : mw_wV RX2 111 2 yX2_comes cX2_comes 6 (some .int) 3 := ⟨List.forall_mem_cons.mpr ⟨mw_inT 678 (by decide +kernel) rfl, List.forall_mem_cons.mpr ⟨mw_inT 680 (by decide +kernel) rfl, List.forall_mem_cons.mpr ⟨mw_inS 20 (by decide +kernel) rfl, List.forall_mem_cons.mpr ⟨mw_inT 4 (by decide +kernel) rfl, List.forall_mem_cons.mpr ⟨mw_inT 681 (by decide +kernel) rfl, fun _ h => nomatch h⟩⟩⟩⟩⟩, by decide +kernel, by decide⟩
theorem ws_X2_115 : mw_wV RX2 115 2 yX2_lays cX2_lays 7 none 1 := ⟨List.forall_mem_cons.mpr ⟨mw_inT 670 (by decide +kernel) rfl, List.forall_mem_cons.mpr ⟨mw_inT 672 (by decide +kernel) rfl, List.forall_mem_cons.mpr ⟨mw_inS 18 (by decide +kernel) rfl, List.forall_mem_cons.mpr ⟨mw_inT 4 (by decide +kernel) rfl, List.forall_mem_cons.mpr ⟨mw_inT 673 (by decide +kernel) rfl, fun _ h => nomatch h⟩⟩⟩⟩⟩, by decide +kernel, by decide⟩
theorem ws_X2_118 : mw_wV RX2 118 2 yX2_greatest cX2_greatest 2 (some .int) 1 := ⟨List.forall_mem_cons.mpr ⟨mw_inT 666 (by decide +kernel) rfl, List.forall_mem_cons.mpr ⟨mw_inT 668 (by decide +kernel) rfl, List.forall_mem_cons.mpr ⟨mw_inS 17 (by decide +kernel) rfl, List.forall_mem_cons.mpr ⟨mw_inT 4 (by decide +kernel) rfl, List.forall_mem_cons.mpr ⟨mw_inT 669 (by decide +kernel) rfl, fun _ h => nomatch h⟩⟩⟩⟩⟩, by decide +kernel, by decide⟩
theorem wo_X0_3 : Cond.methodLink RX0 3 objectInit ∈ mw_bg ∧ Cond.instanceMethod objectInit ∈ mw_bg ∧ Cond.code objectInit ⟨#[0xb1]⟩ 1 none ∈ mw_bg := ⟨mw_inT 25 (by decide +kernel) rfl, mw_inT 17 (by decide +kernel) rfl, mw_inT 18 (by decide +kernel) rfl⟩
theorem wo_X1_3 : Cond.methodLink RX1 3 objectInit ∈ mw_bg ∧ Cond.instanceMethod objectInit ∈ mw_bg ∧ Cond.code objectInit ⟨#[0xb1]⟩ 1 none ∈ mw_bg := ⟨mw_inT 16 (by decide +kernel) rfl, mw_inT 17 (by decide +kernel) rfl, mw_inT 18 (by decide +kernel) rfl⟩
theorem wo_X2_1 : Cond.methodLink RX2 1 objectInit ∈ mw_bg ∧ Cond.instanceMethod objectInit ∈ mw_bg ∧ Cond.code objectInit ⟨#[0xb1]⟩ 1 none ∈ mw_bg := ⟨mw_inT 479 (by decide +kernel) rfl, mw_inT 17 (by decide +kernel) rfl, mw_inT 18 (by decide +kernel) rfl⟩
theorem wa_X1_165 : Cond.methodLink RX1 165 arraycopyName ∈ mw_bg ∧ Cond.native arraycopyName ∈ mw_bg ∧ Cond.static arraycopyName ∈ mw_bg ∧ Cond.initialized "java/lang/System" ∈ mw_bg := ⟨mw_inT 453 (by decide +kernel) rfl, mw_inT 455 (by decide +kernel) rfl, mw_inT 454 (by decide +kernel) rfl, mw_inT 10 (by decide +kernel) rfl⟩
theorem th_137_l : ∀ w ∈ (vx_atS RX1 139 "java/lang/IllegalArgumentException" mw_sup).filter goodWord, w ∈ lw_tbl := by decide +kernel
theorem th_137 : mw_thr 135 137 139 "java/lang/IllegalArgumentException" "out of range" := ⟨by decide +kernel, mw_inT 140 (by decide +kernel) rfl, mw_inT 8 (by decide +kernel) rfl, fun w h => mw_in (th_137_l w h) (List.mem_filter.mp h).2, by decide +kernel, by decide +kernel, fun _ _ h => ⟨h.2.2.1, mw_cwZ h.2.2.2.2.2.1 h.2.2.2.2.2.2.2.2.2.2.2⟩⟩
theorem th_77_l : ∀ w ∈ (vx_atS RX1 79 "java/lang/IllegalStateException" mw_sup).filter goodWord, w ∈ lw_tbl := by decide +kernel
theorem th_77 : mw_thr 75 77 79 "java/lang/IllegalStateException" "more than 200 hours" := ⟨by decide +kernel, mw_inT 247 (by decide +kernel) rfl, mw_inT 9 (by decide +kernel) rfl, fun w h => mw_in (th_77_l w h) (List.mem_filter.mp h).2, by decide +kernel, by decide +kernel, fun _ _ h => ⟨h.2.2.2.1, mw_cwZ h.2.2.2.2.2.2.1 h.2.2.2.2.2.2.2.2.2.2.2⟩⟩
theorem th_88_l : ∀ w ∈ (vx_atS RX1 79 "java/lang/IllegalStateException" mw_sup).filter goodWord, w ∈ lw_tbl := by decide +kernel
theorem th_88 : mw_thr 75 88 79 "java/lang/IllegalStateException" "the account is less than the amount" := ⟨by decide +kernel, mw_inT 247 (by decide +kernel) rfl, mw_inT 9 (by decide +kernel) rfl, fun w h => mw_in (th_88_l w h) (List.mem_filter.mp h).2, by decide +kernel, by decide +kernel, fun _ _ h => ⟨h.2.2.2.2.1, mw_cwZ h.2.2.2.2.2.2.1 h.2.2.2.2.2.2.2.2.2.2.2⟩⟩
theorem wn_X1_9 : Cond.classLink RX1 9 (mw_Cn 0) ∈ mw_bg ∧ Cond.instantiable (mw_Cn 0) (mw_nf 0) ∈ mw_bg ∧ Cond.initialized (mw_Cn 0) ∈ mw_bg := ⟨mw_inT 19 (by decide +kernel) rfl, mw_inT 21 (by decide +kernel) rfl, mw_inT 2 (by decide +kernel) rfl⟩
theorem wn_L_8 : Cond.classLink RL 8 (mw_Cn 1) ∈ mw_bg ∧ Cond.instantiable (mw_Cn 1) (mw_nf 1) ∈ mw_bg ∧ Cond.initialized (mw_Cn 1) ∈ mw_bg := ⟨mw_inT 11 (by decide +kernel) rfl, mw_inT 12 (by decide +kernel) rfl, mw_inT 1 (by decide +kernel) rfl⟩
theorem wn_L_85 : Cond.classLink RL 85 (mw_Cn 2) ∈ mw_bg ∧ Cond.instantiable (mw_Cn 2) (mw_nf 2) ∈ mw_bg ∧ Cond.initialized (mw_Cn 2) ∈ mw_bg := ⟨mw_inT 474 (by decide +kernel) rfl, mw_inT 475 (by decide +kernel) rfl, mw_inT 4 (by decide +kernel) rfl⟩
theorem wm_X0_34 : Cond.classLink RX0 34 ("[" ++ (FieldType.array .int).toString) ∈ mw_bg := mw_inT 26 (by decide +kernel) rfl
theorem wq_int : Cond.arrayClass .int ∈ mw_bg := mw_inT 99 (by decide +kernel) rfl
theorem wq_long : Cond.arrayClass .long ∈ mw_bg := mw_inT 690 (by decide +kernel) rfl
theorem wk_13 : Cond.classLink RL 13 "java/lang/IllegalArgumentException" ∈ mw_bg := mw_inT 129 (by decide +kernel) rfl
theorem wk_34 : Cond.classLink RL 34 "java/lang/IllegalStateException" ∈ mw_bg := mw_inT 242 (by decide +kernel) rfl
end
section
/-! the layout when all is made: 0 WaterCascade, 1 plants, 2 inflowSoFar, 3 goneSoFar, 4 borrowed, 5 bestLater, 6 bestNow; plant i from 7 + 11 * i on; 40 WaterCascadeModel, 41 to 58 its arrays; 59 out -/
def mw_shP : List (Nat × Nat) := [(4, 0), (0, 2), (0, 2), (0, 2), (3, 2), (0, 6), (0, 6), (3, 2), (0, 9), (0, 9), (0, 17)]
def mw_shL : List (Nat × Nat) := [(5, 0), (2, 3), (0, 2), (0, 2), (0, 2), (0, 201), (0, 201)] ++ mw_shP ++ mw_shP ++ mw_shP ++ [(6, 0), (0, 3), (0, 3), (0, 3), (0, 3), (0, 3), (0, 3), (0, 6), (0, 54), (0, 6), (0, 1260), (0, 2), (0, 2), (0, 2), (0, 3), (0, 3), (0, 3), (0, 3), (0, 1820), (1, 1)]
def mw_rfP (b : Nat) : List (List (Option Nat)) := [[none, none, none, none, none, none, some (b + 1), some (b + 2), some (b + 3), some (b + 4), some (b + 7), some (b + 10)], [], [], [], [some (b + 5), some (b + 6)], [], [], [some (b + 8), some (b + 9)], [], [], []]
def mw_rfL : List (List (Option Nat)) := [[some 1, some 2, some 3, some 4, some 5, some 6], [some 7, some 18, some 29], [], [], [], [], []] ++ mw_rfP 7 ++ mw_rfP 18 ++ mw_rfP 29 ++ [[some 41, some 42, some 43, some 44, some 45, some 46, some 47, some 48, some 49, some 50, none, some 51, some 52, some 53, some 54, some 55, some 56, some 57, some 58]]
def mw_Y0 : mw_Y := (60, fun k => mw_shL.getD k (0, 0), fun k j => (mw_rfL.getD k []).getD j none)
/-- a plant whose cells begin at the name b -/
def mw_isP (y : mw_Y) (b : Nat) : Prop := b + 11 ≤ y.1 ∧ (y.2.1 b = (0 + 4, 0) ∧ y.2.1 (b + 1) = (0, 2) ∧ y.2.1 (b + 2) = (0, 2) ∧ y.2.1 (b + 3) = (0, 2) ∧ y.2.1 (b + 4) = (3, 2) ∧ (∀ o, o < 2 → y.2.1 (b + 5 + o) = (0, 6)) ∧ y.2.1 (b + 7) = (3, 2) ∧ (∀ o, o < 2 → y.2.1 (b + 8 + o) = (0, 9)) ∧ y.2.1 (b + 10) = (0, 17)) ∧ (y.2.2 b 6 = some (b + 1) ∧ y.2.2 b 7 = some (b + 2) ∧ y.2.2 b 8 = some (b + 3) ∧ y.2.2 b 9 = some (b + 4) ∧ y.2.2 b 10 = some (b + 7) ∧ y.2.2 b 11 = some (b + 10)) ∧ (∀ o, o < 2 → y.2.2 (b + 4) o = some (b + 5 + o)) ∧ (∀ o, o < 2 → y.2.2 (b + 7) o = some (b + 8 + o))
section
variable {y : mw_Y} {b : Nat}
theorem mw_isP.l (h : mw_isP y b) {a : Nat} (ha : a < b + 11) : a < y.1 := Nat.lt_of_lt_of_le ha h.1
theorem mw_isP.l0 (h : mw_isP y b) : b < y.1 := h.l (by omega)
theorem mw_isP.l1 (h : mw_isP y b) : b + 1 < y.1 := h.l (by omega)
theorem mw_isP.l2 (h : mw_isP y b) : b + 2 < y.1 := h.l (by omega)
theorem mw_isP.l3 (h : mw_isP y b) : b + 3 < y.1 := h.l (by omega)
theorem mw_isP.l4 (h : mw_isP y b) : b + 4 < y.1 := h.l (by omega)
theorem mw_isP.l5 (h : mw_isP y b) {o : Nat} (ho : o < 2) : b + 5 + o < y.1 := h.l (by omega)
theorem mw_isP.l7 (h : mw_isP y b) : b + 7 < y.1 := h.l (by omega)
theorem mw_isP.l8 (h : mw_isP y b) {o : Nat} (ho : o < 2) : b + 8 + o < y.1 := h.l (by omega)
theorem mw_isP.l10 (h : mw_isP y b) : b + 10 < y.1 := h.l (by omega)
theorem mw_isP.s0 (h : mw_isP y b) : y.2.1 b = (0 + 4, 0) := h.2.1.1
theorem mw_isP.s1 (h : mw_isP y b) : y.2.1 (b + 1) = (0, 2) := h.2.1.2.1
theorem mw_isP.s2 (h : mw_isP y b) : y.2.1 (b + 2) = (0, 2) := h.2.1.2.2.1
theorem mw_isP.s3 (h : mw_isP y b) : y.2.1 (b + 3) = (0, 2) := h.2.1.2.2.2.1
theorem mw_isP.s4 (h : mw_isP y b) : y.2.1 (b + 4) = (3, 2) := h.2.1.2.2.2.2.1
theorem mw_isP.s5 (h : mw_isP y b) {o : Nat} (ho : o < 2) : y.2.1 (b + 5 + o) = (0, 6) := h.2.1.2.2.2.2.2.1 o ho
theorem mw_isP.s7 (h : mw_isP y b) : y.2.1 (b + 7) = (3, 2) := h.2.1.2.2.2.2.2.2.1
theorem mw_isP.s8 (h : mw_isP y b) {o : Nat} (ho : o < 2) : y.2.1 (b + 8 + o) = (0, 9) := h.2.1.2.2.2.2.2.2.2.1 o ho
theorem mw_isP.s10 (h : mw_isP y b) : y.2.1 (b + 10) = (0, 17) := h.2.1.2.2.2.2.2.2.2.2
theorem mw_isP.r6 (h : mw_isP y b) : y.2.2 b 6 = some (b + 1) := h.2.2.1.1
theorem mw_isP.r7 (h : mw_isP y b) : y.2.2 b 7 = some (b + 2) := h.2.2.1.2.1
theorem mw_isP.r8 (h : mw_isP y b) : y.2.2 b 8 = some (b + 3) := h.2.2.1.2.2.1
theorem mw_isP.r9 (h : mw_isP y b) : y.2.2 b 9 = some (b + 4) := h.2.2.1.2.2.2.1
theorem mw_isP.r10 (h : mw_isP y b) : y.2.2 b 10 = some (b + 7) := h.2.2.1.2.2.2.2.1
theorem mw_isP.r11 (h : mw_isP y b) : y.2.2 b 11 = some (b + 10) := h.2.2.1.2.2.2.2.2
theorem mw_isP.u (h : mw_isP y b) {o : Nat} (ho : o < 2) : y.2.2 (b + 4) o = some (b + 5 + o) := h.2.2.2.1 o ho
theorem mw_isP.yy (h : mw_isP y b) {o : Nat} (ho : o < 2) : y.2.2 (b + 7) o = some (b + 8 + o) := h.2.2.2.2 o ho
end
theorem mw_P0 : ∀ {i : Nat}, i < 3 → mw_isP mw_Y0 (7 + 11 * i) := by
  intro i hi
  rcases (by omega : i = 0 ∨ i = 1 ∨ i = 2) with rfl | rfl | rfl
  · exact ⟨by decide, ⟨rfl, rfl, rfl, rfl, rfl, by decide, rfl, by decide, rfl⟩, ⟨rfl, rfl, rfl, rfl, rfl, rfl⟩, by decide, by decide⟩
  · exact ⟨by decide, ⟨rfl, rfl, rfl, rfl, rfl, by decide, rfl, by decide, rfl⟩, ⟨rfl, rfl, rfl, rfl, rfl, rfl⟩, by decide, by decide⟩
  · exact ⟨by decide, ⟨rfl, rfl, rfl, rfl, rfl, by decide, rfl, by decide, rfl⟩, ⟨rfl, rfl, rfl, rfl, rfl, rfl⟩, by decide, by decide⟩
theorem mw_Yl {k : Nat} (h : k < 60) : k < mw_Y0.1 := h
theorem mw_YW : mw_Y0.2.1 0 = (1 + 4, 0) := rfl
theorem mw_YM : mw_Y0.2.1 40 = (2 + 4, 0) := rfl
theorem mw_Yp {i : Nat} (hi : i < 3) : mw_Y0.2.2 1 i = some (7 + 11 * i) := by
  rcases (by omega : i = 0 ∨ i = 1 ∨ i = 2) with rfl | rfl | rfl <;> rfl
theorem mw_n0 : (0 : Int32) = nI 0 := rfl
theorem mw_n1 : (1 : Int32) = nI 1 := rfl
theorem mw_n2 : (2 : Int32) = nI 2 := rfl
theorem mw_n3 : (3 : Int32) = nI 3 := rfl
theorem mw_n4 : (4 : Int32) = nI 4 := rfl
theorem mw_n5 : (5 : Int32) = nI 5 := rfl
theorem mw_n6 : (6 : Int32) = nI 6 := rfl
theorem mw_n8 : (8 : Int32) = nI 8 := rfl
theorem mw_n9 : (9 : Int32) = nI 9 := rfl
theorem mw_n18 : (18 : Int32) = nI 18 := rfl
theorem mw_n210 : (210 : Int32) = nI 210 := rfl
theorem mw_n260 : (260 : Int32) = nI 260 := rfl
theorem mw_inc1 (k : Nat) : nI k + Int32.ofInt 1 = nI (k + 1) := nI_1 k
/-- a number in a range -/
def okR (v lo hi : Int32) : Prop := ¬ v < lo ∧ v ≤ hi
theorem okR_nat {v : Int32} {n : Nat} (hn : n < 2 ^ 31) (h : okR v 0 (nI n)) : ∃ i : Nat, i < n + 1 ∧ v = nI i := by
  obtain ⟨h1, h2⟩ := h
  obtain ⟨j, hj, rfl⟩ := nI_of h1
  exact ⟨j, Nat.lt_succ_of_le ((nI_leI hj hn).mp h2), rfl⟩
theorem okR_nI {i n : Nat} (hn : n < 2 ^ 31) (h : i < n + 1) : okR (nI i) 0 (nI n) := ⟨nI_pos (by omega), nI_le (by omega) hn⟩
-- rows with the numbers written out
section
variable {own : String} {cc : ByteArray} {D0 CM SM : Nat} {X : mw_X} {pc : Nat} {ls : List (Option Value)} {st : List Value} {y : mw_Y} {I : mw_I} {L : mw_L} {n k : Nat}
theorem mw_ic (hX : mw_Ok own cc D0 CM SM X) (x : Int32) {i : Int} (d : decode cc pc = .ok (.iconst i, 1)) (hx : Int32.ofInt i = x) (kk : mw_G X (pc + 1) ls (.int x :: st) y I L n k) : mw_G X pc ls st y I L n k := by subst hx; exact mw_iconst hX d kk
theorem mw_bp (hX : mw_Ok own cc D0 CM SM X) (x : Int32) {i : Int} (d : decode cc pc = .ok (.bipush i, 2)) (hx : (Int8.ofInt i).toInt32 = x) (kk : mw_G X (pc + 2) ls (.int x :: st) y I L n k) : mw_G X pc ls st y I L n k := by subst hx; exact mw_bipush hX d kk
theorem mw_sp (hX : mw_Ok own cc D0 CM SM X) (x : Int32) {i : Int} (d : decode cc pc = .ok (.sipush i, 3)) (hx : (Int16.ofInt i).toInt32 = x) (kk : mw_G X (pc + 3) ls (.int x :: st) y I L n k) : mw_G X pc ls st y I L n k := by subst hx; exact mw_sipush hX d kk
theorem mw_inc (hX : mw_Ok own cc D0 CM SM X) {i : Nat} {z : Int} {v : Int32} (w : Int32) (d : decode cc pc = .ok (.iinc i z, 3)) (h : ls[i]? = some (some (.int v))) (hw : v + Int32.ofInt z = w) (kk : mw_G X (pc + 3) (ls.set i (some (.int w))) st y I L n k) : mw_G X pc ls st y I L n k := by subst hw; exact mw_iinc hX d h kk
end
/-- n rounds of f on x, the k-th with k -/
def lpN {α : Type} (f : Nat → α → α) : Nat → α → α
  | 0, x => x
  | n + 1, x => f n (lpN f n x)
theorem lpN_succ {α : Type} (f : Nat → α → α) (n : Nat) (x : α) : lpN f (n + 1) x = f n (lpN f n x) := rfl
/-- a loop that counts up -/
theorem lp_up {p : Nat → Prop} {q : Prop} (N : Nat) (hx : p N → q) (hs : ∀ k, k < N → (p (k + 1) → q) → (p k → q)) : ∀ k, k ≤ N → p k → q := by
  intro k hk
  obtain ⟨m, rfl⟩ : ∃ m, k + m = N := ⟨N - k, by omega⟩
  clear hk
  induction m generalizing k with
  | zero => exact hx
  | succ m ih =>
    refine hs k (by omega) ?_
    have h9 := ih (k + 1) (by rw [show k + 1 + m = k + (m + 1) by omega]; exact hx) (fun j hj => hs j (by omega))
    exact h9
end
section
theorem mw_cat {as : List Value} (h : as.all (fun v => v.category == 1) = true) : ∀ v ∈ as, v.category = 1 := fun v hv => by simpa using List.all_eq_true.mp h v hv
/-- as vx_ofW, for a method whose own name has no native row, whatever its class's name -/
theorem mw_ofWF {l : Launch} {y : MethodName} {ws ws' : List Cond} {rm : Room} {Pc : Array Value → State → Prop} {Qc : Array Value → State → Outcome → State → Prop} {XC : String → State → State → Prop} {mc ms : Nat} {free : Addr → Prop} {cc : ByteArray} {maxL : Nat} {ret : Option FieldType}
    (hy : plainFor y = true) (hw : ws = Cond.code y cc maxL ret :: ws')
    (body : ∀ p e s m args below meth c s₁, BodyLoose p l y (headSpec ws rm) cc maxL ret e s m args below meth c s₁ → c.maxLocals = maxL → (∀ x ∈ c.exceptionTable.toList, False) → Pc args s →
      W p l e (headSpec ws rm).room s m args below meth c s.heap [] 0 0 (vx_MQ below Qc XC args s mc ms free) (entryFrame m args maxL)) : vx_Met l y ws rm Pc Qc XC mc ms free := by
  refine MetFree.of_bodySF (code := cc) (maxLocals := maxL) (ret := ret) hy ?_ ?_
  · intro args s m h hn
    obtain ⟨meth, c, h1, h2, h3, h4, h5, h6, -, -⟩ := Cond.code_spec hn (atoms_spec (ws := ws) h _ (by rw [hw]; exact List.mem_cons_self))
    exact ⟨meth, c, h1, h2, h3, h4, h5, h6⟩
  · intro p e s m args below meth c s₁ B hml hP _
    have hh0 : s₁.heap = s.heap := by rw [B.state]; rfl
    have ht : ∀ x ∈ c.exceptionTable.toList, False := by
      obtain ⟨meth9, c9, h1, h2, -, -, -, -, h7, -⟩ := Cond.code_spec B.named (atoms_spec (ws := ws) B.pre _ (by rw [hw]; exact List.mem_cons_self))
      cases Option.some.inj (h1.symm.trans B.method)
      cases Option.some.inj (h2.symm.trans (Stand.of_body B).code)
      intro x hx
      rw [Array.isEmpty_iff.mp h7] at hx
      cases hx
    obtain ⟨t, a1, o, b1, b2, b3⟩ := body p e s m args below meth c s₁ B hml ht hP s₁ hh0 (Stand.of_body B)
    exact ⟨t, o, a1, b1, b2, b3⟩
theorem mw_enterF {l : Launch} {yn : MethodName} {bytes : ByteArray} {maxL : Nat} {ret : Option FieldType} {d mc ms : Nat} {as : List Value} {y : mw_Y} {I : mw_I} {L : mw_L} {out : mw_O} (own : String) (ho : yn.cls = own) (hy : plainFor yn = true) (hcat : ∀ v ∈ as, v.category = 1) (hlen : as.length ≤ maxL)
    (body : ∀ X : mw_X, mw_Ok own bytes d mc ms X → mw_l X = l → mw_End (y, I, L) out mc ms ret X → mw_noT X → mw_nm yn.name X → mw_G X 0 (as.map some ++ List.replicate (maxL - as.length) none) [] y I L 0 0) : mw_CT l yn (.code yn bytes maxL ret) d mc ms as (y, I, L) out := by
  intro hl D cA ad sz hwf
  refine mw_ofWF (cc := bytes) (maxL := maxL) (ret := ret) hy rfl ?_
  intro p e s m args below meth c s₁ B hml htab hv
  obtain ⟨rfl, hsz, hK, hP, hD0, hZ⟩ := hv
  have hts := atoms_spec (ws := .code yn bytes maxL ret :: mw_bg) B.pre
  have hown := findClass_of_methodNamed B.named
  rw [ho] at hown
  subst hsz
  rw [lg_entry_eq]
  have h := body (p, l, e, mw_rm d mc ms, s, m, (as.map (mw_tr ad)).toArray, below, meth, c, vx_MQ below (mw_Qc D cA ad s.heap.size (y, I, L) out) (mw_XC D cA ad s.heap.size (y, I, L) out) (as.map (mw_tr ad)).toArray s mc ms (mw_AA ad y.1 s.heap.size), D, cA, ad, y.1) ⟨B.exec, B.bytes, hown, fun w hw => hts w (List.mem_cons_of_mem _ hw), hK, hZ, hl, mw_rm_ok d mc ms⟩ rfl ⟨rfl, rfl, B.notSynchronized, B.returns⟩ htab (name_of_methodNamed B.named B.method).1
  exact h ad s.heap [] _ ⟨Nat.le_refl _, fun _ _ => rfl, hwf, hP, mw_D0 hD0, va_S.rf⟩ (by rw [hml]; exact mw_LR0 hcat hlen)
end
section
/-! checks of arguments; the JDK's three; Plant's small methods (by program: wip/whole/gen16.py) -/
set_option maxRecDepth 20000 in
theorem c_checkRange (l : Launch) (v lo hi : Int32) (h : okR v lo hi) (y : mw_Y) (I : mw_I) (L : mw_L) : mw_CT l yX1_checkRange (.code yX1_checkRange cX1_checkRange 3 none) 1 1 6 [.int v, .int lo, .int hi] (y, I, L) (.inl (none, y, I, L)) := by
  refine mw_enter RX1 rfl (by decide +kernel) (mw_cat rfl) (Nat.le_of_ble_eq_true rfl) (fun X hX hl hE hT hnm => ?_)
  subst hl
  show mw_G X 0 [some (.int v), some (.int lo), some (.int hi)] [] y I L 0 0
  refine mw_iload_n hX dX1_checkRange_0 rfl rfl ?_
  refine mw_iload_n hX dX1_checkRange_1 rfl rfl ?_
  refine mw_icmp_lt hX (tgt := 10) dX1_checkRange_2 (by decide) (fun h2 => ?_) (fun h2 => ?_)
  · exact absurd h2 h.1
  · refine mw_iload_n hX dX1_checkRange_5 rfl rfl ?_
    refine mw_iload_n hX dX1_checkRange_6 rfl rfl ?_
    refine mw_icmp_le hX (tgt := 20) dX1_checkRange_7 (by decide) (fun h7 => ?_) (fun h7 => ?_)
    · exact mw_return hX hE dX1_checkRange_20 (rfl) (by omega) (by omega)
    · exact absurd h7 (fun q => q h.2)
set_option maxRecDepth 20000 in
theorem c_checkRangeX (l : Launch) (v lo hi : Int32) (h : ¬ okR v lo hi) (y : mw_Y) (I : mw_I) (L : mw_L) : mw_CT l yX1_checkRange (.code yX1_checkRange cX1_checkRange 3 none) 1 1 6 [.int v, .int lo, .int hi] (y, I, L) (.inr "java/lang/IllegalArgumentException") := by
  refine mw_enter RX1 rfl (by decide +kernel) (mw_cat rfl) (Nat.le_of_ble_eq_true rfl) (fun X hX hl hE hT hnm => ?_)
  subst hl
  show mw_G X 0 [some (.int v), some (.int lo), some (.int hi)] [] y I L 0 0
  refine mw_iload_n hX dX1_checkRange_0 rfl rfl ?_
  refine mw_iload_n hX dX1_checkRange_1 rfl rfl ?_
  refine mw_icmp_lt hX (tgt := 10) dX1_checkRange_2 (by decide) (fun h2 => ?_) (fun h2 => ?_)
  · exact mw_throw hX hE hT th_137 dX1_checkRange_10 dX1_checkRange_13 dX1_checkRange_14 dX1_checkRange_16 dX1_checkRange_19 (rfl) (by omega) (by omega) (by omega) (by omega) (Nat.le_of_ble_eq_true rfl)
  · refine mw_iload_n hX dX1_checkRange_5 rfl rfl ?_
    refine mw_iload_n hX dX1_checkRange_6 rfl rfl ?_
    refine mw_icmp_le hX (tgt := 20) dX1_checkRange_7 (by decide) (fun h7 => ?_) (fun h7 => ?_)
    · exact absurd ⟨h2, h7⟩ h
    · exact mw_throw hX hE hT th_137 dX1_checkRange_10 dX1_checkRange_13 dX1_checkRange_14 dX1_checkRange_16 dX1_checkRange_19 (rfl) (by omega) (by omega) (by omega) (by omega) (Nat.le_of_ble_eq_true rfl)
set_option maxRecDepth 20000 in
theorem c_checkPlant (l : Launch) (v : Int32) (h : okR v 0 2) (y : mw_Y) (I : mw_I) (L : mw_L) : mw_CT l yX1_checkPlant (.code yX1_checkPlant cX1_checkPlant 1 none) 2 1 6 [.int v] (y, I, L) (.inl (none, y, I, L)) := by
  refine mw_enter RX1 rfl (by decide +kernel) (mw_cat rfl) (Nat.le_of_ble_eq_true rfl) (fun X hX hl hE hT hnm => ?_)
  subst hl
  show mw_G X 0 [some (.int v)] [] y I L 0 0
  refine mw_iload_n hX dX1_checkPlant_0 rfl rfl ?_
  refine mw_ic hX 0 dX1_checkPlant_1 rfl ?_
  refine mw_ic hX 2 dX1_checkPlant_2 rfl ?_
  refine mw_cS hX [_, _, _] ws_X1_36 dX1_checkPlant_3 (c_checkRange (mw_l X) v 0 2 h y I L) rfl (by decide) (by omega) (by omega) (Nat.le_of_ble_eq_true rfl) ?_
  exact mw_return hX hE dX1_checkPlant_6 (rfl) (by omega) (by omega)
set_option maxRecDepth 20000 in
theorem c_checkPlantX (l : Launch) (v : Int32) (h : ¬ okR v 0 2) (y : mw_Y) (I : mw_I) (L : mw_L) : mw_CT l yX1_checkPlant (.code yX1_checkPlant cX1_checkPlant 1 none) 2 1 6 [.int v] (y, I, L) (.inr "java/lang/IllegalArgumentException") := by
  refine mw_enter RX1 rfl (by decide +kernel) (mw_cat rfl) (Nat.le_of_ble_eq_true rfl) (fun X hX hl hE hT hnm => ?_)
  subst hl
  show mw_G X 0 [some (.int v)] [] y I L 0 0
  refine mw_iload_n hX dX1_checkPlant_0 rfl rfl ?_
  refine mw_ic hX 0 dX1_checkPlant_1 rfl ?_
  refine mw_ic hX 2 dX1_checkPlant_2 rfl ?_
  exact mw_cSX hX hE hT [_, _, _] ws_X1_36 dX1_checkPlant_3 (c_checkRangeX (mw_l X) v 0 2 h y I L) rfl (by decide) (by omega) (by omega) (Nat.le_of_ble_eq_true rfl) (rfl) (by omega) (by omega)
set_option maxRecDepth 20000 in
theorem c_checkLowerPlant (l : Launch) (v : Int32) (h : okR v 1 2) (y : mw_Y) (I : mw_I) (L : mw_L) : mw_CT l yX1_checkLowerPlant (.code yX1_checkLowerPlant cX1_checkLowerPlant 1 none) 2 1 6 [.int v] (y, I, L) (.inl (none, y, I, L)) := by
  refine mw_enter RX1 rfl (by decide +kernel) (mw_cat rfl) (Nat.le_of_ble_eq_true rfl) (fun X hX hl hE hT hnm => ?_)
  subst hl
  show mw_G X 0 [some (.int v)] [] y I L 0 0
  refine mw_iload_n hX dX1_checkLowerPlant_0 rfl rfl ?_
  refine mw_ic hX 1 dX1_checkLowerPlant_1 rfl ?_
  refine mw_ic hX 2 dX1_checkLowerPlant_2 rfl ?_
  refine mw_cS hX [_, _, _] ws_X1_36 dX1_checkLowerPlant_3 (c_checkRange (mw_l X) v 1 2 h y I L) rfl (by decide) (by omega) (by omega) (Nat.le_of_ble_eq_true rfl) ?_
  exact mw_return hX hE dX1_checkLowerPlant_6 (rfl) (by omega) (by omega)
set_option maxRecDepth 20000 in
theorem c_checkLowerPlantX (l : Launch) (v : Int32) (h : ¬ okR v 1 2) (y : mw_Y) (I : mw_I) (L : mw_L) : mw_CT l yX1_checkLowerPlant (.code yX1_checkLowerPlant cX1_checkLowerPlant 1 none) 2 1 6 [.int v] (y, I, L) (.inr "java/lang/IllegalArgumentException") := by
  refine mw_enter RX1 rfl (by decide +kernel) (mw_cat rfl) (Nat.le_of_ble_eq_true rfl) (fun X hX hl hE hT hnm => ?_)
  subst hl
  show mw_G X 0 [some (.int v)] [] y I L 0 0
  refine mw_iload_n hX dX1_checkLowerPlant_0 rfl rfl ?_
  refine mw_ic hX 1 dX1_checkLowerPlant_1 rfl ?_
  refine mw_ic hX 2 dX1_checkLowerPlant_2 rfl ?_
  exact mw_cSX hX hE hT [_, _, _] ws_X1_36 dX1_checkLowerPlant_3 (c_checkRangeX (mw_l X) v 1 2 h y I L) rfl (by decide) (by omega) (by omega) (Nat.le_of_ble_eq_true rfl) (rfl) (by omega) (by omega)
set_option maxRecDepth 20000 in
theorem c_checkOwner (l : Launch) (v : Int32) (h : okR v 0 1) (y : mw_Y) (I : mw_I) (L : mw_L) : mw_CT l yX1_checkOwner (.code yX1_checkOwner cX1_checkOwner 1 none) 2 1 6 [.int v] (y, I, L) (.inl (none, y, I, L)) := by
  refine mw_enter RX1 rfl (by decide +kernel) (mw_cat rfl) (Nat.le_of_ble_eq_true rfl) (fun X hX hl hE hT hnm => ?_)
  subst hl
  show mw_G X 0 [some (.int v)] [] y I L 0 0
  refine mw_iload_n hX dX1_checkOwner_0 rfl rfl ?_
  refine mw_ic hX 0 dX1_checkOwner_1 rfl ?_
  refine mw_ic hX 1 dX1_checkOwner_2 rfl ?_
  refine mw_cS hX [_, _, _] ws_X1_36 dX1_checkOwner_3 (c_checkRange (mw_l X) v 0 1 h y I L) rfl (by decide) (by omega) (by omega) (Nat.le_of_ble_eq_true rfl) ?_
  exact mw_return hX hE dX1_checkOwner_6 (rfl) (by omega) (by omega)
set_option maxRecDepth 20000 in
theorem c_checkOwnerX (l : Launch) (v : Int32) (h : ¬ okR v 0 1) (y : mw_Y) (I : mw_I) (L : mw_L) : mw_CT l yX1_checkOwner (.code yX1_checkOwner cX1_checkOwner 1 none) 2 1 6 [.int v] (y, I, L) (.inr "java/lang/IllegalArgumentException") := by
  refine mw_enter RX1 rfl (by decide +kernel) (mw_cat rfl) (Nat.le_of_ble_eq_true rfl) (fun X hX hl hE hT hnm => ?_)
  subst hl
  show mw_G X 0 [some (.int v)] [] y I L 0 0
  refine mw_iload_n hX dX1_checkOwner_0 rfl rfl ?_
  refine mw_ic hX 0 dX1_checkOwner_1 rfl ?_
  refine mw_ic hX 1 dX1_checkOwner_2 rfl ?_
  exact mw_cSX hX hE hT [_, _, _] ws_X1_36 dX1_checkOwner_3 (c_checkRangeX (mw_l X) v 0 1 h y I L) rfl (by decide) (by omega) (by omega) (Nat.le_of_ble_eq_true rfl) (rfl) (by omega) (by omega)
set_option maxRecDepth 20000 in
theorem c_max (l : Launch) (a b : Int32) (y : mw_Y) (I : mw_I) (L : mw_L) : mw_CT l yJ9_max_7cf53 (.code yJ9_max_7cf53 cJ9_max_7cf53 2 (some .int)) 1 0 0 [.int a, .int b] (y, I, L) (.inl (some (.int (if a < b then b else a)), y, I, L)) := by
  refine mw_enterF RJ9 rfl (by decide +kernel) (mw_cat rfl) (Nat.le_of_ble_eq_true rfl) (fun X hX hl hE hT hnm => ?_)
  subst hl
  show mw_G X 0 [some (.int a), some (.int b)] [] y I L 0 0
  refine mw_iload_n hX dJ9_max_7cf53_0 rfl rfl ?_
  refine mw_iload_n hX dJ9_max_7cf53_1 rfl rfl ?_
  refine mw_icmp_lt hX (tgt := 9) dJ9_max_7cf53_2 (by decide) (fun h2 => ?_) (fun h2 => ?_)
  · refine mw_iload_n hX dJ9_max_7cf53_9 rfl rfl ?_
    exact mw_ireturn hX hE dJ9_max_7cf53_10 (by simp [h2]) (by omega) (by omega)
  · refine mw_iload_n hX dJ9_max_7cf53_5 rfl rfl ?_
    refine mw_goto hX (tgt := 10) dJ9_max_7cf53_6 (by decide) ?_
    exact mw_ireturn hX hE dJ9_max_7cf53_10 (by simp [h2]) (by omega) (by omega)
set_option maxRecDepth 20000 in
theorem c_min (l : Launch) (a b : Int32) (y : mw_Y) (I : mw_I) (L : mw_L) : mw_CT l yJ9_min_7cf53 (.code yJ9_min_7cf53 cJ9_min_7cf53 2 (some .int)) 1 0 0 [.int a, .int b] (y, I, L) (.inl (some (.int (if b < a then b else a)), y, I, L)) := by
  refine mw_enterF RJ9 rfl (by decide +kernel) (mw_cat rfl) (Nat.le_of_ble_eq_true rfl) (fun X hX hl hE hT hnm => ?_)
  subst hl
  show mw_G X 0 [some (.int a), some (.int b)] [] y I L 0 0
  refine mw_iload_n hX dJ9_min_7cf53_0 rfl rfl ?_
  refine mw_iload_n hX dJ9_min_7cf53_1 rfl rfl ?_
  refine mw_icmp_gt hX (tgt := 9) dJ9_min_7cf53_2 (by decide) (fun h2 => ?_) (fun h2 => ?_)
  · refine mw_iload_n hX dJ9_min_7cf53_9 rfl rfl ?_
    exact mw_ireturn hX hE dJ9_min_7cf53_10 (by simp [h2]) (by omega) (by omega)
  · refine mw_iload_n hX dJ9_min_7cf53_5 rfl rfl ?_
    refine mw_goto hX (tgt := 10) dJ9_min_7cf53_6 (by decide) ?_
    exact mw_ireturn hX hE dJ9_min_7cf53_10 (by simp [h2]) (by omega) (by omega)
theorem mw_xor0 {n : Nat} (h : n < 1000) : 0 ≤ (nI n ^^^ (6 : Int32)) := by
  have e : nI n ^^^ (6 : Int32) = nI (n ^^^ 6) := by
    apply Int32.toBitVec_inj.mp
    show BitVec.ofNat 32 n ^^^ BitVec.ofNat 32 6 = BitVec.ofNat 32 (n ^^^ 6)
    exact (BitVec.ofNat_xor (w := 32) (x := n) (y := 6)).symm
  rw [e]
  exact nI_pos' (Nat.lt_of_lt_of_le (Nat.xor_lt_two_pow (n := 10) (by omega) (by omega)) (by decide))
set_option maxRecDepth 20000 in
theorem c_floorMod (l : Launch) (n : Nat) (h : n < 1000) (y : mw_Y) (I : mw_I) (L : mw_L) : mw_CT l yJ9_floorMod_7cf53 (.code yJ9_floorMod_7cf53 cJ9_floorMod_7cf53 3 (some .int)) 1 0 0 [.int (nI n), .int 6] (y, I, L) (.inl (some (.int (nI (n % 6))), y, I, L)) := by
  refine mw_enterF RJ9 rfl (by decide +kernel) (mw_cat rfl) (Nat.le_of_ble_eq_true rfl) (fun X hX hl hE hT hnm => ?_)
  subst hl
  show mw_G X 0 [some (.int (nI n)), some (.int 6), none] [] y I L 0 0
  refine mw_iload_n hX dJ9_floorMod_7cf53_0 rfl rfl ?_
  refine mw_iload_n hX dJ9_floorMod_7cf53_1 rfl rfl ?_
  refine mw_irem hX (by decide) dJ9_floorMod_7cf53_2 ?_
  refine mw_istore_n hX dJ9_floorMod_7cf53_3 rfl (Nat.le_of_ble_eq_true rfl) ?_
  dsimp only [List.set]
  refine mw_iload_n hX dJ9_floorMod_7cf53_4 rfl rfl ?_
  refine mw_iload_n hX dJ9_floorMod_7cf53_5 rfl rfl ?_
  refine mw_ixor hX dJ9_floorMod_7cf53_6 ?_
  refine mw_if_ge hX (tgt := 18) dJ9_floorMod_7cf53_7 (by decide) (fun h7 => ?_) (fun h7 => ?_)
  · refine mw_iload_n hX dJ9_floorMod_7cf53_18 rfl rfl ?_
    exact mw_ireturn hX hE dJ9_floorMod_7cf53_19 (by rw [mw_n6, pk_rem (by omega) (by omega) (by omega)]) (by omega) (by omega)
  · exact absurd h7 (fun q => q (mw_xor0 h))
set_option maxRecDepth 20000 in
theorem c_slotOf (l : Launch) (n : Nat) (h : n < 1000) (y : mw_Y) (I : mw_I) (L : mw_L) : mw_CT l yX1_slotOf (.code yX1_slotOf cX1_slotOf 1 (some .int)) 2 0 0 [.int (nI n)] (y, I, L) (.inl (some (.int (nI (n % 6))), y, I, L)) := by
  refine mw_enter RX1 rfl (by decide +kernel) (mw_cat rfl) (Nat.le_of_ble_eq_true rfl) (fun X hX hl hE hT hnm => ?_)
  subst hl
  show mw_G X 0 [some (.int (nI n))] [] y I L 0 0
  refine mw_iload_n hX dX1_slotOf_0 rfl rfl ?_
  refine mw_bp hX 6 dX1_slotOf_1 rfl ?_
  refine mw_cS hX [_, _] ws_X1_140 dX1_slotOf_3 (c_floorMod (mw_l X) n h y I L) rfl (by decide) (by omega) (by omega) (Nat.le_of_ble_eq_true rfl) ?_
  exact mw_ireturn hX hE dX1_slotOf_6 (rfl) (by omega) (by omega)
def mixForV (I : mw_I) (b : Nat) (f : Int32) : Int32 := if f < 0 ∨ 16 < f then 0 else I (b + 10) f.toNatClampNeg
def waterV (I : mw_I) (b : Nat) : Int32 := I (b + 2) 0 + I (b + 2) 1
def energyV (I : mw_I) (b : Nat) (v f : Int32) : Int32 := mixForV I b f * (I b 1 + v / 5) / 10
def moreV (I : mw_I) (b : Nat) : Nat := if I (b + 2) 0 < I (b + 2) 1 then 1 else 0
def inflowV (I : mw_I) (b o : Nat) : Int32 := if o = 0 then I b 4 * I b 5 / 100 else I b 4 - I b 4 * I b 5 / 100
def leastV (I : mw_I) (b : Nat) (v : Int32) : Int32 := if 16 < (I b 3 + 4 - 1) / 4 * 4 ∨ v < (I b 3 + 4 - 1) / 4 * 4 then 0 else (I b 3 + 4 - 1) / 4 * 4
def behindV (I : mw_I) (b : Nat) (v r : Int32) : Int32 := if I b 0 < v - r then I b 0 else v - r
set_option maxRecDepth 20000 in
theorem c_mixFor (l : Launch) (y : mw_Y) (b : Nat) (hP : mw_isP y b) (f : Int32) (I : mw_I) (L : mw_L) : mw_CT l yX0_mixFor (.code yX0_mixFor cX0_mixFor 2 (some .int)) 1 0 0 [.ref b, .int f] (y, I, L) (.inl (some (.int (mixForV I b f)), y, I, L)) := by
  refine mw_enter RX0 rfl (by decide +kernel) (mw_cat rfl) (Nat.le_of_ble_eq_true rfl) (fun X hX hl hE hT hnm => ?_)
  subst hl
  show mw_G X 0 [some (.ref b), some (.int f)] [] y I L 0 0
  refine mw_iload_n hX dX0_mixFor_0 rfl rfl ?_
  refine mw_if_lt hX (tgt := 10) dX0_mixFor_1 (by decide) (fun h1 => ?_) (fun h1 => ?_)
  · refine mw_ic hX 0 dX0_mixFor_10 rfl ?_
    refine mw_goto hX (tgt := 20) dX0_mixFor_11 (by decide) ?_
    exact mw_ireturn hX hE dX0_mixFor_20 (by rw [mixForV, if_pos (Or.inl h1)]) (by omega) (by omega)
  · refine mw_iload_n hX dX0_mixFor_4 rfl rfl ?_
    refine mw_bp hX 16 dX0_mixFor_5 rfl ?_
    refine mw_icmp_le hX (tgt := 14) dX0_mixFor_7 (by decide) (fun h7 => ?_) (fun h7 => ?_)
    · obtain ⟨j, hj, rfl⟩ := okR_nat (n := 16) (by decide) ⟨h1, h7⟩
      refine mw_aload_n hX dX0_mixFor_14 rfl rfl ?_
      refine mw_getR hX dX0_mixFor_15 hP.l0 hP.s0 fl_X0_42 (by decide) (by decide) rfl hP.r11 ?_
      refine mw_iload_n hX dX0_mixFor_18 rfl rfl ?_
      refine mw_iaload hX (j := j) dX0_mixFor_19 hP.l10 hP.s10 rfl (by omega) (by decide) ?_
      exact mw_ireturn hX hE dX0_mixFor_20 (by rw [mixForV, if_neg (fun q => q.elim h1 (fun q => absurd h7 (Int32.not_le.mpr q))), nI_clamp (by omega)]) (by omega) (by omega)
    · refine mw_ic hX 0 dX0_mixFor_10 rfl ?_
      refine mw_goto hX (tgt := 20) dX0_mixFor_11 (by decide) ?_
      exact mw_ireturn hX hE dX0_mixFor_20 (by rw [mixForV, if_pos (Or.inr (Int32.not_le.mp h7))]) (by omega) (by omega)
set_option maxRecDepth 20000 in
theorem c_waterInPond (l : Launch) (y : mw_Y) (b : Nat) (hP : mw_isP y b)  (I : mw_I) (L : mw_L) : mw_CT l yX0_waterInPond (.code yX0_waterInPond cX0_waterInPond 1 (some .int)) 1 0 0 [.ref b] (y, I, L) (.inl (some (.int (waterV I b)), y, I, L)) := by
  refine mw_enter RX0 rfl (by decide +kernel) (mw_cat rfl) (Nat.le_of_ble_eq_true rfl) (fun X hX hl hE hT hnm => ?_)
  subst hl
  show mw_G X 0 [some (.ref b)] [] y I L 0 0
  refine mw_aload_n hX dX0_waterInPond_0 rfl rfl ?_
  refine mw_getR hX dX0_waterInPond_1 hP.l0 hP.s0 fl_X0_28 (by decide) (by decide) rfl hP.r7 ?_
  refine mw_ic hX 0 dX0_waterInPond_4 rfl ?_
  refine mw_iaload hX (j := 0) dX0_waterInPond_5 hP.l2 hP.s2 rfl (by decide) (by decide) ?_
  refine mw_aload_n hX dX0_waterInPond_6 rfl rfl ?_
  refine mw_getR hX dX0_waterInPond_7 hP.l0 hP.s0 fl_X0_28 (by decide) (by decide) rfl hP.r7 ?_
  refine mw_ic hX 1 dX0_waterInPond_10 rfl ?_
  refine mw_iaload hX (j := 1) dX0_waterInPond_11 hP.l2 hP.s2 rfl (by decide) (by decide) ?_
  refine mw_iadd hX dX0_waterInPond_12 ?_
  exact mw_ireturn hX hE dX0_waterInPond_13 (rfl) (by omega) (by omega)
set_option maxRecDepth 20000 in
theorem c_energyAt (l : Launch) (y : mw_Y) (b : Nat) (hP : mw_isP y b) (v f : Int32) (I : mw_I) (L : mw_L) : mw_CT l yX0_energyAt (.code yX0_energyAt cX0_energyAt 3 (some .int)) 2 0 0 [.ref b, .int v, .int f] (y, I, L) (.inl (some (.int (energyV I b v f)), y, I, L)) := by
  refine mw_enter RX0 rfl (by decide +kernel) (mw_cat rfl) (Nat.le_of_ble_eq_true rfl) (fun X hX hl hE hT hnm => ?_)
  subst hl
  show mw_G X 0 [some (.ref b), some (.int v), some (.int f)] [] y I L 0 0
  refine mw_aload_n hX dX0_energyAt_0 rfl rfl ?_
  refine mw_iload_n hX dX0_energyAt_1 rfl rfl ?_
  refine mw_cV hX [_] ws_X0_54 dX0_energyAt_2 (c_mixFor (mw_l X) y b hP f I L) hP.l0 hP.s0 (by decide) rfl (by decide) (by omega) (by omega) (Nat.le_of_ble_eq_true rfl) ?_
  refine mw_aload_n hX dX0_energyAt_5 rfl rfl ?_
  refine mw_getI hX dX0_energyAt_6 hP.l0 hP.s0 fl_X0_15 (by decide) (by decide) rfl ?_
  refine mw_iload_n hX dX0_energyAt_9 rfl rfl ?_
  refine mw_ic hX 5 dX0_energyAt_10 rfl ?_
  refine mw_idiv hX (by decide) dX0_energyAt_11 ?_
  refine mw_iadd hX dX0_energyAt_12 ?_
  refine mw_imul hX dX0_energyAt_13 ?_
  refine mw_bp hX 10 dX0_energyAt_14 rfl ?_
  refine mw_idiv hX (by decide) dX0_energyAt_16 ?_
  exact mw_ireturn hX hE dX0_energyAt_17 (rfl) (by omega) (by omega)
set_option maxRecDepth 20000 in
theorem c_inflowOf (l : Launch) (y : mw_Y) (b : Nat) (hP : mw_isP y b) (o : Nat) (ho : o < 2) (I : mw_I) (L : mw_L) : mw_CT l yX0_inflowOf (.code yX0_inflowOf cX0_inflowOf 3 (some .int)) 1 0 0 [.ref b, .int (nI o)] (y, I, L) (.inl (some (.int (inflowV I b o)), y, I, L)) := by
  refine mw_enter RX0 rfl (by decide +kernel) (mw_cat rfl) (Nat.le_of_ble_eq_true rfl) (fun X hX hl hE hT hnm => ?_)
  subst hl
  show mw_G X 0 [some (.ref b), some (.int (nI o)), none] [] y I L 0 0
  refine mw_aload_n hX dX0_inflowOf_0 rfl rfl ?_
  refine mw_getI hX dX0_inflowOf_1 hP.l0 hP.s0 fl_X0_58 (by decide) (by decide) rfl ?_
  refine mw_aload_n hX dX0_inflowOf_4 rfl rfl ?_
  refine mw_getI hX dX0_inflowOf_5 hP.l0 hP.s0 fl_X0_21 (by decide) (by decide) rfl ?_
  refine mw_imul hX dX0_inflowOf_8 ?_
  refine mw_bp hX 100 dX0_inflowOf_9 rfl ?_
  refine mw_idiv hX (by decide) dX0_inflowOf_11 ?_
  refine mw_istore_n hX dX0_inflowOf_12 rfl (Nat.le_of_ble_eq_true rfl) ?_
  dsimp only [List.set]
  refine mw_iload_n hX dX0_inflowOf_13 rfl rfl ?_
  refine mw_if_ne hX (tgt := 21) dX0_inflowOf_14 (by decide) (fun h14 => ?_) (fun h14 => ?_)
  · refine mw_aload_n hX dX0_inflowOf_21 rfl rfl ?_
    refine mw_getI hX dX0_inflowOf_22 hP.l0 hP.s0 fl_X0_58 (by decide) (by decide) rfl ?_
    refine mw_iload_n hX dX0_inflowOf_25 rfl rfl ?_
    refine mw_isub hX dX0_inflowOf_26 ?_
    exact mw_ireturn hX hE dX0_inflowOf_27 (by rw [inflowV, if_neg (fun q => h14 (by rw [q]; rfl))]) (by omega) (by omega)
  · refine mw_iload_n hX dX0_inflowOf_17 rfl rfl ?_
    refine mw_goto hX (tgt := 27) dX0_inflowOf_18 (by decide) ?_
    exact mw_ireturn hX hE dX0_inflowOf_27 (by rw [inflowV, if_pos ((nI_eq (b := 0) (by omega) (by decide)).mp h14)]) (by omega) (by omega)
set_option maxRecDepth 20000 in
theorem c_ownerWithMore (l : Launch) (y : mw_Y) (b : Nat) (hP : mw_isP y b)  (I : mw_I) (L : mw_L) : mw_CT l yX0_ownerWithMore (.code yX0_ownerWithMore cX0_ownerWithMore 1 (some .int)) 1 0 0 [.ref b] (y, I, L) (.inl (some (.int (nI (moreV I b))), y, I, L)) := by
  refine mw_enter RX0 rfl (by decide +kernel) (mw_cat rfl) (Nat.le_of_ble_eq_true rfl) (fun X hX hl hE hT hnm => ?_)
  subst hl
  show mw_G X 0 [some (.ref b)] [] y I L 0 0
  refine mw_aload_n hX dX0_ownerWithMore_0 rfl rfl ?_
  refine mw_getR hX dX0_ownerWithMore_1 hP.l0 hP.s0 fl_X0_28 (by decide) (by decide) rfl hP.r7 ?_
  refine mw_ic hX 0 dX0_ownerWithMore_4 rfl ?_
  refine mw_iaload hX (j := 0) dX0_ownerWithMore_5 hP.l2 hP.s2 rfl (by decide) (by decide) ?_
  refine mw_aload_n hX dX0_ownerWithMore_6 rfl rfl ?_
  refine mw_getR hX dX0_ownerWithMore_7 hP.l0 hP.s0 fl_X0_28 (by decide) (by decide) rfl hP.r7 ?_
  refine mw_ic hX 1 dX0_ownerWithMore_10 rfl ?_
  refine mw_iaload hX (j := 1) dX0_ownerWithMore_11 hP.l2 hP.s2 rfl (by decide) (by decide) ?_
  refine mw_icmp_lt hX (tgt := 19) dX0_ownerWithMore_12 (by decide) (fun h12 => ?_) (fun h12 => ?_)
  · refine mw_ic hX 1 dX0_ownerWithMore_19 rfl ?_
    exact mw_ireturn hX hE dX0_ownerWithMore_20 (by rw [moreV, if_pos h12]; rfl) (by omega) (by omega)
  · refine mw_ic hX 0 dX0_ownerWithMore_15 rfl ?_
    refine mw_goto hX (tgt := 20) dX0_ownerWithMore_16 (by decide) ?_
    exact mw_ireturn hX hE dX0_ownerWithMore_20 (by rw [moreV, if_neg h12]; rfl) (by omega) (by omega)
set_option maxRecDepth 20000 in
theorem c_leastRelease (l : Launch) (y : mw_Y) (b : Nat) (hP : mw_isP y b) (v : Int32) (I : mw_I) (L : mw_L) : mw_CT l yX0_leastRelease (.code yX0_leastRelease cX0_leastRelease 3 (some .int)) 1 0 0 [.ref b, .int v] (y, I, L) (.inl (some (.int (leastV I b v)), y, I, L)) := by
  refine mw_enter RX0 rfl (by decide +kernel) (mw_cat rfl) (Nat.le_of_ble_eq_true rfl) (fun X hX hl hE hT hnm => ?_)
  subst hl
  show mw_G X 0 [some (.ref b), some (.int v), none] [] y I L 0 0
  refine mw_aload_n hX dX0_leastRelease_0 rfl rfl ?_
  refine mw_getI hX dX0_leastRelease_1 hP.l0 hP.s0 fl_X0_69 (by decide) (by decide) rfl ?_
  refine mw_ic hX 4 dX0_leastRelease_4 rfl ?_
  refine mw_iadd hX dX0_leastRelease_5 ?_
  refine mw_ic hX 1 dX0_leastRelease_6 rfl ?_
  refine mw_isub hX dX0_leastRelease_7 ?_
  refine mw_ic hX 4 dX0_leastRelease_8 rfl ?_
  refine mw_idiv hX (by decide) dX0_leastRelease_9 ?_
  refine mw_ic hX 4 dX0_leastRelease_10 rfl ?_
  refine mw_imul hX dX0_leastRelease_11 ?_
  refine mw_istore_n hX dX0_leastRelease_12 rfl (Nat.le_of_ble_eq_true rfl) ?_
  dsimp only [List.set]
  refine mw_iload_n hX dX0_leastRelease_13 rfl rfl ?_
  refine mw_bp hX 16 dX0_leastRelease_14 rfl ?_
  refine mw_icmp_gt hX (tgt := 24) dX0_leastRelease_16 (by decide) (fun h16 => ?_) (fun h16 => ?_)
  · refine mw_ic hX 0 dX0_leastRelease_24 rfl ?_
    refine mw_goto hX (tgt := 29) dX0_leastRelease_25 (by decide) ?_
    exact mw_ireturn hX hE dX0_leastRelease_29 (by rw [leastV, if_pos (Or.inl h16)]) (by omega) (by omega)
  · refine mw_iload_n hX dX0_leastRelease_19 rfl rfl ?_
    refine mw_iload_n hX dX0_leastRelease_20 rfl rfl ?_
    refine mw_icmp_le hX (tgt := 28) dX0_leastRelease_21 (by decide) (fun h21 => ?_) (fun h21 => ?_)
    · refine mw_iload_n hX dX0_leastRelease_28 rfl rfl ?_
      exact mw_ireturn hX hE dX0_leastRelease_29 (by rw [leastV, if_neg (fun q => q.elim h16 (fun q => absurd h21 (Int32.not_le.mpr q)))]) (by omega) (by omega)
    · refine mw_ic hX 0 dX0_leastRelease_24 rfl ?_
      refine mw_goto hX (tgt := 29) dX0_leastRelease_25 (by decide) ?_
      exact mw_ireturn hX hE dX0_leastRelease_29 (by rw [leastV, if_pos (Or.inr (Int32.not_le.mp h21))]) (by omega) (by omega)
set_option maxRecDepth 20000 in
theorem c_levelBehind (l : Launch) (y : mw_Y) (b : Nat) (hP : mw_isP y b) (v r : Int32) (I : mw_I) (L : mw_L) : mw_CT l yX0_levelBehind (.code yX0_levelBehind cX0_levelBehind 3 (some .int)) 2 0 0 [.ref b, .int v, .int r] (y, I, L) (.inl (some (.int (behindV I b v r)), y, I, L)) := by
  refine mw_enter RX0 rfl (by decide +kernel) (mw_cat rfl) (Nat.le_of_ble_eq_true rfl) (fun X hX hl hE hT hnm => ?_)
  subst hl
  show mw_G X 0 [some (.ref b), some (.int v), some (.int r)] [] y I L 0 0
  refine mw_iload_n hX dX0_levelBehind_0 rfl rfl ?_
  refine mw_iload_n hX dX0_levelBehind_1 rfl rfl ?_
  refine mw_isub hX dX0_levelBehind_2 ?_
  refine mw_aload_n hX dX0_levelBehind_3 rfl rfl ?_
  refine mw_getI hX dX0_levelBehind_4 hP.l0 hP.s0 fl_X0_9 (by decide) (by decide) rfl ?_
  refine mw_cS hX [_, _] ws_X0_75 dX0_levelBehind_7 (c_min (mw_l X) (v - r) (I b 0) y I L) rfl (by decide) (by omega) (by omega) (Nat.le_of_ble_eq_true rfl) ?_
  exact mw_ireturn hX hE dX0_levelBehind_10 (rfl) (by omega) (by omega)
end
section
/-! Plant: the methods that write, the loops (by program: wip/whole/gen17.py) -/
theorem lp_dn {P : Nat → Prop} (s N : Nat) (hx : P N) (hs : ∀ k, s ≤ k → k < N → P (k + 1) → P k) : ∀ k, s ≤ k → k ≤ N → P k := by
  intro k h1 h2
  obtain ⟨m, hm⟩ : ∃ m, k + m = N := ⟨N - k, by omega⟩
  induction m generalizing k with
  | zero => rw [show k = N by omega]; exact hx
  | succ m ih => exact hs k h1 (by omega) (ih (k + 1) (by omega) (by omega) (by omega))
theorem mw_drop {X : mw_X} {pc : Nat} {ls : List (Option Value)} {st : List Value} {y : mw_Y} {I : mw_I} {L : mw_L} {n k : Nat} (i : Nat) (kk : mw_G X pc (ls.set i none) st y I L n k) : mw_G X pc ls st y I L n k := by
  obtain ⟨p, l, e, R, s, m, args, below, meth, c, Q, D, cA, ad0, N0⟩ := X
  intro ad H locs lsC hR hL
  refine kk ad H locs lsC hR ⟨hL.1, hL.2.1, by rw [List.length_set]; exact hL.2.2.1, fun j v hj => ?_⟩
  by_cases hij : j = i
  · subst hij
    have hl : j < ls.length := by
      have := (List.getElem?_eq_some_iff.mp hj).1
      simpa using this
    rw [List.getElem?_set_self hl] at hj
    cases hj
  · rw [List.getElem?_set_ne (Ne.symm hij)] at hj
    exact hL.2.2.2 j v hj
theorem moreV_lt (I : mw_I) (b : Nat) : moreV I b < 2 := by unfold moreV; split <;> omega
def sumV (I : mw_I) (b o : Nat) : Int32 := lpN (fun k z => z + I (b + 5 + o) k) 6 0
def cutF (I : mw_I) (b : Nat) (t : Int32) (f g : Nat) : mw_I :=
  let c := if I (b + 3) f < t then I (b + 3) f else t
  let I1 := mw_up I (b + 3) f (I (b + 3) f - c)
  mw_up I1 (b + 3) g (I1 (b + 3) g - (t - c))
def cutI (I : mw_I) (b : Nat) (t : Int32) : mw_I := if I (b + 2) 1 - I (b + 3) 1 ≤ I (b + 2) 0 - I (b + 3) 0 then cutF I b t 1 0 else cutF I b t 0 1
def partA (I : mw_I) (b : Nat) : mw_I :=
  let I1 := mw_up I (b + 3) 0 (I (b + 1) 0)
  mw_up I1 (b + 3) 1 (I1 (b + 1) 1)
def lackV (I : mw_I) (b : Nat) : Int32 := I b 3 - I (b + 3) 0 - I (b + 3) 1
def partB (I : mw_I) (b : Nat) : mw_I := if lackV I b ≤ 0 then I else mw_up I (b + 3) (moreV I b) (I (b + 3) (moreV I b) + lackV I b)
def partC (I : mw_I) (b : Nat) (v : Int32) : mw_I := if I (b + 3) 0 + I (b + 3) 1 - v ≤ 0 then I else cutI I b (I (b + 3) 0 + I (b + 3) 1 - v)
def partsI (I : mw_I) (b : Nat) (v : Int32) : mw_I := partC (partB (partA I b) b) b v
def goA (J : mw_I) (b : Nat) : mw_I := if J b 3 ≤ J (b + 3) 0 + J (b + 3) 1 then J else mw_up J b 13 (J b 13 + 1)
def goB (J : mw_I) (b : Nat) (v p : Int32) : mw_I :=
  let J2 := mw_up J b 14 (if 16 < p then 16 else p)
  let J3 := mw_up J2 b 15 (J2 b 15 + energyV J2 b v (J2 b 14))
  let J4 := mw_up J3 (b + 2) 0 (J3 (b + 2) 0 - J3 (b + 3) 0)
  mw_up J4 (b + 2) 1 (J4 (b + 2) 1 - J4 (b + 3) 1)
def goC (J : mw_I) (b : Nat) (v : Int32) : mw_I := goB (goA J b) b v (J (b + 3) 0 + J (b + 3) 1)
def letGoI (I : mw_I) (b : Nat) : mw_I := goC (partsI I b (waterV I b)) b (waterV I b)
def spillI (I : mw_I) (b : Nat) : mw_I :=
  let q := waterV I b - I b 0
  if q ≤ 0 then I else
  let o := moreV I b
  let I1 := mw_up I (b + 2) o (I (b + 2) o - q)
  let I2 := mw_up I1 (b + 3) o (I1 (b + 3) o + q)
  mw_up I2 b 12 (I2 b 12 + q)
def mixA (I : mw_I) (b : Nat) : mw_I := lpN (fun k J => mw_up J (b + 10) k 0) 17 I
def mixS (b a c : Nat) (J : mw_I) : mw_I := mw_up J (b + 10) (a + c) (if J (b + 10) (a + c) < J (b + 8 + 0) a + J (b + 8 + 1) c then J (b + 8 + 0) a + J (b + 8 + 1) c else J (b + 10) (a + c))
def mixB (I : mw_I) (b : Nat) : mw_I := lpN (fun a J => lpN (fun c J => mixS b a c J) 9 J) 9 I
def mixT (b k : Nat) (J : mw_I) : mw_I := mw_up J (b + 10) (k + 1) (if J (b + 10) (k + 1) < J (b + 10) k then J (b + 10) k else J (b + 10) (k + 1))
def mixC (I : mw_I) (b : Nat) : mw_I := lpN (mixT b) 16 I
def mixI (I : mw_I) (b : Nat) : mw_I := mixC (mixB (mixA I b) b) b
set_option maxRecDepth 20000 in
theorem c_takeArrived (l : Launch) (y : mw_Y) (b : Nat) (hP : mw_isP y b) (o s : Nat) (ho : o < 2) (hs : s < 6) (I : mw_I) (L : mw_L) : mw_CT l yX0_takeArrived (.code yX0_takeArrived cX0_takeArrived 4 (some .int)) 1 0 0 [.ref b, .int (nI o), .int (nI s)] (y, I, L) (.inl (some (.int (I (b + 5 + o) s)), y, mw_up I (b + 5 + o) s 0, L)) := by
  refine mw_enter RX0 rfl (by decide +kernel) (mw_cat rfl) (Nat.le_of_ble_eq_true rfl) (fun X hX hl hE hT hnm => ?_)
  subst hl
  show mw_G X 0 [some (.ref b), some (.int (nI o)), some (.int (nI s)), none] [] y I L 0 0
  refine mw_aload_n hX dX0_takeArrived_0 rfl rfl ?_
  refine mw_getR hX dX0_takeArrived_1 hP.l0 hP.s0 fl_X0_36 (by decide) (by decide) rfl hP.r9 ?_
  refine mw_iload_n hX dX0_takeArrived_4 rfl rfl ?_
  refine mw_aaloadR hX (j := o) dX0_takeArrived_5 hP.l4 hP.s4 rfl (by omega) (by decide) (hP.u (by omega)) ?_
  refine mw_iload_n hX dX0_takeArrived_6 rfl rfl ?_
  refine mw_iaload hX (j := s) dX0_takeArrived_7 (hP.l5 (o := o) (by omega)) (hP.s5 (o := o) (by omega)) rfl (by omega) (by decide) ?_
  refine mw_istore_n hX dX0_takeArrived_8 rfl (Nat.le_of_ble_eq_true rfl) ?_
  dsimp only [List.set]
  refine mw_aload_n hX dX0_takeArrived_9 rfl rfl ?_
  refine mw_getR hX dX0_takeArrived_10 hP.l0 hP.s0 fl_X0_36 (by decide) (by decide) rfl hP.r9 ?_
  refine mw_iload_n hX dX0_takeArrived_13 rfl rfl ?_
  refine mw_aaloadR hX (j := o) dX0_takeArrived_14 hP.l4 hP.s4 rfl (by omega) (by decide) (hP.u (by omega)) ?_
  refine mw_iload_n hX dX0_takeArrived_15 rfl rfl ?_
  refine mw_ic hX 0 dX0_takeArrived_16 rfl ?_
  refine mw_iastore hX (j := s) dX0_takeArrived_17 (hP.l5 (o := o) (by omega)) (hP.s5 (o := o) (by omega)) rfl (by omega) (by decide) ?_
  refine mw_iload_n hX dX0_takeArrived_18 rfl rfl ?_
  exact mw_ireturn hX hE dX0_takeArrived_19 (rfl) (by omega) (by omega)
set_option maxRecDepth 20000 in
theorem c_allUnderWay (l : Launch) (y : mw_Y) (b : Nat) (hP : mw_isP y b) (o : Nat) (ho : o < 2) (I : mw_I) (L : mw_L) : mw_CT l yX0_allUnderWay (.code yX0_allUnderWay cX0_allUnderWay 4 (some .int)) 1 0 0 [.ref b, .int (nI o)] (y, I, L) (.inl (some (.int (sumV I b o)), y, I, L)) := by
  refine mw_enter RX0 rfl (by decide +kernel) (mw_cat rfl) (Nat.le_of_ble_eq_true rfl) (fun X hX hl hE hT hnm => ?_)
  subst hl
  show mw_G X 0 [some (.ref b), some (.int (nI o)), none, none] [] y I L 0 0
  refine mw_ic hX 0 dX0_allUnderWay_0 rfl ?_
  refine mw_istore_n hX dX0_allUnderWay_1 rfl (Nat.le_of_ble_eq_true rfl) ?_
  dsimp only [List.set]
  refine mw_ic hX 0 dX0_allUnderWay_2 rfl ?_
  refine mw_istore_n hX dX0_allUnderWay_3 rfl (Nat.le_of_ble_eq_true rfl) ?_
  dsimp only [List.set]
  refine lp_dn (P := fun k => mw_G X 4 [some (.ref b), some (.int (nI o)), some (.int (lpN (fun k z => z + I (b + 5 + o) k) k 0)), some (.int (nI (k)))] [] y (I) (L) 0 0) 0 6 ?_ ?_ 0 (Nat.le_refl _) (by omega)
  · show mw_G X 4 [some (.ref b), some (.int (nI o)), some (.int (lpN (fun k z => z + I (b + 5 + o) k) 6 0)), some (.int (nI (6)))] [] y (I) (L) 0 0
    refine mw_iload_n hX dX0_allUnderWay_4 rfl rfl ?_
    refine mw_bp hX 6 dX0_allUnderWay_5 rfl ?_
    refine mw_icmp_ge hX (tgt := 27) dX0_allUnderWay_7 (by decide) (fun h7 => ?_) (fun h7 => ?_)
    · refine mw_iload_n hX dX0_allUnderWay_27 rfl rfl ?_
      exact mw_ireturn hX hE dX0_allUnderWay_28 (rfl) (by omega) (by omega)
    · exact absurd (nI_le (a := 6) (b := 6) (by omega) (by omega)) h7
  · intro k hsk hk ihk
    show mw_G X 4 [some (.ref b), some (.int (nI o)), some (.int (lpN (fun k z => z + I (b + 5 + o) k) k 0)), some (.int (nI (k)))] [] y (I) (L) 0 0
    refine mw_iload_n hX dX0_allUnderWay_4 rfl rfl ?_
    refine mw_bp hX 6 dX0_allUnderWay_5 rfl ?_
    refine mw_icmp_ge hX (tgt := 27) dX0_allUnderWay_7 (by decide) (fun h7 => ?_) (fun h7 => ?_)
    · exact absurd h7 (nI_ge (a := k) (b := 6) (by omega) (by omega))
    · refine mw_iload_n hX dX0_allUnderWay_10 rfl rfl ?_
      refine mw_aload_n hX dX0_allUnderWay_11 rfl rfl ?_
      refine mw_getR hX dX0_allUnderWay_12 hP.l0 hP.s0 fl_X0_36 (by decide) (by decide) rfl hP.r9 ?_
      refine mw_iload_n hX dX0_allUnderWay_15 rfl rfl ?_
      refine mw_aaloadR hX (j := o) dX0_allUnderWay_16 hP.l4 hP.s4 rfl (by omega) (by decide) (hP.u (by omega)) ?_
      refine mw_iload_n hX dX0_allUnderWay_17 rfl rfl ?_
      refine mw_iaload hX (j := k) dX0_allUnderWay_18 (hP.l5 (o := o) (by omega)) (hP.s5 (o := o) (by omega)) rfl (by omega) (by decide) ?_
      refine mw_iadd hX dX0_allUnderWay_19 ?_
      refine mw_istore_n hX dX0_allUnderWay_20 rfl (Nat.le_of_ble_eq_true rfl) ?_
      dsimp only [List.set]
      refine mw_inc hX (nI (k + 1)) dX0_allUnderWay_21 rfl (mw_inc1 _) ?_
      dsimp only [List.set]
      refine mw_goto hX (tgt := 4) dX0_allUnderWay_24 (by decide) ?_
      exact ihk
set_option maxRecDepth 20000 in
theorem c_cutParts (l : Launch) (y : mw_Y) (b : Nat) (hP : mw_isP y b) (t : Int32) (I : mw_I) (L : mw_L) : mw_CT l yX0_cutParts (.code yX0_cutParts cX0_cutParts 4 none) 2 0 0 [.ref b, .int t] (y, I, L) (.inl (none, y, cutI I b t, L)) := by
  refine mw_enter RX0 rfl (by decide +kernel) (mw_cat rfl) (Nat.le_of_ble_eq_true rfl) (fun X hX hl hE hT hnm => ?_)
  subst hl
  show mw_G X 0 [some (.ref b), some (.int t), none, none] [] y I L 0 0
  refine mw_aload_n hX dX0_cutParts_0 rfl rfl ?_
  refine mw_getR hX dX0_cutParts_1 hP.l0 hP.s0 fl_X0_28 (by decide) (by decide) rfl hP.r7 ?_
  refine mw_ic hX 0 dX0_cutParts_4 rfl ?_
  refine mw_iaload hX (j := 0) dX0_cutParts_5 hP.l2 hP.s2 rfl (by decide) (by decide) ?_
  refine mw_aload_n hX dX0_cutParts_6 rfl rfl ?_
  refine mw_getR hX dX0_cutParts_7 hP.l0 hP.s0 fl_X0_31 (by decide) (by decide) rfl hP.r8 ?_
  refine mw_ic hX 0 dX0_cutParts_10 rfl ?_
  refine mw_iaload hX (j := 0) dX0_cutParts_11 hP.l3 hP.s3 rfl (by decide) (by decide) ?_
  refine mw_isub hX dX0_cutParts_12 ?_
  refine mw_aload_n hX dX0_cutParts_13 rfl rfl ?_
  refine mw_getR hX dX0_cutParts_14 hP.l0 hP.s0 fl_X0_28 (by decide) (by decide) rfl hP.r7 ?_
  refine mw_ic hX 1 dX0_cutParts_17 rfl ?_
  refine mw_iaload hX (j := 1) dX0_cutParts_18 hP.l2 hP.s2 rfl (by decide) (by decide) ?_
  refine mw_aload_n hX dX0_cutParts_19 rfl rfl ?_
  refine mw_getR hX dX0_cutParts_20 hP.l0 hP.s0 fl_X0_31 (by decide) (by decide) rfl hP.r8 ?_
  refine mw_ic hX 1 dX0_cutParts_23 rfl ?_
  refine mw_iaload hX (j := 1) dX0_cutParts_24 hP.l3 hP.s3 rfl (by decide) (by decide) ?_
  refine mw_isub hX dX0_cutParts_25 ?_
  refine mw_icmp_ge hX (tgt := 33) dX0_cutParts_26 (by decide) (fun h26 => ?_) (fun h26 => ?_)
  · refine mw_ic hX 1 dX0_cutParts_33 rfl ?_
    refine mw_istore_n hX dX0_cutParts_34 rfl (Nat.le_of_ble_eq_true rfl) ?_
    dsimp only [List.set]
    refine mw_iload_n hX dX0_cutParts_35 rfl rfl ?_
    refine mw_aload_n hX dX0_cutParts_36 rfl rfl ?_
    refine mw_getR hX dX0_cutParts_37 hP.l0 hP.s0 fl_X0_31 (by decide) (by decide) rfl hP.r8 ?_
    refine mw_iload_n hX dX0_cutParts_40 rfl rfl ?_
    refine mw_iaload hX (j := 1) dX0_cutParts_41 hP.l3 hP.s3 rfl (by decide) (by decide) ?_
    refine mw_cS hX [_, _] ws_X0_75 dX0_cutParts_42 (c_min (mw_l X) _ _ y _ L) rfl (by decide) (by omega) (by omega) (Nat.le_of_ble_eq_true rfl) ?_
    refine mw_istore_n hX dX0_cutParts_45 rfl (Nat.le_of_ble_eq_true rfl) ?_
    dsimp only [List.set]
    refine mw_aload_n hX dX0_cutParts_46 rfl rfl ?_
    refine mw_getR hX dX0_cutParts_47 hP.l0 hP.s0 fl_X0_31 (by decide) (by decide) rfl hP.r8 ?_
    refine mw_iload_n hX dX0_cutParts_50 rfl rfl ?_
    refine mw_dup2 hX dX0_cutParts_51 ?_
    refine mw_iaload hX (j := 1) dX0_cutParts_52 hP.l3 hP.s3 rfl (by decide) (by decide) ?_
    refine mw_iload_n hX dX0_cutParts_53 rfl rfl ?_
    refine mw_isub hX dX0_cutParts_54 ?_
    refine mw_iastore hX (j := 1) dX0_cutParts_55 hP.l3 hP.s3 rfl (by decide) (by decide) ?_
    refine mw_aload_n hX dX0_cutParts_56 rfl rfl ?_
    refine mw_getR hX dX0_cutParts_57 hP.l0 hP.s0 fl_X0_31 (by decide) (by decide) rfl hP.r8 ?_
    refine mw_ic hX 1 dX0_cutParts_60 rfl ?_
    refine mw_iload_n hX dX0_cutParts_61 rfl rfl ?_
    refine mw_isub hX dX0_cutParts_62 ?_
    refine mw_dup2 hX dX0_cutParts_63 ?_
    refine mw_iaload hX (j := 0) dX0_cutParts_64 hP.l3 hP.s3 rfl (by decide) (by decide) ?_
    refine mw_iload_n hX dX0_cutParts_65 rfl rfl ?_
    refine mw_iload_n hX dX0_cutParts_66 rfl rfl ?_
    refine mw_isub hX dX0_cutParts_67 ?_
    refine mw_isub hX dX0_cutParts_68 ?_
    refine mw_iastore hX (j := 0) dX0_cutParts_69 hP.l3 hP.s3 rfl (by decide) (by decide) ?_
    exact mw_return hX hE dX0_cutParts_70 (by rw [cutI, if_pos h26]; rfl) (by omega) (by omega)
  · refine mw_ic hX 0 dX0_cutParts_29 rfl ?_
    refine mw_goto hX (tgt := 34) dX0_cutParts_30 (by decide) ?_
    refine mw_istore_n hX dX0_cutParts_34 rfl (Nat.le_of_ble_eq_true rfl) ?_
    dsimp only [List.set]
    refine mw_iload_n hX dX0_cutParts_35 rfl rfl ?_
    refine mw_aload_n hX dX0_cutParts_36 rfl rfl ?_
    refine mw_getR hX dX0_cutParts_37 hP.l0 hP.s0 fl_X0_31 (by decide) (by decide) rfl hP.r8 ?_
    refine mw_iload_n hX dX0_cutParts_40 rfl rfl ?_
    refine mw_iaload hX (j := 0) dX0_cutParts_41 hP.l3 hP.s3 rfl (by decide) (by decide) ?_
    refine mw_cS hX [_, _] ws_X0_75 dX0_cutParts_42 (c_min (mw_l X) _ _ y _ L) rfl (by decide) (by omega) (by omega) (Nat.le_of_ble_eq_true rfl) ?_
    refine mw_istore_n hX dX0_cutParts_45 rfl (Nat.le_of_ble_eq_true rfl) ?_
    dsimp only [List.set]
    refine mw_aload_n hX dX0_cutParts_46 rfl rfl ?_
    refine mw_getR hX dX0_cutParts_47 hP.l0 hP.s0 fl_X0_31 (by decide) (by decide) rfl hP.r8 ?_
    refine mw_iload_n hX dX0_cutParts_50 rfl rfl ?_
    refine mw_dup2 hX dX0_cutParts_51 ?_
    refine mw_iaload hX (j := 0) dX0_cutParts_52 hP.l3 hP.s3 rfl (by decide) (by decide) ?_
    refine mw_iload_n hX dX0_cutParts_53 rfl rfl ?_
    refine mw_isub hX dX0_cutParts_54 ?_
    refine mw_iastore hX (j := 0) dX0_cutParts_55 hP.l3 hP.s3 rfl (by decide) (by decide) ?_
    refine mw_aload_n hX dX0_cutParts_56 rfl rfl ?_
    refine mw_getR hX dX0_cutParts_57 hP.l0 hP.s0 fl_X0_31 (by decide) (by decide) rfl hP.r8 ?_
    refine mw_ic hX 1 dX0_cutParts_60 rfl ?_
    refine mw_iload_n hX dX0_cutParts_61 rfl rfl ?_
    refine mw_isub hX dX0_cutParts_62 ?_
    refine mw_dup2 hX dX0_cutParts_63 ?_
    refine mw_iaload hX (j := 1) dX0_cutParts_64 hP.l3 hP.s3 rfl (by decide) (by decide) ?_
    refine mw_iload_n hX dX0_cutParts_65 rfl rfl ?_
    refine mw_iload_n hX dX0_cutParts_66 rfl rfl ?_
    refine mw_isub hX dX0_cutParts_67 ?_
    refine mw_isub hX dX0_cutParts_68 ?_
    refine mw_iastore hX (j := 1) dX0_cutParts_69 hP.l3 hP.s3 rfl (by decide) (by decide) ?_
    exact mw_return hX hE dX0_cutParts_70 (by rw [cutI, if_neg h26]; rfl) (by omega) (by omega)
set_option maxRecDepth 20000 in
theorem c_setParts (l : Launch) (y : mw_Y) (b : Nat) (hP : mw_isP y b) (v : Int32) (I : mw_I) (L : mw_L) : mw_CT l yX0_setParts (.code yX0_setParts cX0_setParts 4 none) 3 0 0 [.ref b, .int v] (y, I, L) (.inl (none, y, partsI I b v, L)) := by
  refine mw_enter RX0 rfl (by decide +kernel) (mw_cat rfl) (Nat.le_of_ble_eq_true rfl) (fun X hX hl hE hT hnm => ?_)
  subst hl
  show mw_G X 0 [some (.ref b), some (.int v), none, none] [] y I L 0 0
  refine mw_aload_n hX dX0_setParts_0 rfl rfl ?_
  refine mw_getR hX dX0_setParts_1 hP.l0 hP.s0 fl_X0_31 (by decide) (by decide) rfl hP.r8 ?_
  refine mw_ic hX 0 dX0_setParts_4 rfl ?_
  refine mw_aload_n hX dX0_setParts_5 rfl rfl ?_
  refine mw_getR hX dX0_setParts_6 hP.l0 hP.s0 fl_X0_24 (by decide) (by decide) rfl hP.r6 ?_
  refine mw_ic hX 0 dX0_setParts_9 rfl ?_
  refine mw_iaload hX (j := 0) dX0_setParts_10 hP.l1 hP.s1 rfl (by decide) (by decide) ?_
  refine mw_iastore hX (j := 0) dX0_setParts_11 hP.l3 hP.s3 rfl (by decide) (by decide) ?_
  refine mw_aload_n hX dX0_setParts_12 rfl rfl ?_
  refine mw_getR hX dX0_setParts_13 hP.l0 hP.s0 fl_X0_31 (by decide) (by decide) rfl hP.r8 ?_
  refine mw_ic hX 1 dX0_setParts_16 rfl ?_
  refine mw_aload_n hX dX0_setParts_17 rfl rfl ?_
  refine mw_getR hX dX0_setParts_18 hP.l0 hP.s0 fl_X0_24 (by decide) (by decide) rfl hP.r6 ?_
  refine mw_ic hX 1 dX0_setParts_21 rfl ?_
  refine mw_iaload hX (j := 1) dX0_setParts_22 hP.l1 hP.s1 rfl (by decide) (by decide) ?_
  refine mw_iastore hX (j := 1) dX0_setParts_23 hP.l3 hP.s3 rfl (by decide) (by decide) ?_
  refine mw_aload_n hX dX0_setParts_24 rfl rfl ?_
  refine mw_getI hX dX0_setParts_25 hP.l0 hP.s0 fl_X0_69 (by decide) (by decide) rfl ?_
  refine mw_aload_n hX dX0_setParts_28 rfl rfl ?_
  refine mw_getR hX dX0_setParts_29 hP.l0 hP.s0 fl_X0_31 (by decide) (by decide) rfl hP.r8 ?_
  refine mw_ic hX 0 dX0_setParts_32 rfl ?_
  refine mw_iaload hX (j := 0) dX0_setParts_33 hP.l3 hP.s3 rfl (by decide) (by decide) ?_
  refine mw_isub hX dX0_setParts_34 ?_
  refine mw_aload_n hX dX0_setParts_35 rfl rfl ?_
  refine mw_getR hX dX0_setParts_36 hP.l0 hP.s0 fl_X0_31 (by decide) (by decide) rfl hP.r8 ?_
  refine mw_ic hX 1 dX0_setParts_39 rfl ?_
  refine mw_iaload hX (j := 1) dX0_setParts_40 hP.l3 hP.s3 rfl (by decide) (by decide) ?_
  refine mw_isub hX dX0_setParts_41 ?_
  refine mw_istore_n hX dX0_setParts_42 rfl (Nat.le_of_ble_eq_true rfl) ?_
  dsimp only [List.set]
  refine mw_iload_n hX dX0_setParts_43 rfl rfl ?_
  refine mw_if_le hX (tgt := 60) dX0_setParts_44 (by decide) (fun h44 => ?_) (fun h44 => ?_)
  · refine mw_aload_n hX dX0_setParts_60 rfl rfl ?_
    refine mw_getR hX dX0_setParts_61 hP.l0 hP.s0 fl_X0_31 (by decide) (by decide) rfl hP.r8 ?_
    refine mw_ic hX 0 dX0_setParts_64 rfl ?_
    refine mw_iaload hX (j := 0) dX0_setParts_65 hP.l3 hP.s3 rfl (by decide) (by decide) ?_
    refine mw_aload_n hX dX0_setParts_66 rfl rfl ?_
    refine mw_getR hX dX0_setParts_67 hP.l0 hP.s0 fl_X0_31 (by decide) (by decide) rfl hP.r8 ?_
    refine mw_ic hX 1 dX0_setParts_70 rfl ?_
    refine mw_iaload hX (j := 1) dX0_setParts_71 hP.l3 hP.s3 rfl (by decide) (by decide) ?_
    refine mw_iadd hX dX0_setParts_72 ?_
    refine mw_iload_n hX dX0_setParts_73 rfl rfl ?_
    refine mw_isub hX dX0_setParts_74 ?_
    refine mw_istore_n hX dX0_setParts_75 rfl (Nat.le_of_ble_eq_true rfl) ?_
    dsimp only [List.set]
    refine mw_iload_n hX dX0_setParts_76 rfl rfl ?_
    refine mw_if_le hX (tgt := 85) dX0_setParts_77 (by decide) (fun h77 => ?_) (fun h77 => ?_)
    · exact mw_return hX hE dX0_setParts_85 (congrArg (fun z => Sum.inl (none, y, z, L)) (show partC (partB (partA I b) b) b v = _ by rw [show partB (partA I b) b = partA I b from if_pos h44]; exact if_pos h77)) (by omega) (by omega)
    · refine mw_aload_n hX dX0_setParts_80 rfl rfl ?_
      refine mw_iload_n hX dX0_setParts_81 rfl rfl ?_
      refine mw_cV hX [_] ws_X0_90 dX0_setParts_82 (c_cutParts (mw_l X) y b hP _ _ L) hP.l0 hP.s0 (by decide) rfl (by decide) (by omega) (by omega) (Nat.le_of_ble_eq_true rfl) ?_
      exact mw_return hX hE dX0_setParts_85 (congrArg (fun z => Sum.inl (none, y, z, L)) (show partC (partB (partA I b) b) b v = _ by rw [show partB (partA I b) b = partA I b from if_pos h44]; exact if_neg h77)) (by omega) (by omega)
  · refine mw_aload_n hX dX0_setParts_47 rfl rfl ?_
    refine mw_getR hX dX0_setParts_48 hP.l0 hP.s0 fl_X0_31 (by decide) (by decide) rfl hP.r8 ?_
    refine mw_aload_n hX dX0_setParts_51 rfl rfl ?_
    refine mw_cV hX [] ws_X0_87 dX0_setParts_52 (c_ownerWithMore (mw_l X) y b hP _ L) hP.l0 hP.s0 (by decide) rfl (by decide) (by omega) (by omega) (Nat.le_of_ble_eq_true rfl) ?_
    refine mw_dup2 hX dX0_setParts_55 ?_
    refine mw_iaload hX (j := _) dX0_setParts_56 hP.l3 hP.s3 rfl (moreV_lt _ _) (by decide) ?_
    refine mw_iload_n hX dX0_setParts_57 rfl rfl ?_
    refine mw_iadd hX dX0_setParts_58 ?_
    refine mw_iastore hX (j := _) dX0_setParts_59 hP.l3 hP.s3 rfl (moreV_lt _ _) (by decide) ?_
    refine mw_aload_n hX dX0_setParts_60 rfl rfl ?_
    refine mw_getR hX dX0_setParts_61 hP.l0 hP.s0 fl_X0_31 (by decide) (by decide) rfl hP.r8 ?_
    refine mw_ic hX 0 dX0_setParts_64 rfl ?_
    refine mw_iaload hX (j := 0) dX0_setParts_65 hP.l3 hP.s3 rfl (by decide) (by decide) ?_
    refine mw_aload_n hX dX0_setParts_66 rfl rfl ?_
    refine mw_getR hX dX0_setParts_67 hP.l0 hP.s0 fl_X0_31 (by decide) (by decide) rfl hP.r8 ?_
    refine mw_ic hX 1 dX0_setParts_70 rfl ?_
    refine mw_iaload hX (j := 1) dX0_setParts_71 hP.l3 hP.s3 rfl (by decide) (by decide) ?_
    refine mw_iadd hX dX0_setParts_72 ?_
    refine mw_iload_n hX dX0_setParts_73 rfl rfl ?_
    refine mw_isub hX dX0_setParts_74 ?_
    refine mw_istore_n hX dX0_setParts_75 rfl (Nat.le_of_ble_eq_true rfl) ?_
    dsimp only [List.set]
    refine mw_iload_n hX dX0_setParts_76 rfl rfl ?_
    refine mw_if_le hX (tgt := 85) dX0_setParts_77 (by decide) (fun h77 => ?_) (fun h77 => ?_)
    · exact mw_return hX hE dX0_setParts_85 (congrArg (fun z => Sum.inl (none, y, z, L)) (show partC (partB (partA I b) b) b v = _ by rw [show partB (partA I b) b = _ from if_neg h44]; exact if_pos h77)) (by omega) (by omega)
    · refine mw_aload_n hX dX0_setParts_80 rfl rfl ?_
      refine mw_iload_n hX dX0_setParts_81 rfl rfl ?_
      refine mw_cV hX [_] ws_X0_90 dX0_setParts_82 (c_cutParts (mw_l X) y b hP _ _ L) hP.l0 hP.s0 (by decide) rfl (by decide) (by omega) (by omega) (Nat.le_of_ble_eq_true rfl) ?_
      exact mw_return hX hE dX0_setParts_85 (congrArg (fun z => Sum.inl (none, y, z, L)) (show partC (partB (partA I b) b) b v = _ by rw [show partB (partA I b) b = _ from if_neg h44]; exact if_neg h77)) (by omega) (by omega)
set_option maxRecDepth 20000 in
theorem c_letGo (l : Launch) (y : mw_Y) (b : Nat) (hP : mw_isP y b)  (I : mw_I) (L : mw_L) : mw_CT l yX0_letGo (.code yX0_letGo cX0_letGo 3 none) 4 0 0 [.ref b] (y, I, L) (.inl (none, y, letGoI I b, L)) := by
  refine mw_enter RX0 rfl (by decide +kernel) (mw_cat rfl) (Nat.le_of_ble_eq_true rfl) (fun X hX hl hE hT hnm => ?_)
  subst hl
  show mw_G X 0 [some (.ref b), none, none] [] y I L 0 0
  refine mw_aload_n hX dX0_letGo_0 rfl rfl ?_
  refine mw_cV hX [] ws_X0_61 dX0_letGo_1 (c_waterInPond (mw_l X) y b hP I L) hP.l0 hP.s0 (by decide) rfl (by decide) (by omega) (by omega) (Nat.le_of_ble_eq_true rfl) ?_
  refine mw_istore_n hX dX0_letGo_4 rfl (Nat.le_of_ble_eq_true rfl) ?_
  dsimp only [List.set]
  refine mw_aload_n hX dX0_letGo_5 rfl rfl ?_
  refine mw_iload_n hX dX0_letGo_6 rfl rfl ?_
  refine mw_cV hX [_] ws_X0_65 dX0_letGo_7 (c_setParts (mw_l X) y b hP _ I L) hP.l0 hP.s0 (by decide) rfl (by decide) (by omega) (by omega) (Nat.le_of_ble_eq_true rfl) ?_
  generalize hJ : partsI I b (waterV I b) = J
  refine mw_aload_n hX dX0_letGo_10 rfl rfl ?_
  refine mw_getR hX dX0_letGo_11 hP.l0 hP.s0 fl_X0_31 (by decide) (by decide) rfl hP.r8 ?_
  refine mw_ic hX 0 dX0_letGo_14 rfl ?_
  refine mw_iaload hX (j := 0) dX0_letGo_15 hP.l3 hP.s3 rfl (by decide) (by decide) ?_
  refine mw_aload_n hX dX0_letGo_16 rfl rfl ?_
  refine mw_getR hX dX0_letGo_17 hP.l0 hP.s0 fl_X0_31 (by decide) (by decide) rfl hP.r8 ?_
  refine mw_ic hX 1 dX0_letGo_20 rfl ?_
  refine mw_iaload hX (j := 1) dX0_letGo_21 hP.l3 hP.s3 rfl (by decide) (by decide) ?_
  refine mw_iadd hX dX0_letGo_22 ?_
  refine mw_istore_n hX dX0_letGo_23 rfl (Nat.le_of_ble_eq_true rfl) ?_
  dsimp only [List.set]
  refine mw_iload_n hX dX0_letGo_24 rfl rfl ?_
  refine mw_aload_n hX dX0_letGo_25 rfl rfl ?_
  refine mw_getI hX dX0_letGo_26 hP.l0 hP.s0 fl_X0_69 (by decide) (by decide) rfl ?_
  refine mw_icmp_ge hX (tgt := 42) dX0_letGo_29 (by decide) (fun h29 => ?_) (fun h29 => ?_)
  · refine mw_aload_n hX dX0_letGo_42 rfl rfl ?_
    refine mw_iload_n hX dX0_letGo_43 rfl rfl ?_
    refine mw_bp hX 16 dX0_letGo_44 rfl ?_
    refine mw_cS hX [_, _] ws_X0_75 dX0_letGo_46 (c_min (mw_l X) _ 16 y _ L) rfl (by decide) (by omega) (by omega) (Nat.le_of_ble_eq_true rfl) ?_
    refine mw_putI hX dX0_letGo_49 hP.l0 hP.s0 fl_X0_78 (by decide) (by decide) rfl ?_
    refine mw_aload_n hX dX0_letGo_52 rfl rfl ?_
    refine mw_dupR hX dX0_letGo_53 ?_
    refine mw_getI hX dX0_letGo_54 hP.l0 hP.s0 fl_X0_81 (by decide) (by decide) rfl ?_
    refine mw_aload_n hX dX0_letGo_57 rfl rfl ?_
    refine mw_iload_n hX dX0_letGo_58 rfl rfl ?_
    refine mw_aload_n hX dX0_letGo_59 rfl rfl ?_
    refine mw_getI hX dX0_letGo_60 hP.l0 hP.s0 fl_X0_78 (by decide) (by decide) rfl ?_
    refine mw_cV hX [_, _] ws_X0_84 dX0_letGo_63 (c_energyAt (mw_l X) y b hP _ _ _ L) hP.l0 hP.s0 (by decide) rfl (by decide) (by omega) (by omega) (Nat.le_of_ble_eq_true rfl) ?_
    refine mw_iadd hX dX0_letGo_66 ?_
    refine mw_putI hX dX0_letGo_67 hP.l0 hP.s0 fl_X0_81 (by decide) (by decide) rfl ?_
    refine mw_aload_n hX dX0_letGo_70 rfl rfl ?_
    refine mw_getR hX dX0_letGo_71 hP.l0 hP.s0 fl_X0_28 (by decide) (by decide) rfl hP.r7 ?_
    refine mw_ic hX 0 dX0_letGo_74 rfl ?_
    refine mw_dup2 hX dX0_letGo_75 ?_
    refine mw_iaload hX (j := 0) dX0_letGo_76 hP.l2 hP.s2 rfl (by decide) (by decide) ?_
    refine mw_aload_n hX dX0_letGo_77 rfl rfl ?_
    refine mw_getR hX dX0_letGo_78 hP.l0 hP.s0 fl_X0_31 (by decide) (by decide) rfl hP.r8 ?_
    refine mw_ic hX 0 dX0_letGo_81 rfl ?_
    refine mw_iaload hX (j := 0) dX0_letGo_82 hP.l3 hP.s3 rfl (by decide) (by decide) ?_
    refine mw_isub hX dX0_letGo_83 ?_
    refine mw_iastore hX (j := 0) dX0_letGo_84 hP.l2 hP.s2 rfl (by decide) (by decide) ?_
    refine mw_aload_n hX dX0_letGo_85 rfl rfl ?_
    refine mw_getR hX dX0_letGo_86 hP.l0 hP.s0 fl_X0_28 (by decide) (by decide) rfl hP.r7 ?_
    refine mw_ic hX 1 dX0_letGo_89 rfl ?_
    refine mw_dup2 hX dX0_letGo_90 ?_
    refine mw_iaload hX (j := 1) dX0_letGo_91 hP.l2 hP.s2 rfl (by decide) (by decide) ?_
    refine mw_aload_n hX dX0_letGo_92 rfl rfl ?_
    refine mw_getR hX dX0_letGo_93 hP.l0 hP.s0 fl_X0_31 (by decide) (by decide) rfl hP.r8 ?_
    refine mw_ic hX 1 dX0_letGo_96 rfl ?_
    refine mw_iaload hX (j := 1) dX0_letGo_97 hP.l3 hP.s3 rfl (by decide) (by decide) ?_
    refine mw_isub hX dX0_letGo_98 ?_
    refine mw_iastore hX (j := 1) dX0_letGo_99 hP.l2 hP.s2 rfl (by decide) (by decide) ?_
    exact mw_return hX hE dX0_letGo_100 (congrArg (fun z => Sum.inl (none, y, z, L)) (show goC (partsI I b (waterV I b)) b (waterV I b) = _ by rw [hJ, goC, show goA J b = J from if_pos h29]; rfl)) (by omega) (by omega)
  · refine mw_aload_n hX dX0_letGo_32 rfl rfl ?_
    refine mw_dupR hX dX0_letGo_33 ?_
    refine mw_getI hX dX0_letGo_34 hP.l0 hP.s0 fl_X0_72 (by decide) (by decide) rfl ?_
    refine mw_ic hX 1 dX0_letGo_37 rfl ?_
    refine mw_iadd hX dX0_letGo_38 ?_
    refine mw_putI hX dX0_letGo_39 hP.l0 hP.s0 fl_X0_72 (by decide) (by decide) rfl ?_
    refine mw_aload_n hX dX0_letGo_42 rfl rfl ?_
    refine mw_iload_n hX dX0_letGo_43 rfl rfl ?_
    refine mw_bp hX 16 dX0_letGo_44 rfl ?_
    refine mw_cS hX [_, _] ws_X0_75 dX0_letGo_46 (c_min (mw_l X) _ 16 y _ L) rfl (by decide) (by omega) (by omega) (Nat.le_of_ble_eq_true rfl) ?_
    refine mw_putI hX dX0_letGo_49 hP.l0 hP.s0 fl_X0_78 (by decide) (by decide) rfl ?_
    refine mw_aload_n hX dX0_letGo_52 rfl rfl ?_
    refine mw_dupR hX dX0_letGo_53 ?_
    refine mw_getI hX dX0_letGo_54 hP.l0 hP.s0 fl_X0_81 (by decide) (by decide) rfl ?_
    refine mw_aload_n hX dX0_letGo_57 rfl rfl ?_
    refine mw_iload_n hX dX0_letGo_58 rfl rfl ?_
    refine mw_aload_n hX dX0_letGo_59 rfl rfl ?_
    refine mw_getI hX dX0_letGo_60 hP.l0 hP.s0 fl_X0_78 (by decide) (by decide) rfl ?_
    refine mw_cV hX [_, _] ws_X0_84 dX0_letGo_63 (c_energyAt (mw_l X) y b hP _ _ _ L) hP.l0 hP.s0 (by decide) rfl (by decide) (by omega) (by omega) (Nat.le_of_ble_eq_true rfl) ?_
    refine mw_iadd hX dX0_letGo_66 ?_
    refine mw_putI hX dX0_letGo_67 hP.l0 hP.s0 fl_X0_81 (by decide) (by decide) rfl ?_
    refine mw_aload_n hX dX0_letGo_70 rfl rfl ?_
    refine mw_getR hX dX0_letGo_71 hP.l0 hP.s0 fl_X0_28 (by decide) (by decide) rfl hP.r7 ?_
    refine mw_ic hX 0 dX0_letGo_74 rfl ?_
    refine mw_dup2 hX dX0_letGo_75 ?_
    refine mw_iaload hX (j := 0) dX0_letGo_76 hP.l2 hP.s2 rfl (by decide) (by decide) ?_
    refine mw_aload_n hX dX0_letGo_77 rfl rfl ?_
    refine mw_getR hX dX0_letGo_78 hP.l0 hP.s0 fl_X0_31 (by decide) (by decide) rfl hP.r8 ?_
    refine mw_ic hX 0 dX0_letGo_81 rfl ?_
    refine mw_iaload hX (j := 0) dX0_letGo_82 hP.l3 hP.s3 rfl (by decide) (by decide) ?_
    refine mw_isub hX dX0_letGo_83 ?_
    refine mw_iastore hX (j := 0) dX0_letGo_84 hP.l2 hP.s2 rfl (by decide) (by decide) ?_
    refine mw_aload_n hX dX0_letGo_85 rfl rfl ?_
    refine mw_getR hX dX0_letGo_86 hP.l0 hP.s0 fl_X0_28 (by decide) (by decide) rfl hP.r7 ?_
    refine mw_ic hX 1 dX0_letGo_89 rfl ?_
    refine mw_dup2 hX dX0_letGo_90 ?_
    refine mw_iaload hX (j := 1) dX0_letGo_91 hP.l2 hP.s2 rfl (by decide) (by decide) ?_
    refine mw_aload_n hX dX0_letGo_92 rfl rfl ?_
    refine mw_getR hX dX0_letGo_93 hP.l0 hP.s0 fl_X0_31 (by decide) (by decide) rfl hP.r8 ?_
    refine mw_ic hX 1 dX0_letGo_96 rfl ?_
    refine mw_iaload hX (j := 1) dX0_letGo_97 hP.l3 hP.s3 rfl (by decide) (by decide) ?_
    refine mw_isub hX dX0_letGo_98 ?_
    refine mw_iastore hX (j := 1) dX0_letGo_99 hP.l2 hP.s2 rfl (by decide) (by decide) ?_
    exact mw_return hX hE dX0_letGo_100 (congrArg (fun z => Sum.inl (none, y, z, L)) (show goC (partsI I b (waterV I b)) b (waterV I b) = _ by rw [hJ, goC, show goA J b = _ from if_neg h29]; rfl)) (by omega) (by omega)
set_option maxRecDepth 20000 in
theorem c_spillOver (l : Launch) (y : mw_Y) (b : Nat) (hP : mw_isP y b)  (I : mw_I) (L : mw_L) : mw_CT l yX0_spillOver (.code yX0_spillOver cX0_spillOver 3 none) 4 0 0 [.ref b] (y, I, L) (.inl (none, y, spillI I b, L)) := by
  refine mw_enter RX0 rfl (by decide +kernel) (mw_cat rfl) (Nat.le_of_ble_eq_true rfl) (fun X hX hl hE hT hnm => ?_)
  subst hl
  show mw_G X 0 [some (.ref b), none, none] [] y I L 0 0
  refine mw_aload_n hX dX0_spillOver_0 rfl rfl ?_
  refine mw_cV hX [] ws_X0_61 dX0_spillOver_1 (c_waterInPond (mw_l X) y b hP I L) hP.l0 hP.s0 (by decide) rfl (by decide) (by omega) (by omega) (Nat.le_of_ble_eq_true rfl) ?_
  refine mw_aload_n hX dX0_spillOver_4 rfl rfl ?_
  refine mw_getI hX dX0_spillOver_5 hP.l0 hP.s0 fl_X0_9 (by decide) (by decide) rfl ?_
  refine mw_isub hX dX0_spillOver_8 ?_
  refine mw_istore_n hX dX0_spillOver_9 rfl (Nat.le_of_ble_eq_true rfl) ?_
  dsimp only [List.set]
  refine mw_iload_n hX dX0_spillOver_10 rfl rfl ?_
  refine mw_if_le hX (tgt := 49) dX0_spillOver_11 (by decide) (fun h11 => ?_) (fun h11 => ?_)
  · exact mw_return hX hE dX0_spillOver_49 (congrArg (fun z => Sum.inl (none, y, z, L)) (if_pos h11)) (by omega) (by omega)
  · refine mw_aload_n hX dX0_spillOver_14 rfl rfl ?_
    refine mw_cV hX [] ws_X0_87 dX0_spillOver_15 (c_ownerWithMore (mw_l X) y b hP _ L) hP.l0 hP.s0 (by decide) rfl (by decide) (by omega) (by omega) (Nat.le_of_ble_eq_true rfl) ?_
    refine mw_istore_n hX dX0_spillOver_18 rfl (Nat.le_of_ble_eq_true rfl) ?_
    dsimp only [List.set]
    refine mw_aload_n hX dX0_spillOver_19 rfl rfl ?_
    refine mw_getR hX dX0_spillOver_20 hP.l0 hP.s0 fl_X0_28 (by decide) (by decide) rfl hP.r7 ?_
    refine mw_iload_n hX dX0_spillOver_23 rfl rfl ?_
    refine mw_dup2 hX dX0_spillOver_24 ?_
    refine mw_iaload hX (j := moreV I b) dX0_spillOver_25 hP.l2 hP.s2 rfl (moreV_lt _ _) (by decide) ?_
    refine mw_iload_n hX dX0_spillOver_26 rfl rfl ?_
    refine mw_isub hX dX0_spillOver_27 ?_
    refine mw_iastore hX (j := moreV I b) dX0_spillOver_28 hP.l2 hP.s2 rfl (moreV_lt _ _) (by decide) ?_
    refine mw_aload_n hX dX0_spillOver_29 rfl rfl ?_
    refine mw_getR hX dX0_spillOver_30 hP.l0 hP.s0 fl_X0_31 (by decide) (by decide) rfl hP.r8 ?_
    refine mw_iload_n hX dX0_spillOver_33 rfl rfl ?_
    refine mw_dup2 hX dX0_spillOver_34 ?_
    refine mw_iaload hX (j := moreV I b) dX0_spillOver_35 hP.l3 hP.s3 rfl (moreV_lt _ _) (by decide) ?_
    refine mw_iload_n hX dX0_spillOver_36 rfl rfl ?_
    refine mw_iadd hX dX0_spillOver_37 ?_
    refine mw_iastore hX (j := moreV I b) dX0_spillOver_38 hP.l3 hP.s3 rfl (moreV_lt _ _) (by decide) ?_
    refine mw_aload_n hX dX0_spillOver_39 rfl rfl ?_
    refine mw_dupR hX dX0_spillOver_40 ?_
    refine mw_getI hX dX0_spillOver_41 hP.l0 hP.s0 fl_X0_93 (by decide) (by decide) rfl ?_
    refine mw_iload_n hX dX0_spillOver_44 rfl rfl ?_
    refine mw_iadd hX dX0_spillOver_45 ?_
    refine mw_putI hX dX0_spillOver_46 hP.l0 hP.s0 fl_X0_93 (by decide) (by decide) rfl ?_
    exact mw_return hX hE dX0_spillOver_49 (congrArg (fun z => Sum.inl (none, y, z, L)) (if_neg h11)) (by omega) (by omega)
set_option maxRecDepth 20000 in
theorem c_findMixes (l : Launch) (y : mw_Y) (b : Nat) (hP : mw_isP y b)  (I : mw_I) (L : mw_L) : mw_CT l yX0_findMixes (.code yX0_findMixes cX0_findMixes 4 none) 2 0 0 [.ref b] (y, I, L) (.inl (none, y, mixI I b, L)) := by
  refine mw_enter RX0 rfl (by decide +kernel) (mw_cat rfl) (Nat.le_of_ble_eq_true rfl) (fun X hX hl hE hT hnm => ?_)
  subst hl
  show mw_G X 0 [some (.ref b), none, none, none] [] y I L 0 0
  refine mw_ic hX 0 dX0_findMixes_0 rfl ?_
  refine mw_istore_n hX dX0_findMixes_1 rfl (Nat.le_of_ble_eq_true rfl) ?_
  dsimp only [List.set]
  refine lp_dn (P := fun k => mw_G X 2 [some (.ref b), some (.int (nI (k))), none, none] [] y (lpN (fun k J => mw_up J (b + 10) k 0) k I) (L) 0 0) 0 17 ?_ ?_ 0 (Nat.le_refl _) (by omega)
  · show mw_G X 2 [some (.ref b), some (.int (nI (17))), none, none] [] y (lpN (fun k J => mw_up J (b + 10) k 0) 17 I) (L) 0 0
    refine mw_iload_n hX dX0_findMixes_2 rfl rfl ?_
    refine mw_bp hX 16 dX0_findMixes_3 rfl ?_
    refine mw_icmp_gt hX (tgt := 21) dX0_findMixes_5 (by decide) (fun h5 => ?_) (fun h5 => ?_)
    · refine mw_ic hX 0 dX0_findMixes_21 rfl ?_
      refine mw_istore_n hX dX0_findMixes_22 rfl (Nat.le_of_ble_eq_true rfl) ?_
      dsimp only [List.set]
      refine mw_drop 2 ?_
      dsimp only [List.set]
      refine mw_drop 3 ?_
      dsimp only [List.set]
      refine lp_dn (P := fun a => mw_G X 23 [some (.ref b), some (.int (nI (a))), none, none] [] y (lpN (fun a J => lpN (fun c J => mixS b a c J) 9 J) a (mixA I b)) (L) 0 0) 0 9 ?_ ?_ 0 (Nat.le_refl _) (by omega)
      · show mw_G X 23 [some (.ref b), some (.int (nI (9))), none, none] [] y (lpN (fun a J => lpN (fun c J => mixS b a c J) 9 J) 9 (mixA I b)) (L) 0 0
        refine mw_iload_n hX dX0_findMixes_23 rfl rfl ?_
        refine mw_bp hX 8 dX0_findMixes_24 rfl ?_
        refine mw_icmp_gt hX (tgt := 87) dX0_findMixes_26 (by decide) (fun h26 => ?_) (fun h26 => ?_)
        · refine mw_ic hX 1 dX0_findMixes_87 rfl ?_
          refine mw_istore_n hX dX0_findMixes_88 rfl (Nat.le_of_ble_eq_true rfl) ?_
          dsimp only [List.set]
          refine mw_drop 2 ?_
          dsimp only [List.set]
          refine mw_drop 3 ?_
          dsimp only [List.set]
          refine lp_dn (P := fun k => mw_G X 89 [some (.ref b), some (.int (nI (k + 1))), none, none] [] y (lpN (mixT b) k (mixB (mixA I b) b)) (L) 0 0) 0 16 ?_ ?_ 0 (Nat.le_refl _) (by omega)
          · show mw_G X 89 [some (.ref b), some (.int (nI (17))), none, none] [] y (lpN (mixT b) 16 (mixB (mixA I b) b)) (L) 0 0
            refine mw_iload_n hX dX0_findMixes_89 rfl rfl ?_
            refine mw_bp hX 16 dX0_findMixes_90 rfl ?_
            refine mw_icmp_gt hX (tgt := 124) dX0_findMixes_92 (by decide) (fun h92 => ?_) (fun h92 => ?_)
            · exact mw_return hX hE dX0_findMixes_124 (rfl) (by omega) (by omega)
            · exact absurd (nI_lt (a := 16) (b := 17) (by omega) (by omega)) h92
          · intro k hsk hk ihk
            show mw_G X 89 [some (.ref b), some (.int (nI (k + 1))), none, none] [] y (lpN (mixT b) k (mixB (mixA I b) b)) (L) 0 0
            refine mw_iload_n hX dX0_findMixes_89 rfl rfl ?_
            refine mw_bp hX 16 dX0_findMixes_90 rfl ?_
            refine mw_icmp_gt hX (tgt := 124) dX0_findMixes_92 (by decide) (fun h92 => ?_) (fun h92 => ?_)
            · exact absurd h92 (nI_nlt (a := 16) (b := k + 1) (by omega) (by omega))
            · refine mw_aload_n hX dX0_findMixes_95 rfl rfl ?_
              refine mw_getR hX dX0_findMixes_96 hP.l0 hP.s0 fl_X0_42 (by decide) (by decide) rfl hP.r11 ?_
              refine mw_iload_n hX dX0_findMixes_99 rfl rfl ?_
              refine mw_aload_n hX dX0_findMixes_100 rfl rfl ?_
              refine mw_getR hX dX0_findMixes_101 hP.l0 hP.s0 fl_X0_42 (by decide) (by decide) rfl hP.r11 ?_
              refine mw_iload_n hX dX0_findMixes_104 rfl rfl ?_
              refine mw_iaload hX (j := k + 1) dX0_findMixes_105 hP.l10 hP.s10 (by simp only [mw_n0, mw_n1, mw_n2, mw_n3, mw_n4, mw_n5, mw_n6, mw_n8, mw_n9, mw_n18, mw_n210, mw_n260, pk_mul, nI_add]) (by omega) (by decide) ?_
              refine mw_aload_n hX dX0_findMixes_106 rfl rfl ?_
              refine mw_getR hX dX0_findMixes_107 hP.l0 hP.s0 fl_X0_42 (by decide) (by decide) rfl hP.r11 ?_
              refine mw_iload_n hX dX0_findMixes_110 rfl rfl ?_
              refine mw_ic hX 1 dX0_findMixes_111 rfl ?_
              refine mw_isub hX dX0_findMixes_112 ?_
              refine mw_iaload hX (j := k) dX0_findMixes_113 hP.l10 hP.s10 (nI_pred k) (by omega) (by decide) ?_
              refine mw_cS hX [_, _] ws_X0_48 dX0_findMixes_114 (c_max (mw_l X) _ _ y _ L) rfl (by decide) (by omega) (by omega) (Nat.le_of_ble_eq_true rfl) ?_
              refine mw_iastore hX (j := k + 1) dX0_findMixes_117 hP.l10 hP.s10 (by simp only [mw_n0, mw_n1, mw_n2, mw_n3, mw_n4, mw_n5, mw_n6, mw_n8, mw_n9, mw_n18, mw_n210, mw_n260, pk_mul, nI_add]) (by omega) (by decide) ?_
              refine mw_inc hX (nI (k + 1 + 1)) dX0_findMixes_118 rfl (mw_inc1 _) ?_
              dsimp only [List.set]
              refine mw_goto hX (tgt := 89) dX0_findMixes_121 (by decide) ?_
              refine mw_drop 2 ?_
              dsimp only [List.set]
              refine mw_drop 3 ?_
              dsimp only [List.set]
              exact ihk
        · exact absurd (nI_lt (a := 8) (b := 9) (by omega) (by omega)) h26
      · intro a hsa ha iha
        show mw_G X 23 [some (.ref b), some (.int (nI (a))), none, none] [] y (lpN (fun a J => lpN (fun c J => mixS b a c J) 9 J) a (mixA I b)) (L) 0 0
        refine mw_iload_n hX dX0_findMixes_23 rfl rfl ?_
        refine mw_bp hX 8 dX0_findMixes_24 rfl ?_
        refine mw_icmp_gt hX (tgt := 87) dX0_findMixes_26 (by decide) (fun h26 => ?_) (fun h26 => ?_)
        · exact absurd h26 (nI_nlt (a := 8) (b := a) (by omega) (by omega))
        · refine mw_ic hX 0 dX0_findMixes_29 rfl ?_
          refine mw_istore_n hX dX0_findMixes_30 rfl (Nat.le_of_ble_eq_true rfl) ?_
          dsimp only [List.set]
          refine mw_drop 3 ?_
          dsimp only [List.set]
          refine lp_dn (P := fun c => mw_G X 31 [some (.ref b), some (.int (nI a)), some (.int (nI (c))), none] [] y (lpN (fun c J => mixS b a c J) c (lpN (fun a J => lpN (fun c J => mixS b a c J) 9 J) a (mixA I b))) (L) 0 0) 0 9 ?_ ?_ 0 (Nat.le_refl _) (by omega)
          · show mw_G X 31 [some (.ref b), some (.int (nI a)), some (.int (nI (9))), none] [] y (lpN (fun c J => mixS b a c J) 9 (lpN (fun a J => lpN (fun c J => mixS b a c J) 9 J) a (mixA I b))) (L) 0 0
            refine mw_iload_n hX dX0_findMixes_31 rfl rfl ?_
            refine mw_bp hX 8 dX0_findMixes_32 rfl ?_
            refine mw_icmp_gt hX (tgt := 81) dX0_findMixes_34 (by decide) (fun h34 => ?_) (fun h34 => ?_)
            · refine mw_inc hX (nI (a + 1)) dX0_findMixes_81 rfl (mw_inc1 _) ?_
              dsimp only [List.set]
              refine mw_goto hX (tgt := 23) dX0_findMixes_84 (by decide) ?_
              refine mw_drop 2 ?_
              dsimp only [List.set]
              refine mw_drop 3 ?_
              dsimp only [List.set]
              exact iha
            · exact absurd (nI_lt (a := 8) (b := 9) (by omega) (by omega)) h34
          · intro c hsc hc ihc
            show mw_G X 31 [some (.ref b), some (.int (nI a)), some (.int (nI (c))), none] [] y (lpN (fun c J => mixS b a c J) c (lpN (fun a J => lpN (fun c J => mixS b a c J) 9 J) a (mixA I b))) (L) 0 0
            refine mw_iload_n hX dX0_findMixes_31 rfl rfl ?_
            refine mw_bp hX 8 dX0_findMixes_32 rfl ?_
            refine mw_icmp_gt hX (tgt := 81) dX0_findMixes_34 (by decide) (fun h34 => ?_) (fun h34 => ?_)
            · exact absurd h34 (nI_nlt (a := 8) (b := c) (by omega) (by omega))
            · refine mw_aload_n hX dX0_findMixes_37 rfl rfl ?_
              refine mw_getR hX dX0_findMixes_38 hP.l0 hP.s0 fl_X0_39 (by decide) (by decide) rfl hP.r10 ?_
              refine mw_ic hX 0 dX0_findMixes_41 rfl ?_
              refine mw_aaloadR hX (j := 0) dX0_findMixes_42 hP.l7 hP.s7 rfl (by decide) (by decide) (hP.yy (by omega)) ?_
              refine mw_iload_n hX dX0_findMixes_43 rfl rfl ?_
              refine mw_iaload hX (j := a) dX0_findMixes_44 (hP.l8 (o := 0) (by omega)) (hP.s8 (o := 0) (by omega)) rfl (by omega) (by decide) ?_
              refine mw_aload_n hX dX0_findMixes_45 rfl rfl ?_
              refine mw_getR hX dX0_findMixes_46 hP.l0 hP.s0 fl_X0_39 (by decide) (by decide) rfl hP.r10 ?_
              refine mw_ic hX 1 dX0_findMixes_49 rfl ?_
              refine mw_aaloadR hX (j := 1) dX0_findMixes_50 hP.l7 hP.s7 rfl (by decide) (by decide) (hP.yy (by omega)) ?_
              refine mw_iload_n hX dX0_findMixes_51 rfl rfl ?_
              refine mw_iaload hX (j := c) dX0_findMixes_52 (hP.l8 (o := 1) (by omega)) (hP.s8 (o := 1) (by omega)) rfl (by omega) (by decide) ?_
              refine mw_iadd hX dX0_findMixes_53 ?_
              refine mw_istore_n hX dX0_findMixes_54 rfl (Nat.le_of_ble_eq_true rfl) ?_
              dsimp only [List.set]
              refine mw_aload_n hX dX0_findMixes_55 rfl rfl ?_
              refine mw_getR hX dX0_findMixes_56 hP.l0 hP.s0 fl_X0_42 (by decide) (by decide) rfl hP.r11 ?_
              refine mw_iload_n hX dX0_findMixes_59 rfl rfl ?_
              refine mw_iload_n hX dX0_findMixes_60 rfl rfl ?_
              refine mw_iadd hX dX0_findMixes_61 ?_
              refine mw_aload_n hX dX0_findMixes_62 rfl rfl ?_
              refine mw_getR hX dX0_findMixes_63 hP.l0 hP.s0 fl_X0_42 (by decide) (by decide) rfl hP.r11 ?_
              refine mw_iload_n hX dX0_findMixes_66 rfl rfl ?_
              refine mw_iload_n hX dX0_findMixes_67 rfl rfl ?_
              refine mw_iadd hX dX0_findMixes_68 ?_
              refine mw_iaload hX (j := a + c) dX0_findMixes_69 hP.l10 hP.s10 (by simp only [mw_n0, mw_n1, mw_n2, mw_n3, mw_n4, mw_n5, mw_n6, mw_n8, mw_n9, mw_n18, mw_n210, mw_n260, pk_mul, nI_add]) (by omega) (by decide) ?_
              refine mw_iload_n hX dX0_findMixes_70 rfl rfl ?_
              refine mw_cS hX [_, _] ws_X0_48 dX0_findMixes_71 (c_max (mw_l X) _ _ y _ L) rfl (by decide) (by omega) (by omega) (Nat.le_of_ble_eq_true rfl) ?_
              refine mw_iastore hX (j := a + c) dX0_findMixes_74 hP.l10 hP.s10 (by simp only [mw_n0, mw_n1, mw_n2, mw_n3, mw_n4, mw_n5, mw_n6, mw_n8, mw_n9, mw_n18, mw_n210, mw_n260, pk_mul, nI_add]) (by omega) (by decide) ?_
              refine mw_inc hX (nI (c + 1)) dX0_findMixes_75 rfl (mw_inc1 _) ?_
              dsimp only [List.set]
              refine mw_goto hX (tgt := 31) dX0_findMixes_78 (by decide) ?_
              refine mw_drop 3 ?_
              dsimp only [List.set]
              exact ihc
    · exact absurd (nI_lt (a := 16) (b := 17) (by omega) (by omega)) h5
  · intro k hsk hk ihk
    show mw_G X 2 [some (.ref b), some (.int (nI (k))), none, none] [] y (lpN (fun k J => mw_up J (b + 10) k 0) k I) (L) 0 0
    refine mw_iload_n hX dX0_findMixes_2 rfl rfl ?_
    refine mw_bp hX 16 dX0_findMixes_3 rfl ?_
    refine mw_icmp_gt hX (tgt := 21) dX0_findMixes_5 (by decide) (fun h5 => ?_) (fun h5 => ?_)
    · exact absurd h5 (nI_nlt (a := 16) (b := k) (by omega) (by omega))
    · refine mw_aload_n hX dX0_findMixes_8 rfl rfl ?_
      refine mw_getR hX dX0_findMixes_9 hP.l0 hP.s0 fl_X0_42 (by decide) (by decide) rfl hP.r11 ?_
      refine mw_iload_n hX dX0_findMixes_12 rfl rfl ?_
      refine mw_ic hX 0 dX0_findMixes_13 rfl ?_
      refine mw_iastore hX (j := k) dX0_findMixes_14 hP.l10 hP.s10 rfl (by omega) (by decide) ?_
      refine mw_inc hX (nI (k + 1)) dX0_findMixes_15 rfl (mw_inc1 _) ?_
      dsimp only [List.set]
      refine mw_goto hX (tgt := 2) dX0_findMixes_18 (by decide) ?_
      exact ihk
end
section
/-! WaterCascade: the methods but hours and best releases (by program: wip/whole/gen18.py) -/
theorem okR_low {i : Nat} (h0 : 1 ≤ i) (h : i < 3) : okR (nI i) 1 2 := ⟨nI_nlt (a := i) (b := 1) h0 (by omega), nI_le (a := i) (b := 2) (by omega) (by decide)⟩
set_option maxRecDepth 20000 in
theorem c_setPondX (l : Launch) (p a b c : Int32) (h : ¬ (okR p 0 2 ∧ okR a 1 200 ∧ okR b 0 100 ∧ okR c 0 5)) (I : mw_I) (L : mw_L) : mw_CT l yX1_setPond (.code yX1_setPond cX1_setPond 6 none) 4 4 24 [.ref 0, .int p, .int a, .int b, .int c] (mw_Y0, I, L) (.inr "java/lang/IllegalArgumentException") := by
  refine mw_enter RX1 rfl (by decide +kernel) (mw_cat rfl) (Nat.le_of_ble_eq_true rfl) (fun X hX hl hE hT hnm => ?_)
  subst hl
  show mw_G X 0 [some (.ref 0), some (.int p), some (.int a), some (.int b), some (.int c), none] [] mw_Y0 I L 0 0
  refine mw_iload_n hX dX1_setPond_0 rfl rfl ?_
  rcases Classical.em (okR p 0 2) with h1 | h1
  · refine mw_cS hX [_] ws_X1_32 dX1_setPond_1 (c_checkPlant (mw_l X) p h1 mw_Y0 I L) rfl (by decide) (by omega) (by omega) (Nat.le_of_ble_eq_true rfl) ?_
    refine mw_iload_n hX dX1_setPond_4 rfl rfl ?_
    refine mw_ic hX 1 dX1_setPond_5 rfl ?_
    refine mw_sp hX 200 dX1_setPond_6 rfl ?_
    rcases Classical.em (okR a 1 200) with h9 | h9
    · refine mw_cS hX [_, _, _] ws_X1_36 dX1_setPond_9 (c_checkRange (mw_l X) a 1 200 h9 mw_Y0 I L) rfl (by decide) (by omega) (by omega) (Nat.le_of_ble_eq_true rfl) ?_
      refine mw_iload_n hX dX1_setPond_12 rfl rfl ?_
      refine mw_ic hX 0 dX1_setPond_13 rfl ?_
      refine mw_bp hX 100 dX1_setPond_14 rfl ?_
      rcases Classical.em (okR b 0 100) with h16 | h16
      · refine mw_cS hX [_, _, _] ws_X1_36 dX1_setPond_16 (c_checkRange (mw_l X) b 0 100 h16 mw_Y0 I L) rfl (by decide) (by omega) (by omega) (Nat.le_of_ble_eq_true rfl) ?_
        refine mw_iload hX dX1_setPond_19 rfl ?_
        refine mw_ic hX 0 dX1_setPond_21 rfl ?_
        refine mw_ic hX 5 dX1_setPond_22 rfl ?_
        rcases Classical.em (okR c 0 5) with h23 | h23
        · refine mw_cS hX [_, _, _] ws_X1_36 dX1_setPond_23 (c_checkRange (mw_l X) c 0 5 h23 mw_Y0 I L) rfl (by decide) (by omega) (by omega) (Nat.le_of_ble_eq_true rfl) ?_
          exact absurd ⟨h1, h9, h16, h23⟩ h
        · exact mw_cSX hX hE hT [_, _, _] ws_X1_36 dX1_setPond_23 (c_checkRangeX (mw_l X) c 0 5 h23 mw_Y0 I L) rfl (by decide) (by omega) (by omega) (Nat.le_of_ble_eq_true rfl) (rfl) (by omega) (by omega)
      · exact mw_cSX hX hE hT [_, _, _] ws_X1_36 dX1_setPond_16 (c_checkRangeX (mw_l X) b 0 100 h16 mw_Y0 I L) rfl (by decide) (by omega) (by omega) (Nat.le_of_ble_eq_true rfl) (rfl) (by omega) (by omega)
    · exact mw_cSX hX hE hT [_, _, _] ws_X1_36 dX1_setPond_9 (c_checkRangeX (mw_l X) a 1 200 h9 mw_Y0 I L) rfl (by decide) (by omega) (by omega) (Nat.le_of_ble_eq_true rfl) (rfl) (by omega) (by omega)
  · exact mw_cSX hX hE hT [_] ws_X1_32 dX1_setPond_1 (c_checkPlantX (mw_l X) p h1 mw_Y0 I L) rfl (by decide) (by omega) (by omega) (Nat.le_of_ble_eq_true rfl) (rfl) (by omega) (by omega)
set_option maxRecDepth 20000 in
theorem c_setPond (l : Launch) (i : Nat) (hi : i < 3) (a b c : Int32) (ha : okR a 1 200) (hb : okR b 0 100) (hc : okR c 0 5) (I : mw_I) (L : mw_L) : mw_CT l yX1_setPond (.code yX1_setPond cX1_setPond 6 none) 4 4 24 [.ref 0, .int (nI i), .int a, .int b, .int c] (mw_Y0, I, L) (.inl (none, mw_Y0, mw_up (mw_up (mw_up I (7 + 11 * i) 0 a) (7 + 11 * i) 1 b) (7 + 11 * i) 2 c, L)) := by
  refine mw_enter RX1 rfl (by decide +kernel) (mw_cat rfl) (Nat.le_of_ble_eq_true rfl) (fun X hX hl hE hT hnm => ?_)
  subst hl
  show mw_G X 0 [some (.ref 0), some (.int (nI i)), some (.int a), some (.int b), some (.int c), none] [] mw_Y0 I L 0 0
  refine mw_iload_n hX dX1_setPond_0 rfl rfl ?_
  refine mw_cS hX [_] ws_X1_32 dX1_setPond_1 (c_checkPlant (mw_l X) (nI i) (okR_nI (n := 2) (by decide) hi) mw_Y0 I L) rfl (by decide) (by omega) (by omega) (Nat.le_of_ble_eq_true rfl) ?_
  refine mw_iload_n hX dX1_setPond_4 rfl rfl ?_
  refine mw_ic hX 1 dX1_setPond_5 rfl ?_
  refine mw_sp hX 200 dX1_setPond_6 rfl ?_
  refine mw_cS hX [_, _, _] ws_X1_36 dX1_setPond_9 (c_checkRange (mw_l X) a 1 200 ha mw_Y0 I L) rfl (by decide) (by omega) (by omega) (Nat.le_of_ble_eq_true rfl) ?_
  refine mw_iload_n hX dX1_setPond_12 rfl rfl ?_
  refine mw_ic hX 0 dX1_setPond_13 rfl ?_
  refine mw_bp hX 100 dX1_setPond_14 rfl ?_
  refine mw_cS hX [_, _, _] ws_X1_36 dX1_setPond_16 (c_checkRange (mw_l X) b 0 100 hb mw_Y0 I L) rfl (by decide) (by omega) (by omega) (Nat.le_of_ble_eq_true rfl) ?_
  refine mw_iload hX dX1_setPond_19 rfl ?_
  refine mw_ic hX 0 dX1_setPond_21 rfl ?_
  refine mw_ic hX 5 dX1_setPond_22 rfl ?_
  refine mw_cS hX [_, _, _] ws_X1_36 dX1_setPond_23 (c_checkRange (mw_l X) c 0 5 hc mw_Y0 I L) rfl (by decide) (by omega) (by omega) (Nat.le_of_ble_eq_true rfl) ?_
  refine mw_aload_n hX dX1_setPond_26 rfl rfl ?_
  refine mw_getR hX (r := 1) dX1_setPond_27 (mw_Yl (by decide)) mw_YW fl_X1_11 (by decide) (by decide) rfl rfl ?_
  refine mw_iload_n hX dX1_setPond_30 rfl rfl ?_
  refine mw_aaloadP hX (j := i) dX1_setPond_31 (mw_Yl (by decide)) rfl rfl (by omega) (by decide) (mw_Yp (by omega)) ?_
  refine mw_astore hX dX1_setPond_32 (Nat.le_of_ble_eq_true rfl) ?_
  dsimp only [List.set]
  refine mw_aload hX dX1_setPond_34 rfl ?_
  refine mw_iload_n hX dX1_setPond_36 rfl rfl ?_
  refine mw_putI hX dX1_setPond_37 (mw_P0 (i := i) (by omega)).l0 (mw_P0 (i := i) (by omega)).s0 fl_X1_40 (by decide) (by decide) rfl ?_
  refine mw_aload hX dX1_setPond_40 rfl ?_
  refine mw_iload_n hX dX1_setPond_42 rfl rfl ?_
  refine mw_putI hX dX1_setPond_43 (mw_P0 (i := i) (by omega)).l0 (mw_P0 (i := i) (by omega)).s0 fl_X1_44 (by decide) (by decide) rfl ?_
  refine mw_aload hX dX1_setPond_46 rfl ?_
  refine mw_iload hX dX1_setPond_48 rfl ?_
  refine mw_putI hX dX1_setPond_50 (mw_P0 (i := i) (by omega)).l0 (mw_P0 (i := i) (by omega)).s0 fl_X1_47 (by decide) (by decide) rfl ?_
  exact mw_return hX hE dX1_setPond_53 (rfl) (by omega) (by omega)
set_option maxRecDepth 20000 in
theorem c_setInflowX (l : Launch) (p a b : Int32) (h : ¬ (okR p 0 2 ∧ okR a 0 50 ∧ okR b 0 100)) (I : mw_I) (L : mw_L) : mw_CT l yX1_setInflow (.code yX1_setInflow cX1_setInflow 5 (some .int)) 4 3 18 [.ref 0, .int p, .int a, .int b] (mw_Y0, I, L) (.inr "java/lang/IllegalArgumentException") := by
  refine mw_enter RX1 rfl (by decide +kernel) (mw_cat rfl) (Nat.le_of_ble_eq_true rfl) (fun X hX hl hE hT hnm => ?_)
  subst hl
  show mw_G X 0 [some (.ref 0), some (.int p), some (.int a), some (.int b), none] [] mw_Y0 I L 0 0
  refine mw_iload_n hX dX1_setInflow_0 rfl rfl ?_
  rcases Classical.em (okR p 0 2) with h1 | h1
  · refine mw_cS hX [_] ws_X1_32 dX1_setInflow_1 (c_checkPlant (mw_l X) p h1 mw_Y0 I L) rfl (by decide) (by omega) (by omega) (Nat.le_of_ble_eq_true rfl) ?_
    refine mw_iload_n hX dX1_setInflow_4 rfl rfl ?_
    refine mw_ic hX 0 dX1_setInflow_5 rfl ?_
    refine mw_bp hX 50 dX1_setInflow_6 rfl ?_
    rcases Classical.em (okR a 0 50) with h8 | h8
    · refine mw_cS hX [_, _, _] ws_X1_36 dX1_setInflow_8 (c_checkRange (mw_l X) a 0 50 h8 mw_Y0 I L) rfl (by decide) (by omega) (by omega) (Nat.le_of_ble_eq_true rfl) ?_
      refine mw_iload_n hX dX1_setInflow_11 rfl rfl ?_
      refine mw_ic hX 0 dX1_setInflow_12 rfl ?_
      refine mw_bp hX 100 dX1_setInflow_13 rfl ?_
      rcases Classical.em (okR b 0 100) with h15 | h15
      · refine mw_cS hX [_, _, _] ws_X1_36 dX1_setInflow_15 (c_checkRange (mw_l X) b 0 100 h15 mw_Y0 I L) rfl (by decide) (by omega) (by omega) (Nat.le_of_ble_eq_true rfl) ?_
        exact absurd ⟨h1, h8, h15⟩ h
      · exact mw_cSX hX hE hT [_, _, _] ws_X1_36 dX1_setInflow_15 (c_checkRangeX (mw_l X) b 0 100 h15 mw_Y0 I L) rfl (by decide) (by omega) (by omega) (Nat.le_of_ble_eq_true rfl) (rfl) (by omega) (by omega)
    · exact mw_cSX hX hE hT [_, _, _] ws_X1_36 dX1_setInflow_8 (c_checkRangeX (mw_l X) a 0 50 h8 mw_Y0 I L) rfl (by decide) (by omega) (by omega) (Nat.le_of_ble_eq_true rfl) (rfl) (by omega) (by omega)
  · exact mw_cSX hX hE hT [_] ws_X1_32 dX1_setInflow_1 (c_checkPlantX (mw_l X) p h1 mw_Y0 I L) rfl (by decide) (by omega) (by omega) (Nat.le_of_ble_eq_true rfl) (rfl) (by omega) (by omega)
set_option maxRecDepth 20000 in
theorem c_setInflow (l : Launch) (i : Nat) (hi : i < 3) (a b : Int32) (ha : okR a 0 50) (hb : okR b 0 100) (I : mw_I) (L : mw_L) : mw_CT l yX1_setInflow (.code yX1_setInflow cX1_setInflow 5 (some .int)) 4 3 18 [.ref 0, .int (nI i), .int a, .int b] (mw_Y0, I, L) (.inl (some (.int (I (7 + 11 * i) 4)), mw_Y0, mw_up (mw_up I (7 + 11 * i) 4 a) (7 + 11 * i) 5 b, L)) := by
  refine mw_enter RX1 rfl (by decide +kernel) (mw_cat rfl) (Nat.le_of_ble_eq_true rfl) (fun X hX hl hE hT hnm => ?_)
  subst hl
  show mw_G X 0 [some (.ref 0), some (.int (nI i)), some (.int a), some (.int b), none] [] mw_Y0 I L 0 0
  refine mw_iload_n hX dX1_setInflow_0 rfl rfl ?_
  refine mw_cS hX [_] ws_X1_32 dX1_setInflow_1 (c_checkPlant (mw_l X) (nI i) (okR_nI (n := 2) (by decide) hi) mw_Y0 I L) rfl (by decide) (by omega) (by omega) (Nat.le_of_ble_eq_true rfl) ?_
  refine mw_iload_n hX dX1_setInflow_4 rfl rfl ?_
  refine mw_ic hX 0 dX1_setInflow_5 rfl ?_
  refine mw_bp hX 50 dX1_setInflow_6 rfl ?_
  refine mw_cS hX [_, _, _] ws_X1_36 dX1_setInflow_8 (c_checkRange (mw_l X) a 0 50 ha mw_Y0 I L) rfl (by decide) (by omega) (by omega) (Nat.le_of_ble_eq_true rfl) ?_
  refine mw_iload_n hX dX1_setInflow_11 rfl rfl ?_
  refine mw_ic hX 0 dX1_setInflow_12 rfl ?_
  refine mw_bp hX 100 dX1_setInflow_13 rfl ?_
  refine mw_cS hX [_, _, _] ws_X1_36 dX1_setInflow_15 (c_checkRange (mw_l X) b 0 100 hb mw_Y0 I L) rfl (by decide) (by omega) (by omega) (Nat.le_of_ble_eq_true rfl) ?_
  refine mw_aload_n hX dX1_setInflow_18 rfl rfl ?_
  refine mw_getR hX (r := 1) dX1_setInflow_19 (mw_Yl (by decide)) mw_YW fl_X1_11 (by decide) (by decide) rfl rfl ?_
  refine mw_iload_n hX dX1_setInflow_22 rfl rfl ?_
  refine mw_aaloadP hX (j := i) dX1_setInflow_23 (mw_Yl (by decide)) rfl rfl (by omega) (by decide) (mw_Yp (by omega)) ?_
  refine mw_getI hX dX1_setInflow_24 (mw_P0 (i := i) (by omega)).l0 (mw_P0 (i := i) (by omega)).s0 fl_X1_50 (by decide) (by decide) rfl ?_
  refine mw_istore hX dX1_setInflow_27 (Nat.le_of_ble_eq_true rfl) ?_
  dsimp only [List.set]
  refine mw_aload_n hX dX1_setInflow_29 rfl rfl ?_
  refine mw_getR hX (r := 1) dX1_setInflow_30 (mw_Yl (by decide)) mw_YW fl_X1_11 (by decide) (by decide) rfl rfl ?_
  refine mw_iload_n hX dX1_setInflow_33 rfl rfl ?_
  refine mw_aaloadP hX (j := i) dX1_setInflow_34 (mw_Yl (by decide)) rfl rfl (by omega) (by decide) (mw_Yp (by omega)) ?_
  refine mw_iload_n hX dX1_setInflow_35 rfl rfl ?_
  refine mw_putI hX dX1_setInflow_36 (mw_P0 (i := i) (by omega)).l0 (mw_P0 (i := i) (by omega)).s0 fl_X1_50 (by decide) (by decide) rfl ?_
  refine mw_aload_n hX dX1_setInflow_39 rfl rfl ?_
  refine mw_getR hX (r := 1) dX1_setInflow_40 (mw_Yl (by decide)) mw_YW fl_X1_11 (by decide) (by decide) rfl rfl ?_
  refine mw_iload_n hX dX1_setInflow_43 rfl rfl ?_
  refine mw_aaloadP hX (j := i) dX1_setInflow_44 (mw_Yl (by decide)) rfl rfl (by omega) (by decide) (mw_Yp (by omega)) ?_
  refine mw_iload_n hX dX1_setInflow_45 rfl rfl ?_
  refine mw_putI hX dX1_setInflow_46 (mw_P0 (i := i) (by omega)).l0 (mw_P0 (i := i) (by omega)).s0 fl_X1_53 (by decide) (by decide) rfl ?_
  refine mw_iload hX dX1_setInflow_49 rfl ?_
  exact mw_ireturn hX hE dX1_setInflow_51 (rfl) (by omega) (by omega)
set_option maxRecDepth 20000 in
theorem c_setMinimumX (l : Launch) (p a : Int32) (h : ¬ (okR p 0 2 ∧ okR a 0 20)) (I : mw_I) (L : mw_L) : mw_CT l yX1_setMinimum (.code yX1_setMinimum cX1_setMinimum 4 (some .int)) 4 2 12 [.ref 0, .int p, .int a] (mw_Y0, I, L) (.inr "java/lang/IllegalArgumentException") := by
  refine mw_enter RX1 rfl (by decide +kernel) (mw_cat rfl) (Nat.le_of_ble_eq_true rfl) (fun X hX hl hE hT hnm => ?_)
  subst hl
  show mw_G X 0 [some (.ref 0), some (.int p), some (.int a), none] [] mw_Y0 I L 0 0
  refine mw_iload_n hX dX1_setMinimum_0 rfl rfl ?_
  rcases Classical.em (okR p 0 2) with h1 | h1
  · refine mw_cS hX [_] ws_X1_32 dX1_setMinimum_1 (c_checkPlant (mw_l X) p h1 mw_Y0 I L) rfl (by decide) (by omega) (by omega) (Nat.le_of_ble_eq_true rfl) ?_
    refine mw_iload_n hX dX1_setMinimum_4 rfl rfl ?_
    refine mw_ic hX 0 dX1_setMinimum_5 rfl ?_
    refine mw_bp hX 20 dX1_setMinimum_6 rfl ?_
    rcases Classical.em (okR a 0 20) with h8 | h8
    · refine mw_cS hX [_, _, _] ws_X1_36 dX1_setMinimum_8 (c_checkRange (mw_l X) a 0 20 h8 mw_Y0 I L) rfl (by decide) (by omega) (by omega) (Nat.le_of_ble_eq_true rfl) ?_
      exact absurd ⟨h1, h8⟩ h
    · exact mw_cSX hX hE hT [_, _, _] ws_X1_36 dX1_setMinimum_8 (c_checkRangeX (mw_l X) a 0 20 h8 mw_Y0 I L) rfl (by decide) (by omega) (by omega) (Nat.le_of_ble_eq_true rfl) (rfl) (by omega) (by omega)
  · exact mw_cSX hX hE hT [_] ws_X1_32 dX1_setMinimum_1 (c_checkPlantX (mw_l X) p h1 mw_Y0 I L) rfl (by decide) (by omega) (by omega) (Nat.le_of_ble_eq_true rfl) (rfl) (by omega) (by omega)
set_option maxRecDepth 20000 in
theorem c_setMinimum (l : Launch) (i : Nat) (hi : i < 3) (a : Int32) (ha : okR a 0 20) (I : mw_I) (L : mw_L) : mw_CT l yX1_setMinimum (.code yX1_setMinimum cX1_setMinimum 4 (some .int)) 4 2 12 [.ref 0, .int (nI i), .int a] (mw_Y0, I, L) (.inl (some (.int (I (7 + 11 * i) 3)), mw_Y0, mw_up I (7 + 11 * i) 3 a, L)) := by
  refine mw_enter RX1 rfl (by decide +kernel) (mw_cat rfl) (Nat.le_of_ble_eq_true rfl) (fun X hX hl hE hT hnm => ?_)
  subst hl
  show mw_G X 0 [some (.ref 0), some (.int (nI i)), some (.int a), none] [] mw_Y0 I L 0 0
  refine mw_iload_n hX dX1_setMinimum_0 rfl rfl ?_
  refine mw_cS hX [_] ws_X1_32 dX1_setMinimum_1 (c_checkPlant (mw_l X) (nI i) (okR_nI (n := 2) (by decide) hi) mw_Y0 I L) rfl (by decide) (by omega) (by omega) (Nat.le_of_ble_eq_true rfl) ?_
  refine mw_iload_n hX dX1_setMinimum_4 rfl rfl ?_
  refine mw_ic hX 0 dX1_setMinimum_5 rfl ?_
  refine mw_bp hX 20 dX1_setMinimum_6 rfl ?_
  refine mw_cS hX [_, _, _] ws_X1_36 dX1_setMinimum_8 (c_checkRange (mw_l X) a 0 20 ha mw_Y0 I L) rfl (by decide) (by omega) (by omega) (Nat.le_of_ble_eq_true rfl) ?_
  refine mw_aload_n hX dX1_setMinimum_11 rfl rfl ?_
  refine mw_getR hX (r := 1) dX1_setMinimum_12 (mw_Yl (by decide)) mw_YW fl_X1_11 (by decide) (by decide) rfl rfl ?_
  refine mw_iload_n hX dX1_setMinimum_15 rfl rfl ?_
  refine mw_aaloadP hX (j := i) dX1_setMinimum_16 (mw_Yl (by decide)) rfl rfl (by omega) (by decide) (mw_Yp (by omega)) ?_
  refine mw_getI hX dX1_setMinimum_17 (mw_P0 (i := i) (by omega)).l0 (mw_P0 (i := i) (by omega)).s0 fl_X1_56 (by decide) (by decide) rfl ?_
  refine mw_istore_n hX dX1_setMinimum_20 rfl (Nat.le_of_ble_eq_true rfl) ?_
  dsimp only [List.set]
  refine mw_aload_n hX dX1_setMinimum_21 rfl rfl ?_
  refine mw_getR hX (r := 1) dX1_setMinimum_22 (mw_Yl (by decide)) mw_YW fl_X1_11 (by decide) (by decide) rfl rfl ?_
  refine mw_iload_n hX dX1_setMinimum_25 rfl rfl ?_
  refine mw_aaloadP hX (j := i) dX1_setMinimum_26 (mw_Yl (by decide)) rfl rfl (by omega) (by decide) (mw_Yp (by omega)) ?_
  refine mw_iload_n hX dX1_setMinimum_27 rfl rfl ?_
  refine mw_putI hX dX1_setMinimum_28 (mw_P0 (i := i) (by omega)).l0 (mw_P0 (i := i) (by omega)).s0 fl_X1_56 (by decide) (by decide) rfl ?_
  refine mw_iload_n hX dX1_setMinimum_31 rfl rfl ?_
  exact mw_ireturn hX hE dX1_setMinimum_32 (rfl) (by omega) (by omega)
set_option maxRecDepth 20000 in
theorem c_orderX (l : Launch) (p o a : Int32) (h : ¬ (okR p 0 2 ∧ okR o 0 1 ∧ okR a 0 30)) (I : mw_I) (L : mw_L) : mw_CT l yX1_order (.code yX1_order cX1_order 5 (some .int)) 4 3 18 [.ref 0, .int p, .int o, .int a] (mw_Y0, I, L) (.inr "java/lang/IllegalArgumentException") := by
  refine mw_enter RX1 rfl (by decide +kernel) (mw_cat rfl) (Nat.le_of_ble_eq_true rfl) (fun X hX hl hE hT hnm => ?_)
  subst hl
  show mw_G X 0 [some (.ref 0), some (.int p), some (.int o), some (.int a), none] [] mw_Y0 I L 0 0
  refine mw_iload_n hX dX1_order_0 rfl rfl ?_
  rcases Classical.em (okR p 0 2) with h1 | h1
  · refine mw_cS hX [_] ws_X1_32 dX1_order_1 (c_checkPlant (mw_l X) p h1 mw_Y0 I L) rfl (by decide) (by omega) (by omega) (Nat.le_of_ble_eq_true rfl) ?_
    refine mw_iload_n hX dX1_order_4 rfl rfl ?_
    rcases Classical.em (okR o 0 1) with h5 | h5
    · refine mw_cS hX [_] ws_X1_59 dX1_order_5 (c_checkOwner (mw_l X) o h5 mw_Y0 I L) rfl (by decide) (by omega) (by omega) (Nat.le_of_ble_eq_true rfl) ?_
      refine mw_iload_n hX dX1_order_8 rfl rfl ?_
      refine mw_ic hX 0 dX1_order_9 rfl ?_
      refine mw_bp hX 30 dX1_order_10 rfl ?_
      rcases Classical.em (okR a 0 30) with h12 | h12
      · refine mw_cS hX [_, _, _] ws_X1_36 dX1_order_12 (c_checkRange (mw_l X) a 0 30 h12 mw_Y0 I L) rfl (by decide) (by omega) (by omega) (Nat.le_of_ble_eq_true rfl) ?_
        exact absurd ⟨h1, h5, h12⟩ h
      · exact mw_cSX hX hE hT [_, _, _] ws_X1_36 dX1_order_12 (c_checkRangeX (mw_l X) a 0 30 h12 mw_Y0 I L) rfl (by decide) (by omega) (by omega) (Nat.le_of_ble_eq_true rfl) (rfl) (by omega) (by omega)
    · exact mw_cSX hX hE hT [_] ws_X1_59 dX1_order_5 (c_checkOwnerX (mw_l X) o h5 mw_Y0 I L) rfl (by decide) (by omega) (by omega) (Nat.le_of_ble_eq_true rfl) (rfl) (by omega) (by omega)
  · exact mw_cSX hX hE hT [_] ws_X1_32 dX1_order_1 (c_checkPlantX (mw_l X) p h1 mw_Y0 I L) rfl (by decide) (by omega) (by omega) (Nat.le_of_ble_eq_true rfl) (rfl) (by omega) (by omega)
set_option maxRecDepth 20000 in
theorem c_order (l : Launch) (i : Nat) (hi : i < 3) (o : Nat) (ho : o < 2) (a : Int32) (ha : okR a 0 30) (I : mw_I) (L : mw_L) : mw_CT l yX1_order (.code yX1_order cX1_order 5 (some .int)) 4 3 18 [.ref 0, .int (nI i), .int (nI o), .int a] (mw_Y0, I, L) (.inl (some (.int (I ((7 + 11 * i) + 1) o)), mw_Y0, mw_up I ((7 + 11 * i) + 1) o a, L)) := by
  refine mw_enter RX1 rfl (by decide +kernel) (mw_cat rfl) (Nat.le_of_ble_eq_true rfl) (fun X hX hl hE hT hnm => ?_)
  subst hl
  show mw_G X 0 [some (.ref 0), some (.int (nI i)), some (.int (nI o)), some (.int a), none] [] mw_Y0 I L 0 0
  refine mw_iload_n hX dX1_order_0 rfl rfl ?_
  refine mw_cS hX [_] ws_X1_32 dX1_order_1 (c_checkPlant (mw_l X) (nI i) (okR_nI (n := 2) (by decide) hi) mw_Y0 I L) rfl (by decide) (by omega) (by omega) (Nat.le_of_ble_eq_true rfl) ?_
  refine mw_iload_n hX dX1_order_4 rfl rfl ?_
  refine mw_cS hX [_] ws_X1_59 dX1_order_5 (c_checkOwner (mw_l X) (nI o) (okR_nI (n := 1) (by decide) ho) mw_Y0 I L) rfl (by decide) (by omega) (by omega) (Nat.le_of_ble_eq_true rfl) ?_
  refine mw_iload_n hX dX1_order_8 rfl rfl ?_
  refine mw_ic hX 0 dX1_order_9 rfl ?_
  refine mw_bp hX 30 dX1_order_10 rfl ?_
  refine mw_cS hX [_, _, _] ws_X1_36 dX1_order_12 (c_checkRange (mw_l X) a 0 30 ha mw_Y0 I L) rfl (by decide) (by omega) (by omega) (Nat.le_of_ble_eq_true rfl) ?_
  refine mw_aload_n hX dX1_order_15 rfl rfl ?_
  refine mw_getR hX (r := 1) dX1_order_16 (mw_Yl (by decide)) mw_YW fl_X1_11 (by decide) (by decide) rfl rfl ?_
  refine mw_iload_n hX dX1_order_19 rfl rfl ?_
  refine mw_aaloadP hX (j := i) dX1_order_20 (mw_Yl (by decide)) rfl rfl (by omega) (by decide) (mw_Yp (by omega)) ?_
  refine mw_getR hX dX1_order_21 (mw_P0 (i := i) (by omega)).l0 (mw_P0 (i := i) (by omega)).s0 fl_X1_62 (by decide) (by decide) rfl (mw_P0 (i := i) (by omega)).r6 ?_
  refine mw_iload_n hX dX1_order_24 rfl rfl ?_
  refine mw_iaload hX (j := o) dX1_order_25 (mw_P0 (i := i) (by omega)).l1 (mw_P0 (i := i) (by omega)).s1 rfl (by omega) (by decide) ?_
  refine mw_istore hX dX1_order_26 (Nat.le_of_ble_eq_true rfl) ?_
  dsimp only [List.set]
  refine mw_aload_n hX dX1_order_28 rfl rfl ?_
  refine mw_getR hX (r := 1) dX1_order_29 (mw_Yl (by decide)) mw_YW fl_X1_11 (by decide) (by decide) rfl rfl ?_
  refine mw_iload_n hX dX1_order_32 rfl rfl ?_
  refine mw_aaloadP hX (j := i) dX1_order_33 (mw_Yl (by decide)) rfl rfl (by omega) (by decide) (mw_Yp (by omega)) ?_
  refine mw_getR hX dX1_order_34 (mw_P0 (i := i) (by omega)).l0 (mw_P0 (i := i) (by omega)).s0 fl_X1_62 (by decide) (by decide) rfl (mw_P0 (i := i) (by omega)).r6 ?_
  refine mw_iload_n hX dX1_order_37 rfl rfl ?_
  refine mw_iload_n hX dX1_order_38 rfl rfl ?_
  refine mw_iastore hX (j := o) dX1_order_39 (mw_P0 (i := i) (by omega)).l1 (mw_P0 (i := i) (by omega)).s1 rfl (by omega) (by decide) ?_
  refine mw_iload hX dX1_order_40 rfl ?_
  exact mw_ireturn hX hE dX1_order_42 (rfl) (by omega) (by omega)
set_option maxRecDepth 20000 in
theorem c_setYieldX (l : Launch) (p t f a : Int32) (h : ¬ (okR p 0 2 ∧ okR t 0 1 ∧ okR f 1 8 ∧ okR a 0 200)) (I : mw_I) (L : mw_L) : mw_CT l yX1_setYield (.code yX1_setYield cX1_setYield 6 (some .int)) 4 4 24 [.ref 0, .int p, .int t, .int f, .int a] (mw_Y0, I, L) (.inr "java/lang/IllegalArgumentException") := by
  refine mw_enter RX1 rfl (by decide +kernel) (mw_cat rfl) (Nat.le_of_ble_eq_true rfl) (fun X hX hl hE hT hnm => ?_)
  subst hl
  show mw_G X 0 [some (.ref 0), some (.int p), some (.int t), some (.int f), some (.int a), none] [] mw_Y0 I L 0 0
  refine mw_iload_n hX dX1_setYield_0 rfl rfl ?_
  rcases Classical.em (okR p 0 2) with h1 | h1
  · refine mw_cS hX [_] ws_X1_32 dX1_setYield_1 (c_checkPlant (mw_l X) p h1 mw_Y0 I L) rfl (by decide) (by omega) (by omega) (Nat.le_of_ble_eq_true rfl) ?_
    refine mw_iload_n hX dX1_setYield_4 rfl rfl ?_
    refine mw_ic hX 0 dX1_setYield_5 rfl ?_
    refine mw_ic hX 1 dX1_setYield_6 rfl ?_
    rcases Classical.em (okR t 0 1) with h7 | h7
    · refine mw_cS hX [_, _, _] ws_X1_36 dX1_setYield_7 (c_checkRange (mw_l X) t 0 1 h7 mw_Y0 I L) rfl (by decide) (by omega) (by omega) (Nat.le_of_ble_eq_true rfl) ?_
      refine mw_iload_n hX dX1_setYield_10 rfl rfl ?_
      refine mw_ic hX 1 dX1_setYield_11 rfl ?_
      refine mw_bp hX 8 dX1_setYield_12 rfl ?_
      rcases Classical.em (okR f 1 8) with h14 | h14
      · refine mw_cS hX [_, _, _] ws_X1_36 dX1_setYield_14 (c_checkRange (mw_l X) f 1 8 h14 mw_Y0 I L) rfl (by decide) (by omega) (by omega) (Nat.le_of_ble_eq_true rfl) ?_
        refine mw_iload hX dX1_setYield_17 rfl ?_
        refine mw_ic hX 0 dX1_setYield_19 rfl ?_
        refine mw_sp hX 200 dX1_setYield_20 rfl ?_
        rcases Classical.em (okR a 0 200) with h23 | h23
        · refine mw_cS hX [_, _, _] ws_X1_36 dX1_setYield_23 (c_checkRange (mw_l X) a 0 200 h23 mw_Y0 I L) rfl (by decide) (by omega) (by omega) (Nat.le_of_ble_eq_true rfl) ?_
          exact absurd ⟨h1, h7, h14, h23⟩ h
        · exact mw_cSX hX hE hT [_, _, _] ws_X1_36 dX1_setYield_23 (c_checkRangeX (mw_l X) a 0 200 h23 mw_Y0 I L) rfl (by decide) (by omega) (by omega) (Nat.le_of_ble_eq_true rfl) (rfl) (by omega) (by omega)
      · exact mw_cSX hX hE hT [_, _, _] ws_X1_36 dX1_setYield_14 (c_checkRangeX (mw_l X) f 1 8 h14 mw_Y0 I L) rfl (by decide) (by omega) (by omega) (Nat.le_of_ble_eq_true rfl) (rfl) (by omega) (by omega)
    · exact mw_cSX hX hE hT [_, _, _] ws_X1_36 dX1_setYield_7 (c_checkRangeX (mw_l X) t 0 1 h7 mw_Y0 I L) rfl (by decide) (by omega) (by omega) (Nat.le_of_ble_eq_true rfl) (rfl) (by omega) (by omega)
  · exact mw_cSX hX hE hT [_] ws_X1_32 dX1_setYield_1 (c_checkPlantX (mw_l X) p h1 mw_Y0 I L) rfl (by decide) (by omega) (by omega) (Nat.le_of_ble_eq_true rfl) (rfl) (by omega) (by omega)
set_option maxRecDepth 20000 in
theorem c_setYield (l : Launch) (i : Nat) (hi : i < 3) (t : Nat) (ht : t < 2) (f : Nat) (hf0 : 1 ≤ f) (hf : f < 9) (a : Int32) (ha : okR a 0 200) (I : mw_I) (L : mw_L) : mw_CT l yX1_setYield (.code yX1_setYield cX1_setYield 6 (some .int)) 4 4 24 [.ref 0, .int (nI i), .int (nI t), .int (nI f), .int a] (mw_Y0, I, L) (.inl (some (.int (I ((7 + 11 * i) + 8 + t) f)), mw_Y0, mixI (mw_up I ((7 + 11 * i) + 8 + t) f a) (7 + 11 * i), L)) := by
  refine mw_enter RX1 rfl (by decide +kernel) (mw_cat rfl) (Nat.le_of_ble_eq_true rfl) (fun X hX hl hE hT hnm => ?_)
  subst hl
  show mw_G X 0 [some (.ref 0), some (.int (nI i)), some (.int (nI t)), some (.int (nI f)), some (.int a), none] [] mw_Y0 I L 0 0
  refine mw_iload_n hX dX1_setYield_0 rfl rfl ?_
  refine mw_cS hX [_] ws_X1_32 dX1_setYield_1 (c_checkPlant (mw_l X) (nI i) (okR_nI (n := 2) (by decide) hi) mw_Y0 I L) rfl (by decide) (by omega) (by omega) (Nat.le_of_ble_eq_true rfl) ?_
  refine mw_iload_n hX dX1_setYield_4 rfl rfl ?_
  refine mw_ic hX 0 dX1_setYield_5 rfl ?_
  refine mw_ic hX 1 dX1_setYield_6 rfl ?_
  refine mw_cS hX [_, _, _] ws_X1_36 dX1_setYield_7 (c_checkRange (mw_l X) (nI t) 0 1 (okR_nI (n := 1) (by decide) ht) mw_Y0 I L) rfl (by decide) (by omega) (by omega) (Nat.le_of_ble_eq_true rfl) ?_
  refine mw_iload_n hX dX1_setYield_10 rfl rfl ?_
  refine mw_ic hX 1 dX1_setYield_11 rfl ?_
  refine mw_bp hX 8 dX1_setYield_12 rfl ?_
  refine mw_cS hX [_, _, _] ws_X1_36 dX1_setYield_14 (c_checkRange (mw_l X) (nI f) 1 8 ⟨nI_nlt (a := f) (b := 1) hf0 (by omega), nI_le (a := f) (b := 8) (by omega) (by decide)⟩ mw_Y0 I L) rfl (by decide) (by omega) (by omega) (Nat.le_of_ble_eq_true rfl) ?_
  refine mw_iload hX dX1_setYield_17 rfl ?_
  refine mw_ic hX 0 dX1_setYield_19 rfl ?_
  refine mw_sp hX 200 dX1_setYield_20 rfl ?_
  refine mw_cS hX [_, _, _] ws_X1_36 dX1_setYield_23 (c_checkRange (mw_l X) a 0 200 ha mw_Y0 I L) rfl (by decide) (by omega) (by omega) (Nat.le_of_ble_eq_true rfl) ?_
  refine mw_aload_n hX dX1_setYield_26 rfl rfl ?_
  refine mw_getR hX (r := 1) dX1_setYield_27 (mw_Yl (by decide)) mw_YW fl_X1_11 (by decide) (by decide) rfl rfl ?_
  refine mw_iload_n hX dX1_setYield_30 rfl rfl ?_
  refine mw_aaloadP hX (j := i) dX1_setYield_31 (mw_Yl (by decide)) rfl rfl (by omega) (by decide) (mw_Yp (by omega)) ?_
  refine mw_getR hX dX1_setYield_32 (mw_P0 (i := i) (by omega)).l0 (mw_P0 (i := i) (by omega)).s0 fl_X1_65 (by decide) (by decide) rfl (mw_P0 (i := i) (by omega)).r10 ?_
  refine mw_iload_n hX dX1_setYield_35 rfl rfl ?_
  refine mw_aaloadR hX (j := t) dX1_setYield_36 (mw_P0 (i := i) (by omega)).l7 (mw_P0 (i := i) (by omega)).s7 rfl (by omega) (by decide) ((mw_P0 (i := i) (by omega)).yy (by omega)) ?_
  refine mw_iload_n hX dX1_setYield_37 rfl rfl ?_
  refine mw_iaload hX (j := f) dX1_setYield_38 ((mw_P0 (i := i) (by omega)).l8 (o := t) (by omega)) ((mw_P0 (i := i) (by omega)).s8 (o := t) (by omega)) rfl (by omega) (by decide) ?_
  refine mw_istore hX dX1_setYield_39 (Nat.le_of_ble_eq_true rfl) ?_
  dsimp only [List.set]
  refine mw_aload_n hX dX1_setYield_41 rfl rfl ?_
  refine mw_getR hX (r := 1) dX1_setYield_42 (mw_Yl (by decide)) mw_YW fl_X1_11 (by decide) (by decide) rfl rfl ?_
  refine mw_iload_n hX dX1_setYield_45 rfl rfl ?_
  refine mw_aaloadP hX (j := i) dX1_setYield_46 (mw_Yl (by decide)) rfl rfl (by omega) (by decide) (mw_Yp (by omega)) ?_
  refine mw_getR hX dX1_setYield_47 (mw_P0 (i := i) (by omega)).l0 (mw_P0 (i := i) (by omega)).s0 fl_X1_65 (by decide) (by decide) rfl (mw_P0 (i := i) (by omega)).r10 ?_
  refine mw_iload_n hX dX1_setYield_50 rfl rfl ?_
  refine mw_aaloadR hX (j := t) dX1_setYield_51 (mw_P0 (i := i) (by omega)).l7 (mw_P0 (i := i) (by omega)).s7 rfl (by omega) (by decide) ((mw_P0 (i := i) (by omega)).yy (by omega)) ?_
  refine mw_iload_n hX dX1_setYield_52 rfl rfl ?_
  refine mw_iload hX dX1_setYield_53 rfl ?_
  refine mw_iastore hX (j := f) dX1_setYield_55 ((mw_P0 (i := i) (by omega)).l8 (o := t) (by omega)) ((mw_P0 (i := i) (by omega)).s8 (o := t) (by omega)) rfl (by omega) (by decide) ?_
  refine mw_aload_n hX dX1_setYield_56 rfl rfl ?_
  refine mw_getR hX (r := 1) dX1_setYield_57 (mw_Yl (by decide)) mw_YW fl_X1_11 (by decide) (by decide) rfl rfl ?_
  refine mw_iload_n hX dX1_setYield_60 rfl rfl ?_
  refine mw_aaloadP hX (j := i) dX1_setYield_61 (mw_Yl (by decide)) rfl rfl (by omega) (by decide) (mw_Yp (by omega)) ?_
  refine mw_cV hX [] ws_X1_69 dX1_setYield_62 (c_findMixes (mw_l X) mw_Y0 _ (mw_P0 hi) _ L) (mw_P0 (i := i) (by omega)).l0 (mw_P0 (i := i) (by omega)).s0 (by decide) rfl (by decide) (by omega) (by omega) (Nat.le_of_ble_eq_true rfl) ?_
  refine mw_iload hX dX1_setYield_65 rfl ?_
  exact mw_ireturn hX hE dX1_setYield_67 (rfl) (by omega) (by omega)
set_option maxRecDepth 20000 in
theorem c_hour (l : Launch) (I : mw_I) (L : mw_L) : mw_CT l yX1_hour (.code yX1_hour cX1_hour 1 (some .int)) 4 0 0 [.ref 0] (mw_Y0, I, L) (.inl (some (.int (I 0 6)), mw_Y0, I, L)) := by
  refine mw_enter RX1 rfl (by decide +kernel) (mw_cat rfl) (Nat.le_of_ble_eq_true rfl) (fun X hX hl hE hT hnm => ?_)
  subst hl
  show mw_G X 0 [some (.ref 0)] [] mw_Y0 I L 0 0
  refine mw_aload_n hX dX1_hour_0 rfl rfl ?_
  refine mw_getI hX dX1_hour_1 (mw_Yl (by decide)) mw_YW fl_X1_72 (by decide) (by decide) rfl ?_
  exact mw_ireturn hX hE dX1_hour_4 (rfl) (by omega) (by omega)
def lendI (I : mw_I) (b o q : Nat) (a : Int32) : mw_I :=
  let I1 := mw_up I (b + 2) o (I (b + 2) o - a)
  let I2 := mw_up I1 (b + 2) q (I1 (b + 2) q + a)
  let I3 := mw_up I2 4 o (I2 4 o - a)
  mw_up I3 4 q (I3 4 q + a)
set_option maxRecDepth 20000 in
theorem c_lendX (l : Launch) (p o a : Int32) (h : ¬ (okR p 0 2 ∧ okR o 0 1 ∧ okR a 1 100)) (I : mw_I) (L : mw_L) : mw_CT l yX1_lend (.code yX1_lend cX1_lend 6 (some .int)) 4 3 18 [.ref 0, .int p, .int o, .int a] (mw_Y0, I, L) (.inr "java/lang/IllegalArgumentException") := by
  refine mw_enter RX1 rfl (by decide +kernel) (mw_cat rfl) (Nat.le_of_ble_eq_true rfl) (fun X hX hl hE hT hnm => ?_)
  subst hl
  show mw_G X 0 [some (.ref 0), some (.int p), some (.int o), some (.int a), none, none] [] mw_Y0 I L 0 0
  refine mw_iload_n hX dX1_lend_0 rfl rfl ?_
  rcases Classical.em (okR p 0 2) with h1 | h1
  · refine mw_cS hX [_] ws_X1_32 dX1_lend_1 (c_checkPlant (mw_l X) p h1 mw_Y0 I L) rfl (by decide) (by omega) (by omega) (Nat.le_of_ble_eq_true rfl) ?_
    refine mw_iload_n hX dX1_lend_4 rfl rfl ?_
    rcases Classical.em (okR o 0 1) with h5 | h5
    · refine mw_cS hX [_] ws_X1_59 dX1_lend_5 (c_checkOwner (mw_l X) o h5 mw_Y0 I L) rfl (by decide) (by omega) (by omega) (Nat.le_of_ble_eq_true rfl) ?_
      refine mw_iload_n hX dX1_lend_8 rfl rfl ?_
      refine mw_ic hX 1 dX1_lend_9 rfl ?_
      refine mw_bp hX 100 dX1_lend_10 rfl ?_
      rcases Classical.em (okR a 1 100) with h12 | h12
      · refine mw_cS hX [_, _, _] ws_X1_36 dX1_lend_12 (c_checkRange (mw_l X) a 1 100 h12 mw_Y0 I L) rfl (by decide) (by omega) (by omega) (Nat.le_of_ble_eq_true rfl) ?_
        exact absurd ⟨h1, h5, h12⟩ h
      · exact mw_cSX hX hE hT [_, _, _] ws_X1_36 dX1_lend_12 (c_checkRangeX (mw_l X) a 1 100 h12 mw_Y0 I L) rfl (by decide) (by omega) (by omega) (Nat.le_of_ble_eq_true rfl) (rfl) (by omega) (by omega)
    · exact mw_cSX hX hE hT [_] ws_X1_59 dX1_lend_5 (c_checkOwnerX (mw_l X) o h5 mw_Y0 I L) rfl (by decide) (by omega) (by omega) (Nat.le_of_ble_eq_true rfl) (rfl) (by omega) (by omega)
  · exact mw_cSX hX hE hT [_] ws_X1_32 dX1_lend_1 (c_checkPlantX (mw_l X) p h1 mw_Y0 I L) rfl (by decide) (by omega) (by omega) (Nat.le_of_ble_eq_true rfl) (rfl) (by omega) (by omega)
set_option maxRecDepth 20000 in
theorem c_lend (l : Launch) (I : mw_I) (i : Nat) (hi : i < 3) (o : Nat) (ho : o < 2) (a : Int32) (ha : okR a 1 100) (hq : a ≤ I ((7 + 11 * i) + 2) o) (L : mw_L) : mw_CT l yX1_lend (.code yX1_lend cX1_lend 6 (some .int)) 4 3 18 [.ref 0, .int (nI i), .int (nI o), .int a] (mw_Y0, I, L) (.inl (some (.int (lendI I (7 + 11 * i) o (1 - o) a ((7 + 11 * i) + 2) o)), mw_Y0, lendI I (7 + 11 * i) o (1 - o) a, L)) := by
  refine mw_enter RX1 rfl (by decide +kernel) (mw_cat rfl) (Nat.le_of_ble_eq_true rfl) (fun X hX hl hE hT hnm => ?_)
  subst hl
  show mw_G X 0 [some (.ref 0), some (.int (nI i)), some (.int (nI o)), some (.int a), none, none] [] mw_Y0 I L 0 0
  refine mw_iload_n hX dX1_lend_0 rfl rfl ?_
  refine mw_cS hX [_] ws_X1_32 dX1_lend_1 (c_checkPlant (mw_l X) (nI i) (okR_nI (n := 2) (by decide) hi) mw_Y0 I L) rfl (by decide) (by omega) (by omega) (Nat.le_of_ble_eq_true rfl) ?_
  refine mw_iload_n hX dX1_lend_4 rfl rfl ?_
  refine mw_cS hX [_] ws_X1_59 dX1_lend_5 (c_checkOwner (mw_l X) (nI o) (okR_nI (n := 1) (by decide) ho) mw_Y0 I L) rfl (by decide) (by omega) (by omega) (Nat.le_of_ble_eq_true rfl) ?_
  refine mw_iload_n hX dX1_lend_8 rfl rfl ?_
  refine mw_ic hX 1 dX1_lend_9 rfl ?_
  refine mw_bp hX 100 dX1_lend_10 rfl ?_
  refine mw_cS hX [_, _, _] ws_X1_36 dX1_lend_12 (c_checkRange (mw_l X) a 1 100 ha mw_Y0 I L) rfl (by decide) (by omega) (by omega) (Nat.le_of_ble_eq_true rfl) ?_
  refine mw_aload_n hX dX1_lend_15 rfl rfl ?_
  refine mw_getR hX (r := 1) dX1_lend_16 (mw_Yl (by decide)) mw_YW fl_X1_11 (by decide) (by decide) rfl rfl ?_
  refine mw_iload_n hX dX1_lend_19 rfl rfl ?_
  refine mw_aaloadP hX (j := i) dX1_lend_20 (mw_Yl (by decide)) rfl rfl (by omega) (by decide) (mw_Yp (by omega)) ?_
  refine mw_getR hX dX1_lend_21 (mw_P0 (i := i) (by omega)).l0 (mw_P0 (i := i) (by omega)).s0 fl_X1_85 (by decide) (by decide) rfl (mw_P0 (i := i) (by omega)).r7 ?_
  refine mw_astore hX dX1_lend_24 (Nat.le_of_ble_eq_true rfl) ?_
  dsimp only [List.set]
  refine mw_aload hX dX1_lend_26 rfl ?_
  refine mw_iload_n hX dX1_lend_28 rfl rfl ?_
  refine mw_iaload hX (j := o) dX1_lend_29 (mw_P0 (i := i) (by omega)).l2 (mw_P0 (i := i) (by omega)).s2 rfl (by omega) (by decide) ?_
  refine mw_iload_n hX dX1_lend_30 rfl rfl ?_
  refine mw_icmp_ge hX (tgt := 44) dX1_lend_31 (by decide) (fun h31 => ?_) (fun h31 => ?_)
  · refine mw_ic hX 1 dX1_lend_44 rfl ?_
    refine mw_iload_n hX dX1_lend_45 rfl rfl ?_
    refine mw_isub hX dX1_lend_46 ?_
    refine mw_istore hX dX1_lend_47 (Nat.le_of_ble_eq_true rfl) ?_
    dsimp only [List.set]
    refine mw_aload hX dX1_lend_49 rfl ?_
    refine mw_iload_n hX dX1_lend_51 rfl rfl ?_
    refine mw_dup2 hX dX1_lend_52 ?_
    refine mw_iaload hX (j := o) dX1_lend_53 (mw_P0 (i := i) (by omega)).l2 (mw_P0 (i := i) (by omega)).s2 rfl (by omega) (by decide) ?_
    refine mw_iload_n hX dX1_lend_54 rfl rfl ?_
    refine mw_isub hX dX1_lend_55 ?_
    refine mw_iastore hX (j := o) dX1_lend_56 (mw_P0 (i := i) (by omega)).l2 (mw_P0 (i := i) (by omega)).s2 rfl (by omega) (by decide) ?_
    refine mw_aload hX dX1_lend_57 rfl ?_
    refine mw_iload hX dX1_lend_59 rfl ?_
    refine mw_dup2 hX dX1_lend_61 ?_
    refine mw_iaload hX (j := 1 - o) dX1_lend_62 (mw_P0 (i := i) (by omega)).l2 (mw_P0 (i := i) (by omega)).s2 (by rw [mw_n1]; exact pk_sub (by omega)) (by omega) (by decide) ?_
    refine mw_iload_n hX dX1_lend_63 rfl rfl ?_
    refine mw_iadd hX dX1_lend_64 ?_
    refine mw_iastore hX (j := 1 - o) dX1_lend_65 (mw_P0 (i := i) (by omega)).l2 (mw_P0 (i := i) (by omega)).s2 (by rw [mw_n1]; exact pk_sub (by omega)) (by omega) (by decide) ?_
    refine mw_aload_n hX dX1_lend_66 rfl rfl ?_
    refine mw_getR hX (r := 4) dX1_lend_67 (mw_Yl (by decide)) mw_YW fl_X1_22 (by decide) (by decide) rfl rfl ?_
    refine mw_iload_n hX dX1_lend_70 rfl rfl ?_
    refine mw_dup2 hX dX1_lend_71 ?_
    refine mw_iaload hX (j := o) dX1_lend_72 (mw_Yl (by decide)) rfl rfl (by omega) (by decide) ?_
    refine mw_iload_n hX dX1_lend_73 rfl rfl ?_
    refine mw_isub hX dX1_lend_74 ?_
    refine mw_iastore hX (j := o) dX1_lend_75 (mw_Yl (by decide)) rfl rfl (by omega) (by decide) ?_
    refine mw_aload_n hX dX1_lend_76 rfl rfl ?_
    refine mw_getR hX (r := 4) dX1_lend_77 (mw_Yl (by decide)) mw_YW fl_X1_22 (by decide) (by decide) rfl rfl ?_
    refine mw_iload hX dX1_lend_80 rfl ?_
    refine mw_dup2 hX dX1_lend_82 ?_
    refine mw_iaload hX (j := 1 - o) dX1_lend_83 (mw_Yl (by decide)) rfl (by rw [mw_n1]; exact pk_sub (by omega)) (by omega) (by decide) ?_
    refine mw_iload_n hX dX1_lend_84 rfl rfl ?_
    refine mw_iadd hX dX1_lend_85 ?_
    refine mw_iastore hX (j := 1 - o) dX1_lend_86 (mw_Yl (by decide)) rfl (by rw [mw_n1]; exact pk_sub (by omega)) (by omega) (by decide) ?_
    refine mw_aload hX dX1_lend_87 rfl ?_
    refine mw_iload_n hX dX1_lend_89 rfl rfl ?_
    refine mw_iaload hX (j := o) dX1_lend_90 (mw_P0 (i := i) (by omega)).l2 (mw_P0 (i := i) (by omega)).s2 rfl (by omega) (by decide) ?_
    exact mw_ireturn hX hE dX1_lend_91 (rfl) (by omega) (by omega)
  · exact absurd h31 (fun q => q hq)
set_option maxRecDepth 20000 in
theorem c_lendS (l : Launch) (I : mw_I) (i : Nat) (hi : i < 3) (o : Nat) (ho : o < 2) (a : Int32) (ha : okR a 1 100) (hq : ¬ a ≤ I ((7 + 11 * i) + 2) o) (L : mw_L) : mw_CT l yX1_lend (.code yX1_lend cX1_lend 6 (some .int)) 4 4 24 [.ref 0, .int (nI i), .int (nI o), .int a] (mw_Y0, I, L) (.inr "java/lang/IllegalStateException") := by
  refine mw_enter RX1 rfl (by decide +kernel) (mw_cat rfl) (Nat.le_of_ble_eq_true rfl) (fun X hX hl hE hT hnm => ?_)
  subst hl
  show mw_G X 0 [some (.ref 0), some (.int (nI i)), some (.int (nI o)), some (.int a), none, none] [] mw_Y0 I L 0 0
  refine mw_iload_n hX dX1_lend_0 rfl rfl ?_
  refine mw_cS hX [_] ws_X1_32 dX1_lend_1 (c_checkPlant (mw_l X) (nI i) (okR_nI (n := 2) (by decide) hi) mw_Y0 I L) rfl (by decide) (by omega) (by omega) (Nat.le_of_ble_eq_true rfl) ?_
  refine mw_iload_n hX dX1_lend_4 rfl rfl ?_
  refine mw_cS hX [_] ws_X1_59 dX1_lend_5 (c_checkOwner (mw_l X) (nI o) (okR_nI (n := 1) (by decide) ho) mw_Y0 I L) rfl (by decide) (by omega) (by omega) (Nat.le_of_ble_eq_true rfl) ?_
  refine mw_iload_n hX dX1_lend_8 rfl rfl ?_
  refine mw_ic hX 1 dX1_lend_9 rfl ?_
  refine mw_bp hX 100 dX1_lend_10 rfl ?_
  refine mw_cS hX [_, _, _] ws_X1_36 dX1_lend_12 (c_checkRange (mw_l X) a 1 100 ha mw_Y0 I L) rfl (by decide) (by omega) (by omega) (Nat.le_of_ble_eq_true rfl) ?_
  refine mw_aload_n hX dX1_lend_15 rfl rfl ?_
  refine mw_getR hX (r := 1) dX1_lend_16 (mw_Yl (by decide)) mw_YW fl_X1_11 (by decide) (by decide) rfl rfl ?_
  refine mw_iload_n hX dX1_lend_19 rfl rfl ?_
  refine mw_aaloadP hX (j := i) dX1_lend_20 (mw_Yl (by decide)) rfl rfl (by omega) (by decide) (mw_Yp (by omega)) ?_
  refine mw_getR hX dX1_lend_21 (mw_P0 (i := i) (by omega)).l0 (mw_P0 (i := i) (by omega)).s0 fl_X1_85 (by decide) (by decide) rfl (mw_P0 (i := i) (by omega)).r7 ?_
  refine mw_astore hX dX1_lend_24 (Nat.le_of_ble_eq_true rfl) ?_
  dsimp only [List.set]
  refine mw_aload hX dX1_lend_26 rfl ?_
  refine mw_iload_n hX dX1_lend_28 rfl rfl ?_
  refine mw_iaload hX (j := o) dX1_lend_29 (mw_P0 (i := i) (by omega)).l2 (mw_P0 (i := i) (by omega)).s2 rfl (by omega) (by decide) ?_
  refine mw_iload_n hX dX1_lend_30 rfl rfl ?_
  refine mw_icmp_ge hX (tgt := 44) dX1_lend_31 (by decide) (fun h31 => ?_) (fun h31 => ?_)
  · exact absurd h31 hq
  · exact mw_throw hX hE hT th_88 dX1_lend_34 dX1_lend_37 dX1_lend_38 dX1_lend_40 dX1_lend_43 (rfl) (by omega) (by omega) (by omega) (by omega) (Nat.le_of_ble_eq_true rfl)
set_option maxRecDepth 20000 in
theorem c_accountX (l : Launch) (p o : Int32) (h : ¬ (okR p 0 2 ∧ okR o 0 1)) (I : mw_I) (L : mw_L) : mw_CT l yX1_account (.code yX1_account cX1_account 3 (some .int)) 4 2 12 [.ref 0, .int p, .int o] (mw_Y0, I, L) (.inr "java/lang/IllegalArgumentException") := by
  refine mw_enter RX1 rfl (by decide +kernel) (mw_cat rfl) (Nat.le_of_ble_eq_true rfl) (fun X hX hl hE hT hnm => ?_)
  subst hl
  show mw_G X 0 [some (.ref 0), some (.int p), some (.int o)] [] mw_Y0 I L 0 0
  refine mw_iload_n hX dX1_account_0 rfl rfl ?_
  rcases Classical.em (okR p 0 2) with h1 | h1
  · refine mw_cS hX [_] ws_X1_32 dX1_account_1 (c_checkPlant (mw_l X) p h1 mw_Y0 I L) rfl (by decide) (by omega) (by omega) (Nat.le_of_ble_eq_true rfl) ?_
    refine mw_iload_n hX dX1_account_4 rfl rfl ?_
    rcases Classical.em (okR o 0 1) with h5 | h5
    · refine mw_cS hX [_] ws_X1_59 dX1_account_5 (c_checkOwner (mw_l X) o h5 mw_Y0 I L) rfl (by decide) (by omega) (by omega) (Nat.le_of_ble_eq_true rfl) ?_
      exact absurd ⟨h1, h5⟩ h
    · exact mw_cSX hX hE hT [_] ws_X1_59 dX1_account_5 (c_checkOwnerX (mw_l X) o h5 mw_Y0 I L) rfl (by decide) (by omega) (by omega) (Nat.le_of_ble_eq_true rfl) (rfl) (by omega) (by omega)
  · exact mw_cSX hX hE hT [_] ws_X1_32 dX1_account_1 (c_checkPlantX (mw_l X) p h1 mw_Y0 I L) rfl (by decide) (by omega) (by omega) (Nat.le_of_ble_eq_true rfl) (rfl) (by omega) (by omega)
set_option maxRecDepth 20000 in
theorem c_account (l : Launch) (i : Nat) (hi : i < 3) (o : Nat) (ho : o < 2) (I : mw_I) (L : mw_L) : mw_CT l yX1_account (.code yX1_account cX1_account 3 (some .int)) 4 2 12 [.ref 0, .int (nI i), .int (nI o)] (mw_Y0, I, L) (.inl (some (.int (I ((7 + 11 * i) + 2) o)), mw_Y0, I, L)) := by
  refine mw_enter RX1 rfl (by decide +kernel) (mw_cat rfl) (Nat.le_of_ble_eq_true rfl) (fun X hX hl hE hT hnm => ?_)
  subst hl
  show mw_G X 0 [some (.ref 0), some (.int (nI i)), some (.int (nI o))] [] mw_Y0 I L 0 0
  refine mw_iload_n hX dX1_account_0 rfl rfl ?_
  refine mw_cS hX [_] ws_X1_32 dX1_account_1 (c_checkPlant (mw_l X) (nI i) (okR_nI (n := 2) (by decide) hi) mw_Y0 I L) rfl (by decide) (by omega) (by omega) (Nat.le_of_ble_eq_true rfl) ?_
  refine mw_iload_n hX dX1_account_4 rfl rfl ?_
  refine mw_cS hX [_] ws_X1_59 dX1_account_5 (c_checkOwner (mw_l X) (nI o) (okR_nI (n := 1) (by decide) ho) mw_Y0 I L) rfl (by decide) (by omega) (by omega) (Nat.le_of_ble_eq_true rfl) ?_
  refine mw_aload_n hX dX1_account_8 rfl rfl ?_
  refine mw_getR hX (r := 1) dX1_account_9 (mw_Yl (by decide)) mw_YW fl_X1_11 (by decide) (by decide) rfl rfl ?_
  refine mw_iload_n hX dX1_account_12 rfl rfl ?_
  refine mw_aaloadP hX (j := i) dX1_account_13 (mw_Yl (by decide)) rfl rfl (by omega) (by decide) (mw_Yp (by omega)) ?_
  refine mw_getR hX dX1_account_14 (mw_P0 (i := i) (by omega)).l0 (mw_P0 (i := i) (by omega)).s0 fl_X1_85 (by decide) (by decide) rfl (mw_P0 (i := i) (by omega)).r7 ?_
  refine mw_iload_n hX dX1_account_17 rfl rfl ?_
  refine mw_iaload hX (j := o) dX1_account_18 (mw_P0 (i := i) (by omega)).l2 (mw_P0 (i := i) (by omega)).s2 rfl (by omega) (by decide) ?_
  exact mw_ireturn hX hE dX1_account_19 (rfl) (by omega) (by omega)
set_option maxRecDepth 20000 in
theorem c_levelX (l : Launch) (p : Int32) (h : ¬ (okR p 0 2)) (I : mw_I) (L : mw_L) : mw_CT l yX1_level (.code yX1_level cX1_level 2 (some .int)) 4 1 6 [.ref 0, .int p] (mw_Y0, I, L) (.inr "java/lang/IllegalArgumentException") := by
  refine mw_enter RX1 rfl (by decide +kernel) (mw_cat rfl) (Nat.le_of_ble_eq_true rfl) (fun X hX hl hE hT hnm => ?_)
  subst hl
  show mw_G X 0 [some (.ref 0), some (.int p)] [] mw_Y0 I L 0 0
  refine mw_iload_n hX dX1_level_0 rfl rfl ?_
  rcases Classical.em (okR p 0 2) with h1 | h1
  · refine mw_cS hX [_] ws_X1_32 dX1_level_1 (c_checkPlant (mw_l X) p h1 mw_Y0 I L) rfl (by decide) (by omega) (by omega) (Nat.le_of_ble_eq_true rfl) ?_
    exact absurd h1 h
  · exact mw_cSX hX hE hT [_] ws_X1_32 dX1_level_1 (c_checkPlantX (mw_l X) p h1 mw_Y0 I L) rfl (by decide) (by omega) (by omega) (Nat.le_of_ble_eq_true rfl) (rfl) (by omega) (by omega)
set_option maxRecDepth 20000 in
theorem c_level (l : Launch) (i : Nat) (hi : i < 3) (I : mw_I) (L : mw_L) : mw_CT l yX1_level (.code yX1_level cX1_level 2 (some .int)) 4 1 6 [.ref 0, .int (nI i)] (mw_Y0, I, L) (.inl (some (.int (waterV I (7 + 11 * i))), mw_Y0, I, L)) := by
  refine mw_enter RX1 rfl (by decide +kernel) (mw_cat rfl) (Nat.le_of_ble_eq_true rfl) (fun X hX hl hE hT hnm => ?_)
  subst hl
  show mw_G X 0 [some (.ref 0), some (.int (nI i))] [] mw_Y0 I L 0 0
  refine mw_iload_n hX dX1_level_0 rfl rfl ?_
  refine mw_cS hX [_] ws_X1_32 dX1_level_1 (c_checkPlant (mw_l X) (nI i) (okR_nI (n := 2) (by decide) hi) mw_Y0 I L) rfl (by decide) (by omega) (by omega) (Nat.le_of_ble_eq_true rfl) ?_
  refine mw_aload_n hX dX1_level_4 rfl rfl ?_
  refine mw_getR hX (r := 1) dX1_level_5 (mw_Yl (by decide)) mw_YW fl_X1_11 (by decide) (by decide) rfl rfl ?_
  refine mw_iload_n hX dX1_level_8 rfl rfl ?_
  refine mw_aaloadP hX (j := i) dX1_level_9 (mw_Yl (by decide)) rfl rfl (by omega) (by decide) (mw_Yp (by omega)) ?_
  refine mw_cV hX [] ws_X1_90 dX1_level_10 (c_waterInPond (mw_l X) mw_Y0 _ (mw_P0 hi) I L) (mw_P0 (i := i) (by omega)).l0 (mw_P0 (i := i) (by omega)).s0 (by decide) rfl (by decide) (by omega) (by omega) (Nat.le_of_ble_eq_true rfl) ?_
  exact mw_ireturn hX hE dX1_level_13 (rfl) (by omega) (by omega)
set_option maxRecDepth 20000 in
theorem c_travellingX (l : Launch) (p o : Int32) (h : ¬ (okR p 1 2 ∧ okR o 0 1)) (I : mw_I) (L : mw_L) : mw_CT l yX1_travelling (.code yX1_travelling cX1_travelling 3 (some .int)) 4 2 12 [.ref 0, .int p, .int o] (mw_Y0, I, L) (.inr "java/lang/IllegalArgumentException") := by
  refine mw_enter RX1 rfl (by decide +kernel) (mw_cat rfl) (Nat.le_of_ble_eq_true rfl) (fun X hX hl hE hT hnm => ?_)
  subst hl
  show mw_G X 0 [some (.ref 0), some (.int p), some (.int o)] [] mw_Y0 I L 0 0
  refine mw_iload_n hX dX1_travelling_0 rfl rfl ?_
  rcases Classical.em (okR p 1 2) with h1 | h1
  · refine mw_cS hX [_] ws_X1_94 dX1_travelling_1 (c_checkLowerPlant (mw_l X) p h1 mw_Y0 I L) rfl (by decide) (by omega) (by omega) (Nat.le_of_ble_eq_true rfl) ?_
    refine mw_iload_n hX dX1_travelling_4 rfl rfl ?_
    rcases Classical.em (okR o 0 1) with h5 | h5
    · refine mw_cS hX [_] ws_X1_59 dX1_travelling_5 (c_checkOwner (mw_l X) o h5 mw_Y0 I L) rfl (by decide) (by omega) (by omega) (Nat.le_of_ble_eq_true rfl) ?_
      exact absurd ⟨h1, h5⟩ h
    · exact mw_cSX hX hE hT [_] ws_X1_59 dX1_travelling_5 (c_checkOwnerX (mw_l X) o h5 mw_Y0 I L) rfl (by decide) (by omega) (by omega) (Nat.le_of_ble_eq_true rfl) (rfl) (by omega) (by omega)
  · exact mw_cSX hX hE hT [_] ws_X1_94 dX1_travelling_1 (c_checkLowerPlantX (mw_l X) p h1 mw_Y0 I L) rfl (by decide) (by omega) (by omega) (Nat.le_of_ble_eq_true rfl) (rfl) (by omega) (by omega)
set_option maxRecDepth 20000 in
theorem c_travelling (l : Launch) (i : Nat) (h0 : 1 ≤ i) (hi : i < 3) (o : Nat) (ho : o < 2) (I : mw_I) (L : mw_L) : mw_CT l yX1_travelling (.code yX1_travelling cX1_travelling 3 (some .int)) 4 2 12 [.ref 0, .int (nI i), .int (nI o)] (mw_Y0, I, L) (.inl (some (.int (sumV I (7 + 11 * i) o)), mw_Y0, I, L)) := by
  refine mw_enter RX1 rfl (by decide +kernel) (mw_cat rfl) (Nat.le_of_ble_eq_true rfl) (fun X hX hl hE hT hnm => ?_)
  subst hl
  show mw_G X 0 [some (.ref 0), some (.int (nI i)), some (.int (nI o))] [] mw_Y0 I L 0 0
  refine mw_iload_n hX dX1_travelling_0 rfl rfl ?_
  refine mw_cS hX [_] ws_X1_94 dX1_travelling_1 (c_checkLowerPlant (mw_l X) (nI i) (okR_low h0 hi) mw_Y0 I L) rfl (by decide) (by omega) (by omega) (Nat.le_of_ble_eq_true rfl) ?_
  refine mw_iload_n hX dX1_travelling_4 rfl rfl ?_
  refine mw_cS hX [_] ws_X1_59 dX1_travelling_5 (c_checkOwner (mw_l X) (nI o) (okR_nI (n := 1) (by decide) ho) mw_Y0 I L) rfl (by decide) (by omega) (by omega) (Nat.le_of_ble_eq_true rfl) ?_
  refine mw_aload_n hX dX1_travelling_8 rfl rfl ?_
  refine mw_getR hX (r := 1) dX1_travelling_9 (mw_Yl (by decide)) mw_YW fl_X1_11 (by decide) (by decide) rfl rfl ?_
  refine mw_iload_n hX dX1_travelling_12 rfl rfl ?_
  refine mw_aaloadP hX (j := i) dX1_travelling_13 (mw_Yl (by decide)) rfl rfl (by omega) (by decide) (mw_Yp (by omega)) ?_
  refine mw_iload_n hX dX1_travelling_14 rfl rfl ?_
  refine mw_cV hX [_] ws_X1_97 dX1_travelling_15 (c_allUnderWay (mw_l X) mw_Y0 _ (mw_P0 hi) o ho I L) (mw_P0 (i := i) (by omega)).l0 (mw_P0 (i := i) (by omega)).s0 (by decide) rfl (by decide) (by omega) (by omega) (Nat.le_of_ble_eq_true rfl) ?_
  exact mw_ireturn hX hE dX1_travelling_18 (rfl) (by omega) (by omega)
def arriveV (I : mw_I) (b o t h : Nat) : Int32 := if t < h ∨ h + 5 < t then 0 else I (b + 5 + o) (t % 6)
set_option maxRecDepth 20000 in
theorem c_arrivingX (l : Launch) (p o t : Int32) (h : ¬ (okR p 1 2 ∧ okR o 0 1 ∧ okR t 0 300)) (I : mw_I) (L : mw_L) : mw_CT l yX1_arriving (.code yX1_arriving cX1_arriving 4 (some .int)) 4 3 18 [.ref 0, .int p, .int o, .int t] (mw_Y0, I, L) (.inr "java/lang/IllegalArgumentException") := by
  refine mw_enter RX1 rfl (by decide +kernel) (mw_cat rfl) (Nat.le_of_ble_eq_true rfl) (fun X hX hl hE hT hnm => ?_)
  subst hl
  show mw_G X 0 [some (.ref 0), some (.int p), some (.int o), some (.int t)] [] mw_Y0 I L 0 0
  refine mw_iload_n hX dX1_arriving_0 rfl rfl ?_
  rcases Classical.em (okR p 1 2) with h1 | h1
  · refine mw_cS hX [_] ws_X1_94 dX1_arriving_1 (c_checkLowerPlant (mw_l X) p h1 mw_Y0 I L) rfl (by decide) (by omega) (by omega) (Nat.le_of_ble_eq_true rfl) ?_
    refine mw_iload_n hX dX1_arriving_4 rfl rfl ?_
    rcases Classical.em (okR o 0 1) with h5 | h5
    · refine mw_cS hX [_] ws_X1_59 dX1_arriving_5 (c_checkOwner (mw_l X) o h5 mw_Y0 I L) rfl (by decide) (by omega) (by omega) (Nat.le_of_ble_eq_true rfl) ?_
      refine mw_iload_n hX dX1_arriving_8 rfl rfl ?_
      refine mw_ic hX 0 dX1_arriving_9 rfl ?_
      refine mw_sp hX 300 dX1_arriving_10 rfl ?_
      rcases Classical.em (okR t 0 300) with h13 | h13
      · refine mw_cS hX [_, _, _] ws_X1_36 dX1_arriving_13 (c_checkRange (mw_l X) t 0 300 h13 mw_Y0 I L) rfl (by decide) (by omega) (by omega) (Nat.le_of_ble_eq_true rfl) ?_
        exact absurd ⟨h1, h5, h13⟩ h
      · exact mw_cSX hX hE hT [_, _, _] ws_X1_36 dX1_arriving_13 (c_checkRangeX (mw_l X) t 0 300 h13 mw_Y0 I L) rfl (by decide) (by omega) (by omega) (Nat.le_of_ble_eq_true rfl) (rfl) (by omega) (by omega)
    · exact mw_cSX hX hE hT [_] ws_X1_59 dX1_arriving_5 (c_checkOwnerX (mw_l X) o h5 mw_Y0 I L) rfl (by decide) (by omega) (by omega) (Nat.le_of_ble_eq_true rfl) (rfl) (by omega) (by omega)
  · exact mw_cSX hX hE hT [_] ws_X1_94 dX1_arriving_1 (c_checkLowerPlantX (mw_l X) p h1 mw_Y0 I L) rfl (by decide) (by omega) (by omega) (Nat.le_of_ble_eq_true rfl) (rfl) (by omega) (by omega)
set_option maxRecDepth 20000 in
theorem c_arriving (l : Launch) (I : mw_I) (i : Nat) (h0 : 1 ≤ i) (hi : i < 3) (o : Nat) (ho : o < 2) (t : Nat) (ht : t < 301) (h : Nat) (hh : h < 201) (hH : I 0 6 = nI h) (L : mw_L) : mw_CT l yX1_arriving (.code yX1_arriving cX1_arriving 4 (some .int)) 4 3 18 [.ref 0, .int (nI i), .int (nI o), .int (nI t)] (mw_Y0, I, L) (.inl (some (.int (arriveV I (7 + 11 * i) o t h)), mw_Y0, I, L)) := by
  refine mw_enter RX1 rfl (by decide +kernel) (mw_cat rfl) (Nat.le_of_ble_eq_true rfl) (fun X hX hl hE hT hnm => ?_)
  subst hl
  show mw_G X 0 [some (.ref 0), some (.int (nI i)), some (.int (nI o)), some (.int (nI t))] [] mw_Y0 I L 0 0
  refine mw_iload_n hX dX1_arriving_0 rfl rfl ?_
  refine mw_cS hX [_] ws_X1_94 dX1_arriving_1 (c_checkLowerPlant (mw_l X) (nI i) (okR_low h0 hi) mw_Y0 I L) rfl (by decide) (by omega) (by omega) (Nat.le_of_ble_eq_true rfl) ?_
  refine mw_iload_n hX dX1_arriving_4 rfl rfl ?_
  refine mw_cS hX [_] ws_X1_59 dX1_arriving_5 (c_checkOwner (mw_l X) (nI o) (okR_nI (n := 1) (by decide) ho) mw_Y0 I L) rfl (by decide) (by omega) (by omega) (Nat.le_of_ble_eq_true rfl) ?_
  refine mw_iload_n hX dX1_arriving_8 rfl rfl ?_
  refine mw_ic hX 0 dX1_arriving_9 rfl ?_
  refine mw_sp hX 300 dX1_arriving_10 rfl ?_
  refine mw_cS hX [_, _, _] ws_X1_36 dX1_arriving_13 (c_checkRange (mw_l X) (nI t) 0 300 (okR_nI (n := 300) (by decide) ht) mw_Y0 I L) rfl (by decide) (by omega) (by omega) (Nat.le_of_ble_eq_true rfl) ?_
  refine mw_iload_n hX dX1_arriving_16 rfl rfl ?_
  refine mw_aload_n hX dX1_arriving_17 rfl rfl ?_
  refine mw_getI hX dX1_arriving_18 (mw_Yl (by decide)) mw_YW fl_X1_72 (by decide) (by decide) rfl ?_
  refine mw_icmp_lt hX (tgt := 34) dX1_arriving_21 (by decide) (fun h21 => ?_) (fun h21 => ?_)
  · rw [hH] at h21
    have q21 := (nI_ltI (by omega) (by omega)).mp h21
    refine mw_ic hX 0 dX1_arriving_34 rfl ?_
    exact mw_ireturn hX hE dX1_arriving_35 (by rw [arriveV, if_pos (Or.inl q21)]) (by omega) (by omega)
  · rw [hH] at h21
    have q21 := fun q => h21 ((nI_ltI (by omega) (by omega)).mpr q)
    refine mw_iload_n hX dX1_arriving_24 rfl rfl ?_
    refine mw_aload_n hX dX1_arriving_25 rfl rfl ?_
    refine mw_getI hX dX1_arriving_26 (mw_Yl (by decide)) mw_YW fl_X1_72 (by decide) (by decide) rfl ?_
    refine mw_ic hX 5 dX1_arriving_29 rfl ?_
    refine mw_iadd hX dX1_arriving_30 ?_
    refine mw_icmp_le hX (tgt := 36) dX1_arriving_31 (by decide) (fun h31 => ?_) (fun h31 => ?_)
    · rw [hH, mw_n5, nI_add] at h31
      have q31 := (nI_leI (by omega) (by omega)).mp h31
      refine mw_aload_n hX dX1_arriving_36 rfl rfl ?_
      refine mw_getR hX (r := 1) dX1_arriving_37 (mw_Yl (by decide)) mw_YW fl_X1_11 (by decide) (by decide) rfl rfl ?_
      refine mw_iload_n hX dX1_arriving_40 rfl rfl ?_
      refine mw_aaloadP hX (j := i) dX1_arriving_41 (mw_Yl (by decide)) rfl rfl (by omega) (by decide) (mw_Yp (by omega)) ?_
      refine mw_getR hX dX1_arriving_42 (mw_P0 (i := i) (by omega)).l0 (mw_P0 (i := i) (by omega)).s0 fl_X1_101 (by decide) (by decide) rfl (mw_P0 (i := i) (by omega)).r9 ?_
      refine mw_iload_n hX dX1_arriving_45 rfl rfl ?_
      refine mw_aaloadR hX (j := o) dX1_arriving_46 (mw_P0 (i := i) (by omega)).l4 (mw_P0 (i := i) (by omega)).s4 rfl (by omega) (by decide) ((mw_P0 (i := i) (by omega)).u (by omega)) ?_
      refine mw_iload_n hX dX1_arriving_47 rfl rfl ?_
      refine mw_cS hX [_] ws_X1_104 dX1_arriving_48 (c_slotOf (mw_l X) t (by omega) mw_Y0 I L) rfl (by decide) (by omega) (by omega) (Nat.le_of_ble_eq_true rfl) ?_
      refine mw_iaload hX (j := t % 6) dX1_arriving_51 ((mw_P0 (i := i) (by omega)).l5 (o := o) (by omega)) ((mw_P0 (i := i) (by omega)).s5 (o := o) (by omega)) rfl (by omega) (by decide) ?_
      exact mw_ireturn hX hE dX1_arriving_52 (by rw [arriveV, if_neg (fun q => q.elim q21 (fun q => by omega))]) (by omega) (by omega)
    · rw [hH, mw_n5, nI_add] at h31
      have q31 : ¬ t ≤ h + 5 := fun q => h31 ((nI_leI (by omega) (by omega)).mpr q)
      refine mw_ic hX 0 dX1_arriving_34 rfl ?_
      exact mw_ireturn hX hE dX1_arriving_35 (by rw [arriveV, if_pos (Or.inr (by omega))]) (by omega) (by omega)
set_option maxRecDepth 20000 in
theorem c_cameInX (l : Launch) (o : Int32) (h : ¬ (okR o 0 1)) (I : mw_I) (L : mw_L) : mw_CT l yX1_cameIn (.code yX1_cameIn cX1_cameIn 2 (some .int)) 4 1 6 [.ref 0, .int o] (mw_Y0, I, L) (.inr "java/lang/IllegalArgumentException") := by
  refine mw_enter RX1 rfl (by decide +kernel) (mw_cat rfl) (Nat.le_of_ble_eq_true rfl) (fun X hX hl hE hT hnm => ?_)
  subst hl
  show mw_G X 0 [some (.ref 0), some (.int o)] [] mw_Y0 I L 0 0
  refine mw_iload_n hX dX1_cameIn_0 rfl rfl ?_
  rcases Classical.em (okR o 0 1) with h1 | h1
  · refine mw_cS hX [_] ws_X1_59 dX1_cameIn_1 (c_checkOwner (mw_l X) o h1 mw_Y0 I L) rfl (by decide) (by omega) (by omega) (Nat.le_of_ble_eq_true rfl) ?_
    exact absurd h1 h
  · exact mw_cSX hX hE hT [_] ws_X1_59 dX1_cameIn_1 (c_checkOwnerX (mw_l X) o h1 mw_Y0 I L) rfl (by decide) (by omega) (by omega) (Nat.le_of_ble_eq_true rfl) (rfl) (by omega) (by omega)
set_option maxRecDepth 20000 in
theorem c_cameIn (l : Launch) (o : Nat) (ho : o < 2) (I : mw_I) (L : mw_L) : mw_CT l yX1_cameIn (.code yX1_cameIn cX1_cameIn 2 (some .int)) 4 1 6 [.ref 0, .int (nI o)] (mw_Y0, I, L) (.inl (some (.int (I 2 o)), mw_Y0, I, L)) := by
  refine mw_enter RX1 rfl (by decide +kernel) (mw_cat rfl) (Nat.le_of_ble_eq_true rfl) (fun X hX hl hE hT hnm => ?_)
  subst hl
  show mw_G X 0 [some (.ref 0), some (.int (nI o))] [] mw_Y0 I L 0 0
  refine mw_iload_n hX dX1_cameIn_0 rfl rfl ?_
  refine mw_cS hX [_] ws_X1_59 dX1_cameIn_1 (c_checkOwner (mw_l X) (nI o) (okR_nI (n := 1) (by decide) ho) mw_Y0 I L) rfl (by decide) (by omega) (by omega) (Nat.le_of_ble_eq_true rfl) ?_
  refine mw_aload_n hX dX1_cameIn_4 rfl rfl ?_
  refine mw_getR hX (r := 2) dX1_cameIn_5 (mw_Yl (by decide)) mw_YW fl_X1_15 (by decide) (by decide) rfl rfl ?_
  refine mw_iload_n hX dX1_cameIn_8 rfl rfl ?_
  refine mw_iaload hX (j := o) dX1_cameIn_9 (mw_Yl (by decide)) rfl rfl (by omega) (by decide) ?_
  exact mw_ireturn hX hE dX1_cameIn_10 (rfl) (by omega) (by omega)
set_option maxRecDepth 20000 in
theorem c_goneX (l : Launch) (o : Int32) (h : ¬ (okR o 0 1)) (I : mw_I) (L : mw_L) : mw_CT l yX1_gone (.code yX1_gone cX1_gone 2 (some .int)) 4 1 6 [.ref 0, .int o] (mw_Y0, I, L) (.inr "java/lang/IllegalArgumentException") := by
  refine mw_enter RX1 rfl (by decide +kernel) (mw_cat rfl) (Nat.le_of_ble_eq_true rfl) (fun X hX hl hE hT hnm => ?_)
  subst hl
  show mw_G X 0 [some (.ref 0), some (.int o)] [] mw_Y0 I L 0 0
  refine mw_iload_n hX dX1_gone_0 rfl rfl ?_
  rcases Classical.em (okR o 0 1) with h1 | h1
  · refine mw_cS hX [_] ws_X1_59 dX1_gone_1 (c_checkOwner (mw_l X) o h1 mw_Y0 I L) rfl (by decide) (by omega) (by omega) (Nat.le_of_ble_eq_true rfl) ?_
    exact absurd h1 h
  · exact mw_cSX hX hE hT [_] ws_X1_59 dX1_gone_1 (c_checkOwnerX (mw_l X) o h1 mw_Y0 I L) rfl (by decide) (by omega) (by omega) (Nat.le_of_ble_eq_true rfl) (rfl) (by omega) (by omega)
set_option maxRecDepth 20000 in
theorem c_gone (l : Launch) (o : Nat) (ho : o < 2) (I : mw_I) (L : mw_L) : mw_CT l yX1_gone (.code yX1_gone cX1_gone 2 (some .int)) 4 1 6 [.ref 0, .int (nI o)] (mw_Y0, I, L) (.inl (some (.int (I 3 o)), mw_Y0, I, L)) := by
  refine mw_enter RX1 rfl (by decide +kernel) (mw_cat rfl) (Nat.le_of_ble_eq_true rfl) (fun X hX hl hE hT hnm => ?_)
  subst hl
  show mw_G X 0 [some (.ref 0), some (.int (nI o))] [] mw_Y0 I L 0 0
  refine mw_iload_n hX dX1_gone_0 rfl rfl ?_
  refine mw_cS hX [_] ws_X1_59 dX1_gone_1 (c_checkOwner (mw_l X) (nI o) (okR_nI (n := 1) (by decide) ho) mw_Y0 I L) rfl (by decide) (by omega) (by omega) (Nat.le_of_ble_eq_true rfl) ?_
  refine mw_aload_n hX dX1_gone_4 rfl rfl ?_
  refine mw_getR hX (r := 3) dX1_gone_5 (mw_Yl (by decide)) mw_YW fl_X1_19 (by decide) (by decide) rfl rfl ?_
  refine mw_iload_n hX dX1_gone_8 rfl rfl ?_
  refine mw_iaload hX (j := o) dX1_gone_9 (mw_Yl (by decide)) rfl rfl (by omega) (by decide) ?_
  exact mw_ireturn hX hE dX1_gone_10 (rfl) (by omega) (by omega)
set_option maxRecDepth 20000 in
theorem c_balanceX (l : Launch) (o : Int32) (h : ¬ (okR o 0 1)) (I : mw_I) (L : mw_L) : mw_CT l yX1_balance (.code yX1_balance cX1_balance 2 (some .int)) 4 1 6 [.ref 0, .int o] (mw_Y0, I, L) (.inr "java/lang/IllegalArgumentException") := by
  refine mw_enter RX1 rfl (by decide +kernel) (mw_cat rfl) (Nat.le_of_ble_eq_true rfl) (fun X hX hl hE hT hnm => ?_)
  subst hl
  show mw_G X 0 [some (.ref 0), some (.int o)] [] mw_Y0 I L 0 0
  refine mw_iload_n hX dX1_balance_0 rfl rfl ?_
  rcases Classical.em (okR o 0 1) with h1 | h1
  · refine mw_cS hX [_] ws_X1_59 dX1_balance_1 (c_checkOwner (mw_l X) o h1 mw_Y0 I L) rfl (by decide) (by omega) (by omega) (Nat.le_of_ble_eq_true rfl) ?_
    exact absurd h1 h
  · exact mw_cSX hX hE hT [_] ws_X1_59 dX1_balance_1 (c_checkOwnerX (mw_l X) o h1 mw_Y0 I L) rfl (by decide) (by omega) (by omega) (Nat.le_of_ble_eq_true rfl) (rfl) (by omega) (by omega)
set_option maxRecDepth 20000 in
theorem c_balance (l : Launch) (o : Nat) (ho : o < 2) (I : mw_I) (L : mw_L) : mw_CT l yX1_balance (.code yX1_balance cX1_balance 2 (some .int)) 4 1 6 [.ref 0, .int (nI o)] (mw_Y0, I, L) (.inl (some (.int (I 2 o - I 3 o + I 4 o)), mw_Y0, I, L)) := by
  refine mw_enter RX1 rfl (by decide +kernel) (mw_cat rfl) (Nat.le_of_ble_eq_true rfl) (fun X hX hl hE hT hnm => ?_)
  subst hl
  show mw_G X 0 [some (.ref 0), some (.int (nI o))] [] mw_Y0 I L 0 0
  refine mw_iload_n hX dX1_balance_0 rfl rfl ?_
  refine mw_cS hX [_] ws_X1_59 dX1_balance_1 (c_checkOwner (mw_l X) (nI o) (okR_nI (n := 1) (by decide) ho) mw_Y0 I L) rfl (by decide) (by omega) (by omega) (Nat.le_of_ble_eq_true rfl) ?_
  refine mw_aload_n hX dX1_balance_4 rfl rfl ?_
  refine mw_getR hX (r := 2) dX1_balance_5 (mw_Yl (by decide)) mw_YW fl_X1_15 (by decide) (by decide) rfl rfl ?_
  refine mw_iload_n hX dX1_balance_8 rfl rfl ?_
  refine mw_iaload hX (j := o) dX1_balance_9 (mw_Yl (by decide)) rfl rfl (by omega) (by decide) ?_
  refine mw_aload_n hX dX1_balance_10 rfl rfl ?_
  refine mw_getR hX (r := 3) dX1_balance_11 (mw_Yl (by decide)) mw_YW fl_X1_19 (by decide) (by decide) rfl rfl ?_
  refine mw_iload_n hX dX1_balance_14 rfl rfl ?_
  refine mw_iaload hX (j := o) dX1_balance_15 (mw_Yl (by decide)) rfl rfl (by omega) (by decide) ?_
  refine mw_isub hX dX1_balance_16 ?_
  refine mw_aload_n hX dX1_balance_17 rfl rfl ?_
  refine mw_getR hX (r := 4) dX1_balance_18 (mw_Yl (by decide)) mw_YW fl_X1_22 (by decide) (by decide) rfl rfl ?_
  refine mw_iload_n hX dX1_balance_21 rfl rfl ?_
  refine mw_iaload hX (j := o) dX1_balance_22 (mw_Yl (by decide)) rfl rfl (by omega) (by decide) ?_
  refine mw_iadd hX dX1_balance_23 ?_
  exact mw_ireturn hX hE dX1_balance_24 (rfl) (by omega) (by omega)
set_option maxRecDepth 20000 in
theorem c_spilledX (l : Launch) (p : Int32) (h : ¬ (okR p 0 2)) (I : mw_I) (L : mw_L) : mw_CT l yX1_spilled (.code yX1_spilled cX1_spilled 2 (some .int)) 4 1 6 [.ref 0, .int p] (mw_Y0, I, L) (.inr "java/lang/IllegalArgumentException") := by
  refine mw_enter RX1 rfl (by decide +kernel) (mw_cat rfl) (Nat.le_of_ble_eq_true rfl) (fun X hX hl hE hT hnm => ?_)
  subst hl
  show mw_G X 0 [some (.ref 0), some (.int p)] [] mw_Y0 I L 0 0
  refine mw_iload_n hX dX1_spilled_0 rfl rfl ?_
  rcases Classical.em (okR p 0 2) with h1 | h1
  · refine mw_cS hX [_] ws_X1_32 dX1_spilled_1 (c_checkPlant (mw_l X) p h1 mw_Y0 I L) rfl (by decide) (by omega) (by omega) (Nat.le_of_ble_eq_true rfl) ?_
    exact absurd h1 h
  · exact mw_cSX hX hE hT [_] ws_X1_32 dX1_spilled_1 (c_checkPlantX (mw_l X) p h1 mw_Y0 I L) rfl (by decide) (by omega) (by omega) (Nat.le_of_ble_eq_true rfl) (rfl) (by omega) (by omega)
set_option maxRecDepth 20000 in
theorem c_spilled (l : Launch) (i : Nat) (hi : i < 3) (I : mw_I) (L : mw_L) : mw_CT l yX1_spilled (.code yX1_spilled cX1_spilled 2 (some .int)) 4 1 6 [.ref 0, .int (nI i)] (mw_Y0, I, L) (.inl (some (.int (I (7 + 11 * i) 12)), mw_Y0, I, L)) := by
  refine mw_enter RX1 rfl (by decide +kernel) (mw_cat rfl) (Nat.le_of_ble_eq_true rfl) (fun X hX hl hE hT hnm => ?_)
  subst hl
  show mw_G X 0 [some (.ref 0), some (.int (nI i))] [] mw_Y0 I L 0 0
  refine mw_iload_n hX dX1_spilled_0 rfl rfl ?_
  refine mw_cS hX [_] ws_X1_32 dX1_spilled_1 (c_checkPlant (mw_l X) (nI i) (okR_nI (n := 2) (by decide) hi) mw_Y0 I L) rfl (by decide) (by omega) (by omega) (Nat.le_of_ble_eq_true rfl) ?_
  refine mw_aload_n hX dX1_spilled_4 rfl rfl ?_
  refine mw_getR hX (r := 1) dX1_spilled_5 (mw_Yl (by decide)) mw_YW fl_X1_11 (by decide) (by decide) rfl rfl ?_
  refine mw_iload_n hX dX1_spilled_8 rfl rfl ?_
  refine mw_aaloadP hX (j := i) dX1_spilled_9 (mw_Yl (by decide)) rfl rfl (by omega) (by decide) (mw_Yp (by omega)) ?_
  refine mw_getI hX dX1_spilled_10 (mw_P0 (i := i) (by omega)).l0 (mw_P0 (i := i) (by omega)).s0 fl_X1_107 (by decide) (by decide) rfl ?_
  exact mw_ireturn hX hE dX1_spilled_13 (rfl) (by omega) (by omega)
set_option maxRecDepth 20000 in
theorem c_missedX (l : Launch) (p : Int32) (h : ¬ (okR p 0 2)) (I : mw_I) (L : mw_L) : mw_CT l yX1_missed (.code yX1_missed cX1_missed 2 (some .int)) 4 1 6 [.ref 0, .int p] (mw_Y0, I, L) (.inr "java/lang/IllegalArgumentException") := by
  refine mw_enter RX1 rfl (by decide +kernel) (mw_cat rfl) (Nat.le_of_ble_eq_true rfl) (fun X hX hl hE hT hnm => ?_)
  subst hl
  show mw_G X 0 [some (.ref 0), some (.int p)] [] mw_Y0 I L 0 0
  refine mw_iload_n hX dX1_missed_0 rfl rfl ?_
  rcases Classical.em (okR p 0 2) with h1 | h1
  · refine mw_cS hX [_] ws_X1_32 dX1_missed_1 (c_checkPlant (mw_l X) p h1 mw_Y0 I L) rfl (by decide) (by omega) (by omega) (Nat.le_of_ble_eq_true rfl) ?_
    exact absurd h1 h
  · exact mw_cSX hX hE hT [_] ws_X1_32 dX1_missed_1 (c_checkPlantX (mw_l X) p h1 mw_Y0 I L) rfl (by decide) (by omega) (by omega) (Nat.le_of_ble_eq_true rfl) (rfl) (by omega) (by omega)
set_option maxRecDepth 20000 in
theorem c_missed (l : Launch) (i : Nat) (hi : i < 3) (I : mw_I) (L : mw_L) : mw_CT l yX1_missed (.code yX1_missed cX1_missed 2 (some .int)) 4 1 6 [.ref 0, .int (nI i)] (mw_Y0, I, L) (.inl (some (.int (I (7 + 11 * i) 13)), mw_Y0, I, L)) := by
  refine mw_enter RX1 rfl (by decide +kernel) (mw_cat rfl) (Nat.le_of_ble_eq_true rfl) (fun X hX hl hE hT hnm => ?_)
  subst hl
  show mw_G X 0 [some (.ref 0), some (.int (nI i))] [] mw_Y0 I L 0 0
  refine mw_iload_n hX dX1_missed_0 rfl rfl ?_
  refine mw_cS hX [_] ws_X1_32 dX1_missed_1 (c_checkPlant (mw_l X) (nI i) (okR_nI (n := 2) (by decide) hi) mw_Y0 I L) rfl (by decide) (by omega) (by omega) (Nat.le_of_ble_eq_true rfl) ?_
  refine mw_aload_n hX dX1_missed_4 rfl rfl ?_
  refine mw_getR hX (r := 1) dX1_missed_5 (mw_Yl (by decide)) mw_YW fl_X1_11 (by decide) (by decide) rfl rfl ?_
  refine mw_iload_n hX dX1_missed_8 rfl rfl ?_
  refine mw_aaloadP hX (j := i) dX1_missed_9 (mw_Yl (by decide)) rfl rfl (by omega) (by decide) (mw_Yp (by omega)) ?_
  refine mw_getI hX dX1_missed_10 (mw_P0 (i := i) (by omega)).l0 (mw_P0 (i := i) (by omega)).s0 fl_X1_110 (by decide) (by decide) rfl ?_
  exact mw_ireturn hX hE dX1_missed_13 (rfl) (by omega) (by omega)
set_option maxRecDepth 20000 in
theorem c_flowX (l : Launch) (p : Int32) (h : ¬ (okR p 0 2)) (I : mw_I) (L : mw_L) : mw_CT l yX1_flow (.code yX1_flow cX1_flow 2 (some .int)) 4 1 6 [.ref 0, .int p] (mw_Y0, I, L) (.inr "java/lang/IllegalArgumentException") := by
  refine mw_enter RX1 rfl (by decide +kernel) (mw_cat rfl) (Nat.le_of_ble_eq_true rfl) (fun X hX hl hE hT hnm => ?_)
  subst hl
  show mw_G X 0 [some (.ref 0), some (.int p)] [] mw_Y0 I L 0 0
  refine mw_iload_n hX dX1_flow_0 rfl rfl ?_
  rcases Classical.em (okR p 0 2) with h1 | h1
  · refine mw_cS hX [_] ws_X1_32 dX1_flow_1 (c_checkPlant (mw_l X) p h1 mw_Y0 I L) rfl (by decide) (by omega) (by omega) (Nat.le_of_ble_eq_true rfl) ?_
    exact absurd h1 h
  · exact mw_cSX hX hE hT [_] ws_X1_32 dX1_flow_1 (c_checkPlantX (mw_l X) p h1 mw_Y0 I L) rfl (by decide) (by omega) (by omega) (Nat.le_of_ble_eq_true rfl) (rfl) (by omega) (by omega)
set_option maxRecDepth 20000 in
theorem c_flow (l : Launch) (i : Nat) (hi : i < 3) (I : mw_I) (L : mw_L) : mw_CT l yX1_flow (.code yX1_flow cX1_flow 2 (some .int)) 4 1 6 [.ref 0, .int (nI i)] (mw_Y0, I, L) (.inl (some (.int (I (7 + 11 * i) 14)), mw_Y0, I, L)) := by
  refine mw_enter RX1 rfl (by decide +kernel) (mw_cat rfl) (Nat.le_of_ble_eq_true rfl) (fun X hX hl hE hT hnm => ?_)
  subst hl
  show mw_G X 0 [some (.ref 0), some (.int (nI i))] [] mw_Y0 I L 0 0
  refine mw_iload_n hX dX1_flow_0 rfl rfl ?_
  refine mw_cS hX [_] ws_X1_32 dX1_flow_1 (c_checkPlant (mw_l X) (nI i) (okR_nI (n := 2) (by decide) hi) mw_Y0 I L) rfl (by decide) (by omega) (by omega) (Nat.le_of_ble_eq_true rfl) ?_
  refine mw_aload_n hX dX1_flow_4 rfl rfl ?_
  refine mw_getR hX (r := 1) dX1_flow_5 (mw_Yl (by decide)) mw_YW fl_X1_11 (by decide) (by decide) rfl rfl ?_
  refine mw_iload_n hX dX1_flow_8 rfl rfl ?_
  refine mw_aaloadP hX (j := i) dX1_flow_9 (mw_Yl (by decide)) rfl rfl (by omega) (by decide) (mw_Yp (by omega)) ?_
  refine mw_getI hX dX1_flow_10 (mw_P0 (i := i) (by omega)).l0 (mw_P0 (i := i) (by omega)).s0 fl_X1_113 (by decide) (by decide) rfl ?_
  exact mw_ireturn hX hE dX1_flow_13 (rfl) (by omega) (by omega)
set_option maxRecDepth 20000 in
theorem c_energyX (l : Launch) (p : Int32) (h : ¬ (okR p 0 2)) (I : mw_I) (L : mw_L) : mw_CT l yX1_energy (.code yX1_energy cX1_energy 2 (some .int)) 4 1 6 [.ref 0, .int p] (mw_Y0, I, L) (.inr "java/lang/IllegalArgumentException") := by
  refine mw_enter RX1 rfl (by decide +kernel) (mw_cat rfl) (Nat.le_of_ble_eq_true rfl) (fun X hX hl hE hT hnm => ?_)
  subst hl
  show mw_G X 0 [some (.ref 0), some (.int p)] [] mw_Y0 I L 0 0
  refine mw_iload_n hX dX1_energy_0 rfl rfl ?_
  rcases Classical.em (okR p 0 2) with h1 | h1
  · refine mw_cS hX [_] ws_X1_32 dX1_energy_1 (c_checkPlant (mw_l X) p h1 mw_Y0 I L) rfl (by decide) (by omega) (by omega) (Nat.le_of_ble_eq_true rfl) ?_
    exact absurd h1 h
  · exact mw_cSX hX hE hT [_] ws_X1_32 dX1_energy_1 (c_checkPlantX (mw_l X) p h1 mw_Y0 I L) rfl (by decide) (by omega) (by omega) (Nat.le_of_ble_eq_true rfl) (rfl) (by omega) (by omega)
set_option maxRecDepth 20000 in
theorem c_energy (l : Launch) (i : Nat) (hi : i < 3) (I : mw_I) (L : mw_L) : mw_CT l yX1_energy (.code yX1_energy cX1_energy 2 (some .int)) 4 1 6 [.ref 0, .int (nI i)] (mw_Y0, I, L) (.inl (some (.int (I (7 + 11 * i) 15)), mw_Y0, I, L)) := by
  refine mw_enter RX1 rfl (by decide +kernel) (mw_cat rfl) (Nat.le_of_ble_eq_true rfl) (fun X hX hl hE hT hnm => ?_)
  subst hl
  show mw_G X 0 [some (.ref 0), some (.int (nI i))] [] mw_Y0 I L 0 0
  refine mw_iload_n hX dX1_energy_0 rfl rfl ?_
  refine mw_cS hX [_] ws_X1_32 dX1_energy_1 (c_checkPlant (mw_l X) (nI i) (okR_nI (n := 2) (by decide) hi) mw_Y0 I L) rfl (by decide) (by omega) (by omega) (Nat.le_of_ble_eq_true rfl) ?_
  refine mw_aload_n hX dX1_energy_4 rfl rfl ?_
  refine mw_getR hX (r := 1) dX1_energy_5 (mw_Yl (by decide)) mw_YW fl_X1_11 (by decide) (by decide) rfl rfl ?_
  refine mw_iload_n hX dX1_energy_8 rfl rfl ?_
  refine mw_aaloadP hX (j := i) dX1_energy_9 (mw_Yl (by decide)) rfl rfl (by omega) (by decide) (mw_Yp (by omega)) ?_
  refine mw_getI hX dX1_energy_10 (mw_P0 (i := i) (by omega)).l0 (mw_P0 (i := i) (by omega)).s0 fl_X1_116 (by decide) (by decide) rfl ?_
  exact mw_ireturn hX hE dX1_energy_13 (rfl) (by omega) (by omega)
set_option maxRecDepth 20000 in
theorem c_mixX (l : Launch) (p f : Int32) (h : ¬ (okR p 0 2 ∧ okR f 0 16)) (I : mw_I) (L : mw_L) : mw_CT l yX1_mix (.code yX1_mix cX1_mix 3 (some .int)) 4 2 12 [.ref 0, .int p, .int f] (mw_Y0, I, L) (.inr "java/lang/IllegalArgumentException") := by
  refine mw_enter RX1 rfl (by decide +kernel) (mw_cat rfl) (Nat.le_of_ble_eq_true rfl) (fun X hX hl hE hT hnm => ?_)
  subst hl
  show mw_G X 0 [some (.ref 0), some (.int p), some (.int f)] [] mw_Y0 I L 0 0
  refine mw_iload_n hX dX1_mix_0 rfl rfl ?_
  rcases Classical.em (okR p 0 2) with h1 | h1
  · refine mw_cS hX [_] ws_X1_32 dX1_mix_1 (c_checkPlant (mw_l X) p h1 mw_Y0 I L) rfl (by decide) (by omega) (by omega) (Nat.le_of_ble_eq_true rfl) ?_
    refine mw_iload_n hX dX1_mix_4 rfl rfl ?_
    refine mw_ic hX 0 dX1_mix_5 rfl ?_
    refine mw_bp hX 16 dX1_mix_6 rfl ?_
    rcases Classical.em (okR f 0 16) with h8 | h8
    · refine mw_cS hX [_, _, _] ws_X1_36 dX1_mix_8 (c_checkRange (mw_l X) f 0 16 h8 mw_Y0 I L) rfl (by decide) (by omega) (by omega) (Nat.le_of_ble_eq_true rfl) ?_
      exact absurd ⟨h1, h8⟩ h
    · exact mw_cSX hX hE hT [_, _, _] ws_X1_36 dX1_mix_8 (c_checkRangeX (mw_l X) f 0 16 h8 mw_Y0 I L) rfl (by decide) (by omega) (by omega) (Nat.le_of_ble_eq_true rfl) (rfl) (by omega) (by omega)
  · exact mw_cSX hX hE hT [_] ws_X1_32 dX1_mix_1 (c_checkPlantX (mw_l X) p h1 mw_Y0 I L) rfl (by decide) (by omega) (by omega) (Nat.le_of_ble_eq_true rfl) (rfl) (by omega) (by omega)
set_option maxRecDepth 20000 in
theorem c_mix (l : Launch) (i : Nat) (hi : i < 3) (f : Int32) (hf : okR f 0 16) (I : mw_I) (L : mw_L) : mw_CT l yX1_mix (.code yX1_mix cX1_mix 3 (some .int)) 4 2 12 [.ref 0, .int (nI i), .int f] (mw_Y0, I, L) (.inl (some (.int (mixForV I (7 + 11 * i) f)), mw_Y0, I, L)) := by
  refine mw_enter RX1 rfl (by decide +kernel) (mw_cat rfl) (Nat.le_of_ble_eq_true rfl) (fun X hX hl hE hT hnm => ?_)
  subst hl
  show mw_G X 0 [some (.ref 0), some (.int (nI i)), some (.int f)] [] mw_Y0 I L 0 0
  refine mw_iload_n hX dX1_mix_0 rfl rfl ?_
  refine mw_cS hX [_] ws_X1_32 dX1_mix_1 (c_checkPlant (mw_l X) (nI i) (okR_nI (n := 2) (by decide) hi) mw_Y0 I L) rfl (by decide) (by omega) (by omega) (Nat.le_of_ble_eq_true rfl) ?_
  refine mw_iload_n hX dX1_mix_4 rfl rfl ?_
  refine mw_ic hX 0 dX1_mix_5 rfl ?_
  refine mw_bp hX 16 dX1_mix_6 rfl ?_
  refine mw_cS hX [_, _, _] ws_X1_36 dX1_mix_8 (c_checkRange (mw_l X) f 0 16 hf mw_Y0 I L) rfl (by decide) (by omega) (by omega) (Nat.le_of_ble_eq_true rfl) ?_
  refine mw_aload_n hX dX1_mix_11 rfl rfl ?_
  refine mw_getR hX (r := 1) dX1_mix_12 (mw_Yl (by decide)) mw_YW fl_X1_11 (by decide) (by decide) rfl rfl ?_
  refine mw_iload_n hX dX1_mix_15 rfl rfl ?_
  refine mw_aaloadP hX (j := i) dX1_mix_16 (mw_Yl (by decide)) rfl rfl (by omega) (by decide) (mw_Yp (by omega)) ?_
  refine mw_iload_n hX dX1_mix_17 rfl rfl ?_
  refine mw_cV hX [_] ws_X1_119 dX1_mix_18 (c_mixFor (mw_l X) mw_Y0 _ (mw_P0 hi) f I L) (mw_P0 (i := i) (by omega)).l0 (mw_P0 (i := i) (by omega)).s0 (by decide) rfl (by decide) (by omega) (by omega) (Nat.le_of_ble_eq_true rfl) ?_
  exact mw_ireturn hX hE dX1_mix_21 (rfl) (by omega) (by omega)
end
section
/-! WaterCascade: hours (by program: wip/whole/gen19.py) -/
theorem mw_up_nj {I : mw_I} {k j i : Nat} {x : Int32} (h : i ≠ j) : mw_up I k j x k i = I k i := by unfold mw_up upd; rw [if_pos rfl, if_neg h]
theorem mw_up_at {I : mw_I} {k j : Nat} {x : Int32} : mw_up I k j x k j = x := by unfold mw_up upd; rw [if_pos rfl, if_pos rfl]
theorem mw_up_ap (I : mw_I) (k j : Nat) (x : Int32) (a i : Nat) : mw_up I k j x a i = if a = k ∧ i = j then x else I a i := by
  unfold mw_up upd
  by_cases h1 : a = k
  · subst h1
    by_cases h2 : i = j
    · subst h2; simp
    · simp [h2]
  · simp [h1]
theorem lpN_inv {α : Type} {f : Nat → α → α} {P : α → Prop} {x : α} : ∀ n : Nat, (∀ k, k < n → ∀ z, P z → P (f k z)) → P x → P (lpN f n x)
  | 0, _, h => h
  | n + 1, hs, h => hs n (Nat.lt_succ_self n) _ (lpN_inv n (fun k hk => hs k (Nat.lt_succ_of_lt hk)) h)
theorem fr_cut {I : mw_I} {b a : Nat} {t : Int32} (h : a ≠ b + 3) : cutI I b t a = I a := by
  unfold cutI cutF
  split <;> simp only [mw_up_ne h]
theorem fr_partA {I : mw_I} {b a : Nat} (h : a ≠ b + 3) : partA I b a = I a := by
  unfold partA
  simp only [mw_up_ne h]
theorem fr_partB {I : mw_I} {b a : Nat} (h : a ≠ b + 3) : partB I b a = I a := by
  unfold partB
  split
  · rfl
  · rw [mw_up_ne h]
theorem fr_partC {I : mw_I} {b a : Nat} {v : Int32} (h : a ≠ b + 3) : partC I b v a = I a := by
  unfold partC
  split
  · rfl
  · exact fr_cut h
theorem fr_parts {I : mw_I} {b a : Nat} {v : Int32} (h : a ≠ b + 3) : partsI I b v a = I a := by
  unfold partsI
  rw [fr_partC h, fr_partB h, fr_partA h]
theorem fr_goA {I : mw_I} {b a : Nat} (h : a ≠ b) : goA I b a = I a := by
  unfold goA
  split
  · rfl
  · rw [mw_up_ne h]
theorem fr_goAj {I : mw_I} {b j : Nat} (h : j ≠ 13) : goA I b b j = I b j := by
  unfold goA
  split
  · rfl
  · rw [mw_up_nj h]
theorem fr_go {I : mw_I} {b a : Nat} (h : a ≠ b) (h2 : a ≠ b + 2) (h3 : a ≠ b + 3) : letGoI I b a = I a := by
  unfold letGoI goC goB
  simp only [mw_up_ne h2, mw_up_ne h]
  rw [fr_goA h, fr_parts h3]
theorem fr_goj {I : mw_I} {b j : Nat} (h : j < 13) : letGoI I b b j = I b j := by
  unfold letGoI goC goB
  simp only [mw_up_ne (show b ≠ b + 2 by omega), mw_up_nj (show j ≠ 14 by omega), mw_up_nj (show j ≠ 15 by omega)]
  rw [fr_goAj (by omega), fr_parts (by omega)]
theorem fr_spill {I : mw_I} {b a : Nat} (h : a ≠ b) (h2 : a ≠ b + 2) (h3 : a ≠ b + 3) : spillI I b a = I a := by
  unfold spillI
  dsimp only
  split
  · rfl
  · rw [mw_up_ne h, mw_up_ne h3, mw_up_ne h2]
theorem fr_spillj {I : mw_I} {b j : Nat} (h : j ≠ 12) : spillI I b b j = I b j := by
  unfold spillI
  dsimp only
  split
  · rfl
  · rw [mw_up_nj h, mw_up_ne (by omega), mw_up_ne (by omega)]
def recvI (I : mw_I) (b h o : Nat) : mw_I :=
  let q := inflowV I b o
  let J := mw_up (mw_up I (b + 5 + o) (h % 6) 0) (b + 2) o (I (b + 2) o + (I (b + 5 + o) (h % 6) + q))
  mw_up J 2 o (J 2 o + q)
def sendI (I : mw_I) (i h t o : Nat) : mw_I := if i + 1 < 3 then mw_up I (7 + 11 * (i + 1) + 5 + o) ((h + t) % 6) (I (7 + 11 * (i + 1) + 5 + o) ((h + t) % 6) + I (7 + 11 * i + 3) o) else mw_up I 3 o (I 3 o + I (7 + 11 * i + 3) o)
def runPlantI (I : mw_I) (i h t : Nat) : mw_I := lpN (fun o J => sendI J i h t o) 2 (spillI (letGoI (lpN (fun o J => recvI J (7 + 11 * i) h o) 2 I) (7 + 11 * i)) (7 + 11 * i))
def hourI (tt : Nat → Nat) (h : Nat) (I : mw_I) : mw_I := mw_up (lpN (fun i J => runPlantI J i h (tt i)) 3 I) 0 6 (lpN (fun i J => runPlantI J i h (tt i)) 3 I 0 6 + 1)
def runI (tt : Nat → Nat) (h q : Nat) (I : mw_I) : mw_I := lpN (fun k J => hourI tt (h + k) J) q I
theorem fr_recv {I : mw_I} {b h o a : Nat} (h1 : a ≠ b + 5 + o) (h2 : a ≠ b + 2) (h3 : a ≠ 2) : recvI I b h o a = I a := by
  unfold recvI
  rw [mw_up_ne h3, mw_up_ne h2, mw_up_ne h1]
theorem fr_send {I : mw_I} {i h t o a : Nat} (h1 : a ≠ 7 + 11 * (i + 1) + 5 + o) (h2 : a ≠ 3) : sendI I i h t o a = I a := by
  unfold sendI
  split
  · rw [mw_up_ne h1]
  · rw [mw_up_ne h2]
theorem fr_recvs {I : mw_I} {b h a n : Nat} (hn : n ≤ 2) (h1 : a < b + 5 ∨ b + 7 ≤ a) (h2 : a ≠ b + 2) (h3 : a ≠ 2) : lpN (fun o J => recvI J b h o) n I a = I a :=
  lpN_inv (P := fun (J : mw_I) => J a = I a) n (fun k hk z hz => (fr_recv (by omega) h2 h3).trans hz) rfl
theorem fr_sends {I : mw_I} {i h t a n : Nat} (hn : n ≤ 2) (h1 : a < 7 + 11 * (i + 1) + 5 ∨ 7 + 11 * (i + 1) + 7 ≤ a) (h2 : a ≠ 3) : lpN (fun o J => sendI J i h t o) n I a = I a :=
  lpN_inv (P := fun (J : mw_I) => J a = I a) n (fun k hk z hz => (fr_send (by omega) h2).trans hz) rfl
theorem fr_mid {I : mw_I} {i h t a n : Nat} (hn : n ≤ 2) (h1 : a < 7 + 11 * (i + 1) + 5 ∨ 7 + 11 * (i + 1) + 7 ≤ a) (h2 : a ≠ 3) (h3 : a < 7 + 11 * i ∨ 7 + 11 * i + 7 ≤ a) (h4 : a ≠ 2) : lpN (fun o J => sendI J i h t o) n (spillI (letGoI (lpN (fun o J => recvI J (7 + 11 * i) h o) 2 I) (7 + 11 * i)) (7 + 11 * i)) a = I a := by
  rw [fr_sends hn h1 h2, fr_spill (by omega) (by omega) (by omega), fr_go (by omega) (by omega) (by omega), fr_recvs (by omega) (by omega) (by omega) h4]
theorem fr_midj {I : mw_I} {i h t j n : Nat} (hn : n ≤ 2) (hj : j < 12) : lpN (fun o J => sendI J i h t o) n (spillI (letGoI (lpN (fun o J => recvI J (7 + 11 * i) h o) 2 I) (7 + 11 * i)) (7 + 11 * i)) (7 + 11 * i) j = I (7 + 11 * i) j := by
  rw [fr_sends hn (by omega) (by omega), fr_spillj (by omega), fr_goj (by omega), fr_recvs (by omega) (by omega) (by omega) (by omega)]
theorem run_h {I : mw_I} {i h t : Nat} : runPlantI I i h t 0 = I 0 := fr_mid (by omega) (by omega) (by omega) (by omega) (by omega)
theorem run_t {I : mw_I} {i h t i2 j : Nat} (hj : j < 12) : runPlantI I i h t (7 + 11 * i2) j = I (7 + 11 * i2) j := by
  by_cases e : i2 = i
  · subst e
    exact fr_midj (by omega) hj
  · exact congrFun (fr_mid (by omega) (by omega) (by omega) (by omega) (by omega)) j
theorem runs_h {I : mw_I} {tt : Nat → Nat} {h n : Nat} : lpN (fun i J => runPlantI J i h (tt i)) n I 0 = I 0 := lpN_inv (P := fun (J : mw_I) => J 0 = I 0) n (fun _ _ _ hz => run_h.trans hz) rfl
theorem runs_t {I : mw_I} {tt : Nat → Nat} {h n i2 j : Nat} (hj : j < 12) : lpN (fun i J => runPlantI J i h (tt i)) n I (7 + 11 * i2) j = I (7 + 11 * i2) j := lpN_inv (P := fun (J : mw_I) => J (7 + 11 * i2) j = I (7 + 11 * i2) j) n (fun _ _ _ hz => (run_t hj).trans hz) rfl
theorem hours_t {I : mw_I} {tt : Nat → Nat} {h n i2 j : Nat} (hj : j < 12) : lpN (fun k J => hourI tt (h + k) J) n I (7 + 11 * i2) j = I (7 + 11 * i2) j := lpN_inv (P := fun (J : mw_I) => J (7 + 11 * i2) j = I (7 + 11 * i2) j) n (fun _ _ z hz => by
  show mw_up _ 0 6 _ (7 + 11 * i2) j = _
  rw [mw_up_ne (by omega), runs_t hj]
  exact hz) rfl
theorem hours_h {I : mw_I} {tt : Nat → Nat} {h : Nat} (hH : I 0 6 = nI h) : ∀ n : Nat, lpN (fun k J => hourI tt (h + k) J) n I 0 6 = nI (h + n)
  | 0 => hH
  | n + 1 => by
    rw [lpN_succ, hourI, mw_up_at, runs_h, hours_h hH n, nI_1]
    rfl
set_option maxRecDepth 20000 in
theorem c_sendOn (l : Launch) (i : Nat) (hi : i < 3) (o : Nat) (ho : o < 2) (h : Nat) (hh : h < 200) (t : Nat) (ht : t < 6) (I : mw_I) (hH : I 0 6 = nI h) (hT2 : I (7 + 11 * i) 2 = nI t) (L : mw_L) : mw_CT l yX1_sendOn (.code yX1_sendOn cX1_sendOn 5 none) 4 0 0 [.ref 0, .int (nI i), .int (nI o)] (mw_Y0, I, L) (.inl (none, mw_Y0, sendI I i h t o, L)) := by
  refine mw_enter RX1 rfl (by decide +kernel) (mw_cat rfl) (Nat.le_of_ble_eq_true rfl) (fun X hX hl hE hT hnm => ?_)
  subst hl
  show mw_G X 0 [some (.ref 0), some (.int (nI i)), some (.int (nI o)), none, none] [] mw_Y0 I L 0 0
  refine mw_aload_n hX dX1_sendOn_0 rfl rfl ?_
  refine mw_getR hX (r := 1) dX1_sendOn_1 (mw_Yl (by decide)) mw_YW fl_X1_11 (by decide) (by decide) rfl rfl ?_
  refine mw_iload_n hX dX1_sendOn_4 rfl rfl ?_
  refine mw_aaloadP hX (j := i) dX1_sendOn_5 (mw_Yl (by decide)) rfl rfl (by omega) (by decide) (mw_Yp (by omega)) ?_
  refine mw_getR hX dX1_sendOn_6 (mw_P0 (i := i) (by omega)).l0 (mw_P0 (i := i) (by omega)).s0 fl_X1_162 (by decide) (by decide) rfl (mw_P0 (i := i) (by omega)).r8 ?_
  refine mw_iload_n hX dX1_sendOn_9 rfl rfl ?_
  refine mw_iaload hX (j := o) dX1_sendOn_10 (mw_P0 (i := i) (by omega)).l3 (mw_P0 (i := i) (by omega)).s3 rfl (by omega) (by decide) ?_
  refine mw_istore_n hX dX1_sendOn_11 rfl (Nat.le_of_ble_eq_true rfl) ?_
  dsimp only [List.set]
  refine mw_iload_n hX dX1_sendOn_12 rfl rfl ?_
  refine mw_ic hX 1 dX1_sendOn_13 rfl ?_
  refine mw_iadd hX dX1_sendOn_14 ?_
  refine mw_istore hX dX1_sendOn_15 (Nat.le_of_ble_eq_true rfl) ?_
  dsimp only [List.set]
  refine mw_iload hX dX1_sendOn_17 rfl ?_
  refine mw_ic hX 3 dX1_sendOn_19 rfl ?_
  refine mw_icmp_ge hX (tgt := 60) dX1_sendOn_20 (by decide) (fun h20 => ?_) (fun h20 => ?_)
  · rw [nI_1, mw_n3] at h20
    have hi1 : ¬ i + 1 < 3 := fun q => absurd h20 (nI_ge q (by decide))
    refine mw_aload_n hX dX1_sendOn_60 rfl rfl ?_
    refine mw_getR hX (r := 3) dX1_sendOn_61 (mw_Yl (by decide)) mw_YW fl_X1_19 (by decide) (by decide) rfl rfl ?_
    refine mw_iload_n hX dX1_sendOn_64 rfl rfl ?_
    refine mw_dup2 hX dX1_sendOn_65 ?_
    refine mw_iaload hX (j := o) dX1_sendOn_66 (mw_Yl (by decide)) rfl rfl (by omega) (by decide) ?_
    refine mw_iload_n hX dX1_sendOn_67 rfl rfl ?_
    refine mw_iadd hX dX1_sendOn_68 ?_
    refine mw_iastore hX (j := o) dX1_sendOn_69 (mw_Yl (by decide)) rfl rfl (by omega) (by decide) ?_
    exact mw_return hX hE dX1_sendOn_70 (by rw [sendI, if_neg hi1]) (by omega) (by omega)
  · rw [nI_1, mw_n3] at h20
    have hi1 : i + 1 < 3 := Nat.lt_of_not_le (fun q => h20 (nI_le q (by omega)))
    refine mw_aload_n hX dX1_sendOn_23 rfl rfl ?_
    refine mw_getR hX (r := 1) dX1_sendOn_24 (mw_Yl (by decide)) mw_YW fl_X1_11 (by decide) (by decide) rfl rfl ?_
    refine mw_iload hX dX1_sendOn_27 rfl ?_
    refine mw_aaloadP hX (j := i + 1) dX1_sendOn_29 (mw_Yl (by decide)) rfl (by simp only [mw_n0, mw_n1, mw_n2, mw_n3, mw_n4, mw_n5, mw_n6, mw_n8, mw_n9, mw_n18, mw_n210, mw_n260, pk_mul, nI_add]) (by omega) (by decide) (mw_Yp (by omega)) ?_
    refine mw_getR hX dX1_sendOn_30 (mw_P0 (i := i + 1) (by omega)).l0 (mw_P0 (i := i + 1) (by omega)).s0 fl_X1_101 (by decide) (by decide) rfl (mw_P0 (i := i + 1) (by omega)).r9 ?_
    refine mw_iload_n hX dX1_sendOn_33 rfl rfl ?_
    refine mw_aaloadR hX (j := o) dX1_sendOn_34 (mw_P0 (i := i + 1) (by omega)).l4 (mw_P0 (i := i + 1) (by omega)).s4 rfl (by omega) (by decide) ((mw_P0 (i := i + 1) (by omega)).u (by omega)) ?_
    refine mw_aload_n hX dX1_sendOn_35 rfl rfl ?_
    refine mw_getI hX dX1_sendOn_36 (mw_Yl (by decide)) mw_YW fl_X1_72 (by decide) (by decide) rfl ?_
    rw [hH]
    refine mw_aload_n hX dX1_sendOn_39 rfl rfl ?_
    refine mw_getR hX (r := 1) dX1_sendOn_40 (mw_Yl (by decide)) mw_YW fl_X1_11 (by decide) (by decide) rfl rfl ?_
    refine mw_iload_n hX dX1_sendOn_43 rfl rfl ?_
    refine mw_aaloadP hX (j := i) dX1_sendOn_44 (mw_Yl (by decide)) rfl rfl (by omega) (by decide) (mw_Yp (by omega)) ?_
    refine mw_getI hX dX1_sendOn_45 (mw_P0 (i := i) (by omega)).l0 (mw_P0 (i := i) (by omega)).s0 fl_X1_47 (by decide) (by decide) rfl ?_
    rw [hT2]
    refine mw_iadd hX dX1_sendOn_48 ?_
    rw [nI_add]
    refine mw_cS hX [_] ws_X1_104 dX1_sendOn_49 (c_slotOf (mw_l X) (h + t) (by omega) mw_Y0 _ L) rfl (by decide) (by omega) (by omega) (Nat.le_of_ble_eq_true rfl) ?_
    refine mw_dup2 hX dX1_sendOn_52 ?_
    refine mw_iaload hX (j := (h + t) % 6) dX1_sendOn_53 ((mw_P0 (i := i + 1) (by omega)).l5 (o := o) (by omega)) ((mw_P0 (i := i + 1) (by omega)).s5 (o := o) (by omega)) rfl (by omega) (by decide) ?_
    refine mw_iload_n hX dX1_sendOn_54 rfl rfl ?_
    refine mw_iadd hX dX1_sendOn_55 ?_
    refine mw_iastore hX (j := (h + t) % 6) dX1_sendOn_56 ((mw_P0 (i := i + 1) (by omega)).l5 (o := o) (by omega)) ((mw_P0 (i := i + 1) (by omega)).s5 (o := o) (by omega)) rfl (by omega) (by decide) ?_
    refine mw_goto hX (tgt := 70) dX1_sendOn_57 (by decide) ?_
    exact mw_return hX hE dX1_sendOn_70 (by rw [sendI, if_pos hi1]) (by omega) (by omega)
set_option maxRecDepth 20000 in
theorem c_runPlant (l : Launch) (i : Nat) (hi : i < 3) (h : Nat) (hh : h < 200) (t : Nat) (ht : t < 6) (I : mw_I) (hH : I 0 6 = nI h) (hT2 : I (7 + 11 * i) 2 = nI t) (L : mw_L) : mw_CT l yX1_runPlant (.code yX1_runPlant cX1_runPlant 5 none) 5 0 0 [.ref 0, .int (nI i)] (mw_Y0, I, L) (.inl (none, mw_Y0, runPlantI I i h t, L)) := by
  refine mw_enter RX1 rfl (by decide +kernel) (mw_cat rfl) (Nat.le_of_ble_eq_true rfl) (fun X hX hl hE hT hnm => ?_)
  subst hl
  show mw_G X 0 [some (.ref 0), some (.int (nI i)), none, none, none] [] mw_Y0 I L 0 0
  refine mw_aload_n hX dX1_runPlant_0 rfl rfl ?_
  refine mw_getR hX (r := 1) dX1_runPlant_1 (mw_Yl (by decide)) mw_YW fl_X1_11 (by decide) (by decide) rfl rfl ?_
  refine mw_iload_n hX dX1_runPlant_4 rfl rfl ?_
  refine mw_aaloadP hX (j := i) dX1_runPlant_5 (mw_Yl (by decide)) rfl rfl (by omega) (by decide) (mw_Yp (by omega)) ?_
  refine mw_astore_n hX dX1_runPlant_6 rfl (Nat.le_of_ble_eq_true rfl) ?_
  dsimp only [List.set]
  refine mw_ic hX 0 dX1_runPlant_7 rfl ?_
  refine mw_istore_n hX dX1_runPlant_8 rfl (Nat.le_of_ble_eq_true rfl) ?_
  dsimp only [List.set]
  refine mw_drop 4 ?_
  dsimp only [List.set]
  refine lp_dn (P := fun o => mw_G X 9 [some (.ref 0), some (.int (nI i)), some (.ref (7 + 11 * i)), some (.int (nI (o))), none] [] mw_Y0 (lpN (fun o J => recvI J (7 + 11 * i) h o) o I) (L) 0 0) 0 2 ?_ ?_ 0 (Nat.le_refl _) (by omega)
  · show mw_G X 9 [some (.ref 0), some (.int (nI i)), some (.ref (7 + 11 * i)), some (.int (nI (2))), none] [] mw_Y0 (lpN (fun o J => recvI J (7 + 11 * i) h o) 2 I) (L) 0 0
    refine mw_iload_n hX dX1_runPlant_9 rfl rfl ?_
    refine mw_ic hX 2 dX1_runPlant_10 rfl ?_
    refine mw_icmp_ge hX (tgt := 62) dX1_runPlant_11 (by decide) (fun h11 => ?_) (fun h11 => ?_)
    · refine mw_aload_n hX dX1_runPlant_62 rfl rfl ?_
      refine mw_cV hX [] ws_X1_152 dX1_runPlant_63 (c_letGo (mw_l X) mw_Y0 _ (mw_P0 hi) _ L) (mw_P0 hi).l0 (mw_P0 hi).s0 (by decide) rfl (by decide) (by omega) (by omega) (Nat.le_of_ble_eq_true rfl) ?_
      refine mw_aload_n hX dX1_runPlant_66 rfl rfl ?_
      refine mw_cV hX [] ws_X1_155 dX1_runPlant_67 (c_spillOver (mw_l X) mw_Y0 _ (mw_P0 hi) _ L) (mw_P0 hi).l0 (mw_P0 hi).s0 (by decide) rfl (by decide) (by omega) (by omega) (Nat.le_of_ble_eq_true rfl) ?_
      refine mw_ic hX 0 dX1_runPlant_70 rfl ?_
      refine mw_istore_n hX dX1_runPlant_71 rfl (Nat.le_of_ble_eq_true rfl) ?_
      dsimp only [List.set]
      refine mw_drop 4 ?_
      dsimp only [List.set]
      refine lp_dn (P := fun o => mw_G X 72 [some (.ref 0), some (.int (nI i)), some (.ref (7 + 11 * i)), some (.int (nI (o))), none] [] mw_Y0 (lpN (fun o J => sendI J i h t o) o (spillI (letGoI (lpN (fun o J => recvI J (7 + 11 * i) h o) 2 I) (7 + 11 * i)) (7 + 11 * i))) (L) 0 0) 0 2 ?_ ?_ 0 (Nat.le_refl _) (by omega)
      · show mw_G X 72 [some (.ref 0), some (.int (nI i)), some (.ref (7 + 11 * i)), some (.int (nI (2))), none] [] mw_Y0 (lpN (fun o J => sendI J i h t o) 2 (spillI (letGoI (lpN (fun o J => recvI J (7 + 11 * i) h o) 2 I) (7 + 11 * i)) (7 + 11 * i))) (L) 0 0
        refine mw_iload_n hX dX1_runPlant_72 rfl rfl ?_
        refine mw_ic hX 2 dX1_runPlant_73 rfl ?_
        refine mw_icmp_ge hX (tgt := 89) dX1_runPlant_74 (by decide) (fun h74 => ?_) (fun h74 => ?_)
        · exact mw_return hX hE dX1_runPlant_89 (rfl) (by omega) (by omega)
        · exact absurd (nI_le (a := 2) (b := 2) (by omega) (by omega)) h74
      · intro o hso ho iho
        show mw_G X 72 [some (.ref 0), some (.int (nI i)), some (.ref (7 + 11 * i)), some (.int (nI (o))), none] [] mw_Y0 (lpN (fun o J => sendI J i h t o) o (spillI (letGoI (lpN (fun o J => recvI J (7 + 11 * i) h o) 2 I) (7 + 11 * i)) (7 + 11 * i))) (L) 0 0
        refine mw_iload_n hX dX1_runPlant_72 rfl rfl ?_
        refine mw_ic hX 2 dX1_runPlant_73 rfl ?_
        refine mw_icmp_ge hX (tgt := 89) dX1_runPlant_74 (by decide) (fun h74 => ?_) (fun h74 => ?_)
        · exact absurd h74 (nI_ge (a := o) (b := 2) (by omega) (by omega))
        · refine mw_aload_n hX dX1_runPlant_77 rfl rfl ?_
          refine mw_iload_n hX dX1_runPlant_78 rfl rfl ?_
          refine mw_iload_n hX dX1_runPlant_79 rfl rfl ?_
          refine mw_cV hX [_, _] ws_X1_158 dX1_runPlant_80 (c_sendOn (mw_l X) i hi o (by omega) h hh t ht _ ((congrFun (fr_mid (by omega) (by omega) (by omega) (by omega) (by omega)) 6).trans hH) ((fr_midj (by omega) (by omega)).trans hT2) L) (mw_Yl (by decide)) mw_YW (by decide) rfl (by decide) (by omega) (by omega) (Nat.le_of_ble_eq_true rfl) ?_
          refine mw_inc hX (nI (o + 1)) dX1_runPlant_83 rfl (mw_inc1 _) ?_
          dsimp only [List.set]
          refine mw_goto hX (tgt := 72) dX1_runPlant_86 (by decide) ?_
          refine mw_drop 4 ?_
          dsimp only [List.set]
          exact iho
    · exact absurd (nI_le (a := 2) (b := 2) (by omega) (by omega)) h11
  · intro o hso ho iho
    show mw_G X 9 [some (.ref 0), some (.int (nI i)), some (.ref (7 + 11 * i)), some (.int (nI (o))), none] [] mw_Y0 (lpN (fun o J => recvI J (7 + 11 * i) h o) o I) (L) 0 0
    refine mw_iload_n hX dX1_runPlant_9 rfl rfl ?_
    refine mw_ic hX 2 dX1_runPlant_10 rfl ?_
    refine mw_icmp_ge hX (tgt := 62) dX1_runPlant_11 (by decide) (fun h11 => ?_) (fun h11 => ?_)
    · exact absurd h11 (nI_ge (a := o) (b := 2) (by omega) (by omega))
    · refine mw_aload_n hX dX1_runPlant_14 rfl rfl ?_
      refine mw_iload_n hX dX1_runPlant_15 rfl rfl ?_
      refine mw_cV hX [_] ws_X1_146 dX1_runPlant_16 (c_inflowOf (mw_l X) mw_Y0 _ (mw_P0 hi) o (by omega) _ L) (mw_P0 hi).l0 (mw_P0 hi).s0 (by decide) rfl (by decide) (by omega) (by omega) (Nat.le_of_ble_eq_true rfl) ?_
      refine mw_istore hX dX1_runPlant_19 (Nat.le_of_ble_eq_true rfl) ?_
      dsimp only [List.set]
      refine mw_aload_n hX dX1_runPlant_21 rfl rfl ?_
      refine mw_getR hX dX1_runPlant_22 (mw_P0 hi).l0 (mw_P0 hi).s0 fl_X1_85 (by decide) (by decide) rfl (mw_P0 hi).r7 ?_
      refine mw_iload_n hX dX1_runPlant_25 rfl rfl ?_
      refine mw_dup2 hX dX1_runPlant_26 ?_
      refine mw_iaload hX (j := o) dX1_runPlant_27 (mw_P0 hi).l2 (mw_P0 hi).s2 rfl (by omega) (by decide) ?_
      refine mw_aload_n hX dX1_runPlant_28 rfl rfl ?_
      refine mw_iload_n hX dX1_runPlant_29 rfl rfl ?_
      refine mw_aload_n hX dX1_runPlant_30 rfl rfl ?_
      refine mw_getI hX dX1_runPlant_31 (mw_Yl (by decide)) mw_YW fl_X1_72 (by decide) (by decide) rfl ?_
      rw [fr_recvs (by omega) (by omega) (by omega) (by omega), hH]
      refine mw_cS hX [_] ws_X1_104 dX1_runPlant_34 (c_slotOf (mw_l X) h (by omega) mw_Y0 _ L) rfl (by decide) (by omega) (by omega) (Nat.le_of_ble_eq_true rfl) ?_
      refine mw_cV hX [_, _] ws_X1_149 dX1_runPlant_37 (c_takeArrived (mw_l X) mw_Y0 _ (mw_P0 hi) o (h % 6) (by omega) (by omega) _ L) (mw_P0 hi).l0 (mw_P0 hi).s0 (by decide) rfl (by decide) (by omega) (by omega) (Nat.le_of_ble_eq_true rfl) ?_
      refine mw_iload hX dX1_runPlant_40 rfl ?_
      refine mw_iadd hX dX1_runPlant_42 ?_
      refine mw_iadd hX dX1_runPlant_43 ?_
      refine mw_iastore hX (j := o) dX1_runPlant_44 (mw_P0 hi).l2 (mw_P0 hi).s2 rfl (by omega) (by decide) ?_
      refine mw_aload_n hX dX1_runPlant_45 rfl rfl ?_
      refine mw_getR hX (r := 2) dX1_runPlant_46 (mw_Yl (by decide)) mw_YW fl_X1_15 (by decide) (by decide) rfl rfl ?_
      refine mw_iload_n hX dX1_runPlant_49 rfl rfl ?_
      refine mw_dup2 hX dX1_runPlant_50 ?_
      refine mw_iaload hX (j := o) dX1_runPlant_51 (mw_Yl (by decide)) rfl rfl (by omega) (by decide) ?_
      refine mw_iload hX dX1_runPlant_52 rfl ?_
      refine mw_iadd hX dX1_runPlant_54 ?_
      refine mw_iastore hX (j := o) dX1_runPlant_55 (mw_Yl (by decide)) rfl rfl (by omega) (by decide) ?_
      refine mw_inc hX (nI (o + 1)) dX1_runPlant_56 rfl (mw_inc1 _) ?_
      dsimp only [List.set]
      refine mw_goto hX (tgt := 9) dX1_runPlant_59 (by decide) ?_
      refine mw_drop 4 ?_
      dsimp only [List.set]
      exact iho
set_option maxRecDepth 20000 in
theorem c_runX (l : Launch) (q : Int32) (h : ¬ okR q 1 24) (I : mw_I) (L : mw_L) : mw_CT l yX1_run (.code yX1_run cX1_run 4 (some .int)) 6 1 6 [.ref 0, .int q] (mw_Y0, I, L) (.inr "java/lang/IllegalArgumentException") := by
  refine mw_enter RX1 rfl (by decide +kernel) (mw_cat rfl) (Nat.le_of_ble_eq_true rfl) (fun X hX hl hE hT hnm => ?_)
  subst hl
  show mw_G X 0 [some (.ref 0), some (.int q), none, none] [] mw_Y0 I L 0 0
  refine mw_iload_n hX dX1_run_0 rfl rfl ?_
  refine mw_ic hX 1 dX1_run_1 rfl ?_
  refine mw_bp hX 24 dX1_run_2 rfl ?_
  exact mw_cSX hX hE hT [_, _, _] ws_X1_36 dX1_run_4 (c_checkRangeX (mw_l X) q 1 24 h mw_Y0 I L) rfl (by decide) (by omega) (by omega) (Nat.le_of_ble_eq_true rfl) (rfl) (by omega) (by omega)
set_option maxRecDepth 20000 in
theorem c_runS (l : Launch) (q : Nat) (hq0 : 1 ≤ q) (hq : q < 25) (h : Nat) (hh : h < 201) (hs : 200 < h + q) (I : mw_I) (hH : I 0 6 = nI h) (L : mw_L) : mw_CT l yX1_run (.code yX1_run cX1_run 4 (some .int)) 6 2 12 [.ref 0, .int (nI q)] (mw_Y0, I, L) (.inr "java/lang/IllegalStateException") := by
  refine mw_enter RX1 rfl (by decide +kernel) (mw_cat rfl) (Nat.le_of_ble_eq_true rfl) (fun X hX hl hE hT hnm => ?_)
  subst hl
  show mw_G X 0 [some (.ref 0), some (.int (nI q)), none, none] [] mw_Y0 I L 0 0
  refine mw_iload_n hX dX1_run_0 rfl rfl ?_
  refine mw_ic hX 1 dX1_run_1 rfl ?_
  refine mw_bp hX 24 dX1_run_2 rfl ?_
  refine mw_cS hX [_, _, _] ws_X1_36 dX1_run_4 (c_checkRange (mw_l X) (nI q) 1 24 ⟨nI_nlt (a := q) (b := 1) hq0 (by omega), nI_le (a := q) (b := 24) (by omega) (by decide)⟩ mw_Y0 I L) rfl (by decide) (by omega) (by omega) (Nat.le_of_ble_eq_true rfl) ?_
  refine mw_aload_n hX dX1_run_7 rfl rfl ?_
  refine mw_getI hX dX1_run_8 (mw_Yl (by decide)) mw_YW fl_X1_72 (by decide) (by decide) rfl ?_
  rw [hH]
  refine mw_iload_n hX dX1_run_11 rfl rfl ?_
  refine mw_iadd hX dX1_run_12 ?_
  rw [nI_add]
  refine mw_sp hX 200 dX1_run_13 rfl ?_
  refine mw_icmp_le hX (tgt := 29) dX1_run_16 (by decide) (fun h16 => ?_) (fun h16 => ?_)
  · exact absurd h16 (nI_ge (a := 200) (b := h + q) hs (by omega))
  · exact mw_throw hX hE hT th_77 dX1_run_19 dX1_run_22 dX1_run_23 dX1_run_25 dX1_run_28 (rfl) (by omega) (by omega) (by omega) (by omega) (Nat.le_of_ble_eq_true rfl)
set_option maxRecDepth 20000 in
theorem c_run (l : Launch) (q : Nat) (hq0 : 1 ≤ q) (hq : q < 25) (h : Nat) (hs : h + q ≤ 200) (tt : Nat → Nat) (I : mw_I) (hH : I 0 6 = nI h) (ht : ∀ i, i < 3 → tt i < 6 ∧ I (7 + 11 * i) 2 = nI (tt i)) (L : mw_L) : mw_CT l yX1_run (.code yX1_run cX1_run 4 (some .int)) 6 1 6 [.ref 0, .int (nI q)] (mw_Y0, I, L) (.inl (some (.int (runI tt h q I 0 6)), mw_Y0, runI tt h q I, L)) := by
  refine mw_enter RX1 rfl (by decide +kernel) (mw_cat rfl) (Nat.le_of_ble_eq_true rfl) (fun X hX hl hE hT hnm => ?_)
  subst hl
  show mw_G X 0 [some (.ref 0), some (.int (nI q)), none, none] [] mw_Y0 I L 0 0
  refine mw_iload_n hX dX1_run_0 rfl rfl ?_
  refine mw_ic hX 1 dX1_run_1 rfl ?_
  refine mw_bp hX 24 dX1_run_2 rfl ?_
  refine mw_cS hX [_, _, _] ws_X1_36 dX1_run_4 (c_checkRange (mw_l X) (nI q) 1 24 ⟨nI_nlt (a := q) (b := 1) hq0 (by omega), nI_le (a := q) (b := 24) (by omega) (by decide)⟩ mw_Y0 I L) rfl (by decide) (by omega) (by omega) (Nat.le_of_ble_eq_true rfl) ?_
  refine mw_aload_n hX dX1_run_7 rfl rfl ?_
  refine mw_getI hX dX1_run_8 (mw_Yl (by decide)) mw_YW fl_X1_72 (by decide) (by decide) rfl ?_
  rw [hH]
  refine mw_iload_n hX dX1_run_11 rfl rfl ?_
  refine mw_iadd hX dX1_run_12 ?_
  rw [nI_add]
  refine mw_sp hX 200 dX1_run_13 rfl ?_
  refine mw_icmp_le hX (tgt := 29) dX1_run_16 (by decide) (fun h16 => ?_) (fun h16 => ?_)
  · refine mw_ic hX 0 dX1_run_29 rfl ?_
    refine mw_istore_n hX dX1_run_30 rfl (Nat.le_of_ble_eq_true rfl) ?_
    dsimp only [List.set]
    refine mw_drop 3 ?_
    dsimp only [List.set]
    refine lp_dn (P := fun k => mw_G X 31 [some (.ref 0), some (.int (nI q)), some (.int (nI (k))), none] [] mw_Y0 (lpN (fun k J => hourI tt (h + k) J) k I) (L) 1 6) 0 q ?_ ?_ 0 (Nat.le_refl _) (by omega)
    · show mw_G X 31 [some (.ref 0), some (.int (nI q)), some (.int (nI (q))), none] [] mw_Y0 (lpN (fun k J => hourI tt (h + k) J) q I) (L) 1 6
      refine mw_iload_n hX dX1_run_31 rfl rfl ?_
      refine mw_iload_n hX dX1_run_32 rfl rfl ?_
      refine mw_icmp_ge hX (tgt := 70) dX1_run_33 (by decide) (fun h33 => ?_) (fun h33 => ?_)
      · refine mw_aload_n hX dX1_run_70 rfl rfl ?_
        refine mw_getI hX dX1_run_71 (mw_Yl (by decide)) mw_YW fl_X1_72 (by decide) (by decide) rfl ?_
        exact mw_ireturn hX hE dX1_run_74 (rfl) (by omega) (by omega)
      · exact absurd (nI_le (a := q) (b := q) (by omega) (by omega)) h33
    · intro k hsk hk ihk
      show mw_G X 31 [some (.ref 0), some (.int (nI q)), some (.int (nI (k))), none] [] mw_Y0 (lpN (fun k J => hourI tt (h + k) J) k I) (L) 1 6
      refine mw_iload_n hX dX1_run_31 rfl rfl ?_
      refine mw_iload_n hX dX1_run_32 rfl rfl ?_
      refine mw_icmp_ge hX (tgt := 70) dX1_run_33 (by decide) (fun h33 => ?_) (fun h33 => ?_)
      · exact absurd h33 (nI_ge (a := k) (b := q) (by omega) (by omega))
      · refine mw_ic hX 0 dX1_run_36 rfl ?_
        refine mw_istore_n hX dX1_run_37 rfl (Nat.le_of_ble_eq_true rfl) ?_
        dsimp only [List.set]
        refine lp_dn (P := fun i => mw_G X 38 [some (.ref 0), some (.int (nI q)), some (.int (nI k)), some (.int (nI (i)))] [] mw_Y0 (lpN (fun i J => runPlantI J i (h + k) (tt i)) i (lpN (fun k J => hourI tt (h + k) J) k I)) (L) 1 6) 0 3 ?_ ?_ 0 (Nat.le_refl _) (by omega)
        · show mw_G X 38 [some (.ref 0), some (.int (nI q)), some (.int (nI k)), some (.int (nI (3)))] [] mw_Y0 (lpN (fun i J => runPlantI J i (h + k) (tt i)) 3 (lpN (fun k J => hourI tt (h + k) J) k I)) (L) 1 6
          refine mw_iload_n hX dX1_run_38 rfl rfl ?_
          refine mw_ic hX 3 dX1_run_39 rfl ?_
          refine mw_icmp_ge hX (tgt := 54) dX1_run_40 (by decide) (fun h40 => ?_) (fun h40 => ?_)
          · refine mw_aload_n hX dX1_run_54 rfl rfl ?_
            refine mw_dupR hX dX1_run_55 ?_
            refine mw_getI hX dX1_run_56 (mw_Yl (by decide)) mw_YW fl_X1_72 (by decide) (by decide) rfl ?_
            refine mw_ic hX 1 dX1_run_59 rfl ?_
            refine mw_iadd hX dX1_run_60 ?_
            refine mw_putI hX dX1_run_61 (mw_Yl (by decide)) mw_YW fl_X1_72 (by decide) (by decide) rfl ?_
            refine mw_inc hX (nI (k + 1)) dX1_run_64 rfl (mw_inc1 _) ?_
            dsimp only [List.set]
            refine mw_goto hX (tgt := 31) dX1_run_67 (by decide) ?_
            refine mw_drop 3 ?_
            dsimp only [List.set]
            exact ihk
          · exact absurd (nI_le (a := 3) (b := 3) (by omega) (by omega)) h40
        · intro i hsi hi ihi
          show mw_G X 38 [some (.ref 0), some (.int (nI q)), some (.int (nI k)), some (.int (nI (i)))] [] mw_Y0 (lpN (fun i J => runPlantI J i (h + k) (tt i)) i (lpN (fun k J => hourI tt (h + k) J) k I)) (L) 1 6
          refine mw_iload_n hX dX1_run_38 rfl rfl ?_
          refine mw_ic hX 3 dX1_run_39 rfl ?_
          refine mw_icmp_ge hX (tgt := 54) dX1_run_40 (by decide) (fun h40 => ?_) (fun h40 => ?_)
          · exact absurd h40 (nI_ge (a := i) (b := 3) (by omega) (by omega))
          · refine mw_aload_n hX dX1_run_43 rfl rfl ?_
            refine mw_iload_n hX dX1_run_44 rfl rfl ?_
            refine mw_cV hX [_] ws_X1_82 dX1_run_45 (c_runPlant (mw_l X) i (by omega) (h + k) (by omega) (tt i) (ht i (by omega)).1 _ ((congrFun runs_h 6).trans (hours_h hH k)) (((runs_t (by omega)).trans (hours_t (by omega))).trans (ht i (by omega)).2) L) (mw_Yl (by decide)) mw_YW (by decide) rfl (by decide) (by omega) (by omega) (Nat.le_of_ble_eq_true rfl) ?_
            refine mw_inc hX (nI (i + 1)) dX1_run_48 rfl (mw_inc1 _) ?_
            dsimp only [List.set]
            refine mw_goto hX (tgt := 38) dX1_run_51 (by decide) ?_
            exact ihi
  · exact absurd (nI_le (a := h + q) (b := 200) (by omega) (by decide)) h16
end
section
/-! WaterCascade: the best releases of plant 0 (by program: wip/whole/gen20.py) -/
theorem mw_4 (j : Nat) : nI (4 * j) + 4 = nI (4 * (j + 1)) := nI_add (4 * j) 4
theorem mw_4' (j : Nat) : nI (4 * j) + Int32.ofInt 4 = nI (4 * (j + 1)) := mw_4 j
def leastN (I : mw_I) (b : Nat) (v : Int32) : Nat := (leastV I b v).toNatClampNeg / 4
theorem least_N {I : mw_I} {b mn : Nat} (hm : I b 3 = nI mn) (hmn : mn ≤ 20) (v : Int32) : leastV I b v = nI (4 * leastN I b v) ∧ leastN I b v ≤ 4 := by
  have e : (I b 3 + 4 - 1) / 4 * 4 = nI (4 * ((mn + 3) / 4)) := by
    rw [hm, mw_n4, mw_n1, nI_add, pk_sub (by omega), pk_div (by omega) (by omega) (by omega), pk_mul, show mn + 4 - 1 = mn + 3 by omega, Nat.mul_comm]
  have h1 : leastV I b v = 0 ∨ (leastV I b v = nI (4 * ((mn + 3) / 4)) ∧ ¬ 16 < nI (4 * ((mn + 3) / 4))) := by
    unfold leastV
    rw [e]
    split
    · exact Or.inl rfl
    · rename_i h
      exact Or.inr ⟨rfl, fun q => h (Or.inl q)⟩
  rcases h1 with h1 | ⟨h1, h2⟩
  · have h3 : leastN I b v = 0 := by unfold leastN; rw [h1]; rfl
    rw [h3, h1]
    exact ⟨rfl, by omega⟩
  · have h3 : 4 * ((mn + 3) / 4) ≤ 16 := Nat.le_of_not_lt (fun q => h2 (nI_lt (a := 16) q (by omega)))
    have h4 : leastN I b v = (mn + 3) / 4 := by unfold leastN; rw [h1, nI_clamp (by omega)]; omega
    rw [h4, h1]
    exact ⟨rfl, by omega⟩
def energyFromV (I : mw_I) (v r : Int32) : Int32 := energyV I (7 + 11 * 0) v r + (if behindV I (7 + 11 * 0) v r < 0 ∨ 200 < behindV I (7 + 11 * 0) v r then 0 else I 5 (behindV I (7 + 11 * 0) v r).toNatClampNeg)
def lbStep (I : mw_I) (v : Int32) (j : Nat) (s : Int32 × Int32) : Int32 × Int32 := if energyFromV I v (nI (4 * j)) ≤ s.2 then s else (nI (4 * j), energyFromV I v (nI (4 * j)))
def lbF (I : mw_I) (v : Int32) : Nat → Nat → Int32 × Int32 → Int32 × Int32
  | 0, _, s => s
  | n + 1, j, s => if 16 < nI (4 * j) ∨ v < nI (4 * j) then s else lbF I v n (j + 1) (lbStep I v j s)
def leastBestV (I : mw_I) (v : Int32) : Int32 := (lbF I v (4 - leastN I (7 + 11 * 0) v) (leastN I (7 + 11 * 0) v + 1) (nI (4 * leastN I (7 + 11 * 0) v), energyFromV I v (nI (4 * leastN I (7 + 11 * 0) v)))).1
def greatFromV (I : mw_I) (v : Int32) : Int32 := energyFromV I (v + I (7 + 11 * 0) 4) (leastBestV I (v + I (7 + 11 * 0) 4))
def wb0 (I : mw_I) : mw_I := lpN (fun k J => mw_up J 5 k 0) 201 I
def wbRow (I : mw_I) : mw_I := lpN (fun c J => mw_up J 6 c (greatFromV J (nI c))) 201 I
def wbStep (I : mw_I) : mw_I := fun q => if q = 5 then va_cpy (wbRow I 6) (wbRow I 5) 0 0 201 else wbRow I q
def wbI (m : Nat) (I : mw_I) : mw_I := lpN (fun _ J => wbStep J) m (wb0 I)
def gF (I : mw_I) (b : Nat) (v : Int32) (rc : Int32 → Int32) : Nat → Nat → Int32 → Int32
  | 0, _, s => s
  | n + 1, j, s => if 16 < nI (4 * j) ∨ v < nI (4 * j) then s else gF I b v rc n (j + 1) (if s < energyV I b v (nI (4 * j)) + rc (behindV I b v (nI (4 * j))) then energyV I b v (nI (4 * j)) + rc (behindV I b v (nI (4 * j))) else s)
def gbtV (I : mw_I) (b : Nat) : Nat → Int32 → Int32
  | 0, _ => 0
  | m + 1, v => gF I b (v + I b 4) (gbtV I b m) (5 - leastN I b (v + I b 4)) (leastN I b (v + I b 4)) 0
theorem fr_wb0 {I : mw_I} {a n : Nat} (h : a ≠ 5) : lpN (fun k J => mw_up J 5 k 0) n I a = I a := lpN_inv (P := fun (J : mw_I) => J a = I a) n (fun _ _ _ hz => (mw_up_ne h).trans hz) rfl
theorem fr_wbR {I : mw_I} {a n : Nat} (h : a ≠ 6) : lpN (fun c J => mw_up J 6 c (greatFromV J (nI c))) n I a = I a := lpN_inv (P := fun (J : mw_I) => J a = I a) n (fun _ _ _ hz => (mw_up_ne h).trans hz) rfl
theorem fr_wbS {I : mw_I} {a : Nat} (h : a ≠ 5) (h2 : a ≠ 6) : wbStep I a = I a := by
  unfold wbStep
  rw [if_neg h]
  exact fr_wbR h2
theorem fr_wbSs {I : mw_I} {a n : Nat} (h : a ≠ 5) (h2 : a ≠ 6) : lpN (fun _ J => wbStep J) n I a = I a := lpN_inv (P := fun (J : mw_I) => J a = I a) n (fun _ _ _ hz => (fr_wbS h h2).trans hz) rfl
theorem fr_wb {I : mw_I} {a m : Nat} (h : a ≠ 5) (h2 : a ≠ 6) : wbI m I a = I a := (fr_wbSs h h2).trans (fr_wb0 h)
set_option maxRecDepth 20000 in
theorem c_energyFrom (l : Launch) (v r : Int32) (I : mw_I) (L : mw_L) : mw_CT l yX1_energyFrom (.code yX1_energyFrom cX1_energyFrom 5 (some .int)) 4 0 0 [.ref 0, .int v, .int r] (mw_Y0, I, L) (.inl (some (.int (energyFromV I v r)), mw_Y0, I, L)) := by
  refine mw_enter RX1 rfl (by decide +kernel) (mw_cat rfl) (Nat.le_of_ble_eq_true rfl) (fun X hX hl hE hT hnm => ?_)
  subst hl
  show mw_G X 0 [some (.ref 0), some (.int v), some (.int r), none, none] [] mw_Y0 I L 0 0
  refine mw_aload_n hX dX1_energyFrom_0 rfl rfl ?_
  refine mw_getR hX (r := 1) dX1_energyFrom_1 (mw_Yl (by decide)) mw_YW fl_X1_11 (by decide) (by decide) rfl rfl ?_
  refine mw_ic hX 0 dX1_energyFrom_4 rfl ?_
  refine mw_aaloadP hX (j := 0) dX1_energyFrom_5 (mw_Yl (by decide)) rfl rfl (by decide) (by decide) (mw_Yp (by omega)) ?_
  refine mw_iload_n hX dX1_energyFrom_6 rfl rfl ?_
  refine mw_iload_n hX dX1_energyFrom_7 rfl rfl ?_
  refine mw_cV hX [_, _] ws_X1_177 dX1_energyFrom_8 (c_levelBehind (mw_l X) mw_Y0 _ (mw_P0 (i := 0) (by omega)) v r I L) (mw_P0 (i := 0) (by omega)).l0 (mw_P0 (i := 0) (by omega)).s0 (by decide) rfl (by omega) (by omega) (by omega) (Nat.le_of_ble_eq_true rfl) ?_
  refine mw_istore_n hX dX1_energyFrom_11 rfl (Nat.le_of_ble_eq_true rfl) ?_
  dsimp only [List.set]
  refine mw_iload_n hX dX1_energyFrom_12 rfl rfl ?_
  refine mw_if_lt hX (tgt := 23) dX1_energyFrom_13 (by decide) (fun h13 => ?_) (fun h13 => ?_)
  · refine mw_ic hX 0 dX1_energyFrom_23 rfl ?_
    refine mw_goto hX (tgt := 33) dX1_energyFrom_24 (by decide) ?_
    refine mw_istore hX dX1_energyFrom_33 (Nat.le_of_ble_eq_true rfl) ?_
    dsimp only [List.set]
    refine mw_aload_n hX dX1_energyFrom_35 rfl rfl ?_
    refine mw_getR hX (r := 1) dX1_energyFrom_36 (mw_Yl (by decide)) mw_YW fl_X1_11 (by decide) (by decide) rfl rfl ?_
    refine mw_ic hX 0 dX1_energyFrom_39 rfl ?_
    refine mw_aaloadP hX (j := 0) dX1_energyFrom_40 (mw_Yl (by decide)) rfl rfl (by decide) (by decide) (mw_Yp (by omega)) ?_
    refine mw_iload_n hX dX1_energyFrom_41 rfl rfl ?_
    refine mw_iload_n hX dX1_energyFrom_42 rfl rfl ?_
    refine mw_cV hX [_, _] ws_X1_180 dX1_energyFrom_43 (c_energyAt (mw_l X) mw_Y0 _ (mw_P0 (i := 0) (by omega)) v r I L) (mw_P0 (i := 0) (by omega)).l0 (mw_P0 (i := 0) (by omega)).s0 (by decide) rfl (by omega) (by omega) (by omega) (Nat.le_of_ble_eq_true rfl) ?_
    refine mw_iload hX dX1_energyFrom_46 rfl ?_
    refine mw_iadd hX dX1_energyFrom_48 ?_
    exact mw_ireturn hX hE dX1_energyFrom_49 (by rw [energyFromV, if_pos (Or.inl h13)]) (by omega) (by omega)
  · refine mw_iload_n hX dX1_energyFrom_16 rfl rfl ?_
    refine mw_sp hX 200 dX1_energyFrom_17 rfl ?_
    refine mw_icmp_le hX (tgt := 27) dX1_energyFrom_20 (by decide) (fun h20 => ?_) (fun h20 => ?_)
    · obtain ⟨j, hj, e⟩ := okR_nat (n := 200) (by decide) ⟨h13, h20⟩
      refine mw_aload_n hX dX1_energyFrom_27 rfl rfl ?_
      refine mw_getR hX (r := 5) dX1_energyFrom_28 (mw_Yl (by decide)) mw_YW fl_X1_25 (by decide) (by decide) rfl rfl ?_
      refine mw_iload_n hX dX1_energyFrom_31 rfl rfl ?_
      refine mw_iaload hX (j := j) dX1_energyFrom_32 (mw_Yl (by decide)) rfl e (by omega) (by decide) ?_
      refine mw_istore hX dX1_energyFrom_33 (Nat.le_of_ble_eq_true rfl) ?_
      dsimp only [List.set]
      refine mw_aload_n hX dX1_energyFrom_35 rfl rfl ?_
      refine mw_getR hX (r := 1) dX1_energyFrom_36 (mw_Yl (by decide)) mw_YW fl_X1_11 (by decide) (by decide) rfl rfl ?_
      refine mw_ic hX 0 dX1_energyFrom_39 rfl ?_
      refine mw_aaloadP hX (j := 0) dX1_energyFrom_40 (mw_Yl (by decide)) rfl rfl (by decide) (by decide) (mw_Yp (by omega)) ?_
      refine mw_iload_n hX dX1_energyFrom_41 rfl rfl ?_
      refine mw_iload_n hX dX1_energyFrom_42 rfl rfl ?_
      refine mw_cV hX [_, _] ws_X1_180 dX1_energyFrom_43 (c_energyAt (mw_l X) mw_Y0 _ (mw_P0 (i := 0) (by omega)) v r I L) (mw_P0 (i := 0) (by omega)).l0 (mw_P0 (i := 0) (by omega)).s0 (by decide) rfl (by omega) (by omega) (by omega) (Nat.le_of_ble_eq_true rfl) ?_
      refine mw_iload hX dX1_energyFrom_46 rfl ?_
      refine mw_iadd hX dX1_energyFrom_48 ?_
      exact mw_ireturn hX hE dX1_energyFrom_49 (by rw [energyFromV, if_neg (fun q => q.elim h13 (fun q => absurd h20 (Int32.not_le.mpr q))), e, nI_clamp (by omega)]) (by omega) (by omega)
    · refine mw_ic hX 0 dX1_energyFrom_23 rfl ?_
      refine mw_goto hX (tgt := 33) dX1_energyFrom_24 (by decide) ?_
      refine mw_istore hX dX1_energyFrom_33 (Nat.le_of_ble_eq_true rfl) ?_
      dsimp only [List.set]
      refine mw_aload_n hX dX1_energyFrom_35 rfl rfl ?_
      refine mw_getR hX (r := 1) dX1_energyFrom_36 (mw_Yl (by decide)) mw_YW fl_X1_11 (by decide) (by decide) rfl rfl ?_
      refine mw_ic hX 0 dX1_energyFrom_39 rfl ?_
      refine mw_aaloadP hX (j := 0) dX1_energyFrom_40 (mw_Yl (by decide)) rfl rfl (by decide) (by decide) (mw_Yp (by omega)) ?_
      refine mw_iload_n hX dX1_energyFrom_41 rfl rfl ?_
      refine mw_iload_n hX dX1_energyFrom_42 rfl rfl ?_
      refine mw_cV hX [_, _] ws_X1_180 dX1_energyFrom_43 (c_energyAt (mw_l X) mw_Y0 _ (mw_P0 (i := 0) (by omega)) v r I L) (mw_P0 (i := 0) (by omega)).l0 (mw_P0 (i := 0) (by omega)).s0 (by decide) rfl (by omega) (by omega) (by omega) (Nat.le_of_ble_eq_true rfl) ?_
      refine mw_iload hX dX1_energyFrom_46 rfl ?_
      refine mw_iadd hX dX1_energyFrom_48 ?_
      exact mw_ireturn hX hE dX1_energyFrom_49 (by rw [energyFromV, if_pos (Or.inr (Int32.not_le.mp h20))]) (by omega) (by omega)
set_option maxRecDepth 20000 in
theorem c_leastBestRelease (l : Launch) (v : Int32) (mn : Nat) (hmn : mn ≤ 20) (I : mw_I) (hm : I (7 + 11 * 0) 3 = nI mn) (L : mw_L) : mw_CT l yX1_leastBestRelease (.code yX1_leastBestRelease cX1_leastBestRelease 7 (some .int)) 5 0 0 [.ref 0, .int v] (mw_Y0, I, L) (.inl (some (.int (leastBestV I v)), mw_Y0, I, L)) := by
  refine mw_enter RX1 rfl (by decide +kernel) (mw_cat rfl) (Nat.le_of_ble_eq_true rfl) (fun X hX hl hE hT hnm => ?_)
  subst hl
  show mw_G X 0 [some (.ref 0), some (.int v), none, none, none, none, none] [] mw_Y0 I L 0 0
  refine mw_aload_n hX dX1_leastBestRelease_0 rfl rfl ?_
  refine mw_getR hX (r := 1) dX1_leastBestRelease_1 (mw_Yl (by decide)) mw_YW fl_X1_11 (by decide) (by decide) rfl rfl ?_
  refine mw_ic hX 0 dX1_leastBestRelease_4 rfl ?_
  refine mw_aaloadP hX (j := 0) dX1_leastBestRelease_5 (mw_Yl (by decide)) rfl rfl (by decide) (by decide) (mw_Yp (by omega)) ?_
  refine mw_iload_n hX dX1_leastBestRelease_6 rfl rfl ?_
  refine mw_cV hX [_] ws_X1_174 dX1_leastBestRelease_7 (c_leastRelease (mw_l X) mw_Y0 _ (mw_P0 (i := 0) (by omega)) v I L) (mw_P0 (i := 0) (by omega)).l0 (mw_P0 (i := 0) (by omega)).s0 (by decide) rfl (by omega) (by omega) (by omega) (Nat.le_of_ble_eq_true rfl) ?_
  obtain ⟨hL1, hL4⟩ := least_N hm hmn v
  obtain ⟨f0, hf0⟩ : ∃ f0, leastN I (7 + 11 * 0) v = f0 := ⟨_, rfl⟩
  rw [hf0] at hL1 hL4
  rw [hL1]
  refine mw_istore_n hX dX1_leastBestRelease_10 rfl (Nat.le_of_ble_eq_true rfl) ?_
  dsimp only [List.set]
  refine mw_iload_n hX dX1_leastBestRelease_11 rfl rfl ?_
  refine mw_istore_n hX dX1_leastBestRelease_12 rfl (Nat.le_of_ble_eq_true rfl) ?_
  dsimp only [List.set]
  refine mw_aload_n hX dX1_leastBestRelease_13 rfl rfl ?_
  refine mw_iload_n hX dX1_leastBestRelease_14 rfl rfl ?_
  refine mw_iload_n hX dX1_leastBestRelease_15 rfl rfl ?_
  refine mw_cV hX [_, _] ws_X1_171 dX1_leastBestRelease_16 (c_energyFrom (mw_l X) v _ I L) (mw_Yl (by decide)) mw_YW (by decide) rfl (by omega) (by omega) (by omega) (Nat.le_of_ble_eq_true rfl) ?_
  refine mw_istore hX dX1_leastBestRelease_19 (Nat.le_of_ble_eq_true rfl) ?_
  dsimp only [List.set]
  refine mw_iload_n hX dX1_leastBestRelease_21 rfl rfl ?_
  refine mw_ic hX 4 dX1_leastBestRelease_22 rfl ?_
  refine mw_iadd hX dX1_leastBestRelease_23 ?_
  rw [mw_4]
  refine mw_istore hX dX1_leastBestRelease_24 (Nat.le_of_ble_eq_true rfl) ?_
  dsimp only [List.set]
  have key : ∀ (n j : Nat) (s : Int32 × Int32), j + n = 5 → (lbF I v n j s).1 = leastBestV I v → mw_G X 26 [some (.ref 0), some (.int v), some (.int (nI (4 * f0))), some (.int s.1), some (.int s.2), some (.int (nI (4 * j))), none] [] mw_Y0 I L 0 0 := by
    intro n
    induction n with
    | zero =>
      intro j s hj hR
      refine mw_iload hX dX1_leastBestRelease_26 rfl ?_
      refine mw_bp hX 16 dX1_leastBestRelease_28 rfl ?_
      refine mw_icmp_gt hX (tgt := 68) dX1_leastBestRelease_30 (by decide) (fun h30 => ?_) (fun h30 => ?_)
      · refine mw_iload_n hX dX1_leastBestRelease_68 rfl rfl ?_
        exact mw_ireturn hX hE dX1_leastBestRelease_69 (by rw [← hR]; rfl) (by omega) (by omega)
      · exact absurd (nI_lt (a := 16) (b := 4 * j) (by omega) (by omega)) h30
    | succ n ih =>
      intro j s hj hR
      refine mw_iload hX dX1_leastBestRelease_26 rfl ?_
      refine mw_bp hX 16 dX1_leastBestRelease_28 rfl ?_
      refine mw_icmp_gt hX (tgt := 68) dX1_leastBestRelease_30 (by decide) (fun h30 => ?_) (fun h30 => ?_)
      · refine mw_iload_n hX dX1_leastBestRelease_68 rfl rfl ?_
        exact mw_ireturn hX hE dX1_leastBestRelease_69 (by rw [← hR, lbF, if_pos (Or.inl h30)]) (by omega) (by omega)
      · refine mw_iload hX dX1_leastBestRelease_33 rfl ?_
        refine mw_iload_n hX dX1_leastBestRelease_35 rfl rfl ?_
        refine mw_icmp_gt hX (tgt := 68) dX1_leastBestRelease_36 (by decide) (fun h36 => ?_) (fun h36 => ?_)
        · refine mw_iload_n hX dX1_leastBestRelease_68 rfl rfl ?_
          exact mw_ireturn hX hE dX1_leastBestRelease_69 (by rw [← hR, lbF, if_pos (Or.inr h36)]) (by omega) (by omega)
        · refine mw_aload_n hX dX1_leastBestRelease_39 rfl rfl ?_
          refine mw_iload_n hX dX1_leastBestRelease_40 rfl rfl ?_
          refine mw_iload hX dX1_leastBestRelease_41 rfl ?_
          refine mw_cV hX [_, _] ws_X1_171 dX1_leastBestRelease_43 (c_energyFrom (mw_l X) v _ I L) (mw_Yl (by decide)) mw_YW (by decide) rfl (by omega) (by omega) (by omega) (Nat.le_of_ble_eq_true rfl) ?_
          refine mw_istore hX dX1_leastBestRelease_46 (Nat.le_of_ble_eq_true rfl) ?_
          dsimp only [List.set]
          refine mw_iload hX dX1_leastBestRelease_48 rfl ?_
          refine mw_iload hX dX1_leastBestRelease_50 rfl ?_
          refine mw_icmp_le hX (tgt := 62) dX1_leastBestRelease_52 (by decide) (fun h52 => ?_) (fun h52 => ?_)
          · refine mw_inc hX (nI (4 * (j + 1))) dX1_leastBestRelease_62 rfl (mw_4' _) ?_
            dsimp only [List.set]
            refine mw_goto hX (tgt := 26) dX1_leastBestRelease_65 (by decide) ?_
            refine mw_drop 6 ?_
            dsimp only [List.set]
            exact ih (j + 1) s (by omega) (by rw [← hR, lbF, if_neg (fun q => q.elim h30 h36), lbStep, if_pos h52])
          · refine mw_iload hX dX1_leastBestRelease_55 rfl ?_
            refine mw_istore_n hX dX1_leastBestRelease_57 rfl (Nat.le_of_ble_eq_true rfl) ?_
            dsimp only [List.set]
            refine mw_iload hX dX1_leastBestRelease_58 rfl ?_
            refine mw_istore hX dX1_leastBestRelease_60 (Nat.le_of_ble_eq_true rfl) ?_
            dsimp only [List.set]
            refine mw_inc hX (nI (4 * (j + 1))) dX1_leastBestRelease_62 rfl (mw_4' _) ?_
            dsimp only [List.set]
            refine mw_goto hX (tgt := 26) dX1_leastBestRelease_65 (by decide) ?_
            refine mw_drop 6 ?_
            dsimp only [List.set]
            exact ih (j + 1) (nI (4 * j), energyFromV I v (nI (4 * j))) (by omega) (by rw [← hR, lbF, if_neg (fun q => q.elim h30 h36), lbStep, if_neg h52])
  exact key (4 - f0) (f0 + 1) (nI (4 * f0), energyFromV I v (nI (4 * f0))) (by omega) (by rw [leastBestV, hf0])
set_option maxRecDepth 20000 in
theorem c_greatestFrom (l : Launch) (v : Int32) (mn : Nat) (hmn : mn ≤ 20) (I : mw_I) (hm : I (7 + 11 * 0) 3 = nI mn) (L : mw_L) : mw_CT l yX1_greatestFrom (.code yX1_greatestFrom cX1_greatestFrom 3 (some .int)) 6 0 0 [.ref 0, .int v] (mw_Y0, I, L) (.inl (some (.int (greatFromV I v)), mw_Y0, I, L)) := by
  refine mw_enter RX1 rfl (by decide +kernel) (mw_cat rfl) (Nat.le_of_ble_eq_true rfl) (fun X hX hl hE hT hnm => ?_)
  subst hl
  show mw_G X 0 [some (.ref 0), some (.int v), none] [] mw_Y0 I L 0 0
  refine mw_iload_n hX dX1_greatestFrom_0 rfl rfl ?_
  refine mw_aload_n hX dX1_greatestFrom_1 rfl rfl ?_
  refine mw_getR hX (r := 1) dX1_greatestFrom_2 (mw_Yl (by decide)) mw_YW fl_X1_11 (by decide) (by decide) rfl rfl ?_
  refine mw_ic hX 0 dX1_greatestFrom_5 rfl ?_
  refine mw_aaloadP hX (j := 0) dX1_greatestFrom_6 (mw_Yl (by decide)) rfl rfl (by decide) (by decide) (mw_Yp (by omega)) ?_
  refine mw_getI hX dX1_greatestFrom_7 (mw_P0 (i := 0) (by omega)).l0 (mw_P0 (i := 0) (by omega)).s0 fl_X1_50 (by decide) (by decide) rfl ?_
  refine mw_iadd hX dX1_greatestFrom_10 ?_
  refine mw_istore_n hX dX1_greatestFrom_11 rfl (Nat.le_of_ble_eq_true rfl) ?_
  dsimp only [List.set]
  refine mw_aload_n hX dX1_greatestFrom_12 rfl rfl ?_
  refine mw_iload_n hX dX1_greatestFrom_13 rfl rfl ?_
  refine mw_aload_n hX dX1_greatestFrom_14 rfl rfl ?_
  refine mw_iload_n hX dX1_greatestFrom_15 rfl rfl ?_
  refine mw_cV hX [_] ws_X1_132 dX1_greatestFrom_16 (c_leastBestRelease (mw_l X) _ mn hmn I hm L) (mw_Yl (by decide)) mw_YW (by decide) rfl (by omega) (by omega) (by omega) (Nat.le_of_ble_eq_true rfl) ?_
  refine mw_cV hX [_, _] ws_X1_171 dX1_greatestFrom_19 (c_energyFrom (mw_l X) _ _ I L) (mw_Yl (by decide)) mw_YW (by decide) rfl (by omega) (by omega) (by omega) (Nat.le_of_ble_eq_true rfl) ?_
  exact mw_ireturn hX hE dX1_greatestFrom_22 (rfl) (by omega) (by omega)
set_option maxRecDepth 20000 in
theorem c_workBackTo (l : Launch) (m : Nat) (h6 : m ≤ 6) (mn : Nat) (hmn : mn ≤ 20) (I : mw_I) (hm : I (7 + 11 * 0) 3 = nI mn) (L : mw_L) : mw_CT l yX1_workBackTo (.code yX1_workBackTo cX1_workBackTo 4 none) 7 0 0 [.ref 0, .int (nI m)] (mw_Y0, I, L) (.inl (none, mw_Y0, wbI m I, L)) := by
  refine mw_enter RX1 rfl (by decide +kernel) (mw_cat rfl) (Nat.le_of_ble_eq_true rfl) (fun X hX hl hE hT hnm => ?_)
  subst hl
  show mw_G X 0 [some (.ref 0), some (.int (nI m)), none, none] [] mw_Y0 I L 0 0
  refine mw_ic hX 0 dX1_workBackTo_0 rfl ?_
  refine mw_istore_n hX dX1_workBackTo_1 rfl (Nat.le_of_ble_eq_true rfl) ?_
  dsimp only [List.set]
  refine lp_dn (P := fun k => mw_G X 2 [some (.ref 0), some (.int (nI m)), some (.int (nI (k))), none] [] mw_Y0 (lpN (fun k J => mw_up J 5 k 0) k I) (L) 0 0) 0 201 ?_ ?_ 0 (Nat.le_refl _) (by omega)
  · show mw_G X 2 [some (.ref 0), some (.int (nI m)), some (.int (nI (201))), none] [] mw_Y0 (lpN (fun k J => mw_up J 5 k 0) 201 I) (L) 0 0
    refine mw_iload_n hX dX1_workBackTo_2 rfl rfl ?_
    refine mw_sp hX 200 dX1_workBackTo_3 rfl ?_
    refine mw_icmp_gt hX (tgt := 22) dX1_workBackTo_6 (by decide) (fun h6 => ?_) (fun h6 => ?_)
    · refine mw_ic hX 0 dX1_workBackTo_22 rfl ?_
      refine mw_istore_n hX dX1_workBackTo_23 rfl (Nat.le_of_ble_eq_true rfl) ?_
      dsimp only [List.set]
      refine mw_drop 3 ?_
      dsimp only [List.set]
      refine lp_dn (P := fun k => mw_G X 24 [some (.ref 0), some (.int (nI m)), some (.int (nI (k))), none] [] mw_Y0 (lpN (fun _ J => wbStep J) k (wb0 I)) (L) 0 0) 0 m ?_ ?_ 0 (Nat.le_refl _) (by omega)
      · show mw_G X 24 [some (.ref 0), some (.int (nI m)), some (.int (nI (m))), none] [] mw_Y0 (lpN (fun _ J => wbStep J) m (wb0 I)) (L) 0 0
        refine mw_iload_n hX dX1_workBackTo_24 rfl rfl ?_
        refine mw_iload_n hX dX1_workBackTo_25 rfl rfl ?_
        refine mw_icmp_ge hX (tgt := 77) dX1_workBackTo_26 (by decide) (fun h26 => ?_) (fun h26 => ?_)
        · exact mw_return hX hE dX1_workBackTo_77 (rfl) (by omega) (by omega)
        · exact absurd (nI_le (a := m) (b := m) (by omega) (by omega)) h26
      · intro k hsk hk ihk
        show mw_G X 24 [some (.ref 0), some (.int (nI m)), some (.int (nI (k))), none] [] mw_Y0 (lpN (fun _ J => wbStep J) k (wb0 I)) (L) 0 0
        refine mw_iload_n hX dX1_workBackTo_24 rfl rfl ?_
        refine mw_iload_n hX dX1_workBackTo_25 rfl rfl ?_
        refine mw_icmp_ge hX (tgt := 77) dX1_workBackTo_26 (by decide) (fun h26 => ?_) (fun h26 => ?_)
        · exact absurd h26 (nI_ge (a := k) (b := m) (by omega) (by omega))
        · refine mw_ic hX 0 dX1_workBackTo_29 rfl ?_
          refine mw_istore_n hX dX1_workBackTo_30 rfl (Nat.le_of_ble_eq_true rfl) ?_
          dsimp only [List.set]
          refine lp_dn (P := fun c => mw_G X 31 [some (.ref 0), some (.int (nI m)), some (.int (nI k)), some (.int (nI (c)))] [] mw_Y0 (lpN (fun c J => mw_up J 6 c (greatFromV J (nI c))) c (lpN (fun _ J => wbStep J) k (wb0 I))) (L) 0 0) 0 201 ?_ ?_ 0 (Nat.le_refl _) (by omega)
          · show mw_G X 31 [some (.ref 0), some (.int (nI m)), some (.int (nI k)), some (.int (nI (201)))] [] mw_Y0 (lpN (fun c J => mw_up J 6 c (greatFromV J (nI c))) 201 (lpN (fun _ J => wbStep J) k (wb0 I))) (L) 0 0
            refine mw_iload_n hX dX1_workBackTo_31 rfl rfl ?_
            refine mw_sp hX 200 dX1_workBackTo_32 rfl ?_
            refine mw_icmp_gt hX (tgt := 55) dX1_workBackTo_35 (by decide) (fun h35 => ?_) (fun h35 => ?_)
            · refine mw_aload_n hX dX1_workBackTo_55 rfl rfl ?_
              refine mw_getR hX (r := 6) dX1_workBackTo_56 (mw_Yl (by decide)) mw_YW fl_X1_28 (by decide) (by decide) rfl rfl ?_
              refine mw_ic hX 0 dX1_workBackTo_59 rfl ?_
              refine mw_aload_n hX dX1_workBackTo_60 rfl rfl ?_
              refine mw_getR hX (r := 5) dX1_workBackTo_61 (mw_Yl (by decide)) mw_YW fl_X1_25 (by decide) (by decide) rfl rfl ?_
              refine mw_ic hX 0 dX1_workBackTo_64 rfl ?_
              refine mw_sp hX 201 dX1_workBackTo_65 rfl ?_
              refine mw_copy hX (M := 201) dX1_workBackTo_68 wa_X1_165 (mw_Yl (by decide)) (mw_Yl (by decide)) rfl rfl rfl rfl rfl (by decide) (by decide) (Nat.le_of_ble_eq_true rfl) ?_
              refine mw_inc hX (nI (k + 1)) dX1_workBackTo_71 rfl (mw_inc1 _) ?_
              dsimp only [List.set]
              refine mw_goto hX (tgt := 24) dX1_workBackTo_74 (by decide) ?_
              refine mw_drop 3 ?_
              dsimp only [List.set]
              exact ihk
            · exact absurd (nI_lt (a := 200) (b := 201) (by omega) (by omega)) h35
          · intro c hsc hc ihc
            show mw_G X 31 [some (.ref 0), some (.int (nI m)), some (.int (nI k)), some (.int (nI (c)))] [] mw_Y0 (lpN (fun c J => mw_up J 6 c (greatFromV J (nI c))) c (lpN (fun _ J => wbStep J) k (wb0 I))) (L) 0 0
            refine mw_iload_n hX dX1_workBackTo_31 rfl rfl ?_
            refine mw_sp hX 200 dX1_workBackTo_32 rfl ?_
            refine mw_icmp_gt hX (tgt := 55) dX1_workBackTo_35 (by decide) (fun h35 => ?_) (fun h35 => ?_)
            · exact absurd h35 (nI_nlt (a := 200) (b := c) (by omega) (by omega))
            · refine mw_aload_n hX dX1_workBackTo_38 rfl rfl ?_
              refine mw_getR hX (r := 6) dX1_workBackTo_39 (mw_Yl (by decide)) mw_YW fl_X1_28 (by decide) (by decide) rfl rfl ?_
              refine mw_iload_n hX dX1_workBackTo_42 rfl rfl ?_
              refine mw_aload_n hX dX1_workBackTo_43 rfl rfl ?_
              refine mw_iload_n hX dX1_workBackTo_44 rfl rfl ?_
              refine mw_cV hX [_] ws_X1_125 dX1_workBackTo_45 (c_greatestFrom (mw_l X) (nI c) mn hmn _ ((congrFun ((fr_wbR (by omega)).trans ((fr_wbSs (by omega) (by omega)).trans (fr_wb0 (by omega)))) 3).trans hm) L) (mw_Yl (by decide)) mw_YW (by decide) rfl (by omega) (by omega) (by omega) (Nat.le_of_ble_eq_true rfl) ?_
              refine mw_iastore hX (j := c) dX1_workBackTo_48 (mw_Yl (by decide)) rfl rfl (by omega) (by decide) ?_
              refine mw_inc hX (nI (c + 1)) dX1_workBackTo_49 rfl (mw_inc1 _) ?_
              dsimp only [List.set]
              refine mw_goto hX (tgt := 31) dX1_workBackTo_52 (by decide) ?_
              exact ihc
    · exact absurd (nI_lt (a := 200) (b := 201) (by omega) (by omega)) h6
  · intro k hsk hk ihk
    show mw_G X 2 [some (.ref 0), some (.int (nI m)), some (.int (nI (k))), none] [] mw_Y0 (lpN (fun k J => mw_up J 5 k 0) k I) (L) 0 0
    refine mw_iload_n hX dX1_workBackTo_2 rfl rfl ?_
    refine mw_sp hX 200 dX1_workBackTo_3 rfl ?_
    refine mw_icmp_gt hX (tgt := 22) dX1_workBackTo_6 (by decide) (fun h6 => ?_) (fun h6 => ?_)
    · exact absurd h6 (nI_nlt (a := 200) (b := k) (by omega) (by omega))
    · refine mw_aload_n hX dX1_workBackTo_9 rfl rfl ?_
      refine mw_getR hX (r := 5) dX1_workBackTo_10 (mw_Yl (by decide)) mw_YW fl_X1_25 (by decide) (by decide) rfl rfl ?_
      refine mw_iload_n hX dX1_workBackTo_13 rfl rfl ?_
      refine mw_ic hX 0 dX1_workBackTo_14 rfl ?_
      refine mw_iastore hX (j := k) dX1_workBackTo_15 (mw_Yl (by decide)) rfl rfl (by omega) (by decide) ?_
      refine mw_inc hX (nI (k + 1)) dX1_workBackTo_16 rfl (mw_inc1 _) ?_
      dsimp only [List.set]
      refine mw_goto hX (tgt := 2) dX1_workBackTo_19 (by decide) ?_
      exact ihk
set_option maxRecDepth 20000 in
theorem c_gbt (l : Launch) (y : mw_Y) (b : Nat) (hP : mw_isP y b) (mn : Nat) (hmn : mn ≤ 20) (I : mw_I) (hm : I b 3 = nI mn) (L : mw_L) : ∀ (m : Nat), m ≤ 6 → ∀ (v : Int32), mw_CT l yX1_greatestByTrying (.code yX1_greatestByTrying cX1_greatestByTrying 8 (some .int)) (4 + m) 0 0 [.ref b, .int v, .int (nI (m))] (y, I, L) (.inl (some (.int (gbtV I b (m) v)), y, I, L)) := by
  intro m
  induction m with
  | zero =>
    intro h6 v
    refine mw_enter RX1 rfl (by decide +kernel) (mw_cat rfl) (Nat.le_of_ble_eq_true rfl) (fun X hX hl hE hT hnm => ?_)
    subst hl
    show mw_G X 0 [some (.ref b), some (.int v), some (.int (nI 0)), none, none, none, none, none] [] y I L 0 0
    refine mw_iload_n hX dX1_greatestByTrying_0 rfl rfl ?_
    refine mw_ic hX 1 dX1_greatestByTrying_1 rfl ?_
    refine mw_icmp_lt hX (tgt := 11) dX1_greatestByTrying_2 (by decide) (fun h2 => ?_) (fun h2 => ?_)
    · refine mw_ic hX 0 dX1_greatestByTrying_11 rfl ?_
      exact mw_ireturn hX hE dX1_greatestByTrying_12 (rfl) (by omega) (by omega)
    · exact absurd (nI_lt (a := 0) (b := 1) (by omega) (by omega)) h2
  | succ m ih9 =>
    intro h6 v
    have ih0 := ih9 (by omega)
    clear ih9
    refine mw_enter RX1 rfl (by decide +kernel) (mw_cat rfl) (Nat.le_of_ble_eq_true rfl) (fun X hX hl hE hT hnm => ?_)
    subst hl
    show mw_G X 0 [some (.ref b), some (.int v), some (.int (nI (m + 1))), none, none, none, none, none] [] y I L 0 0
    refine mw_iload_n hX dX1_greatestByTrying_0 rfl rfl ?_
    refine mw_ic hX 1 dX1_greatestByTrying_1 rfl ?_
    refine mw_icmp_lt hX (tgt := 11) dX1_greatestByTrying_2 (by decide) (fun h2 => ?_) (fun h2 => ?_)
    · exact absurd h2 (nI_nlt (a := m + 1) (b := 1) (by omega) (by omega))
    · refine mw_iload_n hX dX1_greatestByTrying_5 rfl rfl ?_
      refine mw_bp hX 6 dX1_greatestByTrying_6 rfl ?_
      refine mw_icmp_le hX (tgt := 13) dX1_greatestByTrying_8 (by decide) (fun h8 => ?_) (fun h8 => ?_)
      · refine mw_iload_n hX dX1_greatestByTrying_13 rfl rfl ?_
        refine mw_aload_n hX dX1_greatestByTrying_14 rfl rfl ?_
        refine mw_getI hX dX1_greatestByTrying_15 hP.l0 hP.s0 fl_X1_50 (by decide) (by decide) rfl ?_
        refine mw_iadd hX dX1_greatestByTrying_18 ?_
        refine mw_istore_n hX dX1_greatestByTrying_19 rfl (Nat.le_of_ble_eq_true rfl) ?_
        dsimp only [List.set]
        refine mw_ic hX 0 dX1_greatestByTrying_20 rfl ?_
        refine mw_istore hX dX1_greatestByTrying_21 (Nat.le_of_ble_eq_true rfl) ?_
        dsimp only [List.set]
        refine mw_aload_n hX dX1_greatestByTrying_23 rfl rfl ?_
        refine mw_iload_n hX dX1_greatestByTrying_24 rfl rfl ?_
        refine mw_cV hX [_] ws_X1_174 dX1_greatestByTrying_25 (c_leastRelease (mw_l X) y b hP (v + I b 4) I L) hP.l0 hP.s0 (by decide) rfl (by omega) (by omega) (by omega) (Nat.le_of_ble_eq_true rfl) ?_
        obtain ⟨hL1, hL4⟩ := least_N hm hmn (v + I b 4)
        obtain ⟨f0, hf0⟩ : ∃ f0, leastN I b (v + I b 4) = f0 := ⟨_, rfl⟩
        rw [hf0] at hL1 hL4
        rw [hL1]
        refine mw_istore hX dX1_greatestByTrying_28 (Nat.le_of_ble_eq_true rfl) ?_
        dsimp only [List.set]
        refine mw_iload hX dX1_greatestByTrying_30 rfl ?_
        refine mw_istore hX dX1_greatestByTrying_32 (Nat.le_of_ble_eq_true rfl) ?_
        dsimp only [List.set]
        have key : ∀ (n j : Nat) (s : Int32), j + n = 5 → gF I b (v + I b 4) (gbtV I b m) n j s = gbtV I b (m + 1) v → mw_G X 34 [some (.ref b), some (.int v), some (.int (nI (m + 1))), some (.int (v + I b 4)), some (.int s), some (.int (nI (4 * f0))), some (.int (nI (4 * j))), none] [] y I L 0 0 := by
          intro n
          induction n with
          | zero =>
            intro j s hj hR
            refine mw_iload hX dX1_greatestByTrying_34 rfl ?_
            refine mw_bp hX 16 dX1_greatestByTrying_36 rfl ?_
            refine mw_icmp_gt hX (tgt := 86) dX1_greatestByTrying_38 (by decide) (fun h38 => ?_) (fun h38 => ?_)
            · refine mw_iload hX dX1_greatestByTrying_86 rfl ?_
              exact mw_ireturn hX hE dX1_greatestByTrying_88 (by rw [← hR]; rfl) (by omega) (by omega)
            · exact absurd (nI_lt (a := 16) (b := 4 * j) (by omega) (by omega)) h38
          | succ n ih =>
            intro j s hj hR
            refine mw_iload hX dX1_greatestByTrying_34 rfl ?_
            refine mw_bp hX 16 dX1_greatestByTrying_36 rfl ?_
            refine mw_icmp_gt hX (tgt := 86) dX1_greatestByTrying_38 (by decide) (fun h38 => ?_) (fun h38 => ?_)
            · refine mw_iload hX dX1_greatestByTrying_86 rfl ?_
              exact mw_ireturn hX hE dX1_greatestByTrying_88 (by rw [← hR, gF, if_pos (Or.inl h38)]) (by omega) (by omega)
            · refine mw_iload hX dX1_greatestByTrying_41 rfl ?_
              refine mw_iload_n hX dX1_greatestByTrying_43 rfl rfl ?_
              refine mw_icmp_gt hX (tgt := 86) dX1_greatestByTrying_44 (by decide) (fun h44 => ?_) (fun h44 => ?_)
              · refine mw_iload hX dX1_greatestByTrying_86 rfl ?_
                exact mw_ireturn hX hE dX1_greatestByTrying_88 (by rw [← hR, gF, if_pos (Or.inr h44)]) (by omega) (by omega)
              · refine mw_aload_n hX dX1_greatestByTrying_47 rfl rfl ?_
                refine mw_aload_n hX dX1_greatestByTrying_48 rfl rfl ?_
                refine mw_iload_n hX dX1_greatestByTrying_49 rfl rfl ?_
                refine mw_iload hX dX1_greatestByTrying_50 rfl ?_
                refine mw_cV hX [_, _] ws_X1_177 dX1_greatestByTrying_52 (c_levelBehind (mw_l X) y b hP (v + I b 4) _ I L) hP.l0 hP.s0 (by decide) rfl (by omega) (by omega) (by omega) (Nat.le_of_ble_eq_true rfl) ?_
                refine mw_iload_n hX dX1_greatestByTrying_55 rfl rfl ?_
                refine mw_ic hX 1 dX1_greatestByTrying_56 rfl ?_
                refine mw_isub hX dX1_greatestByTrying_57 ?_
                rw [nI_pred]
                refine mw_cS hX [_, _, _] ws_X1_128 dX1_greatestByTrying_58 (ih0 _) rfl (by omega) (by omega) (by omega) (Nat.le_of_ble_eq_true rfl) ?_
                refine mw_istore hX dX1_greatestByTrying_61 (Nat.le_of_ble_eq_true rfl) ?_
                dsimp only [List.set]
                refine mw_iload hX dX1_greatestByTrying_63 rfl ?_
                refine mw_aload_n hX dX1_greatestByTrying_65 rfl rfl ?_
                refine mw_iload_n hX dX1_greatestByTrying_66 rfl rfl ?_
                refine mw_iload hX dX1_greatestByTrying_67 rfl ?_
                refine mw_cV hX [_, _] ws_X1_180 dX1_greatestByTrying_69 (c_energyAt (mw_l X) y b hP (v + I b 4) _ I L) hP.l0 hP.s0 (by decide) rfl (by omega) (by omega) (by omega) (Nat.le_of_ble_eq_true rfl) ?_
                refine mw_iload hX dX1_greatestByTrying_72 rfl ?_
                refine mw_iadd hX dX1_greatestByTrying_74 ?_
                refine mw_cS hX [_, _] ws_X1_183 dX1_greatestByTrying_75 (c_max (mw_l X) s _ y I L) rfl (by omega) (by omega) (by omega) (Nat.le_of_ble_eq_true rfl) ?_
                refine mw_istore hX dX1_greatestByTrying_78 (Nat.le_of_ble_eq_true rfl) ?_
                dsimp only [List.set]
                refine mw_inc hX (nI (4 * (j + 1))) dX1_greatestByTrying_80 rfl (mw_4' _) ?_
                dsimp only [List.set]
                refine mw_goto hX (tgt := 34) dX1_greatestByTrying_83 (by decide) ?_
                refine mw_drop 7 ?_
                dsimp only [List.set]
                exact ih (j + 1) _ (by omega) (by rw [← hR]; exact (if_neg (fun q => q.elim h38 h44)).symm)
        exact key (5 - f0) f0 0 (by omega) (by rw [gbtV, hf0])
      · exact absurd (nI_le (a := m + 1) (b := 6) (by omega) (by omega)) h8
set_option maxRecDepth 20000 in
theorem c_bestEnergyX (l : Launch) (q : Int32) (h : ¬ okR q 1 6) (I : mw_I) (L : mw_L) : mw_CT l yX1_bestEnergy (.code yX1_bestEnergy cX1_bestEnergy 2 (some .int)) 12 1 6 [.ref 0, .int q] (mw_Y0, I, L) (.inr "java/lang/IllegalArgumentException") := by
  refine mw_enter RX1 rfl (by decide +kernel) (mw_cat rfl) (Nat.le_of_ble_eq_true rfl) (fun X hX hl hE hT hnm => ?_)
  subst hl
  show mw_G X 0 [some (.ref 0), some (.int q)] [] mw_Y0 I L 0 0
  refine mw_iload_n hX dX1_bestEnergy_0 rfl rfl ?_
  refine mw_ic hX 1 dX1_bestEnergy_1 rfl ?_
  refine mw_bp hX 6 dX1_bestEnergy_2 rfl ?_
  exact mw_cSX hX hE hT [_, _, _] ws_X1_36 dX1_bestEnergy_4 (c_checkRangeX (mw_l X) q 1 6 h mw_Y0 I L) rfl (by omega) (by omega) (by omega) (Nat.le_of_ble_eq_true rfl) (rfl) (by omega) (by omega)
set_option maxRecDepth 20000 in
theorem c_bestEnergyByAllX (l : Launch) (q : Int32) (h : ¬ okR q 1 6) (I : mw_I) (L : mw_L) : mw_CT l yX1_bestEnergyByAll (.code yX1_bestEnergyByAll cX1_bestEnergyByAll 2 (some .int)) 12 1 6 [.ref 0, .int q] (mw_Y0, I, L) (.inr "java/lang/IllegalArgumentException") := by
  refine mw_enter RX1 rfl (by decide +kernel) (mw_cat rfl) (Nat.le_of_ble_eq_true rfl) (fun X hX hl hE hT hnm => ?_)
  subst hl
  show mw_G X 0 [some (.ref 0), some (.int q)] [] mw_Y0 I L 0 0
  refine mw_iload_n hX dX1_bestEnergyByAll_0 rfl rfl ?_
  refine mw_ic hX 1 dX1_bestEnergyByAll_1 rfl ?_
  refine mw_bp hX 6 dX1_bestEnergyByAll_2 rfl ?_
  exact mw_cSX hX hE hT [_, _, _] ws_X1_36 dX1_bestEnergyByAll_4 (c_checkRangeX (mw_l X) q 1 6 h mw_Y0 I L) rfl (by omega) (by omega) (by omega) (Nat.le_of_ble_eq_true rfl) (rfl) (by omega) (by omega)
set_option maxRecDepth 20000 in
theorem c_bestReleaseX (l : Launch) (q : Int32) (h : ¬ okR q 1 6) (I : mw_I) (L : mw_L) : mw_CT l yX1_bestRelease (.code yX1_bestRelease cX1_bestRelease 2 (some .int)) 12 1 6 [.ref 0, .int q] (mw_Y0, I, L) (.inr "java/lang/IllegalArgumentException") := by
  refine mw_enter RX1 rfl (by decide +kernel) (mw_cat rfl) (Nat.le_of_ble_eq_true rfl) (fun X hX hl hE hT hnm => ?_)
  subst hl
  show mw_G X 0 [some (.ref 0), some (.int q)] [] mw_Y0 I L 0 0
  refine mw_iload_n hX dX1_bestRelease_0 rfl rfl ?_
  refine mw_ic hX 1 dX1_bestRelease_1 rfl ?_
  refine mw_bp hX 6 dX1_bestRelease_2 rfl ?_
  exact mw_cSX hX hE hT [_, _, _] ws_X1_36 dX1_bestRelease_4 (c_checkRangeX (mw_l X) q 1 6 h mw_Y0 I L) rfl (by omega) (by omega) (by omega) (Nat.le_of_ble_eq_true rfl) (rfl) (by omega) (by omega)
set_option maxRecDepth 20000 in
theorem c_bestEnergy (l : Launch) (m : Nat) (h6 : m < 6) (mn : Nat) (hmn : mn ≤ 20) (I : mw_I) (hm : I (7 + 11 * 0) 3 = nI mn) (L : mw_L) : mw_CT l yX1_bestEnergy (.code yX1_bestEnergy cX1_bestEnergy 2 (some .int)) 12 1 6 [.ref 0, .int (nI (m + 1))] (mw_Y0, I, L) (.inl (some (.int (greatFromV (wbI m I) (waterV (wbI m I) (7 + 11 * 0)))), mw_Y0, wbI m I, L)) := by
  refine mw_enter RX1 rfl (by decide +kernel) (mw_cat rfl) (Nat.le_of_ble_eq_true rfl) (fun X hX hl hE hT hnm => ?_)
  subst hl
  show mw_G X 0 [some (.ref 0), some (.int (nI (m + 1)))] [] mw_Y0 I L 0 0
  refine mw_iload_n hX dX1_bestEnergy_0 rfl rfl ?_
  refine mw_ic hX 1 dX1_bestEnergy_1 rfl ?_
  refine mw_bp hX 6 dX1_bestEnergy_2 rfl ?_
  refine mw_cS hX [_, _, _] ws_X1_36 dX1_bestEnergy_4 (c_checkRange (mw_l X) (nI (m + 1)) 1 6 ⟨nI_nlt (a := m + 1) (b := 1) (by omega) (by omega), nI_le (a := m + 1) (b := 6) (by omega) (by decide)⟩ mw_Y0 I L) rfl (by omega) (by omega) (by omega) (Nat.le_of_ble_eq_true rfl) ?_
  refine mw_aload_n hX dX1_bestEnergy_7 rfl rfl ?_
  refine mw_iload_n hX dX1_bestEnergy_8 rfl rfl ?_
  refine mw_ic hX 1 dX1_bestEnergy_9 rfl ?_
  refine mw_isub hX dX1_bestEnergy_10 ?_
  rw [nI_pred]
  refine mw_cV hX [_] ws_X1_122 dX1_bestEnergy_11 (c_workBackTo (mw_l X) m (by omega) mn hmn I hm L) (mw_Yl (by decide)) mw_YW (by decide) rfl (by omega) (by omega) (by omega) (Nat.le_of_ble_eq_true rfl) ?_
  refine mw_aload_n hX dX1_bestEnergy_14 rfl rfl ?_
  refine mw_aload_n hX dX1_bestEnergy_15 rfl rfl ?_
  refine mw_getR hX (r := 1) dX1_bestEnergy_16 (mw_Yl (by decide)) mw_YW fl_X1_11 (by decide) (by decide) rfl rfl ?_
  refine mw_ic hX 0 dX1_bestEnergy_19 rfl ?_
  refine mw_aaloadP hX (j := 0) dX1_bestEnergy_20 (mw_Yl (by decide)) rfl rfl (by decide) (by decide) (mw_Yp (by omega)) ?_
  refine mw_cV hX [] ws_X1_90 dX1_bestEnergy_21 (c_waterInPond (mw_l X) mw_Y0 _ (mw_P0 (i := 0) (by omega)) _ L) (mw_P0 (i := 0) (by omega)).l0 (mw_P0 (i := 0) (by omega)).s0 (by decide) rfl (by omega) (by omega) (by omega) (Nat.le_of_ble_eq_true rfl) ?_
  refine mw_cV hX [_] ws_X1_125 dX1_bestEnergy_24 (c_greatestFrom (mw_l X) _ mn hmn _ ((congrFun (fr_wb (by omega) (by omega)) 3).trans hm) L) (mw_Yl (by decide)) mw_YW (by decide) rfl (by omega) (by omega) (by omega) (Nat.le_of_ble_eq_true rfl) ?_
  exact mw_ireturn hX hE dX1_bestEnergy_27 (rfl) (by omega) (by omega)
set_option maxRecDepth 20000 in
theorem c_bestEnergyByAll (l : Launch) (m : Nat) (h6 : m < 6) (mn : Nat) (hmn : mn ≤ 20) (I : mw_I) (hm : I (7 + 11 * 0) 3 = nI mn) (L : mw_L) : mw_CT l yX1_bestEnergyByAll (.code yX1_bestEnergyByAll cX1_bestEnergyByAll 2 (some .int)) 12 1 6 [.ref 0, .int (nI (m + 1))] (mw_Y0, I, L) (.inl (some (.int (gbtV I (7 + 11 * 0) (m + 1) (waterV I (7 + 11 * 0)))), mw_Y0, I, L)) := by
  refine mw_enter RX1 rfl (by decide +kernel) (mw_cat rfl) (Nat.le_of_ble_eq_true rfl) (fun X hX hl hE hT hnm => ?_)
  subst hl
  show mw_G X 0 [some (.ref 0), some (.int (nI (m + 1)))] [] mw_Y0 I L 0 0
  refine mw_iload_n hX dX1_bestEnergyByAll_0 rfl rfl ?_
  refine mw_ic hX 1 dX1_bestEnergyByAll_1 rfl ?_
  refine mw_bp hX 6 dX1_bestEnergyByAll_2 rfl ?_
  refine mw_cS hX [_, _, _] ws_X1_36 dX1_bestEnergyByAll_4 (c_checkRange (mw_l X) (nI (m + 1)) 1 6 ⟨nI_nlt (a := m + 1) (b := 1) (by omega) (by omega), nI_le (a := m + 1) (b := 6) (by omega) (by decide)⟩ mw_Y0 I L) rfl (by omega) (by omega) (by omega) (Nat.le_of_ble_eq_true rfl) ?_
  refine mw_aload_n hX dX1_bestEnergyByAll_7 rfl rfl ?_
  refine mw_getR hX (r := 1) dX1_bestEnergyByAll_8 (mw_Yl (by decide)) mw_YW fl_X1_11 (by decide) (by decide) rfl rfl ?_
  refine mw_ic hX 0 dX1_bestEnergyByAll_11 rfl ?_
  refine mw_aaloadP hX (j := 0) dX1_bestEnergyByAll_12 (mw_Yl (by decide)) rfl rfl (by decide) (by decide) (mw_Yp (by omega)) ?_
  refine mw_aload_n hX dX1_bestEnergyByAll_13 rfl rfl ?_
  refine mw_getR hX (r := 1) dX1_bestEnergyByAll_14 (mw_Yl (by decide)) mw_YW fl_X1_11 (by decide) (by decide) rfl rfl ?_
  refine mw_ic hX 0 dX1_bestEnergyByAll_17 rfl ?_
  refine mw_aaloadP hX (j := 0) dX1_bestEnergyByAll_18 (mw_Yl (by decide)) rfl rfl (by decide) (by decide) (mw_Yp (by omega)) ?_
  refine mw_cV hX [] ws_X1_90 dX1_bestEnergyByAll_19 (c_waterInPond (mw_l X) mw_Y0 _ (mw_P0 (i := 0) (by omega)) _ L) (mw_P0 (i := 0) (by omega)).l0 (mw_P0 (i := 0) (by omega)).s0 (by decide) rfl (by omega) (by omega) (by omega) (Nat.le_of_ble_eq_true rfl) ?_
  refine mw_iload_n hX dX1_bestEnergyByAll_22 rfl rfl ?_
  refine mw_cS hX [_, _, _] ws_X1_128 dX1_bestEnergyByAll_23 (c_gbt (mw_l X) mw_Y0 _ (mw_P0 (i := 0) (by omega)) mn hmn I hm L (m + 1) (by omega) _) rfl (by omega) (by omega) (by omega) (Nat.le_of_ble_eq_true rfl) ?_
  exact mw_ireturn hX hE dX1_bestEnergyByAll_26 (rfl) (by omega) (by omega)
set_option maxRecDepth 20000 in
theorem c_bestRelease (l : Launch) (m : Nat) (h6 : m < 6) (mn : Nat) (hmn : mn ≤ 20) (I : mw_I) (hm : I (7 + 11 * 0) 3 = nI mn) (L : mw_L) : mw_CT l yX1_bestRelease (.code yX1_bestRelease cX1_bestRelease 2 (some .int)) 12 1 6 [.ref 0, .int (nI (m + 1))] (mw_Y0, I, L) (.inl (some (.int (leastBestV (wbI m I) (waterV (wbI m I) (7 + 11 * 0) + wbI m I (7 + 11 * 0) 4))), mw_Y0, wbI m I, L)) := by
  refine mw_enter RX1 rfl (by decide +kernel) (mw_cat rfl) (Nat.le_of_ble_eq_true rfl) (fun X hX hl hE hT hnm => ?_)
  subst hl
  show mw_G X 0 [some (.ref 0), some (.int (nI (m + 1)))] [] mw_Y0 I L 0 0
  refine mw_iload_n hX dX1_bestRelease_0 rfl rfl ?_
  refine mw_ic hX 1 dX1_bestRelease_1 rfl ?_
  refine mw_bp hX 6 dX1_bestRelease_2 rfl ?_
  refine mw_cS hX [_, _, _] ws_X1_36 dX1_bestRelease_4 (c_checkRange (mw_l X) (nI (m + 1)) 1 6 ⟨nI_nlt (a := m + 1) (b := 1) (by omega) (by omega), nI_le (a := m + 1) (b := 6) (by omega) (by decide)⟩ mw_Y0 I L) rfl (by omega) (by omega) (by omega) (Nat.le_of_ble_eq_true rfl) ?_
  refine mw_aload_n hX dX1_bestRelease_7 rfl rfl ?_
  refine mw_iload_n hX dX1_bestRelease_8 rfl rfl ?_
  refine mw_ic hX 1 dX1_bestRelease_9 rfl ?_
  refine mw_isub hX dX1_bestRelease_10 ?_
  rw [nI_pred]
  refine mw_cV hX [_] ws_X1_122 dX1_bestRelease_11 (c_workBackTo (mw_l X) m (by omega) mn hmn I hm L) (mw_Yl (by decide)) mw_YW (by decide) rfl (by omega) (by omega) (by omega) (Nat.le_of_ble_eq_true rfl) ?_
  refine mw_aload_n hX dX1_bestRelease_14 rfl rfl ?_
  refine mw_aload_n hX dX1_bestRelease_15 rfl rfl ?_
  refine mw_getR hX (r := 1) dX1_bestRelease_16 (mw_Yl (by decide)) mw_YW fl_X1_11 (by decide) (by decide) rfl rfl ?_
  refine mw_ic hX 0 dX1_bestRelease_19 rfl ?_
  refine mw_aaloadP hX (j := 0) dX1_bestRelease_20 (mw_Yl (by decide)) rfl rfl (by decide) (by decide) (mw_Yp (by omega)) ?_
  refine mw_cV hX [] ws_X1_90 dX1_bestRelease_21 (c_waterInPond (mw_l X) mw_Y0 _ (mw_P0 (i := 0) (by omega)) _ L) (mw_P0 (i := 0) (by omega)).l0 (mw_P0 (i := 0) (by omega)).s0 (by decide) rfl (by omega) (by omega) (by omega) (Nat.le_of_ble_eq_true rfl) ?_
  refine mw_aload_n hX dX1_bestRelease_24 rfl rfl ?_
  refine mw_getR hX (r := 1) dX1_bestRelease_25 (mw_Yl (by decide)) mw_YW fl_X1_11 (by decide) (by decide) rfl rfl ?_
  refine mw_ic hX 0 dX1_bestRelease_28 rfl ?_
  refine mw_aaloadP hX (j := 0) dX1_bestRelease_29 (mw_Yl (by decide)) rfl rfl (by decide) (by decide) (mw_Yp (by omega)) ?_
  refine mw_getI hX dX1_bestRelease_30 (mw_P0 (i := 0) (by omega)).l0 (mw_P0 (i := 0) (by omega)).s0 fl_X1_50 (by decide) (by decide) rfl ?_
  refine mw_iadd hX dX1_bestRelease_33 ?_
  refine mw_cV hX [_] ws_X1_132 dX1_bestRelease_34 (c_leastBestRelease (mw_l X) _ mn hmn _ ((congrFun (fr_wb (by omega) (by omega)) 3).trans hm) L) (mw_Yl (by decide)) mw_YW (by decide) rfl (by omega) (by omega) (by omega) (Nat.le_of_ble_eq_true rfl) ?_
  exact mw_ireturn hX hE dX1_bestRelease_37 (rfl) (by omega) (by omega)
end
