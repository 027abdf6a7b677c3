/-! THE MACHINE BY NAMES: mw_G: from here, wherever the named cells lie, the machine comes to its end. A row an instruction. -/
def mw_bg : List Cond := lw_tbl.filter goodWord
theorem mw_in {w : Cond} (h : w ∈ lw_tbl) (g : goodWord w = true) : w ∈ mw_bg := List.mem_filter.mpr ⟨h, g⟩
theorem mw_inT {w : Cond} (i : Nat) (h : tables_1[i]? = some w) (g : goodWord w = true) : w ∈ mw_bg := mw_in (List.mem_append_right _ (List.mem_of_getElem? h)) g
theorem mw_inS {w : Cond} (i : Nat) (h : (k2_sels lw_privs)[i]? = some w) (g : goodWord w = true) : w ∈ mw_bg := mw_in (List.mem_append_left _ (List.mem_of_getElem? h)) g
theorem mw_bgood {ws : List Cond} (h : ∀ w ∈ ws, w ∈ mw_bg) {y : Cond} : GoodIn (y :: mw_bg) ws := fun w hw => ⟨List.mem_cons_of_mem _ (h w hw), good_of_word (List.mem_filter.mp (h w hw)).2⟩
theorem mw_bgood' {ws : List Cond} (h : ∀ w ∈ ws, w ∈ mw_bg) : GoodIn mw_bg ws := fun w hw => ⟨h w hw, good_of_word (List.mem_filter.mp (h w hw)).2⟩
abbrev mw_X : Type := Program × Launch × Env × Room × State × MethodId × Array Value × List Frame × Method × Code × (State → Prop) × va_G × (Nat → ClassId) × (Nat → Nat) × Nat
abbrev mw_l (X : mw_X) : Launch := X.2.1
abbrev mw_meth (X : mw_X) : Method := X.2.2.2.2.2.2.2.2.1
abbrev mw_code (X : mw_X) : Code := X.2.2.2.2.2.2.2.2.2.1
def mw_AA (ad0 : Nat → Nat) (N0 sz : Nat) : Nat → Prop := fun q => (∃ k, k < N0 ∧ q = ad0 k) ∨ sz ≤ q
def mw_ty (cA : Nat → ClassId) : List (ClassId × FieldType) := [(cA 0, .int), (cA 1, .int), (cA 2, .object RX0), (cA 3, .array .int)]
def mw_Rl (D : va_G) (cA : Nat → ClassId) (ad0 : Nat → Nat) (N0 : Nat) (s : State) (ad : Nat → Nat) (y : mw_Y) (I : mw_I) (L : mw_L) (H : Heap) (locs : List Loc) : Prop :=
  N0 ≤ y.1 ∧ (∀ k, (k < N0 ∨ y.1 ≤ k) → ad k = ad0 k) ∧ mw_wf y ∧ va_P D mw_cl (mw_ws cA ad y I L) H ∧ va_D (mw_AA ad0 N0 s.heap.size) (mw_ws cA ad y I L) ∧ va_S (mw_AA ad0 N0 s.heap.size) s.heap H locs
def mw_G (X : mw_X) (pc : Nat) (ls : List (Option Value)) (st : List Value) (y : mw_Y) (I : mw_I) (L : mw_L) (n k : Nat) : Prop :=
  match X with
  | (p, l, e, R, s, m, args, below, meth, c, Q, D, cA, ad0, N0) => ∀ (ad : Nat → Nat) (H : Heap) (locs : List Loc) (lsC : Array Slot), mw_Rl D cA ad0 N0 s ad y I L H locs → mw_LR ad c.maxLocals ls lsC → W p l e R s m args below meth c H locs n k Q (F0 m pc lsC (st.map (mw_tr ad)))
abbrev mw_IAE : String := "java/lang/IllegalArgumentException"
abbrev mw_ISE : String := "java/lang/IllegalStateException"
abbrev mw_dR : MethodName := ⟨"java/lang/RuntimeException", "<init>", "(Ljava/lang/String;)V"⟩
abbrev mw_dE : MethodName := ⟨"java/lang/Exception", "<init>", "(Ljava/lang/String;)V"⟩
abbrev mw_dT : MethodName := ⟨"java/lang/Throwable", "<init>", "(Ljava/lang/String;)V"⟩
/-- what a throw and a new array ask of the state beside the words -/
def mw_ZZ (A : Nat → Prop) (U : State) : Prop :=
  vx_Zq Bundle.tN "UNASSIGNED_STACK" Bundle.steD A U U.heap ∧ vx_Zq Bundle.tN "SUPPRESSED_SENTINEL" Bundle.listD A U U.heap ∧ (∃ sa, vk_R RX1 137 "out of range" sa U) ∧ (∃ sa, vk_R RX1 77 "more than 200 hours" sa U) ∧ (∃ sa, vk_R RX1 88 "the account is less than the amount" sa U) ∧
  va_Nw (.castable mw_IAE mw_IAE) U ∧ va_Nw (.castable mw_ISE mw_ISE) U ∧ va_Nc mw_IAE mw_ISE U ∧ va_Nc mw_ISE mw_IAE U ∧ va_AO RX0 U ∧ va_AOA .int U ∧ va_Nw (.declares mw_dR) U ∧ va_Nw (.declares mw_dE) U ∧ va_Nw (.declares mw_dT) U
def mw_Ok (own : String) (cc : ByteArray) (D0 CM SM : Nat) (X : mw_X) : Prop :=
  match X with
  | (p, l, e, R, s, m, args, below, meth, c, Q, D, cA, ad0, N0) => p.tables.exec = Jvm.exec ∧ c.code = cc ∧ s.vm.findClass own = some m.cls ∧ (∀ w ∈ mw_bg, w.before args s = true) ∧ va_K D mw_cl (mw_ty cA) s ∧ mw_ZZ (mw_AA ad0 N0 s.heap.size) s ∧ l.stackTraces = false ∧ (10 * D0 + 10 ≤ R.frames ∧ 200 * D0 + 300 ≤ R.locals ∧ CM ≤ R.cells ∧ SM ≤ R.slots)
section MWR
variable {own : String} {cc : ByteArray} {D0 CM SM : Nat} {X : mw_X} {pc : Nat} {ls : List (Option Value)} {st : List Value} {y : mw_Y} {I : mw_I} {L : mw_L} {n k : Nat}
theorem mw_iconst (hX : mw_Ok own cc D0 CM SM X) {i : Int} (d : decode cc pc = .ok (.iconst i, 1)) (kk : mw_G X (pc + 1) ls (.int (Int32.ofInt i) :: st) y I L n k) : mw_G X pc ls (st) y I L n k := by
  obtain ⟨p, l, e, R, s, m, args, below, meth, c, Q, D, cA, ad0, N0⟩ := X
  obtain ⟨hx, hb, -⟩ := hX
  intro ad H locs lsC hR hL
  exact lv_iconst hx hb d rfl (kk ad H locs lsC hR hL)
theorem mw_bipush (hX : mw_Ok own cc D0 CM SM X) {i : Int} (d : decode cc pc = .ok (.bipush i, 2)) (kk : mw_G X (pc + 2) ls (.int (Int8.ofInt i).toInt32 :: st) y I L n k) : mw_G X pc ls (st) y I L n k := by
  obtain ⟨p, l, e, R, s, m, args, below, meth, c, Q, D, cA, ad0, N0⟩ := X
  obtain ⟨hx, hb, -⟩ := hX
  intro ad H locs lsC hR hL
  exact lv_bipush hx hb d rfl (kk ad H locs lsC hR hL)
theorem mw_sipush (hX : mw_Ok own cc D0 CM SM X) {i : Int} (d : decode cc pc = .ok (.sipush i, 3)) (kk : mw_G X (pc + 3) ls (.int (Int16.ofInt i).toInt32 :: st) y I L n k) : mw_G X pc ls (st) y I L n k := by
  obtain ⟨p, l, e, R, s, m, args, below, meth, c, Q, D, cA, ad0, N0⟩ := X
  obtain ⟨hx, hb, -⟩ := hX
  intro ad H locs lsC hR hL
  exact lv_sipush hx hb d rfl (kk ad H locs lsC hR hL)
theorem mw_iadd (hX : mw_Ok own cc D0 CM SM X) {a b : Int32} (d : decode cc pc = .ok (.iadd, 1)) (kk : mw_G X (pc + 1) ls (.int (a + b) :: st) y I L n k) : mw_G X pc ls (.int b :: .int a :: st) y I L n k := by
  obtain ⟨p, l, e, R, s, m, args, below, meth, c, Q, D, cA, ad0, N0⟩ := X
  obtain ⟨hx, hb, -⟩ := hX
  intro ad H locs lsC hR hL
  exact lv_iadd hx hb d  (kk ad H locs lsC hR hL)
theorem mw_isub (hX : mw_Ok own cc D0 CM SM X) {a b : Int32} (d : decode cc pc = .ok (.isub, 1)) (kk : mw_G X (pc + 1) ls (.int (a - b) :: st) y I L n k) : mw_G X pc ls (.int b :: .int a :: st) y I L n k := by
  obtain ⟨p, l, e, R, s, m, args, below, meth, c, Q, D, cA, ad0, N0⟩ := X
  obtain ⟨hx, hb, -⟩ := hX
  intro ad H locs lsC hR hL
  exact lv_isub hx hb d  (kk ad H locs lsC hR hL)
theorem mw_imul (hX : mw_Ok own cc D0 CM SM X) {a b : Int32} (d : decode cc pc = .ok (.imul, 1)) (kk : mw_G X (pc + 1) ls (.int (a * b) :: st) y I L n k) : mw_G X pc ls (.int b :: .int a :: st) y I L n k := by
  obtain ⟨p, l, e, R, s, m, args, below, meth, c, Q, D, cA, ad0, N0⟩ := X
  obtain ⟨hx, hb, -⟩ := hX
  intro ad H locs lsC hR hL
  exact lv_imul hx hb d  (kk ad H locs lsC hR hL)
theorem mw_iand (hX : mw_Ok own cc D0 CM SM X) {a b : Int32} (d : decode cc pc = .ok (.iand, 1)) (kk : mw_G X (pc + 1) ls (.int (a &&& b) :: st) y I L n k) : mw_G X pc ls (.int b :: .int a :: st) y I L n k := by
  obtain ⟨p, l, e, R, s, m, args, below, meth, c, Q, D, cA, ad0, N0⟩ := X
  obtain ⟨hx, hb, -⟩ := hX
  intro ad H locs lsC hR hL
  exact lv_iand hx hb d  (kk ad H locs lsC hR hL)
theorem mw_ixor (hX : mw_Ok own cc D0 CM SM X) {a b : Int32} (d : decode cc pc = .ok (.ixor, 1)) (kk : mw_G X (pc + 1) ls (.int (a ^^^ b) :: st) y I L n k) : mw_G X pc ls (.int b :: .int a :: st) y I L n k := by
  obtain ⟨p, l, e, R, s, m, args, below, meth, c, Q, D, cA, ad0, N0⟩ := X
  obtain ⟨hx, hb, -⟩ := hX
  intro ad H locs lsC hR hL
  exact lv_ixor hx hb d  (kk ad H locs lsC hR hL)
theorem mw_idiv (hX : mw_Ok own cc D0 CM SM X) {a b : Int32} (hne : ¬ b = 0) (d : decode cc pc = .ok (.idiv, 1)) (kk : mw_G X (pc + 1) ls (.int (a / b) :: st) y I L n k) : mw_G X pc ls (.int b :: .int a :: st) y I L n k := by
  obtain ⟨p, l, e, R, s, m, args, below, meth, c, Q, D, cA, ad0, N0⟩ := X
  obtain ⟨hx, hb, -⟩ := hX
  intro ad H locs lsC hR hL
  exact lv_idiv hx hb d hne (kk ad H locs lsC hR hL)
theorem mw_irem (hX : mw_Ok own cc D0 CM SM X) {a b : Int32} (hne : ¬ b = 0) (d : decode cc pc = .ok (.irem, 1)) (kk : mw_G X (pc + 1) ls (.int (a - a / b * b) :: st) y I L n k) : mw_G X pc ls (.int b :: .int a :: st) y I L n k := by
  obtain ⟨p, l, e, R, s, m, args, below, meth, c, Q, D, cA, ad0, N0⟩ := X
  obtain ⟨hx, hb, -⟩ := hX
  intro ad H locs lsC hR hL
  exact lv_irem hx hb d hne (kk ad H locs lsC hR hL)
theorem mw_ineg (hX : mw_Ok own cc D0 CM SM X) {a : Int32} (d : decode cc pc = .ok (.ineg, 1)) (kk : mw_G X (pc + 1) ls (.int (-a) :: st) y I L n k) : mw_G X pc ls (.int a :: st) y I L n k := by
  obtain ⟨p, l, e, R, s, m, args, below, meth, c, Q, D, cA, ad0, N0⟩ := X
  obtain ⟨hx, hb, -⟩ := hX
  intro ad H locs lsC hR hL
  exact lv_ineg hx hb d  (kk ad H locs lsC hR hL)
theorem mw_iushr (hX : mw_Ok own cc D0 CM SM X) {a b v : Int32} (hv : (a.toUInt32 >>> (b.toUInt32 &&& Int32.toUInt32 31)).toInt32 = v) (d : decode cc pc = .ok (.iushr, 1)) (kk : mw_G X (pc + 1) ls (.int v :: st) y I L n k) : mw_G X pc ls (.int b :: .int a :: st) y I L n k := by
  obtain ⟨p, l, e, R, s, m, args, below, meth, c, Q, D, cA, ad0, N0⟩ := X
  obtain ⟨hx, hb, -⟩ := hX
  intro ad H locs lsC hR hL
  exact lv_iushr hx hb d hv (kk ad H locs lsC hR hL)
theorem mw_i2l (hX : mw_Ok own cc D0 CM SM X) {a : Int32} (d : decode cc pc = .ok (.i2l, 1)) (kk : mw_G X (pc + 1) ls (.long a.toInt64 :: st) y I L n k) : mw_G X pc ls (.int a :: st) y I L n k := by
  obtain ⟨p, l, e, R, s, m, args, below, meth, c, Q, D, cA, ad0, N0⟩ := X
  obtain ⟨hx, hb, -⟩ := hX
  intro ad H locs lsC hR hL
  exact lv_i2l hx hb d rfl (kk ad H locs lsC hR hL)
theorem mw_lcmp (hX : mw_Ok own cc D0 CM SM X) {a b : Int64} (d : decode cc pc = .ok (.lcmp, 1)) (kk : mw_G X (pc + 1) ls (.int (lg_cmp a b) :: st) y I L n k) : mw_G X pc ls (.long b :: .long a :: st) y I L n k := by
  obtain ⟨p, l, e, R, s, m, args, below, meth, c, Q, D, cA, ad0, N0⟩ := X
  obtain ⟨hx, hb, -⟩ := hX
  intro ad H locs lsC hR hL
  exact W.lcmp hx hb d  (kk ad H locs lsC hR hL)
theorem mw_dupR (hX : mw_Ok own cc D0 CM SM X) {a : Nat} (d : decode cc pc = .ok (.dup, 1)) (kk : mw_G X (pc + 1) ls (.ref a :: .ref a :: st) y I L n k) : mw_G X pc ls (.ref a :: st) y I L n k := by
  obtain ⟨p, l, e, R, s, m, args, below, meth, c, Q, D, cA, ad0, N0⟩ := X
  obtain ⟨hx, hb, -⟩ := hX
  intro ad H locs lsC hR hL
  exact lv_dup hx hb d rfl (kk ad H locs lsC hR hL)
theorem mw_dupI (hX : mw_Ok own cc D0 CM SM X) {a : Int32} (d : decode cc pc = .ok (.dup, 1)) (kk : mw_G X (pc + 1) ls (.int a :: .int a :: st) y I L n k) : mw_G X pc ls (.int a :: st) y I L n k := by
  obtain ⟨p, l, e, R, s, m, args, below, meth, c, Q, D, cA, ad0, N0⟩ := X
  obtain ⟨hx, hb, -⟩ := hX
  intro ad H locs lsC hR hL
  exact lv_dup hx hb d rfl (kk ad H locs lsC hR hL)
theorem mw_dup2 (hX : mw_Ok own cc D0 CM SM X) {a : Nat} {b : Int32} (d : decode cc pc = .ok (.dup2, 1)) (kk : mw_G X (pc + 1) ls (.int b :: .ref a :: .int b :: .ref a :: st) y I L n k) : mw_G X pc ls (.int b :: .ref a :: st) y I L n k := by
  obtain ⟨p, l, e, R, s, m, args, below, meth, c, Q, D, cA, ad0, N0⟩ := X
  obtain ⟨hx, hb, -⟩ := hX
  intro ad H locs lsC hR hL
  exact lv_dup2_11 hx hb d rfl rfl (kk ad H locs lsC hR hL)
theorem mw_popI (hX : mw_Ok own cc D0 CM SM X) {a : Int32} (d : decode cc pc = .ok (.pop, 1)) (kk : mw_G X (pc + 1) ls (st) y I L n k) : mw_G X pc ls (.int a :: st) y I L n k := by
  obtain ⟨p, l, e, R, s, m, args, below, meth, c, Q, D, cA, ad0, N0⟩ := X
  obtain ⟨hx, hb, -⟩ := hX
  intro ad H locs lsC hR hL
  exact lv_pop hx hb d rfl (kk ad H locs lsC hR hL)
theorem mw_ldc (hX : mw_Ok own cc D0 CM SM X) {v : Int32} {idx : Nat} (d : decode cc pc = .ok (.ldc idx, 2)) (hw : Cond.constant own idx v ∈ mw_bg) (kk : mw_G X (pc + 2) ls (.int v :: st) y I L n k) : mw_G X pc ls st y I L n k := by
  obtain ⟨p, l, e, R, s, m, args, below, meth, c, Q, D, cA, ad0, N0⟩ := X
  obtain ⟨hx, hb, hown, hts, -⟩ := hX
  intro ad H locs lsC hR hL
  exact lv_ldc hx hb hown (hts _ hw) d (kk ad H locs lsC hR hL)
theorem mw_iload_n (hX : mw_Ok own cc D0 CM SM X) {f : Fin 4} {i : Nat} {v : Int32} (d : decode cc pc = .ok (.iload_n f, 1)) (hi : (f : Nat) = i) (h : ls[i]? = some (some (.int v))) (kk : mw_G X (pc + 1) ls (.int v :: st) y I L n k) : mw_G X pc ls st y I L n k := by
  obtain ⟨p, l, e, R, s, m, args, below, meth, c, Q, D, cA, ad0, N0⟩ := X
  obtain ⟨hx, hb, -⟩ := hX
  intro ad H locs lsC hR hL
  exact lv_iload_n hx hb d hi (hL.2.2.2 i _ h).2 (kk ad H locs lsC hR hL)
theorem mw_aload_n (hX : mw_Ok own cc D0 CM SM X) {f : Fin 4} {i : Nat} {v : Nat} (d : decode cc pc = .ok (.aload_n f, 1)) (hi : (f : Nat) = i) (h : ls[i]? = some (some (.ref v))) (kk : mw_G X (pc + 1) ls (.ref v :: st) y I L n k) : mw_G X pc ls st y I L n k := by
  obtain ⟨p, l, e, R, s, m, args, below, meth, c, Q, D, cA, ad0, N0⟩ := X
  obtain ⟨hx, hb, -⟩ := hX
  intro ad H locs lsC hR hL
  exact lv_aload_n hx hb d hi (hL.2.2.2 i _ h).2 (kk ad H locs lsC hR hL)
theorem mw_iload (hX : mw_Ok own cc D0 CM SM X) {i : Nat} {v : Int32} (d : decode cc pc = .ok (.iload i, 2)) (h : ls[i]? = some (some (.int v))) (kk : mw_G X (pc + 2) ls (.int v :: st) y I L n k) : mw_G X pc ls st y I L n k := by
  obtain ⟨p, l, e, R, s, m, args, below, meth, c, Q, D, cA, ad0, N0⟩ := X
  obtain ⟨hx, hb, -⟩ := hX
  intro ad H locs lsC hR hL
  exact lv_iload hx hb d (hL.2.2.2 i _ h).2 (kk ad H locs lsC hR hL)
theorem mw_aload (hX : mw_Ok own cc D0 CM SM X) {i : Nat} {v : Nat} (d : decode cc pc = .ok (.aload i, 2)) (h : ls[i]? = some (some (.ref v))) (kk : mw_G X (pc + 2) ls (.ref v :: st) y I L n k) : mw_G X pc ls st y I L n k := by
  obtain ⟨p, l, e, R, s, m, args, below, meth, c, Q, D, cA, ad0, N0⟩ := X
  obtain ⟨hx, hb, -⟩ := hX
  intro ad H locs lsC hR hL
  exact lv_aload hx hb d (hL.2.2.2 i _ h).2 (kk ad H locs lsC hR hL)
theorem mw_istore_n (hX : mw_Ok own cc D0 CM SM X) {f : Fin 4} {i : Nat} {v : Int32} (d : decode cc pc = .ok (.istore_n f, 1)) (hi : (f : Nat) = i) (hn : i < ls.length) (kk : mw_G X (pc + 1) (ls.set i (some (.int v))) st y I L n k) : mw_G X pc ls (.int v :: st) y I L n k := by
  obtain ⟨p, l, e, R, s, m, args, below, meth, c, Q, D, cA, ad0, N0⟩ := X
  obtain ⟨hx, hb, -⟩ := hX
  intro ad H locs lsC hR hL
  exact lv_istore_n hx hb d hi hL.has (by rw [← hL.2.2.1]; exact hn) rfl (fun ls' h' => kk ad H locs ls' hR (hL.put (v := .int v) rfl h'))
theorem mw_istore (hX : mw_Ok own cc D0 CM SM X) {i : Nat} {v : Int32} (d : decode cc pc = .ok (.istore i, 2)) (hn : i < ls.length) (kk : mw_G X (pc + 2) (ls.set i (some (.int v))) st y I L n k) : mw_G X pc ls (.int v :: st) y I L n k := by
  obtain ⟨p, l, e, R, s, m, args, below, meth, c, Q, D, cA, ad0, N0⟩ := X
  obtain ⟨hx, hb, -⟩ := hX
  intro ad H locs lsC hR hL
  exact lv_istore hx hb d hL.has (by rw [← hL.2.2.1]; exact hn) rfl (fun ls' h' => kk ad H locs ls' hR (hL.put (v := .int v) rfl h'))
theorem mw_astore_n (hX : mw_Ok own cc D0 CM SM X) {f : Fin 4} {i : Nat} {v : Nat} (d : decode cc pc = .ok (.astore_n f, 1)) (hi : (f : Nat) = i) (hn : i < ls.length) (kk : mw_G X (pc + 1) (ls.set i (some (.ref v))) st y I L n k) : mw_G X pc ls (.ref v :: st) y I L n k := by
  obtain ⟨p, l, e, R, s, m, args, below, meth, c, Q, D, cA, ad0, N0⟩ := X
  obtain ⟨hx, hb, -⟩ := hX
  intro ad H locs lsC hR hL
  exact lv_astore_n hx hb d hi hL.has (by rw [← hL.2.2.1]; exact hn) rfl (fun ls' h' => kk ad H locs ls' hR (hL.put (v := .ref v) rfl h'))
theorem mw_astore (hX : mw_Ok own cc D0 CM SM X) {i : Nat} {v : Nat} (d : decode cc pc = .ok (.astore i, 2)) (hn : i < ls.length) (kk : mw_G X (pc + 2) (ls.set i (some (.ref v))) st y I L n k) : mw_G X pc ls (.ref v :: st) y I L n k := by
  obtain ⟨p, l, e, R, s, m, args, below, meth, c, Q, D, cA, ad0, N0⟩ := X
  obtain ⟨hx, hb, -⟩ := hX
  intro ad H locs lsC hR hL
  exact lv_astore hx hb d hL.has (by rw [← hL.2.2.1]; exact hn) rfl (fun ls' h' => kk ad H locs ls' hR (hL.put (v := .ref v) rfl h'))
theorem mw_iinc (hX : mw_Ok own cc D0 CM SM X) {i : Nat} {z : Int} {v : Int32} (d : decode cc pc = .ok (.iinc i z, 3)) (h : ls[i]? = some (some (.int v))) (kk : mw_G X (pc + 3) (ls.set i (some (.int (v + Int32.ofInt z)))) st y I L n k) : mw_G X pc ls st y I L n k := by
  obtain ⟨p, l, e, R, s, m, args, below, meth, c, Q, D, cA, ad0, N0⟩ := X
  obtain ⟨hx, hb, -⟩ := hX
  intro ad H locs lsC hR hL
  obtain ⟨j, hj⟩ := List.getElem?_of_mem (mw_prs_mem (ad := ad) (q := (i, .int v)).mpr ⟨_, h, rfl⟩)
  exact lv_iinc (k := j) (v := v + Int32.ofInt z) hx hb d hL.has hj rfl (by rw [← hL.2.2.1]; exact (List.getElem?_eq_some_iff.mp h).1) rfl (fun ls' h' => kk ad H locs ls' hR (hL.put (v := .int (v + Int32.ofInt z)) rfl h'))
theorem mw_goto (hX : mw_Ok own cc D0 CM SM X) {off : Int} {tgt : Nat} (d : decode cc pc = .ok (.goto off, 3)) (ht : (pc : Int) + off = (tgt : Int)) (kk : mw_G X tgt ls st y I L n k) : mw_G X pc ls st y I L n k := by
  obtain ⟨p, l, e, R, s, m, args, below, meth, c, Q, D, cA, ad0, N0⟩ := X
  obtain ⟨hx, hb, -⟩ := hX
  intro ad H locs lsC hR hL
  exact lv_goto hx hb d ht (kk ad H locs lsC hR hL)
theorem mw_if_eq (hX : mw_Ok own cc D0 CM SM X) {a : Int32} {off : Int} {tgt : Nat} (d : decode cc pc = .ok (.ifCond .eq off, 3)) (ht : (pc : Int) + off = (tgt : Int)) (kt : a = 0 → mw_G X tgt ls st y I L n k) (kf : ¬ a = 0 → mw_G X (pc + 3) ls st y I L n k) : mw_G X pc ls (.int a :: st) y I L n k := by
  obtain ⟨p, l, e, R, s, m, args, below, meth, c, Q, D, cA, ad0, N0⟩ := X
  obtain ⟨hx, hb, -⟩ := hX
  intro ad H locs lsC hR hL
  exact lv_if_eq hx hb d ht (fun h => kt h ad H locs lsC hR hL) (fun h => kf h ad H locs lsC hR hL)
theorem mw_icmp_eq (hX : mw_Ok own cc D0 CM SM X) {a b : Int32} {off : Int} {tgt : Nat} (d : decode cc pc = .ok (.if_icmp .eq off, 3)) (ht : (pc : Int) + off = (tgt : Int)) (kt : a = b → mw_G X tgt ls st y I L n k) (kf : ¬ a = b → mw_G X (pc + 3) ls st y I L n k) : mw_G X pc ls (.int b :: .int a :: st) y I L n k := by
  obtain ⟨p, l, e, R, s, m, args, below, meth, c, Q, D, cA, ad0, N0⟩ := X
  obtain ⟨hx, hb, -⟩ := hX
  intro ad H locs lsC hR hL
  exact lv_icmp_eq hx hb d ht (fun h => kt h ad H locs lsC hR hL) (fun h => kf h ad H locs lsC hR hL)
theorem mw_if_ne (hX : mw_Ok own cc D0 CM SM X) {a : Int32} {off : Int} {tgt : Nat} (d : decode cc pc = .ok (.ifCond .ne off, 3)) (ht : (pc : Int) + off = (tgt : Int)) (kt : ¬ a = 0 → mw_G X tgt ls st y I L n k) (kf : a = 0 → mw_G X (pc + 3) ls st y I L n k) : mw_G X pc ls (.int a :: st) y I L n k := by
  obtain ⟨p, l, e, R, s, m, args, below, meth, c, Q, D, cA, ad0, N0⟩ := X
  obtain ⟨hx, hb, -⟩ := hX
  intro ad H locs lsC hR hL
  exact lv_if_ne hx hb d ht (fun h => kt h ad H locs lsC hR hL) (fun h => kf h ad H locs lsC hR hL)
theorem mw_icmp_ne (hX : mw_Ok own cc D0 CM SM X) {a b : Int32} {off : Int} {tgt : Nat} (d : decode cc pc = .ok (.if_icmp .ne off, 3)) (ht : (pc : Int) + off = (tgt : Int)) (kt : ¬ a = b → mw_G X tgt ls st y I L n k) (kf : a = b → mw_G X (pc + 3) ls st y I L n k) : mw_G X pc ls (.int b :: .int a :: st) y I L n k := by
  obtain ⟨p, l, e, R, s, m, args, below, meth, c, Q, D, cA, ad0, N0⟩ := X
  obtain ⟨hx, hb, -⟩ := hX
  intro ad H locs lsC hR hL
  exact lv_icmp_ne hx hb d ht (fun h => kt h ad H locs lsC hR hL) (fun h => kf h ad H locs lsC hR hL)
theorem mw_if_lt (hX : mw_Ok own cc D0 CM SM X) {a : Int32} {off : Int} {tgt : Nat} (d : decode cc pc = .ok (.ifCond .lt off, 3)) (ht : (pc : Int) + off = (tgt : Int)) (kt : a < 0 → mw_G X tgt ls st y I L n k) (kf : ¬ a < 0 → mw_G X (pc + 3) ls st y I L n k) : mw_G X pc ls (.int a :: st) y I L n k := by
  obtain ⟨p, l, e, R, s, m, args, below, meth, c, Q, D, cA, ad0, N0⟩ := X
  obtain ⟨hx, hb, -⟩ := hX
  intro ad H locs lsC hR hL
  exact lv_if_lt hx hb d ht (fun h => kt h ad H locs lsC hR hL) (fun h => kf h ad H locs lsC hR hL)
theorem mw_icmp_lt (hX : mw_Ok own cc D0 CM SM X) {a b : Int32} {off : Int} {tgt : Nat} (d : decode cc pc = .ok (.if_icmp .lt off, 3)) (ht : (pc : Int) + off = (tgt : Int)) (kt : a < b → mw_G X tgt ls st y I L n k) (kf : ¬ a < b → mw_G X (pc + 3) ls st y I L n k) : mw_G X pc ls (.int b :: .int a :: st) y I L n k := by
  obtain ⟨p, l, e, R, s, m, args, below, meth, c, Q, D, cA, ad0, N0⟩ := X
  obtain ⟨hx, hb, -⟩ := hX
  intro ad H locs lsC hR hL
  exact lv_icmp_lt hx hb d ht (fun h => kt h ad H locs lsC hR hL) (fun h => kf h ad H locs lsC hR hL)
theorem mw_if_ge (hX : mw_Ok own cc D0 CM SM X) {a : Int32} {off : Int} {tgt : Nat} (d : decode cc pc = .ok (.ifCond .ge off, 3)) (ht : (pc : Int) + off = (tgt : Int)) (kt : 0 ≤ a → mw_G X tgt ls st y I L n k) (kf : ¬ 0 ≤ a → mw_G X (pc + 3) ls st y I L n k) : mw_G X pc ls (.int a :: st) y I L n k := by
  obtain ⟨p, l, e, R, s, m, args, below, meth, c, Q, D, cA, ad0, N0⟩ := X
  obtain ⟨hx, hb, -⟩ := hX
  intro ad H locs lsC hR hL
  exact lv_if_ge hx hb d ht (fun h => kt h ad H locs lsC hR hL) (fun h => kf h ad H locs lsC hR hL)
theorem mw_icmp_ge (hX : mw_Ok own cc D0 CM SM X) {a b : Int32} {off : Int} {tgt : Nat} (d : decode cc pc = .ok (.if_icmp .ge off, 3)) (ht : (pc : Int) + off = (tgt : Int)) (kt : b ≤ a → mw_G X tgt ls st y I L n k) (kf : ¬ b ≤ a → mw_G X (pc + 3) ls st y I L n k) : mw_G X pc ls (.int b :: .int a :: st) y I L n k := by
  obtain ⟨p, l, e, R, s, m, args, below, meth, c, Q, D, cA, ad0, N0⟩ := X
  obtain ⟨hx, hb, -⟩ := hX
  intro ad H locs lsC hR hL
  exact lv_icmp_ge hx hb d ht (fun h => kt h ad H locs lsC hR hL) (fun h => kf h ad H locs lsC hR hL)
theorem mw_if_gt (hX : mw_Ok own cc D0 CM SM X) {a : Int32} {off : Int} {tgt : Nat} (d : decode cc pc = .ok (.ifCond .gt off, 3)) (ht : (pc : Int) + off = (tgt : Int)) (kt : 0 < a → mw_G X tgt ls st y I L n k) (kf : ¬ 0 < a → mw_G X (pc + 3) ls st y I L n k) : mw_G X pc ls (.int a :: st) y I L n k := by
  obtain ⟨p, l, e, R, s, m, args, below, meth, c, Q, D, cA, ad0, N0⟩ := X
  obtain ⟨hx, hb, -⟩ := hX
  intro ad H locs lsC hR hL
  exact lv_if_gt hx hb d ht (fun h => kt h ad H locs lsC hR hL) (fun h => kf h ad H locs lsC hR hL)
theorem mw_icmp_gt (hX : mw_Ok own cc D0 CM SM X) {a b : Int32} {off : Int} {tgt : Nat} (d : decode cc pc = .ok (.if_icmp .gt off, 3)) (ht : (pc : Int) + off = (tgt : Int)) (kt : b < a → mw_G X tgt ls st y I L n k) (kf : ¬ b < a → mw_G X (pc + 3) ls st y I L n k) : mw_G X pc ls (.int b :: .int a :: st) y I L n k := by
  obtain ⟨p, l, e, R, s, m, args, below, meth, c, Q, D, cA, ad0, N0⟩ := X
  obtain ⟨hx, hb, -⟩ := hX
  intro ad H locs lsC hR hL
  exact lv_icmp_gt hx hb d ht (fun h => kt h ad H locs lsC hR hL) (fun h => kf h ad H locs lsC hR hL)
theorem mw_if_le (hX : mw_Ok own cc D0 CM SM X) {a : Int32} {off : Int} {tgt : Nat} (d : decode cc pc = .ok (.ifCond .le off, 3)) (ht : (pc : Int) + off = (tgt : Int)) (kt : a ≤ 0 → mw_G X tgt ls st y I L n k) (kf : ¬ a ≤ 0 → mw_G X (pc + 3) ls st y I L n k) : mw_G X pc ls (.int a :: st) y I L n k := by
  obtain ⟨p, l, e, R, s, m, args, below, meth, c, Q, D, cA, ad0, N0⟩ := X
  obtain ⟨hx, hb, -⟩ := hX
  intro ad H locs lsC hR hL
  exact lv_if_le hx hb d ht (fun h => kt h ad H locs lsC hR hL) (fun h => kf h ad H locs lsC hR hL)
theorem mw_icmp_le (hX : mw_Ok own cc D0 CM SM X) {a b : Int32} {off : Int} {tgt : Nat} (d : decode cc pc = .ok (.if_icmp .le off, 3)) (ht : (pc : Int) + off = (tgt : Int)) (kt : a ≤ b → mw_G X tgt ls st y I L n k) (kf : ¬ a ≤ b → mw_G X (pc + 3) ls st y I L n k) : mw_G X pc ls (.int b :: .int a :: st) y I L n k := by
  obtain ⟨p, l, e, R, s, m, args, below, meth, c, Q, D, cA, ad0, N0⟩ := X
  obtain ⟨hx, hb, -⟩ := hX
  intro ad H locs lsC hR hL
  exact lv_icmp_le hx hb d ht (fun h => kt h ad H locs lsC hR hL) (fun h => kf h ad H locs lsC hR hL)
end MWR
