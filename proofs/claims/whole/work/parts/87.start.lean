/-! THE CLAIM OUT OF ONE WALK OF THE LAW'S BODY. Your part is whole_start (and what it stands on); all else here is the same for every law, but numbers. -/
def R_law : String := "RingPiecesLaw"
def lw_P (b : Addr) (xs : List Int32) (args : Array Value) (s : State) : Prop := args = #[.ref b] ∧ s.IntsAt b xs ∧ xs.length ≤ 2049 ∧ (Jvm.Cond.and given_1 narrow_1).before args s = true
def lw_Q (_ : Array Value) (s : State) (o : Outcome) (t : State) : Prop := o = .returned (some (.int 1)) ∧ Framed s o t [] 653990 7134099
def lw_Z (below : List Frame) (a : Array Value) (s : State) : State → Prop := fun t => ∃ o, t.status = .running ∧ Ended t below o ∧ lw_Q a s o t
/-- the law's own end, with 1 on the stack, nothing written that was there before, its room as the claim has it -/
theorem lw_ret {p : Program} {l : Launch} {e : Env} {s : State} {m : MethodId} {below : List Frame} {meth : Method} {c : Code} {b : Nat} (hx : p.tables.exec = Jvm.exec) (hb : c.code = code) (hr : meth.sig.returnType = ret) (hlocks : meth.locks = false) {pc : Nat} {H : Heap} {ls : Array Slot} (hdg : decode code pc = .ok (.ireturn, 1)) : W p l e room_1 s m #[Value.ref b] below meth c H [] 653990 7134099 (lw_Z below #[Value.ref b] s) (F0 m pc ls [.int 1]) := by
  intro T hT X
  obtain ⟨fs, hret, hrun, hended, hW, hframe⟩ := X.leave (v := some (.int 1)) (hlocks := hlocks) (fun h => by rw [hr] at h; cases h)
  have hmeth' : T.vm.method? m = some meth := X.method'
  refine ⟨T.setFrames fs, ?_, .returned (some (.int 1)), hrun, hended, rfl, ⟨_, rfl⟩, hW, hframe⟩
  jvm_step X.here [X.here.top, hx, hb, hdg, hmeth', hr, ret, narrow_b1]
  (try refine ⟨rfl, ?_⟩); (try refine ⟨rfl, ?_⟩)
  first | (intro acts; rw [hret _ acts rfl rfl rfl]) | rw [hret _ _ rfl rfl rfl]
  exact Steps.refl _
/-- what holds at the law's entry: the machine, the code, the tables' words (any of lw_tbl by 'hts w (by decide +kernel)'), the script of L ints xs at the cell b, what the Statement gives of the start (any of its parts by flat_of_before) -/
def lw_At (p : Program) (s : State) (m : MethodId) (meth : Method) (c : Code) (b L : Nat) (xs : Nat → Int32) : Prop :=
  p.tables.exec = Jvm.exec ∧ c.code = code ∧ meth.sig.returnType = ret ∧ c.maxLocals = 8 ∧ s.vm.findClass R_law = some m.cls ∧ (∀ w ∈ lw_tbl, w.before #[Value.ref b] s = true) ∧ va_X b L xs s s.heap ∧ b < s.heap.size ∧ meth.locks = false ∧ (Jvm.Cond.and given_1 narrow_1).before #[Value.ref b] s = true
/-! THE START -/
section START
variable {s : State} {args : Array Value} {A : Nat → Prop}
theorem sl_tb {w : Cond} {b : Nat} (hg : tb_good w = true) (h : w.before args s = true) (hb : b < s.heap.size) (hA : ∀ a : Nat, a < s.heap.size → ¬ A a) : st_L w A s s.heap :=
  ⟨b, s.heap[b], Array.getElem?_eq_getElem hb, hA b hb, fun V args' hW _ => tb_move hW hg h⟩
theorem sl_lays {C n d : String} (hl : (Cond.laysStatic C n d).before args s = true) (hA : ∀ a : Nat, a < s.heap.size → ¬ A a) : st_L (.laysStatic C n d) A s s.heap := by
  obtain ⟨c, k, i, f, a, cell, h1, h2, h3, h4, h5, h6, h7, h8, h9⟩ := Cond.laysStatic_spec hl
  refine ⟨a, cell, h5, hA a (Array.getElem?_eq_some_iff.mp h5).1, fun V args' hW hc => ?_⟩
  have hvm : s.vm.Alike V.vm := hW.alike
  obtain ⟨k', hi', he⟩ := State.fieldFound?_setVm (s := s) hvm h2
  have hi' : V.fieldFound? C n d = some (c, k', i, f) := hi'
  have e1 : V.vm.findClass C = some c := by rw [hvm.findClass]; exact h1
  have e4 : k'.statics = some a := by rw [he]; exact h4
  have e9 : k'.staticTypes[f.slot]? = some f.type := by rw [he]; exact h9
  simp [Cond.before, Cond.holds, Cond.value, e1, hi', e4, hc, h3, h6, h7, h8, e9]
theorem sl_ref {C n d : String} (hl : (Cond.laysStatic C n d).before args s = true) (h : (Cond.isRef (.static C n d)).before args s = true) (hA : ∀ a : Nat, a < s.heap.size → ¬ A a) : st_L (.isRef (.static C n d)) A s s.heap := by
  obtain ⟨c, k, i, f, a, cell, h1, h2, h3, h4, h5, h6, h7, h8, h9⟩ := Cond.laysStatic_spec hl
  refine ⟨a, cell, h5, hA a (Array.getElem?_eq_some_iff.mp h5).1, fun V args' hW hc => ?_⟩
  have hvm : s.vm.Alike V.vm := hW.alike
  obtain ⟨k', hi', he⟩ := State.fieldFound?_setVm (s := s) hvm h2
  have hi' : V.fieldFound? C n d = some (c, k', i, f) := hi'
  have e4 : k'.statics = some a := by rw [he]; exact h4
  have eS : (Term.static C n d).eval args s none [] s = cell.slots[f.slot]? := by simp [Term.eval, State.fieldNamed?, h2, h3, h4, h5, h6]
  have eV : (Term.static C n d).eval args' V none [] V = cell.slots[f.slot]? := by simp [Term.eval, State.fieldNamed?, hi', h3, e4, hc, h6]
  simp only [Cond.before, Cond.holds, Cond.value] at h ⊢
  rw [eS] at h
  rw [eV]
  exact h
theorem sl_cast (ht : tb_OK s) {b : Nat} (hb : b < s.heap.size) (hA : ∀ a : Nat, a < s.heap.size → ¬ A a) : st_L (.castable xcA xcA) A s s.heap := by
  refine ⟨b, s.heap[b], Array.getElem?_eq_getElem hb, hA b hb, fun V args' hW _ => ?_⟩
  obtain ⟨cC, kC, hfc, -, -, -⟩ := Cond.instantiable_spec (in_Jx00060 (ht.warm hW) (args := args'))
  exact cast_x hfc
theorem sl_decl {x : MethodName} {b : Nat} (h : (Cond.declares x).before args s = true) (hb : b < s.heap.size) (hA : ∀ a : Nat, a < s.heap.size → ¬ A a) : st_L (.declares x) A s s.heap := by
  refine ⟨b, s.heap[b], Array.getElem?_eq_getElem hb, hA b hb, fun V args' hW _ => ?_⟩
  have h1 : (Cond.declares x).before args' (V.setVm V.vm) = (Cond.declares x).before args (s.setVm V.vm) := Cond.onTables_vm V.vm _ rfl
  rw [State.setVm_self] at h1
  rw [h1, Cond.declares_setVm hW.alike]
  exact h
end START
abbrev tN9 : String := "java/lang/Throwable"
set_option maxRecDepth 100000 in
set_option maxHeartbeats 4000000 in
theorem own_in : ∀ w ∈ Bundle.ownAtoms RX3 155 xcA xcN, (w ∈ lw_tbl ∧ (tb_good w = true ∨ w ∈ (["java/lang/IndexOutOfBoundsException", "java/lang/RuntimeException", "java/lang/Exception", "java/lang/Throwable"] : List String).map (fun C => Cond.declares ⟨C, "<init>", "(Ljava/lang/String;)V"⟩))) ∨ w = .castable xcA xcA ∨ w = .laysStatic tN9 "UNASSIGNED_STACK" "[Ljava/lang/StackTraceElement;" ∨ w = .laysStatic tN9 "SUPPRESSED_SENTINEL" "Ljava/util/List;" ∨ w = .isRef (.static tN9 "UNASSIGNED_STACK" "[Ljava/lang/StackTraceElement;") ∨ w = .isRef (.static tN9 "SUPPRESSED_SENTINEL" "Ljava/util/List;") := by decide +kernel
set_option maxRecDepth 100000 in
set_option maxHeartbeats 4000000 in
theorem start_ev {p : Program} {s : State} {m : MethodId} {meth : Method} {c : Code} {b L : Nat} {xs : Nat → Int32} (C0 : lw_At p s m meth c b L xs) : evOK (fun q : Nat => s.heap.size ≤ q) s s.heap := by
  obtain ⟨hx, hb, hr, hml, hown, hts, hX, hbl, hlocks, hgv⟩ := id C0
  have hA : ∀ a : Nat, a < s.heap.size → ¬ (fun q : Nat => s.heap.size ≤ q) a := fun a h => Nat.not_le.mpr h
  have ht : tb_OK s := fun w hw hg => tb_move (State.WarmedH.refl s) hg (hts w hw)
  have hf := flat_of_before _ hgv
  refine ⟨ht, ?_, ?_, ?_⟩
  · have harr : (Cond.arrayOf (.static RX0 "C" "[I") .int).before #[Value.ref b] s = true := hf _ (by decide +kernel)
    have hlen : (Cond.eq (.length (.static RX0 "C" "[I")) (.int 16)).before #[Value.ref b] s = true := hf _ (by decide +kernel)
    have hel : ∀ j : Nat, j < 16 → (Cond.eq (.elem (.static RX0 "C" "[I") (.int (Int32.ofNat j))) (.int (kTab j))).before #[Value.ref b] s = true := by
      intro j hj
      refine hf _ ?_
      have h16 : j = 0 ∨ j = 1 ∨ j = 2 ∨ j = 3 ∨ j = 4 ∨ j = 5 ∨ j = 6 ∨ j = 7 ∨ j = 8 ∨ j = 9 ∨ j = 10 ∨ j = 11 ∨ j = 12 ∨ j = 13 ∨ j = 14 ∨ j = 15 := by omega
      rcases h16 with rfl | rfl | rfl | rfl | rfl | rfl | rfl | rfl | rfl | rfl | rfl | rfl | rfl | rfl | rfl | rfl <;> decide +kernel
    obtain ⟨t, h1, h2⟩ := va_Tof (f := fun k => .int (kTab k)) (A := fun q : Nat => s.heap.size ≤ q) (by decide) harr (va_eqt hlen) (fun j hj => va_eqt (hel j hj)) hA
    exact ⟨t, va_Zof (hts (.laysStatic RX0 "C" "[I") (by decide +kernel)) (ini_X0 ht) h1 hA, h2⟩
  · intro w hw
    rcases own_in w hw with ⟨h1, h2 | h2⟩ | rfl | rfl | rfl | rfl | rfl
    · exact sl_tb h2 (hts w h1) hbl hA
    · obtain ⟨C, -, rfl⟩ := List.mem_map.mp h2
      exact sl_decl (hts _ h1) hbl hA
    · exact sl_cast ht hbl hA
    · exact sl_lays (hts _ (by decide +kernel)) hA
    · exact sl_lays (hts _ (by decide +kernel)) hA
    · exact sl_ref (hts _ (by decide +kernel)) (hf _ (by decide +kernel)) hA
    · exact sl_ref (hts _ (by decide +kernel)) (hf _ (by decide +kernel)) hA
  · have key : ∀ (k : Nat) (tx : String), (Cond.exactly (.string RX3 k) "java/lang/String").before #[Value.ref b] s = true → (Cond.stringRef RX3 k tx).before #[Value.ref b] s = true → ∃ a, vk_R RX3 k tx a s := by
      intro k tx h1 h2
      obtain ⟨a, c, cA, kA, q1, -⟩ := Cond.exactly_spec (args := #[Value.ref b]) (first := s) (o := none) (s := s) (idx := []) (t := .string RX3 k) (cls := "java/lang/String") h1
      exact ⟨a, h2, q1⟩
    intro q hq
    simp only [List.mem_cons, List.not_mem_nil, or_false] at hq
    rcases hq with rfl | rfl | rfl | rfl
    · exact key 186 _ (hf _ (by decide +kernel)) (hts _ (by decide +kernel))
    · exact key 188 _ (hf _ (by decide +kernel)) (hts _ (by decide +kernel))
    · exact key 153 _ (hf _ (by decide +kernel)) (hts _ (by decide +kernel))
    · exact key 184 _ (hf _ (by decide +kernel)) (hts _ (by decide +kernel))
theorem arr_K {s : State} {args : Array Value} {ty : FieldType} (hty : ty = .int ∨ ty = .long ∨ ty = .boolean) (h : (Cond.arrayClass ty).before args s = true) : ∃ cA : ClassId, ArrOfT s cA ty ∧ va_RA s cA ty := by
  obtain ⟨c, k, comp, h1, h2, h3⟩ := Cond.arrayClass_spec h
  refine ⟨c, fun n z => ⟨fun k h => (by cases h), k, h2, comp, h3⟩, ?_⟩
  rcases hty with rfl | rfl | rfl <;> exact h1
theorem start_K {s : State} (ht : tb_OK s) : ∃ (D : va_G) (cI cJ cZ : ClassId), va_K D vwCl (tysW cI cJ cZ) s := by
  obtain ⟨c0, i0, h0⟩ := u_known (C := RJx00060) (T := TJx00060) (N := 6) (lyJx ht (args := #[])) (fun _ h => h) (in_Jx00060 ht)
  obtain ⟨c1, i1, h1⟩ := u_known (C := RX0) (T := TX0) (N := 3) (lyX0 ht (args := #[])) (fun _ h => h) (in_X0 ht)
  obtain ⟨c2, i2, h2⟩ := u_known (C := RX1) (T := TX1) (N := 4) (lyX1 ht (args := #[])) (fun _ h => h) (in_X1 ht)
  obtain ⟨c3, i3, h3⟩ := u_known (C := RX2) (T := TX2) (N := 11) (lyX2 ht (args := #[])) (fun _ h => h) (in_X2 ht)
  obtain ⟨c4, i4, h4⟩ := u_known (C := RX3) (T := TX3) (N := 7) (lyX3 ht (args := #[])) (fun _ h => h) (in_X3 ht)
  obtain ⟨c5, i5, h5⟩ := u_known (C := RX4) (T := TX4) (N := 23) (lyX4 ht (args := #[])) (fun _ h => h) (in_X4 ht)
  obtain ⟨cI, a1, a2⟩ := arr_K (Or.inl rfl) (ac_int ht (args := #[]))
  obtain ⟨cJ, b1, b2⟩ := arr_K (Or.inr (Or.inl rfl)) (ac_long ht (args := #[]))
  obtain ⟨cZ, d1, d2⟩ := arr_K (Or.inr (Or.inr rfl)) (ac_boolean ht (args := #[]))
  refine ⟨(fun k => if k = 0 then c0 else if k = 1 then c1 else if k = 2 then c2 else if k = 3 then c3 else if k = 4 then c4 else c5, fun k => if k = 0 then i0 else if k = 1 then i1 else if k = 2 then i2 else if k = 3 then i3 else if k = 4 then i4 else i5), cI, cJ, cZ, ?_, ?_⟩
  · intro k q hq
    match k, hq with
    | 0, hq => cases hq; exact h0
    | 1, hq => cases hq; exact h1
    | 2, hq => cases hq; exact h2
    | 3, hq => cases hq; exact h3
    | 4, hq => cases hq; exact h4
    | 5, hq => cases hq; exact h5
    | k + 6, hq => simp [vwCl] at hq
  · intro k q hq
    match k, hq with
    | 0, hq => cases hq; exact ⟨a1, a2⟩
    | 1, hq => cases hq; exact ⟨b1, b2⟩
    | 2, hq => cases hq; exact ⟨d1, d2⟩
    | k + 3, hq => simp [tysW] at hq
/-- cell(script, 0) -/
def PcC (av : List Value) (b L : Nat) (xs : Nat → Int32) : Array Value → State → Prop := va_Pc av (fun U => va_X b L xs U U.heap ∧ b < U.heap.size)
theorem k_L_cell (l : Launch) {b L : Nat} {xs : Nat → Int32} (hL : L ≤ 2049) : Met l yL_cell [Cond.code yL_cell cL_cell 2 (some .int)] (rmD 1 0 0) (PcC [.ref b, .int 0] b L xs) (QcR (some (.int (if 0 < L then xs 0 else 0)))) 0 0 (fun _ => False) := by
  refine Met.ofW (cc := cL_cell) (maxL := 2) (ret := some .int) (by decide) rfl ?_
  intro p e s m args below meth c s₁ B hml hv
  obtain ⟨rfl, hX, hbl⟩ := hv
  have hx := B.exec
  have hb := B.bytes
  have hr := B.returns
  have hlocks := B.notSynchronized
  have hS : va_S (fun _ => False) s.heap s.heap [] := va_S.rf
  have hbA : ¬ (fun _ : Nat => False) b := fun h => h
  have hl := lv_entry ([.ref b, .int 0]) (n := 2) (Nat.le_of_ble_eq_true rfl)
  rw [lg_entry_eq]
  generalize (lg_sl ([.ref b, .int 0]) ++ List.replicate (2 - (lg_sl ([.ref b, .int 0])).length) Slot.unset).toArray = ls at hl ⊢
  have hl : lv_has ls 2 [(0, .ref b), (1, .int 0)] := hl
  refine lv_iload_n hx hb dL_cell_0 rfl (lv_at hl 1 rfl) ?_
  refine lv_aload_n hx hb dL_cell_1 rfl (lv_at hl 0 rfl) ?_
  refine va_slen hx hb hX hbl hbA hS dL_cell_2 ?_
  refine lv_icmp_ge (tgt := 12) hx hb dL_cell_3 (by decide) (fun c1 => ?_) (fun c1 => ?_)
  · refine lv_iconst (v := 0) hx hb dL_cell_12 (by decide) ?_
    refine rd_i hx hb hr hlocks dL_cell_13 ?_
    have h9 := le_le c1 (a := L) (b := 0) rfl nI_0.symm (by omega) (by omega)
    rw [if_neg (by omega)]
  · have h9 := nle_lt c1 (a := L) (b := 0) rfl nI_0.symm (by omega) (by omega)
    refine lv_aload_n hx hb dL_cell_6 rfl (lv_at hl 0 rfl) ?_
    refine lv_iload_n hx hb dL_cell_7 rfl (lv_at hl 1 rfl) ?_
    refine va_sld hx hb hX hbl hbA hS (in_of (i := 0) nI_0.symm h9 (by omega)) dL_cell_8 ?_
    refine lv_goto (tgt := 13) hx hb dL_cell_9 (by decide) ?_
    refine rd_i hx hb hr hlocks dL_cell_13 ?_
    rw [if_pos h9]
    rfl
