/-! THROWING: contracts of methods that throw ArrayIndexOutOfBoundsException and change nothing; going on with the exception; catching it -/
def THq (st : State) (o : Outcome) (t : State) : Prop := ∃ q : Addr, o = .threw q ∧ st.WarmedH t.vm ∧ st.sameButNew ({ t with vm := st.vm } : State) [] 1 6 ∧ ∃ ce : Cell, t.heap[q]? = some ce ∧ st.vm.findClass xcA = some ce.cls ∧ ce.vm = .none
def MQT (below : List Frame) (s : State) : State → Prop := fun t => ∃ o, t.status = .running ∧ Ended t below o ∧ THq s o t
def TH (l : Launch) (y : MethodName) (cc : ByteArray) (maxL : Nat) (ret : Option FieldType) (d : Nat) (D : va_G) (tys : List (ClassId × FieldType)) (w : va_W) (av : List Value) : Prop :=
  MetFree l y (headSpec [Cond.code y cc maxL ret] (rmD d 1 6)) (PcR av D tys w) (fun _ _ _ _ _ => True) (fun _ st o t => THq st o t)
theorem TH.of {l : Launch} {y : MethodName} {cc : ByteArray} {maxL : Nat} {ret : Option FieldType} {d : Nat} {D : va_G} {tys : List (ClassId × FieldType)} {w : va_W} {av : List Value} (hy : plainName y.cls = true)
    (body : ∀ (p : Program) (e : Env) (s : State) (m : MethodId) (below : List Frame) (meth : Method) (c : Code), l.admits e → p.tables.exec = Jvm.exec → c.code = cc → meth.sig.returnType = ret → c.maxLocals = maxL → s.vm.findClass y.cls = some m.cls → meth.locks = false → (∀ pc : Nat, ∀ x ∈ c.exceptionTable.toList, covers x pc = false) → evOK (fun _ => False) s s.heap → va_P D vwCl w s.heap → va_K D vwCl tys s →
      W p l e (rmD d 1 6) s m av.toArray below meth c s.heap [] 0 0 (MQT below s) (entryFrame m av.toArray maxL)) : TH l y cc maxL ret d D tys w av := by
  refine MetFree.of_bodyS (code := cc) (maxLocals := maxL) (ret := ret) hy ?_ ?_
  · intro args s m h hn
    obtain ⟨meth, c, h1, h2, h3, h4, h5, h6, -, -⟩ := Cond.code_spec hn (atoms_spec (ws := [Cond.code y cc maxL ret]) h _ List.mem_cons_self)
    exact ⟨meth, c, h1, h2, h3, h4, h5, h6⟩
  · intro p e s m args below meth c s₁ B hml hv _
    obtain ⟨rfl, h1, h2, h3⟩ := hv
    have hh0 : s₁.heap = s.heap := by rw [B.state]; rfl
    have hno : c.exceptionTable.isEmpty = true := B.noHandlers (atoms_spec (ws := [Cond.code y cc maxL ret]) B.pre _ List.mem_cons_self)
    obtain ⟨t, a1, o, b1, b2, b3⟩ := body p e s m below meth c (Stand.of_body B).admits B.exec B.bytes B.returns hml (findClass_of_methodNamed B.named) B.notSynchronized (fun pc => covers_of_empty hno pc) h1 h2 h3 s₁ hh0 (Stand.of_body B)
    exact ⟨t, o, a1, b1, b2, b3⟩
/-- with the exception q on its way over the frame g -/
def xW (p : Program) (l : Launch) (e : Env) (R : Room) (s : State) (m : MethodId) (args : Array Value) (below : List Frame) (meth : Method) (c : Code) (H : Heap) (locs : List Loc) (cells slots : Nat) (Q : State → Prop) (g : JFrame) (q : Addr) : Prop :=
  ∀ T : State, T.heap = H → Stand p l e R s m args below meth c T locs cells slots → ∃ t, Steps p.tables e below ((T.setTop g).pushFrame (.throwing q)) t ∧ Q t
theorem old_same {s U : State} {k n : Nat} (h : s.sameButNew ({ U with vm := s.vm } : State) [] k n) : s.heap.size ≤ U.heap.size ∧ ∀ q : Nat, q < s.heap.size → U.heap[q]? = s.heap[q]? := by
  obtain ⟨-, h2, -, -, -, h6⟩ := h
  refine ⟨h2, fun q hq => ?_⟩
  obtain ⟨c9, e1, e2, e3, e4⟩ := h6 q _ (Array.getElem?_eq_getElem hq)
  have hs : c9.slots = (s.heap[q]).slots := Array.ext_getElem? fun i => e4 i (by simp)
  rw [hs] at e2
  have e5 : U.heap[q]? = some c9 := e1
  rw [e5, Array.getElem?_eq_getElem hq]
  exact congrArg some e2
section ROWS
variable {p : Program} {l : Launch} {e : Env} {R : Room} {s : State} {m : MethodId} {args : Array Value} {below : List Frame} {meth : Method} {c : Code} {H : Heap} {locs : List Loc} {cells slots : Nat} {Q : State → Prop} {cc : ByteArray} {pc : Nat} {ls : Array Slot} {D : va_G} {tys : List (ClassId × FieldType)} {w : va_W} {A : Nat → Prop}
/-- nothing here takes it: the method ends with it -/
theorem x_out {q : Addr} {rest : List Value} {ce : Cell} (hno : ∀ x ∈ c.exceptionTable.toList, covers x pc = false) (hlocks : meth.locks = false) (hce : H[q]? = some ce) (hcl : s.vm.findClass xcA = some ce.cls) (hcv : ce.vm = .none) (hc : cells ≤ 1) (hs : slots ≤ 6) :
    xW p l e R s m args below meth c H [] cells slots (MQT below s) (F0 m pc ls rest) q := by
  intro T hT X
  obtain ⟨st1, hrun, hend, hW, hsm⟩ := X.leaveThrown q (g := F0 m pc ls rest) rfl rfl rfl hno hlocks
  refine ⟨_, st1, .threw q, hrun, hend, q, rfl, hW, hsm.mono hc hs, ce, ?_, hcl, hcv⟩
  show T.heap[q]? = some ce
  rw [hT]; exact hce
/-- a made exception: its constructor and the throw -/
theorem x_ctor (hadm : e.platform.stackTraces = false) (hx : p.tables.exec = Jvm.exec) (hb : c.code = cc) (hml : c.maxLocals = ls.size) (hown : s.vm.findClass RX3 = some m.cls) (hlocks : meth.locks = false) (hno : ∀ x ∈ c.exceptionTable.toList, covers x (pc + 3) = false) (hX : ∀ w ∈ Bundle.ownAtoms RX3 155 xcA xcN, w.before args s = true)
    {a q : Addr} {cX : ClassId} {kX : Class} (hf : s.vm.findClass xcA = some cX) (hk : s.vm.classes[cX]? = some kX) (hcell : H[a]? = some (freshCell cX kX)) (hnew : s.heap.size ≤ a) (hd1 : decode cc pc = .ok (.invokespecial 155, 3)) (hd2 : decode cc (pc + 3) = .ok (.athrow, 1))
    (hRf : 6 < R.frames) (hRl : 96 ≤ R.locals) (hc : cells ≤ 1) (hs : slots ≤ 6) :
    W p l e R s m args below meth c H [] cells slots (MQT below s) (F0 m pc ls [.ref q, .ref a, .ref a]) := by
  intro T hT X
  obtain ⟨U, st, hrun, hend, hW, hsm, ce, hce, hoc⟩ := X.ctorThrowS hx hadm (own := RX3) (cls := xcA) (names := xcN) (ic := 155) hown (by decide) (by decide) hX (fun x hx => by cases hx) hf hk (by rw [hT]; exact hcell) hnew (msg := .ref q) rfl (g := F0 m pc ls [.ref q, .ref a, .ref a]) rfl hml.symm rfl rfl (rest := []) rfl (by rw [hb]; exact hd1) (by rw [hb]; exact hd2) hno (by exact hRf) (Nat.le_trans (Nat.le_of_eq (show _ = 95 from rfl)) (by omega)) hlocks
  exact ⟨U, st, .threw a, hrun, hend, a, rfl, hW, hsm.mono hc hs, ce, hce, hoc.cls, hoc.vm⟩
/-- a call of a method that throws -/
theorem x_callV {own C : String} {index maxL d nL b n : Nat} {y : MethodName} {cy : ByteArray} {ret : Option FieldType} {As rest st0 : List Value} (hM : TH l y cy maxL ret d D tys w (.ref b :: As)) (cw : CallW R s args own C index y cy maxL ret [Cond.code y cy maxL ret] (rmD d 1 6) 1 6 n)
    (hx : p.tables.exec = Jvm.exec) (hb : c.code = cc) (hml : c.maxLocals = nL) (hown : s.vm.findClass own = some m.cls) (hrc : ∃ cell : Cell, H[b]? = some cell ∧ cell.vm.isStatics = false ∧ s.vm.findClass C = some cell.cls) (hE : evOK A s H) (hP : va_P D vwCl w H) (hK : va_K D vwCl tys s)
    (hn : As.length = n) (hsz : ls.size = nL) (hst : st0 = As.reverse ++ .ref b :: rest) (hrm : (rest.map fun v => v.category).sum ≤ 8) (hc : cells + 1 ≤ R.cells ∧ slots + 6 ≤ R.slots) (hdg : decode cc pc = .ok (.invokevirtual index, 3))
    (kk : ∀ (q : Addr) (ce : Cell) (H1 : Heap), H.size ≤ H1.size → (∀ a : Nat, a < H.size → H1[a]? = H[a]?) → H1[q]? = some ce → s.vm.findClass xcA = some ce.cls → ce.vm = .none → xW p l e R s m args below meth c H1 locs (cells + 1) (slots + 6) Q (F0 m pc ls rest) q) : W p l e R s m args below meth c H locs cells slots Q (F0 m pc ls st0) := by
  obtain ⟨⟨-, -, hfr, hlo, hws, hcw, hcode, hini, hy, hlen, hl⟩, hin, hse⟩ := cw
  intro T hT X
  obtain ⟨cellB, hcB, hoB, hclB⟩ := hrc
  obtain ⟨mk, methM, hnamed, hmethM, hstM, habM⟩ := Cond.instanceMethod_spec hin
  obtain ⟨methM', cM, hmethM', hcM, -, hlM, -, -, -, hsigM⟩ := Cond.code_spec hnamed hcode
  cases hmethM.symm.trans hmethM'
  obtain ⟨c2, r2, m2, q1, q2, q3, q4, kP, hkP, hkPi⟩ := Cond.selects_spec hse
  cases hclB.symm.trans q1
  cases (State.methodFound?_of_named hnamed hy).symm.trans q2
  cases hnamed.symm.trans q3
  have hselP : selectMethod e.platform s.vm cellB.cls mk = .method mk := by rw [Launch.admits_selectMethod X.admits]; exact q4
  obtain ⟨vm₁, X₁, hstep₁⟩ := X.invokevirtual hx hown hl hnamed hmethM hstM hkP hkPi hy (a := b) (cell := cellB) (by rw [hT]; exact hcB)
    (fun z h => by rw [h] at hoB; cases hoB) hselP hmethM habM hkP hkPi (g := F0 m pc ls st0) rfl (argsL := As) (rest := rest) (hn.trans (hlen _ hsigM)) hst (by rw [hb]; exact hdg)
  -- the callee runs from the point with the tables vm₁
  have hU : (T.setVm vm₁).heap = H := hT
  have hW₁ : s.WarmedH (T.setVm vm₁).vm := X₁.warmed
  have hnU : (T.setVm vm₁).methodNamed? y = some mk := X₁.named hnamed
  have h2 : (Cond.code y cy maxL ret).before (Value.ref b :: As).toArray (T.setVm vm₁) = true := hws _ hcw _ _ hW₁
  have h3 : (Cond.initialized y.cls).before (Value.ref b :: As).toArray (T.setVm vm₁) = true := word_at hW₁ (Or.inl (by first | rfl | simp [Cond.onTables, Cond.keeps, Cond.steady])) hini
  obtain ⟨methY, cY, hmY, hcY, -, hlY, -, -, -, -⟩ := Cond.code_spec hnU h2
  obtain ⟨kY, hkY, -⟩ := className_of_methodNamed hnU
  have hinitY : kY.init = .initialized := Cond.initialized_spec (findClass_of_methodNamed hnU) hkY h3
  have hat : At (T.setVm vm₁) (F0 m pc ls rest).method c below := X₁.here
  have hpcw : PcR (.ref b :: As) D tys w (Value.ref b :: As).toArray (T.setVm vm₁) := ⟨rfl, by rw [hU]; exact hE.none.warm hW₁, by rw [hU]; exact hP, va_K.moved hW₁.alike hK⟩
  have hroom := X₁.room_calling (args' := (Value.ref b :: As).toArray) (g := F0 m pc ls rest) (R' := (headSpec [Cond.code y cy maxL ret] (rmD d 1 6)).room) (hsz.trans hml.symm) hmY hcY hfr (by rw [hlY]; have h9 : 2 * (F0 m pc ls rest).monitorRoom + ((F0 m pc ls rest).stack.map fun v => v.category).sum ≤ 8 := lv_room hrm; have h8 : 8 + (maxL + 11) + (headSpec [Cond.code y cy maxL ret] (rmD d 1 6)).room.locals ≤ R.locals := hlo; omega) hc.1 hc.2
  have happ : (headSpec [Cond.code y cy maxL ret] (rmD d 1 6)).appliesLoose y e.platform ((T.setVm vm₁).calling (F0 m pc ls rest) mk (Value.ref b :: As).toArray) = true :=
    Spec.appliesLoose_calling (g := F0 m pc ls rest) hat (by rw [hb]; exact hdg) hnU hkY hinitY hroom (atoms_intro fun v hv => by rw [List.mem_singleton.mp hv]; exact h2)
  obtain ⟨mid, hmid⟩ := hat.above
  have hfrm : ((T.setVm vm₁).setTop (F0 m pc ls rest)).frames = (.java (F0 m pc ls rest) :: mid) ++ below := by rw [State.frames_setTop' _ hat.top, hmid]; rfl
  obtain ⟨o, s₂, hsteps, -, hend, hq⟩ := Steps.callFree hM p X.admits X.cas X.clock (acts := []) hfrm happ (blindR _ _ _ _ hpcw) trivial
  rw [State.frames_setTop' _ hat.top] at hend
  obtain ⟨x, rfl, hW₂, hsm, ce, hce, hcl, hcv⟩ := hq
  have hWU : (T.setVm vm₁).WarmedH s₂.vm := hW₂
  obtain ⟨e2, z2, z3, z4, z5, z6⟩ := id hsm
  have e3 : s₂ = ({ ((T.setVm vm₁).calling (F0 m pc ls rest) mk (Value.ref b :: As).toArray).setFrames s₂.frames with heap := s₂.heap, slotsUsed := s₂.slotsUsed } : State).setVm s₂.vm := by
    have h0 : s₂ = ({ s₂ with vm := ((T.setVm vm₁).calling (F0 m pc ls rest) mk (Value.ref b :: As).toArray).vm } : State).setVm s₂.vm := rfl
    have e2' : ({ s₂ with vm := ((T.setVm vm₁).calling (F0 m pc ls rest) mk (Value.ref b :: As).toArray).vm } : State) = _ := e2
    rw [e2'] at h0
    exact h0
  have hf₂ : s₂.frames = .throwing x :: .java (F0 m pc ls rest) :: (T.setVm vm₁).frames.tail := hend
  obtain ⟨g₀, hg0⟩ := Option.isSome_iff_exists.mp hat.top
  obtain ⟨r, hr⟩ := State.topJava?_eq_some.mp hg0
  have hs₂ : s₂ = ((({ T.setVm vm₁ with heap := s₂.heap, slotsUsed := s₂.slotsUsed } : State).setVm s₂.vm).setTop (F0 m pc ls rest)).pushFrame (.throwing x) := by
    have hr' : (({ T.setVm vm₁ with heap := s₂.heap, slotsUsed := s₂.slotsUsed } : State).setVm s₂.vm).frames = .java g₀ :: r := hr
    refine e3.trans ?_
    rw [hf₂, State.calling_eq hat.top, State.setFrames_setFrames, State.pushFrame, State.frames_setTop _ hr', State.setTop_of_frames _ hr', State.setFrames_setFrames, hr]
    rfl
  have hsame : (T.setVm vm₁).sameButNew ({ T.setVm vm₁ with heap := s₂.heap, slotsUsed := s₂.slotsUsed } : State) [] 1 6 := by
    refine ⟨?_, z2, z3, z4, z5, z6⟩
    obtain ⟨tt, htt, -⟩ := State.frames_cons hr
    show ({ T.setVm vm₁ with heap := s₂.heap, slotsUsed := s₂.slotsUsed } : State) = { (T.setVm vm₁).setFrames (T.setVm vm₁).frames with heap := s₂.heap, slotsUsed := s₂.slotsUsed }
    rw [State.setFrames_self htt]
  have X2 : Stand p l e R s m args below meth c (({ T.setVm vm₁ with heap := s₂.heap, slotsUsed := s₂.slotsUsed } : State).setVm s₂.vm) (locs ++ []) (cells + 1) (slots + 6) :=
    ⟨X₁.admits, X₁.cas, X₁.clock, X₁.frames, X₁.room, X₁.hears, X₁.method, X₁.code, (X₁.here.setHeapUsed s₂.heap s₂.slotsUsed).setVm hWU.alike, X₁.tail, State.WarmedH.trans X₁.warmed hWU, X₁.limits, X₁.bytes, X₁.same.trans (hsame.setVm s.vm)⟩
  rw [List.append_nil] at X2
  obtain ⟨hz, hkeep⟩ := old_same hsm
  have hz : H.size ≤ s₂.heap.size := by rw [← hU]; exact hz
  have hkeep : ∀ a : Nat, a < H.size → s₂.heap[a]? = H[a]? := fun a ha => by rw [← hU]; exact hkeep a (by show a < (T.setVm vm₁).heap.size; rw [hU]; exact ha)
  have hcl' : s.vm.findClass xcA = some ce.cls := by rw [← hW₁.alike.findClass]; exact hcl
  obtain ⟨t2, a1, b1⟩ := kk x ce s₂.heap hz hkeep hce hcl' hcv (({ T.setVm vm₁ with heap := s₂.heap, slotsUsed := s₂.slotsUsed } : State).setVm s₂.vm) rfl X2
  refine ⟨t2, hstep₁ _ (fun acts => ?_), b1⟩
  rw [doInvoke_state]
  refine Steps.trans ?_ a1
  rw [← hs₂]
  exact hsteps
end ROWS
