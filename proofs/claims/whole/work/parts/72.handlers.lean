/-! METHODS WITH A HANDLER: their contracts, and their calls (static) -/
def WRH (l : Launch) (y : MethodName) (cc : ByteArray) (maxL : Nat) (ret : Option FieldType) (hs : List (Nat × Nat × Nat × Nat)) (d mc ms : Nat) (D : va_G) (tys : List (ClassId × FieldType)) (w : va_W) (av : List Value) (post : Option Value → va_W → Prop) : Prop :=
  ∀ sz : Nat, Met l y [Cond.codeWith y cc maxL ret hs] (rmD d mc ms) (PcW av D tys w sz) (QcW D w sz post) mc ms (va_A w sz)
theorem WRH.of {l : Launch} {y : MethodName} {cc : ByteArray} {maxL : Nat} {ret : Option FieldType} {hs : List (Nat × Nat × Nat × Nat)} {d mc ms : Nat} {D : va_G} {tys : List (ClassId × FieldType)} {w : va_W} {av : List Value} {post : Option Value → va_W → Prop} (hy : plainName y.cls = true)
    (body : ∀ (p : Program) (e : Env) (s : State) (m : MethodId) (below : List Frame) (meth : Method) (c : Code) (A : Nat → Prop), l.admits e → p.tables.exec = Jvm.exec → c.code = cc → meth.sig.returnType = ret → c.maxLocals = maxL → s.vm.findClass y.cls = some m.cls → meth.locks = false → c.exceptionTable.toList = tableOf hs → evOK A s s.heap → va_P D vwCl w s.heap → va_K D vwCl tys s → va_D A w → va_S A s.heap s.heap [] → (∀ q : Nat, s.heap.size ≤ q → A q) → A = va_A w s.heap.size →
      W p l e (rmD d mc ms) s m av.toArray below meth c s.heap [] 0 0 (MQ below (QcW D w s.heap.size post) av.toArray s mc ms A) (entryFrame m av.toArray maxL)) : WRH l y cc maxL ret hs d mc ms D tys w av post := by
  intro sz
  refine MetFree.of_bodyS (code := cc) (maxLocals := maxL) (ret := ret) hy ?_ ?_
  · intro args s m h hn
    obtain ⟨m', meth, c, hn', h1, h2, h3, h4, -, h5, h6, -⟩ := Cond.codeWith_spec (atoms_spec (ws := [Cond.codeWith y cc maxL ret hs]) h _ List.mem_cons_self)
    cases hn.symm.trans hn'
    exact ⟨meth, c, h1, h2, h3, h4, h5, h6⟩
  · intro p e s m args below meth c s₁ B hml hv _
    obtain ⟨rfl, h0, h1, h2, h3, h4⟩ := hv
    subst h0
    have hh0 : s₁.heap = s.heap := by rw [B.state]; rfl
    obtain ⟨m', meth', c', hn', g1, g2, -, -, g5, -, -, -⟩ := Cond.codeWith_spec (atoms_spec (ws := [Cond.codeWith y cc maxL ret hs]) B.pre _ List.mem_cons_self)
    cases B.named.symm.trans hn'
    cases B.method.symm.trans g1
    cases (Stand.of_body B).code.symm.trans g2
    have htab : c.exceptionTable.toList = tableOf hs := by rw [← g5, table_eq]
    obtain ⟨t, a1, o, b1, b2, b3⟩ := body p e s m below meth c (va_A w s.heap.size) (Stand.of_body B).admits B.exec B.bytes B.returns hml (findClass_of_methodNamed B.named) B.notSynchronized htab h1 h2 h3 h4.self va_S.rf (fun q h => Or.inr h) rfl s₁ hh0 (Stand.of_body B)
    exact ⟨t, o, a1, b1, b2, b3⟩
section ROWS
variable {p : Program} {l : Launch} {e : Env} {R : Room} {s : State} {m : MethodId} {args : Array Value} {below : List Frame} {meth : Method} {c : Code} {H H0 : Heap} {locs : List Loc} {cells slots : Nat} {Q : State → Prop} {cc : ByteArray} {pc : Nat} {ls : Array Slot} {D : va_G} {tys : List (ClassId × FieldType)} {w : va_W} {A : Nat → Prop} {post : Option Value → va_W → Prop} {own : String} {index maxL d mc ms n nL : Nat} {y : MethodName} {cy : ByteArray} {ret : Option FieldType} {hs : List (Nat × Nat × Nat × Nat)} {As rest st0 : List Value}
theorem runSH (hM : WRH l y cy maxL ret hs d mc ms D tys w As post) (ht : tb_OK s) (hcd : ∀ (U : State) (a : Array Value), tb_OK U → (Cond.codeWith y cy maxL ret hs).before a U = true) (hini : ∀ (U : State) (a : Array Value), tb_OK U → (Cond.initialized y.cls).before a U = true) (hl : (Cond.methodLink own index y).before args s = true) (hstt : (Cond.static y).before args s = true)
    (hy : y.cls ≠ "java/lang/invoke/MethodHandle" ∧ y.cls ≠ "java/lang/invoke/VarHandle" ∧ (parseMethodDescriptor y.desc).map (fun q => q.parameters.length) = some n) (hR : 20 * d + 1 ≤ R.frames ∧ 8 + (maxL + 11) + 400 * d ≤ R.locals)
    (hx : p.tables.exec = Jvm.exec) (hb : c.code = cc) (hml : c.maxLocals = nL) (hown : s.vm.findClass own = some m.cls) (hE : evOK A s H0) (hP : va_P D vwCl w H) (hK : va_K D vwCl tys s) (hD : va_D A w) (hS : va_S A H0 H locs) (hA : ∀ q : Nat, H0.size ≤ q → A q)
    (hn : As.length = n) (hsz : ls.size = nL) (hst : st0 = As.reverse ++ rest) (hrm : (rest.map fun v => v.category).sum ≤ 8) (hc : cells + mc ≤ R.cells ∧ slots + ms ≤ R.slots) (hdg : decode cc pc = .ok (.invokestatic index, 3)) :
    va_Run p l e R s m args below meth c H locs cells slots mc ms (F0 m pc ls st0) rest (QcW D w H.size post As.toArray) (va_A w H.size) := by
  have hB : Back l R p e below s args y 3 8 (PreOf R mc ms (PcW As D tys w H.size)) (PostOf (QcW D w H.size post) mc ms (va_A w H.size)) := by
    refine Back.of_freeWith (S := headSpec [Cond.codeWith y cy maxL ret hs] (rmD d mc ms)) (P := PcW As D tys w H.size) (K := fun _ _ _ _ _ => True) (Q := fun a st o t => QcW D w H.size post a st o t ∧ ∃ L, FrameEnd st o t L mc ms ∧ ∀ q ∈ L, va_A w H.size q.base) (bytes := cy) (maxL := maxL) (ret := ret) (handlers := hs)
      (E := fun a st o t L k n => k = mc ∧ n = ms ∧ ∀ q ∈ L, va_A w H.size q.base) (hM H.size) hR.1 hR.2 ?_ ?_ (fun _ _ _ _ _ _ _ _ _ => trivial) ?_ ?_
    · intro m meth c A a X hp
      have h9 := hcd A.U a (ht.warm X.warmed)
      exact ⟨atoms_intro fun w hw => by rw [List.mem_singleton.mp hw]; exact h9, h9, hini A.U a (ht.warm X.warmed), hp.1, hp.2.1⟩
    · intro m meth c A a g mk X hp
      exact blindW _ _ _ _ hp.2.2
    · intro a st o t ⟨hq, L, hF, hL⟩
      exact ⟨L, mc, ms, hF, rfl, rfl, hL⟩
    · intro m meth c A a g mk v t L k n X hp hq hF ⟨e1, e2, hL⟩
      subst e1; subst e2
      exact ⟨g, mk, t, L, rfl, rfl, hq.1, rfl, hL, rfl, rfl⟩
  intro T hT X
  obtain ⟨mk, methM, cM, hnamed, hmethM, -, -, -, -, -, -, hsigM⟩ := Cond.codeWith_spec (hcd s args ht)
  have hstatic : methM.isStatic = true := Cond.static_spec hnamed hmethM hstt
  obtain ⟨kP, hkP, -⟩ := className_of_methodNamed hnamed
  have hinitP : kP.init = .initialized := Cond.initialized_spec (findClass_of_methodNamed hnamed) hkP (hini s args ht)
  obtain ⟨vm₁, X₁, hstep₁⟩ := X.invokestatic hx hown hl hnamed hmethM hstatic hkP hinitP ⟨hy.1, hy.2.1⟩ (g := F0 m pc ls st0) rfl (argsL := As) (rest := rest) (hn.trans (sg_n hy.2.2 _ hsigM)) hst (by rw [hb]; exact hdg)
  obtain ⟨v, ⟨U', l2, c2, s2⟩, X', ⟨g', mk', t, L, e1, e2, hq, h1, hL, h2, h3⟩, hsteps⟩ := hB m meth c ⟨T.setVm vm₁, locs, cells, slots⟩ (F0 m pc ls rest) (.invokestatic index) mk As.toArray X₁ rfl (hsz.trans hml.symm) (by rw [hb]; exact hdg) (lv_room hrm) (X₁.named hnamed)
    ⟨hc.1, hc.2, preW hE hP hK hD hS hA (T.setVm vm₁) hT X₁.warmed⟩
  dsimp only [Pt.U, Pt.locs, Pt.cells, Pt.slots] at X' e1 e2 h1 h2 h3 hsteps
  subst h1; subst h2; subst h3
  exact ⟨v, (T.setVm vm₁).calling g' mk' As.toArray, t, U', L, hT, X', hL, e1, e2, hq, fun target h => hstep₁ _ fun acts => by rw [doInvoke_state]; exact hsteps.trans h⟩
end ROWS
