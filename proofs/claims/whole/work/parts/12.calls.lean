/-! CALLS by contract: reading (heap stays) and writing (the whole world w goes in, w' comes back) -/
theorem W.st {p : Program} {l : Launch} {e : Env} {R : Room} {s : State} {m : MethodId} {args : Array Value} {below : List Frame} {meth : Method} {c : Code} {H : Heap} {locs : List Loc} {cells slots : Nat} {Q : State → Prop} {pc : Nat} {ls : Array Slot} {st st1 : List Value} (h : st = st1) (k : W p l e R s m args below meth c H locs cells slots Q (F0 m pc ls st1)) : W p l e R s m args below meth c H locs cells slots Q (F0 m pc ls st) := h ▸ k
def PcW (av : List Value) (D : va_G) (tys : List (ClassId × FieldType)) (w : va_W) (sz : Nat) : Array Value → State → Prop := va_Pc av (fun U => U.heap.size = sz ∧ evOK (va_A w sz) U U.heap ∧ va_P D vwCl w U.heap ∧ va_K D vwCl tys U ∧ va_D (fun _ => True) w)
def QcW (D : va_G) (w : va_W) (sz : Nat) (post : Option Value → va_W → Prop) : Array Value → State → Outcome → State → Prop := fun _ st o t => ∃ (v : Option Value) (w' : va_W), o = .returned v ∧ post v w' ∧ va_P D vwCl w' t.heap ∧ va_D (va_A w sz) w' ∧ va_F (va_A w sz) st t
/-- WRITING CONTRACTS -/
def WR (l : Launch) (y : MethodName) (cc : ByteArray) (maxL : Nat) (ret : Option FieldType) (d mc ms : Nat) (D : va_G) (tys : List (ClassId × FieldType)) (w : va_W) (av : List Value) (post : Option Value → va_W → Prop) : Prop :=
  ∀ sz : Nat, Met l y [Cond.code y cc maxL ret] (rmD d mc ms) (PcW av D tys w sz) (QcW D w sz post) mc ms (va_A w sz)
theorem blindW {av : List Value} {D : va_G} {tys : List (ClassId × FieldType)} {w : va_W} {sz : Nat} : FrameBlind (PcW av D tys w sz) := by
  intro a U g mk h
  obtain ⟨h1, h0, h2, h3, h4, h5⟩ := h
  exact ⟨h1, h0, h2.warm (U := U.calling g mk a) (State.WarmedH.refl U), h3, va_K.moved (u := U) (U := U.calling g mk a) (Vm.Alike.refl U.vm) h4, h5⟩
theorem WR.of {l : Launch} {y : MethodName} {cc : ByteArray} {maxL : Nat} {ret : Option FieldType} {d mc ms : Nat} {D : va_G} {tys : List (ClassId × FieldType)} {w : va_W} {av : List Value} {post : Option Value → va_W → Prop} (hy : plainName y.cls = true)
    (body : ∀ (p : Program) (e : Env) (s : State) (m : MethodId) (below : List Frame) (meth : Method) (c : Code) (A : Nat → Prop), l.admits e → p.tables.exec = Jvm.exec → c.code = cc → meth.sig.returnType = ret → c.maxLocals = maxL → s.vm.findClass y.cls = some m.cls → meth.locks = false → meth.name = y.name → evOK A s s.heap → va_P D vwCl w s.heap → va_K D vwCl tys s → va_D A w → va_S A s.heap s.heap [] → (∀ q : Nat, s.heap.size ≤ q → A q) → A = va_A w s.heap.size →
      W p l e (rmD d mc ms) s m av.toArray below meth c s.heap [] 0 0 (MQ below (QcW D w s.heap.size post) av.toArray s mc ms A) (entryFrame m av.toArray maxL)) : WR l y cc maxL ret d mc ms D tys w av post := by
  intro sz
  refine Met.ofW (cc := cc) (maxL := maxL) (ret := ret) hy rfl ?_
  intro p e s m args below meth c s₁ B hml hv
  obtain ⟨rfl, h0, h1, h2, h3, h4⟩ := hv
  subst h0
  exact body p e s m below meth c (va_A w s.heap.size) (Stand.of_body B).admits B.exec B.bytes B.returns hml (findClass_of_methodNamed B.named) B.notSynchronized (name_of_methodNamed B.named B.method).1 h1 h2 h3 h4.self va_S.rf (fun q h => Or.inr h) rfl
section ROWS
variable {p : Program} {l : Launch} {e : Env} {R : Room} {s : State} {m : MethodId} {args : Array Value} {below : List Frame} {meth : Method} {c : Code} {H H0 : Heap} {locs : List Loc} {cells slots : Nat} {Q : State → Prop} {cc : ByteArray} {pc : Nat} {ls : Array Slot} {D : va_G} {tys : List (ClassId × FieldType)} {w w' : va_W} {A : Nat → Prop} {post : Option Value → va_W → Prop}
theorem wr_i (hx : p.tables.exec = Jvm.exec) (hb : c.code = cc) (hr : meth.sig.returnType = some .int) (hlocks : meth.locks = false) (hAe : A = va_A w s.heap.size) (hP : va_P D vwCl w' H) (hD : va_D A w') (hS : va_S A s.heap H locs) (hdg : decode cc pc = .ok (.ireturn, 1)) {v : Int32} (hv : post (some (.int v)) w') : W p l e R s m args below meth c H locs cells slots (MQ below (QcW D w s.heap.size post) args s cells slots A) (F0 m pc ls [.int v]) := by
  subst hAe
  exact W.iret hx hb hr (fun t ht hW => ⟨_, w', rfl, hv, by rw [ht]; exact hP, hD, hS.F ht⟩) hS.2.2 hdg hlocks
theorem wr_z (hx : p.tables.exec = Jvm.exec) (hb : c.code = cc) (hr : meth.sig.returnType = some .boolean) (hlocks : meth.locks = false) (hAe : A = va_A w s.heap.size) (hP : va_P D vwCl w' H) (hD : va_D A w') (hS : va_S A s.heap H locs) (hdg : decode cc pc = .ok (.ireturn, 1)) {v : Int32} (hn : narrow .boolean (.int v) = .int v) (hv : post (some (.int v)) w') : W p l e R s m args below meth c H locs cells slots (MQ below (QcW D w s.heap.size post) args s cells slots A) (F0 m pc ls [.int v]) := by
  subst hAe
  exact W.zret hx hb hr hn (fun t ht hW => ⟨_, w', rfl, hv, by rw [ht]; exact hP, hD, hS.F ht⟩) hS.2.2 hdg hlocks
theorem wr_l (hx : p.tables.exec = Jvm.exec) (hb : c.code = cc) (hr : meth.sig.returnType = some .long) (hlocks : meth.locks = false) (hAe : A = va_A w s.heap.size) (hP : va_P D vwCl w' H) (hD : va_D A w') (hS : va_S A s.heap H locs) (hdg : decode cc pc = .ok (.lreturn, 1)) {v : Int64} (hv : post (some (.long v)) w') : W p l e R s m args below meth c H locs cells slots (MQ below (QcW D w s.heap.size post) args s cells slots A) (F0 m pc ls [.long v]) := by
  subst hAe
  exact W.lret hx hb hr (fun t ht hW => ⟨_, w', rfl, hv, by rw [ht]; exact hP, hD, hS.F ht⟩) hS.2.2 hdg hlocks
theorem wr_v (hx : p.tables.exec = Jvm.exec) (hb : c.code = cc) (hr : meth.sig.returnType = none) (hlocks : meth.locks = false) (hAe : A = va_A w s.heap.size) (hP : va_P D vwCl w' H) (hD : va_D A w') (hS : va_S A s.heap H locs) (hdg : decode cc pc = .ok (.return_, 1)) (hv : post none w') : W p l e R s m args below meth c H locs cells slots (MQ below (QcW D w s.heap.size post) args s cells slots A) (F0 m pc ls []) := by
  subst hAe
  exact W.vret hx hb hr (fun t ht hW => ⟨_, w', rfl, hv, by rw [ht]; exact hP, hD, hS.F ht⟩) hS.2.2 hdg hlocks
/-- a reading call goes on with the same heap -/
theorem crd2 {st0 rest : List Value} {v : Option Value} {a : Array Value} (hr : va_Run p l e R s m args below meth c H locs cells slots 0 0 (F0 m pc ls st0) rest (QcR v a) (fun _ => False)) (kk : W p l e R s m args below meth c H locs cells slots Q (F0 m (pc + 3) ls (v.toList ++ rest))) : W p l e R s m args below meth c H locs cells slots Q (F0 m pc ls st0) := crd hr.run kk
/-- a writing call of the whole world -/
theorem cwr2 {st0 rest : List Value} {mc ms : Nat} {a : Array Value} (hr : va_Run p l e R s m args below meth c H locs cells slots mc ms (F0 m pc ls st0) rest (QcW D w H.size post a) (va_A w H.size)) (hD : va_D A w) (hS : va_S A H0 H locs) (hA : ∀ q : Nat, H0.size ≤ q → A q)
    (kk : ∀ (v : Option Value) (w' : va_W) (H1 : Heap) (locs1 : List Loc), post v w' → va_P D vwCl w' H1 → va_D A w' → va_S A H0 H1 locs1 → W p l e R s m args below meth c H1 locs1 (cells + mc) (slots + ms) Q (F0 m (pc + 3) ls (v.toList ++ rest))) : W p l e R s m args below meth c H locs cells slots Q (F0 m pc ls st0) := by
  have hF : ∀ q, va_A w H.size q → A q := fun q h => by
    rcases h with ⟨k, e, hk⟩ | h
    · exact hD.2 k _ hk
    · exact hA q (Nat.le_trans hS.1 h)
  intro T hT X
  obtain ⟨v, st₀, t, T', L, h0, X', hL, e1, e2, ⟨v', w', hv, hpost, hP1, hD1, hF1⟩, st⟩ := hr T hT X
  cases hv
  have hk : ∀ q : Nat, q < H.size → ¬ va_A w H.size q → t.heap[q]? = H[q]? := fun q h1 h2 => by
    rw [← h0]; exact hF1.2 q (by rw [h0]; exact h1) h2
  have hz : H.size ≤ t.heap.size := by rw [← h0]; exact hF1.1
  obtain ⟨t2, a1, b1⟩ := kk v w' T'.heap (locs ++ L) hpost (by rw [e1]; exact hP1) (hD1.weaken (fun _ _ _ h => hF _ h))
    ⟨by rw [e1]; exact Nat.le_trans hS.1 hz, fun q hq hn => by rw [e1, hk q (Nat.lt_of_lt_of_le hq hS.1) (fun h => hn (hF q h))]; exact hS.2.1 q hq hn, fun q hq => by
      rcases List.mem_append.mp hq with h | h
      · exact hS.2.2 q h
      · exact hF _ (hL q h)⟩ T' rfl X'
  exact ⟨t2, st t2 a1, b1⟩
theorem preRS {As : List Value} (hE : evOK A s H) (hP : va_P D vwCl w H) (hK : va_K D vwCl tys s) : PreS s H (PcR As D tys w) As :=
  ⟨blindR, fun U hU hW => ⟨rfl, by rw [hU]; exact hE.none.warm hW, by rw [hU]; exact hP, va_K.moved hW.alike hK⟩⟩
theorem preRV {C : String} {b : Addr} {As : List Value} (hrc : ∃ cell : Cell, H[b]? = some cell ∧ cell.vm.isStatics = false ∧ s.vm.findClass C = some cell.cls) (hE : evOK A s H) (hP : va_P D vwCl w H) (hK : va_K D vwCl tys s) : PreV s H C b (PcR (.ref b :: As) D tys w) As :=
  ⟨blindR, hrc, fun U hU hW => ⟨rfl, by rw [hU]; exact hE.none.warm hW, by rw [hU]; exact hP, va_K.moved hW.alike hK⟩⟩
theorem preW {As : List Value} (hE : evOK A s H0) (hP : va_P D vwCl w H) (hK : va_K D vwCl tys s) (hD : va_D A w) (hS : va_S A H0 H locs) (hA : ∀ q : Nat, H0.size ≤ q → A q) : ∀ U : State, U.heap = H → s.WarmedH U.vm → PcW As D tys w H.size As.toArray U := by
  intro U hU hW
  have hF : ∀ q, va_A w H.size q → A q := fun q h => by
    rcases h with ⟨k, e, hk⟩ | h
    · exact hD.2 k _ hk
    · exact hA q (Nat.le_trans hS.1 h)
  exact ⟨rfl, by rw [hU], by rw [hU]; exact ((hE.since hS).narrow hF).warm hW, by rw [hU]; exact hP, va_K.moved hW.alike hK, hD.weaken (fun _ _ _ _ => trivial)⟩
end ROWS
