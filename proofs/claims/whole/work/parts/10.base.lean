/-! THE GROUND: the tables' words as a fact on the state; the facts that every contract takes along; reading and writing contracts -/
def tb_good : Cond → Bool
  | .arrayClass _ => true
  | w => w.onTables && w.keepsH
theorem tb_move {A A' : Array Value} {s U : State} (hW : s.WarmedH U.vm) {w : Cond} (hg : tb_good w = true) (h : w.before A s = true) : w.before A' U = true := by
  have hc : (w.onTables && w.keepsH) = true ∨ ∃ ty, w = .arrayClass ty := by
    cases w <;> first | (exact Or.inr ⟨_, rfl⟩) | (exact Or.inl hg)
  rcases hc with hc | ⟨ty, rfl⟩
  · simp only [Bool.and_eq_true] at hc
    have h1 := Cond.onTables_warmH (T := U) (args' := A') hW hc.1 hc.2 h
    rwa [State.setVm_self] at h1
  · exact word_at hW (Or.inr ⟨ty, rfl⟩) h
def tb_OK (U : State) : Prop := ∀ w ∈ lw_tbl, tb_good w = true → w.before #[] U = true
theorem tb_OK.warm {s U : State} (h : tb_OK s) (hW : s.WarmedH U.vm) : tb_OK U := fun w hw hg => tb_move hW hg (h w hw hg)
theorem tb_at {s : State} (h : tb_OK s) {args : Array Value} {w : Cond} (i : Nat) (hi : lw_tbl[i]? = some w) (hg : tb_good w = true) : w.before args s = true :=
  tb_move (A := #[]) (State.WarmedH.refl s) hg (h w (List.mem_of_getElem? hi) hg)
/-- a word that hangs on one cell outside A -/
def st_L (w : Cond) (A : Nat → Prop) (U : State) (H : Heap) : Prop := ∃ (a : Nat) (cell : Cell), H[a]? = some cell ∧ ¬ A a ∧ ∀ (V : State) (args : Array Value), U.WarmedH V.vm → V.heap[a]? = some cell → w.before args V = true
theorem st_L.warm {w : Cond} {A : Nat → Prop} {s U : State} {H : Heap} (h : st_L w A s H) (hW : s.WarmedH U.vm) : st_L w A U H := by
  obtain ⟨a, cell, h1, h2, h3⟩ := h
  exact ⟨a, cell, h1, h2, fun V args hV hc => h3 V args (State.WarmedH.trans hW hV) hc⟩
theorem st_L.kept {w : Cond} {A : Nat → Prop} {U : State} {H H1 : Heap} (h : st_L w A U H) (hq : ∀ a : Nat, a < H.size → ¬ A a → H1[a]? = H[a]?) : st_L w A U H1 := by
  obtain ⟨a, cell, h1, h2, h3⟩ := h
  exact ⟨a, cell, by rw [hq a (Array.getElem?_eq_some_iff.mp h1).1 h2]; exact h1, h2, h3⟩
theorem st_L.narrow {w : Cond} {A B : Nat → Prop} {U : State} {H : Heap} (h : st_L w A U H) (hAB : ∀ q, B q → A q) : st_L w B U H := by
  obtain ⟨a, cell, h1, h2, h3⟩ := h
  exact ⟨a, cell, h1, fun q => h2 (hAB _ q), h3⟩
theorem st_L.use {w : Cond} {A : Nat → Prop} {U : State} {args : Array Value} (h : st_L w A U U.heap) : w.before args U = true := by
  obtain ⟨a, cell, h1, h2, h3⟩ := h
  exact h3 U args (State.WarmedH.refl U) h1
/-- the table c of the keys -/
def kTab (k : Nat) : Int32 := ([64, 59, 45, 24, 0, -24, -45, -59, -64, -59, -45, -24, 0, 24, 45, 59] : List Int32).getD k 0
def st_C (A : Nat → Prop) (U : State) (H : Heap) : Prop := ∃ t : Nat, va_Z RX0 "C" "[I" (.ref t) A U H ∧ va_T .int t 16 (fun k => .int (kTab k)) A U H
abbrev xcA : String := "java/lang/ArrayIndexOutOfBoundsException"
abbrev xcN : List String := ["java/lang/IndexOutOfBoundsException", "java/lang/RuntimeException", "java/lang/Exception"]
/-- the words of the exception's own making; those that hang on a statics cell apart -/
def st_X (A : Nat → Prop) (U : State) (H : Heap) : Prop := ∀ w ∈ Bundle.ownAtoms RX3 155 xcA xcN, st_L w A U H
/-- the texts of the exceptions -/
def st_S (U : State) : Prop := ∀ q ∈ ([(186, "no such ring"), (188, "no such ring, or it is open"), (153, "no such axis"), (184, "no such count")] : List (Nat × String)), ∃ a, vk_R RX3 q.1 q.2 a U
/-- WHAT EVERY CONTRACT TAKES ALONG -/
def evOK (A : Nat → Prop) (U : State) (H : Heap) : Prop := tb_OK U ∧ st_C A U H ∧ st_X A U H ∧ st_S U
theorem evOK.warm {A : Nat → Prop} {s U : State} {H : Heap} (h : evOK A s H) (hW : s.WarmedH U.vm) : evOK A U H := by
  obtain ⟨h1, ⟨t, h2, h3⟩, h4, h5⟩ := h
  exact ⟨h1.warm hW, ⟨t, h2.moved hW.alike, h3.moved hW.alike⟩, fun w hw => (h4 w hw).warm hW, fun q hq => by
    obtain ⟨a, ha⟩ := h5 q hq
    exact ⟨a, ha.warm hW⟩⟩
theorem evOK.kept {A : Nat → Prop} {U : State} {H H1 : Heap} (h : evOK A U H) (hq : ∀ a : Nat, a < H.size → ¬ A a → H1[a]? = H[a]?) : evOK A U H1 := by
  obtain ⟨h1, ⟨t, h2, h3⟩, h4, h5⟩ := h
  exact ⟨h1, ⟨t, h2.kept hq, h3.kept hq⟩, fun w hw => (h4 w hw).kept hq, h5⟩
theorem evOK.narrow {A B : Nat → Prop} {U : State} {H : Heap} (h : evOK A U H) (hAB : ∀ q, B q → A q) : evOK B U H := by
  obtain ⟨h1, ⟨t, h2, h3⟩, h4, h5⟩ := h
  exact ⟨h1, ⟨t, h2.narrow hAB, h3.narrow hAB⟩, fun w hw => (h4 w hw).narrow hAB, h5⟩
theorem evOK.none {A : Nat → Prop} {U : State} {H : Heap} (h : evOK A U H) : evOK (fun _ => False) U H := h.narrow (fun _ h => h.elim)
theorem evOK.since {A : Nat → Prop} {U : State} {H0 H : Heap} {locs : List Loc} (h : evOK A U H0) (hS : va_S A H0 H locs) : evOK A U H := h.kept hS.2.1
def rmD (d mc ms : Nat) : Room := { frames := 20 * d, cells := mc, slots := ms, locals := 400 * d }
/-- READING CONTRACTS: the answer is v, the heap stays -/
def PcR (av : List Value) (D : va_G) (tys : List (ClassId × FieldType)) (w : va_W) : Array Value → State → Prop := va_Pc av (fun U => evOK (fun _ => False) U U.heap ∧ va_P D vwCl w U.heap ∧ va_K D vwCl tys U)
def QcR (v : Option Value) : Array Value → State → Outcome → State → Prop := fun _ st o t => o = .returned v ∧ t.heap = st.heap
def RD (l : Launch) (y : MethodName) (cc : ByteArray) (maxL : Nat) (ret : Option FieldType) (d : Nat) (D : va_G) (tys : List (ClassId × FieldType)) (w : va_W) (av : List Value) (v : Option Value) : Prop :=
  Met l y [Cond.code y cc maxL ret] (rmD d 0 0) (PcR av D tys w) (QcR v) 0 0 (fun _ => False)
theorem blindR {av : List Value} {D : va_G} {tys : List (ClassId × FieldType)} {w : va_W} : FrameBlind (PcR av D tys w) := by
  intro a U g mk h
  obtain ⟨h1, h2, h3, h4⟩ := h
  exact ⟨h1, h2.warm (U := U.calling g mk a) (State.WarmedH.refl U), h3, va_K.moved (u := U) (U := U.calling g mk a) (Vm.Alike.refl U.vm) h4⟩
theorem RD.of {l : Launch} {y : MethodName} {cc : ByteArray} {maxL : Nat} {ret : Option FieldType} {d : Nat} {D : va_G} {tys : List (ClassId × FieldType)} {w : va_W} {av : List Value} {v : Option Value} (hy : plainName y.cls = true)
    (body : ∀ (p : Program) (e : Env) (s : State) (m : MethodId) (below : List Frame) (meth : Method) (c : Code), p.tables.exec = Jvm.exec → c.code = cc → meth.sig.returnType = ret → c.maxLocals = maxL → s.vm.findClass y.cls = some m.cls → meth.locks = false → evOK (fun _ => False) s s.heap → va_P D vwCl w s.heap → va_K D vwCl tys s →
      W p l e (rmD d 0 0) s m av.toArray below meth c s.heap [] 0 0 (MQ below (QcR v) av.toArray s 0 0 (fun _ => False)) (entryFrame m av.toArray maxL)) : RD l y cc maxL ret d D tys w av v := by
  refine Met.ofW (cc := cc) (maxL := maxL) (ret := ret) hy rfl ?_
  intro p e s m args below meth c s₁ B hml hv
  obtain ⟨rfl, h1, h2, h3⟩ := hv
  exact body p e s m below meth c B.exec B.bytes B.returns hml (findClass_of_methodNamed B.named) B.notSynchronized h1 h2 h3
section ROWS
variable {p : Program} {l : Launch} {e : Env} {R : Room} {s : State} {m : MethodId} {args : Array Value} {below : List Frame} {meth : Method} {c : Code} {H : Heap} {locs : List Loc} {cells slots : Nat} {Q : State → Prop} {cc : ByteArray} {pc : Nat} {ls : Array Slot}
theorem rd_i (hx : p.tables.exec = Jvm.exec) (hb : c.code = cc) (hr : meth.sig.returnType = some .int) (hlocks : meth.locks = false) (hdg : decode cc pc = .ok (.ireturn, 1)) {v r : Int32} (hv : v = r) : W p l e R s m args below meth c s.heap [] 0 0 (MQ below (QcR (some (.int r))) args s 0 0 (fun _ => False)) (F0 m pc ls [.int v]) := by
  subst hv
  exact W.iret hx hb hr (fun t ht hW => ⟨rfl, ht⟩) (fun q h => by cases h) hdg hlocks
theorem rd_z (hx : p.tables.exec = Jvm.exec) (hb : c.code = cc) (hr : meth.sig.returnType = some .boolean) (hlocks : meth.locks = false) (hdg : decode cc pc = .ok (.ireturn, 1)) {v r : Int32} (hn : narrow .boolean (.int v) = .int v) (hv : v = r) : W p l e R s m args below meth c s.heap [] 0 0 (MQ below (QcR (some (.int r))) args s 0 0 (fun _ => False)) (F0 m pc ls [.int v]) := by
  subst hv
  exact W.zret hx hb hr hn (fun t ht hW => ⟨rfl, ht⟩) (fun q h => by cases h) hdg hlocks
theorem rd_l (hx : p.tables.exec = Jvm.exec) (hb : c.code = cc) (hr : meth.sig.returnType = some .long) (hlocks : meth.locks = false) (hdg : decode cc pc = .ok (.lreturn, 1)) {v r : Int64} (hv : v = r) : W p l e R s m args below meth c s.heap [] 0 0 (MQ below (QcR (some (.long r))) args s 0 0 (fun _ => False)) (F0 m pc ls [.long v]) := by
  subst hv
  exact W.lret hx hb hr (fun t ht hW => ⟨rfl, ht⟩) (fun q h => by cases h) hdg hlocks
theorem crd {g : JFrame} {rest : List Value} {v : Option Value} {a : Array Value} (hr : CallRun p l e R s m args below meth c H locs cells slots 0 0 g rest (QcR v a) (fun _ => False)) (kk : W p l e R s m args below meth c H locs cells slots Q { g with pc := g.pc + 3, stack := v.toList ++ rest }) : W p l e R s m args below meth c H locs cells slots Q g := by
  intro T hT X
  obtain ⟨v', st₀, t, T', L, h0, X', hL, e1, ⟨hv, hh⟩, st⟩ := hr T hT X
  cases hv
  obtain ⟨t2, a1, b1⟩ := kk T' (by rw [e1, hh, h0]) (Stand.forget X' (fun q h => (hL q h).elim))
  exact ⟨t2, st t2 a1, b1⟩
end ROWS
