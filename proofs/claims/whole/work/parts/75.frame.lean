/-! THE FRAME: a contract over some cells is a contract over more cells; what is made -/
theorem fr_at {is : List Nat} {ws w : va_W} (hs : is.map (fun i => ws[i]?) = w.map some) {k : Nat} {q : Nat × va_E} (hq : w[k]? = some q) : ∃ i, is[k]? = some i ∧ ws[i]? = some q := by
  have h1 : (is.map (fun i => ws[i]?))[k]? = some (some q) := by rw [hs, List.getElem?_map, hq]; rfl
  rw [List.getElem?_map] at h1
  cases hi : is[k]? with
  | none => rw [hi] at h1; cases h1
  | some i => rw [hi] at h1; exact ⟨i, rfl, Option.some.inj h1⟩
theorem fr_P {D : va_G} {H : Heap} {is : List Nat} {ws w : va_W} (hs : is.map (fun i => ws[i]?) = w.map some) (h : va_P D vwCl ws H) : va_P D vwCl w H := fun k q hq => by
  obtain ⟨i, -, h2⟩ := fr_at hs hq
  exact h i q h2
theorem fr_A {is : List Nat} {ws w : va_W} {sz : Nat} (hs : is.map (fun i => ws[i]?) = w.map some) {q : Nat} (h : va_A w sz q) : va_A ws sz q := by
  rcases h with ⟨k, e, hk⟩ | h
  · obtain ⟨i, -, h2⟩ := fr_at hs hk
    exact Or.inl ⟨i, e, h2⟩
  · exact Or.inr h
theorem RD.frame {l : Launch} {y : MethodName} {cc : ByteArray} {maxL : Nat} {ret : Option FieldType} {d : Nat} {D : va_G} {tys : List (ClassId × FieldType)} {w wc : va_W} {av : List Value} {v : Option Value} (h : RD l y cc maxL ret d D tys wc av v) (isC : List Nat) (hC : isC.map (fun i => w[i]?) = wc.map some) : RD l y cc maxL ret d D tys w av v := by
  unfold RD Met at h ⊢
  exact MetFree.mono h (fun a st hp => by
    obtain ⟨h1, h2, h3, h4⟩ := hp
    exact ⟨h1, h2, fr_P hC h3, h4⟩) (fun _ _ _ _ _ h => h) (fun _ _ _ _ _ hq => hq)
theorem TH.frame {l : Launch} {y : MethodName} {cc : ByteArray} {maxL : Nat} {ret : Option FieldType} {d : Nat} {D : va_G} {tys : List (ClassId × FieldType)} {w wc : va_W} {av : List Value} (h : TH l y cc maxL ret d D tys wc av) (isC : List Nat) (hC : isC.map (fun i => w[i]?) = wc.map some) : TH l y cc maxL ret d D tys w av := by
  have h9 : MetFree l y _ _ _ _ := h
  exact MetFree.mono h9 (fun a st hp => by
    obtain ⟨h1, h2, h3, h4⟩ := hp
    exact ⟨h1, h2, fr_P hC h3, h4⟩) (fun _ _ _ _ _ h => h) (fun _ _ _ _ _ hq => hq)
theorem fr_Met {l : Launch} {y : MethodName} {ws : List Cond} {rm : Room} {mc ms : Nat} {D : va_G} {tys : List (ClassId × FieldType)} {w wc wr : va_W} {av : List Value} {post : Option Value → va_W → Prop} {sz : Nat} (h : Met l y ws rm (PcW av D tys wc sz) (QcW D wc sz post) mc ms (va_A wc sz)) (isC isR : List Nat) (hC : isC.map (fun i => w[i]?) = wc.map some) (hR : isR.map (fun i => w[i]?) = wr.map some) (hnC : va_nd isC = true) (hn : va_nd isR = true) (hdis : ∀ i ∈ isR, i ∉ isC) :
    Met l y ws rm (PcW av D tys w sz) (QcW D w sz (fun v w' => ∃ w1, post v w1 ∧ w' = wr ++ w1)) mc ms (va_A w sz) := by
  refine MetFree.mono h (fun a st hp => ?_) (fun _ _ _ _ _ h => h) (fun a st o t hp hq => ?_)
  · obtain ⟨h1, h0, h2, h3, h4, h5⟩ := hp
    exact ⟨h1, h0, h2.narrow (fun q hq => fr_A hC hq), fr_P hC h3, h4, h5.sub isC hnC hC⟩
  · obtain ⟨h1, h0, h2, h3, h4, h5⟩ := hp
    obtain ⟨⟨v, w', ho, hpost, hP1, hD1, hF⟩, L, hFE, hL⟩ := hq
    subst h0
    obtain ⟨g1, g2⟩ := va_join (wr := wr) h3 (h5.self (sz := st.heap.size)) isC isR hC hR hn hdis (fun q hq hnq => hF.2 q hq hnq) (fun q hq => fr_A hC hq) hP1 hD1
    exact ⟨⟨v, wr ++ w', ho, ⟨w', hpost, rfl⟩, g1, g2, hF.1, fun q hq hnq => hF.2 q hq (fun h => hnq (fr_A hC h))⟩, L, hFE, fun q hq => fr_A hC (hL q hq)⟩
theorem WR.frame {l : Launch} {y : MethodName} {cc : ByteArray} {maxL : Nat} {ret : Option FieldType} {d mc ms : Nat} {D : va_G} {tys : List (ClassId × FieldType)} {w wc wr : va_W} {av : List Value} {post : Option Value → va_W → Prop} (h : WR l y cc maxL ret d mc ms D tys wc av post) (isC isR : List Nat) (hC : isC.map (fun i => w[i]?) = wc.map some) (hR : isR.map (fun i => w[i]?) = wr.map some) (hnC : va_nd isC = true) (hn : va_nd isR = true) (hdis : ∀ i ∈ isR, i ∉ isC) :
    WR l y cc maxL ret d mc ms D tys w av (fun v w' => ∃ w1, post v w1 ∧ w' = wr ++ w1) := fun sz => fr_Met (h sz) isC isR hC hR hnC hn hdis
theorem WRH.frame {l : Launch} {y : MethodName} {cc : ByteArray} {maxL : Nat} {ret : Option FieldType} {hs : List (Nat × Nat × Nat × Nat)} {d mc ms : Nat} {D : va_G} {tys : List (ClassId × FieldType)} {w wc wr : va_W} {av : List Value} {post : Option Value → va_W → Prop} (h : WRH l y cc maxL ret hs d mc ms D tys wc av post) (isC isR : List Nat) (hC : isC.map (fun i => w[i]?) = wc.map some) (hR : isR.map (fun i => w[i]?) = wr.map some) (hnC : va_nd isC = true) (hn : va_nd isR = true) (hdis : ∀ i ∈ isR, i ∉ isC) :
    WRH l y cc maxL ret hs d mc ms D tys w av (fun v w' => ∃ w1, post v w1 ∧ w' = wr ++ w1) := fun sz => fr_Met (h sz) isC isR hC hR hnC hn hdis
theorem WR.post {l : Launch} {y : MethodName} {cc : ByteArray} {maxL : Nat} {ret : Option FieldType} {d mc ms : Nat} {D : va_G} {tys : List (ClassId × FieldType)} {w : va_W} {av : List Value} {post post' : Option Value → va_W → Prop} (h : WR l y cc maxL ret d mc ms D tys w av post) (hp : ∀ v w', post v w' → post' v w') : WR l y cc maxL ret d mc ms D tys w av post' := fun sz =>
  MetFree.mono (h sz) (fun _ _ hp => hp) (fun _ _ _ _ _ h => h) (fun a st o t _ hq => by
    obtain ⟨⟨v, w', ho, hpost, hr⟩, hL⟩ := hq
    exact ⟨⟨v, w', ho, hp v w' hpost, hr⟩, hL⟩)
theorem ra_i {s : State} {cA cB : ClassId} (h1 : va_RA s cA .int) (h2 : va_RA s cB .int) : cA = cB := Option.some.inj (Eq.trans (Eq.symm (show s.vm.findClass _ = some cA from h1)) h2)
theorem ra_l {s : State} {cA cB : ClassId} (h1 : va_RA s cA .long) (h2 : va_RA s cB .long) : cA = cB := Option.some.inj (Eq.trans (Eq.symm (show s.vm.findClass _ = some cA from h1)) h2)
theorem ra_z {s : State} {cA cB : ClassId} (h1 : va_RA s cA .boolean) (h2 : va_RA s cB .boolean) : cA = cB := Option.some.inj (Eq.trans (Eq.symm (show s.vm.findClass _ = some cA from h1)) h2)
section ROWS
variable {p : Program} {l : Launch} {e : Env} {R : Room} {s : State} {m : MethodId} {args : Array Value} {below : List Frame} {meth : Method} {c : Code} {H H0 : Heap} {locs : List Loc} {cells slots : Nat} {Q : State → Prop} {cc : ByteArray} {pc : Nat} {ls : Array Slot} {D : va_G} {ws : va_W} {A : Nat → Prop} {cI cJ cZ : ClassId} {rest : List Value}
theorem nw_i (hx : p.tables.exec = Jvm.exec) (hb : c.code = cc) (ht : tb_OK s) (hK : va_K D vwCl (tysW cI cJ cZ) s) (hP : va_P D vwCl ws H) (hD : va_D A ws) (hS : va_S A H0 H locs) (hA : ∀ q, H0.size ≤ q → A q) {z : Int32} {N' : Nat} (hn : ¬ z < 0) (hN : z.toNatClampNeg = N') (hb4 : N' ≤ 1000) (hcells : cells + 1 ≤ R.cells) (hslots : slots + N' ≤ R.slots) (hdg : decode cc pc = .ok (.newarray .int, 2))
    (kk : ∀ (q : Nat) (H1 : Heap), va_P D vwCl (ws ++ [(q, .inl (cI, (N', .inl (fun _ => 0))))]) H1 → va_D A (ws ++ [(q, .inl (cI, (N', .inl (fun _ => 0))))]) → va_S A H0 H1 locs → W p l e R s m args below meth c H1 locs (cells + 1) (slots + N') Q (F0 m (pc + 2) ls (.ref q :: rest))) : W p l e R s m args below meth c H locs cells slots Q (F0 m pc ls (.int z :: rest)) :=
  va_newa (atype := .int) hx hb (ac_int ht) rfl hK hP hD hS hA (a0 := (N', .inl (fun _ => 0))) (fun _ => rfl) hn hN (by show N' * 4 ≤ _; omega) hcells hslots hdg (fun q cA H1 hK1 hP1 hD1 hS1 => by
    obtain rfl : cA = cI := ra_i (hK1.2 3 (cA, .int) rfl).2 (hK.2 0 (cI, .int) rfl).2
    exact kk q H1 hP1 hD1 hS1)
theorem nw_l (hx : p.tables.exec = Jvm.exec) (hb : c.code = cc) (ht : tb_OK s) (hK : va_K D vwCl (tysW cI cJ cZ) s) (hP : va_P D vwCl ws H) (hD : va_D A ws) (hS : va_S A H0 H locs) (hA : ∀ q, H0.size ≤ q → A q) {z : Int32} {N' : Nat} (hn : ¬ z < 0) (hN : z.toNatClampNeg = N') (hb4 : N' ≤ 1000) (hcells : cells + 1 ≤ R.cells) (hslots : slots + N' ≤ R.slots) (hdg : decode cc pc = .ok (.newarray .long, 2))
    (kk : ∀ (q : Nat) (H1 : Heap), va_P D vwCl (ws ++ [(q, .inl (cJ, (N', .inr (.inl (fun _ => 0)))))]) H1 → va_D A (ws ++ [(q, .inl (cJ, (N', .inr (.inl (fun _ => 0)))))]) → va_S A H0 H1 locs → W p l e R s m args below meth c H1 locs (cells + 1) (slots + N') Q (F0 m (pc + 2) ls (.ref q :: rest))) : W p l e R s m args below meth c H locs cells slots Q (F0 m pc ls (.int z :: rest)) :=
  va_newa (atype := .long) hx hb (ac_long ht) rfl hK hP hD hS hA (a0 := (N', .inr (.inl (fun _ => 0)))) (fun _ => rfl) hn hN (by show N' * 8 ≤ _; omega) hcells hslots hdg (fun q cA H1 hK1 hP1 hD1 hS1 => by
    obtain rfl : cA = cJ := ra_l (hK1.2 3 (cA, .long) rfl).2 (hK.2 1 (cJ, .long) rfl).2
    exact kk q H1 hP1 hD1 hS1)
theorem nw_z (hx : p.tables.exec = Jvm.exec) (hb : c.code = cc) (ht : tb_OK s) (hK : va_K D vwCl (tysW cI cJ cZ) s) (hP : va_P D vwCl ws H) (hD : va_D A ws) (hS : va_S A H0 H locs) (hA : ∀ q, H0.size ≤ q → A q) {z : Int32} {N' : Nat} (hn : ¬ z < 0) (hN : z.toNatClampNeg = N') (hb4 : N' ≤ 1000) (hcells : cells + 1 ≤ R.cells) (hslots : slots + N' ≤ R.slots) (hdg : decode cc pc = .ok (.newarray .boolean, 2))
    (kk : ∀ (q : Nat) (H1 : Heap), va_P D vwCl (ws ++ [(q, .inl (cZ, (N', .inl (fun _ => 0))))]) H1 → va_D A (ws ++ [(q, .inl (cZ, (N', .inl (fun _ => 0))))]) → va_S A H0 H1 locs → W p l e R s m args below meth c H1 locs (cells + 1) (slots + N') Q (F0 m (pc + 2) ls (.ref q :: rest))) : W p l e R s m args below meth c H locs cells slots Q (F0 m pc ls (.int z :: rest)) :=
  va_newa (atype := .boolean) hx hb (ac_boolean ht) rfl hK hP hD hS hA (a0 := (N', .inl (fun _ => 0))) (fun _ => rfl) hn hN (by show N' * 1 ≤ _; omega) hcells hslots hdg (fun q cA H1 hK1 hP1 hD1 hS1 => by
    obtain rfl : cA = cZ := ra_z (hK1.2 3 (cA, .boolean) rfl).2 (hK.2 2 (cZ, .boolean) rfl).2
    exact kk q H1 hP1 hD1 hS1)
end ROWS
