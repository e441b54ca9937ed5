theorem RD.ofF {l : Launch} {y : MethodName} {cc : ByteArray} {maxL : Nat} {ret : Option FieldType} {d : Nat} {D : va_G} {tys : List (ClassId × FieldType)} {w : va_W} {av : List Value} {v : Option Value} (hy : plainFor y = true)
    (body : ∀ (p : Program) (e : Env) (s : State) (m : MethodId) (below : List Frame) (meth : Method) (c : Code), p.tables.exec = Jvm.exec → c.code = cc → meth.sig.returnType = ret → c.maxLocals = maxL → s.vm.findClass y.cls = some m.cls → meth.locks = false → evOK (fun _ => False) s s.heap → va_P D vwCl w s.heap → va_K D vwCl tys s →
      W p l e (rmD d 0 0) s m av.toArray below meth c s.heap [] 0 0 (MQ below (QcR v) av.toArray s 0 0 (fun _ => False)) (entryFrame m av.toArray maxL)) : RD l y cc maxL ret d D tys w av v := by
  refine va_MetF (cc := cc) (maxL := maxL) (ret := ret) hy rfl ?_
  intro p e s m args below meth c s₁ B hml hv
  obtain ⟨rfl, h1, h2, h3⟩ := hv
  exact body p e s m below meth c B.exec B.bytes B.returns hml (findClass_of_methodNamed B.named) B.notSynchronized h1 h2 h3
def f_J9_floorDiv_7cf53 (k : Int32) (j : Int32) : Int32 := if 0 ≤ (k ^^^ j) then (k / j) else (if ((k / j) * j) = k then (k / j) else ((k / j) - 1))
set_option maxRecDepth 20000 in
set_option maxHeartbeats 4000000 in
theorem k_J9_floorDiv_7cf53 (l : Launch) (D : va_G) (tys : List (ClassId × FieldType)) (k : Int32) (j : Int32) (hj : ¬ j = 0) : RD l yJ9_floorDiv_7cf53 cJ9_floorDiv_7cf53 3 (some .int) 0 D tys ([]) [.int k, .int j] (some (.int (f_J9_floorDiv_7cf53 k j))) := by
  refine RD.ofF (by decide +kernel) ?_
  intro p e s m below meth c hx hb hr hml hown hlocks hE hP hK
  have hown : s.vm.findClass RJ9 = some m.cls := hown
  have ht : tb_OK s := hE.1
  have hl := lv_entry ([.int k, .int j]) (n := 3) (Nat.le_of_ble_eq_true rfl)
  rw [lg_entry_eq]
  generalize (lg_sl ([.int k, .int j]) ++ List.replicate (3 - (lg_sl ([.int k, .int j])).length) Slot.unset).toArray = ls at hl ⊢
  have hl : lv_has ls 3 [(0, .int k), (1, .int j)] := hl
  refine lv_iload_n hx hb dJ9_floorDiv_7cf53_0 rfl (lv_at hl 0 rfl) ?_
  refine lv_iload_n hx hb dJ9_floorDiv_7cf53_1 rfl (lv_at hl 1 rfl) ?_
  refine lv_idiv hx hb dJ9_floorDiv_7cf53_2 hj ?_
  refine lv_istore_n (lv' := [(2, .int (k / j)), (0, .int k), (1, .int j)]) hx hb dJ9_floorDiv_7cf53_3 rfl hl (by decide) rfl (fun ls hl => ?_)
  refine lv_iload_n hx hb dJ9_floorDiv_7cf53_4 rfl (lv_at hl 1 rfl) ?_
  refine lv_iload_n hx hb dJ9_floorDiv_7cf53_5 rfl (lv_at hl 2 rfl) ?_
  refine lv_ixor hx hb dJ9_floorDiv_7cf53_6 ?_
  refine lv_if_ge (tgt := 21) hx hb dJ9_floorDiv_7cf53_7 (by decide) (fun c_1 => ?_) (fun c_1 => ?_)
  · skip
    refine lv_iload_n hx hb dJ9_floorDiv_7cf53_21 rfl (lv_at hl 0 rfl) ?_
    exact rd_i hx hb hr hlocks dJ9_floorDiv_7cf53_22 (by unfold f_J9_floorDiv_7cf53; rw [if_pos c_1])
  · skip
    refine lv_iload_n hx hb dJ9_floorDiv_7cf53_10 rfl (lv_at hl 0 rfl) ?_
    refine lv_iload_n hx hb dJ9_floorDiv_7cf53_11 rfl (lv_at hl 2 rfl) ?_
    refine lv_imul hx hb dJ9_floorDiv_7cf53_12 ?_
    refine lv_iload_n hx hb dJ9_floorDiv_7cf53_13 rfl (lv_at hl 1 rfl) ?_
    refine lv_icmp_eq (tgt := 21) hx hb dJ9_floorDiv_7cf53_14 (by decide) (fun c_2 => ?_) (fun c_2 => ?_)
    · skip
      refine lv_iload_n hx hb dJ9_floorDiv_7cf53_21 rfl (lv_at hl 0 rfl) ?_
      exact rd_i hx hb hr hlocks dJ9_floorDiv_7cf53_22 (by unfold f_J9_floorDiv_7cf53; rw [if_neg c_1, if_pos c_2])
    · skip
      refine lv_iload_n hx hb dJ9_floorDiv_7cf53_17 rfl (lv_at hl 0 rfl) ?_
      refine lv_iconst (v := 1) hx hb dJ9_floorDiv_7cf53_18 (by decide) ?_
      refine lv_isub hx hb dJ9_floorDiv_7cf53_19 ?_
      exact rd_i hx hb hr hlocks dJ9_floorDiv_7cf53_20 (by unfold f_J9_floorDiv_7cf53; rw [if_neg c_1, if_neg c_2])
def f_X3_isWithin (k : Int32) (j : Int32) (z : Int32) : Int32 := if k < j then 0 else (if z < k then 0 else 1)
set_option maxRecDepth 20000 in
set_option maxHeartbeats 4000000 in
theorem k_X3_isWithin (l : Launch) (D : va_G) (tys : List (ClassId × FieldType)) (k : Int32) (j : Int32) (z : Int32) : RD l yX3_isWithin cX3_isWithin 3 (some .boolean) 0 D tys ([]) [.int k, .int j, .int z] (some (.int (f_X3_isWithin k j z))) := by
  refine RD.of (by decide) ?_
  intro p e s m below meth c hx hb hr hml hown hlocks hE hP hK
  have hown : s.vm.findClass RX3 = some m.cls := hown
  have ht : tb_OK s := hE.1
  have hl := lv_entry ([.int k, .int j, .int z]) (n := 3) (Nat.le_of_ble_eq_true rfl)
  rw [lg_entry_eq]
  generalize (lg_sl ([.int k, .int j, .int z]) ++ List.replicate (3 - (lg_sl ([.int k, .int j, .int z])).length) Slot.unset).toArray = ls at hl ⊢
  have hl : lv_has ls 3 [(0, .int k), (1, .int j), (2, .int z)] := hl
  refine lv_iload_n hx hb dX3_isWithin_0 rfl (lv_at hl 0 rfl) ?_
  refine lv_iload_n hx hb dX3_isWithin_1 rfl (lv_at hl 1 rfl) ?_
  refine lv_icmp_lt (tgt := 14) hx hb dX3_isWithin_2 (by decide) (fun c_1 => ?_) (fun c_1 => ?_)
  · skip
    refine lv_iconst (v := 0) hx hb dX3_isWithin_14 (by decide) ?_
    exact rd_z hx hb hr hlocks dX3_isWithin_15 rfl (by unfold f_X3_isWithin; rw [if_pos c_1])
  · skip
    refine lv_iload_n hx hb dX3_isWithin_5 rfl (lv_at hl 0 rfl) ?_
    refine lv_iload_n hx hb dX3_isWithin_6 rfl (lv_at hl 2 rfl) ?_
    refine lv_icmp_gt (tgt := 14) hx hb dX3_isWithin_7 (by decide) (fun c_2 => ?_) (fun c_2 => ?_)
    · skip
      refine lv_iconst (v := 0) hx hb dX3_isWithin_14 (by decide) ?_
      exact rd_z hx hb hr hlocks dX3_isWithin_15 rfl (by unfold f_X3_isWithin; rw [if_neg c_1, if_pos c_2])
    · skip
      refine lv_iconst (v := 1) hx hb dX3_isWithin_10 (by decide) ?_
      refine lv_goto (tgt := 15) hx hb dX3_isWithin_11 (by decide) ?_
      exact rd_z hx hb hr hlocks dX3_isWithin_15 rfl (by unfold f_X3_isWithin; rw [if_neg c_1, if_neg c_2])
def f_X2_offAt (r : Int32) (lx : Nat → Int64) (ly : Nat → Int64) (gx : Nat → Int64) (gy : Nat → Int64) : Int64 := (((gx (r + 1).toNatClampNeg) - (lx r.toNatClampNeg)) * ((gx (r + 1).toNatClampNeg) - (lx r.toNatClampNeg))) + (((gy (r + 1).toNatClampNeg) - (ly r.toNatClampNeg)) * ((gy (r + 1).toNatClampNeg) - (ly r.toNatClampNeg)))
set_option maxRecDepth 20000 in
set_option maxHeartbeats 4000000 in
theorem k_X2_offAt (l : Launch) (D : va_G) (cI cJ cZ : ClassId) (a : Nat → Nat) (n : Nat) (ah pl ck ct nk pm ja rg bu pn : Int32) (tp st us fb kA tA : Nat → Int32) (lx ly gx gy gu gv : Nat → Int64) (r : Int32) (h0 : vp_in r n) (h2 : vp_in (r + 1) (n + 1)) : RD l yX2_offAt cX2_offAt 6 (some .long) 0 D (tysW cI cJ cZ) (wI cI cJ cZ a n ah pl ck ct nk pm ja rg bu pn tp st us fb kA tA lx ly gx gy gu gv) [.ref (a 7), .int r] (some (.long (f_X2_offAt r lx ly gx gy))) := by
  refine RD.of (by decide) ?_
  intro p e s m below meth c hx hb hr hml hown hlocks hE hP hK
  have hown : s.vm.findClass RX2 = some m.cls := hown
  have ht : tb_OK s := hE.1
  have hl := lv_entry ([.ref (a 7), .int r]) (n := 6) (Nat.le_of_ble_eq_true rfl)
  rw [lg_entry_eq]
  generalize (lg_sl ([.ref (a 7), .int r]) ++ List.replicate (6 - (lg_sl ([.ref (a 7), .int r])).length) Slot.unset).toArray = ls at hl ⊢
  have hl : lv_has ls 6 [(0, .ref (a 7)), (1, .int r)] := hl
  refine lv_aload_n hx hb dX2_offAt_0 rfl (lv_at hl 0 rfl) ?_
  refine va_get (D := D) (ci := 3) (v := .ref (a 12)) (C := RX2) (T := TX2) (N := 11) hx hb (lyX2 ht) (fun _ h9 => h9) hown hK hP 7 rfl rfl 7 (by decide) (fl_X2_35 ht) (fun _ h9 => h9) rfl dX2_offAt_1 ?_
  refine lv_iload_n hx hb dX2_offAt_4 rfl (lv_at hl 1 rfl) ?_
  refine lv_iconst (v := 1) hx hb dX2_offAt_5 (by decide) ?_
  refine lv_iadd hx hb dX2_offAt_6 ?_
  refine va_lald hx hb hK hP 12 1 rfl rfl h2 dX2_offAt_7 ?_
  refine lv_aload_n hx hb dX2_offAt_8 rfl (lv_at hl 0 rfl) ?_
  refine va_get (D := D) (ci := 3) (v := .ref (a 10)) (C := RX2) (T := TX2) (N := 11) hx hb (lyX2 ht) (fun _ h9 => h9) hown hK hP 7 rfl rfl 5 (by decide) (fl_X2_28 ht) (fun _ h9 => h9) rfl dX2_offAt_9 ?_
  refine lv_iload_n hx hb dX2_offAt_12 rfl (lv_at hl 1 rfl) ?_
  refine va_lald hx hb hK hP 10 1 rfl rfl h0 dX2_offAt_13 ?_
  refine lv_lsub hx hb dX2_offAt_14 ?_
  refine lv_lstore_n (lv' := [(2, .long ((gx (r + 1).toNatClampNeg) - (lx r.toNatClampNeg))), (0, .ref (a 7)), (1, .int r)]) hx hb dX2_offAt_15 rfl hl (by decide) rfl (fun ls hl => ?_)
  refine lv_aload_n hx hb dX2_offAt_16 rfl (lv_at hl 1 rfl) ?_
  refine va_get (D := D) (ci := 3) (v := .ref (a 13)) (C := RX2) (T := TX2) (N := 11) hx hb (lyX2 ht) (fun _ h9 => h9) hown hK hP 7 rfl rfl 8 (by decide) (fl_X2_38 ht) (fun _ h9 => h9) rfl dX2_offAt_17 ?_
  refine lv_iload_n hx hb dX2_offAt_20 rfl (lv_at hl 2 rfl) ?_
  refine lv_iconst (v := 1) hx hb dX2_offAt_21 (by decide) ?_
  refine lv_iadd hx hb dX2_offAt_22 ?_
  refine va_lald hx hb hK hP 13 1 rfl rfl h2 dX2_offAt_23 ?_
  refine lv_aload_n hx hb dX2_offAt_24 rfl (lv_at hl 1 rfl) ?_
  refine va_get (D := D) (ci := 3) (v := .ref (a 11)) (C := RX2) (T := TX2) (N := 11) hx hb (lyX2 ht) (fun _ h9 => h9) hown hK hP 7 rfl rfl 6 (by decide) (fl_X2_32 ht) (fun _ h9 => h9) rfl dX2_offAt_25 ?_
  refine lv_iload_n hx hb dX2_offAt_28 rfl (lv_at hl 2 rfl) ?_
  refine va_lald hx hb hK hP 11 1 rfl rfl h0 dX2_offAt_29 ?_
  refine lv_lsub hx hb dX2_offAt_30 ?_
  refine lv_lstore (lv' := [(4, .long ((gy (r + 1).toNatClampNeg) - (ly r.toNatClampNeg))), (2, .long ((gx (r + 1).toNatClampNeg) - (lx r.toNatClampNeg))), (0, .ref (a 7)), (1, .int r)]) hx hb dX2_offAt_31 hl (by decide) rfl (fun ls hl => ?_)
  refine lv_lload_n hx hb dX2_offAt_33 rfl (lv_at hl 1 rfl) ?_
  refine lv_lload_n hx hb dX2_offAt_34 rfl (lv_at hl 1 rfl) ?_
  refine lv_lmul hx hb dX2_offAt_35 ?_
  refine lv_lload hx hb dX2_offAt_36 (lv_at hl 0 rfl) ?_
  refine lv_lload hx hb dX2_offAt_38 (lv_at hl 0 rfl) ?_
  refine lv_lmul hx hb dX2_offAt_40 ?_
  refine lv_ladd hx hb dX2_offAt_41 ?_
  exact rd_l hx hb hr hlocks dX2_offAt_42 (rfl)
def f_X3_kind (k : Int32) (z : Int32) (nk : Int32) : Int32 := if (f_X3_isWithin k 0 200) = 0 then -2 else (if (f_X3_isWithin z 0 99) = 0 then -2 else (if (f_X1_isFull nk) = 0 then (f_X1_add nk) else -4))
def f_X3_kind_nk (k : Int32) (z : Int32) (nk : Int32) : Int32 := if (f_X3_isWithin k 0 200) = 0 then nk else (if (f_X3_isWithin z 0 99) = 0 then nk else (if (f_X1_isFull nk) = 0 then (f_X1_add_nk nk) else nk))
def f_X3_kind_tp (k : Int32) (z : Int32) (nk : Int32) (tp : Nat → Int32) : Nat → Int32 := if (f_X3_isWithin k 0 200) = 0 then tp else (if (f_X3_isWithin z 0 99) = 0 then tp else (if (f_X1_isFull nk) = 0 then (f_X1_add_tp k nk tp) else tp))
def f_X3_kind_st (k : Int32) (z : Int32) (nk : Int32) (st : Nat → Int32) : Nat → Int32 := if (f_X3_isWithin k 0 200) = 0 then st else (if (f_X3_isWithin z 0 99) = 0 then st else (if (f_X1_isFull nk) = 0 then (f_X1_add_st z nk st) else st))
set_option maxRecDepth 20000 in
set_option maxHeartbeats 4000000 in
theorem k_X3_kind (l : Launch) (D : va_G) (cI cJ cZ : ClassId) (a : Nat → Nat) (n : Nat) (ah pl ck ct nk pm ja rg bu pn : Int32) (tp st us fb kA tA : Nat → Int32) (lx ly gx gy gu gv : Nat → Int64) (k : Int32) (z : Int32) (hk : f_X1_isFull nk = 0 → vp_in nk 4) : WR l yX3_kind cX3_kind 3 (some .int) 1 0 0 D (tysW cI cJ cZ) (wI cI cJ cZ a n ah pl ck ct nk pm ja rg bu pn tp st us fb kA tA lx ly gx gy gu gv) [.ref (a 0), .int k, .int z] (fun ov w' => ov = some (.int (f_X3_kind k z nk)) ∧ w' = wI cI cJ cZ a n ah pl ck ct (f_X3_kind_nk k z nk) pm ja rg bu pn (f_X3_kind_tp k z nk tp) (f_X3_kind_st k z nk st) us fb kA tA lx ly gx gy gu gv) := by
  refine WR.of (by decide) ?_
  intro p e s m below meth c A hadm hx hb hr hml hown hlocks hname hE hP hK hD hS hA hAe
  have hown : s.vm.findClass RX3 = some m.cls := hown
  have ht : tb_OK s := hE.1
  have hl := lv_entry ([.ref (a 0), .int k, .int z]) (n := 3) (Nat.le_of_ble_eq_true rfl)
  rw [lg_entry_eq]
  generalize (lg_sl ([.ref (a 0), .int k, .int z]) ++ List.replicate (3 - (lg_sl ([.ref (a 0), .int k, .int z])).length) Slot.unset).toArray = ls at hl ⊢
  have hl : lv_has ls 3 [(0, .ref (a 0)), (1, .int k), (2, .int z)] := hl
  refine lv_iload_n hx hb dX3_kind_0 rfl (lv_at hl 1 rfl) ?_
  refine lv_iconst (v := 0) hx hb dX3_kind_1 (by decide) ?_
  refine lv_sipush (v := 200) hx hb dX3_kind_2 (by decide) ?_
  refine rdS (As := [.int k, .int 0, .int 200]) (rest := []) (st1 := [.int (f_X3_isWithin k 0 200)]) (k_X3_isWithin l D (tysW cI cJ cZ) k 0 200) (si_X3_54 ht ⟨Nat.le_of_ble_eq_true rfl, Nat.le_of_ble_eq_true rfl⟩) hx hb hml hown (hE.since hS) pNil hK rfl hl.1 rfl (Nat.le_of_ble_eq_true rfl) ⟨Nat.zero_le _, Nat.zero_le _⟩ dX3_kind_5 rfl ?_
  refine lv_if_eq (tgt := 21) hx hb dX3_kind_8 (by decide) (fun c_1 => ?_) (fun c_1 => ?_)
  · skip
    refine lv_bipush (v := -2) hx hb dX3_kind_21 (by decide) ?_
    exact wr_i hx hb hr hlocks hAe hP hD hS dX3_kind_23 (⟨by unfold f_X3_kind; rw [if_pos c_1], by simp only [f_X3_kind_nk, f_X3_kind_tp, f_X3_kind_st, if_pos c_1]⟩)
  · skip
    refine lv_iload_n hx hb dX3_kind_11 rfl (lv_at hl 2 rfl) ?_
    refine lv_iconst (v := 0) hx hb dX3_kind_12 (by decide) ?_
    refine lv_bipush (v := 99) hx hb dX3_kind_13 (by decide) ?_
    refine rdS (As := [.int z, .int 0, .int 99]) (rest := []) (st1 := [.int (f_X3_isWithin z 0 99)]) (k_X3_isWithin l D (tysW cI cJ cZ) z 0 99) (si_X3_54 ht ⟨Nat.le_of_ble_eq_true rfl, Nat.le_of_ble_eq_true rfl⟩) hx hb hml hown (hE.since hS) pNil hK rfl hl.1 rfl (Nat.le_of_ble_eq_true rfl) ⟨Nat.zero_le _, Nat.zero_le _⟩ dX3_kind_15 rfl ?_
    refine lv_if_ne (tgt := 24) hx hb dX3_kind_18 (by decide) (fun c_2 => ?_) (fun c_2 => ?_)
    · skip
      refine lv_aload_n hx hb dX3_kind_24 rfl (lv_at hl 0 rfl) ?_
      refine va_get (D := D) (ci := 4) (v := .ref (a 1)) (C := RX3) (T := TX3) (N := 7) hx hb (lyX3 ht) (fun _ h9 => h9) hown hK hP 0 rfl rfl 0 (by decide) (fl_X3_10 ht) (fun _ h9 => h9) rfl dX3_kind_25 ?_
      refine rdVN (As := []) (rest := []) (st1 := [.int (f_X1_isFull nk)]) (k_X1_isFull l D cI cJ cZ a n ah pl ck ct nk pm ja rg bu pn tp st us fb kA tA lx ly gx gy gu gv) (si_X3_58 ht ⟨Nat.le_of_ble_eq_true rfl, Nat.le_of_ble_eq_true rfl⟩) hx hb hml hown (va_recv hK hP (ci := 2) (q0 := 1) rfl rfl) (hE.since hS) hP hK rfl hl.1 rfl (Nat.le_of_ble_eq_true rfl) ⟨Nat.zero_le _, Nat.zero_le _⟩ dX3_kind_28 rfl ?_
      refine lv_if_eq (tgt := 39) hx hb dX3_kind_31 (by decide) (fun c_3 => ?_) (fun c_3 => ?_)
      · skip
        refine lv_aload_n hx hb dX3_kind_39 rfl (lv_at hl 0 rfl) ?_
        refine va_get (D := D) (ci := 4) (v := .ref (a 1)) (C := RX3) (T := TX3) (N := 7) hx hb (lyX3 ht) (fun _ h9 => h9) hown hK hP 0 rfl rfl 0 (by decide) (fl_X3_10 ht) (fun _ h9 => h9) rfl dX3_kind_40 ?_
        refine lv_iload_n hx hb dX3_kind_43 rfl (lv_at hl 1 rfl) ?_
        refine lv_iload_n hx hb dX3_kind_44 rfl (lv_at hl 2 rfl) ?_
        refine wrVN (As := [.int k, .int z]) (rest := []) (k_X1_add l D cI cJ cZ a n ah pl ck ct nk pm ja rg bu pn tp st us fb kA tA lx ly gx gy gu gv k z (hk c_3)) (si_X3_62 ht ⟨Nat.le_of_ble_eq_true rfl, Nat.le_of_ble_eq_true rfl⟩) hx hb hml hown (va_recv hK hP (ci := 2) (q0 := 1) rfl rfl) hE hP hK hD hS hA rfl hl.1 rfl (Nat.le_of_ble_eq_true rfl) ⟨Nat.zero_le _, Nat.zero_le _⟩ dX3_kind_45 (fun ov w' H locs hpost hP hD hS => ?_)
        obtain ⟨rfl, rfl⟩ := hpost
        refine W.st (st1 := [.int (f_X1_add nk)]) rfl ?_
        have hP : va_P D vwCl (wI cI cJ cZ a n ah pl ck ct (f_X1_add_nk nk) pm ja rg bu pn (f_X1_add_tp k nk tp) (f_X1_add_st z nk st) us fb kA tA lx ly gx gy gu gv) H := hP
        have hD : va_D A (wI cI cJ cZ a n ah pl ck ct (f_X1_add_nk nk) pm ja rg bu pn (f_X1_add_tp k nk tp) (f_X1_add_st z nk st) us fb kA tA lx ly gx gy gu gv) := hD
        exact wr_i hx hb hr hlocks hAe hP hD hS dX3_kind_48 (⟨by unfold f_X3_kind; rw [if_neg c_1, if_neg c_2, if_pos c_3], by simp only [f_X3_kind_nk, f_X3_kind_tp, f_X3_kind_st, if_neg c_1, if_neg c_2, if_pos c_3]⟩)
      · skip
        refine lv_bipush (v := -4) hx hb dX3_kind_34 (by decide) ?_
        refine lv_goto (tgt := 48) hx hb dX3_kind_36 (by decide) ?_
        exact wr_i hx hb hr hlocks hAe hP hD hS dX3_kind_48 (⟨by unfold f_X3_kind; rw [if_neg c_1, if_neg c_2, if_neg c_3], by simp only [f_X3_kind_nk, f_X3_kind_tp, f_X3_kind_st, if_neg c_1, if_neg c_2, if_neg c_3]⟩)
    · skip
      refine lv_bipush (v := -2) hx hb dX3_kind_21 (by decide) ?_
      exact wr_i hx hb hr hlocks hAe hP hD hS dX3_kind_23 (⟨by unfold f_X3_kind; rw [if_neg c_1, if_pos c_2], by simp only [f_X3_kind_nk, f_X3_kind_tp, f_X3_kind_st, if_neg c_1, if_pos c_2]⟩)
def f_X3_more (k : Int32) (z : Int32) (nk : Int32) (st : Nat → Int32) : Int32 := if (f_X1_has k nk) = 0 then -1 else (if (f_X3_isWithin z 1 99) = 0 then -2 else (f_X1_enlarge k z st))
def f_X3_more_st (k : Int32) (z : Int32) (nk : Int32) (st : Nat → Int32) : Nat → Int32 := if (f_X1_has k nk) = 0 then st else (if (f_X3_isWithin z 1 99) = 0 then st else (f_X1_enlarge_st k z st))
set_option maxRecDepth 20000 in
set_option maxHeartbeats 4000000 in
theorem k_X3_more (l : Launch) (D : va_G) (cI cJ cZ : ClassId) (a : Nat → Nat) (n : Nat) (ah pl ck ct nk pm ja rg bu pn : Int32) (tp st us fb kA tA : Nat → Int32) (lx ly gx gy gu gv : Nat → Int64) (k : Int32) (z : Int32) (hk : ¬ f_X1_has k nk = 0 → vp_in k 4) : WR l yX3_more cX3_more 3 (some .int) 1 0 0 D (tysW cI cJ cZ) (wI cI cJ cZ a n ah pl ck ct nk pm ja rg bu pn tp st us fb kA tA lx ly gx gy gu gv) [.ref (a 0), .int k, .int z] (fun ov w' => ov = some (.int (f_X3_more k z nk st)) ∧ w' = wI cI cJ cZ a n ah pl ck ct nk pm ja rg bu pn tp (f_X3_more_st k z nk st) us fb kA tA lx ly gx gy gu gv) := by
  refine WR.of (by decide) ?_
  intro p e s m below meth c A hadm hx hb hr hml hown hlocks hname hE hP hK hD hS hA hAe
  have hown : s.vm.findClass RX3 = some m.cls := hown
  have ht : tb_OK s := hE.1
  have hl := lv_entry ([.ref (a 0), .int k, .int z]) (n := 3) (Nat.le_of_ble_eq_true rfl)
  rw [lg_entry_eq]
  generalize (lg_sl ([.ref (a 0), .int k, .int z]) ++ List.replicate (3 - (lg_sl ([.ref (a 0), .int k, .int z])).length) Slot.unset).toArray = ls at hl ⊢
  have hl : lv_has ls 3 [(0, .ref (a 0)), (1, .int k), (2, .int z)] := hl
  refine lv_aload_n hx hb dX3_more_0 rfl (lv_at hl 0 rfl) ?_
  refine va_get (D := D) (ci := 4) (v := .ref (a 1)) (C := RX3) (T := TX3) (N := 7) hx hb (lyX3 ht) (fun _ h9 => h9) hown hK hP 0 rfl rfl 0 (by decide) (fl_X3_10 ht) (fun _ h9 => h9) rfl dX3_more_1 ?_
  refine lv_iload_n hx hb dX3_more_4 rfl (lv_at hl 1 rfl) ?_
  refine rdVN (As := [.int k]) (rest := []) (st1 := [.int (f_X1_has k nk)]) (k_X1_has l D cI cJ cZ a n ah pl ck ct nk pm ja rg bu pn tp st us fb kA tA lx ly gx gy gu gv k) (si_X3_65 ht ⟨Nat.le_of_ble_eq_true rfl, Nat.le_of_ble_eq_true rfl⟩) hx hb hml hown (va_recv hK hP (ci := 2) (q0 := 1) rfl rfl) (hE.since hS) hP hK rfl hl.1 rfl (Nat.le_of_ble_eq_true rfl) ⟨Nat.zero_le _, Nat.zero_le _⟩ dX3_more_5 rfl ?_
  refine lv_if_ne (tgt := 13) hx hb dX3_more_8 (by decide) (fun c_1 => ?_) (fun c_1 => ?_)
  · skip
    refine lv_iload_n hx hb dX3_more_13 rfl (lv_at hl 2 rfl) ?_
    refine lv_iconst (v := 1) hx hb dX3_more_14 (by decide) ?_
    refine lv_bipush (v := 99) hx hb dX3_more_15 (by decide) ?_
    refine rdS (As := [.int z, .int 1, .int 99]) (rest := []) (st1 := [.int (f_X3_isWithin z 1 99)]) (k_X3_isWithin l D (tysW cI cJ cZ) z 1 99) (si_X3_54 ht ⟨Nat.le_of_ble_eq_true rfl, Nat.le_of_ble_eq_true rfl⟩) hx hb hml hown (hE.since hS) pNil hK rfl hl.1 rfl (Nat.le_of_ble_eq_true rfl) ⟨Nat.zero_le _, Nat.zero_le _⟩ dX3_more_17 rfl ?_
    refine lv_if_eq (tgt := 35) hx hb dX3_more_20 (by decide) (fun c_2 => ?_) (fun c_2 => ?_)
    · skip
      refine lv_bipush (v := -2) hx hb dX3_more_35 (by decide) ?_
      exact wr_i hx hb hr hlocks hAe hP hD hS dX3_more_37 (⟨by unfold f_X3_more; rw [if_neg c_1, if_pos c_2], by simp only [f_X3_more_st, if_neg c_1, if_pos c_2]⟩)
    · skip
      refine lv_aload_n hx hb dX3_more_23 rfl (lv_at hl 0 rfl) ?_
      refine va_get (D := D) (ci := 4) (v := .ref (a 1)) (C := RX3) (T := TX3) (N := 7) hx hb (lyX3 ht) (fun _ h9 => h9) hown hK hP 0 rfl rfl 0 (by decide) (fl_X3_10 ht) (fun _ h9 => h9) rfl dX3_more_24 ?_
      refine lv_iload_n hx hb dX3_more_27 rfl (lv_at hl 1 rfl) ?_
      refine lv_iload_n hx hb dX3_more_28 rfl (lv_at hl 2 rfl) ?_
      refine wrVN (As := [.int k, .int z]) (rest := []) (k_X1_enlarge l D cI cJ cZ a n ah pl ck ct nk pm ja rg bu pn tp st us fb kA tA lx ly gx gy gu gv k z (hk c_1)) (si_X3_69 ht ⟨Nat.le_of_ble_eq_true rfl, Nat.le_of_ble_eq_true rfl⟩) hx hb hml hown (va_recv hK hP (ci := 2) (q0 := 1) rfl rfl) hE hP hK hD hS hA rfl hl.1 rfl (Nat.le_of_ble_eq_true rfl) ⟨Nat.zero_le _, Nat.zero_le _⟩ dX3_more_29 (fun ov w' H locs hpost hP hD hS => ?_)
      obtain ⟨rfl, rfl⟩ := hpost
      refine W.st (st1 := [.int (f_X1_enlarge k z st)]) rfl ?_
      have hP : va_P D vwCl (wI cI cJ cZ a n ah pl ck ct nk pm ja rg bu pn tp (f_X1_enlarge_st k z st) us fb kA tA lx ly gx gy gu gv) H := hP
      have hD : va_D A (wI cI cJ cZ a n ah pl ck ct nk pm ja rg bu pn tp (f_X1_enlarge_st k z st) us fb kA tA lx ly gx gy gu gv) := hD
      refine lv_goto (tgt := 37) hx hb dX3_more_32 (by decide) ?_
      exact wr_i hx hb hr hlocks hAe hP hD hS dX3_more_37 (⟨by unfold f_X3_more; rw [if_neg c_1, if_neg c_2], by simp only [f_X3_more_st, if_neg c_1, if_neg c_2]⟩)
  · skip
    refine lv_iconst (v := -1) hx hb dX3_more_11 (by decide) ?_
    exact wr_i hx hb hr hlocks hAe hP hD hS dX3_more_12 (⟨by unfold f_X3_more; rw [if_pos c_1], by simp only [f_X3_more_st, if_pos c_1]⟩)
def f_X3_apart (k : Int32) : Int32 := if (f_X3_isWithin k 1 16) = 0 then -2 else 1
def f_X3_apart_ja (k : Int32) (ja : Int32) : Int32 := if (f_X3_isWithin k 1 16) = 0 then ja else k
set_option maxRecDepth 20000 in
set_option maxHeartbeats 4000000 in
theorem k_X3_apart (l : Launch) (D : va_G) (cI cJ cZ : ClassId) (a : Nat → Nat) (n : Nat) (ah pl ck ct nk pm ja rg bu pn : Int32) (tp st us fb kA tA : Nat → Int32) (lx ly gx gy gu gv : Nat → Int64) (k : Int32) : WR l yX3_apart cX3_apart 2 (some .int) 1 0 0 D (tysW cI cJ cZ) (wI cI cJ cZ a n ah pl ck ct nk pm ja rg bu pn tp st us fb kA tA lx ly gx gy gu gv) [.ref (a 0), .int k] (fun ov w' => ov = some (.int (f_X3_apart k)) ∧ w' = wI cI cJ cZ a n ah pl ck ct nk pm (f_X3_apart_ja k ja) rg bu pn tp st us fb kA tA lx ly gx gy gu gv) := by
  refine WR.of (by decide) ?_
  intro p e s m below meth c A hadm hx hb hr hml hown hlocks hname hE hP hK hD hS hA hAe
  have hown : s.vm.findClass RX3 = some m.cls := hown
  have ht : tb_OK s := hE.1
  have hl := lv_entry ([.ref (a 0), .int k]) (n := 2) (Nat.le_of_ble_eq_true rfl)
  rw [lg_entry_eq]
  generalize (lg_sl ([.ref (a 0), .int k]) ++ List.replicate (2 - (lg_sl ([.ref (a 0), .int k])).length) Slot.unset).toArray = ls at hl ⊢
  have hl : lv_has ls 2 [(0, .ref (a 0)), (1, .int k)] := hl
  refine lv_iload_n hx hb dX3_apart_0 rfl (lv_at hl 1 rfl) ?_
  refine lv_iconst (v := 1) hx hb dX3_apart_1 (by decide) ?_
  refine lv_bipush (v := 16) hx hb dX3_apart_2 (by decide) ?_
  refine rdS (As := [.int k, .int 1, .int 16]) (rest := []) (st1 := [.int (f_X3_isWithin k 1 16)]) (k_X3_isWithin l D (tysW cI cJ cZ) k 1 16) (si_X3_54 ht ⟨Nat.le_of_ble_eq_true rfl, Nat.le_of_ble_eq_true rfl⟩) hx hb hml hown (hE.since hS) pNil hK rfl hl.1 rfl (Nat.le_of_ble_eq_true rfl) ⟨Nat.zero_le _, Nat.zero_le _⟩ dX3_apart_4 rfl ?_
  refine lv_if_ne (tgt := 13) hx hb dX3_apart_7 (by decide) (fun c_1 => ?_) (fun c_1 => ?_)
  · skip
    refine lv_aload_n hx hb dX3_apart_13 rfl (lv_at hl 0 rfl) ?_
    refine va_get (D := D) (ci := 4) (v := .ref (a 5)) (C := RX3) (T := TX3) (N := 7) hx hb (lyX3 ht) (fun _ h9 => h9) hown hK hP 0 rfl rfl 1 (by decide) (fl_X3_19 ht) (fun _ h9 => h9) rfl dX3_apart_14 ?_
    refine lv_iload_n hx hb dX3_apart_17 rfl (lv_at hl 1 rfl) ?_
    refine va_putN (D := D) (ci := 1) (v := .int k) (ty := .int) (C := RX0) (T := TX0) (N := 3) hx hb (lyX0 ht) (fun _ h9 => h9) tyX0 tyX0_ok nmX0 hown hK hP hD hS 5 rfl rfl 2 (by decide) (fn_X3_85 ht) (fun _ h9 => h9) rfl (by decide +kernel) rfl rfl (Nat.le_of_ble_eq_true rfl) dX3_apart_18 (fun H locs hP hD hS => ?_)
    have hP : va_P D vwCl (wI cI cJ cZ a n ah pl ck ct nk pm k rg bu pn tp st us fb kA tA lx ly gx gy gu gv) H := hP
    have hD : va_D A (wI cI cJ cZ a n ah pl ck ct nk pm k rg bu pn tp st us fb kA tA lx ly gx gy gu gv) := hD
    refine lv_iconst (v := 1) hx hb dX3_apart_21 (by decide) ?_
    exact wr_i hx hb hr hlocks hAe hP hD hS dX3_apart_22 (⟨by unfold f_X3_apart; rw [if_neg c_1], by simp only [f_X3_apart_ja, if_neg c_1]⟩)
  · skip
    refine lv_bipush (v := -2) hx hb dX3_apart_10 (by decide) ?_
    exact wr_i hx hb hr hlocks hAe hP hD hS dX3_apart_12 (⟨by unfold f_X3_apart; rw [if_pos c_1], by simp only [f_X3_apart_ja, if_pos c_1]⟩)
theorem nz01 {v : Int32} (h : v = 0 ∨ v = 1) : narrow .boolean (.int v) = .int v := by rcases h with rfl | rfl <;> rfl
theorem z01_X0_permit (k z : Int32) (fb : Nat → Int32) : f_X0_permit k z fb = 0 ∨ f_X0_permit k z fb = 1 := by
  unfold f_X0_permit
  repeat' split
  all_goals first | exact Or.inl rfl | exact Or.inr rfl
def f_X3_allow (k : Int32) (z : Int32) (fb : Nat → Int32) : Int32 := f_X0_permit k z fb
def f_X3_allow_pm (k : Int32) (z : Int32) (pm : Int32) (fb : Nat → Int32) : Int32 := f_X0_permit_pm k z pm fb
def f_X3_allow_fb (k : Int32) (z : Int32) (fb : Nat → Int32) : Nat → Int32 := f_X0_permit_fb k z fb
set_option maxRecDepth 20000 in
set_option maxHeartbeats 4000000 in
theorem k_X3_allow (l : Launch) (D : va_G) (cI cJ cZ : ClassId) (a : Nat → Nat) (n : Nat) (ah pl ck ct nk pm ja rg bu pn : Int32) (tp st us fb kA tA : Nat → Int32) (lx ly gx gy gu gv : Nat → Int64) (k : Int32) (z : Int32) (hk : ¬ f_X0_isPosition k = 0 → vp_in k 16) : WR l yX3_allow cX3_allow 3 (some .boolean) 2 0 0 D (tysW cI cJ cZ) (wI cI cJ cZ a n ah pl ck ct nk pm ja rg bu pn tp st us fb kA tA lx ly gx gy gu gv) [.ref (a 0), .int k, .int z] (fun ov w' => ov = some (.int (f_X3_allow k z fb)) ∧ w' = wI cI cJ cZ a n ah pl ck ct nk (f_X3_allow_pm k z pm fb) ja rg bu pn tp st us (f_X3_allow_fb k z fb) kA tA lx ly gx gy gu gv) := by
  refine WR.of (by decide) ?_
  intro p e s m below meth c A hadm hx hb hr hml hown hlocks hname hE hP hK hD hS hA hAe
  have hown : s.vm.findClass RX3 = some m.cls := hown
  have ht : tb_OK s := hE.1
  have hl := lv_entry ([.ref (a 0), .int k, .int z]) (n := 3) (Nat.le_of_ble_eq_true rfl)
  rw [lg_entry_eq]
  generalize (lg_sl ([.ref (a 0), .int k, .int z]) ++ List.replicate (3 - (lg_sl ([.ref (a 0), .int k, .int z])).length) Slot.unset).toArray = ls at hl ⊢
  have hl : lv_has ls 3 [(0, .ref (a 0)), (1, .int k), (2, .int z)] := hl
  refine lv_aload_n hx hb dX3_allow_0 rfl (lv_at hl 0 rfl) ?_
  refine va_get (D := D) (ci := 4) (v := .ref (a 5)) (C := RX3) (T := TX3) (N := 7) hx hb (lyX3 ht) (fun _ h9 => h9) hown hK hP 0 rfl rfl 1 (by decide) (fl_X3_19 ht) (fun _ h9 => h9) rfl dX3_allow_1 ?_
  refine lv_iload_n hx hb dX3_allow_4 rfl (lv_at hl 1 rfl) ?_
  refine lv_iload_n hx hb dX3_allow_5 rfl (lv_at hl 2 rfl) ?_
  refine wrVN (As := [.int k, .int z]) (rest := []) (k_X0_permit l D cI cJ cZ a n ah pl ck ct nk pm ja rg bu pn tp st us fb kA tA lx ly gx gy gu gv k z hk) (si_X3_88 ht ⟨Nat.le_of_ble_eq_true rfl, Nat.le_of_ble_eq_true rfl⟩) hx hb hml hown (va_recv hK hP (ci := 1) (q0 := 5) rfl rfl) hE hP hK hD hS hA rfl hl.1 rfl (Nat.le_of_ble_eq_true rfl) ⟨Nat.zero_le _, Nat.zero_le _⟩ dX3_allow_6 (fun ov w' H locs hpost hP hD hS => ?_)
  obtain ⟨rfl, rfl⟩ := hpost
  refine W.st (st1 := [.int (f_X0_permit k z fb)]) rfl ?_
  have hP : va_P D vwCl (wI cI cJ cZ a n ah pl ck ct nk (f_X0_permit_pm k z pm fb) ja rg bu pn tp st us (f_X0_permit_fb k z fb) kA tA lx ly gx gy gu gv) H := hP
  have hD : va_D A (wI cI cJ cZ a n ah pl ck ct nk (f_X0_permit_pm k z pm fb) ja rg bu pn tp st us (f_X0_permit_fb k z fb) kA tA lx ly gx gy gu gv) := hD
  exact wr_z hx hb hr hlocks hAe hP hD hS dX3_allow_9 (nz01 (z01_X0_permit k z fb)) (⟨rfl, rfl⟩)
def f_X3_look (k : Int32) : Int32 := if (f_X3_isWithin k 1 2) = 0 then -2 else 1
def f_X3_look_ah (k : Int32) (ah : Int32) : Int32 := if (f_X3_isWithin k 1 2) = 0 then ah else k
set_option maxRecDepth 20000 in
set_option maxHeartbeats 4000000 in
theorem k_X3_look (l : Launch) (D : va_G) (cI cJ cZ : ClassId) (a : Nat → Nat) (n : Nat) (ah pl ck ct nk pm ja rg bu pn : Int32) (tp st us fb kA tA : Nat → Int32) (lx ly gx gy gu gv : Nat → Int64) (k : Int32) : WR l yX3_look cX3_look 2 (some .int) 1 0 0 D (tysW cI cJ cZ) (wI cI cJ cZ a n ah pl ck ct nk pm ja rg bu pn tp st us fb kA tA lx ly gx gy gu gv) [.ref (a 0), .int k] (fun ov w' => ov = some (.int (f_X3_look k)) ∧ w' = wI cI cJ cZ a n (f_X3_look_ah k ah) pl ck ct nk pm ja rg bu pn tp st us fb kA tA lx ly gx gy gu gv) := by
  refine WR.of (by decide) ?_
  intro p e s m below meth c A hadm hx hb hr hml hown hlocks hname hE hP hK hD hS hA hAe
  have hown : s.vm.findClass RX3 = some m.cls := hown
  have ht : tb_OK s := hE.1
  have hl := lv_entry ([.ref (a 0), .int k]) (n := 2) (Nat.le_of_ble_eq_true rfl)
  rw [lg_entry_eq]
  generalize (lg_sl ([.ref (a 0), .int k]) ++ List.replicate (2 - (lg_sl ([.ref (a 0), .int k])).length) Slot.unset).toArray = ls at hl ⊢
  have hl : lv_has ls 2 [(0, .ref (a 0)), (1, .int k)] := hl
  refine lv_iload_n hx hb dX3_look_0 rfl (lv_at hl 1 rfl) ?_
  refine lv_iconst (v := 1) hx hb dX3_look_1 (by decide) ?_
  refine lv_iconst (v := 2) hx hb dX3_look_2 (by decide) ?_
  refine rdS (As := [.int k, .int 1, .int 2]) (rest := []) (st1 := [.int (f_X3_isWithin k 1 2)]) (k_X3_isWithin l D (tysW cI cJ cZ) k 1 2) (si_X3_54 ht ⟨Nat.le_of_ble_eq_true rfl, Nat.le_of_ble_eq_true rfl⟩) hx hb hml hown (hE.since hS) pNil hK rfl hl.1 rfl (Nat.le_of_ble_eq_true rfl) ⟨Nat.zero_le _, Nat.zero_le _⟩ dX3_look_3 rfl ?_
  refine lv_if_ne (tgt := 12) hx hb dX3_look_6 (by decide) (fun c_1 => ?_) (fun c_1 => ?_)
  · skip
    refine lv_aload_n hx hb dX3_look_12 rfl (lv_at hl 0 rfl) ?_
    refine lv_iload_n hx hb dX3_look_13 rfl (lv_at hl 1 rfl) ?_
    refine va_put (D := D) (ci := 4) (v := .int k) (ty := .int) (C := RX3) (T := TX3) (N := 7) hx hb (lyX3 ht) (fun _ h9 => h9) tyX3 tyX3_ok nmX3 hown hK hP hD hS 0 rfl rfl 3 (by decide) (fl_X3_41 ht) (fun _ h9 => h9) rfl (by decide +kernel) rfl rfl (Nat.le_of_ble_eq_true rfl) dX3_look_14 (fun H locs hP hD hS => ?_)
    have hP : va_P D vwCl (wI cI cJ cZ a n k pl ck ct nk pm ja rg bu pn tp st us fb kA tA lx ly gx gy gu gv) H := hP
    have hD : va_D A (wI cI cJ cZ a n k pl ck ct nk pm ja rg bu pn tp st us fb kA tA lx ly gx gy gu gv) := hD
    refine lv_iconst (v := 1) hx hb dX3_look_17 (by decide) ?_
    exact wr_i hx hb hr hlocks hAe hP hD hS dX3_look_18 (⟨by unfold f_X3_look; rw [if_neg c_1], by simp only [f_X3_look_ah, if_neg c_1]⟩)
  · skip
    refine lv_bipush (v := -2) hx hb dX3_look_9 (by decide) ?_
    exact wr_i hx hb hr hlocks hAe hP hD hS dX3_look_11 (⟨by unfold f_X3_look; rw [if_pos c_1], by simp only [f_X3_look_ah, if_pos c_1]⟩)
def f_X3_build (k : Int32) (bu : Int32) (pn : Int32) : Int32 := if 1 ≤ k then (if k ≤ pn then (bu + k) else -3) else -2
def f_X3_build_bu (k : Int32) (bu : Int32) (pn : Int32) : Int32 := if 1 ≤ k then (if k ≤ pn then (bu + k) else bu) else bu
def f_X3_build_pn (k : Int32) (pn : Int32) : Int32 := if 1 ≤ k then (if k ≤ pn then (pn - k) else pn) else pn
set_option maxRecDepth 20000 in
set_option maxHeartbeats 4000000 in
theorem k_X3_build (l : Launch) (D : va_G) (cI cJ cZ : ClassId) (a : Nat → Nat) (n : Nat) (ah pl ck ct nk pm ja rg bu pn : Int32) (tp st us fb kA tA : Nat → Int32) (lx ly gx gy gu gv : Nat → Int64) (k : Int32) : WR l yX3_build cX3_build 2 (some .int) 0 0 0 D (tysW cI cJ cZ) (wI cI cJ cZ a n ah pl ck ct nk pm ja rg bu pn tp st us fb kA tA lx ly gx gy gu gv) [.ref (a 0), .int k] (fun ov w' => ov = some (.int (f_X3_build k bu pn)) ∧ w' = wI cI cJ cZ a n ah pl ck ct nk pm ja rg (f_X3_build_bu k bu pn) (f_X3_build_pn k pn) tp st us fb kA tA lx ly gx gy gu gv) := by
  refine WR.of (by decide) ?_
  intro p e s m below meth c A hadm hx hb hr hml hown hlocks hname hE hP hK hD hS hA hAe
  have hown : s.vm.findClass RX3 = some m.cls := hown
  have ht : tb_OK s := hE.1
  have hl := lv_entry ([.ref (a 0), .int k]) (n := 2) (Nat.le_of_ble_eq_true rfl)
  rw [lg_entry_eq]
  generalize (lg_sl ([.ref (a 0), .int k]) ++ List.replicate (2 - (lg_sl ([.ref (a 0), .int k])).length) Slot.unset).toArray = ls at hl ⊢
  have hl : lv_has ls 2 [(0, .ref (a 0)), (1, .int k)] := hl
  refine lv_iload_n hx hb dX3_build_0 rfl (lv_at hl 1 rfl) ?_
  refine lv_iconst (v := 1) hx hb dX3_build_1 (by decide) ?_
  refine lv_icmp_ge (tgt := 8) hx hb dX3_build_2 (by decide) (fun c_1 => ?_) (fun c_1 => ?_)
  · skip
    refine lv_iload_n hx hb dX3_build_8 rfl (lv_at hl 1 rfl) ?_
    refine lv_aload_n hx hb dX3_build_9 rfl (lv_at hl 0 rfl) ?_
    refine va_get (D := D) (ci := 4) (v := .ref (a 7)) (C := RX3) (T := TX3) (N := 7) hx hb (lyX3 ht) (fun _ h9 => h9) hown hK hP 0 rfl rfl 2 (by decide) (fl_X3_37 ht) (fun _ h9 => h9) rfl dX3_build_10 ?_
    refine va_getN (D := D) (ci := 3) (v := .int pn) (C := RX2) (T := TX2) (N := 11) hx hb (lyX2 ht) (fun _ h9 => h9) hown hK hP 7 rfl rfl 2 (by decide) (fn_X3_104 ht) (fun _ h9 => h9) rfl dX3_build_13 ?_
    refine lv_icmp_le (tgt := 22) hx hb dX3_build_16 (by decide) (fun c_2 => ?_) (fun c_2 => ?_)
    · skip
      refine lv_aload_n hx hb dX3_build_22 rfl (lv_at hl 0 rfl) ?_
      refine va_get (D := D) (ci := 4) (v := .ref (a 7)) (C := RX3) (T := TX3) (N := 7) hx hb (lyX3 ht) (fun _ h9 => h9) hown hK hP 0 rfl rfl 2 (by decide) (fl_X3_37 ht) (fun _ h9 => h9) rfl dX3_build_23 ?_
      refine lv_dup hx hb dX3_build_26 rfl ?_
      refine va_getN (D := D) (ci := 3) (v := .int pn) (C := RX2) (T := TX2) (N := 11) hx hb (lyX2 ht) (fun _ h9 => h9) hown hK hP 7 rfl rfl 2 (by decide) (fn_X3_104 ht) (fun _ h9 => h9) rfl dX3_build_27 ?_
      refine lv_iload_n hx hb dX3_build_30 rfl (lv_at hl 1 rfl) ?_
      refine lv_isub hx hb dX3_build_31 ?_
      refine va_putN (D := D) (ci := 3) (v := .int (pn - k)) (ty := .int) (C := RX2) (T := TX2) (N := 11) hx hb (lyX2 ht) (fun _ h9 => h9) tyX2 tyX2_ok nmX2 hown hK hP hD hS 7 rfl rfl 2 (by decide) (fn_X3_104 ht) (fun _ h9 => h9) rfl (by decide +kernel) rfl rfl (Nat.le_of_ble_eq_true rfl) dX3_build_32 (fun H locs hP hD hS => ?_)
      have hP : va_P D vwCl (wI cI cJ cZ a n ah pl ck ct nk pm ja rg bu (pn - k) tp st us fb kA tA lx ly gx gy gu gv) H := hP
      have hD : va_D A (wI cI cJ cZ a n ah pl ck ct nk pm ja rg bu (pn - k) tp st us fb kA tA lx ly gx gy gu gv) := hD
      refine lv_aload_n hx hb dX3_build_35 rfl (lv_at hl 0 rfl) ?_
      refine va_get (D := D) (ci := 4) (v := .ref (a 7)) (C := RX3) (T := TX3) (N := 7) hx hb (lyX3 ht) (fun _ h9 => h9) hown hK hP 0 rfl rfl 2 (by decide) (fl_X3_37 ht) (fun _ h9 => h9) rfl dX3_build_36 ?_
      refine lv_dup hx hb dX3_build_39 rfl ?_
      refine va_getN (D := D) (ci := 3) (v := .int bu) (C := RX2) (T := TX2) (N := 11) hx hb (lyX2 ht) (fun _ h9 => h9) hown hK hP 7 rfl rfl 1 (by decide) (fn_X3_95 ht) (fun _ h9 => h9) rfl dX3_build_40 ?_
      refine lv_iload_n hx hb dX3_build_43 rfl (lv_at hl 1 rfl) ?_
      refine lv_iadd hx hb dX3_build_44 ?_
      refine va_putN (D := D) (ci := 3) (v := .int (bu + k)) (ty := .int) (C := RX2) (T := TX2) (N := 11) hx hb (lyX2 ht) (fun _ h9 => h9) tyX2 tyX2_ok nmX2 hown hK hP hD hS 7 rfl rfl 1 (by decide) (fn_X3_95 ht) (fun _ h9 => h9) rfl (by decide +kernel) rfl rfl (Nat.le_of_ble_eq_true rfl) dX3_build_45 (fun H locs hP hD hS => ?_)
      have hP : va_P D vwCl (wI cI cJ cZ a n ah pl ck ct nk pm ja rg (bu + k) (pn - k) tp st us fb kA tA lx ly gx gy gu gv) H := hP
      have hD : va_D A (wI cI cJ cZ a n ah pl ck ct nk pm ja rg (bu + k) (pn - k) tp st us fb kA tA lx ly gx gy gu gv) := hD
      refine lv_aload_n hx hb dX3_build_48 rfl (lv_at hl 0 rfl) ?_
      refine va_get (D := D) (ci := 4) (v := .ref (a 7)) (C := RX3) (T := TX3) (N := 7) hx hb (lyX3 ht) (fun _ h9 => h9) hown hK hP 0 rfl rfl 2 (by decide) (fl_X3_37 ht) (fun _ h9 => h9) rfl dX3_build_49 ?_
      refine va_getN (D := D) (ci := 3) (v := .int (bu + k)) (C := RX2) (T := TX2) (N := 11) hx hb (lyX2 ht) (fun _ h9 => h9) hown hK hP 7 rfl rfl 1 (by decide) (fn_X3_95 ht) (fun _ h9 => h9) rfl dX3_build_52 ?_
      exact wr_i hx hb hr hlocks hAe hP hD hS dX3_build_55 (⟨by unfold f_X3_build; rw [if_pos c_1, if_pos c_2], by simp only [f_X3_build_bu, f_X3_build_pn, if_pos c_1, if_pos c_2]⟩)
    · skip
      refine lv_bipush (v := -3) hx hb dX3_build_19 (by decide) ?_
      exact wr_i hx hb hr hlocks hAe hP hD hS dX3_build_21 (⟨by unfold f_X3_build; rw [if_pos c_1, if_neg c_2], by simp only [f_X3_build_bu, f_X3_build_pn, if_pos c_1, if_neg c_2]⟩)
  · skip
    refine lv_bipush (v := -2) hx hb dX3_build_5 (by decide) ?_
    exact wr_i hx hb hr hlocks hAe hP hD hS dX3_build_7 (⟨by unfold f_X3_build; rw [if_neg c_1], by simp only [f_X3_build_bu, f_X3_build_pn, if_neg c_1]⟩)
def f_X3_kindOf (r : Int32) (bu : Int32) (pn : Int32) (kA : Nat → Int32) : Int32 := if (f_X2_stands r bu pn) = 0 then -1 else (kA r.toNatClampNeg)
set_option maxRecDepth 20000 in
set_option maxHeartbeats 4000000 in
theorem k_X3_kindOf (l : Launch) (D : va_G) (cI cJ cZ : ClassId) (a : Nat → Nat) (n : Nat) (ah pl ck ct nk pm ja rg bu pn : Int32) (tp st us fb kA tA : Nat → Int32) (lx ly gx gy gu gv : Nat → Int64) (r : Int32) (hk : ¬ f_X2_stands r bu pn = 0 → vp_in r n) : RD l yX3_kindOf cX3_kindOf 2 (some .int) 2 D (tysW cI cJ cZ) (wI cI cJ cZ a n ah pl ck ct nk pm ja rg bu pn tp st us fb kA tA lx ly gx gy gu gv) [.ref (a 0), .int r] (some (.int (f_X3_kindOf r bu pn kA))) := by
  refine RD.of (by decide) ?_
  intro p e s m below meth c hx hb hr hml hown hlocks hE hP hK
  have hown : s.vm.findClass RX3 = some m.cls := hown
  have ht : tb_OK s := hE.1
  have hl := lv_entry ([.ref (a 0), .int r]) (n := 2) (Nat.le_of_ble_eq_true rfl)
  rw [lg_entry_eq]
  generalize (lg_sl ([.ref (a 0), .int r]) ++ List.replicate (2 - (lg_sl ([.ref (a 0), .int r])).length) Slot.unset).toArray = ls at hl ⊢
  have hl : lv_has ls 2 [(0, .ref (a 0)), (1, .int r)] := hl
  refine lv_aload_n hx hb dX3_kindOf_0 rfl (lv_at hl 0 rfl) ?_
  refine va_get (D := D) (ci := 4) (v := .ref (a 7)) (C := RX3) (T := TX3) (N := 7) hx hb (lyX3 ht) (fun _ h9 => h9) hown hK hP 0 rfl rfl 2 (by decide) (fl_X3_37 ht) (fun _ h9 => h9) rfl dX3_kindOf_1 ?_
  refine lv_iload_n hx hb dX3_kindOf_4 rfl (lv_at hl 1 rfl) ?_
  refine rdVN (As := [.int r]) (rest := []) (st1 := [.int (f_X2_stands r bu pn)]) (k_X2_stands l D cI cJ cZ a n ah pl ck ct nk pm ja rg bu pn tp st us fb kA tA lx ly gx gy gu gv r) (si_X3_128 ht ⟨Nat.le_of_ble_eq_true rfl, Nat.le_of_ble_eq_true rfl⟩) hx hb hml hown (va_recv hK hP (ci := 3) (q0 := 7) rfl rfl) hE hP hK rfl hl.1 rfl (Nat.le_of_ble_eq_true rfl) ⟨Nat.zero_le _, Nat.zero_le _⟩ dX3_kindOf_5 rfl ?_
  refine lv_if_eq (tgt := 23) hx hb dX3_kindOf_8 (by decide) (fun c_1 => ?_) (fun c_1 => ?_)
  · skip
    refine lv_iconst (v := -1) hx hb dX3_kindOf_23 (by decide) ?_
    exact rd_i hx hb hr hlocks dX3_kindOf_24 (by unfold f_X3_kindOf; rw [if_pos c_1])
  · skip
    refine lv_aload_n hx hb dX3_kindOf_11 rfl (lv_at hl 0 rfl) ?_
    refine va_get (D := D) (ci := 4) (v := .ref (a 7)) (C := RX3) (T := TX3) (N := 7) hx hb (lyX3 ht) (fun _ h9 => h9) hown hK hP 0 rfl rfl 2 (by decide) (fl_X3_37 ht) (fun _ h9 => h9) rfl dX3_kindOf_12 ?_
    refine va_getN (D := D) (ci := 3) (v := .ref (a 8)) (C := RX2) (T := TX2) (N := 11) hx hb (lyX2 ht) (fun _ h9 => h9) hown hK hP 7 rfl rfl 3 (by decide) (fn_X3_112 ht) (fun _ h9 => h9) rfl dX3_kindOf_15 ?_
    refine lv_iload_n hx hb dX3_kindOf_18 rfl (lv_at hl 1 rfl) ?_
    refine va_iald hx hb hK hP 8 0 rfl rfl (hk c_1) dX3_kindOf_19 ?_
    refine lv_goto (tgt := 24) hx hb dX3_kindOf_20 (by decide) ?_
    exact rd_i hx hb hr hlocks dX3_kindOf_24 (by unfold f_X3_kindOf; rw [if_neg c_1])
def f_X3_turnOf (r : Int32) (bu : Int32) (pn : Int32) (tA : Nat → Int32) : Int32 := if (f_X2_stands r bu pn) = 0 then -1 else (tA r.toNatClampNeg)
set_option maxRecDepth 20000 in
set_option maxHeartbeats 4000000 in
theorem k_X3_turnOf (l : Launch) (D : va_G) (cI cJ cZ : ClassId) (a : Nat → Nat) (n : Nat) (ah pl ck ct nk pm ja rg bu pn : Int32) (tp st us fb kA tA : Nat → Int32) (lx ly gx gy gu gv : Nat → Int64) (r : Int32) (hk : ¬ f_X2_stands r bu pn = 0 → vp_in r n) : RD l yX3_turnOf cX3_turnOf 2 (some .int) 2 D (tysW cI cJ cZ) (wI cI cJ cZ a n ah pl ck ct nk pm ja rg bu pn tp st us fb kA tA lx ly gx gy gu gv) [.ref (a 0), .int r] (some (.int (f_X3_turnOf r bu pn tA))) := by
  refine RD.of (by decide) ?_
  intro p e s m below meth c hx hb hr hml hown hlocks hE hP hK
  have hown : s.vm.findClass RX3 = some m.cls := hown
  have ht : tb_OK s := hE.1
  have hl := lv_entry ([.ref (a 0), .int r]) (n := 2) (Nat.le_of_ble_eq_true rfl)
  rw [lg_entry_eq]
  generalize (lg_sl ([.ref (a 0), .int r]) ++ List.replicate (2 - (lg_sl ([.ref (a 0), .int r])).length) Slot.unset).toArray = ls at hl ⊢
  have hl : lv_has ls 2 [(0, .ref (a 0)), (1, .int r)] := hl
  refine lv_aload_n hx hb dX3_turnOf_0 rfl (lv_at hl 0 rfl) ?_
  refine va_get (D := D) (ci := 4) (v := .ref (a 7)) (C := RX3) (T := TX3) (N := 7) hx hb (lyX3 ht) (fun _ h9 => h9) hown hK hP 0 rfl rfl 2 (by decide) (fl_X3_37 ht) (fun _ h9 => h9) rfl dX3_turnOf_1 ?_
  refine lv_iload_n hx hb dX3_turnOf_4 rfl (lv_at hl 1 rfl) ?_
  refine rdVN (As := [.int r]) (rest := []) (st1 := [.int (f_X2_stands r bu pn)]) (k_X2_stands l D cI cJ cZ a n ah pl ck ct nk pm ja rg bu pn tp st us fb kA tA lx ly gx gy gu gv r) (si_X3_128 ht ⟨Nat.le_of_ble_eq_true rfl, Nat.le_of_ble_eq_true rfl⟩) hx hb hml hown (va_recv hK hP (ci := 3) (q0 := 7) rfl rfl) hE hP hK rfl hl.1 rfl (Nat.le_of_ble_eq_true rfl) ⟨Nat.zero_le _, Nat.zero_le _⟩ dX3_turnOf_5 rfl ?_
  refine lv_if_eq (tgt := 23) hx hb dX3_turnOf_8 (by decide) (fun c_1 => ?_) (fun c_1 => ?_)
  · skip
    refine lv_iconst (v := -1) hx hb dX3_turnOf_23 (by decide) ?_
    exact rd_i hx hb hr hlocks dX3_turnOf_24 (by unfold f_X3_turnOf; rw [if_pos c_1])
  · skip
    refine lv_aload_n hx hb dX3_turnOf_11 rfl (lv_at hl 0 rfl) ?_
    refine va_get (D := D) (ci := 4) (v := .ref (a 7)) (C := RX3) (T := TX3) (N := 7) hx hb (lyX3 ht) (fun _ h9 => h9) hown hK hP 0 rfl rfl 2 (by decide) (fl_X3_37 ht) (fun _ h9 => h9) rfl dX3_turnOf_12 ?_
    refine va_getN (D := D) (ci := 3) (v := .ref (a 9)) (C := RX2) (T := TX2) (N := 11) hx hb (lyX2 ht) (fun _ h9 => h9) hown hK hP 7 rfl rfl 4 (by decide) (fn_X3_131 ht) (fun _ h9 => h9) rfl dX3_turnOf_15 ?_
    refine lv_iload_n hx hb dX3_turnOf_18 rfl (lv_at hl 1 rfl) ?_
    refine va_iald hx hb hK hP 9 0 rfl rfl (hk c_1) dX3_turnOf_19 ?_
    refine lv_goto (tgt := 24) hx hb dX3_turnOf_20 (by decide) ?_
    exact rd_i hx hb hr hlocks dX3_turnOf_24 (by unfold f_X3_turnOf; rw [if_neg c_1])
def f_X3_state (r : Int32) (rg : Int32) (bu : Int32) (pn : Int32) : Int32 := if (f_X2_has r rg) = 0 then -1 else (f_X2_stateAt r bu pn)
set_option maxRecDepth 20000 in
set_option maxHeartbeats 4000000 in
theorem k_X3_state (l : Launch) (D : va_G) (cI cJ cZ : ClassId) (a : Nat → Nat) (n : Nat) (ah pl ck ct nk pm ja rg bu pn : Int32) (tp st us fb kA tA : Nat → Int32) (lx ly gx gy gu gv : Nat → Int64) (r : Int32) : RD l yX3_state cX3_state 2 (some .int) 2 D (tysW cI cJ cZ) (wI cI cJ cZ a n ah pl ck ct nk pm ja rg bu pn tp st us fb kA tA lx ly gx gy gu gv) [.ref (a 0), .int r] (some (.int (f_X3_state r rg bu pn))) := by
  refine RD.of (by decide) ?_
  intro p e s m below meth c hx hb hr hml hown hlocks hE hP hK
  have hown : s.vm.findClass RX3 = some m.cls := hown
  have ht : tb_OK s := hE.1
  have hl := lv_entry ([.ref (a 0), .int r]) (n := 2) (Nat.le_of_ble_eq_true rfl)
  rw [lg_entry_eq]
  generalize (lg_sl ([.ref (a 0), .int r]) ++ List.replicate (2 - (lg_sl ([.ref (a 0), .int r])).length) Slot.unset).toArray = ls at hl ⊢
  have hl : lv_has ls 2 [(0, .ref (a 0)), (1, .int r)] := hl
  refine lv_aload_n hx hb dX3_state_0 rfl (lv_at hl 0 rfl) ?_
  refine va_get (D := D) (ci := 4) (v := .ref (a 7)) (C := RX3) (T := TX3) (N := 7) hx hb (lyX3 ht) (fun _ h9 => h9) hown hK hP 0 rfl rfl 2 (by decide) (fl_X3_37 ht) (fun _ h9 => h9) rfl dX3_state_1 ?_
  refine lv_iload_n hx hb dX3_state_4 rfl (lv_at hl 1 rfl) ?_
  refine rdVN (As := [.int r]) (rest := []) (st1 := [.int (f_X2_has r rg)]) (k_X2_has l D cI cJ cZ a n ah pl ck ct nk pm ja rg bu pn tp st us fb kA tA lx ly gx gy gu gv r) (si_X3_134 ht ⟨Nat.le_of_ble_eq_true rfl, Nat.le_of_ble_eq_true rfl⟩) hx hb hml hown (va_recv hK hP (ci := 3) (q0 := 7) rfl rfl) hE hP hK rfl hl.1 rfl (Nat.le_of_ble_eq_true rfl) ⟨Nat.zero_le _, Nat.zero_le _⟩ dX3_state_5 rfl ?_
  refine lv_if_eq (tgt := 22) hx hb dX3_state_8 (by decide) (fun c_1 => ?_) (fun c_1 => ?_)
  · skip
    refine lv_iconst (v := -1) hx hb dX3_state_22 (by decide) ?_
    exact rd_i hx hb hr hlocks dX3_state_23 (by unfold f_X3_state; rw [if_pos c_1])
  · skip
    refine lv_aload_n hx hb dX3_state_11 rfl (lv_at hl 0 rfl) ?_
    refine va_get (D := D) (ci := 4) (v := .ref (a 7)) (C := RX3) (T := TX3) (N := 7) hx hb (lyX3 ht) (fun _ h9 => h9) hown hK hP 0 rfl rfl 2 (by decide) (fl_X3_37 ht) (fun _ h9 => h9) rfl dX3_state_12 ?_
    refine lv_iload_n hx hb dX3_state_15 rfl (lv_at hl 1 rfl) ?_
    refine rdVN (As := [.int r]) (rest := []) (st1 := [.int (f_X2_stateAt r bu pn)]) (k_X2_stateAt l D cI cJ cZ a n ah pl ck ct nk pm ja rg bu pn tp st us fb kA tA lx ly gx gy gu gv r) (si_X3_77 ht ⟨Nat.le_of_ble_eq_true rfl, Nat.le_of_ble_eq_true rfl⟩) hx hb hml hown (va_recv hK hP (ci := 3) (q0 := 7) rfl rfl) hE hP hK rfl hl.1 rfl (Nat.le_of_ble_eq_true rfl) ⟨Nat.zero_le _, Nat.zero_le _⟩ dX3_state_16 rfl ?_
    refine lv_goto (tgt := 23) hx hb dX3_state_19 (by decide) ?_
    exact rd_i hx hb hr hlocks dX3_state_23 (by unfold f_X3_state; rw [if_neg c_1])
def f_X3_stroke (r : Int32) (k : Int32) (bu : Int32) (pn : Int32) (tp : Nat → Int32) (kA : Nat → Int32) (tA : Nat → Int32) : Int32 := if (f_X2_stands r bu pn) = 0 then 0 else (if (f_X0_isPosition k) = 0 then 0 else (f_J9_floorDiv_7cf53 ((tp (kA r.toNatClampNeg).toNatClampNeg) * (f_X0_c (k - (tA r.toNatClampNeg)))) 64))
set_option maxRecDepth 20000 in
set_option maxHeartbeats 4000000 in
theorem k_X3_stroke (l : Launch) (D : va_G) (cI cJ cZ : ClassId) (a : Nat → Nat) (n : Nat) (ah pl ck ct nk pm ja rg bu pn : Int32) (tp st us fb kA tA : Nat → Int32) (lx ly gx gy gu gv : Nat → Int64) (r : Int32) (k : Int32) (hk : ¬ f_X2_stands r bu pn = 0 → vp_in r n) (hq : ¬ f_X2_stands r bu pn = 0 → vp_in (kA r.toNatClampNeg) 4) : RD l yX3_stroke cX3_stroke 4 (some .int) 2 D (tysW cI cJ cZ) (wI cI cJ cZ a n ah pl ck ct nk pm ja rg bu pn tp st us fb kA tA lx ly gx gy gu gv) [.ref (a 0), .int r, .int k] (some (.int (f_X3_stroke r k bu pn tp kA tA))) := by
  refine RD.of (by decide) ?_
  intro p e s m below meth c hx hb hr hml hown hlocks hE hP hK
  have hown : s.vm.findClass RX3 = some m.cls := hown
  have ht : tb_OK s := hE.1
  have hl := lv_entry ([.ref (a 0), .int r, .int k]) (n := 4) (Nat.le_of_ble_eq_true rfl)
  rw [lg_entry_eq]
  generalize (lg_sl ([.ref (a 0), .int r, .int k]) ++ List.replicate (4 - (lg_sl ([.ref (a 0), .int r, .int k])).length) Slot.unset).toArray = ls at hl ⊢
  have hl : lv_has ls 4 [(0, .ref (a 0)), (1, .int r), (2, .int k)] := hl
  refine lv_aload_n hx hb dX3_stroke_0 rfl (lv_at hl 0 rfl) ?_
  refine va_get (D := D) (ci := 4) (v := .ref (a 7)) (C := RX3) (T := TX3) (N := 7) hx hb (lyX3 ht) (fun _ h9 => h9) hown hK hP 0 rfl rfl 2 (by decide) (fl_X3_37 ht) (fun _ h9 => h9) rfl dX3_stroke_1 ?_
  refine lv_iload_n hx hb dX3_stroke_4 rfl (lv_at hl 1 rfl) ?_
  refine rdVN (As := [.int r]) (rest := []) (st1 := [.int (f_X2_stands r bu pn)]) (k_X2_stands l D cI cJ cZ a n ah pl ck ct nk pm ja rg bu pn tp st us fb kA tA lx ly gx gy gu gv r) (si_X3_128 ht ⟨Nat.le_of_ble_eq_true rfl, Nat.le_of_ble_eq_true rfl⟩) hx hb hml hown (va_recv hK hP (ci := 3) (q0 := 7) rfl rfl) hE hP hK rfl hl.1 rfl (Nat.le_of_ble_eq_true rfl) ⟨Nat.zero_le _, Nat.zero_le _⟩ dX3_stroke_5 rfl ?_
  refine lv_if_eq (tgt := 18) hx hb dX3_stroke_8 (by decide) (fun c_1 => ?_) (fun c_1 => ?_)
  · skip
    refine lv_iconst (v := 0) hx hb dX3_stroke_18 (by decide) ?_
    exact rd_i hx hb hr hlocks dX3_stroke_19 (by unfold f_X3_stroke; rw [if_pos c_1])
  · skip
    refine lv_iload_n hx hb dX3_stroke_11 rfl (lv_at hl 2 rfl) ?_
    refine rdSN (As := [.int k]) (rest := []) (st1 := [.int (f_X0_isPosition k)]) (k_X0_isPosition l D (tysW cI cJ cZ) k) (si_X3_166 ht ⟨Nat.le_of_ble_eq_true rfl, Nat.le_of_ble_eq_true rfl⟩) hx hb hml hown hE pNil hK rfl hl.1 rfl (Nat.le_of_ble_eq_true rfl) ⟨Nat.zero_le _, Nat.zero_le _⟩ dX3_stroke_12 rfl ?_
    refine lv_if_ne (tgt := 20) hx hb dX3_stroke_15 (by decide) (fun c_2 => ?_) (fun c_2 => ?_)
    · skip
      refine lv_aload_n hx hb dX3_stroke_20 rfl (lv_at hl 0 rfl) ?_
      refine va_get (D := D) (ci := 4) (v := .ref (a 1)) (C := RX3) (T := TX3) (N := 7) hx hb (lyX3 ht) (fun _ h9 => h9) hown hK hP 0 rfl rfl 0 (by decide) (fl_X3_10 ht) (fun _ h9 => h9) rfl dX3_stroke_21 ?_
      refine va_getN (D := D) (ci := 2) (v := .ref (a 2)) (C := RX1) (T := TX1) (N := 4) hx hb (lyX1 ht) (fun _ h9 => h9) hown hK hP 1 rfl rfl 0 (by decide) (fn_X3_169 ht) (fun _ h9 => h9) rfl dX3_stroke_24 ?_
      refine lv_aload_n hx hb dX3_stroke_27 rfl (lv_at hl 0 rfl) ?_
      refine va_get (D := D) (ci := 4) (v := .ref (a 7)) (C := RX3) (T := TX3) (N := 7) hx hb (lyX3 ht) (fun _ h9 => h9) hown hK hP 0 rfl rfl 2 (by decide) (fl_X3_37 ht) (fun _ h9 => h9) rfl dX3_stroke_28 ?_
      refine va_getN (D := D) (ci := 3) (v := .ref (a 8)) (C := RX2) (T := TX2) (N := 11) hx hb (lyX2 ht) (fun _ h9 => h9) hown hK hP 7 rfl rfl 3 (by decide) (fn_X3_112 ht) (fun _ h9 => h9) rfl dX3_stroke_31 ?_
      refine lv_iload_n hx hb dX3_stroke_34 rfl (lv_at hl 1 rfl) ?_
      refine va_iald hx hb hK hP 8 0 rfl rfl (hk c_1) dX3_stroke_35 ?_
      refine va_iald hx hb hK hP 2 0 rfl rfl (hq c_1) dX3_stroke_36 ?_
      refine lv_istore_n (lv' := [(3, .int (tp (kA r.toNatClampNeg).toNatClampNeg)), (0, .ref (a 0)), (1, .int r), (2, .int k)]) hx hb dX3_stroke_37 rfl hl (by decide) rfl (fun ls hl => ?_)
      refine lv_iload_n hx hb dX3_stroke_38 rfl (lv_at hl 0 rfl) ?_
      refine lv_iload_n hx hb dX3_stroke_39 rfl (lv_at hl 3 rfl) ?_
      refine lv_aload_n hx hb dX3_stroke_40 rfl (lv_at hl 1 rfl) ?_
      refine va_get (D := D) (ci := 4) (v := .ref (a 7)) (C := RX3) (T := TX3) (N := 7) hx hb (lyX3 ht) (fun _ h9 => h9) hown hK hP 0 rfl rfl 2 (by decide) (fl_X3_37 ht) (fun _ h9 => h9) rfl dX3_stroke_41 ?_
      refine va_getN (D := D) (ci := 3) (v := .ref (a 9)) (C := RX2) (T := TX2) (N := 11) hx hb (lyX2 ht) (fun _ h9 => h9) hown hK hP 7 rfl rfl 4 (by decide) (fn_X3_131 ht) (fun _ h9 => h9) rfl dX3_stroke_44 ?_
      refine lv_iload_n hx hb dX3_stroke_47 rfl (lv_at hl 2 rfl) ?_
      refine va_iald hx hb hK hP 9 0 rfl rfl (hk c_1) dX3_stroke_48 ?_
      refine lv_isub hx hb dX3_stroke_49 ?_
      refine rdSN (As := [.int (k - (tA r.toNatClampNeg))]) (rest := [.int (tp (kA r.toNatClampNeg).toNatClampNeg)]) (st1 := [.int (f_X0_c (k - (tA r.toNatClampNeg))), .int (tp (kA r.toNatClampNeg).toNatClampNeg)]) (k_X0_c l D (tysW cI cJ cZ) (k - (tA r.toNatClampNeg))) (si_X3_172 ht ⟨Nat.le_of_ble_eq_true rfl, Nat.le_of_ble_eq_true rfl⟩) hx hb hml hown hE pNil hK rfl hl.1 rfl (Nat.le_of_ble_eq_true rfl) ⟨Nat.zero_le _, Nat.zero_le _⟩ dX3_stroke_50 rfl ?_
      refine lv_imul hx hb dX3_stroke_53 ?_
      refine lv_bipush (v := 64) hx hb dX3_stroke_54 (by decide) ?_
      refine rdS (As := [.int ((tp (kA r.toNatClampNeg).toNatClampNeg) * (f_X0_c (k - (tA r.toNatClampNeg)))), .int 64]) (rest := []) (st1 := [.int (f_J9_floorDiv_7cf53 ((tp (kA r.toNatClampNeg).toNatClampNeg) * (f_X0_c (k - (tA r.toNatClampNeg)))) 64)]) (k_J9_floorDiv_7cf53 l D (tysW cI cJ cZ) ((tp (kA r.toNatClampNeg).toNatClampNeg) * (f_X0_c (k - (tA r.toNatClampNeg)))) 64 (by decide)) (si_X3_175 ht ⟨Nat.le_of_ble_eq_true rfl, Nat.le_of_ble_eq_true rfl⟩) hx hb hml hown hE pNil hK rfl hl.1 rfl (Nat.le_of_ble_eq_true rfl) ⟨Nat.zero_le _, Nat.zero_le _⟩ dX3_stroke_56 rfl ?_
      exact rd_i hx hb hr hlocks dX3_stroke_59 (by unfold f_X3_stroke; rw [if_neg c_1, if_neg c_2])
    · skip
      refine lv_iconst (v := 0) hx hb dX3_stroke_18 (by decide) ?_
      exact rd_i hx hb hr hlocks dX3_stroke_19 (by unfold f_X3_stroke; rw [if_neg c_1, if_pos c_2])
def f_X3_left (k : Int32) (nk : Int32) (st : Nat → Int32) (us : Nat → Int32) : Int32 := if (f_X1_has k nk) = 0 then -1 else (f_X1_unused k st us)
set_option maxRecDepth 20000 in
set_option maxHeartbeats 4000000 in
theorem k_X3_left (l : Launch) (D : va_G) (cI cJ cZ : ClassId) (a : Nat → Nat) (n : Nat) (ah pl ck ct nk pm ja rg bu pn : Int32) (tp st us fb kA tA : Nat → Int32) (lx ly gx gy gu gv : Nat → Int64) (k : Int32) (hk : ¬ f_X1_has k nk = 0 → vp_in k 4) : RD l yX3_left cX3_left 2 (some .int) 1 D (tysW cI cJ cZ) (wI cI cJ cZ a n ah pl ck ct nk pm ja rg bu pn tp st us fb kA tA lx ly gx gy gu gv) [.ref (a 0), .int k] (some (.int (f_X3_left k nk st us))) := by
  refine RD.of (by decide) ?_
  intro p e s m below meth c hx hb hr hml hown hlocks hE hP hK
  have hown : s.vm.findClass RX3 = some m.cls := hown
  have ht : tb_OK s := hE.1
  have hl := lv_entry ([.ref (a 0), .int k]) (n := 2) (Nat.le_of_ble_eq_true rfl)
  rw [lg_entry_eq]
  generalize (lg_sl ([.ref (a 0), .int k]) ++ List.replicate (2 - (lg_sl ([.ref (a 0), .int k])).length) Slot.unset).toArray = ls at hl ⊢
  have hl : lv_has ls 2 [(0, .ref (a 0)), (1, .int k)] := hl
  refine lv_aload_n hx hb dX3_left_0 rfl (lv_at hl 0 rfl) ?_
  refine va_get (D := D) (ci := 4) (v := .ref (a 1)) (C := RX3) (T := TX3) (N := 7) hx hb (lyX3 ht) (fun _ h9 => h9) hown hK hP 0 rfl rfl 0 (by decide) (fl_X3_10 ht) (fun _ h9 => h9) rfl dX3_left_1 ?_
  refine lv_iload_n hx hb dX3_left_4 rfl (lv_at hl 1 rfl) ?_
  refine rdVN (As := [.int k]) (rest := []) (st1 := [.int (f_X1_has k nk)]) (k_X1_has l D cI cJ cZ a n ah pl ck ct nk pm ja rg bu pn tp st us fb kA tA lx ly gx gy gu gv k) (si_X3_65 ht ⟨Nat.le_of_ble_eq_true rfl, Nat.le_of_ble_eq_true rfl⟩) hx hb hml hown (va_recv hK hP (ci := 2) (q0 := 1) rfl rfl) hE hP hK rfl hl.1 rfl (Nat.le_of_ble_eq_true rfl) ⟨Nat.zero_le _, Nat.zero_le _⟩ dX3_left_5 rfl ?_
  refine lv_if_eq (tgt := 22) hx hb dX3_left_8 (by decide) (fun c_1 => ?_) (fun c_1 => ?_)
  · skip
    refine lv_iconst (v := -1) hx hb dX3_left_22 (by decide) ?_
    exact rd_i hx hb hr hlocks dX3_left_23 (by unfold f_X3_left; rw [if_pos c_1])
  · skip
    refine lv_aload_n hx hb dX3_left_11 rfl (lv_at hl 0 rfl) ?_
    refine va_get (D := D) (ci := 4) (v := .ref (a 1)) (C := RX3) (T := TX3) (N := 7) hx hb (lyX3 ht) (fun _ h9 => h9) hown hK hP 0 rfl rfl 0 (by decide) (fl_X3_10 ht) (fun _ h9 => h9) rfl dX3_left_12 ?_
    refine lv_iload_n hx hb dX3_left_15 rfl (lv_at hl 1 rfl) ?_
    refine rdVN (As := [.int k]) (rest := []) (st1 := [.int (f_X1_unused k st us)]) (k_X1_unused l D cI cJ cZ a n ah pl ck ct nk pm ja rg bu pn tp st us fb kA tA lx ly gx gy gu gv k (hk c_1)) (si_X3_116 ht ⟨Nat.le_of_ble_eq_true rfl, Nat.le_of_ble_eq_true rfl⟩) hx hb hml hown (va_recv hK hP (ci := 2) (q0 := 1) rfl rfl) hE hP hK rfl hl.1 rfl (Nat.le_of_ble_eq_true rfl) ⟨Nat.zero_le _, Nat.zero_le _⟩ dX3_left_16 rfl ?_
    refine lv_goto (tgt := 23) hx hb dX3_left_19 (by decide) ?_
    exact rd_i hx hb hr hlocks dX3_left_23 (by unfold f_X3_left; rw [if_neg c_1])
