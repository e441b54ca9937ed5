def f_X4_in (u1 : Int64) (u2 : Int64) (u3 : Int64) : Int32 := if (lg_cmp u1 u2) < 0 then 0 else (if 0 < (lg_cmp u1 u3) then 0 else 1)
set_option maxRecDepth 20000 in
set_option maxHeartbeats 4000000 in
theorem k_X4_in (l : Launch) (D : va_G) (tys : List (ClassId × FieldType)) (u1 : Int64) (u2 : Int64) (u3 : Int64) : RD l yX4_in cX4_in 6 (some .boolean) 0 D tys ([]) [.long u1, .long u2, .long u3] (some (.int (f_X4_in u1 u2 u3))) := by
  refine RD.of (by decide) ?_
  intro p e s m below meth c hx hb hr hml hown hlocks hE hP hK
  have hown : s.vm.findClass RX4 = some m.cls := hown
  have ht : tb_OK s := hE.1
  have hl := lv_entry ([.long u1, .long u2, .long u3]) (n := 6) (Nat.le_of_ble_eq_true rfl)
  rw [lg_entry_eq]
  generalize (lg_sl ([.long u1, .long u2, .long u3]) ++ List.replicate (6 - (lg_sl ([.long u1, .long u2, .long u3])).length) Slot.unset).toArray = ls at hl ⊢
  have hl : lv_has ls 6 [(0, .long u1), (2, .long u2), (4, .long u3)] := hl
  refine lv_lload_n hx hb dX4_in_0 rfl (lv_at hl 0 rfl) ?_
  refine lv_lload_n hx hb dX4_in_1 rfl (lv_at hl 1 rfl) ?_
  refine W.lcmp hx hb dX4_in_2 ?_
  refine lv_if_lt (tgt := 17) hx hb dX4_in_3 (by decide) (fun c_1 => ?_) (fun c_1 => ?_)
  · skip
    refine lv_iconst (v := 0) hx hb dX4_in_17 (by decide) ?_
    exact rd_z hx hb hr hlocks dX4_in_18 rfl (by unfold f_X4_in; rw [if_pos c_1])
  · skip
    refine lv_lload_n hx hb dX4_in_6 rfl (lv_at hl 0 rfl) ?_
    refine lv_lload hx hb dX4_in_7 (lv_at hl 2 rfl) ?_
    refine W.lcmp hx hb dX4_in_9 ?_
    refine lv_if_gt (tgt := 17) hx hb dX4_in_10 (by decide) (fun c_2 => ?_) (fun c_2 => ?_)
    · skip
      refine lv_iconst (v := 0) hx hb dX4_in_17 (by decide) ?_
      exact rd_z hx hb hr hlocks dX4_in_18 rfl (by unfold f_X4_in; rw [if_neg c_1, if_pos c_2])
    · skip
      refine lv_iconst (v := 1) hx hb dX4_in_13 (by decide) ?_
      refine lv_goto (tgt := 18) hx hb dX4_in_14 (by decide) ?_
      exact rd_z hx hb hr hlocks dX4_in_18 rfl (by unfold f_X4_in; rw [if_neg c_1, if_neg c_2])
def f_X4_c (k : Int32) : Int32 := if (k &&& 15) ≤ 8 then (if (k &&& 15) = 0 then 64 else (if (k &&& 15) = 1 then 59 else (if (k &&& 15) = 2 then 45 else (if (k &&& 15) = 3 then 24 else (if (k &&& 15) = 4 then 0 else (if (k &&& 15) = 5 then -24 else (if (k &&& 15) = 6 then -45 else (if (k &&& 15) = 7 then -59 else -64)))))))) else (if (16 - (k &&& 15)) = 0 then 64 else (if (16 - (k &&& 15)) = 1 then 59 else (if (16 - (k &&& 15)) = 2 then 45 else (if (16 - (k &&& 15)) = 3 then 24 else (if (16 - (k &&& 15)) = 4 then 0 else (if (16 - (k &&& 15)) = 5 then -24 else (if (16 - (k &&& 15)) = 6 then -45 else (if (16 - (k &&& 15)) = 7 then -59 else -64))))))))
set_option maxRecDepth 20000 in
set_option maxHeartbeats 4000000 in
theorem k_X4_c (l : Launch) (D : va_G) (tys : List (ClassId × FieldType)) (k : Int32) : RD l yX4_c cX4_c 3 (some .int) 0 D tys ([]) [.int k] (some (.int (f_X4_c k))) := by
  refine RD.of (by decide) ?_
  intro p e s m below meth c hx hb hr hml hown hlocks hE hP hK
  have hown : s.vm.findClass RX4 = some m.cls := hown
  have ht : tb_OK s := hE.1
  have hl := lv_entry ([.int k]) (n := 3) (Nat.le_of_ble_eq_true rfl)
  rw [lg_entry_eq]
  generalize (lg_sl ([.int k]) ++ List.replicate (3 - (lg_sl ([.int k])).length) Slot.unset).toArray = ls at hl ⊢
  have hl : lv_has ls 3 [(0, .int k)] := hl
  refine lv_iload_n hx hb dX4_c_0 rfl (lv_at hl 0 rfl) ?_
  refine lv_bipush (v := 15) hx hb dX4_c_1 (by decide) ?_
  refine lv_iand hx hb dX4_c_3 ?_
  refine lv_istore_n (lv' := [(1, .int (k &&& 15)), (0, .int k)]) hx hb dX4_c_4 rfl hl (by decide) rfl (fun ls hl => ?_)
  refine lv_iload_n hx hb dX4_c_5 rfl (lv_at hl 0 rfl) ?_
  refine lv_bipush (v := 8) hx hb dX4_c_6 (by decide) ?_
  refine lv_icmp_le (tgt := 18) hx hb dX4_c_8 (by decide) (fun c_1 => ?_) (fun c_1 => ?_)
  · skip
    refine lv_iload_n hx hb dX4_c_18 rfl (lv_at hl 0 rfl) ?_
    refine lv_istore_n (lv' := [(2, .int (k &&& 15)), (1, .int (k &&& 15)), (0, .int k)]) hx hb dX4_c_19 rfl hl (by decide) rfl (fun ls hl => ?_)
    refine lv_iload_n hx hb dX4_c_20 rfl (lv_at hl 0 rfl) ?_
    by_cases c_2 : (k &&& 15) = 0
    · refine lv_tableIn (off := 47) (tgt := 68) hx hb dX4_c_21 (by rw [c_2]; decide) (by rw [c_2]; decide) (by rw [c_2]; rfl) (by decide) ?_
      refine lv_bipush (v := 64) hx hb dX4_c_68 (by decide) ?_
      exact rd_i hx hb hr hlocks dX4_c_70 (by unfold f_X4_c; rw [if_pos c_1, if_pos c_2])
    by_cases c_3 : (k &&& 15) = 1
    · refine lv_tableIn (off := 50) (tgt := 71) hx hb dX4_c_21 (by rw [c_3]; decide) (by rw [c_3]; decide) (by rw [c_3]; rfl) (by decide) ?_
      refine lv_bipush (v := 59) hx hb dX4_c_71 (by decide) ?_
      exact rd_i hx hb hr hlocks dX4_c_73 (by unfold f_X4_c; rw [if_pos c_1, if_neg c_2, if_pos c_3])
    by_cases c_4 : (k &&& 15) = 2
    · refine lv_tableIn (off := 53) (tgt := 74) hx hb dX4_c_21 (by rw [c_4]; decide) (by rw [c_4]; decide) (by rw [c_4]; rfl) (by decide) ?_
      refine lv_bipush (v := 45) hx hb dX4_c_74 (by decide) ?_
      exact rd_i hx hb hr hlocks dX4_c_76 (by unfold f_X4_c; rw [if_pos c_1, if_neg c_2, if_neg c_3, if_pos c_4])
    by_cases c_5 : (k &&& 15) = 3
    · refine lv_tableIn (off := 56) (tgt := 77) hx hb dX4_c_21 (by rw [c_5]; decide) (by rw [c_5]; decide) (by rw [c_5]; rfl) (by decide) ?_
      refine lv_bipush (v := 24) hx hb dX4_c_77 (by decide) ?_
      exact rd_i hx hb hr hlocks dX4_c_79 (by unfold f_X4_c; rw [if_pos c_1, if_neg c_2, if_neg c_3, if_neg c_4, if_pos c_5])
    by_cases c_6 : (k &&& 15) = 4
    · refine lv_tableIn (off := 59) (tgt := 80) hx hb dX4_c_21 (by rw [c_6]; decide) (by rw [c_6]; decide) (by rw [c_6]; rfl) (by decide) ?_
      refine lv_iconst (v := 0) hx hb dX4_c_80 (by decide) ?_
      exact rd_i hx hb hr hlocks dX4_c_81 (by unfold f_X4_c; rw [if_pos c_1, if_neg c_2, if_neg c_3, if_neg c_4, if_neg c_5, if_pos c_6])
    by_cases c_7 : (k &&& 15) = 5
    · refine lv_tableIn (off := 61) (tgt := 82) hx hb dX4_c_21 (by rw [c_7]; decide) (by rw [c_7]; decide) (by rw [c_7]; rfl) (by decide) ?_
      refine lv_bipush (v := -24) hx hb dX4_c_82 (by decide) ?_
      exact rd_i hx hb hr hlocks dX4_c_84 (by unfold f_X4_c; rw [if_pos c_1, if_neg c_2, if_neg c_3, if_neg c_4, if_neg c_5, if_neg c_6, if_pos c_7])
    by_cases c_8 : (k &&& 15) = 6
    · refine lv_tableIn (off := 64) (tgt := 85) hx hb dX4_c_21 (by rw [c_8]; decide) (by rw [c_8]; decide) (by rw [c_8]; rfl) (by decide) ?_
      refine lv_bipush (v := -45) hx hb dX4_c_85 (by decide) ?_
      exact rd_i hx hb hr hlocks dX4_c_87 (by unfold f_X4_c; rw [if_pos c_1, if_neg c_2, if_neg c_3, if_neg c_4, if_neg c_5, if_neg c_6, if_neg c_7, if_pos c_8])
    by_cases c_9 : (k &&& 15) = 7
    · refine lv_tableIn (off := 67) (tgt := 88) hx hb dX4_c_21 (by rw [c_9]; decide) (by rw [c_9]; decide) (by rw [c_9]; rfl) (by decide) ?_
      refine lv_bipush (v := -59) hx hb dX4_c_88 (by decide) ?_
      exact rd_i hx hb hr hlocks dX4_c_90 (by unfold f_X4_c; rw [if_pos c_1, if_neg c_2, if_neg c_3, if_neg c_4, if_neg c_5, if_neg c_6, if_neg c_7, if_neg c_8, if_pos c_9])
    refine lv_tableOut (tgt := 91) hx hb dX4_c_21 (by have e0 : ((k &&& 15)).toInt ≠ 0 := fun h => c_2 (Int32.toInt_inj.mp (by rw [h]; rfl)); have e1 : ((k &&& 15)).toInt ≠ 1 := fun h => c_3 (Int32.toInt_inj.mp (by rw [h]; rfl)); have e2 : ((k &&& 15)).toInt ≠ 2 := fun h => c_4 (Int32.toInt_inj.mp (by rw [h]; rfl)); have e3 : ((k &&& 15)).toInt ≠ 3 := fun h => c_5 (Int32.toInt_inj.mp (by rw [h]; rfl)); have e4 : ((k &&& 15)).toInt ≠ 4 := fun h => c_6 (Int32.toInt_inj.mp (by rw [h]; rfl)); have e5 : ((k &&& 15)).toInt ≠ 5 := fun h => c_7 (Int32.toInt_inj.mp (by rw [h]; rfl)); have e6 : ((k &&& 15)).toInt ≠ 6 := fun h => c_8 (Int32.toInt_inj.mp (by rw [h]; rfl)); have e7 : ((k &&& 15)).toInt ≠ 7 := fun h => c_9 (Int32.toInt_inj.mp (by rw [h]; rfl)); omega) (by decide) ?_
    refine lv_bipush (v := -64) hx hb dX4_c_91 (by decide) ?_
    exact rd_i hx hb hr hlocks dX4_c_93 (by unfold f_X4_c; rw [if_pos c_1, if_neg c_2, if_neg c_3, if_neg c_4, if_neg c_5, if_neg c_6, if_neg c_7, if_neg c_8, if_neg c_9])
  · skip
    refine lv_bipush (v := 16) hx hb dX4_c_11 (by decide) ?_
    refine lv_iload_n hx hb dX4_c_13 rfl (lv_at hl 0 rfl) ?_
    refine lv_isub hx hb dX4_c_14 ?_
    refine lv_goto (tgt := 19) hx hb dX4_c_15 (by decide) ?_
    refine lv_istore_n (lv' := [(2, .int (16 - (k &&& 15))), (1, .int (k &&& 15)), (0, .int k)]) hx hb dX4_c_19 rfl hl (by decide) rfl (fun ls hl => ?_)
    refine lv_iload_n hx hb dX4_c_20 rfl (lv_at hl 0 rfl) ?_
    by_cases c_10 : (16 - (k &&& 15)) = 0
    · refine lv_tableIn (off := 47) (tgt := 68) hx hb dX4_c_21 (by rw [c_10]; decide) (by rw [c_10]; decide) (by rw [c_10]; rfl) (by decide) ?_
      refine lv_bipush (v := 64) hx hb dX4_c_68 (by decide) ?_
      exact rd_i hx hb hr hlocks dX4_c_70 (by unfold f_X4_c; rw [if_neg c_1, if_pos c_10])
    by_cases c_11 : (16 - (k &&& 15)) = 1
    · refine lv_tableIn (off := 50) (tgt := 71) hx hb dX4_c_21 (by rw [c_11]; decide) (by rw [c_11]; decide) (by rw [c_11]; rfl) (by decide) ?_
      refine lv_bipush (v := 59) hx hb dX4_c_71 (by decide) ?_
      exact rd_i hx hb hr hlocks dX4_c_73 (by unfold f_X4_c; rw [if_neg c_1, if_neg c_10, if_pos c_11])
    by_cases c_12 : (16 - (k &&& 15)) = 2
    · refine lv_tableIn (off := 53) (tgt := 74) hx hb dX4_c_21 (by rw [c_12]; decide) (by rw [c_12]; decide) (by rw [c_12]; rfl) (by decide) ?_
      refine lv_bipush (v := 45) hx hb dX4_c_74 (by decide) ?_
      exact rd_i hx hb hr hlocks dX4_c_76 (by unfold f_X4_c; rw [if_neg c_1, if_neg c_10, if_neg c_11, if_pos c_12])
    by_cases c_13 : (16 - (k &&& 15)) = 3
    · refine lv_tableIn (off := 56) (tgt := 77) hx hb dX4_c_21 (by rw [c_13]; decide) (by rw [c_13]; decide) (by rw [c_13]; rfl) (by decide) ?_
      refine lv_bipush (v := 24) hx hb dX4_c_77 (by decide) ?_
      exact rd_i hx hb hr hlocks dX4_c_79 (by unfold f_X4_c; rw [if_neg c_1, if_neg c_10, if_neg c_11, if_neg c_12, if_pos c_13])
    by_cases c_14 : (16 - (k &&& 15)) = 4
    · refine lv_tableIn (off := 59) (tgt := 80) hx hb dX4_c_21 (by rw [c_14]; decide) (by rw [c_14]; decide) (by rw [c_14]; rfl) (by decide) ?_
      refine lv_iconst (v := 0) hx hb dX4_c_80 (by decide) ?_
      exact rd_i hx hb hr hlocks dX4_c_81 (by unfold f_X4_c; rw [if_neg c_1, if_neg c_10, if_neg c_11, if_neg c_12, if_neg c_13, if_pos c_14])
    by_cases c_15 : (16 - (k &&& 15)) = 5
    · refine lv_tableIn (off := 61) (tgt := 82) hx hb dX4_c_21 (by rw [c_15]; decide) (by rw [c_15]; decide) (by rw [c_15]; rfl) (by decide) ?_
      refine lv_bipush (v := -24) hx hb dX4_c_82 (by decide) ?_
      exact rd_i hx hb hr hlocks dX4_c_84 (by unfold f_X4_c; rw [if_neg c_1, if_neg c_10, if_neg c_11, if_neg c_12, if_neg c_13, if_neg c_14, if_pos c_15])
    by_cases c_16 : (16 - (k &&& 15)) = 6
    · refine lv_tableIn (off := 64) (tgt := 85) hx hb dX4_c_21 (by rw [c_16]; decide) (by rw [c_16]; decide) (by rw [c_16]; rfl) (by decide) ?_
      refine lv_bipush (v := -45) hx hb dX4_c_85 (by decide) ?_
      exact rd_i hx hb hr hlocks dX4_c_87 (by unfold f_X4_c; rw [if_neg c_1, if_neg c_10, if_neg c_11, if_neg c_12, if_neg c_13, if_neg c_14, if_neg c_15, if_pos c_16])
    by_cases c_17 : (16 - (k &&& 15)) = 7
    · refine lv_tableIn (off := 67) (tgt := 88) hx hb dX4_c_21 (by rw [c_17]; decide) (by rw [c_17]; decide) (by rw [c_17]; rfl) (by decide) ?_
      refine lv_bipush (v := -59) hx hb dX4_c_88 (by decide) ?_
      exact rd_i hx hb hr hlocks dX4_c_90 (by unfold f_X4_c; rw [if_neg c_1, if_neg c_10, if_neg c_11, if_neg c_12, if_neg c_13, if_neg c_14, if_neg c_15, if_neg c_16, if_pos c_17])
    refine lv_tableOut (tgt := 91) hx hb dX4_c_21 (by have e0 : ((16 - (k &&& 15))).toInt ≠ 0 := fun h => c_10 (Int32.toInt_inj.mp (by rw [h]; rfl)); have e1 : ((16 - (k &&& 15))).toInt ≠ 1 := fun h => c_11 (Int32.toInt_inj.mp (by rw [h]; rfl)); have e2 : ((16 - (k &&& 15))).toInt ≠ 2 := fun h => c_12 (Int32.toInt_inj.mp (by rw [h]; rfl)); have e3 : ((16 - (k &&& 15))).toInt ≠ 3 := fun h => c_13 (Int32.toInt_inj.mp (by rw [h]; rfl)); have e4 : ((16 - (k &&& 15))).toInt ≠ 4 := fun h => c_14 (Int32.toInt_inj.mp (by rw [h]; rfl)); have e5 : ((16 - (k &&& 15))).toInt ≠ 5 := fun h => c_15 (Int32.toInt_inj.mp (by rw [h]; rfl)); have e6 : ((16 - (k &&& 15))).toInt ≠ 6 := fun h => c_16 (Int32.toInt_inj.mp (by rw [h]; rfl)); have e7 : ((16 - (k &&& 15))).toInt ≠ 7 := fun h => c_17 (Int32.toInt_inj.mp (by rw [h]; rfl)); omega) (by decide) ?_
    refine lv_bipush (v := -64) hx hb dX4_c_91 (by decide) ?_
    exact rd_i hx hb hr hlocks dX4_c_93 (by unfold f_X4_c; rw [if_neg c_1, if_neg c_10, if_neg c_11, if_neg c_12, if_neg c_13, if_neg c_14, if_neg c_15, if_neg c_16, if_neg c_17])
def f_X4_thrown (fa : Int32) : Int32 := fa
set_option maxRecDepth 20000 in
set_option maxHeartbeats 4000000 in
theorem k_X4_thrown (l : Launch) (D : va_G) (cI cJ cZ : ClassId) (a : Nat → Nat) (fa rg bu pn pl ja lk nk bl : Int32) (bs : Int64) (bk be : Int32) (al tp st mx my kd ky : Nat → Int32) (gx gy gu gv : Nat → Int64)  : RD l yX4_thrown cX4_thrown 1 (some .int) 0 D (tysW cI cJ cZ) (wM cI cJ cZ a fa rg bu pn pl ja lk nk bl bs bk be al tp st mx my kd ky gx gy gu gv) [.ref (a 0)] (some (.int (f_X4_thrown fa))) := by
  refine RD.of (by decide) ?_
  intro p e s m below meth c hx hb hr hml hown hlocks hE hP hK
  have hown : s.vm.findClass RX4 = some m.cls := hown
  have ht : tb_OK s := hE.1
  have hl := lv_entry ([.ref (a 0)]) (n := 1) (Nat.le_of_ble_eq_true rfl)
  rw [lg_entry_eq]
  generalize (lg_sl ([.ref (a 0)]) ++ List.replicate (1 - (lg_sl ([.ref (a 0)])).length) Slot.unset).toArray = ls at hl ⊢
  have hl : lv_has ls 1 [(0, .ref (a 0))] := hl
  refine lv_aload_n hx hb dX4_thrown_0 rfl (lv_at hl 0 rfl) ?_
  refine va_get (D := D) (ci := 5) (v := .int fa) (C := RX4) (T := TX4) (N := 23) hx hb (lyX4 ht) (fun _ h9 => h9) hown hK hP 0 rfl rfl 0 (by decide) (fl_X4_55 ht) (fun _ h9 => h9) rfl dX4_thrown_1 ?_
  exact rd_i hx hb hr hlocks dX4_thrown_4 (rfl)
def f_X4_isRing (r : Int32) (rg : Int32) : Int32 := if r < 0 then 0 else (if rg ≤ r then 0 else 1)
set_option maxRecDepth 20000 in
set_option maxHeartbeats 4000000 in
theorem k_X4_isRing (l : Launch) (D : va_G) (cI cJ cZ : ClassId) (a : Nat → Nat) (fa rg bu pn pl ja lk nk bl : Int32) (bs : Int64) (bk be : Int32) (al tp st mx my kd ky : Nat → Int32) (gx gy gu gv : Nat → Int64) (r : Int32) : RD l yX4_isRing cX4_isRing 2 (some .boolean) 0 D (tysW cI cJ cZ) (wM cI cJ cZ a fa rg bu pn pl ja lk nk bl bs bk be al tp st mx my kd ky gx gy gu gv) [.ref (a 0), .int r] (some (.int (f_X4_isRing r rg))) := by
  refine RD.of (by decide) ?_
  intro p e s m below meth c hx hb hr hml hown hlocks hE hP hK
  have hown : s.vm.findClass RX4 = some m.cls := hown
  have ht : tb_OK s := hE.1
  have hl := lv_entry ([.ref (a 0), .int r]) (n := 2) (Nat.le_of_ble_eq_true rfl)
  rw [lg_entry_eq]
  generalize (lg_sl ([.ref (a 0), .int r]) ++ List.replicate (2 - (lg_sl ([.ref (a 0), .int r])).length) Slot.unset).toArray = ls at hl ⊢
  have hl : lv_has ls 2 [(0, .ref (a 0)), (1, .int r)] := hl
  refine lv_iload_n hx hb dX4_isRing_0 rfl (lv_at hl 1 rfl) ?_
  refine lv_if_lt (tgt := 16) hx hb dX4_isRing_1 (by decide) (fun c_1 => ?_) (fun c_1 => ?_)
  · skip
    refine lv_iconst (v := 0) hx hb dX4_isRing_16 (by decide) ?_
    exact rd_z hx hb hr hlocks dX4_isRing_17 rfl (by unfold f_X4_isRing; rw [if_pos c_1])
  · skip
    refine lv_iload_n hx hb dX4_isRing_4 rfl (lv_at hl 1 rfl) ?_
    refine lv_aload_n hx hb dX4_isRing_5 rfl (lv_at hl 0 rfl) ?_
    refine va_get (D := D) (ci := 5) (v := .int rg) (C := RX4) (T := TX4) (N := 23) hx hb (lyX4 ht) (fun _ h9 => h9) hown hK hP 0 rfl rfl 1 (by decide) (fl_X4_52 ht) (fun _ h9 => h9) rfl dX4_isRing_6 ?_
    refine lv_icmp_ge (tgt := 16) hx hb dX4_isRing_9 (by decide) (fun c_2 => ?_) (fun c_2 => ?_)
    · skip
      refine lv_iconst (v := 0) hx hb dX4_isRing_16 (by decide) ?_
      exact rd_z hx hb hr hlocks dX4_isRing_17 rfl (by unfold f_X4_isRing; rw [if_neg c_1, if_pos c_2])
    · skip
      refine lv_iconst (v := 1) hx hb dX4_isRing_12 (by decide) ?_
      refine lv_goto (tgt := 17) hx hb dX4_isRing_13 (by decide) ?_
      exact rd_z hx hb hr hlocks dX4_isRing_17 rfl (by unfold f_X4_isRing; rw [if_neg c_1, if_neg c_2])
def f_X4_isKind (k : Int32) (nk : Int32) : Int32 := if k < 0 then 0 else (if nk ≤ k then 0 else 1)
set_option maxRecDepth 20000 in
set_option maxHeartbeats 4000000 in
theorem k_X4_isKind (l : Launch) (D : va_G) (cI cJ cZ : ClassId) (a : Nat → Nat) (fa rg bu pn pl ja lk nk bl : Int32) (bs : Int64) (bk be : Int32) (al tp st mx my kd ky : Nat → Int32) (gx gy gu gv : Nat → Int64) (k : Int32) : RD l yX4_isKind cX4_isKind 2 (some .boolean) 0 D (tysW cI cJ cZ) (wM cI cJ cZ a fa rg bu pn pl ja lk nk bl bs bk be al tp st mx my kd ky gx gy gu gv) [.ref (a 0), .int k] (some (.int (f_X4_isKind k nk))) := by
  refine RD.of (by decide) ?_
  intro p e s m below meth c hx hb hr hml hown hlocks hE hP hK
  have hown : s.vm.findClass RX4 = some m.cls := hown
  have ht : tb_OK s := hE.1
  have hl := lv_entry ([.ref (a 0), .int k]) (n := 2) (Nat.le_of_ble_eq_true rfl)
  rw [lg_entry_eq]
  generalize (lg_sl ([.ref (a 0), .int k]) ++ List.replicate (2 - (lg_sl ([.ref (a 0), .int k])).length) Slot.unset).toArray = ls at hl ⊢
  have hl : lv_has ls 2 [(0, .ref (a 0)), (1, .int k)] := hl
  refine lv_iload_n hx hb dX4_isKind_0 rfl (lv_at hl 1 rfl) ?_
  refine lv_if_lt (tgt := 16) hx hb dX4_isKind_1 (by decide) (fun c_1 => ?_) (fun c_1 => ?_)
  · skip
    refine lv_iconst (v := 0) hx hb dX4_isKind_16 (by decide) ?_
    exact rd_z hx hb hr hlocks dX4_isKind_17 rfl (by unfold f_X4_isKind; rw [if_pos c_1])
  · skip
    refine lv_iload_n hx hb dX4_isKind_4 rfl (lv_at hl 1 rfl) ?_
    refine lv_aload_n hx hb dX4_isKind_5 rfl (lv_at hl 0 rfl) ?_
    refine va_get (D := D) (ci := 5) (v := .int nk) (C := RX4) (T := TX4) (N := 23) hx hb (lyX4 ht) (fun _ h9 => h9) hown hK hP 0 rfl rfl 8 (by decide) (fl_X4_58 ht) (fun _ h9 => h9) rfl dX4_isKind_6 ?_
    refine lv_icmp_ge (tgt := 16) hx hb dX4_isKind_9 (by decide) (fun c_2 => ?_) (fun c_2 => ?_)
    · skip
      refine lv_iconst (v := 0) hx hb dX4_isKind_16 (by decide) ?_
      exact rd_z hx hb hr hlocks dX4_isKind_17 rfl (by unfold f_X4_isKind; rw [if_neg c_1, if_pos c_2])
    · skip
      refine lv_iconst (v := 1) hx hb dX4_isKind_12 (by decide) ?_
      refine lv_goto (tgt := 17) hx hb dX4_isKind_13 (by decide) ?_
      exact rd_z hx hb hr hlocks dX4_isKind_17 rfl (by unfold f_X4_isKind; rw [if_neg c_1, if_neg c_2])
def f_X4_isThere (r : Int32) (bu : Int32) (pn : Int32) : Int32 := if r < 0 then 0 else (if (bu + pn) ≤ r then 0 else 1)
set_option maxRecDepth 20000 in
set_option maxHeartbeats 4000000 in
theorem k_X4_isThere (l : Launch) (D : va_G) (cI cJ cZ : ClassId) (a : Nat → Nat) (fa rg bu pn pl ja lk nk bl : Int32) (bs : Int64) (bk be : Int32) (al tp st mx my kd ky : Nat → Int32) (gx gy gu gv : Nat → Int64) (r : Int32) : RD l yX4_isThere cX4_isThere 2 (some .boolean) 0 D (tysW cI cJ cZ) (wM cI cJ cZ a fa rg bu pn pl ja lk nk bl bs bk be al tp st mx my kd ky gx gy gu gv) [.ref (a 0), .int r] (some (.int (f_X4_isThere r bu pn))) := by
  refine RD.of (by decide) ?_
  intro p e s m below meth c hx hb hr hml hown hlocks hE hP hK
  have hown : s.vm.findClass RX4 = some m.cls := hown
  have ht : tb_OK s := hE.1
  have hl := lv_entry ([.ref (a 0), .int r]) (n := 2) (Nat.le_of_ble_eq_true rfl)
  rw [lg_entry_eq]
  generalize (lg_sl ([.ref (a 0), .int r]) ++ List.replicate (2 - (lg_sl ([.ref (a 0), .int r])).length) Slot.unset).toArray = ls at hl ⊢
  have hl : lv_has ls 2 [(0, .ref (a 0)), (1, .int r)] := hl
  refine lv_iload_n hx hb dX4_isThere_0 rfl (lv_at hl 1 rfl) ?_
  refine lv_if_lt (tgt := 21) hx hb dX4_isThere_1 (by decide) (fun c_1 => ?_) (fun c_1 => ?_)
  · skip
    refine lv_iconst (v := 0) hx hb dX4_isThere_21 (by decide) ?_
    exact rd_z hx hb hr hlocks dX4_isThere_22 rfl (by unfold f_X4_isThere; rw [if_pos c_1])
  · skip
    refine lv_iload_n hx hb dX4_isThere_4 rfl (lv_at hl 1 rfl) ?_
    refine lv_aload_n hx hb dX4_isThere_5 rfl (lv_at hl 0 rfl) ?_
    refine va_get (D := D) (ci := 5) (v := .int bu) (C := RX4) (T := TX4) (N := 23) hx hb (lyX4 ht) (fun _ h9 => h9) hown hK hP 0 rfl rfl 2 (by decide) (fl_X4_61 ht) (fun _ h9 => h9) rfl dX4_isThere_6 ?_
    refine lv_aload_n hx hb dX4_isThere_9 rfl (lv_at hl 0 rfl) ?_
    refine va_get (D := D) (ci := 5) (v := .int pn) (C := RX4) (T := TX4) (N := 23) hx hb (lyX4 ht) (fun _ h9 => h9) hown hK hP 0 rfl rfl 3 (by decide) (fl_X4_64 ht) (fun _ h9 => h9) rfl dX4_isThere_10 ?_
    refine lv_iadd hx hb dX4_isThere_13 ?_
    refine lv_icmp_ge (tgt := 21) hx hb dX4_isThere_14 (by decide) (fun c_2 => ?_) (fun c_2 => ?_)
    · skip
      refine lv_iconst (v := 0) hx hb dX4_isThere_21 (by decide) ?_
      exact rd_z hx hb hr hlocks dX4_isThere_22 rfl (by unfold f_X4_isThere; rw [if_neg c_1, if_pos c_2])
    · skip
      refine lv_iconst (v := 1) hx hb dX4_isThere_17 (by decide) ?_
      refine lv_goto (tgt := 22) hx hb dX4_isThere_18 (by decide) ?_
      exact rd_z hx hb hr hlocks dX4_isThere_22 rfl (by unfold f_X4_isThere; rw [if_neg c_1, if_neg c_2])
def f_X4_offOf (r : Int32) (mx : Nat → Int32) (my : Nat → Int32) (gx : Nat → Int64) (gy : Nat → Int64) : Int64 := (((gx r.toNatClampNeg) - ((mx r.toNatClampNeg).toInt64)) * ((gx r.toNatClampNeg) - ((mx r.toNatClampNeg).toInt64))) + (((gy r.toNatClampNeg) - ((my r.toNatClampNeg).toInt64)) * ((gy r.toNatClampNeg) - ((my r.toNatClampNeg).toInt64)))
set_option maxRecDepth 20000 in
set_option maxHeartbeats 4000000 in
theorem k_X4_offOf (l : Launch) (D : va_G) (cI cJ cZ : ClassId) (a : Nat → Nat) (fa rg bu pn pl ja lk nk bl : Int32) (bs : Int64) (bk be : Int32) (al tp st mx my kd ky : Nat → Int32) (gx gy gu gv : Nat → Int64) (r : Int32) (hr0 : vp_in r 24) : RD l yX4_offOf cX4_offOf 6 (some .long) 0 D (tysW cI cJ cZ) (wM cI cJ cZ a fa rg bu pn pl ja lk nk bl bs bk be al tp st mx my kd ky gx gy gu gv) [.ref (a 0), .int r] (some (.long (f_X4_offOf r mx my gx gy))) := by
  refine RD.of (by decide) ?_
  intro p e s m below meth c hx hb hr hml hown hlocks hE hP hK
  have hown : s.vm.findClass RX4 = some m.cls := hown
  have ht : tb_OK s := hE.1
  have hl := lv_entry ([.ref (a 0), .int r]) (n := 6) (Nat.le_of_ble_eq_true rfl)
  rw [lg_entry_eq]
  generalize (lg_sl ([.ref (a 0), .int r]) ++ List.replicate (6 - (lg_sl ([.ref (a 0), .int r])).length) Slot.unset).toArray = ls at hl ⊢
  have hl : lv_has ls 6 [(0, .ref (a 0)), (1, .int r)] := hl
  refine lv_aload_n hx hb dX4_offOf_0 rfl (lv_at hl 0 rfl) ?_
  refine va_get (D := D) (ci := 5) (v := .ref (a 8)) (C := RX4) (T := TX4) (N := 23) hx hb (lyX4 ht) (fun _ h9 => h9) hown hK hP 0 rfl rfl 15 (by decide) (fl_X4_39 ht) (fun _ h9 => h9) rfl dX4_offOf_1 ?_
  refine lv_iload_n hx hb dX4_offOf_4 rfl (lv_at hl 1 rfl) ?_
  refine va_lald hx hb hK hP 8 1 rfl rfl hr0 dX4_offOf_5 ?_
  refine lv_aload_n hx hb dX4_offOf_6 rfl (lv_at hl 0 rfl) ?_
  refine va_get (D := D) (ci := 5) (v := .ref (a 4)) (C := RX4) (T := TX4) (N := 23) hx hb (lyX4 ht) (fun _ h9 => h9) hown hK hP 0 rfl rfl 11 (by decide) (fl_X4_27 ht) (fun _ h9 => h9) rfl dX4_offOf_7 ?_
  refine lv_iload_n hx hb dX4_offOf_10 rfl (lv_at hl 1 rfl) ?_
  refine va_iald hx hb hK hP 4 0 rfl rfl hr0 dX4_offOf_11 ?_
  refine lv_i2l (v := (mx r.toNatClampNeg).toInt64) hx hb dX4_offOf_12 rfl ?_
  refine lv_lsub hx hb dX4_offOf_13 ?_
  refine lv_lstore_n (lv' := [(2, .long ((gx r.toNatClampNeg) - ((mx r.toNatClampNeg).toInt64))), (0, .ref (a 0)), (1, .int r)]) hx hb dX4_offOf_14 rfl hl (by decide) rfl (fun ls hl => ?_)
  refine lv_aload_n hx hb dX4_offOf_15 rfl (lv_at hl 1 rfl) ?_
  refine va_get (D := D) (ci := 5) (v := .ref (a 9)) (C := RX4) (T := TX4) (N := 23) hx hb (lyX4 ht) (fun _ h9 => h9) hown hK hP 0 rfl rfl 16 (by decide) (fl_X4_43 ht) (fun _ h9 => h9) rfl dX4_offOf_16 ?_
  refine lv_iload_n hx hb dX4_offOf_19 rfl (lv_at hl 2 rfl) ?_
  refine va_lald hx hb hK hP 9 1 rfl rfl hr0 dX4_offOf_20 ?_
  refine lv_aload_n hx hb dX4_offOf_21 rfl (lv_at hl 1 rfl) ?_
  refine va_get (D := D) (ci := 5) (v := .ref (a 5)) (C := RX4) (T := TX4) (N := 23) hx hb (lyX4 ht) (fun _ h9 => h9) hown hK hP 0 rfl rfl 12 (by decide) (fl_X4_30 ht) (fun _ h9 => h9) rfl dX4_offOf_22 ?_
  refine lv_iload_n hx hb dX4_offOf_25 rfl (lv_at hl 2 rfl) ?_
  refine va_iald hx hb hK hP 5 0 rfl rfl hr0 dX4_offOf_26 ?_
  refine lv_i2l (v := (my r.toNatClampNeg).toInt64) hx hb dX4_offOf_27 rfl ?_
  refine lv_lsub hx hb dX4_offOf_28 ?_
  refine lv_lstore (lv' := [(4, .long ((gy r.toNatClampNeg) - ((my r.toNatClampNeg).toInt64))), (2, .long ((gx r.toNatClampNeg) - ((mx r.toNatClampNeg).toInt64))), (0, .ref (a 0)), (1, .int r)]) hx hb dX4_offOf_29 hl (by decide) rfl (fun ls hl => ?_)
  refine lv_lload_n hx hb dX4_offOf_31 rfl (lv_at hl 1 rfl) ?_
  refine lv_lload_n hx hb dX4_offOf_32 rfl (lv_at hl 1 rfl) ?_
  refine lv_lmul hx hb dX4_offOf_33 ?_
  refine lv_lload hx hb dX4_offOf_34 (lv_at hl 0 rfl) ?_
  refine lv_lload hx hb dX4_offOf_36 (lv_at hl 0 rfl) ?_
  refine lv_lmul hx hb dX4_offOf_38 ?_
  refine lv_ladd hx hb dX4_offOf_39 ?_
  exact rd_l hx hb hr hlocks dX4_offOf_40 (rfl)
