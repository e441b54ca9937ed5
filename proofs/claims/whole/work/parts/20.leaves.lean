def f_X0_isPosition (k : Int32) : Int32 := if k < 0 then 0 else (if 16 ≤ k then 0 else 1)
set_option maxRecDepth 20000 in
set_option maxHeartbeats 4000000 in
theorem k_X0_isPosition (l : Launch) (D : va_G) (tys : List (ClassId × FieldType)) (k : Int32) : RD l yX0_isPosition cX0_isPosition 1 (some .boolean) 0 D tys ([]) [.int k] (some (.int (f_X0_isPosition k))) := by
  refine RD.of (by decide) ?_
  intro p e s m below meth c hx hb hr hml hown hlocks hE hP hK
  have hown : s.vm.findClass RX0 = some m.cls := hown
  have ht : tb_OK s := hE.1
  have hl := lv_entry ([.int k]) (n := 1) (Nat.le_of_ble_eq_true rfl)
  rw [lg_entry_eq]
  generalize (lg_sl ([.int k]) ++ List.replicate (1 - (lg_sl ([.int k])).length) Slot.unset).toArray = ls at hl ⊢
  have hl : lv_has ls 1 [(0, .int k)] := hl
  refine lv_iload_n hx hb dX0_isPosition_0 rfl (lv_at hl 0 rfl) ?_
  refine lv_if_lt (tgt := 14) hx hb dX0_isPosition_1 (by decide) (fun c_1 => ?_) (fun c_1 => ?_)
  · skip
    refine lv_iconst (v := 0) hx hb dX0_isPosition_14 (by decide) ?_
    exact rd_z hx hb hr hlocks dX0_isPosition_15 rfl (by unfold f_X0_isPosition; rw [if_pos c_1])
  · skip
    refine lv_iload_n hx hb dX0_isPosition_4 rfl (lv_at hl 0 rfl) ?_
    refine lv_bipush (v := 16) hx hb dX0_isPosition_5 (by decide) ?_
    refine lv_icmp_ge (tgt := 14) hx hb dX0_isPosition_7 (by decide) (fun c_2 => ?_) (fun c_2 => ?_)
    · skip
      refine lv_iconst (v := 0) hx hb dX0_isPosition_14 (by decide) ?_
      exact rd_z hx hb hr hlocks dX0_isPosition_15 rfl (by unfold f_X0_isPosition; rw [if_neg c_1, if_pos c_2])
    · skip
      refine lv_iconst (v := 1) hx hb dX0_isPosition_10 (by decide) ?_
      refine lv_goto (tgt := 15) hx hb dX0_isPosition_11 (by decide) ?_
      exact rd_z hx hb hr hlocks dX0_isPosition_15 rfl (by unfold f_X0_isPosition; rw [if_neg c_1, if_neg c_2])
def f_X0_c (k : Int32) : Int32 := kTab (k &&& 15).toNatClampNeg
set_option maxRecDepth 20000 in
set_option maxHeartbeats 4000000 in
theorem k_X0_c (l : Launch) (D : va_G) (tys : List (ClassId × FieldType)) (k : Int32) : RD l yX0_c cX0_c 1 (some .int) 0 D tys ([]) [.int k] (some (.int (f_X0_c k))) := by
  refine RD.of (by decide) ?_
  intro p e s m below meth c hx hb hr hml hown hlocks hE hP hK
  have hown : s.vm.findClass RX0 = some m.cls := hown
  have ht : tb_OK s := hE.1
  obtain ⟨tC, hZ, hT⟩ := hE.2.1
  have hS : va_S (fun _ => False) s.heap s.heap [] := va_S.rf
  have hl := lv_entry ([.int k]) (n := 1) (Nat.le_of_ble_eq_true rfl)
  rw [lg_entry_eq]
  generalize (lg_sl ([.int k]) ++ List.replicate (1 - (lg_sl ([.int k])).length) Slot.unset).toArray = ls at hl ⊢
  have hl : lv_has ls 1 [(0, .int k)] := hl
  refine va_gets hx hb hZ hS hown (fl_X0_22 ht) (fun _ h9 => h9) dX0_c_0 ?_
  refine lv_iload_n hx hb dX0_c_3 rfl (lv_at hl 0 rfl) ?_
  refine lv_bipush (v := 15) hx hb dX0_c_4 (by decide) ?_
  refine lv_iand hx hb dX0_c_6 ?_
  refine va_ti hx hb hT hS (pk_andIn k 4 (by decide) (by decide)) rfl dX0_c_7 ?_
  exact rd_i hx hb hr hlocks dX0_c_8 (rfl)
def f_X0_s (k : Int32) : Int32 := kTab ((k - 4) &&& 15).toNatClampNeg
set_option maxRecDepth 20000 in
set_option maxHeartbeats 4000000 in
theorem k_X0_s (l : Launch) (D : va_G) (tys : List (ClassId × FieldType)) (k : Int32) : RD l yX0_s cX0_s 1 (some .int) 0 D tys ([]) [.int k] (some (.int (f_X0_s k))) := by
  refine RD.of (by decide) ?_
  intro p e s m below meth c hx hb hr hml hown hlocks hE hP hK
  have hown : s.vm.findClass RX0 = some m.cls := hown
  have ht : tb_OK s := hE.1
  obtain ⟨tC, hZ, hT⟩ := hE.2.1
  have hS : va_S (fun _ => False) s.heap s.heap [] := va_S.rf
  have hl := lv_entry ([.int k]) (n := 1) (Nat.le_of_ble_eq_true rfl)
  rw [lg_entry_eq]
  generalize (lg_sl ([.int k]) ++ List.replicate (1 - (lg_sl ([.int k])).length) Slot.unset).toArray = ls at hl ⊢
  have hl : lv_has ls 1 [(0, .int k)] := hl
  refine va_gets hx hb hZ hS hown (fl_X0_22 ht) (fun _ h9 => h9) dX0_s_0 ?_
  refine lv_iload_n hx hb dX0_s_3 rfl (lv_at hl 0 rfl) ?_
  refine lv_iconst (v := 4) hx hb dX0_s_4 (by decide) ?_
  refine lv_isub hx hb dX0_s_5 ?_
  refine lv_bipush (v := 15) hx hb dX0_s_6 (by decide) ?_
  refine lv_iand hx hb dX0_s_8 ?_
  refine va_ti hx hb hT hS (pk_andIn (k - 4) 4 (by decide) (by decide)) rfl dX0_s_9 ?_
  exact rd_i hx hb hr hlocks dX0_s_10 (rfl)
def f_X0_fits (k : Int32) (j : Int32) (ja : Int32) (fb : Nat → Int32) : Int32 := if (fb k.toNatClampNeg) = 0 then (if j = (-1) then 1 else (if ((k - j) - (k - j) / ja * ja) = 0 then 0 else 1)) else 0
set_option maxRecDepth 20000 in
set_option maxHeartbeats 4000000 in
theorem k_X0_fits (l : Launch) (D : va_G) (cI cJ cZ : ClassId) (a : Nat → Nat) (n : Nat) (ah pl ck ct nk pm ja rg bu pn : Int32) (tp st us fb kA tA : Nat → Int32) (lx ly gx gy gu gv : Nat → Int64) (k : Int32) (j : Int32) (hk : vp_in k 16) (hj : ¬ ja = 0) : RD l yX0_fits cX0_fits 3 (some .boolean) 0 D (tysW cI cJ cZ) (wI cI cJ cZ a n ah pl ck ct nk pm ja rg bu pn tp st us fb kA tA lx ly gx gy gu gv) [.ref (a 5), .int k, .int j] (some (.int (f_X0_fits k j ja fb))) := by
  refine RD.of (by decide) ?_
  intro p e s m below meth c hx hb hr hml hown hlocks hE hP hK
  have hown : s.vm.findClass RX0 = some m.cls := hown
  have ht : tb_OK s := hE.1
  have hl := lv_entry ([.ref (a 5), .int k, .int j]) (n := 3) (Nat.le_of_ble_eq_true rfl)
  rw [lg_entry_eq]
  generalize (lg_sl ([.ref (a 5), .int k, .int j]) ++ List.replicate (3 - (lg_sl ([.ref (a 5), .int k, .int j])).length) Slot.unset).toArray = ls at hl ⊢
  have hl : lv_has ls 3 [(0, .ref (a 5)), (1, .int k), (2, .int j)] := hl
  refine lv_aload_n hx hb dX0_fits_0 rfl (lv_at hl 0 rfl) ?_
  refine va_get (D := D) (ci := 1) (v := .ref (a 6)) (C := RX0) (T := TX0) (N := 3) hx hb (lyX0 ht) (fun _ h9 => h9) hown hK hP 5 rfl rfl 0 (by decide) (fl_X0_11 ht) (fun _ h9 => h9) rfl dX0_fits_1 ?_
  refine lv_iload_n hx hb dX0_fits_4 rfl (lv_at hl 1 rfl) ?_
  refine va_zald hx hb hK hP 6 2 rfl rfl hk dX0_fits_5 ?_
  refine lv_if_ne (tgt := 29) hx hb dX0_fits_6 (by decide) (fun c_1 => ?_) (fun c_1 => ?_)
  · skip
    refine lv_iconst (v := 0) hx hb dX0_fits_29 (by decide) ?_
    exact rd_z hx hb hr hlocks dX0_fits_30 rfl (by unfold f_X0_fits; rw [if_neg c_1])
  · skip
    refine lv_iload_n hx hb dX0_fits_9 rfl (lv_at hl 2 rfl) ?_
    refine lv_iconst (v := -1) hx hb dX0_fits_10 (by decide) ?_
    refine lv_icmp_eq (tgt := 25) hx hb dX0_fits_11 (by decide) (fun c_2 => ?_) (fun c_2 => ?_)
    · skip
      refine lv_iconst (v := 1) hx hb dX0_fits_25 (by decide) ?_
      refine lv_goto (tgt := 30) hx hb dX0_fits_26 (by decide) ?_
      exact rd_z hx hb hr hlocks dX0_fits_30 rfl (by unfold f_X0_fits; rw [if_pos c_1, if_pos c_2])
    · skip
      refine lv_iload_n hx hb dX0_fits_14 rfl (lv_at hl 1 rfl) ?_
      refine lv_iload_n hx hb dX0_fits_15 rfl (lv_at hl 2 rfl) ?_
      refine lv_isub hx hb dX0_fits_16 ?_
      refine lv_aload_n hx hb dX0_fits_17 rfl (lv_at hl 0 rfl) ?_
      refine va_get (D := D) (ci := 1) (v := .int ja) (C := RX0) (T := TX0) (N := 3) hx hb (lyX0 ht) (fun _ h9 => h9) hown hK hP 5 rfl rfl 2 (by decide) (fl_X0_19 ht) (fun _ h9 => h9) rfl dX0_fits_18 ?_
      refine lv_irem hx hb dX0_fits_21 hj ?_
      refine lv_if_eq (tgt := 29) hx hb dX0_fits_22 (by decide) (fun c_3 => ?_) (fun c_3 => ?_)
      · skip
        refine lv_iconst (v := 0) hx hb dX0_fits_29 (by decide) ?_
        exact rd_z hx hb hr hlocks dX0_fits_30 rfl (by unfold f_X0_fits; rw [if_pos c_1, if_neg c_2, if_pos c_3])
      · skip
        refine lv_iconst (v := 1) hx hb dX0_fits_25 (by decide) ?_
        refine lv_goto (tgt := 30) hx hb dX0_fits_26 (by decide) ?_
        exact rd_z hx hb hr hlocks dX0_fits_30 rfl (by unfold f_X0_fits; rw [if_pos c_1, if_neg c_2, if_neg c_3])
def f_X1_has (k : Int32) (nk : Int32) : Int32 := if k < 0 then 0 else (if nk ≤ k then 0 else 1)
set_option maxRecDepth 20000 in
set_option maxHeartbeats 4000000 in
theorem k_X1_has (l : Launch) (D : va_G) (cI cJ cZ : ClassId) (a : Nat → Nat) (n : Nat) (ah pl ck ct nk pm ja rg bu pn : Int32) (tp st us fb kA tA : Nat → Int32) (lx ly gx gy gu gv : Nat → Int64) (k : Int32) : RD l yX1_has cX1_has 2 (some .boolean) 0 D (tysW cI cJ cZ) (wI cI cJ cZ a n ah pl ck ct nk pm ja rg bu pn tp st us fb kA tA lx ly gx gy gu gv) [.ref (a 1), .int k] (some (.int (f_X1_has k nk))) := by
  refine RD.of (by decide) ?_
  intro p e s m below meth c hx hb hr hml hown hlocks hE hP hK
  have hown : s.vm.findClass RX1 = some m.cls := hown
  have ht : tb_OK s := hE.1
  have hl := lv_entry ([.ref (a 1), .int k]) (n := 2) (Nat.le_of_ble_eq_true rfl)
  rw [lg_entry_eq]
  generalize (lg_sl ([.ref (a 1), .int k]) ++ List.replicate (2 - (lg_sl ([.ref (a 1), .int k])).length) Slot.unset).toArray = ls at hl ⊢
  have hl : lv_has ls 2 [(0, .ref (a 1)), (1, .int k)] := hl
  refine lv_iload_n hx hb dX1_has_0 rfl (lv_at hl 1 rfl) ?_
  refine lv_if_lt (tgt := 16) hx hb dX1_has_1 (by decide) (fun c_1 => ?_) (fun c_1 => ?_)
  · skip
    refine lv_iconst (v := 0) hx hb dX1_has_16 (by decide) ?_
    exact rd_z hx hb hr hlocks dX1_has_17 rfl (by unfold f_X1_has; rw [if_pos c_1])
  · skip
    refine lv_iload_n hx hb dX1_has_4 rfl (lv_at hl 1 rfl) ?_
    refine lv_aload_n hx hb dX1_has_5 rfl (lv_at hl 0 rfl) ?_
    refine va_get (D := D) (ci := 2) (v := .int nk) (C := RX1) (T := TX1) (N := 4) hx hb (lyX1 ht) (fun _ h9 => h9) hown hK hP 1 rfl rfl 3 (by decide) (fl_X1_19 ht) (fun _ h9 => h9) rfl dX1_has_6 ?_
    refine lv_icmp_ge (tgt := 16) hx hb dX1_has_9 (by decide) (fun c_2 => ?_) (fun c_2 => ?_)
    · skip
      refine lv_iconst (v := 0) hx hb dX1_has_16 (by decide) ?_
      exact rd_z hx hb hr hlocks dX1_has_17 rfl (by unfold f_X1_has; rw [if_neg c_1, if_pos c_2])
    · skip
      refine lv_iconst (v := 1) hx hb dX1_has_12 (by decide) ?_
      refine lv_goto (tgt := 17) hx hb dX1_has_13 (by decide) ?_
      exact rd_z hx hb hr hlocks dX1_has_17 rfl (by unfold f_X1_has; rw [if_neg c_1, if_neg c_2])
def f_X1_isFull (nk : Int32) : Int32 := if nk < 4 then 0 else 1
set_option maxRecDepth 20000 in
set_option maxHeartbeats 4000000 in
theorem k_X1_isFull (l : Launch) (D : va_G) (cI cJ cZ : ClassId) (a : Nat → Nat) (n : Nat) (ah pl ck ct nk pm ja rg bu pn : Int32) (tp st us fb kA tA : Nat → Int32) (lx ly gx gy gu gv : Nat → Int64)  : RD l yX1_isFull cX1_isFull 1 (some .boolean) 0 D (tysW cI cJ cZ) (wI cI cJ cZ a n ah pl ck ct nk pm ja rg bu pn tp st us fb kA tA lx ly gx gy gu gv) [.ref (a 1)] (some (.int (f_X1_isFull nk))) := by
  refine RD.of (by decide) ?_
  intro p e s m below meth c hx hb hr hml hown hlocks hE hP hK
  have hown : s.vm.findClass RX1 = some m.cls := hown
  have ht : tb_OK s := hE.1
  have hl := lv_entry ([.ref (a 1)]) (n := 1) (Nat.le_of_ble_eq_true rfl)
  rw [lg_entry_eq]
  generalize (lg_sl ([.ref (a 1)]) ++ List.replicate (1 - (lg_sl ([.ref (a 1)])).length) Slot.unset).toArray = ls at hl ⊢
  have hl : lv_has ls 1 [(0, .ref (a 1))] := hl
  refine lv_aload_n hx hb dX1_isFull_0 rfl (lv_at hl 0 rfl) ?_
  refine va_get (D := D) (ci := 2) (v := .int nk) (C := RX1) (T := TX1) (N := 4) hx hb (lyX1 ht) (fun _ h9 => h9) hown hK hP 1 rfl rfl 3 (by decide) (fl_X1_19 ht) (fun _ h9 => h9) rfl dX1_isFull_1 ?_
  refine lv_iconst (v := 4) hx hb dX1_isFull_4 (by decide) ?_
  refine lv_icmp_lt (tgt := 12) hx hb dX1_isFull_5 (by decide) (fun c_1 => ?_) (fun c_1 => ?_)
  · skip
    refine lv_iconst (v := 0) hx hb dX1_isFull_12 (by decide) ?_
    exact rd_z hx hb hr hlocks dX1_isFull_13 rfl (by unfold f_X1_isFull; rw [if_pos c_1])
  · skip
    refine lv_iconst (v := 1) hx hb dX1_isFull_8 (by decide) ?_
    refine lv_goto (tgt := 13) hx hb dX1_isFull_9 (by decide) ?_
    exact rd_z hx hb hr hlocks dX1_isFull_13 rfl (by unfold f_X1_isFull; rw [if_neg c_1])
def f_X1_unused (k : Int32) (st : Nat → Int32) (us : Nat → Int32) : Int32 := (st k.toNatClampNeg) - (us k.toNatClampNeg)
set_option maxRecDepth 20000 in
set_option maxHeartbeats 4000000 in
theorem k_X1_unused (l : Launch) (D : va_G) (cI cJ cZ : ClassId) (a : Nat → Nat) (n : Nat) (ah pl ck ct nk pm ja rg bu pn : Int32) (tp st us fb kA tA : Nat → Int32) (lx ly gx gy gu gv : Nat → Int64) (k : Int32) (hk : vp_in k 4) : RD l yX1_unused cX1_unused 2 (some .int) 0 D (tysW cI cJ cZ) (wI cI cJ cZ a n ah pl ck ct nk pm ja rg bu pn tp st us fb kA tA lx ly gx gy gu gv) [.ref (a 1), .int k] (some (.int (f_X1_unused k st us))) := by
  refine RD.of (by decide) ?_
  intro p e s m below meth c hx hb hr hml hown hlocks hE hP hK
  have hown : s.vm.findClass RX1 = some m.cls := hown
  have ht : tb_OK s := hE.1
  have hl := lv_entry ([.ref (a 1), .int k]) (n := 2) (Nat.le_of_ble_eq_true rfl)
  rw [lg_entry_eq]
  generalize (lg_sl ([.ref (a 1), .int k]) ++ List.replicate (2 - (lg_sl ([.ref (a 1), .int k])).length) Slot.unset).toArray = ls at hl ⊢
  have hl : lv_has ls 2 [(0, .ref (a 1)), (1, .int k)] := hl
  refine lv_aload_n hx hb dX1_unused_0 rfl (lv_at hl 0 rfl) ?_
  refine va_get (D := D) (ci := 2) (v := .ref (a 3)) (C := RX1) (T := TX1) (N := 4) hx hb (lyX1 ht) (fun _ h9 => h9) hown hK hP 1 rfl rfl 1 (by decide) (fl_X1_13 ht) (fun _ h9 => h9) rfl dX1_unused_1 ?_
  refine lv_iload_n hx hb dX1_unused_4 rfl (lv_at hl 1 rfl) ?_
  refine va_iald hx hb hK hP 3 0 rfl rfl hk dX1_unused_5 ?_
  refine lv_aload_n hx hb dX1_unused_6 rfl (lv_at hl 0 rfl) ?_
  refine va_get (D := D) (ci := 2) (v := .ref (a 4)) (C := RX1) (T := TX1) (N := 4) hx hb (lyX1 ht) (fun _ h9 => h9) hown hK hP 1 rfl rfl 2 (by decide) (fl_X1_16 ht) (fun _ h9 => h9) rfl dX1_unused_7 ?_
  refine lv_iload_n hx hb dX1_unused_10 rfl (lv_at hl 1 rfl) ?_
  refine va_iald hx hb hK hP 4 0 rfl rfl hk dX1_unused_11 ?_
  refine lv_isub hx hb dX1_unused_12 ?_
  exact rd_i hx hb hr hlocks dX1_unused_13 (rfl)
def f_X2_has (r : Int32) (rg : Int32) : Int32 := if r < 0 then 0 else (if rg ≤ r then 0 else 1)
set_option maxRecDepth 20000 in
set_option maxHeartbeats 4000000 in
theorem k_X2_has (l : Launch) (D : va_G) (cI cJ cZ : ClassId) (a : Nat → Nat) (n : Nat) (ah pl ck ct nk pm ja rg bu pn : Int32) (tp st us fb kA tA : Nat → Int32) (lx ly gx gy gu gv : Nat → Int64) (r : Int32) : RD l yX2_has cX2_has 2 (some .boolean) 0 D (tysW cI cJ cZ) (wI cI cJ cZ a n ah pl ck ct nk pm ja rg bu pn tp st us fb kA tA lx ly gx gy gu gv) [.ref (a 7), .int r] (some (.int (f_X2_has r rg))) := by
  refine RD.of (by decide) ?_
  intro p e s m below meth c hx hb hr hml hown hlocks hE hP hK
  have hown : s.vm.findClass RX2 = some m.cls := hown
  have ht : tb_OK s := hE.1
  have hl := lv_entry ([.ref (a 7), .int r]) (n := 2) (Nat.le_of_ble_eq_true rfl)
  rw [lg_entry_eq]
  generalize (lg_sl ([.ref (a 7), .int r]) ++ List.replicate (2 - (lg_sl ([.ref (a 7), .int r])).length) Slot.unset).toArray = ls at hl ⊢
  have hl : lv_has ls 2 [(0, .ref (a 7)), (1, .int r)] := hl
  refine lv_iload_n hx hb dX2_has_0 rfl (lv_at hl 1 rfl) ?_
  refine lv_if_lt (tgt := 16) hx hb dX2_has_1 (by decide) (fun c_1 => ?_) (fun c_1 => ?_)
  · skip
    refine lv_iconst (v := 0) hx hb dX2_has_16 (by decide) ?_
    exact rd_z hx hb hr hlocks dX2_has_17 rfl (by unfold f_X2_has; rw [if_pos c_1])
  · skip
    refine lv_iload_n hx hb dX2_has_4 rfl (lv_at hl 1 rfl) ?_
    refine lv_aload_n hx hb dX2_has_5 rfl (lv_at hl 0 rfl) ?_
    refine va_get (D := D) (ci := 3) (v := .int rg) (C := RX2) (T := TX2) (N := 11) hx hb (lyX2 ht) (fun _ h9 => h9) hown hK hP 7 rfl rfl 0 (by decide) (fl_X2_18 ht) (fun _ h9 => h9) rfl dX2_has_6 ?_
    refine lv_icmp_ge (tgt := 16) hx hb dX2_has_9 (by decide) (fun c_2 => ?_) (fun c_2 => ?_)
    · skip
      refine lv_iconst (v := 0) hx hb dX2_has_16 (by decide) ?_
      exact rd_z hx hb hr hlocks dX2_has_17 rfl (by unfold f_X2_has; rw [if_neg c_1, if_pos c_2])
    · skip
      refine lv_iconst (v := 1) hx hb dX2_has_12 (by decide) ?_
      refine lv_goto (tgt := 17) hx hb dX2_has_13 (by decide) ?_
      exact rd_z hx hb hr hlocks dX2_has_17 rfl (by unfold f_X2_has; rw [if_neg c_1, if_neg c_2])
def f_X2_standing (bu : Int32) (pn : Int32) : Int32 := bu + pn
set_option maxRecDepth 20000 in
set_option maxHeartbeats 4000000 in
theorem k_X2_standing (l : Launch) (D : va_G) (cI cJ cZ : ClassId) (a : Nat → Nat) (n : Nat) (ah pl ck ct nk pm ja rg bu pn : Int32) (tp st us fb kA tA : Nat → Int32) (lx ly gx gy gu gv : Nat → Int64)  : RD l yX2_standing cX2_standing 1 (some .int) 0 D (tysW cI cJ cZ) (wI cI cJ cZ a n ah pl ck ct nk pm ja rg bu pn tp st us fb kA tA lx ly gx gy gu gv) [.ref (a 7)] (some (.int (f_X2_standing bu pn))) := by
  refine RD.of (by decide) ?_
  intro p e s m below meth c hx hb hr hml hown hlocks hE hP hK
  have hown : s.vm.findClass RX2 = some m.cls := hown
  have ht : tb_OK s := hE.1
  have hl := lv_entry ([.ref (a 7)]) (n := 1) (Nat.le_of_ble_eq_true rfl)
  rw [lg_entry_eq]
  generalize (lg_sl ([.ref (a 7)]) ++ List.replicate (1 - (lg_sl ([.ref (a 7)])).length) Slot.unset).toArray = ls at hl ⊢
  have hl : lv_has ls 1 [(0, .ref (a 7))] := hl
  refine lv_aload_n hx hb dX2_standing_0 rfl (lv_at hl 0 rfl) ?_
  refine va_get (D := D) (ci := 3) (v := .int bu) (C := RX2) (T := TX2) (N := 11) hx hb (lyX2 ht) (fun _ h9 => h9) hown hK hP 7 rfl rfl 1 (by decide) (fl_X2_9 ht) (fun _ h9 => h9) rfl dX2_standing_1 ?_
  refine lv_aload_n hx hb dX2_standing_4 rfl (lv_at hl 0 rfl) ?_
  refine va_get (D := D) (ci := 3) (v := .int pn) (C := RX2) (T := TX2) (N := 11) hx hb (lyX2 ht) (fun _ h9 => h9) hown hK hP 7 rfl rfl 2 (by decide) (fl_X2_15 ht) (fun _ h9 => h9) rfl dX2_standing_5 ?_
  refine lv_iadd hx hb dX2_standing_8 ?_
  exact rd_i hx hb hr hlocks dX2_standing_9 (rfl)
def f_X2_stands (r : Int32) (bu : Int32) (pn : Int32) : Int32 := if r < 0 then 0 else (if (f_X2_standing bu pn) ≤ r then 0 else 1)
set_option maxRecDepth 20000 in
set_option maxHeartbeats 4000000 in
theorem k_X2_stands (l : Launch) (D : va_G) (cI cJ cZ : ClassId) (a : Nat → Nat) (n : Nat) (ah pl ck ct nk pm ja rg bu pn : Int32) (tp st us fb kA tA : Nat → Int32) (lx ly gx gy gu gv : Nat → Int64) (r : Int32) : RD l yX2_stands cX2_stands 2 (some .boolean) 1 D (tysW cI cJ cZ) (wI cI cJ cZ a n ah pl ck ct nk pm ja rg bu pn tp st us fb kA tA lx ly gx gy gu gv) [.ref (a 7), .int r] (some (.int (f_X2_stands r bu pn))) := by
  refine RD.of (by decide) ?_
  intro p e s m below meth c hx hb hr hml hown hlocks hE hP hK
  have hown : s.vm.findClass RX2 = some m.cls := hown
  have ht : tb_OK s := hE.1
  have hl := lv_entry ([.ref (a 7), .int r]) (n := 2) (Nat.le_of_ble_eq_true rfl)
  rw [lg_entry_eq]
  generalize (lg_sl ([.ref (a 7), .int r]) ++ List.replicate (2 - (lg_sl ([.ref (a 7), .int r])).length) Slot.unset).toArray = ls at hl ⊢
  have hl : lv_has ls 2 [(0, .ref (a 7)), (1, .int r)] := hl
  refine lv_iload_n hx hb dX2_stands_0 rfl (lv_at hl 1 rfl) ?_
  refine lv_if_lt (tgt := 16) hx hb dX2_stands_1 (by decide) (fun c_1 => ?_) (fun c_1 => ?_)
  · skip
    refine lv_iconst (v := 0) hx hb dX2_stands_16 (by decide) ?_
    exact rd_z hx hb hr hlocks dX2_stands_17 rfl (by unfold f_X2_stands; rw [if_pos c_1])
  · skip
    refine lv_iload_n hx hb dX2_stands_4 rfl (lv_at hl 1 rfl) ?_
    refine lv_aload_n hx hb dX2_stands_5 rfl (lv_at hl 0 rfl) ?_
    refine rdV (As := []) (rest := [.int r]) (st1 := [.int (f_X2_standing bu pn), .int r]) (k_X2_standing l D cI cJ cZ a n ah pl ck ct nk pm ja rg bu pn tp st us fb kA tA lx ly gx gy gu gv) (si_X2_47 ht ⟨Nat.le_of_ble_eq_true rfl, Nat.le_of_ble_eq_true rfl⟩) hx hb hml hown (va_recv hK hP (ci := 3) (q0 := 7) rfl rfl) hE hP hK rfl hl.1 rfl (Nat.le_of_ble_eq_true rfl) ⟨Nat.zero_le _, Nat.zero_le _⟩ dX2_stands_6 rfl ?_
    refine lv_icmp_ge (tgt := 16) hx hb dX2_stands_9 (by decide) (fun c_2 => ?_) (fun c_2 => ?_)
    · skip
      refine lv_iconst (v := 0) hx hb dX2_stands_16 (by decide) ?_
      exact rd_z hx hb hr hlocks dX2_stands_17 rfl (by unfold f_X2_stands; rw [if_neg c_1, if_pos c_2])
    · skip
      refine lv_iconst (v := 1) hx hb dX2_stands_12 (by decide) ?_
      refine lv_goto (tgt := 17) hx hb dX2_stands_13 (by decide) ?_
      exact rd_z hx hb hr hlocks dX2_stands_17 rfl (by unfold f_X2_stands; rw [if_neg c_1, if_neg c_2])
def f_X2_stateAt (r : Int32) (bu : Int32) (pn : Int32) : Int32 := if bu ≤ r then (if (f_X2_standing bu pn) ≤ r then 0 else 1) else 2
set_option maxRecDepth 20000 in
set_option maxHeartbeats 4000000 in
theorem k_X2_stateAt (l : Launch) (D : va_G) (cI cJ cZ : ClassId) (a : Nat → Nat) (n : Nat) (ah pl ck ct nk pm ja rg bu pn : Int32) (tp st us fb kA tA : Nat → Int32) (lx ly gx gy gu gv : Nat → Int64) (r : Int32) : RD l yX2_stateAt cX2_stateAt 2 (some .int) 1 D (tysW cI cJ cZ) (wI cI cJ cZ a n ah pl ck ct nk pm ja rg bu pn tp st us fb kA tA lx ly gx gy gu gv) [.ref (a 7), .int r] (some (.int (f_X2_stateAt r bu pn))) := by
  refine RD.of (by decide) ?_
  intro p e s m below meth c hx hb hr hml hown hlocks hE hP hK
  have hown : s.vm.findClass RX2 = some m.cls := hown
  have ht : tb_OK s := hE.1
  have hl := lv_entry ([.ref (a 7), .int r]) (n := 2) (Nat.le_of_ble_eq_true rfl)
  rw [lg_entry_eq]
  generalize (lg_sl ([.ref (a 7), .int r]) ++ List.replicate (2 - (lg_sl ([.ref (a 7), .int r])).length) Slot.unset).toArray = ls at hl ⊢
  have hl : lv_has ls 2 [(0, .ref (a 7)), (1, .int r)] := hl
  refine lv_iload_n hx hb dX2_stateAt_0 rfl (lv_at hl 1 rfl) ?_
  refine lv_aload_n hx hb dX2_stateAt_1 rfl (lv_at hl 0 rfl) ?_
  refine va_get (D := D) (ci := 3) (v := .int bu) (C := RX2) (T := TX2) (N := 11) hx hb (lyX2 ht) (fun _ h9 => h9) hown hK hP 7 rfl rfl 1 (by decide) (fl_X2_9 ht) (fun _ h9 => h9) rfl dX2_stateAt_2 ?_
  refine lv_icmp_ge (tgt := 10) hx hb dX2_stateAt_5 (by decide) (fun c_1 => ?_) (fun c_1 => ?_)
  · skip
    refine lv_iload_n hx hb dX2_stateAt_10 rfl (lv_at hl 1 rfl) ?_
    refine lv_aload_n hx hb dX2_stateAt_11 rfl (lv_at hl 0 rfl) ?_
    refine rdV (As := []) (rest := [.int r]) (st1 := [.int (f_X2_standing bu pn), .int r]) (k_X2_standing l D cI cJ cZ a n ah pl ck ct nk pm ja rg bu pn tp st us fb kA tA lx ly gx gy gu gv) (si_X2_47 ht ⟨Nat.le_of_ble_eq_true rfl, Nat.le_of_ble_eq_true rfl⟩) hx hb hml hown (va_recv hK hP (ci := 3) (q0 := 7) rfl rfl) hE hP hK rfl hl.1 rfl (Nat.le_of_ble_eq_true rfl) ⟨Nat.zero_le _, Nat.zero_le _⟩ dX2_stateAt_12 rfl ?_
    refine lv_icmp_ge (tgt := 22) hx hb dX2_stateAt_15 (by decide) (fun c_2 => ?_) (fun c_2 => ?_)
    · skip
      refine lv_iconst (v := 0) hx hb dX2_stateAt_22 (by decide) ?_
      exact rd_i hx hb hr hlocks dX2_stateAt_23 (by unfold f_X2_stateAt; rw [if_pos c_1, if_pos c_2])
    · skip
      refine lv_iconst (v := 1) hx hb dX2_stateAt_18 (by decide) ?_
      refine lv_goto (tgt := 23) hx hb dX2_stateAt_19 (by decide) ?_
      exact rd_i hx hb hr hlocks dX2_stateAt_23 (by unfold f_X2_stateAt; rw [if_pos c_1, if_neg c_2])
  · skip
    refine lv_iconst (v := 2) hx hb dX2_stateAt_8 (by decide) ?_
    exact rd_i hx hb hr hlocks dX2_stateAt_9 (by unfold f_X2_stateAt; rw [if_neg c_1])
def f_X2_turnBefore (r : Int32) (tA : Nat → Int32) : Int32 := if r ≤ 0 then -1 else (tA (r - 1).toNatClampNeg)
set_option maxRecDepth 20000 in
set_option maxHeartbeats 4000000 in
theorem k_X2_turnBefore (l : Launch) (D : va_G) (cI cJ cZ : ClassId) (a : Nat → Nat) (n : Nat) (ah pl ck ct nk pm ja rg bu pn : Int32) (tp st us fb kA tA : Nat → Int32) (lx ly gx gy gu gv : Nat → Int64) (r : Int32) (hr0 : 0 < r → vp_in (r - 1) n) : RD l yX2_turnBefore cX2_turnBefore 2 (some .int) 0 D (tysW cI cJ cZ) (wI cI cJ cZ a n ah pl ck ct nk pm ja rg bu pn tp st us fb kA tA lx ly gx gy gu gv) [.ref (a 7), .int r] (some (.int (f_X2_turnBefore r tA))) := by
  refine RD.of (by decide) ?_
  intro p e s m below meth c hx hb hr hml hown hlocks hE hP hK
  have hown : s.vm.findClass RX2 = some m.cls := hown
  have ht : tb_OK s := hE.1
  have hl := lv_entry ([.ref (a 7), .int r]) (n := 2) (Nat.le_of_ble_eq_true rfl)
  rw [lg_entry_eq]
  generalize (lg_sl ([.ref (a 7), .int r]) ++ List.replicate (2 - (lg_sl ([.ref (a 7), .int r])).length) Slot.unset).toArray = ls at hl ⊢
  have hl : lv_has ls 2 [(0, .ref (a 7)), (1, .int r)] := hl
  refine lv_iload_n hx hb dX2_turnBefore_0 rfl (lv_at hl 1 rfl) ?_
  refine lv_if_le (tgt := 15) hx hb dX2_turnBefore_1 (by decide) (fun c_1 => ?_) (fun c_1 => ?_)
  · skip
    refine lv_iconst (v := -1) hx hb dX2_turnBefore_15 (by decide) ?_
    exact rd_i hx hb hr hlocks dX2_turnBefore_16 (by unfold f_X2_turnBefore; rw [if_pos c_1])
  · skip
    refine lv_aload_n hx hb dX2_turnBefore_4 rfl (lv_at hl 0 rfl) ?_
    refine va_get (D := D) (ci := 3) (v := .ref (a 9)) (C := RX2) (T := TX2) (N := 11) hx hb (lyX2 ht) (fun _ h9 => h9) hown hK hP 7 rfl rfl 4 (by decide) (fl_X2_25 ht) (fun _ h9 => h9) rfl dX2_turnBefore_5 ?_
    refine lv_iload_n hx hb dX2_turnBefore_8 rfl (lv_at hl 1 rfl) ?_
    refine lv_iconst (v := 1) hx hb dX2_turnBefore_9 (by decide) ?_
    refine lv_isub hx hb dX2_turnBefore_10 ?_
    refine va_iald hx hb hK hP 9 0 rfl rfl (hr0 (Int32.not_le.mp c_1)) dX2_turnBefore_11 ?_
    refine lv_goto (tgt := 16) hx hb dX2_turnBefore_12 (by decide) ?_
    exact rd_i hx hb hr hlocks dX2_turnBefore_16 (by unfold f_X2_turnBefore; rw [if_neg c_1])
