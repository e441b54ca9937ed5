set_option maxRecDepth 20000 in
set_option maxHeartbeats 4000000 in
theorem k_X0_init (l : Launch) (D : va_G) (cI cJ cZ : ClassId) (h0 : Nat)   : WR l yX0_init cX0_init 1 none 1 1 16 D (tysW cI cJ cZ) ([(h0, .inr (1, [.null, .int 0, .int 0]))]) [.ref h0] (fun ov w' => ov = none ∧ ∃ q1 : Nat, w' = [(h0, .inr (1, [.ref q1, .int 16, .int 16])), (q1, .inl (cZ, 16, .inl (fun _ => 0)))]) := by
  refine WR.of (by decide) ?_
  intro p e s m below meth c A hadm hx hb hr hml hown hlocks hname hE hP hK hD hS hA hAe
  have hown : s.vm.findClass RX0 = some m.cls := hown
  have ht : tb_OK s := hE.1
  have hl := lv_entry ([.ref h0]) (n := 1) (Nat.le_of_ble_eq_true rfl)
  rw [lg_entry_eq]
  generalize (lg_sl ([.ref h0]) ++ List.replicate (1 - (lg_sl ([.ref h0])).length) Slot.unset).toArray = ls at hl ⊢
  have hl : lv_has ls 1 [(0, .ref h0)] := hl
  refine lv_aload_n hx hb dX0_init_0 rfl (lv_at hl 0 rfl) ?_
  refine W.objInit hx hb hown (ml_X0_3 ht) (im_obj ht) (cd_obj ht) rfl (by rw [hml]; exact hl.1) rfl dX0_init_1 (Nat.le_of_ble_eq_true rfl) (Nat.le_of_ble_eq_true rfl) ?_
  refine W.eq (g2 := F0 m 4 ls []) rfl ?_
  refine lv_aload_n hx hb dX0_init_4 rfl (lv_at hl 0 rfl) ?_
  refine lv_bipush (v := 16) hx hb dX0_init_5 (by decide) ?_
  refine nw_z hx hb ht hK hP hD hS hA (N' := 16) (by decide) (by decide) (by decide) (Nat.le_of_ble_eq_true rfl) (by show _ ≤ 16; omega) dX0_init_7 (fun q1 H hP hD hS => ?_)
  have hP : va_P D vwCl ([(h0, .inr (1, [.null, .int 0, .int 0])), (q1, .inl (cZ, 16, .inl (fun _ => 0)))]) H := hP
  have hD : va_D A ([(h0, .inr (1, [.null, .int 0, .int 0])), (q1, .inl (cZ, 16, .inl (fun _ => 0)))]) := hD
  refine va_putF (D := D) (ci := 1) (v := .ref q1) (ty := .array .boolean) (C := RX0) (T := TX0) (N := 3) hx hb (lyX0 ht) (fun _ h9 => h9) tyX0 tyX0_ok nmX0 hown hK hP hD hS 0 rfl rfl 0 (by decide) (fl_X0_11 ht) (fun _ h9 => h9) rfl hname rfl (by decide +kernel) rfl rfl (Nat.le_of_ble_eq_true rfl) dX0_init_9 (fun H locs hP hD hS => ?_)
  have hP : va_P D vwCl ([(h0, .inr (1, [.ref q1, .int 0, .int 0])), (q1, .inl (cZ, 16, .inl (fun _ => 0)))]) H := hP
  have hD : va_D A ([(h0, .inr (1, [.ref q1, .int 0, .int 0])), (q1, .inl (cZ, 16, .inl (fun _ => 0)))]) := hD
  refine lv_aload_n hx hb dX0_init_12 rfl (lv_at hl 0 rfl) ?_
  refine lv_bipush (v := 16) hx hb dX0_init_13 (by decide) ?_
  refine va_put (D := D) (ci := 1) (v := .int 16) (ty := .int) (C := RX0) (T := TX0) (N := 3) hx hb (lyX0 ht) (fun _ h9 => h9) tyX0 tyX0_ok nmX0 hown hK hP hD hS 0 rfl rfl 1 (by decide) (fl_X0_15 ht) (fun _ h9 => h9) rfl (by decide +kernel) rfl rfl (Nat.le_of_ble_eq_true rfl) dX0_init_15 (fun H locs hP hD hS => ?_)
  have hP : va_P D vwCl ([(h0, .inr (1, [.ref q1, .int 16, .int 0])), (q1, .inl (cZ, 16, .inl (fun _ => 0)))]) H := hP
  have hD : va_D A ([(h0, .inr (1, [.ref q1, .int 16, .int 0])), (q1, .inl (cZ, 16, .inl (fun _ => 0)))]) := hD
  refine lv_aload_n hx hb dX0_init_18 rfl (lv_at hl 0 rfl) ?_
  refine lv_bipush (v := 16) hx hb dX0_init_19 (by decide) ?_
  refine va_put (D := D) (ci := 1) (v := .int 16) (ty := .int) (C := RX0) (T := TX0) (N := 3) hx hb (lyX0 ht) (fun _ h9 => h9) tyX0 tyX0_ok nmX0 hown hK hP hD hS 0 rfl rfl 2 (by decide) (fl_X0_19 ht) (fun _ h9 => h9) rfl (by decide +kernel) rfl rfl (Nat.le_of_ble_eq_true rfl) dX0_init_21 (fun H locs hP hD hS => ?_)
  have hP : va_P D vwCl ([(h0, .inr (1, [.ref q1, .int 16, .int 16])), (q1, .inl (cZ, 16, .inl (fun _ => 0)))]) H := hP
  have hD : va_D A ([(h0, .inr (1, [.ref q1, .int 16, .int 16])), (q1, .inl (cZ, 16, .inl (fun _ => 0)))]) := hD
  refine W.widen (k := 1) (n := 16) (Nat.le_of_ble_eq_true rfl) (by omega) ?_
  exact wr_v hx hb hr hlocks hAe hP hD hS dX0_init_24 ⟨rfl, q1, rfl⟩
set_option maxRecDepth 20000 in
set_option maxHeartbeats 4000000 in
theorem k_X1_init (l : Launch) (D : va_G) (cI cJ cZ : ClassId) (h0 : Nat)   : WR l yX1_init cX1_init 1 none 1 3 12 D (tysW cI cJ cZ) ([(h0, .inr (2, [.null, .null, .null, .int 0]))]) [.ref h0] (fun ov w' => ov = none ∧ ∃ q1 q2 q3 : Nat, w' = [(h0, .inr (2, [.ref q1, .ref q2, .ref q3, .int 0])), (q1, .inl (cI, 4, .inl (fun _ => 0))), (q2, .inl (cI, 4, .inl (fun _ => 0))), (q3, .inl (cI, 4, .inl (fun _ => 0)))]) := by
  refine WR.of (by decide) ?_
  intro p e s m below meth c A hadm hx hb hr hml hown hlocks hname hE hP hK hD hS hA hAe
  have hown : s.vm.findClass RX1 = some m.cls := hown
  have ht : tb_OK s := hE.1
  have hl := lv_entry ([.ref h0]) (n := 1) (Nat.le_of_ble_eq_true rfl)
  rw [lg_entry_eq]
  generalize (lg_sl ([.ref h0]) ++ List.replicate (1 - (lg_sl ([.ref h0])).length) Slot.unset).toArray = ls at hl ⊢
  have hl : lv_has ls 1 [(0, .ref h0)] := hl
  refine lv_aload_n hx hb dX1_init_0 rfl (lv_at hl 0 rfl) ?_
  refine W.objInit hx hb hown (ml_X1_1 ht) (im_obj ht) (cd_obj ht) rfl (by rw [hml]; exact hl.1) rfl dX1_init_1 (Nat.le_of_ble_eq_true rfl) (Nat.le_of_ble_eq_true rfl) ?_
  refine W.eq (g2 := F0 m 4 ls []) rfl ?_
  refine lv_aload_n hx hb dX1_init_4 rfl (lv_at hl 0 rfl) ?_
  refine lv_iconst (v := 4) hx hb dX1_init_5 (by decide) ?_
  refine nw_i hx hb ht hK hP hD hS hA (N' := 4) (by decide) (by decide) (by decide) (Nat.le_of_ble_eq_true rfl) (by show _ ≤ 12; omega) dX1_init_6 (fun q1 H hP hD hS => ?_)
  have hP : va_P D vwCl ([(h0, .inr (2, [.null, .null, .null, .int 0])), (q1, .inl (cI, 4, .inl (fun _ => 0)))]) H := hP
  have hD : va_D A ([(h0, .inr (2, [.null, .null, .null, .int 0])), (q1, .inl (cI, 4, .inl (fun _ => 0)))]) := hD
  refine va_putF (D := D) (ci := 2) (v := .ref q1) (ty := .array .int) (C := RX1) (T := TX1) (N := 4) hx hb (lyX1 ht) (fun _ h9 => h9) tyX1 tyX1_ok nmX1 hown hK hP hD hS 0 rfl rfl 0 (by decide) (fl_X1_9 ht) (fun _ h9 => h9) rfl hname rfl (by decide +kernel) rfl rfl (Nat.le_of_ble_eq_true rfl) dX1_init_8 (fun H locs hP hD hS => ?_)
  have hP : va_P D vwCl ([(h0, .inr (2, [.ref q1, .null, .null, .int 0])), (q1, .inl (cI, 4, .inl (fun _ => 0)))]) H := hP
  have hD : va_D A ([(h0, .inr (2, [.ref q1, .null, .null, .int 0])), (q1, .inl (cI, 4, .inl (fun _ => 0)))]) := hD
  refine lv_aload_n hx hb dX1_init_11 rfl (lv_at hl 0 rfl) ?_
  refine lv_iconst (v := 4) hx hb dX1_init_12 (by decide) ?_
  refine nw_i hx hb ht hK hP hD hS hA (N' := 4) (by decide) (by decide) (by decide) (Nat.le_of_ble_eq_true rfl) (by show _ ≤ 12; omega) dX1_init_13 (fun q2 H hP hD hS => ?_)
  have hP : va_P D vwCl ([(h0, .inr (2, [.ref q1, .null, .null, .int 0])), (q1, .inl (cI, 4, .inl (fun _ => 0))), (q2, .inl (cI, 4, .inl (fun _ => 0)))]) H := hP
  have hD : va_D A ([(h0, .inr (2, [.ref q1, .null, .null, .int 0])), (q1, .inl (cI, 4, .inl (fun _ => 0))), (q2, .inl (cI, 4, .inl (fun _ => 0)))]) := hD
  refine va_putF (D := D) (ci := 2) (v := .ref q2) (ty := .array .int) (C := RX1) (T := TX1) (N := 4) hx hb (lyX1 ht) (fun _ h9 => h9) tyX1 tyX1_ok nmX1 hown hK hP hD hS 0 rfl rfl 1 (by decide) (fl_X1_13 ht) (fun _ h9 => h9) rfl hname rfl (by decide +kernel) rfl rfl (Nat.le_of_ble_eq_true rfl) dX1_init_15 (fun H locs hP hD hS => ?_)
  have hP : va_P D vwCl ([(h0, .inr (2, [.ref q1, .ref q2, .null, .int 0])), (q1, .inl (cI, 4, .inl (fun _ => 0))), (q2, .inl (cI, 4, .inl (fun _ => 0)))]) H := hP
  have hD : va_D A ([(h0, .inr (2, [.ref q1, .ref q2, .null, .int 0])), (q1, .inl (cI, 4, .inl (fun _ => 0))), (q2, .inl (cI, 4, .inl (fun _ => 0)))]) := hD
  refine lv_aload_n hx hb dX1_init_18 rfl (lv_at hl 0 rfl) ?_
  refine lv_iconst (v := 4) hx hb dX1_init_19 (by decide) ?_
  refine nw_i hx hb ht hK hP hD hS hA (N' := 4) (by decide) (by decide) (by decide) (Nat.le_of_ble_eq_true rfl) (by show _ ≤ 12; omega) dX1_init_20 (fun q3 H hP hD hS => ?_)
  have hP : va_P D vwCl ([(h0, .inr (2, [.ref q1, .ref q2, .null, .int 0])), (q1, .inl (cI, 4, .inl (fun _ => 0))), (q2, .inl (cI, 4, .inl (fun _ => 0))), (q3, .inl (cI, 4, .inl (fun _ => 0)))]) H := hP
  have hD : va_D A ([(h0, .inr (2, [.ref q1, .ref q2, .null, .int 0])), (q1, .inl (cI, 4, .inl (fun _ => 0))), (q2, .inl (cI, 4, .inl (fun _ => 0))), (q3, .inl (cI, 4, .inl (fun _ => 0)))]) := hD
  refine va_putF (D := D) (ci := 2) (v := .ref q3) (ty := .array .int) (C := RX1) (T := TX1) (N := 4) hx hb (lyX1 ht) (fun _ h9 => h9) tyX1 tyX1_ok nmX1 hown hK hP hD hS 0 rfl rfl 2 (by decide) (fl_X1_16 ht) (fun _ h9 => h9) rfl hname rfl (by decide +kernel) rfl rfl (Nat.le_of_ble_eq_true rfl) dX1_init_22 (fun H locs hP hD hS => ?_)
  have hP : va_P D vwCl ([(h0, .inr (2, [.ref q1, .ref q2, .ref q3, .int 0])), (q1, .inl (cI, 4, .inl (fun _ => 0))), (q2, .inl (cI, 4, .inl (fun _ => 0))), (q3, .inl (cI, 4, .inl (fun _ => 0)))]) H := hP
  have hD : va_D A ([(h0, .inr (2, [.ref q1, .ref q2, .ref q3, .int 0])), (q1, .inl (cI, 4, .inl (fun _ => 0))), (q2, .inl (cI, 4, .inl (fun _ => 0))), (q3, .inl (cI, 4, .inl (fun _ => 0)))]) := hD
  refine lv_aload_n hx hb dX1_init_25 rfl (lv_at hl 0 rfl) ?_
  refine lv_iconst (v := 0) hx hb dX1_init_26 (by decide) ?_
  refine va_put (D := D) (ci := 2) (v := .int 0) (ty := .int) (C := RX1) (T := TX1) (N := 4) hx hb (lyX1 ht) (fun _ h9 => h9) tyX1 tyX1_ok nmX1 hown hK hP hD hS 0 rfl rfl 3 (by decide) (fl_X1_19 ht) (fun _ h9 => h9) rfl (by decide +kernel) rfl rfl (Nat.le_of_ble_eq_true rfl) dX1_init_27 (fun H locs hP hD hS => ?_)
  have hP : va_P D vwCl ([(h0, .inr (2, [.ref q1, .ref q2, .ref q3, .int 0])), (q1, .inl (cI, 4, .inl (fun _ => 0))), (q2, .inl (cI, 4, .inl (fun _ => 0))), (q3, .inl (cI, 4, .inl (fun _ => 0)))]) H := hP
  have hD : va_D A ([(h0, .inr (2, [.ref q1, .ref q2, .ref q3, .int 0])), (q1, .inl (cI, 4, .inl (fun _ => 0))), (q2, .inl (cI, 4, .inl (fun _ => 0))), (q3, .inl (cI, 4, .inl (fun _ => 0)))]) := hD
  refine W.widen (k := 3) (n := 12) (Nat.le_of_ble_eq_true rfl) (by omega) ?_
  exact wr_v hx hb hr hlocks hAe hP hD hS dX1_init_30 ⟨rfl, q1, q2, q3, rfl⟩
set_option maxRecDepth 20000 in
set_option maxHeartbeats 4000000 in
theorem k_X2_init (l : Launch) (D : va_G) (cI cJ cZ : ClassId) (h0 : Nat) (v : Int32) (n : Nat) (ev : v = nI n) (hn : n ≤ 24) : WR l yX2_init cX2_init 2 none 1 8 196 D (tysW cI cJ cZ) ([(h0, .inr (3, [.int 0, .int 0, .int 0, .null, .null, .null, .null, .null, .null, .null, .null]))]) [.ref h0, .int v] (fun ov w' => ov = none ∧ ∃ q1 q2 q3 q4 q5 q6 q7 q8 : Nat, w' = [(h0, .inr (3, [.int v, .int 0, .int 0, .ref q1, .ref q2, .ref q3, .ref q4, .ref q5, .ref q6, .ref q7, .ref q8])), (q1, .inl (cI, n, .inl (fun _ => 0))), (q2, .inl (cI, n, .inl (fun _ => 0))), (q3, .inl (cJ, n, .inr (.inl (fun _ => 0)))), (q4, .inl (cJ, n, .inr (.inl (fun _ => 0)))), (q5, .inl (cJ, n + 1, .inr (.inl (fun _ => 0)))), (q6, .inl (cJ, n + 1, .inr (.inl (fun _ => 0)))), (q7, .inl (cJ, n + 1, .inr (.inl (fun _ => 0)))), (q8, .inl (cJ, n + 1, .inr (.inl (fun _ => 0))))]) := by
  refine WR.of (by decide) ?_
  intro p e s m below meth c A hadm hx hb hr hml hown hlocks hname hE hP hK hD hS hA hAe
  have hown : s.vm.findClass RX2 = some m.cls := hown
  have ht : tb_OK s := hE.1
  have hl := lv_entry ([.ref h0, .int v]) (n := 2) (Nat.le_of_ble_eq_true rfl)
  rw [lg_entry_eq]
  generalize (lg_sl ([.ref h0, .int v]) ++ List.replicate (2 - (lg_sl ([.ref h0, .int v])).length) Slot.unset).toArray = ls at hl ⊢
  have hl : lv_has ls 2 [(0, .ref h0), (1, .int v)] := hl
  refine lv_aload_n hx hb dX2_init_0 rfl (lv_at hl 0 rfl) ?_
  refine W.objInit hx hb hown (ml_X2_3 ht) (im_obj ht) (cd_obj ht) rfl (by rw [hml]; exact hl.1) rfl dX2_init_1 (Nat.le_of_ble_eq_true rfl) (Nat.le_of_ble_eq_true rfl) ?_
  refine W.eq (g2 := F0 m 4 ls []) rfl ?_
  refine lv_aload_n hx hb dX2_init_4 rfl (lv_at hl 0 rfl) ?_
  refine lv_iconst (v := 0) hx hb dX2_init_5 (by decide) ?_
  refine va_put (D := D) (ci := 3) (v := .int 0) (ty := .int) (C := RX2) (T := TX2) (N := 11) hx hb (lyX2 ht) (fun _ h9 => h9) tyX2 tyX2_ok nmX2 hown hK hP hD hS 0 rfl rfl 1 (by decide) (fl_X2_9 ht) (fun _ h9 => h9) rfl (by decide +kernel) rfl rfl (Nat.le_of_ble_eq_true rfl) dX2_init_6 (fun H locs hP hD hS => ?_)
  have hP : va_P D vwCl ([(h0, .inr (3, [.int 0, .int 0, .int 0, .null, .null, .null, .null, .null, .null, .null, .null]))]) H := hP
  have hD : va_D A ([(h0, .inr (3, [.int 0, .int 0, .int 0, .null, .null, .null, .null, .null, .null, .null, .null]))]) := hD
  refine lv_aload_n hx hb dX2_init_9 rfl (lv_at hl 0 rfl) ?_
  refine lv_iconst (v := 0) hx hb dX2_init_10 (by decide) ?_
  refine va_put (D := D) (ci := 3) (v := .int 0) (ty := .int) (C := RX2) (T := TX2) (N := 11) hx hb (lyX2 ht) (fun _ h9 => h9) tyX2 tyX2_ok nmX2 hown hK hP hD hS 0 rfl rfl 2 (by decide) (fl_X2_15 ht) (fun _ h9 => h9) rfl (by decide +kernel) rfl rfl (Nat.le_of_ble_eq_true rfl) dX2_init_11 (fun H locs hP hD hS => ?_)
  have hP : va_P D vwCl ([(h0, .inr (3, [.int 0, .int 0, .int 0, .null, .null, .null, .null, .null, .null, .null, .null]))]) H := hP
  have hD : va_D A ([(h0, .inr (3, [.int 0, .int 0, .int 0, .null, .null, .null, .null, .null, .null, .null, .null]))]) := hD
  refine lv_aload_n hx hb dX2_init_14 rfl (lv_at hl 0 rfl) ?_
  refine lv_iload_n hx hb dX2_init_15 rfl (lv_at hl 1 rfl) ?_
  refine va_putF (D := D) (ci := 3) (v := .int v) (ty := .int) (C := RX2) (T := TX2) (N := 11) hx hb (lyX2 ht) (fun _ h9 => h9) tyX2 tyX2_ok nmX2 hown hK hP hD hS 0 rfl rfl 0 (by decide) (fl_X2_18 ht) (fun _ h9 => h9) rfl hname rfl (by decide +kernel) rfl rfl (Nat.le_of_ble_eq_true rfl) dX2_init_16 (fun H locs hP hD hS => ?_)
  have hP : va_P D vwCl ([(h0, .inr (3, [.int v, .int 0, .int 0, .null, .null, .null, .null, .null, .null, .null, .null]))]) H := hP
  have hD : va_D A ([(h0, .inr (3, [.int v, .int 0, .int 0, .null, .null, .null, .null, .null, .null, .null, .null]))]) := hD
  refine lv_aload_n hx hb dX2_init_19 rfl (lv_at hl 0 rfl) ?_
  refine lv_iload_n hx hb dX2_init_20 rfl (lv_at hl 1 rfl) ?_
  refine nw_i hx hb ht hK hP hD hS hA (N' := n) (by rw [ev]; exact nI_pos (by omega)) (cl_of ev (by omega)) (by omega) (Nat.le_of_ble_eq_true rfl) (by show _ ≤ 196; omega) dX2_init_21 (fun q1 H hP hD hS => ?_)
  have hP : va_P D vwCl ([(h0, .inr (3, [.int v, .int 0, .int 0, .null, .null, .null, .null, .null, .null, .null, .null])), (q1, .inl (cI, n, .inl (fun _ => 0)))]) H := hP
  have hD : va_D A ([(h0, .inr (3, [.int v, .int 0, .int 0, .null, .null, .null, .null, .null, .null, .null, .null])), (q1, .inl (cI, n, .inl (fun _ => 0)))]) := hD
  refine va_putF (D := D) (ci := 3) (v := .ref q1) (ty := .array .int) (C := RX2) (T := TX2) (N := 11) hx hb (lyX2 ht) (fun _ h9 => h9) tyX2 tyX2_ok nmX2 hown hK hP hD hS 0 rfl rfl 3 (by decide) (fl_X2_21 ht) (fun _ h9 => h9) rfl hname rfl (by decide +kernel) rfl rfl (Nat.le_of_ble_eq_true rfl) dX2_init_23 (fun H locs hP hD hS => ?_)
  have hP : va_P D vwCl ([(h0, .inr (3, [.int v, .int 0, .int 0, .ref q1, .null, .null, .null, .null, .null, .null, .null])), (q1, .inl (cI, n, .inl (fun _ => 0)))]) H := hP
  have hD : va_D A ([(h0, .inr (3, [.int v, .int 0, .int 0, .ref q1, .null, .null, .null, .null, .null, .null, .null])), (q1, .inl (cI, n, .inl (fun _ => 0)))]) := hD
  refine lv_aload_n hx hb dX2_init_26 rfl (lv_at hl 0 rfl) ?_
  refine lv_iload_n hx hb dX2_init_27 rfl (lv_at hl 1 rfl) ?_
  refine nw_i hx hb ht hK hP hD hS hA (N' := n) (by rw [ev]; exact nI_pos (by omega)) (cl_of ev (by omega)) (by omega) (Nat.le_of_ble_eq_true rfl) (by show _ ≤ 196; omega) dX2_init_28 (fun q2 H hP hD hS => ?_)
  have hP : va_P D vwCl ([(h0, .inr (3, [.int v, .int 0, .int 0, .ref q1, .null, .null, .null, .null, .null, .null, .null])), (q1, .inl (cI, n, .inl (fun _ => 0))), (q2, .inl (cI, n, .inl (fun _ => 0)))]) H := hP
  have hD : va_D A ([(h0, .inr (3, [.int v, .int 0, .int 0, .ref q1, .null, .null, .null, .null, .null, .null, .null])), (q1, .inl (cI, n, .inl (fun _ => 0))), (q2, .inl (cI, n, .inl (fun _ => 0)))]) := hD
  refine va_putF (D := D) (ci := 3) (v := .ref q2) (ty := .array .int) (C := RX2) (T := TX2) (N := 11) hx hb (lyX2 ht) (fun _ h9 => h9) tyX2 tyX2_ok nmX2 hown hK hP hD hS 0 rfl rfl 4 (by decide) (fl_X2_25 ht) (fun _ h9 => h9) rfl hname rfl (by decide +kernel) rfl rfl (Nat.le_of_ble_eq_true rfl) dX2_init_30 (fun H locs hP hD hS => ?_)
  have hP : va_P D vwCl ([(h0, .inr (3, [.int v, .int 0, .int 0, .ref q1, .ref q2, .null, .null, .null, .null, .null, .null])), (q1, .inl (cI, n, .inl (fun _ => 0))), (q2, .inl (cI, n, .inl (fun _ => 0)))]) H := hP
  have hD : va_D A ([(h0, .inr (3, [.int v, .int 0, .int 0, .ref q1, .ref q2, .null, .null, .null, .null, .null, .null])), (q1, .inl (cI, n, .inl (fun _ => 0))), (q2, .inl (cI, n, .inl (fun _ => 0)))]) := hD
  refine lv_aload_n hx hb dX2_init_33 rfl (lv_at hl 0 rfl) ?_
  refine lv_iload_n hx hb dX2_init_34 rfl (lv_at hl 1 rfl) ?_
  refine nw_l hx hb ht hK hP hD hS hA (N' := n) (by rw [ev]; exact nI_pos (by omega)) (cl_of ev (by omega)) (by omega) (Nat.le_of_ble_eq_true rfl) (by show _ ≤ 196; omega) dX2_init_35 (fun q3 H hP hD hS => ?_)
  have hP : va_P D vwCl ([(h0, .inr (3, [.int v, .int 0, .int 0, .ref q1, .ref q2, .null, .null, .null, .null, .null, .null])), (q1, .inl (cI, n, .inl (fun _ => 0))), (q2, .inl (cI, n, .inl (fun _ => 0))), (q3, .inl (cJ, n, .inr (.inl (fun _ => 0))))]) H := hP
  have hD : va_D A ([(h0, .inr (3, [.int v, .int 0, .int 0, .ref q1, .ref q2, .null, .null, .null, .null, .null, .null])), (q1, .inl (cI, n, .inl (fun _ => 0))), (q2, .inl (cI, n, .inl (fun _ => 0))), (q3, .inl (cJ, n, .inr (.inl (fun _ => 0))))]) := hD
  refine va_putF (D := D) (ci := 3) (v := .ref q3) (ty := .array .long) (C := RX2) (T := TX2) (N := 11) hx hb (lyX2 ht) (fun _ h9 => h9) tyX2 tyX2_ok nmX2 hown hK hP hD hS 0 rfl rfl 5 (by decide) (fl_X2_28 ht) (fun _ h9 => h9) rfl hname rfl (by decide +kernel) rfl rfl (Nat.le_of_ble_eq_true rfl) dX2_init_37 (fun H locs hP hD hS => ?_)
  have hP : va_P D vwCl ([(h0, .inr (3, [.int v, .int 0, .int 0, .ref q1, .ref q2, .ref q3, .null, .null, .null, .null, .null])), (q1, .inl (cI, n, .inl (fun _ => 0))), (q2, .inl (cI, n, .inl (fun _ => 0))), (q3, .inl (cJ, n, .inr (.inl (fun _ => 0))))]) H := hP
  have hD : va_D A ([(h0, .inr (3, [.int v, .int 0, .int 0, .ref q1, .ref q2, .ref q3, .null, .null, .null, .null, .null])), (q1, .inl (cI, n, .inl (fun _ => 0))), (q2, .inl (cI, n, .inl (fun _ => 0))), (q3, .inl (cJ, n, .inr (.inl (fun _ => 0))))]) := hD
  refine lv_aload_n hx hb dX2_init_40 rfl (lv_at hl 0 rfl) ?_
  refine lv_iload_n hx hb dX2_init_41 rfl (lv_at hl 1 rfl) ?_
  refine nw_l hx hb ht hK hP hD hS hA (N' := n) (by rw [ev]; exact nI_pos (by omega)) (cl_of ev (by omega)) (by omega) (Nat.le_of_ble_eq_true rfl) (by show _ ≤ 196; omega) dX2_init_42 (fun q4 H hP hD hS => ?_)
  have hP : va_P D vwCl ([(h0, .inr (3, [.int v, .int 0, .int 0, .ref q1, .ref q2, .ref q3, .null, .null, .null, .null, .null])), (q1, .inl (cI, n, .inl (fun _ => 0))), (q2, .inl (cI, n, .inl (fun _ => 0))), (q3, .inl (cJ, n, .inr (.inl (fun _ => 0)))), (q4, .inl (cJ, n, .inr (.inl (fun _ => 0))))]) H := hP
  have hD : va_D A ([(h0, .inr (3, [.int v, .int 0, .int 0, .ref q1, .ref q2, .ref q3, .null, .null, .null, .null, .null])), (q1, .inl (cI, n, .inl (fun _ => 0))), (q2, .inl (cI, n, .inl (fun _ => 0))), (q3, .inl (cJ, n, .inr (.inl (fun _ => 0)))), (q4, .inl (cJ, n, .inr (.inl (fun _ => 0))))]) := hD
  refine va_putF (D := D) (ci := 3) (v := .ref q4) (ty := .array .long) (C := RX2) (T := TX2) (N := 11) hx hb (lyX2 ht) (fun _ h9 => h9) tyX2 tyX2_ok nmX2 hown hK hP hD hS 0 rfl rfl 6 (by decide) (fl_X2_32 ht) (fun _ h9 => h9) rfl hname rfl (by decide +kernel) rfl rfl (Nat.le_of_ble_eq_true rfl) dX2_init_44 (fun H locs hP hD hS => ?_)
  have hP : va_P D vwCl ([(h0, .inr (3, [.int v, .int 0, .int 0, .ref q1, .ref q2, .ref q3, .ref q4, .null, .null, .null, .null])), (q1, .inl (cI, n, .inl (fun _ => 0))), (q2, .inl (cI, n, .inl (fun _ => 0))), (q3, .inl (cJ, n, .inr (.inl (fun _ => 0)))), (q4, .inl (cJ, n, .inr (.inl (fun _ => 0))))]) H := hP
  have hD : va_D A ([(h0, .inr (3, [.int v, .int 0, .int 0, .ref q1, .ref q2, .ref q3, .ref q4, .null, .null, .null, .null])), (q1, .inl (cI, n, .inl (fun _ => 0))), (q2, .inl (cI, n, .inl (fun _ => 0))), (q3, .inl (cJ, n, .inr (.inl (fun _ => 0)))), (q4, .inl (cJ, n, .inr (.inl (fun _ => 0))))]) := hD
  refine lv_aload_n hx hb dX2_init_47 rfl (lv_at hl 0 rfl) ?_
  refine lv_iload_n hx hb dX2_init_48 rfl (lv_at hl 1 rfl) ?_
  refine lv_iconst (v := 1) hx hb dX2_init_49 (by decide) ?_
  refine lv_iadd hx hb dX2_init_50 ?_
  refine nw_l hx hb ht hK hP hD hS hA (N' := n + 1) (by rw [nI_s ev]; exact nI_pos (by omega)) (cl_of (nI_s ev) (by omega)) (by omega) (Nat.le_of_ble_eq_true rfl) (by show _ ≤ 196; omega) dX2_init_51 (fun q5 H hP hD hS => ?_)
  have hP : va_P D vwCl ([(h0, .inr (3, [.int v, .int 0, .int 0, .ref q1, .ref q2, .ref q3, .ref q4, .null, .null, .null, .null])), (q1, .inl (cI, n, .inl (fun _ => 0))), (q2, .inl (cI, n, .inl (fun _ => 0))), (q3, .inl (cJ, n, .inr (.inl (fun _ => 0)))), (q4, .inl (cJ, n, .inr (.inl (fun _ => 0)))), (q5, .inl (cJ, n + 1, .inr (.inl (fun _ => 0))))]) H := hP
  have hD : va_D A ([(h0, .inr (3, [.int v, .int 0, .int 0, .ref q1, .ref q2, .ref q3, .ref q4, .null, .null, .null, .null])), (q1, .inl (cI, n, .inl (fun _ => 0))), (q2, .inl (cI, n, .inl (fun _ => 0))), (q3, .inl (cJ, n, .inr (.inl (fun _ => 0)))), (q4, .inl (cJ, n, .inr (.inl (fun _ => 0)))), (q5, .inl (cJ, n + 1, .inr (.inl (fun _ => 0))))]) := hD
  refine va_putF (D := D) (ci := 3) (v := .ref q5) (ty := .array .long) (C := RX2) (T := TX2) (N := 11) hx hb (lyX2 ht) (fun _ h9 => h9) tyX2 tyX2_ok nmX2 hown hK hP hD hS 0 rfl rfl 7 (by decide) (fl_X2_35 ht) (fun _ h9 => h9) rfl hname rfl (by decide +kernel) rfl rfl (Nat.le_of_ble_eq_true rfl) dX2_init_53 (fun H locs hP hD hS => ?_)
  have hP : va_P D vwCl ([(h0, .inr (3, [.int v, .int 0, .int 0, .ref q1, .ref q2, .ref q3, .ref q4, .ref q5, .null, .null, .null])), (q1, .inl (cI, n, .inl (fun _ => 0))), (q2, .inl (cI, n, .inl (fun _ => 0))), (q3, .inl (cJ, n, .inr (.inl (fun _ => 0)))), (q4, .inl (cJ, n, .inr (.inl (fun _ => 0)))), (q5, .inl (cJ, n + 1, .inr (.inl (fun _ => 0))))]) H := hP
  have hD : va_D A ([(h0, .inr (3, [.int v, .int 0, .int 0, .ref q1, .ref q2, .ref q3, .ref q4, .ref q5, .null, .null, .null])), (q1, .inl (cI, n, .inl (fun _ => 0))), (q2, .inl (cI, n, .inl (fun _ => 0))), (q3, .inl (cJ, n, .inr (.inl (fun _ => 0)))), (q4, .inl (cJ, n, .inr (.inl (fun _ => 0)))), (q5, .inl (cJ, n + 1, .inr (.inl (fun _ => 0))))]) := hD
  refine lv_aload_n hx hb dX2_init_56 rfl (lv_at hl 0 rfl) ?_
  refine lv_iload_n hx hb dX2_init_57 rfl (lv_at hl 1 rfl) ?_
  refine lv_iconst (v := 1) hx hb dX2_init_58 (by decide) ?_
  refine lv_iadd hx hb dX2_init_59 ?_
  refine nw_l hx hb ht hK hP hD hS hA (N' := n + 1) (by rw [nI_s ev]; exact nI_pos (by omega)) (cl_of (nI_s ev) (by omega)) (by omega) (Nat.le_of_ble_eq_true rfl) (by show _ ≤ 196; omega) dX2_init_60 (fun q6 H hP hD hS => ?_)
  have hP : va_P D vwCl ([(h0, .inr (3, [.int v, .int 0, .int 0, .ref q1, .ref q2, .ref q3, .ref q4, .ref q5, .null, .null, .null])), (q1, .inl (cI, n, .inl (fun _ => 0))), (q2, .inl (cI, n, .inl (fun _ => 0))), (q3, .inl (cJ, n, .inr (.inl (fun _ => 0)))), (q4, .inl (cJ, n, .inr (.inl (fun _ => 0)))), (q5, .inl (cJ, n + 1, .inr (.inl (fun _ => 0)))), (q6, .inl (cJ, n + 1, .inr (.inl (fun _ => 0))))]) H := hP
  have hD : va_D A ([(h0, .inr (3, [.int v, .int 0, .int 0, .ref q1, .ref q2, .ref q3, .ref q4, .ref q5, .null, .null, .null])), (q1, .inl (cI, n, .inl (fun _ => 0))), (q2, .inl (cI, n, .inl (fun _ => 0))), (q3, .inl (cJ, n, .inr (.inl (fun _ => 0)))), (q4, .inl (cJ, n, .inr (.inl (fun _ => 0)))), (q5, .inl (cJ, n + 1, .inr (.inl (fun _ => 0)))), (q6, .inl (cJ, n + 1, .inr (.inl (fun _ => 0))))]) := hD
  refine va_putF (D := D) (ci := 3) (v := .ref q6) (ty := .array .long) (C := RX2) (T := TX2) (N := 11) hx hb (lyX2 ht) (fun _ h9 => h9) tyX2 tyX2_ok nmX2 hown hK hP hD hS 0 rfl rfl 8 (by decide) (fl_X2_38 ht) (fun _ h9 => h9) rfl hname rfl (by decide +kernel) rfl rfl (Nat.le_of_ble_eq_true rfl) dX2_init_62 (fun H locs hP hD hS => ?_)
  have hP : va_P D vwCl ([(h0, .inr (3, [.int v, .int 0, .int 0, .ref q1, .ref q2, .ref q3, .ref q4, .ref q5, .ref q6, .null, .null])), (q1, .inl (cI, n, .inl (fun _ => 0))), (q2, .inl (cI, n, .inl (fun _ => 0))), (q3, .inl (cJ, n, .inr (.inl (fun _ => 0)))), (q4, .inl (cJ, n, .inr (.inl (fun _ => 0)))), (q5, .inl (cJ, n + 1, .inr (.inl (fun _ => 0)))), (q6, .inl (cJ, n + 1, .inr (.inl (fun _ => 0))))]) H := hP
  have hD : va_D A ([(h0, .inr (3, [.int v, .int 0, .int 0, .ref q1, .ref q2, .ref q3, .ref q4, .ref q5, .ref q6, .null, .null])), (q1, .inl (cI, n, .inl (fun _ => 0))), (q2, .inl (cI, n, .inl (fun _ => 0))), (q3, .inl (cJ, n, .inr (.inl (fun _ => 0)))), (q4, .inl (cJ, n, .inr (.inl (fun _ => 0)))), (q5, .inl (cJ, n + 1, .inr (.inl (fun _ => 0)))), (q6, .inl (cJ, n + 1, .inr (.inl (fun _ => 0))))]) := hD
  refine lv_aload_n hx hb dX2_init_65 rfl (lv_at hl 0 rfl) ?_
  refine lv_iload_n hx hb dX2_init_66 rfl (lv_at hl 1 rfl) ?_
  refine lv_iconst (v := 1) hx hb dX2_init_67 (by decide) ?_
  refine lv_iadd hx hb dX2_init_68 ?_
  refine nw_l hx hb ht hK hP hD hS hA (N' := n + 1) (by rw [nI_s ev]; exact nI_pos (by omega)) (cl_of (nI_s ev) (by omega)) (by omega) (Nat.le_of_ble_eq_true rfl) (by show _ ≤ 196; omega) dX2_init_69 (fun q7 H hP hD hS => ?_)
  have hP : va_P D vwCl ([(h0, .inr (3, [.int v, .int 0, .int 0, .ref q1, .ref q2, .ref q3, .ref q4, .ref q5, .ref q6, .null, .null])), (q1, .inl (cI, n, .inl (fun _ => 0))), (q2, .inl (cI, n, .inl (fun _ => 0))), (q3, .inl (cJ, n, .inr (.inl (fun _ => 0)))), (q4, .inl (cJ, n, .inr (.inl (fun _ => 0)))), (q5, .inl (cJ, n + 1, .inr (.inl (fun _ => 0)))), (q6, .inl (cJ, n + 1, .inr (.inl (fun _ => 0)))), (q7, .inl (cJ, n + 1, .inr (.inl (fun _ => 0))))]) H := hP
  have hD : va_D A ([(h0, .inr (3, [.int v, .int 0, .int 0, .ref q1, .ref q2, .ref q3, .ref q4, .ref q5, .ref q6, .null, .null])), (q1, .inl (cI, n, .inl (fun _ => 0))), (q2, .inl (cI, n, .inl (fun _ => 0))), (q3, .inl (cJ, n, .inr (.inl (fun _ => 0)))), (q4, .inl (cJ, n, .inr (.inl (fun _ => 0)))), (q5, .inl (cJ, n + 1, .inr (.inl (fun _ => 0)))), (q6, .inl (cJ, n + 1, .inr (.inl (fun _ => 0)))), (q7, .inl (cJ, n + 1, .inr (.inl (fun _ => 0))))]) := hD
  refine va_putF (D := D) (ci := 3) (v := .ref q7) (ty := .array .long) (C := RX2) (T := TX2) (N := 11) hx hb (lyX2 ht) (fun _ h9 => h9) tyX2 tyX2_ok nmX2 hown hK hP hD hS 0 rfl rfl 9 (by decide) (fl_X2_41 ht) (fun _ h9 => h9) rfl hname rfl (by decide +kernel) rfl rfl (Nat.le_of_ble_eq_true rfl) dX2_init_71 (fun H locs hP hD hS => ?_)
  have hP : va_P D vwCl ([(h0, .inr (3, [.int v, .int 0, .int 0, .ref q1, .ref q2, .ref q3, .ref q4, .ref q5, .ref q6, .ref q7, .null])), (q1, .inl (cI, n, .inl (fun _ => 0))), (q2, .inl (cI, n, .inl (fun _ => 0))), (q3, .inl (cJ, n, .inr (.inl (fun _ => 0)))), (q4, .inl (cJ, n, .inr (.inl (fun _ => 0)))), (q5, .inl (cJ, n + 1, .inr (.inl (fun _ => 0)))), (q6, .inl (cJ, n + 1, .inr (.inl (fun _ => 0)))), (q7, .inl (cJ, n + 1, .inr (.inl (fun _ => 0))))]) H := hP
  have hD : va_D A ([(h0, .inr (3, [.int v, .int 0, .int 0, .ref q1, .ref q2, .ref q3, .ref q4, .ref q5, .ref q6, .ref q7, .null])), (q1, .inl (cI, n, .inl (fun _ => 0))), (q2, .inl (cI, n, .inl (fun _ => 0))), (q3, .inl (cJ, n, .inr (.inl (fun _ => 0)))), (q4, .inl (cJ, n, .inr (.inl (fun _ => 0)))), (q5, .inl (cJ, n + 1, .inr (.inl (fun _ => 0)))), (q6, .inl (cJ, n + 1, .inr (.inl (fun _ => 0)))), (q7, .inl (cJ, n + 1, .inr (.inl (fun _ => 0))))]) := hD
  refine lv_aload_n hx hb dX2_init_74 rfl (lv_at hl 0 rfl) ?_
  refine lv_iload_n hx hb dX2_init_75 rfl (lv_at hl 1 rfl) ?_
  refine lv_iconst (v := 1) hx hb dX2_init_76 (by decide) ?_
  refine lv_iadd hx hb dX2_init_77 ?_
  refine nw_l hx hb ht hK hP hD hS hA (N' := n + 1) (by rw [nI_s ev]; exact nI_pos (by omega)) (cl_of (nI_s ev) (by omega)) (by omega) (Nat.le_of_ble_eq_true rfl) (by show _ ≤ 196; omega) dX2_init_78 (fun q8 H hP hD hS => ?_)
  have hP : va_P D vwCl ([(h0, .inr (3, [.int v, .int 0, .int 0, .ref q1, .ref q2, .ref q3, .ref q4, .ref q5, .ref q6, .ref q7, .null])), (q1, .inl (cI, n, .inl (fun _ => 0))), (q2, .inl (cI, n, .inl (fun _ => 0))), (q3, .inl (cJ, n, .inr (.inl (fun _ => 0)))), (q4, .inl (cJ, n, .inr (.inl (fun _ => 0)))), (q5, .inl (cJ, n + 1, .inr (.inl (fun _ => 0)))), (q6, .inl (cJ, n + 1, .inr (.inl (fun _ => 0)))), (q7, .inl (cJ, n + 1, .inr (.inl (fun _ => 0)))), (q8, .inl (cJ, n + 1, .inr (.inl (fun _ => 0))))]) H := hP
  have hD : va_D A ([(h0, .inr (3, [.int v, .int 0, .int 0, .ref q1, .ref q2, .ref q3, .ref q4, .ref q5, .ref q6, .ref q7, .null])), (q1, .inl (cI, n, .inl (fun _ => 0))), (q2, .inl (cI, n, .inl (fun _ => 0))), (q3, .inl (cJ, n, .inr (.inl (fun _ => 0)))), (q4, .inl (cJ, n, .inr (.inl (fun _ => 0)))), (q5, .inl (cJ, n + 1, .inr (.inl (fun _ => 0)))), (q6, .inl (cJ, n + 1, .inr (.inl (fun _ => 0)))), (q7, .inl (cJ, n + 1, .inr (.inl (fun _ => 0)))), (q8, .inl (cJ, n + 1, .inr (.inl (fun _ => 0))))]) := hD
  refine va_putF (D := D) (ci := 3) (v := .ref q8) (ty := .array .long) (C := RX2) (T := TX2) (N := 11) hx hb (lyX2 ht) (fun _ h9 => h9) tyX2 tyX2_ok nmX2 hown hK hP hD hS 0 rfl rfl 10 (by decide) (fl_X2_44 ht) (fun _ h9 => h9) rfl hname rfl (by decide +kernel) rfl rfl (Nat.le_of_ble_eq_true rfl) dX2_init_80 (fun H locs hP hD hS => ?_)
  have hP : va_P D vwCl ([(h0, .inr (3, [.int v, .int 0, .int 0, .ref q1, .ref q2, .ref q3, .ref q4, .ref q5, .ref q6, .ref q7, .ref q8])), (q1, .inl (cI, n, .inl (fun _ => 0))), (q2, .inl (cI, n, .inl (fun _ => 0))), (q3, .inl (cJ, n, .inr (.inl (fun _ => 0)))), (q4, .inl (cJ, n, .inr (.inl (fun _ => 0)))), (q5, .inl (cJ, n + 1, .inr (.inl (fun _ => 0)))), (q6, .inl (cJ, n + 1, .inr (.inl (fun _ => 0)))), (q7, .inl (cJ, n + 1, .inr (.inl (fun _ => 0)))), (q8, .inl (cJ, n + 1, .inr (.inl (fun _ => 0))))]) H := hP
  have hD : va_D A ([(h0, .inr (3, [.int v, .int 0, .int 0, .ref q1, .ref q2, .ref q3, .ref q4, .ref q5, .ref q6, .ref q7, .ref q8])), (q1, .inl (cI, n, .inl (fun _ => 0))), (q2, .inl (cI, n, .inl (fun _ => 0))), (q3, .inl (cJ, n, .inr (.inl (fun _ => 0)))), (q4, .inl (cJ, n, .inr (.inl (fun _ => 0)))), (q5, .inl (cJ, n + 1, .inr (.inl (fun _ => 0)))), (q6, .inl (cJ, n + 1, .inr (.inl (fun _ => 0)))), (q7, .inl (cJ, n + 1, .inr (.inl (fun _ => 0)))), (q8, .inl (cJ, n + 1, .inr (.inl (fun _ => 0))))]) := hD
  refine W.widen (k := 8) (n := 196) (Nat.le_of_ble_eq_true rfl) (by omega) ?_
  exact wr_v hx hb hr hlocks hAe hP hD hS dX2_init_83 ⟨rfl, q1, q2, q3, q4, q5, q6, q7, q8, rfl⟩
