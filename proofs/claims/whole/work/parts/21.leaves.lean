def f_X0_permit (k : Int32) (z : Int32) (fb : Nat → Int32) : Int32 := if (f_X0_isPosition k) = 0 then 0 else (if (fb k.toNatClampNeg) = 0 then (if z = 1 then 0 else (if z = 0 then 1 else 1)) else (if z = 0 then 0 else 1))
def f_X0_permit_pm (k : Int32) (z : Int32) (pm : Int32) (fb : Nat → Int32) : Int32 := if (f_X0_isPosition k) = 0 then pm else (if (fb k.toNatClampNeg) = 0 then (if z = 1 then pm else (if z = 0 then (pm + (-1)) else (pm + 1))) else (if z = 0 then pm else (pm + 1)))
def f_X0_permit_fb (k : Int32) (z : Int32) (fb : Nat → Int32) : Nat → Int32 := if (f_X0_isPosition k) = 0 then fb else (if (fb k.toNatClampNeg) = 0 then (if z = 1 then fb else (if z = 0 then (upd fb k.toNatClampNeg (vp_nar .boolean 1)) else (upd fb k.toNatClampNeg (vp_nar .boolean 0)))) else (if z = 0 then fb else (upd fb k.toNatClampNeg (vp_nar .boolean 0))))
set_option maxRecDepth 20000 in
set_option maxHeartbeats 4000000 in
theorem k_X0_permit (l : Launch) (D : va_G) (cI cJ cZ : ClassId) (a : Nat → Nat) (n : Nat) (ah pl ck ct nk pm ja rg bu pn : Int32) (tp st us fb kA tA : Nat → Int32) (lx ly gx gy gu gv : Nat → Int64) (k : Int32) (z : Int32) (hk : ¬ f_X0_isPosition k = 0 → vp_in k 16) : WR l yX0_permit cX0_permit 4 (some .boolean) 1 0 0 D (tysW cI cJ cZ) (wI cI cJ cZ a n ah pl ck ct nk pm ja rg bu pn tp st us fb kA tA lx ly gx gy gu gv) [.ref (a 5), .int k, .int z] (fun ov w' => ov = some (.int (f_X0_permit k z fb)) ∧ w' = wI cI cJ cZ a n ah pl ck ct nk (f_X0_permit_pm k z pm fb) ja rg bu pn tp st us (f_X0_permit_fb k z fb) kA tA lx ly gx gy gu gv) := by
  refine WR.of (by decide) ?_
  intro p e s m below meth c A hadm hx hb hr hml hown hlocks hname hE hP hK hD hS hA hAe
  have hown : s.vm.findClass RX0 = some m.cls := hown
  have ht : tb_OK s := hE.1
  have hl := lv_entry ([.ref (a 5), .int k, .int z]) (n := 4) (Nat.le_of_ble_eq_true rfl)
  rw [lg_entry_eq]
  generalize (lg_sl ([.ref (a 5), .int k, .int z]) ++ List.replicate (4 - (lg_sl ([.ref (a 5), .int k, .int z])).length) Slot.unset).toArray = ls at hl ⊢
  have hl : lv_has ls 4 [(0, .ref (a 5)), (1, .int k), (2, .int z)] := hl
  refine lv_iload_n hx hb dX0_permit_0 rfl (lv_at hl 1 rfl) ?_
  refine rdS (As := [.int k]) (rest := []) (st1 := [.int (f_X0_isPosition k)]) (k_X0_isPosition l D (tysW cI cJ cZ) k) (si_X0_26 ht ⟨Nat.le_of_ble_eq_true rfl, Nat.le_of_ble_eq_true rfl⟩) hx hb hml hown (hE.since hS) pNil hK rfl hl.1 rfl (Nat.le_of_ble_eq_true rfl) ⟨Nat.zero_le _, Nat.zero_le _⟩ dX0_permit_1 rfl ?_
  refine lv_if_ne (tgt := 9) hx hb dX0_permit_4 (by decide) (fun c_1 => ?_) (fun c_1 => ?_)
  · skip
    refine lv_aload_n hx hb dX0_permit_9 rfl (lv_at hl 0 rfl) ?_
    refine va_get (D := D) (ci := 1) (v := .ref (a 6)) (C := RX0) (T := TX0) (N := 3) hx hb (lyX0 ht) (fun _ h9 => h9) hown hK hP 5 rfl rfl 0 (by decide) (fl_X0_11 ht) (fun _ h9 => h9) rfl dX0_permit_10 ?_
    refine lv_iload_n hx hb dX0_permit_13 rfl (lv_at hl 1 rfl) ?_
    refine va_zald hx hb hK hP 6 2 rfl rfl (hk c_1) dX0_permit_14 ?_
    refine lv_if_ne (tgt := 22) hx hb dX0_permit_15 (by decide) (fun c_2 => ?_) (fun c_2 => ?_)
    · skip
      refine lv_iconst (v := 0) hx hb dX0_permit_22 (by decide) ?_
      refine lv_istore_n (lv' := [(3, .int 0), (0, .ref (a 5)), (1, .int k), (2, .int z)]) hx hb dX0_permit_23 rfl hl (by decide) rfl (fun ls hl => ?_)
      refine lv_iload_n hx hb dX0_permit_24 rfl (lv_at hl 3 rfl) ?_
      refine lv_iload_n hx hb dX0_permit_25 rfl (lv_at hl 0 rfl) ?_
      refine lv_icmp_ne (tgt := 31) hx hb dX0_permit_26 (by decide) (fun c_3 => ?_) (fun c_3 => ?_)
      · skip
        refine lv_aload_n hx hb dX0_permit_31 rfl (lv_at hl 1 rfl) ?_
        refine va_get (D := D) (ci := 1) (v := .ref (a 6)) (C := RX0) (T := TX0) (N := 3) hx hb (lyX0 ht) (fun _ h9 => h9) hown hK hP 5 rfl rfl 0 (by decide) (fl_X0_11 ht) (fun _ h9 => h9) rfl dX0_permit_32 ?_
        refine lv_iload_n hx hb dX0_permit_35 rfl (lv_at hl 2 rfl) ?_
        refine lv_iload_n hx hb dX0_permit_36 rfl (lv_at hl 3 rfl) ?_
        refine lv_if_ne (tgt := 44) hx hb dX0_permit_37 (by decide) (fun _ => ?_) (fun c_4 => absurd c_4 c_3)
        refine lv_iconst (v := 0) hx hb dX0_permit_44 (by decide) ?_
        refine va_zast hx hb hK hP hD hS 6 2 rfl rfl (hk c_1) dX0_permit_45 (fun H locs hP hD hS => ?_)
        have hP : va_P D vwCl (wI cI cJ cZ a n ah pl ck ct nk pm ja rg bu pn tp st us (upd fb k.toNatClampNeg (vp_nar .boolean 0)) kA tA lx ly gx gy gu gv) H := hP
        have hD : va_D A (wI cI cJ cZ a n ah pl ck ct nk pm ja rg bu pn tp st us (upd fb k.toNatClampNeg (vp_nar .boolean 0)) kA tA lx ly gx gy gu gv) := hD
        refine lv_aload_n hx hb dX0_permit_46 rfl (lv_at hl 1 rfl) ?_
        refine lv_dup hx hb dX0_permit_47 rfl ?_
        refine va_get (D := D) (ci := 1) (v := .int pm) (C := RX0) (T := TX0) (N := 3) hx hb (lyX0 ht) (fun _ h9 => h9) hown hK hP 5 rfl rfl 1 (by decide) (fl_X0_15 ht) (fun _ h9 => h9) rfl dX0_permit_48 ?_
        refine lv_iload_n hx hb dX0_permit_51 rfl (lv_at hl 3 rfl) ?_
        refine lv_if_eq (tgt := 59) hx hb dX0_permit_52 (by decide) (fun c_5 => absurd c_5 c_3) (fun _ => ?_)
        refine lv_iconst (v := 1) hx hb dX0_permit_55 (by decide) ?_
        refine lv_goto (tgt := 60) hx hb dX0_permit_56 (by decide) ?_
        refine lv_iadd hx hb dX0_permit_60 ?_
        refine va_put (D := D) (ci := 1) (v := .int (pm + 1)) (ty := .int) (C := RX0) (T := TX0) (N := 3) hx hb (lyX0 ht) (fun _ h9 => h9) tyX0 tyX0_ok nmX0 hown hK hP hD hS 5 rfl rfl 1 (by decide) (fl_X0_15 ht) (fun _ h9 => h9) rfl (by decide +kernel) rfl rfl (Nat.le_of_ble_eq_true rfl) dX0_permit_61 (fun H locs hP hD hS => ?_)
        have hP : va_P D vwCl (wI cI cJ cZ a n ah pl ck ct nk (pm + 1) ja rg bu pn tp st us (upd fb k.toNatClampNeg (vp_nar .boolean 0)) kA tA lx ly gx gy gu gv) H := hP
        have hD : va_D A (wI cI cJ cZ a n ah pl ck ct nk (pm + 1) ja rg bu pn tp st us (upd fb k.toNatClampNeg (vp_nar .boolean 0)) kA tA lx ly gx gy gu gv) := hD
        refine lv_iconst (v := 1) hx hb dX0_permit_64 (by decide) ?_
        exact wr_z hx hb hr hlocks hAe hP hD hS dX0_permit_65 rfl (⟨by unfold f_X0_permit; rw [if_neg c_1, if_neg c_2, if_neg c_3], by simp only [f_X0_permit_pm, f_X0_permit_fb, if_neg c_1, if_neg c_2, if_neg c_3]⟩)
      · skip
        refine lv_iconst (v := 0) hx hb dX0_permit_29 (by decide) ?_
        exact wr_z hx hb hr hlocks hAe hP hD hS dX0_permit_30 rfl (⟨by unfold f_X0_permit; rw [if_neg c_1, if_neg c_2, if_pos c_3], by simp only [f_X0_permit_pm, f_X0_permit_fb, if_neg c_1, if_neg c_2, if_pos c_3]⟩)
    · skip
      refine lv_iconst (v := 1) hx hb dX0_permit_18 (by decide) ?_
      refine lv_goto (tgt := 23) hx hb dX0_permit_19 (by decide) ?_
      refine lv_istore_n (lv' := [(3, .int 1), (0, .ref (a 5)), (1, .int k), (2, .int z)]) hx hb dX0_permit_23 rfl hl (by decide) rfl (fun ls hl => ?_)
      refine lv_iload_n hx hb dX0_permit_24 rfl (lv_at hl 3 rfl) ?_
      refine lv_iload_n hx hb dX0_permit_25 rfl (lv_at hl 0 rfl) ?_
      refine lv_icmp_ne (tgt := 31) hx hb dX0_permit_26 (by decide) (fun c_6 => ?_) (fun c_6 => ?_)
      · skip
        refine lv_aload_n hx hb dX0_permit_31 rfl (lv_at hl 1 rfl) ?_
        refine va_get (D := D) (ci := 1) (v := .ref (a 6)) (C := RX0) (T := TX0) (N := 3) hx hb (lyX0 ht) (fun _ h9 => h9) hown hK hP 5 rfl rfl 0 (by decide) (fl_X0_11 ht) (fun _ h9 => h9) rfl dX0_permit_32 ?_
        refine lv_iload_n hx hb dX0_permit_35 rfl (lv_at hl 2 rfl) ?_
        refine lv_iload_n hx hb dX0_permit_36 rfl (lv_at hl 3 rfl) ?_
        refine lv_if_ne (tgt := 44) hx hb dX0_permit_37 (by decide) (fun c_7 => ?_) (fun c_7 => ?_)
        · skip
          refine lv_iconst (v := 0) hx hb dX0_permit_44 (by decide) ?_
          refine va_zast hx hb hK hP hD hS 6 2 rfl rfl (hk c_1) dX0_permit_45 (fun H locs hP hD hS => ?_)
          have hP : va_P D vwCl (wI cI cJ cZ a n ah pl ck ct nk pm ja rg bu pn tp st us (upd fb k.toNatClampNeg (vp_nar .boolean 0)) kA tA lx ly gx gy gu gv) H := hP
          have hD : va_D A (wI cI cJ cZ a n ah pl ck ct nk pm ja rg bu pn tp st us (upd fb k.toNatClampNeg (vp_nar .boolean 0)) kA tA lx ly gx gy gu gv) := hD
          refine lv_aload_n hx hb dX0_permit_46 rfl (lv_at hl 1 rfl) ?_
          refine lv_dup hx hb dX0_permit_47 rfl ?_
          refine va_get (D := D) (ci := 1) (v := .int pm) (C := RX0) (T := TX0) (N := 3) hx hb (lyX0 ht) (fun _ h9 => h9) hown hK hP 5 rfl rfl 1 (by decide) (fl_X0_15 ht) (fun _ h9 => h9) rfl dX0_permit_48 ?_
          refine lv_iload_n hx hb dX0_permit_51 rfl (lv_at hl 3 rfl) ?_
          refine lv_if_eq (tgt := 59) hx hb dX0_permit_52 (by decide) (fun c_8 => absurd c_8 c_7) (fun _ => ?_)
          refine lv_iconst (v := 1) hx hb dX0_permit_55 (by decide) ?_
          refine lv_goto (tgt := 60) hx hb dX0_permit_56 (by decide) ?_
          refine lv_iadd hx hb dX0_permit_60 ?_
          refine va_put (D := D) (ci := 1) (v := .int (pm + 1)) (ty := .int) (C := RX0) (T := TX0) (N := 3) hx hb (lyX0 ht) (fun _ h9 => h9) tyX0 tyX0_ok nmX0 hown hK hP hD hS 5 rfl rfl 1 (by decide) (fl_X0_15 ht) (fun _ h9 => h9) rfl (by decide +kernel) rfl rfl (Nat.le_of_ble_eq_true rfl) dX0_permit_61 (fun H locs hP hD hS => ?_)
          have hP : va_P D vwCl (wI cI cJ cZ a n ah pl ck ct nk (pm + 1) ja rg bu pn tp st us (upd fb k.toNatClampNeg (vp_nar .boolean 0)) kA tA lx ly gx gy gu gv) H := hP
          have hD : va_D A (wI cI cJ cZ a n ah pl ck ct nk (pm + 1) ja rg bu pn tp st us (upd fb k.toNatClampNeg (vp_nar .boolean 0)) kA tA lx ly gx gy gu gv) := hD
          refine lv_iconst (v := 1) hx hb dX0_permit_64 (by decide) ?_
          exact wr_z hx hb hr hlocks hAe hP hD hS dX0_permit_65 rfl (⟨by unfold f_X0_permit; rw [if_neg c_1, if_pos c_2, if_neg c_6, if_neg c_7], by simp only [f_X0_permit_pm, f_X0_permit_fb, if_neg c_1, if_pos c_2, if_neg c_6, if_neg c_7]⟩)
        · skip
          refine lv_iconst (v := 1) hx hb dX0_permit_40 (by decide) ?_
          refine lv_goto (tgt := 45) hx hb dX0_permit_41 (by decide) ?_
          refine va_zast hx hb hK hP hD hS 6 2 rfl rfl (hk c_1) dX0_permit_45 (fun H locs hP hD hS => ?_)
          have hP : va_P D vwCl (wI cI cJ cZ a n ah pl ck ct nk pm ja rg bu pn tp st us (upd fb k.toNatClampNeg (vp_nar .boolean 1)) kA tA lx ly gx gy gu gv) H := hP
          have hD : va_D A (wI cI cJ cZ a n ah pl ck ct nk pm ja rg bu pn tp st us (upd fb k.toNatClampNeg (vp_nar .boolean 1)) kA tA lx ly gx gy gu gv) := hD
          refine lv_aload_n hx hb dX0_permit_46 rfl (lv_at hl 1 rfl) ?_
          refine lv_dup hx hb dX0_permit_47 rfl ?_
          refine va_get (D := D) (ci := 1) (v := .int pm) (C := RX0) (T := TX0) (N := 3) hx hb (lyX0 ht) (fun _ h9 => h9) hown hK hP 5 rfl rfl 1 (by decide) (fl_X0_15 ht) (fun _ h9 => h9) rfl dX0_permit_48 ?_
          refine lv_iload_n hx hb dX0_permit_51 rfl (lv_at hl 3 rfl) ?_
          refine lv_if_eq (tgt := 59) hx hb dX0_permit_52 (by decide) (fun _ => ?_) (fun c_9 => absurd c_7 c_9)
          refine lv_iconst (v := -1) hx hb dX0_permit_59 (by decide) ?_
          refine lv_iadd hx hb dX0_permit_60 ?_
          refine va_put (D := D) (ci := 1) (v := .int (pm + (-1))) (ty := .int) (C := RX0) (T := TX0) (N := 3) hx hb (lyX0 ht) (fun _ h9 => h9) tyX0 tyX0_ok nmX0 hown hK hP hD hS 5 rfl rfl 1 (by decide) (fl_X0_15 ht) (fun _ h9 => h9) rfl (by decide +kernel) rfl rfl (Nat.le_of_ble_eq_true rfl) dX0_permit_61 (fun H locs hP hD hS => ?_)
          have hP : va_P D vwCl (wI cI cJ cZ a n ah pl ck ct nk (pm + (-1)) ja rg bu pn tp st us (upd fb k.toNatClampNeg (vp_nar .boolean 1)) kA tA lx ly gx gy gu gv) H := hP
          have hD : va_D A (wI cI cJ cZ a n ah pl ck ct nk (pm + (-1)) ja rg bu pn tp st us (upd fb k.toNatClampNeg (vp_nar .boolean 1)) kA tA lx ly gx gy gu gv) := hD
          refine lv_iconst (v := 1) hx hb dX0_permit_64 (by decide) ?_
          exact wr_z hx hb hr hlocks hAe hP hD hS dX0_permit_65 rfl (⟨by unfold f_X0_permit; rw [if_neg c_1, if_pos c_2, if_neg c_6, if_pos c_7], by simp only [f_X0_permit_pm, f_X0_permit_fb, if_neg c_1, if_pos c_2, if_neg c_6, if_pos c_7]⟩)
      · skip
        refine lv_iconst (v := 0) hx hb dX0_permit_29 (by decide) ?_
        exact wr_z hx hb hr hlocks hAe hP hD hS dX0_permit_30 rfl (⟨by unfold f_X0_permit; rw [if_neg c_1, if_pos c_2, if_pos c_6], by simp only [f_X0_permit_pm, f_X0_permit_fb, if_neg c_1, if_pos c_2, if_pos c_6]⟩)
  · skip
    refine lv_iconst (v := 0) hx hb dX0_permit_7 (by decide) ?_
    exact wr_z hx hb hr hlocks hAe hP hD hS dX0_permit_8 rfl (⟨by unfold f_X0_permit; rw [if_pos c_1], by simp only [f_X0_permit_pm, f_X0_permit_fb, if_pos c_1]⟩)
def f_X1_add (nk : Int32) : Int32 := (nk + 1) - 1
def f_X1_add_nk (nk : Int32) : Int32 := nk + 1
def f_X1_add_tp (k : Int32) (nk : Int32) (tp : Nat → Int32) : Nat → Int32 := upd tp nk.toNatClampNeg k
def f_X1_add_st (z : Int32) (nk : Int32) (st : Nat → Int32) : Nat → Int32 := upd st nk.toNatClampNeg z
set_option maxRecDepth 20000 in
set_option maxHeartbeats 4000000 in
theorem k_X1_add (l : Launch) (D : va_G) (cI cJ cZ : ClassId) (a : Nat → Nat) (n : Nat) (ah pl ck ct nk pm ja rg bu pn : Int32) (tp st us fb kA tA : Nat → Int32) (lx ly gx gy gu gv : Nat → Int64) (k : Int32) (z : Int32) (hk : vp_in nk 4) : WR l yX1_add cX1_add 3 (some .int) 0 0 0 D (tysW cI cJ cZ) (wI cI cJ cZ a n ah pl ck ct nk pm ja rg bu pn tp st us fb kA tA lx ly gx gy gu gv) [.ref (a 1), .int k, .int z] (fun ov w' => ov = some (.int (f_X1_add nk)) ∧ w' = wI cI cJ cZ a n ah pl ck ct (f_X1_add_nk nk) pm ja rg bu pn (f_X1_add_tp k nk tp) (f_X1_add_st z nk st) us fb kA tA lx ly gx gy gu gv) := by
  refine WR.of (by decide) ?_
  intro p e s m below meth c A hadm hx hb hr hml hown hlocks hname hE hP hK hD hS hA hAe
  have hown : s.vm.findClass RX1 = some m.cls := hown
  have ht : tb_OK s := hE.1
  have hl := lv_entry ([.ref (a 1), .int k, .int z]) (n := 3) (Nat.le_of_ble_eq_true rfl)
  rw [lg_entry_eq]
  generalize (lg_sl ([.ref (a 1), .int k, .int z]) ++ List.replicate (3 - (lg_sl ([.ref (a 1), .int k, .int z])).length) Slot.unset).toArray = ls at hl ⊢
  have hl : lv_has ls 3 [(0, .ref (a 1)), (1, .int k), (2, .int z)] := hl
  refine lv_aload_n hx hb dX1_add_0 rfl (lv_at hl 0 rfl) ?_
  refine va_get (D := D) (ci := 2) (v := .ref (a 2)) (C := RX1) (T := TX1) (N := 4) hx hb (lyX1 ht) (fun _ h9 => h9) hown hK hP 1 rfl rfl 0 (by decide) (fl_X1_9 ht) (fun _ h9 => h9) rfl dX1_add_1 ?_
  refine lv_aload_n hx hb dX1_add_4 rfl (lv_at hl 0 rfl) ?_
  refine va_get (D := D) (ci := 2) (v := .int nk) (C := RX1) (T := TX1) (N := 4) hx hb (lyX1 ht) (fun _ h9 => h9) hown hK hP 1 rfl rfl 3 (by decide) (fl_X1_19 ht) (fun _ h9 => h9) rfl dX1_add_5 ?_
  refine lv_iload_n hx hb dX1_add_8 rfl (lv_at hl 1 rfl) ?_
  refine va_iast hx hb hK hP hD hS 2 0 rfl rfl hk dX1_add_9 (fun H locs hP hD hS => ?_)
  have hP : va_P D vwCl (wI cI cJ cZ a n ah pl ck ct nk pm ja rg bu pn (upd tp nk.toNatClampNeg k) st us fb kA tA lx ly gx gy gu gv) H := hP
  have hD : va_D A (wI cI cJ cZ a n ah pl ck ct nk pm ja rg bu pn (upd tp nk.toNatClampNeg k) st us fb kA tA lx ly gx gy gu gv) := hD
  refine lv_aload_n hx hb dX1_add_10 rfl (lv_at hl 0 rfl) ?_
  refine va_get (D := D) (ci := 2) (v := .ref (a 3)) (C := RX1) (T := TX1) (N := 4) hx hb (lyX1 ht) (fun _ h9 => h9) hown hK hP 1 rfl rfl 1 (by decide) (fl_X1_13 ht) (fun _ h9 => h9) rfl dX1_add_11 ?_
  refine lv_aload_n hx hb dX1_add_14 rfl (lv_at hl 0 rfl) ?_
  refine va_get (D := D) (ci := 2) (v := .int nk) (C := RX1) (T := TX1) (N := 4) hx hb (lyX1 ht) (fun _ h9 => h9) hown hK hP 1 rfl rfl 3 (by decide) (fl_X1_19 ht) (fun _ h9 => h9) rfl dX1_add_15 ?_
  refine lv_iload_n hx hb dX1_add_18 rfl (lv_at hl 2 rfl) ?_
  refine va_iast hx hb hK hP hD hS 3 0 rfl rfl hk dX1_add_19 (fun H locs hP hD hS => ?_)
  have hP : va_P D vwCl (wI cI cJ cZ a n ah pl ck ct nk pm ja rg bu pn (upd tp nk.toNatClampNeg k) (upd st nk.toNatClampNeg z) us fb kA tA lx ly gx gy gu gv) H := hP
  have hD : va_D A (wI cI cJ cZ a n ah pl ck ct nk pm ja rg bu pn (upd tp nk.toNatClampNeg k) (upd st nk.toNatClampNeg z) us fb kA tA lx ly gx gy gu gv) := hD
  refine lv_aload_n hx hb dX1_add_20 rfl (lv_at hl 0 rfl) ?_
  refine lv_dup hx hb dX1_add_21 rfl ?_
  refine va_get (D := D) (ci := 2) (v := .int nk) (C := RX1) (T := TX1) (N := 4) hx hb (lyX1 ht) (fun _ h9 => h9) hown hK hP 1 rfl rfl 3 (by decide) (fl_X1_19 ht) (fun _ h9 => h9) rfl dX1_add_22 ?_
  refine lv_iconst (v := 1) hx hb dX1_add_25 (by decide) ?_
  refine lv_iadd hx hb dX1_add_26 ?_
  refine va_put (D := D) (ci := 2) (v := .int (nk + 1)) (ty := .int) (C := RX1) (T := TX1) (N := 4) hx hb (lyX1 ht) (fun _ h9 => h9) tyX1 tyX1_ok nmX1 hown hK hP hD hS 1 rfl rfl 3 (by decide) (fl_X1_19 ht) (fun _ h9 => h9) rfl (by decide +kernel) rfl rfl (Nat.le_of_ble_eq_true rfl) dX1_add_27 (fun H locs hP hD hS => ?_)
  have hP : va_P D vwCl (wI cI cJ cZ a n ah pl ck ct (nk + 1) pm ja rg bu pn (upd tp nk.toNatClampNeg k) (upd st nk.toNatClampNeg z) us fb kA tA lx ly gx gy gu gv) H := hP
  have hD : va_D A (wI cI cJ cZ a n ah pl ck ct (nk + 1) pm ja rg bu pn (upd tp nk.toNatClampNeg k) (upd st nk.toNatClampNeg z) us fb kA tA lx ly gx gy gu gv) := hD
  refine lv_aload_n hx hb dX1_add_30 rfl (lv_at hl 0 rfl) ?_
  refine va_get (D := D) (ci := 2) (v := .int (nk + 1)) (C := RX1) (T := TX1) (N := 4) hx hb (lyX1 ht) (fun _ h9 => h9) hown hK hP 1 rfl rfl 3 (by decide) (fl_X1_19 ht) (fun _ h9 => h9) rfl dX1_add_31 ?_
  refine lv_iconst (v := 1) hx hb dX1_add_34 (by decide) ?_
  refine lv_isub hx hb dX1_add_35 ?_
  exact wr_i hx hb hr hlocks hAe hP hD hS dX1_add_36 (⟨rfl, rfl⟩)
def f_X1_enlarge (k : Int32) (z : Int32) (st : Nat → Int32) : Int32 := (upd st k.toNatClampNeg ((st k.toNatClampNeg) + z)) k.toNatClampNeg
def f_X1_enlarge_st (k : Int32) (z : Int32) (st : Nat → Int32) : Nat → Int32 := upd st k.toNatClampNeg ((st k.toNatClampNeg) + z)
set_option maxRecDepth 20000 in
set_option maxHeartbeats 4000000 in
theorem k_X1_enlarge (l : Launch) (D : va_G) (cI cJ cZ : ClassId) (a : Nat → Nat) (n : Nat) (ah pl ck ct nk pm ja rg bu pn : Int32) (tp st us fb kA tA : Nat → Int32) (lx ly gx gy gu gv : Nat → Int64) (k : Int32) (z : Int32) (hk : vp_in k 4) : WR l yX1_enlarge cX1_enlarge 3 (some .int) 0 0 0 D (tysW cI cJ cZ) (wI cI cJ cZ a n ah pl ck ct nk pm ja rg bu pn tp st us fb kA tA lx ly gx gy gu gv) [.ref (a 1), .int k, .int z] (fun ov w' => ov = some (.int (f_X1_enlarge k z st)) ∧ w' = wI cI cJ cZ a n ah pl ck ct nk pm ja rg bu pn tp (f_X1_enlarge_st k z st) us fb kA tA lx ly gx gy gu gv) := by
  refine WR.of (by decide) ?_
  intro p e s m below meth c A hadm hx hb hr hml hown hlocks hname hE hP hK hD hS hA hAe
  have hown : s.vm.findClass RX1 = some m.cls := hown
  have ht : tb_OK s := hE.1
  have hl := lv_entry ([.ref (a 1), .int k, .int z]) (n := 3) (Nat.le_of_ble_eq_true rfl)
  rw [lg_entry_eq]
  generalize (lg_sl ([.ref (a 1), .int k, .int z]) ++ List.replicate (3 - (lg_sl ([.ref (a 1), .int k, .int z])).length) Slot.unset).toArray = ls at hl ⊢
  have hl : lv_has ls 3 [(0, .ref (a 1)), (1, .int k), (2, .int z)] := hl
  refine lv_aload_n hx hb dX1_enlarge_0 rfl (lv_at hl 0 rfl) ?_
  refine va_get (D := D) (ci := 2) (v := .ref (a 3)) (C := RX1) (T := TX1) (N := 4) hx hb (lyX1 ht) (fun _ h9 => h9) hown hK hP 1 rfl rfl 1 (by decide) (fl_X1_13 ht) (fun _ h9 => h9) rfl dX1_enlarge_1 ?_
  refine lv_iload_n hx hb dX1_enlarge_4 rfl (lv_at hl 1 rfl) ?_
  refine lv_dup2_11 hx hb dX1_enlarge_5 rfl rfl ?_
  refine va_iald hx hb hK hP 3 0 rfl rfl hk dX1_enlarge_6 ?_
  refine lv_iload_n hx hb dX1_enlarge_7 rfl (lv_at hl 2 rfl) ?_
  refine lv_iadd hx hb dX1_enlarge_8 ?_
  refine va_iast hx hb hK hP hD hS 3 0 rfl rfl hk dX1_enlarge_9 (fun H locs hP hD hS => ?_)
  have hP : va_P D vwCl (wI cI cJ cZ a n ah pl ck ct nk pm ja rg bu pn tp (upd st k.toNatClampNeg ((st k.toNatClampNeg) + z)) us fb kA tA lx ly gx gy gu gv) H := hP
  have hD : va_D A (wI cI cJ cZ a n ah pl ck ct nk pm ja rg bu pn tp (upd st k.toNatClampNeg ((st k.toNatClampNeg) + z)) us fb kA tA lx ly gx gy gu gv) := hD
  refine lv_aload_n hx hb dX1_enlarge_10 rfl (lv_at hl 0 rfl) ?_
  refine va_get (D := D) (ci := 2) (v := .ref (a 3)) (C := RX1) (T := TX1) (N := 4) hx hb (lyX1 ht) (fun _ h9 => h9) hown hK hP 1 rfl rfl 1 (by decide) (fl_X1_13 ht) (fun _ h9 => h9) rfl dX1_enlarge_11 ?_
  refine lv_iload_n hx hb dX1_enlarge_14 rfl (lv_at hl 1 rfl) ?_
  refine va_iald hx hb hK hP 3 0 rfl rfl hk dX1_enlarge_15 ?_
  exact wr_i hx hb hr hlocks hAe hP hD hS dX1_enlarge_16 (⟨rfl, rfl⟩)
def f_X1_take_us (k : Int32) (us : Nat → Int32) : Nat → Int32 := upd us k.toNatClampNeg ((us k.toNatClampNeg) + 1)
set_option maxRecDepth 20000 in
set_option maxHeartbeats 4000000 in
theorem k_X1_take (l : Launch) (D : va_G) (cI cJ cZ : ClassId) (a : Nat → Nat) (n : Nat) (ah pl ck ct nk pm ja rg bu pn : Int32) (tp st us fb kA tA : Nat → Int32) (lx ly gx gy gu gv : Nat → Int64) (k : Int32) (hk : vp_in k 4) : WR l yX1_take cX1_take 2 none 0 0 0 D (tysW cI cJ cZ) (wI cI cJ cZ a n ah pl ck ct nk pm ja rg bu pn tp st us fb kA tA lx ly gx gy gu gv) [.ref (a 1), .int k] (fun ov w' => ov = none ∧ w' = wI cI cJ cZ a n ah pl ck ct nk pm ja rg bu pn tp st (f_X1_take_us k us) fb kA tA lx ly gx gy gu gv) := by
  refine WR.of (by decide) ?_
  intro p e s m below meth c A hadm hx hb hr hml hown hlocks hname hE hP hK hD hS hA hAe
  have hown : s.vm.findClass RX1 = some m.cls := hown
  have ht : tb_OK s := hE.1
  have hl := lv_entry ([.ref (a 1), .int k]) (n := 2) (Nat.le_of_ble_eq_true rfl)
  rw [lg_entry_eq]
  generalize (lg_sl ([.ref (a 1), .int k]) ++ List.replicate (2 - (lg_sl ([.ref (a 1), .int k])).length) Slot.unset).toArray = ls at hl ⊢
  have hl : lv_has ls 2 [(0, .ref (a 1)), (1, .int k)] := hl
  refine lv_aload_n hx hb dX1_take_0 rfl (lv_at hl 0 rfl) ?_
  refine va_get (D := D) (ci := 2) (v := .ref (a 4)) (C := RX1) (T := TX1) (N := 4) hx hb (lyX1 ht) (fun _ h9 => h9) hown hK hP 1 rfl rfl 2 (by decide) (fl_X1_16 ht) (fun _ h9 => h9) rfl dX1_take_1 ?_
  refine lv_iload_n hx hb dX1_take_4 rfl (lv_at hl 1 rfl) ?_
  refine lv_dup2_11 hx hb dX1_take_5 rfl rfl ?_
  refine va_iald hx hb hK hP 4 0 rfl rfl hk dX1_take_6 ?_
  refine lv_iconst (v := 1) hx hb dX1_take_7 (by decide) ?_
  refine lv_iadd hx hb dX1_take_8 ?_
  refine va_iast hx hb hK hP hD hS 4 0 rfl rfl hk dX1_take_9 (fun H locs hP hD hS => ?_)
  have hP : va_P D vwCl (wI cI cJ cZ a n ah pl ck ct nk pm ja rg bu pn tp st (upd us k.toNatClampNeg ((us k.toNatClampNeg) + 1)) fb kA tA lx ly gx gy gu gv) H := hP
  have hD : va_D A (wI cI cJ cZ a n ah pl ck ct nk pm ja rg bu pn tp st (upd us k.toNatClampNeg ((us k.toNatClampNeg) + 1)) fb kA tA lx ly gx gy gu gv) := hD
  exact wr_v hx hb hr hlocks hAe hP hD hS dX1_take_10 (⟨rfl, rfl⟩)
def f_X1_giveBack_us (k : Int32) (us : Nat → Int32) : Nat → Int32 := upd us k.toNatClampNeg ((us k.toNatClampNeg) - 1)
set_option maxRecDepth 20000 in
set_option maxHeartbeats 4000000 in
theorem k_X1_giveBack (l : Launch) (D : va_G) (cI cJ cZ : ClassId) (a : Nat → Nat) (n : Nat) (ah pl ck ct nk pm ja rg bu pn : Int32) (tp st us fb kA tA : Nat → Int32) (lx ly gx gy gu gv : Nat → Int64) (k : Int32) (hk : vp_in k 4) : WR l yX1_giveBack cX1_giveBack 2 none 0 0 0 D (tysW cI cJ cZ) (wI cI cJ cZ a n ah pl ck ct nk pm ja rg bu pn tp st us fb kA tA lx ly gx gy gu gv) [.ref (a 1), .int k] (fun ov w' => ov = none ∧ w' = wI cI cJ cZ a n ah pl ck ct nk pm ja rg bu pn tp st (f_X1_giveBack_us k us) fb kA tA lx ly gx gy gu gv) := by
  refine WR.of (by decide) ?_
  intro p e s m below meth c A hadm hx hb hr hml hown hlocks hname hE hP hK hD hS hA hAe
  have hown : s.vm.findClass RX1 = some m.cls := hown
  have ht : tb_OK s := hE.1
  have hl := lv_entry ([.ref (a 1), .int k]) (n := 2) (Nat.le_of_ble_eq_true rfl)
  rw [lg_entry_eq]
  generalize (lg_sl ([.ref (a 1), .int k]) ++ List.replicate (2 - (lg_sl ([.ref (a 1), .int k])).length) Slot.unset).toArray = ls at hl ⊢
  have hl : lv_has ls 2 [(0, .ref (a 1)), (1, .int k)] := hl
  refine lv_aload_n hx hb dX1_giveBack_0 rfl (lv_at hl 0 rfl) ?_
  refine va_get (D := D) (ci := 2) (v := .ref (a 4)) (C := RX1) (T := TX1) (N := 4) hx hb (lyX1 ht) (fun _ h9 => h9) hown hK hP 1 rfl rfl 2 (by decide) (fl_X1_16 ht) (fun _ h9 => h9) rfl dX1_giveBack_1 ?_
  refine lv_iload_n hx hb dX1_giveBack_4 rfl (lv_at hl 1 rfl) ?_
  refine lv_dup2_11 hx hb dX1_giveBack_5 rfl rfl ?_
  refine va_iald hx hb hK hP 4 0 rfl rfl hk dX1_giveBack_6 ?_
  refine lv_iconst (v := 1) hx hb dX1_giveBack_7 (by decide) ?_
  refine lv_isub hx hb dX1_giveBack_8 ?_
  refine va_iast hx hb hK hP hD hS 4 0 rfl rfl hk dX1_giveBack_9 (fun H locs hP hD hS => ?_)
  have hP : va_P D vwCl (wI cI cJ cZ a n ah pl ck ct nk pm ja rg bu pn tp st (upd us k.toNatClampNeg ((us k.toNatClampNeg) - 1)) fb kA tA lx ly gx gy gu gv) H := hP
  have hD : va_D A (wI cI cJ cZ a n ah pl ck ct nk pm ja rg bu pn tp st (upd us k.toNatClampNeg ((us k.toNatClampNeg) - 1)) fb kA tA lx ly gx gy gu gv) := hD
  exact wr_v hx hb hr hlocks hAe hP hD hS dX1_giveBack_10 (⟨rfl, rfl⟩)
def f_X2_setPoint_lx (r : Int32) (v : Int32) (lx : Nat → Int64) : Nat → Int64 := vp_updL lx r.toNatClampNeg v.toInt64
def f_X2_setPoint_ly (r : Int32) (z : Int32) (ly : Nat → Int64) : Nat → Int64 := vp_updL ly r.toNatClampNeg z.toInt64
set_option maxRecDepth 20000 in
set_option maxHeartbeats 4000000 in
theorem k_X2_setPoint (l : Launch) (D : va_G) (cI cJ cZ : ClassId) (a : Nat → Nat) (n : Nat) (ah pl ck ct nk pm ja rg bu pn : Int32) (tp st us fb kA tA : Nat → Int32) (lx ly gx gy gu gv : Nat → Int64) (r : Int32) (v : Int32) (z : Int32) (hk : vp_in r n) : WR l yX2_setPoint cX2_setPoint 4 none 0 0 0 D (tysW cI cJ cZ) (wI cI cJ cZ a n ah pl ck ct nk pm ja rg bu pn tp st us fb kA tA lx ly gx gy gu gv) [.ref (a 7), .int r, .int v, .int z] (fun ov w' => ov = none ∧ w' = wI cI cJ cZ a n ah pl ck ct nk pm ja rg bu pn tp st us fb kA tA (f_X2_setPoint_lx r v lx) (f_X2_setPoint_ly r z ly) gx gy gu gv) := by
  refine WR.of (by decide) ?_
  intro p e s m below meth c A hadm hx hb hr hml hown hlocks hname hE hP hK hD hS hA hAe
  have hown : s.vm.findClass RX2 = some m.cls := hown
  have ht : tb_OK s := hE.1
  have hl := lv_entry ([.ref (a 7), .int r, .int v, .int z]) (n := 4) (Nat.le_of_ble_eq_true rfl)
  rw [lg_entry_eq]
  generalize (lg_sl ([.ref (a 7), .int r, .int v, .int z]) ++ List.replicate (4 - (lg_sl ([.ref (a 7), .int r, .int v, .int z])).length) Slot.unset).toArray = ls at hl ⊢
  have hl : lv_has ls 4 [(0, .ref (a 7)), (1, .int r), (2, .int v), (3, .int z)] := hl
  refine lv_aload_n hx hb dX2_setPoint_0 rfl (lv_at hl 0 rfl) ?_
  refine va_get (D := D) (ci := 3) (v := .ref (a 10)) (C := RX2) (T := TX2) (N := 11) hx hb (lyX2 ht) (fun _ h9 => h9) hown hK hP 7 rfl rfl 5 (by decide) (fl_X2_28 ht) (fun _ h9 => h9) rfl dX2_setPoint_1 ?_
  refine lv_iload_n hx hb dX2_setPoint_4 rfl (lv_at hl 1 rfl) ?_
  refine lv_iload_n hx hb dX2_setPoint_5 rfl (lv_at hl 2 rfl) ?_
  refine lv_i2l (v := v.toInt64) hx hb dX2_setPoint_6 rfl ?_
  refine va_last hx hb hK hP hD hS 10 1 rfl rfl hk dX2_setPoint_7 (fun H locs hP hD hS => ?_)
  have hP : va_P D vwCl (wI cI cJ cZ a n ah pl ck ct nk pm ja rg bu pn tp st us fb kA tA (vp_updL lx r.toNatClampNeg v.toInt64) ly gx gy gu gv) H := hP
  have hD : va_D A (wI cI cJ cZ a n ah pl ck ct nk pm ja rg bu pn tp st us fb kA tA (vp_updL lx r.toNatClampNeg v.toInt64) ly gx gy gu gv) := hD
  refine lv_aload_n hx hb dX2_setPoint_8 rfl (lv_at hl 0 rfl) ?_
  refine va_get (D := D) (ci := 3) (v := .ref (a 11)) (C := RX2) (T := TX2) (N := 11) hx hb (lyX2 ht) (fun _ h9 => h9) hown hK hP 7 rfl rfl 6 (by decide) (fl_X2_32 ht) (fun _ h9 => h9) rfl dX2_setPoint_9 ?_
  refine lv_iload_n hx hb dX2_setPoint_12 rfl (lv_at hl 1 rfl) ?_
  refine lv_iload_n hx hb dX2_setPoint_13 rfl (lv_at hl 3 rfl) ?_
  refine lv_i2l (v := z.toInt64) hx hb dX2_setPoint_14 rfl ?_
  refine va_last hx hb hK hP hD hS 11 1 rfl rfl hk dX2_setPoint_15 (fun H locs hP hD hS => ?_)
  have hP : va_P D vwCl (wI cI cJ cZ a n ah pl ck ct nk pm ja rg bu pn tp st us fb kA tA (vp_updL lx r.toNatClampNeg v.toInt64) (vp_updL ly r.toNatClampNeg z.toInt64) gx gy gu gv) H := hP
  have hD : va_D A (wI cI cJ cZ a n ah pl ck ct nk pm ja rg bu pn tp st us fb kA tA (vp_updL lx r.toNatClampNeg v.toInt64) (vp_updL ly r.toNatClampNeg z.toInt64) gx gy gu gv) := hD
  exact wr_v hx hb hr hlocks hAe hP hD hS dX2_setPoint_16 (⟨rfl, rfl⟩)
def f_X2_lay_kA (r : Int32) (k : Int32) (kA : Nat → Int32) : Nat → Int32 := upd kA r.toNatClampNeg k
def f_X2_lay_tA (r : Int32) (z : Int32) (tA : Nat → Int32) : Nat → Int32 := upd tA r.toNatClampNeg z
def f_X2_lay_gx (r : Int32) (v : Int32) (z : Int32) (gx : Nat → Int64) (gu : Nat → Int64) : Nat → Int64 := vp_updL gx (r + 1).toNatClampNeg (((gx r.toNatClampNeg) + ((vp_updL gu (r + 1).toNatClampNeg ((gu r.toNatClampNeg) + ((v * (f_X0_c z)).toInt64))) r.toNatClampNeg)) + ((vp_updL gu (r + 1).toNatClampNeg ((gu r.toNatClampNeg) + ((v * (f_X0_c z)).toInt64))) (r + 1).toNatClampNeg))
def f_X2_lay_gy (r : Int32) (v : Int32) (z : Int32) (gy : Nat → Int64) (gv : Nat → Int64) : Nat → Int64 := vp_updL gy (r + 1).toNatClampNeg (((gy r.toNatClampNeg) + ((vp_updL gv (r + 1).toNatClampNeg ((gv r.toNatClampNeg) + ((v * (f_X0_s z)).toInt64))) r.toNatClampNeg)) + ((vp_updL gv (r + 1).toNatClampNeg ((gv r.toNatClampNeg) + ((v * (f_X0_s z)).toInt64))) (r + 1).toNatClampNeg))
def f_X2_lay_gu (r : Int32) (v : Int32) (z : Int32) (gu : Nat → Int64) : Nat → Int64 := vp_updL gu (r + 1).toNatClampNeg ((gu r.toNatClampNeg) + ((v * (f_X0_c z)).toInt64))
def f_X2_lay_gv (r : Int32) (v : Int32) (z : Int32) (gv : Nat → Int64) : Nat → Int64 := vp_updL gv (r + 1).toNatClampNeg ((gv r.toNatClampNeg) + ((v * (f_X0_s z)).toInt64))
set_option maxRecDepth 20000 in
set_option maxHeartbeats 4000000 in
theorem k_X2_lay (l : Launch) (D : va_G) (cI cJ cZ : ClassId) (a : Nat → Nat) (n : Nat) (ah pl ck ct nk pm ja rg bu pn : Int32) (tp st us fb kA tA : Nat → Int32) (lx ly gx gy gu gv : Nat → Int64) (r : Int32) (k : Int32) (v : Int32) (z : Int32) (h0 : vp_in r n) (h1 : vp_in r (n + 1)) (h2 : vp_in (r + 1) (n + 1)) : WR l yX2_lay cX2_lay 5 none 1 0 0 D (tysW cI cJ cZ) (wI cI cJ cZ a n ah pl ck ct nk pm ja rg bu pn tp st us fb kA tA lx ly gx gy gu gv) [.ref (a 7), .int r, .int k, .int v, .int z] (fun ov w' => ov = none ∧ w' = wI cI cJ cZ a n ah pl ck ct nk pm ja rg bu pn tp st us fb (f_X2_lay_kA r k kA) (f_X2_lay_tA r z tA) lx ly (f_X2_lay_gx r v z gx gu) (f_X2_lay_gy r v z gy gv) (f_X2_lay_gu r v z gu) (f_X2_lay_gv r v z gv)) := by
  refine WR.of (by decide) ?_
  intro p e s m below meth c A hadm hx hb hr hml hown hlocks hname hE hP hK hD hS hA hAe
  have hown : s.vm.findClass RX2 = some m.cls := hown
  have ht : tb_OK s := hE.1
  have hl := lv_entry ([.ref (a 7), .int r, .int k, .int v, .int z]) (n := 5) (Nat.le_of_ble_eq_true rfl)
  rw [lg_entry_eq]
  generalize (lg_sl ([.ref (a 7), .int r, .int k, .int v, .int z]) ++ List.replicate (5 - (lg_sl ([.ref (a 7), .int r, .int k, .int v, .int z])).length) Slot.unset).toArray = ls at hl ⊢
  have hl : lv_has ls 5 [(0, .ref (a 7)), (1, .int r), (2, .int k), (3, .int v), (4, .int z)] := hl
  refine lv_aload_n hx hb dX2_lay_0 rfl (lv_at hl 0 rfl) ?_
  refine va_get (D := D) (ci := 3) (v := .ref (a 8)) (C := RX2) (T := TX2) (N := 11) hx hb (lyX2 ht) (fun _ h9 => h9) hown hK hP 7 rfl rfl 3 (by decide) (fl_X2_21 ht) (fun _ h9 => h9) rfl dX2_lay_1 ?_
  refine lv_iload_n hx hb dX2_lay_4 rfl (lv_at hl 1 rfl) ?_
  refine lv_iload_n hx hb dX2_lay_5 rfl (lv_at hl 2 rfl) ?_
  refine va_iast hx hb hK hP hD hS 8 0 rfl rfl h0 dX2_lay_6 (fun H locs hP hD hS => ?_)
  have hP : va_P D vwCl (wI cI cJ cZ a n ah pl ck ct nk pm ja rg bu pn tp st us fb (upd kA r.toNatClampNeg k) tA lx ly gx gy gu gv) H := hP
  have hD : va_D A (wI cI cJ cZ a n ah pl ck ct nk pm ja rg bu pn tp st us fb (upd kA r.toNatClampNeg k) tA lx ly gx gy gu gv) := hD
  refine lv_aload_n hx hb dX2_lay_7 rfl (lv_at hl 0 rfl) ?_
  refine va_get (D := D) (ci := 3) (v := .ref (a 9)) (C := RX2) (T := TX2) (N := 11) hx hb (lyX2 ht) (fun _ h9 => h9) hown hK hP 7 rfl rfl 4 (by decide) (fl_X2_25 ht) (fun _ h9 => h9) rfl dX2_lay_8 ?_
  refine lv_iload_n hx hb dX2_lay_11 rfl (lv_at hl 1 rfl) ?_
  refine lv_iload hx hb dX2_lay_12 (lv_at hl 4 rfl) ?_
  refine va_iast hx hb hK hP hD hS 9 0 rfl rfl h0 dX2_lay_14 (fun H locs hP hD hS => ?_)
  have hP : va_P D vwCl (wI cI cJ cZ a n ah pl ck ct nk pm ja rg bu pn tp st us fb (upd kA r.toNatClampNeg k) (upd tA r.toNatClampNeg z) lx ly gx gy gu gv) H := hP
  have hD : va_D A (wI cI cJ cZ a n ah pl ck ct nk pm ja rg bu pn tp st us fb (upd kA r.toNatClampNeg k) (upd tA r.toNatClampNeg z) lx ly gx gy gu gv) := hD
  refine lv_aload_n hx hb dX2_lay_15 rfl (lv_at hl 0 rfl) ?_
  refine va_get (D := D) (ci := 3) (v := .ref (a 14)) (C := RX2) (T := TX2) (N := 11) hx hb (lyX2 ht) (fun _ h9 => h9) hown hK hP 7 rfl rfl 9 (by decide) (fl_X2_41 ht) (fun _ h9 => h9) rfl dX2_lay_16 ?_
  refine lv_iload_n hx hb dX2_lay_19 rfl (lv_at hl 1 rfl) ?_
  refine lv_iconst (v := 1) hx hb dX2_lay_20 (by decide) ?_
  refine lv_iadd hx hb dX2_lay_21 ?_
  refine lv_aload_n hx hb dX2_lay_22 rfl (lv_at hl 0 rfl) ?_
  refine va_get (D := D) (ci := 3) (v := .ref (a 14)) (C := RX2) (T := TX2) (N := 11) hx hb (lyX2 ht) (fun _ h9 => h9) hown hK hP 7 rfl rfl 9 (by decide) (fl_X2_41 ht) (fun _ h9 => h9) rfl dX2_lay_23 ?_
  refine lv_iload_n hx hb dX2_lay_26 rfl (lv_at hl 1 rfl) ?_
  refine va_lald hx hb hK hP 14 1 rfl rfl h1 dX2_lay_27 ?_
  refine lv_iload_n hx hb dX2_lay_28 rfl (lv_at hl 3 rfl) ?_
  refine lv_iload hx hb dX2_lay_29 (lv_at hl 4 rfl) ?_
  refine rdSN (As := [.int z]) (rest := [.int v, .long (gu r.toNatClampNeg), .int (r + 1), .ref (a 14)]) (st1 := [.int (f_X0_c z), .int v, .long (gu r.toNatClampNeg), .int (r + 1), .ref (a 14)]) (k_X0_c l D (tysW cI cJ cZ) z) (si_X2_51 ht ⟨Nat.le_of_ble_eq_true rfl, Nat.le_of_ble_eq_true rfl⟩) hx hb hml hown (hE.since hS) pNil hK rfl hl.1 rfl (Nat.le_of_ble_eq_true rfl) ⟨Nat.zero_le _, Nat.zero_le _⟩ dX2_lay_31 rfl ?_
  refine lv_imul hx hb dX2_lay_34 ?_
  refine lv_i2l (v := (v * (f_X0_c z)).toInt64) hx hb dX2_lay_35 rfl ?_
  refine lv_ladd hx hb dX2_lay_36 ?_
  refine va_last hx hb hK hP hD hS 14 1 rfl rfl h2 dX2_lay_37 (fun H locs hP hD hS => ?_)
  have hP : va_P D vwCl (wI cI cJ cZ a n ah pl ck ct nk pm ja rg bu pn tp st us fb (upd kA r.toNatClampNeg k) (upd tA r.toNatClampNeg z) lx ly gx gy (vp_updL gu (r + 1).toNatClampNeg ((gu r.toNatClampNeg) + ((v * (f_X0_c z)).toInt64))) gv) H := hP
  have hD : va_D A (wI cI cJ cZ a n ah pl ck ct nk pm ja rg bu pn tp st us fb (upd kA r.toNatClampNeg k) (upd tA r.toNatClampNeg z) lx ly gx gy (vp_updL gu (r + 1).toNatClampNeg ((gu r.toNatClampNeg) + ((v * (f_X0_c z)).toInt64))) gv) := hD
  refine lv_aload_n hx hb dX2_lay_38 rfl (lv_at hl 0 rfl) ?_
  refine va_get (D := D) (ci := 3) (v := .ref (a 15)) (C := RX2) (T := TX2) (N := 11) hx hb (lyX2 ht) (fun _ h9 => h9) hown hK hP 7 rfl rfl 10 (by decide) (fl_X2_44 ht) (fun _ h9 => h9) rfl dX2_lay_39 ?_
  refine lv_iload_n hx hb dX2_lay_42 rfl (lv_at hl 1 rfl) ?_
  refine lv_iconst (v := 1) hx hb dX2_lay_43 (by decide) ?_
  refine lv_iadd hx hb dX2_lay_44 ?_
  refine lv_aload_n hx hb dX2_lay_45 rfl (lv_at hl 0 rfl) ?_
  refine va_get (D := D) (ci := 3) (v := .ref (a 15)) (C := RX2) (T := TX2) (N := 11) hx hb (lyX2 ht) (fun _ h9 => h9) hown hK hP 7 rfl rfl 10 (by decide) (fl_X2_44 ht) (fun _ h9 => h9) rfl dX2_lay_46 ?_
  refine lv_iload_n hx hb dX2_lay_49 rfl (lv_at hl 1 rfl) ?_
  refine va_lald hx hb hK hP 15 1 rfl rfl h1 dX2_lay_50 ?_
  refine lv_iload_n hx hb dX2_lay_51 rfl (lv_at hl 3 rfl) ?_
  refine lv_iload hx hb dX2_lay_52 (lv_at hl 4 rfl) ?_
  refine rdSN (As := [.int z]) (rest := [.int v, .long (gv r.toNatClampNeg), .int (r + 1), .ref (a 15)]) (st1 := [.int (f_X0_s z), .int v, .long (gv r.toNatClampNeg), .int (r + 1), .ref (a 15)]) (k_X0_s l D (tysW cI cJ cZ) z) (si_X2_57 ht ⟨Nat.le_of_ble_eq_true rfl, Nat.le_of_ble_eq_true rfl⟩) hx hb hml hown (hE.since hS) pNil hK rfl hl.1 rfl (Nat.le_of_ble_eq_true rfl) ⟨Nat.zero_le _, Nat.zero_le _⟩ dX2_lay_54 rfl ?_
  refine lv_imul hx hb dX2_lay_57 ?_
  refine lv_i2l (v := (v * (f_X0_s z)).toInt64) hx hb dX2_lay_58 rfl ?_
  refine lv_ladd hx hb dX2_lay_59 ?_
  refine va_last hx hb hK hP hD hS 15 1 rfl rfl h2 dX2_lay_60 (fun H locs hP hD hS => ?_)
  have hP : va_P D vwCl (wI cI cJ cZ a n ah pl ck ct nk pm ja rg bu pn tp st us fb (upd kA r.toNatClampNeg k) (upd tA r.toNatClampNeg z) lx ly gx gy (vp_updL gu (r + 1).toNatClampNeg ((gu r.toNatClampNeg) + ((v * (f_X0_c z)).toInt64))) (vp_updL gv (r + 1).toNatClampNeg ((gv r.toNatClampNeg) + ((v * (f_X0_s z)).toInt64)))) H := hP
  have hD : va_D A (wI cI cJ cZ a n ah pl ck ct nk pm ja rg bu pn tp st us fb (upd kA r.toNatClampNeg k) (upd tA r.toNatClampNeg z) lx ly gx gy (vp_updL gu (r + 1).toNatClampNeg ((gu r.toNatClampNeg) + ((v * (f_X0_c z)).toInt64))) (vp_updL gv (r + 1).toNatClampNeg ((gv r.toNatClampNeg) + ((v * (f_X0_s z)).toInt64)))) := hD
  refine lv_aload_n hx hb dX2_lay_61 rfl (lv_at hl 0 rfl) ?_
  refine va_get (D := D) (ci := 3) (v := .ref (a 12)) (C := RX2) (T := TX2) (N := 11) hx hb (lyX2 ht) (fun _ h9 => h9) hown hK hP 7 rfl rfl 7 (by decide) (fl_X2_35 ht) (fun _ h9 => h9) rfl dX2_lay_62 ?_
  refine lv_iload_n hx hb dX2_lay_65 rfl (lv_at hl 1 rfl) ?_
  refine lv_iconst (v := 1) hx hb dX2_lay_66 (by decide) ?_
  refine lv_iadd hx hb dX2_lay_67 ?_
  refine lv_aload_n hx hb dX2_lay_68 rfl (lv_at hl 0 rfl) ?_
  refine va_get (D := D) (ci := 3) (v := .ref (a 12)) (C := RX2) (T := TX2) (N := 11) hx hb (lyX2 ht) (fun _ h9 => h9) hown hK hP 7 rfl rfl 7 (by decide) (fl_X2_35 ht) (fun _ h9 => h9) rfl dX2_lay_69 ?_
  refine lv_iload_n hx hb dX2_lay_72 rfl (lv_at hl 1 rfl) ?_
  refine va_lald hx hb hK hP 12 1 rfl rfl h1 dX2_lay_73 ?_
  refine lv_aload_n hx hb dX2_lay_74 rfl (lv_at hl 0 rfl) ?_
  refine va_get (D := D) (ci := 3) (v := .ref (a 14)) (C := RX2) (T := TX2) (N := 11) hx hb (lyX2 ht) (fun _ h9 => h9) hown hK hP 7 rfl rfl 9 (by decide) (fl_X2_41 ht) (fun _ h9 => h9) rfl dX2_lay_75 ?_
  refine lv_iload_n hx hb dX2_lay_78 rfl (lv_at hl 1 rfl) ?_
  refine va_lald hx hb hK hP 14 1 rfl rfl h1 dX2_lay_79 ?_
  refine lv_ladd hx hb dX2_lay_80 ?_
  refine lv_aload_n hx hb dX2_lay_81 rfl (lv_at hl 0 rfl) ?_
  refine va_get (D := D) (ci := 3) (v := .ref (a 14)) (C := RX2) (T := TX2) (N := 11) hx hb (lyX2 ht) (fun _ h9 => h9) hown hK hP 7 rfl rfl 9 (by decide) (fl_X2_41 ht) (fun _ h9 => h9) rfl dX2_lay_82 ?_
  refine lv_iload_n hx hb dX2_lay_85 rfl (lv_at hl 1 rfl) ?_
  refine lv_iconst (v := 1) hx hb dX2_lay_86 (by decide) ?_
  refine lv_iadd hx hb dX2_lay_87 ?_
  refine va_lald hx hb hK hP 14 1 rfl rfl h2 dX2_lay_88 ?_
  refine lv_ladd hx hb dX2_lay_89 ?_
  refine va_last hx hb hK hP hD hS 12 1 rfl rfl h2 dX2_lay_90 (fun H locs hP hD hS => ?_)
  have hP : va_P D vwCl (wI cI cJ cZ a n ah pl ck ct nk pm ja rg bu pn tp st us fb (upd kA r.toNatClampNeg k) (upd tA r.toNatClampNeg z) lx ly (vp_updL gx (r + 1).toNatClampNeg (((gx r.toNatClampNeg) + ((vp_updL gu (r + 1).toNatClampNeg ((gu r.toNatClampNeg) + ((v * (f_X0_c z)).toInt64))) r.toNatClampNeg)) + ((vp_updL gu (r + 1).toNatClampNeg ((gu r.toNatClampNeg) + ((v * (f_X0_c z)).toInt64))) (r + 1).toNatClampNeg))) gy (vp_updL gu (r + 1).toNatClampNeg ((gu r.toNatClampNeg) + ((v * (f_X0_c z)).toInt64))) (vp_updL gv (r + 1).toNatClampNeg ((gv r.toNatClampNeg) + ((v * (f_X0_s z)).toInt64)))) H := hP
  have hD : va_D A (wI cI cJ cZ a n ah pl ck ct nk pm ja rg bu pn tp st us fb (upd kA r.toNatClampNeg k) (upd tA r.toNatClampNeg z) lx ly (vp_updL gx (r + 1).toNatClampNeg (((gx r.toNatClampNeg) + ((vp_updL gu (r + 1).toNatClampNeg ((gu r.toNatClampNeg) + ((v * (f_X0_c z)).toInt64))) r.toNatClampNeg)) + ((vp_updL gu (r + 1).toNatClampNeg ((gu r.toNatClampNeg) + ((v * (f_X0_c z)).toInt64))) (r + 1).toNatClampNeg))) gy (vp_updL gu (r + 1).toNatClampNeg ((gu r.toNatClampNeg) + ((v * (f_X0_c z)).toInt64))) (vp_updL gv (r + 1).toNatClampNeg ((gv r.toNatClampNeg) + ((v * (f_X0_s z)).toInt64)))) := hD
  refine lv_aload_n hx hb dX2_lay_91 rfl (lv_at hl 0 rfl) ?_
  refine va_get (D := D) (ci := 3) (v := .ref (a 13)) (C := RX2) (T := TX2) (N := 11) hx hb (lyX2 ht) (fun _ h9 => h9) hown hK hP 7 rfl rfl 8 (by decide) (fl_X2_38 ht) (fun _ h9 => h9) rfl dX2_lay_92 ?_
  refine lv_iload_n hx hb dX2_lay_95 rfl (lv_at hl 1 rfl) ?_
  refine lv_iconst (v := 1) hx hb dX2_lay_96 (by decide) ?_
  refine lv_iadd hx hb dX2_lay_97 ?_
  refine lv_aload_n hx hb dX2_lay_98 rfl (lv_at hl 0 rfl) ?_
  refine va_get (D := D) (ci := 3) (v := .ref (a 13)) (C := RX2) (T := TX2) (N := 11) hx hb (lyX2 ht) (fun _ h9 => h9) hown hK hP 7 rfl rfl 8 (by decide) (fl_X2_38 ht) (fun _ h9 => h9) rfl dX2_lay_99 ?_
  refine lv_iload_n hx hb dX2_lay_102 rfl (lv_at hl 1 rfl) ?_
  refine va_lald hx hb hK hP 13 1 rfl rfl h1 dX2_lay_103 ?_
  refine lv_aload_n hx hb dX2_lay_104 rfl (lv_at hl 0 rfl) ?_
  refine va_get (D := D) (ci := 3) (v := .ref (a 15)) (C := RX2) (T := TX2) (N := 11) hx hb (lyX2 ht) (fun _ h9 => h9) hown hK hP 7 rfl rfl 10 (by decide) (fl_X2_44 ht) (fun _ h9 => h9) rfl dX2_lay_105 ?_
  refine lv_iload_n hx hb dX2_lay_108 rfl (lv_at hl 1 rfl) ?_
  refine va_lald hx hb hK hP 15 1 rfl rfl h1 dX2_lay_109 ?_
  refine lv_ladd hx hb dX2_lay_110 ?_
  refine lv_aload_n hx hb dX2_lay_111 rfl (lv_at hl 0 rfl) ?_
  refine va_get (D := D) (ci := 3) (v := .ref (a 15)) (C := RX2) (T := TX2) (N := 11) hx hb (lyX2 ht) (fun _ h9 => h9) hown hK hP 7 rfl rfl 10 (by decide) (fl_X2_44 ht) (fun _ h9 => h9) rfl dX2_lay_112 ?_
  refine lv_iload_n hx hb dX2_lay_115 rfl (lv_at hl 1 rfl) ?_
  refine lv_iconst (v := 1) hx hb dX2_lay_116 (by decide) ?_
  refine lv_iadd hx hb dX2_lay_117 ?_
  refine va_lald hx hb hK hP 15 1 rfl rfl h2 dX2_lay_118 ?_
  refine lv_ladd hx hb dX2_lay_119 ?_
  refine va_last hx hb hK hP hD hS 13 1 rfl rfl h2 dX2_lay_120 (fun H locs hP hD hS => ?_)
  have hP : va_P D vwCl (wI cI cJ cZ a n ah pl ck ct nk pm ja rg bu pn tp st us fb (upd kA r.toNatClampNeg k) (upd tA r.toNatClampNeg z) lx ly (vp_updL gx (r + 1).toNatClampNeg (((gx r.toNatClampNeg) + ((vp_updL gu (r + 1).toNatClampNeg ((gu r.toNatClampNeg) + ((v * (f_X0_c z)).toInt64))) r.toNatClampNeg)) + ((vp_updL gu (r + 1).toNatClampNeg ((gu r.toNatClampNeg) + ((v * (f_X0_c z)).toInt64))) (r + 1).toNatClampNeg))) (vp_updL gy (r + 1).toNatClampNeg (((gy r.toNatClampNeg) + ((vp_updL gv (r + 1).toNatClampNeg ((gv r.toNatClampNeg) + ((v * (f_X0_s z)).toInt64))) r.toNatClampNeg)) + ((vp_updL gv (r + 1).toNatClampNeg ((gv r.toNatClampNeg) + ((v * (f_X0_s z)).toInt64))) (r + 1).toNatClampNeg))) (vp_updL gu (r + 1).toNatClampNeg ((gu r.toNatClampNeg) + ((v * (f_X0_c z)).toInt64))) (vp_updL gv (r + 1).toNatClampNeg ((gv r.toNatClampNeg) + ((v * (f_X0_s z)).toInt64)))) H := hP
  have hD : va_D A (wI cI cJ cZ a n ah pl ck ct nk pm ja rg bu pn tp st us fb (upd kA r.toNatClampNeg k) (upd tA r.toNatClampNeg z) lx ly (vp_updL gx (r + 1).toNatClampNeg (((gx r.toNatClampNeg) + ((vp_updL gu (r + 1).toNatClampNeg ((gu r.toNatClampNeg) + ((v * (f_X0_c z)).toInt64))) r.toNatClampNeg)) + ((vp_updL gu (r + 1).toNatClampNeg ((gu r.toNatClampNeg) + ((v * (f_X0_c z)).toInt64))) (r + 1).toNatClampNeg))) (vp_updL gy (r + 1).toNatClampNeg (((gy r.toNatClampNeg) + ((vp_updL gv (r + 1).toNatClampNeg ((gv r.toNatClampNeg) + ((v * (f_X0_s z)).toInt64))) r.toNatClampNeg)) + ((vp_updL gv (r + 1).toNatClampNeg ((gv r.toNatClampNeg) + ((v * (f_X0_s z)).toInt64))) (r + 1).toNatClampNeg))) (vp_updL gu (r + 1).toNatClampNeg ((gu r.toNatClampNeg) + ((v * (f_X0_c z)).toInt64))) (vp_updL gv (r + 1).toNatClampNeg ((gv r.toNatClampNeg) + ((v * (f_X0_s z)).toInt64)))) := hD
  exact wr_v hx hb hr hlocks hAe hP hD hS dX2_lay_121 (⟨rfl, rfl⟩)
