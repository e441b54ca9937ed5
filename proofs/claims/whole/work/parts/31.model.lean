def f_X4_kind (k : Int32) (z : Int32) (nk : Int32) : Int32 := if (f_X4_in k.toInt64 0 200) = 0 then -2 else (if (f_X4_in z.toInt64 0 99) = 0 then -2 else (if nk = 4 then -4 else ((nk + 1) - 1)))
def f_X4_kind_fa (k : Int32) (z : Int32) (nk : Int32) : Int32 := if (f_X4_in k.toInt64 0 200) = 0 then 0 else (if (f_X4_in z.toInt64 0 99) = 0 then 0 else (if nk = 4 then 0 else 0))
def f_X4_kind_nk (k : Int32) (z : Int32) (nk : Int32) : Int32 := if (f_X4_in k.toInt64 0 200) = 0 then nk else (if (f_X4_in z.toInt64 0 99) = 0 then nk else (if nk = 4 then nk else (nk + 1)))
def f_X4_kind_tp (k : Int32) (z : Int32) (nk : Int32) (tp : Nat → Int32) : Nat → Int32 := if (f_X4_in k.toInt64 0 200) = 0 then tp else (if (f_X4_in z.toInt64 0 99) = 0 then tp else (if nk = 4 then tp else (upd tp nk.toNatClampNeg k)))
def f_X4_kind_st (k : Int32) (z : Int32) (nk : Int32) (st : Nat → Int32) : Nat → Int32 := if (f_X4_in k.toInt64 0 200) = 0 then st else (if (f_X4_in z.toInt64 0 99) = 0 then st else (if nk = 4 then st else (upd st nk.toNatClampNeg z)))
set_option maxRecDepth 20000 in
set_option maxHeartbeats 4000000 in
theorem k_X4_kind (l : Launch) (D : va_G) (cI cJ cZ : ClassId) (a : Nat → Nat) (fa rg bu pn pl ja lk nk bl : Int32) (bs : Int64) (bk be : Int32) (al tp st mx my kd ky : Nat → Int32) (gx gy gu gv : Nat → Int64) (k : Int32) (z : Int32) (hk : ¬ nk = 4 → vp_in nk 4) : WR l yX4_kind cX4_kind 3 (some .int) 1 0 0 D (tysW cI cJ cZ) (wM cI cJ cZ a fa rg bu pn pl ja lk nk bl bs bk be al tp st mx my kd ky gx gy gu gv) [.ref (a 0), .int k, .int z] (fun ov w' => ov = some (.int (f_X4_kind k z nk)) ∧ w' = wM cI cJ cZ a (f_X4_kind_fa k z nk) rg bu pn pl ja lk (f_X4_kind_nk k z nk) bl bs bk be al (f_X4_kind_tp k z nk tp) (f_X4_kind_st k z nk st) mx my kd ky gx gy gu gv) := by
  refine WR.of (by decide) ?_
  intro p e s m below meth c A hadm hx hb hr hml hown hlocks hname hE hP hK hD hS hA hAe
  have hown : s.vm.findClass RX4 = some m.cls := hown
  have ht : tb_OK s := hE.1
  have hl := lv_entry ([.ref (a 0), .int k, .int z]) (n := 3) (Nat.le_of_ble_eq_true rfl)
  rw [lg_entry_eq]
  generalize (lg_sl ([.ref (a 0), .int k, .int z]) ++ List.replicate (3 - (lg_sl ([.ref (a 0), .int k, .int z])).length) Slot.unset).toArray = ls at hl ⊢
  have hl : lv_has ls 3 [(0, .ref (a 0)), (1, .int k), (2, .int z)] := hl
  refine lv_aload_n hx hb dX4_kind_0 rfl (lv_at hl 0 rfl) ?_
  refine lv_iconst (v := 0) hx hb dX4_kind_1 (by decide) ?_
  refine va_put (D := D) (ci := 5) (v := .int 0) (ty := .int) (C := RX4) (T := TX4) (N := 23) hx hb (lyX4 ht) (fun _ h9 => h9) tyX4 tyX4_ok nmX4 hown hK hP hD hS 0 rfl rfl 0 (by decide) (fl_X4_55 ht) (fun _ h9 => h9) rfl (by decide +kernel) rfl rfl (Nat.le_of_ble_eq_true rfl) dX4_kind_2 (fun H locs hP hD hS => ?_)
  have hP : va_P D vwCl (wM cI cJ cZ a 0 rg bu pn pl ja lk nk bl bs bk be al tp st mx my kd ky gx gy gu gv) H := hP
  have hD : va_D A (wM cI cJ cZ a 0 rg bu pn pl ja lk nk bl bs bk be al tp st mx my kd ky gx gy gu gv) := hD
  refine lv_iload_n hx hb dX4_kind_5 rfl (lv_at hl 1 rfl) ?_
  refine lv_i2l (v := k.toInt64) hx hb dX4_kind_6 rfl ?_
  refine lv_lconst (v := 0) hx hb dX4_kind_7 (by decide) ?_
  refine lv_ldc2 (v := 200) hx hb hown (kl_X4_67 ht) dX4_kind_8 ?_
  refine rdS (As := [.long k.toInt64, .long 0, .long 200]) (rest := []) (st1 := [.int (f_X4_in k.toInt64 0 200)]) (k_X4_in l D (tysW cI cJ cZ) k.toInt64 0 200) (si_X4_69 ht ⟨Nat.le_of_ble_eq_true rfl, Nat.le_of_ble_eq_true rfl⟩) hx hb hml hown (hE.since hS) pNil hK rfl hl.1 rfl (Nat.le_of_ble_eq_true rfl) ⟨Nat.zero_le _, Nat.zero_le _⟩ dX4_kind_11 rfl ?_
  refine lv_if_eq (tgt := 29) hx hb dX4_kind_14 (by decide) (fun c_1 => ?_) (fun c_1 => ?_)
  · skip
    refine lv_bipush (v := -2) hx hb dX4_kind_29 (by decide) ?_
    exact wr_i hx hb hr hlocks hAe hP hD hS dX4_kind_31 (⟨by unfold f_X4_kind; rw [if_pos c_1], by simp only [f_X4_kind_fa, f_X4_kind_nk, f_X4_kind_tp, f_X4_kind_st, if_pos c_1]⟩)
  · skip
    refine lv_iload_n hx hb dX4_kind_17 rfl (lv_at hl 2 rfl) ?_
    refine lv_i2l (v := z.toInt64) hx hb dX4_kind_18 rfl ?_
    refine lv_lconst (v := 0) hx hb dX4_kind_19 (by decide) ?_
    refine lv_ldc2 (v := 99) hx hb hown (kl_X4_73 ht) dX4_kind_20 ?_
    refine rdS (As := [.long z.toInt64, .long 0, .long 99]) (rest := []) (st1 := [.int (f_X4_in z.toInt64 0 99)]) (k_X4_in l D (tysW cI cJ cZ) z.toInt64 0 99) (si_X4_69 ht ⟨Nat.le_of_ble_eq_true rfl, Nat.le_of_ble_eq_true rfl⟩) hx hb hml hown (hE.since hS) pNil hK rfl hl.1 rfl (Nat.le_of_ble_eq_true rfl) ⟨Nat.zero_le _, Nat.zero_le _⟩ dX4_kind_23 rfl ?_
    refine lv_if_ne (tgt := 32) hx hb dX4_kind_26 (by decide) (fun c_2 => ?_) (fun c_2 => ?_)
    · skip
      refine lv_aload_n hx hb dX4_kind_32 rfl (lv_at hl 0 rfl) ?_
      refine va_get (D := D) (ci := 5) (v := .int nk) (C := RX4) (T := TX4) (N := 23) hx hb (lyX4 ht) (fun _ h9 => h9) hown hK hP 0 rfl rfl 8 (by decide) (fl_X4_58 ht) (fun _ h9 => h9) rfl dX4_kind_33 ?_
      refine lv_iconst (v := 4) hx hb dX4_kind_36 (by decide) ?_
      refine lv_icmp_ne (tgt := 43) hx hb dX4_kind_37 (by decide) (fun c_3 => ?_) (fun c_3 => ?_)
      · skip
        refine lv_aload_n hx hb dX4_kind_43 rfl (lv_at hl 0 rfl) ?_
        refine va_get (D := D) (ci := 5) (v := .ref (a 2)) (C := RX4) (T := TX4) (N := 23) hx hb (lyX4 ht) (fun _ h9 => h9) hown hK hP 0 rfl rfl 9 (by decide) (fl_X4_20 ht) (fun _ h9 => h9) rfl dX4_kind_44 ?_
        refine lv_aload_n hx hb dX4_kind_47 rfl (lv_at hl 0 rfl) ?_
        refine va_get (D := D) (ci := 5) (v := .int nk) (C := RX4) (T := TX4) (N := 23) hx hb (lyX4 ht) (fun _ h9 => h9) hown hK hP 0 rfl rfl 8 (by decide) (fl_X4_58 ht) (fun _ h9 => h9) rfl dX4_kind_48 ?_
        refine lv_iload_n hx hb dX4_kind_51 rfl (lv_at hl 1 rfl) ?_
        refine va_iast hx hb hK hP hD hS 2 0 rfl rfl (hk c_3) dX4_kind_52 (fun H locs hP hD hS => ?_)
        have hP : va_P D vwCl (wM cI cJ cZ a 0 rg bu pn pl ja lk nk bl bs bk be al (upd tp nk.toNatClampNeg k) st mx my kd ky gx gy gu gv) H := hP
        have hD : va_D A (wM cI cJ cZ a 0 rg bu pn pl ja lk nk bl bs bk be al (upd tp nk.toNatClampNeg k) st mx my kd ky gx gy gu gv) := hD
        refine lv_aload_n hx hb dX4_kind_53 rfl (lv_at hl 0 rfl) ?_
        refine va_get (D := D) (ci := 5) (v := .ref (a 3)) (C := RX4) (T := TX4) (N := 23) hx hb (lyX4 ht) (fun _ h9 => h9) hown hK hP 0 rfl rfl 10 (by decide) (fl_X4_24 ht) (fun _ h9 => h9) rfl dX4_kind_54 ?_
        refine lv_aload_n hx hb dX4_kind_57 rfl (lv_at hl 0 rfl) ?_
        refine va_get (D := D) (ci := 5) (v := .int nk) (C := RX4) (T := TX4) (N := 23) hx hb (lyX4 ht) (fun _ h9 => h9) hown hK hP 0 rfl rfl 8 (by decide) (fl_X4_58 ht) (fun _ h9 => h9) rfl dX4_kind_58 ?_
        refine lv_iload_n hx hb dX4_kind_61 rfl (lv_at hl 2 rfl) ?_
        refine va_iast hx hb hK hP hD hS 3 0 rfl rfl (hk c_3) dX4_kind_62 (fun H locs hP hD hS => ?_)
        have hP : va_P D vwCl (wM cI cJ cZ a 0 rg bu pn pl ja lk nk bl bs bk be al (upd tp nk.toNatClampNeg k) (upd st nk.toNatClampNeg z) mx my kd ky gx gy gu gv) H := hP
        have hD : va_D A (wM cI cJ cZ a 0 rg bu pn pl ja lk nk bl bs bk be al (upd tp nk.toNatClampNeg k) (upd st nk.toNatClampNeg z) mx my kd ky gx gy gu gv) := hD
        refine lv_aload_n hx hb dX4_kind_63 rfl (lv_at hl 0 rfl) ?_
        refine lv_dup hx hb dX4_kind_64 rfl ?_
        refine va_get (D := D) (ci := 5) (v := .int nk) (C := RX4) (T := TX4) (N := 23) hx hb (lyX4 ht) (fun _ h9 => h9) hown hK hP 0 rfl rfl 8 (by decide) (fl_X4_58 ht) (fun _ h9 => h9) rfl dX4_kind_65 ?_
        refine lv_iconst (v := 1) hx hb dX4_kind_68 (by decide) ?_
        refine lv_iadd hx hb dX4_kind_69 ?_
        refine va_put (D := D) (ci := 5) (v := .int (nk + 1)) (ty := .int) (C := RX4) (T := TX4) (N := 23) hx hb (lyX4 ht) (fun _ h9 => h9) tyX4 tyX4_ok nmX4 hown hK hP hD hS 0 rfl rfl 8 (by decide) (fl_X4_58 ht) (fun _ h9 => h9) rfl (by decide +kernel) rfl rfl (Nat.le_of_ble_eq_true rfl) dX4_kind_70 (fun H locs hP hD hS => ?_)
        have hP : va_P D vwCl (wM cI cJ cZ a 0 rg bu pn pl ja lk (nk + 1) bl bs bk be al (upd tp nk.toNatClampNeg k) (upd st nk.toNatClampNeg z) mx my kd ky gx gy gu gv) H := hP
        have hD : va_D A (wM cI cJ cZ a 0 rg bu pn pl ja lk (nk + 1) bl bs bk be al (upd tp nk.toNatClampNeg k) (upd st nk.toNatClampNeg z) mx my kd ky gx gy gu gv) := hD
        refine lv_aload_n hx hb dX4_kind_73 rfl (lv_at hl 0 rfl) ?_
        refine va_get (D := D) (ci := 5) (v := .int (nk + 1)) (C := RX4) (T := TX4) (N := 23) hx hb (lyX4 ht) (fun _ h9 => h9) hown hK hP 0 rfl rfl 8 (by decide) (fl_X4_58 ht) (fun _ h9 => h9) rfl dX4_kind_74 ?_
        refine lv_iconst (v := 1) hx hb dX4_kind_77 (by decide) ?_
        refine lv_isub hx hb dX4_kind_78 ?_
        exact wr_i hx hb hr hlocks hAe hP hD hS dX4_kind_79 (⟨by unfold f_X4_kind; rw [if_neg c_1, if_neg c_2, if_neg c_3], by simp only [f_X4_kind_fa, f_X4_kind_nk, f_X4_kind_tp, f_X4_kind_st, if_neg c_1, if_neg c_2, if_neg c_3]⟩)
      · skip
        refine lv_bipush (v := -4) hx hb dX4_kind_40 (by decide) ?_
        exact wr_i hx hb hr hlocks hAe hP hD hS dX4_kind_42 (⟨by unfold f_X4_kind; rw [if_neg c_1, if_neg c_2, if_pos c_3], by simp only [f_X4_kind_fa, f_X4_kind_nk, f_X4_kind_tp, f_X4_kind_st, if_neg c_1, if_neg c_2, if_pos c_3]⟩)
    · skip
      refine lv_bipush (v := -2) hx hb dX4_kind_29 (by decide) ?_
      exact wr_i hx hb hr hlocks hAe hP hD hS dX4_kind_31 (⟨by unfold f_X4_kind; rw [if_neg c_1, if_pos c_2], by simp only [f_X4_kind_fa, f_X4_kind_nk, f_X4_kind_tp, f_X4_kind_st, if_neg c_1, if_pos c_2]⟩)
def f_X4_more (k : Int32) (z : Int32) (nk : Int32) (st : Nat → Int32) : Int32 := if (f_X4_isKind k nk) = 0 then -1 else (if (f_X4_in z.toInt64 1 99) = 0 then -2 else ((upd st k.toNatClampNeg ((st k.toNatClampNeg) + z)) k.toNatClampNeg))
def f_X4_more_fa (k : Int32) (z : Int32) (nk : Int32) : Int32 := if (f_X4_isKind k nk) = 0 then 0 else (if (f_X4_in z.toInt64 1 99) = 0 then 0 else 0)
def f_X4_more_st (k : Int32) (z : Int32) (nk : Int32) (st : Nat → Int32) : Nat → Int32 := if (f_X4_isKind k nk) = 0 then st else (if (f_X4_in z.toInt64 1 99) = 0 then st else (upd st k.toNatClampNeg ((st k.toNatClampNeg) + z)))
set_option maxRecDepth 20000 in
set_option maxHeartbeats 4000000 in
theorem k_X4_more (l : Launch) (D : va_G) (cI cJ cZ : ClassId) (a : Nat → Nat) (fa rg bu pn pl ja lk nk bl : Int32) (bs : Int64) (bk be : Int32) (al tp st mx my kd ky : Nat → Int32) (gx gy gu gv : Nat → Int64) (k : Int32) (z : Int32) (hk : ¬ f_X4_isKind k nk = 0 → vp_in k 4) : WR l yX4_more cX4_more 3 (some .int) 1 0 0 D (tysW cI cJ cZ) (wM cI cJ cZ a fa rg bu pn pl ja lk nk bl bs bk be al tp st mx my kd ky gx gy gu gv) [.ref (a 0), .int k, .int z] (fun ov w' => ov = some (.int (f_X4_more k z nk st)) ∧ w' = wM cI cJ cZ a (f_X4_more_fa k z nk) rg bu pn pl ja lk nk bl bs bk be al tp (f_X4_more_st k z nk st) mx my kd ky gx gy gu gv) := by
  refine WR.of (by decide) ?_
  intro p e s m below meth c A hadm hx hb hr hml hown hlocks hname hE hP hK hD hS hA hAe
  have hown : s.vm.findClass RX4 = some m.cls := hown
  have ht : tb_OK s := hE.1
  have hl := lv_entry ([.ref (a 0), .int k, .int z]) (n := 3) (Nat.le_of_ble_eq_true rfl)
  rw [lg_entry_eq]
  generalize (lg_sl ([.ref (a 0), .int k, .int z]) ++ List.replicate (3 - (lg_sl ([.ref (a 0), .int k, .int z])).length) Slot.unset).toArray = ls at hl ⊢
  have hl : lv_has ls 3 [(0, .ref (a 0)), (1, .int k), (2, .int z)] := hl
  refine lv_aload_n hx hb dX4_more_0 rfl (lv_at hl 0 rfl) ?_
  refine lv_iconst (v := 0) hx hb dX4_more_1 (by decide) ?_
  refine va_put (D := D) (ci := 5) (v := .int 0) (ty := .int) (C := RX4) (T := TX4) (N := 23) hx hb (lyX4 ht) (fun _ h9 => h9) tyX4 tyX4_ok nmX4 hown hK hP hD hS 0 rfl rfl 0 (by decide) (fl_X4_55 ht) (fun _ h9 => h9) rfl (by decide +kernel) rfl rfl (Nat.le_of_ble_eq_true rfl) dX4_more_2 (fun H locs hP hD hS => ?_)
  have hP : va_P D vwCl (wM cI cJ cZ a 0 rg bu pn pl ja lk nk bl bs bk be al tp st mx my kd ky gx gy gu gv) H := hP
  have hD : va_D A (wM cI cJ cZ a 0 rg bu pn pl ja lk nk bl bs bk be al tp st mx my kd ky gx gy gu gv) := hD
  refine lv_aload_n hx hb dX4_more_5 rfl (lv_at hl 0 rfl) ?_
  refine lv_iload_n hx hb dX4_more_6 rfl (lv_at hl 1 rfl) ?_
  refine rdV (As := [.int k]) (rest := []) (st1 := [.int (f_X4_isKind k nk)]) (k_X4_isKind l D cI cJ cZ a 0 rg bu pn pl ja lk nk bl bs bk be al tp st mx my kd ky gx gy gu gv k) (si_X4_75 ht ⟨Nat.le_of_ble_eq_true rfl, Nat.le_of_ble_eq_true rfl⟩) hx hb hml hown (va_recv hK hP (ci := 5) (q0 := 0) rfl rfl) (hE.since hS) hP hK rfl hl.1 rfl (Nat.le_of_ble_eq_true rfl) ⟨Nat.zero_le _, Nat.zero_le _⟩ dX4_more_7 rfl ?_
  refine lv_if_ne (tgt := 15) hx hb dX4_more_10 (by decide) (fun c_1 => ?_) (fun c_1 => ?_)
  · skip
    refine lv_iload_n hx hb dX4_more_15 rfl (lv_at hl 2 rfl) ?_
    refine lv_i2l (v := z.toInt64) hx hb dX4_more_16 rfl ?_
    refine lv_lconst (v := 1) hx hb dX4_more_17 (by decide) ?_
    refine lv_ldc2 (v := 99) hx hb hown (kl_X4_73 ht) dX4_more_18 ?_
    refine rdS (As := [.long z.toInt64, .long 1, .long 99]) (rest := []) (st1 := [.int (f_X4_in z.toInt64 1 99)]) (k_X4_in l D (tysW cI cJ cZ) z.toInt64 1 99) (si_X4_69 ht ⟨Nat.le_of_ble_eq_true rfl, Nat.le_of_ble_eq_true rfl⟩) hx hb hml hown (hE.since hS) pNil hK rfl hl.1 rfl (Nat.le_of_ble_eq_true rfl) ⟨Nat.zero_le _, Nat.zero_le _⟩ dX4_more_21 rfl ?_
    refine lv_if_ne (tgt := 30) hx hb dX4_more_24 (by decide) (fun c_2 => ?_) (fun c_2 => ?_)
    · skip
      refine lv_aload_n hx hb dX4_more_30 rfl (lv_at hl 0 rfl) ?_
      refine va_get (D := D) (ci := 5) (v := .ref (a 3)) (C := RX4) (T := TX4) (N := 23) hx hb (lyX4 ht) (fun _ h9 => h9) hown hK hP 0 rfl rfl 10 (by decide) (fl_X4_24 ht) (fun _ h9 => h9) rfl dX4_more_31 ?_
      refine lv_iload_n hx hb dX4_more_34 rfl (lv_at hl 1 rfl) ?_
      refine lv_dup2_11 hx hb dX4_more_35 rfl rfl ?_
      refine va_iald hx hb hK hP 3 0 rfl rfl (hk c_1) dX4_more_36 ?_
      refine lv_iload_n hx hb dX4_more_37 rfl (lv_at hl 2 rfl) ?_
      refine lv_iadd hx hb dX4_more_38 ?_
      refine va_iast hx hb hK hP hD hS 3 0 rfl rfl (hk c_1) dX4_more_39 (fun H locs hP hD hS => ?_)
      have hP : va_P D vwCl (wM cI cJ cZ a 0 rg bu pn pl ja lk nk bl bs bk be al tp (upd st k.toNatClampNeg ((st k.toNatClampNeg) + z)) mx my kd ky gx gy gu gv) H := hP
      have hD : va_D A (wM cI cJ cZ a 0 rg bu pn pl ja lk nk bl bs bk be al tp (upd st k.toNatClampNeg ((st k.toNatClampNeg) + z)) mx my kd ky gx gy gu gv) := hD
      refine lv_aload_n hx hb dX4_more_40 rfl (lv_at hl 0 rfl) ?_
      refine va_get (D := D) (ci := 5) (v := .ref (a 3)) (C := RX4) (T := TX4) (N := 23) hx hb (lyX4 ht) (fun _ h9 => h9) hown hK hP 0 rfl rfl 10 (by decide) (fl_X4_24 ht) (fun _ h9 => h9) rfl dX4_more_41 ?_
      refine lv_iload_n hx hb dX4_more_44 rfl (lv_at hl 1 rfl) ?_
      refine va_iald hx hb hK hP 3 0 rfl rfl (hk c_1) dX4_more_45 ?_
      exact wr_i hx hb hr hlocks hAe hP hD hS dX4_more_46 (⟨by unfold f_X4_more; rw [if_neg c_1, if_neg c_2], by simp only [f_X4_more_fa, f_X4_more_st, if_neg c_1, if_neg c_2]⟩)
    · skip
      refine lv_bipush (v := -2) hx hb dX4_more_27 (by decide) ?_
      exact wr_i hx hb hr hlocks hAe hP hD hS dX4_more_29 (⟨by unfold f_X4_more; rw [if_neg c_1, if_pos c_2], by simp only [f_X4_more_fa, f_X4_more_st, if_neg c_1, if_pos c_2]⟩)
  · skip
    refine lv_iconst (v := -1) hx hb dX4_more_13 (by decide) ?_
    exact wr_i hx hb hr hlocks hAe hP hD hS dX4_more_14 (⟨by unfold f_X4_more; rw [if_pos c_1], by simp only [f_X4_more_fa, f_X4_more_st, if_pos c_1]⟩)
def f_X4_line (r : Int32) (j : Int32) (z : Int32) (rg : Int32) (bu : Int32) : Int32 := if (f_X4_isRing r rg) = 0 then 0 else (if (f_X4_in j.toInt64 (-10000000) 10000000) = 0 then -2 else (if (f_X4_in z.toInt64 (-10000000) 10000000) = 0 then -2 else (if bu ≤ r then 1 else -3)))
def f_X4_line_fa (r : Int32) (j : Int32) (z : Int32) (rg : Int32) (bu : Int32) : Int32 := if (f_X4_isRing r rg) = 0 then 1 else (if (f_X4_in j.toInt64 (-10000000) 10000000) = 0 then 0 else (if (f_X4_in z.toInt64 (-10000000) 10000000) = 0 then 0 else (if bu ≤ r then 0 else 0)))
def f_X4_line_mx (r : Int32) (j : Int32) (z : Int32) (rg : Int32) (bu : Int32) (mx : Nat → Int32) : Nat → Int32 := if (f_X4_isRing r rg) = 0 then mx else (if (f_X4_in j.toInt64 (-10000000) 10000000) = 0 then mx else (if (f_X4_in z.toInt64 (-10000000) 10000000) = 0 then mx else (if bu ≤ r then (upd mx r.toNatClampNeg j) else mx)))
def f_X4_line_my (r : Int32) (j : Int32) (z : Int32) (rg : Int32) (bu : Int32) (my : Nat → Int32) : Nat → Int32 := if (f_X4_isRing r rg) = 0 then my else (if (f_X4_in j.toInt64 (-10000000) 10000000) = 0 then my else (if (f_X4_in z.toInt64 (-10000000) 10000000) = 0 then my else (if bu ≤ r then (upd my r.toNatClampNeg z) else my)))
set_option maxRecDepth 20000 in
set_option maxHeartbeats 4000000 in
theorem k_X4_line (l : Launch) (D : va_G) (cI cJ cZ : ClassId) (a : Nat → Nat) (fa rg bu pn pl ja lk nk bl : Int32) (bs : Int64) (bk be : Int32) (al tp st mx my kd ky : Nat → Int32) (gx gy gu gv : Nat → Int64) (r : Int32) (j : Int32) (z : Int32) (hk : ¬ f_X4_isRing r rg = 0 → vp_in r 24) : WR l yX4_line cX4_line 4 (some .int) 1 0 0 D (tysW cI cJ cZ) (wM cI cJ cZ a fa rg bu pn pl ja lk nk bl bs bk be al tp st mx my kd ky gx gy gu gv) [.ref (a 0), .int r, .int j, .int z] (fun ov w' => ov = some (.int (f_X4_line r j z rg bu)) ∧ w' = wM cI cJ cZ a (f_X4_line_fa r j z rg bu) rg bu pn pl ja lk nk bl bs bk be al tp st (f_X4_line_mx r j z rg bu mx) (f_X4_line_my r j z rg bu my) kd ky gx gy gu gv) := by
  refine WR.of (by decide) ?_
  intro p e s m below meth c A hadm hx hb hr hml hown hlocks hname hE hP hK hD hS hA hAe
  have hown : s.vm.findClass RX4 = some m.cls := hown
  have ht : tb_OK s := hE.1
  have hl := lv_entry ([.ref (a 0), .int r, .int j, .int z]) (n := 4) (Nat.le_of_ble_eq_true rfl)
  rw [lg_entry_eq]
  generalize (lg_sl ([.ref (a 0), .int r, .int j, .int z]) ++ List.replicate (4 - (lg_sl ([.ref (a 0), .int r, .int j, .int z])).length) Slot.unset).toArray = ls at hl ⊢
  have hl : lv_has ls 4 [(0, .ref (a 0)), (1, .int r), (2, .int j), (3, .int z)] := hl
  refine lv_aload_n hx hb dX4_line_0 rfl (lv_at hl 0 rfl) ?_
  refine lv_aload_n hx hb dX4_line_1 rfl (lv_at hl 0 rfl) ?_
  refine lv_iload_n hx hb dX4_line_2 rfl (lv_at hl 1 rfl) ?_
  refine rdV (As := [.int r]) (rest := [.ref (a 0)]) (st1 := [.int (f_X4_isRing r rg), .ref (a 0)]) (k_X4_isRing l D cI cJ cZ a fa rg bu pn pl ja lk nk bl bs bk be al tp st mx my kd ky gx gy gu gv r) (si_X4_79 ht ⟨Nat.le_of_ble_eq_true rfl, Nat.le_of_ble_eq_true rfl⟩) hx hb hml hown (va_recv hK hP (ci := 5) (q0 := 0) rfl rfl) (hE.since hS) hP hK rfl hl.1 rfl (Nat.le_of_ble_eq_true rfl) ⟨Nat.zero_le _, Nat.zero_le _⟩ dX4_line_3 rfl ?_
  refine lv_if_eq (tgt := 13) hx hb dX4_line_6 (by decide) (fun c_1 => ?_) (fun c_1 => ?_)
  · skip
    refine lv_iconst (v := 1) hx hb dX4_line_13 (by decide) ?_
    refine va_put (D := D) (ci := 5) (v := .int 1) (ty := .int) (C := RX4) (T := TX4) (N := 23) hx hb (lyX4 ht) (fun _ h9 => h9) tyX4 tyX4_ok nmX4 hown hK hP hD hS 0 rfl rfl 0 (by decide) (fl_X4_55 ht) (fun _ h9 => h9) rfl (by decide +kernel) rfl rfl (Nat.le_of_ble_eq_true rfl) dX4_line_14 (fun H locs hP hD hS => ?_)
    have hP : va_P D vwCl (wM cI cJ cZ a 1 rg bu pn pl ja lk nk bl bs bk be al tp st mx my kd ky gx gy gu gv) H := hP
    have hD : va_D A (wM cI cJ cZ a 1 rg bu pn pl ja lk nk bl bs bk be al tp st mx my kd ky gx gy gu gv) := hD
    refine lv_aload_n hx hb dX4_line_17 rfl (lv_at hl 0 rfl) ?_
    refine va_get (D := D) (ci := 5) (v := .int 1) (C := RX4) (T := TX4) (N := 23) hx hb (lyX4 ht) (fun _ h9 => h9) hown hK hP 0 rfl rfl 0 (by decide) (fl_X4_55 ht) (fun _ h9 => h9) rfl dX4_line_18 ?_
    refine lv_if_le (tgt := 26) hx hb dX4_line_21 (by decide) (fun c_2 => absurd c_2 (by decide)) (fun c_2 => ?_)
    refine lv_iconst (v := 0) hx hb dX4_line_24 (by decide) ?_
    exact wr_i hx hb hr hlocks hAe hP hD hS dX4_line_25 (⟨by unfold f_X4_line; rw [if_pos c_1], by simp only [f_X4_line_fa, f_X4_line_mx, f_X4_line_my, if_pos c_1]⟩)
  · skip
    refine lv_iconst (v := 0) hx hb dX4_line_9 (by decide) ?_
    refine lv_goto (tgt := 14) hx hb dX4_line_10 (by decide) ?_
    refine va_put (D := D) (ci := 5) (v := .int 0) (ty := .int) (C := RX4) (T := TX4) (N := 23) hx hb (lyX4 ht) (fun _ h9 => h9) tyX4 tyX4_ok nmX4 hown hK hP hD hS 0 rfl rfl 0 (by decide) (fl_X4_55 ht) (fun _ h9 => h9) rfl (by decide +kernel) rfl rfl (Nat.le_of_ble_eq_true rfl) dX4_line_14 (fun H locs hP hD hS => ?_)
    have hP : va_P D vwCl (wM cI cJ cZ a 0 rg bu pn pl ja lk nk bl bs bk be al tp st mx my kd ky gx gy gu gv) H := hP
    have hD : va_D A (wM cI cJ cZ a 0 rg bu pn pl ja lk nk bl bs bk be al tp st mx my kd ky gx gy gu gv) := hD
    refine lv_aload_n hx hb dX4_line_17 rfl (lv_at hl 0 rfl) ?_
    refine va_get (D := D) (ci := 5) (v := .int 0) (C := RX4) (T := TX4) (N := 23) hx hb (lyX4 ht) (fun _ h9 => h9) hown hK hP 0 rfl rfl 0 (by decide) (fl_X4_55 ht) (fun _ h9 => h9) rfl dX4_line_18 ?_
    refine lv_if_le (tgt := 26) hx hb dX4_line_21 (by decide) (fun c_3 => ?_) (fun c_3 => absurd (by decide) c_3)
    refine lv_iload_n hx hb dX4_line_26 rfl (lv_at hl 2 rfl) ?_
    refine lv_i2l (v := j.toInt64) hx hb dX4_line_27 rfl ?_
    refine lv_ldc2 (v := -10000000) hx hb hown (kl_X4_82 ht) dX4_line_28 ?_
    refine lv_ldc2 (v := 10000000) hx hb hown (kl_X4_84 ht) dX4_line_31 ?_
    refine rdS (As := [.long j.toInt64, .long (-10000000), .long 10000000]) (rest := []) (st1 := [.int (f_X4_in j.toInt64 (-10000000) 10000000)]) (k_X4_in l D (tysW cI cJ cZ) j.toInt64 (-10000000) 10000000) (si_X4_69 ht ⟨Nat.le_of_ble_eq_true rfl, Nat.le_of_ble_eq_true rfl⟩) hx hb hml hown (hE.since hS) pNil hK rfl hl.1 rfl (Nat.le_of_ble_eq_true rfl) ⟨Nat.zero_le _, Nat.zero_le _⟩ dX4_line_34 rfl ?_
    refine lv_if_eq (tgt := 54) hx hb dX4_line_37 (by decide) (fun c_4 => ?_) (fun c_4 => ?_)
    · skip
      refine lv_bipush (v := -2) hx hb dX4_line_54 (by decide) ?_
      exact wr_i hx hb hr hlocks hAe hP hD hS dX4_line_56 (⟨by unfold f_X4_line; rw [if_neg c_1, if_pos c_4], by simp only [f_X4_line_fa, f_X4_line_mx, f_X4_line_my, if_neg c_1, if_pos c_4]⟩)
    · skip
      refine lv_iload_n hx hb dX4_line_40 rfl (lv_at hl 3 rfl) ?_
      refine lv_i2l (v := z.toInt64) hx hb dX4_line_41 rfl ?_
      refine lv_ldc2 (v := -10000000) hx hb hown (kl_X4_82 ht) dX4_line_42 ?_
      refine lv_ldc2 (v := 10000000) hx hb hown (kl_X4_84 ht) dX4_line_45 ?_
      refine rdS (As := [.long z.toInt64, .long (-10000000), .long 10000000]) (rest := []) (st1 := [.int (f_X4_in z.toInt64 (-10000000) 10000000)]) (k_X4_in l D (tysW cI cJ cZ) z.toInt64 (-10000000) 10000000) (si_X4_69 ht ⟨Nat.le_of_ble_eq_true rfl, Nat.le_of_ble_eq_true rfl⟩) hx hb hml hown (hE.since hS) pNil hK rfl hl.1 rfl (Nat.le_of_ble_eq_true rfl) ⟨Nat.zero_le _, Nat.zero_le _⟩ dX4_line_48 rfl ?_
      refine lv_if_ne (tgt := 57) hx hb dX4_line_51 (by decide) (fun c_5 => ?_) (fun c_5 => ?_)
      · skip
        refine lv_iload_n hx hb dX4_line_57 rfl (lv_at hl 1 rfl) ?_
        refine lv_aload_n hx hb dX4_line_58 rfl (lv_at hl 0 rfl) ?_
        refine va_get (D := D) (ci := 5) (v := .int bu) (C := RX4) (T := TX4) (N := 23) hx hb (lyX4 ht) (fun _ h9 => h9) hown hK hP 0 rfl rfl 2 (by decide) (fl_X4_61 ht) (fun _ h9 => h9) rfl dX4_line_59 ?_
        refine lv_icmp_ge (tgt := 68) hx hb dX4_line_62 (by decide) (fun c_6 => ?_) (fun c_6 => ?_)
        · skip
          refine lv_aload_n hx hb dX4_line_68 rfl (lv_at hl 0 rfl) ?_
          refine va_get (D := D) (ci := 5) (v := .ref (a 4)) (C := RX4) (T := TX4) (N := 23) hx hb (lyX4 ht) (fun _ h9 => h9) hown hK hP 0 rfl rfl 11 (by decide) (fl_X4_27 ht) (fun _ h9 => h9) rfl dX4_line_69 ?_
          refine lv_iload_n hx hb dX4_line_72 rfl (lv_at hl 1 rfl) ?_
          refine lv_iload_n hx hb dX4_line_73 rfl (lv_at hl 2 rfl) ?_
          refine va_iast hx hb hK hP hD hS 4 0 rfl rfl (hk c_1) dX4_line_74 (fun H locs hP hD hS => ?_)
          have hP : va_P D vwCl (wM cI cJ cZ a 0 rg bu pn pl ja lk nk bl bs bk be al tp st (upd mx r.toNatClampNeg j) my kd ky gx gy gu gv) H := hP
          have hD : va_D A (wM cI cJ cZ a 0 rg bu pn pl ja lk nk bl bs bk be al tp st (upd mx r.toNatClampNeg j) my kd ky gx gy gu gv) := hD
          refine lv_aload_n hx hb dX4_line_75 rfl (lv_at hl 0 rfl) ?_
          refine va_get (D := D) (ci := 5) (v := .ref (a 5)) (C := RX4) (T := TX4) (N := 23) hx hb (lyX4 ht) (fun _ h9 => h9) hown hK hP 0 rfl rfl 12 (by decide) (fl_X4_30 ht) (fun _ h9 => h9) rfl dX4_line_76 ?_
          refine lv_iload_n hx hb dX4_line_79 rfl (lv_at hl 1 rfl) ?_
          refine lv_iload_n hx hb dX4_line_80 rfl (lv_at hl 3 rfl) ?_
          refine va_iast hx hb hK hP hD hS 5 0 rfl rfl (hk c_1) dX4_line_81 (fun H locs hP hD hS => ?_)
          have hP : va_P D vwCl (wM cI cJ cZ a 0 rg bu pn pl ja lk nk bl bs bk be al tp st (upd mx r.toNatClampNeg j) (upd my r.toNatClampNeg z) kd ky gx gy gu gv) H := hP
          have hD : va_D A (wM cI cJ cZ a 0 rg bu pn pl ja lk nk bl bs bk be al tp st (upd mx r.toNatClampNeg j) (upd my r.toNatClampNeg z) kd ky gx gy gu gv) := hD
          refine lv_iconst (v := 1) hx hb dX4_line_82 (by decide) ?_
          exact wr_i hx hb hr hlocks hAe hP hD hS dX4_line_83 (⟨by unfold f_X4_line; rw [if_neg c_1, if_neg c_4, if_neg c_5, if_pos c_6], by simp only [f_X4_line_fa, f_X4_line_mx, f_X4_line_my, if_neg c_1, if_neg c_4, if_neg c_5, if_pos c_6]⟩)
        · skip
          refine lv_bipush (v := -3) hx hb dX4_line_65 (by decide) ?_
          exact wr_i hx hb hr hlocks hAe hP hD hS dX4_line_67 (⟨by unfold f_X4_line; rw [if_neg c_1, if_neg c_4, if_neg c_5, if_neg c_6], by simp only [f_X4_line_fa, f_X4_line_mx, f_X4_line_my, if_neg c_1, if_neg c_4, if_neg c_5, if_neg c_6]⟩)
      · skip
        refine lv_bipush (v := -2) hx hb dX4_line_54 (by decide) ?_
        exact wr_i hx hb hr hlocks hAe hP hD hS dX4_line_56 (⟨by unfold f_X4_line; rw [if_neg c_1, if_neg c_4, if_pos c_5], by simp only [f_X4_line_fa, f_X4_line_mx, f_X4_line_my, if_neg c_1, if_neg c_4, if_pos c_5]⟩)
def f_X4_apart (k : Int32) : Int32 := if (f_X4_in k.toInt64 1 16) = 0 then -2 else 1
def f_X4_apart_fa (k : Int32) : Int32 := if (f_X4_in k.toInt64 1 16) = 0 then 0 else 0
def f_X4_apart_ja (k : Int32) (ja : Int32) : Int32 := if (f_X4_in k.toInt64 1 16) = 0 then ja else k
set_option maxRecDepth 20000 in
set_option maxHeartbeats 4000000 in
theorem k_X4_apart (l : Launch) (D : va_G) (cI cJ cZ : ClassId) (a : Nat → Nat) (fa rg bu pn pl ja lk nk bl : Int32) (bs : Int64) (bk be : Int32) (al tp st mx my kd ky : Nat → Int32) (gx gy gu gv : Nat → Int64) (k : Int32) : WR l yX4_apart cX4_apart 2 (some .int) 1 0 0 D (tysW cI cJ cZ) (wM cI cJ cZ a fa rg bu pn pl ja lk nk bl bs bk be al tp st mx my kd ky gx gy gu gv) [.ref (a 0), .int k] (fun ov w' => ov = some (.int (f_X4_apart k)) ∧ w' = wM cI cJ cZ a (f_X4_apart_fa k) rg bu pn pl (f_X4_apart_ja k ja) lk nk bl bs bk be al tp st mx my kd ky gx gy gu gv) := by
  refine WR.of (by decide) ?_
  intro p e s m below meth c A hadm hx hb hr hml hown hlocks hname hE hP hK hD hS hA hAe
  have hown : s.vm.findClass RX4 = some m.cls := hown
  have ht : tb_OK s := hE.1
  have hl := lv_entry ([.ref (a 0), .int k]) (n := 2) (Nat.le_of_ble_eq_true rfl)
  rw [lg_entry_eq]
  generalize (lg_sl ([.ref (a 0), .int k]) ++ List.replicate (2 - (lg_sl ([.ref (a 0), .int k])).length) Slot.unset).toArray = ls at hl ⊢
  have hl : lv_has ls 2 [(0, .ref (a 0)), (1, .int k)] := hl
  refine lv_aload_n hx hb dX4_apart_0 rfl (lv_at hl 0 rfl) ?_
  refine lv_iconst (v := 0) hx hb dX4_apart_1 (by decide) ?_
  refine va_put (D := D) (ci := 5) (v := .int 0) (ty := .int) (C := RX4) (T := TX4) (N := 23) hx hb (lyX4 ht) (fun _ h9 => h9) tyX4 tyX4_ok nmX4 hown hK hP hD hS 0 rfl rfl 0 (by decide) (fl_X4_55 ht) (fun _ h9 => h9) rfl (by decide +kernel) rfl rfl (Nat.le_of_ble_eq_true rfl) dX4_apart_2 (fun H locs hP hD hS => ?_)
  have hP : va_P D vwCl (wM cI cJ cZ a 0 rg bu pn pl ja lk nk bl bs bk be al tp st mx my kd ky gx gy gu gv) H := hP
  have hD : va_D A (wM cI cJ cZ a 0 rg bu pn pl ja lk nk bl bs bk be al tp st mx my kd ky gx gy gu gv) := hD
  refine lv_iload_n hx hb dX4_apart_5 rfl (lv_at hl 1 rfl) ?_
  refine lv_i2l (v := k.toInt64) hx hb dX4_apart_6 rfl ?_
  refine lv_lconst (v := 1) hx hb dX4_apart_7 (by decide) ?_
  refine lv_ldc2 (v := 16) hx hb hown (kl_X4_86 ht) dX4_apart_8 ?_
  refine rdS (As := [.long k.toInt64, .long 1, .long 16]) (rest := []) (st1 := [.int (f_X4_in k.toInt64 1 16)]) (k_X4_in l D (tysW cI cJ cZ) k.toInt64 1 16) (si_X4_69 ht ⟨Nat.le_of_ble_eq_true rfl, Nat.le_of_ble_eq_true rfl⟩) hx hb hml hown (hE.since hS) pNil hK rfl hl.1 rfl (Nat.le_of_ble_eq_true rfl) ⟨Nat.zero_le _, Nat.zero_le _⟩ dX4_apart_11 rfl ?_
  refine lv_if_ne (tgt := 20) hx hb dX4_apart_14 (by decide) (fun c_1 => ?_) (fun c_1 => ?_)
  · skip
    refine lv_aload_n hx hb dX4_apart_20 rfl (lv_at hl 0 rfl) ?_
    refine lv_iload_n hx hb dX4_apart_21 rfl (lv_at hl 1 rfl) ?_
    refine va_put (D := D) (ci := 5) (v := .int k) (ty := .int) (C := RX4) (T := TX4) (N := 23) hx hb (lyX4 ht) (fun _ h9 => h9) tyX4 tyX4_ok nmX4 hown hK hP hD hS 0 rfl rfl 5 (by decide) (fl_X4_7 ht) (fun _ h9 => h9) rfl (by decide +kernel) rfl rfl (Nat.le_of_ble_eq_true rfl) dX4_apart_22 (fun H locs hP hD hS => ?_)
    have hP : va_P D vwCl (wM cI cJ cZ a 0 rg bu pn pl k lk nk bl bs bk be al tp st mx my kd ky gx gy gu gv) H := hP
    have hD : va_D A (wM cI cJ cZ a 0 rg bu pn pl k lk nk bl bs bk be al tp st mx my kd ky gx gy gu gv) := hD
    refine lv_iconst (v := 1) hx hb dX4_apart_25 (by decide) ?_
    exact wr_i hx hb hr hlocks hAe hP hD hS dX4_apart_26 (⟨by unfold f_X4_apart; rw [if_neg c_1], by simp only [f_X4_apart_fa, f_X4_apart_ja, if_neg c_1]⟩)
  · skip
    refine lv_bipush (v := -2) hx hb dX4_apart_17 (by decide) ?_
    exact wr_i hx hb hr hlocks hAe hP hD hS dX4_apart_19 (⟨by unfold f_X4_apart; rw [if_pos c_1], by simp only [f_X4_apart_fa, f_X4_apart_ja, if_pos c_1]⟩)
def f_X4_allow (k : Int32) (z : Int32) (al : Nat → Int32) : Int32 := if (f_X4_in k.toInt64 0 15) = 0 then 0 else (if (al k.toNatClampNeg) = z then 0 else 1)
def f_X4_allow_fa (k : Int32) (z : Int32) (al : Nat → Int32) : Int32 := if (f_X4_in k.toInt64 0 15) = 0 then 0 else (if (al k.toNatClampNeg) = z then 0 else 0)
def f_X4_allow_al (k : Int32) (z : Int32) (al : Nat → Int32) : Nat → Int32 := if (f_X4_in k.toInt64 0 15) = 0 then al else (if (al k.toNatClampNeg) = z then al else (upd al k.toNatClampNeg (vp_nar .boolean z)))
set_option maxRecDepth 20000 in
set_option maxHeartbeats 4000000 in
theorem k_X4_allow (l : Launch) (D : va_G) (cI cJ cZ : ClassId) (a : Nat → Nat) (fa rg bu pn pl ja lk nk bl : Int32) (bs : Int64) (bk be : Int32) (al tp st mx my kd ky : Nat → Int32) (gx gy gu gv : Nat → Int64) (k : Int32) (z : Int32) (hk : ¬ f_X4_in k.toInt64 0 15 = 0 → vp_in k 16) : WR l yX4_allow cX4_allow 3 (some .boolean) 1 0 0 D (tysW cI cJ cZ) (wM cI cJ cZ a fa rg bu pn pl ja lk nk bl bs bk be al tp st mx my kd ky gx gy gu gv) [.ref (a 0), .int k, .int z] (fun ov w' => ov = some (.int (f_X4_allow k z al)) ∧ w' = wM cI cJ cZ a (f_X4_allow_fa k z al) rg bu pn pl ja lk nk bl bs bk be (f_X4_allow_al k z al) tp st mx my kd ky gx gy gu gv) := by
  refine WR.of (by decide) ?_
  intro p e s m below meth c A hadm hx hb hr hml hown hlocks hname hE hP hK hD hS hA hAe
  have hown : s.vm.findClass RX4 = some m.cls := hown
  have ht : tb_OK s := hE.1
  have hl := lv_entry ([.ref (a 0), .int k, .int z]) (n := 3) (Nat.le_of_ble_eq_true rfl)
  rw [lg_entry_eq]
  generalize (lg_sl ([.ref (a 0), .int k, .int z]) ++ List.replicate (3 - (lg_sl ([.ref (a 0), .int k, .int z])).length) Slot.unset).toArray = ls at hl ⊢
  have hl : lv_has ls 3 [(0, .ref (a 0)), (1, .int k), (2, .int z)] := hl
  refine lv_aload_n hx hb dX4_allow_0 rfl (lv_at hl 0 rfl) ?_
  refine lv_iconst (v := 0) hx hb dX4_allow_1 (by decide) ?_
  refine va_put (D := D) (ci := 5) (v := .int 0) (ty := .int) (C := RX4) (T := TX4) (N := 23) hx hb (lyX4 ht) (fun _ h9 => h9) tyX4 tyX4_ok nmX4 hown hK hP hD hS 0 rfl rfl 0 (by decide) (fl_X4_55 ht) (fun _ h9 => h9) rfl (by decide +kernel) rfl rfl (Nat.le_of_ble_eq_true rfl) dX4_allow_2 (fun H locs hP hD hS => ?_)
  have hP : va_P D vwCl (wM cI cJ cZ a 0 rg bu pn pl ja lk nk bl bs bk be al tp st mx my kd ky gx gy gu gv) H := hP
  have hD : va_D A (wM cI cJ cZ a 0 rg bu pn pl ja lk nk bl bs bk be al tp st mx my kd ky gx gy gu gv) := hD
  refine lv_iload_n hx hb dX4_allow_5 rfl (lv_at hl 1 rfl) ?_
  refine lv_i2l (v := k.toInt64) hx hb dX4_allow_6 rfl ?_
  refine lv_lconst (v := 0) hx hb dX4_allow_7 (by decide) ?_
  refine lv_ldc2 (v := 15) hx hb hown (kl_X4_88 ht) dX4_allow_8 ?_
  refine rdS (As := [.long k.toInt64, .long 0, .long 15]) (rest := []) (st1 := [.int (f_X4_in k.toInt64 0 15)]) (k_X4_in l D (tysW cI cJ cZ) k.toInt64 0 15) (si_X4_69 ht ⟨Nat.le_of_ble_eq_true rfl, Nat.le_of_ble_eq_true rfl⟩) hx hb hml hown (hE.since hS) pNil hK rfl hl.1 rfl (Nat.le_of_ble_eq_true rfl) ⟨Nat.zero_le _, Nat.zero_le _⟩ dX4_allow_11 rfl ?_
  refine lv_if_eq (tgt := 27) hx hb dX4_allow_14 (by decide) (fun c_1 => ?_) (fun c_1 => ?_)
  · skip
    refine lv_iconst (v := 0) hx hb dX4_allow_27 (by decide) ?_
    exact wr_z hx hb hr hlocks hAe hP hD hS dX4_allow_28 rfl (⟨by unfold f_X4_allow; rw [if_pos c_1], by simp only [f_X4_allow_fa, f_X4_allow_al, if_pos c_1]⟩)
  · skip
    refine lv_aload_n hx hb dX4_allow_17 rfl (lv_at hl 0 rfl) ?_
    refine va_get (D := D) (ci := 5) (v := .ref (a 1)) (C := RX4) (T := TX4) (N := 23) hx hb (lyX4 ht) (fun _ h9 => h9) hown hK hP 0 rfl rfl 7 (by decide) (fl_X4_16 ht) (fun _ h9 => h9) rfl dX4_allow_18 ?_
    refine lv_iload_n hx hb dX4_allow_21 rfl (lv_at hl 1 rfl) ?_
    refine va_zald hx hb hK hP 1 2 rfl rfl (hk c_1) dX4_allow_22 ?_
    refine lv_iload_n hx hb dX4_allow_23 rfl (lv_at hl 2 rfl) ?_
    refine lv_icmp_ne (tgt := 29) hx hb dX4_allow_24 (by decide) (fun c_2 => ?_) (fun c_2 => ?_)
    · skip
      refine lv_aload_n hx hb dX4_allow_29 rfl (lv_at hl 0 rfl) ?_
      refine va_get (D := D) (ci := 5) (v := .ref (a 1)) (C := RX4) (T := TX4) (N := 23) hx hb (lyX4 ht) (fun _ h9 => h9) hown hK hP 0 rfl rfl 7 (by decide) (fl_X4_16 ht) (fun _ h9 => h9) rfl dX4_allow_30 ?_
      refine lv_iload_n hx hb dX4_allow_33 rfl (lv_at hl 1 rfl) ?_
      refine lv_iload_n hx hb dX4_allow_34 rfl (lv_at hl 2 rfl) ?_
      refine va_zast hx hb hK hP hD hS 1 2 rfl rfl (hk c_1) dX4_allow_35 (fun H locs hP hD hS => ?_)
      have hP : va_P D vwCl (wM cI cJ cZ a 0 rg bu pn pl ja lk nk bl bs bk be (upd al k.toNatClampNeg (vp_nar .boolean z)) tp st mx my kd ky gx gy gu gv) H := hP
      have hD : va_D A (wM cI cJ cZ a 0 rg bu pn pl ja lk nk bl bs bk be (upd al k.toNatClampNeg (vp_nar .boolean z)) tp st mx my kd ky gx gy gu gv) := hD
      refine lv_iconst (v := 1) hx hb dX4_allow_36 (by decide) ?_
      exact wr_z hx hb hr hlocks hAe hP hD hS dX4_allow_37 rfl (⟨by unfold f_X4_allow; rw [if_neg c_1, if_neg c_2], by simp only [f_X4_allow_fa, f_X4_allow_al, if_neg c_1, if_neg c_2]⟩)
    · skip
      refine lv_iconst (v := 0) hx hb dX4_allow_27 (by decide) ?_
      exact wr_z hx hb hr hlocks hAe hP hD hS dX4_allow_28 rfl (⟨by unfold f_X4_allow; rw [if_neg c_1, if_pos c_2], by simp only [f_X4_allow_fa, f_X4_allow_al, if_neg c_1, if_pos c_2]⟩)
def f_X4_look (k : Int32) : Int32 := if (f_X4_in k.toInt64 1 2) = 0 then -2 else 1
def f_X4_look_fa (k : Int32) : Int32 := if (f_X4_in k.toInt64 1 2) = 0 then 0 else 0
def f_X4_look_lk (k : Int32) (lk : Int32) : Int32 := if (f_X4_in k.toInt64 1 2) = 0 then lk else k
set_option maxRecDepth 20000 in
set_option maxHeartbeats 4000000 in
theorem k_X4_look (l : Launch) (D : va_G) (cI cJ cZ : ClassId) (a : Nat → Nat) (fa rg bu pn pl ja lk nk bl : Int32) (bs : Int64) (bk be : Int32) (al tp st mx my kd ky : Nat → Int32) (gx gy gu gv : Nat → Int64) (k : Int32) : WR l yX4_look cX4_look 2 (some .int) 1 0 0 D (tysW cI cJ cZ) (wM cI cJ cZ a fa rg bu pn pl ja lk nk bl bs bk be al tp st mx my kd ky gx gy gu gv) [.ref (a 0), .int k] (fun ov w' => ov = some (.int (f_X4_look k)) ∧ w' = wM cI cJ cZ a (f_X4_look_fa k) rg bu pn pl ja (f_X4_look_lk k lk) nk bl bs bk be al tp st mx my kd ky gx gy gu gv) := by
  refine WR.of (by decide) ?_
  intro p e s m below meth c A hadm hx hb hr hml hown hlocks hname hE hP hK hD hS hA hAe
  have hown : s.vm.findClass RX4 = some m.cls := hown
  have ht : tb_OK s := hE.1
  have hl := lv_entry ([.ref (a 0), .int k]) (n := 2) (Nat.le_of_ble_eq_true rfl)
  rw [lg_entry_eq]
  generalize (lg_sl ([.ref (a 0), .int k]) ++ List.replicate (2 - (lg_sl ([.ref (a 0), .int k])).length) Slot.unset).toArray = ls at hl ⊢
  have hl : lv_has ls 2 [(0, .ref (a 0)), (1, .int k)] := hl
  refine lv_aload_n hx hb dX4_look_0 rfl (lv_at hl 0 rfl) ?_
  refine lv_iconst (v := 0) hx hb dX4_look_1 (by decide) ?_
  refine va_put (D := D) (ci := 5) (v := .int 0) (ty := .int) (C := RX4) (T := TX4) (N := 23) hx hb (lyX4 ht) (fun _ h9 => h9) tyX4 tyX4_ok nmX4 hown hK hP hD hS 0 rfl rfl 0 (by decide) (fl_X4_55 ht) (fun _ h9 => h9) rfl (by decide +kernel) rfl rfl (Nat.le_of_ble_eq_true rfl) dX4_look_2 (fun H locs hP hD hS => ?_)
  have hP : va_P D vwCl (wM cI cJ cZ a 0 rg bu pn pl ja lk nk bl bs bk be al tp st mx my kd ky gx gy gu gv) H := hP
  have hD : va_D A (wM cI cJ cZ a 0 rg bu pn pl ja lk nk bl bs bk be al tp st mx my kd ky gx gy gu gv) := hD
  refine lv_iload_n hx hb dX4_look_5 rfl (lv_at hl 1 rfl) ?_
  refine lv_i2l (v := k.toInt64) hx hb dX4_look_6 rfl ?_
  refine lv_lconst (v := 1) hx hb dX4_look_7 (by decide) ?_
  refine lv_ldc2 (v := 2) hx hb hown (kl_X4_90 ht) dX4_look_8 ?_
  refine rdS (As := [.long k.toInt64, .long 1, .long 2]) (rest := []) (st1 := [.int (f_X4_in k.toInt64 1 2)]) (k_X4_in l D (tysW cI cJ cZ) k.toInt64 1 2) (si_X4_69 ht ⟨Nat.le_of_ble_eq_true rfl, Nat.le_of_ble_eq_true rfl⟩) hx hb hml hown (hE.since hS) pNil hK rfl hl.1 rfl (Nat.le_of_ble_eq_true rfl) ⟨Nat.zero_le _, Nat.zero_le _⟩ dX4_look_11 rfl ?_
  refine lv_if_ne (tgt := 20) hx hb dX4_look_14 (by decide) (fun c_1 => ?_) (fun c_1 => ?_)
  · skip
    refine lv_aload_n hx hb dX4_look_20 rfl (lv_at hl 0 rfl) ?_
    refine lv_iload_n hx hb dX4_look_21 rfl (lv_at hl 1 rfl) ?_
    refine va_put (D := D) (ci := 5) (v := .int k) (ty := .int) (C := RX4) (T := TX4) (N := 23) hx hb (lyX4 ht) (fun _ h9 => h9) tyX4 tyX4_ok nmX4 hown hK hP hD hS 0 rfl rfl 6 (by decide) (fl_X4_13 ht) (fun _ h9 => h9) rfl (by decide +kernel) rfl rfl (Nat.le_of_ble_eq_true rfl) dX4_look_22 (fun H locs hP hD hS => ?_)
    have hP : va_P D vwCl (wM cI cJ cZ a 0 rg bu pn pl ja k nk bl bs bk be al tp st mx my kd ky gx gy gu gv) H := hP
    have hD : va_D A (wM cI cJ cZ a 0 rg bu pn pl ja k nk bl bs bk be al tp st mx my kd ky gx gy gu gv) := hD
    refine lv_iconst (v := 1) hx hb dX4_look_25 (by decide) ?_
    exact wr_i hx hb hr hlocks hAe hP hD hS dX4_look_26 (⟨by unfold f_X4_look; rw [if_neg c_1], by simp only [f_X4_look_fa, f_X4_look_lk, if_neg c_1]⟩)
  · skip
    refine lv_bipush (v := -2) hx hb dX4_look_17 (by decide) ?_
    exact wr_i hx hb hr hlocks hAe hP hD hS dX4_look_19 (⟨by unfold f_X4_look; rw [if_pos c_1], by simp only [f_X4_look_fa, f_X4_look_lk, if_pos c_1]⟩)
def f_X4_note_bl (k : Int32) (u1 : Int64) (bl : Int32) (bs : Int64) : Int32 := if bl < k then k else (if k = bl then (if 0 ≤ (lg_cmp u1 bs) then bl else k) else bl)
def f_X4_note_bs (k : Int32) (u1 : Int64) (bl : Int32) (bs : Int64) : Int64 := if bl < k then u1 else (if k = bl then (if 0 ≤ (lg_cmp u1 bs) then bs else u1) else bs)
def f_X4_note_bk (k : Int32) (u1 : Int64) (j : Int32) (bl : Int32) (bs : Int64) (bk : Int32) : Int32 := if bl < k then j else (if k = bl then (if 0 ≤ (lg_cmp u1 bs) then bk else j) else bk)
def f_X4_note_be (k : Int32) (u1 : Int64) (z : Int32) (bl : Int32) (bs : Int64) (be : Int32) : Int32 := if bl < k then z else (if k = bl then (if 0 ≤ (lg_cmp u1 bs) then be else z) else be)
set_option maxRecDepth 20000 in
set_option maxHeartbeats 4000000 in
theorem k_X4_note (l : Launch) (D : va_G) (cI cJ cZ : ClassId) (a : Nat → Nat) (fa rg bu pn pl ja lk nk bl : Int32) (bs : Int64) (bk be : Int32) (al tp st mx my kd ky : Nat → Int32) (gx gy gu gv : Nat → Int64) (k : Int32) (u1 : Int64) (j : Int32) (z : Int32) : WR l yX4_note cX4_note 6 none 0 0 0 D (tysW cI cJ cZ) (wM cI cJ cZ a fa rg bu pn pl ja lk nk bl bs bk be al tp st mx my kd ky gx gy gu gv) [.ref (a 0), .int k, .long u1, .int j, .int z] (fun ov w' => ov = none ∧ w' = wM cI cJ cZ a fa rg bu pn pl ja lk nk (f_X4_note_bl k u1 bl bs) (f_X4_note_bs k u1 bl bs) (f_X4_note_bk k u1 j bl bs bk) (f_X4_note_be k u1 z bl bs be) al tp st mx my kd ky gx gy gu gv) := by
  refine WR.of (by decide) ?_
  intro p e s m below meth c A hadm hx hb hr hml hown hlocks hname hE hP hK hD hS hA hAe
  have hown : s.vm.findClass RX4 = some m.cls := hown
  have ht : tb_OK s := hE.1
  have hl := lv_entry ([.ref (a 0), .int k, .long u1, .int j, .int z]) (n := 6) (Nat.le_of_ble_eq_true rfl)
  rw [lg_entry_eq]
  generalize (lg_sl ([.ref (a 0), .int k, .long u1, .int j, .int z]) ++ List.replicate (6 - (lg_sl ([.ref (a 0), .int k, .long u1, .int j, .int z])).length) Slot.unset).toArray = ls at hl ⊢
  have hl : lv_has ls 6 [(0, .ref (a 0)), (1, .int k), (2, .long u1), (4, .int j), (5, .int z)] := hl
  refine lv_iload_n hx hb dX4_note_0 rfl (lv_at hl 1 rfl) ?_
  refine lv_aload_n hx hb dX4_note_1 rfl (lv_at hl 0 rfl) ?_
  refine va_get (D := D) (ci := 5) (v := .int bl) (C := RX4) (T := TX4) (N := 23) hx hb (lyX4 ht) (fun _ h9 => h9) hown hK hP 0 rfl rfl 19 (by decide) (fl_X4_99 ht) (fun _ h9 => h9) rfl dX4_note_2 ?_
  refine lv_icmp_gt (tgt := 25) hx hb dX4_note_5 (by decide) (fun c_1 => ?_) (fun c_1 => ?_)
  · skip
    refine lv_aload_n hx hb dX4_note_25 rfl (lv_at hl 0 rfl) ?_
    refine lv_iload_n hx hb dX4_note_26 rfl (lv_at hl 1 rfl) ?_
    refine va_put (D := D) (ci := 5) (v := .int k) (ty := .int) (C := RX4) (T := TX4) (N := 23) hx hb (lyX4 ht) (fun _ h9 => h9) tyX4 tyX4_ok nmX4 hown hK hP hD hS 0 rfl rfl 19 (by decide) (fl_X4_99 ht) (fun _ h9 => h9) rfl (by decide +kernel) rfl rfl (Nat.le_of_ble_eq_true rfl) dX4_note_27 (fun H locs hP hD hS => ?_)
    have hP : va_P D vwCl (wM cI cJ cZ a fa rg bu pn pl ja lk nk k bs bk be al tp st mx my kd ky gx gy gu gv) H := hP
    have hD : va_D A (wM cI cJ cZ a fa rg bu pn pl ja lk nk k bs bk be al tp st mx my kd ky gx gy gu gv) := hD
    refine lv_aload_n hx hb dX4_note_30 rfl (lv_at hl 0 rfl) ?_
    refine lv_lload_n hx hb dX4_note_31 rfl (lv_at hl 2 rfl) ?_
    refine va_put (D := D) (ci := 5) (v := .long u1) (ty := .long) (C := RX4) (T := TX4) (N := 23) hx hb (lyX4 ht) (fun _ h9 => h9) tyX4 tyX4_ok nmX4 hown hK hP hD hS 0 rfl rfl 20 (by decide) (fl_X4_102 ht) (fun _ h9 => h9) rfl (by decide +kernel) rfl rfl (Nat.le_of_ble_eq_true rfl) dX4_note_32 (fun H locs hP hD hS => ?_)
    have hP : va_P D vwCl (wM cI cJ cZ a fa rg bu pn pl ja lk nk k u1 bk be al tp st mx my kd ky gx gy gu gv) H := hP
    have hD : va_D A (wM cI cJ cZ a fa rg bu pn pl ja lk nk k u1 bk be al tp st mx my kd ky gx gy gu gv) := hD
    refine lv_aload_n hx hb dX4_note_35 rfl (lv_at hl 0 rfl) ?_
    refine lv_iload hx hb dX4_note_36 (lv_at hl 3 rfl) ?_
    refine va_put (D := D) (ci := 5) (v := .int j) (ty := .int) (C := RX4) (T := TX4) (N := 23) hx hb (lyX4 ht) (fun _ h9 => h9) tyX4 tyX4_ok nmX4 hown hK hP hD hS 0 rfl rfl 21 (by decide) (fl_X4_106 ht) (fun _ h9 => h9) rfl (by decide +kernel) rfl rfl (Nat.le_of_ble_eq_true rfl) dX4_note_38 (fun H locs hP hD hS => ?_)
    have hP : va_P D vwCl (wM cI cJ cZ a fa rg bu pn pl ja lk nk k u1 j be al tp st mx my kd ky gx gy gu gv) H := hP
    have hD : va_D A (wM cI cJ cZ a fa rg bu pn pl ja lk nk k u1 j be al tp st mx my kd ky gx gy gu gv) := hD
    refine lv_aload_n hx hb dX4_note_41 rfl (lv_at hl 0 rfl) ?_
    refine lv_iload hx hb dX4_note_42 (lv_at hl 4 rfl) ?_
    refine va_put (D := D) (ci := 5) (v := .int z) (ty := .int) (C := RX4) (T := TX4) (N := 23) hx hb (lyX4 ht) (fun _ h9 => h9) tyX4 tyX4_ok nmX4 hown hK hP hD hS 0 rfl rfl 22 (by decide) (fl_X4_109 ht) (fun _ h9 => h9) rfl (by decide +kernel) rfl rfl (Nat.le_of_ble_eq_true rfl) dX4_note_44 (fun H locs hP hD hS => ?_)
    have hP : va_P D vwCl (wM cI cJ cZ a fa rg bu pn pl ja lk nk k u1 j z al tp st mx my kd ky gx gy gu gv) H := hP
    have hD : va_D A (wM cI cJ cZ a fa rg bu pn pl ja lk nk k u1 j z al tp st mx my kd ky gx gy gu gv) := hD
    exact wr_v hx hb hr hlocks hAe hP hD hS dX4_note_47 (⟨rfl, by simp only [f_X4_note_bl, f_X4_note_bs, f_X4_note_bk, f_X4_note_be, if_pos c_1]⟩)
  · skip
    refine lv_iload_n hx hb dX4_note_8 rfl (lv_at hl 1 rfl) ?_
    refine lv_aload_n hx hb dX4_note_9 rfl (lv_at hl 0 rfl) ?_
    refine va_get (D := D) (ci := 5) (v := .int bl) (C := RX4) (T := TX4) (N := 23) hx hb (lyX4 ht) (fun _ h9 => h9) hown hK hP 0 rfl rfl 19 (by decide) (fl_X4_99 ht) (fun _ h9 => h9) rfl dX4_note_10 ?_
    refine lv_icmp_ne (tgt := 47) hx hb dX4_note_13 (by decide) (fun c_2 => ?_) (fun c_2 => ?_)
    · skip
      exact wr_v hx hb hr hlocks hAe hP hD hS dX4_note_47 (⟨rfl, by simp only [f_X4_note_bl, f_X4_note_bs, f_X4_note_bk, f_X4_note_be, if_neg c_1, if_neg c_2]⟩)
    · skip
      refine lv_lload_n hx hb dX4_note_16 rfl (lv_at hl 2 rfl) ?_
      refine lv_aload_n hx hb dX4_note_17 rfl (lv_at hl 0 rfl) ?_
      refine va_get (D := D) (ci := 5) (v := .long bs) (C := RX4) (T := TX4) (N := 23) hx hb (lyX4 ht) (fun _ h9 => h9) hown hK hP 0 rfl rfl 20 (by decide) (fl_X4_102 ht) (fun _ h9 => h9) rfl dX4_note_18 ?_
      refine W.lcmp hx hb dX4_note_21 ?_
      refine lv_if_ge (tgt := 47) hx hb dX4_note_22 (by decide) (fun c_3 => ?_) (fun c_3 => ?_)
      · skip
        exact wr_v hx hb hr hlocks hAe hP hD hS dX4_note_47 (⟨rfl, by simp only [f_X4_note_bl, f_X4_note_bs, f_X4_note_bk, f_X4_note_be, if_neg c_1, if_pos c_2, if_pos c_3]⟩)
      · skip
        refine lv_aload_n hx hb dX4_note_25 rfl (lv_at hl 0 rfl) ?_
        refine lv_iload_n hx hb dX4_note_26 rfl (lv_at hl 1 rfl) ?_
        refine va_put (D := D) (ci := 5) (v := .int k) (ty := .int) (C := RX4) (T := TX4) (N := 23) hx hb (lyX4 ht) (fun _ h9 => h9) tyX4 tyX4_ok nmX4 hown hK hP hD hS 0 rfl rfl 19 (by decide) (fl_X4_99 ht) (fun _ h9 => h9) rfl (by decide +kernel) rfl rfl (Nat.le_of_ble_eq_true rfl) dX4_note_27 (fun H locs hP hD hS => ?_)
        have hP : va_P D vwCl (wM cI cJ cZ a fa rg bu pn pl ja lk nk k bs bk be al tp st mx my kd ky gx gy gu gv) H := hP
        have hD : va_D A (wM cI cJ cZ a fa rg bu pn pl ja lk nk k bs bk be al tp st mx my kd ky gx gy gu gv) := hD
        refine lv_aload_n hx hb dX4_note_30 rfl (lv_at hl 0 rfl) ?_
        refine lv_lload_n hx hb dX4_note_31 rfl (lv_at hl 2 rfl) ?_
        refine va_put (D := D) (ci := 5) (v := .long u1) (ty := .long) (C := RX4) (T := TX4) (N := 23) hx hb (lyX4 ht) (fun _ h9 => h9) tyX4 tyX4_ok nmX4 hown hK hP hD hS 0 rfl rfl 20 (by decide) (fl_X4_102 ht) (fun _ h9 => h9) rfl (by decide +kernel) rfl rfl (Nat.le_of_ble_eq_true rfl) dX4_note_32 (fun H locs hP hD hS => ?_)
        have hP : va_P D vwCl (wM cI cJ cZ a fa rg bu pn pl ja lk nk k u1 bk be al tp st mx my kd ky gx gy gu gv) H := hP
        have hD : va_D A (wM cI cJ cZ a fa rg bu pn pl ja lk nk k u1 bk be al tp st mx my kd ky gx gy gu gv) := hD
        refine lv_aload_n hx hb dX4_note_35 rfl (lv_at hl 0 rfl) ?_
        refine lv_iload hx hb dX4_note_36 (lv_at hl 3 rfl) ?_
        refine va_put (D := D) (ci := 5) (v := .int j) (ty := .int) (C := RX4) (T := TX4) (N := 23) hx hb (lyX4 ht) (fun _ h9 => h9) tyX4 tyX4_ok nmX4 hown hK hP hD hS 0 rfl rfl 21 (by decide) (fl_X4_106 ht) (fun _ h9 => h9) rfl (by decide +kernel) rfl rfl (Nat.le_of_ble_eq_true rfl) dX4_note_38 (fun H locs hP hD hS => ?_)
        have hP : va_P D vwCl (wM cI cJ cZ a fa rg bu pn pl ja lk nk k u1 j be al tp st mx my kd ky gx gy gu gv) H := hP
        have hD : va_D A (wM cI cJ cZ a fa rg bu pn pl ja lk nk k u1 j be al tp st mx my kd ky gx gy gu gv) := hD
        refine lv_aload_n hx hb dX4_note_41 rfl (lv_at hl 0 rfl) ?_
        refine lv_iload hx hb dX4_note_42 (lv_at hl 4 rfl) ?_
        refine va_put (D := D) (ci := 5) (v := .int z) (ty := .int) (C := RX4) (T := TX4) (N := 23) hx hb (lyX4 ht) (fun _ h9 => h9) tyX4 tyX4_ok nmX4 hown hK hP hD hS 0 rfl rfl 22 (by decide) (fl_X4_109 ht) (fun _ h9 => h9) rfl (by decide +kernel) rfl rfl (Nat.le_of_ble_eq_true rfl) dX4_note_44 (fun H locs hP hD hS => ?_)
        have hP : va_P D vwCl (wM cI cJ cZ a fa rg bu pn pl ja lk nk k u1 j z al tp st mx my kd ky gx gy gu gv) H := hP
        have hD : va_D A (wM cI cJ cZ a fa rg bu pn pl ja lk nk k u1 j z al tp st mx my kd ky gx gy gu gv) := hD
        exact wr_v hx hb hr hlocks hAe hP hD hS dX4_note_47 (⟨rfl, by simp only [f_X4_note_bl, f_X4_note_bs, f_X4_note_bk, f_X4_note_be, if_neg c_1, if_pos c_2, if_neg c_3]⟩)
def f_X4_build (k : Int32) (bu : Int32) (pn : Int32) : Int32 := if 1 ≤ k then (if k ≤ pn then (bu + k) else -3) else -2
def f_X4_build_fa (k : Int32) (pn : Int32) : Int32 := if 1 ≤ k then (if k ≤ pn then 0 else 0) else 0
def f_X4_build_bu (k : Int32) (bu : Int32) (pn : Int32) : Int32 := if 1 ≤ k then (if k ≤ pn then (bu + k) else bu) else bu
def f_X4_build_pn (k : Int32) (pn : Int32) : Int32 := if 1 ≤ k then (if k ≤ pn then (pn - k) else pn) else pn
set_option maxRecDepth 20000 in
set_option maxHeartbeats 4000000 in
theorem k_X4_build (l : Launch) (D : va_G) (cI cJ cZ : ClassId) (a : Nat → Nat) (fa rg bu pn pl ja lk nk bl : Int32) (bs : Int64) (bk be : Int32) (al tp st mx my kd ky : Nat → Int32) (gx gy gu gv : Nat → Int64) (k : Int32) : WR l yX4_build cX4_build 2 (some .int) 0 0 0 D (tysW cI cJ cZ) (wM cI cJ cZ a fa rg bu pn pl ja lk nk bl bs bk be al tp st mx my kd ky gx gy gu gv) [.ref (a 0), .int k] (fun ov w' => ov = some (.int (f_X4_build k bu pn)) ∧ w' = wM cI cJ cZ a (f_X4_build_fa k pn) rg (f_X4_build_bu k bu pn) (f_X4_build_pn k pn) pl ja lk nk bl bs bk be al tp st mx my kd ky gx gy gu gv) := by
  refine WR.of (by decide) ?_
  intro p e s m below meth c A hadm hx hb hr hml hown hlocks hname hE hP hK hD hS hA hAe
  have hown : s.vm.findClass RX4 = some m.cls := hown
  have ht : tb_OK s := hE.1
  have hl := lv_entry ([.ref (a 0), .int k]) (n := 2) (Nat.le_of_ble_eq_true rfl)
  rw [lg_entry_eq]
  generalize (lg_sl ([.ref (a 0), .int k]) ++ List.replicate (2 - (lg_sl ([.ref (a 0), .int k])).length) Slot.unset).toArray = ls at hl ⊢
  have hl : lv_has ls 2 [(0, .ref (a 0)), (1, .int k)] := hl
  refine lv_aload_n hx hb dX4_build_0 rfl (lv_at hl 0 rfl) ?_
  refine lv_iconst (v := 0) hx hb dX4_build_1 (by decide) ?_
  refine va_put (D := D) (ci := 5) (v := .int 0) (ty := .int) (C := RX4) (T := TX4) (N := 23) hx hb (lyX4 ht) (fun _ h9 => h9) tyX4 tyX4_ok nmX4 hown hK hP hD hS 0 rfl rfl 0 (by decide) (fl_X4_55 ht) (fun _ h9 => h9) rfl (by decide +kernel) rfl rfl (Nat.le_of_ble_eq_true rfl) dX4_build_2 (fun H locs hP hD hS => ?_)
  have hP : va_P D vwCl (wM cI cJ cZ a 0 rg bu pn pl ja lk nk bl bs bk be al tp st mx my kd ky gx gy gu gv) H := hP
  have hD : va_D A (wM cI cJ cZ a 0 rg bu pn pl ja lk nk bl bs bk be al tp st mx my kd ky gx gy gu gv) := hD
  refine lv_iload_n hx hb dX4_build_5 rfl (lv_at hl 1 rfl) ?_
  refine lv_iconst (v := 1) hx hb dX4_build_6 (by decide) ?_
  refine lv_icmp_ge (tgt := 13) hx hb dX4_build_7 (by decide) (fun c_1 => ?_) (fun c_1 => ?_)
  · skip
    refine lv_iload_n hx hb dX4_build_13 rfl (lv_at hl 1 rfl) ?_
    refine lv_aload_n hx hb dX4_build_14 rfl (lv_at hl 0 rfl) ?_
    refine va_get (D := D) (ci := 5) (v := .int pn) (C := RX4) (T := TX4) (N := 23) hx hb (lyX4 ht) (fun _ h9 => h9) hown hK hP 0 rfl rfl 3 (by decide) (fl_X4_64 ht) (fun _ h9 => h9) rfl dX4_build_15 ?_
    refine lv_icmp_le (tgt := 24) hx hb dX4_build_18 (by decide) (fun c_2 => ?_) (fun c_2 => ?_)
    · skip
      refine lv_aload_n hx hb dX4_build_24 rfl (lv_at hl 0 rfl) ?_
      refine lv_dup hx hb dX4_build_25 rfl ?_
      refine va_get (D := D) (ci := 5) (v := .int bu) (C := RX4) (T := TX4) (N := 23) hx hb (lyX4 ht) (fun _ h9 => h9) hown hK hP 0 rfl rfl 2 (by decide) (fl_X4_61 ht) (fun _ h9 => h9) rfl dX4_build_26 ?_
      refine lv_iload_n hx hb dX4_build_29 rfl (lv_at hl 1 rfl) ?_
      refine lv_iadd hx hb dX4_build_30 ?_
      refine va_put (D := D) (ci := 5) (v := .int (bu + k)) (ty := .int) (C := RX4) (T := TX4) (N := 23) hx hb (lyX4 ht) (fun _ h9 => h9) tyX4 tyX4_ok nmX4 hown hK hP hD hS 0 rfl rfl 2 (by decide) (fl_X4_61 ht) (fun _ h9 => h9) rfl (by decide +kernel) rfl rfl (Nat.le_of_ble_eq_true rfl) dX4_build_31 (fun H locs hP hD hS => ?_)
      have hP : va_P D vwCl (wM cI cJ cZ a 0 rg (bu + k) pn pl ja lk nk bl bs bk be al tp st mx my kd ky gx gy gu gv) H := hP
      have hD : va_D A (wM cI cJ cZ a 0 rg (bu + k) pn pl ja lk nk bl bs bk be al tp st mx my kd ky gx gy gu gv) := hD
      refine lv_aload_n hx hb dX4_build_34 rfl (lv_at hl 0 rfl) ?_
      refine lv_dup hx hb dX4_build_35 rfl ?_
      refine va_get (D := D) (ci := 5) (v := .int pn) (C := RX4) (T := TX4) (N := 23) hx hb (lyX4 ht) (fun _ h9 => h9) hown hK hP 0 rfl rfl 3 (by decide) (fl_X4_64 ht) (fun _ h9 => h9) rfl dX4_build_36 ?_
      refine lv_iload_n hx hb dX4_build_39 rfl (lv_at hl 1 rfl) ?_
      refine lv_isub hx hb dX4_build_40 ?_
      refine va_put (D := D) (ci := 5) (v := .int (pn - k)) (ty := .int) (C := RX4) (T := TX4) (N := 23) hx hb (lyX4 ht) (fun _ h9 => h9) tyX4 tyX4_ok nmX4 hown hK hP hD hS 0 rfl rfl 3 (by decide) (fl_X4_64 ht) (fun _ h9 => h9) rfl (by decide +kernel) rfl rfl (Nat.le_of_ble_eq_true rfl) dX4_build_41 (fun H locs hP hD hS => ?_)
      have hP : va_P D vwCl (wM cI cJ cZ a 0 rg (bu + k) (pn - k) pl ja lk nk bl bs bk be al tp st mx my kd ky gx gy gu gv) H := hP
      have hD : va_D A (wM cI cJ cZ a 0 rg (bu + k) (pn - k) pl ja lk nk bl bs bk be al tp st mx my kd ky gx gy gu gv) := hD
      refine lv_aload_n hx hb dX4_build_44 rfl (lv_at hl 0 rfl) ?_
      refine va_get (D := D) (ci := 5) (v := .int (bu + k)) (C := RX4) (T := TX4) (N := 23) hx hb (lyX4 ht) (fun _ h9 => h9) hown hK hP 0 rfl rfl 2 (by decide) (fl_X4_61 ht) (fun _ h9 => h9) rfl dX4_build_45 ?_
      exact wr_i hx hb hr hlocks hAe hP hD hS dX4_build_48 (⟨by unfold f_X4_build; rw [if_pos c_1, if_pos c_2], by simp only [f_X4_build_fa, f_X4_build_bu, f_X4_build_pn, if_pos c_1, if_pos c_2]⟩)
    · skip
      refine lv_bipush (v := -3) hx hb dX4_build_21 (by decide) ?_
      exact wr_i hx hb hr hlocks hAe hP hD hS dX4_build_23 (⟨by unfold f_X4_build; rw [if_pos c_1, if_neg c_2], by simp only [f_X4_build_fa, f_X4_build_bu, f_X4_build_pn, if_pos c_1, if_neg c_2]⟩)
  · skip
    refine lv_bipush (v := -2) hx hb dX4_build_10 (by decide) ?_
    exact wr_i hx hb hr hlocks hAe hP hD hS dX4_build_12 (⟨by unfold f_X4_build; rw [if_neg c_1], by simp only [f_X4_build_fa, f_X4_build_bu, f_X4_build_pn, if_neg c_1]⟩)
def f_X4_set_kd (r : Int32) (k : Int32) (kd : Nat → Int32) : Nat → Int32 := if r = 0 then (upd kd r.toNatClampNeg k) else (upd kd r.toNatClampNeg k)
def f_X4_set_ky (r : Int32) (z : Int32) (ky : Nat → Int32) : Nat → Int32 := if r = 0 then (upd ky r.toNatClampNeg z) else (upd ky r.toNatClampNeg z)
def f_X4_set_gx (r : Int32) (k : Int32) (z : Int32) (tp : Nat → Int32) (gx : Nat → Int64) (gu : Nat → Int64) : Nat → Int64 := if r = 0 then (vp_updL gx r.toNatClampNeg ((0 + 0) + ((vp_updL gu r.toNatClampNeg (0 + (((tp k.toNatClampNeg) * (f_X4_c z)).toInt64))) r.toNatClampNeg))) else (vp_updL gx r.toNatClampNeg (((gx (r - 1).toNatClampNeg) + (gu (r - 1).toNatClampNeg)) + ((vp_updL gu r.toNatClampNeg ((gu (r - 1).toNatClampNeg) + (((tp k.toNatClampNeg) * (f_X4_c z)).toInt64))) r.toNatClampNeg)))
def f_X4_set_gy (r : Int32) (k : Int32) (z : Int32) (tp : Nat → Int32) (gy : Nat → Int64) (gv : Nat → Int64) : Nat → Int64 := if r = 0 then (vp_updL gy r.toNatClampNeg ((0 + 0) + ((vp_updL gv r.toNatClampNeg (0 + (((tp k.toNatClampNeg) * (f_X4_c (z - 4))).toInt64))) r.toNatClampNeg))) else (vp_updL gy r.toNatClampNeg (((gy (r - 1).toNatClampNeg) + (gv (r - 1).toNatClampNeg)) + ((vp_updL gv r.toNatClampNeg ((gv (r - 1).toNatClampNeg) + (((tp k.toNatClampNeg) * (f_X4_c (z - 4))).toInt64))) r.toNatClampNeg)))
def f_X4_set_gu (r : Int32) (k : Int32) (z : Int32) (tp : Nat → Int32) (gu : Nat → Int64) : Nat → Int64 := if r = 0 then (vp_updL gu r.toNatClampNeg (0 + (((tp k.toNatClampNeg) * (f_X4_c z)).toInt64))) else (vp_updL gu r.toNatClampNeg ((gu (r - 1).toNatClampNeg) + (((tp k.toNatClampNeg) * (f_X4_c z)).toInt64)))
def f_X4_set_gv (r : Int32) (k : Int32) (z : Int32) (tp : Nat → Int32) (gv : Nat → Int64) : Nat → Int64 := if r = 0 then (vp_updL gv r.toNatClampNeg (0 + (((tp k.toNatClampNeg) * (f_X4_c (z - 4))).toInt64))) else (vp_updL gv r.toNatClampNeg ((gv (r - 1).toNatClampNeg) + (((tp k.toNatClampNeg) * (f_X4_c (z - 4))).toInt64)))
set_option maxRecDepth 20000 in
set_option maxHeartbeats 4000000 in
theorem k_X4_set (l : Launch) (D : va_G) (cI cJ cZ : ClassId) (a : Nat → Nat) (fa rg bu pn pl ja lk nk bl : Int32) (bs : Int64) (bk be : Int32) (al tp st mx my kd ky : Nat → Int32) (gx gy gu gv : Nat → Int64) (r : Int32) (k : Int32) (z : Int32) (h0 : vp_in r 24) (h1 : ¬ r = 0 → vp_in (r - 1) 24) (h2 : vp_in k 4) : WR l yX4_set cX4_set 8 none 1 0 0 D (tysW cI cJ cZ) (wM cI cJ cZ a fa rg bu pn pl ja lk nk bl bs bk be al tp st mx my kd ky gx gy gu gv) [.ref (a 0), .int r, .int k, .int z] (fun ov w' => ov = none ∧ w' = wM cI cJ cZ a fa rg bu pn pl ja lk nk bl bs bk be al tp st mx my (f_X4_set_kd r k kd) (f_X4_set_ky r z ky) (f_X4_set_gx r k z tp gx gu) (f_X4_set_gy r k z tp gy gv) (f_X4_set_gu r k z tp gu) (f_X4_set_gv r k z tp gv)) := by
  refine WR.of (by decide) ?_
  intro p e s m below meth c A hadm hx hb hr hml hown hlocks hname hE hP hK hD hS hA hAe
  have hown : s.vm.findClass RX4 = some m.cls := hown
  have ht : tb_OK s := hE.1
  have hl := lv_entry ([.ref (a 0), .int r, .int k, .int z]) (n := 8) (Nat.le_of_ble_eq_true rfl)
  rw [lg_entry_eq]
  generalize (lg_sl ([.ref (a 0), .int r, .int k, .int z]) ++ List.replicate (8 - (lg_sl ([.ref (a 0), .int r, .int k, .int z])).length) Slot.unset).toArray = ls at hl ⊢
  have hl : lv_has ls 8 [(0, .ref (a 0)), (1, .int r), (2, .int k), (3, .int z)] := hl
  refine lv_aload_n hx hb dX4_set_0 rfl (lv_at hl 0 rfl) ?_
  refine va_get (D := D) (ci := 5) (v := .ref (a 6)) (C := RX4) (T := TX4) (N := 23) hx hb (lyX4 ht) (fun _ h9 => h9) hown hK hP 0 rfl rfl 13 (by decide) (fl_X4_33 ht) (fun _ h9 => h9) rfl dX4_set_1 ?_
  refine lv_iload_n hx hb dX4_set_4 rfl (lv_at hl 1 rfl) ?_
  refine lv_iload_n hx hb dX4_set_5 rfl (lv_at hl 2 rfl) ?_
  refine va_iast hx hb hK hP hD hS 6 0 rfl rfl h0 dX4_set_6 (fun H locs hP hD hS => ?_)
  have hP : va_P D vwCl (wM cI cJ cZ a fa rg bu pn pl ja lk nk bl bs bk be al tp st mx my (upd kd r.toNatClampNeg k) ky gx gy gu gv) H := hP
  have hD : va_D A (wM cI cJ cZ a fa rg bu pn pl ja lk nk bl bs bk be al tp st mx my (upd kd r.toNatClampNeg k) ky gx gy gu gv) := hD
  refine lv_aload_n hx hb dX4_set_7 rfl (lv_at hl 0 rfl) ?_
  refine va_get (D := D) (ci := 5) (v := .ref (a 7)) (C := RX4) (T := TX4) (N := 23) hx hb (lyX4 ht) (fun _ h9 => h9) hown hK hP 0 rfl rfl 14 (by decide) (fl_X4_36 ht) (fun _ h9 => h9) rfl dX4_set_8 ?_
  refine lv_iload_n hx hb dX4_set_11 rfl (lv_at hl 1 rfl) ?_
  refine lv_iload_n hx hb dX4_set_12 rfl (lv_at hl 3 rfl) ?_
  refine va_iast hx hb hK hP hD hS 7 0 rfl rfl h0 dX4_set_13 (fun H locs hP hD hS => ?_)
  have hP : va_P D vwCl (wM cI cJ cZ a fa rg bu pn pl ja lk nk bl bs bk be al tp st mx my (upd kd r.toNatClampNeg k) (upd ky r.toNatClampNeg z) gx gy gu gv) H := hP
  have hD : va_D A (wM cI cJ cZ a fa rg bu pn pl ja lk nk bl bs bk be al tp st mx my (upd kd r.toNatClampNeg k) (upd ky r.toNatClampNeg z) gx gy gu gv) := hD
  refine lv_iload_n hx hb dX4_set_14 rfl (lv_at hl 1 rfl) ?_
  refine lv_if_ne (tgt := 22) hx hb dX4_set_15 (by decide) (fun c_1 => ?_) (fun c_1 => ?_)
  · skip
    refine lv_aload_n hx hb dX4_set_22 rfl (lv_at hl 0 rfl) ?_
    refine va_get (D := D) (ci := 5) (v := .ref (a 10)) (C := RX4) (T := TX4) (N := 23) hx hb (lyX4 ht) (fun _ h9 => h9) hown hK hP 0 rfl rfl 17 (by decide) (fl_X4_46 ht) (fun _ h9 => h9) rfl dX4_set_23 ?_
    refine lv_iload_n hx hb dX4_set_26 rfl (lv_at hl 1 rfl) ?_
    refine lv_iconst (v := 1) hx hb dX4_set_27 (by decide) ?_
    refine lv_isub hx hb dX4_set_28 ?_
    refine va_lald hx hb hK hP 10 1 rfl rfl (h1 c_1) dX4_set_29 ?_
    refine lv_lstore (lv' := [(4, .long (gu (r - 1).toNatClampNeg)), (0, .ref (a 0)), (1, .int r), (2, .int k), (3, .int z)]) hx hb dX4_set_30 hl (by decide) rfl (fun ls hl => ?_)
    refine lv_iload_n hx hb dX4_set_32 rfl (lv_at hl 2 rfl) ?_
    refine lv_if_ne (tgt := 40) hx hb dX4_set_33 (by decide) (fun _ => ?_) (fun c_2 => absurd c_2 c_1)
    refine lv_aload_n hx hb dX4_set_40 rfl (lv_at hl 1 rfl) ?_
    refine va_get (D := D) (ci := 5) (v := .ref (a 11)) (C := RX4) (T := TX4) (N := 23) hx hb (lyX4 ht) (fun _ h9 => h9) hown hK hP 0 rfl rfl 18 (by decide) (fl_X4_49 ht) (fun _ h9 => h9) rfl dX4_set_41 ?_
    refine lv_iload_n hx hb dX4_set_44 rfl (lv_at hl 2 rfl) ?_
    refine lv_iconst (v := 1) hx hb dX4_set_45 (by decide) ?_
    refine lv_isub hx hb dX4_set_46 ?_
    refine va_lald hx hb hK hP 11 1 rfl rfl (h1 c_1) dX4_set_47 ?_
    refine lv_lstore (lv' := [(6, .long (gv (r - 1).toNatClampNeg)), (4, .long (gu (r - 1).toNatClampNeg)), (0, .ref (a 0)), (1, .int r), (2, .int k), (3, .int z)]) hx hb dX4_set_48 hl (by decide) rfl (fun ls hl => ?_)
    refine lv_aload_n hx hb dX4_set_50 rfl (lv_at hl 2 rfl) ?_
    refine va_get (D := D) (ci := 5) (v := .ref (a 10)) (C := RX4) (T := TX4) (N := 23) hx hb (lyX4 ht) (fun _ h9 => h9) hown hK hP 0 rfl rfl 17 (by decide) (fl_X4_46 ht) (fun _ h9 => h9) rfl dX4_set_51 ?_
    refine lv_iload_n hx hb dX4_set_54 rfl (lv_at hl 3 rfl) ?_
    refine lv_lload hx hb dX4_set_55 (lv_at hl 1 rfl) ?_
    refine lv_aload_n hx hb dX4_set_57 rfl (lv_at hl 2 rfl) ?_
    refine va_get (D := D) (ci := 5) (v := .ref (a 2)) (C := RX4) (T := TX4) (N := 23) hx hb (lyX4 ht) (fun _ h9 => h9) hown hK hP 0 rfl rfl 9 (by decide) (fl_X4_20 ht) (fun _ h9 => h9) rfl dX4_set_58 ?_
    refine lv_iload_n hx hb dX4_set_61 rfl (lv_at hl 4 rfl) ?_
    refine va_iald hx hb hK hP 2 0 rfl rfl h2 dX4_set_62 ?_
    refine lv_iload_n hx hb dX4_set_63 rfl (lv_at hl 5 rfl) ?_
    refine rdS (As := [.int z]) (rest := [.int (tp k.toNatClampNeg), .long (gu (r - 1).toNatClampNeg), .int r, .ref (a 10)]) (st1 := [.int (f_X4_c z), .int (tp k.toNatClampNeg), .long (gu (r - 1).toNatClampNeg), .int r, .ref (a 10)]) (k_X4_c l D (tysW cI cJ cZ) z) (si_X4_92 ht ⟨Nat.le_of_ble_eq_true rfl, Nat.le_of_ble_eq_true rfl⟩) hx hb hml hown (hE.since hS) pNil hK rfl hl.1 rfl (Nat.le_of_ble_eq_true rfl) ⟨Nat.zero_le _, Nat.zero_le _⟩ dX4_set_64 rfl ?_
    refine lv_imul hx hb dX4_set_67 ?_
    refine lv_i2l (v := ((tp k.toNatClampNeg) * (f_X4_c z)).toInt64) hx hb dX4_set_68 rfl ?_
    refine lv_ladd hx hb dX4_set_69 ?_
    refine va_last hx hb hK hP hD hS 10 1 rfl rfl h0 dX4_set_70 (fun H locs hP hD hS => ?_)
    have hP : va_P D vwCl (wM cI cJ cZ a fa rg bu pn pl ja lk nk bl bs bk be al tp st mx my (upd kd r.toNatClampNeg k) (upd ky r.toNatClampNeg z) gx gy (vp_updL gu r.toNatClampNeg ((gu (r - 1).toNatClampNeg) + (((tp k.toNatClampNeg) * (f_X4_c z)).toInt64))) gv) H := hP
    have hD : va_D A (wM cI cJ cZ a fa rg bu pn pl ja lk nk bl bs bk be al tp st mx my (upd kd r.toNatClampNeg k) (upd ky r.toNatClampNeg z) gx gy (vp_updL gu r.toNatClampNeg ((gu (r - 1).toNatClampNeg) + (((tp k.toNatClampNeg) * (f_X4_c z)).toInt64))) gv) := hD
    refine lv_aload_n hx hb dX4_set_71 rfl (lv_at hl 2 rfl) ?_
    refine va_get (D := D) (ci := 5) (v := .ref (a 11)) (C := RX4) (T := TX4) (N := 23) hx hb (lyX4 ht) (fun _ h9 => h9) hown hK hP 0 rfl rfl 18 (by decide) (fl_X4_49 ht) (fun _ h9 => h9) rfl dX4_set_72 ?_
    refine lv_iload_n hx hb dX4_set_75 rfl (lv_at hl 3 rfl) ?_
    refine lv_lload hx hb dX4_set_76 (lv_at hl 0 rfl) ?_
    refine lv_aload_n hx hb dX4_set_78 rfl (lv_at hl 2 rfl) ?_
    refine va_get (D := D) (ci := 5) (v := .ref (a 2)) (C := RX4) (T := TX4) (N := 23) hx hb (lyX4 ht) (fun _ h9 => h9) hown hK hP 0 rfl rfl 9 (by decide) (fl_X4_20 ht) (fun _ h9 => h9) rfl dX4_set_79 ?_
    refine lv_iload_n hx hb dX4_set_82 rfl (lv_at hl 4 rfl) ?_
    refine va_iald hx hb hK hP 2 0 rfl rfl h2 dX4_set_83 ?_
    refine lv_iload_n hx hb dX4_set_84 rfl (lv_at hl 5 rfl) ?_
    refine lv_iconst (v := 4) hx hb dX4_set_85 (by decide) ?_
    refine lv_isub hx hb dX4_set_86 ?_
    refine rdS (As := [.int (z - 4)]) (rest := [.int (tp k.toNatClampNeg), .long (gv (r - 1).toNatClampNeg), .int r, .ref (a 11)]) (st1 := [.int (f_X4_c (z - 4)), .int (tp k.toNatClampNeg), .long (gv (r - 1).toNatClampNeg), .int r, .ref (a 11)]) (k_X4_c l D (tysW cI cJ cZ) (z - 4)) (si_X4_92 ht ⟨Nat.le_of_ble_eq_true rfl, Nat.le_of_ble_eq_true rfl⟩) hx hb hml hown (hE.since hS) pNil hK rfl hl.1 rfl (Nat.le_of_ble_eq_true rfl) ⟨Nat.zero_le _, Nat.zero_le _⟩ dX4_set_87 rfl ?_
    refine lv_imul hx hb dX4_set_90 ?_
    refine lv_i2l (v := ((tp k.toNatClampNeg) * (f_X4_c (z - 4))).toInt64) hx hb dX4_set_91 rfl ?_
    refine lv_ladd hx hb dX4_set_92 ?_
    refine va_last hx hb hK hP hD hS 11 1 rfl rfl h0 dX4_set_93 (fun H locs hP hD hS => ?_)
    have hP : va_P D vwCl (wM cI cJ cZ a fa rg bu pn pl ja lk nk bl bs bk be al tp st mx my (upd kd r.toNatClampNeg k) (upd ky r.toNatClampNeg z) gx gy (vp_updL gu r.toNatClampNeg ((gu (r - 1).toNatClampNeg) + (((tp k.toNatClampNeg) * (f_X4_c z)).toInt64))) (vp_updL gv r.toNatClampNeg ((gv (r - 1).toNatClampNeg) + (((tp k.toNatClampNeg) * (f_X4_c (z - 4))).toInt64)))) H := hP
    have hD : va_D A (wM cI cJ cZ a fa rg bu pn pl ja lk nk bl bs bk be al tp st mx my (upd kd r.toNatClampNeg k) (upd ky r.toNatClampNeg z) gx gy (vp_updL gu r.toNatClampNeg ((gu (r - 1).toNatClampNeg) + (((tp k.toNatClampNeg) * (f_X4_c z)).toInt64))) (vp_updL gv r.toNatClampNeg ((gv (r - 1).toNatClampNeg) + (((tp k.toNatClampNeg) * (f_X4_c (z - 4))).toInt64)))) := hD
    refine lv_aload_n hx hb dX4_set_94 rfl (lv_at hl 2 rfl) ?_
    refine va_get (D := D) (ci := 5) (v := .ref (a 8)) (C := RX4) (T := TX4) (N := 23) hx hb (lyX4 ht) (fun _ h9 => h9) hown hK hP 0 rfl rfl 15 (by decide) (fl_X4_39 ht) (fun _ h9 => h9) rfl dX4_set_95 ?_
    refine lv_iload_n hx hb dX4_set_98 rfl (lv_at hl 3 rfl) ?_
    refine lv_iload_n hx hb dX4_set_99 rfl (lv_at hl 3 rfl) ?_
    refine lv_if_ne (tgt := 107) hx hb dX4_set_100 (by decide) (fun _ => ?_) (fun c_3 => absurd c_3 c_1)
    refine lv_aload_n hx hb dX4_set_107 rfl (lv_at hl 2 rfl) ?_
    refine va_get (D := D) (ci := 5) (v := .ref (a 8)) (C := RX4) (T := TX4) (N := 23) hx hb (lyX4 ht) (fun _ h9 => h9) hown hK hP 0 rfl rfl 15 (by decide) (fl_X4_39 ht) (fun _ h9 => h9) rfl dX4_set_108 ?_
    refine lv_iload_n hx hb dX4_set_111 rfl (lv_at hl 3 rfl) ?_
    refine lv_iconst (v := 1) hx hb dX4_set_112 (by decide) ?_
    refine lv_isub hx hb dX4_set_113 ?_
    refine va_lald hx hb hK hP 8 1 rfl rfl (h1 c_1) dX4_set_114 ?_
    refine lv_lload hx hb dX4_set_115 (lv_at hl 1 rfl) ?_
    refine lv_ladd hx hb dX4_set_117 ?_
    refine lv_aload_n hx hb dX4_set_118 rfl (lv_at hl 2 rfl) ?_
    refine va_get (D := D) (ci := 5) (v := .ref (a 10)) (C := RX4) (T := TX4) (N := 23) hx hb (lyX4 ht) (fun _ h9 => h9) hown hK hP 0 rfl rfl 17 (by decide) (fl_X4_46 ht) (fun _ h9 => h9) rfl dX4_set_119 ?_
    refine lv_iload_n hx hb dX4_set_122 rfl (lv_at hl 3 rfl) ?_
    refine va_lald hx hb hK hP 10 1 rfl rfl h0 dX4_set_123 ?_
    refine lv_ladd hx hb dX4_set_124 ?_
    refine va_last hx hb hK hP hD hS 8 1 rfl rfl h0 dX4_set_125 (fun H locs hP hD hS => ?_)
    have hP : va_P D vwCl (wM cI cJ cZ a fa rg bu pn pl ja lk nk bl bs bk be al tp st mx my (upd kd r.toNatClampNeg k) (upd ky r.toNatClampNeg z) (vp_updL gx r.toNatClampNeg (((gx (r - 1).toNatClampNeg) + (gu (r - 1).toNatClampNeg)) + ((vp_updL gu r.toNatClampNeg ((gu (r - 1).toNatClampNeg) + (((tp k.toNatClampNeg) * (f_X4_c z)).toInt64))) r.toNatClampNeg))) gy (vp_updL gu r.toNatClampNeg ((gu (r - 1).toNatClampNeg) + (((tp k.toNatClampNeg) * (f_X4_c z)).toInt64))) (vp_updL gv r.toNatClampNeg ((gv (r - 1).toNatClampNeg) + (((tp k.toNatClampNeg) * (f_X4_c (z - 4))).toInt64)))) H := hP
    have hD : va_D A (wM cI cJ cZ a fa rg bu pn pl ja lk nk bl bs bk be al tp st mx my (upd kd r.toNatClampNeg k) (upd ky r.toNatClampNeg z) (vp_updL gx r.toNatClampNeg (((gx (r - 1).toNatClampNeg) + (gu (r - 1).toNatClampNeg)) + ((vp_updL gu r.toNatClampNeg ((gu (r - 1).toNatClampNeg) + (((tp k.toNatClampNeg) * (f_X4_c z)).toInt64))) r.toNatClampNeg))) gy (vp_updL gu r.toNatClampNeg ((gu (r - 1).toNatClampNeg) + (((tp k.toNatClampNeg) * (f_X4_c z)).toInt64))) (vp_updL gv r.toNatClampNeg ((gv (r - 1).toNatClampNeg) + (((tp k.toNatClampNeg) * (f_X4_c (z - 4))).toInt64)))) := hD
    refine lv_aload_n hx hb dX4_set_126 rfl (lv_at hl 2 rfl) ?_
    refine va_get (D := D) (ci := 5) (v := .ref (a 9)) (C := RX4) (T := TX4) (N := 23) hx hb (lyX4 ht) (fun _ h9 => h9) hown hK hP 0 rfl rfl 16 (by decide) (fl_X4_43 ht) (fun _ h9 => h9) rfl dX4_set_127 ?_
    refine lv_iload_n hx hb dX4_set_130 rfl (lv_at hl 3 rfl) ?_
    refine lv_iload_n hx hb dX4_set_131 rfl (lv_at hl 3 rfl) ?_
    refine lv_if_ne (tgt := 139) hx hb dX4_set_132 (by decide) (fun _ => ?_) (fun c_4 => absurd c_4 c_1)
    refine lv_aload_n hx hb dX4_set_139 rfl (lv_at hl 2 rfl) ?_
    refine va_get (D := D) (ci := 5) (v := .ref (a 9)) (C := RX4) (T := TX4) (N := 23) hx hb (lyX4 ht) (fun _ h9 => h9) hown hK hP 0 rfl rfl 16 (by decide) (fl_X4_43 ht) (fun _ h9 => h9) rfl dX4_set_140 ?_
    refine lv_iload_n hx hb dX4_set_143 rfl (lv_at hl 3 rfl) ?_
    refine lv_iconst (v := 1) hx hb dX4_set_144 (by decide) ?_
    refine lv_isub hx hb dX4_set_145 ?_
    refine va_lald hx hb hK hP 9 1 rfl rfl (h1 c_1) dX4_set_146 ?_
    refine lv_lload hx hb dX4_set_147 (lv_at hl 0 rfl) ?_
    refine lv_ladd hx hb dX4_set_149 ?_
    refine lv_aload_n hx hb dX4_set_150 rfl (lv_at hl 2 rfl) ?_
    refine va_get (D := D) (ci := 5) (v := .ref (a 11)) (C := RX4) (T := TX4) (N := 23) hx hb (lyX4 ht) (fun _ h9 => h9) hown hK hP 0 rfl rfl 18 (by decide) (fl_X4_49 ht) (fun _ h9 => h9) rfl dX4_set_151 ?_
    refine lv_iload_n hx hb dX4_set_154 rfl (lv_at hl 3 rfl) ?_
    refine va_lald hx hb hK hP 11 1 rfl rfl h0 dX4_set_155 ?_
    refine lv_ladd hx hb dX4_set_156 ?_
    refine va_last hx hb hK hP hD hS 9 1 rfl rfl h0 dX4_set_157 (fun H locs hP hD hS => ?_)
    have hP : va_P D vwCl (wM cI cJ cZ a fa rg bu pn pl ja lk nk bl bs bk be al tp st mx my (upd kd r.toNatClampNeg k) (upd ky r.toNatClampNeg z) (vp_updL gx r.toNatClampNeg (((gx (r - 1).toNatClampNeg) + (gu (r - 1).toNatClampNeg)) + ((vp_updL gu r.toNatClampNeg ((gu (r - 1).toNatClampNeg) + (((tp k.toNatClampNeg) * (f_X4_c z)).toInt64))) r.toNatClampNeg))) (vp_updL gy r.toNatClampNeg (((gy (r - 1).toNatClampNeg) + (gv (r - 1).toNatClampNeg)) + ((vp_updL gv r.toNatClampNeg ((gv (r - 1).toNatClampNeg) + (((tp k.toNatClampNeg) * (f_X4_c (z - 4))).toInt64))) r.toNatClampNeg))) (vp_updL gu r.toNatClampNeg ((gu (r - 1).toNatClampNeg) + (((tp k.toNatClampNeg) * (f_X4_c z)).toInt64))) (vp_updL gv r.toNatClampNeg ((gv (r - 1).toNatClampNeg) + (((tp k.toNatClampNeg) * (f_X4_c (z - 4))).toInt64)))) H := hP
    have hD : va_D A (wM cI cJ cZ a fa rg bu pn pl ja lk nk bl bs bk be al tp st mx my (upd kd r.toNatClampNeg k) (upd ky r.toNatClampNeg z) (vp_updL gx r.toNatClampNeg (((gx (r - 1).toNatClampNeg) + (gu (r - 1).toNatClampNeg)) + ((vp_updL gu r.toNatClampNeg ((gu (r - 1).toNatClampNeg) + (((tp k.toNatClampNeg) * (f_X4_c z)).toInt64))) r.toNatClampNeg))) (vp_updL gy r.toNatClampNeg (((gy (r - 1).toNatClampNeg) + (gv (r - 1).toNatClampNeg)) + ((vp_updL gv r.toNatClampNeg ((gv (r - 1).toNatClampNeg) + (((tp k.toNatClampNeg) * (f_X4_c (z - 4))).toInt64))) r.toNatClampNeg))) (vp_updL gu r.toNatClampNeg ((gu (r - 1).toNatClampNeg) + (((tp k.toNatClampNeg) * (f_X4_c z)).toInt64))) (vp_updL gv r.toNatClampNeg ((gv (r - 1).toNatClampNeg) + (((tp k.toNatClampNeg) * (f_X4_c (z - 4))).toInt64)))) := hD
    exact wr_v hx hb hr hlocks hAe hP hD hS dX4_set_158 (⟨rfl, by simp only [f_X4_set_kd, f_X4_set_ky, f_X4_set_gx, f_X4_set_gy, f_X4_set_gu, f_X4_set_gv, if_neg c_1]⟩)
  · skip
    refine lv_lconst (v := 0) hx hb dX4_set_18 (by decide) ?_
    refine lv_goto (tgt := 30) hx hb dX4_set_19 (by decide) ?_
    refine lv_lstore (lv' := [(4, .long 0), (0, .ref (a 0)), (1, .int r), (2, .int k), (3, .int z)]) hx hb dX4_set_30 hl (by decide) rfl (fun ls hl => ?_)
    refine lv_iload_n hx hb dX4_set_32 rfl (lv_at hl 2 rfl) ?_
    refine lv_if_ne (tgt := 40) hx hb dX4_set_33 (by decide) (fun c_5 => absurd c_1 c_5) (fun _ => ?_)
    refine lv_lconst (v := 0) hx hb dX4_set_36 (by decide) ?_
    refine lv_goto (tgt := 48) hx hb dX4_set_37 (by decide) ?_
    refine lv_lstore (lv' := [(6, .long 0), (4, .long 0), (0, .ref (a 0)), (1, .int r), (2, .int k), (3, .int z)]) hx hb dX4_set_48 hl (by decide) rfl (fun ls hl => ?_)
    refine lv_aload_n hx hb dX4_set_50 rfl (lv_at hl 2 rfl) ?_
    refine va_get (D := D) (ci := 5) (v := .ref (a 10)) (C := RX4) (T := TX4) (N := 23) hx hb (lyX4 ht) (fun _ h9 => h9) hown hK hP 0 rfl rfl 17 (by decide) (fl_X4_46 ht) (fun _ h9 => h9) rfl dX4_set_51 ?_
    refine lv_iload_n hx hb dX4_set_54 rfl (lv_at hl 3 rfl) ?_
    refine lv_lload hx hb dX4_set_55 (lv_at hl 1 rfl) ?_
    refine lv_aload_n hx hb dX4_set_57 rfl (lv_at hl 2 rfl) ?_
    refine va_get (D := D) (ci := 5) (v := .ref (a 2)) (C := RX4) (T := TX4) (N := 23) hx hb (lyX4 ht) (fun _ h9 => h9) hown hK hP 0 rfl rfl 9 (by decide) (fl_X4_20 ht) (fun _ h9 => h9) rfl dX4_set_58 ?_
    refine lv_iload_n hx hb dX4_set_61 rfl (lv_at hl 4 rfl) ?_
    refine va_iald hx hb hK hP 2 0 rfl rfl h2 dX4_set_62 ?_
    refine lv_iload_n hx hb dX4_set_63 rfl (lv_at hl 5 rfl) ?_
    refine rdS (As := [.int z]) (rest := [.int (tp k.toNatClampNeg), .long 0, .int r, .ref (a 10)]) (st1 := [.int (f_X4_c z), .int (tp k.toNatClampNeg), .long 0, .int r, .ref (a 10)]) (k_X4_c l D (tysW cI cJ cZ) z) (si_X4_92 ht ⟨Nat.le_of_ble_eq_true rfl, Nat.le_of_ble_eq_true rfl⟩) hx hb hml hown (hE.since hS) pNil hK rfl hl.1 rfl (Nat.le_of_ble_eq_true rfl) ⟨Nat.zero_le _, Nat.zero_le _⟩ dX4_set_64 rfl ?_
    refine lv_imul hx hb dX4_set_67 ?_
    refine lv_i2l (v := ((tp k.toNatClampNeg) * (f_X4_c z)).toInt64) hx hb dX4_set_68 rfl ?_
    refine lv_ladd hx hb dX4_set_69 ?_
    refine va_last hx hb hK hP hD hS 10 1 rfl rfl h0 dX4_set_70 (fun H locs hP hD hS => ?_)
    have hP : va_P D vwCl (wM cI cJ cZ a fa rg bu pn pl ja lk nk bl bs bk be al tp st mx my (upd kd r.toNatClampNeg k) (upd ky r.toNatClampNeg z) gx gy (vp_updL gu r.toNatClampNeg (0 + (((tp k.toNatClampNeg) * (f_X4_c z)).toInt64))) gv) H := hP
    have hD : va_D A (wM cI cJ cZ a fa rg bu pn pl ja lk nk bl bs bk be al tp st mx my (upd kd r.toNatClampNeg k) (upd ky r.toNatClampNeg z) gx gy (vp_updL gu r.toNatClampNeg (0 + (((tp k.toNatClampNeg) * (f_X4_c z)).toInt64))) gv) := hD
    refine lv_aload_n hx hb dX4_set_71 rfl (lv_at hl 2 rfl) ?_
    refine va_get (D := D) (ci := 5) (v := .ref (a 11)) (C := RX4) (T := TX4) (N := 23) hx hb (lyX4 ht) (fun _ h9 => h9) hown hK hP 0 rfl rfl 18 (by decide) (fl_X4_49 ht) (fun _ h9 => h9) rfl dX4_set_72 ?_
    refine lv_iload_n hx hb dX4_set_75 rfl (lv_at hl 3 rfl) ?_
    refine lv_lload hx hb dX4_set_76 (lv_at hl 0 rfl) ?_
    refine lv_aload_n hx hb dX4_set_78 rfl (lv_at hl 2 rfl) ?_
    refine va_get (D := D) (ci := 5) (v := .ref (a 2)) (C := RX4) (T := TX4) (N := 23) hx hb (lyX4 ht) (fun _ h9 => h9) hown hK hP 0 rfl rfl 9 (by decide) (fl_X4_20 ht) (fun _ h9 => h9) rfl dX4_set_79 ?_
    refine lv_iload_n hx hb dX4_set_82 rfl (lv_at hl 4 rfl) ?_
    refine va_iald hx hb hK hP 2 0 rfl rfl h2 dX4_set_83 ?_
    refine lv_iload_n hx hb dX4_set_84 rfl (lv_at hl 5 rfl) ?_
    refine lv_iconst (v := 4) hx hb dX4_set_85 (by decide) ?_
    refine lv_isub hx hb dX4_set_86 ?_
    refine rdS (As := [.int (z - 4)]) (rest := [.int (tp k.toNatClampNeg), .long 0, .int r, .ref (a 11)]) (st1 := [.int (f_X4_c (z - 4)), .int (tp k.toNatClampNeg), .long 0, .int r, .ref (a 11)]) (k_X4_c l D (tysW cI cJ cZ) (z - 4)) (si_X4_92 ht ⟨Nat.le_of_ble_eq_true rfl, Nat.le_of_ble_eq_true rfl⟩) hx hb hml hown (hE.since hS) pNil hK rfl hl.1 rfl (Nat.le_of_ble_eq_true rfl) ⟨Nat.zero_le _, Nat.zero_le _⟩ dX4_set_87 rfl ?_
    refine lv_imul hx hb dX4_set_90 ?_
    refine lv_i2l (v := ((tp k.toNatClampNeg) * (f_X4_c (z - 4))).toInt64) hx hb dX4_set_91 rfl ?_
    refine lv_ladd hx hb dX4_set_92 ?_
    refine va_last hx hb hK hP hD hS 11 1 rfl rfl h0 dX4_set_93 (fun H locs hP hD hS => ?_)
    have hP : va_P D vwCl (wM cI cJ cZ a fa rg bu pn pl ja lk nk bl bs bk be al tp st mx my (upd kd r.toNatClampNeg k) (upd ky r.toNatClampNeg z) gx gy (vp_updL gu r.toNatClampNeg (0 + (((tp k.toNatClampNeg) * (f_X4_c z)).toInt64))) (vp_updL gv r.toNatClampNeg (0 + (((tp k.toNatClampNeg) * (f_X4_c (z - 4))).toInt64)))) H := hP
    have hD : va_D A (wM cI cJ cZ a fa rg bu pn pl ja lk nk bl bs bk be al tp st mx my (upd kd r.toNatClampNeg k) (upd ky r.toNatClampNeg z) gx gy (vp_updL gu r.toNatClampNeg (0 + (((tp k.toNatClampNeg) * (f_X4_c z)).toInt64))) (vp_updL gv r.toNatClampNeg (0 + (((tp k.toNatClampNeg) * (f_X4_c (z - 4))).toInt64)))) := hD
    refine lv_aload_n hx hb dX4_set_94 rfl (lv_at hl 2 rfl) ?_
    refine va_get (D := D) (ci := 5) (v := .ref (a 8)) (C := RX4) (T := TX4) (N := 23) hx hb (lyX4 ht) (fun _ h9 => h9) hown hK hP 0 rfl rfl 15 (by decide) (fl_X4_39 ht) (fun _ h9 => h9) rfl dX4_set_95 ?_
    refine lv_iload_n hx hb dX4_set_98 rfl (lv_at hl 3 rfl) ?_
    refine lv_iload_n hx hb dX4_set_99 rfl (lv_at hl 3 rfl) ?_
    refine lv_if_ne (tgt := 107) hx hb dX4_set_100 (by decide) (fun c_6 => absurd c_1 c_6) (fun _ => ?_)
    refine lv_lconst (v := 0) hx hb dX4_set_103 (by decide) ?_
    refine lv_goto (tgt := 115) hx hb dX4_set_104 (by decide) ?_
    refine lv_lload hx hb dX4_set_115 (lv_at hl 1 rfl) ?_
    refine lv_ladd hx hb dX4_set_117 ?_
    refine lv_aload_n hx hb dX4_set_118 rfl (lv_at hl 2 rfl) ?_
    refine va_get (D := D) (ci := 5) (v := .ref (a 10)) (C := RX4) (T := TX4) (N := 23) hx hb (lyX4 ht) (fun _ h9 => h9) hown hK hP 0 rfl rfl 17 (by decide) (fl_X4_46 ht) (fun _ h9 => h9) rfl dX4_set_119 ?_
    refine lv_iload_n hx hb dX4_set_122 rfl (lv_at hl 3 rfl) ?_
    refine va_lald hx hb hK hP 10 1 rfl rfl h0 dX4_set_123 ?_
    refine lv_ladd hx hb dX4_set_124 ?_
    refine va_last hx hb hK hP hD hS 8 1 rfl rfl h0 dX4_set_125 (fun H locs hP hD hS => ?_)
    have hP : va_P D vwCl (wM cI cJ cZ a fa rg bu pn pl ja lk nk bl bs bk be al tp st mx my (upd kd r.toNatClampNeg k) (upd ky r.toNatClampNeg z) (vp_updL gx r.toNatClampNeg ((0 + 0) + ((vp_updL gu r.toNatClampNeg (0 + (((tp k.toNatClampNeg) * (f_X4_c z)).toInt64))) r.toNatClampNeg))) gy (vp_updL gu r.toNatClampNeg (0 + (((tp k.toNatClampNeg) * (f_X4_c z)).toInt64))) (vp_updL gv r.toNatClampNeg (0 + (((tp k.toNatClampNeg) * (f_X4_c (z - 4))).toInt64)))) H := hP
    have hD : va_D A (wM cI cJ cZ a fa rg bu pn pl ja lk nk bl bs bk be al tp st mx my (upd kd r.toNatClampNeg k) (upd ky r.toNatClampNeg z) (vp_updL gx r.toNatClampNeg ((0 + 0) + ((vp_updL gu r.toNatClampNeg (0 + (((tp k.toNatClampNeg) * (f_X4_c z)).toInt64))) r.toNatClampNeg))) gy (vp_updL gu r.toNatClampNeg (0 + (((tp k.toNatClampNeg) * (f_X4_c z)).toInt64))) (vp_updL gv r.toNatClampNeg (0 + (((tp k.toNatClampNeg) * (f_X4_c (z - 4))).toInt64)))) := hD
    refine lv_aload_n hx hb dX4_set_126 rfl (lv_at hl 2 rfl) ?_
    refine va_get (D := D) (ci := 5) (v := .ref (a 9)) (C := RX4) (T := TX4) (N := 23) hx hb (lyX4 ht) (fun _ h9 => h9) hown hK hP 0 rfl rfl 16 (by decide) (fl_X4_43 ht) (fun _ h9 => h9) rfl dX4_set_127 ?_
    refine lv_iload_n hx hb dX4_set_130 rfl (lv_at hl 3 rfl) ?_
    refine lv_iload_n hx hb dX4_set_131 rfl (lv_at hl 3 rfl) ?_
    refine lv_if_ne (tgt := 139) hx hb dX4_set_132 (by decide) (fun c_7 => absurd c_1 c_7) (fun _ => ?_)
    refine lv_lconst (v := 0) hx hb dX4_set_135 (by decide) ?_
    refine lv_goto (tgt := 147) hx hb dX4_set_136 (by decide) ?_
    refine lv_lload hx hb dX4_set_147 (lv_at hl 0 rfl) ?_
    refine lv_ladd hx hb dX4_set_149 ?_
    refine lv_aload_n hx hb dX4_set_150 rfl (lv_at hl 2 rfl) ?_
    refine va_get (D := D) (ci := 5) (v := .ref (a 11)) (C := RX4) (T := TX4) (N := 23) hx hb (lyX4 ht) (fun _ h9 => h9) hown hK hP 0 rfl rfl 18 (by decide) (fl_X4_49 ht) (fun _ h9 => h9) rfl dX4_set_151 ?_
    refine lv_iload_n hx hb dX4_set_154 rfl (lv_at hl 3 rfl) ?_
    refine va_lald hx hb hK hP 11 1 rfl rfl h0 dX4_set_155 ?_
    refine lv_ladd hx hb dX4_set_156 ?_
    refine va_last hx hb hK hP hD hS 9 1 rfl rfl h0 dX4_set_157 (fun H locs hP hD hS => ?_)
    have hP : va_P D vwCl (wM cI cJ cZ a fa rg bu pn pl ja lk nk bl bs bk be al tp st mx my (upd kd r.toNatClampNeg k) (upd ky r.toNatClampNeg z) (vp_updL gx r.toNatClampNeg ((0 + 0) + ((vp_updL gu r.toNatClampNeg (0 + (((tp k.toNatClampNeg) * (f_X4_c z)).toInt64))) r.toNatClampNeg))) (vp_updL gy r.toNatClampNeg ((0 + 0) + ((vp_updL gv r.toNatClampNeg (0 + (((tp k.toNatClampNeg) * (f_X4_c (z - 4))).toInt64))) r.toNatClampNeg))) (vp_updL gu r.toNatClampNeg (0 + (((tp k.toNatClampNeg) * (f_X4_c z)).toInt64))) (vp_updL gv r.toNatClampNeg (0 + (((tp k.toNatClampNeg) * (f_X4_c (z - 4))).toInt64)))) H := hP
    have hD : va_D A (wM cI cJ cZ a fa rg bu pn pl ja lk nk bl bs bk be al tp st mx my (upd kd r.toNatClampNeg k) (upd ky r.toNatClampNeg z) (vp_updL gx r.toNatClampNeg ((0 + 0) + ((vp_updL gu r.toNatClampNeg (0 + (((tp k.toNatClampNeg) * (f_X4_c z)).toInt64))) r.toNatClampNeg))) (vp_updL gy r.toNatClampNeg ((0 + 0) + ((vp_updL gv r.toNatClampNeg (0 + (((tp k.toNatClampNeg) * (f_X4_c (z - 4))).toInt64))) r.toNatClampNeg))) (vp_updL gu r.toNatClampNeg (0 + (((tp k.toNatClampNeg) * (f_X4_c z)).toInt64))) (vp_updL gv r.toNatClampNeg (0 + (((tp k.toNatClampNeg) * (f_X4_c (z - 4))).toInt64)))) := hD
    exact wr_v hx hb hr hlocks hAe hP hD hS dX4_set_158 (⟨rfl, by simp only [f_X4_set_kd, f_X4_set_ky, f_X4_set_gx, f_X4_set_gy, f_X4_set_gu, f_X4_set_gv, if_pos c_1]⟩)
def f_X4_kindOf (r : Int32) (bu : Int32) (pn : Int32) (kd : Nat → Int32) : Int32 := if (f_X4_isThere r bu pn) = 0 then -1 else (kd r.toNatClampNeg)
def f_X4_kindOf_fa (r : Int32) (bu : Int32) (pn : Int32) : Int32 := if (f_X4_isThere r bu pn) = 0 then 0 else 0
set_option maxRecDepth 20000 in
set_option maxHeartbeats 4000000 in
theorem k_X4_kindOf (l : Launch) (D : va_G) (cI cJ cZ : ClassId) (a : Nat → Nat) (fa rg bu pn pl ja lk nk bl : Int32) (bs : Int64) (bk be : Int32) (al tp st mx my kd ky : Nat → Int32) (gx gy gu gv : Nat → Int64) (r : Int32) (hk : ¬ f_X4_isThere r bu pn = 0 → vp_in r 24) : WR l yX4_kindOf cX4_kindOf 2 (some .int) 1 0 0 D (tysW cI cJ cZ) (wM cI cJ cZ a fa rg bu pn pl ja lk nk bl bs bk be al tp st mx my kd ky gx gy gu gv) [.ref (a 0), .int r] (fun ov w' => ov = some (.int (f_X4_kindOf r bu pn kd)) ∧ w' = wM cI cJ cZ a (f_X4_kindOf_fa r bu pn) rg bu pn pl ja lk nk bl bs bk be al tp st mx my kd ky gx gy gu gv) := by
  refine WR.of (by decide) ?_
  intro p e s m below meth c A hadm hx hb hr hml hown hlocks hname hE hP hK hD hS hA hAe
  have hown : s.vm.findClass RX4 = some m.cls := hown
  have ht : tb_OK s := hE.1
  have hl := lv_entry ([.ref (a 0), .int r]) (n := 2) (Nat.le_of_ble_eq_true rfl)
  rw [lg_entry_eq]
  generalize (lg_sl ([.ref (a 0), .int r]) ++ List.replicate (2 - (lg_sl ([.ref (a 0), .int r])).length) Slot.unset).toArray = ls at hl ⊢
  have hl : lv_has ls 2 [(0, .ref (a 0)), (1, .int r)] := hl
  refine lv_aload_n hx hb dX4_kindOf_0 rfl (lv_at hl 0 rfl) ?_
  refine lv_iconst (v := 0) hx hb dX4_kindOf_1 (by decide) ?_
  refine va_put (D := D) (ci := 5) (v := .int 0) (ty := .int) (C := RX4) (T := TX4) (N := 23) hx hb (lyX4 ht) (fun _ h9 => h9) tyX4 tyX4_ok nmX4 hown hK hP hD hS 0 rfl rfl 0 (by decide) (fl_X4_55 ht) (fun _ h9 => h9) rfl (by decide +kernel) rfl rfl (Nat.le_of_ble_eq_true rfl) dX4_kindOf_2 (fun H locs hP hD hS => ?_)
  have hP : va_P D vwCl (wM cI cJ cZ a 0 rg bu pn pl ja lk nk bl bs bk be al tp st mx my kd ky gx gy gu gv) H := hP
  have hD : va_D A (wM cI cJ cZ a 0 rg bu pn pl ja lk nk bl bs bk be al tp st mx my kd ky gx gy gu gv) := hD
  refine lv_aload_n hx hb dX4_kindOf_5 rfl (lv_at hl 0 rfl) ?_
  refine lv_iload_n hx hb dX4_kindOf_6 rfl (lv_at hl 1 rfl) ?_
  refine rdV (As := [.int r]) (rest := []) (st1 := [.int (f_X4_isThere r bu pn)]) (k_X4_isThere l D cI cJ cZ a 0 rg bu pn pl ja lk nk bl bs bk be al tp st mx my kd ky gx gy gu gv r) (si_X4_142 ht ⟨Nat.le_of_ble_eq_true rfl, Nat.le_of_ble_eq_true rfl⟩) hx hb hml hown (va_recv hK hP (ci := 5) (q0 := 0) rfl rfl) (hE.since hS) hP hK rfl hl.1 rfl (Nat.le_of_ble_eq_true rfl) ⟨Nat.zero_le _, Nat.zero_le _⟩ dX4_kindOf_7 rfl ?_
  refine lv_if_eq (tgt := 22) hx hb dX4_kindOf_10 (by decide) (fun c_1 => ?_) (fun c_1 => ?_)
  · skip
    refine lv_iconst (v := -1) hx hb dX4_kindOf_22 (by decide) ?_
    exact wr_i hx hb hr hlocks hAe hP hD hS dX4_kindOf_23 (⟨by unfold f_X4_kindOf; rw [if_pos c_1], by simp only [f_X4_kindOf_fa, if_pos c_1]⟩)
  · skip
    refine lv_aload_n hx hb dX4_kindOf_13 rfl (lv_at hl 0 rfl) ?_
    refine va_get (D := D) (ci := 5) (v := .ref (a 6)) (C := RX4) (T := TX4) (N := 23) hx hb (lyX4 ht) (fun _ h9 => h9) hown hK hP 0 rfl rfl 13 (by decide) (fl_X4_33 ht) (fun _ h9 => h9) rfl dX4_kindOf_14 ?_
    refine lv_iload_n hx hb dX4_kindOf_17 rfl (lv_at hl 1 rfl) ?_
    refine va_iald hx hb hK hP 6 0 rfl rfl (hk c_1) dX4_kindOf_18 ?_
    refine lv_goto (tgt := 23) hx hb dX4_kindOf_19 (by decide) ?_
    exact wr_i hx hb hr hlocks hAe hP hD hS dX4_kindOf_23 (⟨by unfold f_X4_kindOf; rw [if_neg c_1], by simp only [f_X4_kindOf_fa, if_neg c_1]⟩)
def f_X4_turnOf (r : Int32) (bu : Int32) (pn : Int32) (ky : Nat → Int32) : Int32 := if (f_X4_isThere r bu pn) = 0 then -1 else (ky r.toNatClampNeg)
def f_X4_turnOf_fa (r : Int32) (bu : Int32) (pn : Int32) : Int32 := if (f_X4_isThere r bu pn) = 0 then 0 else 0
set_option maxRecDepth 20000 in
set_option maxHeartbeats 4000000 in
theorem k_X4_turnOf (l : Launch) (D : va_G) (cI cJ cZ : ClassId) (a : Nat → Nat) (fa rg bu pn pl ja lk nk bl : Int32) (bs : Int64) (bk be : Int32) (al tp st mx my kd ky : Nat → Int32) (gx gy gu gv : Nat → Int64) (r : Int32) (hk : ¬ f_X4_isThere r bu pn = 0 → vp_in r 24) : WR l yX4_turnOf cX4_turnOf 2 (some .int) 1 0 0 D (tysW cI cJ cZ) (wM cI cJ cZ a fa rg bu pn pl ja lk nk bl bs bk be al tp st mx my kd ky gx gy gu gv) [.ref (a 0), .int r] (fun ov w' => ov = some (.int (f_X4_turnOf r bu pn ky)) ∧ w' = wM cI cJ cZ a (f_X4_turnOf_fa r bu pn) rg bu pn pl ja lk nk bl bs bk be al tp st mx my kd ky gx gy gu gv) := by
  refine WR.of (by decide) ?_
  intro p e s m below meth c A hadm hx hb hr hml hown hlocks hname hE hP hK hD hS hA hAe
  have hown : s.vm.findClass RX4 = some m.cls := hown
  have ht : tb_OK s := hE.1
  have hl := lv_entry ([.ref (a 0), .int r]) (n := 2) (Nat.le_of_ble_eq_true rfl)
  rw [lg_entry_eq]
  generalize (lg_sl ([.ref (a 0), .int r]) ++ List.replicate (2 - (lg_sl ([.ref (a 0), .int r])).length) Slot.unset).toArray = ls at hl ⊢
  have hl : lv_has ls 2 [(0, .ref (a 0)), (1, .int r)] := hl
  refine lv_aload_n hx hb dX4_turnOf_0 rfl (lv_at hl 0 rfl) ?_
  refine lv_iconst (v := 0) hx hb dX4_turnOf_1 (by decide) ?_
  refine va_put (D := D) (ci := 5) (v := .int 0) (ty := .int) (C := RX4) (T := TX4) (N := 23) hx hb (lyX4 ht) (fun _ h9 => h9) tyX4 tyX4_ok nmX4 hown hK hP hD hS 0 rfl rfl 0 (by decide) (fl_X4_55 ht) (fun _ h9 => h9) rfl (by decide +kernel) rfl rfl (Nat.le_of_ble_eq_true rfl) dX4_turnOf_2 (fun H locs hP hD hS => ?_)
  have hP : va_P D vwCl (wM cI cJ cZ a 0 rg bu pn pl ja lk nk bl bs bk be al tp st mx my kd ky gx gy gu gv) H := hP
  have hD : va_D A (wM cI cJ cZ a 0 rg bu pn pl ja lk nk bl bs bk be al tp st mx my kd ky gx gy gu gv) := hD
  refine lv_aload_n hx hb dX4_turnOf_5 rfl (lv_at hl 0 rfl) ?_
  refine lv_iload_n hx hb dX4_turnOf_6 rfl (lv_at hl 1 rfl) ?_
  refine rdV (As := [.int r]) (rest := []) (st1 := [.int (f_X4_isThere r bu pn)]) (k_X4_isThere l D cI cJ cZ a 0 rg bu pn pl ja lk nk bl bs bk be al tp st mx my kd ky gx gy gu gv r) (si_X4_142 ht ⟨Nat.le_of_ble_eq_true rfl, Nat.le_of_ble_eq_true rfl⟩) hx hb hml hown (va_recv hK hP (ci := 5) (q0 := 0) rfl rfl) (hE.since hS) hP hK rfl hl.1 rfl (Nat.le_of_ble_eq_true rfl) ⟨Nat.zero_le _, Nat.zero_le _⟩ dX4_turnOf_7 rfl ?_
  refine lv_if_eq (tgt := 22) hx hb dX4_turnOf_10 (by decide) (fun c_1 => ?_) (fun c_1 => ?_)
  · skip
    refine lv_iconst (v := -1) hx hb dX4_turnOf_22 (by decide) ?_
    exact wr_i hx hb hr hlocks hAe hP hD hS dX4_turnOf_23 (⟨by unfold f_X4_turnOf; rw [if_pos c_1], by simp only [f_X4_turnOf_fa, if_pos c_1]⟩)
  · skip
    refine lv_aload_n hx hb dX4_turnOf_13 rfl (lv_at hl 0 rfl) ?_
    refine va_get (D := D) (ci := 5) (v := .ref (a 7)) (C := RX4) (T := TX4) (N := 23) hx hb (lyX4 ht) (fun _ h9 => h9) hown hK hP 0 rfl rfl 14 (by decide) (fl_X4_36 ht) (fun _ h9 => h9) rfl dX4_turnOf_14 ?_
    refine lv_iload_n hx hb dX4_turnOf_17 rfl (lv_at hl 1 rfl) ?_
    refine va_iald hx hb hK hP 7 0 rfl rfl (hk c_1) dX4_turnOf_18 ?_
    refine lv_goto (tgt := 23) hx hb dX4_turnOf_19 (by decide) ?_
    exact wr_i hx hb hr hlocks hAe hP hD hS dX4_turnOf_23 (⟨by unfold f_X4_turnOf; rw [if_neg c_1], by simp only [f_X4_turnOf_fa, if_neg c_1]⟩)
def f_X4_state (r : Int32) (rg : Int32) (bu : Int32) (pn : Int32) : Int32 := if (f_X4_isRing r rg) = 0 then -1 else (if bu ≤ r then (if (bu + pn) ≤ r then 0 else 1) else 2)
def f_X4_state_fa (r : Int32) (rg : Int32) (bu : Int32) (pn : Int32) : Int32 := if (f_X4_isRing r rg) = 0 then 0 else (if bu ≤ r then (if (bu + pn) ≤ r then 0 else 0) else 0)
set_option maxRecDepth 20000 in
set_option maxHeartbeats 4000000 in
theorem k_X4_state (l : Launch) (D : va_G) (cI cJ cZ : ClassId) (a : Nat → Nat) (fa rg bu pn pl ja lk nk bl : Int32) (bs : Int64) (bk be : Int32) (al tp st mx my kd ky : Nat → Int32) (gx gy gu gv : Nat → Int64) (r : Int32) : WR l yX4_state cX4_state 2 (some .int) 1 0 0 D (tysW cI cJ cZ) (wM cI cJ cZ a fa rg bu pn pl ja lk nk bl bs bk be al tp st mx my kd ky gx gy gu gv) [.ref (a 0), .int r] (fun ov w' => ov = some (.int (f_X4_state r rg bu pn)) ∧ w' = wM cI cJ cZ a (f_X4_state_fa r rg bu pn) rg bu pn pl ja lk nk bl bs bk be al tp st mx my kd ky gx gy gu gv) := by
  refine WR.of (by decide) ?_
  intro p e s m below meth c A hadm hx hb hr hml hown hlocks hname hE hP hK hD hS hA hAe
  have hown : s.vm.findClass RX4 = some m.cls := hown
  have ht : tb_OK s := hE.1
  have hl := lv_entry ([.ref (a 0), .int r]) (n := 2) (Nat.le_of_ble_eq_true rfl)
  rw [lg_entry_eq]
  generalize (lg_sl ([.ref (a 0), .int r]) ++ List.replicate (2 - (lg_sl ([.ref (a 0), .int r])).length) Slot.unset).toArray = ls at hl ⊢
  have hl : lv_has ls 2 [(0, .ref (a 0)), (1, .int r)] := hl
  refine lv_aload_n hx hb dX4_state_0 rfl (lv_at hl 0 rfl) ?_
  refine lv_iconst (v := 0) hx hb dX4_state_1 (by decide) ?_
  refine va_put (D := D) (ci := 5) (v := .int 0) (ty := .int) (C := RX4) (T := TX4) (N := 23) hx hb (lyX4 ht) (fun _ h9 => h9) tyX4 tyX4_ok nmX4 hown hK hP hD hS 0 rfl rfl 0 (by decide) (fl_X4_55 ht) (fun _ h9 => h9) rfl (by decide +kernel) rfl rfl (Nat.le_of_ble_eq_true rfl) dX4_state_2 (fun H locs hP hD hS => ?_)
  have hP : va_P D vwCl (wM cI cJ cZ a 0 rg bu pn pl ja lk nk bl bs bk be al tp st mx my kd ky gx gy gu gv) H := hP
  have hD : va_D A (wM cI cJ cZ a 0 rg bu pn pl ja lk nk bl bs bk be al tp st mx my kd ky gx gy gu gv) := hD
  refine lv_aload_n hx hb dX4_state_5 rfl (lv_at hl 0 rfl) ?_
  refine lv_iload_n hx hb dX4_state_6 rfl (lv_at hl 1 rfl) ?_
  refine rdV (As := [.int r]) (rest := []) (st1 := [.int (f_X4_isRing r rg)]) (k_X4_isRing l D cI cJ cZ a 0 rg bu pn pl ja lk nk bl bs bk be al tp st mx my kd ky gx gy gu gv r) (si_X4_79 ht ⟨Nat.le_of_ble_eq_true rfl, Nat.le_of_ble_eq_true rfl⟩) hx hb hml hown (va_recv hK hP (ci := 5) (q0 := 0) rfl rfl) (hE.since hS) hP hK rfl hl.1 rfl (Nat.le_of_ble_eq_true rfl) ⟨Nat.zero_le _, Nat.zero_le _⟩ dX4_state_7 rfl ?_
  refine lv_if_ne (tgt := 17) hx hb dX4_state_10 (by decide) (fun c_1 => ?_) (fun c_1 => ?_)
  · skip
    refine lv_iload_n hx hb dX4_state_17 rfl (lv_at hl 1 rfl) ?_
    refine lv_aload_n hx hb dX4_state_18 rfl (lv_at hl 0 rfl) ?_
    refine va_get (D := D) (ci := 5) (v := .int bu) (C := RX4) (T := TX4) (N := 23) hx hb (lyX4 ht) (fun _ h9 => h9) hown hK hP 0 rfl rfl 2 (by decide) (fl_X4_61 ht) (fun _ h9 => h9) rfl dX4_state_19 ?_
    refine lv_icmp_ge (tgt := 29) hx hb dX4_state_22 (by decide) (fun c_2 => ?_) (fun c_2 => ?_)
    · skip
      refine lv_iload_n hx hb dX4_state_29 rfl (lv_at hl 1 rfl) ?_
      refine lv_aload_n hx hb dX4_state_30 rfl (lv_at hl 0 rfl) ?_
      refine va_get (D := D) (ci := 5) (v := .int bu) (C := RX4) (T := TX4) (N := 23) hx hb (lyX4 ht) (fun _ h9 => h9) hown hK hP 0 rfl rfl 2 (by decide) (fl_X4_61 ht) (fun _ h9 => h9) rfl dX4_state_31 ?_
      refine lv_aload_n hx hb dX4_state_34 rfl (lv_at hl 0 rfl) ?_
      refine va_get (D := D) (ci := 5) (v := .int pn) (C := RX4) (T := TX4) (N := 23) hx hb (lyX4 ht) (fun _ h9 => h9) hown hK hP 0 rfl rfl 3 (by decide) (fl_X4_64 ht) (fun _ h9 => h9) rfl dX4_state_35 ?_
      refine lv_iadd hx hb dX4_state_38 ?_
      refine lv_icmp_ge (tgt := 46) hx hb dX4_state_39 (by decide) (fun c_3 => ?_) (fun c_3 => ?_)
      · skip
        refine lv_iconst (v := 0) hx hb dX4_state_46 (by decide) ?_
        exact wr_i hx hb hr hlocks hAe hP hD hS dX4_state_47 (⟨by unfold f_X4_state; rw [if_neg c_1, if_pos c_2, if_pos c_3], by simp only [f_X4_state_fa, if_neg c_1, if_pos c_2, if_pos c_3]⟩)
      · skip
        refine lv_iconst (v := 1) hx hb dX4_state_42 (by decide) ?_
        refine lv_goto (tgt := 47) hx hb dX4_state_43 (by decide) ?_
        exact wr_i hx hb hr hlocks hAe hP hD hS dX4_state_47 (⟨by unfold f_X4_state; rw [if_neg c_1, if_pos c_2, if_neg c_3], by simp only [f_X4_state_fa, if_neg c_1, if_pos c_2, if_neg c_3]⟩)
    · skip
      refine lv_iconst (v := 2) hx hb dX4_state_25 (by decide) ?_
      refine lv_goto (tgt := 47) hx hb dX4_state_26 (by decide) ?_
      exact wr_i hx hb hr hlocks hAe hP hD hS dX4_state_47 (⟨by unfold f_X4_state; rw [if_neg c_1, if_neg c_2], by simp only [f_X4_state_fa, if_neg c_1, if_neg c_2]⟩)
  · skip
    refine lv_iconst (v := -1) hx hb dX4_state_13 (by decide) ?_
    refine lv_goto (tgt := 47) hx hb dX4_state_14 (by decide) ?_
    exact wr_i hx hb hr hlocks hAe hP hD hS dX4_state_47 (⟨by unfold f_X4_state; rw [if_pos c_1], by simp only [f_X4_state_fa, if_pos c_1]⟩)
def f_X4_place (r : Int32) (k : Int32) (bu : Int32) (pn : Int32) (gx : Nat → Int64) (gy : Nat → Int64) (gu : Nat → Int64) (gv : Nat → Int64) : Int64 := if (f_X4_isThere r bu pn) = 0 then 0 else (if (f_X4_in k.toInt64 0 3) = 0 then 0 else (if k = 0 then (gx r.toNatClampNeg) else (if k = 1 then (gy r.toNatClampNeg) else (if k = 2 then (gu r.toNatClampNeg) else (gv r.toNatClampNeg)))))
def f_X4_place_fa (r : Int32) (k : Int32) (bu : Int32) (pn : Int32) : Int32 := if (f_X4_isThere r bu pn) = 0 then 1 else (if (f_X4_in k.toInt64 0 3) = 0 then 1 else (if k = 0 then 0 else (if k = 1 then 0 else (if k = 2 then 0 else 0))))
set_option maxRecDepth 20000 in
set_option maxHeartbeats 4000000 in
theorem k_X4_place (l : Launch) (D : va_G) (cI cJ cZ : ClassId) (a : Nat → Nat) (fa rg bu pn pl ja lk nk bl : Int32) (bs : Int64) (bk be : Int32) (al tp st mx my kd ky : Nat → Int32) (gx gy gu gv : Nat → Int64) (r : Int32) (k : Int32) (hk : ¬ f_X4_isThere r bu pn = 0 → vp_in r 24) : WR l yX4_place cX4_place 3 (some .long) 1 0 0 D (tysW cI cJ cZ) (wM cI cJ cZ a fa rg bu pn pl ja lk nk bl bs bk be al tp st mx my kd ky gx gy gu gv) [.ref (a 0), .int r, .int k] (fun ov w' => ov = some (.long (f_X4_place r k bu pn gx gy gu gv)) ∧ w' = wM cI cJ cZ a (f_X4_place_fa r k bu pn) rg bu pn pl ja lk nk bl bs bk be al tp st mx my kd ky gx gy gu gv) := by
  refine WR.of (by decide) ?_
  intro p e s m below meth c A hadm hx hb hr hml hown hlocks hname hE hP hK hD hS hA hAe
  have hown : s.vm.findClass RX4 = some m.cls := hown
  have ht : tb_OK s := hE.1
  have hl := lv_entry ([.ref (a 0), .int r, .int k]) (n := 3) (Nat.le_of_ble_eq_true rfl)
  rw [lg_entry_eq]
  generalize (lg_sl ([.ref (a 0), .int r, .int k]) ++ List.replicate (3 - (lg_sl ([.ref (a 0), .int r, .int k])).length) Slot.unset).toArray = ls at hl ⊢
  have hl : lv_has ls 3 [(0, .ref (a 0)), (1, .int r), (2, .int k)] := hl
  refine lv_aload_n hx hb dX4_place_0 rfl (lv_at hl 0 rfl) ?_
  refine lv_aload_n hx hb dX4_place_1 rfl (lv_at hl 0 rfl) ?_
  refine lv_iload_n hx hb dX4_place_2 rfl (lv_at hl 1 rfl) ?_
  refine rdV (As := [.int r]) (rest := [.ref (a 0)]) (st1 := [.int (f_X4_isThere r bu pn), .ref (a 0)]) (k_X4_isThere l D cI cJ cZ a fa rg bu pn pl ja lk nk bl bs bk be al tp st mx my kd ky gx gy gu gv r) (si_X4_142 ht ⟨Nat.le_of_ble_eq_true rfl, Nat.le_of_ble_eq_true rfl⟩) hx hb hml hown (va_recv hK hP (ci := 5) (q0 := 0) rfl rfl) (hE.since hS) hP hK rfl hl.1 rfl (Nat.le_of_ble_eq_true rfl) ⟨Nat.zero_le _, Nat.zero_le _⟩ dX4_place_3 rfl ?_
  refine lv_if_eq (tgt := 25) hx hb dX4_place_6 (by decide) (fun c_1 => ?_) (fun c_1 => ?_)
  · skip
    refine lv_iconst (v := 1) hx hb dX4_place_25 (by decide) ?_
    refine va_put (D := D) (ci := 5) (v := .int 1) (ty := .int) (C := RX4) (T := TX4) (N := 23) hx hb (lyX4 ht) (fun _ h9 => h9) tyX4 tyX4_ok nmX4 hown hK hP hD hS 0 rfl rfl 0 (by decide) (fl_X4_55 ht) (fun _ h9 => h9) rfl (by decide +kernel) rfl rfl (Nat.le_of_ble_eq_true rfl) dX4_place_26 (fun H locs hP hD hS => ?_)
    have hP : va_P D vwCl (wM cI cJ cZ a 1 rg bu pn pl ja lk nk bl bs bk be al tp st mx my kd ky gx gy gu gv) H := hP
    have hD : va_D A (wM cI cJ cZ a 1 rg bu pn pl ja lk nk bl bs bk be al tp st mx my kd ky gx gy gu gv) := hD
    refine lv_aload_n hx hb dX4_place_29 rfl (lv_at hl 0 rfl) ?_
    refine va_get (D := D) (ci := 5) (v := .int 1) (C := RX4) (T := TX4) (N := 23) hx hb (lyX4 ht) (fun _ h9 => h9) hown hK hP 0 rfl rfl 0 (by decide) (fl_X4_55 ht) (fun _ h9 => h9) rfl dX4_place_30 ?_
    refine lv_if_le (tgt := 38) hx hb dX4_place_33 (by decide) (fun c_2 => absurd c_2 (by decide)) (fun c_2 => ?_)
    refine lv_lconst (v := 0) hx hb dX4_place_36 (by decide) ?_
    exact wr_l hx hb hr hlocks hAe hP hD hS dX4_place_37 (⟨by unfold f_X4_place; rw [if_pos c_1], by simp only [f_X4_place_fa, if_pos c_1]⟩)
  · skip
    refine lv_iload_n hx hb dX4_place_9 rfl (lv_at hl 2 rfl) ?_
    refine lv_i2l (v := k.toInt64) hx hb dX4_place_10 rfl ?_
    refine lv_lconst (v := 0) hx hb dX4_place_11 (by decide) ?_
    refine lv_ldc2 (v := 3) hx hb hown (kl_X4_145 ht) dX4_place_12 ?_
    refine rdS (As := [.long k.toInt64, .long 0, .long 3]) (rest := [.ref (a 0)]) (st1 := [.int (f_X4_in k.toInt64 0 3), .ref (a 0)]) (k_X4_in l D (tysW cI cJ cZ) k.toInt64 0 3) (si_X4_69 ht ⟨Nat.le_of_ble_eq_true rfl, Nat.le_of_ble_eq_true rfl⟩) hx hb hml hown (hE.since hS) pNil hK rfl hl.1 rfl (Nat.le_of_ble_eq_true rfl) ⟨Nat.zero_le _, Nat.zero_le _⟩ dX4_place_15 rfl ?_
    refine lv_if_eq (tgt := 25) hx hb dX4_place_18 (by decide) (fun c_3 => ?_) (fun c_3 => ?_)
    · skip
      refine lv_iconst (v := 1) hx hb dX4_place_25 (by decide) ?_
      refine va_put (D := D) (ci := 5) (v := .int 1) (ty := .int) (C := RX4) (T := TX4) (N := 23) hx hb (lyX4 ht) (fun _ h9 => h9) tyX4 tyX4_ok nmX4 hown hK hP hD hS 0 rfl rfl 0 (by decide) (fl_X4_55 ht) (fun _ h9 => h9) rfl (by decide +kernel) rfl rfl (Nat.le_of_ble_eq_true rfl) dX4_place_26 (fun H locs hP hD hS => ?_)
      have hP : va_P D vwCl (wM cI cJ cZ a 1 rg bu pn pl ja lk nk bl bs bk be al tp st mx my kd ky gx gy gu gv) H := hP
      have hD : va_D A (wM cI cJ cZ a 1 rg bu pn pl ja lk nk bl bs bk be al tp st mx my kd ky gx gy gu gv) := hD
      refine lv_aload_n hx hb dX4_place_29 rfl (lv_at hl 0 rfl) ?_
      refine va_get (D := D) (ci := 5) (v := .int 1) (C := RX4) (T := TX4) (N := 23) hx hb (lyX4 ht) (fun _ h9 => h9) hown hK hP 0 rfl rfl 0 (by decide) (fl_X4_55 ht) (fun _ h9 => h9) rfl dX4_place_30 ?_
      refine lv_if_le (tgt := 38) hx hb dX4_place_33 (by decide) (fun c_4 => absurd c_4 (by decide)) (fun c_4 => ?_)
      refine lv_lconst (v := 0) hx hb dX4_place_36 (by decide) ?_
      exact wr_l hx hb hr hlocks hAe hP hD hS dX4_place_37 (⟨by unfold f_X4_place; rw [if_neg c_1, if_pos c_3], by simp only [f_X4_place_fa, if_neg c_1, if_pos c_3]⟩)
    · skip
      refine lv_iconst (v := 0) hx hb dX4_place_21 (by decide) ?_
      refine lv_goto (tgt := 26) hx hb dX4_place_22 (by decide) ?_
      refine va_put (D := D) (ci := 5) (v := .int 0) (ty := .int) (C := RX4) (T := TX4) (N := 23) hx hb (lyX4 ht) (fun _ h9 => h9) tyX4 tyX4_ok nmX4 hown hK hP hD hS 0 rfl rfl 0 (by decide) (fl_X4_55 ht) (fun _ h9 => h9) rfl (by decide +kernel) rfl rfl (Nat.le_of_ble_eq_true rfl) dX4_place_26 (fun H locs hP hD hS => ?_)
      have hP : va_P D vwCl (wM cI cJ cZ a 0 rg bu pn pl ja lk nk bl bs bk be al tp st mx my kd ky gx gy gu gv) H := hP
      have hD : va_D A (wM cI cJ cZ a 0 rg bu pn pl ja lk nk bl bs bk be al tp st mx my kd ky gx gy gu gv) := hD
      refine lv_aload_n hx hb dX4_place_29 rfl (lv_at hl 0 rfl) ?_
      refine va_get (D := D) (ci := 5) (v := .int 0) (C := RX4) (T := TX4) (N := 23) hx hb (lyX4 ht) (fun _ h9 => h9) hown hK hP 0 rfl rfl 0 (by decide) (fl_X4_55 ht) (fun _ h9 => h9) rfl dX4_place_30 ?_
      refine lv_if_le (tgt := 38) hx hb dX4_place_33 (by decide) (fun c_5 => ?_) (fun c_5 => absurd (by decide) c_5)
      refine lv_iload_n hx hb dX4_place_38 rfl (lv_at hl 2 rfl) ?_
      refine lv_if_ne (tgt := 51) hx hb dX4_place_39 (by decide) (fun c_6 => ?_) (fun c_6 => ?_)
      · skip
        refine lv_iload_n hx hb dX4_place_51 rfl (lv_at hl 2 rfl) ?_
        refine lv_iconst (v := 1) hx hb dX4_place_52 (by decide) ?_
        refine lv_icmp_ne (tgt := 65) hx hb dX4_place_53 (by decide) (fun c_7 => ?_) (fun c_7 => ?_)
        · skip
          refine lv_iload_n hx hb dX4_place_65 rfl (lv_at hl 2 rfl) ?_
          refine lv_iconst (v := 2) hx hb dX4_place_66 (by decide) ?_
          refine lv_icmp_ne (tgt := 79) hx hb dX4_place_67 (by decide) (fun c_8 => ?_) (fun c_8 => ?_)
          · skip
            refine lv_aload_n hx hb dX4_place_79 rfl (lv_at hl 0 rfl) ?_
            refine va_get (D := D) (ci := 5) (v := .ref (a 11)) (C := RX4) (T := TX4) (N := 23) hx hb (lyX4 ht) (fun _ h9 => h9) hown hK hP 0 rfl rfl 18 (by decide) (fl_X4_49 ht) (fun _ h9 => h9) rfl dX4_place_80 ?_
            refine lv_iload_n hx hb dX4_place_83 rfl (lv_at hl 1 rfl) ?_
            refine va_lald hx hb hK hP 11 1 rfl rfl (hk c_1) dX4_place_84 ?_
            exact wr_l hx hb hr hlocks hAe hP hD hS dX4_place_85 (⟨by unfold f_X4_place; rw [if_neg c_1, if_neg c_3, if_neg c_6, if_neg c_7, if_neg c_8], by simp only [f_X4_place_fa, if_neg c_1, if_neg c_3, if_neg c_6, if_neg c_7, if_neg c_8]⟩)
          · skip
            refine lv_aload_n hx hb dX4_place_70 rfl (lv_at hl 0 rfl) ?_
            refine va_get (D := D) (ci := 5) (v := .ref (a 10)) (C := RX4) (T := TX4) (N := 23) hx hb (lyX4 ht) (fun _ h9 => h9) hown hK hP 0 rfl rfl 17 (by decide) (fl_X4_46 ht) (fun _ h9 => h9) rfl dX4_place_71 ?_
            refine lv_iload_n hx hb dX4_place_74 rfl (lv_at hl 1 rfl) ?_
            refine va_lald hx hb hK hP 10 1 rfl rfl (hk c_1) dX4_place_75 ?_
            refine lv_goto (tgt := 85) hx hb dX4_place_76 (by decide) ?_
            exact wr_l hx hb hr hlocks hAe hP hD hS dX4_place_85 (⟨by unfold f_X4_place; rw [if_neg c_1, if_neg c_3, if_neg c_6, if_neg c_7, if_pos c_8], by simp only [f_X4_place_fa, if_neg c_1, if_neg c_3, if_neg c_6, if_neg c_7, if_pos c_8]⟩)
        · skip
          refine lv_aload_n hx hb dX4_place_56 rfl (lv_at hl 0 rfl) ?_
          refine va_get (D := D) (ci := 5) (v := .ref (a 9)) (C := RX4) (T := TX4) (N := 23) hx hb (lyX4 ht) (fun _ h9 => h9) hown hK hP 0 rfl rfl 16 (by decide) (fl_X4_43 ht) (fun _ h9 => h9) rfl dX4_place_57 ?_
          refine lv_iload_n hx hb dX4_place_60 rfl (lv_at hl 1 rfl) ?_
          refine va_lald hx hb hK hP 9 1 rfl rfl (hk c_1) dX4_place_61 ?_
          refine lv_goto (tgt := 85) hx hb dX4_place_62 (by decide) ?_
          exact wr_l hx hb hr hlocks hAe hP hD hS dX4_place_85 (⟨by unfold f_X4_place; rw [if_neg c_1, if_neg c_3, if_neg c_6, if_pos c_7], by simp only [f_X4_place_fa, if_neg c_1, if_neg c_3, if_neg c_6, if_pos c_7]⟩)
      · skip
        refine lv_aload_n hx hb dX4_place_42 rfl (lv_at hl 0 rfl) ?_
        refine va_get (D := D) (ci := 5) (v := .ref (a 8)) (C := RX4) (T := TX4) (N := 23) hx hb (lyX4 ht) (fun _ h9 => h9) hown hK hP 0 rfl rfl 15 (by decide) (fl_X4_39 ht) (fun _ h9 => h9) rfl dX4_place_43 ?_
        refine lv_iload_n hx hb dX4_place_46 rfl (lv_at hl 1 rfl) ?_
        refine va_lald hx hb hK hP 8 1 rfl rfl (hk c_1) dX4_place_47 ?_
        refine lv_goto (tgt := 85) hx hb dX4_place_48 (by decide) ?_
        exact wr_l hx hb hr hlocks hAe hP hD hS dX4_place_85 (⟨by unfold f_X4_place; rw [if_neg c_1, if_neg c_3, if_pos c_6], by simp only [f_X4_place_fa, if_neg c_1, if_neg c_3, if_pos c_6]⟩)
def f_X4_off (r : Int32) (bu : Int32) (pn : Int32) (mx : Nat → Int32) (my : Nat → Int32) (gx : Nat → Int64) (gy : Nat → Int64) : Int64 := if (f_X4_isThere r bu pn) = 0 then 0 else (f_X4_offOf r mx my gx gy)
def f_X4_off_fa (r : Int32) (bu : Int32) (pn : Int32) : Int32 := if (f_X4_isThere r bu pn) = 0 then 1 else 0
set_option maxRecDepth 20000 in
set_option maxHeartbeats 4000000 in
theorem k_X4_off (l : Launch) (D : va_G) (cI cJ cZ : ClassId) (a : Nat → Nat) (fa rg bu pn pl ja lk nk bl : Int32) (bs : Int64) (bk be : Int32) (al tp st mx my kd ky : Nat → Int32) (gx gy gu gv : Nat → Int64) (r : Int32) (hk : ¬ f_X4_isThere r bu pn = 0 → vp_in r 24) : WR l yX4_off cX4_off 2 (some .long) 1 0 0 D (tysW cI cJ cZ) (wM cI cJ cZ a fa rg bu pn pl ja lk nk bl bs bk be al tp st mx my kd ky gx gy gu gv) [.ref (a 0), .int r] (fun ov w' => ov = some (.long (f_X4_off r bu pn mx my gx gy)) ∧ w' = wM cI cJ cZ a (f_X4_off_fa r bu pn) rg bu pn pl ja lk nk bl bs bk be al tp st mx my kd ky gx gy gu gv) := by
  refine WR.of (by decide) ?_
  intro p e s m below meth c A hadm hx hb hr hml hown hlocks hname hE hP hK hD hS hA hAe
  have hown : s.vm.findClass RX4 = some m.cls := hown
  have ht : tb_OK s := hE.1
  have hl := lv_entry ([.ref (a 0), .int r]) (n := 2) (Nat.le_of_ble_eq_true rfl)
  rw [lg_entry_eq]
  generalize (lg_sl ([.ref (a 0), .int r]) ++ List.replicate (2 - (lg_sl ([.ref (a 0), .int r])).length) Slot.unset).toArray = ls at hl ⊢
  have hl : lv_has ls 2 [(0, .ref (a 0)), (1, .int r)] := hl
  refine lv_aload_n hx hb dX4_off_0 rfl (lv_at hl 0 rfl) ?_
  refine lv_aload_n hx hb dX4_off_1 rfl (lv_at hl 0 rfl) ?_
  refine lv_iload_n hx hb dX4_off_2 rfl (lv_at hl 1 rfl) ?_
  refine rdV (As := [.int r]) (rest := [.ref (a 0)]) (st1 := [.int (f_X4_isThere r bu pn), .ref (a 0)]) (k_X4_isThere l D cI cJ cZ a fa rg bu pn pl ja lk nk bl bs bk be al tp st mx my kd ky gx gy gu gv r) (si_X4_142 ht ⟨Nat.le_of_ble_eq_true rfl, Nat.le_of_ble_eq_true rfl⟩) hx hb hml hown (va_recv hK hP (ci := 5) (q0 := 0) rfl rfl) (hE.since hS) hP hK rfl hl.1 rfl (Nat.le_of_ble_eq_true rfl) ⟨Nat.zero_le _, Nat.zero_le _⟩ dX4_off_3 rfl ?_
  refine lv_if_eq (tgt := 13) hx hb dX4_off_6 (by decide) (fun c_1 => ?_) (fun c_1 => ?_)
  · skip
    refine lv_iconst (v := 1) hx hb dX4_off_13 (by decide) ?_
    refine va_put (D := D) (ci := 5) (v := .int 1) (ty := .int) (C := RX4) (T := TX4) (N := 23) hx hb (lyX4 ht) (fun _ h9 => h9) tyX4 tyX4_ok nmX4 hown hK hP hD hS 0 rfl rfl 0 (by decide) (fl_X4_55 ht) (fun _ h9 => h9) rfl (by decide +kernel) rfl rfl (Nat.le_of_ble_eq_true rfl) dX4_off_14 (fun H locs hP hD hS => ?_)
    have hP : va_P D vwCl (wM cI cJ cZ a 1 rg bu pn pl ja lk nk bl bs bk be al tp st mx my kd ky gx gy gu gv) H := hP
    have hD : va_D A (wM cI cJ cZ a 1 rg bu pn pl ja lk nk bl bs bk be al tp st mx my kd ky gx gy gu gv) := hD
    refine lv_aload_n hx hb dX4_off_17 rfl (lv_at hl 0 rfl) ?_
    refine va_get (D := D) (ci := 5) (v := .int 1) (C := RX4) (T := TX4) (N := 23) hx hb (lyX4 ht) (fun _ h9 => h9) hown hK hP 0 rfl rfl 0 (by decide) (fl_X4_55 ht) (fun _ h9 => h9) rfl dX4_off_18 ?_
    refine lv_if_le (tgt := 28) hx hb dX4_off_21 (by decide) (fun c_2 => absurd c_2 (by decide)) (fun c_2 => ?_)
    refine lv_lconst (v := 0) hx hb dX4_off_24 (by decide) ?_
    refine lv_goto (tgt := 33) hx hb dX4_off_25 (by decide) ?_
    exact wr_l hx hb hr hlocks hAe hP hD hS dX4_off_33 (⟨by unfold f_X4_off; rw [if_pos c_1], by simp only [f_X4_off_fa, if_pos c_1]⟩)
  · skip
    refine lv_iconst (v := 0) hx hb dX4_off_9 (by decide) ?_
    refine lv_goto (tgt := 14) hx hb dX4_off_10 (by decide) ?_
    refine va_put (D := D) (ci := 5) (v := .int 0) (ty := .int) (C := RX4) (T := TX4) (N := 23) hx hb (lyX4 ht) (fun _ h9 => h9) tyX4 tyX4_ok nmX4 hown hK hP hD hS 0 rfl rfl 0 (by decide) (fl_X4_55 ht) (fun _ h9 => h9) rfl (by decide +kernel) rfl rfl (Nat.le_of_ble_eq_true rfl) dX4_off_14 (fun H locs hP hD hS => ?_)
    have hP : va_P D vwCl (wM cI cJ cZ a 0 rg bu pn pl ja lk nk bl bs bk be al tp st mx my kd ky gx gy gu gv) H := hP
    have hD : va_D A (wM cI cJ cZ a 0 rg bu pn pl ja lk nk bl bs bk be al tp st mx my kd ky gx gy gu gv) := hD
    refine lv_aload_n hx hb dX4_off_17 rfl (lv_at hl 0 rfl) ?_
    refine va_get (D := D) (ci := 5) (v := .int 0) (C := RX4) (T := TX4) (N := 23) hx hb (lyX4 ht) (fun _ h9 => h9) hown hK hP 0 rfl rfl 0 (by decide) (fl_X4_55 ht) (fun _ h9 => h9) rfl dX4_off_18 ?_
    refine lv_if_le (tgt := 28) hx hb dX4_off_21 (by decide) (fun c_3 => ?_) (fun c_3 => absurd (by decide) c_3)
    refine lv_aload_n hx hb dX4_off_28 rfl (lv_at hl 0 rfl) ?_
    refine lv_iload_n hx hb dX4_off_29 rfl (lv_at hl 1 rfl) ?_
    refine rdV (As := [.int r]) (rest := []) (st1 := [.long (f_X4_offOf r mx my gx gy)]) (k_X4_offOf l D cI cJ cZ a 0 rg bu pn pl ja lk nk bl bs bk be al tp st mx my kd ky gx gy gu gv r (hk c_1)) (si_X4_120 ht ⟨Nat.le_of_ble_eq_true rfl, Nat.le_of_ble_eq_true rfl⟩) hx hb hml hown (va_recv hK hP (ci := 5) (q0 := 0) rfl rfl) (hE.since hS) hP hK rfl hl.1 rfl (Nat.le_of_ble_eq_true rfl) ⟨Nat.zero_le _, Nat.zero_le _⟩ dX4_off_30 rfl ?_
    exact wr_l hx hb hr hlocks hAe hP hD hS dX4_off_33 (⟨by unfold f_X4_off; rw [if_neg c_1], by simp only [f_X4_off_fa, if_neg c_1]⟩)
def f_X4_stroke (r : Int32) (k : Int32) (bu : Int32) (pn : Int32) (tp : Nat → Int32) (kd : Nat → Int32) (ky : Nat → Int32) : Int32 := if (f_X4_isThere r bu pn) = 0 then 0 else (if (f_X4_in k.toInt64 0 15) = 0 then 0 else (if 0 ≤ ((tp (kd r.toNatClampNeg).toNatClampNeg) * (f_X4_c (k - (ky r.toNatClampNeg)))) then (((tp (kd r.toNatClampNeg).toNatClampNeg) * (f_X4_c (k - (ky r.toNatClampNeg)))) / 64) else (if ((((tp (kd r.toNatClampNeg).toNatClampNeg) * (f_X4_c (k - (ky r.toNatClampNeg)))) / 64) * 64) = ((tp (kd r.toNatClampNeg).toNatClampNeg) * (f_X4_c (k - (ky r.toNatClampNeg)))) then (((tp (kd r.toNatClampNeg).toNatClampNeg) * (f_X4_c (k - (ky r.toNatClampNeg)))) / 64) else ((((tp (kd r.toNatClampNeg).toNatClampNeg) * (f_X4_c (k - (ky r.toNatClampNeg)))) / 64) - 1))))
def f_X4_stroke_fa (r : Int32) (k : Int32) (bu : Int32) (pn : Int32) (tp : Nat → Int32) (kd : Nat → Int32) (ky : Nat → Int32) : Int32 := if (f_X4_isThere r bu pn) = 0 then 0 else (if (f_X4_in k.toInt64 0 15) = 0 then 0 else (if 0 ≤ ((tp (kd r.toNatClampNeg).toNatClampNeg) * (f_X4_c (k - (ky r.toNatClampNeg)))) then 0 else (if ((((tp (kd r.toNatClampNeg).toNatClampNeg) * (f_X4_c (k - (ky r.toNatClampNeg)))) / 64) * 64) = ((tp (kd r.toNatClampNeg).toNatClampNeg) * (f_X4_c (k - (ky r.toNatClampNeg)))) then 0 else 0)))
set_option maxRecDepth 20000 in
set_option maxHeartbeats 4000000 in
theorem k_X4_stroke (l : Launch) (D : va_G) (cI cJ cZ : ClassId) (a : Nat → Nat) (fa rg bu pn pl ja lk nk bl : Int32) (bs : Int64) (bk be : Int32) (al tp st mx my kd ky : Nat → Int32) (gx gy gu gv : Nat → Int64) (r : Int32) (k : Int32) (hk : ¬ f_X4_isThere r bu pn = 0 → vp_in r 24) (hq : ¬ f_X4_isThere r bu pn = 0 → vp_in (kd r.toNatClampNeg) 4) : WR l yX4_stroke cX4_stroke 5 (some .int) 1 0 0 D (tysW cI cJ cZ) (wM cI cJ cZ a fa rg bu pn pl ja lk nk bl bs bk be al tp st mx my kd ky gx gy gu gv) [.ref (a 0), .int r, .int k] (fun ov w' => ov = some (.int (f_X4_stroke r k bu pn tp kd ky)) ∧ w' = wM cI cJ cZ a (f_X4_stroke_fa r k bu pn tp kd ky) rg bu pn pl ja lk nk bl bs bk be al tp st mx my kd ky gx gy gu gv) := by
  refine WR.of (by decide) ?_
  intro p e s m below meth c A hadm hx hb hr hml hown hlocks hname hE hP hK hD hS hA hAe
  have hown : s.vm.findClass RX4 = some m.cls := hown
  have ht : tb_OK s := hE.1
  have hl := lv_entry ([.ref (a 0), .int r, .int k]) (n := 5) (Nat.le_of_ble_eq_true rfl)
  rw [lg_entry_eq]
  generalize (lg_sl ([.ref (a 0), .int r, .int k]) ++ List.replicate (5 - (lg_sl ([.ref (a 0), .int r, .int k])).length) Slot.unset).toArray = ls at hl ⊢
  have hl : lv_has ls 5 [(0, .ref (a 0)), (1, .int r), (2, .int k)] := hl
  refine lv_aload_n hx hb dX4_stroke_0 rfl (lv_at hl 0 rfl) ?_
  refine lv_iconst (v := 0) hx hb dX4_stroke_1 (by decide) ?_
  refine va_put (D := D) (ci := 5) (v := .int 0) (ty := .int) (C := RX4) (T := TX4) (N := 23) hx hb (lyX4 ht) (fun _ h9 => h9) tyX4 tyX4_ok nmX4 hown hK hP hD hS 0 rfl rfl 0 (by decide) (fl_X4_55 ht) (fun _ h9 => h9) rfl (by decide +kernel) rfl rfl (Nat.le_of_ble_eq_true rfl) dX4_stroke_2 (fun H locs hP hD hS => ?_)
  have hP : va_P D vwCl (wM cI cJ cZ a 0 rg bu pn pl ja lk nk bl bs bk be al tp st mx my kd ky gx gy gu gv) H := hP
  have hD : va_D A (wM cI cJ cZ a 0 rg bu pn pl ja lk nk bl bs bk be al tp st mx my kd ky gx gy gu gv) := hD
  refine lv_aload_n hx hb dX4_stroke_5 rfl (lv_at hl 0 rfl) ?_
  refine lv_iload_n hx hb dX4_stroke_6 rfl (lv_at hl 1 rfl) ?_
  refine rdV (As := [.int r]) (rest := []) (st1 := [.int (f_X4_isThere r bu pn)]) (k_X4_isThere l D cI cJ cZ a 0 rg bu pn pl ja lk nk bl bs bk be al tp st mx my kd ky gx gy gu gv r) (si_X4_142 ht ⟨Nat.le_of_ble_eq_true rfl, Nat.le_of_ble_eq_true rfl⟩) hx hb hml hown (va_recv hK hP (ci := 5) (q0 := 0) rfl rfl) (hE.since hS) hP hK rfl hl.1 rfl (Nat.le_of_ble_eq_true rfl) ⟨Nat.zero_le _, Nat.zero_le _⟩ dX4_stroke_7 rfl ?_
  refine lv_if_eq (tgt := 25) hx hb dX4_stroke_10 (by decide) (fun c_1 => ?_) (fun c_1 => ?_)
  · skip
    refine lv_iconst (v := 0) hx hb dX4_stroke_25 (by decide) ?_
    exact wr_i hx hb hr hlocks hAe hP hD hS dX4_stroke_26 (⟨by unfold f_X4_stroke; rw [if_pos c_1], by simp only [f_X4_stroke_fa, if_pos c_1]⟩)
  · skip
    refine lv_iload_n hx hb dX4_stroke_13 rfl (lv_at hl 2 rfl) ?_
    refine lv_i2l (v := k.toInt64) hx hb dX4_stroke_14 rfl ?_
    refine lv_lconst (v := 0) hx hb dX4_stroke_15 (by decide) ?_
    refine lv_ldc2 (v := 15) hx hb hown (kl_X4_88 ht) dX4_stroke_16 ?_
    refine rdS (As := [.long k.toInt64, .long 0, .long 15]) (rest := []) (st1 := [.int (f_X4_in k.toInt64 0 15)]) (k_X4_in l D (tysW cI cJ cZ) k.toInt64 0 15) (si_X4_69 ht ⟨Nat.le_of_ble_eq_true rfl, Nat.le_of_ble_eq_true rfl⟩) hx hb hml hown (hE.since hS) pNil hK rfl hl.1 rfl (Nat.le_of_ble_eq_true rfl) ⟨Nat.zero_le _, Nat.zero_le _⟩ dX4_stroke_19 rfl ?_
    refine lv_if_ne (tgt := 27) hx hb dX4_stroke_22 (by decide) (fun c_2 => ?_) (fun c_2 => ?_)
    · skip
      refine lv_aload_n hx hb dX4_stroke_27 rfl (lv_at hl 0 rfl) ?_
      refine va_get (D := D) (ci := 5) (v := .ref (a 2)) (C := RX4) (T := TX4) (N := 23) hx hb (lyX4 ht) (fun _ h9 => h9) hown hK hP 0 rfl rfl 9 (by decide) (fl_X4_20 ht) (fun _ h9 => h9) rfl dX4_stroke_28 ?_
      refine lv_aload_n hx hb dX4_stroke_31 rfl (lv_at hl 0 rfl) ?_
      refine va_get (D := D) (ci := 5) (v := .ref (a 6)) (C := RX4) (T := TX4) (N := 23) hx hb (lyX4 ht) (fun _ h9 => h9) hown hK hP 0 rfl rfl 13 (by decide) (fl_X4_33 ht) (fun _ h9 => h9) rfl dX4_stroke_32 ?_
      refine lv_iload_n hx hb dX4_stroke_35 rfl (lv_at hl 1 rfl) ?_
      refine va_iald hx hb hK hP 6 0 rfl rfl (hk c_1) dX4_stroke_36 ?_
      refine va_iald hx hb hK hP 2 0 rfl rfl (hq c_1) dX4_stroke_37 ?_
      refine lv_iload_n hx hb dX4_stroke_38 rfl (lv_at hl 2 rfl) ?_
      refine lv_aload_n hx hb dX4_stroke_39 rfl (lv_at hl 0 rfl) ?_
      refine va_get (D := D) (ci := 5) (v := .ref (a 7)) (C := RX4) (T := TX4) (N := 23) hx hb (lyX4 ht) (fun _ h9 => h9) hown hK hP 0 rfl rfl 14 (by decide) (fl_X4_36 ht) (fun _ h9 => h9) rfl dX4_stroke_40 ?_
      refine lv_iload_n hx hb dX4_stroke_43 rfl (lv_at hl 1 rfl) ?_
      refine va_iald hx hb hK hP 7 0 rfl rfl (hk c_1) dX4_stroke_44 ?_
      refine lv_isub hx hb dX4_stroke_45 ?_
      refine rdS (As := [.int (k - (ky r.toNatClampNeg))]) (rest := [.int (tp (kd r.toNatClampNeg).toNatClampNeg)]) (st1 := [.int (f_X4_c (k - (ky r.toNatClampNeg))), .int (tp (kd r.toNatClampNeg).toNatClampNeg)]) (k_X4_c l D (tysW cI cJ cZ) (k - (ky r.toNatClampNeg))) (si_X4_92 ht ⟨Nat.le_of_ble_eq_true rfl, Nat.le_of_ble_eq_true rfl⟩) hx hb hml hown (hE.since hS) pNil hK rfl hl.1 rfl (Nat.le_of_ble_eq_true rfl) ⟨Nat.zero_le _, Nat.zero_le _⟩ dX4_stroke_46 rfl ?_
      refine lv_imul hx hb dX4_stroke_49 ?_
      refine lv_istore_n (lv' := [(3, .int ((tp (kd r.toNatClampNeg).toNatClampNeg) * (f_X4_c (k - (ky r.toNatClampNeg))))), (0, .ref (a 0)), (1, .int r), (2, .int k)]) hx hb dX4_stroke_50 rfl hl (by decide) rfl (fun ls hl => ?_)
      refine lv_iload_n hx hb dX4_stroke_51 rfl (lv_at hl 0 rfl) ?_
      refine lv_bipush (v := 64) hx hb dX4_stroke_52 (by decide) ?_
      refine lv_idiv hx hb dX4_stroke_54 (by decide) ?_
      refine lv_istore (lv' := [(4, .int (((tp (kd r.toNatClampNeg).toNatClampNeg) * (f_X4_c (k - (ky r.toNatClampNeg)))) / 64)), (3, .int ((tp (kd r.toNatClampNeg).toNatClampNeg) * (f_X4_c (k - (ky r.toNatClampNeg))))), (0, .ref (a 0)), (1, .int r), (2, .int k)]) hx hb dX4_stroke_55 hl (by decide) rfl (fun ls hl => ?_)
      refine lv_iload_n hx hb dX4_stroke_57 rfl (lv_at hl 1 rfl) ?_
      refine lv_if_ge (tgt := 77) hx hb dX4_stroke_58 (by decide) (fun c_3 => ?_) (fun c_3 => ?_)
      · skip
        refine lv_iload hx hb dX4_stroke_77 (lv_at hl 0 rfl) ?_
        exact wr_i hx hb hr hlocks hAe hP hD hS dX4_stroke_79 (⟨by unfold f_X4_stroke; rw [if_neg c_1, if_neg c_2, if_pos c_3], by simp only [f_X4_stroke_fa, if_neg c_1, if_neg c_2, if_pos c_3]⟩)
      · skip
        refine lv_iload hx hb dX4_stroke_61 (lv_at hl 0 rfl) ?_
        refine lv_bipush (v := 64) hx hb dX4_stroke_63 (by decide) ?_
        refine lv_imul hx hb dX4_stroke_65 ?_
        refine lv_iload_n hx hb dX4_stroke_66 rfl (lv_at hl 1 rfl) ?_
        refine lv_icmp_eq (tgt := 77) hx hb dX4_stroke_67 (by decide) (fun c_4 => ?_) (fun c_4 => ?_)
        · skip
          refine lv_iload hx hb dX4_stroke_77 (lv_at hl 0 rfl) ?_
          exact wr_i hx hb hr hlocks hAe hP hD hS dX4_stroke_79 (⟨by unfold f_X4_stroke; rw [if_neg c_1, if_neg c_2, if_neg c_3, if_pos c_4], by simp only [f_X4_stroke_fa, if_neg c_1, if_neg c_2, if_neg c_3, if_pos c_4]⟩)
        · skip
          refine lv_iload hx hb dX4_stroke_70 (lv_at hl 0 rfl) ?_
          refine lv_iconst (v := 1) hx hb dX4_stroke_72 (by decide) ?_
          refine lv_isub hx hb dX4_stroke_73 ?_
          refine lv_goto (tgt := 79) hx hb dX4_stroke_74 (by decide) ?_
          exact wr_i hx hb hr hlocks hAe hP hD hS dX4_stroke_79 (⟨by unfold f_X4_stroke; rw [if_neg c_1, if_neg c_2, if_neg c_3, if_neg c_4], by simp only [f_X4_stroke_fa, if_neg c_1, if_neg c_2, if_neg c_3, if_neg c_4]⟩)
    · skip
      refine lv_iconst (v := 0) hx hb dX4_stroke_25 (by decide) ?_
      exact wr_i hx hb hr hlocks hAe hP hD hS dX4_stroke_26 (⟨by unfold f_X4_stroke; rw [if_neg c_1, if_pos c_2], by simp only [f_X4_stroke_fa, if_neg c_1, if_pos c_2]⟩)
