theorem rd_v {p : Program} {l : Launch} {e : Env} {R : Room} {s : State} {m : MethodId} {args : Array Value} {below : List Frame} {meth : Method} {c : Code} {cc : ByteArray} {pc : Nat} {ls : Array Slot} (hx : p.tables.exec = Jvm.exec) (hb : c.code = cc) (hr : meth.sig.returnType = none) (hlocks : meth.locks = false) (hdg : decode cc pc = .ok (.return_, 1)) (_ : (0 : Nat) = 0) : W p l e R s m args below meth c s.heap [] 0 0 (MQ below (QcR none) args s 0 0 (fun _ => False)) (F0 m pc ls []) :=
  W.vret hx hb hr (fun t ht hW => ⟨rfl, ht⟩) (fun q h => by cases h) hdg hlocks
set_option maxRecDepth 20000 in
set_option maxHeartbeats 4000000 in
theorem k_X3_needRing (l : Launch) (D : va_G) (cI cJ cZ : ClassId) (a : Nat → Nat) (n : Nat) (ah pl ck ct nk pm ja rg bu pn : Int32) (tp st us fb kA tA : Nat → Int32) (lx ly gx gy gu gv : Nat → Int64) (r : Int32) (hh : ¬ f_X2_has r rg = 0) : RD l yX3_needRing cX3_needRing 2 none 1 D (tysW cI cJ cZ) (wI cI cJ cZ a n ah pl ck ct nk pm ja rg bu pn tp st us fb kA tA lx ly gx gy gu gv) [.ref (a 0), .int r] (none) := by
  refine RD.of (by decide) ?_
  intro p e s m below meth c hx hb hr hml hown hlocks hE hP hK
  have hown : s.vm.findClass RX3 = some m.cls := hown
  have ht : tb_OK s := hE.1
  have hl := lv_entry ([.ref (a 0), .int r]) (n := 2) (Nat.le_of_ble_eq_true rfl)
  rw [lg_entry_eq]
  generalize (lg_sl ([.ref (a 0), .int r]) ++ List.replicate (2 - (lg_sl ([.ref (a 0), .int r])).length) Slot.unset).toArray = ls at hl ⊢
  have hl : lv_has ls 2 [(0, .ref (a 0)), (1, .int r)] := hl
  refine lv_aload_n hx hb dX3_needRing_0 rfl (lv_at hl 0 rfl) ?_
  refine va_get (D := D) (ci := 4) (v := .ref (a 7)) (C := RX3) (T := TX3) (N := 7) hx hb (lyX3 ht) (fun _ h9 => h9) hown hK hP 0 rfl rfl 2 (by decide) (fl_X3_37 ht) (fun _ h9 => h9) rfl dX3_needRing_1 ?_
  refine lv_iload_n hx hb dX3_needRing_4 rfl (lv_at hl 1 rfl) ?_
  refine rdVN (As := [.int r]) (rest := []) (st1 := [.int (f_X2_has r rg)]) (k_X2_has l D cI cJ cZ a n ah pl ck ct nk pm ja rg bu pn tp st us fb kA tA lx ly gx gy gu gv r) (si_X3_134 ht ⟨Nat.le_of_ble_eq_true rfl, Nat.le_of_ble_eq_true rfl⟩) hx hb hml hown (va_recv hK hP (ci := 3) (q0 := 7) rfl rfl) hE hP hK rfl hl.1 rfl (Nat.le_of_ble_eq_true rfl) ⟨Nat.zero_le _, Nat.zero_le _⟩ dX3_needRing_5 rfl ?_
  refine lv_if_ne (tgt := 21) hx hb dX3_needRing_8 (by decide) (fun c_1 => ?_) (fun c_1 => absurd c_1 hh)
  exact rd_v hx hb hr hlocks dX3_needRing_21 (rfl)
set_option maxRecDepth 20000 in
set_option maxHeartbeats 4000000 in
theorem k_X3_needStanding (l : Launch) (D : va_G) (cI cJ cZ : ClassId) (a : Nat → Nat) (n : Nat) (ah pl ck ct nk pm ja rg bu pn : Int32) (tp st us fb kA tA : Nat → Int32) (lx ly gx gy gu gv : Nat → Int64) (r : Int32) (hh : ¬ f_X2_stands r bu pn = 0) : RD l yX3_needStanding cX3_needStanding 2 none 2 D (tysW cI cJ cZ) (wI cI cJ cZ a n ah pl ck ct nk pm ja rg bu pn tp st us fb kA tA lx ly gx gy gu gv) [.ref (a 0), .int r] (none) := by
  refine RD.of (by decide) ?_
  intro p e s m below meth c hx hb hr hml hown hlocks hE hP hK
  have hown : s.vm.findClass RX3 = some m.cls := hown
  have ht : tb_OK s := hE.1
  have hl := lv_entry ([.ref (a 0), .int r]) (n := 2) (Nat.le_of_ble_eq_true rfl)
  rw [lg_entry_eq]
  generalize (lg_sl ([.ref (a 0), .int r]) ++ List.replicate (2 - (lg_sl ([.ref (a 0), .int r])).length) Slot.unset).toArray = ls at hl ⊢
  have hl : lv_has ls 2 [(0, .ref (a 0)), (1, .int r)] := hl
  refine lv_aload_n hx hb dX3_needStanding_0 rfl (lv_at hl 0 rfl) ?_
  refine va_get (D := D) (ci := 4) (v := .ref (a 7)) (C := RX3) (T := TX3) (N := 7) hx hb (lyX3 ht) (fun _ h9 => h9) hown hK hP 0 rfl rfl 2 (by decide) (fl_X3_37 ht) (fun _ h9 => h9) rfl dX3_needStanding_1 ?_
  refine lv_iload_n hx hb dX3_needStanding_4 rfl (lv_at hl 1 rfl) ?_
  refine rdVN (As := [.int r]) (rest := []) (st1 := [.int (f_X2_stands r bu pn)]) (k_X2_stands l D cI cJ cZ a n ah pl ck ct nk pm ja rg bu pn tp st us fb kA tA lx ly gx gy gu gv r) (si_X3_128 ht ⟨Nat.le_of_ble_eq_true rfl, Nat.le_of_ble_eq_true rfl⟩) hx hb hml hown (va_recv hK hP (ci := 3) (q0 := 7) rfl rfl) hE hP hK rfl hl.1 rfl (Nat.le_of_ble_eq_true rfl) ⟨Nat.zero_le _, Nat.zero_le _⟩ dX3_needStanding_5 rfl ?_
  refine lv_if_ne (tgt := 21) hx hb dX3_needStanding_8 (by decide) (fun c_1 => ?_) (fun c_1 => absurd c_1 hh)
  exact rd_v hx hb hr hlocks dX3_needStanding_21 (rfl)
def f_X3_line (r : Int32) (j : Int32) (f : Int32) (bu : Int32) (pn : Int32) : Int32 := if (f_X3_isWithin j (-10000000) 10000000) = 0 then -2 else (if (f_X3_isWithin f (-10000000) 10000000) = 0 then -2 else (if (f_X2_stateAt r bu pn) = 2 then -3 else 1))
def f_X3_line_lx (r : Int32) (j : Int32) (f : Int32) (bu : Int32) (pn : Int32) (lx : Nat → Int64) : Nat → Int64 := if (f_X3_isWithin j (-10000000) 10000000) = 0 then lx else (if (f_X3_isWithin f (-10000000) 10000000) = 0 then lx else (if (f_X2_stateAt r bu pn) = 2 then lx else (f_X2_setPoint_lx r j lx)))
def f_X3_line_ly (r : Int32) (j : Int32) (f : Int32) (bu : Int32) (pn : Int32) (ly : Nat → Int64) : Nat → Int64 := if (f_X3_isWithin j (-10000000) 10000000) = 0 then ly else (if (f_X3_isWithin f (-10000000) 10000000) = 0 then ly else (if (f_X2_stateAt r bu pn) = 2 then ly else (f_X2_setPoint_ly r f ly)))
set_option maxRecDepth 20000 in
set_option maxHeartbeats 4000000 in
theorem k_X3_line (l : Launch) (D : va_G) (cI cJ cZ : ClassId) (a : Nat → Nat) (n : Nat) (ah pl ck ct nk pm ja rg bu pn : Int32) (tp st us fb kA tA : Nat → Int32) (lx ly gx gy gu gv : Nat → Int64) (r : Int32) (j : Int32) (f : Int32) (hh : ¬ f_X2_has r rg = 0) (hrn : vp_in r n) : WR l yX3_line cX3_line 4 (some .int) 2 0 0 D (tysW cI cJ cZ) (wI cI cJ cZ a n ah pl ck ct nk pm ja rg bu pn tp st us fb kA tA lx ly gx gy gu gv) [.ref (a 0), .int r, .int j, .int f] (fun ov w' => ov = some (.int (f_X3_line r j f bu pn)) ∧ w' = wI cI cJ cZ a n ah pl ck ct nk pm ja rg bu pn tp st us fb kA tA (f_X3_line_lx r j f bu pn lx) (f_X3_line_ly r j f bu pn ly) gx gy gu gv) := by
  refine WR.of (by decide) ?_
  intro p e s m below meth c A hadm hx hb hr hml hown hlocks hname hE hP hK hD hS hA hAe
  have hown : s.vm.findClass RX3 = some m.cls := hown
  have ht : tb_OK s := hE.1
  have hl := lv_entry ([.ref (a 0), .int r, .int j, .int f]) (n := 4) (Nat.le_of_ble_eq_true rfl)
  rw [lg_entry_eq]
  generalize (lg_sl ([.ref (a 0), .int r, .int j, .int f]) ++ List.replicate (4 - (lg_sl ([.ref (a 0), .int r, .int j, .int f])).length) Slot.unset).toArray = ls at hl ⊢
  have hl : lv_has ls 4 [(0, .ref (a 0)), (1, .int r), (2, .int j), (3, .int f)] := hl
  refine lv_aload_n hx hb dX3_line_0 rfl (lv_at hl 0 rfl) ?_
  refine lv_iload_n hx hb dX3_line_1 rfl (lv_at hl 1 rfl) ?_
  refine rdV (As := [.int r]) (rest := []) (st1 := []) (k_X3_needRing l D cI cJ cZ a n ah pl ck ct nk pm ja rg bu pn tp st us fb kA tA lx ly gx gy gu gv r hh) (si_X3_72 ht ⟨Nat.le_of_ble_eq_true rfl, Nat.le_of_ble_eq_true rfl⟩) hx hb hml hown (va_recv hK hP (ci := 4) (q0 := 0) rfl rfl) (hE.since hS) hP hK rfl hl.1 rfl (Nat.le_of_ble_eq_true rfl) ⟨Nat.zero_le _, Nat.zero_le _⟩ dX3_line_2 rfl ?_
  refine lv_iload_n hx hb dX3_line_5 rfl (lv_at hl 2 rfl) ?_
  refine lv_ldc (v := -10000000) hx hb hown (kc_X3_75 ht) dX3_line_6 ?_
  refine lv_ldc (v := 10000000) hx hb hown (kc_X3_76 ht) dX3_line_8 ?_
  refine rdS (As := [.int j, .int (-10000000), .int 10000000]) (rest := []) (st1 := [.int (f_X3_isWithin j (-10000000) 10000000)]) (k_X3_isWithin l D (tysW cI cJ cZ) j (-10000000) 10000000) (si_X3_54 ht ⟨Nat.le_of_ble_eq_true rfl, Nat.le_of_ble_eq_true rfl⟩) hx hb hml hown (hE.since hS) pNil hK rfl hl.1 rfl (Nat.le_of_ble_eq_true rfl) ⟨Nat.zero_le _, Nat.zero_le _⟩ dX3_line_10 rfl ?_
  refine lv_if_eq (tgt := 27) hx hb dX3_line_13 (by decide) (fun c_1 => ?_) (fun c_1 => ?_)
  · skip
    refine lv_bipush (v := -2) hx hb dX3_line_27 (by decide) ?_
    exact wr_i hx hb hr hlocks hAe hP hD hS dX3_line_29 (⟨by unfold f_X3_line; rw [if_pos c_1], by simp only [f_X3_line_lx, f_X3_line_ly, if_pos c_1]⟩)
  · skip
    refine lv_iload_n hx hb dX3_line_16 rfl (lv_at hl 3 rfl) ?_
    refine lv_ldc (v := -10000000) hx hb hown (kc_X3_75 ht) dX3_line_17 ?_
    refine lv_ldc (v := 10000000) hx hb hown (kc_X3_76 ht) dX3_line_19 ?_
    refine rdS (As := [.int f, .int (-10000000), .int 10000000]) (rest := []) (st1 := [.int (f_X3_isWithin f (-10000000) 10000000)]) (k_X3_isWithin l D (tysW cI cJ cZ) f (-10000000) 10000000) (si_X3_54 ht ⟨Nat.le_of_ble_eq_true rfl, Nat.le_of_ble_eq_true rfl⟩) hx hb hml hown (hE.since hS) pNil hK rfl hl.1 rfl (Nat.le_of_ble_eq_true rfl) ⟨Nat.zero_le _, Nat.zero_le _⟩ dX3_line_21 rfl ?_
    refine lv_if_ne (tgt := 30) hx hb dX3_line_24 (by decide) (fun c_2 => ?_) (fun c_2 => ?_)
    · skip
      refine lv_aload_n hx hb dX3_line_30 rfl (lv_at hl 0 rfl) ?_
      refine va_get (D := D) (ci := 4) (v := .ref (a 7)) (C := RX3) (T := TX3) (N := 7) hx hb (lyX3 ht) (fun _ h9 => h9) hown hK hP 0 rfl rfl 2 (by decide) (fl_X3_37 ht) (fun _ h9 => h9) rfl dX3_line_31 ?_
      refine lv_iload_n hx hb dX3_line_34 rfl (lv_at hl 1 rfl) ?_
      refine rdVN (As := [.int r]) (rest := []) (st1 := [.int (f_X2_stateAt r bu pn)]) (k_X2_stateAt l D cI cJ cZ a n ah pl ck ct nk pm ja rg bu pn tp st us fb kA tA lx ly gx gy gu gv r) (si_X3_77 ht ⟨Nat.le_of_ble_eq_true rfl, Nat.le_of_ble_eq_true rfl⟩) hx hb hml hown (va_recv hK hP (ci := 3) (q0 := 7) rfl rfl) (hE.since hS) hP hK rfl hl.1 rfl (Nat.le_of_ble_eq_true rfl) ⟨Nat.zero_le _, Nat.zero_le _⟩ dX3_line_35 rfl ?_
      refine lv_iconst (v := 2) hx hb dX3_line_38 (by decide) ?_
      refine lv_icmp_ne (tgt := 45) hx hb dX3_line_39 (by decide) (fun c_3 => ?_) (fun c_3 => ?_)
      · skip
        refine lv_aload_n hx hb dX3_line_45 rfl (lv_at hl 0 rfl) ?_
        refine va_get (D := D) (ci := 4) (v := .ref (a 7)) (C := RX3) (T := TX3) (N := 7) hx hb (lyX3 ht) (fun _ h9 => h9) hown hK hP 0 rfl rfl 2 (by decide) (fl_X3_37 ht) (fun _ h9 => h9) rfl dX3_line_46 ?_
        refine lv_iload_n hx hb dX3_line_49 rfl (lv_at hl 1 rfl) ?_
        refine lv_iload_n hx hb dX3_line_50 rfl (lv_at hl 2 rfl) ?_
        refine lv_iload_n hx hb dX3_line_51 rfl (lv_at hl 3 rfl) ?_
        refine wrVN (As := [.int r, .int j, .int f]) (rest := []) (k_X2_setPoint l D cI cJ cZ a n ah pl ck ct nk pm ja rg bu pn tp st us fb kA tA lx ly gx gy gu gv r j f hrn) (si_X3_81 ht ⟨Nat.le_of_ble_eq_true rfl, Nat.le_of_ble_eq_true rfl⟩) hx hb hml hown (va_recv hK hP (ci := 3) (q0 := 7) rfl rfl) hE hP hK hD hS hA rfl hl.1 rfl (Nat.le_of_ble_eq_true rfl) ⟨Nat.zero_le _, Nat.zero_le _⟩ dX3_line_52 (fun ov w' H locs hpost hP hD hS => ?_)
        obtain ⟨rfl, rfl⟩ := hpost
        refine W.st (st1 := []) rfl ?_
        have hP : va_P D vwCl (wI cI cJ cZ a n ah pl ck ct nk pm ja rg bu pn tp st us fb kA tA (f_X2_setPoint_lx r j lx) (f_X2_setPoint_ly r f ly) gx gy gu gv) H := hP
        have hD : va_D A (wI cI cJ cZ a n ah pl ck ct nk pm ja rg bu pn tp st us fb kA tA (f_X2_setPoint_lx r j lx) (f_X2_setPoint_ly r f ly) gx gy gu gv) := hD
        refine lv_iconst (v := 1) hx hb dX3_line_55 (by decide) ?_
        exact wr_i hx hb hr hlocks hAe hP hD hS dX3_line_56 (⟨by unfold f_X3_line; rw [if_neg c_1, if_neg c_2, if_neg c_3], by simp only [f_X3_line_lx, f_X3_line_ly, if_neg c_1, if_neg c_2, if_neg c_3]⟩)
      · skip
        refine lv_bipush (v := -3) hx hb dX3_line_42 (by decide) ?_
        exact wr_i hx hb hr hlocks hAe hP hD hS dX3_line_44 (⟨by unfold f_X3_line; rw [if_neg c_1, if_neg c_2, if_pos c_3], by simp only [f_X3_line_lx, f_X3_line_ly, if_neg c_1, if_neg c_2, if_pos c_3]⟩)
    · skip
      refine lv_bipush (v := -2) hx hb dX3_line_27 (by decide) ?_
      exact wr_i hx hb hr hlocks hAe hP hD hS dX3_line_29 (⟨by unfold f_X3_line; rw [if_neg c_1, if_pos c_2], by simp only [f_X3_line_lx, f_X3_line_ly, if_neg c_1, if_pos c_2]⟩)
def f_X3_survey (r : Int32) (j : Int32) (f : Int32) (bu : Int32) (pn : Int32) : Int32 := if (f_X3_isWithin j (-100000) 100000) = 0 then -2 else (if (f_X3_isWithin f (-100000) 100000) = 0 then -2 else (if (f_X2_stateAt r bu pn) = 2 then (bu - r) else -3))
def f_X3_survey_pn (r : Int32) (j : Int32) (f : Int32) (bu : Int32) (pn : Int32) : Int32 := if (f_X3_isWithin j (-100000) 100000) = 0 then pn else (if (f_X3_isWithin f (-100000) 100000) = 0 then pn else (if (f_X2_stateAt r bu pn) = 2 then f_X3_openPlanned_pn else pn))
def f_X3_survey_us (r : Int32) (j : Int32) (f : Int32) (B : Nat) (S : Nat) (bu : Int32) (pn : Int32) (us : Nat → Int32) (kA : Nat → Int32) : Nat → Int32 := if (f_X3_isWithin j (-100000) 100000) = 0 then us else (if (f_X3_isWithin f (-100000) 100000) = 0 then us else (if (f_X2_stateAt r bu pn) = 2 then (f_X3_openPlanned_us B S us kA) else us))
def f_X3_survey_gx (r : Int32) (j : Int32) (f : Int32) (B : Nat) (rn : Nat) (bu : Int32) (pn : Int32) (gx : Nat → Int64) : Nat → Int64 := if (f_X3_isWithin j (-100000) 100000) = 0 then gx else (if (f_X3_isWithin f (-100000) 100000) = 0 then gx else (if (f_X2_stateAt r bu pn) = 2 then (f_X2_shiftBuilt_gx j B rn gx) else gx))
def f_X3_survey_gy (r : Int32) (j : Int32) (f : Int32) (B : Nat) (rn : Nat) (bu : Int32) (pn : Int32) (gy : Nat → Int64) : Nat → Int64 := if (f_X3_isWithin j (-100000) 100000) = 0 then gy else (if (f_X3_isWithin f (-100000) 100000) = 0 then gy else (if (f_X2_stateAt r bu pn) = 2 then (f_X2_shiftBuilt_gy f B rn gy) else gy))
set_option maxRecDepth 20000 in
set_option maxHeartbeats 4000000 in
theorem k_X3_survey (l : Launch) (D : va_G) (cI cJ cZ : ClassId) (a : Nat → Nat) (n : Nat) (ah pl ck ct nk pm ja rg bu pn : Int32) (tp st us fb kA tA : Nat → Int32) (lx ly gx gy gu gv : Nat → Int64) (r : Int32) (j : Int32) (f : Int32) (B : Nat) (S : Nat) (rn : Nat) (hh : ¬ f_X2_has r rg = 0) (eB : bu = nI B) (hBS : B ≤ S) (gS : bu + pn = nI S) (hSn : S ≤ n) (hn : n ≤ 24) (hkA : ∀ i, i < S → vp_in (kA i) 4) (ern : r = nI rn) (hrB : f_X2_stateAt r bu pn = 2 → rn ≤ B) : WR l yX3_survey cX3_survey 4 (some .int) 2 0 0 D (tysW cI cJ cZ) (wI cI cJ cZ a n ah pl ck ct nk pm ja rg bu pn tp st us fb kA tA lx ly gx gy gu gv) [.ref (a 0), .int r, .int j, .int f] (fun ov w' => ov = some (.int (f_X3_survey r j f bu pn)) ∧ w' = wI cI cJ cZ a n ah pl ck ct nk pm ja rg bu (f_X3_survey_pn r j f bu pn) tp st (f_X3_survey_us r j f B S bu pn us kA) fb kA tA lx ly (f_X3_survey_gx r j f B rn bu pn gx) (f_X3_survey_gy r j f B rn bu pn gy) gu gv) := by
  refine WR.of (by decide) ?_
  intro p e s m below meth c A hadm hx hb hr hml hown hlocks hname hE hP hK hD hS hA hAe
  have hown : s.vm.findClass RX3 = some m.cls := hown
  have ht : tb_OK s := hE.1
  have hl := lv_entry ([.ref (a 0), .int r, .int j, .int f]) (n := 4) (Nat.le_of_ble_eq_true rfl)
  rw [lg_entry_eq]
  generalize (lg_sl ([.ref (a 0), .int r, .int j, .int f]) ++ List.replicate (4 - (lg_sl ([.ref (a 0), .int r, .int j, .int f])).length) Slot.unset).toArray = ls at hl ⊢
  have hl : lv_has ls 4 [(0, .ref (a 0)), (1, .int r), (2, .int j), (3, .int f)] := hl
  refine lv_aload_n hx hb dX3_survey_0 rfl (lv_at hl 0 rfl) ?_
  refine lv_iload_n hx hb dX3_survey_1 rfl (lv_at hl 1 rfl) ?_
  refine rdV (As := [.int r]) (rest := []) (st1 := []) (k_X3_needRing l D cI cJ cZ a n ah pl ck ct nk pm ja rg bu pn tp st us fb kA tA lx ly gx gy gu gv r hh) (si_X3_72 ht ⟨Nat.le_of_ble_eq_true rfl, Nat.le_of_ble_eq_true rfl⟩) hx hb hml hown (va_recv hK hP (ci := 4) (q0 := 0) rfl rfl) (hE.since hS) hP hK rfl hl.1 rfl (Nat.le_of_ble_eq_true rfl) ⟨Nat.zero_le _, Nat.zero_le _⟩ dX3_survey_2 rfl ?_
  refine lv_iload_n hx hb dX3_survey_5 rfl (lv_at hl 2 rfl) ?_
  refine lv_ldc (v := -100000) hx hb hown (kc_X3_107 ht) dX3_survey_6 ?_
  refine lv_ldc (v := 100000) hx hb hown (kc_X3_108 ht) dX3_survey_8 ?_
  refine rdS (As := [.int j, .int (-100000), .int 100000]) (rest := []) (st1 := [.int (f_X3_isWithin j (-100000) 100000)]) (k_X3_isWithin l D (tysW cI cJ cZ) j (-100000) 100000) (si_X3_54 ht ⟨Nat.le_of_ble_eq_true rfl, Nat.le_of_ble_eq_true rfl⟩) hx hb hml hown (hE.since hS) pNil hK rfl hl.1 rfl (Nat.le_of_ble_eq_true rfl) ⟨Nat.zero_le _, Nat.zero_le _⟩ dX3_survey_10 rfl ?_
  refine lv_if_eq (tgt := 27) hx hb dX3_survey_13 (by decide) (fun c_1 => ?_) (fun c_1 => ?_)
  · skip
    refine lv_bipush (v := -2) hx hb dX3_survey_27 (by decide) ?_
    exact wr_i hx hb hr hlocks hAe hP hD hS dX3_survey_29 (⟨by unfold f_X3_survey; rw [if_pos c_1], by simp only [f_X3_survey_pn, f_X3_survey_us, f_X3_survey_gx, f_X3_survey_gy, if_pos c_1]⟩)
  · skip
    refine lv_iload_n hx hb dX3_survey_16 rfl (lv_at hl 3 rfl) ?_
    refine lv_ldc (v := -100000) hx hb hown (kc_X3_107 ht) dX3_survey_17 ?_
    refine lv_ldc (v := 100000) hx hb hown (kc_X3_108 ht) dX3_survey_19 ?_
    refine rdS (As := [.int f, .int (-100000), .int 100000]) (rest := []) (st1 := [.int (f_X3_isWithin f (-100000) 100000)]) (k_X3_isWithin l D (tysW cI cJ cZ) f (-100000) 100000) (si_X3_54 ht ⟨Nat.le_of_ble_eq_true rfl, Nat.le_of_ble_eq_true rfl⟩) hx hb hml hown (hE.since hS) pNil hK rfl hl.1 rfl (Nat.le_of_ble_eq_true rfl) ⟨Nat.zero_le _, Nat.zero_le _⟩ dX3_survey_21 rfl ?_
    refine lv_if_ne (tgt := 30) hx hb dX3_survey_24 (by decide) (fun c_2 => ?_) (fun c_2 => ?_)
    · skip
      refine lv_aload_n hx hb dX3_survey_30 rfl (lv_at hl 0 rfl) ?_
      refine va_get (D := D) (ci := 4) (v := .ref (a 7)) (C := RX3) (T := TX3) (N := 7) hx hb (lyX3 ht) (fun _ h9 => h9) hown hK hP 0 rfl rfl 2 (by decide) (fl_X3_37 ht) (fun _ h9 => h9) rfl dX3_survey_31 ?_
      refine lv_iload_n hx hb dX3_survey_34 rfl (lv_at hl 1 rfl) ?_
      refine rdVN (As := [.int r]) (rest := []) (st1 := [.int (f_X2_stateAt r bu pn)]) (k_X2_stateAt l D cI cJ cZ a n ah pl ck ct nk pm ja rg bu pn tp st us fb kA tA lx ly gx gy gu gv r) (si_X3_77 ht ⟨Nat.le_of_ble_eq_true rfl, Nat.le_of_ble_eq_true rfl⟩) hx hb hml hown (va_recv hK hP (ci := 3) (q0 := 7) rfl rfl) (hE.since hS) hP hK rfl hl.1 rfl (Nat.le_of_ble_eq_true rfl) ⟨Nat.zero_le _, Nat.zero_le _⟩ dX3_survey_35 rfl ?_
      refine lv_iconst (v := 2) hx hb dX3_survey_38 (by decide) ?_
      refine lv_icmp_eq (tgt := 45) hx hb dX3_survey_39 (by decide) (fun c_3 => ?_) (fun c_3 => ?_)
      · skip
        refine lv_aload_n hx hb dX3_survey_45 rfl (lv_at hl 0 rfl) ?_
        refine wrV (As := []) (rest := []) (k_X3_openPlanned l D cI cJ cZ a n ah pl ck ct nk pm ja rg bu pn tp st us fb kA tA lx ly gx gy gu gv B S eB hBS gS hSn hn hkA) (si_X3_92 ht ⟨Nat.le_of_ble_eq_true rfl, Nat.le_of_ble_eq_true rfl⟩) hx hb hml hown (va_recv hK hP (ci := 4) (q0 := 0) rfl rfl) hE hP hK hD hS hA rfl hl.1 rfl (Nat.le_of_ble_eq_true rfl) ⟨Nat.zero_le _, Nat.zero_le _⟩ dX3_survey_46 (fun ov w' H locs hpost hP hD hS => ?_)
        obtain ⟨rfl, rfl⟩ := hpost
        refine W.st (st1 := []) rfl ?_
        have hP : va_P D vwCl (wI cI cJ cZ a n ah pl ck ct nk pm ja rg bu f_X3_openPlanned_pn tp st (f_X3_openPlanned_us B S us kA) fb kA tA lx ly gx gy gu gv) H := hP
        have hD : va_D A (wI cI cJ cZ a n ah pl ck ct nk pm ja rg bu f_X3_openPlanned_pn tp st (f_X3_openPlanned_us B S us kA) fb kA tA lx ly gx gy gu gv) := hD
        refine lv_aload_n hx hb dX3_survey_49 rfl (lv_at hl 0 rfl) ?_
        refine va_get (D := D) (ci := 4) (v := .ref (a 7)) (C := RX3) (T := TX3) (N := 7) hx hb (lyX3 ht) (fun _ h9 => h9) hown hK hP 0 rfl rfl 2 (by decide) (fl_X3_37 ht) (fun _ h9 => h9) rfl dX3_survey_50 ?_
        refine lv_iload_n hx hb dX3_survey_53 rfl (lv_at hl 1 rfl) ?_
        refine lv_iload_n hx hb dX3_survey_54 rfl (lv_at hl 2 rfl) ?_
        refine lv_iload_n hx hb dX3_survey_55 rfl (lv_at hl 3 rfl) ?_
        refine wrVN (As := [.int r, .int j, .int f]) (rest := []) (k_X2_shiftBuilt l D cI cJ cZ a n ah pl ck ct nk pm ja rg bu f_X3_openPlanned_pn tp st (f_X3_openPlanned_us B S us kA) fb kA tA lx ly gx gy gu gv r j f B rn eB (by omega) hn ern (hrB c_3)) (si_X3_109 ht ⟨Nat.le_of_ble_eq_true rfl, Nat.le_of_ble_eq_true rfl⟩) hx hb hml hown (va_recv hK hP (ci := 3) (q0 := 7) rfl rfl) hE hP hK hD hS hA rfl hl.1 rfl (Nat.le_of_ble_eq_true rfl) ⟨Nat.zero_le _, Nat.zero_le _⟩ dX3_survey_56 (fun ov w' H locs hpost hP hD hS => ?_)
        obtain ⟨rfl, rfl⟩ := hpost
        refine W.st (st1 := []) rfl ?_
        have hP : va_P D vwCl (wI cI cJ cZ a n ah pl ck ct nk pm ja rg bu f_X3_openPlanned_pn tp st (f_X3_openPlanned_us B S us kA) fb kA tA lx ly (f_X2_shiftBuilt_gx j B rn gx) (f_X2_shiftBuilt_gy f B rn gy) gu gv) H := hP
        have hD : va_D A (wI cI cJ cZ a n ah pl ck ct nk pm ja rg bu f_X3_openPlanned_pn tp st (f_X3_openPlanned_us B S us kA) fb kA tA lx ly (f_X2_shiftBuilt_gx j B rn gx) (f_X2_shiftBuilt_gy f B rn gy) gu gv) := hD
        refine lv_aload_n hx hb dX3_survey_59 rfl (lv_at hl 0 rfl) ?_
        refine va_get (D := D) (ci := 4) (v := .ref (a 7)) (C := RX3) (T := TX3) (N := 7) hx hb (lyX3 ht) (fun _ h9 => h9) hown hK hP 0 rfl rfl 2 (by decide) (fl_X3_37 ht) (fun _ h9 => h9) rfl dX3_survey_60 ?_
        refine va_getN (D := D) (ci := 3) (v := .int bu) (C := RX2) (T := TX2) (N := 11) hx hb (lyX2 ht) (fun _ h9 => h9) hown hK hP 7 rfl rfl 1 (by decide) (fn_X3_95 ht) (fun _ h9 => h9) rfl dX3_survey_63 ?_
        refine lv_iload_n hx hb dX3_survey_66 rfl (lv_at hl 1 rfl) ?_
        refine lv_isub hx hb dX3_survey_67 ?_
        exact wr_i hx hb hr hlocks hAe hP hD hS dX3_survey_68 (⟨by unfold f_X3_survey; rw [if_neg c_1, if_neg c_2, if_pos c_3], by simp only [f_X3_survey_pn, f_X3_survey_us, f_X3_survey_gx, f_X3_survey_gy, if_neg c_1, if_neg c_2, if_pos c_3]⟩)
      · skip
        refine lv_bipush (v := -3) hx hb dX3_survey_42 (by decide) ?_
        exact wr_i hx hb hr hlocks hAe hP hD hS dX3_survey_44 (⟨by unfold f_X3_survey; rw [if_neg c_1, if_neg c_2, if_neg c_3], by simp only [f_X3_survey_pn, f_X3_survey_us, f_X3_survey_gx, f_X3_survey_gy, if_neg c_1, if_neg c_2, if_neg c_3]⟩)
    · skip
      refine lv_bipush (v := -2) hx hb dX3_survey_27 (by decide) ?_
      exact wr_i hx hb hr hlocks hAe hP hD hS dX3_survey_29 (⟨by unfold f_X3_survey; rw [if_neg c_1, if_pos c_2], by simp only [f_X3_survey_pn, f_X3_survey_us, f_X3_survey_gx, f_X3_survey_gy, if_neg c_1, if_pos c_2]⟩)
def f_X3_replace (r : Int32) (k : Int32) (nk : Int32) (bu : Int32) (pn : Int32) (st : Nat → Int32) (us : Nat → Int32) (kA : Nat → Int32) : Int32 := if (f_X1_has k nk) = 0 then -1 else (if (f_X2_stateAt r bu pn) = 1 then (if (kA r.toNatClampNeg) = k then -3 else (if 1 ≤ (f_X1_unused k st us) then 1 else -3)) else -3)
def f_X3_replace_us (r : Int32) (k : Int32) (nk : Int32) (bu : Int32) (pn : Int32) (st : Nat → Int32) (us : Nat → Int32) (kA : Nat → Int32) : Nat → Int32 := if (f_X1_has k nk) = 0 then us else (if (f_X2_stateAt r bu pn) = 1 then (if (kA r.toNatClampNeg) = k then us else (if 1 ≤ (f_X1_unused k st us) then (f_X1_take_us k (f_X1_giveBack_us (kA r.toNatClampNeg) us)) else us)) else us)
def f_X3_replace_kA (r : Int32) (k : Int32) (nk : Int32) (bu : Int32) (pn : Int32) (st : Nat → Int32) (us : Nat → Int32) (kA : Nat → Int32) : Nat → Int32 := if (f_X1_has k nk) = 0 then kA else (if (f_X2_stateAt r bu pn) = 1 then (if (kA r.toNatClampNeg) = k then kA else (if 1 ≤ (f_X1_unused k st us) then (upd kA r.toNatClampNeg k) else kA)) else kA)
def f_X3_replace_gx (r : Int32) (k : Int32) (rn : Nat) (S : Nat) (nk : Int32) (bu : Int32) (pn : Int32) (tp : Nat → Int32) (st : Nat → Int32) (us : Nat → Int32) (kA : Nat → Int32) (tA : Nat → Int32) (gx : Nat → Int64) (gy : Nat → Int64) (gu : Nat → Int64) (gv : Nat → Int64) : Nat → Int64 := if (f_X1_has k nk) = 0 then gx else (if (f_X2_stateAt r bu pn) = 1 then (if (kA r.toNatClampNeg) = k then gx else (if 1 ≤ (f_X1_unused k st us) then (f_X3_layAgainFrom_gx rn S tp (upd kA r.toNatClampNeg k) tA gx gy gu gv) else gx)) else gx)
def f_X3_replace_gy (r : Int32) (k : Int32) (rn : Nat) (S : Nat) (nk : Int32) (bu : Int32) (pn : Int32) (tp : Nat → Int32) (st : Nat → Int32) (us : Nat → Int32) (kA : Nat → Int32) (tA : Nat → Int32) (gx : Nat → Int64) (gy : Nat → Int64) (gu : Nat → Int64) (gv : Nat → Int64) : Nat → Int64 := if (f_X1_has k nk) = 0 then gy else (if (f_X2_stateAt r bu pn) = 1 then (if (kA r.toNatClampNeg) = k then gy else (if 1 ≤ (f_X1_unused k st us) then (f_X3_layAgainFrom_gy rn S tp (upd kA r.toNatClampNeg k) tA gx gy gu gv) else gy)) else gy)
def f_X3_replace_gu (r : Int32) (k : Int32) (rn : Nat) (S : Nat) (nk : Int32) (bu : Int32) (pn : Int32) (tp : Nat → Int32) (st : Nat → Int32) (us : Nat → Int32) (kA : Nat → Int32) (tA : Nat → Int32) (gx : Nat → Int64) (gy : Nat → Int64) (gu : Nat → Int64) (gv : Nat → Int64) : Nat → Int64 := if (f_X1_has k nk) = 0 then gu else (if (f_X2_stateAt r bu pn) = 1 then (if (kA r.toNatClampNeg) = k then gu else (if 1 ≤ (f_X1_unused k st us) then (f_X3_layAgainFrom_gu rn S tp (upd kA r.toNatClampNeg k) tA gx gy gu gv) else gu)) else gu)
def f_X3_replace_gv (r : Int32) (k : Int32) (rn : Nat) (S : Nat) (nk : Int32) (bu : Int32) (pn : Int32) (tp : Nat → Int32) (st : Nat → Int32) (us : Nat → Int32) (kA : Nat → Int32) (tA : Nat → Int32) (gx : Nat → Int64) (gy : Nat → Int64) (gu : Nat → Int64) (gv : Nat → Int64) : Nat → Int64 := if (f_X1_has k nk) = 0 then gv else (if (f_X2_stateAt r bu pn) = 1 then (if (kA r.toNatClampNeg) = k then gv else (if 1 ≤ (f_X1_unused k st us) then (f_X3_layAgainFrom_gv rn S tp (upd kA r.toNatClampNeg k) tA gx gy gu gv) else gv)) else gv)
set_option maxRecDepth 20000 in
set_option maxHeartbeats 4000000 in
theorem k_X3_replace (l : Launch) (D : va_G) (cI cJ cZ : ClassId) (a : Nat → Nat) (n : Nat) (ah pl ck ct nk pm ja rg bu pn : Int32) (tp st us fb kA tA : Nat → Int32) (lx ly gx gy gu gv : Nat → Int64) (r : Int32) (k : Int32) (rn : Nat) (S : Nat) (hh : ¬ f_X2_has r rg = 0) (ern : r = nI rn) (hrn : rn < n) (hrS : f_X2_stateAt r bu pn = 1 → rn < S) (gS : bu + pn = nI S) (hSn : S ≤ n) (hn : n ≤ 24) (hkA : ∀ i, i < S → vp_in (kA i) 4) (hk : ¬ f_X1_has k nk = 0 → vp_in k 4) : WR l yX3_replace cX3_replace 3 (some .int) 3 0 0 D (tysW cI cJ cZ) (wI cI cJ cZ a n ah pl ck ct nk pm ja rg bu pn tp st us fb kA tA lx ly gx gy gu gv) [.ref (a 0), .int r, .int k] (fun ov w' => ov = some (.int (f_X3_replace r k nk bu pn st us kA)) ∧ w' = wI cI cJ cZ a n ah pl ck ct nk pm ja rg bu pn tp st (f_X3_replace_us r k nk bu pn st us kA) fb (f_X3_replace_kA r k nk bu pn st us kA) tA lx ly (f_X3_replace_gx r k rn S nk bu pn tp st us kA tA gx gy gu gv) (f_X3_replace_gy r k rn S nk bu pn tp st us kA tA gx gy gu gv) (f_X3_replace_gu r k rn S nk bu pn tp st us kA tA gx gy gu gv) (f_X3_replace_gv r k rn S nk bu pn tp st us kA tA gx gy gu gv)) := by
  refine WR.of (by decide) ?_
  intro p e s m below meth c A hadm hx hb hr hml hown hlocks hname hE hP hK hD hS hA hAe
  have hown : s.vm.findClass RX3 = some m.cls := hown
  have ht : tb_OK s := hE.1
  have hl := lv_entry ([.ref (a 0), .int r, .int k]) (n := 3) (Nat.le_of_ble_eq_true rfl)
  rw [lg_entry_eq]
  generalize (lg_sl ([.ref (a 0), .int r, .int k]) ++ List.replicate (3 - (lg_sl ([.ref (a 0), .int r, .int k])).length) Slot.unset).toArray = ls at hl ⊢
  have hl : lv_has ls 3 [(0, .ref (a 0)), (1, .int r), (2, .int k)] := hl
  refine lv_aload_n hx hb dX3_replace_0 rfl (lv_at hl 0 rfl) ?_
  refine lv_iload_n hx hb dX3_replace_1 rfl (lv_at hl 1 rfl) ?_
  refine rdV (As := [.int r]) (rest := []) (st1 := []) (k_X3_needRing l D cI cJ cZ a n ah pl ck ct nk pm ja rg bu pn tp st us fb kA tA lx ly gx gy gu gv r hh) (si_X3_72 ht ⟨Nat.le_of_ble_eq_true rfl, Nat.le_of_ble_eq_true rfl⟩) hx hb hml hown (va_recv hK hP (ci := 4) (q0 := 0) rfl rfl) (hE.since hS) hP hK rfl hl.1 rfl (Nat.le_of_ble_eq_true rfl) ⟨Nat.zero_le _, Nat.zero_le _⟩ dX3_replace_2 rfl ?_
  refine lv_aload_n hx hb dX3_replace_5 rfl (lv_at hl 0 rfl) ?_
  refine va_get (D := D) (ci := 4) (v := .ref (a 1)) (C := RX3) (T := TX3) (N := 7) hx hb (lyX3 ht) (fun _ h9 => h9) hown hK hP 0 rfl rfl 0 (by decide) (fl_X3_10 ht) (fun _ h9 => h9) rfl dX3_replace_6 ?_
  refine lv_iload_n hx hb dX3_replace_9 rfl (lv_at hl 2 rfl) ?_
  refine rdVN (As := [.int k]) (rest := []) (st1 := [.int (f_X1_has k nk)]) (k_X1_has l D cI cJ cZ a n ah pl ck ct nk pm ja rg bu pn tp st us fb kA tA lx ly gx gy gu gv k) (si_X3_65 ht ⟨Nat.le_of_ble_eq_true rfl, Nat.le_of_ble_eq_true rfl⟩) hx hb hml hown (va_recv hK hP (ci := 2) (q0 := 1) rfl rfl) (hE.since hS) hP hK rfl hl.1 rfl (Nat.le_of_ble_eq_true rfl) ⟨Nat.zero_le _, Nat.zero_le _⟩ dX3_replace_10 rfl ?_
  refine lv_if_ne (tgt := 18) hx hb dX3_replace_13 (by decide) (fun c_1 => ?_) (fun c_1 => ?_)
  · skip
    refine lv_aload_n hx hb dX3_replace_18 rfl (lv_at hl 0 rfl) ?_
    refine va_get (D := D) (ci := 4) (v := .ref (a 7)) (C := RX3) (T := TX3) (N := 7) hx hb (lyX3 ht) (fun _ h9 => h9) hown hK hP 0 rfl rfl 2 (by decide) (fl_X3_37 ht) (fun _ h9 => h9) rfl dX3_replace_19 ?_
    refine lv_iload_n hx hb dX3_replace_22 rfl (lv_at hl 1 rfl) ?_
    refine rdVN (As := [.int r]) (rest := []) (st1 := [.int (f_X2_stateAt r bu pn)]) (k_X2_stateAt l D cI cJ cZ a n ah pl ck ct nk pm ja rg bu pn tp st us fb kA tA lx ly gx gy gu gv r) (si_X3_77 ht ⟨Nat.le_of_ble_eq_true rfl, Nat.le_of_ble_eq_true rfl⟩) hx hb hml hown (va_recv hK hP (ci := 3) (q0 := 7) rfl rfl) (hE.since hS) hP hK rfl hl.1 rfl (Nat.le_of_ble_eq_true rfl) ⟨Nat.zero_le _, Nat.zero_le _⟩ dX3_replace_23 rfl ?_
    refine lv_iconst (v := 1) hx hb dX3_replace_26 (by decide) ?_
    refine lv_icmp_ne (tgt := 55) hx hb dX3_replace_27 (by decide) (fun c_2 => ?_) (fun c_2 => ?_)
    · skip
      refine lv_bipush (v := -3) hx hb dX3_replace_55 (by decide) ?_
      exact wr_i hx hb hr hlocks hAe hP hD hS dX3_replace_57 (⟨by unfold f_X3_replace; rw [if_neg c_1, if_neg c_2], by simp only [f_X3_replace_us, f_X3_replace_kA, f_X3_replace_gx, f_X3_replace_gy, f_X3_replace_gu, f_X3_replace_gv, if_neg c_1, if_neg c_2]⟩)
    · skip
      refine lv_aload_n hx hb dX3_replace_30 rfl (lv_at hl 0 rfl) ?_
      refine va_get (D := D) (ci := 4) (v := .ref (a 7)) (C := RX3) (T := TX3) (N := 7) hx hb (lyX3 ht) (fun _ h9 => h9) hown hK hP 0 rfl rfl 2 (by decide) (fl_X3_37 ht) (fun _ h9 => h9) rfl dX3_replace_31 ?_
      refine va_getN (D := D) (ci := 3) (v := .ref (a 8)) (C := RX2) (T := TX2) (N := 11) hx hb (lyX2 ht) (fun _ h9 => h9) hown hK hP 7 rfl rfl 3 (by decide) (fn_X3_112 ht) (fun _ h9 => h9) rfl dX3_replace_34 ?_
      refine lv_iload_n hx hb dX3_replace_37 rfl (lv_at hl 1 rfl) ?_
      refine va_iald hx hb hK hP 8 0 rfl rfl (in_of ern hrn (by omega)) dX3_replace_38 ?_
      refine lv_iload_n hx hb dX3_replace_39 rfl (lv_at hl 2 rfl) ?_
      refine lv_icmp_eq (tgt := 55) hx hb dX3_replace_40 (by decide) (fun c_3 => ?_) (fun c_3 => ?_)
      · skip
        refine lv_bipush (v := -3) hx hb dX3_replace_55 (by decide) ?_
        exact wr_i hx hb hr hlocks hAe hP hD hS dX3_replace_57 (⟨by unfold f_X3_replace; rw [if_neg c_1, if_pos c_2, if_pos c_3], by simp only [f_X3_replace_us, f_X3_replace_kA, f_X3_replace_gx, f_X3_replace_gy, f_X3_replace_gu, f_X3_replace_gv, if_neg c_1, if_pos c_2, if_pos c_3]⟩)
      · skip
        refine lv_aload_n hx hb dX3_replace_43 rfl (lv_at hl 0 rfl) ?_
        refine va_get (D := D) (ci := 4) (v := .ref (a 1)) (C := RX3) (T := TX3) (N := 7) hx hb (lyX3 ht) (fun _ h9 => h9) hown hK hP 0 rfl rfl 0 (by decide) (fl_X3_10 ht) (fun _ h9 => h9) rfl dX3_replace_44 ?_
        refine lv_iload_n hx hb dX3_replace_47 rfl (lv_at hl 2 rfl) ?_
        refine rdVN (As := [.int k]) (rest := []) (st1 := [.int (f_X1_unused k st us)]) (k_X1_unused l D cI cJ cZ a n ah pl ck ct nk pm ja rg bu pn tp st us fb kA tA lx ly gx gy gu gv k (hk c_1)) (si_X3_116 ht ⟨Nat.le_of_ble_eq_true rfl, Nat.le_of_ble_eq_true rfl⟩) hx hb hml hown (va_recv hK hP (ci := 2) (q0 := 1) rfl rfl) (hE.since hS) hP hK rfl hl.1 rfl (Nat.le_of_ble_eq_true rfl) ⟨Nat.zero_le _, Nat.zero_le _⟩ dX3_replace_48 rfl ?_
        refine lv_iconst (v := 1) hx hb dX3_replace_51 (by decide) ?_
        refine lv_icmp_ge (tgt := 58) hx hb dX3_replace_52 (by decide) (fun c_4 => ?_) (fun c_4 => ?_)
        · skip
          refine lv_aload_n hx hb dX3_replace_58 rfl (lv_at hl 0 rfl) ?_
          refine va_get (D := D) (ci := 4) (v := .ref (a 1)) (C := RX3) (T := TX3) (N := 7) hx hb (lyX3 ht) (fun _ h9 => h9) hown hK hP 0 rfl rfl 0 (by decide) (fl_X3_10 ht) (fun _ h9 => h9) rfl dX3_replace_59 ?_
          refine lv_aload_n hx hb dX3_replace_62 rfl (lv_at hl 0 rfl) ?_
          refine va_get (D := D) (ci := 4) (v := .ref (a 7)) (C := RX3) (T := TX3) (N := 7) hx hb (lyX3 ht) (fun _ h9 => h9) hown hK hP 0 rfl rfl 2 (by decide) (fl_X3_37 ht) (fun _ h9 => h9) rfl dX3_replace_63 ?_
          refine va_getN (D := D) (ci := 3) (v := .ref (a 8)) (C := RX2) (T := TX2) (N := 11) hx hb (lyX2 ht) (fun _ h9 => h9) hown hK hP 7 rfl rfl 3 (by decide) (fn_X3_112 ht) (fun _ h9 => h9) rfl dX3_replace_66 ?_
          refine lv_iload_n hx hb dX3_replace_69 rfl (lv_at hl 1 rfl) ?_
          refine va_iald hx hb hK hP 8 0 rfl rfl (in_of ern hrn (by omega)) dX3_replace_70 ?_
          refine wrVN (As := [.int (kA r.toNatClampNeg)]) (rest := []) (k_X1_giveBack l D cI cJ cZ a n ah pl ck ct nk pm ja rg bu pn tp st us fb kA tA lx ly gx gy gu gv (kA r.toNatClampNeg) (by rw [cl_of ern (by omega)]; exact hkA rn (hrS c_2))) (si_X3_119 ht ⟨Nat.le_of_ble_eq_true rfl, Nat.le_of_ble_eq_true rfl⟩) hx hb hml hown (va_recv hK hP (ci := 2) (q0 := 1) rfl rfl) hE hP hK hD hS hA rfl hl.1 rfl (Nat.le_of_ble_eq_true rfl) ⟨Nat.zero_le _, Nat.zero_le _⟩ dX3_replace_71 (fun ov w' H locs hpost hP hD hS => ?_)
          obtain ⟨rfl, rfl⟩ := hpost
          refine W.st (st1 := []) rfl ?_
          have hP : va_P D vwCl (wI cI cJ cZ a n ah pl ck ct nk pm ja rg bu pn tp st (f_X1_giveBack_us (kA r.toNatClampNeg) us) fb kA tA lx ly gx gy gu gv) H := hP
          have hD : va_D A (wI cI cJ cZ a n ah pl ck ct nk pm ja rg bu pn tp st (f_X1_giveBack_us (kA r.toNatClampNeg) us) fb kA tA lx ly gx gy gu gv) := hD
          refine lv_aload_n hx hb dX3_replace_74 rfl (lv_at hl 0 rfl) ?_
          refine va_get (D := D) (ci := 4) (v := .ref (a 1)) (C := RX3) (T := TX3) (N := 7) hx hb (lyX3 ht) (fun _ h9 => h9) hown hK hP 0 rfl rfl 0 (by decide) (fl_X3_10 ht) (fun _ h9 => h9) rfl dX3_replace_75 ?_
          refine lv_iload_n hx hb dX3_replace_78 rfl (lv_at hl 2 rfl) ?_
          refine wrVN (As := [.int k]) (rest := []) (k_X1_take l D cI cJ cZ a n ah pl ck ct nk pm ja rg bu pn tp st (f_X1_giveBack_us (kA r.toNatClampNeg) us) fb kA tA lx ly gx gy gu gv k (hk c_1)) (si_X3_122 ht ⟨Nat.le_of_ble_eq_true rfl, Nat.le_of_ble_eq_true rfl⟩) hx hb hml hown (va_recv hK hP (ci := 2) (q0 := 1) rfl rfl) hE hP hK hD hS hA rfl hl.1 rfl (Nat.le_of_ble_eq_true rfl) ⟨Nat.zero_le _, Nat.zero_le _⟩ dX3_replace_79 (fun ov w' H locs hpost hP hD hS => ?_)
          obtain ⟨rfl, rfl⟩ := hpost
          refine W.st (st1 := []) rfl ?_
          have hP : va_P D vwCl (wI cI cJ cZ a n ah pl ck ct nk pm ja rg bu pn tp st (f_X1_take_us k (f_X1_giveBack_us (kA r.toNatClampNeg) us)) fb kA tA lx ly gx gy gu gv) H := hP
          have hD : va_D A (wI cI cJ cZ a n ah pl ck ct nk pm ja rg bu pn tp st (f_X1_take_us k (f_X1_giveBack_us (kA r.toNatClampNeg) us)) fb kA tA lx ly gx gy gu gv) := hD
          refine lv_aload_n hx hb dX3_replace_82 rfl (lv_at hl 0 rfl) ?_
          refine va_get (D := D) (ci := 4) (v := .ref (a 7)) (C := RX3) (T := TX3) (N := 7) hx hb (lyX3 ht) (fun _ h9 => h9) hown hK hP 0 rfl rfl 2 (by decide) (fl_X3_37 ht) (fun _ h9 => h9) rfl dX3_replace_83 ?_
          refine va_getN (D := D) (ci := 3) (v := .ref (a 8)) (C := RX2) (T := TX2) (N := 11) hx hb (lyX2 ht) (fun _ h9 => h9) hown hK hP 7 rfl rfl 3 (by decide) (fn_X3_112 ht) (fun _ h9 => h9) rfl dX3_replace_86 ?_
          refine lv_iload_n hx hb dX3_replace_89 rfl (lv_at hl 1 rfl) ?_
          refine lv_iload_n hx hb dX3_replace_90 rfl (lv_at hl 2 rfl) ?_
          refine va_iast hx hb hK hP hD hS 8 0 rfl rfl (in_of ern hrn (by omega)) dX3_replace_91 (fun H locs hP hD hS => ?_)
          have hP : va_P D vwCl (wI cI cJ cZ a n ah pl ck ct nk pm ja rg bu pn tp st (f_X1_take_us k (f_X1_giveBack_us (kA r.toNatClampNeg) us)) fb (upd kA r.toNatClampNeg k) tA lx ly gx gy gu gv) H := hP
          have hD : va_D A (wI cI cJ cZ a n ah pl ck ct nk pm ja rg bu pn tp st (f_X1_take_us k (f_X1_giveBack_us (kA r.toNatClampNeg) us)) fb (upd kA r.toNatClampNeg k) tA lx ly gx gy gu gv) := hD
          refine lv_aload_n hx hb dX3_replace_92 rfl (lv_at hl 0 rfl) ?_
          refine lv_iload_n hx hb dX3_replace_93 rfl (lv_at hl 1 rfl) ?_
          refine wrV (As := [.int r]) (rest := []) (k_X3_layAgainFrom l D cI cJ cZ a n ah pl ck ct nk pm ja rg bu pn tp st (f_X1_take_us k (f_X1_giveBack_us (kA r.toNatClampNeg) us)) fb (upd kA r.toNatClampNeg k) tA lx ly gx gy gu gv r rn S ern (by have := hrS c_2; omega) gS hSn hn (fun i hi => in_upd (hkA i hi) (hk c_1))) (si_X3_125 ht ⟨Nat.le_of_ble_eq_true rfl, Nat.le_of_ble_eq_true rfl⟩) hx hb hml hown (va_recv hK hP (ci := 4) (q0 := 0) rfl rfl) hE hP hK hD hS hA rfl hl.1 rfl (Nat.le_of_ble_eq_true rfl) ⟨Nat.zero_le _, Nat.zero_le _⟩ dX3_replace_94 (fun ov w' H locs hpost hP hD hS => ?_)
          obtain ⟨rfl, rfl⟩ := hpost
          refine W.st (st1 := []) rfl ?_
          have hP : va_P D vwCl (wI cI cJ cZ a n ah pl ck ct nk pm ja rg bu pn tp st (f_X1_take_us k (f_X1_giveBack_us (kA r.toNatClampNeg) us)) fb (upd kA r.toNatClampNeg k) tA lx ly (f_X3_layAgainFrom_gx rn S tp (upd kA r.toNatClampNeg k) tA gx gy gu gv) (f_X3_layAgainFrom_gy rn S tp (upd kA r.toNatClampNeg k) tA gx gy gu gv) (f_X3_layAgainFrom_gu rn S tp (upd kA r.toNatClampNeg k) tA gx gy gu gv) (f_X3_layAgainFrom_gv rn S tp (upd kA r.toNatClampNeg k) tA gx gy gu gv)) H := hP
          have hD : va_D A (wI cI cJ cZ a n ah pl ck ct nk pm ja rg bu pn tp st (f_X1_take_us k (f_X1_giveBack_us (kA r.toNatClampNeg) us)) fb (upd kA r.toNatClampNeg k) tA lx ly (f_X3_layAgainFrom_gx rn S tp (upd kA r.toNatClampNeg k) tA gx gy gu gv) (f_X3_layAgainFrom_gy rn S tp (upd kA r.toNatClampNeg k) tA gx gy gu gv) (f_X3_layAgainFrom_gu rn S tp (upd kA r.toNatClampNeg k) tA gx gy gu gv) (f_X3_layAgainFrom_gv rn S tp (upd kA r.toNatClampNeg k) tA gx gy gu gv)) := hD
          refine lv_iconst (v := 1) hx hb dX3_replace_97 (by decide) ?_
          exact wr_i hx hb hr hlocks hAe hP hD hS dX3_replace_98 (⟨by unfold f_X3_replace; rw [if_neg c_1, if_pos c_2, if_neg c_3, if_pos c_4], by simp only [f_X3_replace_us, f_X3_replace_kA, f_X3_replace_gx, f_X3_replace_gy, f_X3_replace_gu, f_X3_replace_gv, if_neg c_1, if_pos c_2, if_neg c_3, if_pos c_4]⟩)
        · skip
          refine lv_bipush (v := -3) hx hb dX3_replace_55 (by decide) ?_
          exact wr_i hx hb hr hlocks hAe hP hD hS dX3_replace_57 (⟨by unfold f_X3_replace; rw [if_neg c_1, if_pos c_2, if_neg c_3, if_neg c_4], by simp only [f_X3_replace_us, f_X3_replace_kA, f_X3_replace_gx, f_X3_replace_gy, f_X3_replace_gu, f_X3_replace_gv, if_neg c_1, if_pos c_2, if_neg c_3, if_neg c_4]⟩)
  · skip
    refine lv_iconst (v := -1) hx hb dX3_replace_16 (by decide) ?_
    exact wr_i hx hb hr hlocks hAe hP hD hS dX3_replace_17 (⟨by unfold f_X3_replace; rw [if_pos c_1], by simp only [f_X3_replace_us, f_X3_replace_kA, f_X3_replace_gx, f_X3_replace_gy, f_X3_replace_gu, f_X3_replace_gv, if_pos c_1]⟩)
def f_X3_place (r : Int32) (k : Int32) (gx : Nat → Int64) (gy : Nat → Int64) (gu : Nat → Int64) (gv : Nat → Int64) : Int64 := if k = 0 then (gx (r + 1).toNatClampNeg) else (if k = 1 then (gy (r + 1).toNatClampNeg) else (if k = 2 then (gu (r + 1).toNatClampNeg) else (if k = 3 then (gv (r + 1).toNatClampNeg) else 0)))
set_option maxRecDepth 20000 in
set_option maxHeartbeats 4000000 in
theorem k_X3_place (l : Launch) (D : va_G) (cI cJ cZ : ClassId) (a : Nat → Nat) (n : Nat) (ah pl ck ct nk pm ja rg bu pn : Int32) (tp st us fb kA tA : Nat → Int32) (lx ly gx gy gu gv : Nat → Int64) (r : Int32) (k : Int32) (hh : ¬ f_X2_stands r bu pn = 0) (hk4 : k = 0 ∨ k = 1 ∨ k = 2 ∨ k = 3) (hr1 : vp_in (r + 1) (n + 1)) : RD l yX3_place cX3_place 3 (some .long) 3 D (tysW cI cJ cZ) (wI cI cJ cZ a n ah pl ck ct nk pm ja rg bu pn tp st us fb kA tA lx ly gx gy gu gv) [.ref (a 0), .int r, .int k] (some (.long (f_X3_place r k gx gy gu gv))) := by
  refine RD.of (by decide) ?_
  intro p e s m below meth c hx hb hr hml hown hlocks hE hP hK
  have hown : s.vm.findClass RX3 = some m.cls := hown
  have ht : tb_OK s := hE.1
  have hl := lv_entry ([.ref (a 0), .int r, .int k]) (n := 3) (Nat.le_of_ble_eq_true rfl)
  rw [lg_entry_eq]
  generalize (lg_sl ([.ref (a 0), .int r, .int k]) ++ List.replicate (3 - (lg_sl ([.ref (a 0), .int r, .int k])).length) Slot.unset).toArray = ls at hl ⊢
  have hl : lv_has ls 3 [(0, .ref (a 0)), (1, .int r), (2, .int k)] := hl
  refine lv_aload_n hx hb dX3_place_0 rfl (lv_at hl 0 rfl) ?_
  refine lv_iload_n hx hb dX3_place_1 rfl (lv_at hl 1 rfl) ?_
  refine rdV (As := [.int r]) (rest := []) (st1 := []) (k_X3_needStanding l D cI cJ cZ a n ah pl ck ct nk pm ja rg bu pn tp st us fb kA tA lx ly gx gy gu gv r hh) (si_X3_135 ht ⟨Nat.le_of_ble_eq_true rfl, Nat.le_of_ble_eq_true rfl⟩) hx hb hml hown (va_recv hK hP (ci := 4) (q0 := 0) rfl rfl) hE hP hK rfl hl.1 rfl (Nat.le_of_ble_eq_true rfl) ⟨Nat.zero_le _, Nat.zero_le _⟩ dX3_place_2 rfl ?_
  refine lv_iload_n hx hb dX3_place_5 rfl (lv_at hl 2 rfl) ?_
  by_cases c_1 : k = 0
  · refine lv_tableIn (off := 30) (tgt := 36) hx hb dX3_place_6 (by rw [c_1]; decide) (by rw [c_1]; decide) (by rw [c_1]; rfl) (by decide) ?_
    refine lv_aload_n hx hb dX3_place_36 rfl (lv_at hl 0 rfl) ?_
    refine va_get (D := D) (ci := 4) (v := .ref (a 7)) (C := RX3) (T := TX3) (N := 7) hx hb (lyX3 ht) (fun _ h9 => h9) hown hK hP 0 rfl rfl 2 (by decide) (fl_X3_37 ht) (fun _ h9 => h9) rfl dX3_place_37 ?_
    refine va_getN (D := D) (ci := 3) (v := .ref (a 12)) (C := RX2) (T := TX2) (N := 11) hx hb (lyX2 ht) (fun _ h9 => h9) hown hK hP 7 rfl rfl 7 (by decide) (fn_X3_138 ht) (fun _ h9 => h9) rfl dX3_place_40 ?_
    refine lv_iload_n hx hb dX3_place_43 rfl (lv_at hl 1 rfl) ?_
    refine lv_iconst (v := 1) hx hb dX3_place_44 (by decide) ?_
    refine lv_iadd hx hb dX3_place_45 ?_
    refine va_lald hx hb hK hP 12 1 rfl rfl hr1 dX3_place_46 ?_
    exact rd_l hx hb hr hlocks dX3_place_47 (by unfold f_X3_place; rw [if_pos c_1])
  by_cases c_2 : k = 1
  · refine lv_tableIn (off := 42) (tgt := 48) hx hb dX3_place_6 (by rw [c_2]; decide) (by rw [c_2]; decide) (by rw [c_2]; rfl) (by decide) ?_
    refine lv_aload_n hx hb dX3_place_48 rfl (lv_at hl 0 rfl) ?_
    refine va_get (D := D) (ci := 4) (v := .ref (a 7)) (C := RX3) (T := TX3) (N := 7) hx hb (lyX3 ht) (fun _ h9 => h9) hown hK hP 0 rfl rfl 2 (by decide) (fl_X3_37 ht) (fun _ h9 => h9) rfl dX3_place_49 ?_
    refine va_getN (D := D) (ci := 3) (v := .ref (a 13)) (C := RX2) (T := TX2) (N := 11) hx hb (lyX2 ht) (fun _ h9 => h9) hown hK hP 7 rfl rfl 8 (by decide) (fn_X3_142 ht) (fun _ h9 => h9) rfl dX3_place_52 ?_
    refine lv_iload_n hx hb dX3_place_55 rfl (lv_at hl 1 rfl) ?_
    refine lv_iconst (v := 1) hx hb dX3_place_56 (by decide) ?_
    refine lv_iadd hx hb dX3_place_57 ?_
    refine va_lald hx hb hK hP 13 1 rfl rfl hr1 dX3_place_58 ?_
    exact rd_l hx hb hr hlocks dX3_place_59 (by unfold f_X3_place; rw [if_neg c_1, if_pos c_2])
  by_cases c_3 : k = 2
  · refine lv_tableIn (off := 54) (tgt := 60) hx hb dX3_place_6 (by rw [c_3]; decide) (by rw [c_3]; decide) (by rw [c_3]; rfl) (by decide) ?_
    refine lv_aload_n hx hb dX3_place_60 rfl (lv_at hl 0 rfl) ?_
    refine va_get (D := D) (ci := 4) (v := .ref (a 7)) (C := RX3) (T := TX3) (N := 7) hx hb (lyX3 ht) (fun _ h9 => h9) hown hK hP 0 rfl rfl 2 (by decide) (fl_X3_37 ht) (fun _ h9 => h9) rfl dX3_place_61 ?_
    refine va_getN (D := D) (ci := 3) (v := .ref (a 14)) (C := RX2) (T := TX2) (N := 11) hx hb (lyX2 ht) (fun _ h9 => h9) hown hK hP 7 rfl rfl 9 (by decide) (fn_X3_145 ht) (fun _ h9 => h9) rfl dX3_place_64 ?_
    refine lv_iload_n hx hb dX3_place_67 rfl (lv_at hl 1 rfl) ?_
    refine lv_iconst (v := 1) hx hb dX3_place_68 (by decide) ?_
    refine lv_iadd hx hb dX3_place_69 ?_
    refine va_lald hx hb hK hP 14 1 rfl rfl hr1 dX3_place_70 ?_
    exact rd_l hx hb hr hlocks dX3_place_71 (by unfold f_X3_place; rw [if_neg c_1, if_neg c_2, if_pos c_3])
  by_cases c_4 : k = 3
  · refine lv_tableIn (off := 66) (tgt := 72) hx hb dX3_place_6 (by rw [c_4]; decide) (by rw [c_4]; decide) (by rw [c_4]; rfl) (by decide) ?_
    refine lv_aload_n hx hb dX3_place_72 rfl (lv_at hl 0 rfl) ?_
    refine va_get (D := D) (ci := 4) (v := .ref (a 7)) (C := RX3) (T := TX3) (N := 7) hx hb (lyX3 ht) (fun _ h9 => h9) hown hK hP 0 rfl rfl 2 (by decide) (fl_X3_37 ht) (fun _ h9 => h9) rfl dX3_place_73 ?_
    refine va_getN (D := D) (ci := 3) (v := .ref (a 15)) (C := RX2) (T := TX2) (N := 11) hx hb (lyX2 ht) (fun _ h9 => h9) hown hK hP 7 rfl rfl 10 (by decide) (fn_X3_148 ht) (fun _ h9 => h9) rfl dX3_place_76 ?_
    refine lv_iload_n hx hb dX3_place_79 rfl (lv_at hl 1 rfl) ?_
    refine lv_iconst (v := 1) hx hb dX3_place_80 (by decide) ?_
    refine lv_iadd hx hb dX3_place_81 ?_
    refine va_lald hx hb hK hP 15 1 rfl rfl hr1 dX3_place_82 ?_
    exact rd_l hx hb hr hlocks dX3_place_83 (by unfold f_X3_place; rw [if_neg c_1, if_neg c_2, if_neg c_3, if_pos c_4])
  exact absurd hk4 (by simp [c_1, c_2, c_3, c_4])
def f_X3_off (r : Int32) (lx : Nat → Int64) (ly : Nat → Int64) (gx : Nat → Int64) (gy : Nat → Int64) : Int64 := f_X2_offAt r lx ly gx gy
set_option maxRecDepth 20000 in
set_option maxHeartbeats 4000000 in
theorem k_X3_off (l : Launch) (D : va_G) (cI cJ cZ : ClassId) (a : Nat → Nat) (n : Nat) (ah pl ck ct nk pm ja rg bu pn : Int32) (tp st us fb kA tA : Nat → Int32) (lx ly gx gy gu gv : Nat → Int64) (r : Int32) (hh : ¬ f_X2_stands r bu pn = 0) (h0 : vp_in r n) (hr1 : vp_in (r + 1) (n + 1)) : RD l yX3_off cX3_off 2 (some .long) 3 D (tysW cI cJ cZ) (wI cI cJ cZ a n ah pl ck ct nk pm ja rg bu pn tp st us fb kA tA lx ly gx gy gu gv) [.ref (a 0), .int r] (some (.long (f_X3_off r lx ly gx gy))) := by
  refine RD.of (by decide) ?_
  intro p e s m below meth c hx hb hr hml hown hlocks hE hP hK
  have hown : s.vm.findClass RX3 = some m.cls := hown
  have ht : tb_OK s := hE.1
  have hl := lv_entry ([.ref (a 0), .int r]) (n := 2) (Nat.le_of_ble_eq_true rfl)
  rw [lg_entry_eq]
  generalize (lg_sl ([.ref (a 0), .int r]) ++ List.replicate (2 - (lg_sl ([.ref (a 0), .int r])).length) Slot.unset).toArray = ls at hl ⊢
  have hl : lv_has ls 2 [(0, .ref (a 0)), (1, .int r)] := hl
  refine lv_aload_n hx hb dX3_off_0 rfl (lv_at hl 0 rfl) ?_
  refine lv_iload_n hx hb dX3_off_1 rfl (lv_at hl 1 rfl) ?_
  refine rdV (As := [.int r]) (rest := []) (st1 := []) (k_X3_needStanding l D cI cJ cZ a n ah pl ck ct nk pm ja rg bu pn tp st us fb kA tA lx ly gx gy gu gv r hh) (si_X3_135 ht ⟨Nat.le_of_ble_eq_true rfl, Nat.le_of_ble_eq_true rfl⟩) hx hb hml hown (va_recv hK hP (ci := 4) (q0 := 0) rfl rfl) hE hP hK rfl hl.1 rfl (Nat.le_of_ble_eq_true rfl) ⟨Nat.zero_le _, Nat.zero_le _⟩ dX3_off_2 rfl ?_
  refine lv_aload_n hx hb dX3_off_5 rfl (lv_at hl 0 rfl) ?_
  refine va_get (D := D) (ci := 4) (v := .ref (a 7)) (C := RX3) (T := TX3) (N := 7) hx hb (lyX3 ht) (fun _ h9 => h9) hown hK hP 0 rfl rfl 2 (by decide) (fl_X3_37 ht) (fun _ h9 => h9) rfl dX3_off_6 ?_
  refine lv_iload_n hx hb dX3_off_9 rfl (lv_at hl 1 rfl) ?_
  refine rdVN (As := [.int r]) (rest := []) (st1 := [.long (f_X2_offAt r lx ly gx gy)]) (k_X2_offAt l D cI cJ cZ a n ah pl ck ct nk pm ja rg bu pn tp st us fb kA tA lx ly gx gy gu gv r h0 hr1) (si_X3_158 ht ⟨Nat.le_of_ble_eq_true rfl, Nat.le_of_ble_eq_true rfl⟩) hx hb hml hown (va_recv hK hP (ci := 3) (q0 := 7) rfl rfl) hE hP hK rfl hl.1 rfl (Nat.le_of_ble_eq_true rfl) ⟨Nat.zero_le _, Nat.zero_le _⟩ dX3_off_10 rfl ?_
  exact rd_l hx hb hr hlocks dX3_off_13 (rfl)
def f_X3_count (k : Int32) (ah : Int32) (pl : Int32) (nk : Int32) (pm : Int32) (ja : Int32) (rg : Int32) (bu : Int32) (pn : Int32) : Int32 := if k = 0 then rg else (if k = 1 then bu else (if k = 2 then pn else (if k = 3 then nk else (if k = 4 then ja else (if k = 5 then ah else (if k = 6 then pm else (if k = 7 then pl else 0)))))))
set_option maxRecDepth 20000 in
set_option maxHeartbeats 4000000 in
theorem k_X3_count (l : Launch) (D : va_G) (cI cJ cZ : ClassId) (a : Nat → Nat) (n : Nat) (ah pl ck ct nk pm ja rg bu pn : Int32) (tp st us fb kA tA : Nat → Int32) (lx ly gx gy gu gv : Nat → Int64) (k : Int32) (hk8 : k = 0 ∨ k = 1 ∨ k = 2 ∨ k = 3 ∨ k = 4 ∨ k = 5 ∨ k = 6 ∨ k = 7) : RD l yX3_count cX3_count 2 (some .int) 1 D (tysW cI cJ cZ) (wI cI cJ cZ a n ah pl ck ct nk pm ja rg bu pn tp st us fb kA tA lx ly gx gy gu gv) [.ref (a 0), .int k] (some (.int (f_X3_count k ah pl nk pm ja rg bu pn))) := by
  refine RD.of (by decide) ?_
  intro p e s m below meth c hx hb hr hml hown hlocks hE hP hK
  have hown : s.vm.findClass RX3 = some m.cls := hown
  have ht : tb_OK s := hE.1
  have hl := lv_entry ([.ref (a 0), .int k]) (n := 2) (Nat.le_of_ble_eq_true rfl)
  rw [lg_entry_eq]
  generalize (lg_sl ([.ref (a 0), .int k]) ++ List.replicate (2 - (lg_sl ([.ref (a 0), .int k])).length) Slot.unset).toArray = ls at hl ⊢
  have hl : lv_has ls 2 [(0, .ref (a 0)), (1, .int k)] := hl
  refine lv_iload_n hx hb dX3_count_0 rfl (lv_at hl 1 rfl) ?_
  by_cases c_1 : k = 0
  · refine lv_tableIn (off := 47) (tgt := 48) hx hb dX3_count_1 (by rw [c_1]; decide) (by rw [c_1]; decide) (by rw [c_1]; rfl) (by decide) ?_
    refine lv_aload_n hx hb dX3_count_48 rfl (lv_at hl 0 rfl) ?_
    refine va_get (D := D) (ci := 4) (v := .ref (a 7)) (C := RX3) (T := TX3) (N := 7) hx hb (lyX3 ht) (fun _ h9 => h9) hown hK hP 0 rfl rfl 2 (by decide) (fl_X3_37 ht) (fun _ h9 => h9) rfl dX3_count_49 ?_
    refine va_getN (D := D) (ci := 3) (v := .int rg) (C := RX2) (T := TX2) (N := 11) hx hb (lyX2 ht) (fun _ h9 => h9) hown hK hP 7 rfl rfl 0 (by decide) (fn_X3_98 ht) (fun _ h9 => h9) rfl dX3_count_52 ?_
    exact rd_i hx hb hr hlocks dX3_count_55 (by unfold f_X3_count; rw [if_pos c_1])
  by_cases c_2 : k = 1
  · refine lv_tableIn (off := 55) (tgt := 56) hx hb dX3_count_1 (by rw [c_2]; decide) (by rw [c_2]; decide) (by rw [c_2]; rfl) (by decide) ?_
    refine lv_aload_n hx hb dX3_count_56 rfl (lv_at hl 0 rfl) ?_
    refine va_get (D := D) (ci := 4) (v := .ref (a 7)) (C := RX3) (T := TX3) (N := 7) hx hb (lyX3 ht) (fun _ h9 => h9) hown hK hP 0 rfl rfl 2 (by decide) (fl_X3_37 ht) (fun _ h9 => h9) rfl dX3_count_57 ?_
    refine va_getN (D := D) (ci := 3) (v := .int bu) (C := RX2) (T := TX2) (N := 11) hx hb (lyX2 ht) (fun _ h9 => h9) hown hK hP 7 rfl rfl 1 (by decide) (fn_X3_95 ht) (fun _ h9 => h9) rfl dX3_count_60 ?_
    exact rd_i hx hb hr hlocks dX3_count_63 (by unfold f_X3_count; rw [if_neg c_1, if_pos c_2])
  by_cases c_3 : k = 2
  · refine lv_tableIn (off := 63) (tgt := 64) hx hb dX3_count_1 (by rw [c_3]; decide) (by rw [c_3]; decide) (by rw [c_3]; rfl) (by decide) ?_
    refine lv_aload_n hx hb dX3_count_64 rfl (lv_at hl 0 rfl) ?_
    refine va_get (D := D) (ci := 4) (v := .ref (a 7)) (C := RX3) (T := TX3) (N := 7) hx hb (lyX3 ht) (fun _ h9 => h9) hown hK hP 0 rfl rfl 2 (by decide) (fl_X3_37 ht) (fun _ h9 => h9) rfl dX3_count_65 ?_
    refine va_getN (D := D) (ci := 3) (v := .int pn) (C := RX2) (T := TX2) (N := 11) hx hb (lyX2 ht) (fun _ h9 => h9) hown hK hP 7 rfl rfl 2 (by decide) (fn_X3_104 ht) (fun _ h9 => h9) rfl dX3_count_68 ?_
    exact rd_i hx hb hr hlocks dX3_count_71 (by unfold f_X3_count; rw [if_neg c_1, if_neg c_2, if_pos c_3])
  by_cases c_4 : k = 3
  · refine lv_tableIn (off := 71) (tgt := 72) hx hb dX3_count_1 (by rw [c_4]; decide) (by rw [c_4]; decide) (by rw [c_4]; rfl) (by decide) ?_
    refine lv_aload_n hx hb dX3_count_72 rfl (lv_at hl 0 rfl) ?_
    refine va_get (D := D) (ci := 4) (v := .ref (a 1)) (C := RX3) (T := TX3) (N := 7) hx hb (lyX3 ht) (fun _ h9 => h9) hown hK hP 0 rfl rfl 0 (by decide) (fl_X3_10 ht) (fun _ h9 => h9) rfl dX3_count_73 ?_
    refine va_getN (D := D) (ci := 2) (v := .int nk) (C := RX1) (T := TX1) (N := 4) hx hb (lyX1 ht) (fun _ h9 => h9) hown hK hP 1 rfl rfl 3 (by decide) (fn_X3_178 ht) (fun _ h9 => h9) rfl dX3_count_76 ?_
    exact rd_i hx hb hr hlocks dX3_count_79 (by unfold f_X3_count; rw [if_neg c_1, if_neg c_2, if_neg c_3, if_pos c_4])
  by_cases c_5 : k = 4
  · refine lv_tableIn (off := 79) (tgt := 80) hx hb dX3_count_1 (by rw [c_5]; decide) (by rw [c_5]; decide) (by rw [c_5]; rfl) (by decide) ?_
    refine lv_aload_n hx hb dX3_count_80 rfl (lv_at hl 0 rfl) ?_
    refine va_get (D := D) (ci := 4) (v := .ref (a 5)) (C := RX3) (T := TX3) (N := 7) hx hb (lyX3 ht) (fun _ h9 => h9) hown hK hP 0 rfl rfl 1 (by decide) (fl_X3_19 ht) (fun _ h9 => h9) rfl dX3_count_81 ?_
    refine va_getN (D := D) (ci := 1) (v := .int ja) (C := RX0) (T := TX0) (N := 3) hx hb (lyX0 ht) (fun _ h9 => h9) hown hK hP 5 rfl rfl 2 (by decide) (fn_X3_85 ht) (fun _ h9 => h9) rfl dX3_count_84 ?_
    exact rd_i hx hb hr hlocks dX3_count_87 (by unfold f_X3_count; rw [if_neg c_1, if_neg c_2, if_neg c_3, if_neg c_4, if_pos c_5])
  by_cases c_6 : k = 5
  · refine lv_tableIn (off := 87) (tgt := 88) hx hb dX3_count_1 (by rw [c_6]; decide) (by rw [c_6]; decide) (by rw [c_6]; rfl) (by decide) ?_
    refine lv_aload_n hx hb dX3_count_88 rfl (lv_at hl 0 rfl) ?_
    refine va_get (D := D) (ci := 4) (v := .int ah) (C := RX3) (T := TX3) (N := 7) hx hb (lyX3 ht) (fun _ h9 => h9) hown hK hP 0 rfl rfl 3 (by decide) (fl_X3_41 ht) (fun _ h9 => h9) rfl dX3_count_89 ?_
    exact rd_i hx hb hr hlocks dX3_count_92 (by unfold f_X3_count; rw [if_neg c_1, if_neg c_2, if_neg c_3, if_neg c_4, if_neg c_5, if_pos c_6])
  by_cases c_7 : k = 6
  · refine lv_tableIn (off := 92) (tgt := 93) hx hb dX3_count_1 (by rw [c_7]; decide) (by rw [c_7]; decide) (by rw [c_7]; rfl) (by decide) ?_
    refine lv_aload_n hx hb dX3_count_93 rfl (lv_at hl 0 rfl) ?_
    refine va_get (D := D) (ci := 4) (v := .ref (a 5)) (C := RX3) (T := TX3) (N := 7) hx hb (lyX3 ht) (fun _ h9 => h9) hown hK hP 0 rfl rfl 1 (by decide) (fl_X3_19 ht) (fun _ h9 => h9) rfl dX3_count_94 ?_
    refine va_getN (D := D) (ci := 1) (v := .int pm) (C := RX0) (T := TX0) (N := 3) hx hb (lyX0 ht) (fun _ h9 => h9) hown hK hP 5 rfl rfl 1 (by decide) (fn_X3_181 ht) (fun _ h9 => h9) rfl dX3_count_97 ?_
    exact rd_i hx hb hr hlocks dX3_count_100 (by unfold f_X3_count; rw [if_neg c_1, if_neg c_2, if_neg c_3, if_neg c_4, if_neg c_5, if_neg c_6, if_pos c_7])
  by_cases c_8 : k = 7
  · refine lv_tableIn (off := 100) (tgt := 101) hx hb dX3_count_1 (by rw [c_8]; decide) (by rw [c_8]; decide) (by rw [c_8]; rfl) (by decide) ?_
    refine lv_aload_n hx hb dX3_count_101 rfl (lv_at hl 0 rfl) ?_
    refine va_get (D := D) (ci := 4) (v := .int pl) (C := RX3) (T := TX3) (N := 7) hx hb (lyX3 ht) (fun _ h9 => h9) hown hK hP 0 rfl rfl 4 (by decide) (fl_X3_45 ht) (fun _ h9 => h9) rfl dX3_count_102 ?_
    exact rd_i hx hb hr hlocks dX3_count_105 (by unfold f_X3_count; rw [if_neg c_1, if_neg c_2, if_neg c_3, if_neg c_4, if_neg c_5, if_neg c_6, if_neg c_7, if_pos c_8])
  exact absurd hk8 (by simp [c_1, c_2, c_3, c_4, c_5, c_6, c_7, c_8])
