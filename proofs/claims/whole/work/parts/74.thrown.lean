set_option maxRecDepth 20000 in
set_option maxHeartbeats 4000000 in
theorem t_X3_needRing (l : Launch) (hnt : ∀ e : Env, l.admits e → e.platform.stackTraces = false) (D : va_G) (cI cJ cZ : ClassId) (a : Nat → Nat) (n : Nat) (ah pl ck ct nk pm ja rg bu pn : Int32) (tp st us fb kA tA : Nat → Int32) (lx ly gx gy gu gv : Nat → Int64) (r : Int32) (hh : f_X2_has r rg = 0) : TH l yX3_needRing cX3_needRing 2 none 1 D (tysW cI cJ cZ) (wI cI cJ cZ a n ah pl ck ct nk pm ja rg bu pn tp st us fb kA tA lx ly gx gy gu gv) [.ref (a 0), .int r] := by
  refine TH.of (by decide) ?_
  intro p e s m below meth c hadm hx hb hr hml hown hlocks hno hE hP hK
  have hown : s.vm.findClass RX3 = some m.cls := hown
  have ht : tb_OK s := hE.1
  have hl := lv_entry ([.ref (a 0), .int r]) (n := 2) (Nat.le_of_ble_eq_true rfl)
  rw [lg_entry_eq]
  generalize (lg_sl ([.ref (a 0), .int r]) ++ List.replicate (2 - (lg_sl ([.ref (a 0), .int r])).length) Slot.unset).toArray = ls at hl ⊢
  have hl : lv_has ls 2 [(0, .ref (a 0)), (1, .int r)] := hl
  refine lv_aload_n hx hb dX3_needRing_0 rfl (lv_at hl 0 rfl) ?_
  refine va_get (D := D) (ci := 4) (v := .ref (a 7)) (C := RX3) (T := TX3) (N := 7) hx hb (lyX3 ht) (fun _ h9 => h9) hown hK hP 0 rfl rfl 2 (by decide) (fl_X3_37 ht) (fun _ h9 => h9) rfl dX3_needRing_1 ?_
  refine lv_iload_n hx hb dX3_needRing_4 rfl (lv_at hl 1 rfl) ?_
  refine rdVN (As := [.int r]) (rest := []) (st1 := [.int (f_X2_has r rg)]) (k_X2_has l D cI cJ cZ a n ah pl ck ct nk pm ja rg bu pn tp st us fb kA tA lx ly gx gy gu gv r) (si_X3_134 ht ⟨Nat.le_of_ble_eq_true rfl, Nat.le_of_ble_eq_true rfl⟩) hx hb hml hown (va_recv hK hP (ci := 3) (q0 := 7) rfl rfl) hE hP hK rfl hl.1 rfl (Nat.le_of_ble_eq_true rfl) ⟨Nat.zero_le _, Nat.zero_le _⟩ dX3_needRing_5 rfl ?_
  refine lv_if_ne (tgt := 21) hx hb dX3_needRing_8 (by decide) (fun c_1 => absurd hh c_1) (fun c_1 => ?_)
  obtain ⟨qs, hqs⟩ := hE.2.2.2 (186, "no such ring") (by simp)
  refine W.newc hx hb hown (cl_X3_151 ht) (in_Jx00060 ht) (ini_Jx00060 ht) (g := F0 m 11 ls []) rfl dX3_needRing_11 (Nat.le_of_ble_eq_true rfl) (Nat.le_of_ble_eq_true rfl) (fun cX kX hf hk hki hkz => ?_)
  refine W.eq (g2 := F0 m 14 ls [.ref s.heap.size]) rfl ?_
  refine lv_dup hx hb dX3_needRing_14 rfl ?_
  refine va_ldcS hx hb hown hqs dX3_needRing_15 ?_
  exact x_ctor (hnt e hadm) hx hb (hml.trans hl.1.symm) hown hlocks (hno _) (fun w hw => (hE.2.2.1 w hw).use) hf hk (by first | exact Array.getElem?_push_size | simp [freshCell]) (Nat.le_refl _) dX3_needRing_17 dX3_needRing_20 (Nat.le_of_ble_eq_true rfl) (Nat.le_of_ble_eq_true rfl) (Nat.le_of_ble_eq_true rfl) (Nat.le_of_ble_eq_true rfl)
set_option maxRecDepth 20000 in
set_option maxHeartbeats 4000000 in
theorem t_X3_needStanding (l : Launch) (hnt : ∀ e : Env, l.admits e → e.platform.stackTraces = false) (D : va_G) (cI cJ cZ : ClassId) (a : Nat → Nat) (n : Nat) (ah pl ck ct nk pm ja rg bu pn : Int32) (tp st us fb kA tA : Nat → Int32) (lx ly gx gy gu gv : Nat → Int64) (r : Int32) (hh : f_X2_stands r bu pn = 0) : TH l yX3_needStanding cX3_needStanding 2 none 2 D (tysW cI cJ cZ) (wI cI cJ cZ a n ah pl ck ct nk pm ja rg bu pn tp st us fb kA tA lx ly gx gy gu gv) [.ref (a 0), .int r] := by
  refine TH.of (by decide) ?_
  intro p e s m below meth c hadm hx hb hr hml hown hlocks hno hE hP hK
  have hown : s.vm.findClass RX3 = some m.cls := hown
  have ht : tb_OK s := hE.1
  have hl := lv_entry ([.ref (a 0), .int r]) (n := 2) (Nat.le_of_ble_eq_true rfl)
  rw [lg_entry_eq]
  generalize (lg_sl ([.ref (a 0), .int r]) ++ List.replicate (2 - (lg_sl ([.ref (a 0), .int r])).length) Slot.unset).toArray = ls at hl ⊢
  have hl : lv_has ls 2 [(0, .ref (a 0)), (1, .int r)] := hl
  refine lv_aload_n hx hb dX3_needStanding_0 rfl (lv_at hl 0 rfl) ?_
  refine va_get (D := D) (ci := 4) (v := .ref (a 7)) (C := RX3) (T := TX3) (N := 7) hx hb (lyX3 ht) (fun _ h9 => h9) hown hK hP 0 rfl rfl 2 (by decide) (fl_X3_37 ht) (fun _ h9 => h9) rfl dX3_needStanding_1 ?_
  refine lv_iload_n hx hb dX3_needStanding_4 rfl (lv_at hl 1 rfl) ?_
  refine rdVN (As := [.int r]) (rest := []) (st1 := [.int (f_X2_stands r bu pn)]) (k_X2_stands l D cI cJ cZ a n ah pl ck ct nk pm ja rg bu pn tp st us fb kA tA lx ly gx gy gu gv r) (si_X3_128 ht ⟨Nat.le_of_ble_eq_true rfl, Nat.le_of_ble_eq_true rfl⟩) hx hb hml hown (va_recv hK hP (ci := 3) (q0 := 7) rfl rfl) hE hP hK rfl hl.1 rfl (Nat.le_of_ble_eq_true rfl) ⟨Nat.zero_le _, Nat.zero_le _⟩ dX3_needStanding_5 rfl ?_
  refine lv_if_ne (tgt := 21) hx hb dX3_needStanding_8 (by decide) (fun c_1 => absurd hh c_1) (fun c_1 => ?_)
  obtain ⟨qs, hqs⟩ := hE.2.2.2 (188, "no such ring, or it is open") (by simp)
  refine W.newc hx hb hown (cl_X3_151 ht) (in_Jx00060 ht) (ini_Jx00060 ht) (g := F0 m 11 ls []) rfl dX3_needStanding_11 (Nat.le_of_ble_eq_true rfl) (Nat.le_of_ble_eq_true rfl) (fun cX kX hf hk hki hkz => ?_)
  refine W.eq (g2 := F0 m 14 ls [.ref s.heap.size]) rfl ?_
  refine lv_dup hx hb dX3_needStanding_14 rfl ?_
  refine va_ldcS hx hb hown hqs dX3_needStanding_15 ?_
  exact x_ctor (hnt e hadm) hx hb (hml.trans hl.1.symm) hown hlocks (hno _) (fun w hw => (hE.2.2.1 w hw).use) hf hk (by first | exact Array.getElem?_push_size | simp [freshCell]) (Nat.le_refl _) dX3_needStanding_17 dX3_needStanding_20 (Nat.le_of_ble_eq_true rfl) (Nat.le_of_ble_eq_true rfl) (Nat.le_of_ble_eq_true rfl) (Nat.le_of_ble_eq_true rfl)
set_option maxRecDepth 20000 in
set_option maxHeartbeats 4000000 in
theorem t_X3_line (l : Launch) (hnt : ∀ e : Env, l.admits e → e.platform.stackTraces = false) (D : va_G) (cI cJ cZ : ClassId) (a : Nat → Nat) (n : Nat) (ah pl ck ct nk pm ja rg bu pn : Int32) (tp st us fb kA tA : Nat → Int32) (lx ly gx gy gu gv : Nat → Int64) (r : Int32) (j : Int32) (f : Int32) (hh : f_X2_has r rg = 0) : TH l yX3_line cX3_line 4 (some .int) 3 D (tysW cI cJ cZ) (wI cI cJ cZ a n ah pl ck ct nk pm ja rg bu pn tp st us fb kA tA lx ly gx gy gu gv) [.ref (a 0), .int r, .int j, .int f] := by
  refine TH.of (by decide) ?_
  intro p e s m below meth c hadm hx hb hr hml hown hlocks hno hE hP hK
  have hown : s.vm.findClass RX3 = some m.cls := hown
  have ht : tb_OK s := hE.1
  have hl := lv_entry ([.ref (a 0), .int r, .int j, .int f]) (n := 4) (Nat.le_of_ble_eq_true rfl)
  rw [lg_entry_eq]
  generalize (lg_sl ([.ref (a 0), .int r, .int j, .int f]) ++ List.replicate (4 - (lg_sl ([.ref (a 0), .int r, .int j, .int f])).length) Slot.unset).toArray = ls at hl ⊢
  have hl : lv_has ls 4 [(0, .ref (a 0)), (1, .int r), (2, .int j), (3, .int f)] := hl
  refine lv_aload_n hx hb dX3_line_0 rfl (lv_at hl 0 rfl) ?_
  refine lv_iload_n hx hb dX3_line_1 rfl (lv_at hl 1 rfl) ?_
  refine x_callV (As := [.int r]) (rest := []) (t_X3_needRing l hnt D cI cJ cZ a n ah pl ck ct nk pm ja rg bu pn tp st us fb kA tA lx ly gx gy gu gv r hh) (si_X3_72 ht ⟨Nat.le_of_ble_eq_true rfl, Nat.le_of_ble_eq_true rfl⟩) hx hb hml hown (va_recv hK hP (ci := 4) (q0 := 0) rfl rfl) hE hP hK rfl hl.1 rfl (Nat.le_of_ble_eq_true rfl) ⟨Nat.le_of_ble_eq_true rfl, Nat.le_of_ble_eq_true rfl⟩ dX3_line_2 (fun q ce H1 hz1 hk1 hce hcl hcv => ?_)
  exact x_out (hno _) hlocks hce hcl hcv (Nat.le_of_ble_eq_true rfl) (Nat.le_of_ble_eq_true rfl)
set_option maxRecDepth 20000 in
set_option maxHeartbeats 4000000 in
theorem t_X3_survey (l : Launch) (hnt : ∀ e : Env, l.admits e → e.platform.stackTraces = false) (D : va_G) (cI cJ cZ : ClassId) (a : Nat → Nat) (n : Nat) (ah pl ck ct nk pm ja rg bu pn : Int32) (tp st us fb kA tA : Nat → Int32) (lx ly gx gy gu gv : Nat → Int64) (r : Int32) (j : Int32) (f : Int32) (hh : f_X2_has r rg = 0) : TH l yX3_survey cX3_survey 4 (some .int) 3 D (tysW cI cJ cZ) (wI cI cJ cZ a n ah pl ck ct nk pm ja rg bu pn tp st us fb kA tA lx ly gx gy gu gv) [.ref (a 0), .int r, .int j, .int f] := by
  refine TH.of (by decide) ?_
  intro p e s m below meth c hadm hx hb hr hml hown hlocks hno hE hP hK
  have hown : s.vm.findClass RX3 = some m.cls := hown
  have ht : tb_OK s := hE.1
  have hl := lv_entry ([.ref (a 0), .int r, .int j, .int f]) (n := 4) (Nat.le_of_ble_eq_true rfl)
  rw [lg_entry_eq]
  generalize (lg_sl ([.ref (a 0), .int r, .int j, .int f]) ++ List.replicate (4 - (lg_sl ([.ref (a 0), .int r, .int j, .int f])).length) Slot.unset).toArray = ls at hl ⊢
  have hl : lv_has ls 4 [(0, .ref (a 0)), (1, .int r), (2, .int j), (3, .int f)] := hl
  refine lv_aload_n hx hb dX3_survey_0 rfl (lv_at hl 0 rfl) ?_
  refine lv_iload_n hx hb dX3_survey_1 rfl (lv_at hl 1 rfl) ?_
  refine x_callV (As := [.int r]) (rest := []) (t_X3_needRing l hnt D cI cJ cZ a n ah pl ck ct nk pm ja rg bu pn tp st us fb kA tA lx ly gx gy gu gv r hh) (si_X3_72 ht ⟨Nat.le_of_ble_eq_true rfl, Nat.le_of_ble_eq_true rfl⟩) hx hb hml hown (va_recv hK hP (ci := 4) (q0 := 0) rfl rfl) hE hP hK rfl hl.1 rfl (Nat.le_of_ble_eq_true rfl) ⟨Nat.le_of_ble_eq_true rfl, Nat.le_of_ble_eq_true rfl⟩ dX3_survey_2 (fun q ce H1 hz1 hk1 hce hcl hcv => ?_)
  exact x_out (hno _) hlocks hce hcl hcv (Nat.le_of_ble_eq_true rfl) (Nat.le_of_ble_eq_true rfl)
set_option maxRecDepth 20000 in
set_option maxHeartbeats 4000000 in
theorem t_X3_replace (l : Launch) (hnt : ∀ e : Env, l.admits e → e.platform.stackTraces = false) (D : va_G) (cI cJ cZ : ClassId) (a : Nat → Nat) (n : Nat) (ah pl ck ct nk pm ja rg bu pn : Int32) (tp st us fb kA tA : Nat → Int32) (lx ly gx gy gu gv : Nat → Int64) (r : Int32) (k : Int32) (hh : f_X2_has r rg = 0) : TH l yX3_replace cX3_replace 3 (some .int) 3 D (tysW cI cJ cZ) (wI cI cJ cZ a n ah pl ck ct nk pm ja rg bu pn tp st us fb kA tA lx ly gx gy gu gv) [.ref (a 0), .int r, .int k] := by
  refine TH.of (by decide) ?_
  intro p e s m below meth c hadm hx hb hr hml hown hlocks hno hE hP hK
  have hown : s.vm.findClass RX3 = some m.cls := hown
  have ht : tb_OK s := hE.1
  have hl := lv_entry ([.ref (a 0), .int r, .int k]) (n := 3) (Nat.le_of_ble_eq_true rfl)
  rw [lg_entry_eq]
  generalize (lg_sl ([.ref (a 0), .int r, .int k]) ++ List.replicate (3 - (lg_sl ([.ref (a 0), .int r, .int k])).length) Slot.unset).toArray = ls at hl ⊢
  have hl : lv_has ls 3 [(0, .ref (a 0)), (1, .int r), (2, .int k)] := hl
  refine lv_aload_n hx hb dX3_replace_0 rfl (lv_at hl 0 rfl) ?_
  refine lv_iload_n hx hb dX3_replace_1 rfl (lv_at hl 1 rfl) ?_
  refine x_callV (As := [.int r]) (rest := []) (t_X3_needRing l hnt D cI cJ cZ a n ah pl ck ct nk pm ja rg bu pn tp st us fb kA tA lx ly gx gy gu gv r hh) (si_X3_72 ht ⟨Nat.le_of_ble_eq_true rfl, Nat.le_of_ble_eq_true rfl⟩) hx hb hml hown (va_recv hK hP (ci := 4) (q0 := 0) rfl rfl) hE hP hK rfl hl.1 rfl (Nat.le_of_ble_eq_true rfl) ⟨Nat.le_of_ble_eq_true rfl, Nat.le_of_ble_eq_true rfl⟩ dX3_replace_2 (fun q ce H1 hz1 hk1 hce hcl hcv => ?_)
  exact x_out (hno _) hlocks hce hcl hcv (Nat.le_of_ble_eq_true rfl) (Nat.le_of_ble_eq_true rfl)
set_option maxRecDepth 20000 in
set_option maxHeartbeats 4000000 in
theorem t_X3_place (l : Launch) (hnt : ∀ e : Env, l.admits e → e.platform.stackTraces = false) (D : va_G) (cI cJ cZ : ClassId) (a : Nat → Nat) (n : Nat) (ah pl ck ct nk pm ja rg bu pn : Int32) (tp st us fb kA tA : Nat → Int32) (lx ly gx gy gu gv : Nat → Int64) (r : Int32) (k : Int32) (hh : f_X2_stands r bu pn = 0) : TH l yX3_place cX3_place 3 (some .long) 3 D (tysW cI cJ cZ) (wI cI cJ cZ a n ah pl ck ct nk pm ja rg bu pn tp st us fb kA tA lx ly gx gy gu gv) [.ref (a 0), .int r, .int k] := by
  refine TH.of (by decide) ?_
  intro p e s m below meth c hadm hx hb hr hml hown hlocks hno hE hP hK
  have hown : s.vm.findClass RX3 = some m.cls := hown
  have ht : tb_OK s := hE.1
  have hl := lv_entry ([.ref (a 0), .int r, .int k]) (n := 3) (Nat.le_of_ble_eq_true rfl)
  rw [lg_entry_eq]
  generalize (lg_sl ([.ref (a 0), .int r, .int k]) ++ List.replicate (3 - (lg_sl ([.ref (a 0), .int r, .int k])).length) Slot.unset).toArray = ls at hl ⊢
  have hl : lv_has ls 3 [(0, .ref (a 0)), (1, .int r), (2, .int k)] := hl
  refine lv_aload_n hx hb dX3_place_0 rfl (lv_at hl 0 rfl) ?_
  refine lv_iload_n hx hb dX3_place_1 rfl (lv_at hl 1 rfl) ?_
  refine x_callV (As := [.int r]) (rest := []) (t_X3_needStanding l hnt D cI cJ cZ a n ah pl ck ct nk pm ja rg bu pn tp st us fb kA tA lx ly gx gy gu gv r hh) (si_X3_135 ht ⟨Nat.le_of_ble_eq_true rfl, Nat.le_of_ble_eq_true rfl⟩) hx hb hml hown (va_recv hK hP (ci := 4) (q0 := 0) rfl rfl) hE hP hK rfl hl.1 rfl (Nat.le_of_ble_eq_true rfl) ⟨Nat.le_of_ble_eq_true rfl, Nat.le_of_ble_eq_true rfl⟩ dX3_place_2 (fun q ce H1 hz1 hk1 hce hcl hcv => ?_)
  exact x_out (hno _) hlocks hce hcl hcv (Nat.le_of_ble_eq_true rfl) (Nat.le_of_ble_eq_true rfl)
set_option maxRecDepth 20000 in
set_option maxHeartbeats 4000000 in
theorem t_X3_off (l : Launch) (hnt : ∀ e : Env, l.admits e → e.platform.stackTraces = false) (D : va_G) (cI cJ cZ : ClassId) (a : Nat → Nat) (n : Nat) (ah pl ck ct nk pm ja rg bu pn : Int32) (tp st us fb kA tA : Nat → Int32) (lx ly gx gy gu gv : Nat → Int64) (r : Int32) (hh : f_X2_stands r bu pn = 0) : TH l yX3_off cX3_off 2 (some .long) 3 D (tysW cI cJ cZ) (wI cI cJ cZ a n ah pl ck ct nk pm ja rg bu pn tp st us fb kA tA lx ly gx gy gu gv) [.ref (a 0), .int r] := by
  refine TH.of (by decide) ?_
  intro p e s m below meth c hadm hx hb hr hml hown hlocks hno hE hP hK
  have hown : s.vm.findClass RX3 = some m.cls := hown
  have ht : tb_OK s := hE.1
  have hl := lv_entry ([.ref (a 0), .int r]) (n := 2) (Nat.le_of_ble_eq_true rfl)
  rw [lg_entry_eq]
  generalize (lg_sl ([.ref (a 0), .int r]) ++ List.replicate (2 - (lg_sl ([.ref (a 0), .int r])).length) Slot.unset).toArray = ls at hl ⊢
  have hl : lv_has ls 2 [(0, .ref (a 0)), (1, .int r)] := hl
  refine lv_aload_n hx hb dX3_off_0 rfl (lv_at hl 0 rfl) ?_
  refine lv_iload_n hx hb dX3_off_1 rfl (lv_at hl 1 rfl) ?_
  refine x_callV (As := [.int r]) (rest := []) (t_X3_needStanding l hnt D cI cJ cZ a n ah pl ck ct nk pm ja rg bu pn tp st us fb kA tA lx ly gx gy gu gv r hh) (si_X3_135 ht ⟨Nat.le_of_ble_eq_true rfl, Nat.le_of_ble_eq_true rfl⟩) hx hb hml hown (va_recv hK hP (ci := 4) (q0 := 0) rfl rfl) hE hP hK rfl hl.1 rfl (Nat.le_of_ble_eq_true rfl) ⟨Nat.le_of_ble_eq_true rfl, Nat.le_of_ble_eq_true rfl⟩ dX3_off_2 (fun q ce H1 hz1 hk1 hce hcl hcv => ?_)
  exact x_out (hno _) hlocks hce hcl hcv (Nat.le_of_ble_eq_true rfl) (Nat.le_of_ble_eq_true rfl)
set_option maxRecDepth 20000 in
set_option maxHeartbeats 4000000 in
theorem t_X3_placeA (l : Launch) (hnt : ∀ e : Env, l.admits e → e.platform.stackTraces = false) (D : va_G) (cI cJ cZ : ClassId) (a : Nat → Nat) (n : Nat) (ah pl ck ct nk pm ja rg bu pn : Int32) (tp st us fb kA tA : Nat → Int32) (lx ly gx gy gu gv : Nat → Int64) (r : Int32) (k : Int32) (hh : ¬ f_X2_stands r bu pn = 0) (hk : ¬ k = 0 ∧ ¬ k = 1 ∧ ¬ k = 2 ∧ ¬ k = 3) : TH l yX3_place cX3_place 3 (some .long) 3 D (tysW cI cJ cZ) (wI cI cJ cZ a n ah pl ck ct nk pm ja rg bu pn tp st us fb kA tA lx ly gx gy gu gv) [.ref (a 0), .int r, .int k] := by
  refine TH.of (by decide) ?_
  intro p e s m below meth c hadm hx hb hr hml hown hlocks hno hE hP hK
  have hown : s.vm.findClass RX3 = some m.cls := hown
  have ht : tb_OK s := hE.1
  have hl := lv_entry ([.ref (a 0), .int r, .int k]) (n := 3) (Nat.le_of_ble_eq_true rfl)
  rw [lg_entry_eq]
  generalize (lg_sl ([.ref (a 0), .int r, .int k]) ++ List.replicate (3 - (lg_sl ([.ref (a 0), .int r, .int k])).length) Slot.unset).toArray = ls at hl ⊢
  have hl : lv_has ls 3 [(0, .ref (a 0)), (1, .int r), (2, .int k)] := hl
  refine lv_aload_n hx hb dX3_place_0 rfl (lv_at hl 0 rfl) ?_
  refine lv_iload_n hx hb dX3_place_1 rfl (lv_at hl 1 rfl) ?_
  refine rdV (As := [.int r]) (rest := []) (st1 := []) (k_X3_needStanding l D cI cJ cZ a n ah pl ck ct nk pm ja rg bu pn tp st us fb kA tA lx ly gx gy gu gv r hh) (si_X3_135 ht ⟨Nat.le_of_ble_eq_true rfl, Nat.le_of_ble_eq_true rfl⟩) hx hb hml hown (va_recv hK hP (ci := 4) (q0 := 0) rfl rfl) hE hP hK rfl hl.1 rfl (Nat.le_of_ble_eq_true rfl) ⟨Nat.zero_le _, Nat.zero_le _⟩ dX3_place_2 rfl ?_
  refine lv_iload_n hx hb dX3_place_5 rfl (lv_at hl 2 rfl) ?_
  refine lv_tableOut (tgt := 84) hx hb dX3_place_6 (by have e0 : (k).toInt ≠ 0 := fun h => hk.1 (Int32.toInt_inj.mp (by rw [h]; rfl)); have e1 : (k).toInt ≠ 1 := fun h => hk.2.1 (Int32.toInt_inj.mp (by rw [h]; rfl)); have e2 : (k).toInt ≠ 2 := fun h => hk.2.2.1 (Int32.toInt_inj.mp (by rw [h]; rfl)); have e3 : (k).toInt ≠ 3 := fun h => hk.2.2.2 (Int32.toInt_inj.mp (by rw [h]; rfl)); omega) (by decide) ?_
  obtain ⟨qs, hqs⟩ := hE.2.2.2 (153, "no such axis") (by simp)
  refine W.newc hx hb hown (cl_X3_151 ht) (in_Jx00060 ht) (ini_Jx00060 ht) (g := F0 m 84 ls []) rfl dX3_place_84 (Nat.le_of_ble_eq_true rfl) (Nat.le_of_ble_eq_true rfl) (fun cX kX hf hk hki hkz => ?_)
  refine W.eq (g2 := F0 m 87 ls [.ref s.heap.size]) rfl ?_
  refine lv_dup hx hb dX3_place_87 rfl ?_
  refine va_ldcS hx hb hown hqs dX3_place_88 ?_
  exact x_ctor (hnt e hadm) hx hb (hml.trans hl.1.symm) hown hlocks (hno _) (fun w hw => (hE.2.2.1 w hw).use) hf hk (by first | exact Array.getElem?_push_size | simp [freshCell]) (Nat.le_refl _) dX3_place_90 dX3_place_93 (Nat.le_of_ble_eq_true rfl) (Nat.le_of_ble_eq_true rfl) (Nat.le_of_ble_eq_true rfl) (Nat.le_of_ble_eq_true rfl)
set_option maxRecDepth 20000 in
set_option maxHeartbeats 4000000 in
theorem t_X3_count (l : Launch) (hnt : ∀ e : Env, l.admits e → e.platform.stackTraces = false) (D : va_G) (cI cJ cZ : ClassId) (a : Nat → Nat) (n : Nat) (ah pl ck ct nk pm ja rg bu pn : Int32) (tp st us fb kA tA : Nat → Int32) (lx ly gx gy gu gv : Nat → Int64) (k : Int32) (hk : ¬ k = 0 ∧ ¬ k = 1 ∧ ¬ k = 2 ∧ ¬ k = 3 ∧ ¬ k = 4 ∧ ¬ k = 5 ∧ ¬ k = 6 ∧ ¬ k = 7) : TH l yX3_count cX3_count 2 (some .int) 3 D (tysW cI cJ cZ) (wI cI cJ cZ a n ah pl ck ct nk pm ja rg bu pn tp st us fb kA tA lx ly gx gy gu gv) [.ref (a 0), .int k] := by
  refine TH.of (by decide) ?_
  intro p e s m below meth c hadm hx hb hr hml hown hlocks hno hE hP hK
  have hown : s.vm.findClass RX3 = some m.cls := hown
  have ht : tb_OK s := hE.1
  have hl := lv_entry ([.ref (a 0), .int k]) (n := 2) (Nat.le_of_ble_eq_true rfl)
  rw [lg_entry_eq]
  generalize (lg_sl ([.ref (a 0), .int k]) ++ List.replicate (2 - (lg_sl ([.ref (a 0), .int k])).length) Slot.unset).toArray = ls at hl ⊢
  have hl : lv_has ls 2 [(0, .ref (a 0)), (1, .int k)] := hl
  refine lv_iload_n hx hb dX3_count_0 rfl (lv_at hl 1 rfl) ?_
  refine lv_tableOut (tgt := 106) hx hb dX3_count_1 (by have e0 : (k).toInt ≠ 0 := fun h => hk.1 (Int32.toInt_inj.mp (by rw [h]; rfl)); have e1 : (k).toInt ≠ 1 := fun h => hk.2.1 (Int32.toInt_inj.mp (by rw [h]; rfl)); have e2 : (k).toInt ≠ 2 := fun h => hk.2.2.1 (Int32.toInt_inj.mp (by rw [h]; rfl)); have e3 : (k).toInt ≠ 3 := fun h => hk.2.2.2.1 (Int32.toInt_inj.mp (by rw [h]; rfl)); have e4 : (k).toInt ≠ 4 := fun h => hk.2.2.2.2.1 (Int32.toInt_inj.mp (by rw [h]; rfl)); have e5 : (k).toInt ≠ 5 := fun h => hk.2.2.2.2.2.1 (Int32.toInt_inj.mp (by rw [h]; rfl)); have e6 : (k).toInt ≠ 6 := fun h => hk.2.2.2.2.2.2.1 (Int32.toInt_inj.mp (by rw [h]; rfl)); have e7 : (k).toInt ≠ 7 := fun h => hk.2.2.2.2.2.2.2 (Int32.toInt_inj.mp (by rw [h]; rfl)); omega) (by decide) ?_
  obtain ⟨qs, hqs⟩ := hE.2.2.2 (184, "no such count") (by simp)
  refine W.newc hx hb hown (cl_X3_151 ht) (in_Jx00060 ht) (ini_Jx00060 ht) (g := F0 m 106 ls []) rfl dX3_count_106 (Nat.le_of_ble_eq_true rfl) (Nat.le_of_ble_eq_true rfl) (fun cX kX hf hk hki hkz => ?_)
  refine W.eq (g2 := F0 m 109 ls [.ref s.heap.size]) rfl ?_
  refine lv_dup hx hb dX3_count_109 rfl ?_
  refine va_ldcS hx hb hown hqs dX3_count_110 ?_
  exact x_ctor (hnt e hadm) hx hb (hml.trans hl.1.symm) hown hlocks (hno _) (fun w hw => (hE.2.2.1 w hw).use) hf hk (by first | exact Array.getElem?_push_size | simp [freshCell]) (Nat.le_refl _) dX3_count_112 dX3_count_115 (Nat.le_of_ble_eq_true rfl) (Nat.le_of_ble_eq_true rfl) (Nat.le_of_ble_eq_true rfl) (Nat.le_of_ble_eq_true rfl)
