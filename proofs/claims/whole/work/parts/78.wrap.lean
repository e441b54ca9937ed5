theorem cast_x {s : State} {k : ClassId} (h : s.vm.findClass xcA = some k) {args : Array Value} : (Cond.castable xcA xcA).before args s = true := by
  have h9 : s.vm.assignable k k = true := by
    unfold Vm.assignable
    rw [show (256 : Nat) = 255 + 1 from rfl]
    unfold Vm.assignableAux
    simp
  simp [Cond.before, Cond.holds, Cond.value, h, h9]
abbrev oC (cJ : ClassId) (ao : Nat) (fo : Nat → Int64) : Nat × va_E := (ao, .inl (cJ, 1, .inr (.inl fo)))
set_option maxRecDepth 20000 in
set_option maxHeartbeats 4000000 in
theorem k_L_line (l : Launch) (D : va_G) (cI cJ cZ : ClassId) (a : Nat → Nat) (n : Nat) (ah pl ck ct nk pm ja rg bu pn : Int32) (tp st us fb kA tA : Nat → Int32) (lx ly gx gy gu gv : Nat → Int64) (ao : Nat) (fo : Nat → Int64) (r : Int32) (j : Int32) (f : Int32)  (hh : ¬ f_X2_has r rg = 0) (hrn : vp_in r n) : WRH l yL_line cL_line 6 (some .int) [(0, 12, 15, 13)] 3 0 0 D (tysW cI cJ cZ) (oC cJ ao fo :: wI cI cJ cZ a n ah pl ck ct nk pm ja rg bu pn tp st us fb kA tA lx ly gx gy gu gv) [.ref (a 0), .int r, .int j, .int f, .ref ao] (fun ov w' => ov = some (.int 0) ∧ w' = (oC cJ ao (vp_updL fo 0 ((f_X3_line r j f bu pn).toInt64)) :: wI cI cJ cZ a n ah pl ck ct nk pm ja rg bu pn tp st us fb kA tA (f_X3_line_lx r j f bu pn lx) (f_X3_line_ly r j f bu pn ly) gx gy gu gv)) := by
  refine WRH.of (by decide) ?_
  intro p e s m below meth c A hadm hx hb hr hml hown hlocks htab hE hP hK hD hS hA hAe
  have hown : s.vm.findClass RL = some m.cls := hown
  have ht : tb_OK s := hE.1
  have hl := lv_entry ([.ref (a 0), .int r, .int j, .int f, .ref ao]) (n := 6) (Nat.le_of_ble_eq_true rfl)
  rw [lg_entry_eq]
  generalize (lg_sl ([.ref (a 0), .int r, .int j, .int f, .ref ao]) ++ List.replicate (6 - (lg_sl ([.ref (a 0), .int r, .int j, .int f, .ref ao])).length) Slot.unset).toArray = ls at hl ⊢
  have hl : lv_has ls 6 [(0, .ref (a 0)), (1, .int r), (2, .int j), (3, .int f), (4, .ref ao)] := hl
  refine lv_aload hx hb dL_line_0 (lv_at hl 4 rfl) ?_
  refine lv_iconst (v := 0) hx hb dL_line_2 (by decide) ?_
  refine lv_aload_n hx hb dL_line_3 rfl (lv_at hl 0 rfl) ?_
  refine lv_iload_n hx hb dL_line_4 rfl (lv_at hl 1 rfl) ?_
  refine lv_iload_n hx hb dL_line_5 rfl (lv_at hl 2 rfl) ?_
  refine lv_iload_n hx hb dL_line_6 rfl (lv_at hl 3 rfl) ?_
  refine wrV (As := [.int r, .int j, .int f]) (rest := [.int 0, .ref ao]) (WR.frame (w := (oC cJ ao fo :: wI cI cJ cZ a n ah pl ck ct nk pm ja rg bu pn tp st us fb kA tA lx ly gx gy gu gv)) (wr := [oC cJ ao fo]) (k_X3_line l D cI cJ cZ a n ah pl ck ct nk pm ja rg bu pn tp st us fb kA tA lx ly gx gy gu gv r j f hh hrn) [1, 2, 3, 4, 5, 6, 7, 8, 9, 10, 11, 12, 13, 14, 15, 16] [0] rfl rfl (by decide) (by decide) (by decide)) (si_L_7 ht ⟨Nat.le_of_ble_eq_true rfl, Nat.le_of_ble_eq_true rfl⟩) hx hb hml hown (va_recv hK hP (ci := 4) (q0 := 1) rfl rfl) hE hP hK hD hS hA rfl hl.1 rfl (Nat.le_of_ble_eq_true rfl) ⟨Nat.zero_le _, Nat.zero_le _⟩ dL_line_7 (fun ov w' H locs hpost hP hD hS => ?_)
  obtain ⟨w1, ⟨rfl, rfl⟩, rfl⟩ := hpost
  refine W.st (st1 := [.int (f_X3_line r j f bu pn), .int 0, .ref ao]) rfl ?_
  refine lv_i2l (v := (f_X3_line r j f bu pn).toInt64) hx hb dL_line_10 rfl ?_
  have hP : va_P D vwCl (oC cJ ao fo :: wI cI cJ cZ a n ah pl ck ct nk pm ja rg bu pn tp st us fb kA tA (f_X3_line_lx r j f bu pn lx) (f_X3_line_ly r j f bu pn ly) gx gy gu gv) H := hP
  have hD : va_D A (oC cJ ao fo :: wI cI cJ cZ a n ah pl ck ct nk pm ja rg bu pn tp st us fb kA tA (f_X3_line_lx r j f bu pn lx) (f_X3_line_ly r j f bu pn ly) gx gy gu gv) := hD
  refine va_last hx hb hK hP hD hS 0 1 rfl rfl (in_of (i := 0) nI_0.symm (by decide) (by decide)) dL_line_11 (fun H locs hP hD hS => ?_)
  refine lv_goto (tgt := 19) hx hb dL_line_12 (by decide) ?_
  refine lv_iconst (v := 0) hx hb dL_line_19 (by decide) ?_
  exact wr_i hx hb hr hlocks hAe hP hD hS dL_line_20 ⟨rfl, rfl⟩
set_option maxRecDepth 20000 in
set_option maxHeartbeats 4000000 in
theorem k_L_survey (l : Launch) (D : va_G) (cI cJ cZ : ClassId) (a : Nat → Nat) (n : Nat) (ah pl ck ct nk pm ja rg bu pn : Int32) (tp st us fb kA tA : Nat → Int32) (lx ly gx gy gu gv : Nat → Int64) (ao : Nat) (fo : Nat → Int64) (r : Int32) (j : Int32) (f : Int32)  (B : Nat) (S : Nat) (rn : Nat) (hh : ¬ f_X2_has r rg = 0) (eB : bu = nI B) (hBS : B ≤ S) (gS : bu + pn = nI S) (hSn : S ≤ n) (hn : n ≤ 24) (hkA : ∀ i, i < S → vp_in (kA i) 4) (ern : r = nI rn) (hrB : f_X2_stateAt r bu pn = 2 → rn ≤ B) : WRH l yL_survey cL_survey 6 (some .int) [(0, 12, 15, 13)] 3 0 0 D (tysW cI cJ cZ) (oC cJ ao fo :: wI cI cJ cZ a n ah pl ck ct nk pm ja rg bu pn tp st us fb kA tA lx ly gx gy gu gv) [.ref (a 0), .int r, .int j, .int f, .ref ao] (fun ov w' => ov = some (.int 0) ∧ w' = (oC cJ ao (vp_updL fo 0 ((f_X3_survey r j f bu pn).toInt64)) :: wI cI cJ cZ a n ah pl ck ct nk pm ja rg bu (f_X3_survey_pn r j f bu pn) tp st (f_X3_survey_us r j f B S bu pn us kA) fb kA tA lx ly (f_X3_survey_gx r j f B rn bu pn gx) (f_X3_survey_gy r j f B rn bu pn gy) gu gv)) := by
  refine WRH.of (by decide) ?_
  intro p e s m below meth c A hadm hx hb hr hml hown hlocks htab hE hP hK hD hS hA hAe
  have hown : s.vm.findClass RL = some m.cls := hown
  have ht : tb_OK s := hE.1
  have hl := lv_entry ([.ref (a 0), .int r, .int j, .int f, .ref ao]) (n := 6) (Nat.le_of_ble_eq_true rfl)
  rw [lg_entry_eq]
  generalize (lg_sl ([.ref (a 0), .int r, .int j, .int f, .ref ao]) ++ List.replicate (6 - (lg_sl ([.ref (a 0), .int r, .int j, .int f, .ref ao])).length) Slot.unset).toArray = ls at hl ⊢
  have hl : lv_has ls 6 [(0, .ref (a 0)), (1, .int r), (2, .int j), (3, .int f), (4, .ref ao)] := hl
  refine lv_aload hx hb dL_survey_0 (lv_at hl 4 rfl) ?_
  refine lv_iconst (v := 0) hx hb dL_survey_2 (by decide) ?_
  refine lv_aload_n hx hb dL_survey_3 rfl (lv_at hl 0 rfl) ?_
  refine lv_iload_n hx hb dL_survey_4 rfl (lv_at hl 1 rfl) ?_
  refine lv_iload_n hx hb dL_survey_5 rfl (lv_at hl 2 rfl) ?_
  refine lv_iload_n hx hb dL_survey_6 rfl (lv_at hl 3 rfl) ?_
  refine wrV (As := [.int r, .int j, .int f]) (rest := [.int 0, .ref ao]) (WR.frame (w := (oC cJ ao fo :: wI cI cJ cZ a n ah pl ck ct nk pm ja rg bu pn tp st us fb kA tA lx ly gx gy gu gv)) (wr := [oC cJ ao fo]) (k_X3_survey l D cI cJ cZ a n ah pl ck ct nk pm ja rg bu pn tp st us fb kA tA lx ly gx gy gu gv r j f B S rn hh eB hBS gS hSn hn hkA ern hrB) [1, 2, 3, 4, 5, 6, 7, 8, 9, 10, 11, 12, 13, 14, 15, 16] [0] rfl rfl (by decide) (by decide) (by decide)) (si_L_15 ht ⟨Nat.le_of_ble_eq_true rfl, Nat.le_of_ble_eq_true rfl⟩) hx hb hml hown (va_recv hK hP (ci := 4) (q0 := 1) rfl rfl) hE hP hK hD hS hA rfl hl.1 rfl (Nat.le_of_ble_eq_true rfl) ⟨Nat.zero_le _, Nat.zero_le _⟩ dL_survey_7 (fun ov w' H locs hpost hP hD hS => ?_)
  obtain ⟨w1, ⟨rfl, rfl⟩, rfl⟩ := hpost
  refine W.st (st1 := [.int (f_X3_survey r j f bu pn), .int 0, .ref ao]) rfl ?_
  refine lv_i2l (v := (f_X3_survey r j f bu pn).toInt64) hx hb dL_survey_10 rfl ?_
  have hP : va_P D vwCl (oC cJ ao fo :: wI cI cJ cZ a n ah pl ck ct nk pm ja rg bu (f_X3_survey_pn r j f bu pn) tp st (f_X3_survey_us r j f B S bu pn us kA) fb kA tA lx ly (f_X3_survey_gx r j f B rn bu pn gx) (f_X3_survey_gy r j f B rn bu pn gy) gu gv) H := hP
  have hD : va_D A (oC cJ ao fo :: wI cI cJ cZ a n ah pl ck ct nk pm ja rg bu (f_X3_survey_pn r j f bu pn) tp st (f_X3_survey_us r j f B S bu pn us kA) fb kA tA lx ly (f_X3_survey_gx r j f B rn bu pn gx) (f_X3_survey_gy r j f B rn bu pn gy) gu gv) := hD
  refine va_last hx hb hK hP hD hS 0 1 rfl rfl (in_of (i := 0) nI_0.symm (by decide) (by decide)) dL_survey_11 (fun H locs hP hD hS => ?_)
  refine lv_goto (tgt := 19) hx hb dL_survey_12 (by decide) ?_
  refine lv_iconst (v := 0) hx hb dL_survey_19 (by decide) ?_
  exact wr_i hx hb hr hlocks hAe hP hD hS dL_survey_20 ⟨rfl, rfl⟩
set_option maxRecDepth 20000 in
set_option maxHeartbeats 4000000 in
theorem k_L_replace (l : Launch) (D : va_G) (cI cJ cZ : ClassId) (a : Nat → Nat) (n : Nat) (ah pl ck ct nk pm ja rg bu pn : Int32) (tp st us fb kA tA : Nat → Int32) (lx ly gx gy gu gv : Nat → Int64) (ao : Nat) (fo : Nat → Int64) (r : Int32) (k : Int32)  (rn : Nat) (S : Nat) (hh : ¬ f_X2_has r rg = 0) (ern : r = nI rn) (hrn : rn < n) (hrS : f_X2_stateAt r bu pn = 1 → rn < S) (gS : bu + pn = nI S) (hSn : S ≤ n) (hn : n ≤ 24) (hkA : ∀ i, i < S → vp_in (kA i) 4) (hk : ¬ f_X1_has k nk = 0 → vp_in k 4) : WRH l yL_replace cL_replace 5 (some .int) [(0, 10, 13, 13)] 4 0 0 D (tysW cI cJ cZ) (oC cJ ao fo :: wI cI cJ cZ a n ah pl ck ct nk pm ja rg bu pn tp st us fb kA tA lx ly gx gy gu gv) [.ref (a 0), .int r, .int k, .ref ao] (fun ov w' => ov = some (.int 0) ∧ w' = (oC cJ ao (vp_updL fo 0 ((f_X3_replace r k nk bu pn st us kA).toInt64)) :: wI cI cJ cZ a n ah pl ck ct nk pm ja rg bu pn tp st (f_X3_replace_us r k nk bu pn st us kA) fb (f_X3_replace_kA r k nk bu pn st us kA) tA lx ly (f_X3_replace_gx r k rn S nk bu pn tp st us kA tA gx gy gu gv) (f_X3_replace_gy r k rn S nk bu pn tp st us kA tA gx gy gu gv) (f_X3_replace_gu r k rn S nk bu pn tp st us kA tA gx gy gu gv) (f_X3_replace_gv r k rn S nk bu pn tp st us kA tA gx gy gu gv))) := by
  refine WRH.of (by decide) ?_
  intro p e s m below meth c A hadm hx hb hr hml hown hlocks htab hE hP hK hD hS hA hAe
  have hown : s.vm.findClass RL = some m.cls := hown
  have ht : tb_OK s := hE.1
  have hl := lv_entry ([.ref (a 0), .int r, .int k, .ref ao]) (n := 5) (Nat.le_of_ble_eq_true rfl)
  rw [lg_entry_eq]
  generalize (lg_sl ([.ref (a 0), .int r, .int k, .ref ao]) ++ List.replicate (5 - (lg_sl ([.ref (a 0), .int r, .int k, .ref ao])).length) Slot.unset).toArray = ls at hl ⊢
  have hl : lv_has ls 5 [(0, .ref (a 0)), (1, .int r), (2, .int k), (3, .ref ao)] := hl
  refine lv_aload_n hx hb dL_replace_0 rfl (lv_at hl 3 rfl) ?_
  refine lv_iconst (v := 0) hx hb dL_replace_1 (by decide) ?_
  refine lv_aload_n hx hb dL_replace_2 rfl (lv_at hl 0 rfl) ?_
  refine lv_iload_n hx hb dL_replace_3 rfl (lv_at hl 1 rfl) ?_
  refine lv_iload_n hx hb dL_replace_4 rfl (lv_at hl 2 rfl) ?_
  refine wrV (As := [.int r, .int k]) (rest := [.int 0, .ref ao]) (WR.frame (w := (oC cJ ao fo :: wI cI cJ cZ a n ah pl ck ct nk pm ja rg bu pn tp st us fb kA tA lx ly gx gy gu gv)) (wr := [oC cJ ao fo]) (k_X3_replace l D cI cJ cZ a n ah pl ck ct nk pm ja rg bu pn tp st us fb kA tA lx ly gx gy gu gv r k rn S hh ern hrn hrS gS hSn hn hkA hk) [1, 2, 3, 4, 5, 6, 7, 8, 9, 10, 11, 12, 13, 14, 15, 16] [0] rfl rfl (by decide) (by decide) (by decide)) (si_L_18 ht ⟨Nat.le_of_ble_eq_true rfl, Nat.le_of_ble_eq_true rfl⟩) hx hb hml hown (va_recv hK hP (ci := 4) (q0 := 1) rfl rfl) hE hP hK hD hS hA rfl hl.1 rfl (Nat.le_of_ble_eq_true rfl) ⟨Nat.zero_le _, Nat.zero_le _⟩ dL_replace_5 (fun ov w' H locs hpost hP hD hS => ?_)
  obtain ⟨w1, ⟨rfl, rfl⟩, rfl⟩ := hpost
  refine W.st (st1 := [.int (f_X3_replace r k nk bu pn st us kA), .int 0, .ref ao]) rfl ?_
  refine lv_i2l (v := (f_X3_replace r k nk bu pn st us kA).toInt64) hx hb dL_replace_8 rfl ?_
  have hP : va_P D vwCl (oC cJ ao fo :: wI cI cJ cZ a n ah pl ck ct nk pm ja rg bu pn tp st (f_X3_replace_us r k nk bu pn st us kA) fb (f_X3_replace_kA r k nk bu pn st us kA) tA lx ly (f_X3_replace_gx r k rn S nk bu pn tp st us kA tA gx gy gu gv) (f_X3_replace_gy r k rn S nk bu pn tp st us kA tA gx gy gu gv) (f_X3_replace_gu r k rn S nk bu pn tp st us kA tA gx gy gu gv) (f_X3_replace_gv r k rn S nk bu pn tp st us kA tA gx gy gu gv)) H := hP
  have hD : va_D A (oC cJ ao fo :: wI cI cJ cZ a n ah pl ck ct nk pm ja rg bu pn tp st (f_X3_replace_us r k nk bu pn st us kA) fb (f_X3_replace_kA r k nk bu pn st us kA) tA lx ly (f_X3_replace_gx r k rn S nk bu pn tp st us kA tA gx gy gu gv) (f_X3_replace_gy r k rn S nk bu pn tp st us kA tA gx gy gu gv) (f_X3_replace_gu r k rn S nk bu pn tp st us kA tA gx gy gu gv) (f_X3_replace_gv r k rn S nk bu pn tp st us kA tA gx gy gu gv)) := hD
  refine va_last hx hb hK hP hD hS 0 1 rfl rfl (in_of (i := 0) nI_0.symm (by decide) (by decide)) dL_replace_9 (fun H locs hP hD hS => ?_)
  refine lv_goto (tgt := 17) hx hb dL_replace_10 (by decide) ?_
  refine lv_iconst (v := 0) hx hb dL_replace_17 (by decide) ?_
  exact wr_i hx hb hr hlocks hAe hP hD hS dL_replace_18 ⟨rfl, rfl⟩
set_option maxRecDepth 20000 in
set_option maxHeartbeats 4000000 in
theorem k_L_place (l : Launch) (D : va_G) (cI cJ cZ : ClassId) (a : Nat → Nat) (n : Nat) (ah pl ck ct nk pm ja rg bu pn : Int32) (tp st us fb kA tA : Nat → Int32) (lx ly gx gy gu gv : Nat → Int64) (ao : Nat) (fo : Nat → Int64) (r : Int32) (k : Int32)  (hh : ¬ f_X2_stands r bu pn = 0) (hk4 : k = 0 ∨ k = 1 ∨ k = 2 ∨ k = 3) (hr1 : vp_in (r + 1) (n + 1)) : WRH l yL_place cL_place 5 (some .int) [(0, 9, 12, 13)] 4 0 0 D (tysW cI cJ cZ) (oC cJ ao fo :: wI cI cJ cZ a n ah pl ck ct nk pm ja rg bu pn tp st us fb kA tA lx ly gx gy gu gv) [.ref (a 0), .int r, .int k, .ref ao] (fun ov w' => ov = some (.int 0) ∧ w' = (oC cJ ao (vp_updL fo 0 (f_X3_place r k gx gy gu gv)) :: wI cI cJ cZ a n ah pl ck ct nk pm ja rg bu pn tp st us fb kA tA lx ly gx gy gu gv)) := by
  refine WRH.of (by decide) ?_
  intro p e s m below meth c A hadm hx hb hr hml hown hlocks htab hE hP hK hD hS hA hAe
  have hown : s.vm.findClass RL = some m.cls := hown
  have ht : tb_OK s := hE.1
  have hl := lv_entry ([.ref (a 0), .int r, .int k, .ref ao]) (n := 5) (Nat.le_of_ble_eq_true rfl)
  rw [lg_entry_eq]
  generalize (lg_sl ([.ref (a 0), .int r, .int k, .ref ao]) ++ List.replicate (5 - (lg_sl ([.ref (a 0), .int r, .int k, .ref ao])).length) Slot.unset).toArray = ls at hl ⊢
  have hl : lv_has ls 5 [(0, .ref (a 0)), (1, .int r), (2, .int k), (3, .ref ao)] := hl
  refine lv_aload_n hx hb dL_place_0 rfl (lv_at hl 3 rfl) ?_
  refine lv_iconst (v := 0) hx hb dL_place_1 (by decide) ?_
  refine lv_aload_n hx hb dL_place_2 rfl (lv_at hl 0 rfl) ?_
  refine lv_iload_n hx hb dL_place_3 rfl (lv_at hl 1 rfl) ?_
  refine lv_iload_n hx hb dL_place_4 rfl (lv_at hl 2 rfl) ?_
  refine rdV (As := [.int r, .int k]) (rest := [.int 0, .ref ao]) (st1 := [.long (f_X3_place r k gx gy gu gv), .int 0, .ref ao]) (RD.frame (w := (oC cJ ao fo :: wI cI cJ cZ a n ah pl ck ct nk pm ja rg bu pn tp st us fb kA tA lx ly gx gy gu gv)) (k_X3_place l D cI cJ cZ a n ah pl ck ct nk pm ja rg bu pn tp st us fb kA tA lx ly gx gy gu gv r k hh hk4 hr1) [1, 2, 3, 4, 5, 6, 7, 8, 9, 10, 11, 12, 13, 14, 15, 16] rfl) (si_L_22 ht ⟨Nat.le_of_ble_eq_true rfl, Nat.le_of_ble_eq_true rfl⟩) hx hb hml hown (va_recv hK hP (ci := 4) (q0 := 1) rfl rfl) hE hP hK rfl hl.1 rfl (Nat.le_of_ble_eq_true rfl) ⟨Nat.zero_le _, Nat.zero_le _⟩ dL_place_5 rfl ?_
  have hP : va_P D vwCl (oC cJ ao fo :: wI cI cJ cZ a n ah pl ck ct nk pm ja rg bu pn tp st us fb kA tA lx ly gx gy gu gv) s.heap := hP
  have hD : va_D A (oC cJ ao fo :: wI cI cJ cZ a n ah pl ck ct nk pm ja rg bu pn tp st us fb kA tA lx ly gx gy gu gv) := hD
  refine va_last hx hb hK hP hD hS 0 1 rfl rfl (in_of (i := 0) nI_0.symm (by decide) (by decide)) dL_place_8 (fun H locs hP hD hS => ?_)
  refine lv_goto (tgt := 16) hx hb dL_place_9 (by decide) ?_
  refine lv_iconst (v := 0) hx hb dL_place_16 (by decide) ?_
  exact wr_i hx hb hr hlocks hAe hP hD hS dL_place_17 ⟨rfl, rfl⟩
set_option maxRecDepth 20000 in
set_option maxHeartbeats 4000000 in
theorem k_L_off (l : Launch) (D : va_G) (cI cJ cZ : ClassId) (a : Nat → Nat) (n : Nat) (ah pl ck ct nk pm ja rg bu pn : Int32) (tp st us fb kA tA : Nat → Int32) (lx ly gx gy gu gv : Nat → Int64) (ao : Nat) (fo : Nat → Int64) (r : Int32)  (hh : ¬ f_X2_stands r bu pn = 0) (h0 : vp_in r n) (hr1 : vp_in (r + 1) (n + 1)) : WRH l yL_off cL_off 4 (some .int) [(0, 8, 11, 13)] 4 0 0 D (tysW cI cJ cZ) (oC cJ ao fo :: wI cI cJ cZ a n ah pl ck ct nk pm ja rg bu pn tp st us fb kA tA lx ly gx gy gu gv) [.ref (a 0), .int r, .ref ao] (fun ov w' => ov = some (.int 0) ∧ w' = (oC cJ ao (vp_updL fo 0 (f_X3_off r lx ly gx gy)) :: wI cI cJ cZ a n ah pl ck ct nk pm ja rg bu pn tp st us fb kA tA lx ly gx gy gu gv)) := by
  refine WRH.of (by decide) ?_
  intro p e s m below meth c A hadm hx hb hr hml hown hlocks htab hE hP hK hD hS hA hAe
  have hown : s.vm.findClass RL = some m.cls := hown
  have ht : tb_OK s := hE.1
  have hl := lv_entry ([.ref (a 0), .int r, .ref ao]) (n := 4) (Nat.le_of_ble_eq_true rfl)
  rw [lg_entry_eq]
  generalize (lg_sl ([.ref (a 0), .int r, .ref ao]) ++ List.replicate (4 - (lg_sl ([.ref (a 0), .int r, .ref ao])).length) Slot.unset).toArray = ls at hl ⊢
  have hl : lv_has ls 4 [(0, .ref (a 0)), (1, .int r), (2, .ref ao)] := hl
  refine lv_aload_n hx hb dL_off_0 rfl (lv_at hl 2 rfl) ?_
  refine lv_iconst (v := 0) hx hb dL_off_1 (by decide) ?_
  refine lv_aload_n hx hb dL_off_2 rfl (lv_at hl 0 rfl) ?_
  refine lv_iload_n hx hb dL_off_3 rfl (lv_at hl 1 rfl) ?_
  refine rdV (As := [.int r]) (rest := [.int 0, .ref ao]) (st1 := [.long (f_X3_off r lx ly gx gy), .int 0, .ref ao]) (RD.frame (w := (oC cJ ao fo :: wI cI cJ cZ a n ah pl ck ct nk pm ja rg bu pn tp st us fb kA tA lx ly gx gy gu gv)) (k_X3_off l D cI cJ cZ a n ah pl ck ct nk pm ja rg bu pn tp st us fb kA tA lx ly gx gy gu gv r hh h0 hr1) [1, 2, 3, 4, 5, 6, 7, 8, 9, 10, 11, 12, 13, 14, 15, 16] rfl) (si_L_26 ht ⟨Nat.le_of_ble_eq_true rfl, Nat.le_of_ble_eq_true rfl⟩) hx hb hml hown (va_recv hK hP (ci := 4) (q0 := 1) rfl rfl) hE hP hK rfl hl.1 rfl (Nat.le_of_ble_eq_true rfl) ⟨Nat.zero_le _, Nat.zero_le _⟩ dL_off_4 rfl ?_
  have hP : va_P D vwCl (oC cJ ao fo :: wI cI cJ cZ a n ah pl ck ct nk pm ja rg bu pn tp st us fb kA tA lx ly gx gy gu gv) s.heap := hP
  have hD : va_D A (oC cJ ao fo :: wI cI cJ cZ a n ah pl ck ct nk pm ja rg bu pn tp st us fb kA tA lx ly gx gy gu gv) := hD
  refine va_last hx hb hK hP hD hS 0 1 rfl rfl (in_of (i := 0) nI_0.symm (by decide) (by decide)) dL_off_7 (fun H locs hP hD hS => ?_)
  refine lv_goto (tgt := 14) hx hb dL_off_8 (by decide) ?_
  refine lv_iconst (v := 0) hx hb dL_off_14 (by decide) ?_
  exact wr_i hx hb hr hlocks hAe hP hD hS dL_off_15 ⟨rfl, rfl⟩
set_option maxRecDepth 20000 in
set_option maxHeartbeats 4000000 in
theorem k_L_count (l : Launch) (D : va_G) (cI cJ cZ : ClassId) (a : Nat → Nat) (n : Nat) (ah pl ck ct nk pm ja rg bu pn : Int32) (tp st us fb kA tA : Nat → Int32) (lx ly gx gy gu gv : Nat → Int64) (ao : Nat) (fo : Nat → Int64) (k : Int32)  (hk8 : k = 0 ∨ k = 1 ∨ k = 2 ∨ k = 3 ∨ k = 4 ∨ k = 5 ∨ k = 6 ∨ k = 7) : WRH l yL_count cL_count 4 (some .int) [(0, 9, 12, 13)] 2 0 0 D (tysW cI cJ cZ) (oC cJ ao fo :: wI cI cJ cZ a n ah pl ck ct nk pm ja rg bu pn tp st us fb kA tA lx ly gx gy gu gv) [.ref (a 0), .int k, .ref ao] (fun ov w' => ov = some (.int 0) ∧ w' = (oC cJ ao (vp_updL fo 0 ((f_X3_count k ah pl nk pm ja rg bu pn).toInt64)) :: wI cI cJ cZ a n ah pl ck ct nk pm ja rg bu pn tp st us fb kA tA lx ly gx gy gu gv)) := by
  refine WRH.of (by decide) ?_
  intro p e s m below meth c A hadm hx hb hr hml hown hlocks htab hE hP hK hD hS hA hAe
  have hown : s.vm.findClass RL = some m.cls := hown
  have ht : tb_OK s := hE.1
  have hl := lv_entry ([.ref (a 0), .int k, .ref ao]) (n := 4) (Nat.le_of_ble_eq_true rfl)
  rw [lg_entry_eq]
  generalize (lg_sl ([.ref (a 0), .int k, .ref ao]) ++ List.replicate (4 - (lg_sl ([.ref (a 0), .int k, .ref ao])).length) Slot.unset).toArray = ls at hl ⊢
  have hl : lv_has ls 4 [(0, .ref (a 0)), (1, .int k), (2, .ref ao)] := hl
  refine lv_aload_n hx hb dL_count_0 rfl (lv_at hl 2 rfl) ?_
  refine lv_iconst (v := 0) hx hb dL_count_1 (by decide) ?_
  refine lv_aload_n hx hb dL_count_2 rfl (lv_at hl 0 rfl) ?_
  refine lv_iload_n hx hb dL_count_3 rfl (lv_at hl 1 rfl) ?_
  refine rdV (As := [.int k]) (rest := [.int 0, .ref ao]) (st1 := [.int (f_X3_count k ah pl nk pm ja rg bu pn), .int 0, .ref ao]) (RD.frame (w := (oC cJ ao fo :: wI cI cJ cZ a n ah pl ck ct nk pm ja rg bu pn tp st us fb kA tA lx ly gx gy gu gv)) (k_X3_count l D cI cJ cZ a n ah pl ck ct nk pm ja rg bu pn tp st us fb kA tA lx ly gx gy gu gv k hk8) [1, 2, 3, 4, 5, 6, 7, 8, 9, 10, 11, 12, 13, 14, 15, 16] rfl) (si_L_30 ht ⟨Nat.le_of_ble_eq_true rfl, Nat.le_of_ble_eq_true rfl⟩) hx hb hml hown (va_recv hK hP (ci := 4) (q0 := 1) rfl rfl) hE hP hK rfl hl.1 rfl (Nat.le_of_ble_eq_true rfl) ⟨Nat.zero_le _, Nat.zero_le _⟩ dL_count_4 rfl ?_
  refine lv_i2l (v := (f_X3_count k ah pl nk pm ja rg bu pn).toInt64) hx hb dL_count_7 rfl ?_
  have hP : va_P D vwCl (oC cJ ao fo :: wI cI cJ cZ a n ah pl ck ct nk pm ja rg bu pn tp st us fb kA tA lx ly gx gy gu gv) s.heap := hP
  have hD : va_D A (oC cJ ao fo :: wI cI cJ cZ a n ah pl ck ct nk pm ja rg bu pn tp st us fb kA tA lx ly gx gy gu gv) := hD
  refine va_last hx hb hK hP hD hS 0 1 rfl rfl (in_of (i := 0) nI_0.symm (by decide) (by decide)) dL_count_8 (fun H locs hP hD hS => ?_)
  refine lv_goto (tgt := 15) hx hb dL_count_9 (by decide) ?_
  refine lv_iconst (v := 0) hx hb dL_count_15 (by decide) ?_
  exact wr_i hx hb hr hlocks hAe hP hD hS dL_count_16 ⟨rfl, rfl⟩
set_option maxRecDepth 20000 in
set_option maxHeartbeats 4000000 in
theorem t_L_line (l : Launch) (hnt : ∀ e : Env, l.admits e → e.platform.stackTraces = false) (D : va_G) (cI cJ cZ : ClassId) (a : Nat → Nat) (n : Nat) (ah pl ck ct nk pm ja rg bu pn : Int32) (tp st us fb kA tA : Nat → Int32) (lx ly gx gy gu gv : Nat → Int64) (ao : Nat) (fo : Nat → Int64) (r : Int32) (j : Int32) (f : Int32)  (hh : f_X2_has r rg = 0) : WRH l yL_line cL_line 6 (some .int) [(0, 12, 15, 13)] 4 1 6 D (tysW cI cJ cZ) (oC cJ ao fo :: wI cI cJ cZ a n ah pl ck ct nk pm ja rg bu pn tp st us fb kA tA lx ly gx gy gu gv) [.ref (a 0), .int r, .int j, .int f, .ref ao] (fun ov w' => ov = some (.int 1) ∧ w' = (oC cJ ao fo :: wI cI cJ cZ a n ah pl ck ct nk pm ja rg bu pn tp st us fb kA tA lx ly gx gy gu gv)) := by
  refine WRH.of (by decide) ?_
  intro p e s m below meth c A hadm hx hb hr hml hown hlocks htab hE hP hK hD hS hA hAe
  have hown : s.vm.findClass RL = some m.cls := hown
  have ht : tb_OK s := hE.1
  have hl := lv_entry ([.ref (a 0), .int r, .int j, .int f, .ref ao]) (n := 6) (Nat.le_of_ble_eq_true rfl)
  rw [lg_entry_eq]
  generalize (lg_sl ([.ref (a 0), .int r, .int j, .int f, .ref ao]) ++ List.replicate (6 - (lg_sl ([.ref (a 0), .int r, .int j, .int f, .ref ao])).length) Slot.unset).toArray = ls at hl ⊢
  have hl : lv_has ls 6 [(0, .ref (a 0)), (1, .int r), (2, .int j), (3, .int f), (4, .ref ao)] := hl
  refine lv_aload hx hb dL_line_0 (lv_at hl 4 rfl) ?_
  refine lv_iconst (v := 0) hx hb dL_line_2 (by decide) ?_
  refine lv_aload_n hx hb dL_line_3 rfl (lv_at hl 0 rfl) ?_
  refine lv_iload_n hx hb dL_line_4 rfl (lv_at hl 1 rfl) ?_
  refine lv_iload_n hx hb dL_line_5 rfl (lv_at hl 2 rfl) ?_
  refine lv_iload_n hx hb dL_line_6 rfl (lv_at hl 3 rfl) ?_
  refine x_callV (As := [.int r, .int j, .int f]) (rest := [.int 0, .ref ao]) (TH.frame (w := (oC cJ ao fo :: wI cI cJ cZ a n ah pl ck ct nk pm ja rg bu pn tp st us fb kA tA lx ly gx gy gu gv)) (t_X3_line l hnt D cI cJ cZ a n ah pl ck ct nk pm ja rg bu pn tp st us fb kA tA lx ly gx gy gu gv r j f hh) [1, 2, 3, 4, 5, 6, 7, 8, 9, 10, 11, 12, 13, 14, 15, 16] rfl) (si_L_7 ht ⟨Nat.le_of_ble_eq_true rfl, Nat.le_of_ble_eq_true rfl⟩) hx hb hml hown (va_recv hK hP (ci := 4) (q0 := 1) rfl rfl) hE hP hK rfl hl.1 rfl (Nat.le_of_ble_eq_true rfl) ⟨Nat.le_of_ble_eq_true rfl, Nat.le_of_ble_eq_true rfl⟩ dL_line_7 (fun q ce H1 hz1 hk1 hce hcl hcv => ?_)
  refine x_catch (own := RL) hown htab (by decide) (by decide) (cl_L_13 ht) (cast_x hcl) hce hcl hcv ?_
  refine lv_astore (lv' := [(5, .ref q), (0, .ref (a 0)), (1, .int r), (2, .int j), (3, .int f), (4, .ref ao)]) hx hb dL_line_15 hl (by decide) rfl (fun ls hl => ?_)
  refine lv_iconst (v := 1) hx hb dL_line_17 (by decide) ?_
  exact wr_i hx hb hr hlocks hAe (hP.kept (fun k x hx9 => hk1 x.1 ((hP k x hx9).lt))) hD ⟨hz1, fun q h1 _ => hk1 q h1, fun l hl9 => absurd hl9 List.not_mem_nil⟩ dL_line_18 ⟨rfl, rfl⟩
set_option maxRecDepth 20000 in
set_option maxHeartbeats 4000000 in
theorem t_L_survey (l : Launch) (hnt : ∀ e : Env, l.admits e → e.platform.stackTraces = false) (D : va_G) (cI cJ cZ : ClassId) (a : Nat → Nat) (n : Nat) (ah pl ck ct nk pm ja rg bu pn : Int32) (tp st us fb kA tA : Nat → Int32) (lx ly gx gy gu gv : Nat → Int64) (ao : Nat) (fo : Nat → Int64) (r : Int32) (j : Int32) (f : Int32)  (hh : f_X2_has r rg = 0) : WRH l yL_survey cL_survey 6 (some .int) [(0, 12, 15, 13)] 4 1 6 D (tysW cI cJ cZ) (oC cJ ao fo :: wI cI cJ cZ a n ah pl ck ct nk pm ja rg bu pn tp st us fb kA tA lx ly gx gy gu gv) [.ref (a 0), .int r, .int j, .int f, .ref ao] (fun ov w' => ov = some (.int 1) ∧ w' = (oC cJ ao fo :: wI cI cJ cZ a n ah pl ck ct nk pm ja rg bu pn tp st us fb kA tA lx ly gx gy gu gv)) := by
  refine WRH.of (by decide) ?_
  intro p e s m below meth c A hadm hx hb hr hml hown hlocks htab hE hP hK hD hS hA hAe
  have hown : s.vm.findClass RL = some m.cls := hown
  have ht : tb_OK s := hE.1
  have hl := lv_entry ([.ref (a 0), .int r, .int j, .int f, .ref ao]) (n := 6) (Nat.le_of_ble_eq_true rfl)
  rw [lg_entry_eq]
  generalize (lg_sl ([.ref (a 0), .int r, .int j, .int f, .ref ao]) ++ List.replicate (6 - (lg_sl ([.ref (a 0), .int r, .int j, .int f, .ref ao])).length) Slot.unset).toArray = ls at hl ⊢
  have hl : lv_has ls 6 [(0, .ref (a 0)), (1, .int r), (2, .int j), (3, .int f), (4, .ref ao)] := hl
  refine lv_aload hx hb dL_survey_0 (lv_at hl 4 rfl) ?_
  refine lv_iconst (v := 0) hx hb dL_survey_2 (by decide) ?_
  refine lv_aload_n hx hb dL_survey_3 rfl (lv_at hl 0 rfl) ?_
  refine lv_iload_n hx hb dL_survey_4 rfl (lv_at hl 1 rfl) ?_
  refine lv_iload_n hx hb dL_survey_5 rfl (lv_at hl 2 rfl) ?_
  refine lv_iload_n hx hb dL_survey_6 rfl (lv_at hl 3 rfl) ?_
  refine x_callV (As := [.int r, .int j, .int f]) (rest := [.int 0, .ref ao]) (TH.frame (w := (oC cJ ao fo :: wI cI cJ cZ a n ah pl ck ct nk pm ja rg bu pn tp st us fb kA tA lx ly gx gy gu gv)) (t_X3_survey l hnt D cI cJ cZ a n ah pl ck ct nk pm ja rg bu pn tp st us fb kA tA lx ly gx gy gu gv r j f hh) [1, 2, 3, 4, 5, 6, 7, 8, 9, 10, 11, 12, 13, 14, 15, 16] rfl) (si_L_15 ht ⟨Nat.le_of_ble_eq_true rfl, Nat.le_of_ble_eq_true rfl⟩) hx hb hml hown (va_recv hK hP (ci := 4) (q0 := 1) rfl rfl) hE hP hK rfl hl.1 rfl (Nat.le_of_ble_eq_true rfl) ⟨Nat.le_of_ble_eq_true rfl, Nat.le_of_ble_eq_true rfl⟩ dL_survey_7 (fun q ce H1 hz1 hk1 hce hcl hcv => ?_)
  refine x_catch (own := RL) hown htab (by decide) (by decide) (cl_L_13 ht) (cast_x hcl) hce hcl hcv ?_
  refine lv_astore (lv' := [(5, .ref q), (0, .ref (a 0)), (1, .int r), (2, .int j), (3, .int f), (4, .ref ao)]) hx hb dL_survey_15 hl (by decide) rfl (fun ls hl => ?_)
  refine lv_iconst (v := 1) hx hb dL_survey_17 (by decide) ?_
  exact wr_i hx hb hr hlocks hAe (hP.kept (fun k x hx9 => hk1 x.1 ((hP k x hx9).lt))) hD ⟨hz1, fun q h1 _ => hk1 q h1, fun l hl9 => absurd hl9 List.not_mem_nil⟩ dL_survey_18 ⟨rfl, rfl⟩
set_option maxRecDepth 20000 in
set_option maxHeartbeats 4000000 in
theorem t_L_replace (l : Launch) (hnt : ∀ e : Env, l.admits e → e.platform.stackTraces = false) (D : va_G) (cI cJ cZ : ClassId) (a : Nat → Nat) (n : Nat) (ah pl ck ct nk pm ja rg bu pn : Int32) (tp st us fb kA tA : Nat → Int32) (lx ly gx gy gu gv : Nat → Int64) (ao : Nat) (fo : Nat → Int64) (r : Int32) (k : Int32)  (hh : f_X2_has r rg = 0) : WRH l yL_replace cL_replace 5 (some .int) [(0, 10, 13, 13)] 4 1 6 D (tysW cI cJ cZ) (oC cJ ao fo :: wI cI cJ cZ a n ah pl ck ct nk pm ja rg bu pn tp st us fb kA tA lx ly gx gy gu gv) [.ref (a 0), .int r, .int k, .ref ao] (fun ov w' => ov = some (.int 1) ∧ w' = (oC cJ ao fo :: wI cI cJ cZ a n ah pl ck ct nk pm ja rg bu pn tp st us fb kA tA lx ly gx gy gu gv)) := by
  refine WRH.of (by decide) ?_
  intro p e s m below meth c A hadm hx hb hr hml hown hlocks htab hE hP hK hD hS hA hAe
  have hown : s.vm.findClass RL = some m.cls := hown
  have ht : tb_OK s := hE.1
  have hl := lv_entry ([.ref (a 0), .int r, .int k, .ref ao]) (n := 5) (Nat.le_of_ble_eq_true rfl)
  rw [lg_entry_eq]
  generalize (lg_sl ([.ref (a 0), .int r, .int k, .ref ao]) ++ List.replicate (5 - (lg_sl ([.ref (a 0), .int r, .int k, .ref ao])).length) Slot.unset).toArray = ls at hl ⊢
  have hl : lv_has ls 5 [(0, .ref (a 0)), (1, .int r), (2, .int k), (3, .ref ao)] := hl
  refine lv_aload_n hx hb dL_replace_0 rfl (lv_at hl 3 rfl) ?_
  refine lv_iconst (v := 0) hx hb dL_replace_1 (by decide) ?_
  refine lv_aload_n hx hb dL_replace_2 rfl (lv_at hl 0 rfl) ?_
  refine lv_iload_n hx hb dL_replace_3 rfl (lv_at hl 1 rfl) ?_
  refine lv_iload_n hx hb dL_replace_4 rfl (lv_at hl 2 rfl) ?_
  refine x_callV (As := [.int r, .int k]) (rest := [.int 0, .ref ao]) (TH.frame (w := (oC cJ ao fo :: wI cI cJ cZ a n ah pl ck ct nk pm ja rg bu pn tp st us fb kA tA lx ly gx gy gu gv)) (t_X3_replace l hnt D cI cJ cZ a n ah pl ck ct nk pm ja rg bu pn tp st us fb kA tA lx ly gx gy gu gv r k hh) [1, 2, 3, 4, 5, 6, 7, 8, 9, 10, 11, 12, 13, 14, 15, 16] rfl) (si_L_18 ht ⟨Nat.le_of_ble_eq_true rfl, Nat.le_of_ble_eq_true rfl⟩) hx hb hml hown (va_recv hK hP (ci := 4) (q0 := 1) rfl rfl) hE hP hK rfl hl.1 rfl (Nat.le_of_ble_eq_true rfl) ⟨Nat.le_of_ble_eq_true rfl, Nat.le_of_ble_eq_true rfl⟩ dL_replace_5 (fun q ce H1 hz1 hk1 hce hcl hcv => ?_)
  refine x_catch (own := RL) hown htab (by decide) (by decide) (cl_L_13 ht) (cast_x hcl) hce hcl hcv ?_
  refine lv_astore (lv' := [(4, .ref q), (0, .ref (a 0)), (1, .int r), (2, .int k), (3, .ref ao)]) hx hb dL_replace_13 hl (by decide) rfl (fun ls hl => ?_)
  refine lv_iconst (v := 1) hx hb dL_replace_15 (by decide) ?_
  exact wr_i hx hb hr hlocks hAe (hP.kept (fun k x hx9 => hk1 x.1 ((hP k x hx9).lt))) hD ⟨hz1, fun q h1 _ => hk1 q h1, fun l hl9 => absurd hl9 List.not_mem_nil⟩ dL_replace_16 ⟨rfl, rfl⟩
set_option maxRecDepth 20000 in
set_option maxHeartbeats 4000000 in
theorem t_L_place (l : Launch) (hnt : ∀ e : Env, l.admits e → e.platform.stackTraces = false) (D : va_G) (cI cJ cZ : ClassId) (a : Nat → Nat) (n : Nat) (ah pl ck ct nk pm ja rg bu pn : Int32) (tp st us fb kA tA : Nat → Int32) (lx ly gx gy gu gv : Nat → Int64) (ao : Nat) (fo : Nat → Int64) (r : Int32) (k : Int32)  (hh : f_X2_stands r bu pn = 0) : WRH l yL_place cL_place 5 (some .int) [(0, 9, 12, 13)] 4 1 6 D (tysW cI cJ cZ) (oC cJ ao fo :: wI cI cJ cZ a n ah pl ck ct nk pm ja rg bu pn tp st us fb kA tA lx ly gx gy gu gv) [.ref (a 0), .int r, .int k, .ref ao] (fun ov w' => ov = some (.int 1) ∧ w' = (oC cJ ao fo :: wI cI cJ cZ a n ah pl ck ct nk pm ja rg bu pn tp st us fb kA tA lx ly gx gy gu gv)) := by
  refine WRH.of (by decide) ?_
  intro p e s m below meth c A hadm hx hb hr hml hown hlocks htab hE hP hK hD hS hA hAe
  have hown : s.vm.findClass RL = some m.cls := hown
  have ht : tb_OK s := hE.1
  have hl := lv_entry ([.ref (a 0), .int r, .int k, .ref ao]) (n := 5) (Nat.le_of_ble_eq_true rfl)
  rw [lg_entry_eq]
  generalize (lg_sl ([.ref (a 0), .int r, .int k, .ref ao]) ++ List.replicate (5 - (lg_sl ([.ref (a 0), .int r, .int k, .ref ao])).length) Slot.unset).toArray = ls at hl ⊢
  have hl : lv_has ls 5 [(0, .ref (a 0)), (1, .int r), (2, .int k), (3, .ref ao)] := hl
  refine lv_aload_n hx hb dL_place_0 rfl (lv_at hl 3 rfl) ?_
  refine lv_iconst (v := 0) hx hb dL_place_1 (by decide) ?_
  refine lv_aload_n hx hb dL_place_2 rfl (lv_at hl 0 rfl) ?_
  refine lv_iload_n hx hb dL_place_3 rfl (lv_at hl 1 rfl) ?_
  refine lv_iload_n hx hb dL_place_4 rfl (lv_at hl 2 rfl) ?_
  refine x_callV (As := [.int r, .int k]) (rest := [.int 0, .ref ao]) (TH.frame (w := (oC cJ ao fo :: wI cI cJ cZ a n ah pl ck ct nk pm ja rg bu pn tp st us fb kA tA lx ly gx gy gu gv)) (t_X3_place l hnt D cI cJ cZ a n ah pl ck ct nk pm ja rg bu pn tp st us fb kA tA lx ly gx gy gu gv r k hh) [1, 2, 3, 4, 5, 6, 7, 8, 9, 10, 11, 12, 13, 14, 15, 16] rfl) (si_L_22 ht ⟨Nat.le_of_ble_eq_true rfl, Nat.le_of_ble_eq_true rfl⟩) hx hb hml hown (va_recv hK hP (ci := 4) (q0 := 1) rfl rfl) hE hP hK rfl hl.1 rfl (Nat.le_of_ble_eq_true rfl) ⟨Nat.le_of_ble_eq_true rfl, Nat.le_of_ble_eq_true rfl⟩ dL_place_5 (fun q ce H1 hz1 hk1 hce hcl hcv => ?_)
  refine x_catch (own := RL) hown htab (by decide) (by decide) (cl_L_13 ht) (cast_x hcl) hce hcl hcv ?_
  refine lv_astore (lv' := [(4, .ref q), (0, .ref (a 0)), (1, .int r), (2, .int k), (3, .ref ao)]) hx hb dL_place_12 hl (by decide) rfl (fun ls hl => ?_)
  refine lv_iconst (v := 1) hx hb dL_place_14 (by decide) ?_
  exact wr_i hx hb hr hlocks hAe (hP.kept (fun k x hx9 => hk1 x.1 ((hP k x hx9).lt))) hD ⟨hz1, fun q h1 _ => hk1 q h1, fun l hl9 => absurd hl9 List.not_mem_nil⟩ dL_place_15 ⟨rfl, rfl⟩
set_option maxRecDepth 20000 in
set_option maxHeartbeats 4000000 in
theorem t_L_off (l : Launch) (hnt : ∀ e : Env, l.admits e → e.platform.stackTraces = false) (D : va_G) (cI cJ cZ : ClassId) (a : Nat → Nat) (n : Nat) (ah pl ck ct nk pm ja rg bu pn : Int32) (tp st us fb kA tA : Nat → Int32) (lx ly gx gy gu gv : Nat → Int64) (ao : Nat) (fo : Nat → Int64) (r : Int32)  (hh : f_X2_stands r bu pn = 0) : WRH l yL_off cL_off 4 (some .int) [(0, 8, 11, 13)] 4 1 6 D (tysW cI cJ cZ) (oC cJ ao fo :: wI cI cJ cZ a n ah pl ck ct nk pm ja rg bu pn tp st us fb kA tA lx ly gx gy gu gv) [.ref (a 0), .int r, .ref ao] (fun ov w' => ov = some (.int 1) ∧ w' = (oC cJ ao fo :: wI cI cJ cZ a n ah pl ck ct nk pm ja rg bu pn tp st us fb kA tA lx ly gx gy gu gv)) := by
  refine WRH.of (by decide) ?_
  intro p e s m below meth c A hadm hx hb hr hml hown hlocks htab hE hP hK hD hS hA hAe
  have hown : s.vm.findClass RL = some m.cls := hown
  have ht : tb_OK s := hE.1
  have hl := lv_entry ([.ref (a 0), .int r, .ref ao]) (n := 4) (Nat.le_of_ble_eq_true rfl)
  rw [lg_entry_eq]
  generalize (lg_sl ([.ref (a 0), .int r, .ref ao]) ++ List.replicate (4 - (lg_sl ([.ref (a 0), .int r, .ref ao])).length) Slot.unset).toArray = ls at hl ⊢
  have hl : lv_has ls 4 [(0, .ref (a 0)), (1, .int r), (2, .ref ao)] := hl
  refine lv_aload_n hx hb dL_off_0 rfl (lv_at hl 2 rfl) ?_
  refine lv_iconst (v := 0) hx hb dL_off_1 (by decide) ?_
  refine lv_aload_n hx hb dL_off_2 rfl (lv_at hl 0 rfl) ?_
  refine lv_iload_n hx hb dL_off_3 rfl (lv_at hl 1 rfl) ?_
  refine x_callV (As := [.int r]) (rest := [.int 0, .ref ao]) (TH.frame (w := (oC cJ ao fo :: wI cI cJ cZ a n ah pl ck ct nk pm ja rg bu pn tp st us fb kA tA lx ly gx gy gu gv)) (t_X3_off l hnt D cI cJ cZ a n ah pl ck ct nk pm ja rg bu pn tp st us fb kA tA lx ly gx gy gu gv r hh) [1, 2, 3, 4, 5, 6, 7, 8, 9, 10, 11, 12, 13, 14, 15, 16] rfl) (si_L_26 ht ⟨Nat.le_of_ble_eq_true rfl, Nat.le_of_ble_eq_true rfl⟩) hx hb hml hown (va_recv hK hP (ci := 4) (q0 := 1) rfl rfl) hE hP hK rfl hl.1 rfl (Nat.le_of_ble_eq_true rfl) ⟨Nat.le_of_ble_eq_true rfl, Nat.le_of_ble_eq_true rfl⟩ dL_off_4 (fun q ce H1 hz1 hk1 hce hcl hcv => ?_)
  refine x_catch (own := RL) hown htab (by decide) (by decide) (cl_L_13 ht) (cast_x hcl) hce hcl hcv ?_
  refine lv_astore_n (lv' := [(3, .ref q), (0, .ref (a 0)), (1, .int r), (2, .ref ao)]) hx hb dL_off_11 rfl hl (by decide) rfl (fun ls hl => ?_)
  refine lv_iconst (v := 1) hx hb dL_off_12 (by decide) ?_
  exact wr_i hx hb hr hlocks hAe (hP.kept (fun k x hx9 => hk1 x.1 ((hP k x hx9).lt))) hD ⟨hz1, fun q h1 _ => hk1 q h1, fun l hl9 => absurd hl9 List.not_mem_nil⟩ dL_off_13 ⟨rfl, rfl⟩
set_option maxRecDepth 20000 in
set_option maxHeartbeats 4000000 in
theorem t_L_placeA (l : Launch) (hnt : ∀ e : Env, l.admits e → e.platform.stackTraces = false) (D : va_G) (cI cJ cZ : ClassId) (a : Nat → Nat) (n : Nat) (ah pl ck ct nk pm ja rg bu pn : Int32) (tp st us fb kA tA : Nat → Int32) (lx ly gx gy gu gv : Nat → Int64) (ao : Nat) (fo : Nat → Int64) (r : Int32) (k : Int32)  (hh : ¬ f_X2_stands r bu pn = 0) (hk : ¬ k = 0 ∧ ¬ k = 1 ∧ ¬ k = 2 ∧ ¬ k = 3) : WRH l yL_place cL_place 5 (some .int) [(0, 9, 12, 13)] 4 1 6 D (tysW cI cJ cZ) (oC cJ ao fo :: wI cI cJ cZ a n ah pl ck ct nk pm ja rg bu pn tp st us fb kA tA lx ly gx gy gu gv) [.ref (a 0), .int r, .int k, .ref ao] (fun ov w' => ov = some (.int 1) ∧ w' = (oC cJ ao fo :: wI cI cJ cZ a n ah pl ck ct nk pm ja rg bu pn tp st us fb kA tA lx ly gx gy gu gv)) := by
  refine WRH.of (by decide) ?_
  intro p e s m below meth c A hadm hx hb hr hml hown hlocks htab hE hP hK hD hS hA hAe
  have hown : s.vm.findClass RL = some m.cls := hown
  have ht : tb_OK s := hE.1
  have hl := lv_entry ([.ref (a 0), .int r, .int k, .ref ao]) (n := 5) (Nat.le_of_ble_eq_true rfl)
  rw [lg_entry_eq]
  generalize (lg_sl ([.ref (a 0), .int r, .int k, .ref ao]) ++ List.replicate (5 - (lg_sl ([.ref (a 0), .int r, .int k, .ref ao])).length) Slot.unset).toArray = ls at hl ⊢
  have hl : lv_has ls 5 [(0, .ref (a 0)), (1, .int r), (2, .int k), (3, .ref ao)] := hl
  refine lv_aload_n hx hb dL_place_0 rfl (lv_at hl 3 rfl) ?_
  refine lv_iconst (v := 0) hx hb dL_place_1 (by decide) ?_
  refine lv_aload_n hx hb dL_place_2 rfl (lv_at hl 0 rfl) ?_
  refine lv_iload_n hx hb dL_place_3 rfl (lv_at hl 1 rfl) ?_
  refine lv_iload_n hx hb dL_place_4 rfl (lv_at hl 2 rfl) ?_
  refine x_callV (As := [.int r, .int k]) (rest := [.int 0, .ref ao]) (TH.frame (w := (oC cJ ao fo :: wI cI cJ cZ a n ah pl ck ct nk pm ja rg bu pn tp st us fb kA tA lx ly gx gy gu gv)) (t_X3_placeA l hnt D cI cJ cZ a n ah pl ck ct nk pm ja rg bu pn tp st us fb kA tA lx ly gx gy gu gv r k hh hk) [1, 2, 3, 4, 5, 6, 7, 8, 9, 10, 11, 12, 13, 14, 15, 16] rfl) (si_L_22 ht ⟨Nat.le_of_ble_eq_true rfl, Nat.le_of_ble_eq_true rfl⟩) hx hb hml hown (va_recv hK hP (ci := 4) (q0 := 1) rfl rfl) hE hP hK rfl hl.1 rfl (Nat.le_of_ble_eq_true rfl) ⟨Nat.le_of_ble_eq_true rfl, Nat.le_of_ble_eq_true rfl⟩ dL_place_5 (fun q ce H1 hz1 hk1 hce hcl hcv => ?_)
  refine x_catch (own := RL) hown htab (by decide) (by decide) (cl_L_13 ht) (cast_x hcl) hce hcl hcv ?_
  refine lv_astore (lv' := [(4, .ref q), (0, .ref (a 0)), (1, .int r), (2, .int k), (3, .ref ao)]) hx hb dL_place_12 hl (by decide) rfl (fun ls hl => ?_)
  refine lv_iconst (v := 1) hx hb dL_place_14 (by decide) ?_
  exact wr_i hx hb hr hlocks hAe (hP.kept (fun k x hx9 => hk1 x.1 ((hP k x hx9).lt))) hD ⟨hz1, fun q h1 _ => hk1 q h1, fun l hl9 => absurd hl9 List.not_mem_nil⟩ dL_place_15 ⟨rfl, rfl⟩
set_option maxRecDepth 20000 in
set_option maxHeartbeats 4000000 in
theorem t_L_count (l : Launch) (hnt : ∀ e : Env, l.admits e → e.platform.stackTraces = false) (D : va_G) (cI cJ cZ : ClassId) (a : Nat → Nat) (n : Nat) (ah pl ck ct nk pm ja rg bu pn : Int32) (tp st us fb kA tA : Nat → Int32) (lx ly gx gy gu gv : Nat → Int64) (ao : Nat) (fo : Nat → Int64) (k : Int32)  (hk : ¬ k = 0 ∧ ¬ k = 1 ∧ ¬ k = 2 ∧ ¬ k = 3 ∧ ¬ k = 4 ∧ ¬ k = 5 ∧ ¬ k = 6 ∧ ¬ k = 7) : WRH l yL_count cL_count 4 (some .int) [(0, 9, 12, 13)] 4 1 6 D (tysW cI cJ cZ) (oC cJ ao fo :: wI cI cJ cZ a n ah pl ck ct nk pm ja rg bu pn tp st us fb kA tA lx ly gx gy gu gv) [.ref (a 0), .int k, .ref ao] (fun ov w' => ov = some (.int 1) ∧ w' = (oC cJ ao fo :: wI cI cJ cZ a n ah pl ck ct nk pm ja rg bu pn tp st us fb kA tA lx ly gx gy gu gv)) := by
  refine WRH.of (by decide) ?_
  intro p e s m below meth c A hadm hx hb hr hml hown hlocks htab hE hP hK hD hS hA hAe
  have hown : s.vm.findClass RL = some m.cls := hown
  have ht : tb_OK s := hE.1
  have hl := lv_entry ([.ref (a 0), .int k, .ref ao]) (n := 4) (Nat.le_of_ble_eq_true rfl)
  rw [lg_entry_eq]
  generalize (lg_sl ([.ref (a 0), .int k, .ref ao]) ++ List.replicate (4 - (lg_sl ([.ref (a 0), .int k, .ref ao])).length) Slot.unset).toArray = ls at hl ⊢
  have hl : lv_has ls 4 [(0, .ref (a 0)), (1, .int k), (2, .ref ao)] := hl
  refine lv_aload_n hx hb dL_count_0 rfl (lv_at hl 2 rfl) ?_
  refine lv_iconst (v := 0) hx hb dL_count_1 (by decide) ?_
  refine lv_aload_n hx hb dL_count_2 rfl (lv_at hl 0 rfl) ?_
  refine lv_iload_n hx hb dL_count_3 rfl (lv_at hl 1 rfl) ?_
  refine x_callV (As := [.int k]) (rest := [.int 0, .ref ao]) (TH.frame (w := (oC cJ ao fo :: wI cI cJ cZ a n ah pl ck ct nk pm ja rg bu pn tp st us fb kA tA lx ly gx gy gu gv)) (t_X3_count l hnt D cI cJ cZ a n ah pl ck ct nk pm ja rg bu pn tp st us fb kA tA lx ly gx gy gu gv k hk) [1, 2, 3, 4, 5, 6, 7, 8, 9, 10, 11, 12, 13, 14, 15, 16] rfl) (si_L_30 ht ⟨Nat.le_of_ble_eq_true rfl, Nat.le_of_ble_eq_true rfl⟩) hx hb hml hown (va_recv hK hP (ci := 4) (q0 := 1) rfl rfl) hE hP hK rfl hl.1 rfl (Nat.le_of_ble_eq_true rfl) ⟨Nat.le_of_ble_eq_true rfl, Nat.le_of_ble_eq_true rfl⟩ dL_count_4 (fun q ce H1 hz1 hk1 hce hcl hcv => ?_)
  refine x_catch (own := RL) hown htab (by decide) (by decide) (cl_L_13 ht) (cast_x hcl) hce hcl hcv ?_
  refine lv_astore_n (lv' := [(3, .ref q), (0, .ref (a 0)), (1, .int k), (2, .ref ao)]) hx hb dL_count_12 rfl hl (by decide) rfl (fun ls hl => ?_)
  refine lv_iconst (v := 1) hx hb dL_count_13 (by decide) ?_
  exact wr_i hx hb hr hlocks hAe (hP.kept (fun k x hx9 => hk1 x.1 ((hP k x hx9).lt))) hD ⟨hz1, fun q h1 _ => hk1 q h1, fun l hl9 => absurd hl9 List.not_mem_nil⟩ dL_count_14 ⟨rfl, rfl⟩
