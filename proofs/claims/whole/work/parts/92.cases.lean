set_option maxRecDepth 20000 in
set_option maxHeartbeats 4000000 in
theorem cs_off {p : Program} {e : Env} {s : State} {m : MethodId} {below : List Frame} {meth : Method} {c : Code} (l : Launch) (hnt : ∀ e : Env, l.admits e → e.platform.stackTraces = false) {sb L : Nat} {xs : Nat → Int32} {D : va_G} {cI cJ cZ : ClassId} {A : Nat → Prop} {Q : State → Prop} (hC : LX p s m c sb L xs D cI cJ cZ A) {X : Int} (hX5 : 0 ≤ X ∧ X ≤ 60000000) {a am : Nat → Nat} {ao n iN : Nat} (hi : iN + 4 ≤ L) {w : va_W} (hw : LI X cI cJ cZ a am ao n w) {ls : Array Slot} (hl : lv_has ls 8 [(4, .int (nI iN)), (3, .ref ao), (2, .ref (am 0)), (1, .ref (a 0)), (0, .ref sb)]) {H : Heap} {locs : List Loc} (hP : va_P D vwCl w H) (hD : va_D A w) (hS : va_S A s.heap H locs) {cells slots : Nat} (hc : cells + 1 ≤ 653990) (hs : slots + 6 ≤ 7134099)
    (kk : ∀ (w' : va_W) (H' : Heap) (locs' : List Loc) (ls' : Array Slot), LI (X + 100000) cI cJ cZ a am ao n w' → va_P D vwCl w' H' → va_D A w' → va_S A s.heap H' locs' → lv_has ls' 8 [(4, .int (nI iN)), (3, .ref ao), (2, .ref (am 0)), (1, .ref (a 0)), (0, .ref sb)] → W p l e room_1 s m #[.ref sb] below meth c H' locs' (cells + 1) (slots + 6) Q (F0 m 953 ls' [])) : W p l e room_1 s m #[.ref sb] below meth c H locs cells slots Q (F0 m 729 ls []) := by
  obtain ⟨hx, hb, hml, hown, hX, hbl, hbA, hE, hK, hA, hL⟩ := hC
  have ht : tb_OK s := hE.1
  obtain ⟨B, S, K, ah, pl, ck, ct, pm, ja, tp, st, us, fb, kA, tA, lx, ly, gx, gy, gu, gv, fo, fa, bl, bs, bk, be, al, mx, my, kd, ky, ix, iy, iu, iv, hR, rfl⟩ := hw
  obtain ⟨⟨hn1, hn, hBS, hSn, hK4⟩, hah, hja, ⟨hAL, hpm⟩, hLN, hTP, hPR⟩ := id hR
  have gS := st_eq hBS
  by_cases hh : f_X2_stands (xs (iN + 1)) (nI B) (nI (S - B)) = 0
  · skip
    have ef := r_offT hh
    refine lv_aload_n hx hb dL_law_729 rfl (lv_at hl 3 rfl) ?_
    refine lv_aload_n hx hb dL_law_730 rfl (lv_at hl 4 rfl) ?_
    refine lv_iload hx hb dL_law_731 (lv_at hl 0 rfl) ?_
    refine lv_iconst (v := 1) hx hb dL_law_733 (by decide) ?_
    refine lv_iadd hx hb dL_law_734 ?_
    refine va_sld hx hb hX hbl hbA hS (in_of (sc_1 iN) (by omega) (by omega)) dL_law_735 ?_
    refine W.st (st1 := [.int (xs (iN + 1)), .ref (a 0)]) (by rw [cl_of (sc_1 iN) (by omega)]) ?_
    refine lv_aload_n hx hb dL_law_736 rfl (lv_at hl 1 rfl) ?_
    refine cwr2 (rest := []) (runSH (n := 3) (As := [.ref (a 0), .int (xs (iN + 1)), .ref ao]) (rest := []) (WRH.frame (w := (oC cJ ao fo :: (wI cI cJ cZ a n ah pl ck ct (nI K) pm ja (nI n) (nI B) (nI (S - B)) tp st us fb kA tA lx ly gx gy gu gv ++ wM cI cJ cZ am fa (nI n) (nI B) (nI (S - B)) pl ja ah (nI K) bl bs bk be al tp st mx my kd ky ix iy iu iv))) (wr := wM cI cJ cZ am fa (nI n) (nI B) (nI (S - B)) pl ja ah (nI K) bl bs bk be al tp st mx my kd ky ix iy iu iv) (t_L_off l hnt D cI cJ cZ a n ah pl ck ct (nI K) pm ja (nI n) (nI B) (nI (S - B)) tp st us fb kA tA lx ly gx gy gu gv ao fo ((xs (iN + 1))) hh) [0, 1, 2, 3, 4, 5, 6, 7, 8, 9, 10, 11, 12, 13, 14, 15, 16] [17, 18, 19, 20, 21, 22, 23, 24, 25, 26, 27, 28] rfl rfl (by decide) (by decide) (by decide)) ht (fun U a h => cw_L_off h) (fun U a h => ini_L h) (ml_L_105 ht) (sm_L_off ht) ⟨by decide +kernel, by decide +kernel, by decide +kernel⟩ ⟨Nat.le_of_ble_eq_true rfl, Nat.le_of_ble_eq_true rfl⟩ hx hb hml hown hE hP hK hD hS hA rfl hl.1 rfl (Nat.le_of_ble_eq_true rfl) ⟨by show _ ≤ 653990; omega, by show _ ≤ 7134099; omega⟩ dL_law_737) hD hS hA (fun ov w' H locs hpost hP hD hS => ?_)
    obtain ⟨w1, ⟨rfl, rfl⟩, rfl⟩ := hpost
    refine W.st (st1 := [.int 1]) rfl ?_
    have hP : va_P D vwCl (wM cI cJ cZ am fa (nI n) (nI B) (nI (S - B)) pl ja ah (nI K) bl bs bk be al tp st mx my kd ky ix iy iu iv ++ (oC cJ ao fo :: wI cI cJ cZ a n ah pl ck ct (nI K) pm ja (nI n) (nI B) (nI (S - B)) tp st us fb kA tA lx ly gx gy gu gv)) H := hP
    have hD : va_D A (wM cI cJ cZ am fa (nI n) (nI B) (nI (S - B)) pl ja ah (nI K) bl bs bk be al tp st mx my kd ky ix iy iu iv ++ (oC cJ ao fo :: wI cI cJ cZ a n ah pl ck ct (nI K) pm ja (nI n) (nI B) (nI (S - B)) tp st us fb kA tA lx ly gx gy gu gv)) := hD
    refine lv_istore (lv' := [(5, .int 1), (4, .int (nI iN)), (3, .ref ao), (2, .ref (am 0)), (1, .ref (a 0)), (0, .ref sb)]) hx hb dL_law_740 hl (by decide) rfl (fun ls hl => ?_)
    refine lv_aload_n hx hb dL_law_742 rfl (lv_at hl 3 rfl) ?_
    refine lv_aload_n hx hb dL_law_743 rfl (lv_at hl 5 rfl) ?_
    refine lv_iload hx hb dL_law_744 (lv_at hl 1 rfl) ?_
    refine lv_iconst (v := 1) hx hb dL_law_746 (by decide) ?_
    refine lv_iadd hx hb dL_law_747 ?_
    refine va_sld hx hb hX hbl hbA hS (in_of (sc_1 iN) (by omega) (by omega)) dL_law_748 ?_
    refine W.st (st1 := [.int (xs (iN + 1)), .ref (am 0)]) (by rw [cl_of (sc_1 iN) (by omega)]) ?_
    refine wrV (As := [.int (xs (iN + 1))]) (rest := []) (WR.frame (w := (wM cI cJ cZ am fa (nI n) (nI B) (nI (S - B)) pl ja ah (nI K) bl bs bk be al tp st mx my kd ky ix iy iu iv ++ (oC cJ ao fo :: wI cI cJ cZ a n ah pl ck ct (nI K) pm ja (nI n) (nI B) (nI (S - B)) tp st us fb kA tA lx ly gx gy gu gv))) (wr := (oC cJ ao fo :: wI cI cJ cZ a n ah pl ck ct (nI K) pm ja (nI n) (nI B) (nI (S - B)) tp st us fb kA tA lx ly gx gy gu gv)) (k_X4_off l D cI cJ cZ am fa (nI n) (nI B) (nI (S - B)) pl ja ah (nI K) bl bs bk be al tp st mx my kd ky ix iy iu iv ((xs (iN + 1))) (fun h => (q_st hBS hSn hn h).2.1)) [0, 1, 2, 3, 4, 5, 6, 7, 8, 9, 10, 11] [12, 13, 14, 15, 16, 17, 18, 19, 20, 21, 22, 23, 24, 25, 26, 27, 28] rfl rfl (by decide) (by decide) (by decide)) (si_L_108 ht ⟨Nat.le_of_ble_eq_true rfl, Nat.le_of_ble_eq_true rfl⟩) hx hb hml hown (va_recv hK hP (ci := 5) (q0 := 0) rfl rfl) hE hP hK hD hS hA rfl hl.1 rfl (Nat.le_of_ble_eq_true rfl) ⟨by show _ ≤ 653990; omega, by show _ ≤ 7134099; omega⟩ dL_law_749 (fun ov w' H locs hpost hP hD hS => ?_)
    obtain ⟨w1, ⟨rfl, rfl⟩, rfl⟩ := hpost
    refine W.st (st1 := [.long (f_X4_off ((xs (iN + 1))) (nI B) (nI (S - B)) mx my ix iy)]) rfl ?_
    have hP : va_P D vwCl (oC cJ ao fo :: (wI cI cJ cZ a n ah pl ck ct (nI K) pm ja (nI n) (nI B) (nI (S - B)) tp st us fb kA tA lx ly gx gy gu gv ++ wM cI cJ cZ am (f_X4_off_fa ((xs (iN + 1))) (nI B) (nI (S - B))) (nI n) (nI B) (nI (S - B)) pl ja ah (nI K) bl bs bk be al tp st mx my kd ky ix iy iu iv)) H := hP
    have hD : va_D A (oC cJ ao fo :: (wI cI cJ cZ a n ah pl ck ct (nI K) pm ja (nI n) (nI B) (nI (S - B)) tp st us fb kA tA lx ly gx gy gu gv ++ wM cI cJ cZ am (f_X4_off_fa ((xs (iN + 1))) (nI B) (nI (S - B))) (nI n) (nI B) (nI (S - B)) pl ja ah (nI K) bl bs bk be al tp st mx my kd ky ix iy iu iv)) := hD
    refine lv_lstore (lv' := [(6, .long (f_X4_off ((xs (iN + 1))) (nI B) (nI (S - B)) mx my ix iy)), (5, .int 1), (4, .int (nI iN)), (3, .ref ao), (2, .ref (am 0)), (1, .ref (a 0)), (0, .ref sb)]) hx hb dL_law_752 hl (by decide) rfl (fun ls hl => ?_)
    refine lv_aload_n hx hb dL_law_754 rfl (lv_at hl 4 rfl) ?_
    refine rdV (As := []) (rest := []) (st1 := [.int (f_X4_thrown (f_X4_off_fa ((xs (iN + 1))) (nI B) (nI (S - B))))]) (RD.frame (w := (oC cJ ao fo :: (wI cI cJ cZ a n ah pl ck ct (nI K) pm ja (nI n) (nI B) (nI (S - B)) tp st us fb kA tA lx ly gx gy gu gv ++ wM cI cJ cZ am (f_X4_off_fa ((xs (iN + 1))) (nI B) (nI (S - B))) (nI n) (nI B) (nI (S - B)) pl ja ah (nI K) bl bs bk be al tp st mx my kd ky ix iy iu iv))) (k_X4_thrown l D cI cJ cZ am (f_X4_off_fa ((xs (iN + 1))) (nI B) (nI (S - B))) (nI n) (nI B) (nI (S - B)) pl ja ah (nI K) bl bs bk be al tp st mx my kd ky ix iy iu iv) [17, 18, 19, 20, 21, 22, 23, 24, 25, 26, 27, 28] rfl) (si_L_58 ht ⟨Nat.le_of_ble_eq_true rfl, Nat.le_of_ble_eq_true rfl⟩) hx hb hml hown (va_recv hK hP (ci := 5) (q0 := 17) rfl rfl) (hE.since hS) hP hK rfl hl.1 rfl (Nat.le_of_ble_eq_true rfl) ⟨by show _ ≤ 653990; omega, by show _ ≤ 7134099; omega⟩ dL_law_755 rfl ?_
    refine lv_iload hx hb dL_law_758 (lv_at hl 1 rfl) ?_
    refine lv_icmp_eq (tgt := 765) hx hb dL_law_760 (by decide) (fun _ => ?_) (fun c => absurd ef c)
    refine lv_iload hx hb dL_law_765 (lv_at hl 1 rfl) ?_
    refine lv_if_ne (tgt := 781) hx hb dL_law_767 (by decide) (fun _ => ?_) (fun c => absurd c (by decide))
    refine lv_goto (tgt := 953) hx hb dL_law_781 (by decide) ?_
    have hP : va_P D vwCl (oC cJ ao fo :: (wI cI cJ cZ a n ah pl ck ct (nI K) pm ja (nI n) (nI B) (nI (S - B)) tp st us fb kA tA lx ly gx gy gu gv ++ wM cI cJ cZ am (f_X4_off_fa ((xs (iN + 1))) (nI B) (nI (S - B))) (nI n) (nI B) (nI (S - B)) pl ja ah (nI K) bl bs bk be al tp st mx my kd ky ix iy iu iv)) H := hP
    have hD : va_D A (oC cJ ao fo :: (wI cI cJ cZ a n ah pl ck ct (nI K) pm ja (nI n) (nI B) (nI (S - B)) tp st us fb kA tA lx ly gx gy gu gv ++ wM cI cJ cZ am (f_X4_off_fa ((xs (iN + 1))) (nI B) (nI (S - B))) (nI n) (nI B) (nI (S - B)) pl ja ah (nI K) bl bs bk be al tp st mx my kd ky ix iy iu iv)) := hD
    refine W.widen (k := cells + 1) (n := slots + 6) (by omega) (by omega) ?_
    exact kk (oC cJ ao fo :: (wI cI cJ cZ a n ah pl ck ct (nI K) pm ja (nI n) (nI B) (nI (S - B)) tp st us fb kA tA lx ly gx gy gu gv ++ wM cI cJ cZ am (f_X4_off_fa ((xs (iN + 1))) (nI B) (nI (S - B))) (nI n) (nI B) (nI (S - B)) pl ja ah (nI K) bl bs bk be al tp st mx my kd ky ix iy iu iv)) H _ ls ⟨_, _, _, _, _, _, _, _, _, _, _, _, _, _, _, _, _, _, _, _, _, _, _, _, _, _, _, _, _, _, _, _, _, _, _, _, (RE_X (by omega) hR), rfl⟩ hP hD hS (lv_sub hl [2, 3, 4, 5, 6] rfl)
  · skip
    obtain ⟨ef, ea⟩ := r_off hR hh
    refine lv_aload_n hx hb dL_law_729 rfl (lv_at hl 3 rfl) ?_
    refine lv_aload_n hx hb dL_law_730 rfl (lv_at hl 4 rfl) ?_
    refine lv_iload hx hb dL_law_731 (lv_at hl 0 rfl) ?_
    refine lv_iconst (v := 1) hx hb dL_law_733 (by decide) ?_
    refine lv_iadd hx hb dL_law_734 ?_
    refine va_sld hx hb hX hbl hbA hS (in_of (sc_1 iN) (by omega) (by omega)) dL_law_735 ?_
    refine W.st (st1 := [.int (xs (iN + 1)), .ref (a 0)]) (by rw [cl_of (sc_1 iN) (by omega)]) ?_
    refine lv_aload_n hx hb dL_law_736 rfl (lv_at hl 1 rfl) ?_
    refine cwr2 (rest := []) (runSH (n := 3) (As := [.ref (a 0), .int (xs (iN + 1)), .ref ao]) (rest := []) (WRH.frame (w := (oC cJ ao fo :: (wI cI cJ cZ a n ah pl ck ct (nI K) pm ja (nI n) (nI B) (nI (S - B)) tp st us fb kA tA lx ly gx gy gu gv ++ wM cI cJ cZ am fa (nI n) (nI B) (nI (S - B)) pl ja ah (nI K) bl bs bk be al tp st mx my kd ky ix iy iu iv))) (wr := wM cI cJ cZ am fa (nI n) (nI B) (nI (S - B)) pl ja ah (nI K) bl bs bk be al tp st mx my kd ky ix iy iu iv) (k_L_off l D cI cJ cZ a n ah pl ck ct (nI K) pm ja (nI n) (nI B) (nI (S - B)) tp st us fb kA tA lx ly gx gy gu gv ao fo ((xs (iN + 1))) hh (q_st hBS hSn hn hh).1 (q_st hBS hSn hn hh).2.2) [0, 1, 2, 3, 4, 5, 6, 7, 8, 9, 10, 11, 12, 13, 14, 15, 16] [17, 18, 19, 20, 21, 22, 23, 24, 25, 26, 27, 28] rfl rfl (by decide) (by decide) (by decide)) ht (fun U a h => cw_L_off h) (fun U a h => ini_L h) (ml_L_105 ht) (sm_L_off ht) ⟨by decide +kernel, by decide +kernel, by decide +kernel⟩ ⟨Nat.le_of_ble_eq_true rfl, Nat.le_of_ble_eq_true rfl⟩ hx hb hml hown hE hP hK hD hS hA rfl hl.1 rfl (Nat.le_of_ble_eq_true rfl) ⟨by show _ ≤ 653990; omega, by show _ ≤ 7134099; omega⟩ dL_law_737) hD hS hA (fun ov w' H locs hpost hP hD hS => ?_)
    obtain ⟨w1, ⟨rfl, rfl⟩, rfl⟩ := hpost
    refine W.st (st1 := [.int 0]) rfl ?_
    have hP : va_P D vwCl (wM cI cJ cZ am fa (nI n) (nI B) (nI (S - B)) pl ja ah (nI K) bl bs bk be al tp st mx my kd ky ix iy iu iv ++ (oC cJ ao (vp_updL fo 0 (f_X3_off ((xs (iN + 1))) lx ly gx gy)) :: wI cI cJ cZ a n ah pl ck ct (nI K) pm ja (nI n) (nI B) (nI (S - B)) tp st us fb kA tA lx ly gx gy gu gv)) H := hP
    have hD : va_D A (wM cI cJ cZ am fa (nI n) (nI B) (nI (S - B)) pl ja ah (nI K) bl bs bk be al tp st mx my kd ky ix iy iu iv ++ (oC cJ ao (vp_updL fo 0 (f_X3_off ((xs (iN + 1))) lx ly gx gy)) :: wI cI cJ cZ a n ah pl ck ct (nI K) pm ja (nI n) (nI B) (nI (S - B)) tp st us fb kA tA lx ly gx gy gu gv)) := hD
    refine lv_istore (lv' := [(5, .int 0), (4, .int (nI iN)), (3, .ref ao), (2, .ref (am 0)), (1, .ref (a 0)), (0, .ref sb)]) hx hb dL_law_740 hl (by decide) rfl (fun ls hl => ?_)
    refine lv_aload_n hx hb dL_law_742 rfl (lv_at hl 3 rfl) ?_
    refine lv_aload_n hx hb dL_law_743 rfl (lv_at hl 5 rfl) ?_
    refine lv_iload hx hb dL_law_744 (lv_at hl 1 rfl) ?_
    refine lv_iconst (v := 1) hx hb dL_law_746 (by decide) ?_
    refine lv_iadd hx hb dL_law_747 ?_
    refine va_sld hx hb hX hbl hbA hS (in_of (sc_1 iN) (by omega) (by omega)) dL_law_748 ?_
    refine W.st (st1 := [.int (xs (iN + 1)), .ref (am 0)]) (by rw [cl_of (sc_1 iN) (by omega)]) ?_
    refine wrV (As := [.int (xs (iN + 1))]) (rest := []) (WR.frame (w := (wM cI cJ cZ am fa (nI n) (nI B) (nI (S - B)) pl ja ah (nI K) bl bs bk be al tp st mx my kd ky ix iy iu iv ++ (oC cJ ao (vp_updL fo 0 (f_X3_off ((xs (iN + 1))) lx ly gx gy)) :: wI cI cJ cZ a n ah pl ck ct (nI K) pm ja (nI n) (nI B) (nI (S - B)) tp st us fb kA tA lx ly gx gy gu gv))) (wr := (oC cJ ao (vp_updL fo 0 (f_X3_off ((xs (iN + 1))) lx ly gx gy)) :: wI cI cJ cZ a n ah pl ck ct (nI K) pm ja (nI n) (nI B) (nI (S - B)) tp st us fb kA tA lx ly gx gy gu gv)) (k_X4_off l D cI cJ cZ am fa (nI n) (nI B) (nI (S - B)) pl ja ah (nI K) bl bs bk be al tp st mx my kd ky ix iy iu iv ((xs (iN + 1))) (fun h => (q_st hBS hSn hn h).2.1)) [0, 1, 2, 3, 4, 5, 6, 7, 8, 9, 10, 11] [12, 13, 14, 15, 16, 17, 18, 19, 20, 21, 22, 23, 24, 25, 26, 27, 28] rfl rfl (by decide) (by decide) (by decide)) (si_L_108 ht ⟨Nat.le_of_ble_eq_true rfl, Nat.le_of_ble_eq_true rfl⟩) hx hb hml hown (va_recv hK hP (ci := 5) (q0 := 0) rfl rfl) hE hP hK hD hS hA rfl hl.1 rfl (Nat.le_of_ble_eq_true rfl) ⟨by show _ ≤ 653990; omega, by show _ ≤ 7134099; omega⟩ dL_law_749 (fun ov w' H locs hpost hP hD hS => ?_)
    obtain ⟨w1, ⟨rfl, rfl⟩, rfl⟩ := hpost
    refine W.st (st1 := [.long (f_X4_off ((xs (iN + 1))) (nI B) (nI (S - B)) mx my ix iy)]) rfl ?_
    have hP : va_P D vwCl (oC cJ ao (vp_updL fo 0 (f_X3_off ((xs (iN + 1))) lx ly gx gy)) :: (wI cI cJ cZ a n ah pl ck ct (nI K) pm ja (nI n) (nI B) (nI (S - B)) tp st us fb kA tA lx ly gx gy gu gv ++ wM cI cJ cZ am (f_X4_off_fa ((xs (iN + 1))) (nI B) (nI (S - B))) (nI n) (nI B) (nI (S - B)) pl ja ah (nI K) bl bs bk be al tp st mx my kd ky ix iy iu iv)) H := hP
    have hD : va_D A (oC cJ ao (vp_updL fo 0 (f_X3_off ((xs (iN + 1))) lx ly gx gy)) :: (wI cI cJ cZ a n ah pl ck ct (nI K) pm ja (nI n) (nI B) (nI (S - B)) tp st us fb kA tA lx ly gx gy gu gv ++ wM cI cJ cZ am (f_X4_off_fa ((xs (iN + 1))) (nI B) (nI (S - B))) (nI n) (nI B) (nI (S - B)) pl ja ah (nI K) bl bs bk be al tp st mx my kd ky ix iy iu iv)) := hD
    refine lv_lstore (lv' := [(6, .long (f_X4_off ((xs (iN + 1))) (nI B) (nI (S - B)) mx my ix iy)), (5, .int 0), (4, .int (nI iN)), (3, .ref ao), (2, .ref (am 0)), (1, .ref (a 0)), (0, .ref sb)]) hx hb dL_law_752 hl (by decide) rfl (fun ls hl => ?_)
    refine lv_aload_n hx hb dL_law_754 rfl (lv_at hl 4 rfl) ?_
    refine rdV (As := []) (rest := []) (st1 := [.int (f_X4_thrown (f_X4_off_fa ((xs (iN + 1))) (nI B) (nI (S - B))))]) (RD.frame (w := (oC cJ ao (vp_updL fo 0 (f_X3_off ((xs (iN + 1))) lx ly gx gy)) :: (wI cI cJ cZ a n ah pl ck ct (nI K) pm ja (nI n) (nI B) (nI (S - B)) tp st us fb kA tA lx ly gx gy gu gv ++ wM cI cJ cZ am (f_X4_off_fa ((xs (iN + 1))) (nI B) (nI (S - B))) (nI n) (nI B) (nI (S - B)) pl ja ah (nI K) bl bs bk be al tp st mx my kd ky ix iy iu iv))) (k_X4_thrown l D cI cJ cZ am (f_X4_off_fa ((xs (iN + 1))) (nI B) (nI (S - B))) (nI n) (nI B) (nI (S - B)) pl ja ah (nI K) bl bs bk be al tp st mx my kd ky ix iy iu iv) [17, 18, 19, 20, 21, 22, 23, 24, 25, 26, 27, 28] rfl) (si_L_58 ht ⟨Nat.le_of_ble_eq_true rfl, Nat.le_of_ble_eq_true rfl⟩) hx hb hml hown (va_recv hK hP (ci := 5) (q0 := 17) rfl rfl) (hE.since hS) hP hK rfl hl.1 rfl (Nat.le_of_ble_eq_true rfl) ⟨by show _ ≤ 653990; omega, by show _ ≤ 7134099; omega⟩ dL_law_755 rfl ?_
    refine lv_iload hx hb dL_law_758 (lv_at hl 1 rfl) ?_
    refine lv_icmp_eq (tgt := 765) hx hb dL_law_760 (by decide) (fun _ => ?_) (fun c => absurd ef c)
    refine lv_iload hx hb dL_law_765 (lv_at hl 1 rfl) ?_
    refine lv_if_ne (tgt := 781) hx hb dL_law_767 (by decide) (fun c => absurd rfl c) (fun _ => ?_)
    refine lv_aload_n hx hb dL_law_770 rfl (lv_at hl 3 rfl) ?_
    refine lv_iconst (v := 0) hx hb dL_law_771 (by decide) ?_
    refine va_lald hx hb hK hP 0 1 rfl rfl (in_of (i := 0) nI_0.symm (by decide) (by decide)) dL_law_772 ?_
    refine W.st (st1 := [.long (f_X3_off ((xs (iN + 1))) lx ly gx gy)]) rfl ?_
    refine lv_lload hx hb dL_law_773 (lv_at hl 0 rfl) ?_
    refine W.lcmp hx hb dL_law_775 ?_
    refine lv_if_eq (tgt := 781) hx hb dL_law_776 (by decide) (fun _ => ?_) (fun c => absurd ((lg_cmp_eq _ _).mpr ea) c)
    refine lv_goto (tgt := 953) hx hb dL_law_781 (by decide) ?_
    have hP : va_P D vwCl (oC cJ ao (vp_updL fo 0 (f_X3_off ((xs (iN + 1))) lx ly gx gy)) :: (wI cI cJ cZ a n ah pl ck ct (nI K) pm ja (nI n) (nI B) (nI (S - B)) tp st us fb kA tA lx ly gx gy gu gv ++ wM cI cJ cZ am (f_X4_off_fa ((xs (iN + 1))) (nI B) (nI (S - B))) (nI n) (nI B) (nI (S - B)) pl ja ah (nI K) bl bs bk be al tp st mx my kd ky ix iy iu iv)) H := hP
    have hD : va_D A (oC cJ ao (vp_updL fo 0 (f_X3_off ((xs (iN + 1))) lx ly gx gy)) :: (wI cI cJ cZ a n ah pl ck ct (nI K) pm ja (nI n) (nI B) (nI (S - B)) tp st us fb kA tA lx ly gx gy gu gv ++ wM cI cJ cZ am (f_X4_off_fa ((xs (iN + 1))) (nI B) (nI (S - B))) (nI n) (nI B) (nI (S - B)) pl ja ah (nI K) bl bs bk be al tp st mx my kd ky ix iy iu iv)) := hD
    refine W.widen (k := cells + 1) (n := slots + 6) (by omega) (by omega) ?_
    exact kk (oC cJ ao (vp_updL fo 0 (f_X3_off ((xs (iN + 1))) lx ly gx gy)) :: (wI cI cJ cZ a n ah pl ck ct (nI K) pm ja (nI n) (nI B) (nI (S - B)) tp st us fb kA tA lx ly gx gy gu gv ++ wM cI cJ cZ am (f_X4_off_fa ((xs (iN + 1))) (nI B) (nI (S - B))) (nI n) (nI B) (nI (S - B)) pl ja ah (nI K) bl bs bk be al tp st mx my kd ky ix iy iu iv)) H _ ls ⟨_, _, _, _, _, _, _, _, _, _, _, _, _, _, _, _, _, _, _, _, _, _, _, _, _, _, _, _, _, _, _, _, _, _, _, _, (RE_X (by omega) hR), rfl⟩ hP hD hS (lv_sub hl [2, 3, 4, 5, 6] rfl)
set_option maxRecDepth 20000 in
set_option maxHeartbeats 4000000 in
theorem cs_count {p : Program} {e : Env} {s : State} {m : MethodId} {below : List Frame} {meth : Method} {c : Code} (l : Launch) (hnt : ∀ e : Env, l.admits e → e.platform.stackTraces = false) {sb L : Nat} {xs : Nat → Int32} {D : va_G} {cI cJ cZ : ClassId} {A : Nat → Prop} {Q : State → Prop} (hC : LX p s m c sb L xs D cI cJ cZ A) {X : Int} (hX5 : 0 ≤ X ∧ X ≤ 60000000) {a am : Nat → Nat} {ao n iN : Nat} (hi : iN + 4 ≤ L) {w : va_W} (hw : LI X cI cJ cZ a am ao n w) {ls : Array Slot} (hl : lv_has ls 8 [(4, .int (nI iN)), (3, .ref ao), (2, .ref (am 0)), (1, .ref (a 0)), (0, .ref sb)]) {H : Heap} {locs : List Loc} (hP : va_P D vwCl w H) (hD : va_D A w) (hS : va_S A s.heap H locs) {cells slots : Nat} (hc : cells + 1 ≤ 653990) (hs : slots + 6 ≤ 7134099)
    (kk : ∀ (w' : va_W) (H' : Heap) (locs' : List Loc) (ls' : Array Slot), LI (X + 100000) cI cJ cZ a am ao n w' → va_P D vwCl w' H' → va_D A w' → va_S A s.heap H' locs' → lv_has ls' 8 [(4, .int (nI iN)), (3, .ref ao), (2, .ref (am 0)), (1, .ref (a 0)), (0, .ref sb)] → W p l e room_1 s m #[.ref sb] below meth c H' locs' (cells + 1) (slots + 6) Q (F0 m 953 ls' [])) : W p l e room_1 s m #[.ref sb] below meth c H locs cells slots Q (F0 m 897 ls []) := by
  obtain ⟨hx, hb, hml, hown, hX, hbl, hbA, hE, hK, hA, hL⟩ := hC
  have ht : tb_OK s := hE.1
  obtain ⟨B, S, K, ah, pl, ck, ct, pm, ja, tp, st, us, fb, kA, tA, lx, ly, gx, gy, gu, gv, fo, fa, bl, bs, bk, be, al, mx, my, kd, ky, ix, iy, iu, iv, hR, rfl⟩ := hw
  obtain ⟨⟨hn1, hn, hBS, hSn, hK4⟩, hah, hja, ⟨hAL, hpm⟩, hLN, hTP, hPR⟩ := id hR
  have gS := st_eq hBS
  by_cases hh : f_X3_isWithin (xs (iN + 1)) 0 7 = 0
  · skip
    have ef := r_countT hh
    refine lv_aload_n hx hb dL_law_897 rfl (lv_at hl 3 rfl) ?_
    refine lv_aload_n hx hb dL_law_898 rfl (lv_at hl 4 rfl) ?_
    refine lv_iload hx hb dL_law_899 (lv_at hl 0 rfl) ?_
    refine lv_iconst (v := 1) hx hb dL_law_901 (by decide) ?_
    refine lv_iadd hx hb dL_law_902 ?_
    refine va_sld hx hb hX hbl hbA hS (in_of (sc_1 iN) (by omega) (by omega)) dL_law_903 ?_
    refine W.st (st1 := [.int (xs (iN + 1)), .ref (a 0)]) (by rw [cl_of (sc_1 iN) (by omega)]) ?_
    refine lv_aload_n hx hb dL_law_904 rfl (lv_at hl 1 rfl) ?_
    refine cwr2 (rest := []) (runSH (n := 3) (As := [.ref (a 0), .int (xs (iN + 1)), .ref ao]) (rest := []) (WRH.frame (w := (oC cJ ao fo :: (wI cI cJ cZ a n ah pl ck ct (nI K) pm ja (nI n) (nI B) (nI (S - B)) tp st us fb kA tA lx ly gx gy gu gv ++ wM cI cJ cZ am fa (nI n) (nI B) (nI (S - B)) pl ja ah (nI K) bl bs bk be al tp st mx my kd ky ix iy iu iv))) (wr := wM cI cJ cZ am fa (nI n) (nI B) (nI (S - B)) pl ja ah (nI K) bl bs bk be al tp st mx my kd ky ix iy iu iv) (t_L_count l hnt D cI cJ cZ a n ah pl ck ct (nI K) pm ja (nI n) (nI B) (nI (S - B)) tp st us fb kA tA lx ly gx gy gu gv ao fo ((xs (iN + 1))) (out_8 hh)) [0, 1, 2, 3, 4, 5, 6, 7, 8, 9, 10, 11, 12, 13, 14, 15, 16] [17, 18, 19, 20, 21, 22, 23, 24, 25, 26, 27, 28] rfl rfl (by decide) (by decide) (by decide)) ht (fun U a h => cw_L_count h) (fun U a h => ini_L h) (ml_L_126 ht) (sm_L_count ht) ⟨by decide +kernel, by decide +kernel, by decide +kernel⟩ ⟨Nat.le_of_ble_eq_true rfl, Nat.le_of_ble_eq_true rfl⟩ hx hb hml hown hE hP hK hD hS hA rfl hl.1 rfl (Nat.le_of_ble_eq_true rfl) ⟨by show _ ≤ 653990; omega, by show _ ≤ 7134099; omega⟩ dL_law_905) hD hS hA (fun ov w' H locs hpost hP hD hS => ?_)
    obtain ⟨w1, ⟨rfl, rfl⟩, rfl⟩ := hpost
    refine W.st (st1 := [.int 1]) rfl ?_
    have hP : va_P D vwCl (wM cI cJ cZ am fa (nI n) (nI B) (nI (S - B)) pl ja ah (nI K) bl bs bk be al tp st mx my kd ky ix iy iu iv ++ (oC cJ ao fo :: wI cI cJ cZ a n ah pl ck ct (nI K) pm ja (nI n) (nI B) (nI (S - B)) tp st us fb kA tA lx ly gx gy gu gv)) H := hP
    have hD : va_D A (wM cI cJ cZ am fa (nI n) (nI B) (nI (S - B)) pl ja ah (nI K) bl bs bk be al tp st mx my kd ky ix iy iu iv ++ (oC cJ ao fo :: wI cI cJ cZ a n ah pl ck ct (nI K) pm ja (nI n) (nI B) (nI (S - B)) tp st us fb kA tA lx ly gx gy gu gv)) := hD
    refine lv_istore (lv' := [(5, .int 1), (4, .int (nI iN)), (3, .ref ao), (2, .ref (am 0)), (1, .ref (a 0)), (0, .ref sb)]) hx hb dL_law_908 hl (by decide) rfl (fun ls hl => ?_)
    refine lv_aload_n hx hb dL_law_910 rfl (lv_at hl 3 rfl) ?_
    refine lv_aload_n hx hb dL_law_911 rfl (lv_at hl 5 rfl) ?_
    refine lv_iload hx hb dL_law_912 (lv_at hl 1 rfl) ?_
    refine lv_iconst (v := 1) hx hb dL_law_914 (by decide) ?_
    refine lv_iadd hx hb dL_law_915 ?_
    refine va_sld hx hb hX hbl hbA hS (in_of (sc_1 iN) (by omega) (by omega)) dL_law_916 ?_
    refine W.st (st1 := [.int (xs (iN + 1)), .ref (am 0)]) (by rw [cl_of (sc_1 iN) (by omega)]) ?_
    refine wrV (As := [.int (xs (iN + 1))]) (rest := []) (WR.frame (w := (wM cI cJ cZ am fa (nI n) (nI B) (nI (S - B)) pl ja ah (nI K) bl bs bk be al tp st mx my kd ky ix iy iu iv ++ (oC cJ ao fo :: wI cI cJ cZ a n ah pl ck ct (nI K) pm ja (nI n) (nI B) (nI (S - B)) tp st us fb kA tA lx ly gx gy gu gv))) (wr := (oC cJ ao fo :: wI cI cJ cZ a n ah pl ck ct (nI K) pm ja (nI n) (nI B) (nI (S - B)) tp st us fb kA tA lx ly gx gy gu gv)) (k_X4_count l D cI cJ cZ am fa (nI n) (nI B) (nI (S - B)) pl ja ah (nI K) bl bs bk be al tp st mx my kd ky ix iy iu iv ((xs (iN + 1))) ) [0, 1, 2, 3, 4, 5, 6, 7, 8, 9, 10, 11] [12, 13, 14, 15, 16, 17, 18, 19, 20, 21, 22, 23, 24, 25, 26, 27, 28] rfl rfl (by decide) (by decide) (by decide)) (si_L_128 ht ⟨Nat.le_of_ble_eq_true rfl, Nat.le_of_ble_eq_true rfl⟩) hx hb hml hown (va_recv hK hP (ci := 5) (q0 := 0) rfl rfl) hE hP hK hD hS hA rfl hl.1 rfl (Nat.le_of_ble_eq_true rfl) ⟨by show _ ≤ 653990; omega, by show _ ≤ 7134099; omega⟩ dL_law_917 (fun ov w' H locs hpost hP hD hS => ?_)
    obtain ⟨w1, ⟨rfl, rfl⟩, rfl⟩ := hpost
    refine W.st (st1 := [.int (f_X4_count ((xs (iN + 1))) (nI n) (nI B) (nI (S - B)) pl ja ah (nI K) al)]) rfl ?_
    have hP : va_P D vwCl (oC cJ ao fo :: (wI cI cJ cZ a n ah pl ck ct (nI K) pm ja (nI n) (nI B) (nI (S - B)) tp st us fb kA tA lx ly gx gy gu gv ++ wM cI cJ cZ am (f_X4_count_fa ((xs (iN + 1)))) (nI n) (nI B) (nI (S - B)) pl ja ah (nI K) bl bs bk be al tp st mx my kd ky ix iy iu iv)) H := hP
    have hD : va_D A (oC cJ ao fo :: (wI cI cJ cZ a n ah pl ck ct (nI K) pm ja (nI n) (nI B) (nI (S - B)) tp st us fb kA tA lx ly gx gy gu gv ++ wM cI cJ cZ am (f_X4_count_fa ((xs (iN + 1)))) (nI n) (nI B) (nI (S - B)) pl ja ah (nI K) bl bs bk be al tp st mx my kd ky ix iy iu iv)) := hD
    refine lv_istore (lv' := [(6, .int (f_X4_count ((xs (iN + 1))) (nI n) (nI B) (nI (S - B)) pl ja ah (nI K) al)), (5, .int 1), (4, .int (nI iN)), (3, .ref ao), (2, .ref (am 0)), (1, .ref (a 0)), (0, .ref sb)]) hx hb dL_law_920 hl (by decide) rfl (fun ls hl => ?_)
    refine lv_aload_n hx hb dL_law_922 rfl (lv_at hl 4 rfl) ?_
    refine rdV (As := []) (rest := []) (st1 := [.int (f_X4_thrown (f_X4_count_fa ((xs (iN + 1)))))]) (RD.frame (w := (oC cJ ao fo :: (wI cI cJ cZ a n ah pl ck ct (nI K) pm ja (nI n) (nI B) (nI (S - B)) tp st us fb kA tA lx ly gx gy gu gv ++ wM cI cJ cZ am (f_X4_count_fa ((xs (iN + 1)))) (nI n) (nI B) (nI (S - B)) pl ja ah (nI K) bl bs bk be al tp st mx my kd ky ix iy iu iv))) (k_X4_thrown l D cI cJ cZ am (f_X4_count_fa ((xs (iN + 1)))) (nI n) (nI B) (nI (S - B)) pl ja ah (nI K) bl bs bk be al tp st mx my kd ky ix iy iu iv) [17, 18, 19, 20, 21, 22, 23, 24, 25, 26, 27, 28] rfl) (si_L_58 ht ⟨Nat.le_of_ble_eq_true rfl, Nat.le_of_ble_eq_true rfl⟩) hx hb hml hown (va_recv hK hP (ci := 5) (q0 := 17) rfl rfl) (hE.since hS) hP hK rfl hl.1 rfl (Nat.le_of_ble_eq_true rfl) ⟨by show _ ≤ 653990; omega, by show _ ≤ 7134099; omega⟩ dL_law_923 rfl ?_
    refine lv_iload hx hb dL_law_926 (lv_at hl 1 rfl) ?_
    refine lv_icmp_eq (tgt := 933) hx hb dL_law_928 (by decide) (fun _ => ?_) (fun c => absurd ef c)
    refine lv_iload hx hb dL_law_933 (lv_at hl 1 rfl) ?_
    refine lv_if_ne (tgt := 950) hx hb dL_law_935 (by decide) (fun _ => ?_) (fun c => absurd c (by decide))
    refine lv_goto (tgt := 953) hx hb dL_law_950 (by decide) ?_
    have hP : va_P D vwCl (oC cJ ao fo :: (wI cI cJ cZ a n ah pl ck ct (nI K) pm ja (nI n) (nI B) (nI (S - B)) tp st us fb kA tA lx ly gx gy gu gv ++ wM cI cJ cZ am (f_X4_count_fa ((xs (iN + 1)))) (nI n) (nI B) (nI (S - B)) pl ja ah (nI K) bl bs bk be al tp st mx my kd ky ix iy iu iv)) H := hP
    have hD : va_D A (oC cJ ao fo :: (wI cI cJ cZ a n ah pl ck ct (nI K) pm ja (nI n) (nI B) (nI (S - B)) tp st us fb kA tA lx ly gx gy gu gv ++ wM cI cJ cZ am (f_X4_count_fa ((xs (iN + 1)))) (nI n) (nI B) (nI (S - B)) pl ja ah (nI K) bl bs bk be al tp st mx my kd ky ix iy iu iv)) := hD
    refine W.widen (k := cells + 1) (n := slots + 6) (by omega) (by omega) ?_
    exact kk (oC cJ ao fo :: (wI cI cJ cZ a n ah pl ck ct (nI K) pm ja (nI n) (nI B) (nI (S - B)) tp st us fb kA tA lx ly gx gy gu gv ++ wM cI cJ cZ am (f_X4_count_fa ((xs (iN + 1)))) (nI n) (nI B) (nI (S - B)) pl ja ah (nI K) bl bs bk be al tp st mx my kd ky ix iy iu iv)) H _ ls ⟨_, _, _, _, _, _, _, _, _, _, _, _, _, _, _, _, _, _, _, _, _, _, _, _, _, _, _, _, _, _, _, _, _, _, _, _, (RE_X (by omega) hR), rfl⟩ hP hD hS (lv_sub hl [2, 3, 4, 5, 6] rfl)
  · skip
    obtain ⟨ef, ea⟩ := r_count hR pl (nI K) (nI n) (nI B) (nI (S - B)) hh
    refine lv_aload_n hx hb dL_law_897 rfl (lv_at hl 3 rfl) ?_
    refine lv_aload_n hx hb dL_law_898 rfl (lv_at hl 4 rfl) ?_
    refine lv_iload hx hb dL_law_899 (lv_at hl 0 rfl) ?_
    refine lv_iconst (v := 1) hx hb dL_law_901 (by decide) ?_
    refine lv_iadd hx hb dL_law_902 ?_
    refine va_sld hx hb hX hbl hbA hS (in_of (sc_1 iN) (by omega) (by omega)) dL_law_903 ?_
    refine W.st (st1 := [.int (xs (iN + 1)), .ref (a 0)]) (by rw [cl_of (sc_1 iN) (by omega)]) ?_
    refine lv_aload_n hx hb dL_law_904 rfl (lv_at hl 1 rfl) ?_
    refine cwr2 (rest := []) (runSH (n := 3) (As := [.ref (a 0), .int (xs (iN + 1)), .ref ao]) (rest := []) (WRH.frame (w := (oC cJ ao fo :: (wI cI cJ cZ a n ah pl ck ct (nI K) pm ja (nI n) (nI B) (nI (S - B)) tp st us fb kA tA lx ly gx gy gu gv ++ wM cI cJ cZ am fa (nI n) (nI B) (nI (S - B)) pl ja ah (nI K) bl bs bk be al tp st mx my kd ky ix iy iu iv))) (wr := wM cI cJ cZ am fa (nI n) (nI B) (nI (S - B)) pl ja ah (nI K) bl bs bk be al tp st mx my kd ky ix iy iu iv) (k_L_count l D cI cJ cZ a n ah pl ck ct (nI K) pm ja (nI n) (nI B) (nI (S - B)) tp st us fb kA tA lx ly gx gy gu gv ao fo ((xs (iN + 1))) (in_8 hh)) [0, 1, 2, 3, 4, 5, 6, 7, 8, 9, 10, 11, 12, 13, 14, 15, 16] [17, 18, 19, 20, 21, 22, 23, 24, 25, 26, 27, 28] rfl rfl (by decide) (by decide) (by decide)) ht (fun U a h => cw_L_count h) (fun U a h => ini_L h) (ml_L_126 ht) (sm_L_count ht) ⟨by decide +kernel, by decide +kernel, by decide +kernel⟩ ⟨Nat.le_of_ble_eq_true rfl, Nat.le_of_ble_eq_true rfl⟩ hx hb hml hown hE hP hK hD hS hA rfl hl.1 rfl (Nat.le_of_ble_eq_true rfl) ⟨by show _ ≤ 653990; omega, by show _ ≤ 7134099; omega⟩ dL_law_905) hD hS hA (fun ov w' H locs hpost hP hD hS => ?_)
    obtain ⟨w1, ⟨rfl, rfl⟩, rfl⟩ := hpost
    refine W.st (st1 := [.int 0]) rfl ?_
    have hP : va_P D vwCl (wM cI cJ cZ am fa (nI n) (nI B) (nI (S - B)) pl ja ah (nI K) bl bs bk be al tp st mx my kd ky ix iy iu iv ++ (oC cJ ao (vp_updL fo 0 ((f_X3_count ((xs (iN + 1))) ah pl (nI K) pm ja (nI n) (nI B) (nI (S - B))).toInt64)) :: wI cI cJ cZ a n ah pl ck ct (nI K) pm ja (nI n) (nI B) (nI (S - B)) tp st us fb kA tA lx ly gx gy gu gv)) H := hP
    have hD : va_D A (wM cI cJ cZ am fa (nI n) (nI B) (nI (S - B)) pl ja ah (nI K) bl bs bk be al tp st mx my kd ky ix iy iu iv ++ (oC cJ ao (vp_updL fo 0 ((f_X3_count ((xs (iN + 1))) ah pl (nI K) pm ja (nI n) (nI B) (nI (S - B))).toInt64)) :: wI cI cJ cZ a n ah pl ck ct (nI K) pm ja (nI n) (nI B) (nI (S - B)) tp st us fb kA tA lx ly gx gy gu gv)) := hD
    refine lv_istore (lv' := [(5, .int 0), (4, .int (nI iN)), (3, .ref ao), (2, .ref (am 0)), (1, .ref (a 0)), (0, .ref sb)]) hx hb dL_law_908 hl (by decide) rfl (fun ls hl => ?_)
    refine lv_aload_n hx hb dL_law_910 rfl (lv_at hl 3 rfl) ?_
    refine lv_aload_n hx hb dL_law_911 rfl (lv_at hl 5 rfl) ?_
    refine lv_iload hx hb dL_law_912 (lv_at hl 1 rfl) ?_
    refine lv_iconst (v := 1) hx hb dL_law_914 (by decide) ?_
    refine lv_iadd hx hb dL_law_915 ?_
    refine va_sld hx hb hX hbl hbA hS (in_of (sc_1 iN) (by omega) (by omega)) dL_law_916 ?_
    refine W.st (st1 := [.int (xs (iN + 1)), .ref (am 0)]) (by rw [cl_of (sc_1 iN) (by omega)]) ?_
    refine wrV (As := [.int (xs (iN + 1))]) (rest := []) (WR.frame (w := (wM cI cJ cZ am fa (nI n) (nI B) (nI (S - B)) pl ja ah (nI K) bl bs bk be al tp st mx my kd ky ix iy iu iv ++ (oC cJ ao (vp_updL fo 0 ((f_X3_count ((xs (iN + 1))) ah pl (nI K) pm ja (nI n) (nI B) (nI (S - B))).toInt64)) :: wI cI cJ cZ a n ah pl ck ct (nI K) pm ja (nI n) (nI B) (nI (S - B)) tp st us fb kA tA lx ly gx gy gu gv))) (wr := (oC cJ ao (vp_updL fo 0 ((f_X3_count ((xs (iN + 1))) ah pl (nI K) pm ja (nI n) (nI B) (nI (S - B))).toInt64)) :: wI cI cJ cZ a n ah pl ck ct (nI K) pm ja (nI n) (nI B) (nI (S - B)) tp st us fb kA tA lx ly gx gy gu gv)) (k_X4_count l D cI cJ cZ am fa (nI n) (nI B) (nI (S - B)) pl ja ah (nI K) bl bs bk be al tp st mx my kd ky ix iy iu iv ((xs (iN + 1))) ) [0, 1, 2, 3, 4, 5, 6, 7, 8, 9, 10, 11] [12, 13, 14, 15, 16, 17, 18, 19, 20, 21, 22, 23, 24, 25, 26, 27, 28] rfl rfl (by decide) (by decide) (by decide)) (si_L_128 ht ⟨Nat.le_of_ble_eq_true rfl, Nat.le_of_ble_eq_true rfl⟩) hx hb hml hown (va_recv hK hP (ci := 5) (q0 := 0) rfl rfl) hE hP hK hD hS hA rfl hl.1 rfl (Nat.le_of_ble_eq_true rfl) ⟨by show _ ≤ 653990; omega, by show _ ≤ 7134099; omega⟩ dL_law_917 (fun ov w' H locs hpost hP hD hS => ?_)
    obtain ⟨w1, ⟨rfl, rfl⟩, rfl⟩ := hpost
    refine W.st (st1 := [.int (f_X4_count ((xs (iN + 1))) (nI n) (nI B) (nI (S - B)) pl ja ah (nI K) al)]) rfl ?_
    have hP : va_P D vwCl (oC cJ ao (vp_updL fo 0 ((f_X3_count ((xs (iN + 1))) ah pl (nI K) pm ja (nI n) (nI B) (nI (S - B))).toInt64)) :: (wI cI cJ cZ a n ah pl ck ct (nI K) pm ja (nI n) (nI B) (nI (S - B)) tp st us fb kA tA lx ly gx gy gu gv ++ wM cI cJ cZ am (f_X4_count_fa ((xs (iN + 1)))) (nI n) (nI B) (nI (S - B)) pl ja ah (nI K) bl bs bk be al tp st mx my kd ky ix iy iu iv)) H := hP
    have hD : va_D A (oC cJ ao (vp_updL fo 0 ((f_X3_count ((xs (iN + 1))) ah pl (nI K) pm ja (nI n) (nI B) (nI (S - B))).toInt64)) :: (wI cI cJ cZ a n ah pl ck ct (nI K) pm ja (nI n) (nI B) (nI (S - B)) tp st us fb kA tA lx ly gx gy gu gv ++ wM cI cJ cZ am (f_X4_count_fa ((xs (iN + 1)))) (nI n) (nI B) (nI (S - B)) pl ja ah (nI K) bl bs bk be al tp st mx my kd ky ix iy iu iv)) := hD
    refine lv_istore (lv' := [(6, .int (f_X4_count ((xs (iN + 1))) (nI n) (nI B) (nI (S - B)) pl ja ah (nI K) al)), (5, .int 0), (4, .int (nI iN)), (3, .ref ao), (2, .ref (am 0)), (1, .ref (a 0)), (0, .ref sb)]) hx hb dL_law_920 hl (by decide) rfl (fun ls hl => ?_)
    refine lv_aload_n hx hb dL_law_922 rfl (lv_at hl 4 rfl) ?_
    refine rdV (As := []) (rest := []) (st1 := [.int (f_X4_thrown (f_X4_count_fa ((xs (iN + 1)))))]) (RD.frame (w := (oC cJ ao (vp_updL fo 0 ((f_X3_count ((xs (iN + 1))) ah pl (nI K) pm ja (nI n) (nI B) (nI (S - B))).toInt64)) :: (wI cI cJ cZ a n ah pl ck ct (nI K) pm ja (nI n) (nI B) (nI (S - B)) tp st us fb kA tA lx ly gx gy gu gv ++ wM cI cJ cZ am (f_X4_count_fa ((xs (iN + 1)))) (nI n) (nI B) (nI (S - B)) pl ja ah (nI K) bl bs bk be al tp st mx my kd ky ix iy iu iv))) (k_X4_thrown l D cI cJ cZ am (f_X4_count_fa ((xs (iN + 1)))) (nI n) (nI B) (nI (S - B)) pl ja ah (nI K) bl bs bk be al tp st mx my kd ky ix iy iu iv) [17, 18, 19, 20, 21, 22, 23, 24, 25, 26, 27, 28] rfl) (si_L_58 ht ⟨Nat.le_of_ble_eq_true rfl, Nat.le_of_ble_eq_true rfl⟩) hx hb hml hown (va_recv hK hP (ci := 5) (q0 := 17) rfl rfl) (hE.since hS) hP hK rfl hl.1 rfl (Nat.le_of_ble_eq_true rfl) ⟨by show _ ≤ 653990; omega, by show _ ≤ 7134099; omega⟩ dL_law_923 rfl ?_
    refine lv_iload hx hb dL_law_926 (lv_at hl 1 rfl) ?_
    refine lv_icmp_eq (tgt := 933) hx hb dL_law_928 (by decide) (fun _ => ?_) (fun c => absurd ef c)
    refine lv_iload hx hb dL_law_933 (lv_at hl 1 rfl) ?_
    refine lv_if_ne (tgt := 950) hx hb dL_law_935 (by decide) (fun c => absurd rfl c) (fun _ => ?_)
    refine lv_aload_n hx hb dL_law_938 rfl (lv_at hl 3 rfl) ?_
    refine lv_iconst (v := 0) hx hb dL_law_939 (by decide) ?_
    refine va_lald hx hb hK hP 0 1 rfl rfl (in_of (i := 0) nI_0.symm (by decide) (by decide)) dL_law_940 ?_
    refine W.st (st1 := [.long ((f_X3_count ((xs (iN + 1))) ah pl (nI K) pm ja (nI n) (nI B) (nI (S - B))).toInt64)]) rfl ?_
    refine lv_iload hx hb dL_law_941 (lv_at hl 0 rfl) ?_
    refine lv_i2l (v := (f_X4_count ((xs (iN + 1))) (nI n) (nI B) (nI (S - B)) pl ja ah (nI K) al).toInt64) hx hb dL_law_943 rfl ?_
    refine W.lcmp hx hb dL_law_944 ?_
    refine lv_if_eq (tgt := 950) hx hb dL_law_945 (by decide) (fun _ => ?_) (fun c => absurd ((lg_cmp_eq _ _).mpr (congrArg Int32.toInt64 ea)) c)
    refine lv_goto (tgt := 953) hx hb dL_law_950 (by decide) ?_
    have hP : va_P D vwCl (oC cJ ao (vp_updL fo 0 ((f_X3_count ((xs (iN + 1))) ah pl (nI K) pm ja (nI n) (nI B) (nI (S - B))).toInt64)) :: (wI cI cJ cZ a n ah pl ck ct (nI K) pm ja (nI n) (nI B) (nI (S - B)) tp st us fb kA tA lx ly gx gy gu gv ++ wM cI cJ cZ am (f_X4_count_fa ((xs (iN + 1)))) (nI n) (nI B) (nI (S - B)) pl ja ah (nI K) bl bs bk be al tp st mx my kd ky ix iy iu iv)) H := hP
    have hD : va_D A (oC cJ ao (vp_updL fo 0 ((f_X3_count ((xs (iN + 1))) ah pl (nI K) pm ja (nI n) (nI B) (nI (S - B))).toInt64)) :: (wI cI cJ cZ a n ah pl ck ct (nI K) pm ja (nI n) (nI B) (nI (S - B)) tp st us fb kA tA lx ly gx gy gu gv ++ wM cI cJ cZ am (f_X4_count_fa ((xs (iN + 1)))) (nI n) (nI B) (nI (S - B)) pl ja ah (nI K) bl bs bk be al tp st mx my kd ky ix iy iu iv)) := hD
    refine W.widen (k := cells + 1) (n := slots + 6) (by omega) (by omega) ?_
    exact kk (oC cJ ao (vp_updL fo 0 ((f_X3_count ((xs (iN + 1))) ah pl (nI K) pm ja (nI n) (nI B) (nI (S - B))).toInt64)) :: (wI cI cJ cZ a n ah pl ck ct (nI K) pm ja (nI n) (nI B) (nI (S - B)) tp st us fb kA tA lx ly gx gy gu gv ++ wM cI cJ cZ am (f_X4_count_fa ((xs (iN + 1)))) (nI n) (nI B) (nI (S - B)) pl ja ah (nI K) bl bs bk be al tp st mx my kd ky ix iy iu iv)) H _ ls ⟨_, _, _, _, _, _, _, _, _, _, _, _, _, _, _, _, _, _, _, _, _, _, _, _, _, _, _, _, _, _, _, _, _, _, _, _, (RE_X (by omega) hR), rfl⟩ hP hD hS (lv_sub hl [2, 3, 4, 5, 6] rfl)
set_option maxRecDepth 20000 in
set_option maxHeartbeats 4000000 in
theorem cs_place {p : Program} {e : Env} {s : State} {m : MethodId} {below : List Frame} {meth : Method} {c : Code} (l : Launch) (hnt : ∀ e : Env, l.admits e → e.platform.stackTraces = false) {sb L : Nat} {xs : Nat → Int32} {D : va_G} {cI cJ cZ : ClassId} {A : Nat → Prop} {Q : State → Prop} (hC : LX p s m c sb L xs D cI cJ cZ A) {X : Int} (hX5 : 0 ≤ X ∧ X ≤ 60000000) {a am : Nat → Nat} {ao n iN : Nat} (hi : iN + 4 ≤ L) {w : va_W} (hw : LI X cI cJ cZ a am ao n w) {ls : Array Slot} (hl : lv_has ls 8 [(4, .int (nI iN)), (3, .ref ao), (2, .ref (am 0)), (1, .ref (a 0)), (0, .ref sb)]) {H : Heap} {locs : List Loc} (hP : va_P D vwCl w H) (hD : va_D A w) (hS : va_S A s.heap H locs) {cells slots : Nat} (hc : cells + 1 ≤ 653990) (hs : slots + 6 ≤ 7134099)
    (kk : ∀ (w' : va_W) (H' : Heap) (locs' : List Loc) (ls' : Array Slot), LI (X + 100000) cI cJ cZ a am ao n w' → va_P D vwCl w' H' → va_D A w' → va_S A s.heap H' locs' → lv_has ls' 8 [(4, .int (nI iN)), (3, .ref ao), (2, .ref (am 0)), (1, .ref (a 0)), (0, .ref sb)] → W p l e room_1 s m #[.ref sb] below meth c H' locs' (cells + 1) (slots + 6) Q (F0 m 953 ls' [])) : W p l e room_1 s m #[.ref sb] below meth c H locs cells slots Q (F0 m 662 ls []) := by
  obtain ⟨hx, hb, hml, hown, hX, hbl, hbA, hE, hK, hA, hL⟩ := hC
  have ht : tb_OK s := hE.1
  obtain ⟨B, S, K, ah, pl, ck, ct, pm, ja, tp, st, us, fb, kA, tA, lx, ly, gx, gy, gu, gv, fo, fa, bl, bs, bk, be, al, mx, my, kd, ky, ix, iy, iu, iv, hR, rfl⟩ := hw
  obtain ⟨⟨hn1, hn, hBS, hSn, hK4⟩, hah, hja, ⟨hAL, hpm⟩, hLN, hTP, hPR⟩ := id hR
  have gS := st_eq hBS
  by_cases hh : f_X2_stands (xs (iN + 1)) (nI B) (nI (S - B)) = 0
  · skip
    have ef := r_placeT (k := (xs (iN + 2))) hh
    refine lv_aload_n hx hb dL_law_662 rfl (lv_at hl 3 rfl) ?_
    refine lv_aload_n hx hb dL_law_663 rfl (lv_at hl 4 rfl) ?_
    refine lv_iload hx hb dL_law_664 (lv_at hl 0 rfl) ?_
    refine lv_iconst (v := 1) hx hb dL_law_666 (by decide) ?_
    refine lv_iadd hx hb dL_law_667 ?_
    refine va_sld hx hb hX hbl hbA hS (in_of (sc_1 iN) (by omega) (by omega)) dL_law_668 ?_
    refine W.st (st1 := [.int (xs (iN + 1)), .ref (a 0)]) (by rw [cl_of (sc_1 iN) (by omega)]) ?_
    refine lv_aload_n hx hb dL_law_669 rfl (lv_at hl 4 rfl) ?_
    refine lv_iload hx hb dL_law_670 (lv_at hl 0 rfl) ?_
    refine lv_iconst (v := 2) hx hb dL_law_672 (by decide) ?_
    refine lv_iadd hx hb dL_law_673 ?_
    refine va_sld hx hb hX hbl hbA hS (in_of (sc_2 iN) (by omega) (by omega)) dL_law_674 ?_
    refine W.st (st1 := [.int (xs (iN + 2)), .int (xs (iN + 1)), .ref (a 0)]) (by rw [cl_of (sc_2 iN) (by omega)]) ?_
    refine lv_aload_n hx hb dL_law_675 rfl (lv_at hl 1 rfl) ?_
    refine cwr2 (rest := []) (runSH (n := 4) (As := [.ref (a 0), .int (xs (iN + 1)), .int (xs (iN + 2)), .ref ao]) (rest := []) (WRH.frame (w := (oC cJ ao fo :: (wI cI cJ cZ a n ah pl ck ct (nI K) pm ja (nI n) (nI B) (nI (S - B)) tp st us fb kA tA lx ly gx gy gu gv ++ wM cI cJ cZ am fa (nI n) (nI B) (nI (S - B)) pl ja ah (nI K) bl bs bk be al tp st mx my kd ky ix iy iu iv))) (wr := wM cI cJ cZ am fa (nI n) (nI B) (nI (S - B)) pl ja ah (nI K) bl bs bk be al tp st mx my kd ky ix iy iu iv) (t_L_place l hnt D cI cJ cZ a n ah pl ck ct (nI K) pm ja (nI n) (nI B) (nI (S - B)) tp st us fb kA tA lx ly gx gy gu gv ao fo ((xs (iN + 1))) ((xs (iN + 2))) hh) [0, 1, 2, 3, 4, 5, 6, 7, 8, 9, 10, 11, 12, 13, 14, 15, 16] [17, 18, 19, 20, 21, 22, 23, 24, 25, 26, 27, 28] rfl rfl (by decide) (by decide) (by decide)) ht (fun U a h => cw_L_place h) (fun U a h => ini_L h) (ml_L_102 ht) (sm_L_place ht) ⟨by decide +kernel, by decide +kernel, by decide +kernel⟩ ⟨Nat.le_of_ble_eq_true rfl, Nat.le_of_ble_eq_true rfl⟩ hx hb hml hown hE hP hK hD hS hA rfl hl.1 rfl (Nat.le_of_ble_eq_true rfl) ⟨by show _ ≤ 653990; omega, by show _ ≤ 7134099; omega⟩ dL_law_676) hD hS hA (fun ov w' H locs hpost hP hD hS => ?_)
    obtain ⟨w1, ⟨rfl, rfl⟩, rfl⟩ := hpost
    refine W.st (st1 := [.int 1]) rfl ?_
    have hP : va_P D vwCl (wM cI cJ cZ am fa (nI n) (nI B) (nI (S - B)) pl ja ah (nI K) bl bs bk be al tp st mx my kd ky ix iy iu iv ++ (oC cJ ao fo :: wI cI cJ cZ a n ah pl ck ct (nI K) pm ja (nI n) (nI B) (nI (S - B)) tp st us fb kA tA lx ly gx gy gu gv)) H := hP
    have hD : va_D A (wM cI cJ cZ am fa (nI n) (nI B) (nI (S - B)) pl ja ah (nI K) bl bs bk be al tp st mx my kd ky ix iy iu iv ++ (oC cJ ao fo :: wI cI cJ cZ a n ah pl ck ct (nI K) pm ja (nI n) (nI B) (nI (S - B)) tp st us fb kA tA lx ly gx gy gu gv)) := hD
    refine lv_istore (lv' := [(5, .int 1), (4, .int (nI iN)), (3, .ref ao), (2, .ref (am 0)), (1, .ref (a 0)), (0, .ref sb)]) hx hb dL_law_679 hl (by decide) rfl (fun ls hl => ?_)
    refine lv_aload_n hx hb dL_law_681 rfl (lv_at hl 3 rfl) ?_
    refine lv_aload_n hx hb dL_law_682 rfl (lv_at hl 5 rfl) ?_
    refine lv_iload hx hb dL_law_683 (lv_at hl 1 rfl) ?_
    refine lv_iconst (v := 1) hx hb dL_law_685 (by decide) ?_
    refine lv_iadd hx hb dL_law_686 ?_
    refine va_sld hx hb hX hbl hbA hS (in_of (sc_1 iN) (by omega) (by omega)) dL_law_687 ?_
    refine W.st (st1 := [.int (xs (iN + 1)), .ref (am 0)]) (by rw [cl_of (sc_1 iN) (by omega)]) ?_
    refine lv_aload_n hx hb dL_law_688 rfl (lv_at hl 5 rfl) ?_
    refine lv_iload hx hb dL_law_689 (lv_at hl 1 rfl) ?_
    refine lv_iconst (v := 2) hx hb dL_law_691 (by decide) ?_
    refine lv_iadd hx hb dL_law_692 ?_
    refine va_sld hx hb hX hbl hbA hS (in_of (sc_2 iN) (by omega) (by omega)) dL_law_693 ?_
    refine W.st (st1 := [.int (xs (iN + 2)), .int (xs (iN + 1)), .ref (am 0)]) (by rw [cl_of (sc_2 iN) (by omega)]) ?_
    refine wrV (As := [.int (xs (iN + 1)), .int (xs (iN + 2))]) (rest := []) (WR.frame (w := (wM cI cJ cZ am fa (nI n) (nI B) (nI (S - B)) pl ja ah (nI K) bl bs bk be al tp st mx my kd ky ix iy iu iv ++ (oC cJ ao fo :: wI cI cJ cZ a n ah pl ck ct (nI K) pm ja (nI n) (nI B) (nI (S - B)) tp st us fb kA tA lx ly gx gy gu gv))) (wr := (oC cJ ao fo :: wI cI cJ cZ a n ah pl ck ct (nI K) pm ja (nI n) (nI B) (nI (S - B)) tp st us fb kA tA lx ly gx gy gu gv)) (k_X4_place l D cI cJ cZ am fa (nI n) (nI B) (nI (S - B)) pl ja ah (nI K) bl bs bk be al tp st mx my kd ky ix iy iu iv ((xs (iN + 1))) ((xs (iN + 2))) (fun h => (q_st hBS hSn hn h).2.1)) [0, 1, 2, 3, 4, 5, 6, 7, 8, 9, 10, 11] [12, 13, 14, 15, 16, 17, 18, 19, 20, 21, 22, 23, 24, 25, 26, 27, 28] rfl rfl (by decide) (by decide) (by decide)) (si_L_104 ht ⟨Nat.le_of_ble_eq_true rfl, Nat.le_of_ble_eq_true rfl⟩) hx hb hml hown (va_recv hK hP (ci := 5) (q0 := 0) rfl rfl) hE hP hK hD hS hA rfl hl.1 rfl (Nat.le_of_ble_eq_true rfl) ⟨by show _ ≤ 653990; omega, by show _ ≤ 7134099; omega⟩ dL_law_694 (fun ov w' H locs hpost hP hD hS => ?_)
    obtain ⟨w1, ⟨rfl, rfl⟩, rfl⟩ := hpost
    refine W.st (st1 := [.long (f_X4_place ((xs (iN + 1))) ((xs (iN + 2))) (nI B) (nI (S - B)) ix iy iu iv)]) rfl ?_
    have hP : va_P D vwCl (oC cJ ao fo :: (wI cI cJ cZ a n ah pl ck ct (nI K) pm ja (nI n) (nI B) (nI (S - B)) tp st us fb kA tA lx ly gx gy gu gv ++ wM cI cJ cZ am (f_X4_place_fa ((xs (iN + 1))) ((xs (iN + 2))) (nI B) (nI (S - B))) (nI n) (nI B) (nI (S - B)) pl ja ah (nI K) bl bs bk be al tp st mx my kd ky ix iy iu iv)) H := hP
    have hD : va_D A (oC cJ ao fo :: (wI cI cJ cZ a n ah pl ck ct (nI K) pm ja (nI n) (nI B) (nI (S - B)) tp st us fb kA tA lx ly gx gy gu gv ++ wM cI cJ cZ am (f_X4_place_fa ((xs (iN + 1))) ((xs (iN + 2))) (nI B) (nI (S - B))) (nI n) (nI B) (nI (S - B)) pl ja ah (nI K) bl bs bk be al tp st mx my kd ky ix iy iu iv)) := hD
    refine lv_lstore (lv' := [(6, .long (f_X4_place ((xs (iN + 1))) ((xs (iN + 2))) (nI B) (nI (S - B)) ix iy iu iv)), (5, .int 1), (4, .int (nI iN)), (3, .ref ao), (2, .ref (am 0)), (1, .ref (a 0)), (0, .ref sb)]) hx hb dL_law_697 hl (by decide) rfl (fun ls hl => ?_)
    refine lv_aload_n hx hb dL_law_699 rfl (lv_at hl 4 rfl) ?_
    refine rdV (As := []) (rest := []) (st1 := [.int (f_X4_thrown (f_X4_place_fa ((xs (iN + 1))) ((xs (iN + 2))) (nI B) (nI (S - B))))]) (RD.frame (w := (oC cJ ao fo :: (wI cI cJ cZ a n ah pl ck ct (nI K) pm ja (nI n) (nI B) (nI (S - B)) tp st us fb kA tA lx ly gx gy gu gv ++ wM cI cJ cZ am (f_X4_place_fa ((xs (iN + 1))) ((xs (iN + 2))) (nI B) (nI (S - B))) (nI n) (nI B) (nI (S - B)) pl ja ah (nI K) bl bs bk be al tp st mx my kd ky ix iy iu iv))) (k_X4_thrown l D cI cJ cZ am (f_X4_place_fa ((xs (iN + 1))) ((xs (iN + 2))) (nI B) (nI (S - B))) (nI n) (nI B) (nI (S - B)) pl ja ah (nI K) bl bs bk be al tp st mx my kd ky ix iy iu iv) [17, 18, 19, 20, 21, 22, 23, 24, 25, 26, 27, 28] rfl) (si_L_58 ht ⟨Nat.le_of_ble_eq_true rfl, Nat.le_of_ble_eq_true rfl⟩) hx hb hml hown (va_recv hK hP (ci := 5) (q0 := 17) rfl rfl) (hE.since hS) hP hK rfl hl.1 rfl (Nat.le_of_ble_eq_true rfl) ⟨by show _ ≤ 653990; omega, by show _ ≤ 7134099; omega⟩ dL_law_700 rfl ?_
    refine lv_iload hx hb dL_law_703 (lv_at hl 1 rfl) ?_
    refine lv_icmp_eq (tgt := 710) hx hb dL_law_705 (by decide) (fun _ => ?_) (fun c => absurd ef c)
    refine lv_iload hx hb dL_law_710 (lv_at hl 1 rfl) ?_
    refine lv_if_ne (tgt := 726) hx hb dL_law_712 (by decide) (fun _ => ?_) (fun c => absurd c (by decide))
    refine lv_goto (tgt := 953) hx hb dL_law_726 (by decide) ?_
    have hP : va_P D vwCl (oC cJ ao fo :: (wI cI cJ cZ a n ah pl ck ct (nI K) pm ja (nI n) (nI B) (nI (S - B)) tp st us fb kA tA lx ly gx gy gu gv ++ wM cI cJ cZ am (f_X4_place_fa ((xs (iN + 1))) ((xs (iN + 2))) (nI B) (nI (S - B))) (nI n) (nI B) (nI (S - B)) pl ja ah (nI K) bl bs bk be al tp st mx my kd ky ix iy iu iv)) H := hP
    have hD : va_D A (oC cJ ao fo :: (wI cI cJ cZ a n ah pl ck ct (nI K) pm ja (nI n) (nI B) (nI (S - B)) tp st us fb kA tA lx ly gx gy gu gv ++ wM cI cJ cZ am (f_X4_place_fa ((xs (iN + 1))) ((xs (iN + 2))) (nI B) (nI (S - B))) (nI n) (nI B) (nI (S - B)) pl ja ah (nI K) bl bs bk be al tp st mx my kd ky ix iy iu iv)) := hD
    refine W.widen (k := cells + 1) (n := slots + 6) (by omega) (by omega) ?_
    exact kk (oC cJ ao fo :: (wI cI cJ cZ a n ah pl ck ct (nI K) pm ja (nI n) (nI B) (nI (S - B)) tp st us fb kA tA lx ly gx gy gu gv ++ wM cI cJ cZ am (f_X4_place_fa ((xs (iN + 1))) ((xs (iN + 2))) (nI B) (nI (S - B))) (nI n) (nI B) (nI (S - B)) pl ja ah (nI K) bl bs bk be al tp st mx my kd ky ix iy iu iv)) H _ ls ⟨_, _, _, _, _, _, _, _, _, _, _, _, _, _, _, _, _, _, _, _, _, _, _, _, _, _, _, _, _, _, _, _, _, _, _, _, (RE_X (by omega) hR), rfl⟩ hP hD hS (lv_sub hl [2, 3, 4, 5, 6] rfl)
  · by_cases hk : f_X3_isWithin (xs (iN + 2)) 0 3 = 0
    · skip
      have ef := r_placeA hh hk
      refine lv_aload_n hx hb dL_law_662 rfl (lv_at hl 3 rfl) ?_
      refine lv_aload_n hx hb dL_law_663 rfl (lv_at hl 4 rfl) ?_
      refine lv_iload hx hb dL_law_664 (lv_at hl 0 rfl) ?_
      refine lv_iconst (v := 1) hx hb dL_law_666 (by decide) ?_
      refine lv_iadd hx hb dL_law_667 ?_
      refine va_sld hx hb hX hbl hbA hS (in_of (sc_1 iN) (by omega) (by omega)) dL_law_668 ?_
      refine W.st (st1 := [.int (xs (iN + 1)), .ref (a 0)]) (by rw [cl_of (sc_1 iN) (by omega)]) ?_
      refine lv_aload_n hx hb dL_law_669 rfl (lv_at hl 4 rfl) ?_
      refine lv_iload hx hb dL_law_670 (lv_at hl 0 rfl) ?_
      refine lv_iconst (v := 2) hx hb dL_law_672 (by decide) ?_
      refine lv_iadd hx hb dL_law_673 ?_
      refine va_sld hx hb hX hbl hbA hS (in_of (sc_2 iN) (by omega) (by omega)) dL_law_674 ?_
      refine W.st (st1 := [.int (xs (iN + 2)), .int (xs (iN + 1)), .ref (a 0)]) (by rw [cl_of (sc_2 iN) (by omega)]) ?_
      refine lv_aload_n hx hb dL_law_675 rfl (lv_at hl 1 rfl) ?_
      refine cwr2 (rest := []) (runSH (n := 4) (As := [.ref (a 0), .int (xs (iN + 1)), .int (xs (iN + 2)), .ref ao]) (rest := []) (WRH.frame (w := (oC cJ ao fo :: (wI cI cJ cZ a n ah pl ck ct (nI K) pm ja (nI n) (nI B) (nI (S - B)) tp st us fb kA tA lx ly gx gy gu gv ++ wM cI cJ cZ am fa (nI n) (nI B) (nI (S - B)) pl ja ah (nI K) bl bs bk be al tp st mx my kd ky ix iy iu iv))) (wr := wM cI cJ cZ am fa (nI n) (nI B) (nI (S - B)) pl ja ah (nI K) bl bs bk be al tp st mx my kd ky ix iy iu iv) (t_L_placeA l hnt D cI cJ cZ a n ah pl ck ct (nI K) pm ja (nI n) (nI B) (nI (S - B)) tp st us fb kA tA lx ly gx gy gu gv ao fo ((xs (iN + 1))) ((xs (iN + 2))) hh (out_4 hk)) [0, 1, 2, 3, 4, 5, 6, 7, 8, 9, 10, 11, 12, 13, 14, 15, 16] [17, 18, 19, 20, 21, 22, 23, 24, 25, 26, 27, 28] rfl rfl (by decide) (by decide) (by decide)) ht (fun U a h => cw_L_place h) (fun U a h => ini_L h) (ml_L_102 ht) (sm_L_place ht) ⟨by decide +kernel, by decide +kernel, by decide +kernel⟩ ⟨Nat.le_of_ble_eq_true rfl, Nat.le_of_ble_eq_true rfl⟩ hx hb hml hown hE hP hK hD hS hA rfl hl.1 rfl (Nat.le_of_ble_eq_true rfl) ⟨by show _ ≤ 653990; omega, by show _ ≤ 7134099; omega⟩ dL_law_676) hD hS hA (fun ov w' H locs hpost hP hD hS => ?_)
      obtain ⟨w1, ⟨rfl, rfl⟩, rfl⟩ := hpost
      refine W.st (st1 := [.int 1]) rfl ?_
      have hP : va_P D vwCl (wM cI cJ cZ am fa (nI n) (nI B) (nI (S - B)) pl ja ah (nI K) bl bs bk be al tp st mx my kd ky ix iy iu iv ++ (oC cJ ao fo :: wI cI cJ cZ a n ah pl ck ct (nI K) pm ja (nI n) (nI B) (nI (S - B)) tp st us fb kA tA lx ly gx gy gu gv)) H := hP
      have hD : va_D A (wM cI cJ cZ am fa (nI n) (nI B) (nI (S - B)) pl ja ah (nI K) bl bs bk be al tp st mx my kd ky ix iy iu iv ++ (oC cJ ao fo :: wI cI cJ cZ a n ah pl ck ct (nI K) pm ja (nI n) (nI B) (nI (S - B)) tp st us fb kA tA lx ly gx gy gu gv)) := hD
      refine lv_istore (lv' := [(5, .int 1), (4, .int (nI iN)), (3, .ref ao), (2, .ref (am 0)), (1, .ref (a 0)), (0, .ref sb)]) hx hb dL_law_679 hl (by decide) rfl (fun ls hl => ?_)
      refine lv_aload_n hx hb dL_law_681 rfl (lv_at hl 3 rfl) ?_
      refine lv_aload_n hx hb dL_law_682 rfl (lv_at hl 5 rfl) ?_
      refine lv_iload hx hb dL_law_683 (lv_at hl 1 rfl) ?_
      refine lv_iconst (v := 1) hx hb dL_law_685 (by decide) ?_
      refine lv_iadd hx hb dL_law_686 ?_
      refine va_sld hx hb hX hbl hbA hS (in_of (sc_1 iN) (by omega) (by omega)) dL_law_687 ?_
      refine W.st (st1 := [.int (xs (iN + 1)), .ref (am 0)]) (by rw [cl_of (sc_1 iN) (by omega)]) ?_
      refine lv_aload_n hx hb dL_law_688 rfl (lv_at hl 5 rfl) ?_
      refine lv_iload hx hb dL_law_689 (lv_at hl 1 rfl) ?_
      refine lv_iconst (v := 2) hx hb dL_law_691 (by decide) ?_
      refine lv_iadd hx hb dL_law_692 ?_
      refine va_sld hx hb hX hbl hbA hS (in_of (sc_2 iN) (by omega) (by omega)) dL_law_693 ?_
      refine W.st (st1 := [.int (xs (iN + 2)), .int (xs (iN + 1)), .ref (am 0)]) (by rw [cl_of (sc_2 iN) (by omega)]) ?_
      refine wrV (As := [.int (xs (iN + 1)), .int (xs (iN + 2))]) (rest := []) (WR.frame (w := (wM cI cJ cZ am fa (nI n) (nI B) (nI (S - B)) pl ja ah (nI K) bl bs bk be al tp st mx my kd ky ix iy iu iv ++ (oC cJ ao fo :: wI cI cJ cZ a n ah pl ck ct (nI K) pm ja (nI n) (nI B) (nI (S - B)) tp st us fb kA tA lx ly gx gy gu gv))) (wr := (oC cJ ao fo :: wI cI cJ cZ a n ah pl ck ct (nI K) pm ja (nI n) (nI B) (nI (S - B)) tp st us fb kA tA lx ly gx gy gu gv)) (k_X4_place l D cI cJ cZ am fa (nI n) (nI B) (nI (S - B)) pl ja ah (nI K) bl bs bk be al tp st mx my kd ky ix iy iu iv ((xs (iN + 1))) ((xs (iN + 2))) (fun h => (q_st hBS hSn hn h).2.1)) [0, 1, 2, 3, 4, 5, 6, 7, 8, 9, 10, 11] [12, 13, 14, 15, 16, 17, 18, 19, 20, 21, 22, 23, 24, 25, 26, 27, 28] rfl rfl (by decide) (by decide) (by decide)) (si_L_104 ht ⟨Nat.le_of_ble_eq_true rfl, Nat.le_of_ble_eq_true rfl⟩) hx hb hml hown (va_recv hK hP (ci := 5) (q0 := 0) rfl rfl) hE hP hK hD hS hA rfl hl.1 rfl (Nat.le_of_ble_eq_true rfl) ⟨by show _ ≤ 653990; omega, by show _ ≤ 7134099; omega⟩ dL_law_694 (fun ov w' H locs hpost hP hD hS => ?_)
      obtain ⟨w1, ⟨rfl, rfl⟩, rfl⟩ := hpost
      refine W.st (st1 := [.long (f_X4_place ((xs (iN + 1))) ((xs (iN + 2))) (nI B) (nI (S - B)) ix iy iu iv)]) rfl ?_
      have hP : va_P D vwCl (oC cJ ao fo :: (wI cI cJ cZ a n ah pl ck ct (nI K) pm ja (nI n) (nI B) (nI (S - B)) tp st us fb kA tA lx ly gx gy gu gv ++ wM cI cJ cZ am (f_X4_place_fa ((xs (iN + 1))) ((xs (iN + 2))) (nI B) (nI (S - B))) (nI n) (nI B) (nI (S - B)) pl ja ah (nI K) bl bs bk be al tp st mx my kd ky ix iy iu iv)) H := hP
      have hD : va_D A (oC cJ ao fo :: (wI cI cJ cZ a n ah pl ck ct (nI K) pm ja (nI n) (nI B) (nI (S - B)) tp st us fb kA tA lx ly gx gy gu gv ++ wM cI cJ cZ am (f_X4_place_fa ((xs (iN + 1))) ((xs (iN + 2))) (nI B) (nI (S - B))) (nI n) (nI B) (nI (S - B)) pl ja ah (nI K) bl bs bk be al tp st mx my kd ky ix iy iu iv)) := hD
      refine lv_lstore (lv' := [(6, .long (f_X4_place ((xs (iN + 1))) ((xs (iN + 2))) (nI B) (nI (S - B)) ix iy iu iv)), (5, .int 1), (4, .int (nI iN)), (3, .ref ao), (2, .ref (am 0)), (1, .ref (a 0)), (0, .ref sb)]) hx hb dL_law_697 hl (by decide) rfl (fun ls hl => ?_)
      refine lv_aload_n hx hb dL_law_699 rfl (lv_at hl 4 rfl) ?_
      refine rdV (As := []) (rest := []) (st1 := [.int (f_X4_thrown (f_X4_place_fa ((xs (iN + 1))) ((xs (iN + 2))) (nI B) (nI (S - B))))]) (RD.frame (w := (oC cJ ao fo :: (wI cI cJ cZ a n ah pl ck ct (nI K) pm ja (nI n) (nI B) (nI (S - B)) tp st us fb kA tA lx ly gx gy gu gv ++ wM cI cJ cZ am (f_X4_place_fa ((xs (iN + 1))) ((xs (iN + 2))) (nI B) (nI (S - B))) (nI n) (nI B) (nI (S - B)) pl ja ah (nI K) bl bs bk be al tp st mx my kd ky ix iy iu iv))) (k_X4_thrown l D cI cJ cZ am (f_X4_place_fa ((xs (iN + 1))) ((xs (iN + 2))) (nI B) (nI (S - B))) (nI n) (nI B) (nI (S - B)) pl ja ah (nI K) bl bs bk be al tp st mx my kd ky ix iy iu iv) [17, 18, 19, 20, 21, 22, 23, 24, 25, 26, 27, 28] rfl) (si_L_58 ht ⟨Nat.le_of_ble_eq_true rfl, Nat.le_of_ble_eq_true rfl⟩) hx hb hml hown (va_recv hK hP (ci := 5) (q0 := 17) rfl rfl) (hE.since hS) hP hK rfl hl.1 rfl (Nat.le_of_ble_eq_true rfl) ⟨by show _ ≤ 653990; omega, by show _ ≤ 7134099; omega⟩ dL_law_700 rfl ?_
      refine lv_iload hx hb dL_law_703 (lv_at hl 1 rfl) ?_
      refine lv_icmp_eq (tgt := 710) hx hb dL_law_705 (by decide) (fun _ => ?_) (fun c => absurd ef c)
      refine lv_iload hx hb dL_law_710 (lv_at hl 1 rfl) ?_
      refine lv_if_ne (tgt := 726) hx hb dL_law_712 (by decide) (fun _ => ?_) (fun c => absurd c (by decide))
      refine lv_goto (tgt := 953) hx hb dL_law_726 (by decide) ?_
      have hP : va_P D vwCl (oC cJ ao fo :: (wI cI cJ cZ a n ah pl ck ct (nI K) pm ja (nI n) (nI B) (nI (S - B)) tp st us fb kA tA lx ly gx gy gu gv ++ wM cI cJ cZ am (f_X4_place_fa ((xs (iN + 1))) ((xs (iN + 2))) (nI B) (nI (S - B))) (nI n) (nI B) (nI (S - B)) pl ja ah (nI K) bl bs bk be al tp st mx my kd ky ix iy iu iv)) H := hP
      have hD : va_D A (oC cJ ao fo :: (wI cI cJ cZ a n ah pl ck ct (nI K) pm ja (nI n) (nI B) (nI (S - B)) tp st us fb kA tA lx ly gx gy gu gv ++ wM cI cJ cZ am (f_X4_place_fa ((xs (iN + 1))) ((xs (iN + 2))) (nI B) (nI (S - B))) (nI n) (nI B) (nI (S - B)) pl ja ah (nI K) bl bs bk be al tp st mx my kd ky ix iy iu iv)) := hD
      refine W.widen (k := cells + 1) (n := slots + 6) (by omega) (by omega) ?_
      exact kk (oC cJ ao fo :: (wI cI cJ cZ a n ah pl ck ct (nI K) pm ja (nI n) (nI B) (nI (S - B)) tp st us fb kA tA lx ly gx gy gu gv ++ wM cI cJ cZ am (f_X4_place_fa ((xs (iN + 1))) ((xs (iN + 2))) (nI B) (nI (S - B))) (nI n) (nI B) (nI (S - B)) pl ja ah (nI K) bl bs bk be al tp st mx my kd ky ix iy iu iv)) H _ ls ⟨_, _, _, _, _, _, _, _, _, _, _, _, _, _, _, _, _, _, _, _, _, _, _, _, _, _, _, _, _, _, _, _, _, _, _, _, (RE_X (by omega) hR), rfl⟩ hP hD hS (lv_sub hl [2, 3, 4, 5, 6] rfl)
    · skip
      obtain ⟨ef, ea⟩ := r_place hR hh hk
      refine lv_aload_n hx hb dL_law_662 rfl (lv_at hl 3 rfl) ?_
      refine lv_aload_n hx hb dL_law_663 rfl (lv_at hl 4 rfl) ?_
      refine lv_iload hx hb dL_law_664 (lv_at hl 0 rfl) ?_
      refine lv_iconst (v := 1) hx hb dL_law_666 (by decide) ?_
      refine lv_iadd hx hb dL_law_667 ?_
      refine va_sld hx hb hX hbl hbA hS (in_of (sc_1 iN) (by omega) (by omega)) dL_law_668 ?_
      refine W.st (st1 := [.int (xs (iN + 1)), .ref (a 0)]) (by rw [cl_of (sc_1 iN) (by omega)]) ?_
      refine lv_aload_n hx hb dL_law_669 rfl (lv_at hl 4 rfl) ?_
      refine lv_iload hx hb dL_law_670 (lv_at hl 0 rfl) ?_
      refine lv_iconst (v := 2) hx hb dL_law_672 (by decide) ?_
      refine lv_iadd hx hb dL_law_673 ?_
      refine va_sld hx hb hX hbl hbA hS (in_of (sc_2 iN) (by omega) (by omega)) dL_law_674 ?_
      refine W.st (st1 := [.int (xs (iN + 2)), .int (xs (iN + 1)), .ref (a 0)]) (by rw [cl_of (sc_2 iN) (by omega)]) ?_
      refine lv_aload_n hx hb dL_law_675 rfl (lv_at hl 1 rfl) ?_
      refine cwr2 (rest := []) (runSH (n := 4) (As := [.ref (a 0), .int (xs (iN + 1)), .int (xs (iN + 2)), .ref ao]) (rest := []) (WRH.frame (w := (oC cJ ao fo :: (wI cI cJ cZ a n ah pl ck ct (nI K) pm ja (nI n) (nI B) (nI (S - B)) tp st us fb kA tA lx ly gx gy gu gv ++ wM cI cJ cZ am fa (nI n) (nI B) (nI (S - B)) pl ja ah (nI K) bl bs bk be al tp st mx my kd ky ix iy iu iv))) (wr := wM cI cJ cZ am fa (nI n) (nI B) (nI (S - B)) pl ja ah (nI K) bl bs bk be al tp st mx my kd ky ix iy iu iv) (k_L_place l D cI cJ cZ a n ah pl ck ct (nI K) pm ja (nI n) (nI B) (nI (S - B)) tp st us fb kA tA lx ly gx gy gu gv ao fo ((xs (iN + 1))) ((xs (iN + 2))) hh (in_4 hk) (q_st hBS hSn hn hh).2.2) [0, 1, 2, 3, 4, 5, 6, 7, 8, 9, 10, 11, 12, 13, 14, 15, 16] [17, 18, 19, 20, 21, 22, 23, 24, 25, 26, 27, 28] rfl rfl (by decide) (by decide) (by decide)) ht (fun U a h => cw_L_place h) (fun U a h => ini_L h) (ml_L_102 ht) (sm_L_place ht) ⟨by decide +kernel, by decide +kernel, by decide +kernel⟩ ⟨Nat.le_of_ble_eq_true rfl, Nat.le_of_ble_eq_true rfl⟩ hx hb hml hown hE hP hK hD hS hA rfl hl.1 rfl (Nat.le_of_ble_eq_true rfl) ⟨by show _ ≤ 653990; omega, by show _ ≤ 7134099; omega⟩ dL_law_676) hD hS hA (fun ov w' H locs hpost hP hD hS => ?_)
      obtain ⟨w1, ⟨rfl, rfl⟩, rfl⟩ := hpost
      refine W.st (st1 := [.int 0]) rfl ?_
      have hP : va_P D vwCl (wM cI cJ cZ am fa (nI n) (nI B) (nI (S - B)) pl ja ah (nI K) bl bs bk be al tp st mx my kd ky ix iy iu iv ++ (oC cJ ao (vp_updL fo 0 (f_X3_place ((xs (iN + 1))) ((xs (iN + 2))) gx gy gu gv)) :: wI cI cJ cZ a n ah pl ck ct (nI K) pm ja (nI n) (nI B) (nI (S - B)) tp st us fb kA tA lx ly gx gy gu gv)) H := hP
      have hD : va_D A (wM cI cJ cZ am fa (nI n) (nI B) (nI (S - B)) pl ja ah (nI K) bl bs bk be al tp st mx my kd ky ix iy iu iv ++ (oC cJ ao (vp_updL fo 0 (f_X3_place ((xs (iN + 1))) ((xs (iN + 2))) gx gy gu gv)) :: wI cI cJ cZ a n ah pl ck ct (nI K) pm ja (nI n) (nI B) (nI (S - B)) tp st us fb kA tA lx ly gx gy gu gv)) := hD
      refine lv_istore (lv' := [(5, .int 0), (4, .int (nI iN)), (3, .ref ao), (2, .ref (am 0)), (1, .ref (a 0)), (0, .ref sb)]) hx hb dL_law_679 hl (by decide) rfl (fun ls hl => ?_)
      refine lv_aload_n hx hb dL_law_681 rfl (lv_at hl 3 rfl) ?_
      refine lv_aload_n hx hb dL_law_682 rfl (lv_at hl 5 rfl) ?_
      refine lv_iload hx hb dL_law_683 (lv_at hl 1 rfl) ?_
      refine lv_iconst (v := 1) hx hb dL_law_685 (by decide) ?_
      refine lv_iadd hx hb dL_law_686 ?_
      refine va_sld hx hb hX hbl hbA hS (in_of (sc_1 iN) (by omega) (by omega)) dL_law_687 ?_
      refine W.st (st1 := [.int (xs (iN + 1)), .ref (am 0)]) (by rw [cl_of (sc_1 iN) (by omega)]) ?_
      refine lv_aload_n hx hb dL_law_688 rfl (lv_at hl 5 rfl) ?_
      refine lv_iload hx hb dL_law_689 (lv_at hl 1 rfl) ?_
      refine lv_iconst (v := 2) hx hb dL_law_691 (by decide) ?_
      refine lv_iadd hx hb dL_law_692 ?_
      refine va_sld hx hb hX hbl hbA hS (in_of (sc_2 iN) (by omega) (by omega)) dL_law_693 ?_
      refine W.st (st1 := [.int (xs (iN + 2)), .int (xs (iN + 1)), .ref (am 0)]) (by rw [cl_of (sc_2 iN) (by omega)]) ?_
      refine wrV (As := [.int (xs (iN + 1)), .int (xs (iN + 2))]) (rest := []) (WR.frame (w := (wM cI cJ cZ am fa (nI n) (nI B) (nI (S - B)) pl ja ah (nI K) bl bs bk be al tp st mx my kd ky ix iy iu iv ++ (oC cJ ao (vp_updL fo 0 (f_X3_place ((xs (iN + 1))) ((xs (iN + 2))) gx gy gu gv)) :: wI cI cJ cZ a n ah pl ck ct (nI K) pm ja (nI n) (nI B) (nI (S - B)) tp st us fb kA tA lx ly gx gy gu gv))) (wr := (oC cJ ao (vp_updL fo 0 (f_X3_place ((xs (iN + 1))) ((xs (iN + 2))) gx gy gu gv)) :: wI cI cJ cZ a n ah pl ck ct (nI K) pm ja (nI n) (nI B) (nI (S - B)) tp st us fb kA tA lx ly gx gy gu gv)) (k_X4_place l D cI cJ cZ am fa (nI n) (nI B) (nI (S - B)) pl ja ah (nI K) bl bs bk be al tp st mx my kd ky ix iy iu iv ((xs (iN + 1))) ((xs (iN + 2))) (fun h => (q_st hBS hSn hn h).2.1)) [0, 1, 2, 3, 4, 5, 6, 7, 8, 9, 10, 11] [12, 13, 14, 15, 16, 17, 18, 19, 20, 21, 22, 23, 24, 25, 26, 27, 28] rfl rfl (by decide) (by decide) (by decide)) (si_L_104 ht ⟨Nat.le_of_ble_eq_true rfl, Nat.le_of_ble_eq_true rfl⟩) hx hb hml hown (va_recv hK hP (ci := 5) (q0 := 0) rfl rfl) hE hP hK hD hS hA rfl hl.1 rfl (Nat.le_of_ble_eq_true rfl) ⟨by show _ ≤ 653990; omega, by show _ ≤ 7134099; omega⟩ dL_law_694 (fun ov w' H locs hpost hP hD hS => ?_)
      obtain ⟨w1, ⟨rfl, rfl⟩, rfl⟩ := hpost
      refine W.st (st1 := [.long (f_X4_place ((xs (iN + 1))) ((xs (iN + 2))) (nI B) (nI (S - B)) ix iy iu iv)]) rfl ?_
      have hP : va_P D vwCl (oC cJ ao (vp_updL fo 0 (f_X3_place ((xs (iN + 1))) ((xs (iN + 2))) gx gy gu gv)) :: (wI cI cJ cZ a n ah pl ck ct (nI K) pm ja (nI n) (nI B) (nI (S - B)) tp st us fb kA tA lx ly gx gy gu gv ++ wM cI cJ cZ am (f_X4_place_fa ((xs (iN + 1))) ((xs (iN + 2))) (nI B) (nI (S - B))) (nI n) (nI B) (nI (S - B)) pl ja ah (nI K) bl bs bk be al tp st mx my kd ky ix iy iu iv)) H := hP
      have hD : va_D A (oC cJ ao (vp_updL fo 0 (f_X3_place ((xs (iN + 1))) ((xs (iN + 2))) gx gy gu gv)) :: (wI cI cJ cZ a n ah pl ck ct (nI K) pm ja (nI n) (nI B) (nI (S - B)) tp st us fb kA tA lx ly gx gy gu gv ++ wM cI cJ cZ am (f_X4_place_fa ((xs (iN + 1))) ((xs (iN + 2))) (nI B) (nI (S - B))) (nI n) (nI B) (nI (S - B)) pl ja ah (nI K) bl bs bk be al tp st mx my kd ky ix iy iu iv)) := hD
      refine lv_lstore (lv' := [(6, .long (f_X4_place ((xs (iN + 1))) ((xs (iN + 2))) (nI B) (nI (S - B)) ix iy iu iv)), (5, .int 0), (4, .int (nI iN)), (3, .ref ao), (2, .ref (am 0)), (1, .ref (a 0)), (0, .ref sb)]) hx hb dL_law_697 hl (by decide) rfl (fun ls hl => ?_)
      refine lv_aload_n hx hb dL_law_699 rfl (lv_at hl 4 rfl) ?_
      refine rdV (As := []) (rest := []) (st1 := [.int (f_X4_thrown (f_X4_place_fa ((xs (iN + 1))) ((xs (iN + 2))) (nI B) (nI (S - B))))]) (RD.frame (w := (oC cJ ao (vp_updL fo 0 (f_X3_place ((xs (iN + 1))) ((xs (iN + 2))) gx gy gu gv)) :: (wI cI cJ cZ a n ah pl ck ct (nI K) pm ja (nI n) (nI B) (nI (S - B)) tp st us fb kA tA lx ly gx gy gu gv ++ wM cI cJ cZ am (f_X4_place_fa ((xs (iN + 1))) ((xs (iN + 2))) (nI B) (nI (S - B))) (nI n) (nI B) (nI (S - B)) pl ja ah (nI K) bl bs bk be al tp st mx my kd ky ix iy iu iv))) (k_X4_thrown l D cI cJ cZ am (f_X4_place_fa ((xs (iN + 1))) ((xs (iN + 2))) (nI B) (nI (S - B))) (nI n) (nI B) (nI (S - B)) pl ja ah (nI K) bl bs bk be al tp st mx my kd ky ix iy iu iv) [17, 18, 19, 20, 21, 22, 23, 24, 25, 26, 27, 28] rfl) (si_L_58 ht ⟨Nat.le_of_ble_eq_true rfl, Nat.le_of_ble_eq_true rfl⟩) hx hb hml hown (va_recv hK hP (ci := 5) (q0 := 17) rfl rfl) (hE.since hS) hP hK rfl hl.1 rfl (Nat.le_of_ble_eq_true rfl) ⟨by show _ ≤ 653990; omega, by show _ ≤ 7134099; omega⟩ dL_law_700 rfl ?_
      refine lv_iload hx hb dL_law_703 (lv_at hl 1 rfl) ?_
      refine lv_icmp_eq (tgt := 710) hx hb dL_law_705 (by decide) (fun _ => ?_) (fun c => absurd ef c)
      refine lv_iload hx hb dL_law_710 (lv_at hl 1 rfl) ?_
      refine lv_if_ne (tgt := 726) hx hb dL_law_712 (by decide) (fun c => absurd rfl c) (fun _ => ?_)
      refine lv_aload_n hx hb dL_law_715 rfl (lv_at hl 3 rfl) ?_
      refine lv_iconst (v := 0) hx hb dL_law_716 (by decide) ?_
      refine va_lald hx hb hK hP 0 1 rfl rfl (in_of (i := 0) nI_0.symm (by decide) (by decide)) dL_law_717 ?_
      refine W.st (st1 := [.long (f_X3_place ((xs (iN + 1))) ((xs (iN + 2))) gx gy gu gv)]) rfl ?_
      refine lv_lload hx hb dL_law_718 (lv_at hl 0 rfl) ?_
      refine W.lcmp hx hb dL_law_720 ?_
      refine lv_if_eq (tgt := 726) hx hb dL_law_721 (by decide) (fun _ => ?_) (fun c => absurd ((lg_cmp_eq _ _).mpr ea) c)
      refine lv_goto (tgt := 953) hx hb dL_law_726 (by decide) ?_
      have hP : va_P D vwCl (oC cJ ao (vp_updL fo 0 (f_X3_place ((xs (iN + 1))) ((xs (iN + 2))) gx gy gu gv)) :: (wI cI cJ cZ a n ah pl ck ct (nI K) pm ja (nI n) (nI B) (nI (S - B)) tp st us fb kA tA lx ly gx gy gu gv ++ wM cI cJ cZ am (f_X4_place_fa ((xs (iN + 1))) ((xs (iN + 2))) (nI B) (nI (S - B))) (nI n) (nI B) (nI (S - B)) pl ja ah (nI K) bl bs bk be al tp st mx my kd ky ix iy iu iv)) H := hP
      have hD : va_D A (oC cJ ao (vp_updL fo 0 (f_X3_place ((xs (iN + 1))) ((xs (iN + 2))) gx gy gu gv)) :: (wI cI cJ cZ a n ah pl ck ct (nI K) pm ja (nI n) (nI B) (nI (S - B)) tp st us fb kA tA lx ly gx gy gu gv ++ wM cI cJ cZ am (f_X4_place_fa ((xs (iN + 1))) ((xs (iN + 2))) (nI B) (nI (S - B))) (nI n) (nI B) (nI (S - B)) pl ja ah (nI K) bl bs bk be al tp st mx my kd ky ix iy iu iv)) := hD
      refine W.widen (k := cells + 1) (n := slots + 6) (by omega) (by omega) ?_
      exact kk (oC cJ ao (vp_updL fo 0 (f_X3_place ((xs (iN + 1))) ((xs (iN + 2))) gx gy gu gv)) :: (wI cI cJ cZ a n ah pl ck ct (nI K) pm ja (nI n) (nI B) (nI (S - B)) tp st us fb kA tA lx ly gx gy gu gv ++ wM cI cJ cZ am (f_X4_place_fa ((xs (iN + 1))) ((xs (iN + 2))) (nI B) (nI (S - B))) (nI n) (nI B) (nI (S - B)) pl ja ah (nI K) bl bs bk be al tp st mx my kd ky ix iy iu iv)) H _ ls ⟨_, _, _, _, _, _, _, _, _, _, _, _, _, _, _, _, _, _, _, _, _, _, _, _, _, _, _, _, _, _, _, _, _, _, _, _, (RE_X (by omega) hR), rfl⟩ hP hD hS (lv_sub hl [2, 3, 4, 5, 6] rfl)
