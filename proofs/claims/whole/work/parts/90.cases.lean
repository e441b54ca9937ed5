theorem q_sv {B S rn : Nat} {r : Int32} (er : r = nI rn) (hB : B < 2 ^ 31) (hrn : rn < 2 ^ 31) (h : f_X2_stateAt r (nI B) (nI (S - B)) = 2) : rn ≤ B := by
  have h1 := stat2.mp h
  rw [er, nI_leI hB hrn] at h1
  omega
theorem q_rp {B S rn : Nat} {r : Int32} (hBS : B ≤ S) (er : r = nI rn) (hS : S < 2 ^ 31) (hrn : rn < 2 ^ 31) (h : f_X2_stateAt r (nI B) (nI (S - B)) = 1) : rn < S := by
  have h1 := (stat1.mp h).2
  rw [er, st_eq hBS, nI_leI hS hrn] at h1
  omega
set_option maxRecDepth 20000 in
set_option maxHeartbeats 4000000 in
theorem cs_allow {p : Program} {e : Env} {s : State} {m : MethodId} {below : List Frame} {meth : Method} {c : Code} (l : Launch) (hnt : ∀ e : Env, l.admits e → e.platform.stackTraces = false) {sb L : Nat} {xs : Nat → Int32} {D : va_G} {cI cJ cZ : ClassId} {A : Nat → Prop} {Q : State → Prop} (hC : LX p s m c sb L xs D cI cJ cZ A) {X : Int} (hX5 : 0 ≤ X ∧ X ≤ 60000000) {a am : Nat → Nat} {ao n iN : Nat} (hi : iN + 4 ≤ L) {w : va_W} (hw : LI X cI cJ cZ a am ao n w) {ls : Array Slot} (hl : lv_has ls 8 [(4, .int (nI iN)), (3, .ref ao), (2, .ref (am 0)), (1, .ref (a 0)), (0, .ref sb)]) {H : Heap} {locs : List Loc} (hP : va_P D vwCl w H) (hD : va_D A w) (hS : va_S A s.heap H locs) {cells slots : Nat} (hc : cells + 1 ≤ 653990) (hs : slots + 6 ≤ 7134099)
    (kk : ∀ (w' : va_W) (H' : Heap) (locs' : List Loc) (ls' : Array Slot), LI (X + 100000) cI cJ cZ a am ao n w' → va_P D vwCl w' H' → va_D A w' → va_S A s.heap H' locs' → lv_has ls' 8 [(4, .int (nI iN)), (3, .ref ao), (2, .ref (am 0)), (1, .ref (a 0)), (0, .ref sb)] → W p l e room_1 s m #[.ref sb] below meth c H' locs' (cells + 1) (slots + 6) Q (F0 m 953 ls' [])) : W p l e room_1 s m #[.ref sb] below meth c H locs cells slots Q (F0 m 323 ls []) := by
  obtain ⟨hx, hb, hml, hown, hX, hbl, hbA, hE, hK, hA, hL⟩ := hC
  have ht : tb_OK s := hE.1
  obtain ⟨B, S, K, ah, pl, ck, ct, pm, ja, tp, st, us, fb, kA, tA, lx, ly, gx, gy, gu, gv, fo, fa, bl, bs, bk, be, al, mx, my, kd, ky, ix, iy, iu, iv, hR, rfl⟩ := hw
  obtain ⟨⟨hn1, hn, hBS, hSn, hK4⟩, hah, hja, ⟨hAL, hpm⟩, hLN, hTP, hPR⟩ := id hR
  have gS := st_eq hBS
  obtain ⟨pm10, fb10, al10, e10, e20, e30, ea0, hR10⟩ := r_allow hR (xs (iN + 1)) 0 (Or.inl rfl)
  obtain ⟨pm11, fb11, al11, e11, e21, e31, ea1, hR11⟩ := r_allow hR (xs (iN + 1)) 1 (Or.inr rfl)
  refine lv_aload_n hx hb dL_law_323 rfl (lv_at hl 3 rfl) ?_
  refine lv_aload_n hx hb dL_law_324 rfl (lv_at hl 4 rfl) ?_
  refine lv_iload hx hb dL_law_325 (lv_at hl 0 rfl) ?_
  refine lv_iconst (v := 1) hx hb dL_law_327 (by decide) ?_
  refine lv_iadd hx hb dL_law_328 ?_
  refine va_sld hx hb hX hbl hbA hS (in_of (sc_1 iN) (by omega) (by omega)) dL_law_329 ?_
  refine W.st (st1 := [.int (xs (iN + 1)), .ref (a 0)]) (by rw [cl_of (sc_1 iN) (by omega)]) ?_
  refine lv_aload_n hx hb dL_law_330 rfl (lv_at hl 4 rfl) ?_
  refine lv_iload hx hb dL_law_331 (lv_at hl 0 rfl) ?_
  refine lv_iconst (v := 2) hx hb dL_law_333 (by decide) ?_
  refine lv_iadd hx hb dL_law_334 ?_
  refine va_sld hx hb hX hbl hbA hS (in_of (sc_2 iN) (by omega) (by omega)) dL_law_335 ?_
  refine W.st (st1 := [.int (xs (iN + 2)), .int (xs (iN + 1)), .ref (a 0)]) (by rw [cl_of (sc_2 iN) (by omega)]) ?_
  refine lv_if_eq (tgt := 343) hx hb dL_law_336 (by decide) (fun cz => ?_) (fun cz => ?_)
  · skip
    refine lv_iconst (v := 0) hx hb dL_law_343 (by decide) ?_
    refine wrV (As := [.int (xs (iN + 1)), .int 0]) (rest := []) (WR.frame (w := (oC cJ ao fo :: (wI cI cJ cZ a n ah pl ck ct (nI K) pm ja (nI n) (nI B) (nI (S - B)) tp st us fb kA tA lx ly gx gy gu gv ++ wM cI cJ cZ am fa (nI n) (nI B) (nI (S - B)) pl ja ah (nI K) bl bs bk be al tp st mx my kd ky ix iy iu iv))) (wr := (oC cJ ao fo :: wM cI cJ cZ am fa (nI n) (nI B) (nI (S - B)) pl ja ah (nI K) bl bs bk be al tp st mx my kd ky ix iy iu iv)) (k_X3_allow l D cI cJ cZ a n ah pl ck ct (nI K) pm ja (nI n) (nI B) (nI (S - B)) tp st us fb kA tA lx ly gx gy gu gv ((xs (iN + 1))) 0 (fun h => q_pos h)) [1, 2, 3, 4, 5, 6, 7, 8, 9, 10, 11, 12, 13, 14, 15, 16] [0, 17, 18, 19, 20, 21, 22, 23, 24, 25, 26, 27, 28] rfl rfl (by decide) (by decide) (by decide)) (si_L_66 ht ⟨Nat.le_of_ble_eq_true rfl, Nat.le_of_ble_eq_true rfl⟩) hx hb hml hown (va_recv hK hP (ci := 4) (q0 := 1) rfl rfl) hE hP hK hD hS hA rfl hl.1 rfl (Nat.le_of_ble_eq_true rfl) ⟨by show _ ≤ 653990; omega, by show _ ≤ 7134099; omega⟩ dL_law_344 (fun ov w' H locs hpost hP hD hS => ?_)
    obtain ⟨w1, ⟨rfl, rfl⟩, rfl⟩ := hpost
    refine W.st (st1 := [.int (f_X3_allow ((xs (iN + 1))) 0 fb)]) rfl ?_
    have hP : va_P D vwCl (oC cJ ao fo :: (wM cI cJ cZ am fa (nI n) (nI B) (nI (S - B)) pl ja ah (nI K) bl bs bk be al tp st mx my kd ky ix iy iu iv ++ wI cI cJ cZ a n ah pl ck ct (nI K) (f_X3_allow_pm ((xs (iN + 1))) 0 pm fb) ja (nI n) (nI B) (nI (S - B)) tp st us (f_X3_allow_fb ((xs (iN + 1))) 0 fb) kA tA lx ly gx gy gu gv)) H := hP
    have hD : va_D A (oC cJ ao fo :: (wM cI cJ cZ am fa (nI n) (nI B) (nI (S - B)) pl ja ah (nI K) bl bs bk be al tp st mx my kd ky ix iy iu iv ++ wI cI cJ cZ a n ah pl ck ct (nI K) (f_X3_allow_pm ((xs (iN + 1))) 0 pm fb) ja (nI n) (nI B) (nI (S - B)) tp st us (f_X3_allow_fb ((xs (iN + 1))) 0 fb) kA tA lx ly gx gy gu gv)) := hD
    refine lv_aload_n hx hb dL_law_347 rfl (lv_at hl 2 rfl) ?_
    refine lv_aload_n hx hb dL_law_348 rfl (lv_at hl 4 rfl) ?_
    refine lv_iload hx hb dL_law_349 (lv_at hl 0 rfl) ?_
    refine lv_iconst (v := 1) hx hb dL_law_351 (by decide) ?_
    refine lv_iadd hx hb dL_law_352 ?_
    refine va_sld hx hb hX hbl hbA hS (in_of (sc_1 iN) (by omega) (by omega)) dL_law_353 ?_
    refine W.st (st1 := [.int (xs (iN + 1)), .ref (am 0), .int (f_X3_allow ((xs (iN + 1))) 0 fb)]) (by rw [cl_of (sc_1 iN) (by omega)]) ?_
    refine lv_aload_n hx hb dL_law_354 rfl (lv_at hl 4 rfl) ?_
    refine lv_iload hx hb dL_law_355 (lv_at hl 0 rfl) ?_
    refine lv_iconst (v := 2) hx hb dL_law_357 (by decide) ?_
    refine lv_iadd hx hb dL_law_358 ?_
    refine va_sld hx hb hX hbl hbA hS (in_of (sc_2 iN) (by omega) (by omega)) dL_law_359 ?_
    refine W.st (st1 := [.int (xs (iN + 2)), .int (xs (iN + 1)), .ref (am 0), .int (f_X3_allow ((xs (iN + 1))) 0 fb)]) (by rw [cl_of (sc_2 iN) (by omega)]) ?_
    refine lv_if_eq (tgt := 367) hx hb dL_law_360 (by decide) (fun _ => ?_) (fun c => absurd cz c)
    refine lv_iconst (v := 0) hx hb dL_law_367 (by decide) ?_
    refine wrV (As := [.int (xs (iN + 1)), .int 0]) (rest := [.int (f_X3_allow ((xs (iN + 1))) 0 fb)]) (WR.frame (w := (oC cJ ao fo :: (wM cI cJ cZ am fa (nI n) (nI B) (nI (S - B)) pl ja ah (nI K) bl bs bk be al tp st mx my kd ky ix iy iu iv ++ wI cI cJ cZ a n ah pl ck ct (nI K) (f_X3_allow_pm ((xs (iN + 1))) 0 pm fb) ja (nI n) (nI B) (nI (S - B)) tp st us (f_X3_allow_fb ((xs (iN + 1))) 0 fb) kA tA lx ly gx gy gu gv))) (wr := (oC cJ ao fo :: wI cI cJ cZ a n ah pl ck ct (nI K) (f_X3_allow_pm ((xs (iN + 1))) 0 pm fb) ja (nI n) (nI B) (nI (S - B)) tp st us (f_X3_allow_fb ((xs (iN + 1))) 0 fb) kA tA lx ly gx gy gu gv)) (k_X4_allow l D cI cJ cZ am fa (nI n) (nI B) (nI (S - B)) pl ja ah (nI K) bl bs bk be al tp st mx my kd ky ix iy iu iv ((xs (iN + 1))) 0 (fun h => q_pos4 h)) [1, 2, 3, 4, 5, 6, 7, 8, 9, 10, 11, 12] [0, 13, 14, 15, 16, 17, 18, 19, 20, 21, 22, 23, 24, 25, 26, 27, 28] rfl rfl (by decide) (by decide) (by decide)) (si_L_70 ht ⟨Nat.le_of_ble_eq_true rfl, Nat.le_of_ble_eq_true rfl⟩) hx hb hml hown (va_recv hK hP (ci := 5) (q0 := 1) rfl rfl) hE hP hK hD hS hA rfl hl.1 rfl (Nat.le_of_ble_eq_true rfl) ⟨by show _ ≤ 653990; omega, by show _ ≤ 7134099; omega⟩ dL_law_368 (fun ov w' H locs hpost hP hD hS => ?_)
    obtain ⟨w1, ⟨rfl, rfl⟩, rfl⟩ := hpost
    refine W.st (st1 := [.int (f_X4_allow ((xs (iN + 1))) 0 al), .int (f_X3_allow ((xs (iN + 1))) 0 fb)]) rfl ?_
    have hP : va_P D vwCl (oC cJ ao fo :: (wI cI cJ cZ a n ah pl ck ct (nI K) (f_X3_allow_pm ((xs (iN + 1))) 0 pm fb) ja (nI n) (nI B) (nI (S - B)) tp st us (f_X3_allow_fb ((xs (iN + 1))) 0 fb) kA tA lx ly gx gy gu gv ++ wM cI cJ cZ am (f_X4_allow_fa ((xs (iN + 1))) 0 al) (nI n) (nI B) (nI (S - B)) pl ja ah (nI K) bl bs bk be (f_X4_allow_al ((xs (iN + 1))) 0 al) tp st mx my kd ky ix iy iu iv)) H := hP
    have hD : va_D A (oC cJ ao fo :: (wI cI cJ cZ a n ah pl ck ct (nI K) (f_X3_allow_pm ((xs (iN + 1))) 0 pm fb) ja (nI n) (nI B) (nI (S - B)) tp st us (f_X3_allow_fb ((xs (iN + 1))) 0 fb) kA tA lx ly gx gy gu gv ++ wM cI cJ cZ am (f_X4_allow_fa ((xs (iN + 1))) 0 al) (nI n) (nI B) (nI (S - B)) pl ja ah (nI K) bl bs bk be (f_X4_allow_al ((xs (iN + 1))) 0 al) tp st mx my kd ky ix iy iu iv)) := hD
    refine lv_icmp_eq (tgt := 953) hx hb dL_law_371 (by decide) (fun _ => ?_) (fun c => absurd ea0 c)
    rw [e10, e20, e30] at hP hD
    have hP : va_P D vwCl (oC cJ ao fo :: (wI cI cJ cZ a n ah pl ck ct (nI K) pm10 ja (nI n) (nI B) (nI (S - B)) tp st us fb10 kA tA lx ly gx gy gu gv ++ wM cI cJ cZ am (f_X4_allow_fa ((xs (iN + 1))) 0 al) (nI n) (nI B) (nI (S - B)) pl ja ah (nI K) bl bs bk be al10 tp st mx my kd ky ix iy iu iv)) H := hP
    have hD : va_D A (oC cJ ao fo :: (wI cI cJ cZ a n ah pl ck ct (nI K) pm10 ja (nI n) (nI B) (nI (S - B)) tp st us fb10 kA tA lx ly gx gy gu gv ++ wM cI cJ cZ am (f_X4_allow_fa ((xs (iN + 1))) 0 al) (nI n) (nI B) (nI (S - B)) pl ja ah (nI K) bl bs bk be al10 tp st mx my kd ky ix iy iu iv)) := hD
    refine W.widen (k := cells + 1) (n := slots + 6) (by omega) (by omega) ?_
    exact kk (oC cJ ao fo :: (wI cI cJ cZ a n ah pl ck ct (nI K) pm10 ja (nI n) (nI B) (nI (S - B)) tp st us fb10 kA tA lx ly gx gy gu gv ++ wM cI cJ cZ am (f_X4_allow_fa ((xs (iN + 1))) 0 al) (nI n) (nI B) (nI (S - B)) pl ja ah (nI K) bl bs bk be al10 tp st mx my kd ky ix iy iu iv)) H _ ls ⟨_, _, _, _, _, _, _, _, _, _, _, _, _, _, _, _, _, _, _, _, _, _, _, _, _, _, _, _, _, _, _, _, _, _, _, _, (RE_X (by omega) hR10), rfl⟩ hP hD hS (lv_sub hl [0, 1, 2, 3, 4] rfl)
  · skip
    refine lv_iconst (v := 1) hx hb dL_law_339 (by decide) ?_
    refine lv_goto (tgt := 344) hx hb dL_law_340 (by decide) ?_
    refine wrV (As := [.int (xs (iN + 1)), .int 1]) (rest := []) (WR.frame (w := (oC cJ ao fo :: (wI cI cJ cZ a n ah pl ck ct (nI K) pm ja (nI n) (nI B) (nI (S - B)) tp st us fb kA tA lx ly gx gy gu gv ++ wM cI cJ cZ am fa (nI n) (nI B) (nI (S - B)) pl ja ah (nI K) bl bs bk be al tp st mx my kd ky ix iy iu iv))) (wr := (oC cJ ao fo :: wM cI cJ cZ am fa (nI n) (nI B) (nI (S - B)) pl ja ah (nI K) bl bs bk be al tp st mx my kd ky ix iy iu iv)) (k_X3_allow l D cI cJ cZ a n ah pl ck ct (nI K) pm ja (nI n) (nI B) (nI (S - B)) tp st us fb kA tA lx ly gx gy gu gv ((xs (iN + 1))) 1 (fun h => q_pos h)) [1, 2, 3, 4, 5, 6, 7, 8, 9, 10, 11, 12, 13, 14, 15, 16] [0, 17, 18, 19, 20, 21, 22, 23, 24, 25, 26, 27, 28] rfl rfl (by decide) (by decide) (by decide)) (si_L_66 ht ⟨Nat.le_of_ble_eq_true rfl, Nat.le_of_ble_eq_true rfl⟩) hx hb hml hown (va_recv hK hP (ci := 4) (q0 := 1) rfl rfl) hE hP hK hD hS hA rfl hl.1 rfl (Nat.le_of_ble_eq_true rfl) ⟨by show _ ≤ 653990; omega, by show _ ≤ 7134099; omega⟩ dL_law_344 (fun ov w' H locs hpost hP hD hS => ?_)
    obtain ⟨w1, ⟨rfl, rfl⟩, rfl⟩ := hpost
    refine W.st (st1 := [.int (f_X3_allow ((xs (iN + 1))) 1 fb)]) rfl ?_
    have hP : va_P D vwCl (oC cJ ao fo :: (wM cI cJ cZ am fa (nI n) (nI B) (nI (S - B)) pl ja ah (nI K) bl bs bk be al tp st mx my kd ky ix iy iu iv ++ wI cI cJ cZ a n ah pl ck ct (nI K) (f_X3_allow_pm ((xs (iN + 1))) 1 pm fb) ja (nI n) (nI B) (nI (S - B)) tp st us (f_X3_allow_fb ((xs (iN + 1))) 1 fb) kA tA lx ly gx gy gu gv)) H := hP
    have hD : va_D A (oC cJ ao fo :: (wM cI cJ cZ am fa (nI n) (nI B) (nI (S - B)) pl ja ah (nI K) bl bs bk be al tp st mx my kd ky ix iy iu iv ++ wI cI cJ cZ a n ah pl ck ct (nI K) (f_X3_allow_pm ((xs (iN + 1))) 1 pm fb) ja (nI n) (nI B) (nI (S - B)) tp st us (f_X3_allow_fb ((xs (iN + 1))) 1 fb) kA tA lx ly gx gy gu gv)) := hD
    refine lv_aload_n hx hb dL_law_347 rfl (lv_at hl 2 rfl) ?_
    refine lv_aload_n hx hb dL_law_348 rfl (lv_at hl 4 rfl) ?_
    refine lv_iload hx hb dL_law_349 (lv_at hl 0 rfl) ?_
    refine lv_iconst (v := 1) hx hb dL_law_351 (by decide) ?_
    refine lv_iadd hx hb dL_law_352 ?_
    refine va_sld hx hb hX hbl hbA hS (in_of (sc_1 iN) (by omega) (by omega)) dL_law_353 ?_
    refine W.st (st1 := [.int (xs (iN + 1)), .ref (am 0), .int (f_X3_allow ((xs (iN + 1))) 1 fb)]) (by rw [cl_of (sc_1 iN) (by omega)]) ?_
    refine lv_aload_n hx hb dL_law_354 rfl (lv_at hl 4 rfl) ?_
    refine lv_iload hx hb dL_law_355 (lv_at hl 0 rfl) ?_
    refine lv_iconst (v := 2) hx hb dL_law_357 (by decide) ?_
    refine lv_iadd hx hb dL_law_358 ?_
    refine va_sld hx hb hX hbl hbA hS (in_of (sc_2 iN) (by omega) (by omega)) dL_law_359 ?_
    refine W.st (st1 := [.int (xs (iN + 2)), .int (xs (iN + 1)), .ref (am 0), .int (f_X3_allow ((xs (iN + 1))) 1 fb)]) (by rw [cl_of (sc_2 iN) (by omega)]) ?_
    refine lv_if_eq (tgt := 367) hx hb dL_law_360 (by decide) (fun c => absurd c cz) (fun _ => ?_)
    refine lv_iconst (v := 1) hx hb dL_law_363 (by decide) ?_
    refine lv_goto (tgt := 368) hx hb dL_law_364 (by decide) ?_
    refine wrV (As := [.int (xs (iN + 1)), .int 1]) (rest := [.int (f_X3_allow ((xs (iN + 1))) 1 fb)]) (WR.frame (w := (oC cJ ao fo :: (wM cI cJ cZ am fa (nI n) (nI B) (nI (S - B)) pl ja ah (nI K) bl bs bk be al tp st mx my kd ky ix iy iu iv ++ wI cI cJ cZ a n ah pl ck ct (nI K) (f_X3_allow_pm ((xs (iN + 1))) 1 pm fb) ja (nI n) (nI B) (nI (S - B)) tp st us (f_X3_allow_fb ((xs (iN + 1))) 1 fb) kA tA lx ly gx gy gu gv))) (wr := (oC cJ ao fo :: wI cI cJ cZ a n ah pl ck ct (nI K) (f_X3_allow_pm ((xs (iN + 1))) 1 pm fb) ja (nI n) (nI B) (nI (S - B)) tp st us (f_X3_allow_fb ((xs (iN + 1))) 1 fb) kA tA lx ly gx gy gu gv)) (k_X4_allow l D cI cJ cZ am fa (nI n) (nI B) (nI (S - B)) pl ja ah (nI K) bl bs bk be al tp st mx my kd ky ix iy iu iv ((xs (iN + 1))) 1 (fun h => q_pos4 h)) [1, 2, 3, 4, 5, 6, 7, 8, 9, 10, 11, 12] [0, 13, 14, 15, 16, 17, 18, 19, 20, 21, 22, 23, 24, 25, 26, 27, 28] rfl rfl (by decide) (by decide) (by decide)) (si_L_70 ht ⟨Nat.le_of_ble_eq_true rfl, Nat.le_of_ble_eq_true rfl⟩) hx hb hml hown (va_recv hK hP (ci := 5) (q0 := 1) rfl rfl) hE hP hK hD hS hA rfl hl.1 rfl (Nat.le_of_ble_eq_true rfl) ⟨by show _ ≤ 653990; omega, by show _ ≤ 7134099; omega⟩ dL_law_368 (fun ov w' H locs hpost hP hD hS => ?_)
    obtain ⟨w1, ⟨rfl, rfl⟩, rfl⟩ := hpost
    refine W.st (st1 := [.int (f_X4_allow ((xs (iN + 1))) 1 al), .int (f_X3_allow ((xs (iN + 1))) 1 fb)]) rfl ?_
    have hP : va_P D vwCl (oC cJ ao fo :: (wI cI cJ cZ a n ah pl ck ct (nI K) (f_X3_allow_pm ((xs (iN + 1))) 1 pm fb) ja (nI n) (nI B) (nI (S - B)) tp st us (f_X3_allow_fb ((xs (iN + 1))) 1 fb) kA tA lx ly gx gy gu gv ++ wM cI cJ cZ am (f_X4_allow_fa ((xs (iN + 1))) 1 al) (nI n) (nI B) (nI (S - B)) pl ja ah (nI K) bl bs bk be (f_X4_allow_al ((xs (iN + 1))) 1 al) tp st mx my kd ky ix iy iu iv)) H := hP
    have hD : va_D A (oC cJ ao fo :: (wI cI cJ cZ a n ah pl ck ct (nI K) (f_X3_allow_pm ((xs (iN + 1))) 1 pm fb) ja (nI n) (nI B) (nI (S - B)) tp st us (f_X3_allow_fb ((xs (iN + 1))) 1 fb) kA tA lx ly gx gy gu gv ++ wM cI cJ cZ am (f_X4_allow_fa ((xs (iN + 1))) 1 al) (nI n) (nI B) (nI (S - B)) pl ja ah (nI K) bl bs bk be (f_X4_allow_al ((xs (iN + 1))) 1 al) tp st mx my kd ky ix iy iu iv)) := hD
    refine lv_icmp_eq (tgt := 953) hx hb dL_law_371 (by decide) (fun _ => ?_) (fun c => absurd ea1 c)
    rw [e11, e21, e31] at hP hD
    have hP : va_P D vwCl (oC cJ ao fo :: (wI cI cJ cZ a n ah pl ck ct (nI K) pm11 ja (nI n) (nI B) (nI (S - B)) tp st us fb11 kA tA lx ly gx gy gu gv ++ wM cI cJ cZ am (f_X4_allow_fa ((xs (iN + 1))) 1 al) (nI n) (nI B) (nI (S - B)) pl ja ah (nI K) bl bs bk be al11 tp st mx my kd ky ix iy iu iv)) H := hP
    have hD : va_D A (oC cJ ao fo :: (wI cI cJ cZ a n ah pl ck ct (nI K) pm11 ja (nI n) (nI B) (nI (S - B)) tp st us fb11 kA tA lx ly gx gy gu gv ++ wM cI cJ cZ am (f_X4_allow_fa ((xs (iN + 1))) 1 al) (nI n) (nI B) (nI (S - B)) pl ja ah (nI K) bl bs bk be al11 tp st mx my kd ky ix iy iu iv)) := hD
    refine W.widen (k := cells + 1) (n := slots + 6) (by omega) (by omega) ?_
    exact kk (oC cJ ao fo :: (wI cI cJ cZ a n ah pl ck ct (nI K) pm11 ja (nI n) (nI B) (nI (S - B)) tp st us fb11 kA tA lx ly gx gy gu gv ++ wM cI cJ cZ am (f_X4_allow_fa ((xs (iN + 1))) 1 al) (nI n) (nI B) (nI (S - B)) pl ja ah (nI K) bl bs bk be al11 tp st mx my kd ky ix iy iu iv)) H _ ls ⟨_, _, _, _, _, _, _, _, _, _, _, _, _, _, _, _, _, _, _, _, _, _, _, _, _, _, _, _, _, _, _, _, _, _, _, _, (RE_X (by omega) hR11), rfl⟩ hP hD hS (lv_sub hl [0, 1, 2, 3, 4] rfl)
set_option maxRecDepth 20000 in
set_option maxHeartbeats 4000000 in
theorem cs_run {p : Program} {e : Env} {s : State} {m : MethodId} {below : List Frame} {meth : Method} {c : Code} (l : Launch) (hnt : ∀ e : Env, l.admits e → e.platform.stackTraces = false) {sb L : Nat} {xs : Nat → Int32} {D : va_G} {cI cJ cZ : ClassId} {A : Nat → Prop} {Q : State → Prop} (hC : LX p s m c sb L xs D cI cJ cZ A) {X : Int} (hX5 : 0 ≤ X ∧ X ≤ 60000000) {a am : Nat → Nat} {ao n iN : Nat} (hi : iN + 4 ≤ L) {w : va_W} (hw : LI X cI cJ cZ a am ao n w) {ls : Array Slot} (hl : lv_has ls 8 [(4, .int (nI iN)), (3, .ref ao), (2, .ref (am 0)), (1, .ref (a 0)), (0, .ref sb)]) {H : Heap} {locs : List Loc} (hP : va_P D vwCl w H) (hD : va_D A w) (hS : va_S A s.heap H locs) {cells slots : Nat} (hc : cells + 1 ≤ 653990) (hs : slots + 6 ≤ 7134099)
    (kk : ∀ (w' : va_W) (H' : Heap) (locs' : List Loc) (ls' : Array Slot), LI (X + 100000) cI cJ cZ a am ao n w' → va_P D vwCl w' H' → va_D A w' → va_S A s.heap H' locs' → lv_has ls' 8 [(4, .int (nI iN)), (3, .ref ao), (2, .ref (am 0)), (1, .ref (a 0)), (0, .ref sb)] → W p l e room_1 s m #[.ref sb] below meth c H' locs' (cells + 1) (slots + 6) Q (F0 m 953 ls' [])) : W p l e room_1 s m #[.ref sb] below meth c H locs cells slots Q (F0 m 401 ls []) := by
  obtain ⟨hx, hb, hml, hown, hX, hbl, hbA, hE, hK, hA, hL⟩ := hC
  have ht : tb_OK s := hE.1
  obtain ⟨B, S, K, ah, pl, ck, ct, pm, ja, tp, st, us, fb, kA, tA, lx, ly, gx, gy, gu, gv, fo, fa, bl, bs, bk, be, al, mx, my, kd, ky, ix, iy, iu, iv, hR, rfl⟩ := hw
  obtain ⟨⟨hn1, hn, hBS, hSn, hK4⟩, hah, hja, ⟨hAL, hpm⟩, hLN, hTP, hPR⟩ := id hR
  have gS := st_eq hBS
  refine lv_aload_n hx hb dL_law_401 rfl (lv_at hl 3 rfl) ?_
  refine wrV (As := []) (rest := []) (WR.frame (w := (oC cJ ao fo :: (wI cI cJ cZ a n ah pl ck ct (nI K) pm ja (nI n) (nI B) (nI (S - B)) tp st us fb kA tA lx ly gx gy gu gv ++ wM cI cJ cZ am fa (nI n) (nI B) (nI (S - B)) pl ja ah (nI K) bl bs bk be al tp st mx my kd ky ix iy iu iv))) (wr := (oC cJ ao fo :: wM cI cJ cZ am fa (nI n) (nI B) (nI (S - B)) pl ja ah (nI K) bl bs bk be al tp st mx my kd ky ix iy iu iv)) (k_X3_run l D cI cJ cZ a n ah pl ck ct (nI K) pm ja (nI n) (nI B) (nI (S - B)) tp st us fb kA tA lx ly gx gy gu gv  B S K rfl hBS gS hSn hn (q_kA hR) rfl hah rfl hK4 hja) [1, 2, 3, 4, 5, 6, 7, 8, 9, 10, 11, 12, 13, 14, 15, 16] [0, 17, 18, 19, 20, 21, 22, 23, 24, 25, 26, 27, 28] rfl rfl (by decide) (by decide) (by decide)) (si_L_75 ht ⟨Nat.le_of_ble_eq_true rfl, Nat.le_of_ble_eq_true rfl⟩) hx hb hml hown (va_recv hK hP (ci := 4) (q0 := 1) rfl rfl) hE hP hK hD hS hA rfl hl.1 rfl (Nat.le_of_ble_eq_true rfl) ⟨by show _ ≤ 653990; omega, by show _ ≤ 7134099; omega⟩ dL_law_402 (fun ov w' H locs hpost hP hD hS => ?_)
  obtain ⟨w1, ⟨S1, kP, tP, xP, yP, uP, vP, us1, ck1, ct1, kA1, tA1, gx1, gy1, gu1, gv1, hpl, hB1, hS1, rfl, rfl, hag⟩, rfl⟩ := hpost
  refine W.st (st1 := [.int (nI (S1 - B))]) rfl ?_
  have hP : va_P D vwCl (oC cJ ao fo :: (wM cI cJ cZ am fa (nI n) (nI B) (nI (S - B)) pl ja ah (nI K) bl bs bk be al tp st mx my kd ky ix iy iu iv ++ wI cI cJ cZ a n ah (pl + 1) ck1 ct1 (nI K) pm ja (nI n) (nI B) (nI (S1 - B)) tp st us1 fb kA1 tA1 lx ly gx1 gy1 gu1 gv1)) H := hP
  have hD : va_D A (oC cJ ao fo :: (wM cI cJ cZ am fa (nI n) (nI B) (nI (S - B)) pl ja ah (nI K) bl bs bk be al tp st mx my kd ky ix iy iu iv ++ wI cI cJ cZ a n ah (pl + 1) ck1 ct1 (nI K) pm ja (nI n) (nI B) (nI (S1 - B)) tp st us1 fb kA1 tA1 lx ly gx1 gy1 gu1 gv1)) := hD
  refine lv_aload_n hx hb dL_law_405 rfl (lv_at hl 2 rfl) ?_
  refine wrV (As := []) (rest := [.int (nI (S1 - B))]) (WR.frame (w := (oC cJ ao fo :: (wM cI cJ cZ am fa (nI n) (nI B) (nI (S - B)) pl ja ah (nI K) bl bs bk be al tp st mx my kd ky ix iy iu iv ++ wI cI cJ cZ a n ah (pl + 1) ck1 ct1 (nI K) pm ja (nI n) (nI B) (nI (S1 - B)) tp st us1 fb kA1 tA1 lx ly gx1 gy1 gu1 gv1))) (wr := (oC cJ ao fo :: wI cI cJ cZ a n ah (pl + 1) ck1 ct1 (nI K) pm ja (nI n) (nI B) (nI (S1 - B)) tp st us1 fb kA1 tA1 lx ly gx1 gy1 gu1 gv1)) (k_X4_run l D cI cJ cZ am fa (nI n) (nI B) (nI (S - B)) pl ja ah (nI K) bl bs bk be al tp st mx my kd ky ix iy iu iv  n B K rfl (by omega) hn rfl rfl hK4 hja (q_ky hR)) [1, 2, 3, 4, 5, 6, 7, 8, 9, 10, 11, 12] [0, 13, 14, 15, 16, 17, 18, 19, 20, 21, 22, 23, 24, 25, 26, 27, 28] rfl rfl (by decide) (by decide) (by decide)) (si_L_78 ht ⟨Nat.le_of_ble_eq_true rfl, Nat.le_of_ble_eq_true rfl⟩) hx hb hml hown (va_recv hK hP (ci := 5) (q0 := 1) rfl rfl) hE hP hK hD hS hA rfl hl.1 rfl (Nat.le_of_ble_eq_true rfl) ⟨by show _ ≤ 653990; omega, by show _ ≤ 7134099; omega⟩ dL_law_406 (fun ov w' H locs hpost hP hD hS => ?_)
  obtain ⟨w1, ⟨S2, kQ, tQ, xQ, yQ, uQ, vQ, bl1, bs1, bk1, be1, kd1, ky1, ix1, iy1, iu1, iv1, hpM, hB2, hS2, rfl, rfl, hagM⟩, rfl⟩ := hpost
  obtain ⟨e12, hR1⟩ := r_run hX5 hR hpl hB1 hS1 hag hpM hagM
  have e13 := e12.symm
  subst e13
  refine W.st (st1 := [.int (nI (S1 - B)), .int (nI (S1 - B))]) rfl ?_
  have hP : va_P D vwCl (oC cJ ao fo :: (wI cI cJ cZ a n ah (pl + 1) ck1 ct1 (nI K) pm ja (nI n) (nI B) (nI (S1 - B)) tp st us1 fb kA1 tA1 lx ly gx1 gy1 gu1 gv1 ++ wM cI cJ cZ am 0 (nI n) (nI B) (nI (S1 - B)) (pl + 1) ja ah (nI K) bl1 bs1 bk1 be1 al tp st mx my kd1 ky1 ix1 iy1 iu1 iv1)) H := hP
  have hD : va_D A (oC cJ ao fo :: (wI cI cJ cZ a n ah (pl + 1) ck1 ct1 (nI K) pm ja (nI n) (nI B) (nI (S1 - B)) tp st us1 fb kA1 tA1 lx ly gx1 gy1 gu1 gv1 ++ wM cI cJ cZ am 0 (nI n) (nI B) (nI (S1 - B)) (pl + 1) ja ah (nI K) bl1 bs1 bk1 be1 al tp st mx my kd1 ky1 ix1 iy1 iu1 iv1)) := hD
  refine lv_icmp_eq (tgt := 953) hx hb dL_law_409 (by decide) (fun _ => ?_) (fun c => absurd rfl c)
  have hP : va_P D vwCl (oC cJ ao fo :: (wI cI cJ cZ a n ah (pl + 1) ck1 ct1 (nI K) pm ja (nI n) (nI B) (nI (S1 - B)) tp st us1 fb kA1 tA1 lx ly gx1 gy1 gu1 gv1 ++ wM cI cJ cZ am 0 (nI n) (nI B) (nI (S1 - B)) (pl + 1) ja ah (nI K) bl1 bs1 bk1 be1 al tp st mx my kd1 ky1 ix1 iy1 iu1 iv1)) H := hP
  have hD : va_D A (oC cJ ao fo :: (wI cI cJ cZ a n ah (pl + 1) ck1 ct1 (nI K) pm ja (nI n) (nI B) (nI (S1 - B)) tp st us1 fb kA1 tA1 lx ly gx1 gy1 gu1 gv1 ++ wM cI cJ cZ am 0 (nI n) (nI B) (nI (S1 - B)) (pl + 1) ja ah (nI K) bl1 bs1 bk1 be1 al tp st mx my kd1 ky1 ix1 iy1 iu1 iv1)) := hD
  refine W.widen (k := cells + 1) (n := slots + 6) (by omega) (by omega) ?_
  exact kk (oC cJ ao fo :: (wI cI cJ cZ a n ah (pl + 1) ck1 ct1 (nI K) pm ja (nI n) (nI B) (nI (S1 - B)) tp st us1 fb kA1 tA1 lx ly gx1 gy1 gu1 gv1 ++ wM cI cJ cZ am 0 (nI n) (nI B) (nI (S1 - B)) (pl + 1) ja ah (nI K) bl1 bs1 bk1 be1 al tp st mx my kd1 ky1 ix1 iy1 iu1 iv1)) H _ ls ⟨_, _, _, _, _, _, _, _, _, _, _, _, _, _, _, _, _, _, _, _, _, _, _, _, _, _, _, _, _, _, _, _, _, _, _, _, (RE_X (by omega) hR1), rfl⟩ hP hD hS (lv_sub hl [0, 1, 2, 3, 4] rfl)
