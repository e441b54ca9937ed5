set_option maxRecDepth 20000 in
set_option maxHeartbeats 4000000 in
theorem cs_line {p : Program} {e : Env} {s : State} {m : MethodId} {below : List Frame} {meth : Method} {c : Code} (l : Launch) (hnt : ∀ e : Env, l.admits e → e.platform.stackTraces = false) {sb L : Nat} {xs : Nat → Int32} {D : va_G} {cI cJ cZ : ClassId} {A : Nat → Prop} {Q : State → Prop} (hC : LX p s m c sb L xs D cI cJ cZ A) {X : Int} (hX5 : 0 ≤ X ∧ X ≤ 60000000) {a am : Nat → Nat} {ao n iN : Nat} (hi : iN + 4 ≤ L) {w : va_W} (hw : LI X cI cJ cZ a am ao n w) {ls : Array Slot} (hl : lv_has ls 8 [(4, .int (nI iN)), (3, .ref ao), (2, .ref (am 0)), (1, .ref (a 0)), (0, .ref sb)]) {H : Heap} {locs : List Loc} (hP : va_P D vwCl w H) (hD : va_D A w) (hS : va_S A s.heap H locs) {cells slots : Nat} (hc : cells + 1 ≤ 653990) (hs : slots + 6 ≤ 7134099)
    (kk : ∀ (w' : va_W) (H' : Heap) (locs' : List Loc) (ls' : Array Slot), LI (X + 100000) cI cJ cZ a am ao n w' → va_P D vwCl w' H' → va_D A w' → va_S A s.heap H' locs' → lv_has ls' 8 [(4, .int (nI iN)), (3, .ref ao), (2, .ref (am 0)), (1, .ref (a 0)), (0, .ref sb)] → W p l e room_1 s m #[.ref sb] below meth c H' locs' (cells + 1) (slots + 6) Q (F0 m 953 ls' [])) : W p l e room_1 s m #[.ref sb] below meth c H locs cells slots Q (F0 m 218 ls []) := by
  obtain ⟨hx, hb, hml, hown, hX, hbl, hbA, hE, hK, hA, hL⟩ := hC
  have ht : tb_OK s := hE.1
  obtain ⟨B, S, K, ah, pl, ck, ct, pm, ja, tp, st, us, fb, kA, tA, lx, ly, gx, gy, gu, gv, fo, fa, bl, bs, bk, be, al, mx, my, kd, ky, ix, iy, iu, iv, hR, rfl⟩ := hw
  obtain ⟨⟨hn1, hn, hBS, hSn, hK4⟩, hah, hja, ⟨hAL, hpm⟩, hLN, hTP, hPR⟩ := id hR
  have gS := st_eq hBS
  by_cases hh : f_X2_has (xs (iN + 1)) (nI n) = 0
  · skip
    obtain ⟨ef, e1, e2⟩ := r_lineT (mx := mx) (my := my) (xs (iN + 2)) (xs (iN + 3)) (nI n) (nI B) hh
    refine lv_aload_n hx hb dL_law_218 rfl (lv_at hl 3 rfl) ?_
    refine lv_aload_n hx hb dL_law_219 rfl (lv_at hl 4 rfl) ?_
    refine lv_iload hx hb dL_law_220 (lv_at hl 0 rfl) ?_
    refine lv_iconst (v := 1) hx hb dL_law_222 (by decide) ?_
    refine lv_iadd hx hb dL_law_223 ?_
    refine va_sld hx hb hX hbl hbA hS (in_of (sc_1 iN) (by omega) (by omega)) dL_law_224 ?_
    refine W.st (st1 := [.int (xs (iN + 1)), .ref (a 0)]) (by rw [cl_of (sc_1 iN) (by omega)]) ?_
    refine lv_aload_n hx hb dL_law_225 rfl (lv_at hl 4 rfl) ?_
    refine lv_iload hx hb dL_law_226 (lv_at hl 0 rfl) ?_
    refine lv_iconst (v := 2) hx hb dL_law_228 (by decide) ?_
    refine lv_iadd hx hb dL_law_229 ?_
    refine va_sld hx hb hX hbl hbA hS (in_of (sc_2 iN) (by omega) (by omega)) dL_law_230 ?_
    refine W.st (st1 := [.int (xs (iN + 2)), .int (xs (iN + 1)), .ref (a 0)]) (by rw [cl_of (sc_2 iN) (by omega)]) ?_
    refine lv_aload_n hx hb dL_law_231 rfl (lv_at hl 4 rfl) ?_
    refine lv_iload hx hb dL_law_232 (lv_at hl 0 rfl) ?_
    refine lv_iconst (v := 3) hx hb dL_law_234 (by decide) ?_
    refine lv_iadd hx hb dL_law_235 ?_
    refine va_sld hx hb hX hbl hbA hS (in_of (sc_3 iN) (by omega) (by omega)) dL_law_236 ?_
    refine W.st (st1 := [.int (xs (iN + 3)), .int (xs (iN + 2)), .int (xs (iN + 1)), .ref (a 0)]) (by rw [cl_of (sc_3 iN) (by omega)]) ?_
    refine lv_aload_n hx hb dL_law_237 rfl (lv_at hl 1 rfl) ?_
    refine cwr2 (rest := []) (runSH (n := 5) (As := [.ref (a 0), .int (xs (iN + 1)), .int (xs (iN + 2)), .int (xs (iN + 3)), .ref ao]) (rest := []) (WRH.frame (w := (oC cJ ao fo :: (wI cI cJ cZ a n ah pl ck ct (nI K) pm ja (nI n) (nI B) (nI (S - B)) tp st us fb kA tA lx ly gx gy gu gv ++ wM cI cJ cZ am fa (nI n) (nI B) (nI (S - B)) pl ja ah (nI K) bl bs bk be al tp st mx my kd ky ix iy iu iv))) (wr := wM cI cJ cZ am fa (nI n) (nI B) (nI (S - B)) pl ja ah (nI K) bl bs bk be al tp st mx my kd ky ix iy iu iv) (t_L_line l hnt D cI cJ cZ a n ah pl ck ct (nI K) pm ja (nI n) (nI B) (nI (S - B)) tp st us fb kA tA lx ly gx gy gu gv ao fo ((xs (iN + 1))) ((xs (iN + 2))) ((xs (iN + 3))) hh) [0, 1, 2, 3, 4, 5, 6, 7, 8, 9, 10, 11, 12, 13, 14, 15, 16] [17, 18, 19, 20, 21, 22, 23, 24, 25, 26, 27, 28] rfl rfl (by decide) (by decide) (by decide)) ht (fun U a h => cw_L_line h) (fun U a h => ini_L h) (ml_L_54 ht) (sm_L_line ht) ⟨by decide +kernel, by decide +kernel, by decide +kernel⟩ ⟨Nat.le_of_ble_eq_true rfl, Nat.le_of_ble_eq_true rfl⟩ hx hb hml hown hE hP hK hD hS hA rfl hl.1 rfl (Nat.le_of_ble_eq_true rfl) ⟨by show _ ≤ 653990; omega, by show _ ≤ 7134099; omega⟩ dL_law_238) hD hS hA (fun ov w' H locs hpost hP hD hS => ?_)
    obtain ⟨w1, ⟨rfl, rfl⟩, rfl⟩ := hpost
    refine W.st (st1 := [.int 1]) rfl ?_
    have hP : va_P D vwCl (wM cI cJ cZ am fa (nI n) (nI B) (nI (S - B)) pl ja ah (nI K) bl bs bk be al tp st mx my kd ky ix iy iu iv ++ (oC cJ ao fo :: wI cI cJ cZ a n ah pl ck ct (nI K) pm ja (nI n) (nI B) (nI (S - B)) tp st us fb kA tA lx ly gx gy gu gv)) H := hP
    have hD : va_D A (wM cI cJ cZ am fa (nI n) (nI B) (nI (S - B)) pl ja ah (nI K) bl bs bk be al tp st mx my kd ky ix iy iu iv ++ (oC cJ ao fo :: wI cI cJ cZ a n ah pl ck ct (nI K) pm ja (nI n) (nI B) (nI (S - B)) tp st us fb kA tA lx ly gx gy gu gv)) := hD
    refine lv_istore (lv' := [(5, .int 1), (4, .int (nI iN)), (3, .ref ao), (2, .ref (am 0)), (1, .ref (a 0)), (0, .ref sb)]) hx hb dL_law_241 hl (by decide) rfl (fun ls hl => ?_)
    refine lv_aload_n hx hb dL_law_243 rfl (lv_at hl 3 rfl) ?_
    refine lv_aload_n hx hb dL_law_244 rfl (lv_at hl 5 rfl) ?_
    refine lv_iload hx hb dL_law_245 (lv_at hl 1 rfl) ?_
    refine lv_iconst (v := 1) hx hb dL_law_247 (by decide) ?_
    refine lv_iadd hx hb dL_law_248 ?_
    refine va_sld hx hb hX hbl hbA hS (in_of (sc_1 iN) (by omega) (by omega)) dL_law_249 ?_
    refine W.st (st1 := [.int (xs (iN + 1)), .ref (am 0)]) (by rw [cl_of (sc_1 iN) (by omega)]) ?_
    refine lv_aload_n hx hb dL_law_250 rfl (lv_at hl 5 rfl) ?_
    refine lv_iload hx hb dL_law_251 (lv_at hl 1 rfl) ?_
    refine lv_iconst (v := 2) hx hb dL_law_253 (by decide) ?_
    refine lv_iadd hx hb dL_law_254 ?_
    refine va_sld hx hb hX hbl hbA hS (in_of (sc_2 iN) (by omega) (by omega)) dL_law_255 ?_
    refine W.st (st1 := [.int (xs (iN + 2)), .int (xs (iN + 1)), .ref (am 0)]) (by rw [cl_of (sc_2 iN) (by omega)]) ?_
    refine lv_aload_n hx hb dL_law_256 rfl (lv_at hl 5 rfl) ?_
    refine lv_iload hx hb dL_law_257 (lv_at hl 1 rfl) ?_
    refine lv_iconst (v := 3) hx hb dL_law_259 (by decide) ?_
    refine lv_iadd hx hb dL_law_260 ?_
    refine va_sld hx hb hX hbl hbA hS (in_of (sc_3 iN) (by omega) (by omega)) dL_law_261 ?_
    refine W.st (st1 := [.int (xs (iN + 3)), .int (xs (iN + 2)), .int (xs (iN + 1)), .ref (am 0)]) (by rw [cl_of (sc_3 iN) (by omega)]) ?_
    refine wrV (As := [.int (xs (iN + 1)), .int (xs (iN + 2)), .int (xs (iN + 3))]) (rest := []) (WR.frame (w := (wM cI cJ cZ am fa (nI n) (nI B) (nI (S - B)) pl ja ah (nI K) bl bs bk be al tp st mx my kd ky ix iy iu iv ++ (oC cJ ao fo :: wI cI cJ cZ a n ah pl ck ct (nI K) pm ja (nI n) (nI B) (nI (S - B)) tp st us fb kA tA lx ly gx gy gu gv))) (wr := (oC cJ ao fo :: wI cI cJ cZ a n ah pl ck ct (nI K) pm ja (nI n) (nI B) (nI (S - B)) tp st us fb kA tA lx ly gx gy gu gv)) (k_X4_line l D cI cJ cZ am fa (nI n) (nI B) (nI (S - B)) pl ja ah (nI K) bl bs bk be al tp st mx my kd ky ix iy iu iv ((xs (iN + 1))) ((xs (iN + 2))) ((xs (iN + 3))) (fun h => absurd hh h)) [0, 1, 2, 3, 4, 5, 6, 7, 8, 9, 10, 11] [12, 13, 14, 15, 16, 17, 18, 19, 20, 21, 22, 23, 24, 25, 26, 27, 28] rfl rfl (by decide) (by decide) (by decide)) (si_L_57 ht ⟨Nat.le_of_ble_eq_true rfl, Nat.le_of_ble_eq_true rfl⟩) hx hb hml hown (va_recv hK hP (ci := 5) (q0 := 0) rfl rfl) hE hP hK hD hS hA rfl hl.1 rfl (Nat.le_of_ble_eq_true rfl) ⟨by show _ ≤ 653990; omega, by show _ ≤ 7134099; omega⟩ dL_law_262 (fun ov w' H locs hpost hP hD hS => ?_)
    obtain ⟨w1, ⟨rfl, rfl⟩, rfl⟩ := hpost
    refine W.st (st1 := [.int (f_X4_line ((xs (iN + 1))) ((xs (iN + 2))) ((xs (iN + 3))) (nI n) (nI B))]) rfl ?_
    have hP : va_P D vwCl (oC cJ ao fo :: (wI cI cJ cZ a n ah pl ck ct (nI K) pm ja (nI n) (nI B) (nI (S - B)) tp st us fb kA tA lx ly gx gy gu gv ++ wM cI cJ cZ am (f_X4_line_fa ((xs (iN + 1))) ((xs (iN + 2))) ((xs (iN + 3))) (nI n) (nI B)) (nI n) (nI B) (nI (S - B)) pl ja ah (nI K) bl bs bk be al tp st (f_X4_line_mx ((xs (iN + 1))) ((xs (iN + 2))) ((xs (iN + 3))) (nI n) (nI B) mx) (f_X4_line_my ((xs (iN + 1))) ((xs (iN + 2))) ((xs (iN + 3))) (nI n) (nI B) my) kd ky ix iy iu iv)) H := hP
    have hD : va_D A (oC cJ ao fo :: (wI cI cJ cZ a n ah pl ck ct (nI K) pm ja (nI n) (nI B) (nI (S - B)) tp st us fb kA tA lx ly gx gy gu gv ++ wM cI cJ cZ am (f_X4_line_fa ((xs (iN + 1))) ((xs (iN + 2))) ((xs (iN + 3))) (nI n) (nI B)) (nI n) (nI B) (nI (S - B)) pl ja ah (nI K) bl bs bk be al tp st (f_X4_line_mx ((xs (iN + 1))) ((xs (iN + 2))) ((xs (iN + 3))) (nI n) (nI B) mx) (f_X4_line_my ((xs (iN + 1))) ((xs (iN + 2))) ((xs (iN + 3))) (nI n) (nI B) my) kd ky ix iy iu iv)) := hD
    refine lv_istore (lv' := [(6, .int (f_X4_line ((xs (iN + 1))) ((xs (iN + 2))) ((xs (iN + 3))) (nI n) (nI B))), (5, .int 1), (4, .int (nI iN)), (3, .ref ao), (2, .ref (am 0)), (1, .ref (a 0)), (0, .ref sb)]) hx hb dL_law_265 hl (by decide) rfl (fun ls hl => ?_)
    refine lv_aload_n hx hb dL_law_267 rfl (lv_at hl 4 rfl) ?_
    refine rdV (As := []) (rest := []) (st1 := [.int (f_X4_thrown (f_X4_line_fa ((xs (iN + 1))) ((xs (iN + 2))) ((xs (iN + 3))) (nI n) (nI B)))]) (RD.frame (w := (oC cJ ao fo :: (wI cI cJ cZ a n ah pl ck ct (nI K) pm ja (nI n) (nI B) (nI (S - B)) tp st us fb kA tA lx ly gx gy gu gv ++ wM cI cJ cZ am (f_X4_line_fa ((xs (iN + 1))) ((xs (iN + 2))) ((xs (iN + 3))) (nI n) (nI B)) (nI n) (nI B) (nI (S - B)) pl ja ah (nI K) bl bs bk be al tp st (f_X4_line_mx ((xs (iN + 1))) ((xs (iN + 2))) ((xs (iN + 3))) (nI n) (nI B) mx) (f_X4_line_my ((xs (iN + 1))) ((xs (iN + 2))) ((xs (iN + 3))) (nI n) (nI B) my) kd ky ix iy iu iv))) (k_X4_thrown l D cI cJ cZ am (f_X4_line_fa ((xs (iN + 1))) ((xs (iN + 2))) ((xs (iN + 3))) (nI n) (nI B)) (nI n) (nI B) (nI (S - B)) pl ja ah (nI K) bl bs bk be al tp st (f_X4_line_mx ((xs (iN + 1))) ((xs (iN + 2))) ((xs (iN + 3))) (nI n) (nI B) mx) (f_X4_line_my ((xs (iN + 1))) ((xs (iN + 2))) ((xs (iN + 3))) (nI n) (nI B) my) kd ky ix iy iu iv) [17, 18, 19, 20, 21, 22, 23, 24, 25, 26, 27, 28] rfl) (si_L_58 ht ⟨Nat.le_of_ble_eq_true rfl, Nat.le_of_ble_eq_true rfl⟩) hx hb hml hown (va_recv hK hP (ci := 5) (q0 := 17) rfl rfl) (hE.since hS) hP hK rfl hl.1 rfl (Nat.le_of_ble_eq_true rfl) ⟨by show _ ≤ 653990; omega, by show _ ≤ 7134099; omega⟩ dL_law_268 rfl ?_
    refine lv_iload hx hb dL_law_271 (lv_at hl 1 rfl) ?_
    refine lv_icmp_eq (tgt := 278) hx hb dL_law_273 (by decide) (fun _ => ?_) (fun c => absurd ef c)
    refine lv_iload hx hb dL_law_278 (lv_at hl 1 rfl) ?_
    refine lv_if_ne (tgt := 295) hx hb dL_law_280 (by decide) (fun _ => ?_) (fun c => absurd c (by decide))
    refine lv_goto (tgt := 953) hx hb dL_law_295 (by decide) ?_
    rw [e1, e2] at hP hD
    have hP : va_P D vwCl (oC cJ ao fo :: (wI cI cJ cZ a n ah pl ck ct (nI K) pm ja (nI n) (nI B) (nI (S - B)) tp st us fb kA tA lx ly gx gy gu gv ++ wM cI cJ cZ am (f_X4_line_fa ((xs (iN + 1))) ((xs (iN + 2))) ((xs (iN + 3))) (nI n) (nI B)) (nI n) (nI B) (nI (S - B)) pl ja ah (nI K) bl bs bk be al tp st mx my kd ky ix iy iu iv)) H := hP
    have hD : va_D A (oC cJ ao fo :: (wI cI cJ cZ a n ah pl ck ct (nI K) pm ja (nI n) (nI B) (nI (S - B)) tp st us fb kA tA lx ly gx gy gu gv ++ wM cI cJ cZ am (f_X4_line_fa ((xs (iN + 1))) ((xs (iN + 2))) ((xs (iN + 3))) (nI n) (nI B)) (nI n) (nI B) (nI (S - B)) pl ja ah (nI K) bl bs bk be al tp st mx my kd ky ix iy iu iv)) := hD
    refine W.widen (k := cells + 1) (n := slots + 6) (by omega) (by omega) ?_
    exact kk (oC cJ ao fo :: (wI cI cJ cZ a n ah pl ck ct (nI K) pm ja (nI n) (nI B) (nI (S - B)) tp st us fb kA tA lx ly gx gy gu gv ++ wM cI cJ cZ am (f_X4_line_fa ((xs (iN + 1))) ((xs (iN + 2))) ((xs (iN + 3))) (nI n) (nI B)) (nI n) (nI B) (nI (S - B)) pl ja ah (nI K) bl bs bk be al tp st mx my kd ky ix iy iu iv)) H _ ls ⟨_, _, _, _, _, _, _, _, _, _, _, _, _, _, _, _, _, _, _, _, _, _, _, _, _, _, _, _, _, _, _, _, _, _, _, _, (RE_X (by omega) hR), rfl⟩ hP hD hS (lv_sub hl [2, 3, 4, 5, 6] rfl)
  · skip
    obtain ⟨lx1, ly1, mx1, my1, e1, e2, e3, e4, ef, ea, hR1⟩ := r_line hR (xs (iN + 2)) (xs (iN + 3)) hh
    refine lv_aload_n hx hb dL_law_218 rfl (lv_at hl 3 rfl) ?_
    refine lv_aload_n hx hb dL_law_219 rfl (lv_at hl 4 rfl) ?_
    refine lv_iload hx hb dL_law_220 (lv_at hl 0 rfl) ?_
    refine lv_iconst (v := 1) hx hb dL_law_222 (by decide) ?_
    refine lv_iadd hx hb dL_law_223 ?_
    refine va_sld hx hb hX hbl hbA hS (in_of (sc_1 iN) (by omega) (by omega)) dL_law_224 ?_
    refine W.st (st1 := [.int (xs (iN + 1)), .ref (a 0)]) (by rw [cl_of (sc_1 iN) (by omega)]) ?_
    refine lv_aload_n hx hb dL_law_225 rfl (lv_at hl 4 rfl) ?_
    refine lv_iload hx hb dL_law_226 (lv_at hl 0 rfl) ?_
    refine lv_iconst (v := 2) hx hb dL_law_228 (by decide) ?_
    refine lv_iadd hx hb dL_law_229 ?_
    refine va_sld hx hb hX hbl hbA hS (in_of (sc_2 iN) (by omega) (by omega)) dL_law_230 ?_
    refine W.st (st1 := [.int (xs (iN + 2)), .int (xs (iN + 1)), .ref (a 0)]) (by rw [cl_of (sc_2 iN) (by omega)]) ?_
    refine lv_aload_n hx hb dL_law_231 rfl (lv_at hl 4 rfl) ?_
    refine lv_iload hx hb dL_law_232 (lv_at hl 0 rfl) ?_
    refine lv_iconst (v := 3) hx hb dL_law_234 (by decide) ?_
    refine lv_iadd hx hb dL_law_235 ?_
    refine va_sld hx hb hX hbl hbA hS (in_of (sc_3 iN) (by omega) (by omega)) dL_law_236 ?_
    refine W.st (st1 := [.int (xs (iN + 3)), .int (xs (iN + 2)), .int (xs (iN + 1)), .ref (a 0)]) (by rw [cl_of (sc_3 iN) (by omega)]) ?_
    refine lv_aload_n hx hb dL_law_237 rfl (lv_at hl 1 rfl) ?_
    refine cwr2 (rest := []) (runSH (n := 5) (As := [.ref (a 0), .int (xs (iN + 1)), .int (xs (iN + 2)), .int (xs (iN + 3)), .ref ao]) (rest := []) (WRH.frame (w := (oC cJ ao fo :: (wI cI cJ cZ a n ah pl ck ct (nI K) pm ja (nI n) (nI B) (nI (S - B)) tp st us fb kA tA lx ly gx gy gu gv ++ wM cI cJ cZ am fa (nI n) (nI B) (nI (S - B)) pl ja ah (nI K) bl bs bk be al tp st mx my kd ky ix iy iu iv))) (wr := wM cI cJ cZ am fa (nI n) (nI B) (nI (S - B)) pl ja ah (nI K) bl bs bk be al tp st mx my kd ky ix iy iu iv) (k_L_line l D cI cJ cZ a n ah pl ck ct (nI K) pm ja (nI n) (nI B) (nI (S - B)) tp st us fb kA tA lx ly gx gy gu gv ao fo ((xs (iN + 1))) ((xs (iN + 2))) ((xs (iN + 3))) hh (q_ring hn hh).1) [0, 1, 2, 3, 4, 5, 6, 7, 8, 9, 10, 11, 12, 13, 14, 15, 16] [17, 18, 19, 20, 21, 22, 23, 24, 25, 26, 27, 28] rfl rfl (by decide) (by decide) (by decide)) ht (fun U a h => cw_L_line h) (fun U a h => ini_L h) (ml_L_54 ht) (sm_L_line ht) ⟨by decide +kernel, by decide +kernel, by decide +kernel⟩ ⟨Nat.le_of_ble_eq_true rfl, Nat.le_of_ble_eq_true rfl⟩ hx hb hml hown hE hP hK hD hS hA rfl hl.1 rfl (Nat.le_of_ble_eq_true rfl) ⟨by show _ ≤ 653990; omega, by show _ ≤ 7134099; omega⟩ dL_law_238) hD hS hA (fun ov w' H locs hpost hP hD hS => ?_)
    obtain ⟨w1, ⟨rfl, rfl⟩, rfl⟩ := hpost
    refine W.st (st1 := [.int 0]) rfl ?_
    have hP : va_P D vwCl (wM cI cJ cZ am fa (nI n) (nI B) (nI (S - B)) pl ja ah (nI K) bl bs bk be al tp st mx my kd ky ix iy iu iv ++ (oC cJ ao (vp_updL fo 0 ((f_X3_line ((xs (iN + 1))) ((xs (iN + 2))) ((xs (iN + 3))) (nI B) (nI (S - B))).toInt64)) :: wI cI cJ cZ a n ah pl ck ct (nI K) pm ja (nI n) (nI B) (nI (S - B)) tp st us fb kA tA (f_X3_line_lx ((xs (iN + 1))) ((xs (iN + 2))) ((xs (iN + 3))) (nI B) (nI (S - B)) lx) (f_X3_line_ly ((xs (iN + 1))) ((xs (iN + 2))) ((xs (iN + 3))) (nI B) (nI (S - B)) ly) gx gy gu gv)) H := hP
    have hD : va_D A (wM cI cJ cZ am fa (nI n) (nI B) (nI (S - B)) pl ja ah (nI K) bl bs bk be al tp st mx my kd ky ix iy iu iv ++ (oC cJ ao (vp_updL fo 0 ((f_X3_line ((xs (iN + 1))) ((xs (iN + 2))) ((xs (iN + 3))) (nI B) (nI (S - B))).toInt64)) :: wI cI cJ cZ a n ah pl ck ct (nI K) pm ja (nI n) (nI B) (nI (S - B)) tp st us fb kA tA (f_X3_line_lx ((xs (iN + 1))) ((xs (iN + 2))) ((xs (iN + 3))) (nI B) (nI (S - B)) lx) (f_X3_line_ly ((xs (iN + 1))) ((xs (iN + 2))) ((xs (iN + 3))) (nI B) (nI (S - B)) ly) gx gy gu gv)) := hD
    refine lv_istore (lv' := [(5, .int 0), (4, .int (nI iN)), (3, .ref ao), (2, .ref (am 0)), (1, .ref (a 0)), (0, .ref sb)]) hx hb dL_law_241 hl (by decide) rfl (fun ls hl => ?_)
    refine lv_aload_n hx hb dL_law_243 rfl (lv_at hl 3 rfl) ?_
    refine lv_aload_n hx hb dL_law_244 rfl (lv_at hl 5 rfl) ?_
    refine lv_iload hx hb dL_law_245 (lv_at hl 1 rfl) ?_
    refine lv_iconst (v := 1) hx hb dL_law_247 (by decide) ?_
    refine lv_iadd hx hb dL_law_248 ?_
    refine va_sld hx hb hX hbl hbA hS (in_of (sc_1 iN) (by omega) (by omega)) dL_law_249 ?_
    refine W.st (st1 := [.int (xs (iN + 1)), .ref (am 0)]) (by rw [cl_of (sc_1 iN) (by omega)]) ?_
    refine lv_aload_n hx hb dL_law_250 rfl (lv_at hl 5 rfl) ?_
    refine lv_iload hx hb dL_law_251 (lv_at hl 1 rfl) ?_
    refine lv_iconst (v := 2) hx hb dL_law_253 (by decide) ?_
    refine lv_iadd hx hb dL_law_254 ?_
    refine va_sld hx hb hX hbl hbA hS (in_of (sc_2 iN) (by omega) (by omega)) dL_law_255 ?_
    refine W.st (st1 := [.int (xs (iN + 2)), .int (xs (iN + 1)), .ref (am 0)]) (by rw [cl_of (sc_2 iN) (by omega)]) ?_
    refine lv_aload_n hx hb dL_law_256 rfl (lv_at hl 5 rfl) ?_
    refine lv_iload hx hb dL_law_257 (lv_at hl 1 rfl) ?_
    refine lv_iconst (v := 3) hx hb dL_law_259 (by decide) ?_
    refine lv_iadd hx hb dL_law_260 ?_
    refine va_sld hx hb hX hbl hbA hS (in_of (sc_3 iN) (by omega) (by omega)) dL_law_261 ?_
    refine W.st (st1 := [.int (xs (iN + 3)), .int (xs (iN + 2)), .int (xs (iN + 1)), .ref (am 0)]) (by rw [cl_of (sc_3 iN) (by omega)]) ?_
    refine wrV (As := [.int (xs (iN + 1)), .int (xs (iN + 2)), .int (xs (iN + 3))]) (rest := []) (WR.frame (w := (wM cI cJ cZ am fa (nI n) (nI B) (nI (S - B)) pl ja ah (nI K) bl bs bk be al tp st mx my kd ky ix iy iu iv ++ (oC cJ ao (vp_updL fo 0 ((f_X3_line ((xs (iN + 1))) ((xs (iN + 2))) ((xs (iN + 3))) (nI B) (nI (S - B))).toInt64)) :: wI cI cJ cZ a n ah pl ck ct (nI K) pm ja (nI n) (nI B) (nI (S - B)) tp st us fb kA tA (f_X3_line_lx ((xs (iN + 1))) ((xs (iN + 2))) ((xs (iN + 3))) (nI B) (nI (S - B)) lx) (f_X3_line_ly ((xs (iN + 1))) ((xs (iN + 2))) ((xs (iN + 3))) (nI B) (nI (S - B)) ly) gx gy gu gv))) (wr := (oC cJ ao (vp_updL fo 0 ((f_X3_line ((xs (iN + 1))) ((xs (iN + 2))) ((xs (iN + 3))) (nI B) (nI (S - B))).toInt64)) :: wI cI cJ cZ a n ah pl ck ct (nI K) pm ja (nI n) (nI B) (nI (S - B)) tp st us fb kA tA (f_X3_line_lx ((xs (iN + 1))) ((xs (iN + 2))) ((xs (iN + 3))) (nI B) (nI (S - B)) lx) (f_X3_line_ly ((xs (iN + 1))) ((xs (iN + 2))) ((xs (iN + 3))) (nI B) (nI (S - B)) ly) gx gy gu gv)) (k_X4_line l D cI cJ cZ am fa (nI n) (nI B) (nI (S - B)) pl ja ah (nI K) bl bs bk be al tp st mx my kd ky ix iy iu iv ((xs (iN + 1))) ((xs (iN + 2))) ((xs (iN + 3))) (fun h => (q_ring hn h).2)) [0, 1, 2, 3, 4, 5, 6, 7, 8, 9, 10, 11] [12, 13, 14, 15, 16, 17, 18, 19, 20, 21, 22, 23, 24, 25, 26, 27, 28] rfl rfl (by decide) (by decide) (by decide)) (si_L_57 ht ⟨Nat.le_of_ble_eq_true rfl, Nat.le_of_ble_eq_true rfl⟩) hx hb hml hown (va_recv hK hP (ci := 5) (q0 := 0) rfl rfl) hE hP hK hD hS hA rfl hl.1 rfl (Nat.le_of_ble_eq_true rfl) ⟨by show _ ≤ 653990; omega, by show _ ≤ 7134099; omega⟩ dL_law_262 (fun ov w' H locs hpost hP hD hS => ?_)
    obtain ⟨w1, ⟨rfl, rfl⟩, rfl⟩ := hpost
    refine W.st (st1 := [.int (f_X4_line ((xs (iN + 1))) ((xs (iN + 2))) ((xs (iN + 3))) (nI n) (nI B))]) rfl ?_
    have hP : va_P D vwCl (oC cJ ao (vp_updL fo 0 ((f_X3_line ((xs (iN + 1))) ((xs (iN + 2))) ((xs (iN + 3))) (nI B) (nI (S - B))).toInt64)) :: (wI cI cJ cZ a n ah pl ck ct (nI K) pm ja (nI n) (nI B) (nI (S - B)) tp st us fb kA tA (f_X3_line_lx ((xs (iN + 1))) ((xs (iN + 2))) ((xs (iN + 3))) (nI B) (nI (S - B)) lx) (f_X3_line_ly ((xs (iN + 1))) ((xs (iN + 2))) ((xs (iN + 3))) (nI B) (nI (S - B)) ly) gx gy gu gv ++ wM cI cJ cZ am (f_X4_line_fa ((xs (iN + 1))) ((xs (iN + 2))) ((xs (iN + 3))) (nI n) (nI B)) (nI n) (nI B) (nI (S - B)) pl ja ah (nI K) bl bs bk be al tp st (f_X4_line_mx ((xs (iN + 1))) ((xs (iN + 2))) ((xs (iN + 3))) (nI n) (nI B) mx) (f_X4_line_my ((xs (iN + 1))) ((xs (iN + 2))) ((xs (iN + 3))) (nI n) (nI B) my) kd ky ix iy iu iv)) H := hP
    have hD : va_D A (oC cJ ao (vp_updL fo 0 ((f_X3_line ((xs (iN + 1))) ((xs (iN + 2))) ((xs (iN + 3))) (nI B) (nI (S - B))).toInt64)) :: (wI cI cJ cZ a n ah pl ck ct (nI K) pm ja (nI n) (nI B) (nI (S - B)) tp st us fb kA tA (f_X3_line_lx ((xs (iN + 1))) ((xs (iN + 2))) ((xs (iN + 3))) (nI B) (nI (S - B)) lx) (f_X3_line_ly ((xs (iN + 1))) ((xs (iN + 2))) ((xs (iN + 3))) (nI B) (nI (S - B)) ly) gx gy gu gv ++ wM cI cJ cZ am (f_X4_line_fa ((xs (iN + 1))) ((xs (iN + 2))) ((xs (iN + 3))) (nI n) (nI B)) (nI n) (nI B) (nI (S - B)) pl ja ah (nI K) bl bs bk be al tp st (f_X4_line_mx ((xs (iN + 1))) ((xs (iN + 2))) ((xs (iN + 3))) (nI n) (nI B) mx) (f_X4_line_my ((xs (iN + 1))) ((xs (iN + 2))) ((xs (iN + 3))) (nI n) (nI B) my) kd ky ix iy iu iv)) := hD
    refine lv_istore (lv' := [(6, .int (f_X4_line ((xs (iN + 1))) ((xs (iN + 2))) ((xs (iN + 3))) (nI n) (nI B))), (5, .int 0), (4, .int (nI iN)), (3, .ref ao), (2, .ref (am 0)), (1, .ref (a 0)), (0, .ref sb)]) hx hb dL_law_265 hl (by decide) rfl (fun ls hl => ?_)
    refine lv_aload_n hx hb dL_law_267 rfl (lv_at hl 4 rfl) ?_
    refine rdV (As := []) (rest := []) (st1 := [.int (f_X4_thrown (f_X4_line_fa ((xs (iN + 1))) ((xs (iN + 2))) ((xs (iN + 3))) (nI n) (nI B)))]) (RD.frame (w := (oC cJ ao (vp_updL fo 0 ((f_X3_line ((xs (iN + 1))) ((xs (iN + 2))) ((xs (iN + 3))) (nI B) (nI (S - B))).toInt64)) :: (wI cI cJ cZ a n ah pl ck ct (nI K) pm ja (nI n) (nI B) (nI (S - B)) tp st us fb kA tA (f_X3_line_lx ((xs (iN + 1))) ((xs (iN + 2))) ((xs (iN + 3))) (nI B) (nI (S - B)) lx) (f_X3_line_ly ((xs (iN + 1))) ((xs (iN + 2))) ((xs (iN + 3))) (nI B) (nI (S - B)) ly) gx gy gu gv ++ wM cI cJ cZ am (f_X4_line_fa ((xs (iN + 1))) ((xs (iN + 2))) ((xs (iN + 3))) (nI n) (nI B)) (nI n) (nI B) (nI (S - B)) pl ja ah (nI K) bl bs bk be al tp st (f_X4_line_mx ((xs (iN + 1))) ((xs (iN + 2))) ((xs (iN + 3))) (nI n) (nI B) mx) (f_X4_line_my ((xs (iN + 1))) ((xs (iN + 2))) ((xs (iN + 3))) (nI n) (nI B) my) kd ky ix iy iu iv))) (k_X4_thrown l D cI cJ cZ am (f_X4_line_fa ((xs (iN + 1))) ((xs (iN + 2))) ((xs (iN + 3))) (nI n) (nI B)) (nI n) (nI B) (nI (S - B)) pl ja ah (nI K) bl bs bk be al tp st (f_X4_line_mx ((xs (iN + 1))) ((xs (iN + 2))) ((xs (iN + 3))) (nI n) (nI B) mx) (f_X4_line_my ((xs (iN + 1))) ((xs (iN + 2))) ((xs (iN + 3))) (nI n) (nI B) my) kd ky ix iy iu iv) [17, 18, 19, 20, 21, 22, 23, 24, 25, 26, 27, 28] rfl) (si_L_58 ht ⟨Nat.le_of_ble_eq_true rfl, Nat.le_of_ble_eq_true rfl⟩) hx hb hml hown (va_recv hK hP (ci := 5) (q0 := 17) rfl rfl) (hE.since hS) hP hK rfl hl.1 rfl (Nat.le_of_ble_eq_true rfl) ⟨by show _ ≤ 653990; omega, by show _ ≤ 7134099; omega⟩ dL_law_268 rfl ?_
    refine lv_iload hx hb dL_law_271 (lv_at hl 1 rfl) ?_
    refine lv_icmp_eq (tgt := 278) hx hb dL_law_273 (by decide) (fun _ => ?_) (fun c => absurd ef c)
    refine lv_iload hx hb dL_law_278 (lv_at hl 1 rfl) ?_
    refine lv_if_ne (tgt := 295) hx hb dL_law_280 (by decide) (fun c => absurd rfl c) (fun _ => ?_)
    refine lv_aload_n hx hb dL_law_283 rfl (lv_at hl 3 rfl) ?_
    refine lv_iconst (v := 0) hx hb dL_law_284 (by decide) ?_
    refine va_lald hx hb hK hP 0 1 rfl rfl (in_of (i := 0) nI_0.symm (by decide) (by decide)) dL_law_285 ?_
    refine W.st (st1 := [.long ((f_X3_line ((xs (iN + 1))) ((xs (iN + 2))) ((xs (iN + 3))) (nI B) (nI (S - B))).toInt64)]) rfl ?_
    refine lv_iload hx hb dL_law_286 (lv_at hl 0 rfl) ?_
    refine lv_i2l (v := (f_X4_line ((xs (iN + 1))) ((xs (iN + 2))) ((xs (iN + 3))) (nI n) (nI B)).toInt64) hx hb dL_law_288 rfl ?_
    refine W.lcmp hx hb dL_law_289 ?_
    refine lv_if_eq (tgt := 295) hx hb dL_law_290 (by decide) (fun _ => ?_) (fun c => absurd ((lg_cmp_eq _ _).mpr (congrArg Int32.toInt64 ea)) c)
    refine lv_goto (tgt := 953) hx hb dL_law_295 (by decide) ?_
    rw [e1, e2, e3, e4] at hP hD
    have hP : va_P D vwCl (oC cJ ao (vp_updL fo 0 ((f_X3_line ((xs (iN + 1))) ((xs (iN + 2))) ((xs (iN + 3))) (nI B) (nI (S - B))).toInt64)) :: (wI cI cJ cZ a n ah pl ck ct (nI K) pm ja (nI n) (nI B) (nI (S - B)) tp st us fb kA tA lx1 ly1 gx gy gu gv ++ wM cI cJ cZ am (f_X4_line_fa ((xs (iN + 1))) ((xs (iN + 2))) ((xs (iN + 3))) (nI n) (nI B)) (nI n) (nI B) (nI (S - B)) pl ja ah (nI K) bl bs bk be al tp st mx1 my1 kd ky ix iy iu iv)) H := hP
    have hD : va_D A (oC cJ ao (vp_updL fo 0 ((f_X3_line ((xs (iN + 1))) ((xs (iN + 2))) ((xs (iN + 3))) (nI B) (nI (S - B))).toInt64)) :: (wI cI cJ cZ a n ah pl ck ct (nI K) pm ja (nI n) (nI B) (nI (S - B)) tp st us fb kA tA lx1 ly1 gx gy gu gv ++ wM cI cJ cZ am (f_X4_line_fa ((xs (iN + 1))) ((xs (iN + 2))) ((xs (iN + 3))) (nI n) (nI B)) (nI n) (nI B) (nI (S - B)) pl ja ah (nI K) bl bs bk be al tp st mx1 my1 kd ky ix iy iu iv)) := hD
    refine W.widen (k := cells + 1) (n := slots + 6) (by omega) (by omega) ?_
    exact kk (oC cJ ao (vp_updL fo 0 ((f_X3_line ((xs (iN + 1))) ((xs (iN + 2))) ((xs (iN + 3))) (nI B) (nI (S - B))).toInt64)) :: (wI cI cJ cZ a n ah pl ck ct (nI K) pm ja (nI n) (nI B) (nI (S - B)) tp st us fb kA tA lx1 ly1 gx gy gu gv ++ wM cI cJ cZ am (f_X4_line_fa ((xs (iN + 1))) ((xs (iN + 2))) ((xs (iN + 3))) (nI n) (nI B)) (nI n) (nI B) (nI (S - B)) pl ja ah (nI K) bl bs bk be al tp st mx1 my1 kd ky ix iy iu iv)) H _ ls ⟨_, _, _, _, _, _, _, _, _, _, _, _, _, _, _, _, _, _, _, _, _, _, _, _, _, _, _, _, _, _, _, _, _, _, _, _, (RE_X (by omega) hR1), rfl⟩ hP hD hS (lv_sub hl [2, 3, 4, 5, 6] rfl)
set_option maxRecDepth 20000 in
set_option maxHeartbeats 4000000 in
theorem cs_survey {p : Program} {e : Env} {s : State} {m : MethodId} {below : List Frame} {meth : Method} {c : Code} (l : Launch) (hnt : ∀ e : Env, l.admits e → e.platform.stackTraces = false) {sb L : Nat} {xs : Nat → Int32} {D : va_G} {cI cJ cZ : ClassId} {A : Nat → Prop} {Q : State → Prop} (hC : LX p s m c sb L xs D cI cJ cZ A) {X : Int} (hX5 : 0 ≤ X ∧ X ≤ 60000000) {a am : Nat → Nat} {ao n iN : Nat} (hi : iN + 4 ≤ L) {w : va_W} (hw : LI X cI cJ cZ a am ao n w) {ls : Array Slot} (hl : lv_has ls 8 [(4, .int (nI iN)), (3, .ref ao), (2, .ref (am 0)), (1, .ref (a 0)), (0, .ref sb)]) {H : Heap} {locs : List Loc} (hP : va_P D vwCl w H) (hD : va_D A w) (hS : va_S A s.heap H locs) {cells slots : Nat} (hc : cells + 1 ≤ 653990) (hs : slots + 6 ≤ 7134099)
    (kk : ∀ (w' : va_W) (H' : Heap) (locs' : List Loc) (ls' : Array Slot), LI (X + 100000) cI cJ cZ a am ao n w' → va_P D vwCl w' H' → va_D A w' → va_S A s.heap H' locs' → lv_has ls' 8 [(4, .int (nI iN)), (3, .ref ao), (2, .ref (am 0)), (1, .ref (a 0)), (0, .ref sb)] → W p l e room_1 s m #[.ref sb] below meth c H' locs' (cells + 1) (slots + 6) Q (F0 m 953 ls' [])) : W p l e room_1 s m #[.ref sb] below meth c H locs cells slots Q (F0 m 439 ls []) := by
  obtain ⟨hx, hb, hml, hown, hX, hbl, hbA, hE, hK, hA, hL⟩ := hC
  have ht : tb_OK s := hE.1
  obtain ⟨B, S, K, ah, pl, ck, ct, pm, ja, tp, st, us, fb, kA, tA, lx, ly, gx, gy, gu, gv, fo, fa, bl, bs, bk, be, al, mx, my, kd, ky, ix, iy, iu, iv, hR, rfl⟩ := hw
  obtain ⟨⟨hn1, hn, hBS, hSn, hK4⟩, hah, hja, ⟨hAL, hpm⟩, hLN, hTP, hPR⟩ := id hR
  have gS := st_eq hBS
  by_cases hh : f_X2_has (xs (iN + 1)) (nI n) = 0
  · skip
    obtain ⟨ef, e1, e2, e3⟩ := r_surveyT (B := B) (ix := ix) (iy := iy) (xs (iN + 2)) (xs (iN + 3)) (nI n) (nI B) (nI (S - B)) 0 hh
    refine lv_aload_n hx hb dL_law_439 rfl (lv_at hl 3 rfl) ?_
    refine lv_aload_n hx hb dL_law_440 rfl (lv_at hl 4 rfl) ?_
    refine lv_iload hx hb dL_law_441 (lv_at hl 0 rfl) ?_
    refine lv_iconst (v := 1) hx hb dL_law_443 (by decide) ?_
    refine lv_iadd hx hb dL_law_444 ?_
    refine va_sld hx hb hX hbl hbA hS (in_of (sc_1 iN) (by omega) (by omega)) dL_law_445 ?_
    refine W.st (st1 := [.int (xs (iN + 1)), .ref (a 0)]) (by rw [cl_of (sc_1 iN) (by omega)]) ?_
    refine lv_aload_n hx hb dL_law_446 rfl (lv_at hl 4 rfl) ?_
    refine lv_iload hx hb dL_law_447 (lv_at hl 0 rfl) ?_
    refine lv_iconst (v := 2) hx hb dL_law_449 (by decide) ?_
    refine lv_iadd hx hb dL_law_450 ?_
    refine va_sld hx hb hX hbl hbA hS (in_of (sc_2 iN) (by omega) (by omega)) dL_law_451 ?_
    refine W.st (st1 := [.int (xs (iN + 2)), .int (xs (iN + 1)), .ref (a 0)]) (by rw [cl_of (sc_2 iN) (by omega)]) ?_
    refine lv_aload_n hx hb dL_law_452 rfl (lv_at hl 4 rfl) ?_
    refine lv_iload hx hb dL_law_453 (lv_at hl 0 rfl) ?_
    refine lv_iconst (v := 3) hx hb dL_law_455 (by decide) ?_
    refine lv_iadd hx hb dL_law_456 ?_
    refine va_sld hx hb hX hbl hbA hS (in_of (sc_3 iN) (by omega) (by omega)) dL_law_457 ?_
    refine W.st (st1 := [.int (xs (iN + 3)), .int (xs (iN + 2)), .int (xs (iN + 1)), .ref (a 0)]) (by rw [cl_of (sc_3 iN) (by omega)]) ?_
    refine lv_aload_n hx hb dL_law_458 rfl (lv_at hl 1 rfl) ?_
    refine cwr2 (rest := []) (runSH (n := 5) (As := [.ref (a 0), .int (xs (iN + 1)), .int (xs (iN + 2)), .int (xs (iN + 3)), .ref ao]) (rest := []) (WRH.frame (w := (oC cJ ao fo :: (wI cI cJ cZ a n ah pl ck ct (nI K) pm ja (nI n) (nI B) (nI (S - B)) tp st us fb kA tA lx ly gx gy gu gv ++ wM cI cJ cZ am fa (nI n) (nI B) (nI (S - B)) pl ja ah (nI K) bl bs bk be al tp st mx my kd ky ix iy iu iv))) (wr := wM cI cJ cZ am fa (nI n) (nI B) (nI (S - B)) pl ja ah (nI K) bl bs bk be al tp st mx my kd ky ix iy iu iv) (t_L_survey l hnt D cI cJ cZ a n ah pl ck ct (nI K) pm ja (nI n) (nI B) (nI (S - B)) tp st us fb kA tA lx ly gx gy gu gv ao fo ((xs (iN + 1))) ((xs (iN + 2))) ((xs (iN + 3))) hh) [0, 1, 2, 3, 4, 5, 6, 7, 8, 9, 10, 11, 12, 13, 14, 15, 16] [17, 18, 19, 20, 21, 22, 23, 24, 25, 26, 27, 28] rfl rfl (by decide) (by decide) (by decide)) ht (fun U a h => cw_L_survey h) (fun U a h => ini_L h) (ml_L_83 ht) (sm_L_survey ht) ⟨by decide +kernel, by decide +kernel, by decide +kernel⟩ ⟨Nat.le_of_ble_eq_true rfl, Nat.le_of_ble_eq_true rfl⟩ hx hb hml hown hE hP hK hD hS hA rfl hl.1 rfl (Nat.le_of_ble_eq_true rfl) ⟨by show _ ≤ 653990; omega, by show _ ≤ 7134099; omega⟩ dL_law_459) hD hS hA (fun ov w' H locs hpost hP hD hS => ?_)
    obtain ⟨w1, ⟨rfl, rfl⟩, rfl⟩ := hpost
    refine W.st (st1 := [.int 1]) rfl ?_
    have hP : va_P D vwCl (wM cI cJ cZ am fa (nI n) (nI B) (nI (S - B)) pl ja ah (nI K) bl bs bk be al tp st mx my kd ky ix iy iu iv ++ (oC cJ ao fo :: wI cI cJ cZ a n ah pl ck ct (nI K) pm ja (nI n) (nI B) (nI (S - B)) tp st us fb kA tA lx ly gx gy gu gv)) H := hP
    have hD : va_D A (wM cI cJ cZ am fa (nI n) (nI B) (nI (S - B)) pl ja ah (nI K) bl bs bk be al tp st mx my kd ky ix iy iu iv ++ (oC cJ ao fo :: wI cI cJ cZ a n ah pl ck ct (nI K) pm ja (nI n) (nI B) (nI (S - B)) tp st us fb kA tA lx ly gx gy gu gv)) := hD
    refine lv_istore (lv' := [(5, .int 1), (4, .int (nI iN)), (3, .ref ao), (2, .ref (am 0)), (1, .ref (a 0)), (0, .ref sb)]) hx hb dL_law_462 hl (by decide) rfl (fun ls hl => ?_)
    refine lv_aload_n hx hb dL_law_464 rfl (lv_at hl 3 rfl) ?_
    refine lv_aload_n hx hb dL_law_465 rfl (lv_at hl 5 rfl) ?_
    refine lv_iload hx hb dL_law_466 (lv_at hl 1 rfl) ?_
    refine lv_iconst (v := 1) hx hb dL_law_468 (by decide) ?_
    refine lv_iadd hx hb dL_law_469 ?_
    refine va_sld hx hb hX hbl hbA hS (in_of (sc_1 iN) (by omega) (by omega)) dL_law_470 ?_
    refine W.st (st1 := [.int (xs (iN + 1)), .ref (am 0)]) (by rw [cl_of (sc_1 iN) (by omega)]) ?_
    refine lv_aload_n hx hb dL_law_471 rfl (lv_at hl 5 rfl) ?_
    refine lv_iload hx hb dL_law_472 (lv_at hl 1 rfl) ?_
    refine lv_iconst (v := 2) hx hb dL_law_474 (by decide) ?_
    refine lv_iadd hx hb dL_law_475 ?_
    refine va_sld hx hb hX hbl hbA hS (in_of (sc_2 iN) (by omega) (by omega)) dL_law_476 ?_
    refine W.st (st1 := [.int (xs (iN + 2)), .int (xs (iN + 1)), .ref (am 0)]) (by rw [cl_of (sc_2 iN) (by omega)]) ?_
    refine lv_aload_n hx hb dL_law_477 rfl (lv_at hl 5 rfl) ?_
    refine lv_iload hx hb dL_law_478 (lv_at hl 1 rfl) ?_
    refine lv_iconst (v := 3) hx hb dL_law_480 (by decide) ?_
    refine lv_iadd hx hb dL_law_481 ?_
    refine va_sld hx hb hX hbl hbA hS (in_of (sc_3 iN) (by omega) (by omega)) dL_law_482 ?_
    refine W.st (st1 := [.int (xs (iN + 3)), .int (xs (iN + 2)), .int (xs (iN + 1)), .ref (am 0)]) (by rw [cl_of (sc_3 iN) (by omega)]) ?_
    refine wrV (As := [.int (xs (iN + 1)), .int (xs (iN + 2)), .int (xs (iN + 3))]) (rest := []) (WR.frame (w := (wM cI cJ cZ am fa (nI n) (nI B) (nI (S - B)) pl ja ah (nI K) bl bs bk be al tp st mx my kd ky ix iy iu iv ++ (oC cJ ao fo :: wI cI cJ cZ a n ah pl ck ct (nI K) pm ja (nI n) (nI B) (nI (S - B)) tp st us fb kA tA lx ly gx gy gu gv))) (wr := (oC cJ ao fo :: wI cI cJ cZ a n ah pl ck ct (nI K) pm ja (nI n) (nI B) (nI (S - B)) tp st us fb kA tA lx ly gx gy gu gv)) (k_X4_survey l D cI cJ cZ am fa (nI n) (nI B) (nI (S - B)) pl ja ah (nI K) bl bs bk be al tp st mx my kd ky ix iy iu iv ((xs (iN + 1))) ((xs (iN + 2))) ((xs (iN + 3))) B 0 rfl (by omega) (fun h => absurd hh h)) [0, 1, 2, 3, 4, 5, 6, 7, 8, 9, 10, 11] [12, 13, 14, 15, 16, 17, 18, 19, 20, 21, 22, 23, 24, 25, 26, 27, 28] rfl rfl (by decide) (by decide) (by decide)) (si_L_85 ht ⟨Nat.le_of_ble_eq_true rfl, Nat.le_of_ble_eq_true rfl⟩) hx hb hml hown (va_recv hK hP (ci := 5) (q0 := 0) rfl rfl) hE hP hK hD hS hA rfl hl.1 rfl (Nat.le_of_ble_eq_true rfl) ⟨by show _ ≤ 653990; omega, by show _ ≤ 7134099; omega⟩ dL_law_483 (fun ov w' H locs hpost hP hD hS => ?_)
    obtain ⟨w1, ⟨rfl, rfl⟩, rfl⟩ := hpost
    refine W.st (st1 := [.int (f_X4_survey ((xs (iN + 1))) ((xs (iN + 2))) ((xs (iN + 3))) (nI n) (nI B))]) rfl ?_
    have hP : va_P D vwCl (oC cJ ao fo :: (wI cI cJ cZ a n ah pl ck ct (nI K) pm ja (nI n) (nI B) (nI (S - B)) tp st us fb kA tA lx ly gx gy gu gv ++ wM cI cJ cZ am (f_X4_survey_fa ((xs (iN + 1))) ((xs (iN + 2))) ((xs (iN + 3))) (nI n) (nI B)) (nI n) (nI B) (f_X4_survey_pn ((xs (iN + 1))) ((xs (iN + 2))) ((xs (iN + 3))) (nI n) (nI B) (nI (S - B))) pl ja ah (nI K) bl bs bk be al tp st mx my kd ky (f_X4_survey_gx ((xs (iN + 1))) ((xs (iN + 2))) ((xs (iN + 3))) B 0 (nI n) (nI B) ix) (f_X4_survey_gy ((xs (iN + 1))) ((xs (iN + 2))) ((xs (iN + 3))) B 0 (nI n) (nI B) iy) iu iv)) H := hP
    have hD : va_D A (oC cJ ao fo :: (wI cI cJ cZ a n ah pl ck ct (nI K) pm ja (nI n) (nI B) (nI (S - B)) tp st us fb kA tA lx ly gx gy gu gv ++ wM cI cJ cZ am (f_X4_survey_fa ((xs (iN + 1))) ((xs (iN + 2))) ((xs (iN + 3))) (nI n) (nI B)) (nI n) (nI B) (f_X4_survey_pn ((xs (iN + 1))) ((xs (iN + 2))) ((xs (iN + 3))) (nI n) (nI B) (nI (S - B))) pl ja ah (nI K) bl bs bk be al tp st mx my kd ky (f_X4_survey_gx ((xs (iN + 1))) ((xs (iN + 2))) ((xs (iN + 3))) B 0 (nI n) (nI B) ix) (f_X4_survey_gy ((xs (iN + 1))) ((xs (iN + 2))) ((xs (iN + 3))) B 0 (nI n) (nI B) iy) iu iv)) := hD
    refine lv_istore (lv' := [(6, .int (f_X4_survey ((xs (iN + 1))) ((xs (iN + 2))) ((xs (iN + 3))) (nI n) (nI B))), (5, .int 1), (4, .int (nI iN)), (3, .ref ao), (2, .ref (am 0)), (1, .ref (a 0)), (0, .ref sb)]) hx hb dL_law_486 hl (by decide) rfl (fun ls hl => ?_)
    refine lv_aload_n hx hb dL_law_488 rfl (lv_at hl 4 rfl) ?_
    refine rdV (As := []) (rest := []) (st1 := [.int (f_X4_thrown (f_X4_survey_fa ((xs (iN + 1))) ((xs (iN + 2))) ((xs (iN + 3))) (nI n) (nI B)))]) (RD.frame (w := (oC cJ ao fo :: (wI cI cJ cZ a n ah pl ck ct (nI K) pm ja (nI n) (nI B) (nI (S - B)) tp st us fb kA tA lx ly gx gy gu gv ++ wM cI cJ cZ am (f_X4_survey_fa ((xs (iN + 1))) ((xs (iN + 2))) ((xs (iN + 3))) (nI n) (nI B)) (nI n) (nI B) (f_X4_survey_pn ((xs (iN + 1))) ((xs (iN + 2))) ((xs (iN + 3))) (nI n) (nI B) (nI (S - B))) pl ja ah (nI K) bl bs bk be al tp st mx my kd ky (f_X4_survey_gx ((xs (iN + 1))) ((xs (iN + 2))) ((xs (iN + 3))) B 0 (nI n) (nI B) ix) (f_X4_survey_gy ((xs (iN + 1))) ((xs (iN + 2))) ((xs (iN + 3))) B 0 (nI n) (nI B) iy) iu iv))) (k_X4_thrown l D cI cJ cZ am (f_X4_survey_fa ((xs (iN + 1))) ((xs (iN + 2))) ((xs (iN + 3))) (nI n) (nI B)) (nI n) (nI B) (f_X4_survey_pn ((xs (iN + 1))) ((xs (iN + 2))) ((xs (iN + 3))) (nI n) (nI B) (nI (S - B))) pl ja ah (nI K) bl bs bk be al tp st mx my kd ky (f_X4_survey_gx ((xs (iN + 1))) ((xs (iN + 2))) ((xs (iN + 3))) B 0 (nI n) (nI B) ix) (f_X4_survey_gy ((xs (iN + 1))) ((xs (iN + 2))) ((xs (iN + 3))) B 0 (nI n) (nI B) iy) iu iv) [17, 18, 19, 20, 21, 22, 23, 24, 25, 26, 27, 28] rfl) (si_L_58 ht ⟨Nat.le_of_ble_eq_true rfl, Nat.le_of_ble_eq_true rfl⟩) hx hb hml hown (va_recv hK hP (ci := 5) (q0 := 17) rfl rfl) (hE.since hS) hP hK rfl hl.1 rfl (Nat.le_of_ble_eq_true rfl) ⟨by show _ ≤ 653990; omega, by show _ ≤ 7134099; omega⟩ dL_law_489 rfl ?_
    refine lv_iload hx hb dL_law_492 (lv_at hl 1 rfl) ?_
    refine lv_icmp_eq (tgt := 499) hx hb dL_law_494 (by decide) (fun _ => ?_) (fun c => absurd ef c)
    refine lv_iload hx hb dL_law_499 (lv_at hl 1 rfl) ?_
    refine lv_if_ne (tgt := 516) hx hb dL_law_501 (by decide) (fun _ => ?_) (fun c => absurd c (by decide))
    refine lv_goto (tgt := 953) hx hb dL_law_516 (by decide) ?_
    rw [e1, e2, e3] at hP hD
    have hP : va_P D vwCl (oC cJ ao fo :: (wI cI cJ cZ a n ah pl ck ct (nI K) pm ja (nI n) (nI B) (nI (S - B)) tp st us fb kA tA lx ly gx gy gu gv ++ wM cI cJ cZ am (f_X4_survey_fa ((xs (iN + 1))) ((xs (iN + 2))) ((xs (iN + 3))) (nI n) (nI B)) (nI n) (nI B) (nI (S - B)) pl ja ah (nI K) bl bs bk be al tp st mx my kd ky ix iy iu iv)) H := hP
    have hD : va_D A (oC cJ ao fo :: (wI cI cJ cZ a n ah pl ck ct (nI K) pm ja (nI n) (nI B) (nI (S - B)) tp st us fb kA tA lx ly gx gy gu gv ++ wM cI cJ cZ am (f_X4_survey_fa ((xs (iN + 1))) ((xs (iN + 2))) ((xs (iN + 3))) (nI n) (nI B)) (nI n) (nI B) (nI (S - B)) pl ja ah (nI K) bl bs bk be al tp st mx my kd ky ix iy iu iv)) := hD
    refine W.widen (k := cells + 1) (n := slots + 6) (by omega) (by omega) ?_
    exact kk (oC cJ ao fo :: (wI cI cJ cZ a n ah pl ck ct (nI K) pm ja (nI n) (nI B) (nI (S - B)) tp st us fb kA tA lx ly gx gy gu gv ++ wM cI cJ cZ am (f_X4_survey_fa ((xs (iN + 1))) ((xs (iN + 2))) ((xs (iN + 3))) (nI n) (nI B)) (nI n) (nI B) (nI (S - B)) pl ja ah (nI K) bl bs bk be al tp st mx my kd ky ix iy iu iv)) H _ ls ⟨_, _, _, _, _, _, _, _, _, _, _, _, _, _, _, _, _, _, _, _, _, _, _, _, _, _, _, _, _, _, _, _, _, _, _, _, (RE_X (by omega) hR), rfl⟩ hP hD hS (lv_sub hl [2, 3, 4, 5, 6] rfl)
  · skip
    obtain ⟨rn, hrn, er⟩ := has_in (by omega) hh
    obtain ⟨S1, us1, gx1, gy1, ix1, iy1, e1, e2, e3, e4, e5, e6, e7, ef, ea, hR1⟩ := r_survey hX5.1 hX5.2 hR (rn := rn) (xs (iN + 2)) (xs (iN + 3)) hh
    refine lv_aload_n hx hb dL_law_439 rfl (lv_at hl 3 rfl) ?_
    refine lv_aload_n hx hb dL_law_440 rfl (lv_at hl 4 rfl) ?_
    refine lv_iload hx hb dL_law_441 (lv_at hl 0 rfl) ?_
    refine lv_iconst (v := 1) hx hb dL_law_443 (by decide) ?_
    refine lv_iadd hx hb dL_law_444 ?_
    refine va_sld hx hb hX hbl hbA hS (in_of (sc_1 iN) (by omega) (by omega)) dL_law_445 ?_
    refine W.st (st1 := [.int (xs (iN + 1)), .ref (a 0)]) (by rw [cl_of (sc_1 iN) (by omega)]) ?_
    refine lv_aload_n hx hb dL_law_446 rfl (lv_at hl 4 rfl) ?_
    refine lv_iload hx hb dL_law_447 (lv_at hl 0 rfl) ?_
    refine lv_iconst (v := 2) hx hb dL_law_449 (by decide) ?_
    refine lv_iadd hx hb dL_law_450 ?_
    refine va_sld hx hb hX hbl hbA hS (in_of (sc_2 iN) (by omega) (by omega)) dL_law_451 ?_
    refine W.st (st1 := [.int (xs (iN + 2)), .int (xs (iN + 1)), .ref (a 0)]) (by rw [cl_of (sc_2 iN) (by omega)]) ?_
    refine lv_aload_n hx hb dL_law_452 rfl (lv_at hl 4 rfl) ?_
    refine lv_iload hx hb dL_law_453 (lv_at hl 0 rfl) ?_
    refine lv_iconst (v := 3) hx hb dL_law_455 (by decide) ?_
    refine lv_iadd hx hb dL_law_456 ?_
    refine va_sld hx hb hX hbl hbA hS (in_of (sc_3 iN) (by omega) (by omega)) dL_law_457 ?_
    refine W.st (st1 := [.int (xs (iN + 3)), .int (xs (iN + 2)), .int (xs (iN + 1)), .ref (a 0)]) (by rw [cl_of (sc_3 iN) (by omega)]) ?_
    refine lv_aload_n hx hb dL_law_458 rfl (lv_at hl 1 rfl) ?_
    refine cwr2 (rest := []) (runSH (n := 5) (As := [.ref (a 0), .int (xs (iN + 1)), .int (xs (iN + 2)), .int (xs (iN + 3)), .ref ao]) (rest := []) (WRH.frame (w := (oC cJ ao fo :: (wI cI cJ cZ a n ah pl ck ct (nI K) pm ja (nI n) (nI B) (nI (S - B)) tp st us fb kA tA lx ly gx gy gu gv ++ wM cI cJ cZ am fa (nI n) (nI B) (nI (S - B)) pl ja ah (nI K) bl bs bk be al tp st mx my kd ky ix iy iu iv))) (wr := wM cI cJ cZ am fa (nI n) (nI B) (nI (S - B)) pl ja ah (nI K) bl bs bk be al tp st mx my kd ky ix iy iu iv) (k_L_survey l D cI cJ cZ a n ah pl ck ct (nI K) pm ja (nI n) (nI B) (nI (S - B)) tp st us fb kA tA lx ly gx gy gu gv ao fo ((xs (iN + 1))) ((xs (iN + 2))) ((xs (iN + 3))) B S rn hh rfl hBS gS hSn hn (q_kA hR) er (fun h2 => q_sv er (by omega) (by omega) h2)) [0, 1, 2, 3, 4, 5, 6, 7, 8, 9, 10, 11, 12, 13, 14, 15, 16] [17, 18, 19, 20, 21, 22, 23, 24, 25, 26, 27, 28] rfl rfl (by decide) (by decide) (by decide)) ht (fun U a h => cw_L_survey h) (fun U a h => ini_L h) (ml_L_83 ht) (sm_L_survey ht) ⟨by decide +kernel, by decide +kernel, by decide +kernel⟩ ⟨Nat.le_of_ble_eq_true rfl, Nat.le_of_ble_eq_true rfl⟩ hx hb hml hown hE hP hK hD hS hA rfl hl.1 rfl (Nat.le_of_ble_eq_true rfl) ⟨by show _ ≤ 653990; omega, by show _ ≤ 7134099; omega⟩ dL_law_459) hD hS hA (fun ov w' H locs hpost hP hD hS => ?_)
    obtain ⟨w1, ⟨rfl, rfl⟩, rfl⟩ := hpost
    refine W.st (st1 := [.int 0]) rfl ?_
    have hP : va_P D vwCl (wM cI cJ cZ am fa (nI n) (nI B) (nI (S - B)) pl ja ah (nI K) bl bs bk be al tp st mx my kd ky ix iy iu iv ++ (oC cJ ao (vp_updL fo 0 ((f_X3_survey ((xs (iN + 1))) ((xs (iN + 2))) ((xs (iN + 3))) (nI B) (nI (S - B))).toInt64)) :: wI cI cJ cZ a n ah pl ck ct (nI K) pm ja (nI n) (nI B) (f_X3_survey_pn ((xs (iN + 1))) ((xs (iN + 2))) ((xs (iN + 3))) (nI B) (nI (S - B))) tp st (f_X3_survey_us ((xs (iN + 1))) ((xs (iN + 2))) ((xs (iN + 3))) B S (nI B) (nI (S - B)) us kA) fb kA tA lx ly (f_X3_survey_gx ((xs (iN + 1))) ((xs (iN + 2))) ((xs (iN + 3))) B rn (nI B) (nI (S - B)) gx) (f_X3_survey_gy ((xs (iN + 1))) ((xs (iN + 2))) ((xs (iN + 3))) B rn (nI B) (nI (S - B)) gy) gu gv)) H := hP
    have hD : va_D A (wM cI cJ cZ am fa (nI n) (nI B) (nI (S - B)) pl ja ah (nI K) bl bs bk be al tp st mx my kd ky ix iy iu iv ++ (oC cJ ao (vp_updL fo 0 ((f_X3_survey ((xs (iN + 1))) ((xs (iN + 2))) ((xs (iN + 3))) (nI B) (nI (S - B))).toInt64)) :: wI cI cJ cZ a n ah pl ck ct (nI K) pm ja (nI n) (nI B) (f_X3_survey_pn ((xs (iN + 1))) ((xs (iN + 2))) ((xs (iN + 3))) (nI B) (nI (S - B))) tp st (f_X3_survey_us ((xs (iN + 1))) ((xs (iN + 2))) ((xs (iN + 3))) B S (nI B) (nI (S - B)) us kA) fb kA tA lx ly (f_X3_survey_gx ((xs (iN + 1))) ((xs (iN + 2))) ((xs (iN + 3))) B rn (nI B) (nI (S - B)) gx) (f_X3_survey_gy ((xs (iN + 1))) ((xs (iN + 2))) ((xs (iN + 3))) B rn (nI B) (nI (S - B)) gy) gu gv)) := hD
    refine lv_istore (lv' := [(5, .int 0), (4, .int (nI iN)), (3, .ref ao), (2, .ref (am 0)), (1, .ref (a 0)), (0, .ref sb)]) hx hb dL_law_462 hl (by decide) rfl (fun ls hl => ?_)
    refine lv_aload_n hx hb dL_law_464 rfl (lv_at hl 3 rfl) ?_
    refine lv_aload_n hx hb dL_law_465 rfl (lv_at hl 5 rfl) ?_
    refine lv_iload hx hb dL_law_466 (lv_at hl 1 rfl) ?_
    refine lv_iconst (v := 1) hx hb dL_law_468 (by decide) ?_
    refine lv_iadd hx hb dL_law_469 ?_
    refine va_sld hx hb hX hbl hbA hS (in_of (sc_1 iN) (by omega) (by omega)) dL_law_470 ?_
    refine W.st (st1 := [.int (xs (iN + 1)), .ref (am 0)]) (by rw [cl_of (sc_1 iN) (by omega)]) ?_
    refine lv_aload_n hx hb dL_law_471 rfl (lv_at hl 5 rfl) ?_
    refine lv_iload hx hb dL_law_472 (lv_at hl 1 rfl) ?_
    refine lv_iconst (v := 2) hx hb dL_law_474 (by decide) ?_
    refine lv_iadd hx hb dL_law_475 ?_
    refine va_sld hx hb hX hbl hbA hS (in_of (sc_2 iN) (by omega) (by omega)) dL_law_476 ?_
    refine W.st (st1 := [.int (xs (iN + 2)), .int (xs (iN + 1)), .ref (am 0)]) (by rw [cl_of (sc_2 iN) (by omega)]) ?_
    refine lv_aload_n hx hb dL_law_477 rfl (lv_at hl 5 rfl) ?_
    refine lv_iload hx hb dL_law_478 (lv_at hl 1 rfl) ?_
    refine lv_iconst (v := 3) hx hb dL_law_480 (by decide) ?_
    refine lv_iadd hx hb dL_law_481 ?_
    refine va_sld hx hb hX hbl hbA hS (in_of (sc_3 iN) (by omega) (by omega)) dL_law_482 ?_
    refine W.st (st1 := [.int (xs (iN + 3)), .int (xs (iN + 2)), .int (xs (iN + 1)), .ref (am 0)]) (by rw [cl_of (sc_3 iN) (by omega)]) ?_
    refine wrV (As := [.int (xs (iN + 1)), .int (xs (iN + 2)), .int (xs (iN + 3))]) (rest := []) (WR.frame (w := (wM cI cJ cZ am fa (nI n) (nI B) (nI (S - B)) pl ja ah (nI K) bl bs bk be al tp st mx my kd ky ix iy iu iv ++ (oC cJ ao (vp_updL fo 0 ((f_X3_survey ((xs (iN + 1))) ((xs (iN + 2))) ((xs (iN + 3))) (nI B) (nI (S - B))).toInt64)) :: wI cI cJ cZ a n ah pl ck ct (nI K) pm ja (nI n) (nI B) (f_X3_survey_pn ((xs (iN + 1))) ((xs (iN + 2))) ((xs (iN + 3))) (nI B) (nI (S - B))) tp st (f_X3_survey_us ((xs (iN + 1))) ((xs (iN + 2))) ((xs (iN + 3))) B S (nI B) (nI (S - B)) us kA) fb kA tA lx ly (f_X3_survey_gx ((xs (iN + 1))) ((xs (iN + 2))) ((xs (iN + 3))) B rn (nI B) (nI (S - B)) gx) (f_X3_survey_gy ((xs (iN + 1))) ((xs (iN + 2))) ((xs (iN + 3))) B rn (nI B) (nI (S - B)) gy) gu gv))) (wr := (oC cJ ao (vp_updL fo 0 ((f_X3_survey ((xs (iN + 1))) ((xs (iN + 2))) ((xs (iN + 3))) (nI B) (nI (S - B))).toInt64)) :: wI cI cJ cZ a n ah pl ck ct (nI K) pm ja (nI n) (nI B) (f_X3_survey_pn ((xs (iN + 1))) ((xs (iN + 2))) ((xs (iN + 3))) (nI B) (nI (S - B))) tp st (f_X3_survey_us ((xs (iN + 1))) ((xs (iN + 2))) ((xs (iN + 3))) B S (nI B) (nI (S - B)) us kA) fb kA tA lx ly (f_X3_survey_gx ((xs (iN + 1))) ((xs (iN + 2))) ((xs (iN + 3))) B rn (nI B) (nI (S - B)) gx) (f_X3_survey_gy ((xs (iN + 1))) ((xs (iN + 2))) ((xs (iN + 3))) B rn (nI B) (nI (S - B)) gy) gu gv)) (k_X4_survey l D cI cJ cZ am fa (nI n) (nI B) (nI (S - B)) pl ja ah (nI K) bl bs bk be al tp st mx my kd ky ix iy iu iv ((xs (iN + 1))) ((xs (iN + 2))) ((xs (iN + 3))) B rn rfl (by omega) (fun _ => ⟨er, by omega⟩)) [0, 1, 2, 3, 4, 5, 6, 7, 8, 9, 10, 11] [12, 13, 14, 15, 16, 17, 18, 19, 20, 21, 22, 23, 24, 25, 26, 27, 28] rfl rfl (by decide) (by decide) (by decide)) (si_L_85 ht ⟨Nat.le_of_ble_eq_true rfl, Nat.le_of_ble_eq_true rfl⟩) hx hb hml hown (va_recv hK hP (ci := 5) (q0 := 0) rfl rfl) hE hP hK hD hS hA rfl hl.1 rfl (Nat.le_of_ble_eq_true rfl) ⟨by show _ ≤ 653990; omega, by show _ ≤ 7134099; omega⟩ dL_law_483 (fun ov w' H locs hpost hP hD hS => ?_)
    obtain ⟨w1, ⟨rfl, rfl⟩, rfl⟩ := hpost
    refine W.st (st1 := [.int (f_X4_survey ((xs (iN + 1))) ((xs (iN + 2))) ((xs (iN + 3))) (nI n) (nI B))]) rfl ?_
    have hP : va_P D vwCl (oC cJ ao (vp_updL fo 0 ((f_X3_survey ((xs (iN + 1))) ((xs (iN + 2))) ((xs (iN + 3))) (nI B) (nI (S - B))).toInt64)) :: (wI cI cJ cZ a n ah pl ck ct (nI K) pm ja (nI n) (nI B) (f_X3_survey_pn ((xs (iN + 1))) ((xs (iN + 2))) ((xs (iN + 3))) (nI B) (nI (S - B))) tp st (f_X3_survey_us ((xs (iN + 1))) ((xs (iN + 2))) ((xs (iN + 3))) B S (nI B) (nI (S - B)) us kA) fb kA tA lx ly (f_X3_survey_gx ((xs (iN + 1))) ((xs (iN + 2))) ((xs (iN + 3))) B rn (nI B) (nI (S - B)) gx) (f_X3_survey_gy ((xs (iN + 1))) ((xs (iN + 2))) ((xs (iN + 3))) B rn (nI B) (nI (S - B)) gy) gu gv ++ wM cI cJ cZ am (f_X4_survey_fa ((xs (iN + 1))) ((xs (iN + 2))) ((xs (iN + 3))) (nI n) (nI B)) (nI n) (nI B) (f_X4_survey_pn ((xs (iN + 1))) ((xs (iN + 2))) ((xs (iN + 3))) (nI n) (nI B) (nI (S - B))) pl ja ah (nI K) bl bs bk be al tp st mx my kd ky (f_X4_survey_gx ((xs (iN + 1))) ((xs (iN + 2))) ((xs (iN + 3))) B rn (nI n) (nI B) ix) (f_X4_survey_gy ((xs (iN + 1))) ((xs (iN + 2))) ((xs (iN + 3))) B rn (nI n) (nI B) iy) iu iv)) H := hP
    have hD : va_D A (oC cJ ao (vp_updL fo 0 ((f_X3_survey ((xs (iN + 1))) ((xs (iN + 2))) ((xs (iN + 3))) (nI B) (nI (S - B))).toInt64)) :: (wI cI cJ cZ a n ah pl ck ct (nI K) pm ja (nI n) (nI B) (f_X3_survey_pn ((xs (iN + 1))) ((xs (iN + 2))) ((xs (iN + 3))) (nI B) (nI (S - B))) tp st (f_X3_survey_us ((xs (iN + 1))) ((xs (iN + 2))) ((xs (iN + 3))) B S (nI B) (nI (S - B)) us kA) fb kA tA lx ly (f_X3_survey_gx ((xs (iN + 1))) ((xs (iN + 2))) ((xs (iN + 3))) B rn (nI B) (nI (S - B)) gx) (f_X3_survey_gy ((xs (iN + 1))) ((xs (iN + 2))) ((xs (iN + 3))) B rn (nI B) (nI (S - B)) gy) gu gv ++ wM cI cJ cZ am (f_X4_survey_fa ((xs (iN + 1))) ((xs (iN + 2))) ((xs (iN + 3))) (nI n) (nI B)) (nI n) (nI B) (f_X4_survey_pn ((xs (iN + 1))) ((xs (iN + 2))) ((xs (iN + 3))) (nI n) (nI B) (nI (S - B))) pl ja ah (nI K) bl bs bk be al tp st mx my kd ky (f_X4_survey_gx ((xs (iN + 1))) ((xs (iN + 2))) ((xs (iN + 3))) B rn (nI n) (nI B) ix) (f_X4_survey_gy ((xs (iN + 1))) ((xs (iN + 2))) ((xs (iN + 3))) B rn (nI n) (nI B) iy) iu iv)) := hD
    refine lv_istore (lv' := [(6, .int (f_X4_survey ((xs (iN + 1))) ((xs (iN + 2))) ((xs (iN + 3))) (nI n) (nI B))), (5, .int 0), (4, .int (nI iN)), (3, .ref ao), (2, .ref (am 0)), (1, .ref (a 0)), (0, .ref sb)]) hx hb dL_law_486 hl (by decide) rfl (fun ls hl => ?_)
    refine lv_aload_n hx hb dL_law_488 rfl (lv_at hl 4 rfl) ?_
    refine rdV (As := []) (rest := []) (st1 := [.int (f_X4_thrown (f_X4_survey_fa ((xs (iN + 1))) ((xs (iN + 2))) ((xs (iN + 3))) (nI n) (nI B)))]) (RD.frame (w := (oC cJ ao (vp_updL fo 0 ((f_X3_survey ((xs (iN + 1))) ((xs (iN + 2))) ((xs (iN + 3))) (nI B) (nI (S - B))).toInt64)) :: (wI cI cJ cZ a n ah pl ck ct (nI K) pm ja (nI n) (nI B) (f_X3_survey_pn ((xs (iN + 1))) ((xs (iN + 2))) ((xs (iN + 3))) (nI B) (nI (S - B))) tp st (f_X3_survey_us ((xs (iN + 1))) ((xs (iN + 2))) ((xs (iN + 3))) B S (nI B) (nI (S - B)) us kA) fb kA tA lx ly (f_X3_survey_gx ((xs (iN + 1))) ((xs (iN + 2))) ((xs (iN + 3))) B rn (nI B) (nI (S - B)) gx) (f_X3_survey_gy ((xs (iN + 1))) ((xs (iN + 2))) ((xs (iN + 3))) B rn (nI B) (nI (S - B)) gy) gu gv ++ wM cI cJ cZ am (f_X4_survey_fa ((xs (iN + 1))) ((xs (iN + 2))) ((xs (iN + 3))) (nI n) (nI B)) (nI n) (nI B) (f_X4_survey_pn ((xs (iN + 1))) ((xs (iN + 2))) ((xs (iN + 3))) (nI n) (nI B) (nI (S - B))) pl ja ah (nI K) bl bs bk be al tp st mx my kd ky (f_X4_survey_gx ((xs (iN + 1))) ((xs (iN + 2))) ((xs (iN + 3))) B rn (nI n) (nI B) ix) (f_X4_survey_gy ((xs (iN + 1))) ((xs (iN + 2))) ((xs (iN + 3))) B rn (nI n) (nI B) iy) iu iv))) (k_X4_thrown l D cI cJ cZ am (f_X4_survey_fa ((xs (iN + 1))) ((xs (iN + 2))) ((xs (iN + 3))) (nI n) (nI B)) (nI n) (nI B) (f_X4_survey_pn ((xs (iN + 1))) ((xs (iN + 2))) ((xs (iN + 3))) (nI n) (nI B) (nI (S - B))) pl ja ah (nI K) bl bs bk be al tp st mx my kd ky (f_X4_survey_gx ((xs (iN + 1))) ((xs (iN + 2))) ((xs (iN + 3))) B rn (nI n) (nI B) ix) (f_X4_survey_gy ((xs (iN + 1))) ((xs (iN + 2))) ((xs (iN + 3))) B rn (nI n) (nI B) iy) iu iv) [17, 18, 19, 20, 21, 22, 23, 24, 25, 26, 27, 28] rfl) (si_L_58 ht ⟨Nat.le_of_ble_eq_true rfl, Nat.le_of_ble_eq_true rfl⟩) hx hb hml hown (va_recv hK hP (ci := 5) (q0 := 17) rfl rfl) (hE.since hS) hP hK rfl hl.1 rfl (Nat.le_of_ble_eq_true rfl) ⟨by show _ ≤ 653990; omega, by show _ ≤ 7134099; omega⟩ dL_law_489 rfl ?_
    refine lv_iload hx hb dL_law_492 (lv_at hl 1 rfl) ?_
    refine lv_icmp_eq (tgt := 499) hx hb dL_law_494 (by decide) (fun _ => ?_) (fun c => absurd ef c)
    refine lv_iload hx hb dL_law_499 (lv_at hl 1 rfl) ?_
    refine lv_if_ne (tgt := 516) hx hb dL_law_501 (by decide) (fun c => absurd rfl c) (fun _ => ?_)
    refine lv_aload_n hx hb dL_law_504 rfl (lv_at hl 3 rfl) ?_
    refine lv_iconst (v := 0) hx hb dL_law_505 (by decide) ?_
    refine va_lald hx hb hK hP 0 1 rfl rfl (in_of (i := 0) nI_0.symm (by decide) (by decide)) dL_law_506 ?_
    refine W.st (st1 := [.long ((f_X3_survey ((xs (iN + 1))) ((xs (iN + 2))) ((xs (iN + 3))) (nI B) (nI (S - B))).toInt64)]) rfl ?_
    refine lv_iload hx hb dL_law_507 (lv_at hl 0 rfl) ?_
    refine lv_i2l (v := (f_X4_survey ((xs (iN + 1))) ((xs (iN + 2))) ((xs (iN + 3))) (nI n) (nI B)).toInt64) hx hb dL_law_509 rfl ?_
    refine W.lcmp hx hb dL_law_510 ?_
    refine lv_if_eq (tgt := 516) hx hb dL_law_511 (by decide) (fun _ => ?_) (fun c => absurd ((lg_cmp_eq _ _).mpr (congrArg Int32.toInt64 ea)) c)
    refine lv_goto (tgt := 953) hx hb dL_law_516 (by decide) ?_
    rw [e1, e2, e3, e4, e5, e6, e7] at hP hD
    have hP : va_P D vwCl (oC cJ ao (vp_updL fo 0 ((f_X3_survey ((xs (iN + 1))) ((xs (iN + 2))) ((xs (iN + 3))) (nI B) (nI (S - B))).toInt64)) :: (wI cI cJ cZ a n ah pl ck ct (nI K) pm ja (nI n) (nI B) (nI (S1 - B)) tp st us1 fb kA tA lx ly gx1 gy1 gu gv ++ wM cI cJ cZ am (f_X4_survey_fa ((xs (iN + 1))) ((xs (iN + 2))) ((xs (iN + 3))) (nI n) (nI B)) (nI n) (nI B) (nI (S1 - B)) pl ja ah (nI K) bl bs bk be al tp st mx my kd ky ix1 iy1 iu iv)) H := hP
    have hD : va_D A (oC cJ ao (vp_updL fo 0 ((f_X3_survey ((xs (iN + 1))) ((xs (iN + 2))) ((xs (iN + 3))) (nI B) (nI (S - B))).toInt64)) :: (wI cI cJ cZ a n ah pl ck ct (nI K) pm ja (nI n) (nI B) (nI (S1 - B)) tp st us1 fb kA tA lx ly gx1 gy1 gu gv ++ wM cI cJ cZ am (f_X4_survey_fa ((xs (iN + 1))) ((xs (iN + 2))) ((xs (iN + 3))) (nI n) (nI B)) (nI n) (nI B) (nI (S1 - B)) pl ja ah (nI K) bl bs bk be al tp st mx my kd ky ix1 iy1 iu iv)) := hD
    refine W.widen (k := cells + 1) (n := slots + 6) (by omega) (by omega) ?_
    exact kk (oC cJ ao (vp_updL fo 0 ((f_X3_survey ((xs (iN + 1))) ((xs (iN + 2))) ((xs (iN + 3))) (nI B) (nI (S - B))).toInt64)) :: (wI cI cJ cZ a n ah pl ck ct (nI K) pm ja (nI n) (nI B) (nI (S1 - B)) tp st us1 fb kA tA lx ly gx1 gy1 gu gv ++ wM cI cJ cZ am (f_X4_survey_fa ((xs (iN + 1))) ((xs (iN + 2))) ((xs (iN + 3))) (nI n) (nI B)) (nI n) (nI B) (nI (S1 - B)) pl ja ah (nI K) bl bs bk be al tp st mx my kd ky ix1 iy1 iu iv)) H _ ls ⟨_, _, _, _, _, _, _, _, _, _, _, _, _, _, _, _, _, _, _, _, _, _, _, _, _, _, _, _, _, _, _, _, _, _, _, _, hR1, rfl⟩ hP hD hS (lv_sub hl [2, 3, 4, 5, 6] rfl)
set_option maxRecDepth 20000 in
set_option maxHeartbeats 4000000 in
theorem cs_replace {p : Program} {e : Env} {s : State} {m : MethodId} {below : List Frame} {meth : Method} {c : Code} (l : Launch) (hnt : ∀ e : Env, l.admits e → e.platform.stackTraces = false) {sb L : Nat} {xs : Nat → Int32} {D : va_G} {cI cJ cZ : ClassId} {A : Nat → Prop} {Q : State → Prop} (hC : LX p s m c sb L xs D cI cJ cZ A) {X : Int} (hX5 : 0 ≤ X ∧ X ≤ 60000000) {a am : Nat → Nat} {ao n iN : Nat} (hi : iN + 4 ≤ L) {w : va_W} (hw : LI X cI cJ cZ a am ao n w) {ls : Array Slot} (hl : lv_has ls 8 [(4, .int (nI iN)), (3, .ref ao), (2, .ref (am 0)), (1, .ref (a 0)), (0, .ref sb)]) {H : Heap} {locs : List Loc} (hP : va_P D vwCl w H) (hD : va_D A w) (hS : va_S A s.heap H locs) {cells slots : Nat} (hc : cells + 1 ≤ 653990) (hs : slots + 6 ≤ 7134099)
    (kk : ∀ (w' : va_W) (H' : Heap) (locs' : List Loc) (ls' : Array Slot), LI (X + 100000) cI cJ cZ a am ao n w' → va_P D vwCl w' H' → va_D A w' → va_S A s.heap H' locs' → lv_has ls' 8 [(4, .int (nI iN)), (3, .ref ao), (2, .ref (am 0)), (1, .ref (a 0)), (0, .ref sb)] → W p l e room_1 s m #[.ref sb] below meth c H' locs' (cells + 1) (slots + 6) Q (F0 m 953 ls' [])) : W p l e room_1 s m #[.ref sb] below meth c H locs cells slots Q (F0 m 519 ls []) := by
  obtain ⟨hx, hb, hml, hown, hX, hbl, hbA, hE, hK, hA, hL⟩ := hC
  have ht : tb_OK s := hE.1
  obtain ⟨B, S, K, ah, pl, ck, ct, pm, ja, tp, st, us, fb, kA, tA, lx, ly, gx, gy, gu, gv, fo, fa, bl, bs, bk, be, al, mx, my, kd, ky, ix, iy, iu, iv, hR, rfl⟩ := hw
  obtain ⟨⟨hn1, hn, hBS, hSn, hK4⟩, hah, hja, ⟨hAL, hpm⟩, hLN, hTP, hPR⟩ := id hR
  have gS := st_eq hBS
  by_cases hh : f_X2_has (xs (iN + 1)) (nI n) = 0
  · skip
    obtain ⟨ef, e1, e2, e3, e4, e5⟩ := r_replaceT (S := S) (kd := kd) (tp := tp) (ky := ky) (ix := ix) (iy := iy) (iu := iu) (iv := iv) (xs (iN + 2)) (nI n) (nI B) (nI (S - B)) (nI K) st 0 hh
    refine lv_aload_n hx hb dL_law_519 rfl (lv_at hl 3 rfl) ?_
    refine lv_aload_n hx hb dL_law_520 rfl (lv_at hl 4 rfl) ?_
    refine lv_iload hx hb dL_law_521 (lv_at hl 0 rfl) ?_
    refine lv_iconst (v := 1) hx hb dL_law_523 (by decide) ?_
    refine lv_iadd hx hb dL_law_524 ?_
    refine va_sld hx hb hX hbl hbA hS (in_of (sc_1 iN) (by omega) (by omega)) dL_law_525 ?_
    refine W.st (st1 := [.int (xs (iN + 1)), .ref (a 0)]) (by rw [cl_of (sc_1 iN) (by omega)]) ?_
    refine lv_aload_n hx hb dL_law_526 rfl (lv_at hl 4 rfl) ?_
    refine lv_iload hx hb dL_law_527 (lv_at hl 0 rfl) ?_
    refine lv_iconst (v := 2) hx hb dL_law_529 (by decide) ?_
    refine lv_iadd hx hb dL_law_530 ?_
    refine va_sld hx hb hX hbl hbA hS (in_of (sc_2 iN) (by omega) (by omega)) dL_law_531 ?_
    refine W.st (st1 := [.int (xs (iN + 2)), .int (xs (iN + 1)), .ref (a 0)]) (by rw [cl_of (sc_2 iN) (by omega)]) ?_
    refine lv_aload_n hx hb dL_law_532 rfl (lv_at hl 1 rfl) ?_
    refine cwr2 (rest := []) (runSH (n := 4) (As := [.ref (a 0), .int (xs (iN + 1)), .int (xs (iN + 2)), .ref ao]) (rest := []) (WRH.frame (w := (oC cJ ao fo :: (wI cI cJ cZ a n ah pl ck ct (nI K) pm ja (nI n) (nI B) (nI (S - B)) tp st us fb kA tA lx ly gx gy gu gv ++ wM cI cJ cZ am fa (nI n) (nI B) (nI (S - B)) pl ja ah (nI K) bl bs bk be al tp st mx my kd ky ix iy iu iv))) (wr := wM cI cJ cZ am fa (nI n) (nI B) (nI (S - B)) pl ja ah (nI K) bl bs bk be al tp st mx my kd ky ix iy iu iv) (t_L_replace l hnt D cI cJ cZ a n ah pl ck ct (nI K) pm ja (nI n) (nI B) (nI (S - B)) tp st us fb kA tA lx ly gx gy gu gv ao fo ((xs (iN + 1))) ((xs (iN + 2))) hh) [0, 1, 2, 3, 4, 5, 6, 7, 8, 9, 10, 11, 12, 13, 14, 15, 16] [17, 18, 19, 20, 21, 22, 23, 24, 25, 26, 27, 28] rfl rfl (by decide) (by decide) (by decide)) ht (fun U a h => cw_L_replace h) (fun U a h => ini_L h) (ml_L_86 ht) (sm_L_replace ht) ⟨by decide +kernel, by decide +kernel, by decide +kernel⟩ ⟨Nat.le_of_ble_eq_true rfl, Nat.le_of_ble_eq_true rfl⟩ hx hb hml hown hE hP hK hD hS hA rfl hl.1 rfl (Nat.le_of_ble_eq_true rfl) ⟨by show _ ≤ 653990; omega, by show _ ≤ 7134099; omega⟩ dL_law_533) hD hS hA (fun ov w' H locs hpost hP hD hS => ?_)
    obtain ⟨w1, ⟨rfl, rfl⟩, rfl⟩ := hpost
    refine W.st (st1 := [.int 1]) rfl ?_
    have hP : va_P D vwCl (wM cI cJ cZ am fa (nI n) (nI B) (nI (S - B)) pl ja ah (nI K) bl bs bk be al tp st mx my kd ky ix iy iu iv ++ (oC cJ ao fo :: wI cI cJ cZ a n ah pl ck ct (nI K) pm ja (nI n) (nI B) (nI (S - B)) tp st us fb kA tA lx ly gx gy gu gv)) H := hP
    have hD : va_D A (wM cI cJ cZ am fa (nI n) (nI B) (nI (S - B)) pl ja ah (nI K) bl bs bk be al tp st mx my kd ky ix iy iu iv ++ (oC cJ ao fo :: wI cI cJ cZ a n ah pl ck ct (nI K) pm ja (nI n) (nI B) (nI (S - B)) tp st us fb kA tA lx ly gx gy gu gv)) := hD
    refine lv_istore (lv' := [(5, .int 1), (4, .int (nI iN)), (3, .ref ao), (2, .ref (am 0)), (1, .ref (a 0)), (0, .ref sb)]) hx hb dL_law_536 hl (by decide) rfl (fun ls hl => ?_)
    refine lv_aload_n hx hb dL_law_538 rfl (lv_at hl 3 rfl) ?_
    refine lv_aload_n hx hb dL_law_539 rfl (lv_at hl 5 rfl) ?_
    refine lv_iload hx hb dL_law_540 (lv_at hl 1 rfl) ?_
    refine lv_iconst (v := 1) hx hb dL_law_542 (by decide) ?_
    refine lv_iadd hx hb dL_law_543 ?_
    refine va_sld hx hb hX hbl hbA hS (in_of (sc_1 iN) (by omega) (by omega)) dL_law_544 ?_
    refine W.st (st1 := [.int (xs (iN + 1)), .ref (am 0)]) (by rw [cl_of (sc_1 iN) (by omega)]) ?_
    refine lv_aload_n hx hb dL_law_545 rfl (lv_at hl 5 rfl) ?_
    refine lv_iload hx hb dL_law_546 (lv_at hl 1 rfl) ?_
    refine lv_iconst (v := 2) hx hb dL_law_548 (by decide) ?_
    refine lv_iadd hx hb dL_law_549 ?_
    refine va_sld hx hb hX hbl hbA hS (in_of (sc_2 iN) (by omega) (by omega)) dL_law_550 ?_
    refine W.st (st1 := [.int (xs (iN + 2)), .int (xs (iN + 1)), .ref (am 0)]) (by rw [cl_of (sc_2 iN) (by omega)]) ?_
    refine wrV (As := [.int (xs (iN + 1)), .int (xs (iN + 2))]) (rest := []) (WR.frame (w := (wM cI cJ cZ am fa (nI n) (nI B) (nI (S - B)) pl ja ah (nI K) bl bs bk be al tp st mx my kd ky ix iy iu iv ++ (oC cJ ao fo :: wI cI cJ cZ a n ah pl ck ct (nI K) pm ja (nI n) (nI B) (nI (S - B)) tp st us fb kA tA lx ly gx gy gu gv))) (wr := (oC cJ ao fo :: wI cI cJ cZ a n ah pl ck ct (nI K) pm ja (nI n) (nI B) (nI (S - B)) tp st us fb kA tA lx ly gx gy gu gv)) (k_X4_replace l D cI cJ cZ am fa (nI n) (nI B) (nI (S - B)) pl ja ah (nI K) bl bs bk be al tp st mx my kd ky ix iy iu iv ((xs (iN + 1))) ((xs (iN + 2))) 0 S (fun h => absurd hh h) gS (by omega) (fun h => q_has hK4 h) (q_kd hR)) [0, 1, 2, 3, 4, 5, 6, 7, 8, 9, 10, 11] [12, 13, 14, 15, 16, 17, 18, 19, 20, 21, 22, 23, 24, 25, 26, 27, 28] rfl rfl (by decide) (by decide) (by decide)) (si_L_89 ht ⟨Nat.le_of_ble_eq_true rfl, Nat.le_of_ble_eq_true rfl⟩) hx hb hml hown (va_recv hK hP (ci := 5) (q0 := 0) rfl rfl) hE hP hK hD hS hA rfl hl.1 rfl (Nat.le_of_ble_eq_true rfl) ⟨by show _ ≤ 653990; omega, by show _ ≤ 7134099; omega⟩ dL_law_551 (fun ov w' H locs hpost hP hD hS => ?_)
    obtain ⟨w1, ⟨rfl, rfl⟩, rfl⟩ := hpost
    refine W.st (st1 := [.int (f_X4_replace ((xs (iN + 1))) ((xs (iN + 2))) S (nI n) (nI B) (nI (S - B)) (nI K) st kd)]) rfl ?_
    have hP : va_P D vwCl (oC cJ ao fo :: (wI cI cJ cZ a n ah pl ck ct (nI K) pm ja (nI n) (nI B) (nI (S - B)) tp st us fb kA tA lx ly gx gy gu gv ++ wM cI cJ cZ am (f_X4_replace_fa ((xs (iN + 1))) ((xs (iN + 2))) S (nI n) (nI B) (nI (S - B)) (nI K) st kd) (nI n) (nI B) (nI (S - B)) pl ja ah (nI K) bl bs bk be al tp st mx my (f_X4_replace_kd ((xs (iN + 1))) ((xs (iN + 2))) S (nI n) (nI B) (nI (S - B)) (nI K) st kd) ky (f_X4_replace_gx ((xs (iN + 1))) ((xs (iN + 2))) 0 S (nI n) (nI B) (nI (S - B)) (nI K) tp st kd ky ix iy iu iv) (f_X4_replace_gy ((xs (iN + 1))) ((xs (iN + 2))) 0 S (nI n) (nI B) (nI (S - B)) (nI K) tp st kd ky ix iy iu iv) (f_X4_replace_gu ((xs (iN + 1))) ((xs (iN + 2))) 0 S (nI n) (nI B) (nI (S - B)) (nI K) tp st kd ky ix iy iu iv) (f_X4_replace_gv ((xs (iN + 1))) ((xs (iN + 2))) 0 S (nI n) (nI B) (nI (S - B)) (nI K) tp st kd ky ix iy iu iv))) H := hP
    have hD : va_D A (oC cJ ao fo :: (wI cI cJ cZ a n ah pl ck ct (nI K) pm ja (nI n) (nI B) (nI (S - B)) tp st us fb kA tA lx ly gx gy gu gv ++ wM cI cJ cZ am (f_X4_replace_fa ((xs (iN + 1))) ((xs (iN + 2))) S (nI n) (nI B) (nI (S - B)) (nI K) st kd) (nI n) (nI B) (nI (S - B)) pl ja ah (nI K) bl bs bk be al tp st mx my (f_X4_replace_kd ((xs (iN + 1))) ((xs (iN + 2))) S (nI n) (nI B) (nI (S - B)) (nI K) st kd) ky (f_X4_replace_gx ((xs (iN + 1))) ((xs (iN + 2))) 0 S (nI n) (nI B) (nI (S - B)) (nI K) tp st kd ky ix iy iu iv) (f_X4_replace_gy ((xs (iN + 1))) ((xs (iN + 2))) 0 S (nI n) (nI B) (nI (S - B)) (nI K) tp st kd ky ix iy iu iv) (f_X4_replace_gu ((xs (iN + 1))) ((xs (iN + 2))) 0 S (nI n) (nI B) (nI (S - B)) (nI K) tp st kd ky ix iy iu iv) (f_X4_replace_gv ((xs (iN + 1))) ((xs (iN + 2))) 0 S (nI n) (nI B) (nI (S - B)) (nI K) tp st kd ky ix iy iu iv))) := hD
    refine lv_istore (lv' := [(6, .int (f_X4_replace ((xs (iN + 1))) ((xs (iN + 2))) S (nI n) (nI B) (nI (S - B)) (nI K) st kd)), (5, .int 1), (4, .int (nI iN)), (3, .ref ao), (2, .ref (am 0)), (1, .ref (a 0)), (0, .ref sb)]) hx hb dL_law_554 hl (by decide) rfl (fun ls hl => ?_)
    refine lv_aload_n hx hb dL_law_556 rfl (lv_at hl 4 rfl) ?_
    refine rdV (As := []) (rest := []) (st1 := [.int (f_X4_thrown (f_X4_replace_fa ((xs (iN + 1))) ((xs (iN + 2))) S (nI n) (nI B) (nI (S - B)) (nI K) st kd))]) (RD.frame (w := (oC cJ ao fo :: (wI cI cJ cZ a n ah pl ck ct (nI K) pm ja (nI n) (nI B) (nI (S - B)) tp st us fb kA tA lx ly gx gy gu gv ++ wM cI cJ cZ am (f_X4_replace_fa ((xs (iN + 1))) ((xs (iN + 2))) S (nI n) (nI B) (nI (S - B)) (nI K) st kd) (nI n) (nI B) (nI (S - B)) pl ja ah (nI K) bl bs bk be al tp st mx my (f_X4_replace_kd ((xs (iN + 1))) ((xs (iN + 2))) S (nI n) (nI B) (nI (S - B)) (nI K) st kd) ky (f_X4_replace_gx ((xs (iN + 1))) ((xs (iN + 2))) 0 S (nI n) (nI B) (nI (S - B)) (nI K) tp st kd ky ix iy iu iv) (f_X4_replace_gy ((xs (iN + 1))) ((xs (iN + 2))) 0 S (nI n) (nI B) (nI (S - B)) (nI K) tp st kd ky ix iy iu iv) (f_X4_replace_gu ((xs (iN + 1))) ((xs (iN + 2))) 0 S (nI n) (nI B) (nI (S - B)) (nI K) tp st kd ky ix iy iu iv) (f_X4_replace_gv ((xs (iN + 1))) ((xs (iN + 2))) 0 S (nI n) (nI B) (nI (S - B)) (nI K) tp st kd ky ix iy iu iv)))) (k_X4_thrown l D cI cJ cZ am (f_X4_replace_fa ((xs (iN + 1))) ((xs (iN + 2))) S (nI n) (nI B) (nI (S - B)) (nI K) st kd) (nI n) (nI B) (nI (S - B)) pl ja ah (nI K) bl bs bk be al tp st mx my (f_X4_replace_kd ((xs (iN + 1))) ((xs (iN + 2))) S (nI n) (nI B) (nI (S - B)) (nI K) st kd) ky (f_X4_replace_gx ((xs (iN + 1))) ((xs (iN + 2))) 0 S (nI n) (nI B) (nI (S - B)) (nI K) tp st kd ky ix iy iu iv) (f_X4_replace_gy ((xs (iN + 1))) ((xs (iN + 2))) 0 S (nI n) (nI B) (nI (S - B)) (nI K) tp st kd ky ix iy iu iv) (f_X4_replace_gu ((xs (iN + 1))) ((xs (iN + 2))) 0 S (nI n) (nI B) (nI (S - B)) (nI K) tp st kd ky ix iy iu iv) (f_X4_replace_gv ((xs (iN + 1))) ((xs (iN + 2))) 0 S (nI n) (nI B) (nI (S - B)) (nI K) tp st kd ky ix iy iu iv)) [17, 18, 19, 20, 21, 22, 23, 24, 25, 26, 27, 28] rfl) (si_L_58 ht ⟨Nat.le_of_ble_eq_true rfl, Nat.le_of_ble_eq_true rfl⟩) hx hb hml hown (va_recv hK hP (ci := 5) (q0 := 17) rfl rfl) (hE.since hS) hP hK rfl hl.1 rfl (Nat.le_of_ble_eq_true rfl) ⟨by show _ ≤ 653990; omega, by show _ ≤ 7134099; omega⟩ dL_law_557 rfl ?_
    refine lv_iload hx hb dL_law_560 (lv_at hl 1 rfl) ?_
    refine lv_icmp_eq (tgt := 567) hx hb dL_law_562 (by decide) (fun _ => ?_) (fun c => absurd ef c)
    refine lv_iload hx hb dL_law_567 (lv_at hl 1 rfl) ?_
    refine lv_if_ne (tgt := 584) hx hb dL_law_569 (by decide) (fun _ => ?_) (fun c => absurd c (by decide))
    refine lv_goto (tgt := 953) hx hb dL_law_584 (by decide) ?_
    rw [e1, e2, e3, e4, e5] at hP hD
    have hP : va_P D vwCl (oC cJ ao fo :: (wI cI cJ cZ a n ah pl ck ct (nI K) pm ja (nI n) (nI B) (nI (S - B)) tp st us fb kA tA lx ly gx gy gu gv ++ wM cI cJ cZ am (f_X4_replace_fa ((xs (iN + 1))) ((xs (iN + 2))) S (nI n) (nI B) (nI (S - B)) (nI K) st kd) (nI n) (nI B) (nI (S - B)) pl ja ah (nI K) bl bs bk be al tp st mx my kd ky ix iy iu iv)) H := hP
    have hD : va_D A (oC cJ ao fo :: (wI cI cJ cZ a n ah pl ck ct (nI K) pm ja (nI n) (nI B) (nI (S - B)) tp st us fb kA tA lx ly gx gy gu gv ++ wM cI cJ cZ am (f_X4_replace_fa ((xs (iN + 1))) ((xs (iN + 2))) S (nI n) (nI B) (nI (S - B)) (nI K) st kd) (nI n) (nI B) (nI (S - B)) pl ja ah (nI K) bl bs bk be al tp st mx my kd ky ix iy iu iv)) := hD
    refine W.widen (k := cells + 1) (n := slots + 6) (by omega) (by omega) ?_
    exact kk (oC cJ ao fo :: (wI cI cJ cZ a n ah pl ck ct (nI K) pm ja (nI n) (nI B) (nI (S - B)) tp st us fb kA tA lx ly gx gy gu gv ++ wM cI cJ cZ am (f_X4_replace_fa ((xs (iN + 1))) ((xs (iN + 2))) S (nI n) (nI B) (nI (S - B)) (nI K) st kd) (nI n) (nI B) (nI (S - B)) pl ja ah (nI K) bl bs bk be al tp st mx my kd ky ix iy iu iv)) H _ ls ⟨_, _, _, _, _, _, _, _, _, _, _, _, _, _, _, _, _, _, _, _, _, _, _, _, _, _, _, _, _, _, _, _, _, _, _, _, (RE_X (by omega) hR), rfl⟩ hP hD hS (lv_sub hl [2, 3, 4, 5, 6] rfl)
  · skip
    obtain ⟨rn, hrn, er⟩ := has_in (by omega) hh
    obtain ⟨us1, kA1, kd1, gx1, gy1, gu1, gv1, ix1, iy1, iu1, iv1, e1, e2, e3, e4, e5, e6, e7, e8, e9, e10, e11, ef, ea, hR1⟩ := r_replace hX5 hR st (xs (iN + 2)) er hrn hh
    refine lv_aload_n hx hb dL_law_519 rfl (lv_at hl 3 rfl) ?_
    refine lv_aload_n hx hb dL_law_520 rfl (lv_at hl 4 rfl) ?_
    refine lv_iload hx hb dL_law_521 (lv_at hl 0 rfl) ?_
    refine lv_iconst (v := 1) hx hb dL_law_523 (by decide) ?_
    refine lv_iadd hx hb dL_law_524 ?_
    refine va_sld hx hb hX hbl hbA hS (in_of (sc_1 iN) (by omega) (by omega)) dL_law_525 ?_
    refine W.st (st1 := [.int (xs (iN + 1)), .ref (a 0)]) (by rw [cl_of (sc_1 iN) (by omega)]) ?_
    refine lv_aload_n hx hb dL_law_526 rfl (lv_at hl 4 rfl) ?_
    refine lv_iload hx hb dL_law_527 (lv_at hl 0 rfl) ?_
    refine lv_iconst (v := 2) hx hb dL_law_529 (by decide) ?_
    refine lv_iadd hx hb dL_law_530 ?_
    refine va_sld hx hb hX hbl hbA hS (in_of (sc_2 iN) (by omega) (by omega)) dL_law_531 ?_
    refine W.st (st1 := [.int (xs (iN + 2)), .int (xs (iN + 1)), .ref (a 0)]) (by rw [cl_of (sc_2 iN) (by omega)]) ?_
    refine lv_aload_n hx hb dL_law_532 rfl (lv_at hl 1 rfl) ?_
    refine cwr2 (rest := []) (runSH (n := 4) (As := [.ref (a 0), .int (xs (iN + 1)), .int (xs (iN + 2)), .ref ao]) (rest := []) (WRH.frame (w := (oC cJ ao fo :: (wI cI cJ cZ a n ah pl ck ct (nI K) pm ja (nI n) (nI B) (nI (S - B)) tp st us fb kA tA lx ly gx gy gu gv ++ wM cI cJ cZ am fa (nI n) (nI B) (nI (S - B)) pl ja ah (nI K) bl bs bk be al tp st mx my kd ky ix iy iu iv))) (wr := wM cI cJ cZ am fa (nI n) (nI B) (nI (S - B)) pl ja ah (nI K) bl bs bk be al tp st mx my kd ky ix iy iu iv) (k_L_replace l D cI cJ cZ a n ah pl ck ct (nI K) pm ja (nI n) (nI B) (nI (S - B)) tp st us fb kA tA lx ly gx gy gu gv ao fo ((xs (iN + 1))) ((xs (iN + 2))) rn S hh er hrn (fun h1 => q_rp hBS er (by omega) (by omega) h1) gS hSn hn (q_kA hR) (fun h => q_has hK4 h)) [0, 1, 2, 3, 4, 5, 6, 7, 8, 9, 10, 11, 12, 13, 14, 15, 16] [17, 18, 19, 20, 21, 22, 23, 24, 25, 26, 27, 28] rfl rfl (by decide) (by decide) (by decide)) ht (fun U a h => cw_L_replace h) (fun U a h => ini_L h) (ml_L_86 ht) (sm_L_replace ht) ⟨by decide +kernel, by decide +kernel, by decide +kernel⟩ ⟨Nat.le_of_ble_eq_true rfl, Nat.le_of_ble_eq_true rfl⟩ hx hb hml hown hE hP hK hD hS hA rfl hl.1 rfl (Nat.le_of_ble_eq_true rfl) ⟨by show _ ≤ 653990; omega, by show _ ≤ 7134099; omega⟩ dL_law_533) hD hS hA (fun ov w' H locs hpost hP hD hS => ?_)
    obtain ⟨w1, ⟨rfl, rfl⟩, rfl⟩ := hpost
    refine W.st (st1 := [.int 0]) rfl ?_
    have hP : va_P D vwCl (wM cI cJ cZ am fa (nI n) (nI B) (nI (S - B)) pl ja ah (nI K) bl bs bk be al tp st mx my kd ky ix iy iu iv ++ (oC cJ ao (vp_updL fo 0 ((f_X3_replace ((xs (iN + 1))) ((xs (iN + 2))) (nI K) (nI B) (nI (S - B)) st us kA).toInt64)) :: wI cI cJ cZ a n ah pl ck ct (nI K) pm ja (nI n) (nI B) (nI (S - B)) tp st (f_X3_replace_us ((xs (iN + 1))) ((xs (iN + 2))) (nI K) (nI B) (nI (S - B)) st us kA) fb (f_X3_replace_kA ((xs (iN + 1))) ((xs (iN + 2))) (nI K) (nI B) (nI (S - B)) st us kA) tA lx ly (f_X3_replace_gx ((xs (iN + 1))) ((xs (iN + 2))) rn S (nI K) (nI B) (nI (S - B)) tp st us kA tA gx gy gu gv) (f_X3_replace_gy ((xs (iN + 1))) ((xs (iN + 2))) rn S (nI K) (nI B) (nI (S - B)) tp st us kA tA gx gy gu gv) (f_X3_replace_gu ((xs (iN + 1))) ((xs (iN + 2))) rn S (nI K) (nI B) (nI (S - B)) tp st us kA tA gx gy gu gv) (f_X3_replace_gv ((xs (iN + 1))) ((xs (iN + 2))) rn S (nI K) (nI B) (nI (S - B)) tp st us kA tA gx gy gu gv))) H := hP
    have hD : va_D A (wM cI cJ cZ am fa (nI n) (nI B) (nI (S - B)) pl ja ah (nI K) bl bs bk be al tp st mx my kd ky ix iy iu iv ++ (oC cJ ao (vp_updL fo 0 ((f_X3_replace ((xs (iN + 1))) ((xs (iN + 2))) (nI K) (nI B) (nI (S - B)) st us kA).toInt64)) :: wI cI cJ cZ a n ah pl ck ct (nI K) pm ja (nI n) (nI B) (nI (S - B)) tp st (f_X3_replace_us ((xs (iN + 1))) ((xs (iN + 2))) (nI K) (nI B) (nI (S - B)) st us kA) fb (f_X3_replace_kA ((xs (iN + 1))) ((xs (iN + 2))) (nI K) (nI B) (nI (S - B)) st us kA) tA lx ly (f_X3_replace_gx ((xs (iN + 1))) ((xs (iN + 2))) rn S (nI K) (nI B) (nI (S - B)) tp st us kA tA gx gy gu gv) (f_X3_replace_gy ((xs (iN + 1))) ((xs (iN + 2))) rn S (nI K) (nI B) (nI (S - B)) tp st us kA tA gx gy gu gv) (f_X3_replace_gu ((xs (iN + 1))) ((xs (iN + 2))) rn S (nI K) (nI B) (nI (S - B)) tp st us kA tA gx gy gu gv) (f_X3_replace_gv ((xs (iN + 1))) ((xs (iN + 2))) rn S (nI K) (nI B) (nI (S - B)) tp st us kA tA gx gy gu gv))) := hD
    refine lv_istore (lv' := [(5, .int 0), (4, .int (nI iN)), (3, .ref ao), (2, .ref (am 0)), (1, .ref (a 0)), (0, .ref sb)]) hx hb dL_law_536 hl (by decide) rfl (fun ls hl => ?_)
    refine lv_aload_n hx hb dL_law_538 rfl (lv_at hl 3 rfl) ?_
    refine lv_aload_n hx hb dL_law_539 rfl (lv_at hl 5 rfl) ?_
    refine lv_iload hx hb dL_law_540 (lv_at hl 1 rfl) ?_
    refine lv_iconst (v := 1) hx hb dL_law_542 (by decide) ?_
    refine lv_iadd hx hb dL_law_543 ?_
    refine va_sld hx hb hX hbl hbA hS (in_of (sc_1 iN) (by omega) (by omega)) dL_law_544 ?_
    refine W.st (st1 := [.int (xs (iN + 1)), .ref (am 0)]) (by rw [cl_of (sc_1 iN) (by omega)]) ?_
    refine lv_aload_n hx hb dL_law_545 rfl (lv_at hl 5 rfl) ?_
    refine lv_iload hx hb dL_law_546 (lv_at hl 1 rfl) ?_
    refine lv_iconst (v := 2) hx hb dL_law_548 (by decide) ?_
    refine lv_iadd hx hb dL_law_549 ?_
    refine va_sld hx hb hX hbl hbA hS (in_of (sc_2 iN) (by omega) (by omega)) dL_law_550 ?_
    refine W.st (st1 := [.int (xs (iN + 2)), .int (xs (iN + 1)), .ref (am 0)]) (by rw [cl_of (sc_2 iN) (by omega)]) ?_
    refine wrV (As := [.int (xs (iN + 1)), .int (xs (iN + 2))]) (rest := []) (WR.frame (w := (wM cI cJ cZ am fa (nI n) (nI B) (nI (S - B)) pl ja ah (nI K) bl bs bk be al tp st mx my kd ky ix iy iu iv ++ (oC cJ ao (vp_updL fo 0 ((f_X3_replace ((xs (iN + 1))) ((xs (iN + 2))) (nI K) (nI B) (nI (S - B)) st us kA).toInt64)) :: wI cI cJ cZ a n ah pl ck ct (nI K) pm ja (nI n) (nI B) (nI (S - B)) tp st (f_X3_replace_us ((xs (iN + 1))) ((xs (iN + 2))) (nI K) (nI B) (nI (S - B)) st us kA) fb (f_X3_replace_kA ((xs (iN + 1))) ((xs (iN + 2))) (nI K) (nI B) (nI (S - B)) st us kA) tA lx ly (f_X3_replace_gx ((xs (iN + 1))) ((xs (iN + 2))) rn S (nI K) (nI B) (nI (S - B)) tp st us kA tA gx gy gu gv) (f_X3_replace_gy ((xs (iN + 1))) ((xs (iN + 2))) rn S (nI K) (nI B) (nI (S - B)) tp st us kA tA gx gy gu gv) (f_X3_replace_gu ((xs (iN + 1))) ((xs (iN + 2))) rn S (nI K) (nI B) (nI (S - B)) tp st us kA tA gx gy gu gv) (f_X3_replace_gv ((xs (iN + 1))) ((xs (iN + 2))) rn S (nI K) (nI B) (nI (S - B)) tp st us kA tA gx gy gu gv)))) (wr := (oC cJ ao (vp_updL fo 0 ((f_X3_replace ((xs (iN + 1))) ((xs (iN + 2))) (nI K) (nI B) (nI (S - B)) st us kA).toInt64)) :: wI cI cJ cZ a n ah pl ck ct (nI K) pm ja (nI n) (nI B) (nI (S - B)) tp st (f_X3_replace_us ((xs (iN + 1))) ((xs (iN + 2))) (nI K) (nI B) (nI (S - B)) st us kA) fb (f_X3_replace_kA ((xs (iN + 1))) ((xs (iN + 2))) (nI K) (nI B) (nI (S - B)) st us kA) tA lx ly (f_X3_replace_gx ((xs (iN + 1))) ((xs (iN + 2))) rn S (nI K) (nI B) (nI (S - B)) tp st us kA tA gx gy gu gv) (f_X3_replace_gy ((xs (iN + 1))) ((xs (iN + 2))) rn S (nI K) (nI B) (nI (S - B)) tp st us kA tA gx gy gu gv) (f_X3_replace_gu ((xs (iN + 1))) ((xs (iN + 2))) rn S (nI K) (nI B) (nI (S - B)) tp st us kA tA gx gy gu gv) (f_X3_replace_gv ((xs (iN + 1))) ((xs (iN + 2))) rn S (nI K) (nI B) (nI (S - B)) tp st us kA tA gx gy gu gv))) (k_X4_replace l D cI cJ cZ am fa (nI n) (nI B) (nI (S - B)) pl ja ah (nI K) bl bs bk be al tp st mx my kd ky ix iy iu iv ((xs (iN + 1))) ((xs (iN + 2))) rn S (fun _ => ⟨er, by omega⟩) gS (by omega) (fun h => q_has hK4 h) (q_kd hR)) [0, 1, 2, 3, 4, 5, 6, 7, 8, 9, 10, 11] [12, 13, 14, 15, 16, 17, 18, 19, 20, 21, 22, 23, 24, 25, 26, 27, 28] rfl rfl (by decide) (by decide) (by decide)) (si_L_89 ht ⟨Nat.le_of_ble_eq_true rfl, Nat.le_of_ble_eq_true rfl⟩) hx hb hml hown (va_recv hK hP (ci := 5) (q0 := 0) rfl rfl) hE hP hK hD hS hA rfl hl.1 rfl (Nat.le_of_ble_eq_true rfl) ⟨by show _ ≤ 653990; omega, by show _ ≤ 7134099; omega⟩ dL_law_551 (fun ov w' H locs hpost hP hD hS => ?_)
    obtain ⟨w1, ⟨rfl, rfl⟩, rfl⟩ := hpost
    refine W.st (st1 := [.int (f_X4_replace ((xs (iN + 1))) ((xs (iN + 2))) S (nI n) (nI B) (nI (S - B)) (nI K) st kd)]) rfl ?_
    have hP : va_P D vwCl (oC cJ ao (vp_updL fo 0 ((f_X3_replace ((xs (iN + 1))) ((xs (iN + 2))) (nI K) (nI B) (nI (S - B)) st us kA).toInt64)) :: (wI cI cJ cZ a n ah pl ck ct (nI K) pm ja (nI n) (nI B) (nI (S - B)) tp st (f_X3_replace_us ((xs (iN + 1))) ((xs (iN + 2))) (nI K) (nI B) (nI (S - B)) st us kA) fb (f_X3_replace_kA ((xs (iN + 1))) ((xs (iN + 2))) (nI K) (nI B) (nI (S - B)) st us kA) tA lx ly (f_X3_replace_gx ((xs (iN + 1))) ((xs (iN + 2))) rn S (nI K) (nI B) (nI (S - B)) tp st us kA tA gx gy gu gv) (f_X3_replace_gy ((xs (iN + 1))) ((xs (iN + 2))) rn S (nI K) (nI B) (nI (S - B)) tp st us kA tA gx gy gu gv) (f_X3_replace_gu ((xs (iN + 1))) ((xs (iN + 2))) rn S (nI K) (nI B) (nI (S - B)) tp st us kA tA gx gy gu gv) (f_X3_replace_gv ((xs (iN + 1))) ((xs (iN + 2))) rn S (nI K) (nI B) (nI (S - B)) tp st us kA tA gx gy gu gv) ++ wM cI cJ cZ am (f_X4_replace_fa ((xs (iN + 1))) ((xs (iN + 2))) S (nI n) (nI B) (nI (S - B)) (nI K) st kd) (nI n) (nI B) (nI (S - B)) pl ja ah (nI K) bl bs bk be al tp st mx my (f_X4_replace_kd ((xs (iN + 1))) ((xs (iN + 2))) S (nI n) (nI B) (nI (S - B)) (nI K) st kd) ky (f_X4_replace_gx ((xs (iN + 1))) ((xs (iN + 2))) rn S (nI n) (nI B) (nI (S - B)) (nI K) tp st kd ky ix iy iu iv) (f_X4_replace_gy ((xs (iN + 1))) ((xs (iN + 2))) rn S (nI n) (nI B) (nI (S - B)) (nI K) tp st kd ky ix iy iu iv) (f_X4_replace_gu ((xs (iN + 1))) ((xs (iN + 2))) rn S (nI n) (nI B) (nI (S - B)) (nI K) tp st kd ky ix iy iu iv) (f_X4_replace_gv ((xs (iN + 1))) ((xs (iN + 2))) rn S (nI n) (nI B) (nI (S - B)) (nI K) tp st kd ky ix iy iu iv))) H := hP
    have hD : va_D A (oC cJ ao (vp_updL fo 0 ((f_X3_replace ((xs (iN + 1))) ((xs (iN + 2))) (nI K) (nI B) (nI (S - B)) st us kA).toInt64)) :: (wI cI cJ cZ a n ah pl ck ct (nI K) pm ja (nI n) (nI B) (nI (S - B)) tp st (f_X3_replace_us ((xs (iN + 1))) ((xs (iN + 2))) (nI K) (nI B) (nI (S - B)) st us kA) fb (f_X3_replace_kA ((xs (iN + 1))) ((xs (iN + 2))) (nI K) (nI B) (nI (S - B)) st us kA) tA lx ly (f_X3_replace_gx ((xs (iN + 1))) ((xs (iN + 2))) rn S (nI K) (nI B) (nI (S - B)) tp st us kA tA gx gy gu gv) (f_X3_replace_gy ((xs (iN + 1))) ((xs (iN + 2))) rn S (nI K) (nI B) (nI (S - B)) tp st us kA tA gx gy gu gv) (f_X3_replace_gu ((xs (iN + 1))) ((xs (iN + 2))) rn S (nI K) (nI B) (nI (S - B)) tp st us kA tA gx gy gu gv) (f_X3_replace_gv ((xs (iN + 1))) ((xs (iN + 2))) rn S (nI K) (nI B) (nI (S - B)) tp st us kA tA gx gy gu gv) ++ wM cI cJ cZ am (f_X4_replace_fa ((xs (iN + 1))) ((xs (iN + 2))) S (nI n) (nI B) (nI (S - B)) (nI K) st kd) (nI n) (nI B) (nI (S - B)) pl ja ah (nI K) bl bs bk be al tp st mx my (f_X4_replace_kd ((xs (iN + 1))) ((xs (iN + 2))) S (nI n) (nI B) (nI (S - B)) (nI K) st kd) ky (f_X4_replace_gx ((xs (iN + 1))) ((xs (iN + 2))) rn S (nI n) (nI B) (nI (S - B)) (nI K) tp st kd ky ix iy iu iv) (f_X4_replace_gy ((xs (iN + 1))) ((xs (iN + 2))) rn S (nI n) (nI B) (nI (S - B)) (nI K) tp st kd ky ix iy iu iv) (f_X4_replace_gu ((xs (iN + 1))) ((xs (iN + 2))) rn S (nI n) (nI B) (nI (S - B)) (nI K) tp st kd ky ix iy iu iv) (f_X4_replace_gv ((xs (iN + 1))) ((xs (iN + 2))) rn S (nI n) (nI B) (nI (S - B)) (nI K) tp st kd ky ix iy iu iv))) := hD
    refine lv_istore (lv' := [(6, .int (f_X4_replace ((xs (iN + 1))) ((xs (iN + 2))) S (nI n) (nI B) (nI (S - B)) (nI K) st kd)), (5, .int 0), (4, .int (nI iN)), (3, .ref ao), (2, .ref (am 0)), (1, .ref (a 0)), (0, .ref sb)]) hx hb dL_law_554 hl (by decide) rfl (fun ls hl => ?_)
    refine lv_aload_n hx hb dL_law_556 rfl (lv_at hl 4 rfl) ?_
    refine rdV (As := []) (rest := []) (st1 := [.int (f_X4_thrown (f_X4_replace_fa ((xs (iN + 1))) ((xs (iN + 2))) S (nI n) (nI B) (nI (S - B)) (nI K) st kd))]) (RD.frame (w := (oC cJ ao (vp_updL fo 0 ((f_X3_replace ((xs (iN + 1))) ((xs (iN + 2))) (nI K) (nI B) (nI (S - B)) st us kA).toInt64)) :: (wI cI cJ cZ a n ah pl ck ct (nI K) pm ja (nI n) (nI B) (nI (S - B)) tp st (f_X3_replace_us ((xs (iN + 1))) ((xs (iN + 2))) (nI K) (nI B) (nI (S - B)) st us kA) fb (f_X3_replace_kA ((xs (iN + 1))) ((xs (iN + 2))) (nI K) (nI B) (nI (S - B)) st us kA) tA lx ly (f_X3_replace_gx ((xs (iN + 1))) ((xs (iN + 2))) rn S (nI K) (nI B) (nI (S - B)) tp st us kA tA gx gy gu gv) (f_X3_replace_gy ((xs (iN + 1))) ((xs (iN + 2))) rn S (nI K) (nI B) (nI (S - B)) tp st us kA tA gx gy gu gv) (f_X3_replace_gu ((xs (iN + 1))) ((xs (iN + 2))) rn S (nI K) (nI B) (nI (S - B)) tp st us kA tA gx gy gu gv) (f_X3_replace_gv ((xs (iN + 1))) ((xs (iN + 2))) rn S (nI K) (nI B) (nI (S - B)) tp st us kA tA gx gy gu gv) ++ wM cI cJ cZ am (f_X4_replace_fa ((xs (iN + 1))) ((xs (iN + 2))) S (nI n) (nI B) (nI (S - B)) (nI K) st kd) (nI n) (nI B) (nI (S - B)) pl ja ah (nI K) bl bs bk be al tp st mx my (f_X4_replace_kd ((xs (iN + 1))) ((xs (iN + 2))) S (nI n) (nI B) (nI (S - B)) (nI K) st kd) ky (f_X4_replace_gx ((xs (iN + 1))) ((xs (iN + 2))) rn S (nI n) (nI B) (nI (S - B)) (nI K) tp st kd ky ix iy iu iv) (f_X4_replace_gy ((xs (iN + 1))) ((xs (iN + 2))) rn S (nI n) (nI B) (nI (S - B)) (nI K) tp st kd ky ix iy iu iv) (f_X4_replace_gu ((xs (iN + 1))) ((xs (iN + 2))) rn S (nI n) (nI B) (nI (S - B)) (nI K) tp st kd ky ix iy iu iv) (f_X4_replace_gv ((xs (iN + 1))) ((xs (iN + 2))) rn S (nI n) (nI B) (nI (S - B)) (nI K) tp st kd ky ix iy iu iv)))) (k_X4_thrown l D cI cJ cZ am (f_X4_replace_fa ((xs (iN + 1))) ((xs (iN + 2))) S (nI n) (nI B) (nI (S - B)) (nI K) st kd) (nI n) (nI B) (nI (S - B)) pl ja ah (nI K) bl bs bk be al tp st mx my (f_X4_replace_kd ((xs (iN + 1))) ((xs (iN + 2))) S (nI n) (nI B) (nI (S - B)) (nI K) st kd) ky (f_X4_replace_gx ((xs (iN + 1))) ((xs (iN + 2))) rn S (nI n) (nI B) (nI (S - B)) (nI K) tp st kd ky ix iy iu iv) (f_X4_replace_gy ((xs (iN + 1))) ((xs (iN + 2))) rn S (nI n) (nI B) (nI (S - B)) (nI K) tp st kd ky ix iy iu iv) (f_X4_replace_gu ((xs (iN + 1))) ((xs (iN + 2))) rn S (nI n) (nI B) (nI (S - B)) (nI K) tp st kd ky ix iy iu iv) (f_X4_replace_gv ((xs (iN + 1))) ((xs (iN + 2))) rn S (nI n) (nI B) (nI (S - B)) (nI K) tp st kd ky ix iy iu iv)) [17, 18, 19, 20, 21, 22, 23, 24, 25, 26, 27, 28] rfl) (si_L_58 ht ⟨Nat.le_of_ble_eq_true rfl, Nat.le_of_ble_eq_true rfl⟩) hx hb hml hown (va_recv hK hP (ci := 5) (q0 := 17) rfl rfl) (hE.since hS) hP hK rfl hl.1 rfl (Nat.le_of_ble_eq_true rfl) ⟨by show _ ≤ 653990; omega, by show _ ≤ 7134099; omega⟩ dL_law_557 rfl ?_
    refine lv_iload hx hb dL_law_560 (lv_at hl 1 rfl) ?_
    refine lv_icmp_eq (tgt := 567) hx hb dL_law_562 (by decide) (fun _ => ?_) (fun c => absurd ef c)
    refine lv_iload hx hb dL_law_567 (lv_at hl 1 rfl) ?_
    refine lv_if_ne (tgt := 584) hx hb dL_law_569 (by decide) (fun c => absurd rfl c) (fun _ => ?_)
    refine lv_aload_n hx hb dL_law_572 rfl (lv_at hl 3 rfl) ?_
    refine lv_iconst (v := 0) hx hb dL_law_573 (by decide) ?_
    refine va_lald hx hb hK hP 0 1 rfl rfl (in_of (i := 0) nI_0.symm (by decide) (by decide)) dL_law_574 ?_
    refine W.st (st1 := [.long ((f_X3_replace ((xs (iN + 1))) ((xs (iN + 2))) (nI K) (nI B) (nI (S - B)) st us kA).toInt64)]) rfl ?_
    refine lv_iload hx hb dL_law_575 (lv_at hl 0 rfl) ?_
    refine lv_i2l (v := (f_X4_replace ((xs (iN + 1))) ((xs (iN + 2))) S (nI n) (nI B) (nI (S - B)) (nI K) st kd).toInt64) hx hb dL_law_577 rfl ?_
    refine W.lcmp hx hb dL_law_578 ?_
    refine lv_if_eq (tgt := 584) hx hb dL_law_579 (by decide) (fun _ => ?_) (fun c => absurd ((lg_cmp_eq _ _).mpr (congrArg Int32.toInt64 ea)) c)
    refine lv_goto (tgt := 953) hx hb dL_law_584 (by decide) ?_
    rw [e1, e2, e3, e4, e5, e6, e7, e8, e9, e10, e11] at hP hD
    have hP : va_P D vwCl (oC cJ ao (vp_updL fo 0 ((f_X3_replace ((xs (iN + 1))) ((xs (iN + 2))) (nI K) (nI B) (nI (S - B)) st us kA).toInt64)) :: (wI cI cJ cZ a n ah pl ck ct (nI K) pm ja (nI n) (nI B) (nI (S - B)) tp st us1 fb kA1 tA lx ly gx1 gy1 gu1 gv1 ++ wM cI cJ cZ am (f_X4_replace_fa ((xs (iN + 1))) ((xs (iN + 2))) S (nI n) (nI B) (nI (S - B)) (nI K) st kd) (nI n) (nI B) (nI (S - B)) pl ja ah (nI K) bl bs bk be al tp st mx my kd1 ky ix1 iy1 iu1 iv1)) H := hP
    have hD : va_D A (oC cJ ao (vp_updL fo 0 ((f_X3_replace ((xs (iN + 1))) ((xs (iN + 2))) (nI K) (nI B) (nI (S - B)) st us kA).toInt64)) :: (wI cI cJ cZ a n ah pl ck ct (nI K) pm ja (nI n) (nI B) (nI (S - B)) tp st us1 fb kA1 tA lx ly gx1 gy1 gu1 gv1 ++ wM cI cJ cZ am (f_X4_replace_fa ((xs (iN + 1))) ((xs (iN + 2))) S (nI n) (nI B) (nI (S - B)) (nI K) st kd) (nI n) (nI B) (nI (S - B)) pl ja ah (nI K) bl bs bk be al tp st mx my kd1 ky ix1 iy1 iu1 iv1)) := hD
    refine W.widen (k := cells + 1) (n := slots + 6) (by omega) (by omega) ?_
    exact kk (oC cJ ao (vp_updL fo 0 ((f_X3_replace ((xs (iN + 1))) ((xs (iN + 2))) (nI K) (nI B) (nI (S - B)) st us kA).toInt64)) :: (wI cI cJ cZ a n ah pl ck ct (nI K) pm ja (nI n) (nI B) (nI (S - B)) tp st us1 fb kA1 tA lx ly gx1 gy1 gu1 gv1 ++ wM cI cJ cZ am (f_X4_replace_fa ((xs (iN + 1))) ((xs (iN + 2))) S (nI n) (nI B) (nI (S - B)) (nI K) st kd) (nI n) (nI B) (nI (S - B)) pl ja ah (nI K) bl bs bk be al tp st mx my kd1 ky ix1 iy1 iu1 iv1)) H _ ls ⟨_, _, _, _, _, _, _, _, _, _, _, _, _, _, _, _, _, _, _, _, _, _, _, _, _, _, _, _, _, _, _, _, _, _, _, _, (RE_X (by omega) hR1), rfl⟩ hP hD hS (lv_sub hl [2, 3, 4, 5, 6] rfl)
