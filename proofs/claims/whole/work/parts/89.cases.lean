set_option maxRecDepth 20000 in
set_option maxHeartbeats 4000000 in
theorem cs_kind {p : Program} {e : Env} {s : State} {m : MethodId} {below : List Frame} {meth : Method} {c : Code} (l : Launch) (hnt : ∀ e : Env, l.admits e → e.platform.stackTraces = false) {sb L : Nat} {xs : Nat → Int32} {D : va_G} {cI cJ cZ : ClassId} {A : Nat → Prop} {Q : State → Prop} (hC : LX p s m c sb L xs D cI cJ cZ A) {X : Int} (hX5 : 0 ≤ X ∧ X ≤ 60000000) {a am : Nat → Nat} {ao n iN : Nat} (hi : iN + 4 ≤ L) {w : va_W} (hw : LI X cI cJ cZ a am ao n w) {ls : Array Slot} (hl : lv_has ls 8 [(4, .int (nI iN)), (3, .ref ao), (2, .ref (am 0)), (1, .ref (a 0)), (0, .ref sb)]) {H : Heap} {locs : List Loc} (hP : va_P D vwCl w H) (hD : va_D A w) (hS : va_S A s.heap H locs) {cells slots : Nat} (hc : cells + 1 ≤ 653990) (hs : slots + 6 ≤ 7134099)
    (kk : ∀ (w' : va_W) (H' : Heap) (locs' : List Loc) (ls' : Array Slot), LI (X + 100000) cI cJ cZ a am ao n w' → va_P D vwCl w' H' → va_D A w' → va_S A s.heap H' locs' → lv_has ls' 8 [(4, .int (nI iN)), (3, .ref ao), (2, .ref (am 0)), (1, .ref (a 0)), (0, .ref sb)] → W p l e room_1 s m #[.ref sb] below meth c H' locs' (cells + 1) (slots + 6) Q (F0 m 953 ls' [])) : W p l e room_1 s m #[.ref sb] below meth c H locs cells slots Q (F0 m 144 ls []) := by
  obtain ⟨hx, hb, hml, hown, hX, hbl, hbA, hE, hK, hA, hL⟩ := hC
  have ht : tb_OK s := hE.1
  obtain ⟨B, S, K, ah, pl, ck, ct, pm, ja, tp, st, us, fb, kA, tA, lx, ly, gx, gy, gu, gv, fo, fa, bl, bs, bk, be, al, mx, my, kd, ky, ix, iy, iu, iv, hR, rfl⟩ := hw
  obtain ⟨⟨hn1, hn, hBS, hSn, hK4⟩, hah, hja, ⟨hAL, hpm⟩, hLN, hTP, hPR⟩ := id hR
  have gS := st_eq hBS
  obtain ⟨K1, tp1, st1, e1, e2, e3, e4, e5, e6, ea, hR1⟩ := r_kind hR st (xs (iN + 1)) (xs (iN + 2))
  refine lv_aload_n hx hb dL_law_144 rfl (lv_at hl 3 rfl) ?_
  refine lv_aload_n hx hb dL_law_145 rfl (lv_at hl 4 rfl) ?_
  refine lv_iload hx hb dL_law_146 (lv_at hl 0 rfl) ?_
  refine lv_iconst (v := 1) hx hb dL_law_148 (by decide) ?_
  refine lv_iadd hx hb dL_law_149 ?_
  refine va_sld hx hb hX hbl hbA hS (in_of (sc_1 iN) (by omega) (by omega)) dL_law_150 ?_
  refine W.st (st1 := [.int (xs (iN + 1)), .ref (a 0)]) (by rw [cl_of (sc_1 iN) (by omega)]) ?_
  refine lv_aload_n hx hb dL_law_151 rfl (lv_at hl 4 rfl) ?_
  refine lv_iload hx hb dL_law_152 (lv_at hl 0 rfl) ?_
  refine lv_iconst (v := 2) hx hb dL_law_154 (by decide) ?_
  refine lv_iadd hx hb dL_law_155 ?_
  refine va_sld hx hb hX hbl hbA hS (in_of (sc_2 iN) (by omega) (by omega)) dL_law_156 ?_
  refine W.st (st1 := [.int (xs (iN + 2)), .int (xs (iN + 1)), .ref (a 0)]) (by rw [cl_of (sc_2 iN) (by omega)]) ?_
  refine wrV (As := [.int (xs (iN + 1)), .int (xs (iN + 2))]) (rest := []) (WR.frame (w := (oC cJ ao fo :: (wI cI cJ cZ a n ah pl ck ct (nI K) pm ja (nI n) (nI B) (nI (S - B)) tp st us fb kA tA lx ly gx gy gu gv ++ wM cI cJ cZ am fa (nI n) (nI B) (nI (S - B)) pl ja ah (nI K) bl bs bk be al tp st mx my kd ky ix iy iu iv))) (wr := (oC cJ ao fo :: wM cI cJ cZ am fa (nI n) (nI B) (nI (S - B)) pl ja ah (nI K) bl bs bk be al tp st mx my kd ky ix iy iu iv)) (k_X3_kind l D cI cJ cZ a n ah pl ck ct (nI K) pm ja (nI n) (nI B) (nI (S - B)) tp st us fb kA tA lx ly gx gy gu gv ((xs (iN + 1))) ((xs (iN + 2))) (q_full1 hK4)) [1, 2, 3, 4, 5, 6, 7, 8, 9, 10, 11, 12, 13, 14, 15, 16] [0, 17, 18, 19, 20, 21, 22, 23, 24, 25, 26, 27, 28] rfl rfl (by decide) (by decide) (by decide)) (si_L_46 ht ⟨Nat.le_of_ble_eq_true rfl, Nat.le_of_ble_eq_true rfl⟩) hx hb hml hown (va_recv hK hP (ci := 4) (q0 := 1) rfl rfl) hE hP hK hD hS hA rfl hl.1 rfl (Nat.le_of_ble_eq_true rfl) ⟨by show _ ≤ 653990; omega, by show _ ≤ 7134099; omega⟩ dL_law_157 (fun ov w' H locs hpost hP hD hS => ?_)
  obtain ⟨w1, ⟨rfl, rfl⟩, rfl⟩ := hpost
  refine W.st (st1 := [.int (f_X3_kind ((xs (iN + 1))) ((xs (iN + 2))) (nI K))]) rfl ?_
  have hP : va_P D vwCl (oC cJ ao fo :: (wM cI cJ cZ am fa (nI n) (nI B) (nI (S - B)) pl ja ah (nI K) bl bs bk be al tp st mx my kd ky ix iy iu iv ++ wI cI cJ cZ a n ah pl ck ct (f_X3_kind_nk ((xs (iN + 1))) ((xs (iN + 2))) (nI K)) pm ja (nI n) (nI B) (nI (S - B)) (f_X3_kind_tp ((xs (iN + 1))) ((xs (iN + 2))) (nI K) tp) (f_X3_kind_st ((xs (iN + 1))) ((xs (iN + 2))) (nI K) st) us fb kA tA lx ly gx gy gu gv)) H := hP
  have hD : va_D A (oC cJ ao fo :: (wM cI cJ cZ am fa (nI n) (nI B) (nI (S - B)) pl ja ah (nI K) bl bs bk be al tp st mx my kd ky ix iy iu iv ++ wI cI cJ cZ a n ah pl ck ct (f_X3_kind_nk ((xs (iN + 1))) ((xs (iN + 2))) (nI K)) pm ja (nI n) (nI B) (nI (S - B)) (f_X3_kind_tp ((xs (iN + 1))) ((xs (iN + 2))) (nI K) tp) (f_X3_kind_st ((xs (iN + 1))) ((xs (iN + 2))) (nI K) st) us fb kA tA lx ly gx gy gu gv)) := hD
  refine lv_aload_n hx hb dL_law_160 rfl (lv_at hl 2 rfl) ?_
  refine lv_aload_n hx hb dL_law_161 rfl (lv_at hl 4 rfl) ?_
  refine lv_iload hx hb dL_law_162 (lv_at hl 0 rfl) ?_
  refine lv_iconst (v := 1) hx hb dL_law_164 (by decide) ?_
  refine lv_iadd hx hb dL_law_165 ?_
  refine va_sld hx hb hX hbl hbA hS (in_of (sc_1 iN) (by omega) (by omega)) dL_law_166 ?_
  refine W.st (st1 := [.int (xs (iN + 1)), .ref (am 0), .int (f_X3_kind ((xs (iN + 1))) ((xs (iN + 2))) (nI K))]) (by rw [cl_of (sc_1 iN) (by omega)]) ?_
  refine lv_aload_n hx hb dL_law_167 rfl (lv_at hl 4 rfl) ?_
  refine lv_iload hx hb dL_law_168 (lv_at hl 0 rfl) ?_
  refine lv_iconst (v := 2) hx hb dL_law_170 (by decide) ?_
  refine lv_iadd hx hb dL_law_171 ?_
  refine va_sld hx hb hX hbl hbA hS (in_of (sc_2 iN) (by omega) (by omega)) dL_law_172 ?_
  refine W.st (st1 := [.int (xs (iN + 2)), .int (xs (iN + 1)), .ref (am 0), .int (f_X3_kind ((xs (iN + 1))) ((xs (iN + 2))) (nI K))]) (by rw [cl_of (sc_2 iN) (by omega)]) ?_
  refine wrV (As := [.int (xs (iN + 1)), .int (xs (iN + 2))]) (rest := [.int (f_X3_kind ((xs (iN + 1))) ((xs (iN + 2))) (nI K))]) (WR.frame (w := (oC cJ ao fo :: (wM cI cJ cZ am fa (nI n) (nI B) (nI (S - B)) pl ja ah (nI K) bl bs bk be al tp st mx my kd ky ix iy iu iv ++ wI cI cJ cZ a n ah pl ck ct (f_X3_kind_nk ((xs (iN + 1))) ((xs (iN + 2))) (nI K)) pm ja (nI n) (nI B) (nI (S - B)) (f_X3_kind_tp ((xs (iN + 1))) ((xs (iN + 2))) (nI K) tp) (f_X3_kind_st ((xs (iN + 1))) ((xs (iN + 2))) (nI K) st) us fb kA tA lx ly gx gy gu gv))) (wr := (oC cJ ao fo :: wI cI cJ cZ a n ah pl ck ct (f_X3_kind_nk ((xs (iN + 1))) ((xs (iN + 2))) (nI K)) pm ja (nI n) (nI B) (nI (S - B)) (f_X3_kind_tp ((xs (iN + 1))) ((xs (iN + 2))) (nI K) tp) (f_X3_kind_st ((xs (iN + 1))) ((xs (iN + 2))) (nI K) st) us fb kA tA lx ly gx gy gu gv)) (k_X4_kind l D cI cJ cZ am fa (nI n) (nI B) (nI (S - B)) pl ja ah (nI K) bl bs bk be al tp st mx my kd ky ix iy iu iv ((xs (iN + 1))) ((xs (iN + 2))) (q_full2 hK4)) [1, 2, 3, 4, 5, 6, 7, 8, 9, 10, 11, 12] [0, 13, 14, 15, 16, 17, 18, 19, 20, 21, 22, 23, 24, 25, 26, 27, 28] rfl rfl (by decide) (by decide) (by decide)) (si_L_49 ht ⟨Nat.le_of_ble_eq_true rfl, Nat.le_of_ble_eq_true rfl⟩) hx hb hml hown (va_recv hK hP (ci := 5) (q0 := 1) rfl rfl) hE hP hK hD hS hA rfl hl.1 rfl (Nat.le_of_ble_eq_true rfl) ⟨by show _ ≤ 653990; omega, by show _ ≤ 7134099; omega⟩ dL_law_173 (fun ov w' H locs hpost hP hD hS => ?_)
  obtain ⟨w1, ⟨rfl, rfl⟩, rfl⟩ := hpost
  refine W.st (st1 := [.int (f_X4_kind ((xs (iN + 1))) ((xs (iN + 2))) (nI K)), .int (f_X3_kind ((xs (iN + 1))) ((xs (iN + 2))) (nI K))]) rfl ?_
  have hP : va_P D vwCl (oC cJ ao fo :: (wI cI cJ cZ a n ah pl ck ct (f_X3_kind_nk ((xs (iN + 1))) ((xs (iN + 2))) (nI K)) pm ja (nI n) (nI B) (nI (S - B)) (f_X3_kind_tp ((xs (iN + 1))) ((xs (iN + 2))) (nI K) tp) (f_X3_kind_st ((xs (iN + 1))) ((xs (iN + 2))) (nI K) st) us fb kA tA lx ly gx gy gu gv ++ wM cI cJ cZ am (f_X4_kind_fa ((xs (iN + 1))) ((xs (iN + 2))) (nI K)) (nI n) (nI B) (nI (S - B)) pl ja ah (f_X4_kind_nk ((xs (iN + 1))) ((xs (iN + 2))) (nI K)) bl bs bk be al (f_X4_kind_tp ((xs (iN + 1))) ((xs (iN + 2))) (nI K) tp) (f_X4_kind_st ((xs (iN + 1))) ((xs (iN + 2))) (nI K) st) mx my kd ky ix iy iu iv)) H := hP
  have hD : va_D A (oC cJ ao fo :: (wI cI cJ cZ a n ah pl ck ct (f_X3_kind_nk ((xs (iN + 1))) ((xs (iN + 2))) (nI K)) pm ja (nI n) (nI B) (nI (S - B)) (f_X3_kind_tp ((xs (iN + 1))) ((xs (iN + 2))) (nI K) tp) (f_X3_kind_st ((xs (iN + 1))) ((xs (iN + 2))) (nI K) st) us fb kA tA lx ly gx gy gu gv ++ wM cI cJ cZ am (f_X4_kind_fa ((xs (iN + 1))) ((xs (iN + 2))) (nI K)) (nI n) (nI B) (nI (S - B)) pl ja ah (f_X4_kind_nk ((xs (iN + 1))) ((xs (iN + 2))) (nI K)) bl bs bk be al (f_X4_kind_tp ((xs (iN + 1))) ((xs (iN + 2))) (nI K) tp) (f_X4_kind_st ((xs (iN + 1))) ((xs (iN + 2))) (nI K) st) mx my kd ky ix iy iu iv)) := hD
  refine lv_icmp_eq (tgt := 953) hx hb dL_law_176 (by decide) (fun _ => ?_) (fun c => absurd ea c)
  rw [e1, e2, e3, e4, e5, e6] at hP hD
  have hP : va_P D vwCl (oC cJ ao fo :: (wI cI cJ cZ a n ah pl ck ct (nI K1) pm ja (nI n) (nI B) (nI (S - B)) tp1 st1 us fb kA tA lx ly gx gy gu gv ++ wM cI cJ cZ am (f_X4_kind_fa ((xs (iN + 1))) ((xs (iN + 2))) (nI K)) (nI n) (nI B) (nI (S - B)) pl ja ah (nI K1) bl bs bk be al tp1 st1 mx my kd ky ix iy iu iv)) H := hP
  have hD : va_D A (oC cJ ao fo :: (wI cI cJ cZ a n ah pl ck ct (nI K1) pm ja (nI n) (nI B) (nI (S - B)) tp1 st1 us fb kA tA lx ly gx gy gu gv ++ wM cI cJ cZ am (f_X4_kind_fa ((xs (iN + 1))) ((xs (iN + 2))) (nI K)) (nI n) (nI B) (nI (S - B)) pl ja ah (nI K1) bl bs bk be al tp1 st1 mx my kd ky ix iy iu iv)) := hD
  refine W.widen (k := cells + 1) (n := slots + 6) (by omega) (by omega) ?_
  exact kk (oC cJ ao fo :: (wI cI cJ cZ a n ah pl ck ct (nI K1) pm ja (nI n) (nI B) (nI (S - B)) tp1 st1 us fb kA tA lx ly gx gy gu gv ++ wM cI cJ cZ am (f_X4_kind_fa ((xs (iN + 1))) ((xs (iN + 2))) (nI K)) (nI n) (nI B) (nI (S - B)) pl ja ah (nI K1) bl bs bk be al tp1 st1 mx my kd ky ix iy iu iv)) H _ ls ⟨_, _, _, _, _, _, _, _, _, _, _, _, _, _, _, _, _, _, _, _, _, _, _, _, _, _, _, _, _, _, _, _, _, _, _, _, (RE_X (by omega) hR1), rfl⟩ hP hD hS (lv_sub hl [0, 1, 2, 3, 4] rfl)
set_option maxRecDepth 20000 in
set_option maxHeartbeats 4000000 in
theorem cs_more {p : Program} {e : Env} {s : State} {m : MethodId} {below : List Frame} {meth : Method} {c : Code} (l : Launch) (hnt : ∀ e : Env, l.admits e → e.platform.stackTraces = false) {sb L : Nat} {xs : Nat → Int32} {D : va_G} {cI cJ cZ : ClassId} {A : Nat → Prop} {Q : State → Prop} (hC : LX p s m c sb L xs D cI cJ cZ A) {X : Int} (hX5 : 0 ≤ X ∧ X ≤ 60000000) {a am : Nat → Nat} {ao n iN : Nat} (hi : iN + 4 ≤ L) {w : va_W} (hw : LI X cI cJ cZ a am ao n w) {ls : Array Slot} (hl : lv_has ls 8 [(4, .int (nI iN)), (3, .ref ao), (2, .ref (am 0)), (1, .ref (a 0)), (0, .ref sb)]) {H : Heap} {locs : List Loc} (hP : va_P D vwCl w H) (hD : va_D A w) (hS : va_S A s.heap H locs) {cells slots : Nat} (hc : cells + 1 ≤ 653990) (hs : slots + 6 ≤ 7134099)
    (kk : ∀ (w' : va_W) (H' : Heap) (locs' : List Loc) (ls' : Array Slot), LI (X + 100000) cI cJ cZ a am ao n w' → va_P D vwCl w' H' → va_D A w' → va_S A s.heap H' locs' → lv_has ls' 8 [(4, .int (nI iN)), (3, .ref ao), (2, .ref (am 0)), (1, .ref (a 0)), (0, .ref sb)] → W p l e room_1 s m #[.ref sb] below meth c H' locs' (cells + 1) (slots + 6) Q (F0 m 953 ls' [])) : W p l e room_1 s m #[.ref sb] below meth c H locs cells slots Q (F0 m 181 ls []) := by
  obtain ⟨hx, hb, hml, hown, hX, hbl, hbA, hE, hK, hA, hL⟩ := hC
  have ht : tb_OK s := hE.1
  obtain ⟨B, S, K, ah, pl, ck, ct, pm, ja, tp, st, us, fb, kA, tA, lx, ly, gx, gy, gu, gv, fo, fa, bl, bs, bk, be, al, mx, my, kd, ky, ix, iy, iu, iv, hR, rfl⟩ := hw
  obtain ⟨⟨hn1, hn, hBS, hSn, hK4⟩, hah, hja, ⟨hAL, hpm⟩, hLN, hTP, hPR⟩ := id hR
  have gS := st_eq hBS
  obtain ⟨e1, ea⟩ := r_more (nI K) st (xs (iN + 1)) (xs (iN + 2))
  have hR1 := hR
  refine lv_aload_n hx hb dL_law_181 rfl (lv_at hl 3 rfl) ?_
  refine lv_aload_n hx hb dL_law_182 rfl (lv_at hl 4 rfl) ?_
  refine lv_iload hx hb dL_law_183 (lv_at hl 0 rfl) ?_
  refine lv_iconst (v := 1) hx hb dL_law_185 (by decide) ?_
  refine lv_iadd hx hb dL_law_186 ?_
  refine va_sld hx hb hX hbl hbA hS (in_of (sc_1 iN) (by omega) (by omega)) dL_law_187 ?_
  refine W.st (st1 := [.int (xs (iN + 1)), .ref (a 0)]) (by rw [cl_of (sc_1 iN) (by omega)]) ?_
  refine lv_aload_n hx hb dL_law_188 rfl (lv_at hl 4 rfl) ?_
  refine lv_iload hx hb dL_law_189 (lv_at hl 0 rfl) ?_
  refine lv_iconst (v := 2) hx hb dL_law_191 (by decide) ?_
  refine lv_iadd hx hb dL_law_192 ?_
  refine va_sld hx hb hX hbl hbA hS (in_of (sc_2 iN) (by omega) (by omega)) dL_law_193 ?_
  refine W.st (st1 := [.int (xs (iN + 2)), .int (xs (iN + 1)), .ref (a 0)]) (by rw [cl_of (sc_2 iN) (by omega)]) ?_
  refine wrV (As := [.int (xs (iN + 1)), .int (xs (iN + 2))]) (rest := []) (WR.frame (w := (oC cJ ao fo :: (wI cI cJ cZ a n ah pl ck ct (nI K) pm ja (nI n) (nI B) (nI (S - B)) tp st us fb kA tA lx ly gx gy gu gv ++ wM cI cJ cZ am fa (nI n) (nI B) (nI (S - B)) pl ja ah (nI K) bl bs bk be al tp st mx my kd ky ix iy iu iv))) (wr := (oC cJ ao fo :: wM cI cJ cZ am fa (nI n) (nI B) (nI (S - B)) pl ja ah (nI K) bl bs bk be al tp st mx my kd ky ix iy iu iv)) (k_X3_more l D cI cJ cZ a n ah pl ck ct (nI K) pm ja (nI n) (nI B) (nI (S - B)) tp st us fb kA tA lx ly gx gy gu gv ((xs (iN + 1))) ((xs (iN + 2))) (fun h => q_has hK4 h)) [1, 2, 3, 4, 5, 6, 7, 8, 9, 10, 11, 12, 13, 14, 15, 16] [0, 17, 18, 19, 20, 21, 22, 23, 24, 25, 26, 27, 28] rfl rfl (by decide) (by decide) (by decide)) (si_L_50 ht ⟨Nat.le_of_ble_eq_true rfl, Nat.le_of_ble_eq_true rfl⟩) hx hb hml hown (va_recv hK hP (ci := 4) (q0 := 1) rfl rfl) hE hP hK hD hS hA rfl hl.1 rfl (Nat.le_of_ble_eq_true rfl) ⟨by show _ ≤ 653990; omega, by show _ ≤ 7134099; omega⟩ dL_law_194 (fun ov w' H locs hpost hP hD hS => ?_)
  obtain ⟨w1, ⟨rfl, rfl⟩, rfl⟩ := hpost
  refine W.st (st1 := [.int (f_X3_more ((xs (iN + 1))) ((xs (iN + 2))) (nI K) st)]) rfl ?_
  have hP : va_P D vwCl (oC cJ ao fo :: (wM cI cJ cZ am fa (nI n) (nI B) (nI (S - B)) pl ja ah (nI K) bl bs bk be al tp st mx my kd ky ix iy iu iv ++ wI cI cJ cZ a n ah pl ck ct (nI K) pm ja (nI n) (nI B) (nI (S - B)) tp (f_X3_more_st ((xs (iN + 1))) ((xs (iN + 2))) (nI K) st) us fb kA tA lx ly gx gy gu gv)) H := hP
  have hD : va_D A (oC cJ ao fo :: (wM cI cJ cZ am fa (nI n) (nI B) (nI (S - B)) pl ja ah (nI K) bl bs bk be al tp st mx my kd ky ix iy iu iv ++ wI cI cJ cZ a n ah pl ck ct (nI K) pm ja (nI n) (nI B) (nI (S - B)) tp (f_X3_more_st ((xs (iN + 1))) ((xs (iN + 2))) (nI K) st) us fb kA tA lx ly gx gy gu gv)) := hD
  refine lv_aload_n hx hb dL_law_197 rfl (lv_at hl 2 rfl) ?_
  refine lv_aload_n hx hb dL_law_198 rfl (lv_at hl 4 rfl) ?_
  refine lv_iload hx hb dL_law_199 (lv_at hl 0 rfl) ?_
  refine lv_iconst (v := 1) hx hb dL_law_201 (by decide) ?_
  refine lv_iadd hx hb dL_law_202 ?_
  refine va_sld hx hb hX hbl hbA hS (in_of (sc_1 iN) (by omega) (by omega)) dL_law_203 ?_
  refine W.st (st1 := [.int (xs (iN + 1)), .ref (am 0), .int (f_X3_more ((xs (iN + 1))) ((xs (iN + 2))) (nI K) st)]) (by rw [cl_of (sc_1 iN) (by omega)]) ?_
  refine lv_aload_n hx hb dL_law_204 rfl (lv_at hl 4 rfl) ?_
  refine lv_iload hx hb dL_law_205 (lv_at hl 0 rfl) ?_
  refine lv_iconst (v := 2) hx hb dL_law_207 (by decide) ?_
  refine lv_iadd hx hb dL_law_208 ?_
  refine va_sld hx hb hX hbl hbA hS (in_of (sc_2 iN) (by omega) (by omega)) dL_law_209 ?_
  refine W.st (st1 := [.int (xs (iN + 2)), .int (xs (iN + 1)), .ref (am 0), .int (f_X3_more ((xs (iN + 1))) ((xs (iN + 2))) (nI K) st)]) (by rw [cl_of (sc_2 iN) (by omega)]) ?_
  refine wrV (As := [.int (xs (iN + 1)), .int (xs (iN + 2))]) (rest := [.int (f_X3_more ((xs (iN + 1))) ((xs (iN + 2))) (nI K) st)]) (WR.frame (w := (oC cJ ao fo :: (wM cI cJ cZ am fa (nI n) (nI B) (nI (S - B)) pl ja ah (nI K) bl bs bk be al tp st mx my kd ky ix iy iu iv ++ wI cI cJ cZ a n ah pl ck ct (nI K) pm ja (nI n) (nI B) (nI (S - B)) tp (f_X3_more_st ((xs (iN + 1))) ((xs (iN + 2))) (nI K) st) us fb kA tA lx ly gx gy gu gv))) (wr := (oC cJ ao fo :: wI cI cJ cZ a n ah pl ck ct (nI K) pm ja (nI n) (nI B) (nI (S - B)) tp (f_X3_more_st ((xs (iN + 1))) ((xs (iN + 2))) (nI K) st) us fb kA tA lx ly gx gy gu gv)) (k_X4_more l D cI cJ cZ am fa (nI n) (nI B) (nI (S - B)) pl ja ah (nI K) bl bs bk be al tp st mx my kd ky ix iy iu iv ((xs (iN + 1))) ((xs (iN + 2))) (fun h => q_has hK4 h)) [1, 2, 3, 4, 5, 6, 7, 8, 9, 10, 11, 12] [0, 13, 14, 15, 16, 17, 18, 19, 20, 21, 22, 23, 24, 25, 26, 27, 28] rfl rfl (by decide) (by decide) (by decide)) (si_L_53 ht ⟨Nat.le_of_ble_eq_true rfl, Nat.le_of_ble_eq_true rfl⟩) hx hb hml hown (va_recv hK hP (ci := 5) (q0 := 1) rfl rfl) hE hP hK hD hS hA rfl hl.1 rfl (Nat.le_of_ble_eq_true rfl) ⟨by show _ ≤ 653990; omega, by show _ ≤ 7134099; omega⟩ dL_law_210 (fun ov w' H locs hpost hP hD hS => ?_)
  obtain ⟨w1, ⟨rfl, rfl⟩, rfl⟩ := hpost
  refine W.st (st1 := [.int (f_X4_more ((xs (iN + 1))) ((xs (iN + 2))) (nI K) st), .int (f_X3_more ((xs (iN + 1))) ((xs (iN + 2))) (nI K) st)]) rfl ?_
  have hP : va_P D vwCl (oC cJ ao fo :: (wI cI cJ cZ a n ah pl ck ct (nI K) pm ja (nI n) (nI B) (nI (S - B)) tp (f_X3_more_st ((xs (iN + 1))) ((xs (iN + 2))) (nI K) st) us fb kA tA lx ly gx gy gu gv ++ wM cI cJ cZ am (f_X4_more_fa ((xs (iN + 1))) ((xs (iN + 2))) (nI K)) (nI n) (nI B) (nI (S - B)) pl ja ah (nI K) bl bs bk be al tp (f_X4_more_st ((xs (iN + 1))) ((xs (iN + 2))) (nI K) st) mx my kd ky ix iy iu iv)) H := hP
  have hD : va_D A (oC cJ ao fo :: (wI cI cJ cZ a n ah pl ck ct (nI K) pm ja (nI n) (nI B) (nI (S - B)) tp (f_X3_more_st ((xs (iN + 1))) ((xs (iN + 2))) (nI K) st) us fb kA tA lx ly gx gy gu gv ++ wM cI cJ cZ am (f_X4_more_fa ((xs (iN + 1))) ((xs (iN + 2))) (nI K)) (nI n) (nI B) (nI (S - B)) pl ja ah (nI K) bl bs bk be al tp (f_X4_more_st ((xs (iN + 1))) ((xs (iN + 2))) (nI K) st) mx my kd ky ix iy iu iv)) := hD
  refine lv_icmp_eq (tgt := 953) hx hb dL_law_213 (by decide) (fun _ => ?_) (fun c => absurd ea c)
  rw [e1] at hP hD
  have hP : va_P D vwCl (oC cJ ao fo :: (wI cI cJ cZ a n ah pl ck ct (nI K) pm ja (nI n) (nI B) (nI (S - B)) tp (f_X4_more_st (xs (iN + 1)) (xs (iN + 2)) (nI K) st) us fb kA tA lx ly gx gy gu gv ++ wM cI cJ cZ am (f_X4_more_fa ((xs (iN + 1))) ((xs (iN + 2))) (nI K)) (nI n) (nI B) (nI (S - B)) pl ja ah (nI K) bl bs bk be al tp (f_X4_more_st ((xs (iN + 1))) ((xs (iN + 2))) (nI K) st) mx my kd ky ix iy iu iv)) H := hP
  have hD : va_D A (oC cJ ao fo :: (wI cI cJ cZ a n ah pl ck ct (nI K) pm ja (nI n) (nI B) (nI (S - B)) tp (f_X4_more_st (xs (iN + 1)) (xs (iN + 2)) (nI K) st) us fb kA tA lx ly gx gy gu gv ++ wM cI cJ cZ am (f_X4_more_fa ((xs (iN + 1))) ((xs (iN + 2))) (nI K)) (nI n) (nI B) (nI (S - B)) pl ja ah (nI K) bl bs bk be al tp (f_X4_more_st ((xs (iN + 1))) ((xs (iN + 2))) (nI K) st) mx my kd ky ix iy iu iv)) := hD
  refine W.widen (k := cells + 1) (n := slots + 6) (by omega) (by omega) ?_
  exact kk (oC cJ ao fo :: (wI cI cJ cZ a n ah pl ck ct (nI K) pm ja (nI n) (nI B) (nI (S - B)) tp (f_X4_more_st (xs (iN + 1)) (xs (iN + 2)) (nI K) st) us fb kA tA lx ly gx gy gu gv ++ wM cI cJ cZ am (f_X4_more_fa ((xs (iN + 1))) ((xs (iN + 2))) (nI K)) (nI n) (nI B) (nI (S - B)) pl ja ah (nI K) bl bs bk be al tp (f_X4_more_st ((xs (iN + 1))) ((xs (iN + 2))) (nI K) st) mx my kd ky ix iy iu iv)) H _ ls ⟨_, _, _, _, _, _, _, _, _, _, _, _, _, _, _, _, _, _, _, _, _, _, _, _, _, _, _, _, _, _, _, _, _, _, _, _, (RE_X (by omega) hR1), rfl⟩ hP hD hS (lv_sub hl [0, 1, 2, 3, 4] rfl)
set_option maxRecDepth 20000 in
set_option maxHeartbeats 4000000 in
theorem cs_apart {p : Program} {e : Env} {s : State} {m : MethodId} {below : List Frame} {meth : Method} {c : Code} (l : Launch) (hnt : ∀ e : Env, l.admits e → e.platform.stackTraces = false) {sb L : Nat} {xs : Nat → Int32} {D : va_G} {cI cJ cZ : ClassId} {A : Nat → Prop} {Q : State → Prop} (hC : LX p s m c sb L xs D cI cJ cZ A) {X : Int} (hX5 : 0 ≤ X ∧ X ≤ 60000000) {a am : Nat → Nat} {ao n iN : Nat} (hi : iN + 4 ≤ L) {w : va_W} (hw : LI X cI cJ cZ a am ao n w) {ls : Array Slot} (hl : lv_has ls 8 [(4, .int (nI iN)), (3, .ref ao), (2, .ref (am 0)), (1, .ref (a 0)), (0, .ref sb)]) {H : Heap} {locs : List Loc} (hP : va_P D vwCl w H) (hD : va_D A w) (hS : va_S A s.heap H locs) {cells slots : Nat} (hc : cells + 1 ≤ 653990) (hs : slots + 6 ≤ 7134099)
    (kk : ∀ (w' : va_W) (H' : Heap) (locs' : List Loc) (ls' : Array Slot), LI (X + 100000) cI cJ cZ a am ao n w' → va_P D vwCl w' H' → va_D A w' → va_S A s.heap H' locs' → lv_has ls' 8 [(4, .int (nI iN)), (3, .ref ao), (2, .ref (am 0)), (1, .ref (a 0)), (0, .ref sb)] → W p l e room_1 s m #[.ref sb] below meth c H' locs' (cells + 1) (slots + 6) Q (F0 m 953 ls' [])) : W p l e room_1 s m #[.ref sb] below meth c H locs cells slots Q (F0 m 298 ls []) := by
  obtain ⟨hx, hb, hml, hown, hX, hbl, hbA, hE, hK, hA, hL⟩ := hC
  have ht : tb_OK s := hE.1
  obtain ⟨B, S, K, ah, pl, ck, ct, pm, ja, tp, st, us, fb, kA, tA, lx, ly, gx, gy, gu, gv, fo, fa, bl, bs, bk, be, al, mx, my, kd, ky, ix, iy, iu, iv, hR, rfl⟩ := hw
  obtain ⟨⟨hn1, hn, hBS, hSn, hK4⟩, hah, hja, ⟨hAL, hpm⟩, hLN, hTP, hPR⟩ := id hR
  have gS := st_eq hBS
  obtain ⟨ja1, e1, e2, ea, hR1⟩ := r_apart hR (xs (iN + 1))
  refine lv_aload_n hx hb dL_law_298 rfl (lv_at hl 3 rfl) ?_
  refine lv_aload_n hx hb dL_law_299 rfl (lv_at hl 4 rfl) ?_
  refine lv_iload hx hb dL_law_300 (lv_at hl 0 rfl) ?_
  refine lv_iconst (v := 1) hx hb dL_law_302 (by decide) ?_
  refine lv_iadd hx hb dL_law_303 ?_
  refine va_sld hx hb hX hbl hbA hS (in_of (sc_1 iN) (by omega) (by omega)) dL_law_304 ?_
  refine W.st (st1 := [.int (xs (iN + 1)), .ref (a 0)]) (by rw [cl_of (sc_1 iN) (by omega)]) ?_
  refine wrV (As := [.int (xs (iN + 1))]) (rest := []) (WR.frame (w := (oC cJ ao fo :: (wI cI cJ cZ a n ah pl ck ct (nI K) pm ja (nI n) (nI B) (nI (S - B)) tp st us fb kA tA lx ly gx gy gu gv ++ wM cI cJ cZ am fa (nI n) (nI B) (nI (S - B)) pl ja ah (nI K) bl bs bk be al tp st mx my kd ky ix iy iu iv))) (wr := (oC cJ ao fo :: wM cI cJ cZ am fa (nI n) (nI B) (nI (S - B)) pl ja ah (nI K) bl bs bk be al tp st mx my kd ky ix iy iu iv)) (k_X3_apart l D cI cJ cZ a n ah pl ck ct (nI K) pm ja (nI n) (nI B) (nI (S - B)) tp st us fb kA tA lx ly gx gy gu gv ((xs (iN + 1))) ) [1, 2, 3, 4, 5, 6, 7, 8, 9, 10, 11, 12, 13, 14, 15, 16] [0, 17, 18, 19, 20, 21, 22, 23, 24, 25, 26, 27, 28] rfl rfl (by decide) (by decide) (by decide)) (si_L_62 ht ⟨Nat.le_of_ble_eq_true rfl, Nat.le_of_ble_eq_true rfl⟩) hx hb hml hown (va_recv hK hP (ci := 4) (q0 := 1) rfl rfl) hE hP hK hD hS hA rfl hl.1 rfl (Nat.le_of_ble_eq_true rfl) ⟨by show _ ≤ 653990; omega, by show _ ≤ 7134099; omega⟩ dL_law_305 (fun ov w' H locs hpost hP hD hS => ?_)
  obtain ⟨w1, ⟨rfl, rfl⟩, rfl⟩ := hpost
  refine W.st (st1 := [.int (f_X3_apart ((xs (iN + 1))))]) rfl ?_
  have hP : va_P D vwCl (oC cJ ao fo :: (wM cI cJ cZ am fa (nI n) (nI B) (nI (S - B)) pl ja ah (nI K) bl bs bk be al tp st mx my kd ky ix iy iu iv ++ wI cI cJ cZ a n ah pl ck ct (nI K) pm (f_X3_apart_ja ((xs (iN + 1))) ja) (nI n) (nI B) (nI (S - B)) tp st us fb kA tA lx ly gx gy gu gv)) H := hP
  have hD : va_D A (oC cJ ao fo :: (wM cI cJ cZ am fa (nI n) (nI B) (nI (S - B)) pl ja ah (nI K) bl bs bk be al tp st mx my kd ky ix iy iu iv ++ wI cI cJ cZ a n ah pl ck ct (nI K) pm (f_X3_apart_ja ((xs (iN + 1))) ja) (nI n) (nI B) (nI (S - B)) tp st us fb kA tA lx ly gx gy gu gv)) := hD
  refine lv_aload_n hx hb dL_law_308 rfl (lv_at hl 2 rfl) ?_
  refine lv_aload_n hx hb dL_law_309 rfl (lv_at hl 4 rfl) ?_
  refine lv_iload hx hb dL_law_310 (lv_at hl 0 rfl) ?_
  refine lv_iconst (v := 1) hx hb dL_law_312 (by decide) ?_
  refine lv_iadd hx hb dL_law_313 ?_
  refine va_sld hx hb hX hbl hbA hS (in_of (sc_1 iN) (by omega) (by omega)) dL_law_314 ?_
  refine W.st (st1 := [.int (xs (iN + 1)), .ref (am 0), .int (f_X3_apart ((xs (iN + 1))))]) (by rw [cl_of (sc_1 iN) (by omega)]) ?_
  refine wrV (As := [.int (xs (iN + 1))]) (rest := [.int (f_X3_apart ((xs (iN + 1))))]) (WR.frame (w := (oC cJ ao fo :: (wM cI cJ cZ am fa (nI n) (nI B) (nI (S - B)) pl ja ah (nI K) bl bs bk be al tp st mx my kd ky ix iy iu iv ++ wI cI cJ cZ a n ah pl ck ct (nI K) pm (f_X3_apart_ja ((xs (iN + 1))) ja) (nI n) (nI B) (nI (S - B)) tp st us fb kA tA lx ly gx gy gu gv))) (wr := (oC cJ ao fo :: wI cI cJ cZ a n ah pl ck ct (nI K) pm (f_X3_apart_ja ((xs (iN + 1))) ja) (nI n) (nI B) (nI (S - B)) tp st us fb kA tA lx ly gx gy gu gv)) (k_X4_apart l D cI cJ cZ am fa (nI n) (nI B) (nI (S - B)) pl ja ah (nI K) bl bs bk be al tp st mx my kd ky ix iy iu iv ((xs (iN + 1))) ) [1, 2, 3, 4, 5, 6, 7, 8, 9, 10, 11, 12] [0, 13, 14, 15, 16, 17, 18, 19, 20, 21, 22, 23, 24, 25, 26, 27, 28] rfl rfl (by decide) (by decide) (by decide)) (si_L_65 ht ⟨Nat.le_of_ble_eq_true rfl, Nat.le_of_ble_eq_true rfl⟩) hx hb hml hown (va_recv hK hP (ci := 5) (q0 := 1) rfl rfl) hE hP hK hD hS hA rfl hl.1 rfl (Nat.le_of_ble_eq_true rfl) ⟨by show _ ≤ 653990; omega, by show _ ≤ 7134099; omega⟩ dL_law_315 (fun ov w' H locs hpost hP hD hS => ?_)
  obtain ⟨w1, ⟨rfl, rfl⟩, rfl⟩ := hpost
  refine W.st (st1 := [.int (f_X4_apart ((xs (iN + 1)))), .int (f_X3_apart ((xs (iN + 1))))]) rfl ?_
  have hP : va_P D vwCl (oC cJ ao fo :: (wI cI cJ cZ a n ah pl ck ct (nI K) pm (f_X3_apart_ja ((xs (iN + 1))) ja) (nI n) (nI B) (nI (S - B)) tp st us fb kA tA lx ly gx gy gu gv ++ wM cI cJ cZ am (f_X4_apart_fa ((xs (iN + 1)))) (nI n) (nI B) (nI (S - B)) pl (f_X4_apart_ja ((xs (iN + 1))) ja) ah (nI K) bl bs bk be al tp st mx my kd ky ix iy iu iv)) H := hP
  have hD : va_D A (oC cJ ao fo :: (wI cI cJ cZ a n ah pl ck ct (nI K) pm (f_X3_apart_ja ((xs (iN + 1))) ja) (nI n) (nI B) (nI (S - B)) tp st us fb kA tA lx ly gx gy gu gv ++ wM cI cJ cZ am (f_X4_apart_fa ((xs (iN + 1)))) (nI n) (nI B) (nI (S - B)) pl (f_X4_apart_ja ((xs (iN + 1))) ja) ah (nI K) bl bs bk be al tp st mx my kd ky ix iy iu iv)) := hD
  refine lv_icmp_eq (tgt := 953) hx hb dL_law_318 (by decide) (fun _ => ?_) (fun c => absurd ea c)
  rw [e1, e2] at hP hD
  have hP : va_P D vwCl (oC cJ ao fo :: (wI cI cJ cZ a n ah pl ck ct (nI K) pm ja1 (nI n) (nI B) (nI (S - B)) tp st us fb kA tA lx ly gx gy gu gv ++ wM cI cJ cZ am (f_X4_apart_fa ((xs (iN + 1)))) (nI n) (nI B) (nI (S - B)) pl ja1 ah (nI K) bl bs bk be al tp st mx my kd ky ix iy iu iv)) H := hP
  have hD : va_D A (oC cJ ao fo :: (wI cI cJ cZ a n ah pl ck ct (nI K) pm ja1 (nI n) (nI B) (nI (S - B)) tp st us fb kA tA lx ly gx gy gu gv ++ wM cI cJ cZ am (f_X4_apart_fa ((xs (iN + 1)))) (nI n) (nI B) (nI (S - B)) pl ja1 ah (nI K) bl bs bk be al tp st mx my kd ky ix iy iu iv)) := hD
  refine W.widen (k := cells + 1) (n := slots + 6) (by omega) (by omega) ?_
  exact kk (oC cJ ao fo :: (wI cI cJ cZ a n ah pl ck ct (nI K) pm ja1 (nI n) (nI B) (nI (S - B)) tp st us fb kA tA lx ly gx gy gu gv ++ wM cI cJ cZ am (f_X4_apart_fa ((xs (iN + 1)))) (nI n) (nI B) (nI (S - B)) pl ja1 ah (nI K) bl bs bk be al tp st mx my kd ky ix iy iu iv)) H _ ls ⟨_, _, _, _, _, _, _, _, _, _, _, _, _, _, _, _, _, _, _, _, _, _, _, _, _, _, _, _, _, _, _, _, _, _, _, _, (RE_X (by omega) hR1), rfl⟩ hP hD hS (lv_sub hl [0, 1, 2, 3, 4] rfl)
set_option maxRecDepth 20000 in
set_option maxHeartbeats 4000000 in
theorem cs_look {p : Program} {e : Env} {s : State} {m : MethodId} {below : List Frame} {meth : Method} {c : Code} (l : Launch) (hnt : ∀ e : Env, l.admits e → e.platform.stackTraces = false) {sb L : Nat} {xs : Nat → Int32} {D : va_G} {cI cJ cZ : ClassId} {A : Nat → Prop} {Q : State → Prop} (hC : LX p s m c sb L xs D cI cJ cZ A) {X : Int} (hX5 : 0 ≤ X ∧ X ≤ 60000000) {a am : Nat → Nat} {ao n iN : Nat} (hi : iN + 4 ≤ L) {w : va_W} (hw : LI X cI cJ cZ a am ao n w) {ls : Array Slot} (hl : lv_has ls 8 [(4, .int (nI iN)), (3, .ref ao), (2, .ref (am 0)), (1, .ref (a 0)), (0, .ref sb)]) {H : Heap} {locs : List Loc} (hP : va_P D vwCl w H) (hD : va_D A w) (hS : va_S A s.heap H locs) {cells slots : Nat} (hc : cells + 1 ≤ 653990) (hs : slots + 6 ≤ 7134099)
    (kk : ∀ (w' : va_W) (H' : Heap) (locs' : List Loc) (ls' : Array Slot), LI (X + 100000) cI cJ cZ a am ao n w' → va_P D vwCl w' H' → va_D A w' → va_S A s.heap H' locs' → lv_has ls' 8 [(4, .int (nI iN)), (3, .ref ao), (2, .ref (am 0)), (1, .ref (a 0)), (0, .ref sb)] → W p l e room_1 s m #[.ref sb] below meth c H' locs' (cells + 1) (slots + 6) Q (F0 m 953 ls' [])) : W p l e room_1 s m #[.ref sb] below meth c H locs cells slots Q (F0 m 376 ls []) := by
  obtain ⟨hx, hb, hml, hown, hX, hbl, hbA, hE, hK, hA, hL⟩ := hC
  have ht : tb_OK s := hE.1
  obtain ⟨B, S, K, ah, pl, ck, ct, pm, ja, tp, st, us, fb, kA, tA, lx, ly, gx, gy, gu, gv, fo, fa, bl, bs, bk, be, al, mx, my, kd, ky, ix, iy, iu, iv, hR, rfl⟩ := hw
  obtain ⟨⟨hn1, hn, hBS, hSn, hK4⟩, hah, hja, ⟨hAL, hpm⟩, hLN, hTP, hPR⟩ := id hR
  have gS := st_eq hBS
  obtain ⟨ah1, e1, e2, ea, hR1⟩ := r_look hR (xs (iN + 1))
  refine lv_aload_n hx hb dL_law_376 rfl (lv_at hl 3 rfl) ?_
  refine lv_aload_n hx hb dL_law_377 rfl (lv_at hl 4 rfl) ?_
  refine lv_iload hx hb dL_law_378 (lv_at hl 0 rfl) ?_
  refine lv_iconst (v := 1) hx hb dL_law_380 (by decide) ?_
  refine lv_iadd hx hb dL_law_381 ?_
  refine va_sld hx hb hX hbl hbA hS (in_of (sc_1 iN) (by omega) (by omega)) dL_law_382 ?_
  refine W.st (st1 := [.int (xs (iN + 1)), .ref (a 0)]) (by rw [cl_of (sc_1 iN) (by omega)]) ?_
  refine wrV (As := [.int (xs (iN + 1))]) (rest := []) (WR.frame (w := (oC cJ ao fo :: (wI cI cJ cZ a n ah pl ck ct (nI K) pm ja (nI n) (nI B) (nI (S - B)) tp st us fb kA tA lx ly gx gy gu gv ++ wM cI cJ cZ am fa (nI n) (nI B) (nI (S - B)) pl ja ah (nI K) bl bs bk be al tp st mx my kd ky ix iy iu iv))) (wr := (oC cJ ao fo :: wM cI cJ cZ am fa (nI n) (nI B) (nI (S - B)) pl ja ah (nI K) bl bs bk be al tp st mx my kd ky ix iy iu iv)) (k_X3_look l D cI cJ cZ a n ah pl ck ct (nI K) pm ja (nI n) (nI B) (nI (S - B)) tp st us fb kA tA lx ly gx gy gu gv ((xs (iN + 1))) ) [1, 2, 3, 4, 5, 6, 7, 8, 9, 10, 11, 12, 13, 14, 15, 16] [0, 17, 18, 19, 20, 21, 22, 23, 24, 25, 26, 27, 28] rfl rfl (by decide) (by decide) (by decide)) (si_L_71 ht ⟨Nat.le_of_ble_eq_true rfl, Nat.le_of_ble_eq_true rfl⟩) hx hb hml hown (va_recv hK hP (ci := 4) (q0 := 1) rfl rfl) hE hP hK hD hS hA rfl hl.1 rfl (Nat.le_of_ble_eq_true rfl) ⟨by show _ ≤ 653990; omega, by show _ ≤ 7134099; omega⟩ dL_law_383 (fun ov w' H locs hpost hP hD hS => ?_)
  obtain ⟨w1, ⟨rfl, rfl⟩, rfl⟩ := hpost
  refine W.st (st1 := [.int (f_X3_look ((xs (iN + 1))))]) rfl ?_
  have hP : va_P D vwCl (oC cJ ao fo :: (wM cI cJ cZ am fa (nI n) (nI B) (nI (S - B)) pl ja ah (nI K) bl bs bk be al tp st mx my kd ky ix iy iu iv ++ wI cI cJ cZ a n (f_X3_look_ah ((xs (iN + 1))) ah) pl ck ct (nI K) pm ja (nI n) (nI B) (nI (S - B)) tp st us fb kA tA lx ly gx gy gu gv)) H := hP
  have hD : va_D A (oC cJ ao fo :: (wM cI cJ cZ am fa (nI n) (nI B) (nI (S - B)) pl ja ah (nI K) bl bs bk be al tp st mx my kd ky ix iy iu iv ++ wI cI cJ cZ a n (f_X3_look_ah ((xs (iN + 1))) ah) pl ck ct (nI K) pm ja (nI n) (nI B) (nI (S - B)) tp st us fb kA tA lx ly gx gy gu gv)) := hD
  refine lv_aload_n hx hb dL_law_386 rfl (lv_at hl 2 rfl) ?_
  refine lv_aload_n hx hb dL_law_387 rfl (lv_at hl 4 rfl) ?_
  refine lv_iload hx hb dL_law_388 (lv_at hl 0 rfl) ?_
  refine lv_iconst (v := 1) hx hb dL_law_390 (by decide) ?_
  refine lv_iadd hx hb dL_law_391 ?_
  refine va_sld hx hb hX hbl hbA hS (in_of (sc_1 iN) (by omega) (by omega)) dL_law_392 ?_
  refine W.st (st1 := [.int (xs (iN + 1)), .ref (am 0), .int (f_X3_look ((xs (iN + 1))))]) (by rw [cl_of (sc_1 iN) (by omega)]) ?_
  refine wrV (As := [.int (xs (iN + 1))]) (rest := [.int (f_X3_look ((xs (iN + 1))))]) (WR.frame (w := (oC cJ ao fo :: (wM cI cJ cZ am fa (nI n) (nI B) (nI (S - B)) pl ja ah (nI K) bl bs bk be al tp st mx my kd ky ix iy iu iv ++ wI cI cJ cZ a n (f_X3_look_ah ((xs (iN + 1))) ah) pl ck ct (nI K) pm ja (nI n) (nI B) (nI (S - B)) tp st us fb kA tA lx ly gx gy gu gv))) (wr := (oC cJ ao fo :: wI cI cJ cZ a n (f_X3_look_ah ((xs (iN + 1))) ah) pl ck ct (nI K) pm ja (nI n) (nI B) (nI (S - B)) tp st us fb kA tA lx ly gx gy gu gv)) (k_X4_look l D cI cJ cZ am fa (nI n) (nI B) (nI (S - B)) pl ja ah (nI K) bl bs bk be al tp st mx my kd ky ix iy iu iv ((xs (iN + 1))) ) [1, 2, 3, 4, 5, 6, 7, 8, 9, 10, 11, 12] [0, 13, 14, 15, 16, 17, 18, 19, 20, 21, 22, 23, 24, 25, 26, 27, 28] rfl rfl (by decide) (by decide) (by decide)) (si_L_74 ht ⟨Nat.le_of_ble_eq_true rfl, Nat.le_of_ble_eq_true rfl⟩) hx hb hml hown (va_recv hK hP (ci := 5) (q0 := 1) rfl rfl) hE hP hK hD hS hA rfl hl.1 rfl (Nat.le_of_ble_eq_true rfl) ⟨by show _ ≤ 653990; omega, by show _ ≤ 7134099; omega⟩ dL_law_393 (fun ov w' H locs hpost hP hD hS => ?_)
  obtain ⟨w1, ⟨rfl, rfl⟩, rfl⟩ := hpost
  refine W.st (st1 := [.int (f_X4_look ((xs (iN + 1)))), .int (f_X3_look ((xs (iN + 1))))]) rfl ?_
  have hP : va_P D vwCl (oC cJ ao fo :: (wI cI cJ cZ a n (f_X3_look_ah ((xs (iN + 1))) ah) pl ck ct (nI K) pm ja (nI n) (nI B) (nI (S - B)) tp st us fb kA tA lx ly gx gy gu gv ++ wM cI cJ cZ am (f_X4_look_fa ((xs (iN + 1)))) (nI n) (nI B) (nI (S - B)) pl ja (f_X4_look_lk ((xs (iN + 1))) ah) (nI K) bl bs bk be al tp st mx my kd ky ix iy iu iv)) H := hP
  have hD : va_D A (oC cJ ao fo :: (wI cI cJ cZ a n (f_X3_look_ah ((xs (iN + 1))) ah) pl ck ct (nI K) pm ja (nI n) (nI B) (nI (S - B)) tp st us fb kA tA lx ly gx gy gu gv ++ wM cI cJ cZ am (f_X4_look_fa ((xs (iN + 1)))) (nI n) (nI B) (nI (S - B)) pl ja (f_X4_look_lk ((xs (iN + 1))) ah) (nI K) bl bs bk be al tp st mx my kd ky ix iy iu iv)) := hD
  refine lv_icmp_eq (tgt := 953) hx hb dL_law_396 (by decide) (fun _ => ?_) (fun c => absurd ea c)
  rw [e1, e2] at hP hD
  have hP : va_P D vwCl (oC cJ ao fo :: (wI cI cJ cZ a n ah1 pl ck ct (nI K) pm ja (nI n) (nI B) (nI (S - B)) tp st us fb kA tA lx ly gx gy gu gv ++ wM cI cJ cZ am (f_X4_look_fa ((xs (iN + 1)))) (nI n) (nI B) (nI (S - B)) pl ja ah1 (nI K) bl bs bk be al tp st mx my kd ky ix iy iu iv)) H := hP
  have hD : va_D A (oC cJ ao fo :: (wI cI cJ cZ a n ah1 pl ck ct (nI K) pm ja (nI n) (nI B) (nI (S - B)) tp st us fb kA tA lx ly gx gy gu gv ++ wM cI cJ cZ am (f_X4_look_fa ((xs (iN + 1)))) (nI n) (nI B) (nI (S - B)) pl ja ah1 (nI K) bl bs bk be al tp st mx my kd ky ix iy iu iv)) := hD
  refine W.widen (k := cells + 1) (n := slots + 6) (by omega) (by omega) ?_
  exact kk (oC cJ ao fo :: (wI cI cJ cZ a n ah1 pl ck ct (nI K) pm ja (nI n) (nI B) (nI (S - B)) tp st us fb kA tA lx ly gx gy gu gv ++ wM cI cJ cZ am (f_X4_look_fa ((xs (iN + 1)))) (nI n) (nI B) (nI (S - B)) pl ja ah1 (nI K) bl bs bk be al tp st mx my kd ky ix iy iu iv)) H _ ls ⟨_, _, _, _, _, _, _, _, _, _, _, _, _, _, _, _, _, _, _, _, _, _, _, _, _, _, _, _, _, _, _, _, _, _, _, _, (RE_X (by omega) hR1), rfl⟩ hP hD hS (lv_sub hl [0, 1, 2, 3, 4] rfl)
set_option maxRecDepth 20000 in
set_option maxHeartbeats 4000000 in
theorem cs_build {p : Program} {e : Env} {s : State} {m : MethodId} {below : List Frame} {meth : Method} {c : Code} (l : Launch) (hnt : ∀ e : Env, l.admits e → e.platform.stackTraces = false) {sb L : Nat} {xs : Nat → Int32} {D : va_G} {cI cJ cZ : ClassId} {A : Nat → Prop} {Q : State → Prop} (hC : LX p s m c sb L xs D cI cJ cZ A) {X : Int} (hX5 : 0 ≤ X ∧ X ≤ 60000000) {a am : Nat → Nat} {ao n iN : Nat} (hi : iN + 4 ≤ L) {w : va_W} (hw : LI X cI cJ cZ a am ao n w) {ls : Array Slot} (hl : lv_has ls 8 [(4, .int (nI iN)), (3, .ref ao), (2, .ref (am 0)), (1, .ref (a 0)), (0, .ref sb)]) {H : Heap} {locs : List Loc} (hP : va_P D vwCl w H) (hD : va_D A w) (hS : va_S A s.heap H locs) {cells slots : Nat} (hc : cells + 1 ≤ 653990) (hs : slots + 6 ≤ 7134099)
    (kk : ∀ (w' : va_W) (H' : Heap) (locs' : List Loc) (ls' : Array Slot), LI (X + 100000) cI cJ cZ a am ao n w' → va_P D vwCl w' H' → va_D A w' → va_S A s.heap H' locs' → lv_has ls' 8 [(4, .int (nI iN)), (3, .ref ao), (2, .ref (am 0)), (1, .ref (a 0)), (0, .ref sb)] → W p l e room_1 s m #[.ref sb] below meth c H' locs' (cells + 1) (slots + 6) Q (F0 m 953 ls' [])) : W p l e room_1 s m #[.ref sb] below meth c H locs cells slots Q (F0 m 414 ls []) := by
  obtain ⟨hx, hb, hml, hown, hX, hbl, hbA, hE, hK, hA, hL⟩ := hC
  have ht : tb_OK s := hE.1
  obtain ⟨B, S, K, ah, pl, ck, ct, pm, ja, tp, st, us, fb, kA, tA, lx, ly, gx, gy, gu, gv, fo, fa, bl, bs, bk, be, al, mx, my, kd, ky, ix, iy, iu, iv, hR, rfl⟩ := hw
  obtain ⟨⟨hn1, hn, hBS, hSn, hK4⟩, hah, hja, ⟨hAL, hpm⟩, hLN, hTP, hPR⟩ := id hR
  have gS := st_eq hBS
  obtain ⟨B1, e1, e2, e3, e4, ea, hR1⟩ := r_build hR (xs (iN + 1))
  refine lv_aload_n hx hb dL_law_414 rfl (lv_at hl 3 rfl) ?_
  refine lv_aload_n hx hb dL_law_415 rfl (lv_at hl 4 rfl) ?_
  refine lv_iload hx hb dL_law_416 (lv_at hl 0 rfl) ?_
  refine lv_iconst (v := 1) hx hb dL_law_418 (by decide) ?_
  refine lv_iadd hx hb dL_law_419 ?_
  refine va_sld hx hb hX hbl hbA hS (in_of (sc_1 iN) (by omega) (by omega)) dL_law_420 ?_
  refine W.st (st1 := [.int (xs (iN + 1)), .ref (a 0)]) (by rw [cl_of (sc_1 iN) (by omega)]) ?_
  refine wrV (As := [.int (xs (iN + 1))]) (rest := []) (WR.frame (w := (oC cJ ao fo :: (wI cI cJ cZ a n ah pl ck ct (nI K) pm ja (nI n) (nI B) (nI (S - B)) tp st us fb kA tA lx ly gx gy gu gv ++ wM cI cJ cZ am fa (nI n) (nI B) (nI (S - B)) pl ja ah (nI K) bl bs bk be al tp st mx my kd ky ix iy iu iv))) (wr := (oC cJ ao fo :: wM cI cJ cZ am fa (nI n) (nI B) (nI (S - B)) pl ja ah (nI K) bl bs bk be al tp st mx my kd ky ix iy iu iv)) (k_X3_build l D cI cJ cZ a n ah pl ck ct (nI K) pm ja (nI n) (nI B) (nI (S - B)) tp st us fb kA tA lx ly gx gy gu gv ((xs (iN + 1))) ) [1, 2, 3, 4, 5, 6, 7, 8, 9, 10, 11, 12, 13, 14, 15, 16] [0, 17, 18, 19, 20, 21, 22, 23, 24, 25, 26, 27, 28] rfl rfl (by decide) (by decide) (by decide)) (si_L_79 ht ⟨Nat.le_of_ble_eq_true rfl, Nat.le_of_ble_eq_true rfl⟩) hx hb hml hown (va_recv hK hP (ci := 4) (q0 := 1) rfl rfl) hE hP hK hD hS hA rfl hl.1 rfl (Nat.le_of_ble_eq_true rfl) ⟨by show _ ≤ 653990; omega, by show _ ≤ 7134099; omega⟩ dL_law_421 (fun ov w' H locs hpost hP hD hS => ?_)
  obtain ⟨w1, ⟨rfl, rfl⟩, rfl⟩ := hpost
  refine W.st (st1 := [.int (f_X3_build ((xs (iN + 1))) (nI B) (nI (S - B)))]) rfl ?_
  have hP : va_P D vwCl (oC cJ ao fo :: (wM cI cJ cZ am fa (nI n) (nI B) (nI (S - B)) pl ja ah (nI K) bl bs bk be al tp st mx my kd ky ix iy iu iv ++ wI cI cJ cZ a n ah pl ck ct (nI K) pm ja (nI n) (f_X3_build_bu ((xs (iN + 1))) (nI B) (nI (S - B))) (f_X3_build_pn ((xs (iN + 1))) (nI (S - B))) tp st us fb kA tA lx ly gx gy gu gv)) H := hP
  have hD : va_D A (oC cJ ao fo :: (wM cI cJ cZ am fa (nI n) (nI B) (nI (S - B)) pl ja ah (nI K) bl bs bk be al tp st mx my kd ky ix iy iu iv ++ wI cI cJ cZ a n ah pl ck ct (nI K) pm ja (nI n) (f_X3_build_bu ((xs (iN + 1))) (nI B) (nI (S - B))) (f_X3_build_pn ((xs (iN + 1))) (nI (S - B))) tp st us fb kA tA lx ly gx gy gu gv)) := hD
  refine lv_aload_n hx hb dL_law_424 rfl (lv_at hl 2 rfl) ?_
  refine lv_aload_n hx hb dL_law_425 rfl (lv_at hl 4 rfl) ?_
  refine lv_iload hx hb dL_law_426 (lv_at hl 0 rfl) ?_
  refine lv_iconst (v := 1) hx hb dL_law_428 (by decide) ?_
  refine lv_iadd hx hb dL_law_429 ?_
  refine va_sld hx hb hX hbl hbA hS (in_of (sc_1 iN) (by omega) (by omega)) dL_law_430 ?_
  refine W.st (st1 := [.int (xs (iN + 1)), .ref (am 0), .int (f_X3_build ((xs (iN + 1))) (nI B) (nI (S - B)))]) (by rw [cl_of (sc_1 iN) (by omega)]) ?_
  refine wrV (As := [.int (xs (iN + 1))]) (rest := [.int (f_X3_build ((xs (iN + 1))) (nI B) (nI (S - B)))]) (WR.frame (w := (oC cJ ao fo :: (wM cI cJ cZ am fa (nI n) (nI B) (nI (S - B)) pl ja ah (nI K) bl bs bk be al tp st mx my kd ky ix iy iu iv ++ wI cI cJ cZ a n ah pl ck ct (nI K) pm ja (nI n) (f_X3_build_bu ((xs (iN + 1))) (nI B) (nI (S - B))) (f_X3_build_pn ((xs (iN + 1))) (nI (S - B))) tp st us fb kA tA lx ly gx gy gu gv))) (wr := (oC cJ ao fo :: wI cI cJ cZ a n ah pl ck ct (nI K) pm ja (nI n) (f_X3_build_bu ((xs (iN + 1))) (nI B) (nI (S - B))) (f_X3_build_pn ((xs (iN + 1))) (nI (S - B))) tp st us fb kA tA lx ly gx gy gu gv)) (k_X4_build l D cI cJ cZ am fa (nI n) (nI B) (nI (S - B)) pl ja ah (nI K) bl bs bk be al tp st mx my kd ky ix iy iu iv ((xs (iN + 1))) ) [1, 2, 3, 4, 5, 6, 7, 8, 9, 10, 11, 12] [0, 13, 14, 15, 16, 17, 18, 19, 20, 21, 22, 23, 24, 25, 26, 27, 28] rfl rfl (by decide) (by decide) (by decide)) (si_L_82 ht ⟨Nat.le_of_ble_eq_true rfl, Nat.le_of_ble_eq_true rfl⟩) hx hb hml hown (va_recv hK hP (ci := 5) (q0 := 1) rfl rfl) hE hP hK hD hS hA rfl hl.1 rfl (Nat.le_of_ble_eq_true rfl) ⟨by show _ ≤ 653990; omega, by show _ ≤ 7134099; omega⟩ dL_law_431 (fun ov w' H locs hpost hP hD hS => ?_)
  obtain ⟨w1, ⟨rfl, rfl⟩, rfl⟩ := hpost
  refine W.st (st1 := [.int (f_X4_build ((xs (iN + 1))) (nI B) (nI (S - B))), .int (f_X3_build ((xs (iN + 1))) (nI B) (nI (S - B)))]) rfl ?_
  have hP : va_P D vwCl (oC cJ ao fo :: (wI cI cJ cZ a n ah pl ck ct (nI K) pm ja (nI n) (f_X3_build_bu ((xs (iN + 1))) (nI B) (nI (S - B))) (f_X3_build_pn ((xs (iN + 1))) (nI (S - B))) tp st us fb kA tA lx ly gx gy gu gv ++ wM cI cJ cZ am (f_X4_build_fa ((xs (iN + 1))) (nI (S - B))) (nI n) (f_X4_build_bu ((xs (iN + 1))) (nI B) (nI (S - B))) (f_X4_build_pn ((xs (iN + 1))) (nI (S - B))) pl ja ah (nI K) bl bs bk be al tp st mx my kd ky ix iy iu iv)) H := hP
  have hD : va_D A (oC cJ ao fo :: (wI cI cJ cZ a n ah pl ck ct (nI K) pm ja (nI n) (f_X3_build_bu ((xs (iN + 1))) (nI B) (nI (S - B))) (f_X3_build_pn ((xs (iN + 1))) (nI (S - B))) tp st us fb kA tA lx ly gx gy gu gv ++ wM cI cJ cZ am (f_X4_build_fa ((xs (iN + 1))) (nI (S - B))) (nI n) (f_X4_build_bu ((xs (iN + 1))) (nI B) (nI (S - B))) (f_X4_build_pn ((xs (iN + 1))) (nI (S - B))) pl ja ah (nI K) bl bs bk be al tp st mx my kd ky ix iy iu iv)) := hD
  refine lv_icmp_eq (tgt := 953) hx hb dL_law_434 (by decide) (fun _ => ?_) (fun c => absurd ea c)
  rw [e1, e2, e3, e4] at hP hD
  have hP : va_P D vwCl (oC cJ ao fo :: (wI cI cJ cZ a n ah pl ck ct (nI K) pm ja (nI n) (nI B1) (nI (S - B1)) tp st us fb kA tA lx ly gx gy gu gv ++ wM cI cJ cZ am (f_X4_build_fa ((xs (iN + 1))) (nI (S - B))) (nI n) (nI B1) (nI (S - B1)) pl ja ah (nI K) bl bs bk be al tp st mx my kd ky ix iy iu iv)) H := hP
  have hD : va_D A (oC cJ ao fo :: (wI cI cJ cZ a n ah pl ck ct (nI K) pm ja (nI n) (nI B1) (nI (S - B1)) tp st us fb kA tA lx ly gx gy gu gv ++ wM cI cJ cZ am (f_X4_build_fa ((xs (iN + 1))) (nI (S - B))) (nI n) (nI B1) (nI (S - B1)) pl ja ah (nI K) bl bs bk be al tp st mx my kd ky ix iy iu iv)) := hD
  refine W.widen (k := cells + 1) (n := slots + 6) (by omega) (by omega) ?_
  exact kk (oC cJ ao fo :: (wI cI cJ cZ a n ah pl ck ct (nI K) pm ja (nI n) (nI B1) (nI (S - B1)) tp st us fb kA tA lx ly gx gy gu gv ++ wM cI cJ cZ am (f_X4_build_fa ((xs (iN + 1))) (nI (S - B))) (nI n) (nI B1) (nI (S - B1)) pl ja ah (nI K) bl bs bk be al tp st mx my kd ky ix iy iu iv)) H _ ls ⟨_, _, _, _, _, _, _, _, _, _, _, _, _, _, _, _, _, _, _, _, _, _, _, _, _, _, _, _, _, _, _, _, _, _, _, _, (RE_X (by omega) hR1), rfl⟩ hP hD hS (lv_sub hl [0, 1, 2, 3, 4] rfl)
set_option maxRecDepth 20000 in
set_option maxHeartbeats 4000000 in
theorem cs_kindOf {p : Program} {e : Env} {s : State} {m : MethodId} {below : List Frame} {meth : Method} {c : Code} (l : Launch) (hnt : ∀ e : Env, l.admits e → e.platform.stackTraces = false) {sb L : Nat} {xs : Nat → Int32} {D : va_G} {cI cJ cZ : ClassId} {A : Nat → Prop} {Q : State → Prop} (hC : LX p s m c sb L xs D cI cJ cZ A) {X : Int} (hX5 : 0 ≤ X ∧ X ≤ 60000000) {a am : Nat → Nat} {ao n iN : Nat} (hi : iN + 4 ≤ L) {w : va_W} (hw : LI X cI cJ cZ a am ao n w) {ls : Array Slot} (hl : lv_has ls 8 [(4, .int (nI iN)), (3, .ref ao), (2, .ref (am 0)), (1, .ref (a 0)), (0, .ref sb)]) {H : Heap} {locs : List Loc} (hP : va_P D vwCl w H) (hD : va_D A w) (hS : va_S A s.heap H locs) {cells slots : Nat} (hc : cells + 1 ≤ 653990) (hs : slots + 6 ≤ 7134099)
    (kk : ∀ (w' : va_W) (H' : Heap) (locs' : List Loc) (ls' : Array Slot), LI (X + 100000) cI cJ cZ a am ao n w' → va_P D vwCl w' H' → va_D A w' → va_S A s.heap H' locs' → lv_has ls' 8 [(4, .int (nI iN)), (3, .ref ao), (2, .ref (am 0)), (1, .ref (a 0)), (0, .ref sb)] → W p l e room_1 s m #[.ref sb] below meth c H' locs' (cells + 1) (slots + 6) Q (F0 m 953 ls' [])) : W p l e room_1 s m #[.ref sb] below meth c H locs cells slots Q (F0 m 587 ls []) := by
  obtain ⟨hx, hb, hml, hown, hX, hbl, hbA, hE, hK, hA, hL⟩ := hC
  have ht : tb_OK s := hE.1
  obtain ⟨B, S, K, ah, pl, ck, ct, pm, ja, tp, st, us, fb, kA, tA, lx, ly, gx, gy, gu, gv, fo, fa, bl, bs, bk, be, al, mx, my, kd, ky, ix, iy, iu, iv, hR, rfl⟩ := hw
  obtain ⟨⟨hn1, hn, hBS, hSn, hK4⟩, hah, hja, ⟨hAL, hpm⟩, hLN, hTP, hPR⟩ := id hR
  have gS := st_eq hBS
  have ea := r_kindOf hR (xs (iN + 1))
  refine lv_aload_n hx hb dL_law_587 rfl (lv_at hl 3 rfl) ?_
  refine lv_aload_n hx hb dL_law_588 rfl (lv_at hl 4 rfl) ?_
  refine lv_iload hx hb dL_law_589 (lv_at hl 0 rfl) ?_
  refine lv_iconst (v := 1) hx hb dL_law_591 (by decide) ?_
  refine lv_iadd hx hb dL_law_592 ?_
  refine va_sld hx hb hX hbl hbA hS (in_of (sc_1 iN) (by omega) (by omega)) dL_law_593 ?_
  refine W.st (st1 := [.int (xs (iN + 1)), .ref (a 0)]) (by rw [cl_of (sc_1 iN) (by omega)]) ?_
  refine rdV (As := [.int (xs (iN + 1))]) (rest := []) (st1 := [.int (f_X3_kindOf ((xs (iN + 1))) (nI B) (nI (S - B)) kA)]) (RD.frame (w := (oC cJ ao fo :: (wI cI cJ cZ a n ah pl ck ct (nI K) pm ja (nI n) (nI B) (nI (S - B)) tp st us fb kA tA lx ly gx gy gu gv ++ wM cI cJ cZ am fa (nI n) (nI B) (nI (S - B)) pl ja ah (nI K) bl bs bk be al tp st mx my kd ky ix iy iu iv))) (k_X3_kindOf l D cI cJ cZ a n ah pl ck ct (nI K) pm ja (nI n) (nI B) (nI (S - B)) tp st us fb kA tA lx ly gx gy gu gv ((xs (iN + 1))) (fun h => (q_st hBS hSn hn h).1)) [1, 2, 3, 4, 5, 6, 7, 8, 9, 10, 11, 12, 13, 14, 15, 16] rfl) (si_L_90 ht ⟨Nat.le_of_ble_eq_true rfl, Nat.le_of_ble_eq_true rfl⟩) hx hb hml hown (va_recv hK hP (ci := 4) (q0 := 1) rfl rfl) (hE.since hS) hP hK rfl hl.1 rfl (Nat.le_of_ble_eq_true rfl) ⟨by show _ ≤ 653990; omega, by show _ ≤ 7134099; omega⟩ dL_law_594 rfl ?_
  refine lv_aload_n hx hb dL_law_597 rfl (lv_at hl 2 rfl) ?_
  refine lv_aload_n hx hb dL_law_598 rfl (lv_at hl 4 rfl) ?_
  refine lv_iload hx hb dL_law_599 (lv_at hl 0 rfl) ?_
  refine lv_iconst (v := 1) hx hb dL_law_601 (by decide) ?_
  refine lv_iadd hx hb dL_law_602 ?_
  refine va_sld hx hb hX hbl hbA hS (in_of (sc_1 iN) (by omega) (by omega)) dL_law_603 ?_
  refine W.st (st1 := [.int (xs (iN + 1)), .ref (am 0), .int (f_X3_kindOf ((xs (iN + 1))) (nI B) (nI (S - B)) kA)]) (by rw [cl_of (sc_1 iN) (by omega)]) ?_
  refine wrV (As := [.int (xs (iN + 1))]) (rest := [.int (f_X3_kindOf ((xs (iN + 1))) (nI B) (nI (S - B)) kA)]) (WR.frame (w := (oC cJ ao fo :: (wI cI cJ cZ a n ah pl ck ct (nI K) pm ja (nI n) (nI B) (nI (S - B)) tp st us fb kA tA lx ly gx gy gu gv ++ wM cI cJ cZ am fa (nI n) (nI B) (nI (S - B)) pl ja ah (nI K) bl bs bk be al tp st mx my kd ky ix iy iu iv))) (wr := (oC cJ ao fo :: wI cI cJ cZ a n ah pl ck ct (nI K) pm ja (nI n) (nI B) (nI (S - B)) tp st us fb kA tA lx ly gx gy gu gv)) (k_X4_kindOf l D cI cJ cZ am fa (nI n) (nI B) (nI (S - B)) pl ja ah (nI K) bl bs bk be al tp st mx my kd ky ix iy iu iv ((xs (iN + 1))) (fun h => (q_st hBS hSn hn h).2.1)) [17, 18, 19, 20, 21, 22, 23, 24, 25, 26, 27, 28] [0, 1, 2, 3, 4, 5, 6, 7, 8, 9, 10, 11, 12, 13, 14, 15, 16] rfl rfl (by decide) (by decide) (by decide)) (si_L_93 ht ⟨Nat.le_of_ble_eq_true rfl, Nat.le_of_ble_eq_true rfl⟩) hx hb hml hown (va_recv hK hP (ci := 5) (q0 := 17) rfl rfl) hE hP hK hD hS hA rfl hl.1 rfl (Nat.le_of_ble_eq_true rfl) ⟨by show _ ≤ 653990; omega, by show _ ≤ 7134099; omega⟩ dL_law_604 (fun ov w' H locs hpost hP hD hS => ?_)
  obtain ⟨w1, ⟨rfl, rfl⟩, rfl⟩ := hpost
  refine W.st (st1 := [.int (f_X4_kindOf ((xs (iN + 1))) (nI B) (nI (S - B)) kd), .int (f_X3_kindOf ((xs (iN + 1))) (nI B) (nI (S - B)) kA)]) rfl ?_
  have hP : va_P D vwCl (oC cJ ao fo :: (wI cI cJ cZ a n ah pl ck ct (nI K) pm ja (nI n) (nI B) (nI (S - B)) tp st us fb kA tA lx ly gx gy gu gv ++ wM cI cJ cZ am (f_X4_kindOf_fa ((xs (iN + 1))) (nI B) (nI (S - B))) (nI n) (nI B) (nI (S - B)) pl ja ah (nI K) bl bs bk be al tp st mx my kd ky ix iy iu iv)) H := hP
  have hD : va_D A (oC cJ ao fo :: (wI cI cJ cZ a n ah pl ck ct (nI K) pm ja (nI n) (nI B) (nI (S - B)) tp st us fb kA tA lx ly gx gy gu gv ++ wM cI cJ cZ am (f_X4_kindOf_fa ((xs (iN + 1))) (nI B) (nI (S - B))) (nI n) (nI B) (nI (S - B)) pl ja ah (nI K) bl bs bk be al tp st mx my kd ky ix iy iu iv)) := hD
  refine lv_icmp_eq (tgt := 953) hx hb dL_law_607 (by decide) (fun _ => ?_) (fun c => absurd ea c)
  have hP : va_P D vwCl (oC cJ ao fo :: (wI cI cJ cZ a n ah pl ck ct (nI K) pm ja (nI n) (nI B) (nI (S - B)) tp st us fb kA tA lx ly gx gy gu gv ++ wM cI cJ cZ am (f_X4_kindOf_fa ((xs (iN + 1))) (nI B) (nI (S - B))) (nI n) (nI B) (nI (S - B)) pl ja ah (nI K) bl bs bk be al tp st mx my kd ky ix iy iu iv)) H := hP
  have hD : va_D A (oC cJ ao fo :: (wI cI cJ cZ a n ah pl ck ct (nI K) pm ja (nI n) (nI B) (nI (S - B)) tp st us fb kA tA lx ly gx gy gu gv ++ wM cI cJ cZ am (f_X4_kindOf_fa ((xs (iN + 1))) (nI B) (nI (S - B))) (nI n) (nI B) (nI (S - B)) pl ja ah (nI K) bl bs bk be al tp st mx my kd ky ix iy iu iv)) := hD
  refine W.widen (k := cells + 1) (n := slots + 6) (by omega) (by omega) ?_
  exact kk (oC cJ ao fo :: (wI cI cJ cZ a n ah pl ck ct (nI K) pm ja (nI n) (nI B) (nI (S - B)) tp st us fb kA tA lx ly gx gy gu gv ++ wM cI cJ cZ am (f_X4_kindOf_fa ((xs (iN + 1))) (nI B) (nI (S - B))) (nI n) (nI B) (nI (S - B)) pl ja ah (nI K) bl bs bk be al tp st mx my kd ky ix iy iu iv)) H _ ls ⟨_, _, _, _, _, _, _, _, _, _, _, _, _, _, _, _, _, _, _, _, _, _, _, _, _, _, _, _, _, _, _, _, _, _, _, _, (RE_X (by omega) hR), rfl⟩ hP hD hS (lv_sub hl [0, 1, 2, 3, 4] rfl)
set_option maxRecDepth 20000 in
set_option maxHeartbeats 4000000 in
theorem cs_turnOf {p : Program} {e : Env} {s : State} {m : MethodId} {below : List Frame} {meth : Method} {c : Code} (l : Launch) (hnt : ∀ e : Env, l.admits e → e.platform.stackTraces = false) {sb L : Nat} {xs : Nat → Int32} {D : va_G} {cI cJ cZ : ClassId} {A : Nat → Prop} {Q : State → Prop} (hC : LX p s m c sb L xs D cI cJ cZ A) {X : Int} (hX5 : 0 ≤ X ∧ X ≤ 60000000) {a am : Nat → Nat} {ao n iN : Nat} (hi : iN + 4 ≤ L) {w : va_W} (hw : LI X cI cJ cZ a am ao n w) {ls : Array Slot} (hl : lv_has ls 8 [(4, .int (nI iN)), (3, .ref ao), (2, .ref (am 0)), (1, .ref (a 0)), (0, .ref sb)]) {H : Heap} {locs : List Loc} (hP : va_P D vwCl w H) (hD : va_D A w) (hS : va_S A s.heap H locs) {cells slots : Nat} (hc : cells + 1 ≤ 653990) (hs : slots + 6 ≤ 7134099)
    (kk : ∀ (w' : va_W) (H' : Heap) (locs' : List Loc) (ls' : Array Slot), LI (X + 100000) cI cJ cZ a am ao n w' → va_P D vwCl w' H' → va_D A w' → va_S A s.heap H' locs' → lv_has ls' 8 [(4, .int (nI iN)), (3, .ref ao), (2, .ref (am 0)), (1, .ref (a 0)), (0, .ref sb)] → W p l e room_1 s m #[.ref sb] below meth c H' locs' (cells + 1) (slots + 6) Q (F0 m 953 ls' [])) : W p l e room_1 s m #[.ref sb] below meth c H locs cells slots Q (F0 m 612 ls []) := by
  obtain ⟨hx, hb, hml, hown, hX, hbl, hbA, hE, hK, hA, hL⟩ := hC
  have ht : tb_OK s := hE.1
  obtain ⟨B, S, K, ah, pl, ck, ct, pm, ja, tp, st, us, fb, kA, tA, lx, ly, gx, gy, gu, gv, fo, fa, bl, bs, bk, be, al, mx, my, kd, ky, ix, iy, iu, iv, hR, rfl⟩ := hw
  obtain ⟨⟨hn1, hn, hBS, hSn, hK4⟩, hah, hja, ⟨hAL, hpm⟩, hLN, hTP, hPR⟩ := id hR
  have gS := st_eq hBS
  have ea := r_turnOf hR (xs (iN + 1))
  refine lv_aload_n hx hb dL_law_612 rfl (lv_at hl 3 rfl) ?_
  refine lv_aload_n hx hb dL_law_613 rfl (lv_at hl 4 rfl) ?_
  refine lv_iload hx hb dL_law_614 (lv_at hl 0 rfl) ?_
  refine lv_iconst (v := 1) hx hb dL_law_616 (by decide) ?_
  refine lv_iadd hx hb dL_law_617 ?_
  refine va_sld hx hb hX hbl hbA hS (in_of (sc_1 iN) (by omega) (by omega)) dL_law_618 ?_
  refine W.st (st1 := [.int (xs (iN + 1)), .ref (a 0)]) (by rw [cl_of (sc_1 iN) (by omega)]) ?_
  refine rdV (As := [.int (xs (iN + 1))]) (rest := []) (st1 := [.int (f_X3_turnOf ((xs (iN + 1))) (nI B) (nI (S - B)) tA)]) (RD.frame (w := (oC cJ ao fo :: (wI cI cJ cZ a n ah pl ck ct (nI K) pm ja (nI n) (nI B) (nI (S - B)) tp st us fb kA tA lx ly gx gy gu gv ++ wM cI cJ cZ am fa (nI n) (nI B) (nI (S - B)) pl ja ah (nI K) bl bs bk be al tp st mx my kd ky ix iy iu iv))) (k_X3_turnOf l D cI cJ cZ a n ah pl ck ct (nI K) pm ja (nI n) (nI B) (nI (S - B)) tp st us fb kA tA lx ly gx gy gu gv ((xs (iN + 1))) (fun h => (q_st hBS hSn hn h).1)) [1, 2, 3, 4, 5, 6, 7, 8, 9, 10, 11, 12, 13, 14, 15, 16] rfl) (si_L_94 ht ⟨Nat.le_of_ble_eq_true rfl, Nat.le_of_ble_eq_true rfl⟩) hx hb hml hown (va_recv hK hP (ci := 4) (q0 := 1) rfl rfl) (hE.since hS) hP hK rfl hl.1 rfl (Nat.le_of_ble_eq_true rfl) ⟨by show _ ≤ 653990; omega, by show _ ≤ 7134099; omega⟩ dL_law_619 rfl ?_
  refine lv_aload_n hx hb dL_law_622 rfl (lv_at hl 2 rfl) ?_
  refine lv_aload_n hx hb dL_law_623 rfl (lv_at hl 4 rfl) ?_
  refine lv_iload hx hb dL_law_624 (lv_at hl 0 rfl) ?_
  refine lv_iconst (v := 1) hx hb dL_law_626 (by decide) ?_
  refine lv_iadd hx hb dL_law_627 ?_
  refine va_sld hx hb hX hbl hbA hS (in_of (sc_1 iN) (by omega) (by omega)) dL_law_628 ?_
  refine W.st (st1 := [.int (xs (iN + 1)), .ref (am 0), .int (f_X3_turnOf ((xs (iN + 1))) (nI B) (nI (S - B)) tA)]) (by rw [cl_of (sc_1 iN) (by omega)]) ?_
  refine wrV (As := [.int (xs (iN + 1))]) (rest := [.int (f_X3_turnOf ((xs (iN + 1))) (nI B) (nI (S - B)) tA)]) (WR.frame (w := (oC cJ ao fo :: (wI cI cJ cZ a n ah pl ck ct (nI K) pm ja (nI n) (nI B) (nI (S - B)) tp st us fb kA tA lx ly gx gy gu gv ++ wM cI cJ cZ am fa (nI n) (nI B) (nI (S - B)) pl ja ah (nI K) bl bs bk be al tp st mx my kd ky ix iy iu iv))) (wr := (oC cJ ao fo :: wI cI cJ cZ a n ah pl ck ct (nI K) pm ja (nI n) (nI B) (nI (S - B)) tp st us fb kA tA lx ly gx gy gu gv)) (k_X4_turnOf l D cI cJ cZ am fa (nI n) (nI B) (nI (S - B)) pl ja ah (nI K) bl bs bk be al tp st mx my kd ky ix iy iu iv ((xs (iN + 1))) (fun h => (q_st hBS hSn hn h).2.1)) [17, 18, 19, 20, 21, 22, 23, 24, 25, 26, 27, 28] [0, 1, 2, 3, 4, 5, 6, 7, 8, 9, 10, 11, 12, 13, 14, 15, 16] rfl rfl (by decide) (by decide) (by decide)) (si_L_97 ht ⟨Nat.le_of_ble_eq_true rfl, Nat.le_of_ble_eq_true rfl⟩) hx hb hml hown (va_recv hK hP (ci := 5) (q0 := 17) rfl rfl) hE hP hK hD hS hA rfl hl.1 rfl (Nat.le_of_ble_eq_true rfl) ⟨by show _ ≤ 653990; omega, by show _ ≤ 7134099; omega⟩ dL_law_629 (fun ov w' H locs hpost hP hD hS => ?_)
  obtain ⟨w1, ⟨rfl, rfl⟩, rfl⟩ := hpost
  refine W.st (st1 := [.int (f_X4_turnOf ((xs (iN + 1))) (nI B) (nI (S - B)) ky), .int (f_X3_turnOf ((xs (iN + 1))) (nI B) (nI (S - B)) tA)]) rfl ?_
  have hP : va_P D vwCl (oC cJ ao fo :: (wI cI cJ cZ a n ah pl ck ct (nI K) pm ja (nI n) (nI B) (nI (S - B)) tp st us fb kA tA lx ly gx gy gu gv ++ wM cI cJ cZ am (f_X4_turnOf_fa ((xs (iN + 1))) (nI B) (nI (S - B))) (nI n) (nI B) (nI (S - B)) pl ja ah (nI K) bl bs bk be al tp st mx my kd ky ix iy iu iv)) H := hP
  have hD : va_D A (oC cJ ao fo :: (wI cI cJ cZ a n ah pl ck ct (nI K) pm ja (nI n) (nI B) (nI (S - B)) tp st us fb kA tA lx ly gx gy gu gv ++ wM cI cJ cZ am (f_X4_turnOf_fa ((xs (iN + 1))) (nI B) (nI (S - B))) (nI n) (nI B) (nI (S - B)) pl ja ah (nI K) bl bs bk be al tp st mx my kd ky ix iy iu iv)) := hD
  refine lv_icmp_eq (tgt := 953) hx hb dL_law_632 (by decide) (fun _ => ?_) (fun c => absurd ea c)
  have hP : va_P D vwCl (oC cJ ao fo :: (wI cI cJ cZ a n ah pl ck ct (nI K) pm ja (nI n) (nI B) (nI (S - B)) tp st us fb kA tA lx ly gx gy gu gv ++ wM cI cJ cZ am (f_X4_turnOf_fa ((xs (iN + 1))) (nI B) (nI (S - B))) (nI n) (nI B) (nI (S - B)) pl ja ah (nI K) bl bs bk be al tp st mx my kd ky ix iy iu iv)) H := hP
  have hD : va_D A (oC cJ ao fo :: (wI cI cJ cZ a n ah pl ck ct (nI K) pm ja (nI n) (nI B) (nI (S - B)) tp st us fb kA tA lx ly gx gy gu gv ++ wM cI cJ cZ am (f_X4_turnOf_fa ((xs (iN + 1))) (nI B) (nI (S - B))) (nI n) (nI B) (nI (S - B)) pl ja ah (nI K) bl bs bk be al tp st mx my kd ky ix iy iu iv)) := hD
  refine W.widen (k := cells + 1) (n := slots + 6) (by omega) (by omega) ?_
  exact kk (oC cJ ao fo :: (wI cI cJ cZ a n ah pl ck ct (nI K) pm ja (nI n) (nI B) (nI (S - B)) tp st us fb kA tA lx ly gx gy gu gv ++ wM cI cJ cZ am (f_X4_turnOf_fa ((xs (iN + 1))) (nI B) (nI (S - B))) (nI n) (nI B) (nI (S - B)) pl ja ah (nI K) bl bs bk be al tp st mx my kd ky ix iy iu iv)) H _ ls ⟨_, _, _, _, _, _, _, _, _, _, _, _, _, _, _, _, _, _, _, _, _, _, _, _, _, _, _, _, _, _, _, _, _, _, _, _, (RE_X (by omega) hR), rfl⟩ hP hD hS (lv_sub hl [0, 1, 2, 3, 4] rfl)
set_option maxRecDepth 20000 in
set_option maxHeartbeats 4000000 in
theorem cs_state {p : Program} {e : Env} {s : State} {m : MethodId} {below : List Frame} {meth : Method} {c : Code} (l : Launch) (hnt : ∀ e : Env, l.admits e → e.platform.stackTraces = false) {sb L : Nat} {xs : Nat → Int32} {D : va_G} {cI cJ cZ : ClassId} {A : Nat → Prop} {Q : State → Prop} (hC : LX p s m c sb L xs D cI cJ cZ A) {X : Int} (hX5 : 0 ≤ X ∧ X ≤ 60000000) {a am : Nat → Nat} {ao n iN : Nat} (hi : iN + 4 ≤ L) {w : va_W} (hw : LI X cI cJ cZ a am ao n w) {ls : Array Slot} (hl : lv_has ls 8 [(4, .int (nI iN)), (3, .ref ao), (2, .ref (am 0)), (1, .ref (a 0)), (0, .ref sb)]) {H : Heap} {locs : List Loc} (hP : va_P D vwCl w H) (hD : va_D A w) (hS : va_S A s.heap H locs) {cells slots : Nat} (hc : cells + 1 ≤ 653990) (hs : slots + 6 ≤ 7134099)
    (kk : ∀ (w' : va_W) (H' : Heap) (locs' : List Loc) (ls' : Array Slot), LI (X + 100000) cI cJ cZ a am ao n w' → va_P D vwCl w' H' → va_D A w' → va_S A s.heap H' locs' → lv_has ls' 8 [(4, .int (nI iN)), (3, .ref ao), (2, .ref (am 0)), (1, .ref (a 0)), (0, .ref sb)] → W p l e room_1 s m #[.ref sb] below meth c H' locs' (cells + 1) (slots + 6) Q (F0 m 953 ls' [])) : W p l e room_1 s m #[.ref sb] below meth c H locs cells slots Q (F0 m 637 ls []) := by
  obtain ⟨hx, hb, hml, hown, hX, hbl, hbA, hE, hK, hA, hL⟩ := hC
  have ht : tb_OK s := hE.1
  obtain ⟨B, S, K, ah, pl, ck, ct, pm, ja, tp, st, us, fb, kA, tA, lx, ly, gx, gy, gu, gv, fo, fa, bl, bs, bk, be, al, mx, my, kd, ky, ix, iy, iu, iv, hR, rfl⟩ := hw
  obtain ⟨⟨hn1, hn, hBS, hSn, hK4⟩, hah, hja, ⟨hAL, hpm⟩, hLN, hTP, hPR⟩ := id hR
  have gS := st_eq hBS
  have ea := r_state (xs (iN + 1)) (nI n) (nI B) (nI (S - B))
  refine lv_aload_n hx hb dL_law_637 rfl (lv_at hl 3 rfl) ?_
  refine lv_aload_n hx hb dL_law_638 rfl (lv_at hl 4 rfl) ?_
  refine lv_iload hx hb dL_law_639 (lv_at hl 0 rfl) ?_
  refine lv_iconst (v := 1) hx hb dL_law_641 (by decide) ?_
  refine lv_iadd hx hb dL_law_642 ?_
  refine va_sld hx hb hX hbl hbA hS (in_of (sc_1 iN) (by omega) (by omega)) dL_law_643 ?_
  refine W.st (st1 := [.int (xs (iN + 1)), .ref (a 0)]) (by rw [cl_of (sc_1 iN) (by omega)]) ?_
  refine rdV (As := [.int (xs (iN + 1))]) (rest := []) (st1 := [.int (f_X3_state ((xs (iN + 1))) (nI n) (nI B) (nI (S - B)))]) (RD.frame (w := (oC cJ ao fo :: (wI cI cJ cZ a n ah pl ck ct (nI K) pm ja (nI n) (nI B) (nI (S - B)) tp st us fb kA tA lx ly gx gy gu gv ++ wM cI cJ cZ am fa (nI n) (nI B) (nI (S - B)) pl ja ah (nI K) bl bs bk be al tp st mx my kd ky ix iy iu iv))) (k_X3_state l D cI cJ cZ a n ah pl ck ct (nI K) pm ja (nI n) (nI B) (nI (S - B)) tp st us fb kA tA lx ly gx gy gu gv ((xs (iN + 1))) ) [1, 2, 3, 4, 5, 6, 7, 8, 9, 10, 11, 12, 13, 14, 15, 16] rfl) (si_L_98 ht ⟨Nat.le_of_ble_eq_true rfl, Nat.le_of_ble_eq_true rfl⟩) hx hb hml hown (va_recv hK hP (ci := 4) (q0 := 1) rfl rfl) (hE.since hS) hP hK rfl hl.1 rfl (Nat.le_of_ble_eq_true rfl) ⟨by show _ ≤ 653990; omega, by show _ ≤ 7134099; omega⟩ dL_law_644 rfl ?_
  refine lv_aload_n hx hb dL_law_647 rfl (lv_at hl 2 rfl) ?_
  refine lv_aload_n hx hb dL_law_648 rfl (lv_at hl 4 rfl) ?_
  refine lv_iload hx hb dL_law_649 (lv_at hl 0 rfl) ?_
  refine lv_iconst (v := 1) hx hb dL_law_651 (by decide) ?_
  refine lv_iadd hx hb dL_law_652 ?_
  refine va_sld hx hb hX hbl hbA hS (in_of (sc_1 iN) (by omega) (by omega)) dL_law_653 ?_
  refine W.st (st1 := [.int (xs (iN + 1)), .ref (am 0), .int (f_X3_state ((xs (iN + 1))) (nI n) (nI B) (nI (S - B)))]) (by rw [cl_of (sc_1 iN) (by omega)]) ?_
  refine wrV (As := [.int (xs (iN + 1))]) (rest := [.int (f_X3_state ((xs (iN + 1))) (nI n) (nI B) (nI (S - B)))]) (WR.frame (w := (oC cJ ao fo :: (wI cI cJ cZ a n ah pl ck ct (nI K) pm ja (nI n) (nI B) (nI (S - B)) tp st us fb kA tA lx ly gx gy gu gv ++ wM cI cJ cZ am fa (nI n) (nI B) (nI (S - B)) pl ja ah (nI K) bl bs bk be al tp st mx my kd ky ix iy iu iv))) (wr := (oC cJ ao fo :: wI cI cJ cZ a n ah pl ck ct (nI K) pm ja (nI n) (nI B) (nI (S - B)) tp st us fb kA tA lx ly gx gy gu gv)) (k_X4_state l D cI cJ cZ am fa (nI n) (nI B) (nI (S - B)) pl ja ah (nI K) bl bs bk be al tp st mx my kd ky ix iy iu iv ((xs (iN + 1))) ) [17, 18, 19, 20, 21, 22, 23, 24, 25, 26, 27, 28] [0, 1, 2, 3, 4, 5, 6, 7, 8, 9, 10, 11, 12, 13, 14, 15, 16] rfl rfl (by decide) (by decide) (by decide)) (si_L_101 ht ⟨Nat.le_of_ble_eq_true rfl, Nat.le_of_ble_eq_true rfl⟩) hx hb hml hown (va_recv hK hP (ci := 5) (q0 := 17) rfl rfl) hE hP hK hD hS hA rfl hl.1 rfl (Nat.le_of_ble_eq_true rfl) ⟨by show _ ≤ 653990; omega, by show _ ≤ 7134099; omega⟩ dL_law_654 (fun ov w' H locs hpost hP hD hS => ?_)
  obtain ⟨w1, ⟨rfl, rfl⟩, rfl⟩ := hpost
  refine W.st (st1 := [.int (f_X4_state ((xs (iN + 1))) (nI n) (nI B) (nI (S - B))), .int (f_X3_state ((xs (iN + 1))) (nI n) (nI B) (nI (S - B)))]) rfl ?_
  have hP : va_P D vwCl (oC cJ ao fo :: (wI cI cJ cZ a n ah pl ck ct (nI K) pm ja (nI n) (nI B) (nI (S - B)) tp st us fb kA tA lx ly gx gy gu gv ++ wM cI cJ cZ am (f_X4_state_fa ((xs (iN + 1))) (nI n) (nI B) (nI (S - B))) (nI n) (nI B) (nI (S - B)) pl ja ah (nI K) bl bs bk be al tp st mx my kd ky ix iy iu iv)) H := hP
  have hD : va_D A (oC cJ ao fo :: (wI cI cJ cZ a n ah pl ck ct (nI K) pm ja (nI n) (nI B) (nI (S - B)) tp st us fb kA tA lx ly gx gy gu gv ++ wM cI cJ cZ am (f_X4_state_fa ((xs (iN + 1))) (nI n) (nI B) (nI (S - B))) (nI n) (nI B) (nI (S - B)) pl ja ah (nI K) bl bs bk be al tp st mx my kd ky ix iy iu iv)) := hD
  refine lv_icmp_eq (tgt := 953) hx hb dL_law_657 (by decide) (fun _ => ?_) (fun c => absurd ea c)
  have hP : va_P D vwCl (oC cJ ao fo :: (wI cI cJ cZ a n ah pl ck ct (nI K) pm ja (nI n) (nI B) (nI (S - B)) tp st us fb kA tA lx ly gx gy gu gv ++ wM cI cJ cZ am (f_X4_state_fa ((xs (iN + 1))) (nI n) (nI B) (nI (S - B))) (nI n) (nI B) (nI (S - B)) pl ja ah (nI K) bl bs bk be al tp st mx my kd ky ix iy iu iv)) H := hP
  have hD : va_D A (oC cJ ao fo :: (wI cI cJ cZ a n ah pl ck ct (nI K) pm ja (nI n) (nI B) (nI (S - B)) tp st us fb kA tA lx ly gx gy gu gv ++ wM cI cJ cZ am (f_X4_state_fa ((xs (iN + 1))) (nI n) (nI B) (nI (S - B))) (nI n) (nI B) (nI (S - B)) pl ja ah (nI K) bl bs bk be al tp st mx my kd ky ix iy iu iv)) := hD
  refine W.widen (k := cells + 1) (n := slots + 6) (by omega) (by omega) ?_
  exact kk (oC cJ ao fo :: (wI cI cJ cZ a n ah pl ck ct (nI K) pm ja (nI n) (nI B) (nI (S - B)) tp st us fb kA tA lx ly gx gy gu gv ++ wM cI cJ cZ am (f_X4_state_fa ((xs (iN + 1))) (nI n) (nI B) (nI (S - B))) (nI n) (nI B) (nI (S - B)) pl ja ah (nI K) bl bs bk be al tp st mx my kd ky ix iy iu iv)) H _ ls ⟨_, _, _, _, _, _, _, _, _, _, _, _, _, _, _, _, _, _, _, _, _, _, _, _, _, _, _, _, _, _, _, _, _, _, _, _, (RE_X (by omega) hR), rfl⟩ hP hD hS (lv_sub hl [0, 1, 2, 3, 4] rfl)
set_option maxRecDepth 20000 in
set_option maxHeartbeats 4000000 in
theorem cs_sum {p : Program} {e : Env} {s : State} {m : MethodId} {below : List Frame} {meth : Method} {c : Code} (l : Launch) (hnt : ∀ e : Env, l.admits e → e.platform.stackTraces = false) {sb L : Nat} {xs : Nat → Int32} {D : va_G} {cI cJ cZ : ClassId} {A : Nat → Prop} {Q : State → Prop} (hC : LX p s m c sb L xs D cI cJ cZ A) {X : Int} (hX5 : 0 ≤ X ∧ X ≤ 60000000) {a am : Nat → Nat} {ao n iN : Nat} (hi : iN + 4 ≤ L) {w : va_W} (hw : LI X cI cJ cZ a am ao n w) {ls : Array Slot} (hl : lv_has ls 8 [(4, .int (nI iN)), (3, .ref ao), (2, .ref (am 0)), (1, .ref (a 0)), (0, .ref sb)]) {H : Heap} {locs : List Loc} (hP : va_P D vwCl w H) (hD : va_D A w) (hS : va_S A s.heap H locs) {cells slots : Nat} (hc : cells + 1 ≤ 653990) (hs : slots + 6 ≤ 7134099)
    (kk : ∀ (w' : va_W) (H' : Heap) (locs' : List Loc) (ls' : Array Slot), LI (X + 100000) cI cJ cZ a am ao n w' → va_P D vwCl w' H' → va_D A w' → va_S A s.heap H' locs' → lv_has ls' 8 [(4, .int (nI iN)), (3, .ref ao), (2, .ref (am 0)), (1, .ref (a 0)), (0, .ref sb)] → W p l e room_1 s m #[.ref sb] below meth c H' locs' (cells + 1) (slots + 6) Q (F0 m 953 ls' [])) : W p l e room_1 s m #[.ref sb] below meth c H locs cells slots Q (F0 m 784 ls []) := by
  obtain ⟨hx, hb, hml, hown, hX, hbl, hbA, hE, hK, hA, hL⟩ := hC
  have ht : tb_OK s := hE.1
  obtain ⟨B, S, K, ah, pl, ck, ct, pm, ja, tp, st, us, fb, kA, tA, lx, ly, gx, gy, gu, gv, fo, fa, bl, bs, bk, be, al, mx, my, kd, ky, ix, iy, iu, iv, hR, rfl⟩ := hw
  obtain ⟨⟨hn1, hn, hBS, hSn, hK4⟩, hah, hja, ⟨hAL, hpm⟩, hLN, hTP, hPR⟩ := id hR
  have gS := st_eq hBS
  have ea := r_sum hR
  refine lv_aload_n hx hb dL_law_784 rfl (lv_at hl 3 rfl) ?_
  refine rdV (As := []) (rest := []) (st1 := [.long (sumF (fun j => f_X2_offAt (nI j) lx ly gx gy) S)]) (RD.frame (w := (oC cJ ao fo :: (wI cI cJ cZ a n ah pl ck ct (nI K) pm ja (nI n) (nI B) (nI (S - B)) tp st us fb kA tA lx ly gx gy gu gv ++ wM cI cJ cZ am fa (nI n) (nI B) (nI (S - B)) pl ja ah (nI K) bl bs bk be al tp st mx my kd ky ix iy iu iv))) (k_X3_sum l D cI cJ cZ a n ah pl ck ct (nI K) pm ja (nI n) (nI B) (nI (S - B)) tp st us fb kA tA lx ly gx gy gu gv  S gS hSn hn) [1, 2, 3, 4, 5, 6, 7, 8, 9, 10, 11, 12, 13, 14, 15, 16] rfl) (si_L_109 ht ⟨Nat.le_of_ble_eq_true rfl, Nat.le_of_ble_eq_true rfl⟩) hx hb hml hown (va_recv hK hP (ci := 4) (q0 := 1) rfl rfl) (hE.since hS) hP hK rfl hl.1 rfl (Nat.le_of_ble_eq_true rfl) ⟨by show _ ≤ 653990; omega, by show _ ≤ 7134099; omega⟩ dL_law_785 rfl ?_
  refine lv_aload_n hx hb dL_law_788 rfl (lv_at hl 2 rfl) ?_
  refine wrV (As := []) (rest := [.long (sumF (fun j => f_X2_offAt (nI j) lx ly gx gy) S)]) (WR.frame (w := (oC cJ ao fo :: (wI cI cJ cZ a n ah pl ck ct (nI K) pm ja (nI n) (nI B) (nI (S - B)) tp st us fb kA tA lx ly gx gy gu gv ++ wM cI cJ cZ am fa (nI n) (nI B) (nI (S - B)) pl ja ah (nI K) bl bs bk be al tp st mx my kd ky ix iy iu iv))) (wr := (oC cJ ao fo :: wI cI cJ cZ a n ah pl ck ct (nI K) pm ja (nI n) (nI B) (nI (S - B)) tp st us fb kA tA lx ly gx gy gu gv)) (k_X4_sum l D cI cJ cZ am fa (nI n) (nI B) (nI (S - B)) pl ja ah (nI K) bl bs bk be al tp st mx my kd ky ix iy iu iv  S gS (by omega)) [17, 18, 19, 20, 21, 22, 23, 24, 25, 26, 27, 28] [0, 1, 2, 3, 4, 5, 6, 7, 8, 9, 10, 11, 12, 13, 14, 15, 16] rfl rfl (by decide) (by decide) (by decide)) (si_L_113 ht ⟨Nat.le_of_ble_eq_true rfl, Nat.le_of_ble_eq_true rfl⟩) hx hb hml hown (va_recv hK hP (ci := 5) (q0 := 17) rfl rfl) hE hP hK hD hS hA rfl hl.1 rfl (Nat.le_of_ble_eq_true rfl) ⟨by show _ ≤ 653990; omega, by show _ ≤ 7134099; omega⟩ dL_law_789 (fun ov w' H locs hpost hP hD hS => ?_)
  obtain ⟨w1, ⟨rfl, rfl⟩, rfl⟩ := hpost
  refine W.st (st1 := [.long (f_X4_sum S mx my ix iy), .long (sumF (fun j => f_X2_offAt (nI j) lx ly gx gy) S)]) rfl ?_
  have hP : va_P D vwCl (oC cJ ao fo :: (wI cI cJ cZ a n ah pl ck ct (nI K) pm ja (nI n) (nI B) (nI (S - B)) tp st us fb kA tA lx ly gx gy gu gv ++ wM cI cJ cZ am f_X4_sum_fa (nI n) (nI B) (nI (S - B)) pl ja ah (nI K) bl bs bk be al tp st mx my kd ky ix iy iu iv)) H := hP
  have hD : va_D A (oC cJ ao fo :: (wI cI cJ cZ a n ah pl ck ct (nI K) pm ja (nI n) (nI B) (nI (S - B)) tp st us fb kA tA lx ly gx gy gu gv ++ wM cI cJ cZ am f_X4_sum_fa (nI n) (nI B) (nI (S - B)) pl ja ah (nI K) bl bs bk be al tp st mx my kd ky ix iy iu iv)) := hD
  refine W.lcmp hx hb dL_law_792 ?_
  refine lv_if_eq (tgt := 953) hx hb dL_law_793 (by decide) (fun _ => ?_) (fun c => absurd ((lg_cmp_eq _ _).mpr ea) c)
  have hP : va_P D vwCl (oC cJ ao fo :: (wI cI cJ cZ a n ah pl ck ct (nI K) pm ja (nI n) (nI B) (nI (S - B)) tp st us fb kA tA lx ly gx gy gu gv ++ wM cI cJ cZ am f_X4_sum_fa (nI n) (nI B) (nI (S - B)) pl ja ah (nI K) bl bs bk be al tp st mx my kd ky ix iy iu iv)) H := hP
  have hD : va_D A (oC cJ ao fo :: (wI cI cJ cZ a n ah pl ck ct (nI K) pm ja (nI n) (nI B) (nI (S - B)) tp st us fb kA tA lx ly gx gy gu gv ++ wM cI cJ cZ am f_X4_sum_fa (nI n) (nI B) (nI (S - B)) pl ja ah (nI K) bl bs bk be al tp st mx my kd ky ix iy iu iv)) := hD
  refine W.widen (k := cells + 1) (n := slots + 6) (by omega) (by omega) ?_
  exact kk (oC cJ ao fo :: (wI cI cJ cZ a n ah pl ck ct (nI K) pm ja (nI n) (nI B) (nI (S - B)) tp st us fb kA tA lx ly gx gy gu gv ++ wM cI cJ cZ am f_X4_sum_fa (nI n) (nI B) (nI (S - B)) pl ja ah (nI K) bl bs bk be al tp st mx my kd ky ix iy iu iv)) H _ ls ⟨_, _, _, _, _, _, _, _, _, _, _, _, _, _, _, _, _, _, _, _, _, _, _, _, _, _, _, _, _, _, _, _, _, _, _, _, (RE_X (by omega) hR), rfl⟩ hP hD hS (lv_sub hl [0, 1, 2, 3, 4] rfl)
set_option maxRecDepth 20000 in
set_option maxHeartbeats 4000000 in
theorem cs_stroke {p : Program} {e : Env} {s : State} {m : MethodId} {below : List Frame} {meth : Method} {c : Code} (l : Launch) (hnt : ∀ e : Env, l.admits e → e.platform.stackTraces = false) {sb L : Nat} {xs : Nat → Int32} {D : va_G} {cI cJ cZ : ClassId} {A : Nat → Prop} {Q : State → Prop} (hC : LX p s m c sb L xs D cI cJ cZ A) {X : Int} (hX5 : 0 ≤ X ∧ X ≤ 60000000) {a am : Nat → Nat} {ao n iN : Nat} (hi : iN + 4 ≤ L) {w : va_W} (hw : LI X cI cJ cZ a am ao n w) {ls : Array Slot} (hl : lv_has ls 8 [(4, .int (nI iN)), (3, .ref ao), (2, .ref (am 0)), (1, .ref (a 0)), (0, .ref sb)]) {H : Heap} {locs : List Loc} (hP : va_P D vwCl w H) (hD : va_D A w) (hS : va_S A s.heap H locs) {cells slots : Nat} (hc : cells + 1 ≤ 653990) (hs : slots + 6 ≤ 7134099)
    (kk : ∀ (w' : va_W) (H' : Heap) (locs' : List Loc) (ls' : Array Slot), LI (X + 100000) cI cJ cZ a am ao n w' → va_P D vwCl w' H' → va_D A w' → va_S A s.heap H' locs' → lv_has ls' 8 [(4, .int (nI iN)), (3, .ref ao), (2, .ref (am 0)), (1, .ref (a 0)), (0, .ref sb)] → W p l e room_1 s m #[.ref sb] below meth c H' locs' (cells + 1) (slots + 6) Q (F0 m 953 ls' [])) : W p l e room_1 s m #[.ref sb] below meth c H locs cells slots Q (F0 m 798 ls []) := by
  obtain ⟨hx, hb, hml, hown, hX, hbl, hbA, hE, hK, hA, hL⟩ := hC
  have ht : tb_OK s := hE.1
  obtain ⟨B, S, K, ah, pl, ck, ct, pm, ja, tp, st, us, fb, kA, tA, lx, ly, gx, gy, gu, gv, fo, fa, bl, bs, bk, be, al, mx, my, kd, ky, ix, iy, iu, iv, hR, rfl⟩ := hw
  obtain ⟨⟨hn1, hn, hBS, hSn, hK4⟩, hah, hja, ⟨hAL, hpm⟩, hLN, hTP, hPR⟩ := id hR
  have gS := st_eq hBS
  have ea := r_stroke hR (xs (iN + 1)) (xs (iN + 2))
  refine lv_aload_n hx hb dL_law_798 rfl (lv_at hl 3 rfl) ?_
  refine lv_aload_n hx hb dL_law_799 rfl (lv_at hl 4 rfl) ?_
  refine lv_iload hx hb dL_law_800 (lv_at hl 0 rfl) ?_
  refine lv_iconst (v := 1) hx hb dL_law_802 (by decide) ?_
  refine lv_iadd hx hb dL_law_803 ?_
  refine va_sld hx hb hX hbl hbA hS (in_of (sc_1 iN) (by omega) (by omega)) dL_law_804 ?_
  refine W.st (st1 := [.int (xs (iN + 1)), .ref (a 0)]) (by rw [cl_of (sc_1 iN) (by omega)]) ?_
  refine lv_aload_n hx hb dL_law_805 rfl (lv_at hl 4 rfl) ?_
  refine lv_iload hx hb dL_law_806 (lv_at hl 0 rfl) ?_
  refine lv_iconst (v := 2) hx hb dL_law_808 (by decide) ?_
  refine lv_iadd hx hb dL_law_809 ?_
  refine va_sld hx hb hX hbl hbA hS (in_of (sc_2 iN) (by omega) (by omega)) dL_law_810 ?_
  refine W.st (st1 := [.int (xs (iN + 2)), .int (xs (iN + 1)), .ref (a 0)]) (by rw [cl_of (sc_2 iN) (by omega)]) ?_
  refine rdV (As := [.int (xs (iN + 1)), .int (xs (iN + 2))]) (rest := []) (st1 := [.int (f_X3_stroke ((xs (iN + 1))) ((xs (iN + 2))) (nI B) (nI (S - B)) tp kA tA)]) (RD.frame (w := (oC cJ ao fo :: (wI cI cJ cZ a n ah pl ck ct (nI K) pm ja (nI n) (nI B) (nI (S - B)) tp st us fb kA tA lx ly gx gy gu gv ++ wM cI cJ cZ am fa (nI n) (nI B) (nI (S - B)) pl ja ah (nI K) bl bs bk be al tp st mx my kd ky ix iy iu iv))) (k_X3_stroke l D cI cJ cZ a n ah pl ck ct (nI K) pm ja (nI n) (nI B) (nI (S - B)) tp st us fb kA tA lx ly gx gy gu gv ((xs (iN + 1))) ((xs (iN + 2))) (fun h => (q_st hBS hSn hn h).1) (fun h => (q_str hR h).1)) [1, 2, 3, 4, 5, 6, 7, 8, 9, 10, 11, 12, 13, 14, 15, 16] rfl) (si_L_114 ht ⟨Nat.le_of_ble_eq_true rfl, Nat.le_of_ble_eq_true rfl⟩) hx hb hml hown (va_recv hK hP (ci := 4) (q0 := 1) rfl rfl) (hE.since hS) hP hK rfl hl.1 rfl (Nat.le_of_ble_eq_true rfl) ⟨by show _ ≤ 653990; omega, by show _ ≤ 7134099; omega⟩ dL_law_811 rfl ?_
  refine lv_aload_n hx hb dL_law_814 rfl (lv_at hl 2 rfl) ?_
  refine lv_aload_n hx hb dL_law_815 rfl (lv_at hl 4 rfl) ?_
  refine lv_iload hx hb dL_law_816 (lv_at hl 0 rfl) ?_
  refine lv_iconst (v := 1) hx hb dL_law_818 (by decide) ?_
  refine lv_iadd hx hb dL_law_819 ?_
  refine va_sld hx hb hX hbl hbA hS (in_of (sc_1 iN) (by omega) (by omega)) dL_law_820 ?_
  refine W.st (st1 := [.int (xs (iN + 1)), .ref (am 0), .int (f_X3_stroke ((xs (iN + 1))) ((xs (iN + 2))) (nI B) (nI (S - B)) tp kA tA)]) (by rw [cl_of (sc_1 iN) (by omega)]) ?_
  refine lv_aload_n hx hb dL_law_821 rfl (lv_at hl 4 rfl) ?_
  refine lv_iload hx hb dL_law_822 (lv_at hl 0 rfl) ?_
  refine lv_iconst (v := 2) hx hb dL_law_824 (by decide) ?_
  refine lv_iadd hx hb dL_law_825 ?_
  refine va_sld hx hb hX hbl hbA hS (in_of (sc_2 iN) (by omega) (by omega)) dL_law_826 ?_
  refine W.st (st1 := [.int (xs (iN + 2)), .int (xs (iN + 1)), .ref (am 0), .int (f_X3_stroke ((xs (iN + 1))) ((xs (iN + 2))) (nI B) (nI (S - B)) tp kA tA)]) (by rw [cl_of (sc_2 iN) (by omega)]) ?_
  refine wrV (As := [.int (xs (iN + 1)), .int (xs (iN + 2))]) (rest := [.int (f_X3_stroke ((xs (iN + 1))) ((xs (iN + 2))) (nI B) (nI (S - B)) tp kA tA)]) (WR.frame (w := (oC cJ ao fo :: (wI cI cJ cZ a n ah pl ck ct (nI K) pm ja (nI n) (nI B) (nI (S - B)) tp st us fb kA tA lx ly gx gy gu gv ++ wM cI cJ cZ am fa (nI n) (nI B) (nI (S - B)) pl ja ah (nI K) bl bs bk be al tp st mx my kd ky ix iy iu iv))) (wr := (oC cJ ao fo :: wI cI cJ cZ a n ah pl ck ct (nI K) pm ja (nI n) (nI B) (nI (S - B)) tp st us fb kA tA lx ly gx gy gu gv)) (k_X4_stroke l D cI cJ cZ am fa (nI n) (nI B) (nI (S - B)) pl ja ah (nI K) bl bs bk be al tp st mx my kd ky ix iy iu iv ((xs (iN + 1))) ((xs (iN + 2))) (fun h => (q_st hBS hSn hn h).2.1) (fun h => (q_str hR h).2)) [17, 18, 19, 20, 21, 22, 23, 24, 25, 26, 27, 28] [0, 1, 2, 3, 4, 5, 6, 7, 8, 9, 10, 11, 12, 13, 14, 15, 16] rfl rfl (by decide) (by decide) (by decide)) (si_L_117 ht ⟨Nat.le_of_ble_eq_true rfl, Nat.le_of_ble_eq_true rfl⟩) hx hb hml hown (va_recv hK hP (ci := 5) (q0 := 17) rfl rfl) hE hP hK hD hS hA rfl hl.1 rfl (Nat.le_of_ble_eq_true rfl) ⟨by show _ ≤ 653990; omega, by show _ ≤ 7134099; omega⟩ dL_law_827 (fun ov w' H locs hpost hP hD hS => ?_)
  obtain ⟨w1, ⟨rfl, rfl⟩, rfl⟩ := hpost
  refine W.st (st1 := [.int (f_X4_stroke ((xs (iN + 1))) ((xs (iN + 2))) (nI B) (nI (S - B)) tp kd ky), .int (f_X3_stroke ((xs (iN + 1))) ((xs (iN + 2))) (nI B) (nI (S - B)) tp kA tA)]) rfl ?_
  have hP : va_P D vwCl (oC cJ ao fo :: (wI cI cJ cZ a n ah pl ck ct (nI K) pm ja (nI n) (nI B) (nI (S - B)) tp st us fb kA tA lx ly gx gy gu gv ++ wM cI cJ cZ am (f_X4_stroke_fa ((xs (iN + 1))) ((xs (iN + 2))) (nI B) (nI (S - B)) tp kd ky) (nI n) (nI B) (nI (S - B)) pl ja ah (nI K) bl bs bk be al tp st mx my kd ky ix iy iu iv)) H := hP
  have hD : va_D A (oC cJ ao fo :: (wI cI cJ cZ a n ah pl ck ct (nI K) pm ja (nI n) (nI B) (nI (S - B)) tp st us fb kA tA lx ly gx gy gu gv ++ wM cI cJ cZ am (f_X4_stroke_fa ((xs (iN + 1))) ((xs (iN + 2))) (nI B) (nI (S - B)) tp kd ky) (nI n) (nI B) (nI (S - B)) pl ja ah (nI K) bl bs bk be al tp st mx my kd ky ix iy iu iv)) := hD
  refine lv_icmp_eq (tgt := 953) hx hb dL_law_830 (by decide) (fun _ => ?_) (fun c => absurd ea c)
  have hP : va_P D vwCl (oC cJ ao fo :: (wI cI cJ cZ a n ah pl ck ct (nI K) pm ja (nI n) (nI B) (nI (S - B)) tp st us fb kA tA lx ly gx gy gu gv ++ wM cI cJ cZ am (f_X4_stroke_fa ((xs (iN + 1))) ((xs (iN + 2))) (nI B) (nI (S - B)) tp kd ky) (nI n) (nI B) (nI (S - B)) pl ja ah (nI K) bl bs bk be al tp st mx my kd ky ix iy iu iv)) H := hP
  have hD : va_D A (oC cJ ao fo :: (wI cI cJ cZ a n ah pl ck ct (nI K) pm ja (nI n) (nI B) (nI (S - B)) tp st us fb kA tA lx ly gx gy gu gv ++ wM cI cJ cZ am (f_X4_stroke_fa ((xs (iN + 1))) ((xs (iN + 2))) (nI B) (nI (S - B)) tp kd ky) (nI n) (nI B) (nI (S - B)) pl ja ah (nI K) bl bs bk be al tp st mx my kd ky ix iy iu iv)) := hD
  refine W.widen (k := cells + 1) (n := slots + 6) (by omega) (by omega) ?_
  exact kk (oC cJ ao fo :: (wI cI cJ cZ a n ah pl ck ct (nI K) pm ja (nI n) (nI B) (nI (S - B)) tp st us fb kA tA lx ly gx gy gu gv ++ wM cI cJ cZ am (f_X4_stroke_fa ((xs (iN + 1))) ((xs (iN + 2))) (nI B) (nI (S - B)) tp kd ky) (nI n) (nI B) (nI (S - B)) pl ja ah (nI K) bl bs bk be al tp st mx my kd ky ix iy iu iv)) H _ ls ⟨_, _, _, _, _, _, _, _, _, _, _, _, _, _, _, _, _, _, _, _, _, _, _, _, _, _, _, _, _, _, _, _, _, _, _, _, (RE_X (by omega) hR), rfl⟩ hP hD hS (lv_sub hl [0, 1, 2, 3, 4] rfl)
set_option maxRecDepth 20000 in
set_option maxHeartbeats 4000000 in
theorem cs_left {p : Program} {e : Env} {s : State} {m : MethodId} {below : List Frame} {meth : Method} {c : Code} (l : Launch) (hnt : ∀ e : Env, l.admits e → e.platform.stackTraces = false) {sb L : Nat} {xs : Nat → Int32} {D : va_G} {cI cJ cZ : ClassId} {A : Nat → Prop} {Q : State → Prop} (hC : LX p s m c sb L xs D cI cJ cZ A) {X : Int} (hX5 : 0 ≤ X ∧ X ≤ 60000000) {a am : Nat → Nat} {ao n iN : Nat} (hi : iN + 4 ≤ L) {w : va_W} (hw : LI X cI cJ cZ a am ao n w) {ls : Array Slot} (hl : lv_has ls 8 [(4, .int (nI iN)), (3, .ref ao), (2, .ref (am 0)), (1, .ref (a 0)), (0, .ref sb)]) {H : Heap} {locs : List Loc} (hP : va_P D vwCl w H) (hD : va_D A w) (hS : va_S A s.heap H locs) {cells slots : Nat} (hc : cells + 1 ≤ 653990) (hs : slots + 6 ≤ 7134099)
    (kk : ∀ (w' : va_W) (H' : Heap) (locs' : List Loc) (ls' : Array Slot), LI (X + 100000) cI cJ cZ a am ao n w' → va_P D vwCl w' H' → va_D A w' → va_S A s.heap H' locs' → lv_has ls' 8 [(4, .int (nI iN)), (3, .ref ao), (2, .ref (am 0)), (1, .ref (a 0)), (0, .ref sb)] → W p l e room_1 s m #[.ref sb] below meth c H' locs' (cells + 1) (slots + 6) Q (F0 m 953 ls' [])) : W p l e room_1 s m #[.ref sb] below meth c H locs cells slots Q (F0 m 835 ls []) := by
  obtain ⟨hx, hb, hml, hown, hX, hbl, hbA, hE, hK, hA, hL⟩ := hC
  have ht : tb_OK s := hE.1
  obtain ⟨B, S, K, ah, pl, ck, ct, pm, ja, tp, st, us, fb, kA, tA, lx, ly, gx, gy, gu, gv, fo, fa, bl, bs, bk, be, al, mx, my, kd, ky, ix, iy, iu, iv, hR, rfl⟩ := hw
  obtain ⟨⟨hn1, hn, hBS, hSn, hK4⟩, hah, hja, ⟨hAL, hpm⟩, hLN, hTP, hPR⟩ := id hR
  have gS := st_eq hBS
  have ea := r_left hR st (xs (iN + 1))
  refine lv_aload_n hx hb dL_law_835 rfl (lv_at hl 3 rfl) ?_
  refine lv_aload_n hx hb dL_law_836 rfl (lv_at hl 4 rfl) ?_
  refine lv_iload hx hb dL_law_837 (lv_at hl 0 rfl) ?_
  refine lv_iconst (v := 1) hx hb dL_law_839 (by decide) ?_
  refine lv_iadd hx hb dL_law_840 ?_
  refine va_sld hx hb hX hbl hbA hS (in_of (sc_1 iN) (by omega) (by omega)) dL_law_841 ?_
  refine W.st (st1 := [.int (xs (iN + 1)), .ref (a 0)]) (by rw [cl_of (sc_1 iN) (by omega)]) ?_
  refine rdV (As := [.int (xs (iN + 1))]) (rest := []) (st1 := [.int (f_X3_left ((xs (iN + 1))) (nI K) st us)]) (RD.frame (w := (oC cJ ao fo :: (wI cI cJ cZ a n ah pl ck ct (nI K) pm ja (nI n) (nI B) (nI (S - B)) tp st us fb kA tA lx ly gx gy gu gv ++ wM cI cJ cZ am fa (nI n) (nI B) (nI (S - B)) pl ja ah (nI K) bl bs bk be al tp st mx my kd ky ix iy iu iv))) (k_X3_left l D cI cJ cZ a n ah pl ck ct (nI K) pm ja (nI n) (nI B) (nI (S - B)) tp st us fb kA tA lx ly gx gy gu gv ((xs (iN + 1))) (fun h => q_has hK4 h)) [1, 2, 3, 4, 5, 6, 7, 8, 9, 10, 11, 12, 13, 14, 15, 16] rfl) (si_L_118 ht ⟨Nat.le_of_ble_eq_true rfl, Nat.le_of_ble_eq_true rfl⟩) hx hb hml hown (va_recv hK hP (ci := 4) (q0 := 1) rfl rfl) (hE.since hS) hP hK rfl hl.1 rfl (Nat.le_of_ble_eq_true rfl) ⟨by show _ ≤ 653990; omega, by show _ ≤ 7134099; omega⟩ dL_law_842 rfl ?_
  refine lv_aload_n hx hb dL_law_845 rfl (lv_at hl 2 rfl) ?_
  refine lv_aload_n hx hb dL_law_846 rfl (lv_at hl 4 rfl) ?_
  refine lv_iload hx hb dL_law_847 (lv_at hl 0 rfl) ?_
  refine lv_iconst (v := 1) hx hb dL_law_849 (by decide) ?_
  refine lv_iadd hx hb dL_law_850 ?_
  refine va_sld hx hb hX hbl hbA hS (in_of (sc_1 iN) (by omega) (by omega)) dL_law_851 ?_
  refine W.st (st1 := [.int (xs (iN + 1)), .ref (am 0), .int (f_X3_left ((xs (iN + 1))) (nI K) st us)]) (by rw [cl_of (sc_1 iN) (by omega)]) ?_
  refine wrV (As := [.int (xs (iN + 1))]) (rest := [.int (f_X3_left ((xs (iN + 1))) (nI K) st us)]) (WR.frame (w := (oC cJ ao fo :: (wI cI cJ cZ a n ah pl ck ct (nI K) pm ja (nI n) (nI B) (nI (S - B)) tp st us fb kA tA lx ly gx gy gu gv ++ wM cI cJ cZ am fa (nI n) (nI B) (nI (S - B)) pl ja ah (nI K) bl bs bk be al tp st mx my kd ky ix iy iu iv))) (wr := (oC cJ ao fo :: wI cI cJ cZ a n ah pl ck ct (nI K) pm ja (nI n) (nI B) (nI (S - B)) tp st us fb kA tA lx ly gx gy gu gv)) (k_X4_left l D cI cJ cZ am fa (nI n) (nI B) (nI (S - B)) pl ja ah (nI K) bl bs bk be al tp st mx my kd ky ix iy iu iv ((xs (iN + 1))) S gS (by omega) (fun h => q_has hK4 h)) [17, 18, 19, 20, 21, 22, 23, 24, 25, 26, 27, 28] [0, 1, 2, 3, 4, 5, 6, 7, 8, 9, 10, 11, 12, 13, 14, 15, 16] rfl rfl (by decide) (by decide) (by decide)) (si_L_121 ht ⟨Nat.le_of_ble_eq_true rfl, Nat.le_of_ble_eq_true rfl⟩) hx hb hml hown (va_recv hK hP (ci := 5) (q0 := 17) rfl rfl) hE hP hK hD hS hA rfl hl.1 rfl (Nat.le_of_ble_eq_true rfl) ⟨by show _ ≤ 653990; omega, by show _ ≤ 7134099; omega⟩ dL_law_852 (fun ov w' H locs hpost hP hD hS => ?_)
  obtain ⟨w1, ⟨rfl, rfl⟩, rfl⟩ := hpost
  refine W.st (st1 := [.int (f_X4_left ((xs (iN + 1))) S (nI K) st kd), .int (f_X3_left ((xs (iN + 1))) (nI K) st us)]) rfl ?_
  have hP : va_P D vwCl (oC cJ ao fo :: (wI cI cJ cZ a n ah pl ck ct (nI K) pm ja (nI n) (nI B) (nI (S - B)) tp st us fb kA tA lx ly gx gy gu gv ++ wM cI cJ cZ am (f_X4_left_fa ((xs (iN + 1))) (nI K)) (nI n) (nI B) (nI (S - B)) pl ja ah (nI K) bl bs bk be al tp st mx my kd ky ix iy iu iv)) H := hP
  have hD : va_D A (oC cJ ao fo :: (wI cI cJ cZ a n ah pl ck ct (nI K) pm ja (nI n) (nI B) (nI (S - B)) tp st us fb kA tA lx ly gx gy gu gv ++ wM cI cJ cZ am (f_X4_left_fa ((xs (iN + 1))) (nI K)) (nI n) (nI B) (nI (S - B)) pl ja ah (nI K) bl bs bk be al tp st mx my kd ky ix iy iu iv)) := hD
  refine lv_icmp_eq (tgt := 953) hx hb dL_law_855 (by decide) (fun _ => ?_) (fun c => absurd ea c)
  have hP : va_P D vwCl (oC cJ ao fo :: (wI cI cJ cZ a n ah pl ck ct (nI K) pm ja (nI n) (nI B) (nI (S - B)) tp st us fb kA tA lx ly gx gy gu gv ++ wM cI cJ cZ am (f_X4_left_fa ((xs (iN + 1))) (nI K)) (nI n) (nI B) (nI (S - B)) pl ja ah (nI K) bl bs bk be al tp st mx my kd ky ix iy iu iv)) H := hP
  have hD : va_D A (oC cJ ao fo :: (wI cI cJ cZ a n ah pl ck ct (nI K) pm ja (nI n) (nI B) (nI (S - B)) tp st us fb kA tA lx ly gx gy gu gv ++ wM cI cJ cZ am (f_X4_left_fa ((xs (iN + 1))) (nI K)) (nI n) (nI B) (nI (S - B)) pl ja ah (nI K) bl bs bk be al tp st mx my kd ky ix iy iu iv)) := hD
  refine W.widen (k := cells + 1) (n := slots + 6) (by omega) (by omega) ?_
  exact kk (oC cJ ao fo :: (wI cI cJ cZ a n ah pl ck ct (nI K) pm ja (nI n) (nI B) (nI (S - B)) tp st us fb kA tA lx ly gx gy gu gv ++ wM cI cJ cZ am (f_X4_left_fa ((xs (iN + 1))) (nI K)) (nI n) (nI B) (nI (S - B)) pl ja ah (nI K) bl bs bk be al tp st mx my kd ky ix iy iu iv)) H _ ls ⟨_, _, _, _, _, _, _, _, _, _, _, _, _, _, _, _, _, _, _, _, _, _, _, _, _, _, _, _, _, _, _, _, _, _, _, _, (RE_X (by omega) hR), rfl⟩ hP hD hS (lv_sub hl [0, 1, 2, 3, 4] rfl)
set_option maxRecDepth 20000 in
set_option maxHeartbeats 4000000 in
theorem cs_list {p : Program} {e : Env} {s : State} {m : MethodId} {below : List Frame} {meth : Method} {c : Code} (l : Launch) (hnt : ∀ e : Env, l.admits e → e.platform.stackTraces = false) {sb L : Nat} {xs : Nat → Int32} {D : va_G} {cI cJ cZ : ClassId} {A : Nat → Prop} {Q : State → Prop} (hC : LX p s m c sb L xs D cI cJ cZ A) {X : Int} (hX5 : 0 ≤ X ∧ X ≤ 60000000) {a am : Nat → Nat} {ao n iN : Nat} (hi : iN + 4 ≤ L) {w : va_W} (hw : LI X cI cJ cZ a am ao n w) {ls : Array Slot} (hl : lv_has ls 8 [(4, .int (nI iN)), (3, .ref ao), (2, .ref (am 0)), (1, .ref (a 0)), (0, .ref sb)]) {H : Heap} {locs : List Loc} (hP : va_P D vwCl w H) (hD : va_D A w) (hS : va_S A s.heap H locs) {cells slots : Nat} (hc : cells + 1 ≤ 653990) (hs : slots + 6 ≤ 7134099)
    (kk : ∀ (w' : va_W) (H' : Heap) (locs' : List Loc) (ls' : Array Slot), LI (X + 100000) cI cJ cZ a am ao n w' → va_P D vwCl w' H' → va_D A w' → va_S A s.heap H' locs' → lv_has ls' 8 [(4, .int (nI iN)), (3, .ref ao), (2, .ref (am 0)), (1, .ref (a 0)), (0, .ref sb)] → W p l e room_1 s m #[.ref sb] below meth c H' locs' (cells + 1) (slots + 6) Q (F0 m 953 ls' [])) : W p l e room_1 s m #[.ref sb] below meth c H locs cells slots Q (F0 m 860 ls []) := by
  obtain ⟨hx, hb, hml, hown, hX, hbl, hbA, hE, hK, hA, hL⟩ := hC
  have ht : tb_OK s := hE.1
  obtain ⟨B, S, K, ah, pl, ck, ct, pm, ja, tp, st, us, fb, kA, tA, lx, ly, gx, gy, gu, gv, fo, fa, bl, bs, bk, be, al, mx, my, kd, ky, ix, iy, iu, iv, hR, rfl⟩ := hw
  obtain ⟨⟨hn1, hn, hBS, hSn, hK4⟩, hah, hja, ⟨hAL, hpm⟩, hLN, hTP, hPR⟩ := id hR
  have gS := st_eq hBS
  have ea := r_list hR (xs (iN + 1)) (xs (iN + 2))
  refine lv_aload_n hx hb dL_law_860 rfl (lv_at hl 3 rfl) ?_
  refine lv_aload_n hx hb dL_law_861 rfl (lv_at hl 4 rfl) ?_
  refine lv_iload hx hb dL_law_862 (lv_at hl 0 rfl) ?_
  refine lv_iconst (v := 1) hx hb dL_law_864 (by decide) ?_
  refine lv_iadd hx hb dL_law_865 ?_
  refine va_sld hx hb hX hbl hbA hS (in_of (sc_1 iN) (by omega) (by omega)) dL_law_866 ?_
  refine W.st (st1 := [.int (xs (iN + 1)), .ref (a 0)]) (by rw [cl_of (sc_1 iN) (by omega)]) ?_
  refine lv_aload_n hx hb dL_law_867 rfl (lv_at hl 4 rfl) ?_
  refine lv_iload hx hb dL_law_868 (lv_at hl 0 rfl) ?_
  refine lv_iconst (v := 2) hx hb dL_law_870 (by decide) ?_
  refine lv_iadd hx hb dL_law_871 ?_
  refine va_sld hx hb hX hbl hbA hS (in_of (sc_2 iN) (by omega) (by omega)) dL_law_872 ?_
  refine W.st (st1 := [.int (xs (iN + 2)), .int (xs (iN + 1)), .ref (a 0)]) (by rw [cl_of (sc_2 iN) (by omega)]) ?_
  refine rdV (As := [.int (xs (iN + 1)), .int (xs (iN + 2))]) (rest := []) (st1 := [.int (lstK kA (xs (iN + 1)) (xs (iN + 2)) S 0 0)]) (RD.frame (w := (oC cJ ao fo :: (wI cI cJ cZ a n ah pl ck ct (nI K) pm ja (nI n) (nI B) (nI (S - B)) tp st us fb kA tA lx ly gx gy gu gv ++ wM cI cJ cZ am fa (nI n) (nI B) (nI (S - B)) pl ja ah (nI K) bl bs bk be al tp st mx my kd ky ix iy iu iv))) (k_X3_list l D cI cJ cZ a n ah pl ck ct (nI K) pm ja (nI n) (nI B) (nI (S - B)) tp st us fb kA tA lx ly gx gy gu gv ((xs (iN + 1))) ((xs (iN + 2))) S gS hSn hn) [1, 2, 3, 4, 5, 6, 7, 8, 9, 10, 11, 12, 13, 14, 15, 16] rfl) (si_L_122 ht ⟨Nat.le_of_ble_eq_true rfl, Nat.le_of_ble_eq_true rfl⟩) hx hb hml hown (va_recv hK hP (ci := 4) (q0 := 1) rfl rfl) (hE.since hS) hP hK rfl hl.1 rfl (Nat.le_of_ble_eq_true rfl) ⟨by show _ ≤ 653990; omega, by show _ ≤ 7134099; omega⟩ dL_law_873 rfl ?_
  refine lv_aload_n hx hb dL_law_876 rfl (lv_at hl 2 rfl) ?_
  refine lv_aload_n hx hb dL_law_877 rfl (lv_at hl 4 rfl) ?_
  refine lv_iload hx hb dL_law_878 (lv_at hl 0 rfl) ?_
  refine lv_iconst (v := 1) hx hb dL_law_880 (by decide) ?_
  refine lv_iadd hx hb dL_law_881 ?_
  refine va_sld hx hb hX hbl hbA hS (in_of (sc_1 iN) (by omega) (by omega)) dL_law_882 ?_
  refine W.st (st1 := [.int (xs (iN + 1)), .ref (am 0), .int (lstK kA (xs (iN + 1)) (xs (iN + 2)) S 0 0)]) (by rw [cl_of (sc_1 iN) (by omega)]) ?_
  refine lv_aload_n hx hb dL_law_883 rfl (lv_at hl 4 rfl) ?_
  refine lv_iload hx hb dL_law_884 (lv_at hl 0 rfl) ?_
  refine lv_iconst (v := 2) hx hb dL_law_886 (by decide) ?_
  refine lv_iadd hx hb dL_law_887 ?_
  refine va_sld hx hb hX hbl hbA hS (in_of (sc_2 iN) (by omega) (by omega)) dL_law_888 ?_
  refine W.st (st1 := [.int (xs (iN + 2)), .int (xs (iN + 1)), .ref (am 0), .int (lstK kA (xs (iN + 1)) (xs (iN + 2)) S 0 0)]) (by rw [cl_of (sc_2 iN) (by omega)]) ?_
  refine wrV (As := [.int (xs (iN + 1)), .int (xs (iN + 2))]) (rest := [.int (lstK kA (xs (iN + 1)) (xs (iN + 2)) S 0 0)]) (WR.frame (w := (oC cJ ao fo :: (wI cI cJ cZ a n ah pl ck ct (nI K) pm ja (nI n) (nI B) (nI (S - B)) tp st us fb kA tA lx ly gx gy gu gv ++ wM cI cJ cZ am fa (nI n) (nI B) (nI (S - B)) pl ja ah (nI K) bl bs bk be al tp st mx my kd ky ix iy iu iv))) (wr := (oC cJ ao fo :: wI cI cJ cZ a n ah pl ck ct (nI K) pm ja (nI n) (nI B) (nI (S - B)) tp st us fb kA tA lx ly gx gy gu gv)) (k_X4_list l D cI cJ cZ am fa (nI n) (nI B) (nI (S - B)) pl ja ah (nI K) bl bs bk be al tp st mx my kd ky ix iy iu iv ((xs (iN + 1))) ((xs (iN + 2))) S gS (by omega)) [17, 18, 19, 20, 21, 22, 23, 24, 25, 26, 27, 28] [0, 1, 2, 3, 4, 5, 6, 7, 8, 9, 10, 11, 12, 13, 14, 15, 16] rfl rfl (by decide) (by decide) (by decide)) (si_L_125 ht ⟨Nat.le_of_ble_eq_true rfl, Nat.le_of_ble_eq_true rfl⟩) hx hb hml hown (va_recv hK hP (ci := 5) (q0 := 17) rfl rfl) hE hP hK hD hS hA rfl hl.1 rfl (Nat.le_of_ble_eq_true rfl) ⟨by show _ ≤ 653990; omega, by show _ ≤ 7134099; omega⟩ dL_law_889 (fun ov w' H locs hpost hP hD hS => ?_)
  obtain ⟨w1, ⟨rfl, rfl⟩, rfl⟩ := hpost
  refine W.st (st1 := [.int (lstK kd (xs (iN + 1)) (xs (iN + 2)) S 0 0), .int (lstK kA (xs (iN + 1)) (xs (iN + 2)) S 0 0)]) rfl ?_
  have hP : va_P D vwCl (oC cJ ao fo :: (wI cI cJ cZ a n ah pl ck ct (nI K) pm ja (nI n) (nI B) (nI (S - B)) tp st us fb kA tA lx ly gx gy gu gv ++ wM cI cJ cZ am 0 (nI n) (nI B) (nI (S - B)) pl ja ah (nI K) bl bs bk be al tp st mx my kd ky ix iy iu iv)) H := hP
  have hD : va_D A (oC cJ ao fo :: (wI cI cJ cZ a n ah pl ck ct (nI K) pm ja (nI n) (nI B) (nI (S - B)) tp st us fb kA tA lx ly gx gy gu gv ++ wM cI cJ cZ am 0 (nI n) (nI B) (nI (S - B)) pl ja ah (nI K) bl bs bk be al tp st mx my kd ky ix iy iu iv)) := hD
  refine lv_icmp_eq (tgt := 953) hx hb dL_law_892 (by decide) (fun _ => ?_) (fun c => absurd ea c)
  have hP : va_P D vwCl (oC cJ ao fo :: (wI cI cJ cZ a n ah pl ck ct (nI K) pm ja (nI n) (nI B) (nI (S - B)) tp st us fb kA tA lx ly gx gy gu gv ++ wM cI cJ cZ am 0 (nI n) (nI B) (nI (S - B)) pl ja ah (nI K) bl bs bk be al tp st mx my kd ky ix iy iu iv)) H := hP
  have hD : va_D A (oC cJ ao fo :: (wI cI cJ cZ a n ah pl ck ct (nI K) pm ja (nI n) (nI B) (nI (S - B)) tp st us fb kA tA lx ly gx gy gu gv ++ wM cI cJ cZ am 0 (nI n) (nI B) (nI (S - B)) pl ja ah (nI K) bl bs bk be al tp st mx my kd ky ix iy iu iv)) := hD
  refine W.widen (k := cells + 1) (n := slots + 6) (by omega) (by omega) ?_
  exact kk (oC cJ ao fo :: (wI cI cJ cZ a n ah pl ck ct (nI K) pm ja (nI n) (nI B) (nI (S - B)) tp st us fb kA tA lx ly gx gy gu gv ++ wM cI cJ cZ am 0 (nI n) (nI B) (nI (S - B)) pl ja ah (nI K) bl bs bk be al tp st mx my kd ky ix iy iu iv)) H _ ls ⟨_, _, _, _, _, _, _, _, _, _, _, _, _, _, _, _, _, _, _, _, _, _, _, _, _, _, _, _, _, _, _, _, _, _, _, _, (RE_X (by omega) hR), rfl⟩ hP hD hS (lv_sub hl [0, 1, 2, 3, 4] rfl)
