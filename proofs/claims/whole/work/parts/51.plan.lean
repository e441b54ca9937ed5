theorem in_pred {r : Int32} {rn n : Nat} (er : r = nI rn) (h : rn < n) (hn : n ≤ 24) : 0 < r → vp_in (r - 1) n := by
  intro h0
  cases rn with
  | zero => rw [er] at h0; exact absurd h0 (by decide)
  | succ q => rw [er, nI_pred]; exact vp_in_nI (by omega) (by omega)
theorem tb_next {r z : Int32} {rn : Nat} {tA : Nat → Int32} (er : r = nI rn) (h : rn < 2 ^ 30) : f_X2_turnBefore (r + 1) (f_X2_lay_tA r z tA) = z := by
  unfold f_X2_turnBefore
  rw [lay_tA er h, nI_s er, if_neg (nI_nle (by omega) (by omega)), nI_pred, nI_clamp (by omega), pk_us]
set_option maxRecDepth 20000 in
set_option maxHeartbeats 4000000 in
theorem k_X3_sumWith1 (l : Launch) (D : va_G) (cI cJ cZ : ClassId) (a : Nat → Nat) (n : Nat) (ah pl ck ct nk pm ja rg bu pn : Int32) (tp st us fb kA tA : Nat → Int32) (lx ly gx gy gu gv : Nat → Int64) (r : Int32) (k : Int32) (f : Int32) (u1 : Int64) (rn kn fn : Nat) (er : r = nI rn) (hrn : rn < n) (hn : n ≤ 24) (ek : k = nI kn) (hk4 : kn < 4) (ef : f = nI fn) : WR l yX3_sumWith cX3_sumWith 11 (some .long) 2 0 0 D (tysW cI cJ cZ) (wI cI cJ cZ a n ah pl ck ct nk pm ja rg bu pn tp st us fb kA tA lx ly gx gy gu gv) [.ref (a 0), .int r, .int 1, .int k, .int f, .long u1] (fun ov w' => ∃ (ck' ct' : Int32) (kA' tA' : Nat → Int32) (gx' gy' gu' gv' : Nat → Int64), ov = some (.long (vl1 tp (gx rn) (gy rn) (gu rn) (gv rn) (lx rn) (ly rn) kn fn u1)) ∧ w' = wI cI cJ cZ a n ah pl ck' ct' nk pm ja rg bu pn tp st us fb kA' tA' lx ly gx' gy' gu' gv' ∧ agI rn kA tA gx gy gu gv kA' tA' gx' gy' gu' gv') := by
  refine WR.of (by decide) ?_
  intro p e s m below meth c A hadm hx hb hr hml hown hlocks hname hE hP hK hD hS hA hAe
  have hown : s.vm.findClass RX3 = some m.cls := hown
  have ht : tb_OK s := hE.1
  have hl := lv_entry ([.ref (a 0), .int r, .int 1, .int k, .int f, .long u1]) (n := 11) (Nat.le_of_ble_eq_true rfl)
  rw [lg_entry_eq]
  generalize (lg_sl ([.ref (a 0), .int r, .int 1, .int k, .int f, .long u1]) ++ List.replicate (11 - (lg_sl ([.ref (a 0), .int r, .int 1, .int k, .int f, .long u1])).length) Slot.unset).toArray = ls at hl ⊢
  have hl : lv_has ls 11 [(0, .ref (a 0)), (1, .int r), (2, .int 1), (3, .int k), (4, .int f), (5, .long u1)] := hl
  refine lv_aload_n hx hb dX3_sumWith_0 rfl (lv_at hl 0 rfl) ?_
  refine va_get (D := D) (ci := 4) (v := .ref (a 7)) (C := RX3) (T := TX3) (N := 7) hx hb (lyX3 ht) (fun _ h9 => h9) hown hK hP 0 rfl rfl 2 (by decide) (fl_X3_37 ht) (fun _ h9 => h9) rfl dX3_sumWith_1 ?_
  refine lv_iload_n hx hb dX3_sumWith_4 rfl (lv_at hl 1 rfl) ?_
  refine lv_iload_n hx hb dX3_sumWith_5 rfl (lv_at hl 3 rfl) ?_
  refine lv_aload_n hx hb dX3_sumWith_6 rfl (lv_at hl 0 rfl) ?_
  refine va_get (D := D) (ci := 4) (v := .ref (a 1)) (C := RX3) (T := TX3) (N := 7) hx hb (lyX3 ht) (fun _ h9 => h9) hown hK hP 0 rfl rfl 0 (by decide) (fl_X3_10 ht) (fun _ h9 => h9) rfl dX3_sumWith_7 ?_
  refine va_getN (D := D) (ci := 2) (v := .ref (a 2)) (C := RX1) (T := TX1) (N := 4) hx hb (lyX1 ht) (fun _ h9 => h9) hown hK hP 1 rfl rfl 0 (by decide) (fn_X3_169 ht) (fun _ h9 => h9) rfl dX3_sumWith_10 ?_
  refine lv_iload_n hx hb dX3_sumWith_13 rfl (lv_at hl 3 rfl) ?_
  refine va_iald hx hb hK hP 2 0 rfl rfl (in_of ek hk4 (by decide)) dX3_sumWith_14 ?_
  refine lv_iload hx hb dX3_sumWith_15 (lv_at hl 4 rfl) ?_
  refine wrVN (As := [.int r, .int k, .int (tp k.toNatClampNeg), .int f]) (rest := []) (k_X2_lay l D cI cJ cZ a n ah pl ck ct nk pm ja rg bu pn tp st us fb kA tA lx ly gx gy gu gv r k (tp k.toNatClampNeg) f (in_of er hrn (by omega)) (in_of er (by omega) (by omega)) (in_of (nI_s er) (by omega) (by omega))) (si_X3_190 ht ⟨Nat.le_of_ble_eq_true rfl, Nat.le_of_ble_eq_true rfl⟩) hx hb hml hown (va_recv hK hP (ci := 3) (q0 := 7) rfl rfl) hE hP hK hD hS hA rfl hl.1 rfl (Nat.le_of_ble_eq_true rfl) ⟨Nat.zero_le _, Nat.zero_le _⟩ dX3_sumWith_17 (fun ov w' H locs hpost hP hD hS => ?_)
  obtain ⟨rfl, rfl⟩ := hpost
  refine W.st (st1 := []) rfl ?_
  have hP : va_P D vwCl (wI cI cJ cZ a n ah pl ck ct nk pm ja rg bu pn tp st us fb (f_X2_lay_kA r k kA) (f_X2_lay_tA r f tA) lx ly (f_X2_lay_gx r (tp k.toNatClampNeg) f gx gu) (f_X2_lay_gy r (tp k.toNatClampNeg) f gy gv) (f_X2_lay_gu r (tp k.toNatClampNeg) f gu) (f_X2_lay_gv r (tp k.toNatClampNeg) f gv)) H := hP
  have hD : va_D A (wI cI cJ cZ a n ah pl ck ct nk pm ja rg bu pn tp st us fb (f_X2_lay_kA r k kA) (f_X2_lay_tA r f tA) lx ly (f_X2_lay_gx r (tp k.toNatClampNeg) f gx gu) (f_X2_lay_gy r (tp k.toNatClampNeg) f gy gv) (f_X2_lay_gu r (tp k.toNatClampNeg) f gu) (f_X2_lay_gv r (tp k.toNatClampNeg) f gv)) := hD
  refine lv_aload_n hx hb dX3_sumWith_20 rfl (lv_at hl 0 rfl) ?_
  refine va_get (D := D) (ci := 4) (v := .ref (a 7)) (C := RX3) (T := TX3) (N := 7) hx hb (lyX3 ht) (fun _ h9 => h9) hown hK hP 0 rfl rfl 2 (by decide) (fl_X3_37 ht) (fun _ h9 => h9) rfl dX3_sumWith_21 ?_
  refine lv_iload_n hx hb dX3_sumWith_24 rfl (lv_at hl 1 rfl) ?_
  refine rdVN (As := [.int r]) (rest := []) (st1 := [.long (f_X2_offAt r lx ly (f_X2_lay_gx r (tp k.toNatClampNeg) f gx gu) (f_X2_lay_gy r (tp k.toNatClampNeg) f gy gv))]) (k_X2_offAt l D cI cJ cZ a n ah pl ck ct nk pm ja rg bu pn tp st us fb (f_X2_lay_kA r k kA) (f_X2_lay_tA r f tA) lx ly (f_X2_lay_gx r (tp k.toNatClampNeg) f gx gu) (f_X2_lay_gy r (tp k.toNatClampNeg) f gy gv) (f_X2_lay_gu r (tp k.toNatClampNeg) f gu) (f_X2_lay_gv r (tp k.toNatClampNeg) f gv) r (in_of er hrn (by omega)) (in_of (nI_s er) (by omega) (by omega))) (si_X3_158 ht ⟨Nat.le_of_ble_eq_true rfl, Nat.le_of_ble_eq_true rfl⟩) hx hb hml hown (va_recv hK hP (ci := 3) (q0 := 7) rfl rfl) (hE.since hS) hP hK rfl hl.1 rfl (Nat.le_of_ble_eq_true rfl) ⟨Nat.zero_le _, Nat.zero_le _⟩ dX3_sumWith_25 rfl ?_
  refine lv_lstore (lv' := [(7, .long (f_X2_offAt r lx ly (f_X2_lay_gx r (tp k.toNatClampNeg) f gx gu) (f_X2_lay_gy r (tp k.toNatClampNeg) f gy gv))), (0, .ref (a 0)), (1, .int r), (2, .int 1), (3, .int k), (4, .int f), (5, .long u1)]) hx hb dX3_sumWith_28 hl (by decide) rfl (fun ls hl => ?_)
  refine lv_lload hx hb dX3_sumWith_30 (lv_at hl 0 rfl) ?_
  refine lv_lload hx hb dX3_sumWith_32 (lv_at hl 6 rfl) ?_
  refine W.lcmp hx hb dX3_sumWith_34 ?_
  refine lv_if_lt (tgt := 42) hx hb dX3_sumWith_35 (by decide) (fun c_1 => ?_) (fun c_1 => ?_)
  · skip
    refine lv_iload_n hx hb dX3_sumWith_42 rfl (lv_at hl 3 rfl) ?_
    refine lv_iconst (v := 2) hx hb dX3_sumWith_43 (by decide) ?_
    refine lv_icmp_ge (tgt := 50) hx hb dX3_sumWith_44 (by decide) (fun c_2 => absurd c_2 (by decide)) (fun c_2 => ?_)
    refine lv_lload hx hb dX3_sumWith_47 (lv_at hl 0 rfl) ?_
    exact wr_l hx hb hr hlocks hAe hP hD hS dX3_sumWith_49 (⟨_, _, _, _, _, _, _, _, by have h9 := c_1; rw [lg_cmp_lt, lay_off er (by omega), cl_of ek (by omega), ef] at h9; unfold vl1; rw [if_pos h9, lay_off er (by omega), cl_of ek (by omega), ef], rfl, agI_lay er (by omega)⟩)
  · skip
    refine lv_ldc2 (v := 4611686018427387904) hx hb hown (kl_X3_198 ht) dX3_sumWith_38 ?_
    exact wr_l hx hb hr hlocks hAe hP hD hS dX3_sumWith_41 (⟨_, _, _, _, _, _, _, _, by have h9 := c_1; rw [lg_cmp_lt, lay_off er (by omega), cl_of ek (by omega), ef] at h9; unfold vl1; rw [if_neg h9], rfl, agI_lay er (by omega)⟩)
set_option maxRecDepth 20000 in
set_option maxHeartbeats 4000000 in
theorem k_X3_leastSum1 (l : Launch) (D : va_G) (cI cJ cZ : ClassId) (a : Nat → Nat) (n : Nat) (ah pl ck ct nk pm ja rg bu pn : Int32) (tp st us fb kA tA : Nat → Int32) (lx ly gx gy gu gv : Nat → Int64) (r : Int32) (rn K : Nat) (er : r = nI rn) (hrn : rn < n) (hn : n ≤ 24) (eK : nk = nI K) (hK4 : K ≤ 4) (hja : ¬ ja = 0) : WR l yX3_leastSum cX3_leastSum 12 (some .long) 3 0 0 D (tysW cI cJ cZ) (wI cI cJ cZ a n ah pl ck ct nk pm ja rg bu pn tp st us fb kA tA lx ly gx gy gu gv) [.ref (a 0), .int r, .int 1] (fun ov w' => ∃ (kA' tA' : Nat → Int32) (gx' gy' gu' gv' : Nat → Int64), ov = some (.long (scan (okI st us fb ja (f_X2_turnBefore r tA)) (vl1 tp (gx rn) (gy rn) (gu rn) (gv rn) (lx rn) (ly rn)) (16 * K)).1) ∧ w' = wI cI cJ cZ a n ah pl ((scan (okI st us fb ja (f_X2_turnBefore r tA)) (vl1 tp (gx rn) (gy rn) (gu rn) (gv rn) (lx rn) (ly rn)) (16 * K)).2.1) ((scan (okI st us fb ja (f_X2_turnBefore r tA)) (vl1 tp (gx rn) (gy rn) (gu rn) (gv rn) (lx rn) (ly rn)) (16 * K)).2.2) nk pm ja rg bu pn tp st us fb kA' tA' lx ly gx' gy' gu' gv' ∧ agI rn kA tA gx gy gu gv kA' tA' gx' gy' gu' gv') := by
  refine WR.of (by decide) ?_
  intro p e s m below meth c A hadm hx hb hr hml hown hlocks hname hE hP hK hD hS hA hAe
  have hown : s.vm.findClass RX3 = some m.cls := hown
  have ht : tb_OK s := hE.1
  have hl := lv_entry ([.ref (a 0), .int r, .int 1]) (n := 12) (Nat.le_of_ble_eq_true rfl)
  rw [lg_entry_eq]
  generalize (lg_sl ([.ref (a 0), .int r, .int 1]) ++ List.replicate (12 - (lg_sl ([.ref (a 0), .int r, .int 1])).length) Slot.unset).toArray = ls at hl ⊢
  have hl : lv_has ls 12 [(0, .ref (a 0)), (1, .int r), (2, .int 1)] := hl
  refine lv_ldc2 (v := 4611686018427387904) hx hb hown (kl_X3_198 ht) dX3_leastSum_0 ?_
  refine lv_lstore_n (lv' := [(3, .long 4611686018427387904), (0, .ref (a 0)), (1, .int r), (2, .int 1)]) hx hb dX3_leastSum_3 rfl hl (by decide) rfl (fun ls hl => ?_)
  refine lv_iconst (v := -1) hx hb dX3_leastSum_4 (by decide) ?_
  refine lv_istore (lv' := [(5, .int (-1)), (3, .long 4611686018427387904), (0, .ref (a 0)), (1, .int r), (2, .int 1)]) hx hb dX3_leastSum_5 hl (by decide) rfl (fun ls hl => ?_)
  refine lv_iconst (v := -1) hx hb dX3_leastSum_7 (by decide) ?_
  refine lv_istore (lv' := [(6, .int (-1)), (5, .int (-1)), (3, .long 4611686018427387904), (0, .ref (a 0)), (1, .int r), (2, .int 1)]) hx hb dX3_leastSum_8 hl (by decide) rfl (fun ls hl => ?_)
  refine lv_aload_n hx hb dX3_leastSum_10 rfl (lv_at hl 3 rfl) ?_
  refine va_get (D := D) (ci := 4) (v := .ref (a 7)) (C := RX3) (T := TX3) (N := 7) hx hb (lyX3 ht) (fun _ h9 => h9) hown hK hP 0 rfl rfl 2 (by decide) (fl_X3_37 ht) (fun _ h9 => h9) rfl dX3_leastSum_11 ?_
  refine lv_iload_n hx hb dX3_leastSum_14 rfl (lv_at hl 4 rfl) ?_
  refine rdVN (As := [.int r]) (rest := []) (st1 := [.int (f_X2_turnBefore r tA)]) (k_X2_turnBefore l D cI cJ cZ a n ah pl ck ct nk pm ja rg bu pn tp st us fb kA tA lx ly gx gy gu gv r (in_pred er hrn hn)) (si_X3_200 ht ⟨Nat.le_of_ble_eq_true rfl, Nat.le_of_ble_eq_true rfl⟩) hx hb hml hown (va_recv hK hP (ci := 3) (q0 := 7) rfl rfl) (hE.since hS) hP hK rfl hl.1 rfl (Nat.le_of_ble_eq_true rfl) ⟨Nat.zero_le _, Nat.zero_le _⟩ dX3_leastSum_15 rfl ?_
  refine lv_istore (lv' := [(7, .int (f_X2_turnBefore r tA)), (6, .int (-1)), (5, .int (-1)), (3, .long 4611686018427387904), (0, .ref (a 0)), (1, .int r), (2, .int 1)]) hx hb dX3_leastSum_18 hl (by decide) rfl (fun ls hl => ?_)
  refine lv_iconst (v := 0) hx hb dX3_leastSum_20 (by decide) ?_
  refine lv_istore (lv' := [(8, .int 0), (7, .int (f_X2_turnBefore r tA)), (6, .int (-1)), (5, .int (-1)), (3, .long 4611686018427387904), (0, .ref (a 0)), (1, .int r), (2, .int 1)]) hx hb dX3_leastSum_21 hl (by decide) rfl (fun ls hl => ?_)
  have lp : ∀ (N : Nat) (i : Nat) (q1 : Int64) (q2 : Int32) (q3 : Int32) (z : Int32) (ck1 : Int32) (ct1 : Int32) (kA1 : Nat → Int32) (tA1 : Nat → Int32) (gx1 : Nat → Int64) (gy1 : Nat → Int64) (gu1 : Nat → Int64) (gv1 : Nat → Int64), (z = nI i) → (i ≤ K) → (scan (okI st us fb ja (f_X2_turnBefore r tA)) (vl1 tp (gx rn) (gy rn) (gu rn) (gv rn) (lx rn) (ly rn)) (16 * i) = (q1, q2, q3)) → (agI rn kA tA gx gy gu gv kA1 tA1 gx1 gy1 gu1 gv1) → K - i < N → ∀ (H : Heap) (locs : List Loc), va_P D vwCl (wI cI cJ cZ a n ah pl ck1 ct1 nk pm ja rg bu pn tp st us fb kA1 tA1 lx ly gx1 gy1 gu1 gv1) H → va_D A (wI cI cJ cZ a n ah pl ck1 ct1 nk pm ja rg bu pn tp st us fb kA1 tA1 lx ly gx1 gy1 gu1 gv1) → va_S A s.heap H locs → ∀ (ls : Array Slot), lv_has ls 12 [(8, .int z), (7, .int (f_X2_turnBefore r tA)), (6, .int q3), (5, .int q2), (3, .long q1), (0, .ref (a 0)), (1, .int r), (2, .int 1)] → W p l e (rmD 3 0 0) s m ([.ref (a 0), .int r, .int 1] : List Value).toArray below meth c H locs 0 0 (MQ below (QcW D (wI cI cJ cZ a n ah pl ck ct nk pm ja rg bu pn tp st us fb kA tA lx ly gx gy gu gv) s.heap.size (fun ov w' => ∃ (kA' tA' : Nat → Int32) (gx' gy' gu' gv' : Nat → Int64), ov = some (.long (scan (okI st us fb ja (f_X2_turnBefore r tA)) (vl1 tp (gx rn) (gy rn) (gu rn) (gv rn) (lx rn) (ly rn)) (16 * K)).1) ∧ w' = wI cI cJ cZ a n ah pl ((scan (okI st us fb ja (f_X2_turnBefore r tA)) (vl1 tp (gx rn) (gy rn) (gu rn) (gv rn) (lx rn) (ly rn)) (16 * K)).2.1) ((scan (okI st us fb ja (f_X2_turnBefore r tA)) (vl1 tp (gx rn) (gy rn) (gu rn) (gv rn) (lx rn) (ly rn)) (16 * K)).2.2) nk pm ja rg bu pn tp st us fb kA' tA' lx ly gx' gy' gu' gv' ∧ agI rn kA tA gx gy gu gv kA' tA' gx' gy' gu' gv')) ([.ref (a 0), .int r, .int 1] : List Value).toArray s 0 0 A) (F0 m 23 ls []) := by
    intro N
    induction N with
    | zero => intro i q1 q2 q3 z ck1 ct1 kA1 tA1 gx1 gy1 gu1 gv1 _ _ _ _ hN; exact absurd hN (Nat.not_lt_zero _)
    | succ N lp_ih =>
      intro i q1 q2 q3 z ck1 ct1 kA1 tA1 gx1 gy1 gu1 gv1 hz hi hq hag hN H locs hP hD hS ls hl
      refine lv_iload hx hb dX3_leastSum_23 (lv_at hl 0 rfl) ?_
      refine lv_aload_n hx hb dX3_leastSum_25 rfl (lv_at hl 5 rfl) ?_
      refine va_get (D := D) (ci := 4) (v := .ref (a 1)) (C := RX3) (T := TX3) (N := 7) hx hb (lyX3 ht) (fun _ h9 => h9) hown hK hP 0 rfl rfl 0 (by decide) (fl_X3_10 ht) (fun _ h9 => h9) rfl dX3_leastSum_26 ?_
      refine va_getN (D := D) (ci := 2) (v := .int nk) (C := RX1) (T := TX1) (N := 4) hx hb (lyX1 ht) (fun _ h9 => h9) hown hK hP 1 rfl rfl 3 (by decide) (fn_X3_178 ht) (fun _ h9 => h9) rfl dX3_leastSum_29 ?_
      refine lv_icmp_ge (tgt := 121) hx hb dX3_leastSum_32 (by decide) (fun c_1 => ?_) (fun c_1 => ?_)
      · skip
        refine lv_aload_n hx hb dX3_leastSum_121 rfl (lv_at hl 5 rfl) ?_
        refine lv_iload hx hb dX3_leastSum_122 (lv_at hl 3 rfl) ?_
        refine va_put (D := D) (ci := 4) (v := .int q2) (ty := .int) (C := RX3) (T := TX3) (N := 7) hx hb (lyX3 ht) (fun _ h9 => h9) tyX3 tyX3_ok nmX3 hown hK hP hD hS 0 rfl rfl 5 (by decide) (fl_X3_48 ht) (fun _ h9 => h9) rfl (by decide +kernel) rfl rfl (Nat.le_of_ble_eq_true rfl) dX3_leastSum_124 (fun H locs hP hD hS => ?_)
        have hP : va_P D vwCl (wI cI cJ cZ a n ah pl q2 ct1 nk pm ja rg bu pn tp st us fb kA1 tA1 lx ly gx1 gy1 gu1 gv1) H := hP
        have hD : va_D A (wI cI cJ cZ a n ah pl q2 ct1 nk pm ja rg bu pn tp st us fb kA1 tA1 lx ly gx1 gy1 gu1 gv1) := hD
        refine lv_aload_n hx hb dX3_leastSum_127 rfl (lv_at hl 5 rfl) ?_
        refine lv_iload hx hb dX3_leastSum_128 (lv_at hl 2 rfl) ?_
        refine va_put (D := D) (ci := 4) (v := .int q3) (ty := .int) (C := RX3) (T := TX3) (N := 7) hx hb (lyX3 ht) (fun _ h9 => h9) tyX3 tyX3_ok nmX3 hown hK hP hD hS 0 rfl rfl 6 (by decide) (fl_X3_51 ht) (fun _ h9 => h9) rfl (by decide +kernel) rfl rfl (Nat.le_of_ble_eq_true rfl) dX3_leastSum_130 (fun H locs hP hD hS => ?_)
        have hP : va_P D vwCl (wI cI cJ cZ a n ah pl q2 q3 nk pm ja rg bu pn tp st us fb kA1 tA1 lx ly gx1 gy1 gu1 gv1) H := hP
        have hD : va_D A (wI cI cJ cZ a n ah pl q2 q3 nk pm ja rg bu pn tp st us fb kA1 tA1 lx ly gx1 gy1 gu1 gv1) := hD
        refine lv_lload_n hx hb dX3_leastSum_133 rfl (lv_at hl 4 rfl) ?_
        exact wr_l hx hb hr hlocks hAe hP hD hS dX3_leastSum_134 (⟨_, _, _, _, _, _, by have h7 := le_le c_1 eK hz (by omega) (by omega); rw [show i = K by omega] at hq; rw [hq], by have h7 := le_le c_1 eK hz (by omega) (by omega); rw [show i = K by omega] at hq; rw [hq], hag⟩)
      · skip
        refine lv_aload_n hx hb dX3_leastSum_35 rfl (lv_at hl 5 rfl) ?_
        refine va_get (D := D) (ci := 4) (v := .ref (a 1)) (C := RX3) (T := TX3) (N := 7) hx hb (lyX3 ht) (fun _ h9 => h9) hown hK hP 0 rfl rfl 0 (by decide) (fl_X3_10 ht) (fun _ h9 => h9) rfl dX3_leastSum_36 ?_
        refine lv_iload hx hb dX3_leastSum_39 (lv_at hl 0 rfl) ?_
        refine rdVN (As := [.int z]) (rest := []) (st1 := [.int (f_X1_unused z st us)]) (k_X1_unused l D cI cJ cZ a n ah pl ck1 ct1 nk pm ja rg bu pn tp st us fb kA1 tA1 lx ly gx1 gy1 gu1 gv1 z (in_of hz (by have := (nle_lt c_1 eK hz (by omega) (by omega)); omega : i < 4) (by decide))) (si_X3_116 ht ⟨Nat.le_of_ble_eq_true rfl, Nat.le_of_ble_eq_true rfl⟩) hx hb hml hown (va_recv hK hP (ci := 2) (q0 := 1) rfl rfl) (hE.since hS) hP hK rfl hl.1 rfl (Nat.le_of_ble_eq_true rfl) ⟨Nat.zero_le _, Nat.zero_le _⟩ dX3_leastSum_41 rfl ?_
        refine lv_iconst (v := 1) hx hb dX3_leastSum_44 (by decide) ?_
        refine lv_icmp_ge (tgt := 51) hx hb dX3_leastSum_45 (by decide) (fun c_2 => ?_) (fun c_2 => ?_)
        · skip
          refine lv_iconst (v := 0) hx hb dX3_leastSum_51 (by decide) ?_
          refine lv_istore (lv' := [(9, .int 0), (8, .int z), (7, .int (f_X2_turnBefore r tA)), (6, .int q3), (5, .int q2), (3, .long q1), (0, .ref (a 0)), (1, .int r), (2, .int 1)]) hx hb dX3_leastSum_52 hl (by decide) rfl (fun ls hl => ?_)
          have lq : ∀ (N : Nat) (j : Nat) (p1 : Int64) (p2 : Int32) (p3 : Int32) (z2 : Int32) (ck2 : Int32) (ct2 : Int32) (kA2 : Nat → Int32) (tA2 : Nat → Int32) (gx2 : Nat → Int64) (gy2 : Nat → Int64) (gu2 : Nat → Int64) (gv2 : Nat → Int64), (z2 = nI j) → (j ≤ 16) → (scan (okI st us fb ja (f_X2_turnBefore r tA)) (vl1 tp (gx rn) (gy rn) (gu rn) (gv rn) (lx rn) (ly rn)) (16 * i + j) = (p1, p2, p3)) → (agI rn kA tA gx gy gu gv kA2 tA2 gx2 gy2 gu2 gv2) → 16 - j < N → ∀ (H : Heap) (locs : List Loc), va_P D vwCl (wI cI cJ cZ a n ah pl ck2 ct2 nk pm ja rg bu pn tp st us fb kA2 tA2 lx ly gx2 gy2 gu2 gv2) H → va_D A (wI cI cJ cZ a n ah pl ck2 ct2 nk pm ja rg bu pn tp st us fb kA2 tA2 lx ly gx2 gy2 gu2 gv2) → va_S A s.heap H locs → ∀ (ls : Array Slot), lv_has ls 12 [(9, .int z2), (8, .int z), (7, .int (f_X2_turnBefore r tA)), (6, .int p3), (5, .int p2), (3, .long p1), (0, .ref (a 0)), (1, .int r), (2, .int 1)] → W p l e (rmD 3 0 0) s m ([.ref (a 0), .int r, .int 1] : List Value).toArray below meth c H locs 0 0 (MQ below (QcW D (wI cI cJ cZ a n ah pl ck ct nk pm ja rg bu pn tp st us fb kA tA lx ly gx gy gu gv) s.heap.size (fun ov w' => ∃ (kA' tA' : Nat → Int32) (gx' gy' gu' gv' : Nat → Int64), ov = some (.long (scan (okI st us fb ja (f_X2_turnBefore r tA)) (vl1 tp (gx rn) (gy rn) (gu rn) (gv rn) (lx rn) (ly rn)) (16 * K)).1) ∧ w' = wI cI cJ cZ a n ah pl ((scan (okI st us fb ja (f_X2_turnBefore r tA)) (vl1 tp (gx rn) (gy rn) (gu rn) (gv rn) (lx rn) (ly rn)) (16 * K)).2.1) ((scan (okI st us fb ja (f_X2_turnBefore r tA)) (vl1 tp (gx rn) (gy rn) (gu rn) (gv rn) (lx rn) (ly rn)) (16 * K)).2.2) nk pm ja rg bu pn tp st us fb kA' tA' lx ly gx' gy' gu' gv' ∧ agI rn kA tA gx gy gu gv kA' tA' gx' gy' gu' gv')) ([.ref (a 0), .int r, .int 1] : List Value).toArray s 0 0 A) (F0 m 54 ls []) := by
            intro N
            induction N with
            | zero => intro j p1 p2 p3 z2 ck2 ct2 kA2 tA2 gx2 gy2 gu2 gv2 _ _ _ _ hN; exact absurd hN (Nat.not_lt_zero _)
            | succ N lq_ih =>
              intro j p1 p2 p3 z2 ck2 ct2 kA2 tA2 gx2 gy2 gu2 gv2 hz2 hj hq2 hag2 hN H locs hP hD hS ls hl
              refine lv_iload hx hb dX3_leastSum_54 (lv_at hl 0 rfl) ?_
              refine lv_bipush (v := 16) hx hb dX3_leastSum_56 (by decide) ?_
              refine lv_icmp_ge (tgt := 115) hx hb dX3_leastSum_58 (by decide) (fun c_3 => ?_) (fun c_3 => ?_)
              · skip
                have h7 := (nle_lt c_1 eK hz (by omega) (by omega))
                have h6 := le_le c_3 (show (16 : Int32) = nI 16 from rfl) hz2 (by omega) (by omega)
                have hs9 : scan (okI st us fb ja (f_X2_turnBefore r tA)) (vl1 tp (gx rn) (gy rn) (gu rn) (gv rn) (lx rn) (ly rn)) (16 * (i + 1)) = (p1, p2, p3) := by rw [Nat.mul_succ]; rw [show j = 16 by omega] at hq2; exact hq2
                refine lv_iinc (v := z + 1) (lv' := [(8, .int (z + 1)), (9, .int z2), (7, .int (f_X2_turnBefore r tA)), (6, .int p3), (5, .int p2), (3, .long p1), (0, .ref (a 0)), (1, .int r), (2, .int 1)]) hx hb dX3_leastSum_115 hl (k := 1) rfl rfl (by decide) rfl (fun ls hl => ?_)
                refine lv_goto (tgt := 23) hx hb dX3_leastSum_118 (by decide) ?_
                exact lp_ih (i + 1) p1 p2 p3 (z + 1) ck2 ct2 kA2 tA2 gx2 gy2 gu2 gv2 (nI_s hz) (by omega) hs9 hag2 (by omega) _ _ hP hD hS ls (lv_sub hl [0, 2, 3, 4, 5, 6, 7, 8] rfl)
              · skip
                refine lv_aload_n hx hb dX3_leastSum_61 rfl (lv_at hl 6 rfl) ?_
                refine va_get (D := D) (ci := 4) (v := .ref (a 5)) (C := RX3) (T := TX3) (N := 7) hx hb (lyX3 ht) (fun _ h9 => h9) hown hK hP 0 rfl rfl 1 (by decide) (fl_X3_19 ht) (fun _ h9 => h9) rfl dX3_leastSum_62 ?_
                refine lv_iload hx hb dX3_leastSum_65 (lv_at hl 0 rfl) ?_
                refine lv_iload hx hb dX3_leastSum_67 (lv_at hl 2 rfl) ?_
                refine rdVN (As := [.int z2, .int (f_X2_turnBefore r tA)]) (rest := []) (st1 := [.int (f_X0_fits z2 (f_X2_turnBefore r tA) ja fb)]) (k_X0_fits l D cI cJ cZ a n ah pl ck2 ct2 nk pm ja rg bu pn tp st us fb kA2 tA2 lx ly gx2 gy2 gu2 gv2 z2 (f_X2_turnBefore r tA) (in_of hz2 (by have := nle_lt c_3 (show (16 : Int32) = nI 16 from rfl) hz2 (by omega) (by omega); omega : j < 16) (by decide)) hja) (si_X3_203 ht ⟨Nat.le_of_ble_eq_true rfl, Nat.le_of_ble_eq_true rfl⟩) hx hb hml hown (va_recv hK hP (ci := 1) (q0 := 5) rfl rfl) (hE.since hS) hP hK rfl hl.1 rfl (Nat.le_of_ble_eq_true rfl) ⟨Nat.zero_le _, Nat.zero_le _⟩ dX3_leastSum_69 rfl ?_
                refine lv_if_ne (tgt := 78) hx hb dX3_leastSum_72 (by decide) (fun c_4 => ?_) (fun c_4 => ?_)
                · skip
                  refine lv_aload_n hx hb dX3_leastSum_78 rfl (lv_at hl 6 rfl) ?_
                  refine lv_iload_n hx hb dX3_leastSum_79 rfl (lv_at hl 7 rfl) ?_
                  refine lv_iload_n hx hb dX3_leastSum_80 rfl (lv_at hl 8 rfl) ?_
                  refine lv_iload hx hb dX3_leastSum_81 (lv_at hl 1 rfl) ?_
                  refine lv_iload hx hb dX3_leastSum_83 (lv_at hl 0 rfl) ?_
                  refine lv_lload_n hx hb dX3_leastSum_85 rfl (lv_at hl 5 rfl) ?_
                  refine wrV (As := [.int r, .int 1, .int z, .int z2, .long p1]) (rest := []) (k_X3_sumWith1 l D cI cJ cZ a n ah pl ck2 ct2 nk pm ja rg bu pn tp st us fb kA2 tA2 lx ly gx2 gy2 gu2 gv2 r z z2 p1 rn i j er hrn hn hz (by have := (nle_lt c_1 eK hz (by omega) (by omega)); omega) hz2) (si_X3_207 ht ⟨Nat.le_of_ble_eq_true rfl, Nat.le_of_ble_eq_true rfl⟩) hx hb hml hown (va_recv hK hP (ci := 4) (q0 := 0) rfl rfl) hE hP hK hD hS hA rfl hl.1 rfl (Nat.le_of_ble_eq_true rfl) ⟨Nat.zero_le _, Nat.zero_le _⟩ dX3_leastSum_86 (fun ov w' H locs hpost hP hD hS => ?_)
                  obtain ⟨ck_5, ct_5, kA_5, tA_5, gx_5, gy_5, gu_5, gv_5, rfl, rfl, hag_5⟩ := hpost
                  refine W.st (st1 := [.long (vl1 tp (gx2 rn) (gy2 rn) (gu2 rn) (gv2 rn) (lx rn) (ly rn) i j p1)]) rfl ?_
                  have hP : va_P D vwCl (wI cI cJ cZ a n ah pl ck_5 ct_5 nk pm ja rg bu pn tp st us fb kA_5 tA_5 lx ly gx_5 gy_5 gu_5 gv_5) H := hP
                  have hD : va_D A (wI cI cJ cZ a n ah pl ck_5 ct_5 nk pm ja rg bu pn tp st us fb kA_5 tA_5 lx ly gx_5 gy_5 gu_5 gv_5) := hD
                  refine lv_topl (fun u_5 eu_5 => ?_)
                  refine lv_lstore (lv' := [(10, .long u_5), (9, .int z2), (8, .int z), (7, .int (f_X2_turnBefore r tA)), (6, .int p3), (5, .int p2), (3, .long p1), (0, .ref (a 0)), (1, .int r), (2, .int 1)]) hx hb dX3_leastSum_89 hl (by decide) rfl (fun ls hl => ?_)
                  refine lv_lload hx hb dX3_leastSum_91 (lv_at hl 0 rfl) ?_
                  refine lv_lload_n hx hb dX3_leastSum_93 rfl (lv_at hl 6 rfl) ?_
                  refine W.lcmp hx hb dX3_leastSum_94 ?_
                  refine lv_if_ge (tgt := 109) hx hb dX3_leastSum_95 (by decide) (fun c_6 => ?_) (fun c_6 => ?_)
                  · skip
                    have h8 : j < 16 := nle_lt c_3 (show (16 : Int32) = nI 16 from rfl) hz2 (by omega) (by omega)
                    have h81 : 1 ≤ st i - us i := by have h7 := c_2; unfold f_X1_unused at h7; rw [cl_of hz (by omega)] at h7; exact h7
                    have hok : okI st us fb ja (f_X2_turnBefore r tA) i j = true := okI_t h81 (by rw [← hz2]; exact c_4)
                    have eu : u_5 = vl1 tp (gx rn) (gy rn) (gu rn) (gv rn) (lx rn) (ly rn) i j p1 := by rw [eu_5, hag2.2.2.1 rn (by omega), hag2.2.2.2.1 rn (by omega), hag2.2.2.2.2.1 rn (by omega), hag2.2.2.2.2.2 rn (by omega)]
                    have hs8 : scan (okI st us fb ja (f_X2_turnBefore r tA)) (vl1 tp (gx rn) (gy rn) (gu rn) (gv rn) (lx rn) (ly rn)) (16 * i + (j + 1)) = (p1, p2, p3) := scan_ge h8 hq2 hok (by rw [← eu]; exact Int64.not_lt.mpr ((lg_cmp_ge _ _).mp c_6))
                    refine lv_iinc (v := z2 + 1) (lv' := [(9, .int (z2 + 1)), (10, .long u_5), (8, .int z), (7, .int (f_X2_turnBefore r tA)), (6, .int p3), (5, .int p2), (3, .long p1), (0, .ref (a 0)), (1, .int r), (2, .int 1)]) hx hb dX3_leastSum_109 hl (k := 1) rfl rfl (by decide) rfl (fun ls hl => ?_)
                    refine lv_goto (tgt := 54) hx hb dX3_leastSum_112 (by decide) ?_
                    exact lq_ih (j + 1) p1 p2 p3 (z2 + 1) ck_5 ct_5 kA_5 tA_5 gx_5 gy_5 gu_5 gv_5 (nI_s hz2) (by omega) hs8 (agI.tr hag2 hag_5) (by omega) _ _ hP hD hS ls (lv_sub hl [0, 2, 3, 4, 5, 6, 7, 8, 9] rfl)
                  · skip
                    refine lv_lload hx hb dX3_leastSum_98 (lv_at hl 0 rfl) ?_
                    refine lv_lstore_n (lv' := [(3, .long u_5), (10, .long u_5), (9, .int z2), (8, .int z), (7, .int (f_X2_turnBefore r tA)), (6, .int p3), (5, .int p2), (0, .ref (a 0)), (1, .int r), (2, .int 1)]) hx hb dX3_leastSum_100 rfl hl (by decide) rfl (fun ls hl => ?_)
                    refine lv_iload hx hb dX3_leastSum_101 (lv_at hl 3 rfl) ?_
                    refine lv_istore (lv' := [(5, .int z), (3, .long u_5), (10, .long u_5), (9, .int z2), (8, .int z), (7, .int (f_X2_turnBefore r tA)), (6, .int p3), (0, .ref (a 0)), (1, .int r), (2, .int 1)]) hx hb dX3_leastSum_103 hl (by decide) rfl (fun ls hl => ?_)
                    refine lv_iload hx hb dX3_leastSum_105 (lv_at hl 3 rfl) ?_
                    refine lv_istore (lv' := [(6, .int z2), (5, .int z), (3, .long u_5), (10, .long u_5), (9, .int z2), (8, .int z), (7, .int (f_X2_turnBefore r tA)), (0, .ref (a 0)), (1, .int r), (2, .int 1)]) hx hb dX3_leastSum_107 hl (by decide) rfl (fun ls hl => ?_)
                    have h8 : j < 16 := nle_lt c_3 (show (16 : Int32) = nI 16 from rfl) hz2 (by omega) (by omega)
                    have h81 : 1 ≤ st i - us i := by have h7 := c_2; unfold f_X1_unused at h7; rw [cl_of hz (by omega)] at h7; exact h7
                    have hok : okI st us fb ja (f_X2_turnBefore r tA) i j = true := okI_t h81 (by rw [← hz2]; exact c_4)
                    have eu : u_5 = vl1 tp (gx rn) (gy rn) (gu rn) (gv rn) (lx rn) (ly rn) i j p1 := by rw [eu_5, hag2.2.2.1 rn (by omega), hag2.2.2.2.1 rn (by omega), hag2.2.2.2.2.1 rn (by omega), hag2.2.2.2.2.2 rn (by omega)]
                    have hs8 : scan (okI st us fb ja (f_X2_turnBefore r tA)) (vl1 tp (gx rn) (gy rn) (gu rn) (gv rn) (lx rn) (ly rn)) (16 * i + (j + 1)) = (u_5, z, z2) := by rw [scan_lt h8 hq2 hok (by rw [← eu]; exact Int64.not_le.mp (fun h => c_6 ((lg_cmp_ge _ _).mpr h))), ← eu, ← hz, ← hz2]
                    refine lv_iinc (v := z2 + 1) (lv' := [(9, .int (z2 + 1)), (6, .int z2), (5, .int z), (3, .long u_5), (10, .long u_5), (8, .int z), (7, .int (f_X2_turnBefore r tA)), (0, .ref (a 0)), (1, .int r), (2, .int 1)]) hx hb dX3_leastSum_109 hl (k := 4) rfl rfl (by decide) rfl (fun ls hl => ?_)
                    refine lv_goto (tgt := 54) hx hb dX3_leastSum_112 (by decide) ?_
                    exact lq_ih (j + 1) u_5 z z2 (z2 + 1) ck_5 ct_5 kA_5 tA_5 gx_5 gy_5 gu_5 gv_5 (nI_s hz2) (by omega) hs8 (agI.tr hag2 hag_5) (by omega) _ _ hP hD hS ls (lv_sub hl [0, 5, 6, 1, 2, 3, 7, 8, 9] rfl)
                · skip
                  refine lv_goto (tgt := 109) hx hb dX3_leastSum_75 (by decide) ?_
                  have h8 : j < 16 := nle_lt c_3 (show (16 : Int32) = nI 16 from rfl) hz2 (by omega) (by omega)
                  have hs8 : scan (okI st us fb ja (f_X2_turnBefore r tA)) (vl1 tp (gx rn) (gy rn) (gu rn) (gv rn) (lx rn) (ly rn)) (16 * i + (j + 1)) = (p1, p2, p3) := by rw [scan_no h8 (okI_f2 (by rw [← hz2]; exact c_4))]; exact hq2
                  refine lv_iinc (v := z2 + 1) (lv' := [(9, .int (z2 + 1)), (8, .int z), (7, .int (f_X2_turnBefore r tA)), (6, .int p3), (5, .int p2), (3, .long p1), (0, .ref (a 0)), (1, .int r), (2, .int 1)]) hx hb dX3_leastSum_109 hl (k := 0) rfl rfl (by decide) rfl (fun ls hl => ?_)
                  refine lv_goto (tgt := 54) hx hb dX3_leastSum_112 (by decide) ?_
                  exact lq_ih (j + 1) p1 p2 p3 (z2 + 1) ck2 ct2 kA2 tA2 gx2 gy2 gu2 gv2 (nI_s hz2) (by omega) hs8 hag2 (by omega) _ _ hP hD hS ls (lv_sub hl [0, 1, 2, 3, 4, 5, 6, 7, 8] rfl)
          exact lq _ 0 q1 q2 q3 0 ck1 ct1 kA1 tA1 gx1 gy1 gu1 gv1 rfl (Nat.zero_le _) hq hag (Nat.lt_succ_self _) _ _ hP hD hS ls (lv_sub hl [0, 1, 2, 3, 4, 5, 6, 7, 8] rfl)
        · skip
          refine lv_goto (tgt := 115) hx hb dX3_leastSum_48 (by decide) ?_
          have h7 := (nle_lt c_1 eK hz (by omega) (by omega))
          have hs9 : scan (okI st us fb ja (f_X2_turnBefore r tA)) (vl1 tp (gx rn) (gy rn) (gu rn) (gv rn) (lx rn) (ly rn)) (16 * (i + 1)) = (q1, q2, q3) := by rw [Nat.mul_succ, scan_skip (fun j => okI_f1 (by have h6 := c_2; unfold f_X1_unused at h6; rw [cl_of hz (by omega)] at h6; exact h6)) 16 (by omega)]; exact hq
          refine lv_iinc (v := z + 1) (lv' := [(8, .int (z + 1)), (7, .int (f_X2_turnBefore r tA)), (6, .int q3), (5, .int q2), (3, .long q1), (0, .ref (a 0)), (1, .int r), (2, .int 1)]) hx hb dX3_leastSum_115 hl (k := 0) rfl rfl (by decide) rfl (fun ls hl => ?_)
          refine lv_goto (tgt := 23) hx hb dX3_leastSum_118 (by decide) ?_
          exact lp_ih (i + 1) q1 q2 q3 (z + 1) ck1 ct1 kA1 tA1 gx1 gy1 gu1 gv1 (nI_s hz) (by omega) hs9 hag (by omega) _ _ hP hD hS ls (lv_sub hl [0, 1, 2, 3, 4, 5, 6, 7] rfl)
  exact lp _ 0 4611686018427387904 (-1) (-1) 0 ck ct kA tA gx gy gu gv rfl (Nat.zero_le _) rfl agI.rf (Nat.lt_succ_self _) _ _ hP hD hS ls (lv_sub hl [0, 1, 2, 3, 4, 5, 6, 7] rfl)
