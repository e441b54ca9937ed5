/-- the choice for ring c -/
def chP (n K : Nat) (ah : Int32) (tp st fb : Nat → Int32) (ja : Int32) (lx ly : Nat → Int64) (c : Nat) (tA : Nat → Int32) (gx gy gu gv : Nat → Int64) (us : Nat → Int32) : Int64 × Int32 × Int32 :=
  chI (decide (ah = 2 ∧ c + 1 < n)) K tp st us fb ja (f_X2_turnBefore (nI c) tA) (gx c) (gy c) (gu c) (gv c) (lx c) (ly c) (lx (c + 1)) (ly (c + 1))
/-- ring by ring from c on: what a plan comes to -/
def plR (n K : Nat) (ah : Int32) (tp st fb : Nat → Int32) (ja : Int32) (lx ly : Nat → Int64) : Nat → Nat → (Nat → Int32) → (Nat → Int32) → (Nat → Int64) → (Nat → Int64) → (Nat → Int64) → (Nat → Int64) → (Nat → Int32) → Nat → (Nat → Int32) → (Nat → Int32) → (Nat → Int64) → (Nat → Int64) → (Nat → Int64) → (Nat → Int64) → (Nat → Int32) → Prop
  | 0, c, kA, tA, gx, gy, gu, gv, us, c', kA', tA', gx', gy', gu', gv', us' => c' = c ∧ kA' = kA ∧ tA' = tA ∧ gx' = gx ∧ gy' = gy ∧ gu' = gu ∧ gv' = gv ∧ us' = us
  | f + 1, c, kA, tA, gx, gy, gu, gv, us, c', kA', tA', gx', gy', gu', gv', us' =>
    if c < n ∧ ¬ (chP n K ah tp st fb ja lx ly c tA gx gy gu gv us).1 = noW then
      plR n K ah tp st fb ja lx ly f (c + 1) (upd kA c (chP n K ah tp st fb ja lx ly c tA gx gy gu gv us).2.1) (upd tA c (chP n K ah tp st fb ja lx ly c tA gx gy gu gv us).2.2)
        (vp_updL gx (c + 1) (pX (gx c) (gu c) (tp (chP n K ah tp st fb ja lx ly c tA gx gy gu gv us).2.1.toNatClampNeg) (chP n K ah tp st fb ja lx ly c tA gx gy gu gv us).2.2))
        (vp_updL gy (c + 1) (pY (gy c) (gv c) (tp (chP n K ah tp st fb ja lx ly c tA gx gy gu gv us).2.1.toNatClampNeg) (chP n K ah tp st fb ja lx ly c tA gx gy gu gv us).2.2))
        (vp_updL gu (c + 1) (pU (gu c) (tp (chP n K ah tp st fb ja lx ly c tA gx gy gu gv us).2.1.toNatClampNeg) (chP n K ah tp st fb ja lx ly c tA gx gy gu gv us).2.2))
        (vp_updL gv (c + 1) (pV (gv c) (tp (chP n K ah tp st fb ja lx ly c tA gx gy gu gv us).2.1.toNatClampNeg) (chP n K ah tp st fb ja lx ly c tA gx gy gu gv us).2.2))
        (f_X1_take_us (chP n K ah tp st fb ja lx ly c tA gx gy gu gv us).2.1 us) c' kA' tA' gx' gy' gu' gv' us'
    else c' = c ∧ kA' = kA ∧ tA' = tA ∧ gx' = gx ∧ gy' = gy ∧ gu' = gu ∧ gv' = gv ∧ us' = us
theorem min_d1 {rg r ah : Int32} {n c : Nat} (e1 : rg = nI n) (e2 : r = nI c) (h : c < n) (hn : n ≤ 24) (ha : ah = 1 ∨ ah = 2) (h2 : ¬ (ah = 2 ∧ c + 1 < n)) : (if rg - r < ah then rg - r else ah) = 1 := by
  have e : rg - r = nI (n - c) := by rw [e1, e2]; exact pk_sub (by omega)
  rw [e]
  rcases ha with rfl | rfl
  · rw [if_neg]
    rw [show (1 : Int32) = nI 1 from rfl, nI_ltI (by omega) (by omega)]; omega
  · have hc : n - c = 1 := by
      have : ¬ c + 1 < n := fun h => h2 ⟨rfl, h⟩
      omega
    rw [hc]; rfl
theorem min_d2 {rg r ah : Int32} {n c : Nat} (e1 : rg = nI n) (e2 : r = nI c) (hn : n ≤ 24) (h2 : ah = 2 ∧ c + 1 < n) : (if rg - r < ah then rg - r else ah) = 2 := by
  obtain ⟨rfl, h⟩ := h2
  have e : rg - r = nI (n - c) := by rw [e1, e2]; exact pk_sub (by omega)
  rw [e, if_neg]
  rw [show (2 : Int32) = nI 2 from rfl, nI_ltI (by omega) (by omega)]; omega
set_option maxRecDepth 20000 in
set_option maxHeartbeats 4000000 in
theorem k_X3_run (l : Launch) (D : va_G) (cI cJ cZ : ClassId) (a : Nat → Nat) (n : Nat) (ah pl ck ct nk pm ja rg bu pn : Int32) (tp st us fb kA tA : Nat → Int32) (lx ly gx gy gu gv : Nat → Int64)  (B S K : Nat) (eB : bu = nI B) (hBS : B ≤ S) (gS : bu + pn = nI S) (hSn : S ≤ n) (hn : n ≤ 24) (hkA : ∀ i, i < S → vp_in (kA i) 4) (erg : rg = nI n) (hah : ah = 1 ∨ ah = 2) (eK : nk = nI K) (hK4 : K ≤ 4) (hja : ¬ ja = 0) : WR l yX3_run cX3_run 3 (some .int) 7 0 0 D (tysW cI cJ cZ) (wI cI cJ cZ a n ah pl ck ct nk pm ja rg bu pn tp st us fb kA tA lx ly gx gy gu gv) [.ref (a 0)] (fun ov w' => ∃ (S' : Nat) (kP tP : Nat → Int32) (xP yP uP vP : Nat → Int64) (us' : Nat → Int32) (ck' ct' : Int32) (kA' tA' : Nat → Int32) (gx' gy' gu' gv' : Nat → Int64), plR n K ah tp st fb ja lx ly (n - B) B kA tA gx gy gu gv (subK us kA B (S - B)) S' kP tP xP yP uP vP us' ∧ B ≤ S' ∧ S' ≤ n ∧ ov = some (.int (nI (S' - B))) ∧ w' = wI cI cJ cZ a n ah (pl + 1) ck' ct' nk pm ja rg bu (nI (S' - B)) tp st us' fb kA' tA' lx ly gx' gy' gu' gv' ∧ agI S' kP tP xP yP uP vP kA' tA' gx' gy' gu' gv') := by
  refine WR.of (by decide) ?_
  intro p e s m below meth c A hadm hx hb hr hml hown hlocks hname hE hP hK hD hS hA hAe
  have hown : s.vm.findClass RX3 = some m.cls := hown
  have ht : tb_OK s := hE.1
  have hl := lv_entry ([.ref (a 0)]) (n := 3) (Nat.le_of_ble_eq_true rfl)
  rw [lg_entry_eq]
  generalize (lg_sl ([.ref (a 0)]) ++ List.replicate (3 - (lg_sl ([.ref (a 0)])).length) Slot.unset).toArray = ls at hl ⊢
  have hl : lv_has ls 3 [(0, .ref (a 0))] := hl
  refine lv_aload_n hx hb dX3_run_0 rfl (lv_at hl 0 rfl) ?_
  refine lv_dup hx hb dX3_run_1 rfl ?_
  refine va_get (D := D) (ci := 4) (v := .int pl) (C := RX3) (T := TX3) (N := 7) hx hb (lyX3 ht) (fun _ h9 => h9) hown hK hP 0 rfl rfl 4 (by decide) (fl_X3_45 ht) (fun _ h9 => h9) rfl dX3_run_2 ?_
  refine lv_iconst (v := 1) hx hb dX3_run_5 (by decide) ?_
  refine lv_iadd hx hb dX3_run_6 ?_
  refine va_put (D := D) (ci := 4) (v := .int (pl + 1)) (ty := .int) (C := RX3) (T := TX3) (N := 7) hx hb (lyX3 ht) (fun _ h9 => h9) tyX3 tyX3_ok nmX3 hown hK hP hD hS 0 rfl rfl 4 (by decide) (fl_X3_45 ht) (fun _ h9 => h9) rfl (by decide +kernel) rfl rfl (Nat.le_of_ble_eq_true rfl) dX3_run_7 (fun H locs hP hD hS => ?_)
  have hP : va_P D vwCl (wI cI cJ cZ a n ah (pl + 1) ck ct nk pm ja rg bu pn tp st us fb kA tA lx ly gx gy gu gv) H := hP
  have hD : va_D A (wI cI cJ cZ a n ah (pl + 1) ck ct nk pm ja rg bu pn tp st us fb kA tA lx ly gx gy gu gv) := hD
  refine lv_aload_n hx hb dX3_run_10 rfl (lv_at hl 0 rfl) ?_
  refine wrV (As := []) (rest := []) (k_X3_openPlanned l D cI cJ cZ a n ah (pl + 1) ck ct nk pm ja rg bu pn tp st us fb kA tA lx ly gx gy gu gv B S eB hBS gS hSn hn hkA) (si_X3_92 ht ⟨Nat.le_of_ble_eq_true rfl, Nat.le_of_ble_eq_true rfl⟩) hx hb hml hown (va_recv hK hP (ci := 4) (q0 := 0) rfl rfl) hE hP hK hD hS hA rfl hl.1 rfl (Nat.le_of_ble_eq_true rfl) ⟨Nat.zero_le _, Nat.zero_le _⟩ dX3_run_11 (fun ov w' H locs hpost hP hD hS => ?_)
  obtain ⟨rfl, rfl⟩ := hpost
  refine W.st (st1 := []) rfl ?_
  have hP : va_P D vwCl (wI cI cJ cZ a n ah (pl + 1) ck ct nk pm ja rg bu f_X3_openPlanned_pn tp st (f_X3_openPlanned_us B S us kA) fb kA tA lx ly gx gy gu gv) H := hP
  have hD : va_D A (wI cI cJ cZ a n ah (pl + 1) ck ct nk pm ja rg bu f_X3_openPlanned_pn tp st (f_X3_openPlanned_us B S us kA) fb kA tA lx ly gx gy gu gv) := hD
  refine lv_iconst (v := 1) hx hb dX3_run_14 (by decide) ?_
  refine lv_istore_n (lv' := [(1, .int 1), (0, .ref (a 0))]) hx hb dX3_run_15 rfl hl (by decide) rfl (fun ls hl => ?_)
  refine lv_aload_n hx hb dX3_run_16 rfl (lv_at hl 1 rfl) ?_
  refine va_get (D := D) (ci := 4) (v := .ref (a 7)) (C := RX3) (T := TX3) (N := 7) hx hb (lyX3 ht) (fun _ h9 => h9) hown hK hP 0 rfl rfl 2 (by decide) (fl_X3_37 ht) (fun _ h9 => h9) rfl dX3_run_17 ?_
  refine va_getN (D := D) (ci := 3) (v := .int bu) (C := RX2) (T := TX2) (N := 11) hx hb (lyX2 ht) (fun _ h9 => h9) hown hK hP 7 rfl rfl 1 (by decide) (fn_X3_95 ht) (fun _ h9 => h9) rfl dX3_run_20 ?_
  refine lv_istore_n (lv' := [(2, .int bu), (1, .int 1), (0, .ref (a 0))]) hx hb dX3_run_23 rfl hl (by decide) rfl (fun ls hl => ?_)
  have lp : ∀ (N : Nat) (cr : Nat) (kP : Nat → Int32) (tP : Nat → Int32) (xP : Nat → Int64) (yP : Nat → Int64) (uP : Nat → Int64) (vP : Nat → Int64) (mu : Nat) (fd : Int32) (z : Int32) (ck1 : Int32) (ct1 : Int32) (pn1 : Int32) (us1 : Nat → Int32) (kA1 : Nat → Int32) (tA1 : Nat → Int32) (gx1 : Nat → Int64) (gy1 : Nat → Int64) (gu1 : Nat → Int64) (gv1 : Nat → Int64), (fd = 0 ∨ fd = 1) → (B ≤ cr) → (cr ≤ n) → (pn1 = nI (cr - B)) → (agI cr kP tP xP yP uP vP kA1 tA1 gx1 gy1 gu1 gv1) → (fd = 1 → z = nI cr ∧ ∀ c' k' t' x' y' u' v' w', plR n K ah tp st fb ja lx ly (n - cr) cr kP tP xP yP uP vP us1 c' k' t' x' y' u' v' w' → plR n K ah tp st fb ja lx ly (n - B) B kA tA gx gy gu gv (subK us kA B (S - B)) c' k' t' x' y' u' v' w') → (fd = 0 → plR n K ah tp st fb ja lx ly (n - B) B kA tA gx gy gu gv (subK us kA B (S - B)) cr kP tP xP yP uP vP us1) → (fd = 1 → mu = n + 1 - cr) → mu < N → ∀ (H : Heap) (locs : List Loc), va_P D vwCl (wI cI cJ cZ a n ah (pl + 1) ck1 ct1 nk pm ja rg bu pn1 tp st us1 fb kA1 tA1 lx ly gx1 gy1 gu1 gv1) H → va_D A (wI cI cJ cZ a n ah (pl + 1) ck1 ct1 nk pm ja rg bu pn1 tp st us1 fb kA1 tA1 lx ly gx1 gy1 gu1 gv1) → va_S A s.heap H locs → ∀ (ls : Array Slot), lv_has ls 3 [(2, .int z), (1, .int fd), (0, .ref (a 0))] → W p l e (rmD 7 0 0) s m ([.ref (a 0)] : List Value).toArray below meth c H locs 0 0 (MQ below (QcW D (wI cI cJ cZ a n ah pl ck ct nk pm ja rg bu pn tp st us fb kA tA lx ly gx gy gu gv) s.heap.size (fun ov w' => ∃ (S' : Nat) (kP tP : Nat → Int32) (xP yP uP vP : Nat → Int64) (us' : Nat → Int32) (ck' ct' : Int32) (kA' tA' : Nat → Int32) (gx' gy' gu' gv' : Nat → Int64), plR n K ah tp st fb ja lx ly (n - B) B kA tA gx gy gu gv (subK us kA B (S - B)) S' kP tP xP yP uP vP us' ∧ B ≤ S' ∧ S' ≤ n ∧ ov = some (.int (nI (S' - B))) ∧ w' = wI cI cJ cZ a n ah (pl + 1) ck' ct' nk pm ja rg bu (nI (S' - B)) tp st us' fb kA' tA' lx ly gx' gy' gu' gv' ∧ agI S' kP tP xP yP uP vP kA' tA' gx' gy' gu' gv')) ([.ref (a 0)] : List Value).toArray s 0 0 A) (F0 m 24 ls []) := by
    intro N
    induction N with
    | zero => intro cr kP tP xP yP uP vP mu fd z ck1 ct1 pn1 us1 kA1 tA1 gx1 gy1 gu1 gv1 _ _ _ _ _ _ _ _ hN; exact absurd hN (Nat.not_lt_zero _)
    | succ N lp_ih =>
      intro cr kP tP xP yP uP vP mu fd z ck1 ct1 pn1 us1 kA1 tA1 gx1 gy1 gu1 gv1 hfd hBc hcn_ epn hag hon hdn hmu hN H locs hP hD hS ls hl
      refine lv_iload_n hx hb dX3_run_24 rfl (lv_at hl 1 rfl) ?_
      refine lv_if_eq (tgt := 51) hx hb dX3_run_25 (by decide) (fun c_1 => ?_) (fun c_1 => ?_)
      · skip
        refine lv_aload_n hx hb dX3_run_51 rfl (lv_at hl 2 rfl) ?_
        refine va_get (D := D) (ci := 4) (v := .ref (a 7)) (C := RX3) (T := TX3) (N := 7) hx hb (lyX3 ht) (fun _ h9 => h9) hown hK hP 0 rfl rfl 2 (by decide) (fl_X3_37 ht) (fun _ h9 => h9) rfl dX3_run_52 ?_
        refine va_getN (D := D) (ci := 3) (v := .int pn1) (C := RX2) (T := TX2) (N := 11) hx hb (lyX2 ht) (fun _ h9 => h9) hown hK hP 7 rfl rfl 2 (by decide) (fn_X3_104 ht) (fun _ h9 => h9) rfl dX3_run_55 ?_
        exact wr_i hx hb hr hlocks hAe hP hD hS dX3_run_58 (⟨cr, _, _, _, _, _, _, _, _, _, _, _, _, _, _, _, hdn c_1, hBc, hcn_, by rw [epn], by rw [epn], hag⟩)
      · skip
        refine lv_iload_n hx hb dX3_run_28 rfl (lv_at hl 0 rfl) ?_
        refine lv_aload_n hx hb dX3_run_29 rfl (lv_at hl 2 rfl) ?_
        refine va_get (D := D) (ci := 4) (v := .ref (a 7)) (C := RX3) (T := TX3) (N := 7) hx hb (lyX3 ht) (fun _ h9 => h9) hown hK hP 0 rfl rfl 2 (by decide) (fl_X3_37 ht) (fun _ h9 => h9) rfl dX3_run_30 ?_
        refine va_getN (D := D) (ci := 3) (v := .int rg) (C := RX2) (T := TX2) (N := 11) hx hb (lyX2 ht) (fun _ h9 => h9) hown hK hP 7 rfl rfl 0 (by decide) (fn_X3_98 ht) (fun _ h9 => h9) rfl dX3_run_33 ?_
        refine lv_icmp_ge (tgt := 51) hx hb dX3_run_36 (by decide) (fun c_2 => ?_) (fun c_2 => ?_)
        · skip
          refine lv_aload_n hx hb dX3_run_51 rfl (lv_at hl 2 rfl) ?_
          refine va_get (D := D) (ci := 4) (v := .ref (a 7)) (C := RX3) (T := TX3) (N := 7) hx hb (lyX3 ht) (fun _ h9 => h9) hown hK hP 0 rfl rfl 2 (by decide) (fl_X3_37 ht) (fun _ h9 => h9) rfl dX3_run_52 ?_
          refine va_getN (D := D) (ci := 3) (v := .int pn1) (C := RX2) (T := TX2) (N := 11) hx hb (lyX2 ht) (fun _ h9 => h9) hown hK hP 7 rfl rfl 2 (by decide) (fn_X3_104 ht) (fun _ h9 => h9) rfl dX3_run_55 ?_
          exact wr_i hx hb hr hlocks hAe hP hD hS dX3_run_58 (⟨cr, _, _, _, _, _, _, _, _, _, _, _, _, _, _, _, (by have hf1 := hfd.resolve_left c_1; obtain ⟨hz, hcont⟩ := hon hf1; have h9 := le_le c_2 erg hz (by omega) (by omega); exact hcont _ _ _ _ _ _ _ _ (by rw [show n - cr = 0 by omega]; exact ⟨rfl, rfl, rfl, rfl, rfl, rfl, rfl, rfl⟩)), hBc, hcn_, by rw [epn], by rw [epn], hag⟩)
        · skip
          refine lv_aload_n hx hb dX3_run_39 rfl (lv_at hl 2 rfl) ?_
          refine lv_iload_n hx hb dX3_run_40 rfl (lv_at hl 0 rfl) ?_
          have hf1 : fd = 1 := hfd.resolve_left c_1
          obtain ⟨hz, hcont⟩ := hon hf1
          have hcn : cr < n := nle_lt c_2 erg hz (by omega) (by omega)
          by_cases hd : ah = 2 ∧ cr + 1 < n
          · skip
            refine wrV (As := [.int z]) (rest := []) (k_X3_planRing2 l D cI cJ cZ a n ah (pl + 1) ck1 ct1 nk pm ja rg bu pn1 tp st us1 fb kA1 tA1 lx ly gx1 gy1 gu1 gv1 z cr K hz hcn hn eK hK4 hja (min_d2 erg hz hn hd) hd.2) (si_X3_101 ht ⟨Nat.le_of_ble_eq_true rfl, Nat.le_of_ble_eq_true rfl⟩) hx hb hml hown (va_recv hK hP (ci := 4) (q0 := 0) rfl rfl) hE hP hK hD hS hA rfl hl.1 rfl (Nat.le_of_ble_eq_true rfl) ⟨Nat.zero_le _, Nat.zero_le _⟩ dX3_run_41 (fun ov w' H locs hpost hP hD hS => ?_)
            have ech : chI true K tp st us1 fb ja (f_X2_turnBefore z tA1) (gx1 cr) (gy1 cr) (gu1 cr) (gv1 cr) (lx cr) (ly cr) (lx (cr + 1)) (ly (cr + 1)) = chP n K ah tp st fb ja lx ly cr tP xP yP uP vP us1 := by unfold chP; rw [decide_eq_true hd, hz, tb_ag rfl (by omega) hag.2.1, hag.2.2.1 cr (by omega), hag.2.2.2.1 cr (by omega), hag.2.2.2.2.1 cr (by omega), hag.2.2.2.2.2 cr (by omega)]
            rw [ech] at hpost
            obtain ⟨ck3, ct3, kA3, tA3, gx3, gy3, gu3, gv3, hpost⟩ := hpost
            rcases hpost with ⟨hno, rfl, rfl, hag3⟩ | ⟨hno, rfl, rfl, hag3⟩
            · skip
              refine W.st (st1 := [.int 0]) rfl ?_
              have hP : va_P D vwCl (wI cI cJ cZ a n ah (pl + 1) ck3 ct3 nk pm ja rg bu pn1 tp st us1 fb kA3 tA3 lx ly gx3 gy3 gu3 gv3) H := hP
              have hD : va_D A (wI cI cJ cZ a n ah (pl + 1) ck3 ct3 nk pm ja rg bu pn1 tp st us1 fb kA3 tA3 lx ly gx3 gy3 gu3 gv3) := hD
              refine lv_istore_n (lv' := [(1, .int 0), (2, .int z), (0, .ref (a 0))]) hx hb dX3_run_44 rfl hl (by decide) rfl (fun ls hl => ?_)
              have hmu1 := hmu hf1
              have hcn' : cr ≤ n := by omega
              have hstop : plR n K ah tp st fb ja lx ly (n - cr) cr kP tP xP yP uP vP us1 cr kP tP xP yP uP vP us1 := by rw [show n - cr = (n - (cr + 1)) + 1 by omega]; unfold plR; rw [if_neg (fun h => h.2 hno)]; exact ⟨rfl, rfl, rfl, rfl, rfl, rfl, rfl, rfl⟩
              refine lv_iinc (v := z + 1) (lv' := [(2, .int (z + 1)), (1, .int 0), (0, .ref (a 0))]) hx hb dX3_run_45 hl (k := 1) rfl rfl (by decide) rfl (fun ls hl => ?_)
              refine lv_goto (tgt := 24) hx hb dX3_run_48 (by decide) ?_
              exact lp_ih cr kP tP xP yP uP vP 0 0 (z + 1) ck3 ct3 pn1 us1 kA3 tA3 gx3 gy3 gu3 gv3 (Or.inl rfl) hBc hcn' epn (agI.tr hag (hag3.mono (Nat.le_refl _))) (fun h => absurd h (by decide)) (fun _ => hcont _ _ _ _ _ _ _ _ hstop) (fun h => absurd h (by decide)) (by omega) _ _ hP hD hS ls (lv_sub hl [0, 1, 2] rfl)
            · skip
              refine W.st (st1 := [.int 1]) rfl ?_
              have hP : va_P D vwCl (wI cI cJ cZ a n ah (pl + 1) ck3 ct3 nk pm ja rg bu (pn1 + 1) tp st (f_X1_take_us (chP n K ah tp st fb ja lx ly cr tP xP yP uP vP us1).2.1 us1) fb kA3 tA3 lx ly gx3 gy3 gu3 gv3) H := hP
              have hD : va_D A (wI cI cJ cZ a n ah (pl + 1) ck3 ct3 nk pm ja rg bu (pn1 + 1) tp st (f_X1_take_us (chP n K ah tp st fb ja lx ly cr tP xP yP uP vP us1).2.1 us1) fb kA3 tA3 lx ly gx3 gy3 gu3 gv3) := hD
              refine lv_istore_n (lv' := [(1, .int 1), (2, .int z), (0, .ref (a 0))]) hx hb dX3_run_44 rfl hl (by decide) rfl (fun ls hl => ?_)
              have hmu1 := hmu hf1
              have hcn' : cr ≤ n := by omega
              have hcont4 : ∀ c' k' t' x' y' u' v' w', plR n K ah tp st fb ja lx ly (n - (cr + 1)) (cr + 1) (upd kP cr (chP n K ah tp st fb ja lx ly cr tP xP yP uP vP us1).2.1) (upd tP cr (chP n K ah tp st fb ja lx ly cr tP xP yP uP vP us1).2.2) (vp_updL xP (cr + 1) (pX (xP cr) (uP cr) (tp (chP n K ah tp st fb ja lx ly cr tP xP yP uP vP us1).2.1.toNatClampNeg) (chP n K ah tp st fb ja lx ly cr tP xP yP uP vP us1).2.2)) (vp_updL yP (cr + 1) (pY (yP cr) (vP cr) (tp (chP n K ah tp st fb ja lx ly cr tP xP yP uP vP us1).2.1.toNatClampNeg) (chP n K ah tp st fb ja lx ly cr tP xP yP uP vP us1).2.2)) (vp_updL uP (cr + 1) (pU (uP cr) (tp (chP n K ah tp st fb ja lx ly cr tP xP yP uP vP us1).2.1.toNatClampNeg) (chP n K ah tp st fb ja lx ly cr tP xP yP uP vP us1).2.2)) (vp_updL vP (cr + 1) (pV (vP cr) (tp (chP n K ah tp st fb ja lx ly cr tP xP yP uP vP us1).2.1.toNatClampNeg) (chP n K ah tp st fb ja lx ly cr tP xP yP uP vP us1).2.2)) (f_X1_take_us (chP n K ah tp st fb ja lx ly cr tP xP yP uP vP us1).2.1 us1) c' k' t' x' y' u' v' w' → plR n K ah tp st fb ja lx ly (n - B) B kA tA gx gy gu gv (subK us kA B (S - B)) c' k' t' x' y' u' v' w' := fun c' k' t' x' y' u' v' w' h => hcont _ _ _ _ _ _ _ _ (by rw [show n - cr = (n - (cr + 1)) + 1 by omega]; unfold plR; rw [if_pos ⟨hcn, hno⟩]; exact h)
              have hag4 : agI (cr + 1) (upd kP cr (chP n K ah tp st fb ja lx ly cr tP xP yP uP vP us1).2.1) (upd tP cr (chP n K ah tp st fb ja lx ly cr tP xP yP uP vP us1).2.2) (vp_updL xP (cr + 1) (pX (xP cr) (uP cr) (tp (chP n K ah tp st fb ja lx ly cr tP xP yP uP vP us1).2.1.toNatClampNeg) (chP n K ah tp st fb ja lx ly cr tP xP yP uP vP us1).2.2)) (vp_updL yP (cr + 1) (pY (yP cr) (vP cr) (tp (chP n K ah tp st fb ja lx ly cr tP xP yP uP vP us1).2.1.toNatClampNeg) (chP n K ah tp st fb ja lx ly cr tP xP yP uP vP us1).2.2)) (vp_updL uP (cr + 1) (pU (uP cr) (tp (chP n K ah tp st fb ja lx ly cr tP xP yP uP vP us1).2.1.toNatClampNeg) (chP n K ah tp st fb ja lx ly cr tP xP yP uP vP us1).2.2)) (vp_updL vP (cr + 1) (pV (vP cr) (tp (chP n K ah tp st fb ja lx ly cr tP xP yP uP vP us1).2.1.toNatClampNeg) (chP n K ah tp st fb ja lx ly cr tP xP yP uP vP us1).2.2)) kA3 tA3 gx3 gy3 gu3 gv3 := by rw [← lay_kA hz (by omega), ← lay_tA hz (by omega), ← lay_gx hz (by omega), ← lay_gy hz (by omega), ← lay_gu hz (by omega), ← lay_gv hz (by omega)]; exact agI.tr (agI_lay2 hz (by omega) hag) hag3
              refine lv_iinc (v := z + 1) (lv' := [(2, .int (z + 1)), (1, .int 1), (0, .ref (a 0))]) hx hb dX3_run_45 hl (k := 1) rfl rfl (by decide) rfl (fun ls hl => ?_)
              refine lv_goto (tgt := 24) hx hb dX3_run_48 (by decide) ?_
              exact lp_ih (cr + 1) (upd kP cr (chP n K ah tp st fb ja lx ly cr tP xP yP uP vP us1).2.1) (upd tP cr (chP n K ah tp st fb ja lx ly cr tP xP yP uP vP us1).2.2) (vp_updL xP (cr + 1) (pX (xP cr) (uP cr) (tp (chP n K ah tp st fb ja lx ly cr tP xP yP uP vP us1).2.1.toNatClampNeg) (chP n K ah tp st fb ja lx ly cr tP xP yP uP vP us1).2.2)) (vp_updL yP (cr + 1) (pY (yP cr) (vP cr) (tp (chP n K ah tp st fb ja lx ly cr tP xP yP uP vP us1).2.1.toNatClampNeg) (chP n K ah tp st fb ja lx ly cr tP xP yP uP vP us1).2.2)) (vp_updL uP (cr + 1) (pU (uP cr) (tp (chP n K ah tp st fb ja lx ly cr tP xP yP uP vP us1).2.1.toNatClampNeg) (chP n K ah tp st fb ja lx ly cr tP xP yP uP vP us1).2.2)) (vp_updL vP (cr + 1) (pV (vP cr) (tp (chP n K ah tp st fb ja lx ly cr tP xP yP uP vP us1).2.1.toNatClampNeg) (chP n K ah tp st fb ja lx ly cr tP xP yP uP vP us1).2.2)) (n + 1 - (cr + 1)) 1 (z + 1) ck3 ct3 (pn1 + 1) (f_X1_take_us (chP n K ah tp st fb ja lx ly cr tP xP yP uP vP us1).2.1 us1) kA3 tA3 gx3 gy3 gu3 gv3 (Or.inr rfl) (by omega) (by omega) (by rw [epn, nI_1]; congr 1; omega) hag4 (fun _ => ⟨nI_s hz, hcont4⟩) (fun h => absurd h (by decide)) (fun _ => rfl) (by omega) _ _ hP hD hS ls (lv_sub hl [0, 1, 2] rfl)
          · skip
            refine wrV (As := [.int z]) (rest := []) (k_X3_planRing1 l D cI cJ cZ a n ah (pl + 1) ck1 ct1 nk pm ja rg bu pn1 tp st us1 fb kA1 tA1 lx ly gx1 gy1 gu1 gv1 z cr K hz hcn hn eK hK4 hja (min_d1 erg hz hcn hn hah hd)) (si_X3_101 ht ⟨Nat.le_of_ble_eq_true rfl, Nat.le_of_ble_eq_true rfl⟩) hx hb hml hown (va_recv hK hP (ci := 4) (q0 := 0) rfl rfl) hE hP hK hD hS hA rfl hl.1 rfl (Nat.le_of_ble_eq_true rfl) ⟨Nat.zero_le _, Nat.zero_le _⟩ dX3_run_41 (fun ov w' H locs hpost hP hD hS => ?_)
            have ech : chI false K tp st us1 fb ja (f_X2_turnBefore z tA1) (gx1 cr) (gy1 cr) (gu1 cr) (gv1 cr) (lx cr) (ly cr) (lx (cr + 1)) (ly (cr + 1)) = chP n K ah tp st fb ja lx ly cr tP xP yP uP vP us1 := by unfold chP; rw [decide_eq_false hd, hz, tb_ag rfl (by omega) hag.2.1, hag.2.2.1 cr (by omega), hag.2.2.2.1 cr (by omega), hag.2.2.2.2.1 cr (by omega), hag.2.2.2.2.2 cr (by omega)]
            rw [ech] at hpost
            obtain ⟨ck3, ct3, kA3, tA3, gx3, gy3, gu3, gv3, hpost⟩ := hpost
            rcases hpost with ⟨hno, rfl, rfl, hag3⟩ | ⟨hno, rfl, rfl, hag3⟩
            · skip
              refine W.st (st1 := [.int 0]) rfl ?_
              have hP : va_P D vwCl (wI cI cJ cZ a n ah (pl + 1) ck3 ct3 nk pm ja rg bu pn1 tp st us1 fb kA3 tA3 lx ly gx3 gy3 gu3 gv3) H := hP
              have hD : va_D A (wI cI cJ cZ a n ah (pl + 1) ck3 ct3 nk pm ja rg bu pn1 tp st us1 fb kA3 tA3 lx ly gx3 gy3 gu3 gv3) := hD
              refine lv_istore_n (lv' := [(1, .int 0), (2, .int z), (0, .ref (a 0))]) hx hb dX3_run_44 rfl hl (by decide) rfl (fun ls hl => ?_)
              have hmu1 := hmu hf1
              have hcn' : cr ≤ n := by omega
              have hstop : plR n K ah tp st fb ja lx ly (n - cr) cr kP tP xP yP uP vP us1 cr kP tP xP yP uP vP us1 := by rw [show n - cr = (n - (cr + 1)) + 1 by omega]; unfold plR; rw [if_neg (fun h => h.2 hno)]; exact ⟨rfl, rfl, rfl, rfl, rfl, rfl, rfl, rfl⟩
              refine lv_iinc (v := z + 1) (lv' := [(2, .int (z + 1)), (1, .int 0), (0, .ref (a 0))]) hx hb dX3_run_45 hl (k := 1) rfl rfl (by decide) rfl (fun ls hl => ?_)
              refine lv_goto (tgt := 24) hx hb dX3_run_48 (by decide) ?_
              exact lp_ih cr kP tP xP yP uP vP 0 0 (z + 1) ck3 ct3 pn1 us1 kA3 tA3 gx3 gy3 gu3 gv3 (Or.inl rfl) hBc hcn' epn (agI.tr hag (hag3.mono (Nat.le_refl _))) (fun h => absurd h (by decide)) (fun _ => hcont _ _ _ _ _ _ _ _ hstop) (fun h => absurd h (by decide)) (by omega) _ _ hP hD hS ls (lv_sub hl [0, 1, 2] rfl)
            · skip
              refine W.st (st1 := [.int 1]) rfl ?_
              have hP : va_P D vwCl (wI cI cJ cZ a n ah (pl + 1) ck3 ct3 nk pm ja rg bu (pn1 + 1) tp st (f_X1_take_us (chP n K ah tp st fb ja lx ly cr tP xP yP uP vP us1).2.1 us1) fb kA3 tA3 lx ly gx3 gy3 gu3 gv3) H := hP
              have hD : va_D A (wI cI cJ cZ a n ah (pl + 1) ck3 ct3 nk pm ja rg bu (pn1 + 1) tp st (f_X1_take_us (chP n K ah tp st fb ja lx ly cr tP xP yP uP vP us1).2.1 us1) fb kA3 tA3 lx ly gx3 gy3 gu3 gv3) := hD
              refine lv_istore_n (lv' := [(1, .int 1), (2, .int z), (0, .ref (a 0))]) hx hb dX3_run_44 rfl hl (by decide) rfl (fun ls hl => ?_)
              have hmu1 := hmu hf1
              have hcn' : cr ≤ n := by omega
              have hcont4 : ∀ c' k' t' x' y' u' v' w', plR n K ah tp st fb ja lx ly (n - (cr + 1)) (cr + 1) (upd kP cr (chP n K ah tp st fb ja lx ly cr tP xP yP uP vP us1).2.1) (upd tP cr (chP n K ah tp st fb ja lx ly cr tP xP yP uP vP us1).2.2) (vp_updL xP (cr + 1) (pX (xP cr) (uP cr) (tp (chP n K ah tp st fb ja lx ly cr tP xP yP uP vP us1).2.1.toNatClampNeg) (chP n K ah tp st fb ja lx ly cr tP xP yP uP vP us1).2.2)) (vp_updL yP (cr + 1) (pY (yP cr) (vP cr) (tp (chP n K ah tp st fb ja lx ly cr tP xP yP uP vP us1).2.1.toNatClampNeg) (chP n K ah tp st fb ja lx ly cr tP xP yP uP vP us1).2.2)) (vp_updL uP (cr + 1) (pU (uP cr) (tp (chP n K ah tp st fb ja lx ly cr tP xP yP uP vP us1).2.1.toNatClampNeg) (chP n K ah tp st fb ja lx ly cr tP xP yP uP vP us1).2.2)) (vp_updL vP (cr + 1) (pV (vP cr) (tp (chP n K ah tp st fb ja lx ly cr tP xP yP uP vP us1).2.1.toNatClampNeg) (chP n K ah tp st fb ja lx ly cr tP xP yP uP vP us1).2.2)) (f_X1_take_us (chP n K ah tp st fb ja lx ly cr tP xP yP uP vP us1).2.1 us1) c' k' t' x' y' u' v' w' → plR n K ah tp st fb ja lx ly (n - B) B kA tA gx gy gu gv (subK us kA B (S - B)) c' k' t' x' y' u' v' w' := fun c' k' t' x' y' u' v' w' h => hcont _ _ _ _ _ _ _ _ (by rw [show n - cr = (n - (cr + 1)) + 1 by omega]; unfold plR; rw [if_pos ⟨hcn, hno⟩]; exact h)
              have hag4 : agI (cr + 1) (upd kP cr (chP n K ah tp st fb ja lx ly cr tP xP yP uP vP us1).2.1) (upd tP cr (chP n K ah tp st fb ja lx ly cr tP xP yP uP vP us1).2.2) (vp_updL xP (cr + 1) (pX (xP cr) (uP cr) (tp (chP n K ah tp st fb ja lx ly cr tP xP yP uP vP us1).2.1.toNatClampNeg) (chP n K ah tp st fb ja lx ly cr tP xP yP uP vP us1).2.2)) (vp_updL yP (cr + 1) (pY (yP cr) (vP cr) (tp (chP n K ah tp st fb ja lx ly cr tP xP yP uP vP us1).2.1.toNatClampNeg) (chP n K ah tp st fb ja lx ly cr tP xP yP uP vP us1).2.2)) (vp_updL uP (cr + 1) (pU (uP cr) (tp (chP n K ah tp st fb ja lx ly cr tP xP yP uP vP us1).2.1.toNatClampNeg) (chP n K ah tp st fb ja lx ly cr tP xP yP uP vP us1).2.2)) (vp_updL vP (cr + 1) (pV (vP cr) (tp (chP n K ah tp st fb ja lx ly cr tP xP yP uP vP us1).2.1.toNatClampNeg) (chP n K ah tp st fb ja lx ly cr tP xP yP uP vP us1).2.2)) kA3 tA3 gx3 gy3 gu3 gv3 := by rw [← lay_kA hz (by omega), ← lay_tA hz (by omega), ← lay_gx hz (by omega), ← lay_gy hz (by omega), ← lay_gu hz (by omega), ← lay_gv hz (by omega)]; exact agI.tr (agI_lay2 hz (by omega) hag) hag3
              refine lv_iinc (v := z + 1) (lv' := [(2, .int (z + 1)), (1, .int 1), (0, .ref (a 0))]) hx hb dX3_run_45 hl (k := 1) rfl rfl (by decide) rfl (fun ls hl => ?_)
              refine lv_goto (tgt := 24) hx hb dX3_run_48 (by decide) ?_
              exact lp_ih (cr + 1) (upd kP cr (chP n K ah tp st fb ja lx ly cr tP xP yP uP vP us1).2.1) (upd tP cr (chP n K ah tp st fb ja lx ly cr tP xP yP uP vP us1).2.2) (vp_updL xP (cr + 1) (pX (xP cr) (uP cr) (tp (chP n K ah tp st fb ja lx ly cr tP xP yP uP vP us1).2.1.toNatClampNeg) (chP n K ah tp st fb ja lx ly cr tP xP yP uP vP us1).2.2)) (vp_updL yP (cr + 1) (pY (yP cr) (vP cr) (tp (chP n K ah tp st fb ja lx ly cr tP xP yP uP vP us1).2.1.toNatClampNeg) (chP n K ah tp st fb ja lx ly cr tP xP yP uP vP us1).2.2)) (vp_updL uP (cr + 1) (pU (uP cr) (tp (chP n K ah tp st fb ja lx ly cr tP xP yP uP vP us1).2.1.toNatClampNeg) (chP n K ah tp st fb ja lx ly cr tP xP yP uP vP us1).2.2)) (vp_updL vP (cr + 1) (pV (vP cr) (tp (chP n K ah tp st fb ja lx ly cr tP xP yP uP vP us1).2.1.toNatClampNeg) (chP n K ah tp st fb ja lx ly cr tP xP yP uP vP us1).2.2)) (n + 1 - (cr + 1)) 1 (z + 1) ck3 ct3 (pn1 + 1) (f_X1_take_us (chP n K ah tp st fb ja lx ly cr tP xP yP uP vP us1).2.1 us1) kA3 tA3 gx3 gy3 gu3 gv3 (Or.inr rfl) (by omega) (by omega) (by rw [epn, nI_1]; congr 1; omega) hag4 (fun _ => ⟨nI_s hz, hcont4⟩) (fun h => absurd h (by decide)) (fun _ => rfl) (by omega) _ _ hP hD hS ls (lv_sub hl [0, 1, 2] rfl)
  exact lp _ B kA tA gx gy gu gv (n + 1 - B) 1 bu ck ct f_X3_openPlanned_pn (f_X3_openPlanned_us B S us kA) kA tA gx gy gu gv (Or.inr rfl) (Nat.le_refl _) (by omega) (by rw [Nat.sub_self]; rfl) agI.rf (fun _ => ⟨eB, fun _ _ _ _ _ _ _ _ h => h⟩) (fun h => absurd h (by decide)) (fun _ => rfl) (Nat.lt_succ_self _) _ _ hP hD hS ls (lv_sub hl [0, 1, 2] rfl)
