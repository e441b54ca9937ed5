abbrev G4 : Type := (Nat → Int64) × (Nat → Int64) × (Nat → Int64) × (Nat → Int64)
/-- the rings from lo on are laid again, j of them -/
def rlI (tp kA tA : Nat → Int32) (lo : Nat) (q : G4) : Nat → G4
  | 0 => q
  | j + 1 => (f_X2_lay_gx (nI (lo + j)) (tp (kA (lo + j)).toNatClampNeg) (tA (lo + j)) (rlI tp kA tA lo q j).1 (rlI tp kA tA lo q j).2.2.1, f_X2_lay_gy (nI (lo + j)) (tp (kA (lo + j)).toNatClampNeg) (tA (lo + j)) (rlI tp kA tA lo q j).2.1 (rlI tp kA tA lo q j).2.2.2, f_X2_lay_gu (nI (lo + j)) (tp (kA (lo + j)).toNatClampNeg) (tA (lo + j)) (rlI tp kA tA lo q j).2.2.1, f_X2_lay_gv (nI (lo + j)) (tp (kA (lo + j)).toNatClampNeg) (tA (lo + j)) (rlI tp kA tA lo q j).2.2.2)
def rlM (tp kd ky : Nat → Int32) (lo : Nat) (q : G4) : Nat → G4
  | 0 => q
  | j + 1 => (f_X4_set_gx (nI (lo + j)) (kd (lo + j)) (ky (lo + j)) tp (rlM tp kd ky lo q j).1 (rlM tp kd ky lo q j).2.2.1, f_X4_set_gy (nI (lo + j)) (kd (lo + j)) (ky (lo + j)) tp (rlM tp kd ky lo q j).2.1 (rlM tp kd ky lo q j).2.2.2, f_X4_set_gu (nI (lo + j)) (kd (lo + j)) (ky (lo + j)) tp (rlM tp kd ky lo q j).2.2.1, f_X4_set_gv (nI (lo + j)) (kd (lo + j)) (ky (lo + j)) tp (rlM tp kd ky lo q j).2.2.2)
theorem upd_id {f : Nat → Int32} {i : Nat} : upd f i (f i) = f := by
  funext j
  by_cases h : j = i
  · subst h; exact pk_us
  · exact pk_un h
def f_X3_layAgainFrom_gx (rn : Nat) (S : Nat) (tp : Nat → Int32) (kA : Nat → Int32) (tA : Nat → Int32) (gx : Nat → Int64) (gy : Nat → Int64) (gu : Nat → Int64) (gv : Nat → Int64) : Nat → Int64 := (rlI tp kA tA rn (gx, gy, gu, gv) (S - rn)).1
def f_X3_layAgainFrom_gy (rn : Nat) (S : Nat) (tp : Nat → Int32) (kA : Nat → Int32) (tA : Nat → Int32) (gx : Nat → Int64) (gy : Nat → Int64) (gu : Nat → Int64) (gv : Nat → Int64) : Nat → Int64 := (rlI tp kA tA rn (gx, gy, gu, gv) (S - rn)).2.1
def f_X3_layAgainFrom_gu (rn : Nat) (S : Nat) (tp : Nat → Int32) (kA : Nat → Int32) (tA : Nat → Int32) (gx : Nat → Int64) (gy : Nat → Int64) (gu : Nat → Int64) (gv : Nat → Int64) : Nat → Int64 := (rlI tp kA tA rn (gx, gy, gu, gv) (S - rn)).2.2.1
def f_X3_layAgainFrom_gv (rn : Nat) (S : Nat) (tp : Nat → Int32) (kA : Nat → Int32) (tA : Nat → Int32) (gx : Nat → Int64) (gy : Nat → Int64) (gu : Nat → Int64) (gv : Nat → Int64) : Nat → Int64 := (rlI tp kA tA rn (gx, gy, gu, gv) (S - rn)).2.2.2
set_option maxRecDepth 20000 in
set_option maxHeartbeats 4000000 in
theorem k_X3_layAgainFrom (l : Launch) (D : va_G) (cI cJ cZ : ClassId) (a : Nat → Nat) (n : Nat) (ah pl ck ct nk pm ja rg bu pn : Int32) (tp st us fb kA tA : Nat → Int32) (lx ly gx gy gu gv : Nat → Int64) (r : Int32) (rn : Nat) (S : Nat) (er : r = nI rn) (hrS : rn ≤ S) (gS : bu + pn = nI S) (hSn : S ≤ n) (hn : n ≤ 24) (hk : ∀ i, i < S → vp_in (kA i) 4) : WR l yX3_layAgainFrom cX3_layAgainFrom 4 none 2 0 0 D (tysW cI cJ cZ) (wI cI cJ cZ a n ah pl ck ct nk pm ja rg bu pn tp st us fb kA tA lx ly gx gy gu gv) [.ref (a 0), .int r] (fun ov w' => ov = none ∧ w' = wI cI cJ cZ a n ah pl ck ct nk pm ja rg bu pn tp st us fb kA tA lx ly (f_X3_layAgainFrom_gx rn S tp kA tA gx gy gu gv) (f_X3_layAgainFrom_gy rn S tp kA tA gx gy gu gv) (f_X3_layAgainFrom_gu rn S tp kA tA gx gy gu gv) (f_X3_layAgainFrom_gv rn S tp kA tA gx gy gu gv)) := by
  refine WR.of (by decide) ?_
  intro p e s m below meth c A hadm hx hb hr hml hown hlocks hname hE hP hK hD hS hA hAe
  have hown : s.vm.findClass RX3 = some m.cls := hown
  have ht : tb_OK s := hE.1
  have hl := lv_entry ([.ref (a 0), .int r]) (n := 4) (Nat.le_of_ble_eq_true rfl)
  rw [lg_entry_eq]
  generalize (lg_sl ([.ref (a 0), .int r]) ++ List.replicate (4 - (lg_sl ([.ref (a 0), .int r])).length) Slot.unset).toArray = ls at hl ⊢
  have hl : lv_has ls 4 [(0, .ref (a 0)), (1, .int r)] := hl
  refine lv_iload_n hx hb dX3_layAgainFrom_0 rfl (lv_at hl 1 rfl) ?_
  refine lv_istore_n (lv' := [(2, .int r), (0, .ref (a 0)), (1, .int r)]) hx hb dX3_layAgainFrom_1 rfl hl (by decide) rfl (fun ls hl => ?_)
  have lp : ∀ (N : Nat) (i : Nat) (z : Int32) (kA1 : Nat → Int32) (tA1 : Nat → Int32) (gx1 : Nat → Int64) (gy1 : Nat → Int64) (gu1 : Nat → Int64) (gv1 : Nat → Int64), (z = nI i) → (i ≤ S) → (rn ≤ i) → (kA1 = kA) → (tA1 = tA) → ((gx1, gy1, gu1, gv1) = rlI tp kA tA rn (gx, gy, gu, gv) (i - rn)) → S - i < N → ∀ (H : Heap) (locs : List Loc), va_P D vwCl (wI cI cJ cZ a n ah pl ck ct nk pm ja rg bu pn tp st us fb kA1 tA1 lx ly gx1 gy1 gu1 gv1) H → va_D A (wI cI cJ cZ a n ah pl ck ct nk pm ja rg bu pn tp st us fb kA1 tA1 lx ly gx1 gy1 gu1 gv1) → va_S A s.heap H locs → ∀ (ls : Array Slot), lv_has ls 4 [(2, .int z), (0, .ref (a 0)), (1, .int r)] → W p l e (rmD 2 0 0) s m ([.ref (a 0), .int r] : List Value).toArray below meth c H locs 0 0 (MQ below (QcW D (wI cI cJ cZ a n ah pl ck ct nk pm ja rg bu pn tp st us fb kA tA lx ly gx gy gu gv) s.heap.size (fun ov w' => ov = none ∧ w' = wI cI cJ cZ a n ah pl ck ct nk pm ja rg bu pn tp st us fb kA tA lx ly (f_X3_layAgainFrom_gx rn S tp kA tA gx gy gu gv) (f_X3_layAgainFrom_gy rn S tp kA tA gx gy gu gv) (f_X3_layAgainFrom_gu rn S tp kA tA gx gy gu gv) (f_X3_layAgainFrom_gv rn S tp kA tA gx gy gu gv))) ([.ref (a 0), .int r] : List Value).toArray s 0 0 A) (F0 m 2 ls []) := by
    intro N
    induction N with
    | zero => intro i z kA1 tA1 gx1 gy1 gu1 gv1 _ _ _ _ _ _ hN; exact absurd hN (Nat.not_lt_zero _)
    | succ N lp_ih =>
      intro i z kA1 tA1 gx1 gy1 gu1 gv1 hz hi hlo hk1 ht1 hg hN H locs hP hD hS ls hl
      refine lv_iload_n hx hb dX3_layAgainFrom_2 rfl (lv_at hl 0 rfl) ?_
      refine lv_aload_n hx hb dX3_layAgainFrom_3 rfl (lv_at hl 1 rfl) ?_
      refine va_get (D := D) (ci := 4) (v := .ref (a 7)) (C := RX3) (T := TX3) (N := 7) hx hb (lyX3 ht) (fun _ h9 => h9) hown hK hP 0 rfl rfl 2 (by decide) (fl_X3_37 ht) (fun _ h9 => h9) rfl dX3_layAgainFrom_4 ?_
      refine rdVN (As := []) (rest := [.int z]) (st1 := [.int (f_X2_standing bu pn), .int z]) (k_X2_standing l D cI cJ cZ a n ah pl ck ct nk pm ja rg bu pn tp st us fb kA1 tA1 lx ly gx1 gy1 gu1 gv1) (si_X3_162 ht ⟨Nat.le_of_ble_eq_true rfl, Nat.le_of_ble_eq_true rfl⟩) hx hb hml hown (va_recv hK hP (ci := 3) (q0 := 7) rfl rfl) (hE.since hS) hP hK rfl hl.1 rfl (Nat.le_of_ble_eq_true rfl) ⟨Nat.zero_le _, Nat.zero_le _⟩ dX3_layAgainFrom_7 rfl ?_
      refine lv_icmp_ge (tgt := 56) hx hb dX3_layAgainFrom_10 (by decide) (fun c_1 => ?_) (fun c_1 => ?_)
      · skip
        have h9 := le_le c_1 gS hz (by omega) (by omega)
        have hgS : (gx1, gy1, gu1, gv1) = rlI tp kA tA rn (gx, gy, gu, gv) (S - rn) := by rw [show i = S by omega] at hg; exact hg
        have e_kA1 : kA1 = kA := hk1
        have e_tA1 : tA1 = tA := ht1
        have e_gx1 : gx1 = (rlI tp kA tA rn (gx, gy, gu, gv) (S - rn)).1 := (by rw [← hgS])
        have e_gy1 : gy1 = (rlI tp kA tA rn (gx, gy, gu, gv) (S - rn)).2.1 := (by rw [← hgS])
        have e_gu1 : gu1 = (rlI tp kA tA rn (gx, gy, gu, gv) (S - rn)).2.2.1 := (by rw [← hgS])
        have e_gv1 : gv1 = (rlI tp kA tA rn (gx, gy, gu, gv) (S - rn)).2.2.2 := (by rw [← hgS])
        rw [e_kA1, e_tA1, e_gx1, e_gy1, e_gu1, e_gv1] at hP hD
        have hP : va_P D vwCl (wI cI cJ cZ a n ah pl ck ct nk pm ja rg bu pn tp st us fb kA tA lx ly ((rlI tp kA tA rn (gx, gy, gu, gv) (S - rn)).1) ((rlI tp kA tA rn (gx, gy, gu, gv) (S - rn)).2.1) ((rlI tp kA tA rn (gx, gy, gu, gv) (S - rn)).2.2.1) ((rlI tp kA tA rn (gx, gy, gu, gv) (S - rn)).2.2.2)) H := hP
        have hD : va_D A (wI cI cJ cZ a n ah pl ck ct nk pm ja rg bu pn tp st us fb kA tA lx ly ((rlI tp kA tA rn (gx, gy, gu, gv) (S - rn)).1) ((rlI tp kA tA rn (gx, gy, gu, gv) (S - rn)).2.1) ((rlI tp kA tA rn (gx, gy, gu, gv) (S - rn)).2.2.1) ((rlI tp kA tA rn (gx, gy, gu, gv) (S - rn)).2.2.2)) := hD
        exact wr_v hx hb hr hlocks hAe hP hD hS dX3_layAgainFrom_56 (⟨rfl, rfl⟩)
      · skip
        refine lv_aload_n hx hb dX3_layAgainFrom_13 rfl (lv_at hl 1 rfl) ?_
        refine va_get (D := D) (ci := 4) (v := .ref (a 7)) (C := RX3) (T := TX3) (N := 7) hx hb (lyX3 ht) (fun _ h9 => h9) hown hK hP 0 rfl rfl 2 (by decide) (fl_X3_37 ht) (fun _ h9 => h9) rfl dX3_layAgainFrom_14 ?_
        refine va_getN (D := D) (ci := 3) (v := .ref (a 8)) (C := RX2) (T := TX2) (N := 11) hx hb (lyX2 ht) (fun _ h9 => h9) hown hK hP 7 rfl rfl 3 (by decide) (fn_X3_112 ht) (fun _ h9 => h9) rfl dX3_layAgainFrom_17 ?_
        refine lv_iload_n hx hb dX3_layAgainFrom_20 rfl (lv_at hl 0 rfl) ?_
        refine va_iald hx hb hK hP 8 0 rfl rfl (in_of hz (by have := (nle_lt c_1 gS hz (by omega) (by omega)); omega : i < n) (by omega)) dX3_layAgainFrom_21 ?_
        refine lv_istore_n (lv' := [(3, .int (kA1 z.toNatClampNeg)), (2, .int z), (0, .ref (a 0)), (1, .int r)]) hx hb dX3_layAgainFrom_22 rfl hl (by decide) rfl (fun ls hl => ?_)
        refine lv_aload_n hx hb dX3_layAgainFrom_23 rfl (lv_at hl 2 rfl) ?_
        refine va_get (D := D) (ci := 4) (v := .ref (a 7)) (C := RX3) (T := TX3) (N := 7) hx hb (lyX3 ht) (fun _ h9 => h9) hown hK hP 0 rfl rfl 2 (by decide) (fl_X3_37 ht) (fun _ h9 => h9) rfl dX3_layAgainFrom_24 ?_
        refine lv_iload_n hx hb dX3_layAgainFrom_27 rfl (lv_at hl 1 rfl) ?_
        refine lv_iload_n hx hb dX3_layAgainFrom_28 rfl (lv_at hl 0 rfl) ?_
        refine lv_aload_n hx hb dX3_layAgainFrom_29 rfl (lv_at hl 2 rfl) ?_
        refine va_get (D := D) (ci := 4) (v := .ref (a 1)) (C := RX3) (T := TX3) (N := 7) hx hb (lyX3 ht) (fun _ h9 => h9) hown hK hP 0 rfl rfl 0 (by decide) (fl_X3_10 ht) (fun _ h9 => h9) rfl dX3_layAgainFrom_30 ?_
        refine va_getN (D := D) (ci := 2) (v := .ref (a 2)) (C := RX1) (T := TX1) (N := 4) hx hb (lyX1 ht) (fun _ h9 => h9) hown hK hP 1 rfl rfl 0 (by decide) (fn_X3_169 ht) (fun _ h9 => h9) rfl dX3_layAgainFrom_33 ?_
        refine lv_iload_n hx hb dX3_layAgainFrom_36 rfl (lv_at hl 0 rfl) ?_
        refine va_iald hx hb hK hP 2 0 rfl rfl (by rw [cl_of hz (by have := (nle_lt c_1 gS hz (by omega) (by omega)); omega), hk1]; exact hk i (nle_lt c_1 gS hz (by omega) (by omega))) dX3_layAgainFrom_37 ?_
        refine lv_aload_n hx hb dX3_layAgainFrom_38 rfl (lv_at hl 2 rfl) ?_
        refine va_get (D := D) (ci := 4) (v := .ref (a 7)) (C := RX3) (T := TX3) (N := 7) hx hb (lyX3 ht) (fun _ h9 => h9) hown hK hP 0 rfl rfl 2 (by decide) (fl_X3_37 ht) (fun _ h9 => h9) rfl dX3_layAgainFrom_39 ?_
        refine va_getN (D := D) (ci := 3) (v := .ref (a 9)) (C := RX2) (T := TX2) (N := 11) hx hb (lyX2 ht) (fun _ h9 => h9) hown hK hP 7 rfl rfl 4 (by decide) (fn_X3_131 ht) (fun _ h9 => h9) rfl dX3_layAgainFrom_42 ?_
        refine lv_iload_n hx hb dX3_layAgainFrom_45 rfl (lv_at hl 1 rfl) ?_
        refine va_iald hx hb hK hP 9 0 rfl rfl (in_of hz (by have := (nle_lt c_1 gS hz (by omega) (by omega)); omega : i < n) (by omega)) dX3_layAgainFrom_46 ?_
        refine wrVN (As := [.int z, .int (kA1 z.toNatClampNeg), .int (tp (kA1 z.toNatClampNeg).toNatClampNeg), .int (tA1 z.toNatClampNeg)]) (rest := []) (k_X2_lay l D cI cJ cZ a n ah pl ck ct nk pm ja rg bu pn tp st us fb kA1 tA1 lx ly gx1 gy1 gu1 gv1 z (kA1 z.toNatClampNeg) (tp (kA1 z.toNatClampNeg).toNatClampNeg) (tA1 z.toNatClampNeg) (in_of hz (by have := (nle_lt c_1 gS hz (by omega) (by omega)); omega : i < n) (by omega)) (in_of hz (by have := (nle_lt c_1 gS hz (by omega) (by omega)); omega : i < n + 1) (by omega)) (in_of (nI_s hz) (by have := (nle_lt c_1 gS hz (by omega) (by omega)); omega : i + 1 < n + 1) (by omega))) (si_X3_190 ht ⟨Nat.le_of_ble_eq_true rfl, Nat.le_of_ble_eq_true rfl⟩) hx hb hml hown (va_recv hK hP (ci := 3) (q0 := 7) rfl rfl) hE hP hK hD hS hA rfl hl.1 rfl (Nat.le_of_ble_eq_true rfl) ⟨Nat.zero_le _, Nat.zero_le _⟩ dX3_layAgainFrom_47 (fun ov w' H locs hpost hP hD hS => ?_)
        obtain ⟨rfl, rfl⟩ := hpost
        refine W.st (st1 := []) rfl ?_
        have hP : va_P D vwCl (wI cI cJ cZ a n ah pl ck ct nk pm ja rg bu pn tp st us fb (f_X2_lay_kA z (kA1 z.toNatClampNeg) kA1) (f_X2_lay_tA z (tA1 z.toNatClampNeg) tA1) lx ly (f_X2_lay_gx z (tp (kA1 z.toNatClampNeg).toNatClampNeg) (tA1 z.toNatClampNeg) gx1 gu1) (f_X2_lay_gy z (tp (kA1 z.toNatClampNeg).toNatClampNeg) (tA1 z.toNatClampNeg) gy1 gv1) (f_X2_lay_gu z (tp (kA1 z.toNatClampNeg).toNatClampNeg) (tA1 z.toNatClampNeg) gu1) (f_X2_lay_gv z (tp (kA1 z.toNatClampNeg).toNatClampNeg) (tA1 z.toNatClampNeg) gv1)) H := hP
        have hD : va_D A (wI cI cJ cZ a n ah pl ck ct nk pm ja rg bu pn tp st us fb (f_X2_lay_kA z (kA1 z.toNatClampNeg) kA1) (f_X2_lay_tA z (tA1 z.toNatClampNeg) tA1) lx ly (f_X2_lay_gx z (tp (kA1 z.toNatClampNeg).toNatClampNeg) (tA1 z.toNatClampNeg) gx1 gu1) (f_X2_lay_gy z (tp (kA1 z.toNatClampNeg).toNatClampNeg) (tA1 z.toNatClampNeg) gy1 gv1) (f_X2_lay_gu z (tp (kA1 z.toNatClampNeg).toNatClampNeg) (tA1 z.toNatClampNeg) gu1) (f_X2_lay_gv z (tp (kA1 z.toNatClampNeg).toNatClampNeg) (tA1 z.toNatClampNeg) gv1)) := hD
        have h8 := (nle_lt c_1 gS hz (by omega) (by omega))
        refine lv_iinc (v := z + 1) (lv' := [(2, .int (z + 1)), (3, .int (kA1 z.toNatClampNeg)), (0, .ref (a 0)), (1, .int r)]) hx hb dX3_layAgainFrom_50 hl (k := 1) rfl rfl (by decide) rfl (fun ls hl => ?_)
        refine lv_goto (tgt := 2) hx hb dX3_layAgainFrom_53 (by decide) ?_
        exact lp_ih (i + 1) (z + 1) (f_X2_lay_kA z (kA1 z.toNatClampNeg) kA1) (f_X2_lay_tA z (tA1 z.toNatClampNeg) tA1) (f_X2_lay_gx z (tp (kA1 z.toNatClampNeg).toNatClampNeg) (tA1 z.toNatClampNeg) gx1 gu1) (f_X2_lay_gy z (tp (kA1 z.toNatClampNeg).toNatClampNeg) (tA1 z.toNatClampNeg) gy1 gv1) (f_X2_lay_gu z (tp (kA1 z.toNatClampNeg).toNatClampNeg) (tA1 z.toNatClampNeg) gu1) (f_X2_lay_gv z (tp (kA1 z.toNatClampNeg).toNatClampNeg) (tA1 z.toNatClampNeg) gv1) (nI_s hz) (by omega) (by omega) (by rw [cl_of hz (by omega), hk1]; unfold f_X2_lay_kA; rw [cl_of hz (by omega)]; exact upd_id) (by rw [cl_of hz (by omega), ht1]; unfold f_X2_lay_tA; rw [cl_of hz (by omega)]; exact upd_id) (by rw [show i + 1 - rn = (i - rn) + 1 by omega]; show _ = (_, _, _, _); rw [← hg, show rn + (i - rn) = i by omega, cl_of hz (by omega), hk1, ht1, hz]) (by omega) _ _ hP hD hS ls (lv_sub hl [0, 2, 3] rfl)
  exact lp _ rn r kA tA gx gy gu gv er hrS (Nat.le_refl _) rfl rfl (by rw [Nat.sub_self]; rfl) (Nat.lt_succ_self _) _ _ hP hD hS ls (lv_sub hl [0, 1, 2] rfl)
theorem in_upd {f : Nat → Int32} {a i : Nat} {k : Int32} (h1 : vp_in (f i) 4) (h2 : vp_in k 4) : vp_in (upd f a k i) 4 := by
  by_cases e : i = a
  · rw [e, pk_us]; exact h2
  · rw [pk_un e]; exact h1
def f_X4_replace (r : Int32) (k : Int32) (S : Nat) (rg : Int32) (bu : Int32) (pn : Int32) (nk : Int32) (st : Nat → Int32) (kd : Nat → Int32) : Int32 := if (f_X4_isRing r rg) = 0 then 0 else (if (f_X4_isKind k nk) = 0 then -1 else (if r < bu then -3 else (if (bu + pn) ≤ r then -3 else (if (kd r.toNatClampNeg) = k then -3 else (if 0 < ((st k.toNatClampNeg) - (cntK kd k S)) then 1 else -3)))))
def f_X4_replace_fa (r : Int32) (k : Int32) (S : Nat) (rg : Int32) (bu : Int32) (pn : Int32) (nk : Int32) (st : Nat → Int32) (kd : Nat → Int32) : Int32 := if (f_X4_isRing r rg) = 0 then 1 else (if (f_X4_isKind k nk) = 0 then 0 else (if r < bu then 0 else (if (bu + pn) ≤ r then 0 else (if (kd r.toNatClampNeg) = k then 0 else (if 0 < ((st k.toNatClampNeg) - (cntK kd k S)) then 0 else 0)))))
def f_X4_replace_kd (r : Int32) (k : Int32) (S : Nat) (rg : Int32) (bu : Int32) (pn : Int32) (nk : Int32) (st : Nat → Int32) (kd : Nat → Int32) : Nat → Int32 := if (f_X4_isRing r rg) = 0 then kd else (if (f_X4_isKind k nk) = 0 then kd else (if r < bu then kd else (if (bu + pn) ≤ r then kd else (if (kd r.toNatClampNeg) = k then kd else (if 0 < ((st k.toNatClampNeg) - (cntK kd k S)) then (upd kd r.toNatClampNeg k) else kd)))))
def f_X4_replace_gx (r : Int32) (k : Int32) (rn : Nat) (S : Nat) (rg : Int32) (bu : Int32) (pn : Int32) (nk : Int32) (tp : Nat → Int32) (st : Nat → Int32) (kd : Nat → Int32) (ky : Nat → Int32) (gx : Nat → Int64) (gy : Nat → Int64) (gu : Nat → Int64) (gv : Nat → Int64) : Nat → Int64 := if (f_X4_isRing r rg) = 0 then gx else (if (f_X4_isKind k nk) = 0 then gx else (if r < bu then gx else (if (bu + pn) ≤ r then gx else (if (kd r.toNatClampNeg) = k then gx else (if 0 < ((st k.toNatClampNeg) - (cntK kd k S)) then ((rlM tp (upd kd r.toNatClampNeg k) ky rn (gx, gy, gu, gv) (S - rn)).1) else gx)))))
def f_X4_replace_gy (r : Int32) (k : Int32) (rn : Nat) (S : Nat) (rg : Int32) (bu : Int32) (pn : Int32) (nk : Int32) (tp : Nat → Int32) (st : Nat → Int32) (kd : Nat → Int32) (ky : Nat → Int32) (gx : Nat → Int64) (gy : Nat → Int64) (gu : Nat → Int64) (gv : Nat → Int64) : Nat → Int64 := if (f_X4_isRing r rg) = 0 then gy else (if (f_X4_isKind k nk) = 0 then gy else (if r < bu then gy else (if (bu + pn) ≤ r then gy else (if (kd r.toNatClampNeg) = k then gy else (if 0 < ((st k.toNatClampNeg) - (cntK kd k S)) then ((rlM tp (upd kd r.toNatClampNeg k) ky rn (gx, gy, gu, gv) (S - rn)).2.1) else gy)))))
def f_X4_replace_gu (r : Int32) (k : Int32) (rn : Nat) (S : Nat) (rg : Int32) (bu : Int32) (pn : Int32) (nk : Int32) (tp : Nat → Int32) (st : Nat → Int32) (kd : Nat → Int32) (ky : Nat → Int32) (gx : Nat → Int64) (gy : Nat → Int64) (gu : Nat → Int64) (gv : Nat → Int64) : Nat → Int64 := if (f_X4_isRing r rg) = 0 then gu else (if (f_X4_isKind k nk) = 0 then gu else (if r < bu then gu else (if (bu + pn) ≤ r then gu else (if (kd r.toNatClampNeg) = k then gu else (if 0 < ((st k.toNatClampNeg) - (cntK kd k S)) then ((rlM tp (upd kd r.toNatClampNeg k) ky rn (gx, gy, gu, gv) (S - rn)).2.2.1) else gu)))))
def f_X4_replace_gv (r : Int32) (k : Int32) (rn : Nat) (S : Nat) (rg : Int32) (bu : Int32) (pn : Int32) (nk : Int32) (tp : Nat → Int32) (st : Nat → Int32) (kd : Nat → Int32) (ky : Nat → Int32) (gx : Nat → Int64) (gy : Nat → Int64) (gu : Nat → Int64) (gv : Nat → Int64) : Nat → Int64 := if (f_X4_isRing r rg) = 0 then gv else (if (f_X4_isKind k nk) = 0 then gv else (if r < bu then gv else (if (bu + pn) ≤ r then gv else (if (kd r.toNatClampNeg) = k then gv else (if 0 < ((st k.toNatClampNeg) - (cntK kd k S)) then ((rlM tp (upd kd r.toNatClampNeg k) ky rn (gx, gy, gu, gv) (S - rn)).2.2.2) else gv)))))
set_option maxRecDepth 20000 in
set_option maxHeartbeats 4000000 in
theorem k_X4_replace (l : Launch) (D : va_G) (cI cJ cZ : ClassId) (a : Nat → Nat) (fa rg bu pn pl ja lk nk bl : Int32) (bs : Int64) (bk be : Int32) (al tp st mx my kd ky : Nat → Int32) (gx gy gu gv : Nat → Int64) (r : Int32) (k : Int32) (rn : Nat) (S : Nat) (hrn : ¬ f_X4_isRing r rg = 0 → r = nI rn ∧ rn < 24) (gS : bu + pn = nI S) (h24 : S ≤ 24) (hk : ¬ f_X4_isKind k nk = 0 → vp_in k 4) (hkd : ∀ i, i < S → vp_in (kd i) 4) : WR l yX4_replace cX4_replace 4 (some .int) 2 0 0 D (tysW cI cJ cZ) (wM cI cJ cZ a fa rg bu pn pl ja lk nk bl bs bk be al tp st mx my kd ky gx gy gu gv) [.ref (a 0), .int r, .int k] (fun ov w' => ov = some (.int (f_X4_replace r k S rg bu pn nk st kd)) ∧ w' = wM cI cJ cZ a (f_X4_replace_fa r k S rg bu pn nk st kd) rg bu pn pl ja lk nk bl bs bk be al tp st mx my (f_X4_replace_kd r k S rg bu pn nk st kd) ky (f_X4_replace_gx r k rn S rg bu pn nk tp st kd ky gx gy gu gv) (f_X4_replace_gy r k rn S rg bu pn nk tp st kd ky gx gy gu gv) (f_X4_replace_gu r k rn S rg bu pn nk tp st kd ky gx gy gu gv) (f_X4_replace_gv r k rn S rg bu pn nk tp st kd ky gx gy gu gv)) := by
  refine WR.of (by decide) ?_
  intro p e s m below meth c A hadm hx hb hr hml hown hlocks hname hE hP hK hD hS hA hAe
  have hown : s.vm.findClass RX4 = some m.cls := hown
  have ht : tb_OK s := hE.1
  have hl := lv_entry ([.ref (a 0), .int r, .int k]) (n := 4) (Nat.le_of_ble_eq_true rfl)
  rw [lg_entry_eq]
  generalize (lg_sl ([.ref (a 0), .int r, .int k]) ++ List.replicate (4 - (lg_sl ([.ref (a 0), .int r, .int k])).length) Slot.unset).toArray = ls at hl ⊢
  have hl : lv_has ls 4 [(0, .ref (a 0)), (1, .int r), (2, .int k)] := hl
  refine lv_aload_n hx hb dX4_replace_0 rfl (lv_at hl 0 rfl) ?_
  refine lv_aload_n hx hb dX4_replace_1 rfl (lv_at hl 0 rfl) ?_
  refine lv_iload_n hx hb dX4_replace_2 rfl (lv_at hl 1 rfl) ?_
  refine rdV (As := [.int r]) (rest := [.ref (a 0)]) (st1 := [.int (f_X4_isRing r rg), .ref (a 0)]) (k_X4_isRing l D cI cJ cZ a fa rg bu pn pl ja lk nk bl bs bk be al tp st mx my kd ky gx gy gu gv r) (si_X4_79 ht ⟨Nat.le_of_ble_eq_true rfl, Nat.le_of_ble_eq_true rfl⟩) hx hb hml hown (va_recv hK hP (ci := 5) (q0 := 0) rfl rfl) (hE.since hS) hP hK rfl hl.1 rfl (Nat.le_of_ble_eq_true rfl) ⟨Nat.zero_le _, Nat.zero_le _⟩ dX4_replace_3 rfl ?_
  refine lv_if_eq (tgt := 13) hx hb dX4_replace_6 (by decide) (fun c_1 => ?_) (fun c_1 => ?_)
  · skip
    refine lv_iconst (v := 1) hx hb dX4_replace_13 (by decide) ?_
    refine va_put (D := D) (ci := 5) (v := .int 1) (ty := .int) (C := RX4) (T := TX4) (N := 23) hx hb (lyX4 ht) (fun _ h9 => h9) tyX4 tyX4_ok nmX4 hown hK hP hD hS 0 rfl rfl 0 (by decide) (fl_X4_55 ht) (fun _ h9 => h9) rfl (by decide +kernel) rfl rfl (Nat.le_of_ble_eq_true rfl) dX4_replace_14 (fun H locs hP hD hS => ?_)
    have hP : va_P D vwCl (wM cI cJ cZ a 1 rg bu pn pl ja lk nk bl bs bk be al tp st mx my kd ky gx gy gu gv) H := hP
    have hD : va_D A (wM cI cJ cZ a 1 rg bu pn pl ja lk nk bl bs bk be al tp st mx my kd ky gx gy gu gv) := hD
    refine lv_aload_n hx hb dX4_replace_17 rfl (lv_at hl 0 rfl) ?_
    refine va_get (D := D) (ci := 5) (v := .int 1) (C := RX4) (T := TX4) (N := 23) hx hb (lyX4 ht) (fun _ h9 => h9) hown hK hP 0 rfl rfl 0 (by decide) (fl_X4_55 ht) (fun _ h9 => h9) rfl dX4_replace_18 ?_
    refine lv_if_le (tgt := 26) hx hb dX4_replace_21 (by decide) (fun c_2 => absurd c_2 (by decide)) (fun c_2 => ?_)
    refine lv_iconst (v := 0) hx hb dX4_replace_24 (by decide) ?_
    exact wr_i hx hb hr hlocks hAe hP hD hS dX4_replace_25 (⟨by unfold f_X4_replace; rw [if_pos c_1], by simp only [f_X4_replace_fa, f_X4_replace_kd, f_X4_replace_gx, f_X4_replace_gy, f_X4_replace_gu, f_X4_replace_gv, if_pos c_1]⟩)
  · skip
    refine lv_iconst (v := 0) hx hb dX4_replace_9 (by decide) ?_
    refine lv_goto (tgt := 14) hx hb dX4_replace_10 (by decide) ?_
    refine va_put (D := D) (ci := 5) (v := .int 0) (ty := .int) (C := RX4) (T := TX4) (N := 23) hx hb (lyX4 ht) (fun _ h9 => h9) tyX4 tyX4_ok nmX4 hown hK hP hD hS 0 rfl rfl 0 (by decide) (fl_X4_55 ht) (fun _ h9 => h9) rfl (by decide +kernel) rfl rfl (Nat.le_of_ble_eq_true rfl) dX4_replace_14 (fun H locs hP hD hS => ?_)
    have hP : va_P D vwCl (wM cI cJ cZ a 0 rg bu pn pl ja lk nk bl bs bk be al tp st mx my kd ky gx gy gu gv) H := hP
    have hD : va_D A (wM cI cJ cZ a 0 rg bu pn pl ja lk nk bl bs bk be al tp st mx my kd ky gx gy gu gv) := hD
    refine lv_aload_n hx hb dX4_replace_17 rfl (lv_at hl 0 rfl) ?_
    refine va_get (D := D) (ci := 5) (v := .int 0) (C := RX4) (T := TX4) (N := 23) hx hb (lyX4 ht) (fun _ h9 => h9) hown hK hP 0 rfl rfl 0 (by decide) (fl_X4_55 ht) (fun _ h9 => h9) rfl dX4_replace_18 ?_
    refine lv_if_le (tgt := 26) hx hb dX4_replace_21 (by decide) (fun c_3 => ?_) (fun c_3 => absurd (by decide) c_3)
    refine lv_aload_n hx hb dX4_replace_26 rfl (lv_at hl 0 rfl) ?_
    refine lv_iload_n hx hb dX4_replace_27 rfl (lv_at hl 2 rfl) ?_
    refine rdV (As := [.int k]) (rest := []) (st1 := [.int (f_X4_isKind k nk)]) (k_X4_isKind l D cI cJ cZ a 0 rg bu pn pl ja lk nk bl bs bk be al tp st mx my kd ky gx gy gu gv k) (si_X4_75 ht ⟨Nat.le_of_ble_eq_true rfl, Nat.le_of_ble_eq_true rfl⟩) hx hb hml hown (va_recv hK hP (ci := 5) (q0 := 0) rfl rfl) (hE.since hS) hP hK rfl hl.1 rfl (Nat.le_of_ble_eq_true rfl) ⟨Nat.zero_le _, Nat.zero_le _⟩ dX4_replace_28 rfl ?_
    refine lv_if_ne (tgt := 36) hx hb dX4_replace_31 (by decide) (fun c_4 => ?_) (fun c_4 => ?_)
    · skip
      refine lv_iload_n hx hb dX4_replace_36 rfl (lv_at hl 1 rfl) ?_
      refine lv_aload_n hx hb dX4_replace_37 rfl (lv_at hl 0 rfl) ?_
      refine va_get (D := D) (ci := 5) (v := .int bu) (C := RX4) (T := TX4) (N := 23) hx hb (lyX4 ht) (fun _ h9 => h9) hown hK hP 0 rfl rfl 2 (by decide) (fl_X4_61 ht) (fun _ h9 => h9) rfl dX4_replace_38 ?_
      refine lv_icmp_lt (tgt := 82) hx hb dX4_replace_41 (by decide) (fun c_5 => ?_) (fun c_5 => ?_)
      · skip
        refine lv_bipush (v := -3) hx hb dX4_replace_82 (by decide) ?_
        exact wr_i hx hb hr hlocks hAe hP hD hS dX4_replace_84 (⟨by unfold f_X4_replace; rw [if_neg c_1, if_neg c_4, if_pos c_5], by simp only [f_X4_replace_fa, f_X4_replace_kd, f_X4_replace_gx, f_X4_replace_gy, f_X4_replace_gu, f_X4_replace_gv, if_neg c_1, if_neg c_4, if_pos c_5]⟩)
      · skip
        refine lv_iload_n hx hb dX4_replace_44 rfl (lv_at hl 1 rfl) ?_
        refine lv_aload_n hx hb dX4_replace_45 rfl (lv_at hl 0 rfl) ?_
        refine va_get (D := D) (ci := 5) (v := .int bu) (C := RX4) (T := TX4) (N := 23) hx hb (lyX4 ht) (fun _ h9 => h9) hown hK hP 0 rfl rfl 2 (by decide) (fl_X4_61 ht) (fun _ h9 => h9) rfl dX4_replace_46 ?_
        refine lv_aload_n hx hb dX4_replace_49 rfl (lv_at hl 0 rfl) ?_
        refine va_get (D := D) (ci := 5) (v := .int pn) (C := RX4) (T := TX4) (N := 23) hx hb (lyX4 ht) (fun _ h9 => h9) hown hK hP 0 rfl rfl 3 (by decide) (fl_X4_64 ht) (fun _ h9 => h9) rfl dX4_replace_50 ?_
        refine lv_iadd hx hb dX4_replace_53 ?_
        refine lv_icmp_ge (tgt := 82) hx hb dX4_replace_54 (by decide) (fun c_6 => ?_) (fun c_6 => ?_)
        · skip
          refine lv_bipush (v := -3) hx hb dX4_replace_82 (by decide) ?_
          exact wr_i hx hb hr hlocks hAe hP hD hS dX4_replace_84 (⟨by unfold f_X4_replace; rw [if_neg c_1, if_neg c_4, if_neg c_5, if_pos c_6], by simp only [f_X4_replace_fa, f_X4_replace_kd, f_X4_replace_gx, f_X4_replace_gy, f_X4_replace_gu, f_X4_replace_gv, if_neg c_1, if_neg c_4, if_neg c_5, if_pos c_6]⟩)
        · skip
          refine lv_aload_n hx hb dX4_replace_57 rfl (lv_at hl 0 rfl) ?_
          refine va_get (D := D) (ci := 5) (v := .ref (a 6)) (C := RX4) (T := TX4) (N := 23) hx hb (lyX4 ht) (fun _ h9 => h9) hown hK hP 0 rfl rfl 13 (by decide) (fl_X4_33 ht) (fun _ h9 => h9) rfl dX4_replace_58 ?_
          refine lv_iload_n hx hb dX4_replace_61 rfl (lv_at hl 1 rfl) ?_
          refine va_iald hx hb hK hP 6 0 rfl rfl (in_of (hrn c_1).1 (hrn c_1).2 (by decide)) dX4_replace_62 ?_
          refine lv_iload_n hx hb dX4_replace_63 rfl (lv_at hl 2 rfl) ?_
          refine lv_icmp_eq (tgt := 82) hx hb dX4_replace_64 (by decide) (fun c_7 => ?_) (fun c_7 => ?_)
          · skip
            refine lv_bipush (v := -3) hx hb dX4_replace_82 (by decide) ?_
            exact wr_i hx hb hr hlocks hAe hP hD hS dX4_replace_84 (⟨by unfold f_X4_replace; rw [if_neg c_1, if_neg c_4, if_neg c_5, if_neg c_6, if_pos c_7], by simp only [f_X4_replace_fa, f_X4_replace_kd, f_X4_replace_gx, f_X4_replace_gy, f_X4_replace_gu, f_X4_replace_gv, if_neg c_1, if_neg c_4, if_neg c_5, if_neg c_6, if_pos c_7]⟩)
          · skip
            refine lv_aload_n hx hb dX4_replace_67 rfl (lv_at hl 0 rfl) ?_
            refine va_get (D := D) (ci := 5) (v := .ref (a 3)) (C := RX4) (T := TX4) (N := 23) hx hb (lyX4 ht) (fun _ h9 => h9) hown hK hP 0 rfl rfl 10 (by decide) (fl_X4_24 ht) (fun _ h9 => h9) rfl dX4_replace_68 ?_
            refine lv_iload_n hx hb dX4_replace_71 rfl (lv_at hl 2 rfl) ?_
            refine va_iald hx hb hK hP 3 0 rfl rfl (hk c_4) dX4_replace_72 ?_
            refine lv_aload_n hx hb dX4_replace_73 rfl (lv_at hl 0 rfl) ?_
            refine lv_iload_n hx hb dX4_replace_74 rfl (lv_at hl 2 rfl) ?_
            refine rdV (As := [.int k]) (rest := [.int (st k.toNatClampNeg)]) (st1 := [.int (cntK kd k S), .int (st k.toNatClampNeg)]) (k_X4_usedOf l D cI cJ cZ a 0 rg bu pn pl ja lk nk bl bs bk be al tp st mx my kd ky gx gy gu gv k S gS h24) (si_X4_96 ht ⟨Nat.le_of_ble_eq_true rfl, Nat.le_of_ble_eq_true rfl⟩) hx hb hml hown (va_recv hK hP (ci := 5) (q0 := 0) rfl rfl) (hE.since hS) hP hK rfl hl.1 rfl (Nat.le_of_ble_eq_true rfl) ⟨Nat.zero_le _, Nat.zero_le _⟩ dX4_replace_75 rfl ?_
            refine lv_isub hx hb dX4_replace_78 ?_
            refine lv_if_gt (tgt := 85) hx hb dX4_replace_79 (by decide) (fun c_8 => ?_) (fun c_8 => ?_)
            · skip
              refine lv_aload_n hx hb dX4_replace_85 rfl (lv_at hl 0 rfl) ?_
              refine va_get (D := D) (ci := 5) (v := .ref (a 6)) (C := RX4) (T := TX4) (N := 23) hx hb (lyX4 ht) (fun _ h9 => h9) hown hK hP 0 rfl rfl 13 (by decide) (fl_X4_33 ht) (fun _ h9 => h9) rfl dX4_replace_86 ?_
              refine lv_iload_n hx hb dX4_replace_89 rfl (lv_at hl 1 rfl) ?_
              refine lv_iload_n hx hb dX4_replace_90 rfl (lv_at hl 2 rfl) ?_
              refine va_iast hx hb hK hP hD hS 6 0 rfl rfl (in_of (hrn c_1).1 (hrn c_1).2 (by decide)) dX4_replace_91 (fun H locs hP hD hS => ?_)
              have hP : va_P D vwCl (wM cI cJ cZ a 0 rg bu pn pl ja lk nk bl bs bk be al tp st mx my (upd kd r.toNatClampNeg k) ky gx gy gu gv) H := hP
              have hD : va_D A (wM cI cJ cZ a 0 rg bu pn pl ja lk nk bl bs bk be al tp st mx my (upd kd r.toNatClampNeg k) ky gx gy gu gv) := hD
              refine lv_iload_n hx hb dX4_replace_92 rfl (lv_at hl 1 rfl) ?_
              refine lv_istore_n (lv' := [(3, .int r), (0, .ref (a 0)), (1, .int r), (2, .int k)]) hx hb dX4_replace_93 rfl hl (by decide) rfl (fun ls hl => ?_)
              obtain ⟨ern, hrn24⟩ := hrn c_1
              have hrS : rn < S := nle_lt c_6 gS ern (by omega) (by omega)
              have lp : ∀ (N : Nat) (i : Nat) (z : Int32) (kd1 : Nat → Int32) (ky1 : Nat → Int32) (gx1 : Nat → Int64) (gy1 : Nat → Int64) (gu1 : Nat → Int64) (gv1 : Nat → Int64), (z = nI i) → (i ≤ S) → (rn ≤ i) → (kd1 = (upd kd r.toNatClampNeg k)) → (ky1 = ky) → ((gx1, gy1, gu1, gv1) = rlM tp (upd kd r.toNatClampNeg k) ky rn (gx, gy, gu, gv) (i - rn)) → S - i < N → ∀ (H : Heap) (locs : List Loc), va_P D vwCl (wM cI cJ cZ a 0 rg bu pn pl ja lk nk bl bs bk be al tp st mx my kd1 ky1 gx1 gy1 gu1 gv1) H → va_D A (wM cI cJ cZ a 0 rg bu pn pl ja lk nk bl bs bk be al tp st mx my kd1 ky1 gx1 gy1 gu1 gv1) → va_S A s.heap H locs → ∀ (ls : Array Slot), lv_has ls 4 [(3, .int z), (0, .ref (a 0)), (1, .int r), (2, .int k)] → W p l e (rmD 2 0 0) s m ([.ref (a 0), .int r, .int k] : List Value).toArray below meth c H locs 0 0 (MQ below (QcW D (wM cI cJ cZ a fa rg bu pn pl ja lk nk bl bs bk be al tp st mx my kd ky gx gy gu gv) s.heap.size (fun ov w' => ov = some (.int (f_X4_replace r k S rg bu pn nk st kd)) ∧ w' = wM cI cJ cZ a (f_X4_replace_fa r k S rg bu pn nk st kd) rg bu pn pl ja lk nk bl bs bk be al tp st mx my (f_X4_replace_kd r k S rg bu pn nk st kd) ky (f_X4_replace_gx r k rn S rg bu pn nk tp st kd ky gx gy gu gv) (f_X4_replace_gy r k rn S rg bu pn nk tp st kd ky gx gy gu gv) (f_X4_replace_gu r k rn S rg bu pn nk tp st kd ky gx gy gu gv) (f_X4_replace_gv r k rn S rg bu pn nk tp st kd ky gx gy gu gv))) ([.ref (a 0), .int r, .int k] : List Value).toArray s 0 0 A) (F0 m 94 ls []) := by
                intro N
                induction N with
                | zero => intro i z kd1 ky1 gx1 gy1 gu1 gv1 _ _ _ _ _ _ hN; exact absurd hN (Nat.not_lt_zero _)
                | succ N lp_ih =>
                  intro i z kd1 ky1 gx1 gy1 gu1 gv1 hz hi hlo hk1 ht1 hg hN H locs hP hD hS ls hl
                  refine lv_iload_n hx hb dX4_replace_94 rfl (lv_at hl 0 rfl) ?_
                  refine lv_aload_n hx hb dX4_replace_95 rfl (lv_at hl 1 rfl) ?_
                  refine va_get (D := D) (ci := 5) (v := .int bu) (C := RX4) (T := TX4) (N := 23) hx hb (lyX4 ht) (fun _ h9 => h9) hown hK hP 0 rfl rfl 2 (by decide) (fl_X4_61 ht) (fun _ h9 => h9) rfl dX4_replace_96 ?_
                  refine lv_aload_n hx hb dX4_replace_99 rfl (lv_at hl 1 rfl) ?_
                  refine va_get (D := D) (ci := 5) (v := .int pn) (C := RX4) (T := TX4) (N := 23) hx hb (lyX4 ht) (fun _ h9 => h9) hown hK hP 0 rfl rfl 3 (by decide) (fl_X4_64 ht) (fun _ h9 => h9) rfl dX4_replace_100 ?_
                  refine lv_iadd hx hb dX4_replace_103 ?_
                  refine lv_icmp_ge (tgt := 130) hx hb dX4_replace_104 (by decide) (fun c_9 => ?_) (fun c_9 => ?_)
                  · skip
                    have h9 := le_le c_9 gS hz (by omega) (by omega)
                    have hgS : (gx1, gy1, gu1, gv1) = rlM tp (upd kd r.toNatClampNeg k) ky rn (gx, gy, gu, gv) (S - rn) := by rw [show i = S by omega] at hg; exact hg
                    have e_kd1 : kd1 = upd kd r.toNatClampNeg k := hk1
                    have e_ky1 : ky1 = ky := ht1
                    have e_gx1 : gx1 = (rlM tp (upd kd r.toNatClampNeg k) ky rn (gx, gy, gu, gv) (S - rn)).1 := (by rw [← hgS])
                    have e_gy1 : gy1 = (rlM tp (upd kd r.toNatClampNeg k) ky rn (gx, gy, gu, gv) (S - rn)).2.1 := (by rw [← hgS])
                    have e_gu1 : gu1 = (rlM tp (upd kd r.toNatClampNeg k) ky rn (gx, gy, gu, gv) (S - rn)).2.2.1 := (by rw [← hgS])
                    have e_gv1 : gv1 = (rlM tp (upd kd r.toNatClampNeg k) ky rn (gx, gy, gu, gv) (S - rn)).2.2.2 := (by rw [← hgS])
                    rw [e_kd1, e_ky1, e_gx1, e_gy1, e_gu1, e_gv1] at hP hD
                    have hP : va_P D vwCl (wM cI cJ cZ a 0 rg bu pn pl ja lk nk bl bs bk be al tp st mx my (upd kd r.toNatClampNeg k) ky ((rlM tp (upd kd r.toNatClampNeg k) ky rn (gx, gy, gu, gv) (S - rn)).1) ((rlM tp (upd kd r.toNatClampNeg k) ky rn (gx, gy, gu, gv) (S - rn)).2.1) ((rlM tp (upd kd r.toNatClampNeg k) ky rn (gx, gy, gu, gv) (S - rn)).2.2.1) ((rlM tp (upd kd r.toNatClampNeg k) ky rn (gx, gy, gu, gv) (S - rn)).2.2.2)) H := hP
                    have hD : va_D A (wM cI cJ cZ a 0 rg bu pn pl ja lk nk bl bs bk be al tp st mx my (upd kd r.toNatClampNeg k) ky ((rlM tp (upd kd r.toNatClampNeg k) ky rn (gx, gy, gu, gv) (S - rn)).1) ((rlM tp (upd kd r.toNatClampNeg k) ky rn (gx, gy, gu, gv) (S - rn)).2.1) ((rlM tp (upd kd r.toNatClampNeg k) ky rn (gx, gy, gu, gv) (S - rn)).2.2.1) ((rlM tp (upd kd r.toNatClampNeg k) ky rn (gx, gy, gu, gv) (S - rn)).2.2.2)) := hD
                    refine lv_iconst (v := 1) hx hb dX4_replace_130 (by decide) ?_
                    exact wr_i hx hb hr hlocks hAe hP hD hS dX4_replace_131 (⟨by unfold f_X4_replace; rw [if_neg c_1, if_neg c_4, if_neg c_5, if_neg c_6, if_neg c_7, if_pos c_8], by simp only [f_X4_replace_fa, f_X4_replace_kd, f_X4_replace_gx, f_X4_replace_gy, f_X4_replace_gu, f_X4_replace_gv, if_neg c_1, if_neg c_4, if_neg c_5, if_neg c_6, if_neg c_7, if_pos c_8]⟩)
                  · skip
                    refine lv_aload_n hx hb dX4_replace_107 rfl (lv_at hl 1 rfl) ?_
                    refine lv_iload_n hx hb dX4_replace_108 rfl (lv_at hl 0 rfl) ?_
                    refine lv_aload_n hx hb dX4_replace_109 rfl (lv_at hl 1 rfl) ?_
                    refine va_get (D := D) (ci := 5) (v := .ref (a 6)) (C := RX4) (T := TX4) (N := 23) hx hb (lyX4 ht) (fun _ h9 => h9) hown hK hP 0 rfl rfl 13 (by decide) (fl_X4_33 ht) (fun _ h9 => h9) rfl dX4_replace_110 ?_
                    refine lv_iload_n hx hb dX4_replace_113 rfl (lv_at hl 0 rfl) ?_
                    refine va_iald hx hb hK hP 6 0 rfl rfl (in_of hz (by have := (nle_lt c_9 gS hz (by omega) (by omega)); omega : i < 24) (by decide)) dX4_replace_114 ?_
                    refine lv_aload_n hx hb dX4_replace_115 rfl (lv_at hl 1 rfl) ?_
                    refine va_get (D := D) (ci := 5) (v := .ref (a 7)) (C := RX4) (T := TX4) (N := 23) hx hb (lyX4 ht) (fun _ h9 => h9) hown hK hP 0 rfl rfl 14 (by decide) (fl_X4_36 ht) (fun _ h9 => h9) rfl dX4_replace_116 ?_
                    refine lv_iload_n hx hb dX4_replace_119 rfl (lv_at hl 0 rfl) ?_
                    refine va_iald hx hb hK hP 7 0 rfl rfl (in_of hz (by have := (nle_lt c_9 gS hz (by omega) (by omega)); omega : i < 24) (by decide)) dX4_replace_120 ?_
                    refine wrV (As := [.int z, .int (kd1 z.toNatClampNeg), .int (ky1 z.toNatClampNeg)]) (rest := []) (k_X4_set l D cI cJ cZ a 0 rg bu pn pl ja lk nk bl bs bk be al tp st mx my kd1 ky1 gx1 gy1 gu1 gv1 z (kd1 z.toNatClampNeg) (ky1 z.toNatClampNeg) (in_of hz (by have := (nle_lt c_9 gS hz (by omega) (by omega)); omega : i < 24) (by decide)) (in_pred4 hz (by have := (nle_lt c_9 gS hz (by omega) (by omega)); omega)) (by rw [cl_of hz (by have := (nle_lt c_9 gS hz (by omega) (by omega)); omega), hk1]; exact in_upd (hkd i (by have := (nle_lt c_9 gS hz (by omega) (by omega)); omega)) (hk c_4))) (si_X4_116 ht ⟨Nat.le_of_ble_eq_true rfl, Nat.le_of_ble_eq_true rfl⟩) hx hb hml hown (va_recv hK hP (ci := 5) (q0 := 0) rfl rfl) hE hP hK hD hS hA rfl hl.1 rfl (Nat.le_of_ble_eq_true rfl) ⟨Nat.zero_le _, Nat.zero_le _⟩ dX4_replace_121 (fun ov w' H locs hpost hP hD hS => ?_)
                    obtain ⟨rfl, rfl⟩ := hpost
                    refine W.st (st1 := []) rfl ?_
                    have hP : va_P D vwCl (wM cI cJ cZ a 0 rg bu pn pl ja lk nk bl bs bk be al tp st mx my (f_X4_set_kd z (kd1 z.toNatClampNeg) kd1) (f_X4_set_ky z (ky1 z.toNatClampNeg) ky1) (f_X4_set_gx z (kd1 z.toNatClampNeg) (ky1 z.toNatClampNeg) tp gx1 gu1) (f_X4_set_gy z (kd1 z.toNatClampNeg) (ky1 z.toNatClampNeg) tp gy1 gv1) (f_X4_set_gu z (kd1 z.toNatClampNeg) (ky1 z.toNatClampNeg) tp gu1) (f_X4_set_gv z (kd1 z.toNatClampNeg) (ky1 z.toNatClampNeg) tp gv1)) H := hP
                    have hD : va_D A (wM cI cJ cZ a 0 rg bu pn pl ja lk nk bl bs bk be al tp st mx my (f_X4_set_kd z (kd1 z.toNatClampNeg) kd1) (f_X4_set_ky z (ky1 z.toNatClampNeg) ky1) (f_X4_set_gx z (kd1 z.toNatClampNeg) (ky1 z.toNatClampNeg) tp gx1 gu1) (f_X4_set_gy z (kd1 z.toNatClampNeg) (ky1 z.toNatClampNeg) tp gy1 gv1) (f_X4_set_gu z (kd1 z.toNatClampNeg) (ky1 z.toNatClampNeg) tp gu1) (f_X4_set_gv z (kd1 z.toNatClampNeg) (ky1 z.toNatClampNeg) tp gv1)) := hD
                    have h8 := (nle_lt c_9 gS hz (by omega) (by omega))
                    refine lv_iinc (v := z + 1) (lv' := [(3, .int (z + 1)), (0, .ref (a 0)), (1, .int r), (2, .int k)]) hx hb dX4_replace_124 hl (k := 0) rfl rfl (by decide) rfl (fun ls hl => ?_)
                    refine lv_goto (tgt := 94) hx hb dX4_replace_127 (by decide) ?_
                    exact lp_ih (i + 1) (z + 1) (f_X4_set_kd z (kd1 z.toNatClampNeg) kd1) (f_X4_set_ky z (ky1 z.toNatClampNeg) ky1) (f_X4_set_gx z (kd1 z.toNatClampNeg) (ky1 z.toNatClampNeg) tp gx1 gu1) (f_X4_set_gy z (kd1 z.toNatClampNeg) (ky1 z.toNatClampNeg) tp gy1 gv1) (f_X4_set_gu z (kd1 z.toNatClampNeg) (ky1 z.toNatClampNeg) tp gu1) (f_X4_set_gv z (kd1 z.toNatClampNeg) (ky1 z.toNatClampNeg) tp gv1) (nI_s hz) (by omega) (by omega) (by rw [cl_of hz (by omega), hk1, set_kd hz (by omega)]; exact upd_id) (by rw [cl_of hz (by omega), ht1, set_ky hz (by omega)]; exact upd_id) (by rw [show i + 1 - rn = (i - rn) + 1 by omega]; show _ = (_, _, _, _); rw [← hg, show rn + (i - rn) = i by omega, cl_of hz (by omega), hk1, ht1, hz]) (by omega) _ _ hP hD hS ls (lv_sub hl [0, 1, 2, 3] rfl)
              exact lp _ rn r (upd kd r.toNatClampNeg k) ky gx gy gu gv ern (by omega) (Nat.le_refl _) rfl rfl (by rw [Nat.sub_self]; rfl) (Nat.lt_succ_self _) _ _ hP hD hS ls (lv_sub hl [0, 1, 2, 3] rfl)
            · skip
              refine lv_bipush (v := -3) hx hb dX4_replace_82 (by decide) ?_
              exact wr_i hx hb hr hlocks hAe hP hD hS dX4_replace_84 (⟨by unfold f_X4_replace; rw [if_neg c_1, if_neg c_4, if_neg c_5, if_neg c_6, if_neg c_7, if_neg c_8], by simp only [f_X4_replace_fa, f_X4_replace_kd, f_X4_replace_gx, f_X4_replace_gy, f_X4_replace_gu, f_X4_replace_gv, if_neg c_1, if_neg c_4, if_neg c_5, if_neg c_6, if_neg c_7, if_neg c_8]⟩)
    · skip
      refine lv_iconst (v := -1) hx hb dX4_replace_34 (by decide) ?_
      exact wr_i hx hb hr hlocks hAe hP hD hS dX4_replace_35 (⟨by unfold f_X4_replace; rw [if_neg c_1, if_pos c_4], by simp only [f_X4_replace_fa, f_X4_replace_kd, f_X4_replace_gx, f_X4_replace_gy, f_X4_replace_gu, f_X4_replace_gv, if_neg c_1, if_pos c_4]⟩)
