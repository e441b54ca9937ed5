def f_X4_sum (S : Nat) (mx : Nat → Int32) (my : Nat → Int32) (gx : Nat → Int64) (gy : Nat → Int64) : Int64 := sumF (fun j => f_X4_offOf (nI j) mx my gx gy) S
def f_X4_sum_fa  : Int32 := 0
set_option maxRecDepth 20000 in
set_option maxHeartbeats 4000000 in
theorem k_X4_sum (l : Launch) (D : va_G) (cI cJ cZ : ClassId) (a : Nat → Nat) (fa rg bu pn pl ja lk nk bl : Int32) (bs : Int64) (bk be : Int32) (al tp st mx my kd ky : Nat → Int32) (gx gy gu gv : Nat → Int64) (S : Nat) (gS : bu + pn = nI S) (h24 : S ≤ 24) : WR l yX4_sum cX4_sum 4 (some .long) 1 0 0 D (tysW cI cJ cZ) (wM cI cJ cZ a fa rg bu pn pl ja lk nk bl bs bk be al tp st mx my kd ky gx gy gu gv) [.ref (a 0)] (fun ov w' => ov = some (.long (f_X4_sum S mx my gx gy)) ∧ w' = wM cI cJ cZ a f_X4_sum_fa rg bu pn pl ja lk nk bl bs bk be al tp st mx my kd ky gx gy gu gv) := by
  refine WR.of (by decide) ?_
  intro p e s m below meth c A hadm hx hb hr hml hown hlocks hname hE hP hK hD hS hA hAe
  have hown : s.vm.findClass RX4 = some m.cls := hown
  have ht : tb_OK s := hE.1
  have hl := lv_entry ([.ref (a 0)]) (n := 4) (Nat.le_of_ble_eq_true rfl)
  rw [lg_entry_eq]
  generalize (lg_sl ([.ref (a 0)]) ++ List.replicate (4 - (lg_sl ([.ref (a 0)])).length) Slot.unset).toArray = ls at hl ⊢
  have hl : lv_has ls 4 [(0, .ref (a 0))] := hl
  refine lv_aload_n hx hb dX4_sum_0 rfl (lv_at hl 0 rfl) ?_
  refine lv_iconst (v := 0) hx hb dX4_sum_1 (by decide) ?_
  refine va_put (D := D) (ci := 5) (v := .int 0) (ty := .int) (C := RX4) (T := TX4) (N := 23) hx hb (lyX4 ht) (fun _ h9 => h9) tyX4 tyX4_ok nmX4 hown hK hP hD hS 0 rfl rfl 0 (by decide) (fl_X4_55 ht) (fun _ h9 => h9) rfl (by decide +kernel) rfl rfl (Nat.le_of_ble_eq_true rfl) dX4_sum_2 (fun H locs hP hD hS => ?_)
  have hP : va_P D vwCl (wM cI cJ cZ a 0 rg bu pn pl ja lk nk bl bs bk be al tp st mx my kd ky gx gy gu gv) H := hP
  have hD : va_D A (wM cI cJ cZ a 0 rg bu pn pl ja lk nk bl bs bk be al tp st mx my kd ky gx gy gu gv) := hD
  refine lv_lconst (v := 0) hx hb dX4_sum_5 (by decide) ?_
  refine lv_lstore_n (lv' := [(1, .long 0), (0, .ref (a 0))]) hx hb dX4_sum_6 rfl hl (by decide) rfl (fun ls hl => ?_)
  refine lv_iconst (v := 0) hx hb dX4_sum_7 (by decide) ?_
  refine lv_istore_n (lv' := [(3, .int 0), (1, .long 0), (0, .ref (a 0))]) hx hb dX4_sum_8 rfl hl (by decide) rfl (fun ls hl => ?_)
  have lp : ∀ (N : Nat) (i : Nat) (q : Int64) (z : Int32) , (z = nI i) → (i ≤ S) → (q = sumF (fun j => f_X4_offOf (nI j) mx my gx gy) i) → S - i < N → ∀ (H : Heap) (locs : List Loc), va_P D vwCl (wM cI cJ cZ a 0 rg bu pn pl ja lk nk bl bs bk be al tp st mx my kd ky gx gy gu gv) H → va_D A (wM cI cJ cZ a 0 rg bu pn pl ja lk nk bl bs bk be al tp st mx my kd ky gx gy gu gv) → va_S A s.heap H locs → ∀ (ls : Array Slot), lv_has ls 4 [(3, .int z), (1, .long q), (0, .ref (a 0))] → W p l e (rmD 1 0 0) s m ([.ref (a 0)] : List Value).toArray below meth c H locs 0 0 (MQ below (QcW D (wM cI cJ cZ a fa rg bu pn pl ja lk nk bl bs bk be al tp st mx my kd ky gx gy gu gv) s.heap.size (fun ov w' => ov = some (.long (f_X4_sum S mx my gx gy)) ∧ w' = wM cI cJ cZ a f_X4_sum_fa rg bu pn pl ja lk nk bl bs bk be al tp st mx my kd ky gx gy gu gv)) ([.ref (a 0)] : List Value).toArray s 0 0 A) (F0 m 9 ls []) := by
    intro N
    induction N with
    | zero => intro i q z _ _ _ hN; exact absurd hN (Nat.not_lt_zero _)
    | succ N lp_ih =>
      intro i q z hz hi hq hN H locs hP hD hS ls hl
      refine lv_iload_n hx hb dX4_sum_9 rfl (lv_at hl 0 rfl) ?_
      refine lv_aload_n hx hb dX4_sum_10 rfl (lv_at hl 2 rfl) ?_
      refine va_get (D := D) (ci := 5) (v := .int bu) (C := RX4) (T := TX4) (N := 23) hx hb (lyX4 ht) (fun _ h9 => h9) hown hK hP 0 rfl rfl 2 (by decide) (fl_X4_61 ht) (fun _ h9 => h9) rfl dX4_sum_11 ?_
      refine lv_aload_n hx hb dX4_sum_14 rfl (lv_at hl 2 rfl) ?_
      refine va_get (D := D) (ci := 5) (v := .int pn) (C := RX4) (T := TX4) (N := 23) hx hb (lyX4 ht) (fun _ h9 => h9) hown hK hP 0 rfl rfl 3 (by decide) (fl_X4_64 ht) (fun _ h9 => h9) rfl dX4_sum_15 ?_
      refine lv_iadd hx hb dX4_sum_18 ?_
      refine lv_icmp_ge (tgt := 36) hx hb dX4_sum_19 (by decide) (fun c_1 => ?_) (fun c_1 => ?_)
      · skip
        have h9 := (le_le c_1 gS hz (by omega) (by omega))
        have e_q : q = sumF (fun j => f_X4_offOf (nI j) mx my gx gy) S := (by rw [hq, show i = S by omega])
        rw [e_q] at hl
        refine lv_lload_n hx hb dX4_sum_36 rfl (lv_at hl 1 rfl) ?_
        exact wr_l hx hb hr hlocks hAe hP hD hS dX4_sum_37 (⟨rfl, rfl⟩)
      · skip
        refine lv_lload_n hx hb dX4_sum_22 rfl (lv_at hl 1 rfl) ?_
        refine lv_aload_n hx hb dX4_sum_23 rfl (lv_at hl 2 rfl) ?_
        refine lv_iload_n hx hb dX4_sum_24 rfl (lv_at hl 0 rfl) ?_
        refine rdV (As := [.int z]) (rest := [.long q]) (st1 := [.long (f_X4_offOf z mx my gx gy), .long q]) (k_X4_offOf l D cI cJ cZ a 0 rg bu pn pl ja lk nk bl bs bk be al tp st mx my kd ky gx gy gu gv z (in_of hz (by have := (nle_lt c_1 gS hz (by omega) (by omega)); omega : i < 24) (by decide))) (si_X4_120 ht ⟨Nat.le_of_ble_eq_true rfl, Nat.le_of_ble_eq_true rfl⟩) hx hb hml hown (va_recv hK hP (ci := 5) (q0 := 0) rfl rfl) (hE.since hS) hP hK rfl hl.1 rfl (Nat.le_of_ble_eq_true rfl) ⟨Nat.zero_le _, Nat.zero_le _⟩ dX4_sum_25 rfl ?_
        refine lv_ladd hx hb dX4_sum_28 ?_
        refine lv_lstore_n (lv' := [(1, .long (q + (f_X4_offOf z mx my gx gy))), (3, .int z), (0, .ref (a 0))]) hx hb dX4_sum_29 rfl hl (by decide) rfl (fun ls hl => ?_)
        have h8 := (nle_lt c_1 gS hz (by omega) (by omega))
        refine lv_iinc (v := z + 1) (lv' := [(3, .int (z + 1)), (1, .long (q + (f_X4_offOf z mx my gx gy))), (0, .ref (a 0))]) hx hb dX4_sum_30 hl (k := 1) rfl rfl (by decide) rfl (fun ls hl => ?_)
        refine lv_goto (tgt := 9) hx hb dX4_sum_33 (by decide) ?_
        exact lp_ih (i + 1) (q + (f_X4_offOf z mx my gx gy)) (z + 1) (nI_s hz) (by have := (nle_lt c_1 gS hz (by omega) (by omega)); omega) (by rw [hq, hz]; rfl) (by omega) _ _ hP hD hS ls (lv_sub hl [0, 1, 2] rfl)
  exact lp _ 0 0 0 rfl (Nat.zero_le _) rfl (Nat.lt_succ_self _) _ _ hP hD hS ls (lv_sub hl [0, 1, 2] rfl)
set_option maxRecDepth 20000 in
set_option maxHeartbeats 4000000 in
theorem k_X4_list (l : Launch) (D : va_G) (cI cJ cZ : ClassId) (a : Nat → Nat) (fa rg bu pn pl ja lk nk bl : Int32) (bs : Int64) (bk be : Int32) (al tp st mx my kd ky : Nat → Int32) (gx gy gu gv : Nat → Int64) (k : Int32) (j : Int32) (S : Nat) (gS : bu + pn = nI S) (h24 : S ≤ 24) : WR l yX4_list cX4_list 5 (some .int) 0 0 0 D (tysW cI cJ cZ) (wM cI cJ cZ a fa rg bu pn pl ja lk nk bl bs bk be al tp st mx my kd ky gx gy gu gv) [.ref (a 0), .int k, .int j] (fun ov w' => ov = some (.int (lstK kd k j S 0 0)) ∧ w' = wM cI cJ cZ a 0 rg bu pn pl ja lk nk bl bs bk be al tp st mx my kd ky gx gy gu gv) := by
  refine WR.of (by decide) ?_
  intro p e s m below meth c A hadm hx hb hr hml hown hlocks hname hE hP hK hD hS hA hAe
  have hown : s.vm.findClass RX4 = some m.cls := hown
  have ht : tb_OK s := hE.1
  have hl := lv_entry ([.ref (a 0), .int k, .int j]) (n := 5) (Nat.le_of_ble_eq_true rfl)
  rw [lg_entry_eq]
  generalize (lg_sl ([.ref (a 0), .int k, .int j]) ++ List.replicate (5 - (lg_sl ([.ref (a 0), .int k, .int j])).length) Slot.unset).toArray = ls at hl ⊢
  have hl : lv_has ls 5 [(0, .ref (a 0)), (1, .int k), (2, .int j)] := hl
  refine lv_aload_n hx hb dX4_list_0 rfl (lv_at hl 0 rfl) ?_
  refine lv_iconst (v := 0) hx hb dX4_list_1 (by decide) ?_
  refine va_put (D := D) (ci := 5) (v := .int 0) (ty := .int) (C := RX4) (T := TX4) (N := 23) hx hb (lyX4 ht) (fun _ h9 => h9) tyX4 tyX4_ok nmX4 hown hK hP hD hS 0 rfl rfl 0 (by decide) (fl_X4_55 ht) (fun _ h9 => h9) rfl (by decide +kernel) rfl rfl (Nat.le_of_ble_eq_true rfl) dX4_list_2 (fun H locs hP hD hS => ?_)
  have hP : va_P D vwCl (wM cI cJ cZ a 0 rg bu pn pl ja lk nk bl bs bk be al tp st mx my kd ky gx gy gu gv) H := hP
  have hD : va_D A (wM cI cJ cZ a 0 rg bu pn pl ja lk nk bl bs bk be al tp st mx my kd ky gx gy gu gv) := hD
  refine lv_iconst (v := 0) hx hb dX4_list_5 (by decide) ?_
  refine lv_istore_n (lv' := [(3, .int 0), (0, .ref (a 0)), (1, .int k), (2, .int j)]) hx hb dX4_list_6 rfl hl (by decide) rfl (fun ls hl => ?_)
  refine lv_iconst (v := 0) hx hb dX4_list_7 (by decide) ?_
  refine lv_istore (lv' := [(4, .int 0), (3, .int 0), (0, .ref (a 0)), (1, .int k), (2, .int j)]) hx hb dX4_list_8 hl (by decide) rfl (fun ls hl => ?_)
  have lp : ∀ (N : Nat) (i : Nat) (q : Int32) (z : Int32) , (z = nI i) → (i ≤ S) → (lstK kd k j (S - i) i q = lstK kd k j S 0 0) → S - i < N → ∀ (H : Heap) (locs : List Loc), va_P D vwCl (wM cI cJ cZ a 0 rg bu pn pl ja lk nk bl bs bk be al tp st mx my kd ky gx gy gu gv) H → va_D A (wM cI cJ cZ a 0 rg bu pn pl ja lk nk bl bs bk be al tp st mx my kd ky gx gy gu gv) → va_S A s.heap H locs → ∀ (ls : Array Slot), lv_has ls 5 [(4, .int z), (3, .int q), (0, .ref (a 0)), (1, .int k), (2, .int j)] → W p l e (rmD 0 0 0) s m ([.ref (a 0), .int k, .int j] : List Value).toArray below meth c H locs 0 0 (MQ below (QcW D (wM cI cJ cZ a fa rg bu pn pl ja lk nk bl bs bk be al tp st mx my kd ky gx gy gu gv) s.heap.size (fun ov w' => ov = some (.int (lstK kd k j S 0 0)) ∧ w' = wM cI cJ cZ a 0 rg bu pn pl ja lk nk bl bs bk be al tp st mx my kd ky gx gy gu gv)) ([.ref (a 0), .int k, .int j] : List Value).toArray s 0 0 A) (F0 m 10 ls []) := by
    intro N
    induction N with
    | zero => intro i q z _ _ _ hN; exact absurd hN (Nat.not_lt_zero _)
    | succ N lp_ih =>
      intro i q z hz hi hq hN H locs hP hD hS ls hl
      refine lv_iload hx hb dX4_list_10 (lv_at hl 0 rfl) ?_
      refine lv_aload_n hx hb dX4_list_12 rfl (lv_at hl 2 rfl) ?_
      refine va_get (D := D) (ci := 5) (v := .int bu) (C := RX4) (T := TX4) (N := 23) hx hb (lyX4 ht) (fun _ h9 => h9) hown hK hP 0 rfl rfl 2 (by decide) (fl_X4_61 ht) (fun _ h9 => h9) rfl dX4_list_13 ?_
      refine lv_aload_n hx hb dX4_list_16 rfl (lv_at hl 2 rfl) ?_
      refine va_get (D := D) (ci := 5) (v := .int pn) (C := RX4) (T := TX4) (N := 23) hx hb (lyX4 ht) (fun _ h9 => h9) hown hK hP 0 rfl rfl 3 (by decide) (fl_X4_64 ht) (fun _ h9 => h9) rfl dX4_list_17 ?_
      refine lv_iadd hx hb dX4_list_20 ?_
      refine lv_icmp_ge (tgt := 52) hx hb dX4_list_21 (by decide) (fun c_1 => ?_) (fun c_1 => ?_)
      · skip
        refine lv_iconst (v := -1) hx hb dX4_list_52 (by decide) ?_
        exact wr_i hx hb hr hlocks hAe hP hD hS dX4_list_53 (⟨by congr 2; have h8 := (le_le c_1 gS hz (by omega) (by omega)); rw [← hq, show S - i = 0 by omega]; rfl, rfl⟩)
      · skip
        refine lv_aload_n hx hb dX4_list_24 rfl (lv_at hl 2 rfl) ?_
        refine va_get (D := D) (ci := 5) (v := .ref (a 6)) (C := RX4) (T := TX4) (N := 23) hx hb (lyX4 ht) (fun _ h9 => h9) hown hK hP 0 rfl rfl 13 (by decide) (fl_X4_33 ht) (fun _ h9 => h9) rfl dX4_list_25 ?_
        refine lv_iload hx hb dX4_list_28 (lv_at hl 0 rfl) ?_
        refine va_iald hx hb hK hP 6 0 rfl rfl (in_of hz (by have := (nle_lt c_1 gS hz (by omega) (by omega)); omega : i < 24) (by decide)) dX4_list_30 ?_
        refine lv_iload_n hx hb dX4_list_31 rfl (lv_at hl 3 rfl) ?_
        refine lv_icmp_ne (tgt := 46) hx hb dX4_list_32 (by decide) (fun c_2 => ?_) (fun c_2 => ?_)
        · skip
          have h8 := (nle_lt c_1 gS hz (by omega) (by omega))
          refine lv_iinc (v := z + 1) (lv' := [(4, .int (z + 1)), (3, .int q), (0, .ref (a 0)), (1, .int k), (2, .int j)]) hx hb dX4_list_46 hl (k := 0) rfl rfl (by decide) rfl (fun ls hl => ?_)
          refine lv_goto (tgt := 10) hx hb dX4_list_49 (by decide) ?_
          exact lp_ih (i + 1) q (z + 1) (nI_s hz) (by have := (nle_lt c_1 gS hz (by omega) (by omega)); omega) (by have h9 := cl_of hz (by omega); have e1 := c_2; rw [h9] at e1; rw [← hq, show S - i = (S - (i + 1)) + 1 by omega]; simp only [lstK]; rw [if_neg e1]) (by omega) _ _ hP hD hS ls (lv_sub hl [0, 1, 2, 3, 4] rfl)
        · skip
          refine lv_iload_n hx hb dX4_list_35 rfl (lv_at hl 1 rfl) ?_
          refine lv_iload_n hx hb dX4_list_36 rfl (lv_at hl 4 rfl) ?_
          refine lv_icmp_ne (tgt := 43) hx hb dX4_list_37 (by decide) (fun c_3 => ?_) (fun c_3 => ?_)
          · skip
            refine lv_iinc (v := q + 1) (lv' := [(3, .int (q + 1)), (4, .int z), (0, .ref (a 0)), (1, .int k), (2, .int j)]) hx hb dX4_list_43 hl (k := 1) rfl rfl (by decide) rfl (fun ls hl => ?_)
            have h8 := (nle_lt c_1 gS hz (by omega) (by omega))
            refine lv_iinc (v := z + 1) (lv' := [(4, .int (z + 1)), (3, .int (q + 1)), (0, .ref (a 0)), (1, .int k), (2, .int j)]) hx hb dX4_list_46 hl (k := 1) rfl rfl (by decide) rfl (fun ls hl => ?_)
            refine lv_goto (tgt := 10) hx hb dX4_list_49 (by decide) ?_
            exact lp_ih (i + 1) (q + 1) (z + 1) (nI_s hz) (by have := (nle_lt c_1 gS hz (by omega) (by omega)); omega) (by have h9 := cl_of hz (by omega); have e1 := c_2; rw [h9] at e1; rw [← hq, show S - i = (S - (i + 1)) + 1 by omega]; simp only [lstK]; rw [if_pos e1, if_neg c_3]) (by omega) _ _ hP hD hS ls (lv_sub hl [0, 1, 2, 3, 4] rfl)
          · skip
            refine lv_iload hx hb dX4_list_40 (lv_at hl 0 rfl) ?_
            exact wr_i hx hb hr hlocks hAe hP hD hS dX4_list_42 (⟨by congr 2; have h8 := (nle_lt c_1 gS hz (by omega) (by omega)); have h9 := cl_of hz (by omega); have e1 := c_2; rw [h9] at e1; rw [← hq, show S - i = (S - (i + 1)) + 1 by omega]; simp only [lstK]; rw [if_pos e1, if_pos c_3]; exact hz, rfl⟩)
  exact lp _ 0 0 0 rfl (Nat.zero_le _) rfl (Nat.lt_succ_self _) _ _ hP hD hS ls (lv_sub hl [0, 1, 2, 3, 4] rfl)
def f_X4_count (k : Int32) (rg : Int32) (bu : Int32) (pn : Int32) (pl : Int32) (ja : Int32) (lk : Int32) (nk : Int32) (al : Nat → Int32) : Int32 := if (f_X4_in k.toInt64 0 7) = 0 then 0 else (if k = 0 then rg else (if k = 1 then bu else (if k = 2 then pn else (if k = 3 then nk else (if k = 4 then ja else (if k = 5 then lk else (if k = 6 then (cntZ al 16) else pl)))))))
def f_X4_count_fa (k : Int32) : Int32 := if (f_X4_in k.toInt64 0 7) = 0 then 1 else (if k = 0 then 0 else (if k = 1 then 0 else (if k = 2 then 0 else (if k = 3 then 0 else (if k = 4 then 0 else (if k = 5 then 0 else (if k = 6 then 0 else 0)))))))
set_option maxRecDepth 20000 in
set_option maxHeartbeats 4000000 in
theorem k_X4_count (l : Launch) (D : va_G) (cI cJ cZ : ClassId) (a : Nat → Nat) (fa rg bu pn pl ja lk nk bl : Int32) (bs : Int64) (bk be : Int32) (al tp st mx my kd ky : Nat → Int32) (gx gy gu gv : Nat → Int64) (k : Int32) : WR l yX4_count cX4_count 4 (some .int) 1 0 0 D (tysW cI cJ cZ) (wM cI cJ cZ a fa rg bu pn pl ja lk nk bl bs bk be al tp st mx my kd ky gx gy gu gv) [.ref (a 0), .int k] (fun ov w' => ov = some (.int (f_X4_count k rg bu pn pl ja lk nk al)) ∧ w' = wM cI cJ cZ a (f_X4_count_fa k) rg bu pn pl ja lk nk bl bs bk be al tp st mx my kd ky gx gy gu gv) := by
  refine WR.of (by decide) ?_
  intro p e s m below meth c A hadm hx hb hr hml hown hlocks hname hE hP hK hD hS hA hAe
  have hown : s.vm.findClass RX4 = some m.cls := hown
  have ht : tb_OK s := hE.1
  have hl := lv_entry ([.ref (a 0), .int k]) (n := 4) (Nat.le_of_ble_eq_true rfl)
  rw [lg_entry_eq]
  generalize (lg_sl ([.ref (a 0), .int k]) ++ List.replicate (4 - (lg_sl ([.ref (a 0), .int k])).length) Slot.unset).toArray = ls at hl ⊢
  have hl : lv_has ls 4 [(0, .ref (a 0)), (1, .int k)] := hl
  refine lv_aload_n hx hb dX4_count_0 rfl (lv_at hl 0 rfl) ?_
  refine lv_iload_n hx hb dX4_count_1 rfl (lv_at hl 1 rfl) ?_
  refine lv_i2l (v := k.toInt64) hx hb dX4_count_2 rfl ?_
  refine lv_lconst (v := 0) hx hb dX4_count_3 (by decide) ?_
  refine lv_ldc2 (v := 7) hx hb hown (kl_X4_147 ht) dX4_count_4 ?_
  refine rdS (As := [.long k.toInt64, .long 0, .long 7]) (rest := [.ref (a 0)]) (st1 := [.int (f_X4_in k.toInt64 0 7), .ref (a 0)]) (k_X4_in l D (tysW cI cJ cZ) k.toInt64 0 7) (si_X4_69 ht ⟨Nat.le_of_ble_eq_true rfl, Nat.le_of_ble_eq_true rfl⟩) hx hb hml hown (hE.since hS) pNil hK rfl hl.1 rfl (Nat.le_of_ble_eq_true rfl) ⟨Nat.zero_le _, Nat.zero_le _⟩ dX4_count_7 rfl ?_
  refine lv_if_eq (tgt := 17) hx hb dX4_count_10 (by decide) (fun c_1 => ?_) (fun c_1 => ?_)
  · skip
    refine lv_iconst (v := 1) hx hb dX4_count_17 (by decide) ?_
    refine va_put (D := D) (ci := 5) (v := .int 1) (ty := .int) (C := RX4) (T := TX4) (N := 23) hx hb (lyX4 ht) (fun _ h9 => h9) tyX4 tyX4_ok nmX4 hown hK hP hD hS 0 rfl rfl 0 (by decide) (fl_X4_55 ht) (fun _ h9 => h9) rfl (by decide +kernel) rfl rfl (Nat.le_of_ble_eq_true rfl) dX4_count_18 (fun H locs hP hD hS => ?_)
    have hP : va_P D vwCl (wM cI cJ cZ a 1 rg bu pn pl ja lk nk bl bs bk be al tp st mx my kd ky gx gy gu gv) H := hP
    have hD : va_D A (wM cI cJ cZ a 1 rg bu pn pl ja lk nk bl bs bk be al tp st mx my kd ky gx gy gu gv) := hD
    refine lv_aload_n hx hb dX4_count_21 rfl (lv_at hl 0 rfl) ?_
    refine va_get (D := D) (ci := 5) (v := .int 1) (C := RX4) (T := TX4) (N := 23) hx hb (lyX4 ht) (fun _ h9 => h9) hown hK hP 0 rfl rfl 0 (by decide) (fl_X4_55 ht) (fun _ h9 => h9) rfl dX4_count_22 ?_
    refine lv_if_le (tgt := 30) hx hb dX4_count_25 (by decide) (fun c_2 => absurd c_2 (by decide)) (fun c_2 => ?_)
    refine lv_iconst (v := 0) hx hb dX4_count_28 (by decide) ?_
    exact wr_i hx hb hr hlocks hAe hP hD hS dX4_count_29 (⟨by unfold f_X4_count; rw [if_pos c_1], by simp only [f_X4_count_fa, if_pos c_1]⟩)
  · skip
    refine lv_iconst (v := 0) hx hb dX4_count_13 (by decide) ?_
    refine lv_goto (tgt := 18) hx hb dX4_count_14 (by decide) ?_
    refine va_put (D := D) (ci := 5) (v := .int 0) (ty := .int) (C := RX4) (T := TX4) (N := 23) hx hb (lyX4 ht) (fun _ h9 => h9) tyX4 tyX4_ok nmX4 hown hK hP hD hS 0 rfl rfl 0 (by decide) (fl_X4_55 ht) (fun _ h9 => h9) rfl (by decide +kernel) rfl rfl (Nat.le_of_ble_eq_true rfl) dX4_count_18 (fun H locs hP hD hS => ?_)
    have hP : va_P D vwCl (wM cI cJ cZ a 0 rg bu pn pl ja lk nk bl bs bk be al tp st mx my kd ky gx gy gu gv) H := hP
    have hD : va_D A (wM cI cJ cZ a 0 rg bu pn pl ja lk nk bl bs bk be al tp st mx my kd ky gx gy gu gv) := hD
    refine lv_aload_n hx hb dX4_count_21 rfl (lv_at hl 0 rfl) ?_
    refine va_get (D := D) (ci := 5) (v := .int 0) (C := RX4) (T := TX4) (N := 23) hx hb (lyX4 ht) (fun _ h9 => h9) hown hK hP 0 rfl rfl 0 (by decide) (fl_X4_55 ht) (fun _ h9 => h9) rfl dX4_count_22 ?_
    refine lv_if_le (tgt := 30) hx hb dX4_count_25 (by decide) (fun c_3 => ?_) (fun c_3 => absurd (by decide) c_3)
    refine lv_iconst (v := 0) hx hb dX4_count_30 (by decide) ?_
    refine lv_istore_n (lv' := [(2, .int 0), (0, .ref (a 0)), (1, .int k)]) hx hb dX4_count_31 rfl hl (by decide) rfl (fun ls hl => ?_)
    refine lv_iconst (v := 0) hx hb dX4_count_32 (by decide) ?_
    refine lv_istore_n (lv' := [(3, .int 0), (2, .int 0), (0, .ref (a 0)), (1, .int k)]) hx hb dX4_count_33 rfl hl (by decide) rfl (fun ls hl => ?_)
    have lp : ∀ (N : Nat) (i : Nat) (q : Int32) (z : Int32) , (z = nI i) → (i ≤ 16) → (q = cntZ al i) → 16 - i < N → ∀ (H : Heap) (locs : List Loc), va_P D vwCl (wM cI cJ cZ a 0 rg bu pn pl ja lk nk bl bs bk be al tp st mx my kd ky gx gy gu gv) H → va_D A (wM cI cJ cZ a 0 rg bu pn pl ja lk nk bl bs bk be al tp st mx my kd ky gx gy gu gv) → va_S A s.heap H locs → ∀ (ls : Array Slot), lv_has ls 4 [(3, .int z), (2, .int q), (0, .ref (a 0)), (1, .int k)] → W p l e (rmD 1 0 0) s m ([.ref (a 0), .int k] : List Value).toArray below meth c H locs 0 0 (MQ below (QcW D (wM cI cJ cZ a fa rg bu pn pl ja lk nk bl bs bk be al tp st mx my kd ky gx gy gu gv) s.heap.size (fun ov w' => ov = some (.int (f_X4_count k rg bu pn pl ja lk nk al)) ∧ w' = wM cI cJ cZ a (f_X4_count_fa k) rg bu pn pl ja lk nk bl bs bk be al tp st mx my kd ky gx gy gu gv)) ([.ref (a 0), .int k] : List Value).toArray s 0 0 A) (F0 m 34 ls []) := by
      intro N
      induction N with
      | zero => intro i q z _ _ _ hN; exact absurd hN (Nat.not_lt_zero _)
      | succ N lp_ih =>
        intro i q z hz hi hq hN H locs hP hD hS ls hl
        refine lv_iload_n hx hb dX4_count_34 rfl (lv_at hl 0 rfl) ?_
        refine lv_bipush (v := 16) hx hb dX4_count_35 (by decide) ?_
        refine lv_icmp_ge (tgt := 63) hx hb dX4_count_37 (by decide) (fun c_4 => ?_) (fun c_4 => ?_)
        · skip
          have h9 := le_le c_4 (show (16 : Int32) = nI 16 from rfl) hz (by omega) (by omega)
          have e_q : q = cntZ al 16 := (by rw [hq, show i = 16 by omega])
          rw [e_q] at hl
          refine lv_iload_n hx hb dX4_count_63 rfl (lv_at hl 3 rfl) ?_
          refine lv_if_ne (tgt := 74) hx hb dX4_count_64 (by decide) (fun c_5 => ?_) (fun c_5 => ?_)
          · skip
            refine lv_iload_n hx hb dX4_count_74 rfl (lv_at hl 3 rfl) ?_
            refine lv_iconst (v := 1) hx hb dX4_count_75 (by decide) ?_
            refine lv_icmp_ne (tgt := 86) hx hb dX4_count_76 (by decide) (fun c_6 => ?_) (fun c_6 => ?_)
            · skip
              refine lv_iload_n hx hb dX4_count_86 rfl (lv_at hl 3 rfl) ?_
              refine lv_iconst (v := 2) hx hb dX4_count_87 (by decide) ?_
              refine lv_icmp_ne (tgt := 98) hx hb dX4_count_88 (by decide) (fun c_7 => ?_) (fun c_7 => ?_)
              · skip
                refine lv_iload_n hx hb dX4_count_98 rfl (lv_at hl 3 rfl) ?_
                refine lv_iconst (v := 3) hx hb dX4_count_99 (by decide) ?_
                refine lv_icmp_ne (tgt := 110) hx hb dX4_count_100 (by decide) (fun c_8 => ?_) (fun c_8 => ?_)
                · skip
                  refine lv_iload_n hx hb dX4_count_110 rfl (lv_at hl 3 rfl) ?_
                  refine lv_iconst (v := 4) hx hb dX4_count_111 (by decide) ?_
                  refine lv_icmp_ne (tgt := 122) hx hb dX4_count_112 (by decide) (fun c_9 => ?_) (fun c_9 => ?_)
                  · skip
                    refine lv_iload_n hx hb dX4_count_122 rfl (lv_at hl 3 rfl) ?_
                    refine lv_iconst (v := 5) hx hb dX4_count_123 (by decide) ?_
                    refine lv_icmp_ne (tgt := 134) hx hb dX4_count_124 (by decide) (fun c_10 => ?_) (fun c_10 => ?_)
                    · skip
                      refine lv_iload_n hx hb dX4_count_134 rfl (lv_at hl 3 rfl) ?_
                      refine lv_bipush (v := 6) hx hb dX4_count_135 (by decide) ?_
                      refine lv_icmp_ne (tgt := 144) hx hb dX4_count_137 (by decide) (fun c_11 => ?_) (fun c_11 => ?_)
                      · skip
                        refine lv_aload_n hx hb dX4_count_144 rfl (lv_at hl 2 rfl) ?_
                        refine va_get (D := D) (ci := 5) (v := .int pl) (C := RX4) (T := TX4) (N := 23) hx hb (lyX4 ht) (fun _ h9 => h9) hown hK hP 0 rfl rfl 4 (by decide) (fl_X4_131 ht) (fun _ h9 => h9) rfl dX4_count_145 ?_
                        exact wr_i hx hb hr hlocks hAe hP hD hS dX4_count_148 (⟨by unfold f_X4_count; rw [if_neg c_1, if_neg c_5, if_neg c_6, if_neg c_7, if_neg c_8, if_neg c_9, if_neg c_10, if_neg c_11], by simp only [f_X4_count_fa, if_neg c_1, if_neg c_5, if_neg c_6, if_neg c_7, if_neg c_8, if_neg c_9, if_neg c_10, if_neg c_11]⟩)
                      · skip
                        refine lv_iload_n hx hb dX4_count_140 rfl (lv_at hl 1 rfl) ?_
                        refine lv_goto (tgt := 148) hx hb dX4_count_141 (by decide) ?_
                        exact wr_i hx hb hr hlocks hAe hP hD hS dX4_count_148 (⟨by unfold f_X4_count; rw [if_neg c_1, if_neg c_5, if_neg c_6, if_neg c_7, if_neg c_8, if_neg c_9, if_neg c_10, if_pos c_11], by simp only [f_X4_count_fa, if_neg c_1, if_neg c_5, if_neg c_6, if_neg c_7, if_neg c_8, if_neg c_9, if_neg c_10, if_pos c_11]⟩)
                    · skip
                      refine lv_aload_n hx hb dX4_count_127 rfl (lv_at hl 2 rfl) ?_
                      refine va_get (D := D) (ci := 5) (v := .int lk) (C := RX4) (T := TX4) (N := 23) hx hb (lyX4 ht) (fun _ h9 => h9) hown hK hP 0 rfl rfl 6 (by decide) (fl_X4_13 ht) (fun _ h9 => h9) rfl dX4_count_128 ?_
                      refine lv_goto (tgt := 148) hx hb dX4_count_131 (by decide) ?_
                      exact wr_i hx hb hr hlocks hAe hP hD hS dX4_count_148 (⟨by unfold f_X4_count; rw [if_neg c_1, if_neg c_5, if_neg c_6, if_neg c_7, if_neg c_8, if_neg c_9, if_pos c_10], by simp only [f_X4_count_fa, if_neg c_1, if_neg c_5, if_neg c_6, if_neg c_7, if_neg c_8, if_neg c_9, if_pos c_10]⟩)
                  · skip
                    refine lv_aload_n hx hb dX4_count_115 rfl (lv_at hl 2 rfl) ?_
                    refine va_get (D := D) (ci := 5) (v := .int ja) (C := RX4) (T := TX4) (N := 23) hx hb (lyX4 ht) (fun _ h9 => h9) hown hK hP 0 rfl rfl 5 (by decide) (fl_X4_7 ht) (fun _ h9 => h9) rfl dX4_count_116 ?_
                    refine lv_goto (tgt := 148) hx hb dX4_count_119 (by decide) ?_
                    exact wr_i hx hb hr hlocks hAe hP hD hS dX4_count_148 (⟨by unfold f_X4_count; rw [if_neg c_1, if_neg c_5, if_neg c_6, if_neg c_7, if_neg c_8, if_pos c_9], by simp only [f_X4_count_fa, if_neg c_1, if_neg c_5, if_neg c_6, if_neg c_7, if_neg c_8, if_pos c_9]⟩)
                · skip
                  refine lv_aload_n hx hb dX4_count_103 rfl (lv_at hl 2 rfl) ?_
                  refine va_get (D := D) (ci := 5) (v := .int nk) (C := RX4) (T := TX4) (N := 23) hx hb (lyX4 ht) (fun _ h9 => h9) hown hK hP 0 rfl rfl 8 (by decide) (fl_X4_58 ht) (fun _ h9 => h9) rfl dX4_count_104 ?_
                  refine lv_goto (tgt := 148) hx hb dX4_count_107 (by decide) ?_
                  exact wr_i hx hb hr hlocks hAe hP hD hS dX4_count_148 (⟨by unfold f_X4_count; rw [if_neg c_1, if_neg c_5, if_neg c_6, if_neg c_7, if_pos c_8], by simp only [f_X4_count_fa, if_neg c_1, if_neg c_5, if_neg c_6, if_neg c_7, if_pos c_8]⟩)
              · skip
                refine lv_aload_n hx hb dX4_count_91 rfl (lv_at hl 2 rfl) ?_
                refine va_get (D := D) (ci := 5) (v := .int pn) (C := RX4) (T := TX4) (N := 23) hx hb (lyX4 ht) (fun _ h9 => h9) hown hK hP 0 rfl rfl 3 (by decide) (fl_X4_64 ht) (fun _ h9 => h9) rfl dX4_count_92 ?_
                refine lv_goto (tgt := 148) hx hb dX4_count_95 (by decide) ?_
                exact wr_i hx hb hr hlocks hAe hP hD hS dX4_count_148 (⟨by unfold f_X4_count; rw [if_neg c_1, if_neg c_5, if_neg c_6, if_pos c_7], by simp only [f_X4_count_fa, if_neg c_1, if_neg c_5, if_neg c_6, if_pos c_7]⟩)
            · skip
              refine lv_aload_n hx hb dX4_count_79 rfl (lv_at hl 2 rfl) ?_
              refine va_get (D := D) (ci := 5) (v := .int bu) (C := RX4) (T := TX4) (N := 23) hx hb (lyX4 ht) (fun _ h9 => h9) hown hK hP 0 rfl rfl 2 (by decide) (fl_X4_61 ht) (fun _ h9 => h9) rfl dX4_count_80 ?_
              refine lv_goto (tgt := 148) hx hb dX4_count_83 (by decide) ?_
              exact wr_i hx hb hr hlocks hAe hP hD hS dX4_count_148 (⟨by unfold f_X4_count; rw [if_neg c_1, if_neg c_5, if_pos c_6], by simp only [f_X4_count_fa, if_neg c_1, if_neg c_5, if_pos c_6]⟩)
          · skip
            refine lv_aload_n hx hb dX4_count_67 rfl (lv_at hl 2 rfl) ?_
            refine va_get (D := D) (ci := 5) (v := .int rg) (C := RX4) (T := TX4) (N := 23) hx hb (lyX4 ht) (fun _ h9 => h9) hown hK hP 0 rfl rfl 1 (by decide) (fl_X4_52 ht) (fun _ h9 => h9) rfl dX4_count_68 ?_
            refine lv_goto (tgt := 148) hx hb dX4_count_71 (by decide) ?_
            exact wr_i hx hb hr hlocks hAe hP hD hS dX4_count_148 (⟨by unfold f_X4_count; rw [if_neg c_1, if_pos c_5], by simp only [f_X4_count_fa, if_neg c_1, if_pos c_5]⟩)
        · skip
          refine lv_aload_n hx hb dX4_count_40 rfl (lv_at hl 2 rfl) ?_
          refine va_get (D := D) (ci := 5) (v := .ref (a 1)) (C := RX4) (T := TX4) (N := 23) hx hb (lyX4 ht) (fun _ h9 => h9) hown hK hP 0 rfl rfl 7 (by decide) (fl_X4_16 ht) (fun _ h9 => h9) rfl dX4_count_41 ?_
          refine lv_iload_n hx hb dX4_count_44 rfl (lv_at hl 0 rfl) ?_
          refine va_zald hx hb hK hP 1 2 rfl rfl (in_of hz (by have := nle_lt c_4 (show (16 : Int32) = nI 16 from rfl) hz (by omega) (by omega); omega : i < 16) (by decide)) dX4_count_45 ?_
          refine lv_if_eq (tgt := 55) hx hb dX4_count_46 (by decide) (fun c_12 => ?_) (fun c_12 => ?_)
          · skip
            refine lv_iload_n hx hb dX4_count_55 rfl (lv_at hl 1 rfl) ?_
            refine lv_istore_n (lv' := [(2, .int q), (3, .int z), (0, .ref (a 0)), (1, .int k)]) hx hb dX4_count_56 rfl hl (by decide) rfl (fun ls hl => ?_)
            have h8 := nle_lt c_4 (show (16 : Int32) = nI 16 from rfl) hz (by omega) (by omega)
            refine lv_iinc (v := z + 1) (lv' := [(3, .int (z + 1)), (2, .int q), (0, .ref (a 0)), (1, .int k)]) hx hb dX4_count_57 hl (k := 1) rfl rfl (by decide) rfl (fun ls hl => ?_)
            refine lv_goto (tgt := 34) hx hb dX4_count_60 (by decide) ?_
            exact lp_ih (i + 1) q (z + 1) (nI_s hz) (by omega) (by have h9 := cl_of hz (by omega); rw [hq]; simp only [cntZ]; rw [← h9, if_pos c_12]) (by omega) _ _ hP hD hS ls (lv_sub hl [0, 1, 2, 3] rfl)
          · skip
            refine lv_iload_n hx hb dX4_count_49 rfl (lv_at hl 1 rfl) ?_
            refine lv_iconst (v := 1) hx hb dX4_count_50 (by decide) ?_
            refine lv_iadd hx hb dX4_count_51 ?_
            refine lv_goto (tgt := 56) hx hb dX4_count_52 (by decide) ?_
            refine lv_istore_n (lv' := [(2, .int (q + 1)), (3, .int z), (0, .ref (a 0)), (1, .int k)]) hx hb dX4_count_56 rfl hl (by decide) rfl (fun ls hl => ?_)
            have h8 := nle_lt c_4 (show (16 : Int32) = nI 16 from rfl) hz (by omega) (by omega)
            refine lv_iinc (v := z + 1) (lv' := [(3, .int (z + 1)), (2, .int (q + 1)), (0, .ref (a 0)), (1, .int k)]) hx hb dX4_count_57 hl (k := 1) rfl rfl (by decide) rfl (fun ls hl => ?_)
            refine lv_goto (tgt := 34) hx hb dX4_count_60 (by decide) ?_
            exact lp_ih (i + 1) (q + 1) (z + 1) (nI_s hz) (by omega) (by have h9 := cl_of hz (by omega); rw [hq]; simp only [cntZ]; rw [← h9, if_neg c_12]) (by omega) _ _ hP hD hS ls (lv_sub hl [0, 1, 2, 3] rfl)
    exact lp _ 0 0 0 rfl (Nat.zero_le _) rfl (Nat.lt_succ_self _) _ _ hP hD hS ls (lv_sub hl [0, 1, 2, 3] rfl)
def f_X4_survey (r : Int32) (j : Int32) (f : Int32) (rg : Int32) (bu : Int32) : Int32 := if (f_X4_isRing r rg) = 0 then 0 else (if (f_X4_in j.toInt64 (-100000) 100000) = 0 then -2 else (if (f_X4_in f.toInt64 (-100000) 100000) = 0 then -2 else (if r < bu then (bu - r) else -3)))
def f_X4_survey_fa (r : Int32) (j : Int32) (f : Int32) (rg : Int32) (bu : Int32) : Int32 := if (f_X4_isRing r rg) = 0 then 1 else (if (f_X4_in j.toInt64 (-100000) 100000) = 0 then 0 else (if (f_X4_in f.toInt64 (-100000) 100000) = 0 then 0 else (if r < bu then 0 else 0)))
def f_X4_survey_pn (r : Int32) (j : Int32) (f : Int32) (rg : Int32) (bu : Int32) (pn : Int32) : Int32 := if (f_X4_isRing r rg) = 0 then pn else (if (f_X4_in j.toInt64 (-100000) 100000) = 0 then pn else (if (f_X4_in f.toInt64 (-100000) 100000) = 0 then pn else (if r < bu then 0 else pn)))
def f_X4_survey_gx (r : Int32) (j : Int32) (f : Int32) (B : Nat) (rn : Nat) (rg : Int32) (bu : Int32) (gx : Nat → Int64) : Nat → Int64 := if (f_X4_isRing r rg) = 0 then gx else (if (f_X4_in j.toInt64 (-100000) 100000) = 0 then gx else (if (f_X4_in f.toInt64 (-100000) 100000) = 0 then gx else (if r < bu then (shF gx j.toInt64 rn B) else gx)))
def f_X4_survey_gy (r : Int32) (j : Int32) (f : Int32) (B : Nat) (rn : Nat) (rg : Int32) (bu : Int32) (gy : Nat → Int64) : Nat → Int64 := if (f_X4_isRing r rg) = 0 then gy else (if (f_X4_in j.toInt64 (-100000) 100000) = 0 then gy else (if (f_X4_in f.toInt64 (-100000) 100000) = 0 then gy else (if r < bu then (shF gy f.toInt64 rn B) else gy)))
set_option maxRecDepth 20000 in
set_option maxHeartbeats 4000000 in
theorem k_X4_survey (l : Launch) (D : va_G) (cI cJ cZ : ClassId) (a : Nat → Nat) (fa rg bu pn pl ja lk nk bl : Int32) (bs : Int64) (bk be : Int32) (al tp st mx my kd ky : Nat → Int32) (gx gy gu gv : Nat → Int64) (r : Int32) (j : Int32) (f : Int32) (B : Nat) (rn : Nat) (hB : bu = nI B) (hB24 : B ≤ 24) (hrn : ¬ f_X4_isRing r rg = 0 → r = nI rn ∧ rn < 24) : WR l yX4_survey cX4_survey 5 (some .int) 1 0 0 D (tysW cI cJ cZ) (wM cI cJ cZ a fa rg bu pn pl ja lk nk bl bs bk be al tp st mx my kd ky gx gy gu gv) [.ref (a 0), .int r, .int j, .int f] (fun ov w' => ov = some (.int (f_X4_survey r j f rg bu)) ∧ w' = wM cI cJ cZ a (f_X4_survey_fa r j f rg bu) rg bu (f_X4_survey_pn r j f rg bu pn) pl ja lk nk bl bs bk be al tp st mx my kd ky (f_X4_survey_gx r j f B rn rg bu gx) (f_X4_survey_gy r j f B rn rg bu gy) gu gv) := by
  refine WR.of (by decide) ?_
  intro p e s m below meth c A hadm hx hb hr hml hown hlocks hname hE hP hK hD hS hA hAe
  have hown : s.vm.findClass RX4 = some m.cls := hown
  have ht : tb_OK s := hE.1
  have hl := lv_entry ([.ref (a 0), .int r, .int j, .int f]) (n := 5) (Nat.le_of_ble_eq_true rfl)
  rw [lg_entry_eq]
  generalize (lg_sl ([.ref (a 0), .int r, .int j, .int f]) ++ List.replicate (5 - (lg_sl ([.ref (a 0), .int r, .int j, .int f])).length) Slot.unset).toArray = ls at hl ⊢
  have hl : lv_has ls 5 [(0, .ref (a 0)), (1, .int r), (2, .int j), (3, .int f)] := hl
  refine lv_aload_n hx hb dX4_survey_0 rfl (lv_at hl 0 rfl) ?_
  refine lv_aload_n hx hb dX4_survey_1 rfl (lv_at hl 0 rfl) ?_
  refine lv_iload_n hx hb dX4_survey_2 rfl (lv_at hl 1 rfl) ?_
  refine rdV (As := [.int r]) (rest := [.ref (a 0)]) (st1 := [.int (f_X4_isRing r rg), .ref (a 0)]) (k_X4_isRing l D cI cJ cZ a fa rg bu pn pl ja lk nk bl bs bk be al tp st mx my kd ky gx gy gu gv r) (si_X4_79 ht ⟨Nat.le_of_ble_eq_true rfl, Nat.le_of_ble_eq_true rfl⟩) hx hb hml hown (va_recv hK hP (ci := 5) (q0 := 0) rfl rfl) (hE.since hS) hP hK rfl hl.1 rfl (Nat.le_of_ble_eq_true rfl) ⟨Nat.zero_le _, Nat.zero_le _⟩ dX4_survey_3 rfl ?_
  refine lv_if_eq (tgt := 13) hx hb dX4_survey_6 (by decide) (fun c_1 => ?_) (fun c_1 => ?_)
  · skip
    refine lv_iconst (v := 1) hx hb dX4_survey_13 (by decide) ?_
    refine va_put (D := D) (ci := 5) (v := .int 1) (ty := .int) (C := RX4) (T := TX4) (N := 23) hx hb (lyX4 ht) (fun _ h9 => h9) tyX4 tyX4_ok nmX4 hown hK hP hD hS 0 rfl rfl 0 (by decide) (fl_X4_55 ht) (fun _ h9 => h9) rfl (by decide +kernel) rfl rfl (Nat.le_of_ble_eq_true rfl) dX4_survey_14 (fun H locs hP hD hS => ?_)
    have hP : va_P D vwCl (wM cI cJ cZ a 1 rg bu pn pl ja lk nk bl bs bk be al tp st mx my kd ky gx gy gu gv) H := hP
    have hD : va_D A (wM cI cJ cZ a 1 rg bu pn pl ja lk nk bl bs bk be al tp st mx my kd ky gx gy gu gv) := hD
    refine lv_aload_n hx hb dX4_survey_17 rfl (lv_at hl 0 rfl) ?_
    refine va_get (D := D) (ci := 5) (v := .int 1) (C := RX4) (T := TX4) (N := 23) hx hb (lyX4 ht) (fun _ h9 => h9) hown hK hP 0 rfl rfl 0 (by decide) (fl_X4_55 ht) (fun _ h9 => h9) rfl dX4_survey_18 ?_
    refine lv_if_le (tgt := 26) hx hb dX4_survey_21 (by decide) (fun c_2 => absurd c_2 (by decide)) (fun c_2 => ?_)
    refine lv_iconst (v := 0) hx hb dX4_survey_24 (by decide) ?_
    exact wr_i hx hb hr hlocks hAe hP hD hS dX4_survey_25 (⟨by unfold f_X4_survey; rw [if_pos c_1], by simp only [f_X4_survey_fa, f_X4_survey_pn, f_X4_survey_gx, f_X4_survey_gy, if_pos c_1]⟩)
  · skip
    refine lv_iconst (v := 0) hx hb dX4_survey_9 (by decide) ?_
    refine lv_goto (tgt := 14) hx hb dX4_survey_10 (by decide) ?_
    refine va_put (D := D) (ci := 5) (v := .int 0) (ty := .int) (C := RX4) (T := TX4) (N := 23) hx hb (lyX4 ht) (fun _ h9 => h9) tyX4 tyX4_ok nmX4 hown hK hP hD hS 0 rfl rfl 0 (by decide) (fl_X4_55 ht) (fun _ h9 => h9) rfl (by decide +kernel) rfl rfl (Nat.le_of_ble_eq_true rfl) dX4_survey_14 (fun H locs hP hD hS => ?_)
    have hP : va_P D vwCl (wM cI cJ cZ a 0 rg bu pn pl ja lk nk bl bs bk be al tp st mx my kd ky gx gy gu gv) H := hP
    have hD : va_D A (wM cI cJ cZ a 0 rg bu pn pl ja lk nk bl bs bk be al tp st mx my kd ky gx gy gu gv) := hD
    refine lv_aload_n hx hb dX4_survey_17 rfl (lv_at hl 0 rfl) ?_
    refine va_get (D := D) (ci := 5) (v := .int 0) (C := RX4) (T := TX4) (N := 23) hx hb (lyX4 ht) (fun _ h9 => h9) hown hK hP 0 rfl rfl 0 (by decide) (fl_X4_55 ht) (fun _ h9 => h9) rfl dX4_survey_18 ?_
    refine lv_if_le (tgt := 26) hx hb dX4_survey_21 (by decide) (fun c_3 => ?_) (fun c_3 => absurd (by decide) c_3)
    refine lv_iload_n hx hb dX4_survey_26 rfl (lv_at hl 2 rfl) ?_
    refine lv_i2l (v := j.toInt64) hx hb dX4_survey_27 rfl ?_
    refine lv_ldc2 (v := -100000) hx hb hown (kl_X4_138 ht) dX4_survey_28 ?_
    refine lv_ldc2 (v := 100000) hx hb hown (kl_X4_140 ht) dX4_survey_31 ?_
    refine rdS (As := [.long j.toInt64, .long (-100000), .long 100000]) (rest := []) (st1 := [.int (f_X4_in j.toInt64 (-100000) 100000)]) (k_X4_in l D (tysW cI cJ cZ) j.toInt64 (-100000) 100000) (si_X4_69 ht ⟨Nat.le_of_ble_eq_true rfl, Nat.le_of_ble_eq_true rfl⟩) hx hb hml hown (hE.since hS) pNil hK rfl hl.1 rfl (Nat.le_of_ble_eq_true rfl) ⟨Nat.zero_le _, Nat.zero_le _⟩ dX4_survey_34 rfl ?_
    refine lv_if_eq (tgt := 54) hx hb dX4_survey_37 (by decide) (fun c_4 => ?_) (fun c_4 => ?_)
    · skip
      refine lv_bipush (v := -2) hx hb dX4_survey_54 (by decide) ?_
      exact wr_i hx hb hr hlocks hAe hP hD hS dX4_survey_56 (⟨by unfold f_X4_survey; rw [if_neg c_1, if_pos c_4], by simp only [f_X4_survey_fa, f_X4_survey_pn, f_X4_survey_gx, f_X4_survey_gy, if_neg c_1, if_pos c_4]⟩)
    · skip
      refine lv_iload_n hx hb dX4_survey_40 rfl (lv_at hl 3 rfl) ?_
      refine lv_i2l (v := f.toInt64) hx hb dX4_survey_41 rfl ?_
      refine lv_ldc2 (v := -100000) hx hb hown (kl_X4_138 ht) dX4_survey_42 ?_
      refine lv_ldc2 (v := 100000) hx hb hown (kl_X4_140 ht) dX4_survey_45 ?_
      refine rdS (As := [.long f.toInt64, .long (-100000), .long 100000]) (rest := []) (st1 := [.int (f_X4_in f.toInt64 (-100000) 100000)]) (k_X4_in l D (tysW cI cJ cZ) f.toInt64 (-100000) 100000) (si_X4_69 ht ⟨Nat.le_of_ble_eq_true rfl, Nat.le_of_ble_eq_true rfl⟩) hx hb hml hown (hE.since hS) pNil hK rfl hl.1 rfl (Nat.le_of_ble_eq_true rfl) ⟨Nat.zero_le _, Nat.zero_le _⟩ dX4_survey_48 rfl ?_
      refine lv_if_ne (tgt := 57) hx hb dX4_survey_51 (by decide) (fun c_5 => ?_) (fun c_5 => ?_)
      · skip
        refine lv_iload_n hx hb dX4_survey_57 rfl (lv_at hl 1 rfl) ?_
        refine lv_aload_n hx hb dX4_survey_58 rfl (lv_at hl 0 rfl) ?_
        refine va_get (D := D) (ci := 5) (v := .int bu) (C := RX4) (T := TX4) (N := 23) hx hb (lyX4 ht) (fun _ h9 => h9) hown hK hP 0 rfl rfl 2 (by decide) (fl_X4_61 ht) (fun _ h9 => h9) rfl dX4_survey_59 ?_
        refine lv_icmp_lt (tgt := 68) hx hb dX4_survey_62 (by decide) (fun c_6 => ?_) (fun c_6 => ?_)
        · skip
          refine lv_iload_n hx hb dX4_survey_68 rfl (lv_at hl 1 rfl) ?_
          refine lv_istore (lv' := [(4, .int r), (0, .ref (a 0)), (1, .int r), (2, .int j), (3, .int f)]) hx hb dX4_survey_69 hl (by decide) rfl (fun ls hl => ?_)
          obtain ⟨ern, hrn24⟩ := hrn c_1
          have hrB : rn < B := by have h7 := c_6; rw [ern, hB, nI_ltI (by omega) (by omega)] at h7; exact h7
          have lp : ∀ (N : Nat) (i : Nat) (z : Int32) (x1 : Nat → Int64) (y1 : Nat → Int64), (z = nI i) → (i ≤ B) → (rn ≤ i) → (x1 = shF gx j.toInt64 rn i) → (y1 = shF gy f.toInt64 rn i) → B - i < N → ∀ (H : Heap) (locs : List Loc), va_P D vwCl (wM cI cJ cZ a 0 rg bu pn pl ja lk nk bl bs bk be al tp st mx my kd ky x1 y1 gu gv) H → va_D A (wM cI cJ cZ a 0 rg bu pn pl ja lk nk bl bs bk be al tp st mx my kd ky x1 y1 gu gv) → va_S A s.heap H locs → ∀ (ls : Array Slot), lv_has ls 5 [(4, .int z), (0, .ref (a 0)), (1, .int r), (2, .int j), (3, .int f)] → W p l e (rmD 1 0 0) s m ([.ref (a 0), .int r, .int j, .int f] : List Value).toArray below meth c H locs 0 0 (MQ below (QcW D (wM cI cJ cZ a fa rg bu pn pl ja lk nk bl bs bk be al tp st mx my kd ky gx gy gu gv) s.heap.size (fun ov w' => ov = some (.int (f_X4_survey r j f rg bu)) ∧ w' = wM cI cJ cZ a (f_X4_survey_fa r j f rg bu) rg bu (f_X4_survey_pn r j f rg bu pn) pl ja lk nk bl bs bk be al tp st mx my kd ky (f_X4_survey_gx r j f B rn rg bu gx) (f_X4_survey_gy r j f B rn rg bu gy) gu gv)) ([.ref (a 0), .int r, .int j, .int f] : List Value).toArray s 0 0 A) (F0 m 71 ls []) := by
            intro N
            induction N with
            | zero => intro i z x1 y1 _ _ _ _ _ hN; exact absurd hN (Nat.not_lt_zero _)
            | succ N lp_ih =>
              intro i z x1 y1 hz hi hlo hx1 hy1 hN H locs hP hD hS ls hl
              refine lv_iload hx hb dX4_survey_71 (lv_at hl 0 rfl) ?_
              refine lv_aload_n hx hb dX4_survey_73 rfl (lv_at hl 1 rfl) ?_
              refine va_get (D := D) (ci := 5) (v := .int bu) (C := RX4) (T := TX4) (N := 23) hx hb (lyX4 ht) (fun _ h9 => h9) hown hK hP 0 rfl rfl 2 (by decide) (fl_X4_61 ht) (fun _ h9 => h9) rfl dX4_survey_74 ?_
              refine lv_icmp_ge (tgt := 110) hx hb dX4_survey_77 (by decide) (fun c_7 => ?_) (fun c_7 => ?_)
              · skip
                have h9 := le_le c_7 hB hz (by omega) (by omega)
                have e_x1 : x1 = shF gx j.toInt64 rn B := (by rw [hx1, show i = B by omega])
                have e_y1 : y1 = shF gy f.toInt64 rn B := (by rw [hy1, show i = B by omega])
                rw [e_x1, e_y1] at hP hD
                have hP : va_P D vwCl (wM cI cJ cZ a 0 rg bu pn pl ja lk nk bl bs bk be al tp st mx my kd ky (shF gx j.toInt64 rn B) (shF gy f.toInt64 rn B) gu gv) H := hP
                have hD : va_D A (wM cI cJ cZ a 0 rg bu pn pl ja lk nk bl bs bk be al tp st mx my kd ky (shF gx j.toInt64 rn B) (shF gy f.toInt64 rn B) gu gv) := hD
                refine lv_aload_n hx hb dX4_survey_110 rfl (lv_at hl 1 rfl) ?_
                refine lv_iconst (v := 0) hx hb dX4_survey_111 (by decide) ?_
                refine va_put (D := D) (ci := 5) (v := .int 0) (ty := .int) (C := RX4) (T := TX4) (N := 23) hx hb (lyX4 ht) (fun _ h9 => h9) tyX4 tyX4_ok nmX4 hown hK hP hD hS 0 rfl rfl 3 (by decide) (fl_X4_64 ht) (fun _ h9 => h9) rfl (by decide +kernel) rfl rfl (Nat.le_of_ble_eq_true rfl) dX4_survey_112 (fun H locs hP hD hS => ?_)
                have hP : va_P D vwCl (wM cI cJ cZ a 0 rg bu 0 pl ja lk nk bl bs bk be al tp st mx my kd ky (shF gx j.toInt64 rn B) (shF gy f.toInt64 rn B) gu gv) H := hP
                have hD : va_D A (wM cI cJ cZ a 0 rg bu 0 pl ja lk nk bl bs bk be al tp st mx my kd ky (shF gx j.toInt64 rn B) (shF gy f.toInt64 rn B) gu gv) := hD
                refine lv_aload_n hx hb dX4_survey_115 rfl (lv_at hl 1 rfl) ?_
                refine va_get (D := D) (ci := 5) (v := .int bu) (C := RX4) (T := TX4) (N := 23) hx hb (lyX4 ht) (fun _ h9 => h9) hown hK hP 0 rfl rfl 2 (by decide) (fl_X4_61 ht) (fun _ h9 => h9) rfl dX4_survey_116 ?_
                refine lv_iload_n hx hb dX4_survey_119 rfl (lv_at hl 2 rfl) ?_
                refine lv_isub hx hb dX4_survey_120 ?_
                exact wr_i hx hb hr hlocks hAe hP hD hS dX4_survey_121 (⟨by unfold f_X4_survey; rw [if_neg c_1, if_neg c_4, if_neg c_5, if_pos c_6], by simp only [f_X4_survey_fa, f_X4_survey_pn, f_X4_survey_gx, f_X4_survey_gy, if_neg c_1, if_neg c_4, if_neg c_5, if_pos c_6]⟩)
              · skip
                refine lv_aload_n hx hb dX4_survey_80 rfl (lv_at hl 1 rfl) ?_
                refine va_get (D := D) (ci := 5) (v := .ref (a 8)) (C := RX4) (T := TX4) (N := 23) hx hb (lyX4 ht) (fun _ h9 => h9) hown hK hP 0 rfl rfl 15 (by decide) (fl_X4_39 ht) (fun _ h9 => h9) rfl dX4_survey_81 ?_
                refine lv_iload hx hb dX4_survey_84 (lv_at hl 0 rfl) ?_
                refine lv_dup2_11 hx hb dX4_survey_86 rfl rfl ?_
                refine va_lald hx hb hK hP 8 1 rfl rfl (in_of hz (by have := (nle_lt c_7 hB hz (by omega) (by omega)); omega : i < 24) (by decide)) dX4_survey_87 ?_
                refine lv_iload_n hx hb dX4_survey_88 rfl (lv_at hl 3 rfl) ?_
                refine lv_i2l (v := j.toInt64) hx hb dX4_survey_89 rfl ?_
                refine lv_ladd hx hb dX4_survey_90 ?_
                refine va_last hx hb hK hP hD hS 8 1 rfl rfl (in_of hz (by have := (nle_lt c_7 hB hz (by omega) (by omega)); omega : i < 24) (by decide)) dX4_survey_91 (fun H locs hP hD hS => ?_)
                have hP : va_P D vwCl (wM cI cJ cZ a 0 rg bu pn pl ja lk nk bl bs bk be al tp st mx my kd ky (vp_updL x1 z.toNatClampNeg ((x1 z.toNatClampNeg) + j.toInt64)) y1 gu gv) H := hP
                have hD : va_D A (wM cI cJ cZ a 0 rg bu pn pl ja lk nk bl bs bk be al tp st mx my kd ky (vp_updL x1 z.toNatClampNeg ((x1 z.toNatClampNeg) + j.toInt64)) y1 gu gv) := hD
                refine lv_aload_n hx hb dX4_survey_92 rfl (lv_at hl 1 rfl) ?_
                refine va_get (D := D) (ci := 5) (v := .ref (a 9)) (C := RX4) (T := TX4) (N := 23) hx hb (lyX4 ht) (fun _ h9 => h9) hown hK hP 0 rfl rfl 16 (by decide) (fl_X4_43 ht) (fun _ h9 => h9) rfl dX4_survey_93 ?_
                refine lv_iload hx hb dX4_survey_96 (lv_at hl 0 rfl) ?_
                refine lv_dup2_11 hx hb dX4_survey_98 rfl rfl ?_
                refine va_lald hx hb hK hP 9 1 rfl rfl (in_of hz (by have := (nle_lt c_7 hB hz (by omega) (by omega)); omega : i < 24) (by decide)) dX4_survey_99 ?_
                refine lv_iload_n hx hb dX4_survey_100 rfl (lv_at hl 4 rfl) ?_
                refine lv_i2l (v := f.toInt64) hx hb dX4_survey_101 rfl ?_
                refine lv_ladd hx hb dX4_survey_102 ?_
                refine va_last hx hb hK hP hD hS 9 1 rfl rfl (in_of hz (by have := (nle_lt c_7 hB hz (by omega) (by omega)); omega : i < 24) (by decide)) dX4_survey_103 (fun H locs hP hD hS => ?_)
                have hP : va_P D vwCl (wM cI cJ cZ a 0 rg bu pn pl ja lk nk bl bs bk be al tp st mx my kd ky (vp_updL x1 z.toNatClampNeg ((x1 z.toNatClampNeg) + j.toInt64)) (vp_updL y1 z.toNatClampNeg ((y1 z.toNatClampNeg) + f.toInt64)) gu gv) H := hP
                have hD : va_D A (wM cI cJ cZ a 0 rg bu pn pl ja lk nk bl bs bk be al tp st mx my kd ky (vp_updL x1 z.toNatClampNeg ((x1 z.toNatClampNeg) + j.toInt64)) (vp_updL y1 z.toNatClampNeg ((y1 z.toNatClampNeg) + f.toInt64)) gu gv) := hD
                have h8 := (nle_lt c_7 hB hz (by omega) (by omega))
                refine lv_iinc (v := z + 1) (lv' := [(4, .int (z + 1)), (0, .ref (a 0)), (1, .int r), (2, .int j), (3, .int f)]) hx hb dX4_survey_104 hl (k := 0) rfl rfl (by decide) rfl (fun ls hl => ?_)
                refine lv_goto (tgt := 71) hx hb dX4_survey_107 (by decide) ?_
                exact lp_ih (i + 1) (z + 1) (vp_updL x1 z.toNatClampNeg ((x1 z.toNatClampNeg) + j.toInt64)) (vp_updL y1 z.toNatClampNeg ((y1 z.toNatClampNeg) + f.toInt64)) (nI_s hz) (by omega) (by omega) (by rw [cl_of hz (by omega), hx1]; exact shF_s _ _ _ _ hlo) (by rw [cl_of hz (by omega), hy1]; exact shF_s _ _ _ _ hlo) (by omega) _ _ hP hD hS ls (lv_sub hl [0, 1, 2, 3, 4] rfl)
          exact lp _ rn r gx gy ern (by omega) (Nat.le_refl _) (shF_0 _ _ _) (shF_0 _ _ _) (Nat.lt_succ_self _) _ _ hP hD hS ls (lv_sub hl [0, 1, 2, 3, 4] rfl)
        · skip
          refine lv_bipush (v := -3) hx hb dX4_survey_65 (by decide) ?_
          exact wr_i hx hb hr hlocks hAe hP hD hS dX4_survey_67 (⟨by unfold f_X4_survey; rw [if_neg c_1, if_neg c_4, if_neg c_5, if_neg c_6], by simp only [f_X4_survey_fa, f_X4_survey_pn, f_X4_survey_gx, f_X4_survey_gy, if_neg c_1, if_neg c_4, if_neg c_5, if_neg c_6]⟩)
      · skip
        refine lv_bipush (v := -2) hx hb dX4_survey_54 (by decide) ?_
        exact wr_i hx hb hr hlocks hAe hP hD hS dX4_survey_56 (⟨by unfold f_X4_survey; rw [if_neg c_1, if_neg c_4, if_pos c_5], by simp only [f_X4_survey_fa, f_X4_survey_pn, f_X4_survey_gx, f_X4_survey_gy, if_neg c_1, if_neg c_4, if_pos c_5]⟩)
def f_X4_left (k : Int32) (S : Nat) (nk : Int32) (st : Nat → Int32) (kd : Nat → Int32) : Int32 := if (f_X4_isKind k nk) = 0 then -1 else ((st k.toNatClampNeg) - (cntK kd k S))
def f_X4_left_fa (k : Int32) (nk : Int32) : Int32 := if (f_X4_isKind k nk) = 0 then 0 else 0
set_option maxRecDepth 20000 in
set_option maxHeartbeats 4000000 in
theorem k_X4_left (l : Launch) (D : va_G) (cI cJ cZ : ClassId) (a : Nat → Nat) (fa rg bu pn pl ja lk nk bl : Int32) (bs : Int64) (bk be : Int32) (al tp st mx my kd ky : Nat → Int32) (gx gy gu gv : Nat → Int64) (k : Int32) (S : Nat) (gS : bu + pn = nI S) (h24 : S ≤ 24) (hk : ¬ f_X4_isKind k nk = 0 → vp_in k 4) : WR l yX4_left cX4_left 2 (some .int) 1 0 0 D (tysW cI cJ cZ) (wM cI cJ cZ a fa rg bu pn pl ja lk nk bl bs bk be al tp st mx my kd ky gx gy gu gv) [.ref (a 0), .int k] (fun ov w' => ov = some (.int (f_X4_left k S nk st kd)) ∧ w' = wM cI cJ cZ a (f_X4_left_fa k nk) rg bu pn pl ja lk nk bl bs bk be al tp st mx my kd ky gx gy gu gv) := by
  refine WR.of (by decide) ?_
  intro p e s m below meth c A hadm hx hb hr hml hown hlocks hname hE hP hK hD hS hA hAe
  have hown : s.vm.findClass RX4 = some m.cls := hown
  have ht : tb_OK s := hE.1
  have hl := lv_entry ([.ref (a 0), .int k]) (n := 2) (Nat.le_of_ble_eq_true rfl)
  rw [lg_entry_eq]
  generalize (lg_sl ([.ref (a 0), .int k]) ++ List.replicate (2 - (lg_sl ([.ref (a 0), .int k])).length) Slot.unset).toArray = ls at hl ⊢
  have hl : lv_has ls 2 [(0, .ref (a 0)), (1, .int k)] := hl
  refine lv_aload_n hx hb dX4_left_0 rfl (lv_at hl 0 rfl) ?_
  refine lv_iconst (v := 0) hx hb dX4_left_1 (by decide) ?_
  refine va_put (D := D) (ci := 5) (v := .int 0) (ty := .int) (C := RX4) (T := TX4) (N := 23) hx hb (lyX4 ht) (fun _ h9 => h9) tyX4 tyX4_ok nmX4 hown hK hP hD hS 0 rfl rfl 0 (by decide) (fl_X4_55 ht) (fun _ h9 => h9) rfl (by decide +kernel) rfl rfl (Nat.le_of_ble_eq_true rfl) dX4_left_2 (fun H locs hP hD hS => ?_)
  have hP : va_P D vwCl (wM cI cJ cZ a 0 rg bu pn pl ja lk nk bl bs bk be al tp st mx my kd ky gx gy gu gv) H := hP
  have hD : va_D A (wM cI cJ cZ a 0 rg bu pn pl ja lk nk bl bs bk be al tp st mx my kd ky gx gy gu gv) := hD
  refine lv_aload_n hx hb dX4_left_5 rfl (lv_at hl 0 rfl) ?_
  refine lv_iload_n hx hb dX4_left_6 rfl (lv_at hl 1 rfl) ?_
  refine rdV (As := [.int k]) (rest := []) (st1 := [.int (f_X4_isKind k nk)]) (k_X4_isKind l D cI cJ cZ a 0 rg bu pn pl ja lk nk bl bs bk be al tp st mx my kd ky gx gy gu gv k) (si_X4_75 ht ⟨Nat.le_of_ble_eq_true rfl, Nat.le_of_ble_eq_true rfl⟩) hx hb hml hown (va_recv hK hP (ci := 5) (q0 := 0) rfl rfl) (hE.since hS) hP hK rfl hl.1 rfl (Nat.le_of_ble_eq_true rfl) ⟨Nat.zero_le _, Nat.zero_le _⟩ dX4_left_7 rfl ?_
  refine lv_if_eq (tgt := 28) hx hb dX4_left_10 (by decide) (fun c_1 => ?_) (fun c_1 => ?_)
  · skip
    refine lv_iconst (v := -1) hx hb dX4_left_28 (by decide) ?_
    exact wr_i hx hb hr hlocks hAe hP hD hS dX4_left_29 (⟨by unfold f_X4_left; rw [if_pos c_1], by simp only [f_X4_left_fa, if_pos c_1]⟩)
  · skip
    refine lv_aload_n hx hb dX4_left_13 rfl (lv_at hl 0 rfl) ?_
    refine va_get (D := D) (ci := 5) (v := .ref (a 3)) (C := RX4) (T := TX4) (N := 23) hx hb (lyX4 ht) (fun _ h9 => h9) hown hK hP 0 rfl rfl 10 (by decide) (fl_X4_24 ht) (fun _ h9 => h9) rfl dX4_left_14 ?_
    refine lv_iload_n hx hb dX4_left_17 rfl (lv_at hl 1 rfl) ?_
    refine va_iald hx hb hK hP 3 0 rfl rfl (hk c_1) dX4_left_18 ?_
    refine lv_aload_n hx hb dX4_left_19 rfl (lv_at hl 0 rfl) ?_
    refine lv_iload_n hx hb dX4_left_20 rfl (lv_at hl 1 rfl) ?_
    refine rdV (As := [.int k]) (rest := [.int (st k.toNatClampNeg)]) (st1 := [.int (cntK kd k S), .int (st k.toNatClampNeg)]) (k_X4_usedOf l D cI cJ cZ a 0 rg bu pn pl ja lk nk bl bs bk be al tp st mx my kd ky gx gy gu gv k S gS h24) (si_X4_96 ht ⟨Nat.le_of_ble_eq_true rfl, Nat.le_of_ble_eq_true rfl⟩) hx hb hml hown (va_recv hK hP (ci := 5) (q0 := 0) rfl rfl) (hE.since hS) hP hK rfl hl.1 rfl (Nat.le_of_ble_eq_true rfl) ⟨Nat.zero_le _, Nat.zero_le _⟩ dX4_left_21 rfl ?_
    refine lv_isub hx hb dX4_left_24 ?_
    refine lv_goto (tgt := 29) hx hb dX4_left_25 (by decide) ?_
    exact wr_i hx hb hr hlocks hAe hP hD hS dX4_left_29 (⟨by unfold f_X4_left; rw [if_neg c_1], by simp only [f_X4_left_fa, if_neg c_1]⟩)
