def f_X4_mayStand (r : Int32) (k : Int32) (f : Int32) (j : Int32) (S : Nat) (ja : Int32) (al : Nat → Int32) (st : Nat → Int32) (kd : Nat → Int32) (ky : Nat → Int32) : Int32 := if (al f.toNatClampNeg) = 0 then (if r = 0 then 0 else 0) else (if (((st k.toNatClampNeg) - (cntK kd k S)) - j) ≤ 0 then (if r = 0 then 0 else 0) else (if r = 0 then 1 else (if ((f - (ky (r - 1).toNatClampNeg)) - (f - (ky (r - 1).toNatClampNeg)) / ja * ja) = 0 then 0 else 1)))
set_option maxRecDepth 20000 in
set_option maxHeartbeats 4000000 in
theorem k_X4_mayStand (l : Launch) (D : va_G) (cI cJ cZ : ClassId) (a : Nat → Nat) (fa rg bu pn pl ja lk nk bl : Int32) (bs : Int64) (bk be : Int32) (al tp st mx my kd ky : Nat → Int32) (gx gy gu gv : Nat → Int64) (r : Int32) (k : Int32) (f : Int32) (j : Int32) (S : Nat) (gS : bu + pn = nI S) (h24 : S ≤ 24) (hf : vp_in f 16) (hk : vp_in k 4) (h1 : ¬ r = 0 → vp_in (r - 1) 24) (hj : ¬ ja = 0) : RD l yX4_mayStand cX4_mayStand 7 (some .boolean) 1 D (tysW cI cJ cZ) (wM cI cJ cZ a fa rg bu pn pl ja lk nk bl bs bk be al tp st mx my kd ky gx gy gu gv) [.ref (a 0), .int r, .int k, .int f, .int j] (some (.int (f_X4_mayStand r k f j S ja al st kd ky))) := by
  refine RD.of (by decide) ?_
  intro p e s m below meth c hx hb hr hml hown hlocks hE hP hK
  have hown : s.vm.findClass RX4 = some m.cls := hown
  have ht : tb_OK s := hE.1
  have hl := lv_entry ([.ref (a 0), .int r, .int k, .int f, .int j]) (n := 7) (Nat.le_of_ble_eq_true rfl)
  rw [lg_entry_eq]
  generalize (lg_sl ([.ref (a 0), .int r, .int k, .int f, .int j]) ++ List.replicate (7 - (lg_sl ([.ref (a 0), .int r, .int k, .int f, .int j])).length) Slot.unset).toArray = ls at hl ⊢
  have hl : lv_has ls 7 [(0, .ref (a 0)), (1, .int r), (2, .int k), (3, .int f), (4, .int j)] := hl
  refine lv_aload_n hx hb dX4_mayStand_0 rfl (lv_at hl 0 rfl) ?_
  refine va_get (D := D) (ci := 5) (v := .ref (a 1)) (C := RX4) (T := TX4) (N := 23) hx hb (lyX4 ht) (fun _ h9 => h9) hown hK hP 0 rfl rfl 7 (by decide) (fl_X4_16 ht) (fun _ h9 => h9) rfl dX4_mayStand_1 ?_
  refine lv_iload_n hx hb dX4_mayStand_4 rfl (lv_at hl 3 rfl) ?_
  refine va_zald hx hb hK hP 1 2 rfl rfl hf dX4_mayStand_5 ?_
  refine lv_if_eq (tgt := 31) hx hb dX4_mayStand_6 (by decide) (fun c_1 => ?_) (fun c_1 => ?_)
  · skip
    refine lv_iconst (v := 0) hx hb dX4_mayStand_31 (by decide) ?_
    refine lv_istore (lv' := [(5, .int 0), (0, .ref (a 0)), (1, .int r), (2, .int k), (3, .int f), (4, .int j)]) hx hb dX4_mayStand_32 hl (by decide) rfl (fun ls hl => ?_)
    refine lv_iload_n hx hb dX4_mayStand_34 rfl (lv_at hl 2 rfl) ?_
    refine lv_if_ne (tgt := 42) hx hb dX4_mayStand_35 (by decide) (fun c_2 => ?_) (fun c_2 => ?_)
    · skip
      refine lv_iload_n hx hb dX4_mayStand_42 rfl (lv_at hl 4 rfl) ?_
      refine lv_aload_n hx hb dX4_mayStand_43 rfl (lv_at hl 1 rfl) ?_
      refine va_get (D := D) (ci := 5) (v := .ref (a 7)) (C := RX4) (T := TX4) (N := 23) hx hb (lyX4 ht) (fun _ h9 => h9) hown hK hP 0 rfl rfl 14 (by decide) (fl_X4_36 ht) (fun _ h9 => h9) rfl dX4_mayStand_44 ?_
      refine lv_iload_n hx hb dX4_mayStand_47 rfl (lv_at hl 2 rfl) ?_
      refine lv_iconst (v := 1) hx hb dX4_mayStand_48 (by decide) ?_
      refine lv_isub hx hb dX4_mayStand_49 ?_
      refine va_iald hx hb hK hP 7 0 rfl rfl (h1 c_2) dX4_mayStand_50 ?_
      refine lv_isub hx hb dX4_mayStand_51 ?_
      refine lv_istore (lv' := [(6, .int (f - (ky (r - 1).toNatClampNeg))), (5, .int 0), (0, .ref (a 0)), (1, .int r), (2, .int k), (3, .int f), (4, .int j)]) hx hb dX4_mayStand_52 hl (by decide) rfl (fun ls hl => ?_)
      refine lv_iload hx hb dX4_mayStand_54 (lv_at hl 1 rfl) ?_
      refine lv_if_eq (tgt := 77) hx hb dX4_mayStand_56 (by decide) (fun c_3 => ?_) (fun c_3 => absurd (by decide) c_3)
      refine lv_iconst (v := 0) hx hb dX4_mayStand_77 (by decide) ?_
      exact rd_z hx hb hr hlocks dX4_mayStand_78 rfl (by unfold f_X4_mayStand; rw [if_pos c_1, if_neg c_2])
    · skip
      refine lv_iconst (v := 0) hx hb dX4_mayStand_38 (by decide) ?_
      refine lv_goto (tgt := 52) hx hb dX4_mayStand_39 (by decide) ?_
      refine lv_istore (lv' := [(6, .int 0), (5, .int 0), (0, .ref (a 0)), (1, .int r), (2, .int k), (3, .int f), (4, .int j)]) hx hb dX4_mayStand_52 hl (by decide) rfl (fun ls hl => ?_)
      refine lv_iload hx hb dX4_mayStand_54 (lv_at hl 1 rfl) ?_
      refine lv_if_eq (tgt := 77) hx hb dX4_mayStand_56 (by decide) (fun c_4 => ?_) (fun c_4 => absurd (by decide) c_4)
      refine lv_iconst (v := 0) hx hb dX4_mayStand_77 (by decide) ?_
      exact rd_z hx hb hr hlocks dX4_mayStand_78 rfl (by unfold f_X4_mayStand; rw [if_pos c_1, if_pos c_2])
  · skip
    refine lv_aload_n hx hb dX4_mayStand_9 rfl (lv_at hl 0 rfl) ?_
    refine va_get (D := D) (ci := 5) (v := .ref (a 3)) (C := RX4) (T := TX4) (N := 23) hx hb (lyX4 ht) (fun _ h9 => h9) hown hK hP 0 rfl rfl 10 (by decide) (fl_X4_24 ht) (fun _ h9 => h9) rfl dX4_mayStand_10 ?_
    refine lv_iload_n hx hb dX4_mayStand_13 rfl (lv_at hl 2 rfl) ?_
    refine va_iald hx hb hK hP 3 0 rfl rfl hk dX4_mayStand_14 ?_
    refine lv_aload_n hx hb dX4_mayStand_15 rfl (lv_at hl 0 rfl) ?_
    refine lv_iload_n hx hb dX4_mayStand_16 rfl (lv_at hl 2 rfl) ?_
    refine rdV (As := [.int k]) (rest := [.int (st k.toNatClampNeg)]) (st1 := [.int (cntK kd k S), .int (st k.toNatClampNeg)]) (k_X4_usedOf l D cI cJ cZ a fa rg bu pn pl ja lk nk bl bs bk be al tp st mx my kd ky gx gy gu gv k S gS h24) (si_X4_96 ht ⟨Nat.le_of_ble_eq_true rfl, Nat.le_of_ble_eq_true rfl⟩) hx hb hml hown (va_recv hK hP (ci := 5) (q0 := 0) rfl rfl) hE hP hK rfl hl.1 rfl (Nat.le_of_ble_eq_true rfl) ⟨Nat.zero_le _, Nat.zero_le _⟩ dX4_mayStand_17 rfl ?_
    refine lv_isub hx hb dX4_mayStand_20 ?_
    refine lv_iload hx hb dX4_mayStand_21 (lv_at hl 4 rfl) ?_
    refine lv_isub hx hb dX4_mayStand_23 ?_
    refine lv_if_le (tgt := 31) hx hb dX4_mayStand_24 (by decide) (fun c_5 => ?_) (fun c_5 => ?_)
    · skip
      refine lv_iconst (v := 0) hx hb dX4_mayStand_31 (by decide) ?_
      refine lv_istore (lv' := [(5, .int 0), (0, .ref (a 0)), (1, .int r), (2, .int k), (3, .int f), (4, .int j)]) hx hb dX4_mayStand_32 hl (by decide) rfl (fun ls hl => ?_)
      refine lv_iload_n hx hb dX4_mayStand_34 rfl (lv_at hl 2 rfl) ?_
      refine lv_if_ne (tgt := 42) hx hb dX4_mayStand_35 (by decide) (fun c_6 => ?_) (fun c_6 => ?_)
      · skip
        refine lv_iload_n hx hb dX4_mayStand_42 rfl (lv_at hl 4 rfl) ?_
        refine lv_aload_n hx hb dX4_mayStand_43 rfl (lv_at hl 1 rfl) ?_
        refine va_get (D := D) (ci := 5) (v := .ref (a 7)) (C := RX4) (T := TX4) (N := 23) hx hb (lyX4 ht) (fun _ h9 => h9) hown hK hP 0 rfl rfl 14 (by decide) (fl_X4_36 ht) (fun _ h9 => h9) rfl dX4_mayStand_44 ?_
        refine lv_iload_n hx hb dX4_mayStand_47 rfl (lv_at hl 2 rfl) ?_
        refine lv_iconst (v := 1) hx hb dX4_mayStand_48 (by decide) ?_
        refine lv_isub hx hb dX4_mayStand_49 ?_
        refine va_iald hx hb hK hP 7 0 rfl rfl (h1 c_6) dX4_mayStand_50 ?_
        refine lv_isub hx hb dX4_mayStand_51 ?_
        refine lv_istore (lv' := [(6, .int (f - (ky (r - 1).toNatClampNeg))), (5, .int 0), (0, .ref (a 0)), (1, .int r), (2, .int k), (3, .int f), (4, .int j)]) hx hb dX4_mayStand_52 hl (by decide) rfl (fun ls hl => ?_)
        refine lv_iload hx hb dX4_mayStand_54 (lv_at hl 1 rfl) ?_
        refine lv_if_eq (tgt := 77) hx hb dX4_mayStand_56 (by decide) (fun c_7 => ?_) (fun c_7 => absurd (by decide) c_7)
        refine lv_iconst (v := 0) hx hb dX4_mayStand_77 (by decide) ?_
        exact rd_z hx hb hr hlocks dX4_mayStand_78 rfl (by unfold f_X4_mayStand; rw [if_neg c_1, if_pos c_5, if_neg c_6])
      · skip
        refine lv_iconst (v := 0) hx hb dX4_mayStand_38 (by decide) ?_
        refine lv_goto (tgt := 52) hx hb dX4_mayStand_39 (by decide) ?_
        refine lv_istore (lv' := [(6, .int 0), (5, .int 0), (0, .ref (a 0)), (1, .int r), (2, .int k), (3, .int f), (4, .int j)]) hx hb dX4_mayStand_52 hl (by decide) rfl (fun ls hl => ?_)
        refine lv_iload hx hb dX4_mayStand_54 (lv_at hl 1 rfl) ?_
        refine lv_if_eq (tgt := 77) hx hb dX4_mayStand_56 (by decide) (fun c_8 => ?_) (fun c_8 => absurd (by decide) c_8)
        refine lv_iconst (v := 0) hx hb dX4_mayStand_77 (by decide) ?_
        exact rd_z hx hb hr hlocks dX4_mayStand_78 rfl (by unfold f_X4_mayStand; rw [if_neg c_1, if_pos c_5, if_pos c_6])
    · skip
      refine lv_iconst (v := 1) hx hb dX4_mayStand_27 (by decide) ?_
      refine lv_goto (tgt := 32) hx hb dX4_mayStand_28 (by decide) ?_
      refine lv_istore (lv' := [(5, .int 1), (0, .ref (a 0)), (1, .int r), (2, .int k), (3, .int f), (4, .int j)]) hx hb dX4_mayStand_32 hl (by decide) rfl (fun ls hl => ?_)
      refine lv_iload_n hx hb dX4_mayStand_34 rfl (lv_at hl 2 rfl) ?_
      refine lv_if_ne (tgt := 42) hx hb dX4_mayStand_35 (by decide) (fun c_9 => ?_) (fun c_9 => ?_)
      · skip
        refine lv_iload_n hx hb dX4_mayStand_42 rfl (lv_at hl 4 rfl) ?_
        refine lv_aload_n hx hb dX4_mayStand_43 rfl (lv_at hl 1 rfl) ?_
        refine va_get (D := D) (ci := 5) (v := .ref (a 7)) (C := RX4) (T := TX4) (N := 23) hx hb (lyX4 ht) (fun _ h9 => h9) hown hK hP 0 rfl rfl 14 (by decide) (fl_X4_36 ht) (fun _ h9 => h9) rfl dX4_mayStand_44 ?_
        refine lv_iload_n hx hb dX4_mayStand_47 rfl (lv_at hl 2 rfl) ?_
        refine lv_iconst (v := 1) hx hb dX4_mayStand_48 (by decide) ?_
        refine lv_isub hx hb dX4_mayStand_49 ?_
        refine va_iald hx hb hK hP 7 0 rfl rfl (h1 c_9) dX4_mayStand_50 ?_
        refine lv_isub hx hb dX4_mayStand_51 ?_
        refine lv_istore (lv' := [(6, .int (f - (ky (r - 1).toNatClampNeg))), (5, .int 1), (0, .ref (a 0)), (1, .int r), (2, .int k), (3, .int f), (4, .int j)]) hx hb dX4_mayStand_52 hl (by decide) rfl (fun ls hl => ?_)
        refine lv_iload hx hb dX4_mayStand_54 (lv_at hl 1 rfl) ?_
        refine lv_if_eq (tgt := 77) hx hb dX4_mayStand_56 (by decide) (fun c_10 => absurd c_10 (by decide)) (fun c_10 => ?_)
        refine lv_iload_n hx hb dX4_mayStand_59 rfl (lv_at hl 3 rfl) ?_
        refine lv_if_eq (tgt := 73) hx hb dX4_mayStand_60 (by decide) (fun c_11 => absurd c_11 c_9) (fun _ => ?_)
        refine lv_iload hx hb dX4_mayStand_63 (lv_at hl 0 rfl) ?_
        refine lv_aload_n hx hb dX4_mayStand_65 rfl (lv_at hl 2 rfl) ?_
        refine va_get (D := D) (ci := 5) (v := .int ja) (C := RX4) (T := TX4) (N := 23) hx hb (lyX4 ht) (fun _ h9 => h9) hown hK hP 0 rfl rfl 5 (by decide) (fl_X4_7 ht) (fun _ h9 => h9) rfl dX4_mayStand_66 ?_
        refine lv_irem hx hb dX4_mayStand_69 hj ?_
        refine lv_if_eq (tgt := 77) hx hb dX4_mayStand_70 (by decide) (fun c_12 => ?_) (fun c_12 => ?_)
        · skip
          refine lv_iconst (v := 0) hx hb dX4_mayStand_77 (by decide) ?_
          exact rd_z hx hb hr hlocks dX4_mayStand_78 rfl (by unfold f_X4_mayStand; rw [if_neg c_1, if_neg c_5, if_neg c_9, if_pos c_12])
        · skip
          refine lv_iconst (v := 1) hx hb dX4_mayStand_73 (by decide) ?_
          refine lv_goto (tgt := 78) hx hb dX4_mayStand_74 (by decide) ?_
          exact rd_z hx hb hr hlocks dX4_mayStand_78 rfl (by unfold f_X4_mayStand; rw [if_neg c_1, if_neg c_5, if_neg c_9, if_neg c_12])
      · skip
        refine lv_iconst (v := 0) hx hb dX4_mayStand_38 (by decide) ?_
        refine lv_goto (tgt := 52) hx hb dX4_mayStand_39 (by decide) ?_
        refine lv_istore (lv' := [(6, .int 0), (5, .int 1), (0, .ref (a 0)), (1, .int r), (2, .int k), (3, .int f), (4, .int j)]) hx hb dX4_mayStand_52 hl (by decide) rfl (fun ls hl => ?_)
        refine lv_iload hx hb dX4_mayStand_54 (lv_at hl 1 rfl) ?_
        refine lv_if_eq (tgt := 77) hx hb dX4_mayStand_56 (by decide) (fun c_13 => absurd c_13 (by decide)) (fun c_13 => ?_)
        refine lv_iload_n hx hb dX4_mayStand_59 rfl (lv_at hl 3 rfl) ?_
        refine lv_if_eq (tgt := 73) hx hb dX4_mayStand_60 (by decide) (fun _ => ?_) (fun c_14 => absurd c_9 c_14)
        refine lv_iconst (v := 1) hx hb dX4_mayStand_73 (by decide) ?_
        refine lv_goto (tgt := 78) hx hb dX4_mayStand_74 (by decide) ?_
        exact rd_z hx hb hr hlocks dX4_mayStand_78 rfl (by unfold f_X4_mayStand; rw [if_neg c_1, if_neg c_5, if_pos c_9])
set_option maxRecDepth 20000 in
set_option maxHeartbeats 4000000 in
theorem k_X3_sum (l : Launch) (D : va_G) (cI cJ cZ : ClassId) (a : Nat → Nat) (n : Nat) (ah pl ck ct nk pm ja rg bu pn : Int32) (tp st us fb kA tA : Nat → Int32) (lx ly gx gy gu gv : Nat → Int64)  (S : Nat) (gS : bu + pn = nI S) (hSn : S ≤ n) (hn : n ≤ 24) : RD l yX3_sum cX3_sum 4 (some .long) 1 D (tysW cI cJ cZ) (wI cI cJ cZ a n ah pl ck ct nk pm ja rg bu pn tp st us fb kA tA lx ly gx gy gu gv) [.ref (a 0)] (some (.long (sumF (fun j => f_X2_offAt (nI j) lx ly gx gy) S))) := by
  refine RD.of (by decide) ?_
  intro p e s m below meth c hx hb hr hml hown hlocks hE hP hK
  have hown : s.vm.findClass RX3 = some m.cls := hown
  have ht : tb_OK s := hE.1
  have hl := lv_entry ([.ref (a 0)]) (n := 4) (Nat.le_of_ble_eq_true rfl)
  rw [lg_entry_eq]
  generalize (lg_sl ([.ref (a 0)]) ++ List.replicate (4 - (lg_sl ([.ref (a 0)])).length) Slot.unset).toArray = ls at hl ⊢
  have hl : lv_has ls 4 [(0, .ref (a 0))] := hl
  refine lv_lconst (v := 0) hx hb dX3_sum_0 (by decide) ?_
  refine lv_lstore_n (lv' := [(1, .long 0), (0, .ref (a 0))]) hx hb dX3_sum_1 rfl hl (by decide) rfl (fun ls hl => ?_)
  refine lv_iconst (v := 0) hx hb dX3_sum_2 (by decide) ?_
  refine lv_istore_n (lv' := [(3, .int 0), (1, .long 0), (0, .ref (a 0))]) hx hb dX3_sum_3 rfl hl (by decide) rfl (fun ls hl => ?_)
  have lp : ∀ (N : Nat) (i : Nat) (q : Int64) (z : Int32) , (z = nI i) → (i ≤ S) → (q = sumF (fun j => f_X2_offAt (nI j) lx ly gx gy) i) → S - i < N → ∀ (ls : Array Slot), lv_has ls 4 [(3, .int z), (1, .long q), (0, .ref (a 0))] → W p l e (rmD 1 0 0) s m ([.ref (a 0)] : List Value).toArray below meth c s.heap [] 0 0 (MQ below (QcR (some (.long (sumF (fun j => f_X2_offAt (nI j) lx ly gx gy) S)))) ([.ref (a 0)] : List Value).toArray s 0 0 (fun _ => False)) (F0 m 4 ls []) := by
    intro N
    induction N with
    | zero => intro i q z _ _ _ hN; exact absurd hN (Nat.not_lt_zero _)
    | succ N lp_ih =>
      intro i q z hz hi hq hN ls hl
      refine lv_iload_n hx hb dX3_sum_4 rfl (lv_at hl 0 rfl) ?_
      refine lv_aload_n hx hb dX3_sum_5 rfl (lv_at hl 2 rfl) ?_
      refine va_get (D := D) (ci := 4) (v := .ref (a 7)) (C := RX3) (T := TX3) (N := 7) hx hb (lyX3 ht) (fun _ h9 => h9) hown hK hP 0 rfl rfl 2 (by decide) (fl_X3_37 ht) (fun _ h9 => h9) rfl dX3_sum_6 ?_
      refine rdVN (As := []) (rest := [.int z]) (st1 := [.int (f_X2_standing bu pn), .int z]) (k_X2_standing l D cI cJ cZ a n ah pl ck ct nk pm ja rg bu pn tp st us fb kA tA lx ly gx gy gu gv) (si_X3_162 ht ⟨Nat.le_of_ble_eq_true rfl, Nat.le_of_ble_eq_true rfl⟩) hx hb hml hown (va_recv hK hP (ci := 3) (q0 := 7) rfl rfl) hE hP hK rfl hl.1 rfl (Nat.le_of_ble_eq_true rfl) ⟨Nat.zero_le _, Nat.zero_le _⟩ dX3_sum_9 rfl ?_
      refine lv_icmp_ge (tgt := 32) hx hb dX3_sum_12 (by decide) (fun c_1 => ?_) (fun c_1 => ?_)
      · skip
        refine lv_lload_n hx hb dX3_sum_32 rfl (lv_at hl 1 rfl) ?_
        exact rd_l hx hb hr hlocks dX3_sum_33 (by have h9 := (le_le c_1 gS hz (by omega) (by omega)); rw [hq, show i = S by omega])
      · skip
        refine lv_lload_n hx hb dX3_sum_15 rfl (lv_at hl 1 rfl) ?_
        refine lv_aload_n hx hb dX3_sum_16 rfl (lv_at hl 2 rfl) ?_
        refine va_get (D := D) (ci := 4) (v := .ref (a 7)) (C := RX3) (T := TX3) (N := 7) hx hb (lyX3 ht) (fun _ h9 => h9) hown hK hP 0 rfl rfl 2 (by decide) (fl_X3_37 ht) (fun _ h9 => h9) rfl dX3_sum_17 ?_
        refine lv_iload_n hx hb dX3_sum_20 rfl (lv_at hl 0 rfl) ?_
        refine rdVN (As := [.int z]) (rest := [.long q]) (st1 := [.long (f_X2_offAt z lx ly gx gy), .long q]) (k_X2_offAt l D cI cJ cZ a n ah pl ck ct nk pm ja rg bu pn tp st us fb kA tA lx ly gx gy gu gv z (in_of hz (by have := (nle_lt c_1 gS hz (by omega) (by omega)); omega : i < n) (by omega)) (in_of (nI_s hz) (by have := (nle_lt c_1 gS hz (by omega) (by omega)); omega : i + 1 < n + 1) (by omega))) (si_X3_158 ht ⟨Nat.le_of_ble_eq_true rfl, Nat.le_of_ble_eq_true rfl⟩) hx hb hml hown (va_recv hK hP (ci := 3) (q0 := 7) rfl rfl) hE hP hK rfl hl.1 rfl (Nat.le_of_ble_eq_true rfl) ⟨Nat.zero_le _, Nat.zero_le _⟩ dX3_sum_21 rfl ?_
        refine lv_ladd hx hb dX3_sum_24 ?_
        refine lv_lstore_n (lv' := [(1, .long (q + (f_X2_offAt z lx ly gx gy))), (3, .int z), (0, .ref (a 0))]) hx hb dX3_sum_25 rfl hl (by decide) rfl (fun ls hl => ?_)
        have h8 := (nle_lt c_1 gS hz (by omega) (by omega))
        refine lv_iinc (v := z + 1) (lv' := [(3, .int (z + 1)), (1, .long (q + (f_X2_offAt z lx ly gx gy))), (0, .ref (a 0))]) hx hb dX3_sum_26 hl (k := 1) rfl rfl (by decide) rfl (fun ls hl => ?_)
        refine lv_goto (tgt := 4) hx hb dX3_sum_29 (by decide) ?_
        exact lp_ih (i + 1) (q + (f_X2_offAt z lx ly gx gy)) (z + 1) (nI_s hz) (by omega) (by rw [hq, hz]; rfl) (by omega) ls (lv_sub hl [0, 1, 2] rfl)
  exact lp _ 0 0 0 rfl (Nat.zero_le _) rfl (Nat.lt_succ_self _) ls (lv_sub hl [0, 1, 2] rfl)
set_option maxRecDepth 20000 in
set_option maxHeartbeats 4000000 in
theorem k_X3_list (l : Launch) (D : va_G) (cI cJ cZ : ClassId) (a : Nat → Nat) (n : Nat) (ah pl ck ct nk pm ja rg bu pn : Int32) (tp st us fb kA tA : Nat → Int32) (lx ly gx gy gu gv : Nat → Int64) (k : Int32) (j : Int32) (S : Nat) (gS : bu + pn = nI S) (hSn : S ≤ n) (hn : n ≤ 24) : RD l yX3_list cX3_list 5 (some .int) 1 D (tysW cI cJ cZ) (wI cI cJ cZ a n ah pl ck ct nk pm ja rg bu pn tp st us fb kA tA lx ly gx gy gu gv) [.ref (a 0), .int k, .int j] (some (.int (lstK kA k j S 0 0))) := by
  refine RD.of (by decide) ?_
  intro p e s m below meth c hx hb hr hml hown hlocks hE hP hK
  have hown : s.vm.findClass RX3 = some m.cls := hown
  have ht : tb_OK s := hE.1
  have hl := lv_entry ([.ref (a 0), .int k, .int j]) (n := 5) (Nat.le_of_ble_eq_true rfl)
  rw [lg_entry_eq]
  generalize (lg_sl ([.ref (a 0), .int k, .int j]) ++ List.replicate (5 - (lg_sl ([.ref (a 0), .int k, .int j])).length) Slot.unset).toArray = ls at hl ⊢
  have hl : lv_has ls 5 [(0, .ref (a 0)), (1, .int k), (2, .int j)] := hl
  refine lv_iconst (v := 0) hx hb dX3_list_0 (by decide) ?_
  refine lv_istore_n (lv' := [(3, .int 0), (0, .ref (a 0)), (1, .int k), (2, .int j)]) hx hb dX3_list_1 rfl hl (by decide) rfl (fun ls hl => ?_)
  refine lv_iconst (v := 0) hx hb dX3_list_2 (by decide) ?_
  refine lv_istore (lv' := [(4, .int 0), (3, .int 0), (0, .ref (a 0)), (1, .int k), (2, .int j)]) hx hb dX3_list_3 hl (by decide) rfl (fun ls hl => ?_)
  have lp : ∀ (N : Nat) (i : Nat) (q : Int32) (z : Int32) , (z = nI i) → (i ≤ S) → (lstK kA k j (S - i) i q = lstK kA k j S 0 0) → S - i < N → ∀ (ls : Array Slot), lv_has ls 5 [(4, .int z), (3, .int q), (0, .ref (a 0)), (1, .int k), (2, .int j)] → W p l e (rmD 1 0 0) s m ([.ref (a 0), .int k, .int j] : List Value).toArray below meth c s.heap [] 0 0 (MQ below (QcR (some (.int (lstK kA k j S 0 0)))) ([.ref (a 0), .int k, .int j] : List Value).toArray s 0 0 (fun _ => False)) (F0 m 5 ls []) := by
    intro N
    induction N with
    | zero => intro i q z _ _ _ hN; exact absurd hN (Nat.not_lt_zero _)
    | succ N lp_ih =>
      intro i q z hz hi hq hN ls hl
      refine lv_iload hx hb dX3_list_5 (lv_at hl 0 rfl) ?_
      refine lv_aload_n hx hb dX3_list_7 rfl (lv_at hl 2 rfl) ?_
      refine va_get (D := D) (ci := 4) (v := .ref (a 7)) (C := RX3) (T := TX3) (N := 7) hx hb (lyX3 ht) (fun _ h9 => h9) hown hK hP 0 rfl rfl 2 (by decide) (fl_X3_37 ht) (fun _ h9 => h9) rfl dX3_list_8 ?_
      refine rdVN (As := []) (rest := [.int z]) (st1 := [.int (f_X2_standing bu pn), .int z]) (k_X2_standing l D cI cJ cZ a n ah pl ck ct nk pm ja rg bu pn tp st us fb kA tA lx ly gx gy gu gv) (si_X3_162 ht ⟨Nat.le_of_ble_eq_true rfl, Nat.le_of_ble_eq_true rfl⟩) hx hb hml hown (va_recv hK hP (ci := 3) (q0 := 7) rfl rfl) hE hP hK rfl hl.1 rfl (Nat.le_of_ble_eq_true rfl) ⟨Nat.zero_le _, Nat.zero_le _⟩ dX3_list_11 rfl ?_
      refine lv_icmp_ge (tgt := 48) hx hb dX3_list_14 (by decide) (fun c_1 => ?_) (fun c_1 => ?_)
      · skip
        refine lv_iconst (v := -1) hx hb dX3_list_48 (by decide) ?_
        exact rd_i hx hb hr hlocks dX3_list_49 (by have h8 := (le_le c_1 gS hz (by omega) (by omega)); rw [← hq, show S - i = 0 by omega]; rfl)
      · skip
        refine lv_aload_n hx hb dX3_list_17 rfl (lv_at hl 2 rfl) ?_
        refine va_get (D := D) (ci := 4) (v := .ref (a 7)) (C := RX3) (T := TX3) (N := 7) hx hb (lyX3 ht) (fun _ h9 => h9) hown hK hP 0 rfl rfl 2 (by decide) (fl_X3_37 ht) (fun _ h9 => h9) rfl dX3_list_18 ?_
        refine va_getN (D := D) (ci := 3) (v := .ref (a 8)) (C := RX2) (T := TX2) (N := 11) hx hb (lyX2 ht) (fun _ h9 => h9) hown hK hP 7 rfl rfl 3 (by decide) (fn_X3_112 ht) (fun _ h9 => h9) rfl dX3_list_21 ?_
        refine lv_iload hx hb dX3_list_24 (lv_at hl 0 rfl) ?_
        refine va_iald hx hb hK hP 8 0 rfl rfl (in_of hz (by have := (nle_lt c_1 gS hz (by omega) (by omega)); omega : i < n) (by omega)) dX3_list_26 ?_
        refine lv_iload_n hx hb dX3_list_27 rfl (lv_at hl 3 rfl) ?_
        refine lv_icmp_ne (tgt := 42) hx hb dX3_list_28 (by decide) (fun c_2 => ?_) (fun c_2 => ?_)
        · skip
          have h8 := (nle_lt c_1 gS hz (by omega) (by omega))
          refine lv_iinc (v := z + 1) (lv' := [(4, .int (z + 1)), (3, .int q), (0, .ref (a 0)), (1, .int k), (2, .int j)]) hx hb dX3_list_42 hl (k := 0) rfl rfl (by decide) rfl (fun ls hl => ?_)
          refine lv_goto (tgt := 5) hx hb dX3_list_45 (by decide) ?_
          exact lp_ih (i + 1) q (z + 1) (nI_s hz) (by omega) (by have h9 := cl_of hz (by omega); have e1 := c_2; rw [h9] at e1; rw [← hq, show S - i = (S - (i + 1)) + 1 by omega]; simp only [lstK]; rw [if_neg e1]) (by omega) ls (lv_sub hl [0, 1, 2, 3, 4] rfl)
        · skip
          refine lv_iload_n hx hb dX3_list_31 rfl (lv_at hl 1 rfl) ?_
          refine lv_iload_n hx hb dX3_list_32 rfl (lv_at hl 4 rfl) ?_
          refine lv_icmp_ne (tgt := 39) hx hb dX3_list_33 (by decide) (fun c_3 => ?_) (fun c_3 => ?_)
          · skip
            refine lv_iinc (v := q + 1) (lv' := [(3, .int (q + 1)), (4, .int z), (0, .ref (a 0)), (1, .int k), (2, .int j)]) hx hb dX3_list_39 hl (k := 1) rfl rfl (by decide) rfl (fun ls hl => ?_)
            have h8 := (nle_lt c_1 gS hz (by omega) (by omega))
            refine lv_iinc (v := z + 1) (lv' := [(4, .int (z + 1)), (3, .int (q + 1)), (0, .ref (a 0)), (1, .int k), (2, .int j)]) hx hb dX3_list_42 hl (k := 1) rfl rfl (by decide) rfl (fun ls hl => ?_)
            refine lv_goto (tgt := 5) hx hb dX3_list_45 (by decide) ?_
            exact lp_ih (i + 1) (q + 1) (z + 1) (nI_s hz) (by omega) (by have h9 := cl_of hz (by omega); have e1 := c_2; rw [h9] at e1; rw [← hq, show S - i = (S - (i + 1)) + 1 by omega]; simp only [lstK]; rw [if_pos e1, if_neg c_3]) (by omega) ls (lv_sub hl [0, 1, 2, 3, 4] rfl)
          · skip
            refine lv_iload hx hb dX3_list_36 (lv_at hl 0 rfl) ?_
            exact rd_i hx hb hr hlocks dX3_list_38 (by have h8 := (nle_lt c_1 gS hz (by omega) (by omega)); have h9 := cl_of hz (by omega); have e1 := c_2; rw [h9] at e1; rw [← hq, show S - i = (S - (i + 1)) + 1 by omega]; simp only [lstK]; rw [if_pos e1, if_pos c_3]; exact hz)
  exact lp _ 0 0 0 rfl (Nat.zero_le _) rfl (Nat.lt_succ_self _) ls (lv_sub hl [0, 1, 2, 3, 4] rfl)
def f_X2_shiftBuilt_gx (j : Int32) (B : Nat) (rn : Nat) (gx : Nat → Int64) : Nat → Int64 := shF gx j.toInt64 (rn + 1) (B + 1)
def f_X2_shiftBuilt_gy (f : Int32) (B : Nat) (rn : Nat) (gy : Nat → Int64) : Nat → Int64 := shF gy f.toInt64 (rn + 1) (B + 1)
set_option maxRecDepth 20000 in
set_option maxHeartbeats 4000000 in
theorem k_X2_shiftBuilt (l : Launch) (D : va_G) (cI cJ cZ : ClassId) (a : Nat → Nat) (n : Nat) (ah pl ck ct nk pm ja rg bu pn : Int32) (tp st us fb kA tA : Nat → Int32) (lx ly gx gy gu gv : Nat → Int64) (r : Int32) (j : Int32) (f : Int32) (B : Nat) (rn : Nat) (hB : bu = nI B) (hBn : B ≤ n) (hn : n ≤ 24) (ern : r = nI rn) (hrB : rn ≤ B) : WR l yX2_shiftBuilt cX2_shiftBuilt 5 none 0 0 0 D (tysW cI cJ cZ) (wI cI cJ cZ a n ah pl ck ct nk pm ja rg bu pn tp st us fb kA tA lx ly gx gy gu gv) [.ref (a 7), .int r, .int j, .int f] (fun ov w' => ov = none ∧ w' = wI cI cJ cZ a n ah pl ck ct nk pm ja rg bu pn tp st us fb kA tA lx ly (f_X2_shiftBuilt_gx j B rn gx) (f_X2_shiftBuilt_gy f B rn gy) gu gv) := by
  refine WR.of (by decide) ?_
  intro p e s m below meth c A hadm hx hb hr hml hown hlocks hname hE hP hK hD hS hA hAe
  have hown : s.vm.findClass RX2 = some m.cls := hown
  have ht : tb_OK s := hE.1
  have hl := lv_entry ([.ref (a 7), .int r, .int j, .int f]) (n := 5) (Nat.le_of_ble_eq_true rfl)
  rw [lg_entry_eq]
  generalize (lg_sl ([.ref (a 7), .int r, .int j, .int f]) ++ List.replicate (5 - (lg_sl ([.ref (a 7), .int r, .int j, .int f])).length) Slot.unset).toArray = ls at hl ⊢
  have hl : lv_has ls 5 [(0, .ref (a 7)), (1, .int r), (2, .int j), (3, .int f)] := hl
  refine lv_iload_n hx hb dX2_shiftBuilt_0 rfl (lv_at hl 1 rfl) ?_
  refine lv_istore (lv' := [(4, .int r), (0, .ref (a 7)), (1, .int r), (2, .int j), (3, .int f)]) hx hb dX2_shiftBuilt_1 hl (by decide) rfl (fun ls hl => ?_)
  have lp : ∀ (N : Nat) (i : Nat) (z : Int32) (x1 : Nat → Int64) (y1 : Nat → Int64), (z = nI i) → (i ≤ B) → (rn ≤ i) → (x1 = shF gx j.toInt64 (rn + 1) (i + 1)) → (y1 = shF gy f.toInt64 (rn + 1) (i + 1)) → B - i < N → ∀ (H : Heap) (locs : List Loc), va_P D vwCl (wI cI cJ cZ a n ah pl ck ct nk pm ja rg bu pn tp st us fb kA tA lx ly x1 y1 gu gv) H → va_D A (wI cI cJ cZ a n ah pl ck ct nk pm ja rg bu pn tp st us fb kA tA lx ly x1 y1 gu gv) → va_S A s.heap H locs → ∀ (ls : Array Slot), lv_has ls 5 [(4, .int z), (0, .ref (a 7)), (1, .int r), (2, .int j), (3, .int f)] → W p l e (rmD 0 0 0) s m ([.ref (a 7), .int r, .int j, .int f] : List Value).toArray below meth c H locs 0 0 (MQ below (QcW D (wI cI cJ cZ a n ah pl ck ct nk pm ja rg bu pn tp st us fb kA tA lx ly gx gy gu gv) s.heap.size (fun ov w' => ov = none ∧ w' = wI cI cJ cZ a n ah pl ck ct nk pm ja rg bu pn tp st us fb kA tA lx ly (f_X2_shiftBuilt_gx j B rn gx) (f_X2_shiftBuilt_gy f B rn gy) gu gv)) ([.ref (a 7), .int r, .int j, .int f] : List Value).toArray s 0 0 A) (F0 m 3 ls []) := by
    intro N
    induction N with
    | zero => intro i z x1 y1 _ _ _ _ _ hN; exact absurd hN (Nat.not_lt_zero _)
    | succ N lp_ih =>
      intro i z x1 y1 hz hi hlo hx1 hy1 hN H locs hP hD hS ls hl
      refine lv_iload hx hb dX2_shiftBuilt_3 (lv_at hl 0 rfl) ?_
      refine lv_aload_n hx hb dX2_shiftBuilt_5 rfl (lv_at hl 1 rfl) ?_
      refine va_get (D := D) (ci := 3) (v := .int bu) (C := RX2) (T := TX2) (N := 11) hx hb (lyX2 ht) (fun _ h9 => h9) hown hK hP 7 rfl rfl 1 (by decide) (fl_X2_9 ht) (fun _ h9 => h9) rfl dX2_shiftBuilt_6 ?_
      refine lv_icmp_ge (tgt := 46) hx hb dX2_shiftBuilt_9 (by decide) (fun c_1 => ?_) (fun c_1 => ?_)
      · skip
        have h9 := le_le c_1 hB hz (by omega) (by omega)
        have e_x1 : x1 = shF gx j.toInt64 (rn + 1) (B + 1) := (by rw [hx1, show i = B by omega])
        have e_y1 : y1 = shF gy f.toInt64 (rn + 1) (B + 1) := (by rw [hy1, show i = B by omega])
        rw [e_x1, e_y1] at hP hD
        have hP : va_P D vwCl (wI cI cJ cZ a n ah pl ck ct nk pm ja rg bu pn tp st us fb kA tA lx ly (shF gx j.toInt64 (rn + 1) (B + 1)) (shF gy f.toInt64 (rn + 1) (B + 1)) gu gv) H := hP
        have hD : va_D A (wI cI cJ cZ a n ah pl ck ct nk pm ja rg bu pn tp st us fb kA tA lx ly (shF gx j.toInt64 (rn + 1) (B + 1)) (shF gy f.toInt64 (rn + 1) (B + 1)) gu gv) := hD
        exact wr_v hx hb hr hlocks hAe hP hD hS dX2_shiftBuilt_46 (⟨rfl, rfl⟩)
      · skip
        refine lv_aload_n hx hb dX2_shiftBuilt_12 rfl (lv_at hl 1 rfl) ?_
        refine va_get (D := D) (ci := 3) (v := .ref (a 12)) (C := RX2) (T := TX2) (N := 11) hx hb (lyX2 ht) (fun _ h9 => h9) hown hK hP 7 rfl rfl 7 (by decide) (fl_X2_35 ht) (fun _ h9 => h9) rfl dX2_shiftBuilt_13 ?_
        refine lv_iload hx hb dX2_shiftBuilt_16 (lv_at hl 0 rfl) ?_
        refine lv_iconst (v := 1) hx hb dX2_shiftBuilt_18 (by decide) ?_
        refine lv_iadd hx hb dX2_shiftBuilt_19 ?_
        refine lv_dup2_11 hx hb dX2_shiftBuilt_20 rfl rfl ?_
        refine va_lald hx hb hK hP 12 1 rfl rfl (in_of (nI_s hz) (by have := (nle_lt c_1 hB hz (by omega) (by omega)); omega : i + 1 < n + 1) (by omega)) dX2_shiftBuilt_21 ?_
        refine lv_iload_n hx hb dX2_shiftBuilt_22 rfl (lv_at hl 3 rfl) ?_
        refine lv_i2l (v := j.toInt64) hx hb dX2_shiftBuilt_23 rfl ?_
        refine lv_ladd hx hb dX2_shiftBuilt_24 ?_
        refine va_last hx hb hK hP hD hS 12 1 rfl rfl (in_of (nI_s hz) (by have := (nle_lt c_1 hB hz (by omega) (by omega)); omega : i + 1 < n + 1) (by omega)) dX2_shiftBuilt_25 (fun H locs hP hD hS => ?_)
        have hP : va_P D vwCl (wI cI cJ cZ a n ah pl ck ct nk pm ja rg bu pn tp st us fb kA tA lx ly (vp_updL x1 (z + 1).toNatClampNeg ((x1 (z + 1).toNatClampNeg) + j.toInt64)) y1 gu gv) H := hP
        have hD : va_D A (wI cI cJ cZ a n ah pl ck ct nk pm ja rg bu pn tp st us fb kA tA lx ly (vp_updL x1 (z + 1).toNatClampNeg ((x1 (z + 1).toNatClampNeg) + j.toInt64)) y1 gu gv) := hD
        refine lv_aload_n hx hb dX2_shiftBuilt_26 rfl (lv_at hl 1 rfl) ?_
        refine va_get (D := D) (ci := 3) (v := .ref (a 13)) (C := RX2) (T := TX2) (N := 11) hx hb (lyX2 ht) (fun _ h9 => h9) hown hK hP 7 rfl rfl 8 (by decide) (fl_X2_38 ht) (fun _ h9 => h9) rfl dX2_shiftBuilt_27 ?_
        refine lv_iload hx hb dX2_shiftBuilt_30 (lv_at hl 0 rfl) ?_
        refine lv_iconst (v := 1) hx hb dX2_shiftBuilt_32 (by decide) ?_
        refine lv_iadd hx hb dX2_shiftBuilt_33 ?_
        refine lv_dup2_11 hx hb dX2_shiftBuilt_34 rfl rfl ?_
        refine va_lald hx hb hK hP 13 1 rfl rfl (in_of (nI_s hz) (by have := (nle_lt c_1 hB hz (by omega) (by omega)); omega : i + 1 < n + 1) (by omega)) dX2_shiftBuilt_35 ?_
        refine lv_iload_n hx hb dX2_shiftBuilt_36 rfl (lv_at hl 4 rfl) ?_
        refine lv_i2l (v := f.toInt64) hx hb dX2_shiftBuilt_37 rfl ?_
        refine lv_ladd hx hb dX2_shiftBuilt_38 ?_
        refine va_last hx hb hK hP hD hS 13 1 rfl rfl (in_of (nI_s hz) (by have := (nle_lt c_1 hB hz (by omega) (by omega)); omega : i + 1 < n + 1) (by omega)) dX2_shiftBuilt_39 (fun H locs hP hD hS => ?_)
        have hP : va_P D vwCl (wI cI cJ cZ a n ah pl ck ct nk pm ja rg bu pn tp st us fb kA tA lx ly (vp_updL x1 (z + 1).toNatClampNeg ((x1 (z + 1).toNatClampNeg) + j.toInt64)) (vp_updL y1 (z + 1).toNatClampNeg ((y1 (z + 1).toNatClampNeg) + f.toInt64)) gu gv) H := hP
        have hD : va_D A (wI cI cJ cZ a n ah pl ck ct nk pm ja rg bu pn tp st us fb kA tA lx ly (vp_updL x1 (z + 1).toNatClampNeg ((x1 (z + 1).toNatClampNeg) + j.toInt64)) (vp_updL y1 (z + 1).toNatClampNeg ((y1 (z + 1).toNatClampNeg) + f.toInt64)) gu gv) := hD
        have h8 := (nle_lt c_1 hB hz (by omega) (by omega))
        refine lv_iinc (v := z + 1) (lv' := [(4, .int (z + 1)), (0, .ref (a 7)), (1, .int r), (2, .int j), (3, .int f)]) hx hb dX2_shiftBuilt_40 hl (k := 0) rfl rfl (by decide) rfl (fun ls hl => ?_)
        refine lv_goto (tgt := 3) hx hb dX2_shiftBuilt_43 (by decide) ?_
        exact lp_ih (i + 1) (z + 1) (vp_updL x1 (z + 1).toNatClampNeg ((x1 (z + 1).toNatClampNeg) + j.toInt64)) (vp_updL y1 (z + 1).toNatClampNeg ((y1 (z + 1).toNatClampNeg) + f.toInt64)) (nI_s hz) (by omega) (by omega) (by rw [cl_of (nI_s hz) (by omega), hx1]; exact shF_s _ _ _ _ (by omega)) (by rw [cl_of (nI_s hz) (by omega), hy1]; exact shF_s _ _ _ _ (by omega)) (by omega) _ _ hP hD hS ls (lv_sub hl [0, 1, 2, 3, 4] rfl)
  exact lp _ rn r gx gy ern (by omega) (Nat.le_refl _) (shF_0 _ _ _) (shF_0 _ _ _) (Nat.lt_succ_self _) _ _ hP hD hS ls (lv_sub hl [0, 1, 2, 3, 4] rfl)
/-- one taken from its kind's number, ring by ring from lo on, j rings -/
def subK (f : Nat → Int32) (kA : Nat → Int32) (lo : Nat) : Nat → (Nat → Int32)
  | 0 => f
  | j + 1 => f_X1_giveBack_us (kA (lo + j)) (subK f kA lo j)
def f_X3_openPlanned_pn  : Int32 := 0
def f_X3_openPlanned_us (B : Nat) (S : Nat) (us : Nat → Int32) (kA : Nat → Int32) : Nat → Int32 := subK us kA B (S - B)
set_option maxRecDepth 20000 in
set_option maxHeartbeats 4000000 in
theorem k_X3_openPlanned (l : Launch) (D : va_G) (cI cJ cZ : ClassId) (a : Nat → Nat) (n : Nat) (ah pl ck ct nk pm ja rg bu pn : Int32) (tp st us fb kA tA : Nat → Int32) (lx ly gx gy gu gv : Nat → Int64) (B : Nat) (S : Nat) (hB : bu = nI B) (hBS : B ≤ S) (gS : bu + pn = nI S) (hSn : S ≤ n) (hn : n ≤ 24) (hk : ∀ i, i < S → vp_in (kA i) 4) : WR l yX3_openPlanned cX3_openPlanned 2 none 1 0 0 D (tysW cI cJ cZ) (wI cI cJ cZ a n ah pl ck ct nk pm ja rg bu pn tp st us fb kA tA lx ly gx gy gu gv) [.ref (a 0)] (fun ov w' => ov = none ∧ w' = wI cI cJ cZ a n ah pl ck ct nk pm ja rg bu f_X3_openPlanned_pn tp st (f_X3_openPlanned_us B S us kA) fb kA tA lx ly gx gy gu gv) := by
  refine WR.of (by decide) ?_
  intro p e s m below meth c A hadm hx hb hr hml hown hlocks hname hE hP hK hD hS hA hAe
  have hown : s.vm.findClass RX3 = some m.cls := hown
  have ht : tb_OK s := hE.1
  have hl := lv_entry ([.ref (a 0)]) (n := 2) (Nat.le_of_ble_eq_true rfl)
  rw [lg_entry_eq]
  generalize (lg_sl ([.ref (a 0)]) ++ List.replicate (2 - (lg_sl ([.ref (a 0)])).length) Slot.unset).toArray = ls at hl ⊢
  have hl : lv_has ls 2 [(0, .ref (a 0))] := hl
  refine lv_aload_n hx hb dX3_openPlanned_0 rfl (lv_at hl 0 rfl) ?_
  refine va_get (D := D) (ci := 4) (v := .ref (a 7)) (C := RX3) (T := TX3) (N := 7) hx hb (lyX3 ht) (fun _ h9 => h9) hown hK hP 0 rfl rfl 2 (by decide) (fl_X3_37 ht) (fun _ h9 => h9) rfl dX3_openPlanned_1 ?_
  refine va_getN (D := D) (ci := 3) (v := .int bu) (C := RX2) (T := TX2) (N := 11) hx hb (lyX2 ht) (fun _ h9 => h9) hown hK hP 7 rfl rfl 1 (by decide) (fn_X3_95 ht) (fun _ h9 => h9) rfl dX3_openPlanned_4 ?_
  refine lv_istore_n (lv' := [(1, .int bu), (0, .ref (a 0))]) hx hb dX3_openPlanned_7 rfl hl (by decide) rfl (fun ls hl => ?_)
  have lp : ∀ (N : Nat) (i : Nat) (z : Int32) (u1 : Nat → Int32), (z = nI i) → (i ≤ S) → (B ≤ i) → (u1 = subK us kA B (i - B)) → S - i < N → ∀ (H : Heap) (locs : List Loc), va_P D vwCl (wI cI cJ cZ a n ah pl ck ct nk pm ja rg bu pn tp st u1 fb kA tA lx ly gx gy gu gv) H → va_D A (wI cI cJ cZ a n ah pl ck ct nk pm ja rg bu pn tp st u1 fb kA tA lx ly gx gy gu gv) → va_S A s.heap H locs → ∀ (ls : Array Slot), lv_has ls 2 [(1, .int z), (0, .ref (a 0))] → W p l e (rmD 1 0 0) s m ([.ref (a 0)] : List Value).toArray below meth c H locs 0 0 (MQ below (QcW D (wI cI cJ cZ a n ah pl ck ct nk pm ja rg bu pn tp st us fb kA tA lx ly gx gy gu gv) s.heap.size (fun ov w' => ov = none ∧ w' = wI cI cJ cZ a n ah pl ck ct nk pm ja rg bu f_X3_openPlanned_pn tp st (f_X3_openPlanned_us B S us kA) fb kA tA lx ly gx gy gu gv)) ([.ref (a 0)] : List Value).toArray s 0 0 A) (F0 m 8 ls []) := by
    intro N
    induction N with
    | zero => intro i z u1 _ _ _ _ hN; exact absurd hN (Nat.not_lt_zero _)
    | succ N lp_ih =>
      intro i z u1 hz hi hlo hu1 hN H locs hP hD hS ls hl
      refine lv_iload_n hx hb dX3_openPlanned_8 rfl (lv_at hl 0 rfl) ?_
      refine lv_aload_n hx hb dX3_openPlanned_9 rfl (lv_at hl 1 rfl) ?_
      refine va_get (D := D) (ci := 4) (v := .ref (a 7)) (C := RX3) (T := TX3) (N := 7) hx hb (lyX3 ht) (fun _ h9 => h9) hown hK hP 0 rfl rfl 2 (by decide) (fl_X3_37 ht) (fun _ h9 => h9) rfl dX3_openPlanned_10 ?_
      refine rdVN (As := []) (rest := [.int z]) (st1 := [.int (f_X2_standing bu pn), .int z]) (k_X2_standing l D cI cJ cZ a n ah pl ck ct nk pm ja rg bu pn tp st u1 fb kA tA lx ly gx gy gu gv) (si_X3_162 ht ⟨Nat.le_of_ble_eq_true rfl, Nat.le_of_ble_eq_true rfl⟩) hx hb hml hown (va_recv hK hP (ci := 3) (q0 := 7) rfl rfl) (hE.since hS) hP hK rfl hl.1 rfl (Nat.le_of_ble_eq_true rfl) ⟨Nat.zero_le _, Nat.zero_le _⟩ dX3_openPlanned_13 rfl ?_
      refine lv_icmp_ge (tgt := 41) hx hb dX3_openPlanned_16 (by decide) (fun c_1 => ?_) (fun c_1 => ?_)
      · skip
        have h9 := (le_le c_1 gS hz (by omega) (by omega))
        have e_u1 : u1 = subK us kA B (S - B) := (by rw [hu1, show i = S by omega])
        rw [e_u1] at hP hD
        have hP : va_P D vwCl (wI cI cJ cZ a n ah pl ck ct nk pm ja rg bu pn tp st (subK us kA B (S - B)) fb kA tA lx ly gx gy gu gv) H := hP
        have hD : va_D A (wI cI cJ cZ a n ah pl ck ct nk pm ja rg bu pn tp st (subK us kA B (S - B)) fb kA tA lx ly gx gy gu gv) := hD
        refine lv_aload_n hx hb dX3_openPlanned_41 rfl (lv_at hl 1 rfl) ?_
        refine va_get (D := D) (ci := 4) (v := .ref (a 7)) (C := RX3) (T := TX3) (N := 7) hx hb (lyX3 ht) (fun _ h9 => h9) hown hK hP 0 rfl rfl 2 (by decide) (fl_X3_37 ht) (fun _ h9 => h9) rfl dX3_openPlanned_42 ?_
        refine lv_iconst (v := 0) hx hb dX3_openPlanned_45 (by decide) ?_
        refine va_putN (D := D) (ci := 3) (v := .int 0) (ty := .int) (C := RX2) (T := TX2) (N := 11) hx hb (lyX2 ht) (fun _ h9 => h9) tyX2 tyX2_ok nmX2 hown hK hP hD hS 7 rfl rfl 2 (by decide) (fn_X3_104 ht) (fun _ h9 => h9) rfl (by decide +kernel) rfl rfl (Nat.le_of_ble_eq_true rfl) dX3_openPlanned_46 (fun H locs hP hD hS => ?_)
        have hP : va_P D vwCl (wI cI cJ cZ a n ah pl ck ct nk pm ja rg bu 0 tp st (subK us kA B (S - B)) fb kA tA lx ly gx gy gu gv) H := hP
        have hD : va_D A (wI cI cJ cZ a n ah pl ck ct nk pm ja rg bu 0 tp st (subK us kA B (S - B)) fb kA tA lx ly gx gy gu gv) := hD
        exact wr_v hx hb hr hlocks hAe hP hD hS dX3_openPlanned_49 (⟨rfl, rfl⟩)
      · skip
        refine lv_aload_n hx hb dX3_openPlanned_19 rfl (lv_at hl 1 rfl) ?_
        refine va_get (D := D) (ci := 4) (v := .ref (a 1)) (C := RX3) (T := TX3) (N := 7) hx hb (lyX3 ht) (fun _ h9 => h9) hown hK hP 0 rfl rfl 0 (by decide) (fl_X3_10 ht) (fun _ h9 => h9) rfl dX3_openPlanned_20 ?_
        refine lv_aload_n hx hb dX3_openPlanned_23 rfl (lv_at hl 1 rfl) ?_
        refine va_get (D := D) (ci := 4) (v := .ref (a 7)) (C := RX3) (T := TX3) (N := 7) hx hb (lyX3 ht) (fun _ h9 => h9) hown hK hP 0 rfl rfl 2 (by decide) (fl_X3_37 ht) (fun _ h9 => h9) rfl dX3_openPlanned_24 ?_
        refine va_getN (D := D) (ci := 3) (v := .ref (a 8)) (C := RX2) (T := TX2) (N := 11) hx hb (lyX2 ht) (fun _ h9 => h9) hown hK hP 7 rfl rfl 3 (by decide) (fn_X3_112 ht) (fun _ h9 => h9) rfl dX3_openPlanned_27 ?_
        refine lv_iload_n hx hb dX3_openPlanned_30 rfl (lv_at hl 0 rfl) ?_
        refine va_iald hx hb hK hP 8 0 rfl rfl (in_of hz (by have := (nle_lt c_1 gS hz (by omega) (by omega)); omega : i < n) (by omega)) dX3_openPlanned_31 ?_
        refine wrVN (As := [.int (kA z.toNatClampNeg)]) (rest := []) (k_X1_giveBack l D cI cJ cZ a n ah pl ck ct nk pm ja rg bu pn tp st u1 fb kA tA lx ly gx gy gu gv (kA z.toNatClampNeg) (by rw [cl_of hz (by have := (nle_lt c_1 gS hz (by omega) (by omega)); omega)]; exact hk i (nle_lt c_1 gS hz (by omega) (by omega)))) (si_X3_119 ht ⟨Nat.le_of_ble_eq_true rfl, Nat.le_of_ble_eq_true rfl⟩) hx hb hml hown (va_recv hK hP (ci := 2) (q0 := 1) rfl rfl) hE hP hK hD hS hA rfl hl.1 rfl (Nat.le_of_ble_eq_true rfl) ⟨Nat.zero_le _, Nat.zero_le _⟩ dX3_openPlanned_32 (fun ov w' H locs hpost hP hD hS => ?_)
        obtain ⟨rfl, rfl⟩ := hpost
        refine W.st (st1 := []) rfl ?_
        have hP : va_P D vwCl (wI cI cJ cZ a n ah pl ck ct nk pm ja rg bu pn tp st (f_X1_giveBack_us (kA z.toNatClampNeg) u1) fb kA tA lx ly gx gy gu gv) H := hP
        have hD : va_D A (wI cI cJ cZ a n ah pl ck ct nk pm ja rg bu pn tp st (f_X1_giveBack_us (kA z.toNatClampNeg) u1) fb kA tA lx ly gx gy gu gv) := hD
        have h8 := (nle_lt c_1 gS hz (by omega) (by omega))
        refine lv_iinc (v := z + 1) (lv' := [(1, .int (z + 1)), (0, .ref (a 0))]) hx hb dX3_openPlanned_35 hl (k := 0) rfl rfl (by decide) rfl (fun ls hl => ?_)
        refine lv_goto (tgt := 8) hx hb dX3_openPlanned_38 (by decide) ?_
        exact lp_ih (i + 1) (z + 1) (f_X1_giveBack_us (kA z.toNatClampNeg) u1) (nI_s hz) (by omega) (by omega) (by rw [cl_of hz (by omega), hu1, show i + 1 - B = (i - B) + 1 by omega]; show _ = f_X1_giveBack_us (kA (B + (i - B))) _; rw [show B + (i - B) = i by omega]) (by omega) _ _ hP hD hS ls (lv_sub hl [0, 1] rfl)
  exact lp _ B bu us hB hBS (Nat.le_refl _) (by rw [Nat.sub_self]; rfl) (Nat.lt_succ_self _) _ _ hP hD hS ls (lv_sub hl [0, 1] rfl)
