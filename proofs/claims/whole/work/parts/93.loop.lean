/-! THE LAW'S LOOP -/
theorem lp_in {L i : Nat} (hL : L ≤ 2049) (hi : i ≤ 3000) (h : ¬ Int32.ofNat L - 4 < nI i) : i + 4 ≤ L := by
  have e4 : (4 : Int32).toInt = 4 := rfl
  have e : (Int32.ofNat L - 4).toInt = (L : Int) - 4 := by
    rw [Int32.toInt_sub, show (Int32.ofNat L).toInt = (L : Int) from nI_toInt (by omega), e4]
    exact Int.bmod_eq_of_le (by omega) (by omega)
  rw [lt_I, e, nI_toInt (by omega)] at h
  omega
set_option maxRecDepth 20000 in
set_option maxHeartbeats 4000000 in
theorem law_loop {p : Program} {e : Env} {s : State} {m : MethodId} {below : List Frame} {meth : Method} {c : Code} (l : Launch) (hnt : ∀ e : Env, l.admits e → e.platform.stackTraces = false) {sb L : Nat} {xs : Nat → Int32} {D : va_G} {cI cJ cZ : ClassId} {A : Nat → Prop} (hC : LX p s m c sb L xs D cI cJ cZ A) (hr : meth.sig.returnType = ret) (hlocks : meth.locks = false) (hA2 : ∀ q, A q → s.heap.size ≤ q) {a am : Nat → Nat} {ao n : Nat} :
    ∀ (N t : Nat), 600 - t < N → t ≤ 512 → ∀ (w : va_W) (H : Heap) (locs : List Loc) (ls : Array Slot), LI (100000 * (t : Int)) cI cJ cZ a am ao n w → va_P D vwCl w H → va_D A w → va_S A s.heap H locs → lv_has ls 8 [(4, .int (nI (1 + 4 * t))), (3, .ref ao), (2, .ref (am 0)), (1, .ref (a 0)), (0, .ref sb)] →
      W p l e room_1 s m #[.ref sb] below meth c H locs (29 + t) (489 + 6 * t) (lw_Z below #[.ref sb] s) (F0 m 33 ls []) := by
  intro N
  induction N with
  | zero => intro t h; exact absurd h (Nat.not_lt_zero _)
  | succ N ih =>
    intro t hN ht5 w H locs ls hw hP hD hS hl
    obtain ⟨hx, hb, hml, hown, hX, hbl, hbA, hE, hK, hA, hL⟩ := id hC
    refine lv_iload hx hb dL_law_33 (lv_at hl 0 rfl) ?_
    refine lv_aload_n hx hb dL_law_35 rfl (lv_at hl 4 rfl) ?_
    refine va_slen hx hb hX hbl hbA hS dL_law_36 ?_
    refine lv_iconst (v := 4) hx hb dL_law_37 (by decide) ?_
    refine lv_isub hx hb dL_law_38 ?_
    refine lv_icmp_gt (tgt := 959) hx hb dL_law_39 (by decide) (fun c1 => ?_) (fun c1 => ?_)
    · refine lv_iconst (v := 1) hx hb dL_law_959 (by decide) ?_
      refine va_forget (fun q hq => hA2 _ (hS.2.2 q hq)) ?_
      refine W.widen (k := 653990) (n := 7134099) (by omega) (by omega) ?_
      exact lw_ret hx hb hr hlocks dL_law_960
    · have hi : (1 + 4 * t) + 4 ≤ L := lp_in hL (by omega) c1
      have hX5 : 0 ≤ 100000 * (t : Int) ∧ 100000 * (t : Int) ≤ 60000000 := by omega
      have hc : (29 + t) + 1 ≤ 653990 := by omega
      have hs : (489 + 6 * t) + 6 ≤ 7134099 := by omega
      have go : ∀ (w' : va_W) (H' : Heap) (locs' : List Loc) (ls' : Array Slot), LI (100000 * (t : Int) + 100000) cI cJ cZ a am ao n w' → va_P D vwCl w' H' → va_D A w' → va_S A s.heap H' locs' → lv_has ls' 8 [(4, .int (nI (1 + 4 * t))), (3, .ref ao), (2, .ref (am 0)), (1, .ref (a 0)), (0, .ref sb)] → W p l e room_1 s m #[.ref sb] below meth c H' locs' (29 + t + 1) (489 + 6 * t + 6) (lw_Z below #[.ref sb] s) (F0 m 953 ls' []) := by
        intro w' H' locs' ls' hw' hP' hD' hS' hl'
        refine lv_iinc (v := nI (1 + 4 * (t + 1))) (lv' := [(4, .int (nI (1 + 4 * (t + 1)))), (3, .ref ao), (2, .ref (am 0)), (1, .ref (a 0)), (0, .ref sb)]) hx hb dL_law_953 hl' (k := 0) rfl ?_ (by decide) rfl (fun ls hl => ?_)
        · show nI (1 + 4 * t) + nI 4 = nI (1 + 4 * (t + 1))
          rw [nI_add, show 1 + 4 * t + 4 = 1 + 4 * (t + 1) by omega]
        refine lv_goto (tgt := 33) hx hb dL_law_956 (by decide) ?_
        refine W.widen (k := 29 + (t + 1)) (n := 489 + 6 * (t + 1)) (by omega) (by omega) ?_
        refine ih (t + 1) (by omega) (by omega) w' H' locs' ls ?_ hP' hD' hS' hl
        rw [show (100000 * ((t + 1 : Nat) : Int)) = 100000 * (t : Int) + 100000 by omega]
        exact hw'
      refine lv_aload_n hx hb dL_law_42 rfl (lv_at hl 4 rfl) ?_
      refine lv_iload hx hb dL_law_43 (lv_at hl 0 rfl) ?_
      refine va_sld hx hb hX hbl hbA hS (in_of rfl (by omega) (by omega)) dL_law_45 ?_
      refine lv_bipush (v := 31) hx hb dL_law_46 (by decide) ?_
      refine lv_iand hx hb dL_law_48 ?_
      generalize xs (nI (1 + 4 * t)).toNatClampNeg &&& 31 = x
      by_cases c_0 : x = 0
      · refine lv_tableIn (off := 95) (tgt := 144) hx hb dL_law_49 (by rw [c_0]; decide) (by rw [c_0]; decide) (by rw [c_0]; rfl) (by decide) ?_
        exact cs_kind l hnt hC hX5 hi hw hl hP hD hS hc hs go
      by_cases c_1 : x = 1
      · refine lv_tableIn (off := 132) (tgt := 181) hx hb dL_law_49 (by rw [c_1]; decide) (by rw [c_1]; decide) (by rw [c_1]; rfl) (by decide) ?_
        exact cs_more l hnt hC hX5 hi hw hl hP hD hS hc hs go
      by_cases c_2 : x = 2
      · refine lv_tableIn (off := 169) (tgt := 218) hx hb dL_law_49 (by rw [c_2]; decide) (by rw [c_2]; decide) (by rw [c_2]; rfl) (by decide) ?_
        exact cs_line l hnt hC hX5 hi hw hl hP hD hS hc hs go
      by_cases c_3 : x = 3
      · refine lv_tableIn (off := 249) (tgt := 298) hx hb dL_law_49 (by rw [c_3]; decide) (by rw [c_3]; decide) (by rw [c_3]; rfl) (by decide) ?_
        exact cs_apart l hnt hC hX5 hi hw hl hP hD hS hc hs go
      by_cases c_4 : x = 4
      · refine lv_tableIn (off := 274) (tgt := 323) hx hb dL_law_49 (by rw [c_4]; decide) (by rw [c_4]; decide) (by rw [c_4]; rfl) (by decide) ?_
        exact cs_allow l hnt hC hX5 hi hw hl hP hD hS hc hs go
      by_cases c_5 : x = 5
      · refine lv_tableIn (off := 327) (tgt := 376) hx hb dL_law_49 (by rw [c_5]; decide) (by rw [c_5]; decide) (by rw [c_5]; rfl) (by decide) ?_
        exact cs_look l hnt hC hX5 hi hw hl hP hD hS hc hs go
      by_cases c_6 : x = 6
      · refine lv_tableIn (off := 352) (tgt := 401) hx hb dL_law_49 (by rw [c_6]; decide) (by rw [c_6]; decide) (by rw [c_6]; rfl) (by decide) ?_
        exact cs_run l hnt hC hX5 hi hw hl hP hD hS hc hs go
      by_cases c_7 : x = 7
      · refine lv_tableIn (off := 365) (tgt := 414) hx hb dL_law_49 (by rw [c_7]; decide) (by rw [c_7]; decide) (by rw [c_7]; rfl) (by decide) ?_
        exact cs_build l hnt hC hX5 hi hw hl hP hD hS hc hs go
      by_cases c_8 : x = 8
      · refine lv_tableIn (off := 390) (tgt := 439) hx hb dL_law_49 (by rw [c_8]; decide) (by rw [c_8]; decide) (by rw [c_8]; rfl) (by decide) ?_
        exact cs_survey l hnt hC hX5 hi hw hl hP hD hS hc hs go
      by_cases c_9 : x = 9
      · refine lv_tableIn (off := 470) (tgt := 519) hx hb dL_law_49 (by rw [c_9]; decide) (by rw [c_9]; decide) (by rw [c_9]; rfl) (by decide) ?_
        exact cs_replace l hnt hC hX5 hi hw hl hP hD hS hc hs go
      by_cases c_10 : x = 10
      · refine lv_tableIn (off := 538) (tgt := 587) hx hb dL_law_49 (by rw [c_10]; decide) (by rw [c_10]; decide) (by rw [c_10]; rfl) (by decide) ?_
        exact cs_kindOf l hnt hC hX5 hi hw hl hP hD hS hc hs go
      by_cases c_11 : x = 11
      · refine lv_tableIn (off := 563) (tgt := 612) hx hb dL_law_49 (by rw [c_11]; decide) (by rw [c_11]; decide) (by rw [c_11]; rfl) (by decide) ?_
        exact cs_turnOf l hnt hC hX5 hi hw hl hP hD hS hc hs go
      by_cases c_12 : x = 12
      · refine lv_tableIn (off := 588) (tgt := 637) hx hb dL_law_49 (by rw [c_12]; decide) (by rw [c_12]; decide) (by rw [c_12]; rfl) (by decide) ?_
        exact cs_state l hnt hC hX5 hi hw hl hP hD hS hc hs go
      by_cases c_13 : x = 13
      · refine lv_tableIn (off := 613) (tgt := 662) hx hb dL_law_49 (by rw [c_13]; decide) (by rw [c_13]; decide) (by rw [c_13]; rfl) (by decide) ?_
        exact cs_place l hnt hC hX5 hi hw hl hP hD hS hc hs go
      by_cases c_14 : x = 14
      · refine lv_tableIn (off := 680) (tgt := 729) hx hb dL_law_49 (by rw [c_14]; decide) (by rw [c_14]; decide) (by rw [c_14]; rfl) (by decide) ?_
        exact cs_off l hnt hC hX5 hi hw hl hP hD hS hc hs go
      by_cases c_15 : x = 15
      · refine lv_tableIn (off := 735) (tgt := 784) hx hb dL_law_49 (by rw [c_15]; decide) (by rw [c_15]; decide) (by rw [c_15]; rfl) (by decide) ?_
        exact cs_sum l hnt hC hX5 hi hw hl hP hD hS hc hs go
      by_cases c_16 : x = 16
      · refine lv_tableIn (off := 749) (tgt := 798) hx hb dL_law_49 (by rw [c_16]; decide) (by rw [c_16]; decide) (by rw [c_16]; rfl) (by decide) ?_
        exact cs_stroke l hnt hC hX5 hi hw hl hP hD hS hc hs go
      by_cases c_17 : x = 17
      · refine lv_tableIn (off := 786) (tgt := 835) hx hb dL_law_49 (by rw [c_17]; decide) (by rw [c_17]; decide) (by rw [c_17]; rfl) (by decide) ?_
        exact cs_left l hnt hC hX5 hi hw hl hP hD hS hc hs go
      by_cases c_18 : x = 18
      · refine lv_tableIn (off := 811) (tgt := 860) hx hb dL_law_49 (by rw [c_18]; decide) (by rw [c_18]; decide) (by rw [c_18]; rfl) (by decide) ?_
        exact cs_list l hnt hC hX5 hi hw hl hP hD hS hc hs go
      by_cases c_19 : x = 19
      · refine lv_tableIn (off := 848) (tgt := 897) hx hb dL_law_49 (by rw [c_19]; decide) (by rw [c_19]; decide) (by rw [c_19]; rfl) (by decide) ?_
        exact cs_count l hnt hC hX5 hi hw hl hP hD hS hc hs go
      refine lv_tableOut (tgt := 953) hx hb dL_law_49 (by have e0 : x.toInt ≠ 0 := fun h => c_0 (Int32.toInt_inj.mp (by rw [h]; rfl)); have e1 : x.toInt ≠ 1 := fun h => c_1 (Int32.toInt_inj.mp (by rw [h]; rfl)); have e2 : x.toInt ≠ 2 := fun h => c_2 (Int32.toInt_inj.mp (by rw [h]; rfl)); have e3 : x.toInt ≠ 3 := fun h => c_3 (Int32.toInt_inj.mp (by rw [h]; rfl)); have e4 : x.toInt ≠ 4 := fun h => c_4 (Int32.toInt_inj.mp (by rw [h]; rfl)); have e5 : x.toInt ≠ 5 := fun h => c_5 (Int32.toInt_inj.mp (by rw [h]; rfl)); have e6 : x.toInt ≠ 6 := fun h => c_6 (Int32.toInt_inj.mp (by rw [h]; rfl)); have e7 : x.toInt ≠ 7 := fun h => c_7 (Int32.toInt_inj.mp (by rw [h]; rfl)); have e8 : x.toInt ≠ 8 := fun h => c_8 (Int32.toInt_inj.mp (by rw [h]; rfl)); have e9 : x.toInt ≠ 9 := fun h => c_9 (Int32.toInt_inj.mp (by rw [h]; rfl)); have e10 : x.toInt ≠ 10 := fun h => c_10 (Int32.toInt_inj.mp (by rw [h]; rfl)); have e11 : x.toInt ≠ 11 := fun h => c_11 (Int32.toInt_inj.mp (by rw [h]; rfl)); have e12 : x.toInt ≠ 12 := fun h => c_12 (Int32.toInt_inj.mp (by rw [h]; rfl)); have e13 : x.toInt ≠ 13 := fun h => c_13 (Int32.toInt_inj.mp (by rw [h]; rfl)); have e14 : x.toInt ≠ 14 := fun h => c_14 (Int32.toInt_inj.mp (by rw [h]; rfl)); have e15 : x.toInt ≠ 15 := fun h => c_15 (Int32.toInt_inj.mp (by rw [h]; rfl)); have e16 : x.toInt ≠ 16 := fun h => c_16 (Int32.toInt_inj.mp (by rw [h]; rfl)); have e17 : x.toInt ≠ 17 := fun h => c_17 (Int32.toInt_inj.mp (by rw [h]; rfl)); have e18 : x.toInt ≠ 18 := fun h => c_18 (Int32.toInt_inj.mp (by rw [h]; rfl)); have e19 : x.toInt ≠ 19 := fun h => c_19 (Int32.toInt_inj.mp (by rw [h]; rfl)); omega) (by decide) ?_
      refine W.widen (k := 29 + t + 1) (n := 489 + 6 * t + 6) (by omega) (by omega) ?_
      refine go w H locs ls ?_ hP hD hS hl
      obtain ⟨B, S, K, ah, pl, ck, ct, pm, ja, tp, st, us, fb, kA, tA, lx, ly, gx, gy, gu, gv, fo, fa, bl, bs, bk, be, al, mx, my, kd, ky, ix, iy, iu, iv, hR, rfl⟩ := hw
      exact ⟨_, _, _, _, _, _, _, _, _, _, _, _, _, _, _, _, _, _, _, _, _, _, _, _, _, _, _, _, _, _, _, _, _, _, _, _, RE_X (by omega) hR, rfl⟩
