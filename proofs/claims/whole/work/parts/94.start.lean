/-! THE LAW FROM ITS ENTRY -/
theorem RE_0 (v : Int32) : RE 0 (nR v) 0 0 0 1 16 16 (fun _ => 0) (fun _ => 0) (fun _ => 0) (fun _ => 0) (fun _ => 0) (fun _ => 0) (fun _ => 0) (fun _ => 0) (fun _ => 0) (fun _ => 0) (fun _ => 0) one16 (fun _ => 0) (fun _ => 0) (fun _ => 0) (fun _ => 0) (fun _ => 0) (fun _ => 0) (fun _ => 0) (fun _ => 0) := by
  have b0 : bd 10000000 (0 : Int64) := ⟨by decide, by decide⟩
  have b1 : bd 0 (0 : Int64) := ⟨by decide, by decide⟩
  refine ⟨⟨nR_1 v, nR_24 v, Nat.le_refl _, Nat.zero_le _, by omega⟩, Or.inl rfl, by decide, ⟨fun j hj => Or.inr ⟨if_pos hj, rfl⟩, by decide +kernel⟩, fun i _ => ⟨rfl, rfl, b0, b0⟩, fun k _ => ⟨by show (0 : Int) ≤ (0 : Int32).toInt; decide, by show (0 : Int32).toInt ≤ 200; decide⟩, fun i hi => absurd hi (Nat.not_lt_zero _), fun i hi => ?_, fun i hi => ?_, fun k _ => rfl⟩
  · rw [Nat.le_zero.mp hi]; exact ⟨rfl, rfl, rfl, rfl⟩
  · rw [Nat.le_zero.mp hi]; exact ⟨bd_w b1 (by omega), bd_w b1 (by omega), bd_w b1 (by omega), bd_w b1 (by omega)⟩
theorem blindC {av : List Value} {b L : Nat} {xs : Nat → Int32} : FrameBlind (PcC av b L xs) := by
  intro a U g mk h
  obtain ⟨h1, h2, h3⟩ := h
  exact ⟨h1, va_X.moved (u := U) (U := U.calling g mk a) (Vm.Alike.refl U.vm) h2, h3⟩
section ROWS
variable {p : Program} {l : Launch} {e : Env} {R : Room} {s : State} {m : MethodId} {args : Array Value} {below : List Frame} {meth : Method} {c : Code} {H : Heap} {locs : List Loc} {cells slots : Nat} {Q : State → Prop} {pc : Nat} {ls : Array Slot} {A : Nat → Prop}
theorem rd_cell {b L nL : Nat} {xs : Nat → Int32} {cc : ByteArray} {rest : List Value} (hL : L ≤ 2049) (ht : tb_OK s) (hR : 20 * 1 + 1 ≤ R.frames ∧ 8 + (2 + 11) + 400 * 1 ≤ R.locals) (hx : p.tables.exec = Jvm.exec) (hb : c.code = cc) (hml : c.maxLocals = nL) (hown : s.vm.findClass RL = some m.cls) (hX : va_X b L xs s s.heap) (hbl : b < s.heap.size) (hbA : ¬ A b) (hS : va_S A s.heap H locs) (hsz : ls.size = nL) (hrm : (rest.map fun v => v.category).sum ≤ 8) (hc : cells ≤ R.cells ∧ slots ≤ R.slots) (hdg : decode cc pc = .ok (.invokestatic 34, 3)) (kk : W p l e R s m args below meth c H locs cells slots Q (F0 m (pc + 3) ls (.int (if 0 < L then xs 0 else 0) :: rest))) : W p l e R s m args below meth c H locs cells slots Q (F0 m pc ls (.int 0 :: .ref b :: rest)) :=
  crd2 (va_runS (As := [.ref b, .int 0]) (rest := rest) ⟨hx, hb, hml, hown, fun _ h => absurd h List.not_mem_nil⟩ (k_L_cell l (b := b) (xs := xs) hL) (si_L_34 ht hR) ⟨blindC, fun U hU hW => ⟨rfl, by rw [hU]; exact va_X.moved hW.alike (hX.kept (hS.2.1 b hbl hbA)), by rw [hU]; exact Nat.lt_of_lt_of_le hbl hS.1⟩⟩ rfl rfl hsz rfl (lv_room hrm) hdg hc) kk
end ROWS
set_option maxRecDepth 20000 in
set_option maxHeartbeats 4000000 in
theorem whole_start {p : Program} {e : Env} {s : State} {m : MethodId} {below : List Frame} {meth : Method} {c : Code} (l : Launch) (hnt : ∀ e : Env, l.admits e → e.platform.stackTraces = false) {b L : Nat} {xs : Nat → Int32} (hL : L ≤ 2049) (C0 : lw_At p s m meth c b L xs) : W p l e room_1 s m #[Value.ref b] below meth c s.heap [] 0 0 (lw_Z below #[Value.ref b] s) (entryFrame m ([Value.ref b] : List Value).toArray 8) := by
  have hE := start_ev C0
  obtain ⟨hx, hb, hr, hml, hown, hts, hX, hbl, hlocks, hgv⟩ := C0
  have hb : c.code = cL_law := hb
  have hown : s.vm.findClass RL = some m.cls := hown
  have ht : tb_OK s := hE.1
  obtain ⟨D, cI, cJ, cZ, hK⟩ := start_K ht
  obtain ⟨A, hAe⟩ : ∃ A : Nat → Prop, A = fun q : Nat => s.heap.size ≤ q := ⟨_, rfl⟩
  rw [← hAe] at hE
  have hA : ∀ q : Nat, s.heap.size ≤ q → A q := fun q h => by rw [hAe]; exact h
  have hA2 : ∀ q : Nat, A q → s.heap.size ≤ q := fun q h => by rw [hAe] at h; exact h
  have hbA : ¬ A b := fun h => Nat.not_le.mpr hbl (hA2 b h)
  have hC : LX p s m c b L xs D cI cJ cZ A := ⟨hx, hb, hml, hown, hX, hbl, hbA, hE, hK, hA, hL⟩
  have hS : va_S A s.heap s.heap [] := va_S.rf
  have hP : va_P D vwCl [] s.heap := pNil
  have hD : va_D A [] := ⟨fun i j p q h => by simp at h, fun k q h => by simp at h⟩
  have hl := lv_entry ([.ref b]) (n := 8) (Nat.le_of_ble_eq_true rfl)
  rw [lg_entry_eq]
  generalize (lg_sl ([.ref b]) ++ List.replicate (8 - (lg_sl ([.ref b])).length) Slot.unset).toArray = ls at hl ⊢
  have hl : lv_has ls 8 [(0, .ref b)] := hl
  refine va_new (ci := 4) (fs := [.null, .null, .null, .int 0, .int 0, .int 0, .int 0]) (C := RX3) (T := TX3) (N := 7) hx hb (lyX3 ht) (fun _ h9 => h9) tyX3 tyX3_ok hown (cl_L_8 ht) (in_X3 ht) (ini_X3 ht) hK hP hD hS hA rfl (fun j hj => by rcases (show j = 0 ∨ j = 1 ∨ j = 2 ∨ j = 3 ∨ j = 4 ∨ j = 5 ∨ j = 6 by omega) with rfl | rfl | rfl | rfl | rfl | rfl | rfl <;> rfl) (Nat.le_of_ble_eq_true rfl) (Nat.le_of_ble_eq_true rfl) dL_law_0 (fun q0 H hP hD hS => ?_)
  have hP : va_P D vwCl [(q0, .inr (4, [.null, .null, .null, .int 0, .int 0, .int 0, .int 0]))] H := hP
  have hD : va_D A [(q0, .inr (4, [.null, .null, .null, .int 0, .int 0, .int 0, .int 0]))] := hD
  refine lv_dup hx hb dL_law_3 rfl ?_
  refine lv_aload_n hx hb dL_law_4 rfl (lv_at hl 0 rfl) ?_
  refine lv_iconst (v := 0) hx hb dL_law_5 (by decide) ?_
  refine rd_cell hL ht ⟨Nat.le_of_ble_eq_true rfl, Nat.le_of_ble_eq_true rfl⟩ hx hb hml hown hX hbl hbA hS hl.1 (Nat.le_of_ble_eq_true rfl) ⟨Nat.le_of_ble_eq_true rfl, Nat.le_of_ble_eq_true rfl⟩ dL_law_6 ?_
  obtain ⟨vv, hvv⟩ : ∃ vv : Int32, vv = (if 0 < L then xs 0 else 0) := ⟨_, rfl⟩
  rw [← hvv]
  refine wrI (As := [.int vv]) (rest := [.ref q0]) (k_X3_init l D cI cJ cZ q0 vv) (si_L_40 ht ⟨Nat.le_of_ble_eq_true rfl, Nat.le_of_ble_eq_true rfl⟩) hx hb hml hown hE hP hK hD hS hA rfl hl.1 rfl (Nat.le_of_ble_eq_true rfl) ⟨Nat.le_of_ble_eq_true rfl, Nat.le_of_ble_eq_true rfl⟩ dL_law_9 (fun ov w' H2 locs2 hpost hP2 hD2 hS2 => ?_)
  obtain ⟨rfl, a, ha, rfl⟩ := hpost
  subst ha
  refine W.st (st1 := [.ref (a 0)]) rfl ?_
  refine lv_astore_n (lv' := [(1, .ref (a 0)), (0, .ref b)]) hx hb dL_law_12 rfl hl (by decide) rfl (fun ls hl => ?_)
  refine va_new (ci := 5) (fs := [.int 0, .int 0, .int 0, .int 0, .int 0, .int 0, .int 0, .null, .int 0, .null, .null, .null, .null, .null, .null, .null, .null, .null, .null, .int 0, .long 0, .int 0, .int 0]) (C := RX4) (T := TX4) (N := 23) hx hb (lyX4 ht) (fun _ h9 => h9) tyX4 tyX4_ok hown (cl_L_43 ht) (in_X4 ht) (ini_X4 ht) hK hP2 hD2 hS2 hA rfl (fun j hj => by rcases (show j = 0 ∨ j = 1 ∨ j = 2 ∨ j = 3 ∨ j = 4 ∨ j = 5 ∨ j = 6 ∨ j = 7 ∨ j = 8 ∨ j = 9 ∨ j = 10 ∨ j = 11 ∨ j = 12 ∨ j = 13 ∨ j = 14 ∨ j = 15 ∨ j = 16 ∨ j = 17 ∨ j = 18 ∨ j = 19 ∨ j = 20 ∨ j = 21 ∨ j = 22 by omega) with rfl | rfl | rfl | rfl | rfl | rfl | rfl | rfl | rfl | rfl | rfl | rfl | rfl | rfl | rfl | rfl | rfl | rfl | rfl | rfl | rfl | rfl | rfl <;> rfl) (Nat.le_of_ble_eq_true rfl) (Nat.le_of_ble_eq_true rfl) dL_law_13 (fun q1 H hP hD hS => ?_)
  have hP : va_P D vwCl (wI cI cJ cZ a (nR vv) 1 0 (-1) (-1) 0 16 16 (nI (nR vv)) 0 0 ((fun _ => 0)) ((fun _ => 0)) ((fun _ => 0)) ((fun _ => 0)) ((fun _ => 0)) ((fun _ => 0)) ((fun _ => 0)) ((fun _ => 0)) ((fun _ => 0)) ((fun _ => 0)) ((fun _ => 0)) ((fun _ => 0)) ++ [(q1, .inr (5, [.int 0, .int 0, .int 0, .int 0, .int 0, .int 0, .int 0, .null, .int 0, .null, .null, .null, .null, .null, .null, .null, .null, .null, .null, .int 0, .long 0, .int 0, .int 0]))]) H := hP
  have hD : va_D A (wI cI cJ cZ a (nR vv) 1 0 (-1) (-1) 0 16 16 (nI (nR vv)) 0 0 ((fun _ => 0)) ((fun _ => 0)) ((fun _ => 0)) ((fun _ => 0)) ((fun _ => 0)) ((fun _ => 0)) ((fun _ => 0)) ((fun _ => 0)) ((fun _ => 0)) ((fun _ => 0)) ((fun _ => 0)) ((fun _ => 0)) ++ [(q1, .inr (5, [.int 0, .int 0, .int 0, .int 0, .int 0, .int 0, .int 0, .null, .int 0, .null, .null, .null, .null, .null, .null, .null, .null, .null, .null, .int 0, .long 0, .int 0, .int 0]))]) := hD
  refine lv_dup hx hb dL_law_16 rfl ?_
  refine lv_aload_n hx hb dL_law_17 rfl (lv_at hl 1 rfl) ?_
  refine lv_iconst (v := 0) hx hb dL_law_18 (by decide) ?_
  refine rd_cell hL ht ⟨Nat.le_of_ble_eq_true rfl, Nat.le_of_ble_eq_true rfl⟩ hx hb hml hown hX hbl hbA hS hl.1 (Nat.le_of_ble_eq_true rfl) ⟨Nat.le_of_ble_eq_true rfl, Nat.le_of_ble_eq_true rfl⟩ dL_law_19 ?_
  rw [← hvv]
  refine wrI (As := [.int vv]) (rest := [.ref q1]) (WR.frame (w := wI cI cJ cZ a (nR vv) 1 0 (-1) (-1) 0 16 16 (nI (nR vv)) 0 0 ((fun _ => 0)) ((fun _ => 0)) ((fun _ => 0)) ((fun _ => 0)) ((fun _ => 0)) ((fun _ => 0)) ((fun _ => 0)) ((fun _ => 0)) ((fun _ => 0)) ((fun _ => 0)) ((fun _ => 0)) ((fun _ => 0)) ++ [(q1, .inr (5, [.int 0, .int 0, .int 0, .int 0, .int 0, .int 0, .int 0, .null, .int 0, .null, .null, .null, .null, .null, .null, .null, .null, .null, .null, .int 0, .long 0, .int 0, .int 0]))]) (wr := wI cI cJ cZ a (nR vv) 1 0 (-1) (-1) 0 16 16 (nI (nR vv)) 0 0 ((fun _ => 0)) ((fun _ => 0)) ((fun _ => 0)) ((fun _ => 0)) ((fun _ => 0)) ((fun _ => 0)) ((fun _ => 0)) ((fun _ => 0)) ((fun _ => 0)) ((fun _ => 0)) ((fun _ => 0)) ((fun _ => 0))) (k_X4_init l D cI cJ cZ q1 vv) [16] [0, 1, 2, 3, 4, 5, 6, 7, 8, 9, 10, 11, 12, 13, 14, 15] rfl rfl (by decide) (by decide) (by decide)) (si_L_45 ht ⟨Nat.le_of_ble_eq_true rfl, Nat.le_of_ble_eq_true rfl⟩) hx hb hml hown hE hP hK hD hS hA rfl hl.1 rfl (Nat.le_of_ble_eq_true rfl) ⟨Nat.le_of_ble_eq_true rfl, Nat.le_of_ble_eq_true rfl⟩ dL_law_22 (fun ov w' H4 locs4 hpost hP4 hD4 hS4 => ?_)
  obtain ⟨w1, ⟨rfl, am, ha, rfl⟩, rfl⟩ := hpost
  subst ha
  refine W.st (st1 := [.ref (am 0)]) rfl ?_
  refine lv_astore_n (lv' := [(2, .ref (am 0)), (1, .ref (a 0)), (0, .ref b)]) hx hb dL_law_25 rfl hl (by decide) rfl (fun ls hl => ?_)
  refine lv_iconst (v := 1) hx hb dL_law_26 (by decide) ?_
  refine nw_l hx hb ht hK hP4 hD4 hS4 hA (N' := 1) (by decide) (by decide) (by decide) (Nat.le_of_ble_eq_true rfl) (Nat.le_of_ble_eq_true rfl) dL_law_27 (fun ao H hP hD hS => ?_)
  refine lv_astore_n (lv' := [(3, .ref ao), (2, .ref (am 0)), (1, .ref (a 0)), (0, .ref b)]) hx hb dL_law_29 rfl hl (by decide) rfl (fun ls hl => ?_)
  refine lv_iconst (v := 1) hx hb dL_law_30 (by decide) ?_
  refine lv_istore (lv' := [(4, .int 1), (3, .ref ao), (2, .ref (am 0)), (1, .ref (a 0)), (0, .ref b)]) hx hb dL_law_31 hl (by decide) rfl (fun ls hl => ?_)
  have hP : va_P D vwCl (oC cJ ao (fun _ => 0) :: (wI cI cJ cZ a (nR vv) 1 0 (-1) (-1) 0 16 16 (nI (nR vv)) 0 0 ((fun _ => 0)) ((fun _ => 0)) ((fun _ => 0)) ((fun _ => 0)) ((fun _ => 0)) ((fun _ => 0)) ((fun _ => 0)) ((fun _ => 0)) ((fun _ => 0)) ((fun _ => 0)) ((fun _ => 0)) ((fun _ => 0)) ++ wM cI cJ cZ am 0 (nI (nR vv)) 0 0 0 16 1 0 0 0 0 0 one16 ((fun _ => 0)) ((fun _ => 0)) ((fun _ => 0)) ((fun _ => 0)) ((fun _ => 0)) ((fun _ => 0)) ((fun _ => 0)) ((fun _ => 0)) ((fun _ => 0)) ((fun _ => 0)))) H := fr_P (is := [28, 0, 1, 2, 3, 4, 5, 6, 7, 8, 9, 10, 11, 12, 13, 14, 15, 16, 17, 18, 19, 20, 21, 22, 23, 24, 25, 26, 27]) rfl hP
  have hD : va_D A (oC cJ ao (fun _ => 0) :: (wI cI cJ cZ a (nR vv) 1 0 (-1) (-1) 0 16 16 (nI (nR vv)) 0 0 ((fun _ => 0)) ((fun _ => 0)) ((fun _ => 0)) ((fun _ => 0)) ((fun _ => 0)) ((fun _ => 0)) ((fun _ => 0)) ((fun _ => 0)) ((fun _ => 0)) ((fun _ => 0)) ((fun _ => 0)) ((fun _ => 0)) ++ wM cI cJ cZ am 0 (nI (nR vv)) 0 0 0 16 1 0 0 0 0 0 one16 ((fun _ => 0)) ((fun _ => 0)) ((fun _ => 0)) ((fun _ => 0)) ((fun _ => 0)) ((fun _ => 0)) ((fun _ => 0)) ((fun _ => 0)) ((fun _ => 0)) ((fun _ => 0)))) := hD.sub [28, 0, 1, 2, 3, 4, 5, 6, 7, 8, 9, 10, 11, 12, 13, 14, 15, 16, 17, 18, 19, 20, 21, 22, 23, 24, 25, 26, 27] (by decide) rfl
  refine W.widen (k := 29 + 0) (n := 489 + 6 * 0) (Nat.le_of_ble_eq_true rfl) (Nat.le_of_ble_eq_true rfl) ?_
  refine law_loop l hnt hC hr hlocks hA2 (a := a) (am := am) (ao := ao) (n := nR vv) 601 0 (by omega) (by omega) _ H _ ls ?_ hP hD hS hl
  exact ⟨0, 0, 0, 1, 0, -1, -1, 16, 16, fun _ => 0, fun _ => 0, fun _ => 0, fun _ => 0, fun _ => 0, fun _ => 0, fun _ => 0, fun _ => 0, fun _ => 0, fun _ => 0, fun _ => 0, fun _ => 0, fun _ => 0, 0, 0, 0, 0, 0, one16, fun _ => 0, fun _ => 0, fun _ => 0, fun _ => 0, fun _ => 0, fun _ => 0, fun _ => 0, fun _ => 0, RE_0 vv, rfl⟩
