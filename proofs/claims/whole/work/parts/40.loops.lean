/-! LOOPS: pure words -/
theorem nle_lt {x y : Int32} {a b : Nat} (h : ¬ x ≤ y) (hx : x = nI a) (hy : y = nI b) (ha : a < 2 ^ 31) (hb : b < 2 ^ 31) : b < a := by
  rw [hx, hy, nI_leI ha hb] at h; omega
theorem le_le {x y : Int32} {a b : Nat} (h : x ≤ y) (hx : x = nI a) (hy : y = nI b) (ha : a < 2 ^ 31) (hb : b < 2 ^ 31) : a ≤ b := by
  rw [hx, hy, nI_leI ha hb] at h; exact h
theorem in_of {z : Int32} {i N : Nat} (hz : z = nI i) (h : i < N) (hN : N < 2 ^ 31) : vp_in z N := by rw [hz]; exact vp_in_nI h hN
theorem cl_of {z : Int32} {i : Nat} (hz : z = nI i) (h : i < 2 ^ 31) : z.toNatClampNeg = i := by rw [hz]; exact nI_clamp h
theorem nI_s {z : Int32} {i : Nat} (hz : z = nI i) : z + 1 = nI (i + 1) := by rw [hz]; exact nI_1 i
/-- how many of the first i hold k -/
def cntK (f : Nat → Int32) (k : Int32) : Nat → Int32
  | 0 => 0
  | i + 1 => if f i = k then cntK f k i + 1 else cntK f k i
/-- the n-th place of k from i on, j places long -/
def lstK (f : Nat → Int32) (k n : Int32) : Nat → Nat → Int32 → Int32
  | 0, _, _ => -1
  | j + 1, i, q => if f i = k then (if q = n then nI i else lstK f k n j (i + 1) (q + 1)) else lstK f k n j (i + 1) q
/-- how many of the first i aren't 0 -/
def cntZ (f : Nat → Int32) : Nat → Int32
  | 0 => 0
  | i + 1 => if f i = 0 then cntZ f i else cntZ f i + 1
def sumF (f : Nat → Int64) : Nat → Int64
  | 0 => 0
  | i + 1 => sumF f i + f i
/-- v is added from lo on, ahead of hi -/
def shF (f : Nat → Int64) (v : Int64) (lo hi : Nat) : Nat → Int64 := fun j => if lo ≤ j ∧ j < hi then f j + v else f j
theorem shF_0 (f : Nat → Int64) (v : Int64) (lo : Nat) : f = shF f v lo lo := by
  funext j; unfold shF; rw [if_neg (by omega)]
theorem shF_s (f : Nat → Int64) (v : Int64) (lo i : Nat) (h : lo ≤ i) : vp_updL (shF f v lo i) i (shF f v lo i i + v) = shF f v lo (i + 1) := by
  funext j
  unfold vp_updL shF
  by_cases hj : j = i
  · subst hj; rw [if_pos rfl, if_neg (by omega), if_pos (by omega)]
  · rw [if_neg hj]
    by_cases h2 : lo ≤ j ∧ j < i
    · rw [if_pos h2, if_pos (by omega)]
    · rw [if_neg h2, if_neg (by omega)]
theorem nI_off {z : Int32} {i : Nat} (hz : z = nI i) : z = nI i := hz
set_option maxRecDepth 20000 in
set_option maxHeartbeats 4000000 in
theorem k_X4_usedOf (l : Launch) (D : va_G) (cI cJ cZ : ClassId) (a : Nat → Nat) (fa rg bu pn pl ja lk nk bl : Int32) (bs : Int64) (bk be : Int32) (al tp st mx my kd ky : Nat → Int32) (gx gy gu gv : Nat → Int64) (k : Int32) (S : Nat) (hS : bu + pn = nI S) (h24 : S ≤ 24) : RD l yX4_usedOf cX4_usedOf 4 (some .int) 0 D (tysW cI cJ cZ) (wM cI cJ cZ a fa rg bu pn pl ja lk nk bl bs bk be al tp st mx my kd ky gx gy gu gv) [.ref (a 0), .int k] (some (.int (cntK kd k S))) := by
  refine RD.of (by decide) ?_
  intro p e s m below meth c hx hb hr hml hown hlocks hE hP hK
  have hown : s.vm.findClass RX4 = some m.cls := hown
  have ht : tb_OK s := hE.1
  have hl := lv_entry ([.ref (a 0), .int k]) (n := 4) (Nat.le_of_ble_eq_true rfl)
  rw [lg_entry_eq]
  generalize (lg_sl ([.ref (a 0), .int k]) ++ List.replicate (4 - (lg_sl ([.ref (a 0), .int k])).length) Slot.unset).toArray = ls at hl ⊢
  have hl : lv_has ls 4 [(0, .ref (a 0)), (1, .int k)] := hl
  refine lv_iconst (v := 0) hx hb dX4_usedOf_0 (by decide) ?_
  refine lv_istore_n (lv' := [(2, .int 0), (0, .ref (a 0)), (1, .int k)]) hx hb dX4_usedOf_1 rfl hl (by decide) rfl (fun ls hl => ?_)
  refine lv_iconst (v := 0) hx hb dX4_usedOf_2 (by decide) ?_
  refine lv_istore_n (lv' := [(3, .int 0), (2, .int 0), (0, .ref (a 0)), (1, .int k)]) hx hb dX4_usedOf_3 rfl hl (by decide) rfl (fun ls hl => ?_)
  have lp : ∀ (N : Nat) (i : Nat) (q : Int32) (z : Int32) , (z = nI i) → (i ≤ S) → (q = cntK kd k i) → S - i < N → ∀ (ls : Array Slot), lv_has ls 4 [(3, .int z), (2, .int q), (0, .ref (a 0)), (1, .int k)] → W p l e (rmD 0 0 0) s m ([.ref (a 0), .int k] : List Value).toArray below meth c s.heap [] 0 0 (MQ below (QcR (some (.int (cntK kd k S)))) ([.ref (a 0), .int k] : List Value).toArray s 0 0 (fun _ => False)) (F0 m 4 ls []) := by
    intro N
    induction N with
    | zero => intro i q z _ _ _ hN; exact absurd hN (Nat.not_lt_zero _)
    | succ N lp_ih =>
      intro i q z hz hi hq hN ls hl
      refine lv_iload_n hx hb dX4_usedOf_4 rfl (lv_at hl 0 rfl) ?_
      refine lv_aload_n hx hb dX4_usedOf_5 rfl (lv_at hl 2 rfl) ?_
      refine va_get (D := D) (ci := 5) (v := .int bu) (C := RX4) (T := TX4) (N := 23) hx hb (lyX4 ht) (fun _ h9 => h9) hown hK hP 0 rfl rfl 2 (by decide) (fl_X4_61 ht) (fun _ h9 => h9) rfl dX4_usedOf_6 ?_
      refine lv_aload_n hx hb dX4_usedOf_9 rfl (lv_at hl 2 rfl) ?_
      refine va_get (D := D) (ci := 5) (v := .int pn) (C := RX4) (T := TX4) (N := 23) hx hb (lyX4 ht) (fun _ h9 => h9) hown hK hP 0 rfl rfl 3 (by decide) (fl_X4_64 ht) (fun _ h9 => h9) rfl dX4_usedOf_10 ?_
      refine lv_iadd hx hb dX4_usedOf_13 ?_
      refine lv_icmp_ge (tgt := 41) hx hb dX4_usedOf_14 (by decide) (fun c_1 => ?_) (fun c_1 => ?_)
      · skip
        refine lv_iload_n hx hb dX4_usedOf_41 rfl (lv_at hl 1 rfl) ?_
        exact rd_i hx hb hr hlocks dX4_usedOf_42 (by have h9 := le_le c_1 hS hz (by omega) (by omega); rw [hq, show i = S by omega])
      · skip
        refine lv_aload_n hx hb dX4_usedOf_17 rfl (lv_at hl 2 rfl) ?_
        refine va_get (D := D) (ci := 5) (v := .ref (a 6)) (C := RX4) (T := TX4) (N := 23) hx hb (lyX4 ht) (fun _ h9 => h9) hown hK hP 0 rfl rfl 13 (by decide) (fl_X4_33 ht) (fun _ h9 => h9) rfl dX4_usedOf_18 ?_
        refine lv_iload_n hx hb dX4_usedOf_21 rfl (lv_at hl 0 rfl) ?_
        refine va_iald hx hb hK hP 6 0 rfl rfl (in_of hz (by have := (nle_lt c_1 hS hz (by omega) (by omega)); omega : i < 24) (by decide)) dX4_usedOf_22 ?_
        refine lv_iload_n hx hb dX4_usedOf_23 rfl (lv_at hl 3 rfl) ?_
        refine lv_icmp_ne (tgt := 33) hx hb dX4_usedOf_24 (by decide) (fun c_2 => ?_) (fun c_2 => ?_)
        · skip
          refine lv_iload_n hx hb dX4_usedOf_33 rfl (lv_at hl 1 rfl) ?_
          refine lv_istore_n (lv' := [(2, .int q), (3, .int z), (0, .ref (a 0)), (1, .int k)]) hx hb dX4_usedOf_34 rfl hl (by decide) rfl (fun ls hl => ?_)
          have h8 := (nle_lt c_1 hS hz (by omega) (by omega))
          refine lv_iinc (v := z + 1) (lv' := [(3, .int (z + 1)), (2, .int q), (0, .ref (a 0)), (1, .int k)]) hx hb dX4_usedOf_35 hl (k := 1) rfl rfl (by decide) rfl (fun ls hl => ?_)
          refine lv_goto (tgt := 4) hx hb dX4_usedOf_38 (by decide) ?_
          exact lp_ih (i + 1) q (z + 1) (nI_s hz) (by have := (nle_lt c_1 hS hz (by omega) (by omega)); omega) (by have h9 := cl_of hz (by omega); rw [hq]; simp only [cntK]; rw [← h9, if_neg c_2]) (by omega) ls (lv_sub hl [0, 1, 2, 3] rfl)
        · skip
          refine lv_iload_n hx hb dX4_usedOf_27 rfl (lv_at hl 1 rfl) ?_
          refine lv_iconst (v := 1) hx hb dX4_usedOf_28 (by decide) ?_
          refine lv_iadd hx hb dX4_usedOf_29 ?_
          refine lv_goto (tgt := 34) hx hb dX4_usedOf_30 (by decide) ?_
          refine lv_istore_n (lv' := [(2, .int (q + 1)), (3, .int z), (0, .ref (a 0)), (1, .int k)]) hx hb dX4_usedOf_34 rfl hl (by decide) rfl (fun ls hl => ?_)
          have h8 := (nle_lt c_1 hS hz (by omega) (by omega))
          refine lv_iinc (v := z + 1) (lv' := [(3, .int (z + 1)), (2, .int (q + 1)), (0, .ref (a 0)), (1, .int k)]) hx hb dX4_usedOf_35 hl (k := 1) rfl rfl (by decide) rfl (fun ls hl => ?_)
          refine lv_goto (tgt := 4) hx hb dX4_usedOf_38 (by decide) ?_
          exact lp_ih (i + 1) (q + 1) (z + 1) (nI_s hz) (by have := (nle_lt c_1 hS hz (by omega) (by omega)); omega) (by have h9 := cl_of hz (by omega); rw [hq]; simp only [cntK]; rw [← h9, if_pos c_2]) (by omega) ls (lv_sub hl [0, 1, 2, 3] rfl)
  exact lp _ 0 0 0 rfl (Nat.zero_le _) rfl (Nat.lt_succ_self _) ls (lv_sub hl [0, 1, 2, 3] rfl)
