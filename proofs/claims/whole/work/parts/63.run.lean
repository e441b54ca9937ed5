theorem nt_0 {q p : Q4} (hq : q.1 = 0) (hp : p.1 = 0) (s : Int64) (k f : Int32) : nt q 1 s k f = nt p 1 s k f := by
  have e : ∀ q : Q4, q.1 = 0 → nt q 1 s k f = (1, s, k, f) := by
    intro q h
    obtain ⟨b, v, x1, y1⟩ := q
    have h : b = 0 := h
    subst h
    unfold nt f_X4_note_bl f_X4_note_bs f_X4_note_bk f_X4_note_be
    have h1 : (0 : Int32) < 1 := by decide
    simp only [if_pos h1]
  rw [e q hq, e p hp]
theorem stM_0 {two : Bool} {K : Nat} {tp al st cn : Nat → Int32} {ja : Int32} {bx cy bu bv lx ly lx2 ly2 : Int64} {q p : Q4} (hq : q.1 = 0) (hp : p.1 = 0) (i j : Nat) : stM two K tp al st cn ja bx cy bu bv lx ly lx2 ly2 i j q = stM two K tp al st cn ja bx cy bu bv lx ly lx2 ly2 i j p := by
  unfold stM
  rw [nt_0 hq hp]
theorem key_up {tP : Nat → Int32} {cr : Nat} {v : Int32} (h : ∀ i, i < cr → ¬ tP i = -1) (hv : ¬ v = -1) : ∀ i, i < cr + 1 → ¬ upd tP cr v i = -1 := by
  intro i hi
  by_cases e : i = cr
  · rw [e, pk_us]; exact hv
  · rw [pk_un e]; exact h i (by omega)
theorem po_q0 {two : Bool} {K : Nat} {tp al st cn : Nat → Int32} {ja tb : Int32} {bx cy bu bv lx ly lx2 ly2 : Int64} {q0 p0 : Q4} (h0 : q0.1 = 0) (h1 : p0.1 = 0) : ∀ m, poM two K tp al st cn ja tb bx cy bu bv lx ly lx2 ly2 q0 m = poM two K tp al st cn ja tb bx cy bu bv lx ly lx2 ly2 p0 m ∨ ((poM two K tp al st cn ja tb bx cy bu bv lx ly lx2 ly2 q0 m).1 = 0 ∧ (poM two K tp al st cn ja tb bx cy bu bv lx ly lx2 ly2 p0 m).1 = 0) := by
  intro m
  induction m with
  | zero => exact Or.inr ⟨h0, h1⟩
  | succ m ih =>
    unfold poM at ih ⊢
    unfold fo
    by_cases h : okM al st cn ja tb (m / 16) (m % 16) 0 = true
    · rw [if_pos h, if_pos h]
      rcases ih with e | ⟨e1, e2⟩
      · exact Or.inl (by rw [e])
      · exact Or.inl (stM_0 e1 e2 _ _)
    · rw [if_neg h, if_neg h]; exact ih
def chM (n K : Nat) (lk : Int32) (tp al st : Nat → Int32) (ja : Int32) (mx my : Nat → Int32) (c : Nat) (kd ky : Nat → Int32) (gx gy gu gv : Nat → Int64) : Q4 :=
  poM (decide (lk = 2 ∧ c + 1 < n)) K tp al st (fun k => cntK kd (nI k) c) ja (tbM c ky) (pb gx c) (pb gy c) (pb gu c) (pb gv c) (mx c).toInt64 (my c).toInt64 (mx (c + 1)).toInt64 (my (c + 1)).toInt64 (0, 0, 0, 0) (16 * K)
def plM (n K : Nat) (lk : Int32) (tp al st : Nat → Int32) (ja : Int32) (mx my : Nat → Int32) : Nat → Nat → (Nat → Int32) → (Nat → Int32) → (Nat → Int64) → (Nat → Int64) → (Nat → Int64) → (Nat → Int64) → Nat → (Nat → Int32) → (Nat → Int32) → (Nat → Int64) → (Nat → Int64) → (Nat → Int64) → (Nat → Int64) → Prop
  | 0, c, kd, ky, gx, gy, gu, gv, c', kd', ky', gx', gy', gu', gv' => c' = c ∧ kd' = kd ∧ ky' = ky ∧ gx' = gx ∧ gy' = gy ∧ gu' = gu ∧ gv' = gv
  | f + 1, c, kd, ky, gx, gy, gu, gv, c', kd', ky', gx', gy', gu', gv' =>
    if c < n ∧ ¬ (chM n K lk tp al st ja mx my c kd ky gx gy gu gv).1 = 0 then
      plM n K lk tp al st ja mx my f (c + 1) (upd kd c (chM n K lk tp al st ja mx my c kd ky gx gy gu gv).2.2.1) (upd ky c (chM n K lk tp al st ja mx my c kd ky gx gy gu gv).2.2.2)
        (vp_updL gx c (pX (pb gx c) (pb gu c) (tp (chM n K lk tp al st ja mx my c kd ky gx gy gu gv).2.2.1.toNatClampNeg) (chM n K lk tp al st ja mx my c kd ky gx gy gu gv).2.2.2))
        (vp_updL gy c (pY (pb gy c) (pb gv c) (tp (chM n K lk tp al st ja mx my c kd ky gx gy gu gv).2.2.1.toNatClampNeg) (chM n K lk tp al st ja mx my c kd ky gx gy gu gv).2.2.2))
        (vp_updL gu c (pU (pb gu c) (tp (chM n K lk tp al st ja mx my c kd ky gx gy gu gv).2.2.1.toNatClampNeg) (chM n K lk tp al st ja mx my c kd ky gx gy gu gv).2.2.2))
        (vp_updL gv c (pV (pb gv c) (tp (chM n K lk tp al st ja mx my c kd ky gx gy gu gv).2.2.1.toNatClampNeg) (chM n K lk tp al st ja mx my c kd ky gx gy gu gv).2.2.2))
        c' kd' ky' gx' gy' gu' gv'
    else c' = c ∧ kd' = kd ∧ ky' = ky ∧ gx' = gx ∧ gy' = gy ∧ gu' = gu ∧ gv' = gv
theorem chM_key {n K : Nat} {lk : Int32} {tp al st : Nat → Int32} {ja : Int32} {mx my : Nat → Int32} {c : Nat} {kd ky : Nat → Int32} {gx gy gu gv : Nat → Int64} (h : ¬ (chM n K lk tp al st ja mx my c kd ky gx gy gu gv).1 = 0) : ∃ k j, k < K ∧ j < 16 ∧ (chM n K lk tp al st ja mx my c kd ky gx gy gu gv).2.2.1 = nI k ∧ (chM n K lk tp al st ja mx my c kd ky gx gy gu gv).2.2.2 = nI j :=
  (gQ_po (K := K) (q0 := (0, 0, 0, 0)) (Or.inl rfl)).resolve_left h
theorem nI_nm1 {j : Nat} (h : j < 2 ^ 31) : ¬ nI j = -1 := fun e => by
  have e2 := congrArg Int32.toInt e
  rw [nI_toInt h] at e2
  have : (j : Int) = -1 := e2
  omega
set_option maxRecDepth 20000 in
set_option maxHeartbeats 4000000 in
theorem k_X4_run (l : Launch) (D : va_G) (cI cJ cZ : ClassId) (a : Nat → Nat) (fa rg bu pn pl ja lk nk bl : Int32) (bs : Int64) (bk be : Int32) (al tp st mx my kd ky : Nat → Int32) (gx gy gu gv : Nat → Int64)  (n B K : Nat) (eB : bu = nI B) (hBn : B ≤ n) (hn : n ≤ 24) (erg : rg = nI n) (eK : nk = nI K) (hK4 : K ≤ 4) (hja : ¬ ja = 0) (hky : ∀ i, i < B → ¬ ky i = -1) : WR l yX4_run cX4_run 2 (some .int) 5 0 0 D (tysW cI cJ cZ) (wM cI cJ cZ a fa rg bu pn pl ja lk nk bl bs bk be al tp st mx my kd ky gx gy gu gv) [.ref (a 0)] (fun ov w' => ∃ (S' : Nat) (kP tP : Nat → Int32) (xP yP uP vP : Nat → Int64) (bl' : Int32) (bs' : Int64) (bk' be' : Int32) (kd' ky' : Nat → Int32) (gx' gy' gu' gv' : Nat → Int64), plM n K lk tp al st ja mx my (n - B) B kd ky gx gy gu gv S' kP tP xP yP uP vP ∧ B ≤ S' ∧ S' ≤ n ∧ ov = some (.int (nI (S' - B))) ∧ w' = wM cI cJ cZ a 0 rg bu (nI (S' - B)) (pl + 1) ja lk nk bl' bs' bk' be' al tp st mx my kd' ky' gx' gy' gu' gv' ∧ agM S' kP tP xP yP uP vP kd' ky' gx' gy' gu' gv') := by
  refine WR.of (by decide) ?_
  intro p e s m below meth c A hadm hx hb hr hml hown hlocks hname hE hP hK hD hS hA hAe
  have hown : s.vm.findClass RX4 = some m.cls := hown
  have ht : tb_OK s := hE.1
  have hl := lv_entry ([.ref (a 0)]) (n := 2) (Nat.le_of_ble_eq_true rfl)
  rw [lg_entry_eq]
  generalize (lg_sl ([.ref (a 0)]) ++ List.replicate (2 - (lg_sl ([.ref (a 0)])).length) Slot.unset).toArray = ls at hl ⊢
  have hl : lv_has ls 2 [(0, .ref (a 0))] := hl
  refine lv_aload_n hx hb dX4_run_0 rfl (lv_at hl 0 rfl) ?_
  refine lv_iconst (v := 0) hx hb dX4_run_1 (by decide) ?_
  refine va_put (D := D) (ci := 5) (v := .int 0) (ty := .int) (C := RX4) (T := TX4) (N := 23) hx hb (lyX4 ht) (fun _ h9 => h9) tyX4 tyX4_ok nmX4 hown hK hP hD hS 0 rfl rfl 0 (by decide) (fl_X4_55 ht) (fun _ h9 => h9) rfl (by decide +kernel) rfl rfl (Nat.le_of_ble_eq_true rfl) dX4_run_2 (fun H locs hP hD hS => ?_)
  have hP : va_P D vwCl (wM cI cJ cZ a 0 rg bu pn pl ja lk nk bl bs bk be al tp st mx my kd ky gx gy gu gv) H := hP
  have hD : va_D A (wM cI cJ cZ a 0 rg bu pn pl ja lk nk bl bs bk be al tp st mx my kd ky gx gy gu gv) := hD
  refine lv_aload_n hx hb dX4_run_5 rfl (lv_at hl 0 rfl) ?_
  refine lv_dup hx hb dX4_run_6 rfl ?_
  refine va_get (D := D) (ci := 5) (v := .int pl) (C := RX4) (T := TX4) (N := 23) hx hb (lyX4 ht) (fun _ h9 => h9) hown hK hP 0 rfl rfl 4 (by decide) (fl_X4_131 ht) (fun _ h9 => h9) rfl dX4_run_7 ?_
  refine lv_iconst (v := 1) hx hb dX4_run_10 (by decide) ?_
  refine lv_iadd hx hb dX4_run_11 ?_
  refine va_put (D := D) (ci := 5) (v := .int (pl + 1)) (ty := .int) (C := RX4) (T := TX4) (N := 23) hx hb (lyX4 ht) (fun _ h9 => h9) tyX4 tyX4_ok nmX4 hown hK hP hD hS 0 rfl rfl 4 (by decide) (fl_X4_131 ht) (fun _ h9 => h9) rfl (by decide +kernel) rfl rfl (Nat.le_of_ble_eq_true rfl) dX4_run_12 (fun H locs hP hD hS => ?_)
  have hP : va_P D vwCl (wM cI cJ cZ a 0 rg bu pn (pl + 1) ja lk nk bl bs bk be al tp st mx my kd ky gx gy gu gv) H := hP
  have hD : va_D A (wM cI cJ cZ a 0 rg bu pn (pl + 1) ja lk nk bl bs bk be al tp st mx my kd ky gx gy gu gv) := hD
  refine lv_aload_n hx hb dX4_run_15 rfl (lv_at hl 0 rfl) ?_
  refine lv_iconst (v := 0) hx hb dX4_run_16 (by decide) ?_
  refine va_put (D := D) (ci := 5) (v := .int 0) (ty := .int) (C := RX4) (T := TX4) (N := 23) hx hb (lyX4 ht) (fun _ h9 => h9) tyX4 tyX4_ok nmX4 hown hK hP hD hS 0 rfl rfl 3 (by decide) (fl_X4_64 ht) (fun _ h9 => h9) rfl (by decide +kernel) rfl rfl (Nat.le_of_ble_eq_true rfl) dX4_run_17 (fun H locs hP hD hS => ?_)
  have hP : va_P D vwCl (wM cI cJ cZ a 0 rg bu 0 (pl + 1) ja lk nk bl bs bk be al tp st mx my kd ky gx gy gu gv) H := hP
  have hD : va_D A (wM cI cJ cZ a 0 rg bu 0 (pl + 1) ja lk nk bl bs bk be al tp st mx my kd ky gx gy gu gv) := hD
  refine lv_iconst (v := 1) hx hb dX4_run_20 (by decide) ?_
  refine lv_istore_n (lv' := [(1, .int 1), (0, .ref (a 0))]) hx hb dX4_run_21 rfl hl (by decide) rfl (fun ls hl => ?_)
  have lp : ∀ (N : Nat) (cr : Nat) (kP : Nat → Int32) (tP : Nat → Int32) (xP : Nat → Int64) (yP : Nat → Int64) (uP : Nat → Int64) (vP : Nat → Int64) (mu : Nat) (fd : Int32) (pn1 : Int32) (bl1 : Int32) (bs1 : Int64) (bk1 : Int32) (be1 : Int32) (kd1 : Nat → Int32) (ky1 : Nat → Int32) (gx1 : Nat → Int64) (gy1 : Nat → Int64) (gu1 : Nat → Int64) (gv1 : Nat → Int64), (fd = 0 ∨ fd = 1) → (B ≤ cr) → (cr ≤ n) → (pn1 = nI (cr - B)) → (∀ i, i < cr → ¬ tP i = -1) → (agM cr kP tP xP yP uP vP kd1 ky1 gx1 gy1 gu1 gv1) → (fd = 1 → ∀ c' k' t' x' y' u' v', plM n K lk tp al st ja mx my (n - cr) cr kP tP xP yP uP vP c' k' t' x' y' u' v' → plM n K lk tp al st ja mx my (n - B) B kd ky gx gy gu gv c' k' t' x' y' u' v') → (fd = 0 → plM n K lk tp al st ja mx my (n - B) B kd ky gx gy gu gv cr kP tP xP yP uP vP) → (fd = 1 → mu = n + 1 - cr) → mu < N → ∀ (H : Heap) (locs : List Loc), va_P D vwCl (wM cI cJ cZ a 0 rg bu pn1 (pl + 1) ja lk nk bl1 bs1 bk1 be1 al tp st mx my kd1 ky1 gx1 gy1 gu1 gv1) H → va_D A (wM cI cJ cZ a 0 rg bu pn1 (pl + 1) ja lk nk bl1 bs1 bk1 be1 al tp st mx my kd1 ky1 gx1 gy1 gu1 gv1) → va_S A s.heap H locs → ∀ (ls : Array Slot), lv_has ls 2 [(1, .int fd), (0, .ref (a 0))] → W p l e (rmD 5 0 0) s m ([.ref (a 0)] : List Value).toArray below meth c H locs 0 0 (MQ below (QcW D (wM cI cJ cZ a fa rg bu pn pl ja lk nk bl bs bk be al tp st mx my kd ky gx gy gu gv) s.heap.size (fun ov w' => ∃ (S' : Nat) (kP tP : Nat → Int32) (xP yP uP vP : Nat → Int64) (bl' : Int32) (bs' : Int64) (bk' be' : Int32) (kd' ky' : Nat → Int32) (gx' gy' gu' gv' : Nat → Int64), plM n K lk tp al st ja mx my (n - B) B kd ky gx gy gu gv S' kP tP xP yP uP vP ∧ B ≤ S' ∧ S' ≤ n ∧ ov = some (.int (nI (S' - B))) ∧ w' = wM cI cJ cZ a 0 rg bu (nI (S' - B)) (pl + 1) ja lk nk bl' bs' bk' be' al tp st mx my kd' ky' gx' gy' gu' gv' ∧ agM S' kP tP xP yP uP vP kd' ky' gx' gy' gu' gv')) ([.ref (a 0)] : List Value).toArray s 0 0 A) (F0 m 22 ls []) := by
    intro N
    induction N with
    | zero => intro cr kP tP xP yP uP vP mu fd pn1 bl1 bs1 bk1 be1 kd1 ky1 gx1 gy1 gu1 gv1 _ _ _ _ _ _ _ _ _ hN; exact absurd hN (Nat.not_lt_zero _)
    | succ N lp_ih =>
      intro cr kP tP xP yP uP vP mu fd pn1 bl1 bs1 bk1 be1 kd1 ky1 gx1 gy1 gu1 gv1 hfd hBc hcn_ epn hkey hag hon hdn hmu hN H locs hP hD hS ls hl
      refine lv_iload_n hx hb dX4_run_22 rfl (lv_at hl 0 rfl) ?_
      refine lv_if_eq (tgt := 58) hx hb dX4_run_23 (by decide) (fun c_1 => ?_) (fun c_1 => ?_)
      · skip
        refine lv_aload_n hx hb dX4_run_58 rfl (lv_at hl 1 rfl) ?_
        refine va_get (D := D) (ci := 5) (v := .int pn1) (C := RX4) (T := TX4) (N := 23) hx hb (lyX4 ht) (fun _ h9 => h9) hown hK hP 0 rfl rfl 3 (by decide) (fl_X4_64 ht) (fun _ h9 => h9) rfl dX4_run_59 ?_
        exact wr_i hx hb hr hlocks hAe hP hD hS dX4_run_62 (⟨cr, _, _, _, _, _, _, _, _, _, _, _, _, _, _, _, _, hdn c_1, hBc, hcn_, by rw [epn], by rw [epn], hag⟩)
      · skip
        have gSc : bu + pn1 = nI cr := by rw [eB, epn, nI_add]; congr 1; omega
        refine lv_aload_n hx hb dX4_run_26 rfl (lv_at hl 1 rfl) ?_
        refine va_get (D := D) (ci := 5) (v := .int bu) (C := RX4) (T := TX4) (N := 23) hx hb (lyX4 ht) (fun _ h9 => h9) hown hK hP 0 rfl rfl 2 (by decide) (fl_X4_61 ht) (fun _ h9 => h9) rfl dX4_run_27 ?_
        refine lv_aload_n hx hb dX4_run_30 rfl (lv_at hl 1 rfl) ?_
        refine va_get (D := D) (ci := 5) (v := .int pn1) (C := RX4) (T := TX4) (N := 23) hx hb (lyX4 ht) (fun _ h9 => h9) hown hK hP 0 rfl rfl 3 (by decide) (fl_X4_64 ht) (fun _ h9 => h9) rfl dX4_run_31 ?_
        refine lv_iadd hx hb dX4_run_34 ?_
        refine lv_aload_n hx hb dX4_run_35 rfl (lv_at hl 1 rfl) ?_
        refine va_get (D := D) (ci := 5) (v := .int rg) (C := RX4) (T := TX4) (N := 23) hx hb (lyX4 ht) (fun _ h9 => h9) hown hK hP 0 rfl rfl 1 (by decide) (fl_X4_52 ht) (fun _ h9 => h9) rfl dX4_run_36 ?_
        refine lv_icmp_ge (tgt := 53) hx hb dX4_run_39 (by decide) (fun c_2 => ?_) (fun c_2 => ?_)
        · skip
          refine lv_iconst (v := 0) hx hb dX4_run_53 (by decide) ?_
          have hf1 : fd = 1 := hfd.resolve_left c_1
          have hcont := hon hf1
          have hmu1 := hmu hf1
          have h9 := le_le c_2 erg gSc (by omega) (by omega)
          have hstop : plM n K lk tp al st ja mx my (n - cr) cr kP tP xP yP uP vP cr kP tP xP yP uP vP := by rw [show n - cr = 0 by omega]; exact ⟨rfl, rfl, rfl, rfl, rfl, rfl, rfl⟩
          refine lv_istore_n (lv' := [(1, .int 0), (0, .ref (a 0))]) hx hb dX4_run_54 rfl hl (by decide) rfl (fun ls hl => ?_)
          refine lv_goto (tgt := 22) hx hb dX4_run_55 (by decide) ?_
          exact lp_ih cr kP tP xP yP uP vP 0 0 pn1 bl1 bs1 bk1 be1 kd1 ky1 gx1 gy1 gu1 gv1 (Or.inl rfl) hBc hcn_ epn hkey hag (fun h => absurd h (by decide)) (fun _ => hcont _ _ _ _ _ _ _ hstop) (fun h => absurd h (by decide)) (by omega) _ _ hP hD hS ls (lv_sub hl [0, 1] rfl)
        · skip
          refine lv_aload_n hx hb dX4_run_42 rfl (lv_at hl 1 rfl) ?_
          have hf1 : fd = 1 := hfd.resolve_left c_1
          have hcont := hon hf1
          have hcn : cr < n := nle_lt c_2 erg gSc (by omega) (by omega)
          refine wrV (As := []) (rest := []) (k_X4_planOne l D cI cJ cZ a 0 rg bu pn1 (pl + 1) ja lk nk bl1 bs1 bk1 be1 al tp st mx my kd1 ky1 gx1 gy1 gu1 gv1 n cr K gSc hcn hn erg eK hK4 hja (fun h0 => by rw [hag.2.1 _ (by omega)]; exact hkey _ (by omega))) (si_X4_134 ht ⟨Nat.le_of_ble_eq_true rfl, Nat.le_of_ble_eq_true rfl⟩) hx hb hml hown (va_recv hK hP (ci := 5) (q0 := 0) rfl rfl) hE hP hK hD hS hA rfl hl.1 rfl (Nat.le_of_ble_eq_true rfl) ⟨Nat.zero_le _, Nat.zero_le _⟩ dX4_run_43 (fun ov w' H locs hpost hP hD hS => ?_)
          have ech : poM (decide (lk = 2 ∧ cr + 1 < n)) K tp al st (fun k => cntK kd1 (nI k) cr) ja (tbM cr ky1) (pb gx1 cr) (pb gy1 cr) (pb gu1 cr) (pb gv1 cr) (mx cr).toInt64 (my cr).toInt64 (mx (cr + 1)).toInt64 (my (cr + 1)).toInt64 (0, bs1, bk1, be1) (16 * K) = poM (decide (lk = 2 ∧ cr + 1 < n)) K tp al st (fun k => cntK kP (nI k) cr) ja (tbM cr tP) (pb xP cr) (pb yP cr) (pb uP cr) (pb vP cr) (mx cr).toInt64 (my cr).toInt64 (mx (cr + 1)).toInt64 (my (cr + 1)).toInt64 (0, bs1, bk1, be1) (16 * K) := by rw [show (fun k => cntK kd1 (nI k) cr) = (fun k => cntK kP (nI k) cr) from funext (fun k => cntK_ag cr hag.1), tbM_ag hag.2.1, pb_ag hag.2.2.1, pb_ag hag.2.2.2.1, pb_ag hag.2.2.2.2.1, pb_ag hag.2.2.2.2.2]
          have ech2 : poM (decide (lk = 2 ∧ cr + 1 < n)) K tp al st (fun k => cntK kP (nI k) cr) ja (tbM cr tP) (pb xP cr) (pb yP cr) (pb uP cr) (pb vP cr) (mx cr).toInt64 (my cr).toInt64 (mx (cr + 1)).toInt64 (my (cr + 1)).toInt64 (0, bs1, bk1, be1) (16 * K) = chM n K lk tp al st ja mx my cr kP tP xP yP uP vP ∨ ((poM (decide (lk = 2 ∧ cr + 1 < n)) K tp al st (fun k => cntK kP (nI k) cr) ja (tbM cr tP) (pb xP cr) (pb yP cr) (pb uP cr) (pb vP cr) (mx cr).toInt64 (my cr).toInt64 (mx (cr + 1)).toInt64 (my (cr + 1)).toInt64 (0, bs1, bk1, be1) (16 * K)).1 = 0 ∧ (chM n K lk tp al st ja mx my cr kP tP xP yP uP vP).1 = 0) := po_q0 rfl rfl _
          rw [ech] at hpost
          obtain ⟨kd3, ky3, gx3, gy3, gu3, gv3, hpost⟩ := hpost
          rcases hpost with ⟨hno, rfl, rfl, hag3⟩ | ⟨hno, rfl, rfl, hag3⟩
          · skip
            refine W.st (st1 := [.int 0]) rfl ?_
            have hP : va_P D vwCl (wM cI cJ cZ a 0 rg bu pn1 (pl + 1) ja lk nk ((poM (decide (lk = 2 ∧ cr + 1 < n)) K tp al st (fun k => cntK kP (nI k) cr) ja (tbM cr tP) (pb xP cr) (pb yP cr) (pb uP cr) (pb vP cr) (mx cr).toInt64 (my cr).toInt64 (mx (cr + 1)).toInt64 (my (cr + 1)).toInt64 (0, bs1, bk1, be1) (16 * K)).1) ((poM (decide (lk = 2 ∧ cr + 1 < n)) K tp al st (fun k => cntK kP (nI k) cr) ja (tbM cr tP) (pb xP cr) (pb yP cr) (pb uP cr) (pb vP cr) (mx cr).toInt64 (my cr).toInt64 (mx (cr + 1)).toInt64 (my (cr + 1)).toInt64 (0, bs1, bk1, be1) (16 * K)).2.1) ((poM (decide (lk = 2 ∧ cr + 1 < n)) K tp al st (fun k => cntK kP (nI k) cr) ja (tbM cr tP) (pb xP cr) (pb yP cr) (pb uP cr) (pb vP cr) (mx cr).toInt64 (my cr).toInt64 (mx (cr + 1)).toInt64 (my (cr + 1)).toInt64 (0, bs1, bk1, be1) (16 * K)).2.2.1) ((poM (decide (lk = 2 ∧ cr + 1 < n)) K tp al st (fun k => cntK kP (nI k) cr) ja (tbM cr tP) (pb xP cr) (pb yP cr) (pb uP cr) (pb vP cr) (mx cr).toInt64 (my cr).toInt64 (mx (cr + 1)).toInt64 (my (cr + 1)).toInt64 (0, bs1, bk1, be1) (16 * K)).2.2.2) al tp st mx my kd3 ky3 gx3 gy3 gu3 gv3) H := hP
            have hD : va_D A (wM cI cJ cZ a 0 rg bu pn1 (pl + 1) ja lk nk ((poM (decide (lk = 2 ∧ cr + 1 < n)) K tp al st (fun k => cntK kP (nI k) cr) ja (tbM cr tP) (pb xP cr) (pb yP cr) (pb uP cr) (pb vP cr) (mx cr).toInt64 (my cr).toInt64 (mx (cr + 1)).toInt64 (my (cr + 1)).toInt64 (0, bs1, bk1, be1) (16 * K)).1) ((poM (decide (lk = 2 ∧ cr + 1 < n)) K tp al st (fun k => cntK kP (nI k) cr) ja (tbM cr tP) (pb xP cr) (pb yP cr) (pb uP cr) (pb vP cr) (mx cr).toInt64 (my cr).toInt64 (mx (cr + 1)).toInt64 (my (cr + 1)).toInt64 (0, bs1, bk1, be1) (16 * K)).2.1) ((poM (decide (lk = 2 ∧ cr + 1 < n)) K tp al st (fun k => cntK kP (nI k) cr) ja (tbM cr tP) (pb xP cr) (pb yP cr) (pb uP cr) (pb vP cr) (mx cr).toInt64 (my cr).toInt64 (mx (cr + 1)).toInt64 (my (cr + 1)).toInt64 (0, bs1, bk1, be1) (16 * K)).2.2.1) ((poM (decide (lk = 2 ∧ cr + 1 < n)) K tp al st (fun k => cntK kP (nI k) cr) ja (tbM cr tP) (pb xP cr) (pb yP cr) (pb uP cr) (pb vP cr) (mx cr).toInt64 (my cr).toInt64 (mx (cr + 1)).toInt64 (my (cr + 1)).toInt64 (0, bs1, bk1, be1) (16 * K)).2.2.2) al tp st mx my kd3 ky3 gx3 gy3 gu3 gv3) := hD
            have hno2 : (chM n K lk tp al st ja mx my cr kP tP xP yP uP vP).1 = 0 := ech2.elim (fun e => by rw [← e]; exact hno) (fun e => e.2)
            refine lv_if_eq (tgt := 53) hx hb dX4_run_46 (by decide) (fun c_3 => ?_) (fun c_3 => absurd (by decide) c_3)
            refine lv_iconst (v := 0) hx hb dX4_run_53 (by decide) ?_
            have hmu1 := hmu hf1
            have hstop : plM n K lk tp al st ja mx my (n - cr) cr kP tP xP yP uP vP cr kP tP xP yP uP vP := by rw [show n - cr = (n - (cr + 1)) + 1 by omega]; unfold plM; rw [if_neg (fun h => h.2 hno2)]; exact ⟨rfl, rfl, rfl, rfl, rfl, rfl, rfl⟩
            refine lv_istore_n (lv' := [(1, .int 0), (0, .ref (a 0))]) hx hb dX4_run_54 rfl hl (by decide) rfl (fun ls hl => ?_)
            refine lv_goto (tgt := 22) hx hb dX4_run_55 (by decide) ?_
            exact lp_ih cr kP tP xP yP uP vP 0 0 pn1 ((poM (decide (lk = 2 ∧ cr + 1 < n)) K tp al st (fun k => cntK kP (nI k) cr) ja (tbM cr tP) (pb xP cr) (pb yP cr) (pb uP cr) (pb vP cr) (mx cr).toInt64 (my cr).toInt64 (mx (cr + 1)).toInt64 (my (cr + 1)).toInt64 (0, bs1, bk1, be1) (16 * K)).1) ((poM (decide (lk = 2 ∧ cr + 1 < n)) K tp al st (fun k => cntK kP (nI k) cr) ja (tbM cr tP) (pb xP cr) (pb yP cr) (pb uP cr) (pb vP cr) (mx cr).toInt64 (my cr).toInt64 (mx (cr + 1)).toInt64 (my (cr + 1)).toInt64 (0, bs1, bk1, be1) (16 * K)).2.1) ((poM (decide (lk = 2 ∧ cr + 1 < n)) K tp al st (fun k => cntK kP (nI k) cr) ja (tbM cr tP) (pb xP cr) (pb yP cr) (pb uP cr) (pb vP cr) (mx cr).toInt64 (my cr).toInt64 (mx (cr + 1)).toInt64 (my (cr + 1)).toInt64 (0, bs1, bk1, be1) (16 * K)).2.2.1) ((poM (decide (lk = 2 ∧ cr + 1 < n)) K tp al st (fun k => cntK kP (nI k) cr) ja (tbM cr tP) (pb xP cr) (pb yP cr) (pb uP cr) (pb vP cr) (mx cr).toInt64 (my cr).toInt64 (mx (cr + 1)).toInt64 (my (cr + 1)).toInt64 (0, bs1, bk1, be1) (16 * K)).2.2.2) kd3 ky3 gx3 gy3 gu3 gv3 (Or.inl rfl) hBc hcn_ epn hkey (agM.tr hag hag3) (fun h => absurd h (by decide)) (fun _ => hcont _ _ _ _ _ _ _ hstop) (fun h => absurd h (by decide)) (by omega) _ _ hP hD hS ls (lv_sub hl [0, 1] rfl)
          · skip
            refine W.st (st1 := [.int 1]) rfl ?_
            have hP : va_P D vwCl (wM cI cJ cZ a 0 rg bu (pn1 + 1) (pl + 1) ja lk nk ((poM (decide (lk = 2 ∧ cr + 1 < n)) K tp al st (fun k => cntK kP (nI k) cr) ja (tbM cr tP) (pb xP cr) (pb yP cr) (pb uP cr) (pb vP cr) (mx cr).toInt64 (my cr).toInt64 (mx (cr + 1)).toInt64 (my (cr + 1)).toInt64 (0, bs1, bk1, be1) (16 * K)).1) ((poM (decide (lk = 2 ∧ cr + 1 < n)) K tp al st (fun k => cntK kP (nI k) cr) ja (tbM cr tP) (pb xP cr) (pb yP cr) (pb uP cr) (pb vP cr) (mx cr).toInt64 (my cr).toInt64 (mx (cr + 1)).toInt64 (my (cr + 1)).toInt64 (0, bs1, bk1, be1) (16 * K)).2.1) ((poM (decide (lk = 2 ∧ cr + 1 < n)) K tp al st (fun k => cntK kP (nI k) cr) ja (tbM cr tP) (pb xP cr) (pb yP cr) (pb uP cr) (pb vP cr) (mx cr).toInt64 (my cr).toInt64 (mx (cr + 1)).toInt64 (my (cr + 1)).toInt64 (0, bs1, bk1, be1) (16 * K)).2.2.1) ((poM (decide (lk = 2 ∧ cr + 1 < n)) K tp al st (fun k => cntK kP (nI k) cr) ja (tbM cr tP) (pb xP cr) (pb yP cr) (pb uP cr) (pb vP cr) (mx cr).toInt64 (my cr).toInt64 (mx (cr + 1)).toInt64 (my (cr + 1)).toInt64 (0, bs1, bk1, be1) (16 * K)).2.2.2) al tp st mx my kd3 ky3 gx3 gy3 gu3 gv3) H := hP
            have hD : va_D A (wM cI cJ cZ a 0 rg bu (pn1 + 1) (pl + 1) ja lk nk ((poM (decide (lk = 2 ∧ cr + 1 < n)) K tp al st (fun k => cntK kP (nI k) cr) ja (tbM cr tP) (pb xP cr) (pb yP cr) (pb uP cr) (pb vP cr) (mx cr).toInt64 (my cr).toInt64 (mx (cr + 1)).toInt64 (my (cr + 1)).toInt64 (0, bs1, bk1, be1) (16 * K)).1) ((poM (decide (lk = 2 ∧ cr + 1 < n)) K tp al st (fun k => cntK kP (nI k) cr) ja (tbM cr tP) (pb xP cr) (pb yP cr) (pb uP cr) (pb vP cr) (mx cr).toInt64 (my cr).toInt64 (mx (cr + 1)).toInt64 (my (cr + 1)).toInt64 (0, bs1, bk1, be1) (16 * K)).2.1) ((poM (decide (lk = 2 ∧ cr + 1 < n)) K tp al st (fun k => cntK kP (nI k) cr) ja (tbM cr tP) (pb xP cr) (pb yP cr) (pb uP cr) (pb vP cr) (mx cr).toInt64 (my cr).toInt64 (mx (cr + 1)).toInt64 (my (cr + 1)).toInt64 (0, bs1, bk1, be1) (16 * K)).2.2.1) ((poM (decide (lk = 2 ∧ cr + 1 < n)) K tp al st (fun k => cntK kP (nI k) cr) ja (tbM cr tP) (pb xP cr) (pb yP cr) (pb uP cr) (pb vP cr) (mx cr).toInt64 (my cr).toInt64 (mx (cr + 1)).toInt64 (my (cr + 1)).toInt64 (0, bs1, bk1, be1) (16 * K)).2.2.2) al tp st mx my kd3 ky3 gx3 gy3 gu3 gv3) := hD
            have eq3 : poM (decide (lk = 2 ∧ cr + 1 < n)) K tp al st (fun k => cntK kP (nI k) cr) ja (tbM cr tP) (pb xP cr) (pb yP cr) (pb uP cr) (pb vP cr) (mx cr).toInt64 (my cr).toInt64 (mx (cr + 1)).toInt64 (my (cr + 1)).toInt64 (0, bs1, bk1, be1) (16 * K) = chM n K lk tp al st ja mx my cr kP tP xP yP uP vP := ech2.resolve_right (fun e => hno e.1)
            rw [eq3] at hno hag3
            refine lv_if_eq (tgt := 53) hx hb dX4_run_46 (by decide) (fun c_4 => absurd c_4 (by decide)) (fun c_4 => ?_)
            refine lv_iconst (v := 1) hx hb dX4_run_49 (by decide) ?_
            refine lv_goto (tgt := 54) hx hb dX4_run_50 (by decide) ?_
            have hmu1 := hmu hf1
            have hcont4 : ∀ c' k' t' x' y' u' v', plM n K lk tp al st ja mx my (n - (cr + 1)) (cr + 1) (upd kP cr (chM n K lk tp al st ja mx my cr kP tP xP yP uP vP).2.2.1) (upd tP cr (chM n K lk tp al st ja mx my cr kP tP xP yP uP vP).2.2.2) (vp_updL xP cr (pX (pb xP cr) (pb uP cr) (tp (chM n K lk tp al st ja mx my cr kP tP xP yP uP vP).2.2.1.toNatClampNeg) (chM n K lk tp al st ja mx my cr kP tP xP yP uP vP).2.2.2)) (vp_updL yP cr (pY (pb yP cr) (pb vP cr) (tp (chM n K lk tp al st ja mx my cr kP tP xP yP uP vP).2.2.1.toNatClampNeg) (chM n K lk tp al st ja mx my cr kP tP xP yP uP vP).2.2.2)) (vp_updL uP cr (pU (pb uP cr) (tp (chM n K lk tp al st ja mx my cr kP tP xP yP uP vP).2.2.1.toNatClampNeg) (chM n K lk tp al st ja mx my cr kP tP xP yP uP vP).2.2.2)) (vp_updL vP cr (pV (pb vP cr) (tp (chM n K lk tp al st ja mx my cr kP tP xP yP uP vP).2.2.1.toNatClampNeg) (chM n K lk tp al st ja mx my cr kP tP xP yP uP vP).2.2.2)) c' k' t' x' y' u' v' → plM n K lk tp al st ja mx my (n - B) B kd ky gx gy gu gv c' k' t' x' y' u' v' := fun c' k' t' x' y' u' v' h => hcont _ _ _ _ _ _ _ (by rw [show n - cr = (n - (cr + 1)) + 1 by omega]; unfold plM; rw [if_pos ⟨hcn, hno⟩]; exact h)
            have hag4 : agM (cr + 1) (upd kP cr (chM n K lk tp al st ja mx my cr kP tP xP yP uP vP).2.2.1) (upd tP cr (chM n K lk tp al st ja mx my cr kP tP xP yP uP vP).2.2.2) (vp_updL xP cr (pX (pb xP cr) (pb uP cr) (tp (chM n K lk tp al st ja mx my cr kP tP xP yP uP vP).2.2.1.toNatClampNeg) (chM n K lk tp al st ja mx my cr kP tP xP yP uP vP).2.2.2)) (vp_updL yP cr (pY (pb yP cr) (pb vP cr) (tp (chM n K lk tp al st ja mx my cr kP tP xP yP uP vP).2.2.1.toNatClampNeg) (chM n K lk tp al st ja mx my cr kP tP xP yP uP vP).2.2.2)) (vp_updL uP cr (pU (pb uP cr) (tp (chM n K lk tp al st ja mx my cr kP tP xP yP uP vP).2.2.1.toNatClampNeg) (chM n K lk tp al st ja mx my cr kP tP xP yP uP vP).2.2.2)) (vp_updL vP cr (pV (pb vP cr) (tp (chM n K lk tp al st ja mx my cr kP tP xP yP uP vP).2.2.1.toNatClampNeg) (chM n K lk tp al st ja mx my cr kP tP xP yP uP vP).2.2.2)) kd3 ky3 gx3 gy3 gu3 gv3 := by rw [← set_kd rfl (by omega), ← set_ky rfl (by omega), ← set_gx rfl (by omega), ← set_gy rfl (by omega), ← set_gu rfl (by omega), ← set_gv rfl (by omega)]; exact agM.tr (agM_set2 rfl (by omega) hag) hag3
            have hkey4 : ∀ i, i < cr + 1 → ¬ (upd tP cr (chM n K lk tp al st ja mx my cr kP tP xP yP uP vP).2.2.2) i = -1 := key_up hkey (by obtain ⟨kk, jj, _, hj, _, ej⟩ := chM_key hno; rw [ej]; exact nI_nm1 (by omega))
            refine lv_istore_n (lv' := [(1, .int 1), (0, .ref (a 0))]) hx hb dX4_run_54 rfl hl (by decide) rfl (fun ls hl => ?_)
            refine lv_goto (tgt := 22) hx hb dX4_run_55 (by decide) ?_
            exact lp_ih (cr + 1) (upd kP cr (chM n K lk tp al st ja mx my cr kP tP xP yP uP vP).2.2.1) (upd tP cr (chM n K lk tp al st ja mx my cr kP tP xP yP uP vP).2.2.2) (vp_updL xP cr (pX (pb xP cr) (pb uP cr) (tp (chM n K lk tp al st ja mx my cr kP tP xP yP uP vP).2.2.1.toNatClampNeg) (chM n K lk tp al st ja mx my cr kP tP xP yP uP vP).2.2.2)) (vp_updL yP cr (pY (pb yP cr) (pb vP cr) (tp (chM n K lk tp al st ja mx my cr kP tP xP yP uP vP).2.2.1.toNatClampNeg) (chM n K lk tp al st ja mx my cr kP tP xP yP uP vP).2.2.2)) (vp_updL uP cr (pU (pb uP cr) (tp (chM n K lk tp al st ja mx my cr kP tP xP yP uP vP).2.2.1.toNatClampNeg) (chM n K lk tp al st ja mx my cr kP tP xP yP uP vP).2.2.2)) (vp_updL vP cr (pV (pb vP cr) (tp (chM n K lk tp al st ja mx my cr kP tP xP yP uP vP).2.2.1.toNatClampNeg) (chM n K lk tp al st ja mx my cr kP tP xP yP uP vP).2.2.2)) (n + 1 - (cr + 1)) 1 (pn1 + 1) ((poM (decide (lk = 2 ∧ cr + 1 < n)) K tp al st (fun k => cntK kP (nI k) cr) ja (tbM cr tP) (pb xP cr) (pb yP cr) (pb uP cr) (pb vP cr) (mx cr).toInt64 (my cr).toInt64 (mx (cr + 1)).toInt64 (my (cr + 1)).toInt64 (0, bs1, bk1, be1) (16 * K)).1) ((poM (decide (lk = 2 ∧ cr + 1 < n)) K tp al st (fun k => cntK kP (nI k) cr) ja (tbM cr tP) (pb xP cr) (pb yP cr) (pb uP cr) (pb vP cr) (mx cr).toInt64 (my cr).toInt64 (mx (cr + 1)).toInt64 (my (cr + 1)).toInt64 (0, bs1, bk1, be1) (16 * K)).2.1) ((poM (decide (lk = 2 ∧ cr + 1 < n)) K tp al st (fun k => cntK kP (nI k) cr) ja (tbM cr tP) (pb xP cr) (pb yP cr) (pb uP cr) (pb vP cr) (mx cr).toInt64 (my cr).toInt64 (mx (cr + 1)).toInt64 (my (cr + 1)).toInt64 (0, bs1, bk1, be1) (16 * K)).2.2.1) ((poM (decide (lk = 2 ∧ cr + 1 < n)) K tp al st (fun k => cntK kP (nI k) cr) ja (tbM cr tP) (pb xP cr) (pb yP cr) (pb uP cr) (pb vP cr) (mx cr).toInt64 (my cr).toInt64 (mx (cr + 1)).toInt64 (my (cr + 1)).toInt64 (0, bs1, bk1, be1) (16 * K)).2.2.2) kd3 ky3 gx3 gy3 gu3 gv3 (Or.inr rfl) (by omega) (by omega) (by rw [epn, nI_1]; congr 1; omega) hkey4 hag4 (fun _ => hcont4) (fun h => absurd h (by decide)) (fun _ => rfl) (by omega) _ _ hP hD hS ls (lv_sub hl [0, 1] rfl)
  exact lp _ B kd ky gx gy gu gv (n + 1 - B) 1 0 bl bs bk be kd ky gx gy gu gv (Or.inr rfl) (Nat.le_refl _) hBn (by rw [Nat.sub_self]; rfl) hky agM.rf (fun _ _ _ _ _ _ _ _ h => h) (fun h => absurd h (by decide)) (fun _ => rfl) (Nat.lt_succ_self _) _ _ hP hD hS ls (lv_sub hl [0, 1] rfl)
