/-! PLANNING in the reference: pure words -/
theorem cEq (k : Int32) : f_X4_c k = f_X0_c k := by
  unfold f_X4_c f_X0_c
  obtain ⟨j, hj, e⟩ := pk_andE k (m := 15) 4 (by decide)
  rw [e]
  have h16 : j = 0 ∨ j = 1 ∨ j = 2 ∨ j = 3 ∨ j = 4 ∨ j = 5 ∨ j = 6 ∨ j = 7 ∨ j = 8 ∨ j = 9 ∨ j = 10 ∨ j = 11 ∨ j = 12 ∨ j = 13 ∨ j = 14 ∨ j = 15 := by omega
  rcases h16 with rfl | rfl | rfl | rfl | rfl | rfl | rfl | rfl | rfl | rfl | rfl | rfl | rfl | rfl | rfl | rfl <;> decide +kernel
theorem sEq (k : Int32) : f_X4_c (k - 4) = f_X0_s k := by
  rw [cEq]; rfl
/-- what stands before ring rn -/
def pb (f : Nat → Int64) (rn : Nat) : Int64 := if rn = 0 then 0 else f (rn - 1)
theorem pb_s (f : Nat → Int64) (rn : Nat) : pb f (rn + 1) = f rn := by unfold pb; rw [if_neg (by omega)]; rfl
section SET
variable {r : Int32} {rn : Nat} {k z : Int32} {tp kd ky : Nat → Int32} {gx gy gu gv : Nat → Int64}
theorem set_kd (er : r = nI rn) (h : rn < 2 ^ 30) : f_X4_set_kd r k kd = upd kd rn k := by unfold f_X4_set_kd; rw [cl_of er (by omega)]; split <;> rfl
theorem set_ky (er : r = nI rn) (h : rn < 2 ^ 30) : f_X4_set_ky r z ky = upd ky rn z := by unfold f_X4_set_ky; rw [cl_of er (by omega)]; split <;> rfl
theorem set_gu (er : r = nI rn) (h : rn < 2 ^ 30) : f_X4_set_gu r k z tp gu = vp_updL gu rn (pU (pb gu rn) (tp k.toNatClampNeg) z) := by
  unfold f_X4_set_gu pU pb
  rw [cl_of er (by omega), cEq]
  cases rn with
  | zero => rw [if_pos (by rw [er]; rfl), if_pos rfl]
  | succ q => rw [if_neg (by rw [er]; exact nI_ne0 (by omega) (by omega)), if_neg (by omega), er, nI_pred, nI_clamp (by omega)]; rfl
theorem set_gv (er : r = nI rn) (h : rn < 2 ^ 30) : f_X4_set_gv r k z tp gv = vp_updL gv rn (pV (pb gv rn) (tp k.toNatClampNeg) z) := by
  unfold f_X4_set_gv pV pb
  rw [cl_of er (by omega), sEq]
  cases rn with
  | zero => rw [if_pos (by rw [er]; rfl), if_pos rfl]
  | succ q => rw [if_neg (by rw [er]; exact nI_ne0 (by omega) (by omega)), if_neg (by omega), er, nI_pred, nI_clamp (by omega)]; rfl
theorem set_gx (er : r = nI rn) (h : rn < 2 ^ 30) : f_X4_set_gx r k z tp gx gu = vp_updL gx rn (pX (pb gx rn) (pb gu rn) (tp k.toNatClampNeg) z) := by
  unfold f_X4_set_gx pX pU pb
  rw [cl_of er (by omega), cEq]
  cases rn with
  | zero => rw [if_pos (by rw [er]; rfl), if_pos rfl, if_pos rfl, pk_uLs]
  | succ q => rw [if_neg (by rw [er]; exact nI_ne0 (by omega) (by omega)), if_neg (by omega), if_neg (by omega), er, nI_pred, nI_clamp (by omega), pk_uLs]; rfl
theorem set_gy (er : r = nI rn) (h : rn < 2 ^ 30) : f_X4_set_gy r k z tp gy gv = vp_updL gy rn (pY (pb gy rn) (pb gv rn) (tp k.toNatClampNeg) z) := by
  unfold f_X4_set_gy pY pV pb
  rw [cl_of er (by omega), sEq]
  cases rn with
  | zero => rw [if_pos (by rw [er]; rfl), if_pos rfl, if_pos rfl, pk_uLs]
  | succ q => rw [if_neg (by rw [er]; exact nI_ne0 (by omega) (by omega)), if_neg (by omega), if_neg (by omega), er, nI_pred, nI_clamp (by omega), pk_uLs]; rfl
theorem set_off (er : r = nI rn) (h : rn < 2 ^ 30) {mx my : Nat → Int32} : f_X4_offOf r mx my (f_X4_set_gx r k z tp gx gu) (f_X4_set_gy r k z tp gy gv) = own (pb gx rn) (pb gy rn) (pb gu rn) (pb gv rn) (mx rn).toInt64 (my rn).toInt64 (tp k.toNatClampNeg) z := by
  rw [set_gx er h, set_gy er h]
  unfold f_X4_offOf own oV
  rw [cl_of er (by omega), pk_uLs, pk_uLs]
end SET
def agM (rn : Nat) (kd ky : Nat → Int32) (gx gy gu gv : Nat → Int64) (kB tB : Nat → Int32) (ix iy iu iv : Nat → Int64) : Prop :=
  (∀ i, i < rn → kB i = kd i) ∧ (∀ i, i < rn → tB i = ky i) ∧ (∀ i, i < rn → ix i = gx i) ∧ (∀ i, i < rn → iy i = gy i) ∧ (∀ i, i < rn → iu i = gu i) ∧ (∀ i, i < rn → iv i = gv i)
theorem agM.rf {rn : Nat} {kA tA : Nat → Int32} {gx gy gu gv : Nat → Int64} : agM rn kA tA gx gy gu gv kA tA gx gy gu gv := ⟨fun _ _ => rfl, fun _ _ => rfl, fun _ _ => rfl, fun _ _ => rfl, fun _ _ => rfl, fun _ _ => rfl⟩
theorem agM.tr {rn : Nat} {kA tA : Nat → Int32} {gx gy gu gv : Nat → Int64} {kB tB : Nat → Int32} {hx_ hy_ hu_ hv_ : Nat → Int64} {kC tC : Nat → Int32} {ix iy iu iv : Nat → Int64} (h : agM rn kA tA gx gy gu gv kB tB hx_ hy_ hu_ hv_) (h' : agM rn kB tB hx_ hy_ hu_ hv_ kC tC ix iy iu iv) : agM rn kA tA gx gy gu gv kC tC ix iy iu iv :=
  ⟨fun i q => (h'.1 i q).trans (h.1 i q), fun i q => (h'.2.1 i q).trans (h.2.1 i q), fun i q => (h'.2.2.1 i q).trans (h.2.2.1 i q), fun i q => (h'.2.2.2.1 i q).trans (h.2.2.2.1 i q), fun i q => (h'.2.2.2.2.1 i q).trans (h.2.2.2.2.1 i q), fun i q => (h'.2.2.2.2.2 i q).trans (h.2.2.2.2.2 i q)⟩
theorem agM.mono {rn rm : Nat} {kA tA : Nat → Int32} {gx gy gu gv : Nat → Int64} {kB tB : Nat → Int32} {hx_ hy_ hu_ hv_ : Nat → Int64} (h : agM rn kA tA gx gy gu gv kB tB hx_ hy_ hu_ hv_) (hr : rm ≤ rn) : agM rm kA tA gx gy gu gv kB tB hx_ hy_ hu_ hv_ :=
  ⟨fun i q => h.1 i (by omega), fun i q => h.2.1 i (by omega), fun i q => h.2.2.1 i (by omega), fun i q => h.2.2.2.1 i (by omega), fun i q => h.2.2.2.2.1 i (by omega), fun i q => h.2.2.2.2.2 i (by omega)⟩
theorem pb_ag {rn : Nat} {f g : Nat → Int64} (h : ∀ i, i < rn → g i = f i) : pb g rn = pb f rn := by
  unfold pb
  by_cases h0 : rn = 0
  · rw [if_pos h0, if_pos h0]
  · rw [if_neg h0, if_neg h0]; exact h _ (by omega)
theorem agM_set {r : Int32} {rn : Nat} {k z : Int32} {tp kd ky : Nat → Int32} {gx gy gu gv : Nat → Int64} (er : r = nI rn) (h : rn < 2 ^ 30) : agM rn kd ky gx gy gu gv (f_X4_set_kd r k kd) (f_X4_set_ky r z ky) (f_X4_set_gx r k z tp gx gu) (f_X4_set_gy r k z tp gy gv) (f_X4_set_gu r k z tp gu) (f_X4_set_gv r k z tp gv) := by
  rw [set_kd er h, set_ky er h, set_gx er h, set_gy er h, set_gu er h, set_gv er h]
  exact ⟨fun i hi => pk_un (by omega), fun i hi => pk_un (by omega), fun i hi => pk_uLn (by omega), fun i hi => pk_uLn (by omega), fun i hi => pk_uLn (by omega), fun i hi => pk_uLn (by omega)⟩
theorem agM_set2 {r : Int32} {rn : Nat} (er : r = nI rn) (h24 : rn < 2 ^ 30) {k z : Int32} {tp : Nat → Int32} {kA tA : Nat → Int32} {gx gy gu gv : Nat → Int64} {kB tB : Nat → Int32} {ix iy iu iv : Nat → Int64} (h : agM rn kA tA gx gy gu gv kB tB ix iy iu iv) :
    agM (rn + 1) (f_X4_set_kd r k kA) (f_X4_set_ky r z tA) (f_X4_set_gx r k z tp gx gu) (f_X4_set_gy r k z tp gy gv) (f_X4_set_gu r k z tp gu) (f_X4_set_gv r k z tp gv) (f_X4_set_kd r k kB) (f_X4_set_ky r z tB) (f_X4_set_gx r k z tp ix iu) (f_X4_set_gy r k z tp iy iv) (f_X4_set_gu r k z tp iu) (f_X4_set_gv r k z tp iv) := by
  obtain ⟨h1, h2, h3, h4, h5, h6⟩ := h
  simp only [set_kd er h24, set_ky er h24, set_gx er h24, set_gy er h24, set_gu er h24, set_gv er h24]
  have q : ∀ {α : Type} {f g : Nat → α} {v w : α} (m : Nat), v = w → (∀ i, i < m → f i = g i) → ∀ i, i < m + 1 → (if i = m then v else f i) = (if i = m then w else g i) := by
    intro α f g v w m e hh i hi
    by_cases e2 : i = m
    · rw [if_pos e2, if_pos e2]; exact e
    · rw [if_neg e2, if_neg e2]; exact hh i (by omega)
  exact ⟨q rn rfl h1, q rn rfl h2, q rn (by rw [pb_ag h3, pb_ag h5]) h3, q rn (by rw [pb_ag h4, pb_ag h6]) h4, q rn (by rw [pb_ag h5]) h5, q rn (by rw [pb_ag h6]) h6⟩
theorem cntK_ag {f g : Nat → Int32} {k : Int32} : ∀ (S : Nat), (∀ i, i < S → g i = f i) → cntK g k S = cntK f k S := by
  intro S
  induction S with
  | zero => intro _; rfl
  | succ S ih => intro h; simp only [cntK]; rw [ih (fun i hi => h i (by omega)), h S (by omega)]
/-- may kind k stand at position j: cn: how many of it stand, q: how many of it are taken; tb: the key before, -1 if there is none -/
def okM (al st cn : Nat → Int32) (ja tb : Int32) (k j : Nat) (q : Int32) : Bool :=
  decide (¬ al j = 0) && (decide (¬ (st k - cn k) - q ≤ 0) && (decide (tb = -1) || decide (¬ (nI j - tb) - (nI j - tb) / ja * ja = 0)))
def tbM (rn : Nat) (ky : Nat → Int32) : Int32 := if rn = 0 then -1 else ky (rn - 1)
theorem may_eq {r : Int32} {rn k j S : Nat} {q ja : Int32} {al st kd ky : Nat → Int32} (er : r = nI rn) (h : rn < 2 ^ 30) (hk : k < 2 ^ 30) (hj : j < 2 ^ 30) (hky : ¬ rn = 0 → ¬ ky (rn - 1) = -1) :
    decide (¬ f_X4_mayStand r (nI k) (nI j) q S ja al st kd ky = 0) = okM al st (fun k => cntK kd (nI k) S) ja (tbM rn ky) k j q := by
  unfold f_X4_mayStand okM tbM
  rw [nI_clamp (show k < 2 ^ 31 by omega), nI_clamp (show j < 2 ^ 31 by omega)]
  by_cases h1 : al j = 0
  · rw [if_pos h1, decide_eq_false (p := ¬ al j = 0) (fun h => h h1)]
    cases rn with
    | zero => rw [if_pos (by rw [er]; rfl)]; rfl
    | succ q => rw [if_neg (by rw [er]; exact nI_ne0 (by omega) (by omega))]; rfl
  · rw [if_neg h1, decide_eq_true h1, Bool.true_and]
    by_cases h2 : (st k - cntK kd (nI k) S) - q ≤ 0
    · rw [if_pos h2, decide_eq_false (p := ¬ (st k - cntK kd (nI k) S) - q ≤ 0) (fun h => h h2)]
      cases rn with
      | zero => rw [if_pos (by rw [er]; rfl)]; rfl
      | succ q => rw [if_neg (by rw [er]; exact nI_ne0 (by omega) (by omega))]; rfl
    · rw [if_neg h2, decide_eq_true h2, Bool.true_and]
      cases rn with
      | zero => rw [if_pos (by rw [er]; rfl)]; rfl
      | succ p =>
        rw [if_neg (by rw [er]; exact nI_ne0 (by omega) (by omega)), er, nI_pred, nI_clamp (by omega), if_neg (Nat.succ_ne_zero p)]
        have h3 := hky (Nat.succ_ne_zero p)
        show _ = (decide (ky p = -1) || _)
        rw [decide_eq_false (p := ky p = -1) h3, Bool.false_or]
        by_cases h4 : (nI j - ky p) - (nI j - ky p) / ja * ja = 0
        · rw [if_pos h4]
          show decide (¬ (0 : Int32) = 0) = decide (¬ (nI j - ky (p + 1 - 1)) - (nI j - ky (p + 1 - 1)) / ja * ja = 0)
          rw [Nat.add_sub_cancel, decide_eq_false (fun h => h rfl), decide_eq_false (fun h => h h4)]
        · rw [if_neg h4]
          show decide (¬ (1 : Int32) = 0) = decide (¬ (nI j - ky (p + 1 - 1)) - (nI j - ky (p + 1 - 1)) / ja * ja = 0)
          rw [Nat.add_sub_cancel, decide_eq_true h4]; rfl
abbrev Q4 : Type := Int32 × Int64 × Int32 × Int32
def nt (q : Q4) (len : Int32) (s : Int64) (k f : Int32) : Q4 := (f_X4_note_bl len s q.1 q.2.1, f_X4_note_bs len s q.1 q.2.1, f_X4_note_bk len s k q.1 q.2.1 q.2.2.1, f_X4_note_be len s f q.1 q.2.1 q.2.2.2)
/-- the fold over kinds and positions: step, where it may stand -/
def fo (ok : Nat → Nat → Bool) (stp : Nat → Nat → Q4 → Q4) (q0 : Q4) : Nat → Q4
  | 0 => q0
  | i + 1 => if ok (i / 16) (i % 16) = true then stp (i / 16) (i % 16) (fo ok stp q0 i) else fo ok stp q0 i
theorem fo_no {ok : Nat → Nat → Bool} {stp : Nat → Nat → Q4 → Q4} {q0 q : Q4} {i j : Nat} (h : j < 16) (hq : fo ok stp q0 (16 * i + j) = q) (hk : ok i j = false) : fo ok stp q0 (16 * i + (j + 1)) = q := by
  rw [← Nat.add_assoc]
  show (if ok ((16 * i + j) / 16) ((16 * i + j) % 16) = true then _ else _) = _
  rw [(dm16 h).1, (dm16 h).2, hk, ← hq]
  simp
theorem fo_yes {ok : Nat → Nat → Bool} {stp : Nat → Nat → Q4 → Q4} {q0 q : Q4} {i j : Nat} (h : j < 16) (hq : fo ok stp q0 (16 * i + j) = q) (hk : ok i j = true) : fo ok stp q0 (16 * i + (j + 1)) = stp i j q := by
  rw [← Nat.add_assoc]
  show (if ok ((16 * i + j) / 16) ((16 * i + j) % 16) = true then stp ((16 * i + j) / 16) ((16 * i + j) % 16) (fo ok stp q0 (16 * i + j)) else _) = _
  rw [(dm16 h).1, (dm16 h).2, if_pos hk, hq]
