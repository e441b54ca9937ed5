/-! PLANNING: pure words -/
abbrev noW : Int64 := 4611686018427387904
def pU (b : Int64) (t z : Int32) : Int64 := b + (t * f_X0_c z).toInt64
def pV (b : Int64) (t z : Int32) : Int64 := b + (t * f_X0_s z).toInt64
def pX (bx bu : Int64) (t z : Int32) : Int64 := bx + bu + pU bu t z
def pY (bx bu : Int64) (t z : Int32) : Int64 := bx + bu + pV bu t z
def oV (x1 y1 lx ly : Int64) : Int64 := (x1 - lx) * (x1 - lx) + (y1 - ly) * (y1 - ly)
def own (bx cy bu bv lx ly : Int64) (t z : Int32) : Int64 := oV (pX bx bu t z) (pY cy bv t z) lx ly
def scan (ok : Nat → Nat → Bool) (vl : Nat → Nat → Int64 → Int64) : Nat → Int64 × Int32 × Int32
  | 0 => (noW, -1, -1)
  | i + 1 => if ok (i / 16) (i % 16) = true then (if vl (i / 16) (i % 16) (scan ok vl i).1 < (scan ok vl i).1 then (vl (i / 16) (i % 16) (scan ok vl i).1, nI (i / 16), nI (i % 16)) else scan ok vl i) else scan ok vl i
theorem dm16 {i j : Nat} (h : j < 16) : (16 * i + j) / 16 = i ∧ (16 * i + j) % 16 = j := by omega
theorem scan_no {ok : Nat → Nat → Bool} {vl : Nat → Nat → Int64 → Int64} {i j : Nat} (h : j < 16) (hk : ok i j = false) : scan ok vl (16 * i + (j + 1)) = scan ok vl (16 * i + j) := by
  rw [← Nat.add_assoc]
  show (if ok ((16 * i + j) / 16) ((16 * i + j) % 16) = true then _ else _) = _
  rw [(dm16 h).1, (dm16 h).2, hk]
  simp
theorem scan_ge {ok : Nat → Nat → Bool} {vl : Nat → Nat → Int64 → Int64} {i j : Nat} {q1 : Int64} {q2 q3 : Int32} (h : j < 16) (hq : scan ok vl (16 * i + j) = (q1, q2, q3)) (hk : ok i j = true) (hv : ¬ vl i j q1 < q1) : scan ok vl (16 * i + (j + 1)) = (q1, q2, q3) := by
  rw [← Nat.add_assoc]
  show (if ok ((16 * i + j) / 16) ((16 * i + j) % 16) = true then (if vl ((16 * i + j) / 16) ((16 * i + j) % 16) (scan ok vl (16 * i + j)).1 < (scan ok vl (16 * i + j)).1 then _ else _) else _) = _
  rw [(dm16 h).1, (dm16 h).2, if_pos hk, hq, if_neg hv]
theorem scan_lt {ok : Nat → Nat → Bool} {vl : Nat → Nat → Int64 → Int64} {i j : Nat} {q1 : Int64} {q2 q3 : Int32} (h : j < 16) (hq : scan ok vl (16 * i + j) = (q1, q2, q3)) (hk : ok i j = true) (hv : vl i j q1 < q1) : scan ok vl (16 * i + (j + 1)) = (vl i j q1, nI i, nI j) := by
  rw [← Nat.add_assoc]
  show (if ok ((16 * i + j) / 16) ((16 * i + j) % 16) = true then (if vl ((16 * i + j) / 16) ((16 * i + j) % 16) (scan ok vl (16 * i + j)).1 < (scan ok vl (16 * i + j)).1 then (vl ((16 * i + j) / 16) ((16 * i + j) % 16) (scan ok vl (16 * i + j)).1, nI ((16 * i + j) / 16), nI ((16 * i + j) % 16)) else _) else _) = _
  rw [(dm16 h).1, (dm16 h).2, if_pos hk, hq, if_pos hv]
theorem scan_skip {ok : Nat → Nat → Bool} {vl : Nat → Nat → Int64 → Int64} {i : Nat} (hk : ∀ j, ok i j = false) : ∀ j, j ≤ 16 → scan ok vl (16 * i + j) = scan ok vl (16 * i) := by
  intro j
  induction j with
  | zero => intro _; rfl
  | succ j ih => intro h; rw [scan_no (by omega) (hk j)]; exact ih (by omega)
def okI (st us fb : Nat → Int32) (ja tb : Int32) (k j : Nat) : Bool := decide (¬ st k - us k < 1) && decide (¬ f_X0_fits (nI j) tb ja fb = 0)
theorem okI_t {st us fb : Nat → Int32} {ja tb : Int32} {k j : Nat} (h1 : 1 ≤ st k - us k) (h2 : ¬ f_X0_fits (nI j) tb ja fb = 0) : okI st us fb ja tb k j = true := by
  unfold okI
  rw [decide_eq_true (Int32.not_lt.mpr h1), decide_eq_true h2]; rfl
theorem okI_f1 {st us fb : Nat → Int32} {ja tb : Int32} {k j : Nat} (h1 : ¬ 1 ≤ st k - us k) : okI st us fb ja tb k j = false := by
  unfold okI
  rw [decide_eq_false (fun h => h (Int32.not_le.mp h1))]; rfl
theorem okI_f2 {st us fb : Nat → Int32} {ja tb : Int32} {k j : Nat} (h2 : f_X0_fits (nI j) tb ja fb = 0) : okI st us fb ja tb k j = false := by
  unfold okI
  rw [decide_eq_false (p := ¬ f_X0_fits (nI j) tb ja fb = 0) (fun h => h h2), Bool.and_false]
def vl1 (tp : Nat → Int32) (bx cy bu bv lx ly : Int64) (k j : Nat) (lim : Int64) : Int64 := if own bx cy bu bv lx ly (tp k) (nI j) < lim then own bx cy bu bv lx ly (tp k) (nI j) else noW
def sc1 (tp st us fb : Nat → Int32) (ja tb : Int32) (bx cy bu bv lx ly : Int64) : Nat → Int64 × Int32 × Int32 := scan (okI st us fb ja tb) (vl1 tp bx cy bu bv lx ly)
def vl2 (K : Nat) (tp st us fb : Nat → Int32) (ja : Int32) (bx cy bu bv lx ly lx2 ly2 : Int64) (k j : Nat) (lim : Int64) : Int64 :=
  if own bx cy bu bv lx ly (tp k) (nI j) < lim then
    (if (sc1 tp st (f_X1_take_us (nI k) us) fb ja (nI j) (pX bx bu (tp k) (nI j)) (pY cy bv (tp k) (nI j)) (pU bu (tp k) (nI j)) (pV bv (tp k) (nI j)) lx2 ly2 (16 * K)).1 = noW then noW
     else own bx cy bu bv lx ly (tp k) (nI j) + (sc1 tp st (f_X1_take_us (nI k) us) fb ja (nI j) (pX bx bu (tp k) (nI j)) (pY cy bv (tp k) (nI j)) (pU bu (tp k) (nI j)) (pV bv (tp k) (nI j)) lx2 ly2 (16 * K)).1)
  else noW
def sc2 (K : Nat) (tp st us fb : Nat → Int32) (ja tb : Int32) (bx cy bu bv lx ly lx2 ly2 : Int64) : Nat → Int64 × Int32 × Int32 := scan (okI st us fb ja tb) (vl2 K tp st us fb ja bx cy bu bv lx ly lx2 ly2)
/-- two worlds that agree below ring rn -/
def agI (rn : Nat) (kA tA : Nat → Int32) (gx gy gu gv : Nat → Int64) (kB tB : Nat → Int32) (hx_ hy_ hu_ hv_ : Nat → Int64) : Prop :=
  (∀ i, i < rn → kB i = kA i) ∧ (∀ i, i < rn → tB i = tA i) ∧ (∀ i, i < rn + 1 → hx_ i = gx i) ∧ (∀ i, i < rn + 1 → hy_ i = gy i) ∧ (∀ i, i < rn + 1 → hu_ i = gu i) ∧ (∀ i, i < rn + 1 → hv_ i = gv i)
theorem agI.rf {rn : Nat} {kA tA : Nat → Int32} {gx gy gu gv : Nat → Int64} : agI rn kA tA gx gy gu gv kA tA gx gy gu gv := ⟨fun _ _ => rfl, fun _ _ => rfl, fun _ _ => rfl, fun _ _ => rfl, fun _ _ => rfl, fun _ _ => rfl⟩
theorem agI.tr {rn : Nat} {kA tA : Nat → Int32} {gx gy gu gv : Nat → Int64} {kB tB : Nat → Int32} {hx_ hy_ hu_ hv_ : Nat → Int64} {kC tC : Nat → Int32} {ix iy iu iv : Nat → Int64} (h : agI rn kA tA gx gy gu gv kB tB hx_ hy_ hu_ hv_) (h' : agI rn kB tB hx_ hy_ hu_ hv_ kC tC ix iy iu iv) : agI rn kA tA gx gy gu gv kC tC ix iy iu iv :=
  ⟨fun i q => (h'.1 i q).trans (h.1 i q), fun i q => (h'.2.1 i q).trans (h.2.1 i q), fun i q => (h'.2.2.1 i q).trans (h.2.2.1 i q), fun i q => (h'.2.2.2.1 i q).trans (h.2.2.2.1 i q), fun i q => (h'.2.2.2.2.1 i q).trans (h.2.2.2.2.1 i q), fun i q => (h'.2.2.2.2.2 i q).trans (h.2.2.2.2.2 i q)⟩
theorem agI.mono {rn rm : Nat} {kA tA : Nat → Int32} {gx gy gu gv : Nat → Int64} {kB tB : Nat → Int32} {hx_ hy_ hu_ hv_ : Nat → Int64} (h : agI rn kA tA gx gy gu gv kB tB hx_ hy_ hu_ hv_) (hr : rm ≤ rn) : agI rm kA tA gx gy gu gv kB tB hx_ hy_ hu_ hv_ :=
  ⟨fun i q => h.1 i (by omega), fun i q => h.2.1 i (by omega), fun i q => h.2.2.1 i (by omega), fun i q => h.2.2.2.1 i (by omega), fun i q => h.2.2.2.2.1 i (by omega), fun i q => h.2.2.2.2.2 i (by omega)⟩
section LAY
variable {r : Int32} {rn : Nat} {t k z : Int32} {kA tA : Nat → Int32} {gx gy gu gv : Nat → Int64}
theorem lay_kA (er : r = nI rn) (h24 : rn < 2 ^ 30) : f_X2_lay_kA r k kA = upd kA rn k := by unfold f_X2_lay_kA; rw [cl_of er (by omega)]
theorem lay_tA (er : r = nI rn) (h24 : rn < 2 ^ 30) : f_X2_lay_tA r z tA = upd tA rn z := by unfold f_X2_lay_tA; rw [cl_of er (by omega)]
theorem lay_gu (er : r = nI rn) (h24 : rn < 2 ^ 30) : f_X2_lay_gu r t z gu = vp_updL gu (rn + 1) (pU (gu rn) t z) := by unfold f_X2_lay_gu pU; rw [cl_of er (by omega), cl_of (nI_s er) (by omega)]
theorem lay_gv (er : r = nI rn) (h24 : rn < 2 ^ 30) : f_X2_lay_gv r t z gv = vp_updL gv (rn + 1) (pV (gv rn) t z) := by unfold f_X2_lay_gv pV; rw [cl_of er (by omega), cl_of (nI_s er) (by omega)]
theorem lay_gx (er : r = nI rn) (h24 : rn < 2 ^ 30) : f_X2_lay_gx r t z gx gu = vp_updL gx (rn + 1) (pX (gx rn) (gu rn) t z) := by
  unfold f_X2_lay_gx pX pU; rw [cl_of er (by omega), cl_of (nI_s er) (by omega), pk_uLn (by omega), pk_uLs]
theorem lay_gy (er : r = nI rn) (h24 : rn < 2 ^ 30) : f_X2_lay_gy r t z gy gv = vp_updL gy (rn + 1) (pY (gy rn) (gv rn) t z) := by
  unfold f_X2_lay_gy pY pV; rw [cl_of er (by omega), cl_of (nI_s er) (by omega), pk_uLn (by omega), pk_uLs]
theorem lay_off (er : r = nI rn) (h24 : rn < 2 ^ 30) {lx ly : Nat → Int64} : f_X2_offAt r lx ly (f_X2_lay_gx r t z gx gu) (f_X2_lay_gy r t z gy gv) = own (gx rn) (gy rn) (gu rn) (gv rn) (lx rn) (ly rn) t z := by
  rw [lay_gx er h24, lay_gy er h24]
  unfold f_X2_offAt own oV
  rw [cl_of er (by omega), cl_of (nI_s er) (by omega), pk_uLs, pk_uLs]
theorem agI_lay (er : r = nI rn) (h24 : rn < 2 ^ 30) : agI rn kA tA gx gy gu gv (f_X2_lay_kA r k kA) (f_X2_lay_tA r z tA) (f_X2_lay_gx r t z gx gu) (f_X2_lay_gy r t z gy gv) (f_X2_lay_gu r t z gu) (f_X2_lay_gv r t z gv) := by
  rw [lay_kA er h24, lay_tA er h24, lay_gx er h24, lay_gy er h24, lay_gu er h24, lay_gv er h24]
  refine ⟨fun i hi => pk_un (by omega), fun i hi => pk_un (by omega), fun i hi => pk_uLn (by omega), fun i hi => pk_uLn (by omega), fun i hi => pk_uLn (by omega), fun i hi => pk_uLn (by omega)⟩
end LAY
theorem take_give {k : Int32} {us : Nat → Int32} : f_X1_giveBack_us k (f_X1_take_us k us) = us := by
  funext j
  unfold f_X1_giveBack_us f_X1_take_us
  by_cases h : j = k.toNatClampNeg
  · subst h; rw [pk_us, pk_us]; exact Int32.add_sub_cancel _ _
  · rw [pk_un h, pk_un h]
