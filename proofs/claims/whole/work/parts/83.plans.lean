/-! PLANS: ring by ring class and reference stay alike -/
def PR (X : Int) (K c : Nat) (kA tA : Nat → Int32) (gx gy gu gv : Nat → Int64) (us kd ky : Nat → Int32) (ix iy iu iv : Nat → Int64) : Prop :=
  (∀ i, i < c → kd i = kA i ∧ ky i = tA i ∧ (∃ k, k < K ∧ kA i = nI k) ∧ ∃ j, j < 16 ∧ tA i = nI j) ∧
  (∀ i, i ≤ c → gx i = pb ix i ∧ gy i = pb iy i ∧ gu i = pb iu i ∧ gv i = pb iv i) ∧
  (∀ i : Nat, i ≤ c → bd (614400 * (i : Int) + X) (gx i) ∧ bd (614400 * (i : Int) + X) (gy i) ∧ bd (12800 * (i : Int)) (gu i) ∧ bd (12800 * (i : Int)) (gv i)) ∧
  (∀ k, k < 4 → us k = cntK kA (nI k) c)
theorem pb_up {f : Nat → Int64} {c : Nat} {v : Int64} : pb (vp_updL f c v) (c + 1) = v := by rw [pb_s, pk_uLs]
theorem pb_lo {f : Nat → Int64} {c i : Nat} {v : Int64} (h : i ≤ c) : pb (vp_updL f c v) i = pb f i := pb_ag (fun j hj => pk_uLn (by omega))
theorem PR_s {X : Int} {K c k j : Nat} {t : Int32} {kA tA us kd ky : Nat → Int32} {gx gy gu gv ix iy iu iv : Nat → Int64} (hX : 0 ≤ X ∧ X ≤ 60000000) (hK : K ≤ 4) (hc : c ≤ 23) (h : PR X K c kA tA gx gy gu gv us kd ky ix iy iu iv) (hk : k < K) (hj : j < 16) (t1 : 0 ≤ t.toInt) (t2 : t.toInt ≤ 200) :
    PR X K (c + 1) (upd kA c (nI k)) (upd tA c (nI j)) (vp_updL gx (c + 1) (pX (gx c) (gu c) t (nI j))) (vp_updL gy (c + 1) (pY (gy c) (gv c) t (nI j))) (vp_updL gu (c + 1) (pU (gu c) t (nI j))) (vp_updL gv (c + 1) (pV (gv c) t (nI j))) (f_X1_take_us (nI k) us)
      (upd kd c (nI k)) (upd ky c (nI j)) (vp_updL ix c (pX (pb ix c) (pb iu c) t (nI j))) (vp_updL iy c (pY (pb iy c) (pb iv c) t (nI j))) (vp_updL iu c (pU (pb iu c) t (nI j))) (vp_updL iv c (pV (pb iv c) t (nI j))) := by
  obtain ⟨h1, h2, h3, h4⟩ := h
  refine ⟨fun i hi => ?_, fun i hi => ?_, fun i hi => ?_, fun q hq => ?_⟩
  · by_cases e : i = c
    · subst e; rw [pk_us, pk_us, pk_us, pk_us]; exact ⟨rfl, rfl, ⟨k, hk, rfl⟩, ⟨j, hj, rfl⟩⟩
    · rw [pk_un e, pk_un e, pk_un e, pk_un e]; exact h1 i (by omega)
  · by_cases e : i = c + 1
    · subst e
      obtain ⟨a1, a2, a3, a4⟩ := h2 c (Nat.le_refl _)
      rw [pk_uLs, pk_uLs, pk_uLs, pk_uLs, pb_up, pb_up, pb_up, pb_up, a1, a2, a3, a4]
      exact ⟨rfl, rfl, rfl, rfl⟩
    · rw [pk_uLn e, pk_uLn e, pk_uLn e, pk_uLn e, pb_lo (by omega), pb_lo (by omega), pb_lo (by omega), pb_lo (by omega)]
      exact h2 i (by omega)
  · by_cases e : i = c + 1
    · subst e
      obtain ⟨a1, a2, a3, a4⟩ := h3 c (Nat.le_refl _)
      rw [pk_uLs, pk_uLs, pk_uLs, pk_uLs]
      exact ⟨bd_w (bd_pX t1 t2 a1 a3 (by omega) (by omega)) (by omega), bd_w (bd_pY t1 t2 a2 a4 (by omega) (by omega)) (by omega), bd_w (bd_pU t1 t2 a3 (by omega)) (by omega), bd_w (bd_pV t1 t2 a4 (by omega)) (by omega)⟩
    · rw [pk_uLn e, pk_uLn e, pk_uLn e, pk_uLn e]
      exact h3 i (by omega)
  · rw [take_at (by omega)]
    show _ = (if upd kA c (nI k) c = nI q then cntK (upd kA c (nI k)) (nI q) c + 1 else cntK (upd kA c (nI k)) (nI q) c)
    rw [pk_us, cntK_ag (f := kA) c (fun i hi => pk_un (by omega)), h4 q hq]
    by_cases e : q = k
    · rw [if_pos e, if_pos (by rw [e])]
    · rw [if_neg e, if_neg (fun e2 => e ((nI_eq (by omega) (by omega)).mp e2).symm)]
theorem tb_eq {c : Nat} {tA ky : Nat → Int32} (h24 : c < 2 ^ 30) (h : ∀ i, i < c → ky i = tA i) : f_X2_turnBefore (nI c) tA = tbM c ky := by
  unfold f_X2_turnBefore tbM
  cases c with
  | zero => rw [if_pos (by decide), if_pos rfl]
  | succ q => rw [if_neg (nI_nle (by omega) (by omega)), if_neg (by omega), nI_pred, nI_clamp (by omega)]; exact (h q (by omega)).symm
def AL (fb al : Nat → Int32) : Prop := ∀ j, j < 16 → (al j = 0 ∧ fb j = 1) ∨ (al j = 1 ∧ fb j = 0)
def TP (tp : Nat → Int32) : Prop := ∀ k, k < 4 → 0 ≤ (tp k).toInt ∧ (tp k).toInt ≤ 200
def LN (n : Nat) (lx ly : Nat → Int64) (mx my : Nat → Int32) : Prop := ∀ i, i < n → lx i = (mx i).toInt64 ∧ ly i = (my i).toInt64 ∧ bd 10000000 (lx i) ∧ bd 10000000 (ly i)
theorem ch_ring {X : Int} {n K c : Nat} {ah ja : Int32} {tp st us fb al kA tA mx my kd ky : Nat → Int32} {lx ly gx gy gu gv ix iy iu iv : Nat → Int64} (hX : 0 ≤ X ∧ X ≤ 60000000) (hK : K ≤ 4) (hn : n ≤ 24) (hc : c < n) (ha : AL fb al) (ht : TP tp) (hl : LN n lx ly mx my) (h : PR X K c kA tA gx gy gu gv us kd ky ix iy iu iv) :
    rC (chP n K ah tp st fb ja lx ly c tA gx gy gu gv us) (chM n K ah tp al st ja mx my c kd ky ix iy iu iv) := by
  obtain ⟨h1, h2, h3, h4⟩ := h
  obtain ⟨a1, a2, a3, a4⟩ := h2 c (Nat.le_refl _)
  obtain ⟨b1, b2, b3, b4⟩ := h3 c (Nat.le_refl _)
  obtain ⟨l1, l2, l3, l4⟩ := hl c hc
  unfold chP chM
  rw [tb_eq (by omega) (fun i hi => (h1 i hi).2.1), ← a1, ← a2, ← a3, ← a4, ← l1, ← l2]
  refine ch_eq hK (fun k hk => ?_) ha ht (bd_w b1 (by omega)) (bd_w b2 (by omega)) (bd_w b3 (by omega)) (bd_w b4 (by omega)) l3 l4 (fun h2 => ?_)
  · rw [h4 k hk]; exact (cntK_ag c (fun i hi => (h1 i hi).1)).symm
  · obtain ⟨-, hc1⟩ := of_decide_eq_true h2
    obtain ⟨m1, m2, m3, m4⟩ := hl (c + 1) hc1
    exact ⟨m1.symm, m2.symm, m3, m4⟩
theorem pl_eq {X : Int} {n K : Nat} {ah ja : Int32} {tp st fb al mx my : Nat → Int32} {lx ly : Nat → Int64} (hX : 0 ≤ X ∧ X ≤ 60000000) (hK : K ≤ 4) (hn : n ≤ 24) (ha : AL fb al) (ht : TP tp) (hl : LN n lx ly mx my) :
    ∀ (f c : Nat) (kA tA : Nat → Int32) (gx gy gu gv : Nat → Int64) (us kd ky : Nat → Int32) (ix iy iu iv : Nat → Int64) (c1 : Nat) (kA1 tA1 : Nat → Int32) (gx1 gy1 gu1 gv1 : Nat → Int64) (us1 : Nat → Int32) (c2 : Nat) (kd1 ky1 : Nat → Int32) (ix1 iy1 iu1 iv1 : Nat → Int64),
    PR X K c kA tA gx gy gu gv us kd ky ix iy iu iv → plR n K ah tp st fb ja lx ly f c kA tA gx gy gu gv us c1 kA1 tA1 gx1 gy1 gu1 gv1 us1 → plM n K ah tp al st ja mx my f c kd ky ix iy iu iv c2 kd1 ky1 ix1 iy1 iu1 iv1 →
    c2 = c1 ∧ PR X K c1 kA1 tA1 gx1 gy1 gu1 gv1 us1 kd1 ky1 ix1 iy1 iu1 iv1 := by
  intro f
  induction f with
  | zero =>
    intro c kA tA gx gy gu gv us kd ky ix iy iu iv c1 kA1 tA1 gx1 gy1 gu1 gv1 us1 c2 kd1 ky1 ix1 iy1 iu1 iv1 h hR hM
    obtain ⟨rfl, rfl, rfl, rfl, rfl, rfl, rfl, rfl⟩ := hR
    obtain ⟨rfl, rfl, rfl, rfl, rfl, rfl, rfl⟩ := hM
    exact ⟨rfl, h⟩
  | succ f ih =>
    intro c kA tA gx gy gu gv us kd ky ix iy iu iv c1 kA1 tA1 gx1 gy1 gu1 gv1 us1 c2 kd1 ky1 ix1 iy1 iu1 iv1 h hR hM
    unfold plR at hR
    unfold plM at hM
    by_cases hc : c < n
    · rcases ch_ring (ah := ah) (ja := ja) (st := st) hX hK hn hc ha ht hl h with ⟨e1, e2⟩ | ⟨e1, e2, e3, e4⟩
      · rw [if_neg (fun q => q.2 e1)] at hR
        rw [if_neg (fun q => q.2 e2)] at hM
        obtain ⟨rfl, rfl, rfl, rfl, rfl, rfl, rfl, rfl⟩ := hR
        obtain ⟨rfl, rfl, rfl, rfl, rfl, rfl, rfl⟩ := hM
        exact ⟨rfl, h⟩
      · rw [if_pos ⟨hc, e1⟩] at hR
        rw [if_pos ⟨hc, e2⟩] at hM
        obtain ⟨k, j, hk, hj, f1, f2⟩ := chM_key e2
        rw [f1] at e3
        rw [f2] at e4
        rw [e3, e4, nI_clamp (show k < 2 ^ 31 by omega)] at hR
        rw [f1, f2, nI_clamp (show k < 2 ^ 31 by omega)] at hM
        obtain ⟨t1, t2⟩ := ht k (by omega)
        exact ih _ _ _ _ _ _ _ _ _ _ _ _ _ _ _ _ _ _ _ _ _ _ _ _ _ _ _ _ _ (PR_s hX hK (by omega) h hk hj t1 t2) hR hM
    · rw [if_neg (fun q => hc q.1)] at hR
      rw [if_neg (fun q => hc q.1)] at hM
      obtain ⟨rfl, rfl, rfl, rfl, rfl, rfl, rfl, rfl⟩ := hR
      obtain ⟨rfl, rfl, rfl, rfl, rfl, rfl, rfl⟩ := hM
      exact ⟨rfl, h⟩
theorem give_at {us : Nat → Int32} {k1 k : Nat} (h1 : k1 < 2 ^ 31) : f_X1_giveBack_us (nI k1) us k = if k = k1 then us k - 1 else us k := by
  unfold f_X1_giveBack_us
  rw [nI_clamp h1]
  by_cases h : k = k1
  · subst h; rw [pk_us, if_pos rfl]
  · rw [pk_un h, if_neg h]
theorem subK_eq {us kA : Nat → Int32} {B : Nat} : ∀ j, (∀ i, i < B + j → ∃ k, k < 4 ∧ kA i = nI k) → ∀ k, k < 4 → subK us kA B j k = us k - (cntK kA (nI k) (B + j) - cntK kA (nI k) B) := by
  intro j
  induction j with
  | zero => intro _ k hk; show us k = us k - (cntK kA (nI k) B - cntK kA (nI k) B); rw [Int32.sub_self, Int32.sub_zero]
  | succ j ih =>
    intro hh k hk
    obtain ⟨k1, hk1, e1⟩ := hh (B + j) (by omega)
    show f_X1_giveBack_us (kA (B + j)) (subK us kA B j) k = us k - ((if kA (B + j) = nI k then cntK kA (nI k) (B + j) + 1 else cntK kA (nI k) (B + j)) - cntK kA (nI k) B)
    rw [e1, give_at (by omega), ih (fun i hi => hh i (by omega)) k hk]
    by_cases e : k = k1
    · rw [if_pos e, if_pos (by rw [e]), Int32.sub_sub]
      congr 1
      rw [Int32.sub_eq_add_neg, Int32.sub_eq_add_neg, Int32.add_assoc, Int32.add_assoc, Int32.add_comm _ 1]
    · rw [if_neg e, if_neg (fun e2 => e ((nI_eq (by omega) (by omega)).mp e2).symm)]
theorem PR_lo {X : Int} {K S B : Nat} {kA tA us kd ky : Nat → Int32} {gx gy gu gv ix iy iu iv : Nat → Int64} (hK : K ≤ 4) (hB : B ≤ S) (h : PR X K S kA tA gx gy gu gv us kd ky ix iy iu iv) : PR X K B kA tA gx gy gu gv (subK us kA B (S - B)) kd ky ix iy iu iv := by
  obtain ⟨h1, h2, h3, h4⟩ := h
  refine ⟨fun i hi => h1 i (by omega), fun i hi => h2 i (by omega), fun i hi => h3 i (by omega), fun k hk => ?_⟩
  have e : B + (S - B) = S := by omega
  rw [subK_eq (S - B) (fun i hi => by obtain ⟨k, q1, q2⟩ := (h1 i (by omega)).2.2.1; exact ⟨k, by omega, q2⟩) k hk, e, h4 k hk, Int32.sub_eq_iff_eq_add, Int32.add_comm, Int32.sub_add_cancel]
theorem PR_ag {X : Int} {K c : Nat} {kA tA us kd ky kB tB kC tC : Nat → Int32} {gx gy gu gv ix iy iu iv g1 g2 g3 g4 i1 i2 i3 i4 : Nat → Int64} (h : PR X K c kA tA gx gy gu gv us kd ky ix iy iu iv) (hI : agI c kA tA gx gy gu gv kB tB g1 g2 g3 g4) (hM : agM c kd ky ix iy iu iv kC tC i1 i2 i3 i4) : PR X K c kB tB g1 g2 g3 g4 us kC tC i1 i2 i3 i4 := by
  obtain ⟨h1, h2, h3, h4⟩ := h
  obtain ⟨p1, p2, p3, p4, p5, p6⟩ := hI
  obtain ⟨q1, q2, q3, q4, q5, q6⟩ := hM
  refine ⟨fun i hi => ?_, fun i hi => ?_, fun i hi => ?_, fun k hk => ?_⟩
  · rw [p1 i hi, p2 i hi, q1 i hi, q2 i hi]; exact h1 i hi
  · rw [p3 i (by omega), p4 i (by omega), p5 i (by omega), p6 i (by omega), pb_ag (f := ix) (fun j hj => q3 j (by omega)), pb_ag (f := iy) (fun j hj => q4 j (by omega)), pb_ag (f := iu) (fun j hj => q5 j (by omega)), pb_ag (f := iv) (fun j hj => q6 j (by omega))]; exact h2 i hi
  · rw [p3 i (by omega), p4 i (by omega), p5 i (by omega), p6 i (by omega)]; exact h3 i hi
  · rw [h4 k hk]; exact (cntK_ag c p1).symm
