/-! REPLACE: class and reference beside each other -/
theorem pb_ne {f : Nat → Int64} {c i : Nat} {v : Int64} (h : i ≠ c + 1) : pb (vp_updL f c v) i = pb f i := by
  cases i with
  | zero => rfl
  | succ i => rw [pb_s, pb_s, pk_uLn (by omega)]
def GG (X : Int) (S : Nat) (q p : G4) : Prop := ∀ i : Nat, i ≤ S → (q.1 i = pb p.1 i ∧ q.2.1 i = pb p.2.1 i ∧ q.2.2.1 i = pb p.2.2.1 i ∧ q.2.2.2 i = pb p.2.2.2 i) ∧ (bd (614400 * (i : Int) + X) (q.1 i) ∧ bd (614400 * (i : Int) + X) (q.2.1 i) ∧ bd (12800 * (i : Int)) (q.2.2.1 i) ∧ bd (12800 * (i : Int)) (q.2.2.2 i))
theorem rl_eq {X : Int} {S rn : Nat} {tp kA tA kd ky : Nat → Int32} {q p : G4} (hX : 0 ≤ X ∧ X ≤ 60000000) (hS : S ≤ 24) (ht : TP tp) (hk : ∀ i, i < S → kd i = kA i ∧ ky i = tA i ∧ ∃ k, k < 4 ∧ kA i = nI k) (h : GG X S q p) : ∀ j, rn + j ≤ S → GG X S (rlI tp kA tA rn q j) (rlM tp kd ky rn p j) := by
  intro j
  induction j with
  | zero => intro _; exact h
  | succ j ih =>
    intro hj
    have h9 := ih (by omega)
    obtain ⟨e1, e2, k, hk4, e3⟩ := hk (rn + j) (by omega)
    obtain ⟨t1, t2⟩ := ht k hk4
    obtain ⟨⟨a1, a2, a3, a4⟩, b1, b2, b3, b4⟩ := h9 (rn + j) (by omega)
    have eI : rlI tp kA tA rn q (j + 1) = (f_X2_lay_gx (nI (rn + j)) (tp (kA (rn + j)).toNatClampNeg) (tA (rn + j)) (rlI tp kA tA rn q j).1 (rlI tp kA tA rn q j).2.2.1, f_X2_lay_gy (nI (rn + j)) (tp (kA (rn + j)).toNatClampNeg) (tA (rn + j)) (rlI tp kA tA rn q j).2.1 (rlI tp kA tA rn q j).2.2.2, f_X2_lay_gu (nI (rn + j)) (tp (kA (rn + j)).toNatClampNeg) (tA (rn + j)) (rlI tp kA tA rn q j).2.2.1, f_X2_lay_gv (nI (rn + j)) (tp (kA (rn + j)).toNatClampNeg) (tA (rn + j)) (rlI tp kA tA rn q j).2.2.2) := rfl
    have eM : rlM tp kd ky rn p (j + 1) = (f_X4_set_gx (nI (rn + j)) (kd (rn + j)) (ky (rn + j)) tp (rlM tp kd ky rn p j).1 (rlM tp kd ky rn p j).2.2.1, f_X4_set_gy (nI (rn + j)) (kd (rn + j)) (ky (rn + j)) tp (rlM tp kd ky rn p j).2.1 (rlM tp kd ky rn p j).2.2.2, f_X4_set_gu (nI (rn + j)) (kd (rn + j)) (ky (rn + j)) tp (rlM tp kd ky rn p j).2.2.1, f_X4_set_gv (nI (rn + j)) (kd (rn + j)) (ky (rn + j)) tp (rlM tp kd ky rn p j).2.2.2) := rfl
    rw [eI, eM, e1, e2, e3, nI_clamp (show k < 2 ^ 31 by omega)]
    generalize rlI tp kA tA rn q j = x at h9 a1 a2 a3 a4 b1 b2 b3 b4 ⊢
    generalize rlM tp kd ky rn p j = y at h9 a1 a2 a3 a4 ⊢
    obtain ⟨x1, x2, x3, x4⟩ := x
    obtain ⟨y1, y2, y3, y4⟩ := y
    dsimp only at h9 a1 a2 a3 a4 b1 b2 b3 b4 ⊢
    rw [lay_gx rfl (by omega), lay_gy rfl (by omega), lay_gu rfl (by omega), lay_gv rfl (by omega), set_gx rfl (by omega), set_gy rfl (by omega), set_gu rfl (by omega), set_gv rfl (by omega), nI_clamp (show k < 2 ^ 31 by omega)]
    intro i hi
    by_cases e : i = rn + j + 1
    · subst e
      dsimp only
      rw [pk_uLs, pk_uLs, pk_uLs, pk_uLs, pb_up, pb_up, pb_up, pb_up]
      refine ⟨by rw [a1, a2, a3, a4]; exact ⟨rfl, rfl, rfl, rfl⟩, ?_⟩
      exact ⟨bd_w (bd_pX t1 t2 b1 b3 (by omega) (by omega)) (by omega), bd_w (bd_pY t1 t2 b2 b4 (by omega) (by omega)) (by omega), bd_w (bd_pU t1 t2 b3 (by omega)) (by omega), bd_w (bd_pV t1 t2 b4 (by omega)) (by omega)⟩
    · dsimp only
      rw [pk_uLn e, pk_uLn e, pk_uLn e, pk_uLn e, pb_ne e, pb_ne e, pb_ne e, pb_ne e]
      exact h9 i hi
theorem stat1 {r bu pn : Int32} : f_X2_stateAt r bu pn = 1 ↔ bu ≤ r ∧ ¬ bu + pn ≤ r := by
  unfold f_X2_stateAt f_X2_standing
  by_cases c : bu ≤ r
  · rw [if_pos c]
    by_cases c2 : bu + pn ≤ r
    · rw [if_pos c2]; exact ⟨fun h => absurd h (by decide), fun h => absurd c2 h.2⟩
    · rw [if_neg c2]; exact ⟨fun _ => ⟨c, c2⟩, fun _ => rfl⟩
  · rw [if_neg c]; exact ⟨fun h => absurd h (by decide), fun h => absurd h.1 c⟩
section REL
variable {X : Int} {n B S K : Nat} {ah pm ja : Int32} {tp us fb kA tA : Nat → Int32} {lx ly gx gy gu gv : Nat → Int64} {al mx my kd ky : Nat → Int32} {ix iy iu iv : Nat → Int64}
theorem us_rp {us kA : Nat → Int32} {S rn k0 k1 : Nat} (hk0 : k0 < 4) (hk1 : k1 < 4) (hS : rn < S) (e1 : kA rn = nI k1) (hne : ¬ k1 = k0) (h4 : ∀ k, k < 4 → us k = cntK kA (nI k) S) : ∀ q, q < 4 → f_X1_take_us (nI k0) (f_X1_giveBack_us (nI k1) us) q = cntK (upd kA rn (nI k0)) (nI q) S := by
  intro q hq
  have h9 := cntK_up (f := kA) (j := rn) (v := nI k0) (k := nI q) S hS
  rw [take_at (by omega), give_at (by omega), h4 q hq]
  rw [e1] at h9
  by_cases c1 : q = k0
  · have c2 : ¬ q = k1 := by omega
    rw [if_pos c1, if_neg c2]
    rw [if_neg (fun e => c2 ((nI_eq (by omega) (by omega)).mp e).symm), if_pos (by rw [c1]), Int32.add_zero] at h9
    exact h9.symm
  · rw [if_neg c1]
    have c3 : ¬ nI k0 = nI q := fun e => c1 ((nI_eq (by omega) (by omega)).mp e).symm
    rw [if_neg c3, Int32.add_zero] at h9
    by_cases c2 : q = k1
    · rw [if_pos c2]
      rw [if_pos (by rw [c2])] at h9
      exact Int32.sub_eq_iff_eq_add.mpr h9.symm
    · rw [if_neg c2]
      rw [if_neg (fun e => c2 ((nI_eq (by omega) (by omega)).mp e).symm), Int32.add_zero] at h9
      exact h9.symm
theorem r_replace (hX : 0 ≤ X ∧ X ≤ 60000000) (h : RE X n B S K ah pm ja tp us fb kA tA lx ly gx gy gu gv al mx my kd ky ix iy iu iv) (st : Nat → Int32) {r : Int32} {rn : Nat} (k : Int32) (er : r = nI rn) (hrn : rn < n) (hr : ¬ f_X2_has r (nI n) = 0) :
    ∃ (us1 kA1 kd1 : Nat → Int32) (gx1 gy1 gu1 gv1 ix1 iy1 iu1 iv1 : Nat → Int64), f_X3_replace_us r k (nI K) (nI B) (nI (S - B)) st us kA = us1 ∧ f_X3_replace_kA r k (nI K) (nI B) (nI (S - B)) st us kA = kA1 ∧
      f_X3_replace_gx r k rn S (nI K) (nI B) (nI (S - B)) tp st us kA tA gx gy gu gv = gx1 ∧ f_X3_replace_gy r k rn S (nI K) (nI B) (nI (S - B)) tp st us kA tA gx gy gu gv = gy1 ∧ f_X3_replace_gu r k rn S (nI K) (nI B) (nI (S - B)) tp st us kA tA gx gy gu gv = gu1 ∧ f_X3_replace_gv r k rn S (nI K) (nI B) (nI (S - B)) tp st us kA tA gx gy gu gv = gv1 ∧
      f_X4_replace_kd r k S (nI n) (nI B) (nI (S - B)) (nI K) st kd = kd1 ∧
      f_X4_replace_gx r k rn S (nI n) (nI B) (nI (S - B)) (nI K) tp st kd ky ix iy iu iv = ix1 ∧ f_X4_replace_gy r k rn S (nI n) (nI B) (nI (S - B)) (nI K) tp st kd ky ix iy iu iv = iy1 ∧ f_X4_replace_gu r k rn S (nI n) (nI B) (nI (S - B)) (nI K) tp st kd ky ix iy iu iv = iu1 ∧ f_X4_replace_gv r k rn S (nI n) (nI B) (nI (S - B)) (nI K) tp st kd ky ix iy iu iv = iv1 ∧
      f_X4_replace_fa r k S (nI n) (nI B) (nI (S - B)) (nI K) st kd = 0 ∧ f_X3_replace r k (nI K) (nI B) (nI (S - B)) st us kA = f_X4_replace r k S (nI n) (nI B) (nI (S - B)) (nI K) st kd ∧
      RE X n B S K ah pm ja tp us1 fb kA1 tA lx ly gx1 gy1 gu1 gv1 al mx my kd1 ky ix1 iy1 iu1 iv1 := by
  have h' := h
  obtain ⟨⟨a1, a2, a3, a4, a5⟩, h2, h3, h4, h5, h6, p1, p2, p3, p4⟩ := h
  have hr' : ¬ f_X4_isRing r (nI n) = 0 := hr
  unfold f_X3_replace_us f_X3_replace_kA f_X3_replace_gx f_X3_replace_gy f_X3_replace_gu f_X3_replace_gv f_X4_replace_kd f_X4_replace_gx f_X4_replace_gy f_X4_replace_gu f_X4_replace_gv f_X4_replace_fa f_X3_replace f_X4_replace
  simp only [if_neg hr']
  by_cases c1 : f_X1_has k (nI K) = 0
  · have c1' : f_X4_isKind k (nI K) = 0 := c1
    simp only [if_pos c1, if_pos c1']
    exact ⟨us, kA, kd, gx, gy, gu, gv, ix, iy, iu, iv, rfl, rfl, rfl, rfl, rfl, rfl, rfl, rfl, rfl, rfl, rfl, by trivial, by trivial, h'⟩
  · have c1' : ¬ f_X4_isKind k (nI K) = 0 := c1
    simp only [if_neg c1, if_neg c1']
    by_cases c2 : r < nI B
    · have c6 : ¬ f_X2_stateAt r (nI B) (nI (S - B)) = 1 := fun e => Int32.not_le.mpr c2 (stat1.mp e).1
      simp only [if_pos c2, if_neg c6]
      exact ⟨us, kA, kd, gx, gy, gu, gv, ix, iy, iu, iv, rfl, rfl, rfl, rfl, rfl, rfl, rfl, rfl, rfl, rfl, rfl, by trivial, by trivial, h'⟩
    · by_cases c3 : nI B + nI (S - B) ≤ r
      · have c6 : ¬ f_X2_stateAt r (nI B) (nI (S - B)) = 1 := fun e => (stat1.mp e).2 c3
        simp only [if_neg c2, if_pos c3, if_neg c6]
        exact ⟨us, kA, kd, gx, gy, gu, gv, ix, iy, iu, iv, rfl, rfl, rfl, rfl, rfl, rfl, rfl, rfl, rfl, rfl, rfl, by trivial, by trivial, h'⟩
      · have c6 : f_X2_stateAt r (nI B) (nI (S - B)) = 1 := stat1.mpr ⟨Int32.not_lt.mp c2, c3⟩
        have hrS : rn < S := by
          rw [er, st_eq a3, nI_leI (by omega) (by omega)] at c3; omega
        have ecl : r.toNatClampNeg = rn := cl_of er (by omega)
        simp only [if_neg c2, if_neg c3, if_pos c6, ecl]
        obtain ⟨q1, q2, ⟨k1, hk1, e1⟩, q5⟩ := p1 rn hrS
        rw [q1]
        by_cases c4 : kA rn = k
        · simp only [if_pos c4]
          exact ⟨us, kA, kd, gx, gy, gu, gv, ix, iy, iu, iv, rfl, rfl, rfl, rfl, rfl, rfl, rfl, rfl, rfl, rfl, rfl, by trivial, by trivial, h'⟩
        · obtain ⟨k0, hk0, e0⟩ := hask_in (by omega) c1
          subst e0
          have e5 : (1 ≤ f_X1_unused (nI k0) st us) ↔ (0 < st (nI k0).toNatClampNeg - cntK kd (nI k0) S) := by
            unfold f_X1_unused
            rw [nI_clamp (by omega), p4 k0 (by omega), cntK_ag (f := kA) S (fun i hi => (p1 i hi).1), le_I, lt_I]
            have e8 : (1 : Int32).toInt = 1 := rfl
            have e9 : (0 : Int32).toInt = 0 := rfl
            omega
          simp only [if_neg c4, e5]
          by_cases c5 : 0 < st (nI k0).toNatClampNeg - cntK kd (nI k0) S
          · simp only [if_pos c5]
            refine ⟨_, _, _, _, _, _, _, _, _, _, _, rfl, rfl, rfl, rfl, rfl, rfl, rfl, rfl, rfl, rfl, rfl, by trivial, by trivial, ⟨⟨a1, a2, a3, a4, a5⟩, h2, h3, h4, h5, h6, ?_⟩⟩
            have hg : GG X S (rlI tp (upd kA rn (nI k0)) tA rn (gx, gy, gu, gv) (S - rn)) (rlM tp (upd kd rn (nI k0)) ky rn (ix, iy, iu, iv) (S - rn)) := by
              refine rl_eq hX (by omega) h6 (fun i hi => ?_) (fun i hi => ⟨p2 i hi, p3 i hi⟩) (S - rn) (by omega)
              obtain ⟨g1, g2, ⟨g3, g4, g5⟩, -⟩ := p1 i hi
              by_cases e : i = rn
              · subst e; rw [pk_us, pk_us]; exact ⟨rfl, g2, k0, by omega, rfl⟩
              · rw [pk_un e, pk_un e]; exact ⟨g1, g2, g3, by omega, g5⟩
            refine ⟨fun i hi => ?_, fun i hi => (hg i hi).1, fun i hi => (hg i hi).2, ?_⟩
            · obtain ⟨g1, g2, g3, g4⟩ := p1 i hi
              by_cases e : i = rn
              · subst e; rw [pk_us, pk_us]; exact ⟨rfl, g2, ⟨k0, hk0, rfl⟩, g4⟩
              · rw [pk_un e, pk_un e]; exact ⟨g1, g2, g3, g4⟩
            · rw [e1]
              exact us_rp (by omega) (by omega) hrS e1 (fun e => c4 (by rw [e1, e])) p4
          · simp only [if_neg c5]
            exact ⟨us, kA, kd, gx, gy, gu, gv, ix, iy, iu, iv, rfl, rfl, rfl, rfl, rfl, rfl, rfl, rfl, rfl, rfl, rfl, by trivial, by trivial, h'⟩
theorem r_replaceT {r : Int32} (k rg bu pn nk : Int32) (st : Nat → Int32) (rn : Nat) (hr : f_X2_has r rg = 0) : f_X4_replace_fa r k S rg bu pn nk st kd = 1 ∧ f_X4_replace_kd r k S rg bu pn nk st kd = kd ∧ f_X4_replace_gx r k rn S rg bu pn nk tp st kd ky ix iy iu iv = ix ∧ f_X4_replace_gy r k rn S rg bu pn nk tp st kd ky ix iy iu iv = iy ∧ f_X4_replace_gu r k rn S rg bu pn nk tp st kd ky ix iy iu iv = iu ∧ f_X4_replace_gv r k rn S rg bu pn nk tp st kd ky ix iy iu iv = iv := by
  have hr' : f_X4_isRing r rg = 0 := hr
  unfold f_X4_replace_fa f_X4_replace_kd f_X4_replace_gx f_X4_replace_gy f_X4_replace_gu f_X4_replace_gv
  simp only [if_pos hr']
  exact ⟨trivial, trivial, trivial, trivial, trivial, trivial⟩
end REL
