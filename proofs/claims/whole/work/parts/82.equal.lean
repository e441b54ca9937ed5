/-! CHOICES OF ONE RING, with the words of class and reference -/
theorem ok_eq {st us fb al cn : Nat → Int32} {ja tb : Int32} {k j : Nat} (hj : j < 16) (hu : us k = cn k) (ha : (al j = 0 ∧ fb j = 1) ∨ (al j = 1 ∧ fb j = 0)) : okI st us fb ja tb k j = okM al st cn ja tb k j 0 := by
  unfold okI okM f_X0_fits
  rw [nI_clamp (show j < 2 ^ 31 by omega), hu]
  have e : (¬ st k - cn k < 1) ↔ (¬ (st k - cn k) - 0 ≤ 0) := by
    have e0 : (st k - cn k) - 0 = st k - cn k := Int32.sub_zero _
    rw [e0, lt_I, le_I]
    have e1 : (1 : Int32).toInt = 1 := rfl
    have e2 : (0 : Int32).toInt = 0 := rfl
    omega
  rw [show decide (¬ st k - cn k < 1) = decide (¬ (st k - cn k) - 0 ≤ 0) from decide_eq_decide.mpr e]
  rcases ha with ⟨h1, h2⟩ | ⟨h1, h2⟩
  · rw [if_neg (show ¬ fb j = 0 by rw [h2]; decide), decide_eq_false (p := ¬ (0 : Int32) = 0) (by decide), decide_eq_false (p := ¬ al j = 0) (fun h => h h1), Bool.and_false, Bool.false_and]
  · rw [if_pos h2, decide_eq_true (p := ¬ al j = 0) (by rw [h1]; decide), Bool.true_and]
    congr 1
    by_cases c1 : tb = -1
    · rw [if_pos c1, decide_eq_true c1]; rfl
    · rw [if_neg c1, decide_eq_false c1, Bool.false_or]
      by_cases c2 : (nI j - tb) - (nI j - tb) / ja * ja = 0
      · rw [if_pos c2, decide_eq_false (p := ¬ (nI j - tb) - (nI j - tb) / ja * ja = 0) (fun h => h c2)]; rfl
      · rw [if_neg c2, decide_eq_true c2]; rfl
theorem take_at {us : Nat → Int32} {k1 k : Nat} (h1 : k1 < 2 ^ 31) : f_X1_take_us (nI k1) us k = if k = k1 then us k + 1 else us k := by
  unfold f_X1_take_us
  rw [nI_clamp h1]
  by_cases h : k = k1
  · subst h; rw [pk_us, if_pos rfl]
  · rw [pk_un h, if_neg h]
theorem ok_eq2 {st us fb al cn : Nat → Int32} {ja tb : Int32} {k j k1 : Nat} (hj : j < 16) (hk : k < 4) (hk1 : k1 < 4) (hu : us k = cn k) (ha : (al j = 0 ∧ fb j = 1) ∨ (al j = 1 ∧ fb j = 0)) : okI st (f_X1_take_us (nI k1) us) fb ja tb k j = okM al st cn ja tb k j (if nI k = nI k1 then 1 else 0) := by
  by_cases h : k = k1
  · subst h
    rw [if_pos rfl]
    have e9 : okI st (f_X1_take_us (nI k) us) fb ja tb k j = okM al st (fun _ => cn k + 1) ja tb k j 0 := ok_eq hj (by rw [take_at (by omega), if_pos rfl, hu]) ha
    rw [e9]
    unfold okM
    have e : (st k - (cn k + 1)) - 0 = (st k - cn k) - 1 := by rw [Int32.sub_zero, Int32.sub_sub]
    rw [e]
  · have hne : ¬ nI k = nI k1 := fun e => h ((nI_eq (by omega) (by omega)).mp e)
    rw [if_neg hne]
    exact ok_eq hj (by rw [take_at (by omega), if_neg h, hu]) ha
/-- the two choices -/
def rC (y : Int64 × Int32 × Int32) (q : Q4) : Prop := (y.1 = noW ∧ q.1 = 0) ∨ (¬ y.1 = noW ∧ ¬ q.1 = 0 ∧ y.2.1 = q.2.2.1 ∧ y.2.2 = q.2.2.2)
theorem r1_C {y : Int64 × Int32 × Int32} {q : Q4} (h : r1 y q) : rC y q := by
  rcases h with ⟨h1, h2⟩ | ⟨h1, h2, h3⟩
  · exact Or.inl ⟨h2, h1⟩
  · refine Or.inr ⟨?_, by rw [h1]; decide, by rw [h2], by rw [h2]⟩
    rw [h2]
    intro e
    have e : q.2.1 = noW := e
    rw [e] at h3
    exact Int64.lt_irrefl h3
theorem ch_eq {two : Bool} {K : Nat} {tp st us fb al cn : Nat → Int32} {ja tb : Int32} {bx cy bu bv lx ly lx2 ly2 lx3 ly3 : Int64} (hK : K ≤ 4) (hu : ∀ k, k < 4 → us k = cn k) (ha : ∀ j, j < 16 → (al j = 0 ∧ fb j = 1) ∨ (al j = 1 ∧ fb j = 0)) (ht : ∀ k, k < 4 → 0 ≤ (tp k).toInt ∧ (tp k).toInt ≤ 200)
    (hx1 : bd 100000000 bx) (hx2 : bd 100000000 cy) (hx3 : bd 400000 bu) (hx4 : bd 400000 bv) (hl1 : bd 10000000 lx) (hl2 : bd 10000000 ly) (h2 : two = true → lx3 = lx2 ∧ ly3 = ly2 ∧ bd 10000000 lx2 ∧ bd 10000000 ly2) :
    rC (chI two K tp st us fb ja tb bx cy bu bv lx ly lx2 ly2) (poM two K tp al st cn ja tb bx cy bu bv lx ly lx3 ly3 (0, 0, 0, 0) (16 * K)) := by
  have hb : ∀ i j, i < K → j < 16 → sm ((fun i j => own bx cy bu bv lx ly (tp i) (nI j)) i j) := by
    intro i j hi hj
    obtain ⟨t1, t2⟩ := ht i (by omega)
    obtain ⟨g1, g2⟩ := oV_bd (bd_w (bd_pX (z := nI j) t1 t2 hx1 hx3 (by omega) (by omega)) (by omega)) (bd_w (bd_pY (z := nI j) t1 t2 hx2 hx4 (by omega) (by omega)) (by omega)) hl1 hl2
    exact ⟨g1, by show (own bx cy bu bv lx ly (tp i) (nI j)).toInt ≤ _; unfold own; omega⟩
  have hok : ∀ i j, i < K → j < 16 → okI st us fb ja tb i j = okM al st cn ja tb i j 0 := fun i j hi hj => ok_eq hj (hu i (by omega)) (ha j hj)
  have e1 : sc1 tp st us fb ja tb bx cy bu bv lx ly (16 * K) = scan (fun i j => okM al st cn ja tb i j 0) (vlO (fun i j => own bx cy bu bv lx ly (tp i) (nI j))) (16 * K) := scan_cg hok (fun _ _ _ _ _ => rfl) _ (Nat.le_refl _)
  unfold chI poM
  cases two with
  | false =>
    rw [if_neg (fun h => by cases h.1), e1]
    have e3 : fo (fun i j => okM al st cn ja tb i j 0) (stM false K tp al st cn ja bx cy bu bv lx ly lx3 ly3) (0, 0, 0, 0) (16 * K) = fo (fun i j => okM al st cn ja tb i j 0) (fun i j q => nt q 1 ((fun i j => own bx cy bu bv lx ly (tp i) (nI j)) i j) (nI i) (nI j)) (0, 0, 0, 0) (16 * K) :=
      fo_cg (fun _ _ _ _ => rfl) (fun i j x _ _ => by unfold stM; rw [if_neg (by decide)]) _ (Nat.le_refl _)
    rw [e3]
    exact r1_C (chA hb _ (Nat.le_refl _))
  | true =>
    obtain ⟨rfl, rfl, hl3, hl4⟩ := h2 rfl
    have hb2 : ∀ i j i2 j2, i < K → j < 16 → i2 < K → j2 < 16 → sm ((fun i j i2 j2 => own (pX bx bu (tp i) (nI j)) (pY cy bv (tp i) (nI j)) (pU bu (tp i) (nI j)) (pV bv (tp i) (nI j)) lx3 ly3 (tp i2) (nI j2)) i j i2 j2) := by
      intro i j i2 j2 hi hj hi2 hj2
      obtain ⟨t1, t2⟩ := ht i (by omega)
      obtain ⟨t3, t4⟩ := ht i2 (by omega)
      obtain ⟨g1, g2⟩ := oV_bd (bd_w (bd_pX (z := nI j2) t3 t4 (bd_pX (z := nI j) t1 t2 hx1 hx3 (by omega) (by omega)) (bd_pU (z := nI j) t1 t2 hx3 (by omega)) (by omega) (by omega)) (by omega))
        (bd_w (bd_pY (z := nI j2) t3 t4 (bd_pY (z := nI j) t1 t2 hx2 hx4 (by omega) (by omega)) (bd_pV (z := nI j) t1 t2 hx4 (by omega)) (by omega) (by omega)) (by omega)) hl3 hl4
      exact ⟨g1, by show (own _ _ _ _ lx3 ly3 (tp i2) (nI j2)).toInt ≤ _; unfold own; omega⟩
    have e4 : ∀ i j, i < K → j < 16 → sc1 tp st (f_X1_take_us (nI i) us) fb ja (nI j) (pX bx bu (tp i) (nI j)) (pY cy bv (tp i) (nI j)) (pU bu (tp i) (nI j)) (pV bv (tp i) (nI j)) lx3 ly3 (16 * K) = scan ((fun i j i2 j2 => okM al st cn ja (nI j) i2 j2 (if nI i2 = nI i then 1 else 0)) i j) (vlO ((fun i j i2 j2 => own (pX bx bu (tp i) (nI j)) (pY cy bv (tp i) (nI j)) (pU bu (tp i) (nI j)) (pV bv (tp i) (nI j)) lx3 ly3 (tp i2) (nI j2)) i j)) (16 * K) :=
      fun i j hi hj => scan_cg (fun i2 j2 hi2 hj2 => ok_eq2 hj2 (by omega) (by omega) (hu i2 (by omega)) (ha j2 hj2)) (fun _ _ _ _ _ => rfl) _ (Nat.le_refl _)
    have e2 : sc2 K tp st us fb ja tb bx cy bu bv lx ly lx3 ly3 (16 * K) = scan (fun i j => okM al st cn ja tb i j 0) (fun i j lim => if (fun i j => own bx cy bu bv lx ly (tp i) (nI j)) i j < lim then (if (scan ((fun i j i2 j2 => okM al st cn ja (nI j) i2 j2 (if nI i2 = nI i then 1 else 0)) i j) (vlO ((fun i j i2 j2 => own (pX bx bu (tp i) (nI j)) (pY cy bv (tp i) (nI j)) (pU bu (tp i) (nI j)) (pV bv (tp i) (nI j)) lx3 ly3 (tp i2) (nI j2)) i j)) (16 * K)).1 = noW then noW else (fun i j => own bx cy bu bv lx ly (tp i) (nI j)) i j + (scan ((fun i j i2 j2 => okM al st cn ja (nI j) i2 j2 (if nI i2 = nI i then 1 else 0)) i j) (vlO ((fun i j i2 j2 => own (pX bx bu (tp i) (nI j)) (pY cy bv (tp i) (nI j)) (pU bu (tp i) (nI j)) (pV bv (tp i) (nI j)) lx3 ly3 (tp i2) (nI j2)) i j)) (16 * K)).1) else noW) (16 * K) :=
      scan_cg hok (fun i j x hi hj => by unfold vl2; rw [e4 i j hi hj]) _ (Nat.le_refl _)
    have e3 : fo (fun i j => okM al st cn ja tb i j 0) (stM true K tp al st cn ja bx cy bu bv lx ly lx3 ly3) (0, 0, 0, 0) (16 * K) = fo (fun i j => okM al st cn ja tb i j 0) (fun i j q => fo ((fun i j i2 j2 => okM al st cn ja (nI j) i2 j2 (if nI i2 = nI i then 1 else 0)) i j) (fun i2 j2 q => nt q 2 ((fun i j => own bx cy bu bv lx ly (tp i) (nI j)) i j + (fun i j i2 j2 => own (pX bx bu (tp i) (nI j)) (pY cy bv (tp i) (nI j)) (pU bu (tp i) (nI j)) (pV bv (tp i) (nI j)) lx3 ly3 (tp i2) (nI j2)) i j i2 j2) (nI i) (nI j)) (nt q 1 ((fun i j => own bx cy bu bv lx ly (tp i) (nI j)) i j) (nI i) (nI j)) (16 * K)) (0, 0, 0, 0) (16 * K) :=
      fo_cg (fun _ _ _ _ => rfl) (fun i j x _ _ => by unfold stM; rw [if_pos rfl]) _ (Nat.le_refl _)
    rw [e1, e2, e3]
    have hB := chB (ok := fun i j => okM al st cn ja tb i j 0) hb (ok2 := fun i j i2 j2 => okM al st cn ja (nI j) i2 j2 (if nI i2 = nI i then 1 else 0)) hb2 (16 * K) (Nat.le_refl _)
    rcases hB with ⟨hz, hr⟩ | ⟨hz, hq⟩
    · rw [if_neg (fun h => h.2 hz)]
      exact r1_C hr
    · have hne : ¬ (scan (fun i j => okM al st cn ja tb i j 0) (fun i j lim => if (fun i j => own bx cy bu bv lx ly (tp i) (nI j)) i j < lim then (if (scan ((fun i j i2 j2 => okM al st cn ja (nI j) i2 j2 (if nI i2 = nI i then 1 else 0)) i j) (vlO ((fun i j i2 j2 => own (pX bx bu (tp i) (nI j)) (pY cy bv (tp i) (nI j)) (pU bu (tp i) (nI j)) (pV bv (tp i) (nI j)) lx3 ly3 (tp i2) (nI j2)) i j)) (16 * K)).1 = noW then noW else (fun i j => own bx cy bu bv lx ly (tp i) (nI j)) i j + (scan ((fun i j i2 j2 => okM al st cn ja (nI j) i2 j2 (if nI i2 = nI i then 1 else 0)) i j) (vlO ((fun i j i2 j2 => own (pX bx bu (tp i) (nI j)) (pY cy bv (tp i) (nI j)) (pU bu (tp i) (nI j)) (pV bv (tp i) (nI j)) lx3 ly3 (tp i2) (nI j2)) i j)) (16 * K)).1) else noW) (16 * K)).1 = noW := fun e => by rw [e] at hz; exact Int64.lt_irrefl hz
      rw [if_pos ⟨rfl, hne⟩, hq]
      exact Or.inr ⟨hne, by show ¬ (2 : Int32) = 0; decide, rfl, rfl⟩
