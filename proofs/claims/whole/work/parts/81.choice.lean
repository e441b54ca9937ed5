/-! THE CHOICE: class and reference choose alike -/
section NT
variable {q : Q4} {len : Int32} {s : Int64} {k f : Int32}
theorem nt_a (h : q.1 < len) : nt q len s k f = (len, s, k, f) := by
  unfold nt f_X4_note_bl f_X4_note_bs f_X4_note_bk f_X4_note_be
  simp only [if_pos h]
theorem nt_b (h : q.1 = len) (h2 : s < q.2.1) : nt q len s k f = (len, s, k, f) := by
  have h1 : ¬ q.1 < len := by rw [h]; exact Int32.lt_irrefl
  have h3 : ¬ 0 ≤ lg_cmp s q.2.1 := by rw [lg_cmp_ge]; exact Int64.not_le.mpr h2
  unfold nt f_X4_note_bl f_X4_note_bs f_X4_note_bk f_X4_note_be
  simp only [if_neg h1, if_pos h.symm, if_neg h3]
theorem nt_c (h : q.1 = len) (h2 : ¬ s < q.2.1) : nt q len s k f = q := by
  have h1 : ¬ q.1 < len := by rw [h]; exact Int32.lt_irrefl
  have h3 : 0 ≤ lg_cmp s q.2.1 := by rw [lg_cmp_ge]; exact Int64.not_lt.mp h2
  unfold nt f_X4_note_bl f_X4_note_bs f_X4_note_bk f_X4_note_be
  simp only [if_neg h1, if_pos h.symm, if_pos h3]
theorem nt_d (h1 : ¬ q.1 < len) (h2 : ¬ len = q.1) : nt q len s k f = q := by
  unfold nt f_X4_note_bl f_X4_note_bs f_X4_note_bk f_X4_note_be
  simp only [if_neg h1, if_neg h2]
end NT
def vlO (o : Nat → Nat → Int64) (k j : Nat) (lim : Int64) : Int64 := if o k j < lim then o k j else noW
/-- a sum of OFFS -/
def sm (x : Int64) : Prop := 0 ≤ x.toInt ∧ x.toInt ≤ 288230376151711744
theorem sm_no {x : Int64} (h : sm x) : x < noW := by rw [lt_J, noW_I]; have := h.2; omega
theorem sm_ne {x : Int64} (h : sm x) : ¬ x = noW := fun e => by have := h.2; rw [e, noW_I] at this; omega
theorem sm_add {x y : Int64} (hx : sm x) (hy : sm y) : (x + y).toInt = x.toInt + y.toInt := by
  obtain ⟨h1, h2⟩ := hx
  obtain ⟨h3, h4⟩ := hy
  exact i_add (b := 288230376151711744) (d := 288230376151711744) ⟨by omega, by omega⟩ ⟨by omega, by omega⟩ (by omega)
def r1 (y : Int64 × Int32 × Int32) (q : Q4) : Prop := (q.1 = 0 ∧ y.1 = noW) ∨ (q.1 = 1 ∧ y = (q.2.1, q.2.2.1, q.2.2.2) ∧ q.2.1 < noW)
theorem r1_step {y : Int64 × Int32 × Int32} {q : Q4} {s : Int64} {k f : Int32} (h : r1 y q) (hs : s < noW) :
    r1 (if (if s < y.1 then s else noW) < y.1 then ((if s < y.1 then s else noW), k, f) else y) (nt q 1 s k f) ∧ (nt q 1 s k f).1 = 1 := by
  rcases h with ⟨h1, h2⟩ | ⟨h1, h2, h3⟩
  · have e : nt q 1 s k f = (1, s, k, f) := nt_a (by rw [h1]; decide)
    rw [e, h2, if_pos hs, if_pos hs]
    exact ⟨Or.inr ⟨rfl, rfl, hs⟩, rfl⟩
  · rw [h2]
    show r1 (if (if s < q.2.1 then s else noW) < q.2.1 then ((if s < q.2.1 then s else noW), k, f) else (q.2.1, q.2.2.1, q.2.2.2)) _ ∧ _
    by_cases c : s < q.2.1
    · rw [if_pos c, if_pos c, nt_b h1 c]
      exact ⟨Or.inr ⟨rfl, rfl, hs⟩, rfl⟩
    · have h4 : ¬ noW < q.2.1 := fun h => Int64.lt_irrefl (Int64.lt_trans h h3)
      rw [if_neg c, if_neg h4, nt_c h1 c]
      exact ⟨Or.inr ⟨h1, rfl, h3⟩, h1⟩
theorem scan_cg {ok ok' : Nat → Nat → Bool} {vl vl' : Nat → Nat → Int64 → Int64} {K : Nat} (h : ∀ i j, i < K → j < 16 → ok i j = ok' i j) (hv : ∀ i j x, i < K → j < 16 → vl i j x = vl' i j x) : ∀ m, m ≤ 16 * K → scan ok vl m = scan ok' vl' m := by
  intro m
  induction m with
  | zero => intro _; rfl
  | succ m ih =>
    intro hm
    simp only [scan]
    rw [ih (by omega), h (m / 16) (m % 16) (by omega) (by omega), hv (m / 16) (m % 16) _ (by omega) (by omega)]
theorem fo_cg {ok ok' : Nat → Nat → Bool} {stp stp' : Nat → Nat → Q4 → Q4} {q0 : Q4} {K : Nat} (h : ∀ i j, i < K → j < 16 → ok i j = ok' i j) (hv : ∀ i j x, i < K → j < 16 → stp i j x = stp' i j x) : ∀ m, m ≤ 16 * K → fo ok stp q0 m = fo ok' stp' q0 m := by
  intro m
  induction m with
  | zero => intro _; rfl
  | succ m ih =>
    intro hm
    simp only [fo]
    rw [ih (by omega), h (m / 16) (m % 16) (by omega) (by omega), hv (m / 16) (m % 16) _ (by omega) (by omega)]
theorem scan_bd {ok : Nat → Nat → Bool} {o : Nat → Nat → Int64} {K : Nat} (hb : ∀ i j, i < K → j < 16 → sm (o i j)) : ∀ m, m ≤ 16 * K → (scan ok (vlO o) m).1 = noW ∨ sm (scan ok (vlO o) m).1 := by
  intro m
  induction m with
  | zero => intro _; exact Or.inl rfl
  | succ m ih =>
    intro hm
    have hs := hb (m / 16) (m % 16) (by omega) (by omega)
    have h9 := ih (by omega)
    simp only [scan]
    by_cases c : ok (m / 16) (m % 16) = true
    · rw [if_pos c]
      split
      · show vlO o (m / 16) (m % 16) _ = noW ∨ sm (vlO o (m / 16) (m % 16) _)
        unfold vlO
        split
        · exact Or.inr hs
        · exact Or.inl rfl
      · exact h9
    · rw [if_neg c]; exact h9
theorem chA {ok : Nat → Nat → Bool} {o : Nat → Nat → Int64} {K : Nat} (hb : ∀ i j, i < K → j < 16 → sm (o i j)) : ∀ m, m ≤ 16 * K → r1 (scan ok (vlO o) m) (fo ok (fun i j q => nt q 1 (o i j) (nI i) (nI j)) (0, 0, 0, 0) m) := by
  intro m
  induction m with
  | zero => intro _; exact Or.inl ⟨rfl, rfl⟩
  | succ m ih =>
    intro hm
    have hs := hb (m / 16) (m % 16) (by omega) (by omega)
    have h9 := ih (by omega)
    simp only [scan, fo]
    by_cases c : ok (m / 16) (m % 16) = true
    · rw [if_pos c, if_pos c]
      exact (r1_step h9 (sm_no hs)).1
    · rw [if_neg c, if_neg c]; exact h9
def cC (s : Int64) (k f : Int32) (q1 : Q4) (v : Int64) : Q4 := if v = noW then q1 else (if q1.1 = 1 ∨ s + v < q1.2.1 then (2, s + v, k, f) else q1)
theorem chC {ok : Nat → Nat → Bool} {o : Nat → Nat → Int64} {K : Nat} (hb : ∀ i j, i < K → j < 16 → sm (o i j)) {s : Int64} (hs : sm s) {k f : Int32} {q1 : Q4} (hq : q1.1 = 1 ∨ q1.1 = 2) : ∀ m, m ≤ 16 * K →
    fo ok (fun i j q => nt q 2 (s + o i j) k f) q1 m = cC s k f q1 (scan ok (vlO o) m).1 := by
  intro m
  induction m with
  | zero => intro _; show q1 = cC s k f q1 noW; unfold cC; rw [if_pos rfl]
  | succ m ih =>
    intro hm
    have hw := hb (m / 16) (m % 16) (by omega) (by omega)
    have h9 := ih (by omega)
    have hv := scan_bd (ok := ok) hb m (by omega)
    rw [scan, fo]
    by_cases c : ok (m / 16) (m % 16) = true
    · rw [if_pos c, if_pos c, h9]
      generalize scan ok (vlO o) m = z at hv ⊢
      obtain ⟨v, z2, z3⟩ := z
      dsimp only at hv ⊢
      unfold vlO cC
      generalize o (m / 16) (m % 16) = w at hw ⊢
      have hq2 : ¬ q1.1 = 1 → q1.1 = 2 := fun h => hq.resolve_left h
      rcases hv with e | hv
      · rw [if_pos e, e, if_pos (sm_no hw), if_pos (sm_no hw)]
        dsimp only
        rw [if_neg (sm_ne hw)]
        by_cases c1 : q1.1 = 1
        · rw [if_pos (Or.inl c1), nt_a (by rw [c1]; decide)]
        · by_cases c2 : s + w < q1.2.1
          · rw [if_pos (Or.inr c2), nt_b (hq2 c1) c2]
          · rw [if_neg (fun h => h.elim c1 c2), nt_c (hq2 c1) c2]
      · rw [if_neg (sm_ne hv)]
        have e1 := sm_add hs hw
        have e2 := sm_add hs hv
        have hn : ¬ noW < v := by rw [lt_J]; have := sm_no hv; rw [lt_J] at this; omega
        by_cases c3 : w < v
        · rw [if_pos c3, if_pos c3]
          dsimp only
          rw [if_neg (sm_ne hw)]
          have c4 : s + w < s + v := by rw [lt_J] at c3 ⊢; omega
          by_cases c1 : q1.1 = 1
          · rw [if_pos (Or.inl c1), if_pos (Or.inl c1), nt_b (q := (2, s + v, k, f)) rfl c4]
          · by_cases c2 : s + v < q1.2.1
            · have c5 : s + w < q1.2.1 := Int64.lt_trans c4 c2
              rw [if_pos (Or.inr c2), if_pos (Or.inr c5), nt_b (q := (2, s + v, k, f)) rfl c4]
            · rw [if_neg (fun h => h.elim c1 c2)]
              by_cases c5 : s + w < q1.2.1
              · rw [if_pos (Or.inr c5), nt_b (hq2 c1) c5]
              · rw [if_neg (fun h => h.elim c1 c5), nt_c (hq2 c1) c5]
        · rw [if_neg c3, if_neg hn]
          dsimp only
          rw [if_neg (sm_ne hv)]
          have c4 : ¬ s + w < s + v := by rw [lt_J] at c3 ⊢; omega
          by_cases c1 : q1.1 = 1
          · rw [if_pos (Or.inl c1), nt_c (q := (2, s + v, k, f)) rfl c4]
          · by_cases c2 : s + v < q1.2.1
            · rw [if_pos (Or.inr c2), nt_c (q := (2, s + v, k, f)) rfl c4]
            · have c5 : ¬ s + w < q1.2.1 := fun h => c2 (by rw [lt_J] at c4 h ⊢; omega)
              rw [if_neg (fun h => h.elim c1 c2), nt_c (hq2 c1) c5]
    · rw [if_neg c, if_neg c]; exact h9
def r2 (z y : Int64 × Int32 × Int32) (q : Q4) : Prop := (z.1 = noW ∧ r1 y q) ∨ (z.1 < noW ∧ q = (2, z.1, z.2.1, z.2.2))
theorem chB {ok : Nat → Nat → Bool} {o : Nat → Nat → Int64} {K : Nat} (hb : ∀ i j, i < K → j < 16 → sm (o i j)) {ok2 : Nat → Nat → Nat → Nat → Bool} {o2 : Nat → Nat → Nat → Nat → Int64} (hb2 : ∀ i j i2 j2, i < K → j < 16 → i2 < K → j2 < 16 → sm (o2 i j i2 j2)) : ∀ m, m ≤ 16 * K →
    r2 (scan ok (fun i j lim => if o i j < lim then (if (scan (ok2 i j) (vlO (o2 i j)) (16 * K)).1 = noW then noW else o i j + (scan (ok2 i j) (vlO (o2 i j)) (16 * K)).1) else noW) m) (scan ok (vlO o) m)
      (fo ok (fun i j q => fo (ok2 i j) (fun i2 j2 q => nt q 2 (o i j + o2 i j i2 j2) (nI i) (nI j)) (nt q 1 (o i j) (nI i) (nI j)) (16 * K)) (0, 0, 0, 0) m) := by
  intro m
  induction m with
  | zero => intro _; exact Or.inl ⟨rfl, Or.inl ⟨rfl, rfl⟩⟩
  | succ m ih =>
    intro hm
    have hs := hb (m / 16) (m % 16) (by omega) (by omega)
    have h9 := ih (by omega)
    have hb3 := hb2 (m / 16) (m % 16)
    have hv := scan_bd (ok := ok2 (m / 16) (m % 16)) (fun i2 j2 h1 h2 => hb3 i2 j2 (by omega) (by omega) h1 h2) (16 * K) (Nat.le_refl _)
    have hC := fun (q1 : Q4) (hq : q1.1 = 1 ∨ q1.1 = 2) => chC (ok := ok2 (m / 16) (m % 16)) (fun i2 j2 h1 h2 => hb3 i2 j2 (by omega) (by omega) h1 h2) hs (k := nI (m / 16)) (f := nI (m % 16)) hq (16 * K) (Nat.le_refl _)
    rw [show scan ok (vlO o) (m + 1) = (if ok (m / 16) (m % 16) = true then (if vlO o (m / 16) (m % 16) (scan ok (vlO o) m).1 < (scan ok (vlO o) m).1 then (vlO o (m / 16) (m % 16) (scan ok (vlO o) m).1, nI (m / 16), nI (m % 16)) else scan ok (vlO o) m) else scan ok (vlO o) m) from rfl]
    rw [scan, fo]
    by_cases c : ok (m / 16) (m % 16) = true
    · rw [if_pos c, if_pos c, if_pos c]
      generalize scan ok (vlO o) m = y at h9 ⊢
      generalize scan ok (fun i j lim => if o i j < lim then (if (scan (ok2 i j) (vlO (o2 i j)) (16 * K)).1 = noW then noW else o i j + (scan (ok2 i j) (vlO (o2 i j)) (16 * K)).1) else noW) m = z at h9 ⊢
      generalize fo ok (fun i j q => fo (ok2 i j) (fun i2 j2 q => nt q 2 (o i j + o2 i j i2 j2) (nI i) (nI j)) (nt q 1 (o i j) (nI i) (nI j)) (16 * K)) (0, 0, 0, 0) m = q at h9 ⊢
      generalize scan (ok2 (m / 16) (m % 16)) (vlO (o2 (m / 16) (m % 16))) (16 * K) = x at hv hC ⊢
      obtain ⟨v, x2, x3⟩ := x
      dsimp only at hv hC ⊢
      rw [show vlO o (m / 16) (m % 16) y.1 = (if o (m / 16) (m % 16) < y.1 then o (m / 16) (m % 16) else noW) from rfl]
      generalize o (m / 16) (m % 16) = w at hs hC ⊢
      rcases h9 with ⟨e, h9⟩ | ⟨hz, e⟩
      · obtain ⟨g1, g2⟩ := r1_step (k := nI (m / 16)) (f := nI (m % 16)) h9 (sm_no hs)
        rw [hC _ (Or.inl g2), e, if_pos (sm_no hs)]
        unfold cC
        rcases hv with e2 | hv
        · rw [if_pos e2, if_pos e2, if_neg Int64.lt_irrefl]
          exact Or.inl ⟨e, g1⟩
        · have e1 := sm_add hs hv
          have c5 : w + v < noW := by rw [lt_J, e1, noW_I]; have := hs.2; have := hv.2; omega
          rw [if_neg (sm_ne hv), if_neg (sm_ne hv), if_pos c5, if_pos (Or.inl g2)]
          exact Or.inr ⟨c5, rfl⟩
      · have e3 : nt q 1 w (nI (m / 16)) (nI (m % 16)) = q := by rw [e]; exact nt_d (by show ¬ (2 : Int32) < 1; decide) (by show ¬ (1 : Int32) = 2; decide)
        have q2 : q.1 = 2 := by rw [e]
        have q3 : q.2.1 = z.1 := by rw [e]
        rw [e3, hC _ (Or.inr q2)]
        unfold cC
        rw [q3]
        have hn : ¬ noW < z.1 := fun h => Int64.lt_irrefl (Int64.lt_trans h hz)
        rcases hv with e2 | hv
        · rw [if_pos e2, if_pos e2]
          have : ¬ (if w < z.1 then noW else noW) < z.1 := by split <;> exact hn
          rw [if_neg this]
          exact Or.inr ⟨hz, e⟩
        · have e1 := sm_add hs hv
          rw [if_neg (sm_ne hv), if_neg (sm_ne hv)]
          have c0 : ¬ q.1 = 1 := by rw [q2]; decide
          by_cases c5 : w < z.1
          · rw [if_pos c5]
            by_cases c6 : w + v < z.1
            · rw [if_pos c6, if_pos (Or.inr c6)]
              exact Or.inr ⟨Int64.lt_trans c6 hz, rfl⟩
            · have c7 : ¬ (q.1 = 1 ∨ w + v < z.1) := fun h => h.elim c0 c6
              rw [if_neg c6, if_neg c7]
              exact Or.inr ⟨hz, e⟩
          · have c6 : ¬ w + v < z.1 := by rw [lt_J] at c5 ⊢; have := hv.1; omega
            have c7 : ¬ (q.1 = 1 ∨ w + v < z.1) := fun h => h.elim c0 c6
            rw [if_neg c5, if_neg hn, if_neg c7]
            exact Or.inr ⟨hz, e⟩
    · rw [if_neg c, if_neg c, if_neg c]; exact h9
