/-! CLASS AND REFERENCE BESIDE EACH OTHER: what they answer -/
theorem in_eq {k lo hi : Int32} {lo' hi' : Int64} (h1 : lo'.toInt = lo.toInt) (h2 : hi'.toInt = hi.toInt) : f_X4_in k.toInt64 lo' hi' = f_X3_isWithin k lo hi := by
  unfold f_X4_in f_X3_isWithin
  have e1 : (lg_cmp k.toInt64 lo' < 0) ↔ k < lo := by rw [lg_cmp_lt, lt_J, lt_I, Int32.toInt_toInt64, h1]
  have e2 : (0 < lg_cmp k.toInt64 hi') ↔ hi < k := by rw [lg_cmp_gt, lt_J, lt_I, Int32.toInt_toInt64, h2]
  simp only [e1, e2]
theorem wi_in {k lo hi : Int32} (h : ¬ f_X3_isWithin k lo hi = 0) : lo.toInt ≤ k.toInt ∧ k.toInt ≤ hi.toInt := by
  unfold f_X3_isWithin at h
  by_cases c1 : k < lo
  · rw [if_pos c1] at h; exact absurd rfl h
  · by_cases c2 : hi < k
    · rw [if_neg c1, if_pos c2] at h; exact absurd rfl h
    · rw [lt_I] at c1 c2; omega
theorem wi_out {k lo hi : Int32} (h : f_X3_isWithin k lo hi = 0) : k.toInt < lo.toInt ∨ hi.toInt < k.toInt := by
  unfold f_X3_isWithin at h
  by_cases c1 : k < lo
  · rw [lt_I] at c1; exact Or.inl c1
  · by_cases c2 : hi < k
    · rw [lt_I] at c2; exact Or.inr c2
    · rw [if_neg c1, if_neg c2] at h; exact absurd h (by decide)
theorem has_in {r : Int32} {n : Nat} (hn : n < 2 ^ 31) (h : ¬ f_X2_has r (nI n) = 0) : ∃ q, q < n ∧ r = nI q := by
  unfold f_X2_has at h
  by_cases c1 : r < 0
  · rw [if_pos c1] at h; exact absurd rfl h
  · by_cases c2 : nI n ≤ r
    · rw [if_neg c1, if_pos c2] at h; exact absurd rfl h
    · obtain ⟨j, hj, e⟩ := nI_of c1
      exact ⟨j, by rw [e, nI_leI hn hj] at c2; omega, e⟩
theorem hask_in {r : Int32} {n : Nat} (hn : n < 2 ^ 31) (h : ¬ f_X1_has r (nI n) = 0) : ∃ q, q < n ∧ r = nI q := has_in hn h
theorem stands_in {r : Int32} {B S : Nat} (hB : B ≤ S) (hS : S < 2 ^ 31) (h : ¬ f_X2_stands r (nI B) (nI (S - B)) = 0) : ∃ q, q < S ∧ r = nI q := by
  refine has_in hS ?_
  unfold f_X2_stands f_X2_standing at h
  rw [nI_add, show B + (S - B) = S by omega] at h
  exact h
theorem pos_eq (k : Int32) : f_X4_in k.toInt64 0 15 = f_X0_isPosition k := by
  rw [in_eq (lo := 0) (hi := 15) rfl rfl]
  unfold f_X3_isWithin f_X0_isPosition
  have e : (15 < k) ↔ (16 ≤ k) := by
    rw [lt_I, le_I]
    have e1 : (15 : Int32).toInt = 15 := rfl
    have e2 : (16 : Int32).toInt = 16 := rfl
    omega
  simp only [e]
theorem pos_in {k : Int32} (h : ¬ f_X0_isPosition k = 0) : ∃ j, j < 16 ∧ k = nI j := has_in (n := 16) (by decide) h
theorem st_eq {B S : Nat} (h : B ≤ S) : nI B + nI (S - B) = nI S := by rw [nI_add, show B + (S - B) = S by omega]
def RE (X : Int) (n B S K : Nat) (ah pm ja : Int32) (tp us fb kA tA : Nat → Int32) (lx ly gx gy gu gv : Nat → Int64) (al mx my kd ky : Nat → Int32) (ix iy iu iv : Nat → Int64) : Prop :=
  (1 ≤ n ∧ n ≤ 24 ∧ B ≤ S ∧ S ≤ n ∧ K ≤ 4) ∧ (ah = 1 ∨ ah = 2) ∧ ¬ ja = 0 ∧ (AL fb al ∧ pm = cntZ al 16) ∧ LN n lx ly mx my ∧ TP tp ∧ PR X K S kA tA gx gy gu gv us kd ky ix iy iu iv
theorem sumF_ag {f g : Nat → Int64} : ∀ S, (∀ i, i < S → f i = g i) → sumF f S = sumF g S := by
  intro S
  induction S with
  | zero => intro _; rfl
  | succ S ih => intro h; simp only [sumF]; rw [ih (fun i hi => h i (by omega)), h S (by omega)]
theorem lstK_ag {f g : Nat → Int32} {k n : Int32} {S : Nat} : ∀ (j i : Nat) (q : Int32), i + j ≤ S → (∀ i, i < S → f i = g i) → lstK f k n j i q = lstK g k n j i q := by
  intro j
  induction j with
  | zero => intro _ _ _ _; rfl
  | succ j ih => intro i q h hh; simp only [lstK]; rw [ih (i + 1) (q + 1) (by omega) hh, ih (i + 1) q (by omega) hh, hh i (by omega)]
theorem xor_64 (v : Int32) : (0 ≤ (v ^^^ 64)) ↔ (0 ≤ v) := by
  have q : ∀ x : Int32, (0 ≤ x) ↔ x.toBitVec.msb = false := by
    intro x
    rw [le_I, BitVec.msb_eq_toInt]
    have e : x.toInt = x.toBitVec.toInt := rfl
    have e0 : (0 : Int32).toInt = 0 := rfl
    rw [e0, e]
    simp
  rw [q, q, Int32.toBitVec_xor, BitVec.msb_xor]
  have : (64 : Int32).toBitVec.msb = false := by decide
  rw [this, Bool.xor_false]
section REL
variable {X : Int} {n B S K : Nat} {ah pm ja : Int32} {tp us fb kA tA : Nat → Int32} {lx ly gx gy gu gv : Nat → Int64} {al mx my kd ky : Nat → Int32} {ix iy iu iv : Nat → Int64}
theorem r_kindOf (h : RE X n B S K ah pm ja tp us fb kA tA lx ly gx gy gu gv al mx my kd ky ix iy iu iv) (r : Int32) : f_X3_kindOf r (nI B) (nI (S - B)) kA = f_X4_kindOf r (nI B) (nI (S - B)) kd := by
  obtain ⟨⟨a1, a2, a3, a4, a5⟩, -, -, -, -, -, p1, -, -, -⟩ := h
  unfold f_X3_kindOf f_X4_kindOf
  show (if f_X2_stands r (nI B) (nI (S - B)) = 0 then -1 else _) = (if f_X2_stands r (nI B) (nI (S - B)) = 0 then -1 else _)
  by_cases c : f_X2_stands r (nI B) (nI (S - B)) = 0
  · rw [if_pos c, if_pos c]
  · obtain ⟨q, hq, e⟩ := stands_in a3 (by omega) c
    rw [if_neg c, if_neg c, e, nI_clamp (by omega)]
    exact (p1 q hq).1.symm
theorem r_turnOf (h : RE X n B S K ah pm ja tp us fb kA tA lx ly gx gy gu gv al mx my kd ky ix iy iu iv) (r : Int32) : f_X3_turnOf r (nI B) (nI (S - B)) tA = f_X4_turnOf r (nI B) (nI (S - B)) ky := by
  obtain ⟨⟨a1, a2, a3, a4, a5⟩, -, -, -, -, -, p1, -, -, -⟩ := h
  unfold f_X3_turnOf f_X4_turnOf
  show (if f_X2_stands r (nI B) (nI (S - B)) = 0 then -1 else _) = (if f_X2_stands r (nI B) (nI (S - B)) = 0 then -1 else _)
  by_cases c : f_X2_stands r (nI B) (nI (S - B)) = 0
  · rw [if_pos c, if_pos c]
  · obtain ⟨q, hq, e⟩ := stands_in a3 (by omega) c
    rw [if_neg c, if_neg c, e, nI_clamp (by omega)]
    exact (p1 q hq).2.1.symm
theorem r_state (r rg bu pn : Int32) : f_X3_state r rg bu pn = f_X4_state r rg bu pn := rfl
theorem off_eq (h : RE X n B S K ah pm ja tp us fb kA tA lx ly gx gy gu gv al mx my kd ky ix iy iu iv) {q : Nat} (hq : q < S) : f_X2_offAt (nI q) lx ly gx gy = f_X4_offOf (nI q) mx my ix iy := by
  obtain ⟨⟨a1, a2, a3, a4, a5⟩, -, -, -, hl, -, p1, p2, -, -⟩ := h
  obtain ⟨g1, g2, -, -⟩ := p2 (q + 1) (by omega)
  obtain ⟨l1, l2, -, -⟩ := hl q (by omega)
  unfold f_X2_offAt f_X4_offOf
  rw [nI_1, nI_clamp (by omega), nI_clamp (by omega), g1, g2, pb_s, pb_s, l1, l2]
theorem r_sum (h : RE X n B S K ah pm ja tp us fb kA tA lx ly gx gy gu gv al mx my kd ky ix iy iu iv) : sumF (fun j => f_X2_offAt (nI j) lx ly gx gy) S = f_X4_sum S mx my ix iy := sumF_ag S (fun _ hi => off_eq h hi)
theorem r_stroke (h : RE X n B S K ah pm ja tp us fb kA tA lx ly gx gy gu gv al mx my kd ky ix iy iu iv) (r k : Int32) : f_X3_stroke r k (nI B) (nI (S - B)) tp kA tA = f_X4_stroke r k (nI B) (nI (S - B)) tp kd ky := by
  obtain ⟨⟨a1, a2, a3, a4, a5⟩, -, -, -, -, -, p1, -, -, -⟩ := h
  unfold f_X3_stroke f_X4_stroke
  rw [pos_eq]
  show (if f_X2_stands r (nI B) (nI (S - B)) = 0 then 0 else _) = (if f_X2_stands r (nI B) (nI (S - B)) = 0 then 0 else _)
  by_cases c : f_X2_stands r (nI B) (nI (S - B)) = 0
  · rw [if_pos c, if_pos c]
  · obtain ⟨q, hq, e⟩ := stands_in a3 (by omega) c
    rw [if_neg c, if_neg c, e, nI_clamp (by omega)]
    by_cases c2 : f_X0_isPosition k = 0
    · rw [if_pos c2, if_pos c2]
    · rw [if_neg c2, if_neg c2, (p1 q hq).1, (p1 q hq).2.1, cEq]
      unfold f_J9_floorDiv_7cf53
      simp only [xor_64]
theorem r_left (h : RE X n B S K ah pm ja tp us fb kA tA lx ly gx gy gu gv al mx my kd ky ix iy iu iv) (st : Nat → Int32) (k : Int32) : f_X3_left k (nI K) st us = f_X4_left k S (nI K) st kd := by
  obtain ⟨⟨a1, a2, a3, a4, a5⟩, -, -, -, -, -, p1, -, -, p4⟩ := h
  unfold f_X3_left f_X4_left
  show (if f_X1_has k (nI K) = 0 then -1 else _) = (if f_X1_has k (nI K) = 0 then -1 else _)
  by_cases c : f_X1_has k (nI K) = 0
  · rw [if_pos c, if_pos c]
  · obtain ⟨q, hq, e⟩ := hask_in (by omega) c
    rw [if_neg c, if_neg c, e]
    unfold f_X1_unused
    rw [nI_clamp (by omega), p4 q (by omega), cntK_ag (f := kA) S (fun i hi => (p1 i hi).1)]
theorem r_list (h : RE X n B S K ah pm ja tp us fb kA tA lx ly gx gy gu gv al mx my kd ky ix iy iu iv) (k j : Int32) : lstK kA k j S 0 0 = lstK kd k j S 0 0 := by
  obtain ⟨⟨a1, a2, a3, a4, a5⟩, -, -, -, -, -, p1, -, -, p4⟩ := h
  exact lstK_ag S 0 0 (by omega) (fun i hi => (p1 i hi).1.symm)
theorem in_8 {k : Int32} (h : ¬ f_X3_isWithin k 0 7 = 0) : k = 0 ∨ k = 1 ∨ k = 2 ∨ k = 3 ∨ k = 4 ∨ k = 5 ∨ k = 6 ∨ k = 7 := by
  have h1 := wi_in h
  have e0 : (0 : Int32).toInt = 0 := rfl
  have e7 : (7 : Int32).toInt = 7 := rfl
  have q : k.toInt = 0 ∨ k.toInt = 1 ∨ k.toInt = 2 ∨ k.toInt = 3 ∨ k.toInt = 4 ∨ k.toInt = 5 ∨ k.toInt = 6 ∨ k.toInt = 7 := by omega
  rcases q with e | e | e | e | e | e | e | e
  · exact Or.inl (Int32.toInt_inj.mp e)
  · exact Or.inr (Or.inl (Int32.toInt_inj.mp e))
  · exact Or.inr (Or.inr (Or.inl (Int32.toInt_inj.mp e)))
  · exact Or.inr (Or.inr (Or.inr (Or.inl (Int32.toInt_inj.mp e))))
  · exact Or.inr (Or.inr (Or.inr (Or.inr (Or.inl (Int32.toInt_inj.mp e)))))
  · exact Or.inr (Or.inr (Or.inr (Or.inr (Or.inr (Or.inl (Int32.toInt_inj.mp e))))))
  · exact Or.inr (Or.inr (Or.inr (Or.inr (Or.inr (Or.inr (Or.inl (Int32.toInt_inj.mp e)))))))
  · exact Or.inr (Or.inr (Or.inr (Or.inr (Or.inr (Or.inr (Or.inr (Int32.toInt_inj.mp e)))))))
theorem out_8 {k : Int32} (h : f_X3_isWithin k 0 7 = 0) : ¬ k = 0 ∧ ¬ k = 1 ∧ ¬ k = 2 ∧ ¬ k = 3 ∧ ¬ k = 4 ∧ ¬ k = 5 ∧ ¬ k = 6 ∧ ¬ k = 7 := by
  refine ⟨?_, ?_, ?_, ?_, ?_, ?_, ?_, ?_⟩ <;> (intro e; subst e; revert h; decide)
theorem in_4 {k : Int32} (h : ¬ f_X3_isWithin k 0 3 = 0) : k = 0 ∨ k = 1 ∨ k = 2 ∨ k = 3 := by
  have h1 := wi_in h
  have e0 : (0 : Int32).toInt = 0 := rfl
  have e7 : (3 : Int32).toInt = 3 := rfl
  have q : k.toInt = 0 ∨ k.toInt = 1 ∨ k.toInt = 2 ∨ k.toInt = 3 := by omega
  rcases q with e | e | e | e
  · exact Or.inl (Int32.toInt_inj.mp e)
  · exact Or.inr (Or.inl (Int32.toInt_inj.mp e))
  · exact Or.inr (Or.inr (Or.inl (Int32.toInt_inj.mp e)))
  · exact Or.inr (Or.inr (Or.inr (Int32.toInt_inj.mp e)))
theorem out_4 {k : Int32} (h : f_X3_isWithin k 0 3 = 0) : ¬ k = 0 ∧ ¬ k = 1 ∧ ¬ k = 2 ∧ ¬ k = 3 := by
  refine ⟨?_, ?_, ?_, ?_⟩ <;> (intro e; subst e; revert h; decide)
theorem r_count (h : RE X n B S K ah pm ja tp us fb kA tA lx ly gx gy gu gv al mx my kd ky ix iy iu iv) (pl nk rg bu pn : Int32) {k : Int32} (hk : ¬ f_X3_isWithin k 0 7 = 0) : f_X4_count_fa k = 0 ∧ f_X3_count k ah pl nk pm ja rg bu pn = f_X4_count k rg bu pn pl ja ah nk al := by
  obtain ⟨-, -, -, ⟨-, e⟩, -⟩ := h
  unfold f_X4_count_fa f_X3_count f_X4_count
  rw [in_eq (lo := 0) (hi := 7) rfl rfl, if_neg hk, if_neg hk, e]
  rcases in_8 hk with rfl | rfl | rfl | rfl | rfl | rfl | rfl | rfl <;> exact ⟨by decide, rfl⟩
theorem r_countT {k : Int32} (hk : f_X3_isWithin k 0 7 = 0) : f_X4_count_fa k = 1 := by
  unfold f_X4_count_fa
  rw [in_eq (lo := 0) (hi := 7) rfl rfl, if_pos hk]
theorem r_place (h : RE X n B S K ah pm ja tp us fb kA tA lx ly gx gy gu gv al mx my kd ky ix iy iu iv) {r k : Int32} (hr : ¬ f_X2_stands r (nI B) (nI (S - B)) = 0) (hk : ¬ f_X3_isWithin k 0 3 = 0) : f_X4_place_fa r k (nI B) (nI (S - B)) = 0 ∧ f_X3_place r k gx gy gu gv = f_X4_place r k (nI B) (nI (S - B)) ix iy iu iv := by
  obtain ⟨⟨a1, a2, a3, a4, a5⟩, -, -, -, -, -, p1, p2, -, -⟩ := h
  obtain ⟨q, hq, e⟩ := stands_in a3 (by omega) hr
  obtain ⟨g1, g2, g3, g4⟩ := p2 (q + 1) (by omega)
  have hr' : ¬ f_X4_isThere r (nI B) (nI (S - B)) = 0 := hr
  unfold f_X4_place_fa f_X3_place f_X4_place
  rw [in_eq (lo := 0) (hi := 3) rfl rfl, if_neg hr', if_neg hk, if_neg hr', if_neg hk, e, nI_1, nI_clamp (by omega), nI_clamp (by omega), g1, g2, g3, g4, pb_s, pb_s, pb_s, pb_s]
  rcases in_4 hk with rfl | rfl | rfl | rfl <;> exact ⟨by decide, rfl⟩
theorem r_placeT {r k bu pn : Int32} (hr : f_X2_stands r bu pn = 0) : f_X4_place_fa r k bu pn = 1 := by
  have hr' : f_X4_isThere r bu pn = 0 := hr
  unfold f_X4_place_fa
  rw [if_pos hr']
theorem r_placeA {r k bu pn : Int32} (hr : ¬ f_X2_stands r bu pn = 0) (hk : f_X3_isWithin k 0 3 = 0) : f_X4_place_fa r k bu pn = 1 := by
  have hr' : ¬ f_X4_isThere r bu pn = 0 := hr
  unfold f_X4_place_fa
  rw [in_eq (lo := 0) (hi := 3) rfl rfl, if_neg hr', if_pos hk]
theorem r_off (h : RE X n B S K ah pm ja tp us fb kA tA lx ly gx gy gu gv al mx my kd ky ix iy iu iv) {r : Int32} (hr : ¬ f_X2_stands r (nI B) (nI (S - B)) = 0) : f_X4_off_fa r (nI B) (nI (S - B)) = 0 ∧ f_X3_off r lx ly gx gy = f_X4_off r (nI B) (nI (S - B)) mx my ix iy := by
  have hr' : ¬ f_X4_isThere r (nI B) (nI (S - B)) = 0 := hr
  obtain ⟨q, hq, e⟩ := stands_in h.1.2.2.1 (by have := h.1.2.1; have := h.1.2.2.2.1; omega) hr
  unfold f_X4_off_fa f_X3_off f_X4_off
  rw [if_neg hr', if_neg hr', e]
  exact ⟨rfl, off_eq h hq⟩
theorem r_offT {r bu pn : Int32} (hr : f_X2_stands r bu pn = 0) : f_X4_off_fa r bu pn = 1 := by
  have hr' : f_X4_isThere r bu pn = 0 := hr
  unfold f_X4_off_fa
  rw [if_pos hr']
end REL
