/-! CLASS AND REFERENCE BESIDE EACH OTHER: what they change -/
theorem cntZ_up {f : Nat → Int32} {j : Nat} {v : Int32} : ∀ N, j < N → cntZ (upd f j v) N + (if f j = 0 then 0 else 1) = cntZ f N + (if v = 0 then 0 else 1) := by
  have ag : ∀ N, N ≤ j → cntZ (upd f j v) N = cntZ f N := by
    intro N
    induction N with
    | zero => intro _; rfl
    | succ N ih => intro h; simp only [cntZ]; rw [pk_un (show N ≠ j by omega), ih (by omega)]
  intro N
  induction N with
  | zero => intro h; omega
  | succ N ih =>
    intro h
    simp only [cntZ]
    by_cases e : N = j
    · subst e
      rw [pk_us, ag N (Nat.le_refl _)]
      by_cases c1 : v = 0
      · rw [if_pos c1, if_pos c1]
        by_cases c2 : f N = 0
        · rw [if_pos c2, if_pos c2]
        · rw [if_neg c2, if_neg c2, Int32.add_zero]
      · rw [if_neg c1, if_neg c1]
        by_cases c2 : f N = 0
        · rw [if_pos c2, if_pos c2, Int32.add_zero]
        · rw [if_neg c2, if_neg c2]
    · rw [pk_un e]
      have h9 := ih (by omega)
      by_cases c2 : f N = 0
      · rw [if_pos c2, if_pos c2]; exact h9
      · rw [if_neg c2, if_neg c2, Int32.add_assoc, Int32.add_comm 1 _, ← Int32.add_assoc, h9, Int32.add_assoc, Int32.add_comm _ 1, ← Int32.add_assoc]
theorem cntK_up {f : Nat → Int32} {j : Nat} {v k : Int32} : ∀ N, j < N → cntK (upd f j v) k N + (if f j = k then 1 else 0) = cntK f k N + (if v = k then 1 else 0) := by
  intro N
  induction N with
  | zero => intro h; omega
  | succ N ih =>
    intro h
    simp only [cntK]
    by_cases e : N = j
    · subst e
      rw [pk_us, cntK_ag (f := f) N (fun i hi => pk_un (by omega))]
      by_cases c1 : v = k
      · rw [if_pos c1, if_pos c1]
        by_cases c2 : f N = k
        · rw [if_pos c2, if_pos c2]
        · rw [if_neg c2, if_neg c2, Int32.add_zero]
      · rw [if_neg c1, if_neg c1]
        by_cases c2 : f N = k
        · rw [if_pos c2, if_pos c2, Int32.add_zero]
        · rw [if_neg c2, if_neg c2]
    · rw [pk_un e]
      have h9 := ih (by omega)
      by_cases c2 : f N = k
      · rw [if_pos c2, if_pos c2, Int32.add_assoc, Int32.add_comm 1 _, ← Int32.add_assoc, h9, Int32.add_assoc, Int32.add_comm _ 1, ← Int32.add_assoc]
      · rw [if_neg c2, if_neg c2]; exact h9
theorem PR_K {X : Int} {K K1 c : Nat} {kA tA us kd ky : Nat → Int32} {gx gy gu gv ix iy iu iv : Nat → Int64} (hK : K ≤ K1) (h : PR X K c kA tA gx gy gu gv us kd ky ix iy iu iv) : PR X K1 c kA tA gx gy gu gv us kd ky ix iy iu iv := by
  obtain ⟨h1, h2, h3, h4⟩ := h
  refine ⟨fun i hi => ?_, h2, h3, h4⟩
  obtain ⟨q1, q2, ⟨k, q3, q4⟩, q5⟩ := h1 i hi
  exact ⟨q1, q2, ⟨k, by omega, q4⟩, q5⟩
theorem PR_X {X X1 : Int} {K c : Nat} {kA tA us kd ky : Nat → Int32} {gx gy gu gv ix iy iu iv : Nat → Int64} (hX : X ≤ X1) (h : PR X K c kA tA gx gy gu gv us kd ky ix iy iu iv) : PR X1 K c kA tA gx gy gu gv us kd ky ix iy iu iv := by
  obtain ⟨h1, h2, h3, h4⟩ := h
  refine ⟨h1, h2, fun i hi => ?_, h4⟩
  obtain ⟨q1, q2, q3, q4⟩ := h3 i hi
  exact ⟨bd_w q1 (by omega), bd_w q2 (by omega), q3, q4⟩
section REL
variable {X : Int} {n B S K : Nat} {ah pm ja : Int32} {tp us fb kA tA : Nat → Int32} {lx ly gx gy gu gv : Nat → Int64} {al mx my kd ky : Nat → Int32} {ix iy iu iv : Nat → Int64}
theorem RE_X {X1 : Int} (hX : X ≤ X1) (h : RE X n B S K ah pm ja tp us fb kA tA lx ly gx gy gu gv al mx my kd ky ix iy iu iv) : RE X1 n B S K ah pm ja tp us fb kA tA lx ly gx gy gu gv al mx my kd ky ix iy iu iv := by
  obtain ⟨h1, h2, h3, h4, h5, h6, h7⟩ := h
  exact ⟨h1, h2, h3, h4, h5, h6, PR_X hX h7⟩
theorem nI4 : (4 : Int32) = nI 4 := rfl
theorem r_kind (h : RE X n B S K ah pm ja tp us fb kA tA lx ly gx gy gu gv al mx my kd ky ix iy iu iv) (st : Nat → Int32) (k z : Int32) : ∃ (K1 : Nat) (tp1 st1 : Nat → Int32), f_X3_kind_nk k z (nI K) = nI K1 ∧ f_X4_kind_nk k z (nI K) = nI K1 ∧ f_X3_kind_tp k z (nI K) tp = tp1 ∧ f_X4_kind_tp k z (nI K) tp = tp1 ∧ f_X3_kind_st k z (nI K) st = st1 ∧ f_X4_kind_st k z (nI K) st = st1 ∧ f_X3_kind k z (nI K) = f_X4_kind k z (nI K) ∧ RE X n B S K1 ah pm ja tp1 us fb kA tA lx ly gx gy gu gv al mx my kd ky ix iy iu iv := by
  have h' := h
  obtain ⟨⟨a1, a2, a3, a4, a5⟩, h2, h3, h4, h5, h6, h7⟩ := h
  unfold f_X3_kind_nk f_X4_kind_nk f_X3_kind_tp f_X4_kind_tp f_X3_kind_st f_X4_kind_st f_X3_kind f_X4_kind
  rw [in_eq (lo := 0) (hi := 200) rfl rfl, in_eq (lo := 0) (hi := 99) rfl rfl]
  by_cases c1 : f_X3_isWithin k 0 200 = 0
  · simp only [if_pos c1]
    exact ⟨K, tp, st, rfl, rfl, rfl, rfl, rfl, rfl, by trivial, h'⟩
  · by_cases c2 : f_X3_isWithin z 0 99 = 0
    · simp only [if_neg c1, if_pos c2]
      exact ⟨K, tp, st, rfl, rfl, rfl, rfl, rfl, rfl, by trivial, h'⟩
    · simp only [if_neg c1, if_neg c2]
      by_cases c3 : K = 4
      · have c4 : nI K = 4 := by rw [c3]; rfl
        have c5 : ¬ f_X1_isFull (nI K) = 0 := by rw [c3]; decide
        simp only [if_pos c4, if_neg c5]
        exact ⟨K, tp, st, rfl, rfl, rfl, rfl, rfl, rfl, by trivial, h'⟩
      · have c4 : ¬ nI K = 4 := fun e => c3 ((nI_eq (by omega) (by omega)).mp (e.trans nI4))
        have c5 : f_X1_isFull (nI K) = 0 := by unfold f_X1_isFull; rw [if_pos (by rw [nI4, nI_ltI (by omega) (by omega)]; omega)]
        simp only [if_neg c4, if_pos c5]
        refine ⟨K + 1, _, _, nI_1 K, nI_1 K, rfl, rfl, rfl, rfl, by trivial, ⟨⟨a1, a2, a3, a4, by omega⟩, h2, h3, h4, h5, ?_, PR_K (by omega) h7⟩⟩
        intro q hq
        unfold f_X1_add_tp
        rw [nI_clamp (by omega)]
        by_cases e : q = K
        · rw [e, pk_us]
          have := wi_in c1
          have e0 : (0 : Int32).toInt = 0 := rfl
          have e1 : (200 : Int32).toInt = 200 := rfl
          omega
        · rw [pk_un e]; exact h6 q hq
theorem r_more (nk : Int32) (st : Nat → Int32) (k z : Int32) : f_X3_more_st k z nk st = f_X4_more_st k z nk st ∧ f_X3_more k z nk st = f_X4_more k z nk st := by
  unfold f_X3_more_st f_X4_more_st f_X3_more f_X4_more
  rw [in_eq (lo := 1) (hi := 99) rfl rfl]
  exact ⟨rfl, rfl⟩
theorem r_apart (h : RE X n B S K ah pm ja tp us fb kA tA lx ly gx gy gu gv al mx my kd ky ix iy iu iv) (k : Int32) : ∃ ja1, f_X3_apart_ja k ja = ja1 ∧ f_X4_apart_ja k ja = ja1 ∧ f_X3_apart k = f_X4_apart k ∧ RE X n B S K ah pm ja1 tp us fb kA tA lx ly gx gy gu gv al mx my kd ky ix iy iu iv := by
  have h' := h
  obtain ⟨h1, h2, h3, h4, h5, h6, h7⟩ := h
  unfold f_X3_apart_ja f_X4_apart_ja f_X3_apart f_X4_apart
  rw [in_eq (lo := 1) (hi := 16) rfl rfl]
  by_cases c1 : f_X3_isWithin k 1 16 = 0
  · simp only [if_pos c1]; exact ⟨ja, rfl, rfl, by trivial, h'⟩
  · simp only [if_neg c1]
    refine ⟨k, rfl, rfl, by trivial, h1, h2, fun e => ?_, h4, h5, h6, h7⟩
    subst e
    exact c1 (by decide)
theorem r_look (h : RE X n B S K ah pm ja tp us fb kA tA lx ly gx gy gu gv al mx my kd ky ix iy iu iv) (k : Int32) : ∃ ah1, f_X3_look_ah k ah = ah1 ∧ f_X4_look_lk k ah = ah1 ∧ f_X3_look k = f_X4_look k ∧ RE X n B S K ah1 pm ja tp us fb kA tA lx ly gx gy gu gv al mx my kd ky ix iy iu iv := by
  have h' := h
  obtain ⟨h1, h2, h3, h4, h5, h6, h7⟩ := h
  unfold f_X3_look_ah f_X4_look_lk f_X3_look f_X4_look
  rw [in_eq (lo := 1) (hi := 2) rfl rfl]
  by_cases c1 : f_X3_isWithin k 1 2 = 0
  · simp only [if_pos c1]; exact ⟨ah, rfl, rfl, by trivial, h'⟩
  · simp only [if_neg c1]
    refine ⟨k, rfl, rfl, by trivial, h1, ?_, h3, h4, h5, h6, h7⟩
    have := wi_in c1
    have e1 : (1 : Int32).toInt = 1 := rfl
    have e2 : (2 : Int32).toInt = 2 := rfl
    have q : k.toInt = 1 ∨ k.toInt = 2 := by omega
    rcases q with e | e
    · exact Or.inl (Int32.toInt_inj.mp e)
    · exact Or.inr (Int32.toInt_inj.mp e)
theorem al_up {fb al : Nat → Int32} {j : Nat} {u v : Int32} (h : AL fb al) (huv : (v = 0 ∧ u = 1) ∨ (v = 1 ∧ u = 0)) : AL (upd fb j u) (upd al j v) := by
  intro i hi
  by_cases e : i = j
  · subst e; rw [pk_us, pk_us]; exact huv
  · rw [pk_un e, pk_un e]; exact h i hi
theorem r_allow (h : RE X n B S K ah pm ja tp us fb kA tA lx ly gx gy gu gv al mx my kd ky ix iy iu iv) (k z : Int32) (hz : z = 0 ∨ z = 1) : ∃ (pm1 : Int32) (fb1 al1 : Nat → Int32), f_X3_allow_pm k z pm fb = pm1 ∧ f_X3_allow_fb k z fb = fb1 ∧ f_X4_allow_al k z al = al1 ∧ f_X3_allow k z fb = f_X4_allow k z al ∧ RE X n B S K ah pm1 ja tp us fb1 kA tA lx ly gx gy gu gv al1 mx my kd ky ix iy iu iv := by
  have h' := h
  obtain ⟨h1, h2, h3, ⟨h4, h8⟩, h5, h6, h7⟩ := h
  unfold f_X3_allow_pm f_X3_allow_fb f_X4_allow_al f_X3_allow f_X4_allow f_X0_permit_pm f_X0_permit_fb f_X0_permit
  rw [pos_eq]
  by_cases c1 : f_X0_isPosition k = 0
  · simp only [if_pos c1]; exact ⟨pm, fb, al, rfl, rfl, rfl, by trivial, h'⟩
  · simp only [if_neg c1]
    obtain ⟨j, hj, e⟩ := pos_in c1
    subst e
    rw [nI_clamp (by omega)]
    rcases h4 j hj with ⟨e1, e2⟩ | ⟨e1, e2⟩
    · have c2 : ¬ fb j = 0 := by rw [e2]; decide
      simp only [if_neg c2]
      rcases hz with rfl | rfl
      · simp only [if_pos e1]; exact ⟨pm, fb, al, rfl, rfl, rfl, by trivial, h'⟩
      · have c3 : ¬ al j = 1 := by rw [e1]; decide
        have c4 : ¬ (1 : Int32) = 0 := by decide
        simp only [if_neg c3, if_neg c4]
        refine ⟨_, _, _, rfl, rfl, rfl, by trivial, h1, h2, h3, ⟨al_up h4 (Or.inr ⟨rfl, rfl⟩), ?_⟩, h5, h6, h7⟩
        have h9 := cntZ_up (f := al) (j := j) (v := vp_nar .boolean 1) 16 hj
        rw [if_pos e1, if_neg (show ¬ vp_nar .boolean 1 = 0 by decide), Int32.add_zero] at h9
        rw [h9, h8]
    · simp only [if_pos e2]
      rcases hz with rfl | rfl
      · have c3 : ¬ al j = 0 := by rw [e1]; decide
        have c4 : ¬ (0 : Int32) = 1 := by decide
        simp only [if_neg c3, if_neg c4, if_true]
        refine ⟨_, _, _, rfl, rfl, rfl, by trivial, h1, h2, h3, ⟨al_up h4 (Or.inl ⟨rfl, rfl⟩), ?_⟩, h5, h6, h7⟩
        have h9 := cntZ_up (f := al) (j := j) (v := vp_nar .boolean 0) 16 hj
        rw [if_neg c3, if_pos (show vp_nar .boolean 0 = 0 by decide), Int32.add_zero] at h9
        rw [h8, ← h9, Int32.add_assoc, show (1 : Int32) + -1 = 0 from by decide, Int32.add_zero]
      · simp only [if_pos e1, if_true]; exact ⟨pm, fb, al, rfl, rfl, rfl, by trivial, h'⟩
theorem r_build (h : RE X n B S K ah pm ja tp us fb kA tA lx ly gx gy gu gv al mx my kd ky ix iy iu iv) (k : Int32) : ∃ B1, f_X3_build_bu k (nI B) (nI (S - B)) = nI B1 ∧ f_X3_build_pn k (nI (S - B)) = nI (S - B1) ∧ f_X4_build_bu k (nI B) (nI (S - B)) = nI B1 ∧ f_X4_build_pn k (nI (S - B)) = nI (S - B1) ∧ f_X3_build k (nI B) (nI (S - B)) = f_X4_build k (nI B) (nI (S - B)) ∧ RE X n B1 S K ah pm ja tp us fb kA tA lx ly gx gy gu gv al mx my kd ky ix iy iu iv := by
  have h' := h
  obtain ⟨⟨a1, a2, a3, a4, a5⟩, h2, h3, h4, h5, h6, h7⟩ := h
  unfold f_X3_build_bu f_X3_build_pn f_X4_build_bu f_X4_build_pn f_X3_build f_X4_build
  by_cases c1 : 1 ≤ k
  · by_cases c2 : k ≤ nI (S - B)
    · simp only [if_pos c1, if_pos c2]
      have e1 : (1 : Int32).toInt = 1 := rfl
      have q1 : ¬ k < 0 := by
        have e0 : (0 : Int32).toInt = 0 := rfl
        rw [lt_I]; rw [le_I] at c1; omega
      obtain ⟨j, hj, e⟩ := nI_of q1
      subst e
      have hj2 : j ≤ S - B := (nI_leI hj (by omega)).mp c2
      have e9 : nI (S - B) - nI j = nI (S - (B + j)) := by rw [show S - (B + j) = (S - B) - j by omega]; exact pk_sub (by omega)
      exact ⟨B + j, nI_add _ _, e9, nI_add _ _, e9, by trivial, ⟨a1, a2, by omega, a4, a5⟩, h2, h3, h4, h5, h6, h7⟩
    · simp only [if_pos c1, if_neg c2]; exact ⟨B, rfl, rfl, rfl, rfl, by trivial, h'⟩
  · simp only [if_neg c1]; exact ⟨B, rfl, rfl, rfl, rfl, by trivial, h'⟩
theorem stat2 {r bu pn : Int32} : f_X2_stateAt r bu pn = 2 ↔ ¬ bu ≤ r := by
  unfold f_X2_stateAt
  by_cases c : bu ≤ r
  · rw [if_pos c]
    constructor
    · intro h
      by_cases c2 : f_X2_standing bu pn ≤ r
      · rw [if_pos c2] at h; exact absurd h (by decide)
      · rw [if_neg c2] at h; exact absurd h (by decide)
    · intro h; exact absurd c h
  · rw [if_neg c]; exact ⟨fun _ => c, fun _ => rfl⟩
theorem toL {j : Int32} {b : Int} (h1 : -b ≤ j.toInt) (h2 : j.toInt ≤ b) : bd b j.toInt64 := by
  constructor <;> rw [Int32.toInt_toInt64] <;> assumption
theorem LN_up {q : Nat} {j f : Int32} (hl : LN n lx ly mx my) (h1 : bd 10000000 j.toInt64) (h2 : bd 10000000 f.toInt64) : LN n (vp_updL lx q j.toInt64) (vp_updL ly q f.toInt64) (upd mx q j) (upd my q f) := by
  intro i hi
  by_cases e : i = q
  · subst e; rw [pk_uLs, pk_uLs, pk_us, pk_us]; exact ⟨rfl, rfl, h1, h2⟩
  · rw [pk_uLn e, pk_uLn e, pk_un e, pk_un e]; exact hl i hi
theorem r_line (h : RE X n B S K ah pm ja tp us fb kA tA lx ly gx gy gu gv al mx my kd ky ix iy iu iv) {r : Int32} (j f : Int32) (hr : ¬ f_X2_has r (nI n) = 0) : ∃ (lx1 ly1 : Nat → Int64) (mx1 my1 : Nat → Int32), f_X3_line_lx r j f (nI B) (nI (S - B)) lx = lx1 ∧ f_X3_line_ly r j f (nI B) (nI (S - B)) ly = ly1 ∧ f_X4_line_mx r j f (nI n) (nI B) mx = mx1 ∧ f_X4_line_my r j f (nI n) (nI B) my = my1 ∧ f_X4_line_fa r j f (nI n) (nI B) = 0 ∧ f_X3_line r j f (nI B) (nI (S - B)) = f_X4_line r j f (nI n) (nI B) ∧ RE X n B S K ah pm ja tp us fb kA tA lx1 ly1 gx gy gu gv al mx1 my1 kd ky ix iy iu iv := by
  have h' := h
  obtain ⟨⟨a1, a2, a3, a4, a5⟩, h2, h3, h4, h5, h6, h7⟩ := h
  have hr' : ¬ f_X4_isRing r (nI n) = 0 := hr
  obtain ⟨q, hq, e⟩ := has_in (by omega) hr
  unfold f_X3_line_lx f_X3_line_ly f_X4_line_mx f_X4_line_my f_X4_line_fa f_X3_line f_X4_line
  rw [in_eq (lo := -10000000) (hi := 10000000) rfl rfl, in_eq (lo := -10000000) (hi := 10000000) rfl rfl]
  simp only [if_neg hr']
  by_cases c1 : f_X3_isWithin j (-10000000) 10000000 = 0
  · simp only [if_pos c1]; exact ⟨lx, ly, mx, my, rfl, rfl, rfl, rfl, by trivial, by trivial, h'⟩
  · by_cases c2 : f_X3_isWithin f (-10000000) 10000000 = 0
    · simp only [if_neg c1, if_pos c2]; exact ⟨lx, ly, mx, my, rfl, rfl, rfl, rfl, by trivial, by trivial, h'⟩
    · simp only [if_neg c1, if_neg c2]
      by_cases c3 : nI B ≤ r
      · have c4 : ¬ f_X2_stateAt r (nI B) (nI (S - B)) = 2 := fun h => stat2.mp h c3
        simp only [if_pos c3, if_neg c4]
        have e1 : (-10000000 : Int32).toInt = -10000000 := rfl
        have e2 : (10000000 : Int32).toInt = 10000000 := rfl
        have w1 := wi_in c1
        have w2 := wi_in c2
        refine ⟨_, _, _, _, rfl, rfl, rfl, rfl, by trivial, by trivial, ⟨⟨a1, a2, a3, a4, a5⟩, h2, h3, h4, ?_, h6, h7⟩⟩
        exact LN_up h5 (toL (by omega) (by omega)) (toL (by omega) (by omega))
      · have c4 : f_X2_stateAt r (nI B) (nI (S - B)) = 2 := stat2.mpr c3
        simp only [if_neg c3, if_pos c4]; exact ⟨lx, ly, mx, my, rfl, rfl, rfl, rfl, by trivial, by trivial, h'⟩
theorem r_lineT {r : Int32} (j f rg bu : Int32) (hr : f_X2_has r rg = 0) : f_X4_line_fa r j f rg bu = 1 ∧ f_X4_line_mx r j f rg bu mx = mx ∧ f_X4_line_my r j f rg bu my = my := by
  have hr' : f_X4_isRing r rg = 0 := hr
  unfold f_X4_line_fa f_X4_line_mx f_X4_line_my
  simp only [if_pos hr']
  exact ⟨trivial, trivial, trivial⟩
theorem PR_sh {rn : Nat} {j f : Int32} {Y : Int} (hY : 0 ≤ Y) (hY2 : Y ≤ 60000000) (h1 : bd 100000 j.toInt64) (h2 : bd 100000 f.toInt64) (hB : B ≤ 24) (h : PR Y K B kA tA gx gy gu gv us kd ky ix iy iu iv) : PR (Y + 100000) K B kA tA (shF gx j.toInt64 (rn + 1) (B + 1)) (shF gy f.toInt64 (rn + 1) (B + 1)) gu gv us kd ky (shF ix j.toInt64 rn B) (shF iy f.toInt64 rn B) iu iv := by
  obtain ⟨p1, p2, p3, p4⟩ := h
  have sh : ∀ (g g' : Nat → Int64) (v : Int64) (i : Nat), g i = pb g' i → shF g v (rn + 1) (B + 1) i = pb (shF g' v rn B) i := by
    intro g g' v i e
    cases i with
    | zero => unfold shF pb; rw [if_neg (by omega), if_pos rfl, e]; rfl
    | succ i =>
      rw [pb_s] at e ⊢
      unfold shF
      by_cases c : rn ≤ i ∧ i < B
      · rw [if_pos c, if_pos (by omega), e]
      · rw [if_neg c, if_neg (by omega), e]
  have sb : ∀ (g : Nat → Int64) (v : Int64) (i : Nat), i ≤ B → bd 100000 v → bd (614400 * (i : Int) + Y) (g i) → bd (614400 * (i : Int) + (Y + 100000)) (shF g v (rn + 1) (B + 1) i) := by
    intro g v i hi hv hg
    unfold shF
    split
    · exact bd_w (bd_add hg hv (by omega)) (by omega)
    · exact bd_w hg (by omega)
  refine ⟨p1, fun i hi => ?_, fun i hi => ?_, p4⟩
  · obtain ⟨q1, q2, q3, q4⟩ := p2 i hi
    exact ⟨sh _ _ _ _ q1, sh _ _ _ _ q2, q3, q4⟩
  · obtain ⟨q1, q2, q3, q4⟩ := p3 i hi
    exact ⟨sb _ _ _ hi h1 q1, sb _ _ _ hi h2 q2, q3, q4⟩
theorem r_survey (hX : 0 ≤ X) (hX2 : X ≤ 60000000) (h : RE X n B S K ah pm ja tp us fb kA tA lx ly gx gy gu gv al mx my kd ky ix iy iu iv) {r : Int32} {rn : Nat} (j f : Int32) (hr : ¬ f_X2_has r (nI n) = 0) : ∃ (S1 : Nat) (us1 : Nat → Int32) (gx1 gy1 ix1 iy1 : Nat → Int64), f_X3_survey_pn r j f (nI B) (nI (S - B)) = nI (S1 - B) ∧ f_X3_survey_us r j f B S (nI B) (nI (S - B)) us kA = us1 ∧ f_X3_survey_gx r j f B rn (nI B) (nI (S - B)) gx = gx1 ∧ f_X3_survey_gy r j f B rn (nI B) (nI (S - B)) gy = gy1 ∧
    f_X4_survey_pn r j f (nI n) (nI B) (nI (S - B)) = nI (S1 - B) ∧ f_X4_survey_gx r j f B rn (nI n) (nI B) ix = ix1 ∧ f_X4_survey_gy r j f B rn (nI n) (nI B) iy = iy1 ∧ f_X4_survey_fa r j f (nI n) (nI B) = 0 ∧ f_X3_survey r j f (nI B) (nI (S - B)) = f_X4_survey r j f (nI n) (nI B) ∧ RE (X + 100000) n B S1 K ah pm ja tp us1 fb kA tA lx ly gx1 gy1 gu gv al mx my kd ky ix1 iy1 iu iv := by
  have h' := RE_X (show X ≤ X + 100000 by omega) h
  obtain ⟨⟨a1, a2, a3, a4, a5⟩, h2, h3, h4, h5, h6, h7⟩ := h
  have hr' : ¬ f_X4_isRing r (nI n) = 0 := hr
  unfold f_X3_survey_pn f_X3_survey_us f_X3_survey_gx f_X3_survey_gy f_X4_survey_pn f_X4_survey_gx f_X4_survey_gy f_X4_survey_fa f_X3_survey f_X4_survey
  rw [in_eq (lo := -100000) (hi := 100000) rfl rfl, in_eq (lo := -100000) (hi := 100000) rfl rfl]
  simp only [if_neg hr']
  by_cases c1 : f_X3_isWithin j (-100000) 100000 = 0
  · simp only [if_pos c1]; exact ⟨S, us, gx, gy, ix, iy, rfl, rfl, rfl, rfl, rfl, rfl, rfl, by trivial, by trivial, h'⟩
  · by_cases c2 : f_X3_isWithin f (-100000) 100000 = 0
    · simp only [if_neg c1, if_pos c2]; exact ⟨S, us, gx, gy, ix, iy, rfl, rfl, rfl, rfl, rfl, rfl, rfl, by trivial, by trivial, h'⟩
    · simp only [if_neg c1, if_neg c2]
      by_cases c3 : r < nI B
      · have c4 : f_X2_stateAt r (nI B) (nI (S - B)) = 2 := stat2.mpr (Int32.not_le.mpr c3)
        simp only [if_pos c3, if_pos c4]
        have e1 : (-100000 : Int32).toInt = -100000 := rfl
        have e2 : (100000 : Int32).toInt = 100000 := rfl
        have w1 := wi_in c1
        have w2 := wi_in c2
        refine ⟨B, _, _, _, _, _, by rw [Nat.sub_self]; rfl, rfl, rfl, rfl, by rw [Nat.sub_self]; rfl, rfl, rfl, by trivial, by trivial, ⟨⟨a1, a2, Nat.le_refl _, by omega, a5⟩, h2, h3, h4, h5, h6, ?_⟩⟩
        exact PR_sh hX hX2 (toL (by omega) (by omega)) (toL (by omega) (by omega)) (by omega) (PR_lo a5 a3 h7)
      · have c4 : ¬ f_X2_stateAt r (nI B) (nI (S - B)) = 2 := fun h => c3 (Int32.not_le.mp (stat2.mp h))
        simp only [if_neg c3, if_neg c4]; exact ⟨S, us, gx, gy, ix, iy, rfl, rfl, rfl, rfl, rfl, rfl, rfl, by trivial, by trivial, h'⟩
theorem r_surveyT {r : Int32} (j f rg bu pn : Int32) (rn : Nat) (hr : f_X2_has r rg = 0) : f_X4_survey_fa r j f rg bu = 1 ∧ f_X4_survey_pn r j f rg bu pn = pn ∧ f_X4_survey_gx r j f B rn rg bu ix = ix ∧ f_X4_survey_gy r j f B rn rg bu iy = iy := by
  have hr' : f_X4_isRing r rg = 0 := hr
  unfold f_X4_survey_fa f_X4_survey_pn f_X4_survey_gx f_X4_survey_gy
  simp only [if_pos hr']
  exact ⟨trivial, trivial, trivial, trivial⟩
theorem r_run (hX : 0 ≤ X ∧ X ≤ 60000000) (h : RE X n B S K ah pm ja tp us fb kA tA lx ly gx gy gu gv al mx my kd ky ix iy iu iv) {st : Nat → Int32} {S1 S2 : Nat} {kP tP us1 kA1 tA1 kQ tQ kd1 ky1 : Nat → Int32} {xP yP uP vP gx1 gy1 gu1 gv1 xQ yQ uQ vQ ix1 iy1 iu1 iv1 : Nat → Int64}
    (hR : plR n K ah tp st fb ja lx ly (n - B) B kA tA gx gy gu gv (subK us kA B (S - B)) S1 kP tP xP yP uP vP us1) (hB1 : B ≤ S1) (hn1 : S1 ≤ n) (gI : agI S1 kP tP xP yP uP vP kA1 tA1 gx1 gy1 gu1 gv1) (hM : plM n K ah tp al st ja mx my (n - B) B kd ky ix iy iu iv S2 kQ tQ xQ yQ uQ vQ) (gM : agM S2 kQ tQ xQ yQ uQ vQ kd1 ky1 ix1 iy1 iu1 iv1) :
    S2 = S1 ∧ RE X n B S1 K ah pm ja tp us1 fb kA1 tA1 lx ly gx1 gy1 gu1 gv1 al mx my kd1 ky1 ix1 iy1 iu1 iv1 := by
  obtain ⟨⟨a1, a2, a3, a4, a5⟩, h2, h3, h4, h5, h6, h7⟩ := h
  obtain ⟨e, hp⟩ := pl_eq hX a5 a2 h4.1 h6 h5 _ _ _ _ _ _ _ _ _ _ _ _ _ _ _ _ _ _ _ _ _ _ _ _ _ _ _ _ _ _ (PR_lo a5 a3 h7) hR hM
  subst e
  exact ⟨rfl, ⟨a1, a2, hB1, hn1, a5⟩, h2, h3, h4, h5, h6, PR_ag hp gI gM⟩
end REL
