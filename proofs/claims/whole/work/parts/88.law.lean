/-! THE LAW: what its loop keeps, and each of its cases -/
def LI (X : Int) (cI cJ cZ : ClassId) (a am : Nat → Nat) (ao n : Nat) (w : va_W) : Prop :=
  ∃ (B S K : Nat) (ah pl ck ct pm ja : Int32) (tp st us fb kA tA : Nat → Int32) (lx ly gx gy gu gv fo : Nat → Int64) (fa bl : Int32) (bs : Int64) (bk be : Int32) (al mx my kd ky : Nat → Int32) (ix iy iu iv : Nat → Int64),
    RE X n B S K ah pm ja tp us fb kA tA lx ly gx gy gu gv al mx my kd ky ix iy iu iv ∧ w = (oC cJ ao fo :: (wI cI cJ cZ a n ah pl ck ct (nI K) pm ja (nI n) (nI B) (nI (S - B)) tp st us fb kA tA lx ly gx gy gu gv ++ wM cI cJ cZ am fa (nI n) (nI B) (nI (S - B)) pl ja ah (nI K) bl bs bk be al tp st mx my kd ky ix iy iu iv))
def LX (p : Program) (s : State) (m : MethodId) (c : Code) (sb L : Nat) (xs : Nat → Int32) (D : va_G) (cI cJ cZ : ClassId) (A : Nat → Prop) : Prop :=
  p.tables.exec = Jvm.exec ∧ c.code = cL_law ∧ c.maxLocals = 8 ∧ s.vm.findClass RL = some m.cls ∧ va_X sb L xs s s.heap ∧ sb < s.heap.size ∧ ¬ A sb ∧ evOK A s s.heap ∧ va_K D vwCl (tysW cI cJ cZ) s ∧ (∀ q : Nat, s.heap.size ≤ q → A q) ∧ L ≤ 2049
theorem sc_1 (i : Nat) : nI i + 1 = nI (i + 1) := nI_1 i
theorem sc_2 (i : Nat) : nI i + 2 = nI (i + 2) := nI_add i 2
theorem sc_3 (i : Nat) : nI i + 3 = nI (i + 3) := nI_add i 3
theorem q_full1 {K : Nat} (hK : K ≤ 4) (h : f_X1_isFull (nI K) = 0) : vp_in (nI K) 4 := by
  by_cases e : K = 4
  · subst e; exact absurd h (by decide)
  · exact vp_in_nI (by omega) (by omega)
theorem q_full2 {K : Nat} (hK : K ≤ 4) (h : ¬ nI K = 4) : vp_in (nI K) 4 := by
  by_cases e : K = 4
  · subst e; exact absurd rfl h
  · exact vp_in_nI (by omega) (by omega)
theorem q_has {K : Nat} {k : Int32} (hK : K ≤ 4) (h : ¬ f_X1_has k (nI K) = 0) : vp_in k 4 := by
  obtain ⟨q, hq, e⟩ := hask_in (by omega) h
  rw [e]; exact vp_in_nI (by omega) (by omega)
theorem q_pos {k : Int32} (h : ¬ f_X0_isPosition k = 0) : vp_in k 16 := by
  obtain ⟨q, hq, e⟩ := pos_in h
  rw [e]; exact vp_in_nI (by omega) (by omega)
theorem q_pos4 {k : Int32} (h : ¬ f_X4_in k.toInt64 0 15 = 0) : vp_in k 16 := q_pos (by rw [← pos_eq]; exact h)
theorem q_st {n B S : Nat} {r : Int32} (hB : B ≤ S) (hS : S ≤ n) (hn : n ≤ 24) (h : ¬ f_X2_stands r (nI B) (nI (S - B)) = 0) : vp_in r n ∧ vp_in r 24 ∧ vp_in (r + 1) (n + 1) := by
  obtain ⟨q, hq, e⟩ := stands_in hB (by omega) h
  rw [e, nI_1]; exact ⟨vp_in_nI (by omega) (by omega), vp_in_nI (by omega) (by omega), vp_in_nI (by omega) (by omega)⟩
theorem q_ring {n : Nat} {r : Int32} (hn : n ≤ 24) (h : ¬ f_X2_has r (nI n) = 0) : vp_in r n ∧ vp_in r 24 := by
  obtain ⟨q, hq, e⟩ := has_in (by omega) h
  rw [e]; exact ⟨vp_in_nI (by omega) (by omega), vp_in_nI (by omega) (by omega)⟩
section REL
variable {X : Int} {n B S K : Nat} {ah pm ja : Int32} {tp us fb kA tA : Nat → Int32} {lx ly gx gy gu gv : Nat → Int64} {al mx my kd ky : Nat → Int32} {ix iy iu iv : Nat → Int64}
theorem q_kA (h : RE X n B S K ah pm ja tp us fb kA tA lx ly gx gy gu gv al mx my kd ky ix iy iu iv) : ∀ i, i < S → vp_in (kA i) 4 := by
  obtain ⟨⟨a1, a2, a3, a4, a5⟩, -, -, -, -, -, p1, -⟩ := h
  intro i hi
  obtain ⟨k, hk, e⟩ := (p1 i hi).2.2.1
  rw [e]; exact vp_in_nI (by omega) (by omega)
theorem q_kd (h : RE X n B S K ah pm ja tp us fb kA tA lx ly gx gy gu gv al mx my kd ky ix iy iu iv) : ∀ i, i < S → vp_in (kd i) 4 := by
  have h9 := q_kA h
  obtain ⟨-, -, -, -, -, -, p1, -⟩ := h
  intro i hi
  rw [(p1 i hi).1]; exact h9 i hi
theorem q_ky (h : RE X n B S K ah pm ja tp us fb kA tA lx ly gx gy gu gv al mx my kd ky ix iy iu iv) : ∀ i, i < B → ¬ ky i = -1 := by
  obtain ⟨⟨a1, a2, a3, a4, a5⟩, -, -, -, -, -, p1, -⟩ := h
  intro i hi
  obtain ⟨-, e2, -, j, hj, e⟩ := p1 i (by omega)
  rw [e2, e]; exact nI_nm1 (by omega)
theorem q_str (h : RE X n B S K ah pm ja tp us fb kA tA lx ly gx gy gu gv al mx my kd ky ix iy iu iv) {r : Int32} (hr : ¬ f_X2_stands r (nI B) (nI (S - B)) = 0) : vp_in (kA r.toNatClampNeg) 4 ∧ vp_in (kd r.toNatClampNeg) 4 := by
  have h1 := q_kA h
  have h2 := q_kd h
  obtain ⟨⟨a1, a2, a3, a4, a5⟩, -⟩ := h
  obtain ⟨q, hq, e⟩ := stands_in a3 (by omega) hr
  rw [e, nI_clamp (by omega)]; exact ⟨h1 q hq, h2 q hq⟩
end REL
