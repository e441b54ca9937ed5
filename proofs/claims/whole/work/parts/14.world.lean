/-! THE TWO WORLDS: the class's cells (wI), the reference's (wM) -/
abbrev tysW (cI cJ cZ : ClassId) : List (ClassId × FieldType) := [(cI, .int), (cJ, .long), (cZ, .boolean)]
abbrev wI (cI cJ cZ : ClassId) (a : Nat → Nat) (n : Nat) (ah pl ck ct nk pm ja rg bu pn : Int32) (tp st us fb kA tA : Nat → Int32) (lx ly gx gy gu gv : Nat → Int64) : va_W :=
  [(a 0, .inr (4, [.ref (a 1), .ref (a 5), .ref (a 7), .int ah, .int pl, .int ck, .int ct])),
   (a 1, .inr (2, [.ref (a 2), .ref (a 3), .ref (a 4), .int nk])),
   (a 2, .inl (cI, 4, .inl tp)), (a 3, .inl (cI, 4, .inl st)), (a 4, .inl (cI, 4, .inl us)),
   (a 5, .inr (1, [.ref (a 6), .int pm, .int ja])),
   (a 6, .inl (cZ, 16, .inl fb)),
   (a 7, .inr (3, [.int rg, .int bu, .int pn, .ref (a 8), .ref (a 9), .ref (a 10), .ref (a 11), .ref (a 12), .ref (a 13), .ref (a 14), .ref (a 15)])),
   (a 8, .inl (cI, n, .inl kA)), (a 9, .inl (cI, n, .inl tA)), (a 10, .inl (cJ, n, .inr (.inl lx))), (a 11, .inl (cJ, n, .inr (.inl ly))),
   (a 12, .inl (cJ, n + 1, .inr (.inl gx))), (a 13, .inl (cJ, n + 1, .inr (.inl gy))), (a 14, .inl (cJ, n + 1, .inr (.inl gu))), (a 15, .inl (cJ, n + 1, .inr (.inl gv)))]
abbrev wM (cI cJ cZ : ClassId) (a : Nat → Nat) (fa rg bu pn pl ja lk nk bl : Int32) (bs : Int64) (bk be : Int32) (al tp st mx my kd ky : Nat → Int32) (gx gy gu gv : Nat → Int64) : va_W :=
  [(a 0, .inr (5, [.int fa, .int rg, .int bu, .int pn, .int pl, .int ja, .int lk, .ref (a 1), .int nk, .ref (a 2), .ref (a 3), .ref (a 4), .ref (a 5), .ref (a 6), .ref (a 7), .ref (a 8), .ref (a 9), .ref (a 10), .ref (a 11), .int bl, .long bs, .int bk, .int be])),
   (a 1, .inl (cZ, 16, .inl al)), (a 2, .inl (cI, 4, .inl tp)), (a 3, .inl (cI, 4, .inl st)), (a 4, .inl (cI, 24, .inl mx)), (a 5, .inl (cI, 24, .inl my)), (a 6, .inl (cI, 24, .inl kd)), (a 7, .inl (cI, 24, .inl ky)),
   (a 8, .inl (cJ, 24, .inr (.inl gx))), (a 9, .inl (cJ, 24, .inr (.inl gy))), (a 10, .inl (cJ, 24, .inr (.inl gu))), (a 11, .inl (cJ, 24, .inr (.inl gv)))]
theorem pNil {D : va_G} {H : Heap} : va_P D vwCl [] H := fun k q h => by simp at h
