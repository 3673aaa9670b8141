/-! the first wall -/
def gd (l : List Nat) : Nat → Nat := fun k => l.getD k 0
def pln0 : PL := (gd [0, 0, 0, 0, 0, 0, 0, 0, 3, 0, 0, 0, 0, 1, 0, 0, 2], gd [0, 7, 3, 0, 1, 12, 4, 1, 2, 9, 5, 2, 3, 16, 2, 0, 1, 2, 6, 4], gd [0, 4, 3, 0, 1, 3, 4, 8, 2, 6, 2, 17], 6, 3, 5, 3)
theorem zN_b (j : Nat) : zN j < 100 := by show 0 < 100; omega
theorem clN_b (j : Nat) : clN zN 24 j < 100 := by
  unfold clN
  split
  · omega
  · exact zN_b j
abbrev pz0 : PL := (zN, zN, zN, 0, 0, 0, 0)
