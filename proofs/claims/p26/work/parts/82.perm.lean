/-! worlds of cells and blocks in another order -/
section PM
variable {C x a b1 b2 b3 r : va_W}
theorem kb0 : (C ++ x).Perm (C ++ x) := List.Perm.refl _
theorem kb1 : ((C ++ b1) ++ x).Perm ((C ++ x) ++ b1) := kRe (L := [C, b1, x]) [0, 2, 1] rfl (by simp) (by simp)
theorem kb2 : (((C ++ b1) ++ b2) ++ x).Perm (((C ++ x) ++ b1) ++ b2) := kRe (L := [C, b1, b2, x]) [0, 3, 1, 2] rfl (by simp) (by simp)
theorem kb3 : ((((C ++ b1) ++ b2) ++ b3) ++ x).Perm ((((C ++ x) ++ b1) ++ b2) ++ b3) := kRe (L := [C, b1, b2, b3, x]) [0, 4, 1, 2, 3] rfl (by simp) (by simp)
theorem kp0 : (C ++ x).Perm (x ++ C) := List.perm_append_comm
theorem kp1 : ((C ++ x) ++ b1).Perm (x ++ (C ++ b1)) := kRe (L := [C, x, b1]) [1, 0, 2] rfl (by simp) (by simp)
theorem kp2 : (((C ++ x) ++ b1) ++ b2).Perm (x ++ ((C ++ b1) ++ b2)) := kRe (L := [C, x, b1, b2]) [1, 0, 2, 3] rfl (by simp) (by simp)
theorem kp3 : ((((C ++ x) ++ b1) ++ b2) ++ b3).Perm (x ++ (((C ++ b1) ++ b2) ++ b3)) := kRe (L := [C, x, b1, b2, b3]) [1, 0, 2, 3, 4] rfl (by simp) (by simp)
theorem ka0 : (a ++ C).Perm (a ++ C) := List.Perm.refl _
theorem ka1 : (a ++ (C ++ b1)).Perm ((a ++ C) ++ b1) := kRe (L := [a, C, b1]) [0, 1, 2] rfl (by simp) (by simp)
theorem ka2 : (a ++ ((C ++ b1) ++ b2)).Perm (((a ++ C) ++ b1) ++ b2) := kRe (L := [a, C, b1, b2]) [0, 1, 2, 3] rfl (by simp) (by simp)
theorem ka3 : (a ++ (((C ++ b1) ++ b2) ++ b3)).Perm ((((a ++ C) ++ b1) ++ b2) ++ b3) := kRe (L := [a, C, b1, b2, b3]) [0, 1, 2, 3, 4] rfl (by simp) (by simp)
theorem kn0 : ((a ++ r) ++ C).Perm ((a ++ C) ++ r) := kRe (L := [a, r, C]) [0, 2, 1] rfl (by simp) (by simp)
theorem kn1 : ((a ++ r) ++ (C ++ b1)).Perm (((a ++ C) ++ b1) ++ r) := kRe (L := [a, r, C, b1]) [0, 2, 3, 1] rfl (by simp) (by simp)
theorem kn2 : ((a ++ r) ++ ((C ++ b1) ++ b2)).Perm ((((a ++ C) ++ b1) ++ b2) ++ r) := kRe (L := [a, r, C, b1, b2]) [0, 2, 3, 4, 1] rfl (by simp) (by simp)
end PM
