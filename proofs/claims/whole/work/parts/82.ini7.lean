theorem mz_zero : (fun _ => 0) = mz (fun _ => 0) := by
  funext k
  unfold mz
  (repeat' split) <;> rfl
theorem mz_ini0 : zup (zup (zup (zup (zup (zup (zup (zup (zup (zup (fun _ => 0) 0 20) 1 20) 2 25) 3 90) 4 2) 5 20) 6 150) 7 80) 8 80) 9 50 = iniF 0 := by
  funext k
  unfold iniF fvG zup
  dsimp only
  (repeat' split) <;> omega
theorem mz_iniS {n : Nat} (h : n < 24) : zup (zup (iniF n) (10 + n) 100) (34 + n) 3 = iniF (n + 1) := iniF_s h
