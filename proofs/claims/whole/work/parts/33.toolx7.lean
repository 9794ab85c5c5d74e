/-! counts of the class -/
noncomputable def zy_ad (s : Nat → Nat) (a : Nat → Nat → Nat) (z : Nat → Int) : Nat := if s 2 = 0 then 0 else zp_cnt (fun d9 => decide (zy_s (zy_F s a z 99 d9) (zp_ah (s 10) (z d9)) = 0)) 9
theorem zy_F_y {s y : Nat → Nat} {a : Nat → Nat → Nat} {z : Nat → Int} {e d : Nat} (gy : ∀ k, k < 31 → y k = s k) : zy_F y a z e d = zy_F s a z e d := by
  unfold zy_F
  rw [zy_Em_y gy, zy_Tm_y gy, gy 10 (by decide)]
theorem zy_adB {s y : Nat → Nat} {a : Nat → Nat → Nat} {z : Nat → Int} {d q : Nat} (gy : ∀ k, k < 31 → y k = s k) (p6 : q = zy_s (zy_F y a z 99 d) (zp_ah (y 10) (z d))) : decide (zy_s (zy_F s a z 99 d) (zp_ah (s 10) (z d)) = 0) = decide (q = 0) := by
  rw [p6, zy_F_y gy, gy 10 (by decide)]
noncomputable def zy_hm (s : Nat → Nat) (a : Nat → Nat → Nat) (z : Nat → Int) (q : Nat) : Nat :=
  if q = 0 then zy_ad s a z else if q = 1 then s 10 else if q = 2 then s 11 else if q = 3 then zp_sum (fun d9 => zp_pc (a 16 d9)) 9 else if q = 4 then s 12 else if q = 5 then s 1 else if q = 6 then s 7 else s 8
