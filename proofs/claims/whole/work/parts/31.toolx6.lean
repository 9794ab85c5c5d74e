/-! weeks of the class -/
noncomputable def zy_wk (s : Nat → Nat) (a : Nat → Nat → Nat) (z : Nat → Int) (sd k : Nat) : Bool :=
  !decide (zy_s (zy_f (zy_Em s a 99 (k % 9)) (zy_Tm s a 99 (k % 9)) (zp_lq sd k) (zp_ah (s 10) (z (k % 9)))) (zp_ah (s 10) (z (k % 9))) = 0)
noncomputable def zy_wks (s : Nat → Nat) (a : Nat → Nat → Nat) (z : Nat → Int) (t sd q : Nat) : Int32 := if q = 0 then nI (zp_cnt (zy_wk s a z sd) (t * 9)) else nI (zp_sq sd (7 * (t * 9)))
theorem zy_Em_y {s y : Nat → Nat} {a : Nat → Nat → Nat} {e d : Nat} (gy : ∀ k, k < 31 → y k = s k) : zy_Em y a e d = zy_Em s a e d := by unfold zy_Em; rw [gy 11 (by decide)]
theorem zy_Tm_y {s y : Nat → Nat} {a : Nat → Nat → Nat} {e d : Nat} (gy : ∀ k, k < 31 → y k = s k) : zy_Tm y a e d = zy_Tm s a e d := by unfold zy_Tm; rw [gy 11 (by decide)]
theorem zy_wkB {s : Nat → Nat} {a : Nat → Nat → Nat} {z : Nat → Int} {sd R d E T L : Nat} {w : Int} (hd : d < 9) (g1 : L = zp_lq sd (9 * R + d)) (g2 : E = zy_Em s a 99 d) (g3 : T = zy_Tm s a 99 d) (gw : w = zp_ah (s 10) (z d)) : zy_wk s a z sd (9 * R + d) = !decide (zy_s (zy_f E T L w) w = 0) := by
  subst g1 g2 g3 gw
  unfold zy_wk
  rw [show (9 * R + d) % 9 = d by omega]
theorem zy_bor1 {f : Nat → Bool} {n L : Nat} (g : L = zp_bits f n) (h : f n = true) : L ||| 2 ^ n = zp_bits f (n + 1) := by rw [zp_bits_or, h, g]; rfl
theorem zy_bor0 {f : Nat → Bool} {n L : Nat} (g : L = zp_bits f n) (h : f n = false) : L = zp_bits f (n + 1) := by rw [zp_bits_or, h, g]; exact (Nat.or_zero _).symm
