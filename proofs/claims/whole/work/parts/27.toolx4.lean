/-! courses -/
def zy_orr (c : Nat → Bool) (f : Nat → Nat) : Nat → Nat
  | 0 => 0
  | n + 1 => zy_orr c f n ||| cond (c n) (f n) 0
theorem zy_orr0 {c : Nat → Bool} {f : Nat → Nat} {k E : Nat} (hE : E = zy_orr c f k) (h : c k = false) : E = zy_orr c f (k + 1) := by rw [zy_orr, h, cond_false, Nat.or_zero]; exact hE
theorem zy_orr1 {c : Nat → Bool} {f : Nat → Nat} {k E : Nat} (hE : E = zy_orr c f k) (h : c k = true) : E ||| f k = zy_orr c f (k + 1) := by rw [zy_orr, h, cond_true, hE]
theorem zy_or_lt {x y : Nat} (h1 : x < 128) (h2 : y < 128) : x ||| y < 128 := Nat.or_lt_two_pow (n := 7) h1 h2
theorem zy_orr_lt {c : Nat → Bool} {f : Nat → Nat} (hf : ∀ k, f k < 128) : ∀ n, zy_orr c f n < 128
  | 0 => Nat.zero_lt_succ 127
  | n + 1 => by
    rw [zy_orr]
    refine zy_or_lt (zy_orr_lt hf n) ?_
    cases c n
    · exact Nat.zero_lt_succ 127
    · exact hf n
def zy_Em (s : Nat → Nat) (a : Nat → Nat → Nat) (e d : Nat) : Nat := zy_orr (fun p9 => !decide (p9 = e) && decide (a 14 p9 = d)) (fun p9 => zp_E (a 13 p9) (a 15 p9)) (s 11)
def zy_Tm (s : Nat → Nat) (a : Nat → Nat → Nat) (e d : Nat) : Nat := zy_orr (fun p9 => !decide (p9 = e) && decide (a 14 p9 = d)) (fun p9 => zp_T (a 13 p9) (a 15 p9)) (s 11)
theorem zy_Em_lt (s : Nat → Nat) (a : Nat → Nat → Nat) (e d : Nat) : zy_Em s a e d < 128 := zy_orr_lt (fun _ => zp_E_lt _ _) _
theorem zy_Tm_lt (s : Nat → Nat) (a : Nat → Nat → Nat) (e d : Nat) : zy_Tm s a e d < 128 := zy_orr_lt (fun _ => zp_T_lt _ _) _
def zy_F (s : Nat → Nat) (a : Nat → Nat → Nat) (z : Nat → Int) (e d : Nat) : Nat → Nat := zy_f (zy_Em s a e d) (zy_Tm s a e d) (a 16 d) (zp_ah (s 10) (z d))
theorem zy_F_lt (s : Nat → Nat) (a : Nat → Nat → Nat) (z : Nat → Int) (e d w : Nat) : zy_F s a z e d w < 128 := zp_sh_lt _ _
theorem zx_nm1 {k : Nat} (hk : k < 2 ^ 31) : ¬ nI k = -1 := by
  intro h
  have h2 := congrArg Int32.toInt h
  rw [nI_toInt hk, show (-1 : Int32).toInt = -1 from by decide] at h2
  omega
theorem zy_hls (E T q : Nat) (ah : Int) : zy_h (zy_f E T q ah) ah < 128 ∧ zy_l (zy_f E T q ah) ah < 128 ∧ zy_s (zy_f E T q ah) ah < 128 := by
  have h1 : zy_h (zy_f E T q ah) ah < 128 := by
    unfold zy_h
    split
    · exact zy_f_lt _ _ _ _ _
    · exact zy_it_lt _ _ _ _ _
  have h2 : zy_l (zy_f E T q ah) ah < 128 := by
    unfold zy_l
    split
    · exact zx_x127 (zy_f_lt _ _ _ _ _)
    · exact zx_x127 (zy_it_lt _ _ _ _ _)
  exact ⟨h1, h2, zx_x127 (zy_or_lt h1 h2)⟩
def zy_can (s : Nat → Nat) (a : Nat → Nat → Nat) (z : Nat → Int) (p K o : Nat) : Bool :=
  zy_al (zy_h (zy_f (zy_Em s a p (a 14 p) ||| zp_E K o) (zy_Tm s a p (a 14 p) ||| zp_T K o) (a 16 (a 14 p)) (zp_ah (s 10) (z (a 14 p)))) (zp_ah (s 10) (z (a 14 p))))
    (zy_l (zy_f (zy_Em s a p (a 14 p) ||| zp_E K o) (zy_Tm s a p (a 14 p) ||| zp_T K o) (a 16 (a 14 p)) (zp_ah (s 10) (z (a 14 p)))) (zp_ah (s 10) (z (a 14 p))))
    (zy_s (zy_f (zy_Em s a p (a 14 p) ||| zp_E K o) (zy_Tm s a p (a 14 p) ||| zp_T K o) (a 16 (a 14 p)) (zp_ah (s 10) (z (a 14 p)))) (zp_ah (s 10) (z (a 14 p)))) (a 17 (a 14 p)) (a 18 (a 14 p))
noncomputable def zy_dn (s : Nat → Nat) (a : Nat → Nat → Nat) (z : Nat → Int) (d q : Nat) : Int32 :=
  if q = 0 then zx_i (z d) + nI 10 else if q = 1 then zx_i (zp_ah (s 10) (z d)) + nI 10 else if q = 2 then nI (zp_bits (fun p9 => decide (a 14 p9 = d)) (s 11)) else if q = 3 then nI (a 16 d)
  else if q = 4 then zy_na (zy_h (zy_F s a z 99 d) (zp_ah (s 10) (z d))) (zy_l (zy_F s a z 99 d) (zp_ah (s 10) (z d))) (zy_s (zy_F s a z 99 d) (zp_ah (s 10) (z d)))
  else if q = 5 then zp_no 7 (zp_fst (fun i9 => (zy_s (zy_F s a z 99 d) (zp_ah (s 10) (z d))).testBit i9) 7)
  else zy_lw (zy_l (zy_F s a z 99 d) (zp_ah (s 10) (z d))) (zy_s (zy_F s a z 99 d) (zp_ah (s 10) (z d)))
section ZYD
variable {s : Nat → Nat} {a : Nat → Nat → Nat} {z : Nat → Int} {d : Nat}
theorem zy_dn0 : zy_dn s a z d 0 = zx_i (z d) + nI 10 := by unfold zy_dn; rw [if_pos rfl]
theorem zy_dn1 : zy_dn s a z d 1 = zx_i (zp_ah (s 10) (z d)) + nI 10 := by unfold zy_dn; rw [if_neg (by decide), if_pos rfl]
theorem zy_dn2 : zy_dn s a z d 2 = nI (zp_bits (fun p9 => decide (a 14 p9 = d)) (s 11)) := by unfold zy_dn; rw [if_neg (by decide), if_neg (by decide), if_pos rfl]
theorem zy_dn3 : zy_dn s a z d 3 = nI (a 16 d) := by unfold zy_dn; rw [if_neg (by decide), if_neg (by decide), if_neg (by decide), if_pos rfl]
theorem zy_dn4 : zy_dn s a z d 4 = zy_na (zy_h (zy_F s a z 99 d) (zp_ah (s 10) (z d))) (zy_l (zy_F s a z 99 d) (zp_ah (s 10) (z d))) (zy_s (zy_F s a z 99 d) (zp_ah (s 10) (z d))) := by unfold zy_dn; rw [if_neg (by decide), if_neg (by decide), if_neg (by decide), if_neg (by decide), if_pos rfl]
theorem zy_dn5 : zy_dn s a z d 5 = zp_no 7 (zp_fst (fun i9 => (zy_s (zy_F s a z 99 d) (zp_ah (s 10) (z d))).testBit i9) 7) := by unfold zy_dn; rw [if_neg (by decide), if_neg (by decide), if_neg (by decide), if_neg (by decide), if_neg (by decide), if_pos rfl]
theorem zy_dn6 : zy_dn s a z d 6 = zy_lw (zy_l (zy_F s a z 99 d) (zp_ah (s 10) (z d))) (zy_s (zy_F s a z 99 d) (zp_ah (s 10) (z d))) := by unfold zy_dn; rw [if_neg (by decide), if_neg (by decide), if_neg (by decide), if_neg (by decide), if_neg (by decide), if_neg (by decide)]
end ZYD
def zy_sr (s : Nat → Nat) (a : Nat → Nat → Nat) (z : Nat → Int) (d o : Nat) : Int32 := zy_su (zy_h (zy_F s a z 99 d) (zp_ah (s 10) (z d))) (zy_l (zy_F s a z 99 d) (zp_ah (s 10) (z d))) (zy_s (zy_F s a z 99 d) (zp_ah (s 10) (z d))) o
theorem zd_rng06 {y : Int32} (h0 : ¬ y = nI 0) (h1 : ¬ y = nI 1) (h2 : ¬ y = nI 2) (h3 : ¬ y = nI 3) (h4 : ¬ y = nI 4) (h5 : ¬ y = nI 5) (h6 : ¬ y = nI 6) : zd_rng 0 6 y = none := by
  cases e : zd_rng 0 6 y with
  | none => rfl
  | some q =>
    obtain ⟨rfl, a1, a2⟩ := zd_rng_some (by decide) (by decide) e
    rcases (show q = 0 ∨ q = 1 ∨ q = 2 ∨ q = 3 ∨ q = 4 ∨ q = 5 ∨ q = 6 by omega) with w | w | w | w | w | w | w <;> subst w <;> first | exact absurd rfl h0 | exact absurd rfl h1 | exact absurd rfl h2 | exact absurd rfl h3 | exact absurd rfl h4 | exact absurd rfl h5 | exact absurd rfl h6
theorem zy_I_y {s y : Nat → Nat} {a : Nat → Nat → Nat} {z : Nat → Int} (h : zy_I s a z) (gy : ∀ k, k < 31 → y k = s k) : zy_I y a z := by
  obtain ⟨⟨i1, i2, i5, i7, i8, i10, i11, i12⟩, ⟨i20, i21, i22⟩, iR⟩ := h
  refine ⟨⟨?_, ?_, ?_, ?_, ?_, ?_, ?_, ?_⟩, ⟨?_, ?_, ?_⟩, iR⟩
  all_goals rw [gy _ (by decide)]; assumption
