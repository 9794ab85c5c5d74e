theorem zp_abE0 : ∀ K, K < 5 → ∀ o, o < 7 → ∀ i, i < 7 → zp_puts K o i false = (zp_E K o).testBit i := by decide +kernel
theorem zp_E_tb (K o i : Nat) : (zp_E K o).testBit i = (decide (i < 7) && zp_puts K o i false) := zp_bits_tb _ 7 i
theorem zp_T_tb (K o i : Nat) : (zp_T K o).testBit i = (decide (i < 7) && zp_puts K o i true) := zp_bits_tb _ 7 i
theorem zp_abE {K D o q : Nat} (h1 : 10 ≤ q) (h2 : q ≤ 16) : nI (zx_n ((zp_E K o).testBit (q - 10))) = zp_ab K D o q := by
  unfold zp_ab
  rw [if_neg (by omega), if_neg (by omega), if_neg (by omega), if_pos (by omega), zp_E_tb, decide_eq_true (show q - 10 < 7 by omega), show q % 10 = q - 10 by omega]
  rfl
theorem zp_abT {K D o q : Nat} (h1 : 20 ≤ q) (h2 : q ≤ 26) : nI (zx_n ((zp_T K o).testBit (q - 20))) = zp_ab K D o q := by
  unfold zp_ab
  rw [if_neg (by omega), if_neg (by omega), if_neg (by omega), if_neg (by omega), zp_T_tb, decide_eq_true (show q - 20 < 7 by omega), show q % 10 = q - 20 by omega]
  rfl
theorem zd_rng02 {y : Int32} (h0 : ¬ y = 0) (h1 : ¬ y = nI 1) (h2 : ¬ y = nI 2) : zd_rng 0 2 y = none := by
  cases e : zd_rng 0 2 y with
  | none => rfl
  | some q =>
    obtain ⟨rfl, a1, a2⟩ := zd_rng_some (by decide) (by decide) e
    rcases (show q = 0 ∨ q = 1 ∨ q = 2 by omega) with w | w | w <;> subst w <;> first | exact absurd rfl h0 | exact absurd rfl h1 | exact absurd rfl h2
theorem zs_asN {p9 q : Nat} {y : Int32} {K : Nat → Nat} (h : zd_rng 0 4 y = some q) (h2 : ¬ (q = 0 ∨ K p9 = q ∨ (q = 2 ∧ K p9 = 4))) : zs_as (some p9) y K = -1 := by unfold zs_as; simp only [h]; exact if_neg h2
