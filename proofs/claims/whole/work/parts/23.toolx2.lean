def zy_I (s : Nat → Nat) (a : Nat → Nat → Nat) (z : Nat → Int) : Prop :=
  (s 1 ≤ 12 ∧ s 2 ≤ 1 ∧ s 5 ≤ 1 ∧ s 7 ≤ 1000 ∧ s 8 ≤ 40 ∧ s 10 ≤ 3 ∧ s 11 ≤ 6 ∧ s 12 ≤ 8) ∧ (s 20 ≤ 3 ∧ s 21 ≤ 6 ∧ s 22 ≤ 8) ∧
  (∀ k, k < 12 → a 0 k < 128) ∧ (∀ p, p < 6 → a 13 p < 5 ∧ a 14 p < 9 ∧ a 15 p < 7) ∧ (∀ d, d < 9 → a 16 d < 128 ∧ a 17 d < 128 ∧ a 18 d < 128) ∧ (∀ d, d < 9 → -2 ≤ z d ∧ z d ≤ 3) ∧
  (∀ p, p < 6 → a 23 p < 5 ∧ a 24 p < 9 ∧ a 25 p < 7) ∧ (∀ d, d < 9 → a 26 d < 128 ∧ a 27 d < 128 ∧ a 28 d < 128)
theorem zp_bitsFF {f : Nat → Bool} {n : Nat} (h : f n = false) : nI (zp_bits f n) = nI (zp_bits f (n + 1)) := by rw [zp_bits_or, h]; simp
theorem zd_perF {n : Nat} {x : Int32} (hn : n < 2 ^ 31) (h : x < 0 ∨ nI n ≤ x) : (zd_per n x).isSome = false := by
  cases e : zd_per n x with
  | none => rfl
  | some k =>
    obtain ⟨rfl, hk⟩ := zd_per_some hn e
    rcases h with h | h
    · exact absurd h (nI_pos (by omega))
    · rw [nI_leI hn (by omega)] at h; omega
theorem zd_perT {n : Nat} {x : Int32} (hn : n < 2 ^ 31) (h1 : ¬ x < 0) (h2 : ¬ nI n ≤ x) : (zd_per n x).isSome = true := by
  obtain ⟨k, hk, rfl⟩ := nI_of h1
  rw [nI_leI hn hk] at h2
  unfold zd_per zd_rng
  rw [if_neg (by omega), if_pos ⟨(nI_leI (by decide) hk).mpr (Nat.zero_le _), (nI_leI hk (by omega)).mpr (by omega)⟩]
  rfl
theorem zx_lt3 {x : Int32} (h : x < nI 4) : x ≤ nI 3 := by
  rw [Int32.lt_iff_toInt_lt, nI_toInt (by decide)] at h
  rw [Int32.le_iff_toInt_le, nI_toInt (by decide)]
  omega
theorem zp_okld {k c : Nat} (h : zp_okl k c = true) (hk : k < 9) : zp_dl c ≠ 99 := by
  unfold zp_okl at h; rw [if_pos hk] at h
  exact of_decide_eq_true h
