/-! few -/
theorem zx_n_lt (b : Bool) : zx_n b < 2 ^ 31 := by cases b <;> exact Nat.le_of_ble_eq_true rfl
theorem zp_pc_le (x : Nat) : zp_pc x ≤ 7 := zp_cnt_le _ 7
theorem zp_pc_lt (x : Nat) : zp_pc x < 2 ^ 31 := by have := zp_pc_le x; omega
def zp_few (b : Option Nat) (q : Nat) : Int32 := match b with
  | none => -1
  | some k => if q = 1 then nI k else nI (zp_pc k)
theorem zp_o_some {b : Option Nat} (h : ¬ zp_o b = -1) : ∃ k, b = some k := by
  cases b with
  | none => exact absurd rfl h
  | some k => exact ⟨k, rfl⟩
theorem zp_o_none {b : Option Nat} (hb : ∀ k, b = some k → k < 2 ^ 31) (h : zp_o b = -1) : b = none := by
  cases b with
  | none => rfl
  | some k =>
    have h1 := hb k rfl
    have h2 : (nI k).toInt = (-1 : Int32).toInt := congrArg Int32.toInt h
    rw [nI_toInt h1, show (-1 : Int32).toInt = -1 from by decide] at h2
    omega
theorem zp_few_n {b : Option Nat} {q : Nat} (h : b = none) : zp_o b = zp_few b q := by subst h; rfl
theorem zp_bst_lt {g : Nat → Bool} : ∀ {n b : Nat}, zp_bst g n = some b → b < n
  | 0, b, h => by cases h
  | n + 1, b, h => by
    rw [zp_bst] at h
    cases e : zp_bst g n with
    | none =>
      rw [e] at h
      by_cases q : g n = true
      · simp only [q, if_true] at h; cases h; omega
      · simp only [q] at h; simp at h
    | some c =>
      have ih := zp_bst_lt e
      rw [e] at h
      by_cases q : zp_pc n < zp_pc c ∧ g n = true
      · simp only [q, and_self, if_true] at h; cases h; omega
      · simp only [if_neg q] at h; cases h; omega
section ZBS
variable {g : Nat → Bool} {i b : Nat}
theorem zp_bst_n1 (h : zp_bst g i = none) (hg : g i = true) : nI i = zp_o (zp_bst g (i + 1)) := by rw [zp_bst, h]; simp only [hg, if_true]; rfl
theorem zp_bst_n0 (h : zp_bst g i = none) (hg : g i = false) : zp_o (zp_bst g i) = zp_o (zp_bst g (i + 1)) := by rw [zp_bst, h]; simp [hg]
theorem zp_bst_s1 (h : zp_bst g i = some b) (h2 : zp_pc i < zp_pc b) (hg : g i = true) : nI i = zp_o (zp_bst g (i + 1)) := by rw [zp_bst, h]; simp only [h2, hg, and_self, if_true]; rfl
theorem zp_bst_s0 (h : zp_bst g i = some b) (h2 : zp_pc b ≤ zp_pc i ∨ g i = false) : nI b = zp_o (zp_bst g (i + 1)) := by
  rw [zp_bst, h]
  have : ¬ (zp_pc i < zp_pc b ∧ g i = true) := by
    rintro ⟨h3, h4⟩
    rcases h2 with h2 | h2
    · omega
    · rw [h4] at h2; cases h2
  simp only [if_neg this]; rfl
end ZBS
noncomputable def zp_bs (g : Nat → Bool) : Option Nat := Classical.choose (⟨zp_bst g 128, rfl⟩ : ∃ b, b = zp_bst g 128)
theorem zp_bs_eq (g : Nat → Bool) : zp_bs g = zp_bst g 128 := Classical.choose_spec (⟨zp_bst g 128, rfl⟩ : ∃ b, b = zp_bst g 128)
def zd_few (o : Option Nat) (n : Nat) (y t : Int32) : Int32 ⊕ (Nat × Nat × Nat) := match o with
  | none => .inl (-101)
  | some d => match zd_rng 0 127 y with
    | none => .inl (-102)
    | some w => match zd_rng 0 1 t with
      | none => .inl (-102)
      | some q => if n = 40 then .inl (-103) else .inr (d, w, q)
def zd_found (o1 o2 : Option Nat) (n : Nat) : Int32 ⊕ (Nat × Nat) := match o1 with
  | none => .inl (-101)
  | some x => match o2 with
    | none => .inl (-101)
    | some y => if n = 8 then .inl (-104) else .inr (x, y)
/-! what was found -/
section ZFD
variable {k d w : Nat} {FI FO FS : Nat → Nat}
theorem zp_fd_a (h : zp_fd k FI FO FS d w = false) : zp_fd (k + 1) FI FO FS d w = false := by
  unfold zp_fd at *
  rw [zp_any]
  simp only [Bool.not_eq_false'] at h ⊢
  rw [h]; rfl
theorem zp_fd_b (h : zp_fd k FI FO FS d w = true) (h2 : FI k ≠ d) : zp_fd (k + 1) FI FO FS d w = true := by
  unfold zp_fd at *
  rw [zp_any_f1 (by simp [h2])]; exact h
theorem zp_fd_c (h2 : FI k = d) (h3 : zx_n (w.testBit (FO k)) ≠ FS k) : zp_fd (k + 1) FI FO FS d w = false := by
  unfold zp_fd
  rw [zp_any_t1 (by simp [h2, h3])]; rfl
theorem zp_fd_d (h : zp_fd k FI FO FS d w = true) (h3 : zx_n (w.testBit (FO k)) = FS k) : zp_fd (k + 1) FI FO FS d w = true := by
  unfold zp_fd at *
  rw [zp_any_f1 (by simp [h3])]; exact h
end ZFD
theorem zp_any_ff1 {f : Nat → Bool} {i : Nat} (h : zp_any f i = false) (h2 : f i = false) : zp_any f (i + 1) = false := by rw [zp_any, h, h2]; rfl
theorem zp_any_up {f : Nat → Bool} {i n : Nat} (hi : i ≤ n) (h : zp_any f i = true) : zp_any f n = true := by
  obtain ⟨k, h1, h2⟩ := (zp_any_iff f i).mp h
  exact (zp_any_iff f n).mpr ⟨k, by omega, h2⟩
theorem zx_b_tt {b c : Bool} (h : b = true) (h2 : c = true) : zx_b b = zx_b c := by rw [h, h2]
theorem zx_dg0 : ∀ j : Nat, j < 9 → (nI 4 < zx_i ((j : Int) - 3) ↔ j = 8) := by decide +kernel
theorem zx_dgt {j : Nat} (hj : j ≤ 8) (h : nI 4 < zx_i ((j : Int) - 3)) : j = 8 := (zx_dg0 j (by omega)).mp h
theorem zx_dle {j : Nat} (hj : j ≤ 8) (h : ¬ nI 4 < zx_i ((j : Int) - 3)) : j ≤ 7 := by
  rw [zx_dg0 j (by omega)] at h; omega
theorem zx_dj : ∀ j : Nat, j < 9 → zx_i ((j : Int) - 3) - (-3) = nI j := by decide +kernel
noncomputable def zm_del (s : Nat → Nat) (a : Nat → Nat → Nat) (d : Nat) : Nat := zp_bits (fun j9 => zp_anb (s 9) (a 10) (a 11) (a 12) d (zm_f s a d ((j9 : Int) - 3) (a 4 d))) 8
def zs_de (o : Option Nat) (F : Nat → Int32) : Int32 := match o with
  | none => -101
  | some d => F d
