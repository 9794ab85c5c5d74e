/-! who -/
def zm_k (a : Nat → Nat → Nat) (p c : Nat) : Nat → Nat → Nat := zx_up (zx_up a 6 (zx_up (a 6) p (c / 7))) 8 (zx_up (a 8) p (c % 7))
noncomputable def zm_who (s : Nat → Nat) (a : Nat → Nat → Nat) (z : Nat → Int) (p c : Nat) : Bool :=
  zp_anb (s 9) (a 10) (a 11) (a 12) (a 7 p) (zm_f s (zm_k a p c) (a 7 p) (zp_ah (s 3) (z (a 7 p))) (a 4 (a 7 p)))
def zp_lsd (F : Nat → Bool) : Nat → Option Nat
  | 0 => none
  | m + 1 => cond (F (34 - m)) (some (34 - m)) (zp_lsd F m)
def zp_who (F : Nat → Bool) (q : Nat) : Int32 := if q = 0 then nI (zp_cnt (fun t8 => F (34 - t8)) 35) else zp_o (zp_lsd F 35)
theorem zp_lsdF {F : Nat → Bool} {m : Nat} (h : F (34 - m) = false) : zp_o (zp_lsd F m) = zp_o (zp_lsd F (m + 1)) := by rw [zp_lsd, h]; rfl
theorem zp_lsdT {F : Nat → Bool} {m : Nat} (h : F (34 - m) = true) : nI (34 - m) = zp_o (zp_lsd F (m + 1)) := by rw [zp_lsd, h]; rfl
theorem zx_up_up {α : Type} {f g : Nat → α} {p : Nat} {v : α} (h : ∀ j, j ≠ p → f j = g j) : zx_up f p v = zx_up g p v := by
  funext j
  rw [zx_up_if, zx_up_if]
  by_cases q : j = p
  · rw [if_pos q, if_pos q]
  · rw [if_neg q, if_neg q, h j q]
theorem zm_who_eq {s : Nat → Nat} {a b : Nat → Nat → Nat} {p c d d2 : Nat} {ah : Int} (g6 : ∀ j, j ≠ p → b 6 j = a 6 j) (g8 : ∀ j, j ≠ p → b 8 j = a 8 j) (gk : ∀ k, k ≠ 6 → k ≠ 8 → b k = a k) : zp_anb (s 9) (b 10) (b 11) (b 12) d (zm_f s (zm_k b p c) d ah (b 4 d2)) = zp_anb (s 9) (a 10) (a 11) (a 12) d (zm_f s (zm_k a p c) d ah (a 4 d2)) := by
  have e1 : zm_f s (zm_k b p c) = zm_f s (zm_k a p c) := by
    funext d ah q w
    show zp_sh (zp_put (s 5) (zx_up (b 6) p (c / 7)) (b 7) (zx_up (b 8) p (c % 7)) d w ||| q) ah = zp_sh (zp_put (s 5) (zx_up (a 6) p (c / 7)) (a 7) (zx_up (a 8) p (c % 7)) d w ||| q) ah
    rw [zx_up_up g6, zx_up_up g8, gk 7 (by decide) (by decide)]
  rw [e1, gk 10 (by decide) (by decide), gk 11 (by decide) (by decide), gk 12 (by decide) (by decide), gk 4 (by decide) (by decide)]
theorem zm_back {a b : Nat → Nat → Nat} {p : Nat} (g6 : ∀ j, j ≠ p → b 6 j = a 6 j) (g8 : ∀ j, j ≠ p → b 8 j = a 8 j) (gk : ∀ k, k ≠ 6 → k ≠ 8 → b k = a k) : zx_up (zx_up b 6 (zx_up (b 6) p (a 6 p))) 8 (zx_up (b 8) p (a 8 p)) = a := by
  funext k j
  rw [zx_up_if]
  by_cases h8 : k = 8
  · rw [if_pos h8, zx_up_if, h8]
    by_cases q : j = p
    · rw [if_pos q, q]
    · rw [if_neg q, g8 j q]
  · rw [if_neg h8, zx_up_if]
    by_cases h6 : k = 6
    · rw [if_pos h6, zx_up_if, h6]
      by_cases q : j = p
      · rw [if_pos q, q]
      · rw [if_neg q, g6 j q]
    · rw [if_neg h6, gk k h6 h8]
theorem zm_I_k {s : Nat → Nat} {b : Nat → Nat → Nat} {z : Nat → Int} {p c : Nat} (h : zm_I s b z) (hp : p < 6) (hc : c < 35) : zm_I s (zx_up (zx_up b 6 (zx_up (b 6) p (c / 7))) 8 (zx_up (b 8) p (c % 7))) z := by
  obtain ⟨h1, h2, iP, iF, iL, iG, iZ, jL, jP, jF⟩ := h
  refine ⟨h1, h2, fun j hj => ?_, iF, iL, iG, iZ, jL, jP, jF⟩
  obtain ⟨a1, a2, a3⟩ := iP j hj
  refine ⟨?_, a2, ?_⟩
  · show zx_up (b 6) p (c / 7) j < 5
    rw [zx_up_if]
    split
    · omega
    · exact a1
  · show zx_up (b 8) p (c % 7) j < 7
    rw [zx_up_if]
    split
    · omega
    · exact a3
theorem zx_decI (a n : Nat) : nI a + Int32.ofInt (-(n : Int)) = zx_i ((a : Int) - n) := zx_i_add a (-n)
theorem zx_c270 : ∀ m : Nat, m < 36 → (zx_i (34 - (m : Int)) < 0 ↔ m = 35) := by decide +kernel
theorem zx_c27t {m : Nat} (hm : m ≤ 35) (h : zx_i (34 - (m : Int)) < 0) : m = 35 := (zx_c270 m (by omega)).mp h
theorem zx_c27f {m : Nat} (hm : m ≤ 35) (h : ¬ zx_i (34 - (m : Int)) < 0) : m ≤ 34 := by
  rw [zx_c270 m (by omega)] at h; omega
theorem zx_c34 {m : Nat} (hm : m ≤ 34) : zx_i (34 - (m : Int)) = nI (34 - m) := by
  rw [← zx_i_n]; congr 1; omega
/-! draws -/
def zp_nx (x : Nat) : Nat := (1103515245 * x + 12345) % 2147483648
theorem zp_nx_lt (x : Nat) : zp_nx x < 2147483648 := Nat.mod_lt _ (by decide)
theorem zx_andL (a b : Nat) : lN a &&& lN b = lN (a &&& b) := by
  apply Int64.toBitVec_inj.1
  show BitVec.ofNat 64 a &&& BitVec.ofNat 64 b = BitVec.ofNat 64 (a &&& b)
  apply BitVec.eq_of_getLsbD_eq
  intro i hi
  simp [hi]
theorem zx_draw1 (x : Nat) : ((((1103515245 : Int64) * (lN x)) + (12345 : Int64)) &&& (2147483647 : Int64)) = lN (zp_nx x) := by
  rw [show (1103515245 : Int64) = lN 1103515245 from rfl, show (12345 : Int64) = lN 12345 from rfl, show (2147483647 : Int64) = lN (2 ^ 31 - 1) from rfl, lN_mul, lN_add, zx_andL, Nat.and_two_pow_sub_one_eq_mod]
  rfl
theorem zx_draw2 (x : Nat) : lN (zp_nx x) / (65536 : Int64) = lN (zp_nx x / 65536) := by
  have := zp_nx_lt x
  rw [show (65536 : Int64) = lN 65536 from rfl, pk_lDiv (by omega) (by decide) (by decide)]
theorem zx_draw3 (x : Nat) : (lN (zp_nx x / 65536) - lN (zp_nx x / 65536) / (nI 4).toInt64 * (nI 4).toInt64).toInt32 = nI (zp_nx x / 65536 % 4) := by
  have := zp_nx_lt x
  rw [nI_l (by decide), pk_lRem (by omega) (by decide) (by decide), lN_i]
def zp_sq (sd : Nat) : Nat → Nat
  | 0 => sd
  | n + 1 => zp_nx (zp_sq sd n)
def zp_lq (sd k : Nat) : Nat := zp_bits (fun o9 => decide (zp_sq sd (7 * k + o9 + 1) / 65536 % 4 = 0)) 7
noncomputable def zp_wk (s : Nat → Nat) (a : Nat → Nat → Nat) (z : Nat → Int) (sd k : Nat) : Bool := zp_any (zp_ag (zm_f s a (k % 9) (zp_ah (s 3) (z (k % 9))) (zp_lq sd k))) 128
noncomputable def zp_wks (s : Nat → Nat) (a : Nat → Nat → Nat) (z : Nat → Int) (t sd q : Nat) : Int32 := if q = 0 then nI (zp_cnt (fun k9 => !zp_wk s a z sd k9) (t * 9)) else nI (zp_sq sd (7 * (t * 9)))
def zd_weeks (c : Nat) (x y w : Int32) : Int32 ⊕ (Nat × Nat × Nat) := match zd_rng 1 12 x with
  | none => .inl (-102)
  | some t => if y < 0 then .inl (-102) else match zd_rng 0 1 w with
    | none => .inl (-102)
    | some q => if c = 0 then .inl (-103) else .inr (t, y.toNatClampNeg, q)
theorem zd_wk_s {c t q : Nat} {x y w : Int32} (h1 : zd_rng 1 12 x = some t) (h2 : ¬ y < 0) (h3 : zd_rng 0 1 w = some q) (h4 : c = 0) : zd_weeks c x y w = .inl (-103) := by
  unfold zd_weeks; simp only [h1, h3, if_neg h2, if_pos h4]
theorem zd_wk_o {c t sd q : Nat} {x w : Int32} (hs : sd < 2 ^ 31) (h1 : zd_rng 1 12 x = some t) (h2 : ¬ nI sd < 0) (h3 : zd_rng 0 1 w = some q) (h4 : c ≠ 0) : zd_weeks c x (nI sd) w = .inr (t, sd, q) := by
  unfold zd_weeks; simp only [h1, h3, if_neg h2, if_neg h4, nI_clamp hs]
