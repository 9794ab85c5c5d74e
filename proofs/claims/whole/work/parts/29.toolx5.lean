/-! the class's questions over all weeks and all laid sets -/
def zy_g (E T : Nat) (ah : Int) (d9 q : Nat) : Bool := decide (zy_s (zy_f E T q ah) ah = 0) && decide (d9 &&& zy_l (zy_f E T q ah) ah = 0)
def zy_G (s : Nat → Nat) (a : Nat → Nat → Nat) (z : Nat → Int) (d t : Nat) : Nat → Bool := zy_g (zy_Em s a 99 d) (zy_Tm s a 99 d) (zp_ah (s 10) (z d)) t
def zy_de (s : Nat → Nat) (a : Nat → Nat → Nat) (d j : Nat) : Bool :=
  zy_al (zy_h (zy_f (zy_Em s a 99 d) (zy_Tm s a 99 d) (a 16 d) ((j : Int) - 3)) ((j : Int) - 3)) (zy_l (zy_f (zy_Em s a 99 d) (zy_Tm s a 99 d) (a 16 d) ((j : Int) - 3)) ((j : Int) - 3)) (zy_s (zy_f (zy_Em s a 99 d) (zy_Tm s a 99 d) (a 16 d) ((j : Int) - 3)) ((j : Int) - 3)) (a 17 d) (a 18 d)
def zp_lsa (F : Nat → Bool) : Nat → Option Nat
  | 0 => none
  | n + 1 => match zp_lsa F n with
    | some k => some k
    | none => cond (F n) (some n) none
theorem zp_lsa_lt {F : Nat → Bool} : ∀ {n b : Nat}, zp_lsa F n = some b → b < n
  | 0, b, h => by rw [zp_lsa] at h; cases h
  | n + 1, b, h => by
    rw [zp_lsa] at h
    cases e : zp_lsa F n with
    | some k =>
      rw [e] at h
      have ih := zp_lsa_lt e
      cases h
      omega
    | none =>
      rw [e] at h
      cases f : F n with
      | true => simp only [f, cond_true] at h; cases h; omega
      | false => simp only [f, cond_false] at h; cases h
section ZLSA
variable {F : Nat → Bool} {n b : Nat}
theorem zp_lsaF (h : F n = false) : zp_o (zp_lsa F n) = zp_o (zp_lsa F (n + 1)) := by
  rw [zp_lsa]
  cases zp_lsa F n with
  | some k => rfl
  | none => simp only [h, cond_false]
theorem zp_lsaT (h : F n = true) (e : zp_lsa F n = none) : nI n = zp_o (zp_lsa F (n + 1)) := by rw [zp_lsa, e]; simp only [h, cond_true]; rfl
theorem zp_lsaS (e : zp_lsa F n = some b) : nI b = zp_o (zp_lsa F (n + 1)) := by rw [zp_lsa, e]; rfl
end ZLSA
def zy_whF (s : Nat → Nat) (a : Nat → Nat → Nat) (z : Nat → Int) (p t : Nat) : Bool := zy_can s a z p (t / 7) (t % 7)
def zy_who (F : Nat → Bool) (q : Nat) : Int32 := if q = 0 then nI (zp_cnt F 35) else zp_o (zp_lsa F 35)
theorem zy_can_y {s y : Nat → Nat} {a : Nat → Nat → Nat} {z : Nat → Int} {p K o : Nat} (gy : ∀ k, k < 31 → y k = s k) : zy_can y a z p K o = zy_can s a z p K o := by
  unfold zy_can zy_Em zy_Tm
  rw [gy 11 (by decide), gy 10 (by decide)]
theorem zy_whB {s y : Nat → Nat} {a : Nat → Nat → Nat} {z : Nat → Int} {p K o : Nat} {b : Bool} (gy : ∀ k, k < 31 → y k = s k) (ho : o < 7) (h : zy_can y a z p K o = b) : zy_whF s a z p (7 * K + o) = b := by
  unfold zy_whF
  rw [show (7 * K + o) / 7 = K by omega, show (7 * K + o) % 7 = o by omega, ← zy_can_y gy]
  exact h
theorem zp_lsaS2 {F : Nat → Bool} {n : Nat} (h : ¬ zp_o (zp_lsa F n) = -1) : zp_o (zp_lsa F n) = zp_o (zp_lsa F (n + 1)) := by
  obtain ⟨b9, hb9⟩ := zp_o_some h
  rw [hb9]
  exact zp_lsaS hb9
theorem zp_lsaT2 {F : Nat → Bool} (n : Nat) (h : F n = true) (hn : n < 2 ^ 31) (c : zp_o (zp_lsa F n) = -1) : nI n = zp_o (zp_lsa F (n + 1)) := zp_lsaT h (zp_o_none (fun k hk => by have := zp_lsa_lt hk; omega) c)
theorem zp_bitsF2 {f : Nat → Bool} {n : Nat} (h : f n = false) : nI (zp_bits f n) = nI (zp_bits f (n + 1)) := (congrArg nI (Nat.or_zero _).symm).trans (zp_bitsF h)
