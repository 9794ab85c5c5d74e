/-! pure words: any, bits, counts, the first, the most -/
def zp_any (f : Nat → Bool) : Nat → Bool
  | 0 => false
  | n + 1 => zp_any f n || f n
def zp_bits (f : Nat → Bool) : Nat → Nat
  | 0 => 0
  | n + 1 => zp_bits f n + cond (f n) (2 ^ n) 0
def zp_cnt (f : Nat → Bool) : Nat → Nat
  | 0 => 0
  | n + 1 => zp_cnt f n + zx_n (f n)
theorem zp_fst_ex (f : Nat → Bool) : ∀ n : Nat, ∃ k, k ≤ n ∧ (∀ j, j < k → f j = false) ∧ (k = n ∨ f k = true)
  | 0 => ⟨0, Nat.le_refl 0, fun j hj => absurd hj (Nat.not_lt_zero j), Or.inl rfl⟩
  | n + 1 => by
    obtain ⟨k, h1, h2, h3⟩ := zp_fst_ex f n
    by_cases q : f k = true
    · exact ⟨k, by omega, h2, Or.inr q⟩
    · have e : k = n := h3.elim id (fun z => absurd z q)
      subst e
      refine ⟨k + 1, Nat.le_refl _, fun j hj => ?_, Or.inl rfl⟩
      by_cases e : j = k
      · rw [e]; simpa using q
      · exact h2 j (by omega)
noncomputable def zp_fst (f : Nat → Bool) (n : Nat) : Nat := Classical.choose (zp_fst_ex f n)
def zp_max (f : Nat → Nat) : Nat → Nat
  | 0 => 0
  | n + 1 => if zp_max f n < f n then f n else zp_max f n
def zp_sum (f : Nat → Nat) : Nat → Nat
  | 0 => 0
  | n + 1 => zp_sum f n + f n
theorem zp_any_iff (f : Nat → Bool) : ∀ n, zp_any f n = true ↔ ∃ k, k < n ∧ f k = true
  | 0 => by simp [zp_any]
  | n + 1 => by
    rw [zp_any, Bool.or_eq_true, zp_any_iff f n]
    constructor
    · rintro (⟨k, h1, h2⟩ | h)
      · exact ⟨k, by omega, h2⟩
      · exact ⟨n, by omega, h⟩
    · rintro ⟨k, h1, h2⟩
      rcases Nat.lt_or_ge k n with h | h
      · exact Or.inl ⟨k, h, h2⟩
      · have : k = n := by omega
        subst this; exact Or.inr h2
theorem zp_any_ff (f : Nat → Bool) (n : Nat) : zp_any f n = false ↔ ∀ k, k < n → f k = false := by
  rw [← Bool.not_eq_true, zp_any_iff]
  constructor
  · intro h k hk
    by_cases q : f k = true
    · exact absurd ⟨k, hk, q⟩ h
    · simpa using q
  · rintro h ⟨k, hk, q⟩
    rw [h k hk] at q; cases q
theorem zp_any_cong {f g : Nat → Bool} : ∀ {n : Nat}, (∀ k, k < n → f k = g k) → zp_any f n = zp_any g n
  | 0, _ => rfl
  | n + 1, h => by rw [zp_any, zp_any, zp_any_cong (fun k hk => h k (by omega)), h n (by omega)]
theorem zp_bits_lt (f : Nat → Bool) : ∀ n, zp_bits f n < 2 ^ n
  | 0 => by simp [zp_bits]
  | n + 1 => by
    have h := zp_bits_lt f n
    rw [zp_bits, Nat.pow_succ]
    cases f n <;> simp <;> omega
theorem zp_bits_tb (f : Nat → Bool) : ∀ n i, (zp_bits f n).testBit i = (decide (i < n) && f i)
  | 0, i => by simp [zp_bits]
  | n + 1, i => by
    have h := zp_bits_lt f n
    have ih := zp_bits_tb f n i
    rw [zp_bits]
    cases hf : f n with
    | false =>
      simp only [cond_false, Nat.add_zero, ih]
      by_cases h1 : i < n
      · simp [h1, show i < n + 1 by omega]
      · by_cases h2 : i = n
        · subst h2; simp [hf]
        · simp [h1, show ¬ i < n + 1 by omega]
    | true =>
      simp only [cond_true]
      have e := Nat.two_pow_add_eq_or_of_lt h 1
      rw [Nat.mul_one] at e
      rw [Nat.add_comm, e, Nat.testBit_or, ih, Nat.testBit_two_pow]
      by_cases h1 : i < n
      · simp [h1, show i < n + 1 by omega, show ¬ n = i by omega]
      · by_cases h2 : i = n
        · subst h2; simp [hf]
        · simp [h1, show ¬ i < n + 1 by omega, show ¬ n = i by omega]
theorem zp_fst_le (f : Nat → Bool) (n : Nat) : zp_fst f n ≤ n := (Classical.choose_spec (zp_fst_ex f n)).1
theorem zp_fst_no (f : Nat → Bool) (n k : Nat) (h : k < zp_fst f n) : f k = false := (Classical.choose_spec (zp_fst_ex f n)).2.1 k h
theorem zp_fst_yes (f : Nat → Bool) (n : Nat) (h : zp_fst f n < n) : f (zp_fst f n) = true := by
  rcases (Classical.choose_spec (zp_fst_ex f n)).2.2 with q | q
  · exact absurd h (by show ¬ zp_fst f n < n; rw [show zp_fst f n = n from q]; exact Nat.lt_irrefl n)
  · exact q
theorem zp_fst_eq {f : Nat → Bool} {n k : Nat} (hk : k ≤ n) (h1 : ∀ j, j < k → f j = false) (h2 : k = n ∨ f k = true) : zp_fst f n = k := by
  have a1 := zp_fst_le f n
  have a2 := zp_fst_no f n
  have a3 := zp_fst_yes f n
  rcases Nat.lt_trichotomy (zp_fst f n) k with q | q | q
  · have := a3 (by omega)
    rw [h1 _ q] at this; cases this
  · exact q
  · rcases h2 with h2 | h2
    · omega
    · have := a2 k q
      rw [h2] at this; cases this
theorem zp_fst_all {f : Nat → Bool} {n : Nat} : zp_fst f n = n ↔ ∀ j, j < n → f j = false := by
  constructor
  · intro h j hj
    exact zp_fst_no f n j (by omega)
  · intro h
    exact zp_fst_eq (Nat.le_refl n) h (Or.inl rfl)
theorem zp_fst_cong {f g : Nat → Bool} {n : Nat} (h : ∀ k, k < n → f k = g k) : zp_fst f n = zp_fst g n := by
  have a1 := zp_fst_le g n
  refine zp_fst_eq a1 (fun j hj => by rw [h j (by omega)]; exact zp_fst_no g n j hj) ?_
  rcases Nat.lt_or_ge (zp_fst g n) n with q | q
  · exact Or.inr (by rw [h _ q]; exact zp_fst_yes g n q)
  · exact Or.inl (by omega)
theorem zp_cnt_cong {f g : Nat → Bool} : ∀ {n : Nat}, (∀ k, k < n → f k = g k) → zp_cnt f n = zp_cnt g n
  | 0, _ => rfl
  | n + 1, h => by rw [zp_cnt, zp_cnt, zp_cnt_cong (fun k hk => h k (by omega)), h n (by omega)]
theorem zp_cnt_le (f : Nat → Bool) : ∀ n, zp_cnt f n ≤ n
  | 0 => Nat.le_refl 0
  | n + 1 => by
    have h := zp_cnt_le f n
    rw [zp_cnt]
    cases f n <;> simp [zx_n] <;> omega
theorem zp_max_cong {f g : Nat → Nat} : ∀ {n : Nat}, (∀ k, k < n → f k = g k) → zp_max f n = zp_max g n
  | 0, _ => rfl
  | n + 1, h => by rw [zp_max, zp_max, zp_max_cong (fun k hk => h k (by omega)), h n (by omega)]
theorem zp_max_le {f : Nat → Nat} {c : Nat} (hf : ∀ k, f k ≤ c) : ∀ n, zp_max f n ≤ c
  | 0 => Nat.zero_le c
  | n + 1 => by
    have h := zp_max_le hf n
    have h2 := hf n
    rw [zp_max]
    split <;> omega
theorem zp_max_ge (f : Nat → Nat) : ∀ {n k : Nat}, k < n → f k ≤ zp_max f n
  | 0, k, h => absurd h (Nat.not_lt_zero k)
  | n + 1, k, h => by
    rw [zp_max]
    rcases Nat.lt_or_ge k n with q | q
    · have := zp_max_ge f q
      split <;> omega
    · have : k = n := by omega
      subst this
      split <;> omega
/-! kinds, delays -/
def zp_dl (c : Nat) : Int := if c = 121 then -2 else if c = 122 then -1 else if c = 97 then 0 else if c = 98 then 1 else if c = 99 then 2 else if c = 100 then 3 else 99
def zp_okl (k c : Nat) : Bool := if k < 9 then decide (zp_dl c ≠ 99) else decide (k = 9) && (decide (48 ≤ c) && decide (c ≤ 51))
def zp_ah (f : Nat) (q : Int) : Int := if f = 0 then q else if f = 1 then q + 1 else if f = 2 then -q else 0
def zp_puts (K o i : Nat) (t : Bool) : Bool := if K = 1 then t else if K = 2 then !t else if K = 3 then decide (i = o) else if K = 4 then !t && !decide (i = o) else false
def zp_pt (n : Nat) (K D O : Nat → Nat) (d i : Nat) (t : Bool) : Bool := zp_any (fun p => decide (D p = d) && zp_puts (K p) (O p) i t) n
def zp_put (n : Nat) (K D O : Nat → Nat) (d w : Nat) : Nat := zp_bits (fun i => zp_pt n K D O d i (w.testBit i)) 7
def zp_sh (m : Nat) (ah : Int) : Nat := (if 0 ≤ ah then m * 2 ^ ah.toNat else m / 2 ^ (-ah).toNat) &&& 127
/-! weeks: f says what must be by a week; the first day that is wrong; whether it agrees -/
noncomputable def zp_fw (f : Nat → Nat) (w : Nat) : Nat := zp_fst (fun i => w.testBit i != (f w).testBit i) 7
noncomputable def zp_ag (f : Nat → Nat) (w : Nat) : Bool := decide (zp_fw f w = 7)
noncomputable def zp_nag (f : Nat → Nat) : Nat := zp_cnt (zp_ag f) 128
def zp_no (n k : Nat) : Int32 := if k = n then -1 else nI k
noncomputable def zp_can (f : Nat → Nat) : Int32 := zp_no 7 (zp_max (zp_fw f) 128)
noncomputable def zp_lst (f : Nat → Nat) : Int32 := zp_no 128 (zp_fst (zp_ag f) 128)
noncomputable def zp_cou (f : Nat → Nat) (i : Nat) : Nat → Nat
  | 0 => 0
  | n + 1 => zp_cou f i n ||| cond (zp_ag f n) (2 ^ (zx_n (n.testBit i))) 0
noncomputable def zp_sur (f : Nat → Nat) (i : Nat) : Int32 := if zp_cou f i 128 = 1 then nI 0 else if zp_cou f i 128 = 2 then nI 1 else -1
noncomputable def zp_eno (f : Nat → Nat) (days : Nat) : Bool := zp_any (zp_ag f) 128 && !zp_any (fun w => zp_ag f w && !decide (w &&& days = days)) 128
def zp_pc (x : Nat) : Nat := zp_cnt (fun k => x.testBit k) 7
def zp_bst (g : Nat → Bool) : Nat → Option Nat
  | 0 => none
  | n + 1 => match zp_bst g n with
    | none => if g n then some n else none
    | some b => if zp_pc n < zp_pc b ∧ g n = true then some n else some b
def zp_o : Option Nat → Int32
  | none => -1
  | some k => nI k
def zp_fd (m : Nat) (FI FO FS : Nat → Nat) (d w : Nat) : Bool := !zp_any (fun k => decide (FI k = d) && !decide (zx_n (w.testBit (FO k)) = FS k)) m
noncomputable def zp_anb (m : Nat) (FI FO FS : Nat → Nat) (d : Nat) (f : Nat → Nat) : Bool := Classical.choose (⟨zp_any (fun w => zp_fd m FI FO FS d w && zp_ag f w) 128, rfl⟩ : ∃ b, b = zp_any (fun w => zp_fd m FI FO FS d w && zp_ag f w) 128)
theorem zp_anb_eq (m : Nat) (FI FO FS : Nat → Nat) (d : Nat) (f : Nat → Nat) : zp_anb m FI FO FS d f = zp_any (fun w => zp_fd m FI FO FS d w && zp_ag f w) 128 := Classical.choose_spec (⟨zp_any (fun w => zp_fd m FI FO FS d w && zp_ag f w) 128, rfl⟩ : ∃ b, b = zp_any (fun w => zp_fd m FI FO FS d w && zp_ag f w) 128)
/-! the reference's words, over its numbers s, its rows a, its delays z -/
def zm_f (s : Nat → Nat) (a : Nat → Nat → Nat) (d : Nat) (ah : Int) (q : Nat) : Nat → Nat := fun w => zp_sh (zp_put (s 5) (a 6) (a 7) (a 8) d w ||| q) ah
def zm_F (s : Nat → Nat) (a : Nat → Nat → Nat) (z : Nat → Int) (d : Nat) : Nat → Nat := zm_f s a d (zp_ah (s 3) (z d)) (a 4 d)
def zm_I (s : Nat → Nat) (a : Nat → Nat → Nat) (z : Nat → Int) : Prop :=
  (s 0 ≤ 1 ∧ s 1 ≤ 1000 ∧ s 3 ≤ 3 ∧ s 5 ≤ 6 ∧ s 9 ≤ 8 ∧ s 13 ≤ 40 ∧ s 14 ≤ 12) ∧ (s 17 ≤ 1 ∧ s 18 ≤ 1000 ∧ s 19 ≤ 3 ∧ s 20 ≤ 6 ∧ s 21 ≤ 8) ∧
  (∀ p, p < 6 → a 6 p < 5 ∧ a 7 p < 9 ∧ a 8 p < 7) ∧ (∀ k, k < 8 → a 10 k < 9 ∧ a 11 k < 7 ∧ a 12 k < 2) ∧ (∀ d, d < 9 → a 4 d < 128) ∧ (∀ k, k < 12 → a 15 k < 128) ∧ (∀ d, d < 9 → -2 ≤ z d ∧ z d ≤ 3) ∧
  (∀ d, d < 9 → a 22 d < 128) ∧ (∀ p, p < 6 → a 23 p < 9 ∧ a 24 p < 7) ∧ (∀ k, k < 8 → a 25 k < 9 ∧ a 26 k < 7 ∧ a 27 k < 2)
/-! the worlds: the reference's cells, the class's cells -/
def zm_t (cI cB : ClassId) : List (ClassId × FieldType) := [(cI, .int), (cB, .byte)]
def zm_w (cI cB : ClassId) (r : Nat → Nat) (u : (Nat → Nat) × (Nat → Nat → Nat) × (Nat → Int) × Int64) : va_W :=
  [(r 0, .inr (3, [.int (nI (u.1 0)), .int (nI (u.1 1)), .ref (r 2), .int (nI (u.1 3)), .ref (r 4), .int (nI (u.1 5)), .ref (r 6), .ref (r 7), .ref (r 8), .int (nI (u.1 9)), .ref (r 10), .ref (r 11), .ref (r 12), .int (nI (u.1 13)), .int (nI (u.1 14)), .ref (r 15), .long (lN (u.1 16)), .int (nI (u.1 17)), .int (nI (u.1 18)), .int (nI (u.1 19)), .int (nI (u.1 20)), .int (nI (u.1 21)), .ref (r 22), .ref (r 23), .ref (r 24), .ref (r 25), .ref (r 26), .ref (r 27), .long u.2.2.2])),
   (r 2, .inl (cI, 9, .inl (fun j => zx_i (u.2.2.1 j)))), (r 4, .inl (cI, 9, .inl (fun j => nI (u.2.1 4 j)))), (r 6, .inl (cI, 6, .inl (fun j => nI (u.2.1 6 j)))), (r 7, .inl (cI, 6, .inl (fun j => nI (u.2.1 7 j)))), (r 8, .inl (cI, 6, .inl (fun j => nI (u.2.1 8 j)))), (r 10, .inl (cI, 8, .inl (fun j => nI (u.2.1 10 j)))), (r 11, .inl (cI, 8, .inl (fun j => nI (u.2.1 11 j)))), (r 12, .inl (cI, 8, .inl (fun j => nI (u.2.1 12 j)))), (r 15, .inl (cB, 12, .inl (fun j => nI (u.2.1 15 j)))),
   (r 22, .inl (cI, 9, .inl (fun j => nI (u.2.1 22 j)))), (r 23, .inl (cI, 6, .inl (fun j => nI (u.2.1 23 j)))), (r 24, .inl (cI, 6, .inl (fun j => nI (u.2.1 24 j)))), (r 25, .inl (cI, 8, .inl (fun j => nI (u.2.1 25 j)))), (r 26, .inl (cI, 8, .inl (fun j => nI (u.2.1 26 j)))), (r 27, .inl (cI, 8, .inl (fun j => nI (u.2.1 27 j))))]
def zy_w (cI : ClassId) (r : Nat → Nat) (u : (Nat → Nat) × (Nat → Nat → Nat) × (Nat → Int) × Int) : va_W :=
  [(r 1, .inr (2, [.ref (r 0), .int (nI (u.1 1)), .int (nI (u.1 2)), .ref (r 3), .ref (r 10), .int (nI (u.1 5)), .ref (r 20), .int (nI (u.1 7)), .int (nI (u.1 8)), .ref (r 30)])),
   (r 0, .inl (cI, 12, .inl (fun j => nI (u.2.1 0 j)))), (r 3, .inl (cI, 9, .inl (fun j => zx_i (u.2.2.1 j)))),
   (r 10, .inr (1, [.int (nI (u.1 10)), .int (nI (u.1 11)), .int (nI (u.1 12)), .ref (r 13), .ref (r 14), .ref (r 15), .ref (r 16), .ref (r 17), .ref (r 18)])),
   (r 13, .inl (cI, 6, .inl (fun j => nI (u.2.1 13 j)))), (r 14, .inl (cI, 6, .inl (fun j => nI (u.2.1 14 j)))), (r 15, .inl (cI, 6, .inl (fun j => nI (u.2.1 15 j)))), (r 16, .inl (cI, 9, .inl (fun j => nI (u.2.1 16 j)))), (r 17, .inl (cI, 9, .inl (fun j => nI (u.2.1 17 j)))), (r 18, .inl (cI, 9, .inl (fun j => nI (u.2.1 18 j)))),
   (r 20, .inr (1, [.int (nI (u.1 20)), .int (nI (u.1 21)), .int (nI (u.1 22)), .ref (r 23), .ref (r 24), .ref (r 25), .ref (r 26), .ref (r 27), .ref (r 28)])),
   (r 23, .inl (cI, 6, .inl (fun j => nI (u.2.1 23 j)))), (r 24, .inl (cI, 6, .inl (fun j => nI (u.2.1 24 j)))), (r 25, .inl (cI, 6, .inl (fun j => nI (u.2.1 25 j)))), (r 26, .inl (cI, 9, .inl (fun j => nI (u.2.1 26 j)))), (r 27, .inl (cI, 9, .inl (fun j => nI (u.2.1 27 j)))), (r 28, .inl (cI, 9, .inl (fun j => nI (u.2.1 28 j)))),
   (r 30, .inr (0, [.int (zx_i u.2.2.2), .int (nI (u.1 31)), .int (nI (u.1 32)), .int (nI (u.1 33)), .int (nI (u.1 34)), .int (nI (u.1 35)), .int (nI (u.1 36))]))]
