/-! the class's words are the reference's -/
theorem zp_bits_cong {f g : Nat → Bool} : ∀ {n : Nat}, (∀ k, k < n → f k = g k) → zp_bits f n = zp_bits g n
  | 0, _ => rfl
  | n + 1, h => by rw [zp_bits, zp_bits, zp_bits_cong (fun k hk => h k (by omega)), h n (by omega)]
theorem zp_sum_cong {f g : Nat → Nat} : ∀ {n : Nat}, (∀ k, k < n → f k = g k) → zp_sum f n = zp_sum g n
  | 0, _ => rfl
  | n + 1, h => by rw [zp_sum, zp_sum, zp_sum_cong (fun k hk => h k (by omega)), h n (by omega)]
theorem zp_fo_cong {f g : Nat → Int64 → Int64} {h1 h2 : Int64} (e : h1 = h2) : ∀ {n : Nat}, (∀ k, k < n → ∀ h, f k h = g k h) → zp_fo f h1 n = zp_fo g h2 n
  | 0, _ => e
  | n + 1, h => by
    show f n (zp_fo f h1 n) = g n (zp_fo g h2 n)
    rw [zp_fo_cong e (fun k hk => h k (by omega)), h n (by omega)]
theorem zp_bst_cong {f g : Nat → Bool} : ∀ {n : Nat}, (∀ k, k < n → f k = g k) → zp_bst f n = zp_bst g n
  | 0, _ => rfl
  | n + 1, h => by
    rw [zp_bst, zp_bst, zp_bst_cong (fun k hk => h k (by omega)), h n (by omega)]
theorem zy_orr_tb (c : Nat → Bool) (f : Nat → Nat) (i : Nat) : ∀ n, (zy_orr c f n).testBit i = zp_any (fun p9 => c p9 && (f p9).testBit i) n
  | 0 => Nat.zero_testBit i
  | n + 1 => by
    rw [zy_orr, Nat.testBit_or, zy_orr_tb c f i n, zp_any]
    cases c n
    · rw [cond_false, Nat.zero_testBit, Bool.false_and]
    · rw [cond_true, Bool.true_and]
theorem zq_put {n d w : Nat} {K D O : Nat → Nat} {c : Nat → Bool} (hc : ∀ k, k < n → c k = decide (D k = d)) :
    (zy_orr c (fun p9 => zp_E (K p9) (O p9)) n &&& (127 ^^^ w)) ||| (zy_orr c (fun p9 => zp_T (K p9) (O p9)) n &&& w) = zp_put n K D O d w := by
  refine zq_eq ?_ (zp_put_lt _ _ _ _ _ _) (fun i hi => ?_)
  · exact zy_or_lt (Nat.lt_of_le_of_lt Nat.and_le_left (zy_orr_lt (fun _ => zp_E_lt _ _) _)) (Nat.lt_of_le_of_lt Nat.and_le_left (zy_orr_lt (fun _ => zp_T_lt _ _) _))
  · rw [Nat.testBit_or, Nat.testBit_and, Nat.testBit_and, zq_x127 w i hi, zy_orr_tb, zy_orr_tb, zp_put, zp_bits_tb, decide_eq_true hi, Bool.true_and]
    unfold zp_pt
    cases w.testBit i
    · rw [Bool.not_false, Bool.and_true, Bool.and_false, Bool.or_false]
      exact zp_any_cong (fun k hk => by rw [zp_E_tb, decide_eq_true hi, Bool.true_and, hc k hk])
    · rw [Bool.not_true, Bool.and_false, Bool.and_true, Bool.false_or]
      exact zp_any_cong (fun k hk => by rw [zp_T_tb, decide_eq_true hi, Bool.true_and, hc k hk])
theorem zp_put_cong {n d w : Nat} {K D O K2 D2 O2 : Nat → Nat} (h : ∀ k, k < n → K k = K2 k ∧ D k = D2 k ∧ O k = O2 k) : zp_put n K D O d w = zp_put n K2 D2 O2 d w := by
  unfold zp_put zp_pt
  refine zp_bits_cong (fun i _ => zp_any_cong (fun k hk => ?_))
  obtain ⟨h1, h2, h3⟩ := h k hk
  rw [h1, h2, h3]
/-- with one person's kind and day changed -/
theorem zq_put1 {n d w p K1 O1 : Nat} {K D O : Nat → Nat} (hp : p < n) (hD : D p = d) :
    ((zy_orr (fun p9 => !decide (p9 = p) && decide (D p9 = d)) (fun p9 => zp_E (K p9) (O p9)) n ||| zp_E K1 O1) &&& (127 ^^^ w)) ||| ((zy_orr (fun p9 => !decide (p9 = p) && decide (D p9 = d)) (fun p9 => zp_T (K p9) (O p9)) n ||| zp_T K1 O1) &&& w) = zp_put n (zx_up K p K1) D (zx_up O p O1) d w := by
  refine zq_eq ?_ (zp_put_lt _ _ _ _ _ _) (fun i hi => ?_)
  · exact zy_or_lt (Nat.lt_of_le_of_lt Nat.and_le_left (zy_or_lt (zy_orr_lt (fun _ => zp_E_lt _ _) _) (zp_E_lt _ _))) (Nat.lt_of_le_of_lt Nat.and_le_left (zy_or_lt (zy_orr_lt (fun _ => zp_T_lt _ _) _) (zp_T_lt _ _)))
  · rw [Nat.testBit_or, Nat.testBit_and, Nat.testBit_and, zq_x127 w i hi, Nat.testBit_or, Nat.testBit_or, zy_orr_tb, zy_orr_tb, zp_put, zp_bits_tb, decide_eq_true hi, Bool.true_and]
    unfold zp_pt
    have key : ∀ (tt : Bool) (f : Nat → Nat → Nat), (∀ K O, (f K O).testBit i = zp_puts K O i tt) →
        (zp_any (fun p9 => (!decide (p9 = p) && decide (D p9 = d)) && (f (K p9) (O p9)).testBit i) n || (f K1 O1).testBit i) = zp_any (fun k => decide (D k = d) && zp_puts (zx_up K p K1 k) (zx_up O p O1 k) i tt) n := by
      intro tt f hf
      rw [Bool.eq_iff_iff, Bool.or_eq_true, zp_any_iff, zp_any_iff, hf]
      constructor
      · rintro (⟨k, hk, q⟩ | q)
        · refine ⟨k, hk, ?_⟩
          rw [hf] at q
          by_cases e : k = p
          · rw [decide_eq_true e] at q; simp at q
          · rw [zx_up_ne _ _ e, zx_up_ne _ _ e]
            rw [decide_eq_false e] at q
            simpa using q
        · refine ⟨p, hp, ?_⟩
          rw [zx_up_eq, zx_up_eq, hD, q]
          simp
      · rintro ⟨k, hk, q⟩
        by_cases e : k = p
        · subst e
          rw [zx_up_eq, zx_up_eq] at q
          rw [Bool.and_eq_true] at q
          exact Or.inr q.2
        · refine Or.inl ⟨k, hk, ?_⟩
          rw [zx_up_ne _ _ e, zx_up_ne _ _ e] at q
          rw [hf, decide_eq_false e]
          simpa using q
    cases w.testBit i
    · rw [Bool.not_false, Bool.and_true, Bool.and_false, Bool.or_false]
      exact key false zp_E (fun K O => by rw [zp_E_tb, decide_eq_true hi, Bool.true_and])
    · rw [Bool.not_true, Bool.and_false, Bool.and_true, Bool.false_or]
      exact key true zp_T (fun K O => by rw [zp_T_tb, decide_eq_true hi, Bool.true_and])
/-! what was found: the class's masks, the reference's list -/
def zr_f (n : Nat) (FI FO FS X Y : Nat → Nat) : Prop := ∀ d, d < 9 → ∀ o, o < 7 → (X d).testBit o = zp_any (fun k => decide (FI k = d) && (decide (FO k = o) && decide (FS k = 1))) n ∧ (Y d).testBit o = zp_any (fun k => decide (FI k = d) && (decide (FO k = o) && decide (FS k = 0))) n
theorem zr_fd {n d w : Nat} {FI FO FS X Y : Nat → Nat} (h : zr_f n FI FO FS X Y) (hF : ∀ k, k < n → FO k < 7 ∧ FS k < 2) (hd : d < 9) : zp_fd n FI FO FS d w = true ↔ ∀ i, i < 7 → ((X d).testBit i = true → w.testBit i = true) ∧ ((Y d).testBit i = true → w.testBit i = false) := by
  unfold zp_fd
  rw [Bool.not_eq_true', zp_any_ff]
  constructor
  · intro q i hi
    obtain ⟨h1, h2⟩ := h d hd i hi
    constructor
    · intro x
      rw [h1, zp_any_iff] at x
      obtain ⟨k, hk, x⟩ := x
      have y := q k hk
      simp only [Bool.and_eq_true, decide_eq_true_eq] at x
      obtain ⟨x1, x2, x3⟩ := x
      rw [x1, x2, x3] at y
      cases e : w.testBit i
      · rw [e] at y; simp [zx_n] at y
      · rfl
    · intro x
      rw [h2, zp_any_iff] at x
      obtain ⟨k, hk, x⟩ := x
      have y := q k hk
      simp only [Bool.and_eq_true, decide_eq_true_eq] at x
      obtain ⟨x1, x2, x3⟩ := x
      rw [x1, x2, x3] at y
      cases e : w.testBit i
      · rfl
      · rw [e] at y; simp [zx_n] at y
  · intro q k hk
    obtain ⟨f1, f2⟩ := hF k hk
    by_cases e : FI k = d
    · obtain ⟨h1, h2⟩ := h d hd (FO k) f1
      obtain ⟨q1, q2⟩ := q (FO k) f1
      rcases (show FS k = 0 ∨ FS k = 1 by omega) with s9 | s9
      · have := q2 (by rw [h2, zp_any_iff]; exact ⟨k, hk, by simp [e, s9]⟩)
        rw [this, s9]; simp [zx_n]
      · have := q1 (by rw [h1, zp_any_iff]; exact ⟨k, hk, by simp [e, s9]⟩)
        rw [this, s9]; simp [zx_n]
    · rw [decide_eq_false e]; rfl
/-! the least of 35, read upwards and downwards -/
theorem zp_lsa_n {F : Nat → Bool} : ∀ {n : Nat}, (∀ j, j < n → F j = false) → zp_lsa F n = none
  | 0, _ => rfl
  | n + 1, h => by
    rw [zp_lsa, zp_lsa_n (fun j hj => h j (by omega)), h n (by omega)]
    rfl
theorem zp_lsa_s {F : Nat → Bool} {k : Nat} (hF : F k = true) (h : ∀ j, j < k → F j = false) : ∀ {n : Nat}, k < n → zp_lsa F n = some k
  | 0, hk => absurd hk (Nat.not_lt_zero k)
  | n + 1, hk => by
    rw [zp_lsa]
    by_cases e : k = n
    · subst e
      rw [zp_lsa_n h, hF]
      rfl
    · rw [zp_lsa_s hF h (show k < n by omega)]
theorem zp_lsd_n {F : Nat → Bool} : ∀ {m : Nat}, m ≤ 35 → (∀ j, 35 - m ≤ j → j < 35 → F j = false) → zp_lsd F m = none
  | 0, _, _ => rfl
  | m + 1, hm, h => by
    rw [zp_lsd, h (34 - m) (by omega) (by omega), zp_lsd_n (by omega) (fun j h1 h2 => h j (by omega) h2)]
    rfl
theorem zp_lsd_s {F : Nat → Bool} {k : Nat} (hk : k < 35) (hF : F k = true) (h : ∀ j, j < k → F j = false) : ∀ {m : Nat}, m ≤ 35 → 35 - m ≤ k → zp_lsd F m = some k
  | 0, _, h2 => absurd h2 (by omega)
  | m + 1, hm, h2 => by
    rw [zp_lsd]
    by_cases e : 34 - m = k
    · rw [e, hF]; rfl
    · rw [h (34 - m) (by omega), zp_lsd_s hk hF h (show m ≤ 35 by omega) (by omega)]
      rfl
theorem zp_ls {F : Nat → Bool} : zp_lsd F 35 = zp_lsa F 35 := by
  have h1 := zp_fst_le F 35
  have h2 := zp_fst_no F 35
  have h3 := zp_fst_yes F 35
  generalize zp_fst F 35 = k at *
  rcases Nat.lt_or_ge k 35 with q | q
  · rw [zp_lsa_s (h3 q) h2 q, zp_lsd_s q (h3 q) h2 (Nat.le_refl 35) (by omega)]
  · rw [zp_lsa_n (fun j hj => h2 j (by omega)), zp_lsd_n (Nat.le_refl 35) (fun j _ hj => h2 j (by omega))]
theorem zp_cnt_rev : ∀ (n : Nat) (F : Nat → Bool), zp_cnt (fun t => F (n - t)) (n + 1) = zp_cnt F (n + 1)
  | 0, F => rfl
  | n + 1, F => by
    have e1 : zp_cnt (fun t => F (n + 1 - t)) (n + 1) = zp_cnt (fun j => F (1 + j)) (n + 1) := by
      rw [← zp_cnt_rev n (fun j => F (1 + j))]
      exact zp_cnt_cong (fun k hk => by rw [show n + 1 - k = 1 + (n - k) by omega])
    have e2 : zp_cnt F (n + 1 + 1) = zp_cnt F 1 + zp_cnt (fun j => F (1 + j)) (n + 1) := by
      rw [show n + 1 + 1 = 1 + (n + 1) by omega, zp_cnt_add]
    rw [zp_cnt, e1, e2, Nat.sub_self]
    show _ + zx_n (F 0) = 0 + zx_n (F 0) + _
    omega
theorem zp_who_eq {F G : Nat → Bool} (h : ∀ t, t < 35 → F t = G t) (q : Nat) : zy_who G q = zp_who F q := by
  unfold zy_who zp_who
  have e : zp_lsa G 35 = zp_lsa F 35 := by
    have c : ∀ n, n ≤ 35 → zp_lsa G n = zp_lsa F n := by
      intro n
      induction n with
      | zero => intro _; rfl
      | succ n ih => intro hn; rw [zp_lsa, zp_lsa, ih (by omega), h n (by omega)]
    exact c 35 (Nat.le_refl 35)
  rw [zp_ls, e, zp_cnt_rev 34 F, zp_cnt_cong (fun k hk => (h k hk).symm)]
