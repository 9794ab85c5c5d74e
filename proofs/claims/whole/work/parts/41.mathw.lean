/-! the weeks that agree: by what can be there (h) and what can lack (l) -/
theorem zq_127 (i : Nat) : (127 : Nat).testBit i = decide (i < 7) := by
  rw [show (127 : Nat) = 2 ^ 7 - 1 from rfl, Nat.testBit_two_pow_sub_one]
theorem zq_eq {x y : Nat} (hx : x < 128) (hy : y < 128) (h : ∀ i, i < 7 → x.testBit i = y.testBit i) : x = y := by
  apply Nat.eq_of_testBit_eq
  intro i
  rcases Nat.lt_or_ge i 7 with q | q
  · exact h i q
  · rw [zx_tb_hi hx q, zx_tb_hi hy q]
theorem zq_eq0 {x : Nat} (hx : x < 128) : x = 0 ↔ ∀ i, i < 7 → x.testBit i = false := by
  constructor
  · intro h i _; rw [h, Nat.zero_testBit]
  · intro h; exact zq_eq hx (by decide) (fun i hi => by rw [h i hi, Nat.zero_testBit])
theorem zq_x127 (x i : Nat) (hi : i < 7) : (127 ^^^ x).testBit i = !x.testBit i := by
  rw [Nat.testBit_xor, zq_127, decide_eq_true hi]
  cases x.testBit i <;> rfl
theorem zq_sub {x h : Nat} (hx : x < 128) : x &&& (127 ^^^ h) = 0 ↔ ∀ i, i < 7 → x.testBit i = true → h.testBit i = true := by
  rw [zq_eq0 (Nat.lt_of_le_of_lt Nat.and_le_left hx)]
  constructor
  · intro p i hi q
    have := p i hi
    rw [Nat.testBit_and, zq_x127 h i hi, q] at this
    simpa using this
  · intro p i hi
    rw [Nat.testBit_and, zq_x127 h i hi]
    cases q : x.testBit i
    · rfl
    · rw [p i hi q]; rfl
theorem zq_dis {x y : Nat} (hx : x < 128) : x &&& y = 0 ↔ ∀ i, i < 7 → x.testBit i = true → y.testBit i = false := by
  rw [zq_eq0 (Nat.lt_of_le_of_lt Nat.and_le_left hx)]
  constructor
  · intro p i hi q
    have := p i hi
    rw [Nat.testBit_and, q] at this
    simpa using this
  · intro p i hi
    rw [Nat.testBit_and]
    cases q : x.testBit i
    · rfl
    · rw [p i hi q]; rfl
def zq_ok (h l w n : Nat) : Prop := ∀ i, i < n → (w.testBit i = true → h.testBit i = true) ∧ (w.testBit i = false → l.testBit i = true)
theorem zq_ag1 {f : Nat → Nat} {w : Nat} : zp_ag f w = true ↔ ∀ i, i < 7 → w.testBit i = (f w).testBit i := by
  unfold zp_ag zp_fw
  rw [decide_eq_true_iff, zp_fst_all]
  constructor
  · intro h i hi
    have := h i hi
    simpa using this
  · intro h i hi
    have := h i hi
    simp [this]
/-! bits of what must be -/
def zq_m (E T q w : Nat) : Nat := (E &&& (127 ^^^ w)) ||| (T &&& w) ||| q
theorem zq_mb {E T q w i : Nat} (hi : i < 7) : (zq_m E T q w).testBit i = cond (w.testBit i) (T.testBit i || q.testBit i) (E.testBit i || q.testBit i) := by
  unfold zq_m
  rw [Nat.testBit_or, Nat.testBit_or, Nat.testBit_and, Nat.testBit_and, zq_x127 w i hi]
  cases w.testBit i <;> cases E.testBit i <;> cases T.testBit i <;> rfl
theorem zq_mh {E T q w i : Nat} (hE : E < 128) (hT : T < 128) (hq : q < 128) (hi : 7 ≤ i) : (zq_m E T q w).testBit i = false := zx_tb_hi (zy_lt hE hT hq) hi
theorem zq_fp {E T q k w i : Nat} (hi : i < 7) : (zy_f E T q (k : Int) w).testBit i = (decide (k ≤ i) && (zq_m E T q w).testBit (i - k)) := by
  unfold zy_f
  rw [zp_sh_p, Nat.testBit_and, zq_127, decide_eq_true hi, Nat.testBit_mul_two_pow, Bool.and_true]
  rfl
theorem zq_fn {E T q k w i : Nat} (h0 : 0 < k) (hi : i < 7) : (zy_f E T q (-(k : Int)) w).testBit i = (zq_m E T q w).testBit (i + k) := by
  unfold zy_f
  rw [zp_sh_n h0, Nat.testBit_and, zq_127, decide_eq_true hi, Nat.testBit_div_two_pow, Bool.and_true]
  rfl
theorem zq_f0 {E T q w i : Nat} (hi : i < 7) : (zy_f E T q 0 w).testBit i = cond (w.testBit i) (T.testBit i || q.testBit i) (E.testBit i || q.testBit i) := by
  have h := zq_fp (E := E) (T := T) (q := q) (k := 0) (w := w) hi
  rw [show ((0 : Nat) : Int) = 0 from rfl] at h
  rw [h, decide_eq_true (Nat.zero_le i), Nat.sub_zero, zq_mb hi]
  rfl
/-! a step that hangs on earlier days alone has just one week -/
theorem zq_con {f : Nat → Nat} {o : Nat → Nat} (ho : ∀ i, i < 7 → o i < 7) (hf : ∀ w v i, i < 7 → (∀ j, j < 7 → o j < o i → w.testBit j = v.testBit j) → (f w).testBit i = (f v).testBit i) :
    (∀ i, i < 7 → (zy_it f 7).testBit i = (f (zy_it f 7)).testBit i) ∧ (∀ w, (∀ i, i < 7 → w.testBit i = (f w).testBit i) → ∀ i, i < 7 → w.testBit i = (zy_it f 7).testBit i) := by
  have A : ∀ n i, i < 7 → o i < n → (zy_it f (n + 1)).testBit i = (zy_it f n).testBit i := by
    intro n
    induction n with
    | zero => intro i hi h; omega
    | succ n ih =>
      intro i hi h
      exact hf _ _ i hi (fun j hj hlt => ih j hj (by omega))
  have X : ∀ i, i < 7 → (zy_it f 7).testBit i = (f (zy_it f 7)).testBit i := fun i hi => (A 7 i hi (ho i hi)).symm
  refine ⟨X, fun w hw => ?_⟩
  have B : ∀ n i, i < 7 → o i < n → w.testBit i = (zy_it f 7).testBit i := by
    intro n
    induction n with
    | zero => intro i hi h; omega
    | succ n ih =>
      intro i hi h
      rw [hw i hi, X i hi]
      exact hf _ _ i hi (fun j hj hlt => ih j hj (by omega))
  exact fun i hi => B 7 i hi (ho i hi)
theorem zq_mc {E T q w v i : Nat} (hi : i < 7) (h : w.testBit i = v.testBit i) : (zq_m E T q w).testBit i = (zq_m E T q v).testBit i := by
  rw [zq_mb hi, zq_mb hi, h]
theorem zq_fix {E T q : Nat} {ah : Int} (hE : E < 128) (hT : T < 128) (hq : q < 128) (h0 : ah ≠ 0) :
    (∀ i, i < 7 → (zy_it (zy_f E T q ah) 7).testBit i = (zy_f E T q ah (zy_it (zy_f E T q ah) 7)).testBit i) ∧ (∀ w, (∀ i, i < 7 → w.testBit i = (zy_f E T q ah w).testBit i) → ∀ i, i < 7 → w.testBit i = (zy_it (zy_f E T q ah) 7).testBit i) := by
  rcases (show 0 < ah ∨ ah < 0 by omega) with h | h
  · obtain ⟨k, rfl⟩ : ∃ k : Nat, ah = (k : Int) := ⟨ah.toNat, by omega⟩
    refine zq_con (o := fun i => i) (fun i hi => hi) (fun w v i hi hs => ?_)
    rw [zq_fp hi, zq_fp hi]
    by_cases c : k ≤ i
    · rw [zq_mc (by omega) (hs (i - k) (by omega) (by omega))]
    · rw [decide_eq_false c]; rfl
  · obtain ⟨k, rfl⟩ : ∃ k : Nat, ah = -(k : Int) := ⟨(-ah).toNat, by omega⟩
    refine zq_con (o := fun i => 6 - i) (fun i hi => by omega) (fun w v i hi hs => ?_)
    rw [zq_fn (by omega) hi, zq_fn (by omega) hi]
    by_cases c : i + k < 7
    · exact zq_mc c (hs (i + k) c (by omega))
    · rw [zq_mh hE hT hq (by omega), zq_mh hE hT hq (by omega)]
theorem zq_ag {E T q w : Nat} {ah : Int} (hE : E < 128) (hT : T < 128) (hq : q < 128) (hw : w < 128) : zp_ag (zy_f E T q ah) w = true ↔ zq_ok (zy_h (zy_f E T q ah) ah) (zy_l (zy_f E T q ah) ah) w 7 := by
  rw [zq_ag1]
  by_cases h0 : ah = 0
  · subst h0
    unfold zy_h zy_l zq_ok
    rw [if_pos rfl, if_pos rfl]
    have e : ∀ i, i < 7 → ((w.testBit i = (zy_f E T q 0 w).testBit i) ↔ ((w.testBit i = true → (zy_f E T q 0 127).testBit i = true) ∧ (w.testBit i = false → (127 ^^^ zy_f E T q 0 0).testBit i = true))) := by
      intro i hi
      rw [zq_x127 _ i hi, zq_f0 hi, zq_f0 hi, zq_f0 hi, zq_127, decide_eq_true hi, Nat.zero_testBit]
      cases w.testBit i <;> cases E.testBit i <;> cases T.testBit i <;> cases q.testBit i <;> decide
    exact ⟨fun h i hi => (e i hi).mp (h i hi), fun h i hi => (e i hi).mpr (h i hi)⟩
  · obtain ⟨X, U⟩ := zq_fix hE hT hq h0
    unfold zy_h zy_l zq_ok
    rw [if_neg h0, if_neg h0]
    constructor
    · intro h i hi
      rw [zq_x127 _ i hi, U w h i hi]
      exact ⟨id, fun q => by rw [q]; rfl⟩
    · intro h
      have e : ∀ i, i < 7 → w.testBit i = (zy_it (zy_f E T q ah) 7).testBit i := by
        intro i hi
        obtain ⟨a1, a2⟩ := h i hi
        rw [zq_x127 _ i hi] at a2
        cases c : w.testBit i
        · have := a2 c
          revert this
          cases (zy_it (zy_f E T q ah) 7).testBit i <;> simp
        · exact (a1 c).symm
      have ew := zq_eq hw (zy_it_lt E T q ah 7) e
      intro i hi
      rw [ew]
      exact X i hi
/-! what follows from 'agrees just where h and l allow' -/
theorem zq_st {h l i : Nat} (hi : i < 7) : (127 ^^^ (h ||| l)).testBit i = !(h.testBit i || l.testBit i) := by
  rw [zq_x127 _ i hi, Nat.testBit_or]
theorem zq_st0 {h l : Nat} (hh : h < 128) (hl : l < 128) : 127 ^^^ (h ||| l) = 0 ↔ ∀ i, i < 7 → h.testBit i = true ∨ l.testBit i = true := by
  rw [zq_eq0 (zx_x127 (zy_or_lt hh hl))]
  constructor
  · intro p i hi
    have := p i hi
    rw [zq_st hi] at this
    revert this
    cases h.testBit i <;> cases l.testBit i <;> decide
  · intro p i hi
    rw [zq_st hi]
    rcases p i hi with e | e <;> rw [e] <;> simp
theorem zq_mkb (c : Nat → Bool) : ∀ i, i < 7 → (zp_bits c 7).testBit i = c i := fun i hi => by rw [zp_bits_tb, decide_eq_true hi]; rfl
theorem zq_mk7 (c : Nat → Bool) : zp_bits c 7 < 128 := zp_bits_lt c 7
section ZQA
variable {A : Nat → Bool} {h l : Nat}
theorem zq_wit (hA : ∀ w, w < 128 → (A w = true ↔ zq_ok h l w 7)) (c : Nat → Bool) (hc : ∀ i, i < 7 → (c i = true → h.testBit i = true) ∧ (c i = false → l.testBit i = true)) : A (zp_bits c 7) = true := by
  rw [hA _ (zq_mk7 c)]
  intro i hi
  rw [zq_mkb c i hi]
  exact hc i hi
theorem zq_ns (hA : ∀ w, w < 128 → (A w = true ↔ zq_ok h l w 7)) {w : Nat} (hw : w < 128) (ha : A w = true) : ∀ i, i < 7 → h.testBit i = true ∨ l.testBit i = true := by
  intro i hi
  have := (hA w hw).mp ha i hi
  cases q : w.testBit i
  · exact Or.inr (this.2 q)
  · exact Or.inl (this.1 q)
theorem zq_any (hh : h < 128) (hl : l < 128) (hA : ∀ w, w < 128 → (A w = true ↔ zq_ok h l w 7)) : zp_any A 128 = decide (127 ^^^ (h ||| l) = 0) := by
  by_cases s0 : 127 ^^^ (h ||| l) = 0
  · rw [decide_eq_true s0, zp_any_iff]
    have s1 := (zq_st0 hh hl).mp s0
    refine ⟨zp_bits (fun i => h.testBit i) 7, zq_mk7 _, zq_wit hA _ (fun i hi => ⟨id, fun q => ?_⟩)⟩
    rcases s1 i hi with e | e
    · rw [e] at q; cases q
    · exact e
  · rw [decide_eq_false s0, zp_any_ff]
    intro k hk
    cases q : A k
    · rfl
    · exact absurd ((zq_st0 hh hl).mpr (zq_ns hA hk q)) s0
theorem zq_lst (hh : h < 128) (hl : l < 128) (hA : ∀ w, w < 128 → (A w = true ↔ zq_ok h l w 7)) : zp_no 128 (zp_fst A 128) = zy_lw l (127 ^^^ (h ||| l)) := by
  unfold zy_lw
  by_cases s0 : 127 ^^^ (h ||| l) = 0
  · have s1 := (zq_st0 hh hl).mp s0
    have hk : 127 ^^^ l < 128 := zx_x127 hl
    have e : zp_fst A 128 = 127 ^^^ l := by
      refine zp_fst_eq (by omega) (fun j hj => ?_) (Or.inr ?_)
      · cases q : A j
        · rfl
        · have w1 := (hA j (by omega)).mp q
          have : 127 ^^^ l ≤ j := Nat.le_of_testBit (fun i hb => by
            rcases Nat.lt_or_ge i 7 with c | c
            · rw [zq_x127 l i c] at hb
              cases d : j.testBit i
              · rw [(w1 i c).2 d] at hb; cases hb
              · rfl
            · rw [zx_tb_hi hk c] at hb; cases hb)
          omega
      · rw [hA _ hk]
        intro i hi
        rw [zq_x127 l i hi]
        refine ⟨fun q => ?_, fun q => by simpa using q⟩
        rcases s1 i hi with e | e
        · exact e
        · rw [e] at q; cases q
    rw [if_pos s0, e]
    exact if_neg (by omega)
  · rw [if_neg s0, zp_fst_all.mpr]
    · rfl
    · intro k hk
      cases q : A k
      · rfl
      · exact absurd ((zq_st0 hh hl).mpr (zq_ns hA hk q)) s0
end ZQA
