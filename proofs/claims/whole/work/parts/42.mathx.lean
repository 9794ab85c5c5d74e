/-! counts of weeks -/
theorem zp_cnt_add (F : Nat → Bool) (m : Nat) : ∀ n, zp_cnt F (m + n) = zp_cnt F m + zp_cnt (fun j => F (m + j)) n
  | 0 => rfl
  | n + 1 => by
    show zp_cnt F (m + n) + zx_n (F (m + n)) = zp_cnt F m + (zp_cnt (fun j => F (m + j)) n + zx_n (F (m + n)))
    rw [zp_cnt_add F m n]
    omega
theorem zp_cnt_and (G : Nat → Bool) (b : Bool) : ∀ n, zp_cnt (fun w => G w && b) n = zp_cnt G n * zx_n b
  | 0 => by simp [zp_cnt]
  | n + 1 => by
    rw [zp_cnt, zp_cnt_and G b n, zp_cnt]
    cases b <;> cases G n <;> simp [zx_n]
def zq_okb (h l n w : Nat) : Bool := !zp_any (fun i => !(cond (w.testBit i) (h.testBit i) (l.testBit i))) n
theorem zq_okb_iff {h l n w : Nat} : zq_okb h l n w = true ↔ zq_ok h l w n := by
  unfold zq_okb zq_ok
  rw [Bool.not_eq_true', zp_any_ff]
  constructor
  · intro p i hi
    have := p i hi
    cases q : w.testBit i <;> rw [q] at this <;> simpa using this
  · intro p i hi
    have := p i hi
    cases q : w.testBit i <;> rw [q] at this <;> simpa using this
theorem zq_okb_s {h l n w : Nat} : zq_okb h l (n + 1) w = (zq_okb h l n w && cond (w.testBit n) (h.testBit n) (l.testBit n)) := by
  unfold zq_okb
  rw [zp_any, Bool.not_or, Bool.not_not]
theorem zq_okb_cong {h l n w v : Nat} (e : ∀ i, i < n → w.testBit i = v.testBit i) : zq_okb h l n w = zq_okb h l n v := by
  unfold zq_okb
  rw [zp_any_cong (fun k hk => by rw [e k hk])]
theorem zq_cn (h l : Nat) : ∀ n, zp_cnt (zq_okb h l n) (2 ^ n) = cond (zp_any (fun i => !(h.testBit i || l.testBit i)) n) 0 (2 ^ zp_cnt (fun i => (h &&& l).testBit i) n)
  | 0 => rfl
  | n + 1 => by
    have ih := zq_cn h l n
    have e1 : zp_cnt (zq_okb h l (n + 1)) (2 ^ n) = zp_cnt (zq_okb h l n) (2 ^ n) * zx_n (l.testBit n) := by
      rw [← zp_cnt_and]
      exact zp_cnt_cong (fun k hk => by rw [zq_okb_s, Nat.testBit_lt_two_pow hk]; rfl)
    have e2 : zp_cnt (fun j => zq_okb h l (n + 1) (2 ^ n + j)) (2 ^ n) = zp_cnt (zq_okb h l n) (2 ^ n) * zx_n (h.testBit n) := by
      rw [← zp_cnt_and]
      exact zp_cnt_cong (fun k hk => by rw [zq_okb_s, Nat.testBit_two_pow_add_eq, Nat.testBit_lt_two_pow hk, zq_okb_cong (fun i hi => Nat.testBit_two_pow_add_gt hi k)]; rfl)
    have e3 : zp_cnt (fun i => (h &&& l).testBit i) (n + 1) = zp_cnt (fun i => (h &&& l).testBit i) n + zx_n (h.testBit n && l.testBit n) := by
      rw [zp_cnt, Nat.testBit_and]
    rw [Nat.pow_succ, show 2 ^ n * 2 = 2 ^ n + 2 ^ n by omega, zp_cnt_add, e1, e2, ih, e3, zp_any]
    cases zp_any (fun i => !(h.testBit i || l.testBit i)) n
    · cases h.testBit n <;> cases l.testBit n <;> simp [zx_n, Nat.pow_succ]
      omega
    · simp
section ZQB
variable {A : Nat → Bool} {h l : Nat}
theorem zq_nag (hh : h < 128) (hl : l < 128) (hA : ∀ w, w < 128 → (A w = true ↔ zq_ok h l w 7)) : nI (zp_cnt A 128) = zy_na h l (127 ^^^ (h ||| l)) := by
  have e : zp_cnt A 128 = zp_cnt (zq_okb h l 7) (2 ^ 7) := zp_cnt_cong (fun k hk => by
    rw [Bool.eq_iff_iff, hA k hk, zq_okb_iff])
  rw [e, zq_cn]
  unfold zy_na zp_pc
  by_cases s0 : 127 ^^^ (h ||| l) = 0
  · rw [if_pos s0, zp_any_ff _ _ |>.mpr (fun k hk => by rcases (zq_st0 hh hl).mp s0 k hk with e | e <;> rw [e] <;> simp)]
    rfl
  · rw [if_neg s0]
    have : zp_any (fun i => !(h.testBit i || l.testBit i)) 7 = true := by
      cases q : zp_any (fun i => !(h.testBit i || l.testBit i)) 7
      · refine absurd ((zq_st0 hh hl).mpr (fun i hi => ?_)) s0
        have := (zp_any_ff _ _).mp q i hi
        revert this
        cases h.testBit i <;> cases l.testBit i <;> decide
      · rfl
    rw [this]
    rfl
theorem zq_anyc (hh : h < 128) (hl : l < 128) (hA : ∀ w, w < 128 → (A w = true ↔ zq_ok h l w 7)) (o : Nat) (ho : o < 7) (b : Bool) : zp_any (fun w => A w && (w.testBit o == b)) 128 = (decide (127 ^^^ (h ||| l) = 0) && cond b (h.testBit o) (l.testBit o)) := by
  rw [Bool.eq_iff_iff, zp_any_iff, Bool.and_eq_true, decide_eq_true_iff]
  constructor
  · rintro ⟨w, hw, q⟩
    rw [Bool.and_eq_true, beq_iff_eq] at q
    refine ⟨(zq_st0 hh hl).mpr (zq_ns hA hw q.1), ?_⟩
    have := (hA w hw).mp q.1 o ho
    cases b
    · exact this.2 q.2
    · exact this.1 q.2
  · rintro ⟨s0, q⟩
    have s1 := (zq_st0 hh hl).mp s0
    refine ⟨zp_bits (fun i => if i = o then b else h.testBit i) 7, zq_mk7 _, ?_⟩
    rw [Bool.and_eq_true, beq_iff_eq]
    refine ⟨zq_wit hA _ (fun i hi => ?_), by rw [zq_mkb _ o ho, if_pos rfl]⟩
    by_cases e : i = o
    · subst e
      rw [if_pos rfl]
      cases b
      · exact ⟨fun z => (by cases z), fun _ => q⟩
      · exact ⟨fun _ => q, fun z => (by cases z)⟩
    · rw [if_neg e]
      refine ⟨id, fun z => ?_⟩
      rcases s1 i hi with e1 | e1
      · rw [e1] at z; cases z
      · exact e1
theorem zq_cou (f : Nat → Nat) (i : Nat) : ∀ n, zp_cou f i n = zx_n (zp_any (fun w => zp_ag f w && (w.testBit i == false)) n) + 2 * zx_n (zp_any (fun w => zp_ag f w && (w.testBit i == true)) n)
  | 0 => rfl
  | n + 1 => by
    rw [zp_cou, zq_cou f i n, zp_any, zp_any]
    cases zp_any (fun w => zp_ag f w && (w.testBit i == false)) n <;> cases zp_any (fun w => zp_ag f w && (w.testBit i == true)) n <;> cases zp_ag f n <;> cases n.testBit i <;> rfl
theorem zq_sur {f : Nat → Nat} (hh : h < 128) (hl : l < 128) (hA : ∀ w, w < 128 → (zp_ag f w = true ↔ zq_ok h l w 7)) {o : Nat} (ho : o < 7) : zp_sur f o = zy_su h l (127 ^^^ (h ||| l)) o := by
  unfold zp_sur zy_su
  rw [zq_cou, zq_anyc hh hl hA o ho, zq_anyc hh hl hA o ho, Nat.testBit_and]
  by_cases s0 : 127 ^^^ (h ||| l) = 0
  · have s1 := (zq_st0 hh hl).mp s0 o ho
    rw [decide_eq_true s0, s0]
    revert s1
    cases h.testBit o <;> cases l.testBit o <;> simp [zx_n]
  · rw [decide_eq_false s0, if_pos (Or.inl s0)]
    simp [zx_n]
theorem zq_eno {f : Nat → Nat} (hh : h < 128) (hl : l < 128) (hA : ∀ w, w < 128 → (zp_ag f w = true ↔ zq_ok h l w 7)) {t : Nat} (ht : t < 128) : zp_eno f t = (decide (127 ^^^ (h ||| l) = 0) && decide (t &&& l = 0)) := by
  unfold zp_eno
  rw [zq_any hh hl hA]
  by_cases s0 : 127 ^^^ (h ||| l) = 0
  · have s1 := (zq_st0 hh hl).mp s0
    rw [decide_eq_true s0, Bool.true_and, Bool.true_and]
    by_cases d0 : t &&& l = 0
    · rw [decide_eq_true d0, Bool.not_eq_true', zp_any_ff]
      intro w hw
      cases q : zp_ag f w
      · rfl
      · have w1 := (hA w hw).mp q
        have : w &&& t = t := zq_eq (Nat.lt_of_le_of_lt Nat.and_le_left hw) ht (fun i hi => by
          rw [Nat.testBit_and]
          cases c : t.testBit i
          · rw [Bool.and_false]
          · have := (zq_dis ht).mp d0 i hi c
            cases e : w.testBit i
            · rw [(w1 i hi).2 e] at this; cases this
            · rfl)
        rw [decide_eq_true this]; rfl
    · rw [decide_eq_false d0, Bool.not_eq_false', zp_any_iff]
      have : ∃ i, i < 7 ∧ t.testBit i = true ∧ l.testBit i = true := by
        refine Classical.byContradiction (fun z => d0 ((zq_dis ht).mpr (fun i hi q => ?_)))
        cases e : l.testBit i
        · rfl
        · exact absurd ⟨i, hi, q, e⟩ z
      obtain ⟨i, hi, t1, l1⟩ := this
      refine ⟨zp_bits (fun j => if j = i then false else h.testBit j) 7, zq_mk7 _, ?_⟩
      rw [Bool.and_eq_true]
      refine ⟨zq_wit hA _ (fun j hj => ?_), ?_⟩
      · by_cases e : j = i
        · subst e
          rw [if_pos rfl]
          exact ⟨fun z => (by cases z), fun _ => l1⟩
        · rw [if_neg e]
          refine ⟨id, fun z => ?_⟩
          rcases s1 j hj with e1 | e1
          · rw [e1] at z; cases z
          · exact e1
      · rw [Bool.not_eq_true', decide_eq_false_iff_not]
        intro z
        have := congrArg (fun x => x.testBit i) z
        simp only [Nat.testBit_and, t1, zq_mkb _ i hi, if_true] at this
        exact absurd this (by decide)
  · rw [decide_eq_false s0, Bool.false_and, Bool.false_and]
theorem zq_al {fd : Nat → Bool} {x y : Nat} (hh : h < 128) (hl : l < 128) (hx : x < 128) (hy : y < 128) (hA : ∀ w, w < 128 → (A w = true ↔ zq_ok h l w 7))
    (hf : ∀ w, w < 128 → (fd w = true ↔ ∀ i, i < 7 → (x.testBit i = true → w.testBit i = true) ∧ (y.testBit i = true → w.testBit i = false))) : zp_any (fun w => fd w && A w) 128 = zy_al h l (127 ^^^ (h ||| l)) x y := by
  unfold zy_al
  rw [Bool.eq_iff_iff, zp_any_iff, Bool.and_eq_true, Bool.and_eq_true, Bool.and_eq_true, decide_eq_true_iff, decide_eq_true_iff, decide_eq_true_iff, decide_eq_true_iff, zq_st0 hh hl, zq_dis hx, zq_sub hx, zq_sub hy]
  constructor
  · rintro ⟨w, hw, q⟩
    rw [Bool.and_eq_true] at q
    have w1 := (hA w hw).mp q.2
    have w2 := (hf w hw).mp q.1
    refine ⟨zq_ns hA hw q.2, fun i hi p => ?_, fun i hi p => (w1 i hi).1 ((w2 i hi).1 p), fun i hi p => (w1 i hi).2 ((w2 i hi).2 p)⟩
    cases e : y.testBit i
    · rfl
    · have a1 := (w2 i hi).1 p
      rw [(w2 i hi).2 e] at a1; cases a1
  · rintro ⟨s1, s2, s3, s4⟩
    refine ⟨zp_bits (fun i => x.testBit i || (h.testBit i && !y.testBit i)) 7, zq_mk7 _, ?_⟩
    rw [Bool.and_eq_true]
    refine ⟨(hf _ (zq_mk7 _)).mpr (fun i hi => ?_), zq_wit hA _ (fun i hi => ?_)⟩
    · rw [zq_mkb _ i hi]
      have := s2 i hi
      revert this
      cases x.testBit i <;> cases y.testBit i <;> cases h.testBit i <;> simp
    · have a1 := s1 i hi
      have a2 := s2 i hi
      have a3 := s3 i hi
      have a4 := s4 i hi
      revert a1 a2 a3 a4
      cases x.testBit i <;> cases y.testBit i <;> cases h.testBit i <;> cases l.testBit i <;> simp
end ZQB
/-! the first day that cannot -/
theorem zp_max_le2 {f : Nat → Nat} {c : Nat} : ∀ {n}, (∀ k, k < n → f k ≤ c) → zp_max f n ≤ c
  | 0, _ => Nat.zero_le c
  | n + 1, hf => by
    have h := zp_max_le2 (n := n) (fun k hk => hf k (by omega))
    have h2 := hf n (by omega)
    rw [zp_max]
    split <;> omega
theorem zq_can {E T q : Nat} {ah : Int} (hE : E < 128) (hT : T < 128) (hq : q < 128) : zp_can (zy_f E T q ah) = zp_no 7 (zp_fst (fun i9 => (zy_s (zy_f E T q ah) ah).testBit i9) 7) := by
  obtain ⟨hh, hl, hs⟩ := zy_hls E T q ah
  unfold zp_can
  congr 1
  by_cases h0 : ah = 0
  · subst h0
    have e : ∀ w i, i < 7 → (zy_f E T q 0 w).testBit i = cond (w.testBit i) ((zy_h (zy_f E T q 0) 0).testBit i) (!(zy_l (zy_f E T q 0) 0).testBit i) := by
      intro w i hi
      unfold zy_h zy_l
      rw [if_pos rfl, if_pos rfl, zq_x127 _ i hi, zq_f0 hi, zq_f0 hi, zq_f0 hi, zq_127, decide_eq_true hi, Nat.zero_testBit, Bool.not_not]
      rfl
    have es : ∀ i, i < 7 → (zy_s (zy_f E T q 0) 0).testBit i = !((zy_h (zy_f E T q 0) 0).testBit i || (zy_l (zy_f E T q 0) 0).testBit i) := fun i hi => zq_st hi
    generalize zy_h (zy_f E T q 0) 0 = h9 at *
    generalize zy_l (zy_f E T q 0) 0 = l9 at *
    have hn := zp_fst_le (fun i9 => (zy_s (zy_f E T q 0) 0).testBit i9) 7
    have hno := zp_fst_no (fun i9 => (zy_s (zy_f E T q 0) 0).testBit i9) 7
    have hye := zp_fst_yes (fun i9 => (zy_s (zy_f E T q 0) 0).testBit i9) 7
    generalize zp_fst (fun i9 => (zy_s (zy_f E T q 0) 0).testBit i9) 7 = n9 at *
    apply Nat.le_antisymm
    · refine zp_max_le2 (fun w _ => ?_)
      have fn := zp_fst_no (fun i => w.testBit i != (zy_f E T q 0 w).testBit i) 7
      have fl := zp_fst_le (fun i => w.testBit i != (zy_f E T q 0 w).testBit i) 7
      show zp_fst (fun i => w.testBit i != (zy_f E T q 0 w).testBit i) 7 ≤ n9
      rcases Nat.lt_or_ge n9 (zp_fst (fun i => w.testBit i != (zy_f E T q 0 w).testBit i) 7) with c | c
      · have a1 := fn n9 c
        have a2 := hye (by omega)
        rw [es n9 (by omega)] at a2
        rw [e w n9 (by omega)] at a1
        revert a1 a2
        cases w.testBit n9 <;> cases h9.testBit n9 <;> cases l9.testBit n9 <;> simp
      · exact c
    · refine Nat.le_trans ?_ (zp_max_ge (zp_fw (zy_f E T q 0)) hh)
      have fl := zp_fst_le (fun i => h9.testBit i != (zy_f E T q 0 h9).testBit i) 7
      have fy := zp_fst_yes (fun i => h9.testBit i != (zy_f E T q 0 h9).testBit i) 7
      show n9 ≤ zp_fst (fun i => h9.testBit i != (zy_f E T q 0 h9).testBit i) 7
      generalize zp_fst (fun i => h9.testBit i != (zy_f E T q 0 h9).testBit i) 7 = m9 at *
      rcases Nat.lt_or_ge m9 n9 with c | c
      · have a1 := hno m9 c
        have a2 := fy (by omega)
        rw [es m9 (by omega)] at a1
        rw [e h9 m9 (by omega)] at a2
        revert a1 a2
        cases h9.testBit m9 <;> cases l9.testBit m9 <;> simp
      · exact c
  · have X := (zq_fix hE hT hq h0).1
    have e1 : zp_fw (zy_f E T q ah) (zy_it (zy_f E T q ah) 7) = 7 := by
      have := zq_ag1.mpr X
      unfold zp_ag at this
      exact of_decide_eq_true this
    have e2 : zp_fst (fun i9 => (zy_s (zy_f E T q ah) ah).testBit i9) 7 = 7 := by
      rw [zp_fst_all]
      intro i hi
      show (127 ^^^ (zy_h (zy_f E T q ah) ah ||| zy_l (zy_f E T q ah) ah)).testBit i = false
      rw [zq_st hi]
      unfold zy_h zy_l
      rw [if_neg h0, if_neg h0, zq_x127 _ i hi]
      cases (zy_it (zy_f E T q ah) 7).testBit i <;> rfl
    rw [e2]
    apply Nat.le_antisymm
    · exact zp_max_le (fun k => zp_fst_le _ 7) 128
    · rw [← e1]
      exact zp_max_ge _ (zy_it_lt E T q ah 7)
