/-! refused (with which answer) or done (with what) -/
def zd_out {α : Type} (o : Int32 ⊕ α) (P : Int32 → Prop) (Q : α → Prop) : Prop := match o with
  | .inl e => P e
  | .inr k => Q k
theorem zd_inl {α : Type} {o : Int32 ⊕ α} {e : Int32} {P : Int32 → Prop} {Q : α → Prop} (h : o = .inl e) (p : P e) : zd_out o P Q := by rw [h]; exact p
theorem zd_inr {α : Type} {o : Int32 ⊕ α} {k : α} {P : Int32 → Prop} {Q : α → Prop} (h : o = .inr k) (p : Q k) : zd_out o P Q := by rw [h]; exact p
def zd_letter (n : Nat) (x : Int32) : Int32 ⊕ Nat := match zd_rng 32 126 x with
  | none => .inl (-102)
  | some k => if n = 12 then .inl (-104) else .inr k
def zd_face (c : Nat) (x : Int32) : Int32 ⊕ Nat := match zd_rng 0 3 x with
  | none => .inl (-102)
  | some k => if c = 0 then .inl (-103) else .inr k
/-! the page -/
def zp_flt (n : Nat) (pg : Nat → Nat) : Nat := zp_fst (fun k => !zp_okl k (pg k)) n
theorem zp_flt_le (n : Nat) (pg : Nat → Nat) : zp_flt n pg ≤ n := zp_fst_le _ n
theorem zp_flt_eq {n k : Nat} {pg : Nat → Nat} (hk : k ≤ n) (hno : ∀ j, j < k → zp_okl j (pg j) = true) (h : k = n ∨ zp_okl k (pg k) = false) : nI k = nI (zp_flt n pg) :=
  congrArg nI (zp_fst_eq hk (fun j hj => by simp [hno j hj]) (h.elim Or.inl (fun q => Or.inr (by simp [q])))).symm
theorem zp_flt_ok {n : Nat} {pg : Nat → Nat} (h : zp_flt n pg = n) : ∀ j, j < n → zp_okl j (pg j) = true := fun j hj => by
  have := zp_fst_all.mp h j hj
  simpa using this
theorem zp_okl_lo {k c : Nat} (hk : k < 9) (hc : c < 128) (h : ¬ zx_i (zp_dl c) = nI 99) : zp_okl k c = true := by
  unfold zp_okl; rw [if_pos hk]; exact decide_eq_true (fun q => h ((zx_dl99 c hc).mpr q))
theorem zp_okl_lo0 {k c : Nat} (hk : k < 9) (hc : c < 128) (h : zx_i (zp_dl c) = nI 99) : zp_okl k c = false := by
  unfold zp_okl; rw [if_pos hk]; exact decide_eq_false (fun q => q ((zx_dl99 c hc).mp h))
theorem zp_okl_9 {k c : Nat} {b : Bool} (hk : k = 9) (h : (decide (48 ≤ c) && decide (c ≤ 51)) = b) : zp_okl k c = b := by
  subst hk; unfold zp_okl; rw [if_neg (by decide)]; simpa using h
theorem zp_okl_hi {k c : Nat} (h1 : 9 ≤ k) (h : k ≠ 9) : zp_okl k c = false := by
  unfold zp_okl; rw [if_neg (by omega), decide_eq_false h]; rfl
theorem zp_okl9 {c : Nat} (h : zp_okl 9 c = true) : 48 ≤ c ∧ c ≤ 51 := by
  unfold zp_okl at h; rw [if_neg (by decide)] at h
  simpa using h
theorem zp_dlR : ∀ c, c < 128 → zp_dl c ≠ 99 → -2 ≤ zp_dl c ∧ zp_dl c ≤ 3 := by decide +kernel
theorem zx_dl0 : ∀ c, c < 128 → (zx_i (zp_dl c) = 0 ↔ zp_dl c = 0) := by decide +kernel
def zd_chest (n : Nat) (pg : Nat → Nat) : Int32 ⊕ Unit := if n = 10 ∧ zp_flt n pg = 10 then .inr () else .inl (-103)
theorem zd_chestF {n : Nat} {pg : Nat → Nat} (h : n ≠ 10 ∨ zp_flt n pg ≠ 10) : zd_chest n pg = .inl (-103) := by
  unfold zd_chest; rw [if_neg]
  rintro ⟨h1, h2⟩
  rcases h with h | h
  · exact h h1
  · exact h h2
theorem zd_chestT {n : Nat} {pg : Nat → Nat} (h : n = 10) (h2 : zp_flt n pg = 10) : zd_chest n pg = .inr () := by
  unfold zd_chest; rw [if_pos ⟨h, h2⟩]
theorem zp_upN {α : Type} {y : Nat → α} {g : Nat → α} {d : Nat} {v : α} (hv : v = g d) (h : ∀ j, j < d → y j = g j) : ∀ j, j < d + 1 → zx_up y d v j = g j := by
  intro j hj
  rw [zx_up_if]
  by_cases q : j = d
  · rw [if_pos q, q]; exact hv
  · rw [if_neg q]; exact h j (by omega)
theorem zp_cntT {f : Nat → Bool} {n : Nat} (h : f n = true) : nI (zp_cnt f n + 1) = nI (zp_cnt f (n + 1)) := by rw [zp_cnt, h]; rfl
theorem zp_cntF {f : Nat → Bool} {n : Nat} (h : f n = false) : nI (zp_cnt f n + 0) = nI (zp_cnt f (n + 1)) := by rw [zp_cnt, h]; rfl
/-! what the people put -/
theorem zp_pt_end {j i : Nat} {P e q : Bool} (hj : j = 7) : ((decide (i < 7) && P) || (decide (i < j) && (e && q))) = (decide (i < 7) && (P || (e && q))) := by
  subst hj; cases decide (i < 7) <;> simp
theorem zp_pt_no {D d j i : Nat} {P q : Bool} (h : D ≠ d) : ((decide (i < 7) && P) || (decide (i < j) && (decide (D = d) && q))) = (decide (i < 7) && (P || (decide (D = d) && q))) := by
  simp [h]
theorem zp_putT {b j D d : Nat} {P q : Nat → Bool} (g2 : ∀ i, b.testBit i = ((decide (i < 7) && P i) || (decide (i < j) && (decide (D = d) && q i)))) (hj : j < 7) (he : D = d) (hq : q j = true) : ∀ i, (b ||| 2 ^ j).testBit i = ((decide (i < 7) && P i) || (decide (i < j + 1) && (decide (D = d) && q i))) := by
  intro i
  rw [Nat.testBit_or, Nat.testBit_two_pow, g2 i]
  by_cases h : j = i
  · subst h; simp [he, hq]
  · have e1 : (i < j + 1) ↔ (i < j) := by omega
    simp [h, e1]
theorem zp_putF {b j D d : Nat} {P q : Nat → Bool} (g2 : ∀ i, b.testBit i = ((decide (i < 7) && P i) || (decide (i < j) && (decide (D = d) && q i)))) (hq : q j = false) : ∀ i, (b ||| 0).testBit i = ((decide (i < 7) && P i) || (decide (i < j + 1) && (decide (D = d) && q i))) := by
  intro i
  rw [Nat.or_zero, g2 i]
  by_cases h : j = i
  · subst h; simp [hq]
  · have e1 : (i < j + 1) ↔ (i < j) := by omega
    simp [e1]
theorem zp_put_eq {k n b d w : Nat} {K D O : Nat → Nat} (hk : k = n) (h : ∀ i, b.testBit i = (decide (i < 7) && zp_pt k K D O d i (w.testBit i))) : b = zp_put n K D O d w := by
  subst hk
  apply Nat.eq_of_testBit_eq
  intro i
  rw [h i, zp_put, zp_bits_tb]
theorem zp_put_lt (n : Nat) (K D O : Nat → Nat) (d w : Nat) : zp_put n K D O d w < 128 := zp_bits_lt _ 7
