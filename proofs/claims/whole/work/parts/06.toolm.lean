/-! refused (with which answer) or done (with what) -/
def zd_out {α : Type} (o : Int32 ⊕ α) (P : Int32 → Prop) (Q : α → Prop) : Prop := match o with
  | .inl e => P e
  | .inr k => Q k
theorem zd_inl {α : Type} {o : Int32 ⊕ α} {e : Int32} {P : Int32 → Prop} {Q : α → Prop} (h : o = .inl e) (p : P e) : zd_out o P Q := by rw [h]; exact p
theorem zd_inr {α : Type} {o : Int32 ⊕ α} {k : α} {P : Int32 → Prop} {Q : α → Prop} (h : o = .inr k) (p : Q k) : zd_out o P Q := by rw [h]; exact p
def zd_letter (n : Nat) (x : Int32) : Int32 ⊕ Nat := match zd_rng 32 126 x with
  | none => .inl (-102)
  | some k => if n = 12 then .inl (-104) else .inr k
def zd_face (c : Nat) (x : Int32) : Int32 ⊕ Nat := match zd_rng 0 3 x with
  | none => .inl (-102)
  | some k => if c = 0 then .inl (-103) else .inr k
/-! the page -/
noncomputable def zp_flt (n : Nat) (pg : Nat → Nat) : Nat := zp_fst (fun k => !zp_okl k (pg k)) n
theorem zp_flt_le (n : Nat) (pg : Nat → Nat) : zp_flt n pg ≤ n := zp_fst_le _ n
theorem zp_flt_eq {n k : Nat} {pg : Nat → Nat} (hk : k ≤ n) (hno : ∀ j, j < k → zp_okl j (pg j) = true) (h : k = n ∨ zp_okl k (pg k) = false) : nI k = nI (zp_flt n pg) :=
  congrArg nI (zp_fst_eq hk (fun j hj => by simp [hno j hj]) (h.elim Or.inl (fun q => Or.inr (by simp [q])))).symm
theorem zp_flt_ok {n : Nat} {pg : Nat → Nat} (h : zp_flt n pg = n) : ∀ j, j < n → zp_okl j (pg j) = true := fun j hj => by
  have := zp_fst_all.mp h j hj
  simpa using this
theorem zp_okl_lo {k c : Nat} (hk : k < 9) (hc : c < 128) (h : ¬ zx_i (zp_dl c) = nI 99) : zp_okl k c = true := by
  unfold zp_okl; rw [if_pos hk]; exact decide_eq_true (fun q => h ((zx_dl99 c hc).mpr q))
theorem zp_okl_lo0 {k c : Nat} (hk : k < 9) (hc : c < 128) (h : zx_i (zp_dl c) = nI 99) : zp_okl k c = false := by
  unfold zp_okl; rw [if_pos hk]; exact decide_eq_false (fun q => q ((zx_dl99 c hc).mp h))
theorem zp_okl_9 {k c : Nat} {b : Bool} (hk : k = 9) (h : (decide (48 ≤ c) && decide (c ≤ 51)) = b) : zp_okl k c = b := by
  subst hk; unfold zp_okl; rw [if_neg (by decide)]; simpa using h
theorem zp_okl_hi {k c : Nat} (h1 : 9 ≤ k) (h : k ≠ 9) : zp_okl k c = false := by
  unfold zp_okl; rw [if_neg (by omega), decide_eq_false h]; rfl
theorem zp_okl9 {c : Nat} (h : zp_okl 9 c = true) : 48 ≤ c ∧ c ≤ 51 := by
  unfold zp_okl at h; rw [if_neg (by decide)] at h
  simpa using h
theorem zp_dlR : ∀ c, c < 128 → zp_dl c ≠ 99 → -2 ≤ zp_dl c ∧ zp_dl c ≤ 3 := by decide +kernel
theorem zx_dl0 : ∀ c, c < 128 → (zx_i (zp_dl c) = 0 ↔ zp_dl c = 0) := by decide +kernel
noncomputable def zd_chest (n : Nat) (pg : Nat → Nat) : Int32 ⊕ Unit := if n = 10 ∧ zp_flt n pg = 10 then .inr () else .inl (-103)
theorem zd_chestF {n : Nat} {pg : Nat → Nat} (h : n ≠ 10 ∨ zp_flt n pg ≠ 10) : zd_chest n pg = .inl (-103) := by
  unfold zd_chest; rw [if_neg]
  rintro ⟨h1, h2⟩
  rcases h with h | h
  · exact h h1
  · exact h h2
theorem zd_chestT {n : Nat} {pg : Nat → Nat} (h : n = 10) (h2 : zp_flt n pg = 10) : zd_chest n pg = .inr () := by
  unfold zd_chest; rw [if_pos ⟨h, h2⟩]
theorem zp_upN {α : Type} {y : Nat → α} {g : Nat → α} {d : Nat} {v : α} (hv : v = g d) (h : ∀ j, j < d → y j = g j) : ∀ j, j < d + 1 → zx_up y d v j = g j := by
  intro j hj
  rw [zx_up_if]
  by_cases q : j = d
  · rw [if_pos q, q]; exact hv
  · rw [if_neg q]; exact h j (by omega)
theorem zp_cntT {f : Nat → Bool} {n : Nat} (h : f n = true) : nI (zp_cnt f n + 1) = nI (zp_cnt f (n + 1)) := by rw [zp_cnt, h]; rfl
theorem zp_cntF {f : Nat → Bool} {n : Nat} (h : f n = false) : nI (zp_cnt f n + 0) = nI (zp_cnt f (n + 1)) := by rw [zp_cnt, h]; rfl
/-! what the people put -/
theorem zp_pt_end {j i : Nat} {P e q : Bool} (hj : j = 7) : ((decide (i < 7) && P) || (decide (i < j) && (e && q))) = (decide (i < 7) && (P || (e && q))) := by
  subst hj; cases decide (i < 7) <;> simp
theorem zp_pt_no {D d j i : Nat} {P q : Bool} (h : D ≠ d) : ((decide (i < 7) && P) || (decide (i < j) && (decide (D = d) && q))) = (decide (i < 7) && (P || (decide (D = d) && q))) := by
  simp [h]
theorem zp_putT {b j D d : Nat} {P q : Nat → Bool} (g2 : ∀ i, b.testBit i = ((decide (i < 7) && P i) || (decide (i < j) && (decide (D = d) && q i)))) (hj : j < 7) (he : D = d) (hq : q j = true) : ∀ i, (b ||| 2 ^ j).testBit i = ((decide (i < 7) && P i) || (decide (i < j + 1) && (decide (D = d) && q i))) := by
  intro i
  rw [Nat.testBit_or, Nat.testBit_two_pow, g2 i]
  by_cases h : j = i
  · subst h; simp [he, hq]
  · have e1 : (i < j + 1) ↔ (i < j) := by omega
    simp [h, e1]
theorem zp_putF {b j D d : Nat} {P q : Nat → Bool} (g2 : ∀ i, b.testBit i = ((decide (i < 7) && P i) || (decide (i < j) && (decide (D = d) && q i)))) (hq : q j = false) : ∀ i, (b ||| 0).testBit i = ((decide (i < 7) && P i) || (decide (i < j + 1) && (decide (D = d) && q i))) := by
  intro i
  rw [Nat.or_zero, g2 i]
  by_cases h : j = i
  · subst h; simp [hq]
  · have e1 : (i < j + 1) ↔ (i < j) := by omega
    simp [e1]
theorem zp_put_eq {k n b d w : Nat} {K D O : Nat → Nat} (hk : k = n) (h : ∀ i, b.testBit i = (decide (i < 7) && zp_pt k K D O d i (w.testBit i))) : b = zp_put n K D O d w := by
  subst hk
  apply Nat.eq_of_testBit_eq
  intro i
  rw [h i, zp_put, zp_bits_tb]
theorem zp_put_lt (n : Nat) (K D O : Nat → Nat) (d w : Nat) : zp_put n K D O d w < 128 := zp_bits_lt _ 7
/-! weeks, by the reference -/
theorem zx_a127 (x : Nat) : x &&& 127 < 2147483648 := by
  have := Nat.and_le_right (n := x) (m := 127)
  omega
theorem zx_m4 {m k : Nat} (hm : m < 128) (hk : k ≤ 4) : m * 2 ^ k < 2 ^ 32 := by
  have h1 : 2 ^ k ≤ 2 ^ 4 := Nat.pow_le_pow_right (by decide) hk
  have h2 : m * 2 ^ k ≤ 127 * 2 ^ 4 := Nat.mul_le_mul (by omega) h1
  omega
theorem zx_negp {k : Nat} (h0 : 0 < k) (hk : k < 2 ^ 30) : -(nI k) < 0 := by
  rw [Int32.lt_iff_toInt_lt, ← zx_i_n, zx_i_neg, zx_i_toInt (by omega) (by omega)]
  show -(k : Int) < 0
  omega
theorem zp_sh_p {m k : Nat} : zp_sh m (k : Int) = m * 2 ^ k &&& 127 := by
  unfold zp_sh
  rw [if_pos (by omega), Int.toNat_natCast]
theorem zp_sh_n {m k : Nat} (h0 : 0 < k) : zp_sh m (-(k : Int)) = m / 2 ^ k &&& 127 := by
  unfold zp_sh
  rw [if_neg (by omega), Int.neg_neg, Int.toNat_natCast]
theorem zp_sh_lt (m : Nat) (ah : Int) : zp_sh m ah < 128 := by
  have := Nat.and_le_right (n := (if 0 ≤ ah then m * 2 ^ ah.toNat else m / 2 ^ (-ah).toNat)) (m := 127)
  unfold zp_sh
  omega
theorem zp_fw_eq {f : Nat → Nat} {w mb j : Nat} (hM : f w = mb) (hj : j ≤ 7) (gj : ∀ i, i < j → w.testBit i = mb.testBit i) (h : j = 7 ∨ w.testBit j ≠ mb.testBit j) : nI j = nI (zp_fw f w) := by
  refine congrArg nI (zp_fst_eq hj (fun i hi => ?_) (h.elim Or.inl (fun q => Or.inr ?_))).symm
  · rw [hM, gj i hi]; simp
  · rw [hM]; simpa using q
theorem zp_fw_lt (f : Nat → Nat) (w : Nat) : zp_fw f w < 2 ^ 31 := by
  have : zp_fw f w ≤ 7 := zp_fst_le _ 7
  omega
theorem zp_mxf_lt (f : Nat → Nat) (n : Nat) : zp_max (zp_fw f) n < 2 ^ 31 := by
  have : zp_max (zp_fw f) n ≤ 7 := zp_max_le (fun k => zp_fst_le _ 7) n
  omega
theorem zp_ah_rng {f : Nat} {q : Int} (hf : f ≤ 3) (hq : -2 ≤ q ∧ q ≤ 3) : -3 ≤ zp_ah f q ∧ zp_ah f q ≤ 4 := by
  unfold zp_ah
  split
  · omega
  · split
    · omega
    · split <;> omega
theorem zp_lst_k {f : Nat → Nat} {k : Nat} (hk : k ≤ 128) (gk : ∀ j, j < k → zp_ag f j = false) (h : k = 128 ∨ zp_ag f k = true) (hn : k ≠ 128) : nI k = zp_lst f := by
  unfold zp_lst zp_no
  rw [zp_fst_eq hk gk h, if_neg hn]
theorem zp_lst_n {f : Nat → Nat} {k : Nat} (hk : k ≤ 128) (gk : ∀ j, j < k → zp_ag f j = false) (h : k = 128 ∨ zp_ag f k = true) (hn : k = 128) : (-1 : Int32) = zp_lst f := by
  unfold zp_lst zp_no
  rw [zp_fst_eq hk gk h, if_pos hn]
theorem zp_bits_or (f : Nat → Bool) (n : Nat) : zp_bits f (n + 1) = zp_bits f n ||| cond (f n) (2 ^ n) 0 := by
  have h := zp_bits_lt f n
  rw [zp_bits]
  cases f n with
  | false => simp
  | true =>
    have e := Nat.two_pow_add_eq_or_of_lt h 1
    rw [Nat.mul_one] at e
    rw [cond_true, Nat.add_comm, e, Nat.or_comm]
theorem zp_bitsT {f : Nat → Bool} {n : Nat} (h : f n = true) : nI (zp_bits f n ||| 2 ^ n) = nI (zp_bits f (n + 1)) := by rw [zp_bits_or, h]; rfl
theorem zp_bitsF {f : Nat → Bool} {n : Nat} (h : f n = false) : nI (zp_bits f n ||| 0) = nI (zp_bits f (n + 1)) := by rw [zp_bits_or, h]; rfl
/-- what drawer() tells of a drawer -/
noncomputable def zm_dn (s : Nat → Nat) (a : Nat → Nat → Nat) (z : Nat → Int) (d q : Nat) : Int32 :=
  if q = 0 then zx_i (z d) + nI 10 else if q = 1 then zx_i (zp_ah (s 3) (z d)) + nI 10 else if q = 2 then nI (zp_bits (fun p9 => decide (a 7 p9 = d)) (s 5)) else if q = 3 then nI (a 4 d) else if q = 4 then nI (zp_nag (zm_F s a z d)) else if q = 5 then zp_can (zm_F s a z d) else zp_lst (zm_F s a z d)
def zs_dq (n : Nat) (o : Option Nat) (y : Int32) (F : Nat → Nat → Int32) : Int32 := match o with
  | none => -101
  | some d => match zd_rng 0 n y with
    | none => -102
    | some q => F d q
theorem zs_dqo {n d : Nat} {y : Int32} {F : Nat → Nat → Int32} (h : zd_rng 0 n y = none) : zs_dq n (some d) y F = -102 := by unfold zs_dq; simp only [h]
theorem zs_dqi {n d q : Nat} {y : Int32} {F : Nat → Nat → Int32} (h : zd_rng 0 n y = some q) : zs_dq n (some d) y F = F d q := by unfold zs_dq; simp only [h]
section ZDN
variable {s : Nat → Nat} {a : Nat → Nat → Nat} {z : Nat → Int} {d : Nat}
theorem zm_dn0 : zm_dn s a z d 0 = zx_i (z d) + nI 10 := by unfold zm_dn; rw [if_pos rfl]
theorem zm_dn1 : zm_dn s a z d 1 = zx_i (zp_ah (s 3) (z d)) + nI 10 := by unfold zm_dn; rw [if_neg (by decide), if_pos rfl]
theorem zm_dn2 : zm_dn s a z d 2 = nI (zp_bits (fun p9 => decide (a 7 p9 = d)) (s 5)) := by unfold zm_dn; rw [if_neg (by decide), if_neg (by decide), if_pos rfl]
theorem zm_dn3 : zm_dn s a z d 3 = nI (a 4 d) := by unfold zm_dn; rw [if_neg (by decide), if_neg (by decide), if_neg (by decide), if_pos rfl]
theorem zm_dn4 : zm_dn s a z d 4 = nI (zp_nag (zm_F s a z d)) := by unfold zm_dn; rw [if_neg (by decide), if_neg (by decide), if_neg (by decide), if_neg (by decide), if_pos rfl]
theorem zm_dn5 : zm_dn s a z d 5 = zp_can (zm_F s a z d) := by unfold zm_dn; rw [if_neg (by decide), if_neg (by decide), if_neg (by decide), if_neg (by decide), if_neg (by decide), if_pos rfl]
theorem zm_dn6 : zm_dn s a z d 6 = zp_lst (zm_F s a z d) := by unfold zm_dn; rw [if_neg (by decide), if_neg (by decide), if_neg (by decide), if_neg (by decide), if_neg (by decide), if_neg (by decide)]
end ZDN
