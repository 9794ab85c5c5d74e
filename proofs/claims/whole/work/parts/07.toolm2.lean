/-! people, by their numbers -/
def zd_person (c n : Nat) (x y t : Int32) : Int32 ⊕ (Nat × Nat × Nat) := match zd_rng 0 4 x with
  | none => .inl (-102)
  | some k => match zd_drw c y with
    | none => .inl (-101)
    | some d => match zd_rng 0 6 t with
      | none => .inl (-101)
      | some o => if n = 6 then .inl (-104) else .inr (k, d, o)
def zp_ab (K D O q : Nat) : Int32 := if q = 0 then nI K else if q = 1 then nI D else if q = 2 then nI O else if q < 20 then nI (zx_n (zp_puts K O (q % 10) false)) else nI (zx_n (zp_puts K O (q % 10) true))
theorem zp_ab_11 {K D O q : Nat} (h2 : 2 < q) (h : 20 ≤ q) (hp : zp_puts K O (q % 10) true = true) : zp_ab K D O q = nI 1 := by
  unfold zp_ab; rw [if_neg (by omega), if_neg (by omega), if_neg (by omega), if_neg (by omega), hp]; rfl
theorem zp_ab_10 {K D O q : Nat} (h2 : 2 < q) (h : 20 ≤ q) (hp : zp_puts K O (q % 10) true = false) : zp_ab K D O q = nI 0 := by
  unfold zp_ab; rw [if_neg (by omega), if_neg (by omega), if_neg (by omega), if_neg (by omega), hp]; rfl
theorem zp_ab_1 {K D O q : Nat} (h2 : 2 < q) (h : q < 20) (hp : zp_puts K O (q % 10) false = true) : zp_ab K D O q = nI 1 := by
  unfold zp_ab; rw [if_neg (by omega), if_neg (by omega), if_neg (by omega), if_pos h, hp]; rfl
theorem zp_ab_0 {K D O q : Nat} (h2 : 2 < q) (h : q < 20) (hp : zp_puts K O (q % 10) false = false) : zp_ab K D O q = nI 0 := by
  unfold zp_ab; rw [if_neg (by omega), if_neg (by omega), if_neg (by omega), if_pos h, hp]; rfl
def zd_abo (y : Int32) : Option Nat := match zd_rng 0 2 y with
  | some q => some q
  | none => match zd_rng 10 16 y with
    | some q => some q
    | none => zd_rng 20 26 y
theorem zd_rng_ne {lo hi lo2 hi2 q : Nat} {y : Int32} (hl : lo ≤ hi) (hh : hi < 2 ^ 31) (hl2 : lo2 ≤ hi2) (hh2 : hi2 < 2 ^ 31) (h : zd_rng lo hi y = some q) (hd : hi < lo2 ∨ hi2 < lo) : zd_rng lo2 hi2 y = none := by
  cases h2 : zd_rng lo2 hi2 y with
  | none => rfl
  | some k =>
    obtain ⟨e1, a1, a2⟩ := zd_rng_some hl hh h
    obtain ⟨e2, b1, b2⟩ := zd_rng_some hl2 hh2 h2
    have : q = k := (nI_eq (by omega) (by omega)).mp (e1.symm.trans e2)
    omega
theorem zd_abq {y : Int32} {q : Nat} (h : zd_rng 0 2 y = some q ∨ zd_rng 10 16 y = some q ∨ zd_rng 20 26 y = some q) : zd_abo y = some q := by
  unfold zd_abo
  rcases h with h | h | h
  · simp only [h]
  · simp only [zd_rng_ne (by decide) (by decide) (by decide) (by decide) h (show 16 < 0 ∨ 2 < 10 from Or.inr (by decide)), h]
  · simp only [zd_rng_ne (by decide) (by decide) (by decide) (by decide) h (show 26 < 0 ∨ 2 < 20 from Or.inr (by decide)), zd_rng_ne (by decide) (by decide) (by decide) (by decide) h (show 26 < 10 ∨ 16 < 20 from Or.inr (by decide)), h]
theorem zd_abn {y : Int32} (h1 : zd_rng 0 2 y = none) (h2 : zd_rng 10 16 y = none) (h3 : zd_rng 20 26 y = none) : zd_abo y = none := by
  unfold zd_abo; simp only [h1, h2, h3]
def zs_ab (o : Option Nat) (y : Int32) (F : Nat → Nat → Int32) : Int32 := match o with
  | none => -101
  | some p9 => match zd_abo y with
    | none => -102
    | some q => F p9 q
theorem zs_abn {p9 : Nat} {y : Int32} {F : Nat → Nat → Int32} (h : zd_abo y = none) : zs_ab (some p9) y F = -102 := by unfold zs_ab; simp only [h]
theorem zs_abi {p9 q : Nat} {y : Int32} {F : Nat → Nat → Int32} (h : zd_abo y = some q) : zs_ab (some p9) y F = F p9 q := by unfold zs_ab; simp only [h]
def zs_as (o : Option Nat) (y : Int32) (K : Nat → Nat) : Int32 := match o with
  | none => -101
  | some p9 => match zd_rng 0 4 y with
    | none => -102
    | some q => if q = 0 ∨ K p9 = q ∨ (q = 2 ∧ K p9 = 4) then nI p9 else -1
theorem zs_aso {p9 : Nat} {y : Int32} {K : Nat → Nat} (h : zd_rng 0 4 y = none) : zs_as (some p9) y K = -102 := by unfold zs_as; simp only [h]
theorem zs_asT {p9 q : Nat} {y : Int32} {K : Nat → Nat} (h : zd_rng 0 4 y = some q) (h2 : q = 0 ∨ K p9 = q ∨ (q = 2 ∧ K p9 = 4)) : zs_as (some p9) y K = nI p9 := by unfold zs_as; simp only [h]; exact if_pos h2
theorem zs_asF {p9 q : Nat} {y : Int32} {K : Nat → Nat} (h : zd_rng 0 4 y = some q) (h0 : q ≠ 0) (h1 : K p9 ≠ q) (h2 : q ≠ 2 ∨ K p9 ≠ 4) : zs_as (some p9) y K = -1 := by
  unfold zs_as; simp only [h]
  refine if_neg ?_
  rintro (h3 | h3 | ⟨h3, h4⟩)
  · exact h0 h3
  · exact h1 h3
  · rcases h2 with h2 | h2
    · exact h2 h3
    · exact h2 h4
def zd_move (o1 o2 : Option Nat) : Int32 ⊕ (Nat × Nat) := match o1 with
  | none => .inl (-101)
  | some x => match o2 with
    | none => .inl (-101)
    | some y => .inr (x, y)
def zp_lay (x o : Nat) (b : Bool) : Nat := cond b (x ||| 2 ^ o) (x &&& (127 ^^^ 2 ^ o))
theorem zp_layF0 : ∀ x, x < 128 → ∀ o, o < 7 → nI x &&& (nI (2 ^ o) ^^^ (-1)) = nI (zp_lay x o false) := by decide +kernel
theorem zp_layF {x o : Nat} (hx : x < 128) (ho : o < 7) : nI x &&& (nI (2 ^ o) ^^^ (-1)) = nI (zp_lay x o false) := zp_layF0 x hx o ho
def zs_su (o1 o2 : Option Nat) (F : Nat → Nat → Int32) : Int32 := match o1 with
  | none => -101
  | some x => match o2 with
    | none => -101
    | some y => F x y
theorem zx_a1s (x : Nat) : x &&& 1 < 31 := by
  have := Nat.and_le_right (n := x) (m := 1)
  omega
theorem zp_cou_lt4 (f : Nat → Nat) (i : Nat) : ∀ n, zp_cou f i n < 4
  | 0 => Nat.zero_lt_succ 3
  | n + 1 => by
    have h := zp_cou_lt4 f i n
    rw [zp_cou]
    refine Nat.or_lt_two_pow (n := 2) h ?_
    cases zp_ag f n with
    | false => exact Nat.zero_lt_succ 3
    | true =>
      cases n.testBit i with
      | false => exact Nat.le_of_ble_eq_true rfl
      | true => exact Nat.le_of_ble_eq_true rfl
theorem zp_cou_lt (f : Nat → Nat) (i n : Nat) : zp_cou f i n < 2 ^ 31 := by
  have := zp_cou_lt4 f i n
  omega
theorem zp_couF {f : Nat → Nat} {o i : Nat} (h : zp_ag f i = false) : nI (zp_cou f o i ||| 0) = nI (zp_cou f o (i + 1)) := by rw [zp_cou, h]; rfl
theorem zp_couT {f : Nat → Nat} {o i : Nat} (h : zp_ag f i = true) : nI (zp_cou f o i ||| 2 ^ (i / 2 ^ o &&& 1)) = nI (zp_cou f o (i + 1)) := by rw [zp_cou, h, zx_tbn]; rfl
theorem zx_andlt {x y : Nat} (h : x < 2 ^ 31) : x &&& y < 2 ^ 31 := by
  have := Nat.and_le_left (n := x) (m := y)
  omega
theorem zp_any_f1 {f : Nat → Bool} {i : Nat} (h : f i = false) : zp_any f (i + 1) = zp_any f i := by rw [zp_any, h, Bool.or_false]
theorem zp_any_t1 {f : Nat → Bool} {i : Nat} (h : f i = true) : zp_any f (i + 1) = true := by rw [zp_any, h, Bool.or_true]
section ZEN
variable {f : Nat → Nat} {t i : Nat}
theorem zp_en_a (h : zp_ag f i = false) : zx_b (!zp_any (fun w9 => zp_ag f w9 && !decide (w9 &&& t = t)) i) = zx_b (!zp_any (fun w9 => zp_ag f w9 && !decide (w9 &&& t = t)) (i + 1)) := by
  rw [zp_any_f1 (by simp [h])]
theorem zp_en_b (h : (!zp_any (fun w9 => zp_ag f w9 && !decide (w9 &&& t = t)) i) = false) : (!zp_any (fun w9 => zp_ag f w9 && !decide (w9 &&& t = t)) (i + 1)) = false := by
  have h2 : zp_any (fun w9 => zp_ag f w9 && !decide (w9 &&& t = t)) i = true := by simpa using h
  rw [zp_any, h2]; rfl
theorem zp_en_c (h : zp_ag f i = true) (h2 : i &&& t ≠ t) : (!zp_any (fun w9 => zp_ag f w9 && !decide (w9 &&& t = t)) (i + 1)) = false := by
  rw [zp_any_t1 (by simp [h, h2])]; rfl
theorem zp_en_d (h : (!zp_any (fun w9 => zp_ag f w9 && !decide (w9 &&& t = t)) i) = true) (h2 : i &&& t = t) : (!zp_any (fun w9 => zp_ag f w9 && !decide (w9 &&& t = t)) (i + 1)) = true := by
  rw [zp_any_f1 (by simp [h2])]; exact h
theorem zp_eno_a (hi : i = 128) (h : zp_any (zp_ag f) i = false) : zp_eno f t = false := by subst hi; unfold zp_eno; rw [h]; rfl
theorem zp_eno_b (hi : i = 128) (h : (!zp_any (fun w9 => zp_ag f w9 && !decide (w9 &&& t = t)) i) = false) : zp_eno f t = false := by subst hi; unfold zp_eno; rw [h, Bool.and_false]
theorem zp_eno_c (hi : i = 128) (h1 : zp_any (zp_ag f) i = true) (h : (!zp_any (fun w9 => zp_ag f w9 && !decide (w9 &&& t = t)) i) = true) : zp_eno f t = true := by subst hi; unfold zp_eno; rw [h1, h]; rfl
end ZEN
