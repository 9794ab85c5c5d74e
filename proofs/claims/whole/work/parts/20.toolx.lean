/-! the class's words -/
theorem zx_iushr {p : Program} {l : Launch} {e : Env} {R : Room} {s : State} {m : MethodId} {args : Array Value} {below : List Frame} {meth : Method} {c : Code} {H : Heap} {locs : List Loc} {cells slots : Nat} {Q : State → Prop} {cc : ByteArray} {pc : Nat} {ls : Array Slot} {rest : List Value} (hexec : p.tables.exec = Jvm.exec) (hb : c.code = cc) {a b : Nat} (ha : a < 2 ^ 31) (hk : (((nI b).toUInt32 &&& Int32.toUInt32 31).toBitVec % 32).toNat = b) (hdg : decode cc pc = .ok (.iushr, 1)) (k : W p l e R s m args below meth c H locs cells slots Q (F0 m (pc + 1) ls (.int (nI (a / 2 ^ b)) :: rest))) : W p l e R s m args below meth c H locs cells slots Q (F0 m pc ls (.int (nI b) :: .int (nI a) :: rest)) :=
  lv_iushr hexec hb hdg (pk_ushrN (by omega) _ b hk) k
theorem zx_lt0 {x : Int32} (h : x < 0) : ¬ nI 0 ≤ x := by rw [nI_0]; exact zx_ltle h
theorem zx_geN {x : Int32} {k : Nat} (hk : k < 2 ^ 30) (h : nI (k + 1) ≤ x) : ¬ x ≤ nI k := by
  rw [Int32.le_iff_toInt_le, nI_toInt (by omega)] at h
  rw [Int32.le_iff_toInt_le, nI_toInt (by omega)]
  omega
theorem zx_ltN {x : Int32} {k : Nat} (hk : k < 2 ^ 30) (h : ¬ nI (k + 1) ≤ x) : x ≤ nI k := by
  rw [Int32.le_iff_toInt_le, nI_toInt (by omega)] at h
  rw [Int32.le_iff_toInt_le, nI_toInt (by omega)]
  omega
theorem zx_ge6 {x : Int32} (h : nI 7 ≤ x) : ¬ x ≤ nI 6 := zx_geN (by decide) h
theorem zx_lt6 {x : Int32} (h : ¬ nI 7 ≤ x) : x ≤ nI 6 := zx_ltN (by decide) h
theorem zx_ge4 {x : Int32} (h : nI 5 ≤ x) : ¬ x ≤ nI 4 := zx_geN (by decide) h
theorem zx_lt4 {x : Int32} (h : ¬ nI 5 ≤ x) : x ≤ nI 4 := zx_ltN (by decide) h
theorem zp_okl_lt {k c : Nat} (h : k < 9) (hc : c < 128) : zp_okl k c = decide (97 ≤ c ∧ c ≤ 100 ∨ 121 ≤ c ∧ c ≤ 122) := by
  unfold zp_okl
  rw [if_pos h]
  have := zp_dlV c hc
  by_cases q : zp_dl c = 99
  · rw [decide_eq_false (by simpa using q), decide_eq_false (this.mp q)]
  · rw [decide_eq_true q, decide_eq_true]
    exact Decidable.byContradiction (fun z => q (this.mpr z))
theorem zp_okl_ge {k c : Nat} (h : 9 ≤ k) : zp_okl k c = decide (k = 9 ∧ 48 ≤ c ∧ c ≤ 51) := by
  unfold zp_okl
  rw [if_neg (by omega)]
  simp
theorem zx_dby : ∀ c, c < 128 → zp_dl c ≠ 99 → 121 ≤ c → (nI c - nI 122) - nI 1 = zx_i (zp_dl c) := by decide +kernel
theorem zx_dbz : ∀ c, c < 128 → zp_dl c ≠ 99 → c < 121 → nI c - nI 97 = zx_i (zp_dl c) := by decide +kernel
def zp_E (K o : Nat) : Nat := zp_bits (fun i => zp_puts K o i false) 7
def zp_T (K o : Nat) : Nat := zp_bits (fun i => zp_puts K o i true) 7
theorem zp_E_lt (K o : Nat) : zp_E K o < 128 := zp_bits_lt _ 7
theorem zp_T_lt (K o : Nat) : zp_T K o < 128 := zp_bits_lt _ 7
theorem zp_E2 : ∀ o, o < 7 → nI (zp_E 2 o) = nI 127 := by decide +kernel
theorem zp_E3 : ∀ o, o < 7 → nI (zp_E 3 o) = nI (2 ^ o) := by decide +kernel
theorem zp_E4 : ∀ o, o < 7 → nI (zp_E 4 o) = nI 127 &&& (nI (2 ^ o) ^^^ (-1)) := by decide +kernel
theorem zp_E00 : ∀ K, K < 5 → ∀ o, o < 7 → (K = 2 ∨ K = 3 ∨ K = 4 ∨ nI (zp_E K o) = nI 0) := by decide +kernel
theorem zp_E0 (K : Nat) (hK : K < 5) (o : Nat) (ho : o < 7) (h2 : K ≠ 2) (h3 : K ≠ 3) (h4 : K ≠ 4) : nI (zp_E K o) = nI 0 := by
  rcases zp_E00 K hK o ho with h | h | h | h
  · exact absurd h h2
  · exact absurd h h3
  · exact absurd h h4
  · exact h
theorem zp_T1 : ∀ o, o < 7 → nI (zp_T 1 o) = nI 127 := by decide +kernel
theorem zp_T3 : ∀ o, o < 7 → nI (zp_T 3 o) = nI (2 ^ o) := by decide +kernel
theorem zp_T00 : ∀ K, K < 5 → ∀ o, o < 7 → (K = 1 ∨ K = 3 ∨ nI (zp_T K o) = nI 0) := by decide +kernel
theorem zp_T0 (K : Nat) (hK : K < 5) (o : Nat) (ho : o < 7) (h2 : K ≠ 1) (h3 : K ≠ 3) : nI (zp_T K o) = nI 0 := by
  rcases zp_T00 K hK o ho with h | h | h
  · exact absurd h h2
  · exact absurd h h3
  · exact h
def zj_1 (x : Nat) : Nat := x - (x / 2 ^ 1 &&& 1431655765)
def zj_2 (x : Nat) : Nat := (zj_1 x &&& 858993459) + (zj_1 x / 2 ^ 2 &&& 858993459)
def zj_3 (x : Nat) : Nat := (zj_2 x + zj_2 x / 2 ^ 4) &&& 252645135
def zj_4 (x : Nat) : Nat := zj_3 x + zj_3 x / 2 ^ 8
def zj_5 (x : Nat) : Nat := zj_4 x + zj_4 x / 2 ^ 16
theorem zj_lt : ∀ x, x < 128 → zj_1 x < 2147483648 ∧ zj_2 x < 2147483648 ∧ zj_3 x < 2147483648 ∧ zj_4 x < 2147483648 ∧ zj_5 x < 2147483648 := by decide +kernel
theorem zj_e : ∀ x, x < 128 → nI (zj_5 x &&& 63) = nI (zp_pc x) := by decide +kernel
/-! masks -/
theorem zx_xor (a b : Nat) : nI a ^^^ nI b = nI (a ^^^ b) := by
  apply Int32.toBitVec_inj.1
  show BitVec.ofNat 32 a ^^^ BitVec.ofNat 32 b = BitVec.ofNat 32 (a ^^^ b)
  apply BitVec.eq_of_getLsbD_eq
  intro i hi
  simp [hi]
theorem zx_tb_hi {a i : Nat} (h : a < 128) (hi : 7 ≤ i) : a.testBit i = false :=
  Nat.testBit_lt_two_pow (Nat.lt_of_lt_of_le h (Nat.pow_le_pow_right (n := 2) (by decide) hi))
theorem zx_nand {a b : Nat} (ha : a < 128) (hb : b < 128) : nI a &&& (nI b ^^^ (-1)) = nI (a &&& (127 ^^^ b)) := by
  rw [show (-1 : Int32) = nI (2 ^ 32 - 1) from by decide, zx_xor, zx_and]
  congr 1
  apply Nat.eq_of_testBit_eq
  intro i
  rw [Nat.testBit_and, Nat.testBit_and, Nat.testBit_xor, Nat.testBit_xor, Nat.testBit_two_pow_sub_one, show (127 : Nat) = 2 ^ 7 - 1 from rfl, Nat.testBit_two_pow_sub_one]
  by_cases hi : i < 7
  · rw [decide_eq_true hi, decide_eq_true (show i < 32 by omega), Bool.xor_comm]
  · rw [zx_tb_hi ha (by omega)]; rfl
theorem zx_x127 {x : Nat} (h : x < 128) : 127 ^^^ x < 128 := Nat.xor_lt_two_pow (n := 7) (by decide) h
theorem zx_not {x : Nat} (h : x < 128) : nI 127 &&& (nI x ^^^ (-1)) = nI (127 ^^^ x) := by
  rw [zx_nand (by decide) h]
  congr 1
  rw [Nat.and_comm, show (127 : Nat) = 2 ^ 7 - 1 from rfl, Nat.and_two_pow_sub_one_eq_mod, Nat.mod_eq_of_lt (zx_x127 h)]
/-! a course: what must be by a week; what can be there, what can lack -/
def zy_f (E T q : Nat) (ah : Int) (w : Nat) : Nat := zp_sh ((E &&& (127 ^^^ w)) ||| (T &&& w) ||| q) ah
theorem zy_f_lt (E T q : Nat) (ah : Int) (w : Nat) : zy_f E T q ah w < 128 := zp_sh_lt _ _
theorem zy_lt {E T q w : Nat} (hE : E < 128) (hT : T < 128) (hq : q < 128) : (E &&& (127 ^^^ w)) ||| (T &&& w) ||| q < 128 :=
  Nat.or_lt_two_pow (n := 7) (Nat.or_lt_two_pow (n := 7) (Nat.lt_of_le_of_lt Nat.and_le_left hE) (Nat.lt_of_le_of_lt Nat.and_le_left hT)) hq
def zy_it (f : Nat → Nat) : Nat → Nat
  | 0 => 0
  | n + 1 => f (zy_it f n)
theorem zy_it_lt (E T q : Nat) (ah : Int) : ∀ n, zy_it (zy_f E T q ah) n < 128
  | 0 => Nat.zero_lt_succ 127
  | n + 1 => zy_f_lt _ _ _ _ _
def zy_h (f : Nat → Nat) (ah : Int) : Nat := if ah = 0 then f 127 else zy_it f 7
def zy_l (f : Nat → Nat) (ah : Int) : Nat := if ah = 0 then 127 ^^^ f 0 else 127 ^^^ zy_it f 7
def zy_s (f : Nat → Nat) (ah : Int) : Nat := 127 ^^^ (zy_h f ah ||| zy_l f ah)
theorem zx_i0 {z : Int} (h1 : -2147483648 ≤ z) (h2 : z < 2147483648) : zx_i z = 0 ↔ z = 0 := by
  constructor
  · intro h
    have := congrArg Int32.toInt h
    rw [zx_i_toInt h1 h2] at this
    exact this
  · intro h; subst h; rfl
theorem zx_n0 {b : Bool} (h : zx_n b ≠ 1) : b = false := by cases b; rfl; exact absurd rfl h
theorem zx_n1 {b : Bool} (h : zx_n b = 1) : b = true := by cases b; exact absurd h (by decide); rfl
def zy_na (h l t : Nat) : Int32 := if t = 0 then nI (2 ^ zp_pc (h &&& l)) else nI 0
theorem zy_fs_k {t i : Nat} (hi : i < 7) (gi : ∀ j, j < i → t.testBit j = false) (h : t.testBit i = true) : nI i = zp_no 7 (zp_fst (fun i9 => t.testBit i9) 7) := by
  rw [zp_fst_eq (by omega) gi (Or.inr h)]
  exact (if_neg (by omega)).symm
theorem zy_fs_n {t i : Nat} (hi : i = 7) (gi : ∀ j, j < i → t.testBit j = false) : (-1 : Int32) = zp_no 7 (zp_fst (fun i9 => t.testBit i9) 7) := by
  subst hi
  rw [zp_fst_eq (Nat.le_refl 7) gi (Or.inl rfl)]
  rfl
def zy_lw (l t : Nat) : Int32 := if t = 0 then nI (127 ^^^ l) else -1
def zy_su (h l t o : Nat) : Int32 := if t ≠ 0 ∨ (h &&& l).testBit o = true then -1 else nI (zx_n (h.testBit o))
theorem zy_su0 {h l t o : Nat} (h1 : t = 0) (h2 : (h &&& l).testBit o = false) : zy_su h l t o = nI (zx_n (h.testBit o)) := by
  unfold zy_su; rw [if_neg]
  rintro (q | q)
  · exact q h1
  · rw [h2] at q; cases q
def zy_al (h l t x y : Nat) : Bool := decide (t = 0) && (decide (x &&& y = 0) && (decide (x &&& (127 ^^^ h) = 0) && decide (y &&& (127 ^^^ l) = 0)))
