/-! numbers: a natural number n as an int is nI n, a Bool is zx_b, an integer is zx_i -/
def zx_up {α : Type} (f : Nat → α) (k : Nat) (x : α) : Nat → α := fun j => cond (Nat.beq j k) x (f j)
theorem zx_beq {j k : Nat} (h : j ≠ k) : Nat.beq j k = false := by
  cases q : Nat.beq j k
  · rfl
  · exact absurd (Nat.eq_of_beq_eq_true q) h
theorem zx_up_eq {α : Type} (f : Nat → α) (k : Nat) (x : α) : zx_up f k x k = x := by simp [zx_up]
theorem zx_up_ne {α : Type} (f : Nat → α) {k j : Nat} (x : α) (h : j ≠ k) : zx_up f k x j = f j := by simp [zx_up, zx_beq h]
theorem zx_up_if {α : Type} (f : Nat → α) (k j : Nat) (x : α) : zx_up f k x j = if j = k then x else f j := by
  by_cases h : j = k
  · subst h; simp [zx_up]
  · simp [zx_up, zx_beq h, h]
def zx_b (b : Bool) : Int32 := cond b 1 0
def zx_i (z : Int) : Int32 := Int32.ofInt z
def zx_n (b : Bool) : Nat := cond b 1 0
theorem zx_b_n (b : Bool) : zx_b b = nI (zx_n b) := by cases b <;> decide
theorem zx_b_1 : nI 1 = zx_b true := by decide
theorem zx_b_0 : nI 0 = zx_b false := by decide
theorem zx_b_t {b : Bool} (h : b = true) : nI 1 = zx_b b := by subst h; decide
theorem zx_b_f {b : Bool} (h : b = false) : nI 0 = zx_b b := by subst h; decide
theorem zx_b_eq0 (b : Bool) : zx_b b = 0 ↔ b = false := by cases b <;> decide
theorem zx_nar (b : Bool) : narrow .boolean (.int (zx_b b)) = .int (zx_b b) := by cases b <;> rfl
theorem zx_nar1 : narrow .boolean (.int (nI 1)) = .int (nI 1) := rfl
theorem zx_nar0 : narrow .boolean (.int (nI 0)) = .int (nI 0) := rfl
theorem zx_and (a b : Nat) : nI a &&& nI b = nI (a &&& b) := by
  apply Int32.toBitVec_inj.1
  show BitVec.ofNat 32 a &&& BitVec.ofNat 32 b = BitVec.ofNat 32 (a &&& b)
  apply BitVec.eq_of_getLsbD_eq
  intro i hi
  simp [hi]
theorem zx_or (a b : Nat) : nI a ||| nI b = nI (a ||| b) := by
  apply Int32.toBitVec_inj.1
  show BitVec.ofNat 32 a ||| BitVec.ofNat 32 b = BitVec.ofNat 32 (a ||| b)
  apply BitVec.eq_of_getLsbD_eq
  intro i hi
  simp [hi]
theorem zx_sl : ∀ n, n < 32 → ((nI n &&& 31).toBitVec.smod 32).toNat = n := by decide
theorem zx_shl0 {a k : Nat} (hk : k < 32) (h : a * 2 ^ k < 2 ^ 32) : nI a <<< (nI k &&& 31) = nI (a * 2 ^ k) := pk_shlN _ k (zx_sl k hk) h
theorem zx_shr0 {a k : Nat} (ha : a < 2 ^ 31) (hk : k < 32) : nI a >>> (nI k &&& 31) = nI (a / 2 ^ k) := pk_shrN ha _ k (zx_sl k hk)
theorem zx_eq0 {a : Nat} (ha : a < 2 ^ 31) : nI a = 0 ↔ a = 0 := by
  rw [← nI_0, nI_eq ha (by decide)]
theorem zx_updN (f : Nat → Nat) (k x : Nat) : upd (fun j => nI (f j)) k (nI x) = fun j => nI (zx_up f k x j) := by
  funext j
  by_cases h : j = k
  · subst h; simp [upd, zx_up]
  · simp [upd, zx_up, zx_beq h, h]
theorem zx_updI (f : Nat → Int) (k : Nat) (x : Int) : upd (fun j => zx_i (f j)) k (zx_i x) = fun j => zx_i (zx_up f k x j) := by
  funext j
  by_cases h : j = k
  · subst h; simp [upd, zx_up]
  · simp [upd, zx_up, zx_beq h, h]
theorem zx_i_n (n : Nat) : zx_i (n : Int) = nI n := rfl
theorem zx_i_add (a b : Int) : zx_i a + zx_i b = zx_i (a + b) := (Int32.ofInt_add a b).symm
theorem zx_i_neg (a : Int) : - zx_i a = zx_i (-a) := (Int32.ofInt_neg a).symm
theorem zx_i_toInt {z : Int} (h1 : -2147483648 ≤ z) (h2 : z < 2147483648) : (zx_i z).toInt = z := by
  unfold zx_i
  rw [Int32.toInt_ofInt, show Int32.size = 4294967296 from rfl]
  exact Int.bmod_eq_of_le (by omega) (by omega)
section ZR
variable {p : Program} {l : Launch} {e : Env} {R : Room} {s : State} {m : MethodId} {args : Array Value} {below : List Frame} {meth : Method} {c : Code} {H : Heap} {locs : List Loc} {cells slots : Nat} {Q : State → Prop}
variable {cc : ByteArray} {pc : Nat} {ls : Array Slot} {rest : List Value}
theorem zx_iadd (hexec : p.tables.exec = Jvm.exec) (hb : c.code = cc) {a b : Nat} (hdg : decode cc pc = .ok (.iadd, 1)) (k : W p l e R s m args below meth c H locs cells slots Q (F0 m (pc + 1) ls (.int (nI (a + b)) :: rest))) : W p l e R s m args below meth c H locs cells slots Q (F0 m pc ls (.int (nI b) :: .int (nI a) :: rest)) :=
  lv_iadd hexec hb hdg (by rw [nI_add]; exact k)
theorem zx_isub (hexec : p.tables.exec = Jvm.exec) (hb : c.code = cc) {a b : Nat} (h : b ≤ a) (hdg : decode cc pc = .ok (.isub, 1)) (k : W p l e R s m args below meth c H locs cells slots Q (F0 m (pc + 1) ls (.int (nI (a - b)) :: rest))) : W p l e R s m args below meth c H locs cells slots Q (F0 m pc ls (.int (nI b) :: .int (nI a) :: rest)) :=
  lv_isub hexec hb hdg (by rw [pk_sub h]; exact k)
theorem zx_imul (hexec : p.tables.exec = Jvm.exec) (hb : c.code = cc) {a b : Nat} (hdg : decode cc pc = .ok (.imul, 1)) (k : W p l e R s m args below meth c H locs cells slots Q (F0 m (pc + 1) ls (.int (nI (a * b)) :: rest))) : W p l e R s m args below meth c H locs cells slots Q (F0 m pc ls (.int (nI b) :: .int (nI a) :: rest)) :=
  lv_imul hexec hb hdg (by rw [pk_mul]; exact k)
theorem zx_iand (hexec : p.tables.exec = Jvm.exec) (hb : c.code = cc) {a b : Nat} (hdg : decode cc pc = .ok (.iand, 1)) (k : W p l e R s m args below meth c H locs cells slots Q (F0 m (pc + 1) ls (.int (nI (a &&& b)) :: rest))) : W p l e R s m args below meth c H locs cells slots Q (F0 m pc ls (.int (nI b) :: .int (nI a) :: rest)) :=
  lv_iand hexec hb hdg (by rw [zx_and]; exact k)
theorem zx_ior (hexec : p.tables.exec = Jvm.exec) (hb : c.code = cc) {a b : Nat} (hdg : decode cc pc = .ok (.ior, 1)) (k : W p l e R s m args below meth c H locs cells slots Q (F0 m (pc + 1) ls (.int (nI (a ||| b)) :: rest))) : W p l e R s m args below meth c H locs cells slots Q (F0 m pc ls (.int (nI b) :: .int (nI a) :: rest)) :=
  lv_ior hexec hb hdg (by rw [zx_or]; exact k)
theorem zx_ishl (hexec : p.tables.exec = Jvm.exec) (hb : c.code = cc) {a b : Nat} (hk : b < 32) (h : a * 2 ^ b < 2 ^ 32) (hdg : decode cc pc = .ok (.ishl, 1)) (k : W p l e R s m args below meth c H locs cells slots Q (F0 m (pc + 1) ls (.int (nI (a * 2 ^ b)) :: rest))) : W p l e R s m args below meth c H locs cells slots Q (F0 m pc ls (.int (nI b) :: .int (nI a) :: rest)) :=
  lv_ishl hexec hb hdg (by rw [zx_shl0 hk h]; exact k)
theorem zx_ishl1 (hexec : p.tables.exec = Jvm.exec) (hb : c.code = cc) {b : Nat} (hk : b < 31) (hdg : decode cc pc = .ok (.ishl, 1)) (k : W p l e R s m args below meth c H locs cells slots Q (F0 m (pc + 1) ls (.int (nI (2 ^ b)) :: rest))) : W p l e R s m args below meth c H locs cells slots Q (F0 m pc ls (.int (nI b) :: .int (nI 1) :: rest)) :=
  lv_ishl hexec hb hdg (by rw [zx_shl0 (by omega) (by rw [Nat.one_mul]; exact Nat.pow_lt_pow_right (by decide) (by omega)), Nat.one_mul]; exact k)
theorem zx_ishr (hexec : p.tables.exec = Jvm.exec) (hb : c.code = cc) {a b : Nat} (ha : a < 2 ^ 31) (hk : b < 32) (hdg : decode cc pc = .ok (.ishr, 1)) (k : W p l e R s m args below meth c H locs cells slots Q (F0 m (pc + 1) ls (.int (nI (a / 2 ^ b)) :: rest))) : W p l e R s m args below meth c H locs cells slots Q (F0 m pc ls (.int (nI b) :: .int (nI a) :: rest)) :=
  lv_ishr hexec hb hdg (by rw [zx_shr0 ha hk]; exact k)
theorem zx_idiv (hexec : p.tables.exec = Jvm.exec) (hb : c.code = cc) {a b : Nat} (ha : a < 2 ^ 31) (h0 : 0 < b) (hb2 : b < 2 ^ 31) (hdg : decode cc pc = .ok (.idiv, 1)) (k : W p l e R s m args below meth c H locs cells slots Q (F0 m (pc + 1) ls (.int (nI (a / b)) :: rest))) : W p l e R s m args below meth c H locs cells slots Q (F0 m pc ls (.int (nI b) :: .int (nI a) :: rest)) :=
  lv_idiv hexec hb hdg (nI_ne0 h0 hb2) (by rw [pk_div ha h0 hb2]; exact k)
theorem zx_irem (hexec : p.tables.exec = Jvm.exec) (hb : c.code = cc) {a b : Nat} (ha : a < 2 ^ 31) (h0 : 0 < b) (hb2 : b < 2 ^ 31) (hdg : decode cc pc = .ok (.irem, 1)) (k : W p l e R s m args below meth c H locs cells slots Q (F0 m (pc + 1) ls (.int (nI (a % b)) :: rest))) : W p l e R s m args below meth c H locs cells slots Q (F0 m pc ls (.int (nI b) :: .int (nI a) :: rest)) :=
  lv_irem hexec hb hdg (nI_ne0 h0 hb2) (by rw [pk_rem ha h0 hb2]; exact k)
theorem zx_icmp_ge (hexec : p.tables.exec = Jvm.exec) (hb : c.code = cc) {a b : Nat} {off : Int} {tgt : Nat} (ha : a < 2 ^ 31) (hb2 : b < 2 ^ 31) (hdg : decode cc pc = .ok (.if_icmp .ge off, 3)) (ht : (pc : Int) + off = (tgt : Int)) (kt : b ≤ a → W p l e R s m args below meth c H locs cells slots Q (F0 m tgt ls rest)) (kf : a < b → W p l e R s m args below meth c H locs cells slots Q (F0 m (pc + 3) ls rest)) : W p l e R s m args below meth c H locs cells slots Q (F0 m pc ls (.int (nI b) :: .int (nI a) :: rest)) :=
  lv_icmp_ge hexec hb hdg ht (fun h => kt ((nI_leI hb2 ha).mp h)) (fun h => kf (by rw [nI_leI hb2 ha] at h; omega))
theorem zx_icmp_lt (hexec : p.tables.exec = Jvm.exec) (hb : c.code = cc) {a b : Nat} {off : Int} {tgt : Nat} (ha : a < 2 ^ 31) (hb2 : b < 2 ^ 31) (hdg : decode cc pc = .ok (.if_icmp .lt off, 3)) (ht : (pc : Int) + off = (tgt : Int)) (kt : a < b → W p l e R s m args below meth c H locs cells slots Q (F0 m tgt ls rest)) (kf : b ≤ a → W p l e R s m args below meth c H locs cells slots Q (F0 m (pc + 3) ls rest)) : W p l e R s m args below meth c H locs cells slots Q (F0 m pc ls (.int (nI b) :: .int (nI a) :: rest)) :=
  lv_icmp_lt hexec hb hdg ht (fun h => kt ((nI_ltI ha hb2).mp h)) (fun h => kf (by rw [nI_ltI ha hb2] at h; omega))
theorem zx_icmp_gt (hexec : p.tables.exec = Jvm.exec) (hb : c.code = cc) {a b : Nat} {off : Int} {tgt : Nat} (ha : a < 2 ^ 31) (hb2 : b < 2 ^ 31) (hdg : decode cc pc = .ok (.if_icmp .gt off, 3)) (ht : (pc : Int) + off = (tgt : Int)) (kt : b < a → W p l e R s m args below meth c H locs cells slots Q (F0 m tgt ls rest)) (kf : a ≤ b → W p l e R s m args below meth c H locs cells slots Q (F0 m (pc + 3) ls rest)) : W p l e R s m args below meth c H locs cells slots Q (F0 m pc ls (.int (nI b) :: .int (nI a) :: rest)) :=
  lv_icmp_gt hexec hb hdg ht (fun h => kt ((nI_ltI hb2 ha).mp h)) (fun h => kf (by rw [nI_ltI hb2 ha] at h; omega))
theorem zx_icmp_le (hexec : p.tables.exec = Jvm.exec) (hb : c.code = cc) {a b : Nat} {off : Int} {tgt : Nat} (ha : a < 2 ^ 31) (hb2 : b < 2 ^ 31) (hdg : decode cc pc = .ok (.if_icmp .le off, 3)) (ht : (pc : Int) + off = (tgt : Int)) (kt : a ≤ b → W p l e R s m args below meth c H locs cells slots Q (F0 m tgt ls rest)) (kf : b < a → W p l e R s m args below meth c H locs cells slots Q (F0 m (pc + 3) ls rest)) : W p l e R s m args below meth c H locs cells slots Q (F0 m pc ls (.int (nI b) :: .int (nI a) :: rest)) :=
  lv_icmp_le hexec hb hdg ht (fun h => kt ((nI_leI ha hb2).mp h)) (fun h => kf (by rw [nI_leI ha hb2] at h; omega))
theorem zx_icmp_eq (hexec : p.tables.exec = Jvm.exec) (hb : c.code = cc) {a b : Nat} {off : Int} {tgt : Nat} (ha : a < 2 ^ 31) (hb2 : b < 2 ^ 31) (hdg : decode cc pc = .ok (.if_icmp .eq off, 3)) (ht : (pc : Int) + off = (tgt : Int)) (kt : a = b → W p l e R s m args below meth c H locs cells slots Q (F0 m tgt ls rest)) (kf : a ≠ b → W p l e R s m args below meth c H locs cells slots Q (F0 m (pc + 3) ls rest)) : W p l e R s m args below meth c H locs cells slots Q (F0 m pc ls (.int (nI b) :: .int (nI a) :: rest)) :=
  lv_icmp_eq hexec hb hdg ht (fun h => kt ((nI_eq ha hb2).mp h)) (fun h => kf (by rw [nI_eq ha hb2] at h; exact h))
theorem zx_icmp_ne (hexec : p.tables.exec = Jvm.exec) (hb : c.code = cc) {a b : Nat} {off : Int} {tgt : Nat} (ha : a < 2 ^ 31) (hb2 : b < 2 ^ 31) (hdg : decode cc pc = .ok (.if_icmp .ne off, 3)) (ht : (pc : Int) + off = (tgt : Int)) (kt : a ≠ b → W p l e R s m args below meth c H locs cells slots Q (F0 m tgt ls rest)) (kf : a = b → W p l e R s m args below meth c H locs cells slots Q (F0 m (pc + 3) ls rest)) : W p l e R s m args below meth c H locs cells slots Q (F0 m pc ls (.int (nI b) :: .int (nI a) :: rest)) :=
  lv_icmp_ne hexec hb hdg ht (fun h => kt (by rw [nI_eq ha hb2] at h; exact h)) (fun h => kf ((nI_eq ha hb2).mp h))
theorem zx_if_eq (hexec : p.tables.exec = Jvm.exec) (hb : c.code = cc) {a : Nat} {off : Int} {tgt : Nat} (ha : a < 2 ^ 31) (hdg : decode cc pc = .ok (.ifCond .eq off, 3)) (ht : (pc : Int) + off = (tgt : Int)) (kt : a = 0 → W p l e R s m args below meth c H locs cells slots Q (F0 m tgt ls rest)) (kf : a ≠ 0 → W p l e R s m args below meth c H locs cells slots Q (F0 m (pc + 3) ls rest)) : W p l e R s m args below meth c H locs cells slots Q (F0 m pc ls (.int (nI a) :: rest)) :=
  lv_if_eq hexec hb hdg ht (fun h => kt ((zx_eq0 ha).mp h)) (fun h => kf (by rw [zx_eq0 ha] at h; exact h))
theorem zx_if_ne (hexec : p.tables.exec = Jvm.exec) (hb : c.code = cc) {a : Nat} {off : Int} {tgt : Nat} (ha : a < 2 ^ 31) (hdg : decode cc pc = .ok (.ifCond .ne off, 3)) (ht : (pc : Int) + off = (tgt : Int)) (kt : a ≠ 0 → W p l e R s m args below meth c H locs cells slots Q (F0 m tgt ls rest)) (kf : a = 0 → W p l e R s m args below meth c H locs cells slots Q (F0 m (pc + 3) ls rest)) : W p l e R s m args below meth c H locs cells slots Q (F0 m pc ls (.int (nI a) :: rest)) :=
  lv_if_ne hexec hb hdg ht (fun h => kt (by rw [zx_eq0 ha] at h; exact h)) (fun h => kf ((zx_eq0 ha).mp h))
theorem zx_bf_eq (hexec : p.tables.exec = Jvm.exec) (hb : c.code = cc) {a : Bool} {off : Int} {tgt : Nat} (hdg : decode cc pc = .ok (.ifCond .eq off, 3)) (ht : (pc : Int) + off = (tgt : Int)) (kt : a = false → W p l e R s m args below meth c H locs cells slots Q (F0 m tgt ls rest)) (kf : a = true → W p l e R s m args below meth c H locs cells slots Q (F0 m (pc + 3) ls rest)) : W p l e R s m args below meth c H locs cells slots Q (F0 m pc ls (.int (zx_b a) :: rest)) :=
  lv_if_eq hexec hb hdg ht (fun h => kt ((zx_b_eq0 a).mp h)) (fun h => kf (by rw [zx_b_eq0] at h; simpa using h))
theorem zx_bf_ne (hexec : p.tables.exec = Jvm.exec) (hb : c.code = cc) {a : Bool} {off : Int} {tgt : Nat} (hdg : decode cc pc = .ok (.ifCond .ne off, 3)) (ht : (pc : Int) + off = (tgt : Int)) (kt : a = true → W p l e R s m args below meth c H locs cells slots Q (F0 m tgt ls rest)) (kf : a = false → W p l e R s m args below meth c H locs cells slots Q (F0 m (pc + 3) ls rest)) : W p l e R s m args below meth c H locs cells slots Q (F0 m pc ls (.int (zx_b a) :: rest)) :=
  lv_if_ne hexec hb hdg ht (fun h => kt (by rw [zx_b_eq0] at h; simpa using h)) (fun h => kf ((zx_b_eq0 a).mp h))
theorem zx_bc_ne (hexec : p.tables.exec = Jvm.exec) (hb : c.code = cc) {x y : Bool} {off : Int} {tgt : Nat} (hdg : decode cc pc = .ok (.if_icmp .ne off, 3)) (ht : (pc : Int) + off = (tgt : Int)) (kt : x ≠ y → W p l e R s m args below meth c H locs cells slots Q (F0 m tgt ls rest)) (kf : x = y → W p l e R s m args below meth c H locs cells slots Q (F0 m (pc + 3) ls rest)) : W p l e R s m args below meth c H locs cells slots Q (F0 m pc ls (.int (zx_b y) :: .int (zx_b x) :: rest)) :=
  lv_icmp_ne hexec hb hdg ht (fun h => kt (fun q => h (by rw [q]))) (fun h => kf (by cases x <;> cases y <;> first | rfl | exact absurd h (by decide)))
/-! arrays of numbers -/
theorem zx_ald (hexec : p.tables.exec = Jvm.exec) (hb : c.code = cc) {D : va_G} {cl : List vw_C} {a : Nat} {tys : List (ClassId × FieldType)} {ws : va_W} (hK : va_K D cl tys s) (hP : va_P D cl ws H) (q0 t0 : Nat) {cA : ClassId} {n i : Nat} {f : Nat → Nat} (ha : ws[q0]? = some (a, .inl (cA, n, .inl (fun j => nI (f j))))) (ht : tys[t0]? = some (cA, .int)) (hi : i < n) (hn : n < 2 ^ 31) (hdg : decode cc pc = .ok (.iaload, 1))
    (kk : W p l e R s m args below meth c H locs cells slots Q (F0 m (pc + 1) ls (.int (nI (f i)) :: rest))) : W p l e R s m args below meth c H locs cells slots Q (F0 m pc ls (.int (nI i) :: .ref a :: rest)) :=
  va_iald hexec hb hK hP q0 t0 ha ht (vp_in_nI hi hn) hdg (by
    show W p l e R s m args below meth c H locs cells slots Q (F0 m (pc + 1) ls (.int (nI (f (nI i).toNatClampNeg)) :: rest))
    rw [nI_clamp (by omega)]; exact kk)
theorem zx_aldI (hexec : p.tables.exec = Jvm.exec) (hb : c.code = cc) {D : va_G} {cl : List vw_C} {a : Nat} {tys : List (ClassId × FieldType)} {ws : va_W} (hK : va_K D cl tys s) (hP : va_P D cl ws H) (q0 t0 : Nat) {cA : ClassId} {n i : Nat} {f : Nat → Int} (ha : ws[q0]? = some (a, .inl (cA, n, .inl (fun j => zx_i (f j))))) (ht : tys[t0]? = some (cA, .int)) (hi : i < n) (hn : n < 2 ^ 31) (hdg : decode cc pc = .ok (.iaload, 1))
    (kk : W p l e R s m args below meth c H locs cells slots Q (F0 m (pc + 1) ls (.int (zx_i (f i)) :: rest))) : W p l e R s m args below meth c H locs cells slots Q (F0 m pc ls (.int (nI i) :: .ref a :: rest)) :=
  va_iald hexec hb hK hP q0 t0 ha ht (vp_in_nI hi hn) hdg (by
    show W p l e R s m args below meth c H locs cells slots Q (F0 m (pc + 1) ls (.int (zx_i (f (nI i).toNatClampNeg)) :: rest))
    rw [nI_clamp (by omega)]; exact kk)
theorem zx_bld (hexec : p.tables.exec = Jvm.exec) (hb : c.code = cc) {D : va_G} {cl : List vw_C} {a : Nat} {tys : List (ClassId × FieldType)} {ws : va_W} (hK : va_K D cl tys s) (hP : va_P D cl ws H) (q0 t0 : Nat) {cA : ClassId} {n i : Nat} {f : Nat → Nat} (ha : ws[q0]? = some (a, .inl (cA, n, .inl (fun j => nI (f j))))) (ht : tys[t0]? = some (cA, .byte)) (hi : i < n) (hn : n < 2 ^ 31) (hdg : decode cc pc = .ok (.baload, 1))
    (kk : W p l e R s m args below meth c H locs cells slots Q (F0 m (pc + 1) ls (.int (nI (f i)) :: rest))) : W p l e R s m args below meth c H locs cells slots Q (F0 m pc ls (.int (nI i) :: .ref a :: rest)) :=
  va_bald hexec hb hK hP q0 t0 ha ht (vp_in_nI hi hn) hdg (by
    show W p l e R s m args below meth c H locs cells slots Q (F0 m (pc + 1) ls (.int (nI (f (nI i).toNatClampNeg)) :: rest))
    rw [nI_clamp (by omega)]; exact kk)
theorem zx_ast (hexec : p.tables.exec = Jvm.exec) (hb : c.code = cc) {D : va_G} {cl : List vw_C} {a : Nat} {A : Nat → Prop} {H0 : Heap} {tys : List (ClassId × FieldType)} {ws ws' : va_W} (hK : va_K D cl tys s) (hP : va_P D cl ws H) (hD : va_D A ws) (hS : va_S A H0 H locs) (q0 t0 : Nat) {cA : ClassId} {n i x : Nat} {f : Nat → Nat} (ha : ws[q0]? = some (a, .inl (cA, n, .inl (fun j => nI (f j))))) (ht : tys[t0]? = some (cA, .int)) (hi : i < n) (hn : n < 2 ^ 31) (hu : ws.set q0 (a, .inl (cA, n, .inl (fun j => nI (zx_up f i x j)))) = ws') (hdg : decode cc pc = .ok (.iastore, 1))
    (kk : ∀ (H1 : Heap) (locs1 : List Loc), va_P D cl ws' H1 → va_D A ws' → va_S A H0 H1 locs1 → W p l e R s m args below meth c H1 locs1 cells slots Q (F0 m (pc + 1) ls rest)) : W p l e R s m args below meth c H locs cells slots Q (F0 m pc ls (.int (nI x) :: .int (nI i) :: .ref a :: rest)) := by
  refine va_iast hexec hb hK hP hD hS q0 t0 ha ht (vp_in_nI hi hn) hdg (fun H1 locs1 h1 h2 h3 => ?_)
  rw [nI_clamp (by omega), zx_updN, hu] at h1 h2
  exact kk H1 locs1 h1 h2 h3
theorem zx_astI (hexec : p.tables.exec = Jvm.exec) (hb : c.code = cc) {D : va_G} {cl : List vw_C} {a : Nat} {A : Nat → Prop} {H0 : Heap} {tys : List (ClassId × FieldType)} {ws ws' : va_W} (hK : va_K D cl tys s) (hP : va_P D cl ws H) (hD : va_D A ws) (hS : va_S A H0 H locs) (q0 t0 : Nat) {cA : ClassId} {n i : Nat} {x : Int} {f : Nat → Int} (ha : ws[q0]? = some (a, .inl (cA, n, .inl (fun j => zx_i (f j))))) (ht : tys[t0]? = some (cA, .int)) (hi : i < n) (hn : n < 2 ^ 31) (hu : ws.set q0 (a, .inl (cA, n, .inl (fun j => zx_i (zx_up f i x j)))) = ws') (hdg : decode cc pc = .ok (.iastore, 1))
    (kk : ∀ (H1 : Heap) (locs1 : List Loc), va_P D cl ws' H1 → va_D A ws' → va_S A H0 H1 locs1 → W p l e R s m args below meth c H1 locs1 cells slots Q (F0 m (pc + 1) ls rest)) : W p l e R s m args below meth c H locs cells slots Q (F0 m pc ls (.int (zx_i x) :: .int (nI i) :: .ref a :: rest)) := by
  refine va_iast hexec hb hK hP hD hS q0 t0 ha ht (vp_in_nI hi hn) hdg (fun H1 locs1 h1 h2 h3 => ?_)
  rw [nI_clamp (by omega), zx_updI, hu] at h1 h2
  exact kk H1 locs1 h1 h2 h3
theorem zx_narB : ∀ x, x < 128 → vp_nar .byte (nI x) = nI x ∧ (nI x).toInt8.toInt32 = nI x := by decide +kernel
theorem zx_bst (hexec : p.tables.exec = Jvm.exec) (hb : c.code = cc) {D : va_G} {cl : List vw_C} {a : Nat} {A : Nat → Prop} {H0 : Heap} {tys : List (ClassId × FieldType)} {ws ws' : va_W} (hK : va_K D cl tys s) (hP : va_P D cl ws H) (hD : va_D A ws) (hS : va_S A H0 H locs) (q0 t0 : Nat) {cA : ClassId} {n i x : Nat} {f : Nat → Nat} (ha : ws[q0]? = some (a, .inl (cA, n, .inl (fun j => nI (f j))))) (ht : tys[t0]? = some (cA, .byte)) (hi : i < n) (hn : n < 2 ^ 31) (hx : x < 128) (hu : ws.set q0 (a, .inl (cA, n, .inl (fun j => nI (zx_up f i x j)))) = ws') (hdg : decode cc pc = .ok (.bastore, 1))
    (kk : ∀ (H1 : Heap) (locs1 : List Loc), va_P D cl ws' H1 → va_D A ws' → va_S A H0 H1 locs1 → W p l e R s m args below meth c H1 locs1 cells slots Q (F0 m (pc + 1) ls rest)) : W p l e R s m args below meth c H locs cells slots Q (F0 m pc ls (.int (nI x) :: .int (nI i) :: .ref a :: rest)) := by
  refine va_bast hexec hb hK hP hD hS q0 t0 ha ht (vp_in_nI hi hn) hdg (fun H1 locs1 h1 h2 h3 => ?_)
  rw [nI_clamp (by omega), (zx_narB x hx).1, zx_updN, hu] at h1 h2
  exact kk H1 locs1 h1 h2 h3
theorem zx_put (hexec : p.tables.exec = Jvm.exec) (hb : c.code = cc) {D : va_G} {cl : List vw_C} {a : Nat} {A : Nat → Prop} {H0 : Heap} {tys : List (ClassId × FieldType)} {ws ws' : va_W} {own ref C : String} {T : u_T} {N ci index : Nat} {Ts : List Cond} (hts : ∀ w ∈ Ts, w.before args s = true) (hin : ∀ w ∈ u_ws C T N, w ∈ Ts) (ty0 : Nat → FieldType) (hty : ∀ k, k < N → parseFieldDescriptor (T k).2.2.1 = some (ty0 k)) (hnm : ∀ a, a < N → ∀ b, b < N → a ≠ b → (T a).2.1 ≠ (T b).2.1) (hown : s.vm.findClass own = some m.cls) (hK : va_K D cl tys s) (hP : va_P D cl ws H) (hD : va_D A ws) (hS0 : va_S A H0 H locs) (q0 : Nat) {fs : List Value} (he : ws[q0]? = some (a, .inr (ci, fs))) (hc : cl[ci]? = some (C, T, N)) (k : Nat) (hk : k < N) (hlink : (Cond.fieldLink own index ref (T k).2.1 (T k).2.2.1).before args s = true) (hsame : ∀ x, s.fieldFound? (T k).1 (T k).2.1 (T k).2.2.1 = some x → s.fieldFound? ref (T k).2.1 (T k).2.2.1 = some x) (hfin : (T k).2.2.2 = false) {ty : FieldType} {v : Value} (hd : parseFieldDescriptor (T k).2.2.1 = some ty) (hn : narrow ty v = v) (hfit : fits ty v = true) (hl : k < fs.length) (hu : ws.set q0 (a, .inr (ci, fs.set k v)) = ws')
    (hdg : decode cc pc = .ok (.putfield index, 3)) (kk : ∀ (H1 : Heap) (locs1 : List Loc), va_P D cl ws' H1 → va_D A ws' → va_S A H0 H1 locs1 → W p l e R s m args below meth c H1 locs1 cells slots Q (F0 m (pc + 3) ls rest)) : W p l e R s m args below meth c H locs cells slots Q (F0 m pc ls (v :: .ref a :: rest)) := by
  refine va_put hexec hb hts hin ty0 hty hnm hown hK hP hD hS0 q0 he hc k hk hlink hsame hfin hd hn hfit hl hdg (fun H1 locs1 h1 h2 h3 => ?_)
  rw [hu] at h1 h2
  exact kk H1 locs1 h1 h2 h3
end ZR
/-! a contract: from any heap that holds the world of the state u, the answer and the state behind it are as post says -/
def zx_Q {ρ σ : Type} (em : ρ → Option Value) (post : ρ → σ → Prop) (B : σ → State → Prop) (A : Nat → Prop) : Array Value → State → Outcome → State → Prop := fun _ st oc t => (∃ (r : ρ) (u : σ), oc = .returned (em r) ∧ post r u ∧ B u t) ∧ va_F A st t
def zx_B {σ : Type} (D : va_G) (tys : List (ClassId × FieldType)) (w : σ → va_W) (A : Nat → Prop) (u : σ) (t : State) : Prop := va_P D vwCl (w u) t.heap ∧ va_K D vwCl tys t ∧ va_D A (w u)
/-- nest mates that the system's methods call, as the tables link them -/
def zx_N (U : State) : Prop := va_Nw (.methodLinkNest RX0 24 yX2_putsIfEmpty RX2) U ∧ va_Nw (.methodLinkNest RX0 28 yX2_putsIfThere RX2) U ∧ va_Nw (.methodLinkNest RX0 53 yX2_bitOf RX2) U
theorem zx_N_same {u U : State} (h : u.vm = U.vm) (hN : zx_N u) : zx_N U := ⟨va_Nw.same rfl h hN.1, va_Nw.same rfl h hN.2.1, va_Nw.same rfl h hN.2.2⟩
theorem zx_N_warm {s U : State} (hW : s.WarmedH U.vm) (hN : zx_N s) : zx_N U := ⟨va_Nw.warmM hW hN.1, va_Nw.warmM hW hN.2.1, va_Nw.warmM hW hN.2.2⟩
def zx_C {ρ σ : Type} (em : ρ → Option Value) (l : Launch) (D : va_G) (tys : List (ClassId × FieldType)) (w : σ → va_W) (y : MethodName) (ws : List Cond) (rm : Room) (av : List Value) (u : σ) (post : ρ → σ → Prop) : Prop :=
  ∀ sz : Nat, Met l y ws rm (va_Pc av (fun U => U.heap.size = sz ∧ va_P D vwCl (w u) U.heap ∧ va_K D vwCl tys U ∧ zx_N U ∧ va_D (fun _ => True) (w u))) (zx_Q em post (zx_B D tys w (va_A (w u) sz)) (va_A (w u) sz)) 0 0 (va_A (w u) sz)
def zx_ei : Int32 → Option Value := fun x => some (.int x)
def zx_el : Int64 → Option Value := fun x => some (.long x)
def zx_ev : Unit → Option Value := fun _ => none
def zx_ea : Nat → Option Value := fun x => some (.ref x)
section ZC
variable {p : Program} {l : Launch} {e : Env} {R : Room} {s : State} {m : MethodId} {args : Array Value} {below : List Frame} {meth : Method} {c : Code} {H : Heap} {locs : List Loc} {cells slots : Nat} {Q : State → Prop}
variable {cc bytes : ByteArray} {pc : Nat} {ls : Array Slot} {rest st0 : List Value} {a : Array Value} {A0 A1 : Nat → Prop} {H0 : Heap} {mc ms : Nat} {free : Addr → Prop}
theorem zx_call {ρ σ : Type} {em : ρ → Option Value} {post : ρ → σ → Prop} {B : σ → State → Prop} (hr : va_Run p l e R s m args below meth c H locs cells slots mc ms (F0 m pc ls st0) rest (zx_Q em post B A1 a) free) (hS : va_S A0 H0 H locs) (hA : ∀ q, q < H.size → A1 q → A0 q) (hf : ∀ q, free q → A0 q)
    (kk : ∀ (r : ρ) (u : σ) (t : State) (H1 : Heap) (locs1 : List Loc), t.heap = H1 → s.vm.Alike t.vm → post r u → B u t → H.size ≤ H1.size → (∀ q : Nat, q < H.size → ¬ A1 q → H1[q]? = H[q]?) → va_S A0 H0 H1 locs1 → W p l e R s m args below meth c H1 locs1 (cells + mc) (slots + ms) Q (F0 m (pc + 3) ls ((em r).toList ++ rest))) : W p l e R s m args below meth c H locs cells slots Q (F0 m pc ls st0) := by
  intro T hT X
  obtain ⟨v, st₀, t, T', L, h0, X', hL, e1, e2, ⟨⟨r, u, hv, hp, hb⟩, hz, hk⟩, st⟩ := hr T hT X
  cases hv
  rw [h0] at hz hk
  obtain ⟨t2, a1, b1⟩ := kk r u t T'.heap (locs ++ L) e1.symm (by rw [← e2]; exact X'.warmed.alike) hp hb (by rw [e1]; exact hz) (fun q h1 h2 => by rw [e1]; exact hk q h1 h2)
    ⟨Nat.le_trans hS.1 (by rw [e1]; exact hz), fun q h1 h2 => by rw [e1, hk q (Nat.lt_of_lt_of_le h1 hS.1) (fun z => h2 (hA q (Nat.lt_of_lt_of_le h1 hS.1) z))]; exact hS.2.1 q h1 h2, fun q hq => by
      rcases List.mem_append.mp hq with h | h
      · exact hS.2.2 q h
      · exact hf _ (hL q h)⟩ T' rfl X'
  exact ⟨t2, st t2 a1, b1⟩
theorem zx_blind {σ : Type} {D : va_G} {tys : List (ClassId × FieldType)} {w : σ → va_W} {av : List Value} {u : σ} {sz : Nat} : FrameBlind (va_Pc av (fun U => U.heap.size = sz ∧ va_P D vwCl (w u) U.heap ∧ va_K D vwCl tys U ∧ zx_N U ∧ va_D (fun _ => True) (w u))) := fun a U g mk q => by
  obtain ⟨q0, q1, qP, qK, qN, qD⟩ := q
  exact ⟨q0, q1, qP, va_K.moved (u := U) (U := U.calling g mk a) (Vm.Alike.refl U.vm) qK, zx_N_same (u := U) (U := U.calling g mk a) rfl qN, qD⟩
theorem zx_pre {σ : Type} {D : va_G} {tys : List (ClassId × FieldType)} {w : σ → va_W} {av : List Value} {u : σ} {A : Nat → Prop} (hK : va_K D vwCl tys s) (hN : zx_N s) (hP : va_P D vwCl (w u) H) (hD : va_D A (w u)) : ∀ U : State, U.heap = H → s.WarmedH U.vm → va_Pc av (fun U => U.heap.size = H.size ∧ va_P D vwCl (w u) U.heap ∧ va_K D vwCl tys U ∧ zx_N U ∧ va_D (fun _ => True) (w u)) av.toArray U :=
  fun U hU hW => ⟨rfl, by rw [hU], by rw [hU]; exact hP, va_K.moved hW.alike hK, zx_N_warm hW hN, hD.weaken (fun _ _ _ _ => trivial)⟩
theorem zx_frA {A : Nat → Prop} {ws : va_W} {H0 H : Heap} {locs : List Loc} (hD : va_D A ws) (hS : va_S A H0 H locs) (hA : ∀ q, H0.size ≤ q → A q) : ∀ q, va_A ws H.size q → A q := by
  intro q h
  rcases h with ⟨k, e, h⟩ | h
  · exact hD.2 k (q, e) h
  · exact hA q (Nat.le_trans hS.1 h)
/-- a call of a method on this very world -/
theorem zx_same {ρ σ : Type} {em : ρ → Option Value} {D : va_G} {tys : List (ClassId × FieldType)} {w : σ → va_W} {u : σ} {post : ρ → σ → Prop} {A : Nat → Prop} (hr : va_Run p l e R s m args below meth c H locs cells slots 0 0 (F0 m pc ls st0) rest (zx_Q em post (zx_B D tys w (va_A (w u) H.size)) (va_A (w u) H.size) a) (va_A (w u) H.size)) (hD : va_D A (w u)) (hS : va_S A H0 H locs) (hA : ∀ q, H0.size ≤ q → A q)
    (kk : ∀ (r : ρ) (u' : σ) (H1 : Heap) (locs1 : List Loc), post r u' → va_P D vwCl (w u') H1 → va_D A (w u') → va_S A H0 H1 locs1 → W p l e R s m args below meth c H1 locs1 cells slots Q (F0 m (pc + 3) ls ((em r).toList ++ rest))) : W p l e R s m args below meth c H locs cells slots Q (F0 m pc ls st0) := by
  have hF := zx_frA hD hS hA
  refine zx_call hr hS (fun q _ h => hF q h) hF (fun r u' t H1 locs1 ht hvm hw hB hz1 hk1 hS1 => ?_)
  obtain ⟨hP1, hK1, hD1⟩ := hB
  rw [ht] at hP1
  exact kk r u' H1 locs1 hw hP1 (hD1.weaken (fun _ q _ h => hF q.1 h)) hS1
theorem zx_V_i {σ : Type} {D : va_G} {tys : List (ClassId × FieldType)} {w : σ → va_W} {u : σ} {post : Int32 → σ → Prop} {A : Nat → Prop} {y : MethodName} {maxL nL n index : Nat} {ret : Option FieldType} {ws Ts : List Cond} {rm : Room} {own C : String} {b : Addr} {As : List Value} {ci : Nat} {fs : List Value} {T : u_T} {N : Nat}
    (S : CallFix p m c cc nL s args Ts own) (hM : zx_C zx_ei l D tys w y ws rm (.ref b :: As) u post) (cw : CallW R s args own C index y bytes maxL ret ws rm 0 0 n) (hK : va_K D vwCl tys s) (hN : zx_N s) (hP : va_P D vwCl (w u) H) (hD : va_D A (w u)) (hS : va_S A H0 H locs) (hA : ∀ q, H0.size ≤ q → A q) (q0 : Nat) (hrv : (w u)[q0]? = some (b, .inr (ci, fs))) (hcl : vwCl[ci]? = some (C, T, N)) (hn : As.length = n) (hsize : ls.size = nL) (hst : st0 = As.reverse ++ .ref b :: rest) (hro : (rest.map fun v => v.category).sum ≤ 8) (hdg : decode cc pc = .ok (.invokevirtual index, 3)) (hf : cells ≤ R.cells ∧ slots ≤ R.slots)
    (kk : ∀ (r : Int32) (u' : σ) (H1 : Heap) (locs1 : List Loc), post r u' → va_P D vwCl (w u') H1 → va_D A (w u') → va_S A H0 H1 locs1 → W p l e R s m args below meth c H1 locs1 cells slots Q (F0 m (pc + 3) ls (.int r :: rest))) : W p l e R s m args below meth c H locs cells slots Q (F0 m pc ls st0) :=
  zx_same (va_runV (As := As) (rest := rest) S (hM H.size) cw ⟨zx_blind, va_recv hK hP hcl hrv, zx_pre hK hN hP hD⟩ rfl hn hsize hst (lv_room hro) hdg hf) hD hS hA kk
theorem zx_V_l {σ : Type} {D : va_G} {tys : List (ClassId × FieldType)} {w : σ → va_W} {u : σ} {post : Int64 → σ → Prop} {A : Nat → Prop} {y : MethodName} {maxL nL n index : Nat} {ret : Option FieldType} {ws Ts : List Cond} {rm : Room} {own C : String} {b : Addr} {As : List Value} {ci : Nat} {fs : List Value} {T : u_T} {N : Nat}
    (S : CallFix p m c cc nL s args Ts own) (hM : zx_C zx_el l D tys w y ws rm (.ref b :: As) u post) (cw : CallW R s args own C index y bytes maxL ret ws rm 0 0 n) (hK : va_K D vwCl tys s) (hN : zx_N s) (hP : va_P D vwCl (w u) H) (hD : va_D A (w u)) (hS : va_S A H0 H locs) (hA : ∀ q, H0.size ≤ q → A q) (q0 : Nat) (hrv : (w u)[q0]? = some (b, .inr (ci, fs))) (hcl : vwCl[ci]? = some (C, T, N)) (hn : As.length = n) (hsize : ls.size = nL) (hst : st0 = As.reverse ++ .ref b :: rest) (hro : (rest.map fun v => v.category).sum ≤ 8) (hdg : decode cc pc = .ok (.invokevirtual index, 3)) (hf : cells ≤ R.cells ∧ slots ≤ R.slots)
    (kk : ∀ (r : Int64) (u' : σ) (H1 : Heap) (locs1 : List Loc), post r u' → va_P D vwCl (w u') H1 → va_D A (w u') → va_S A H0 H1 locs1 → W p l e R s m args below meth c H1 locs1 cells slots Q (F0 m (pc + 3) ls (.long r :: rest))) : W p l e R s m args below meth c H locs cells slots Q (F0 m pc ls st0) :=
  zx_same (va_runV (As := As) (rest := rest) S (hM H.size) cw ⟨zx_blind, va_recv hK hP hcl hrv, zx_pre hK hN hP hD⟩ rfl hn hsize hst (lv_room hro) hdg hf) hD hS hA kk
theorem zx_V_v {σ : Type} {D : va_G} {tys : List (ClassId × FieldType)} {w : σ → va_W} {u : σ} {post : Unit → σ → Prop} {A : Nat → Prop} {y : MethodName} {maxL nL n index : Nat} {ret : Option FieldType} {ws Ts : List Cond} {rm : Room} {own C : String} {b : Addr} {As : List Value} {ci : Nat} {fs : List Value} {T : u_T} {N : Nat}
    (S : CallFix p m c cc nL s args Ts own) (hM : zx_C zx_ev l D tys w y ws rm (.ref b :: As) u post) (cw : CallW R s args own C index y bytes maxL ret ws rm 0 0 n) (hK : va_K D vwCl tys s) (hN : zx_N s) (hP : va_P D vwCl (w u) H) (hD : va_D A (w u)) (hS : va_S A H0 H locs) (hA : ∀ q, H0.size ≤ q → A q) (q0 : Nat) (hrv : (w u)[q0]? = some (b, .inr (ci, fs))) (hcl : vwCl[ci]? = some (C, T, N)) (hn : As.length = n) (hsize : ls.size = nL) (hst : st0 = As.reverse ++ .ref b :: rest) (hro : (rest.map fun v => v.category).sum ≤ 8) (hdg : decode cc pc = .ok (.invokevirtual index, 3)) (hf : cells ≤ R.cells ∧ slots ≤ R.slots)
    (kk : ∀ (r : Unit) (u' : σ) (H1 : Heap) (locs1 : List Loc), post r u' → va_P D vwCl (w u') H1 → va_D A (w u') → va_S A H0 H1 locs1 → W p l e R s m args below meth c H1 locs1 cells slots Q (F0 m (pc + 3) ls rest)) : W p l e R s m args below meth c H locs cells slots Q (F0 m pc ls st0) :=
  zx_same (va_runV (As := As) (rest := rest) S (hM H.size) cw ⟨zx_blind, va_recv hK hP hcl hrv, zx_pre hK hN hP hD⟩ rfl hn hsize hst (lv_room hro) hdg hf) hD hS hA kk
theorem zx_V_a {σ : Type} {D : va_G} {tys : List (ClassId × FieldType)} {w : σ → va_W} {u : σ} {post : Nat → σ → Prop} {A : Nat → Prop} {y : MethodName} {maxL nL n index : Nat} {ret : Option FieldType} {ws Ts : List Cond} {rm : Room} {own C : String} {b : Addr} {As : List Value} {ci : Nat} {fs : List Value} {T : u_T} {N : Nat}
    (S : CallFix p m c cc nL s args Ts own) (hM : zx_C zx_ea l D tys w y ws rm (.ref b :: As) u post) (cw : CallW R s args own C index y bytes maxL ret ws rm 0 0 n) (hK : va_K D vwCl tys s) (hN : zx_N s) (hP : va_P D vwCl (w u) H) (hD : va_D A (w u)) (hS : va_S A H0 H locs) (hA : ∀ q, H0.size ≤ q → A q) (q0 : Nat) (hrv : (w u)[q0]? = some (b, .inr (ci, fs))) (hcl : vwCl[ci]? = some (C, T, N)) (hn : As.length = n) (hsize : ls.size = nL) (hst : st0 = As.reverse ++ .ref b :: rest) (hro : (rest.map fun v => v.category).sum ≤ 8) (hdg : decode cc pc = .ok (.invokevirtual index, 3)) (hf : cells ≤ R.cells ∧ slots ≤ R.slots)
    (kk : ∀ (r : Nat) (u' : σ) (H1 : Heap) (locs1 : List Loc), post r u' → va_P D vwCl (w u') H1 → va_D A (w u') → va_S A H0 H1 locs1 → W p l e R s m args below meth c H1 locs1 cells slots Q (F0 m (pc + 3) ls (.ref r :: rest))) : W p l e R s m args below meth c H locs cells slots Q (F0 m pc ls st0) :=
  zx_same (va_runV (As := As) (rest := rest) S (hM H.size) cw ⟨zx_blind, va_recv hK hP hcl hrv, zx_pre hK hN hP hD⟩ rfl hn hsize hst (lv_room hro) hdg hf) hD hS hA kk
/-- a call of a static method on this very world -/
theorem zx_T_i {σ : Type} {D : va_G} {tys : List (ClassId × FieldType)} {w : σ → va_W} {u : σ} {post : Int32 → σ → Prop} {A : Nat → Prop} {y : MethodName} {maxL nL n index : Nat} {ret : Option FieldType} {ws Ts : List Cond} {rm : Room} {own : String} {As : List Value}
    (S : CallFix p m c cc nL s args Ts own) (hM : zx_C zx_ei l D tys w y ws rm As u post) (cw : CallB R s args own index y bytes maxL ret ws rm 0 0 n ∧ (Cond.static y).before args s = true) (hK : va_K D vwCl tys s) (hN : zx_N s) (hP : va_P D vwCl (w u) H) (hD : va_D A (w u)) (hS : va_S A H0 H locs) (hA : ∀ q, H0.size ≤ q → A q) (hn : As.length = n) (hsize : ls.size = nL) (hst : st0 = As.reverse ++ rest) (hro : (rest.map fun v => v.category).sum ≤ 8) (hdg : decode cc pc = .ok (.invokestatic index, 3)) (hf : cells ≤ R.cells ∧ slots ≤ R.slots)
    (kk : ∀ (r : Int32) (u' : σ) (H1 : Heap) (locs1 : List Loc), post r u' → va_P D vwCl (w u') H1 → va_D A (w u') → va_S A H0 H1 locs1 → W p l e R s m args below meth c H1 locs1 cells slots Q (F0 m (pc + 3) ls (.int r :: rest))) : W p l e R s m args below meth c H locs cells slots Q (F0 m pc ls st0) :=
  zx_same (va_runS (As := As) (rest := rest) S (hM H.size) cw ⟨zx_blind, zx_pre hK hN hP hD⟩ rfl hn hsize hst (lv_room hro) hdg hf) hD hS hA kk
/-- a static method that has no world: its contract, its call -/
def zx_w0 : Unit → va_W := fun _ => []
def zx_C0 (l : Launch) (D : va_G) (y : MethodName) (ws : List Cond) (rm : Room) (av : List Value) (r : Int32) : Prop := zx_C zx_ei l D [] zx_w0 y ws rm av () (fun x _ => x = r)
theorem zx_none {σ : Type} {D : va_G} {w : σ → va_W} {u : σ} {r : Int32} {A : Nat → Prop} (hr : va_Run p l e R s m args below meth c H locs cells slots 0 0 (F0 m pc ls st0) rest (zx_Q zx_ei (fun x _ => x = r) (zx_B D [] zx_w0 (va_A (zx_w0 ()) H.size)) (va_A (zx_w0 ()) H.size) a) (va_A (zx_w0 ()) H.size)) (hP : va_P D vwCl (w u) H) (hS : va_S A H0 H locs) (hA : ∀ q, H0.size ≤ q → A q)
    (kk : ∀ (H1 : Heap) (locs1 : List Loc), va_P D vwCl (w u) H1 → va_S A H0 H1 locs1 → W p l e R s m args below meth c H1 locs1 cells slots Q (F0 m (pc + 3) ls (.int r :: rest))) : W p l e R s m args below meth c H locs cells slots Q (F0 m pc ls st0) := by
  have hF : ∀ q, va_A (zx_w0 ()) H.size q → A q := by
    intro q h
    rcases h with ⟨k, e, h⟩ | h
    · simp [zx_w0] at h
    · exact hA q (Nat.le_trans hS.1 h)
  refine zx_call hr hS (fun q _ h => hF q h) hF (fun x u' t H1 locs1 ht hvm hw hB hz1 hk1 hS1 => ?_)
  subst hw
  refine kk H1 locs1 (hP.kept (fun k q hk => hk1 q.1 ((hP k q hk).lt) (fun h => ?_))) hS1
  have hlt := (hP k q hk).lt
  rcases h with ⟨k, e, h⟩ | h
  · simp [zx_w0] at h
  · omega
theorem zx_K0 {D : va_G} {tys : List (ClassId × FieldType)} (hK : va_K D vwCl tys s) : va_K D vwCl [] s := hK.sub [] rfl
theorem zx_P0 {D : va_G} : va_P D vwCl (zx_w0 ()) H := fun k q h => by simp [zx_w0] at h
theorem zx_D0 {A : Nat → Prop} : va_D A (zx_w0 ()) := ⟨fun i j p q h => by simp [zx_w0] at h, fun k q h => by simp [zx_w0] at h⟩
theorem zx_S {σ : Type} {D : va_G} {tys : List (ClassId × FieldType)} {w : σ → va_W} {u : σ} {x : Int32} {A : Nat → Prop} {y : MethodName} {maxL nL n index : Nat} {ret : Option FieldType} {ws Ts : List Cond} {rm : Room} {own : String} {As : List Value}
    (S : CallFix p m c cc nL s args Ts own) (hM : zx_C0 l D y ws rm As x) (cw : CallB R s args own index y bytes maxL ret ws rm 0 0 n ∧ (Cond.static y).before args s = true) (hK : va_K D vwCl tys s) (hN : zx_N s) (hP : va_P D vwCl (w u) H) (hS : va_S A H0 H locs) (hA : ∀ q, H0.size ≤ q → A q) (hn : As.length = n) (hsize : ls.size = nL) (hst : st0 = As.reverse ++ rest) (hro : (rest.map fun v => v.category).sum ≤ 8) (hdg : decode cc pc = .ok (.invokestatic index, 3)) (hf : cells ≤ R.cells ∧ slots ≤ R.slots)
    (kk : ∀ (H1 : Heap) (locs1 : List Loc), va_P D vwCl (w u) H1 → va_S A H0 H1 locs1 → W p l e R s m args below meth c H1 locs1 cells slots Q (F0 m (pc + 3) ls (.int x :: rest))) : W p l e R s m args below meth c H locs cells slots Q (F0 m pc ls st0) :=
  zx_none (va_runS (As := As) (rest := rest) S (hM H.size) cw ⟨zx_blind, zx_pre (zx_K0 hK) hN zx_P0 (zx_D0 (A := A))⟩ rfl hn hsize hst (lv_room hro) hdg hf) hP hS hA kk
theorem zx_SN {σ : Type} {D : va_G} {tys : List (ClassId × FieldType)} {w : σ → va_W} {u : σ} {x : Int32} {A : Nat → Prop} {y : MethodName} {maxL nL n index : Nat} {ret : Option FieldType} {ws Ts : List Cond} {rm : Room} {own host : String} {As : List Value}
    (S : CallFix p m c cc nL s args Ts own) (hM : zx_C0 l D y ws rm As x) (cw : va_CN R s args own index y host bytes maxL ret ws rm 0 0 n ∧ (Cond.static y).before args s = true ∧ True) (hK : va_K D vwCl tys s) (hN : zx_N s) (hP : va_P D vwCl (w u) H) (hS : va_S A H0 H locs) (hA : ∀ q, H0.size ≤ q → A q) (hn : As.length = n) (hsize : ls.size = nL) (hst : st0 = As.reverse ++ rest) (hro : (rest.map fun v => v.category).sum ≤ 8) (hdg : decode cc pc = .ok (.invokestatic index, 3)) (hf : cells ≤ R.cells ∧ slots ≤ R.slots)
    (kk : ∀ (H1 : Heap) (locs1 : List Loc), va_P D vwCl (w u) H1 → va_S A H0 H1 locs1 → W p l e R s m args below meth c H1 locs1 cells slots Q (F0 m (pc + 3) ls (.int x :: rest))) : W p l e R s m args below meth c H locs cells slots Q (F0 m pc ls st0) :=
  zx_none (va_runSN (As := As) (rest := rest) S (hM H.size) cw ⟨zx_blind, zx_pre (zx_K0 hK) hN zx_P0 (zx_D0 (A := A))⟩ rfl hn hsize hst (lv_room hro) hdg hf) hP hS hA kk
end ZC
/-! the ways out of a method -/
section ZF
variable {p : Program} {l : Launch} {e : Env} {rm : Room} {s : State} {m : MethodId} {args : Array Value} {below : List Frame} {meth : Method} {c : Code} {H : Heap} {locs : List Loc}
variable {cc : ByteArray} {pc : Nat} {ls : Array Slot} {σ : Type} {D : va_G} {tys : List (ClassId × FieldType)} {w : σ → va_W} {A : Nat → Prop}
theorem zx_ret_i {post : Int32 → σ → Prop} (hexec : p.tables.exec = Jvm.exec) (hb : c.code = cc) (hr : meth.sig.returnType = some .int) (hlk : meth.locks = false) (hK : va_K D vwCl tys s) {u' : σ} {v : Int32} (hP : va_P D vwCl (w u') H) (hD : va_D A (w u')) (hS : va_S A s.heap H locs) (hdg : decode cc pc = .ok (.ireturn, 1)) (hq : post v u') : W p l e rm s m args below meth c H locs 0 0 (MQ below (zx_Q zx_ei post (zx_B D tys w A) A) args s 0 0 A) (F0 m pc ls [.int v]) :=
  W.iret (v := v) hexec hb hr (fun t ht hW => ⟨⟨v, u', rfl, hq, by rw [ht]; exact hP, va_K.moved hW.alike hK, hD⟩, hS.F ht⟩) hS.2.2 hdg hlk
theorem zx_ret_z {post : Int32 → σ → Prop} (hexec : p.tables.exec = Jvm.exec) (hb : c.code = cc) (hr : meth.sig.returnType = some .boolean) (hlk : meth.locks = false) (hK : va_K D vwCl tys s) {u' : σ} {v : Int32} (hP : va_P D vwCl (w u') H) (hD : va_D A (w u')) (hS : va_S A s.heap H locs) (hdg : decode cc pc = .ok (.ireturn, 1)) (hn : narrow .boolean (.int v) = .int v) (hq : post v u') : W p l e rm s m args below meth c H locs 0 0 (MQ below (zx_Q zx_ei post (zx_B D tys w A) A) args s 0 0 A) (F0 m pc ls [.int v]) :=
  W.zret (v := v) hexec hb hr hn (fun t ht hW => ⟨⟨v, u', rfl, hq, by rw [ht]; exact hP, va_K.moved hW.alike hK, hD⟩, hS.F ht⟩) hS.2.2 hdg hlk
theorem zx_ret_l {post : Int64 → σ → Prop} (hexec : p.tables.exec = Jvm.exec) (hb : c.code = cc) (hr : meth.sig.returnType = some .long) (hlk : meth.locks = false) (hK : va_K D vwCl tys s) {u' : σ} {v : Int64} (hP : va_P D vwCl (w u') H) (hD : va_D A (w u')) (hS : va_S A s.heap H locs) (hdg : decode cc pc = .ok (.lreturn, 1)) (hq : post v u') : W p l e rm s m args below meth c H locs 0 0 (MQ below (zx_Q zx_el post (zx_B D tys w A) A) args s 0 0 A) (F0 m pc ls [.long v]) :=
  W.lret (v := v) hexec hb hr (fun t ht hW => ⟨⟨v, u', rfl, hq, by rw [ht]; exact hP, va_K.moved hW.alike hK, hD⟩, hS.F ht⟩) hS.2.2 hdg hlk
theorem zx_ret_v {post : Unit → σ → Prop} (hexec : p.tables.exec = Jvm.exec) (hb : c.code = cc) (hr : meth.sig.returnType = none) (hlk : meth.locks = false) (hK : va_K D vwCl tys s) {u' : σ} (hP : va_P D vwCl (w u') H) (hD : va_D A (w u')) (hS : va_S A s.heap H locs) (hdg : decode cc pc = .ok (.return_, 1)) (hq : post () u') : W p l e rm s m args below meth c H locs 0 0 (MQ below (zx_Q zx_ev post (zx_B D tys w A) A) args s 0 0 A) (F0 m pc ls []) :=
  W.vret hexec hb hr (fun t ht hW => ⟨⟨(), u', rfl, hq, by rw [ht]; exact hP, va_K.moved hW.alike hK, hD⟩, hS.F ht⟩) hS.2.2 hdg hlk
theorem zx_ret_a {post : Nat → σ → Prop} {nm : String} (hexec : p.tables.exec = Jvm.exec) (hb : c.code = cc) (hr : meth.sig.returnType = some (.object nm)) (hlk : meth.locks = false) (hK : va_K D vwCl tys s) {u' : σ} {v : Nat} (hP : va_P D vwCl (w u') H) (hD : va_D A (w u')) (hS : va_S A s.heap H locs) (hdg : decode cc pc = .ok (.areturn, 1)) (hq : post v u') : W p l e rm s m args below meth c H locs 0 0 (MQ below (zx_Q zx_ea post (zx_B D tys w A) A) args s 0 0 A) (F0 m pc ls [.ref v]) :=
  W.aret (v := .ref v) hexec hb hr (Or.inl ⟨nm, rfl⟩) (Or.inr ⟨v, rfl⟩) (fun t ht hW => ⟨⟨v, u', rfl, hq, by rw [ht]; exact hP, va_K.moved hW.alike hK, hD⟩, hS.F ht⟩) hS.2.2 hdg hlk
end ZF
/-! how a contract is proved: from the entry on, with the way out as a hypothesis -/
section ZE
variable {l : Launch} {σ : Type} {D : va_G} {tys : List (ClassId × FieldType)} {w : σ → va_W} {y : MethodName} {ws ws' : List Cond} {rm : Room} {av : List Value} {u : σ} {cc : ByteArray} {maxL : Nat}
theorem zx_of_i {post : Int32 → σ → Prop} (hy : plainName y.cls = true) (hw : ws = Cond.code y cc maxL (some .int) :: ws') (hlen : (lg_sl av).length ≤ maxL)
    (body : ∀ (p : Program) (e : Env) (s : State) (m : MethodId) (args : Array Value) (below : List Frame) (meth : Method) (c : Code) (A : Nat → Prop) (Q : State → Prop) (H : Heap), CallFix p m c cc maxL s args ws y.cls → va_K D vwCl tys s → zx_N s → va_P D vwCl (w u) H → va_D A (w u) → va_S A s.heap H [] → (∀ q, s.heap.size ≤ q → A q) →
      (∀ (H : Heap) (locs : List Loc) (u' : σ) (v : Int32) (pc : Nat) (ls : Array Slot), va_P D vwCl (w u') H → va_D A (w u') → va_S A s.heap H locs → decode cc pc = .ok (.ireturn, 1) → post v u' → W p l e rm s m args below meth c H locs 0 0 Q (F0 m pc ls [.int v])) →
      ∀ ls : Array Slot, lv_has ls maxL (lv_args 0 av) → W p l e rm s m args below meth c H [] 0 0 Q (F0 m 0 ls [])) : zx_C zx_ei l D tys w y ws rm av u post := by
  intro sz
  refine Met.ofW (cc := cc) (maxL := maxL) (ret := (some .int)) hy hw ?_
  intro p e s m args below meth c s₁ B hml hv
  obtain ⟨rfl, hsz, hP, hK, hN, hD0⟩ := hv
  subst hsz
  have hown : s.vm.findClass y.cls = some m.cls := findClass_of_methodNamed B.named
  have hts := atoms_spec (ws := ws) B.pre
  have hr := B.returns
  have hlk := B.notSynchronized
  rw [lg_entry_eq]
  exact body p e s m av.toArray below meth c (va_A (w u) s.heap.size) _ s.heap ⟨B.exec, B.bytes, hml, hown, hts⟩ hK hN hP hD0.self va_S.rf (fun q h => Or.inr h) (fun H locs u' v pc ls hP hD hS hdg hq => zx_ret_i B.exec B.bytes hr hlk hK hP hD hS hdg hq) _ (lv_entry av hlen)
theorem zx_of_z {post : Int32 → σ → Prop} (hy : plainName y.cls = true) (hw : ws = Cond.code y cc maxL (some .boolean) :: ws') (hlen : (lg_sl av).length ≤ maxL)
    (body : ∀ (p : Program) (e : Env) (s : State) (m : MethodId) (args : Array Value) (below : List Frame) (meth : Method) (c : Code) (A : Nat → Prop) (Q : State → Prop) (H : Heap), CallFix p m c cc maxL s args ws y.cls → va_K D vwCl tys s → zx_N s → va_P D vwCl (w u) H → va_D A (w u) → va_S A s.heap H [] → (∀ q, s.heap.size ≤ q → A q) →
      (∀ (H : Heap) (locs : List Loc) (u' : σ) (v : Int32) (pc : Nat) (ls : Array Slot), va_P D vwCl (w u') H → va_D A (w u') → va_S A s.heap H locs → decode cc pc = .ok (.ireturn, 1) → narrow .boolean (.int v) = .int v → post v u' → W p l e rm s m args below meth c H locs 0 0 Q (F0 m pc ls [.int v])) →
      ∀ ls : Array Slot, lv_has ls maxL (lv_args 0 av) → W p l e rm s m args below meth c H [] 0 0 Q (F0 m 0 ls [])) : zx_C zx_ei l D tys w y ws rm av u post := by
  intro sz
  refine Met.ofW (cc := cc) (maxL := maxL) (ret := (some .boolean)) hy hw ?_
  intro p e s m args below meth c s₁ B hml hv
  obtain ⟨rfl, hsz, hP, hK, hN, hD0⟩ := hv
  subst hsz
  have hown : s.vm.findClass y.cls = some m.cls := findClass_of_methodNamed B.named
  have hts := atoms_spec (ws := ws) B.pre
  have hr := B.returns
  have hlk := B.notSynchronized
  rw [lg_entry_eq]
  exact body p e s m av.toArray below meth c (va_A (w u) s.heap.size) _ s.heap ⟨B.exec, B.bytes, hml, hown, hts⟩ hK hN hP hD0.self va_S.rf (fun q h => Or.inr h) (fun H locs u' v pc ls hP hD hS hdg hn hq => zx_ret_z B.exec B.bytes hr hlk hK hP hD hS hdg hn hq) _ (lv_entry av hlen)
theorem zx_of_l {post : Int64 → σ → Prop} (hy : plainName y.cls = true) (hw : ws = Cond.code y cc maxL (some .long) :: ws') (hlen : (lg_sl av).length ≤ maxL)
    (body : ∀ (p : Program) (e : Env) (s : State) (m : MethodId) (args : Array Value) (below : List Frame) (meth : Method) (c : Code) (A : Nat → Prop) (Q : State → Prop) (H : Heap), CallFix p m c cc maxL s args ws y.cls → va_K D vwCl tys s → zx_N s → va_P D vwCl (w u) H → va_D A (w u) → va_S A s.heap H [] → (∀ q, s.heap.size ≤ q → A q) →
      (∀ (H : Heap) (locs : List Loc) (u' : σ) (v : Int64) (pc : Nat) (ls : Array Slot), va_P D vwCl (w u') H → va_D A (w u') → va_S A s.heap H locs → decode cc pc = .ok (.lreturn, 1) → post v u' → W p l e rm s m args below meth c H locs 0 0 Q (F0 m pc ls [.long v])) →
      ∀ ls : Array Slot, lv_has ls maxL (lv_args 0 av) → W p l e rm s m args below meth c H [] 0 0 Q (F0 m 0 ls [])) : zx_C zx_el l D tys w y ws rm av u post := by
  intro sz
  refine Met.ofW (cc := cc) (maxL := maxL) (ret := (some .long)) hy hw ?_
  intro p e s m args below meth c s₁ B hml hv
  obtain ⟨rfl, hsz, hP, hK, hN, hD0⟩ := hv
  subst hsz
  have hown : s.vm.findClass y.cls = some m.cls := findClass_of_methodNamed B.named
  have hts := atoms_spec (ws := ws) B.pre
  have hr := B.returns
  have hlk := B.notSynchronized
  rw [lg_entry_eq]
  exact body p e s m av.toArray below meth c (va_A (w u) s.heap.size) _ s.heap ⟨B.exec, B.bytes, hml, hown, hts⟩ hK hN hP hD0.self va_S.rf (fun q h => Or.inr h) (fun H locs u' v pc ls hP hD hS hdg hq => zx_ret_l B.exec B.bytes hr hlk hK hP hD hS hdg hq) _ (lv_entry av hlen)
theorem zx_of_v {post : Unit → σ → Prop} (hy : plainName y.cls = true) (hw : ws = Cond.code y cc maxL none :: ws') (hlen : (lg_sl av).length ≤ maxL)
    (body : ∀ (p : Program) (e : Env) (s : State) (m : MethodId) (args : Array Value) (below : List Frame) (meth : Method) (c : Code) (A : Nat → Prop) (Q : State → Prop) (H : Heap), CallFix p m c cc maxL s args ws y.cls → va_K D vwCl tys s → zx_N s → va_P D vwCl (w u) H → va_D A (w u) → va_S A s.heap H [] → (∀ q, s.heap.size ≤ q → A q) →
      (∀ (H : Heap) (locs : List Loc) (u' : σ) (pc : Nat) (ls : Array Slot), va_P D vwCl (w u') H → va_D A (w u') → va_S A s.heap H locs → decode cc pc = .ok (.return_, 1) → post () u' → W p l e rm s m args below meth c H locs 0 0 Q (F0 m pc ls [])) →
      ∀ ls : Array Slot, lv_has ls maxL (lv_args 0 av) → W p l e rm s m args below meth c H [] 0 0 Q (F0 m 0 ls [])) : zx_C zx_ev l D tys w y ws rm av u post := by
  intro sz
  refine Met.ofW (cc := cc) (maxL := maxL) (ret := none) hy hw ?_
  intro p e s m args below meth c s₁ B hml hv
  obtain ⟨rfl, hsz, hP, hK, hN, hD0⟩ := hv
  subst hsz
  have hown : s.vm.findClass y.cls = some m.cls := findClass_of_methodNamed B.named
  have hts := atoms_spec (ws := ws) B.pre
  have hr := B.returns
  have hlk := B.notSynchronized
  rw [lg_entry_eq]
  exact body p e s m av.toArray below meth c (va_A (w u) s.heap.size) _ s.heap ⟨B.exec, B.bytes, hml, hown, hts⟩ hK hN hP hD0.self va_S.rf (fun q h => Or.inr h) (fun H locs u' pc ls hP hD hS hdg hq => zx_ret_v B.exec B.bytes hr hlk hK hP hD hS hdg hq) _ (lv_entry av hlen)
theorem zx_of_a {post : Nat → σ → Prop} {nm : String} (hy : plainName y.cls = true) (hw : ws = Cond.code y cc maxL (some (.object nm)) :: ws') (hlen : (lg_sl av).length ≤ maxL)
    (body : ∀ (p : Program) (e : Env) (s : State) (m : MethodId) (args : Array Value) (below : List Frame) (meth : Method) (c : Code) (A : Nat → Prop) (Q : State → Prop) (H : Heap), CallFix p m c cc maxL s args ws y.cls → va_K D vwCl tys s → zx_N s → va_P D vwCl (w u) H → va_D A (w u) → va_S A s.heap H [] → (∀ q, s.heap.size ≤ q → A q) →
      (∀ (H : Heap) (locs : List Loc) (u' : σ) (v : Nat) (pc : Nat) (ls : Array Slot), va_P D vwCl (w u') H → va_D A (w u') → va_S A s.heap H locs → decode cc pc = .ok (.areturn, 1) → post v u' → W p l e rm s m args below meth c H locs 0 0 Q (F0 m pc ls [.ref v])) →
      ∀ ls : Array Slot, lv_has ls maxL (lv_args 0 av) → W p l e rm s m args below meth c H [] 0 0 Q (F0 m 0 ls [])) : zx_C zx_ea l D tys w y ws rm av u post := by
  intro sz
  refine Met.ofW (cc := cc) (maxL := maxL) (ret := (some (.object nm))) hy hw ?_
  intro p e s m args below meth c s₁ B hml hv
  obtain ⟨rfl, hsz, hP, hK, hN, hD0⟩ := hv
  subst hsz
  have hown : s.vm.findClass y.cls = some m.cls := findClass_of_methodNamed B.named
  have hts := atoms_spec (ws := ws) B.pre
  have hr := B.returns
  have hlk := B.notSynchronized
  rw [lg_entry_eq]
  exact body p e s m av.toArray below meth c (va_A (w u) s.heap.size) _ s.heap ⟨B.exec, B.bytes, hml, hown, hts⟩ hK hN hP hD0.self va_S.rf (fun q h => Or.inr h) (fun H locs u' v pc ls hP hD hS hdg hq => zx_ret_a B.exec B.bytes hr hlk hK hP hD hS hdg hq) _ (lv_entry av hlen)
end ZE
section ZG
variable {p : Program} {l : Launch} {e : Env} {R : Room} {s : State} {m : MethodId} {args : Array Value} {below : List Frame} {meth : Method} {c : Code} {H : Heap} {locs : List Loc} {cells slots : Nat} {Q : State → Prop}
variable {cc : ByteArray} {pc : Nat} {ls : Array Slot} {rest : List Value}
theorem zx_topi {x y : Int32} (h : x = y) (k : W p l e R s m args below meth c H locs cells slots Q (F0 m pc ls (.int y :: rest))) : W p l e R s m args below meth c H locs cells slots Q (F0 m pc ls (.int x :: rest)) := by rw [h]; exact k
theorem zx_topl {x y : Int64} (h : x = y) (k : W p l e R s m args below meth c H locs cells slots Q (F0 m pc ls (.long y :: rest))) : W p l e R s m args below meth c H locs cells slots Q (F0 m pc ls (.long x :: rest)) := by rw [h]; exact k
theorem zx_inegI (hexec : p.tables.exec = Jvm.exec) (hb : c.code = cc) {a : Int} (hdg : decode cc pc = .ok (.ineg, 1)) (k : W p l e R s m args below meth c H locs cells slots Q (F0 m (pc + 1) ls (.int (zx_i (-a)) :: rest))) : W p l e R s m args below meth c H locs cells slots Q (F0 m pc ls (.int (zx_i a) :: rest)) :=
  lv_ineg hexec hb hdg (by rw [zx_i_neg]; exact k)
theorem zx_i2b (hexec : p.tables.exec = Jvm.exec) (hb : c.code = cc) {a : Nat} (ha : a < 128) (hdg : decode cc pc = .ok (.i2b, 1)) (k : W p l e R s m args below meth c H locs cells slots Q (F0 m (pc + 1) ls (.int (nI a) :: rest))) : W p l e R s m args below meth c H locs cells slots Q (F0 m pc ls (.int (nI a) :: rest)) :=
  lv_i2b hexec hb hdg (zx_narB a ha).2 k
end ZG
theorem zx_inc (a n : Nat) : nI a + Int32.ofInt (n : Int) = nI (a + n) := nI_add a n
theorem zx_dec {a n : Nat} (h : n ≤ a) : nI a + Int32.ofInt (-(n : Int)) = nI (a - n) := by
  rw [← pk_sub h, Int32.sub_eq_add_neg, Int32.ofInt_neg]; rfl
theorem zx_incI (a : Int) (n : Int) : zx_i a + Int32.ofInt n = zx_i (a + n) := zx_i_add a n
theorem zx_tout {a : Nat} {lo hi : Int} (ha : a < 2 ^ 31) (h : (a : Int) < lo ∨ hi < (a : Int)) : (nI a).toInt < lo ∨ hi < (nI a).toInt := by
  rw [nI_toInt ha]; exact h
theorem zx_neT {x : Int32} {k : Nat} (h : ¬ x = nI k) (hk : k < 2 ^ 31) : ¬ x.toInt = (k : Int) := fun q => h (Int32.toInt_inj.mp (by rw [nI_toInt hk]; exact q))
theorem zx_ofV {x : Int32} {n : Nat} (h1 : nI 0 ≤ x) (h2 : x ≤ nI n) (hn : n < 2 ^ 31) : ∃ k : Nat, k ≤ n ∧ x = nI k := by
  rw [Int32.le_iff_toInt_le, nI_toInt (by decide)] at h1
  rw [Int32.le_iff_toInt_le, nI_toInt hn] at h2
  refine ⟨x.toInt.toNat, by omega, ?_⟩
  apply Int32.toInt_inj.mp
  rw [nI_toInt (by omega)]
  omega
