/-! digests of the class -/
theorem zd_drwN {c d : Nat} (hc : c ≠ 0) (hd : d < 9) : zd_drw c (nI d) = some d := by
  unfold zd_drw
  rw [if_neg hc]
  exact zd_rng_i (Nat.zero_le _) (by omega) (by decide)
theorem zd_perN {n p : Nat} (hp : p < n) (hn : n < 2 ^ 31) : zd_per n (nI p) = some p := by
  unfold zd_per
  rw [if_neg (by omega)]
  exact zd_rng_i (Nat.zero_le _) (by omega) (by omega)
theorem zy_dn_y {s y : Nat → Nat} {a : Nat → Nat → Nat} {z : Nat → Int} (gy : ∀ k, k < 31 → y k = s k) {d q : Nat} : zy_dn y a z d q = zy_dn s a z d q := by
  unfold zy_dn
  rw [zy_F_y gy, gy 10 (by decide), gy 11 (by decide)]
theorem zy_sr_y {s y : Nat → Nat} {a : Nat → Nat → Nat} {z : Nat → Int} (gy : ∀ k, k < 31 → y k = s k) {d q : Nat} : zy_sr y a z d q = zy_sr s a z d q := by
  unfold zy_sr
  rw [zy_F_y gy, gy 10 (by decide)]
theorem zy_de_y {s y : Nat → Nat} {a : Nat → Nat → Nat} (gy : ∀ k, k < 31 → y k = s k) {d : Nat} : zy_de y a d = zy_de s a d := by
  funext j
  unfold zy_de
  rw [zy_Em_y gy, zy_Tm_y gy]
theorem zy_whF_y {s y : Nat → Nat} {a : Nat → Nat → Nat} {z : Nat → Int} (gy : ∀ k, k < 31 → y k = s k) {p : Nat} : zy_whF y a z p = zy_whF s a z p := by
  funext t
  unfold zy_whF
  exact zy_can_y gy
theorem zy_cdn {s y : Nat → Nat} {a : Nat → Nat → Nat} {z : Nat → Int} {d q : Nat} (gy : ∀ k, k < 31 → y k = s k) (hc : s 2 ≠ 0) (hd : d < 9) (hq : q ≤ 6) : zs_dq 6 (zd_drw (y 2) (nI d)) (nI q) (zy_dn y a z) = zy_dn s a z d q := by
  rw [gy 2 (by decide), zd_drwN hc hd, zs_dqi (zd_rng_i (Nat.zero_le _) hq (by decide)), zy_dn_y gy]
theorem zy_csr {s y : Nat → Nat} {a : Nat → Nat → Nat} {z : Nat → Int} {d q : Nat} (gy : ∀ k, k < 31 → y k = s k) (hc : s 2 ≠ 0) (hd : d < 9) (hq : q ≤ 6) : zs_su (zd_drw (y 2) (nI d)) (zd_rng 0 6 (nI q)) (zy_sr y a z) = zy_sr s a z d q := by
  rw [gy 2 (by decide), zd_drwN hc hd, zd_rng_i (Nat.zero_le _) hq (by decide)]
  exact zy_sr_y gy
theorem zy_cde {s y : Nat → Nat} {a : Nat → Nat → Nat} {d : Nat} (gy : ∀ k, k < 31 → y k = s k) (hc : s 2 ≠ 0) (hd : d < 9) : zs_de (zd_drw (y 2) (nI d)) (fun d => nI (zp_bits (zy_de y a d) 8)) = nI (zp_bits (zy_de s a d) 8) := by
  rw [gy 2 (by decide), zd_drwN hc hd]
  show nI (zp_bits (zy_de y a d) 8) = _
  rw [zy_de_y gy]
theorem zy_cwh {s y : Nat → Nat} {a : Nat → Nat → Nat} {z : Nat → Int} {p q : Nat} (gy : ∀ k, k < 31 → y k = s k) (hp : p < s 11) (hn : s 11 ≤ 6) (hq : q ≤ 1) : zs_dq 1 (zd_per (y 11) (nI p)) (nI q) (fun p9 q => zy_who (zy_whF y a z p9) q) = zy_who (zy_whF s a z p) q := by
  rw [gy 11 (by decide), zd_perN hp (by omega), zs_dqi (zd_rng_i (Nat.zero_le _) hq (by decide)), zy_whF_y gy]
theorem zy_cab {n p q : Nat} {F : Nat → Nat → Int32} (hp : p < n) (hn : n ≤ 6) (hq : q ≤ 2) : zs_ab (zd_per n (nI p)) (nI q) F = F p q := by
  rw [zd_perN hp (by omega)]
  exact zs_abi (F := F) (zd_abq (Or.inl (zd_rng_i (Nat.zero_le _) hq (by decide))))
noncomputable def zy_md (s : Nat → Nat) (a : Nat → Nat → Nat) (z : Nat → Int) (d : Nat) (h : Int64) : Int64 :=
  (31 : Int64) * (zp_fo (fun o9 g9 => (31 : Int64) * g9 + (zy_sr s a z d o9).toInt64) (zp_fo (fun q9 g9 => (31 : Int64) * g9 + (zy_dn s a z d q9).toInt64) h 7) 7) + (nI (zp_bits (zy_de s a d) 8)).toInt64
noncomputable def zy_mp (s : Nat → Nat) (a : Nat → Nat → Nat) (z : Nat → Int) (p : Nat) (h : Int64) : Int64 :=
  zp_fo (fun q9 g9 => (31 : Int64) * g9 + (zy_who (zy_whF s a z p) q9).toInt64) (zp_fo (fun q9 g9 => (31 : Int64) * g9 + (zp_ab (a 13 p) (a 14 p) (a 15 p) q9).toInt64) h 3) 2
