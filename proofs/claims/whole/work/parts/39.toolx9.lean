/-! the digest of the class -/
theorem zy_md_y {s y : Nat → Nat} {a : Nat → Nat → Nat} {z : Nat → Int} (gy : ∀ k, k < 31 → y k = s k) {d : Nat} {h : Int64} : zy_md y a z d h = zy_md s a z d h := by
  unfold zy_md
  simp only [zy_dn_y gy, zy_sr_y gy, zy_de_y gy]
theorem zy_mp_y {s y : Nat → Nat} {a : Nat → Nat → Nat} {z : Nat → Int} (gy : ∀ k, k < 31 → y k = s k) {p : Nat} {h : Int64} : zy_mp y a z p h = zy_mp s a z p h := by
  unfold zy_mp
  rw [zy_whF_y gy]
theorem zy_hm_y {s y : Nat → Nat} {a : Nat → Nat → Nat} {z : Nat → Int} (gy : ∀ k, k < 31 → y k = s k) : zy_hm y a z = zy_hm s a z := by
  funext q
  unfold zy_hm zy_ad
  simp only [zy_F_y gy]
  rw [gy 1 (by decide), gy 2 (by decide), gy 7 (by decide), gy 8 (by decide), gy 10 (by decide), gy 11 (by decide), gy 12 (by decide)]
noncomputable def zy_dig (s : Nat → Nat) (a : Nat → Nat → Nat) (z : Nat → Int) : Int64 :=
  zp_fo (fun q9 g9 => (31 : Int64) * g9 + (zs_hm (nI q9) (zy_hm s a z)).toInt64) (zp_fo (fun k9 g9 => (31 : Int64) * g9 + (nI (a 0 k9)).toInt64) (zp_fo (zy_mp s a z) (if s 2 = 0 then (853 : Int64) else zp_fo (zy_md s a z) 853 9) (s 11)) (s 1)) 8
