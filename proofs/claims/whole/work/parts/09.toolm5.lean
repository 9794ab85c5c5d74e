/-! images, counts, digests -/
def zd_img (c : Nat) : Int32 ⊕ Unit := if c = 0 then .inl (-103) else .inr ()
def zd_rst (k kc c : Nat) : Int32 ⊕ Unit := if k ≠ 0 ∧ kc = c then .inr () else .inl (-103)
theorem zd_rst0 {k kc c : Nat} (h : k = 0 ∨ kc ≠ c) : zd_rst k kc c = .inl (-103) := by
  unfold zd_rst; rw [if_neg]
  rintro ⟨h1, h2⟩
  rcases h with h | h
  · exact h1 h
  · exact h h2
theorem zd_rst1 {k kc c : Nat} (h1 : k ≠ 0) (h2 : kc = c) : zd_rst k kc c = .inr () := if_pos ⟨h1, h2⟩
noncomputable def zm_ad (s : Nat → Nat) (a : Nat → Nat → Nat) (z : Nat → Int) : Nat := if s 0 = 0 then 0 else zp_cnt (fun d9 => zp_any (zp_ag (zm_F s a z d9)) 128) 9
noncomputable def zm_hm (s : Nat → Nat) (a : Nat → Nat → Nat) (z : Nat → Int) (q : Nat) : Nat :=
  if q = 0 then zm_ad s a z else if q = 1 then s 3 else if q = 2 then s 5 else if q = 3 then zp_sum (fun d9 => zp_pc (a 4 d9)) 9 else if q = 4 then s 9 else if q = 5 then s 14 else if q = 6 then s 1 else s 13
def zs_hm (x : Int32) (F : Nat → Nat) : Int32 := match zd_rng 0 7 x with
  | none => -102
  | some q => nI (F q)
theorem zd_rng_i {lo hi k : Nat} (h1 : lo ≤ k) (h2 : k ≤ hi) (hh : hi < 2 ^ 31) : zd_rng lo hi (nI k) = some k := by
  unfold zd_rng
  rw [if_pos ⟨(nI_leI (by omega) (by omega)).mpr h1, (nI_leI (by omega) hh).mpr h2⟩, nI_clamp (by omega)]
theorem zs_hmi {q : Nat} {F : Nat → Nat} (h : q ≤ 7) : zs_hm (nI q) F = nI (F q) := by
  unfold zs_hm; rw [zd_rng_i (Nat.zero_le _) h (by decide)]
theorem zs_hmo {x : Int32} {F : Nat → Nat} (h0 : ¬ x = nI 0) (h1 : ¬ x = nI 1) (h2 : ¬ x = nI 2) (h3 : ¬ x = nI 3) (h4 : ¬ x = nI 4) (h5 : ¬ x = nI 5) (h6 : ¬ x = nI 6) (h7 : ¬ x = nI 7) : zs_hm x F = -102 := by
  unfold zs_hm
  cases e : zd_rng 0 7 x with
  | none => rfl
  | some q =>
    obtain ⟨rfl, a1, a2⟩ := zd_rng_some (by decide) (by decide) e
    rcases (show q = 0 ∨ q = 1 ∨ q = 2 ∨ q = 3 ∨ q = 4 ∨ q = 5 ∨ q = 6 ∨ q = 7 by omega) with w | w | w | w | w | w | w | w <;> subst w <;> first | exact absurd rfl h0 | exact absurd rfl h1 | exact absurd rfl h2 | exact absurd rfl h3 | exact absurd rfl h4 | exact absurd rfl h5 | exact absurd rfl h6 | exact absurd rfl h7
def zp_fo (g : Nat → Int64 → Int64) (h : Int64) : Nat → Int64
  | 0 => h
  | n + 1 => g n (zp_fo g h n)
noncomputable def zm_md (s : Nat → Nat) (a : Nat → Nat → Nat) (z : Nat → Int) (d : Nat) (h : Int64) : Int64 :=
  (31 : Int64) * (zp_fo (fun o9 g9 => (31 : Int64) * g9 + (zp_sur (zm_F s a z d) o9).toInt64) (zp_fo (fun q9 g9 => (31 : Int64) * g9 + (zm_dn s a z d q9).toInt64) h 7) 7) + (nI (zm_del s a d)).toInt64
noncomputable def zm_mp (s : Nat → Nat) (a : Nat → Nat → Nat) (z : Nat → Int) (p : Nat) (h : Int64) : Int64 :=
  (31 : Int64) * ((31 : Int64) * (zp_fo (fun q9 g9 => (31 : Int64) * g9 + (zp_ab (a 6 p) (a 7 p) (a 8 p) q9).toInt64) h 3) + (zp_who (zm_who s a z p) 0).toInt64) + (zp_who (zm_who s a z p) 1).toInt64
noncomputable def zm_dig (s : Nat → Nat) (a : Nat → Nat → Nat) (z : Nat → Int) : Int64 :=
  zp_fo (fun q9 g9 => (31 : Int64) * g9 + (zs_hm (nI q9) (zm_hm s a z)).toInt64) (zp_fo (fun k9 g9 => (31 : Int64) * g9 + (nI (a 15 k9)).toInt64) (zp_fo (zm_mp s a z) (if s 0 = 0 then (853 : Int64) else zp_fo (zm_md s a z) 853 9) (s 5)) (s 14)) 8
