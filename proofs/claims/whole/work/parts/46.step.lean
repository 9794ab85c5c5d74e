/-! each call answers alike, and keeps the two states side by side -/
def zr_U (n : Nat) (u : (Nat → Nat) × (Nat → Nat → Nat) × (Nat → Int) × Int) (v : (Nat → Nat) × (Nat → Nat → Nat) × (Nat → Int) × Int64) : Prop := zr_R n u.1 u.2.1 u.2.2.1 v.1 v.2.1 v.2.2.1
theorem zr_mono {n m : Nat} (hnm : n ≤ m) {s : Nat → Nat} {a : Nat → Nat → Nat} {z : Nat → Int} {t : Nat → Nat} {b : Nat → Nat → Nat} {y : Nat → Int} (h : zr_R n s a z t b y) : zr_R m s a z t b y := ⟨h.1, h.2.1, h.2.2.1, h.2.2.2.1, Nat.le_trans h.2.2.2.2 hnm⟩
theorem zd_letter_r {n k : Nat} {x : Int32} (h : zd_letter n x = .inr k) : n ≠ 12 ∧ k < 128 := by
  unfold zd_letter at h
  cases e : zd_rng 32 126 x with
  | none => simp only [e] at h; cases h
  | some j =>
    obtain ⟨_, _, a2⟩ := zd_rng_some (by decide) (by decide) e
    simp only [e] at h
    by_cases q : n = 12
    · rw [if_pos q] at h; cases h
    · rw [if_neg q] at h; cases h
      exact ⟨q, by omega⟩
theorem zd_face_r {c k : Nat} {x : Int32} (h : zd_face c x = .inr k) : k ≤ 3 := by
  unfold zd_face at h
  cases e : zd_rng 0 3 x with
  | none => simp only [e] at h; cases h
  | some j =>
    obtain ⟨_, _, a2⟩ := zd_rng_some (by decide) (by decide) e
    simp only [e] at h
    by_cases q : c = 0
    · rw [if_pos q] at h; cases h
    · rw [if_neg q] at h; cases h
      exact a2
theorem zd_person_r {c n : Nat} {x y t : Int32} {k : Nat × Nat × Nat} (h : zd_person c n x y t = .inr k) : k.1 < 5 ∧ k.2.1 < 9 ∧ k.2.2 < 7 ∧ n ≠ 6 := by
  unfold zd_person at h
  cases e : zd_rng 0 4 x with
  | none => simp only [e] at h; cases h
  | some j =>
    obtain ⟨_, _, a2⟩ := zd_rng_some (by decide) (by decide) e
    simp only [e] at h
    cases e2 : zd_drw c y with
    | none => simp only [e2] at h; cases h
    | some d =>
      obtain ⟨_, b2, _⟩ := zd_drw_some e2
      simp only [e2] at h
      cases e3 : zd_rng 0 6 t with
      | none => simp only [e3] at h; cases h
      | some o =>
        obtain ⟨_, _, c2⟩ := zd_rng_some (by decide) (by decide) e3
        simp only [e3] at h
        by_cases q : n = 6
        · rw [if_pos q] at h; cases h
        · rw [if_neg q] at h; cases h
          exact ⟨show j < 5 by omega, show d < 9 by omega, show o < 7 by omega, q⟩
theorem zd_move_r {o1 o2 : Option Nat} {k : Nat × Nat} (h : zd_move o1 o2 = .inr k) : o1 = some k.1 ∧ o2 = some k.2 := by
  unfold zd_move at h
  cases o1 with
  | none => cases h
  | some x =>
    cases o2 with
    | none => cases h
    | some y => cases h; exact ⟨rfl, rfl⟩
theorem zd_found_r {o1 o2 : Option Nat} {n : Nat} {k : Nat × Nat} (h : zd_found o1 o2 n = .inr k) : o1 = some k.1 ∧ o2 = some k.2 ∧ n ≠ 8 := by
  unfold zd_found at h
  cases o1 with
  | none => cases h
  | some x =>
    cases o2 with
    | none => cases h
    | some y =>
      by_cases q : n = 8
      · simp only [if_pos q] at h; cases h
      · simp only [if_neg q] at h; cases h; exact ⟨rfl, rfl, q⟩
theorem zd_few_r {o : Option Nat} {n : Nat} {y t : Int32} {k : Nat × Nat × Nat} (h : zd_few o n y t = .inr k) : o = some k.1 ∧ k.2.1 < 128 ∧ n ≠ 40 := by
  unfold zd_few at h
  cases o with
  | none => cases h
  | some d =>
    cases e : zd_rng 0 127 y with
    | none => simp only [e] at h; cases h
    | some w =>
      obtain ⟨_, _, a2⟩ := zd_rng_some (by decide) (by decide) e
      simp only [e] at h
      cases e2 : zd_rng 0 1 t with
      | none => simp only [e2] at h; cases h
      | some q9 =>
        simp only [e2] at h
        by_cases q : n = 40
        · rw [if_pos q] at h; cases h
        · rw [if_neg q] at h; cases h
          exact ⟨rfl, show w < 128 by omega, q⟩
theorem zd_chest_r {n : Nat} {pg : Nat → Nat} {k : Unit} (h : zd_chest n pg = .inr k) : n = 10 ∧ zp_flt n pg = 10 := by
  unfold zd_chest at h
  by_cases q : n = 10 ∧ zp_flt n pg = 10
  · exact q
  · rw [if_neg q] at h; cases h
theorem zs_dq_cong {m : Nat} {o : Option Nat} {y : Int32} {F G : Nat → Nat → Int32} (hm : m < 2 ^ 31) (h : ∀ d q, o = some d → q ≤ m → F d q = G d q) : zs_dq m o y F = zs_dq m o y G := by
  unfold zs_dq
  cases o with
  | none => rfl
  | some d =>
    cases e : zd_rng 0 m y with
    | none => rfl
    | some q => exact h d q rfl (zd_rng_some (Nat.zero_le m) hm e).2.2
theorem zs_su_cong {o : Option Nat} {y : Int32} {F G : Nat → Nat → Int32} (h : ∀ d q, o = some d → q ≤ 6 → F d q = G d q) : zs_su o (zd_rng 0 6 y) F = zs_su o (zd_rng 0 6 y) G := by
  unfold zs_su
  cases o with
  | none => rfl
  | some d =>
    cases e : zd_rng 0 6 y with
    | none => rfl
    | some q => exact h d q rfl (zd_rng_some (by decide) (by decide) e).2.2
theorem zs_de_cong {o : Option Nat} {F G : Nat → Int32} (h : ∀ d, o = some d → F d = G d) : zs_de o F = zs_de o G := by
  unfold zs_de
  cases o with
  | none => rfl
  | some d => exact h d rfl
theorem zs_ab_cong {o : Option Nat} {y : Int32} {F G : Nat → Nat → Int32} (h : ∀ d q, o = some d → F d q = G d q) : zs_ab o y F = zs_ab o y G := by
  unfold zs_ab
  cases o with
  | none => rfl
  | some d =>
    cases e : zd_abo y with
    | none => rfl
    | some q => exact h d q rfl
theorem zs_as_cong {o : Option Nat} {y : Int32} {F G : Nat → Nat} (h : ∀ d, o = some d → F d = G d) : zs_as o y F = zs_as o y G := by
  unfold zs_as
  cases o with
  | none => rfl
  | some d =>
    cases e : zd_rng 0 4 y with
    | none => rfl
    | some q => simp only [h d rfl]
theorem zr_Y {n : Nat} {s v : Nat → Nat} {a : Nat → Nat → Nat} {z : Nat → Int} {t : Nat → Nat} {b : Nat → Nat → Nat} {y : Nat → Int} (h : zr_R n s a z t b y) (gy : ∀ k, k < 31 → v k = s k) : zr_R n v a z t b y := by
  obtain ⟨⟨⟨e1, e2, e10, e11, e12, e7, e8⟩, cR⟩, ⟨k5, k18, kI⟩, hI, hm, hn⟩ := h
  refine ⟨⟨⟨?_, ?_, ?_, ?_, ?_, ?_, ?_⟩, cR⟩, ⟨?_, k18, ?_⟩, zy_I_y hI gy, hm, hn⟩
  · rw [gy _ (by decide)]; exact e1
  · rw [gy _ (by decide)]; exact e2
  · rw [gy _ (by decide)]; exact e10
  · rw [gy _ (by decide)]; exact e11
  · rw [gy _ (by decide)]; exact e12
  · rw [gy _ (by decide)]; exact e7
  · rw [gy _ (by decide)]; exact e8
  · rw [gy _ (by decide)]; exact k5
  · rw [gy 5 (by decide), gy 20 (by decide), gy 21 (by decide), gy 22 (by decide)]; exact kI
theorem zx_up_lt {f : Nat → Nat} {k v c j : Nat} (hv : v < c) (h : f j < c) : zx_up f k v j < c := by
  rw [zx_up_if]
  split
  · exact hv
  · exact h
theorem zx_up_both {f g : Nat → Nat} {k l v j : Nat} (hk : k = l) (h : j ≠ l → f j = g j) : zx_up f k v j = zx_up g l v j := by
  subst hk
  rw [zx_up_if, zx_up_if]
  split
  · rfl
  · exact h (by assumption)
theorem zd_perlt {m k : Nat} {x : Int32} (hm : m ≤ 6) (h : zd_per m x = some k) : k < m := (zd_per_some (by omega) h).2
theorem zd_drlt {c k : Nat} {x : Int32} (h : zd_drw c x = some k) : k < 9 := by have := (zd_drw_some h).2.1; omega
theorem zp_lay_lt {x o : Nat} {v : Bool} (hx : x < 128) (ho : o < 7) : zp_lay x o v < 128 := by
  unfold zp_lay
  cases v
  · exact Nat.lt_of_le_of_lt Nat.and_le_left hx
  · exact zy_or_lt hx (Nat.pow_lt_pow_right (by decide) ho)
section ZST
variable {n : Nat} {s : Nat → Nat} {a : Nat → Nat → Nat} {z : Nat → Int} {t : Nat → Nat} {b : Nat → Nat → Nat} {y : Nat → Int} {ah : Int} {h9 : Int64} {r1 r2 : Int32} {u : (Nat → Nat) × (Nat → Nat → Nat) × (Nat → Int) × Int} {v : (Nat → Nat) × (Nat → Nat → Nat) × (Nat → Int) × Int64}
theorem zr_s_letter {x1 : Int32} (h : zr_R n s a z t b y) (hx : zd_out (zd_letter (s 1) x1) (fun e9 => r1 = e9 ∧ u = (s, a, z, ah)) (fun k => r1 = nI (s 1 + 1) ∧ u = (zx_up s 1 (s 1 + 1), zx_up a 0 (zx_up (a 0) (s 1) k), z, ah))) (hm : zd_out (zd_letter (t 14) x1) (fun e9 => r2 = e9 ∧ v = (t, b, y, h9)) (fun k => r2 = nI (t 14 + 1) ∧ v = (zx_up t 14 (t 14 + 1), zx_up b 15 (zx_up (b 15) (t 14) k), y, h9))) : r1 = r2 ∧ zr_U (n + 1) u v := by
  obtain ⟨⟨⟨e1, e2, e10, e11, e12, e7, e8⟩, cP, cZ, cD, cL, cK, cF⟩, ⟨k5, k18, kI⟩, ⟨⟨i1, i2, i5, i7, i8, i10, i11, i12⟩, ⟨i20, i21, i22⟩, iP0, iP, iL, iZ, jP, jL⟩, ⟨⟨m0, m1, m3, m5, m9, m13, m14⟩, ⟨m17, m18, m19, m20, m21⟩, mP, mF, mL, mG, mZ, nL, nP, nF⟩, hn⟩ := id h
  have h1 := zr_mono (Nat.le_succ n) h
  obtain ⟨hc, hk, hI, hM, _⟩ := id h
  rw [e1] at hx
  revert hx hm
  cases hq : zd_letter (t 14) x1 with
  | inl e9 =>
    rintro ⟨rfl, rfl⟩ ⟨rfl, rfl⟩
    exact ⟨rfl, h1⟩
  | inr k =>
    rintro ⟨rfl, rfl⟩ ⟨rfl, rfl⟩
    obtain ⟨q1, q2⟩ := zd_letter_r hq
    refine ⟨rfl, ?_⟩
    exact ⟨⟨⟨rfl, e2, e10, e11, e12, e7, e8⟩, (fun j hj => show zx_up (a 0) (t 14) k j = zx_up (b 15) (t 14) k j from zx_up_both rfl (fun _ => cP j hj)), cZ, cD, cL, cK, cF⟩, ⟨k5, k18, kI⟩, ⟨⟨(show t 14 + 1 ≤ 12 by omega), i2, i5, i7, i8, i10, i11, i12⟩, ⟨i20, i21, i22⟩, (fun j hj => show zx_up (a 0) (t 14) k j < 128 from zx_up_lt q2 (iP0 j hj)), iP, iL, iZ, jP, jL⟩, ⟨⟨m0, m1, m3, m5, m9, m13, (show t 14 + 1 ≤ 12 by omega)⟩, ⟨m17, m18, m19, m20, m21⟩, mP, mF, mL, (fun j hj => show zx_up (b 15) (t 14) k j < 128 from zx_up_lt q2 (mG j hj)), mZ, nL, nP, nF⟩, (Nat.le_succ_of_le hn)⟩
theorem zr_s_blank (h : zr_R n s a z t b y) (hx : r1 = nI (s 1) ∧ u = (zx_up s 1 0, a, z, ah)) (hm : r2 = nI (t 14) ∧ v = (zx_up t 14 0, b, y, h9)) : r1 = r2 ∧ zr_U (n + 1) u v := by
  obtain ⟨⟨⟨e1, e2, e10, e11, e12, e7, e8⟩, cP, cZ, cD, cL, cK, cF⟩, ⟨k5, k18, kI⟩, ⟨⟨i1, i2, i5, i7, i8, i10, i11, i12⟩, ⟨i20, i21, i22⟩, iP0, iP, iL, iZ, jP, jL⟩, ⟨⟨m0, m1, m3, m5, m9, m13, m14⟩, ⟨m17, m18, m19, m20, m21⟩, mP, mF, mL, mG, mZ, nL, nP, nF⟩, hn⟩ := id h
  have h1 := zr_mono (Nat.le_succ n) h
  obtain ⟨hc, hk, hI, hM, _⟩ := id h
  obtain ⟨rfl, rfl⟩ := hx
  obtain ⟨rfl, rfl⟩ := hm
  refine ⟨by rw [e1], ?_⟩
  exact ⟨⟨⟨rfl, e2, e10, e11, e12, e7, e8⟩, cP, cZ, cD, cL, cK, cF⟩, ⟨k5, k18, kI⟩, ⟨⟨(Nat.zero_le _), i2, i5, i7, i8, i10, i11, i12⟩, ⟨i20, i21, i22⟩, iP0, iP, iL, iZ, jP, jL⟩, ⟨⟨m0, m1, m3, m5, m9, m13, (Nat.zero_le _)⟩, ⟨m17, m18, m19, m20, m21⟩, mP, mF, mL, mG, mZ, nL, nP, nF⟩, (Nat.le_succ_of_le hn)⟩
theorem zr_flt (h : zr_R n s a z t b y) : zp_flt (s 1) (a 0) = zp_flt (t 14) (b 15) := by
  obtain ⟨⟨⟨e1, e2, e10, e11, e12, e7, e8⟩, cP, cZ, cD, cL, cK, cF⟩, ⟨k5, k18, kI⟩, ⟨⟨i1, i2, i5, i7, i8, i10, i11, i12⟩, ⟨i20, i21, i22⟩, iP0, iP, iL, iZ, jP, jL⟩, ⟨⟨m0, m1, m3, m5, m9, m13, m14⟩, ⟨m17, m18, m19, m20, m21⟩, mP, mF, mL, mG, mZ, nL, nP, nF⟩, hn⟩ := id h
  unfold zp_flt
  rw [e1]
  exact zp_fst_cong (fun k hk => by rw [cP k (by omega)])
theorem zr_s_fault (h : zr_R n s a z t b y) (hx : r1 = nI (zp_flt (s 1) (a 0)) ∧ u = (s, a, z, ah)) (hm : r2 = nI (zp_flt (t 14) (b 15)) ∧ v = (t, b, y, h9)) : r1 = r2 ∧ zr_U (n + 1) u v := by
  obtain ⟨⟨⟨e1, e2, e10, e11, e12, e7, e8⟩, cP, cZ, cD, cL, cK, cF⟩, ⟨k5, k18, kI⟩, ⟨⟨i1, i2, i5, i7, i8, i10, i11, i12⟩, ⟨i20, i21, i22⟩, iP0, iP, iL, iZ, jP, jL⟩, ⟨⟨m0, m1, m3, m5, m9, m13, m14⟩, ⟨m17, m18, m19, m20, m21⟩, mP, mF, mL, mG, mZ, nL, nP, nF⟩, hn⟩ := id h
  have h1 := zr_mono (Nat.le_succ n) h
  obtain ⟨hc, hk, hI, hM, _⟩ := id h
  obtain ⟨rfl, rfl⟩ := hx
  obtain ⟨rfl, rfl⟩ := hm
  exact ⟨by rw [zr_flt h], h1⟩
theorem zr_s_chest (h : zr_R n s a z t b y) (hn9 : n < 1000) (hx : zd_out (zd_chest (s 1) (a 0)) (fun e9 => r1 = e9 ∧ u = (s, a, z, ah)) (fun _ => r1 = nI (zp_cnt (fun j => !decide (zp_dl (a 0 j) = 0)) 9) ∧ ∃ (xb : Nat → Nat → Nat) (xy : Nat → Int), u = (zx_up (zx_up (zx_up (zx_up (zx_up (zx_up (zx_up s 10 (a 0 9 - 48)) 11 0) 12 0) 2 1) 5 0) 7 (s 7 + 1)) 1 0, xb, xy, ah) ∧ (∀ j, j < 9 → xy j = zp_dl (a 0 j)) ∧ (∀ j, j < 9 → xb 16 j = 0) ∧ (∀ j, j < 9 → xb 17 j = 0) ∧ (∀ j, j < 9 → xb 18 j = 0) ∧ (∀ k, k ≠ 16 → k ≠ 17 → k ≠ 18 → xb k = a k))) (hm : zd_out (zd_chest (t 14) (b 15)) (fun e9 => r2 = e9 ∧ v = (t, b, y, h9)) (fun _ => r2 = nI (zp_cnt (fun j => !decide (zp_dl (b 15 j) = 0)) 9) ∧ ∃ (mb : Nat → Nat → Nat) (my : Nat → Int), v = (zx_up (zx_up (zx_up (zx_up (zx_up (zx_up t 3 (b 15 9 - 48)) 0 1) 1 (t 1 + 1)) 5 0) 9 0) 14 0, mb, my, h9) ∧ (∀ j, j < 9 → my j = zp_dl (b 15 j)) ∧ (∀ j, j < 9 → mb 4 j = 0) ∧ (∀ k, k ≠ 4 → mb k = b k))) : r1 = r2 ∧ zr_U (n + 1) u v := by
  obtain ⟨⟨⟨e1, e2, e10, e11, e12, e7, e8⟩, cP, cZ, cD, cL, cK, cF⟩, ⟨k5, k18, kI⟩, ⟨⟨i1, i2, i5, i7, i8, i10, i11, i12⟩, ⟨i20, i21, i22⟩, iP0, iP, iL, iZ, jP, jL⟩, ⟨⟨m0, m1, m3, m5, m9, m13, m14⟩, ⟨m17, m18, m19, m20, m21⟩, mP, mF, mL, mG, mZ, nL, nP, nF⟩, hn⟩ := id h
  have h1 := zr_mono (Nat.le_succ n) h
  obtain ⟨hc, hk, hI, hM, _⟩ := id h
  have eq0 : zd_chest (s 1) (a 0) = zd_chest (t 14) (b 15) := by
    unfold zd_chest
    rw [zr_flt h, e1]
  rw [eq0] at hx
  revert hx hm
  cases hq : zd_chest (t 14) (b 15) with
  | inl e9 =>
    rintro ⟨rfl, rfl⟩ ⟨rfl, rfl⟩
    exact ⟨rfl, h1⟩
  | inr k =>
    rintro ⟨rfl, xb, xy, rfl, x1, x2, x3, x4, x5⟩ ⟨rfl, mb, my, rfl, y1, y2, y3⟩
    obtain ⟨q1, q2⟩ := zd_chest_r hq
    have q3 := zp_flt_ok (q2.trans q1.symm)
    have q4 := zp_okl9 (q3 9 (by omega))
    have q5 : ∀ d, d < 9 → -2 ≤ zp_dl (b 15 d) ∧ zp_dl (b 15 d) ≤ 3 := fun d hd => zp_dlR _ (mG d (by omega)) (zp_okld (q3 d (by omega)) hd)
    have a0 : ∀ j, j < 9 → a 0 j = b 15 j := fun j hj => cP j (by omega)
    have e9 : a 0 9 = b 15 9 := cP 9 (by decide)
    refine ⟨congrArg nI (zp_cnt_cong (fun j hj => by rw [a0 j hj])), ?_⟩
    have g0 : xb 0 = a 0 := x5 0 (by decide) (by decide) (by decide)
    have g13 : xb 13 = a 13 := x5 13 (by decide) (by decide) (by decide)
    have g14 : xb 14 = a 14 := x5 14 (by decide) (by decide) (by decide)
    have g15 : xb 15 = a 15 := x5 15 (by decide) (by decide) (by decide)
    have g23 : xb 23 = a 23 := x5 23 (by decide) (by decide) (by decide)
    have g24 : xb 24 = a 24 := x5 24 (by decide) (by decide) (by decide)
    have g25 : xb 25 = a 25 := x5 25 (by decide) (by decide) (by decide)
    have g26 : xb 26 = a 26 := x5 26 (by decide) (by decide) (by decide)
    have g27 : xb 27 = a 27 := x5 27 (by decide) (by decide) (by decide)
    have g28 : xb 28 = a 28 := x5 28 (by decide) (by decide) (by decide)
    have f15 : mb 15 = b 15 := y3 15 (by decide)
    have f6 : mb 6 = b 6 := y3 6 (by decide)
    have f7 : mb 7 = b 7 := y3 7 (by decide)
    have f8 : mb 8 = b 8 := y3 8 (by decide)
    have f10 : mb 10 = b 10 := y3 10 (by decide)
    have f11 : mb 11 = b 11 := y3 11 (by decide)
    have f12 : mb 12 = b 12 := y3 12 (by decide)
    have f22 : mb 22 = b 22 := y3 22 (by decide)
    have f23 : mb 23 = b 23 := y3 23 (by decide)
    have f24 : mb 24 = b 24 := y3 24 (by decide)
    have f25 : mb 25 = b 25 := y3 25 (by decide)
    have f26 : mb 26 = b 26 := y3 26 (by decide)
    have f27 : mb 27 = b 27 := y3 27 (by decide)
    show zr_R (n + 1) _ xb xy _ mb my
    exact ⟨⟨⟨rfl, rfl, (by show a 0 9 - 48 = b 15 9 - 48; rw [e9]), rfl, rfl, (congrArg (fun q => q + 1) e7), e8⟩, (by rw [g0, f15]; exact cP), (fun d hd => by show xy d = my d; rw [x1 d hd, y1 d hd, a0 d hd]), (by rw [g14, g15, f7, f8]; exact cD), (fun d hd => by show xb 16 d = mb 4 d; rw [x2 d hd, y2 d hd]), (fun p9 hp => absurd hp (Nat.not_lt_zero p9)), (fun d hd o ho => ⟨by show (xb 17 d).testBit o = false; rw [x3 d hd, Nat.zero_testBit], by show (xb 18 d).testBit o = false; rw [x4 d hd, Nat.zero_testBit]⟩)⟩, ⟨⟨fun q => absurd rfl q, fun q => absurd q.2 (show ¬ t 18 = t 1 + 1 by omega)⟩, (show t 18 ≤ t 1 + 1 by omega), (fun q => absurd rfl q)⟩, ⟨⟨(Nat.zero_le _), (Nat.le_refl 1), (Nat.zero_le _), (show s 7 + 1 ≤ 1000 by omega), i8, (show a 0 9 - 48 ≤ 3 by omega), (Nat.zero_le _), (Nat.zero_le _)⟩, ⟨i20, i21, i22⟩, (by rw [g0]; exact iP0), (by rw [g13, g14, g15]; exact iP), (fun d hd => by rw [x2 d hd, x3 d hd, x4 d hd]; decide), (fun d hd => by show -2 ≤ xy d ∧ xy d ≤ 3; rw [x1 d hd, a0 d hd]; exact q5 d hd), (by rw [g23, g24, g25]; exact jP), (by rw [g26, g27, g28]; exact jL)⟩, ⟨⟨(Nat.le_refl 1), (show t 1 + 1 ≤ 1000 by omega), (show b 15 9 - 48 ≤ 3 by omega), (Nat.zero_le _), (Nat.zero_le _), m13, (Nat.zero_le _)⟩, ⟨m17, m18, m19, m20, m21⟩, (by rw [f6, f7, f8]; exact mP), (by rw [f10, f11, f12]; exact mF), (fun d hd => by rw [y2 d hd]; decide), (by rw [f15]; exact mG), (fun d hd => by show -2 ≤ my d ∧ my d ≤ 3; rw [y1 d hd]; exact q5 d hd), (by rw [f22]; exact nL), (by rw [f23, f24]; exact nP), (by rw [f25, f26, f27]; exact nF)⟩, (show t 1 + 1 ≤ n + 1 by omega)⟩
theorem zr_s_face {x1 : Int32} (h : zr_R n s a z t b y) (hx : zd_out (zd_face (s 2) x1) (fun e9 => r1 = e9 ∧ u = (s, a, z, ah)) (fun k => r1 = nI (s 10) ∧ u = (zx_up s 10 k, a, z, ah))) (hm : zd_out (zd_face (t 0) x1) (fun e9 => r2 = e9 ∧ v = (t, b, y, h9)) (fun k => r2 = nI (t 3) ∧ v = (zx_up t 3 k, b, y, h9))) : r1 = r2 ∧ zr_U (n + 1) u v := by
  obtain ⟨⟨⟨e1, e2, e10, e11, e12, e7, e8⟩, cP, cZ, cD, cL, cK, cF⟩, ⟨k5, k18, kI⟩, ⟨⟨i1, i2, i5, i7, i8, i10, i11, i12⟩, ⟨i20, i21, i22⟩, iP0, iP, iL, iZ, jP, jL⟩, ⟨⟨m0, m1, m3, m5, m9, m13, m14⟩, ⟨m17, m18, m19, m20, m21⟩, mP, mF, mL, mG, mZ, nL, nP, nF⟩, hn⟩ := id h
  have h1 := zr_mono (Nat.le_succ n) h
  obtain ⟨hc, hk, hI, hM, _⟩ := id h
  rw [e2] at hx
  revert hx hm
  cases hq : zd_face (t 0) x1 with
  | inl e9 =>
    rintro ⟨rfl, rfl⟩ ⟨rfl, rfl⟩
    exact ⟨rfl, h1⟩
  | inr k =>
    rintro ⟨rfl, rfl⟩ ⟨rfl, rfl⟩
    have q1 := zd_face_r hq
    refine ⟨by rw [e10], ?_⟩
    exact ⟨⟨⟨e1, e2, rfl, e11, e12, e7, e8⟩, cP, cZ, cD, cL, cK, cF⟩, ⟨k5, k18, kI⟩, ⟨⟨i1, i2, i5, i7, i8, q1, i11, i12⟩, ⟨i20, i21, i22⟩, iP0, iP, iL, iZ, jP, jL⟩, ⟨⟨m0, m1, q1, m5, m9, m13, m14⟩, ⟨m17, m18, m19, m20, m21⟩, mP, mF, mL, mG, mZ, nL, nP, nF⟩, (Nat.le_succ_of_le hn)⟩
theorem zr_s_drawer {x1 x2 : Int32} (h : zr_R n s a z t b y) (hx : r1 = zs_dq 6 (zd_drw (s 2) x1) x2 (zy_dn s a z) ∧ ∃ (y9 : Nat → Nat) (w9 : Int), u = (y9, a, z, w9) ∧ ∀ k, k < 31 → y9 k = s k) (hm : r2 = zs_dq 6 (zd_drw (t 0) x1) x2 (zm_dn t b y) ∧ v = (t, b, y, h9)) : r1 = r2 ∧ zr_U (n + 1) u v := by
  obtain ⟨⟨⟨e1, e2, e10, e11, e12, e7, e8⟩, cP, cZ, cD, cL, cK, cF⟩, ⟨k5, k18, kI⟩, ⟨⟨i1, i2, i5, i7, i8, i10, i11, i12⟩, ⟨i20, i21, i22⟩, iP0, iP, iL, iZ, jP, jL⟩, ⟨⟨m0, m1, m3, m5, m9, m13, m14⟩, ⟨m17, m18, m19, m20, m21⟩, mP, mF, mL, mG, mZ, nL, nP, nF⟩, hn⟩ := id h
  have h1 := zr_mono (Nat.le_succ n) h
  obtain ⟨hc, hk, hI, hM, _⟩ := id h
  obtain ⟨rfl, y9, w9, rfl, gy⟩ := hx
  obtain ⟨rfl, rfl⟩ := hm
  refine ⟨?_, zr_Y h1 gy⟩
  rw [e2]
  exact zs_dq_cong (by decide) (fun d q hd _ => (zr_dn hc hI (zd_drlt hd)).symm)
theorem zr_s_person {x1 x2 x3 : Int32} (h : zr_R n s a z t b y) (hx : zd_out (zd_person (s 2) (s 11) x1 x2 x3) (fun e9 => r1 = e9 ∧ u = (s, a, z, ah)) (fun k => r1 = nI (s 11) ∧ u = (zx_up s 11 (s 11 + 1), zx_up (zx_up (zx_up a 13 (zx_up (a 13) (s 11) k.1)) 14 (zx_up (a 14) (s 11) k.2.1)) 15 (zx_up (a 15) (s 11) k.2.2), z, ah))) (hm : zd_out (zd_person (t 0) (t 5) x1 x2 x3) (fun e9 => r2 = e9 ∧ v = (t, b, y, h9)) (fun k => r2 = nI (t 5) ∧ v = (zx_up t 5 (t 5 + 1), zx_up (zx_up (zx_up b 6 (zx_up (b 6) (t 5) k.1)) 7 (zx_up (b 7) (t 5) k.2.1)) 8 (zx_up (b 8) (t 5) k.2.2), y, h9))) : r1 = r2 ∧ zr_U (n + 1) u v := by
  obtain ⟨⟨⟨e1, e2, e10, e11, e12, e7, e8⟩, cP, cZ, cD, cL, cK, cF⟩, ⟨k5, k18, kI⟩, ⟨⟨i1, i2, i5, i7, i8, i10, i11, i12⟩, ⟨i20, i21, i22⟩, iP0, iP, iL, iZ, jP, jL⟩, ⟨⟨m0, m1, m3, m5, m9, m13, m14⟩, ⟨m17, m18, m19, m20, m21⟩, mP, mF, mL, mG, mZ, nL, nP, nF⟩, hn⟩ := id h
  have h1 := zr_mono (Nat.le_succ n) h
  obtain ⟨hc, hk, hI, hM, _⟩ := id h
  rw [e2, e11] at hx
  revert hx hm
  cases hq : zd_person (t 0) (t 5) x1 x2 x3 with
  | inl e9 =>
    rintro ⟨rfl, rfl⟩ ⟨rfl, rfl⟩
    exact ⟨rfl, h1⟩
  | inr k =>
    rintro ⟨rfl, rfl⟩ ⟨rfl, rfl⟩
    obtain ⟨q1, q2, q3, q4⟩ := zd_person_r hq
    refine ⟨rfl, ?_⟩
    exact ⟨⟨⟨e1, e2, e10, rfl, e12, e7, e8⟩, cP, cZ, (fun j hj => ⟨show zx_up (a 14) (t 5) k.2.1 j = zx_up (b 7) (t 5) k.2.1 j from zx_up_both rfl (fun _ => (cD j hj).1), show zx_up (a 15) (t 5) k.2.2 j = zx_up (b 8) (t 5) k.2.2 j from zx_up_both rfl (fun _ => (cD j hj).2)⟩), cL, (fun j hj => show zx_up (a 13) (t 5) k.1 j = zx_up (b 6) (t 5) k.1 j from zx_up_both rfl (fun q => cK j (by have hj : j < t 5 + 1 := hj; omega))), cF⟩, ⟨k5, k18, (fun q => by obtain ⟨w1, w2, w3, w4, w5, w6⟩ := kI q; exact ⟨w1, w2, w3, Nat.le_succ_of_le w4, fun p9 hp => by have hp : p9 < t 20 := hp; show a 23 p9 = zx_up (b 6) (t 5) k.1 p9; rw [zx_up_ne _ _ (by omega)]; exact w5 p9 hp, w6⟩)⟩, ⟨⟨i1, i2, i5, i7, i8, i10, (show t 5 + 1 ≤ 6 by omega), i12⟩, ⟨i20, i21, i22⟩, iP0, (fun j hj => ⟨show zx_up (a 13) (t 5) k.1 j < 5 from zx_up_lt q1 (iP j hj).1, show zx_up (a 14) (t 5) k.2.1 j < 9 from zx_up_lt q2 (iP j hj).2.1, show zx_up (a 15) (t 5) k.2.2 j < 7 from zx_up_lt q3 (iP j hj).2.2⟩), iL, iZ, jP, jL⟩, ⟨⟨m0, m1, m3, (show t 5 + 1 ≤ 6 by omega), m9, m13, m14⟩, ⟨m17, m18, m19, m20, m21⟩, (fun j hj => ⟨show zx_up (b 6) (t 5) k.1 j < 5 from zx_up_lt q1 (mP j hj).1, show zx_up (b 7) (t 5) k.2.1 j < 9 from zx_up_lt q2 (mP j hj).2.1, show zx_up (b 8) (t 5) k.2.2 j < 7 from zx_up_lt q3 (mP j hj).2.2⟩), mF, mL, mG, mZ, nL, nP, nF⟩, (Nat.le_succ_of_le hn)⟩
theorem zr_s_about {x1 x2 : Int32} (h : zr_R n s a z t b y) (hx : r1 = zs_ab (zd_per (s 11) x1) x2 (fun p9 q => zp_ab (a 13 p9) (a 14 p9) (a 15 p9) q) ∧ u = (s, a, z, ah)) (hm : r2 = zs_ab (zd_per (t 5) x1) x2 (fun p9 q => zp_ab (b 6 p9) (b 7 p9) (b 8 p9) q) ∧ v = (t, b, y, h9)) : r1 = r2 ∧ zr_U (n + 1) u v := by
  obtain ⟨⟨⟨e1, e2, e10, e11, e12, e7, e8⟩, cP, cZ, cD, cL, cK, cF⟩, ⟨k5, k18, kI⟩, ⟨⟨i1, i2, i5, i7, i8, i10, i11, i12⟩, ⟨i20, i21, i22⟩, iP0, iP, iL, iZ, jP, jL⟩, ⟨⟨m0, m1, m3, m5, m9, m13, m14⟩, ⟨m17, m18, m19, m20, m21⟩, mP, mF, mL, mG, mZ, nL, nP, nF⟩, hn⟩ := id h
  have h1 := zr_mono (Nat.le_succ n) h
  obtain ⟨hc, hk, hI, hM, _⟩ := id h
  obtain ⟨rfl, rfl⟩ := hx
  obtain ⟨rfl, rfl⟩ := hm
  refine ⟨?_, h1⟩
  rw [e11]
  exact zs_ab_cong (fun d q hd => by
    have hp := zd_perlt m5 hd
    rw [cK d hp, (cD d (by omega)).1, (cD d (by omega)).2])
theorem zr_s_as {x1 x2 : Int32} (h : zr_R n s a z t b y) (hx : r1 = zs_as (zd_per (s 11) x1) x2 (a 13) ∧ u = (s, a, z, ah)) (hm : r2 = zs_as (zd_per (t 5) x1) x2 (b 6) ∧ v = (t, b, y, h9)) : r1 = r2 ∧ zr_U (n + 1) u v := by
  obtain ⟨⟨⟨e1, e2, e10, e11, e12, e7, e8⟩, cP, cZ, cD, cL, cK, cF⟩, ⟨k5, k18, kI⟩, ⟨⟨i1, i2, i5, i7, i8, i10, i11, i12⟩, ⟨i20, i21, i22⟩, iP0, iP, iL, iZ, jP, jL⟩, ⟨⟨m0, m1, m3, m5, m9, m13, m14⟩, ⟨m17, m18, m19, m20, m21⟩, mP, mF, mL, mG, mZ, nL, nP, nF⟩, hn⟩ := id h
  have h1 := zr_mono (Nat.le_succ n) h
  obtain ⟨hc, hk, hI, hM, _⟩ := id h
  obtain ⟨rfl, rfl⟩ := hx
  obtain ⟨rfl, rfl⟩ := hm
  refine ⟨?_, h1⟩
  rw [e11]
  exact zs_as_cong (fun d hd => cK d (zd_perlt m5 hd))
theorem zr_s_move {x1 x2 : Int32} (h : zr_R n s a z t b y) (hx : zd_out (zd_move (zd_per (s 11) x1) (zd_drw (s 2) x2)) (fun e9 => r1 = e9 ∧ u = (s, a, z, ah)) (fun k => r1 = nI (a 14 k.1) ∧ u = (s, zx_up a 14 (zx_up (a 14) k.1 k.2), z, ah))) (hm : zd_out (zd_move (zd_per (t 5) x1) (zd_drw (t 0) x2)) (fun e9 => r2 = e9 ∧ v = (t, b, y, h9)) (fun k => r2 = nI (b 7 k.1) ∧ v = (t, zx_up b 7 (zx_up (b 7) k.1 k.2), y, h9))) : r1 = r2 ∧ zr_U (n + 1) u v := by
  obtain ⟨⟨⟨e1, e2, e10, e11, e12, e7, e8⟩, cP, cZ, cD, cL, cK, cF⟩, ⟨k5, k18, kI⟩, ⟨⟨i1, i2, i5, i7, i8, i10, i11, i12⟩, ⟨i20, i21, i22⟩, iP0, iP, iL, iZ, jP, jL⟩, ⟨⟨m0, m1, m3, m5, m9, m13, m14⟩, ⟨m17, m18, m19, m20, m21⟩, mP, mF, mL, mG, mZ, nL, nP, nF⟩, hn⟩ := id h
  have h1 := zr_mono (Nat.le_succ n) h
  obtain ⟨hc, hk, hI, hM, _⟩ := id h
  rw [e2, e11] at hx
  revert hx hm
  cases hq : zd_move (zd_per (t 5) x1) (zd_drw (t 0) x2) with
  | inl e9 =>
    rintro ⟨rfl, rfl⟩ ⟨rfl, rfl⟩
    exact ⟨rfl, h1⟩
  | inr k =>
    rintro ⟨rfl, rfl⟩ ⟨rfl, rfl⟩
    obtain ⟨q1, q2⟩ := zd_move_r hq
    have q3 := zd_perlt m5 q1
    have q4 := zd_drlt q2
    refine ⟨congrArg nI (cD k.1 (by omega)).1, ?_⟩
    exact ⟨⟨⟨e1, e2, e10, e11, e12, e7, e8⟩, cP, cZ, (fun j hj => ⟨show zx_up (a 14) k.1 k.2 j = zx_up (b 7) k.1 k.2 j from zx_up_both rfl (fun _ => (cD j hj).1), (cD j hj).2⟩), cL, cK, cF⟩, ⟨k5, k18, kI⟩, ⟨⟨i1, i2, i5, i7, i8, i10, i11, i12⟩, ⟨i20, i21, i22⟩, iP0, (fun j hj => ⟨(iP j hj).1, show zx_up (a 14) k.1 k.2 j < 9 from zx_up_lt q4 (iP j hj).2.1, (iP j hj).2.2⟩), iL, iZ, jP, jL⟩, ⟨⟨m0, m1, m3, m5, m9, m13, m14⟩, ⟨m17, m18, m19, m20, m21⟩, (fun j hj => ⟨(mP j hj).1, show zx_up (b 7) k.1 k.2 j < 9 from zx_up_lt q4 (mP j hj).2.1, (mP j hj).2.2⟩), mF, mL, mG, mZ, nL, nP, nF⟩, (Nat.le_succ_of_le hn)⟩
theorem zr_s_lay {x1 x2 : Int32} {c9 : Bool} (h : zr_R n s a z t b y) (hx : zd_out (zd_move (zd_drw (s 2) x1) (zd_rng 0 6 x2)) (fun e9 => r1 = e9 ∧ u = (s, a, z, ah)) (fun k => r1 = nI (zx_n ((a 16 k.1).testBit k.2)) ∧ u = (s, zx_up a 16 (zx_up (a 16) k.1 (zp_lay (a 16 k.1) k.2 c9)), z, ah))) (hm : zd_out (zd_move (zd_drw (t 0) x1) (zd_rng 0 6 x2)) (fun e9 => r2 = e9 ∧ v = (t, b, y, h9)) (fun k => r2 = nI (zx_n ((b 4 k.1).testBit k.2)) ∧ v = (t, zx_up b 4 (zx_up (b 4) k.1 (zp_lay (b 4 k.1) k.2 c9)), y, h9))) : r1 = r2 ∧ zr_U (n + 1) u v := by
  obtain ⟨⟨⟨e1, e2, e10, e11, e12, e7, e8⟩, cP, cZ, cD, cL, cK, cF⟩, ⟨k5, k18, kI⟩, ⟨⟨i1, i2, i5, i7, i8, i10, i11, i12⟩, ⟨i20, i21, i22⟩, iP0, iP, iL, iZ, jP, jL⟩, ⟨⟨m0, m1, m3, m5, m9, m13, m14⟩, ⟨m17, m18, m19, m20, m21⟩, mP, mF, mL, mG, mZ, nL, nP, nF⟩, hn⟩ := id h
  have h1 := zr_mono (Nat.le_succ n) h
  obtain ⟨hc, hk, hI, hM, _⟩ := id h
  rw [e2] at hx
  revert hx hm
  cases hq : zd_move (zd_drw (t 0) x1) (zd_rng 0 6 x2) with
  | inl e9 =>
    rintro ⟨rfl, rfl⟩ ⟨rfl, rfl⟩
    exact ⟨rfl, h1⟩
  | inr k =>
    rintro ⟨rfl, rfl⟩ ⟨rfl, rfl⟩
    obtain ⟨q1, q2⟩ := zd_move_r hq
    have q3 := zd_drlt q1
    have q4 : k.2 < 7 := by have := (zd_rng_some (by decide) (by decide) q2).2.2; omega
    have q5 := zp_lay_lt (v := c9) (mL k.1 q3) q4
    refine ⟨by rw [cL k.1 q3], ?_⟩
    rw [cL k.1 q3]
    exact ⟨⟨⟨e1, e2, e10, e11, e12, e7, e8⟩, cP, cZ, cD, (fun j hj => show zx_up (a 16) k.1 (zp_lay (b 4 k.1) k.2 c9) j = zx_up (b 4) k.1 (zp_lay (b 4 k.1) k.2 c9) j from zx_up_both rfl (fun _ => cL j hj)), cK, cF⟩, ⟨k5, k18, kI⟩, ⟨⟨i1, i2, i5, i7, i8, i10, i11, i12⟩, ⟨i20, i21, i22⟩, iP0, iP, (fun j hj => ⟨show zx_up (a 16) k.1 (zp_lay (b 4 k.1) k.2 c9) j < 128 from zx_up_lt q5 (iL j hj).1, (iL j hj).2⟩), iZ, jP, jL⟩, ⟨⟨m0, m1, m3, m5, m9, m13, m14⟩, ⟨m17, m18, m19, m20, m21⟩, mP, mF, (fun j hj => show zx_up (b 4) k.1 (zp_lay (b 4 k.1) k.2 c9) j < 128 from zx_up_lt q5 (mL j hj)), mG, mZ, nL, nP, nF⟩, (Nat.le_succ_of_le hn)⟩
theorem zr_s_agrees {x1 x2 : Int32} (h : zr_R n s a z t b y) (hx : r1 = zs_dq 127 (zd_drw (s 2) x1) x2 (fun d w => zx_b (decide (zy_F s a z 99 d w = w))) ∧ ∃ (y9 : Nat → Nat) (w9 : Int), u = (y9, a, z, w9) ∧ ∀ k, k < 31 → y9 k = s k) (hm : r2 = zs_dq 127 (zd_drw (t 0) x1) x2 (fun d w => zx_b (zp_ag (zm_F t b y d) w)) ∧ v = (t, b, y, h9)) : r1 = r2 ∧ zr_U (n + 1) u v := by
  obtain ⟨⟨⟨e1, e2, e10, e11, e12, e7, e8⟩, cP, cZ, cD, cL, cK, cF⟩, ⟨k5, k18, kI⟩, ⟨⟨i1, i2, i5, i7, i8, i10, i11, i12⟩, ⟨i20, i21, i22⟩, iP0, iP, iL, iZ, jP, jL⟩, ⟨⟨m0, m1, m3, m5, m9, m13, m14⟩, ⟨m17, m18, m19, m20, m21⟩, mP, mF, mL, mG, mZ, nL, nP, nF⟩, hn⟩ := id h
  have h1 := zr_mono (Nat.le_succ n) h
  obtain ⟨hc, hk, hI, hM, _⟩ := id h
  obtain ⟨rfl, y9, w9, rfl, gy⟩ := hx
  obtain ⟨rfl, rfl⟩ := hm
  refine ⟨?_, zr_Y h1 gy⟩
  rw [e2]
  exact zs_dq_cong (by decide) (fun d q hd hq => by rw [zr_ag hc hI (zd_drlt hd) (by omega)])
theorem zr_s_sure {x1 x2 : Int32} (h : zr_R n s a z t b y) (hx : r1 = zs_su (zd_drw (s 2) x1) (zd_rng 0 6 x2) (zy_sr s a z) ∧ ∃ (y9 : Nat → Nat) (w9 : Int), u = (y9, a, z, w9) ∧ ∀ k, k < 31 → y9 k = s k) (hm : r2 = zs_su (zd_drw (t 0) x1) (zd_rng 0 6 x2) (fun d o => zp_sur (zm_F t b y d) o) ∧ v = (t, b, y, h9)) : r1 = r2 ∧ zr_U (n + 1) u v := by
  obtain ⟨⟨⟨e1, e2, e10, e11, e12, e7, e8⟩, cP, cZ, cD, cL, cK, cF⟩, ⟨k5, k18, kI⟩, ⟨⟨i1, i2, i5, i7, i8, i10, i11, i12⟩, ⟨i20, i21, i22⟩, iP0, iP, iL, iZ, jP, jL⟩, ⟨⟨m0, m1, m3, m5, m9, m13, m14⟩, ⟨m17, m18, m19, m20, m21⟩, mP, mF, mL, mG, mZ, nL, nP, nF⟩, hn⟩ := id h
  have h1 := zr_mono (Nat.le_succ n) h
  obtain ⟨hc, hk, hI, hM, _⟩ := id h
  obtain ⟨rfl, y9, w9, rfl, gy⟩ := hx
  obtain ⟨rfl, rfl⟩ := hm
  refine ⟨?_, zr_Y h1 gy⟩
  rw [e2]
  exact zs_su_cong (fun d q hd hq => (zr_sr hc hI (zd_drlt hd) (by omega)).symm)
theorem zr_s_few {x1 x2 x3 : Int32} (h : zr_R n s a z t b y) (hx : zd_out (zd_few (zd_drw (s 2) x1) (s 8) x2 x3) (fun e9 => r1 = e9 ∧ u = (s, a, z, ah)) (fun k => r1 = zp_few (zp_bs (zy_G s a z k.1 k.2.1)) k.2.2 ∧ ∃ (y9 : Nat → Nat) (v9 : Int), u = (y9, a, z, v9) ∧ y9 8 = s 8 + 1 ∧ ∀ k9, k9 < 31 → k9 ≠ 8 → y9 k9 = s k9)) (hm : zd_out (zd_few (zd_drw (t 0) x1) (t 13) x2 x3) (fun e9 => r2 = e9 ∧ v = (t, b, y, h9)) (fun k => r2 = zp_few (zp_bs (fun q9 => zp_eno (zm_f t b k.1 (zp_ah (t 3) (y k.1)) q9) k.2.1)) k.2.2 ∧ v = (zx_up t 13 (t 13 + 1), b, y, h9))) : r1 = r2 ∧ zr_U (n + 1) u v := by
  obtain ⟨⟨⟨e1, e2, e10, e11, e12, e7, e8⟩, cP, cZ, cD, cL, cK, cF⟩, ⟨k5, k18, kI⟩, ⟨⟨i1, i2, i5, i7, i8, i10, i11, i12⟩, ⟨i20, i21, i22⟩, iP0, iP, iL, iZ, jP, jL⟩, ⟨⟨m0, m1, m3, m5, m9, m13, m14⟩, ⟨m17, m18, m19, m20, m21⟩, mP, mF, mL, mG, mZ, nL, nP, nF⟩, hn⟩ := id h
  have h1 := zr_mono (Nat.le_succ n) h
  obtain ⟨hc, hk, hI, hM, _⟩ := id h
  rw [e2, e8] at hx
  revert hx hm
  cases hq : zd_few (zd_drw (t 0) x1) (t 13) x2 x3 with
  | inl e9 =>
    rintro ⟨rfl, rfl⟩ ⟨rfl, rfl⟩
    exact ⟨rfl, h1⟩
  | inr k =>
    rintro ⟨rfl, y9, v9, rfl, g8, gy⟩ ⟨rfl, rfl⟩
    obtain ⟨q1, q2, q3⟩ := zd_few_r hq
    refine ⟨by rw [zr_bs hc hI (zd_drlt q1) q2], ?_⟩
    have gy2 : ∀ k9, k9 < 31 → y9 k9 = zx_up s 8 (s 8 + 1) k9 := fun k9 hk9 => by
      rw [zx_up_if]
      by_cases q : k9 = 8
      · rw [if_pos q, q]; exact g8.trans (by rw [e8])
      · rw [if_neg q]; exact gy k9 hk9 q
    refine zr_Y (s := zx_up s 8 (s 8 + 1)) ?_ gy2
    exact ⟨⟨⟨e1, e2, e10, e11, e12, e7, (congrArg (fun q => q + 1) e8)⟩, cP, cZ, cD, cL, cK, cF⟩, ⟨k5, k18, kI⟩, ⟨⟨i1, i2, i5, i7, (show s 8 + 1 ≤ 40 by omega), i10, i11, i12⟩, ⟨i20, i21, i22⟩, iP0, iP, iL, iZ, jP, jL⟩, ⟨⟨m0, m1, m3, m5, m9, (show t 13 + 1 ≤ 40 by omega), m14⟩, ⟨m17, m18, m19, m20, m21⟩, mP, mF, mL, mG, mZ, nL, nP, nF⟩, (Nat.le_succ_of_le hn)⟩
theorem zr_f_add {m d0 o0 : Nat} {c9 : Bool} {FI FO FS X Y : Nat → Nat} (h : zr_f m FI FO FS X Y) (ho : o0 < 7) :
    zr_f (m + 1) (zx_up FI m d0) (zx_up FO m o0) (zx_up FS m (zx_n c9)) (cond c9 (zx_up X d0 (X d0 ||| 2 ^ o0)) X) (cond c9 Y (zx_up Y d0 (Y d0 ||| 2 ^ o0))) := by
  intro d hd o ho2
  obtain ⟨h1, h2⟩ := h d hd o ho2
  have old : ∀ c, zp_any (fun k => decide (zx_up FI m d0 k = d) && (decide (zx_up FO m o0 k = o) && decide (zx_up FS m (zx_n c9) k = c))) m = zp_any (fun k => decide (FI k = d) && (decide (FO k = o) && decide (FS k = c))) m :=
    fun c => zp_any_cong (fun k hk => by rw [zx_up_ne _ _ (by omega), zx_up_ne _ _ (by omega), zx_up_ne _ _ (by omega)])
  rw [zp_any, zp_any, old, old, ← h1, ← h2, zx_up_eq, zx_up_eq, zx_up_eq]
  have up : ∀ W : Nat → Nat, (zx_up W d0 (W d0 ||| 2 ^ o0) d).testBit o = ((W d).testBit o || (decide (d0 = d) && decide (o0 = o))) := by
    intro W
    rw [zx_up_if]
    by_cases q : d = d0
    · subst q
      rw [if_pos rfl, Nat.testBit_or, Nat.testBit_two_pow]
      simp
    · rw [if_neg q, decide_eq_false (fun e => q e.symm)]
      simp
  cases c9
  · refine ⟨?_, ?_⟩
    · show (X d).testBit o = _
      simp [zx_n]
    · show (zx_up Y d0 (Y d0 ||| 2 ^ o0) d).testBit o = _
      rw [up]
      simp [zx_n]
  · refine ⟨?_, ?_⟩
    · show (zx_up X d0 (X d0 ||| 2 ^ o0) d).testBit o = _
      rw [up]
      simp [zx_n]
    · show (Y d).testBit o = _
      simp [zx_n]
theorem zr_s_found {x1 x2 : Int32} {c9 : Bool} (h : zr_R n s a z t b y) (hx : zd_out (zd_found (zd_drw (s 2) x1) (zd_rng 0 6 x2) (s 12)) (fun e9 => r1 = e9 ∧ u = (s, a, z, ah)) (fun k => r1 = nI (s 12 + 1) ∧ u = (zx_up s 12 (s 12 + 1), cond c9 (zx_up a 17 (zx_up (a 17) k.1 (a 17 k.1 ||| 2 ^ k.2))) (zx_up a 18 (zx_up (a 18) k.1 (a 18 k.1 ||| 2 ^ k.2))), z, ah))) (hm : zd_out (zd_found (zd_drw (t 0) x1) (zd_rng 0 6 x2) (t 9)) (fun e9 => r2 = e9 ∧ v = (t, b, y, h9)) (fun k => r2 = nI (t 9 + 1) ∧ v = (zx_up t 9 (t 9 + 1), zx_up (zx_up (zx_up b 10 (zx_up (b 10) (t 9) k.1)) 11 (zx_up (b 11) (t 9) k.2)) 12 (zx_up (b 12) (t 9) (zx_n c9)), y, h9))) : r1 = r2 ∧ zr_U (n + 1) u v := by
  obtain ⟨⟨⟨e1, e2, e10, e11, e12, e7, e8⟩, cP, cZ, cD, cL, cK, cF⟩, ⟨k5, k18, kI⟩, ⟨⟨i1, i2, i5, i7, i8, i10, i11, i12⟩, ⟨i20, i21, i22⟩, iP0, iP, iL, iZ, jP, jL⟩, ⟨⟨m0, m1, m3, m5, m9, m13, m14⟩, ⟨m17, m18, m19, m20, m21⟩, mP, mF, mL, mG, mZ, nL, nP, nF⟩, hn⟩ := id h
  have h1 := zr_mono (Nat.le_succ n) h
  obtain ⟨hc, hk, hI, hM, _⟩ := id h
  rw [e2, e12] at hx
  revert hx hm
  cases hq : zd_found (zd_drw (t 0) x1) (zd_rng 0 6 x2) (t 9) with
  | inl e9 =>
    rintro ⟨rfl, rfl⟩ ⟨rfl, rfl⟩
    exact ⟨rfl, h1⟩
  | inr k =>
    rintro ⟨rfl, rfl⟩ ⟨rfl, rfl⟩
    obtain ⟨q1, q2, q3⟩ := zd_found_r hq
    have q4 := zd_drlt q1
    have q5 : k.2 < 7 := by have := (zd_rng_some (by decide) (by decide) q2).2.2; omega
    have q6 := Nat.pow_lt_pow_right (a := 2) (by decide) q5
    have q7 : zx_n c9 < 2 := by cases c9 <;> decide
    refine ⟨rfl, ?_⟩
    have cF9 := zr_f_add (c9 := c9) (d0 := k.1) cF q5
    cases c9
    · have q8 : ∀ j, j < 9 → zx_up (a 18) k.1 (a 18 k.1 ||| 2 ^ k.2) j < 128 := fun j hj => zx_up_lt (zy_or_lt (iL k.1 q4).2.2 q6) (iL j hj).2.2
      exact ⟨⟨⟨e1, e2, e10, e11, rfl, e7, e8⟩, cP, cZ, cD, cL, cK, cF9⟩, ⟨k5, k18, kI⟩, ⟨⟨i1, i2, i5, i7, i8, i10, i11, (show t 9 + 1 ≤ 8 by omega)⟩, ⟨i20, i21, i22⟩, iP0, iP, (fun j hj => ⟨(iL j hj).1, (iL j hj).2.1, q8 j hj⟩), iZ, jP, jL⟩, ⟨⟨m0, m1, m3, m5, (show t 9 + 1 ≤ 8 by omega), m13, m14⟩, ⟨m17, m18, m19, m20, m21⟩, mP, (fun j hj => ⟨show zx_up (b 10) (t 9) k.1 j < 9 from zx_up_lt q4 (mF j hj).1, show zx_up (b 11) (t 9) k.2 j < 7 from zx_up_lt q5 (mF j hj).2.1, show zx_up (b 12) (t 9) (zx_n _) j < 2 from zx_up_lt q7 (mF j hj).2.2⟩), mL, mG, mZ, nL, nP, nF⟩, (Nat.le_succ_of_le hn)⟩
    · have q8 : ∀ j, j < 9 → zx_up (a 17) k.1 (a 17 k.1 ||| 2 ^ k.2) j < 128 := fun j hj => zx_up_lt (zy_or_lt (iL k.1 q4).2.1 q6) (iL j hj).2.1
      exact ⟨⟨⟨e1, e2, e10, e11, rfl, e7, e8⟩, cP, cZ, cD, cL, cK, cF9⟩, ⟨k5, k18, kI⟩, ⟨⟨i1, i2, i5, i7, i8, i10, i11, (show t 9 + 1 ≤ 8 by omega)⟩, ⟨i20, i21, i22⟩, iP0, iP, (fun j hj => ⟨(iL j hj).1, q8 j hj, (iL j hj).2.2⟩), iZ, jP, jL⟩, ⟨⟨m0, m1, m3, m5, (show t 9 + 1 ≤ 8 by omega), m13, m14⟩, ⟨m17, m18, m19, m20, m21⟩, mP, (fun j hj => ⟨show zx_up (b 10) (t 9) k.1 j < 9 from zx_up_lt q4 (mF j hj).1, show zx_up (b 11) (t 9) k.2 j < 7 from zx_up_lt q5 (mF j hj).2.1, show zx_up (b 12) (t 9) (zx_n _) j < 2 from zx_up_lt q7 (mF j hj).2.2⟩), mL, mG, mZ, nL, nP, nF⟩, (Nat.le_succ_of_le hn)⟩
theorem zr_s_forget (h : zr_R n s a z t b y) (hx : r1 = nI (s 12) ∧ ∃ xb : Nat → Nat → Nat, u = (zx_up s 12 0, xb, z, ah) ∧ (∀ j, j < 9 → xb 17 j = 0) ∧ (∀ j, j < 9 → xb 18 j = 0) ∧ (∀ k, k ≠ 17 → k ≠ 18 → xb k = a k)) (hm : r2 = nI (t 9) ∧ v = (zx_up t 9 0, b, y, h9)) : r1 = r2 ∧ zr_U (n + 1) u v := by
  obtain ⟨⟨⟨e1, e2, e10, e11, e12, e7, e8⟩, cP, cZ, cD, cL, cK, cF⟩, ⟨k5, k18, kI⟩, ⟨⟨i1, i2, i5, i7, i8, i10, i11, i12⟩, ⟨i20, i21, i22⟩, iP0, iP, iL, iZ, jP, jL⟩, ⟨⟨m0, m1, m3, m5, m9, m13, m14⟩, ⟨m17, m18, m19, m20, m21⟩, mP, mF, mL, mG, mZ, nL, nP, nF⟩, hn⟩ := id h
  have h1 := zr_mono (Nat.le_succ n) h
  obtain ⟨hc, hk, hI, hM, _⟩ := id h
  obtain ⟨rfl, xb, rfl, x1, x2, x3⟩ := hx
  obtain ⟨rfl, rfl⟩ := hm
  refine ⟨by rw [e12], ?_⟩
  have g0 : xb 0 = a 0 := x3 0 (by decide) (by decide)
  have g13 : xb 13 = a 13 := x3 13 (by decide) (by decide)
  have g14 : xb 14 = a 14 := x3 14 (by decide) (by decide)
  have g15 : xb 15 = a 15 := x3 15 (by decide) (by decide)
  have g16 : xb 16 = a 16 := x3 16 (by decide) (by decide)
  have g23 : xb 23 = a 23 := x3 23 (by decide) (by decide)
  have g24 : xb 24 = a 24 := x3 24 (by decide) (by decide)
  have g25 : xb 25 = a 25 := x3 25 (by decide) (by decide)
  have g26 : xb 26 = a 26 := x3 26 (by decide) (by decide)
  have g27 : xb 27 = a 27 := x3 27 (by decide) (by decide)
  have g28 : xb 28 = a 28 := x3 28 (by decide) (by decide)
  show zr_R (n + 1) _ xb z _ b y
  exact ⟨⟨⟨e1, e2, e10, e11, rfl, e7, e8⟩, (by rw [g0]; exact cP), cZ, (by rw [g14, g15]; exact cD), (by rw [g16]; exact cL), (by rw [g13]; exact cK), (fun d hd o ho => ⟨by show (xb 17 d).testBit o = false; rw [x1 d hd, Nat.zero_testBit], by show (xb 18 d).testBit o = false; rw [x2 d hd, Nat.zero_testBit]⟩)⟩, ⟨k5, k18, (by rw [g23, g24, g25, g26, g27, g28]; exact kI)⟩, ⟨⟨i1, i2, i5, i7, i8, i10, i11, (Nat.zero_le _)⟩, ⟨i20, i21, i22⟩, (by rw [g0]; exact iP0), (by rw [g13, g14, g15]; exact iP), (fun d hd => by rw [g16, x1 d hd, x2 d hd]; exact ⟨(iL d hd).1, by decide, by decide⟩), iZ, (by rw [g23, g24, g25]; exact jP), (by rw [g26, g27, g28]; exact jL)⟩, ⟨⟨m0, m1, m3, m5, (Nat.zero_le _), m13, m14⟩, ⟨m17, m18, m19, m20, m21⟩, mP, mF, mL, mG, mZ, nL, nP, nF⟩, (Nat.le_succ_of_le hn)⟩
theorem zr_s_delays {x1 : Int32} (h : zr_R n s a z t b y) (hx : r1 = zs_de (zd_drw (s 2) x1) (fun d => nI (zp_bits (zy_de s a d) 8)) ∧ ∃ (y9 : Nat → Nat) (w9 : Int), u = (y9, a, z, w9) ∧ ∀ k, k < 31 → y9 k = s k) (hm : r2 = zs_de (zd_drw (t 0) x1) (fun d => nI (zm_del t b d)) ∧ v = (t, b, y, h9)) : r1 = r2 ∧ zr_U (n + 1) u v := by
  obtain ⟨⟨⟨e1, e2, e10, e11, e12, e7, e8⟩, cP, cZ, cD, cL, cK, cF⟩, ⟨k5, k18, kI⟩, ⟨⟨i1, i2, i5, i7, i8, i10, i11, i12⟩, ⟨i20, i21, i22⟩, iP0, iP, iL, iZ, jP, jL⟩, ⟨⟨m0, m1, m3, m5, m9, m13, m14⟩, ⟨m17, m18, m19, m20, m21⟩, mP, mF, mL, mG, mZ, nL, nP, nF⟩, hn⟩ := id h
  have h1 := zr_mono (Nat.le_succ n) h
  obtain ⟨hc, hk, hI, hM, _⟩ := id h
  obtain ⟨rfl, y9, w9, rfl, gy⟩ := hx
  obtain ⟨rfl, rfl⟩ := hm
  refine ⟨?_, zr_Y h1 gy⟩
  rw [e2]
  exact zs_de_cong (fun d hd => by rw [zr_del hc hI hM (zd_drlt hd)])
theorem zr_s_who {x1 x2 : Int32} (h : zr_R n s a z t b y) (hx : r1 = zs_dq 1 (zd_per (s 11) x1) x2 (fun p9 q => zy_who (zy_whF s a z p9) q) ∧ ∃ (y9 : Nat → Nat) (w9 : Int), u = (y9, a, z, w9) ∧ ∀ k, k < 31 → y9 k = s k) (hm : r2 = zs_dq 1 (zd_per (t 5) x1) x2 (fun p9 q => zp_who (zm_who t b y p9) q) ∧ v = (t, b, y, h9)) : r1 = r2 ∧ zr_U (n + 1) u v := by
  obtain ⟨⟨⟨e1, e2, e10, e11, e12, e7, e8⟩, cP, cZ, cD, cL, cK, cF⟩, ⟨k5, k18, kI⟩, ⟨⟨i1, i2, i5, i7, i8, i10, i11, i12⟩, ⟨i20, i21, i22⟩, iP0, iP, iL, iZ, jP, jL⟩, ⟨⟨m0, m1, m3, m5, m9, m13, m14⟩, ⟨m17, m18, m19, m20, m21⟩, mP, mF, mL, mG, mZ, nL, nP, nF⟩, hn⟩ := id h
  have h1 := zr_mono (Nat.le_succ n) h
  obtain ⟨hc, hk, hI, hM, _⟩ := id h
  obtain ⟨rfl, y9, w9, rfl, gy⟩ := hx
  obtain ⟨rfl, rfl⟩ := hm
  refine ⟨?_, zr_Y h1 gy⟩
  rw [e11]
  exact zs_dq_cong (by decide) (fun d q hd _ => zr_who hc hI hM (zd_perlt m5 hd))
theorem zr_s_weeks {x1 x2 x3 : Int32} (h : zr_R n s a z t b y) (hx : zd_out (zd_weeks (s 2) x1 x2 x3) (fun e9 => r1 = e9 ∧ u = (s, a, z, ah)) (fun k => r1 = zy_wks s a z k.1 k.2.1 k.2.2 ∧ ∃ (y9 : Nat → Nat) (v9 : Int), u = (y9, a, z, v9) ∧ ∀ k9, k9 < 31 → y9 k9 = s k9)) (hm : zd_out (zd_weeks (t 0) x1 x2 x3) (fun e9 => r2 = e9 ∧ v = (t, b, y, h9)) (fun k => r2 = zp_wks t b y k.1 k.2.1 k.2.2 ∧ v = (zx_up t 16 (zp_sq k.2.1 (7 * (k.1 * 9))), b, y, h9))) : r1 = r2 ∧ zr_U (n + 1) u v := by
  obtain ⟨⟨⟨e1, e2, e10, e11, e12, e7, e8⟩, cP, cZ, cD, cL, cK, cF⟩, ⟨k5, k18, kI⟩, ⟨⟨i1, i2, i5, i7, i8, i10, i11, i12⟩, ⟨i20, i21, i22⟩, iP0, iP, iL, iZ, jP, jL⟩, ⟨⟨m0, m1, m3, m5, m9, m13, m14⟩, ⟨m17, m18, m19, m20, m21⟩, mP, mF, mL, mG, mZ, nL, nP, nF⟩, hn⟩ := id h
  have h1 := zr_mono (Nat.le_succ n) h
  obtain ⟨hc, hk, hI, hM, _⟩ := id h
  rw [e2] at hx
  revert hx hm
  cases hq : zd_weeks (t 0) x1 x2 x3 with
  | inl e9 =>
    rintro ⟨rfl, rfl⟩ ⟨rfl, rfl⟩
    exact ⟨rfl, h1⟩
  | inr k =>
    rintro ⟨rfl, y9, v9, rfl, gy⟩ ⟨rfl, rfl⟩
    refine ⟨zr_wks hc hI, ?_⟩
    refine zr_Y (s := s) ?_ gy
    exact ⟨⟨⟨e1, e2, e10, e11, e12, e7, e8⟩, cP, cZ, cD, cL, cK, cF⟩, ⟨k5, k18, kI⟩, ⟨⟨i1, i2, i5, i7, i8, i10, i11, i12⟩, ⟨i20, i21, i22⟩, iP0, iP, iL, iZ, jP, jL⟩, ⟨⟨m0, m1, m3, m5, m9, m13, m14⟩, ⟨m17, m18, m19, m20, m21⟩, mP, mF, mL, mG, mZ, nL, nP, nF⟩, (Nat.le_succ_of_le hn)⟩
theorem zr_s_image (h : zr_R n s a z t b y) (hx : zd_out (zd_img (s 2)) (fun e9 => r1 = e9 ∧ u = (s, a, z, ah)) (fun _ => r1 = nI (s 11) ∧ ∃ xb : Nat → Nat → Nat, u = ((zx_up (zx_up (zx_up (zx_up s 20 (s 10)) 21 (s 11)) 22 (s 12)) 5 1), xb, z, ah) ∧ (∀ j, j < 6 → xb 23 j = a 13 j) ∧ (∀ j, j < 6 → xb 24 j = a 14 j) ∧ (∀ j, j < 6 → xb 25 j = a 15 j) ∧ (∀ j, j < 9 → xb 26 j = a 16 j) ∧ (∀ j, j < 9 → xb 27 j = a 17 j) ∧ (∀ j, j < 9 → xb 28 j = a 18 j) ∧ (∀ k, k ≠ 23 → k ≠ 24 → k ≠ 25 → k ≠ 26 → k ≠ 27 → k ≠ 28 → xb k = a k))) (hm : zd_out (zd_img (t 0)) (fun e9 => r2 = e9 ∧ v = (t, b, y, h9)) (fun _ => r2 = nI (t 5) ∧ ∃ mb : Nat → Nat → Nat, v = ((zx_up (zx_up (zx_up (zx_up (zx_up t 17 1) 18 (t 1)) 19 (t 3)) 20 (t 5)) 21 (t 9)), mb, y, h9) ∧ (∀ j, j < 9 → mb 22 j = b 4 j) ∧ (∀ j, j < 6 → mb 23 j = b 7 j ∧ mb 24 j = b 8 j) ∧ (∀ j, j < 8 → mb 25 j = b 10 j ∧ mb 26 j = b 11 j ∧ mb 27 j = b 12 j) ∧ (∀ k, k < 22 → mb k = b k))) : r1 = r2 ∧ zr_U (n + 1) u v := by
  obtain ⟨⟨⟨e1, e2, e10, e11, e12, e7, e8⟩, cP, cZ, cD, cL, cK, cF⟩, ⟨k5, k18, kI⟩, ⟨⟨i1, i2, i5, i7, i8, i10, i11, i12⟩, ⟨i20, i21, i22⟩, iP0, iP, iL, iZ, jP, jL⟩, ⟨⟨m0, m1, m3, m5, m9, m13, m14⟩, ⟨m17, m18, m19, m20, m21⟩, mP, mF, mL, mG, mZ, nL, nP, nF⟩, hn⟩ := id h
  have h1 := zr_mono (Nat.le_succ n) h
  obtain ⟨hc, hk, hI, hM, _⟩ := id h
  rw [e2] at hx
  revert hx hm
  cases hq : zd_img (t 0) with
  | inl e9 =>
    rintro ⟨rfl, rfl⟩ ⟨rfl, rfl⟩
    exact ⟨rfl, h1⟩
  | inr k =>
    rintro ⟨rfl, xb, rfl, x1, x2, x3, x4, x5, x6, x7⟩ ⟨rfl, mb, rfl, y1, y2, y3, y4⟩
    refine ⟨by rw [e11], ?_⟩
    have g0 : xb 0 = a 0 := x7 0 (by decide) (by decide) (by decide) (by decide) (by decide) (by decide)
    have g13 : xb 13 = a 13 := x7 13 (by decide) (by decide) (by decide) (by decide) (by decide) (by decide)
    have g14 : xb 14 = a 14 := x7 14 (by decide) (by decide) (by decide) (by decide) (by decide) (by decide)
    have g15 : xb 15 = a 15 := x7 15 (by decide) (by decide) (by decide) (by decide) (by decide) (by decide)
    have g16 : xb 16 = a 16 := x7 16 (by decide) (by decide) (by decide) (by decide) (by decide) (by decide)
    have g17 : xb 17 = a 17 := x7 17 (by decide) (by decide) (by decide) (by decide) (by decide) (by decide)
    have g18 : xb 18 = a 18 := x7 18 (by decide) (by decide) (by decide) (by decide) (by decide) (by decide)
    have f4 : mb 4 = b 4 := y4 4 (by decide)
    have f6 : mb 6 = b 6 := y4 6 (by decide)
    have f7 : mb 7 = b 7 := y4 7 (by decide)
    have f8 : mb 8 = b 8 := y4 8 (by decide)
    have f10 : mb 10 = b 10 := y4 10 (by decide)
    have f11 : mb 11 = b 11 := y4 11 (by decide)
    have f12 : mb 12 = b 12 := y4 12 (by decide)
    have f15 : mb 15 = b 15 := y4 15 (by decide)
    show zr_R (n + 1) _ xb z _ mb y
    exact ⟨⟨⟨e1, e2, e10, e11, e12, e7, e8⟩, (by rw [g0, f15]; exact cP), cZ, (by rw [g14, g15, f7, f8]; exact cD), (by rw [g16, f4]; exact cL), (by rw [g13, f6]; exact cK), (by rw [g17, g18, f10, f11, f12]; exact cF)⟩, ⟨⟨fun _ => ⟨Nat.one_ne_zero, rfl⟩, fun _ => Nat.one_ne_zero⟩, (Nat.le_refl (t 1)), (fun _ => ⟨⟨e10, e11, e12⟩, fun p9 hp => ⟨by rw [x2 p9 hp, (y2 p9 hp).1]; exact (cD p9 hp).1, by rw [x3 p9 hp, (y2 p9 hp).2]; exact (cD p9 hp).2⟩, fun d hd => by rw [x4 d hd, y1 d hd]; exact cL d hd, Nat.le_refl (t 5), fun p9 hp => by rw [x1 p9 (Nat.lt_of_lt_of_le hp m5), f6]; exact cK p9 hp, fun d hd o ho => by rw [x5 d hd, x6 d hd]; refine ⟨(cF d hd o ho).1.trans (zp_any_cong (fun k hk => ?_)), (cF d hd o ho).2.trans (zp_any_cong (fun k hk => ?_))⟩ <;> (obtain ⟨w1, w2, w3⟩ := y3 k (Nat.lt_of_lt_of_le hk m9); rw [w1, w2, w3])⟩)⟩, ⟨⟨i1, i2, (Nat.le_refl 1), i7, i8, i10, i11, i12⟩, ⟨i10, i11, i12⟩, (by rw [g0]; exact iP0), (by rw [g13, g14, g15]; exact iP), (by rw [g16, g17, g18]; exact iL), iZ, (fun p9 hp => by rw [x1 p9 hp, x2 p9 hp, x3 p9 hp]; exact iP p9 hp), (fun d hd => by rw [x4 d hd, x5 d hd, x6 d hd]; exact iL d hd)⟩, ⟨⟨m0, m1, m3, m5, m9, m13, m14⟩, ⟨(Nat.le_refl 1), m1, m3, m5, m9⟩, (by rw [f6, f7, f8]; exact mP), (by rw [f10, f11, f12]; exact mF), (by rw [f4]; exact mL), (by rw [f15]; exact mG), mZ, (fun d hd => by rw [y1 d hd]; exact mL d hd), (fun p9 hp => by rw [(y2 p9 hp).1, (y2 p9 hp).2]; exact (mP p9 hp).2), (fun k hk => by rw [(y3 k hk).1, (y3 k hk).2.1, (y3 k hk).2.2]; exact mF k hk)⟩, (Nat.le_succ_of_le hn)⟩
theorem zr_s_restore (h : zr_R n s a z t b y) (hx : zd_out (zd_img (s 5)) (fun e9 => r1 = e9 ∧ u = (s, a, z, ah)) (fun _ => r1 = nI (s 21) ∧ ∃ xb : Nat → Nat → Nat, u = ((zx_up (zx_up (zx_up s 10 (s 20)) 11 (s 21)) 12 (s 22)), xb, z, ah) ∧ (∀ j, j < 6 → xb 13 j = a 23 j) ∧ (∀ j, j < 6 → xb 14 j = a 24 j) ∧ (∀ j, j < 6 → xb 15 j = a 25 j) ∧ (∀ j, j < 9 → xb 16 j = a 26 j) ∧ (∀ j, j < 9 → xb 17 j = a 27 j) ∧ (∀ j, j < 9 → xb 18 j = a 28 j) ∧ (∀ k, k ≠ 13 → k ≠ 14 → k ≠ 15 → k ≠ 16 → k ≠ 17 → k ≠ 18 → xb k = a k))) (hm : zd_out (zd_rst (t 17) (t 18) (t 1)) (fun e9 => r2 = e9 ∧ v = (t, b, y, h9)) (fun _ => r2 = nI (t 20) ∧ ∃ mb : Nat → Nat → Nat, v = ((zx_up (zx_up (zx_up t 3 (t 19)) 5 (t 20)) 9 (t 21)), mb, y, h9) ∧ (∀ j, j < 9 → mb 4 j = b 22 j) ∧ (∀ j, j < 6 → mb 7 j = b 23 j ∧ mb 8 j = b 24 j) ∧ (∀ j, j < 8 → mb 10 j = b 25 j ∧ mb 11 j = b 26 j ∧ mb 12 j = b 27 j) ∧ (∀ k, k ≠ 4 → k ≠ 7 → k ≠ 8 → k ≠ 10 → k ≠ 11 → k ≠ 12 → mb k = b k))) : r1 = r2 ∧ zr_U (n + 1) u v := by
  obtain ⟨⟨⟨e1, e2, e10, e11, e12, e7, e8⟩, cP, cZ, cD, cL, cK, cF⟩, ⟨k5, k18, kI⟩, ⟨⟨i1, i2, i5, i7, i8, i10, i11, i12⟩, ⟨i20, i21, i22⟩, iP0, iP, iL, iZ, jP, jL⟩, ⟨⟨m0, m1, m3, m5, m9, m13, m14⟩, ⟨m17, m18, m19, m20, m21⟩, mP, mF, mL, mG, mZ, nL, nP, nF⟩, hn⟩ := id h
  have h1 := zr_mono (Nat.le_succ n) h
  obtain ⟨hc, hk, hI, hM, _⟩ := id h
  have eq0 : zd_img (s 5) = zd_rst (t 17) (t 18) (t 1) := by
    unfold zd_img zd_rst
    by_cases q : s 5 = 0
    · rw [if_pos q, if_neg (fun w => k5.mpr w q)]
    · rw [if_neg q, if_pos (k5.mp q)]
  rw [eq0] at hx
  revert hx hm
  cases hq : zd_rst (t 17) (t 18) (t 1) with
  | inl e9 =>
    rintro ⟨rfl, rfl⟩ ⟨rfl, rfl⟩
    exact ⟨rfl, h1⟩
  | inr k =>
    rintro ⟨rfl, xb, rfl, x1, x2, x3, x4, x5, x6, x7⟩ ⟨rfl, mb, rfl, y1, y2, y3, y4⟩
    have q5 : s 5 ≠ 0 := fun q => by
      rw [show zd_img (s 5) = .inl (-103) from if_pos q, hq] at eq0
      cases eq0
    obtain ⟨⟨w1, w2, w3⟩, wD, wL, w20, wK, wF⟩ := kI q5
    refine ⟨by rw [w2], ?_⟩
    have g0 : xb 0 = a 0 := x7 0 (by decide) (by decide) (by decide) (by decide) (by decide) (by decide)
    have g23 : xb 23 = a 23 := x7 23 (by decide) (by decide) (by decide) (by decide) (by decide) (by decide)
    have g24 : xb 24 = a 24 := x7 24 (by decide) (by decide) (by decide) (by decide) (by decide) (by decide)
    have g25 : xb 25 = a 25 := x7 25 (by decide) (by decide) (by decide) (by decide) (by decide) (by decide)
    have g26 : xb 26 = a 26 := x7 26 (by decide) (by decide) (by decide) (by decide) (by decide) (by decide)
    have g27 : xb 27 = a 27 := x7 27 (by decide) (by decide) (by decide) (by decide) (by decide) (by decide)
    have g28 : xb 28 = a 28 := x7 28 (by decide) (by decide) (by decide) (by decide) (by decide) (by decide)
    have f6 : mb 6 = b 6 := y4 6 (by decide) (by decide) (by decide) (by decide) (by decide) (by decide)
    have f15 : mb 15 = b 15 := y4 15 (by decide) (by decide) (by decide) (by decide) (by decide) (by decide)
    have f22 : mb 22 = b 22 := y4 22 (by decide) (by decide) (by decide) (by decide) (by decide) (by decide)
    have f23 : mb 23 = b 23 := y4 23 (by decide) (by decide) (by decide) (by decide) (by decide) (by decide)
    have f24 : mb 24 = b 24 := y4 24 (by decide) (by decide) (by decide) (by decide) (by decide) (by decide)
    have f25 : mb 25 = b 25 := y4 25 (by decide) (by decide) (by decide) (by decide) (by decide) (by decide)
    have f26 : mb 26 = b 26 := y4 26 (by decide) (by decide) (by decide) (by decide) (by decide) (by decide)
    have f27 : mb 27 = b 27 := y4 27 (by decide) (by decide) (by decide) (by decide) (by decide) (by decide)
    show zr_R (n + 1) _ xb z _ mb y
    exact ⟨⟨⟨e1, e2, w1, w2, w3, e7, e8⟩, (by rw [g0, f15]; exact cP), cZ, (fun p9 hp => ⟨by rw [x2 p9 hp, (y2 p9 hp).1]; exact (wD p9 hp).1, by rw [x3 p9 hp, (y2 p9 hp).2]; exact (wD p9 hp).2⟩), (fun d hd => by rw [x4 d hd, y1 d hd]; exact wL d hd), (fun p9 hp => by rw [x1 p9 (Nat.lt_of_lt_of_le hp m20), f6]; exact wK p9 hp), (fun d hd o ho => by rw [x5 d hd, x6 d hd]; refine ⟨(wF d hd o ho).1.trans (zp_any_cong (fun k hk => ?_)), (wF d hd o ho).2.trans (zp_any_cong (fun k hk => ?_))⟩ <;> (obtain ⟨v1, v2, v3⟩ := y3 k (Nat.lt_of_lt_of_le hk m21); rw [v1, v2, v3]))⟩, ⟨k5, k18, (fun _ => ⟨⟨w1, w2, w3⟩, by rw [g24, g25, f23, f24]; exact wD, by rw [g26, f22]; exact wL, Nat.le_refl (t 20), by rw [g23, f6]; exact wK, by rw [g27, g28, f25, f26, f27]; exact wF⟩)⟩, ⟨⟨i1, i2, i5, i7, i8, i20, i21, i22⟩, ⟨i20, i21, i22⟩, (by rw [g0]; exact iP0), (fun p9 hp => by rw [x1 p9 hp, x2 p9 hp, x3 p9 hp]; exact jP p9 hp), (fun d hd => by rw [x4 d hd, x5 d hd, x6 d hd]; exact jL d hd), iZ, (by rw [g23, g24, g25]; exact jP), (by rw [g26, g27, g28]; exact jL)⟩, ⟨⟨m0, m1, m19, m20, m21, m13, m14⟩, ⟨m17, m18, m19, m20, m21⟩, (fun p9 hp => by rw [f6, (y2 p9 hp).1, (y2 p9 hp).2]; exact ⟨(mP p9 hp).1, nP p9 hp⟩), (fun k hk => by rw [(y3 k hk).1, (y3 k hk).2.1, (y3 k hk).2.2]; exact nF k hk), (fun d hd => by rw [y1 d hd]; exact nL d hd), (by rw [f15]; exact mG), mZ, (by rw [f22]; exact nL), (by rw [f23, f24]; exact nP), (by rw [f25, f26, f27]; exact nF)⟩, (Nat.le_succ_of_le hn)⟩
theorem zr_s_count {x1 : Int32} (h : zr_R n s a z t b y) (hx : r1 = zs_hm x1 (zy_hm s a z) ∧ ∃ (y9 : Nat → Nat) (w9 : Int), u = (y9, a, z, w9) ∧ ∀ k, k < 31 → y9 k = s k) (hm : r2 = zs_hm x1 (zm_hm t b y) ∧ v = (t, b, y, h9)) : r1 = r2 ∧ zr_U (n + 1) u v := by
  obtain ⟨⟨⟨e1, e2, e10, e11, e12, e7, e8⟩, cP, cZ, cD, cL, cK, cF⟩, ⟨k5, k18, kI⟩, ⟨⟨i1, i2, i5, i7, i8, i10, i11, i12⟩, ⟨i20, i21, i22⟩, iP0, iP, iL, iZ, jP, jL⟩, ⟨⟨m0, m1, m3, m5, m9, m13, m14⟩, ⟨m17, m18, m19, m20, m21⟩, mP, mF, mL, mG, mZ, nL, nP, nF⟩, hn⟩ := id h
  have h1 := zr_mono (Nat.le_succ n) h
  obtain ⟨hc, hk, hI, hM, _⟩ := id h
  obtain ⟨rfl, y9, w9, rfl, gy⟩ := hx
  obtain ⟨rfl, rfl⟩ := hm
  refine ⟨?_, zr_Y h1 gy⟩
  unfold zs_hm
  split
  · rfl
  · rw [zr_hm hc hI]
theorem zr_s_digest {d1 d2 : Int64} (h : zr_R n s a z t b y) (hx : d1 = zy_dig s a z ∧ ∃ (y9 : Nat → Nat) (w9 : Int), u = (y9, a, z, w9) ∧ ∀ k, k < 31 → y9 k = s k) (hm : d2 = zm_dig t b y ∧ v = (t, b, y, d2)) : d1 = d2 ∧ zr_U (n + 1) u v := by
  obtain ⟨⟨⟨e1, e2, e10, e11, e12, e7, e8⟩, cP, cZ, cD, cL, cK, cF⟩, ⟨k5, k18, kI⟩, ⟨⟨i1, i2, i5, i7, i8, i10, i11, i12⟩, ⟨i20, i21, i22⟩, iP0, iP, iL, iZ, jP, jL⟩, ⟨⟨m0, m1, m3, m5, m9, m13, m14⟩, ⟨m17, m18, m19, m20, m21⟩, mP, mF, mL, mG, mZ, nL, nP, nF⟩, hn⟩ := id h
  have h1 := zr_mono (Nat.le_succ n) h
  obtain ⟨hc, hk, hI, hM, _⟩ := id h
  obtain ⟨rfl, y9, w9, rfl, gy⟩ := hx
  obtain ⟨rfl, rfl⟩ := hm
  exact ⟨(zr_dig hc hI hM).symm, zr_Y h1 gy⟩
end ZST
