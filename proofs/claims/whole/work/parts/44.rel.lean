/-! the two states, side by side -/
def zr_c (s : Nat → Nat) (a : Nat → Nat → Nat) (z : Nat → Int) (t : Nat → Nat) (b : Nat → Nat → Nat) (y : Nat → Int) : Prop :=
  (s 1 = t 14 ∧ s 2 = t 0 ∧ s 10 = t 3 ∧ s 11 = t 5 ∧ s 12 = t 9 ∧ s 7 = t 1 ∧ s 8 = t 13) ∧
  (∀ k, k < 12 → a 0 k = b 15 k) ∧ (∀ d, d < 9 → z d = y d) ∧ (∀ p, p < 6 → a 14 p = b 7 p ∧ a 15 p = b 8 p) ∧ (∀ d, d < 9 → a 16 d = b 4 d) ∧ (∀ p, p < t 5 → a 13 p = b 6 p) ∧ zr_f (t 9) (b 10) (b 11) (b 12) (a 17) (a 18)
def zr_k (s : Nat → Nat) (a : Nat → Nat → Nat) (t : Nat → Nat) (b : Nat → Nat → Nat) : Prop :=
  (s 5 ≠ 0 ↔ t 17 ≠ 0 ∧ t 18 = t 1) ∧ t 18 ≤ t 1 ∧
  (s 5 ≠ 0 → (s 20 = t 19 ∧ s 21 = t 20 ∧ s 22 = t 21) ∧ (∀ p, p < 6 → a 24 p = b 23 p ∧ a 25 p = b 24 p) ∧ (∀ d, d < 9 → a 26 d = b 22 d) ∧ t 20 ≤ t 5 ∧ (∀ p, p < t 20 → a 23 p = b 6 p) ∧ zr_f (t 21) (b 25) (b 26) (b 27) (a 27) (a 28))
def zr_R (n : Nat) (s : Nat → Nat) (a : Nat → Nat → Nat) (z : Nat → Int) (t : Nat → Nat) (b : Nat → Nat → Nat) (y : Nat → Int) : Prop :=
  zr_c s a z t b y ∧ zr_k s a t b ∧ zy_I s a z ∧ zm_I t b y ∧ t 1 ≤ n
/-! the questions -/
section ZRQ
variable {s : Nat → Nat} {a : Nat → Nat → Nat} {z : Nat → Int} {t : Nat → Nat} {b : Nat → Nat → Nat} {y : Nat → Int}
theorem zr_put {d w : Nat} (hc : zr_c s a z t b y) (hI : zy_I s a z) : (zy_Em s a 99 d &&& (127 ^^^ w)) ||| (zy_Tm s a 99 d &&& w) = zp_put (t 5) (b 6) (b 7) (b 8) d w := by
  obtain ⟨⟨e1, e2, e10, e11, e12, e7, e8⟩, cP, cZ, cD, cL, cK, cF⟩ := hc
  obtain ⟨⟨i1, i2, i5, i7, i8, i10, i11, i12⟩, _⟩ := hI
  unfold zy_Em zy_Tm
  rw [zq_put (d := d) (K := a 13) (D := a 14) (O := a 15) (fun k hk => by rw [decide_eq_false (show ¬ k = 99 by omega)]; rfl), e11]
  exact zp_put_cong (fun k hk => ⟨cK k hk, (cD k (by omega)).1, (cD k (by omega)).2⟩)
theorem zr_fm {d q : Nat} {ah : Int} (hc : zr_c s a z t b y) (hI : zy_I s a z) : zm_f t b d ah q = zy_f (zy_Em s a 99 d) (zy_Tm s a 99 d) q ah := by
  funext w
  unfold zm_f zy_f
  rw [zr_put hc hI]
theorem zr_ah {d : Nat} (hc : zr_c s a z t b y) (hd : d < 9) : zp_ah (t 3) (y d) = zp_ah (s 10) (z d) := by
  obtain ⟨⟨e1, e2, e10, e11, e12, e7, e8⟩, cP, cZ, cD, cL, cK, cF⟩ := hc
  rw [e10, cZ d hd]
theorem zr_F {d : Nat} (hc : zr_c s a z t b y) (hI : zy_I s a z) (hd : d < 9) : zm_F t b y d = zy_F s a z 99 d := by
  unfold zm_F zy_F
  rw [zr_ah hc hd, zr_fm hc hI, hc.2.2.2.2.1 d hd]
theorem zr_hA {d : Nat} (hI : zy_I s a z) (hd : d < 9) : ∀ w, w < 128 → (zp_ag (zy_F s a z 99 d) w = true ↔ zq_ok (zy_h (zy_F s a z 99 d) (zp_ah (s 10) (z d))) (zy_l (zy_F s a z 99 d) (zp_ah (s 10) (z d))) w 7) := by
  intro w hw
  have iL := hI.2.2.2.2.1
  exact zq_ag (zy_Em_lt _ _ _ _) (zy_Tm_lt _ _ _ _) (iL d hd).1 hw
theorem zr_hh {d e : Nat} : zy_h (zy_F s a z e d) (zp_ah (s 10) (z d)) < 128 ∧ zy_l (zy_F s a z e d) (zp_ah (s 10) (z d)) < 128 := ⟨(zy_hls _ _ _ _).1, (zy_hls _ _ _ _).2.1⟩
theorem zr_dn {d q : Nat} (hc : zr_c s a z t b y) (hI : zy_I s a z) (hd : d < 9) : zm_dn t b y d q = zy_dn s a z d q := by
  have hF := zr_F hc hI hd
  have hA := zr_hA hI hd
  obtain ⟨h1, h2⟩ := zr_hh (s := s) (a := a) (z := z) (d := d) (e := 99)
  have e1 := zr_ah hc hd
  have e2 := zq_nag h1 h2 hA
  have e3 := zq_lst h1 h2 hA
  have e4 := zq_can (E := zy_Em s a 99 d) (T := zy_Tm s a 99 d) (q := a 16 d) (ah := zp_ah (s 10) (z d)) (zy_Em_lt _ _ _ _) (zy_Tm_lt _ _ _ _) (hI.2.2.2.2.1 d hd).1
  obtain ⟨⟨_, _, e10, e11, _, _, _⟩, cP, cZ, cD, cL, cK, cF⟩ := hc
  obtain ⟨⟨i1, i2, i5, i7, i8, i10, i11, i12⟩, _⟩ := hI
  unfold zm_dn zy_dn
  rw [hF, e1]
  split
  · rw [cZ d hd]
  · split
    · rfl
    · split
      · rw [e11]
        exact congrArg nI (zp_bits_cong (fun k hk => by rw [(cD k (by omega)).1]))
      · split
        · rw [cL d hd]
        · split
          · exact e2
          · split
            · exact e4
            · exact e3
theorem zr_sr {d o : Nat} (hc : zr_c s a z t b y) (hI : zy_I s a z) (hd : d < 9) (ho : o < 7) : zp_sur (zm_F t b y d) o = zy_sr s a z d o := by
  obtain ⟨h1, h2⟩ := zr_hh (s := s) (a := a) (z := z) (d := d) (e := 99)
  rw [zr_F hc hI hd]
  exact zq_sur h1 h2 (zr_hA hI hd) ho
theorem zr_ag {d w : Nat} (hc : zr_c s a z t b y) (hI : zy_I s a z) (hd : d < 9) (hw : w < 128) : zp_ag (zm_F t b y d) w = decide (zy_F s a z 99 d w = w) := by
  rw [zr_F hc hI hd, Bool.eq_iff_iff, zq_ag1, decide_eq_true_iff]
  constructor
  · intro h; exact (zq_eq hw (zy_F_lt _ _ _ _ _ _) h).symm
  · intro h i _; rw [h]
theorem zr_any {d q : Nat} (hc : zr_c s a z t b y) (hI : zy_I s a z) (hd : d < 9) (hq : q < 128) : zp_any (zp_ag (zm_f t b d (zp_ah (t 3) (y d)) q)) 128 = decide (zy_s (zy_f (zy_Em s a 99 d) (zy_Tm s a 99 d) q (zp_ah (s 10) (z d))) (zp_ah (s 10) (z d)) = 0) := by
  rw [zr_ah hc hd, zr_fm hc hI]
  exact zq_any (zy_hls _ _ _ _).1 (zy_hls _ _ _ _).2.1 (fun w hw => zq_ag (zy_Em_lt _ _ _ _) (zy_Tm_lt _ _ _ _) hq hw)
theorem zr_G {d t9 q : Nat} (hc : zr_c s a z t b y) (hI : zy_I s a z) (hd : d < 9) (ht : t9 < 128) (hq : q < 128) : zp_eno (zm_f t b d (zp_ah (t 3) (y d)) q) t9 = zy_G s a z d t9 q := by
  rw [zr_ah hc hd, zr_fm hc hI]
  exact zq_eno (zy_hls _ _ _ _).1 (zy_hls _ _ _ _).2.1 (fun w hw => zq_ag (zy_Em_lt _ _ _ _) (zy_Tm_lt _ _ _ _) hq hw) ht
theorem zr_bs {d t9 : Nat} (hc : zr_c s a z t b y) (hI : zy_I s a z) (hd : d < 9) (ht : t9 < 128) : zp_bs (fun q9 => zp_eno (zm_f t b d (zp_ah (t 3) (y d)) q9) t9) = zp_bs (zy_G s a z d t9) := by
  rw [zp_bs_eq, zp_bs_eq]
  exact zp_bst_cong (fun k hk => zr_G hc hI hd ht hk)
theorem zr_hF (hm : zm_I t b y) : ∀ k, k < t 9 → b 11 k < 7 ∧ b 12 k < 2 := by
  intro k hk
  obtain ⟨⟨_, _, _, _, i9, _, _⟩, _, _, iF, _⟩ := hm
  exact (iF k (by omega)).2
theorem zr_del {d : Nat} (hc : zr_c s a z t b y) (hI : zy_I s a z) (hm : zm_I t b y) (hd : d < 9) : zm_del t b d = zp_bits (zy_de s a d) 8 := by
  unfold zm_del
  refine zp_bits_cong (fun j hj => ?_)
  have iL := (hI.2.2.2.2.1 d hd)
  rw [zp_anb_eq, zr_fm hc hI, hc.2.2.2.2.1 d hd |>.symm]
  unfold zy_de
  exact zq_al (zy_hls _ _ _ _).1 (zy_hls _ _ _ _).2.1 iL.2.1 iL.2.2 (fun w hw => zq_ag (zy_Em_lt _ _ _ _) (zy_Tm_lt _ _ _ _) iL.1 hw) (fun w hw => zr_fd hc.2.2.2.2.2.2 (zr_hF hm) hd)
theorem zr_whF {p c : Nat} (hc : zr_c s a z t b y) (hI : zy_I s a z) (hm : zm_I t b y) (hp : p < t 5) : zm_who t b y p c = zy_whF s a z p c := by
  have hc0 := hc
  obtain ⟨⟨e1, e2, e10, e11, e12, e7, e8⟩, cP, cZ, cD, cL, cK, cF⟩ := hc
  have hI0 := hI
  obtain ⟨⟨i1, i2, i5, i7, i8, i10, i11, i12⟩, _, _, iP, iL, _⟩ := hI
  have hp6 : p < 6 := by omega
  have hd : a 14 p < 9 := (iP p hp6).2.1
  have eD : b 7 p = a 14 p := ((cD p hp6).1).symm
  have eF : zm_f t (zm_k b p c) (a 14 p) (zp_ah (t 3) (y (a 14 p))) (b 4 (a 14 p)) = zy_f (zy_Em s a p (a 14 p) ||| zp_E (c / 7) (c % 7)) (zy_Tm s a p (a 14 p) ||| zp_T (c / 7) (c % 7)) (a 16 (a 14 p)) (zp_ah (s 10) (z (a 14 p))) := by
    rw [zr_ah hc0 hd, ← cL _ hd]
    funext w
    show zp_sh (zp_put (t 5) (zx_up (b 6) p (c / 7)) (b 7) (zx_up (b 8) p (c % 7)) (a 14 p) w ||| a 16 (a 14 p)) _ = zp_sh (_ ||| a 16 (a 14 p)) _
    have : zp_put (t 5) (zx_up (b 6) p (c / 7)) (b 7) (zx_up (b 8) p (c % 7)) (a 14 p) w = zp_put (s 11) (zx_up (a 13) p (c / 7)) (a 14) (zx_up (a 15) p (c % 7)) (a 14 p) w := by
      rw [e11]
      refine zp_put_cong (fun k hk => ?_)
      refine ⟨?_, ((cD k (by omega)).1).symm, ?_⟩
      · rw [zx_up_if, zx_up_if, cK k hk]
      · rw [zx_up_if, zx_up_if, (cD k (by omega)).2]
    rw [this]
    unfold zy_Em zy_Tm
    rw [zq_put1 (K := a 13) (D := a 14) (O := a 15) (d := a 14 p) (n := s 11) (p := p) (by omega) rfl]
  unfold zm_who zy_whF zy_can
  rw [zp_anb_eq, eD, eF]
  have iL9 := iL (a 14 p) hd
  have hE : zy_Em s a p (a 14 p) ||| zp_E (c / 7) (c % 7) < 128 := zy_or_lt (zy_Em_lt _ _ _ _) (zp_E_lt _ _)
  have hT : zy_Tm s a p (a 14 p) ||| zp_T (c / 7) (c % 7) < 128 := zy_or_lt (zy_Tm_lt _ _ _ _) (zp_T_lt _ _)
  exact zq_al (zy_hls _ _ _ _).1 (zy_hls _ _ _ _).2.1 iL9.2.1 iL9.2.2 (fun w hw => zq_ag hE hT iL9.1 hw) (fun w hw => zr_fd cF (zr_hF hm) hd)
theorem zr_who {p q : Nat} (hc : zr_c s a z t b y) (hI : zy_I s a z) (hm : zm_I t b y) (hp : p < t 5) : zy_who (zy_whF s a z p) q = zp_who (zm_who t b y p) q := zp_who_eq (fun c _ => zr_whF hc hI hm hp) q
theorem zp_lq_lt (sd k : Nat) : zp_lq sd k < 128 := zp_bits_lt _ 7
theorem zr_wks {m sd q : Nat} (hc : zr_c s a z t b y) (hI : zy_I s a z) : zy_wks s a z m sd q = zp_wks t b y m sd q := by
  unfold zy_wks zp_wks
  rw [zp_cnt_cong (n := m * 9) (g := fun k9 => !zp_wk t b y sd k9) (fun k _ => by
    have hd : k % 9 < 9 := Nat.mod_lt _ (by decide)
    unfold zy_wk zp_wk
    rw [zr_any hc hI hd (zp_lq_lt sd k)])]
theorem zr_hm {q : Nat} (hc : zr_c s a z t b y) (hI : zy_I s a z) : zm_hm t b y q = zy_hm s a z q := by
  have hc0 := hc
  obtain ⟨⟨e1, e2, e10, e11, e12, e7, e8⟩, cP, cZ, cD, cL, cK, cF⟩ := hc
  have e : zm_ad t b y = zy_ad s a z := by
    unfold zm_ad zy_ad
    rw [e2, zp_cnt_cong (n := 9) (g := fun d9 => decide (zy_s (zy_F s a z 99 d9) (zp_ah (s 10) (z d9)) = 0)) (fun d hd => by
      have iL := hI.2.2.2.2.1 d hd
      have := zr_any (q := b 4 d) hc0 hI hd (by rw [← cL d hd]; exact iL.1)
      unfold zm_F
      rw [this]
      unfold zy_F
      rw [cL d hd])]
  unfold zm_hm zy_hm
  rw [e, e1, e10, e11, e12, e7, e8, zp_sum_cong (f := fun d9 => zp_pc (b 4 d9)) (g := fun d9 => zp_pc (a 16 d9)) (n := 9) (fun d hd => by rw [cL d hd])]
theorem zr_dig (hc : zr_c s a z t b y) (hI : zy_I s a z) (hm : zm_I t b y) : zm_dig t b y = zy_dig s a z := by
  have hc0 := hc
  obtain ⟨⟨e1, e2, e10, e11, e12, e7, e8⟩, cP, cZ, cD, cL, cK, cF⟩ := hc
  have hI0 := hI
  obtain ⟨⟨i1, i2, i5, i7, i8, i10, i11, i12⟩, _⟩ := hI
  unfold zm_dig zy_dig
  rw [e1, e2, e11]
  refine zp_fo_cong ?_ (fun q _ h => by
    have : zm_hm t b y = zy_hm s a z := funext (fun q => zr_hm hc0 hI0)
    rw [this])
  refine zp_fo_cong ?_ (fun k hk h => by rw [cP k (by omega)])
  refine zp_fo_cong ?_ (fun p hp h => ?_)
  · by_cases h0 : t 0 = 0
    · rw [if_pos h0, if_pos h0]
    · rw [if_neg h0, if_neg h0]
      refine zp_fo_cong rfl (fun d hd h => ?_)
      unfold zm_md zy_md
      rw [zr_del hc0 hI0 hm hd]
      refine congrArg (fun x => (31 : Int64) * x + _) ?_
      refine zp_fo_cong ?_ (fun o ho h => by rw [zr_sr hc0 hI0 hd ho])
      exact zp_fo_cong rfl (fun q _ h => by rw [zr_dn hc0 hI0 hd])
  · unfold zm_mp zy_mp
    show _ = (31 : Int64) * ((31 : Int64) * (zp_fo (fun q9 g9 => (31 : Int64) * g9 + (zp_ab (a 13 p) (a 14 p) (a 15 p) q9).toInt64) h 3) + (zy_who (zy_whF s a z p) 0).toInt64) + (zy_who (zy_whF s a z p) 1).toInt64
    rw [zr_who hc0 hI0 hm hp, zr_who hc0 hI0 hm hp, cK p hp, (cD p (by omega)).1, (cD p (by omega)).2]
end ZRQ
