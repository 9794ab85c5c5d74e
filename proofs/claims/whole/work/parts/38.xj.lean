set_option maxHeartbeats 4000000 in
set_option maxRecDepth 100000 in
theorem c_X2_digestOfPerson (l : Launch) (D : va_G) (cI cB : ClassId) (r : Nat → Nat) (s : Nat → Nat) (a : Nat → Nat → Nat) (z : Nat → Int) (ah : Int) (h9 : Int64) (e9 : Nat) (hI : zy_I s a z) (he : e9 < s 11) : zx_C zx_el l D (zm_t cI cB) (zy_w cI r) yX2_digestOfPerson wsX2_digestOfPerson rmX2_digestOfPerson [.ref (r 1), .long h9, .int (nI e9)] (s, a, z, ah) (fun v u' => v = zy_mp s a z e9 h9 ∧ ∃ (y9 : Nat → Nat) (w9 : Int), u' = (y9, a, z, w9) ∧ ∀ k, k < 31 → y9 k = s k) := by
  refine zx_of_l (cc := cX2_digestOfPerson) (maxL := 7) (by decide) rfl (Nat.le_of_ble_eq_true rfl) ?_
  intro p e st m args below meth c A Q H cf hK hN hP hD hS hA hret ls hl
  obtain ⟨hx, hb, hml, hown, hts⟩ := id cf
  have hl : lv_has ls 7 [(0, .ref (r 1)), (1, .long h9), (3, .int (nI e9))] := hl
  have hP : va_P D vwCl ((zy_w cI r) (s, a, z, ah)) H := hP
  have hD : va_D A ((zy_w cI r) (s, a, z, ah)) := hD
  obtain ⟨⟨i1, i2, i5, i7, i8, i10, i11, i12⟩, ⟨i20, i21, i22⟩, iG, iP, iL, iZ, jP, jL⟩ := id hI
  refine lv_lload_n hx hb dX2_digestOfPerson_0 rfl (lv_at hl 1 rfl) ?_
  refine lv_lstore (lv' := [(4, .long h9), (0, .ref (r 1)), (1, .long h9), (3, .int (nI e9))]) hx hb dX2_digestOfPerson_1 hl (by decide) rfl (fun ls hl => ?_)
  refine lv_iconst (v := nI 0) hx hb dX2_digestOfPerson_3 (by decide) ?_
  refine lv_istore (lv' := [(6, .int (nI 0)), (4, .long h9), (0, .ref (r 1)), (1, .long h9), (3, .int (nI e9))]) hx hb dX2_digestOfPerson_4 hl (by decide) rfl (fun ls hl => ?_)
  have lp_6 : ∀ (n_ : Nat) (i : Nat) (hh : Int64), 3 - i < n_ → (i ≤ 3) → (hh = zp_fo (fun q9 g9 => (31 : Int64) * g9 + (zp_ab (a 13 e9) (a 14 e9) (a 15 e9) q9).toInt64) h9 i) → ∀ x3 : Int32, x3 = nI e9 → ∀ x4 : Int64, x4 = hh → ∀ x6 : Int32, x6 = nI i → ∀ (H : Heap) (locs : List Loc), va_P D vwCl ((zy_w cI r) (s, a, z, ah)) H → va_D A ((zy_w cI r) (s, a, z, ah)) → va_S A st.heap H locs → ∀ ls : Array Slot, lv_has ls 7 [(0, .ref (r 1)), (3, .int x3), (4, .long x4), (6, .int x6)] → W p l e rmX2_digestOfPerson st m args below meth c H locs 0 0 Q (F0 m 6 ls []) := by
    intro n_
    induction n_ with
    | zero => intros; omega
    | succ n_ ih_6 =>
      intro i hh hmu_6 hi9 gh
      intro x3 ex3; subst ex3
      intro x4 ex4; subst x4
      intro x6 ex6; subst ex6
      intro H locs hP hD hS ls hl
      have hl : lv_has ls 7 [(0, .ref (r 1)), (3, .int (nI e9)), (4, .long hh), (6, .int (nI i))] := hl
      refine lv_iload hx hb dX2_digestOfPerson_6 (lv_at hl 3 rfl) ?_
      refine lv_iconst (v := nI 2) hx hb dX2_digestOfPerson_8 (by decide) ?_
      refine zx_icmp_gt hx hb (tgt := 35) (by omega) (by omega) dX2_digestOfPerson_9 (by decide) (fun c_9 => ?_) (fun c_9 => ?_)
      · refine lv_iconst (v := nI 0) hx hb dX2_digestOfPerson_35 (by decide) ?_
        refine lv_istore (lv' := [(6, .int (nI 0)), (0, .ref (r 1)), (3, .int (nI e9)), (4, .long hh)]) hx hb dX2_digestOfPerson_36 hl (by decide) rfl (fun ls hl => ?_)
        have lp_38 : ∀ (n_ : Nat) (i : Nat) (hh : Int64) (y9 : Nat → Nat) (w9 : Int), 2 - i < n_ → (i ≤ 2) → (hh = zp_fo (fun q9 g9 => (31 : Int64) * g9 + (zy_who (zy_whF s a z e9) q9).toInt64) (zp_fo (fun q9 g9 => (31 : Int64) * g9 + (zp_ab (a 13 e9) (a 14 e9) (a 15 e9) q9).toInt64) h9 3) i) → (∀ k, k < 31 → y9 k = s k) → ∀ x3 : Int32, x3 = nI e9 → ∀ x4 : Int64, x4 = hh → ∀ x6 : Int32, x6 = nI i → ∀ (H : Heap) (locs : List Loc), va_P D vwCl ((zy_w cI r) (y9, a, z, w9)) H → va_D A ((zy_w cI r) (y9, a, z, w9)) → va_S A st.heap H locs → ∀ ls : Array Slot, lv_has ls 7 [(0, .ref (r 1)), (3, .int x3), (4, .long x4), (6, .int x6)] → W p l e rmX2_digestOfPerson st m args below meth c H locs 0 0 Q (F0 m 38 ls []) := by
          intro n_
          induction n_ with
          | zero => intros; omega
          | succ n_ ih_38 =>
            intro i hh y9 w9 hmu_38 hi9 gh gy
            intro x3 ex3; subst ex3
            intro x4 ex4; subst x4
            intro x6 ex6; subst ex6
            intro H locs hP hD hS ls hl
            have hl : lv_has ls 7 [(0, .ref (r 1)), (3, .int (nI e9)), (4, .long hh), (6, .int (nI i))] := hl
            refine lv_iload hx hb dX2_digestOfPerson_38 (lv_at hl 3 rfl) ?_
            refine lv_iconst (v := nI 1) hx hb dX2_digestOfPerson_40 (by decide) ?_
            refine zx_icmp_gt hx hb (tgt := 67) (by omega) (by omega) dX2_digestOfPerson_41 (by decide) (fun c_41 => ?_) (fun c_41 => ?_)
            · refine lv_lload hx hb dX2_digestOfPerson_67 (lv_at hl 2 rfl) ?_
              exact hret _ _ _ _ _ _ hP hD hS dX2_digestOfPerson_69 ⟨by rw [gh, show i = 2 by omega]; rfl, y9, w9, rfl, gy⟩
            · refine lv_ldc2 (v := 31) hx hb hown (hts (.constantLong RX2 202 (31)) (List.mem_of_getElem? (i := 1) (by decide +kernel))) dX2_digestOfPerson_44 ?_
              refine lv_lload hx hb dX2_digestOfPerson_47 (lv_at hl 2 rfl) ?_
              refine lv_lmul hx hb dX2_digestOfPerson_49 ?_
              refine lv_aload_n hx hb dX2_digestOfPerson_50 rfl (lv_at hl 0 rfl) ?_
              refine lv_iload_n hx hb dX2_digestOfPerson_51 rfl (lv_at hl 1 rfl) ?_
              refine lv_iload hx hb dX2_digestOfPerson_52 (lv_at hl 3 rfl) ?_
              refine zx_V_i (As := [.int (nI e9), .int (nI i)]) (rest := [.long ((31 : Int64) * hh)]) cf (c_X2_who l D cI cB r y9 a z w9 (nI e9) (nI i) (zy_I_y hI gy) ) (cwV 2 hts gX2_digestOfPerson_X2_who rfl rfl rfl ⟨rfl, hd_X2_who⟩ ⟨Nat.le_of_ble_eq_true rfl, Nat.le_of_ble_eq_true rfl⟩) hK hN hP hD hS hA 0 rfl rfl rfl hl.1 rfl (Nat.le_of_ble_eq_true rfl) dX2_digestOfPerson_54 ⟨Nat.zero_le _, Nat.zero_le _⟩ (fun v_54 u_54 H locs hq hP hD hS => ?_)
              obtain ⟨rfl, y_54, w_54, rfl, gy_54⟩ := hq
              refine zx_topi (y := (zy_who (zy_whF s a z e9) i)) ((zy_cwh gy he i11 (by omega))) ?_
              refine lv_i2l hx hb dX2_digestOfPerson_57 rfl ?_
              refine lv_ladd hx hb dX2_digestOfPerson_58 ?_
              refine lv_lstore (lv' := [(4, .long (((31 : Int64) * hh) + (((zy_who (zy_whF s a z e9) i)).toInt64))), (0, .ref (r 1)), (3, .int (nI e9)), (6, .int (nI i))]) hx hb dX2_digestOfPerson_59 hl (by decide) rfl (fun ls hl => ?_)
              refine lv_iinc (v := nI (i + 1)) (lv' := [(6, .int (nI (i + 1))), (4, .long (((31 : Int64) * hh) + (((zy_who (zy_whF s a z e9) i)).toInt64))), (0, .ref (r 1)), (3, .int (nI e9))]) hx hb dX2_digestOfPerson_61 hl (k := 3) rfl (zx_inc _ _) (by decide) rfl (fun ls hl => ?_)
              refine lv_goto (tgt := 38) hx hb dX2_digestOfPerson_64 (by decide) ?_
              exact ih_38 (i + 1) (((31 : Int64) * hh) + (((zy_who (zy_whF s a z e9) i)).toInt64)) y_54 w_54 (by omega) (by omega) (by rw [gh]; rfl) (fun k hk => (gy_54 k hk).trans (gy k hk)) _ rfl _ (by first | rfl | (congr 1; omega)) _ rfl _ _ hP hD hS ls (lv_sub hl [2, 3, 1, 0] rfl)
        exact lp_38 _ 0 hh s ah (Nat.lt_succ_self _) (Nat.zero_le _) (by rw [gh, show i = 3 by omega]; rfl) (fun _ _ => rfl) _ rfl _ rfl _ rfl _ _ hP hD hS ls (lv_sub hl [1, 2, 3, 0] rfl)
      · refine lv_ldc2 (v := 31) hx hb hown (hts (.constantLong RX2 202 (31)) (List.mem_of_getElem? (i := 1) (by decide +kernel))) dX2_digestOfPerson_12 ?_
        refine lv_lload hx hb dX2_digestOfPerson_15 (lv_at hl 2 rfl) ?_
        refine lv_lmul hx hb dX2_digestOfPerson_17 ?_
        refine lv_aload_n hx hb dX2_digestOfPerson_18 rfl (lv_at hl 0 rfl) ?_
        refine lv_iload_n hx hb dX2_digestOfPerson_19 rfl (lv_at hl 1 rfl) ?_
        refine lv_iload hx hb dX2_digestOfPerson_20 (lv_at hl 3 rfl) ?_
        refine zx_V_i (As := [.int (nI e9), .int (nI i)]) (rest := [.long ((31 : Int64) * hh)]) cf (c_X2_about l D cI cB r s a z ah (nI e9) (nI i) hI) (cwV 2 hts gX2_digestOfPerson_X2_about rfl rfl rfl ⟨rfl, hd_X2_about⟩ ⟨Nat.le_of_ble_eq_true rfl, Nat.le_of_ble_eq_true rfl⟩) hK hN hP hD hS hA 0 rfl rfl rfl hl.1 rfl (Nat.le_of_ble_eq_true rfl) dX2_digestOfPerson_22 ⟨Nat.zero_le _, Nat.zero_le _⟩ (fun v_22 u_22 H locs hq hP hD hS => ?_)
        obtain ⟨rfl, rfl⟩ := hq
        refine zx_topi (y := (zp_ab (a 13 e9) (a 14 e9) (a 15 e9) i)) ((zy_cab (F := fun p9 q => zp_ab (a 13 p9) (a 14 p9) (a 15 p9) q) he i11 (by omega))) ?_
        refine lv_i2l hx hb dX2_digestOfPerson_25 rfl ?_
        refine lv_ladd hx hb dX2_digestOfPerson_26 ?_
        refine lv_lstore (lv' := [(4, .long (((31 : Int64) * hh) + (((zp_ab (a 13 e9) (a 14 e9) (a 15 e9) i)).toInt64))), (0, .ref (r 1)), (3, .int (nI e9)), (6, .int (nI i))]) hx hb dX2_digestOfPerson_27 hl (by decide) rfl (fun ls hl => ?_)
        refine lv_iinc (v := nI (i + 1)) (lv' := [(6, .int (nI (i + 1))), (4, .long (((31 : Int64) * hh) + (((zp_ab (a 13 e9) (a 14 e9) (a 15 e9) i)).toInt64))), (0, .ref (r 1)), (3, .int (nI e9))]) hx hb dX2_digestOfPerson_29 hl (k := 3) rfl (zx_inc _ _) (by decide) rfl (fun ls hl => ?_)
        refine lv_goto (tgt := 6) hx hb dX2_digestOfPerson_32 (by decide) ?_
        exact ih_6 (i + 1) (((31 : Int64) * hh) + (((zp_ab (a 13 e9) (a 14 e9) (a 15 e9) i)).toInt64)) (by omega) (by omega) (by rw [gh]; rfl) _ rfl _ (by first | rfl | (congr 1; omega)) _ rfl _ _ hP hD hS ls (lv_sub hl [2, 3, 1, 0] rfl)
  exact lp_6 _ 0 h9 (Nat.lt_succ_self _) (Nat.zero_le _) rfl _ rfl _ rfl _ rfl _ _ hP hD hS ls (lv_sub hl [2, 4, 1, 0] rfl)
