set_option maxHeartbeats 4000000 in
set_option maxRecDepth 100000 in
theorem c_X2_few (l : Launch) (D : va_G) (cI cB : ClassId) (r : Nat → Nat) (s : Nat → Nat) (a : Nat → Nat → Nat) (z : Nat → Int) (ah : Int) (x y w9 : Int32) (hI : zy_I s a z) : zx_C zx_ei l D (zm_t cI cB) (zy_w cI r) yX2_few wsX2_few rmX2_few [.ref (r 1), .int x, .int y, .int w9] (s, a, z, ah) (fun v u' => zd_out (zd_few (zd_drw (s 2) x) (s 8) y w9) (fun e9 => v = e9 ∧ u' = (s, a, z, ah)) (fun k => v = zp_few (zp_bs (zy_G s a z k.1 k.2.1)) k.2.2 ∧ ∃ (y9 : Nat → Nat) (v9 : Int), u' = (y9, a, z, v9) ∧ y9 8 = s 8 + 1 ∧ ∀ k9, k9 < 31 → k9 ≠ 8 → y9 k9 = s k9)) := by
  refine zx_of_i (cc := cX2_few) (maxL := 5) (by decide) rfl (Nat.le_of_ble_eq_true rfl) ?_
  intro p e st m args below meth c A Q H cf hK hN hP hD hS hA hret ls hl
  obtain ⟨hx, hb, hml, hown, hts⟩ := id cf
  have hi2 : ∀ w ∈ wsX20, w ∈ wsX2_few := fun w h => List.mem_cons_of_mem _ (List.mem_append_left _ (List.mem_append_left _ (List.mem_append_right _ h)))
  have k133 := hts (.fieldLink RX2 133 "NineDrawers" "fewDone" "I") (List.mem_of_getElem? (i := 1) (by decide +kernel))
  have hl : lv_has ls 5 [(0, .ref (r 1)), (1, .int x), (2, .int y), (3, .int w9)] := hl
  have hP : va_P D vwCl ((zy_w cI r) (s, a, z, ah)) H := hP
  have hD : va_D A ((zy_w cI r) (s, a, z, ah)) := hD
  obtain ⟨⟨i1, i2, i5, i7, i8, i10, i11, i12⟩, ⟨i20, i21, i22⟩, iG, iP, iL, iZ, jP, jL⟩ := id hI
  refine lv_aload_n hx hb dX2_few_0 rfl (lv_at hl 0 rfl) ?_
  refine lv_iload_n hx hb dX2_few_1 rfl (lv_at hl 1 rfl) ?_
  refine zx_V_i (As := [.int x]) (rest := []) cf (c_X2_isDrawer l D cI cB r s a z ah x hI) (cwV 1 hts gX2_few_X2_isDrawer rfl rfl rfl ⟨rfl, hd_X2_isDrawer⟩ ⟨Nat.le_of_ble_eq_true rfl, Nat.le_of_ble_eq_true rfl⟩) hK hN hP hD hS hA 0 rfl rfl rfl hl.1 rfl (Nat.le_of_ble_eq_true rfl) dX2_few_2 ⟨Nat.zero_le _, Nat.zero_le _⟩ (fun v_2 u_2 H locs hq hP hD hS => ?_)
  obtain ⟨rfl, rfl⟩ := hq
  refine zx_bf_ne hx hb (tgt := 11) dX2_few_5 (by decide) (fun c_5 => ?_) (fun c_5 => ?_)
  · obtain ⟨d, hz⟩ := zd_some c_5
    obtain ⟨rfl, hd, hc9⟩ := zd_drw_some hz
    refine lv_iload_n hx hb dX2_few_11 rfl (lv_at hl 2 rfl) ?_
    refine lv_if_lt (tgt := 30) hx hb dX2_few_12 (by decide) (fun c_12 => ?_) (fun c_12 => ?_)
    · refine lv_bipush (v := (-102)) hx hb dX2_few_30 (by decide) ?_
      exact hret _ _ _ _ _ _ hP hD hS dX2_few_32 (zd_inl (by have e9 : zd_rng 0 127 y = none := zd_nos (decide_eq_false (fun q9 => zx_lt0 c_12 q9.1)); unfold zd_few; simp only [hz, e9]) ⟨rfl, rfl⟩)
    · refine lv_iload_n hx hb dX2_few_15 rfl (lv_at hl 2 rfl) ?_
      refine lv_bipush (v := nI 127) hx hb dX2_few_16 (by decide) ?_
      refine lv_icmp_gt (tgt := 30) hx hb dX2_few_18 (by decide) (fun c_18 => ?_) (fun c_18 => ?_)
      · refine lv_bipush (v := (-102)) hx hb dX2_few_30 (by decide) ?_
        exact hret _ _ _ _ _ _ hP hD hS dX2_few_32 (zd_inl (by have e9 : zd_rng 0 127 y = none := zd_nos (decide_eq_false (fun q9 => zx_ltle c_18 q9.2)); unfold zd_few; simp only [hz, e9]) ⟨rfl, rfl⟩)
      · obtain ⟨t9, rfl, hy1, hy2, hy⟩ := zd_yes (lo := 0) (hi := 127) (by decide) (by decide) (decide_eq_true ⟨zx_nlt c_12, zx_nlt c_18⟩)
        refine lv_iload_n hx hb dX2_few_21 rfl (lv_at hl 3 rfl) ?_
        refine lv_if_lt (tgt := 30) hx hb dX2_few_22 (by decide) (fun c_22 => ?_) (fun c_22 => ?_)
        · refine lv_bipush (v := (-102)) hx hb dX2_few_30 (by decide) ?_
          exact hret _ _ _ _ _ _ hP hD hS dX2_few_32 (zd_inl (by have e9 : zd_rng 0 1 w9 = none := zd_nos (decide_eq_false (fun q9 => zx_lt0 c_22 q9.1)); unfold zd_few; simp only [hz, hy, e9]) ⟨rfl, rfl⟩)
        · refine lv_iload_n hx hb dX2_few_25 rfl (lv_at hl 3 rfl) ?_
          refine lv_iconst (v := nI 1) hx hb dX2_few_26 (by decide) ?_
          refine lv_icmp_le (tgt := 33) hx hb dX2_few_27 (by decide) (fun c_27 => ?_) (fun c_27 => ?_)
          · obtain ⟨q, rfl, hq1, hq2, hw⟩ := zd_yes (lo := 0) (hi := 1) (by decide) (by decide) (decide_eq_true ⟨zx_nlt c_22, c_27⟩)
            refine lv_aload_n hx hb dX2_few_33 rfl (lv_at hl 0 rfl) ?_
            refine va_get (D := D) (ci := 2) (v := .int (nI (s 8))) (C := RX2) (T := TX2) (N := 10) hx hb hts hi2 hown hK hP 0 rfl rfl 8 (by decide) k133 (fun _ h9 => h9) rfl dX2_few_34 ?_
            refine lv_bipush (v := nI 40) hx hb dX2_few_37 (by decide) ?_
            refine zx_icmp_lt hx hb (tgt := 45) (by omega) (by omega) dX2_few_39 (by decide) (fun c_39 => ?_) (fun c_39 => ?_)
            · have hI1 : zy_I (zx_up s 8 (s 8 + 1)) a z := ⟨⟨i1, i2, i5, i7, (by show s 8 + 1 ≤ 40; omega), i10, i11, i12⟩, hI.2⟩
              refine lv_aload_n hx hb dX2_few_45 rfl (lv_at hl 0 rfl) ?_
              refine lv_dup hx hb dX2_few_46 rfl ?_
              refine va_get (D := D) (ci := 2) (v := .int (nI (s 8))) (C := RX2) (T := TX2) (N := 10) hx hb hts hi2 hown hK hP 0 rfl rfl 8 (by decide) k133 (fun _ h9 => h9) rfl dX2_few_47 ?_
              refine lv_iconst (v := nI 1) hx hb dX2_few_50 (by decide) ?_
              refine zx_iadd hx hb dX2_few_51 ?_
              refine zx_put (D := D) (ci := 2) (ty := .int) (v := .int (nI ((s 8) + 1))) (ws' := (zy_w cI r) ((zx_up s 8 ((s 8) + 1)), a, z, ah)) (C := RX2) (T := TX2) (N := 10) hx hb hts hi2 tyX2 tyX2_ok nmX2 hown hK hP hD hS 0 rfl rfl 8 (by decide) k133 (fun _ h9 => h9) rfl (by decide +kernel) rfl rfl (Nat.le_of_ble_eq_true rfl) rfl dX2_few_52 (fun H locs hP hD hS => ?_)
              refine lv_aload_n hx hb dX2_few_55 rfl (lv_at hl 0 rfl) ?_
              refine lv_iconst (v := (-1)) hx hb dX2_few_56 (by decide) ?_
              refine lv_iload_n hx hb dX2_few_57 rfl (lv_at hl 1 rfl) ?_
              refine zx_V_a (As := [.int (-1), .int (nI d)]) (rest := []) cf (c_X2_cW_n l D cI cB r (zx_up s 8 ((s 8) + 1)) a z ah 0 d hI1 (by omega)) (cwV 2 hts gX2_few_X2_courseWithout rfl rfl rfl ⟨rfl, hd_X2_courseWithout⟩ ⟨Nat.le_of_ble_eq_true rfl, Nat.le_of_ble_eq_true rfl⟩) hK hN hP hD hS hA 0 rfl rfl rfl hl.1 rfl (Nat.le_of_ble_eq_true rfl) dX2_few_58 ⟨Nat.zero_le _, Nat.zero_le _⟩ (fun v_58 u_58 H locs hq hP hD hS => ?_)
              obtain ⟨rfl, rfl⟩ := hq
              refine lv_iload_n hx hb dX2_few_61 rfl (lv_at hl 2 rfl) ?_
              refine zx_T_i (As := [.ref (r 30), .int (nI t9)]) (rest := []) cf (c_X2_fewestLaid l D cI cB r (zx_up (zx_up (zx_up (zx_up s 8 ((s 8) + 1)) 31 (a 16 d)) 32 (zy_Em (zx_up s 8 ((s 8) + 1)) a 99 d)) 33 (zy_Tm (zx_up s 8 ((s 8) + 1)) a 99 d)) a z (zp_ah (s 10) (z d)) t9 (zy_Em_lt _ _ _ _) (zy_Tm_lt _ _ _ _) (iL d (by omega)).1 (zp_ah_rng i10 (iZ d (by omega))) (by omega)) (va_cwS 2 hts gX2_few_X2_fewestLaid rfl rfl rfl hd_X2_fewestLaid ⟨Nat.le_of_ble_eq_true rfl, Nat.le_of_ble_eq_true rfl⟩) hK hN hP hD hS hA rfl hl.1 rfl (Nat.le_of_ble_eq_true rfl) dX2_few_62 ⟨Nat.zero_le _, Nat.zero_le _⟩ (fun v_62 u_62 H locs hq hP hD hS => ?_)
              obtain ⟨rfl, y_62, rfl, gy_62⟩ := hq
              refine zx_topi (y := (zp_o (zp_bs (zy_G s a z d t9)))) (congrArg (fun F9 => zp_o (zp_bs F9)) rfl) ?_
              refine lv_istore (lv' := [(4, .int (zp_o (zp_bs (zy_G s a z d t9)))), (0, .ref (r 1)), (1, .int (nI d)), (2, .int (nI t9)), (3, .int (nI q))]) hx hb dX2_few_65 hl (by decide) rfl (fun ls hl => ?_)
              refine lv_iload hx hb dX2_few_67 (lv_at hl 0 rfl) ?_
              refine lv_iconst (v := (-1)) hx hb dX2_few_69 (by decide) ?_
              refine lv_icmp_eq (tgt := 78) hx hb dX2_few_70 (by decide) (fun c_70 => ?_) (fun c_70 => ?_)
              · refine lv_iload hx hb dX2_few_78 (lv_at hl 0 rfl) ?_
                exact hret _ _ _ _ _ _ hP hD hS dX2_few_80 (zd_inr (k := (d, t9, q)) (by unfold zd_few; simp only [hz, hy, hw]; exact if_neg (by omega)) ⟨zp_few_n (zp_o_none (fun k hk => by have := zp_bst_lt (n := 128) (by rw [← zp_bs_eq]; exact hk); omega) c_70), y_62, _, rfl, gy_62 8 (by omega), fun k9 hk9 hk8 => by rw [gy_62 k9 hk9, zx_up_ne _ _ (by omega), zx_up_ne _ _ (by omega), zx_up_ne _ _ (by omega), zx_up_ne _ _ (by omega)]⟩)
              · obtain ⟨b9, hb9⟩ := zp_o_some c_70
                have hbl := zp_bst_lt (n := 128) (by rw [← zp_bs_eq]; exact hb9)
                rw [hb9] at hl
                refine lv_iload_n hx hb dX2_few_73 rfl (lv_at hl 4 rfl) ?_
                refine lv_iconst (v := nI 1) hx hb dX2_few_74 (by decide) ?_
                refine zx_icmp_ne hx hb (tgt := 81) (by omega) (by omega) dX2_few_75 (by decide) (fun c_75 => ?_) (fun c_75 => ?_)
                · refine lv_iload hx hb dX2_few_81 (lv_at hl 0 rfl) ?_
                  refine zx_S (As := [.int (nI b9)]) (rest := []) cf (c_J6_bitCount_0f7a4 l D b9 (by omega)) (va_cwS 1 hts gX2_few_J6_bitCount_0f7a4 rfl rfl rfl hd_J6_bitCount_0f7a4 ⟨Nat.le_of_ble_eq_true rfl, Nat.le_of_ble_eq_true rfl⟩) hK hN hP hS hA rfl hl.1 rfl (Nat.le_of_ble_eq_true rfl) dX2_few_83 ⟨Nat.zero_le _, Nat.zero_le _⟩ (fun H locs hP hS => ?_)
                  exact hret _ _ _ _ _ _ hP hD hS dX2_few_86 (zd_inr (k := (d, t9, q)) (by unfold zd_few; simp only [hz, hy, hw]; exact if_neg (by omega)) ⟨(by rw [hb9]; exact (if_neg c_75).symm), y_62, _, rfl, gy_62 8 (by omega), fun k9 hk9 hk8 => by rw [gy_62 k9 hk9, zx_up_ne _ _ (by omega), zx_up_ne _ _ (by omega), zx_up_ne _ _ (by omega), zx_up_ne _ _ (by omega)]⟩)
                · refine lv_iload hx hb dX2_few_78 (lv_at hl 0 rfl) ?_
                  exact hret _ _ _ _ _ _ hP hD hS dX2_few_80 (zd_inr (k := (d, t9, q)) (by unfold zd_few; simp only [hz, hy, hw]; exact if_neg (by omega)) ⟨(by rw [hb9, c_75]; rfl), y_62, _, rfl, gy_62 8 (by omega), fun k9 hk9 hk8 => by rw [gy_62 k9 hk9, zx_up_ne _ _ (by omega), zx_up_ne _ _ (by omega), zx_up_ne _ _ (by omega), zx_up_ne _ _ (by omega)]⟩)
            · refine lv_bipush (v := (-103)) hx hb dX2_few_42 (by decide) ?_
              exact hret _ _ _ _ _ _ hP hD hS dX2_few_44 (zd_inl (by unfold zd_few; simp only [hz, hy, hw]; exact if_pos (by omega)) ⟨rfl, rfl⟩)
          · refine lv_bipush (v := (-102)) hx hb dX2_few_30 (by decide) ?_
            exact hret _ _ _ _ _ _ hP hD hS dX2_few_32 (zd_inl (by have e9 : zd_rng 0 1 w9 = none := zd_nos (decide_eq_false (fun q9 => c_27 q9.2)); unfold zd_few; simp only [hz, hy, e9]) ⟨rfl, rfl⟩)
  · refine lv_bipush (v := (-101)) hx hb dX2_few_8 (by decide) ?_
    exact hret _ _ _ _ _ _ hP hD hS dX2_few_10 (zd_inl (by rw [zd_none c_5]; rfl) ⟨rfl, rfl⟩)
set_option maxHeartbeats 4000000 in
set_option maxRecDepth 100000 in
theorem c_X2_weeks (l : Launch) (D : va_G) (cI cB : ClassId) (r : Nat → Nat) (s : Nat → Nat) (a : Nat → Nat → Nat) (z : Nat → Int) (ah : Int) (x y w9 : Int32) (hI : zy_I s a z) : zx_C zx_ei l D (zm_t cI cB) (zy_w cI r) yX2_weeks wsX2_weeks rmX2_weeks [.ref (r 1), .int x, .int y, .int w9] (s, a, z, ah) (fun v u' => zd_out (zd_weeks (s 2) x y w9) (fun e9 => v = e9 ∧ u' = (s, a, z, ah)) (fun k => v = zy_wks s a z k.1 k.2.1 k.2.2 ∧ ∃ (y9 : Nat → Nat) (v9 : Int), u' = (y9, a, z, v9) ∧ ∀ k9, k9 < 31 → y9 k9 = s k9)) := by
  refine zx_of_i (cc := cX2_weeks) (maxL := 10) (by decide) rfl (Nat.le_of_ble_eq_true rfl) ?_
  intro p e st m args below meth c A Q H cf hK hN hP hD hS hA hret ls hl
  obtain ⟨hx, hb, hml, hown, hts⟩ := id cf
  have hi2 : ∀ w ∈ wsX20, w ∈ wsX2_weeks := fun w h => List.mem_cons_of_mem _ (List.mem_append_left _ (List.mem_append_left _ (List.mem_append_right _ h)))
  have hi0 : ∀ w ∈ wsX00, w ∈ wsX2_weeks := fun w h => List.mem_cons_of_mem _ (List.mem_append_left _ (List.mem_append_right _ h))
  have k49 := hts (.fieldLink RX2 49 "NineDrawers" "hasChest" "Z") (List.mem_of_getElem? (i := 1) (by decide +kernel))
  have k171 := hts (.fieldLink RX2 171 "NineDrawers$Course" "laid" "I") (List.mem_of_getElem? (i := 2) (by decide +kernel))
  have k180 := hts (.fieldLink RX2 180 "NineDrawers$Course" "stuck" "I") (List.mem_of_getElem? (i := 3) (by decide +kernel))
  have hl : lv_has ls 10 [(0, .ref (r 1)), (1, .int x), (2, .int y), (3, .int w9)] := hl
  have hP : va_P D vwCl ((zy_w cI r) (s, a, z, ah)) H := hP
  have hD : va_D A ((zy_w cI r) (s, a, z, ah)) := hD
  obtain ⟨⟨i1, i2, i5, i7, i8, i10, i11, i12⟩, ⟨i20, i21, i22⟩, iG, iP, iL, iZ, jP, jL⟩ := id hI
  refine lv_iload_n hx hb dX2_weeks_0 rfl (lv_at hl 1 rfl) ?_
  refine lv_iconst (v := nI 1) hx hb dX2_weeks_1 (by decide) ?_
  refine lv_icmp_lt (tgt := 24) hx hb dX2_weeks_2 (by decide) (fun c_2 => ?_) (fun c_2 => ?_)
  · refine lv_bipush (v := (-102)) hx hb dX2_weeks_24 (by decide) ?_
    exact hret _ _ _ _ _ _ hP hD hS dX2_weeks_26 (zd_inl (by have e9 : zd_rng 1 12 x = none := zd_nos (decide_eq_false (fun q9 => (zx_ltle c_2 q9.1))); unfold zd_weeks; simp only [e9]) ⟨rfl, rfl⟩)
  · refine lv_iload_n hx hb dX2_weeks_5 rfl (lv_at hl 1 rfl) ?_
    refine lv_bipush (v := nI 12) hx hb dX2_weeks_6 (by decide) ?_
    refine lv_icmp_gt (tgt := 24) hx hb dX2_weeks_8 (by decide) (fun c_8 => ?_) (fun c_8 => ?_)
    · refine lv_bipush (v := (-102)) hx hb dX2_weeks_24 (by decide) ?_
      exact hret _ _ _ _ _ _ hP hD hS dX2_weeks_26 (zd_inl (by have e9 : zd_rng 1 12 x = none := zd_nos (decide_eq_false (fun q9 => (zx_ltle c_8 q9.2))); unfold zd_weeks; simp only [e9]) ⟨rfl, rfl⟩)
    · obtain ⟨t9, rfl, ht1, ht2, hz⟩ := zd_yes (lo := 1) (hi := 12) (by decide) (by decide) (decide_eq_true ⟨zx_nlt c_2, zx_nlt c_8⟩)
      refine lv_iload_n hx hb dX2_weeks_11 rfl (lv_at hl 2 rfl) ?_
      refine lv_if_lt (tgt := 24) hx hb dX2_weeks_12 (by decide) (fun c_12 => ?_) (fun c_12 => ?_)
      · refine lv_bipush (v := (-102)) hx hb dX2_weeks_24 (by decide) ?_
        exact hret _ _ _ _ _ _ hP hD hS dX2_weeks_26 (zd_inl (by unfold zd_weeks; simp only [hz]; exact if_pos c_12) ⟨rfl, rfl⟩)
      · obtain ⟨sd, hs, rfl⟩ := nI_of c_12
        refine lv_iload_n hx hb dX2_weeks_15 rfl (lv_at hl 3 rfl) ?_
        refine lv_if_lt (tgt := 24) hx hb dX2_weeks_16 (by decide) (fun c_16 => ?_) (fun c_16 => ?_)
        · refine lv_bipush (v := (-102)) hx hb dX2_weeks_24 (by decide) ?_
          exact hret _ _ _ _ _ _ hP hD hS dX2_weeks_26 (zd_inl (by have e9 : zd_rng 0 1 w9 = none := zd_nos (decide_eq_false (fun q9 => zx_lt0 c_16 q9.1)); unfold zd_weeks; simp only [hz, e9]; exact if_neg c_12) ⟨rfl, rfl⟩)
        · refine lv_iload_n hx hb dX2_weeks_19 rfl (lv_at hl 3 rfl) ?_
          refine lv_iconst (v := nI 1) hx hb dX2_weeks_20 (by decide) ?_
          refine lv_icmp_le (tgt := 27) hx hb dX2_weeks_21 (by decide) (fun c_21 => ?_) (fun c_21 => ?_)
          · obtain ⟨q, rfl, hq1, hq2, hw⟩ := zd_yes (lo := 0) (hi := 1) (by decide) (by decide) (decide_eq_true ⟨zx_nlt c_16, c_21⟩)
            refine lv_aload_n hx hb dX2_weeks_27 rfl (lv_at hl 0 rfl) ?_
            refine va_get (D := D) (ci := 2) (v := .int (nI (s 2))) (C := RX2) (T := TX2) (N := 10) hx hb hts hi2 hown hK hP 0 rfl rfl 2 (by decide) k49 (fun _ h9 => h9) rfl dX2_weeks_28 ?_
            refine zx_if_ne hx hb (tgt := 37) (by omega) dX2_weeks_31 (by decide) (fun c_31 => ?_) (fun c_31 => ?_)
            · refine lv_iload_n hx hb dX2_weeks_37 rfl (lv_at hl 2 rfl) ?_
              refine lv_istore (lv' := [(4, .int (nI sd)), (0, .ref (r 1)), (1, .int (nI t9)), (2, .int (nI sd)), (3, .int (nI q))]) hx hb dX2_weeks_38 hl (by decide) rfl (fun ls hl => ?_)
              refine lv_iconst (v := nI 0) hx hb dX2_weeks_40 (by decide) ?_
              refine lv_istore (lv' := [(5, .int (nI 0)), (4, .int (nI sd)), (0, .ref (r 1)), (1, .int (nI t9)), (2, .int (nI sd)), (3, .int (nI q))]) hx hb dX2_weeks_41 hl (by decide) rfl (fun ls hl => ?_)
              refine lv_iconst (v := nI 0) hx hb dX2_weeks_43 (by decide) ?_
              refine lv_istore (lv' := [(6, .int (nI 0)), (5, .int (nI 0)), (4, .int (nI sd)), (0, .ref (r 1)), (1, .int (nI t9)), (2, .int (nI sd)), (3, .int (nI q))]) hx hb dX2_weeks_44 hl (by decide) rfl (fun ls hl => ?_)
              have lp_46 : ∀ (n_ : Nat) (R : Nat) (e9 : Nat) (y9 : Nat → Nat) (v9 : Int), t9 - R < n_ → (R ≤ t9) → (e9 = zp_sq sd (7 * (9 * R))) → (∀ k, k < 31 → y9 k = s k) → ∀ x1 : Int32, x1 = nI t9 → ∀ x2 : Int32, x2 = nI sd → ∀ x3 : Int32, x3 = nI q → ∀ x4 : Int32, x4 = nI e9 → ∀ x5 : Int32, x5 = nI (zp_cnt (zy_wk s a z sd) (9 * R)) → ∀ x6 : Int32, x6 = nI R → ∀ (H : Heap) (locs : List Loc), va_P D vwCl ((zy_w cI r) (y9, a, z, v9)) H → va_D A ((zy_w cI r) (y9, a, z, v9)) → va_S A st.heap H locs → ∀ ls : Array Slot, lv_has ls 10 [(0, .ref (r 1)), (1, .int x1), (2, .int x2), (3, .int x3), (4, .int x4), (5, .int x5), (6, .int x6)] → W p l e rmX2_weeks st m args below meth c H locs 0 0 Q (F0 m 46 ls []) := by
                intro n_
                induction n_ with
                | zero => intros; omega
                | succ n_ ih_46 =>
                  intro R e9 y9 v9 hmu_46 hR9 ge gy
                  intro x1 ex1; subst ex1
                  intro x2 ex2; subst ex2
                  intro x3 ex3; subst ex3
                  intro x4 ex4; subst ex4
                  intro x5 ex5; subst ex5
                  intro x6 ex6; subst ex6
                  intro H locs hP hD hS ls hl
                  have hl : lv_has ls 10 [(0, .ref (r 1)), (1, .int (nI t9)), (2, .int (nI sd)), (3, .int (nI q)), (4, .int (nI e9)), (5, .int (nI (zp_cnt (zy_wk s a z sd) (9 * R)))), (6, .int (nI R))] := hl
                  refine lv_iload hx hb dX2_weeks_46 (lv_at hl 6 rfl) ?_
                  refine lv_iload_n hx hb dX2_weeks_48 rfl (lv_at hl 1 rfl) ?_
                  refine zx_icmp_ge hx hb (tgt := 151) (by omega) (by omega) dX2_weeks_49 (by decide) (fun c_49 => ?_) (fun c_49 => ?_)
                  · refine lv_iload_n hx hb dX2_weeks_151 rfl (lv_at hl 3 rfl) ?_
                    refine zx_if_ne hx hb (tgt := 160) (by omega) dX2_weeks_152 (by decide) (fun c_152 => ?_) (fun c_152 => ?_)
                    · refine lv_iload hx hb dX2_weeks_160 (lv_at hl 4 rfl) ?_
                      exact hret _ _ _ _ _ _ hP hD hS dX2_weeks_162 (zd_inr (k := (t9, sd, q)) (zd_wk_o hs hz c_12 hw (by omega)) ⟨by rw [show R = t9 by omega] at ge; unfold zy_wks; rw [if_neg c_152, Nat.mul_comm t9 9, ge], y9, v9, rfl, gy⟩)
                    · refine lv_iload hx hb dX2_weeks_155 (lv_at hl 5 rfl) ?_
                      refine lv_goto (tgt := 162) hx hb dX2_weeks_157 (by decide) ?_
                      exact hret _ _ _ _ _ _ hP hD hS dX2_weeks_162 (zd_inr (k := (t9, sd, q)) (zd_wk_o hs hz c_12 hw (by omega)) ⟨by rw [show R = t9 by omega] at ge ⊢; unfold zy_wks; rw [if_pos c_152, Nat.mul_comm t9 9], y9, v9, rfl, gy⟩)
                  · refine lv_iconst (v := nI 0) hx hb dX2_weeks_52 (by decide) ?_
                    refine lv_istore (lv' := [(7, .int (nI 0)), (0, .ref (r 1)), (1, .int (nI t9)), (2, .int (nI sd)), (3, .int (nI q)), (4, .int (nI e9)), (5, .int (nI (zp_cnt (zy_wk s a z sd) (9 * R)))), (6, .int (nI R))]) hx hb dX2_weeks_53 hl (by decide) rfl (fun ls hl => ?_)
                    have lp_55 : ∀ (n_ : Nat) (d : Nat) (e9 : Nat) (y9 : Nat → Nat) (v9 : Int), 9 - d < n_ → (d ≤ 9) → (e9 = zp_sq sd (7 * (9 * R + d))) → (∀ k, k < 31 → y9 k = s k) → ∀ x1 : Int32, x1 = nI t9 → ∀ x2 : Int32, x2 = nI sd → ∀ x3 : Int32, x3 = nI q → ∀ x4 : Int32, x4 = nI e9 → ∀ x5 : Int32, x5 = nI (zp_cnt (zy_wk s a z sd) (9 * R + d)) → ∀ x6 : Int32, x6 = nI R → ∀ x7 : Int32, x7 = nI d → ∀ (H : Heap) (locs : List Loc), va_P D vwCl ((zy_w cI r) (y9, a, z, v9)) H → va_D A ((zy_w cI r) (y9, a, z, v9)) → va_S A st.heap H locs → ∀ ls : Array Slot, lv_has ls 10 [(0, .ref (r 1)), (1, .int x1), (2, .int x2), (3, .int x3), (4, .int x4), (5, .int x5), (6, .int x6), (7, .int x7)] → W p l e rmX2_weeks st m args below meth c H locs 0 0 Q (F0 m 55 ls []) := by
                      intro n_
                      induction n_ with
                      | zero => intros; omega
                      | succ n_ ih_55 =>
                        intro d e9 y9 v9 hmu_55 hd9 ge gy
                        intro x1 ex1; subst ex1
                        intro x2 ex2; subst ex2
                        intro x3 ex3; subst ex3
                        intro x4 ex4; subst ex4
                        intro x5 ex5; subst ex5
                        intro x6 ex6; subst ex6
                        intro x7 ex7; subst ex7
                        intro H locs hP hD hS ls hl
                        have hl : lv_has ls 10 [(0, .ref (r 1)), (1, .int (nI t9)), (2, .int (nI sd)), (3, .int (nI q)), (4, .int (nI e9)), (5, .int (nI (zp_cnt (zy_wk s a z sd) (9 * R + d)))), (6, .int (nI R)), (7, .int (nI d))] := hl
                        refine lv_iload hx hb dX2_weeks_55 (lv_at hl 7 rfl) ?_
                        refine lv_bipush (v := nI 9) hx hb dX2_weeks_57 (by decide) ?_
                        refine zx_icmp_ge hx hb (tgt := 145) (by omega) (by omega) dX2_weeks_59 (by decide) (fun c_59 => ?_) (fun c_59 => ?_)
                        · refine lv_iinc (v := nI (R + 1)) (lv' := [(6, .int (nI (R + 1))), (0, .ref (r 1)), (1, .int (nI t9)), (2, .int (nI sd)), (3, .int (nI q)), (4, .int (nI e9)), (5, .int (nI (zp_cnt (zy_wk s a z sd) (9 * R + d)))), (7, .int (nI d))]) hx hb dX2_weeks_145 hl (k := 6) rfl (zx_inc _ _) (by decide) rfl (fun ls hl => ?_)
                          refine lv_goto (tgt := 46) hx hb dX2_weeks_148 (by decide) ?_
                          exact ih_46 (R + 1) e9 y9 v9 (by omega) (by omega) (by rw [ge, show 9 * (R + 1) = 9 * R + d by omega]) gy _ rfl _ rfl _ rfl _ rfl _ (by rw [show 9 * (R + 1) = 9 * R + d by omega]) _ rfl _ _ hP hD hS ls (lv_sub hl [1, 2, 3, 4, 5, 6, 0] rfl)
                        · refine lv_aload_n hx hb dX2_weeks_62 rfl (lv_at hl 0 rfl) ?_
                          refine lv_iconst (v := (-1)) hx hb dX2_weeks_63 (by decide) ?_
                          refine lv_iload hx hb dX2_weeks_64 (lv_at hl 7 rfl) ?_
                          refine zx_V_a (As := [.int (-1), .int (nI d)]) (rest := []) cf (c_X2_cW_n l D cI cB r y9 a z v9 0 d (zy_I_y hI gy) (by omega)) (cwV 2 hts gX2_weeks_X2_courseWithout rfl rfl rfl ⟨rfl, hd_X2_courseWithout⟩ ⟨Nat.le_of_ble_eq_true rfl, Nat.le_of_ble_eq_true rfl⟩) hK hN hP hD hS hA 0 rfl rfl rfl hl.1 rfl (Nat.le_of_ble_eq_true rfl) dX2_weeks_66 ⟨Nat.zero_le _, Nat.zero_le _⟩ (fun v_66 u_66 H locs hq hP hD hS => ?_)
                          obtain ⟨rfl, rfl⟩ := hq
                          refine lv_astore (lv' := [(8, .ref (r 30)), (0, .ref (r 1)), (1, .int (nI t9)), (2, .int (nI sd)), (3, .int (nI q)), (4, .int (nI e9)), (5, .int (nI (zp_cnt (zy_wk s a z sd) (9 * R + d)))), (6, .int (nI R)), (7, .int (nI d))]) hx hb dX2_weeks_69 hl (by decide) rfl (fun ls hl => ?_)
                          refine lv_aload hx hb dX2_weeks_71 (lv_at hl 0 rfl) ?_
                          refine lv_iconst (v := nI 0) hx hb dX2_weeks_73 (by decide) ?_
                          refine zx_put (D := D) (ci := 0) (ty := .int) (v := .int (nI 0)) (ws' := (zy_w cI r) ((zx_up (zx_up (zx_up y9 32 (zy_Em y9 a 99 d)) 33 (zy_Tm y9 a 99 d)) 31 0), a, z, (zp_ah (y9 10) (z d)))) (C := RX0) (T := TX0) (N := 7) hx hb hts hi0 tyX0 tyX0_ok nmX0 hown hK hP hD hS 17 rfl rfl 1 (by decide) k171 (fun _ h9 => h9) rfl (by decide +kernel) rfl rfl (Nat.le_of_ble_eq_true rfl) rfl dX2_weeks_74 (fun H locs hP hD hS => ?_)
                          refine lv_iconst (v := nI 0) hx hb dX2_weeks_77 (by decide) ?_
                          refine lv_istore (lv' := [(9, .int (nI 0)), (8, .ref (r 30)), (0, .ref (r 1)), (1, .int (nI t9)), (2, .int (nI sd)), (3, .int (nI q)), (4, .int (nI e9)), (5, .int (nI (zp_cnt (zy_wk s a z sd) (9 * R + d)))), (6, .int (nI R)), (7, .int (nI d))]) hx hb dX2_weeks_78 hl (by decide) rfl (fun ls hl => ?_)
                          have lp_80 : ∀ (n_ : Nat) (o : Nat) (e9 : Nat) (y9 : Nat → Nat) (v9 : Int), 7 - o < n_ → (o ≤ 7) → (e9 = zp_sq sd (7 * (9 * R + d) + o)) → (y9 31 = zp_bits (fun o9 => decide (zp_sq sd (7 * (9 * R + d) + o9 + 1) / 65536 % 4 = 0)) o) → (y9 32 = zy_Em s a 99 d) → (y9 33 = zy_Tm s a 99 d) → (v9 = (zp_ah (s 10) (z d))) → (∀ k, k < 31 → y9 k = s k) → ∀ x1 : Int32, x1 = nI t9 → ∀ x2 : Int32, x2 = nI sd → ∀ x3 : Int32, x3 = nI q → ∀ x4 : Int32, x4 = nI e9 → ∀ x5 : Int32, x5 = nI (zp_cnt (zy_wk s a z sd) (9 * R + d)) → ∀ x6 : Int32, x6 = nI R → ∀ x7 : Int32, x7 = nI d → ∀ x9 : Int32, x9 = nI o → ∀ (H : Heap) (locs : List Loc), va_P D vwCl ((zy_w cI r) (y9, a, z, v9)) H → va_D A ((zy_w cI r) (y9, a, z, v9)) → va_S A st.heap H locs → ∀ ls : Array Slot, lv_has ls 10 [(0, .ref (r 1)), (1, .int x1), (2, .int x2), (3, .int x3), (4, .int x4), (5, .int x5), (6, .int x6), (7, .int x7), (8, .ref (r 30)), (9, .int x9)] → W p l e rmX2_weeks st m args below meth c H locs 0 0 Q (F0 m 80 ls []) := by
                            intro n_
                            induction n_ with
                            | zero => intros; omega
                            | succ n_ ih_80 =>
                              intro o e9 y9 v9 hmu_80 ho9 ge g1 g2 g3 gw gy
                              intro x1 ex1; subst ex1
                              intro x2 ex2; subst ex2
                              intro x3 ex3; subst ex3
                              intro x4 ex4; subst ex4
                              intro x5 ex5; subst ex5
                              intro x6 ex6; subst ex6
                              intro x7 ex7; subst ex7
                              intro x9 ex9; subst ex9
                              intro H locs hP hD hS ls hl
                              have hl : lv_has ls 10 [(0, .ref (r 1)), (1, .int (nI t9)), (2, .int (nI sd)), (3, .int (nI q)), (4, .int (nI e9)), (5, .int (nI (zp_cnt (zy_wk s a z sd) (9 * R + d)))), (6, .int (nI R)), (7, .int (nI d)), (8, .ref (r 30)), (9, .int (nI o))] := hl
                              refine lv_iload hx hb dX2_weeks_80 (lv_at hl 9 rfl) ?_
                              refine lv_bipush (v := nI 7) hx hb dX2_weeks_82 (by decide) ?_
                              refine zx_icmp_ge hx hb (tgt := 123) (by omega) (by omega) dX2_weeks_84 (by decide) (fun c_84 => ?_) (fun c_84 => ?_)
                              · refine lv_aload hx hb dX2_weeks_123 (lv_at hl 8 rfl) ?_
                                refine zx_V_v (As := []) (rest := []) cf (c_X0_settle l D cI cB r y9 a z v9  (by rw [g2]; exact zy_Em_lt _ _ _ _) (by rw [g3]; exact zy_Tm_lt _ _ _ _) (by rw [g1, show o = 7 by omega]; exact zp_bits_lt _ 7) (by rw [gw]; exact zp_ah_rng i10 (iZ d (by omega)))) (cwV 0 hts gX2_weeks_X0_settle rfl rfl rfl ⟨rfl, hd_X0_settle⟩ ⟨Nat.le_of_ble_eq_true rfl, Nat.le_of_ble_eq_true rfl⟩) hK hN hP hD hS hA 17 rfl rfl rfl hl.1 rfl (Nat.le_of_ble_eq_true rfl) dX2_weeks_125 ⟨Nat.zero_le _, Nat.zero_le _⟩ (fun v_125 u_125 H locs hq hP hD hS => ?_)
                                subst hq
                                refine lv_aload hx hb dX2_weeks_128 (lv_at hl 8 rfl) ?_
                                refine va_get (D := D) (ci := 0) (v := .int (nI (zy_s (zy_f (y9 32) (y9 33) (y9 31) v9) v9))) (C := RX0) (T := TX0) (N := 7) hx hb hts hi0 hown hK hP 17 rfl rfl 6 (by decide) k180 (fun _ h9 => h9) rfl dX2_weeks_130 ?_
                                refine zx_if_eq hx hb (tgt := 139) (by have := (zy_hls (y9 32) (y9 33) (y9 31) v9).2.2; omega) dX2_weeks_133 (by decide) (fun c_133 => ?_) (fun c_133 => ?_)
                                · refine lv_iinc (v := nI (d + 1)) (lv' := [(7, .int (nI (d + 1))), (0, .ref (r 1)), (1, .int (nI t9)), (2, .int (nI sd)), (3, .int (nI q)), (4, .int (nI e9)), (5, .int (nI (zp_cnt (zy_wk s a z sd) (9 * R + d)))), (6, .int (nI R)), (8, .ref (r 30)), (9, .int (nI o))]) hx hb dX2_weeks_139 hl (k := 7) rfl (zx_inc _ _) (by decide) rfl (fun ls hl => ?_)
                                  refine lv_goto (tgt := 55) hx hb dX2_weeks_142 (by decide) ?_
                                  exact ih_55 (d + 1) e9 (zx_up (zx_up (zx_up y9 34 (zy_h (zy_f (y9 32) (y9 33) (y9 31) v9) v9)) 35 (zy_l (zy_f (y9 32) (y9 33) (y9 31) v9) v9)) 36 (zy_s (zy_f (y9 32) (y9 33) (y9 31) v9) v9)) v9 (by omega) (by omega) (by rw [ge, show 7 * (9 * R + (d + 1)) = 7 * (9 * R + d) + o by omega]) (fun k hk => by rw [zx_up_ne _ _ (by omega), zx_up_ne _ _ (by omega), zx_up_ne _ _ (by omega)]; exact gy k hk) _ rfl _ rfl _ rfl _ rfl _ (zp_cntF (f := (zy_wk s a z sd)) ((zy_wkB (L := y9 31) (sd := sd) (R := R) (z := z) (by omega) (by rw [show o = 7 by omega] at g1; exact g1) g2 g3 gw).trans (by simp [c_133]))) _ rfl _ rfl _ _ hP hD hS ls (lv_sub hl [1, 2, 3, 4, 5, 6, 7, 0] rfl)
                                · refine lv_iinc (v := nI (zp_cnt (zy_wk s a z sd) (9 * R + d) + 1)) (lv' := [(5, .int (nI (zp_cnt (zy_wk s a z sd) (9 * R + d) + 1))), (0, .ref (r 1)), (1, .int (nI t9)), (2, .int (nI sd)), (3, .int (nI q)), (4, .int (nI e9)), (6, .int (nI R)), (7, .int (nI d)), (8, .ref (r 30)), (9, .int (nI o))]) hx hb dX2_weeks_136 hl (k := 5) rfl (zx_inc _ _) (by decide) rfl (fun ls hl => ?_)
                                  refine lv_iinc (v := nI (d + 1)) (lv' := [(7, .int (nI (d + 1))), (5, .int (nI (zp_cnt (zy_wk s a z sd) (9 * R + d) + 1))), (0, .ref (r 1)), (1, .int (nI t9)), (2, .int (nI sd)), (3, .int (nI q)), (4, .int (nI e9)), (6, .int (nI R)), (8, .ref (r 30)), (9, .int (nI o))]) hx hb dX2_weeks_139 hl (k := 7) rfl (zx_inc _ _) (by decide) rfl (fun ls hl => ?_)
                                  refine lv_goto (tgt := 55) hx hb dX2_weeks_142 (by decide) ?_
                                  exact ih_55 (d + 1) e9 (zx_up (zx_up (zx_up y9 34 (zy_h (zy_f (y9 32) (y9 33) (y9 31) v9) v9)) 35 (zy_l (zy_f (y9 32) (y9 33) (y9 31) v9) v9)) 36 (zy_s (zy_f (y9 32) (y9 33) (y9 31) v9) v9)) v9 (by omega) (by omega) (by rw [ge, show 7 * (9 * R + (d + 1)) = 7 * (9 * R + d) + o by omega]) (fun k hk => by rw [zx_up_ne _ _ (by omega), zx_up_ne _ _ (by omega), zx_up_ne _ _ (by omega)]; exact gy k hk) _ rfl _ rfl _ rfl _ rfl _ (zp_cntT (f := (zy_wk s a z sd)) ((zy_wkB (L := y9 31) (sd := sd) (R := R) (z := z) (by omega) (by rw [show o = 7 by omega] at g1; exact g1) g2 g3 gw).trans (by simp [c_133]))) _ rfl _ rfl _ _ hP hD hS ls (lv_sub hl [2, 3, 4, 5, 6, 1, 7, 0] rfl)
                              · refine lv_iload hx hb dX2_weeks_87 (lv_at hl 4 rfl) ?_
                                refine zx_S (As := [.int (nI e9)]) (rest := []) cf (c_X2_nextSeed l D e9 ) (va_cwS 1 hts gX2_weeks_X2_nextSeed rfl rfl rfl hd_X2_nextSeed ⟨Nat.le_of_ble_eq_true rfl, Nat.le_of_ble_eq_true rfl⟩) hK hN hP hS hA rfl hl.1 rfl (Nat.le_of_ble_eq_true rfl) dX2_weeks_89 ⟨Nat.zero_le _, Nat.zero_le _⟩ (fun H locs hP hS => ?_)
                                refine lv_istore (lv' := [(4, .int (nI (zp_nx e9))), (0, .ref (r 1)), (1, .int (nI t9)), (2, .int (nI sd)), (3, .int (nI q)), (5, .int (nI (zp_cnt (zy_wk s a z sd) (9 * R + d)))), (6, .int (nI R)), (7, .int (nI d)), (8, .ref (r 30)), (9, .int (nI o))]) hx hb dX2_weeks_92 hl (by decide) rfl (fun ls hl => ?_)
                                refine lv_iload hx hb dX2_weeks_94 (lv_at hl 0 rfl) ?_
                                refine lv_iconst (v := nI 4) hx hb dX2_weeks_96 (by decide) ?_
                                refine zx_S (As := [.int (nI (zp_nx e9)), .int (nI 4)]) (rest := []) cf (c_X2_drawOf l D (zp_nx e9) (zp_nx_lt _)) (va_cwS 2 hts gX2_weeks_X2_drawOf rfl rfl rfl hd_X2_drawOf ⟨Nat.le_of_ble_eq_true rfl, Nat.le_of_ble_eq_true rfl⟩) hK hN hP hS hA rfl hl.1 rfl (Nat.le_of_ble_eq_true rfl) dX2_weeks_97 ⟨Nat.zero_le _, Nat.zero_le _⟩ (fun H locs hP hS => ?_)
                                refine zx_if_ne hx hb (tgt := 117) (by omega) dX2_weeks_100 (by decide) (fun c_100 => ?_) (fun c_100 => ?_)
                                · refine lv_iinc (v := nI (o + 1)) (lv' := [(9, .int (nI (o + 1))), (4, .int (nI (zp_nx e9))), (0, .ref (r 1)), (1, .int (nI t9)), (2, .int (nI sd)), (3, .int (nI q)), (5, .int (nI (zp_cnt (zy_wk s a z sd) (9 * R + d)))), (6, .int (nI R)), (7, .int (nI d)), (8, .ref (r 30))]) hx hb dX2_weeks_117 hl (k := 9) rfl (zx_inc _ _) (by decide) rfl (fun ls hl => ?_)
                                  refine lv_goto (tgt := 80) hx hb dX2_weeks_120 (by decide) ?_
                                  exact ih_80 (o + 1) (zp_nx e9) y9 v9 (by omega) (by omega) (by rw [ge]; rfl) (zy_bor0 (f := (fun o9 => decide (zp_sq sd (7 * (9 * R + d) + o9 + 1) / 65536 % 4 = 0))) g1 (decide_eq_false (by show ¬ zp_nx (zp_sq sd (7 * (9 * R + d) + o)) / 65536 % 4 = 0; rw [← ge]; exact c_100))) g2 g3 gw gy _ rfl _ rfl _ rfl _ rfl _ rfl _ rfl _ rfl _ rfl _ _ hP hD hS ls (lv_sub hl [2, 3, 4, 5, 1, 6, 7, 8, 9, 0] rfl)
                                · refine lv_aload hx hb dX2_weeks_103 (lv_at hl 8 rfl) ?_
                                  refine lv_dup hx hb dX2_weeks_105 rfl ?_
                                  refine va_get (D := D) (ci := 0) (v := .int (nI (y9 31))) (C := RX0) (T := TX0) (N := 7) hx hb hts hi0 hown hK hP 17 rfl rfl 1 (by decide) k171 (fun _ h9 => h9) rfl dX2_weeks_106 ?_
                                  refine lv_iconst (v := nI 1) hx hb dX2_weeks_109 (by decide) ?_
                                  refine lv_iload hx hb dX2_weeks_110 (lv_at hl 9 rfl) ?_
                                  refine zx_ishl1 hx hb (by omega) dX2_weeks_112 ?_
                                  refine zx_ior hx hb dX2_weeks_113 ?_
                                  refine zx_put (D := D) (ci := 0) (ty := .int) (v := .int (nI ((y9 31) ||| (2 ^ o)))) (ws' := (zy_w cI r) ((zx_up y9 31 ((y9 31) ||| (2 ^ o))), a, z, v9)) (C := RX0) (T := TX0) (N := 7) hx hb hts hi0 tyX0 tyX0_ok nmX0 hown hK hP hD hS 17 rfl rfl 1 (by decide) k171 (fun _ h9 => h9) rfl (by decide +kernel) rfl rfl (Nat.le_of_ble_eq_true rfl) rfl dX2_weeks_114 (fun H locs hP hD hS => ?_)
                                  refine lv_iinc (v := nI (o + 1)) (lv' := [(9, .int (nI (o + 1))), (4, .int (nI (zp_nx e9))), (0, .ref (r 1)), (1, .int (nI t9)), (2, .int (nI sd)), (3, .int (nI q)), (5, .int (nI (zp_cnt (zy_wk s a z sd) (9 * R + d)))), (6, .int (nI R)), (7, .int (nI d)), (8, .ref (r 30))]) hx hb dX2_weeks_117 hl (k := 9) rfl (zx_inc _ _) (by decide) rfl (fun ls hl => ?_)
                                  refine lv_goto (tgt := 80) hx hb dX2_weeks_120 (by decide) ?_
                                  exact ih_80 (o + 1) (zp_nx e9) (zx_up y9 31 ((y9 31) ||| (2 ^ o))) v9 (by omega) (by omega) (by rw [ge]; rfl) (zy_bor1 (f := (fun o9 => decide (zp_sq sd (7 * (9 * R + d) + o9 + 1) / 65536 % 4 = 0))) g1 (decide_eq_true (by show zp_nx (zp_sq sd (7 * (9 * R + d) + o)) / 65536 % 4 = 0; rw [← ge]; exact c_100))) g2 g3 gw (fun k hk => by rw [zx_up_ne _ _ (by omega)]; exact gy k hk) _ rfl _ rfl _ rfl _ rfl _ rfl _ rfl _ rfl _ rfl _ _ hP hD hS ls (lv_sub hl [2, 3, 4, 5, 1, 6, 7, 8, 9, 0] rfl)
                          exact lp_80 _ 0 e9 (zx_up (zx_up (zx_up y9 32 (zy_Em y9 a 99 d)) 33 (zy_Tm y9 a 99 d)) 31 0) (zp_ah (y9 10) (z d)) (Nat.lt_succ_self _) (Nat.zero_le _) ge rfl (zy_Em_y gy) (zy_Tm_y gy) (by rw [gy 10 (by decide)]) (fun k hk => by rw [zx_up_ne _ _ (by omega), zx_up_ne _ _ (by omega), zx_up_ne _ _ (by omega)]; exact gy k hk) _ rfl _ rfl _ rfl _ rfl _ rfl _ rfl _ rfl _ rfl _ _ hP hD hS ls (lv_sub hl [2, 3, 4, 5, 6, 7, 8, 9, 1, 0] rfl)
                    exact lp_55 _ 0 e9 y9 v9 (Nat.lt_succ_self _) (Nat.zero_le _) ge gy _ rfl _ rfl _ rfl _ rfl _ rfl _ rfl _ rfl _ _ hP hD hS ls (lv_sub hl [1, 2, 3, 4, 5, 6, 7, 0] rfl)
              exact lp_46 _ 0 sd s ah (Nat.lt_succ_self _) (Nat.zero_le _) rfl (fun _ _ => rfl) _ rfl _ rfl _ rfl _ rfl _ rfl _ rfl _ _ hP hD hS ls (lv_sub hl [3, 4, 5, 6, 2, 1, 0] rfl)
            · refine lv_bipush (v := (-103)) hx hb dX2_weeks_34 (by decide) ?_
              exact hret _ _ _ _ _ _ hP hD hS dX2_weeks_36 (zd_inl (zd_wk_s hz c_12 hw (by omega)) ⟨rfl, rfl⟩)
          · refine lv_bipush (v := (-102)) hx hb dX2_weeks_24 (by decide) ?_
            exact hret _ _ _ _ _ _ hP hD hS dX2_weeks_26 (zd_inl (by have e9 : zd_rng 0 1 w9 = none := zd_nos (decide_eq_false (fun q9 => c_21 q9.2)); unfold zd_weeks; simp only [hz, e9]; exact if_neg c_12) ⟨rfl, rfl⟩)
