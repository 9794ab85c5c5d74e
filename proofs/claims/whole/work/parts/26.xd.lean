set_option maxHeartbeats 4000000 in
set_option maxRecDepth 100000 in
theorem c_X2_person (l : Launch) (D : va_G) (cI cB : ClassId) (r : Nat → Nat) (s : Nat → Nat) (a : Nat → Nat → Nat) (z : Nat → Int) (ah : Int) (x y t9 : Int32) (hI : zy_I s a z) : zx_C zx_ei l D (zm_t cI cB) (zy_w cI r) yX2_person wsX2_person rmX2_person [.ref (r 1), .int x, .int y, .int t9] (s, a, z, ah) (fun v u' => zd_out (zd_person (s 2) (s 11) x y t9) (fun e9 => v = e9 ∧ u' = (s, a, z, ah)) (fun k => v = nI (s 11) ∧ u' = (zx_up s 11 (s 11 + 1), zx_up (zx_up (zx_up a 13 (zx_up (a 13) (s 11) k.1)) 14 (zx_up (a 14) (s 11) k.2.1)) 15 (zx_up (a 15) (s 11) k.2.2), z, ah))) := by
  refine zx_of_i (cc := cX2_person) (maxL := 5) (by decide) rfl (Nat.le_of_ble_eq_true rfl) ?_
  intro p e st m args below meth c A Q H cf hK hN hP hD hS hA hret ls hl
  obtain ⟨hx, hb, hml, hown, hts⟩ := id cf
  have hi2 : ∀ w ∈ wsX20, w ∈ wsX2_person := fun w h => List.mem_cons_of_mem _ (List.mem_append_left _ (List.mem_append_right _ h))
  have hi1 : ∀ w ∈ wsX10, w ∈ wsX2_person := fun w h => List.mem_cons_of_mem _ (List.mem_append_right _ h)
  have k19 := hts (.fieldLink RX2 19 "NineDrawers" "hall" "LNineDrawers$Hall;") (List.mem_of_getElem? (i := 1) (by decide +kernel))
  have k94 := hts (.fieldLink RX2 94 "NineDrawers$Hall" "people" "I") (List.mem_of_getElem? (i := 2) (by decide +kernel))
  have k97 := hts (.fieldLink RX2 97 "NineDrawers$Hall" "kindOf" "[I") (List.mem_of_getElem? (i := 3) (by decide +kernel))
  have k100 := hts (.fieldLink RX2 100 "NineDrawers$Hall" "drawerOf" "[I") (List.mem_of_getElem? (i := 4) (by decide +kernel))
  have k103 := hts (.fieldLink RX2 103 "NineDrawers$Hall" "ownDayOf" "[I") (List.mem_of_getElem? (i := 5) (by decide +kernel))
  have hl : lv_has ls 5 [(0, .ref (r 1)), (1, .int x), (2, .int y), (3, .int t9)] := hl
  have hP : va_P D vwCl ((zy_w cI r) (s, a, z, ah)) H := hP
  have hD : va_D A ((zy_w cI r) (s, a, z, ah)) := hD
  obtain ⟨⟨i1, i2, i5, i7, i8, i10, i11, i12⟩, ⟨i20, i21, i22⟩, iG, iP, iL, iZ, jP, jL⟩ := id hI
  refine lv_iload_n hx hb dX2_person_0 rfl (lv_at hl 1 rfl) ?_
  refine zx_S (As := [.int x]) (rest := []) cf (c_X2_isKind l D x ) (va_cwS 1 hts gX2_person_X2_isKind rfl rfl rfl hd_X2_isKind ⟨Nat.le_of_ble_eq_true rfl, Nat.le_of_ble_eq_true rfl⟩) hK hN hP hS hA rfl hl.1 rfl (Nat.le_of_ble_eq_true rfl) dX2_person_1 ⟨Nat.zero_le _, Nat.zero_le _⟩ (fun H locs hP hS => ?_)
  refine zx_bf_ne hx hb (tgt := 10) dX2_person_4 (by decide) (fun c_4 => ?_) (fun c_4 => ?_)
  · obtain ⟨k, rfl, hk1, hk2, hz⟩ := zd_yes (by decide) (by decide) c_4
    refine lv_aload_n hx hb dX2_person_10 rfl (lv_at hl 0 rfl) ?_
    refine lv_iload_n hx hb dX2_person_11 rfl (lv_at hl 2 rfl) ?_
    refine zx_V_i (As := [.int y]) (rest := []) cf (c_X2_isDrawer l D cI cB r s a z ah y hI) (cwV 1 hts gX2_person_X2_isDrawer rfl rfl rfl ⟨rfl, hd_X2_isDrawer⟩ ⟨Nat.le_of_ble_eq_true rfl, Nat.le_of_ble_eq_true rfl⟩) hK hN hP hD hS hA 0 rfl rfl rfl hl.1 rfl (Nat.le_of_ble_eq_true rfl) dX2_person_12 ⟨Nat.zero_le _, Nat.zero_le _⟩ (fun v_12 u_12 H locs hq hP hD hS => ?_)
    obtain ⟨rfl, rfl⟩ := hq
    refine zx_bf_eq hx hb (tgt := 25) dX2_person_15 (by decide) (fun c_15 => ?_) (fun c_15 => ?_)
    · refine lv_bipush (v := (-101)) hx hb dX2_person_25 (by decide) ?_
      exact hret _ _ _ _ _ _ hP hD hS dX2_person_27 (zd_inl (by unfold zd_person; simp only [hz, zd_none c_15]) ⟨rfl, rfl⟩)
    · obtain ⟨d, hy⟩ := zd_some c_15
      obtain ⟨rfl, hd, hc9⟩ := zd_drw_some hy
      refine lv_iload_n hx hb dX2_person_18 rfl (lv_at hl 3 rfl) ?_
      refine zx_S (As := [.int t9]) (rest := []) cf (c_X2_isDay l D t9 ) (va_cwS 1 hts gX2_person_X2_isDay rfl rfl rfl hd_X2_isDay ⟨Nat.le_of_ble_eq_true rfl, Nat.le_of_ble_eq_true rfl⟩) hK hN hP hS hA rfl hl.1 rfl (Nat.le_of_ble_eq_true rfl) dX2_person_19 ⟨Nat.zero_le _, Nat.zero_le _⟩ (fun H locs hP hS => ?_)
      refine zx_bf_ne hx hb (tgt := 28) dX2_person_22 (by decide) (fun c_22 => ?_) (fun c_22 => ?_)
      · obtain ⟨o, rfl, ho1, ho2, ht⟩ := zd_yes (by decide) (by decide) c_22
        refine lv_aload_n hx hb dX2_person_28 rfl (lv_at hl 0 rfl) ?_
        refine va_get (D := D) (ci := 2) (v := .ref (r 10)) (C := RX2) (T := TX2) (N := 10) hx hb hts hi2 hown hK hP 0 rfl rfl 4 (by decide) k19 (fun _ h9 => h9) rfl dX2_person_29 ?_
        refine va_get (D := D) (ci := 1) (v := .int (nI (s 11))) (C := RX1) (T := TX1) (N := 9) hx hb hts hi1 hown hK hP 3 rfl rfl 1 (by decide) k94 (fun _ h9 => h9) rfl dX2_person_32 ?_
        refine lv_bipush (v := nI 6) hx hb dX2_person_35 (by decide) ?_
        refine zx_icmp_lt hx hb (tgt := 43) (by omega) (by omega) dX2_person_37 (by decide) (fun c_37 => ?_) (fun c_37 => ?_)
        · refine lv_aload_n hx hb dX2_person_43 rfl (lv_at hl 0 rfl) ?_
          refine va_get (D := D) (ci := 2) (v := .ref (r 10)) (C := RX2) (T := TX2) (N := 10) hx hb hts hi2 hown hK hP 0 rfl rfl 4 (by decide) k19 (fun _ h9 => h9) rfl dX2_person_44 ?_
          refine va_get (D := D) (ci := 1) (v := .int (nI (s 11))) (C := RX1) (T := TX1) (N := 9) hx hb hts hi1 hown hK hP 3 rfl rfl 1 (by decide) k94 (fun _ h9 => h9) rfl dX2_person_47 ?_
          refine lv_istore (lv' := [(4, .int (nI (s 11))), (0, .ref (r 1)), (1, .int (nI k)), (2, .int (nI d)), (3, .int (nI o))]) hx hb dX2_person_50 hl (by decide) rfl (fun ls hl => ?_)
          refine lv_aload_n hx hb dX2_person_52 rfl (lv_at hl 1 rfl) ?_
          refine va_get (D := D) (ci := 2) (v := .ref (r 10)) (C := RX2) (T := TX2) (N := 10) hx hb hts hi2 hown hK hP 0 rfl rfl 4 (by decide) k19 (fun _ h9 => h9) rfl dX2_person_53 ?_
          refine va_get (D := D) (ci := 1) (v := .ref (r 13)) (C := RX1) (T := TX1) (N := 9) hx hb hts hi1 hown hK hP 3 rfl rfl 3 (by decide) k97 (fun _ h9 => h9) rfl dX2_person_56 ?_
          refine lv_iload hx hb dX2_person_59 (lv_at hl 0 rfl) ?_
          refine lv_iload_n hx hb dX2_person_61 rfl (lv_at hl 2 rfl) ?_
          refine zx_ast (f := a 13) (n := 6) (ws' := (zy_w cI r) (s, (zx_up a 13 (zx_up (a 13) (s 11) k)), z, ah)) hx hb hK hP hD hS 4 0 rfl rfl (by omega) (by decide) rfl dX2_person_62 (fun H locs hP hD hS => ?_)
          refine lv_aload_n hx hb dX2_person_63 rfl (lv_at hl 1 rfl) ?_
          refine va_get (D := D) (ci := 2) (v := .ref (r 10)) (C := RX2) (T := TX2) (N := 10) hx hb hts hi2 hown hK hP 0 rfl rfl 4 (by decide) k19 (fun _ h9 => h9) rfl dX2_person_64 ?_
          refine va_get (D := D) (ci := 1) (v := .ref (r 14)) (C := RX1) (T := TX1) (N := 9) hx hb hts hi1 hown hK hP 3 rfl rfl 4 (by decide) k100 (fun _ h9 => h9) rfl dX2_person_67 ?_
          refine lv_iload hx hb dX2_person_70 (lv_at hl 0 rfl) ?_
          refine lv_iload_n hx hb dX2_person_72 rfl (lv_at hl 3 rfl) ?_
          refine zx_ast (f := a 14) (n := 6) (ws' := (zy_w cI r) (s, (zx_up (zx_up a 13 (zx_up (a 13) (s 11) k)) 14 (zx_up (a 14) (s 11) d)), z, ah)) hx hb hK hP hD hS 5 0 rfl rfl (by omega) (by decide) rfl dX2_person_73 (fun H locs hP hD hS => ?_)
          refine lv_aload_n hx hb dX2_person_74 rfl (lv_at hl 1 rfl) ?_
          refine va_get (D := D) (ci := 2) (v := .ref (r 10)) (C := RX2) (T := TX2) (N := 10) hx hb hts hi2 hown hK hP 0 rfl rfl 4 (by decide) k19 (fun _ h9 => h9) rfl dX2_person_75 ?_
          refine va_get (D := D) (ci := 1) (v := .ref (r 15)) (C := RX1) (T := TX1) (N := 9) hx hb hts hi1 hown hK hP 3 rfl rfl 5 (by decide) k103 (fun _ h9 => h9) rfl dX2_person_78 ?_
          refine lv_iload hx hb dX2_person_81 (lv_at hl 0 rfl) ?_
          refine lv_iload_n hx hb dX2_person_83 rfl (lv_at hl 4 rfl) ?_
          refine zx_ast (f := a 15) (n := 6) (ws' := (zy_w cI r) (s, (zx_up (zx_up (zx_up a 13 (zx_up (a 13) (s 11) k)) 14 (zx_up (a 14) (s 11) d)) 15 (zx_up (a 15) (s 11) o)), z, ah)) hx hb hK hP hD hS 6 0 rfl rfl (by omega) (by decide) rfl dX2_person_84 (fun H locs hP hD hS => ?_)
          refine lv_aload_n hx hb dX2_person_85 rfl (lv_at hl 1 rfl) ?_
          refine va_get (D := D) (ci := 2) (v := .ref (r 10)) (C := RX2) (T := TX2) (N := 10) hx hb hts hi2 hown hK hP 0 rfl rfl 4 (by decide) k19 (fun _ h9 => h9) rfl dX2_person_86 ?_
          refine lv_dup hx hb dX2_person_89 rfl ?_
          refine va_get (D := D) (ci := 1) (v := .int (nI (s 11))) (C := RX1) (T := TX1) (N := 9) hx hb hts hi1 hown hK hP 3 rfl rfl 1 (by decide) k94 (fun _ h9 => h9) rfl dX2_person_90 ?_
          refine lv_iconst (v := nI 1) hx hb dX2_person_93 (by decide) ?_
          refine zx_iadd hx hb dX2_person_94 ?_
          refine zx_put (D := D) (ci := 1) (ty := .int) (v := .int (nI ((s 11) + 1))) (ws' := (zy_w cI r) ((zx_up s 11 ((s 11) + 1)), (zx_up (zx_up (zx_up a 13 (zx_up (a 13) (s 11) k)) 14 (zx_up (a 14) (s 11) d)) 15 (zx_up (a 15) (s 11) o)), z, ah)) (C := RX1) (T := TX1) (N := 9) hx hb hts hi1 tyX1 tyX1_ok nmX1 hown hK hP hD hS 3 rfl rfl 1 (by decide) k94 (fun _ h9 => h9) rfl (by decide +kernel) rfl rfl (Nat.le_of_ble_eq_true rfl) rfl dX2_person_95 (fun H locs hP hD hS => ?_)
          refine lv_iload hx hb dX2_person_98 (lv_at hl 0 rfl) ?_
          exact hret _ _ _ _ _ _ hP hD hS dX2_person_100 (zd_inr (k := (k, d, o)) (by unfold zd_person; simp only [hz, hy, ht]; exact if_neg (by omega)) ⟨rfl, rfl⟩)
        · refine lv_bipush (v := (-104)) hx hb dX2_person_40 (by decide) ?_
          exact hret _ _ _ _ _ _ hP hD hS dX2_person_42 (zd_inl (by unfold zd_person; simp only [hz, hy, ht]; exact if_pos (by omega)) ⟨rfl, rfl⟩)
      · refine lv_bipush (v := (-101)) hx hb dX2_person_25 (by decide) ?_
        exact hret _ _ _ _ _ _ hP hD hS dX2_person_27 (zd_inl (by unfold zd_person; simp only [hz, hy, zd_nos c_22]) ⟨rfl, rfl⟩)
  · refine lv_bipush (v := (-102)) hx hb dX2_person_7 (by decide) ?_
    exact hret _ _ _ _ _ _ hP hD hS dX2_person_9 (zd_inl (by unfold zd_person; simp only [zd_nos c_4]) ⟨rfl, rfl⟩)
set_option maxHeartbeats 4000000 in
set_option maxRecDepth 100000 in
theorem c_X2_about (l : Launch) (D : va_G) (cI cB : ClassId) (r : Nat → Nat) (s : Nat → Nat) (a : Nat → Nat → Nat) (z : Nat → Int) (ah : Int) (x y : Int32) (hI : zy_I s a z) : zx_C zx_ei l D (zm_t cI cB) (zy_w cI r) yX2_about wsX2_about rmX2_about [.ref (r 1), .int x, .int y] (s, a, z, ah) (fun v u' => v = zs_ab (zd_per (s 11) x) y (fun p9 q => zp_ab (a 13 p9) (a 14 p9) (a 15 p9) q) ∧ u' = (s, a, z, ah)) := by
  refine zx_of_i (cc := cX2_about) (maxL := 5) (by decide) rfl (Nat.le_of_ble_eq_true rfl) ?_
  intro p e st m args below meth c A Q H cf hK hN hP hD hS hA hret ls hl
  obtain ⟨hx, hb, hml, hown, hts⟩ := id cf
  have hi2 : ∀ w ∈ wsX20, w ∈ wsX2_about := fun w h => List.mem_cons_of_mem _ (List.mem_append_left _ (List.mem_append_right _ h))
  have hi1 : ∀ w ∈ wsX10, w ∈ wsX2_about := fun w h => List.mem_cons_of_mem _ (List.mem_append_right _ h)
  have k19 := hts (.fieldLink RX2 19 "NineDrawers" "hall" "LNineDrawers$Hall;") (List.mem_of_getElem? (i := 1) (by decide +kernel))
  have k97 := hts (.fieldLink RX2 97 "NineDrawers$Hall" "kindOf" "[I") (List.mem_of_getElem? (i := 2) (by decide +kernel))
  have k103 := hts (.fieldLink RX2 103 "NineDrawers$Hall" "ownDayOf" "[I") (List.mem_of_getElem? (i := 3) (by decide +kernel))
  have k100 := hts (.fieldLink RX2 100 "NineDrawers$Hall" "drawerOf" "[I") (List.mem_of_getElem? (i := 4) (by decide +kernel))
  have hl : lv_has ls 5 [(0, .ref (r 1)), (1, .int x), (2, .int y)] := hl
  have hP : va_P D vwCl ((zy_w cI r) (s, a, z, ah)) H := hP
  have hD : va_D A ((zy_w cI r) (s, a, z, ah)) := hD
  obtain ⟨⟨i1, i2, i5, i7, i8, i10, i11, i12⟩, ⟨i20, i21, i22⟩, iG, iP, iL, iZ, jP, jL⟩ := id hI
  refine lv_aload_n hx hb dX2_about_0 rfl (lv_at hl 0 rfl) ?_
  refine lv_iload_n hx hb dX2_about_1 rfl (lv_at hl 1 rfl) ?_
  refine zx_V_i (As := [.int x]) (rest := []) cf (c_X2_isPerson l D cI cB r s a z ah x hI) (cwV 1 hts gX2_about_X2_isPerson rfl rfl rfl ⟨rfl, hd_X2_isPerson⟩ ⟨Nat.le_of_ble_eq_true rfl, Nat.le_of_ble_eq_true rfl⟩) hK hN hP hD hS hA 0 rfl rfl rfl hl.1 rfl (Nat.le_of_ble_eq_true rfl) dX2_about_2 ⟨Nat.zero_le _, Nat.zero_le _⟩ (fun v_2 u_2 H locs hq hP hD hS => ?_)
  obtain ⟨rfl, rfl⟩ := hq
  refine zx_bf_ne hx hb (tgt := 11) dX2_about_5 (by decide) (fun c_5 => ?_) (fun c_5 => ?_)
  · obtain ⟨p9, hz⟩ := zd_some c_5
    obtain ⟨rfl, hp9⟩ := zd_per_some (by omega) hz
    have hKO := iP p9 (by omega)
    have hKK := hKO.1
    have hOO := hKO.2.2
    refine lv_aload_n hx hb dX2_about_11 rfl (lv_at hl 0 rfl) ?_
    refine va_get (D := D) (ci := 2) (v := .ref (r 10)) (C := RX2) (T := TX2) (N := 10) hx hb hts hi2 hown hK hP 0 rfl rfl 4 (by decide) k19 (fun _ h9 => h9) rfl dX2_about_12 ?_
    refine va_get (D := D) (ci := 1) (v := .ref (r 13)) (C := RX1) (T := TX1) (N := 9) hx hb hts hi1 hown hK hP 3 rfl rfl 3 (by decide) k97 (fun _ h9 => h9) rfl dX2_about_15 ?_
    refine lv_iload_n hx hb dX2_about_18 rfl (lv_at hl 1 rfl) ?_
    refine zx_ald (f := a 13) (n := 6) hx hb hK hP 4 0 rfl rfl (by omega) (by decide) dX2_about_19 ?_
    refine lv_istore_n (lv' := [(3, .int (nI ((a 13) p9))), (0, .ref (r 1)), (1, .int (nI p9)), (2, .int y)]) hx hb dX2_about_20 rfl hl (by decide) rfl (fun ls hl => ?_)
    refine lv_aload_n hx hb dX2_about_21 rfl (lv_at hl 1 rfl) ?_
    refine va_get (D := D) (ci := 2) (v := .ref (r 10)) (C := RX2) (T := TX2) (N := 10) hx hb hts hi2 hown hK hP 0 rfl rfl 4 (by decide) k19 (fun _ h9 => h9) rfl dX2_about_22 ?_
    refine va_get (D := D) (ci := 1) (v := .ref (r 15)) (C := RX1) (T := TX1) (N := 9) hx hb hts hi1 hown hK hP 3 rfl rfl 5 (by decide) k103 (fun _ h9 => h9) rfl dX2_about_25 ?_
    refine lv_iload_n hx hb dX2_about_28 rfl (lv_at hl 2 rfl) ?_
    refine zx_ald (f := a 15) (n := 6) hx hb hK hP 6 0 rfl rfl (by omega) (by decide) dX2_about_29 ?_
    refine lv_istore (lv' := [(4, .int (nI ((a 15) p9))), (3, .int (nI ((a 13) p9))), (0, .ref (r 1)), (1, .int (nI p9)), (2, .int y)]) hx hb dX2_about_30 hl (by decide) rfl (fun ls hl => ?_)
    refine lv_iload_n hx hb dX2_about_32 rfl (lv_at hl 4 rfl) ?_
    refine lv_if_ne (tgt := 38) hx hb dX2_about_33 (by decide) (fun c_33 => ?_) (fun c_33 => ?_)
    · refine lv_iload_n hx hb dX2_about_38 rfl (lv_at hl 4 rfl) ?_
      refine lv_iconst (v := nI 1) hx hb dX2_about_39 (by decide) ?_
      refine lv_icmp_ne (tgt := 53) hx hb dX2_about_40 (by decide) (fun c_40 => ?_) (fun c_40 => ?_)
      · refine lv_iload_n hx hb dX2_about_53 rfl (lv_at hl 4 rfl) ?_
        refine lv_iconst (v := nI 2) hx hb dX2_about_54 (by decide) ?_
        refine lv_icmp_ne (tgt := 61) hx hb dX2_about_55 (by decide) (fun c_55 => ?_) (fun c_55 => ?_)
        · refine lv_iload_n hx hb dX2_about_61 rfl (lv_at hl 4 rfl) ?_
          refine lv_bipush (v := nI 10) hx hb dX2_about_62 (by decide) ?_
          refine lv_icmp_lt (tgt := 87) hx hb dX2_about_64 (by decide) (fun c_64 => ?_) (fun c_64 => ?_)
          · refine lv_iload_n hx hb dX2_about_87 rfl (lv_at hl 4 rfl) ?_
            refine lv_bipush (v := nI 20) hx hb dX2_about_88 (by decide) ?_
            refine lv_icmp_lt (tgt := 113) hx hb dX2_about_90 (by decide) (fun c_90 => ?_) (fun c_90 => ?_)
            · refine lv_bipush (v := (-102)) hx hb dX2_about_113 (by decide) ?_
              exact hret _ _ _ _ _ _ hP hD hS dX2_about_115 ⟨by rw [hz]; exact (zs_abn (zd_abn (zd_rng02 c_33 c_40 c_55) (zd_nos (decide_eq_false (fun q9 => zx_ltle c_64 q9.1))) (zd_nos (decide_eq_false (fun q9 => zx_ltle c_90 q9.1))))).symm, rfl⟩
            · refine lv_iload_n hx hb dX2_about_93 rfl (lv_at hl 4 rfl) ?_
              refine lv_bipush (v := nI 27) hx hb dX2_about_94 (by decide) ?_
              refine lv_icmp_ge (tgt := 113) hx hb dX2_about_96 (by decide) (fun c_96 => ?_) (fun c_96 => ?_)
              · refine lv_bipush (v := (-102)) hx hb dX2_about_113 (by decide) ?_
                exact hret _ _ _ _ _ _ hP hD hS dX2_about_115 ⟨by rw [hz]; exact (zs_abn (zd_abn (zd_rng02 c_33 c_40 c_55) (zd_nos (decide_eq_false (fun q9 => zx_ltle c_64 q9.1))) (zd_nos (decide_eq_false (fun q9 => zx_geN (by decide) c_96 q9.2))))).symm, rfl⟩
              · obtain ⟨q, rfl, hq1, hq2, hy⟩ := zd_yes (lo := 20) (hi := 26) (by decide) (by decide) (decide_eq_true ⟨zx_nlt c_90, zx_ltN (by decide) c_96⟩)
                refine lv_iload_n hx hb dX2_about_99 rfl (lv_at hl 1 rfl) ?_
                refine lv_iload hx hb dX2_about_100 (lv_at hl 0 rfl) ?_
                refine zx_S (As := [.int (nI ((a 13) p9)), .int (nI ((a 15) p9))]) (rest := []) cf (c_X2_putsIfThere l D ((a 13) p9) ((a 15) p9) hKK hOO) (va_cwS 2 hts gX2_about_X2_putsIfThere rfl rfl rfl hd_X2_putsIfThere ⟨Nat.le_of_ble_eq_true rfl, Nat.le_of_ble_eq_true rfl⟩) hK hN hP hS hA rfl hl.1 rfl (Nat.le_of_ble_eq_true rfl) dX2_about_102 ⟨Nat.zero_le _, Nat.zero_le _⟩ (fun H locs hP hS => ?_)
                refine lv_iload_n hx hb dX2_about_105 rfl (lv_at hl 4 rfl) ?_
                refine lv_bipush (v := nI 20) hx hb dX2_about_106 (by decide) ?_
                refine zx_isub hx hb (by omega) dX2_about_108 ?_
                refine zx_S (As := [.int (nI (zp_T ((a 13) p9) ((a 15) p9))), .int (nI (q - 20))]) (rest := []) cf (c_X2_bitOf l D (zp_T ((a 13) p9) ((a 15) p9)) (q - 20) (by have := zp_T_lt (a 13 p9) (a 15 p9); omega) (by omega)) (va_cwS 2 hts gX2_about_X2_bitOf rfl rfl rfl hd_X2_bitOf ⟨Nat.le_of_ble_eq_true rfl, Nat.le_of_ble_eq_true rfl⟩) hK hN hP hS hA rfl hl.1 rfl (Nat.le_of_ble_eq_true rfl) dX2_about_109 ⟨Nat.zero_le _, Nat.zero_le _⟩ (fun H locs hP hS => ?_)
                exact hret _ _ _ _ _ _ hP hD hS dX2_about_112 ⟨by rw [hz, zs_abi (zd_abq (Or.inr (Or.inr hy)))]; exact zp_abT hq1 hq2, rfl⟩
          · refine lv_iload_n hx hb dX2_about_67 rfl (lv_at hl 4 rfl) ?_
            refine lv_bipush (v := nI 17) hx hb dX2_about_68 (by decide) ?_
            refine lv_icmp_ge (tgt := 87) hx hb dX2_about_70 (by decide) (fun c_70 => ?_) (fun c_70 => ?_)
            · refine lv_iload_n hx hb dX2_about_87 rfl (lv_at hl 4 rfl) ?_
              refine lv_bipush (v := nI 20) hx hb dX2_about_88 (by decide) ?_
              refine lv_icmp_lt (tgt := 113) hx hb dX2_about_90 (by decide) (fun c_90 => ?_) (fun c_90 => ?_)
              · refine lv_bipush (v := (-102)) hx hb dX2_about_113 (by decide) ?_
                exact hret _ _ _ _ _ _ hP hD hS dX2_about_115 ⟨by rw [hz]; exact (zs_abn (zd_abn (zd_rng02 c_33 c_40 c_55) (zd_nos (decide_eq_false (fun q9 => zx_geN (by decide) c_70 q9.2))) (zd_nos (decide_eq_false (fun q9 => zx_ltle c_90 q9.1))))).symm, rfl⟩
              · refine lv_iload_n hx hb dX2_about_93 rfl (lv_at hl 4 rfl) ?_
                refine lv_bipush (v := nI 27) hx hb dX2_about_94 (by decide) ?_
                refine lv_icmp_ge (tgt := 113) hx hb dX2_about_96 (by decide) (fun c_96 => ?_) (fun c_96 => ?_)
                · refine lv_bipush (v := (-102)) hx hb dX2_about_113 (by decide) ?_
                  exact hret _ _ _ _ _ _ hP hD hS dX2_about_115 ⟨by rw [hz]; exact (zs_abn (zd_abn (zd_rng02 c_33 c_40 c_55) (zd_nos (decide_eq_false (fun q9 => zx_geN (by decide) c_70 q9.2))) (zd_nos (decide_eq_false (fun q9 => zx_geN (by decide) c_96 q9.2))))).symm, rfl⟩
                · obtain ⟨q, rfl, hq1, hq2, hy⟩ := zd_yes (lo := 20) (hi := 26) (by decide) (by decide) (decide_eq_true ⟨zx_nlt c_90, zx_ltN (by decide) c_96⟩)
                  refine lv_iload_n hx hb dX2_about_99 rfl (lv_at hl 1 rfl) ?_
                  refine lv_iload hx hb dX2_about_100 (lv_at hl 0 rfl) ?_
                  refine zx_S (As := [.int (nI ((a 13) p9)), .int (nI ((a 15) p9))]) (rest := []) cf (c_X2_putsIfThere l D ((a 13) p9) ((a 15) p9) hKK hOO) (va_cwS 2 hts gX2_about_X2_putsIfThere rfl rfl rfl hd_X2_putsIfThere ⟨Nat.le_of_ble_eq_true rfl, Nat.le_of_ble_eq_true rfl⟩) hK hN hP hS hA rfl hl.1 rfl (Nat.le_of_ble_eq_true rfl) dX2_about_102 ⟨Nat.zero_le _, Nat.zero_le _⟩ (fun H locs hP hS => ?_)
                  refine lv_iload_n hx hb dX2_about_105 rfl (lv_at hl 4 rfl) ?_
                  refine lv_bipush (v := nI 20) hx hb dX2_about_106 (by decide) ?_
                  refine zx_isub hx hb (by omega) dX2_about_108 ?_
                  refine zx_S (As := [.int (nI (zp_T ((a 13) p9) ((a 15) p9))), .int (nI (q - 20))]) (rest := []) cf (c_X2_bitOf l D (zp_T ((a 13) p9) ((a 15) p9)) (q - 20) (by have := zp_T_lt (a 13 p9) (a 15 p9); omega) (by omega)) (va_cwS 2 hts gX2_about_X2_bitOf rfl rfl rfl hd_X2_bitOf ⟨Nat.le_of_ble_eq_true rfl, Nat.le_of_ble_eq_true rfl⟩) hK hN hP hS hA rfl hl.1 rfl (Nat.le_of_ble_eq_true rfl) dX2_about_109 ⟨Nat.zero_le _, Nat.zero_le _⟩ (fun H locs hP hS => ?_)
                  exact hret _ _ _ _ _ _ hP hD hS dX2_about_112 ⟨by rw [hz, zs_abi (zd_abq (Or.inr (Or.inr hy)))]; exact zp_abT hq1 hq2, rfl⟩
            · obtain ⟨q, rfl, hq1, hq2, hy⟩ := zd_yes (lo := 10) (hi := 16) (by decide) (by decide) (decide_eq_true ⟨zx_nlt c_64, zx_ltN (by decide) c_70⟩)
              refine lv_iload_n hx hb dX2_about_73 rfl (lv_at hl 1 rfl) ?_
              refine lv_iload hx hb dX2_about_74 (lv_at hl 0 rfl) ?_
              refine zx_S (As := [.int (nI ((a 13) p9)), .int (nI ((a 15) p9))]) (rest := []) cf (c_X2_putsIfEmpty l D ((a 13) p9) ((a 15) p9) hKK hOO) (va_cwS 2 hts gX2_about_X2_putsIfEmpty rfl rfl rfl hd_X2_putsIfEmpty ⟨Nat.le_of_ble_eq_true rfl, Nat.le_of_ble_eq_true rfl⟩) hK hN hP hS hA rfl hl.1 rfl (Nat.le_of_ble_eq_true rfl) dX2_about_76 ⟨Nat.zero_le _, Nat.zero_le _⟩ (fun H locs hP hS => ?_)
              refine lv_iload_n hx hb dX2_about_79 rfl (lv_at hl 4 rfl) ?_
              refine lv_bipush (v := nI 10) hx hb dX2_about_80 (by decide) ?_
              refine zx_isub hx hb (by omega) dX2_about_82 ?_
              refine zx_S (As := [.int (nI (zp_E ((a 13) p9) ((a 15) p9))), .int (nI (q - 10))]) (rest := []) cf (c_X2_bitOf l D (zp_E ((a 13) p9) ((a 15) p9)) (q - 10) (by have := zp_E_lt (a 13 p9) (a 15 p9); omega) (by omega)) (va_cwS 2 hts gX2_about_X2_bitOf rfl rfl rfl hd_X2_bitOf ⟨Nat.le_of_ble_eq_true rfl, Nat.le_of_ble_eq_true rfl⟩) hK hN hP hS hA rfl hl.1 rfl (Nat.le_of_ble_eq_true rfl) dX2_about_83 ⟨Nat.zero_le _, Nat.zero_le _⟩ (fun H locs hP hS => ?_)
              exact hret _ _ _ _ _ _ hP hD hS dX2_about_86 ⟨by rw [hz, zs_abi (zd_abq (Or.inr (Or.inl hy)))]; exact zp_abE hq1 hq2, rfl⟩
        · refine lv_iload hx hb dX2_about_58 (lv_at hl 0 rfl) ?_
          exact hret _ _ _ _ _ _ hP hD hS dX2_about_60 ⟨by rw [hz, c_55]; exact (zs_abi (F := fun p9 q => zp_ab (a 13 p9) (a 14 p9) (a 15 p9) q) (zd_abq (Or.inl (zd_rng_i (k := 2) (by decide) (by decide) (by decide))))).symm, rfl⟩
      · refine lv_aload_n hx hb dX2_about_43 rfl (lv_at hl 2 rfl) ?_
        refine va_get (D := D) (ci := 2) (v := .ref (r 10)) (C := RX2) (T := TX2) (N := 10) hx hb hts hi2 hown hK hP 0 rfl rfl 4 (by decide) k19 (fun _ h9 => h9) rfl dX2_about_44 ?_
        refine va_get (D := D) (ci := 1) (v := .ref (r 14)) (C := RX1) (T := TX1) (N := 9) hx hb hts hi1 hown hK hP 3 rfl rfl 4 (by decide) k100 (fun _ h9 => h9) rfl dX2_about_47 ?_
        refine lv_iload_n hx hb dX2_about_50 rfl (lv_at hl 3 rfl) ?_
        refine zx_ald (f := a 14) (n := 6) hx hb hK hP 5 0 rfl rfl (by omega) (by decide) dX2_about_51 ?_
        exact hret _ _ _ _ _ _ hP hD hS dX2_about_52 ⟨by rw [hz, c_40]; exact (zs_abi (F := fun p9 q => zp_ab (a 13 p9) (a 14 p9) (a 15 p9) q) (zd_abq (Or.inl (zd_rng_i (k := 1) (by decide) (by decide) (by decide))))).symm, rfl⟩
    · refine lv_iload_n hx hb dX2_about_36 rfl (lv_at hl 1 rfl) ?_
      exact hret _ _ _ _ _ _ hP hD hS dX2_about_37 ⟨by rw [hz, c_33, ← nI_0]; exact (zs_abi (F := fun p9 q => zp_ab (a 13 p9) (a 14 p9) (a 15 p9) q) (zd_abq (Or.inl (zd_rng_i (k := 0) (by decide) (by decide) (by decide))))).symm, rfl⟩
  · refine lv_bipush (v := (-101)) hx hb dX2_about_8 (by decide) ?_
    exact hret _ _ _ _ _ _ hP hD hS dX2_about_10 ⟨by rw [zd_none c_5]; rfl, rfl⟩
set_option maxHeartbeats 4000000 in
set_option maxRecDepth 100000 in
theorem c_X2_as (l : Launch) (D : va_G) (cI cB : ClassId) (r : Nat → Nat) (s : Nat → Nat) (a : Nat → Nat → Nat) (z : Nat → Int) (ah : Int) (x y : Int32) (hI : zy_I s a z) : zx_C zx_ei l D (zm_t cI cB) (zy_w cI r) yX2_as wsX2_as rmX2_as [.ref (r 1), .int x, .int y] (s, a, z, ah) (fun v u' => v = zs_as (zd_per (s 11) x) y (a 13) ∧ u' = (s, a, z, ah)) := by
  refine zx_of_i (cc := cX2_as) (maxL := 3) (by decide) rfl (Nat.le_of_ble_eq_true rfl) ?_
  intro p e st m args below meth c A Q H cf hK hN hP hD hS hA hret ls hl
  obtain ⟨hx, hb, hml, hown, hts⟩ := id cf
  have hi2 : ∀ w ∈ wsX20, w ∈ wsX2_as := fun w h => List.mem_cons_of_mem _ (List.mem_append_left _ (List.mem_append_right _ h))
  have hi1 : ∀ w ∈ wsX10, w ∈ wsX2_as := fun w h => List.mem_cons_of_mem _ (List.mem_append_right _ h)
  have k19 := hts (.fieldLink RX2 19 "NineDrawers" "hall" "LNineDrawers$Hall;") (List.mem_of_getElem? (i := 1) (by decide +kernel))
  have k97 := hts (.fieldLink RX2 97 "NineDrawers$Hall" "kindOf" "[I") (List.mem_of_getElem? (i := 2) (by decide +kernel))
  have hl : lv_has ls 3 [(0, .ref (r 1)), (1, .int x), (2, .int y)] := hl
  have hP : va_P D vwCl ((zy_w cI r) (s, a, z, ah)) H := hP
  have hD : va_D A ((zy_w cI r) (s, a, z, ah)) := hD
  obtain ⟨⟨i1, i2, i5, i7, i8, i10, i11, i12⟩, ⟨i20, i21, i22⟩, iG, iP, iL, iZ, jP, jL⟩ := id hI
  refine lv_aload_n hx hb dX2_as_0 rfl (lv_at hl 0 rfl) ?_
  refine lv_iload_n hx hb dX2_as_1 rfl (lv_at hl 1 rfl) ?_
  refine zx_V_i (As := [.int x]) (rest := []) cf (c_X2_isPerson l D cI cB r s a z ah x hI) (cwV 1 hts gX2_as_X2_isPerson rfl rfl rfl ⟨rfl, hd_X2_isPerson⟩ ⟨Nat.le_of_ble_eq_true rfl, Nat.le_of_ble_eq_true rfl⟩) hK hN hP hD hS hA 0 rfl rfl rfl hl.1 rfl (Nat.le_of_ble_eq_true rfl) dX2_as_2 ⟨Nat.zero_le _, Nat.zero_le _⟩ (fun v_2 u_2 H locs hq hP hD hS => ?_)
  obtain ⟨rfl, rfl⟩ := hq
  refine zx_bf_ne hx hb (tgt := 11) dX2_as_5 (by decide) (fun c_5 => ?_) (fun c_5 => ?_)
  · obtain ⟨p9, hz⟩ := zd_some c_5
    obtain ⟨rfl, hp9⟩ := zd_per_some (by omega) hz
    refine lv_iload_n hx hb dX2_as_11 rfl (lv_at hl 2 rfl) ?_
    refine zx_S (As := [.int y]) (rest := []) cf (c_X2_isKind l D y ) (va_cwS 1 hts gX2_as_X2_isKind rfl rfl rfl hd_X2_isKind ⟨Nat.le_of_ble_eq_true rfl, Nat.le_of_ble_eq_true rfl⟩) hK hN hP hS hA rfl hl.1 rfl (Nat.le_of_ble_eq_true rfl) dX2_as_12 ⟨Nat.zero_le _, Nat.zero_le _⟩ (fun H locs hP hS => ?_)
    refine zx_bf_ne hx hb (tgt := 21) dX2_as_15 (by decide) (fun c_15 => ?_) (fun c_15 => ?_)
    · obtain ⟨q, rfl, hq1, hq2, hy⟩ := zd_yes (by decide) (by decide) c_15
      refine lv_aload_n hx hb dX2_as_21 rfl (lv_at hl 0 rfl) ?_
      refine va_get (D := D) (ci := 2) (v := .ref (r 10)) (C := RX2) (T := TX2) (N := 10) hx hb hts hi2 hown hK hP 0 rfl rfl 4 (by decide) k19 (fun _ h9 => h9) rfl dX2_as_22 ?_
      refine va_get (D := D) (ci := 1) (v := .ref (r 13)) (C := RX1) (T := TX1) (N := 9) hx hb hts hi1 hown hK hP 3 rfl rfl 3 (by decide) k97 (fun _ h9 => h9) rfl dX2_as_25 ?_
      refine lv_iload_n hx hb dX2_as_28 rfl (lv_at hl 1 rfl) ?_
      refine zx_ald (f := a 13) (n := 6) hx hb hK hP 4 0 rfl rfl (by omega) (by decide) dX2_as_29 ?_
      refine lv_iload_n hx hb dX2_as_30 rfl (lv_at hl 2 rfl) ?_
      refine zx_S (As := [.int (nI ((a 13) p9)), .int (nI q)]) (rest := []) cf (c_X2_isOfKind l D ((a 13) p9) q (by have := (iP p9 (by omega)).1; omega) (by omega)) (va_cwS 2 hts gX2_as_X2_isOfKind rfl rfl rfl hd_X2_isOfKind ⟨Nat.le_of_ble_eq_true rfl, Nat.le_of_ble_eq_true rfl⟩) hK hN hP hS hA rfl hl.1 rfl (Nat.le_of_ble_eq_true rfl) dX2_as_31 ⟨Nat.zero_le _, Nat.zero_le _⟩ (fun H locs hP hS => ?_)
      refine zx_bf_eq hx hb (tgt := 41) dX2_as_34 (by decide) (fun c_34 => ?_) (fun c_34 => ?_)
      · refine lv_iconst (v := (-1)) hx hb dX2_as_41 (by decide) ?_
        exact hret _ _ _ _ _ _ hP hD hS dX2_as_42 ⟨by rw [hz]; exact (zs_asN hy (of_decide_eq_false c_34)).symm, rfl⟩
      · refine lv_iload_n hx hb dX2_as_37 rfl (lv_at hl 1 rfl) ?_
        refine lv_goto (tgt := 42) hx hb dX2_as_38 (by decide) ?_
        exact hret _ _ _ _ _ _ hP hD hS dX2_as_42 ⟨by rw [hz]; exact (zs_asT hy (of_decide_eq_true c_34)).symm, rfl⟩
    · refine lv_bipush (v := (-102)) hx hb dX2_as_18 (by decide) ?_
      exact hret _ _ _ _ _ _ hP hD hS dX2_as_20 ⟨by rw [hz]; exact (zs_aso (zd_nos c_15)).symm, rfl⟩
  · refine lv_bipush (v := (-101)) hx hb dX2_as_8 (by decide) ?_
    exact hret _ _ _ _ _ _ hP hD hS dX2_as_10 ⟨by rw [zd_none c_5]; rfl, rfl⟩
set_option maxHeartbeats 4000000 in
set_option maxRecDepth 100000 in
theorem c_X2_move (l : Launch) (D : va_G) (cI cB : ClassId) (r : Nat → Nat) (s : Nat → Nat) (a : Nat → Nat → Nat) (z : Nat → Int) (ah : Int) (x y : Int32) (hI : zy_I s a z) : zx_C zx_ei l D (zm_t cI cB) (zy_w cI r) yX2_move wsX2_move rmX2_move [.ref (r 1), .int x, .int y] (s, a, z, ah) (fun v u' => zd_out (zd_move (zd_per (s 11) x) (zd_drw (s 2) y)) (fun e9 => v = e9 ∧ u' = (s, a, z, ah)) (fun k => v = nI (a 14 k.1) ∧ u' = (s, zx_up a 14 (zx_up (a 14) k.1 k.2), z, ah))) := by
  refine zx_of_i (cc := cX2_move) (maxL := 4) (by decide) rfl (Nat.le_of_ble_eq_true rfl) ?_
  intro p e st m args below meth c A Q H cf hK hN hP hD hS hA hret ls hl
  obtain ⟨hx, hb, hml, hown, hts⟩ := id cf
  have hi2 : ∀ w ∈ wsX20, w ∈ wsX2_move := fun w h => List.mem_cons_of_mem _ (List.mem_append_left _ (List.mem_append_right _ h))
  have hi1 : ∀ w ∈ wsX10, w ∈ wsX2_move := fun w h => List.mem_cons_of_mem _ (List.mem_append_right _ h)
  have k19 := hts (.fieldLink RX2 19 "NineDrawers" "hall" "LNineDrawers$Hall;") (List.mem_of_getElem? (i := 1) (by decide +kernel))
  have k100 := hts (.fieldLink RX2 100 "NineDrawers$Hall" "drawerOf" "[I") (List.mem_of_getElem? (i := 2) (by decide +kernel))
  have hl : lv_has ls 4 [(0, .ref (r 1)), (1, .int x), (2, .int y)] := hl
  have hP : va_P D vwCl ((zy_w cI r) (s, a, z, ah)) H := hP
  have hD : va_D A ((zy_w cI r) (s, a, z, ah)) := hD
  obtain ⟨⟨i1, i2, i5, i7, i8, i10, i11, i12⟩, ⟨i20, i21, i22⟩, iG, iP, iL, iZ, jP, jL⟩ := id hI
  refine lv_aload_n hx hb dX2_move_0 rfl (lv_at hl 0 rfl) ?_
  refine lv_iload_n hx hb dX2_move_1 rfl (lv_at hl 1 rfl) ?_
  refine zx_V_i (As := [.int x]) (rest := []) cf (c_X2_isPerson l D cI cB r s a z ah x hI) (cwV 1 hts gX2_move_X2_isPerson rfl rfl rfl ⟨rfl, hd_X2_isPerson⟩ ⟨Nat.le_of_ble_eq_true rfl, Nat.le_of_ble_eq_true rfl⟩) hK hN hP hD hS hA 0 rfl rfl rfl hl.1 rfl (Nat.le_of_ble_eq_true rfl) dX2_move_2 ⟨Nat.zero_le _, Nat.zero_le _⟩ (fun v_2 u_2 H locs hq hP hD hS => ?_)
  obtain ⟨rfl, rfl⟩ := hq
  refine zx_bf_eq hx hb (tgt := 16) dX2_move_5 (by decide) (fun c_5 => ?_) (fun c_5 => ?_)
  · refine lv_bipush (v := (-101)) hx hb dX2_move_16 (by decide) ?_
    exact hret _ _ _ _ _ _ hP hD hS dX2_move_18 (zd_inl (by rw [zd_none c_5]; rfl) ⟨rfl, rfl⟩)
  · obtain ⟨p9, hz⟩ := zd_some c_5
    obtain ⟨rfl, hp9⟩ := zd_per_some (by omega) hz
    refine lv_aload_n hx hb dX2_move_8 rfl (lv_at hl 0 rfl) ?_
    refine lv_iload_n hx hb dX2_move_9 rfl (lv_at hl 2 rfl) ?_
    refine zx_V_i (As := [.int y]) (rest := []) cf (c_X2_isDrawer l D cI cB r s a z ah y hI) (cwV 1 hts gX2_move_X2_isDrawer rfl rfl rfl ⟨rfl, hd_X2_isDrawer⟩ ⟨Nat.le_of_ble_eq_true rfl, Nat.le_of_ble_eq_true rfl⟩) hK hN hP hD hS hA 0 rfl rfl rfl hl.1 rfl (Nat.le_of_ble_eq_true rfl) dX2_move_10 ⟨Nat.zero_le _, Nat.zero_le _⟩ (fun v_10 u_10 H locs hq hP hD hS => ?_)
    obtain ⟨rfl, rfl⟩ := hq
    refine zx_bf_ne hx hb (tgt := 19) dX2_move_13 (by decide) (fun c_13 => ?_) (fun c_13 => ?_)
    · obtain ⟨d, hy⟩ := zd_some c_13
      obtain ⟨rfl, hd, hc9⟩ := zd_drw_some hy
      refine lv_aload_n hx hb dX2_move_19 rfl (lv_at hl 0 rfl) ?_
      refine va_get (D := D) (ci := 2) (v := .ref (r 10)) (C := RX2) (T := TX2) (N := 10) hx hb hts hi2 hown hK hP 0 rfl rfl 4 (by decide) k19 (fun _ h9 => h9) rfl dX2_move_20 ?_
      refine va_get (D := D) (ci := 1) (v := .ref (r 14)) (C := RX1) (T := TX1) (N := 9) hx hb hts hi1 hown hK hP 3 rfl rfl 4 (by decide) k100 (fun _ h9 => h9) rfl dX2_move_23 ?_
      refine lv_iload_n hx hb dX2_move_26 rfl (lv_at hl 1 rfl) ?_
      refine zx_ald (f := a 14) (n := 6) hx hb hK hP 5 0 rfl rfl (by omega) (by decide) dX2_move_27 ?_
      refine lv_istore_n (lv' := [(3, .int (nI ((a 14) p9))), (0, .ref (r 1)), (1, .int (nI p9)), (2, .int (nI d))]) hx hb dX2_move_28 rfl hl (by decide) rfl (fun ls hl => ?_)
      refine lv_aload_n hx hb dX2_move_29 rfl (lv_at hl 1 rfl) ?_
      refine va_get (D := D) (ci := 2) (v := .ref (r 10)) (C := RX2) (T := TX2) (N := 10) hx hb hts hi2 hown hK hP 0 rfl rfl 4 (by decide) k19 (fun _ h9 => h9) rfl dX2_move_30 ?_
      refine va_get (D := D) (ci := 1) (v := .ref (r 14)) (C := RX1) (T := TX1) (N := 9) hx hb hts hi1 hown hK hP 3 rfl rfl 4 (by decide) k100 (fun _ h9 => h9) rfl dX2_move_33 ?_
      refine lv_iload_n hx hb dX2_move_36 rfl (lv_at hl 2 rfl) ?_
      refine lv_iload_n hx hb dX2_move_37 rfl (lv_at hl 3 rfl) ?_
      refine zx_ast (f := a 14) (n := 6) (ws' := (zy_w cI r) (s, (zx_up a 14 (zx_up (a 14) p9 d)), z, ah)) hx hb hK hP hD hS 5 0 rfl rfl (by omega) (by decide) rfl dX2_move_38 (fun H locs hP hD hS => ?_)
      refine lv_iload_n hx hb dX2_move_39 rfl (lv_at hl 0 rfl) ?_
      exact hret _ _ _ _ _ _ hP hD hS dX2_move_40 (zd_inr (k := (p9, d)) (by rw [hz, hy]; rfl) ⟨rfl, rfl⟩)
    · refine lv_bipush (v := (-101)) hx hb dX2_move_16 (by decide) ?_
      exact hret _ _ _ _ _ _ hP hD hS dX2_move_18 (zd_inl (by rw [hz, zd_none c_13]; rfl) ⟨rfl, rfl⟩)
set_option maxHeartbeats 4000000 in
set_option maxRecDepth 100000 in
theorem c_X2_lay (l : Launch) (D : va_G) (cI cB : ClassId) (r : Nat → Nat) (s : Nat → Nat) (a : Nat → Nat → Nat) (z : Nat → Int) (ah : Int) (x y : Int32) (b : Bool) (hI : zy_I s a z) : zx_C zx_ei l D (zm_t cI cB) (zy_w cI r) yX2_lay wsX2_lay rmX2_lay [.ref (r 1), .int x, .int y, .int (zx_b b)] (s, a, z, ah) (fun v u' => zd_out (zd_move (zd_drw (s 2) x) (zd_rng 0 6 y)) (fun e9 => v = e9 ∧ u' = (s, a, z, ah)) (fun k => v = nI (zx_n ((a 16 k.1).testBit k.2)) ∧ u' = (s, zx_up a 16 (zx_up (a 16) k.1 (zp_lay (a 16 k.1) k.2 b)), z, ah))) := by
  refine zx_of_i (cc := cX2_lay) (maxL := 5) (by decide) rfl (Nat.le_of_ble_eq_true rfl) ?_
  intro p e st m args below meth c A Q H cf hK hN hP hD hS hA hret ls hl
  obtain ⟨hx, hb, hml, hown, hts⟩ := id cf
  have hi2 : ∀ w ∈ wsX20, w ∈ wsX2_lay := fun w h => List.mem_cons_of_mem _ (List.mem_append_left _ (List.mem_append_right _ h))
  have hi1 : ∀ w ∈ wsX10, w ∈ wsX2_lay := fun w h => List.mem_cons_of_mem _ (List.mem_append_right _ h)
  have k19 := hts (.fieldLink RX2 19 "NineDrawers" "hall" "LNineDrawers$Hall;") (List.mem_of_getElem? (i := 1) (by decide +kernel))
  have k72 := hts (.fieldLink RX2 72 "NineDrawers$Hall" "laidIn" "[I") (List.mem_of_getElem? (i := 2) (by decide +kernel))
  have hl : lv_has ls 5 [(0, .ref (r 1)), (1, .int x), (2, .int y), (3, .int (zx_b b))] := hl
  have hP : va_P D vwCl ((zy_w cI r) (s, a, z, ah)) H := hP
  have hD : va_D A ((zy_w cI r) (s, a, z, ah)) := hD
  obtain ⟨⟨i1, i2, i5, i7, i8, i10, i11, i12⟩, ⟨i20, i21, i22⟩, iG, iP, iL, iZ, jP, jL⟩ := id hI
  refine lv_aload_n hx hb dX2_lay_0 rfl (lv_at hl 0 rfl) ?_
  refine lv_iload_n hx hb dX2_lay_1 rfl (lv_at hl 1 rfl) ?_
  refine zx_V_i (As := [.int x]) (rest := []) cf (c_X2_isDrawer l D cI cB r s a z ah x hI) (cwV 1 hts gX2_lay_X2_isDrawer rfl rfl rfl ⟨rfl, hd_X2_isDrawer⟩ ⟨Nat.le_of_ble_eq_true rfl, Nat.le_of_ble_eq_true rfl⟩) hK hN hP hD hS hA 0 rfl rfl rfl hl.1 rfl (Nat.le_of_ble_eq_true rfl) dX2_lay_2 ⟨Nat.zero_le _, Nat.zero_le _⟩ (fun v_2 u_2 H locs hq hP hD hS => ?_)
  obtain ⟨rfl, rfl⟩ := hq
  refine zx_bf_eq hx hb (tgt := 15) dX2_lay_5 (by decide) (fun c_5 => ?_) (fun c_5 => ?_)
  · refine lv_bipush (v := (-101)) hx hb dX2_lay_15 (by decide) ?_
    exact hret _ _ _ _ _ _ hP hD hS dX2_lay_17 (zd_inl (by rw [zd_none c_5]; rfl) ⟨rfl, rfl⟩)
  · obtain ⟨d, hz⟩ := zd_some c_5
    obtain ⟨rfl, hd, hc9⟩ := zd_drw_some hz
    refine lv_iload_n hx hb dX2_lay_8 rfl (lv_at hl 2 rfl) ?_
    refine zx_S (As := [.int y]) (rest := []) cf (c_X2_isDay l D y ) (va_cwS 1 hts gX2_lay_X2_isDay rfl rfl rfl hd_X2_isDay ⟨Nat.le_of_ble_eq_true rfl, Nat.le_of_ble_eq_true rfl⟩) hK hN hP hS hA rfl hl.1 rfl (Nat.le_of_ble_eq_true rfl) dX2_lay_9 ⟨Nat.zero_le _, Nat.zero_le _⟩ (fun H locs hP hS => ?_)
    refine zx_bf_ne hx hb (tgt := 18) dX2_lay_12 (by decide) (fun c_12 => ?_) (fun c_12 => ?_)
    · obtain ⟨o, rfl, ho1, ho2, hy⟩ := zd_yes (by decide) (by decide) c_12
      have hL := (iL d (by omega)).1
      refine lv_aload_n hx hb dX2_lay_18 rfl (lv_at hl 0 rfl) ?_
      refine va_get (D := D) (ci := 2) (v := .ref (r 10)) (C := RX2) (T := TX2) (N := 10) hx hb hts hi2 hown hK hP 0 rfl rfl 4 (by decide) k19 (fun _ h9 => h9) rfl dX2_lay_19 ?_
      refine va_get (D := D) (ci := 1) (v := .ref (r 16)) (C := RX1) (T := TX1) (N := 9) hx hb hts hi1 hown hK hP 3 rfl rfl 6 (by decide) k72 (fun _ h9 => h9) rfl dX2_lay_22 ?_
      refine lv_iload_n hx hb dX2_lay_25 rfl (lv_at hl 1 rfl) ?_
      refine zx_ald (f := a 16) (n := 9) hx hb hK hP 7 0 rfl rfl (by omega) (by decide) dX2_lay_26 ?_
      refine lv_iload_n hx hb dX2_lay_27 rfl (lv_at hl 2 rfl) ?_
      refine zx_S (As := [.int (nI ((a 16) d)), .int (nI o)]) (rest := []) cf (c_X2_bitOf l D ((a 16) d) o (by omega) (by omega)) (va_cwS 2 hts gX2_lay_X2_bitOf rfl rfl rfl hd_X2_bitOf ⟨Nat.le_of_ble_eq_true rfl, Nat.le_of_ble_eq_true rfl⟩) hK hN hP hS hA rfl hl.1 rfl (Nat.le_of_ble_eq_true rfl) dX2_lay_28 ⟨Nat.zero_le _, Nat.zero_le _⟩ (fun H locs hP hS => ?_)
      refine lv_istore (lv' := [(4, .int (nI (zx_n (Nat.testBit ((a 16) d) o)))), (0, .ref (r 1)), (1, .int (nI d)), (2, .int (nI o)), (3, .int (zx_b b))]) hx hb dX2_lay_31 hl (by decide) rfl (fun ls hl => ?_)
      refine lv_iload_n hx hb dX2_lay_33 rfl (lv_at hl 4 rfl) ?_
      refine zx_bf_eq hx hb (tgt := 55) dX2_lay_34 (by decide) (fun c_34 => ?_) (fun c_34 => ?_)
      · subst c_34
        refine lv_aload_n hx hb dX2_lay_55 rfl (lv_at hl 1 rfl) ?_
        refine va_get (D := D) (ci := 2) (v := .ref (r 10)) (C := RX2) (T := TX2) (N := 10) hx hb hts hi2 hown hK hP 0 rfl rfl 4 (by decide) k19 (fun _ h9 => h9) rfl dX2_lay_56 ?_
        refine va_get (D := D) (ci := 1) (v := .ref (r 16)) (C := RX1) (T := TX1) (N := 9) hx hb hts hi1 hown hK hP 3 rfl rfl 6 (by decide) k72 (fun _ h9 => h9) rfl dX2_lay_59 ?_
        refine lv_iload_n hx hb dX2_lay_62 rfl (lv_at hl 2 rfl) ?_
        refine lv_dup2_11 hx hb dX2_lay_63 rfl rfl ?_
        refine zx_ald (f := a 16) (n := 9) hx hb hK hP 7 0 rfl rfl (by omega) (by decide) dX2_lay_64 ?_
        refine lv_iconst (v := nI 1) hx hb dX2_lay_65 (by decide) ?_
        refine lv_iload_n hx hb dX2_lay_66 rfl (lv_at hl 3 rfl) ?_
        refine zx_ishl1 hx hb (by omega) dX2_lay_67 ?_
        refine lv_iconst (v := (-1)) hx hb dX2_lay_68 (by decide) ?_
        refine lv_ixor hx hb dX2_lay_69 ?_
        refine lv_iand hx hb dX2_lay_70 ?_
        refine zx_topi (y := nI (zp_lay (a 16 d) o false)) (zp_layF hL (by omega)) ?_
        refine zx_ast (f := a 16) (n := 9) (ws' := (zy_w cI r) (s, (zx_up a 16 (zx_up (a 16) d (zp_lay (a 16 d) o false))), z, ah)) hx hb hK hP hD hS 7 0 rfl rfl (by omega) (by decide) rfl dX2_lay_71 (fun H locs hP hD hS => ?_)
        refine lv_iload hx hb dX2_lay_72 (lv_at hl 0 rfl) ?_
        exact hret _ _ _ _ _ _ hP hD hS dX2_lay_74 (zd_inr (k := (d, o)) (by rw [hz, hy]; rfl) ⟨rfl, rfl⟩)
      · subst c_34
        refine lv_aload_n hx hb dX2_lay_37 rfl (lv_at hl 1 rfl) ?_
        refine va_get (D := D) (ci := 2) (v := .ref (r 10)) (C := RX2) (T := TX2) (N := 10) hx hb hts hi2 hown hK hP 0 rfl rfl 4 (by decide) k19 (fun _ h9 => h9) rfl dX2_lay_38 ?_
        refine va_get (D := D) (ci := 1) (v := .ref (r 16)) (C := RX1) (T := TX1) (N := 9) hx hb hts hi1 hown hK hP 3 rfl rfl 6 (by decide) k72 (fun _ h9 => h9) rfl dX2_lay_41 ?_
        refine lv_iload_n hx hb dX2_lay_44 rfl (lv_at hl 2 rfl) ?_
        refine lv_dup2_11 hx hb dX2_lay_45 rfl rfl ?_
        refine zx_ald (f := a 16) (n := 9) hx hb hK hP 7 0 rfl rfl (by omega) (by decide) dX2_lay_46 ?_
        refine lv_iconst (v := nI 1) hx hb dX2_lay_47 (by decide) ?_
        refine lv_iload_n hx hb dX2_lay_48 rfl (lv_at hl 3 rfl) ?_
        refine zx_ishl1 hx hb (by omega) dX2_lay_49 ?_
        refine zx_ior hx hb dX2_lay_50 ?_
        refine zx_topi (y := nI (zp_lay (a 16 d) o true)) (rfl) ?_
        refine zx_ast (f := a 16) (n := 9) (ws' := (zy_w cI r) (s, (zx_up a 16 (zx_up (a 16) d (zp_lay (a 16 d) o true))), z, ah)) hx hb hK hP hD hS 7 0 rfl rfl (by omega) (by decide) rfl dX2_lay_51 (fun H locs hP hD hS => ?_)
        refine lv_goto (tgt := 72) hx hb dX2_lay_52 (by decide) ?_
        refine lv_iload hx hb dX2_lay_72 (lv_at hl 0 rfl) ?_
        exact hret _ _ _ _ _ _ hP hD hS dX2_lay_74 (zd_inr (k := (d, o)) (by rw [hz, hy]; rfl) ⟨rfl, rfl⟩)
    · refine lv_bipush (v := (-101)) hx hb dX2_lay_15 (by decide) ?_
      exact hret _ _ _ _ _ _ hP hD hS dX2_lay_17 (zd_inl (by rw [hz, zd_nos c_12]; rfl) ⟨rfl, rfl⟩)
set_option maxHeartbeats 4000000 in
set_option maxRecDepth 100000 in
theorem c_X2_found (l : Launch) (D : va_G) (cI cB : ClassId) (r : Nat → Nat) (s : Nat → Nat) (a : Nat → Nat → Nat) (z : Nat → Int) (ah : Int) (x y : Int32) (b : Bool) (hI : zy_I s a z) : zx_C zx_ei l D (zm_t cI cB) (zy_w cI r) yX2_found wsX2_found rmX2_found [.ref (r 1), .int x, .int y, .int (zx_b b)] (s, a, z, ah) (fun v u' => zd_out (zd_found (zd_drw (s 2) x) (zd_rng 0 6 y) (s 12)) (fun e9 => v = e9 ∧ u' = (s, a, z, ah)) (fun k => v = nI (s 12 + 1) ∧ u' = (zx_up s 12 (s 12 + 1), cond b (zx_up a 17 (zx_up (a 17) k.1 (a 17 k.1 ||| 2 ^ k.2))) (zx_up a 18 (zx_up (a 18) k.1 (a 18 k.1 ||| 2 ^ k.2))), z, ah))) := by
  refine zx_of_i (cc := cX2_found) (maxL := 4) (by decide) rfl (Nat.le_of_ble_eq_true rfl) ?_
  intro p e st m args below meth c A Q H cf hK hN hP hD hS hA hret ls hl
  obtain ⟨hx, hb, hml, hown, hts⟩ := id cf
  have hi2 : ∀ w ∈ wsX20, w ∈ wsX2_found := fun w h => List.mem_cons_of_mem _ (List.mem_append_left _ (List.mem_append_right _ h))
  have hi1 : ∀ w ∈ wsX10, w ∈ wsX2_found := fun w h => List.mem_cons_of_mem _ (List.mem_append_right _ h)
  have k19 := hts (.fieldLink RX2 19 "NineDrawers" "hall" "LNineDrawers$Hall;") (List.mem_of_getElem? (i := 1) (by decide +kernel))
  have k145 := hts (.fieldLink RX2 145 "NineDrawers$Hall" "timesFound" "I") (List.mem_of_getElem? (i := 2) (by decide +kernel))
  have k151 := hts (.fieldLink RX2 151 "NineDrawers$Hall" "foundEmpty" "[I") (List.mem_of_getElem? (i := 4) (by decide +kernel))
  have k148 := hts (.fieldLink RX2 148 "NineDrawers$Hall" "foundThere" "[I") (List.mem_of_getElem? (i := 3) (by decide +kernel))
  have hl : lv_has ls 4 [(0, .ref (r 1)), (1, .int x), (2, .int y), (3, .int (zx_b b))] := hl
  have hP : va_P D vwCl ((zy_w cI r) (s, a, z, ah)) H := hP
  have hD : va_D A ((zy_w cI r) (s, a, z, ah)) := hD
  obtain ⟨⟨i1, i2, i5, i7, i8, i10, i11, i12⟩, ⟨i20, i21, i22⟩, iG, iP, iL, iZ, jP, jL⟩ := id hI
  refine lv_aload_n hx hb dX2_found_0 rfl (lv_at hl 0 rfl) ?_
  refine lv_iload_n hx hb dX2_found_1 rfl (lv_at hl 1 rfl) ?_
  refine zx_V_i (As := [.int x]) (rest := []) cf (c_X2_isDrawer l D cI cB r s a z ah x hI) (cwV 1 hts gX2_found_X2_isDrawer rfl rfl rfl ⟨rfl, hd_X2_isDrawer⟩ ⟨Nat.le_of_ble_eq_true rfl, Nat.le_of_ble_eq_true rfl⟩) hK hN hP hD hS hA 0 rfl rfl rfl hl.1 rfl (Nat.le_of_ble_eq_true rfl) dX2_found_2 ⟨Nat.zero_le _, Nat.zero_le _⟩ (fun v_2 u_2 H locs hq hP hD hS => ?_)
  obtain ⟨rfl, rfl⟩ := hq
  refine zx_bf_eq hx hb (tgt := 15) dX2_found_5 (by decide) (fun c_5 => ?_) (fun c_5 => ?_)
  · refine lv_bipush (v := (-101)) hx hb dX2_found_15 (by decide) ?_
    exact hret _ _ _ _ _ _ hP hD hS dX2_found_17 (zd_inl (by rw [zd_none c_5]; rfl) ⟨rfl, rfl⟩)
  · obtain ⟨d, hz⟩ := zd_some c_5
    obtain ⟨rfl, hd, hc9⟩ := zd_drw_some hz
    refine lv_iload_n hx hb dX2_found_8 rfl (lv_at hl 2 rfl) ?_
    refine zx_S (As := [.int y]) (rest := []) cf (c_X2_isDay l D y ) (va_cwS 1 hts gX2_found_X2_isDay rfl rfl rfl hd_X2_isDay ⟨Nat.le_of_ble_eq_true rfl, Nat.le_of_ble_eq_true rfl⟩) hK hN hP hS hA rfl hl.1 rfl (Nat.le_of_ble_eq_true rfl) dX2_found_9 ⟨Nat.zero_le _, Nat.zero_le _⟩ (fun H locs hP hS => ?_)
    refine zx_bf_ne hx hb (tgt := 18) dX2_found_12 (by decide) (fun c_12 => ?_) (fun c_12 => ?_)
    · obtain ⟨o, rfl, ho1, ho2, hy⟩ := zd_yes (by decide) (by decide) c_12
      refine lv_aload_n hx hb dX2_found_18 rfl (lv_at hl 0 rfl) ?_
      refine va_get (D := D) (ci := 2) (v := .ref (r 10)) (C := RX2) (T := TX2) (N := 10) hx hb hts hi2 hown hK hP 0 rfl rfl 4 (by decide) k19 (fun _ h9 => h9) rfl dX2_found_19 ?_
      refine va_get (D := D) (ci := 1) (v := .int (nI (s 12))) (C := RX1) (T := TX1) (N := 9) hx hb hts hi1 hown hK hP 3 rfl rfl 2 (by decide) k145 (fun _ h9 => h9) rfl dX2_found_22 ?_
      refine lv_bipush (v := nI 8) hx hb dX2_found_25 (by decide) ?_
      refine zx_icmp_lt hx hb (tgt := 33) (by omega) (by omega) dX2_found_27 (by decide) (fun c_27 => ?_) (fun c_27 => ?_)
      · refine lv_iload_n hx hb dX2_found_33 rfl (lv_at hl 3 rfl) ?_
        refine zx_bf_eq hx hb (tgt := 55) dX2_found_34 (by decide) (fun c_34 => ?_) (fun c_34 => ?_)
        · subst c_34
          refine lv_aload_n hx hb dX2_found_55 rfl (lv_at hl 0 rfl) ?_
          refine va_get (D := D) (ci := 2) (v := .ref (r 10)) (C := RX2) (T := TX2) (N := 10) hx hb hts hi2 hown hK hP 0 rfl rfl 4 (by decide) k19 (fun _ h9 => h9) rfl dX2_found_56 ?_
          refine va_get (D := D) (ci := 1) (v := .ref (r 18)) (C := RX1) (T := TX1) (N := 9) hx hb hts hi1 hown hK hP 3 rfl rfl 8 (by decide) k151 (fun _ h9 => h9) rfl dX2_found_59 ?_
          refine lv_iload_n hx hb dX2_found_62 rfl (lv_at hl 1 rfl) ?_
          refine lv_dup2_11 hx hb dX2_found_63 rfl rfl ?_
          refine zx_ald (f := a 18) (n := 9) hx hb hK hP 9 0 rfl rfl (by omega) (by decide) dX2_found_64 ?_
          refine lv_iconst (v := nI 1) hx hb dX2_found_65 (by decide) ?_
          refine lv_iload_n hx hb dX2_found_66 rfl (lv_at hl 2 rfl) ?_
          refine zx_ishl1 hx hb (by omega) dX2_found_67 ?_
          refine zx_ior hx hb dX2_found_68 ?_
          refine zx_ast (f := a 18) (n := 9) (ws' := (zy_w cI r) (s, (zx_up a 18 (zx_up (a 18) d (((a 18) d) ||| (2 ^ o)))), z, ah)) hx hb hK hP hD hS 9 0 rfl rfl (by omega) (by decide) rfl dX2_found_69 (fun H locs hP hD hS => ?_)
          refine lv_aload_n hx hb dX2_found_70 rfl (lv_at hl 0 rfl) ?_
          refine va_get (D := D) (ci := 2) (v := .ref (r 10)) (C := RX2) (T := TX2) (N := 10) hx hb hts hi2 hown hK hP 0 rfl rfl 4 (by decide) k19 (fun _ h9 => h9) rfl dX2_found_71 ?_
          refine lv_dup hx hb dX2_found_74 rfl ?_
          refine va_get (D := D) (ci := 1) (v := .int (nI (s 12))) (C := RX1) (T := TX1) (N := 9) hx hb hts hi1 hown hK hP 3 rfl rfl 2 (by decide) k145 (fun _ h9 => h9) rfl dX2_found_75 ?_
          refine lv_iconst (v := nI 1) hx hb dX2_found_78 (by decide) ?_
          refine zx_iadd hx hb dX2_found_79 ?_
          refine zx_put (D := D) (ci := 1) (ty := .int) (v := .int (nI ((s 12) + 1))) (ws' := (zy_w cI r) ((zx_up s 12 ((s 12) + 1)), (zx_up a 18 (zx_up (a 18) d (((a 18) d) ||| (2 ^ o)))), z, ah)) (C := RX1) (T := TX1) (N := 9) hx hb hts hi1 tyX1 tyX1_ok nmX1 hown hK hP hD hS 3 rfl rfl 2 (by decide) k145 (fun _ h9 => h9) rfl (by decide +kernel) rfl rfl (Nat.le_of_ble_eq_true rfl) rfl dX2_found_80 (fun H locs hP hD hS => ?_)
          refine lv_aload_n hx hb dX2_found_83 rfl (lv_at hl 0 rfl) ?_
          refine va_get (D := D) (ci := 2) (v := .ref (r 10)) (C := RX2) (T := TX2) (N := 10) hx hb hts hi2 hown hK hP 0 rfl rfl 4 (by decide) k19 (fun _ h9 => h9) rfl dX2_found_84 ?_
          refine va_get (D := D) (ci := 1) (v := .int (nI ((s 12) + 1))) (C := RX1) (T := TX1) (N := 9) hx hb hts hi1 hown hK hP 3 rfl rfl 2 (by decide) k145 (fun _ h9 => h9) rfl dX2_found_87 ?_
          exact hret _ _ _ _ _ _ hP hD hS dX2_found_90 (zd_inr (k := (d, o)) (by rw [hz, hy]; exact if_neg (by omega)) ⟨rfl, rfl⟩)
        · subst c_34
          refine lv_aload_n hx hb dX2_found_37 rfl (lv_at hl 0 rfl) ?_
          refine va_get (D := D) (ci := 2) (v := .ref (r 10)) (C := RX2) (T := TX2) (N := 10) hx hb hts hi2 hown hK hP 0 rfl rfl 4 (by decide) k19 (fun _ h9 => h9) rfl dX2_found_38 ?_
          refine va_get (D := D) (ci := 1) (v := .ref (r 17)) (C := RX1) (T := TX1) (N := 9) hx hb hts hi1 hown hK hP 3 rfl rfl 7 (by decide) k148 (fun _ h9 => h9) rfl dX2_found_41 ?_
          refine lv_iload_n hx hb dX2_found_44 rfl (lv_at hl 1 rfl) ?_
          refine lv_dup2_11 hx hb dX2_found_45 rfl rfl ?_
          refine zx_ald (f := a 17) (n := 9) hx hb hK hP 8 0 rfl rfl (by omega) (by decide) dX2_found_46 ?_
          refine lv_iconst (v := nI 1) hx hb dX2_found_47 (by decide) ?_
          refine lv_iload_n hx hb dX2_found_48 rfl (lv_at hl 2 rfl) ?_
          refine zx_ishl1 hx hb (by omega) dX2_found_49 ?_
          refine zx_ior hx hb dX2_found_50 ?_
          refine zx_ast (f := a 17) (n := 9) (ws' := (zy_w cI r) (s, (zx_up a 17 (zx_up (a 17) d (((a 17) d) ||| (2 ^ o)))), z, ah)) hx hb hK hP hD hS 8 0 rfl rfl (by omega) (by decide) rfl dX2_found_51 (fun H locs hP hD hS => ?_)
          refine lv_goto (tgt := 70) hx hb dX2_found_52 (by decide) ?_
          refine lv_aload_n hx hb dX2_found_70 rfl (lv_at hl 0 rfl) ?_
          refine va_get (D := D) (ci := 2) (v := .ref (r 10)) (C := RX2) (T := TX2) (N := 10) hx hb hts hi2 hown hK hP 0 rfl rfl 4 (by decide) k19 (fun _ h9 => h9) rfl dX2_found_71 ?_
          refine lv_dup hx hb dX2_found_74 rfl ?_
          refine va_get (D := D) (ci := 1) (v := .int (nI (s 12))) (C := RX1) (T := TX1) (N := 9) hx hb hts hi1 hown hK hP 3 rfl rfl 2 (by decide) k145 (fun _ h9 => h9) rfl dX2_found_75 ?_
          refine lv_iconst (v := nI 1) hx hb dX2_found_78 (by decide) ?_
          refine zx_iadd hx hb dX2_found_79 ?_
          refine zx_put (D := D) (ci := 1) (ty := .int) (v := .int (nI ((s 12) + 1))) (ws' := (zy_w cI r) ((zx_up s 12 ((s 12) + 1)), (zx_up a 17 (zx_up (a 17) d (((a 17) d) ||| (2 ^ o)))), z, ah)) (C := RX1) (T := TX1) (N := 9) hx hb hts hi1 tyX1 tyX1_ok nmX1 hown hK hP hD hS 3 rfl rfl 2 (by decide) k145 (fun _ h9 => h9) rfl (by decide +kernel) rfl rfl (Nat.le_of_ble_eq_true rfl) rfl dX2_found_80 (fun H locs hP hD hS => ?_)
          refine lv_aload_n hx hb dX2_found_83 rfl (lv_at hl 0 rfl) ?_
          refine va_get (D := D) (ci := 2) (v := .ref (r 10)) (C := RX2) (T := TX2) (N := 10) hx hb hts hi2 hown hK hP 0 rfl rfl 4 (by decide) k19 (fun _ h9 => h9) rfl dX2_found_84 ?_
          refine va_get (D := D) (ci := 1) (v := .int (nI ((s 12) + 1))) (C := RX1) (T := TX1) (N := 9) hx hb hts hi1 hown hK hP 3 rfl rfl 2 (by decide) k145 (fun _ h9 => h9) rfl dX2_found_87 ?_
          exact hret _ _ _ _ _ _ hP hD hS dX2_found_90 (zd_inr (k := (d, o)) (by rw [hz, hy]; exact if_neg (by omega)) ⟨rfl, rfl⟩)
      · refine lv_bipush (v := (-104)) hx hb dX2_found_30 (by decide) ?_
        exact hret _ _ _ _ _ _ hP hD hS dX2_found_32 (zd_inl (by rw [hz, hy]; exact if_pos (by omega)) ⟨rfl, rfl⟩)
    · refine lv_bipush (v := (-101)) hx hb dX2_found_15 (by decide) ?_
      exact hret _ _ _ _ _ _ hP hD hS dX2_found_17 (zd_inl (by rw [hz, zd_nos c_12]; rfl) ⟨rfl, rfl⟩)
set_option maxHeartbeats 4000000 in
set_option maxRecDepth 100000 in
theorem c_X2_forget (l : Launch) (D : va_G) (cI cB : ClassId) (r : Nat → Nat) (s : Nat → Nat) (a : Nat → Nat → Nat) (z : Nat → Int) (ah : Int) (hI : zy_I s a z) : zx_C zx_ei l D (zm_t cI cB) (zy_w cI r) yX2_forget wsX2_forget rmX2_forget [.ref (r 1)] (s, a, z, ah) (fun v u' => v = nI (s 12) ∧ ∃ b : Nat → Nat → Nat, u' = (zx_up s 12 0, b, z, ah) ∧ (∀ j, j < 9 → b 17 j = 0) ∧ (∀ j, j < 9 → b 18 j = 0) ∧ (∀ k, k ≠ 17 → k ≠ 18 → b k = a k)) := by
  refine zx_of_i (cc := cX2_forget) (maxL := 2) (by decide) rfl (Nat.le_of_ble_eq_true rfl) ?_
  intro p e st m args below meth c A Q H cf hK hN hP hD hS hA hret ls hl
  obtain ⟨hx, hb, hml, hown, hts⟩ := id cf
  have hi2 : ∀ w ∈ wsX20, w ∈ wsX2_forget := fun w h => List.mem_cons_of_mem _ (List.mem_append_left _ (List.mem_append_right _ h))
  have hi1 : ∀ w ∈ wsX10, w ∈ wsX2_forget := fun w h => List.mem_cons_of_mem _ (List.mem_append_right _ h)
  have k19 := hts (.fieldLink RX2 19 "NineDrawers" "hall" "LNineDrawers$Hall;") (List.mem_of_getElem? (i := 1) (by decide +kernel))
  have k145 := hts (.fieldLink RX2 145 "NineDrawers$Hall" "timesFound" "I") (List.mem_of_getElem? (i := 2) (by decide +kernel))
  have hl : lv_has ls 2 [(0, .ref (r 1))] := hl
  have hP : va_P D vwCl ((zy_w cI r) (s, a, z, ah)) H := hP
  have hD : va_D A ((zy_w cI r) (s, a, z, ah)) := hD
  refine lv_aload_n hx hb dX2_forget_0 rfl (lv_at hl 0 rfl) ?_
  refine va_get (D := D) (ci := 2) (v := .ref (r 10)) (C := RX2) (T := TX2) (N := 10) hx hb hts hi2 hown hK hP 0 rfl rfl 4 (by decide) k19 (fun _ h9 => h9) rfl dX2_forget_1 ?_
  refine va_get (D := D) (ci := 1) (v := .int (nI (s 12))) (C := RX1) (T := TX1) (N := 9) hx hb hts hi1 hown hK hP 3 rfl rfl 2 (by decide) k145 (fun _ h9 => h9) rfl dX2_forget_4 ?_
  refine lv_istore_n (lv' := [(1, .int (nI (s 12))), (0, .ref (r 1))]) hx hb dX2_forget_7 rfl hl (by decide) rfl (fun ls hl => ?_)
  refine lv_aload_n hx hb dX2_forget_8 rfl (lv_at hl 1 rfl) ?_
  refine va_get (D := D) (ci := 2) (v := .ref (r 10)) (C := RX2) (T := TX2) (N := 10) hx hb hts hi2 hown hK hP 0 rfl rfl 4 (by decide) k19 (fun _ h9 => h9) rfl dX2_forget_9 ?_
  refine zx_V_v (As := []) (rest := []) cf (c_X1_clearFound l D cI cB r s a z ah) (cwV 0 hts gX2_forget_X1_clearFound rfl rfl rfl ⟨rfl, hd_X1_clearFound⟩ ⟨Nat.le_of_ble_eq_true rfl, Nat.le_of_ble_eq_true rfl⟩) hK hN hP hD hS hA 3 rfl rfl rfl hl.1 rfl (Nat.le_of_ble_eq_true rfl) dX2_forget_12 ⟨Nat.zero_le _, Nat.zero_le _⟩ (fun v_12 u_12 H locs hq hP hD hS => ?_)
  obtain ⟨b_12, rfl, h17_12, h18_12, hk_12⟩ := hq
  refine lv_iload_n hx hb dX2_forget_15 rfl (lv_at hl 0 rfl) ?_
  exact hret _ _ _ _ _ _ hP hD hS dX2_forget_16 ⟨rfl, b_12, rfl, h17_12, h18_12, hk_12⟩
set_option maxHeartbeats 4000000 in
set_option maxRecDepth 100000 in
theorem c_X2_image (l : Launch) (D : va_G) (cI cB : ClassId) (r : Nat → Nat) (s : Nat → Nat) (a : Nat → Nat → Nat) (z : Nat → Int) (ah : Int) (hI : zy_I s a z) : zx_C zx_ei l D (zm_t cI cB) (zy_w cI r) yX2_image wsX2_image rmX2_image [.ref (r 1)] (s, a, z, ah) (fun v u' => zd_out (zd_img (s 2)) (fun e9 => v = e9 ∧ u' = (s, a, z, ah)) (fun _ => v = nI (s 11) ∧ ∃ b : Nat → Nat → Nat, u' = ((zx_up (zx_up (zx_up (zx_up s 20 (s 10)) 21 (s 11)) 22 (s 12)) 5 1), b, z, ah) ∧ (∀ j, j < 6 → b 23 j = a 13 j) ∧ (∀ j, j < 6 → b 24 j = a 14 j) ∧ (∀ j, j < 6 → b 25 j = a 15 j) ∧ (∀ j, j < 9 → b 26 j = a 16 j) ∧ (∀ j, j < 9 → b 27 j = a 17 j) ∧ (∀ j, j < 9 → b 28 j = a 18 j) ∧ (∀ k, k ≠ 23 → k ≠ 24 → k ≠ 25 → k ≠ 26 → k ≠ 27 → k ≠ 28 → b k = a k))) := by
  refine zx_of_i (cc := cX2_image) (maxL := 1) (by decide) rfl (Nat.le_of_ble_eq_true rfl) ?_
  intro p e st m args below meth c A Q H cf hK hN hP hD hS hA hret ls hl
  obtain ⟨hx, hb, hml, hown, hts⟩ := id cf
  have hi2 : ∀ w ∈ wsX20, w ∈ wsX2_image := fun w h => List.mem_cons_of_mem _ (List.mem_append_left _ (List.mem_append_right _ h))
  have hi1 : ∀ w ∈ wsX10, w ∈ wsX2_image := fun w h => List.mem_cons_of_mem _ (List.mem_append_right _ h)
  have k49 := hts (.fieldLink RX2 49 "NineDrawers" "hasChest" "Z") (List.mem_of_getElem? (i := 1) (by decide +kernel))
  have k23 := hts (.fieldLink RX2 23 "NineDrawers" "kept" "LNineDrawers$Hall;") (List.mem_of_getElem? (i := 2) (by decide +kernel))
  have k19 := hts (.fieldLink RX2 19 "NineDrawers" "hall" "LNineDrawers$Hall;") (List.mem_of_getElem? (i := 3) (by decide +kernel))
  have k53 := hts (.fieldLink RX2 53 "NineDrawers" "hasImage" "Z") (List.mem_of_getElem? (i := 4) (by decide +kernel))
  have k94 := hts (.fieldLink RX2 94 "NineDrawers$Hall" "people" "I") (List.mem_of_getElem? (i := 5) (by decide +kernel))
  have hl : lv_has ls 1 [(0, .ref (r 1))] := hl
  have hP : va_P D vwCl ((zy_w cI r) (s, a, z, ah)) H := hP
  have hD : va_D A ((zy_w cI r) (s, a, z, ah)) := hD
  obtain ⟨⟨i1, i2, i5, i7, i8, i10, i11, i12⟩, ⟨i20, i21, i22⟩, iG, iP, iL, iZ, jP, jL⟩ := id hI
  refine lv_aload_n hx hb dX2_image_0 rfl (lv_at hl 0 rfl) ?_
  refine va_get (D := D) (ci := 2) (v := .int (nI (s 2))) (C := RX2) (T := TX2) (N := 10) hx hb hts hi2 hown hK hP 0 rfl rfl 2 (by decide) k49 (fun _ h9 => h9) rfl dX2_image_1 ?_
  refine zx_if_ne hx hb (tgt := 10) (by omega) dX2_image_4 (by decide) (fun c_4 => ?_) (fun c_4 => ?_)
  · refine lv_aload_n hx hb dX2_image_10 rfl (lv_at hl 0 rfl) ?_
    refine va_get (D := D) (ci := 2) (v := .ref (r 20)) (C := RX2) (T := TX2) (N := 10) hx hb hts hi2 hown hK hP 0 rfl rfl 6 (by decide) k23 (fun _ h9 => h9) rfl dX2_image_11 ?_
    refine lv_aload_n hx hb dX2_image_14 rfl (lv_at hl 0 rfl) ?_
    refine va_get (D := D) (ci := 2) (v := .ref (r 10)) (C := RX2) (T := TX2) (N := 10) hx hb hts hi2 hown hK hP 0 rfl rfl 4 (by decide) k19 (fun _ h9 => h9) rfl dX2_image_15 ?_
    refine zx_V_v (As := [.ref (r 10)]) (rest := []) cf (c_X1_take_k l D cI cB r s a z ah) (cwV 1 hts gX2_image_X1_takeFrom rfl rfl rfl ⟨rfl, hd_X1_takeFrom⟩ ⟨Nat.le_of_ble_eq_true rfl, Nat.le_of_ble_eq_true rfl⟩) hK hN hP hD hS hA 10 rfl rfl rfl hl.1 rfl (Nat.le_of_ble_eq_true rfl) dX2_image_18 ⟨Nat.zero_le _, Nat.zero_le _⟩ (fun v_18 u_18 H locs hq hP hD hS => ?_)
    obtain ⟨b_18, rfl, t0_18, t1_18, t2_18, t3_18, t4_18, t5_18, t6_18⟩ := hq
    refine lv_aload_n hx hb dX2_image_21 rfl (lv_at hl 0 rfl) ?_
    refine lv_iconst (v := nI 1) hx hb dX2_image_22 (by decide) ?_
    refine zx_put (D := D) (ci := 2) (ty := .boolean) (v := .int (nI 1)) (ws' := (zy_w cI r) ((zx_up (zx_up (zx_up (zx_up s 20 (s 10)) 21 (s 11)) 22 (s 12)) 5 1), b_18, z, ah)) (C := RX2) (T := TX2) (N := 10) hx hb hts hi2 tyX2 tyX2_ok nmX2 hown hK hP hD hS 0 rfl rfl 5 (by decide) k53 (fun _ h9 => h9) rfl (by decide +kernel) rfl rfl (Nat.le_of_ble_eq_true rfl) rfl dX2_image_23 (fun H locs hP hD hS => ?_)
    refine lv_aload_n hx hb dX2_image_26 rfl (lv_at hl 0 rfl) ?_
    refine va_get (D := D) (ci := 2) (v := .ref (r 20)) (C := RX2) (T := TX2) (N := 10) hx hb hts hi2 hown hK hP 0 rfl rfl 6 (by decide) k23 (fun _ h9 => h9) rfl dX2_image_27 ?_
    refine va_get (D := D) (ci := 1) (v := .int (nI (s 11))) (C := RX1) (T := TX1) (N := 9) hx hb hts hi1 hown hK hP 10 rfl rfl 1 (by decide) k94 (fun _ h9 => h9) rfl dX2_image_30 ?_
    exact hret _ _ _ _ _ _ hP hD hS dX2_image_33 (zd_inr (k := ()) (if_neg c_4) ⟨rfl, b_18, rfl, t0_18, t1_18, t2_18, t3_18, t4_18, t5_18, t6_18⟩)
  · refine lv_bipush (v := (-103)) hx hb dX2_image_7 (by decide) ?_
    exact hret _ _ _ _ _ _ hP hD hS dX2_image_9 (zd_inl (if_pos c_4) ⟨rfl, rfl⟩)
set_option maxHeartbeats 4000000 in
set_option maxRecDepth 100000 in
theorem c_X2_restore (l : Launch) (D : va_G) (cI cB : ClassId) (r : Nat → Nat) (s : Nat → Nat) (a : Nat → Nat → Nat) (z : Nat → Int) (ah : Int) (hI : zy_I s a z) : zx_C zx_ei l D (zm_t cI cB) (zy_w cI r) yX2_restore wsX2_restore rmX2_restore [.ref (r 1)] (s, a, z, ah) (fun v u' => zd_out (zd_img (s 5)) (fun e9 => v = e9 ∧ u' = (s, a, z, ah)) (fun _ => v = nI (s 21) ∧ ∃ b : Nat → Nat → Nat, u' = ((zx_up (zx_up (zx_up s 10 (s 20)) 11 (s 21)) 12 (s 22)), b, z, ah) ∧ (∀ j, j < 6 → b 13 j = a 23 j) ∧ (∀ j, j < 6 → b 14 j = a 24 j) ∧ (∀ j, j < 6 → b 15 j = a 25 j) ∧ (∀ j, j < 9 → b 16 j = a 26 j) ∧ (∀ j, j < 9 → b 17 j = a 27 j) ∧ (∀ j, j < 9 → b 18 j = a 28 j) ∧ (∀ k, k ≠ 13 → k ≠ 14 → k ≠ 15 → k ≠ 16 → k ≠ 17 → k ≠ 18 → b k = a k))) := by
  refine zx_of_i (cc := cX2_restore) (maxL := 1) (by decide) rfl (Nat.le_of_ble_eq_true rfl) ?_
  intro p e st m args below meth c A Q H cf hK hN hP hD hS hA hret ls hl
  obtain ⟨hx, hb, hml, hown, hts⟩ := id cf
  have hi2 : ∀ w ∈ wsX20, w ∈ wsX2_restore := fun w h => List.mem_cons_of_mem _ (List.mem_append_left _ (List.mem_append_right _ h))
  have hi1 : ∀ w ∈ wsX10, w ∈ wsX2_restore := fun w h => List.mem_cons_of_mem _ (List.mem_append_right _ h)
  have k53 := hts (.fieldLink RX2 53 "NineDrawers" "hasImage" "Z") (List.mem_of_getElem? (i := 1) (by decide +kernel))
  have k19 := hts (.fieldLink RX2 19 "NineDrawers" "hall" "LNineDrawers$Hall;") (List.mem_of_getElem? (i := 2) (by decide +kernel))
  have k23 := hts (.fieldLink RX2 23 "NineDrawers" "kept" "LNineDrawers$Hall;") (List.mem_of_getElem? (i := 3) (by decide +kernel))
  have k94 := hts (.fieldLink RX2 94 "NineDrawers$Hall" "people" "I") (List.mem_of_getElem? (i := 4) (by decide +kernel))
  have hl : lv_has ls 1 [(0, .ref (r 1))] := hl
  have hP : va_P D vwCl ((zy_w cI r) (s, a, z, ah)) H := hP
  have hD : va_D A ((zy_w cI r) (s, a, z, ah)) := hD
  obtain ⟨⟨i1, i2, i5, i7, i8, i10, i11, i12⟩, ⟨i20, i21, i22⟩, iG, iP, iL, iZ, jP, jL⟩ := id hI
  refine lv_aload_n hx hb dX2_restore_0 rfl (lv_at hl 0 rfl) ?_
  refine va_get (D := D) (ci := 2) (v := .int (nI (s 5))) (C := RX2) (T := TX2) (N := 10) hx hb hts hi2 hown hK hP 0 rfl rfl 5 (by decide) k53 (fun _ h9 => h9) rfl dX2_restore_1 ?_
  refine zx_if_ne hx hb (tgt := 10) (by omega) dX2_restore_4 (by decide) (fun c_4 => ?_) (fun c_4 => ?_)
  · refine lv_aload_n hx hb dX2_restore_10 rfl (lv_at hl 0 rfl) ?_
    refine va_get (D := D) (ci := 2) (v := .ref (r 10)) (C := RX2) (T := TX2) (N := 10) hx hb hts hi2 hown hK hP 0 rfl rfl 4 (by decide) k19 (fun _ h9 => h9) rfl dX2_restore_11 ?_
    refine lv_aload_n hx hb dX2_restore_14 rfl (lv_at hl 0 rfl) ?_
    refine va_get (D := D) (ci := 2) (v := .ref (r 20)) (C := RX2) (T := TX2) (N := 10) hx hb hts hi2 hown hK hP 0 rfl rfl 6 (by decide) k23 (fun _ h9 => h9) rfl dX2_restore_15 ?_
    refine zx_V_v (As := [.ref (r 20)]) (rest := []) cf (c_X1_take_h l D cI cB r s a z ah) (cwV 1 hts gX2_restore_X1_takeFrom rfl rfl rfl ⟨rfl, hd_X1_takeFrom⟩ ⟨Nat.le_of_ble_eq_true rfl, Nat.le_of_ble_eq_true rfl⟩) hK hN hP hD hS hA 3 rfl rfl rfl hl.1 rfl (Nat.le_of_ble_eq_true rfl) dX2_restore_18 ⟨Nat.zero_le _, Nat.zero_le _⟩ (fun v_18 u_18 H locs hq hP hD hS => ?_)
    obtain ⟨b_18, rfl, t0_18, t1_18, t2_18, t3_18, t4_18, t5_18, t6_18⟩ := hq
    refine lv_aload_n hx hb dX2_restore_21 rfl (lv_at hl 0 rfl) ?_
    refine va_get (D := D) (ci := 2) (v := .ref (r 10)) (C := RX2) (T := TX2) (N := 10) hx hb hts hi2 hown hK hP 0 rfl rfl 4 (by decide) k19 (fun _ h9 => h9) rfl dX2_restore_22 ?_
    refine va_get (D := D) (ci := 1) (v := .int (nI (s 21))) (C := RX1) (T := TX1) (N := 9) hx hb hts hi1 hown hK hP 3 rfl rfl 1 (by decide) k94 (fun _ h9 => h9) rfl dX2_restore_25 ?_
    exact hret _ _ _ _ _ _ hP hD hS dX2_restore_28 (zd_inr (k := ()) (if_neg c_4) ⟨rfl, b_18, rfl, t0_18, t1_18, t2_18, t3_18, t4_18, t5_18, t6_18⟩)
  · refine lv_bipush (v := (-103)) hx hb dX2_restore_7 (by decide) ?_
    exact hret _ _ _ _ _ _ hP hD hS dX2_restore_9 (zd_inl (if_pos c_4) ⟨rfl, rfl⟩)
