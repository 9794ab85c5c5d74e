set_option maxHeartbeats 4000000 in
set_option maxRecDepth 100000 in
theorem c_X3_person (l : Launch) (D : va_G) (cI cB : ClassId) (r : Nat → Nat) (s : Nat → Nat) (a : Nat → Nat → Nat) (z : Nat → Int) (h : Int64) (x y t9 : Int32) (hI : zm_I s a z) : zx_C zx_ei l D (zm_t cI cB) (zm_w cI cB r) yX3_person wsX3_person rmX3_person [.ref (r 0), .int x, .int y, .int t9] (s, a, z, h) (fun v u' => zd_out (zd_person (s 0) (s 5) x y t9) (fun e9 => v = e9 ∧ u' = (s, a, z, h)) (fun k => v = nI (s 5) ∧ u' = (zx_up s 5 (s 5 + 1), zx_up (zx_up (zx_up a 6 (zx_up (a 6) (s 5) k.1)) 7 (zx_up (a 7) (s 5) k.2.1)) 8 (zx_up (a 8) (s 5) k.2.2), z, h))) := by
  refine zx_of_i (cc := cX3_person) (maxL := 4) (by decide) rfl (Nat.le_of_ble_eq_true rfl) ?_
  intro p e st m args below meth c A Q H cf hK hN hP hD hS hA hret ls hl
  obtain ⟨hx, hb, hml, hown, hts⟩ := id cf
  have hi3 : ∀ w ∈ wsX30, w ∈ wsX3_person := fun w h => List.mem_cons_of_mem _ (List.mem_append_right _ h)
  have k82 := hts (.fieldLink RX3 82 "NineDrawersModel" "people" "I") (List.mem_of_getElem? (i := 1) (by decide +kernel))
  have k16 := hts (.fieldLink RX3 16 "NineDrawersModel" "kindOf" "[I") (List.mem_of_getElem? (i := 2) (by decide +kernel))
  have k19 := hts (.fieldLink RX3 19 "NineDrawersModel" "drawerOf" "[I") (List.mem_of_getElem? (i := 3) (by decide +kernel))
  have k22 := hts (.fieldLink RX3 22 "NineDrawersModel" "dayOf" "[I") (List.mem_of_getElem? (i := 4) (by decide +kernel))
  have hl : lv_has ls 4 [(0, .ref (r 0)), (1, .int x), (2, .int y), (3, .int t9)] := hl
  have hP : va_P D vwCl ((zm_w cI cB r) (s, a, z, h)) H := hP
  have hD : va_D A ((zm_w cI cB r) (s, a, z, h)) := hD
  obtain ⟨⟨i0, i1, i3, i5, i9, i13, i14⟩, ⟨i17, i18, i19, i20, i21⟩, iP, iF, iL, iG, iZ, jL, jP, jF⟩ := id hI
  refine lv_iload_n hx hb dX3_person_0 rfl (lv_at hl 1 rfl) ?_
  refine lv_iconst (v := nI 0) hx hb dX3_person_1 (by decide) ?_
  refine lv_iconst (v := nI 4) hx hb dX3_person_2 (by decide) ?_
  refine zx_S (As := [.int x, .int (nI 0), .int (nI 4)]) (rest := []) cf (c_X3_within l D x (nI 0) (nI 4) ) (va_cwS 3 hts gX3_person_X3_within rfl rfl rfl hd_X3_within ⟨Nat.le_of_ble_eq_true rfl, Nat.le_of_ble_eq_true rfl⟩) hK hN hP hS hA rfl hl.1 rfl (Nat.le_of_ble_eq_true rfl) dX3_person_3 ⟨Nat.zero_le _, Nat.zero_le _⟩ (fun H locs hP hS => ?_)
  refine zx_bf_ne hx hb (tgt := 12) dX3_person_6 (by decide) (fun c_6 => ?_) (fun c_6 => ?_)
  · obtain ⟨k, rfl, hk1, hk2, hz⟩ := zd_yes (by decide) (by decide) c_6
    refine lv_aload_n hx hb dX3_person_12 rfl (lv_at hl 0 rfl) ?_
    refine lv_iload_n hx hb dX3_person_13 rfl (lv_at hl 2 rfl) ?_
    refine zx_V_i (As := [.int y]) (rest := []) cf (c_X3_isDrawer l D cI cB r s a z h y hI ) (cwV 1 hts gX3_person_X3_isDrawer rfl rfl rfl ⟨rfl, hd_X3_isDrawer⟩ ⟨Nat.le_of_ble_eq_true rfl, Nat.le_of_ble_eq_true rfl⟩) hK hN hP hD hS hA 0 rfl rfl rfl hl.1 rfl (Nat.le_of_ble_eq_true rfl) dX3_person_14 ⟨Nat.zero_le _, Nat.zero_le _⟩ (fun v_14 u_14 H locs hq hP hD hS => ?_)
    obtain ⟨rfl, rfl⟩ := hq
    refine zx_bf_eq hx hb (tgt := 27) dX3_person_17 (by decide) (fun c_17 => ?_) (fun c_17 => ?_)
    · refine lv_bipush (v := (-101)) hx hb dX3_person_27 (by decide) ?_
      exact hret _ _ _ _ _ _ hP hD hS dX3_person_29 (zd_inl (by unfold zd_person; simp only [hz, zd_none c_17]) ⟨rfl, rfl⟩)
    · obtain ⟨d, hy⟩ := zd_some c_17
      obtain ⟨rfl, hd, hc9⟩ := zd_drw_some hy
      refine lv_iload_n hx hb dX3_person_20 rfl (lv_at hl 3 rfl) ?_
      refine zx_S (As := [.int t9]) (rest := []) cf (c_X3_isDay l D t9 ) (va_cwS 1 hts gX3_person_X3_isDay rfl rfl rfl hd_X3_isDay ⟨Nat.le_of_ble_eq_true rfl, Nat.le_of_ble_eq_true rfl⟩) hK hN hP hS hA rfl hl.1 rfl (Nat.le_of_ble_eq_true rfl) dX3_person_21 ⟨Nat.zero_le _, Nat.zero_le _⟩ (fun H locs hP hS => ?_)
      refine zx_bf_ne hx hb (tgt := 30) dX3_person_24 (by decide) (fun c_24 => ?_) (fun c_24 => ?_)
      · obtain ⟨o, rfl, ho1, ho2, ht⟩ := zd_yes (by decide) (by decide) c_24
        refine lv_aload_n hx hb dX3_person_30 rfl (lv_at hl 0 rfl) ?_
        refine va_get (D := D) (ci := 3) (v := .int (nI (s 5))) (C := RX3) (T := TX3) (N := 29) hx hb hts hi3 hown hK hP 0 rfl rfl 5 (by decide) k82 (fun _ h9 => h9) rfl dX3_person_31 ?_
        refine lv_bipush (v := nI 6) hx hb dX3_person_34 (by decide) ?_
        refine zx_icmp_ne hx hb (tgt := 42) (by omega) (by omega) dX3_person_36 (by decide) (fun c_36 => ?_) (fun c_36 => ?_)
        · refine lv_aload_n hx hb dX3_person_42 rfl (lv_at hl 0 rfl) ?_
          refine va_get (D := D) (ci := 3) (v := .ref (r 6)) (C := RX3) (T := TX3) (N := 29) hx hb hts hi3 hown hK hP 0 rfl rfl 6 (by decide) k16 (fun _ h9 => h9) rfl dX3_person_43 ?_
          refine lv_aload_n hx hb dX3_person_46 rfl (lv_at hl 0 rfl) ?_
          refine va_get (D := D) (ci := 3) (v := .int (nI (s 5))) (C := RX3) (T := TX3) (N := 29) hx hb hts hi3 hown hK hP 0 rfl rfl 5 (by decide) k82 (fun _ h9 => h9) rfl dX3_person_47 ?_
          refine lv_iload_n hx hb dX3_person_50 rfl (lv_at hl 1 rfl) ?_
          refine zx_ast (f := a 6) (n := 6) (ws' := (zm_w cI cB r) (s, (zx_up a 6 (zx_up (a 6) (s 5) k)), z, h)) hx hb hK hP hD hS 3 0 rfl rfl (by omega) (by decide) rfl dX3_person_51 (fun H locs hP hD hS => ?_)
          refine lv_aload_n hx hb dX3_person_52 rfl (lv_at hl 0 rfl) ?_
          refine va_get (D := D) (ci := 3) (v := .ref (r 7)) (C := RX3) (T := TX3) (N := 29) hx hb hts hi3 hown hK hP 0 rfl rfl 7 (by decide) k19 (fun _ h9 => h9) rfl dX3_person_53 ?_
          refine lv_aload_n hx hb dX3_person_56 rfl (lv_at hl 0 rfl) ?_
          refine va_get (D := D) (ci := 3) (v := .int (nI (s 5))) (C := RX3) (T := TX3) (N := 29) hx hb hts hi3 hown hK hP 0 rfl rfl 5 (by decide) k82 (fun _ h9 => h9) rfl dX3_person_57 ?_
          refine lv_iload_n hx hb dX3_person_60 rfl (lv_at hl 2 rfl) ?_
          refine zx_ast (f := a 7) (n := 6) (ws' := (zm_w cI cB r) (s, (zx_up (zx_up a 6 (zx_up (a 6) (s 5) k)) 7 (zx_up (a 7) (s 5) d)), z, h)) hx hb hK hP hD hS 4 0 rfl rfl (by omega) (by decide) rfl dX3_person_61 (fun H locs hP hD hS => ?_)
          refine lv_aload_n hx hb dX3_person_62 rfl (lv_at hl 0 rfl) ?_
          refine va_get (D := D) (ci := 3) (v := .ref (r 8)) (C := RX3) (T := TX3) (N := 29) hx hb hts hi3 hown hK hP 0 rfl rfl 8 (by decide) k22 (fun _ h9 => h9) rfl dX3_person_63 ?_
          refine lv_aload_n hx hb dX3_person_66 rfl (lv_at hl 0 rfl) ?_
          refine va_get (D := D) (ci := 3) (v := .int (nI (s 5))) (C := RX3) (T := TX3) (N := 29) hx hb hts hi3 hown hK hP 0 rfl rfl 5 (by decide) k82 (fun _ h9 => h9) rfl dX3_person_67 ?_
          refine lv_iload_n hx hb dX3_person_70 rfl (lv_at hl 3 rfl) ?_
          refine zx_ast (f := a 8) (n := 6) (ws' := (zm_w cI cB r) (s, (zx_up (zx_up (zx_up a 6 (zx_up (a 6) (s 5) k)) 7 (zx_up (a 7) (s 5) d)) 8 (zx_up (a 8) (s 5) o)), z, h)) hx hb hK hP hD hS 5 0 rfl rfl (by omega) (by decide) rfl dX3_person_71 (fun H locs hP hD hS => ?_)
          refine lv_aload_n hx hb dX3_person_72 rfl (lv_at hl 0 rfl) ?_
          refine lv_dup hx hb dX3_person_73 rfl ?_
          refine va_get (D := D) (ci := 3) (v := .int (nI (s 5))) (C := RX3) (T := TX3) (N := 29) hx hb hts hi3 hown hK hP 0 rfl rfl 5 (by decide) k82 (fun _ h9 => h9) rfl dX3_person_74 ?_
          refine lv_iconst (v := nI 1) hx hb dX3_person_77 (by decide) ?_
          refine zx_iadd hx hb dX3_person_78 ?_
          refine zx_put (D := D) (ci := 3) (ty := .int) (v := .int (nI ((s 5) + 1))) (ws' := (zm_w cI cB r) ((zx_up s 5 ((s 5) + 1)), (zx_up (zx_up (zx_up a 6 (zx_up (a 6) (s 5) k)) 7 (zx_up (a 7) (s 5) d)) 8 (zx_up (a 8) (s 5) o)), z, h)) (C := RX3) (T := TX3) (N := 29) hx hb hts hi3 tyX3 tyX3_ok nmX3 hown hK hP hD hS 0 rfl rfl 5 (by decide) k82 (fun _ h9 => h9) rfl (by decide +kernel) rfl rfl (Nat.le_of_ble_eq_true rfl) rfl dX3_person_79 (fun H locs hP hD hS => ?_)
          refine lv_aload_n hx hb dX3_person_82 rfl (lv_at hl 0 rfl) ?_
          refine va_get (D := D) (ci := 3) (v := .int (nI ((s 5) + 1))) (C := RX3) (T := TX3) (N := 29) hx hb hts hi3 hown hK hP 0 rfl rfl 5 (by decide) k82 (fun _ h9 => h9) rfl dX3_person_83 ?_
          refine lv_iconst (v := nI 1) hx hb dX3_person_86 (by decide) ?_
          refine zx_isub hx hb (by omega) dX3_person_87 ?_
          refine zx_topi (y := nI (s 5)) (rfl) ?_
          exact hret _ _ _ _ _ _ hP hD hS dX3_person_88 (zd_inr (by unfold zd_person; simp only [hz, hy, ht]; exact if_neg c_36) ⟨rfl, rfl⟩)
        · refine lv_bipush (v := (-104)) hx hb dX3_person_39 (by decide) ?_
          exact hret _ _ _ _ _ _ hP hD hS dX3_person_41 (zd_inl (by unfold zd_person; simp only [hz, hy, ht]; exact if_pos c_36) ⟨rfl, rfl⟩)
      · refine lv_bipush (v := (-101)) hx hb dX3_person_27 (by decide) ?_
        exact hret _ _ _ _ _ _ hP hD hS dX3_person_29 (zd_inl (by unfold zd_person; simp only [hz, hy, zd_nos c_24]) ⟨rfl, rfl⟩)
  · refine lv_bipush (v := (-102)) hx hb dX3_person_9 (by decide) ?_
    exact hret _ _ _ _ _ _ hP hD hS dX3_person_11 (zd_inl (by unfold zd_person; simp only [zd_nos c_6]) ⟨rfl, rfl⟩)
set_option maxHeartbeats 4000000 in
set_option maxRecDepth 100000 in
theorem c_X3_personNow (l : Launch) (D : va_G) (cI cB : ClassId) (r : Nat → Nat) (s : Nat → Nat) (a : Nat → Nat → Nat) (z : Nat → Int) (h : Int64) (p9 q : Nat) (hI : zm_I s a z) (hp9 : p9 < 6) (hq : q < 27) : zx_C zx_ei l D (zm_t cI cB) (zm_w cI cB r) yX3_personNow wsX3_personNow rmX3_personNow [.ref (r 0), .int (nI p9), .int (nI q)] (s, a, z, h) (fun v u' => v = zp_ab (a 6 p9) (a 7 p9) (a 8 p9) q ∧ u' = (s, a, z, h)) := by
  refine zx_of_i (cc := cX3_personNow) (maxL := 3) (by decide) rfl (Nat.le_of_ble_eq_true rfl) ?_
  intro p e st m args below meth c A Q H cf hK hN hP hD hS hA hret ls hl
  obtain ⟨hx, hb, hml, hown, hts⟩ := id cf
  have hi3 : ∀ w ∈ wsX30, w ∈ wsX3_personNow := fun w h => List.mem_cons_of_mem _ (List.mem_append_right _ h)
  have k22 := hts (.fieldLink RX3 22 "NineDrawersModel" "dayOf" "[I") (List.mem_of_getElem? (i := 2) (by decide +kernel))
  have k19 := hts (.fieldLink RX3 19 "NineDrawersModel" "drawerOf" "[I") (List.mem_of_getElem? (i := 3) (by decide +kernel))
  have k16 := hts (.fieldLink RX3 16 "NineDrawersModel" "kindOf" "[I") (List.mem_of_getElem? (i := 1) (by decide +kernel))
  have hl : lv_has ls 3 [(0, .ref (r 0)), (1, .int (nI p9)), (2, .int (nI q))] := hl
  have hP : va_P D vwCl ((zm_w cI cB r) (s, a, z, h)) H := hP
  have hD : va_D A ((zm_w cI cB r) (s, a, z, h)) := hD
  obtain ⟨⟨i0, i1, i3, i5, i9, i13, i14⟩, ⟨i17, i18, i19, i20, i21⟩, iP, iF, iL, iG, iZ, jL, jP, jF⟩ := id hI
  refine lv_iload_n hx hb dX3_personNow_0 rfl (lv_at hl 2 rfl) ?_
  refine lv_iconst (v := nI 2) hx hb dX3_personNow_1 (by decide) ?_
  refine zx_icmp_le hx hb (tgt := 44) (by omega) (by omega) dX3_personNow_2 (by decide) (fun c_2 => ?_) (fun c_2 => ?_)
  · refine lv_iload_n hx hb dX3_personNow_44 rfl (lv_at hl 2 rfl) ?_
    refine zx_if_ne hx hb (tgt := 57) (by omega) dX3_personNow_45 (by decide) (fun c_45 => ?_) (fun c_45 => ?_)
    · refine lv_iload_n hx hb dX3_personNow_57 rfl (lv_at hl 2 rfl) ?_
      refine lv_iconst (v := nI 1) hx hb dX3_personNow_58 (by decide) ?_
      refine zx_icmp_ne hx hb (tgt := 71) (by omega) (by omega) dX3_personNow_59 (by decide) (fun c_59 => ?_) (fun c_59 => ?_)
      · refine lv_aload_n hx hb dX3_personNow_71 rfl (lv_at hl 0 rfl) ?_
        refine va_get (D := D) (ci := 3) (v := .ref (r 8)) (C := RX3) (T := TX3) (N := 29) hx hb hts hi3 hown hK hP 0 rfl rfl 8 (by decide) k22 (fun _ h9 => h9) rfl dX3_personNow_72 ?_
        refine lv_iload_n hx hb dX3_personNow_75 rfl (lv_at hl 1 rfl) ?_
        refine zx_ald (f := a 8) (n := 6) hx hb hK hP 5 0 rfl rfl (by omega) (by decide) dX3_personNow_76 ?_
        exact hret _ _ _ _ _ _ hP hD hS dX3_personNow_77 ⟨by rw [show q = 2 by omega]; rfl, rfl⟩
      · refine lv_aload_n hx hb dX3_personNow_62 rfl (lv_at hl 0 rfl) ?_
        refine va_get (D := D) (ci := 3) (v := .ref (r 7)) (C := RX3) (T := TX3) (N := 29) hx hb hts hi3 hown hK hP 0 rfl rfl 7 (by decide) k19 (fun _ h9 => h9) rfl dX3_personNow_63 ?_
        refine lv_iload_n hx hb dX3_personNow_66 rfl (lv_at hl 1 rfl) ?_
        refine zx_ald (f := a 7) (n := 6) hx hb hK hP 4 0 rfl rfl (by omega) (by decide) dX3_personNow_67 ?_
        refine lv_goto (tgt := 77) hx hb dX3_personNow_68 (by decide) ?_
        exact hret _ _ _ _ _ _ hP hD hS dX3_personNow_77 ⟨by rw [c_59]; rfl, rfl⟩
    · refine lv_aload_n hx hb dX3_personNow_48 rfl (lv_at hl 0 rfl) ?_
      refine va_get (D := D) (ci := 3) (v := .ref (r 6)) (C := RX3) (T := TX3) (N := 29) hx hb hts hi3 hown hK hP 0 rfl rfl 6 (by decide) k16 (fun _ h9 => h9) rfl dX3_personNow_49 ?_
      refine lv_iload_n hx hb dX3_personNow_52 rfl (lv_at hl 1 rfl) ?_
      refine zx_ald (f := a 6) (n := 6) hx hb hK hP 3 0 rfl rfl (by omega) (by decide) dX3_personNow_53 ?_
      refine lv_goto (tgt := 77) hx hb dX3_personNow_54 (by decide) ?_
      exact hret _ _ _ _ _ _ hP hD hS dX3_personNow_77 ⟨by rw [c_45]; rfl, rfl⟩
  · refine lv_aload_n hx hb dX3_personNow_5 rfl (lv_at hl 0 rfl) ?_
    refine va_get (D := D) (ci := 3) (v := .ref (r 6)) (C := RX3) (T := TX3) (N := 29) hx hb hts hi3 hown hK hP 0 rfl rfl 6 (by decide) k16 (fun _ h9 => h9) rfl dX3_personNow_6 ?_
    refine lv_iload_n hx hb dX3_personNow_9 rfl (lv_at hl 1 rfl) ?_
    refine zx_ald (f := a 6) (n := 6) hx hb hK hP 3 0 rfl rfl (by omega) (by decide) dX3_personNow_10 ?_
    refine lv_aload_n hx hb dX3_personNow_11 rfl (lv_at hl 0 rfl) ?_
    refine va_get (D := D) (ci := 3) (v := .ref (r 8)) (C := RX3) (T := TX3) (N := 29) hx hb hts hi3 hown hK hP 0 rfl rfl 8 (by decide) k22 (fun _ h9 => h9) rfl dX3_personNow_12 ?_
    refine lv_iload_n hx hb dX3_personNow_15 rfl (lv_at hl 1 rfl) ?_
    refine zx_ald (f := a 8) (n := 6) hx hb hK hP 5 0 rfl rfl (by omega) (by decide) dX3_personNow_16 ?_
    refine lv_iload_n hx hb dX3_personNow_17 rfl (lv_at hl 2 rfl) ?_
    refine lv_bipush (v := nI 10) hx hb dX3_personNow_18 (by decide) ?_
    refine zx_irem hx hb (by omega) (by omega) (by omega) dX3_personNow_20 ?_
    refine lv_iload_n hx hb dX3_personNow_21 rfl (lv_at hl 2 rfl) ?_
    refine lv_bipush (v := nI 20) hx hb dX3_personNow_22 (by decide) ?_
    refine zx_icmp_lt hx hb (tgt := 31) (by omega) (by omega) dX3_personNow_24 (by decide) (fun c_24 => ?_) (fun c_24 => ?_)
    · refine lv_iconst (v := nI 0) hx hb dX3_personNow_31 (by decide) ?_
      refine zx_topi (y := zx_b false) (zx_b_0) ?_
      refine zx_S (As := [.int (nI ((a 6) p9)), .int (nI ((a 8) p9)), .int (nI (q % 10)), .int (zx_b false)]) (rest := []) cf (c_X3_puts l D ((a 6) p9) ((a 8) p9) (q % 10) false (by have := (iP p9 hp9).1; omega) (by have := (iP p9 hp9).2.2; omega) (by omega)) (va_cwS 4 hts gX3_personNow_X3_puts rfl rfl rfl hd_X3_puts ⟨Nat.le_of_ble_eq_true rfl, Nat.le_of_ble_eq_true rfl⟩) hK hN hP hS hA rfl hl.1 rfl (Nat.le_of_ble_eq_true rfl) dX3_personNow_32 ⟨Nat.zero_le _, Nat.zero_le _⟩ (fun H locs hP hS => ?_)
      refine zx_bf_eq hx hb (tgt := 42) dX3_personNow_35 (by decide) (fun c_35 => ?_) (fun c_35 => ?_)
      · refine lv_iconst (v := nI 0) hx hb dX3_personNow_42 (by decide) ?_
        exact hret _ _ _ _ _ _ hP hD hS dX3_personNow_43 ⟨(zp_ab_0 c_2 c_24 c_35).symm, rfl⟩
      · refine lv_iconst (v := nI 1) hx hb dX3_personNow_38 (by decide) ?_
        refine lv_goto (tgt := 43) hx hb dX3_personNow_39 (by decide) ?_
        exact hret _ _ _ _ _ _ hP hD hS dX3_personNow_43 ⟨(zp_ab_1 c_2 c_24 c_35).symm, rfl⟩
    · refine lv_iconst (v := nI 1) hx hb dX3_personNow_27 (by decide) ?_
      refine zx_topi (y := zx_b true) (zx_b_1) ?_
      refine lv_goto (tgt := 32) hx hb dX3_personNow_28 (by decide) ?_
      refine zx_S (As := [.int (nI ((a 6) p9)), .int (nI ((a 8) p9)), .int (nI (q % 10)), .int (zx_b true)]) (rest := []) cf (c_X3_puts l D ((a 6) p9) ((a 8) p9) (q % 10) true (by have := (iP p9 hp9).1; omega) (by have := (iP p9 hp9).2.2; omega) (by omega)) (va_cwS 4 hts gX3_personNow_X3_puts rfl rfl rfl hd_X3_puts ⟨Nat.le_of_ble_eq_true rfl, Nat.le_of_ble_eq_true rfl⟩) hK hN hP hS hA rfl hl.1 rfl (Nat.le_of_ble_eq_true rfl) dX3_personNow_32 ⟨Nat.zero_le _, Nat.zero_le _⟩ (fun H locs hP hS => ?_)
      refine zx_bf_eq hx hb (tgt := 42) dX3_personNow_35 (by decide) (fun c_35 => ?_) (fun c_35 => ?_)
      · refine lv_iconst (v := nI 0) hx hb dX3_personNow_42 (by decide) ?_
        exact hret _ _ _ _ _ _ hP hD hS dX3_personNow_43 ⟨(zp_ab_10 c_2 c_24 c_35).symm, rfl⟩
      · refine lv_iconst (v := nI 1) hx hb dX3_personNow_38 (by decide) ?_
        refine lv_goto (tgt := 43) hx hb dX3_personNow_39 (by decide) ?_
        exact hret _ _ _ _ _ _ hP hD hS dX3_personNow_43 ⟨(zp_ab_11 c_2 c_24 c_35).symm, rfl⟩
set_option maxHeartbeats 4000000 in
set_option maxRecDepth 100000 in
theorem c_X3_about (l : Launch) (D : va_G) (cI cB : ClassId) (r : Nat → Nat) (s : Nat → Nat) (a : Nat → Nat → Nat) (z : Nat → Int) (h : Int64) (x y : Int32) (hI : zm_I s a z) : zx_C zx_ei l D (zm_t cI cB) (zm_w cI cB r) yX3_about wsX3_about rmX3_about [.ref (r 0), .int x, .int y] (s, a, z, h) (fun v u' => v = zs_ab (zd_per (s 5) x) y (fun p9 q => zp_ab (a 6 p9) (a 7 p9) (a 8 p9) q) ∧ u' = (s, a, z, h)) := by
  refine zx_of_i (cc := cX3_about) (maxL := 4) (by decide) rfl (Nat.le_of_ble_eq_true rfl) ?_
  intro p e st m args below meth c A Q H cf hK hN hP hD hS hA hret ls hl
  obtain ⟨hx, hb, hml, hown, hts⟩ := id cf
  have hl : lv_has ls 4 [(0, .ref (r 0)), (1, .int x), (2, .int y)] := hl
  have hP : va_P D vwCl ((zm_w cI cB r) (s, a, z, h)) H := hP
  have hD : va_D A ((zm_w cI cB r) (s, a, z, h)) := hD
  obtain ⟨⟨i0, i1, i3, i5, i9, i13, i14⟩, ⟨i17, i18, i19, i20, i21⟩, iP, iF, iL, iG, iZ, jL, jP, jF⟩ := id hI
  refine lv_iload_n hx hb dX3_about_0 rfl (lv_at hl 2 rfl) ?_
  refine lv_iconst (v := nI 0) hx hb dX3_about_1 (by decide) ?_
  refine lv_iconst (v := nI 2) hx hb dX3_about_2 (by decide) ?_
  refine zx_S (As := [.int y, .int (nI 0), .int (nI 2)]) (rest := []) cf (c_X3_within l D y (nI 0) (nI 2) ) (va_cwS 3 hts gX3_about_X3_within rfl rfl rfl hd_X3_within ⟨Nat.le_of_ble_eq_true rfl, Nat.le_of_ble_eq_true rfl⟩) hK hN hP hS hA rfl hl.1 rfl (Nat.le_of_ble_eq_true rfl) dX3_about_3 ⟨Nat.zero_le _, Nat.zero_le _⟩ (fun H locs hP hS => ?_)
  refine zx_bf_ne hx hb (tgt := 31) dX3_about_6 (by decide) (fun c_6 => ?_) (fun c_6 => ?_)
  · obtain ⟨q, rfl, hq1, hq2, hy⟩ := zd_yes (by decide) (by decide) c_6
    have hy9 := zd_abq (Or.inl hy)
    refine lv_iconst (v := nI 1) hx hb dX3_about_31 (by decide) ?_
    refine lv_goto (tgt := 36) hx hb dX3_about_32 (by decide) ?_
    refine lv_istore_n (lv' := [(3, .int (nI 1)), (0, .ref (r 0)), (1, .int x), (2, .int (nI q))]) hx hb dX3_about_36 rfl hl (by decide) rfl (fun ls hl => ?_)
    refine lv_aload_n hx hb dX3_about_37 rfl (lv_at hl 1 rfl) ?_
    refine lv_iload_n hx hb dX3_about_38 rfl (lv_at hl 2 rfl) ?_
    refine zx_V_i (As := [.int x]) (rest := []) cf (c_X3_isPerson l D cI cB r s a z h x hI ) (cwV 1 hts gX3_about_X3_isPerson rfl rfl rfl ⟨rfl, hd_X3_isPerson⟩ ⟨Nat.le_of_ble_eq_true rfl, Nat.le_of_ble_eq_true rfl⟩) hK hN hP hD hS hA 0 rfl rfl rfl hl.1 rfl (Nat.le_of_ble_eq_true rfl) dX3_about_39 ⟨Nat.zero_le _, Nat.zero_le _⟩ (fun v_39 u_39 H locs hq hP hD hS => ?_)
    obtain ⟨rfl, rfl⟩ := hq
    refine zx_bf_ne hx hb (tgt := 50) dX3_about_42 (by decide) (fun c_42 => ?_) (fun c_42 => ?_)
    · obtain ⟨p9, hz⟩ := zd_some c_42
      obtain ⟨rfl, hp9⟩ := zd_per_some (by omega) hz
      refine lv_iload_n hx hb dX3_about_50 rfl (lv_at hl 0 rfl) ?_
      refine zx_if_eq hx hb (tgt := 63) (by omega) dX3_about_51 (by decide) (fun c_51 => ?_) (fun c_51 => ?_)
      · exact absurd c_51 (by decide)
      · refine lv_aload_n hx hb dX3_about_54 rfl (lv_at hl 1 rfl) ?_
        refine lv_iload_n hx hb dX3_about_55 rfl (lv_at hl 2 rfl) ?_
        refine lv_iload_n hx hb dX3_about_56 rfl (lv_at hl 3 rfl) ?_
        refine zx_V_i (As := [.int (nI p9), .int (nI q)]) (rest := []) cf (c_X3_personNow l D cI cB r s a z h p9 q hI (by omega) (by omega)) (cwV 2 hts gX3_about_X3_personNow rfl rfl rfl ⟨rfl, hd_X3_personNow⟩ ⟨Nat.le_of_ble_eq_true rfl, Nat.le_of_ble_eq_true rfl⟩) hK hN hP hD hS hA 0 rfl rfl rfl hl.1 rfl (Nat.le_of_ble_eq_true rfl) dX3_about_57 ⟨Nat.zero_le _, Nat.zero_le _⟩ (fun v_57 u_57 H locs hq hP hD hS => ?_)
        obtain ⟨rfl, rfl⟩ := hq
        refine lv_goto (tgt := 65) hx hb dX3_about_60 (by decide) ?_
        exact hret _ _ _ _ _ _ hP hD hS dX3_about_65 ⟨by rw [hz]; exact (zs_abi hy9).symm, rfl⟩
    · refine lv_bipush (v := (-101)) hx hb dX3_about_45 (by decide) ?_
      refine lv_goto (tgt := 65) hx hb dX3_about_47 (by decide) ?_
      exact hret _ _ _ _ _ _ hP hD hS dX3_about_65 ⟨by rw [zd_none c_42]; rfl, rfl⟩
  · refine lv_iload_n hx hb dX3_about_9 rfl (lv_at hl 2 rfl) ?_
    refine lv_bipush (v := nI 10) hx hb dX3_about_10 (by decide) ?_
    refine lv_bipush (v := nI 16) hx hb dX3_about_12 (by decide) ?_
    refine zx_S (As := [.int y, .int (nI 10), .int (nI 16)]) (rest := []) cf (c_X3_within l D y (nI 10) (nI 16) ) (va_cwS 3 hts gX3_about_X3_within rfl rfl rfl hd_X3_within ⟨Nat.le_of_ble_eq_true rfl, Nat.le_of_ble_eq_true rfl⟩) hK hN hP hS hA rfl hl.1 rfl (Nat.le_of_ble_eq_true rfl) dX3_about_14 ⟨Nat.zero_le _, Nat.zero_le _⟩ (fun H locs hP hS => ?_)
    refine zx_bf_ne hx hb (tgt := 31) dX3_about_17 (by decide) (fun c_17 => ?_) (fun c_17 => ?_)
    · obtain ⟨q, rfl, hq1, hq2, hy⟩ := zd_yes (by decide) (by decide) c_17
      have hy9 := zd_abq (Or.inr (Or.inl hy))
      refine lv_iconst (v := nI 1) hx hb dX3_about_31 (by decide) ?_
      refine lv_goto (tgt := 36) hx hb dX3_about_32 (by decide) ?_
      refine lv_istore_n (lv' := [(3, .int (nI 1)), (0, .ref (r 0)), (1, .int x), (2, .int (nI q))]) hx hb dX3_about_36 rfl hl (by decide) rfl (fun ls hl => ?_)
      refine lv_aload_n hx hb dX3_about_37 rfl (lv_at hl 1 rfl) ?_
      refine lv_iload_n hx hb dX3_about_38 rfl (lv_at hl 2 rfl) ?_
      refine zx_V_i (As := [.int x]) (rest := []) cf (c_X3_isPerson l D cI cB r s a z h x hI ) (cwV 1 hts gX3_about_X3_isPerson rfl rfl rfl ⟨rfl, hd_X3_isPerson⟩ ⟨Nat.le_of_ble_eq_true rfl, Nat.le_of_ble_eq_true rfl⟩) hK hN hP hD hS hA 0 rfl rfl rfl hl.1 rfl (Nat.le_of_ble_eq_true rfl) dX3_about_39 ⟨Nat.zero_le _, Nat.zero_le _⟩ (fun v_39 u_39 H locs hq hP hD hS => ?_)
      obtain ⟨rfl, rfl⟩ := hq
      refine zx_bf_ne hx hb (tgt := 50) dX3_about_42 (by decide) (fun c_42 => ?_) (fun c_42 => ?_)
      · obtain ⟨p9, hz⟩ := zd_some c_42
        obtain ⟨rfl, hp9⟩ := zd_per_some (by omega) hz
        refine lv_iload_n hx hb dX3_about_50 rfl (lv_at hl 0 rfl) ?_
        refine zx_if_eq hx hb (tgt := 63) (by omega) dX3_about_51 (by decide) (fun c_51 => ?_) (fun c_51 => ?_)
        · exact absurd c_51 (by decide)
        · refine lv_aload_n hx hb dX3_about_54 rfl (lv_at hl 1 rfl) ?_
          refine lv_iload_n hx hb dX3_about_55 rfl (lv_at hl 2 rfl) ?_
          refine lv_iload_n hx hb dX3_about_56 rfl (lv_at hl 3 rfl) ?_
          refine zx_V_i (As := [.int (nI p9), .int (nI q)]) (rest := []) cf (c_X3_personNow l D cI cB r s a z h p9 q hI (by omega) (by omega)) (cwV 2 hts gX3_about_X3_personNow rfl rfl rfl ⟨rfl, hd_X3_personNow⟩ ⟨Nat.le_of_ble_eq_true rfl, Nat.le_of_ble_eq_true rfl⟩) hK hN hP hD hS hA 0 rfl rfl rfl hl.1 rfl (Nat.le_of_ble_eq_true rfl) dX3_about_57 ⟨Nat.zero_le _, Nat.zero_le _⟩ (fun v_57 u_57 H locs hq hP hD hS => ?_)
          obtain ⟨rfl, rfl⟩ := hq
          refine lv_goto (tgt := 65) hx hb dX3_about_60 (by decide) ?_
          exact hret _ _ _ _ _ _ hP hD hS dX3_about_65 ⟨by rw [hz]; exact (zs_abi hy9).symm, rfl⟩
      · refine lv_bipush (v := (-101)) hx hb dX3_about_45 (by decide) ?_
        refine lv_goto (tgt := 65) hx hb dX3_about_47 (by decide) ?_
        exact hret _ _ _ _ _ _ hP hD hS dX3_about_65 ⟨by rw [zd_none c_42]; rfl, rfl⟩
    · refine lv_iload_n hx hb dX3_about_20 rfl (lv_at hl 2 rfl) ?_
      refine lv_bipush (v := nI 20) hx hb dX3_about_21 (by decide) ?_
      refine lv_bipush (v := nI 26) hx hb dX3_about_23 (by decide) ?_
      refine zx_S (As := [.int y, .int (nI 20), .int (nI 26)]) (rest := []) cf (c_X3_within l D y (nI 20) (nI 26) ) (va_cwS 3 hts gX3_about_X3_within rfl rfl rfl hd_X3_within ⟨Nat.le_of_ble_eq_true rfl, Nat.le_of_ble_eq_true rfl⟩) hK hN hP hS hA rfl hl.1 rfl (Nat.le_of_ble_eq_true rfl) dX3_about_25 ⟨Nat.zero_le _, Nat.zero_le _⟩ (fun H locs hP hS => ?_)
      refine zx_bf_eq hx hb (tgt := 35) dX3_about_28 (by decide) (fun c_28 => ?_) (fun c_28 => ?_)
      · have hy9 := zd_abn (zd_nos c_6) (zd_nos c_17) (zd_nos c_28)
        refine lv_iconst (v := nI 0) hx hb dX3_about_35 (by decide) ?_
        refine lv_istore_n (lv' := [(3, .int (nI 0)), (0, .ref (r 0)), (1, .int x), (2, .int y)]) hx hb dX3_about_36 rfl hl (by decide) rfl (fun ls hl => ?_)
        refine lv_aload_n hx hb dX3_about_37 rfl (lv_at hl 1 rfl) ?_
        refine lv_iload_n hx hb dX3_about_38 rfl (lv_at hl 2 rfl) ?_
        refine zx_V_i (As := [.int x]) (rest := []) cf (c_X3_isPerson l D cI cB r s a z h x hI ) (cwV 1 hts gX3_about_X3_isPerson rfl rfl rfl ⟨rfl, hd_X3_isPerson⟩ ⟨Nat.le_of_ble_eq_true rfl, Nat.le_of_ble_eq_true rfl⟩) hK hN hP hD hS hA 0 rfl rfl rfl hl.1 rfl (Nat.le_of_ble_eq_true rfl) dX3_about_39 ⟨Nat.zero_le _, Nat.zero_le _⟩ (fun v_39 u_39 H locs hq hP hD hS => ?_)
        obtain ⟨rfl, rfl⟩ := hq
        refine zx_bf_ne hx hb (tgt := 50) dX3_about_42 (by decide) (fun c_42 => ?_) (fun c_42 => ?_)
        · obtain ⟨p9, hz⟩ := zd_some c_42
          obtain ⟨rfl, hp9⟩ := zd_per_some (by omega) hz
          refine lv_iload_n hx hb dX3_about_50 rfl (lv_at hl 0 rfl) ?_
          refine zx_if_eq hx hb (tgt := 63) (by omega) dX3_about_51 (by decide) (fun c_51 => ?_) (fun c_51 => ?_)
          · refine lv_bipush (v := (-102)) hx hb dX3_about_63 (by decide) ?_
            exact hret _ _ _ _ _ _ hP hD hS dX3_about_65 ⟨by rw [hz]; exact (zs_abn hy9).symm, rfl⟩
          · exact absurd c_51 (by decide)
        · refine lv_bipush (v := (-101)) hx hb dX3_about_45 (by decide) ?_
          refine lv_goto (tgt := 65) hx hb dX3_about_47 (by decide) ?_
          exact hret _ _ _ _ _ _ hP hD hS dX3_about_65 ⟨by rw [zd_none c_42]; rfl, rfl⟩
      · obtain ⟨q, rfl, hq1, hq2, hy⟩ := zd_yes (by decide) (by decide) c_28
        have hy9 := zd_abq (Or.inr (Or.inr hy))
        refine lv_iconst (v := nI 1) hx hb dX3_about_31 (by decide) ?_
        refine lv_goto (tgt := 36) hx hb dX3_about_32 (by decide) ?_
        refine lv_istore_n (lv' := [(3, .int (nI 1)), (0, .ref (r 0)), (1, .int x), (2, .int (nI q))]) hx hb dX3_about_36 rfl hl (by decide) rfl (fun ls hl => ?_)
        refine lv_aload_n hx hb dX3_about_37 rfl (lv_at hl 1 rfl) ?_
        refine lv_iload_n hx hb dX3_about_38 rfl (lv_at hl 2 rfl) ?_
        refine zx_V_i (As := [.int x]) (rest := []) cf (c_X3_isPerson l D cI cB r s a z h x hI ) (cwV 1 hts gX3_about_X3_isPerson rfl rfl rfl ⟨rfl, hd_X3_isPerson⟩ ⟨Nat.le_of_ble_eq_true rfl, Nat.le_of_ble_eq_true rfl⟩) hK hN hP hD hS hA 0 rfl rfl rfl hl.1 rfl (Nat.le_of_ble_eq_true rfl) dX3_about_39 ⟨Nat.zero_le _, Nat.zero_le _⟩ (fun v_39 u_39 H locs hq hP hD hS => ?_)
        obtain ⟨rfl, rfl⟩ := hq
        refine zx_bf_ne hx hb (tgt := 50) dX3_about_42 (by decide) (fun c_42 => ?_) (fun c_42 => ?_)
        · obtain ⟨p9, hz⟩ := zd_some c_42
          obtain ⟨rfl, hp9⟩ := zd_per_some (by omega) hz
          refine lv_iload_n hx hb dX3_about_50 rfl (lv_at hl 0 rfl) ?_
          refine zx_if_eq hx hb (tgt := 63) (by omega) dX3_about_51 (by decide) (fun c_51 => ?_) (fun c_51 => ?_)
          · exact absurd c_51 (by decide)
          · refine lv_aload_n hx hb dX3_about_54 rfl (lv_at hl 1 rfl) ?_
            refine lv_iload_n hx hb dX3_about_55 rfl (lv_at hl 2 rfl) ?_
            refine lv_iload_n hx hb dX3_about_56 rfl (lv_at hl 3 rfl) ?_
            refine zx_V_i (As := [.int (nI p9), .int (nI q)]) (rest := []) cf (c_X3_personNow l D cI cB r s a z h p9 q hI (by omega) (by omega)) (cwV 2 hts gX3_about_X3_personNow rfl rfl rfl ⟨rfl, hd_X3_personNow⟩ ⟨Nat.le_of_ble_eq_true rfl, Nat.le_of_ble_eq_true rfl⟩) hK hN hP hD hS hA 0 rfl rfl rfl hl.1 rfl (Nat.le_of_ble_eq_true rfl) dX3_about_57 ⟨Nat.zero_le _, Nat.zero_le _⟩ (fun v_57 u_57 H locs hq hP hD hS => ?_)
            obtain ⟨rfl, rfl⟩ := hq
            refine lv_goto (tgt := 65) hx hb dX3_about_60 (by decide) ?_
            exact hret _ _ _ _ _ _ hP hD hS dX3_about_65 ⟨by rw [hz]; exact (zs_abi hy9).symm, rfl⟩
        · refine lv_bipush (v := (-101)) hx hb dX3_about_45 (by decide) ?_
          refine lv_goto (tgt := 65) hx hb dX3_about_47 (by decide) ?_
          exact hret _ _ _ _ _ _ hP hD hS dX3_about_65 ⟨by rw [zd_none c_42]; rfl, rfl⟩
set_option maxHeartbeats 4000000 in
set_option maxRecDepth 100000 in
theorem c_X3_as (l : Launch) (D : va_G) (cI cB : ClassId) (r : Nat → Nat) (s : Nat → Nat) (a : Nat → Nat → Nat) (z : Nat → Int) (h : Int64) (x y : Int32) (hI : zm_I s a z) : zx_C zx_ei l D (zm_t cI cB) (zm_w cI cB r) yX3_as wsX3_as rmX3_as [.ref (r 0), .int x, .int y] (s, a, z, h) (fun v u' => v = zs_as (zd_per (s 5) x) y (a 6) ∧ u' = (s, a, z, h)) := by
  refine zx_of_i (cc := cX3_as) (maxL := 4) (by decide) rfl (Nat.le_of_ble_eq_true rfl) ?_
  intro p e st m args below meth c A Q H cf hK hN hP hD hS hA hret ls hl
  obtain ⟨hx, hb, hml, hown, hts⟩ := id cf
  have hi3 : ∀ w ∈ wsX30, w ∈ wsX3_as := fun w h => List.mem_cons_of_mem _ (List.mem_append_right _ h)
  have k16 := hts (.fieldLink RX3 16 "NineDrawersModel" "kindOf" "[I") (List.mem_of_getElem? (i := 1) (by decide +kernel))
  have hl : lv_has ls 4 [(0, .ref (r 0)), (1, .int x), (2, .int y)] := hl
  have hP : va_P D vwCl ((zm_w cI cB r) (s, a, z, h)) H := hP
  have hD : va_D A ((zm_w cI cB r) (s, a, z, h)) := hD
  obtain ⟨⟨i0, i1, i3, i5, i9, i13, i14⟩, ⟨i17, i18, i19, i20, i21⟩, iP, iF, iL, iG, iZ, jL, jP, jF⟩ := id hI
  refine lv_aload_n hx hb dX3_as_0 rfl (lv_at hl 0 rfl) ?_
  refine lv_iload_n hx hb dX3_as_1 rfl (lv_at hl 1 rfl) ?_
  refine zx_V_i (As := [.int x]) (rest := []) cf (c_X3_isPerson l D cI cB r s a z h x hI ) (cwV 1 hts gX3_as_X3_isPerson rfl rfl rfl ⟨rfl, hd_X3_isPerson⟩ ⟨Nat.le_of_ble_eq_true rfl, Nat.le_of_ble_eq_true rfl⟩) hK hN hP hD hS hA 0 rfl rfl rfl hl.1 rfl (Nat.le_of_ble_eq_true rfl) dX3_as_2 ⟨Nat.zero_le _, Nat.zero_le _⟩ (fun v_2 u_2 H locs hq hP hD hS => ?_)
  obtain ⟨rfl, rfl⟩ := hq
  refine zx_bf_ne hx hb (tgt := 11) dX3_as_5 (by decide) (fun c_5 => ?_) (fun c_5 => ?_)
  · obtain ⟨p9, hz⟩ := zd_some c_5
    obtain ⟨rfl, hp9⟩ := zd_per_some (by omega) hz
    refine lv_iload_n hx hb dX3_as_11 rfl (lv_at hl 2 rfl) ?_
    refine lv_iconst (v := nI 0) hx hb dX3_as_12 (by decide) ?_
    refine lv_iconst (v := nI 4) hx hb dX3_as_13 (by decide) ?_
    refine zx_S (As := [.int y, .int (nI 0), .int (nI 4)]) (rest := []) cf (c_X3_within l D y (nI 0) (nI 4) ) (va_cwS 3 hts gX3_as_X3_within rfl rfl rfl hd_X3_within ⟨Nat.le_of_ble_eq_true rfl, Nat.le_of_ble_eq_true rfl⟩) hK hN hP hS hA rfl hl.1 rfl (Nat.le_of_ble_eq_true rfl) dX3_as_14 ⟨Nat.zero_le _, Nat.zero_le _⟩ (fun H locs hP hS => ?_)
    refine zx_bf_ne hx hb (tgt := 23) dX3_as_17 (by decide) (fun c_17 => ?_) (fun c_17 => ?_)
    · obtain ⟨q, rfl, hq1, hq2, hy⟩ := zd_yes (by decide) (by decide) c_17
      refine lv_aload_n hx hb dX3_as_23 rfl (lv_at hl 0 rfl) ?_
      refine va_get (D := D) (ci := 3) (v := .ref (r 6)) (C := RX3) (T := TX3) (N := 29) hx hb hts hi3 hown hK hP 0 rfl rfl 6 (by decide) k16 (fun _ h9 => h9) rfl dX3_as_24 ?_
      refine lv_iload_n hx hb dX3_as_27 rfl (lv_at hl 1 rfl) ?_
      refine zx_ald (f := a 6) (n := 6) hx hb hK hP 3 0 rfl rfl (by omega) (by decide) dX3_as_28 ?_
      refine lv_istore_n (lv' := [(3, .int (nI ((a 6) p9))), (0, .ref (r 0)), (1, .int (nI p9)), (2, .int (nI q))]) hx hb dX3_as_29 rfl hl (by decide) rfl (fun ls hl => ?_)
      refine lv_iload_n hx hb dX3_as_30 rfl (lv_at hl 3 rfl) ?_
      refine zx_if_eq hx hb (tgt := 49) (by omega) dX3_as_31 (by decide) (fun c_31 => ?_) (fun c_31 => ?_)
      · refine lv_iload_n hx hb dX3_as_49 rfl (lv_at hl 2 rfl) ?_
        refine lv_goto (tgt := 54) hx hb dX3_as_50 (by decide) ?_
        exact hret _ _ _ _ _ _ hP hD hS dX3_as_54 ⟨by rw [hz]; exact (zs_asT hy (Or.inl c_31)).symm, rfl⟩
      · refine lv_iload_n hx hb dX3_as_34 rfl (lv_at hl 0 rfl) ?_
        refine lv_iload_n hx hb dX3_as_35 rfl (lv_at hl 3 rfl) ?_
        refine zx_icmp_eq hx hb (tgt := 49) (by have := (iP p9 (by omega)).1; omega) (by omega) dX3_as_36 (by decide) (fun c_36 => ?_) (fun c_36 => ?_)
        · refine lv_iload_n hx hb dX3_as_49 rfl (lv_at hl 2 rfl) ?_
          refine lv_goto (tgt := 54) hx hb dX3_as_50 (by decide) ?_
          exact hret _ _ _ _ _ _ hP hD hS dX3_as_54 ⟨by rw [hz]; exact (zs_asT hy (Or.inr (Or.inl c_36))).symm, rfl⟩
        · refine lv_iload_n hx hb dX3_as_39 rfl (lv_at hl 3 rfl) ?_
          refine lv_iconst (v := nI 2) hx hb dX3_as_40 (by decide) ?_
          refine zx_icmp_ne hx hb (tgt := 53) (by omega) (by omega) dX3_as_41 (by decide) (fun c_41 => ?_) (fun c_41 => ?_)
          · refine lv_iconst (v := (-1)) hx hb dX3_as_53 (by decide) ?_
            exact hret _ _ _ _ _ _ hP hD hS dX3_as_54 ⟨by rw [hz]; exact (zs_asF hy c_31 c_36 (Or.inl c_41)).symm, rfl⟩
          · refine lv_iload_n hx hb dX3_as_44 rfl (lv_at hl 0 rfl) ?_
            refine lv_iconst (v := nI 4) hx hb dX3_as_45 (by decide) ?_
            refine zx_icmp_ne hx hb (tgt := 53) (by have := (iP p9 (by omega)).1; omega) (by omega) dX3_as_46 (by decide) (fun c_46 => ?_) (fun c_46 => ?_)
            · refine lv_iconst (v := (-1)) hx hb dX3_as_53 (by decide) ?_
              exact hret _ _ _ _ _ _ hP hD hS dX3_as_54 ⟨by rw [hz]; exact (zs_asF hy c_31 c_36 (Or.inr c_46)).symm, rfl⟩
            · refine lv_iload_n hx hb dX3_as_49 rfl (lv_at hl 2 rfl) ?_
              refine lv_goto (tgt := 54) hx hb dX3_as_50 (by decide) ?_
              exact hret _ _ _ _ _ _ hP hD hS dX3_as_54 ⟨by rw [hz]; exact (zs_asT hy (Or.inr (Or.inr ⟨c_41, c_46⟩))).symm, rfl⟩
    · refine lv_bipush (v := (-102)) hx hb dX3_as_20 (by decide) ?_
      exact hret _ _ _ _ _ _ hP hD hS dX3_as_22 ⟨by rw [hz]; exact (zs_aso (zd_nos c_17)).symm, rfl⟩
  · refine lv_bipush (v := (-101)) hx hb dX3_as_8 (by decide) ?_
    exact hret _ _ _ _ _ _ hP hD hS dX3_as_10 ⟨by rw [zd_none c_5]; rfl, rfl⟩
set_option maxHeartbeats 4000000 in
set_option maxRecDepth 100000 in
theorem c_X3_move (l : Launch) (D : va_G) (cI cB : ClassId) (r : Nat → Nat) (s : Nat → Nat) (a : Nat → Nat → Nat) (z : Nat → Int) (h : Int64) (x y : Int32) (hI : zm_I s a z) : zx_C zx_ei l D (zm_t cI cB) (zm_w cI cB r) yX3_move wsX3_move rmX3_move [.ref (r 0), .int x, .int y] (s, a, z, h) (fun v u' => zd_out (zd_move (zd_per (s 5) x) (zd_drw (s 0) y)) (fun e9 => v = e9 ∧ u' = (s, a, z, h)) (fun k => v = nI (a 7 k.1) ∧ u' = (s, zx_up a 7 (zx_up (a 7) k.1 k.2), z, h))) := by
  refine zx_of_i (cc := cX3_move) (maxL := 4) (by decide) rfl (Nat.le_of_ble_eq_true rfl) ?_
  intro p e st m args below meth c A Q H cf hK hN hP hD hS hA hret ls hl
  obtain ⟨hx, hb, hml, hown, hts⟩ := id cf
  have hi3 : ∀ w ∈ wsX30, w ∈ wsX3_move := fun w h => List.mem_cons_of_mem _ (List.mem_append_right _ h)
  have k19 := hts (.fieldLink RX3 19 "NineDrawersModel" "drawerOf" "[I") (List.mem_of_getElem? (i := 1) (by decide +kernel))
  have hl : lv_has ls 4 [(0, .ref (r 0)), (1, .int x), (2, .int y)] := hl
  have hP : va_P D vwCl ((zm_w cI cB r) (s, a, z, h)) H := hP
  have hD : va_D A ((zm_w cI cB r) (s, a, z, h)) := hD
  obtain ⟨⟨i0, i1, i3, i5, i9, i13, i14⟩, ⟨i17, i18, i19, i20, i21⟩, iP, iF, iL, iG, iZ, jL, jP, jF⟩ := id hI
  refine lv_aload_n hx hb dX3_move_0 rfl (lv_at hl 0 rfl) ?_
  refine lv_iload_n hx hb dX3_move_1 rfl (lv_at hl 1 rfl) ?_
  refine zx_V_i (As := [.int x]) (rest := []) cf (c_X3_isPerson l D cI cB r s a z h x hI ) (cwV 1 hts gX3_move_X3_isPerson rfl rfl rfl ⟨rfl, hd_X3_isPerson⟩ ⟨Nat.le_of_ble_eq_true rfl, Nat.le_of_ble_eq_true rfl⟩) hK hN hP hD hS hA 0 rfl rfl rfl hl.1 rfl (Nat.le_of_ble_eq_true rfl) dX3_move_2 ⟨Nat.zero_le _, Nat.zero_le _⟩ (fun v_2 u_2 H locs hq hP hD hS => ?_)
  obtain ⟨rfl, rfl⟩ := hq
  refine zx_bf_eq hx hb (tgt := 16) dX3_move_5 (by decide) (fun c_5 => ?_) (fun c_5 => ?_)
  · refine lv_bipush (v := (-101)) hx hb dX3_move_16 (by decide) ?_
    exact hret _ _ _ _ _ _ hP hD hS dX3_move_18 (zd_inl (by rw [zd_none c_5]; rfl) ⟨rfl, rfl⟩)
  · obtain ⟨p9, hz⟩ := zd_some c_5
    obtain ⟨rfl, hp9⟩ := zd_per_some (by omega) hz
    refine lv_aload_n hx hb dX3_move_8 rfl (lv_at hl 0 rfl) ?_
    refine lv_iload_n hx hb dX3_move_9 rfl (lv_at hl 2 rfl) ?_
    refine zx_V_i (As := [.int y]) (rest := []) cf (c_X3_isDrawer l D cI cB r s a z h y hI ) (cwV 1 hts gX3_move_X3_isDrawer rfl rfl rfl ⟨rfl, hd_X3_isDrawer⟩ ⟨Nat.le_of_ble_eq_true rfl, Nat.le_of_ble_eq_true rfl⟩) hK hN hP hD hS hA 0 rfl rfl rfl hl.1 rfl (Nat.le_of_ble_eq_true rfl) dX3_move_10 ⟨Nat.zero_le _, Nat.zero_le _⟩ (fun v_10 u_10 H locs hq hP hD hS => ?_)
    obtain ⟨rfl, rfl⟩ := hq
    refine zx_bf_ne hx hb (tgt := 19) dX3_move_13 (by decide) (fun c_13 => ?_) (fun c_13 => ?_)
    · obtain ⟨d, hy⟩ := zd_some c_13
      obtain ⟨rfl, hd, hc9⟩ := zd_drw_some hy
      refine lv_aload_n hx hb dX3_move_19 rfl (lv_at hl 0 rfl) ?_
      refine va_get (D := D) (ci := 3) (v := .ref (r 7)) (C := RX3) (T := TX3) (N := 29) hx hb hts hi3 hown hK hP 0 rfl rfl 7 (by decide) k19 (fun _ h9 => h9) rfl dX3_move_20 ?_
      refine lv_iload_n hx hb dX3_move_23 rfl (lv_at hl 1 rfl) ?_
      refine zx_ald (f := a 7) (n := 6) hx hb hK hP 4 0 rfl rfl (by omega) (by decide) dX3_move_24 ?_
      refine lv_istore_n (lv' := [(3, .int (nI ((a 7) p9))), (0, .ref (r 0)), (1, .int (nI p9)), (2, .int (nI d))]) hx hb dX3_move_25 rfl hl (by decide) rfl (fun ls hl => ?_)
      refine lv_aload_n hx hb dX3_move_26 rfl (lv_at hl 1 rfl) ?_
      refine va_get (D := D) (ci := 3) (v := .ref (r 7)) (C := RX3) (T := TX3) (N := 29) hx hb hts hi3 hown hK hP 0 rfl rfl 7 (by decide) k19 (fun _ h9 => h9) rfl dX3_move_27 ?_
      refine lv_iload_n hx hb dX3_move_30 rfl (lv_at hl 2 rfl) ?_
      refine lv_iload_n hx hb dX3_move_31 rfl (lv_at hl 3 rfl) ?_
      refine zx_ast (f := a 7) (n := 6) (ws' := (zm_w cI cB r) (s, (zx_up a 7 (zx_up (a 7) p9 d)), z, h)) hx hb hK hP hD hS 4 0 rfl rfl (by omega) (by decide) rfl dX3_move_32 (fun H locs hP hD hS => ?_)
      refine lv_iload_n hx hb dX3_move_33 rfl (lv_at hl 0 rfl) ?_
      exact hret _ _ _ _ _ _ hP hD hS dX3_move_34 (zd_inr (by rw [hz, hy]; rfl) ⟨rfl, rfl⟩)
    · refine lv_bipush (v := (-101)) hx hb dX3_move_16 (by decide) ?_
      exact hret _ _ _ _ _ _ hP hD hS dX3_move_18 (zd_inl (by rw [hz, zd_none c_13]; rfl) ⟨rfl, rfl⟩)
set_option maxHeartbeats 4000000 in
set_option maxRecDepth 100000 in
theorem c_X3_lay (l : Launch) (D : va_G) (cI cB : ClassId) (r : Nat → Nat) (s : Nat → Nat) (a : Nat → Nat → Nat) (z : Nat → Int) (h : Int64) (x y : Int32) (b : Bool) (hI : zm_I s a z) : zx_C zx_ei l D (zm_t cI cB) (zm_w cI cB r) yX3_lay wsX3_lay rmX3_lay [.ref (r 0), .int x, .int y, .int (zx_b b)] (s, a, z, h) (fun v u' => zd_out (zd_move (zd_drw (s 0) x) (zd_rng 0 6 y)) (fun e9 => v = e9 ∧ u' = (s, a, z, h)) (fun k => v = nI (zx_n ((a 4 k.1).testBit k.2)) ∧ u' = (s, zx_up a 4 (zx_up (a 4) k.1 (zp_lay (a 4 k.1) k.2 b)), z, h))) := by
  refine zx_of_i (cc := cX3_lay) (maxL := 5) (by decide) rfl (Nat.le_of_ble_eq_true rfl) ?_
  intro p e st m args below meth c A Q H cf hK hN hP hD hS hA hret ls hl
  obtain ⟨hx, hb, hml, hown, hts⟩ := id cf
  have hi3 : ∀ w ∈ wsX30, w ∈ wsX3_lay := fun w h => List.mem_cons_of_mem _ (List.mem_append_right _ h)
  have k13 := hts (.fieldLink RX3 13 "NineDrawersModel" "laidIn" "[I") (List.mem_of_getElem? (i := 1) (by decide +kernel))
  have hl : lv_has ls 5 [(0, .ref (r 0)), (1, .int x), (2, .int y), (3, .int (zx_b b))] := hl
  have hP : va_P D vwCl ((zm_w cI cB r) (s, a, z, h)) H := hP
  have hD : va_D A ((zm_w cI cB r) (s, a, z, h)) := hD
  obtain ⟨⟨i0, i1, i3, i5, i9, i13, i14⟩, ⟨i17, i18, i19, i20, i21⟩, iP, iF, iL, iG, iZ, jL, jP, jF⟩ := id hI
  refine lv_aload_n hx hb dX3_lay_0 rfl (lv_at hl 0 rfl) ?_
  refine lv_iload_n hx hb dX3_lay_1 rfl (lv_at hl 1 rfl) ?_
  refine zx_V_i (As := [.int x]) (rest := []) cf (c_X3_isDrawer l D cI cB r s a z h x hI ) (cwV 1 hts gX3_lay_X3_isDrawer rfl rfl rfl ⟨rfl, hd_X3_isDrawer⟩ ⟨Nat.le_of_ble_eq_true rfl, Nat.le_of_ble_eq_true rfl⟩) hK hN hP hD hS hA 0 rfl rfl rfl hl.1 rfl (Nat.le_of_ble_eq_true rfl) dX3_lay_2 ⟨Nat.zero_le _, Nat.zero_le _⟩ (fun v_2 u_2 H locs hq hP hD hS => ?_)
  obtain ⟨rfl, rfl⟩ := hq
  refine zx_bf_eq hx hb (tgt := 15) dX3_lay_5 (by decide) (fun c_5 => ?_) (fun c_5 => ?_)
  · refine lv_bipush (v := (-101)) hx hb dX3_lay_15 (by decide) ?_
    exact hret _ _ _ _ _ _ hP hD hS dX3_lay_17 (zd_inl (by rw [zd_none c_5]; rfl) ⟨rfl, rfl⟩)
  · obtain ⟨d, hz⟩ := zd_some c_5
    obtain ⟨rfl, hd, hc9⟩ := zd_drw_some hz
    refine lv_iload_n hx hb dX3_lay_8 rfl (lv_at hl 2 rfl) ?_
    refine zx_S (As := [.int y]) (rest := []) cf (c_X3_isDay l D y ) (va_cwS 1 hts gX3_lay_X3_isDay rfl rfl rfl hd_X3_isDay ⟨Nat.le_of_ble_eq_true rfl, Nat.le_of_ble_eq_true rfl⟩) hK hN hP hS hA rfl hl.1 rfl (Nat.le_of_ble_eq_true rfl) dX3_lay_9 ⟨Nat.zero_le _, Nat.zero_le _⟩ (fun H locs hP hS => ?_)
    refine zx_bf_ne hx hb (tgt := 18) dX3_lay_12 (by decide) (fun c_12 => ?_) (fun c_12 => ?_)
    · obtain ⟨o, rfl, ho1, ho2, hy⟩ := zd_yes (by decide) (by decide) c_12
      have hL := iL d (by omega)
      refine lv_aload_n hx hb dX3_lay_18 rfl (lv_at hl 0 rfl) ?_
      refine va_get (D := D) (ci := 3) (v := .ref (r 4)) (C := RX3) (T := TX3) (N := 29) hx hb hts hi3 hown hK hP 0 rfl rfl 4 (by decide) k13 (fun _ h9 => h9) rfl dX3_lay_19 ?_
      refine lv_iload_n hx hb dX3_lay_22 rfl (lv_at hl 1 rfl) ?_
      refine zx_ald (f := a 4) (n := 9) hx hb hK hP 2 0 rfl rfl (by omega) (by decide) dX3_lay_23 ?_
      refine lv_iload_n hx hb dX3_lay_24 rfl (lv_at hl 2 rfl) ?_
      refine zx_ishr hx hb (by omega) (by omega) dX3_lay_25 ?_
      refine lv_iconst (v := nI 1) hx hb dX3_lay_26 (by decide) ?_
      refine zx_iand hx hb dX3_lay_27 ?_
      refine zx_topi (y := nI (zx_n ((a 4 d).testBit o))) (congrArg nI (zx_tbn _ _)) ?_
      refine lv_istore (lv' := [(4, .int (nI (zx_n ((a 4 d).testBit o)))), (0, .ref (r 0)), (1, .int (nI d)), (2, .int (nI o)), (3, .int (zx_b b))]) hx hb dX3_lay_28 hl (by decide) rfl (fun ls hl => ?_)
      refine lv_aload_n hx hb dX3_lay_30 rfl (lv_at hl 1 rfl) ?_
      refine va_get (D := D) (ci := 3) (v := .ref (r 4)) (C := RX3) (T := TX3) (N := 29) hx hb hts hi3 hown hK hP 0 rfl rfl 4 (by decide) k13 (fun _ h9 => h9) rfl dX3_lay_31 ?_
      refine lv_iload_n hx hb dX3_lay_34 rfl (lv_at hl 2 rfl) ?_
      refine lv_iload_n hx hb dX3_lay_35 rfl (lv_at hl 4 rfl) ?_
      refine zx_bf_eq hx hb (tgt := 52) dX3_lay_36 (by decide) (fun c_36 => ?_) (fun c_36 => ?_)
      · subst c_36
        refine lv_aload_n hx hb dX3_lay_52 rfl (lv_at hl 1 rfl) ?_
        refine va_get (D := D) (ci := 3) (v := .ref (r 4)) (C := RX3) (T := TX3) (N := 29) hx hb hts hi3 hown hK hP 0 rfl rfl 4 (by decide) k13 (fun _ h9 => h9) rfl dX3_lay_53 ?_
        refine lv_iload_n hx hb dX3_lay_56 rfl (lv_at hl 2 rfl) ?_
        refine zx_ald (f := a 4) (n := 9) hx hb hK hP 2 0 rfl rfl (by omega) (by decide) dX3_lay_57 ?_
        refine lv_iconst (v := nI 1) hx hb dX3_lay_58 (by decide) ?_
        refine lv_iload_n hx hb dX3_lay_59 rfl (lv_at hl 3 rfl) ?_
        refine zx_ishl1 hx hb (by omega) dX3_lay_60 ?_
        refine lv_iconst (v := (-1)) hx hb dX3_lay_61 (by decide) ?_
        refine lv_ixor hx hb dX3_lay_62 ?_
        refine lv_iand hx hb dX3_lay_63 ?_
        refine zx_topi (y := nI (zp_lay (a 4 d) o false)) (zp_layF hL (by omega)) ?_
        refine zx_ast (f := a 4) (n := 9) (ws' := (zm_w cI cB r) (s, (zx_up a 4 (zx_up (a 4) d (zp_lay (a 4 d) o false))), z, h)) hx hb hK hP hD hS 2 0 rfl rfl (by omega) (by decide) rfl dX3_lay_64 (fun H locs hP hD hS => ?_)
        refine lv_iload hx hb dX3_lay_65 (lv_at hl 0 rfl) ?_
        exact hret _ _ _ _ _ _ hP hD hS dX3_lay_67 (zd_inr (by rw [hz, hy]; rfl) ⟨rfl, rfl⟩)
      · subst c_36
        refine lv_aload_n hx hb dX3_lay_39 rfl (lv_at hl 1 rfl) ?_
        refine va_get (D := D) (ci := 3) (v := .ref (r 4)) (C := RX3) (T := TX3) (N := 29) hx hb hts hi3 hown hK hP 0 rfl rfl 4 (by decide) k13 (fun _ h9 => h9) rfl dX3_lay_40 ?_
        refine lv_iload_n hx hb dX3_lay_43 rfl (lv_at hl 2 rfl) ?_
        refine zx_ald (f := a 4) (n := 9) hx hb hK hP 2 0 rfl rfl (by omega) (by decide) dX3_lay_44 ?_
        refine lv_iconst (v := nI 1) hx hb dX3_lay_45 (by decide) ?_
        refine lv_iload_n hx hb dX3_lay_46 rfl (lv_at hl 3 rfl) ?_
        refine zx_ishl1 hx hb (by omega) dX3_lay_47 ?_
        refine zx_ior hx hb dX3_lay_48 ?_
        refine zx_topi (y := nI (zp_lay (a 4 d) o true)) (rfl) ?_
        refine lv_goto (tgt := 64) hx hb dX3_lay_49 (by decide) ?_
        refine zx_ast (f := a 4) (n := 9) (ws' := (zm_w cI cB r) (s, (zx_up a 4 (zx_up (a 4) d (zp_lay (a 4 d) o true))), z, h)) hx hb hK hP hD hS 2 0 rfl rfl (by omega) (by decide) rfl dX3_lay_64 (fun H locs hP hD hS => ?_)
        refine lv_iload hx hb dX3_lay_65 (lv_at hl 0 rfl) ?_
        exact hret _ _ _ _ _ _ hP hD hS dX3_lay_67 (zd_inr (by rw [hz, hy]; rfl) ⟨rfl, rfl⟩)
    · refine lv_bipush (v := (-101)) hx hb dX3_lay_15 (by decide) ?_
      exact hret _ _ _ _ _ _ hP hD hS dX3_lay_17 (zd_inl (by rw [hz, zd_nos c_12]; rfl) ⟨rfl, rfl⟩)
set_option maxHeartbeats 4000000 in
set_option maxRecDepth 100000 in
theorem c_X3_agrees (l : Launch) (D : va_G) (cI cB : ClassId) (r : Nat → Nat) (s : Nat → Nat) (a : Nat → Nat → Nat) (z : Nat → Int) (h : Int64) (x y : Int32) (hI : zm_I s a z) : zx_C zx_ei l D (zm_t cI cB) (zm_w cI cB r) yX3_agrees wsX3_agrees rmX3_agrees [.ref (r 0), .int x, .int y] (s, a, z, h) (fun v u' => v = zs_dq 127 (zd_drw (s 0) x) y (fun d w => zx_b (zp_ag (zm_F s a z d) w)) ∧ u' = (s, a, z, h)) := by
  refine zx_of_i (cc := cX3_agrees) (maxL := 3) (by decide) rfl (Nat.le_of_ble_eq_true rfl) ?_
  intro p e st m args below meth c A Q H cf hK hN hP hD hS hA hret ls hl
  obtain ⟨hx, hb, hml, hown, hts⟩ := id cf
  have hl : lv_has ls 3 [(0, .ref (r 0)), (1, .int x), (2, .int y)] := hl
  have hP : va_P D vwCl ((zm_w cI cB r) (s, a, z, h)) H := hP
  have hD : va_D A ((zm_w cI cB r) (s, a, z, h)) := hD
  refine lv_aload_n hx hb dX3_agrees_0 rfl (lv_at hl 0 rfl) ?_
  refine lv_iload_n hx hb dX3_agrees_1 rfl (lv_at hl 1 rfl) ?_
  refine zx_V_i (As := [.int x]) (rest := []) cf (c_X3_isDrawer l D cI cB r s a z h x hI ) (cwV 1 hts gX3_agrees_X3_isDrawer rfl rfl rfl ⟨rfl, hd_X3_isDrawer⟩ ⟨Nat.le_of_ble_eq_true rfl, Nat.le_of_ble_eq_true rfl⟩) hK hN hP hD hS hA 0 rfl rfl rfl hl.1 rfl (Nat.le_of_ble_eq_true rfl) dX3_agrees_2 ⟨Nat.zero_le _, Nat.zero_le _⟩ (fun v_2 u_2 H locs hq hP hD hS => ?_)
  obtain ⟨rfl, rfl⟩ := hq
  refine zx_bf_ne hx hb (tgt := 11) dX3_agrees_5 (by decide) (fun c_5 => ?_) (fun c_5 => ?_)
  · obtain ⟨d, hz⟩ := zd_some c_5
    obtain ⟨rfl, hd, hc9⟩ := zd_drw_some hz
    refine lv_iload_n hx hb dX3_agrees_11 rfl (lv_at hl 2 rfl) ?_
    refine lv_iconst (v := nI 0) hx hb dX3_agrees_12 (by decide) ?_
    refine lv_bipush (v := nI 127) hx hb dX3_agrees_13 (by decide) ?_
    refine zx_S (As := [.int y, .int (nI 0), .int (nI 127)]) (rest := []) cf (c_X3_within l D y (nI 0) (nI 127) ) (va_cwS 3 hts gX3_agrees_X3_within rfl rfl rfl hd_X3_within ⟨Nat.le_of_ble_eq_true rfl, Nat.le_of_ble_eq_true rfl⟩) hK hN hP hS hA rfl hl.1 rfl (Nat.le_of_ble_eq_true rfl) dX3_agrees_15 ⟨Nat.zero_le _, Nat.zero_le _⟩ (fun H locs hP hS => ?_)
    refine zx_bf_ne hx hb (tgt := 24) dX3_agrees_18 (by decide) (fun c_18 => ?_) (fun c_18 => ?_)
    · obtain ⟨w, rfl, hq1, hq2, hy⟩ := zd_yes (by decide) (by decide) c_18
      refine lv_aload_n hx hb dX3_agrees_24 rfl (lv_at hl 0 rfl) ?_
      refine lv_iload_n hx hb dX3_agrees_25 rfl (lv_at hl 1 rfl) ?_
      refine lv_iload_n hx hb dX3_agrees_26 rfl (lv_at hl 2 rfl) ?_
      refine zx_V_i (As := [.int (nI d), .int (nI w)]) (rest := []) cf (c_X3_isSo l D cI cB r s a z h d w hI (by omega) (by omega)) (cwV 2 hts gX3_agrees_X3_isSo rfl rfl rfl ⟨rfl, hd_X3_isSo⟩ ⟨Nat.le_of_ble_eq_true rfl, Nat.le_of_ble_eq_true rfl⟩) hK hN hP hD hS hA 0 rfl rfl rfl hl.1 rfl (Nat.le_of_ble_eq_true rfl) dX3_agrees_27 ⟨Nat.zero_le _, Nat.zero_le _⟩ (fun v_27 u_27 H locs hq hP hD hS => ?_)
      obtain ⟨rfl, rfl⟩ := hq
      refine zx_bf_eq hx hb (tgt := 37) dX3_agrees_30 (by decide) (fun c_30 => ?_) (fun c_30 => ?_)
      · refine lv_iconst (v := nI 0) hx hb dX3_agrees_37 (by decide) ?_
        exact hret _ _ _ _ _ _ hP hD hS dX3_agrees_38 ⟨by rw [hz, zs_dqi hy]; exact zx_b_f c_30, rfl⟩
      · refine lv_iconst (v := nI 1) hx hb dX3_agrees_33 (by decide) ?_
        refine lv_goto (tgt := 38) hx hb dX3_agrees_34 (by decide) ?_
        exact hret _ _ _ _ _ _ hP hD hS dX3_agrees_38 ⟨by rw [hz, zs_dqi hy]; exact zx_b_t c_30, rfl⟩
    · refine lv_bipush (v := (-102)) hx hb dX3_agrees_21 (by decide) ?_
      exact hret _ _ _ _ _ _ hP hD hS dX3_agrees_23 ⟨by rw [hz]; exact (zs_dqo (zd_nos c_18)).symm, rfl⟩
  · refine lv_bipush (v := (-101)) hx hb dX3_agrees_8 (by decide) ?_
    exact hret _ _ _ _ _ _ hP hD hS dX3_agrees_10 ⟨by rw [zd_none c_5]; rfl, rfl⟩
set_option maxHeartbeats 4000000 in
set_option maxRecDepth 100000 in
theorem c_X3_sureNow (l : Launch) (D : va_G) (cI cB : ClassId) (r : Nat → Nat) (s : Nat → Nat) (a : Nat → Nat → Nat) (z : Nat → Int) (h : Int64) (d o : Nat) (hI : zm_I s a z) (hd : d < 9) (ho : o < 7) : zx_C zx_ei l D (zm_t cI cB) (zm_w cI cB r) yX3_sureNow wsX3_sureNow rmX3_sureNow [.ref (r 0), .int (nI d), .int (nI o)] (s, a, z, h) (fun v u' => v = zp_sur (zm_F s a z d) o ∧ u' = (s, a, z, h)) := by
  refine zx_of_i (cc := cX3_sureNow) (maxL := 5) (by decide) rfl (Nat.le_of_ble_eq_true rfl) ?_
  intro p e st m args below meth c A Q H cf hK hN hP hD hS hA hret ls hl
  obtain ⟨hx, hb, hml, hown, hts⟩ := id cf
  have hl : lv_has ls 5 [(0, .ref (r 0)), (1, .int (nI d)), (2, .int (nI o))] := hl
  have hP : va_P D vwCl ((zm_w cI cB r) (s, a, z, h)) H := hP
  have hD : va_D A ((zm_w cI cB r) (s, a, z, h)) := hD
  refine lv_iconst (v := nI 0) hx hb dX3_sureNow_0 (by decide) ?_
  refine lv_istore_n (lv' := [(3, .int (nI 0)), (0, .ref (r 0)), (1, .int (nI d)), (2, .int (nI o))]) hx hb dX3_sureNow_1 rfl hl (by decide) rfl (fun ls hl => ?_)
  refine lv_iconst (v := nI 0) hx hb dX3_sureNow_2 (by decide) ?_
  refine lv_istore (lv' := [(4, .int (nI 0)), (3, .int (nI 0)), (0, .ref (r 0)), (1, .int (nI d)), (2, .int (nI o))]) hx hb dX3_sureNow_3 hl (by decide) rfl (fun ls hl => ?_)
  have lp_5 : ∀ (n_ : Nat) (i : Nat), 128 - i < n_ → (i ≤ 128) → ∀ x1 : Int32, x1 = nI d → ∀ x2 : Int32, x2 = nI o → ∀ x3 : Int32, x3 = nI (zp_cou (zm_F s a z d) o i) → ∀ x4 : Int32, x4 = nI i → ∀ (H : Heap) (locs : List Loc), va_P D vwCl ((zm_w cI cB r) (s, a, z, h)) H → va_D A ((zm_w cI cB r) (s, a, z, h)) → va_S A st.heap H locs → ∀ ls : Array Slot, lv_has ls 5 [(0, .ref (r 0)), (1, .int x1), (2, .int x2), (3, .int x3), (4, .int x4)] → W p l e rmX3_sureNow st m args below meth c H locs 0 0 Q (F0 m 5 ls []) := by
    intro n_
    induction n_ with
    | zero => intros; omega
    | succ n_ ih_5 =>
      intro i hmu_5 hi9
      intro x1 ex1; subst ex1
      intro x2 ex2; subst ex2
      intro x3 ex3; subst ex3
      intro x4 ex4; subst ex4
      intro H locs hP hD hS ls hl
      have hl : lv_has ls 5 [(0, .ref (r 0)), (1, .int (nI d)), (2, .int (nI o)), (3, .int (nI (zp_cou (zm_F s a z d) o i))), (4, .int (nI i))] := hl
      refine lv_iload hx hb dX3_sureNow_5 (lv_at hl 4 rfl) ?_
      refine lv_sipush (v := nI 128) hx hb dX3_sureNow_7 (by decide) ?_
      refine zx_icmp_ge hx hb (tgt := 44) (by omega) (by omega) dX3_sureNow_10 (by decide) (fun c_10 => ?_) (fun c_10 => ?_)
      · refine lv_iload_n hx hb dX3_sureNow_44 rfl (lv_at hl 3 rfl) ?_
        refine lv_iconst (v := nI 1) hx hb dX3_sureNow_45 (by decide) ?_
        refine zx_icmp_ne hx hb (tgt := 53) (zp_cou_lt _ _ _) (by decide) dX3_sureNow_46 (by decide) (fun c_46 => ?_) (fun c_46 => ?_)
        · refine lv_iload_n hx hb dX3_sureNow_53 rfl (lv_at hl 3 rfl) ?_
          refine lv_iconst (v := nI 2) hx hb dX3_sureNow_54 (by decide) ?_
          refine zx_icmp_ne hx hb (tgt := 62) (zp_cou_lt _ _ _) (by decide) dX3_sureNow_55 (by decide) (fun c_55 => ?_) (fun c_55 => ?_)
          · refine lv_iconst (v := (-1)) hx hb dX3_sureNow_62 (by decide) ?_
            exact hret _ _ _ _ _ _ hP hD hS dX3_sureNow_63 ⟨by rw [show i = 128 by omega] at c_46 c_55; exact ((if_neg c_46).trans (if_neg c_55)).symm, rfl⟩
          · refine lv_iconst (v := nI 1) hx hb dX3_sureNow_58 (by decide) ?_
            refine lv_goto (tgt := 63) hx hb dX3_sureNow_59 (by decide) ?_
            exact hret _ _ _ _ _ _ hP hD hS dX3_sureNow_63 ⟨by rw [show i = 128 by omega] at c_46 c_55; exact ((if_neg c_46).trans (if_pos c_55)).symm, rfl⟩
        · refine lv_iconst (v := nI 0) hx hb dX3_sureNow_49 (by decide) ?_
          refine lv_goto (tgt := 63) hx hb dX3_sureNow_50 (by decide) ?_
          exact hret _ _ _ _ _ _ hP hD hS dX3_sureNow_63 ⟨by rw [show i = 128 by omega] at c_46; exact (if_pos c_46).symm, rfl⟩
      · refine lv_iload_n hx hb dX3_sureNow_13 rfl (lv_at hl 3 rfl) ?_
        refine lv_aload_n hx hb dX3_sureNow_14 rfl (lv_at hl 0 rfl) ?_
        refine lv_iload_n hx hb dX3_sureNow_15 rfl (lv_at hl 1 rfl) ?_
        refine lv_iload hx hb dX3_sureNow_16 (lv_at hl 4 rfl) ?_
        refine zx_V_i (As := [.int (nI d), .int (nI i)]) (rest := [.int (nI (zp_cou (zm_F s a z d) o i))]) cf (c_X3_isSo l D cI cB r s a z h d i hI (by omega) (by omega)) (cwV 2 hts gX3_sureNow_X3_isSo rfl rfl rfl ⟨rfl, hd_X3_isSo⟩ ⟨Nat.le_of_ble_eq_true rfl, Nat.le_of_ble_eq_true rfl⟩) hK hN hP hD hS hA 0 rfl rfl rfl hl.1 rfl (Nat.le_of_ble_eq_true rfl) dX3_sureNow_18 ⟨Nat.zero_le _, Nat.zero_le _⟩ (fun v_18 u_18 H locs hq hP hD hS => ?_)
        obtain ⟨rfl, rfl⟩ := hq
        refine zx_bf_eq hx hb (tgt := 35) dX3_sureNow_21 (by decide) (fun c_21 => ?_) (fun c_21 => ?_)
        · refine lv_iconst (v := nI 0) hx hb dX3_sureNow_35 (by decide) ?_
          refine zx_ior hx hb dX3_sureNow_36 ?_
          refine lv_istore_n (lv' := [(3, .int (nI ((zp_cou (zm_F s a z d) o i) ||| 0))), (0, .ref (r 0)), (1, .int (nI d)), (2, .int (nI o)), (4, .int (nI i))]) hx hb dX3_sureNow_37 rfl hl (by decide) rfl (fun ls hl => ?_)
          refine lv_iinc (v := nI (i + 1)) (lv' := [(4, .int (nI (i + 1))), (3, .int (nI ((zp_cou (zm_F s a z d) o i) ||| 0))), (0, .ref (r 0)), (1, .int (nI d)), (2, .int (nI o))]) hx hb dX3_sureNow_38 hl (k := 4) rfl (zx_inc _ _) (by decide) rfl (fun ls hl => ?_)
          refine lv_goto (tgt := 5) hx hb dX3_sureNow_41 (by decide) ?_
          exact ih_5 (i + 1) (by omega) (by omega) _ rfl _ rfl _ (zp_couF c_21) _ rfl _ _ hP hD hS ls (lv_sub hl [2, 3, 4, 1, 0] rfl)
        · refine lv_iconst (v := nI 1) hx hb dX3_sureNow_24 (by decide) ?_
          refine lv_iload hx hb dX3_sureNow_25 (lv_at hl 4 rfl) ?_
          refine lv_iload_n hx hb dX3_sureNow_27 rfl (lv_at hl 2 rfl) ?_
          refine zx_ishr hx hb (by omega) (by omega) dX3_sureNow_28 ?_
          refine lv_iconst (v := nI 1) hx hb dX3_sureNow_29 (by decide) ?_
          refine zx_iand hx hb dX3_sureNow_30 ?_
          refine zx_ishl1 hx hb (zx_a1s _) dX3_sureNow_31 ?_
          refine lv_goto (tgt := 36) hx hb dX3_sureNow_32 (by decide) ?_
          refine zx_ior hx hb dX3_sureNow_36 ?_
          refine lv_istore_n (lv' := [(3, .int (nI ((zp_cou (zm_F s a z d) o i) ||| (2 ^ ((i / 2 ^ o) &&& 1))))), (0, .ref (r 0)), (1, .int (nI d)), (2, .int (nI o)), (4, .int (nI i))]) hx hb dX3_sureNow_37 rfl hl (by decide) rfl (fun ls hl => ?_)
          refine lv_iinc (v := nI (i + 1)) (lv' := [(4, .int (nI (i + 1))), (3, .int (nI ((zp_cou (zm_F s a z d) o i) ||| (2 ^ ((i / 2 ^ o) &&& 1))))), (0, .ref (r 0)), (1, .int (nI d)), (2, .int (nI o))]) hx hb dX3_sureNow_38 hl (k := 4) rfl (zx_inc _ _) (by decide) rfl (fun ls hl => ?_)
          refine lv_goto (tgt := 5) hx hb dX3_sureNow_41 (by decide) ?_
          exact ih_5 (i + 1) (by omega) (by omega) _ rfl _ rfl _ (zp_couT c_21) _ rfl _ _ hP hD hS ls (lv_sub hl [2, 3, 4, 1, 0] rfl)
  exact lp_5 _ 0 (Nat.lt_succ_self _) (Nat.zero_le _) _ rfl _ rfl _ rfl _ rfl _ _ hP hD hS ls (lv_sub hl [2, 3, 4, 1, 0] rfl)
set_option maxHeartbeats 4000000 in
set_option maxRecDepth 100000 in
theorem c_X3_sure (l : Launch) (D : va_G) (cI cB : ClassId) (r : Nat → Nat) (s : Nat → Nat) (a : Nat → Nat → Nat) (z : Nat → Int) (h : Int64) (x y : Int32) (hI : zm_I s a z) : zx_C zx_ei l D (zm_t cI cB) (zm_w cI cB r) yX3_sure wsX3_sure rmX3_sure [.ref (r 0), .int x, .int y] (s, a, z, h) (fun v u' => v = zs_su (zd_drw (s 0) x) (zd_rng 0 6 y) (fun d o => zp_sur (zm_F s a z d) o) ∧ u' = (s, a, z, h)) := by
  refine zx_of_i (cc := cX3_sure) (maxL := 3) (by decide) rfl (Nat.le_of_ble_eq_true rfl) ?_
  intro p e st m args below meth c A Q H cf hK hN hP hD hS hA hret ls hl
  obtain ⟨hx, hb, hml, hown, hts⟩ := id cf
  have hl : lv_has ls 3 [(0, .ref (r 0)), (1, .int x), (2, .int y)] := hl
  have hP : va_P D vwCl ((zm_w cI cB r) (s, a, z, h)) H := hP
  have hD : va_D A ((zm_w cI cB r) (s, a, z, h)) := hD
  refine lv_aload_n hx hb dX3_sure_0 rfl (lv_at hl 0 rfl) ?_
  refine lv_iload_n hx hb dX3_sure_1 rfl (lv_at hl 1 rfl) ?_
  refine zx_V_i (As := [.int x]) (rest := []) cf (c_X3_isDrawer l D cI cB r s a z h x hI ) (cwV 1 hts gX3_sure_X3_isDrawer rfl rfl rfl ⟨rfl, hd_X3_isDrawer⟩ ⟨Nat.le_of_ble_eq_true rfl, Nat.le_of_ble_eq_true rfl⟩) hK hN hP hD hS hA 0 rfl rfl rfl hl.1 rfl (Nat.le_of_ble_eq_true rfl) dX3_sure_2 ⟨Nat.zero_le _, Nat.zero_le _⟩ (fun v_2 u_2 H locs hq hP hD hS => ?_)
  obtain ⟨rfl, rfl⟩ := hq
  refine zx_bf_eq hx hb (tgt := 24) dX3_sure_5 (by decide) (fun c_5 => ?_) (fun c_5 => ?_)
  · refine lv_bipush (v := (-101)) hx hb dX3_sure_24 (by decide) ?_
    exact hret _ _ _ _ _ _ hP hD hS dX3_sure_26 ⟨by rw [zd_none c_5]; rfl, rfl⟩
  · obtain ⟨d, hz⟩ := zd_some c_5
    obtain ⟨rfl, hd, hc9⟩ := zd_drw_some hz
    refine lv_iload_n hx hb dX3_sure_8 rfl (lv_at hl 2 rfl) ?_
    refine zx_S (As := [.int y]) (rest := []) cf (c_X3_isDay l D y ) (va_cwS 1 hts gX3_sure_X3_isDay rfl rfl rfl hd_X3_isDay ⟨Nat.le_of_ble_eq_true rfl, Nat.le_of_ble_eq_true rfl⟩) hK hN hP hS hA rfl hl.1 rfl (Nat.le_of_ble_eq_true rfl) dX3_sure_9 ⟨Nat.zero_le _, Nat.zero_le _⟩ (fun H locs hP hS => ?_)
    refine zx_bf_eq hx hb (tgt := 24) dX3_sure_12 (by decide) (fun c_12 => ?_) (fun c_12 => ?_)
    · refine lv_bipush (v := (-101)) hx hb dX3_sure_24 (by decide) ?_
      exact hret _ _ _ _ _ _ hP hD hS dX3_sure_26 ⟨by rw [hz, zd_nos c_12]; rfl, rfl⟩
    · obtain ⟨o, rfl, ho1, ho2, hy⟩ := zd_yes (by decide) (by decide) c_12
      refine lv_aload_n hx hb dX3_sure_15 rfl (lv_at hl 0 rfl) ?_
      refine lv_iload_n hx hb dX3_sure_16 rfl (lv_at hl 1 rfl) ?_
      refine lv_iload_n hx hb dX3_sure_17 rfl (lv_at hl 2 rfl) ?_
      refine zx_V_i (As := [.int (nI d), .int (nI o)]) (rest := []) cf (c_X3_sureNow l D cI cB r s a z h d o hI (by omega) (by omega)) (cwV 2 hts gX3_sure_X3_sureNow rfl rfl rfl ⟨rfl, hd_X3_sureNow⟩ ⟨Nat.le_of_ble_eq_true rfl, Nat.le_of_ble_eq_true rfl⟩) hK hN hP hD hS hA 0 rfl rfl rfl hl.1 rfl (Nat.le_of_ble_eq_true rfl) dX3_sure_18 ⟨Nat.zero_le _, Nat.zero_le _⟩ (fun v_18 u_18 H locs hq hP hD hS => ?_)
      obtain ⟨rfl, rfl⟩ := hq
      refine lv_goto (tgt := 26) hx hb dX3_sure_21 (by decide) ?_
      exact hret _ _ _ _ _ _ hP hD hS dX3_sure_26 ⟨by rw [hz, hy]; rfl, rfl⟩
set_option maxHeartbeats 4000000 in
set_option maxRecDepth 100000 in
theorem c_X3_isEnough (l : Launch) (D : va_G) (cI cB : ClassId) (r : Nat → Nat) (s : Nat → Nat) (a : Nat → Nat → Nat) (z : Nat → Int) (h : Int64) (d t9 q : Nat) (hI : zm_I s a z) (hd : d < 9) (ht : t9 < 128) (hq : q < 128) : zx_C zx_ei l D (zm_t cI cB) (zm_w cI cB r) yX3_isEnough wsX3_isEnough rmX3_isEnough [.ref (r 0), .int (nI d), .int (nI t9), .int (nI q)] (s, a, z, h) (fun v u' => v = zx_b (zp_eno (zm_f s a d (zp_ah (s 3) (z d)) q) t9) ∧ u' = (s, a, z, h)) := by
  refine zx_of_z (cc := cX3_isEnough) (maxL := 7) (by decide) rfl (Nat.le_of_ble_eq_true rfl) ?_
  intro p e st m args below meth c A Q H cf hK hN hP hD hS hA hret ls hl
  obtain ⟨hx, hb, hml, hown, hts⟩ := id cf
  have hl : lv_has ls 7 [(0, .ref (r 0)), (1, .int (nI d)), (2, .int (nI t9)), (3, .int (nI q))] := hl
  have hP : va_P D vwCl ((zm_w cI cB r) (s, a, z, h)) H := hP
  have hD : va_D A ((zm_w cI cB r) (s, a, z, h)) := hD
  obtain ⟨⟨i0, i1, i3, i5, i9, i13, i14⟩, ⟨i17, i18, i19, i20, i21⟩, iP, iF, iL, iG, iZ, jL, jP, jF⟩ := id hI
  refine lv_iconst (v := nI 0) hx hb dX3_isEnough_0 (by decide) ?_
  refine lv_istore (lv' := [(4, .int (nI 0)), (0, .ref (r 0)), (1, .int (nI d)), (2, .int (nI t9)), (3, .int (nI q))]) hx hb dX3_isEnough_1 hl (by decide) rfl (fun ls hl => ?_)
  refine lv_iconst (v := nI 1) hx hb dX3_isEnough_3 (by decide) ?_
  refine lv_istore (lv' := [(5, .int (nI 1)), (4, .int (nI 0)), (0, .ref (r 0)), (1, .int (nI d)), (2, .int (nI t9)), (3, .int (nI q))]) hx hb dX3_isEnough_4 hl (by decide) rfl (fun ls hl => ?_)
  refine lv_iconst (v := nI 0) hx hb dX3_isEnough_6 (by decide) ?_
  refine lv_istore (lv' := [(6, .int (nI 0)), (5, .int (nI 1)), (4, .int (nI 0)), (0, .ref (r 0)), (1, .int (nI d)), (2, .int (nI t9)), (3, .int (nI q))]) hx hb dX3_isEnough_7 hl (by decide) rfl (fun ls hl => ?_)
  have lp_9 : ∀ (n_ : Nat) (i : Nat), 128 - i < n_ → (i ≤ 128) → ∀ x1 : Int32, x1 = nI d → ∀ x2 : Int32, x2 = nI t9 → ∀ x3 : Int32, x3 = nI q → ∀ x4 : Int32, x4 = zx_b (zp_any (zp_ag (zm_f s a d (zp_ah (s 3) (z d)) q)) i) → ∀ x5 : Int32, x5 = zx_b (!zp_any (fun w9 => zp_ag (zm_f s a d (zp_ah (s 3) (z d)) q) w9 && !decide (w9 &&& t9 = t9)) i) → ∀ x6 : Int32, x6 = nI i → ∀ (H : Heap) (locs : List Loc), va_P D vwCl ((zm_w cI cB r) (s, a, z, h)) H → va_D A ((zm_w cI cB r) (s, a, z, h)) → va_S A st.heap H locs → ∀ ls : Array Slot, lv_has ls 7 [(0, .ref (r 0)), (1, .int x1), (2, .int x2), (3, .int x3), (4, .int x4), (5, .int x5), (6, .int x6)] → W p l e rmX3_isEnough st m args below meth c H locs 0 0 Q (F0 m 9 ls []) := by
    intro n_
    induction n_ with
    | zero => intros; omega
    | succ n_ ih_9 =>
      intro i hmu_9 hi9
      intro x1 ex1; subst ex1
      intro x2 ex2; subst ex2
      intro x3 ex3; subst ex3
      intro x4 ex4; subst ex4
      intro x5 ex5; subst ex5
      intro x6 ex6; subst ex6
      intro H locs hP hD hS ls hl
      have hl : lv_has ls 7 [(0, .ref (r 0)), (1, .int (nI d)), (2, .int (nI t9)), (3, .int (nI q)), (4, .int (zx_b (zp_any (zp_ag (zm_f s a d (zp_ah (s 3) (z d)) q)) i))), (5, .int (zx_b (!zp_any (fun w9 => zp_ag (zm_f s a d (zp_ah (s 3) (z d)) q) w9 && !decide (w9 &&& t9 = t9)) i))), (6, .int (nI i))] := hl
      refine lv_iload hx hb dX3_isEnough_9 (lv_at hl 6 rfl) ?_
      refine lv_sipush (v := nI 128) hx hb dX3_isEnough_11 (by decide) ?_
      refine zx_icmp_ge hx hb (tgt := 64) (by omega) (by omega) dX3_isEnough_14 (by decide) (fun c_14 => ?_) (fun c_14 => ?_)
      · refine lv_iload hx hb dX3_isEnough_64 (lv_at hl 4 rfl) ?_
        refine zx_bf_eq hx hb (tgt := 78) dX3_isEnough_66 (by decide) (fun c_66 => ?_) (fun c_66 => ?_)
        · refine lv_iconst (v := nI 0) hx hb dX3_isEnough_78 (by decide) ?_
          exact hret _ _ _ _ _ _ hP hD hS dX3_isEnough_79 zx_nar0 ⟨zx_b_f (zp_eno_a (by omega) c_66), rfl⟩
        · refine lv_iload hx hb dX3_isEnough_69 (lv_at hl 5 rfl) ?_
          refine zx_bf_eq hx hb (tgt := 78) dX3_isEnough_71 (by decide) (fun c_71 => ?_) (fun c_71 => ?_)
          · refine lv_iconst (v := nI 0) hx hb dX3_isEnough_78 (by decide) ?_
            exact hret _ _ _ _ _ _ hP hD hS dX3_isEnough_79 zx_nar0 ⟨zx_b_f (zp_eno_b (by omega) c_71), rfl⟩
          · refine lv_iconst (v := nI 1) hx hb dX3_isEnough_74 (by decide) ?_
            refine lv_goto (tgt := 79) hx hb dX3_isEnough_75 (by decide) ?_
            exact hret _ _ _ _ _ _ hP hD hS dX3_isEnough_79 zx_nar1 ⟨zx_b_t (zp_eno_c (by omega) c_66 c_71), rfl⟩
      · refine lv_aload_n hx hb dX3_isEnough_17 rfl (lv_at hl 0 rfl) ?_
        refine lv_iload_n hx hb dX3_isEnough_18 rfl (lv_at hl 1 rfl) ?_
        refine lv_iload hx hb dX3_isEnough_19 (lv_at hl 6 rfl) ?_
        refine lv_aload_n hx hb dX3_isEnough_21 rfl (lv_at hl 0 rfl) ?_
        refine lv_iload_n hx hb dX3_isEnough_22 rfl (lv_at hl 1 rfl) ?_
        refine zx_V_i (As := [.int (nI d)]) (rest := [.int (nI i), .int (nI d), .ref (r 0)]) cf (c_X3_aheadOf l D cI cB r s a z h d hI (by omega)) (cwV 1 hts gX3_isEnough_X3_aheadOf rfl rfl rfl ⟨rfl, hd_X3_aheadOf⟩ ⟨Nat.le_of_ble_eq_true rfl, Nat.le_of_ble_eq_true rfl⟩) hK hN hP hD hS hA 0 rfl rfl rfl hl.1 rfl (Nat.le_of_ble_eq_true rfl) dX3_isEnough_23 ⟨Nat.zero_le _, Nat.zero_le _⟩ (fun v_23 u_23 H locs hq hP hD hS => ?_)
        obtain ⟨rfl, rfl⟩ := hq
        refine lv_iload_n hx hb dX3_isEnough_26 rfl (lv_at hl 3 rfl) ?_
        refine zx_V_i (As := [.int (nI d), .int (nI i), .int (zx_i (zp_ah (s 3) (z d))), .int (nI q)]) (rest := []) cf (c_X3_firstWrong l D cI cB r s a z h d i (zp_ah (s 3) (z d)) q hI hd (by omega) hq (zp_ah_rng i3 (iZ d hd))) (cwV 4 hts gX3_isEnough_X3_firstWrong rfl rfl rfl ⟨rfl, hd_X3_firstWrong⟩ ⟨Nat.le_of_ble_eq_true rfl, Nat.le_of_ble_eq_true rfl⟩) hK hN hP hD hS hA 0 rfl rfl rfl hl.1 rfl (Nat.le_of_ble_eq_true rfl) dX3_isEnough_27 ⟨Nat.zero_le _, Nat.zero_le _⟩ (fun v_27 u_27 H locs hq hP hD hS => ?_)
        obtain ⟨rfl, rfl⟩ := hq
        refine lv_bipush (v := nI 7) hx hb dX3_isEnough_30 (by decide) ?_
        refine zx_icmp_ne hx hb (tgt := 58) (zp_fw_lt _ _) (by decide) dX3_isEnough_32 (by decide) (fun c_32 => ?_) (fun c_32 => ?_)
        · refine lv_iinc (v := nI (i + 1)) (lv' := [(6, .int (nI (i + 1))), (0, .ref (r 0)), (1, .int (nI d)), (2, .int (nI t9)), (3, .int (nI q)), (4, .int (zx_b (zp_any (zp_ag (zm_f s a d (zp_ah (s 3) (z d)) q)) i))), (5, .int (zx_b (!zp_any (fun w9 => zp_ag (zm_f s a d (zp_ah (s 3) (z d)) q) w9 && !decide (w9 &&& t9 = t9)) i)))]) hx hb dX3_isEnough_58 hl (k := 6) rfl (zx_inc _ _) (by decide) rfl (fun ls hl => ?_)
          refine lv_goto (tgt := 9) hx hb dX3_isEnough_61 (by decide) ?_
          exact ih_9 (i + 1) (by omega) (by omega) _ rfl _ rfl _ rfl _ (congrArg zx_b (zp_any_f1 (decide_eq_false c_32)).symm) _ (zp_en_a (decide_eq_false c_32)) _ rfl _ _ hP hD hS ls (lv_sub hl [1, 2, 3, 4, 5, 6, 0] rfl)
        · refine lv_iconst (v := nI 1) hx hb dX3_isEnough_35 (by decide) ?_
          refine lv_istore (lv' := [(4, .int (nI 1)), (0, .ref (r 0)), (1, .int (nI d)), (2, .int (nI t9)), (3, .int (nI q)), (5, .int (zx_b (!zp_any (fun w9 => zp_ag (zm_f s a d (zp_ah (s 3) (z d)) q) w9 && !decide (w9 &&& t9 = t9)) i))), (6, .int (nI i))]) hx hb dX3_isEnough_36 hl (by decide) rfl (fun ls hl => ?_)
          refine lv_iload hx hb dX3_isEnough_38 (lv_at hl 5 rfl) ?_
          refine zx_bf_eq hx hb (tgt := 55) dX3_isEnough_40 (by decide) (fun c_40 => ?_) (fun c_40 => ?_)
          · refine lv_iconst (v := nI 0) hx hb dX3_isEnough_55 (by decide) ?_
            refine lv_istore (lv' := [(5, .int (nI 0)), (4, .int (nI 1)), (0, .ref (r 0)), (1, .int (nI d)), (2, .int (nI t9)), (3, .int (nI q)), (6, .int (nI i))]) hx hb dX3_isEnough_56 hl (by decide) rfl (fun ls hl => ?_)
            refine lv_iinc (v := nI (i + 1)) (lv' := [(6, .int (nI (i + 1))), (5, .int (nI 0)), (4, .int (nI 1)), (0, .ref (r 0)), (1, .int (nI d)), (2, .int (nI t9)), (3, .int (nI q))]) hx hb dX3_isEnough_58 hl (k := 6) rfl (zx_inc _ _) (by decide) rfl (fun ls hl => ?_)
            refine lv_goto (tgt := 9) hx hb dX3_isEnough_61 (by decide) ?_
            exact ih_9 (i + 1) (by omega) (by omega) _ rfl _ rfl _ rfl _ (zx_b_t (zp_any_t1 (decide_eq_true c_32))) _ (zx_b_f (zp_en_b c_40)) _ rfl _ _ hP hD hS ls (lv_sub hl [3, 4, 5, 6, 2, 1, 0] rfl)
          · refine lv_iload hx hb dX3_isEnough_43 (lv_at hl 6 rfl) ?_
            refine lv_iload_n hx hb dX3_isEnough_45 rfl (lv_at hl 3 rfl) ?_
            refine zx_iand hx hb dX3_isEnough_46 ?_
            refine lv_iload_n hx hb dX3_isEnough_47 rfl (lv_at hl 3 rfl) ?_
            refine zx_icmp_ne hx hb (tgt := 55) (zx_andlt (by omega)) (by omega) dX3_isEnough_48 (by decide) (fun c_48 => ?_) (fun c_48 => ?_)
            · refine lv_iconst (v := nI 0) hx hb dX3_isEnough_55 (by decide) ?_
              refine lv_istore (lv' := [(5, .int (nI 0)), (4, .int (nI 1)), (0, .ref (r 0)), (1, .int (nI d)), (2, .int (nI t9)), (3, .int (nI q)), (6, .int (nI i))]) hx hb dX3_isEnough_56 hl (by decide) rfl (fun ls hl => ?_)
              refine lv_iinc (v := nI (i + 1)) (lv' := [(6, .int (nI (i + 1))), (5, .int (nI 0)), (4, .int (nI 1)), (0, .ref (r 0)), (1, .int (nI d)), (2, .int (nI t9)), (3, .int (nI q))]) hx hb dX3_isEnough_58 hl (k := 6) rfl (zx_inc _ _) (by decide) rfl (fun ls hl => ?_)
              refine lv_goto (tgt := 9) hx hb dX3_isEnough_61 (by decide) ?_
              exact ih_9 (i + 1) (by omega) (by omega) _ rfl _ rfl _ rfl _ (zx_b_t (zp_any_t1 (decide_eq_true c_32))) _ (zx_b_f (zp_en_c (decide_eq_true c_32) c_48)) _ rfl _ _ hP hD hS ls (lv_sub hl [3, 4, 5, 6, 2, 1, 0] rfl)
            · refine lv_iconst (v := nI 1) hx hb dX3_isEnough_51 (by decide) ?_
              refine lv_goto (tgt := 56) hx hb dX3_isEnough_52 (by decide) ?_
              refine lv_istore (lv' := [(5, .int (nI 1)), (4, .int (nI 1)), (0, .ref (r 0)), (1, .int (nI d)), (2, .int (nI t9)), (3, .int (nI q)), (6, .int (nI i))]) hx hb dX3_isEnough_56 hl (by decide) rfl (fun ls hl => ?_)
              refine lv_iinc (v := nI (i + 1)) (lv' := [(6, .int (nI (i + 1))), (5, .int (nI 1)), (4, .int (nI 1)), (0, .ref (r 0)), (1, .int (nI d)), (2, .int (nI t9)), (3, .int (nI q))]) hx hb dX3_isEnough_58 hl (k := 6) rfl (zx_inc _ _) (by decide) rfl (fun ls hl => ?_)
              refine lv_goto (tgt := 9) hx hb dX3_isEnough_61 (by decide) ?_
              exact ih_9 (i + 1) (by omega) (by omega) _ rfl _ rfl _ rfl _ (zx_b_t (zp_any_t1 (decide_eq_true c_32))) _ (zx_b_t (zp_en_d c_40 c_48)) _ rfl _ _ hP hD hS ls (lv_sub hl [3, 4, 5, 6, 2, 1, 0] rfl)
  exact lp_9 _ 0 (Nat.lt_succ_self _) (Nat.zero_le _) _ rfl _ rfl _ rfl _ zx_b_0 _ zx_b_1 _ rfl _ _ hP hD hS ls (lv_sub hl [3, 4, 5, 6, 2, 1, 0] rfl)
