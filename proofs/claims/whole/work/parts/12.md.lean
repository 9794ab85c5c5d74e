set_option maxHeartbeats 4000000 in
set_option maxRecDepth 100000 in
theorem c_X3_dn_0 (l : Launch) (D : va_G) (cI cB : ClassId) (r : Nat → Nat) (s : Nat → Nat) (a : Nat → Nat → Nat) (z : Nat → Int) (h : Int64) (d q : Nat) (hI : zm_I s a z) (hd : d < 9) (hq : q = 0) : zx_C zx_ei l D (zm_t cI cB) (zm_w cI cB r) yX3_drawerNow wsX3_drawerNow rmX3_drawerNow [.ref (r 0), .int (nI d), .int (nI q)] (s, a, z, h) (fun v u' => v = zm_dn s a z d 0 ∧ u' = (s, a, z, h)) := by
  refine zx_of_i (cc := cX3_drawerNow) (maxL := 3) (by decide) rfl (Nat.le_of_ble_eq_true rfl) ?_
  intro p e st m args below meth c A Q H cf hK hN hP hD hS hA hret ls hl
  obtain ⟨hx, hb, hml, hown, hts⟩ := id cf
  have hi3 : ∀ w ∈ wsX30, w ∈ wsX3_drawerNow := fun w h => List.mem_cons_of_mem _ (List.mem_append_right _ h)
  have k7 := hts (.fieldLink RX3 7 "NineDrawersModel" "delayOf" "[I") (List.mem_of_getElem? (i := 1) (by decide +kernel))
  have hl : lv_has ls 3 [(0, .ref (r 0)), (1, .int (nI d)), (2, .int (nI q))] := hl
  have hP : va_P D vwCl ((zm_w cI cB r) (s, a, z, h)) H := hP
  have hD : va_D A ((zm_w cI cB r) (s, a, z, h)) := hD
  obtain ⟨⟨i0, i1, i3, i5, i9, i13, i14⟩, ⟨i17, i18, i19, i20, i21⟩, iP, iF, iL, iG, iZ, jL, jP, jF⟩ := id hI
  refine lv_iload_n hx hb dX3_drawerNow_0 rfl (lv_at hl 2 rfl) ?_
  by_cases c_1_0 : q = 0
  · refine lv_tableIn (off := 39) (tgt := 40) hx hb dX3_drawerNow_1 (by rw [c_1_0]; decide) (by rw [c_1_0]; decide) (by rw [c_1_0]; rfl) (by decide) ?_
    refine lv_aload_n hx hb dX3_drawerNow_40 rfl (lv_at hl 0 rfl) ?_
    refine va_get (D := D) (ci := 3) (v := .ref (r 2)) (C := RX3) (T := TX3) (N := 29) hx hb hts hi3 hown hK hP 0 rfl rfl 2 (by decide) k7 (fun _ h9 => h9) rfl dX3_drawerNow_41 ?_
    refine lv_iload_n hx hb dX3_drawerNow_44 rfl (lv_at hl 1 rfl) ?_
    refine zx_aldI (f := z) (n := 9) hx hb hK hP 1 0 rfl rfl (by omega) (by decide) dX3_drawerNow_45 ?_
    refine lv_bipush (v := nI 10) hx hb dX3_drawerNow_46 (by decide) ?_
    refine lv_iadd hx hb dX3_drawerNow_48 ?_
    refine zx_topi (y := (zx_i (z d) + nI 10)) (rfl) ?_
    exact hret _ _ _ _ _ _ hP hD hS dX3_drawerNow_49 ⟨zm_dn0.symm, rfl⟩
  by_cases c_1_1 : q = 1
  · exact absurd (c_1_1.symm.trans hq) (by decide)
  by_cases c_1_2 : q = 2
  · exact absurd (c_1_2.symm.trans hq) (by decide)
  by_cases c_1_3 : q = 3
  · exact absurd (c_1_3.symm.trans hq) (by decide)
  by_cases c_1_4 : q = 4
  · exact absurd (c_1_4.symm.trans hq) (by decide)
  by_cases c_1_5 : q = 5
  · exact absurd (c_1_5.symm.trans hq) (by decide)
  exact absurd hq c_1_0
set_option maxHeartbeats 4000000 in
set_option maxRecDepth 100000 in
theorem c_X3_dn_1 (l : Launch) (D : va_G) (cI cB : ClassId) (r : Nat → Nat) (s : Nat → Nat) (a : Nat → Nat → Nat) (z : Nat → Int) (h : Int64) (d q : Nat) (hI : zm_I s a z) (hd : d < 9) (hq : q = 1) : zx_C zx_ei l D (zm_t cI cB) (zm_w cI cB r) yX3_drawerNow wsX3_drawerNow rmX3_drawerNow [.ref (r 0), .int (nI d), .int (nI q)] (s, a, z, h) (fun v u' => v = zm_dn s a z d 1 ∧ u' = (s, a, z, h)) := by
  refine zx_of_i (cc := cX3_drawerNow) (maxL := 3) (by decide) rfl (Nat.le_of_ble_eq_true rfl) ?_
  intro p e st m args below meth c A Q H cf hK hN hP hD hS hA hret ls hl
  obtain ⟨hx, hb, hml, hown, hts⟩ := id cf
  have hl : lv_has ls 3 [(0, .ref (r 0)), (1, .int (nI d)), (2, .int (nI q))] := hl
  have hP : va_P D vwCl ((zm_w cI cB r) (s, a, z, h)) H := hP
  have hD : va_D A ((zm_w cI cB r) (s, a, z, h)) := hD
  obtain ⟨⟨i0, i1, i3, i5, i9, i13, i14⟩, ⟨i17, i18, i19, i20, i21⟩, iP, iF, iL, iG, iZ, jL, jP, jF⟩ := id hI
  refine lv_iload_n hx hb dX3_drawerNow_0 rfl (lv_at hl 2 rfl) ?_
  by_cases c_1_0 : q = 0
  · exact absurd (c_1_0.symm.trans hq) (by decide)
  by_cases c_1_1 : q = 1
  · refine lv_tableIn (off := 49) (tgt := 50) hx hb dX3_drawerNow_1 (by rw [c_1_1]; decide) (by rw [c_1_1]; decide) (by rw [c_1_1]; rfl) (by decide) ?_
    refine lv_aload_n hx hb dX3_drawerNow_50 rfl (lv_at hl 0 rfl) ?_
    refine lv_iload_n hx hb dX3_drawerNow_51 rfl (lv_at hl 1 rfl) ?_
    refine zx_V_i (As := [.int (nI d)]) (rest := []) cf (c_X3_aheadOf l D cI cB r s a z h d hI (by omega)) (cwV 1 hts gX3_drawerNow_X3_aheadOf rfl rfl rfl ⟨rfl, hd_X3_aheadOf⟩ ⟨Nat.le_of_ble_eq_true rfl, Nat.le_of_ble_eq_true rfl⟩) hK hN hP hD hS hA 0 rfl rfl rfl hl.1 rfl (Nat.le_of_ble_eq_true rfl) dX3_drawerNow_52 ⟨Nat.zero_le _, Nat.zero_le _⟩ (fun v_52 u_52 H locs hq hP hD hS => ?_)
    obtain ⟨rfl, rfl⟩ := hq
    refine lv_bipush (v := nI 10) hx hb dX3_drawerNow_55 (by decide) ?_
    refine lv_iadd hx hb dX3_drawerNow_57 ?_
    refine zx_topi (y := (zx_i (zp_ah (s 3) (z d)) + nI 10)) (rfl) ?_
    exact hret _ _ _ _ _ _ hP hD hS dX3_drawerNow_58 ⟨zm_dn1.symm, rfl⟩
  by_cases c_1_2 : q = 2
  · exact absurd (c_1_2.symm.trans hq) (by decide)
  by_cases c_1_3 : q = 3
  · exact absurd (c_1_3.symm.trans hq) (by decide)
  by_cases c_1_4 : q = 4
  · exact absurd (c_1_4.symm.trans hq) (by decide)
  by_cases c_1_5 : q = 5
  · exact absurd (c_1_5.symm.trans hq) (by decide)
  exact absurd hq c_1_1
set_option maxHeartbeats 4000000 in
set_option maxRecDepth 100000 in
theorem c_X3_dn_2 (l : Launch) (D : va_G) (cI cB : ClassId) (r : Nat → Nat) (s : Nat → Nat) (a : Nat → Nat → Nat) (z : Nat → Int) (h : Int64) (d q : Nat) (hI : zm_I s a z) (hd : d < 9) (hq : q = 2) : zx_C zx_ei l D (zm_t cI cB) (zm_w cI cB r) yX3_drawerNow wsX3_drawerNow rmX3_drawerNow [.ref (r 0), .int (nI d), .int (nI q)] (s, a, z, h) (fun v u' => v = zm_dn s a z d 2 ∧ u' = (s, a, z, h)) := by
  refine zx_of_i (cc := cX3_drawerNow) (maxL := 3) (by decide) rfl (Nat.le_of_ble_eq_true rfl) ?_
  intro p e st m args below meth c A Q H cf hK hN hP hD hS hA hret ls hl
  obtain ⟨hx, hb, hml, hown, hts⟩ := id cf
  have hl : lv_has ls 3 [(0, .ref (r 0)), (1, .int (nI d)), (2, .int (nI q))] := hl
  have hP : va_P D vwCl ((zm_w cI cB r) (s, a, z, h)) H := hP
  have hD : va_D A ((zm_w cI cB r) (s, a, z, h)) := hD
  obtain ⟨⟨i0, i1, i3, i5, i9, i13, i14⟩, ⟨i17, i18, i19, i20, i21⟩, iP, iF, iL, iG, iZ, jL, jP, jF⟩ := id hI
  refine lv_iload_n hx hb dX3_drawerNow_0 rfl (lv_at hl 2 rfl) ?_
  by_cases c_1_0 : q = 0
  · exact absurd (c_1_0.symm.trans hq) (by decide)
  by_cases c_1_1 : q = 1
  · exact absurd (c_1_1.symm.trans hq) (by decide)
  by_cases c_1_2 : q = 2
  · refine lv_tableIn (off := 58) (tgt := 59) hx hb dX3_drawerNow_1 (by rw [c_1_2]; decide) (by rw [c_1_2]; decide) (by rw [c_1_2]; rfl) (by decide) ?_
    refine lv_aload_n hx hb dX3_drawerNow_59 rfl (lv_at hl 0 rfl) ?_
    refine lv_iload_n hx hb dX3_drawerNow_60 rfl (lv_at hl 1 rfl) ?_
    refine zx_V_i (As := [.int (nI d)]) (rest := []) cf (c_X3_peopleOf l D cI cB r s a z h d hI (by omega)) (cwV 1 hts gX3_drawerNow_X3_peopleOf rfl rfl rfl ⟨rfl, hd_X3_peopleOf⟩ ⟨Nat.le_of_ble_eq_true rfl, Nat.le_of_ble_eq_true rfl⟩) hK hN hP hD hS hA 0 rfl rfl rfl hl.1 rfl (Nat.le_of_ble_eq_true rfl) dX3_drawerNow_61 ⟨Nat.zero_le _, Nat.zero_le _⟩ (fun v_61 u_61 H locs hq hP hD hS => ?_)
    obtain ⟨rfl, rfl⟩ := hq
    exact hret _ _ _ _ _ _ hP hD hS dX3_drawerNow_64 ⟨zm_dn2.symm, rfl⟩
  by_cases c_1_3 : q = 3
  · exact absurd (c_1_3.symm.trans hq) (by decide)
  by_cases c_1_4 : q = 4
  · exact absurd (c_1_4.symm.trans hq) (by decide)
  by_cases c_1_5 : q = 5
  · exact absurd (c_1_5.symm.trans hq) (by decide)
  exact absurd hq c_1_2
set_option maxHeartbeats 4000000 in
set_option maxRecDepth 100000 in
theorem c_X3_dn_3 (l : Launch) (D : va_G) (cI cB : ClassId) (r : Nat → Nat) (s : Nat → Nat) (a : Nat → Nat → Nat) (z : Nat → Int) (h : Int64) (d q : Nat) (hI : zm_I s a z) (hd : d < 9) (hq : q = 3) : zx_C zx_ei l D (zm_t cI cB) (zm_w cI cB r) yX3_drawerNow wsX3_drawerNow rmX3_drawerNow [.ref (r 0), .int (nI d), .int (nI q)] (s, a, z, h) (fun v u' => v = zm_dn s a z d 3 ∧ u' = (s, a, z, h)) := by
  refine zx_of_i (cc := cX3_drawerNow) (maxL := 3) (by decide) rfl (Nat.le_of_ble_eq_true rfl) ?_
  intro p e st m args below meth c A Q H cf hK hN hP hD hS hA hret ls hl
  obtain ⟨hx, hb, hml, hown, hts⟩ := id cf
  have hi3 : ∀ w ∈ wsX30, w ∈ wsX3_drawerNow := fun w h => List.mem_cons_of_mem _ (List.mem_append_right _ h)
  have k13 := hts (.fieldLink RX3 13 "NineDrawersModel" "laidIn" "[I") (List.mem_of_getElem? (i := 2) (by decide +kernel))
  have hl : lv_has ls 3 [(0, .ref (r 0)), (1, .int (nI d)), (2, .int (nI q))] := hl
  have hP : va_P D vwCl ((zm_w cI cB r) (s, a, z, h)) H := hP
  have hD : va_D A ((zm_w cI cB r) (s, a, z, h)) := hD
  obtain ⟨⟨i0, i1, i3, i5, i9, i13, i14⟩, ⟨i17, i18, i19, i20, i21⟩, iP, iF, iL, iG, iZ, jL, jP, jF⟩ := id hI
  refine lv_iload_n hx hb dX3_drawerNow_0 rfl (lv_at hl 2 rfl) ?_
  by_cases c_1_0 : q = 0
  · exact absurd (c_1_0.symm.trans hq) (by decide)
  by_cases c_1_1 : q = 1
  · exact absurd (c_1_1.symm.trans hq) (by decide)
  by_cases c_1_2 : q = 2
  · exact absurd (c_1_2.symm.trans hq) (by decide)
  by_cases c_1_3 : q = 3
  · refine lv_tableIn (off := 64) (tgt := 65) hx hb dX3_drawerNow_1 (by rw [c_1_3]; decide) (by rw [c_1_3]; decide) (by rw [c_1_3]; rfl) (by decide) ?_
    refine lv_aload_n hx hb dX3_drawerNow_65 rfl (lv_at hl 0 rfl) ?_
    refine va_get (D := D) (ci := 3) (v := .ref (r 4)) (C := RX3) (T := TX3) (N := 29) hx hb hts hi3 hown hK hP 0 rfl rfl 4 (by decide) k13 (fun _ h9 => h9) rfl dX3_drawerNow_66 ?_
    refine lv_iload_n hx hb dX3_drawerNow_69 rfl (lv_at hl 1 rfl) ?_
    refine zx_ald (f := a 4) (n := 9) hx hb hK hP 2 0 rfl rfl (by omega) (by decide) dX3_drawerNow_70 ?_
    exact hret _ _ _ _ _ _ hP hD hS dX3_drawerNow_71 ⟨zm_dn3.symm, rfl⟩
  by_cases c_1_4 : q = 4
  · exact absurd (c_1_4.symm.trans hq) (by decide)
  by_cases c_1_5 : q = 5
  · exact absurd (c_1_5.symm.trans hq) (by decide)
  exact absurd hq c_1_3
set_option maxHeartbeats 4000000 in
set_option maxRecDepth 100000 in
theorem c_X3_dn_4 (l : Launch) (D : va_G) (cI cB : ClassId) (r : Nat → Nat) (s : Nat → Nat) (a : Nat → Nat → Nat) (z : Nat → Int) (h : Int64) (d q : Nat) (hI : zm_I s a z) (hd : d < 9) (hq : q = 4) : zx_C zx_ei l D (zm_t cI cB) (zm_w cI cB r) yX3_drawerNow wsX3_drawerNow rmX3_drawerNow [.ref (r 0), .int (nI d), .int (nI q)] (s, a, z, h) (fun v u' => v = zm_dn s a z d 4 ∧ u' = (s, a, z, h)) := by
  refine zx_of_i (cc := cX3_drawerNow) (maxL := 3) (by decide) rfl (Nat.le_of_ble_eq_true rfl) ?_
  intro p e st m args below meth c A Q H cf hK hN hP hD hS hA hret ls hl
  obtain ⟨hx, hb, hml, hown, hts⟩ := id cf
  have hl : lv_has ls 3 [(0, .ref (r 0)), (1, .int (nI d)), (2, .int (nI q))] := hl
  have hP : va_P D vwCl ((zm_w cI cB r) (s, a, z, h)) H := hP
  have hD : va_D A ((zm_w cI cB r) (s, a, z, h)) := hD
  obtain ⟨⟨i0, i1, i3, i5, i9, i13, i14⟩, ⟨i17, i18, i19, i20, i21⟩, iP, iF, iL, iG, iZ, jL, jP, jF⟩ := id hI
  refine lv_iload_n hx hb dX3_drawerNow_0 rfl (lv_at hl 2 rfl) ?_
  by_cases c_1_0 : q = 0
  · exact absurd (c_1_0.symm.trans hq) (by decide)
  by_cases c_1_1 : q = 1
  · exact absurd (c_1_1.symm.trans hq) (by decide)
  by_cases c_1_2 : q = 2
  · exact absurd (c_1_2.symm.trans hq) (by decide)
  by_cases c_1_3 : q = 3
  · exact absurd (c_1_3.symm.trans hq) (by decide)
  by_cases c_1_4 : q = 4
  · refine lv_tableIn (off := 71) (tgt := 72) hx hb dX3_drawerNow_1 (by rw [c_1_4]; decide) (by rw [c_1_4]; decide) (by rw [c_1_4]; rfl) (by decide) ?_
    refine lv_aload_n hx hb dX3_drawerNow_72 rfl (lv_at hl 0 rfl) ?_
    refine lv_iload_n hx hb dX3_drawerNow_73 rfl (lv_at hl 1 rfl) ?_
    refine zx_V_i (As := [.int (nI d)]) (rest := []) cf (c_X3_agreeing l D cI cB r s a z h d hI (by omega)) (cwV 1 hts gX3_drawerNow_X3_agreeing rfl rfl rfl ⟨rfl, hd_X3_agreeing⟩ ⟨Nat.le_of_ble_eq_true rfl, Nat.le_of_ble_eq_true rfl⟩) hK hN hP hD hS hA 0 rfl rfl rfl hl.1 rfl (Nat.le_of_ble_eq_true rfl) dX3_drawerNow_74 ⟨Nat.zero_le _, Nat.zero_le _⟩ (fun v_74 u_74 H locs hq hP hD hS => ?_)
    obtain ⟨rfl, rfl⟩ := hq
    exact hret _ _ _ _ _ _ hP hD hS dX3_drawerNow_77 ⟨zm_dn4.symm, rfl⟩
  by_cases c_1_5 : q = 5
  · exact absurd (c_1_5.symm.trans hq) (by decide)
  exact absurd hq c_1_4
set_option maxHeartbeats 4000000 in
set_option maxRecDepth 100000 in
theorem c_X3_dn_5 (l : Launch) (D : va_G) (cI cB : ClassId) (r : Nat → Nat) (s : Nat → Nat) (a : Nat → Nat → Nat) (z : Nat → Int) (h : Int64) (d q : Nat) (hI : zm_I s a z) (hd : d < 9) (hq : q = 5) : zx_C zx_ei l D (zm_t cI cB) (zm_w cI cB r) yX3_drawerNow wsX3_drawerNow rmX3_drawerNow [.ref (r 0), .int (nI d), .int (nI q)] (s, a, z, h) (fun v u' => v = zm_dn s a z d 5 ∧ u' = (s, a, z, h)) := by
  refine zx_of_i (cc := cX3_drawerNow) (maxL := 3) (by decide) rfl (Nat.le_of_ble_eq_true rfl) ?_
  intro p e st m args below meth c A Q H cf hK hN hP hD hS hA hret ls hl
  obtain ⟨hx, hb, hml, hown, hts⟩ := id cf
  have hl : lv_has ls 3 [(0, .ref (r 0)), (1, .int (nI d)), (2, .int (nI q))] := hl
  have hP : va_P D vwCl ((zm_w cI cB r) (s, a, z, h)) H := hP
  have hD : va_D A ((zm_w cI cB r) (s, a, z, h)) := hD
  obtain ⟨⟨i0, i1, i3, i5, i9, i13, i14⟩, ⟨i17, i18, i19, i20, i21⟩, iP, iF, iL, iG, iZ, jL, jP, jF⟩ := id hI
  refine lv_iload_n hx hb dX3_drawerNow_0 rfl (lv_at hl 2 rfl) ?_
  by_cases c_1_0 : q = 0
  · exact absurd (c_1_0.symm.trans hq) (by decide)
  by_cases c_1_1 : q = 1
  · exact absurd (c_1_1.symm.trans hq) (by decide)
  by_cases c_1_2 : q = 2
  · exact absurd (c_1_2.symm.trans hq) (by decide)
  by_cases c_1_3 : q = 3
  · exact absurd (c_1_3.symm.trans hq) (by decide)
  by_cases c_1_4 : q = 4
  · exact absurd (c_1_4.symm.trans hq) (by decide)
  by_cases c_1_5 : q = 5
  · refine lv_tableIn (off := 77) (tgt := 78) hx hb dX3_drawerNow_1 (by rw [c_1_5]; decide) (by rw [c_1_5]; decide) (by rw [c_1_5]; rfl) (by decide) ?_
    refine lv_aload_n hx hb dX3_drawerNow_78 rfl (lv_at hl 0 rfl) ?_
    refine lv_iload_n hx hb dX3_drawerNow_79 rfl (lv_at hl 1 rfl) ?_
    refine zx_V_i (As := [.int (nI d)]) (rest := []) cf (c_X3_cannotOf l D cI cB r s a z h d hI (by omega)) (cwV 1 hts gX3_drawerNow_X3_cannotOf rfl rfl rfl ⟨rfl, hd_X3_cannotOf⟩ ⟨Nat.le_of_ble_eq_true rfl, Nat.le_of_ble_eq_true rfl⟩) hK hN hP hD hS hA 0 rfl rfl rfl hl.1 rfl (Nat.le_of_ble_eq_true rfl) dX3_drawerNow_80 ⟨Nat.zero_le _, Nat.zero_le _⟩ (fun v_80 u_80 H locs hq hP hD hS => ?_)
    obtain ⟨rfl, rfl⟩ := hq
    exact hret _ _ _ _ _ _ hP hD hS dX3_drawerNow_83 ⟨zm_dn5.symm, rfl⟩
  exact absurd hq c_1_5
set_option maxHeartbeats 4000000 in
set_option maxRecDepth 100000 in
theorem c_X3_dn_6 (l : Launch) (D : va_G) (cI cB : ClassId) (r : Nat → Nat) (s : Nat → Nat) (a : Nat → Nat → Nat) (z : Nat → Int) (h : Int64) (d q : Nat) (hI : zm_I s a z) (hd : d < 9) (hq : q = 6) : zx_C zx_ei l D (zm_t cI cB) (zm_w cI cB r) yX3_drawerNow wsX3_drawerNow rmX3_drawerNow [.ref (r 0), .int (nI d), .int (nI q)] (s, a, z, h) (fun v u' => v = zm_dn s a z d 6 ∧ u' = (s, a, z, h)) := by
  refine zx_of_i (cc := cX3_drawerNow) (maxL := 3) (by decide) rfl (Nat.le_of_ble_eq_true rfl) ?_
  intro p e st m args below meth c A Q H cf hK hN hP hD hS hA hret ls hl
  obtain ⟨hx, hb, hml, hown, hts⟩ := id cf
  have hl : lv_has ls 3 [(0, .ref (r 0)), (1, .int (nI d)), (2, .int (nI q))] := hl
  have hP : va_P D vwCl ((zm_w cI cB r) (s, a, z, h)) H := hP
  have hD : va_D A ((zm_w cI cB r) (s, a, z, h)) := hD
  obtain ⟨⟨i0, i1, i3, i5, i9, i13, i14⟩, ⟨i17, i18, i19, i20, i21⟩, iP, iF, iL, iG, iZ, jL, jP, jF⟩ := id hI
  refine lv_iload_n hx hb dX3_drawerNow_0 rfl (lv_at hl 2 rfl) ?_
  by_cases c_1_0 : q = 0
  · exact absurd (c_1_0.symm.trans hq) (by decide)
  by_cases c_1_1 : q = 1
  · exact absurd (c_1_1.symm.trans hq) (by decide)
  by_cases c_1_2 : q = 2
  · exact absurd (c_1_2.symm.trans hq) (by decide)
  by_cases c_1_3 : q = 3
  · exact absurd (c_1_3.symm.trans hq) (by decide)
  by_cases c_1_4 : q = 4
  · exact absurd (c_1_4.symm.trans hq) (by decide)
  by_cases c_1_5 : q = 5
  · exact absurd (c_1_5.symm.trans hq) (by decide)
  refine lv_tableOut (tgt := 84) hx hb dX3_drawerNow_1 (by rw [hq]; exact Or.inr (by decide)) (by decide) ?_
  refine lv_aload_n hx hb dX3_drawerNow_84 rfl (lv_at hl 0 rfl) ?_
  refine lv_iload_n hx hb dX3_drawerNow_85 rfl (lv_at hl 1 rfl) ?_
  refine zx_V_i (As := [.int (nI d)]) (rest := []) cf (c_X3_leastOf l D cI cB r s a z h d hI (by omega)) (cwV 1 hts gX3_drawerNow_X3_leastOf rfl rfl rfl ⟨rfl, hd_X3_leastOf⟩ ⟨Nat.le_of_ble_eq_true rfl, Nat.le_of_ble_eq_true rfl⟩) hK hN hP hD hS hA 0 rfl rfl rfl hl.1 rfl (Nat.le_of_ble_eq_true rfl) dX3_drawerNow_86 ⟨Nat.zero_le _, Nat.zero_le _⟩ (fun v_86 u_86 H locs hq hP hD hS => ?_)
  obtain ⟨rfl, rfl⟩ := hq
  exact hret _ _ _ _ _ _ hP hD hS dX3_drawerNow_89 ⟨zm_dn6.symm, rfl⟩
theorem c_X3_drawerNow (l : Launch) (D : va_G) (cI cB : ClassId) (r : Nat → Nat) (s : Nat → Nat) (a : Nat → Nat → Nat) (z : Nat → Int) (h : Int64) (d q : Nat) (hI : zm_I s a z) (hd : d < 9) (hq : q ≤ 6) : zx_C zx_ei l D (zm_t cI cB) (zm_w cI cB r) yX3_drawerNow wsX3_drawerNow rmX3_drawerNow [.ref (r 0), .int (nI d), .int (nI q)] (s, a, z, h) (fun v u' => v = zm_dn s a z d q ∧ u' = (s, a, z, h)) := by
  rcases (show q = 0 ∨ q = 1 ∨ q = 2 ∨ q = 3 ∨ q = 4 ∨ q = 5 ∨ q = 6 by omega) with q9 | q9 | q9 | q9 | q9 | q9 | q9
  · have q8 := c_X3_dn_0 l D cI cB r s a z h d q hI hd q9
    rw [q9] at q8 ⊢
    exact q8
  · have q8 := c_X3_dn_1 l D cI cB r s a z h d q hI hd q9
    rw [q9] at q8 ⊢
    exact q8
  · have q8 := c_X3_dn_2 l D cI cB r s a z h d q hI hd q9
    rw [q9] at q8 ⊢
    exact q8
  · have q8 := c_X3_dn_3 l D cI cB r s a z h d q hI hd q9
    rw [q9] at q8 ⊢
    exact q8
  · have q8 := c_X3_dn_4 l D cI cB r s a z h d q hI hd q9
    rw [q9] at q8 ⊢
    exact q8
  · have q8 := c_X3_dn_5 l D cI cB r s a z h d q hI hd q9
    rw [q9] at q8 ⊢
    exact q8
  · have q8 := c_X3_dn_6 l D cI cB r s a z h d q hI hd q9
    rw [q9] at q8 ⊢
    exact q8
set_option maxHeartbeats 4000000 in
set_option maxRecDepth 100000 in
theorem c_X3_drawer (l : Launch) (D : va_G) (cI cB : ClassId) (r : Nat → Nat) (s : Nat → Nat) (a : Nat → Nat → Nat) (z : Nat → Int) (h : Int64) (x y : Int32) (hI : zm_I s a z) : zx_C zx_ei l D (zm_t cI cB) (zm_w cI cB r) yX3_drawer wsX3_drawer rmX3_drawer [.ref (r 0), .int x, .int y] (s, a, z, h) (fun v u' => v = zs_dq 6 (zd_drw (s 0) x) y (zm_dn s a z) ∧ u' = (s, a, z, h)) := by
  refine zx_of_i (cc := cX3_drawer) (maxL := 3) (by decide) rfl (Nat.le_of_ble_eq_true rfl) ?_
  intro p e st m args below meth c A Q H cf hK hN hP hD hS hA hret ls hl
  obtain ⟨hx, hb, hml, hown, hts⟩ := id cf
  have hl : lv_has ls 3 [(0, .ref (r 0)), (1, .int x), (2, .int y)] := hl
  have hP : va_P D vwCl ((zm_w cI cB r) (s, a, z, h)) H := hP
  have hD : va_D A ((zm_w cI cB r) (s, a, z, h)) := hD
  refine lv_aload_n hx hb dX3_drawer_0 rfl (lv_at hl 0 rfl) ?_
  refine lv_iload_n hx hb dX3_drawer_1 rfl (lv_at hl 1 rfl) ?_
  refine zx_V_i (As := [.int x]) (rest := []) cf (c_X3_isDrawer l D cI cB r s a z h x hI ) (cwV 1 hts gX3_drawer_X3_isDrawer rfl rfl rfl ⟨rfl, hd_X3_isDrawer⟩ ⟨Nat.le_of_ble_eq_true rfl, Nat.le_of_ble_eq_true rfl⟩) hK hN hP hD hS hA 0 rfl rfl rfl hl.1 rfl (Nat.le_of_ble_eq_true rfl) dX3_drawer_2 ⟨Nat.zero_le _, Nat.zero_le _⟩ (fun v_2 u_2 H locs hq hP hD hS => ?_)
  obtain ⟨rfl, rfl⟩ := hq
  refine zx_bf_ne hx hb (tgt := 13) dX3_drawer_5 (by decide) (fun c_5 => ?_) (fun c_5 => ?_)
  · obtain ⟨d, hz⟩ := zd_some c_5
    obtain ⟨rfl, hd, hc9⟩ := zd_drw_some hz
    refine lv_iload_n hx hb dX3_drawer_13 rfl (lv_at hl 2 rfl) ?_
    refine lv_iconst (v := nI 0) hx hb dX3_drawer_14 (by decide) ?_
    refine lv_bipush (v := nI 6) hx hb dX3_drawer_15 (by decide) ?_
    refine zx_S (As := [.int y, .int (nI 0), .int (nI 6)]) (rest := []) cf (c_X3_within l D y (nI 0) (nI 6) ) (va_cwS 3 hts gX3_drawer_X3_within rfl rfl rfl hd_X3_within ⟨Nat.le_of_ble_eq_true rfl, Nat.le_of_ble_eq_true rfl⟩) hK hN hP hS hA rfl hl.1 rfl (Nat.le_of_ble_eq_true rfl) dX3_drawer_17 ⟨Nat.zero_le _, Nat.zero_le _⟩ (fun H locs hP hS => ?_)
    refine zx_bf_eq hx hb (tgt := 32) dX3_drawer_20 (by decide) (fun c_20 => ?_) (fun c_20 => ?_)
    · refine lv_bipush (v := (-102)) hx hb dX3_drawer_32 (by decide) ?_
      exact hret _ _ _ _ _ _ hP hD hS dX3_drawer_34 ⟨by rw [hz]; exact (zs_dqo (zd_nos c_20)).symm, rfl⟩
    · obtain ⟨q, rfl, hq1, hq2, hy⟩ := zd_yes (by decide) (by decide) c_20
      refine lv_aload_n hx hb dX3_drawer_23 rfl (lv_at hl 0 rfl) ?_
      refine lv_iload_n hx hb dX3_drawer_24 rfl (lv_at hl 1 rfl) ?_
      refine lv_iload_n hx hb dX3_drawer_25 rfl (lv_at hl 2 rfl) ?_
      refine zx_V_i (As := [.int (nI d), .int (nI q)]) (rest := []) cf (c_X3_drawerNow l D cI cB r s a z h d q hI (by omega) (by omega)) (cwV 2 hts gX3_drawer_X3_drawerNow rfl rfl rfl ⟨rfl, hd_X3_drawerNow⟩ ⟨Nat.le_of_ble_eq_true rfl, Nat.le_of_ble_eq_true rfl⟩) hK hN hP hD hS hA 0 rfl rfl rfl hl.1 rfl (Nat.le_of_ble_eq_true rfl) dX3_drawer_26 ⟨Nat.zero_le _, Nat.zero_le _⟩ (fun v_26 u_26 H locs hq hP hD hS => ?_)
      obtain ⟨rfl, rfl⟩ := hq
      refine lv_goto (tgt := 34) hx hb dX3_drawer_29 (by decide) ?_
      exact hret _ _ _ _ _ _ hP hD hS dX3_drawer_34 ⟨by rw [hz]; exact (zs_dqi hy).symm, rfl⟩
  · refine lv_bipush (v := (-101)) hx hb dX3_drawer_8 (by decide) ?_
    refine lv_goto (tgt := 34) hx hb dX3_drawer_10 (by decide) ?_
    exact hret _ _ _ _ _ _ hP hD hS dX3_drawer_34 ⟨by rw [zd_none c_5]; rfl, rfl⟩
