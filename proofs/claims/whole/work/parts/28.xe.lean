set_option maxHeartbeats 4000000 in
set_option maxRecDepth 100000 in
theorem c_X2_cW_n (l : Launch) (D : va_G) (cI cB : ClassId) (r : Nat → Nat) (s : Nat → Nat) (a : Nat → Nat → Nat) (z : Nat → Int) (ah : Int) (e9 d : Nat) (hI : zy_I s a z) (hd : d < 9)  : zx_C zx_ea l D (zm_t cI cB) (zy_w cI r) yX2_courseWithout wsX2_courseWithout rmX2_courseWithout [.ref (r 1), .int (-1), .int (nI d)] (s, a, z, ah) (fun v u' => v = r 30 ∧ u' = (zx_up (zx_up (zx_up s 31 (a 16 d)) 32 (zy_Em s a 99 d)) 33 (zy_Tm s a 99 d), a, z, zp_ah (s 10) (z d))) := by
  refine zx_of_a (cc := cX2_courseWithout) (maxL := 4) (by decide) rfl (Nat.le_of_ble_eq_true rfl) ?_
  intro p e st m args below meth c A Q H cf hK hN hP hD hS hA hret ls hl
  obtain ⟨hx, hb, hml, hown, hts⟩ := id cf
  have hi2 : ∀ w ∈ wsX20, w ∈ wsX2_courseWithout := fun w h => List.mem_cons_of_mem _ (List.mem_append_left _ (List.mem_append_left _ (List.mem_append_right _ h)))
  have hi1 : ∀ w ∈ wsX10, w ∈ wsX2_courseWithout := fun w h => List.mem_cons_of_mem _ (List.mem_append_left _ (List.mem_append_right _ h))
  have k29 := hts (.fieldLink RX2 29 "NineDrawers" "course" "LNineDrawers$Course;") (List.mem_of_getElem? (i := 1) (by decide +kernel))
  have k19 := hts (.fieldLink RX2 19 "NineDrawers" "hall" "LNineDrawers$Hall;") (List.mem_of_getElem? (i := 2) (by decide +kernel))
  have k72 := hts (.fieldLink RX2 72 "NineDrawers$Hall" "laidIn" "[I") (List.mem_of_getElem? (i := 3) (by decide +kernel))
  have k94 := hts (.fieldLink RX2 94 "NineDrawers$Hall" "people" "I") (List.mem_of_getElem? (i := 4) (by decide +kernel))
  have k100 := hts (.fieldLink RX2 100 "NineDrawers$Hall" "drawerOf" "[I") (List.mem_of_getElem? (i := 5) (by decide +kernel))
  have k97 := hts (.fieldLink RX2 97 "NineDrawers$Hall" "kindOf" "[I") (List.mem_of_getElem? (i := 6) (by decide +kernel))
  have k103 := hts (.fieldLink RX2 103 "NineDrawers$Hall" "ownDayOf" "[I") (List.mem_of_getElem? (i := 7) (by decide +kernel))
  have hl : lv_has ls 4 [(0, .ref (r 1)), (1, .int (-1)), (2, .int (nI d))] := hl
  have hP : va_P D vwCl ((zy_w cI r) (s, a, z, ah)) H := hP
  have hD : va_D A ((zy_w cI r) (s, a, z, ah)) := hD
  obtain ⟨⟨i1, i2, i5, i7, i8, i10, i11, i12⟩, ⟨i20, i21, i22⟩, iG, iP, iL, iZ, jP, jL⟩ := id hI
  refine lv_aload_n hx hb dX2_courseWithout_0 rfl (lv_at hl 0 rfl) ?_
  refine va_get (D := D) (ci := 2) (v := .ref (r 30)) (C := RX2) (T := TX2) (N := 10) hx hb hts hi2 hown hK hP 0 rfl rfl 9 (by decide) k29 (fun _ h9 => h9) rfl dX2_courseWithout_1 ?_
  refine lv_aload_n hx hb dX2_courseWithout_4 rfl (lv_at hl 0 rfl) ?_
  refine lv_iload_n hx hb dX2_courseWithout_5 rfl (lv_at hl 2 rfl) ?_
  refine zx_V_i (As := [.int (nI d)]) (rest := [.ref (r 30)]) cf (c_X2_aheadOf l D cI cB r s a z ah d hI (by omega)) (cwV 1 hts gX2_courseWithout_X2_aheadOf rfl rfl rfl ⟨rfl, hd_X2_aheadOf⟩ ⟨Nat.le_of_ble_eq_true rfl, Nat.le_of_ble_eq_true rfl⟩) hK hN hP hD hS hA 0 rfl rfl rfl hl.1 rfl (Nat.le_of_ble_eq_true rfl) dX2_courseWithout_6 ⟨Nat.zero_le _, Nat.zero_le _⟩ (fun v_6 u_6 H locs hq hP hD hS => ?_)
  obtain ⟨rfl, rfl⟩ := hq
  refine lv_aload_n hx hb dX2_courseWithout_9 rfl (lv_at hl 0 rfl) ?_
  refine va_get (D := D) (ci := 2) (v := .ref (r 10)) (C := RX2) (T := TX2) (N := 10) hx hb hts hi2 hown hK hP 0 rfl rfl 4 (by decide) k19 (fun _ h9 => h9) rfl dX2_courseWithout_10 ?_
  refine va_get (D := D) (ci := 1) (v := .ref (r 16)) (C := RX1) (T := TX1) (N := 9) hx hb hts hi1 hown hK hP 3 rfl rfl 6 (by decide) k72 (fun _ h9 => h9) rfl dX2_courseWithout_13 ?_
  refine lv_iload_n hx hb dX2_courseWithout_16 rfl (lv_at hl 2 rfl) ?_
  refine zx_ald (f := a 16) (n := 9) hx hb hK hP 7 0 rfl rfl (by omega) (by decide) dX2_courseWithout_17 ?_
  refine zx_V_v (As := [.int (zx_i (zp_ah (s 10) (z d))), .int (nI ((a 16) d))]) (rest := []) cf (c_X0_start l D cI cB r s a z ah (zp_ah (s 10) (z d)) ((a 16) d) ) (cwV 2 hts gX2_courseWithout_X0_start rfl rfl rfl ⟨rfl, hd_X0_start⟩ ⟨Nat.le_of_ble_eq_true rfl, Nat.le_of_ble_eq_true rfl⟩) hK hN hP hD hS hA 17 rfl rfl rfl hl.1 rfl (Nat.le_of_ble_eq_true rfl) dX2_courseWithout_18 ⟨Nat.zero_le _, Nat.zero_le _⟩ (fun v_18 u_18 H locs hq hP hD hS => ?_)
  subst hq
  refine lv_iconst (v := nI 0) hx hb dX2_courseWithout_21 (by decide) ?_
  refine lv_istore_n (lv' := [(3, .int (nI 0)), (0, .ref (r 1)), (1, .int (-1)), (2, .int (nI d))]) hx hb dX2_courseWithout_22 rfl hl (by decide) rfl (fun ls hl => ?_)
  have lp_23 : ∀ (n_ : Nat) (k : Nat) (E9 : Nat) (T9 : Nat), s 11 - k < n_ → (k ≤ s 11) → (E9 = zy_orr (fun p9 => !decide (p9 = 99) && decide (a 14 p9 = d)) (fun p9 => zp_E (a 13 p9) (a 15 p9)) k) → (T9 = zy_orr (fun p9 => !decide (p9 = 99) && decide (a 14 p9 = d)) (fun p9 => zp_T (a 13 p9) (a 15 p9)) k) → ∀ x1 : Int32, x1 = (-1) → ∀ x2 : Int32, x2 = nI d → ∀ x3 : Int32, x3 = nI k → ∀ (H : Heap) (locs : List Loc), va_P D vwCl ((zy_w cI r) ((zx_up (zx_up (zx_up s 31 (a 16 d)) 32 E9) 33 T9), a, z, (zp_ah (s 10) (z d)))) H → va_D A ((zy_w cI r) ((zx_up (zx_up (zx_up s 31 (a 16 d)) 32 E9) 33 T9), a, z, (zp_ah (s 10) (z d)))) → va_S A st.heap H locs → ∀ ls : Array Slot, lv_has ls 4 [(0, .ref (r 1)), (1, .int x1), (2, .int x2), (3, .int x3)] → W p l e rmX2_courseWithout st m args below meth c H locs 0 0 Q (F0 m 23 ls []) := by
    intro n_
    induction n_ with
    | zero => intros; omega
    | succ n_ ih_23 =>
      intro k E9 T9 hmu_23 hk9 gE gT
      intro x1 ex1; subst ex1
      intro x2 ex2; subst ex2
      intro x3 ex3; subst ex3
      intro H locs hP hD hS ls hl
      have hl : lv_has ls 4 [(0, .ref (r 1)), (1, .int (-1)), (2, .int (nI d)), (3, .int (nI k))] := hl
      refine lv_iload_n hx hb dX2_courseWithout_23 rfl (lv_at hl 3 rfl) ?_
      refine lv_aload_n hx hb dX2_courseWithout_24 rfl (lv_at hl 0 rfl) ?_
      refine va_get (D := D) (ci := 2) (v := .ref (r 10)) (C := RX2) (T := TX2) (N := 10) hx hb hts hi2 hown hK hP 0 rfl rfl 4 (by decide) k19 (fun _ h9 => h9) rfl dX2_courseWithout_25 ?_
      refine va_get (D := D) (ci := 1) (v := .int (nI (s 11))) (C := RX1) (T := TX1) (N := 9) hx hb hts hi1 hown hK hP 3 rfl rfl 1 (by decide) k94 (fun _ h9 => h9) rfl dX2_courseWithout_28 ?_
      refine zx_icmp_ge hx hb (tgt := 83) (by omega) (by omega) dX2_courseWithout_31 (by decide) (fun c_31 => ?_) (fun c_31 => ?_)
      · refine lv_aload_n hx hb dX2_courseWithout_83 rfl (lv_at hl 0 rfl) ?_
        refine va_get (D := D) (ci := 2) (v := .ref (r 30)) (C := RX2) (T := TX2) (N := 10) hx hb hts hi2 hown hK hP 0 rfl rfl 9 (by decide) k29 (fun _ h9 => h9) rfl dX2_courseWithout_84 ?_
        exact hret _ _ _ _ _ _ hP hD hS dX2_courseWithout_87 ⟨rfl, by rw [gE, gT, show k = s 11 by omega]; rfl⟩
      · refine lv_iload_n hx hb dX2_courseWithout_34 rfl (lv_at hl 3 rfl) ?_
        refine lv_iload_n hx hb dX2_courseWithout_35 rfl (lv_at hl 1 rfl) ?_
        refine lv_icmp_eq (tgt := 77) hx hb dX2_courseWithout_36 (by decide) (fun c_36 => ?_) (fun c_36 => ?_)
        · exact absurd c_36 (zx_nm1 (by omega))
        · refine lv_aload_n hx hb dX2_courseWithout_39 rfl (lv_at hl 0 rfl) ?_
          refine va_get (D := D) (ci := 2) (v := .ref (r 10)) (C := RX2) (T := TX2) (N := 10) hx hb hts hi2 hown hK hP 0 rfl rfl 4 (by decide) k19 (fun _ h9 => h9) rfl dX2_courseWithout_40 ?_
          refine va_get (D := D) (ci := 1) (v := .ref (r 14)) (C := RX1) (T := TX1) (N := 9) hx hb hts hi1 hown hK hP 3 rfl rfl 4 (by decide) k100 (fun _ h9 => h9) rfl dX2_courseWithout_43 ?_
          refine lv_iload_n hx hb dX2_courseWithout_46 rfl (lv_at hl 3 rfl) ?_
          refine zx_ald (f := a 14) (n := 6) hx hb hK hP 5 0 rfl rfl (by omega) (by decide) dX2_courseWithout_47 ?_
          refine lv_iload_n hx hb dX2_courseWithout_48 rfl (lv_at hl 2 rfl) ?_
          refine zx_icmp_ne hx hb (tgt := 77) (by have := (iP k (by omega)).2.1; omega) (by omega) dX2_courseWithout_49 (by decide) (fun c_49 => ?_) (fun c_49 => ?_)
          · refine lv_iinc (v := nI (k + 1)) (lv' := [(3, .int (nI (k + 1))), (0, .ref (r 1)), (1, .int (-1)), (2, .int (nI d))]) hx hb dX2_courseWithout_77 hl (k := 3) rfl (zx_inc _ _) (by decide) rfl (fun ls hl => ?_)
            refine lv_goto (tgt := 23) hx hb dX2_courseWithout_80 (by decide) ?_
            exact ih_23 (k + 1) E9 T9 (by omega) (by omega) (zy_orr0 gE (by simp [c_49])) (zy_orr0 gT (by simp [c_49])) _ rfl _ rfl _ rfl _ _ hP hD hS ls (lv_sub hl [1, 2, 3, 0] rfl)
          · refine lv_aload_n hx hb dX2_courseWithout_52 rfl (lv_at hl 0 rfl) ?_
            refine va_get (D := D) (ci := 2) (v := .ref (r 30)) (C := RX2) (T := TX2) (N := 10) hx hb hts hi2 hown hK hP 0 rfl rfl 9 (by decide) k29 (fun _ h9 => h9) rfl dX2_courseWithout_53 ?_
            refine lv_aload_n hx hb dX2_courseWithout_56 rfl (lv_at hl 0 rfl) ?_
            refine va_get (D := D) (ci := 2) (v := .ref (r 10)) (C := RX2) (T := TX2) (N := 10) hx hb hts hi2 hown hK hP 0 rfl rfl 4 (by decide) k19 (fun _ h9 => h9) rfl dX2_courseWithout_57 ?_
            refine va_get (D := D) (ci := 1) (v := .ref (r 13)) (C := RX1) (T := TX1) (N := 9) hx hb hts hi1 hown hK hP 3 rfl rfl 3 (by decide) k97 (fun _ h9 => h9) rfl dX2_courseWithout_60 ?_
            refine lv_iload_n hx hb dX2_courseWithout_63 rfl (lv_at hl 3 rfl) ?_
            refine zx_ald (f := a 13) (n := 6) hx hb hK hP 4 0 rfl rfl (by omega) (by decide) dX2_courseWithout_64 ?_
            refine lv_aload_n hx hb dX2_courseWithout_65 rfl (lv_at hl 0 rfl) ?_
            refine va_get (D := D) (ci := 2) (v := .ref (r 10)) (C := RX2) (T := TX2) (N := 10) hx hb hts hi2 hown hK hP 0 rfl rfl 4 (by decide) k19 (fun _ h9 => h9) rfl dX2_courseWithout_66 ?_
            refine va_get (D := D) (ci := 1) (v := .ref (r 15)) (C := RX1) (T := TX1) (N := 9) hx hb hts hi1 hown hK hP 3 rfl rfl 5 (by decide) k103 (fun _ h9 => h9) rfl dX2_courseWithout_69 ?_
            refine lv_iload_n hx hb dX2_courseWithout_72 rfl (lv_at hl 3 rfl) ?_
            refine zx_ald (f := a 15) (n := 6) hx hb hK hP 6 0 rfl rfl (by omega) (by decide) dX2_courseWithout_73 ?_
            refine zx_V_v (As := [.int (nI ((a 13) k)), .int (nI ((a 15) k))]) (rest := []) cf (c_X0_join l D cI cB r (zx_up (zx_up (zx_up s 31 (a 16 d)) 32 E9) 33 T9) a z (zp_ah (s 10) (z d)) ((a 13) k) ((a 15) k) (iP k (by omega)).1 (iP k (by omega)).2.2) (cwV 2 hts gX2_courseWithout_X0_join rfl rfl rfl ⟨rfl, hd_X0_join⟩ ⟨Nat.le_of_ble_eq_true rfl, Nat.le_of_ble_eq_true rfl⟩) hK hN hP hD hS hA 17 rfl rfl rfl hl.1 rfl (Nat.le_of_ble_eq_true rfl) dX2_courseWithout_74 ⟨Nat.zero_le _, Nat.zero_le _⟩ (fun v_74 u_74 H locs hq hP hD hS => ?_)
            subst hq
            refine lv_iinc (v := nI (k + 1)) (lv' := [(3, .int (nI (k + 1))), (0, .ref (r 1)), (1, .int (-1)), (2, .int (nI d))]) hx hb dX2_courseWithout_77 hl (k := 3) rfl (zx_inc _ _) (by decide) rfl (fun ls hl => ?_)
            refine lv_goto (tgt := 23) hx hb dX2_courseWithout_80 (by decide) ?_
            exact ih_23 (k + 1) (E9 ||| zp_E ((a 13) k) ((a 15) k)) (T9 ||| zp_T ((a 13) k) ((a 15) k)) (by omega) (by omega) (zy_orr1 gE (by simp [c_49, show k ≠ 99 by omega])) (zy_orr1 gT (by simp [c_49, show k ≠ 99 by omega])) _ rfl _ rfl _ rfl _ _ hP hD hS ls (lv_sub hl [1, 2, 3, 0] rfl)
  exact lp_23 _ 0 0 0 (Nat.lt_succ_self _) (Nat.zero_le _) rfl rfl _ rfl _ rfl _ rfl _ _ hP hD hS ls (lv_sub hl [1, 2, 3, 0] rfl)
set_option maxHeartbeats 4000000 in
set_option maxRecDepth 100000 in
theorem c_X2_cW_p (l : Launch) (D : va_G) (cI cB : ClassId) (r : Nat → Nat) (s : Nat → Nat) (a : Nat → Nat → Nat) (z : Nat → Int) (ah : Int) (e9 d : Nat) (hI : zy_I s a z) (hd : d < 9) (he : e9 < 6) : zx_C zx_ea l D (zm_t cI cB) (zy_w cI r) yX2_courseWithout wsX2_courseWithout rmX2_courseWithout [.ref (r 1), .int (nI e9), .int (nI d)] (s, a, z, ah) (fun v u' => v = r 30 ∧ u' = (zx_up (zx_up (zx_up s 31 (a 16 d)) 32 (zy_Em s a e9 d)) 33 (zy_Tm s a e9 d), a, z, zp_ah (s 10) (z d))) := by
  refine zx_of_a (cc := cX2_courseWithout) (maxL := 4) (by decide) rfl (Nat.le_of_ble_eq_true rfl) ?_
  intro p e st m args below meth c A Q H cf hK hN hP hD hS hA hret ls hl
  obtain ⟨hx, hb, hml, hown, hts⟩ := id cf
  have hi2 : ∀ w ∈ wsX20, w ∈ wsX2_courseWithout := fun w h => List.mem_cons_of_mem _ (List.mem_append_left _ (List.mem_append_left _ (List.mem_append_right _ h)))
  have hi1 : ∀ w ∈ wsX10, w ∈ wsX2_courseWithout := fun w h => List.mem_cons_of_mem _ (List.mem_append_left _ (List.mem_append_right _ h))
  have k29 := hts (.fieldLink RX2 29 "NineDrawers" "course" "LNineDrawers$Course;") (List.mem_of_getElem? (i := 1) (by decide +kernel))
  have k19 := hts (.fieldLink RX2 19 "NineDrawers" "hall" "LNineDrawers$Hall;") (List.mem_of_getElem? (i := 2) (by decide +kernel))
  have k72 := hts (.fieldLink RX2 72 "NineDrawers$Hall" "laidIn" "[I") (List.mem_of_getElem? (i := 3) (by decide +kernel))
  have k94 := hts (.fieldLink RX2 94 "NineDrawers$Hall" "people" "I") (List.mem_of_getElem? (i := 4) (by decide +kernel))
  have k100 := hts (.fieldLink RX2 100 "NineDrawers$Hall" "drawerOf" "[I") (List.mem_of_getElem? (i := 5) (by decide +kernel))
  have k97 := hts (.fieldLink RX2 97 "NineDrawers$Hall" "kindOf" "[I") (List.mem_of_getElem? (i := 6) (by decide +kernel))
  have k103 := hts (.fieldLink RX2 103 "NineDrawers$Hall" "ownDayOf" "[I") (List.mem_of_getElem? (i := 7) (by decide +kernel))
  have hl : lv_has ls 4 [(0, .ref (r 1)), (1, .int (nI e9)), (2, .int (nI d))] := hl
  have hP : va_P D vwCl ((zy_w cI r) (s, a, z, ah)) H := hP
  have hD : va_D A ((zy_w cI r) (s, a, z, ah)) := hD
  obtain ⟨⟨i1, i2, i5, i7, i8, i10, i11, i12⟩, ⟨i20, i21, i22⟩, iG, iP, iL, iZ, jP, jL⟩ := id hI
  refine lv_aload_n hx hb dX2_courseWithout_0 rfl (lv_at hl 0 rfl) ?_
  refine va_get (D := D) (ci := 2) (v := .ref (r 30)) (C := RX2) (T := TX2) (N := 10) hx hb hts hi2 hown hK hP 0 rfl rfl 9 (by decide) k29 (fun _ h9 => h9) rfl dX2_courseWithout_1 ?_
  refine lv_aload_n hx hb dX2_courseWithout_4 rfl (lv_at hl 0 rfl) ?_
  refine lv_iload_n hx hb dX2_courseWithout_5 rfl (lv_at hl 2 rfl) ?_
  refine zx_V_i (As := [.int (nI d)]) (rest := [.ref (r 30)]) cf (c_X2_aheadOf l D cI cB r s a z ah d hI (by omega)) (cwV 1 hts gX2_courseWithout_X2_aheadOf rfl rfl rfl ⟨rfl, hd_X2_aheadOf⟩ ⟨Nat.le_of_ble_eq_true rfl, Nat.le_of_ble_eq_true rfl⟩) hK hN hP hD hS hA 0 rfl rfl rfl hl.1 rfl (Nat.le_of_ble_eq_true rfl) dX2_courseWithout_6 ⟨Nat.zero_le _, Nat.zero_le _⟩ (fun v_6 u_6 H locs hq hP hD hS => ?_)
  obtain ⟨rfl, rfl⟩ := hq
  refine lv_aload_n hx hb dX2_courseWithout_9 rfl (lv_at hl 0 rfl) ?_
  refine va_get (D := D) (ci := 2) (v := .ref (r 10)) (C := RX2) (T := TX2) (N := 10) hx hb hts hi2 hown hK hP 0 rfl rfl 4 (by decide) k19 (fun _ h9 => h9) rfl dX2_courseWithout_10 ?_
  refine va_get (D := D) (ci := 1) (v := .ref (r 16)) (C := RX1) (T := TX1) (N := 9) hx hb hts hi1 hown hK hP 3 rfl rfl 6 (by decide) k72 (fun _ h9 => h9) rfl dX2_courseWithout_13 ?_
  refine lv_iload_n hx hb dX2_courseWithout_16 rfl (lv_at hl 2 rfl) ?_
  refine zx_ald (f := a 16) (n := 9) hx hb hK hP 7 0 rfl rfl (by omega) (by decide) dX2_courseWithout_17 ?_
  refine zx_V_v (As := [.int (zx_i (zp_ah (s 10) (z d))), .int (nI ((a 16) d))]) (rest := []) cf (c_X0_start l D cI cB r s a z ah (zp_ah (s 10) (z d)) ((a 16) d) ) (cwV 2 hts gX2_courseWithout_X0_start rfl rfl rfl ⟨rfl, hd_X0_start⟩ ⟨Nat.le_of_ble_eq_true rfl, Nat.le_of_ble_eq_true rfl⟩) hK hN hP hD hS hA 17 rfl rfl rfl hl.1 rfl (Nat.le_of_ble_eq_true rfl) dX2_courseWithout_18 ⟨Nat.zero_le _, Nat.zero_le _⟩ (fun v_18 u_18 H locs hq hP hD hS => ?_)
  subst hq
  refine lv_iconst (v := nI 0) hx hb dX2_courseWithout_21 (by decide) ?_
  refine lv_istore_n (lv' := [(3, .int (nI 0)), (0, .ref (r 1)), (1, .int (nI e9)), (2, .int (nI d))]) hx hb dX2_courseWithout_22 rfl hl (by decide) rfl (fun ls hl => ?_)
  have lp_23 : ∀ (n_ : Nat) (k : Nat) (E9 : Nat) (T9 : Nat), s 11 - k < n_ → (k ≤ s 11) → (E9 = zy_orr (fun p9 => !decide (p9 = e9) && decide (a 14 p9 = d)) (fun p9 => zp_E (a 13 p9) (a 15 p9)) k) → (T9 = zy_orr (fun p9 => !decide (p9 = e9) && decide (a 14 p9 = d)) (fun p9 => zp_T (a 13 p9) (a 15 p9)) k) → ∀ x1 : Int32, x1 = nI e9 → ∀ x2 : Int32, x2 = nI d → ∀ x3 : Int32, x3 = nI k → ∀ (H : Heap) (locs : List Loc), va_P D vwCl ((zy_w cI r) ((zx_up (zx_up (zx_up s 31 (a 16 d)) 32 E9) 33 T9), a, z, (zp_ah (s 10) (z d)))) H → va_D A ((zy_w cI r) ((zx_up (zx_up (zx_up s 31 (a 16 d)) 32 E9) 33 T9), a, z, (zp_ah (s 10) (z d)))) → va_S A st.heap H locs → ∀ ls : Array Slot, lv_has ls 4 [(0, .ref (r 1)), (1, .int x1), (2, .int x2), (3, .int x3)] → W p l e rmX2_courseWithout st m args below meth c H locs 0 0 Q (F0 m 23 ls []) := by
    intro n_
    induction n_ with
    | zero => intros; omega
    | succ n_ ih_23 =>
      intro k E9 T9 hmu_23 hk9 gE gT
      intro x1 ex1; subst ex1
      intro x2 ex2; subst ex2
      intro x3 ex3; subst ex3
      intro H locs hP hD hS ls hl
      have hl : lv_has ls 4 [(0, .ref (r 1)), (1, .int (nI e9)), (2, .int (nI d)), (3, .int (nI k))] := hl
      refine lv_iload_n hx hb dX2_courseWithout_23 rfl (lv_at hl 3 rfl) ?_
      refine lv_aload_n hx hb dX2_courseWithout_24 rfl (lv_at hl 0 rfl) ?_
      refine va_get (D := D) (ci := 2) (v := .ref (r 10)) (C := RX2) (T := TX2) (N := 10) hx hb hts hi2 hown hK hP 0 rfl rfl 4 (by decide) k19 (fun _ h9 => h9) rfl dX2_courseWithout_25 ?_
      refine va_get (D := D) (ci := 1) (v := .int (nI (s 11))) (C := RX1) (T := TX1) (N := 9) hx hb hts hi1 hown hK hP 3 rfl rfl 1 (by decide) k94 (fun _ h9 => h9) rfl dX2_courseWithout_28 ?_
      refine zx_icmp_ge hx hb (tgt := 83) (by omega) (by omega) dX2_courseWithout_31 (by decide) (fun c_31 => ?_) (fun c_31 => ?_)
      · refine lv_aload_n hx hb dX2_courseWithout_83 rfl (lv_at hl 0 rfl) ?_
        refine va_get (D := D) (ci := 2) (v := .ref (r 30)) (C := RX2) (T := TX2) (N := 10) hx hb hts hi2 hown hK hP 0 rfl rfl 9 (by decide) k29 (fun _ h9 => h9) rfl dX2_courseWithout_84 ?_
        exact hret _ _ _ _ _ _ hP hD hS dX2_courseWithout_87 ⟨rfl, by rw [gE, gT, show k = s 11 by omega]; rfl⟩
      · refine lv_iload_n hx hb dX2_courseWithout_34 rfl (lv_at hl 3 rfl) ?_
        refine lv_iload_n hx hb dX2_courseWithout_35 rfl (lv_at hl 1 rfl) ?_
        refine zx_icmp_eq hx hb (tgt := 77) (by omega) (by omega) dX2_courseWithout_36 (by decide) (fun c_36 => ?_) (fun c_36 => ?_)
        · refine lv_iinc (v := nI (k + 1)) (lv' := [(3, .int (nI (k + 1))), (0, .ref (r 1)), (1, .int (nI e9)), (2, .int (nI d))]) hx hb dX2_courseWithout_77 hl (k := 3) rfl (zx_inc _ _) (by decide) rfl (fun ls hl => ?_)
          refine lv_goto (tgt := 23) hx hb dX2_courseWithout_80 (by decide) ?_
          exact ih_23 (k + 1) E9 T9 (by omega) (by omega) (zy_orr0 gE (by simp [c_36])) (zy_orr0 gT (by simp [c_36])) _ rfl _ rfl _ rfl _ _ hP hD hS ls (lv_sub hl [1, 2, 3, 0] rfl)
        · refine lv_aload_n hx hb dX2_courseWithout_39 rfl (lv_at hl 0 rfl) ?_
          refine va_get (D := D) (ci := 2) (v := .ref (r 10)) (C := RX2) (T := TX2) (N := 10) hx hb hts hi2 hown hK hP 0 rfl rfl 4 (by decide) k19 (fun _ h9 => h9) rfl dX2_courseWithout_40 ?_
          refine va_get (D := D) (ci := 1) (v := .ref (r 14)) (C := RX1) (T := TX1) (N := 9) hx hb hts hi1 hown hK hP 3 rfl rfl 4 (by decide) k100 (fun _ h9 => h9) rfl dX2_courseWithout_43 ?_
          refine lv_iload_n hx hb dX2_courseWithout_46 rfl (lv_at hl 3 rfl) ?_
          refine zx_ald (f := a 14) (n := 6) hx hb hK hP 5 0 rfl rfl (by omega) (by decide) dX2_courseWithout_47 ?_
          refine lv_iload_n hx hb dX2_courseWithout_48 rfl (lv_at hl 2 rfl) ?_
          refine zx_icmp_ne hx hb (tgt := 77) (by have := (iP k (by omega)).2.1; omega) (by omega) dX2_courseWithout_49 (by decide) (fun c_49 => ?_) (fun c_49 => ?_)
          · refine lv_iinc (v := nI (k + 1)) (lv' := [(3, .int (nI (k + 1))), (0, .ref (r 1)), (1, .int (nI e9)), (2, .int (nI d))]) hx hb dX2_courseWithout_77 hl (k := 3) rfl (zx_inc _ _) (by decide) rfl (fun ls hl => ?_)
            refine lv_goto (tgt := 23) hx hb dX2_courseWithout_80 (by decide) ?_
            exact ih_23 (k + 1) E9 T9 (by omega) (by omega) (zy_orr0 gE (by simp [c_49])) (zy_orr0 gT (by simp [c_49])) _ rfl _ rfl _ rfl _ _ hP hD hS ls (lv_sub hl [1, 2, 3, 0] rfl)
          · refine lv_aload_n hx hb dX2_courseWithout_52 rfl (lv_at hl 0 rfl) ?_
            refine va_get (D := D) (ci := 2) (v := .ref (r 30)) (C := RX2) (T := TX2) (N := 10) hx hb hts hi2 hown hK hP 0 rfl rfl 9 (by decide) k29 (fun _ h9 => h9) rfl dX2_courseWithout_53 ?_
            refine lv_aload_n hx hb dX2_courseWithout_56 rfl (lv_at hl 0 rfl) ?_
            refine va_get (D := D) (ci := 2) (v := .ref (r 10)) (C := RX2) (T := TX2) (N := 10) hx hb hts hi2 hown hK hP 0 rfl rfl 4 (by decide) k19 (fun _ h9 => h9) rfl dX2_courseWithout_57 ?_
            refine va_get (D := D) (ci := 1) (v := .ref (r 13)) (C := RX1) (T := TX1) (N := 9) hx hb hts hi1 hown hK hP 3 rfl rfl 3 (by decide) k97 (fun _ h9 => h9) rfl dX2_courseWithout_60 ?_
            refine lv_iload_n hx hb dX2_courseWithout_63 rfl (lv_at hl 3 rfl) ?_
            refine zx_ald (f := a 13) (n := 6) hx hb hK hP 4 0 rfl rfl (by omega) (by decide) dX2_courseWithout_64 ?_
            refine lv_aload_n hx hb dX2_courseWithout_65 rfl (lv_at hl 0 rfl) ?_
            refine va_get (D := D) (ci := 2) (v := .ref (r 10)) (C := RX2) (T := TX2) (N := 10) hx hb hts hi2 hown hK hP 0 rfl rfl 4 (by decide) k19 (fun _ h9 => h9) rfl dX2_courseWithout_66 ?_
            refine va_get (D := D) (ci := 1) (v := .ref (r 15)) (C := RX1) (T := TX1) (N := 9) hx hb hts hi1 hown hK hP 3 rfl rfl 5 (by decide) k103 (fun _ h9 => h9) rfl dX2_courseWithout_69 ?_
            refine lv_iload_n hx hb dX2_courseWithout_72 rfl (lv_at hl 3 rfl) ?_
            refine zx_ald (f := a 15) (n := 6) hx hb hK hP 6 0 rfl rfl (by omega) (by decide) dX2_courseWithout_73 ?_
            refine zx_V_v (As := [.int (nI ((a 13) k)), .int (nI ((a 15) k))]) (rest := []) cf (c_X0_join l D cI cB r (zx_up (zx_up (zx_up s 31 (a 16 d)) 32 E9) 33 T9) a z (zp_ah (s 10) (z d)) ((a 13) k) ((a 15) k) (iP k (by omega)).1 (iP k (by omega)).2.2) (cwV 2 hts gX2_courseWithout_X0_join rfl rfl rfl ⟨rfl, hd_X0_join⟩ ⟨Nat.le_of_ble_eq_true rfl, Nat.le_of_ble_eq_true rfl⟩) hK hN hP hD hS hA 17 rfl rfl rfl hl.1 rfl (Nat.le_of_ble_eq_true rfl) dX2_courseWithout_74 ⟨Nat.zero_le _, Nat.zero_le _⟩ (fun v_74 u_74 H locs hq hP hD hS => ?_)
            subst hq
            refine lv_iinc (v := nI (k + 1)) (lv' := [(3, .int (nI (k + 1))), (0, .ref (r 1)), (1, .int (nI e9)), (2, .int (nI d))]) hx hb dX2_courseWithout_77 hl (k := 3) rfl (zx_inc _ _) (by decide) rfl (fun ls hl => ?_)
            refine lv_goto (tgt := 23) hx hb dX2_courseWithout_80 (by decide) ?_
            exact ih_23 (k + 1) (E9 ||| zp_E ((a 13) k) ((a 15) k)) (T9 ||| zp_T ((a 13) k) ((a 15) k)) (by omega) (by omega) (zy_orr1 gE (by simp [c_36, c_49])) (zy_orr1 gT (by simp [c_36, c_49])) _ rfl _ rfl _ rfl _ _ hP hD hS ls (lv_sub hl [1, 2, 3, 0] rfl)
  exact lp_23 _ 0 0 0 (Nat.lt_succ_self _) (Nat.zero_le _) rfl rfl _ rfl _ rfl _ rfl _ _ hP hD hS ls (lv_sub hl [1, 2, 3, 0] rfl)
set_option maxHeartbeats 4000000 in
set_option maxRecDepth 100000 in
theorem c_X2_courseOf (l : Launch) (D : va_G) (cI cB : ClassId) (r : Nat → Nat) (s : Nat → Nat) (a : Nat → Nat → Nat) (z : Nat → Int) (ah : Int) (d : Nat) (hI : zy_I s a z) (hd : d < 9) : zx_C zx_ea l D (zm_t cI cB) (zy_w cI r) yX2_courseOf wsX2_courseOf rmX2_courseOf [.ref (r 1), .int (nI d)] (s, a, z, ah) (fun v u' => v = r 30 ∧ ∃ y9 : Nat → Nat, u' = (y9, a, z, zp_ah (s 10) (z d)) ∧ (∀ k, k < 31 → y9 k = s k) ∧ y9 34 = zy_h (zy_F s a z 99 d) (zp_ah (s 10) (z d)) ∧ y9 35 = zy_l (zy_F s a z 99 d) (zp_ah (s 10) (z d)) ∧ y9 36 = zy_s (zy_F s a z 99 d) (zp_ah (s 10) (z d))) := by
  refine zx_of_a (cc := cX2_courseOf) (maxL := 3) (by decide) rfl (Nat.le_of_ble_eq_true rfl) ?_
  intro p e st m args below meth c A Q H cf hK hN hP hD hS hA hret ls hl
  obtain ⟨hx, hb, hml, hown, hts⟩ := id cf
  have hl : lv_has ls 3 [(0, .ref (r 1)), (1, .int (nI d))] := hl
  have hP : va_P D vwCl ((zy_w cI r) (s, a, z, ah)) H := hP
  have hD : va_D A ((zy_w cI r) (s, a, z, ah)) := hD
  obtain ⟨⟨i1, i2, i5, i7, i8, i10, i11, i12⟩, ⟨i20, i21, i22⟩, iG, iP, iL, iZ, jP, jL⟩ := id hI
  refine lv_aload_n hx hb dX2_courseOf_0 rfl (lv_at hl 0 rfl) ?_
  refine lv_iconst (v := (-1)) hx hb dX2_courseOf_1 (by decide) ?_
  refine lv_iload_n hx hb dX2_courseOf_2 rfl (lv_at hl 1 rfl) ?_
  refine zx_V_a (As := [.int (-1), .int (nI d)]) (rest := []) cf (c_X2_cW_n l D cI cB r s a z ah 0 d hI (by omega)) (cwV 2 hts gX2_courseOf_X2_courseWithout rfl rfl rfl ⟨rfl, hd_X2_courseWithout⟩ ⟨Nat.le_of_ble_eq_true rfl, Nat.le_of_ble_eq_true rfl⟩) hK hN hP hD hS hA 0 rfl rfl rfl hl.1 rfl (Nat.le_of_ble_eq_true rfl) dX2_courseOf_3 ⟨Nat.zero_le _, Nat.zero_le _⟩ (fun v_3 u_3 H locs hq hP hD hS => ?_)
  obtain ⟨rfl, rfl⟩ := hq
  refine lv_astore_n (lv' := [(2, .ref (r 30)), (0, .ref (r 1)), (1, .int (nI d))]) hx hb dX2_courseOf_6 rfl hl (by decide) rfl (fun ls hl => ?_)
  refine lv_aload_n hx hb dX2_courseOf_7 rfl (lv_at hl 0 rfl) ?_
  refine zx_V_v (As := []) (rest := []) cf (c_X0_settle l D cI cB r (zx_up (zx_up (zx_up s 31 (a 16 d)) 32 (zy_Em s a 99 d)) 33 (zy_Tm s a 99 d)) a z (zp_ah (s 10) (z d))  (zy_Em_lt _ _ _ _) (zy_Tm_lt _ _ _ _) (iL d (by omega)).1 (zp_ah_rng i10 (iZ d hd))) (cwV 0 hts gX2_courseOf_X0_settle rfl rfl rfl ⟨rfl, hd_X0_settle⟩ ⟨Nat.le_of_ble_eq_true rfl, Nat.le_of_ble_eq_true rfl⟩) hK hN hP hD hS hA 17 rfl rfl rfl hl.1 rfl (Nat.le_of_ble_eq_true rfl) dX2_courseOf_8 ⟨Nat.zero_le _, Nat.zero_le _⟩ (fun v_8 u_8 H locs hq hP hD hS => ?_)
  subst hq
  refine lv_aload_n hx hb dX2_courseOf_11 rfl (lv_at hl 0 rfl) ?_
  exact hret _ _ _ _ _ _ hP hD hS dX2_courseOf_12 ⟨rfl, _, rfl, fun k hk => by rw [zx_up_ne _ _ (by omega), zx_up_ne _ _ (by omega), zx_up_ne _ _ (by omega), zx_up_ne _ _ (by omega), zx_up_ne _ _ (by omega), zx_up_ne _ _ (by omega)], rfl, rfl, rfl⟩
set_option maxHeartbeats 4000000 in
set_option maxRecDepth 100000 in
theorem c_X2_isAsFound (l : Launch) (D : va_G) (cI cB : ClassId) (r : Nat → Nat) (s : Nat → Nat) (a : Nat → Nat → Nat) (z : Nat → Int) (ah : Int) (d : Nat) (hI : zy_I s a z) (hd : d < 9) (h4 : s 34 < 128) (h5 : s 35 < 128) (h6 : s 36 < 128) : zx_C zx_ei l D (zm_t cI cB) (zy_w cI r) yX2_isAsFound wsX2_isAsFound rmX2_isAsFound [.ref (r 1), .ref (r 30), .int (nI d)] (s, a, z, ah) (fun v u' => v = zx_b (zy_al (s 34) (s 35) (s 36) (a 17 d) (a 18 d)) ∧ u' = (s, a, z, ah)) := by
  refine zx_of_z (cc := cX2_isAsFound) (maxL := 3) (by decide) rfl (Nat.le_of_ble_eq_true rfl) ?_
  intro p e st m args below meth c A Q H cf hK hN hP hD hS hA hret ls hl
  obtain ⟨hx, hb, hml, hown, hts⟩ := id cf
  have hi2 : ∀ w ∈ wsX20, w ∈ wsX2_isAsFound := fun w h => List.mem_cons_of_mem _ (List.mem_append_left _ (List.mem_append_left _ (List.mem_append_right _ h)))
  have hi1 : ∀ w ∈ wsX10, w ∈ wsX2_isAsFound := fun w h => List.mem_cons_of_mem _ (List.mem_append_left _ (List.mem_append_right _ h))
  have k19 := hts (.fieldLink RX2 19 "NineDrawers" "hall" "LNineDrawers$Hall;") (List.mem_of_getElem? (i := 1) (by decide +kernel))
  have k148 := hts (.fieldLink RX2 148 "NineDrawers$Hall" "foundThere" "[I") (List.mem_of_getElem? (i := 2) (by decide +kernel))
  have k151 := hts (.fieldLink RX2 151 "NineDrawers$Hall" "foundEmpty" "[I") (List.mem_of_getElem? (i := 3) (by decide +kernel))
  have hl : lv_has ls 3 [(0, .ref (r 1)), (1, .ref (r 30)), (2, .int (nI d))] := hl
  have hP : va_P D vwCl ((zy_w cI r) (s, a, z, ah)) H := hP
  have hD : va_D A ((zy_w cI r) (s, a, z, ah)) := hD
  obtain ⟨⟨i1, i2, i5, i7, i8, i10, i11, i12⟩, ⟨i20, i21, i22⟩, iG, iP, iL, iZ, jP, jL⟩ := id hI
  refine lv_aload_n hx hb dX2_isAsFound_0 rfl (lv_at hl 1 rfl) ?_
  refine lv_aload_n hx hb dX2_isAsFound_1 rfl (lv_at hl 0 rfl) ?_
  refine va_get (D := D) (ci := 2) (v := .ref (r 10)) (C := RX2) (T := TX2) (N := 10) hx hb hts hi2 hown hK hP 0 rfl rfl 4 (by decide) k19 (fun _ h9 => h9) rfl dX2_isAsFound_2 ?_
  refine va_get (D := D) (ci := 1) (v := .ref (r 17)) (C := RX1) (T := TX1) (N := 9) hx hb hts hi1 hown hK hP 3 rfl rfl 7 (by decide) k148 (fun _ h9 => h9) rfl dX2_isAsFound_5 ?_
  refine lv_iload_n hx hb dX2_isAsFound_8 rfl (lv_at hl 2 rfl) ?_
  refine zx_ald (f := a 17) (n := 9) hx hb hK hP 8 0 rfl rfl (by omega) (by decide) dX2_isAsFound_9 ?_
  refine lv_aload_n hx hb dX2_isAsFound_10 rfl (lv_at hl 0 rfl) ?_
  refine va_get (D := D) (ci := 2) (v := .ref (r 10)) (C := RX2) (T := TX2) (N := 10) hx hb hts hi2 hown hK hP 0 rfl rfl 4 (by decide) k19 (fun _ h9 => h9) rfl dX2_isAsFound_11 ?_
  refine va_get (D := D) (ci := 1) (v := .ref (r 18)) (C := RX1) (T := TX1) (N := 9) hx hb hts hi1 hown hK hP 3 rfl rfl 8 (by decide) k151 (fun _ h9 => h9) rfl dX2_isAsFound_14 ?_
  refine lv_iload_n hx hb dX2_isAsFound_17 rfl (lv_at hl 2 rfl) ?_
  refine zx_ald (f := a 18) (n := 9) hx hb hK hP 9 0 rfl rfl (by omega) (by decide) dX2_isAsFound_18 ?_
  refine zx_V_i (As := [.int (nI ((a 17) d)), .int (nI ((a 18) d))]) (rest := []) cf (c_X0_allows l D cI cB r s a z ah ((a 17) d) ((a 18) d) h4 h5 h6 (iL d hd).2.1 (iL d hd).2.2) (cwV 2 hts gX2_isAsFound_X0_allows rfl rfl rfl ⟨rfl, hd_X0_allows⟩ ⟨Nat.le_of_ble_eq_true rfl, Nat.le_of_ble_eq_true rfl⟩) hK hN hP hD hS hA 17 rfl rfl rfl hl.1 rfl (Nat.le_of_ble_eq_true rfl) dX2_isAsFound_19 ⟨Nat.zero_le _, Nat.zero_le _⟩ (fun v_19 u_19 H locs hq hP hD hS => ?_)
  obtain ⟨rfl, rfl⟩ := hq
  exact hret _ _ _ _ _ _ hP hD hS dX2_isAsFound_22 (zx_nar _) ⟨rfl, rfl⟩
set_option maxHeartbeats 4000000 in
set_option maxRecDepth 100000 in
theorem c_X2_canBe (l : Launch) (D : va_G) (cI cB : ClassId) (r : Nat → Nat) (s : Nat → Nat) (a : Nat → Nat → Nat) (z : Nat → Int) (ah : Int) (p9 K o : Nat) (hI : zy_I s a z) (hp9 : p9 < 6) (hK0 : K < 5) (ho : o < 7) : zx_C zx_ei l D (zm_t cI cB) (zy_w cI r) yX2_canBe wsX2_canBe rmX2_canBe [.ref (r 1), .int (nI p9), .int (nI K), .int (nI o)] (s, a, z, ah) (fun v u' => v = zx_b (zy_can s a z p9 K o) ∧ ∃ (y9 : Nat → Nat) (w9 : Int), u' = (y9, a, z, w9) ∧ ∀ k, k < 31 → y9 k = s k) := by
  refine zx_of_z (cc := cX2_canBe) (maxL := 6) (by decide) rfl (Nat.le_of_ble_eq_true rfl) ?_
  intro p e st m args below meth c A Q H cf hK hN hP hD hS hA hret ls hl
  obtain ⟨hx, hb, hml, hown, hts⟩ := id cf
  have hi2 : ∀ w ∈ wsX20, w ∈ wsX2_canBe := fun w h => List.mem_cons_of_mem _ (List.mem_append_left _ (List.mem_append_left _ (List.mem_append_right _ h)))
  have hi1 : ∀ w ∈ wsX10, w ∈ wsX2_canBe := fun w h => List.mem_cons_of_mem _ (List.mem_append_left _ (List.mem_append_right _ h))
  have k19 := hts (.fieldLink RX2 19 "NineDrawers" "hall" "LNineDrawers$Hall;") (List.mem_of_getElem? (i := 1) (by decide +kernel))
  have k100 := hts (.fieldLink RX2 100 "NineDrawers$Hall" "drawerOf" "[I") (List.mem_of_getElem? (i := 2) (by decide +kernel))
  have hl : lv_has ls 6 [(0, .ref (r 1)), (1, .int (nI p9)), (2, .int (nI K)), (3, .int (nI o))] := hl
  have hP : va_P D vwCl ((zy_w cI r) (s, a, z, ah)) H := hP
  have hD : va_D A ((zy_w cI r) (s, a, z, ah)) := hD
  obtain ⟨⟨i1, i2, i5, i7, i8, i10, i11, i12⟩, ⟨i20, i21, i22⟩, iG, iP, iL, iZ, jP, jL⟩ := id hI
  have hd9 := (iP p9 hp9).2.1
  refine lv_aload_n hx hb dX2_canBe_0 rfl (lv_at hl 0 rfl) ?_
  refine va_get (D := D) (ci := 2) (v := .ref (r 10)) (C := RX2) (T := TX2) (N := 10) hx hb hts hi2 hown hK hP 0 rfl rfl 4 (by decide) k19 (fun _ h9 => h9) rfl dX2_canBe_1 ?_
  refine va_get (D := D) (ci := 1) (v := .ref (r 14)) (C := RX1) (T := TX1) (N := 9) hx hb hts hi1 hown hK hP 3 rfl rfl 4 (by decide) k100 (fun _ h9 => h9) rfl dX2_canBe_4 ?_
  refine lv_iload_n hx hb dX2_canBe_7 rfl (lv_at hl 1 rfl) ?_
  refine zx_ald (f := a 14) (n := 6) hx hb hK hP 5 0 rfl rfl (by omega) (by decide) dX2_canBe_8 ?_
  refine lv_istore (lv' := [(4, .int (nI ((a 14) p9))), (0, .ref (r 1)), (1, .int (nI p9)), (2, .int (nI K)), (3, .int (nI o))]) hx hb dX2_canBe_9 hl (by decide) rfl (fun ls hl => ?_)
  refine lv_aload_n hx hb dX2_canBe_11 rfl (lv_at hl 1 rfl) ?_
  refine lv_iload_n hx hb dX2_canBe_12 rfl (lv_at hl 2 rfl) ?_
  refine lv_iload hx hb dX2_canBe_13 (lv_at hl 0 rfl) ?_
  refine zx_V_a (As := [.int (nI p9), .int (nI ((a 14) p9))]) (rest := []) cf (c_X2_cW_p l D cI cB r s a z ah p9 ((a 14) p9) hI hd9 hp9) (cwV 2 hts gX2_canBe_X2_courseWithout rfl rfl rfl ⟨rfl, hd_X2_courseWithout⟩ ⟨Nat.le_of_ble_eq_true rfl, Nat.le_of_ble_eq_true rfl⟩) hK hN hP hD hS hA 0 rfl rfl rfl hl.1 rfl (Nat.le_of_ble_eq_true rfl) dX2_canBe_15 ⟨Nat.zero_le _, Nat.zero_le _⟩ (fun v_15 u_15 H locs hq hP hD hS => ?_)
  obtain ⟨rfl, rfl⟩ := hq
  refine lv_astore (lv' := [(5, .ref (r 30)), (4, .int (nI ((a 14) p9))), (0, .ref (r 1)), (1, .int (nI p9)), (2, .int (nI K)), (3, .int (nI o))]) hx hb dX2_canBe_18 hl (by decide) rfl (fun ls hl => ?_)
  refine lv_aload hx hb dX2_canBe_20 (lv_at hl 0 rfl) ?_
  refine lv_iload_n hx hb dX2_canBe_22 rfl (lv_at hl 4 rfl) ?_
  refine lv_iload_n hx hb dX2_canBe_23 rfl (lv_at hl 5 rfl) ?_
  refine zx_V_v (As := [.int (nI K), .int (nI o)]) (rest := []) cf (c_X0_join l D cI cB r (zx_up (zx_up (zx_up s 31 (a 16 ((a 14) p9))) 32 (zy_Em s a p9 ((a 14) p9))) 33 (zy_Tm s a p9 ((a 14) p9))) a z (zp_ah (s 10) (z ((a 14) p9))) K o (by omega) (by omega)) (cwV 2 hts gX2_canBe_X0_join rfl rfl rfl ⟨rfl, hd_X0_join⟩ ⟨Nat.le_of_ble_eq_true rfl, Nat.le_of_ble_eq_true rfl⟩) hK hN hP hD hS hA 17 rfl rfl rfl hl.1 rfl (Nat.le_of_ble_eq_true rfl) dX2_canBe_24 ⟨Nat.zero_le _, Nat.zero_le _⟩ (fun v_24 u_24 H locs hq hP hD hS => ?_)
  subst hq
  refine lv_aload hx hb dX2_canBe_27 (lv_at hl 0 rfl) ?_
  refine zx_V_v (As := []) (rest := []) cf (c_X0_settle l D cI cB r (zx_up (zx_up (zx_up s 31 (a 16 ((a 14) p9))) 32 ((zy_Em s a p9 ((a 14) p9)) ||| zp_E K o)) 33 ((zy_Tm s a p9 ((a 14) p9)) ||| zp_T K o)) a z (zp_ah (s 10) (z ((a 14) p9)))  (zy_or_lt (zy_Em_lt _ _ _ _) (zp_E_lt _ _)) (zy_or_lt (zy_Tm_lt _ _ _ _) (zp_T_lt _ _)) (iL _ hd9).1 (zp_ah_rng i10 (iZ _ hd9))) (cwV 0 hts gX2_canBe_X0_settle rfl rfl rfl ⟨rfl, hd_X0_settle⟩ ⟨Nat.le_of_ble_eq_true rfl, Nat.le_of_ble_eq_true rfl⟩) hK hN hP hD hS hA 17 rfl rfl rfl hl.1 rfl (Nat.le_of_ble_eq_true rfl) dX2_canBe_29 ⟨Nat.zero_le _, Nat.zero_le _⟩ (fun v_29 u_29 H locs hq hP hD hS => ?_)
  subst hq
  refine lv_aload_n hx hb dX2_canBe_32 rfl (lv_at hl 2 rfl) ?_
  refine lv_aload hx hb dX2_canBe_33 (lv_at hl 0 rfl) ?_
  refine lv_iload hx hb dX2_canBe_35 (lv_at hl 1 rfl) ?_
  refine zx_V_i (As := [.ref (r 30), .int (nI ((a 14) p9))]) (rest := []) cf (c_X2_isAsFound l D cI cB r (zx_up (zx_up (zx_up (zx_up (zx_up (zx_up s 31 (a 16 ((a 14) p9))) 32 ((zy_Em s a p9 ((a 14) p9)) ||| zp_E K o)) 33 ((zy_Tm s a p9 ((a 14) p9)) ||| zp_T K o)) 34 (zy_h (zy_f (((zy_Em s a p9 ((a 14) p9)) ||| zp_E K o)) (((zy_Tm s a p9 ((a 14) p9)) ||| zp_T K o)) (a 16 ((a 14) p9)) (zp_ah (s 10) (z ((a 14) p9)))) (zp_ah (s 10) (z ((a 14) p9))))) 35 (zy_l (zy_f (((zy_Em s a p9 ((a 14) p9)) ||| zp_E K o)) (((zy_Tm s a p9 ((a 14) p9)) ||| zp_T K o)) (a 16 ((a 14) p9)) (zp_ah (s 10) (z ((a 14) p9)))) (zp_ah (s 10) (z ((a 14) p9))))) 36 (zy_s (zy_f (((zy_Em s a p9 ((a 14) p9)) ||| zp_E K o)) (((zy_Tm s a p9 ((a 14) p9)) ||| zp_T K o)) (a 16 ((a 14) p9)) (zp_ah (s 10) (z ((a 14) p9)))) (zp_ah (s 10) (z ((a 14) p9))))) a z (zp_ah (s 10) (z ((a 14) p9))) ((a 14) p9) hI hd9 (zy_hls _ _ _ _).1 (zy_hls _ _ _ _).2.1 (zy_hls _ _ _ _).2.2) (cwV 2 hts gX2_canBe_X2_isAsFound rfl rfl rfl ⟨rfl, hd_X2_isAsFound⟩ ⟨Nat.le_of_ble_eq_true rfl, Nat.le_of_ble_eq_true rfl⟩) hK hN hP hD hS hA 0 rfl rfl rfl hl.1 rfl (Nat.le_of_ble_eq_true rfl) dX2_canBe_37 ⟨Nat.zero_le _, Nat.zero_le _⟩ (fun v_37 u_37 H locs hq hP hD hS => ?_)
  obtain ⟨rfl, rfl⟩ := hq
  exact hret _ _ _ _ _ _ hP hD hS dX2_canBe_40 (zx_nar _) ⟨rfl, _, _, rfl, fun k hk => by rw [zx_up_ne _ _ (by omega), zx_up_ne _ _ (by omega), zx_up_ne _ _ (by omega), zx_up_ne _ _ (by omega), zx_up_ne _ _ (by omega), zx_up_ne _ _ (by omega)]⟩
set_option maxHeartbeats 4000000 in
set_option maxRecDepth 100000 in
theorem c_X2_drawer (l : Launch) (D : va_G) (cI cB : ClassId) (r : Nat → Nat) (s : Nat → Nat) (a : Nat → Nat → Nat) (z : Nat → Int) (ah : Int) (x y : Int32) (hI : zy_I s a z) : zx_C zx_ei l D (zm_t cI cB) (zy_w cI r) yX2_drawer wsX2_drawer rmX2_drawer [.ref (r 1), .int x, .int y] (s, a, z, ah) (fun v u' => v = zs_dq 6 (zd_drw (s 2) x) y (zy_dn s a z) ∧ ∃ (y9 : Nat → Nat) (w9 : Int), u' = (y9, a, z, w9) ∧ ∀ k, k < 31 → y9 k = s k) := by
  refine zx_of_i (cc := cX2_drawer) (maxL := 3) (by decide) rfl (Nat.le_of_ble_eq_true rfl) ?_
  intro p e st m args below meth c A Q H cf hK hN hP hD hS hA hret ls hl
  obtain ⟨hx, hb, hml, hown, hts⟩ := id cf
  have hi2 : ∀ w ∈ wsX20, w ∈ wsX2_drawer := fun w h => List.mem_cons_of_mem _ (List.mem_append_left _ (List.mem_append_left _ (List.mem_append_right _ h)))
  have hi1 : ∀ w ∈ wsX10, w ∈ wsX2_drawer := fun w h => List.mem_cons_of_mem _ (List.mem_append_left _ (List.mem_append_right _ h))
  have k13 := hts (.fieldLink RX2 13 "NineDrawers" "delayOf" "[I") (List.mem_of_getElem? (i := 1) (by decide +kernel))
  have k19 := hts (.fieldLink RX2 19 "NineDrawers" "hall" "LNineDrawers$Hall;") (List.mem_of_getElem? (i := 2) (by decide +kernel))
  have k72 := hts (.fieldLink RX2 72 "NineDrawers$Hall" "laidIn" "[I") (List.mem_of_getElem? (i := 3) (by decide +kernel))
  have hl : lv_has ls 3 [(0, .ref (r 1)), (1, .int x), (2, .int y)] := hl
  have hP : va_P D vwCl ((zy_w cI r) (s, a, z, ah)) H := hP
  have hD : va_D A ((zy_w cI r) (s, a, z, ah)) := hD
  obtain ⟨⟨i1, i2, i5, i7, i8, i10, i11, i12⟩, ⟨i20, i21, i22⟩, iG, iP, iL, iZ, jP, jL⟩ := id hI
  refine lv_aload_n hx hb dX2_drawer_0 rfl (lv_at hl 0 rfl) ?_
  refine lv_iload_n hx hb dX2_drawer_1 rfl (lv_at hl 1 rfl) ?_
  refine zx_V_i (As := [.int x]) (rest := []) cf (c_X2_isDrawer l D cI cB r s a z ah x hI) (cwV 1 hts gX2_drawer_X2_isDrawer rfl rfl rfl ⟨rfl, hd_X2_isDrawer⟩ ⟨Nat.le_of_ble_eq_true rfl, Nat.le_of_ble_eq_true rfl⟩) hK hN hP hD hS hA 0 rfl rfl rfl hl.1 rfl (Nat.le_of_ble_eq_true rfl) dX2_drawer_2 ⟨Nat.zero_le _, Nat.zero_le _⟩ (fun v_2 u_2 H locs hq hP hD hS => ?_)
  obtain ⟨rfl, rfl⟩ := hq
  refine zx_bf_ne hx hb (tgt := 11) dX2_drawer_5 (by decide) (fun c_5 => ?_) (fun c_5 => ?_)
  · obtain ⟨d, hz⟩ := zd_some c_5
    obtain ⟨rfl, hd, hc9⟩ := zd_drw_some hz
    refine lv_iload_n hx hb dX2_drawer_11 rfl (lv_at hl 2 rfl) ?_
    by_cases c_12_0 : y = nI 0
    · refine lv_tableIn (off := 44) (tgt := 56) hx hb dX2_drawer_12 (by rw [c_12_0]; decide) (by rw [c_12_0]; decide) (by rw [c_12_0]; rfl) (by decide) ?_
      refine lv_aload_n hx hb dX2_drawer_56 rfl (lv_at hl 0 rfl) ?_
      refine va_get (D := D) (ci := 2) (v := .ref (r 3)) (C := RX2) (T := TX2) (N := 10) hx hb hts hi2 hown hK hP 0 rfl rfl 3 (by decide) k13 (fun _ h9 => h9) rfl dX2_drawer_57 ?_
      refine lv_iload_n hx hb dX2_drawer_60 rfl (lv_at hl 1 rfl) ?_
      refine zx_aldI (f := z) (n := 9) hx hb hK hP 2 0 rfl rfl (by omega) (by decide) dX2_drawer_61 ?_
      refine lv_bipush (v := nI 10) hx hb dX2_drawer_62 (by decide) ?_
      refine lv_iadd hx hb dX2_drawer_64 ?_
      refine zx_topi (y := (zx_i (z d) + nI 10)) (rfl) ?_
      exact hret _ _ _ _ _ _ hP hD hS dX2_drawer_65 ⟨by rw [hz, c_12_0, zs_dqi (q := 0) (zd_rng_i (by decide) (by decide) (by decide))]; exact zy_dn0.symm, s, ah, rfl, fun _ _ => rfl⟩
    by_cases c_12_1 : y = nI 1
    · refine lv_tableIn (off := 54) (tgt := 66) hx hb dX2_drawer_12 (by rw [c_12_1]; decide) (by rw [c_12_1]; decide) (by rw [c_12_1]; rfl) (by decide) ?_
      refine lv_aload_n hx hb dX2_drawer_66 rfl (lv_at hl 0 rfl) ?_
      refine lv_iload_n hx hb dX2_drawer_67 rfl (lv_at hl 1 rfl) ?_
      refine zx_V_i (As := [.int (nI d)]) (rest := []) cf (c_X2_aheadOf l D cI cB r s a z ah d hI (by omega)) (cwV 1 hts gX2_drawer_X2_aheadOf rfl rfl rfl ⟨rfl, hd_X2_aheadOf⟩ ⟨Nat.le_of_ble_eq_true rfl, Nat.le_of_ble_eq_true rfl⟩) hK hN hP hD hS hA 0 rfl rfl rfl hl.1 rfl (Nat.le_of_ble_eq_true rfl) dX2_drawer_68 ⟨Nat.zero_le _, Nat.zero_le _⟩ (fun v_68 u_68 H locs hq hP hD hS => ?_)
      obtain ⟨rfl, rfl⟩ := hq
      refine lv_bipush (v := nI 10) hx hb dX2_drawer_71 (by decide) ?_
      refine lv_iadd hx hb dX2_drawer_73 ?_
      refine zx_topi (y := (zx_i (zp_ah (s 10) (z d)) + nI 10)) (rfl) ?_
      exact hret _ _ _ _ _ _ hP hD hS dX2_drawer_74 ⟨by rw [hz, c_12_1, zs_dqi (q := 1) (zd_rng_i (by decide) (by decide) (by decide))]; exact zy_dn1.symm, s, ah, rfl, fun _ _ => rfl⟩
    by_cases c_12_2 : y = nI 2
    · refine lv_tableIn (off := 63) (tgt := 75) hx hb dX2_drawer_12 (by rw [c_12_2]; decide) (by rw [c_12_2]; decide) (by rw [c_12_2]; rfl) (by decide) ?_
      refine lv_aload_n hx hb dX2_drawer_75 rfl (lv_at hl 0 rfl) ?_
      refine va_get (D := D) (ci := 2) (v := .ref (r 10)) (C := RX2) (T := TX2) (N := 10) hx hb hts hi2 hown hK hP 0 rfl rfl 4 (by decide) k19 (fun _ h9 => h9) rfl dX2_drawer_76 ?_
      refine lv_iload_n hx hb dX2_drawer_79 rfl (lv_at hl 1 rfl) ?_
      refine zx_V_i (As := [.int (nI d)]) (rest := []) cf (c_X1_peopleOf l D cI cB r s a z ah d hI (by omega)) (cwV 1 hts gX2_drawer_X1_peopleOf rfl rfl rfl ⟨rfl, hd_X1_peopleOf⟩ ⟨Nat.le_of_ble_eq_true rfl, Nat.le_of_ble_eq_true rfl⟩) hK hN hP hD hS hA 3 rfl rfl rfl hl.1 rfl (Nat.le_of_ble_eq_true rfl) dX2_drawer_80 ⟨Nat.zero_le _, Nat.zero_le _⟩ (fun v_80 u_80 H locs hq hP hD hS => ?_)
      obtain ⟨rfl, rfl⟩ := hq
      exact hret _ _ _ _ _ _ hP hD hS dX2_drawer_83 ⟨by rw [hz, c_12_2, zs_dqi (q := 2) (zd_rng_i (by decide) (by decide) (by decide))]; exact zy_dn2.symm, s, ah, rfl, fun _ _ => rfl⟩
    by_cases c_12_3 : y = nI 3
    · refine lv_tableIn (off := 72) (tgt := 84) hx hb dX2_drawer_12 (by rw [c_12_3]; decide) (by rw [c_12_3]; decide) (by rw [c_12_3]; rfl) (by decide) ?_
      refine lv_aload_n hx hb dX2_drawer_84 rfl (lv_at hl 0 rfl) ?_
      refine va_get (D := D) (ci := 2) (v := .ref (r 10)) (C := RX2) (T := TX2) (N := 10) hx hb hts hi2 hown hK hP 0 rfl rfl 4 (by decide) k19 (fun _ h9 => h9) rfl dX2_drawer_85 ?_
      refine va_get (D := D) (ci := 1) (v := .ref (r 16)) (C := RX1) (T := TX1) (N := 9) hx hb hts hi1 hown hK hP 3 rfl rfl 6 (by decide) k72 (fun _ h9 => h9) rfl dX2_drawer_88 ?_
      refine lv_iload_n hx hb dX2_drawer_91 rfl (lv_at hl 1 rfl) ?_
      refine zx_ald (f := a 16) (n := 9) hx hb hK hP 7 0 rfl rfl (by omega) (by decide) dX2_drawer_92 ?_
      exact hret _ _ _ _ _ _ hP hD hS dX2_drawer_93 ⟨by rw [hz, c_12_3, zs_dqi (q := 3) (zd_rng_i (by decide) (by decide) (by decide))]; exact zy_dn3.symm, s, ah, rfl, fun _ _ => rfl⟩
    by_cases c_12_4 : y = nI 4
    · refine lv_tableIn (off := 82) (tgt := 94) hx hb dX2_drawer_12 (by rw [c_12_4]; decide) (by rw [c_12_4]; decide) (by rw [c_12_4]; rfl) (by decide) ?_
      refine lv_aload_n hx hb dX2_drawer_94 rfl (lv_at hl 0 rfl) ?_
      refine lv_iload_n hx hb dX2_drawer_95 rfl (lv_at hl 1 rfl) ?_
      refine zx_V_a (As := [.int (nI d)]) (rest := []) cf (c_X2_courseOf l D cI cB r s a z ah d hI (by omega)) (cwV 1 hts gX2_drawer_X2_courseOf rfl rfl rfl ⟨rfl, hd_X2_courseOf⟩ ⟨Nat.le_of_ble_eq_true rfl, Nat.le_of_ble_eq_true rfl⟩) hK hN hP hD hS hA 0 rfl rfl rfl hl.1 rfl (Nat.le_of_ble_eq_true rfl) dX2_drawer_96 ⟨Nat.zero_le _, Nat.zero_le _⟩ (fun v_96 u_96 H locs hq hP hD hS => ?_)
      obtain ⟨rfl, y_96, rfl, gy_96, p4_96, p5_96, p6_96⟩ := hq
      refine zx_V_i (As := []) (rest := []) cf (c_X0_agreeing l D cI cB r y_96 a z (zp_ah (s 10) (z d))  (by rw [p4_96]; exact (zy_hls _ _ _ _).1) (by rw [p5_96]; exact (zy_hls _ _ _ _).2.1) (by rw [p6_96]; exact (zy_hls _ _ _ _).2.2)) (cwV 0 hts gX2_drawer_X0_agreeing rfl rfl rfl ⟨rfl, hd_X0_agreeing⟩ ⟨Nat.le_of_ble_eq_true rfl, Nat.le_of_ble_eq_true rfl⟩) hK hN hP hD hS hA 17 rfl rfl rfl hl.1 rfl (Nat.le_of_ble_eq_true rfl) dX2_drawer_99 ⟨Nat.zero_le _, Nat.zero_le _⟩ (fun v_99 u_99 H locs hq hP hD hS => ?_)
      obtain ⟨rfl, rfl⟩ := hq
      exact hret _ _ _ _ _ _ hP hD hS dX2_drawer_102 ⟨by rw [hz, c_12_4, zs_dqi (q := 4) (zd_rng_i (by decide) (by decide) (by decide)), zy_dn4]; simp only [p4_96, p5_96, p6_96], y_96, _, rfl, gy_96⟩
    by_cases c_12_5 : y = nI 5
    · refine lv_tableIn (off := 91) (tgt := 103) hx hb dX2_drawer_12 (by rw [c_12_5]; decide) (by rw [c_12_5]; decide) (by rw [c_12_5]; rfl) (by decide) ?_
      refine lv_aload_n hx hb dX2_drawer_103 rfl (lv_at hl 0 rfl) ?_
      refine lv_iload_n hx hb dX2_drawer_104 rfl (lv_at hl 1 rfl) ?_
      refine zx_V_a (As := [.int (nI d)]) (rest := []) cf (c_X2_courseOf l D cI cB r s a z ah d hI (by omega)) (cwV 1 hts gX2_drawer_X2_courseOf rfl rfl rfl ⟨rfl, hd_X2_courseOf⟩ ⟨Nat.le_of_ble_eq_true rfl, Nat.le_of_ble_eq_true rfl⟩) hK hN hP hD hS hA 0 rfl rfl rfl hl.1 rfl (Nat.le_of_ble_eq_true rfl) dX2_drawer_105 ⟨Nat.zero_le _, Nat.zero_le _⟩ (fun v_105 u_105 H locs hq hP hD hS => ?_)
      obtain ⟨rfl, y_105, rfl, gy_105, p4_105, p5_105, p6_105⟩ := hq
      refine zx_V_i (As := []) (rest := []) cf (c_X0_firstStuckDay l D cI cB r y_105 a z (zp_ah (s 10) (z d))  (by rw [p4_105]; exact (zy_hls _ _ _ _).1) (by rw [p5_105]; exact (zy_hls _ _ _ _).2.1) (by rw [p6_105]; exact (zy_hls _ _ _ _).2.2)) (cwV 0 hts gX2_drawer_X0_firstStuckDay rfl rfl rfl ⟨rfl, hd_X0_firstStuckDay⟩ ⟨Nat.le_of_ble_eq_true rfl, Nat.le_of_ble_eq_true rfl⟩) hK hN hP hD hS hA 17 rfl rfl rfl hl.1 rfl (Nat.le_of_ble_eq_true rfl) dX2_drawer_108 ⟨Nat.zero_le _, Nat.zero_le _⟩ (fun v_108 u_108 H locs hq hP hD hS => ?_)
      obtain ⟨rfl, rfl⟩ := hq
      exact hret _ _ _ _ _ _ hP hD hS dX2_drawer_111 ⟨by rw [hz, c_12_5, zs_dqi (q := 5) (zd_rng_i (by decide) (by decide) (by decide)), zy_dn5]; simp only [p4_105, p5_105, p6_105], y_105, _, rfl, gy_105⟩
    by_cases c_12_6 : y = nI 6
    · refine lv_tableIn (off := 100) (tgt := 112) hx hb dX2_drawer_12 (by rw [c_12_6]; decide) (by rw [c_12_6]; decide) (by rw [c_12_6]; rfl) (by decide) ?_
      refine lv_aload_n hx hb dX2_drawer_112 rfl (lv_at hl 0 rfl) ?_
      refine lv_iload_n hx hb dX2_drawer_113 rfl (lv_at hl 1 rfl) ?_
      refine zx_V_a (As := [.int (nI d)]) (rest := []) cf (c_X2_courseOf l D cI cB r s a z ah d hI (by omega)) (cwV 1 hts gX2_drawer_X2_courseOf rfl rfl rfl ⟨rfl, hd_X2_courseOf⟩ ⟨Nat.le_of_ble_eq_true rfl, Nat.le_of_ble_eq_true rfl⟩) hK hN hP hD hS hA 0 rfl rfl rfl hl.1 rfl (Nat.le_of_ble_eq_true rfl) dX2_drawer_114 ⟨Nat.zero_le _, Nat.zero_le _⟩ (fun v_114 u_114 H locs hq hP hD hS => ?_)
      obtain ⟨rfl, y_114, rfl, gy_114, p4_114, p5_114, p6_114⟩ := hq
      refine zx_V_i (As := []) (rest := []) cf (c_X0_leastWeek l D cI cB r y_114 a z (zp_ah (s 10) (z d))  (by rw [p4_114]; exact (zy_hls _ _ _ _).1) (by rw [p5_114]; exact (zy_hls _ _ _ _).2.1) (by rw [p6_114]; exact (zy_hls _ _ _ _).2.2)) (cwV 0 hts gX2_drawer_X0_leastWeek rfl rfl rfl ⟨rfl, hd_X0_leastWeek⟩ ⟨Nat.le_of_ble_eq_true rfl, Nat.le_of_ble_eq_true rfl⟩) hK hN hP hD hS hA 17 rfl rfl rfl hl.1 rfl (Nat.le_of_ble_eq_true rfl) dX2_drawer_117 ⟨Nat.zero_le _, Nat.zero_le _⟩ (fun v_117 u_117 H locs hq hP hD hS => ?_)
      obtain ⟨rfl, rfl⟩ := hq
      exact hret _ _ _ _ _ _ hP hD hS dX2_drawer_120 ⟨by rw [hz, c_12_6, zs_dqi (q := 6) (zd_rng_i (by decide) (by decide) (by decide)), zy_dn6]; simp only [p4_114, p5_114, p6_114], y_114, _, rfl, gy_114⟩
    refine lv_tableOut (tgt := 121) hx hb dX2_drawer_12 (by have q0 := zx_neT c_12_0 (k := 0) (by decide); have q1 := zx_neT c_12_1 (k := 1) (by decide); have q2 := zx_neT c_12_2 (k := 2) (by decide); have q3 := zx_neT c_12_3 (k := 3) (by decide); have q4 := zx_neT c_12_4 (k := 4) (by decide); have q5 := zx_neT c_12_5 (k := 5) (by decide); have q6 := zx_neT c_12_6 (k := 6) (by decide); omega) (by decide) ?_
    refine lv_bipush (v := (-102)) hx hb dX2_drawer_121 (by decide) ?_
    exact hret _ _ _ _ _ _ hP hD hS dX2_drawer_123 ⟨by rw [hz]; exact (zs_dqo (zd_rng06 c_12_0 c_12_1 c_12_2 c_12_3 c_12_4 c_12_5 c_12_6)).symm, s, ah, rfl, fun _ _ => rfl⟩
  · refine lv_bipush (v := (-101)) hx hb dX2_drawer_8 (by decide) ?_
    exact hret _ _ _ _ _ _ hP hD hS dX2_drawer_10 ⟨by rw [zd_none c_5]; rfl, s, ah, rfl, fun _ _ => rfl⟩
set_option maxHeartbeats 4000000 in
set_option maxRecDepth 100000 in
theorem c_X2_agrees (l : Launch) (D : va_G) (cI cB : ClassId) (r : Nat → Nat) (s : Nat → Nat) (a : Nat → Nat → Nat) (z : Nat → Int) (ah : Int) (x y : Int32) (hI : zy_I s a z) : zx_C zx_ei l D (zm_t cI cB) (zy_w cI r) yX2_agrees wsX2_agrees rmX2_agrees [.ref (r 1), .int x, .int y] (s, a, z, ah) (fun v u' => v = zs_dq 127 (zd_drw (s 2) x) y (fun d w => zx_b (decide (zy_F s a z 99 d w = w))) ∧ ∃ (y9 : Nat → Nat) (w9 : Int), u' = (y9, a, z, w9) ∧ ∀ k, k < 31 → y9 k = s k) := by
  refine zx_of_i (cc := cX2_agrees) (maxL := 3) (by decide) rfl (Nat.le_of_ble_eq_true rfl) ?_
  intro p e st m args below meth c A Q H cf hK hN hP hD hS hA hret ls hl
  obtain ⟨hx, hb, hml, hown, hts⟩ := id cf
  have hl : lv_has ls 3 [(0, .ref (r 1)), (1, .int x), (2, .int y)] := hl
  have hP : va_P D vwCl ((zy_w cI r) (s, a, z, ah)) H := hP
  have hD : va_D A ((zy_w cI r) (s, a, z, ah)) := hD
  obtain ⟨⟨i1, i2, i5, i7, i8, i10, i11, i12⟩, ⟨i20, i21, i22⟩, iG, iP, iL, iZ, jP, jL⟩ := id hI
  refine lv_aload_n hx hb dX2_agrees_0 rfl (lv_at hl 0 rfl) ?_
  refine lv_iload_n hx hb dX2_agrees_1 rfl (lv_at hl 1 rfl) ?_
  refine zx_V_i (As := [.int x]) (rest := []) cf (c_X2_isDrawer l D cI cB r s a z ah x hI) (cwV 1 hts gX2_agrees_X2_isDrawer rfl rfl rfl ⟨rfl, hd_X2_isDrawer⟩ ⟨Nat.le_of_ble_eq_true rfl, Nat.le_of_ble_eq_true rfl⟩) hK hN hP hD hS hA 0 rfl rfl rfl hl.1 rfl (Nat.le_of_ble_eq_true rfl) dX2_agrees_2 ⟨Nat.zero_le _, Nat.zero_le _⟩ (fun v_2 u_2 H locs hq hP hD hS => ?_)
  obtain ⟨rfl, rfl⟩ := hq
  refine zx_bf_ne hx hb (tgt := 11) dX2_agrees_5 (by decide) (fun c_5 => ?_) (fun c_5 => ?_)
  · obtain ⟨d, hz⟩ := zd_some c_5
    obtain ⟨rfl, hd, hc9⟩ := zd_drw_some hz
    refine lv_iload_n hx hb dX2_agrees_11 rfl (lv_at hl 2 rfl) ?_
    refine lv_if_lt (tgt := 21) hx hb dX2_agrees_12 (by decide) (fun c_12 => ?_) (fun c_12 => ?_)
    · refine lv_bipush (v := (-102)) hx hb dX2_agrees_21 (by decide) ?_
      exact hret _ _ _ _ _ _ hP hD hS dX2_agrees_23 ⟨by rw [hz]; exact (zs_dqo (zd_nos (decide_eq_false (fun q9 => zx_lt0 c_12 q9.1)))).symm, s, ah, rfl, fun _ _ => rfl⟩
    · refine lv_iload_n hx hb dX2_agrees_15 rfl (lv_at hl 2 rfl) ?_
      refine lv_bipush (v := nI 127) hx hb dX2_agrees_16 (by decide) ?_
      refine lv_icmp_le (tgt := 24) hx hb dX2_agrees_18 (by decide) (fun c_18 => ?_) (fun c_18 => ?_)
      · obtain ⟨w, rfl, hq1, hq2, hy⟩ := zd_yes (lo := 0) (hi := 127) (by decide) (by decide) (decide_eq_true ⟨zx_nlt c_12, c_18⟩)
        refine lv_aload_n hx hb dX2_agrees_24 rfl (lv_at hl 0 rfl) ?_
        refine lv_iconst (v := (-1)) hx hb dX2_agrees_25 (by decide) ?_
        refine lv_iload_n hx hb dX2_agrees_26 rfl (lv_at hl 1 rfl) ?_
        refine zx_V_a (As := [.int (-1), .int (nI d)]) (rest := []) cf (c_X2_cW_n l D cI cB r s a z ah 0 d hI (by omega)) (cwV 2 hts gX2_agrees_X2_courseWithout rfl rfl rfl ⟨rfl, hd_X2_courseWithout⟩ ⟨Nat.le_of_ble_eq_true rfl, Nat.le_of_ble_eq_true rfl⟩) hK hN hP hD hS hA 0 rfl rfl rfl hl.1 rfl (Nat.le_of_ble_eq_true rfl) dX2_agrees_27 ⟨Nat.zero_le _, Nat.zero_le _⟩ (fun v_27 u_27 H locs hq hP hD hS => ?_)
        obtain ⟨rfl, rfl⟩ := hq
        refine lv_iload_n hx hb dX2_agrees_30 rfl (lv_at hl 2 rfl) ?_
        refine zx_V_i (As := [.int (nI w)]) (rest := []) cf (c_X0_mustBe l D cI cB r (zx_up (zx_up (zx_up s 31 (a 16 d)) 32 (zy_Em s a 99 d)) 33 (zy_Tm s a 99 d)) a z (zp_ah (s 10) (z d)) w (zy_Em_lt _ _ _ _) (zy_Tm_lt _ _ _ _) (iL d (by omega)).1 (by omega) (zp_ah_rng i10 (iZ d (by omega)))) (cwV 1 hts gX2_agrees_X0_mustBe rfl rfl rfl ⟨rfl, hd_X0_mustBe⟩ ⟨Nat.le_of_ble_eq_true rfl, Nat.le_of_ble_eq_true rfl⟩) hK hN hP hD hS hA 17 rfl rfl rfl hl.1 rfl (Nat.le_of_ble_eq_true rfl) dX2_agrees_31 ⟨Nat.zero_le _, Nat.zero_le _⟩ (fun v_31 u_31 H locs hq hP hD hS => ?_)
        obtain ⟨rfl, rfl⟩ := hq
        refine zx_topi (y := nI (zy_F s a z 99 d w)) (rfl) ?_
        refine lv_iload_n hx hb dX2_agrees_34 rfl (lv_at hl 2 rfl) ?_
        refine zx_icmp_ne hx hb (tgt := 42) (by have := zy_F_lt s a z 99 d w; omega) (by omega) dX2_agrees_35 (by decide) (fun c_35 => ?_) (fun c_35 => ?_)
        · refine lv_iconst (v := nI 0) hx hb dX2_agrees_42 (by decide) ?_
          exact hret _ _ _ _ _ _ hP hD hS dX2_agrees_43 ⟨by rw [hz, zs_dqi hy]; exact zx_b_f (decide_eq_false c_35), _, _, rfl, fun k hk => by rw [zx_up_ne _ _ (by omega), zx_up_ne _ _ (by omega), zx_up_ne _ _ (by omega)]⟩
        · refine lv_iconst (v := nI 1) hx hb dX2_agrees_38 (by decide) ?_
          refine lv_goto (tgt := 43) hx hb dX2_agrees_39 (by decide) ?_
          exact hret _ _ _ _ _ _ hP hD hS dX2_agrees_43 ⟨by rw [hz, zs_dqi hy]; exact zx_b_t (decide_eq_true c_35), _, _, rfl, fun k hk => by rw [zx_up_ne _ _ (by omega), zx_up_ne _ _ (by omega), zx_up_ne _ _ (by omega)]⟩
      · refine lv_bipush (v := (-102)) hx hb dX2_agrees_21 (by decide) ?_
        exact hret _ _ _ _ _ _ hP hD hS dX2_agrees_23 ⟨by rw [hz]; exact (zs_dqo (zd_nos (decide_eq_false (fun q9 => c_18 q9.2)))).symm, s, ah, rfl, fun _ _ => rfl⟩
  · refine lv_bipush (v := (-101)) hx hb dX2_agrees_8 (by decide) ?_
    exact hret _ _ _ _ _ _ hP hD hS dX2_agrees_10 ⟨by rw [zd_none c_5]; rfl, s, ah, rfl, fun _ _ => rfl⟩
set_option maxHeartbeats 4000000 in
set_option maxRecDepth 100000 in
theorem c_X2_sure (l : Launch) (D : va_G) (cI cB : ClassId) (r : Nat → Nat) (s : Nat → Nat) (a : Nat → Nat → Nat) (z : Nat → Int) (ah : Int) (x y : Int32) (hI : zy_I s a z) : zx_C zx_ei l D (zm_t cI cB) (zy_w cI r) yX2_sure wsX2_sure rmX2_sure [.ref (r 1), .int x, .int y] (s, a, z, ah) (fun v u' => v = zs_su (zd_drw (s 2) x) (zd_rng 0 6 y) (zy_sr s a z) ∧ ∃ (y9 : Nat → Nat) (w9 : Int), u' = (y9, a, z, w9) ∧ ∀ k, k < 31 → y9 k = s k) := by
  refine zx_of_i (cc := cX2_sure) (maxL := 3) (by decide) rfl (Nat.le_of_ble_eq_true rfl) ?_
  intro p e st m args below meth c A Q H cf hK hN hP hD hS hA hret ls hl
  obtain ⟨hx, hb, hml, hown, hts⟩ := id cf
  have hl : lv_has ls 3 [(0, .ref (r 1)), (1, .int x), (2, .int y)] := hl
  have hP : va_P D vwCl ((zy_w cI r) (s, a, z, ah)) H := hP
  have hD : va_D A ((zy_w cI r) (s, a, z, ah)) := hD
  obtain ⟨⟨i1, i2, i5, i7, i8, i10, i11, i12⟩, ⟨i20, i21, i22⟩, iG, iP, iL, iZ, jP, jL⟩ := id hI
  refine lv_aload_n hx hb dX2_sure_0 rfl (lv_at hl 0 rfl) ?_
  refine lv_iload_n hx hb dX2_sure_1 rfl (lv_at hl 1 rfl) ?_
  refine zx_V_i (As := [.int x]) (rest := []) cf (c_X2_isDrawer l D cI cB r s a z ah x hI) (cwV 1 hts gX2_sure_X2_isDrawer rfl rfl rfl ⟨rfl, hd_X2_isDrawer⟩ ⟨Nat.le_of_ble_eq_true rfl, Nat.le_of_ble_eq_true rfl⟩) hK hN hP hD hS hA 0 rfl rfl rfl hl.1 rfl (Nat.le_of_ble_eq_true rfl) dX2_sure_2 ⟨Nat.zero_le _, Nat.zero_le _⟩ (fun v_2 u_2 H locs hq hP hD hS => ?_)
  obtain ⟨rfl, rfl⟩ := hq
  refine zx_bf_eq hx hb (tgt := 15) dX2_sure_5 (by decide) (fun c_5 => ?_) (fun c_5 => ?_)
  · refine lv_bipush (v := (-101)) hx hb dX2_sure_15 (by decide) ?_
    exact hret _ _ _ _ _ _ hP hD hS dX2_sure_17 ⟨by rw [zd_none c_5]; rfl, s, ah, rfl, fun _ _ => rfl⟩
  · obtain ⟨d, hz⟩ := zd_some c_5
    obtain ⟨rfl, hd, hc9⟩ := zd_drw_some hz
    refine lv_iload_n hx hb dX2_sure_8 rfl (lv_at hl 2 rfl) ?_
    refine zx_S (As := [.int y]) (rest := []) cf (c_X2_isDay l D y ) (va_cwS 1 hts gX2_sure_X2_isDay rfl rfl rfl hd_X2_isDay ⟨Nat.le_of_ble_eq_true rfl, Nat.le_of_ble_eq_true rfl⟩) hK hN hP hS hA rfl hl.1 rfl (Nat.le_of_ble_eq_true rfl) dX2_sure_9 ⟨Nat.zero_le _, Nat.zero_le _⟩ (fun H locs hP hS => ?_)
    refine zx_bf_ne hx hb (tgt := 18) dX2_sure_12 (by decide) (fun c_12 => ?_) (fun c_12 => ?_)
    · obtain ⟨o, rfl, ho1, ho2, hy⟩ := zd_yes (by decide) (by decide) c_12
      refine lv_aload_n hx hb dX2_sure_18 rfl (lv_at hl 0 rfl) ?_
      refine lv_iload_n hx hb dX2_sure_19 rfl (lv_at hl 1 rfl) ?_
      refine zx_V_a (As := [.int (nI d)]) (rest := []) cf (c_X2_courseOf l D cI cB r s a z ah d hI (by omega)) (cwV 1 hts gX2_sure_X2_courseOf rfl rfl rfl ⟨rfl, hd_X2_courseOf⟩ ⟨Nat.le_of_ble_eq_true rfl, Nat.le_of_ble_eq_true rfl⟩) hK hN hP hD hS hA 0 rfl rfl rfl hl.1 rfl (Nat.le_of_ble_eq_true rfl) dX2_sure_20 ⟨Nat.zero_le _, Nat.zero_le _⟩ (fun v_20 u_20 H locs hq hP hD hS => ?_)
      obtain ⟨rfl, y_20, rfl, gy_20, p4_20, p5_20, p6_20⟩ := hq
      refine lv_iload_n hx hb dX2_sure_23 rfl (lv_at hl 2 rfl) ?_
      refine zx_V_i (As := [.int (nI o)]) (rest := []) cf (c_X0_sureOn l D cI cB r y_20 a z (zp_ah (s 10) (z d)) o (by rw [p4_20]; exact (zy_hls _ _ _ _).1) (by rw [p5_20]; exact (zy_hls _ _ _ _).2.1) (by rw [p6_20]; exact (zy_hls _ _ _ _).2.2) (by omega)) (cwV 1 hts gX2_sure_X0_sureOn rfl rfl rfl ⟨rfl, hd_X0_sureOn⟩ ⟨Nat.le_of_ble_eq_true rfl, Nat.le_of_ble_eq_true rfl⟩) hK hN hP hD hS hA 17 rfl rfl rfl hl.1 rfl (Nat.le_of_ble_eq_true rfl) dX2_sure_24 ⟨Nat.zero_le _, Nat.zero_le _⟩ (fun v_24 u_24 H locs hq hP hD hS => ?_)
      obtain ⟨rfl, rfl⟩ := hq
      exact hret _ _ _ _ _ _ hP hD hS dX2_sure_27 ⟨by rw [hz, hy, p4_20, p5_20, p6_20]; rfl, y_20, _, rfl, gy_20⟩
    · refine lv_bipush (v := (-101)) hx hb dX2_sure_15 (by decide) ?_
      exact hret _ _ _ _ _ _ hP hD hS dX2_sure_17 ⟨by rw [hz, zd_nos c_12]; rfl, s, ah, rfl, fun _ _ => rfl⟩
