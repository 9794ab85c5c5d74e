set_option maxHeartbeats 4000000 in
set_option maxRecDepth 100000 in
theorem c_X2_drawersThatAgree (l : Launch) (D : va_G) (cI cB : ClassId) (r : Nat → Nat) (s : Nat → Nat) (a : Nat → Nat → Nat) (z : Nat → Int) (ah : Int) (hI : zy_I s a z) : zx_C zx_ei l D (zm_t cI cB) (zy_w cI r) yX2_drawersThatAgree wsX2_drawersThatAgree rmX2_drawersThatAgree [.ref (r 1)] (s, a, z, ah) (fun v u' => v = nI (zy_ad s a z) ∧ ∃ (y9 : Nat → Nat) (w9 : Int), u' = (y9, a, z, w9) ∧ ∀ k, k < 31 → y9 k = s k) := by
  refine zx_of_i (cc := cX2_drawersThatAgree) (maxL := 3) (by decide) rfl (Nat.le_of_ble_eq_true rfl) ?_
  intro p e st m args below meth c A Q H cf hK hN hP hD hS hA hret ls hl
  obtain ⟨hx, hb, hml, hown, hts⟩ := id cf
  have hi2 : ∀ w ∈ wsX20, w ∈ wsX2_drawersThatAgree := fun w h => List.mem_cons_of_mem _ (List.mem_append_left _ (List.mem_append_left _ (List.mem_append_right _ h)))
  have hi0 : ∀ w ∈ wsX00, w ∈ wsX2_drawersThatAgree := fun w h => List.mem_cons_of_mem _ (List.mem_append_left _ (List.mem_append_right _ h))
  have k49 := hts (.fieldLink RX2 49 "NineDrawers" "hasChest" "Z") (List.mem_of_getElem? (i := 1) (by decide +kernel))
  have k180 := hts (.fieldLink RX2 180 "NineDrawers$Course" "stuck" "I") (List.mem_of_getElem? (i := 2) (by decide +kernel))
  have hl : lv_has ls 3 [(0, .ref (r 1))] := hl
  have hP : va_P D vwCl ((zy_w cI r) (s, a, z, ah)) H := hP
  have hD : va_D A ((zy_w cI r) (s, a, z, ah)) := hD
  obtain ⟨⟨i1, i2, i5, i7, i8, i10, i11, i12⟩, ⟨i20, i21, i22⟩, iG, iP, iL, iZ, jP, jL⟩ := id hI
  refine lv_aload_n hx hb dX2_drawersThatAgree_0 rfl (lv_at hl 0 rfl) ?_
  refine va_get (D := D) (ci := 2) (v := .int (nI (s 2))) (C := RX2) (T := TX2) (N := 10) hx hb hts hi2 hown hK hP 0 rfl rfl 2 (by decide) k49 (fun _ h9 => h9) rfl dX2_drawersThatAgree_1 ?_
  refine zx_if_ne hx hb (tgt := 9) (by omega) dX2_drawersThatAgree_4 (by decide) (fun c_4 => ?_) (fun c_4 => ?_)
  · refine lv_iconst (v := nI 0) hx hb dX2_drawersThatAgree_9 (by decide) ?_
    refine lv_istore_n (lv' := [(1, .int (nI 0)), (0, .ref (r 1))]) hx hb dX2_drawersThatAgree_10 rfl hl (by decide) rfl (fun ls hl => ?_)
    refine lv_iconst (v := nI 0) hx hb dX2_drawersThatAgree_11 (by decide) ?_
    refine lv_istore_n (lv' := [(2, .int (nI 0)), (1, .int (nI 0)), (0, .ref (r 1))]) hx hb dX2_drawersThatAgree_12 rfl hl (by decide) rfl (fun ls hl => ?_)
    have lp_13 : ∀ (n_ : Nat) (i : Nat) (y9 : Nat → Nat) (w9 : Int), 9 - i < n_ → (i ≤ 9) → (∀ k, k < 31 → y9 k = s k) → ∀ x1 : Int32, x1 = nI (zp_cnt (fun d9 => decide (zy_s (zy_F s a z 99 d9) (zp_ah (s 10) (z d9)) = 0)) i) → ∀ x2 : Int32, x2 = nI i → ∀ (H : Heap) (locs : List Loc), va_P D vwCl ((zy_w cI r) (y9, a, z, w9)) H → va_D A ((zy_w cI r) (y9, a, z, w9)) → va_S A st.heap H locs → ∀ ls : Array Slot, lv_has ls 3 [(0, .ref (r 1)), (1, .int x1), (2, .int x2)] → W p l e rmX2_drawersThatAgree st m args below meth c H locs 0 0 Q (F0 m 13 ls []) := by
      intro n_
      induction n_ with
      | zero => intros; omega
      | succ n_ ih_13 =>
        intro i y9 w9 hmu_13 hi9 gy
        intro x1 ex1; subst ex1
        intro x2 ex2; subst ex2
        intro H locs hP hD hS ls hl
        have hl : lv_has ls 3 [(0, .ref (r 1)), (1, .int (nI (zp_cnt (fun d9 => decide (zy_s (zy_F s a z 99 d9) (zp_ah (s 10) (z d9)) = 0)) i))), (2, .int (nI i))] := hl
        refine lv_iload_n hx hb dX2_drawersThatAgree_13 rfl (lv_at hl 2 rfl) ?_
        refine lv_bipush (v := nI 9) hx hb dX2_drawersThatAgree_14 (by decide) ?_
        refine zx_icmp_ge hx hb (tgt := 39) (by omega) (by omega) dX2_drawersThatAgree_16 (by decide) (fun c_16 => ?_) (fun c_16 => ?_)
        · refine lv_iload_n hx hb dX2_drawersThatAgree_39 rfl (lv_at hl 1 rfl) ?_
          exact hret _ _ _ _ _ _ hP hD hS dX2_drawersThatAgree_40 ⟨by rw [show i = 9 by omega]; exact congrArg nI (if_neg (by omega)).symm, y9, w9, rfl, gy⟩
        · refine lv_aload_n hx hb dX2_drawersThatAgree_19 rfl (lv_at hl 0 rfl) ?_
          refine lv_iload_n hx hb dX2_drawersThatAgree_20 rfl (lv_at hl 2 rfl) ?_
          refine zx_V_a (As := [.int (nI i)]) (rest := []) cf (c_X2_courseOf l D cI cB r y9 a z w9 i (zy_I_y hI gy) (by omega)) (cwV 1 hts gX2_drawersThatAgree_X2_courseOf rfl rfl rfl ⟨rfl, hd_X2_courseOf⟩ ⟨Nat.le_of_ble_eq_true rfl, Nat.le_of_ble_eq_true rfl⟩) hK hN hP hD hS hA 0 rfl rfl rfl hl.1 rfl (Nat.le_of_ble_eq_true rfl) dX2_drawersThatAgree_21 ⟨Nat.zero_le _, Nat.zero_le _⟩ (fun v_21 u_21 H locs hq hP hD hS => ?_)
          obtain ⟨rfl, y_21, rfl, gy_21, p4_21, p5_21, p6_21⟩ := hq
          refine va_get (D := D) (ci := 0) (v := .int (nI (y_21 36))) (C := RX0) (T := TX0) (N := 7) hx hb hts hi0 hown hK hP 17 rfl rfl 6 (by decide) k180 (fun _ h9 => h9) rfl dX2_drawersThatAgree_24 ?_
          refine zx_if_ne hx hb (tgt := 33) (by have := (zy_hls (zy_Em y9 a 99 i) (zy_Tm y9 a 99 i) (a 16 i) (zp_ah (y9 10) (z i))).2.2; rw [p6_21]; unfold zy_F; omega) dX2_drawersThatAgree_27 (by decide) (fun c_27 => ?_) (fun c_27 => ?_)
          · refine lv_iinc (v := nI (i + 1)) (lv' := [(2, .int (nI (i + 1))), (0, .ref (r 1)), (1, .int (nI (zp_cnt (fun d9 => decide (zy_s (zy_F s a z 99 d9) (zp_ah (s 10) (z d9)) = 0)) i)))]) hx hb dX2_drawersThatAgree_33 hl (k := 2) rfl (zx_inc _ _) (by decide) rfl (fun ls hl => ?_)
            refine lv_goto (tgt := 13) hx hb dX2_drawersThatAgree_36 (by decide) ?_
            exact ih_13 (i + 1) y_21 (zp_ah (y9 10) (z i)) (by omega) (by omega) (fun k hk => (gy_21 k hk).trans (gy k hk)) _ (zp_cntF (f := (fun d9 => decide (zy_s (zy_F s a z 99 d9) (zp_ah (s 10) (z d9)) = 0))) ((zy_adB gy p6_21).trans (decide_eq_false c_27))) _ rfl _ _ hP hD hS ls (lv_sub hl [1, 2, 0] rfl)
          · refine lv_iinc (v := nI (zp_cnt (fun d9 => decide (zy_s (zy_F s a z 99 d9) (zp_ah (s 10) (z d9)) = 0)) i + 1)) (lv' := [(1, .int (nI (zp_cnt (fun d9 => decide (zy_s (zy_F s a z 99 d9) (zp_ah (s 10) (z d9)) = 0)) i + 1))), (0, .ref (r 1)), (2, .int (nI i))]) hx hb dX2_drawersThatAgree_30 hl (k := 1) rfl (zx_inc _ _) (by decide) rfl (fun ls hl => ?_)
            refine lv_iinc (v := nI (i + 1)) (lv' := [(2, .int (nI (i + 1))), (1, .int (nI (zp_cnt (fun d9 => decide (zy_s (zy_F s a z 99 d9) (zp_ah (s 10) (z d9)) = 0)) i + 1))), (0, .ref (r 1))]) hx hb dX2_drawersThatAgree_33 hl (k := 2) rfl (zx_inc _ _) (by decide) rfl (fun ls hl => ?_)
            refine lv_goto (tgt := 13) hx hb dX2_drawersThatAgree_36 (by decide) ?_
            exact ih_13 (i + 1) y_21 (zp_ah (y9 10) (z i)) (by omega) (by omega) (fun k hk => (gy_21 k hk).trans (gy k hk)) _ (zp_cntT (f := (fun d9 => decide (zy_s (zy_F s a z 99 d9) (zp_ah (s 10) (z d9)) = 0))) ((zy_adB gy p6_21).trans (decide_eq_true c_27))) _ rfl _ _ hP hD hS ls (lv_sub hl [2, 1, 0] rfl)
    exact lp_13 _ 0 s ah (Nat.lt_succ_self _) (Nat.zero_le _) (fun _ _ => rfl) _ rfl _ rfl _ _ hP hD hS ls (lv_sub hl [2, 1, 0] rfl)
  · refine lv_iconst (v := nI 0) hx hb dX2_drawersThatAgree_7 (by decide) ?_
    exact hret _ _ _ _ _ _ hP hD hS dX2_drawersThatAgree_8 ⟨congrArg nI (if_pos (by omega)).symm, s, ah, rfl, fun _ _ => rfl⟩
set_option maxHeartbeats 4000000 in
set_option maxRecDepth 100000 in
theorem c_X2_count (l : Launch) (D : va_G) (cI cB : ClassId) (r : Nat → Nat) (s : Nat → Nat) (a : Nat → Nat → Nat) (z : Nat → Int) (ah : Int) (x : Int32) (hI : zy_I s a z) : zx_C zx_ei l D (zm_t cI cB) (zy_w cI r) yX2_count wsX2_count rmX2_count [.ref (r 1), .int x] (s, a, z, ah) (fun v u' => v = zs_hm x (zy_hm s a z) ∧ ∃ (y9 : Nat → Nat) (w9 : Int), u' = (y9, a, z, w9) ∧ ∀ k, k < 31 → y9 k = s k) := by
  refine zx_of_i (cc := cX2_count) (maxL := 2) (by decide) rfl (Nat.le_of_ble_eq_true rfl) ?_
  intro p e st m args below meth c A Q H cf hK hN hP hD hS hA hret ls hl
  obtain ⟨hx, hb, hml, hown, hts⟩ := id cf
  have hi2 : ∀ w ∈ wsX20, w ∈ wsX2_count := fun w h => List.mem_cons_of_mem _ (List.mem_append_left _ (List.mem_append_left _ (List.mem_append_right _ h)))
  have hi1 : ∀ w ∈ wsX10, w ∈ wsX2_count := fun w h => List.mem_cons_of_mem _ (List.mem_append_left _ (List.mem_append_right _ h))
  have k19 := hts (.fieldLink RX2 19 "NineDrawers" "hall" "LNineDrawers$Hall;") (List.mem_of_getElem? (i := 1) (by decide +kernel))
  have k59 := hts (.fieldLink RX2 59 "NineDrawers$Hall" "facing" "I") (List.mem_of_getElem? (i := 2) (by decide +kernel))
  have k94 := hts (.fieldLink RX2 94 "NineDrawers$Hall" "people" "I") (List.mem_of_getElem? (i := 3) (by decide +kernel))
  have k145 := hts (.fieldLink RX2 145 "NineDrawers$Hall" "timesFound" "I") (List.mem_of_getElem? (i := 4) (by decide +kernel))
  have k33 := hts (.fieldLink RX2 33 "NineDrawers" "pageLength" "I") (List.mem_of_getElem? (i := 5) (by decide +kernel))
  have k56 := hts (.fieldLink RX2 56 "NineDrawers" "chestsRead" "I") (List.mem_of_getElem? (i := 6) (by decide +kernel))
  have k133 := hts (.fieldLink RX2 133 "NineDrawers" "fewDone" "I") (List.mem_of_getElem? (i := 7) (by decide +kernel))
  have hl : lv_has ls 2 [(0, .ref (r 1)), (1, .int x)] := hl
  have hP : va_P D vwCl ((zy_w cI r) (s, a, z, ah)) H := hP
  have hD : va_D A ((zy_w cI r) (s, a, z, ah)) := hD
  obtain ⟨⟨i1, i2, i5, i7, i8, i10, i11, i12⟩, ⟨i20, i21, i22⟩, iG, iP, iL, iZ, jP, jL⟩ := id hI
  refine lv_iload_n hx hb dX2_count_0 rfl (lv_at hl 1 rfl) ?_
  by_cases c_1_0 : x = nI 0
  · refine lv_tableIn (off := 47) (tgt := 48) hx hb dX2_count_1 (by rw [c_1_0]; decide) (by rw [c_1_0]; decide) (by rw [c_1_0]; rfl) (by decide) ?_
    refine lv_aload_n hx hb dX2_count_48 rfl (lv_at hl 0 rfl) ?_
    refine zx_V_i (As := []) (rest := []) cf (c_X2_drawersThatAgree l D cI cB r s a z ah  hI ) (cwV 0 hts gX2_count_X2_drawersThatAgree rfl rfl rfl ⟨rfl, hd_X2_drawersThatAgree⟩ ⟨Nat.le_of_ble_eq_true rfl, Nat.le_of_ble_eq_true rfl⟩) hK hN hP hD hS hA 0 rfl rfl rfl hl.1 rfl (Nat.le_of_ble_eq_true rfl) dX2_count_49 ⟨Nat.zero_le _, Nat.zero_le _⟩ (fun v_49 u_49 H locs hq hP hD hS => ?_)
    obtain ⟨rfl, y_49, w_49, rfl, gy_49⟩ := hq
    exact hret _ _ _ _ _ _ hP hD hS dX2_count_52 ⟨by rw [c_1_0]; exact (zs_hmi (q := 0) (F := zy_hm s a z) (by decide)).symm, y_49, w_49, rfl, gy_49⟩
  by_cases c_1_1 : x = nI 1
  · refine lv_tableIn (off := 52) (tgt := 53) hx hb dX2_count_1 (by rw [c_1_1]; decide) (by rw [c_1_1]; decide) (by rw [c_1_1]; rfl) (by decide) ?_
    refine lv_aload_n hx hb dX2_count_53 rfl (lv_at hl 0 rfl) ?_
    refine va_get (D := D) (ci := 2) (v := .ref (r 10)) (C := RX2) (T := TX2) (N := 10) hx hb hts hi2 hown hK hP 0 rfl rfl 4 (by decide) k19 (fun _ h9 => h9) rfl dX2_count_54 ?_
    refine va_get (D := D) (ci := 1) (v := .int (nI (s 10))) (C := RX1) (T := TX1) (N := 9) hx hb hts hi1 hown hK hP 3 rfl rfl 0 (by decide) k59 (fun _ h9 => h9) rfl dX2_count_57 ?_
    exact hret _ _ _ _ _ _ hP hD hS dX2_count_60 ⟨by rw [c_1_1]; exact (zs_hmi (q := 1) (F := zy_hm s a z) (by decide)).symm, s, ah, rfl, fun _ _ => rfl⟩
  by_cases c_1_2 : x = nI 2
  · refine lv_tableIn (off := 60) (tgt := 61) hx hb dX2_count_1 (by rw [c_1_2]; decide) (by rw [c_1_2]; decide) (by rw [c_1_2]; rfl) (by decide) ?_
    refine lv_aload_n hx hb dX2_count_61 rfl (lv_at hl 0 rfl) ?_
    refine va_get (D := D) (ci := 2) (v := .ref (r 10)) (C := RX2) (T := TX2) (N := 10) hx hb hts hi2 hown hK hP 0 rfl rfl 4 (by decide) k19 (fun _ h9 => h9) rfl dX2_count_62 ?_
    refine va_get (D := D) (ci := 1) (v := .int (nI (s 11))) (C := RX1) (T := TX1) (N := 9) hx hb hts hi1 hown hK hP 3 rfl rfl 1 (by decide) k94 (fun _ h9 => h9) rfl dX2_count_65 ?_
    exact hret _ _ _ _ _ _ hP hD hS dX2_count_68 ⟨by rw [c_1_2]; exact (zs_hmi (q := 2) (F := zy_hm s a z) (by decide)).symm, s, ah, rfl, fun _ _ => rfl⟩
  by_cases c_1_3 : x = nI 3
  · refine lv_tableIn (off := 68) (tgt := 69) hx hb dX2_count_1 (by rw [c_1_3]; decide) (by rw [c_1_3]; decide) (by rw [c_1_3]; rfl) (by decide) ?_
    refine lv_aload_n hx hb dX2_count_69 rfl (lv_at hl 0 rfl) ?_
    refine va_get (D := D) (ci := 2) (v := .ref (r 10)) (C := RX2) (T := TX2) (N := 10) hx hb hts hi2 hown hK hP 0 rfl rfl 4 (by decide) k19 (fun _ h9 => h9) rfl dX2_count_70 ?_
    refine zx_V_i (As := []) (rest := []) cf (c_X1_thingsLaid l D cI cB r s a z ah  hI) (cwV 0 hts gX2_count_X1_thingsLaid rfl rfl rfl ⟨rfl, hd_X1_thingsLaid⟩ ⟨Nat.le_of_ble_eq_true rfl, Nat.le_of_ble_eq_true rfl⟩) hK hN hP hD hS hA 3 rfl rfl rfl hl.1 rfl (Nat.le_of_ble_eq_true rfl) dX2_count_73 ⟨Nat.zero_le _, Nat.zero_le _⟩ (fun v_73 u_73 H locs hq hP hD hS => ?_)
    obtain ⟨rfl, rfl⟩ := hq
    exact hret _ _ _ _ _ _ hP hD hS dX2_count_76 ⟨by rw [c_1_3]; exact (zs_hmi (q := 3) (F := zy_hm s a z) (by decide)).symm, s, ah, rfl, fun _ _ => rfl⟩
  by_cases c_1_4 : x = nI 4
  · refine lv_tableIn (off := 76) (tgt := 77) hx hb dX2_count_1 (by rw [c_1_4]; decide) (by rw [c_1_4]; decide) (by rw [c_1_4]; rfl) (by decide) ?_
    refine lv_aload_n hx hb dX2_count_77 rfl (lv_at hl 0 rfl) ?_
    refine va_get (D := D) (ci := 2) (v := .ref (r 10)) (C := RX2) (T := TX2) (N := 10) hx hb hts hi2 hown hK hP 0 rfl rfl 4 (by decide) k19 (fun _ h9 => h9) rfl dX2_count_78 ?_
    refine va_get (D := D) (ci := 1) (v := .int (nI (s 12))) (C := RX1) (T := TX1) (N := 9) hx hb hts hi1 hown hK hP 3 rfl rfl 2 (by decide) k145 (fun _ h9 => h9) rfl dX2_count_81 ?_
    exact hret _ _ _ _ _ _ hP hD hS dX2_count_84 ⟨by rw [c_1_4]; exact (zs_hmi (q := 4) (F := zy_hm s a z) (by decide)).symm, s, ah, rfl, fun _ _ => rfl⟩
  by_cases c_1_5 : x = nI 5
  · refine lv_tableIn (off := 84) (tgt := 85) hx hb dX2_count_1 (by rw [c_1_5]; decide) (by rw [c_1_5]; decide) (by rw [c_1_5]; rfl) (by decide) ?_
    refine lv_aload_n hx hb dX2_count_85 rfl (lv_at hl 0 rfl) ?_
    refine va_get (D := D) (ci := 2) (v := .int (nI (s 1))) (C := RX2) (T := TX2) (N := 10) hx hb hts hi2 hown hK hP 0 rfl rfl 1 (by decide) k33 (fun _ h9 => h9) rfl dX2_count_86 ?_
    exact hret _ _ _ _ _ _ hP hD hS dX2_count_89 ⟨by rw [c_1_5]; exact (zs_hmi (q := 5) (F := zy_hm s a z) (by decide)).symm, s, ah, rfl, fun _ _ => rfl⟩
  by_cases c_1_6 : x = nI 6
  · refine lv_tableIn (off := 89) (tgt := 90) hx hb dX2_count_1 (by rw [c_1_6]; decide) (by rw [c_1_6]; decide) (by rw [c_1_6]; rfl) (by decide) ?_
    refine lv_aload_n hx hb dX2_count_90 rfl (lv_at hl 0 rfl) ?_
    refine va_get (D := D) (ci := 2) (v := .int (nI (s 7))) (C := RX2) (T := TX2) (N := 10) hx hb hts hi2 hown hK hP 0 rfl rfl 7 (by decide) k56 (fun _ h9 => h9) rfl dX2_count_91 ?_
    exact hret _ _ _ _ _ _ hP hD hS dX2_count_94 ⟨by rw [c_1_6]; exact (zs_hmi (q := 6) (F := zy_hm s a z) (by decide)).symm, s, ah, rfl, fun _ _ => rfl⟩
  by_cases c_1_7 : x = nI 7
  · refine lv_tableIn (off := 94) (tgt := 95) hx hb dX2_count_1 (by rw [c_1_7]; decide) (by rw [c_1_7]; decide) (by rw [c_1_7]; rfl) (by decide) ?_
    refine lv_aload_n hx hb dX2_count_95 rfl (lv_at hl 0 rfl) ?_
    refine va_get (D := D) (ci := 2) (v := .int (nI (s 8))) (C := RX2) (T := TX2) (N := 10) hx hb hts hi2 hown hK hP 0 rfl rfl 8 (by decide) k133 (fun _ h9 => h9) rfl dX2_count_96 ?_
    exact hret _ _ _ _ _ _ hP hD hS dX2_count_99 ⟨by rw [c_1_7]; exact (zs_hmi (q := 7) (F := zy_hm s a z) (by decide)).symm, s, ah, rfl, fun _ _ => rfl⟩
  refine lv_tableOut (tgt := 100) hx hb dX2_count_1 (by have q0 := zx_neT c_1_0 (k := 0) (by decide); have q1 := zx_neT c_1_1 (k := 1) (by decide); have q2 := zx_neT c_1_2 (k := 2) (by decide); have q3 := zx_neT c_1_3 (k := 3) (by decide); have q4 := zx_neT c_1_4 (k := 4) (by decide); have q5 := zx_neT c_1_5 (k := 5) (by decide); have q6 := zx_neT c_1_6 (k := 6) (by decide); have q7 := zx_neT c_1_7 (k := 7) (by decide); omega) (by decide) ?_
  refine lv_bipush (v := (-102)) hx hb dX2_count_100 (by decide) ?_
  exact hret _ _ _ _ _ _ hP hD hS dX2_count_102 ⟨(zs_hmo c_1_0 c_1_1 c_1_2 c_1_3 c_1_4 c_1_5 c_1_6 c_1_7).symm, s, ah, rfl, fun _ _ => rfl⟩
