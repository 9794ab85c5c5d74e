set_option maxHeartbeats 4000000 in
set_option maxRecDepth 100000 in
theorem c_X3_faultNow (l : Launch) (D : va_G) (cI cB : ClassId) (r : Nat → Nat) (s : Nat → Nat) (a : Nat → Nat → Nat) (z : Nat → Int) (h : Int64) (hI : zm_I s a z) : zx_C zx_ei l D (zm_t cI cB) (zm_w cI cB r) yX3_faultNow wsX3_faultNow rmX3_faultNow [.ref (r 0)] (s, a, z, h) (fun v u' => v = nI (zp_flt (s 14) (a 15)) ∧ u' = (s, a, z, h)) := by
  refine zx_of_i (cc := cX3_faultNow) (maxL := 2) (by decide) rfl (Nat.le_of_ble_eq_true rfl) ?_
  intro p e st m args below meth c A Q H cf hK hN hP hD hS hA hret ls hl
  obtain ⟨hx, hb, hml, hown, hts⟩ := id cf
  have hi3 : ∀ w ∈ wsX30, w ∈ wsX3_faultNow := fun w h => List.mem_cons_of_mem _ (List.mem_append_right _ h)
  have k60 := hts (.fieldLink RX3 60 "NineDrawersModel" "pageLength" "I") (List.mem_of_getElem? (i := 1) (by decide +kernel))
  have k34 := hts (.fieldLink RX3 34 "NineDrawersModel" "page" "[B") (List.mem_of_getElem? (i := 2) (by decide +kernel))
  have hl : lv_has ls 2 [(0, .ref (r 0))] := hl
  have hP : va_P D vwCl ((zm_w cI cB r) (s, a, z, h)) H := hP
  have hD : va_D A ((zm_w cI cB r) (s, a, z, h)) := hD
  obtain ⟨⟨i0, i1, i3, i5, i9, i13, i14⟩, ⟨i17, i18, i19, i20, i21⟩, iP, iF, iL, iG, iZ, jL, jP, jF⟩ := id hI
  refine lv_iconst (v := nI 0) hx hb dX3_faultNow_0 (by decide) ?_
  refine lv_istore_n (lv' := [(1, .int (nI 0)), (0, .ref (r 0))]) hx hb dX3_faultNow_1 rfl hl (by decide) rfl (fun ls hl => ?_)
  have lp_2 : ∀ (n_ : Nat) (k : Nat), s 14 - k < n_ → (k ≤ s 14) → (∀ j, j < k → zp_okl j (a 15 j) = true) → ∀ x1 : Int32, x1 = nI k → ∀ (H : Heap) (locs : List Loc), va_P D vwCl ((zm_w cI cB r) (s, a, z, h)) H → va_D A ((zm_w cI cB r) (s, a, z, h)) → va_S A st.heap H locs → ∀ ls : Array Slot, lv_has ls 2 [(0, .ref (r 0)), (1, .int x1)] → W p l e rmX3_faultNow st m args below meth c H locs 0 0 Q (F0 m 2 ls []) := by
    intro n_
    induction n_ with
    | zero => intros; omega
    | succ n_ ih_2 =>
      intro k hmu_2 hk9 hno
      intro x1 ex1; subst ex1
      intro H locs hP hD hS ls hl
      have hl : lv_has ls 2 [(0, .ref (r 0)), (1, .int (nI k))] := hl
      refine lv_iload_n hx hb dX3_faultNow_2 rfl (lv_at hl 1 rfl) ?_
      refine lv_aload_n hx hb dX3_faultNow_3 rfl (lv_at hl 0 rfl) ?_
      refine va_get (D := D) (ci := 3) (v := .int (nI (s 14))) (C := RX3) (T := TX3) (N := 29) hx hb hts hi3 hown hK hP 0 rfl rfl 14 (by decide) k60 (fun _ h9 => h9) rfl dX3_faultNow_4 ?_
      refine zx_icmp_ge hx hb (tgt := 62) (by omega) (by omega) dX3_faultNow_7 (by decide) (fun c_7 => ?_) (fun c_7 => ?_)
      · refine lv_iload_n hx hb dX3_faultNow_62 rfl (lv_at hl 1 rfl) ?_
        exact hret _ _ _ _ _ _ hP hD hS dX3_faultNow_63 ⟨zp_flt_eq hk9 hno (Or.inl (by omega)), rfl⟩
      · refine lv_iload_n hx hb dX3_faultNow_10 rfl (lv_at hl 1 rfl) ?_
        refine lv_bipush (v := nI 9) hx hb dX3_faultNow_11 (by decide) ?_
        refine zx_icmp_ge hx hb (tgt := 33) (by omega) (by omega) dX3_faultNow_13 (by decide) (fun c_13 => ?_) (fun c_13 => ?_)
        · refine lv_iload_n hx hb dX3_faultNow_33 rfl (lv_at hl 1 rfl) ?_
          refine lv_bipush (v := nI 9) hx hb dX3_faultNow_34 (by decide) ?_
          refine zx_icmp_ne hx hb (tgt := 62) (by omega) (by omega) dX3_faultNow_36 (by decide) (fun c_36 => ?_) (fun c_36 => ?_)
          · refine lv_iload_n hx hb dX3_faultNow_62 rfl (lv_at hl 1 rfl) ?_
            exact hret _ _ _ _ _ _ hP hD hS dX3_faultNow_63 ⟨zp_flt_eq hk9 hno (Or.inr (zp_okl_hi c_13 c_36)), rfl⟩
          · refine lv_aload_n hx hb dX3_faultNow_39 rfl (lv_at hl 0 rfl) ?_
            refine va_get (D := D) (ci := 3) (v := .ref (r 15)) (C := RX3) (T := TX3) (N := 29) hx hb hts hi3 hown hK hP 0 rfl rfl 15 (by decide) k34 (fun _ h9 => h9) rfl dX3_faultNow_40 ?_
            refine lv_iload_n hx hb dX3_faultNow_43 rfl (lv_at hl 1 rfl) ?_
            refine zx_bld (f := a 15) (n := 12) hx hb hK hP 9 1 rfl rfl (by omega) (by decide) dX3_faultNow_44 ?_
            refine lv_bipush (v := nI 48) hx hb dX3_faultNow_45 (by decide) ?_
            refine lv_isub hx hb dX3_faultNow_47 ?_
            refine zx_topi (y := (nI (a 15 k) - nI 48)) (rfl) ?_
            refine lv_iconst (v := nI 0) hx hb dX3_faultNow_48 (by decide) ?_
            refine lv_iconst (v := nI 3) hx hb dX3_faultNow_49 (by decide) ?_
            refine zx_S (As := [.int (nI (a 15 k) - nI 48), .int (nI 0), .int (nI 3)]) (rest := []) cf (c_X3_within l D (nI (a 15 k) - nI 48) (nI 0) (nI 3) ) (va_cwS 3 hts gX3_faultNow_X3_within rfl rfl rfl hd_X3_within ⟨Nat.le_of_ble_eq_true rfl, Nat.le_of_ble_eq_true rfl⟩) hK hN hP hS hA rfl hl.1 rfl (Nat.le_of_ble_eq_true rfl) dX3_faultNow_50 ⟨Nat.zero_le _, Nat.zero_le _⟩ (fun H locs hP hS => ?_)
            refine zx_topi (y := zx_b (decide (48 ≤ a 15 k) && decide (a 15 k ≤ 51))) (congrArg zx_b (zx_dig _ (iG k (by omega)))) ?_
            refine zx_bf_eq hx hb (tgt := 62) dX3_faultNow_53 (by decide) (fun c_53 => ?_) (fun c_53 => ?_)
            · refine lv_iload_n hx hb dX3_faultNow_62 rfl (lv_at hl 1 rfl) ?_
              exact hret _ _ _ _ _ _ hP hD hS dX3_faultNow_63 ⟨zp_flt_eq hk9 hno (Or.inr (zp_okl_9 c_36 c_53)), rfl⟩
            · refine lv_iinc (v := nI (k + 1)) (lv' := [(1, .int (nI (k + 1))), (0, .ref (r 0))]) hx hb dX3_faultNow_56 hl (k := 1) rfl (zx_inc _ _) (by decide) rfl (fun ls hl => ?_)
              refine lv_goto (tgt := 2) hx hb dX3_faultNow_59 (by decide) ?_
              exact ih_2 (k + 1) (by omega) (by omega) (lt_s hno (zp_okl_9 c_36 c_53)) _ rfl _ _ hP hD hS ls (lv_sub hl [1, 0] rfl)
        · refine lv_aload_n hx hb dX3_faultNow_16 rfl (lv_at hl 0 rfl) ?_
          refine va_get (D := D) (ci := 3) (v := .ref (r 15)) (C := RX3) (T := TX3) (N := 29) hx hb hts hi3 hown hK hP 0 rfl rfl 15 (by decide) k34 (fun _ h9 => h9) rfl dX3_faultNow_17 ?_
          refine lv_iload_n hx hb dX3_faultNow_20 rfl (lv_at hl 1 rfl) ?_
          refine zx_bld (f := a 15) (n := 12) hx hb hK hP 9 1 rfl rfl (by omega) (by decide) dX3_faultNow_21 ?_
          refine zx_S (As := [.int (nI ((a 15) k))]) (rest := []) cf (c_X3_delayBy l D ((a 15) k) (iG k (by omega))) (va_cwS 1 hts gX3_faultNow_X3_delayBy rfl rfl rfl hd_X3_delayBy ⟨Nat.le_of_ble_eq_true rfl, Nat.le_of_ble_eq_true rfl⟩) hK hN hP hS hA rfl hl.1 rfl (Nat.le_of_ble_eq_true rfl) dX3_faultNow_22 ⟨Nat.zero_le _, Nat.zero_le _⟩ (fun H locs hP hS => ?_)
          refine lv_bipush (v := nI 99) hx hb dX3_faultNow_25 (by decide) ?_
          refine lv_icmp_eq (tgt := 62) hx hb dX3_faultNow_27 (by decide) (fun c_27 => ?_) (fun c_27 => ?_)
          · refine lv_iload_n hx hb dX3_faultNow_62 rfl (lv_at hl 1 rfl) ?_
            exact hret _ _ _ _ _ _ hP hD hS dX3_faultNow_63 ⟨zp_flt_eq hk9 hno (Or.inr (zp_okl_lo0 c_13 (iG k (by omega)) c_27)), rfl⟩
          · refine lv_goto (tgt := 56) hx hb dX3_faultNow_30 (by decide) ?_
            refine lv_iinc (v := nI (k + 1)) (lv' := [(1, .int (nI (k + 1))), (0, .ref (r 0))]) hx hb dX3_faultNow_56 hl (k := 1) rfl (zx_inc _ _) (by decide) rfl (fun ls hl => ?_)
            refine lv_goto (tgt := 2) hx hb dX3_faultNow_59 (by decide) ?_
            exact ih_2 (k + 1) (by omega) (by omega) (lt_s hno (zp_okl_lo c_13 (iG k (by omega)) c_27)) _ rfl _ _ hP hD hS ls (lv_sub hl [1, 0] rfl)
  exact lp_2 _ 0 (Nat.lt_succ_self _) (Nat.zero_le _) (fun j hj => absurd hj (Nat.not_lt_zero j)) _ rfl _ _ hP hD hS ls (lv_sub hl [1, 0] rfl)
set_option maxHeartbeats 4000000 in
set_option maxRecDepth 100000 in
theorem c_X3_fault (l : Launch) (D : va_G) (cI cB : ClassId) (r : Nat → Nat) (s : Nat → Nat) (a : Nat → Nat → Nat) (z : Nat → Int) (h : Int64) (hI : zm_I s a z) : zx_C zx_ei l D (zm_t cI cB) (zm_w cI cB r) yX3_fault wsX3_fault rmX3_fault [.ref (r 0)] (s, a, z, h) (fun v u' => v = nI (zp_flt (s 14) (a 15)) ∧ u' = (s, a, z, h)) := by
  refine zx_of_i (cc := cX3_fault) (maxL := 1) (by decide) rfl (Nat.le_of_ble_eq_true rfl) ?_
  intro p e st m args below meth c A Q H cf hK hN hP hD hS hA hret ls hl
  obtain ⟨hx, hb, hml, hown, hts⟩ := id cf
  have hl : lv_has ls 1 [(0, .ref (r 0))] := hl
  have hP : va_P D vwCl ((zm_w cI cB r) (s, a, z, h)) H := hP
  have hD : va_D A ((zm_w cI cB r) (s, a, z, h)) := hD
  refine lv_aload_n hx hb dX3_fault_0 rfl (lv_at hl 0 rfl) ?_
  refine zx_V_i (As := []) (rest := []) cf (c_X3_faultNow l D cI cB r s a z h  hI ) (cwV 0 hts gX3_fault_X3_faultNow rfl rfl rfl ⟨rfl, hd_X3_faultNow⟩ ⟨Nat.le_of_ble_eq_true rfl, Nat.le_of_ble_eq_true rfl⟩) hK hN hP hD hS hA 0 rfl rfl rfl hl.1 rfl (Nat.le_of_ble_eq_true rfl) dX3_fault_1 ⟨Nat.zero_le _, Nat.zero_le _⟩ (fun v_1 u_1 H locs hq hP hD hS => ?_)
  obtain ⟨rfl, rfl⟩ := hq
  exact hret _ _ _ _ _ _ hP hD hS dX3_fault_4 ⟨rfl, rfl⟩
set_option maxHeartbeats 4000000 in
set_option maxRecDepth 100000 in
theorem c_X3_letter (l : Launch) (D : va_G) (cI cB : ClassId) (r : Nat → Nat) (s : Nat → Nat) (a : Nat → Nat → Nat) (z : Nat → Int) (h : Int64) (x : Int32) (hI : zm_I s a z) : zx_C zx_ei l D (zm_t cI cB) (zm_w cI cB r) yX3_letter wsX3_letter rmX3_letter [.ref (r 0), .int x] (s, a, z, h) (fun v u' => zd_out (zd_letter (s 14) x) (fun e9 => v = e9 ∧ u' = (s, a, z, h)) (fun k => v = nI (s 14 + 1) ∧ u' = (zx_up s 14 (s 14 + 1), zx_up a 15 (zx_up (a 15) (s 14) k), z, h))) := by
  refine zx_of_i (cc := cX3_letter) (maxL := 2) (by decide) rfl (Nat.le_of_ble_eq_true rfl) ?_
  intro p e st m args below meth c A Q H cf hK hN hP hD hS hA hret ls hl
  obtain ⟨hx, hb, hml, hown, hts⟩ := id cf
  have hi3 : ∀ w ∈ wsX30, w ∈ wsX3_letter := fun w h => List.mem_cons_of_mem _ (List.mem_append_right _ h)
  have k60 := hts (.fieldLink RX3 60 "NineDrawersModel" "pageLength" "I") (List.mem_of_getElem? (i := 1) (by decide +kernel))
  have k34 := hts (.fieldLink RX3 34 "NineDrawersModel" "page" "[B") (List.mem_of_getElem? (i := 2) (by decide +kernel))
  have hl : lv_has ls 2 [(0, .ref (r 0)), (1, .int x)] := hl
  have hP : va_P D vwCl ((zm_w cI cB r) (s, a, z, h)) H := hP
  have hD : va_D A ((zm_w cI cB r) (s, a, z, h)) := hD
  obtain ⟨⟨i0, i1, i3, i5, i9, i13, i14⟩, ⟨i17, i18, i19, i20, i21⟩, iP, iF, iL, iG, iZ, jL, jP, jF⟩ := id hI
  refine lv_iload_n hx hb dX3_letter_0 rfl (lv_at hl 1 rfl) ?_
  refine lv_bipush (v := nI 32) hx hb dX3_letter_1 (by decide) ?_
  refine lv_bipush (v := nI 126) hx hb dX3_letter_3 (by decide) ?_
  refine zx_S (As := [.int x, .int (nI 32), .int (nI 126)]) (rest := []) cf (c_X3_within l D x (nI 32) (nI 126) ) (va_cwS 3 hts gX3_letter_X3_within rfl rfl rfl hd_X3_within ⟨Nat.le_of_ble_eq_true rfl, Nat.le_of_ble_eq_true rfl⟩) hK hN hP hS hA rfl hl.1 rfl (Nat.le_of_ble_eq_true rfl) dX3_letter_5 ⟨Nat.zero_le _, Nat.zero_le _⟩ (fun H locs hP hS => ?_)
  refine zx_bf_ne hx hb (tgt := 14) dX3_letter_8 (by decide) (fun c_8 => ?_) (fun c_8 => ?_)
  · obtain ⟨k, rfl, hk1, hk2, hz⟩ := zd_yes (by decide) (by decide) c_8
    refine lv_aload_n hx hb dX3_letter_14 rfl (lv_at hl 0 rfl) ?_
    refine va_get (D := D) (ci := 3) (v := .int (nI (s 14))) (C := RX3) (T := TX3) (N := 29) hx hb hts hi3 hown hK hP 0 rfl rfl 14 (by decide) k60 (fun _ h9 => h9) rfl dX3_letter_15 ?_
    refine lv_bipush (v := nI 12) hx hb dX3_letter_18 (by decide) ?_
    refine zx_icmp_ne hx hb (tgt := 26) (by omega) (by omega) dX3_letter_20 (by decide) (fun c_20 => ?_) (fun c_20 => ?_)
    · refine lv_aload_n hx hb dX3_letter_26 rfl (lv_at hl 0 rfl) ?_
      refine va_get (D := D) (ci := 3) (v := .ref (r 15)) (C := RX3) (T := TX3) (N := 29) hx hb hts hi3 hown hK hP 0 rfl rfl 15 (by decide) k34 (fun _ h9 => h9) rfl dX3_letter_27 ?_
      refine lv_aload_n hx hb dX3_letter_30 rfl (lv_at hl 0 rfl) ?_
      refine va_get (D := D) (ci := 3) (v := .int (nI (s 14))) (C := RX3) (T := TX3) (N := 29) hx hb hts hi3 hown hK hP 0 rfl rfl 14 (by decide) k60 (fun _ h9 => h9) rfl dX3_letter_31 ?_
      refine lv_iload_n hx hb dX3_letter_34 rfl (lv_at hl 1 rfl) ?_
      refine zx_i2b hx hb (by omega) dX3_letter_35 ?_
      refine zx_bst (f := a 15) (n := 12) (ws' := (zm_w cI cB r) (s, (zx_up a 15 (zx_up (a 15) (s 14) k)), z, h)) hx hb hK hP hD hS 9 1 rfl rfl (by omega) (by decide) (by omega) rfl dX3_letter_36 (fun H locs hP hD hS => ?_)
      refine lv_aload_n hx hb dX3_letter_37 rfl (lv_at hl 0 rfl) ?_
      refine lv_dup hx hb dX3_letter_38 rfl ?_
      refine va_get (D := D) (ci := 3) (v := .int (nI (s 14))) (C := RX3) (T := TX3) (N := 29) hx hb hts hi3 hown hK hP 0 rfl rfl 14 (by decide) k60 (fun _ h9 => h9) rfl dX3_letter_39 ?_
      refine lv_iconst (v := nI 1) hx hb dX3_letter_42 (by decide) ?_
      refine zx_iadd hx hb dX3_letter_43 ?_
      refine zx_put (D := D) (ci := 3) (ty := .int) (v := .int (nI ((s 14) + 1))) (ws' := (zm_w cI cB r) ((zx_up s 14 ((s 14) + 1)), (zx_up a 15 (zx_up (a 15) (s 14) k)), z, h)) (C := RX3) (T := TX3) (N := 29) hx hb hts hi3 tyX3 tyX3_ok nmX3 hown hK hP hD hS 0 rfl rfl 14 (by decide) k60 (fun _ h9 => h9) rfl (by decide +kernel) rfl rfl (Nat.le_of_ble_eq_true rfl) rfl dX3_letter_44 (fun H locs hP hD hS => ?_)
      refine lv_aload_n hx hb dX3_letter_47 rfl (lv_at hl 0 rfl) ?_
      refine va_get (D := D) (ci := 3) (v := .int (nI ((s 14) + 1))) (C := RX3) (T := TX3) (N := 29) hx hb hts hi3 hown hK hP 0 rfl rfl 14 (by decide) k60 (fun _ h9 => h9) rfl dX3_letter_48 ?_
      exact hret _ _ _ _ _ _ hP hD hS dX3_letter_51 (zd_inr (by unfold zd_letter; rw [hz]; exact if_neg c_20) ⟨rfl, rfl⟩)
    · refine lv_bipush (v := (-104)) hx hb dX3_letter_23 (by decide) ?_
      exact hret _ _ _ _ _ _ hP hD hS dX3_letter_25 (zd_inl (by unfold zd_letter; rw [hz]; exact if_pos c_20) ⟨rfl, rfl⟩)
  · refine lv_bipush (v := (-102)) hx hb dX3_letter_11 (by decide) ?_
    exact hret _ _ _ _ _ _ hP hD hS dX3_letter_13 (zd_inl (by unfold zd_letter; rw [zd_nos c_8]) ⟨rfl, rfl⟩)
set_option maxHeartbeats 4000000 in
set_option maxRecDepth 100000 in
theorem c_X3_blank (l : Launch) (D : va_G) (cI cB : ClassId) (r : Nat → Nat) (s : Nat → Nat) (a : Nat → Nat → Nat) (z : Nat → Int) (h : Int64) (hI : zm_I s a z) : zx_C zx_ei l D (zm_t cI cB) (zm_w cI cB r) yX3_blank wsX3_blank rmX3_blank [.ref (r 0)] (s, a, z, h) (fun v u' => v = nI (s 14) ∧ u' = (zx_up s 14 0, a, z, h)) := by
  refine zx_of_i (cc := cX3_blank) (maxL := 2) (by decide) rfl (Nat.le_of_ble_eq_true rfl) ?_
  intro p e st m args below meth c A Q H cf hK hN hP hD hS hA hret ls hl
  obtain ⟨hx, hb, hml, hown, hts⟩ := id cf
  have hi3 : ∀ w ∈ wsX30, w ∈ wsX3_blank := fun w h => List.mem_cons_of_mem _ (List.mem_append_right _ h)
  have k60 := hts (.fieldLink RX3 60 "NineDrawersModel" "pageLength" "I") (List.mem_of_getElem? (i := 1) (by decide +kernel))
  have hl : lv_has ls 2 [(0, .ref (r 0))] := hl
  have hP : va_P D vwCl ((zm_w cI cB r) (s, a, z, h)) H := hP
  have hD : va_D A ((zm_w cI cB r) (s, a, z, h)) := hD
  refine lv_aload_n hx hb dX3_blank_0 rfl (lv_at hl 0 rfl) ?_
  refine va_get (D := D) (ci := 3) (v := .int (nI (s 14))) (C := RX3) (T := TX3) (N := 29) hx hb hts hi3 hown hK hP 0 rfl rfl 14 (by decide) k60 (fun _ h9 => h9) rfl dX3_blank_1 ?_
  refine lv_istore_n (lv' := [(1, .int (nI (s 14))), (0, .ref (r 0))]) hx hb dX3_blank_4 rfl hl (by decide) rfl (fun ls hl => ?_)
  refine lv_aload_n hx hb dX3_blank_5 rfl (lv_at hl 1 rfl) ?_
  refine lv_iconst (v := nI 0) hx hb dX3_blank_6 (by decide) ?_
  refine zx_put (D := D) (ci := 3) (ty := .int) (v := .int (nI 0)) (ws' := (zm_w cI cB r) ((zx_up s 14 0), a, z, h)) (C := RX3) (T := TX3) (N := 29) hx hb hts hi3 tyX3 tyX3_ok nmX3 hown hK hP hD hS 0 rfl rfl 14 (by decide) k60 (fun _ h9 => h9) rfl (by decide +kernel) rfl rfl (Nat.le_of_ble_eq_true rfl) rfl dX3_blank_7 (fun H locs hP hD hS => ?_)
  refine lv_iload_n hx hb dX3_blank_10 rfl (lv_at hl 0 rfl) ?_
  exact hret _ _ _ _ _ _ hP hD hS dX3_blank_11 ⟨rfl, rfl⟩
set_option maxHeartbeats 4000000 in
set_option maxRecDepth 100000 in
theorem c_X3_face (l : Launch) (D : va_G) (cI cB : ClassId) (r : Nat → Nat) (s : Nat → Nat) (a : Nat → Nat → Nat) (z : Nat → Int) (h : Int64) (x : Int32) (hI : zm_I s a z) : zx_C zx_ei l D (zm_t cI cB) (zm_w cI cB r) yX3_face wsX3_face rmX3_face [.ref (r 0), .int x] (s, a, z, h) (fun v u' => zd_out (zd_face (s 0) x) (fun e9 => v = e9 ∧ u' = (s, a, z, h)) (fun k => v = nI (s 3) ∧ u' = (zx_up s 3 k, a, z, h))) := by
  refine zx_of_i (cc := cX3_face) (maxL := 3) (by decide) rfl (Nat.le_of_ble_eq_true rfl) ?_
  intro p e st m args below meth c A Q H cf hK hN hP hD hS hA hret ls hl
  obtain ⟨hx, hb, hml, hown, hts⟩ := id cf
  have hi3 : ∀ w ∈ wsX30, w ∈ wsX3_face := fun w h => List.mem_cons_of_mem _ (List.mem_append_right _ h)
  have k75 := hts (.fieldLink RX3 75 "NineDrawersModel" "isChest" "Z") (List.mem_of_getElem? (i := 1) (by decide +kernel))
  have k72 := hts (.fieldLink RX3 72 "NineDrawersModel" "facing" "I") (List.mem_of_getElem? (i := 2) (by decide +kernel))
  have hl : lv_has ls 3 [(0, .ref (r 0)), (1, .int x)] := hl
  have hP : va_P D vwCl ((zm_w cI cB r) (s, a, z, h)) H := hP
  have hD : va_D A ((zm_w cI cB r) (s, a, z, h)) := hD
  obtain ⟨⟨i0, i1, i3, i5, i9, i13, i14⟩, ⟨i17, i18, i19, i20, i21⟩, iP, iF, iL, iG, iZ, jL, jP, jF⟩ := id hI
  refine lv_iload_n hx hb dX3_face_0 rfl (lv_at hl 1 rfl) ?_
  refine lv_iconst (v := nI 0) hx hb dX3_face_1 (by decide) ?_
  refine lv_iconst (v := nI 3) hx hb dX3_face_2 (by decide) ?_
  refine zx_S (As := [.int x, .int (nI 0), .int (nI 3)]) (rest := []) cf (c_X3_within l D x (nI 0) (nI 3) ) (va_cwS 3 hts gX3_face_X3_within rfl rfl rfl hd_X3_within ⟨Nat.le_of_ble_eq_true rfl, Nat.le_of_ble_eq_true rfl⟩) hK hN hP hS hA rfl hl.1 rfl (Nat.le_of_ble_eq_true rfl) dX3_face_3 ⟨Nat.zero_le _, Nat.zero_le _⟩ (fun H locs hP hS => ?_)
  refine zx_bf_ne hx hb (tgt := 12) dX3_face_6 (by decide) (fun c_6 => ?_) (fun c_6 => ?_)
  · obtain ⟨k, rfl, hk1, hk2, hz⟩ := zd_yes (by decide) (by decide) c_6
    refine lv_aload_n hx hb dX3_face_12 rfl (lv_at hl 0 rfl) ?_
    refine va_get (D := D) (ci := 3) (v := .int (nI (s 0))) (C := RX3) (T := TX3) (N := 29) hx hb hts hi3 hown hK hP 0 rfl rfl 0 (by decide) k75 (fun _ h9 => h9) rfl dX3_face_13 ?_
    refine zx_if_ne hx hb (tgt := 22) (by omega) dX3_face_16 (by decide) (fun c_16 => ?_) (fun c_16 => ?_)
    · refine lv_aload_n hx hb dX3_face_22 rfl (lv_at hl 0 rfl) ?_
      refine va_get (D := D) (ci := 3) (v := .int (nI (s 3))) (C := RX3) (T := TX3) (N := 29) hx hb hts hi3 hown hK hP 0 rfl rfl 3 (by decide) k72 (fun _ h9 => h9) rfl dX3_face_23 ?_
      refine lv_istore_n (lv' := [(2, .int (nI (s 3))), (0, .ref (r 0)), (1, .int (nI k))]) hx hb dX3_face_26 rfl hl (by decide) rfl (fun ls hl => ?_)
      refine lv_aload_n hx hb dX3_face_27 rfl (lv_at hl 1 rfl) ?_
      refine lv_iload_n hx hb dX3_face_28 rfl (lv_at hl 2 rfl) ?_
      refine zx_put (D := D) (ci := 3) (ty := .int) (v := .int (nI k)) (ws' := (zm_w cI cB r) ((zx_up s 3 k), a, z, h)) (C := RX3) (T := TX3) (N := 29) hx hb hts hi3 tyX3 tyX3_ok nmX3 hown hK hP hD hS 0 rfl rfl 3 (by decide) k72 (fun _ h9 => h9) rfl (by decide +kernel) rfl rfl (Nat.le_of_ble_eq_true rfl) rfl dX3_face_29 (fun H locs hP hD hS => ?_)
      refine lv_iload_n hx hb dX3_face_32 rfl (lv_at hl 0 rfl) ?_
      exact hret _ _ _ _ _ _ hP hD hS dX3_face_33 (zd_inr (by unfold zd_face; rw [hz]; exact if_neg c_16) ⟨rfl, rfl⟩)
    · refine lv_bipush (v := (-103)) hx hb dX3_face_19 (by decide) ?_
      exact hret _ _ _ _ _ _ hP hD hS dX3_face_21 (zd_inl (by unfold zd_face; rw [hz]; exact if_pos c_16) ⟨rfl, rfl⟩)
  · refine lv_bipush (v := (-102)) hx hb dX3_face_9 (by decide) ?_
    exact hret _ _ _ _ _ _ hP hD hS dX3_face_11 (zd_inl (by unfold zd_face; rw [zd_nos c_6]) ⟨rfl, rfl⟩)
set_option maxHeartbeats 4000000 in
set_option maxRecDepth 100000 in
theorem c_X3_chest (l : Launch) (D : va_G) (cI cB : ClassId) (r : Nat → Nat) (s : Nat → Nat) (a : Nat → Nat → Nat) (z : Nat → Int) (h : Int64) (hI : zm_I s a z) : zx_C zx_ei l D (zm_t cI cB) (zm_w cI cB r) yX3_chest wsX3_chest rmX3_chest [.ref (r 0)] (s, a, z, h) (fun v u' => zd_out (zd_chest (s 14) (a 15)) (fun e9 => v = e9 ∧ u' = (s, a, z, h)) (fun _ => v = nI (zp_cnt (fun j => !decide (zp_dl (a 15 j) = 0)) 9) ∧ ∃ (b : Nat → Nat → Nat) (y : Nat → Int), u' = (zx_up (zx_up (zx_up (zx_up (zx_up (zx_up s 3 (a 15 9 - 48)) 0 1) 1 (s 1 + 1)) 5 0) 9 0) 14 0, b, y, h) ∧ (∀ j, j < 9 → y j = zp_dl (a 15 j)) ∧ (∀ j, j < 9 → b 4 j = 0) ∧ (∀ k, k ≠ 4 → b k = a k))) := by
  refine zx_of_i (cc := cX3_chest) (maxL := 3) (by decide) rfl (Nat.le_of_ble_eq_true rfl) ?_
  intro p e st m args below meth c A Q H cf hK hN hP hD hS hA hret ls hl
  obtain ⟨hx, hb, hml, hown, hts⟩ := id cf
  have hi3 : ∀ w ∈ wsX30, w ∈ wsX3_chest := fun w h => List.mem_cons_of_mem _ (List.mem_append_right _ h)
  have k60 := hts (.fieldLink RX3 60 "NineDrawersModel" "pageLength" "I") (List.mem_of_getElem? (i := 1) (by decide +kernel))
  have k34 := hts (.fieldLink RX3 34 "NineDrawersModel" "page" "[B") (List.mem_of_getElem? (i := 3) (by decide +kernel))
  have k72 := hts (.fieldLink RX3 72 "NineDrawersModel" "facing" "I") (List.mem_of_getElem? (i := 5) (by decide +kernel))
  have k75 := hts (.fieldLink RX3 75 "NineDrawersModel" "isChest" "Z") (List.mem_of_getElem? (i := 6) (by decide +kernel))
  have k79 := hts (.fieldLink RX3 79 "NineDrawersModel" "chests" "I") (List.mem_of_getElem? (i := 7) (by decide +kernel))
  have k82 := hts (.fieldLink RX3 82 "NineDrawersModel" "people" "I") (List.mem_of_getElem? (i := 8) (by decide +kernel))
  have k85 := hts (.fieldLink RX3 85 "NineDrawersModel" "found" "I") (List.mem_of_getElem? (i := 9) (by decide +kernel))
  have k7 := hts (.fieldLink RX3 7 "NineDrawersModel" "delayOf" "[I") (List.mem_of_getElem? (i := 2) (by decide +kernel))
  have k13 := hts (.fieldLink RX3 13 "NineDrawersModel" "laidIn" "[I") (List.mem_of_getElem? (i := 4) (by decide +kernel))
  have hl : lv_has ls 3 [(0, .ref (r 0))] := hl
  have hP : va_P D vwCl ((zm_w cI cB r) (s, a, z, h)) H := hP
  have hD : va_D A ((zm_w cI cB r) (s, a, z, h)) := hD
  obtain ⟨⟨i0, i1, i3, i5, i9, i13, i14⟩, ⟨i17, i18, i19, i20, i21⟩, iP, iF, iL, iG, iZ, jL, jP, jF⟩ := id hI
  refine lv_aload_n hx hb dX3_chest_0 rfl (lv_at hl 0 rfl) ?_
  refine va_get (D := D) (ci := 3) (v := .int (nI (s 14))) (C := RX3) (T := TX3) (N := 29) hx hb hts hi3 hown hK hP 0 rfl rfl 14 (by decide) k60 (fun _ h9 => h9) rfl dX3_chest_1 ?_
  refine lv_bipush (v := nI 10) hx hb dX3_chest_4 (by decide) ?_
  refine zx_icmp_ne hx hb (tgt := 20) (by omega) (by omega) dX3_chest_6 (by decide) (fun c_6 => ?_) (fun c_6 => ?_)
  · refine lv_bipush (v := (-103)) hx hb dX3_chest_20 (by decide) ?_
    exact hret _ _ _ _ _ _ hP hD hS dX3_chest_22 (zd_inl (zd_chestF (Or.inl c_6)) ⟨rfl, rfl⟩)
  · refine lv_aload_n hx hb dX3_chest_9 rfl (lv_at hl 0 rfl) ?_
    refine zx_V_i (As := []) (rest := []) cf (c_X3_faultNow l D cI cB r s a z h  hI ) (cwV 0 hts gX3_chest_X3_faultNow rfl rfl rfl ⟨rfl, hd_X3_faultNow⟩ ⟨Nat.le_of_ble_eq_true rfl, Nat.le_of_ble_eq_true rfl⟩) hK hN hP hD hS hA 0 rfl rfl rfl hl.1 rfl (Nat.le_of_ble_eq_true rfl) dX3_chest_10 ⟨Nat.zero_le _, Nat.zero_le _⟩ (fun v_10 u_10 H locs hq hP hD hS => ?_)
    obtain ⟨rfl, rfl⟩ := hq
    refine lv_aload_n hx hb dX3_chest_13 rfl (lv_at hl 0 rfl) ?_
    refine va_get (D := D) (ci := 3) (v := .int (nI (s 14))) (C := RX3) (T := TX3) (N := 29) hx hb hts hi3 hown hK hP 0 rfl rfl 14 (by decide) k60 (fun _ h9 => h9) rfl dX3_chest_14 ?_
    refine zx_icmp_eq hx hb (tgt := 23) (by have := zp_flt_le (s 14) (a 15); omega) (by omega) dX3_chest_17 (by decide) (fun c_17 => ?_) (fun c_17 => ?_)
    · have hok := zp_flt_ok (c_17.symm ▸ rfl : zp_flt (s 14) (a 15) = s 14)
      have h9 := zp_okl9 (hok 9 (by omega))
      refine lv_iconst (v := nI 0) hx hb dX3_chest_23 (by decide) ?_
      refine lv_istore_n (lv' := [(1, .int (nI 0)), (0, .ref (r 0))]) hx hb dX3_chest_24 rfl hl (by decide) rfl (fun ls hl => ?_)
      refine lv_iconst (v := nI 0) hx hb dX3_chest_25 (by decide) ?_
      refine lv_istore_n (lv' := [(2, .int (nI 0)), (1, .int (nI 0)), (0, .ref (r 0))]) hx hb dX3_chest_26 rfl hl (by decide) rfl (fun ls hl => ?_)
      have lp_27 : ∀ (n_ : Nat) (d : Nat) (b : Nat → Nat → Nat) (y : Nat → Int), 9 - d < n_ → (d ≤ 9) → (∀ j, j < d → y j = zp_dl (a 15 j)) → (∀ j, j < d → b 4 j = 0) → (∀ k, k ≠ 4 → b k = a k) → ∀ x1 : Int32, x1 = nI (zp_cnt (fun j => !decide (zp_dl (a 15 j) = 0)) d) → ∀ x2 : Int32, x2 = nI d → ∀ (H : Heap) (locs : List Loc), va_P D vwCl ((zm_w cI cB r) (s, b, y, h)) H → va_D A ((zm_w cI cB r) (s, b, y, h)) → va_S A st.heap H locs → ∀ ls : Array Slot, lv_has ls 3 [(0, .ref (r 0)), (1, .int x1), (2, .int x2)] → W p l e rmX3_chest st m args below meth c H locs 0 0 Q (F0 m 27 ls []) := by
        intro n_
        induction n_ with
        | zero => intros; omega
        | succ n_ ih_27 =>
          intro d b y hmu_27 hd9 gy g4 gb
          intro x1 ex1; subst ex1
          intro x2 ex2; subst ex2
          intro H locs hP hD hS ls hl
          have hl : lv_has ls 3 [(0, .ref (r 0)), (1, .int (nI (zp_cnt (fun j => !decide (zp_dl (a 15 j) = 0)) d))), (2, .int (nI d))] := hl
          refine lv_iload_n hx hb dX3_chest_27 rfl (lv_at hl 2 rfl) ?_
          refine lv_bipush (v := nI 9) hx hb dX3_chest_28 (by decide) ?_
          refine zx_icmp_ge hx hb (tgt := 78) (by omega) (by omega) dX3_chest_30 (by decide) (fun c_30 => ?_) (fun c_30 => ?_)
          · refine lv_aload_n hx hb dX3_chest_78 rfl (lv_at hl 0 rfl) ?_
            refine lv_aload_n hx hb dX3_chest_79 rfl (lv_at hl 0 rfl) ?_
            refine va_get (D := D) (ci := 3) (v := .ref (r 15)) (C := RX3) (T := TX3) (N := 29) hx hb hts hi3 hown hK hP 0 rfl rfl 15 (by decide) k34 (fun _ h9 => h9) rfl dX3_chest_80 ?_
            refine lv_bipush (v := nI 9) hx hb dX3_chest_83 (by decide) ?_
            refine zx_bld (f := b 15) (n := 12) hx hb hK hP 9 1 rfl rfl (by omega) (by decide) dX3_chest_85 ?_
            refine lv_bipush (v := nI 48) hx hb dX3_chest_86 (by decide) ?_
            refine zx_isub hx hb (by rw [gb 15 (by decide)]; exact h9.1) dX3_chest_88 ?_
            refine zx_topi (y := nI (a 15 9 - 48)) ((by rw [gb 15 (by decide)])) ?_
            refine zx_put (D := D) (ci := 3) (ty := .int) (v := .int (nI (a 15 9 - 48))) (ws' := (zm_w cI cB r) ((zx_up s 3 (a 15 9 - 48)), b, y, h)) (C := RX3) (T := TX3) (N := 29) hx hb hts hi3 tyX3 tyX3_ok nmX3 hown hK hP hD hS 0 rfl rfl 3 (by decide) k72 (fun _ h9 => h9) rfl (by decide +kernel) rfl rfl (Nat.le_of_ble_eq_true rfl) rfl dX3_chest_89 (fun H locs hP hD hS => ?_)
            refine lv_aload_n hx hb dX3_chest_92 rfl (lv_at hl 0 rfl) ?_
            refine lv_iconst (v := nI 1) hx hb dX3_chest_93 (by decide) ?_
            refine zx_put (D := D) (ci := 3) (ty := .boolean) (v := .int (nI 1)) (ws' := (zm_w cI cB r) ((zx_up (zx_up s 3 (a 15 9 - 48)) 0 1), b, y, h)) (C := RX3) (T := TX3) (N := 29) hx hb hts hi3 tyX3 tyX3_ok nmX3 hown hK hP hD hS 0 rfl rfl 0 (by decide) k75 (fun _ h9 => h9) rfl (by decide +kernel) rfl rfl (Nat.le_of_ble_eq_true rfl) rfl dX3_chest_94 (fun H locs hP hD hS => ?_)
            refine lv_aload_n hx hb dX3_chest_97 rfl (lv_at hl 0 rfl) ?_
            refine lv_dup hx hb dX3_chest_98 rfl ?_
            refine va_get (D := D) (ci := 3) (v := .int (nI (s 1))) (C := RX3) (T := TX3) (N := 29) hx hb hts hi3 hown hK hP 0 rfl rfl 1 (by decide) k79 (fun _ h9 => h9) rfl dX3_chest_99 ?_
            refine lv_iconst (v := nI 1) hx hb dX3_chest_102 (by decide) ?_
            refine zx_iadd hx hb dX3_chest_103 ?_
            refine zx_put (D := D) (ci := 3) (ty := .int) (v := .int (nI ((s 1) + 1))) (ws' := (zm_w cI cB r) ((zx_up (zx_up (zx_up s 3 (a 15 9 - 48)) 0 1) 1 ((s 1) + 1)), b, y, h)) (C := RX3) (T := TX3) (N := 29) hx hb hts hi3 tyX3 tyX3_ok nmX3 hown hK hP hD hS 0 rfl rfl 1 (by decide) k79 (fun _ h9 => h9) rfl (by decide +kernel) rfl rfl (Nat.le_of_ble_eq_true rfl) rfl dX3_chest_104 (fun H locs hP hD hS => ?_)
            refine lv_aload_n hx hb dX3_chest_107 rfl (lv_at hl 0 rfl) ?_
            refine lv_iconst (v := nI 0) hx hb dX3_chest_108 (by decide) ?_
            refine zx_put (D := D) (ci := 3) (ty := .int) (v := .int (nI 0)) (ws' := (zm_w cI cB r) ((zx_up (zx_up (zx_up (zx_up s 3 (a 15 9 - 48)) 0 1) 1 ((s 1) + 1)) 5 0), b, y, h)) (C := RX3) (T := TX3) (N := 29) hx hb hts hi3 tyX3 tyX3_ok nmX3 hown hK hP hD hS 0 rfl rfl 5 (by decide) k82 (fun _ h9 => h9) rfl (by decide +kernel) rfl rfl (Nat.le_of_ble_eq_true rfl) rfl dX3_chest_109 (fun H locs hP hD hS => ?_)
            refine lv_aload_n hx hb dX3_chest_112 rfl (lv_at hl 0 rfl) ?_
            refine lv_iconst (v := nI 0) hx hb dX3_chest_113 (by decide) ?_
            refine zx_put (D := D) (ci := 3) (ty := .int) (v := .int (nI 0)) (ws' := (zm_w cI cB r) ((zx_up (zx_up (zx_up (zx_up (zx_up s 3 (a 15 9 - 48)) 0 1) 1 ((s 1) + 1)) 5 0) 9 0), b, y, h)) (C := RX3) (T := TX3) (N := 29) hx hb hts hi3 tyX3 tyX3_ok nmX3 hown hK hP hD hS 0 rfl rfl 9 (by decide) k85 (fun _ h9 => h9) rfl (by decide +kernel) rfl rfl (Nat.le_of_ble_eq_true rfl) rfl dX3_chest_114 (fun H locs hP hD hS => ?_)
            refine lv_aload_n hx hb dX3_chest_117 rfl (lv_at hl 0 rfl) ?_
            refine lv_iconst (v := nI 0) hx hb dX3_chest_118 (by decide) ?_
            refine zx_put (D := D) (ci := 3) (ty := .int) (v := .int (nI 0)) (ws' := (zm_w cI cB r) ((zx_up (zx_up (zx_up (zx_up (zx_up (zx_up s 3 (a 15 9 - 48)) 0 1) 1 ((s 1) + 1)) 5 0) 9 0) 14 0), b, y, h)) (C := RX3) (T := TX3) (N := 29) hx hb hts hi3 tyX3 tyX3_ok nmX3 hown hK hP hD hS 0 rfl rfl 14 (by decide) k60 (fun _ h9 => h9) rfl (by decide +kernel) rfl rfl (Nat.le_of_ble_eq_true rfl) rfl dX3_chest_119 (fun H locs hP hD hS => ?_)
            refine lv_iload_n hx hb dX3_chest_122 rfl (lv_at hl 1 rfl) ?_
            exact hret _ _ _ _ _ _ hP hD hS dX3_chest_123 (zd_inr (zd_chestT c_6 (by omega)) ⟨by rw [show d = 9 by omega], b, y, rfl, fun j hj => gy j (by omega), fun j hj => g4 j (by omega), gb⟩)
          · refine lv_aload_n hx hb dX3_chest_33 rfl (lv_at hl 0 rfl) ?_
            refine va_get (D := D) (ci := 3) (v := .ref (r 2)) (C := RX3) (T := TX3) (N := 29) hx hb hts hi3 hown hK hP 0 rfl rfl 2 (by decide) k7 (fun _ h9 => h9) rfl dX3_chest_34 ?_
            refine lv_iload_n hx hb dX3_chest_37 rfl (lv_at hl 2 rfl) ?_
            refine lv_aload_n hx hb dX3_chest_38 rfl (lv_at hl 0 rfl) ?_
            refine va_get (D := D) (ci := 3) (v := .ref (r 15)) (C := RX3) (T := TX3) (N := 29) hx hb hts hi3 hown hK hP 0 rfl rfl 15 (by decide) k34 (fun _ h9 => h9) rfl dX3_chest_39 ?_
            refine lv_iload_n hx hb dX3_chest_42 rfl (lv_at hl 2 rfl) ?_
            refine zx_bld (f := b 15) (n := 12) hx hb hK hP 9 1 rfl rfl (by omega) (by decide) dX3_chest_43 ?_
            refine zx_S (As := [.int (nI ((b 15) d))]) (rest := [.int (nI d), .ref (r 2)]) cf (c_X3_delayBy l D ((b 15) d) (by rw [gb 15 (by decide)]; exact iG d (by omega))) (va_cwS 1 hts gX3_chest_X3_delayBy rfl rfl rfl hd_X3_delayBy ⟨Nat.le_of_ble_eq_true rfl, Nat.le_of_ble_eq_true rfl⟩) hK hN hP hS hA rfl hl.1 rfl (Nat.le_of_ble_eq_true rfl) dX3_chest_44 ⟨Nat.zero_le _, Nat.zero_le _⟩ (fun H locs hP hS => ?_)
            refine zx_astI (f := y) (n := 9) (ws' := (zm_w cI cB r) (s, b, (zx_up y d (zp_dl ((b 15) d))), h)) hx hb hK hP hD hS 1 0 rfl rfl (by omega) (by decide) rfl dX3_chest_47 (fun H locs hP hD hS => ?_)
            refine lv_aload_n hx hb dX3_chest_48 rfl (lv_at hl 0 rfl) ?_
            refine va_get (D := D) (ci := 3) (v := .ref (r 4)) (C := RX3) (T := TX3) (N := 29) hx hb hts hi3 hown hK hP 0 rfl rfl 4 (by decide) k13 (fun _ h9 => h9) rfl dX3_chest_49 ?_
            refine lv_iload_n hx hb dX3_chest_52 rfl (lv_at hl 2 rfl) ?_
            refine lv_iconst (v := nI 0) hx hb dX3_chest_53 (by decide) ?_
            refine zx_ast (f := b 4) (n := 9) (ws' := (zm_w cI cB r) (s, (zx_up b 4 (zx_up (b 4) d 0)), (zx_up y d (zp_dl ((b 15) d))), h)) hx hb hK hP hD hS 2 0 rfl rfl (by omega) (by decide) rfl dX3_chest_54 (fun H locs hP hD hS => ?_)
            refine lv_iload_n hx hb dX3_chest_55 rfl (lv_at hl 1 rfl) ?_
            refine lv_aload_n hx hb dX3_chest_56 rfl (lv_at hl 0 rfl) ?_
            refine va_get (D := D) (ci := 3) (v := .ref (r 2)) (C := RX3) (T := TX3) (N := 29) hx hb hts hi3 hown hK hP 0 rfl rfl 2 (by decide) k7 (fun _ h9 => h9) rfl dX3_chest_57 ?_
            refine lv_iload_n hx hb dX3_chest_60 rfl (lv_at hl 2 rfl) ?_
            refine zx_aldI (f := (zx_up y d (zp_dl ((b 15) d)))) (n := 9) hx hb hK hP 1 0 rfl rfl (by omega) (by decide) dX3_chest_61 ?_
            refine zx_topi (y := zx_i (zp_dl (a 15 d))) ((by rw [zx_up_eq, gb 15 (by decide)])) ?_
            refine lv_if_ne (tgt := 69) hx hb dX3_chest_62 (by decide) (fun c_62 => ?_) (fun c_62 => ?_)
            · refine lv_iconst (v := nI 1) hx hb dX3_chest_69 (by decide) ?_
              refine zx_iadd hx hb dX3_chest_70 ?_
              refine lv_istore_n (lv' := [(1, .int (nI ((zp_cnt (fun j => !decide (zp_dl (a 15 j) = 0)) d) + 1))), (0, .ref (r 0)), (2, .int (nI d))]) hx hb dX3_chest_71 rfl hl (by decide) rfl (fun ls hl => ?_)
              refine lv_iinc (v := nI (d + 1)) (lv' := [(2, .int (nI (d + 1))), (1, .int (nI ((zp_cnt (fun j => !decide (zp_dl (a 15 j) = 0)) d) + 1))), (0, .ref (r 0))]) hx hb dX3_chest_72 hl (k := 2) rfl (zx_inc _ _) (by decide) rfl (fun ls hl => ?_)
              refine lv_goto (tgt := 27) hx hb dX3_chest_75 (by decide) ?_
              exact ih_27 (d + 1) (zx_up b 4 (zx_up (b 4) d 0)) (zx_up y d (zp_dl ((b 15) d))) (by omega) (by omega) (zp_upN (by rw [gb 15 (by decide)]) gy) (by rw [zx_up_eq]; exact zp_upN rfl g4) (fun k hk => (zx_up_ne _ _ hk).trans (gb k hk)) _ (zp_cntT (f := (fun j => !decide (zp_dl (a 15 j) = 0))) (by simpa using fun q9 => c_62 (congrArg zx_i q9))) _ rfl _ _ hP hD hS ls (lv_sub hl [2, 1, 0] rfl)
            · refine lv_iconst (v := nI 0) hx hb dX3_chest_65 (by decide) ?_
              refine lv_goto (tgt := 70) hx hb dX3_chest_66 (by decide) ?_
              refine zx_iadd hx hb dX3_chest_70 ?_
              refine lv_istore_n (lv' := [(1, .int (nI ((zp_cnt (fun j => !decide (zp_dl (a 15 j) = 0)) d) + 0))), (0, .ref (r 0)), (2, .int (nI d))]) hx hb dX3_chest_71 rfl hl (by decide) rfl (fun ls hl => ?_)
              refine lv_iinc (v := nI (d + 1)) (lv' := [(2, .int (nI (d + 1))), (1, .int (nI ((zp_cnt (fun j => !decide (zp_dl (a 15 j) = 0)) d) + 0))), (0, .ref (r 0))]) hx hb dX3_chest_72 hl (k := 2) rfl (zx_inc _ _) (by decide) rfl (fun ls hl => ?_)
              refine lv_goto (tgt := 27) hx hb dX3_chest_75 (by decide) ?_
              exact ih_27 (d + 1) (zx_up b 4 (zx_up (b 4) d 0)) (zx_up y d (zp_dl ((b 15) d))) (by omega) (by omega) (zp_upN (by rw [gb 15 (by decide)]) gy) (by rw [zx_up_eq]; exact zp_upN rfl g4) (fun k hk => (zx_up_ne _ _ hk).trans (gb k hk)) _ (zp_cntF (f := (fun j => !decide (zp_dl (a 15 j) = 0))) (by simpa using (zx_dl0 _ (iG d (by omega))).mp c_62)) _ rfl _ _ hP hD hS ls (lv_sub hl [2, 1, 0] rfl)
      exact lp_27 _ 0 a z (Nat.lt_succ_self _) (by decide) (fun j hj => absurd hj (Nat.not_lt_zero j)) (fun j hj => absurd hj (Nat.not_lt_zero j)) (fun k _ => rfl) _ rfl _ rfl _ _ hP hD hS ls (lv_sub hl [2, 1, 0] rfl)
    · refine lv_bipush (v := (-103)) hx hb dX3_chest_20 (by decide) ?_
      exact hret _ _ _ _ _ _ hP hD hS dX3_chest_22 (zd_inl (zd_chestF (Or.inr (fun q9 => c_17 (q9.trans c_6.symm)))) ⟨rfl, rfl⟩)
set_option maxHeartbeats 4000000 in
set_option maxRecDepth 100000 in
theorem c_X3_putBy (l : Launch) (D : va_G) (cI cB : ClassId) (r : Nat → Nat) (s : Nat → Nat) (a : Nat → Nat → Nat) (z : Nat → Int) (h : Int64) (d w : Nat) (hI : zm_I s a z) (hd : d < 9) (hw : w < 128) : zx_C zx_ei l D (zm_t cI cB) (zm_w cI cB r) yX3_putBy wsX3_putBy rmX3_putBy [.ref (r 0), .int (nI d), .int (nI w)] (s, a, z, h) (fun v u' => v = nI (zp_put (s 5) (a 6) (a 7) (a 8) d w) ∧ u' = (s, a, z, h)) := by
  refine zx_of_i (cc := cX3_putBy) (maxL := 6) (by decide) rfl (Nat.le_of_ble_eq_true rfl) ?_
  intro p e st m args below meth c A Q H cf hK hN hP hD hS hA hret ls hl
  obtain ⟨hx, hb, hml, hown, hts⟩ := id cf
  have hi3 : ∀ w ∈ wsX30, w ∈ wsX3_putBy := fun w h => List.mem_cons_of_mem _ (List.mem_append_right _ h)
  have k82 := hts (.fieldLink RX3 82 "NineDrawersModel" "people" "I") (List.mem_of_getElem? (i := 1) (by decide +kernel))
  have k19 := hts (.fieldLink RX3 19 "NineDrawersModel" "drawerOf" "[I") (List.mem_of_getElem? (i := 2) (by decide +kernel))
  have k16 := hts (.fieldLink RX3 16 "NineDrawersModel" "kindOf" "[I") (List.mem_of_getElem? (i := 3) (by decide +kernel))
  have k22 := hts (.fieldLink RX3 22 "NineDrawersModel" "dayOf" "[I") (List.mem_of_getElem? (i := 4) (by decide +kernel))
  have hl : lv_has ls 6 [(0, .ref (r 0)), (1, .int (nI d)), (2, .int (nI w))] := hl
  have hP : va_P D vwCl ((zm_w cI cB r) (s, a, z, h)) H := hP
  have hD : va_D A ((zm_w cI cB r) (s, a, z, h)) := hD
  obtain ⟨⟨i0, i1, i3, i5, i9, i13, i14⟩, ⟨i17, i18, i19, i20, i21⟩, iP, iF, iL, iG, iZ, jL, jP, jF⟩ := id hI
  refine lv_iconst (v := nI 0) hx hb dX3_putBy_0 (by decide) ?_
  refine lv_istore_n (lv' := [(3, .int (nI 0)), (0, .ref (r 0)), (1, .int (nI d)), (2, .int (nI w))]) hx hb dX3_putBy_1 rfl hl (by decide) rfl (fun ls hl => ?_)
  refine lv_iconst (v := nI 0) hx hb dX3_putBy_2 (by decide) ?_
  refine lv_istore (lv' := [(4, .int (nI 0)), (3, .int (nI 0)), (0, .ref (r 0)), (1, .int (nI d)), (2, .int (nI w))]) hx hb dX3_putBy_3 hl (by decide) rfl (fun ls hl => ?_)
  have lp_5 : ∀ (n_ : Nat) (k : Nat) (b : Nat), s 5 - k < n_ → (k ≤ s 5) → (∀ i, b.testBit i = (decide (i < 7) && zp_pt k (a 6) (a 7) (a 8) d i (w.testBit i))) → ∀ x1 : Int32, x1 = nI d → ∀ x2 : Int32, x2 = nI w → ∀ x3 : Int32, x3 = nI b → ∀ x4 : Int32, x4 = nI k → ∀ (H : Heap) (locs : List Loc), va_P D vwCl ((zm_w cI cB r) (s, a, z, h)) H → va_D A ((zm_w cI cB r) (s, a, z, h)) → va_S A st.heap H locs → ∀ ls : Array Slot, lv_has ls 6 [(0, .ref (r 0)), (1, .int x1), (2, .int x2), (3, .int x3), (4, .int x4)] → W p l e rmX3_putBy st m args below meth c H locs 0 0 Q (F0 m 5 ls []) := by
    intro n_
    induction n_ with
    | zero => intros; omega
    | succ n_ ih_5 =>
      intro k b hmu_5 hk9 gb
      intro x1 ex1; subst ex1
      intro x2 ex2; subst ex2
      intro x3 ex3; subst ex3
      intro x4 ex4; subst ex4
      intro H locs hP hD hS ls hl
      have hl : lv_has ls 6 [(0, .ref (r 0)), (1, .int (nI d)), (2, .int (nI w)), (3, .int (nI b)), (4, .int (nI k))] := hl
      refine lv_iload hx hb dX3_putBy_5 (lv_at hl 4 rfl) ?_
      refine lv_aload_n hx hb dX3_putBy_7 rfl (lv_at hl 0 rfl) ?_
      refine va_get (D := D) (ci := 3) (v := .int (nI (s 5))) (C := RX3) (T := TX3) (N := 29) hx hb hts hi3 hown hK hP 0 rfl rfl 5 (by decide) k82 (fun _ h9 => h9) rfl dX3_putBy_8 ?_
      refine zx_icmp_ge hx hb (tgt := 86) (by omega) (by omega) dX3_putBy_11 (by decide) (fun c_11 => ?_) (fun c_11 => ?_)
      · refine lv_iload_n hx hb dX3_putBy_86 rfl (lv_at hl 3 rfl) ?_
        exact hret _ _ _ _ _ _ hP hD hS dX3_putBy_87 ⟨congrArg nI (zp_put_eq (by omega) gb), rfl⟩
      · refine lv_iconst (v := nI 0) hx hb dX3_putBy_14 (by decide) ?_
        refine lv_istore (lv' := [(5, .int (nI 0)), (0, .ref (r 0)), (1, .int (nI d)), (2, .int (nI w)), (3, .int (nI b)), (4, .int (nI k))]) hx hb dX3_putBy_15 hl (by decide) rfl (fun ls hl => ?_)
        have lp_17 : ∀ (n_ : Nat) (j : Nat) (b2 : Nat), 7 - j < n_ → (j ≤ 7) → (∀ i, b2.testBit i = ((decide (i < 7) && zp_pt k (a 6) (a 7) (a 8) d i (w.testBit i)) || (decide (i < j) && (decide (a 7 k = d) && zp_puts (a 6 k) (a 8 k) i (w.testBit i))))) → ∀ x1 : Int32, x1 = nI d → ∀ x2 : Int32, x2 = nI w → ∀ x3 : Int32, x3 = nI b2 → ∀ x4 : Int32, x4 = nI k → ∀ x5 : Int32, x5 = nI j → ∀ (H : Heap) (locs : List Loc), va_P D vwCl ((zm_w cI cB r) (s, a, z, h)) H → va_D A ((zm_w cI cB r) (s, a, z, h)) → va_S A st.heap H locs → ∀ ls : Array Slot, lv_has ls 6 [(0, .ref (r 0)), (1, .int x1), (2, .int x2), (3, .int x3), (4, .int x4), (5, .int x5)] → W p l e rmX3_putBy st m args below meth c H locs 0 0 Q (F0 m 17 ls []) := by
          intro n_
          induction n_ with
          | zero => intros; omega
          | succ n_ ih_17 =>
            intro j b2 hmu_17 hj9 g2
            intro x1 ex1; subst ex1
            intro x2 ex2; subst ex2
            intro x3 ex3; subst ex3
            intro x4 ex4; subst ex4
            intro x5 ex5; subst ex5
            intro H locs hP hD hS ls hl
            have hl : lv_has ls 6 [(0, .ref (r 0)), (1, .int (nI d)), (2, .int (nI w)), (3, .int (nI b2)), (4, .int (nI k)), (5, .int (nI j))] := hl
            refine lv_iload hx hb dX3_putBy_17 (lv_at hl 5 rfl) ?_
            refine lv_bipush (v := nI 7) hx hb dX3_putBy_19 (by decide) ?_
            refine zx_icmp_ge hx hb (tgt := 80) (by omega) (by omega) dX3_putBy_21 (by decide) (fun c_21 => ?_) (fun c_21 => ?_)
            · refine lv_iinc (v := nI (k + 1)) (lv' := [(4, .int (nI (k + 1))), (0, .ref (r 0)), (1, .int (nI d)), (2, .int (nI w)), (3, .int (nI b2)), (5, .int (nI j))]) hx hb dX3_putBy_80 hl (k := 4) rfl (zx_inc _ _) (by decide) rfl (fun ls hl => ?_)
              refine lv_goto (tgt := 5) hx hb dX3_putBy_83 (by decide) ?_
              exact ih_5 (k + 1) b2 (by omega) (by omega) (fun i => (g2 i).trans (zp_pt_end (by omega))) _ rfl _ rfl _ rfl _ rfl _ _ hP hD hS ls (lv_sub hl [1, 2, 3, 4, 0] rfl)
            · refine lv_aload_n hx hb dX3_putBy_24 rfl (lv_at hl 0 rfl) ?_
              refine va_get (D := D) (ci := 3) (v := .ref (r 7)) (C := RX3) (T := TX3) (N := 29) hx hb hts hi3 hown hK hP 0 rfl rfl 7 (by decide) k19 (fun _ h9 => h9) rfl dX3_putBy_25 ?_
              refine lv_iload hx hb dX3_putBy_28 (lv_at hl 4 rfl) ?_
              refine zx_ald (f := a 7) (n := 6) hx hb hK hP 4 0 rfl rfl (by omega) (by decide) dX3_putBy_30 ?_
              refine lv_iload_n hx hb dX3_putBy_31 rfl (lv_at hl 1 rfl) ?_
              refine zx_icmp_ne hx hb (tgt := 80) (by have := (iP k (by omega)).2.1; omega) (by omega) dX3_putBy_32 (by decide) (fun c_32 => ?_) (fun c_32 => ?_)
              · refine lv_iinc (v := nI (k + 1)) (lv' := [(4, .int (nI (k + 1))), (0, .ref (r 0)), (1, .int (nI d)), (2, .int (nI w)), (3, .int (nI b2)), (5, .int (nI j))]) hx hb dX3_putBy_80 hl (k := 4) rfl (zx_inc _ _) (by decide) rfl (fun ls hl => ?_)
                refine lv_goto (tgt := 5) hx hb dX3_putBy_83 (by decide) ?_
                exact ih_5 (k + 1) b2 (by omega) (by omega) (fun i => (g2 i).trans (zp_pt_no c_32)) _ rfl _ rfl _ rfl _ rfl _ _ hP hD hS ls (lv_sub hl [1, 2, 3, 4, 0] rfl)
              · refine lv_iload_n hx hb dX3_putBy_35 rfl (lv_at hl 3 rfl) ?_
                refine lv_aload_n hx hb dX3_putBy_36 rfl (lv_at hl 0 rfl) ?_
                refine va_get (D := D) (ci := 3) (v := .ref (r 6)) (C := RX3) (T := TX3) (N := 29) hx hb hts hi3 hown hK hP 0 rfl rfl 6 (by decide) k16 (fun _ h9 => h9) rfl dX3_putBy_37 ?_
                refine lv_iload hx hb dX3_putBy_40 (lv_at hl 4 rfl) ?_
                refine zx_ald (f := a 6) (n := 6) hx hb hK hP 3 0 rfl rfl (by omega) (by decide) dX3_putBy_42 ?_
                refine lv_aload_n hx hb dX3_putBy_43 rfl (lv_at hl 0 rfl) ?_
                refine va_get (D := D) (ci := 3) (v := .ref (r 8)) (C := RX3) (T := TX3) (N := 29) hx hb hts hi3 hown hK hP 0 rfl rfl 8 (by decide) k22 (fun _ h9 => h9) rfl dX3_putBy_44 ?_
                refine lv_iload hx hb dX3_putBy_47 (lv_at hl 4 rfl) ?_
                refine zx_ald (f := a 8) (n := 6) hx hb hK hP 5 0 rfl rfl (by omega) (by decide) dX3_putBy_49 ?_
                refine lv_iload hx hb dX3_putBy_50 (lv_at hl 5 rfl) ?_
                refine lv_iload_n hx hb dX3_putBy_52 rfl (lv_at hl 2 rfl) ?_
                refine lv_iload hx hb dX3_putBy_53 (lv_at hl 5 rfl) ?_
                refine zx_S (As := [.int (nI w), .int (nI j)]) (rest := [.int (nI j), .int (nI ((a 8) k)), .int (nI ((a 6) k)), .int (nI b2)]) cf (c_X3_has l D w j (by omega) (by omega)) (va_cwS 2 hts gX3_putBy_X3_has rfl rfl rfl hd_X3_has ⟨Nat.le_of_ble_eq_true rfl, Nat.le_of_ble_eq_true rfl⟩) hK hN hP hS hA rfl hl.1 rfl (Nat.le_of_ble_eq_true rfl) dX3_putBy_55 ⟨Nat.zero_le _, Nat.zero_le _⟩ (fun H locs hP hS => ?_)
                refine zx_S (As := [.int (nI ((a 6) k)), .int (nI ((a 8) k)), .int (nI j), .int (zx_b (Nat.testBit w j))]) (rest := [.int (nI b2)]) cf (c_X3_puts l D ((a 6) k) ((a 8) k) j (Nat.testBit w j) (by have := (iP k (by omega)).1; omega) (by have := (iP k (by omega)).2.2; omega) (by omega)) (va_cwS 4 hts gX3_putBy_X3_puts rfl rfl rfl hd_X3_puts ⟨Nat.le_of_ble_eq_true rfl, Nat.le_of_ble_eq_true rfl⟩) hK hN hP hS hA rfl hl.1 rfl (Nat.le_of_ble_eq_true rfl) dX3_putBy_58 ⟨Nat.zero_le _, Nat.zero_le _⟩ (fun H locs hP hS => ?_)
                refine zx_bf_eq hx hb (tgt := 71) dX3_putBy_61 (by decide) (fun c_61 => ?_) (fun c_61 => ?_)
                · refine lv_iconst (v := nI 0) hx hb dX3_putBy_71 (by decide) ?_
                  refine zx_ior hx hb dX3_putBy_72 ?_
                  refine lv_istore_n (lv' := [(3, .int (nI (b2 ||| 0))), (0, .ref (r 0)), (1, .int (nI d)), (2, .int (nI w)), (4, .int (nI k)), (5, .int (nI j))]) hx hb dX3_putBy_73 rfl hl (by decide) rfl (fun ls hl => ?_)
                  refine lv_iinc (v := nI (j + 1)) (lv' := [(5, .int (nI (j + 1))), (3, .int (nI (b2 ||| 0))), (0, .ref (r 0)), (1, .int (nI d)), (2, .int (nI w)), (4, .int (nI k))]) hx hb dX3_putBy_74 hl (k := 5) rfl (zx_inc _ _) (by decide) rfl (fun ls hl => ?_)
                  refine lv_goto (tgt := 17) hx hb dX3_putBy_77 (by decide) ?_
                  exact ih_17 (j + 1) (b2 ||| 0) (by omega) (by omega) (zp_putF g2 c_61) _ rfl _ rfl _ rfl _ rfl _ rfl _ _ hP hD hS ls (lv_sub hl [2, 3, 4, 1, 5, 0] rfl)
                · refine lv_iconst (v := nI 1) hx hb dX3_putBy_64 (by decide) ?_
                  refine lv_iload hx hb dX3_putBy_65 (lv_at hl 5 rfl) ?_
                  refine zx_ishl1 hx hb (by omega) dX3_putBy_67 ?_
                  refine lv_goto (tgt := 72) hx hb dX3_putBy_68 (by decide) ?_
                  refine zx_ior hx hb dX3_putBy_72 ?_
                  refine lv_istore_n (lv' := [(3, .int (nI (b2 ||| (2 ^ j)))), (0, .ref (r 0)), (1, .int (nI d)), (2, .int (nI w)), (4, .int (nI k)), (5, .int (nI j))]) hx hb dX3_putBy_73 rfl hl (by decide) rfl (fun ls hl => ?_)
                  refine lv_iinc (v := nI (j + 1)) (lv' := [(5, .int (nI (j + 1))), (3, .int (nI (b2 ||| (2 ^ j)))), (0, .ref (r 0)), (1, .int (nI d)), (2, .int (nI w)), (4, .int (nI k))]) hx hb dX3_putBy_74 hl (k := 5) rfl (zx_inc _ _) (by decide) rfl (fun ls hl => ?_)
                  refine lv_goto (tgt := 17) hx hb dX3_putBy_77 (by decide) ?_
                  exact ih_17 (j + 1) (b2 ||| (2 ^ j)) (by omega) (by omega) (zp_putT g2 c_21 c_32 c_61) _ rfl _ rfl _ rfl _ rfl _ rfl _ _ hP hD hS ls (lv_sub hl [2, 3, 4, 1, 5, 0] rfl)
        exact lp_17 _ 0 b (Nat.lt_succ_self _) (Nat.zero_le _) (fun i => by rw [gb i]; simp) _ rfl _ rfl _ rfl _ rfl _ rfl _ _ hP hD hS ls (lv_sub hl [1, 2, 3, 4, 5, 0] rfl)
  exact lp_5 _ 0 0 (Nat.lt_succ_self _) (Nat.zero_le _) (fun i => by simp [zp_pt, zp_any]) _ rfl _ rfl _ rfl _ rfl _ _ hP hD hS ls (lv_sub hl [2, 3, 4, 1, 0] rfl)
