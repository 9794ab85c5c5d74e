set_option maxHeartbeats 4000000 in
set_option maxRecDepth 100000 in
theorem c_X2_isDay (l : Launch) (D : va_G) (x : Int32)  : zx_C0 l D yX2_isDay wsX2_isDay rmX2_isDay [.int x] (zx_b (decide (nI 0 ≤ x ∧ x ≤ nI 6))) := by
  refine zx_of_z (cc := cX2_isDay) (maxL := 1) (by decide) rfl (Nat.le_of_ble_eq_true rfl) ?_
  intro p e st m args below meth c A Q H cf hK hN hP hD hS hA hret ls hl
  obtain ⟨hx, hb, hml, hown, hts⟩ := id cf
  have hl : lv_has ls 1 [(0, .int x)] := hl
  refine lv_iload_n hx hb dX2_isDay_0 rfl (lv_at hl 0 rfl) ?_
  refine lv_if_lt (tgt := 14) hx hb dX2_isDay_1 (by decide) (fun c_1 => ?_) (fun c_1 => ?_)
  · refine lv_iconst (v := nI 0) hx hb dX2_isDay_14 (by decide) ?_
    exact hret _ _ _ _ _ _ hP hD hS dX2_isDay_15 zx_nar0 (zx_b_f (decide_eq_false (fun q9 => zx_lt0 c_1 q9.1)))
  · refine lv_iload_n hx hb dX2_isDay_4 rfl (lv_at hl 0 rfl) ?_
    refine lv_bipush (v := nI 7) hx hb dX2_isDay_5 (by decide) ?_
    refine lv_icmp_ge (tgt := 14) hx hb dX2_isDay_7 (by decide) (fun c_7 => ?_) (fun c_7 => ?_)
    · refine lv_iconst (v := nI 0) hx hb dX2_isDay_14 (by decide) ?_
      exact hret _ _ _ _ _ _ hP hD hS dX2_isDay_15 zx_nar0 (zx_b_f (decide_eq_false (fun q9 => zx_ge6 c_7 q9.2)))
    · refine lv_iconst (v := nI 1) hx hb dX2_isDay_10 (by decide) ?_
      refine lv_goto (tgt := 15) hx hb dX2_isDay_11 (by decide) ?_
      exact hret _ _ _ _ _ _ hP hD hS dX2_isDay_15 zx_nar1 (zx_b_t (decide_eq_true ⟨zx_nlt c_1, zx_lt6 c_7⟩))
set_option maxHeartbeats 4000000 in
set_option maxRecDepth 100000 in
theorem c_X2_isKind (l : Launch) (D : va_G) (x : Int32)  : zx_C0 l D yX2_isKind wsX2_isKind rmX2_isKind [.int x] (zx_b (decide (nI 0 ≤ x ∧ x ≤ nI 4))) := by
  refine zx_of_z (cc := cX2_isKind) (maxL := 1) (by decide) rfl (Nat.le_of_ble_eq_true rfl) ?_
  intro p e st m args below meth c A Q H cf hK hN hP hD hS hA hret ls hl
  obtain ⟨hx, hb, hml, hown, hts⟩ := id cf
  have hl : lv_has ls 1 [(0, .int x)] := hl
  refine lv_iload_n hx hb dX2_isKind_0 rfl (lv_at hl 0 rfl) ?_
  refine lv_if_lt (tgt := 13) hx hb dX2_isKind_1 (by decide) (fun c_1 => ?_) (fun c_1 => ?_)
  · refine lv_iconst (v := nI 0) hx hb dX2_isKind_13 (by decide) ?_
    exact hret _ _ _ _ _ _ hP hD hS dX2_isKind_14 zx_nar0 (zx_b_f (decide_eq_false (fun q9 => zx_lt0 c_1 q9.1)))
  · refine lv_iload_n hx hb dX2_isKind_4 rfl (lv_at hl 0 rfl) ?_
    refine lv_iconst (v := nI 5) hx hb dX2_isKind_5 (by decide) ?_
    refine lv_icmp_ge (tgt := 13) hx hb dX2_isKind_6 (by decide) (fun c_6 => ?_) (fun c_6 => ?_)
    · refine lv_iconst (v := nI 0) hx hb dX2_isKind_13 (by decide) ?_
      exact hret _ _ _ _ _ _ hP hD hS dX2_isKind_14 zx_nar0 (zx_b_f (decide_eq_false (fun q9 => zx_ge4 c_6 q9.2)))
    · refine lv_iconst (v := nI 1) hx hb dX2_isKind_9 (by decide) ?_
      refine lv_goto (tgt := 14) hx hb dX2_isKind_10 (by decide) ?_
      exact hret _ _ _ _ _ _ hP hD hS dX2_isKind_14 zx_nar1 (zx_b_t (decide_eq_true ⟨zx_nlt c_1, zx_lt4 c_6⟩))
set_option maxHeartbeats 4000000 in
set_option maxRecDepth 100000 in
theorem c_X2_bitOf (l : Launch) (D : va_G) (x k : Nat) (hx0 : x < 2147483648) (hk : k < 31) : zx_C0 l D yX2_bitOf wsX2_bitOf rmX2_bitOf [.int (nI x), .int (nI k)] (nI (zx_n (x.testBit k))) := by
  refine zx_of_i (cc := cX2_bitOf) (maxL := 2) (by decide) rfl (Nat.le_of_ble_eq_true rfl) ?_
  intro p e st m args below meth c A Q H cf hK hN hP hD hS hA hret ls hl
  obtain ⟨hx, hb, hml, hown, hts⟩ := id cf
  have hl : lv_has ls 2 [(0, .int (nI x)), (1, .int (nI k))] := hl
  refine lv_iload_n hx hb dX2_bitOf_0 rfl (lv_at hl 0 rfl) ?_
  refine lv_iload_n hx hb dX2_bitOf_1 rfl (lv_at hl 1 rfl) ?_
  refine zx_ishr hx hb (by omega) (by omega) dX2_bitOf_2 ?_
  refine lv_iconst (v := nI 1) hx hb dX2_bitOf_3 (by decide) ?_
  refine zx_iand hx hb dX2_bitOf_4 ?_
  refine zx_topi (y := nI (zx_n (x.testBit k))) (congrArg nI (zx_tbn _ _)) ?_
  exact hret _ _ _ _ _ _ hP hD hS dX2_bitOf_5 rfl
set_option maxHeartbeats 4000000 in
set_option maxRecDepth 100000 in
theorem c_X2_fits (l : Launch) (D : va_G) (k c9 : Nat) (hk : k < 12) (hc : c9 < 128) : zx_C0 l D yX2_fits wsX2_fits rmX2_fits [.int (nI k), .int (nI c9)] (zx_b (zp_okl k c9)) := by
  refine zx_of_z (cc := cX2_fits) (maxL := 2) (by decide) rfl (Nat.le_of_ble_eq_true rfl) ?_
  intro p e st m args below meth c A Q H cf hK hN hP hD hS hA hret ls hl
  obtain ⟨hx, hb, hml, hown, hts⟩ := id cf
  have hl : lv_has ls 2 [(0, .int (nI k)), (1, .int (nI c9))] := hl
  refine lv_iload_n hx hb dX2_fits_0 rfl (lv_at hl 0 rfl) ?_
  refine lv_bipush (v := nI 9) hx hb dX2_fits_1 (by decide) ?_
  refine zx_icmp_ge hx hb (tgt := 36) (by omega) (by omega) dX2_fits_3 (by decide) (fun c_3 => ?_) (fun c_3 => ?_)
  · refine lv_iload_n hx hb dX2_fits_36 rfl (lv_at hl 0 rfl) ?_
    refine lv_bipush (v := nI 9) hx hb dX2_fits_37 (by decide) ?_
    refine zx_icmp_ne hx hb (tgt := 58) (by omega) (by omega) dX2_fits_39 (by decide) (fun c_39 => ?_) (fun c_39 => ?_)
    · refine lv_iconst (v := nI 0) hx hb dX2_fits_58 (by decide) ?_
      exact hret _ _ _ _ _ _ hP hD hS dX2_fits_59 zx_nar0 (zx_b_f (by rw [zp_okl_ge c_3]; simp; omega))
    · refine lv_iload_n hx hb dX2_fits_42 rfl (lv_at hl 1 rfl) ?_
      refine lv_bipush (v := nI 48) hx hb dX2_fits_43 (by decide) ?_
      refine zx_icmp_lt hx hb (tgt := 58) (by omega) (by omega) dX2_fits_45 (by decide) (fun c_45 => ?_) (fun c_45 => ?_)
      · refine lv_iconst (v := nI 0) hx hb dX2_fits_58 (by decide) ?_
        exact hret _ _ _ _ _ _ hP hD hS dX2_fits_59 zx_nar0 (zx_b_f (by rw [zp_okl_ge c_3]; simp; omega))
      · refine lv_iload_n hx hb dX2_fits_48 rfl (lv_at hl 1 rfl) ?_
        refine lv_bipush (v := nI 52) hx hb dX2_fits_49 (by decide) ?_
        refine zx_icmp_ge hx hb (tgt := 58) (by omega) (by omega) dX2_fits_51 (by decide) (fun c_51 => ?_) (fun c_51 => ?_)
        · refine lv_iconst (v := nI 0) hx hb dX2_fits_58 (by decide) ?_
          exact hret _ _ _ _ _ _ hP hD hS dX2_fits_59 zx_nar0 (zx_b_f (by rw [zp_okl_ge c_3]; simp; omega))
        · refine lv_iconst (v := nI 1) hx hb dX2_fits_54 (by decide) ?_
          refine lv_goto (tgt := 59) hx hb dX2_fits_55 (by decide) ?_
          exact hret _ _ _ _ _ _ hP hD hS dX2_fits_59 zx_nar1 (zx_b_t (by rw [zp_okl_ge c_3]; simp; omega))
  · refine lv_iload_n hx hb dX2_fits_6 rfl (lv_at hl 1 rfl) ?_
    refine lv_bipush (v := nI 121) hx hb dX2_fits_7 (by decide) ?_
    refine zx_icmp_eq hx hb (tgt := 30) (by omega) (by omega) dX2_fits_9 (by decide) (fun c_9 => ?_) (fun c_9 => ?_)
    · refine lv_iconst (v := nI 1) hx hb dX2_fits_30 (by decide) ?_
      refine lv_goto (tgt := 35) hx hb dX2_fits_31 (by decide) ?_
      exact hret _ _ _ _ _ _ hP hD hS dX2_fits_35 zx_nar1 (zx_b_t (by rw [zp_okl_lt c_3 hc]; simp; omega))
    · refine lv_iload_n hx hb dX2_fits_12 rfl (lv_at hl 1 rfl) ?_
      refine lv_bipush (v := nI 122) hx hb dX2_fits_13 (by decide) ?_
      refine zx_icmp_eq hx hb (tgt := 30) (by omega) (by omega) dX2_fits_15 (by decide) (fun c_15 => ?_) (fun c_15 => ?_)
      · refine lv_iconst (v := nI 1) hx hb dX2_fits_30 (by decide) ?_
        refine lv_goto (tgt := 35) hx hb dX2_fits_31 (by decide) ?_
        exact hret _ _ _ _ _ _ hP hD hS dX2_fits_35 zx_nar1 (zx_b_t (by rw [zp_okl_lt c_3 hc]; simp; omega))
      · refine lv_iload_n hx hb dX2_fits_18 rfl (lv_at hl 1 rfl) ?_
        refine lv_bipush (v := nI 97) hx hb dX2_fits_19 (by decide) ?_
        refine zx_icmp_lt hx hb (tgt := 34) (by omega) (by omega) dX2_fits_21 (by decide) (fun c_21 => ?_) (fun c_21 => ?_)
        · refine lv_iconst (v := nI 0) hx hb dX2_fits_34 (by decide) ?_
          exact hret _ _ _ _ _ _ hP hD hS dX2_fits_35 zx_nar0 (zx_b_f (by rw [zp_okl_lt c_3 hc]; simp; omega))
        · refine lv_iload_n hx hb dX2_fits_24 rfl (lv_at hl 1 rfl) ?_
          refine lv_bipush (v := nI 100) hx hb dX2_fits_25 (by decide) ?_
          refine zx_icmp_gt hx hb (tgt := 34) (by omega) (by omega) dX2_fits_27 (by decide) (fun c_27 => ?_) (fun c_27 => ?_)
          · refine lv_iconst (v := nI 0) hx hb dX2_fits_34 (by decide) ?_
            exact hret _ _ _ _ _ _ hP hD hS dX2_fits_35 zx_nar0 (zx_b_f (by rw [zp_okl_lt c_3 hc]; simp; omega))
          · refine lv_iconst (v := nI 1) hx hb dX2_fits_30 (by decide) ?_
            refine lv_goto (tgt := 35) hx hb dX2_fits_31 (by decide) ?_
            exact hret _ _ _ _ _ _ hP hD hS dX2_fits_35 zx_nar1 (zx_b_t (by rw [zp_okl_lt c_3 hc]; simp; omega))
set_option maxHeartbeats 4000000 in
set_option maxRecDepth 100000 in
theorem c_X2_delayByLetter (l : Launch) (D : va_G) (c9 : Nat) (hc : c9 < 128) (hd : zp_dl c9 ≠ 99) : zx_C0 l D yX2_delayByLetter wsX2_delayByLetter rmX2_delayByLetter [.int (nI c9)] (zx_i (zp_dl c9)) := by
  refine zx_of_i (cc := cX2_delayByLetter) (maxL := 1) (by decide) rfl (Nat.le_of_ble_eq_true rfl) ?_
  intro p e st m args below meth c A Q H cf hK hN hP hD hS hA hret ls hl
  obtain ⟨hx, hb, hml, hown, hts⟩ := id cf
  have hl : lv_has ls 1 [(0, .int (nI c9))] := hl
  refine lv_iload_n hx hb dX2_delayByLetter_0 rfl (lv_at hl 0 rfl) ?_
  refine lv_bipush (v := nI 121) hx hb dX2_delayByLetter_1 (by decide) ?_
  refine zx_icmp_lt hx hb (tgt := 15) (by omega) (by omega) dX2_delayByLetter_3 (by decide) (fun c_3 => ?_) (fun c_3 => ?_)
  · refine lv_iload_n hx hb dX2_delayByLetter_15 rfl (lv_at hl 0 rfl) ?_
    refine lv_bipush (v := nI 97) hx hb dX2_delayByLetter_16 (by decide) ?_
    refine lv_isub hx hb dX2_delayByLetter_18 ?_
    refine zx_topi (y := (nI c9 - nI 97)) (rfl) ?_
    exact hret _ _ _ _ _ _ hP hD hS dX2_delayByLetter_19 (zx_dbz c9 hc hd c_3)
  · refine lv_iload_n hx hb dX2_delayByLetter_6 rfl (lv_at hl 0 rfl) ?_
    refine lv_bipush (v := nI 122) hx hb dX2_delayByLetter_7 (by decide) ?_
    refine lv_isub hx hb dX2_delayByLetter_9 ?_
    refine zx_topi (y := (nI c9 - nI 122)) (rfl) ?_
    refine lv_iconst (v := nI 1) hx hb dX2_delayByLetter_10 (by decide) ?_
    refine lv_isub hx hb dX2_delayByLetter_11 ?_
    refine lv_goto (tgt := 19) hx hb dX2_delayByLetter_12 (by decide) ?_
    exact hret _ _ _ _ _ _ hP hD hS dX2_delayByLetter_19 (zx_dby c9 hc hd c_3)
set_option maxHeartbeats 4000000 in
set_option maxRecDepth 100000 in
theorem c_X2_isOfKind (l : Launch) (D : va_G) (K q : Nat) (hK0 : K < 5) (hq : q < 5) : zx_C0 l D yX2_isOfKind wsX2_isOfKind rmX2_isOfKind [.int (nI K), .int (nI q)] (zx_b (decide (q = 0 ∨ K = q ∨ (q = 2 ∧ K = 4)))) := by
  refine zx_of_z (cc := cX2_isOfKind) (maxL := 2) (by decide) rfl (Nat.le_of_ble_eq_true rfl) ?_
  intro p e st m args below meth c A Q H cf hK hN hP hD hS hA hret ls hl
  obtain ⟨hx, hb, hml, hown, hts⟩ := id cf
  have hl : lv_has ls 2 [(0, .int (nI K)), (1, .int (nI q))] := hl
  refine lv_iload_n hx hb dX2_isOfKind_0 rfl (lv_at hl 1 rfl) ?_
  refine zx_if_eq hx hb (tgt := 19) (by omega) dX2_isOfKind_1 (by decide) (fun c_1 => ?_) (fun c_1 => ?_)
  · refine lv_iconst (v := nI 1) hx hb dX2_isOfKind_19 (by decide) ?_
    refine lv_goto (tgt := 24) hx hb dX2_isOfKind_20 (by decide) ?_
    exact hret _ _ _ _ _ _ hP hD hS dX2_isOfKind_24 zx_nar1 (zx_b_t (decide_eq_true (by omega)))
  · refine lv_iload_n hx hb dX2_isOfKind_4 rfl (lv_at hl 1 rfl) ?_
    refine lv_iload_n hx hb dX2_isOfKind_5 rfl (lv_at hl 0 rfl) ?_
    refine zx_icmp_eq hx hb (tgt := 19) (by omega) (by omega) dX2_isOfKind_6 (by decide) (fun c_6 => ?_) (fun c_6 => ?_)
    · refine lv_iconst (v := nI 1) hx hb dX2_isOfKind_19 (by decide) ?_
      refine lv_goto (tgt := 24) hx hb dX2_isOfKind_20 (by decide) ?_
      exact hret _ _ _ _ _ _ hP hD hS dX2_isOfKind_24 zx_nar1 (zx_b_t (decide_eq_true (by omega)))
    · refine lv_iload_n hx hb dX2_isOfKind_9 rfl (lv_at hl 1 rfl) ?_
      refine lv_iconst (v := nI 2) hx hb dX2_isOfKind_10 (by decide) ?_
      refine zx_icmp_ne hx hb (tgt := 23) (by omega) (by omega) dX2_isOfKind_11 (by decide) (fun c_11 => ?_) (fun c_11 => ?_)
      · refine lv_iconst (v := nI 0) hx hb dX2_isOfKind_23 (by decide) ?_
        exact hret _ _ _ _ _ _ hP hD hS dX2_isOfKind_24 zx_nar0 (zx_b_f (decide_eq_false (by omega)))
      · refine lv_iload_n hx hb dX2_isOfKind_14 rfl (lv_at hl 0 rfl) ?_
        refine lv_iconst (v := nI 4) hx hb dX2_isOfKind_15 (by decide) ?_
        refine zx_icmp_ne hx hb (tgt := 23) (by omega) (by omega) dX2_isOfKind_16 (by decide) (fun c_16 => ?_) (fun c_16 => ?_)
        · refine lv_iconst (v := nI 0) hx hb dX2_isOfKind_23 (by decide) ?_
          exact hret _ _ _ _ _ _ hP hD hS dX2_isOfKind_24 zx_nar0 (zx_b_f (decide_eq_false (by omega)))
        · refine lv_iconst (v := nI 1) hx hb dX2_isOfKind_19 (by decide) ?_
          refine lv_goto (tgt := 24) hx hb dX2_isOfKind_20 (by decide) ?_
          exact hret _ _ _ _ _ _ hP hD hS dX2_isOfKind_24 zx_nar1 (zx_b_t (decide_eq_true (by omega)))
set_option maxHeartbeats 4000000 in
set_option maxRecDepth 100000 in
theorem c_X2_putsIfEmpty (l : Launch) (D : va_G) (K o : Nat) (hK0 : K < 5) (ho : o < 7) : zx_C0 l D yX2_putsIfEmpty wsX2_putsIfEmpty rmX2_putsIfEmpty [.int (nI K), .int (nI o)] (nI (zp_E K o)) := by
  refine zx_of_i (cc := cX2_putsIfEmpty) (maxL := 2) (by decide) rfl (Nat.le_of_ble_eq_true rfl) ?_
  intro p e st m args below meth c A Q H cf hK hN hP hD hS hA hret ls hl
  obtain ⟨hx, hb, hml, hown, hts⟩ := id cf
  have hl : lv_has ls 2 [(0, .int (nI K)), (1, .int (nI o))] := hl
  refine lv_iload_n hx hb dX2_putsIfEmpty_0 rfl (lv_at hl 0 rfl) ?_
  by_cases c_1_2 : K = 2
  · refine lv_tableIn (off := 27) (tgt := 28) hx hb dX2_putsIfEmpty_1 (by rw [c_1_2]; decide) (by rw [c_1_2]; decide) (by rw [c_1_2]; rfl) (by decide) ?_
    refine lv_bipush (v := nI 127) hx hb dX2_putsIfEmpty_28 (by decide) ?_
    exact hret _ _ _ _ _ _ hP hD hS dX2_putsIfEmpty_30 (by rw [c_1_2]; exact (zp_E2 o ho).symm)
  by_cases c_1_3 : K = 3
  · refine lv_tableIn (off := 30) (tgt := 31) hx hb dX2_putsIfEmpty_1 (by rw [c_1_3]; decide) (by rw [c_1_3]; decide) (by rw [c_1_3]; rfl) (by decide) ?_
    refine lv_iconst (v := nI 1) hx hb dX2_putsIfEmpty_31 (by decide) ?_
    refine lv_iload_n hx hb dX2_putsIfEmpty_32 rfl (lv_at hl 1 rfl) ?_
    refine zx_ishl1 hx hb (by omega) dX2_putsIfEmpty_33 ?_
    exact hret _ _ _ _ _ _ hP hD hS dX2_putsIfEmpty_34 (by rw [c_1_3]; exact (zp_E3 o ho).symm)
  by_cases c_1_4 : K = 4
  · refine lv_tableIn (off := 34) (tgt := 35) hx hb dX2_putsIfEmpty_1 (by rw [c_1_4]; decide) (by rw [c_1_4]; decide) (by rw [c_1_4]; rfl) (by decide) ?_
    refine lv_bipush (v := nI 127) hx hb dX2_putsIfEmpty_35 (by decide) ?_
    refine lv_iconst (v := nI 1) hx hb dX2_putsIfEmpty_37 (by decide) ?_
    refine lv_iload_n hx hb dX2_putsIfEmpty_38 rfl (lv_at hl 1 rfl) ?_
    refine zx_ishl1 hx hb (by omega) dX2_putsIfEmpty_39 ?_
    refine lv_iconst (v := (-1)) hx hb dX2_putsIfEmpty_40 (by decide) ?_
    refine lv_ixor hx hb dX2_putsIfEmpty_41 ?_
    refine lv_iand hx hb dX2_putsIfEmpty_42 ?_
    refine zx_topi (y := (nI 127 &&& (nI (2 ^ o) ^^^ (-1)))) (rfl) ?_
    exact hret _ _ _ _ _ _ hP hD hS dX2_putsIfEmpty_43 (by rw [c_1_4]; exact (zp_E4 o ho).symm)
  refine lv_tableOut (tgt := 44) hx hb dX2_putsIfEmpty_1 (zx_tout (by omega) (by omega)) (by decide) ?_
  refine lv_iconst (v := nI 0) hx hb dX2_putsIfEmpty_44 (by decide) ?_
  exact hret _ _ _ _ _ _ hP hD hS dX2_putsIfEmpty_45 (zp_E0 K hK0 o ho c_1_2 c_1_3 c_1_4).symm
set_option maxHeartbeats 4000000 in
set_option maxRecDepth 100000 in
theorem c_X2_putsIfThere (l : Launch) (D : va_G) (K o : Nat) (hK0 : K < 5) (ho : o < 7) : zx_C0 l D yX2_putsIfThere wsX2_putsIfThere rmX2_putsIfThere [.int (nI K), .int (nI o)] (nI (zp_T K o)) := by
  refine zx_of_i (cc := cX2_putsIfThere) (maxL := 2) (by decide) rfl (Nat.le_of_ble_eq_true rfl) ?_
  intro p e st m args below meth c A Q H cf hK hN hP hD hS hA hret ls hl
  obtain ⟨hx, hb, hml, hown, hts⟩ := id cf
  have hl : lv_has ls 2 [(0, .int (nI K)), (1, .int (nI o))] := hl
  refine lv_iload_n hx hb dX2_putsIfThere_0 rfl (lv_at hl 0 rfl) ?_
  by_cases c_1_1 : K = 1
  · refine lv_lookup (off := 27) (tgt := 28) hx hb dX2_putsIfThere_1 rfl (by rw [c_1_1]; rfl) (by decide) ?_
    refine lv_bipush (v := nI 127) hx hb dX2_putsIfThere_28 (by decide) ?_
    exact hret _ _ _ _ _ _ hP hD hS dX2_putsIfThere_30 (by rw [c_1_1]; exact (zp_T1 o ho).symm)
  by_cases c_1_3 : K = 3
  · refine lv_lookup (off := 30) (tgt := 31) hx hb dX2_putsIfThere_1 rfl (by rw [c_1_3]; rfl) (by decide) ?_
    refine lv_iconst (v := nI 1) hx hb dX2_putsIfThere_31 (by decide) ?_
    refine lv_iload_n hx hb dX2_putsIfThere_32 rfl (lv_at hl 1 rfl) ?_
    refine zx_ishl1 hx hb (by omega) dX2_putsIfThere_33 ?_
    exact hret _ _ _ _ _ _ hP hD hS dX2_putsIfThere_34 (by rw [c_1_3]; exact (zp_T3 o ho).symm)
  refine lv_lookup (off := 34) (tgt := 35) hx hb dX2_putsIfThere_1 rfl (by rw [lv_osw (k := nI 1) (fun q => c_1_1 ((nI_eq (by omega) (by decide)).mp q)) (by decide)]; rw [lv_osw (k := nI 3) (fun q => c_1_3 ((nI_eq (by omega) (by decide)).mp q)) (by decide)]; rfl) (by decide) ?_
  refine lv_iconst (v := nI 0) hx hb dX2_putsIfThere_35 (by decide) ?_
  exact hret _ _ _ _ _ _ hP hD hS dX2_putsIfThere_36 (zp_T0 K hK0 o ho c_1_1 c_1_3).symm
set_option maxHeartbeats 4000000 in
set_option maxRecDepth 100000 in
theorem c_X2_nextSeed (l : Launch) (D : va_G) (x : Nat)  : zx_C0 l D yX2_nextSeed wsX2_nextSeed rmX2_nextSeed [.int (nI x)] (nI (zp_nx x)) := by
  refine zx_of_i (cc := cX2_nextSeed) (maxL := 1) (by decide) rfl (Nat.le_of_ble_eq_true rfl) ?_
  intro p e st m args below meth c A Q H cf hK hN hP hD hS hA hret ls hl
  obtain ⟨hx, hb, hml, hown, hts⟩ := id cf
  have hl : lv_has ls 1 [(0, .int (nI x))] := hl
  refine lv_ldc (v := 1103515245) hx hb hown (hts (.constant RX2 238 (1103515245)) (List.mem_of_getElem? (i := 1) (by decide +kernel))) dX2_nextSeed_0 ?_
  refine zx_topi (y := nI 1103515245) rfl ?_
  refine lv_iload_n hx hb dX2_nextSeed_2 rfl (lv_at hl 0 rfl) ?_
  refine zx_imul hx hb dX2_nextSeed_3 ?_
  refine lv_sipush (v := nI 12345) hx hb dX2_nextSeed_4 (by decide) ?_
  refine zx_iadd hx hb dX2_nextSeed_7 ?_
  refine lv_ldc (v := 2147483647) hx hb hown (hts (.constant RX2 239 (2147483647)) (List.mem_of_getElem? (i := 2) (by decide +kernel))) dX2_nextSeed_8 ?_
  refine zx_topi (y := nI 2147483647) rfl ?_
  refine zx_iand hx hb dX2_nextSeed_10 ?_
  refine zx_topi (y := nI (zp_nx x)) (congrArg nI (Nat.and_two_pow_sub_one_eq_mod _ 31)) ?_
  exact hret _ _ _ _ _ _ hP hD hS dX2_nextSeed_11 rfl
set_option maxHeartbeats 4000000 in
set_option maxRecDepth 100000 in
theorem c_X2_drawOf (l : Launch) (D : va_G) (x : Nat) (hx0 : x < 2147483648) : zx_C0 l D yX2_drawOf wsX2_drawOf rmX2_drawOf [.int (nI x), .int (nI 4)] (nI (x / 65536 % 4)) := by
  refine zx_of_i (cc := cX2_drawOf) (maxL := 2) (by decide) rfl (Nat.le_of_ble_eq_true rfl) ?_
  intro p e st m args below meth c A Q H cf hK hN hP hD hS hA hret ls hl
  obtain ⟨hx, hb, hml, hown, hts⟩ := id cf
  have hl : lv_has ls 2 [(0, .int (nI x)), (1, .int (nI 4))] := hl
  refine lv_iload_n hx hb dX2_drawOf_0 rfl (lv_at hl 1 rfl) ?_
  refine lv_if_le (tgt := 13) hx hb dX2_drawOf_1 (by decide) (fun c_1 => ?_) (fun c_1 => ?_)
  · exact absurd c_1 (by decide)
  · refine lv_iload_n hx hb dX2_drawOf_4 rfl (lv_at hl 0 rfl) ?_
    refine lv_ldc (v := 65536) hx hb hown (hts (.constant RX2 240 (65536)) (List.mem_of_getElem? (i := 1) (by decide +kernel))) dX2_drawOf_5 ?_
    refine zx_topi (y := nI 65536) rfl ?_
    refine zx_idiv hx hb (by omega) (by omega) (by omega) dX2_drawOf_7 ?_
    refine lv_iload_n hx hb dX2_drawOf_8 rfl (lv_at hl 1 rfl) ?_
    refine zx_irem hx hb (by omega) (by omega) (by omega) dX2_drawOf_9 ?_
    refine lv_goto (tgt := 14) hx hb dX2_drawOf_10 (by decide) ?_
    exact hret _ _ _ _ _ _ hP hD hS dX2_drawOf_14 rfl
set_option maxHeartbeats 4000000 in
set_option maxRecDepth 100000 in
theorem c_J6_bitCount_0f7a4 (l : Launch) (D : va_G) (x : Nat) (hx0 : x < 128) : zx_C0 l D yJ6_bitCount_0f7a4 wsJ6_bitCount_0f7a4 rmJ6_bitCount_0f7a4 [.int (nI x)] (nI (zp_pc x)) := by
  refine zx_of_i (cc := cJ6_bitCount_0f7a4) (maxL := 1) (by decide) rfl (Nat.le_of_ble_eq_true rfl) ?_
  intro p e st m args below meth c A Q H cf hK hN hP hD hS hA hret ls hl
  obtain ⟨hx, hb, hml, hown, hts⟩ := id cf
  have hl : lv_has ls 1 [(0, .int (nI x))] := hl
  obtain ⟨j1, j2, j3, j4, j5⟩ := zj_lt x hx0
  refine lv_iload_n hx hb dJ6_bitCount_0f7a4_0 rfl (lv_at hl 0 rfl) ?_
  refine lv_iload_n hx hb dJ6_bitCount_0f7a4_1 rfl (lv_at hl 0 rfl) ?_
  refine lv_iconst (v := nI 1) hx hb dJ6_bitCount_0f7a4_2 (by decide) ?_
  refine zx_iushr hx hb (by omega) (by decide) dJ6_bitCount_0f7a4_3 ?_
  refine lv_ldcw (v := 1431655765) hx hb hown (hts (.constant RJ6 265 (1431655765)) (List.mem_of_getElem? (i := 1) (by decide +kernel))) dJ6_bitCount_0f7a4_4 ?_
  refine zx_topi (y := nI 1431655765) rfl ?_
  refine zx_iand hx hb dJ6_bitCount_0f7a4_7 ?_
  refine zx_isub hx hb (by have := Nat.and_le_left (n := x / 2 ^ 1) (m := 1431655765); omega) dJ6_bitCount_0f7a4_8 ?_
  refine zx_topi (y := nI (zj_1 x)) (rfl) ?_
  refine lv_istore_n (lv' := [(0, .int (nI (zj_1 x)))]) hx hb dJ6_bitCount_0f7a4_9 rfl hl (by decide) rfl (fun ls hl => ?_)
  refine lv_iload_n hx hb dJ6_bitCount_0f7a4_10 rfl (lv_at hl 0 rfl) ?_
  refine lv_ldcw (v := 858993459) hx hb hown (hts (.constant RJ6 266 (858993459)) (List.mem_of_getElem? (i := 2) (by decide +kernel))) dJ6_bitCount_0f7a4_11 ?_
  refine zx_topi (y := nI 858993459) rfl ?_
  refine zx_iand hx hb dJ6_bitCount_0f7a4_14 ?_
  refine lv_iload_n hx hb dJ6_bitCount_0f7a4_15 rfl (lv_at hl 0 rfl) ?_
  refine lv_iconst (v := nI 2) hx hb dJ6_bitCount_0f7a4_16 (by decide) ?_
  refine zx_iushr hx hb (by omega) (by decide) dJ6_bitCount_0f7a4_17 ?_
  refine lv_ldcw (v := 858993459) hx hb hown (hts (.constant RJ6 266 (858993459)) (List.mem_of_getElem? (i := 2) (by decide +kernel))) dJ6_bitCount_0f7a4_18 ?_
  refine zx_topi (y := nI 858993459) rfl ?_
  refine zx_iand hx hb dJ6_bitCount_0f7a4_21 ?_
  refine zx_iadd hx hb dJ6_bitCount_0f7a4_22 ?_
  refine zx_topi (y := nI (zj_2 x)) (rfl) ?_
  refine lv_istore_n (lv' := [(0, .int (nI (zj_2 x)))]) hx hb dJ6_bitCount_0f7a4_23 rfl hl (by decide) rfl (fun ls hl => ?_)
  refine lv_iload_n hx hb dJ6_bitCount_0f7a4_24 rfl (lv_at hl 0 rfl) ?_
  refine lv_iload_n hx hb dJ6_bitCount_0f7a4_25 rfl (lv_at hl 0 rfl) ?_
  refine lv_iconst (v := nI 4) hx hb dJ6_bitCount_0f7a4_26 (by decide) ?_
  refine zx_iushr hx hb (by omega) (by decide) dJ6_bitCount_0f7a4_27 ?_
  refine zx_iadd hx hb dJ6_bitCount_0f7a4_28 ?_
  refine lv_ldcw (v := 252645135) hx hb hown (hts (.constant RJ6 267 (252645135)) (List.mem_of_getElem? (i := 3) (by decide +kernel))) dJ6_bitCount_0f7a4_29 ?_
  refine zx_topi (y := nI 252645135) rfl ?_
  refine zx_iand hx hb dJ6_bitCount_0f7a4_32 ?_
  refine zx_topi (y := nI (zj_3 x)) (rfl) ?_
  refine lv_istore_n (lv' := [(0, .int (nI (zj_3 x)))]) hx hb dJ6_bitCount_0f7a4_33 rfl hl (by decide) rfl (fun ls hl => ?_)
  refine lv_iload_n hx hb dJ6_bitCount_0f7a4_34 rfl (lv_at hl 0 rfl) ?_
  refine lv_iload_n hx hb dJ6_bitCount_0f7a4_35 rfl (lv_at hl 0 rfl) ?_
  refine lv_bipush (v := nI 8) hx hb dJ6_bitCount_0f7a4_36 (by decide) ?_
  refine zx_iushr hx hb (by omega) (by decide) dJ6_bitCount_0f7a4_38 ?_
  refine zx_iadd hx hb dJ6_bitCount_0f7a4_39 ?_
  refine zx_topi (y := nI (zj_4 x)) (rfl) ?_
  refine lv_istore_n (lv' := [(0, .int (nI (zj_4 x)))]) hx hb dJ6_bitCount_0f7a4_40 rfl hl (by decide) rfl (fun ls hl => ?_)
  refine lv_iload_n hx hb dJ6_bitCount_0f7a4_41 rfl (lv_at hl 0 rfl) ?_
  refine lv_iload_n hx hb dJ6_bitCount_0f7a4_42 rfl (lv_at hl 0 rfl) ?_
  refine lv_bipush (v := nI 16) hx hb dJ6_bitCount_0f7a4_43 (by decide) ?_
  refine zx_iushr hx hb (by omega) (by decide) dJ6_bitCount_0f7a4_45 ?_
  refine zx_iadd hx hb dJ6_bitCount_0f7a4_46 ?_
  refine zx_topi (y := nI (zj_5 x)) (rfl) ?_
  refine lv_istore_n (lv' := [(0, .int (nI (zj_5 x)))]) hx hb dJ6_bitCount_0f7a4_47 rfl hl (by decide) rfl (fun ls hl => ?_)
  refine lv_iload_n hx hb dJ6_bitCount_0f7a4_48 rfl (lv_at hl 0 rfl) ?_
  refine lv_bipush (v := nI 63) hx hb dJ6_bitCount_0f7a4_49 (by decide) ?_
  refine zx_iand hx hb dJ6_bitCount_0f7a4_51 ?_
  refine zx_topi (y := nI (zp_pc x)) (zj_e x hx0) ?_
  exact hret _ _ _ _ _ _ hP hD hS dJ6_bitCount_0f7a4_52 rfl
