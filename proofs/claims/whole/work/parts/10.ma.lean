set_option maxHeartbeats 4000000 in
set_option maxRecDepth 100000 in
theorem c_X3_within (l : Launch) (D : va_G) (x0 x1 x2 : Int32)  : zx_C0 l D yX3_within wsX3_within rmX3_within [.int x0, .int x1, .int x2] (zx_b (decide (x1 ≤ x0 ∧ x0 ≤ x2))) := by
  refine zx_of_z (cc := cX3_within) (maxL := 3) (by decide) rfl (Nat.le_of_ble_eq_true rfl) ?_
  intro p e st m args below meth c A Q H cf hK hN hP hD hS hA hret ls hl
  obtain ⟨hx, hb, hml, hown, hts⟩ := id cf
  have hl : lv_has ls 3 [(0, .int x0), (1, .int x1), (2, .int x2)] := hl
  refine lv_iload_n hx hb dX3_within_0 rfl (lv_at hl 0 rfl) ?_
  refine lv_iload_n hx hb dX3_within_1 rfl (lv_at hl 1 rfl) ?_
  refine lv_icmp_lt (tgt := 14) hx hb dX3_within_2 (by decide) (fun c_2 => ?_) (fun c_2 => ?_)
  · refine lv_iconst (v := nI 0) hx hb dX3_within_14 (by decide) ?_
    exact hret _ _ _ _ _ _ hP hD hS dX3_within_15 zx_nar0 (zx_b_f (decide_eq_false (fun q => zx_ltle c_2 q.1)))
  · refine lv_iload_n hx hb dX3_within_5 rfl (lv_at hl 0 rfl) ?_
    refine lv_iload_n hx hb dX3_within_6 rfl (lv_at hl 2 rfl) ?_
    refine lv_icmp_gt (tgt := 14) hx hb dX3_within_7 (by decide) (fun c_7 => ?_) (fun c_7 => ?_)
    · refine lv_iconst (v := nI 0) hx hb dX3_within_14 (by decide) ?_
      exact hret _ _ _ _ _ _ hP hD hS dX3_within_15 zx_nar0 (zx_b_f (decide_eq_false (fun q => zx_ltle c_7 q.2)))
    · refine lv_iconst (v := nI 1) hx hb dX3_within_10 (by decide) ?_
      refine lv_goto (tgt := 15) hx hb dX3_within_11 (by decide) ?_
      exact hret _ _ _ _ _ _ hP hD hS dX3_within_15 zx_nar1 (zx_b_t (decide_eq_true ⟨zx_nlt c_2, zx_nlt c_7⟩))
set_option maxHeartbeats 4000000 in
set_option maxRecDepth 100000 in
theorem c_X3_has (l : Launch) (D : va_G) (x k : Nat) (hx0 : x < 2147483648) (hk : k < 31) : zx_C0 l D yX3_has wsX3_has rmX3_has [.int (nI x), .int (nI k)] (zx_b (x.testBit k)) := by
  refine zx_of_z (cc := cX3_has) (maxL := 2) (by decide) rfl (Nat.le_of_ble_eq_true rfl) ?_
  intro p e st m args below meth c A Q H cf hK hN hP hD hS hA hret ls hl
  obtain ⟨hx, hb, hml, hown, hts⟩ := id cf
  have hl : lv_has ls 2 [(0, .int (nI x)), (1, .int (nI k))] := hl
  refine lv_iload_n hx hb dX3_has_0 rfl (lv_at hl 0 rfl) ?_
  refine lv_iload_n hx hb dX3_has_1 rfl (lv_at hl 1 rfl) ?_
  refine zx_ishr hx hb (by omega) (by omega) dX3_has_2 ?_
  refine lv_iconst (v := nI 1) hx hb dX3_has_3 (by decide) ?_
  refine zx_iand hx hb dX3_has_4 ?_
  refine lv_iconst (v := nI 1) hx hb dX3_has_5 (by decide) ?_
  refine zx_icmp_ne hx hb (tgt := 13) (zx_a1 _) (by decide) dX3_has_6 (by decide) (fun c_6 => ?_) (fun c_6 => ?_)
  · refine lv_iconst (v := nI 0) hx hb dX3_has_13 (by decide) ?_
    exact hret _ _ _ _ _ _ hP hD hS dX3_has_14 zx_nar0 (zx_b_f (zx_tb0 c_6))
  · refine lv_iconst (v := nI 1) hx hb dX3_has_9 (by decide) ?_
    refine lv_goto (tgt := 14) hx hb dX3_has_10 (by decide) ?_
    exact hret _ _ _ _ _ _ hP hD hS dX3_has_14 zx_nar1 (zx_b_t (zx_tb1 c_6))
set_option maxHeartbeats 4000000 in
set_option maxRecDepth 100000 in
theorem c_X3_size (l : Launch) (D : va_G) (x : Nat) (hx0 : x < 128) : zx_C0 l D yX3_size wsX3_size rmX3_size [.int (nI x)] (nI (zp_pc x)) := by
  refine zx_of_i (cc := cX3_size) (maxL := 3) (by decide) rfl (Nat.le_of_ble_eq_true rfl) ?_
  intro p e st m args below meth c A Q H cf hK hN hP hD hS hA hret ls hl
  obtain ⟨hx, hb, hml, hown, hts⟩ := id cf
  have hl : lv_has ls 3 [(0, .int (nI x))] := hl
  refine lv_iconst (v := nI 0) hx hb dX3_size_0 (by decide) ?_
  refine lv_istore_n (lv' := [(1, .int (nI 0)), (0, .int (nI x))]) hx hb dX3_size_1 rfl hl (by decide) rfl (fun ls hl => ?_)
  refine lv_iconst (v := nI 0) hx hb dX3_size_2 (by decide) ?_
  refine lv_istore_n (lv' := [(2, .int (nI 0)), (1, .int (nI 0)), (0, .int (nI x))]) hx hb dX3_size_3 rfl hl (by decide) rfl (fun ls hl => ?_)
  have lp_4 : ∀ (n_ : Nat) (i : Nat), 7 - i < n_ → (i ≤ 7) → ∀ x0 : Int32, x0 = nI x → ∀ x1 : Int32, x1 = nI (zp_cnt (fun k => x.testBit k) i) → ∀ x2 : Int32, x2 = nI i → ∀ (H : Heap) (locs : List Loc), va_P D vwCl (zx_w0 ()) H → va_D A (zx_w0 ()) → va_S A st.heap H locs → ∀ ls : Array Slot, lv_has ls 3 [(0, .int x0), (1, .int x1), (2, .int x2)] → W p l e rmX3_size st m args below meth c H locs 0 0 Q (F0 m 4 ls []) := by
    intro n_
    induction n_ with
    | zero => intros; omega
    | succ n_ ih_4 =>
      intro i hmu_4 hi
      intro x0 ex0; subst ex0
      intro x1 ex1; subst ex1
      intro x2 ex2; subst ex2
      intro H locs hP hD hS ls hl
      have hl : lv_has ls 3 [(0, .int (nI x)), (1, .int (nI (zp_cnt (fun k => x.testBit k) i))), (2, .int (nI i))] := hl
      refine lv_iload_n hx hb dX3_size_4 rfl (lv_at hl 2 rfl) ?_
      refine lv_bipush (v := nI 7) hx hb dX3_size_5 (by decide) ?_
      refine zx_icmp_ge hx hb (tgt := 24) (by omega) (by omega) dX3_size_7 (by decide) (fun c_7 => ?_) (fun c_7 => ?_)
      · refine lv_iload_n hx hb dX3_size_24 rfl (lv_at hl 1 rfl) ?_
        exact hret _ _ _ _ _ _ hP hD hS dX3_size_25 (by have e9 : i = 7 := (by omega); subst e9; rfl)
      · refine lv_iload_n hx hb dX3_size_10 rfl (lv_at hl 1 rfl) ?_
        refine lv_iload_n hx hb dX3_size_11 rfl (lv_at hl 0 rfl) ?_
        refine lv_iload_n hx hb dX3_size_12 rfl (lv_at hl 2 rfl) ?_
        refine zx_ishr hx hb (by omega) (by omega) dX3_size_13 ?_
        refine lv_iconst (v := nI 1) hx hb dX3_size_14 (by decide) ?_
        refine zx_iand hx hb dX3_size_15 ?_
        refine zx_iadd hx hb dX3_size_16 ?_
        refine lv_istore_n (lv' := [(1, .int (nI ((zp_cnt (fun k => x.testBit k) i) + ((x / 2 ^ i) &&& 1)))), (0, .int (nI x)), (2, .int (nI i))]) hx hb dX3_size_17 rfl hl (by decide) rfl (fun ls hl => ?_)
        refine lv_iinc (v := nI (i + 1)) (lv' := [(2, .int (nI (i + 1))), (1, .int (nI ((zp_cnt (fun k => x.testBit k) i) + ((x / 2 ^ i) &&& 1)))), (0, .int (nI x))]) hx hb dX3_size_18 hl (k := 2) rfl (zx_inc _ _) (by decide) rfl (fun ls hl => ?_)
        refine lv_goto (tgt := 4) hx hb dX3_size_21 (by decide) ?_
        exact ih_4 (i + 1) (by omega) (by omega) _ rfl _ (by rw [zx_tbn]; rfl) _ rfl _ _ hP hD hS ls (lv_sub hl [2, 1, 0] rfl)
  exact lp_4 _ 0 (Nat.lt_succ_self _) (by omega) _ rfl _ rfl _ rfl _ _ hP hD hS ls (lv_sub hl [2, 1, 0] rfl)
set_option maxHeartbeats 4000000 in
set_option maxRecDepth 100000 in
theorem c_X3_delayBy (l : Launch) (D : va_G) (x : Nat) (hx0 : x < 128) : zx_C0 l D yX3_delayBy wsX3_delayBy rmX3_delayBy [.int (nI x)] (zx_i (zp_dl x)) := by
  refine zx_of_i (cc := cX3_delayBy) (maxL := 1) (by decide) rfl (Nat.le_of_ble_eq_true rfl) ?_
  intro p e st m args below meth c A Q H cf hK hN hP hD hS hA hret ls hl
  obtain ⟨hx, hb, hml, hown, hts⟩ := id cf
  have hl : lv_has ls 1 [(0, .int (nI x))] := hl
  refine lv_iload_n hx hb dX3_delayBy_0 rfl (lv_at hl 0 rfl) ?_
  by_cases c_1_97 : x = 97
  · refine lv_lookup (off := 64) (tgt := 65) hx hb dX3_delayBy_1 rfl (by rw [c_1_97]; rfl) (by decide) ?_
    refine lv_iconst (v := nI 0) hx hb dX3_delayBy_65 (by decide) ?_
    exact hret _ _ _ _ _ _ hP hD hS dX3_delayBy_66 (by show _ = _; rw [c_1_97]; decide)
  by_cases c_1_98 : x = 98
  · refine lv_lookup (off := 66) (tgt := 67) hx hb dX3_delayBy_1 rfl (by rw [c_1_98]; rfl) (by decide) ?_
    refine lv_iconst (v := nI 1) hx hb dX3_delayBy_67 (by decide) ?_
    exact hret _ _ _ _ _ _ hP hD hS dX3_delayBy_68 (by show _ = _; rw [c_1_98]; decide)
  by_cases c_1_99 : x = 99
  · refine lv_lookup (off := 68) (tgt := 69) hx hb dX3_delayBy_1 rfl (by rw [c_1_99]; rfl) (by decide) ?_
    refine lv_iconst (v := nI 2) hx hb dX3_delayBy_69 (by decide) ?_
    exact hret _ _ _ _ _ _ hP hD hS dX3_delayBy_70 (by show _ = _; rw [c_1_99]; decide)
  by_cases c_1_100 : x = 100
  · refine lv_lookup (off := 70) (tgt := 71) hx hb dX3_delayBy_1 rfl (by rw [c_1_100]; rfl) (by decide) ?_
    refine lv_iconst (v := nI 3) hx hb dX3_delayBy_71 (by decide) ?_
    exact hret _ _ _ _ _ _ hP hD hS dX3_delayBy_72 (by show _ = _; rw [c_1_100]; decide)
  by_cases c_1_121 : x = 121
  · refine lv_lookup (off := 59) (tgt := 60) hx hb dX3_delayBy_1 rfl (by rw [c_1_121]; rfl) (by decide) ?_
    refine lv_bipush (v := (-2)) hx hb dX3_delayBy_60 (by decide) ?_
    exact hret _ _ _ _ _ _ hP hD hS dX3_delayBy_62 (by show _ = _; rw [c_1_121]; decide)
  by_cases c_1_122 : x = 122
  · refine lv_lookup (off := 62) (tgt := 63) hx hb dX3_delayBy_1 rfl (by rw [c_1_122]; rfl) (by decide) ?_
    refine lv_iconst (v := (-1)) hx hb dX3_delayBy_63 (by decide) ?_
    exact hret _ _ _ _ _ _ hP hD hS dX3_delayBy_64 (by show _ = _; rw [c_1_122]; decide)
  refine lv_lookup (off := 72) (tgt := 73) hx hb dX3_delayBy_1 rfl (by rw [lv_osw (k := nI 97) (fun q => c_1_97 ((nI_eq (by omega) (by decide)).mp q)) (by decide)]; rw [lv_osw (k := nI 98) (fun q => c_1_98 ((nI_eq (by omega) (by decide)).mp q)) (by decide)]; rw [lv_osw (k := nI 99) (fun q => c_1_99 ((nI_eq (by omega) (by decide)).mp q)) (by decide)]; rw [lv_osw (k := nI 100) (fun q => c_1_100 ((nI_eq (by omega) (by decide)).mp q)) (by decide)]; rw [lv_osw (k := nI 121) (fun q => c_1_121 ((nI_eq (by omega) (by decide)).mp q)) (by decide)]; rw [lv_osw (k := nI 122) (fun q => c_1_122 ((nI_eq (by omega) (by decide)).mp q)) (by decide)]; rfl) (by decide) ?_
  refine lv_bipush (v := nI 99) hx hb dX3_delayBy_73 (by decide) ?_
  exact hret _ _ _ _ _ _ hP hD hS dX3_delayBy_75 (by show _ = _; unfold zp_dl; rw [if_neg c_1_121, if_neg c_1_122, if_neg c_1_97, if_neg c_1_98, if_neg c_1_99, if_neg c_1_100]; decide)
set_option maxHeartbeats 4000000 in
set_option maxRecDepth 100000 in
theorem c_X3_isDay (l : Launch) (D : va_G) (x : Int32)  : zx_C0 l D yX3_isDay wsX3_isDay rmX3_isDay [.int x] (zx_b (decide (nI 0 ≤ x ∧ x ≤ nI 6))) := by
  refine zx_of_z (cc := cX3_isDay) (maxL := 1) (by decide) rfl (Nat.le_of_ble_eq_true rfl) ?_
  intro p e st m args below meth c A Q H cf hK hN hP hD hS hA hret ls hl
  obtain ⟨hx, hb, hml, hown, hts⟩ := id cf
  have hl : lv_has ls 1 [(0, .int x)] := hl
  refine lv_iload_n hx hb dX3_isDay_0 rfl (lv_at hl 0 rfl) ?_
  refine lv_iconst (v := nI 0) hx hb dX3_isDay_1 (by decide) ?_
  refine lv_bipush (v := nI 6) hx hb dX3_isDay_2 (by decide) ?_
  refine zx_S (As := [.int x, .int (nI 0), .int (nI 6)]) (rest := []) cf (c_X3_within l D x (nI 0) (nI 6) ) (va_cwS 3 hts gX3_isDay_X3_within rfl rfl rfl hd_X3_within ⟨Nat.le_of_ble_eq_true rfl, Nat.le_of_ble_eq_true rfl⟩) hK hN hP hS hA rfl hl.1 rfl (Nat.le_of_ble_eq_true rfl) dX3_isDay_4 ⟨Nat.zero_le _, Nat.zero_le _⟩ (fun H locs hP hS => ?_)
  exact hret _ _ _ _ _ _ hP hD hS dX3_isDay_7 (zx_nar _) rfl
set_option maxHeartbeats 4000000 in
set_option maxRecDepth 100000 in
theorem c_X3_puts (l : Launch) (D : va_G) (K o d : Nat) (t : Bool) (hK0 : K < 2147483648) (ho : o < 2147483648) (hd : d < 2147483648) : zx_C0 l D yX3_puts wsX3_puts rmX3_puts [.int (nI K), .int (nI o), .int (nI d), .int (zx_b t)] (zx_b (zp_puts K o d t)) := by
  refine zx_of_z (cc := cX3_puts) (maxL := 4) (by decide) rfl (Nat.le_of_ble_eq_true rfl) ?_
  intro p e st m args below meth c A Q H cf hK hN hP hD hS hA hret ls hl
  obtain ⟨hx, hb, hml, hown, hts⟩ := id cf
  have hl : lv_has ls 4 [(0, .int (nI K)), (1, .int (nI o)), (2, .int (nI d)), (3, .int (zx_b t))] := hl
  refine lv_iload_n hx hb dX3_puts_0 rfl (lv_at hl 0 rfl) ?_
  by_cases c_1_1 : K = 1
  · refine lv_tableIn (off := 31) (tgt := 32) hx hb dX3_puts_1 (by rw [c_1_1]; decide) (by rw [c_1_1]; decide) (by rw [c_1_1]; rfl) (by decide) ?_
    refine lv_iload_n hx hb dX3_puts_32 rfl (lv_at hl 3 rfl) ?_
    exact hret _ _ _ _ _ _ hP hD hS dX3_puts_33 (zx_nar _) (by show _ = _; rw [c_1_1]; rfl)
  by_cases c_1_2 : K = 2
  · refine lv_tableIn (off := 33) (tgt := 34) hx hb dX3_puts_1 (by rw [c_1_2]; decide) (by rw [c_1_2]; decide) (by rw [c_1_2]; rfl) (by decide) ?_
    refine lv_iload_n hx hb dX3_puts_34 rfl (lv_at hl 3 rfl) ?_
    refine zx_bf_ne hx hb (tgt := 42) dX3_puts_35 (by decide) (fun c_35 => ?_) (fun c_35 => ?_)
    · refine lv_iconst (v := nI 0) hx hb dX3_puts_42 (by decide) ?_
      exact hret _ _ _ _ _ _ hP hD hS dX3_puts_43 zx_nar0 (by show _ = _; rw [c_1_2, c_35]; rfl)
    · refine lv_iconst (v := nI 1) hx hb dX3_puts_38 (by decide) ?_
      refine lv_goto (tgt := 43) hx hb dX3_puts_39 (by decide) ?_
      exact hret _ _ _ _ _ _ hP hD hS dX3_puts_43 zx_nar1 (by show _ = _; rw [c_1_2, c_35]; rfl)
  by_cases c_1_3 : K = 3
  · refine lv_tableIn (off := 43) (tgt := 44) hx hb dX3_puts_1 (by rw [c_1_3]; decide) (by rw [c_1_3]; decide) (by rw [c_1_3]; rfl) (by decide) ?_
    refine lv_iload_n hx hb dX3_puts_44 rfl (lv_at hl 2 rfl) ?_
    refine lv_iload_n hx hb dX3_puts_45 rfl (lv_at hl 1 rfl) ?_
    refine zx_icmp_ne hx hb (tgt := 53) (by omega) (by omega) dX3_puts_46 (by decide) (fun c_46 => ?_) (fun c_46 => ?_)
    · refine lv_iconst (v := nI 0) hx hb dX3_puts_53 (by decide) ?_
      exact hret _ _ _ _ _ _ hP hD hS dX3_puts_54 zx_nar0 (zx_b_f (by rw [c_1_3]; exact decide_eq_false c_46))
    · refine lv_iconst (v := nI 1) hx hb dX3_puts_49 (by decide) ?_
      refine lv_goto (tgt := 54) hx hb dX3_puts_50 (by decide) ?_
      exact hret _ _ _ _ _ _ hP hD hS dX3_puts_54 zx_nar1 (zx_b_t (by rw [c_1_3]; exact decide_eq_true c_46))
  by_cases c_1_4 : K = 4
  · refine lv_tableIn (off := 54) (tgt := 55) hx hb dX3_puts_1 (by rw [c_1_4]; decide) (by rw [c_1_4]; decide) (by rw [c_1_4]; rfl) (by decide) ?_
    refine lv_iload_n hx hb dX3_puts_55 rfl (lv_at hl 3 rfl) ?_
    refine zx_bf_ne hx hb (tgt := 68) dX3_puts_56 (by decide) (fun c_56 => ?_) (fun c_56 => ?_)
    · refine lv_iconst (v := nI 0) hx hb dX3_puts_68 (by decide) ?_
      exact hret _ _ _ _ _ _ hP hD hS dX3_puts_69 zx_nar0 (by show _ = _; rw [c_1_4, c_56]; rfl)
    · refine lv_iload_n hx hb dX3_puts_59 rfl (lv_at hl 2 rfl) ?_
      refine lv_iload_n hx hb dX3_puts_60 rfl (lv_at hl 1 rfl) ?_
      refine zx_icmp_eq hx hb (tgt := 68) (by omega) (by omega) dX3_puts_61 (by decide) (fun c_61 => ?_) (fun c_61 => ?_)
      · refine lv_iconst (v := nI 0) hx hb dX3_puts_68 (by decide) ?_
        exact hret _ _ _ _ _ _ hP hD hS dX3_puts_69 zx_nar0 (zx_b_f (by rw [c_1_4]; simp [zp_puts, c_61]))
      · refine lv_iconst (v := nI 1) hx hb dX3_puts_64 (by decide) ?_
        refine lv_goto (tgt := 69) hx hb dX3_puts_65 (by decide) ?_
        exact hret _ _ _ _ _ _ hP hD hS dX3_puts_69 zx_nar1 (zx_b_t (by rw [c_1_4, c_56]; simp [zp_puts, c_61]))
  refine lv_tableOut (tgt := 70) hx hb dX3_puts_1 (zx_tout (by omega) (by omega)) (by decide) ?_
  refine lv_iconst (v := nI 0) hx hb dX3_puts_70 (by decide) ?_
  exact hret _ _ _ _ _ _ hP hD hS dX3_puts_71 zx_nar0 (zx_b_f (by unfold zp_puts; rw [if_neg c_1_1, if_neg c_1_2, if_neg c_1_3, if_neg c_1_4]))
set_option maxHeartbeats 4000000 in
set_option maxRecDepth 100000 in
theorem c_X3_isDrawer (l : Launch) (D : va_G) (cI cB : ClassId) (r : Nat → Nat) (s : Nat → Nat) (a : Nat → Nat → Nat) (z : Nat → Int) (h : Int64) (x : Int32) (hI : zm_I s a z) : zx_C zx_ei l D (zm_t cI cB) (zm_w cI cB r) yX3_isDrawer wsX3_isDrawer rmX3_isDrawer [.ref (r 0), .int x] (s, a, z, h) (fun v u' => v = zx_b (zd_drw (s 0) x).isSome ∧ u' = (s, a, z, h)) := by
  refine zx_of_z (cc := cX3_isDrawer) (maxL := 2) (by decide) rfl (Nat.le_of_ble_eq_true rfl) ?_
  intro p e st m args below meth c A Q H cf hK hN hP hD hS hA hret ls hl
  obtain ⟨hx, hb, hml, hown, hts⟩ := id cf
  have hi3 : ∀ w ∈ wsX30, w ∈ wsX3_isDrawer := fun w h => List.mem_cons_of_mem _ (List.mem_append_right _ h)
  have k75 := hts (.fieldLink RX3 75 "NineDrawersModel" "isChest" "Z") (List.mem_of_getElem? (i := 1) (by decide +kernel))
  have hl : lv_has ls 2 [(0, .ref (r 0)), (1, .int x)] := hl
  have hP : va_P D vwCl ((zm_w cI cB r) (s, a, z, h)) H := hP
  have hD : va_D A ((zm_w cI cB r) (s, a, z, h)) := hD
  obtain ⟨⟨i0, i1, i3, i5, i9, i13, i14⟩, iR⟩ := id hI
  refine lv_aload_n hx hb dX3_isDrawer_0 rfl (lv_at hl 0 rfl) ?_
  refine va_get (D := D) (ci := 3) (v := .int (nI (s 0))) (C := RX3) (T := TX3) (N := 29) hx hb hts hi3 hown hK hP 0 rfl rfl 0 (by decide) k75 (fun _ h9 => h9) rfl dX3_isDrawer_1 ?_
  refine zx_if_eq hx hb (tgt := 21) (by omega) dX3_isDrawer_4 (by decide) (fun c_4 => ?_) (fun c_4 => ?_)
  · refine lv_iconst (v := nI 0) hx hb dX3_isDrawer_21 (by decide) ?_
    exact hret _ _ _ _ _ _ hP hD hS dX3_isDrawer_22 zx_nar0 ⟨zx_b_f (zd_drw_0 x c_4), rfl⟩
  · refine lv_iload_n hx hb dX3_isDrawer_7 rfl (lv_at hl 1 rfl) ?_
    refine lv_iconst (v := nI 0) hx hb dX3_isDrawer_8 (by decide) ?_
    refine lv_bipush (v := nI 8) hx hb dX3_isDrawer_9 (by decide) ?_
    refine zx_S (As := [.int x, .int (nI 0), .int (nI 8)]) (rest := []) cf (c_X3_within l D x (nI 0) (nI 8) ) (va_cwS 3 hts gX3_isDrawer_X3_within rfl rfl rfl hd_X3_within ⟨Nat.le_of_ble_eq_true rfl, Nat.le_of_ble_eq_true rfl⟩) hK hN hP hS hA rfl hl.1 rfl (Nat.le_of_ble_eq_true rfl) dX3_isDrawer_11 ⟨Nat.zero_le _, Nat.zero_le _⟩ (fun H locs hP hS => ?_)
    refine zx_bf_eq hx hb (tgt := 21) dX3_isDrawer_14 (by decide) (fun c_14 => ?_) (fun c_14 => ?_)
    · refine lv_iconst (v := nI 0) hx hb dX3_isDrawer_21 (by decide) ?_
      exact hret _ _ _ _ _ _ hP hD hS dX3_isDrawer_22 zx_nar0 ⟨zx_b_f ((zd_drw_b x c_4).trans c_14), rfl⟩
    · refine lv_iconst (v := nI 1) hx hb dX3_isDrawer_17 (by decide) ?_
      refine lv_goto (tgt := 22) hx hb dX3_isDrawer_18 (by decide) ?_
      exact hret _ _ _ _ _ _ hP hD hS dX3_isDrawer_22 zx_nar1 ⟨zx_b_t ((zd_drw_b x c_4).trans c_14), rfl⟩
set_option maxHeartbeats 4000000 in
set_option maxRecDepth 100000 in
theorem c_X3_isPerson (l : Launch) (D : va_G) (cI cB : ClassId) (r : Nat → Nat) (s : Nat → Nat) (a : Nat → Nat → Nat) (z : Nat → Int) (h : Int64) (x : Int32) (hI : zm_I s a z) : zx_C zx_ei l D (zm_t cI cB) (zm_w cI cB r) yX3_isPerson wsX3_isPerson rmX3_isPerson [.ref (r 0), .int x] (s, a, z, h) (fun v u' => v = zx_b (zd_per (s 5) x).isSome ∧ u' = (s, a, z, h)) := by
  refine zx_of_z (cc := cX3_isPerson) (maxL := 2) (by decide) rfl (Nat.le_of_ble_eq_true rfl) ?_
  intro p e st m args below meth c A Q H cf hK hN hP hD hS hA hret ls hl
  obtain ⟨hx, hb, hml, hown, hts⟩ := id cf
  have hi3 : ∀ w ∈ wsX30, w ∈ wsX3_isPerson := fun w h => List.mem_cons_of_mem _ (List.mem_append_right _ h)
  have k82 := hts (.fieldLink RX3 82 "NineDrawersModel" "people" "I") (List.mem_of_getElem? (i := 1) (by decide +kernel))
  have hl : lv_has ls 2 [(0, .ref (r 0)), (1, .int x)] := hl
  have hP : va_P D vwCl ((zm_w cI cB r) (s, a, z, h)) H := hP
  have hD : va_D A ((zm_w cI cB r) (s, a, z, h)) := hD
  obtain ⟨⟨i0, i1, i3, i5, i9, i13, i14⟩, iR⟩ := id hI
  refine lv_iload_n hx hb dX3_isPerson_0 rfl (lv_at hl 1 rfl) ?_
  refine lv_iconst (v := nI 0) hx hb dX3_isPerson_1 (by decide) ?_
  refine lv_aload_n hx hb dX3_isPerson_2 rfl (lv_at hl 0 rfl) ?_
  refine va_get (D := D) (ci := 3) (v := .int (nI (s 5))) (C := RX3) (T := TX3) (N := 29) hx hb hts hi3 hown hK hP 0 rfl rfl 5 (by decide) k82 (fun _ h9 => h9) rfl dX3_isPerson_3 ?_
  refine lv_iconst (v := nI 1) hx hb dX3_isPerson_6 (by decide) ?_
  refine lv_isub hx hb dX3_isPerson_7 ?_
  refine zx_topi (y := (nI (s 5) - nI 1)) (rfl) ?_
  refine zx_S (As := [.int x, .int (nI 0), .int (nI (s 5) - nI 1)]) (rest := []) cf (c_X3_within l D x (nI 0) (nI (s 5) - nI 1) ) (va_cwS 3 hts gX3_isPerson_X3_within rfl rfl rfl hd_X3_within ⟨Nat.le_of_ble_eq_true rfl, Nat.le_of_ble_eq_true rfl⟩) hK hN hP hS hA rfl hl.1 rfl (Nat.le_of_ble_eq_true rfl) dX3_isPerson_8 ⟨Nat.zero_le _, Nat.zero_le _⟩ (fun H locs hP hS => ?_)
  exact hret _ _ _ _ _ _ hP hD hS dX3_isPerson_11 (zx_nar _) ⟨congrArg zx_b (zd_per_b x (by omega)).symm, rfl⟩
set_option maxHeartbeats 4000000 in
set_option maxRecDepth 100000 in
theorem c_X3_aheadOf (l : Launch) (D : va_G) (cI cB : ClassId) (r : Nat → Nat) (s : Nat → Nat) (a : Nat → Nat → Nat) (z : Nat → Int) (h : Int64) (d : Nat) (hI : zm_I s a z) (hd : d < 9) : zx_C zx_ei l D (zm_t cI cB) (zm_w cI cB r) yX3_aheadOf wsX3_aheadOf rmX3_aheadOf [.ref (r 0), .int (nI d)] (s, a, z, h) (fun v u' => v = zx_i (zp_ah (s 3) (z d)) ∧ u' = (s, a, z, h)) := by
  refine zx_of_i (cc := cX3_aheadOf) (maxL := 2) (by decide) rfl (Nat.le_of_ble_eq_true rfl) ?_
  intro p e st m args below meth c A Q H cf hK hN hP hD hS hA hret ls hl
  obtain ⟨hx, hb, hml, hown, hts⟩ := id cf
  have hi3 : ∀ w ∈ wsX30, w ∈ wsX3_aheadOf := fun w h => List.mem_cons_of_mem _ (List.mem_append_right _ h)
  have k72 := hts (.fieldLink RX3 72 "NineDrawersModel" "facing" "I") (List.mem_of_getElem? (i := 1) (by decide +kernel))
  have k7 := hts (.fieldLink RX3 7 "NineDrawersModel" "delayOf" "[I") (List.mem_of_getElem? (i := 2) (by decide +kernel))
  have hl : lv_has ls 2 [(0, .ref (r 0)), (1, .int (nI d))] := hl
  have hP : va_P D vwCl ((zm_w cI cB r) (s, a, z, h)) H := hP
  have hD : va_D A ((zm_w cI cB r) (s, a, z, h)) := hD
  obtain ⟨⟨i0, i1, i3, i5, i9, i13, i14⟩, ⟨i17, i18, i19, i20, i21⟩, iP, iF, iL, iG, iZ, jL, jP, jF⟩ := id hI
  refine lv_aload_n hx hb dX3_aheadOf_0 rfl (lv_at hl 0 rfl) ?_
  refine va_get (D := D) (ci := 3) (v := .int (nI (s 3))) (C := RX3) (T := TX3) (N := 29) hx hb hts hi3 hown hK hP 0 rfl rfl 3 (by decide) k72 (fun _ h9 => h9) rfl dX3_aheadOf_1 ?_
  by_cases c_4_0 : s 3 = 0
  · refine lv_tableIn (off := 28) (tgt := 32) hx hb dX3_aheadOf_4 (by rw [c_4_0]; decide) (by rw [c_4_0]; decide) (by rw [c_4_0]; rfl) (by decide) ?_
    refine lv_aload_n hx hb dX3_aheadOf_32 rfl (lv_at hl 0 rfl) ?_
    refine va_get (D := D) (ci := 3) (v := .ref (r 2)) (C := RX3) (T := TX3) (N := 29) hx hb hts hi3 hown hK hP 0 rfl rfl 2 (by decide) k7 (fun _ h9 => h9) rfl dX3_aheadOf_33 ?_
    refine lv_iload_n hx hb dX3_aheadOf_36 rfl (lv_at hl 1 rfl) ?_
    refine zx_aldI (f := z) (n := 9) hx hb hK hP 1 0 rfl rfl (by omega) (by decide) dX3_aheadOf_37 ?_
    exact hret _ _ _ _ _ _ hP hD hS dX3_aheadOf_38 ⟨by rw [c_4_0]; rfl, rfl⟩
  by_cases c_4_1 : s 3 = 1
  · refine lv_tableIn (off := 35) (tgt := 39) hx hb dX3_aheadOf_4 (by rw [c_4_1]; decide) (by rw [c_4_1]; decide) (by rw [c_4_1]; rfl) (by decide) ?_
    refine lv_aload_n hx hb dX3_aheadOf_39 rfl (lv_at hl 0 rfl) ?_
    refine va_get (D := D) (ci := 3) (v := .ref (r 2)) (C := RX3) (T := TX3) (N := 29) hx hb hts hi3 hown hK hP 0 rfl rfl 2 (by decide) k7 (fun _ h9 => h9) rfl dX3_aheadOf_40 ?_
    refine lv_iload_n hx hb dX3_aheadOf_43 rfl (lv_at hl 1 rfl) ?_
    refine zx_aldI (f := z) (n := 9) hx hb hK hP 1 0 rfl rfl (by omega) (by decide) dX3_aheadOf_44 ?_
    refine lv_iconst (v := nI 1) hx hb dX3_aheadOf_45 (by decide) ?_
    refine lv_iadd hx hb dX3_aheadOf_46 ?_
    refine zx_topi (y := zx_i (z d + 1)) ((zx_i_add (z d) 1)) ?_
    exact hret _ _ _ _ _ _ hP hD hS dX3_aheadOf_47 ⟨by rw [c_4_1]; rfl, rfl⟩
  by_cases c_4_2 : s 3 = 2
  · refine lv_tableIn (off := 44) (tgt := 48) hx hb dX3_aheadOf_4 (by rw [c_4_2]; decide) (by rw [c_4_2]; decide) (by rw [c_4_2]; rfl) (by decide) ?_
    refine lv_aload_n hx hb dX3_aheadOf_48 rfl (lv_at hl 0 rfl) ?_
    refine va_get (D := D) (ci := 3) (v := .ref (r 2)) (C := RX3) (T := TX3) (N := 29) hx hb hts hi3 hown hK hP 0 rfl rfl 2 (by decide) k7 (fun _ h9 => h9) rfl dX3_aheadOf_49 ?_
    refine lv_iload_n hx hb dX3_aheadOf_52 rfl (lv_at hl 1 rfl) ?_
    refine zx_aldI (f := z) (n := 9) hx hb hK hP 1 0 rfl rfl (by omega) (by decide) dX3_aheadOf_53 ?_
    refine zx_inegI hx hb dX3_aheadOf_54 ?_
    exact hret _ _ _ _ _ _ hP hD hS dX3_aheadOf_55 ⟨by rw [c_4_2]; rfl, rfl⟩
  refine lv_tableOut (tgt := 56) hx hb dX3_aheadOf_4 (zx_tout (by omega) (by omega)) (by decide) ?_
  refine lv_iconst (v := nI 0) hx hb dX3_aheadOf_56 (by decide) ?_
  exact hret _ _ _ _ _ _ hP hD hS dX3_aheadOf_57 ⟨by unfold zp_ah; rw [if_neg c_4_0, if_neg c_4_1, if_neg c_4_2]; rfl, rfl⟩
