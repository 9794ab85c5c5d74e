set_option maxHeartbeats 4000000 in
set_option maxRecDepth 100000 in
theorem c_X2_digestOfDrawer (l : Launch) (D : va_G) (cI cB : ClassId) (r : Nat → Nat) (s : Nat → Nat) (a : Nat → Nat → Nat) (z : Nat → Int) (ah : Int) (h9 : Int64) (d : Nat) (hI : zy_I s a z) (hc : s 2 ≠ 0) (hd : d < 9) : zx_C zx_el l D (zm_t cI cB) (zy_w cI r) yX2_digestOfDrawer wsX2_digestOfDrawer rmX2_digestOfDrawer [.ref (r 1), .long h9, .int (nI d)] (s, a, z, ah) (fun v u' => v = zy_md s a z d h9 ∧ ∃ (y9 : Nat → Nat) (w9 : Int), u' = (y9, a, z, w9) ∧ ∀ k, k < 31 → y9 k = s k) := by
  refine zx_of_l (cc := cX2_digestOfDrawer) (maxL := 7) (by decide) rfl (Nat.le_of_ble_eq_true rfl) ?_
  intro p e st m args below meth c A Q H cf hK hN hP hD hS hA hret ls hl
  obtain ⟨hx, hb, hml, hown, hts⟩ := id cf
  have hl : lv_has ls 7 [(0, .ref (r 1)), (1, .long h9), (3, .int (nI d))] := hl
  have hP : va_P D vwCl ((zy_w cI r) (s, a, z, ah)) H := hP
  have hD : va_D A ((zy_w cI r) (s, a, z, ah)) := hD
  obtain ⟨⟨i1, i2, i5, i7, i8, i10, i11, i12⟩, ⟨i20, i21, i22⟩, iG, iP, iL, iZ, jP, jL⟩ := id hI
  refine lv_lload_n hx hb dX2_digestOfDrawer_0 rfl (lv_at hl 1 rfl) ?_
  refine lv_lstore (lv' := [(4, .long h9), (0, .ref (r 1)), (1, .long h9), (3, .int (nI d))]) hx hb dX2_digestOfDrawer_1 hl (by decide) rfl (fun ls hl => ?_)
  refine lv_iconst (v := nI 0) hx hb dX2_digestOfDrawer_3 (by decide) ?_
  refine lv_istore (lv' := [(6, .int (nI 0)), (4, .long h9), (0, .ref (r 1)), (1, .long h9), (3, .int (nI d))]) hx hb dX2_digestOfDrawer_4 hl (by decide) rfl (fun ls hl => ?_)
  have lp_6 : ∀ (n_ : Nat) (i : Nat) (hh : Int64) (y9 : Nat → Nat) (w9 : Int), 7 - i < n_ → (i ≤ 7) → (hh = zp_fo (fun q9 g9 => (31 : Int64) * g9 + (zy_dn s a z d q9).toInt64) h9 i) → (∀ k, k < 31 → y9 k = s k) → ∀ x3 : Int32, x3 = nI d → ∀ x4 : Int64, x4 = hh → ∀ x6 : Int32, x6 = nI i → ∀ (H : Heap) (locs : List Loc), va_P D vwCl ((zy_w cI r) (y9, a, z, w9)) H → va_D A ((zy_w cI r) (y9, a, z, w9)) → va_S A st.heap H locs → ∀ ls : Array Slot, lv_has ls 7 [(0, .ref (r 1)), (3, .int x3), (4, .long x4), (6, .int x6)] → W p l e rmX2_digestOfDrawer st m args below meth c H locs 0 0 Q (F0 m 6 ls []) := by
    intro n_
    induction n_ with
    | zero => intros; omega
    | succ n_ ih_6 =>
      intro i hh y9 w9 hmu_6 hi9 gh gy
      intro x3 ex3; subst ex3
      intro x4 ex4; subst x4
      intro x6 ex6; subst ex6
      intro H locs hP hD hS ls hl
      have hl : lv_has ls 7 [(0, .ref (r 1)), (3, .int (nI d)), (4, .long hh), (6, .int (nI i))] := hl
      refine lv_iload hx hb dX2_digestOfDrawer_6 (lv_at hl 3 rfl) ?_
      refine lv_bipush (v := nI 6) hx hb dX2_digestOfDrawer_8 (by decide) ?_
      refine zx_icmp_gt hx hb (tgt := 36) (by omega) (by omega) dX2_digestOfDrawer_10 (by decide) (fun c_10 => ?_) (fun c_10 => ?_)
      · refine lv_iconst (v := nI 0) hx hb dX2_digestOfDrawer_36 (by decide) ?_
        refine lv_istore (lv' := [(6, .int (nI 0)), (0, .ref (r 1)), (3, .int (nI d)), (4, .long hh)]) hx hb dX2_digestOfDrawer_37 hl (by decide) rfl (fun ls hl => ?_)
        have lp_39 : ∀ (n_ : Nat) (i : Nat) (hh : Int64) (y9 : Nat → Nat) (w9 : Int), 7 - i < n_ → (i ≤ 7) → (hh = zp_fo (fun o9 g9 => (31 : Int64) * g9 + (zy_sr s a z d o9).toInt64) (zp_fo (fun q9 g9 => (31 : Int64) * g9 + (zy_dn s a z d q9).toInt64) h9 7) i) → (∀ k, k < 31 → y9 k = s k) → ∀ x3 : Int32, x3 = nI d → ∀ x4 : Int64, x4 = hh → ∀ x6 : Int32, x6 = nI i → ∀ (H : Heap) (locs : List Loc), va_P D vwCl ((zy_w cI r) (y9, a, z, w9)) H → va_D A ((zy_w cI r) (y9, a, z, w9)) → va_S A st.heap H locs → ∀ ls : Array Slot, lv_has ls 7 [(0, .ref (r 1)), (3, .int x3), (4, .long x4), (6, .int x6)] → W p l e rmX2_digestOfDrawer st m args below meth c H locs 0 0 Q (F0 m 39 ls []) := by
          intro n_
          induction n_ with
          | zero => intros; omega
          | succ n_ ih_39 =>
            intro i hh y9 w9 hmu_39 hi9 gh gy
            intro x3 ex3; subst ex3
            intro x4 ex4; subst x4
            intro x6 ex6; subst ex6
            intro H locs hP hD hS ls hl
            have hl : lv_has ls 7 [(0, .ref (r 1)), (3, .int (nI d)), (4, .long hh), (6, .int (nI i))] := hl
            refine lv_iload hx hb dX2_digestOfDrawer_39 (lv_at hl 3 rfl) ?_
            refine lv_bipush (v := nI 7) hx hb dX2_digestOfDrawer_41 (by decide) ?_
            refine zx_icmp_ge hx hb (tgt := 69) (by omega) (by omega) dX2_digestOfDrawer_43 (by decide) (fun c_43 => ?_) (fun c_43 => ?_)
            · refine lv_ldc2 (v := 31) hx hb hown (hts (.constantLong RX2 202 (31)) (List.mem_of_getElem? (i := 1) (by decide +kernel))) dX2_digestOfDrawer_69 ?_
              refine lv_lload hx hb dX2_digestOfDrawer_72 (lv_at hl 2 rfl) ?_
              refine lv_lmul hx hb dX2_digestOfDrawer_74 ?_
              refine lv_aload_n hx hb dX2_digestOfDrawer_75 rfl (lv_at hl 0 rfl) ?_
              refine lv_iload_n hx hb dX2_digestOfDrawer_76 rfl (lv_at hl 1 rfl) ?_
              refine zx_V_i (As := [.int (nI d)]) (rest := [.long ((31 : Int64) * hh)]) cf (c_X2_delays l D cI cB r y9 a z w9 (nI d) (zy_I_y hI gy) ) (cwV 1 hts gX2_digestOfDrawer_X2_delays rfl rfl rfl ⟨rfl, hd_X2_delays⟩ ⟨Nat.le_of_ble_eq_true rfl, Nat.le_of_ble_eq_true rfl⟩) hK hN hP hD hS hA 0 rfl rfl rfl hl.1 rfl (Nat.le_of_ble_eq_true rfl) dX2_digestOfDrawer_77 ⟨Nat.zero_le _, Nat.zero_le _⟩ (fun v_77 u_77 H locs hq hP hD hS => ?_)
              obtain ⟨rfl, y_77, w_77, rfl, gy_77⟩ := hq
              refine zx_topi (y := (nI (zp_bits (zy_de s a d) 8))) ((zy_cde gy hc hd)) ?_
              refine lv_i2l hx hb dX2_digestOfDrawer_80 rfl ?_
              refine lv_ladd hx hb dX2_digestOfDrawer_81 ?_
              exact hret _ _ _ _ _ _ hP hD hS dX2_digestOfDrawer_82 ⟨by rw [gh, show i = 7 by omega]; rfl, y_77, w_77, rfl, fun k hk => (gy_77 k hk).trans (gy k hk)⟩
            · refine lv_ldc2 (v := 31) hx hb hown (hts (.constantLong RX2 202 (31)) (List.mem_of_getElem? (i := 1) (by decide +kernel))) dX2_digestOfDrawer_46 ?_
              refine lv_lload hx hb dX2_digestOfDrawer_49 (lv_at hl 2 rfl) ?_
              refine lv_lmul hx hb dX2_digestOfDrawer_51 ?_
              refine lv_aload_n hx hb dX2_digestOfDrawer_52 rfl (lv_at hl 0 rfl) ?_
              refine lv_iload_n hx hb dX2_digestOfDrawer_53 rfl (lv_at hl 1 rfl) ?_
              refine lv_iload hx hb dX2_digestOfDrawer_54 (lv_at hl 3 rfl) ?_
              refine zx_V_i (As := [.int (nI d), .int (nI i)]) (rest := [.long ((31 : Int64) * hh)]) cf (c_X2_sure l D cI cB r y9 a z w9 (nI d) (nI i) (zy_I_y hI gy) ) (cwV 2 hts gX2_digestOfDrawer_X2_sure rfl rfl rfl ⟨rfl, hd_X2_sure⟩ ⟨Nat.le_of_ble_eq_true rfl, Nat.le_of_ble_eq_true rfl⟩) hK hN hP hD hS hA 0 rfl rfl rfl hl.1 rfl (Nat.le_of_ble_eq_true rfl) dX2_digestOfDrawer_56 ⟨Nat.zero_le _, Nat.zero_le _⟩ (fun v_56 u_56 H locs hq hP hD hS => ?_)
              obtain ⟨rfl, y_56, w_56, rfl, gy_56⟩ := hq
              refine zx_topi (y := (zy_sr s a z d i)) ((zy_csr gy hc hd (by omega))) ?_
              refine lv_i2l hx hb dX2_digestOfDrawer_59 rfl ?_
              refine lv_ladd hx hb dX2_digestOfDrawer_60 ?_
              refine lv_lstore (lv' := [(4, .long (((31 : Int64) * hh) + (((zy_sr s a z d i)).toInt64))), (0, .ref (r 1)), (3, .int (nI d)), (6, .int (nI i))]) hx hb dX2_digestOfDrawer_61 hl (by decide) rfl (fun ls hl => ?_)
              refine lv_iinc (v := nI (i + 1)) (lv' := [(6, .int (nI (i + 1))), (4, .long (((31 : Int64) * hh) + (((zy_sr s a z d i)).toInt64))), (0, .ref (r 1)), (3, .int (nI d))]) hx hb dX2_digestOfDrawer_63 hl (k := 3) rfl (zx_inc _ _) (by decide) rfl (fun ls hl => ?_)
              refine lv_goto (tgt := 39) hx hb dX2_digestOfDrawer_66 (by decide) ?_
              exact ih_39 (i + 1) (((31 : Int64) * hh) + (((zy_sr s a z d i)).toInt64)) y_56 w_56 (by omega) (by omega) (by rw [gh]; rfl) (fun k hk => (gy_56 k hk).trans (gy k hk)) _ rfl _ (by first | rfl | (congr 1; omega)) _ rfl _ _ hP hD hS ls (lv_sub hl [2, 3, 1, 0] rfl)
        exact lp_39 _ 0 hh y9 w9 (Nat.lt_succ_self _) (Nat.zero_le _) (by rw [gh, show i = 7 by omega]; rfl) gy _ rfl _ rfl _ rfl _ _ hP hD hS ls (lv_sub hl [1, 2, 3, 0] rfl)
      · refine lv_ldc2 (v := 31) hx hb hown (hts (.constantLong RX2 202 (31)) (List.mem_of_getElem? (i := 1) (by decide +kernel))) dX2_digestOfDrawer_13 ?_
        refine lv_lload hx hb dX2_digestOfDrawer_16 (lv_at hl 2 rfl) ?_
        refine lv_lmul hx hb dX2_digestOfDrawer_18 ?_
        refine lv_aload_n hx hb dX2_digestOfDrawer_19 rfl (lv_at hl 0 rfl) ?_
        refine lv_iload_n hx hb dX2_digestOfDrawer_20 rfl (lv_at hl 1 rfl) ?_
        refine lv_iload hx hb dX2_digestOfDrawer_21 (lv_at hl 3 rfl) ?_
        refine zx_V_i (As := [.int (nI d), .int (nI i)]) (rest := [.long ((31 : Int64) * hh)]) cf (c_X2_drawer l D cI cB r y9 a z w9 (nI d) (nI i) (zy_I_y hI gy) ) (cwV 2 hts gX2_digestOfDrawer_X2_drawer rfl rfl rfl ⟨rfl, hd_X2_drawer⟩ ⟨Nat.le_of_ble_eq_true rfl, Nat.le_of_ble_eq_true rfl⟩) hK hN hP hD hS hA 0 rfl rfl rfl hl.1 rfl (Nat.le_of_ble_eq_true rfl) dX2_digestOfDrawer_23 ⟨Nat.zero_le _, Nat.zero_le _⟩ (fun v_23 u_23 H locs hq hP hD hS => ?_)
        obtain ⟨rfl, y_23, w_23, rfl, gy_23⟩ := hq
        refine zx_topi (y := (zy_dn s a z d i)) ((zy_cdn gy hc hd (by omega))) ?_
        refine lv_i2l hx hb dX2_digestOfDrawer_26 rfl ?_
        refine lv_ladd hx hb dX2_digestOfDrawer_27 ?_
        refine lv_lstore (lv' := [(4, .long (((31 : Int64) * hh) + (((zy_dn s a z d i)).toInt64))), (0, .ref (r 1)), (3, .int (nI d)), (6, .int (nI i))]) hx hb dX2_digestOfDrawer_28 hl (by decide) rfl (fun ls hl => ?_)
        refine lv_iinc (v := nI (i + 1)) (lv' := [(6, .int (nI (i + 1))), (4, .long (((31 : Int64) * hh) + (((zy_dn s a z d i)).toInt64))), (0, .ref (r 1)), (3, .int (nI d))]) hx hb dX2_digestOfDrawer_30 hl (k := 3) rfl (zx_inc _ _) (by decide) rfl (fun ls hl => ?_)
        refine lv_goto (tgt := 6) hx hb dX2_digestOfDrawer_33 (by decide) ?_
        exact ih_6 (i + 1) (((31 : Int64) * hh) + (((zy_dn s a z d i)).toInt64)) y_23 w_23 (by omega) (by omega) (by rw [gh]; rfl) (fun k hk => (gy_23 k hk).trans (gy k hk)) _ rfl _ (by first | rfl | (congr 1; omega)) _ rfl _ _ hP hD hS ls (lv_sub hl [2, 3, 1, 0] rfl)
  exact lp_6 _ 0 h9 s ah (Nat.lt_succ_self _) (Nat.zero_le _) rfl (fun _ _ => rfl) _ rfl _ rfl _ rfl _ _ hP hD hS ls (lv_sub hl [2, 4, 1, 0] rfl)
