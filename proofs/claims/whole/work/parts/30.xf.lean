set_option maxHeartbeats 4000000 in
set_option maxRecDepth 100000 in
theorem c_X2_fewestLaid (l : Launch) (D : va_G) (cI cB : ClassId) (r : Nat → Nat) (s : Nat → Nat) (a : Nat → Nat → Nat) (z : Nat → Int) (ah : Int) (d9 : Nat) (hE : s 32 < 128) (hT : s 33 < 128) (hq : s 31 < 128) (hah : -3 ≤ ah ∧ ah ≤ 4) (hd : d9 < 128) : zx_C zx_ei l D (zm_t cI cB) (zy_w cI r) yX2_fewestLaid wsX2_fewestLaid rmX2_fewestLaid [.ref (r 30), .int (nI d9)] (s, a, z, ah) (fun v u' => v = zp_o (zp_bs (zy_g (s 32) (s 33) ah d9)) ∧ ∃ y9 : Nat → Nat, u' = (y9, a, z, ah) ∧ ∀ k, k < 31 → y9 k = s k) := by
  refine zx_of_i (cc := cX2_fewestLaid) (maxL := 4) (by decide) rfl (Nat.le_of_ble_eq_true rfl) ?_
  intro p e st m args below meth c A Q H cf hK hN hP hD hS hA hret ls hl
  obtain ⟨hx, hb, hml, hown, hts⟩ := id cf
  have hi0 : ∀ w ∈ wsX00, w ∈ wsX2_fewestLaid := fun w h => List.mem_cons_of_mem _ (List.mem_append_right _ h)
  have k171 := hts (.fieldLink RX2 171 "NineDrawers$Course" "laid" "I") (List.mem_of_getElem? (i := 1) (by decide +kernel))
  have hl : lv_has ls 4 [(0, .ref (r 30)), (1, .int (nI d9))] := hl
  have hP : va_P D vwCl ((zy_w cI r) (s, a, z, ah)) H := hP
  have hD : va_D A ((zy_w cI r) (s, a, z, ah)) := hD
  refine lv_iconst (v := (-1)) hx hb dX2_fewestLaid_0 (by decide) ?_
  refine lv_istore_n (lv' := [(2, .int (-1)), (0, .ref (r 30)), (1, .int (nI d9))]) hx hb dX2_fewestLaid_1 rfl hl (by decide) rfl (fun ls hl => ?_)
  refine lv_iconst (v := nI 0) hx hb dX2_fewestLaid_2 (by decide) ?_
  refine lv_istore_n (lv' := [(3, .int (nI 0)), (2, .int (-1)), (0, .ref (r 30)), (1, .int (nI d9))]) hx hb dX2_fewestLaid_3 rfl hl (by decide) rfl (fun ls hl => ?_)
  have lp_4 : ∀ (n_ : Nat) (i : Nat) (y9 : Nat → Nat), 128 - i < n_ → (i ≤ 128) → ((∀ k, (k < 31 ∨ k = 32 ∨ k = 33) → y9 k = s k)) → ∀ x1 : Int32, x1 = nI d9 → ∀ x2 : Int32, x2 = (zp_o (zp_bst (zy_g (s 32) (s 33) ah d9) i)) → ∀ x3 : Int32, x3 = nI i → ∀ (H : Heap) (locs : List Loc), va_P D vwCl ((zy_w cI r) (y9, a, z, ah)) H → va_D A ((zy_w cI r) (y9, a, z, ah)) → va_S A st.heap H locs → ∀ ls : Array Slot, lv_has ls 4 [(0, .ref (r 30)), (1, .int x1), (2, .int x2), (3, .int x3)] → W p l e rmX2_fewestLaid st m args below meth c H locs 0 0 Q (F0 m 4 ls []) := by
    intro n_
    induction n_ with
    | zero => intros; omega
    | succ n_ ih_4 =>
      intro i y9 hmu_4 hi9 gy
      intro x1 ex1; subst ex1
      intro x2 ex2; subst ex2
      intro x3 ex3; subst ex3
      intro H locs hP hD hS ls hl
      have hl : lv_has ls 4 [(0, .ref (r 30)), (1, .int (nI d9)), (2, .int (zp_o (zp_bst (zy_g (s 32) (s 33) ah d9) i))), (3, .int (nI i))] := hl
      refine lv_iload_n hx hb dX2_fewestLaid_4 rfl (lv_at hl 3 rfl) ?_
      refine lv_bipush (v := nI 127) hx hb dX2_fewestLaid_5 (by decide) ?_
      refine zx_icmp_gt hx hb (tgt := 51) (by omega) (by omega) dX2_fewestLaid_7 (by decide) (fun c_7 => ?_) (fun c_7 => ?_)
      · refine lv_iload_n hx hb dX2_fewestLaid_51 rfl (lv_at hl 2 rfl) ?_
        exact hret _ _ _ _ _ _ hP hD hS dX2_fewestLaid_52 ⟨by rw [zp_bs_eq, show i = 128 by omega], y9, rfl, fun k hk => gy k (Or.inl hk)⟩
      · refine lv_iload_n hx hb dX2_fewestLaid_10 rfl (lv_at hl 2 rfl) ?_
        refine lv_iconst (v := (-1)) hx hb dX2_fewestLaid_11 (by decide) ?_
        refine lv_icmp_eq (tgt := 26) hx hb dX2_fewestLaid_12 (by decide) (fun c_12 => ?_) (fun c_12 => ?_)
        · refine lv_aload_n hx hb dX2_fewestLaid_26 rfl (lv_at hl 0 rfl) ?_
          refine lv_iload_n hx hb dX2_fewestLaid_27 rfl (lv_at hl 3 rfl) ?_
          refine zx_put (D := D) (ci := 0) (ty := .int) (v := .int (nI i)) (ws' := (zy_w cI r) ((zx_up y9 31 i), a, z, ah)) (C := RX0) (T := TX0) (N := 7) hx hb hts hi0 tyX0 tyX0_ok nmX0 hown hK hP hD hS 17 rfl rfl 1 (by decide) k171 (fun _ h9 => h9) rfl (by decide +kernel) rfl rfl (Nat.le_of_ble_eq_true rfl) rfl dX2_fewestLaid_28 (fun H locs hP hD hS => ?_)
          refine lv_aload_n hx hb dX2_fewestLaid_31 rfl (lv_at hl 0 rfl) ?_
          refine zx_V_v (As := []) (rest := []) cf (c_X0_settle l D cI cB r (zx_up y9 31 i) a z ah  (by show y9 32 < 128; rw [gy 32 (by omega)]; exact hE) (by show y9 33 < 128; rw [gy 33 (by omega)]; exact hT) (by show i < 128; omega) hah) (cwV 0 hts gX2_fewestLaid_X0_settle rfl rfl rfl ⟨rfl, hd_X0_settle⟩ ⟨Nat.le_of_ble_eq_true rfl, Nat.le_of_ble_eq_true rfl⟩) hK hN hP hD hS hA 17 rfl rfl rfl hl.1 rfl (Nat.le_of_ble_eq_true rfl) dX2_fewestLaid_32 ⟨Nat.zero_le _, Nat.zero_le _⟩ (fun v_32 u_32 H locs hq hP hD hS => ?_)
          subst hq
          refine lv_aload_n hx hb dX2_fewestLaid_35 rfl (lv_at hl 0 rfl) ?_
          refine lv_iload_n hx hb dX2_fewestLaid_36 rfl (lv_at hl 1 rfl) ?_
          refine zx_V_i (As := [.int (nI d9)]) (rest := []) cf (c_X0_isSureOfAll l D cI cB r (zx_up (zx_up (zx_up (zx_up y9 31 i) 34 (zy_h (zy_f (y9 32) (y9 33) (i) ah) ah)) 35 (zy_l (zy_f (y9 32) (y9 33) (i) ah) ah)) 36 (zy_s (zy_f (y9 32) (y9 33) (i) ah) ah)) a z ah d9 (zy_hls _ _ _ _).1 (zy_hls _ _ _ _).2.1 (zy_hls _ _ _ _).2.2 hd) (cwV 1 hts gX2_fewestLaid_X0_isSureOfAll rfl rfl rfl ⟨rfl, hd_X0_isSureOfAll⟩ ⟨Nat.le_of_ble_eq_true rfl, Nat.le_of_ble_eq_true rfl⟩) hK hN hP hD hS hA 17 rfl rfl rfl hl.1 rfl (Nat.le_of_ble_eq_true rfl) dX2_fewestLaid_37 ⟨Nat.zero_le _, Nat.zero_le _⟩ (fun v_37 u_37 H locs hq hP hD hS => ?_)
          obtain ⟨rfl, rfl⟩ := hq
          refine zx_bf_eq hx hb (tgt := 45) dX2_fewestLaid_40 (by decide) (fun c_40 => ?_) (fun c_40 => ?_)
          · refine lv_iinc (v := nI (i + 1)) (lv' := [(3, .int (nI (i + 1))), (0, .ref (r 30)), (1, .int (nI d9)), (2, .int (zp_o (zp_bst (zy_g (s 32) (s 33) ah d9) i)))]) hx hb dX2_fewestLaid_45 hl (k := 3) rfl (zx_inc _ _) (by decide) rfl (fun ls hl => ?_)
            refine lv_goto (tgt := 4) hx hb dX2_fewestLaid_48 (by decide) ?_
            exact ih_4 (i + 1) (zx_up (zx_up (zx_up (zx_up y9 31 i) 34 (zy_h (zy_f (y9 32) (y9 33) (i) ah) ah)) 35 (zy_l (zy_f (y9 32) (y9 33) (i) ah) ah)) 36 (zy_s (zy_f (y9 32) (y9 33) (i) ah) ah)) (by omega) (by omega) (fun k hk => by rw [zx_up_ne _ _ (by omega), zx_up_ne _ _ (by omega), zx_up_ne _ _ (by omega), zx_up_ne _ _ (by omega)]; exact gy k hk) _ rfl _ (by rw [gy 32 (by omega), gy 33 (by omega)] at c_40; exact zp_bst_n0 (zp_o_none (fun k hk => by have := zp_bst_lt hk; omega) c_12) c_40) _ rfl _ _ hP hD hS ls (lv_sub hl [1, 2, 3, 0] rfl)
          · refine lv_iload_n hx hb dX2_fewestLaid_43 rfl (lv_at hl 3 rfl) ?_
            refine lv_istore_n (lv' := [(2, .int (nI i)), (0, .ref (r 30)), (1, .int (nI d9)), (3, .int (nI i))]) hx hb dX2_fewestLaid_44 rfl hl (by decide) rfl (fun ls hl => ?_)
            refine lv_iinc (v := nI (i + 1)) (lv' := [(3, .int (nI (i + 1))), (2, .int (nI i)), (0, .ref (r 30)), (1, .int (nI d9))]) hx hb dX2_fewestLaid_45 hl (k := 3) rfl (zx_inc _ _) (by decide) rfl (fun ls hl => ?_)
            refine lv_goto (tgt := 4) hx hb dX2_fewestLaid_48 (by decide) ?_
            exact ih_4 (i + 1) (zx_up (zx_up (zx_up (zx_up y9 31 i) 34 (zy_h (zy_f (y9 32) (y9 33) (i) ah) ah)) 35 (zy_l (zy_f (y9 32) (y9 33) (i) ah) ah)) 36 (zy_s (zy_f (y9 32) (y9 33) (i) ah) ah)) (by omega) (by omega) (fun k hk => by rw [zx_up_ne _ _ (by omega), zx_up_ne _ _ (by omega), zx_up_ne _ _ (by omega), zx_up_ne _ _ (by omega)]; exact gy k hk) _ rfl _ (by rw [gy 32 (by omega), gy 33 (by omega)] at c_40; exact zp_bst_n1 (zp_o_none (fun k hk => by have := zp_bst_lt hk; omega) c_12) c_40) _ rfl _ _ hP hD hS ls (lv_sub hl [2, 3, 1, 0] rfl)
        · obtain ⟨b9, hb9⟩ := zp_o_some c_12
          have hbl := zp_bst_lt hb9
          rw [hb9] at hl
          refine lv_iload_n hx hb dX2_fewestLaid_15 rfl (lv_at hl 3 rfl) ?_
          refine zx_S (As := [.int (nI i)]) (rest := []) cf (c_J6_bitCount_0f7a4 l D i (by omega)) (va_cwS 1 hts gX2_fewestLaid_J6_bitCount_0f7a4 rfl rfl rfl hd_J6_bitCount_0f7a4 ⟨Nat.le_of_ble_eq_true rfl, Nat.le_of_ble_eq_true rfl⟩) hK hN hP hS hA rfl hl.1 rfl (Nat.le_of_ble_eq_true rfl) dX2_fewestLaid_16 ⟨Nat.zero_le _, Nat.zero_le _⟩ (fun H locs hP hS => ?_)
          refine lv_iload_n hx hb dX2_fewestLaid_19 rfl (lv_at hl 2 rfl) ?_
          refine zx_S (As := [.int (nI b9)]) (rest := [.int (nI (zp_pc i))]) cf (c_J6_bitCount_0f7a4 l D b9 (by omega)) (va_cwS 1 hts gX2_fewestLaid_J6_bitCount_0f7a4 rfl rfl rfl hd_J6_bitCount_0f7a4 ⟨Nat.le_of_ble_eq_true rfl, Nat.le_of_ble_eq_true rfl⟩) hK hN hP hS hA rfl hl.1 rfl (Nat.le_of_ble_eq_true rfl) dX2_fewestLaid_20 ⟨Nat.zero_le _, Nat.zero_le _⟩ (fun H locs hP hS => ?_)
          refine zx_icmp_ge hx hb (tgt := 45) (zp_pc_lt _) (zp_pc_lt _) dX2_fewestLaid_23 (by decide) (fun c_23 => ?_) (fun c_23 => ?_)
          · refine lv_iinc (v := nI (i + 1)) (lv' := [(3, .int (nI (i + 1))), (0, .ref (r 30)), (1, .int (nI d9)), (2, .int (nI b9))]) hx hb dX2_fewestLaid_45 hl (k := 3) rfl (zx_inc _ _) (by decide) rfl (fun ls hl => ?_)
            refine lv_goto (tgt := 4) hx hb dX2_fewestLaid_48 (by decide) ?_
            exact ih_4 (i + 1) y9 (by omega) (by omega) gy _ rfl _ (zp_bst_s0 hb9 (Or.inl c_23)) _ rfl _ _ hP hD hS ls (lv_sub hl [1, 2, 3, 0] rfl)
          · refine lv_aload_n hx hb dX2_fewestLaid_26 rfl (lv_at hl 0 rfl) ?_
            refine lv_iload_n hx hb dX2_fewestLaid_27 rfl (lv_at hl 3 rfl) ?_
            refine zx_put (D := D) (ci := 0) (ty := .int) (v := .int (nI i)) (ws' := (zy_w cI r) ((zx_up y9 31 i), a, z, ah)) (C := RX0) (T := TX0) (N := 7) hx hb hts hi0 tyX0 tyX0_ok nmX0 hown hK hP hD hS 17 rfl rfl 1 (by decide) k171 (fun _ h9 => h9) rfl (by decide +kernel) rfl rfl (Nat.le_of_ble_eq_true rfl) rfl dX2_fewestLaid_28 (fun H locs hP hD hS => ?_)
            refine lv_aload_n hx hb dX2_fewestLaid_31 rfl (lv_at hl 0 rfl) ?_
            refine zx_V_v (As := []) (rest := []) cf (c_X0_settle l D cI cB r (zx_up y9 31 i) a z ah  (by show y9 32 < 128; rw [gy 32 (by omega)]; exact hE) (by show y9 33 < 128; rw [gy 33 (by omega)]; exact hT) (by show i < 128; omega) hah) (cwV 0 hts gX2_fewestLaid_X0_settle rfl rfl rfl ⟨rfl, hd_X0_settle⟩ ⟨Nat.le_of_ble_eq_true rfl, Nat.le_of_ble_eq_true rfl⟩) hK hN hP hD hS hA 17 rfl rfl rfl hl.1 rfl (Nat.le_of_ble_eq_true rfl) dX2_fewestLaid_32 ⟨Nat.zero_le _, Nat.zero_le _⟩ (fun v_32 u_32 H locs hq hP hD hS => ?_)
            subst hq
            refine lv_aload_n hx hb dX2_fewestLaid_35 rfl (lv_at hl 0 rfl) ?_
            refine lv_iload_n hx hb dX2_fewestLaid_36 rfl (lv_at hl 1 rfl) ?_
            refine zx_V_i (As := [.int (nI d9)]) (rest := []) cf (c_X0_isSureOfAll l D cI cB r (zx_up (zx_up (zx_up (zx_up y9 31 i) 34 (zy_h (zy_f (y9 32) (y9 33) (i) ah) ah)) 35 (zy_l (zy_f (y9 32) (y9 33) (i) ah) ah)) 36 (zy_s (zy_f (y9 32) (y9 33) (i) ah) ah)) a z ah d9 (zy_hls _ _ _ _).1 (zy_hls _ _ _ _).2.1 (zy_hls _ _ _ _).2.2 hd) (cwV 1 hts gX2_fewestLaid_X0_isSureOfAll rfl rfl rfl ⟨rfl, hd_X0_isSureOfAll⟩ ⟨Nat.le_of_ble_eq_true rfl, Nat.le_of_ble_eq_true rfl⟩) hK hN hP hD hS hA 17 rfl rfl rfl hl.1 rfl (Nat.le_of_ble_eq_true rfl) dX2_fewestLaid_37 ⟨Nat.zero_le _, Nat.zero_le _⟩ (fun v_37 u_37 H locs hq hP hD hS => ?_)
            obtain ⟨rfl, rfl⟩ := hq
            refine zx_bf_eq hx hb (tgt := 45) dX2_fewestLaid_40 (by decide) (fun c_40 => ?_) (fun c_40 => ?_)
            · refine lv_iinc (v := nI (i + 1)) (lv' := [(3, .int (nI (i + 1))), (0, .ref (r 30)), (1, .int (nI d9)), (2, .int (nI b9))]) hx hb dX2_fewestLaid_45 hl (k := 3) rfl (zx_inc _ _) (by decide) rfl (fun ls hl => ?_)
              refine lv_goto (tgt := 4) hx hb dX2_fewestLaid_48 (by decide) ?_
              exact ih_4 (i + 1) (zx_up (zx_up (zx_up (zx_up y9 31 i) 34 (zy_h (zy_f (y9 32) (y9 33) (i) ah) ah)) 35 (zy_l (zy_f (y9 32) (y9 33) (i) ah) ah)) 36 (zy_s (zy_f (y9 32) (y9 33) (i) ah) ah)) (by omega) (by omega) (fun k hk => by rw [zx_up_ne _ _ (by omega), zx_up_ne _ _ (by omega), zx_up_ne _ _ (by omega), zx_up_ne _ _ (by omega)]; exact gy k hk) _ rfl _ (by rw [gy 32 (by omega), gy 33 (by omega)] at c_40; exact zp_bst_s0 hb9 (Or.inr c_40)) _ rfl _ _ hP hD hS ls (lv_sub hl [1, 2, 3, 0] rfl)
            · refine lv_iload_n hx hb dX2_fewestLaid_43 rfl (lv_at hl 3 rfl) ?_
              refine lv_istore_n (lv' := [(2, .int (nI i)), (0, .ref (r 30)), (1, .int (nI d9)), (3, .int (nI i))]) hx hb dX2_fewestLaid_44 rfl hl (by decide) rfl (fun ls hl => ?_)
              refine lv_iinc (v := nI (i + 1)) (lv' := [(3, .int (nI (i + 1))), (2, .int (nI i)), (0, .ref (r 30)), (1, .int (nI d9))]) hx hb dX2_fewestLaid_45 hl (k := 3) rfl (zx_inc _ _) (by decide) rfl (fun ls hl => ?_)
              refine lv_goto (tgt := 4) hx hb dX2_fewestLaid_48 (by decide) ?_
              exact ih_4 (i + 1) (zx_up (zx_up (zx_up (zx_up y9 31 i) 34 (zy_h (zy_f (y9 32) (y9 33) (i) ah) ah)) 35 (zy_l (zy_f (y9 32) (y9 33) (i) ah) ah)) 36 (zy_s (zy_f (y9 32) (y9 33) (i) ah) ah)) (by omega) (by omega) (fun k hk => by rw [zx_up_ne _ _ (by omega), zx_up_ne _ _ (by omega), zx_up_ne _ _ (by omega), zx_up_ne _ _ (by omega)]; exact gy k hk) _ rfl _ (by rw [gy 32 (by omega), gy 33 (by omega)] at c_40; exact zp_bst_s1 hb9 c_23 c_40) _ rfl _ _ hP hD hS ls (lv_sub hl [2, 3, 1, 0] rfl)
  exact lp_4 _ 0 s (Nat.lt_succ_self _) (Nat.zero_le _) (fun _ _ => rfl) _ rfl _ rfl _ rfl _ _ hP hD hS ls (lv_sub hl [2, 3, 1, 0] rfl)
set_option maxHeartbeats 4000000 in
set_option maxRecDepth 100000 in
theorem c_X2_delays (l : Launch) (D : va_G) (cI cB : ClassId) (r : Nat → Nat) (s : Nat → Nat) (a : Nat → Nat → Nat) (z : Nat → Int) (ah : Int) (x : Int32) (hI : zy_I s a z) : zx_C zx_ei l D (zm_t cI cB) (zy_w cI r) yX2_delays wsX2_delays rmX2_delays [.ref (r 1), .int x] (s, a, z, ah) (fun v u' => v = zs_de (zd_drw (s 2) x) (fun d => nI (zp_bits (zy_de s a d) 8)) ∧ ∃ (y9 : Nat → Nat) (w9 : Int), u' = (y9, a, z, w9) ∧ ∀ k, k < 31 → y9 k = s k) := by
  refine zx_of_i (cc := cX2_delays) (maxL := 5) (by decide) rfl (Nat.le_of_ble_eq_true rfl) ?_
  intro p e st m args below meth c A Q H cf hK hN hP hD hS hA hret ls hl
  obtain ⟨hx, hb, hml, hown, hts⟩ := id cf
  have hi0 : ∀ w ∈ wsX00, w ∈ wsX2_delays := fun w h => List.mem_cons_of_mem _ (List.mem_append_left _ (List.mem_append_left _ (List.mem_append_right _ h)))
  have k157 := hts (.fieldLink RX2 157 "NineDrawers$Course" "ahead" "I") (List.mem_of_getElem? (i := 1) (by decide +kernel))
  have hl : lv_has ls 5 [(0, .ref (r 1)), (1, .int x)] := hl
  have hP : va_P D vwCl ((zy_w cI r) (s, a, z, ah)) H := hP
  have hD : va_D A ((zy_w cI r) (s, a, z, ah)) := hD
  obtain ⟨⟨i1, i2, i5, i7, i8, i10, i11, i12⟩, ⟨i20, i21, i22⟩, iG, iP, iL, iZ, jP, jL⟩ := id hI
  refine lv_aload_n hx hb dX2_delays_0 rfl (lv_at hl 0 rfl) ?_
  refine lv_iload_n hx hb dX2_delays_1 rfl (lv_at hl 1 rfl) ?_
  refine zx_V_i (As := [.int x]) (rest := []) cf (c_X2_isDrawer l D cI cB r s a z ah x hI) (cwV 1 hts gX2_delays_X2_isDrawer rfl rfl rfl ⟨rfl, hd_X2_isDrawer⟩ ⟨Nat.le_of_ble_eq_true rfl, Nat.le_of_ble_eq_true rfl⟩) hK hN hP hD hS hA 0 rfl rfl rfl hl.1 rfl (Nat.le_of_ble_eq_true rfl) dX2_delays_2 ⟨Nat.zero_le _, Nat.zero_le _⟩ (fun v_2 u_2 H locs hq hP hD hS => ?_)
  obtain ⟨rfl, rfl⟩ := hq
  refine zx_bf_ne hx hb (tgt := 11) dX2_delays_5 (by decide) (fun c_5 => ?_) (fun c_5 => ?_)
  · obtain ⟨d, hz⟩ := zd_some c_5
    obtain ⟨rfl, hd, hc9⟩ := zd_drw_some hz
    refine lv_aload_n hx hb dX2_delays_11 rfl (lv_at hl 0 rfl) ?_
    refine lv_iconst (v := (-1)) hx hb dX2_delays_12 (by decide) ?_
    refine lv_iload_n hx hb dX2_delays_13 rfl (lv_at hl 1 rfl) ?_
    refine zx_V_a (As := [.int (-1), .int (nI d)]) (rest := []) cf (c_X2_cW_n l D cI cB r s a z ah 0 d hI (by omega)) (cwV 2 hts gX2_delays_X2_courseWithout rfl rfl rfl ⟨rfl, hd_X2_courseWithout⟩ ⟨Nat.le_of_ble_eq_true rfl, Nat.le_of_ble_eq_true rfl⟩) hK hN hP hD hS hA 0 rfl rfl rfl hl.1 rfl (Nat.le_of_ble_eq_true rfl) dX2_delays_14 ⟨Nat.zero_le _, Nat.zero_le _⟩ (fun v_14 u_14 H locs hq hP hD hS => ?_)
    obtain ⟨rfl, rfl⟩ := hq
    refine lv_astore_n (lv' := [(2, .ref (r 30)), (0, .ref (r 1)), (1, .int (nI d))]) hx hb dX2_delays_17 rfl hl (by decide) rfl (fun ls hl => ?_)
    refine lv_iconst (v := nI 0) hx hb dX2_delays_18 (by decide) ?_
    refine lv_istore_n (lv' := [(3, .int (nI 0)), (2, .ref (r 30)), (0, .ref (r 1)), (1, .int (nI d))]) hx hb dX2_delays_19 rfl hl (by decide) rfl (fun ls hl => ?_)
    refine lv_bipush (v := (-3)) hx hb dX2_delays_20 (by decide) ?_
    refine lv_istore (lv' := [(4, .int (-3)), (3, .int (nI 0)), (2, .ref (r 30)), (0, .ref (r 1)), (1, .int (nI d))]) hx hb dX2_delays_22 hl (by decide) rfl (fun ls hl => ?_)
    have lp_24 : ∀ (n_ : Nat) (j : Nat) (y9 : Nat → Nat) (w9 : Int), 8 - j < n_ → (j ≤ 8) → (y9 31 = a 16 d) → (y9 32 = zy_Em s a 99 d) → (y9 33 = zy_Tm s a 99 d) → (∀ k, k < 31 → y9 k = s k) → ∀ x1 : Int32, x1 = nI d → ∀ x3 : Int32, x3 = nI (zp_bits (zy_de s a d) j) → ∀ x4 : Int32, x4 = zx_i ((j : Int) - 3) → ∀ (H : Heap) (locs : List Loc), va_P D vwCl ((zy_w cI r) (y9, a, z, w9)) H → va_D A ((zy_w cI r) (y9, a, z, w9)) → va_S A st.heap H locs → ∀ ls : Array Slot, lv_has ls 5 [(0, .ref (r 1)), (1, .int x1), (2, .ref (r 30)), (3, .int x3), (4, .int x4)] → W p l e rmX2_delays st m args below meth c H locs 0 0 Q (F0 m 24 ls []) := by
      intro n_
      induction n_ with
      | zero => intros; omega
      | succ n_ ih_24 =>
        intro j y9 w9 hmu_24 hj9 g1 g2 g3 gy
        intro x1 ex1; subst ex1
        intro x3 ex3; subst ex3
        intro x4 ex4; subst ex4
        intro H locs hP hD hS ls hl
        have hl : lv_has ls 5 [(0, .ref (r 1)), (1, .int (nI d)), (2, .ref (r 30)), (3, .int (nI (zp_bits (zy_de s a d) j))), (4, .int (zx_i ((j : Int) - 3)))] := hl
        refine lv_iload hx hb dX2_delays_24 (lv_at hl 4 rfl) ?_
        refine lv_iconst (v := nI 4) hx hb dX2_delays_26 (by decide) ?_
        refine lv_icmp_gt (tgt := 65) hx hb dX2_delays_27 (by decide) (fun c_27 => ?_) (fun c_27 => ?_)
        · have c7 := zx_dgt hj9 c_27
          refine lv_iload_n hx hb dX2_delays_65 rfl (lv_at hl 3 rfl) ?_
          exact hret _ _ _ _ _ _ hP hD hS dX2_delays_66 ⟨by rw [hz, show j = 8 by omega]; rfl, y9, w9, rfl, gy⟩
        · have c7 := zx_dle hj9 c_27
          refine lv_aload_n hx hb dX2_delays_30 rfl (lv_at hl 2 rfl) ?_
          refine lv_iload hx hb dX2_delays_31 (lv_at hl 4 rfl) ?_
          refine zx_put (D := D) (ci := 0) (ty := .int) (v := .int (zx_i ((j : Int) - 3))) (ws' := (zy_w cI r) (y9, a, z, (j : Int) - 3)) (C := RX0) (T := TX0) (N := 7) hx hb hts hi0 tyX0 tyX0_ok nmX0 hown hK hP hD hS 17 rfl rfl 0 (by decide) k157 (fun _ h9 => h9) rfl (by decide +kernel) rfl rfl (Nat.le_of_ble_eq_true rfl) rfl dX2_delays_33 (fun H locs hP hD hS => ?_)
          refine lv_aload_n hx hb dX2_delays_36 rfl (lv_at hl 2 rfl) ?_
          refine zx_V_v (As := []) (rest := []) cf (c_X0_settle l D cI cB r y9 a z ((j : Int) - 3)  (by rw [g2]; exact zy_Em_lt _ _ _ _) (by rw [g3]; exact zy_Tm_lt _ _ _ _) (by rw [g1]; exact (iL d (by omega)).1) (by omega)) (cwV 0 hts gX2_delays_X0_settle rfl rfl rfl ⟨rfl, hd_X0_settle⟩ ⟨Nat.le_of_ble_eq_true rfl, Nat.le_of_ble_eq_true rfl⟩) hK hN hP hD hS hA 17 rfl rfl rfl hl.1 rfl (Nat.le_of_ble_eq_true rfl) dX2_delays_37 ⟨Nat.zero_le _, Nat.zero_le _⟩ (fun v_37 u_37 H locs hq hP hD hS => ?_)
          subst hq
          refine lv_aload_n hx hb dX2_delays_40 rfl (lv_at hl 0 rfl) ?_
          refine lv_aload_n hx hb dX2_delays_41 rfl (lv_at hl 2 rfl) ?_
          refine lv_iload_n hx hb dX2_delays_42 rfl (lv_at hl 1 rfl) ?_
          refine zx_V_i (As := [.ref (r 30), .int (nI d)]) (rest := []) cf (c_X2_isAsFound l D cI cB r (zx_up (zx_up (zx_up y9 34 (zy_h (zy_f (y9 32) (y9 33) (y9 31) ((j : Int) - 3)) ((j : Int) - 3))) 35 (zy_l (zy_f (y9 32) (y9 33) (y9 31) ((j : Int) - 3)) ((j : Int) - 3))) 36 (zy_s (zy_f (y9 32) (y9 33) (y9 31) ((j : Int) - 3)) ((j : Int) - 3))) a z ((j : Int) - 3) d (zy_I_y hI (fun k hk => by rw [zx_up_ne _ _ (by omega), zx_up_ne _ _ (by omega), zx_up_ne _ _ (by omega)]; exact gy k hk)) (by omega) (zy_hls _ _ _ _).1 (zy_hls _ _ _ _).2.1 (zy_hls _ _ _ _).2.2) (cwV 2 hts gX2_delays_X2_isAsFound rfl rfl rfl ⟨rfl, hd_X2_isAsFound⟩ ⟨Nat.le_of_ble_eq_true rfl, Nat.le_of_ble_eq_true rfl⟩) hK hN hP hD hS hA 0 rfl rfl rfl hl.1 rfl (Nat.le_of_ble_eq_true rfl) dX2_delays_43 ⟨Nat.zero_le _, Nat.zero_le _⟩ (fun v_43 u_43 H locs hq hP hD hS => ?_)
          obtain ⟨rfl, rfl⟩ := hq
          refine zx_bf_eq hx hb (tgt := 59) dX2_delays_46 (by decide) (fun c_46 => ?_) (fun c_46 => ?_)
          · refine lv_iinc (v := zx_i ((j : Int) - 3 + 1)) (lv' := [(4, .int (zx_i ((j : Int) - 3 + 1))), (0, .ref (r 1)), (1, .int (nI d)), (2, .ref (r 30)), (3, .int (nI (zp_bits (zy_de s a d) j)))]) hx hb dX2_delays_59 hl (k := 4) rfl (zx_incI _ _) (by decide) rfl (fun ls hl => ?_)
            refine lv_goto (tgt := 24) hx hb dX2_delays_62 (by decide) ?_
            exact ih_24 (j + 1) (zx_up (zx_up (zx_up y9 34 (zy_h (zy_f (y9 32) (y9 33) (y9 31) ((j : Int) - 3)) ((j : Int) - 3))) 35 (zy_l (zy_f (y9 32) (y9 33) (y9 31) ((j : Int) - 3)) ((j : Int) - 3))) 36 (zy_s (zy_f (y9 32) (y9 33) (y9 31) ((j : Int) - 3)) ((j : Int) - 3))) ((j : Int) - 3) (by omega) (by omega) g1 g2 g3 (fun k hk => by rw [zx_up_ne _ _ (by omega), zx_up_ne _ _ (by omega), zx_up_ne _ _ (by omega)]; exact gy k hk) _ rfl _ (by rw [g1, g2, g3] at c_46; exact zp_bitsF2 (f := zy_de s a d) c_46) _ (congrArg zx_i (by omega)) _ _ hP hD hS ls (lv_sub hl [1, 2, 3, 4, 0] rfl)
          · refine lv_iload_n hx hb dX2_delays_49 rfl (lv_at hl 3 rfl) ?_
            refine lv_iconst (v := nI 1) hx hb dX2_delays_50 (by decide) ?_
            refine lv_iload hx hb dX2_delays_51 (lv_at hl 4 rfl) ?_
            refine lv_bipush (v := (-3)) hx hb dX2_delays_53 (by decide) ?_
            refine lv_isub hx hb dX2_delays_55 ?_
            refine zx_topi (y := nI j) (zx_dj j (by omega)) ?_
            refine zx_ishl1 hx hb (by omega) dX2_delays_56 ?_
            refine zx_ior hx hb dX2_delays_57 ?_
            refine lv_istore_n (lv' := [(3, .int (nI ((zp_bits (zy_de s a d) j) ||| (2 ^ j)))), (0, .ref (r 1)), (1, .int (nI d)), (2, .ref (r 30)), (4, .int (zx_i ((j : Int) - 3)))]) hx hb dX2_delays_58 rfl hl (by decide) rfl (fun ls hl => ?_)
            refine lv_iinc (v := zx_i ((j : Int) - 3 + 1)) (lv' := [(4, .int (zx_i ((j : Int) - 3 + 1))), (3, .int (nI ((zp_bits (zy_de s a d) j) ||| (2 ^ j)))), (0, .ref (r 1)), (1, .int (nI d)), (2, .ref (r 30))]) hx hb dX2_delays_59 hl (k := 4) rfl (zx_incI _ _) (by decide) rfl (fun ls hl => ?_)
            refine lv_goto (tgt := 24) hx hb dX2_delays_62 (by decide) ?_
            exact ih_24 (j + 1) (zx_up (zx_up (zx_up y9 34 (zy_h (zy_f (y9 32) (y9 33) (y9 31) ((j : Int) - 3)) ((j : Int) - 3))) 35 (zy_l (zy_f (y9 32) (y9 33) (y9 31) ((j : Int) - 3)) ((j : Int) - 3))) 36 (zy_s (zy_f (y9 32) (y9 33) (y9 31) ((j : Int) - 3)) ((j : Int) - 3))) ((j : Int) - 3) (by omega) (by omega) g1 g2 g3 (fun k hk => by rw [zx_up_ne _ _ (by omega), zx_up_ne _ _ (by omega), zx_up_ne _ _ (by omega)]; exact gy k hk) _ rfl _ (by rw [g1, g2, g3] at c_46; exact zp_bitsT (f := zy_de s a d) c_46) _ (congrArg zx_i (by omega)) _ _ hP hD hS ls (lv_sub hl [2, 3, 4, 1, 0] rfl)
    exact lp_24 _ 0 (zx_up (zx_up (zx_up s 31 (a 16 d)) 32 (zy_Em s a 99 d)) 33 (zy_Tm s a 99 d)) (zp_ah (s 10) (z d)) (Nat.lt_succ_self _) (Nat.zero_le _) rfl rfl rfl (fun k hk => by rw [zx_up_ne _ _ (by omega), zx_up_ne _ _ (by omega), zx_up_ne _ _ (by omega)]) _ rfl _ rfl _ (by decide) _ _ hP hD hS ls (lv_sub hl [3, 4, 2, 1, 0] rfl)
  · refine lv_bipush (v := (-101)) hx hb dX2_delays_8 (by decide) ?_
    exact hret _ _ _ _ _ _ hP hD hS dX2_delays_10 ⟨by rw [zd_none c_5]; rfl, s, ah, rfl, fun _ _ => rfl⟩
set_option maxHeartbeats 4000000 in
set_option maxRecDepth 100000 in
theorem c_X2_who (l : Launch) (D : va_G) (cI cB : ClassId) (r : Nat → Nat) (s : Nat → Nat) (a : Nat → Nat → Nat) (z : Nat → Int) (ah : Int) (x y : Int32) (hI : zy_I s a z) : zx_C zx_ei l D (zm_t cI cB) (zy_w cI r) yX2_who wsX2_who rmX2_who [.ref (r 1), .int x, .int y] (s, a, z, ah) (fun v u' => v = zs_dq 1 (zd_per (s 11) x) y (fun p9 q => zy_who (zy_whF s a z p9) q) ∧ ∃ (y9 : Nat → Nat) (w9 : Int), u' = (y9, a, z, w9) ∧ ∀ k, k < 31 → y9 k = s k) := by
  refine zx_of_i (cc := cX2_who) (maxL := 7) (by decide) rfl (Nat.le_of_ble_eq_true rfl) ?_
  intro p e st m args below meth c A Q H cf hK hN hP hD hS hA hret ls hl
  obtain ⟨hx, hb, hml, hown, hts⟩ := id cf
  have hl : lv_has ls 7 [(0, .ref (r 1)), (1, .int x), (2, .int y)] := hl
  have hP : va_P D vwCl ((zy_w cI r) (s, a, z, ah)) H := hP
  have hD : va_D A ((zy_w cI r) (s, a, z, ah)) := hD
  obtain ⟨⟨i1, i2, i5, i7, i8, i10, i11, i12⟩, ⟨i20, i21, i22⟩, iG, iP, iL, iZ, jP, jL⟩ := id hI
  refine lv_aload_n hx hb dX2_who_0 rfl (lv_at hl 0 rfl) ?_
  refine lv_iload_n hx hb dX2_who_1 rfl (lv_at hl 1 rfl) ?_
  refine zx_V_i (As := [.int x]) (rest := []) cf (c_X2_isPerson l D cI cB r s a z ah x hI) (cwV 1 hts gX2_who_X2_isPerson rfl rfl rfl ⟨rfl, hd_X2_isPerson⟩ ⟨Nat.le_of_ble_eq_true rfl, Nat.le_of_ble_eq_true rfl⟩) hK hN hP hD hS hA 0 rfl rfl rfl hl.1 rfl (Nat.le_of_ble_eq_true rfl) dX2_who_2 ⟨Nat.zero_le _, Nat.zero_le _⟩ (fun v_2 u_2 H locs hq hP hD hS => ?_)
  obtain ⟨rfl, rfl⟩ := hq
  refine zx_bf_ne hx hb (tgt := 11) dX2_who_5 (by decide) (fun c_5 => ?_) (fun c_5 => ?_)
  · obtain ⟨p9, hz⟩ := zd_some c_5
    obtain ⟨rfl, hp9⟩ := zd_per_some (by omega) hz
    refine lv_iload_n hx hb dX2_who_11 rfl (lv_at hl 2 rfl) ?_
    refine lv_if_lt (tgt := 20) hx hb dX2_who_12 (by decide) (fun c_12 => ?_) (fun c_12 => ?_)
    · refine lv_bipush (v := (-102)) hx hb dX2_who_20 (by decide) ?_
      exact hret _ _ _ _ _ _ hP hD hS dX2_who_22 ⟨by rw [hz]; exact (zs_dqo (zd_nos (decide_eq_false (fun q9 => zx_lt0 c_12 q9.1)))).symm, s, ah, rfl, fun _ _ => rfl⟩
    · refine lv_iload_n hx hb dX2_who_15 rfl (lv_at hl 2 rfl) ?_
      refine lv_iconst (v := nI 1) hx hb dX2_who_16 (by decide) ?_
      refine lv_icmp_le (tgt := 23) hx hb dX2_who_17 (by decide) (fun c_17 => ?_) (fun c_17 => ?_)
      · obtain ⟨q, rfl, hq1, hq2, hy⟩ := zd_yes (lo := 0) (hi := 1) (by decide) (by decide) (decide_eq_true ⟨zx_nlt c_12, c_17⟩)
        refine lv_iconst (v := nI 0) hx hb dX2_who_23 (by decide) ?_
        refine lv_istore_n (lv' := [(3, .int (nI 0)), (0, .ref (r 1)), (1, .int (nI p9)), (2, .int (nI q))]) hx hb dX2_who_24 rfl hl (by decide) rfl (fun ls hl => ?_)
        refine lv_iconst (v := (-1)) hx hb dX2_who_25 (by decide) ?_
        refine lv_istore (lv' := [(4, .int (-1)), (3, .int (nI 0)), (0, .ref (r 1)), (1, .int (nI p9)), (2, .int (nI q))]) hx hb dX2_who_26 hl (by decide) rfl (fun ls hl => ?_)
        refine lv_iconst (v := nI 0) hx hb dX2_who_28 (by decide) ?_
        refine lv_istore (lv' := [(5, .int (nI 0)), (4, .int (-1)), (3, .int (nI 0)), (0, .ref (r 1)), (1, .int (nI p9)), (2, .int (nI q))]) hx hb dX2_who_29 hl (by decide) rfl (fun ls hl => ?_)
        have lp_31 : ∀ (n_ : Nat) (K : Nat) (y9 : Nat → Nat) (w9 : Int), 5 - K < n_ → (K ≤ 5) → (∀ k, k < 31 → y9 k = s k) → ∀ x1 : Int32, x1 = nI p9 → ∀ x2 : Int32, x2 = nI q → ∀ x3 : Int32, x3 = nI (zp_cnt (zy_whF s a z p9) (7 * K)) → ∀ x4 : Int32, x4 = (zp_o (zp_lsa (zy_whF s a z p9) (7 * K))) → ∀ x5 : Int32, x5 = nI K → ∀ (H : Heap) (locs : List Loc), va_P D vwCl ((zy_w cI r) (y9, a, z, w9)) H → va_D A ((zy_w cI r) (y9, a, z, w9)) → va_S A st.heap H locs → ∀ ls : Array Slot, lv_has ls 7 [(0, .ref (r 1)), (1, .int x1), (2, .int x2), (3, .int x3), (4, .int x4), (5, .int x5)] → W p l e rmX2_who st m args below meth c H locs 0 0 Q (F0 m 31 ls []) := by
          intro n_
          induction n_ with
          | zero => intros; omega
          | succ n_ ih_31 =>
            intro K y9 w9 hmu_31 hK9 gy
            intro x1 ex1; subst ex1
            intro x2 ex2; subst ex2
            intro x3 ex3; subst ex3
            intro x4 ex4; subst ex4
            intro x5 ex5; subst ex5
            intro H locs hP hD hS ls hl
            have hl : lv_has ls 7 [(0, .ref (r 1)), (1, .int (nI p9)), (2, .int (nI q)), (3, .int (nI (zp_cnt (zy_whF s a z p9) (7 * K)))), (4, .int (zp_o (zp_lsa (zy_whF s a z p9) (7 * K)))), (5, .int (nI K))] := hl
            refine lv_iload hx hb dX2_who_31 (lv_at hl 5 rfl) ?_
            refine lv_iconst (v := nI 5) hx hb dX2_who_33 (by decide) ?_
            refine zx_icmp_ge hx hb (tgt := 90) (by omega) (by omega) dX2_who_34 (by decide) (fun c_34 => ?_) (fun c_34 => ?_)
            · refine lv_iload_n hx hb dX2_who_90 rfl (lv_at hl 2 rfl) ?_
              refine zx_if_ne hx hb (tgt := 98) (by omega) dX2_who_91 (by decide) (fun c_91 => ?_) (fun c_91 => ?_)
              · refine lv_iload hx hb dX2_who_98 (lv_at hl 4 rfl) ?_
                exact hret _ _ _ _ _ _ hP hD hS dX2_who_100 ⟨by rw [hz, zs_dqi hy, show K = 5 by omega]; exact (if_neg c_91).symm, y9, w9, rfl, gy⟩
              · refine lv_iload_n hx hb dX2_who_94 rfl (lv_at hl 3 rfl) ?_
                refine lv_goto (tgt := 100) hx hb dX2_who_95 (by decide) ?_
                exact hret _ _ _ _ _ _ hP hD hS dX2_who_100 ⟨by rw [hz, zs_dqi hy, show q = 0 by omega, show K = 5 by omega]; rfl, y9, w9, rfl, gy⟩
            · refine lv_iconst (v := nI 0) hx hb dX2_who_37 (by decide) ?_
              refine lv_istore (lv' := [(6, .int (nI 0)), (0, .ref (r 1)), (1, .int (nI p9)), (2, .int (nI q)), (3, .int (nI (zp_cnt (zy_whF s a z p9) (7 * K)))), (4, .int (zp_o (zp_lsa (zy_whF s a z p9) (7 * K)))), (5, .int (nI K))]) hx hb dX2_who_38 hl (by decide) rfl (fun ls hl => ?_)
              have lp_40 : ∀ (n_ : Nat) (o : Nat) (y9 : Nat → Nat) (w9 : Int), 7 - o < n_ → (o ≤ 7) → (∀ k, k < 31 → y9 k = s k) → ∀ x1 : Int32, x1 = nI p9 → ∀ x2 : Int32, x2 = nI q → ∀ x3 : Int32, x3 = nI (zp_cnt (zy_whF s a z p9) (7 * K + o)) → ∀ x4 : Int32, x4 = (zp_o (zp_lsa (zy_whF s a z p9) (7 * K + o))) → ∀ x5 : Int32, x5 = nI K → ∀ x6 : Int32, x6 = nI o → ∀ (H : Heap) (locs : List Loc), va_P D vwCl ((zy_w cI r) (y9, a, z, w9)) H → va_D A ((zy_w cI r) (y9, a, z, w9)) → va_S A st.heap H locs → ∀ ls : Array Slot, lv_has ls 7 [(0, .ref (r 1)), (1, .int x1), (2, .int x2), (3, .int x3), (4, .int x4), (5, .int x5), (6, .int x6)] → W p l e rmX2_who st m args below meth c H locs 0 0 Q (F0 m 40 ls []) := by
                intro n_
                induction n_ with
                | zero => intros; omega
                | succ n_ ih_40 =>
                  intro o y9 w9 hmu_40 ho9 gy
                  intro x1 ex1; subst ex1
                  intro x2 ex2; subst ex2
                  intro x3 ex3; subst ex3
                  intro x4 ex4; subst ex4
                  intro x5 ex5; subst ex5
                  intro x6 ex6; subst ex6
                  intro H locs hP hD hS ls hl
                  have hl : lv_has ls 7 [(0, .ref (r 1)), (1, .int (nI p9)), (2, .int (nI q)), (3, .int (nI (zp_cnt (zy_whF s a z p9) (7 * K + o)))), (4, .int (zp_o (zp_lsa (zy_whF s a z p9) (7 * K + o)))), (5, .int (nI K)), (6, .int (nI o))] := hl
                  refine lv_iload hx hb dX2_who_40 (lv_at hl 6 rfl) ?_
                  refine lv_bipush (v := nI 7) hx hb dX2_who_42 (by decide) ?_
                  refine zx_icmp_ge hx hb (tgt := 84) (by omega) (by omega) dX2_who_44 (by decide) (fun c_44 => ?_) (fun c_44 => ?_)
                  · refine lv_iinc (v := nI (K + 1)) (lv' := [(5, .int (nI (K + 1))), (0, .ref (r 1)), (1, .int (nI p9)), (2, .int (nI q)), (3, .int (nI (zp_cnt (zy_whF s a z p9) (7 * K + o)))), (4, .int (zp_o (zp_lsa (zy_whF s a z p9) (7 * K + o)))), (6, .int (nI o))]) hx hb dX2_who_84 hl (k := 5) rfl (zx_inc _ _) (by decide) rfl (fun ls hl => ?_)
                    refine lv_goto (tgt := 31) hx hb dX2_who_87 (by decide) ?_
                    exact ih_31 (K + 1) y9 w9 (by omega) (by omega) gy _ rfl _ rfl _ (by rw [show 7 * (K + 1) = 7 * K + o by omega]) _ (by rw [show 7 * (K + 1) = 7 * K + o by omega]) _ rfl _ _ hP hD hS ls (lv_sub hl [1, 2, 3, 4, 5, 0] rfl)
                  · refine lv_aload_n hx hb dX2_who_47 rfl (lv_at hl 0 rfl) ?_
                    refine lv_iload_n hx hb dX2_who_48 rfl (lv_at hl 1 rfl) ?_
                    refine lv_iload hx hb dX2_who_49 (lv_at hl 5 rfl) ?_
                    refine lv_iload hx hb dX2_who_51 (lv_at hl 6 rfl) ?_
                    refine zx_V_i (As := [.int (nI p9), .int (nI K), .int (nI o)]) (rest := []) cf (c_X2_canBe l D cI cB r y9 a z w9 p9 K o (zy_I_y hI gy) (by omega) (by omega) (by omega)) (cwV 3 hts gX2_who_X2_canBe rfl rfl rfl ⟨rfl, hd_X2_canBe⟩ ⟨Nat.le_of_ble_eq_true rfl, Nat.le_of_ble_eq_true rfl⟩) hK hN hP hD hS hA 0 rfl rfl rfl hl.1 rfl (Nat.le_of_ble_eq_true rfl) dX2_who_53 ⟨Nat.zero_le _, Nat.zero_le _⟩ (fun v_53 u_53 H locs hq hP hD hS => ?_)
                    obtain ⟨rfl, y_53, w_53, rfl, gy_53⟩ := hq
                    refine zx_bf_eq hx hb (tgt := 78) dX2_who_56 (by decide) (fun c_56 => ?_) (fun c_56 => ?_)
                    · refine lv_iinc (v := nI (o + 1)) (lv' := [(6, .int (nI (o + 1))), (0, .ref (r 1)), (1, .int (nI p9)), (2, .int (nI q)), (3, .int (nI (zp_cnt (zy_whF s a z p9) (7 * K + o)))), (4, .int (zp_o (zp_lsa (zy_whF s a z p9) (7 * K + o)))), (5, .int (nI K))]) hx hb dX2_who_78 hl (k := 6) rfl (zx_inc _ _) (by decide) rfl (fun ls hl => ?_)
                      refine lv_goto (tgt := 40) hx hb dX2_who_81 (by decide) ?_
                      exact ih_40 (o + 1) y_53 w_53 (by omega) (by omega) (fun k hk => (gy_53 k hk).trans (gy k hk)) _ rfl _ rfl _ (zp_cntF (f := (zy_whF s a z p9)) (zy_whB gy (by omega) c_56)) _ (zp_lsaF (zy_whB gy (by omega) c_56)) _ rfl _ rfl _ _ hP hD hS ls (lv_sub hl [1, 2, 3, 4, 5, 6, 0] rfl)
                    · refine lv_iinc (v := nI (zp_cnt (zy_whF s a z p9) (7 * K + o) + 1)) (lv' := [(3, .int (nI (zp_cnt (zy_whF s a z p9) (7 * K + o) + 1))), (0, .ref (r 1)), (1, .int (nI p9)), (2, .int (nI q)), (4, .int (zp_o (zp_lsa (zy_whF s a z p9) (7 * K + o)))), (5, .int (nI K)), (6, .int (nI o))]) hx hb dX2_who_59 hl (k := 3) rfl (zx_inc _ _) (by decide) rfl (fun ls hl => ?_)
                      refine lv_iload hx hb dX2_who_62 (lv_at hl 4 rfl) ?_
                      refine lv_iconst (v := (-1)) hx hb dX2_who_64 (by decide) ?_
                      refine lv_icmp_ne (tgt := 78) hx hb dX2_who_65 (by decide) (fun c_65 => ?_) (fun c_65 => ?_)
                      · refine lv_iinc (v := nI (o + 1)) (lv' := [(6, .int (nI (o + 1))), (3, .int (nI (zp_cnt (zy_whF s a z p9) (7 * K + o) + 1))), (0, .ref (r 1)), (1, .int (nI p9)), (2, .int (nI q)), (4, .int (zp_o (zp_lsa (zy_whF s a z p9) (7 * K + o)))), (5, .int (nI K))]) hx hb dX2_who_78 hl (k := 6) rfl (zx_inc _ _) (by decide) rfl (fun ls hl => ?_)
                        refine lv_goto (tgt := 40) hx hb dX2_who_81 (by decide) ?_
                        exact ih_40 (o + 1) y_53 w_53 (by omega) (by omega) (fun k hk => (gy_53 k hk).trans (gy k hk)) _ rfl _ rfl _ (zp_cntT (f := (zy_whF s a z p9)) (zy_whB gy (by omega) c_56)) _ (zp_lsaS2 c_65) _ rfl _ rfl _ _ hP hD hS ls (lv_sub hl [2, 3, 4, 1, 5, 6, 0] rfl)
                      · refine lv_bipush (v := nI 7) hx hb dX2_who_68 (by decide) ?_
                        refine lv_iload hx hb dX2_who_70 (lv_at hl 5 rfl) ?_
                        refine zx_imul hx hb dX2_who_72 ?_
                        refine lv_iload hx hb dX2_who_73 (lv_at hl 6 rfl) ?_
                        refine zx_iadd hx hb dX2_who_75 ?_
                        refine lv_istore (lv' := [(4, .int (nI ((7 * K) + o))), (3, .int (nI (zp_cnt (zy_whF s a z p9) (7 * K + o) + 1))), (0, .ref (r 1)), (1, .int (nI p9)), (2, .int (nI q)), (5, .int (nI K)), (6, .int (nI o))]) hx hb dX2_who_76 hl (by decide) rfl (fun ls hl => ?_)
                        refine lv_iinc (v := nI (o + 1)) (lv' := [(6, .int (nI (o + 1))), (4, .int (nI ((7 * K) + o))), (3, .int (nI (zp_cnt (zy_whF s a z p9) (7 * K + o) + 1))), (0, .ref (r 1)), (1, .int (nI p9)), (2, .int (nI q)), (5, .int (nI K))]) hx hb dX2_who_78 hl (k := 6) rfl (zx_inc _ _) (by decide) rfl (fun ls hl => ?_)
                        refine lv_goto (tgt := 40) hx hb dX2_who_81 (by decide) ?_
                        exact ih_40 (o + 1) y_53 w_53 (by omega) (by omega) (fun k hk => (gy_53 k hk).trans (gy k hk)) _ rfl _ rfl _ (zp_cntT (f := (zy_whF s a z p9)) (zy_whB gy (by omega) c_56)) _ (zp_lsaT2 (7 * K + o) (zy_whB gy (by omega) c_56) (by omega) c_65) _ rfl _ rfl _ _ hP hD hS ls (lv_sub hl [3, 4, 5, 2, 1, 6, 0] rfl)
              exact lp_40 _ 0 y9 w9 (Nat.lt_succ_self _) (Nat.zero_le _) gy _ rfl _ rfl _ (by first | rfl | (congr 1; omega)) _ (by first | rfl | (congr 1; omega)) _ rfl _ rfl _ _ hP hD hS ls (lv_sub hl [1, 2, 3, 4, 5, 6, 0] rfl)
        exact lp_31 _ 0 s ah (Nat.lt_succ_self _) (Nat.zero_le _) (fun _ _ => rfl) _ rfl _ rfl _ rfl _ rfl _ rfl _ _ hP hD hS ls (lv_sub hl [3, 4, 5, 2, 1, 0] rfl)
      · refine lv_bipush (v := (-102)) hx hb dX2_who_20 (by decide) ?_
        exact hret _ _ _ _ _ _ hP hD hS dX2_who_22 ⟨by rw [hz]; exact (zs_dqo (zd_nos (decide_eq_false (fun q9 => c_17 q9.2)))).symm, s, ah, rfl, fun _ _ => rfl⟩
  · refine lv_bipush (v := (-101)) hx hb dX2_who_8 (by decide) ?_
    exact hret _ _ _ _ _ _ hP hD hS dX2_who_10 ⟨by rw [zd_none c_5]; rfl, s, ah, rfl, fun _ _ => rfl⟩
