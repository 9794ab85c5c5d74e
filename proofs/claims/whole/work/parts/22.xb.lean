set_option maxHeartbeats 4000000 in
set_option maxRecDepth 100000 in
theorem c_X0_start (l : Launch) (D : va_G) (cI cB : ClassId) (r : Nat → Nat) (s : Nat → Nat) (a : Nat → Nat → Nat) (z : Nat → Int) (ah : Int) (da : Int) (q : Nat)  : zx_C zx_ev l D (zm_t cI cB) (zy_w cI r) yX0_start wsX0_start rmX0_start [.ref (r 30), .int (zx_i da), .int (nI q)] (s, a, z, ah) (fun _ u' => u' = (zx_up (zx_up (zx_up s 31 q) 32 0) 33 0, a, z, da)) := by
  refine zx_of_v (cc := cX0_start) (maxL := 3) (by decide) rfl (Nat.le_of_ble_eq_true rfl) ?_
  intro p e st m args below meth c A Q H cf hK hN hP hD hS hA hret ls hl
  obtain ⟨hx, hb, hml, hown, hts⟩ := id cf
  have hi0 : ∀ w ∈ wsX00, w ∈ wsX0_start := fun w h => List.mem_cons_of_mem _ (List.mem_append_right _ h)
  have k9 := hts (.fieldLink RX0 9 "NineDrawers$Course" "ahead" "I") (List.mem_of_getElem? (i := 1) (by decide +kernel))
  have k15 := hts (.fieldLink RX0 15 "NineDrawers$Course" "laid" "I") (List.mem_of_getElem? (i := 2) (by decide +kernel))
  have k18 := hts (.fieldLink RX0 18 "NineDrawers$Course" "putIfEmpty" "I") (List.mem_of_getElem? (i := 3) (by decide +kernel))
  have k21 := hts (.fieldLink RX0 21 "NineDrawers$Course" "putIfThere" "I") (List.mem_of_getElem? (i := 4) (by decide +kernel))
  have hl : lv_has ls 3 [(0, .ref (r 30)), (1, .int (zx_i da)), (2, .int (nI q))] := hl
  have hP : va_P D vwCl ((zy_w cI r) (s, a, z, ah)) H := hP
  have hD : va_D A ((zy_w cI r) (s, a, z, ah)) := hD
  refine lv_aload_n hx hb dX0_start_0 rfl (lv_at hl 0 rfl) ?_
  refine lv_iload_n hx hb dX0_start_1 rfl (lv_at hl 1 rfl) ?_
  refine zx_put (D := D) (ci := 0) (ty := .int) (v := .int (zx_i da)) (ws' := (zy_w cI r) (s, a, z, da)) (C := RX0) (T := TX0) (N := 7) hx hb hts hi0 tyX0 tyX0_ok nmX0 hown hK hP hD hS 17 rfl rfl 0 (by decide) k9 (fun _ h9 => h9) rfl (by decide +kernel) rfl rfl (Nat.le_of_ble_eq_true rfl) rfl dX0_start_2 (fun H locs hP hD hS => ?_)
  refine lv_aload_n hx hb dX0_start_5 rfl (lv_at hl 0 rfl) ?_
  refine lv_iload_n hx hb dX0_start_6 rfl (lv_at hl 2 rfl) ?_
  refine zx_put (D := D) (ci := 0) (ty := .int) (v := .int (nI q)) (ws' := (zy_w cI r) ((zx_up s 31 q), a, z, da)) (C := RX0) (T := TX0) (N := 7) hx hb hts hi0 tyX0 tyX0_ok nmX0 hown hK hP hD hS 17 rfl rfl 1 (by decide) k15 (fun _ h9 => h9) rfl (by decide +kernel) rfl rfl (Nat.le_of_ble_eq_true rfl) rfl dX0_start_7 (fun H locs hP hD hS => ?_)
  refine lv_aload_n hx hb dX0_start_10 rfl (lv_at hl 0 rfl) ?_
  refine lv_iconst (v := nI 0) hx hb dX0_start_11 (by decide) ?_
  refine zx_put (D := D) (ci := 0) (ty := .int) (v := .int (nI 0)) (ws' := (zy_w cI r) ((zx_up (zx_up s 31 q) 32 0), a, z, da)) (C := RX0) (T := TX0) (N := 7) hx hb hts hi0 tyX0 tyX0_ok nmX0 hown hK hP hD hS 17 rfl rfl 2 (by decide) k18 (fun _ h9 => h9) rfl (by decide +kernel) rfl rfl (Nat.le_of_ble_eq_true rfl) rfl dX0_start_12 (fun H locs hP hD hS => ?_)
  refine lv_aload_n hx hb dX0_start_15 rfl (lv_at hl 0 rfl) ?_
  refine lv_iconst (v := nI 0) hx hb dX0_start_16 (by decide) ?_
  refine zx_put (D := D) (ci := 0) (ty := .int) (v := .int (nI 0)) (ws' := (zy_w cI r) ((zx_up (zx_up (zx_up s 31 q) 32 0) 33 0), a, z, da)) (C := RX0) (T := TX0) (N := 7) hx hb hts hi0 tyX0 tyX0_ok nmX0 hown hK hP hD hS 17 rfl rfl 3 (by decide) k21 (fun _ h9 => h9) rfl (by decide +kernel) rfl rfl (Nat.le_of_ble_eq_true rfl) rfl dX0_start_17 (fun H locs hP hD hS => ?_)
  exact hret _ _ _ _ _ hP hD hS dX0_start_20 rfl
set_option maxHeartbeats 4000000 in
set_option maxRecDepth 100000 in
theorem c_X0_join (l : Launch) (D : va_G) (cI cB : ClassId) (r : Nat → Nat) (s : Nat → Nat) (a : Nat → Nat → Nat) (z : Nat → Int) (ah : Int) (K o : Nat) (hK0 : K < 5) (ho : o < 7) : zx_C zx_ev l D (zm_t cI cB) (zy_w cI r) yX0_join wsX0_join rmX0_join [.ref (r 30), .int (nI K), .int (nI o)] (s, a, z, ah) (fun _ u' => u' = (zx_up (zx_up s 32 (s 32 ||| zp_E K o)) 33 (s 33 ||| zp_T K o), a, z, ah)) := by
  refine zx_of_v (cc := cX0_join) (maxL := 3) (by decide) rfl (Nat.le_of_ble_eq_true rfl) ?_
  intro p e st m args below meth c A Q H cf hK hN hP hD hS hA hret ls hl
  obtain ⟨hx, hb, hml, hown, hts⟩ := id cf
  have hi0 : ∀ w ∈ wsX00, w ∈ wsX0_join := fun w h => List.mem_cons_of_mem _ (List.mem_append_right _ h)
  have k18 := hts (.fieldLink RX0 18 "NineDrawers$Course" "putIfEmpty" "I") (List.mem_of_getElem? (i := 1) (by decide +kernel))
  have k21 := hts (.fieldLink RX0 21 "NineDrawers$Course" "putIfThere" "I") (List.mem_of_getElem? (i := 2) (by decide +kernel))
  have hl : lv_has ls 3 [(0, .ref (r 30)), (1, .int (nI K)), (2, .int (nI o))] := hl
  have hP : va_P D vwCl ((zy_w cI r) (s, a, z, ah)) H := hP
  have hD : va_D A ((zy_w cI r) (s, a, z, ah)) := hD
  refine lv_aload_n hx hb dX0_join_0 rfl (lv_at hl 0 rfl) ?_
  refine lv_dup hx hb dX0_join_1 rfl ?_
  refine va_get (D := D) (ci := 0) (v := .int (nI (s 32))) (C := RX0) (T := TX0) (N := 7) hx hb hts hi0 hown hK hP 17 rfl rfl 2 (by decide) k18 (fun _ h9 => h9) rfl dX0_join_2 ?_
  refine lv_iload_n hx hb dX0_join_5 rfl (lv_at hl 1 rfl) ?_
  refine lv_iload_n hx hb dX0_join_6 rfl (lv_at hl 2 rfl) ?_
  refine zx_SN (As := [.int (nI K), .int (nI o)]) (rest := [.int (nI (s 32)), .ref (r 30)]) cf (c_X2_putsIfEmpty l D K o (by omega) (by omega)) ⟨va_cnB 2 hts gX0_join_X2_putsIfEmpty_n24 rfl rfl rfl hN.1 (hts (.initialized RX2) (List.mem_of_getElem? (i := 4) (by decide +kernel))) hd_X2_putsIfEmpty ⟨Nat.le_of_ble_eq_true rfl, Nat.le_of_ble_eq_true rfl⟩, (hts (.static yX2_putsIfEmpty) (List.mem_of_getElem? (i := 3) (by decide +kernel))), trivial⟩ hK hN hP hS hA rfl hl.1 rfl (Nat.le_of_ble_eq_true rfl) dX0_join_7 ⟨Nat.zero_le _, Nat.zero_le _⟩ (fun H locs hP hS => ?_)
  refine zx_ior hx hb dX0_join_10 ?_
  refine zx_put (D := D) (ci := 0) (ty := .int) (v := .int (nI ((s 32) ||| (zp_E K o)))) (ws' := (zy_w cI r) ((zx_up s 32 ((s 32) ||| (zp_E K o))), a, z, ah)) (C := RX0) (T := TX0) (N := 7) hx hb hts hi0 tyX0 tyX0_ok nmX0 hown hK hP hD hS 17 rfl rfl 2 (by decide) k18 (fun _ h9 => h9) rfl (by decide +kernel) rfl rfl (Nat.le_of_ble_eq_true rfl) rfl dX0_join_11 (fun H locs hP hD hS => ?_)
  refine lv_aload_n hx hb dX0_join_14 rfl (lv_at hl 0 rfl) ?_
  refine lv_dup hx hb dX0_join_15 rfl ?_
  refine va_get (D := D) (ci := 0) (v := .int (nI (s 33))) (C := RX0) (T := TX0) (N := 7) hx hb hts hi0 hown hK hP 17 rfl rfl 3 (by decide) k21 (fun _ h9 => h9) rfl dX0_join_16 ?_
  refine lv_iload_n hx hb dX0_join_19 rfl (lv_at hl 1 rfl) ?_
  refine lv_iload_n hx hb dX0_join_20 rfl (lv_at hl 2 rfl) ?_
  refine zx_SN (As := [.int (nI K), .int (nI o)]) (rest := [.int (nI (s 33)), .ref (r 30)]) cf (c_X2_putsIfThere l D K o (by omega) (by omega)) ⟨va_cnB 2 hts gX0_join_X2_putsIfThere_n28 rfl rfl rfl hN.2.1 (hts (.initialized RX2) (List.mem_of_getElem? (i := 4) (by decide +kernel))) hd_X2_putsIfThere ⟨Nat.le_of_ble_eq_true rfl, Nat.le_of_ble_eq_true rfl⟩, (hts (.static yX2_putsIfThere) (List.mem_of_getElem? (i := 6) (by decide +kernel))), trivial⟩ hK hN hP hS hA rfl hl.1 rfl (Nat.le_of_ble_eq_true rfl) dX0_join_21 ⟨Nat.zero_le _, Nat.zero_le _⟩ (fun H locs hP hS => ?_)
  refine zx_ior hx hb dX0_join_24 ?_
  refine zx_put (D := D) (ci := 0) (ty := .int) (v := .int (nI ((s 33) ||| (zp_T K o)))) (ws' := (zy_w cI r) ((zx_up (zx_up s 32 ((s 32) ||| (zp_E K o))) 33 ((s 33) ||| (zp_T K o))), a, z, ah)) (C := RX0) (T := TX0) (N := 7) hx hb hts hi0 tyX0 tyX0_ok nmX0 hown hK hP hD hS 17 rfl rfl 3 (by decide) k21 (fun _ h9 => h9) rfl (by decide +kernel) rfl rfl (Nat.le_of_ble_eq_true rfl) rfl dX0_join_25 (fun H locs hP hD hS => ?_)
  exact hret _ _ _ _ _ hP hD hS dX0_join_28 rfl
set_option maxHeartbeats 4000000 in
set_option maxRecDepth 100000 in
theorem c_X0_mustBe_p (l : Launch) (D : va_G) (cI cB : ClassId) (r : Nat → Nat) (s : Nat → Nat) (a : Nat → Nat → Nat) (z : Nat → Int) (ah : Int) (k w : Nat) (hE : s 32 < 128) (hT : s 33 < 128) (hq : s 31 < 128) (hw : w < 128) (hk : k ≤ 4) : zx_C zx_ei l D (zm_t cI cB) (zy_w cI r) yX0_mustBe wsX0_mustBe rmX0_mustBe [.ref (r 30), .int (nI w)] (s, a, z, (k : Int)) (fun v u' => v = nI (zy_f (s 32) (s 33) (s 31) ((k : Int)) w) ∧ u' = (s, a, z, (k : Int))) := by
  refine zx_of_i (cc := cX0_mustBe) (maxL := 3) (by decide) rfl (Nat.le_of_ble_eq_true rfl) ?_
  intro p e st m args below meth c A Q H cf hK hN hP hD hS hA hret ls hl
  obtain ⟨hx, hb, hml, hown, hts⟩ := id cf
  have hi0 : ∀ w ∈ wsX00, w ∈ wsX0_mustBe := fun w h => List.mem_cons_of_mem _ (List.mem_append_right _ h)
  have k18 := hts (.fieldLink RX0 18 "NineDrawers$Course" "putIfEmpty" "I") (List.mem_of_getElem? (i := 1) (by decide +kernel))
  have k21 := hts (.fieldLink RX0 21 "NineDrawers$Course" "putIfThere" "I") (List.mem_of_getElem? (i := 2) (by decide +kernel))
  have k15 := hts (.fieldLink RX0 15 "NineDrawers$Course" "laid" "I") (List.mem_of_getElem? (i := 3) (by decide +kernel))
  have k9 := hts (.fieldLink RX0 9 "NineDrawers$Course" "ahead" "I") (List.mem_of_getElem? (i := 4) (by decide +kernel))
  have hl : lv_has ls 3 [(0, .ref (r 30)), (1, .int (nI w))] := hl
  have hP : va_P D vwCl ((zy_w cI r) (s, a, z, (k : Int))) H := hP
  have hD : va_D A ((zy_w cI r) (s, a, z, (k : Int))) := hD
  refine lv_aload_n hx hb dX0_mustBe_0 rfl (lv_at hl 0 rfl) ?_
  refine va_get (D := D) (ci := 0) (v := .int (nI (s 32))) (C := RX0) (T := TX0) (N := 7) hx hb hts hi0 hown hK hP 17 rfl rfl 2 (by decide) k18 (fun _ h9 => h9) rfl dX0_mustBe_1 ?_
  refine lv_iload_n hx hb dX0_mustBe_4 rfl (lv_at hl 1 rfl) ?_
  refine lv_iconst (v := (-1)) hx hb dX0_mustBe_5 (by decide) ?_
  refine lv_ixor hx hb dX0_mustBe_6 ?_
  refine lv_iand hx hb dX0_mustBe_7 ?_
  refine zx_topi (y := nI (s 32 &&& (127 ^^^ w))) (zx_nand hE hw) ?_
  refine lv_aload_n hx hb dX0_mustBe_8 rfl (lv_at hl 0 rfl) ?_
  refine va_get (D := D) (ci := 0) (v := .int (nI (s 33))) (C := RX0) (T := TX0) (N := 7) hx hb hts hi0 hown hK hP 17 rfl rfl 3 (by decide) k21 (fun _ h9 => h9) rfl dX0_mustBe_9 ?_
  refine lv_iload_n hx hb dX0_mustBe_12 rfl (lv_at hl 1 rfl) ?_
  refine zx_iand hx hb dX0_mustBe_13 ?_
  refine zx_ior hx hb dX0_mustBe_14 ?_
  refine lv_aload_n hx hb dX0_mustBe_15 rfl (lv_at hl 0 rfl) ?_
  refine va_get (D := D) (ci := 0) (v := .int (nI (s 31))) (C := RX0) (T := TX0) (N := 7) hx hb hts hi0 hown hK hP 17 rfl rfl 1 (by decide) k15 (fun _ h9 => h9) rfl dX0_mustBe_16 ?_
  refine zx_ior hx hb dX0_mustBe_19 ?_
  have hm0 : (s 32 &&& (127 ^^^ w)) ||| (s 33 &&& w) ||| s 31 < 128 := zy_lt hE hT hq
  obtain ⟨mq9, em0⟩ : ∃ mq9, mq9 = (s 32 &&& (127 ^^^ w)) ||| (s 33 &&& w) ||| s 31 := ⟨_, rfl⟩
  rw [← em0] at hm0 ⊢
  refine lv_istore_n (lv' := [(2, .int (nI mq9)), (0, .ref (r 30)), (1, .int (nI w))]) hx hb dX0_mustBe_20 rfl hl (by decide) rfl (fun ls hl => ?_)
  refine lv_bipush (v := nI 127) hx hb dX0_mustBe_21 (by decide) ?_
  refine lv_aload_n hx hb dX0_mustBe_23 rfl (lv_at hl 1 rfl) ?_
  refine va_get (D := D) (ci := 0) (v := .int (zx_i (k : Int))) (C := RX0) (T := TX0) (N := 7) hx hb hts hi0 hown hK hP 17 rfl rfl 0 (by decide) k9 (fun _ h9 => h9) rfl dX0_mustBe_24 ?_
  refine zx_topi (y := nI k) (rfl) ?_
  refine lv_if_lt (tgt := 39) hx hb dX0_mustBe_27 (by decide) (fun c_27 => ?_) (fun c_27 => ?_)
  · exact absurd c_27 (nI_pos (by omega))
  · refine lv_iload_n hx hb dX0_mustBe_30 rfl (lv_at hl 0 rfl) ?_
    refine lv_aload_n hx hb dX0_mustBe_31 rfl (lv_at hl 1 rfl) ?_
    refine va_get (D := D) (ci := 0) (v := .int (zx_i (k : Int))) (C := RX0) (T := TX0) (N := 7) hx hb hts hi0 hown hK hP 17 rfl rfl 0 (by decide) k9 (fun _ h9 => h9) rfl dX0_mustBe_32 ?_
    refine zx_topi (y := nI k) (rfl) ?_
    refine zx_ishl hx hb (by omega) (zx_m4 hm0 hk) dX0_mustBe_35 ?_
    refine lv_goto (tgt := 46) hx hb dX0_mustBe_36 (by decide) ?_
    refine zx_iand hx hb dX0_mustBe_46 ?_
    exact hret _ _ _ _ _ _ hP hD hS dX0_mustBe_47 ⟨congrArg nI (by unfold zy_f; rw [← em0, zp_sh_p, Nat.and_comm]), rfl⟩
set_option maxHeartbeats 4000000 in
set_option maxRecDepth 100000 in
theorem c_X0_mustBe_n (l : Launch) (D : va_G) (cI cB : ClassId) (r : Nat → Nat) (s : Nat → Nat) (a : Nat → Nat → Nat) (z : Nat → Int) (ah : Int) (k w : Nat) (hE : s 32 < 128) (hT : s 33 < 128) (hq : s 31 < 128) (hw : w < 128) (h0 : 0 < k) (hk : k ≤ 3) : zx_C zx_ei l D (zm_t cI cB) (zy_w cI r) yX0_mustBe wsX0_mustBe rmX0_mustBe [.ref (r 30), .int (nI w)] (s, a, z, -(k : Int)) (fun v u' => v = nI (zy_f (s 32) (s 33) (s 31) (-(k : Int)) w) ∧ u' = (s, a, z, -(k : Int))) := by
  refine zx_of_i (cc := cX0_mustBe) (maxL := 3) (by decide) rfl (Nat.le_of_ble_eq_true rfl) ?_
  intro p e st m args below meth c A Q H cf hK hN hP hD hS hA hret ls hl
  obtain ⟨hx, hb, hml, hown, hts⟩ := id cf
  have hi0 : ∀ w ∈ wsX00, w ∈ wsX0_mustBe := fun w h => List.mem_cons_of_mem _ (List.mem_append_right _ h)
  have k18 := hts (.fieldLink RX0 18 "NineDrawers$Course" "putIfEmpty" "I") (List.mem_of_getElem? (i := 1) (by decide +kernel))
  have k21 := hts (.fieldLink RX0 21 "NineDrawers$Course" "putIfThere" "I") (List.mem_of_getElem? (i := 2) (by decide +kernel))
  have k15 := hts (.fieldLink RX0 15 "NineDrawers$Course" "laid" "I") (List.mem_of_getElem? (i := 3) (by decide +kernel))
  have k9 := hts (.fieldLink RX0 9 "NineDrawers$Course" "ahead" "I") (List.mem_of_getElem? (i := 4) (by decide +kernel))
  have hl : lv_has ls 3 [(0, .ref (r 30)), (1, .int (nI w))] := hl
  have hP : va_P D vwCl ((zy_w cI r) (s, a, z, -(k : Int))) H := hP
  have hD : va_D A ((zy_w cI r) (s, a, z, -(k : Int))) := hD
  refine lv_aload_n hx hb dX0_mustBe_0 rfl (lv_at hl 0 rfl) ?_
  refine va_get (D := D) (ci := 0) (v := .int (nI (s 32))) (C := RX0) (T := TX0) (N := 7) hx hb hts hi0 hown hK hP 17 rfl rfl 2 (by decide) k18 (fun _ h9 => h9) rfl dX0_mustBe_1 ?_
  refine lv_iload_n hx hb dX0_mustBe_4 rfl (lv_at hl 1 rfl) ?_
  refine lv_iconst (v := (-1)) hx hb dX0_mustBe_5 (by decide) ?_
  refine lv_ixor hx hb dX0_mustBe_6 ?_
  refine lv_iand hx hb dX0_mustBe_7 ?_
  refine zx_topi (y := nI (s 32 &&& (127 ^^^ w))) (zx_nand hE hw) ?_
  refine lv_aload_n hx hb dX0_mustBe_8 rfl (lv_at hl 0 rfl) ?_
  refine va_get (D := D) (ci := 0) (v := .int (nI (s 33))) (C := RX0) (T := TX0) (N := 7) hx hb hts hi0 hown hK hP 17 rfl rfl 3 (by decide) k21 (fun _ h9 => h9) rfl dX0_mustBe_9 ?_
  refine lv_iload_n hx hb dX0_mustBe_12 rfl (lv_at hl 1 rfl) ?_
  refine zx_iand hx hb dX0_mustBe_13 ?_
  refine zx_ior hx hb dX0_mustBe_14 ?_
  refine lv_aload_n hx hb dX0_mustBe_15 rfl (lv_at hl 0 rfl) ?_
  refine va_get (D := D) (ci := 0) (v := .int (nI (s 31))) (C := RX0) (T := TX0) (N := 7) hx hb hts hi0 hown hK hP 17 rfl rfl 1 (by decide) k15 (fun _ h9 => h9) rfl dX0_mustBe_16 ?_
  refine zx_ior hx hb dX0_mustBe_19 ?_
  have hm0 : (s 32 &&& (127 ^^^ w)) ||| (s 33 &&& w) ||| s 31 < 128 := zy_lt hE hT hq
  obtain ⟨mq9, em0⟩ : ∃ mq9, mq9 = (s 32 &&& (127 ^^^ w)) ||| (s 33 &&& w) ||| s 31 := ⟨_, rfl⟩
  rw [← em0] at hm0 ⊢
  refine lv_istore_n (lv' := [(2, .int (nI mq9)), (0, .ref (r 30)), (1, .int (nI w))]) hx hb dX0_mustBe_20 rfl hl (by decide) rfl (fun ls hl => ?_)
  refine lv_bipush (v := nI 127) hx hb dX0_mustBe_21 (by decide) ?_
  refine lv_aload_n hx hb dX0_mustBe_23 rfl (lv_at hl 1 rfl) ?_
  refine va_get (D := D) (ci := 0) (v := .int (zx_i (-(k : Int)))) (C := RX0) (T := TX0) (N := 7) hx hb hts hi0 hown hK hP 17 rfl rfl 0 (by decide) k9 (fun _ h9 => h9) rfl dX0_mustBe_24 ?_
  refine zx_topi (y := (-(nI k))) ((zx_i_neg _).symm) ?_
  refine lv_if_lt (tgt := 39) hx hb dX0_mustBe_27 (by decide) (fun c_27 => ?_) (fun c_27 => ?_)
  · refine lv_iload_n hx hb dX0_mustBe_39 rfl (lv_at hl 0 rfl) ?_
    refine lv_aload_n hx hb dX0_mustBe_40 rfl (lv_at hl 1 rfl) ?_
    refine va_get (D := D) (ci := 0) (v := .int (zx_i (-(k : Int)))) (C := RX0) (T := TX0) (N := 7) hx hb hts hi0 hown hK hP 17 rfl rfl 0 (by decide) k9 (fun _ h9 => h9) rfl dX0_mustBe_41 ?_
    refine zx_topi (y := (-(nI k))) ((zx_i_neg _).symm) ?_
    refine lv_ineg hx hb dX0_mustBe_44 ?_
    refine zx_topi (y := nI k) (Int32.neg_neg) ?_
    refine zx_ishr hx hb (by omega) (by omega) dX0_mustBe_45 ?_
    refine zx_iand hx hb dX0_mustBe_46 ?_
    exact hret _ _ _ _ _ _ hP hD hS dX0_mustBe_47 ⟨congrArg nI (by unfold zy_f; rw [← em0, zp_sh_n h0, Nat.and_comm]), rfl⟩
  · exact absurd (zx_negp h0 (by omega)) c_27
theorem c_X0_mustBe (l : Launch) (D : va_G) (cI cB : ClassId) (r : Nat → Nat) (s : Nat → Nat) (a : Nat → Nat → Nat) (z : Nat → Int) (ah : Int) (w : Nat) (hE : s 32 < 128) (hT : s 33 < 128) (hq : s 31 < 128) (hw : w < 128) (hah : -3 ≤ ah ∧ ah ≤ 4) : zx_C zx_ei l D (zm_t cI cB) (zy_w cI r) yX0_mustBe wsX0_mustBe rmX0_mustBe [.ref (r 30), .int (nI w)] (s, a, z, ah) (fun v u' => v = nI (zy_f (s 32) (s 33) (s 31) ah w) ∧ u' = (s, a, z, ah)) := by
  by_cases h0 : 0 ≤ ah
  · obtain ⟨k, rfl⟩ : ∃ k : Nat, ah = (k : Int) := ⟨ah.toNat, by omega⟩
    exact c_X0_mustBe_p l D cI cB r s a z 0 k w hE hT hq hw (by omega)
  · obtain ⟨k, rfl⟩ : ∃ k : Nat, ah = -(k : Int) := ⟨(-ah).toNat, by omega⟩
    exact c_X0_mustBe_n l D cI cB r s a z 0 k w hE hT hq hw (by omega) (by omega)
set_option maxHeartbeats 4000000 in
set_option maxRecDepth 100000 in
theorem c_X0_onlyWeek (l : Launch) (D : va_G) (cI cB : ClassId) (r : Nat → Nat) (s : Nat → Nat) (a : Nat → Nat → Nat) (z : Nat → Int) (ah : Int) (hE : s 32 < 128) (hT : s 33 < 128) (hq : s 31 < 128) (hah : -3 ≤ ah ∧ ah ≤ 4) : zx_C zx_ei l D (zm_t cI cB) (zy_w cI r) yX0_onlyWeek wsX0_onlyWeek rmX0_onlyWeek [.ref (r 30)] (s, a, z, ah) (fun v u' => v = nI (zy_it (zy_f (s 32) (s 33) (s 31) ah) 7) ∧ u' = (s, a, z, ah)) := by
  refine zx_of_i (cc := cX0_onlyWeek) (maxL := 3) (by decide) rfl (Nat.le_of_ble_eq_true rfl) ?_
  intro p e st m args below meth c A Q H cf hK hN hP hD hS hA hret ls hl
  obtain ⟨hx, hb, hml, hown, hts⟩ := id cf
  have hl : lv_has ls 3 [(0, .ref (r 30))] := hl
  have hP : va_P D vwCl ((zy_w cI r) (s, a, z, ah)) H := hP
  have hD : va_D A ((zy_w cI r) (s, a, z, ah)) := hD
  refine lv_iconst (v := nI 0) hx hb dX0_onlyWeek_0 (by decide) ?_
  refine lv_istore_n (lv' := [(1, .int (nI 0)), (0, .ref (r 30))]) hx hb dX0_onlyWeek_1 rfl hl (by decide) rfl (fun ls hl => ?_)
  refine lv_iconst (v := nI 0) hx hb dX0_onlyWeek_2 (by decide) ?_
  refine lv_istore_n (lv' := [(2, .int (nI 0)), (1, .int (nI 0)), (0, .ref (r 30))]) hx hb dX0_onlyWeek_3 rfl hl (by decide) rfl (fun ls hl => ?_)
  have lp_4 : ∀ (n_ : Nat) (i : Nat), 7 - i < n_ → (i ≤ 7) → ∀ x1 : Int32, x1 = nI (zy_it (zy_f (s 32) (s 33) (s 31) ah) i) → ∀ x2 : Int32, x2 = nI i → ∀ (H : Heap) (locs : List Loc), va_P D vwCl ((zy_w cI r) (s, a, z, ah)) H → va_D A ((zy_w cI r) (s, a, z, ah)) → va_S A st.heap H locs → ∀ ls : Array Slot, lv_has ls 3 [(0, .ref (r 30)), (1, .int x1), (2, .int x2)] → W p l e rmX0_onlyWeek st m args below meth c H locs 0 0 Q (F0 m 4 ls []) := by
    intro n_
    induction n_ with
    | zero => intros; omega
    | succ n_ ih_4 =>
      intro i hmu_4 hi9
      intro x1 ex1; subst ex1
      intro x2 ex2; subst ex2
      intro H locs hP hD hS ls hl
      have hl : lv_has ls 3 [(0, .ref (r 30)), (1, .int (nI (zy_it (zy_f (s 32) (s 33) (s 31) ah) i))), (2, .int (nI i))] := hl
      refine lv_iload_n hx hb dX0_onlyWeek_4 rfl (lv_at hl 2 rfl) ?_
      refine lv_bipush (v := nI 7) hx hb dX0_onlyWeek_5 (by decide) ?_
      refine zx_icmp_ge hx hb (tgt := 22) (by omega) (by omega) dX0_onlyWeek_7 (by decide) (fun c_7 => ?_) (fun c_7 => ?_)
      · refine lv_iload_n hx hb dX0_onlyWeek_22 rfl (lv_at hl 1 rfl) ?_
        exact hret _ _ _ _ _ _ hP hD hS dX0_onlyWeek_23 ⟨by rw [show i = 7 by omega], rfl⟩
      · refine lv_aload_n hx hb dX0_onlyWeek_10 rfl (lv_at hl 0 rfl) ?_
        refine lv_iload_n hx hb dX0_onlyWeek_11 rfl (lv_at hl 1 rfl) ?_
        refine zx_V_i (As := [.int (nI (zy_it (zy_f (s 32) (s 33) (s 31) ah) i))]) (rest := []) cf (c_X0_mustBe l D cI cB r s a z ah (zy_it (zy_f (s 32) (s 33) (s 31) ah) i) hE hT hq (zy_it_lt _ _ _ _ _) hah) (cwV 1 hts gX0_onlyWeek_X0_mustBe rfl rfl rfl ⟨rfl, hd_X0_mustBe⟩ ⟨Nat.le_of_ble_eq_true rfl, Nat.le_of_ble_eq_true rfl⟩) hK hN hP hD hS hA 17 rfl rfl rfl hl.1 rfl (Nat.le_of_ble_eq_true rfl) dX0_onlyWeek_12 ⟨Nat.zero_le _, Nat.zero_le _⟩ (fun v_12 u_12 H locs hq hP hD hS => ?_)
        obtain ⟨rfl, rfl⟩ := hq
        refine lv_istore_n (lv' := [(1, .int (nI (zy_f (s 32) (s 33) (s 31) ah (zy_it (zy_f (s 32) (s 33) (s 31) ah) i)))), (0, .ref (r 30)), (2, .int (nI i))]) hx hb dX0_onlyWeek_15 rfl hl (by decide) rfl (fun ls hl => ?_)
        refine lv_iinc (v := nI (i + 1)) (lv' := [(2, .int (nI (i + 1))), (1, .int (nI (zy_f (s 32) (s 33) (s 31) ah (zy_it (zy_f (s 32) (s 33) (s 31) ah) i)))), (0, .ref (r 30))]) hx hb dX0_onlyWeek_16 hl (k := 2) rfl (zx_inc _ _) (by decide) rfl (fun ls hl => ?_)
        refine lv_goto (tgt := 4) hx hb dX0_onlyWeek_19 (by decide) ?_
        exact ih_4 (i + 1) (by omega) (by omega) _ rfl _ rfl _ _ hP hD hS ls (lv_sub hl [2, 1, 0] rfl)
  exact lp_4 _ 0 (Nat.lt_succ_self _) (Nat.zero_le _) _ rfl _ rfl _ _ hP hD hS ls (lv_sub hl [2, 1, 0] rfl)
set_option maxHeartbeats 4000000 in
set_option maxRecDepth 100000 in
theorem c_X0_settle (l : Launch) (D : va_G) (cI cB : ClassId) (r : Nat → Nat) (s : Nat → Nat) (a : Nat → Nat → Nat) (z : Nat → Int) (ah : Int) (hE : s 32 < 128) (hT : s 33 < 128) (hq : s 31 < 128) (hah : -3 ≤ ah ∧ ah ≤ 4) : zx_C zx_ev l D (zm_t cI cB) (zy_w cI r) yX0_settle wsX0_settle rmX0_settle [.ref (r 30)] (s, a, z, ah) (fun _ u' => u' = (zx_up (zx_up (zx_up s 34 (zy_h (zy_f (s 32) (s 33) (s 31) ah) ah)) 35 (zy_l (zy_f (s 32) (s 33) (s 31) ah) ah)) 36 (zy_s (zy_f (s 32) (s 33) (s 31) ah) ah), a, z, ah)) := by
  refine zx_of_v (cc := cX0_settle) (maxL := 1) (by decide) rfl (Nat.le_of_ble_eq_true rfl) ?_
  intro p e st m args below meth c A Q H cf hK hN hP hD hS hA hret ls hl
  obtain ⟨hx, hb, hml, hown, hts⟩ := id cf
  have hi0 : ∀ w ∈ wsX00, w ∈ wsX0_settle := fun w h => List.mem_cons_of_mem _ (List.mem_append_right _ h)
  have k9 := hts (.fieldLink RX0 9 "NineDrawers$Course" "ahead" "I") (List.mem_of_getElem? (i := 1) (by decide +kernel))
  have k35 := hts (.fieldLink RX0 35 "NineDrawers$Course" "canHold" "I") (List.mem_of_getElem? (i := 2) (by decide +kernel))
  have k38 := hts (.fieldLink RX0 38 "NineDrawers$Course" "canLack" "I") (List.mem_of_getElem? (i := 3) (by decide +kernel))
  have k45 := hts (.fieldLink RX0 45 "NineDrawers$Course" "stuck" "I") (List.mem_of_getElem? (i := 4) (by decide +kernel))
  have hl : lv_has ls 1 [(0, .ref (r 30))] := hl
  have hP : va_P D vwCl ((zy_w cI r) (s, a, z, ah)) H := hP
  have hD : va_D A ((zy_w cI r) (s, a, z, ah)) := hD
  refine lv_aload_n hx hb dX0_settle_0 rfl (lv_at hl 0 rfl) ?_
  refine va_get (D := D) (ci := 0) (v := .int (zx_i ah)) (C := RX0) (T := TX0) (N := 7) hx hb hts hi0 hown hK hP 17 rfl rfl 0 (by decide) k9 (fun _ h9 => h9) rfl dX0_settle_1 ?_
  refine lv_if_ne (tgt := 34) hx hb dX0_settle_4 (by decide) (fun c_4 => ?_) (fun c_4 => ?_)
  · have ha0 : ah ≠ 0 := fun q9 => c_4 ((zx_i0 (by omega) (by omega)).mpr q9)
    refine lv_aload_n hx hb dX0_settle_34 rfl (lv_at hl 0 rfl) ?_
    refine lv_aload_n hx hb dX0_settle_35 rfl (lv_at hl 0 rfl) ?_
    refine zx_V_i (As := []) (rest := [.ref (r 30)]) cf (c_X0_onlyWeek l D cI cB r s a z ah  hE hT hq hah) (cwV 0 hts gX0_settle_X0_onlyWeek rfl rfl rfl ⟨rfl, hd_X0_onlyWeek⟩ ⟨Nat.le_of_ble_eq_true rfl, Nat.le_of_ble_eq_true rfl⟩) hK hN hP hD hS hA 17 rfl rfl rfl hl.1 rfl (Nat.le_of_ble_eq_true rfl) dX0_settle_36 ⟨Nat.zero_le _, Nat.zero_le _⟩ (fun v_36 u_36 H locs hq hP hD hS => ?_)
    obtain ⟨rfl, rfl⟩ := hq
    refine zx_put (D := D) (ci := 0) (ty := .int) (v := .int (nI (zy_it (zy_f (s 32) (s 33) (s 31) ah) 7))) (ws' := (zy_w cI r) ((zx_up s 34 (zy_it (zy_f (s 32) (s 33) (s 31) ah) 7)), a, z, ah)) (C := RX0) (T := TX0) (N := 7) hx hb hts hi0 tyX0 tyX0_ok nmX0 hown hK hP hD hS 17 rfl rfl 4 (by decide) k35 (fun _ h9 => h9) rfl (by decide +kernel) rfl rfl (Nat.le_of_ble_eq_true rfl) rfl dX0_settle_39 (fun H locs hP hD hS => ?_)
    refine lv_aload_n hx hb dX0_settle_42 rfl (lv_at hl 0 rfl) ?_
    refine lv_bipush (v := nI 127) hx hb dX0_settle_43 (by decide) ?_
    refine lv_aload_n hx hb dX0_settle_45 rfl (lv_at hl 0 rfl) ?_
    refine va_get (D := D) (ci := 0) (v := .int (nI (zy_it (zy_f (s 32) (s 33) (s 31) ah) 7))) (C := RX0) (T := TX0) (N := 7) hx hb hts hi0 hown hK hP 17 rfl rfl 4 (by decide) k35 (fun _ h9 => h9) rfl dX0_settle_46 ?_
    refine lv_iconst (v := (-1)) hx hb dX0_settle_49 (by decide) ?_
    refine lv_ixor hx hb dX0_settle_50 ?_
    refine lv_iand hx hb dX0_settle_51 ?_
    refine zx_topi (y := nI (127 ^^^ zy_it (zy_f (s 32) (s 33) (s 31) ah) 7)) (zx_not (zy_it_lt _ _ _ _ _)) ?_
    refine zx_put (D := D) (ci := 0) (ty := .int) (v := .int (nI (127 ^^^ zy_it (zy_f (s 32) (s 33) (s 31) ah) 7))) (ws' := (zy_w cI r) ((zx_up (zx_up s 34 (zy_it (zy_f (s 32) (s 33) (s 31) ah) 7)) 35 (127 ^^^ zy_it (zy_f (s 32) (s 33) (s 31) ah) 7)), a, z, ah)) (C := RX0) (T := TX0) (N := 7) hx hb hts hi0 tyX0 tyX0_ok nmX0 hown hK hP hD hS 17 rfl rfl 5 (by decide) k38 (fun _ h9 => h9) rfl (by decide +kernel) rfl rfl (Nat.le_of_ble_eq_true rfl) rfl dX0_settle_52 (fun H locs hP hD hS => ?_)
    refine lv_aload_n hx hb dX0_settle_55 rfl (lv_at hl 0 rfl) ?_
    refine lv_bipush (v := nI 127) hx hb dX0_settle_56 (by decide) ?_
    refine lv_aload_n hx hb dX0_settle_58 rfl (lv_at hl 0 rfl) ?_
    refine va_get (D := D) (ci := 0) (v := .int (nI (zy_it (zy_f (s 32) (s 33) (s 31) ah) 7))) (C := RX0) (T := TX0) (N := 7) hx hb hts hi0 hown hK hP 17 rfl rfl 4 (by decide) k35 (fun _ h9 => h9) rfl dX0_settle_59 ?_
    refine lv_aload_n hx hb dX0_settle_62 rfl (lv_at hl 0 rfl) ?_
    refine va_get (D := D) (ci := 0) (v := .int (nI (127 ^^^ zy_it (zy_f (s 32) (s 33) (s 31) ah) 7))) (C := RX0) (T := TX0) (N := 7) hx hb hts hi0 hown hK hP 17 rfl rfl 5 (by decide) k38 (fun _ h9 => h9) rfl dX0_settle_63 ?_
    refine zx_ior hx hb dX0_settle_66 ?_
    refine lv_iconst (v := (-1)) hx hb dX0_settle_67 (by decide) ?_
    refine lv_ixor hx hb dX0_settle_68 ?_
    refine lv_iand hx hb dX0_settle_69 ?_
    refine zx_topi (y := nI (127 ^^^ ((zy_it (zy_f (s 32) (s 33) (s 31) ah) 7) ||| (127 ^^^ zy_it (zy_f (s 32) (s 33) (s 31) ah) 7)))) (zx_not (Nat.or_lt_two_pow (n := 7) (by first | exact zp_sh_lt _ _ | exact zy_it_lt _ _ _ _ _) (zx_x127 (by first | exact zp_sh_lt _ _ | exact zy_it_lt _ _ _ _ _)))) ?_
    refine zx_put (D := D) (ci := 0) (ty := .int) (v := .int (nI (127 ^^^ ((zy_it (zy_f (s 32) (s 33) (s 31) ah) 7) ||| (127 ^^^ zy_it (zy_f (s 32) (s 33) (s 31) ah) 7))))) (ws' := (zy_w cI r) ((zx_up (zx_up (zx_up s 34 (zy_it (zy_f (s 32) (s 33) (s 31) ah) 7)) 35 (127 ^^^ zy_it (zy_f (s 32) (s 33) (s 31) ah) 7)) 36 (127 ^^^ ((zy_it (zy_f (s 32) (s 33) (s 31) ah) 7) ||| (127 ^^^ zy_it (zy_f (s 32) (s 33) (s 31) ah) 7)))), a, z, ah)) (C := RX0) (T := TX0) (N := 7) hx hb hts hi0 tyX0 tyX0_ok nmX0 hown hK hP hD hS 17 rfl rfl 6 (by decide) k45 (fun _ h9 => h9) rfl (by decide +kernel) rfl rfl (Nat.le_of_ble_eq_true rfl) rfl dX0_settle_70 (fun H locs hP hD hS => ?_)
    exact hret _ _ _ _ _ hP hD hS dX0_settle_73 (by simp only [zy_s, zy_l, zy_h, if_neg ha0])
  · have ha0 := (zx_i0 (by omega) (by omega)).mp c_4
    refine lv_aload_n hx hb dX0_settle_7 rfl (lv_at hl 0 rfl) ?_
    refine lv_aload_n hx hb dX0_settle_8 rfl (lv_at hl 0 rfl) ?_
    refine lv_bipush (v := nI 127) hx hb dX0_settle_9 (by decide) ?_
    refine zx_V_i (As := [.int (nI 127)]) (rest := [.ref (r 30)]) cf (c_X0_mustBe l D cI cB r s a z ah 127 hE hT hq (by decide) hah) (cwV 1 hts gX0_settle_X0_mustBe rfl rfl rfl ⟨rfl, hd_X0_mustBe⟩ ⟨Nat.le_of_ble_eq_true rfl, Nat.le_of_ble_eq_true rfl⟩) hK hN hP hD hS hA 17 rfl rfl rfl hl.1 rfl (Nat.le_of_ble_eq_true rfl) dX0_settle_11 ⟨Nat.zero_le _, Nat.zero_le _⟩ (fun v_11 u_11 H locs hq hP hD hS => ?_)
    obtain ⟨rfl, rfl⟩ := hq
    refine zx_put (D := D) (ci := 0) (ty := .int) (v := .int (nI (zy_f (s 32) (s 33) (s 31) ah 127))) (ws' := (zy_w cI r) ((zx_up s 34 (zy_f (s 32) (s 33) (s 31) ah 127)), a, z, ah)) (C := RX0) (T := TX0) (N := 7) hx hb hts hi0 tyX0 tyX0_ok nmX0 hown hK hP hD hS 17 rfl rfl 4 (by decide) k35 (fun _ h9 => h9) rfl (by decide +kernel) rfl rfl (Nat.le_of_ble_eq_true rfl) rfl dX0_settle_14 (fun H locs hP hD hS => ?_)
    refine lv_aload_n hx hb dX0_settle_17 rfl (lv_at hl 0 rfl) ?_
    refine lv_bipush (v := nI 127) hx hb dX0_settle_18 (by decide) ?_
    refine lv_aload_n hx hb dX0_settle_20 rfl (lv_at hl 0 rfl) ?_
    refine lv_iconst (v := nI 0) hx hb dX0_settle_21 (by decide) ?_
    refine zx_V_i (As := [.int (nI 0)]) (rest := [.int (nI 127), .ref (r 30)]) cf (c_X0_mustBe l D cI cB r (zx_up s 34 (zy_f (s 32) (s 33) (s 31) ah 127)) a z ah 0 hE hT hq (by decide) hah) (cwV 1 hts gX0_settle_X0_mustBe rfl rfl rfl ⟨rfl, hd_X0_mustBe⟩ ⟨Nat.le_of_ble_eq_true rfl, Nat.le_of_ble_eq_true rfl⟩) hK hN hP hD hS hA 17 rfl rfl rfl hl.1 rfl (Nat.le_of_ble_eq_true rfl) dX0_settle_22 ⟨Nat.zero_le _, Nat.zero_le _⟩ (fun v_22 u_22 H locs hq hP hD hS => ?_)
    obtain ⟨rfl, rfl⟩ := hq
    refine lv_iconst (v := (-1)) hx hb dX0_settle_25 (by decide) ?_
    refine lv_ixor hx hb dX0_settle_26 ?_
    refine lv_iand hx hb dX0_settle_27 ?_
    refine zx_topi (y := nI (127 ^^^ (zy_f (s 32) (s 33) (s 31) ah) 0)) (zx_not (zp_sh_lt _ _)) ?_
    refine zx_put (D := D) (ci := 0) (ty := .int) (v := .int (nI (127 ^^^ (zy_f (s 32) (s 33) (s 31) ah) 0))) (ws' := (zy_w cI r) ((zx_up (zx_up s 34 (zy_f (s 32) (s 33) (s 31) ah 127)) 35 (127 ^^^ (zy_f (s 32) (s 33) (s 31) ah) 0)), a, z, ah)) (C := RX0) (T := TX0) (N := 7) hx hb hts hi0 tyX0 tyX0_ok nmX0 hown hK hP hD hS 17 rfl rfl 5 (by decide) k38 (fun _ h9 => h9) rfl (by decide +kernel) rfl rfl (Nat.le_of_ble_eq_true rfl) rfl dX0_settle_28 (fun H locs hP hD hS => ?_)
    refine lv_goto (tgt := 55) hx hb dX0_settle_31 (by decide) ?_
    refine lv_aload_n hx hb dX0_settle_55 rfl (lv_at hl 0 rfl) ?_
    refine lv_bipush (v := nI 127) hx hb dX0_settle_56 (by decide) ?_
    refine lv_aload_n hx hb dX0_settle_58 rfl (lv_at hl 0 rfl) ?_
    refine va_get (D := D) (ci := 0) (v := .int (nI (zy_f (s 32) (s 33) (s 31) ah 127))) (C := RX0) (T := TX0) (N := 7) hx hb hts hi0 hown hK hP 17 rfl rfl 4 (by decide) k35 (fun _ h9 => h9) rfl dX0_settle_59 ?_
    refine lv_aload_n hx hb dX0_settle_62 rfl (lv_at hl 0 rfl) ?_
    refine va_get (D := D) (ci := 0) (v := .int (nI (127 ^^^ (zy_f (s 32) (s 33) (s 31) ah) 0))) (C := RX0) (T := TX0) (N := 7) hx hb hts hi0 hown hK hP 17 rfl rfl 5 (by decide) k38 (fun _ h9 => h9) rfl dX0_settle_63 ?_
    refine zx_ior hx hb dX0_settle_66 ?_
    refine lv_iconst (v := (-1)) hx hb dX0_settle_67 (by decide) ?_
    refine lv_ixor hx hb dX0_settle_68 ?_
    refine lv_iand hx hb dX0_settle_69 ?_
    refine zx_topi (y := nI (127 ^^^ ((zy_f (s 32) (s 33) (s 31) ah 127) ||| (127 ^^^ (zy_f (s 32) (s 33) (s 31) ah) 0)))) (zx_not (Nat.or_lt_two_pow (n := 7) (by first | exact zp_sh_lt _ _ | exact zy_it_lt _ _ _ _ _) (zx_x127 (by first | exact zp_sh_lt _ _ | exact zy_it_lt _ _ _ _ _)))) ?_
    refine zx_put (D := D) (ci := 0) (ty := .int) (v := .int (nI (127 ^^^ ((zy_f (s 32) (s 33) (s 31) ah 127) ||| (127 ^^^ (zy_f (s 32) (s 33) (s 31) ah) 0))))) (ws' := (zy_w cI r) ((zx_up (zx_up (zx_up s 34 (zy_f (s 32) (s 33) (s 31) ah 127)) 35 (127 ^^^ (zy_f (s 32) (s 33) (s 31) ah) 0)) 36 (127 ^^^ ((zy_f (s 32) (s 33) (s 31) ah 127) ||| (127 ^^^ (zy_f (s 32) (s 33) (s 31) ah) 0)))), a, z, ah)) (C := RX0) (T := TX0) (N := 7) hx hb hts hi0 tyX0 tyX0_ok nmX0 hown hK hP hD hS 17 rfl rfl 6 (by decide) k45 (fun _ h9 => h9) rfl (by decide +kernel) rfl rfl (Nat.le_of_ble_eq_true rfl) rfl dX0_settle_70 (fun H locs hP hD hS => ?_)
    exact hret _ _ _ _ _ hP hD hS dX0_settle_73 (by simp only [zy_s, zy_l, zy_h, if_pos ha0])
set_option maxHeartbeats 4000000 in
set_option maxRecDepth 100000 in
theorem c_X0_agreeing (l : Launch) (D : va_G) (cI cB : ClassId) (r : Nat → Nat) (s : Nat → Nat) (a : Nat → Nat → Nat) (z : Nat → Int) (ah : Int) (h4 : s 34 < 128) (h5 : s 35 < 128) (h6 : s 36 < 128) : zx_C zx_ei l D (zm_t cI cB) (zy_w cI r) yX0_agreeing wsX0_agreeing rmX0_agreeing [.ref (r 30)] (s, a, z, ah) (fun v u' => v = zy_na (s 34) (s 35) (s 36) ∧ u' = (s, a, z, ah)) := by
  refine zx_of_i (cc := cX0_agreeing) (maxL := 1) (by decide) rfl (Nat.le_of_ble_eq_true rfl) ?_
  intro p e st m args below meth c A Q H cf hK hN hP hD hS hA hret ls hl
  obtain ⟨hx, hb, hml, hown, hts⟩ := id cf
  have hi0 : ∀ w ∈ wsX00, w ∈ wsX0_agreeing := fun w h => List.mem_cons_of_mem _ (List.mem_append_right _ h)
  have k45 := hts (.fieldLink RX0 45 "NineDrawers$Course" "stuck" "I") (List.mem_of_getElem? (i := 1) (by decide +kernel))
  have k35 := hts (.fieldLink RX0 35 "NineDrawers$Course" "canHold" "I") (List.mem_of_getElem? (i := 2) (by decide +kernel))
  have k38 := hts (.fieldLink RX0 38 "NineDrawers$Course" "canLack" "I") (List.mem_of_getElem? (i := 3) (by decide +kernel))
  have hl : lv_has ls 1 [(0, .ref (r 30))] := hl
  have hP : va_P D vwCl ((zy_w cI r) (s, a, z, ah)) H := hP
  have hD : va_D A ((zy_w cI r) (s, a, z, ah)) := hD
  refine lv_aload_n hx hb dX0_agreeing_0 rfl (lv_at hl 0 rfl) ?_
  refine va_get (D := D) (ci := 0) (v := .int (nI (s 36))) (C := RX0) (T := TX0) (N := 7) hx hb hts hi0 hown hK hP 17 rfl rfl 6 (by decide) k45 (fun _ h9 => h9) rfl dX0_agreeing_1 ?_
  refine zx_if_ne hx hb (tgt := 24) (by omega) dX0_agreeing_4 (by decide) (fun c_4 => ?_) (fun c_4 => ?_)
  · refine lv_iconst (v := nI 0) hx hb dX0_agreeing_24 (by decide) ?_
    exact hret _ _ _ _ _ _ hP hD hS dX0_agreeing_25 ⟨(if_neg c_4).symm, rfl⟩
  · refine lv_iconst (v := nI 1) hx hb dX0_agreeing_7 (by decide) ?_
    refine lv_aload_n hx hb dX0_agreeing_8 rfl (lv_at hl 0 rfl) ?_
    refine va_get (D := D) (ci := 0) (v := .int (nI (s 34))) (C := RX0) (T := TX0) (N := 7) hx hb hts hi0 hown hK hP 17 rfl rfl 4 (by decide) k35 (fun _ h9 => h9) rfl dX0_agreeing_9 ?_
    refine lv_aload_n hx hb dX0_agreeing_12 rfl (lv_at hl 0 rfl) ?_
    refine va_get (D := D) (ci := 0) (v := .int (nI (s 35))) (C := RX0) (T := TX0) (N := 7) hx hb hts hi0 hown hK hP 17 rfl rfl 5 (by decide) k38 (fun _ h9 => h9) rfl dX0_agreeing_13 ?_
    refine zx_iand hx hb dX0_agreeing_16 ?_
    refine zx_S (As := [.int (nI ((s 34) &&& (s 35)))]) (rest := [.int (nI 1)]) cf (c_J6_bitCount_0f7a4 l D ((s 34) &&& (s 35)) (by have := Nat.and_le_left (n := s 34) (m := s 35); omega)) (va_cwS 1 hts gX0_agreeing_J6_bitCount_0f7a4 rfl rfl rfl hd_J6_bitCount_0f7a4 ⟨Nat.le_of_ble_eq_true rfl, Nat.le_of_ble_eq_true rfl⟩) hK hN hP hS hA rfl hl.1 rfl (Nat.le_of_ble_eq_true rfl) dX0_agreeing_17 ⟨Nat.zero_le _, Nat.zero_le _⟩ (fun H locs hP hS => ?_)
    refine zx_ishl1 hx hb (by have := zp_pc_le (s 34 &&& s 35); omega) dX0_agreeing_20 ?_
    refine lv_goto (tgt := 25) hx hb dX0_agreeing_21 (by decide) ?_
    exact hret _ _ _ _ _ _ hP hD hS dX0_agreeing_25 ⟨(if_pos c_4).symm, rfl⟩
set_option maxHeartbeats 4000000 in
set_option maxRecDepth 100000 in
theorem c_X0_firstStuckDay (l : Launch) (D : va_G) (cI cB : ClassId) (r : Nat → Nat) (s : Nat → Nat) (a : Nat → Nat → Nat) (z : Nat → Int) (ah : Int) (h4 : s 34 < 128) (h5 : s 35 < 128) (h6 : s 36 < 128) : zx_C zx_ei l D (zm_t cI cB) (zy_w cI r) yX0_firstStuckDay wsX0_firstStuckDay rmX0_firstStuckDay [.ref (r 30)] (s, a, z, ah) (fun v u' => v = zp_no 7 (zp_fst (fun i9 => (s 36).testBit i9) 7) ∧ u' = (s, a, z, ah)) := by
  refine zx_of_i (cc := cX0_firstStuckDay) (maxL := 2) (by decide) rfl (Nat.le_of_ble_eq_true rfl) ?_
  intro p e st m args below meth c A Q H cf hK hN hP hD hS hA hret ls hl
  obtain ⟨hx, hb, hml, hown, hts⟩ := id cf
  have hi0 : ∀ w ∈ wsX00, w ∈ wsX0_firstStuckDay := fun w h => List.mem_cons_of_mem _ (List.mem_append_right _ h)
  have k45 := hts (.fieldLink RX0 45 "NineDrawers$Course" "stuck" "I") (List.mem_of_getElem? (i := 1) (by decide +kernel))
  have hl : lv_has ls 2 [(0, .ref (r 30))] := hl
  have hP : va_P D vwCl ((zy_w cI r) (s, a, z, ah)) H := hP
  have hD : va_D A ((zy_w cI r) (s, a, z, ah)) := hD
  refine lv_iconst (v := nI 0) hx hb dX0_firstStuckDay_0 (by decide) ?_
  refine lv_istore_n (lv' := [(1, .int (nI 0)), (0, .ref (r 30))]) hx hb dX0_firstStuckDay_1 rfl hl (by decide) rfl (fun ls hl => ?_)
  have lp_2 : ∀ (n_ : Nat) (i : Nat), 7 - i < n_ → (i ≤ 7) → (∀ j, j < i → (s 36).testBit j = false) → ∀ x1 : Int32, x1 = nI i → ∀ (H : Heap) (locs : List Loc), va_P D vwCl ((zy_w cI r) (s, a, z, ah)) H → va_D A ((zy_w cI r) (s, a, z, ah)) → va_S A st.heap H locs → ∀ ls : Array Slot, lv_has ls 2 [(0, .ref (r 30)), (1, .int x1)] → W p l e rmX0_firstStuckDay st m args below meth c H locs 0 0 Q (F0 m 2 ls []) := by
    intro n_
    induction n_ with
    | zero => intros; omega
    | succ n_ ih_2 =>
      intro i hmu_2 hi9 gi
      intro x1 ex1; subst ex1
      intro H locs hP hD hS ls hl
      have hl : lv_has ls 2 [(0, .ref (r 30)), (1, .int (nI i))] := hl
      refine lv_iload_n hx hb dX0_firstStuckDay_2 rfl (lv_at hl 1 rfl) ?_
      refine lv_bipush (v := nI 7) hx hb dX0_firstStuckDay_3 (by decide) ?_
      refine zx_icmp_ge hx hb (tgt := 28) (by omega) (by omega) dX0_firstStuckDay_5 (by decide) (fun c_5 => ?_) (fun c_5 => ?_)
      · refine lv_iconst (v := (-1)) hx hb dX0_firstStuckDay_28 (by decide) ?_
        exact hret _ _ _ _ _ _ hP hD hS dX0_firstStuckDay_29 ⟨zy_fs_n (by omega) gi, rfl⟩
      · refine lv_aload_n hx hb dX0_firstStuckDay_8 rfl (lv_at hl 0 rfl) ?_
        refine va_get (D := D) (ci := 0) (v := .int (nI (s 36))) (C := RX0) (T := TX0) (N := 7) hx hb hts hi0 hown hK hP 17 rfl rfl 6 (by decide) k45 (fun _ h9 => h9) rfl dX0_firstStuckDay_9 ?_
        refine lv_iload_n hx hb dX0_firstStuckDay_12 rfl (lv_at hl 1 rfl) ?_
        refine zx_SN (As := [.int (nI (s 36)), .int (nI i)]) (rest := []) cf (c_X2_bitOf l D (s 36) i (by omega) (by omega)) ⟨va_cnB 2 hts gX0_firstStuckDay_X2_bitOf_n53 rfl rfl rfl hN.2.2 (hts (.initialized RX2) (List.mem_of_getElem? (i := 3) (by decide +kernel))) hd_X2_bitOf ⟨Nat.le_of_ble_eq_true rfl, Nat.le_of_ble_eq_true rfl⟩, (hts (.static yX2_bitOf) (List.mem_of_getElem? (i := 2) (by decide +kernel))), trivial⟩ hK hN hP hS hA rfl hl.1 rfl (Nat.le_of_ble_eq_true rfl) dX0_firstStuckDay_13 ⟨Nat.zero_le _, Nat.zero_le _⟩ (fun H locs hP hS => ?_)
        refine lv_iconst (v := nI 1) hx hb dX0_firstStuckDay_16 (by decide) ?_
        refine zx_icmp_ne hx hb (tgt := 22) (zx_n_lt _) (by decide) dX0_firstStuckDay_17 (by decide) (fun c_17 => ?_) (fun c_17 => ?_)
        · refine lv_iinc (v := nI (i + 1)) (lv' := [(1, .int (nI (i + 1))), (0, .ref (r 30))]) hx hb dX0_firstStuckDay_22 hl (k := 1) rfl (zx_inc _ _) (by decide) rfl (fun ls hl => ?_)
          refine lv_goto (tgt := 2) hx hb dX0_firstStuckDay_25 (by decide) ?_
          exact ih_2 (i + 1) (by omega) (by omega) (lt_s gi (zx_n0 c_17)) _ rfl _ _ hP hD hS ls (lv_sub hl [1, 0] rfl)
        · refine lv_iload_n hx hb dX0_firstStuckDay_20 rfl (lv_at hl 1 rfl) ?_
          exact hret _ _ _ _ _ _ hP hD hS dX0_firstStuckDay_21 ⟨zy_fs_k (by omega) gi (zx_n1 c_17), rfl⟩
  exact lp_2 _ 0 (Nat.lt_succ_self _) (Nat.zero_le _) (fun j hj => absurd hj (Nat.not_lt_zero j)) _ rfl _ _ hP hD hS ls (lv_sub hl [1, 0] rfl)
set_option maxHeartbeats 4000000 in
set_option maxRecDepth 100000 in
theorem c_X0_leastWeek (l : Launch) (D : va_G) (cI cB : ClassId) (r : Nat → Nat) (s : Nat → Nat) (a : Nat → Nat → Nat) (z : Nat → Int) (ah : Int) (h4 : s 34 < 128) (h5 : s 35 < 128) (h6 : s 36 < 128) : zx_C zx_ei l D (zm_t cI cB) (zy_w cI r) yX0_leastWeek wsX0_leastWeek rmX0_leastWeek [.ref (r 30)] (s, a, z, ah) (fun v u' => v = zy_lw (s 35) (s 36) ∧ u' = (s, a, z, ah)) := by
  refine zx_of_i (cc := cX0_leastWeek) (maxL := 1) (by decide) rfl (Nat.le_of_ble_eq_true rfl) ?_
  intro p e st m args below meth c A Q H cf hK hN hP hD hS hA hret ls hl
  obtain ⟨hx, hb, hml, hown, hts⟩ := id cf
  have hi0 : ∀ w ∈ wsX00, w ∈ wsX0_leastWeek := fun w h => List.mem_cons_of_mem _ (List.mem_append_right _ h)
  have k45 := hts (.fieldLink RX0 45 "NineDrawers$Course" "stuck" "I") (List.mem_of_getElem? (i := 1) (by decide +kernel))
  have k38 := hts (.fieldLink RX0 38 "NineDrawers$Course" "canLack" "I") (List.mem_of_getElem? (i := 2) (by decide +kernel))
  have hl : lv_has ls 1 [(0, .ref (r 30))] := hl
  have hP : va_P D vwCl ((zy_w cI r) (s, a, z, ah)) H := hP
  have hD : va_D A ((zy_w cI r) (s, a, z, ah)) := hD
  refine lv_aload_n hx hb dX0_leastWeek_0 rfl (lv_at hl 0 rfl) ?_
  refine va_get (D := D) (ci := 0) (v := .int (nI (s 36))) (C := RX0) (T := TX0) (N := 7) hx hb hts hi0 hown hK hP 17 rfl rfl 6 (by decide) k45 (fun _ h9 => h9) rfl dX0_leastWeek_1 ?_
  refine zx_if_ne hx hb (tgt := 19) (by omega) dX0_leastWeek_4 (by decide) (fun c_4 => ?_) (fun c_4 => ?_)
  · refine lv_iconst (v := (-1)) hx hb dX0_leastWeek_19 (by decide) ?_
    exact hret _ _ _ _ _ _ hP hD hS dX0_leastWeek_20 ⟨(if_neg c_4).symm, rfl⟩
  · refine lv_bipush (v := nI 127) hx hb dX0_leastWeek_7 (by decide) ?_
    refine lv_aload_n hx hb dX0_leastWeek_9 rfl (lv_at hl 0 rfl) ?_
    refine va_get (D := D) (ci := 0) (v := .int (nI (s 35))) (C := RX0) (T := TX0) (N := 7) hx hb hts hi0 hown hK hP 17 rfl rfl 5 (by decide) k38 (fun _ h9 => h9) rfl dX0_leastWeek_10 ?_
    refine lv_iconst (v := (-1)) hx hb dX0_leastWeek_13 (by decide) ?_
    refine lv_ixor hx hb dX0_leastWeek_14 ?_
    refine lv_iand hx hb dX0_leastWeek_15 ?_
    refine zx_topi (y := nI (127 ^^^ s 35)) (zx_not h5) ?_
    refine lv_goto (tgt := 20) hx hb dX0_leastWeek_16 (by decide) ?_
    exact hret _ _ _ _ _ _ hP hD hS dX0_leastWeek_20 ⟨(if_pos c_4).symm, rfl⟩
set_option maxHeartbeats 4000000 in
set_option maxRecDepth 100000 in
theorem c_X0_sureOn (l : Launch) (D : va_G) (cI cB : ClassId) (r : Nat → Nat) (s : Nat → Nat) (a : Nat → Nat → Nat) (z : Nat → Int) (ah : Int) (o : Nat) (h4 : s 34 < 128) (h5 : s 35 < 128) (h6 : s 36 < 128) (ho : o < 7) : zx_C zx_ei l D (zm_t cI cB) (zy_w cI r) yX0_sureOn wsX0_sureOn rmX0_sureOn [.ref (r 30), .int (nI o)] (s, a, z, ah) (fun v u' => v = zy_su (s 34) (s 35) (s 36) o ∧ u' = (s, a, z, ah)) := by
  refine zx_of_i (cc := cX0_sureOn) (maxL := 2) (by decide) rfl (Nat.le_of_ble_eq_true rfl) ?_
  intro p e st m args below meth c A Q H cf hK hN hP hD hS hA hret ls hl
  obtain ⟨hx, hb, hml, hown, hts⟩ := id cf
  have hi0 : ∀ w ∈ wsX00, w ∈ wsX0_sureOn := fun w h => List.mem_cons_of_mem _ (List.mem_append_right _ h)
  have k45 := hts (.fieldLink RX0 45 "NineDrawers$Course" "stuck" "I") (List.mem_of_getElem? (i := 1) (by decide +kernel))
  have k35 := hts (.fieldLink RX0 35 "NineDrawers$Course" "canHold" "I") (List.mem_of_getElem? (i := 2) (by decide +kernel))
  have k38 := hts (.fieldLink RX0 38 "NineDrawers$Course" "canLack" "I") (List.mem_of_getElem? (i := 3) (by decide +kernel))
  have hl : lv_has ls 2 [(0, .ref (r 30)), (1, .int (nI o))] := hl
  have hP : va_P D vwCl ((zy_w cI r) (s, a, z, ah)) H := hP
  have hD : va_D A ((zy_w cI r) (s, a, z, ah)) := hD
  refine lv_aload_n hx hb dX0_sureOn_0 rfl (lv_at hl 0 rfl) ?_
  refine va_get (D := D) (ci := 0) (v := .int (nI (s 36))) (C := RX0) (T := TX0) (N := 7) hx hb hts hi0 hown hK hP 17 rfl rfl 6 (by decide) k45 (fun _ h9 => h9) rfl dX0_sureOn_1 ?_
  refine zx_if_ne hx hb (tgt := 24) (by omega) dX0_sureOn_4 (by decide) (fun c_4 => ?_) (fun c_4 => ?_)
  · refine lv_iconst (v := (-1)) hx hb dX0_sureOn_24 (by decide) ?_
    exact hret _ _ _ _ _ _ hP hD hS dX0_sureOn_25 ⟨(if_pos (Or.inl c_4)).symm, rfl⟩
  · refine lv_aload_n hx hb dX0_sureOn_7 rfl (lv_at hl 0 rfl) ?_
    refine va_get (D := D) (ci := 0) (v := .int (nI (s 34))) (C := RX0) (T := TX0) (N := 7) hx hb hts hi0 hown hK hP 17 rfl rfl 4 (by decide) k35 (fun _ h9 => h9) rfl dX0_sureOn_8 ?_
    refine lv_aload_n hx hb dX0_sureOn_11 rfl (lv_at hl 0 rfl) ?_
    refine va_get (D := D) (ci := 0) (v := .int (nI (s 35))) (C := RX0) (T := TX0) (N := 7) hx hb hts hi0 hown hK hP 17 rfl rfl 5 (by decide) k38 (fun _ h9 => h9) rfl dX0_sureOn_12 ?_
    refine zx_iand hx hb dX0_sureOn_15 ?_
    refine lv_iload_n hx hb dX0_sureOn_16 rfl (lv_at hl 1 rfl) ?_
    refine zx_SN (As := [.int (nI ((s 34) &&& (s 35))), .int (nI o)]) (rest := []) cf (c_X2_bitOf l D ((s 34) &&& (s 35)) o (zx_andlt (by omega)) (by omega)) ⟨va_cnB 2 hts gX0_sureOn_X2_bitOf_n53 rfl rfl rfl hN.2.2 (hts (.initialized RX2) (List.mem_of_getElem? (i := 5) (by decide +kernel))) hd_X2_bitOf ⟨Nat.le_of_ble_eq_true rfl, Nat.le_of_ble_eq_true rfl⟩, (hts (.static yX2_bitOf) (List.mem_of_getElem? (i := 4) (by decide +kernel))), trivial⟩ hK hN hP hS hA rfl hl.1 rfl (Nat.le_of_ble_eq_true rfl) dX0_sureOn_17 ⟨Nat.zero_le _, Nat.zero_le _⟩ (fun H locs hP hS => ?_)
    refine lv_iconst (v := nI 1) hx hb dX0_sureOn_20 (by decide) ?_
    refine zx_icmp_ne hx hb (tgt := 26) (zx_n_lt _) (by decide) dX0_sureOn_21 (by decide) (fun c_21 => ?_) (fun c_21 => ?_)
    · refine lv_aload_n hx hb dX0_sureOn_26 rfl (lv_at hl 0 rfl) ?_
      refine va_get (D := D) (ci := 0) (v := .int (nI (s 34))) (C := RX0) (T := TX0) (N := 7) hx hb hts hi0 hown hK hP 17 rfl rfl 4 (by decide) k35 (fun _ h9 => h9) rfl dX0_sureOn_27 ?_
      refine lv_iload_n hx hb dX0_sureOn_30 rfl (lv_at hl 1 rfl) ?_
      refine zx_SN (As := [.int (nI (s 34)), .int (nI o)]) (rest := []) cf (c_X2_bitOf l D (s 34) o (by omega) (by omega)) ⟨va_cnB 2 hts gX0_sureOn_X2_bitOf_n53 rfl rfl rfl hN.2.2 (hts (.initialized RX2) (List.mem_of_getElem? (i := 5) (by decide +kernel))) hd_X2_bitOf ⟨Nat.le_of_ble_eq_true rfl, Nat.le_of_ble_eq_true rfl⟩, (hts (.static yX2_bitOf) (List.mem_of_getElem? (i := 4) (by decide +kernel))), trivial⟩ hK hN hP hS hA rfl hl.1 rfl (Nat.le_of_ble_eq_true rfl) dX0_sureOn_31 ⟨Nat.zero_le _, Nat.zero_le _⟩ (fun H locs hP hS => ?_)
      exact hret _ _ _ _ _ _ hP hD hS dX0_sureOn_34 ⟨(zy_su0 c_4 (zx_n0 c_21)).symm, rfl⟩
    · refine lv_iconst (v := (-1)) hx hb dX0_sureOn_24 (by decide) ?_
      exact hret _ _ _ _ _ _ hP hD hS dX0_sureOn_25 ⟨(if_pos (Or.inr (zx_n1 c_21))).symm, rfl⟩
set_option maxHeartbeats 4000000 in
set_option maxRecDepth 100000 in
theorem c_X0_isSureOfAll (l : Launch) (D : va_G) (cI cB : ClassId) (r : Nat → Nat) (s : Nat → Nat) (a : Nat → Nat → Nat) (z : Nat → Int) (ah : Int) (d9 : Nat) (h4 : s 34 < 128) (h5 : s 35 < 128) (h6 : s 36 < 128) (hd : d9 < 128) : zx_C zx_ei l D (zm_t cI cB) (zy_w cI r) yX0_isSureOfAll wsX0_isSureOfAll rmX0_isSureOfAll [.ref (r 30), .int (nI d9)] (s, a, z, ah) (fun v u' => v = zx_b (decide (s 36 = 0) && decide (d9 &&& s 35 = 0)) ∧ u' = (s, a, z, ah)) := by
  refine zx_of_z (cc := cX0_isSureOfAll) (maxL := 2) (by decide) rfl (Nat.le_of_ble_eq_true rfl) ?_
  intro p e st m args below meth c A Q H cf hK hN hP hD hS hA hret ls hl
  obtain ⟨hx, hb, hml, hown, hts⟩ := id cf
  have hi0 : ∀ w ∈ wsX00, w ∈ wsX0_isSureOfAll := fun w h => List.mem_cons_of_mem _ (List.mem_append_right _ h)
  have k45 := hts (.fieldLink RX0 45 "NineDrawers$Course" "stuck" "I") (List.mem_of_getElem? (i := 1) (by decide +kernel))
  have k38 := hts (.fieldLink RX0 38 "NineDrawers$Course" "canLack" "I") (List.mem_of_getElem? (i := 2) (by decide +kernel))
  have hl : lv_has ls 2 [(0, .ref (r 30)), (1, .int (nI d9))] := hl
  have hP : va_P D vwCl ((zy_w cI r) (s, a, z, ah)) H := hP
  have hD : va_D A ((zy_w cI r) (s, a, z, ah)) := hD
  refine lv_aload_n hx hb dX0_isSureOfAll_0 rfl (lv_at hl 0 rfl) ?_
  refine va_get (D := D) (ci := 0) (v := .int (nI (s 36))) (C := RX0) (T := TX0) (N := 7) hx hb hts hi0 hown hK hP 17 rfl rfl 6 (by decide) k45 (fun _ h9 => h9) rfl dX0_isSureOfAll_1 ?_
  refine zx_if_ne hx hb (tgt := 20) (by omega) dX0_isSureOfAll_4 (by decide) (fun c_4 => ?_) (fun c_4 => ?_)
  · refine lv_iconst (v := nI 0) hx hb dX0_isSureOfAll_20 (by decide) ?_
    exact hret _ _ _ _ _ _ hP hD hS dX0_isSureOfAll_21 zx_nar0 ⟨zx_b_f (by simp [c_4]), rfl⟩
  · refine lv_iload_n hx hb dX0_isSureOfAll_7 rfl (lv_at hl 1 rfl) ?_
    refine lv_aload_n hx hb dX0_isSureOfAll_8 rfl (lv_at hl 0 rfl) ?_
    refine va_get (D := D) (ci := 0) (v := .int (nI (s 35))) (C := RX0) (T := TX0) (N := 7) hx hb hts hi0 hown hK hP 17 rfl rfl 5 (by decide) k38 (fun _ h9 => h9) rfl dX0_isSureOfAll_9 ?_
    refine zx_iand hx hb dX0_isSureOfAll_12 ?_
    refine zx_if_ne hx hb (tgt := 20) (zx_andlt (by omega)) dX0_isSureOfAll_13 (by decide) (fun c_13 => ?_) (fun c_13 => ?_)
    · refine lv_iconst (v := nI 0) hx hb dX0_isSureOfAll_20 (by decide) ?_
      exact hret _ _ _ _ _ _ hP hD hS dX0_isSureOfAll_21 zx_nar0 ⟨zx_b_f (by simp [c_13]), rfl⟩
    · refine lv_iconst (v := nI 1) hx hb dX0_isSureOfAll_16 (by decide) ?_
      refine lv_goto (tgt := 21) hx hb dX0_isSureOfAll_17 (by decide) ?_
      exact hret _ _ _ _ _ _ hP hD hS dX0_isSureOfAll_21 zx_nar1 ⟨zx_b_t (by simp [c_4, c_13]), rfl⟩
set_option maxHeartbeats 4000000 in
set_option maxRecDepth 100000 in
theorem c_X0_allows (l : Launch) (D : va_G) (cI cB : ClassId) (r : Nat → Nat) (s : Nat → Nat) (a : Nat → Nat → Nat) (z : Nat → Int) (ah : Int) (x y : Nat) (h4 : s 34 < 128) (h5 : s 35 < 128) (h6 : s 36 < 128) (hx9 : x < 128) (hy9 : y < 128) : zx_C zx_ei l D (zm_t cI cB) (zy_w cI r) yX0_allows wsX0_allows rmX0_allows [.ref (r 30), .int (nI x), .int (nI y)] (s, a, z, ah) (fun v u' => v = zx_b (zy_al (s 34) (s 35) (s 36) x y) ∧ u' = (s, a, z, ah)) := by
  refine zx_of_z (cc := cX0_allows) (maxL := 3) (by decide) rfl (Nat.le_of_ble_eq_true rfl) ?_
  intro p e st m args below meth c A Q H cf hK hN hP hD hS hA hret ls hl
  obtain ⟨hx, hb, hml, hown, hts⟩ := id cf
  have hi0 : ∀ w ∈ wsX00, w ∈ wsX0_allows := fun w h => List.mem_cons_of_mem _ (List.mem_append_right _ h)
  have k45 := hts (.fieldLink RX0 45 "NineDrawers$Course" "stuck" "I") (List.mem_of_getElem? (i := 1) (by decide +kernel))
  have k35 := hts (.fieldLink RX0 35 "NineDrawers$Course" "canHold" "I") (List.mem_of_getElem? (i := 2) (by decide +kernel))
  have k38 := hts (.fieldLink RX0 38 "NineDrawers$Course" "canLack" "I") (List.mem_of_getElem? (i := 3) (by decide +kernel))
  have hl : lv_has ls 3 [(0, .ref (r 30)), (1, .int (nI x)), (2, .int (nI y))] := hl
  have hP : va_P D vwCl ((zy_w cI r) (s, a, z, ah)) H := hP
  have hD : va_D A ((zy_w cI r) (s, a, z, ah)) := hD
  refine lv_aload_n hx hb dX0_allows_0 rfl (lv_at hl 0 rfl) ?_
  refine va_get (D := D) (ci := 0) (v := .int (nI (s 36))) (C := RX0) (T := TX0) (N := 7) hx hb hts hi0 hown hK hP 17 rfl rfl 6 (by decide) k45 (fun _ h9 => h9) rfl dX0_allows_1 ?_
  refine zx_if_ne hx hb (tgt := 39) (by omega) dX0_allows_4 (by decide) (fun c_4 => ?_) (fun c_4 => ?_)
  · refine lv_iconst (v := nI 0) hx hb dX0_allows_39 (by decide) ?_
    exact hret _ _ _ _ _ _ hP hD hS dX0_allows_40 zx_nar0 ⟨zx_b_f (by unfold zy_al; simp [c_4]), rfl⟩
  · refine lv_iload_n hx hb dX0_allows_7 rfl (lv_at hl 1 rfl) ?_
    refine lv_iload_n hx hb dX0_allows_8 rfl (lv_at hl 2 rfl) ?_
    refine zx_iand hx hb dX0_allows_9 ?_
    refine zx_if_ne hx hb (tgt := 39) (zx_andlt (by omega)) dX0_allows_10 (by decide) (fun c_10 => ?_) (fun c_10 => ?_)
    · refine lv_iconst (v := nI 0) hx hb dX0_allows_39 (by decide) ?_
      exact hret _ _ _ _ _ _ hP hD hS dX0_allows_40 zx_nar0 ⟨zx_b_f (by unfold zy_al; simp [c_10]), rfl⟩
    · refine lv_iload_n hx hb dX0_allows_13 rfl (lv_at hl 1 rfl) ?_
      refine lv_aload_n hx hb dX0_allows_14 rfl (lv_at hl 0 rfl) ?_
      refine va_get (D := D) (ci := 0) (v := .int (nI (s 34))) (C := RX0) (T := TX0) (N := 7) hx hb hts hi0 hown hK hP 17 rfl rfl 4 (by decide) k35 (fun _ h9 => h9) rfl dX0_allows_15 ?_
      refine lv_iconst (v := (-1)) hx hb dX0_allows_18 (by decide) ?_
      refine lv_ixor hx hb dX0_allows_19 ?_
      refine lv_iand hx hb dX0_allows_20 ?_
      refine zx_topi (y := nI (x &&& (127 ^^^ s 34))) (zx_nand hx9 h4) ?_
      refine zx_if_ne hx hb (tgt := 39) (zx_andlt (by omega)) dX0_allows_21 (by decide) (fun c_21 => ?_) (fun c_21 => ?_)
      · refine lv_iconst (v := nI 0) hx hb dX0_allows_39 (by decide) ?_
        exact hret _ _ _ _ _ _ hP hD hS dX0_allows_40 zx_nar0 ⟨zx_b_f (by unfold zy_al; simp [c_21]), rfl⟩
      · refine lv_iload_n hx hb dX0_allows_24 rfl (lv_at hl 2 rfl) ?_
        refine lv_aload_n hx hb dX0_allows_25 rfl (lv_at hl 0 rfl) ?_
        refine va_get (D := D) (ci := 0) (v := .int (nI (s 35))) (C := RX0) (T := TX0) (N := 7) hx hb hts hi0 hown hK hP 17 rfl rfl 5 (by decide) k38 (fun _ h9 => h9) rfl dX0_allows_26 ?_
        refine lv_iconst (v := (-1)) hx hb dX0_allows_29 (by decide) ?_
        refine lv_ixor hx hb dX0_allows_30 ?_
        refine lv_iand hx hb dX0_allows_31 ?_
        refine zx_topi (y := nI (y &&& (127 ^^^ s 35))) (zx_nand hy9 h5) ?_
        refine zx_if_ne hx hb (tgt := 39) (zx_andlt (by omega)) dX0_allows_32 (by decide) (fun c_32 => ?_) (fun c_32 => ?_)
        · refine lv_iconst (v := nI 0) hx hb dX0_allows_39 (by decide) ?_
          exact hret _ _ _ _ _ _ hP hD hS dX0_allows_40 zx_nar0 ⟨zx_b_f (by unfold zy_al; simp [c_32]), rfl⟩
        · refine lv_iconst (v := nI 1) hx hb dX0_allows_35 (by decide) ?_
          refine lv_goto (tgt := 40) hx hb dX0_allows_36 (by decide) ?_
          exact hret _ _ _ _ _ _ hP hD hS dX0_allows_40 zx_nar1 ⟨zx_b_t (by unfold zy_al; simp [c_4, c_10, c_21, c_32]), rfl⟩
