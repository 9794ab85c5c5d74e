set_option maxHeartbeats 4000000 in
set_option maxRecDepth 100000 in
theorem c_X1_peopleOf (l : Launch) (D : va_G) (cI cB : ClassId) (r : Nat → Nat) (s : Nat → Nat) (a : Nat → Nat → Nat) (z : Nat → Int) (ah : Int) (d : Nat) (hI : zy_I s a z) (hd : d < 9) : zx_C zx_ei l D (zm_t cI cB) (zy_w cI r) yX1_peopleOf wsX1_peopleOf rmX1_peopleOf [.ref (r 10), .int (nI d)] (s, a, z, ah) (fun v u' => v = nI (zp_bits (fun p9 => decide (a 14 p9 = d)) (s 11)) ∧ u' = (s, a, z, ah)) := by
  refine zx_of_i (cc := cX1_peopleOf) (maxL := 4) (by decide) rfl (Nat.le_of_ble_eq_true rfl) ?_
  intro p e st m args below meth c A Q H cf hK hN hP hD hS hA hret ls hl
  obtain ⟨hx, hb, hml, hown, hts⟩ := id cf
  have hi1 : ∀ w ∈ wsX10, w ∈ wsX1_peopleOf := fun w h => List.mem_cons_of_mem _ (List.mem_append_right _ h)
  have k34 := hts (.fieldLink RX1 34 "NineDrawers$Hall" "people" "I") (List.mem_of_getElem? (i := 1) (by decide +kernel))
  have k15 := hts (.fieldLink RX1 15 "NineDrawers$Hall" "drawerOf" "[I") (List.mem_of_getElem? (i := 2) (by decide +kernel))
  have hl : lv_has ls 4 [(0, .ref (r 10)), (1, .int (nI d))] := hl
  have hP : va_P D vwCl ((zy_w cI r) (s, a, z, ah)) H := hP
  have hD : va_D A ((zy_w cI r) (s, a, z, ah)) := hD
  obtain ⟨⟨i1, i2, i5, i7, i8, i10, i11, i12⟩, ⟨i20, i21, i22⟩, iG, iP, iL, iZ, jP, jL⟩ := id hI
  refine lv_iconst (v := nI 0) hx hb dX1_peopleOf_0 (by decide) ?_
  refine lv_istore_n (lv' := [(2, .int (nI 0)), (0, .ref (r 10)), (1, .int (nI d))]) hx hb dX1_peopleOf_1 rfl hl (by decide) rfl (fun ls hl => ?_)
  refine lv_iconst (v := nI 0) hx hb dX1_peopleOf_2 (by decide) ?_
  refine lv_istore_n (lv' := [(3, .int (nI 0)), (2, .int (nI 0)), (0, .ref (r 10)), (1, .int (nI d))]) hx hb dX1_peopleOf_3 rfl hl (by decide) rfl (fun ls hl => ?_)
  have lp_4 : ∀ (n_ : Nat) (k : Nat), s 11 - k < n_ → (k ≤ s 11) → ∀ x1 : Int32, x1 = nI d → ∀ x2 : Int32, x2 = nI (zp_bits (fun p9 => decide (a 14 p9 = d)) k) → ∀ x3 : Int32, x3 = nI k → ∀ (H : Heap) (locs : List Loc), va_P D vwCl ((zy_w cI r) (s, a, z, ah)) H → va_D A ((zy_w cI r) (s, a, z, ah)) → va_S A st.heap H locs → ∀ ls : Array Slot, lv_has ls 4 [(0, .ref (r 10)), (1, .int x1), (2, .int x2), (3, .int x3)] → W p l e rmX1_peopleOf st m args below meth c H locs 0 0 Q (F0 m 4 ls []) := by
    intro n_
    induction n_ with
    | zero => intros; omega
    | succ n_ ih_4 =>
      intro k hmu_4 hk9
      intro x1 ex1; subst ex1
      intro x2 ex2; subst ex2
      intro x3 ex3; subst ex3
      intro H locs hP hD hS ls hl
      have hl : lv_has ls 4 [(0, .ref (r 10)), (1, .int (nI d)), (2, .int (nI (zp_bits (fun p9 => decide (a 14 p9 = d)) k))), (3, .int (nI k))] := hl
      refine lv_iload_n hx hb dX1_peopleOf_4 rfl (lv_at hl 3 rfl) ?_
      refine lv_aload_n hx hb dX1_peopleOf_5 rfl (lv_at hl 0 rfl) ?_
      refine va_get (D := D) (ci := 1) (v := .int (nI (s 11))) (C := RX1) (T := TX1) (N := 9) hx hb hts hi1 hown hK hP 3 rfl rfl 1 (by decide) k34 (fun _ h9 => h9) rfl dX1_peopleOf_6 ?_
      refine zx_icmp_ge hx hb (tgt := 34) (by omega) (by omega) dX1_peopleOf_9 (by decide) (fun c_9 => ?_) (fun c_9 => ?_)
      · refine lv_iload_n hx hb dX1_peopleOf_34 rfl (lv_at hl 2 rfl) ?_
        exact hret _ _ _ _ _ _ hP hD hS dX1_peopleOf_35 ⟨by rw [show k = s 11 by omega], rfl⟩
      · refine lv_aload_n hx hb dX1_peopleOf_12 rfl (lv_at hl 0 rfl) ?_
        refine va_get (D := D) (ci := 1) (v := .ref (r 14)) (C := RX1) (T := TX1) (N := 9) hx hb hts hi1 hown hK hP 3 rfl rfl 4 (by decide) k15 (fun _ h9 => h9) rfl dX1_peopleOf_13 ?_
        refine lv_iload_n hx hb dX1_peopleOf_16 rfl (lv_at hl 3 rfl) ?_
        refine zx_ald (f := a 14) (n := 6) hx hb hK hP 5 0 rfl rfl (by omega) (by decide) dX1_peopleOf_17 ?_
        refine lv_iload_n hx hb dX1_peopleOf_18 rfl (lv_at hl 1 rfl) ?_
        refine zx_icmp_ne hx hb (tgt := 28) (by have := (iP k (by omega)).2.1; omega) (by omega) dX1_peopleOf_19 (by decide) (fun c_19 => ?_) (fun c_19 => ?_)
        · refine lv_iinc (v := nI (k + 1)) (lv' := [(3, .int (nI (k + 1))), (0, .ref (r 10)), (1, .int (nI d)), (2, .int (nI (zp_bits (fun p9 => decide (a 14 p9 = d)) k)))]) hx hb dX1_peopleOf_28 hl (k := 3) rfl (zx_inc _ _) (by decide) rfl (fun ls hl => ?_)
          refine lv_goto (tgt := 4) hx hb dX1_peopleOf_31 (by decide) ?_
          exact ih_4 (k + 1) (by omega) (by omega) _ rfl _ (zp_bitsFF (f := (fun p9 => decide (a 14 p9 = d))) (decide_eq_false c_19)) _ rfl _ _ hP hD hS ls (lv_sub hl [1, 2, 3, 0] rfl)
        · refine lv_iload_n hx hb dX1_peopleOf_22 rfl (lv_at hl 2 rfl) ?_
          refine lv_iconst (v := nI 1) hx hb dX1_peopleOf_23 (by decide) ?_
          refine lv_iload_n hx hb dX1_peopleOf_24 rfl (lv_at hl 3 rfl) ?_
          refine zx_ishl1 hx hb (by omega) dX1_peopleOf_25 ?_
          refine zx_ior hx hb dX1_peopleOf_26 ?_
          refine lv_istore_n (lv' := [(2, .int (nI ((zp_bits (fun p9 => decide (a 14 p9 = d)) k) ||| (2 ^ k)))), (0, .ref (r 10)), (1, .int (nI d)), (3, .int (nI k))]) hx hb dX1_peopleOf_27 rfl hl (by decide) rfl (fun ls hl => ?_)
          refine lv_iinc (v := nI (k + 1)) (lv' := [(3, .int (nI (k + 1))), (2, .int (nI ((zp_bits (fun p9 => decide (a 14 p9 = d)) k) ||| (2 ^ k)))), (0, .ref (r 10)), (1, .int (nI d))]) hx hb dX1_peopleOf_28 hl (k := 3) rfl (zx_inc _ _) (by decide) rfl (fun ls hl => ?_)
          refine lv_goto (tgt := 4) hx hb dX1_peopleOf_31 (by decide) ?_
          exact ih_4 (k + 1) (by omega) (by omega) _ rfl _ (zp_bitsT (f := (fun p9 => decide (a 14 p9 = d))) (decide_eq_true c_19)) _ rfl _ _ hP hD hS ls (lv_sub hl [2, 3, 1, 0] rfl)
  exact lp_4 _ 0 (Nat.lt_succ_self _) (Nat.zero_le _) _ rfl _ rfl _ rfl _ _ hP hD hS ls (lv_sub hl [2, 3, 1, 0] rfl)
set_option maxHeartbeats 4000000 in
set_option maxRecDepth 100000 in
theorem c_X1_thingsLaid (l : Launch) (D : va_G) (cI cB : ClassId) (r : Nat → Nat) (s : Nat → Nat) (a : Nat → Nat → Nat) (z : Nat → Int) (ah : Int) (hI : zy_I s a z) : zx_C zx_ei l D (zm_t cI cB) (zy_w cI r) yX1_thingsLaid wsX1_thingsLaid rmX1_thingsLaid [.ref (r 10)] (s, a, z, ah) (fun v u' => v = nI (zp_sum (fun d9 => zp_pc (a 16 d9)) 9) ∧ u' = (s, a, z, ah)) := by
  refine zx_of_i (cc := cX1_thingsLaid) (maxL := 3) (by decide) rfl (Nat.le_of_ble_eq_true rfl) ?_
  intro p e st m args below meth c A Q H cf hK hN hP hD hS hA hret ls hl
  obtain ⟨hx, hb, hml, hown, hts⟩ := id cf
  have hi1 : ∀ w ∈ wsX10, w ∈ wsX1_thingsLaid := fun w h => List.mem_cons_of_mem _ (List.mem_append_right _ h)
  have k21 := hts (.fieldLink RX1 21 "NineDrawers$Hall" "laidIn" "[I") (List.mem_of_getElem? (i := 1) (by decide +kernel))
  have hl : lv_has ls 3 [(0, .ref (r 10))] := hl
  have hP : va_P D vwCl ((zy_w cI r) (s, a, z, ah)) H := hP
  have hD : va_D A ((zy_w cI r) (s, a, z, ah)) := hD
  obtain ⟨⟨i1, i2, i5, i7, i8, i10, i11, i12⟩, ⟨i20, i21, i22⟩, iG, iP, iL, iZ, jP, jL⟩ := id hI
  refine lv_iconst (v := nI 0) hx hb dX1_thingsLaid_0 (by decide) ?_
  refine lv_istore_n (lv' := [(1, .int (nI 0)), (0, .ref (r 10))]) hx hb dX1_thingsLaid_1 rfl hl (by decide) rfl (fun ls hl => ?_)
  refine lv_iconst (v := nI 0) hx hb dX1_thingsLaid_2 (by decide) ?_
  refine lv_istore_n (lv' := [(2, .int (nI 0)), (1, .int (nI 0)), (0, .ref (r 10))]) hx hb dX1_thingsLaid_3 rfl hl (by decide) rfl (fun ls hl => ?_)
  have lp_4 : ∀ (n_ : Nat) (i : Nat), 9 - i < n_ → (i ≤ 9) → ∀ x1 : Int32, x1 = nI (zp_sum (fun d9 => zp_pc (a 16 d9)) i) → ∀ x2 : Int32, x2 = nI i → ∀ (H : Heap) (locs : List Loc), va_P D vwCl ((zy_w cI r) (s, a, z, ah)) H → va_D A ((zy_w cI r) (s, a, z, ah)) → va_S A st.heap H locs → ∀ ls : Array Slot, lv_has ls 3 [(0, .ref (r 10)), (1, .int x1), (2, .int x2)] → W p l e rmX1_thingsLaid st m args below meth c H locs 0 0 Q (F0 m 4 ls []) := by
    intro n_
    induction n_ with
    | zero => intros; omega
    | succ n_ ih_4 =>
      intro i hmu_4 hi9
      intro x1 ex1; subst ex1
      intro x2 ex2; subst ex2
      intro H locs hP hD hS ls hl
      have hl : lv_has ls 3 [(0, .ref (r 10)), (1, .int (nI (zp_sum (fun d9 => zp_pc (a 16 d9)) i))), (2, .int (nI i))] := hl
      refine lv_iload_n hx hb dX1_thingsLaid_4 rfl (lv_at hl 2 rfl) ?_
      refine lv_bipush (v := nI 9) hx hb dX1_thingsLaid_5 (by decide) ?_
      refine zx_icmp_ge hx hb (tgt := 28) (by omega) (by omega) dX1_thingsLaid_7 (by decide) (fun c_7 => ?_) (fun c_7 => ?_)
      · refine lv_iload_n hx hb dX1_thingsLaid_28 rfl (lv_at hl 1 rfl) ?_
        exact hret _ _ _ _ _ _ hP hD hS dX1_thingsLaid_29 ⟨by rw [show i = 9 by omega], rfl⟩
      · refine lv_iload_n hx hb dX1_thingsLaid_10 rfl (lv_at hl 1 rfl) ?_
        refine lv_aload_n hx hb dX1_thingsLaid_11 rfl (lv_at hl 0 rfl) ?_
        refine va_get (D := D) (ci := 1) (v := .ref (r 16)) (C := RX1) (T := TX1) (N := 9) hx hb hts hi1 hown hK hP 3 rfl rfl 6 (by decide) k21 (fun _ h9 => h9) rfl dX1_thingsLaid_12 ?_
        refine lv_iload_n hx hb dX1_thingsLaid_15 rfl (lv_at hl 2 rfl) ?_
        refine zx_ald (f := a 16) (n := 9) hx hb hK hP 7 0 rfl rfl (by omega) (by decide) dX1_thingsLaid_16 ?_
        refine zx_S (As := [.int (nI ((a 16) i))]) (rest := [.int (nI (zp_sum (fun d9 => zp_pc (a 16 d9)) i))]) cf (c_J6_bitCount_0f7a4 l D ((a 16) i) (by have := (iL i (by omega)).1; omega)) (va_cwS 1 hts gX1_thingsLaid_J6_bitCount_0f7a4 rfl rfl rfl hd_J6_bitCount_0f7a4 ⟨Nat.le_of_ble_eq_true rfl, Nat.le_of_ble_eq_true rfl⟩) hK hN hP hS hA rfl hl.1 rfl (Nat.le_of_ble_eq_true rfl) dX1_thingsLaid_17 ⟨Nat.zero_le _, Nat.zero_le _⟩ (fun H locs hP hS => ?_)
        refine zx_iadd hx hb dX1_thingsLaid_20 ?_
        refine lv_istore_n (lv' := [(1, .int (nI ((zp_sum (fun d9 => zp_pc (a 16 d9)) i) + (zp_pc ((a 16) i))))), (0, .ref (r 10)), (2, .int (nI i))]) hx hb dX1_thingsLaid_21 rfl hl (by decide) rfl (fun ls hl => ?_)
        refine lv_iinc (v := nI (i + 1)) (lv' := [(2, .int (nI (i + 1))), (1, .int (nI ((zp_sum (fun d9 => zp_pc (a 16 d9)) i) + (zp_pc ((a 16) i))))), (0, .ref (r 10))]) hx hb dX1_thingsLaid_22 hl (k := 2) rfl (zx_inc _ _) (by decide) rfl (fun ls hl => ?_)
        refine lv_goto (tgt := 4) hx hb dX1_thingsLaid_25 (by decide) ?_
        exact ih_4 (i + 1) (by omega) (by omega) _ rfl _ rfl _ _ hP hD hS ls (lv_sub hl [2, 1, 0] rfl)
  exact lp_4 _ 0 (Nat.lt_succ_self _) (Nat.zero_le _) _ rfl _ rfl _ _ hP hD hS ls (lv_sub hl [2, 1, 0] rfl)
set_option maxHeartbeats 4000000 in
set_option maxRecDepth 100000 in
theorem c_X1_clearFound (l : Launch) (D : va_G) (cI cB : ClassId) (r : Nat → Nat) (s : Nat → Nat) (a : Nat → Nat → Nat) (z : Nat → Int) (ah : Int)  : zx_C zx_ev l D (zm_t cI cB) (zy_w cI r) yX1_clearFound wsX1_clearFound rmX1_clearFound [.ref (r 10)] (s, a, z, ah) (fun _ u' => ∃ b : Nat → Nat → Nat, u' = (zx_up s 12 0, b, z, ah) ∧ (∀ j, j < 9 → b 17 j = 0) ∧ (∀ j, j < 9 → b 18 j = 0) ∧ (∀ k, k ≠ 17 → k ≠ 18 → b k = a k)) := by
  refine zx_of_v (cc := cX1_clearFound) (maxL := 2) (by decide) rfl (Nat.le_of_ble_eq_true rfl) ?_
  intro p e st m args below meth c A Q H cf hK hN hP hD hS hA hret ls hl
  obtain ⟨hx, hb, hml, hown, hts⟩ := id cf
  have hi1 : ∀ w ∈ wsX10, w ∈ wsX1_clearFound := fun w h => List.mem_cons_of_mem _ (List.mem_append_right _ h)
  have k40 := hts (.fieldLink RX1 40 "NineDrawers$Hall" "timesFound" "I") (List.mem_of_getElem? (i := 1) (by decide +kernel))
  have k24 := hts (.fieldLink RX1 24 "NineDrawers$Hall" "foundThere" "[I") (List.mem_of_getElem? (i := 2) (by decide +kernel))
  have k27 := hts (.fieldLink RX1 27 "NineDrawers$Hall" "foundEmpty" "[I") (List.mem_of_getElem? (i := 3) (by decide +kernel))
  have hl : lv_has ls 2 [(0, .ref (r 10))] := hl
  have hP : va_P D vwCl ((zy_w cI r) (s, a, z, ah)) H := hP
  have hD : va_D A ((zy_w cI r) (s, a, z, ah)) := hD
  refine lv_aload_n hx hb dX1_clearFound_0 rfl (lv_at hl 0 rfl) ?_
  refine lv_iconst (v := nI 0) hx hb dX1_clearFound_1 (by decide) ?_
  refine zx_put (D := D) (ci := 1) (ty := .int) (v := .int (nI 0)) (ws' := (zy_w cI r) ((zx_up s 12 0), a, z, ah)) (C := RX1) (T := TX1) (N := 9) hx hb hts hi1 tyX1 tyX1_ok nmX1 hown hK hP hD hS 3 rfl rfl 2 (by decide) k40 (fun _ h9 => h9) rfl (by decide +kernel) rfl rfl (Nat.le_of_ble_eq_true rfl) rfl dX1_clearFound_2 (fun H locs hP hD hS => ?_)
  refine lv_iconst (v := nI 0) hx hb dX1_clearFound_5 (by decide) ?_
  refine lv_istore_n (lv' := [(1, .int (nI 0)), (0, .ref (r 10))]) hx hb dX1_clearFound_6 rfl hl (by decide) rfl (fun ls hl => ?_)
  have lp_7 : ∀ (n_ : Nat) (i : Nat) (b : Nat → Nat → Nat), 9 - i < n_ → (i ≤ 9) → (∀ j, j < i → b 17 j = 0) → (∀ j, j < i → b 18 j = 0) → (∀ k, k ≠ 17 → k ≠ 18 → b k = a k) → ∀ x1 : Int32, x1 = nI i → ∀ (H : Heap) (locs : List Loc), va_P D vwCl ((zy_w cI r) ((zx_up s 12 0), b, z, ah)) H → va_D A ((zy_w cI r) ((zx_up s 12 0), b, z, ah)) → va_S A st.heap H locs → ∀ ls : Array Slot, lv_has ls 2 [(0, .ref (r 10)), (1, .int x1)] → W p l e rmX1_clearFound st m args below meth c H locs 0 0 Q (F0 m 7 ls []) := by
    intro n_
    induction n_ with
    | zero => intros; omega
    | succ n_ ih_7 =>
      intro i b hmu_7 hi9 g17 g18 gk
      intro x1 ex1; subst ex1
      intro H locs hP hD hS ls hl
      have hl : lv_has ls 2 [(0, .ref (r 10)), (1, .int (nI i))] := hl
      refine lv_iload_n hx hb dX1_clearFound_7 rfl (lv_at hl 1 rfl) ?_
      refine lv_bipush (v := nI 9) hx hb dX1_clearFound_8 (by decide) ?_
      refine zx_icmp_ge hx hb (tgt := 33) (by omega) (by omega) dX1_clearFound_10 (by decide) (fun c_10 => ?_) (fun c_10 => ?_)
      · exact hret _ _ _ _ _ hP hD hS dX1_clearFound_33 ⟨b, rfl, fun j hj => g17 j (by omega), fun j hj => g18 j (by omega), gk⟩
      · refine lv_aload_n hx hb dX1_clearFound_13 rfl (lv_at hl 0 rfl) ?_
        refine va_get (D := D) (ci := 1) (v := .ref (r 17)) (C := RX1) (T := TX1) (N := 9) hx hb hts hi1 hown hK hP 3 rfl rfl 7 (by decide) k24 (fun _ h9 => h9) rfl dX1_clearFound_14 ?_
        refine lv_iload_n hx hb dX1_clearFound_17 rfl (lv_at hl 1 rfl) ?_
        refine lv_iconst (v := nI 0) hx hb dX1_clearFound_18 (by decide) ?_
        refine zx_ast (f := b 17) (n := 9) (ws' := (zy_w cI r) ((zx_up s 12 0), (zx_up b 17 (zx_up (b 17) i 0)), z, ah)) hx hb hK hP hD hS 8 0 rfl rfl (by omega) (by decide) rfl dX1_clearFound_19 (fun H locs hP hD hS => ?_)
        refine lv_aload_n hx hb dX1_clearFound_20 rfl (lv_at hl 0 rfl) ?_
        refine va_get (D := D) (ci := 1) (v := .ref (r 18)) (C := RX1) (T := TX1) (N := 9) hx hb hts hi1 hown hK hP 3 rfl rfl 8 (by decide) k27 (fun _ h9 => h9) rfl dX1_clearFound_21 ?_
        refine lv_iload_n hx hb dX1_clearFound_24 rfl (lv_at hl 1 rfl) ?_
        refine lv_iconst (v := nI 0) hx hb dX1_clearFound_25 (by decide) ?_
        refine zx_ast (f := b 18) (n := 9) (ws' := (zy_w cI r) ((zx_up s 12 0), (zx_up (zx_up b 17 (zx_up (b 17) i 0)) 18 (zx_up (b 18) i 0)), z, ah)) hx hb hK hP hD hS 9 0 rfl rfl (by omega) (by decide) rfl dX1_clearFound_26 (fun H locs hP hD hS => ?_)
        refine lv_iinc (v := nI (i + 1)) (lv' := [(1, .int (nI (i + 1))), (0, .ref (r 10))]) hx hb dX1_clearFound_27 hl (k := 1) rfl (zx_inc _ _) (by decide) rfl (fun ls hl => ?_)
        refine lv_goto (tgt := 7) hx hb dX1_clearFound_30 (by decide) ?_
        exact ih_7 (i + 1) (zx_up (zx_up b 17 (zx_up (b 17) i 0)) 18 (zx_up (b 18) i 0)) (by omega) (by omega) (zp_upN (y := b 17) (g := fun _ => 0) rfl g17) (zp_upN (y := b 18) (g := fun _ => 0) rfl g18) (fun k h17 h18 => (zx_up_ne _ _ h18).trans ((zx_up_ne _ _ h17).trans (gk k h17 h18))) _ rfl _ _ hP hD hS ls (lv_sub hl [1, 0] rfl)
  exact lp_7 _ 0 a (Nat.lt_succ_self _) (Nat.zero_le _) (fun j hj => absurd hj (Nat.not_lt_zero j)) (fun j hj => absurd hj (Nat.not_lt_zero j)) (fun _ _ _ => rfl) _ rfl _ _ hP hD hS ls (lv_sub hl [1, 0] rfl)
set_option maxHeartbeats 4000000 in
set_option maxRecDepth 100000 in
theorem c_X1_clear (l : Launch) (D : va_G) (cI cB : ClassId) (r : Nat → Nat) (s : Nat → Nat) (a : Nat → Nat → Nat) (z : Nat → Int) (ah : Int) (q : Nat)  : zx_C zx_ev l D (zm_t cI cB) (zy_w cI r) yX1_clear wsX1_clear rmX1_clear [.ref (r 10), .int (nI q)] (s, a, z, ah) (fun _ u' => ∃ b : Nat → Nat → Nat, u' = (zx_up (zx_up (zx_up s 10 q) 11 0) 12 0, b, z, ah) ∧ (∀ j, j < 9 → b 16 j = 0) ∧ (∀ j, j < 9 → b 17 j = 0) ∧ (∀ j, j < 9 → b 18 j = 0) ∧ (∀ k, k ≠ 16 → k ≠ 17 → k ≠ 18 → b k = a k)) := by
  refine zx_of_v (cc := cX1_clear) (maxL := 3) (by decide) rfl (Nat.le_of_ble_eq_true rfl) ?_
  intro p e st m args below meth c A Q H cf hK hN hP hD hS hA hret ls hl
  obtain ⟨hx, hb, hml, hown, hts⟩ := id cf
  have hi1 : ∀ w ∈ wsX10, w ∈ wsX1_clear := fun w h => List.mem_cons_of_mem _ (List.mem_append_right _ h)
  have k30 := hts (.fieldLink RX1 30 "NineDrawers$Hall" "facing" "I") (List.mem_of_getElem? (i := 1) (by decide +kernel))
  have k34 := hts (.fieldLink RX1 34 "NineDrawers$Hall" "people" "I") (List.mem_of_getElem? (i := 2) (by decide +kernel))
  have k21 := hts (.fieldLink RX1 21 "NineDrawers$Hall" "laidIn" "[I") (List.mem_of_getElem? (i := 3) (by decide +kernel))
  have hl : lv_has ls 3 [(0, .ref (r 10)), (1, .int (nI q))] := hl
  have hP : va_P D vwCl ((zy_w cI r) (s, a, z, ah)) H := hP
  have hD : va_D A ((zy_w cI r) (s, a, z, ah)) := hD
  refine lv_aload_n hx hb dX1_clear_0 rfl (lv_at hl 0 rfl) ?_
  refine lv_iload_n hx hb dX1_clear_1 rfl (lv_at hl 1 rfl) ?_
  refine zx_put (D := D) (ci := 1) (ty := .int) (v := .int (nI q)) (ws' := (zy_w cI r) ((zx_up s 10 q), a, z, ah)) (C := RX1) (T := TX1) (N := 9) hx hb hts hi1 tyX1 tyX1_ok nmX1 hown hK hP hD hS 3 rfl rfl 0 (by decide) k30 (fun _ h9 => h9) rfl (by decide +kernel) rfl rfl (Nat.le_of_ble_eq_true rfl) rfl dX1_clear_2 (fun H locs hP hD hS => ?_)
  refine lv_aload_n hx hb dX1_clear_5 rfl (lv_at hl 0 rfl) ?_
  refine lv_iconst (v := nI 0) hx hb dX1_clear_6 (by decide) ?_
  refine zx_put (D := D) (ci := 1) (ty := .int) (v := .int (nI 0)) (ws' := (zy_w cI r) ((zx_up (zx_up s 10 q) 11 0), a, z, ah)) (C := RX1) (T := TX1) (N := 9) hx hb hts hi1 tyX1 tyX1_ok nmX1 hown hK hP hD hS 3 rfl rfl 1 (by decide) k34 (fun _ h9 => h9) rfl (by decide +kernel) rfl rfl (Nat.le_of_ble_eq_true rfl) rfl dX1_clear_7 (fun H locs hP hD hS => ?_)
  refine lv_iconst (v := nI 0) hx hb dX1_clear_10 (by decide) ?_
  refine lv_istore_n (lv' := [(2, .int (nI 0)), (0, .ref (r 10)), (1, .int (nI q))]) hx hb dX1_clear_11 rfl hl (by decide) rfl (fun ls hl => ?_)
  have lp_12 : ∀ (n_ : Nat) (i : Nat) (b : Nat → Nat → Nat), 9 - i < n_ → (i ≤ 9) → (∀ j, j < i → b 16 j = 0) → (∀ k, k ≠ 16 → b k = a k) → ∀ x1 : Int32, x1 = nI q → ∀ x2 : Int32, x2 = nI i → ∀ (H : Heap) (locs : List Loc), va_P D vwCl ((zy_w cI r) ((zx_up (zx_up s 10 q) 11 0), b, z, ah)) H → va_D A ((zy_w cI r) ((zx_up (zx_up s 10 q) 11 0), b, z, ah)) → va_S A st.heap H locs → ∀ ls : Array Slot, lv_has ls 3 [(0, .ref (r 10)), (1, .int x1), (2, .int x2)] → W p l e rmX1_clear st m args below meth c H locs 0 0 Q (F0 m 12 ls []) := by
    intro n_
    induction n_ with
    | zero => intros; omega
    | succ n_ ih_12 =>
      intro i b hmu_12 hi9 g16 gk
      intro x1 ex1; subst ex1
      intro x2 ex2; subst ex2
      intro H locs hP hD hS ls hl
      have hl : lv_has ls 3 [(0, .ref (r 10)), (1, .int (nI q)), (2, .int (nI i))] := hl
      refine lv_iload_n hx hb dX1_clear_12 rfl (lv_at hl 2 rfl) ?_
      refine lv_bipush (v := nI 9) hx hb dX1_clear_13 (by decide) ?_
      refine zx_icmp_ge hx hb (tgt := 31) (by omega) (by omega) dX1_clear_15 (by decide) (fun c_15 => ?_) (fun c_15 => ?_)
      · refine lv_aload_n hx hb dX1_clear_31 rfl (lv_at hl 0 rfl) ?_
        refine zx_V_v (As := []) (rest := []) cf (c_X1_clearFound l D cI cB r (zx_up (zx_up s 10 q) 11 0) b z ah) (cwV 0 hts gX1_clear_X1_clearFound rfl rfl rfl ⟨rfl, hd_X1_clearFound⟩ ⟨Nat.le_of_ble_eq_true rfl, Nat.le_of_ble_eq_true rfl⟩) hK hN hP hD hS hA 3 rfl rfl rfl hl.1 rfl (Nat.le_of_ble_eq_true rfl) dX1_clear_32 ⟨Nat.zero_le _, Nat.zero_le _⟩ (fun v_32 u_32 H locs hq hP hD hS => ?_)
        obtain ⟨b_32, rfl, h17_32, h18_32, hk_32⟩ := hq
        exact hret _ _ _ _ _ hP hD hS dX1_clear_35 ⟨b_32, rfl, fun j hj => (congrFun (hk_32 16 (by decide) (by decide)) j).trans (g16 j (by omega)), h17_32, h18_32, fun k h16 h17 h18 => (hk_32 k h17 h18).trans (gk k h16)⟩
      · refine lv_aload_n hx hb dX1_clear_18 rfl (lv_at hl 0 rfl) ?_
        refine va_get (D := D) (ci := 1) (v := .ref (r 16)) (C := RX1) (T := TX1) (N := 9) hx hb hts hi1 hown hK hP 3 rfl rfl 6 (by decide) k21 (fun _ h9 => h9) rfl dX1_clear_19 ?_
        refine lv_iload_n hx hb dX1_clear_22 rfl (lv_at hl 2 rfl) ?_
        refine lv_iconst (v := nI 0) hx hb dX1_clear_23 (by decide) ?_
        refine zx_ast (f := b 16) (n := 9) (ws' := (zy_w cI r) ((zx_up (zx_up s 10 q) 11 0), (zx_up b 16 (zx_up (b 16) i 0)), z, ah)) hx hb hK hP hD hS 7 0 rfl rfl (by omega) (by decide) rfl dX1_clear_24 (fun H locs hP hD hS => ?_)
        refine lv_iinc (v := nI (i + 1)) (lv' := [(2, .int (nI (i + 1))), (0, .ref (r 10)), (1, .int (nI q))]) hx hb dX1_clear_25 hl (k := 2) rfl (zx_inc _ _) (by decide) rfl (fun ls hl => ?_)
        refine lv_goto (tgt := 12) hx hb dX1_clear_28 (by decide) ?_
        exact ih_12 (i + 1) (zx_up b 16 (zx_up (b 16) i 0)) (by omega) (by omega) (zp_upN (y := b 16) (g := fun _ => 0) rfl g16) (fun k h16 => (zx_up_ne _ _ h16).trans (gk k h16)) _ rfl _ rfl _ _ hP hD hS ls (lv_sub hl [1, 2, 0] rfl)
  exact lp_12 _ 0 a (Nat.lt_succ_self _) (Nat.zero_le _) (fun j hj => absurd hj (Nat.not_lt_zero j)) (fun _ _ => rfl) _ rfl _ rfl _ _ hP hD hS ls (lv_sub hl [1, 2, 0] rfl)
set_option maxHeartbeats 4000000 in
set_option maxRecDepth 100000 in
theorem c_X1_take_k (l : Launch) (D : va_G) (cI cB : ClassId) (r : Nat → Nat) (s : Nat → Nat) (a : Nat → Nat → Nat) (z : Nat → Int) (ah : Int)  : zx_C zx_ev l D (zm_t cI cB) (zy_w cI r) yX1_takeFrom wsX1_takeFrom rmX1_takeFrom [.ref (r 20), .ref (r 10)] (s, a, z, ah) (fun _ u' => ∃ b : Nat → Nat → Nat, u' = ((zx_up (zx_up (zx_up s 20 (s 10)) 21 (s 11)) 22 (s 12)), b, z, ah) ∧ (∀ j, j < 6 → b 23 j = a 13 j) ∧ (∀ j, j < 6 → b 24 j = a 14 j) ∧ (∀ j, j < 6 → b 25 j = a 15 j) ∧ (∀ j, j < 9 → b 26 j = a 16 j) ∧ (∀ j, j < 9 → b 27 j = a 17 j) ∧ (∀ j, j < 9 → b 28 j = a 18 j) ∧ (∀ k, k ≠ 23 → k ≠ 24 → k ≠ 25 → k ≠ 26 → k ≠ 27 → k ≠ 28 → b k = a k)) := by
  refine zx_of_v (cc := cX1_takeFrom) (maxL := 3) (by decide) rfl (Nat.le_of_ble_eq_true rfl) ?_
  intro p e st m args below meth c A Q H cf hK hN hP hD hS hA hret ls hl
  obtain ⟨hx, hb, hml, hown, hts⟩ := id cf
  have hi1 : ∀ w ∈ wsX10, w ∈ wsX1_takeFrom := fun w h => List.mem_cons_of_mem _ (List.mem_append_right _ h)
  have k30 := hts (.fieldLink RX1 30 "NineDrawers$Hall" "facing" "I") (List.mem_of_getElem? (i := 1) (by decide +kernel))
  have k34 := hts (.fieldLink RX1 34 "NineDrawers$Hall" "people" "I") (List.mem_of_getElem? (i := 2) (by decide +kernel))
  have k40 := hts (.fieldLink RX1 40 "NineDrawers$Hall" "timesFound" "I") (List.mem_of_getElem? (i := 3) (by decide +kernel))
  have k21 := hts (.fieldLink RX1 21 "NineDrawers$Hall" "laidIn" "[I") (List.mem_of_getElem? (i := 7) (by decide +kernel))
  have k24 := hts (.fieldLink RX1 24 "NineDrawers$Hall" "foundThere" "[I") (List.mem_of_getElem? (i := 8) (by decide +kernel))
  have k27 := hts (.fieldLink RX1 27 "NineDrawers$Hall" "foundEmpty" "[I") (List.mem_of_getElem? (i := 9) (by decide +kernel))
  have k9 := hts (.fieldLink RX1 9 "NineDrawers$Hall" "kindOf" "[I") (List.mem_of_getElem? (i := 4) (by decide +kernel))
  have k15 := hts (.fieldLink RX1 15 "NineDrawers$Hall" "drawerOf" "[I") (List.mem_of_getElem? (i := 5) (by decide +kernel))
  have k18 := hts (.fieldLink RX1 18 "NineDrawers$Hall" "ownDayOf" "[I") (List.mem_of_getElem? (i := 6) (by decide +kernel))
  have hl : lv_has ls 3 [(0, .ref (r 20)), (1, .ref (r 10))] := hl
  have hP : va_P D vwCl ((zy_w cI r) (s, a, z, ah)) H := hP
  have hD : va_D A ((zy_w cI r) (s, a, z, ah)) := hD
  refine lv_aload_n hx hb dX1_takeFrom_0 rfl (lv_at hl 0 rfl) ?_
  refine lv_aload_n hx hb dX1_takeFrom_1 rfl (lv_at hl 1 rfl) ?_
  refine va_get (D := D) (ci := 1) (v := .int (nI (s 10))) (C := RX1) (T := TX1) (N := 9) hx hb hts hi1 hown hK hP 3 rfl rfl 0 (by decide) k30 (fun _ h9 => h9) rfl dX1_takeFrom_2 ?_
  refine zx_put (D := D) (ci := 1) (ty := .int) (v := .int (nI (s 10))) (ws' := (zy_w cI r) ((zx_up s 20 (s 10)), a, z, ah)) (C := RX1) (T := TX1) (N := 9) hx hb hts hi1 tyX1 tyX1_ok nmX1 hown hK hP hD hS 10 rfl rfl 0 (by decide) k30 (fun _ h9 => h9) rfl (by decide +kernel) rfl rfl (Nat.le_of_ble_eq_true rfl) rfl dX1_takeFrom_5 (fun H locs hP hD hS => ?_)
  refine lv_aload_n hx hb dX1_takeFrom_8 rfl (lv_at hl 0 rfl) ?_
  refine lv_aload_n hx hb dX1_takeFrom_9 rfl (lv_at hl 1 rfl) ?_
  refine va_get (D := D) (ci := 1) (v := .int (nI (s 11))) (C := RX1) (T := TX1) (N := 9) hx hb hts hi1 hown hK hP 3 rfl rfl 1 (by decide) k34 (fun _ h9 => h9) rfl dX1_takeFrom_10 ?_
  refine zx_put (D := D) (ci := 1) (ty := .int) (v := .int (nI (s 11))) (ws' := (zy_w cI r) ((zx_up (zx_up s 20 (s 10)) 21 (s 11)), a, z, ah)) (C := RX1) (T := TX1) (N := 9) hx hb hts hi1 tyX1 tyX1_ok nmX1 hown hK hP hD hS 10 rfl rfl 1 (by decide) k34 (fun _ h9 => h9) rfl (by decide +kernel) rfl rfl (Nat.le_of_ble_eq_true rfl) rfl dX1_takeFrom_13 (fun H locs hP hD hS => ?_)
  refine lv_aload_n hx hb dX1_takeFrom_16 rfl (lv_at hl 0 rfl) ?_
  refine lv_aload_n hx hb dX1_takeFrom_17 rfl (lv_at hl 1 rfl) ?_
  refine va_get (D := D) (ci := 1) (v := .int (nI (s 12))) (C := RX1) (T := TX1) (N := 9) hx hb hts hi1 hown hK hP 3 rfl rfl 2 (by decide) k40 (fun _ h9 => h9) rfl dX1_takeFrom_18 ?_
  refine zx_put (D := D) (ci := 1) (ty := .int) (v := .int (nI (s 12))) (ws' := (zy_w cI r) ((zx_up (zx_up (zx_up s 20 (s 10)) 21 (s 11)) 22 (s 12)), a, z, ah)) (C := RX1) (T := TX1) (N := 9) hx hb hts hi1 tyX1 tyX1_ok nmX1 hown hK hP hD hS 10 rfl rfl 2 (by decide) k40 (fun _ h9 => h9) rfl (by decide +kernel) rfl rfl (Nat.le_of_ble_eq_true rfl) rfl dX1_takeFrom_21 (fun H locs hP hD hS => ?_)
  refine lv_iconst (v := nI 0) hx hb dX1_takeFrom_24 (by decide) ?_
  refine lv_istore_n (lv' := [(2, .int (nI 0)), (0, .ref (r 20)), (1, .ref (r 10))]) hx hb dX1_takeFrom_25 rfl hl (by decide) rfl (fun ls hl => ?_)
  have lp_26 : ∀ (n_ : Nat) (i : Nat) (b : Nat → Nat → Nat), 6 - i < n_ → (i ≤ 6) → (∀ j, j < i → b 23 j = a 13 j) → (∀ j, j < i → b 24 j = a 14 j) → (∀ j, j < i → b 25 j = a 15 j) → (∀ k, k ≠ 23 → k ≠ 24 → k ≠ 25 → b k = a k) → ∀ x2 : Int32, x2 = nI i → ∀ (H : Heap) (locs : List Loc), va_P D vwCl ((zy_w cI r) ((zx_up (zx_up (zx_up s 20 (s 10)) 21 (s 11)) 22 (s 12)), b, z, ah)) H → va_D A ((zy_w cI r) ((zx_up (zx_up (zx_up s 20 (s 10)) 21 (s 11)) 22 (s 12)), b, z, ah)) → va_S A st.heap H locs → ∀ ls : Array Slot, lv_has ls 3 [(0, .ref (r 20)), (1, .ref (r 10)), (2, .int x2)] → W p l e rmX1_takeFrom st m args below meth c H locs 0 0 Q (F0 m 26 ls []) := by
    intro n_
    induction n_ with
    | zero => intros; omega
    | succ n_ ih_26 =>
      intro i b hmu_26 hi9 g23 g24 g25 gk
      intro x2 ex2; subst ex2
      intro H locs hP hD hS ls hl
      have hl : lv_has ls 3 [(0, .ref (r 20)), (1, .ref (r 10)), (2, .int (nI i))] := hl
      refine lv_iload_n hx hb dX1_takeFrom_26 rfl (lv_at hl 2 rfl) ?_
      refine lv_bipush (v := nI 6) hx hb dX1_takeFrom_27 (by decide) ?_
      refine zx_icmp_ge hx hb (tgt := 74) (by omega) (by omega) dX1_takeFrom_29 (by decide) (fun c_29 => ?_) (fun c_29 => ?_)
      · refine lv_iconst (v := nI 0) hx hb dX1_takeFrom_74 (by decide) ?_
        refine lv_istore_n (lv' := [(2, .int (nI 0)), (0, .ref (r 20)), (1, .ref (r 10))]) hx hb dX1_takeFrom_75 rfl hl (by decide) rfl (fun ls hl => ?_)
        have lp_76 : ∀ (n_ : Nat) (i : Nat) (b : Nat → Nat → Nat), 9 - i < n_ → (i ≤ 9) → (∀ j, j < 6 → b 23 j = a 13 j) → (∀ j, j < 6 → b 24 j = a 14 j) → (∀ j, j < 6 → b 25 j = a 15 j) → (∀ j, j < i → b 26 j = a 16 j) → (∀ j, j < i → b 27 j = a 17 j) → (∀ j, j < i → b 28 j = a 18 j) → (∀ k, k ≠ 23 → k ≠ 24 → k ≠ 25 → k ≠ 26 → k ≠ 27 → k ≠ 28 → b k = a k) → ∀ x2 : Int32, x2 = nI i → ∀ (H : Heap) (locs : List Loc), va_P D vwCl ((zy_w cI r) ((zx_up (zx_up (zx_up s 20 (s 10)) 21 (s 11)) 22 (s 12)), b, z, ah)) H → va_D A ((zy_w cI r) ((zx_up (zx_up (zx_up s 20 (s 10)) 21 (s 11)) 22 (s 12)), b, z, ah)) → va_S A st.heap H locs → ∀ ls : Array Slot, lv_has ls 3 [(0, .ref (r 20)), (1, .ref (r 10)), (2, .int x2)] → W p l e rmX1_takeFrom st m args below meth c H locs 0 0 Q (F0 m 76 ls []) := by
          intro n_
          induction n_ with
          | zero => intros; omega
          | succ n_ ih_76 =>
            intro i b hmu_76 hi9 g23 g24 g25 g26 g27 g28 gk
            intro x2 ex2; subst ex2
            intro H locs hP hD hS ls hl
            have hl : lv_has ls 3 [(0, .ref (r 20)), (1, .ref (r 10)), (2, .int (nI i))] := hl
            refine lv_iload_n hx hb dX1_takeFrom_76 rfl (lv_at hl 2 rfl) ?_
            refine lv_bipush (v := nI 9) hx hb dX1_takeFrom_77 (by decide) ?_
            refine zx_icmp_ge hx hb (tgt := 124) (by omega) (by omega) dX1_takeFrom_79 (by decide) (fun c_79 => ?_) (fun c_79 => ?_)
            · exact hret _ _ _ _ _ hP hD hS dX1_takeFrom_124 ⟨b, rfl, g23, g24, g25, fun j hj => g26 j (by omega), fun j hj => g27 j (by omega), fun j hj => g28 j (by omega), gk⟩
            · refine lv_aload_n hx hb dX1_takeFrom_82 rfl (lv_at hl 0 rfl) ?_
              refine va_get (D := D) (ci := 1) (v := .ref (r 26)) (C := RX1) (T := TX1) (N := 9) hx hb hts hi1 hown hK hP 10 rfl rfl 6 (by decide) k21 (fun _ h9 => h9) rfl dX1_takeFrom_83 ?_
              refine lv_iload_n hx hb dX1_takeFrom_86 rfl (lv_at hl 2 rfl) ?_
              refine lv_aload_n hx hb dX1_takeFrom_87 rfl (lv_at hl 1 rfl) ?_
              refine va_get (D := D) (ci := 1) (v := .ref (r 16)) (C := RX1) (T := TX1) (N := 9) hx hb hts hi1 hown hK hP 3 rfl rfl 6 (by decide) k21 (fun _ h9 => h9) rfl dX1_takeFrom_88 ?_
              refine lv_iload_n hx hb dX1_takeFrom_91 rfl (lv_at hl 2 rfl) ?_
              refine zx_ald (f := b 16) (n := 9) hx hb hK hP 7 0 rfl rfl (by omega) (by decide) dX1_takeFrom_92 ?_
              refine zx_ast (f := b 26) (n := 9) (ws' := (zy_w cI r) ((zx_up (zx_up (zx_up s 20 (s 10)) 21 (s 11)) 22 (s 12)), (zx_up b 26 (zx_up (b 26) i ((b 16) i))), z, ah)) hx hb hK hP hD hS 14 0 rfl rfl (by omega) (by decide) rfl dX1_takeFrom_93 (fun H locs hP hD hS => ?_)
              refine lv_aload_n hx hb dX1_takeFrom_94 rfl (lv_at hl 0 rfl) ?_
              refine va_get (D := D) (ci := 1) (v := .ref (r 27)) (C := RX1) (T := TX1) (N := 9) hx hb hts hi1 hown hK hP 10 rfl rfl 7 (by decide) k24 (fun _ h9 => h9) rfl dX1_takeFrom_95 ?_
              refine lv_iload_n hx hb dX1_takeFrom_98 rfl (lv_at hl 2 rfl) ?_
              refine lv_aload_n hx hb dX1_takeFrom_99 rfl (lv_at hl 1 rfl) ?_
              refine va_get (D := D) (ci := 1) (v := .ref (r 17)) (C := RX1) (T := TX1) (N := 9) hx hb hts hi1 hown hK hP 3 rfl rfl 7 (by decide) k24 (fun _ h9 => h9) rfl dX1_takeFrom_100 ?_
              refine lv_iload_n hx hb dX1_takeFrom_103 rfl (lv_at hl 2 rfl) ?_
              refine zx_ald (f := b 17) (n := 9) hx hb hK hP 8 0 rfl rfl (by omega) (by decide) dX1_takeFrom_104 ?_
              refine zx_ast (f := b 27) (n := 9) (ws' := (zy_w cI r) ((zx_up (zx_up (zx_up s 20 (s 10)) 21 (s 11)) 22 (s 12)), (zx_up (zx_up b 26 (zx_up (b 26) i ((b 16) i))) 27 (zx_up (b 27) i ((b 17) i))), z, ah)) hx hb hK hP hD hS 15 0 rfl rfl (by omega) (by decide) rfl dX1_takeFrom_105 (fun H locs hP hD hS => ?_)
              refine lv_aload_n hx hb dX1_takeFrom_106 rfl (lv_at hl 0 rfl) ?_
              refine va_get (D := D) (ci := 1) (v := .ref (r 28)) (C := RX1) (T := TX1) (N := 9) hx hb hts hi1 hown hK hP 10 rfl rfl 8 (by decide) k27 (fun _ h9 => h9) rfl dX1_takeFrom_107 ?_
              refine lv_iload_n hx hb dX1_takeFrom_110 rfl (lv_at hl 2 rfl) ?_
              refine lv_aload_n hx hb dX1_takeFrom_111 rfl (lv_at hl 1 rfl) ?_
              refine va_get (D := D) (ci := 1) (v := .ref (r 18)) (C := RX1) (T := TX1) (N := 9) hx hb hts hi1 hown hK hP 3 rfl rfl 8 (by decide) k27 (fun _ h9 => h9) rfl dX1_takeFrom_112 ?_
              refine lv_iload_n hx hb dX1_takeFrom_115 rfl (lv_at hl 2 rfl) ?_
              refine zx_ald (f := b 18) (n := 9) hx hb hK hP 9 0 rfl rfl (by omega) (by decide) dX1_takeFrom_116 ?_
              refine zx_ast (f := b 28) (n := 9) (ws' := (zy_w cI r) ((zx_up (zx_up (zx_up s 20 (s 10)) 21 (s 11)) 22 (s 12)), (zx_up (zx_up (zx_up b 26 (zx_up (b 26) i ((b 16) i))) 27 (zx_up (b 27) i ((b 17) i))) 28 (zx_up (b 28) i ((b 18) i))), z, ah)) hx hb hK hP hD hS 16 0 rfl rfl (by omega) (by decide) rfl dX1_takeFrom_117 (fun H locs hP hD hS => ?_)
              refine lv_iinc (v := nI (i + 1)) (lv' := [(2, .int (nI (i + 1))), (0, .ref (r 20)), (1, .ref (r 10))]) hx hb dX1_takeFrom_118 hl (k := 2) rfl (zx_inc _ _) (by decide) rfl (fun ls hl => ?_)
              refine lv_goto (tgt := 76) hx hb dX1_takeFrom_121 (by decide) ?_
              exact ih_76 (i + 1) (zx_up (zx_up (zx_up b 26 (zx_up (b 26) i ((b 16) i))) 27 (zx_up (b 27) i ((b 17) i))) 28 (zx_up (b 28) i ((b 18) i))) (by omega) (by omega) g23 g24 g25 (zp_upN (y := b 26) (by rw [gk 16 (by decide) (by decide) (by decide) (by decide) (by decide) (by decide)]) g26) (zp_upN (y := b 27) (by rw [gk 17 (by decide) (by decide) (by decide) (by decide) (by decide) (by decide)]) g27) (zp_upN (y := b 28) (by rw [gk 18 (by decide) (by decide) (by decide) (by decide) (by decide) (by decide)]) g28) (fun k h23 h24 h25 h26 h27 h28 => (zx_up_ne _ _ h28).trans ((zx_up_ne _ _ h27).trans ((zx_up_ne _ _ h26).trans (gk k h23 h24 h25 h26 h27 h28)))) _ rfl _ _ hP hD hS ls (lv_sub hl [1, 2, 0] rfl)
        exact lp_76 _ 0 b (Nat.lt_succ_self _) (Nat.zero_le _) (fun j hj => g23 j (by omega)) (fun j hj => g24 j (by omega)) (fun j hj => g25 j (by omega)) (fun j hj => absurd hj (Nat.not_lt_zero j)) (fun j hj => absurd hj (Nat.not_lt_zero j)) (fun j hj => absurd hj (Nat.not_lt_zero j)) (fun k h23 h24 h25 h26 h27 h28 => gk k h23 h24 h25) _ rfl _ _ hP hD hS ls (lv_sub hl [1, 2, 0] rfl)
      · refine lv_aload_n hx hb dX1_takeFrom_32 rfl (lv_at hl 0 rfl) ?_
        refine va_get (D := D) (ci := 1) (v := .ref (r 23)) (C := RX1) (T := TX1) (N := 9) hx hb hts hi1 hown hK hP 10 rfl rfl 3 (by decide) k9 (fun _ h9 => h9) rfl dX1_takeFrom_33 ?_
        refine lv_iload_n hx hb dX1_takeFrom_36 rfl (lv_at hl 2 rfl) ?_
        refine lv_aload_n hx hb dX1_takeFrom_37 rfl (lv_at hl 1 rfl) ?_
        refine va_get (D := D) (ci := 1) (v := .ref (r 13)) (C := RX1) (T := TX1) (N := 9) hx hb hts hi1 hown hK hP 3 rfl rfl 3 (by decide) k9 (fun _ h9 => h9) rfl dX1_takeFrom_38 ?_
        refine lv_iload_n hx hb dX1_takeFrom_41 rfl (lv_at hl 2 rfl) ?_
        refine zx_ald (f := b 13) (n := 6) hx hb hK hP 4 0 rfl rfl (by omega) (by decide) dX1_takeFrom_42 ?_
        refine zx_ast (f := b 23) (n := 6) (ws' := (zy_w cI r) ((zx_up (zx_up (zx_up s 20 (s 10)) 21 (s 11)) 22 (s 12)), (zx_up b 23 (zx_up (b 23) i ((b 13) i))), z, ah)) hx hb hK hP hD hS 11 0 rfl rfl (by omega) (by decide) rfl dX1_takeFrom_43 (fun H locs hP hD hS => ?_)
        refine lv_aload_n hx hb dX1_takeFrom_44 rfl (lv_at hl 0 rfl) ?_
        refine va_get (D := D) (ci := 1) (v := .ref (r 24)) (C := RX1) (T := TX1) (N := 9) hx hb hts hi1 hown hK hP 10 rfl rfl 4 (by decide) k15 (fun _ h9 => h9) rfl dX1_takeFrom_45 ?_
        refine lv_iload_n hx hb dX1_takeFrom_48 rfl (lv_at hl 2 rfl) ?_
        refine lv_aload_n hx hb dX1_takeFrom_49 rfl (lv_at hl 1 rfl) ?_
        refine va_get (D := D) (ci := 1) (v := .ref (r 14)) (C := RX1) (T := TX1) (N := 9) hx hb hts hi1 hown hK hP 3 rfl rfl 4 (by decide) k15 (fun _ h9 => h9) rfl dX1_takeFrom_50 ?_
        refine lv_iload_n hx hb dX1_takeFrom_53 rfl (lv_at hl 2 rfl) ?_
        refine zx_ald (f := b 14) (n := 6) hx hb hK hP 5 0 rfl rfl (by omega) (by decide) dX1_takeFrom_54 ?_
        refine zx_ast (f := b 24) (n := 6) (ws' := (zy_w cI r) ((zx_up (zx_up (zx_up s 20 (s 10)) 21 (s 11)) 22 (s 12)), (zx_up (zx_up b 23 (zx_up (b 23) i ((b 13) i))) 24 (zx_up (b 24) i ((b 14) i))), z, ah)) hx hb hK hP hD hS 12 0 rfl rfl (by omega) (by decide) rfl dX1_takeFrom_55 (fun H locs hP hD hS => ?_)
        refine lv_aload_n hx hb dX1_takeFrom_56 rfl (lv_at hl 0 rfl) ?_
        refine va_get (D := D) (ci := 1) (v := .ref (r 25)) (C := RX1) (T := TX1) (N := 9) hx hb hts hi1 hown hK hP 10 rfl rfl 5 (by decide) k18 (fun _ h9 => h9) rfl dX1_takeFrom_57 ?_
        refine lv_iload_n hx hb dX1_takeFrom_60 rfl (lv_at hl 2 rfl) ?_
        refine lv_aload_n hx hb dX1_takeFrom_61 rfl (lv_at hl 1 rfl) ?_
        refine va_get (D := D) (ci := 1) (v := .ref (r 15)) (C := RX1) (T := TX1) (N := 9) hx hb hts hi1 hown hK hP 3 rfl rfl 5 (by decide) k18 (fun _ h9 => h9) rfl dX1_takeFrom_62 ?_
        refine lv_iload_n hx hb dX1_takeFrom_65 rfl (lv_at hl 2 rfl) ?_
        refine zx_ald (f := b 15) (n := 6) hx hb hK hP 6 0 rfl rfl (by omega) (by decide) dX1_takeFrom_66 ?_
        refine zx_ast (f := b 25) (n := 6) (ws' := (zy_w cI r) ((zx_up (zx_up (zx_up s 20 (s 10)) 21 (s 11)) 22 (s 12)), (zx_up (zx_up (zx_up b 23 (zx_up (b 23) i ((b 13) i))) 24 (zx_up (b 24) i ((b 14) i))) 25 (zx_up (b 25) i ((b 15) i))), z, ah)) hx hb hK hP hD hS 13 0 rfl rfl (by omega) (by decide) rfl dX1_takeFrom_67 (fun H locs hP hD hS => ?_)
        refine lv_iinc (v := nI (i + 1)) (lv' := [(2, .int (nI (i + 1))), (0, .ref (r 20)), (1, .ref (r 10))]) hx hb dX1_takeFrom_68 hl (k := 2) rfl (zx_inc _ _) (by decide) rfl (fun ls hl => ?_)
        refine lv_goto (tgt := 26) hx hb dX1_takeFrom_71 (by decide) ?_
        exact ih_26 (i + 1) (zx_up (zx_up (zx_up b 23 (zx_up (b 23) i ((b 13) i))) 24 (zx_up (b 24) i ((b 14) i))) 25 (zx_up (b 25) i ((b 15) i))) (by omega) (by omega) (zp_upN (y := b 23) (by rw [gk 13 (by decide) (by decide) (by decide)]) g23) (zp_upN (y := b 24) (by rw [gk 14 (by decide) (by decide) (by decide)]) g24) (zp_upN (y := b 25) (by rw [gk 15 (by decide) (by decide) (by decide)]) g25) (fun k h23 h24 h25 => (zx_up_ne _ _ h25).trans ((zx_up_ne _ _ h24).trans ((zx_up_ne _ _ h23).trans (gk k h23 h24 h25)))) _ rfl _ _ hP hD hS ls (lv_sub hl [1, 2, 0] rfl)
  exact lp_26 _ 0 a (Nat.lt_succ_self _) (Nat.zero_le _) (fun j hj => absurd hj (Nat.not_lt_zero j)) (fun j hj => absurd hj (Nat.not_lt_zero j)) (fun j hj => absurd hj (Nat.not_lt_zero j)) (fun k _ _ _ => rfl) _ rfl _ _ hP hD hS ls (lv_sub hl [1, 2, 0] rfl)
set_option maxHeartbeats 4000000 in
set_option maxRecDepth 100000 in
theorem c_X1_take_h (l : Launch) (D : va_G) (cI cB : ClassId) (r : Nat → Nat) (s : Nat → Nat) (a : Nat → Nat → Nat) (z : Nat → Int) (ah : Int)  : zx_C zx_ev l D (zm_t cI cB) (zy_w cI r) yX1_takeFrom wsX1_takeFrom rmX1_takeFrom [.ref (r 10), .ref (r 20)] (s, a, z, ah) (fun _ u' => ∃ b : Nat → Nat → Nat, u' = ((zx_up (zx_up (zx_up s 10 (s 20)) 11 (s 21)) 12 (s 22)), b, z, ah) ∧ (∀ j, j < 6 → b 13 j = a 23 j) ∧ (∀ j, j < 6 → b 14 j = a 24 j) ∧ (∀ j, j < 6 → b 15 j = a 25 j) ∧ (∀ j, j < 9 → b 16 j = a 26 j) ∧ (∀ j, j < 9 → b 17 j = a 27 j) ∧ (∀ j, j < 9 → b 18 j = a 28 j) ∧ (∀ k, k ≠ 13 → k ≠ 14 → k ≠ 15 → k ≠ 16 → k ≠ 17 → k ≠ 18 → b k = a k)) := by
  refine zx_of_v (cc := cX1_takeFrom) (maxL := 3) (by decide) rfl (Nat.le_of_ble_eq_true rfl) ?_
  intro p e st m args below meth c A Q H cf hK hN hP hD hS hA hret ls hl
  obtain ⟨hx, hb, hml, hown, hts⟩ := id cf
  have hi1 : ∀ w ∈ wsX10, w ∈ wsX1_takeFrom := fun w h => List.mem_cons_of_mem _ (List.mem_append_right _ h)
  have k30 := hts (.fieldLink RX1 30 "NineDrawers$Hall" "facing" "I") (List.mem_of_getElem? (i := 1) (by decide +kernel))
  have k34 := hts (.fieldLink RX1 34 "NineDrawers$Hall" "people" "I") (List.mem_of_getElem? (i := 2) (by decide +kernel))
  have k40 := hts (.fieldLink RX1 40 "NineDrawers$Hall" "timesFound" "I") (List.mem_of_getElem? (i := 3) (by decide +kernel))
  have k21 := hts (.fieldLink RX1 21 "NineDrawers$Hall" "laidIn" "[I") (List.mem_of_getElem? (i := 7) (by decide +kernel))
  have k24 := hts (.fieldLink RX1 24 "NineDrawers$Hall" "foundThere" "[I") (List.mem_of_getElem? (i := 8) (by decide +kernel))
  have k27 := hts (.fieldLink RX1 27 "NineDrawers$Hall" "foundEmpty" "[I") (List.mem_of_getElem? (i := 9) (by decide +kernel))
  have k9 := hts (.fieldLink RX1 9 "NineDrawers$Hall" "kindOf" "[I") (List.mem_of_getElem? (i := 4) (by decide +kernel))
  have k15 := hts (.fieldLink RX1 15 "NineDrawers$Hall" "drawerOf" "[I") (List.mem_of_getElem? (i := 5) (by decide +kernel))
  have k18 := hts (.fieldLink RX1 18 "NineDrawers$Hall" "ownDayOf" "[I") (List.mem_of_getElem? (i := 6) (by decide +kernel))
  have hl : lv_has ls 3 [(0, .ref (r 10)), (1, .ref (r 20))] := hl
  have hP : va_P D vwCl ((zy_w cI r) (s, a, z, ah)) H := hP
  have hD : va_D A ((zy_w cI r) (s, a, z, ah)) := hD
  refine lv_aload_n hx hb dX1_takeFrom_0 rfl (lv_at hl 0 rfl) ?_
  refine lv_aload_n hx hb dX1_takeFrom_1 rfl (lv_at hl 1 rfl) ?_
  refine va_get (D := D) (ci := 1) (v := .int (nI (s 20))) (C := RX1) (T := TX1) (N := 9) hx hb hts hi1 hown hK hP 10 rfl rfl 0 (by decide) k30 (fun _ h9 => h9) rfl dX1_takeFrom_2 ?_
  refine zx_put (D := D) (ci := 1) (ty := .int) (v := .int (nI (s 20))) (ws' := (zy_w cI r) ((zx_up s 10 (s 20)), a, z, ah)) (C := RX1) (T := TX1) (N := 9) hx hb hts hi1 tyX1 tyX1_ok nmX1 hown hK hP hD hS 3 rfl rfl 0 (by decide) k30 (fun _ h9 => h9) rfl (by decide +kernel) rfl rfl (Nat.le_of_ble_eq_true rfl) rfl dX1_takeFrom_5 (fun H locs hP hD hS => ?_)
  refine lv_aload_n hx hb dX1_takeFrom_8 rfl (lv_at hl 0 rfl) ?_
  refine lv_aload_n hx hb dX1_takeFrom_9 rfl (lv_at hl 1 rfl) ?_
  refine va_get (D := D) (ci := 1) (v := .int (nI (s 21))) (C := RX1) (T := TX1) (N := 9) hx hb hts hi1 hown hK hP 10 rfl rfl 1 (by decide) k34 (fun _ h9 => h9) rfl dX1_takeFrom_10 ?_
  refine zx_put (D := D) (ci := 1) (ty := .int) (v := .int (nI (s 21))) (ws' := (zy_w cI r) ((zx_up (zx_up s 10 (s 20)) 11 (s 21)), a, z, ah)) (C := RX1) (T := TX1) (N := 9) hx hb hts hi1 tyX1 tyX1_ok nmX1 hown hK hP hD hS 3 rfl rfl 1 (by decide) k34 (fun _ h9 => h9) rfl (by decide +kernel) rfl rfl (Nat.le_of_ble_eq_true rfl) rfl dX1_takeFrom_13 (fun H locs hP hD hS => ?_)
  refine lv_aload_n hx hb dX1_takeFrom_16 rfl (lv_at hl 0 rfl) ?_
  refine lv_aload_n hx hb dX1_takeFrom_17 rfl (lv_at hl 1 rfl) ?_
  refine va_get (D := D) (ci := 1) (v := .int (nI (s 22))) (C := RX1) (T := TX1) (N := 9) hx hb hts hi1 hown hK hP 10 rfl rfl 2 (by decide) k40 (fun _ h9 => h9) rfl dX1_takeFrom_18 ?_
  refine zx_put (D := D) (ci := 1) (ty := .int) (v := .int (nI (s 22))) (ws' := (zy_w cI r) ((zx_up (zx_up (zx_up s 10 (s 20)) 11 (s 21)) 12 (s 22)), a, z, ah)) (C := RX1) (T := TX1) (N := 9) hx hb hts hi1 tyX1 tyX1_ok nmX1 hown hK hP hD hS 3 rfl rfl 2 (by decide) k40 (fun _ h9 => h9) rfl (by decide +kernel) rfl rfl (Nat.le_of_ble_eq_true rfl) rfl dX1_takeFrom_21 (fun H locs hP hD hS => ?_)
  refine lv_iconst (v := nI 0) hx hb dX1_takeFrom_24 (by decide) ?_
  refine lv_istore_n (lv' := [(2, .int (nI 0)), (0, .ref (r 10)), (1, .ref (r 20))]) hx hb dX1_takeFrom_25 rfl hl (by decide) rfl (fun ls hl => ?_)
  have lp_26 : ∀ (n_ : Nat) (i : Nat) (b : Nat → Nat → Nat), 6 - i < n_ → (i ≤ 6) → (∀ j, j < i → b 13 j = a 23 j) → (∀ j, j < i → b 14 j = a 24 j) → (∀ j, j < i → b 15 j = a 25 j) → (∀ k, k ≠ 13 → k ≠ 14 → k ≠ 15 → b k = a k) → ∀ x2 : Int32, x2 = nI i → ∀ (H : Heap) (locs : List Loc), va_P D vwCl ((zy_w cI r) ((zx_up (zx_up (zx_up s 10 (s 20)) 11 (s 21)) 12 (s 22)), b, z, ah)) H → va_D A ((zy_w cI r) ((zx_up (zx_up (zx_up s 10 (s 20)) 11 (s 21)) 12 (s 22)), b, z, ah)) → va_S A st.heap H locs → ∀ ls : Array Slot, lv_has ls 3 [(0, .ref (r 10)), (1, .ref (r 20)), (2, .int x2)] → W p l e rmX1_takeFrom st m args below meth c H locs 0 0 Q (F0 m 26 ls []) := by
    intro n_
    induction n_ with
    | zero => intros; omega
    | succ n_ ih_26 =>
      intro i b hmu_26 hi9 g13 g14 g15 gk
      intro x2 ex2; subst ex2
      intro H locs hP hD hS ls hl
      have hl : lv_has ls 3 [(0, .ref (r 10)), (1, .ref (r 20)), (2, .int (nI i))] := hl
      refine lv_iload_n hx hb dX1_takeFrom_26 rfl (lv_at hl 2 rfl) ?_
      refine lv_bipush (v := nI 6) hx hb dX1_takeFrom_27 (by decide) ?_
      refine zx_icmp_ge hx hb (tgt := 74) (by omega) (by omega) dX1_takeFrom_29 (by decide) (fun c_29 => ?_) (fun c_29 => ?_)
      · refine lv_iconst (v := nI 0) hx hb dX1_takeFrom_74 (by decide) ?_
        refine lv_istore_n (lv' := [(2, .int (nI 0)), (0, .ref (r 10)), (1, .ref (r 20))]) hx hb dX1_takeFrom_75 rfl hl (by decide) rfl (fun ls hl => ?_)
        have lp_76 : ∀ (n_ : Nat) (i : Nat) (b : Nat → Nat → Nat), 9 - i < n_ → (i ≤ 9) → (∀ j, j < 6 → b 13 j = a 23 j) → (∀ j, j < 6 → b 14 j = a 24 j) → (∀ j, j < 6 → b 15 j = a 25 j) → (∀ j, j < i → b 16 j = a 26 j) → (∀ j, j < i → b 17 j = a 27 j) → (∀ j, j < i → b 18 j = a 28 j) → (∀ k, k ≠ 13 → k ≠ 14 → k ≠ 15 → k ≠ 16 → k ≠ 17 → k ≠ 18 → b k = a k) → ∀ x2 : Int32, x2 = nI i → ∀ (H : Heap) (locs : List Loc), va_P D vwCl ((zy_w cI r) ((zx_up (zx_up (zx_up s 10 (s 20)) 11 (s 21)) 12 (s 22)), b, z, ah)) H → va_D A ((zy_w cI r) ((zx_up (zx_up (zx_up s 10 (s 20)) 11 (s 21)) 12 (s 22)), b, z, ah)) → va_S A st.heap H locs → ∀ ls : Array Slot, lv_has ls 3 [(0, .ref (r 10)), (1, .ref (r 20)), (2, .int x2)] → W p l e rmX1_takeFrom st m args below meth c H locs 0 0 Q (F0 m 76 ls []) := by
          intro n_
          induction n_ with
          | zero => intros; omega
          | succ n_ ih_76 =>
            intro i b hmu_76 hi9 g13 g14 g15 g16 g17 g18 gk
            intro x2 ex2; subst ex2
            intro H locs hP hD hS ls hl
            have hl : lv_has ls 3 [(0, .ref (r 10)), (1, .ref (r 20)), (2, .int (nI i))] := hl
            refine lv_iload_n hx hb dX1_takeFrom_76 rfl (lv_at hl 2 rfl) ?_
            refine lv_bipush (v := nI 9) hx hb dX1_takeFrom_77 (by decide) ?_
            refine zx_icmp_ge hx hb (tgt := 124) (by omega) (by omega) dX1_takeFrom_79 (by decide) (fun c_79 => ?_) (fun c_79 => ?_)
            · exact hret _ _ _ _ _ hP hD hS dX1_takeFrom_124 ⟨b, rfl, g13, g14, g15, fun j hj => g16 j (by omega), fun j hj => g17 j (by omega), fun j hj => g18 j (by omega), gk⟩
            · refine lv_aload_n hx hb dX1_takeFrom_82 rfl (lv_at hl 0 rfl) ?_
              refine va_get (D := D) (ci := 1) (v := .ref (r 16)) (C := RX1) (T := TX1) (N := 9) hx hb hts hi1 hown hK hP 3 rfl rfl 6 (by decide) k21 (fun _ h9 => h9) rfl dX1_takeFrom_83 ?_
              refine lv_iload_n hx hb dX1_takeFrom_86 rfl (lv_at hl 2 rfl) ?_
              refine lv_aload_n hx hb dX1_takeFrom_87 rfl (lv_at hl 1 rfl) ?_
              refine va_get (D := D) (ci := 1) (v := .ref (r 26)) (C := RX1) (T := TX1) (N := 9) hx hb hts hi1 hown hK hP 10 rfl rfl 6 (by decide) k21 (fun _ h9 => h9) rfl dX1_takeFrom_88 ?_
              refine lv_iload_n hx hb dX1_takeFrom_91 rfl (lv_at hl 2 rfl) ?_
              refine zx_ald (f := b 26) (n := 9) hx hb hK hP 14 0 rfl rfl (by omega) (by decide) dX1_takeFrom_92 ?_
              refine zx_ast (f := b 16) (n := 9) (ws' := (zy_w cI r) ((zx_up (zx_up (zx_up s 10 (s 20)) 11 (s 21)) 12 (s 22)), (zx_up b 16 (zx_up (b 16) i ((b 26) i))), z, ah)) hx hb hK hP hD hS 7 0 rfl rfl (by omega) (by decide) rfl dX1_takeFrom_93 (fun H locs hP hD hS => ?_)
              refine lv_aload_n hx hb dX1_takeFrom_94 rfl (lv_at hl 0 rfl) ?_
              refine va_get (D := D) (ci := 1) (v := .ref (r 17)) (C := RX1) (T := TX1) (N := 9) hx hb hts hi1 hown hK hP 3 rfl rfl 7 (by decide) k24 (fun _ h9 => h9) rfl dX1_takeFrom_95 ?_
              refine lv_iload_n hx hb dX1_takeFrom_98 rfl (lv_at hl 2 rfl) ?_
              refine lv_aload_n hx hb dX1_takeFrom_99 rfl (lv_at hl 1 rfl) ?_
              refine va_get (D := D) (ci := 1) (v := .ref (r 27)) (C := RX1) (T := TX1) (N := 9) hx hb hts hi1 hown hK hP 10 rfl rfl 7 (by decide) k24 (fun _ h9 => h9) rfl dX1_takeFrom_100 ?_
              refine lv_iload_n hx hb dX1_takeFrom_103 rfl (lv_at hl 2 rfl) ?_
              refine zx_ald (f := b 27) (n := 9) hx hb hK hP 15 0 rfl rfl (by omega) (by decide) dX1_takeFrom_104 ?_
              refine zx_ast (f := b 17) (n := 9) (ws' := (zy_w cI r) ((zx_up (zx_up (zx_up s 10 (s 20)) 11 (s 21)) 12 (s 22)), (zx_up (zx_up b 16 (zx_up (b 16) i ((b 26) i))) 17 (zx_up (b 17) i ((b 27) i))), z, ah)) hx hb hK hP hD hS 8 0 rfl rfl (by omega) (by decide) rfl dX1_takeFrom_105 (fun H locs hP hD hS => ?_)
              refine lv_aload_n hx hb dX1_takeFrom_106 rfl (lv_at hl 0 rfl) ?_
              refine va_get (D := D) (ci := 1) (v := .ref (r 18)) (C := RX1) (T := TX1) (N := 9) hx hb hts hi1 hown hK hP 3 rfl rfl 8 (by decide) k27 (fun _ h9 => h9) rfl dX1_takeFrom_107 ?_
              refine lv_iload_n hx hb dX1_takeFrom_110 rfl (lv_at hl 2 rfl) ?_
              refine lv_aload_n hx hb dX1_takeFrom_111 rfl (lv_at hl 1 rfl) ?_
              refine va_get (D := D) (ci := 1) (v := .ref (r 28)) (C := RX1) (T := TX1) (N := 9) hx hb hts hi1 hown hK hP 10 rfl rfl 8 (by decide) k27 (fun _ h9 => h9) rfl dX1_takeFrom_112 ?_
              refine lv_iload_n hx hb dX1_takeFrom_115 rfl (lv_at hl 2 rfl) ?_
              refine zx_ald (f := b 28) (n := 9) hx hb hK hP 16 0 rfl rfl (by omega) (by decide) dX1_takeFrom_116 ?_
              refine zx_ast (f := b 18) (n := 9) (ws' := (zy_w cI r) ((zx_up (zx_up (zx_up s 10 (s 20)) 11 (s 21)) 12 (s 22)), (zx_up (zx_up (zx_up b 16 (zx_up (b 16) i ((b 26) i))) 17 (zx_up (b 17) i ((b 27) i))) 18 (zx_up (b 18) i ((b 28) i))), z, ah)) hx hb hK hP hD hS 9 0 rfl rfl (by omega) (by decide) rfl dX1_takeFrom_117 (fun H locs hP hD hS => ?_)
              refine lv_iinc (v := nI (i + 1)) (lv' := [(2, .int (nI (i + 1))), (0, .ref (r 10)), (1, .ref (r 20))]) hx hb dX1_takeFrom_118 hl (k := 2) rfl (zx_inc _ _) (by decide) rfl (fun ls hl => ?_)
              refine lv_goto (tgt := 76) hx hb dX1_takeFrom_121 (by decide) ?_
              exact ih_76 (i + 1) (zx_up (zx_up (zx_up b 16 (zx_up (b 16) i ((b 26) i))) 17 (zx_up (b 17) i ((b 27) i))) 18 (zx_up (b 18) i ((b 28) i))) (by omega) (by omega) g13 g14 g15 (zp_upN (y := b 16) (by rw [gk 26 (by decide) (by decide) (by decide) (by decide) (by decide) (by decide)]) g16) (zp_upN (y := b 17) (by rw [gk 27 (by decide) (by decide) (by decide) (by decide) (by decide) (by decide)]) g17) (zp_upN (y := b 18) (by rw [gk 28 (by decide) (by decide) (by decide) (by decide) (by decide) (by decide)]) g18) (fun k h13 h14 h15 h16 h17 h18 => (zx_up_ne _ _ h18).trans ((zx_up_ne _ _ h17).trans ((zx_up_ne _ _ h16).trans (gk k h13 h14 h15 h16 h17 h18)))) _ rfl _ _ hP hD hS ls (lv_sub hl [1, 2, 0] rfl)
        exact lp_76 _ 0 b (Nat.lt_succ_self _) (Nat.zero_le _) (fun j hj => g13 j (by omega)) (fun j hj => g14 j (by omega)) (fun j hj => g15 j (by omega)) (fun j hj => absurd hj (Nat.not_lt_zero j)) (fun j hj => absurd hj (Nat.not_lt_zero j)) (fun j hj => absurd hj (Nat.not_lt_zero j)) (fun k h13 h14 h15 h16 h17 h18 => gk k h13 h14 h15) _ rfl _ _ hP hD hS ls (lv_sub hl [1, 2, 0] rfl)
      · refine lv_aload_n hx hb dX1_takeFrom_32 rfl (lv_at hl 0 rfl) ?_
        refine va_get (D := D) (ci := 1) (v := .ref (r 13)) (C := RX1) (T := TX1) (N := 9) hx hb hts hi1 hown hK hP 3 rfl rfl 3 (by decide) k9 (fun _ h9 => h9) rfl dX1_takeFrom_33 ?_
        refine lv_iload_n hx hb dX1_takeFrom_36 rfl (lv_at hl 2 rfl) ?_
        refine lv_aload_n hx hb dX1_takeFrom_37 rfl (lv_at hl 1 rfl) ?_
        refine va_get (D := D) (ci := 1) (v := .ref (r 23)) (C := RX1) (T := TX1) (N := 9) hx hb hts hi1 hown hK hP 10 rfl rfl 3 (by decide) k9 (fun _ h9 => h9) rfl dX1_takeFrom_38 ?_
        refine lv_iload_n hx hb dX1_takeFrom_41 rfl (lv_at hl 2 rfl) ?_
        refine zx_ald (f := b 23) (n := 6) hx hb hK hP 11 0 rfl rfl (by omega) (by decide) dX1_takeFrom_42 ?_
        refine zx_ast (f := b 13) (n := 6) (ws' := (zy_w cI r) ((zx_up (zx_up (zx_up s 10 (s 20)) 11 (s 21)) 12 (s 22)), (zx_up b 13 (zx_up (b 13) i ((b 23) i))), z, ah)) hx hb hK hP hD hS 4 0 rfl rfl (by omega) (by decide) rfl dX1_takeFrom_43 (fun H locs hP hD hS => ?_)
        refine lv_aload_n hx hb dX1_takeFrom_44 rfl (lv_at hl 0 rfl) ?_
        refine va_get (D := D) (ci := 1) (v := .ref (r 14)) (C := RX1) (T := TX1) (N := 9) hx hb hts hi1 hown hK hP 3 rfl rfl 4 (by decide) k15 (fun _ h9 => h9) rfl dX1_takeFrom_45 ?_
        refine lv_iload_n hx hb dX1_takeFrom_48 rfl (lv_at hl 2 rfl) ?_
        refine lv_aload_n hx hb dX1_takeFrom_49 rfl (lv_at hl 1 rfl) ?_
        refine va_get (D := D) (ci := 1) (v := .ref (r 24)) (C := RX1) (T := TX1) (N := 9) hx hb hts hi1 hown hK hP 10 rfl rfl 4 (by decide) k15 (fun _ h9 => h9) rfl dX1_takeFrom_50 ?_
        refine lv_iload_n hx hb dX1_takeFrom_53 rfl (lv_at hl 2 rfl) ?_
        refine zx_ald (f := b 24) (n := 6) hx hb hK hP 12 0 rfl rfl (by omega) (by decide) dX1_takeFrom_54 ?_
        refine zx_ast (f := b 14) (n := 6) (ws' := (zy_w cI r) ((zx_up (zx_up (zx_up s 10 (s 20)) 11 (s 21)) 12 (s 22)), (zx_up (zx_up b 13 (zx_up (b 13) i ((b 23) i))) 14 (zx_up (b 14) i ((b 24) i))), z, ah)) hx hb hK hP hD hS 5 0 rfl rfl (by omega) (by decide) rfl dX1_takeFrom_55 (fun H locs hP hD hS => ?_)
        refine lv_aload_n hx hb dX1_takeFrom_56 rfl (lv_at hl 0 rfl) ?_
        refine va_get (D := D) (ci := 1) (v := .ref (r 15)) (C := RX1) (T := TX1) (N := 9) hx hb hts hi1 hown hK hP 3 rfl rfl 5 (by decide) k18 (fun _ h9 => h9) rfl dX1_takeFrom_57 ?_
        refine lv_iload_n hx hb dX1_takeFrom_60 rfl (lv_at hl 2 rfl) ?_
        refine lv_aload_n hx hb dX1_takeFrom_61 rfl (lv_at hl 1 rfl) ?_
        refine va_get (D := D) (ci := 1) (v := .ref (r 25)) (C := RX1) (T := TX1) (N := 9) hx hb hts hi1 hown hK hP 10 rfl rfl 5 (by decide) k18 (fun _ h9 => h9) rfl dX1_takeFrom_62 ?_
        refine lv_iload_n hx hb dX1_takeFrom_65 rfl (lv_at hl 2 rfl) ?_
        refine zx_ald (f := b 25) (n := 6) hx hb hK hP 13 0 rfl rfl (by omega) (by decide) dX1_takeFrom_66 ?_
        refine zx_ast (f := b 15) (n := 6) (ws' := (zy_w cI r) ((zx_up (zx_up (zx_up s 10 (s 20)) 11 (s 21)) 12 (s 22)), (zx_up (zx_up (zx_up b 13 (zx_up (b 13) i ((b 23) i))) 14 (zx_up (b 14) i ((b 24) i))) 15 (zx_up (b 15) i ((b 25) i))), z, ah)) hx hb hK hP hD hS 6 0 rfl rfl (by omega) (by decide) rfl dX1_takeFrom_67 (fun H locs hP hD hS => ?_)
        refine lv_iinc (v := nI (i + 1)) (lv' := [(2, .int (nI (i + 1))), (0, .ref (r 10)), (1, .ref (r 20))]) hx hb dX1_takeFrom_68 hl (k := 2) rfl (zx_inc _ _) (by decide) rfl (fun ls hl => ?_)
        refine lv_goto (tgt := 26) hx hb dX1_takeFrom_71 (by decide) ?_
        exact ih_26 (i + 1) (zx_up (zx_up (zx_up b 13 (zx_up (b 13) i ((b 23) i))) 14 (zx_up (b 14) i ((b 24) i))) 15 (zx_up (b 15) i ((b 25) i))) (by omega) (by omega) (zp_upN (y := b 13) (by rw [gk 23 (by decide) (by decide) (by decide)]) g13) (zp_upN (y := b 14) (by rw [gk 24 (by decide) (by decide) (by decide)]) g14) (zp_upN (y := b 15) (by rw [gk 25 (by decide) (by decide) (by decide)]) g15) (fun k h13 h14 h15 => (zx_up_ne _ _ h15).trans ((zx_up_ne _ _ h14).trans ((zx_up_ne _ _ h13).trans (gk k h13 h14 h15)))) _ rfl _ _ hP hD hS ls (lv_sub hl [1, 2, 0] rfl)
  exact lp_26 _ 0 a (Nat.lt_succ_self _) (Nat.zero_le _) (fun j hj => absurd hj (Nat.not_lt_zero j)) (fun j hj => absurd hj (Nat.not_lt_zero j)) (fun j hj => absurd hj (Nat.not_lt_zero j)) (fun k _ _ _ => rfl) _ rfl _ _ hP hD hS ls (lv_sub hl [1, 2, 0] rfl)
set_option maxHeartbeats 4000000 in
set_option maxRecDepth 100000 in
theorem c_X2_isDrawer (l : Launch) (D : va_G) (cI cB : ClassId) (r : Nat → Nat) (s : Nat → Nat) (a : Nat → Nat → Nat) (z : Nat → Int) (ah : Int) (x : Int32) (hI : zy_I s a z) : zx_C zx_ei l D (zm_t cI cB) (zy_w cI r) yX2_isDrawer wsX2_isDrawer rmX2_isDrawer [.ref (r 1), .int x] (s, a, z, ah) (fun v u' => v = zx_b (zd_drw (s 2) x).isSome ∧ u' = (s, a, z, ah)) := by
  refine zx_of_z (cc := cX2_isDrawer) (maxL := 2) (by decide) rfl (Nat.le_of_ble_eq_true rfl) ?_
  intro p e st m args below meth c A Q H cf hK hN hP hD hS hA hret ls hl
  obtain ⟨hx, hb, hml, hown, hts⟩ := id cf
  have hi2 : ∀ w ∈ wsX20, w ∈ wsX2_isDrawer := fun w h => List.mem_cons_of_mem _ (List.mem_append_right _ h)
  have k49 := hts (.fieldLink RX2 49 "NineDrawers" "hasChest" "Z") (List.mem_of_getElem? (i := 1) (by decide +kernel))
  have hl : lv_has ls 2 [(0, .ref (r 1)), (1, .int x)] := hl
  have hP : va_P D vwCl ((zy_w cI r) (s, a, z, ah)) H := hP
  have hD : va_D A ((zy_w cI r) (s, a, z, ah)) := hD
  obtain ⟨⟨i1, i2, i5, i7, i8, i10, i11, i12⟩, ⟨i20, i21, i22⟩, iG, iP, iL, iZ, jP, jL⟩ := id hI
  refine lv_aload_n hx hb dX2_isDrawer_0 rfl (lv_at hl 0 rfl) ?_
  refine va_get (D := D) (ci := 2) (v := .int (nI (s 2))) (C := RX2) (T := TX2) (N := 10) hx hb hts hi2 hown hK hP 0 rfl rfl 2 (by decide) k49 (fun _ h9 => h9) rfl dX2_isDrawer_1 ?_
  refine zx_if_eq hx hb (tgt := 21) (by omega) dX2_isDrawer_4 (by decide) (fun c_4 => ?_) (fun c_4 => ?_)
  · refine lv_iconst (v := nI 0) hx hb dX2_isDrawer_21 (by decide) ?_
    exact hret _ _ _ _ _ _ hP hD hS dX2_isDrawer_22 zx_nar0 ⟨zx_b_f (zd_drw_0 x c_4), rfl⟩
  · refine lv_iload_n hx hb dX2_isDrawer_7 rfl (lv_at hl 1 rfl) ?_
    refine lv_if_lt (tgt := 21) hx hb dX2_isDrawer_8 (by decide) (fun c_8 => ?_) (fun c_8 => ?_)
    · refine lv_iconst (v := nI 0) hx hb dX2_isDrawer_21 (by decide) ?_
      exact hret _ _ _ _ _ _ hP hD hS dX2_isDrawer_22 zx_nar0 ⟨zx_b_f ((zd_drw_b x c_4).trans (decide_eq_false (fun q9 => zx_lt0 c_8 q9.1))), rfl⟩
    · refine lv_iload_n hx hb dX2_isDrawer_11 rfl (lv_at hl 1 rfl) ?_
      refine lv_bipush (v := nI 9) hx hb dX2_isDrawer_12 (by decide) ?_
      refine lv_icmp_ge (tgt := 21) hx hb dX2_isDrawer_14 (by decide) (fun c_14 => ?_) (fun c_14 => ?_)
      · refine lv_iconst (v := nI 0) hx hb dX2_isDrawer_21 (by decide) ?_
        exact hret _ _ _ _ _ _ hP hD hS dX2_isDrawer_22 zx_nar0 ⟨zx_b_f ((zd_drw_b x c_4).trans (decide_eq_false (fun q9 => zx_geN (by decide) c_14 q9.2))), rfl⟩
      · refine lv_iconst (v := nI 1) hx hb dX2_isDrawer_17 (by decide) ?_
        refine lv_goto (tgt := 22) hx hb dX2_isDrawer_18 (by decide) ?_
        exact hret _ _ _ _ _ _ hP hD hS dX2_isDrawer_22 zx_nar1 ⟨zx_b_t ((zd_drw_b x c_4).trans (decide_eq_true ⟨zx_nlt c_8, zx_ltN (by decide) c_14⟩)), rfl⟩
set_option maxHeartbeats 4000000 in
set_option maxRecDepth 100000 in
theorem c_X2_isPerson (l : Launch) (D : va_G) (cI cB : ClassId) (r : Nat → Nat) (s : Nat → Nat) (a : Nat → Nat → Nat) (z : Nat → Int) (ah : Int) (x : Int32) (hI : zy_I s a z) : zx_C zx_ei l D (zm_t cI cB) (zy_w cI r) yX2_isPerson wsX2_isPerson rmX2_isPerson [.ref (r 1), .int x] (s, a, z, ah) (fun v u' => v = zx_b (zd_per (s 11) x).isSome ∧ u' = (s, a, z, ah)) := by
  refine zx_of_z (cc := cX2_isPerson) (maxL := 2) (by decide) rfl (Nat.le_of_ble_eq_true rfl) ?_
  intro p e st m args below meth c A Q H cf hK hN hP hD hS hA hret ls hl
  obtain ⟨hx, hb, hml, hown, hts⟩ := id cf
  have hi2 : ∀ w ∈ wsX20, w ∈ wsX2_isPerson := fun w h => List.mem_cons_of_mem _ (List.mem_append_left _ (List.mem_append_right _ h))
  have hi1 : ∀ w ∈ wsX10, w ∈ wsX2_isPerson := fun w h => List.mem_cons_of_mem _ (List.mem_append_right _ h)
  have k19 := hts (.fieldLink RX2 19 "NineDrawers" "hall" "LNineDrawers$Hall;") (List.mem_of_getElem? (i := 1) (by decide +kernel))
  have k94 := hts (.fieldLink RX2 94 "NineDrawers$Hall" "people" "I") (List.mem_of_getElem? (i := 2) (by decide +kernel))
  have hl : lv_has ls 2 [(0, .ref (r 1)), (1, .int x)] := hl
  have hP : va_P D vwCl ((zy_w cI r) (s, a, z, ah)) H := hP
  have hD : va_D A ((zy_w cI r) (s, a, z, ah)) := hD
  obtain ⟨⟨i1, i2, i5, i7, i8, i10, i11, i12⟩, ⟨i20, i21, i22⟩, iG, iP, iL, iZ, jP, jL⟩ := id hI
  refine lv_iload_n hx hb dX2_isPerson_0 rfl (lv_at hl 1 rfl) ?_
  refine lv_if_lt (tgt := 19) hx hb dX2_isPerson_1 (by decide) (fun c_1 => ?_) (fun c_1 => ?_)
  · refine lv_iconst (v := nI 0) hx hb dX2_isPerson_19 (by decide) ?_
    exact hret _ _ _ _ _ _ hP hD hS dX2_isPerson_20 zx_nar0 ⟨zx_b_f (zd_perF (by omega) (Or.inl c_1)), rfl⟩
  · refine lv_iload_n hx hb dX2_isPerson_4 rfl (lv_at hl 1 rfl) ?_
    refine lv_aload_n hx hb dX2_isPerson_5 rfl (lv_at hl 0 rfl) ?_
    refine va_get (D := D) (ci := 2) (v := .ref (r 10)) (C := RX2) (T := TX2) (N := 10) hx hb hts hi2 hown hK hP 0 rfl rfl 4 (by decide) k19 (fun _ h9 => h9) rfl dX2_isPerson_6 ?_
    refine va_get (D := D) (ci := 1) (v := .int (nI (s 11))) (C := RX1) (T := TX1) (N := 9) hx hb hts hi1 hown hK hP 3 rfl rfl 1 (by decide) k94 (fun _ h9 => h9) rfl dX2_isPerson_9 ?_
    refine lv_icmp_ge (tgt := 19) hx hb dX2_isPerson_12 (by decide) (fun c_12 => ?_) (fun c_12 => ?_)
    · refine lv_iconst (v := nI 0) hx hb dX2_isPerson_19 (by decide) ?_
      exact hret _ _ _ _ _ _ hP hD hS dX2_isPerson_20 zx_nar0 ⟨zx_b_f (zd_perF (by omega) (Or.inr c_12)), rfl⟩
    · refine lv_iconst (v := nI 1) hx hb dX2_isPerson_15 (by decide) ?_
      refine lv_goto (tgt := 20) hx hb dX2_isPerson_16 (by decide) ?_
      exact hret _ _ _ _ _ _ hP hD hS dX2_isPerson_20 zx_nar1 ⟨zx_b_t (zd_perT (by omega) c_1 c_12), rfl⟩
set_option maxHeartbeats 4000000 in
set_option maxRecDepth 100000 in
theorem c_X2_aheadOf (l : Launch) (D : va_G) (cI cB : ClassId) (r : Nat → Nat) (s : Nat → Nat) (a : Nat → Nat → Nat) (z : Nat → Int) (ah : Int) (d : Nat) (hI : zy_I s a z) (hd : d < 9) : zx_C zx_ei l D (zm_t cI cB) (zy_w cI r) yX2_aheadOf wsX2_aheadOf rmX2_aheadOf [.ref (r 1), .int (nI d)] (s, a, z, ah) (fun v u' => v = zx_i (zp_ah (s 10) (z d)) ∧ u' = (s, a, z, ah)) := by
  refine zx_of_i (cc := cX2_aheadOf) (maxL := 2) (by decide) rfl (Nat.le_of_ble_eq_true rfl) ?_
  intro p e st m args below meth c A Q H cf hK hN hP hD hS hA hret ls hl
  obtain ⟨hx, hb, hml, hown, hts⟩ := id cf
  have hi2 : ∀ w ∈ wsX20, w ∈ wsX2_aheadOf := fun w h => List.mem_cons_of_mem _ (List.mem_append_left _ (List.mem_append_right _ h))
  have hi1 : ∀ w ∈ wsX10, w ∈ wsX2_aheadOf := fun w h => List.mem_cons_of_mem _ (List.mem_append_right _ h)
  have k19 := hts (.fieldLink RX2 19 "NineDrawers" "hall" "LNineDrawers$Hall;") (List.mem_of_getElem? (i := 1) (by decide +kernel))
  have k59 := hts (.fieldLink RX2 59 "NineDrawers$Hall" "facing" "I") (List.mem_of_getElem? (i := 2) (by decide +kernel))
  have k13 := hts (.fieldLink RX2 13 "NineDrawers" "delayOf" "[I") (List.mem_of_getElem? (i := 3) (by decide +kernel))
  have hl : lv_has ls 2 [(0, .ref (r 1)), (1, .int (nI d))] := hl
  have hP : va_P D vwCl ((zy_w cI r) (s, a, z, ah)) H := hP
  have hD : va_D A ((zy_w cI r) (s, a, z, ah)) := hD
  obtain ⟨⟨i1, i2, i5, i7, i8, i10, i11, i12⟩, ⟨i20, i21, i22⟩, iG, iP, iL, iZ, jP, jL⟩ := id hI
  refine lv_aload_n hx hb dX2_aheadOf_0 rfl (lv_at hl 0 rfl) ?_
  refine va_get (D := D) (ci := 2) (v := .ref (r 10)) (C := RX2) (T := TX2) (N := 10) hx hb hts hi2 hown hK hP 0 rfl rfl 4 (by decide) k19 (fun _ h9 => h9) rfl dX2_aheadOf_1 ?_
  refine va_get (D := D) (ci := 1) (v := .int (nI (s 10))) (C := RX1) (T := TX1) (N := 9) hx hb hts hi1 hown hK hP 3 rfl rfl 0 (by decide) k59 (fun _ h9 => h9) rfl dX2_aheadOf_4 ?_
  by_cases c_7_0 : s 10 = 0
  · refine lv_tableIn (off := 25) (tgt := 32) hx hb dX2_aheadOf_7 (by rw [c_7_0]; decide) (by rw [c_7_0]; decide) (by rw [c_7_0]; rfl) (by decide) ?_
    refine lv_aload_n hx hb dX2_aheadOf_32 rfl (lv_at hl 0 rfl) ?_
    refine va_get (D := D) (ci := 2) (v := .ref (r 3)) (C := RX2) (T := TX2) (N := 10) hx hb hts hi2 hown hK hP 0 rfl rfl 3 (by decide) k13 (fun _ h9 => h9) rfl dX2_aheadOf_33 ?_
    refine lv_iload_n hx hb dX2_aheadOf_36 rfl (lv_at hl 1 rfl) ?_
    refine zx_aldI (f := z) (n := 9) hx hb hK hP 2 0 rfl rfl (by omega) (by decide) dX2_aheadOf_37 ?_
    exact hret _ _ _ _ _ _ hP hD hS dX2_aheadOf_38 ⟨by rw [c_7_0]; rfl, rfl⟩
  by_cases c_7_1 : s 10 = 1
  · refine lv_tableIn (off := 32) (tgt := 39) hx hb dX2_aheadOf_7 (by rw [c_7_1]; decide) (by rw [c_7_1]; decide) (by rw [c_7_1]; rfl) (by decide) ?_
    refine lv_aload_n hx hb dX2_aheadOf_39 rfl (lv_at hl 0 rfl) ?_
    refine va_get (D := D) (ci := 2) (v := .ref (r 3)) (C := RX2) (T := TX2) (N := 10) hx hb hts hi2 hown hK hP 0 rfl rfl 3 (by decide) k13 (fun _ h9 => h9) rfl dX2_aheadOf_40 ?_
    refine lv_iload_n hx hb dX2_aheadOf_43 rfl (lv_at hl 1 rfl) ?_
    refine zx_aldI (f := z) (n := 9) hx hb hK hP 2 0 rfl rfl (by omega) (by decide) dX2_aheadOf_44 ?_
    refine lv_iconst (v := nI 1) hx hb dX2_aheadOf_45 (by decide) ?_
    refine lv_iadd hx hb dX2_aheadOf_46 ?_
    refine zx_topi (y := zx_i (z d + 1)) ((zx_i_add (z d) 1)) ?_
    exact hret _ _ _ _ _ _ hP hD hS dX2_aheadOf_47 ⟨by rw [c_7_1]; rfl, rfl⟩
  by_cases c_7_2 : s 10 = 2
  · refine lv_tableIn (off := 41) (tgt := 48) hx hb dX2_aheadOf_7 (by rw [c_7_2]; decide) (by rw [c_7_2]; decide) (by rw [c_7_2]; rfl) (by decide) ?_
    refine lv_aload_n hx hb dX2_aheadOf_48 rfl (lv_at hl 0 rfl) ?_
    refine va_get (D := D) (ci := 2) (v := .ref (r 3)) (C := RX2) (T := TX2) (N := 10) hx hb hts hi2 hown hK hP 0 rfl rfl 3 (by decide) k13 (fun _ h9 => h9) rfl dX2_aheadOf_49 ?_
    refine lv_iload_n hx hb dX2_aheadOf_52 rfl (lv_at hl 1 rfl) ?_
    refine zx_aldI (f := z) (n := 9) hx hb hK hP 2 0 rfl rfl (by omega) (by decide) dX2_aheadOf_53 ?_
    refine zx_inegI hx hb dX2_aheadOf_54 ?_
    exact hret _ _ _ _ _ _ hP hD hS dX2_aheadOf_55 ⟨by rw [c_7_2]; rfl, rfl⟩
  refine lv_tableOut (tgt := 56) hx hb dX2_aheadOf_7 (zx_tout (by omega) (by omega)) (by decide) ?_
  refine lv_iconst (v := nI 0) hx hb dX2_aheadOf_56 (by decide) ?_
  exact hret _ _ _ _ _ _ hP hD hS dX2_aheadOf_57 ⟨by unfold zp_ah; rw [if_neg c_7_0, if_neg c_7_1, if_neg c_7_2]; rfl, rfl⟩
set_option maxHeartbeats 4000000 in
set_option maxRecDepth 100000 in
theorem c_X2_fittingLetters (l : Launch) (D : va_G) (cI cB : ClassId) (r : Nat → Nat) (s : Nat → Nat) (a : Nat → Nat → Nat) (z : Nat → Int) (ah : Int) (hI : zy_I s a z) : zx_C zx_ei l D (zm_t cI cB) (zy_w cI r) yX2_fittingLetters wsX2_fittingLetters rmX2_fittingLetters [.ref (r 1)] (s, a, z, ah) (fun v u' => v = nI (zp_flt (s 1) (a 0)) ∧ u' = (s, a, z, ah)) := by
  refine zx_of_i (cc := cX2_fittingLetters) (maxL := 2) (by decide) rfl (Nat.le_of_ble_eq_true rfl) ?_
  intro p e st m args below meth c A Q H cf hK hN hP hD hS hA hret ls hl
  obtain ⟨hx, hb, hml, hown, hts⟩ := id cf
  have hi2 : ∀ w ∈ wsX20, w ∈ wsX2_fittingLetters := fun w h => List.mem_cons_of_mem _ (List.mem_append_right _ h)
  have k33 := hts (.fieldLink RX2 33 "NineDrawers" "pageLength" "I") (List.mem_of_getElem? (i := 1) (by decide +kernel))
  have k9 := hts (.fieldLink RX2 9 "NineDrawers" "page" "[I") (List.mem_of_getElem? (i := 2) (by decide +kernel))
  have hl : lv_has ls 2 [(0, .ref (r 1))] := hl
  have hP : va_P D vwCl ((zy_w cI r) (s, a, z, ah)) H := hP
  have hD : va_D A ((zy_w cI r) (s, a, z, ah)) := hD
  obtain ⟨⟨i1, i2, i5, i7, i8, i10, i11, i12⟩, ⟨i20, i21, i22⟩, iG, iP, iL, iZ, jP, jL⟩ := id hI
  refine lv_iconst (v := nI 0) hx hb dX2_fittingLetters_0 (by decide) ?_
  refine lv_istore_n (lv' := [(1, .int (nI 0)), (0, .ref (r 1))]) hx hb dX2_fittingLetters_1 rfl hl (by decide) rfl (fun ls hl => ?_)
  have lp_2 : ∀ (n_ : Nat) (k : Nat), s 1 - k < n_ → (k ≤ s 1) → (∀ j, j < k → zp_okl j (a 0 j) = true) → ∀ x1 : Int32, x1 = nI k → ∀ (H : Heap) (locs : List Loc), va_P D vwCl ((zy_w cI r) (s, a, z, ah)) H → va_D A ((zy_w cI r) (s, a, z, ah)) → va_S A st.heap H locs → ∀ ls : Array Slot, lv_has ls 2 [(0, .ref (r 1)), (1, .int x1)] → W p l e rmX2_fittingLetters st m args below meth c H locs 0 0 Q (F0 m 2 ls []) := by
    intro n_
    induction n_ with
    | zero => intros; omega
    | succ n_ ih_2 =>
      intro k hmu_2 hk9 hno
      intro x1 ex1; subst ex1
      intro H locs hP hD hS ls hl
      have hl : lv_has ls 2 [(0, .ref (r 1)), (1, .int (nI k))] := hl
      refine lv_iload_n hx hb dX2_fittingLetters_2 rfl (lv_at hl 1 rfl) ?_
      refine lv_aload_n hx hb dX2_fittingLetters_3 rfl (lv_at hl 0 rfl) ?_
      refine va_get (D := D) (ci := 2) (v := .int (nI (s 1))) (C := RX2) (T := TX2) (N := 10) hx hb hts hi2 hown hK hP 0 rfl rfl 1 (by decide) k33 (fun _ h9 => h9) rfl dX2_fittingLetters_4 ?_
      refine zx_icmp_ge hx hb (tgt := 40) (by omega) (by omega) dX2_fittingLetters_7 (by decide) (fun c_7 => ?_) (fun c_7 => ?_)
      · refine lv_aload_n hx hb dX2_fittingLetters_40 rfl (lv_at hl 0 rfl) ?_
        refine va_get (D := D) (ci := 2) (v := .int (nI (s 1))) (C := RX2) (T := TX2) (N := 10) hx hb hts hi2 hown hK hP 0 rfl rfl 1 (by decide) k33 (fun _ h9 => h9) rfl dX2_fittingLetters_41 ?_
        exact hret _ _ _ _ _ _ hP hD hS dX2_fittingLetters_44 ⟨(congrArg nI (show s 1 = k by omega)).trans (zp_flt_eq hk9 hno (Or.inl (by omega))), rfl⟩
      · refine lv_iload_n hx hb dX2_fittingLetters_10 rfl (lv_at hl 1 rfl) ?_
        refine lv_aload_n hx hb dX2_fittingLetters_11 rfl (lv_at hl 0 rfl) ?_
        refine va_get (D := D) (ci := 2) (v := .ref (r 0)) (C := RX2) (T := TX2) (N := 10) hx hb hts hi2 hown hK hP 0 rfl rfl 0 (by decide) k9 (fun _ h9 => h9) rfl dX2_fittingLetters_12 ?_
        refine va_alen (v := nI 12) hx hb hK hP 1 0 rfl rfl rfl dX2_fittingLetters_15 ?_
        refine zx_icmp_ge hx hb (tgt := 40) (by omega) (by omega) dX2_fittingLetters_16 (by decide) (fun c_16 => ?_) (fun c_16 => ?_)
        · refine lv_aload_n hx hb dX2_fittingLetters_40 rfl (lv_at hl 0 rfl) ?_
          refine va_get (D := D) (ci := 2) (v := .int (nI (s 1))) (C := RX2) (T := TX2) (N := 10) hx hb hts hi2 hown hK hP 0 rfl rfl 1 (by decide) k33 (fun _ h9 => h9) rfl dX2_fittingLetters_41 ?_
          exact hret _ _ _ _ _ _ hP hD hS dX2_fittingLetters_44 ⟨(congrArg nI (show s 1 = k by omega)).trans (zp_flt_eq hk9 hno (Or.inl (by omega))), rfl⟩
        · refine lv_iload_n hx hb dX2_fittingLetters_19 rfl (lv_at hl 1 rfl) ?_
          refine lv_aload_n hx hb dX2_fittingLetters_20 rfl (lv_at hl 0 rfl) ?_
          refine va_get (D := D) (ci := 2) (v := .ref (r 0)) (C := RX2) (T := TX2) (N := 10) hx hb hts hi2 hown hK hP 0 rfl rfl 0 (by decide) k9 (fun _ h9 => h9) rfl dX2_fittingLetters_21 ?_
          refine lv_iload_n hx hb dX2_fittingLetters_24 rfl (lv_at hl 1 rfl) ?_
          refine zx_ald (f := a 0) (n := 12) hx hb hK hP 1 0 rfl rfl (by omega) (by decide) dX2_fittingLetters_25 ?_
          refine zx_S (As := [.int (nI k), .int (nI ((a 0) k))]) (rest := []) cf (c_X2_fits l D k ((a 0) k) (by omega) (iG k (by omega))) (va_cwS 2 hts gX2_fittingLetters_X2_fits rfl rfl rfl hd_X2_fits ⟨Nat.le_of_ble_eq_true rfl, Nat.le_of_ble_eq_true rfl⟩) hK hN hP hS hA rfl hl.1 rfl (Nat.le_of_ble_eq_true rfl) dX2_fittingLetters_26 ⟨Nat.zero_le _, Nat.zero_le _⟩ (fun H locs hP hS => ?_)
          refine zx_bf_ne hx hb (tgt := 34) dX2_fittingLetters_29 (by decide) (fun c_29 => ?_) (fun c_29 => ?_)
          · refine lv_iinc (v := nI (k + 1)) (lv' := [(1, .int (nI (k + 1))), (0, .ref (r 1))]) hx hb dX2_fittingLetters_34 hl (k := 1) rfl (zx_inc _ _) (by decide) rfl (fun ls hl => ?_)
            refine lv_goto (tgt := 2) hx hb dX2_fittingLetters_37 (by decide) ?_
            exact ih_2 (k + 1) (by omega) (by omega) (lt_s hno c_29) _ rfl _ _ hP hD hS ls (lv_sub hl [1, 0] rfl)
          · refine lv_iload_n hx hb dX2_fittingLetters_32 rfl (lv_at hl 1 rfl) ?_
            exact hret _ _ _ _ _ _ hP hD hS dX2_fittingLetters_33 ⟨zp_flt_eq hk9 hno (Or.inr c_29), rfl⟩
  exact lp_2 _ 0 (Nat.lt_succ_self _) (Nat.zero_le _) (fun j hj => absurd hj (Nat.not_lt_zero j)) _ rfl _ _ hP hD hS ls (lv_sub hl [1, 0] rfl)
set_option maxHeartbeats 4000000 in
set_option maxRecDepth 100000 in
theorem c_X2_fault (l : Launch) (D : va_G) (cI cB : ClassId) (r : Nat → Nat) (s : Nat → Nat) (a : Nat → Nat → Nat) (z : Nat → Int) (ah : Int) (hI : zy_I s a z) : zx_C zx_ei l D (zm_t cI cB) (zy_w cI r) yX2_fault wsX2_fault rmX2_fault [.ref (r 1)] (s, a, z, ah) (fun v u' => v = nI (zp_flt (s 1) (a 0)) ∧ u' = (s, a, z, ah)) := by
  refine zx_of_i (cc := cX2_fault) (maxL := 1) (by decide) rfl (Nat.le_of_ble_eq_true rfl) ?_
  intro p e st m args below meth c A Q H cf hK hN hP hD hS hA hret ls hl
  obtain ⟨hx, hb, hml, hown, hts⟩ := id cf
  have hl : lv_has ls 1 [(0, .ref (r 1))] := hl
  have hP : va_P D vwCl ((zy_w cI r) (s, a, z, ah)) H := hP
  have hD : va_D A ((zy_w cI r) (s, a, z, ah)) := hD
  refine lv_aload_n hx hb dX2_fault_0 rfl (lv_at hl 0 rfl) ?_
  refine zx_V_i (As := []) (rest := []) cf (c_X2_fittingLetters l D cI cB r s a z ah  hI) (cwV 0 hts gX2_fault_X2_fittingLetters rfl rfl rfl ⟨rfl, hd_X2_fittingLetters⟩ ⟨Nat.le_of_ble_eq_true rfl, Nat.le_of_ble_eq_true rfl⟩) hK hN hP hD hS hA 0 rfl rfl rfl hl.1 rfl (Nat.le_of_ble_eq_true rfl) dX2_fault_1 ⟨Nat.zero_le _, Nat.zero_le _⟩ (fun v_1 u_1 H locs hq hP hD hS => ?_)
  obtain ⟨rfl, rfl⟩ := hq
  exact hret _ _ _ _ _ _ hP hD hS dX2_fault_4 ⟨rfl, rfl⟩
set_option maxHeartbeats 4000000 in
set_option maxRecDepth 100000 in
theorem c_X2_letter (l : Launch) (D : va_G) (cI cB : ClassId) (r : Nat → Nat) (s : Nat → Nat) (a : Nat → Nat → Nat) (z : Nat → Int) (ah : Int) (x : Int32) (hI : zy_I s a z) : zx_C zx_ei l D (zm_t cI cB) (zy_w cI r) yX2_letter wsX2_letter rmX2_letter [.ref (r 1), .int x] (s, a, z, ah) (fun v u' => zd_out (zd_letter (s 1) x) (fun e9 => v = e9 ∧ u' = (s, a, z, ah)) (fun k => v = nI (s 1 + 1) ∧ u' = (zx_up s 1 (s 1 + 1), zx_up a 0 (zx_up (a 0) (s 1) k), z, ah))) := by
  refine zx_of_i (cc := cX2_letter) (maxL := 2) (by decide) rfl (Nat.le_of_ble_eq_true rfl) ?_
  intro p e st m args below meth c A Q H cf hK hN hP hD hS hA hret ls hl
  obtain ⟨hx, hb, hml, hown, hts⟩ := id cf
  have hi2 : ∀ w ∈ wsX20, w ∈ wsX2_letter := fun w h => List.mem_cons_of_mem _ (List.mem_append_right _ h)
  have k33 := hts (.fieldLink RX2 33 "NineDrawers" "pageLength" "I") (List.mem_of_getElem? (i := 1) (by decide +kernel))
  have k9 := hts (.fieldLink RX2 9 "NineDrawers" "page" "[I") (List.mem_of_getElem? (i := 2) (by decide +kernel))
  have hl : lv_has ls 2 [(0, .ref (r 1)), (1, .int x)] := hl
  have hP : va_P D vwCl ((zy_w cI r) (s, a, z, ah)) H := hP
  have hD : va_D A ((zy_w cI r) (s, a, z, ah)) := hD
  obtain ⟨⟨i1, i2, i5, i7, i8, i10, i11, i12⟩, ⟨i20, i21, i22⟩, iG, iP, iL, iZ, jP, jL⟩ := id hI
  refine lv_iload_n hx hb dX2_letter_0 rfl (lv_at hl 1 rfl) ?_
  refine lv_bipush (v := nI 32) hx hb dX2_letter_1 (by decide) ?_
  refine lv_icmp_lt (tgt := 12) hx hb dX2_letter_3 (by decide) (fun c_3 => ?_) (fun c_3 => ?_)
  · refine lv_bipush (v := (-102)) hx hb dX2_letter_12 (by decide) ?_
    exact hret _ _ _ _ _ _ hP hD hS dX2_letter_14 (zd_inl (by unfold zd_letter; rw [zd_nos (decide_eq_false (fun q9 => zx_ltle c_3 q9.1))]) ⟨rfl, rfl⟩)
  · refine lv_iload_n hx hb dX2_letter_6 rfl (lv_at hl 1 rfl) ?_
    refine lv_bipush (v := nI 126) hx hb dX2_letter_7 (by decide) ?_
    refine lv_icmp_le (tgt := 15) hx hb dX2_letter_9 (by decide) (fun c_9 => ?_) (fun c_9 => ?_)
    · obtain ⟨k, rfl, hk1, hk2, hz⟩ := zd_yes (lo := 32) (hi := 126) (by decide) (by decide) (decide_eq_true ⟨zx_nlt c_3, c_9⟩)
      refine lv_aload_n hx hb dX2_letter_15 rfl (lv_at hl 0 rfl) ?_
      refine va_get (D := D) (ci := 2) (v := .int (nI (s 1))) (C := RX2) (T := TX2) (N := 10) hx hb hts hi2 hown hK hP 0 rfl rfl 1 (by decide) k33 (fun _ h9 => h9) rfl dX2_letter_16 ?_
      refine lv_aload_n hx hb dX2_letter_19 rfl (lv_at hl 0 rfl) ?_
      refine va_get (D := D) (ci := 2) (v := .ref (r 0)) (C := RX2) (T := TX2) (N := 10) hx hb hts hi2 hown hK hP 0 rfl rfl 0 (by decide) k9 (fun _ h9 => h9) rfl dX2_letter_20 ?_
      refine va_alen (v := nI 12) hx hb hK hP 1 0 rfl rfl rfl dX2_letter_23 ?_
      refine zx_icmp_lt hx hb (tgt := 30) (by omega) (by omega) dX2_letter_24 (by decide) (fun c_24 => ?_) (fun c_24 => ?_)
      · refine lv_aload_n hx hb dX2_letter_30 rfl (lv_at hl 0 rfl) ?_
        refine va_get (D := D) (ci := 2) (v := .ref (r 0)) (C := RX2) (T := TX2) (N := 10) hx hb hts hi2 hown hK hP 0 rfl rfl 0 (by decide) k9 (fun _ h9 => h9) rfl dX2_letter_31 ?_
        refine lv_aload_n hx hb dX2_letter_34 rfl (lv_at hl 0 rfl) ?_
        refine va_get (D := D) (ci := 2) (v := .int (nI (s 1))) (C := RX2) (T := TX2) (N := 10) hx hb hts hi2 hown hK hP 0 rfl rfl 1 (by decide) k33 (fun _ h9 => h9) rfl dX2_letter_35 ?_
        refine lv_iload_n hx hb dX2_letter_38 rfl (lv_at hl 1 rfl) ?_
        refine zx_ast (f := a 0) (n := 12) (ws' := (zy_w cI r) (s, (zx_up a 0 (zx_up (a 0) (s 1) k)), z, ah)) hx hb hK hP hD hS 1 0 rfl rfl (by omega) (by decide) rfl dX2_letter_39 (fun H locs hP hD hS => ?_)
        refine lv_aload_n hx hb dX2_letter_40 rfl (lv_at hl 0 rfl) ?_
        refine lv_dup hx hb dX2_letter_41 rfl ?_
        refine va_get (D := D) (ci := 2) (v := .int (nI (s 1))) (C := RX2) (T := TX2) (N := 10) hx hb hts hi2 hown hK hP 0 rfl rfl 1 (by decide) k33 (fun _ h9 => h9) rfl dX2_letter_42 ?_
        refine lv_iconst (v := nI 1) hx hb dX2_letter_45 (by decide) ?_
        refine zx_iadd hx hb dX2_letter_46 ?_
        refine zx_put (D := D) (ci := 2) (ty := .int) (v := .int (nI ((s 1) + 1))) (ws' := (zy_w cI r) ((zx_up s 1 ((s 1) + 1)), (zx_up a 0 (zx_up (a 0) (s 1) k)), z, ah)) (C := RX2) (T := TX2) (N := 10) hx hb hts hi2 tyX2 tyX2_ok nmX2 hown hK hP hD hS 0 rfl rfl 1 (by decide) k33 (fun _ h9 => h9) rfl (by decide +kernel) rfl rfl (Nat.le_of_ble_eq_true rfl) rfl dX2_letter_47 (fun H locs hP hD hS => ?_)
        refine lv_aload_n hx hb dX2_letter_50 rfl (lv_at hl 0 rfl) ?_
        refine va_get (D := D) (ci := 2) (v := .int (nI ((s 1) + 1))) (C := RX2) (T := TX2) (N := 10) hx hb hts hi2 hown hK hP 0 rfl rfl 1 (by decide) k33 (fun _ h9 => h9) rfl dX2_letter_51 ?_
        exact hret _ _ _ _ _ _ hP hD hS dX2_letter_54 (zd_inr (k := k) (by unfold zd_letter; rw [hz]; exact if_neg (by omega)) ⟨rfl, rfl⟩)
      · refine lv_bipush (v := (-104)) hx hb dX2_letter_27 (by decide) ?_
        exact hret _ _ _ _ _ _ hP hD hS dX2_letter_29 (zd_inl (by unfold zd_letter; rw [hz]; exact if_pos (by omega)) ⟨rfl, rfl⟩)
    · refine lv_bipush (v := (-102)) hx hb dX2_letter_12 (by decide) ?_
      exact hret _ _ _ _ _ _ hP hD hS dX2_letter_14 (zd_inl (by unfold zd_letter; rw [zd_nos (decide_eq_false (fun q9 => c_9 q9.2))]) ⟨rfl, rfl⟩)
set_option maxHeartbeats 4000000 in
set_option maxRecDepth 100000 in
theorem c_X2_blank (l : Launch) (D : va_G) (cI cB : ClassId) (r : Nat → Nat) (s : Nat → Nat) (a : Nat → Nat → Nat) (z : Nat → Int) (ah : Int) (hI : zy_I s a z) : zx_C zx_ei l D (zm_t cI cB) (zy_w cI r) yX2_blank wsX2_blank rmX2_blank [.ref (r 1)] (s, a, z, ah) (fun v u' => v = nI (s 1) ∧ u' = (zx_up s 1 0, a, z, ah)) := by
  refine zx_of_i (cc := cX2_blank) (maxL := 2) (by decide) rfl (Nat.le_of_ble_eq_true rfl) ?_
  intro p e st m args below meth c A Q H cf hK hN hP hD hS hA hret ls hl
  obtain ⟨hx, hb, hml, hown, hts⟩ := id cf
  have hi2 : ∀ w ∈ wsX20, w ∈ wsX2_blank := fun w h => List.mem_cons_of_mem _ (List.mem_append_right _ h)
  have k33 := hts (.fieldLink RX2 33 "NineDrawers" "pageLength" "I") (List.mem_of_getElem? (i := 1) (by decide +kernel))
  have hl : lv_has ls 2 [(0, .ref (r 1))] := hl
  have hP : va_P D vwCl ((zy_w cI r) (s, a, z, ah)) H := hP
  have hD : va_D A ((zy_w cI r) (s, a, z, ah)) := hD
  refine lv_aload_n hx hb dX2_blank_0 rfl (lv_at hl 0 rfl) ?_
  refine va_get (D := D) (ci := 2) (v := .int (nI (s 1))) (C := RX2) (T := TX2) (N := 10) hx hb hts hi2 hown hK hP 0 rfl rfl 1 (by decide) k33 (fun _ h9 => h9) rfl dX2_blank_1 ?_
  refine lv_istore_n (lv' := [(1, .int (nI (s 1))), (0, .ref (r 1))]) hx hb dX2_blank_4 rfl hl (by decide) rfl (fun ls hl => ?_)
  refine lv_aload_n hx hb dX2_blank_5 rfl (lv_at hl 1 rfl) ?_
  refine lv_iconst (v := nI 0) hx hb dX2_blank_6 (by decide) ?_
  refine zx_put (D := D) (ci := 2) (ty := .int) (v := .int (nI 0)) (ws' := (zy_w cI r) ((zx_up s 1 0), a, z, ah)) (C := RX2) (T := TX2) (N := 10) hx hb hts hi2 tyX2 tyX2_ok nmX2 hown hK hP hD hS 0 rfl rfl 1 (by decide) k33 (fun _ h9 => h9) rfl (by decide +kernel) rfl rfl (Nat.le_of_ble_eq_true rfl) rfl dX2_blank_7 (fun H locs hP hD hS => ?_)
  refine lv_iload_n hx hb dX2_blank_10 rfl (lv_at hl 0 rfl) ?_
  exact hret _ _ _ _ _ _ hP hD hS dX2_blank_11 ⟨rfl, rfl⟩
set_option maxHeartbeats 4000000 in
set_option maxRecDepth 100000 in
theorem c_X2_face (l : Launch) (D : va_G) (cI cB : ClassId) (r : Nat → Nat) (s : Nat → Nat) (a : Nat → Nat → Nat) (z : Nat → Int) (ah : Int) (x : Int32) (hI : zy_I s a z) : zx_C zx_ei l D (zm_t cI cB) (zy_w cI r) yX2_face wsX2_face rmX2_face [.ref (r 1), .int x] (s, a, z, ah) (fun v u' => zd_out (zd_face (s 2) x) (fun e9 => v = e9 ∧ u' = (s, a, z, ah)) (fun k => v = nI (s 10) ∧ u' = (zx_up s 10 k, a, z, ah))) := by
  refine zx_of_i (cc := cX2_face) (maxL := 3) (by decide) rfl (Nat.le_of_ble_eq_true rfl) ?_
  intro p e st m args below meth c A Q H cf hK hN hP hD hS hA hret ls hl
  obtain ⟨hx, hb, hml, hown, hts⟩ := id cf
  have hi2 : ∀ w ∈ wsX20, w ∈ wsX2_face := fun w h => List.mem_cons_of_mem _ (List.mem_append_left _ (List.mem_append_right _ h))
  have hi1 : ∀ w ∈ wsX10, w ∈ wsX2_face := fun w h => List.mem_cons_of_mem _ (List.mem_append_right _ h)
  have k49 := hts (.fieldLink RX2 49 "NineDrawers" "hasChest" "Z") (List.mem_of_getElem? (i := 1) (by decide +kernel))
  have k19 := hts (.fieldLink RX2 19 "NineDrawers" "hall" "LNineDrawers$Hall;") (List.mem_of_getElem? (i := 2) (by decide +kernel))
  have k59 := hts (.fieldLink RX2 59 "NineDrawers$Hall" "facing" "I") (List.mem_of_getElem? (i := 3) (by decide +kernel))
  have hl : lv_has ls 3 [(0, .ref (r 1)), (1, .int x)] := hl
  have hP : va_P D vwCl ((zy_w cI r) (s, a, z, ah)) H := hP
  have hD : va_D A ((zy_w cI r) (s, a, z, ah)) := hD
  obtain ⟨⟨i1, i2, i5, i7, i8, i10, i11, i12⟩, ⟨i20, i21, i22⟩, iG, iP, iL, iZ, jP, jL⟩ := id hI
  refine lv_iload_n hx hb dX2_face_0 rfl (lv_at hl 1 rfl) ?_
  refine lv_if_lt (tgt := 9) hx hb dX2_face_1 (by decide) (fun c_1 => ?_) (fun c_1 => ?_)
  · refine lv_bipush (v := (-102)) hx hb dX2_face_9 (by decide) ?_
    exact hret _ _ _ _ _ _ hP hD hS dX2_face_11 (zd_inl (by unfold zd_face; rw [zd_nos (decide_eq_false (fun q9 => zx_lt0 c_1 q9.1))]) ⟨rfl, rfl⟩)
  · refine lv_iload_n hx hb dX2_face_4 rfl (lv_at hl 1 rfl) ?_
    refine lv_iconst (v := nI 4) hx hb dX2_face_5 (by decide) ?_
    refine lv_icmp_lt (tgt := 12) hx hb dX2_face_6 (by decide) (fun c_6 => ?_) (fun c_6 => ?_)
    · obtain ⟨k, rfl, hk1, hk2, hz⟩ := zd_yes (lo := 0) (hi := 3) (by decide) (by decide) (decide_eq_true ⟨zx_nlt c_1, zx_lt3 c_6⟩)
      refine lv_aload_n hx hb dX2_face_12 rfl (lv_at hl 0 rfl) ?_
      refine va_get (D := D) (ci := 2) (v := .int (nI (s 2))) (C := RX2) (T := TX2) (N := 10) hx hb hts hi2 hown hK hP 0 rfl rfl 2 (by decide) k49 (fun _ h9 => h9) rfl dX2_face_13 ?_
      refine zx_if_ne hx hb (tgt := 22) (by omega) dX2_face_16 (by decide) (fun c_16 => ?_) (fun c_16 => ?_)
      · refine lv_aload_n hx hb dX2_face_22 rfl (lv_at hl 0 rfl) ?_
        refine va_get (D := D) (ci := 2) (v := .ref (r 10)) (C := RX2) (T := TX2) (N := 10) hx hb hts hi2 hown hK hP 0 rfl rfl 4 (by decide) k19 (fun _ h9 => h9) rfl dX2_face_23 ?_
        refine va_get (D := D) (ci := 1) (v := .int (nI (s 10))) (C := RX1) (T := TX1) (N := 9) hx hb hts hi1 hown hK hP 3 rfl rfl 0 (by decide) k59 (fun _ h9 => h9) rfl dX2_face_26 ?_
        refine lv_istore_n (lv' := [(2, .int (nI (s 10))), (0, .ref (r 1)), (1, .int (nI k))]) hx hb dX2_face_29 rfl hl (by decide) rfl (fun ls hl => ?_)
        refine lv_aload_n hx hb dX2_face_30 rfl (lv_at hl 1 rfl) ?_
        refine va_get (D := D) (ci := 2) (v := .ref (r 10)) (C := RX2) (T := TX2) (N := 10) hx hb hts hi2 hown hK hP 0 rfl rfl 4 (by decide) k19 (fun _ h9 => h9) rfl dX2_face_31 ?_
        refine lv_iload_n hx hb dX2_face_34 rfl (lv_at hl 2 rfl) ?_
        refine zx_put (D := D) (ci := 1) (ty := .int) (v := .int (nI k)) (ws' := (zy_w cI r) ((zx_up s 10 k), a, z, ah)) (C := RX1) (T := TX1) (N := 9) hx hb hts hi1 tyX1 tyX1_ok nmX1 hown hK hP hD hS 3 rfl rfl 0 (by decide) k59 (fun _ h9 => h9) rfl (by decide +kernel) rfl rfl (Nat.le_of_ble_eq_true rfl) rfl dX2_face_35 (fun H locs hP hD hS => ?_)
        refine lv_iload_n hx hb dX2_face_38 rfl (lv_at hl 0 rfl) ?_
        exact hret _ _ _ _ _ _ hP hD hS dX2_face_39 (zd_inr (k := k) (by unfold zd_face; rw [hz]; exact if_neg c_16) ⟨rfl, rfl⟩)
      · refine lv_bipush (v := (-103)) hx hb dX2_face_19 (by decide) ?_
        exact hret _ _ _ _ _ _ hP hD hS dX2_face_21 (zd_inl (by unfold zd_face; rw [hz]; exact if_pos c_16) ⟨rfl, rfl⟩)
    · refine lv_bipush (v := (-102)) hx hb dX2_face_9 (by decide) ?_
      exact hret _ _ _ _ _ _ hP hD hS dX2_face_11 (zd_inl (by unfold zd_face; rw [zd_nos (decide_eq_false (fun q9 => zx_geN (by decide) (zx_nlt c_6) q9.2))]) ⟨rfl, rfl⟩)
set_option maxHeartbeats 4000000 in
set_option maxRecDepth 100000 in
theorem c_X2_chest (l : Launch) (D : va_G) (cI cB : ClassId) (r : Nat → Nat) (s : Nat → Nat) (a : Nat → Nat → Nat) (z : Nat → Int) (ah : Int) (hI : zy_I s a z) : zx_C zx_ei l D (zm_t cI cB) (zy_w cI r) yX2_chest wsX2_chest rmX2_chest [.ref (r 1)] (s, a, z, ah) (fun v u' => zd_out (zd_chest (s 1) (a 0)) (fun e9 => v = e9 ∧ u' = (s, a, z, ah)) (fun _ => v = nI (zp_cnt (fun j => !decide (zp_dl (a 0 j) = 0)) 9) ∧ ∃ (b : Nat → Nat → Nat) (y : Nat → Int), u' = (zx_up (zx_up (zx_up (zx_up (zx_up (zx_up (zx_up s 10 (a 0 9 - 48)) 11 0) 12 0) 2 1) 5 0) 7 (s 7 + 1)) 1 0, b, y, ah) ∧ (∀ j, j < 9 → y j = zp_dl (a 0 j)) ∧ (∀ j, j < 9 → b 16 j = 0) ∧ (∀ j, j < 9 → b 17 j = 0) ∧ (∀ j, j < 9 → b 18 j = 0) ∧ (∀ k, k ≠ 16 → k ≠ 17 → k ≠ 18 → b k = a k))) := by
  refine zx_of_i (cc := cX2_chest) (maxL := 3) (by decide) rfl (Nat.le_of_ble_eq_true rfl) ?_
  intro p e st m args below meth c A Q H cf hK hN hP hD hS hA hret ls hl
  obtain ⟨hx, hb, hml, hown, hts⟩ := id cf
  have hi2 : ∀ w ∈ wsX20, w ∈ wsX2_chest := fun w h => List.mem_cons_of_mem _ (List.mem_append_left _ (List.mem_append_right _ h))
  have k33 := hts (.fieldLink RX2 33 "NineDrawers" "pageLength" "I") (List.mem_of_getElem? (i := 1) (by decide +kernel))
  have k19 := hts (.fieldLink RX2 19 "NineDrawers" "hall" "LNineDrawers$Hall;") (List.mem_of_getElem? (i := 4) (by decide +kernel))
  have k9 := hts (.fieldLink RX2 9 "NineDrawers" "page" "[I") (List.mem_of_getElem? (i := 3) (by decide +kernel))
  have k49 := hts (.fieldLink RX2 49 "NineDrawers" "hasChest" "Z") (List.mem_of_getElem? (i := 5) (by decide +kernel))
  have k53 := hts (.fieldLink RX2 53 "NineDrawers" "hasImage" "Z") (List.mem_of_getElem? (i := 6) (by decide +kernel))
  have k56 := hts (.fieldLink RX2 56 "NineDrawers" "chestsRead" "I") (List.mem_of_getElem? (i := 7) (by decide +kernel))
  have k13 := hts (.fieldLink RX2 13 "NineDrawers" "delayOf" "[I") (List.mem_of_getElem? (i := 2) (by decide +kernel))
  have hl : lv_has ls 3 [(0, .ref (r 1))] := hl
  have hP : va_P D vwCl ((zy_w cI r) (s, a, z, ah)) H := hP
  have hD : va_D A ((zy_w cI r) (s, a, z, ah)) := hD
  obtain ⟨⟨i1, i2, i5, i7, i8, i10, i11, i12⟩, ⟨i20, i21, i22⟩, iG, iP, iL, iZ, jP, jL⟩ := id hI
  refine lv_aload_n hx hb dX2_chest_0 rfl (lv_at hl 0 rfl) ?_
  refine va_get (D := D) (ci := 2) (v := .int (nI (s 1))) (C := RX2) (T := TX2) (N := 10) hx hb hts hi2 hown hK hP 0 rfl rfl 1 (by decide) k33 (fun _ h9 => h9) rfl dX2_chest_1 ?_
  refine lv_bipush (v := nI 10) hx hb dX2_chest_4 (by decide) ?_
  refine zx_icmp_ne hx hb (tgt := 18) (by omega) (by omega) dX2_chest_6 (by decide) (fun c_6 => ?_) (fun c_6 => ?_)
  · refine lv_bipush (v := (-103)) hx hb dX2_chest_18 (by decide) ?_
    exact hret _ _ _ _ _ _ hP hD hS dX2_chest_20 (zd_inl (zd_chestF (Or.inl c_6)) ⟨rfl, rfl⟩)
  · refine lv_aload_n hx hb dX2_chest_9 rfl (lv_at hl 0 rfl) ?_
    refine zx_V_i (As := []) (rest := []) cf (c_X2_fittingLetters l D cI cB r s a z ah  hI) (cwV 0 hts gX2_chest_X2_fittingLetters rfl rfl rfl ⟨rfl, hd_X2_fittingLetters⟩ ⟨Nat.le_of_ble_eq_true rfl, Nat.le_of_ble_eq_true rfl⟩) hK hN hP hD hS hA 0 rfl rfl rfl hl.1 rfl (Nat.le_of_ble_eq_true rfl) dX2_chest_10 ⟨Nat.zero_le _, Nat.zero_le _⟩ (fun v_10 u_10 H locs hq hP hD hS => ?_)
    obtain ⟨rfl, rfl⟩ := hq
    refine lv_bipush (v := nI 10) hx hb dX2_chest_13 (by decide) ?_
    refine zx_icmp_eq hx hb (tgt := 21) (by have := zp_flt_le (s 1) (a 0); omega) (by omega) dX2_chest_15 (by decide) (fun c_15 => ?_) (fun c_15 => ?_)
    · have hok := zp_flt_ok (show zp_flt (s 1) (a 0) = s 1 by omega)
      have h9 := zp_okl9 (hok 9 (by omega))
      refine lv_iconst (v := nI 0) hx hb dX2_chest_21 (by decide) ?_
      refine lv_istore_n (lv' := [(1, .int (nI 0)), (0, .ref (r 1))]) hx hb dX2_chest_22 rfl hl (by decide) rfl (fun ls hl => ?_)
      refine lv_iconst (v := nI 0) hx hb dX2_chest_23 (by decide) ?_
      refine lv_istore_n (lv' := [(2, .int (nI 0)), (1, .int (nI 0)), (0, .ref (r 1))]) hx hb dX2_chest_24 rfl hl (by decide) rfl (fun ls hl => ?_)
      have lp_25 : ∀ (n_ : Nat) (d : Nat) (y : Nat → Int), 9 - d < n_ → (d ≤ 9) → (∀ j, j < d → y j = zp_dl (a 0 j)) → ∀ x1 : Int32, x1 = nI (zp_cnt (fun j => !decide (zp_dl (a 0 j) = 0)) d) → ∀ x2 : Int32, x2 = nI d → ∀ (H : Heap) (locs : List Loc), va_P D vwCl ((zy_w cI r) (s, a, y, ah)) H → va_D A ((zy_w cI r) (s, a, y, ah)) → va_S A st.heap H locs → ∀ ls : Array Slot, lv_has ls 3 [(0, .ref (r 1)), (1, .int x1), (2, .int x2)] → W p l e rmX2_chest st m args below meth c H locs 0 0 Q (F0 m 25 ls []) := by
        intro n_
        induction n_ with
        | zero => intros; omega
        | succ n_ ih_25 =>
          intro d y hmu_25 hd9 gy
          intro x1 ex1; subst ex1
          intro x2 ex2; subst ex2
          intro H locs hP hD hS ls hl
          have hl : lv_has ls 3 [(0, .ref (r 1)), (1, .int (nI (zp_cnt (fun j => !decide (zp_dl (a 0 j) = 0)) d))), (2, .int (nI d))] := hl
          refine lv_iload_n hx hb dX2_chest_25 rfl (lv_at hl 2 rfl) ?_
          refine lv_bipush (v := nI 9) hx hb dX2_chest_26 (by decide) ?_
          refine zx_icmp_ge hx hb (tgt := 64) (by omega) (by omega) dX2_chest_28 (by decide) (fun c_28 => ?_) (fun c_28 => ?_)
          · refine lv_aload_n hx hb dX2_chest_64 rfl (lv_at hl 0 rfl) ?_
            refine va_get (D := D) (ci := 2) (v := .ref (r 10)) (C := RX2) (T := TX2) (N := 10) hx hb hts hi2 hown hK hP 0 rfl rfl 4 (by decide) k19 (fun _ h9 => h9) rfl dX2_chest_65 ?_
            refine lv_aload_n hx hb dX2_chest_68 rfl (lv_at hl 0 rfl) ?_
            refine va_get (D := D) (ci := 2) (v := .ref (r 0)) (C := RX2) (T := TX2) (N := 10) hx hb hts hi2 hown hK hP 0 rfl rfl 0 (by decide) k9 (fun _ h9 => h9) rfl dX2_chest_69 ?_
            refine lv_bipush (v := nI 9) hx hb dX2_chest_72 (by decide) ?_
            refine zx_ald (f := a 0) (n := 12) hx hb hK hP 1 0 rfl rfl (by omega) (by decide) dX2_chest_74 ?_
            refine lv_bipush (v := nI 48) hx hb dX2_chest_75 (by decide) ?_
            refine zx_isub hx hb h9.1 dX2_chest_77 ?_
            refine zx_V_v (As := [.int (nI (((a 0) 9) - 48))]) (rest := []) cf (c_X1_clear l D cI cB r s a y ah (((a 0) 9) - 48)) (cwV 1 hts gX2_chest_X1_clear rfl rfl rfl ⟨rfl, hd_X1_clear⟩ ⟨Nat.le_of_ble_eq_true rfl, Nat.le_of_ble_eq_true rfl⟩) hK hN hP hD hS hA 3 rfl rfl rfl hl.1 rfl (Nat.le_of_ble_eq_true rfl) dX2_chest_78 ⟨Nat.zero_le _, Nat.zero_le _⟩ (fun v_78 u_78 H locs hq hP hD hS => ?_)
            obtain ⟨b_78, rfl, h16_78, h17_78, h18_78, hk_78⟩ := hq
            refine lv_aload_n hx hb dX2_chest_81 rfl (lv_at hl 0 rfl) ?_
            refine lv_iconst (v := nI 1) hx hb dX2_chest_82 (by decide) ?_
            refine zx_put (D := D) (ci := 2) (ty := .boolean) (v := .int (nI 1)) (ws' := (zy_w cI r) ((zx_up (zx_up (zx_up (zx_up s 10 (((a 0) 9) - 48)) 11 0) 12 0) 2 1), b_78, y, ah)) (C := RX2) (T := TX2) (N := 10) hx hb hts hi2 tyX2 tyX2_ok nmX2 hown hK hP hD hS 0 rfl rfl 2 (by decide) k49 (fun _ h9 => h9) rfl (by decide +kernel) rfl rfl (Nat.le_of_ble_eq_true rfl) rfl dX2_chest_83 (fun H locs hP hD hS => ?_)
            refine lv_aload_n hx hb dX2_chest_86 rfl (lv_at hl 0 rfl) ?_
            refine lv_iconst (v := nI 0) hx hb dX2_chest_87 (by decide) ?_
            refine zx_put (D := D) (ci := 2) (ty := .boolean) (v := .int (nI 0)) (ws' := (zy_w cI r) ((zx_up (zx_up (zx_up (zx_up (zx_up s 10 (((a 0) 9) - 48)) 11 0) 12 0) 2 1) 5 0), b_78, y, ah)) (C := RX2) (T := TX2) (N := 10) hx hb hts hi2 tyX2 tyX2_ok nmX2 hown hK hP hD hS 0 rfl rfl 5 (by decide) k53 (fun _ h9 => h9) rfl (by decide +kernel) rfl rfl (Nat.le_of_ble_eq_true rfl) rfl dX2_chest_88 (fun H locs hP hD hS => ?_)
            refine lv_aload_n hx hb dX2_chest_91 rfl (lv_at hl 0 rfl) ?_
            refine lv_dup hx hb dX2_chest_92 rfl ?_
            refine va_get (D := D) (ci := 2) (v := .int (nI (s 7))) (C := RX2) (T := TX2) (N := 10) hx hb hts hi2 hown hK hP 0 rfl rfl 7 (by decide) k56 (fun _ h9 => h9) rfl dX2_chest_93 ?_
            refine lv_iconst (v := nI 1) hx hb dX2_chest_96 (by decide) ?_
            refine zx_iadd hx hb dX2_chest_97 ?_
            refine zx_put (D := D) (ci := 2) (ty := .int) (v := .int (nI ((s 7) + 1))) (ws' := (zy_w cI r) ((zx_up (zx_up (zx_up (zx_up (zx_up (zx_up s 10 (((a 0) 9) - 48)) 11 0) 12 0) 2 1) 5 0) 7 ((s 7) + 1)), b_78, y, ah)) (C := RX2) (T := TX2) (N := 10) hx hb hts hi2 tyX2 tyX2_ok nmX2 hown hK hP hD hS 0 rfl rfl 7 (by decide) k56 (fun _ h9 => h9) rfl (by decide +kernel) rfl rfl (Nat.le_of_ble_eq_true rfl) rfl dX2_chest_98 (fun H locs hP hD hS => ?_)
            refine lv_aload_n hx hb dX2_chest_101 rfl (lv_at hl 0 rfl) ?_
            refine lv_iconst (v := nI 0) hx hb dX2_chest_102 (by decide) ?_
            refine zx_put (D := D) (ci := 2) (ty := .int) (v := .int (nI 0)) (ws' := (zy_w cI r) ((zx_up (zx_up (zx_up (zx_up (zx_up (zx_up (zx_up s 10 (((a 0) 9) - 48)) 11 0) 12 0) 2 1) 5 0) 7 ((s 7) + 1)) 1 0), b_78, y, ah)) (C := RX2) (T := TX2) (N := 10) hx hb hts hi2 tyX2 tyX2_ok nmX2 hown hK hP hD hS 0 rfl rfl 1 (by decide) k33 (fun _ h9 => h9) rfl (by decide +kernel) rfl rfl (Nat.le_of_ble_eq_true rfl) rfl dX2_chest_103 (fun H locs hP hD hS => ?_)
            refine lv_iload_n hx hb dX2_chest_106 rfl (lv_at hl 1 rfl) ?_
            exact hret _ _ _ _ _ _ hP hD hS dX2_chest_107 (zd_inr (k := ()) (zd_chestT c_6 c_15) ⟨by rw [show d = 9 by omega], b_78, y, rfl, fun j hj => gy j (by omega), h16_78, h17_78, h18_78, hk_78⟩)
          · refine lv_aload_n hx hb dX2_chest_31 rfl (lv_at hl 0 rfl) ?_
            refine va_get (D := D) (ci := 2) (v := .ref (r 3)) (C := RX2) (T := TX2) (N := 10) hx hb hts hi2 hown hK hP 0 rfl rfl 3 (by decide) k13 (fun _ h9 => h9) rfl dX2_chest_32 ?_
            refine lv_iload_n hx hb dX2_chest_35 rfl (lv_at hl 2 rfl) ?_
            refine lv_aload_n hx hb dX2_chest_36 rfl (lv_at hl 0 rfl) ?_
            refine va_get (D := D) (ci := 2) (v := .ref (r 0)) (C := RX2) (T := TX2) (N := 10) hx hb hts hi2 hown hK hP 0 rfl rfl 0 (by decide) k9 (fun _ h9 => h9) rfl dX2_chest_37 ?_
            refine lv_iload_n hx hb dX2_chest_40 rfl (lv_at hl 2 rfl) ?_
            refine zx_ald (f := a 0) (n := 12) hx hb hK hP 1 0 rfl rfl (by omega) (by decide) dX2_chest_41 ?_
            refine zx_S (As := [.int (nI ((a 0) d))]) (rest := [.int (nI d), .ref (r 3)]) cf (c_X2_delayByLetter l D ((a 0) d) (iG d (by omega)) (zp_okld (hok d (by omega)) (by omega))) (va_cwS 1 hts gX2_chest_X2_delayByLetter rfl rfl rfl hd_X2_delayByLetter ⟨Nat.le_of_ble_eq_true rfl, Nat.le_of_ble_eq_true rfl⟩) hK hN hP hS hA rfl hl.1 rfl (Nat.le_of_ble_eq_true rfl) dX2_chest_42 ⟨Nat.zero_le _, Nat.zero_le _⟩ (fun H locs hP hS => ?_)
            refine zx_astI (f := y) (n := 9) (ws' := (zy_w cI r) (s, a, (zx_up y d (zp_dl ((a 0) d))), ah)) hx hb hK hP hD hS 2 0 rfl rfl (by omega) (by decide) rfl dX2_chest_45 (fun H locs hP hD hS => ?_)
            refine lv_aload_n hx hb dX2_chest_46 rfl (lv_at hl 0 rfl) ?_
            refine va_get (D := D) (ci := 2) (v := .ref (r 3)) (C := RX2) (T := TX2) (N := 10) hx hb hts hi2 hown hK hP 0 rfl rfl 3 (by decide) k13 (fun _ h9 => h9) rfl dX2_chest_47 ?_
            refine lv_iload_n hx hb dX2_chest_50 rfl (lv_at hl 2 rfl) ?_
            refine zx_aldI (f := (zx_up y d (zp_dl ((a 0) d)))) (n := 9) hx hb hK hP 2 0 rfl rfl (by omega) (by decide) dX2_chest_51 ?_
            refine zx_topi (y := zx_i (zp_dl (a 0 d))) ((by rw [zx_up_eq])) ?_
            refine lv_if_eq (tgt := 58) hx hb dX2_chest_52 (by decide) (fun c_52 => ?_) (fun c_52 => ?_)
            · refine lv_iinc (v := nI (d + 1)) (lv' := [(2, .int (nI (d + 1))), (0, .ref (r 1)), (1, .int (nI (zp_cnt (fun j => !decide (zp_dl (a 0 j) = 0)) d)))]) hx hb dX2_chest_58 hl (k := 2) rfl (zx_inc _ _) (by decide) rfl (fun ls hl => ?_)
              refine lv_goto (tgt := 25) hx hb dX2_chest_61 (by decide) ?_
              exact ih_25 (d + 1) (zx_up y d (zp_dl ((a 0) d))) (by omega) (by omega) (zp_upN rfl gy) _ (zp_cntF (f := (fun j => !decide (zp_dl (a 0 j) = 0))) (by simpa using (zx_dl0 _ (iG d (by omega))).mp c_52)) _ rfl _ _ hP hD hS ls (lv_sub hl [1, 2, 0] rfl)
            · refine lv_iinc (v := nI (zp_cnt (fun j => !decide (zp_dl (a 0 j) = 0)) d + 1)) (lv' := [(1, .int (nI (zp_cnt (fun j => !decide (zp_dl (a 0 j) = 0)) d + 1))), (0, .ref (r 1)), (2, .int (nI d))]) hx hb dX2_chest_55 hl (k := 1) rfl (zx_inc _ _) (by decide) rfl (fun ls hl => ?_)
              refine lv_iinc (v := nI (d + 1)) (lv' := [(2, .int (nI (d + 1))), (1, .int (nI (zp_cnt (fun j => !decide (zp_dl (a 0 j) = 0)) d + 1))), (0, .ref (r 1))]) hx hb dX2_chest_58 hl (k := 2) rfl (zx_inc _ _) (by decide) rfl (fun ls hl => ?_)
              refine lv_goto (tgt := 25) hx hb dX2_chest_61 (by decide) ?_
              exact ih_25 (d + 1) (zx_up y d (zp_dl ((a 0) d))) (by omega) (by omega) (zp_upN rfl gy) _ (zp_cntT (f := (fun j => !decide (zp_dl (a 0 j) = 0))) (by simpa using fun q9 => c_52 (congrArg zx_i q9))) _ rfl _ _ hP hD hS ls (lv_sub hl [2, 1, 0] rfl)
      exact lp_25 _ 0 z (Nat.lt_succ_self _) (by decide) (fun j hj => absurd hj (Nat.not_lt_zero j)) _ rfl _ rfl _ _ hP hD hS ls (lv_sub hl [2, 1, 0] rfl)
    · refine lv_bipush (v := (-103)) hx hb dX2_chest_18 (by decide) ?_
      exact hret _ _ _ _ _ _ hP hD hS dX2_chest_20 (zd_inl (zd_chestF (Or.inr c_15)) ⟨rfl, rfl⟩)
