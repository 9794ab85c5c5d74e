set_option maxHeartbeats 4000000 in
set_option maxRecDepth 100000 in
theorem c_X3_whoNow (l : Launch) (D : va_G) (cI cB : ClassId) (r : Nat → Nat) (s : Nat → Nat) (a : Nat → Nat → Nat) (z : Nat → Int) (h : Int64) (p9 q : Nat) (hI : zm_I s a z) (hp9 : p9 < 6) (hq : q ≤ 1) : zx_C zx_ei l D (zm_t cI cB) (zm_w cI cB r) yX3_whoNow wsX3_whoNow rmX3_whoNow [.ref (r 0), .int (nI p9), .int (nI q)] (s, a, z, h) (fun v u' => v = zp_who (zm_who s a z p9) q ∧ u' = (s, a, z, h)) := by
  refine zx_of_i (cc := cX3_whoNow) (maxL := 9) (by decide) rfl (Nat.le_of_ble_eq_true rfl) ?_
  intro p e st m args below meth c A Q H cf hK hN hP hD hS hA hret ls hl
  obtain ⟨hx, hb, hml, hown, hts⟩ := id cf
  have hi3 : ∀ w ∈ wsX30, w ∈ wsX3_whoNow := fun w h => List.mem_cons_of_mem _ (List.mem_append_right _ h)
  have k16 := hts (.fieldLink RX3 16 "NineDrawersModel" "kindOf" "[I") (List.mem_of_getElem? (i := 1) (by decide +kernel))
  have k22 := hts (.fieldLink RX3 22 "NineDrawersModel" "dayOf" "[I") (List.mem_of_getElem? (i := 2) (by decide +kernel))
  have k19 := hts (.fieldLink RX3 19 "NineDrawersModel" "drawerOf" "[I") (List.mem_of_getElem? (i := 3) (by decide +kernel))
  have hl : lv_has ls 9 [(0, .ref (r 0)), (1, .int (nI p9)), (2, .int (nI q))] := hl
  have hP : va_P D vwCl ((zm_w cI cB r) (s, a, z, h)) H := hP
  have hD : va_D A ((zm_w cI cB r) (s, a, z, h)) := hD
  obtain ⟨⟨i0, i1, i3, i5, i9, i13, i14⟩, ⟨i17, i18, i19, i20, i21⟩, iP, iF, iL, iG, iZ, jL, jP, jF⟩ := id hI
  have ha7 := (iP p9 hp9).2.1
  refine lv_aload_n hx hb dX3_whoNow_0 rfl (lv_at hl 0 rfl) ?_
  refine va_get (D := D) (ci := 3) (v := .ref (r 6)) (C := RX3) (T := TX3) (N := 29) hx hb hts hi3 hown hK hP 0 rfl rfl 6 (by decide) k16 (fun _ h9 => h9) rfl dX3_whoNow_1 ?_
  refine lv_iload_n hx hb dX3_whoNow_4 rfl (lv_at hl 1 rfl) ?_
  refine zx_ald (f := a 6) (n := 6) hx hb hK hP 3 0 rfl rfl (by omega) (by decide) dX3_whoNow_5 ?_
  refine lv_istore_n (lv' := [(3, .int (nI ((a 6) p9))), (0, .ref (r 0)), (1, .int (nI p9)), (2, .int (nI q))]) hx hb dX3_whoNow_6 rfl hl (by decide) rfl (fun ls hl => ?_)
  refine lv_aload_n hx hb dX3_whoNow_7 rfl (lv_at hl 1 rfl) ?_
  refine va_get (D := D) (ci := 3) (v := .ref (r 8)) (C := RX3) (T := TX3) (N := 29) hx hb hts hi3 hown hK hP 0 rfl rfl 8 (by decide) k22 (fun _ h9 => h9) rfl dX3_whoNow_8 ?_
  refine lv_iload_n hx hb dX3_whoNow_11 rfl (lv_at hl 2 rfl) ?_
  refine zx_ald (f := a 8) (n := 6) hx hb hK hP 5 0 rfl rfl (by omega) (by decide) dX3_whoNow_12 ?_
  refine lv_istore (lv' := [(4, .int (nI ((a 8) p9))), (3, .int (nI ((a 6) p9))), (0, .ref (r 0)), (1, .int (nI p9)), (2, .int (nI q))]) hx hb dX3_whoNow_13 hl (by decide) rfl (fun ls hl => ?_)
  refine lv_iconst (v := nI 0) hx hb dX3_whoNow_15 (by decide) ?_
  refine lv_istore (lv' := [(5, .int (nI 0)), (4, .int (nI ((a 8) p9))), (3, .int (nI ((a 6) p9))), (0, .ref (r 0)), (1, .int (nI p9)), (2, .int (nI q))]) hx hb dX3_whoNow_16 hl (by decide) rfl (fun ls hl => ?_)
  refine lv_iconst (v := (-1)) hx hb dX3_whoNow_18 (by decide) ?_
  refine lv_istore (lv' := [(6, .int (-1)), (5, .int (nI 0)), (4, .int (nI ((a 8) p9))), (3, .int (nI ((a 6) p9))), (0, .ref (r 0)), (1, .int (nI p9)), (2, .int (nI q))]) hx hb dX3_whoNow_19 hl (by decide) rfl (fun ls hl => ?_)
  refine lv_bipush (v := nI 34) hx hb dX3_whoNow_21 (by decide) ?_
  refine lv_istore (lv' := [(7, .int (nI 34)), (6, .int (-1)), (5, .int (nI 0)), (4, .int (nI ((a 8) p9))), (3, .int (nI ((a 6) p9))), (0, .ref (r 0)), (1, .int (nI p9)), (2, .int (nI q))]) hx hb dX3_whoNow_23 hl (by decide) rfl (fun ls hl => ?_)
  have lp_25 : ∀ (n_ : Nat) (m9 : Nat) (b : Nat → Nat → Nat), 35 - m9 < n_ → (m9 ≤ 35) → (∀ j, j ≠ p9 → b 6 j = a 6 j) → (∀ j, j ≠ p9 → b 8 j = a 8 j) → (∀ k, k ≠ 6 → k ≠ 8 → b k = a k) → (zm_I s b z) → ∀ x1 : Int32, x1 = nI p9 → ∀ x2 : Int32, x2 = nI q → ∀ x3 : Int32, x3 = nI (a 6 p9) → ∀ x4 : Int32, x4 = nI (a 8 p9) → ∀ x5 : Int32, x5 = nI (zp_cnt (fun t8 => (zm_who s a z p9) (34 - t8)) m9) → ∀ x6 : Int32, x6 = (zp_o (zp_lsd (zm_who s a z p9) m9)) → ∀ x7 : Int32, x7 = zx_i (34 - (m9 : Int)) → ∀ (H : Heap) (locs : List Loc), va_P D vwCl ((zm_w cI cB r) (s, b, z, h)) H → va_D A ((zm_w cI cB r) (s, b, z, h)) → va_S A st.heap H locs → ∀ ls : Array Slot, lv_has ls 9 [(0, .ref (r 0)), (1, .int x1), (2, .int x2), (3, .int x3), (4, .int x4), (5, .int x5), (6, .int x6), (7, .int x7)] → W p l e rmX3_whoNow st m args below meth c H locs 0 0 Q (F0 m 25 ls []) := by
    intro n_
    induction n_ with
    | zero => intros; omega
    | succ n_ ih_25 =>
      intro m9 b hmu_25 hm9 g6 g8 gk gI
      intro x1 ex1; subst ex1
      intro x2 ex2; subst ex2
      intro x3 ex3; subst ex3
      intro x4 ex4; subst ex4
      intro x5 ex5; subst ex5
      intro x6 ex6; subst ex6
      intro x7 ex7; subst ex7
      intro H locs hP hD hS ls hl
      have hl : lv_has ls 9 [(0, .ref (r 0)), (1, .int (nI p9)), (2, .int (nI q)), (3, .int (nI (a 6 p9))), (4, .int (nI (a 8 p9))), (5, .int (nI (zp_cnt (fun t8 => (zm_who s a z p9) (34 - t8)) m9))), (6, .int (zp_o (zp_lsd (zm_who s a z p9) m9))), (7, .int (zx_i (34 - (m9 : Int))))] := hl
      refine lv_iload hx hb dX3_whoNow_25 (lv_at hl 7 rfl) ?_
      refine lv_if_lt (tgt := 109) hx hb dX3_whoNow_27 (by decide) (fun c_27 => ?_) (fun c_27 => ?_)
      · have c27 := zx_c27t hm9 c_27
        refine lv_aload_n hx hb dX3_whoNow_109 rfl (lv_at hl 0 rfl) ?_
        refine va_get (D := D) (ci := 3) (v := .ref (r 6)) (C := RX3) (T := TX3) (N := 29) hx hb hts hi3 hown hK hP 0 rfl rfl 6 (by decide) k16 (fun _ h9 => h9) rfl dX3_whoNow_110 ?_
        refine lv_iload_n hx hb dX3_whoNow_113 rfl (lv_at hl 1 rfl) ?_
        refine lv_iload_n hx hb dX3_whoNow_114 rfl (lv_at hl 3 rfl) ?_
        refine zx_ast (f := b 6) (n := 6) (ws' := (zm_w cI cB r) (s, (zx_up b 6 (zx_up (b 6) p9 (a 6 p9))), z, h)) hx hb hK hP hD hS 3 0 rfl rfl (by omega) (by decide) rfl dX3_whoNow_115 (fun H locs hP hD hS => ?_)
        refine lv_aload_n hx hb dX3_whoNow_116 rfl (lv_at hl 0 rfl) ?_
        refine va_get (D := D) (ci := 3) (v := .ref (r 8)) (C := RX3) (T := TX3) (N := 29) hx hb hts hi3 hown hK hP 0 rfl rfl 8 (by decide) k22 (fun _ h9 => h9) rfl dX3_whoNow_117 ?_
        refine lv_iload_n hx hb dX3_whoNow_120 rfl (lv_at hl 1 rfl) ?_
        refine lv_iload hx hb dX3_whoNow_121 (lv_at hl 4 rfl) ?_
        refine zx_ast (f := b 8) (n := 6) (ws' := (zm_w cI cB r) (s, (zx_up (zx_up b 6 (zx_up (b 6) p9 (a 6 p9))) 8 (zx_up (b 8) p9 (a 8 p9))), z, h)) hx hb hK hP hD hS 5 0 rfl rfl (by omega) (by decide) rfl dX3_whoNow_123 (fun H locs hP hD hS => ?_)
        refine lv_iload_n hx hb dX3_whoNow_124 rfl (lv_at hl 2 rfl) ?_
        refine zx_if_ne hx hb (tgt := 133) (by omega) dX3_whoNow_125 (by decide) (fun c_125 => ?_) (fun c_125 => ?_)
        · refine lv_iload hx hb dX3_whoNow_133 (lv_at hl 6 rfl) ?_
          exact hret _ _ _ _ _ _ hP hD hS dX3_whoNow_135 ⟨by rw [show m9 = 35 by omega]; exact (if_neg c_125).symm, by rw [zm_back g6 g8 gk]⟩
        · refine lv_iload hx hb dX3_whoNow_128 (lv_at hl 5 rfl) ?_
          refine lv_goto (tgt := 135) hx hb dX3_whoNow_130 (by decide) ?_
          exact hret _ _ _ _ _ _ hP hD hS dX3_whoNow_135 ⟨by rw [show m9 = 35 by omega]; exact (if_pos c_125).symm, by rw [zm_back g6 g8 gk]⟩
      · have c27 := zx_c27f hm9 c_27
        have e34 : zx_i (34 - (m9 : Int)) = nI (34 - m9) := zx_c34 c27
        rw [e34] at hl
        have hI2 := zm_I_k gI hp9 (show 34 - m9 < 35 by omega)
        refine lv_aload_n hx hb dX3_whoNow_30 rfl (lv_at hl 0 rfl) ?_
        refine va_get (D := D) (ci := 3) (v := .ref (r 6)) (C := RX3) (T := TX3) (N := 29) hx hb hts hi3 hown hK hP 0 rfl rfl 6 (by decide) k16 (fun _ h9 => h9) rfl dX3_whoNow_31 ?_
        refine lv_iload_n hx hb dX3_whoNow_34 rfl (lv_at hl 1 rfl) ?_
        refine lv_iload hx hb dX3_whoNow_35 (lv_at hl 7 rfl) ?_
        refine lv_bipush (v := nI 7) hx hb dX3_whoNow_37 (by decide) ?_
        refine zx_idiv hx hb (by omega) (by omega) (by omega) dX3_whoNow_39 ?_
        refine zx_ast (f := b 6) (n := 6) (ws' := (zm_w cI cB r) (s, (zx_up b 6 (zx_up (b 6) p9 ((34 - m9) / 7))), z, h)) hx hb hK hP hD hS 3 0 rfl rfl (by omega) (by decide) rfl dX3_whoNow_40 (fun H locs hP hD hS => ?_)
        refine lv_aload_n hx hb dX3_whoNow_41 rfl (lv_at hl 0 rfl) ?_
        refine va_get (D := D) (ci := 3) (v := .ref (r 8)) (C := RX3) (T := TX3) (N := 29) hx hb hts hi3 hown hK hP 0 rfl rfl 8 (by decide) k22 (fun _ h9 => h9) rfl dX3_whoNow_42 ?_
        refine lv_iload_n hx hb dX3_whoNow_45 rfl (lv_at hl 1 rfl) ?_
        refine lv_iload hx hb dX3_whoNow_46 (lv_at hl 7 rfl) ?_
        refine lv_bipush (v := nI 7) hx hb dX3_whoNow_48 (by decide) ?_
        refine zx_irem hx hb (by omega) (by omega) (by omega) dX3_whoNow_50 ?_
        refine zx_ast (f := b 8) (n := 6) (ws' := (zm_w cI cB r) (s, (zx_up (zx_up b 6 (zx_up (b 6) p9 ((34 - m9) / 7))) 8 (zx_up (b 8) p9 ((34 - m9) % 7))), z, h)) hx hb hK hP hD hS 5 0 rfl rfl (by omega) (by decide) rfl dX3_whoNow_51 (fun H locs hP hD hS => ?_)
        refine lv_aload_n hx hb dX3_whoNow_52 rfl (lv_at hl 0 rfl) ?_
        refine lv_aload_n hx hb dX3_whoNow_53 rfl (lv_at hl 0 rfl) ?_
        refine va_get (D := D) (ci := 3) (v := .ref (r 7)) (C := RX3) (T := TX3) (N := 29) hx hb hts hi3 hown hK hP 0 rfl rfl 7 (by decide) k19 (fun _ h9 => h9) rfl dX3_whoNow_54 ?_
        refine lv_iload_n hx hb dX3_whoNow_57 rfl (lv_at hl 1 rfl) ?_
        refine zx_ald (f := b 7) (n := 6) hx hb hK hP 4 0 rfl rfl (by omega) (by decide) dX3_whoNow_58 ?_
        refine zx_topi (y := nI (a 7 p9)) (congrArg nI (by rw [gk 7 (by decide) (by decide)])) ?_
        refine lv_aload_n hx hb dX3_whoNow_59 rfl (lv_at hl 0 rfl) ?_
        refine lv_aload_n hx hb dX3_whoNow_60 rfl (lv_at hl 0 rfl) ?_
        refine va_get (D := D) (ci := 3) (v := .ref (r 7)) (C := RX3) (T := TX3) (N := 29) hx hb hts hi3 hown hK hP 0 rfl rfl 7 (by decide) k19 (fun _ h9 => h9) rfl dX3_whoNow_61 ?_
        refine lv_iload_n hx hb dX3_whoNow_64 rfl (lv_at hl 1 rfl) ?_
        refine zx_ald (f := b 7) (n := 6) hx hb hK hP 4 0 rfl rfl (by omega) (by decide) dX3_whoNow_65 ?_
        refine zx_topi (y := nI (a 7 p9)) (congrArg nI (by rw [gk 7 (by decide) (by decide)])) ?_
        refine zx_V_i (As := [.int (nI (a 7 p9))]) (rest := [.int (nI (a 7 p9)), .ref (r 0)]) cf (c_X3_aheadOf l D cI cB r s (zx_up (zx_up b 6 (zx_up (b 6) p9 ((34 - m9) / 7))) 8 (zx_up (b 8) p9 ((34 - m9) % 7))) z h (a 7 p9) hI2 ha7) (cwV 1 hts gX3_whoNow_X3_aheadOf rfl rfl rfl ⟨rfl, hd_X3_aheadOf⟩ ⟨Nat.le_of_ble_eq_true rfl, Nat.le_of_ble_eq_true rfl⟩) hK hN hP hD hS hA 0 rfl rfl rfl hl.1 rfl (Nat.le_of_ble_eq_true rfl) dX3_whoNow_66 ⟨Nat.zero_le _, Nat.zero_le _⟩ (fun v_66 u_66 H locs hq hP hD hS => ?_)
        obtain ⟨rfl, rfl⟩ := hq
        refine zx_V_i (As := [.int (nI (a 7 p9)), .int (zx_i (zp_ah (s 3) (z (a 7 p9))))]) (rest := []) cf (c_X3_anyBy l D cI cB r s (zx_up (zx_up b 6 (zx_up (b 6) p9 ((34 - m9) / 7))) 8 (zx_up (b 8) p9 ((34 - m9) % 7))) z h (a 7 p9) (zp_ah (s 3) (z (a 7 p9))) hI2 ha7 (zp_ah_rng i3 (iZ _ ha7))) (cwV 2 hts gX3_whoNow_X3_anyBy rfl rfl rfl ⟨rfl, hd_X3_anyBy⟩ ⟨Nat.le_of_ble_eq_true rfl, Nat.le_of_ble_eq_true rfl⟩) hK hN hP hD hS hA 0 rfl rfl rfl hl.1 rfl (Nat.le_of_ble_eq_true rfl) dX3_whoNow_69 ⟨Nat.zero_le _, Nat.zero_le _⟩ (fun v_69 u_69 H locs hq hP hD hS => ?_)
        obtain ⟨rfl, rfl⟩ := hq
        refine zx_topi (y := zx_b (zp_anb (s 9) (b 10) (b 11) (b 12) (a 7 p9) (zm_f s (zm_k b p9 (34 - m9)) (a 7 p9) (zp_ah (s 3) (z (a 7 p9))) (b 4 (a 7 p9))))) (rfl) ?_
        have e69 : zp_anb (s 9) (b 10) (b 11) (b 12) (a 7 p9) (zm_f s (zm_k b p9 (34 - m9)) (a 7 p9) (zp_ah (s 3) (z (a 7 p9))) (b 4 (a 7 p9))) = zm_who s a z p9 (34 - m9) := zm_who_eq g6 g8 gk
        refine zx_topi (congrArg zx_b e69) ?_
        refine lv_istore (lv' := [(8, .int (zx_b ((zm_who s a z p9) (34 - m9)))), (0, .ref (r 0)), (1, .int (nI p9)), (2, .int (nI q)), (3, .int (nI (a 6 p9))), (4, .int (nI (a 8 p9))), (5, .int (nI (zp_cnt (fun t8 => (zm_who s a z p9) (34 - t8)) m9))), (6, .int (zp_o (zp_lsd (zm_who s a z p9) m9))), (7, .int (nI (34 - m9)))]) hx hb dX3_whoNow_72 hl (by decide) rfl (fun ls hl => ?_)
        refine lv_iload hx hb dX3_whoNow_74 (lv_at hl 6 rfl) ?_
        refine lv_iload hx hb dX3_whoNow_76 (lv_at hl 0 rfl) ?_
        refine zx_bf_eq hx hb (tgt := 85) dX3_whoNow_78 (by decide) (fun c_78 => ?_) (fun c_78 => ?_)
        · refine lv_iconst (v := nI 0) hx hb dX3_whoNow_85 (by decide) ?_
          refine zx_iadd hx hb dX3_whoNow_86 ?_
          refine lv_istore (lv' := [(5, .int (nI ((zp_cnt (fun t8 => (zm_who s a z p9) (34 - t8)) m9) + 0))), (8, .int (zx_b ((zm_who s a z p9) (34 - m9)))), (0, .ref (r 0)), (1, .int (nI p9)), (2, .int (nI q)), (3, .int (nI (a 6 p9))), (4, .int (nI (a 8 p9))), (6, .int (zp_o (zp_lsd (zm_who s a z p9) m9))), (7, .int (nI (34 - m9)))]) hx hb dX3_whoNow_87 hl (by decide) rfl (fun ls hl => ?_)
          refine lv_iload hx hb dX3_whoNow_89 (lv_at hl 1 rfl) ?_
          refine zx_bf_eq hx hb (tgt := 99) dX3_whoNow_91 (by decide) (fun c_91 => ?_) (fun c_91 => ?_)
          · refine lv_iload hx hb dX3_whoNow_99 (lv_at hl 7 rfl) ?_
            refine lv_istore (lv' := [(6, .int (zp_o (zp_lsd (zm_who s a z p9) m9))), (5, .int (nI ((zp_cnt (fun t8 => (zm_who s a z p9) (34 - t8)) m9) + 0))), (8, .int (zx_b ((zm_who s a z p9) (34 - m9)))), (0, .ref (r 0)), (1, .int (nI p9)), (2, .int (nI q)), (3, .int (nI (a 6 p9))), (4, .int (nI (a 8 p9))), (7, .int (nI (34 - m9)))]) hx hb dX3_whoNow_101 hl (by decide) rfl (fun ls hl => ?_)
            refine lv_iinc (v := zx_i (((34 - m9 : Nat) : Int) - 1)) (lv' := [(7, .int (zx_i (((34 - m9 : Nat) : Int) - 1))), (6, .int (zp_o (zp_lsd (zm_who s a z p9) m9))), (5, .int (nI ((zp_cnt (fun t8 => (zm_who s a z p9) (34 - t8)) m9) + 0))), (8, .int (zx_b ((zm_who s a z p9) (34 - m9)))), (0, .ref (r 0)), (1, .int (nI p9)), (2, .int (nI q)), (3, .int (nI (a 6 p9))), (4, .int (nI (a 8 p9)))]) hx hb dX3_whoNow_103 hl (k := 8) rfl (zx_decI _ _) (by decide) rfl (fun ls hl => ?_)
            refine lv_goto (tgt := 25) hx hb dX3_whoNow_106 (by decide) ?_
            exact ih_25 (m9 + 1) (zx_up (zx_up b 6 (zx_up (b 6) p9 ((34 - m9) / 7))) 8 (zx_up (b 8) p9 ((34 - m9) % 7))) (by omega) (by omega) (fun j hj => (zx_up_ne (b 6) _ hj).trans (g6 j hj)) (fun j hj => (zx_up_ne (b 8) _ hj).trans (g8 j hj)) (fun k h6 h8 => (zx_up_ne _ _ h8).trans ((zx_up_ne _ _ h6).trans (gk k h6 h8))) hI2 _ rfl _ rfl _ rfl _ rfl _ (zp_cntF (f := fun t8 => (zm_who s a z p9) (34 - t8)) c_78) _ (zp_lsdF c_78) _ (congrArg zx_i (by omega)) _ _ hP hD hS ls (lv_sub hl [4, 5, 6, 7, 8, 2, 1, 0] rfl)
          · exact absurd (c_78.symm.trans c_91) (by decide)
        · refine lv_iconst (v := nI 1) hx hb dX3_whoNow_81 (by decide) ?_
          refine lv_goto (tgt := 86) hx hb dX3_whoNow_82 (by decide) ?_
          refine zx_iadd hx hb dX3_whoNow_86 ?_
          refine lv_istore (lv' := [(5, .int (nI ((zp_cnt (fun t8 => (zm_who s a z p9) (34 - t8)) m9) + 1))), (8, .int (zx_b ((zm_who s a z p9) (34 - m9)))), (0, .ref (r 0)), (1, .int (nI p9)), (2, .int (nI q)), (3, .int (nI (a 6 p9))), (4, .int (nI (a 8 p9))), (6, .int (zp_o (zp_lsd (zm_who s a z p9) m9))), (7, .int (nI (34 - m9)))]) hx hb dX3_whoNow_87 hl (by decide) rfl (fun ls hl => ?_)
          refine lv_iload hx hb dX3_whoNow_89 (lv_at hl 1 rfl) ?_
          refine zx_bf_eq hx hb (tgt := 99) dX3_whoNow_91 (by decide) (fun c_91 => ?_) (fun c_91 => ?_)
          · exact absurd (c_78.symm.trans c_91) (by decide)
          · refine lv_iload hx hb dX3_whoNow_94 (lv_at hl 8 rfl) ?_
            refine lv_goto (tgt := 101) hx hb dX3_whoNow_96 (by decide) ?_
            refine lv_istore (lv' := [(6, .int (nI (34 - m9))), (5, .int (nI ((zp_cnt (fun t8 => (zm_who s a z p9) (34 - t8)) m9) + 1))), (8, .int (zx_b ((zm_who s a z p9) (34 - m9)))), (0, .ref (r 0)), (1, .int (nI p9)), (2, .int (nI q)), (3, .int (nI (a 6 p9))), (4, .int (nI (a 8 p9))), (7, .int (nI (34 - m9)))]) hx hb dX3_whoNow_101 hl (by decide) rfl (fun ls hl => ?_)
            refine lv_iinc (v := zx_i (((34 - m9 : Nat) : Int) - 1)) (lv' := [(7, .int (zx_i (((34 - m9 : Nat) : Int) - 1))), (6, .int (nI (34 - m9))), (5, .int (nI ((zp_cnt (fun t8 => (zm_who s a z p9) (34 - t8)) m9) + 1))), (8, .int (zx_b ((zm_who s a z p9) (34 - m9)))), (0, .ref (r 0)), (1, .int (nI p9)), (2, .int (nI q)), (3, .int (nI (a 6 p9))), (4, .int (nI (a 8 p9)))]) hx hb dX3_whoNow_103 hl (k := 8) rfl (zx_decI _ _) (by decide) rfl (fun ls hl => ?_)
            refine lv_goto (tgt := 25) hx hb dX3_whoNow_106 (by decide) ?_
            exact ih_25 (m9 + 1) (zx_up (zx_up b 6 (zx_up (b 6) p9 ((34 - m9) / 7))) 8 (zx_up (b 8) p9 ((34 - m9) % 7))) (by omega) (by omega) (fun j hj => (zx_up_ne (b 6) _ hj).trans (g6 j hj)) (fun j hj => (zx_up_ne (b 8) _ hj).trans (g8 j hj)) (fun k h6 h8 => (zx_up_ne _ _ h8).trans ((zx_up_ne _ _ h6).trans (gk k h6 h8))) hI2 _ rfl _ rfl _ rfl _ rfl _ (zp_cntT (f := fun t8 => (zm_who s a z p9) (34 - t8)) c_78) _ (zp_lsdT c_78) _ (congrArg zx_i (by omega)) _ _ hP hD hS ls (lv_sub hl [4, 5, 6, 7, 8, 2, 1, 0] rfl)
  exact lp_25 _ 0 a (Nat.lt_succ_self _) (Nat.zero_le _) (fun _ _ => rfl) (fun _ _ => rfl) (fun _ _ _ => rfl) hI _ rfl _ rfl _ (by first | rfl | (congr 1; omega)) _ (by first | rfl | (congr 1; omega)) _ rfl _ rfl _ (by decide) _ _ hP hD hS ls (lv_sub hl [5, 6, 7, 4, 3, 2, 1, 0] rfl)
set_option maxHeartbeats 4000000 in
set_option maxRecDepth 100000 in
theorem c_X3_who (l : Launch) (D : va_G) (cI cB : ClassId) (r : Nat → Nat) (s : Nat → Nat) (a : Nat → Nat → Nat) (z : Nat → Int) (h : Int64) (x y : Int32) (hI : zm_I s a z) : zx_C zx_ei l D (zm_t cI cB) (zm_w cI cB r) yX3_who wsX3_who rmX3_who [.ref (r 0), .int x, .int y] (s, a, z, h) (fun v u' => v = zs_dq 1 (zd_per (s 5) x) y (fun p9 q => zp_who (zm_who s a z p9) q) ∧ u' = (s, a, z, h)) := by
  refine zx_of_i (cc := cX3_who) (maxL := 3) (by decide) rfl (Nat.le_of_ble_eq_true rfl) ?_
  intro p e st m args below meth c A Q H cf hK hN hP hD hS hA hret ls hl
  obtain ⟨hx, hb, hml, hown, hts⟩ := id cf
  have hl : lv_has ls 3 [(0, .ref (r 0)), (1, .int x), (2, .int y)] := hl
  have hP : va_P D vwCl ((zm_w cI cB r) (s, a, z, h)) H := hP
  have hD : va_D A ((zm_w cI cB r) (s, a, z, h)) := hD
  obtain ⟨⟨i0, i1, i3, i5, i9, i13, i14⟩, ⟨i17, i18, i19, i20, i21⟩, iP, iF, iL, iG, iZ, jL, jP, jF⟩ := id hI
  refine lv_aload_n hx hb dX3_who_0 rfl (lv_at hl 0 rfl) ?_
  refine lv_iload_n hx hb dX3_who_1 rfl (lv_at hl 1 rfl) ?_
  refine zx_V_i (As := [.int x]) (rest := []) cf (c_X3_isPerson l D cI cB r s a z h x hI ) (cwV 1 hts gX3_who_X3_isPerson rfl rfl rfl ⟨rfl, hd_X3_isPerson⟩ ⟨Nat.le_of_ble_eq_true rfl, Nat.le_of_ble_eq_true rfl⟩) hK hN hP hD hS hA 0 rfl rfl rfl hl.1 rfl (Nat.le_of_ble_eq_true rfl) dX3_who_2 ⟨Nat.zero_le _, Nat.zero_le _⟩ (fun v_2 u_2 H locs hq hP hD hS => ?_)
  obtain ⟨rfl, rfl⟩ := hq
  refine zx_bf_ne hx hb (tgt := 11) dX3_who_5 (by decide) (fun c_5 => ?_) (fun c_5 => ?_)
  · obtain ⟨p9, hz⟩ := zd_some c_5
    obtain ⟨rfl, hp9⟩ := zd_per_some (by omega) hz
    refine lv_iload_n hx hb dX3_who_11 rfl (lv_at hl 2 rfl) ?_
    refine lv_iconst (v := nI 0) hx hb dX3_who_12 (by decide) ?_
    refine lv_iconst (v := nI 1) hx hb dX3_who_13 (by decide) ?_
    refine zx_S (As := [.int y, .int (nI 0), .int (nI 1)]) (rest := []) cf (c_X3_within l D y (nI 0) (nI 1) ) (va_cwS 3 hts gX3_who_X3_within rfl rfl rfl hd_X3_within ⟨Nat.le_of_ble_eq_true rfl, Nat.le_of_ble_eq_true rfl⟩) hK hN hP hS hA rfl hl.1 rfl (Nat.le_of_ble_eq_true rfl) dX3_who_14 ⟨Nat.zero_le _, Nat.zero_le _⟩ (fun H locs hP hS => ?_)
    refine zx_bf_eq hx hb (tgt := 29) dX3_who_17 (by decide) (fun c_17 => ?_) (fun c_17 => ?_)
    · refine lv_bipush (v := (-102)) hx hb dX3_who_29 (by decide) ?_
      exact hret _ _ _ _ _ _ hP hD hS dX3_who_31 ⟨by rw [hz]; exact (zs_dqo (zd_nos c_17)).symm, rfl⟩
    · obtain ⟨q, rfl, hq1, hq2, hy⟩ := zd_yes (by decide) (by decide) c_17
      refine lv_aload_n hx hb dX3_who_20 rfl (lv_at hl 0 rfl) ?_
      refine lv_iload_n hx hb dX3_who_21 rfl (lv_at hl 1 rfl) ?_
      refine lv_iload_n hx hb dX3_who_22 rfl (lv_at hl 2 rfl) ?_
      refine zx_V_i (As := [.int (nI p9), .int (nI q)]) (rest := []) cf (c_X3_whoNow l D cI cB r s a z h p9 q hI (by omega) (by omega)) (cwV 2 hts gX3_who_X3_whoNow rfl rfl rfl ⟨rfl, hd_X3_whoNow⟩ ⟨Nat.le_of_ble_eq_true rfl, Nat.le_of_ble_eq_true rfl⟩) hK hN hP hD hS hA 0 rfl rfl rfl hl.1 rfl (Nat.le_of_ble_eq_true rfl) dX3_who_23 ⟨Nat.zero_le _, Nat.zero_le _⟩ (fun v_23 u_23 H locs hq hP hD hS => ?_)
      obtain ⟨rfl, rfl⟩ := hq
      refine lv_goto (tgt := 31) hx hb dX3_who_26 (by decide) ?_
      exact hret _ _ _ _ _ _ hP hD hS dX3_who_31 ⟨by rw [hz, zs_dqi hy], rfl⟩
  · refine lv_bipush (v := (-101)) hx hb dX3_who_8 (by decide) ?_
    exact hret _ _ _ _ _ _ hP hD hS dX3_who_10 ⟨by rw [zd_none c_5]; rfl, rfl⟩
set_option maxHeartbeats 4000000 in
set_option maxRecDepth 100000 in
theorem c_X3_draw (l : Launch) (D : va_G) (cI cB : ClassId) (r : Nat → Nat) (s : Nat → Nat) (a : Nat → Nat → Nat) (z : Nat → Int) (h : Int64)  : zx_C zx_ei l D (zm_t cI cB) (zm_w cI cB r) yX3_draw wsX3_draw rmX3_draw [.ref (r 0), .int (nI 4)] (s, a, z, h) (fun v u' => v = nI (zp_nx (s 16) / 65536 % 4) ∧ u' = (zx_up s 16 (zp_nx (s 16)), a, z, h)) := by
  refine zx_of_i (cc := cX3_draw) (maxL := 2) (by decide) rfl (Nat.le_of_ble_eq_true rfl) ?_
  intro p e st m args below meth c A Q H cf hK hN hP hD hS hA hret ls hl
  obtain ⟨hx, hb, hml, hown, hts⟩ := id cf
  have hi3 : ∀ w ∈ wsX30, w ∈ wsX3_draw := fun w h => List.mem_cons_of_mem _ (List.mem_append_right _ h)
  have k168 := hts (.fieldLink RX3 168 "NineDrawersModel" "seedNow" "J") (List.mem_of_getElem? (i := 2) (by decide +kernel))
  have hl : lv_has ls 2 [(0, .ref (r 0)), (1, .int (nI 4))] := hl
  have hP : va_P D vwCl ((zm_w cI cB r) (s, a, z, h)) H := hP
  have hD : va_D A ((zm_w cI cB r) (s, a, z, h)) := hD
  refine lv_aload_n hx hb dX3_draw_0 rfl (lv_at hl 0 rfl) ?_
  refine lv_ldc2 (v := 1103515245) hx hb hown (hts (.constantLong RX3 166 (1103515245)) (List.mem_of_getElem? (i := 1) (by decide +kernel))) dX3_draw_1 ?_
  refine lv_aload_n hx hb dX3_draw_4 rfl (lv_at hl 0 rfl) ?_
  refine va_get (D := D) (ci := 3) (v := .long (lN (s 16))) (C := RX3) (T := TX3) (N := 29) hx hb hts hi3 hown hK hP 0 rfl rfl 16 (by decide) k168 (fun _ h9 => h9) rfl dX3_draw_5 ?_
  refine lv_lmul hx hb dX3_draw_8 ?_
  refine lv_ldc2 (v := 12345) hx hb hown (hts (.constantLong RX3 172 (12345)) (List.mem_of_getElem? (i := 3) (by decide +kernel))) dX3_draw_9 ?_
  refine lv_ladd hx hb dX3_draw_12 ?_
  refine lv_ldc2 (v := 2147483647) hx hb hown (hts (.constantLong RX3 174 (2147483647)) (List.mem_of_getElem? (i := 4) (by decide +kernel))) dX3_draw_13 ?_
  refine lv_land hx hb dX3_draw_16 ?_
  refine zx_topl (y := lN (zp_nx (s 16))) (zx_draw1 _) ?_
  refine zx_put (D := D) (ci := 3) (ty := .long) (v := .long (lN (zp_nx (s 16)))) (ws' := (zm_w cI cB r) ((zx_up s 16 (zp_nx (s 16))), a, z, h)) (C := RX3) (T := TX3) (N := 29) hx hb hts hi3 tyX3 tyX3_ok nmX3 hown hK hP hD hS 0 rfl rfl 16 (by decide) k168 (fun _ h9 => h9) rfl (by decide +kernel) rfl rfl (Nat.le_of_ble_eq_true rfl) rfl dX3_draw_17 (fun H locs hP hD hS => ?_)
  refine lv_aload_n hx hb dX3_draw_20 rfl (lv_at hl 0 rfl) ?_
  refine va_get (D := D) (ci := 3) (v := .long (lN ((zp_nx (s 16))))) (C := RX3) (T := TX3) (N := 29) hx hb hts hi3 hown hK hP 0 rfl rfl 16 (by decide) k168 (fun _ h9 => h9) rfl dX3_draw_21 ?_
  refine lv_ldc2 (v := 65536) hx hb hown (hts (.constantLong RX3 176 (65536)) (List.mem_of_getElem? (i := 5) (by decide +kernel))) dX3_draw_24 ?_
  refine lv_ldiv hx hb dX3_draw_27 (by decide) ?_
  refine zx_topl (y := lN (zp_nx (s 16) / 65536)) (zx_draw2 _) ?_
  refine lv_iload_n hx hb dX3_draw_28 rfl (lv_at hl 1 rfl) ?_
  refine lv_i2l hx hb dX3_draw_29 rfl ?_
  refine lv_lrem hx hb dX3_draw_30 (by decide) ?_
  refine lv_l2i hx hb dX3_draw_31 rfl ?_
  refine zx_topi (y := nI (zp_nx (s 16) / 65536 % 4)) (zx_draw3 _) ?_
  exact hret _ _ _ _ _ _ hP hD hS dX3_draw_32 ⟨rfl, rfl⟩
set_option maxHeartbeats 4000000 in
set_option maxRecDepth 100000 in
theorem c_X3_weeksNow (l : Launch) (D : va_G) (cI cB : ClassId) (r : Nat → Nat) (s : Nat → Nat) (a : Nat → Nat → Nat) (z : Nat → Int) (h : Int64) (t9 sd q : Nat) (hI : zm_I s a z) (ht : t9 ≤ 12) (hs : sd < 2147483648) (hq : q ≤ 1) : zx_C zx_ei l D (zm_t cI cB) (zm_w cI cB r) yX3_weeksNow wsX3_weeksNow rmX3_weeksNow [.ref (r 0), .int (nI t9), .int (nI sd), .int (nI q)] (s, a, z, h) (fun v u' => v = zp_wks s a z t9 sd q ∧ u' = (zx_up s 16 (zp_sq sd (7 * (t9 * 9))), a, z, h)) := by
  refine zx_of_i (cc := cX3_weeksNow) (maxL := 8) (by decide) rfl (Nat.le_of_ble_eq_true rfl) ?_
  intro p e st m args below meth c A Q H cf hK hN hP hD hS hA hret ls hl
  obtain ⟨hx, hb, hml, hown, hts⟩ := id cf
  have hi3 : ∀ w ∈ wsX30, w ∈ wsX3_weeksNow := fun w h => List.mem_cons_of_mem _ (List.mem_append_right _ h)
  have k168 := hts (.fieldLink RX3 168 "NineDrawersModel" "seedNow" "J") (List.mem_of_getElem? (i := 1) (by decide +kernel))
  have hl : lv_has ls 8 [(0, .ref (r 0)), (1, .int (nI t9)), (2, .int (nI sd)), (3, .int (nI q))] := hl
  have hP : va_P D vwCl ((zm_w cI cB r) (s, a, z, h)) H := hP
  have hD : va_D A ((zm_w cI cB r) (s, a, z, h)) := hD
  obtain ⟨⟨i0, i1, i3, i5, i9, i13, i14⟩, ⟨i17, i18, i19, i20, i21⟩, iP, iF, iL, iG, iZ, jL, jP, jF⟩ := id hI
  refine lv_aload_n hx hb dX3_weeksNow_0 rfl (lv_at hl 0 rfl) ?_
  refine lv_iload_n hx hb dX3_weeksNow_1 rfl (lv_at hl 2 rfl) ?_
  refine lv_i2l hx hb dX3_weeksNow_2 rfl ?_
  refine zx_topl (y := lN sd) (nI_l (by omega)) ?_
  refine zx_put (D := D) (ci := 3) (ty := .long) (v := .long (lN sd)) (ws' := (zm_w cI cB r) ((zx_up s 16 sd), a, z, h)) (C := RX3) (T := TX3) (N := 29) hx hb hts hi3 tyX3 tyX3_ok nmX3 hown hK hP hD hS 0 rfl rfl 16 (by decide) k168 (fun _ h9 => h9) rfl (by decide +kernel) rfl rfl (Nat.le_of_ble_eq_true rfl) rfl dX3_weeksNow_3 (fun H locs hP hD hS => ?_)
  refine lv_iconst (v := nI 0) hx hb dX3_weeksNow_6 (by decide) ?_
  refine lv_istore (lv' := [(4, .int (nI 0)), (0, .ref (r 0)), (1, .int (nI t9)), (2, .int (nI sd)), (3, .int (nI q))]) hx hb dX3_weeksNow_7 hl (by decide) rfl (fun ls hl => ?_)
  refine lv_iconst (v := nI 0) hx hb dX3_weeksNow_9 (by decide) ?_
  refine lv_istore (lv' := [(5, .int (nI 0)), (4, .int (nI 0)), (0, .ref (r 0)), (1, .int (nI t9)), (2, .int (nI sd)), (3, .int (nI q))]) hx hb dX3_weeksNow_10 hl (by decide) rfl (fun ls hl => ?_)
  have lp_12 : ∀ (n_ : Nat) (k : Nat) (y6 : Nat), t9 * 9 - k < n_ → (k ≤ t9 * 9) → (y6 = zp_sq sd (7 * k)) → ∀ x1 : Int32, x1 = nI t9 → ∀ x3 : Int32, x3 = nI q → ∀ x4 : Int32, x4 = nI (zp_cnt (fun k9 => !zp_wk s a z sd k9) k) → ∀ x5 : Int32, x5 = nI k → ∀ (H : Heap) (locs : List Loc), va_P D vwCl ((zm_w cI cB r) ((zx_up s 16 y6), a, z, h)) H → va_D A ((zm_w cI cB r) ((zx_up s 16 y6), a, z, h)) → va_S A st.heap H locs → ∀ ls : Array Slot, lv_has ls 8 [(0, .ref (r 0)), (1, .int x1), (3, .int x3), (4, .int x4), (5, .int x5)] → W p l e rmX3_weeksNow st m args below meth c H locs 0 0 Q (F0 m 12 ls []) := by
    intro n_
    induction n_ with
    | zero => intros; omega
    | succ n_ ih_12 =>
      intro k y6 hmu_12 hk9 gy
      intro x1 ex1; subst ex1
      intro x3 ex3; subst ex3
      intro x4 ex4; subst ex4
      intro x5 ex5; subst ex5
      intro H locs hP hD hS ls hl
      have hl : lv_has ls 8 [(0, .ref (r 0)), (1, .int (nI t9)), (3, .int (nI q)), (4, .int (nI (zp_cnt (fun k9 => !zp_wk s a z sd k9) k))), (5, .int (nI k))] := hl
      refine lv_iload hx hb dX3_weeksNow_12 (lv_at hl 4 rfl) ?_
      refine lv_iload_n hx hb dX3_weeksNow_14 rfl (lv_at hl 1 rfl) ?_
      refine lv_bipush (v := nI 9) hx hb dX3_weeksNow_15 (by decide) ?_
      refine zx_imul hx hb dX3_weeksNow_17 ?_
      refine zx_icmp_ge hx hb (tgt := 91) (by omega) (by omega) dX3_weeksNow_18 (by decide) (fun c_18 => ?_) (fun c_18 => ?_)
      · refine lv_iload_n hx hb dX3_weeksNow_91 rfl (lv_at hl 2 rfl) ?_
        refine zx_if_ne hx hb (tgt := 100) (by omega) dX3_weeksNow_92 (by decide) (fun c_92 => ?_) (fun c_92 => ?_)
        · refine lv_aload_n hx hb dX3_weeksNow_100 rfl (lv_at hl 0 rfl) ?_
          refine va_get (D := D) (ci := 3) (v := .long (lN (y6))) (C := RX3) (T := TX3) (N := 29) hx hb hts hi3 hown hK hP 0 rfl rfl 16 (by decide) k168 (fun _ h9 => h9) rfl dX3_weeksNow_101 ?_
          refine lv_l2i hx hb dX3_weeksNow_104 rfl ?_
          refine zx_topi (y := nI y6) (lN_i _) ?_
          exact hret _ _ _ _ _ _ hP hD hS dX3_weeksNow_105 ⟨by rw [show k = t9 * 9 by omega] at gy; unfold zp_wks; rw [if_neg c_92, gy], by rw [gy, show k = t9 * 9 by omega]⟩
        · refine lv_iload hx hb dX3_weeksNow_95 (lv_at hl 3 rfl) ?_
          refine lv_goto (tgt := 105) hx hb dX3_weeksNow_97 (by decide) ?_
          exact hret _ _ _ _ _ _ hP hD hS dX3_weeksNow_105 ⟨by rw [show k = t9 * 9 by omega] at gy ⊢; unfold zp_wks; rw [if_pos c_92], by rw [gy, show k = t9 * 9 by omega]⟩
      · refine lv_iconst (v := nI 0) hx hb dX3_weeksNow_21 (by decide) ?_
        refine lv_istore (lv' := [(6, .int (nI 0)), (0, .ref (r 0)), (1, .int (nI t9)), (3, .int (nI q)), (4, .int (nI (zp_cnt (fun k9 => !zp_wk s a z sd k9) k))), (5, .int (nI k))]) hx hb dX3_weeksNow_22 hl (by decide) rfl (fun ls hl => ?_)
        refine lv_iconst (v := nI 0) hx hb dX3_weeksNow_24 (by decide) ?_
        refine lv_istore (lv' := [(7, .int (nI 0)), (6, .int (nI 0)), (0, .ref (r 0)), (1, .int (nI t9)), (3, .int (nI q)), (4, .int (nI (zp_cnt (fun k9 => !zp_wk s a z sd k9) k))), (5, .int (nI k))]) hx hb dX3_weeksNow_25 hl (by decide) rfl (fun ls hl => ?_)
        have lp_27 : ∀ (n_ : Nat) (o : Nat) (y6 : Nat), 7 - o < n_ → (o ≤ 7) → (y6 = zp_sq sd (7 * k + o)) → ∀ x1 : Int32, x1 = nI t9 → ∀ x3 : Int32, x3 = nI q → ∀ x4 : Int32, x4 = nI (zp_cnt (fun k9 => !zp_wk s a z sd k9) k) → ∀ x5 : Int32, x5 = nI k → ∀ x6 : Int32, x6 = nI (zp_bits (fun o9 => decide (zp_sq sd (7 * k + o9 + 1) / 65536 % 4 = 0)) o) → ∀ x7 : Int32, x7 = nI o → ∀ (H : Heap) (locs : List Loc), va_P D vwCl ((zm_w cI cB r) ((zx_up s 16 y6), a, z, h)) H → va_D A ((zm_w cI cB r) ((zx_up s 16 y6), a, z, h)) → va_S A st.heap H locs → ∀ ls : Array Slot, lv_has ls 8 [(0, .ref (r 0)), (1, .int x1), (3, .int x3), (4, .int x4), (5, .int x5), (6, .int x6), (7, .int x7)] → W p l e rmX3_weeksNow st m args below meth c H locs 0 0 Q (F0 m 27 ls []) := by
          intro n_
          induction n_ with
          | zero => intros; omega
          | succ n_ ih_27 =>
            intro o y6 hmu_27 ho9 gy
            intro x1 ex1; subst ex1
            intro x3 ex3; subst ex3
            intro x4 ex4; subst ex4
            intro x5 ex5; subst ex5
            intro x6 ex6; subst ex6
            intro x7 ex7; subst ex7
            intro H locs hP hD hS ls hl
            have hl : lv_has ls 8 [(0, .ref (r 0)), (1, .int (nI t9)), (3, .int (nI q)), (4, .int (nI (zp_cnt (fun k9 => !zp_wk s a z sd k9) k))), (5, .int (nI k)), (6, .int (nI (zp_bits (fun o9 => decide (zp_sq sd (7 * k + o9 + 1) / 65536 % 4 = 0)) o))), (7, .int (nI o))] := hl
            refine lv_iload hx hb dX3_weeksNow_27 (lv_at hl 6 rfl) ?_
            refine lv_bipush (v := nI 7) hx hb dX3_weeksNow_29 (by decide) ?_
            refine zx_icmp_ge hx hb (tgt := 61) (by omega) (by omega) dX3_weeksNow_31 (by decide) (fun c_31 => ?_) (fun c_31 => ?_)
            · refine lv_iload hx hb dX3_weeksNow_61 (lv_at hl 3 rfl) ?_
              refine lv_aload_n hx hb dX3_weeksNow_63 rfl (lv_at hl 0 rfl) ?_
              refine lv_iload hx hb dX3_weeksNow_64 (lv_at hl 4 rfl) ?_
              refine lv_bipush (v := nI 9) hx hb dX3_weeksNow_66 (by decide) ?_
              refine zx_irem hx hb (by omega) (by omega) (by omega) dX3_weeksNow_68 ?_
              refine lv_iload hx hb dX3_weeksNow_69 (lv_at hl 5 rfl) ?_
              refine zx_V_i (As := [.int (nI (k % 9)), .int (nI (zp_bits (fun o9 => decide (zp_sq sd (7 * k + o9 + 1) / 65536 % 4 = 0)) o))]) (rest := [.int (nI (zp_cnt (fun k9 => !zp_wk s a z sd k9) k))]) cf (c_X3_anyLaid l D cI cB r (zx_up s 16 y6) a z h (k % 9) (zp_bits (fun o9 => decide (zp_sq sd (7 * k + o9 + 1) / 65536 % 4 = 0)) o) hI (Nat.mod_lt _ (by decide)) (by rw [show o = 7 by omega]; exact zp_bits_lt _ 7)) (cwV 2 hts gX3_weeksNow_X3_anyLaid rfl rfl rfl ⟨rfl, hd_X3_anyLaid⟩ ⟨Nat.le_of_ble_eq_true rfl, Nat.le_of_ble_eq_true rfl⟩) hK hN hP hD hS hA 0 rfl rfl rfl hl.1 rfl (Nat.le_of_ble_eq_true rfl) dX3_weeksNow_71 ⟨Nat.zero_le _, Nat.zero_le _⟩ (fun v_71 u_71 H locs hq hP hD hS => ?_)
              obtain ⟨rfl, rfl⟩ := hq
              refine zx_topi (y := zx_b (zp_wk s a z sd k)) ((by rw [show o = 7 by omega]; rfl)) ?_
              refine zx_bf_eq hx hb (tgt := 81) dX3_weeksNow_74 (by decide) (fun c_74 => ?_) (fun c_74 => ?_)
              · refine lv_iconst (v := nI 1) hx hb dX3_weeksNow_81 (by decide) ?_
                refine zx_iadd hx hb dX3_weeksNow_82 ?_
                refine lv_istore (lv' := [(4, .int (nI ((zp_cnt (fun k9 => !zp_wk s a z sd k9) k) + 1))), (0, .ref (r 0)), (1, .int (nI t9)), (3, .int (nI q)), (5, .int (nI k)), (6, .int (nI (zp_bits (fun o9 => decide (zp_sq sd (7 * k + o9 + 1) / 65536 % 4 = 0)) o))), (7, .int (nI o))]) hx hb dX3_weeksNow_83 hl (by decide) rfl (fun ls hl => ?_)
                refine lv_iinc (v := nI (k + 1)) (lv' := [(5, .int (nI (k + 1))), (4, .int (nI ((zp_cnt (fun k9 => !zp_wk s a z sd k9) k) + 1))), (0, .ref (r 0)), (1, .int (nI t9)), (3, .int (nI q)), (6, .int (nI (zp_bits (fun o9 => decide (zp_sq sd (7 * k + o9 + 1) / 65536 % 4 = 0)) o))), (7, .int (nI o))]) hx hb dX3_weeksNow_85 hl (k := 4) rfl (zx_inc _ _) (by decide) rfl (fun ls hl => ?_)
                refine lv_goto (tgt := 12) hx hb dX3_weeksNow_88 (by decide) ?_
                exact ih_12 (k + 1) y6 (by omega) (by omega) (by rw [gy]; rw [show o = 7 by omega]; rfl) _ rfl _ rfl _ (zp_cntT (f := fun k9 => !zp_wk s a z sd k9) (by simp [c_74])) _ rfl _ _ hP hD hS ls (lv_sub hl [2, 3, 4, 1, 0] rfl)
              · refine lv_iconst (v := nI 0) hx hb dX3_weeksNow_77 (by decide) ?_
                refine lv_goto (tgt := 82) hx hb dX3_weeksNow_78 (by decide) ?_
                refine zx_iadd hx hb dX3_weeksNow_82 ?_
                refine lv_istore (lv' := [(4, .int (nI ((zp_cnt (fun k9 => !zp_wk s a z sd k9) k) + 0))), (0, .ref (r 0)), (1, .int (nI t9)), (3, .int (nI q)), (5, .int (nI k)), (6, .int (nI (zp_bits (fun o9 => decide (zp_sq sd (7 * k + o9 + 1) / 65536 % 4 = 0)) o))), (7, .int (nI o))]) hx hb dX3_weeksNow_83 hl (by decide) rfl (fun ls hl => ?_)
                refine lv_iinc (v := nI (k + 1)) (lv' := [(5, .int (nI (k + 1))), (4, .int (nI ((zp_cnt (fun k9 => !zp_wk s a z sd k9) k) + 0))), (0, .ref (r 0)), (1, .int (nI t9)), (3, .int (nI q)), (6, .int (nI (zp_bits (fun o9 => decide (zp_sq sd (7 * k + o9 + 1) / 65536 % 4 = 0)) o))), (7, .int (nI o))]) hx hb dX3_weeksNow_85 hl (k := 4) rfl (zx_inc _ _) (by decide) rfl (fun ls hl => ?_)
                refine lv_goto (tgt := 12) hx hb dX3_weeksNow_88 (by decide) ?_
                exact ih_12 (k + 1) y6 (by omega) (by omega) (by rw [gy]; rw [show o = 7 by omega]; rfl) _ rfl _ rfl _ (zp_cntF (f := fun k9 => !zp_wk s a z sd k9) (by simp [c_74])) _ rfl _ _ hP hD hS ls (lv_sub hl [2, 3, 4, 1, 0] rfl)
            · refine lv_iload hx hb dX3_weeksNow_34 (lv_at hl 5 rfl) ?_
              refine lv_aload_n hx hb dX3_weeksNow_36 rfl (lv_at hl 0 rfl) ?_
              refine lv_iconst (v := nI 4) hx hb dX3_weeksNow_37 (by decide) ?_
              refine zx_V_i (As := [.int (nI 4)]) (rest := [.int (nI (zp_bits (fun o9 => decide (zp_sq sd (7 * k + o9 + 1) / 65536 % 4 = 0)) o))]) cf (c_X3_draw l D cI cB r (zx_up s 16 y6) a z h) (cwV 1 hts gX3_weeksNow_X3_draw rfl rfl rfl ⟨rfl, hd_X3_draw⟩ ⟨Nat.le_of_ble_eq_true rfl, Nat.le_of_ble_eq_true rfl⟩) hK hN hP hD hS hA 0 rfl rfl rfl hl.1 rfl (Nat.le_of_ble_eq_true rfl) dX3_weeksNow_38 ⟨Nat.zero_le _, Nat.zero_le _⟩ (fun v_38 u_38 H locs hq hP hD hS => ?_)
              obtain ⟨rfl, rfl⟩ := hq
              have hP : va_P D vwCl (zm_w cI cB r ((zx_up s 16 (zp_nx y6)), a, z, h)) H := hP
              have hD : va_D A (zm_w cI cB r ((zx_up s 16 (zp_nx y6)), a, z, h)) := hD
              refine zx_if_ne hx hb (tgt := 51) (by omega) dX3_weeksNow_41 (by decide) (fun c_41 => ?_) (fun c_41 => ?_)
              · refine lv_iconst (v := nI 0) hx hb dX3_weeksNow_51 (by decide) ?_
                refine zx_ior hx hb dX3_weeksNow_52 ?_
                refine lv_istore (lv' := [(6, .int (nI ((zp_bits (fun o9 => decide (zp_sq sd (7 * k + o9 + 1) / 65536 % 4 = 0)) o) ||| 0))), (0, .ref (r 0)), (1, .int (nI t9)), (3, .int (nI q)), (4, .int (nI (zp_cnt (fun k9 => !zp_wk s a z sd k9) k))), (5, .int (nI k)), (7, .int (nI o))]) hx hb dX3_weeksNow_53 hl (by decide) rfl (fun ls hl => ?_)
                refine lv_iinc (v := nI (o + 1)) (lv' := [(7, .int (nI (o + 1))), (6, .int (nI ((zp_bits (fun o9 => decide (zp_sq sd (7 * k + o9 + 1) / 65536 % 4 = 0)) o) ||| 0))), (0, .ref (r 0)), (1, .int (nI t9)), (3, .int (nI q)), (4, .int (nI (zp_cnt (fun k9 => !zp_wk s a z sd k9) k))), (5, .int (nI k))]) hx hb dX3_weeksNow_55 hl (k := 6) rfl (zx_inc _ _) (by decide) rfl (fun ls hl => ?_)
                refine lv_goto (tgt := 27) hx hb dX3_weeksNow_58 (by decide) ?_
                exact ih_27 (o + 1) (zp_nx y6) (by omega) (by omega) (by rw [gy]; rfl) _ rfl _ rfl _ rfl _ rfl _ (zp_bitsF (f := (fun o9 => decide (zp_sq sd (7 * k + o9 + 1) / 65536 % 4 = 0))) (decide_eq_false (by show ¬ zp_nx (zp_sq sd (7 * k + o)) / 65536 % 4 = 0; rw [← gy]; exact c_41))) _ rfl _ _ hP hD hS ls (lv_sub hl [2, 3, 4, 5, 6, 1, 0] rfl)
              · refine lv_iconst (v := nI 1) hx hb dX3_weeksNow_44 (by decide) ?_
                refine lv_iload hx hb dX3_weeksNow_45 (lv_at hl 6 rfl) ?_
                refine zx_ishl1 hx hb (by omega) dX3_weeksNow_47 ?_
                refine lv_goto (tgt := 52) hx hb dX3_weeksNow_48 (by decide) ?_
                refine zx_ior hx hb dX3_weeksNow_52 ?_
                refine lv_istore (lv' := [(6, .int (nI ((zp_bits (fun o9 => decide (zp_sq sd (7 * k + o9 + 1) / 65536 % 4 = 0)) o) ||| (2 ^ o)))), (0, .ref (r 0)), (1, .int (nI t9)), (3, .int (nI q)), (4, .int (nI (zp_cnt (fun k9 => !zp_wk s a z sd k9) k))), (5, .int (nI k)), (7, .int (nI o))]) hx hb dX3_weeksNow_53 hl (by decide) rfl (fun ls hl => ?_)
                refine lv_iinc (v := nI (o + 1)) (lv' := [(7, .int (nI (o + 1))), (6, .int (nI ((zp_bits (fun o9 => decide (zp_sq sd (7 * k + o9 + 1) / 65536 % 4 = 0)) o) ||| (2 ^ o)))), (0, .ref (r 0)), (1, .int (nI t9)), (3, .int (nI q)), (4, .int (nI (zp_cnt (fun k9 => !zp_wk s a z sd k9) k))), (5, .int (nI k))]) hx hb dX3_weeksNow_55 hl (k := 6) rfl (zx_inc _ _) (by decide) rfl (fun ls hl => ?_)
                refine lv_goto (tgt := 27) hx hb dX3_weeksNow_58 (by decide) ?_
                exact ih_27 (o + 1) (zp_nx y6) (by omega) (by omega) (by rw [gy]; rfl) _ rfl _ rfl _ rfl _ rfl _ (zp_bitsT (f := (fun o9 => decide (zp_sq sd (7 * k + o9 + 1) / 65536 % 4 = 0))) (decide_eq_true (by show zp_nx (zp_sq sd (7 * k + o)) / 65536 % 4 = 0; rw [← gy]; exact c_41))) _ rfl _ _ hP hD hS ls (lv_sub hl [2, 3, 4, 5, 6, 1, 0] rfl)
        exact lp_27 _ 0 y6 (Nat.lt_succ_self _) (Nat.zero_le _) gy _ rfl _ rfl _ rfl _ rfl _ rfl _ rfl _ _ hP hD hS ls (lv_sub hl [2, 3, 4, 5, 6, 1, 0] rfl)
  exact lp_12 _ 0 sd (Nat.lt_succ_self _) (Nat.zero_le _) rfl _ rfl _ rfl _ rfl _ rfl _ _ hP hD hS ls (lv_sub hl [2, 3, 5, 1, 0] rfl)
set_option maxHeartbeats 4000000 in
set_option maxRecDepth 100000 in
theorem c_X3_weeks (l : Launch) (D : va_G) (cI cB : ClassId) (r : Nat → Nat) (s : Nat → Nat) (a : Nat → Nat → Nat) (z : Nat → Int) (h : Int64) (x y w9 : Int32) (hI : zm_I s a z) : zx_C zx_ei l D (zm_t cI cB) (zm_w cI cB r) yX3_weeks wsX3_weeks rmX3_weeks [.ref (r 0), .int x, .int y, .int w9] (s, a, z, h) (fun v u' => zd_out (zd_weeks (s 0) x y w9) (fun e9 => v = e9 ∧ u' = (s, a, z, h)) (fun k => v = zp_wks s a z k.1 k.2.1 k.2.2 ∧ u' = (zx_up s 16 (zp_sq k.2.1 (7 * (k.1 * 9))), a, z, h))) := by
  refine zx_of_i (cc := cX3_weeks) (maxL := 4) (by decide) rfl (Nat.le_of_ble_eq_true rfl) ?_
  intro p e st m args below meth c A Q H cf hK hN hP hD hS hA hret ls hl
  obtain ⟨hx, hb, hml, hown, hts⟩ := id cf
  have hi3 : ∀ w ∈ wsX30, w ∈ wsX3_weeks := fun w h => List.mem_cons_of_mem _ (List.mem_append_right _ h)
  have k75 := hts (.fieldLink RX3 75 "NineDrawersModel" "isChest" "Z") (List.mem_of_getElem? (i := 1) (by decide +kernel))
  have hl : lv_has ls 4 [(0, .ref (r 0)), (1, .int x), (2, .int y), (3, .int w9)] := hl
  have hP : va_P D vwCl ((zm_w cI cB r) (s, a, z, h)) H := hP
  have hD : va_D A ((zm_w cI cB r) (s, a, z, h)) := hD
  obtain ⟨⟨i0, i1, i3, i5, i9, i13, i14⟩, ⟨i17, i18, i19, i20, i21⟩, iP, iF, iL, iG, iZ, jL, jP, jF⟩ := id hI
  refine lv_iload_n hx hb dX3_weeks_0 rfl (lv_at hl 1 rfl) ?_
  refine lv_iconst (v := nI 1) hx hb dX3_weeks_1 (by decide) ?_
  refine lv_bipush (v := nI 12) hx hb dX3_weeks_2 (by decide) ?_
  refine zx_S (As := [.int x, .int (nI 1), .int (nI 12)]) (rest := []) cf (c_X3_within l D x (nI 1) (nI 12) ) (va_cwS 3 hts gX3_weeks_X3_within rfl rfl rfl hd_X3_within ⟨Nat.le_of_ble_eq_true rfl, Nat.le_of_ble_eq_true rfl⟩) hK hN hP hS hA rfl hl.1 rfl (Nat.le_of_ble_eq_true rfl) dX3_weeks_4 ⟨Nat.zero_le _, Nat.zero_le _⟩ (fun H locs hP hS => ?_)
  refine zx_bf_eq hx hb (tgt := 23) dX3_weeks_7 (by decide) (fun c_7 => ?_) (fun c_7 => ?_)
  · refine lv_bipush (v := (-102)) hx hb dX3_weeks_23 (by decide) ?_
    exact hret _ _ _ _ _ _ hP hD hS dX3_weeks_25 (zd_inl (by unfold zd_weeks; simp only [zd_nos c_7]) ⟨rfl, rfl⟩)
  · obtain ⟨t9, rfl, ht1, ht2, hz⟩ := zd_yes (by decide) (by decide) c_7
    refine lv_iload_n hx hb dX3_weeks_10 rfl (lv_at hl 2 rfl) ?_
    refine lv_if_lt (tgt := 23) hx hb dX3_weeks_11 (by decide) (fun c_11 => ?_) (fun c_11 => ?_)
    · refine lv_bipush (v := (-102)) hx hb dX3_weeks_23 (by decide) ?_
      exact hret _ _ _ _ _ _ hP hD hS dX3_weeks_25 (zd_inl (by unfold zd_weeks; simp only [hz]; exact if_pos c_11) ⟨rfl, rfl⟩)
    · obtain ⟨sd, hs, rfl⟩ := nI_of c_11
      refine lv_iload_n hx hb dX3_weeks_14 rfl (lv_at hl 3 rfl) ?_
      refine lv_iconst (v := nI 0) hx hb dX3_weeks_15 (by decide) ?_
      refine lv_iconst (v := nI 1) hx hb dX3_weeks_16 (by decide) ?_
      refine zx_S (As := [.int w9, .int (nI 0), .int (nI 1)]) (rest := []) cf (c_X3_within l D w9 (nI 0) (nI 1) ) (va_cwS 3 hts gX3_weeks_X3_within rfl rfl rfl hd_X3_within ⟨Nat.le_of_ble_eq_true rfl, Nat.le_of_ble_eq_true rfl⟩) hK hN hP hS hA rfl hl.1 rfl (Nat.le_of_ble_eq_true rfl) dX3_weeks_17 ⟨Nat.zero_le _, Nat.zero_le _⟩ (fun H locs hP hS => ?_)
      refine zx_bf_ne hx hb (tgt := 26) dX3_weeks_20 (by decide) (fun c_20 => ?_) (fun c_20 => ?_)
      · obtain ⟨q, rfl, hq1, hq2, hw⟩ := zd_yes (by decide) (by decide) c_20
        refine lv_aload_n hx hb dX3_weeks_26 rfl (lv_at hl 0 rfl) ?_
        refine va_get (D := D) (ci := 3) (v := .int (nI (s 0))) (C := RX3) (T := TX3) (N := 29) hx hb hts hi3 hown hK hP 0 rfl rfl 0 (by decide) k75 (fun _ h9 => h9) rfl dX3_weeks_27 ?_
        refine zx_if_eq hx hb (tgt := 43) (by omega) dX3_weeks_30 (by decide) (fun c_30 => ?_) (fun c_30 => ?_)
        · refine lv_bipush (v := (-103)) hx hb dX3_weeks_43 (by decide) ?_
          exact hret _ _ _ _ _ _ hP hD hS dX3_weeks_45 (zd_inl (zd_wk_s hz c_11 hw c_30) ⟨rfl, rfl⟩)
        · refine lv_aload_n hx hb dX3_weeks_33 rfl (lv_at hl 0 rfl) ?_
          refine lv_iload_n hx hb dX3_weeks_34 rfl (lv_at hl 1 rfl) ?_
          refine lv_iload_n hx hb dX3_weeks_35 rfl (lv_at hl 2 rfl) ?_
          refine lv_iload_n hx hb dX3_weeks_36 rfl (lv_at hl 3 rfl) ?_
          refine zx_V_i (As := [.int (nI t9), .int (nI sd), .int (nI q)]) (rest := []) cf (c_X3_weeksNow l D cI cB r s a z h t9 sd q hI (by omega) (by omega) (by omega)) (cwV 3 hts gX3_weeks_X3_weeksNow rfl rfl rfl ⟨rfl, hd_X3_weeksNow⟩ ⟨Nat.le_of_ble_eq_true rfl, Nat.le_of_ble_eq_true rfl⟩) hK hN hP hD hS hA 0 rfl rfl rfl hl.1 rfl (Nat.le_of_ble_eq_true rfl) dX3_weeks_37 ⟨Nat.zero_le _, Nat.zero_le _⟩ (fun v_37 u_37 H locs hq hP hD hS => ?_)
          obtain ⟨rfl, rfl⟩ := hq
          refine lv_goto (tgt := 45) hx hb dX3_weeks_40 (by decide) ?_
          exact hret _ _ _ _ _ _ hP hD hS dX3_weeks_45 (zd_inr (k := (t9, sd, q)) (zd_wk_o hs hz c_11 hw c_30) ⟨rfl, rfl⟩)
      · refine lv_bipush (v := (-102)) hx hb dX3_weeks_23 (by decide) ?_
        exact hret _ _ _ _ _ _ hP hD hS dX3_weeks_25 (zd_inl (by unfold zd_weeks; simp only [hz, zd_nos c_20]; exact if_neg c_11) ⟨rfl, rfl⟩)
