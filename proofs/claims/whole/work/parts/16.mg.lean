set_option maxHeartbeats 4000000 in
set_option maxRecDepth 100000 in
theorem c_X3_image (l : Launch) (D : va_G) (cI cB : ClassId) (r : Nat → Nat) (s : Nat → Nat) (a : Nat → Nat → Nat) (z : Nat → Int) (h : Int64) (hI : zm_I s a z) : zx_C zx_ei l D (zm_t cI cB) (zm_w cI cB r) yX3_image wsX3_image rmX3_image [.ref (r 0)] (s, a, z, h) (fun v u' => zd_out (zd_img (s 0)) (fun e9 => v = e9 ∧ u' = (s, a, z, h)) (fun _ => v = nI (s 5) ∧ ∃ b : Nat → Nat → Nat, u' = ((zx_up (zx_up (zx_up (zx_up (zx_up s 17 1) 18 (s 1)) 19 (s 3)) 20 (s 5)) 21 (s 9)), b, z, h) ∧ (∀ j, j < 9 → b 22 j = a 4 j) ∧ (∀ j, j < 6 → b 23 j = a 7 j ∧ b 24 j = a 8 j) ∧ (∀ j, j < 8 → b 25 j = a 10 j ∧ b 26 j = a 11 j ∧ b 27 j = a 12 j) ∧ (∀ k, k < 22 → b k = a k))) := by
  refine zx_of_i (cc := cX3_image) (maxL := 2) (by decide) rfl (Nat.le_of_ble_eq_true rfl) ?_
  intro p e st m args below meth c A Q H cf hK hN hP hD hS hA hret ls hl
  obtain ⟨hx, hb, hml, hown, hts⟩ := id cf
  have hi3 : ∀ w ∈ wsX30, w ∈ wsX3_image := fun w h => List.mem_cons_of_mem _ (List.mem_append_right _ h)
  have k75 := hts (.fieldLink RX3 75 "NineDrawersModel" "isChest" "Z") (List.mem_of_getElem? (i := 1) (by decide +kernel))
  have k187 := hts (.fieldLink RX3 187 "NineDrawersModel" "isKept" "Z") (List.mem_of_getElem? (i := 2) (by decide +kernel))
  have k79 := hts (.fieldLink RX3 79 "NineDrawersModel" "chests" "I") (List.mem_of_getElem? (i := 3) (by decide +kernel))
  have k190 := hts (.fieldLink RX3 190 "NineDrawersModel" "keptChest" "I") (List.mem_of_getElem? (i := 4) (by decide +kernel))
  have k72 := hts (.fieldLink RX3 72 "NineDrawersModel" "facing" "I") (List.mem_of_getElem? (i := 5) (by decide +kernel))
  have k193 := hts (.fieldLink RX3 193 "NineDrawersModel" "keptFacing" "I") (List.mem_of_getElem? (i := 6) (by decide +kernel))
  have k82 := hts (.fieldLink RX3 82 "NineDrawersModel" "people" "I") (List.mem_of_getElem? (i := 7) (by decide +kernel))
  have k196 := hts (.fieldLink RX3 196 "NineDrawersModel" "keptPeople" "I") (List.mem_of_getElem? (i := 8) (by decide +kernel))
  have k85 := hts (.fieldLink RX3 85 "NineDrawersModel" "found" "I") (List.mem_of_getElem? (i := 9) (by decide +kernel))
  have k199 := hts (.fieldLink RX3 199 "NineDrawersModel" "keptFound" "I") (List.mem_of_getElem? (i := 10) (by decide +kernel))
  have k47 := hts (.fieldLink RX3 47 "NineDrawersModel" "keptIn" "[I") (List.mem_of_getElem? (i := 17) (by decide +kernel))
  have k25 := hts (.fieldLink RX3 25 "NineDrawersModel" "foundIn" "[I") (List.mem_of_getElem? (i := 18) (by decide +kernel))
  have k50 := hts (.fieldLink RX3 50 "NineDrawersModel" "keptOn" "[I") (List.mem_of_getElem? (i := 19) (by decide +kernel))
  have k28 := hts (.fieldLink RX3 28 "NineDrawersModel" "foundOn" "[I") (List.mem_of_getElem? (i := 20) (by decide +kernel))
  have k53 := hts (.fieldLink RX3 53 "NineDrawersModel" "keptIs" "[I") (List.mem_of_getElem? (i := 21) (by decide +kernel))
  have k31 := hts (.fieldLink RX3 31 "NineDrawersModel" "foundIs" "[I") (List.mem_of_getElem? (i := 22) (by decide +kernel))
  have k41 := hts (.fieldLink RX3 41 "NineDrawersModel" "keptDrawer" "[I") (List.mem_of_getElem? (i := 13) (by decide +kernel))
  have k19 := hts (.fieldLink RX3 19 "NineDrawersModel" "drawerOf" "[I") (List.mem_of_getElem? (i := 14) (by decide +kernel))
  have k44 := hts (.fieldLink RX3 44 "NineDrawersModel" "keptDay" "[I") (List.mem_of_getElem? (i := 15) (by decide +kernel))
  have k22 := hts (.fieldLink RX3 22 "NineDrawersModel" "dayOf" "[I") (List.mem_of_getElem? (i := 16) (by decide +kernel))
  have k38 := hts (.fieldLink RX3 38 "NineDrawersModel" "keptLaid" "[I") (List.mem_of_getElem? (i := 11) (by decide +kernel))
  have k13 := hts (.fieldLink RX3 13 "NineDrawersModel" "laidIn" "[I") (List.mem_of_getElem? (i := 12) (by decide +kernel))
  have hl : lv_has ls 2 [(0, .ref (r 0))] := hl
  have hP : va_P D vwCl ((zm_w cI cB r) (s, a, z, h)) H := hP
  have hD : va_D A ((zm_w cI cB r) (s, a, z, h)) := hD
  obtain ⟨⟨i0, i1, i3, i5, i9, i13, i14⟩, ⟨i17, i18, i19, i20, i21⟩, iP, iF, iL, iG, iZ, jL, jP, jF⟩ := id hI
  refine lv_aload_n hx hb dX3_image_0 rfl (lv_at hl 0 rfl) ?_
  refine va_get (D := D) (ci := 3) (v := .int (nI (s 0))) (C := RX3) (T := TX3) (N := 29) hx hb hts hi3 hown hK hP 0 rfl rfl 0 (by decide) k75 (fun _ h9 => h9) rfl dX3_image_1 ?_
  refine zx_if_ne hx hb (tgt := 10) (by omega) dX3_image_4 (by decide) (fun c_4 => ?_) (fun c_4 => ?_)
  · refine lv_aload_n hx hb dX3_image_10 rfl (lv_at hl 0 rfl) ?_
    refine lv_iconst (v := nI 1) hx hb dX3_image_11 (by decide) ?_
    refine zx_put (D := D) (ci := 3) (ty := .boolean) (v := .int (nI 1)) (ws' := (zm_w cI cB r) ((zx_up s 17 1), a, z, h)) (C := RX3) (T := TX3) (N := 29) hx hb hts hi3 tyX3 tyX3_ok nmX3 hown hK hP hD hS 0 rfl rfl 17 (by decide) k187 (fun _ h9 => h9) rfl (by decide +kernel) rfl rfl (Nat.le_of_ble_eq_true rfl) rfl dX3_image_12 (fun H locs hP hD hS => ?_)
    refine lv_aload_n hx hb dX3_image_15 rfl (lv_at hl 0 rfl) ?_
    refine lv_aload_n hx hb dX3_image_16 rfl (lv_at hl 0 rfl) ?_
    refine va_get (D := D) (ci := 3) (v := .int (nI (s 1))) (C := RX3) (T := TX3) (N := 29) hx hb hts hi3 hown hK hP 0 rfl rfl 1 (by decide) k79 (fun _ h9 => h9) rfl dX3_image_17 ?_
    refine zx_put (D := D) (ci := 3) (ty := .int) (v := .int (nI (s 1))) (ws' := (zm_w cI cB r) ((zx_up (zx_up s 17 1) 18 (s 1)), a, z, h)) (C := RX3) (T := TX3) (N := 29) hx hb hts hi3 tyX3 tyX3_ok nmX3 hown hK hP hD hS 0 rfl rfl 18 (by decide) k190 (fun _ h9 => h9) rfl (by decide +kernel) rfl rfl (Nat.le_of_ble_eq_true rfl) rfl dX3_image_20 (fun H locs hP hD hS => ?_)
    refine lv_aload_n hx hb dX3_image_23 rfl (lv_at hl 0 rfl) ?_
    refine lv_aload_n hx hb dX3_image_24 rfl (lv_at hl 0 rfl) ?_
    refine va_get (D := D) (ci := 3) (v := .int (nI (s 3))) (C := RX3) (T := TX3) (N := 29) hx hb hts hi3 hown hK hP 0 rfl rfl 3 (by decide) k72 (fun _ h9 => h9) rfl dX3_image_25 ?_
    refine zx_put (D := D) (ci := 3) (ty := .int) (v := .int (nI (s 3))) (ws' := (zm_w cI cB r) ((zx_up (zx_up (zx_up s 17 1) 18 (s 1)) 19 (s 3)), a, z, h)) (C := RX3) (T := TX3) (N := 29) hx hb hts hi3 tyX3 tyX3_ok nmX3 hown hK hP hD hS 0 rfl rfl 19 (by decide) k193 (fun _ h9 => h9) rfl (by decide +kernel) rfl rfl (Nat.le_of_ble_eq_true rfl) rfl dX3_image_28 (fun H locs hP hD hS => ?_)
    refine lv_aload_n hx hb dX3_image_31 rfl (lv_at hl 0 rfl) ?_
    refine lv_aload_n hx hb dX3_image_32 rfl (lv_at hl 0 rfl) ?_
    refine va_get (D := D) (ci := 3) (v := .int (nI (s 5))) (C := RX3) (T := TX3) (N := 29) hx hb hts hi3 hown hK hP 0 rfl rfl 5 (by decide) k82 (fun _ h9 => h9) rfl dX3_image_33 ?_
    refine zx_put (D := D) (ci := 3) (ty := .int) (v := .int (nI (s 5))) (ws' := (zm_w cI cB r) ((zx_up (zx_up (zx_up (zx_up s 17 1) 18 (s 1)) 19 (s 3)) 20 (s 5)), a, z, h)) (C := RX3) (T := TX3) (N := 29) hx hb hts hi3 tyX3 tyX3_ok nmX3 hown hK hP hD hS 0 rfl rfl 20 (by decide) k196 (fun _ h9 => h9) rfl (by decide +kernel) rfl rfl (Nat.le_of_ble_eq_true rfl) rfl dX3_image_36 (fun H locs hP hD hS => ?_)
    refine lv_aload_n hx hb dX3_image_39 rfl (lv_at hl 0 rfl) ?_
    refine lv_aload_n hx hb dX3_image_40 rfl (lv_at hl 0 rfl) ?_
    refine va_get (D := D) (ci := 3) (v := .int (nI (s 9))) (C := RX3) (T := TX3) (N := 29) hx hb hts hi3 hown hK hP 0 rfl rfl 9 (by decide) k85 (fun _ h9 => h9) rfl dX3_image_41 ?_
    refine zx_put (D := D) (ci := 3) (ty := .int) (v := .int (nI (s 9))) (ws' := (zm_w cI cB r) ((zx_up (zx_up (zx_up (zx_up (zx_up s 17 1) 18 (s 1)) 19 (s 3)) 20 (s 5)) 21 (s 9)), a, z, h)) (C := RX3) (T := TX3) (N := 29) hx hb hts hi3 tyX3 tyX3_ok nmX3 hown hK hP hD hS 0 rfl rfl 21 (by decide) k199 (fun _ h9 => h9) rfl (by decide +kernel) rfl rfl (Nat.le_of_ble_eq_true rfl) rfl dX3_image_44 (fun H locs hP hD hS => ?_)
    refine lv_iconst (v := nI 0) hx hb dX3_image_47 (by decide) ?_
    refine lv_istore_n (lv' := [(1, .int (nI 0)), (0, .ref (r 0))]) hx hb dX3_image_48 rfl hl (by decide) rfl (fun ls hl => ?_)
    have lp_49 : ∀ (n_ : Nat) (i : Nat) (b : Nat → Nat → Nat), 9 - i < n_ → (i ≤ 9) → (∀ j, j < i → b 22 j = a 4 j) → (∀ k, k ≠ 22 → b k = a k) → ∀ x1 : Int32, x1 = nI i → ∀ (H : Heap) (locs : List Loc), va_P D vwCl ((zm_w cI cB r) ((zx_up (zx_up (zx_up (zx_up (zx_up s 17 1) 18 (s 1)) 19 (s 3)) 20 (s 5)) 21 (s 9)), b, z, h)) H → va_D A ((zm_w cI cB r) ((zx_up (zx_up (zx_up (zx_up (zx_up s 17 1) 18 (s 1)) 19 (s 3)) 20 (s 5)) 21 (s 9)), b, z, h)) → va_S A st.heap H locs → ∀ ls : Array Slot, lv_has ls 2 [(0, .ref (r 0)), (1, .int x1)] → W p l e rmX3_image st m args below meth c H locs 0 0 Q (F0 m 49 ls []) := by
      intro n_
      induction n_ with
      | zero => intros; omega
      | succ n_ ih_49 =>
        intro i b hmu_49 hi9 g22 gk
        intro x1 ex1; subst ex1
        intro H locs hP hD hS ls hl
        have hl : lv_has ls 2 [(0, .ref (r 0)), (1, .int (nI i))] := hl
        refine lv_iload_n hx hb dX3_image_49 rfl (lv_at hl 1 rfl) ?_
        refine lv_bipush (v := nI 9) hx hb dX3_image_50 (by decide) ?_
        refine zx_icmp_ge hx hb (tgt := 73) (by omega) (by omega) dX3_image_52 (by decide) (fun c_52 => ?_) (fun c_52 => ?_)
        · refine lv_iconst (v := nI 0) hx hb dX3_image_73 (by decide) ?_
          refine lv_istore_n (lv' := [(1, .int (nI 0)), (0, .ref (r 0))]) hx hb dX3_image_74 rfl hl (by decide) rfl (fun ls hl => ?_)
          have lp_75 : ∀ (n_ : Nat) (i : Nat) (b : Nat → Nat → Nat), 6 - i < n_ → (i ≤ 6) → (∀ j, j < 9 → b 22 j = a 4 j) → (∀ j, j < i → b 23 j = a 7 j) → (∀ j, j < i → b 24 j = a 8 j) → (∀ k, k ≠ 22 → k ≠ 23 → k ≠ 24 → b k = a k) → ∀ x1 : Int32, x1 = nI i → ∀ (H : Heap) (locs : List Loc), va_P D vwCl ((zm_w cI cB r) ((zx_up (zx_up (zx_up (zx_up (zx_up s 17 1) 18 (s 1)) 19 (s 3)) 20 (s 5)) 21 (s 9)), b, z, h)) H → va_D A ((zm_w cI cB r) ((zx_up (zx_up (zx_up (zx_up (zx_up s 17 1) 18 (s 1)) 19 (s 3)) 20 (s 5)) 21 (s 9)), b, z, h)) → va_S A st.heap H locs → ∀ ls : Array Slot, lv_has ls 2 [(0, .ref (r 0)), (1, .int x1)] → W p l e rmX3_image st m args below meth c H locs 0 0 Q (F0 m 75 ls []) := by
            intro n_
            induction n_ with
            | zero => intros; omega
            | succ n_ ih_75 =>
              intro i b hmu_75 hi9 g22 g23 g24 gk
              intro x1 ex1; subst ex1
              intro H locs hP hD hS ls hl
              have hl : lv_has ls 2 [(0, .ref (r 0)), (1, .int (nI i))] := hl
              refine lv_iload_n hx hb dX3_image_75 rfl (lv_at hl 1 rfl) ?_
              refine lv_bipush (v := nI 6) hx hb dX3_image_76 (by decide) ?_
              refine zx_icmp_ge hx hb (tgt := 111) (by omega) (by omega) dX3_image_78 (by decide) (fun c_78 => ?_) (fun c_78 => ?_)
              · refine lv_iconst (v := nI 0) hx hb dX3_image_111 (by decide) ?_
                refine lv_istore_n (lv' := [(1, .int (nI 0)), (0, .ref (r 0))]) hx hb dX3_image_112 rfl hl (by decide) rfl (fun ls hl => ?_)
                have lp_113 : ∀ (n_ : Nat) (i : Nat) (b : Nat → Nat → Nat), 8 - i < n_ → (i ≤ 8) → (∀ j, j < 9 → b 22 j = a 4 j) → (∀ j, j < 6 → b 23 j = a 7 j) → (∀ j, j < 6 → b 24 j = a 8 j) → (∀ j, j < i → b 25 j = a 10 j) → (∀ j, j < i → b 26 j = a 11 j) → (∀ j, j < i → b 27 j = a 12 j) → (∀ k, k ≠ 22 → k ≠ 23 → k ≠ 24 → k ≠ 25 → k ≠ 26 → k ≠ 27 → b k = a k) → ∀ x1 : Int32, x1 = nI i → ∀ (H : Heap) (locs : List Loc), va_P D vwCl ((zm_w cI cB r) ((zx_up (zx_up (zx_up (zx_up (zx_up s 17 1) 18 (s 1)) 19 (s 3)) 20 (s 5)) 21 (s 9)), b, z, h)) H → va_D A ((zm_w cI cB r) ((zx_up (zx_up (zx_up (zx_up (zx_up s 17 1) 18 (s 1)) 19 (s 3)) 20 (s 5)) 21 (s 9)), b, z, h)) → va_S A st.heap H locs → ∀ ls : Array Slot, lv_has ls 2 [(0, .ref (r 0)), (1, .int x1)] → W p l e rmX3_image st m args below meth c H locs 0 0 Q (F0 m 113 ls []) := by
                  intro n_
                  induction n_ with
                  | zero => intros; omega
                  | succ n_ ih_113 =>
                    intro i b hmu_113 hi9 g22 g23 g24 g25 g26 g27 gk
                    intro x1 ex1; subst ex1
                    intro H locs hP hD hS ls hl
                    have hl : lv_has ls 2 [(0, .ref (r 0)), (1, .int (nI i))] := hl
                    refine lv_iload_n hx hb dX3_image_113 rfl (lv_at hl 1 rfl) ?_
                    refine lv_bipush (v := nI 8) hx hb dX3_image_114 (by decide) ?_
                    refine zx_icmp_ge hx hb (tgt := 161) (by omega) (by omega) dX3_image_116 (by decide) (fun c_116 => ?_) (fun c_116 => ?_)
                    · refine lv_aload_n hx hb dX3_image_161 rfl (lv_at hl 0 rfl) ?_
                      refine va_get (D := D) (ci := 3) (v := .int (nI (s 5))) (C := RX3) (T := TX3) (N := 29) hx hb hts hi3 hown hK hP 0 rfl rfl 5 (by decide) k82 (fun _ h9 => h9) rfl dX3_image_162 ?_
                      exact hret _ _ _ _ _ _ hP hD hS dX3_image_165 (zd_inr (k := ()) (if_neg c_4) ⟨rfl, b, rfl, fun j hj => g22 j (by omega), fun j hj => ⟨g23 j (by omega), g24 j (by omega)⟩, fun j hj => ⟨g25 j (by omega), g26 j (by omega), g27 j (by omega)⟩, fun k hk => gk k (by omega) (by omega) (by omega) (by omega) (by omega) (by omega)⟩)
                    · refine lv_aload_n hx hb dX3_image_119 rfl (lv_at hl 0 rfl) ?_
                      refine va_get (D := D) (ci := 3) (v := .ref (r 25)) (C := RX3) (T := TX3) (N := 29) hx hb hts hi3 hown hK hP 0 rfl rfl 25 (by decide) k47 (fun _ h9 => h9) rfl dX3_image_120 ?_
                      refine lv_iload_n hx hb dX3_image_123 rfl (lv_at hl 1 rfl) ?_
                      refine lv_aload_n hx hb dX3_image_124 rfl (lv_at hl 0 rfl) ?_
                      refine va_get (D := D) (ci := 3) (v := .ref (r 10)) (C := RX3) (T := TX3) (N := 29) hx hb hts hi3 hown hK hP 0 rfl rfl 10 (by decide) k25 (fun _ h9 => h9) rfl dX3_image_125 ?_
                      refine lv_iload_n hx hb dX3_image_128 rfl (lv_at hl 1 rfl) ?_
                      refine zx_ald (f := b 10) (n := 8) hx hb hK hP 6 0 rfl rfl (by omega) (by decide) dX3_image_129 ?_
                      refine zx_ast (f := b 25) (n := 8) (ws' := (zm_w cI cB r) ((zx_up (zx_up (zx_up (zx_up (zx_up s 17 1) 18 (s 1)) 19 (s 3)) 20 (s 5)) 21 (s 9)), (zx_up b 25 (zx_up (b 25) i ((b 10) i))), z, h)) hx hb hK hP hD hS 13 0 rfl rfl (by omega) (by decide) rfl dX3_image_130 (fun H locs hP hD hS => ?_)
                      refine lv_aload_n hx hb dX3_image_131 rfl (lv_at hl 0 rfl) ?_
                      refine va_get (D := D) (ci := 3) (v := .ref (r 26)) (C := RX3) (T := TX3) (N := 29) hx hb hts hi3 hown hK hP 0 rfl rfl 26 (by decide) k50 (fun _ h9 => h9) rfl dX3_image_132 ?_
                      refine lv_iload_n hx hb dX3_image_135 rfl (lv_at hl 1 rfl) ?_
                      refine lv_aload_n hx hb dX3_image_136 rfl (lv_at hl 0 rfl) ?_
                      refine va_get (D := D) (ci := 3) (v := .ref (r 11)) (C := RX3) (T := TX3) (N := 29) hx hb hts hi3 hown hK hP 0 rfl rfl 11 (by decide) k28 (fun _ h9 => h9) rfl dX3_image_137 ?_
                      refine lv_iload_n hx hb dX3_image_140 rfl (lv_at hl 1 rfl) ?_
                      refine zx_ald (f := b 11) (n := 8) hx hb hK hP 7 0 rfl rfl (by omega) (by decide) dX3_image_141 ?_
                      refine zx_ast (f := b 26) (n := 8) (ws' := (zm_w cI cB r) ((zx_up (zx_up (zx_up (zx_up (zx_up s 17 1) 18 (s 1)) 19 (s 3)) 20 (s 5)) 21 (s 9)), (zx_up (zx_up b 25 (zx_up (b 25) i ((b 10) i))) 26 (zx_up (b 26) i ((b 11) i))), z, h)) hx hb hK hP hD hS 14 0 rfl rfl (by omega) (by decide) rfl dX3_image_142 (fun H locs hP hD hS => ?_)
                      refine lv_aload_n hx hb dX3_image_143 rfl (lv_at hl 0 rfl) ?_
                      refine va_get (D := D) (ci := 3) (v := .ref (r 27)) (C := RX3) (T := TX3) (N := 29) hx hb hts hi3 hown hK hP 0 rfl rfl 27 (by decide) k53 (fun _ h9 => h9) rfl dX3_image_144 ?_
                      refine lv_iload_n hx hb dX3_image_147 rfl (lv_at hl 1 rfl) ?_
                      refine lv_aload_n hx hb dX3_image_148 rfl (lv_at hl 0 rfl) ?_
                      refine va_get (D := D) (ci := 3) (v := .ref (r 12)) (C := RX3) (T := TX3) (N := 29) hx hb hts hi3 hown hK hP 0 rfl rfl 12 (by decide) k31 (fun _ h9 => h9) rfl dX3_image_149 ?_
                      refine lv_iload_n hx hb dX3_image_152 rfl (lv_at hl 1 rfl) ?_
                      refine zx_ald (f := b 12) (n := 8) hx hb hK hP 8 0 rfl rfl (by omega) (by decide) dX3_image_153 ?_
                      refine zx_ast (f := b 27) (n := 8) (ws' := (zm_w cI cB r) ((zx_up (zx_up (zx_up (zx_up (zx_up s 17 1) 18 (s 1)) 19 (s 3)) 20 (s 5)) 21 (s 9)), (zx_up (zx_up (zx_up b 25 (zx_up (b 25) i ((b 10) i))) 26 (zx_up (b 26) i ((b 11) i))) 27 (zx_up (b 27) i ((b 12) i))), z, h)) hx hb hK hP hD hS 15 0 rfl rfl (by omega) (by decide) rfl dX3_image_154 (fun H locs hP hD hS => ?_)
                      refine lv_iinc (v := nI (i + 1)) (lv' := [(1, .int (nI (i + 1))), (0, .ref (r 0))]) hx hb dX3_image_155 hl (k := 1) rfl (zx_inc _ _) (by decide) rfl (fun ls hl => ?_)
                      refine lv_goto (tgt := 113) hx hb dX3_image_158 (by decide) ?_
                      exact ih_113 (i + 1) (zx_up (zx_up (zx_up b 25 (zx_up (b 25) i ((b 10) i))) 26 (zx_up (b 26) i ((b 11) i))) 27 (zx_up (b 27) i ((b 12) i))) (by omega) (by omega) g22 g23 g24 (zp_upN (y := b 25) (by rw [gk 10 (by decide) (by decide) (by decide) (by decide) (by decide) (by decide)]) g25) (zp_upN (y := b 26) (by rw [gk 11 (by decide) (by decide) (by decide) (by decide) (by decide) (by decide)]) g26) (zp_upN (y := b 27) (by rw [gk 12 (by decide) (by decide) (by decide) (by decide) (by decide) (by decide)]) g27) (fun k h22 h23 h24 h25 h26 h27 => (zx_up_ne _ _ h27).trans ((zx_up_ne _ _ h26).trans ((zx_up_ne _ _ h25).trans (gk k h22 h23 h24 h25 h26 h27)))) _ rfl _ _ hP hD hS ls (lv_sub hl [1, 0] rfl)
                exact lp_113 _ 0 b (Nat.lt_succ_self _) (Nat.zero_le _) (fun j hj => g22 j (by omega)) (fun j hj => g23 j (by omega)) (fun j hj => g24 j (by omega)) (fun j hj => absurd hj (Nat.not_lt_zero j)) (fun j hj => absurd hj (Nat.not_lt_zero j)) (fun j hj => absurd hj (Nat.not_lt_zero j)) (fun k h22 h23 h24 h25 h26 h27 => gk k h22 h23 h24) _ rfl _ _ hP hD hS ls (lv_sub hl [1, 0] rfl)
              · refine lv_aload_n hx hb dX3_image_81 rfl (lv_at hl 0 rfl) ?_
                refine va_get (D := D) (ci := 3) (v := .ref (r 23)) (C := RX3) (T := TX3) (N := 29) hx hb hts hi3 hown hK hP 0 rfl rfl 23 (by decide) k41 (fun _ h9 => h9) rfl dX3_image_82 ?_
                refine lv_iload_n hx hb dX3_image_85 rfl (lv_at hl 1 rfl) ?_
                refine lv_aload_n hx hb dX3_image_86 rfl (lv_at hl 0 rfl) ?_
                refine va_get (D := D) (ci := 3) (v := .ref (r 7)) (C := RX3) (T := TX3) (N := 29) hx hb hts hi3 hown hK hP 0 rfl rfl 7 (by decide) k19 (fun _ h9 => h9) rfl dX3_image_87 ?_
                refine lv_iload_n hx hb dX3_image_90 rfl (lv_at hl 1 rfl) ?_
                refine zx_ald (f := b 7) (n := 6) hx hb hK hP 4 0 rfl rfl (by omega) (by decide) dX3_image_91 ?_
                refine zx_ast (f := b 23) (n := 6) (ws' := (zm_w cI cB r) ((zx_up (zx_up (zx_up (zx_up (zx_up s 17 1) 18 (s 1)) 19 (s 3)) 20 (s 5)) 21 (s 9)), (zx_up b 23 (zx_up (b 23) i ((b 7) i))), z, h)) hx hb hK hP hD hS 11 0 rfl rfl (by omega) (by decide) rfl dX3_image_92 (fun H locs hP hD hS => ?_)
                refine lv_aload_n hx hb dX3_image_93 rfl (lv_at hl 0 rfl) ?_
                refine va_get (D := D) (ci := 3) (v := .ref (r 24)) (C := RX3) (T := TX3) (N := 29) hx hb hts hi3 hown hK hP 0 rfl rfl 24 (by decide) k44 (fun _ h9 => h9) rfl dX3_image_94 ?_
                refine lv_iload_n hx hb dX3_image_97 rfl (lv_at hl 1 rfl) ?_
                refine lv_aload_n hx hb dX3_image_98 rfl (lv_at hl 0 rfl) ?_
                refine va_get (D := D) (ci := 3) (v := .ref (r 8)) (C := RX3) (T := TX3) (N := 29) hx hb hts hi3 hown hK hP 0 rfl rfl 8 (by decide) k22 (fun _ h9 => h9) rfl dX3_image_99 ?_
                refine lv_iload_n hx hb dX3_image_102 rfl (lv_at hl 1 rfl) ?_
                refine zx_ald (f := b 8) (n := 6) hx hb hK hP 5 0 rfl rfl (by omega) (by decide) dX3_image_103 ?_
                refine zx_ast (f := b 24) (n := 6) (ws' := (zm_w cI cB r) ((zx_up (zx_up (zx_up (zx_up (zx_up s 17 1) 18 (s 1)) 19 (s 3)) 20 (s 5)) 21 (s 9)), (zx_up (zx_up b 23 (zx_up (b 23) i ((b 7) i))) 24 (zx_up (b 24) i ((b 8) i))), z, h)) hx hb hK hP hD hS 12 0 rfl rfl (by omega) (by decide) rfl dX3_image_104 (fun H locs hP hD hS => ?_)
                refine lv_iinc (v := nI (i + 1)) (lv' := [(1, .int (nI (i + 1))), (0, .ref (r 0))]) hx hb dX3_image_105 hl (k := 1) rfl (zx_inc _ _) (by decide) rfl (fun ls hl => ?_)
                refine lv_goto (tgt := 75) hx hb dX3_image_108 (by decide) ?_
                exact ih_75 (i + 1) (zx_up (zx_up b 23 (zx_up (b 23) i ((b 7) i))) 24 (zx_up (b 24) i ((b 8) i))) (by omega) (by omega) g22 (zp_upN (y := b 23) (by rw [gk 7 (by decide) (by decide) (by decide)]) g23) (zp_upN (y := b 24) (by rw [gk 8 (by decide) (by decide) (by decide)]) g24) (fun k h22 h23 h24 => (zx_up_ne _ _ h24).trans ((zx_up_ne _ _ h23).trans (gk k h22 h23 h24))) _ rfl _ _ hP hD hS ls (lv_sub hl [1, 0] rfl)
          exact lp_75 _ 0 b (Nat.lt_succ_self _) (Nat.zero_le _) (fun j hj => g22 j (by omega)) (fun j hj => absurd hj (Nat.not_lt_zero j)) (fun j hj => absurd hj (Nat.not_lt_zero j)) (fun k h22 h23 h24 => gk k h22) _ rfl _ _ hP hD hS ls (lv_sub hl [1, 0] rfl)
        · refine lv_aload_n hx hb dX3_image_55 rfl (lv_at hl 0 rfl) ?_
          refine va_get (D := D) (ci := 3) (v := .ref (r 22)) (C := RX3) (T := TX3) (N := 29) hx hb hts hi3 hown hK hP 0 rfl rfl 22 (by decide) k38 (fun _ h9 => h9) rfl dX3_image_56 ?_
          refine lv_iload_n hx hb dX3_image_59 rfl (lv_at hl 1 rfl) ?_
          refine lv_aload_n hx hb dX3_image_60 rfl (lv_at hl 0 rfl) ?_
          refine va_get (D := D) (ci := 3) (v := .ref (r 4)) (C := RX3) (T := TX3) (N := 29) hx hb hts hi3 hown hK hP 0 rfl rfl 4 (by decide) k13 (fun _ h9 => h9) rfl dX3_image_61 ?_
          refine lv_iload_n hx hb dX3_image_64 rfl (lv_at hl 1 rfl) ?_
          refine zx_ald (f := b 4) (n := 9) hx hb hK hP 2 0 rfl rfl (by omega) (by decide) dX3_image_65 ?_
          refine zx_ast (f := b 22) (n := 9) (ws' := (zm_w cI cB r) ((zx_up (zx_up (zx_up (zx_up (zx_up s 17 1) 18 (s 1)) 19 (s 3)) 20 (s 5)) 21 (s 9)), (zx_up b 22 (zx_up (b 22) i ((b 4) i))), z, h)) hx hb hK hP hD hS 10 0 rfl rfl (by omega) (by decide) rfl dX3_image_66 (fun H locs hP hD hS => ?_)
          refine lv_iinc (v := nI (i + 1)) (lv' := [(1, .int (nI (i + 1))), (0, .ref (r 0))]) hx hb dX3_image_67 hl (k := 1) rfl (zx_inc _ _) (by decide) rfl (fun ls hl => ?_)
          refine lv_goto (tgt := 49) hx hb dX3_image_70 (by decide) ?_
          exact ih_49 (i + 1) (zx_up b 22 (zx_up (b 22) i ((b 4) i))) (by omega) (by omega) (zp_upN (y := b 22) (by rw [gk 4 (by decide)]) g22) (fun k h22 => (zx_up_ne _ _ h22).trans (gk k h22)) _ rfl _ _ hP hD hS ls (lv_sub hl [1, 0] rfl)
    exact lp_49 _ 0 a (Nat.lt_succ_self _) (Nat.zero_le _) (fun j hj => absurd hj (Nat.not_lt_zero j)) (fun k h22 => rfl) _ rfl _ _ hP hD hS ls (lv_sub hl [1, 0] rfl)
  · refine lv_bipush (v := (-103)) hx hb dX3_image_7 (by decide) ?_
    exact hret _ _ _ _ _ _ hP hD hS dX3_image_9 (zd_inl (if_pos c_4) ⟨rfl, rfl⟩)
set_option maxHeartbeats 4000000 in
set_option maxRecDepth 100000 in
theorem c_X3_restore (l : Launch) (D : va_G) (cI cB : ClassId) (r : Nat → Nat) (s : Nat → Nat) (a : Nat → Nat → Nat) (z : Nat → Int) (h : Int64) (hI : zm_I s a z) : zx_C zx_ei l D (zm_t cI cB) (zm_w cI cB r) yX3_restore wsX3_restore rmX3_restore [.ref (r 0)] (s, a, z, h) (fun v u' => zd_out (zd_rst (s 17) (s 18) (s 1)) (fun e9 => v = e9 ∧ u' = (s, a, z, h)) (fun _ => v = nI (s 20) ∧ ∃ b : Nat → Nat → Nat, u' = ((zx_up (zx_up (zx_up s 3 (s 19)) 5 (s 20)) 9 (s 21)), b, z, h) ∧ (∀ j, j < 9 → b 4 j = a 22 j) ∧ (∀ j, j < 6 → b 7 j = a 23 j ∧ b 8 j = a 24 j) ∧ (∀ j, j < 8 → b 10 j = a 25 j ∧ b 11 j = a 26 j ∧ b 12 j = a 27 j) ∧ (∀ k, k ≠ 4 → k ≠ 7 → k ≠ 8 → k ≠ 10 → k ≠ 11 → k ≠ 12 → b k = a k))) := by
  refine zx_of_i (cc := cX3_restore) (maxL := 2) (by decide) rfl (Nat.le_of_ble_eq_true rfl) ?_
  intro p e st m args below meth c A Q H cf hK hN hP hD hS hA hret ls hl
  obtain ⟨hx, hb, hml, hown, hts⟩ := id cf
  have hi3 : ∀ w ∈ wsX30, w ∈ wsX3_restore := fun w h => List.mem_cons_of_mem _ (List.mem_append_right _ h)
  have k187 := hts (.fieldLink RX3 187 "NineDrawersModel" "isKept" "Z") (List.mem_of_getElem? (i := 1) (by decide +kernel))
  have k190 := hts (.fieldLink RX3 190 "NineDrawersModel" "keptChest" "I") (List.mem_of_getElem? (i := 2) (by decide +kernel))
  have k79 := hts (.fieldLink RX3 79 "NineDrawersModel" "chests" "I") (List.mem_of_getElem? (i := 3) (by decide +kernel))
  have k193 := hts (.fieldLink RX3 193 "NineDrawersModel" "keptFacing" "I") (List.mem_of_getElem? (i := 4) (by decide +kernel))
  have k72 := hts (.fieldLink RX3 72 "NineDrawersModel" "facing" "I") (List.mem_of_getElem? (i := 5) (by decide +kernel))
  have k196 := hts (.fieldLink RX3 196 "NineDrawersModel" "keptPeople" "I") (List.mem_of_getElem? (i := 6) (by decide +kernel))
  have k82 := hts (.fieldLink RX3 82 "NineDrawersModel" "people" "I") (List.mem_of_getElem? (i := 7) (by decide +kernel))
  have k199 := hts (.fieldLink RX3 199 "NineDrawersModel" "keptFound" "I") (List.mem_of_getElem? (i := 8) (by decide +kernel))
  have k85 := hts (.fieldLink RX3 85 "NineDrawersModel" "found" "I") (List.mem_of_getElem? (i := 9) (by decide +kernel))
  have k25 := hts (.fieldLink RX3 25 "NineDrawersModel" "foundIn" "[I") (List.mem_of_getElem? (i := 16) (by decide +kernel))
  have k47 := hts (.fieldLink RX3 47 "NineDrawersModel" "keptIn" "[I") (List.mem_of_getElem? (i := 17) (by decide +kernel))
  have k28 := hts (.fieldLink RX3 28 "NineDrawersModel" "foundOn" "[I") (List.mem_of_getElem? (i := 18) (by decide +kernel))
  have k50 := hts (.fieldLink RX3 50 "NineDrawersModel" "keptOn" "[I") (List.mem_of_getElem? (i := 19) (by decide +kernel))
  have k31 := hts (.fieldLink RX3 31 "NineDrawersModel" "foundIs" "[I") (List.mem_of_getElem? (i := 20) (by decide +kernel))
  have k53 := hts (.fieldLink RX3 53 "NineDrawersModel" "keptIs" "[I") (List.mem_of_getElem? (i := 21) (by decide +kernel))
  have k19 := hts (.fieldLink RX3 19 "NineDrawersModel" "drawerOf" "[I") (List.mem_of_getElem? (i := 12) (by decide +kernel))
  have k41 := hts (.fieldLink RX3 41 "NineDrawersModel" "keptDrawer" "[I") (List.mem_of_getElem? (i := 13) (by decide +kernel))
  have k22 := hts (.fieldLink RX3 22 "NineDrawersModel" "dayOf" "[I") (List.mem_of_getElem? (i := 14) (by decide +kernel))
  have k44 := hts (.fieldLink RX3 44 "NineDrawersModel" "keptDay" "[I") (List.mem_of_getElem? (i := 15) (by decide +kernel))
  have k13 := hts (.fieldLink RX3 13 "NineDrawersModel" "laidIn" "[I") (List.mem_of_getElem? (i := 10) (by decide +kernel))
  have k38 := hts (.fieldLink RX3 38 "NineDrawersModel" "keptLaid" "[I") (List.mem_of_getElem? (i := 11) (by decide +kernel))
  have hl : lv_has ls 2 [(0, .ref (r 0))] := hl
  have hP : va_P D vwCl ((zm_w cI cB r) (s, a, z, h)) H := hP
  have hD : va_D A ((zm_w cI cB r) (s, a, z, h)) := hD
  obtain ⟨⟨i0, i1, i3, i5, i9, i13, i14⟩, ⟨i17, i18, i19, i20, i21⟩, iP, iF, iL, iG, iZ, jL, jP, jF⟩ := id hI
  refine lv_aload_n hx hb dX3_restore_0 rfl (lv_at hl 0 rfl) ?_
  refine va_get (D := D) (ci := 3) (v := .int (nI (s 17))) (C := RX3) (T := TX3) (N := 29) hx hb hts hi3 hown hK hP 0 rfl rfl 17 (by decide) k187 (fun _ h9 => h9) rfl dX3_restore_1 ?_
  refine zx_if_eq hx hb (tgt := 18) (by omega) dX3_restore_4 (by decide) (fun c_4 => ?_) (fun c_4 => ?_)
  · refine lv_bipush (v := (-103)) hx hb dX3_restore_18 (by decide) ?_
    exact hret _ _ _ _ _ _ hP hD hS dX3_restore_20 (zd_inl (zd_rst0 (Or.inl c_4)) ⟨rfl, rfl⟩)
  · refine lv_aload_n hx hb dX3_restore_7 rfl (lv_at hl 0 rfl) ?_
    refine va_get (D := D) (ci := 3) (v := .int (nI (s 18))) (C := RX3) (T := TX3) (N := 29) hx hb hts hi3 hown hK hP 0 rfl rfl 18 (by decide) k190 (fun _ h9 => h9) rfl dX3_restore_8 ?_
    refine lv_aload_n hx hb dX3_restore_11 rfl (lv_at hl 0 rfl) ?_
    refine va_get (D := D) (ci := 3) (v := .int (nI (s 1))) (C := RX3) (T := TX3) (N := 29) hx hb hts hi3 hown hK hP 0 rfl rfl 1 (by decide) k79 (fun _ h9 => h9) rfl dX3_restore_12 ?_
    refine zx_icmp_eq hx hb (tgt := 21) (by omega) (by omega) dX3_restore_15 (by decide) (fun c_15 => ?_) (fun c_15 => ?_)
    · refine lv_aload_n hx hb dX3_restore_21 rfl (lv_at hl 0 rfl) ?_
      refine lv_aload_n hx hb dX3_restore_22 rfl (lv_at hl 0 rfl) ?_
      refine va_get (D := D) (ci := 3) (v := .int (nI (s 19))) (C := RX3) (T := TX3) (N := 29) hx hb hts hi3 hown hK hP 0 rfl rfl 19 (by decide) k193 (fun _ h9 => h9) rfl dX3_restore_23 ?_
      refine zx_put (D := D) (ci := 3) (ty := .int) (v := .int (nI (s 19))) (ws' := (zm_w cI cB r) ((zx_up s 3 (s 19)), a, z, h)) (C := RX3) (T := TX3) (N := 29) hx hb hts hi3 tyX3 tyX3_ok nmX3 hown hK hP hD hS 0 rfl rfl 3 (by decide) k72 (fun _ h9 => h9) rfl (by decide +kernel) rfl rfl (Nat.le_of_ble_eq_true rfl) rfl dX3_restore_26 (fun H locs hP hD hS => ?_)
      refine lv_aload_n hx hb dX3_restore_29 rfl (lv_at hl 0 rfl) ?_
      refine lv_aload_n hx hb dX3_restore_30 rfl (lv_at hl 0 rfl) ?_
      refine va_get (D := D) (ci := 3) (v := .int (nI (s 20))) (C := RX3) (T := TX3) (N := 29) hx hb hts hi3 hown hK hP 0 rfl rfl 20 (by decide) k196 (fun _ h9 => h9) rfl dX3_restore_31 ?_
      refine zx_put (D := D) (ci := 3) (ty := .int) (v := .int (nI (s 20))) (ws' := (zm_w cI cB r) ((zx_up (zx_up s 3 (s 19)) 5 (s 20)), a, z, h)) (C := RX3) (T := TX3) (N := 29) hx hb hts hi3 tyX3 tyX3_ok nmX3 hown hK hP hD hS 0 rfl rfl 5 (by decide) k82 (fun _ h9 => h9) rfl (by decide +kernel) rfl rfl (Nat.le_of_ble_eq_true rfl) rfl dX3_restore_34 (fun H locs hP hD hS => ?_)
      refine lv_aload_n hx hb dX3_restore_37 rfl (lv_at hl 0 rfl) ?_
      refine lv_aload_n hx hb dX3_restore_38 rfl (lv_at hl 0 rfl) ?_
      refine va_get (D := D) (ci := 3) (v := .int (nI (s 21))) (C := RX3) (T := TX3) (N := 29) hx hb hts hi3 hown hK hP 0 rfl rfl 21 (by decide) k199 (fun _ h9 => h9) rfl dX3_restore_39 ?_
      refine zx_put (D := D) (ci := 3) (ty := .int) (v := .int (nI (s 21))) (ws' := (zm_w cI cB r) ((zx_up (zx_up (zx_up s 3 (s 19)) 5 (s 20)) 9 (s 21)), a, z, h)) (C := RX3) (T := TX3) (N := 29) hx hb hts hi3 tyX3 tyX3_ok nmX3 hown hK hP hD hS 0 rfl rfl 9 (by decide) k85 (fun _ h9 => h9) rfl (by decide +kernel) rfl rfl (Nat.le_of_ble_eq_true rfl) rfl dX3_restore_42 (fun H locs hP hD hS => ?_)
      refine lv_iconst (v := nI 0) hx hb dX3_restore_45 (by decide) ?_
      refine lv_istore_n (lv' := [(1, .int (nI 0)), (0, .ref (r 0))]) hx hb dX3_restore_46 rfl hl (by decide) rfl (fun ls hl => ?_)
      have lp_47 : ∀ (n_ : Nat) (i : Nat) (b : Nat → Nat → Nat), 9 - i < n_ → (i ≤ 9) → (∀ j, j < i → b 4 j = a 22 j) → (∀ k, k ≠ 4 → b k = a k) → ∀ x1 : Int32, x1 = nI i → ∀ (H : Heap) (locs : List Loc), va_P D vwCl ((zm_w cI cB r) ((zx_up (zx_up (zx_up s 3 (s 19)) 5 (s 20)) 9 (s 21)), b, z, h)) H → va_D A ((zm_w cI cB r) ((zx_up (zx_up (zx_up s 3 (s 19)) 5 (s 20)) 9 (s 21)), b, z, h)) → va_S A st.heap H locs → ∀ ls : Array Slot, lv_has ls 2 [(0, .ref (r 0)), (1, .int x1)] → W p l e rmX3_restore st m args below meth c H locs 0 0 Q (F0 m 47 ls []) := by
        intro n_
        induction n_ with
        | zero => intros; omega
        | succ n_ ih_47 =>
          intro i b hmu_47 hi9 g4 gk
          intro x1 ex1; subst ex1
          intro H locs hP hD hS ls hl
          have hl : lv_has ls 2 [(0, .ref (r 0)), (1, .int (nI i))] := hl
          refine lv_iload_n hx hb dX3_restore_47 rfl (lv_at hl 1 rfl) ?_
          refine lv_bipush (v := nI 9) hx hb dX3_restore_48 (by decide) ?_
          refine zx_icmp_ge hx hb (tgt := 71) (by omega) (by omega) dX3_restore_50 (by decide) (fun c_50 => ?_) (fun c_50 => ?_)
          · refine lv_iconst (v := nI 0) hx hb dX3_restore_71 (by decide) ?_
            refine lv_istore_n (lv' := [(1, .int (nI 0)), (0, .ref (r 0))]) hx hb dX3_restore_72 rfl hl (by decide) rfl (fun ls hl => ?_)
            have lp_73 : ∀ (n_ : Nat) (i : Nat) (b : Nat → Nat → Nat), 6 - i < n_ → (i ≤ 6) → (∀ j, j < 9 → b 4 j = a 22 j) → (∀ j, j < i → b 7 j = a 23 j) → (∀ j, j < i → b 8 j = a 24 j) → (∀ k, k ≠ 4 → k ≠ 7 → k ≠ 8 → b k = a k) → ∀ x1 : Int32, x1 = nI i → ∀ (H : Heap) (locs : List Loc), va_P D vwCl ((zm_w cI cB r) ((zx_up (zx_up (zx_up s 3 (s 19)) 5 (s 20)) 9 (s 21)), b, z, h)) H → va_D A ((zm_w cI cB r) ((zx_up (zx_up (zx_up s 3 (s 19)) 5 (s 20)) 9 (s 21)), b, z, h)) → va_S A st.heap H locs → ∀ ls : Array Slot, lv_has ls 2 [(0, .ref (r 0)), (1, .int x1)] → W p l e rmX3_restore st m args below meth c H locs 0 0 Q (F0 m 73 ls []) := by
              intro n_
              induction n_ with
              | zero => intros; omega
              | succ n_ ih_73 =>
                intro i b hmu_73 hi9 g4 g7 g8 gk
                intro x1 ex1; subst ex1
                intro H locs hP hD hS ls hl
                have hl : lv_has ls 2 [(0, .ref (r 0)), (1, .int (nI i))] := hl
                refine lv_iload_n hx hb dX3_restore_73 rfl (lv_at hl 1 rfl) ?_
                refine lv_bipush (v := nI 6) hx hb dX3_restore_74 (by decide) ?_
                refine zx_icmp_ge hx hb (tgt := 109) (by omega) (by omega) dX3_restore_76 (by decide) (fun c_76 => ?_) (fun c_76 => ?_)
                · refine lv_iconst (v := nI 0) hx hb dX3_restore_109 (by decide) ?_
                  refine lv_istore_n (lv' := [(1, .int (nI 0)), (0, .ref (r 0))]) hx hb dX3_restore_110 rfl hl (by decide) rfl (fun ls hl => ?_)
                  have lp_111 : ∀ (n_ : Nat) (i : Nat) (b : Nat → Nat → Nat), 8 - i < n_ → (i ≤ 8) → (∀ j, j < 9 → b 4 j = a 22 j) → (∀ j, j < 6 → b 7 j = a 23 j) → (∀ j, j < 6 → b 8 j = a 24 j) → (∀ j, j < i → b 10 j = a 25 j) → (∀ j, j < i → b 11 j = a 26 j) → (∀ j, j < i → b 12 j = a 27 j) → (∀ k, k ≠ 4 → k ≠ 7 → k ≠ 8 → k ≠ 10 → k ≠ 11 → k ≠ 12 → b k = a k) → ∀ x1 : Int32, x1 = nI i → ∀ (H : Heap) (locs : List Loc), va_P D vwCl ((zm_w cI cB r) ((zx_up (zx_up (zx_up s 3 (s 19)) 5 (s 20)) 9 (s 21)), b, z, h)) H → va_D A ((zm_w cI cB r) ((zx_up (zx_up (zx_up s 3 (s 19)) 5 (s 20)) 9 (s 21)), b, z, h)) → va_S A st.heap H locs → ∀ ls : Array Slot, lv_has ls 2 [(0, .ref (r 0)), (1, .int x1)] → W p l e rmX3_restore st m args below meth c H locs 0 0 Q (F0 m 111 ls []) := by
                    intro n_
                    induction n_ with
                    | zero => intros; omega
                    | succ n_ ih_111 =>
                      intro i b hmu_111 hi9 g4 g7 g8 g10 g11 g12 gk
                      intro x1 ex1; subst ex1
                      intro H locs hP hD hS ls hl
                      have hl : lv_has ls 2 [(0, .ref (r 0)), (1, .int (nI i))] := hl
                      refine lv_iload_n hx hb dX3_restore_111 rfl (lv_at hl 1 rfl) ?_
                      refine lv_bipush (v := nI 8) hx hb dX3_restore_112 (by decide) ?_
                      refine zx_icmp_ge hx hb (tgt := 159) (by omega) (by omega) dX3_restore_114 (by decide) (fun c_114 => ?_) (fun c_114 => ?_)
                      · refine lv_aload_n hx hb dX3_restore_159 rfl (lv_at hl 0 rfl) ?_
                        refine va_get (D := D) (ci := 3) (v := .int (nI (s 20))) (C := RX3) (T := TX3) (N := 29) hx hb hts hi3 hown hK hP 0 rfl rfl 5 (by decide) k82 (fun _ h9 => h9) rfl dX3_restore_160 ?_
                        exact hret _ _ _ _ _ _ hP hD hS dX3_restore_163 (zd_inr (k := ()) (zd_rst1 c_4 c_15) ⟨rfl, b, rfl, fun j hj => g4 j (by omega), fun j hj => ⟨g7 j (by omega), g8 j (by omega)⟩, fun j hj => ⟨g10 j (by omega), g11 j (by omega), g12 j (by omega)⟩, gk⟩)
                      · refine lv_aload_n hx hb dX3_restore_117 rfl (lv_at hl 0 rfl) ?_
                        refine va_get (D := D) (ci := 3) (v := .ref (r 10)) (C := RX3) (T := TX3) (N := 29) hx hb hts hi3 hown hK hP 0 rfl rfl 10 (by decide) k25 (fun _ h9 => h9) rfl dX3_restore_118 ?_
                        refine lv_iload_n hx hb dX3_restore_121 rfl (lv_at hl 1 rfl) ?_
                        refine lv_aload_n hx hb dX3_restore_122 rfl (lv_at hl 0 rfl) ?_
                        refine va_get (D := D) (ci := 3) (v := .ref (r 25)) (C := RX3) (T := TX3) (N := 29) hx hb hts hi3 hown hK hP 0 rfl rfl 25 (by decide) k47 (fun _ h9 => h9) rfl dX3_restore_123 ?_
                        refine lv_iload_n hx hb dX3_restore_126 rfl (lv_at hl 1 rfl) ?_
                        refine zx_ald (f := b 25) (n := 8) hx hb hK hP 13 0 rfl rfl (by omega) (by decide) dX3_restore_127 ?_
                        refine zx_ast (f := b 10) (n := 8) (ws' := (zm_w cI cB r) ((zx_up (zx_up (zx_up s 3 (s 19)) 5 (s 20)) 9 (s 21)), (zx_up b 10 (zx_up (b 10) i ((b 25) i))), z, h)) hx hb hK hP hD hS 6 0 rfl rfl (by omega) (by decide) rfl dX3_restore_128 (fun H locs hP hD hS => ?_)
                        refine lv_aload_n hx hb dX3_restore_129 rfl (lv_at hl 0 rfl) ?_
                        refine va_get (D := D) (ci := 3) (v := .ref (r 11)) (C := RX3) (T := TX3) (N := 29) hx hb hts hi3 hown hK hP 0 rfl rfl 11 (by decide) k28 (fun _ h9 => h9) rfl dX3_restore_130 ?_
                        refine lv_iload_n hx hb dX3_restore_133 rfl (lv_at hl 1 rfl) ?_
                        refine lv_aload_n hx hb dX3_restore_134 rfl (lv_at hl 0 rfl) ?_
                        refine va_get (D := D) (ci := 3) (v := .ref (r 26)) (C := RX3) (T := TX3) (N := 29) hx hb hts hi3 hown hK hP 0 rfl rfl 26 (by decide) k50 (fun _ h9 => h9) rfl dX3_restore_135 ?_
                        refine lv_iload_n hx hb dX3_restore_138 rfl (lv_at hl 1 rfl) ?_
                        refine zx_ald (f := b 26) (n := 8) hx hb hK hP 14 0 rfl rfl (by omega) (by decide) dX3_restore_139 ?_
                        refine zx_ast (f := b 11) (n := 8) (ws' := (zm_w cI cB r) ((zx_up (zx_up (zx_up s 3 (s 19)) 5 (s 20)) 9 (s 21)), (zx_up (zx_up b 10 (zx_up (b 10) i ((b 25) i))) 11 (zx_up (b 11) i ((b 26) i))), z, h)) hx hb hK hP hD hS 7 0 rfl rfl (by omega) (by decide) rfl dX3_restore_140 (fun H locs hP hD hS => ?_)
                        refine lv_aload_n hx hb dX3_restore_141 rfl (lv_at hl 0 rfl) ?_
                        refine va_get (D := D) (ci := 3) (v := .ref (r 12)) (C := RX3) (T := TX3) (N := 29) hx hb hts hi3 hown hK hP 0 rfl rfl 12 (by decide) k31 (fun _ h9 => h9) rfl dX3_restore_142 ?_
                        refine lv_iload_n hx hb dX3_restore_145 rfl (lv_at hl 1 rfl) ?_
                        refine lv_aload_n hx hb dX3_restore_146 rfl (lv_at hl 0 rfl) ?_
                        refine va_get (D := D) (ci := 3) (v := .ref (r 27)) (C := RX3) (T := TX3) (N := 29) hx hb hts hi3 hown hK hP 0 rfl rfl 27 (by decide) k53 (fun _ h9 => h9) rfl dX3_restore_147 ?_
                        refine lv_iload_n hx hb dX3_restore_150 rfl (lv_at hl 1 rfl) ?_
                        refine zx_ald (f := b 27) (n := 8) hx hb hK hP 15 0 rfl rfl (by omega) (by decide) dX3_restore_151 ?_
                        refine zx_ast (f := b 12) (n := 8) (ws' := (zm_w cI cB r) ((zx_up (zx_up (zx_up s 3 (s 19)) 5 (s 20)) 9 (s 21)), (zx_up (zx_up (zx_up b 10 (zx_up (b 10) i ((b 25) i))) 11 (zx_up (b 11) i ((b 26) i))) 12 (zx_up (b 12) i ((b 27) i))), z, h)) hx hb hK hP hD hS 8 0 rfl rfl (by omega) (by decide) rfl dX3_restore_152 (fun H locs hP hD hS => ?_)
                        refine lv_iinc (v := nI (i + 1)) (lv' := [(1, .int (nI (i + 1))), (0, .ref (r 0))]) hx hb dX3_restore_153 hl (k := 1) rfl (zx_inc _ _) (by decide) rfl (fun ls hl => ?_)
                        refine lv_goto (tgt := 111) hx hb dX3_restore_156 (by decide) ?_
                        exact ih_111 (i + 1) (zx_up (zx_up (zx_up b 10 (zx_up (b 10) i ((b 25) i))) 11 (zx_up (b 11) i ((b 26) i))) 12 (zx_up (b 12) i ((b 27) i))) (by omega) (by omega) g4 g7 g8 (zp_upN (y := b 10) (by rw [gk 25 (by decide) (by decide) (by decide) (by decide) (by decide) (by decide)]) g10) (zp_upN (y := b 11) (by rw [gk 26 (by decide) (by decide) (by decide) (by decide) (by decide) (by decide)]) g11) (zp_upN (y := b 12) (by rw [gk 27 (by decide) (by decide) (by decide) (by decide) (by decide) (by decide)]) g12) (fun k h4 h7 h8 h10 h11 h12 => (zx_up_ne _ _ h12).trans ((zx_up_ne _ _ h11).trans ((zx_up_ne _ _ h10).trans (gk k h4 h7 h8 h10 h11 h12)))) _ rfl _ _ hP hD hS ls (lv_sub hl [1, 0] rfl)
                  exact lp_111 _ 0 b (Nat.lt_succ_self _) (Nat.zero_le _) (fun j hj => g4 j (by omega)) (fun j hj => g7 j (by omega)) (fun j hj => g8 j (by omega)) (fun j hj => absurd hj (Nat.not_lt_zero j)) (fun j hj => absurd hj (Nat.not_lt_zero j)) (fun j hj => absurd hj (Nat.not_lt_zero j)) (fun k h4 h7 h8 h10 h11 h12 => gk k h4 h7 h8) _ rfl _ _ hP hD hS ls (lv_sub hl [1, 0] rfl)
                · refine lv_aload_n hx hb dX3_restore_79 rfl (lv_at hl 0 rfl) ?_
                  refine va_get (D := D) (ci := 3) (v := .ref (r 7)) (C := RX3) (T := TX3) (N := 29) hx hb hts hi3 hown hK hP 0 rfl rfl 7 (by decide) k19 (fun _ h9 => h9) rfl dX3_restore_80 ?_
                  refine lv_iload_n hx hb dX3_restore_83 rfl (lv_at hl 1 rfl) ?_
                  refine lv_aload_n hx hb dX3_restore_84 rfl (lv_at hl 0 rfl) ?_
                  refine va_get (D := D) (ci := 3) (v := .ref (r 23)) (C := RX3) (T := TX3) (N := 29) hx hb hts hi3 hown hK hP 0 rfl rfl 23 (by decide) k41 (fun _ h9 => h9) rfl dX3_restore_85 ?_
                  refine lv_iload_n hx hb dX3_restore_88 rfl (lv_at hl 1 rfl) ?_
                  refine zx_ald (f := b 23) (n := 6) hx hb hK hP 11 0 rfl rfl (by omega) (by decide) dX3_restore_89 ?_
                  refine zx_ast (f := b 7) (n := 6) (ws' := (zm_w cI cB r) ((zx_up (zx_up (zx_up s 3 (s 19)) 5 (s 20)) 9 (s 21)), (zx_up b 7 (zx_up (b 7) i ((b 23) i))), z, h)) hx hb hK hP hD hS 4 0 rfl rfl (by omega) (by decide) rfl dX3_restore_90 (fun H locs hP hD hS => ?_)
                  refine lv_aload_n hx hb dX3_restore_91 rfl (lv_at hl 0 rfl) ?_
                  refine va_get (D := D) (ci := 3) (v := .ref (r 8)) (C := RX3) (T := TX3) (N := 29) hx hb hts hi3 hown hK hP 0 rfl rfl 8 (by decide) k22 (fun _ h9 => h9) rfl dX3_restore_92 ?_
                  refine lv_iload_n hx hb dX3_restore_95 rfl (lv_at hl 1 rfl) ?_
                  refine lv_aload_n hx hb dX3_restore_96 rfl (lv_at hl 0 rfl) ?_
                  refine va_get (D := D) (ci := 3) (v := .ref (r 24)) (C := RX3) (T := TX3) (N := 29) hx hb hts hi3 hown hK hP 0 rfl rfl 24 (by decide) k44 (fun _ h9 => h9) rfl dX3_restore_97 ?_
                  refine lv_iload_n hx hb dX3_restore_100 rfl (lv_at hl 1 rfl) ?_
                  refine zx_ald (f := b 24) (n := 6) hx hb hK hP 12 0 rfl rfl (by omega) (by decide) dX3_restore_101 ?_
                  refine zx_ast (f := b 8) (n := 6) (ws' := (zm_w cI cB r) ((zx_up (zx_up (zx_up s 3 (s 19)) 5 (s 20)) 9 (s 21)), (zx_up (zx_up b 7 (zx_up (b 7) i ((b 23) i))) 8 (zx_up (b 8) i ((b 24) i))), z, h)) hx hb hK hP hD hS 5 0 rfl rfl (by omega) (by decide) rfl dX3_restore_102 (fun H locs hP hD hS => ?_)
                  refine lv_iinc (v := nI (i + 1)) (lv' := [(1, .int (nI (i + 1))), (0, .ref (r 0))]) hx hb dX3_restore_103 hl (k := 1) rfl (zx_inc _ _) (by decide) rfl (fun ls hl => ?_)
                  refine lv_goto (tgt := 73) hx hb dX3_restore_106 (by decide) ?_
                  exact ih_73 (i + 1) (zx_up (zx_up b 7 (zx_up (b 7) i ((b 23) i))) 8 (zx_up (b 8) i ((b 24) i))) (by omega) (by omega) g4 (zp_upN (y := b 7) (by rw [gk 23 (by decide) (by decide) (by decide)]) g7) (zp_upN (y := b 8) (by rw [gk 24 (by decide) (by decide) (by decide)]) g8) (fun k h4 h7 h8 => (zx_up_ne _ _ h8).trans ((zx_up_ne _ _ h7).trans (gk k h4 h7 h8))) _ rfl _ _ hP hD hS ls (lv_sub hl [1, 0] rfl)
            exact lp_73 _ 0 b (Nat.lt_succ_self _) (Nat.zero_le _) (fun j hj => g4 j (by omega)) (fun j hj => absurd hj (Nat.not_lt_zero j)) (fun j hj => absurd hj (Nat.not_lt_zero j)) (fun k h4 h7 h8 => gk k h4) _ rfl _ _ hP hD hS ls (lv_sub hl [1, 0] rfl)
          · refine lv_aload_n hx hb dX3_restore_53 rfl (lv_at hl 0 rfl) ?_
            refine va_get (D := D) (ci := 3) (v := .ref (r 4)) (C := RX3) (T := TX3) (N := 29) hx hb hts hi3 hown hK hP 0 rfl rfl 4 (by decide) k13 (fun _ h9 => h9) rfl dX3_restore_54 ?_
            refine lv_iload_n hx hb dX3_restore_57 rfl (lv_at hl 1 rfl) ?_
            refine lv_aload_n hx hb dX3_restore_58 rfl (lv_at hl 0 rfl) ?_
            refine va_get (D := D) (ci := 3) (v := .ref (r 22)) (C := RX3) (T := TX3) (N := 29) hx hb hts hi3 hown hK hP 0 rfl rfl 22 (by decide) k38 (fun _ h9 => h9) rfl dX3_restore_59 ?_
            refine lv_iload_n hx hb dX3_restore_62 rfl (lv_at hl 1 rfl) ?_
            refine zx_ald (f := b 22) (n := 9) hx hb hK hP 10 0 rfl rfl (by omega) (by decide) dX3_restore_63 ?_
            refine zx_ast (f := b 4) (n := 9) (ws' := (zm_w cI cB r) ((zx_up (zx_up (zx_up s 3 (s 19)) 5 (s 20)) 9 (s 21)), (zx_up b 4 (zx_up (b 4) i ((b 22) i))), z, h)) hx hb hK hP hD hS 2 0 rfl rfl (by omega) (by decide) rfl dX3_restore_64 (fun H locs hP hD hS => ?_)
            refine lv_iinc (v := nI (i + 1)) (lv' := [(1, .int (nI (i + 1))), (0, .ref (r 0))]) hx hb dX3_restore_65 hl (k := 1) rfl (zx_inc _ _) (by decide) rfl (fun ls hl => ?_)
            refine lv_goto (tgt := 47) hx hb dX3_restore_68 (by decide) ?_
            exact ih_47 (i + 1) (zx_up b 4 (zx_up (b 4) i ((b 22) i))) (by omega) (by omega) (zp_upN (y := b 4) (by rw [gk 22 (by decide)]) g4) (fun k h4 => (zx_up_ne _ _ h4).trans (gk k h4)) _ rfl _ _ hP hD hS ls (lv_sub hl [1, 0] rfl)
      exact lp_47 _ 0 a (Nat.lt_succ_self _) (Nat.zero_le _) (fun j hj => absurd hj (Nat.not_lt_zero j)) (fun k h4 => rfl) _ rfl _ _ hP hD hS ls (lv_sub hl [1, 0] rfl)
    · refine lv_bipush (v := (-103)) hx hb dX3_restore_18 (by decide) ?_
      exact hret _ _ _ _ _ _ hP hD hS dX3_restore_20 (zd_inl (zd_rst0 (Or.inr c_15)) ⟨rfl, rfl⟩)
set_option maxHeartbeats 4000000 in
set_option maxRecDepth 100000 in
theorem c_X3_agreeingDrawers (l : Launch) (D : va_G) (cI cB : ClassId) (r : Nat → Nat) (s : Nat → Nat) (a : Nat → Nat → Nat) (z : Nat → Int) (h : Int64) (hI : zm_I s a z) : zx_C zx_ei l D (zm_t cI cB) (zm_w cI cB r) yX3_agreeingDrawers wsX3_agreeingDrawers rmX3_agreeingDrawers [.ref (r 0)] (s, a, z, h) (fun v u' => v = nI (zm_ad s a z) ∧ u' = (s, a, z, h)) := by
  refine zx_of_i (cc := cX3_agreeingDrawers) (maxL := 3) (by decide) rfl (Nat.le_of_ble_eq_true rfl) ?_
  intro p e st m args below meth c A Q H cf hK hN hP hD hS hA hret ls hl
  obtain ⟨hx, hb, hml, hown, hts⟩ := id cf
  have hi3 : ∀ w ∈ wsX30, w ∈ wsX3_agreeingDrawers := fun w h => List.mem_cons_of_mem _ (List.mem_append_right _ h)
  have k75 := hts (.fieldLink RX3 75 "NineDrawersModel" "isChest" "Z") (List.mem_of_getElem? (i := 1) (by decide +kernel))
  have k13 := hts (.fieldLink RX3 13 "NineDrawersModel" "laidIn" "[I") (List.mem_of_getElem? (i := 2) (by decide +kernel))
  have hl : lv_has ls 3 [(0, .ref (r 0))] := hl
  have hP : va_P D vwCl ((zm_w cI cB r) (s, a, z, h)) H := hP
  have hD : va_D A ((zm_w cI cB r) (s, a, z, h)) := hD
  obtain ⟨⟨i0, i1, i3, i5, i9, i13, i14⟩, ⟨i17, i18, i19, i20, i21⟩, iP, iF, iL, iG, iZ, jL, jP, jF⟩ := id hI
  refine lv_iconst (v := nI 0) hx hb dX3_agreeingDrawers_0 (by decide) ?_
  refine lv_istore_n (lv' := [(1, .int (nI 0)), (0, .ref (r 0))]) hx hb dX3_agreeingDrawers_1 rfl hl (by decide) rfl (fun ls hl => ?_)
  refine lv_iconst (v := nI 0) hx hb dX3_agreeingDrawers_2 (by decide) ?_
  refine lv_istore_n (lv' := [(2, .int (nI 0)), (1, .int (nI 0)), (0, .ref (r 0))]) hx hb dX3_agreeingDrawers_3 rfl hl (by decide) rfl (fun ls hl => ?_)
  have lp_4 : ∀ (n_ : Nat) (i : Nat), 9 - i < n_ → (i ≤ 9) → (i = 0 ∨ s 0 ≠ 0) → ∀ x1 : Int32, x1 = nI (zp_cnt (fun d9 => zp_any (zp_ag (zm_F s a z d9)) 128) i) → ∀ x2 : Int32, x2 = nI i → ∀ (H : Heap) (locs : List Loc), va_P D vwCl ((zm_w cI cB r) (s, a, z, h)) H → va_D A ((zm_w cI cB r) (s, a, z, h)) → va_S A st.heap H locs → ∀ ls : Array Slot, lv_has ls 3 [(0, .ref (r 0)), (1, .int x1), (2, .int x2)] → W p l e rmX3_agreeingDrawers st m args below meth c H locs 0 0 Q (F0 m 4 ls []) := by
    intro n_
    induction n_ with
    | zero => intros; omega
    | succ n_ ih_4 =>
      intro i hmu_4 hi9 hc9
      intro x1 ex1; subst ex1
      intro x2 ex2; subst ex2
      intro H locs hP hD hS ls hl
      have hl : lv_has ls 3 [(0, .ref (r 0)), (1, .int (nI (zp_cnt (fun d9 => zp_any (zp_ag (zm_F s a z d9)) 128) i))), (2, .int (nI i))] := hl
      refine lv_iload_n hx hb dX3_agreeingDrawers_4 rfl (lv_at hl 2 rfl) ?_
      refine lv_bipush (v := nI 9) hx hb dX3_agreeingDrawers_5 (by decide) ?_
      refine zx_icmp_ge hx hb (tgt := 45) (by omega) (by omega) dX3_agreeingDrawers_7 (by decide) (fun c_7 => ?_) (fun c_7 => ?_)
      · refine lv_iload_n hx hb dX3_agreeingDrawers_45 rfl (lv_at hl 1 rfl) ?_
        exact hret _ _ _ _ _ _ hP hD hS dX3_agreeingDrawers_46 ⟨by rw [show i = 9 by omega]; exact congrArg nI (if_neg (by omega)).symm, rfl⟩
      · refine lv_aload_n hx hb dX3_agreeingDrawers_10 rfl (lv_at hl 0 rfl) ?_
        refine va_get (D := D) (ci := 3) (v := .int (nI (s 0))) (C := RX3) (T := TX3) (N := 29) hx hb hts hi3 hown hK hP 0 rfl rfl 0 (by decide) k75 (fun _ h9 => h9) rfl dX3_agreeingDrawers_11 ?_
        refine zx_if_eq hx hb (tgt := 45) (by omega) dX3_agreeingDrawers_14 (by decide) (fun c_14 => ?_) (fun c_14 => ?_)
        · refine lv_iload_n hx hb dX3_agreeingDrawers_45 rfl (lv_at hl 1 rfl) ?_
          exact hret _ _ _ _ _ _ hP hD hS dX3_agreeingDrawers_46 ⟨by rw [show i = 0 by omega]; exact congrArg nI (if_pos c_14).symm, rfl⟩
        · refine lv_iload_n hx hb dX3_agreeingDrawers_17 rfl (lv_at hl 1 rfl) ?_
          refine lv_aload_n hx hb dX3_agreeingDrawers_18 rfl (lv_at hl 0 rfl) ?_
          refine lv_iload_n hx hb dX3_agreeingDrawers_19 rfl (lv_at hl 2 rfl) ?_
          refine lv_aload_n hx hb dX3_agreeingDrawers_20 rfl (lv_at hl 0 rfl) ?_
          refine va_get (D := D) (ci := 3) (v := .ref (r 4)) (C := RX3) (T := TX3) (N := 29) hx hb hts hi3 hown hK hP 0 rfl rfl 4 (by decide) k13 (fun _ h9 => h9) rfl dX3_agreeingDrawers_21 ?_
          refine lv_iload_n hx hb dX3_agreeingDrawers_24 rfl (lv_at hl 2 rfl) ?_
          refine zx_ald (f := a 4) (n := 9) hx hb hK hP 2 0 rfl rfl (by omega) (by decide) dX3_agreeingDrawers_25 ?_
          refine zx_V_i (As := [.int (nI i), .int (nI ((a 4) i))]) (rest := [.int (nI (zp_cnt (fun d9 => zp_any (zp_ag (zm_F s a z d9)) 128) i))]) cf (c_X3_anyLaid l D cI cB r s a z h i ((a 4) i) hI (by omega) (iL i (by omega))) (cwV 2 hts gX3_agreeingDrawers_X3_anyLaid rfl rfl rfl ⟨rfl, hd_X3_anyLaid⟩ ⟨Nat.le_of_ble_eq_true rfl, Nat.le_of_ble_eq_true rfl⟩) hK hN hP hD hS hA 0 rfl rfl rfl hl.1 rfl (Nat.le_of_ble_eq_true rfl) dX3_agreeingDrawers_26 ⟨Nat.zero_le _, Nat.zero_le _⟩ (fun v_26 u_26 H locs hq hP hD hS => ?_)
          obtain ⟨rfl, rfl⟩ := hq
          refine zx_bf_eq hx hb (tgt := 36) dX3_agreeingDrawers_29 (by decide) (fun c_29 => ?_) (fun c_29 => ?_)
          · refine lv_iconst (v := nI 0) hx hb dX3_agreeingDrawers_36 (by decide) ?_
            refine zx_iadd hx hb dX3_agreeingDrawers_37 ?_
            refine lv_istore_n (lv' := [(1, .int (nI ((zp_cnt (fun d9 => zp_any (zp_ag (zm_F s a z d9)) 128) i) + 0))), (0, .ref (r 0)), (2, .int (nI i))]) hx hb dX3_agreeingDrawers_38 rfl hl (by decide) rfl (fun ls hl => ?_)
            refine lv_iinc (v := nI (i + 1)) (lv' := [(2, .int (nI (i + 1))), (1, .int (nI ((zp_cnt (fun d9 => zp_any (zp_ag (zm_F s a z d9)) 128) i) + 0))), (0, .ref (r 0))]) hx hb dX3_agreeingDrawers_39 hl (k := 2) rfl (zx_inc _ _) (by decide) rfl (fun ls hl => ?_)
            refine lv_goto (tgt := 4) hx hb dX3_agreeingDrawers_42 (by decide) ?_
            exact ih_4 (i + 1) (by omega) (by omega) (Or.inr c_14) _ (zp_cntF (f := (fun d9 => zp_any (zp_ag (zm_F s a z d9)) 128)) c_29) _ rfl _ _ hP hD hS ls (lv_sub hl [2, 1, 0] rfl)
          · refine lv_iconst (v := nI 1) hx hb dX3_agreeingDrawers_32 (by decide) ?_
            refine lv_goto (tgt := 37) hx hb dX3_agreeingDrawers_33 (by decide) ?_
            refine zx_iadd hx hb dX3_agreeingDrawers_37 ?_
            refine lv_istore_n (lv' := [(1, .int (nI ((zp_cnt (fun d9 => zp_any (zp_ag (zm_F s a z d9)) 128) i) + 1))), (0, .ref (r 0)), (2, .int (nI i))]) hx hb dX3_agreeingDrawers_38 rfl hl (by decide) rfl (fun ls hl => ?_)
            refine lv_iinc (v := nI (i + 1)) (lv' := [(2, .int (nI (i + 1))), (1, .int (nI ((zp_cnt (fun d9 => zp_any (zp_ag (zm_F s a z d9)) 128) i) + 1))), (0, .ref (r 0))]) hx hb dX3_agreeingDrawers_39 hl (k := 2) rfl (zx_inc _ _) (by decide) rfl (fun ls hl => ?_)
            refine lv_goto (tgt := 4) hx hb dX3_agreeingDrawers_42 (by decide) ?_
            exact ih_4 (i + 1) (by omega) (by omega) (Or.inr c_14) _ (zp_cntT (f := (fun d9 => zp_any (zp_ag (zm_F s a z d9)) 128)) c_29) _ rfl _ _ hP hD hS ls (lv_sub hl [2, 1, 0] rfl)
  exact lp_4 _ 0 (Nat.lt_succ_self _) (Nat.zero_le _) (Or.inl rfl) _ rfl _ rfl _ _ hP hD hS ls (lv_sub hl [2, 1, 0] rfl)
set_option maxHeartbeats 4000000 in
set_option maxRecDepth 100000 in
theorem c_X3_laidAll (l : Launch) (D : va_G) (cI cB : ClassId) (r : Nat → Nat) (s : Nat → Nat) (a : Nat → Nat → Nat) (z : Nat → Int) (h : Int64) (hI : zm_I s a z) : zx_C zx_ei l D (zm_t cI cB) (zm_w cI cB r) yX3_laidAll wsX3_laidAll rmX3_laidAll [.ref (r 0)] (s, a, z, h) (fun v u' => v = nI (zp_sum (fun d9 => zp_pc (a 4 d9)) 9) ∧ u' = (s, a, z, h)) := by
  refine zx_of_i (cc := cX3_laidAll) (maxL := 3) (by decide) rfl (Nat.le_of_ble_eq_true rfl) ?_
  intro p e st m args below meth c A Q H cf hK hN hP hD hS hA hret ls hl
  obtain ⟨hx, hb, hml, hown, hts⟩ := id cf
  have hi3 : ∀ w ∈ wsX30, w ∈ wsX3_laidAll := fun w h => List.mem_cons_of_mem _ (List.mem_append_right _ h)
  have k13 := hts (.fieldLink RX3 13 "NineDrawersModel" "laidIn" "[I") (List.mem_of_getElem? (i := 1) (by decide +kernel))
  have hl : lv_has ls 3 [(0, .ref (r 0))] := hl
  have hP : va_P D vwCl ((zm_w cI cB r) (s, a, z, h)) H := hP
  have hD : va_D A ((zm_w cI cB r) (s, a, z, h)) := hD
  obtain ⟨⟨i0, i1, i3, i5, i9, i13, i14⟩, ⟨i17, i18, i19, i20, i21⟩, iP, iF, iL, iG, iZ, jL, jP, jF⟩ := id hI
  refine lv_iconst (v := nI 0) hx hb dX3_laidAll_0 (by decide) ?_
  refine lv_istore_n (lv' := [(1, .int (nI 0)), (0, .ref (r 0))]) hx hb dX3_laidAll_1 rfl hl (by decide) rfl (fun ls hl => ?_)
  refine lv_iconst (v := nI 0) hx hb dX3_laidAll_2 (by decide) ?_
  refine lv_istore_n (lv' := [(2, .int (nI 0)), (1, .int (nI 0)), (0, .ref (r 0))]) hx hb dX3_laidAll_3 rfl hl (by decide) rfl (fun ls hl => ?_)
  have lp_4 : ∀ (n_ : Nat) (i : Nat), 9 - i < n_ → (i ≤ 9) → ∀ x1 : Int32, x1 = nI (zp_sum (fun d9 => zp_pc (a 4 d9)) i) → ∀ x2 : Int32, x2 = nI i → ∀ (H : Heap) (locs : List Loc), va_P D vwCl ((zm_w cI cB r) (s, a, z, h)) H → va_D A ((zm_w cI cB r) (s, a, z, h)) → va_S A st.heap H locs → ∀ ls : Array Slot, lv_has ls 3 [(0, .ref (r 0)), (1, .int x1), (2, .int x2)] → W p l e rmX3_laidAll st m args below meth c H locs 0 0 Q (F0 m 4 ls []) := by
    intro n_
    induction n_ with
    | zero => intros; omega
    | succ n_ ih_4 =>
      intro i hmu_4 hi9
      intro x1 ex1; subst ex1
      intro x2 ex2; subst ex2
      intro H locs hP hD hS ls hl
      have hl : lv_has ls 3 [(0, .ref (r 0)), (1, .int (nI (zp_sum (fun d9 => zp_pc (a 4 d9)) i))), (2, .int (nI i))] := hl
      refine lv_iload_n hx hb dX3_laidAll_4 rfl (lv_at hl 2 rfl) ?_
      refine lv_bipush (v := nI 9) hx hb dX3_laidAll_5 (by decide) ?_
      refine zx_icmp_ge hx hb (tgt := 28) (by omega) (by omega) dX3_laidAll_7 (by decide) (fun c_7 => ?_) (fun c_7 => ?_)
      · refine lv_iload_n hx hb dX3_laidAll_28 rfl (lv_at hl 1 rfl) ?_
        exact hret _ _ _ _ _ _ hP hD hS dX3_laidAll_29 ⟨by rw [show i = 9 by omega], rfl⟩
      · refine lv_iload_n hx hb dX3_laidAll_10 rfl (lv_at hl 1 rfl) ?_
        refine lv_aload_n hx hb dX3_laidAll_11 rfl (lv_at hl 0 rfl) ?_
        refine va_get (D := D) (ci := 3) (v := .ref (r 4)) (C := RX3) (T := TX3) (N := 29) hx hb hts hi3 hown hK hP 0 rfl rfl 4 (by decide) k13 (fun _ h9 => h9) rfl dX3_laidAll_12 ?_
        refine lv_iload_n hx hb dX3_laidAll_15 rfl (lv_at hl 2 rfl) ?_
        refine zx_ald (f := a 4) (n := 9) hx hb hK hP 2 0 rfl rfl (by omega) (by decide) dX3_laidAll_16 ?_
        refine zx_S (As := [.int (nI ((a 4) i))]) (rest := [.int (nI (zp_sum (fun d9 => zp_pc (a 4 d9)) i))]) cf (c_X3_size l D ((a 4) i) (iL i (by omega))) (va_cwS 1 hts gX3_laidAll_X3_size rfl rfl rfl hd_X3_size ⟨Nat.le_of_ble_eq_true rfl, Nat.le_of_ble_eq_true rfl⟩) hK hN hP hS hA rfl hl.1 rfl (Nat.le_of_ble_eq_true rfl) dX3_laidAll_17 ⟨Nat.zero_le _, Nat.zero_le _⟩ (fun H locs hP hS => ?_)
        refine zx_iadd hx hb dX3_laidAll_20 ?_
        refine lv_istore_n (lv' := [(1, .int (nI ((zp_sum (fun d9 => zp_pc (a 4 d9)) i) + (zp_pc ((a 4) i))))), (0, .ref (r 0)), (2, .int (nI i))]) hx hb dX3_laidAll_21 rfl hl (by decide) rfl (fun ls hl => ?_)
        refine lv_iinc (v := nI (i + 1)) (lv' := [(2, .int (nI (i + 1))), (1, .int (nI ((zp_sum (fun d9 => zp_pc (a 4 d9)) i) + (zp_pc ((a 4) i))))), (0, .ref (r 0))]) hx hb dX3_laidAll_22 hl (k := 2) rfl (zx_inc _ _) (by decide) rfl (fun ls hl => ?_)
        refine lv_goto (tgt := 4) hx hb dX3_laidAll_25 (by decide) ?_
        exact ih_4 (i + 1) (by omega) (by omega) _ rfl _ rfl _ _ hP hD hS ls (lv_sub hl [2, 1, 0] rfl)
  exact lp_4 _ 0 (Nat.lt_succ_self _) (Nat.zero_le _) _ rfl _ rfl _ _ hP hD hS ls (lv_sub hl [2, 1, 0] rfl)
set_option maxHeartbeats 4000000 in
set_option maxRecDepth 100000 in
theorem c_X3_howMany (l : Launch) (D : va_G) (cI cB : ClassId) (r : Nat → Nat) (s : Nat → Nat) (a : Nat → Nat → Nat) (z : Nat → Int) (h : Int64) (x : Int32) (hI : zm_I s a z) : zx_C zx_ei l D (zm_t cI cB) (zm_w cI cB r) yX3_howMany wsX3_howMany rmX3_howMany [.ref (r 0), .int x] (s, a, z, h) (fun v u' => v = zs_hm x (zm_hm s a z) ∧ u' = (s, a, z, h)) := by
  refine zx_of_i (cc := cX3_howMany) (maxL := 2) (by decide) rfl (Nat.le_of_ble_eq_true rfl) ?_
  intro p e st m args below meth c A Q H cf hK hN hP hD hS hA hret ls hl
  obtain ⟨hx, hb, hml, hown, hts⟩ := id cf
  have hi3 : ∀ w ∈ wsX30, w ∈ wsX3_howMany := fun w h => List.mem_cons_of_mem _ (List.mem_append_right _ h)
  have k72 := hts (.fieldLink RX3 72 "NineDrawersModel" "facing" "I") (List.mem_of_getElem? (i := 1) (by decide +kernel))
  have k82 := hts (.fieldLink RX3 82 "NineDrawersModel" "people" "I") (List.mem_of_getElem? (i := 2) (by decide +kernel))
  have k85 := hts (.fieldLink RX3 85 "NineDrawersModel" "found" "I") (List.mem_of_getElem? (i := 3) (by decide +kernel))
  have k60 := hts (.fieldLink RX3 60 "NineDrawersModel" "pageLength" "I") (List.mem_of_getElem? (i := 4) (by decide +kernel))
  have k79 := hts (.fieldLink RX3 79 "NineDrawersModel" "chests" "I") (List.mem_of_getElem? (i := 5) (by decide +kernel))
  have k147 := hts (.fieldLink RX3 147 "NineDrawersModel" "asks" "I") (List.mem_of_getElem? (i := 6) (by decide +kernel))
  have hl : lv_has ls 2 [(0, .ref (r 0)), (1, .int x)] := hl
  have hP : va_P D vwCl ((zm_w cI cB r) (s, a, z, h)) H := hP
  have hD : va_D A ((zm_w cI cB r) (s, a, z, h)) := hD
  obtain ⟨⟨i0, i1, i3, i5, i9, i13, i14⟩, ⟨i17, i18, i19, i20, i21⟩, iP, iF, iL, iG, iZ, jL, jP, jF⟩ := id hI
  refine lv_iload_n hx hb dX3_howMany_0 rfl (lv_at hl 1 rfl) ?_
  by_cases c_1_0 : x = nI 0
  · refine lv_tableIn (off := 47) (tgt := 48) hx hb dX3_howMany_1 (by rw [c_1_0]; decide) (by rw [c_1_0]; decide) (by rw [c_1_0]; rfl) (by decide) ?_
    refine lv_aload_n hx hb dX3_howMany_48 rfl (lv_at hl 0 rfl) ?_
    refine zx_V_i (As := []) (rest := []) cf (c_X3_agreeingDrawers l D cI cB r s a z h  hI ) (cwV 0 hts gX3_howMany_X3_agreeingDrawers rfl rfl rfl ⟨rfl, hd_X3_agreeingDrawers⟩ ⟨Nat.le_of_ble_eq_true rfl, Nat.le_of_ble_eq_true rfl⟩) hK hN hP hD hS hA 0 rfl rfl rfl hl.1 rfl (Nat.le_of_ble_eq_true rfl) dX3_howMany_49 ⟨Nat.zero_le _, Nat.zero_le _⟩ (fun v_49 u_49 H locs hq hP hD hS => ?_)
    obtain ⟨rfl, rfl⟩ := hq
    exact hret _ _ _ _ _ _ hP hD hS dX3_howMany_52 ⟨by rw [c_1_0]; exact (zs_hmi (q := 0) (F := zm_hm s a z) (by decide)).symm, rfl⟩
  by_cases c_1_1 : x = nI 1
  · refine lv_tableIn (off := 52) (tgt := 53) hx hb dX3_howMany_1 (by rw [c_1_1]; decide) (by rw [c_1_1]; decide) (by rw [c_1_1]; rfl) (by decide) ?_
    refine lv_aload_n hx hb dX3_howMany_53 rfl (lv_at hl 0 rfl) ?_
    refine va_get (D := D) (ci := 3) (v := .int (nI (s 3))) (C := RX3) (T := TX3) (N := 29) hx hb hts hi3 hown hK hP 0 rfl rfl 3 (by decide) k72 (fun _ h9 => h9) rfl dX3_howMany_54 ?_
    exact hret _ _ _ _ _ _ hP hD hS dX3_howMany_57 ⟨by rw [c_1_1]; exact (zs_hmi (q := 1) (F := zm_hm s a z) (by decide)).symm, rfl⟩
  by_cases c_1_2 : x = nI 2
  · refine lv_tableIn (off := 57) (tgt := 58) hx hb dX3_howMany_1 (by rw [c_1_2]; decide) (by rw [c_1_2]; decide) (by rw [c_1_2]; rfl) (by decide) ?_
    refine lv_aload_n hx hb dX3_howMany_58 rfl (lv_at hl 0 rfl) ?_
    refine va_get (D := D) (ci := 3) (v := .int (nI (s 5))) (C := RX3) (T := TX3) (N := 29) hx hb hts hi3 hown hK hP 0 rfl rfl 5 (by decide) k82 (fun _ h9 => h9) rfl dX3_howMany_59 ?_
    exact hret _ _ _ _ _ _ hP hD hS dX3_howMany_62 ⟨by rw [c_1_2]; exact (zs_hmi (q := 2) (F := zm_hm s a z) (by decide)).symm, rfl⟩
  by_cases c_1_3 : x = nI 3
  · refine lv_tableIn (off := 62) (tgt := 63) hx hb dX3_howMany_1 (by rw [c_1_3]; decide) (by rw [c_1_3]; decide) (by rw [c_1_3]; rfl) (by decide) ?_
    refine lv_aload_n hx hb dX3_howMany_63 rfl (lv_at hl 0 rfl) ?_
    refine zx_V_i (As := []) (rest := []) cf (c_X3_laidAll l D cI cB r s a z h  hI ) (cwV 0 hts gX3_howMany_X3_laidAll rfl rfl rfl ⟨rfl, hd_X3_laidAll⟩ ⟨Nat.le_of_ble_eq_true rfl, Nat.le_of_ble_eq_true rfl⟩) hK hN hP hD hS hA 0 rfl rfl rfl hl.1 rfl (Nat.le_of_ble_eq_true rfl) dX3_howMany_64 ⟨Nat.zero_le _, Nat.zero_le _⟩ (fun v_64 u_64 H locs hq hP hD hS => ?_)
    obtain ⟨rfl, rfl⟩ := hq
    exact hret _ _ _ _ _ _ hP hD hS dX3_howMany_67 ⟨by rw [c_1_3]; exact (zs_hmi (q := 3) (F := zm_hm s a z) (by decide)).symm, rfl⟩
  by_cases c_1_4 : x = nI 4
  · refine lv_tableIn (off := 67) (tgt := 68) hx hb dX3_howMany_1 (by rw [c_1_4]; decide) (by rw [c_1_4]; decide) (by rw [c_1_4]; rfl) (by decide) ?_
    refine lv_aload_n hx hb dX3_howMany_68 rfl (lv_at hl 0 rfl) ?_
    refine va_get (D := D) (ci := 3) (v := .int (nI (s 9))) (C := RX3) (T := TX3) (N := 29) hx hb hts hi3 hown hK hP 0 rfl rfl 9 (by decide) k85 (fun _ h9 => h9) rfl dX3_howMany_69 ?_
    exact hret _ _ _ _ _ _ hP hD hS dX3_howMany_72 ⟨by rw [c_1_4]; exact (zs_hmi (q := 4) (F := zm_hm s a z) (by decide)).symm, rfl⟩
  by_cases c_1_5 : x = nI 5
  · refine lv_tableIn (off := 72) (tgt := 73) hx hb dX3_howMany_1 (by rw [c_1_5]; decide) (by rw [c_1_5]; decide) (by rw [c_1_5]; rfl) (by decide) ?_
    refine lv_aload_n hx hb dX3_howMany_73 rfl (lv_at hl 0 rfl) ?_
    refine va_get (D := D) (ci := 3) (v := .int (nI (s 14))) (C := RX3) (T := TX3) (N := 29) hx hb hts hi3 hown hK hP 0 rfl rfl 14 (by decide) k60 (fun _ h9 => h9) rfl dX3_howMany_74 ?_
    exact hret _ _ _ _ _ _ hP hD hS dX3_howMany_77 ⟨by rw [c_1_5]; exact (zs_hmi (q := 5) (F := zm_hm s a z) (by decide)).symm, rfl⟩
  by_cases c_1_6 : x = nI 6
  · refine lv_tableIn (off := 77) (tgt := 78) hx hb dX3_howMany_1 (by rw [c_1_6]; decide) (by rw [c_1_6]; decide) (by rw [c_1_6]; rfl) (by decide) ?_
    refine lv_aload_n hx hb dX3_howMany_78 rfl (lv_at hl 0 rfl) ?_
    refine va_get (D := D) (ci := 3) (v := .int (nI (s 1))) (C := RX3) (T := TX3) (N := 29) hx hb hts hi3 hown hK hP 0 rfl rfl 1 (by decide) k79 (fun _ h9 => h9) rfl dX3_howMany_79 ?_
    exact hret _ _ _ _ _ _ hP hD hS dX3_howMany_82 ⟨by rw [c_1_6]; exact (zs_hmi (q := 6) (F := zm_hm s a z) (by decide)).symm, rfl⟩
  by_cases c_1_7 : x = nI 7
  · refine lv_tableIn (off := 82) (tgt := 83) hx hb dX3_howMany_1 (by rw [c_1_7]; decide) (by rw [c_1_7]; decide) (by rw [c_1_7]; rfl) (by decide) ?_
    refine lv_aload_n hx hb dX3_howMany_83 rfl (lv_at hl 0 rfl) ?_
    refine va_get (D := D) (ci := 3) (v := .int (nI (s 13))) (C := RX3) (T := TX3) (N := 29) hx hb hts hi3 hown hK hP 0 rfl rfl 13 (by decide) k147 (fun _ h9 => h9) rfl dX3_howMany_84 ?_
    exact hret _ _ _ _ _ _ hP hD hS dX3_howMany_87 ⟨by rw [c_1_7]; exact (zs_hmi (q := 7) (F := zm_hm s a z) (by decide)).symm, rfl⟩
  refine lv_tableOut (tgt := 88) hx hb dX3_howMany_1 (by have q0 := zx_neT c_1_0 (k := 0) (by decide); have q1 := zx_neT c_1_1 (k := 1) (by decide); have q2 := zx_neT c_1_2 (k := 2) (by decide); have q3 := zx_neT c_1_3 (k := 3) (by decide); have q4 := zx_neT c_1_4 (k := 4) (by decide); have q5 := zx_neT c_1_5 (k := 5) (by decide); have q6 := zx_neT c_1_6 (k := 6) (by decide); have q7 := zx_neT c_1_7 (k := 7) (by decide); omega) (by decide) ?_
  refine lv_bipush (v := (-102)) hx hb dX3_howMany_88 (by decide) ?_
  exact hret _ _ _ _ _ _ hP hD hS dX3_howMany_90 ⟨(zs_hmo c_1_0 c_1_1 c_1_2 c_1_3 c_1_4 c_1_5 c_1_6 c_1_7).symm, rfl⟩
set_option maxHeartbeats 4000000 in
set_option maxRecDepth 100000 in
theorem c_X3_count (l : Launch) (D : va_G) (cI cB : ClassId) (r : Nat → Nat) (s : Nat → Nat) (a : Nat → Nat → Nat) (z : Nat → Int) (h : Int64) (x : Int32) (hI : zm_I s a z) : zx_C zx_ei l D (zm_t cI cB) (zm_w cI cB r) yX3_count wsX3_count rmX3_count [.ref (r 0), .int x] (s, a, z, h) (fun v u' => v = zs_hm x (zm_hm s a z) ∧ u' = (s, a, z, h)) := by
  refine zx_of_i (cc := cX3_count) (maxL := 2) (by decide) rfl (Nat.le_of_ble_eq_true rfl) ?_
  intro p e st m args below meth c A Q H cf hK hN hP hD hS hA hret ls hl
  obtain ⟨hx, hb, hml, hown, hts⟩ := id cf
  have hl : lv_has ls 2 [(0, .ref (r 0)), (1, .int x)] := hl
  have hP : va_P D vwCl ((zm_w cI cB r) (s, a, z, h)) H := hP
  have hD : va_D A ((zm_w cI cB r) (s, a, z, h)) := hD
  refine lv_aload_n hx hb dX3_count_0 rfl (lv_at hl 0 rfl) ?_
  refine lv_iload_n hx hb dX3_count_1 rfl (lv_at hl 1 rfl) ?_
  refine zx_V_i (As := [.int x]) (rest := []) cf (c_X3_howMany l D cI cB r s a z h x hI ) (cwV 1 hts gX3_count_X3_howMany rfl rfl rfl ⟨rfl, hd_X3_howMany⟩ ⟨Nat.le_of_ble_eq_true rfl, Nat.le_of_ble_eq_true rfl⟩) hK hN hP hD hS hA 0 rfl rfl rfl hl.1 rfl (Nat.le_of_ble_eq_true rfl) dX3_count_2 ⟨Nat.zero_le _, Nat.zero_le _⟩ (fun v_2 u_2 H locs hq hP hD hS => ?_)
  obtain ⟨rfl, rfl⟩ := hq
  exact hret _ _ _ _ _ _ hP hD hS dX3_count_5 ⟨rfl, rfl⟩
set_option maxHeartbeats 4000000 in
set_option maxRecDepth 100000 in
theorem c_X3_mix (l : Launch) (D : va_G) (cI cB : ClassId) (r : Nat → Nat) (s : Nat → Nat) (a : Nat → Nat → Nat) (z : Nat → Int) (h : Int64) (y : Int64)  : zx_C zx_ev l D (zm_t cI cB) (zm_w cI cB r) yX3_mix wsX3_mix rmX3_mix [.ref (r 0), .long y] (s, a, z, h) (fun _ u' => u' = (s, a, z, (31 : Int64) * h + y)) := by
  refine zx_of_v (cc := cX3_mix) (maxL := 3) (by decide) rfl (Nat.le_of_ble_eq_true rfl) ?_
  intro p e st m args below meth c A Q H cf hK hN hP hD hS hA hret ls hl
  obtain ⟨hx, hb, hml, hown, hts⟩ := id cf
  have hi3 : ∀ w ∈ wsX30, w ∈ wsX3_mix := fun w h => List.mem_cons_of_mem _ (List.mem_append_right _ h)
  have k213 := hts (.fieldLink RX3 213 "NineDrawersModel" "h" "J") (List.mem_of_getElem? (i := 2) (by decide +kernel))
  have hl : lv_has ls 3 [(0, .ref (r 0)), (1, .long y)] := hl
  have hP : va_P D vwCl ((zm_w cI cB r) (s, a, z, h)) H := hP
  have hD : va_D A ((zm_w cI cB r) (s, a, z, h)) := hD
  refine lv_aload_n hx hb dX3_mix_0 rfl (lv_at hl 0 rfl) ?_
  refine lv_ldc2 (v := 31) hx hb hown (hts (.constantLong RX3 211 (31)) (List.mem_of_getElem? (i := 1) (by decide +kernel))) dX3_mix_1 ?_
  refine lv_aload_n hx hb dX3_mix_4 rfl (lv_at hl 0 rfl) ?_
  refine va_get (D := D) (ci := 3) (v := .long h) (C := RX3) (T := TX3) (N := 29) hx hb hts hi3 hown hK hP 0 rfl rfl 28 (by decide) k213 (fun _ h9 => h9) rfl dX3_mix_5 ?_
  refine lv_lmul hx hb dX3_mix_8 ?_
  refine lv_lload_n hx hb dX3_mix_9 rfl (lv_at hl 1 rfl) ?_
  refine lv_ladd hx hb dX3_mix_10 ?_
  refine zx_put (D := D) (ci := 3) (ty := .long) (v := .long (((31 : Int64) * h) + y)) (ws' := (zm_w cI cB r) (s, a, z, ((31 : Int64) * h) + y)) (C := RX3) (T := TX3) (N := 29) hx hb hts hi3 tyX3 tyX3_ok nmX3 hown hK hP hD hS 0 rfl rfl 28 (by decide) k213 (fun _ h9 => h9) rfl (by decide +kernel) rfl rfl (Nat.le_of_ble_eq_true rfl) rfl dX3_mix_11 (fun H locs hP hD hS => ?_)
  exact hret _ _ _ _ _ hP hD hS dX3_mix_14 rfl
set_option maxHeartbeats 4000000 in
set_option maxRecDepth 100000 in
theorem c_X3_mixDrawer (l : Launch) (D : va_G) (cI cB : ClassId) (r : Nat → Nat) (s : Nat → Nat) (a : Nat → Nat → Nat) (z : Nat → Int) (h : Int64) (d : Nat) (hI : zm_I s a z) (hd : d < 9) : zx_C zx_ev l D (zm_t cI cB) (zm_w cI cB r) yX3_mixDrawer wsX3_mixDrawer rmX3_mixDrawer [.ref (r 0), .int (nI d)] (s, a, z, h) (fun _ u' => u' = (s, a, z, zm_md s a z d h)) := by
  refine zx_of_v (cc := cX3_mixDrawer) (maxL := 3) (by decide) rfl (Nat.le_of_ble_eq_true rfl) ?_
  intro p e st m args below meth c A Q H cf hK hN hP hD hS hA hret ls hl
  obtain ⟨hx, hb, hml, hown, hts⟩ := id cf
  have hl : lv_has ls 3 [(0, .ref (r 0)), (1, .int (nI d))] := hl
  have hP : va_P D vwCl ((zm_w cI cB r) (s, a, z, h)) H := hP
  have hD : va_D A ((zm_w cI cB r) (s, a, z, h)) := hD
  obtain ⟨⟨i0, i1, i3, i5, i9, i13, i14⟩, ⟨i17, i18, i19, i20, i21⟩, iP, iF, iL, iG, iZ, jL, jP, jF⟩ := id hI
  refine lv_iconst (v := nI 0) hx hb dX3_mixDrawer_0 (by decide) ?_
  refine lv_istore_n (lv' := [(2, .int (nI 0)), (0, .ref (r 0)), (1, .int (nI d))]) hx hb dX3_mixDrawer_1 rfl hl (by decide) rfl (fun ls hl => ?_)
  have lp_2 : ∀ (n_ : Nat) (i : Nat) (hh : Int64), 7 - i < n_ → (i ≤ 7) → (hh = zp_fo (fun q9 g9 => (31 : Int64) * g9 + (zm_dn s a z d q9).toInt64) h i) → ∀ x1 : Int32, x1 = nI d → ∀ x2 : Int32, x2 = nI i → ∀ (H : Heap) (locs : List Loc), va_P D vwCl ((zm_w cI cB r) (s, a, z, hh)) H → va_D A ((zm_w cI cB r) (s, a, z, hh)) → va_S A st.heap H locs → ∀ ls : Array Slot, lv_has ls 3 [(0, .ref (r 0)), (1, .int x1), (2, .int x2)] → W p l e rmX3_mixDrawer st m args below meth c H locs 0 0 Q (F0 m 2 ls []) := by
    intro n_
    induction n_ with
    | zero => intros; omega
    | succ n_ ih_2 =>
      intro i hh hmu_2 hi9 gh
      intro x1 ex1; subst ex1
      intro x2 ex2; subst ex2
      intro H locs hP hD hS ls hl
      have hl : lv_has ls 3 [(0, .ref (r 0)), (1, .int (nI d)), (2, .int (nI i))] := hl
      refine lv_iload_n hx hb dX3_mixDrawer_2 rfl (lv_at hl 2 rfl) ?_
      refine lv_bipush (v := nI 7) hx hb dX3_mixDrawer_3 (by decide) ?_
      refine zx_icmp_ge hx hb (tgt := 25) (by omega) (by omega) dX3_mixDrawer_5 (by decide) (fun c_5 => ?_) (fun c_5 => ?_)
      · refine lv_iconst (v := nI 0) hx hb dX3_mixDrawer_25 (by decide) ?_
        refine lv_istore_n (lv' := [(2, .int (nI 0)), (0, .ref (r 0)), (1, .int (nI d))]) hx hb dX3_mixDrawer_26 rfl hl (by decide) rfl (fun ls hl => ?_)
        have lp_27 : ∀ (n_ : Nat) (i : Nat) (hh : Int64), 7 - i < n_ → (i ≤ 7) → (hh = zp_fo (fun o9 g9 => (31 : Int64) * g9 + (zp_sur (zm_F s a z d) o9).toInt64) (zp_fo (fun q9 g9 => (31 : Int64) * g9 + (zm_dn s a z d q9).toInt64) h 7) i) → ∀ x1 : Int32, x1 = nI d → ∀ x2 : Int32, x2 = nI i → ∀ (H : Heap) (locs : List Loc), va_P D vwCl ((zm_w cI cB r) (s, a, z, hh)) H → va_D A ((zm_w cI cB r) (s, a, z, hh)) → va_S A st.heap H locs → ∀ ls : Array Slot, lv_has ls 3 [(0, .ref (r 0)), (1, .int x1), (2, .int x2)] → W p l e rmX3_mixDrawer st m args below meth c H locs 0 0 Q (F0 m 27 ls []) := by
          intro n_
          induction n_ with
          | zero => intros; omega
          | succ n_ ih_27 =>
            intro i hh hmu_27 hi9 gh
            intro x1 ex1; subst ex1
            intro x2 ex2; subst ex2
            intro H locs hP hD hS ls hl
            have hl : lv_has ls 3 [(0, .ref (r 0)), (1, .int (nI d)), (2, .int (nI i))] := hl
            refine lv_iload_n hx hb dX3_mixDrawer_27 rfl (lv_at hl 2 rfl) ?_
            refine lv_bipush (v := nI 7) hx hb dX3_mixDrawer_28 (by decide) ?_
            refine zx_icmp_ge hx hb (tgt := 50) (by omega) (by omega) dX3_mixDrawer_30 (by decide) (fun c_30 => ?_) (fun c_30 => ?_)
            · refine lv_aload_n hx hb dX3_mixDrawer_50 rfl (lv_at hl 0 rfl) ?_
              refine lv_aload_n hx hb dX3_mixDrawer_51 rfl (lv_at hl 0 rfl) ?_
              refine lv_iload_n hx hb dX3_mixDrawer_52 rfl (lv_at hl 1 rfl) ?_
              refine zx_V_i (As := [.int (nI d)]) (rest := [.ref (r 0)]) cf (c_X3_delaysOf l D cI cB r s a z hh d hI (by omega)) (cwV 1 hts gX3_mixDrawer_X3_delaysOf rfl rfl rfl ⟨rfl, hd_X3_delaysOf⟩ ⟨Nat.le_of_ble_eq_true rfl, Nat.le_of_ble_eq_true rfl⟩) hK hN hP hD hS hA 0 rfl rfl rfl hl.1 rfl (Nat.le_of_ble_eq_true rfl) dX3_mixDrawer_53 ⟨Nat.zero_le _, Nat.zero_le _⟩ (fun v_53 u_53 H locs hq hP hD hS => ?_)
              obtain ⟨rfl, rfl⟩ := hq
              refine lv_i2l hx hb dX3_mixDrawer_56 rfl ?_
              refine zx_V_v (As := [.long ((nI (zm_del s a d)).toInt64)]) (rest := []) cf (c_X3_mix l D cI cB r s a z hh ((nI (zm_del s a d)).toInt64)) (cwV 1 hts gX3_mixDrawer_X3_mix rfl rfl rfl ⟨rfl, hd_X3_mix⟩ ⟨Nat.le_of_ble_eq_true rfl, Nat.le_of_ble_eq_true rfl⟩) hK hN hP hD hS hA 0 rfl rfl rfl hl.1 rfl (Nat.le_of_ble_eq_true rfl) dX3_mixDrawer_57 ⟨Nat.zero_le _, Nat.zero_le _⟩ (fun v_57 u_57 H locs hq hP hD hS => ?_)
              subst hq
              exact hret _ _ _ _ _ hP hD hS dX3_mixDrawer_60 (by rw [gh, show i = 7 by omega]; rfl)
            · refine lv_aload_n hx hb dX3_mixDrawer_33 rfl (lv_at hl 0 rfl) ?_
              refine lv_aload_n hx hb dX3_mixDrawer_34 rfl (lv_at hl 0 rfl) ?_
              refine lv_iload_n hx hb dX3_mixDrawer_35 rfl (lv_at hl 1 rfl) ?_
              refine lv_iload_n hx hb dX3_mixDrawer_36 rfl (lv_at hl 2 rfl) ?_
              refine zx_V_i (As := [.int (nI d), .int (nI i)]) (rest := [.ref (r 0)]) cf (c_X3_sureNow l D cI cB r s a z hh d i hI (by omega) (by omega)) (cwV 2 hts gX3_mixDrawer_X3_sureNow rfl rfl rfl ⟨rfl, hd_X3_sureNow⟩ ⟨Nat.le_of_ble_eq_true rfl, Nat.le_of_ble_eq_true rfl⟩) hK hN hP hD hS hA 0 rfl rfl rfl hl.1 rfl (Nat.le_of_ble_eq_true rfl) dX3_mixDrawer_37 ⟨Nat.zero_le _, Nat.zero_le _⟩ (fun v_37 u_37 H locs hq hP hD hS => ?_)
              obtain ⟨rfl, rfl⟩ := hq
              refine lv_i2l hx hb dX3_mixDrawer_40 rfl ?_
              refine zx_V_v (As := [.long (((zp_sur (zm_F s a z d) i)).toInt64)]) (rest := []) cf (c_X3_mix l D cI cB r s a z hh (((zp_sur (zm_F s a z d) i)).toInt64)) (cwV 1 hts gX3_mixDrawer_X3_mix rfl rfl rfl ⟨rfl, hd_X3_mix⟩ ⟨Nat.le_of_ble_eq_true rfl, Nat.le_of_ble_eq_true rfl⟩) hK hN hP hD hS hA 0 rfl rfl rfl hl.1 rfl (Nat.le_of_ble_eq_true rfl) dX3_mixDrawer_41 ⟨Nat.zero_le _, Nat.zero_le _⟩ (fun v_41 u_41 H locs hq hP hD hS => ?_)
              subst hq
              refine lv_iinc (v := nI (i + 1)) (lv' := [(2, .int (nI (i + 1))), (0, .ref (r 0)), (1, .int (nI d))]) hx hb dX3_mixDrawer_44 hl (k := 2) rfl (zx_inc _ _) (by decide) rfl (fun ls hl => ?_)
              refine lv_goto (tgt := 27) hx hb dX3_mixDrawer_47 (by decide) ?_
              exact ih_27 (i + 1) ((31 : Int64) * hh + (((zp_sur (zm_F s a z d) i)).toInt64)) (by omega) (by omega) (by rw [gh]; rfl) _ rfl _ rfl _ _ hP hD hS ls (lv_sub hl [1, 2, 0] rfl)
        exact lp_27 _ 0 hh (Nat.lt_succ_self _) (Nat.zero_le _) (by rw [gh, show i = 7 by omega]; rfl) _ rfl _ rfl _ _ hP hD hS ls (lv_sub hl [1, 2, 0] rfl)
      · refine lv_aload_n hx hb dX3_mixDrawer_8 rfl (lv_at hl 0 rfl) ?_
        refine lv_aload_n hx hb dX3_mixDrawer_9 rfl (lv_at hl 0 rfl) ?_
        refine lv_iload_n hx hb dX3_mixDrawer_10 rfl (lv_at hl 1 rfl) ?_
        refine lv_iload_n hx hb dX3_mixDrawer_11 rfl (lv_at hl 2 rfl) ?_
        refine zx_V_i (As := [.int (nI d), .int (nI i)]) (rest := [.ref (r 0)]) cf (c_X3_drawerNow l D cI cB r s a z hh d i hI (by omega) (by omega)) (cwV 2 hts gX3_mixDrawer_X3_drawerNow rfl rfl rfl ⟨rfl, hd_X3_drawerNow⟩ ⟨Nat.le_of_ble_eq_true rfl, Nat.le_of_ble_eq_true rfl⟩) hK hN hP hD hS hA 0 rfl rfl rfl hl.1 rfl (Nat.le_of_ble_eq_true rfl) dX3_mixDrawer_12 ⟨Nat.zero_le _, Nat.zero_le _⟩ (fun v_12 u_12 H locs hq hP hD hS => ?_)
        obtain ⟨rfl, rfl⟩ := hq
        refine lv_i2l hx hb dX3_mixDrawer_15 rfl ?_
        refine zx_V_v (As := [.long (((zm_dn s a z d i)).toInt64)]) (rest := []) cf (c_X3_mix l D cI cB r s a z hh (((zm_dn s a z d i)).toInt64)) (cwV 1 hts gX3_mixDrawer_X3_mix rfl rfl rfl ⟨rfl, hd_X3_mix⟩ ⟨Nat.le_of_ble_eq_true rfl, Nat.le_of_ble_eq_true rfl⟩) hK hN hP hD hS hA 0 rfl rfl rfl hl.1 rfl (Nat.le_of_ble_eq_true rfl) dX3_mixDrawer_16 ⟨Nat.zero_le _, Nat.zero_le _⟩ (fun v_16 u_16 H locs hq hP hD hS => ?_)
        subst hq
        refine lv_iinc (v := nI (i + 1)) (lv' := [(2, .int (nI (i + 1))), (0, .ref (r 0)), (1, .int (nI d))]) hx hb dX3_mixDrawer_19 hl (k := 2) rfl (zx_inc _ _) (by decide) rfl (fun ls hl => ?_)
        refine lv_goto (tgt := 2) hx hb dX3_mixDrawer_22 (by decide) ?_
        exact ih_2 (i + 1) ((31 : Int64) * hh + (((zm_dn s a z d i)).toInt64)) (by omega) (by omega) (by rw [gh]; rfl) _ rfl _ rfl _ _ hP hD hS ls (lv_sub hl [1, 2, 0] rfl)
  exact lp_2 _ 0 h (Nat.lt_succ_self _) (Nat.zero_le _) rfl _ rfl _ rfl _ _ hP hD hS ls (lv_sub hl [1, 2, 0] rfl)
set_option maxHeartbeats 4000000 in
set_option maxRecDepth 100000 in
theorem c_X3_digest (l : Launch) (D : va_G) (cI cB : ClassId) (r : Nat → Nat) (s : Nat → Nat) (a : Nat → Nat → Nat) (z : Nat → Int) (h : Int64) (hI : zm_I s a z) : zx_C zx_el l D (zm_t cI cB) (zm_w cI cB r) yX3_digest wsX3_digest rmX3_digest [.ref (r 0)] (s, a, z, h) (fun v u' => v = zm_dig s a z ∧ u' = (s, a, z, v)) := by
  refine zx_of_l (cc := cX3_digest) (maxL := 3) (by decide) rfl (Nat.le_of_ble_eq_true rfl) ?_
  intro p e st m args below meth c A Q H cf hK hN hP hD hS hA hret ls hl
  obtain ⟨hx, hb, hml, hown, hts⟩ := id cf
  have hi3 : ∀ w ∈ wsX30, w ∈ wsX3_digest := fun w h => List.mem_cons_of_mem _ (List.mem_append_right _ h)
  have k213 := hts (.fieldLink RX3 213 "NineDrawersModel" "h" "J") (List.mem_of_getElem? (i := 2) (by decide +kernel))
  have k82 := hts (.fieldLink RX3 82 "NineDrawersModel" "people" "I") (List.mem_of_getElem? (i := 4) (by decide +kernel))
  have k60 := hts (.fieldLink RX3 60 "NineDrawersModel" "pageLength" "I") (List.mem_of_getElem? (i := 5) (by decide +kernel))
  have k34 := hts (.fieldLink RX3 34 "NineDrawersModel" "page" "[B") (List.mem_of_getElem? (i := 6) (by decide +kernel))
  have k75 := hts (.fieldLink RX3 75 "NineDrawersModel" "isChest" "Z") (List.mem_of_getElem? (i := 3) (by decide +kernel))
  have hl : lv_has ls 3 [(0, .ref (r 0))] := hl
  have hP : va_P D vwCl ((zm_w cI cB r) (s, a, z, h)) H := hP
  have hD : va_D A ((zm_w cI cB r) (s, a, z, h)) := hD
  obtain ⟨⟨i0, i1, i3, i5, i9, i13, i14⟩, ⟨i17, i18, i19, i20, i21⟩, iP, iF, iL, iG, iZ, jL, jP, jF⟩ := id hI
  refine lv_aload_n hx hb dX3_digest_0 rfl (lv_at hl 0 rfl) ?_
  refine lv_ldc2 (v := 853) hx hb hown (hts (.constantLong RX3 220 (853)) (List.mem_of_getElem? (i := 1) (by decide +kernel))) dX3_digest_1 ?_
  refine zx_put (D := D) (ci := 3) (ty := .long) (v := .long (853 : Int64)) (ws' := (zm_w cI cB r) (s, a, z, (853 : Int64))) (C := RX3) (T := TX3) (N := 29) hx hb hts hi3 tyX3 tyX3_ok nmX3 hown hK hP hD hS 0 rfl rfl 28 (by decide) k213 (fun _ h9 => h9) rfl (by decide +kernel) rfl rfl (Nat.le_of_ble_eq_true rfl) rfl dX3_digest_4 (fun H locs hP hD hS => ?_)
  refine lv_iconst (v := nI 0) hx hb dX3_digest_7 (by decide) ?_
  refine lv_istore_n (lv' := [(1, .int (nI 0)), (0, .ref (r 0))]) hx hb dX3_digest_8 rfl hl (by decide) rfl (fun ls hl => ?_)
  have lp_9 : ∀ (n_ : Nat) (i : Nat) (hh : Int64), 9 - i < n_ → (i ≤ 9) → (i = 0 ∨ s 0 ≠ 0) → (hh = zp_fo (zm_md s a z) 853 i) → ∀ x1 : Int32, x1 = nI i → ∀ (H : Heap) (locs : List Loc), va_P D vwCl ((zm_w cI cB r) (s, a, z, hh)) H → va_D A ((zm_w cI cB r) (s, a, z, hh)) → va_S A st.heap H locs → ∀ ls : Array Slot, lv_has ls 3 [(0, .ref (r 0)), (1, .int x1)] → W p l e rmX3_digest st m args below meth c H locs 0 0 Q (F0 m 9 ls []) := by
    intro n_
    induction n_ with
    | zero => intros; omega
    | succ n_ ih_9 =>
      intro i hh hmu_9 hi9 hc9 gh
      intro x1 ex1; subst ex1
      intro H locs hP hD hS ls hl
      have hl : lv_has ls 3 [(0, .ref (r 0)), (1, .int (nI i))] := hl
      refine lv_iload_n hx hb dX3_digest_9 rfl (lv_at hl 1 rfl) ?_
      refine lv_bipush (v := nI 9) hx hb dX3_digest_10 (by decide) ?_
      refine zx_icmp_ge hx hb (tgt := 33) (by omega) (by omega) dX3_digest_12 (by decide) (fun c_12 => ?_) (fun c_12 => ?_)
      · refine lv_iconst (v := nI 0) hx hb dX3_digest_33 (by decide) ?_
        refine lv_istore_n (lv' := [(1, .int (nI 0)), (0, .ref (r 0))]) hx hb dX3_digest_34 rfl hl (by decide) rfl (fun ls hl => ?_)
        have lp_35 : ∀ (n_ : Nat) (p9 : Nat) (hh : Int64), s 5 - p9 < n_ → (p9 ≤ s 5) → (hh = zp_fo (zm_mp s a z) (if s 0 = 0 then (853 : Int64) else zp_fo (zm_md s a z) 853 9) p9) → ∀ x1 : Int32, x1 = nI p9 → ∀ (H : Heap) (locs : List Loc), va_P D vwCl ((zm_w cI cB r) (s, a, z, hh)) H → va_D A ((zm_w cI cB r) (s, a, z, hh)) → va_S A st.heap H locs → ∀ ls : Array Slot, lv_has ls 3 [(0, .ref (r 0)), (1, .int x1)] → W p l e rmX3_digest st m args below meth c H locs 0 0 Q (F0 m 35 ls []) := by
          intro n_
          induction n_ with
          | zero => intros; omega
          | succ n_ ih_35 =>
            intro p9 hh hmu_35 hp9 gh
            intro x1 ex1; subst ex1
            intro H locs hP hD hS ls hl
            have hl : lv_has ls 3 [(0, .ref (r 0)), (1, .int (nI p9))] := hl
            refine lv_iload_n hx hb dX3_digest_35 rfl (lv_at hl 1 rfl) ?_
            refine lv_aload_n hx hb dX3_digest_36 rfl (lv_at hl 0 rfl) ?_
            refine va_get (D := D) (ci := 3) (v := .int (nI (s 5))) (C := RX3) (T := TX3) (N := 29) hx hb hts hi3 hown hK hP 0 rfl rfl 5 (by decide) k82 (fun _ h9 => h9) rfl dX3_digest_37 ?_
            refine zx_icmp_ge hx hb (tgt := 95) (by omega) (by omega) dX3_digest_40 (by decide) (fun c_40 => ?_) (fun c_40 => ?_)
            · refine lv_iconst (v := nI 0) hx hb dX3_digest_95 (by decide) ?_
              refine lv_istore_n (lv' := [(1, .int (nI 0)), (0, .ref (r 0))]) hx hb dX3_digest_96 rfl hl (by decide) rfl (fun ls hl => ?_)
              have lp_97 : ∀ (n_ : Nat) (k : Nat) (hh : Int64), s 14 - k < n_ → (k ≤ s 14) → (hh = zp_fo (fun k9 g9 => (31 : Int64) * g9 + (nI (a 15 k9)).toInt64) (zp_fo (zm_mp s a z) (if s 0 = 0 then (853 : Int64) else zp_fo (zm_md s a z) 853 9) (s 5)) k) → ∀ x1 : Int32, x1 = nI k → ∀ (H : Heap) (locs : List Loc), va_P D vwCl ((zm_w cI cB r) (s, a, z, hh)) H → va_D A ((zm_w cI cB r) (s, a, z, hh)) → va_S A st.heap H locs → ∀ ls : Array Slot, lv_has ls 3 [(0, .ref (r 0)), (1, .int x1)] → W p l e rmX3_digest st m args below meth c H locs 0 0 Q (F0 m 97 ls []) := by
                intro n_
                induction n_ with
                | zero => intros; omega
                | succ n_ ih_97 =>
                  intro k hh hmu_97 hk9 gh
                  intro x1 ex1; subst ex1
                  intro H locs hP hD hS ls hl
                  have hl : lv_has ls 3 [(0, .ref (r 0)), (1, .int (nI k))] := hl
                  refine lv_iload_n hx hb dX3_digest_97 rfl (lv_at hl 1 rfl) ?_
                  refine lv_aload_n hx hb dX3_digest_98 rfl (lv_at hl 0 rfl) ?_
                  refine va_get (D := D) (ci := 3) (v := .int (nI (s 14))) (C := RX3) (T := TX3) (N := 29) hx hb hts hi3 hown hK hP 0 rfl rfl 14 (by decide) k60 (fun _ h9 => h9) rfl dX3_digest_99 ?_
                  refine zx_icmp_ge hx hb (tgt := 122) (by omega) (by omega) dX3_digest_102 (by decide) (fun c_102 => ?_) (fun c_102 => ?_)
                  · refine lv_iconst (v := nI 0) hx hb dX3_digest_122 (by decide) ?_
                    refine lv_istore_n (lv' := [(1, .int (nI 0)), (0, .ref (r 0))]) hx hb dX3_digest_123 rfl hl (by decide) rfl (fun ls hl => ?_)
                    have lp_124 : ∀ (n_ : Nat) (i : Nat) (hh : Int64), 8 - i < n_ → (i ≤ 8) → (hh = zp_fo (fun q9 g9 => (31 : Int64) * g9 + (zs_hm (nI q9) (zm_hm s a z)).toInt64) (zp_fo (fun k9 g9 => (31 : Int64) * g9 + (nI (a 15 k9)).toInt64) (zp_fo (zm_mp s a z) (if s 0 = 0 then (853 : Int64) else zp_fo (zm_md s a z) 853 9) (s 5)) (s 14)) i) → ∀ x1 : Int32, x1 = nI i → ∀ (H : Heap) (locs : List Loc), va_P D vwCl ((zm_w cI cB r) (s, a, z, hh)) H → va_D A ((zm_w cI cB r) (s, a, z, hh)) → va_S A st.heap H locs → ∀ ls : Array Slot, lv_has ls 3 [(0, .ref (r 0)), (1, .int x1)] → W p l e rmX3_digest st m args below meth c H locs 0 0 Q (F0 m 124 ls []) := by
                      intro n_
                      induction n_ with
                      | zero => intros; omega
                      | succ n_ ih_124 =>
                        intro i hh hmu_124 hi9 gh
                        intro x1 ex1; subst ex1
                        intro H locs hP hD hS ls hl
                        have hl : lv_has ls 3 [(0, .ref (r 0)), (1, .int (nI i))] := hl
                        refine lv_iload_n hx hb dX3_digest_124 rfl (lv_at hl 1 rfl) ?_
                        refine lv_bipush (v := nI 8) hx hb dX3_digest_125 (by decide) ?_
                        refine zx_icmp_ge hx hb (tgt := 146) (by omega) (by omega) dX3_digest_127 (by decide) (fun c_127 => ?_) (fun c_127 => ?_)
                        · refine lv_aload_n hx hb dX3_digest_146 rfl (lv_at hl 0 rfl) ?_
                          refine va_get (D := D) (ci := 3) (v := .long hh) (C := RX3) (T := TX3) (N := 29) hx hb hts hi3 hown hK hP 0 rfl rfl 28 (by decide) k213 (fun _ h9 => h9) rfl dX3_digest_147 ?_
                          exact hret _ _ _ _ _ _ hP hD hS dX3_digest_150 ⟨by rw [gh, show i = 8 by omega]; rfl, rfl⟩
                        · refine lv_aload_n hx hb dX3_digest_130 rfl (lv_at hl 0 rfl) ?_
                          refine lv_aload_n hx hb dX3_digest_131 rfl (lv_at hl 0 rfl) ?_
                          refine lv_iload_n hx hb dX3_digest_132 rfl (lv_at hl 1 rfl) ?_
                          refine zx_V_i (As := [.int (nI i)]) (rest := [.ref (r 0)]) cf (c_X3_howMany l D cI cB r s a z hh (nI i) hI ) (cwV 1 hts gX3_digest_X3_howMany rfl rfl rfl ⟨rfl, hd_X3_howMany⟩ ⟨Nat.le_of_ble_eq_true rfl, Nat.le_of_ble_eq_true rfl⟩) hK hN hP hD hS hA 0 rfl rfl rfl hl.1 rfl (Nat.le_of_ble_eq_true rfl) dX3_digest_133 ⟨Nat.zero_le _, Nat.zero_le _⟩ (fun v_133 u_133 H locs hq hP hD hS => ?_)
                          obtain ⟨rfl, rfl⟩ := hq
                          refine lv_i2l hx hb dX3_digest_136 rfl ?_
                          refine zx_V_v (As := [.long (((zs_hm (nI i) (zm_hm s a z))).toInt64)]) (rest := []) cf (c_X3_mix l D cI cB r s a z hh (((zs_hm (nI i) (zm_hm s a z))).toInt64)) (cwV 1 hts gX3_digest_X3_mix rfl rfl rfl ⟨rfl, hd_X3_mix⟩ ⟨Nat.le_of_ble_eq_true rfl, Nat.le_of_ble_eq_true rfl⟩) hK hN hP hD hS hA 0 rfl rfl rfl hl.1 rfl (Nat.le_of_ble_eq_true rfl) dX3_digest_137 ⟨Nat.zero_le _, Nat.zero_le _⟩ (fun v_137 u_137 H locs hq hP hD hS => ?_)
                          subst hq
                          refine lv_iinc (v := nI (i + 1)) (lv' := [(1, .int (nI (i + 1))), (0, .ref (r 0))]) hx hb dX3_digest_140 hl (k := 1) rfl (zx_inc _ _) (by decide) rfl (fun ls hl => ?_)
                          refine lv_goto (tgt := 124) hx hb dX3_digest_143 (by decide) ?_
                          exact ih_124 (i + 1) ((31 : Int64) * hh + (((zs_hm (nI i) (zm_hm s a z))).toInt64)) (by omega) (by omega) (by rw [gh]; rfl) _ rfl _ _ hP hD hS ls (lv_sub hl [1, 0] rfl)
                    exact lp_124 _ 0 hh (Nat.lt_succ_self _) (Nat.zero_le _) (by rw [gh, show k = s 14 by omega]; rfl) _ rfl _ _ hP hD hS ls (lv_sub hl [1, 0] rfl)
                  · refine lv_aload_n hx hb dX3_digest_105 rfl (lv_at hl 0 rfl) ?_
                    refine lv_aload_n hx hb dX3_digest_106 rfl (lv_at hl 0 rfl) ?_
                    refine va_get (D := D) (ci := 3) (v := .ref (r 15)) (C := RX3) (T := TX3) (N := 29) hx hb hts hi3 hown hK hP 0 rfl rfl 15 (by decide) k34 (fun _ h9 => h9) rfl dX3_digest_107 ?_
                    refine lv_iload_n hx hb dX3_digest_110 rfl (lv_at hl 1 rfl) ?_
                    refine zx_bld (f := a 15) (n := 12) hx hb hK hP 9 1 rfl rfl (by omega) (by decide) dX3_digest_111 ?_
                    refine lv_i2l hx hb dX3_digest_112 rfl ?_
                    refine zx_V_v (As := [.long ((nI ((a 15) k)).toInt64)]) (rest := []) cf (c_X3_mix l D cI cB r s a z hh ((nI ((a 15) k)).toInt64)) (cwV 1 hts gX3_digest_X3_mix rfl rfl rfl ⟨rfl, hd_X3_mix⟩ ⟨Nat.le_of_ble_eq_true rfl, Nat.le_of_ble_eq_true rfl⟩) hK hN hP hD hS hA 0 rfl rfl rfl hl.1 rfl (Nat.le_of_ble_eq_true rfl) dX3_digest_113 ⟨Nat.zero_le _, Nat.zero_le _⟩ (fun v_113 u_113 H locs hq hP hD hS => ?_)
                    subst hq
                    refine lv_iinc (v := nI (k + 1)) (lv' := [(1, .int (nI (k + 1))), (0, .ref (r 0))]) hx hb dX3_digest_116 hl (k := 1) rfl (zx_inc _ _) (by decide) rfl (fun ls hl => ?_)
                    refine lv_goto (tgt := 97) hx hb dX3_digest_119 (by decide) ?_
                    exact ih_97 (k + 1) ((31 : Int64) * hh + ((nI ((a 15) k)).toInt64)) (by omega) (by omega) (by rw [gh]; rfl) _ rfl _ _ hP hD hS ls (lv_sub hl [1, 0] rfl)
              exact lp_97 _ 0 hh (Nat.lt_succ_self _) (Nat.zero_le _) (by rw [gh, show p9 = s 5 by omega]; rfl) _ rfl _ _ hP hD hS ls (lv_sub hl [1, 0] rfl)
            · refine lv_iconst (v := nI 0) hx hb dX3_digest_43 (by decide) ?_
              refine lv_istore_n (lv' := [(2, .int (nI 0)), (0, .ref (r 0)), (1, .int (nI p9))]) hx hb dX3_digest_44 rfl hl (by decide) rfl (fun ls hl => ?_)
              have lp_45 : ∀ (n_ : Nat) (i : Nat) (h2 : Int64), 3 - i < n_ → (i ≤ 3) → (h2 = zp_fo (fun q9 g9 => (31 : Int64) * g9 + (zp_ab (a 6 p9) (a 7 p9) (a 8 p9) q9).toInt64) hh i) → ∀ x1 : Int32, x1 = nI p9 → ∀ x2 : Int32, x2 = nI i → ∀ (H : Heap) (locs : List Loc), va_P D vwCl ((zm_w cI cB r) (s, a, z, h2)) H → va_D A ((zm_w cI cB r) (s, a, z, h2)) → va_S A st.heap H locs → ∀ ls : Array Slot, lv_has ls 3 [(0, .ref (r 0)), (1, .int x1), (2, .int x2)] → W p l e rmX3_digest st m args below meth c H locs 0 0 Q (F0 m 45 ls []) := by
                intro n_
                induction n_ with
                | zero => intros; omega
                | succ n_ ih_45 =>
                  intro i h2 hmu_45 hi9 gh2
                  intro x1 ex1; subst ex1
                  intro x2 ex2; subst ex2
                  intro H locs hP hD hS ls hl
                  have hl : lv_has ls 3 [(0, .ref (r 0)), (1, .int (nI p9)), (2, .int (nI i))] := hl
                  refine lv_iload_n hx hb dX3_digest_45 rfl (lv_at hl 2 rfl) ?_
                  refine lv_iconst (v := nI 3) hx hb dX3_digest_46 (by decide) ?_
                  refine zx_icmp_ge hx hb (tgt := 67) (by omega) (by omega) dX3_digest_47 (by decide) (fun c_47 => ?_) (fun c_47 => ?_)
                  · refine lv_aload_n hx hb dX3_digest_67 rfl (lv_at hl 0 rfl) ?_
                    refine lv_aload_n hx hb dX3_digest_68 rfl (lv_at hl 0 rfl) ?_
                    refine lv_iload_n hx hb dX3_digest_69 rfl (lv_at hl 1 rfl) ?_
                    refine lv_iconst (v := nI 0) hx hb dX3_digest_70 (by decide) ?_
                    refine zx_V_i (As := [.int (nI p9), .int (nI 0)]) (rest := [.ref (r 0)]) cf (c_X3_whoNow l D cI cB r s a z h2 p9 0 hI (by omega) (by omega)) (cwV 2 hts gX3_digest_X3_whoNow rfl rfl rfl ⟨rfl, hd_X3_whoNow⟩ ⟨Nat.le_of_ble_eq_true rfl, Nat.le_of_ble_eq_true rfl⟩) hK hN hP hD hS hA 0 rfl rfl rfl hl.1 rfl (Nat.le_of_ble_eq_true rfl) dX3_digest_71 ⟨Nat.zero_le _, Nat.zero_le _⟩ (fun v_71 u_71 H locs hq hP hD hS => ?_)
                    obtain ⟨rfl, rfl⟩ := hq
                    refine lv_i2l hx hb dX3_digest_74 rfl ?_
                    refine zx_V_v (As := [.long (((zp_who (zm_who s a z p9) 0)).toInt64)]) (rest := []) cf (c_X3_mix l D cI cB r s a z h2 (((zp_who (zm_who s a z p9) 0)).toInt64)) (cwV 1 hts gX3_digest_X3_mix rfl rfl rfl ⟨rfl, hd_X3_mix⟩ ⟨Nat.le_of_ble_eq_true rfl, Nat.le_of_ble_eq_true rfl⟩) hK hN hP hD hS hA 0 rfl rfl rfl hl.1 rfl (Nat.le_of_ble_eq_true rfl) dX3_digest_75 ⟨Nat.zero_le _, Nat.zero_le _⟩ (fun v_75 u_75 H locs hq hP hD hS => ?_)
                    subst hq
                    refine lv_aload_n hx hb dX3_digest_78 rfl (lv_at hl 0 rfl) ?_
                    refine lv_aload_n hx hb dX3_digest_79 rfl (lv_at hl 0 rfl) ?_
                    refine lv_iload_n hx hb dX3_digest_80 rfl (lv_at hl 1 rfl) ?_
                    refine lv_iconst (v := nI 1) hx hb dX3_digest_81 (by decide) ?_
                    refine zx_V_i (As := [.int (nI p9), .int (nI 1)]) (rest := [.ref (r 0)]) cf (c_X3_whoNow l D cI cB r s a z ((31 : Int64) * h2 + (((zp_who (zm_who s a z p9) 0)).toInt64)) p9 1 hI (by omega) (by omega)) (cwV 2 hts gX3_digest_X3_whoNow rfl rfl rfl ⟨rfl, hd_X3_whoNow⟩ ⟨Nat.le_of_ble_eq_true rfl, Nat.le_of_ble_eq_true rfl⟩) hK hN hP hD hS hA 0 rfl rfl rfl hl.1 rfl (Nat.le_of_ble_eq_true rfl) dX3_digest_82 ⟨Nat.zero_le _, Nat.zero_le _⟩ (fun v_82 u_82 H locs hq hP hD hS => ?_)
                    obtain ⟨rfl, rfl⟩ := hq
                    refine lv_i2l hx hb dX3_digest_85 rfl ?_
                    refine zx_V_v (As := [.long (((zp_who (zm_who s a z p9) 1)).toInt64)]) (rest := []) cf (c_X3_mix l D cI cB r s a z ((31 : Int64) * h2 + (((zp_who (zm_who s a z p9) 0)).toInt64)) (((zp_who (zm_who s a z p9) 1)).toInt64)) (cwV 1 hts gX3_digest_X3_mix rfl rfl rfl ⟨rfl, hd_X3_mix⟩ ⟨Nat.le_of_ble_eq_true rfl, Nat.le_of_ble_eq_true rfl⟩) hK hN hP hD hS hA 0 rfl rfl rfl hl.1 rfl (Nat.le_of_ble_eq_true rfl) dX3_digest_86 ⟨Nat.zero_le _, Nat.zero_le _⟩ (fun v_86 u_86 H locs hq hP hD hS => ?_)
                    subst hq
                    refine lv_iinc (v := nI (p9 + 1)) (lv' := [(1, .int (nI (p9 + 1))), (0, .ref (r 0)), (2, .int (nI i))]) hx hb dX3_digest_89 hl (k := 1) rfl (zx_inc _ _) (by decide) rfl (fun ls hl => ?_)
                    refine lv_goto (tgt := 35) hx hb dX3_digest_92 (by decide) ?_
                    exact ih_35 (p9 + 1) ((31 : Int64) * ((31 : Int64) * h2 + (((zp_who (zm_who s a z p9) 0)).toInt64)) + (((zp_who (zm_who s a z p9) 1)).toInt64)) (by omega) (by omega) (by rw [gh2, show i = 3 by omega, gh]; rfl) _ rfl _ _ hP hD hS ls (lv_sub hl [1, 0] rfl)
                  · refine lv_aload_n hx hb dX3_digest_50 rfl (lv_at hl 0 rfl) ?_
                    refine lv_aload_n hx hb dX3_digest_51 rfl (lv_at hl 0 rfl) ?_
                    refine lv_iload_n hx hb dX3_digest_52 rfl (lv_at hl 1 rfl) ?_
                    refine lv_iload_n hx hb dX3_digest_53 rfl (lv_at hl 2 rfl) ?_
                    refine zx_V_i (As := [.int (nI p9), .int (nI i)]) (rest := [.ref (r 0)]) cf (c_X3_personNow l D cI cB r s a z h2 p9 i hI (by omega) (by omega)) (cwV 2 hts gX3_digest_X3_personNow rfl rfl rfl ⟨rfl, hd_X3_personNow⟩ ⟨Nat.le_of_ble_eq_true rfl, Nat.le_of_ble_eq_true rfl⟩) hK hN hP hD hS hA 0 rfl rfl rfl hl.1 rfl (Nat.le_of_ble_eq_true rfl) dX3_digest_54 ⟨Nat.zero_le _, Nat.zero_le _⟩ (fun v_54 u_54 H locs hq hP hD hS => ?_)
                    obtain ⟨rfl, rfl⟩ := hq
                    refine lv_i2l hx hb dX3_digest_57 rfl ?_
                    refine zx_V_v (As := [.long (((zp_ab (a 6 p9) (a 7 p9) (a 8 p9) i)).toInt64)]) (rest := []) cf (c_X3_mix l D cI cB r s a z h2 (((zp_ab (a 6 p9) (a 7 p9) (a 8 p9) i)).toInt64)) (cwV 1 hts gX3_digest_X3_mix rfl rfl rfl ⟨rfl, hd_X3_mix⟩ ⟨Nat.le_of_ble_eq_true rfl, Nat.le_of_ble_eq_true rfl⟩) hK hN hP hD hS hA 0 rfl rfl rfl hl.1 rfl (Nat.le_of_ble_eq_true rfl) dX3_digest_58 ⟨Nat.zero_le _, Nat.zero_le _⟩ (fun v_58 u_58 H locs hq hP hD hS => ?_)
                    subst hq
                    refine lv_iinc (v := nI (i + 1)) (lv' := [(2, .int (nI (i + 1))), (0, .ref (r 0)), (1, .int (nI p9))]) hx hb dX3_digest_61 hl (k := 2) rfl (zx_inc _ _) (by decide) rfl (fun ls hl => ?_)
                    refine lv_goto (tgt := 45) hx hb dX3_digest_64 (by decide) ?_
                    exact ih_45 (i + 1) ((31 : Int64) * h2 + (((zp_ab (a 6 p9) (a 7 p9) (a 8 p9) i)).toInt64)) (by omega) (by omega) (by rw [gh2]; rfl) _ rfl _ rfl _ _ hP hD hS ls (lv_sub hl [1, 2, 0] rfl)
              exact lp_45 _ 0 hh (Nat.lt_succ_self _) (Nat.zero_le _) rfl _ rfl _ rfl _ _ hP hD hS ls (lv_sub hl [1, 2, 0] rfl)
        exact lp_35 _ 0 hh (Nat.lt_succ_self _) (Nat.zero_le _) (by rw [gh, show i = 9 by omega]; exact (if_neg (by omega)).symm) _ rfl _ _ hP hD hS ls (lv_sub hl [1, 0] rfl)
      · refine lv_aload_n hx hb dX3_digest_15 rfl (lv_at hl 0 rfl) ?_
        refine va_get (D := D) (ci := 3) (v := .int (nI (s 0))) (C := RX3) (T := TX3) (N := 29) hx hb hts hi3 hown hK hP 0 rfl rfl 0 (by decide) k75 (fun _ h9 => h9) rfl dX3_digest_16 ?_
        refine zx_if_eq hx hb (tgt := 33) (by omega) dX3_digest_19 (by decide) (fun c_19 => ?_) (fun c_19 => ?_)
        · refine lv_iconst (v := nI 0) hx hb dX3_digest_33 (by decide) ?_
          refine lv_istore_n (lv' := [(1, .int (nI 0)), (0, .ref (r 0))]) hx hb dX3_digest_34 rfl hl (by decide) rfl (fun ls hl => ?_)
          have lp_35 : ∀ (n_ : Nat) (p9 : Nat) (hh : Int64), s 5 - p9 < n_ → (p9 ≤ s 5) → (hh = zp_fo (zm_mp s a z) (if s 0 = 0 then (853 : Int64) else zp_fo (zm_md s a z) 853 9) p9) → ∀ x1 : Int32, x1 = nI p9 → ∀ (H : Heap) (locs : List Loc), va_P D vwCl ((zm_w cI cB r) (s, a, z, hh)) H → va_D A ((zm_w cI cB r) (s, a, z, hh)) → va_S A st.heap H locs → ∀ ls : Array Slot, lv_has ls 3 [(0, .ref (r 0)), (1, .int x1)] → W p l e rmX3_digest st m args below meth c H locs 0 0 Q (F0 m 35 ls []) := by
            intro n_
            induction n_ with
            | zero => intros; omega
            | succ n_ ih_35 =>
              intro p9 hh hmu_35 hp9 gh
              intro x1 ex1; subst ex1
              intro H locs hP hD hS ls hl
              have hl : lv_has ls 3 [(0, .ref (r 0)), (1, .int (nI p9))] := hl
              refine lv_iload_n hx hb dX3_digest_35 rfl (lv_at hl 1 rfl) ?_
              refine lv_aload_n hx hb dX3_digest_36 rfl (lv_at hl 0 rfl) ?_
              refine va_get (D := D) (ci := 3) (v := .int (nI (s 5))) (C := RX3) (T := TX3) (N := 29) hx hb hts hi3 hown hK hP 0 rfl rfl 5 (by decide) k82 (fun _ h9 => h9) rfl dX3_digest_37 ?_
              refine zx_icmp_ge hx hb (tgt := 95) (by omega) (by omega) dX3_digest_40 (by decide) (fun c_40 => ?_) (fun c_40 => ?_)
              · refine lv_iconst (v := nI 0) hx hb dX3_digest_95 (by decide) ?_
                refine lv_istore_n (lv' := [(1, .int (nI 0)), (0, .ref (r 0))]) hx hb dX3_digest_96 rfl hl (by decide) rfl (fun ls hl => ?_)
                have lp_97 : ∀ (n_ : Nat) (k : Nat) (hh : Int64), s 14 - k < n_ → (k ≤ s 14) → (hh = zp_fo (fun k9 g9 => (31 : Int64) * g9 + (nI (a 15 k9)).toInt64) (zp_fo (zm_mp s a z) (if s 0 = 0 then (853 : Int64) else zp_fo (zm_md s a z) 853 9) (s 5)) k) → ∀ x1 : Int32, x1 = nI k → ∀ (H : Heap) (locs : List Loc), va_P D vwCl ((zm_w cI cB r) (s, a, z, hh)) H → va_D A ((zm_w cI cB r) (s, a, z, hh)) → va_S A st.heap H locs → ∀ ls : Array Slot, lv_has ls 3 [(0, .ref (r 0)), (1, .int x1)] → W p l e rmX3_digest st m args below meth c H locs 0 0 Q (F0 m 97 ls []) := by
                  intro n_
                  induction n_ with
                  | zero => intros; omega
                  | succ n_ ih_97 =>
                    intro k hh hmu_97 hk9 gh
                    intro x1 ex1; subst ex1
                    intro H locs hP hD hS ls hl
                    have hl : lv_has ls 3 [(0, .ref (r 0)), (1, .int (nI k))] := hl
                    refine lv_iload_n hx hb dX3_digest_97 rfl (lv_at hl 1 rfl) ?_
                    refine lv_aload_n hx hb dX3_digest_98 rfl (lv_at hl 0 rfl) ?_
                    refine va_get (D := D) (ci := 3) (v := .int (nI (s 14))) (C := RX3) (T := TX3) (N := 29) hx hb hts hi3 hown hK hP 0 rfl rfl 14 (by decide) k60 (fun _ h9 => h9) rfl dX3_digest_99 ?_
                    refine zx_icmp_ge hx hb (tgt := 122) (by omega) (by omega) dX3_digest_102 (by decide) (fun c_102 => ?_) (fun c_102 => ?_)
                    · refine lv_iconst (v := nI 0) hx hb dX3_digest_122 (by decide) ?_
                      refine lv_istore_n (lv' := [(1, .int (nI 0)), (0, .ref (r 0))]) hx hb dX3_digest_123 rfl hl (by decide) rfl (fun ls hl => ?_)
                      have lp_124 : ∀ (n_ : Nat) (i : Nat) (hh : Int64), 8 - i < n_ → (i ≤ 8) → (hh = zp_fo (fun q9 g9 => (31 : Int64) * g9 + (zs_hm (nI q9) (zm_hm s a z)).toInt64) (zp_fo (fun k9 g9 => (31 : Int64) * g9 + (nI (a 15 k9)).toInt64) (zp_fo (zm_mp s a z) (if s 0 = 0 then (853 : Int64) else zp_fo (zm_md s a z) 853 9) (s 5)) (s 14)) i) → ∀ x1 : Int32, x1 = nI i → ∀ (H : Heap) (locs : List Loc), va_P D vwCl ((zm_w cI cB r) (s, a, z, hh)) H → va_D A ((zm_w cI cB r) (s, a, z, hh)) → va_S A st.heap H locs → ∀ ls : Array Slot, lv_has ls 3 [(0, .ref (r 0)), (1, .int x1)] → W p l e rmX3_digest st m args below meth c H locs 0 0 Q (F0 m 124 ls []) := by
                        intro n_
                        induction n_ with
                        | zero => intros; omega
                        | succ n_ ih_124 =>
                          intro i hh hmu_124 hi9 gh
                          intro x1 ex1; subst ex1
                          intro H locs hP hD hS ls hl
                          have hl : lv_has ls 3 [(0, .ref (r 0)), (1, .int (nI i))] := hl
                          refine lv_iload_n hx hb dX3_digest_124 rfl (lv_at hl 1 rfl) ?_
                          refine lv_bipush (v := nI 8) hx hb dX3_digest_125 (by decide) ?_
                          refine zx_icmp_ge hx hb (tgt := 146) (by omega) (by omega) dX3_digest_127 (by decide) (fun c_127 => ?_) (fun c_127 => ?_)
                          · refine lv_aload_n hx hb dX3_digest_146 rfl (lv_at hl 0 rfl) ?_
                            refine va_get (D := D) (ci := 3) (v := .long hh) (C := RX3) (T := TX3) (N := 29) hx hb hts hi3 hown hK hP 0 rfl rfl 28 (by decide) k213 (fun _ h9 => h9) rfl dX3_digest_147 ?_
                            exact hret _ _ _ _ _ _ hP hD hS dX3_digest_150 ⟨by rw [gh, show i = 8 by omega]; rfl, rfl⟩
                          · refine lv_aload_n hx hb dX3_digest_130 rfl (lv_at hl 0 rfl) ?_
                            refine lv_aload_n hx hb dX3_digest_131 rfl (lv_at hl 0 rfl) ?_
                            refine lv_iload_n hx hb dX3_digest_132 rfl (lv_at hl 1 rfl) ?_
                            refine zx_V_i (As := [.int (nI i)]) (rest := [.ref (r 0)]) cf (c_X3_howMany l D cI cB r s a z hh (nI i) hI ) (cwV 1 hts gX3_digest_X3_howMany rfl rfl rfl ⟨rfl, hd_X3_howMany⟩ ⟨Nat.le_of_ble_eq_true rfl, Nat.le_of_ble_eq_true rfl⟩) hK hN hP hD hS hA 0 rfl rfl rfl hl.1 rfl (Nat.le_of_ble_eq_true rfl) dX3_digest_133 ⟨Nat.zero_le _, Nat.zero_le _⟩ (fun v_133 u_133 H locs hq hP hD hS => ?_)
                            obtain ⟨rfl, rfl⟩ := hq
                            refine lv_i2l hx hb dX3_digest_136 rfl ?_
                            refine zx_V_v (As := [.long (((zs_hm (nI i) (zm_hm s a z))).toInt64)]) (rest := []) cf (c_X3_mix l D cI cB r s a z hh (((zs_hm (nI i) (zm_hm s a z))).toInt64)) (cwV 1 hts gX3_digest_X3_mix rfl rfl rfl ⟨rfl, hd_X3_mix⟩ ⟨Nat.le_of_ble_eq_true rfl, Nat.le_of_ble_eq_true rfl⟩) hK hN hP hD hS hA 0 rfl rfl rfl hl.1 rfl (Nat.le_of_ble_eq_true rfl) dX3_digest_137 ⟨Nat.zero_le _, Nat.zero_le _⟩ (fun v_137 u_137 H locs hq hP hD hS => ?_)
                            subst hq
                            refine lv_iinc (v := nI (i + 1)) (lv' := [(1, .int (nI (i + 1))), (0, .ref (r 0))]) hx hb dX3_digest_140 hl (k := 1) rfl (zx_inc _ _) (by decide) rfl (fun ls hl => ?_)
                            refine lv_goto (tgt := 124) hx hb dX3_digest_143 (by decide) ?_
                            exact ih_124 (i + 1) ((31 : Int64) * hh + (((zs_hm (nI i) (zm_hm s a z))).toInt64)) (by omega) (by omega) (by rw [gh]; rfl) _ rfl _ _ hP hD hS ls (lv_sub hl [1, 0] rfl)
                      exact lp_124 _ 0 hh (Nat.lt_succ_self _) (Nat.zero_le _) (by rw [gh, show k = s 14 by omega]; rfl) _ rfl _ _ hP hD hS ls (lv_sub hl [1, 0] rfl)
                    · refine lv_aload_n hx hb dX3_digest_105 rfl (lv_at hl 0 rfl) ?_
                      refine lv_aload_n hx hb dX3_digest_106 rfl (lv_at hl 0 rfl) ?_
                      refine va_get (D := D) (ci := 3) (v := .ref (r 15)) (C := RX3) (T := TX3) (N := 29) hx hb hts hi3 hown hK hP 0 rfl rfl 15 (by decide) k34 (fun _ h9 => h9) rfl dX3_digest_107 ?_
                      refine lv_iload_n hx hb dX3_digest_110 rfl (lv_at hl 1 rfl) ?_
                      refine zx_bld (f := a 15) (n := 12) hx hb hK hP 9 1 rfl rfl (by omega) (by decide) dX3_digest_111 ?_
                      refine lv_i2l hx hb dX3_digest_112 rfl ?_
                      refine zx_V_v (As := [.long ((nI ((a 15) k)).toInt64)]) (rest := []) cf (c_X3_mix l D cI cB r s a z hh ((nI ((a 15) k)).toInt64)) (cwV 1 hts gX3_digest_X3_mix rfl rfl rfl ⟨rfl, hd_X3_mix⟩ ⟨Nat.le_of_ble_eq_true rfl, Nat.le_of_ble_eq_true rfl⟩) hK hN hP hD hS hA 0 rfl rfl rfl hl.1 rfl (Nat.le_of_ble_eq_true rfl) dX3_digest_113 ⟨Nat.zero_le _, Nat.zero_le _⟩ (fun v_113 u_113 H locs hq hP hD hS => ?_)
                      subst hq
                      refine lv_iinc (v := nI (k + 1)) (lv' := [(1, .int (nI (k + 1))), (0, .ref (r 0))]) hx hb dX3_digest_116 hl (k := 1) rfl (zx_inc _ _) (by decide) rfl (fun ls hl => ?_)
                      refine lv_goto (tgt := 97) hx hb dX3_digest_119 (by decide) ?_
                      exact ih_97 (k + 1) ((31 : Int64) * hh + ((nI ((a 15) k)).toInt64)) (by omega) (by omega) (by rw [gh]; rfl) _ rfl _ _ hP hD hS ls (lv_sub hl [1, 0] rfl)
                exact lp_97 _ 0 hh (Nat.lt_succ_self _) (Nat.zero_le _) (by rw [gh, show p9 = s 5 by omega]; rfl) _ rfl _ _ hP hD hS ls (lv_sub hl [1, 0] rfl)
              · refine lv_iconst (v := nI 0) hx hb dX3_digest_43 (by decide) ?_
                refine lv_istore_n (lv' := [(2, .int (nI 0)), (0, .ref (r 0)), (1, .int (nI p9))]) hx hb dX3_digest_44 rfl hl (by decide) rfl (fun ls hl => ?_)
                have lp_45 : ∀ (n_ : Nat) (i : Nat) (h2 : Int64), 3 - i < n_ → (i ≤ 3) → (h2 = zp_fo (fun q9 g9 => (31 : Int64) * g9 + (zp_ab (a 6 p9) (a 7 p9) (a 8 p9) q9).toInt64) hh i) → ∀ x1 : Int32, x1 = nI p9 → ∀ x2 : Int32, x2 = nI i → ∀ (H : Heap) (locs : List Loc), va_P D vwCl ((zm_w cI cB r) (s, a, z, h2)) H → va_D A ((zm_w cI cB r) (s, a, z, h2)) → va_S A st.heap H locs → ∀ ls : Array Slot, lv_has ls 3 [(0, .ref (r 0)), (1, .int x1), (2, .int x2)] → W p l e rmX3_digest st m args below meth c H locs 0 0 Q (F0 m 45 ls []) := by
                  intro n_
                  induction n_ with
                  | zero => intros; omega
                  | succ n_ ih_45 =>
                    intro i h2 hmu_45 hi9 gh2
                    intro x1 ex1; subst ex1
                    intro x2 ex2; subst ex2
                    intro H locs hP hD hS ls hl
                    have hl : lv_has ls 3 [(0, .ref (r 0)), (1, .int (nI p9)), (2, .int (nI i))] := hl
                    refine lv_iload_n hx hb dX3_digest_45 rfl (lv_at hl 2 rfl) ?_
                    refine lv_iconst (v := nI 3) hx hb dX3_digest_46 (by decide) ?_
                    refine zx_icmp_ge hx hb (tgt := 67) (by omega) (by omega) dX3_digest_47 (by decide) (fun c_47 => ?_) (fun c_47 => ?_)
                    · refine lv_aload_n hx hb dX3_digest_67 rfl (lv_at hl 0 rfl) ?_
                      refine lv_aload_n hx hb dX3_digest_68 rfl (lv_at hl 0 rfl) ?_
                      refine lv_iload_n hx hb dX3_digest_69 rfl (lv_at hl 1 rfl) ?_
                      refine lv_iconst (v := nI 0) hx hb dX3_digest_70 (by decide) ?_
                      refine zx_V_i (As := [.int (nI p9), .int (nI 0)]) (rest := [.ref (r 0)]) cf (c_X3_whoNow l D cI cB r s a z h2 p9 0 hI (by omega) (by omega)) (cwV 2 hts gX3_digest_X3_whoNow rfl rfl rfl ⟨rfl, hd_X3_whoNow⟩ ⟨Nat.le_of_ble_eq_true rfl, Nat.le_of_ble_eq_true rfl⟩) hK hN hP hD hS hA 0 rfl rfl rfl hl.1 rfl (Nat.le_of_ble_eq_true rfl) dX3_digest_71 ⟨Nat.zero_le _, Nat.zero_le _⟩ (fun v_71 u_71 H locs hq hP hD hS => ?_)
                      obtain ⟨rfl, rfl⟩ := hq
                      refine lv_i2l hx hb dX3_digest_74 rfl ?_
                      refine zx_V_v (As := [.long (((zp_who (zm_who s a z p9) 0)).toInt64)]) (rest := []) cf (c_X3_mix l D cI cB r s a z h2 (((zp_who (zm_who s a z p9) 0)).toInt64)) (cwV 1 hts gX3_digest_X3_mix rfl rfl rfl ⟨rfl, hd_X3_mix⟩ ⟨Nat.le_of_ble_eq_true rfl, Nat.le_of_ble_eq_true rfl⟩) hK hN hP hD hS hA 0 rfl rfl rfl hl.1 rfl (Nat.le_of_ble_eq_true rfl) dX3_digest_75 ⟨Nat.zero_le _, Nat.zero_le _⟩ (fun v_75 u_75 H locs hq hP hD hS => ?_)
                      subst hq
                      refine lv_aload_n hx hb dX3_digest_78 rfl (lv_at hl 0 rfl) ?_
                      refine lv_aload_n hx hb dX3_digest_79 rfl (lv_at hl 0 rfl) ?_
                      refine lv_iload_n hx hb dX3_digest_80 rfl (lv_at hl 1 rfl) ?_
                      refine lv_iconst (v := nI 1) hx hb dX3_digest_81 (by decide) ?_
                      refine zx_V_i (As := [.int (nI p9), .int (nI 1)]) (rest := [.ref (r 0)]) cf (c_X3_whoNow l D cI cB r s a z ((31 : Int64) * h2 + (((zp_who (zm_who s a z p9) 0)).toInt64)) p9 1 hI (by omega) (by omega)) (cwV 2 hts gX3_digest_X3_whoNow rfl rfl rfl ⟨rfl, hd_X3_whoNow⟩ ⟨Nat.le_of_ble_eq_true rfl, Nat.le_of_ble_eq_true rfl⟩) hK hN hP hD hS hA 0 rfl rfl rfl hl.1 rfl (Nat.le_of_ble_eq_true rfl) dX3_digest_82 ⟨Nat.zero_le _, Nat.zero_le _⟩ (fun v_82 u_82 H locs hq hP hD hS => ?_)
                      obtain ⟨rfl, rfl⟩ := hq
                      refine lv_i2l hx hb dX3_digest_85 rfl ?_
                      refine zx_V_v (As := [.long (((zp_who (zm_who s a z p9) 1)).toInt64)]) (rest := []) cf (c_X3_mix l D cI cB r s a z ((31 : Int64) * h2 + (((zp_who (zm_who s a z p9) 0)).toInt64)) (((zp_who (zm_who s a z p9) 1)).toInt64)) (cwV 1 hts gX3_digest_X3_mix rfl rfl rfl ⟨rfl, hd_X3_mix⟩ ⟨Nat.le_of_ble_eq_true rfl, Nat.le_of_ble_eq_true rfl⟩) hK hN hP hD hS hA 0 rfl rfl rfl hl.1 rfl (Nat.le_of_ble_eq_true rfl) dX3_digest_86 ⟨Nat.zero_le _, Nat.zero_le _⟩ (fun v_86 u_86 H locs hq hP hD hS => ?_)
                      subst hq
                      refine lv_iinc (v := nI (p9 + 1)) (lv' := [(1, .int (nI (p9 + 1))), (0, .ref (r 0)), (2, .int (nI i))]) hx hb dX3_digest_89 hl (k := 1) rfl (zx_inc _ _) (by decide) rfl (fun ls hl => ?_)
                      refine lv_goto (tgt := 35) hx hb dX3_digest_92 (by decide) ?_
                      exact ih_35 (p9 + 1) ((31 : Int64) * ((31 : Int64) * h2 + (((zp_who (zm_who s a z p9) 0)).toInt64)) + (((zp_who (zm_who s a z p9) 1)).toInt64)) (by omega) (by omega) (by rw [gh2, show i = 3 by omega, gh]; rfl) _ rfl _ _ hP hD hS ls (lv_sub hl [1, 0] rfl)
                    · refine lv_aload_n hx hb dX3_digest_50 rfl (lv_at hl 0 rfl) ?_
                      refine lv_aload_n hx hb dX3_digest_51 rfl (lv_at hl 0 rfl) ?_
                      refine lv_iload_n hx hb dX3_digest_52 rfl (lv_at hl 1 rfl) ?_
                      refine lv_iload_n hx hb dX3_digest_53 rfl (lv_at hl 2 rfl) ?_
                      refine zx_V_i (As := [.int (nI p9), .int (nI i)]) (rest := [.ref (r 0)]) cf (c_X3_personNow l D cI cB r s a z h2 p9 i hI (by omega) (by omega)) (cwV 2 hts gX3_digest_X3_personNow rfl rfl rfl ⟨rfl, hd_X3_personNow⟩ ⟨Nat.le_of_ble_eq_true rfl, Nat.le_of_ble_eq_true rfl⟩) hK hN hP hD hS hA 0 rfl rfl rfl hl.1 rfl (Nat.le_of_ble_eq_true rfl) dX3_digest_54 ⟨Nat.zero_le _, Nat.zero_le _⟩ (fun v_54 u_54 H locs hq hP hD hS => ?_)
                      obtain ⟨rfl, rfl⟩ := hq
                      refine lv_i2l hx hb dX3_digest_57 rfl ?_
                      refine zx_V_v (As := [.long (((zp_ab (a 6 p9) (a 7 p9) (a 8 p9) i)).toInt64)]) (rest := []) cf (c_X3_mix l D cI cB r s a z h2 (((zp_ab (a 6 p9) (a 7 p9) (a 8 p9) i)).toInt64)) (cwV 1 hts gX3_digest_X3_mix rfl rfl rfl ⟨rfl, hd_X3_mix⟩ ⟨Nat.le_of_ble_eq_true rfl, Nat.le_of_ble_eq_true rfl⟩) hK hN hP hD hS hA 0 rfl rfl rfl hl.1 rfl (Nat.le_of_ble_eq_true rfl) dX3_digest_58 ⟨Nat.zero_le _, Nat.zero_le _⟩ (fun v_58 u_58 H locs hq hP hD hS => ?_)
                      subst hq
                      refine lv_iinc (v := nI (i + 1)) (lv' := [(2, .int (nI (i + 1))), (0, .ref (r 0)), (1, .int (nI p9))]) hx hb dX3_digest_61 hl (k := 2) rfl (zx_inc _ _) (by decide) rfl (fun ls hl => ?_)
                      refine lv_goto (tgt := 45) hx hb dX3_digest_64 (by decide) ?_
                      exact ih_45 (i + 1) ((31 : Int64) * h2 + (((zp_ab (a 6 p9) (a 7 p9) (a 8 p9) i)).toInt64)) (by omega) (by omega) (by rw [gh2]; rfl) _ rfl _ rfl _ _ hP hD hS ls (lv_sub hl [1, 2, 0] rfl)
                exact lp_45 _ 0 hh (Nat.lt_succ_self _) (Nat.zero_le _) rfl _ rfl _ rfl _ _ hP hD hS ls (lv_sub hl [1, 2, 0] rfl)
          exact lp_35 _ 0 hh (Nat.lt_succ_self _) (Nat.zero_le _) (by rw [gh, show i = 0 by omega]; exact (if_pos c_19).symm) _ rfl _ _ hP hD hS ls (lv_sub hl [1, 0] rfl)
        · refine lv_aload_n hx hb dX3_digest_22 rfl (lv_at hl 0 rfl) ?_
          refine lv_iload_n hx hb dX3_digest_23 rfl (lv_at hl 1 rfl) ?_
          refine zx_V_v (As := [.int (nI i)]) (rest := []) cf (c_X3_mixDrawer l D cI cB r s a z hh i hI (by omega)) (cwV 1 hts gX3_digest_X3_mixDrawer rfl rfl rfl ⟨rfl, hd_X3_mixDrawer⟩ ⟨Nat.le_of_ble_eq_true rfl, Nat.le_of_ble_eq_true rfl⟩) hK hN hP hD hS hA 0 rfl rfl rfl hl.1 rfl (Nat.le_of_ble_eq_true rfl) dX3_digest_24 ⟨Nat.zero_le _, Nat.zero_le _⟩ (fun v_24 u_24 H locs hq hP hD hS => ?_)
          subst hq
          refine lv_iinc (v := nI (i + 1)) (lv' := [(1, .int (nI (i + 1))), (0, .ref (r 0))]) hx hb dX3_digest_27 hl (k := 1) rfl (zx_inc _ _) (by decide) rfl (fun ls hl => ?_)
          refine lv_goto (tgt := 9) hx hb dX3_digest_30 (by decide) ?_
          exact ih_9 (i + 1) (zm_md s a z i hh) (by omega) (by omega) (Or.inr c_19) (by rw [gh]; rfl) _ rfl _ _ hP hD hS ls (lv_sub hl [1, 0] rfl)
  exact lp_9 _ 0 853 (Nat.lt_succ_self _) (Nat.zero_le _) (Or.inl rfl) rfl _ rfl _ _ hP hD hS ls (lv_sub hl [1, 0] rfl)
