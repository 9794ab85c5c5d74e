set_option maxHeartbeats 4000000 in
set_option maxRecDepth 100000 in
theorem c_X2_digest (l : Launch) (D : va_G) (cI cB : ClassId) (r : Nat → Nat) (s : Nat → Nat) (a : Nat → Nat → Nat) (z : Nat → Int) (ah : Int) (hI : zy_I s a z) : zx_C zx_el l D (zm_t cI cB) (zy_w cI r) yX2_digest wsX2_digest rmX2_digest [.ref (r 1)] (s, a, z, ah) (fun v u' => v = zy_dig s a z ∧ ∃ (y9 : Nat → Nat) (w9 : Int), u' = (y9, a, z, w9) ∧ ∀ k, k < 31 → y9 k = s k) := by
  refine zx_of_l (cc := cX2_digest) (maxL := 4) (by decide) rfl (Nat.le_of_ble_eq_true rfl) ?_
  intro p e st m args below meth c A Q H cf hK hN hP hD hS hA hret ls hl
  obtain ⟨hx, hb, hml, hown, hts⟩ := id cf
  have hi2 : ∀ w ∈ wsX20, w ∈ wsX2_digest := fun w h => List.mem_cons_of_mem _ (List.mem_append_left _ (List.mem_append_left _ (List.mem_append_right _ h)))
  have hi1 : ∀ w ∈ wsX10, w ∈ wsX2_digest := fun w h => List.mem_cons_of_mem _ (List.mem_append_left _ (List.mem_append_right _ h))
  have k49 := hts (.fieldLink RX2 49 "NineDrawers" "hasChest" "Z") (List.mem_of_getElem? (i := 2) (by decide +kernel))
  have k19 := hts (.fieldLink RX2 19 "NineDrawers" "hall" "LNineDrawers$Hall;") (List.mem_of_getElem? (i := 3) (by decide +kernel))
  have k94 := hts (.fieldLink RX2 94 "NineDrawers$Hall" "people" "I") (List.mem_of_getElem? (i := 4) (by decide +kernel))
  have k33 := hts (.fieldLink RX2 33 "NineDrawers" "pageLength" "I") (List.mem_of_getElem? (i := 5) (by decide +kernel))
  have k9 := hts (.fieldLink RX2 9 "NineDrawers" "page" "[I") (List.mem_of_getElem? (i := 6) (by decide +kernel))
  have hl : lv_has ls 4 [(0, .ref (r 1))] := hl
  have hP : va_P D vwCl ((zy_w cI r) (s, a, z, ah)) H := hP
  have hD : va_D A ((zy_w cI r) (s, a, z, ah)) := hD
  obtain ⟨⟨i1, i2, i5, i7, i8, i10, i11, i12⟩, ⟨i20, i21, i22⟩, iG, iP, iL, iZ, jP, jL⟩ := id hI
  refine lv_ldc2 (v := 853) hx hb hown (hts (.constantLong RX2 193 (853)) (List.mem_of_getElem? (i := 1) (by decide +kernel))) dX2_digest_0 ?_
  refine lv_lstore_n (lv' := [(1, .long (853 : Int64)), (0, .ref (r 1))]) hx hb dX2_digest_3 rfl hl (by decide) rfl (fun ls hl => ?_)
  refine lv_aload_n hx hb dX2_digest_4 rfl (lv_at hl 1 rfl) ?_
  refine va_get (D := D) (ci := 2) (v := .int (nI (s 2))) (C := RX2) (T := TX2) (N := 10) hx hb hts hi2 hown hK hP 0 rfl rfl 2 (by decide) k49 (fun _ h9 => h9) rfl dX2_digest_5 ?_
  refine zx_if_eq hx hb (tgt := 32) (by omega) dX2_digest_8 (by decide) (fun c_8 => ?_) (fun c_8 => ?_)
  · refine lv_iconst (v := nI 0) hx hb dX2_digest_32 (by decide) ?_
    refine lv_istore_n (lv' := [(3, .int (nI 0)), (1, .long (853 : Int64)), (0, .ref (r 1))]) hx hb dX2_digest_33 rfl hl (by decide) rfl (fun ls hl => ?_)
    have lp_34 : ∀ (n_ : Nat) (p9 : Nat) (hh : Int64) (y9 : Nat → Nat) (w9 : Int), s 11 - p9 < n_ → (p9 ≤ s 11) → (hh = zp_fo (zy_mp s a z) (if s 2 = 0 then (853 : Int64) else zp_fo (zy_md s a z) 853 9) p9) → (∀ k, k < 31 → y9 k = s k) → (y9 11 = s 11) → ∀ x1 : Int64, x1 = hh → ∀ x3 : Int32, x3 = nI p9 → ∀ (H : Heap) (locs : List Loc), va_P D vwCl ((zy_w cI r) (y9, a, z, w9)) H → va_D A ((zy_w cI r) (y9, a, z, w9)) → va_S A st.heap H locs → ∀ ls : Array Slot, lv_has ls 4 [(0, .ref (r 1)), (1, .long x1), (3, .int x3)] → W p l e rmX2_digest st m args below meth c H locs 0 0 Q (F0 m 34 ls []) := by
      intro n_
      induction n_ with
      | zero => intros; omega
      | succ n_ ih_34 =>
        intro p9 hh y9 w9 hmu_34 hp9 gh gy g11
        intro x1 ex1; subst x1
        intro x3 ex3; subst ex3
        intro H locs hP hD hS ls hl
        have hl : lv_has ls 4 [(0, .ref (r 1)), (1, .long hh), (3, .int (nI p9))] := hl
        refine lv_iload_n hx hb dX2_digest_34 rfl (lv_at hl 2 rfl) ?_
        refine lv_aload_n hx hb dX2_digest_35 rfl (lv_at hl 0 rfl) ?_
        refine va_get (D := D) (ci := 2) (v := .ref (r 10)) (C := RX2) (T := TX2) (N := 10) hx hb hts hi2 hown hK hP 0 rfl rfl 4 (by decide) k19 (fun _ h9 => h9) rfl dX2_digest_36 ?_
        refine va_get (D := D) (ci := 1) (v := .int (nI (y9 11))) (C := RX1) (T := TX1) (N := 9) hx hb hts hi1 hown hK hP 3 rfl rfl 1 (by decide) k94 (fun _ h9 => h9) rfl dX2_digest_39 ?_
        refine zx_icmp_ge hx hb (tgt := 58) (by omega) (by have := gy 11 (by decide); omega) dX2_digest_42 (by decide) (fun c_42 => ?_) (fun c_42 => ?_)
        · refine lv_iconst (v := nI 0) hx hb dX2_digest_58 (by decide) ?_
          refine lv_istore_n (lv' := [(3, .int (nI 0)), (0, .ref (r 1)), (1, .long hh)]) hx hb dX2_digest_59 rfl hl (by decide) rfl (fun ls hl => ?_)
          have lp_60 : ∀ (n_ : Nat) (k : Nat) (hh : Int64) (y9 : Nat → Nat) (w9 : Int), s 1 - k < n_ → (k ≤ s 1) → (hh = zp_fo (fun k9 g9 => (31 : Int64) * g9 + (nI (a 0 k9)).toInt64) (zp_fo (zy_mp s a z) (if s 2 = 0 then (853 : Int64) else zp_fo (zy_md s a z) 853 9) (s 11)) k) → (∀ k, k < 31 → y9 k = s k) → (y9 1 = s 1) → ∀ x1 : Int64, x1 = hh → ∀ x3 : Int32, x3 = nI k → ∀ (H : Heap) (locs : List Loc), va_P D vwCl ((zy_w cI r) (y9, a, z, w9)) H → va_D A ((zy_w cI r) (y9, a, z, w9)) → va_S A st.heap H locs → ∀ ls : Array Slot, lv_has ls 4 [(0, .ref (r 1)), (1, .long x1), (3, .int x3)] → W p l e rmX2_digest st m args below meth c H locs 0 0 Q (F0 m 60 ls []) := by
            intro n_
            induction n_ with
            | zero => intros; omega
            | succ n_ ih_60 =>
              intro k hh y9 w9 hmu_60 hk9 gh gy g1
              intro x1 ex1; subst x1
              intro x3 ex3; subst ex3
              intro H locs hP hD hS ls hl
              have hl : lv_has ls 4 [(0, .ref (r 1)), (1, .long hh), (3, .int (nI k))] := hl
              refine lv_iload_n hx hb dX2_digest_60 rfl (lv_at hl 2 rfl) ?_
              refine lv_aload_n hx hb dX2_digest_61 rfl (lv_at hl 0 rfl) ?_
              refine va_get (D := D) (ci := 2) (v := .int (nI (y9 1))) (C := RX2) (T := TX2) (N := 10) hx hb hts hi2 hown hK hP 0 rfl rfl 1 (by decide) k33 (fun _ h9 => h9) rfl dX2_digest_62 ?_
              refine zx_icmp_ge hx hb (tgt := 97) (by omega) (by have := gy 1 (by decide); omega) dX2_digest_65 (by decide) (fun c_65 => ?_) (fun c_65 => ?_)
              · refine lv_iconst (v := nI 0) hx hb dX2_digest_97 (by decide) ?_
                refine lv_istore_n (lv' := [(3, .int (nI 0)), (0, .ref (r 1)), (1, .long hh)]) hx hb dX2_digest_98 rfl hl (by decide) rfl (fun ls hl => ?_)
                have lp_99 : ∀ (n_ : Nat) (i : Nat) (hh : Int64) (y9 : Nat → Nat) (w9 : Int), 8 - i < n_ → (i ≤ 8) → (hh = zp_fo (fun q9 g9 => (31 : Int64) * g9 + (zs_hm (nI q9) (zy_hm s a z)).toInt64) (zp_fo (fun k9 g9 => (31 : Int64) * g9 + (nI (a 0 k9)).toInt64) (zp_fo (zy_mp s a z) (if s 2 = 0 then (853 : Int64) else zp_fo (zy_md s a z) 853 9) (s 11)) (s 1)) i) → (∀ k, k < 31 → y9 k = s k) → ∀ x1 : Int64, x1 = hh → ∀ x3 : Int32, x3 = nI i → ∀ (H : Heap) (locs : List Loc), va_P D vwCl ((zy_w cI r) (y9, a, z, w9)) H → va_D A ((zy_w cI r) (y9, a, z, w9)) → va_S A st.heap H locs → ∀ ls : Array Slot, lv_has ls 4 [(0, .ref (r 1)), (1, .long x1), (3, .int x3)] → W p l e rmX2_digest st m args below meth c H locs 0 0 Q (F0 m 99 ls []) := by
                  intro n_
                  induction n_ with
                  | zero => intros; omega
                  | succ n_ ih_99 =>
                    intro i hh y9 w9 hmu_99 hi9 gh gy
                    intro x1 ex1; subst x1
                    intro x3 ex3; subst ex3
                    intro H locs hP hD hS ls hl
                    have hl : lv_has ls 4 [(0, .ref (r 1)), (1, .long hh), (3, .int (nI i))] := hl
                    refine lv_iload_n hx hb dX2_digest_99 rfl (lv_at hl 2 rfl) ?_
                    refine lv_bipush (v := nI 7) hx hb dX2_digest_100 (by decide) ?_
                    refine zx_icmp_gt hx hb (tgt := 124) (by omega) (by omega) dX2_digest_102 (by decide) (fun c_102 => ?_) (fun c_102 => ?_)
                    · refine lv_lload_n hx hb dX2_digest_124 rfl (lv_at hl 1 rfl) ?_
                      exact hret _ _ _ _ _ _ hP hD hS dX2_digest_125 ⟨by rw [gh, show i = 8 by omega]; rfl, y9, w9, rfl, gy⟩
                    · refine lv_ldc2 (v := 31) hx hb hown (hts (.constantLong RX2 202 (31)) (List.mem_of_getElem? (i := 7) (by decide +kernel))) dX2_digest_105 ?_
                      refine lv_lload_n hx hb dX2_digest_108 rfl (lv_at hl 1 rfl) ?_
                      refine lv_lmul hx hb dX2_digest_109 ?_
                      refine lv_aload_n hx hb dX2_digest_110 rfl (lv_at hl 0 rfl) ?_
                      refine lv_iload_n hx hb dX2_digest_111 rfl (lv_at hl 2 rfl) ?_
                      refine zx_V_i (As := [.int (nI i)]) (rest := [.long ((31 : Int64) * hh)]) cf (c_X2_count l D cI cB r y9 a z w9 (nI i) (zy_I_y hI gy) ) (cwV 1 hts gX2_digest_X2_count rfl rfl rfl ⟨rfl, hd_X2_count⟩ ⟨Nat.le_of_ble_eq_true rfl, Nat.le_of_ble_eq_true rfl⟩) hK hN hP hD hS hA 0 rfl rfl rfl hl.1 rfl (Nat.le_of_ble_eq_true rfl) dX2_digest_112 ⟨Nat.zero_le _, Nat.zero_le _⟩ (fun v_112 u_112 H locs hq hP hD hS => ?_)
                      obtain ⟨rfl, y_112, w_112, rfl, gy_112⟩ := hq
                      refine zx_topi (y := (zs_hm (nI i) (zy_hm s a z))) ((by rw [zy_hm_y gy])) ?_
                      refine lv_i2l hx hb dX2_digest_115 rfl ?_
                      refine lv_ladd hx hb dX2_digest_116 ?_
                      refine lv_lstore_n (lv' := [(1, .long (((31 : Int64) * hh) + (((zs_hm (nI i) (zy_hm s a z))).toInt64))), (0, .ref (r 1)), (3, .int (nI i))]) hx hb dX2_digest_117 rfl hl (by decide) rfl (fun ls hl => ?_)
                      refine lv_iinc (v := nI (i + 1)) (lv' := [(3, .int (nI (i + 1))), (1, .long (((31 : Int64) * hh) + (((zs_hm (nI i) (zy_hm s a z))).toInt64))), (0, .ref (r 1))]) hx hb dX2_digest_118 hl (k := 2) rfl (zx_inc _ _) (by decide) rfl (fun ls hl => ?_)
                      refine lv_goto (tgt := 99) hx hb dX2_digest_121 (by decide) ?_
                      exact ih_99 (i + 1) (((31 : Int64) * hh) + (((zs_hm (nI i) (zy_hm s a z))).toInt64)) y_112 w_112 (by omega) (by omega) (by rw [gh]; rfl) (fun k hk => (gy_112 k hk).trans (gy k hk)) _ (by first | rfl | (congr 1; omega)) _ rfl _ _ hP hD hS ls (lv_sub hl [2, 1, 0] rfl)
                exact lp_99 _ 0 hh y9 w9 (Nat.lt_succ_self _) (Nat.zero_le _) (by rw [gh, show k = s 1 by have := gy 1 (by decide); omega]; rfl) gy _ rfl _ rfl _ _ hP hD hS ls (lv_sub hl [1, 2, 0] rfl)
              · refine lv_iload_n hx hb dX2_digest_68 rfl (lv_at hl 2 rfl) ?_
                refine lv_aload_n hx hb dX2_digest_69 rfl (lv_at hl 0 rfl) ?_
                refine va_get (D := D) (ci := 2) (v := .ref (r 0)) (C := RX2) (T := TX2) (N := 10) hx hb hts hi2 hown hK hP 0 rfl rfl 0 (by decide) k9 (fun _ h9 => h9) rfl dX2_digest_70 ?_
                refine va_alen (v := nI 12) hx hb hK hP 1 0 rfl rfl rfl dX2_digest_73 ?_
                refine zx_icmp_ge hx hb (tgt := 97) (by omega) (by omega) dX2_digest_74 (by decide) (fun c_74 => ?_) (fun c_74 => ?_)
                · exact absurd i1 (by have := gy 1 (by decide); omega)
                · refine lv_ldc2 (v := 31) hx hb hown (hts (.constantLong RX2 202 (31)) (List.mem_of_getElem? (i := 7) (by decide +kernel))) dX2_digest_77 ?_
                  refine lv_lload_n hx hb dX2_digest_80 rfl (lv_at hl 1 rfl) ?_
                  refine lv_lmul hx hb dX2_digest_81 ?_
                  refine lv_aload_n hx hb dX2_digest_82 rfl (lv_at hl 0 rfl) ?_
                  refine va_get (D := D) (ci := 2) (v := .ref (r 0)) (C := RX2) (T := TX2) (N := 10) hx hb hts hi2 hown hK hP 0 rfl rfl 0 (by decide) k9 (fun _ h9 => h9) rfl dX2_digest_83 ?_
                  refine lv_iload_n hx hb dX2_digest_86 rfl (lv_at hl 2 rfl) ?_
                  refine zx_ald (f := a 0) (n := 12) hx hb hK hP 1 0 rfl rfl (by omega) (by decide) dX2_digest_87 ?_
                  refine lv_i2l hx hb dX2_digest_88 rfl ?_
                  refine lv_ladd hx hb dX2_digest_89 ?_
                  refine lv_lstore_n (lv' := [(1, .long (((31 : Int64) * hh) + ((nI ((a 0) k)).toInt64))), (0, .ref (r 1)), (3, .int (nI k))]) hx hb dX2_digest_90 rfl hl (by decide) rfl (fun ls hl => ?_)
                  refine lv_iinc (v := nI (k + 1)) (lv' := [(3, .int (nI (k + 1))), (1, .long (((31 : Int64) * hh) + ((nI ((a 0) k)).toInt64))), (0, .ref (r 1))]) hx hb dX2_digest_91 hl (k := 2) rfl (zx_inc _ _) (by decide) rfl (fun ls hl => ?_)
                  refine lv_goto (tgt := 60) hx hb dX2_digest_94 (by decide) ?_
                  exact ih_60 (k + 1) (((31 : Int64) * hh) + ((nI ((a 0) k)).toInt64)) y9 w9 (by omega) (by omega) (by rw [gh]; rfl) gy g1 _ (by first | rfl | (congr 1; omega)) _ rfl _ _ hP hD hS ls (lv_sub hl [2, 1, 0] rfl)
          exact lp_60 _ 0 hh y9 w9 (Nat.lt_succ_self _) (Nat.zero_le _) (by rw [gh, show p9 = s 11 by have := gy 11 (by decide); omega]; rfl) gy (gy 1 (by decide)) _ rfl _ rfl _ _ hP hD hS ls (lv_sub hl [1, 2, 0] rfl)
        · refine lv_aload_n hx hb dX2_digest_45 rfl (lv_at hl 0 rfl) ?_
          refine lv_lload_n hx hb dX2_digest_46 rfl (lv_at hl 1 rfl) ?_
          refine lv_iload_n hx hb dX2_digest_47 rfl (lv_at hl 2 rfl) ?_
          refine zx_V_l (As := [.long hh, .int (nI p9)]) (rest := []) cf (c_X2_digestOfPerson l D cI cB r y9 a z w9 hh p9 (zy_I_y hI gy) (by omega)) (cwV 2 hts gX2_digest_X2_digestOfPerson rfl rfl rfl ⟨rfl, hd_X2_digestOfPerson⟩ ⟨Nat.le_of_ble_eq_true rfl, Nat.le_of_ble_eq_true rfl⟩) hK hN hP hD hS hA 0 rfl rfl rfl hl.1 rfl (Nat.le_of_ble_eq_true rfl) dX2_digest_48 ⟨Nat.zero_le _, Nat.zero_le _⟩ (fun v_48 u_48 H locs hq hP hD hS => ?_)
          obtain ⟨rfl, y_48, w_48, rfl, gy_48⟩ := hq
          refine zx_topl (y := zy_mp s a z p9 hh) ((zy_mp_y gy)) ?_
          refine lv_lstore_n (lv' := [(1, .long (zy_mp s a z p9 hh)), (0, .ref (r 1)), (3, .int (nI p9))]) hx hb dX2_digest_51 rfl hl (by decide) rfl (fun ls hl => ?_)
          refine lv_iinc (v := nI (p9 + 1)) (lv' := [(3, .int (nI (p9 + 1))), (1, .long (zy_mp s a z p9 hh)), (0, .ref (r 1))]) hx hb dX2_digest_52 hl (k := 2) rfl (zx_inc _ _) (by decide) rfl (fun ls hl => ?_)
          refine lv_goto (tgt := 34) hx hb dX2_digest_55 (by decide) ?_
          exact ih_34 (p9 + 1) (zy_mp s a z p9 hh) y_48 w_48 (by omega) (by omega) (by rw [gh]; rfl) (fun k hk => (gy_48 k hk).trans (gy k hk)) ((gy_48 11 (by decide)).trans g11) _ (by first | rfl | (congr 1; omega)) _ rfl _ _ hP hD hS ls (lv_sub hl [2, 1, 0] rfl)
    exact lp_34 _ 0 (853 : Int64) s ah (Nat.lt_succ_self _) (Nat.zero_le _) (if_pos (by omega)).symm (fun _ _ => rfl) rfl _ rfl _ rfl _ _ hP hD hS ls (lv_sub hl [2, 1, 0] rfl)
  · refine lv_iconst (v := nI 0) hx hb dX2_digest_11 (by decide) ?_
    refine lv_istore_n (lv' := [(3, .int (nI 0)), (1, .long (853 : Int64)), (0, .ref (r 1))]) hx hb dX2_digest_12 rfl hl (by decide) rfl (fun ls hl => ?_)
    have lp_13 : ∀ (n_ : Nat) (i : Nat) (hh : Int64) (y9 : Nat → Nat) (w9 : Int), 9 - i < n_ → (i ≤ 9) → (hh = zp_fo (zy_md s a z) 853 i) → (∀ k, k < 31 → y9 k = s k) → ∀ x1 : Int64, x1 = hh → ∀ x3 : Int32, x3 = nI i → ∀ (H : Heap) (locs : List Loc), va_P D vwCl ((zy_w cI r) (y9, a, z, w9)) H → va_D A ((zy_w cI r) (y9, a, z, w9)) → va_S A st.heap H locs → ∀ ls : Array Slot, lv_has ls 4 [(0, .ref (r 1)), (1, .long x1), (3, .int x3)] → W p l e rmX2_digest st m args below meth c H locs 0 0 Q (F0 m 13 ls []) := by
      intro n_
      induction n_ with
      | zero => intros; omega
      | succ n_ ih_13 =>
        intro i hh y9 w9 hmu_13 hi9 gh gy
        intro x1 ex1; subst x1
        intro x3 ex3; subst ex3
        intro H locs hP hD hS ls hl
        have hl : lv_has ls 4 [(0, .ref (r 1)), (1, .long hh), (3, .int (nI i))] := hl
        refine lv_iload_n hx hb dX2_digest_13 rfl (lv_at hl 2 rfl) ?_
        refine lv_bipush (v := nI 9) hx hb dX2_digest_14 (by decide) ?_
        refine zx_icmp_ge hx hb (tgt := 32) (by omega) (by omega) dX2_digest_16 (by decide) (fun c_16 => ?_) (fun c_16 => ?_)
        · refine lv_iconst (v := nI 0) hx hb dX2_digest_32 (by decide) ?_
          refine lv_istore_n (lv' := [(3, .int (nI 0)), (0, .ref (r 1)), (1, .long hh)]) hx hb dX2_digest_33 rfl hl (by decide) rfl (fun ls hl => ?_)
          have lp_34 : ∀ (n_ : Nat) (p9 : Nat) (hh : Int64) (y9 : Nat → Nat) (w9 : Int), s 11 - p9 < n_ → (p9 ≤ s 11) → (hh = zp_fo (zy_mp s a z) (if s 2 = 0 then (853 : Int64) else zp_fo (zy_md s a z) 853 9) p9) → (∀ k, k < 31 → y9 k = s k) → (y9 11 = s 11) → ∀ x1 : Int64, x1 = hh → ∀ x3 : Int32, x3 = nI p9 → ∀ (H : Heap) (locs : List Loc), va_P D vwCl ((zy_w cI r) (y9, a, z, w9)) H → va_D A ((zy_w cI r) (y9, a, z, w9)) → va_S A st.heap H locs → ∀ ls : Array Slot, lv_has ls 4 [(0, .ref (r 1)), (1, .long x1), (3, .int x3)] → W p l e rmX2_digest st m args below meth c H locs 0 0 Q (F0 m 34 ls []) := by
            intro n_
            induction n_ with
            | zero => intros; omega
            | succ n_ ih_34 =>
              intro p9 hh y9 w9 hmu_34 hp9 gh gy g11
              intro x1 ex1; subst x1
              intro x3 ex3; subst ex3
              intro H locs hP hD hS ls hl
              have hl : lv_has ls 4 [(0, .ref (r 1)), (1, .long hh), (3, .int (nI p9))] := hl
              refine lv_iload_n hx hb dX2_digest_34 rfl (lv_at hl 2 rfl) ?_
              refine lv_aload_n hx hb dX2_digest_35 rfl (lv_at hl 0 rfl) ?_
              refine va_get (D := D) (ci := 2) (v := .ref (r 10)) (C := RX2) (T := TX2) (N := 10) hx hb hts hi2 hown hK hP 0 rfl rfl 4 (by decide) k19 (fun _ h9 => h9) rfl dX2_digest_36 ?_
              refine va_get (D := D) (ci := 1) (v := .int (nI (y9 11))) (C := RX1) (T := TX1) (N := 9) hx hb hts hi1 hown hK hP 3 rfl rfl 1 (by decide) k94 (fun _ h9 => h9) rfl dX2_digest_39 ?_
              refine zx_icmp_ge hx hb (tgt := 58) (by omega) (by have := gy 11 (by decide); omega) dX2_digest_42 (by decide) (fun c_42 => ?_) (fun c_42 => ?_)
              · refine lv_iconst (v := nI 0) hx hb dX2_digest_58 (by decide) ?_
                refine lv_istore_n (lv' := [(3, .int (nI 0)), (0, .ref (r 1)), (1, .long hh)]) hx hb dX2_digest_59 rfl hl (by decide) rfl (fun ls hl => ?_)
                have lp_60 : ∀ (n_ : Nat) (k : Nat) (hh : Int64) (y9 : Nat → Nat) (w9 : Int), s 1 - k < n_ → (k ≤ s 1) → (hh = zp_fo (fun k9 g9 => (31 : Int64) * g9 + (nI (a 0 k9)).toInt64) (zp_fo (zy_mp s a z) (if s 2 = 0 then (853 : Int64) else zp_fo (zy_md s a z) 853 9) (s 11)) k) → (∀ k, k < 31 → y9 k = s k) → (y9 1 = s 1) → ∀ x1 : Int64, x1 = hh → ∀ x3 : Int32, x3 = nI k → ∀ (H : Heap) (locs : List Loc), va_P D vwCl ((zy_w cI r) (y9, a, z, w9)) H → va_D A ((zy_w cI r) (y9, a, z, w9)) → va_S A st.heap H locs → ∀ ls : Array Slot, lv_has ls 4 [(0, .ref (r 1)), (1, .long x1), (3, .int x3)] → W p l e rmX2_digest st m args below meth c H locs 0 0 Q (F0 m 60 ls []) := by
                  intro n_
                  induction n_ with
                  | zero => intros; omega
                  | succ n_ ih_60 =>
                    intro k hh y9 w9 hmu_60 hk9 gh gy g1
                    intro x1 ex1; subst x1
                    intro x3 ex3; subst ex3
                    intro H locs hP hD hS ls hl
                    have hl : lv_has ls 4 [(0, .ref (r 1)), (1, .long hh), (3, .int (nI k))] := hl
                    refine lv_iload_n hx hb dX2_digest_60 rfl (lv_at hl 2 rfl) ?_
                    refine lv_aload_n hx hb dX2_digest_61 rfl (lv_at hl 0 rfl) ?_
                    refine va_get (D := D) (ci := 2) (v := .int (nI (y9 1))) (C := RX2) (T := TX2) (N := 10) hx hb hts hi2 hown hK hP 0 rfl rfl 1 (by decide) k33 (fun _ h9 => h9) rfl dX2_digest_62 ?_
                    refine zx_icmp_ge hx hb (tgt := 97) (by omega) (by have := gy 1 (by decide); omega) dX2_digest_65 (by decide) (fun c_65 => ?_) (fun c_65 => ?_)
                    · refine lv_iconst (v := nI 0) hx hb dX2_digest_97 (by decide) ?_
                      refine lv_istore_n (lv' := [(3, .int (nI 0)), (0, .ref (r 1)), (1, .long hh)]) hx hb dX2_digest_98 rfl hl (by decide) rfl (fun ls hl => ?_)
                      have lp_99 : ∀ (n_ : Nat) (i : Nat) (hh : Int64) (y9 : Nat → Nat) (w9 : Int), 8 - i < n_ → (i ≤ 8) → (hh = zp_fo (fun q9 g9 => (31 : Int64) * g9 + (zs_hm (nI q9) (zy_hm s a z)).toInt64) (zp_fo (fun k9 g9 => (31 : Int64) * g9 + (nI (a 0 k9)).toInt64) (zp_fo (zy_mp s a z) (if s 2 = 0 then (853 : Int64) else zp_fo (zy_md s a z) 853 9) (s 11)) (s 1)) i) → (∀ k, k < 31 → y9 k = s k) → ∀ x1 : Int64, x1 = hh → ∀ x3 : Int32, x3 = nI i → ∀ (H : Heap) (locs : List Loc), va_P D vwCl ((zy_w cI r) (y9, a, z, w9)) H → va_D A ((zy_w cI r) (y9, a, z, w9)) → va_S A st.heap H locs → ∀ ls : Array Slot, lv_has ls 4 [(0, .ref (r 1)), (1, .long x1), (3, .int x3)] → W p l e rmX2_digest st m args below meth c H locs 0 0 Q (F0 m 99 ls []) := by
                        intro n_
                        induction n_ with
                        | zero => intros; omega
                        | succ n_ ih_99 =>
                          intro i hh y9 w9 hmu_99 hi9 gh gy
                          intro x1 ex1; subst x1
                          intro x3 ex3; subst ex3
                          intro H locs hP hD hS ls hl
                          have hl : lv_has ls 4 [(0, .ref (r 1)), (1, .long hh), (3, .int (nI i))] := hl
                          refine lv_iload_n hx hb dX2_digest_99 rfl (lv_at hl 2 rfl) ?_
                          refine lv_bipush (v := nI 7) hx hb dX2_digest_100 (by decide) ?_
                          refine zx_icmp_gt hx hb (tgt := 124) (by omega) (by omega) dX2_digest_102 (by decide) (fun c_102 => ?_) (fun c_102 => ?_)
                          · refine lv_lload_n hx hb dX2_digest_124 rfl (lv_at hl 1 rfl) ?_
                            exact hret _ _ _ _ _ _ hP hD hS dX2_digest_125 ⟨by rw [gh, show i = 8 by omega]; rfl, y9, w9, rfl, gy⟩
                          · refine lv_ldc2 (v := 31) hx hb hown (hts (.constantLong RX2 202 (31)) (List.mem_of_getElem? (i := 7) (by decide +kernel))) dX2_digest_105 ?_
                            refine lv_lload_n hx hb dX2_digest_108 rfl (lv_at hl 1 rfl) ?_
                            refine lv_lmul hx hb dX2_digest_109 ?_
                            refine lv_aload_n hx hb dX2_digest_110 rfl (lv_at hl 0 rfl) ?_
                            refine lv_iload_n hx hb dX2_digest_111 rfl (lv_at hl 2 rfl) ?_
                            refine zx_V_i (As := [.int (nI i)]) (rest := [.long ((31 : Int64) * hh)]) cf (c_X2_count l D cI cB r y9 a z w9 (nI i) (zy_I_y hI gy) ) (cwV 1 hts gX2_digest_X2_count rfl rfl rfl ⟨rfl, hd_X2_count⟩ ⟨Nat.le_of_ble_eq_true rfl, Nat.le_of_ble_eq_true rfl⟩) hK hN hP hD hS hA 0 rfl rfl rfl hl.1 rfl (Nat.le_of_ble_eq_true rfl) dX2_digest_112 ⟨Nat.zero_le _, Nat.zero_le _⟩ (fun v_112 u_112 H locs hq hP hD hS => ?_)
                            obtain ⟨rfl, y_112, w_112, rfl, gy_112⟩ := hq
                            refine zx_topi (y := (zs_hm (nI i) (zy_hm s a z))) ((by rw [zy_hm_y gy])) ?_
                            refine lv_i2l hx hb dX2_digest_115 rfl ?_
                            refine lv_ladd hx hb dX2_digest_116 ?_
                            refine lv_lstore_n (lv' := [(1, .long (((31 : Int64) * hh) + (((zs_hm (nI i) (zy_hm s a z))).toInt64))), (0, .ref (r 1)), (3, .int (nI i))]) hx hb dX2_digest_117 rfl hl (by decide) rfl (fun ls hl => ?_)
                            refine lv_iinc (v := nI (i + 1)) (lv' := [(3, .int (nI (i + 1))), (1, .long (((31 : Int64) * hh) + (((zs_hm (nI i) (zy_hm s a z))).toInt64))), (0, .ref (r 1))]) hx hb dX2_digest_118 hl (k := 2) rfl (zx_inc _ _) (by decide) rfl (fun ls hl => ?_)
                            refine lv_goto (tgt := 99) hx hb dX2_digest_121 (by decide) ?_
                            exact ih_99 (i + 1) (((31 : Int64) * hh) + (((zs_hm (nI i) (zy_hm s a z))).toInt64)) y_112 w_112 (by omega) (by omega) (by rw [gh]; rfl) (fun k hk => (gy_112 k hk).trans (gy k hk)) _ (by first | rfl | (congr 1; omega)) _ rfl _ _ hP hD hS ls (lv_sub hl [2, 1, 0] rfl)
                      exact lp_99 _ 0 hh y9 w9 (Nat.lt_succ_self _) (Nat.zero_le _) (by rw [gh, show k = s 1 by have := gy 1 (by decide); omega]; rfl) gy _ rfl _ rfl _ _ hP hD hS ls (lv_sub hl [1, 2, 0] rfl)
                    · refine lv_iload_n hx hb dX2_digest_68 rfl (lv_at hl 2 rfl) ?_
                      refine lv_aload_n hx hb dX2_digest_69 rfl (lv_at hl 0 rfl) ?_
                      refine va_get (D := D) (ci := 2) (v := .ref (r 0)) (C := RX2) (T := TX2) (N := 10) hx hb hts hi2 hown hK hP 0 rfl rfl 0 (by decide) k9 (fun _ h9 => h9) rfl dX2_digest_70 ?_
                      refine va_alen (v := nI 12) hx hb hK hP 1 0 rfl rfl rfl dX2_digest_73 ?_
                      refine zx_icmp_ge hx hb (tgt := 97) (by omega) (by omega) dX2_digest_74 (by decide) (fun c_74 => ?_) (fun c_74 => ?_)
                      · exact absurd i1 (by have := gy 1 (by decide); omega)
                      · refine lv_ldc2 (v := 31) hx hb hown (hts (.constantLong RX2 202 (31)) (List.mem_of_getElem? (i := 7) (by decide +kernel))) dX2_digest_77 ?_
                        refine lv_lload_n hx hb dX2_digest_80 rfl (lv_at hl 1 rfl) ?_
                        refine lv_lmul hx hb dX2_digest_81 ?_
                        refine lv_aload_n hx hb dX2_digest_82 rfl (lv_at hl 0 rfl) ?_
                        refine va_get (D := D) (ci := 2) (v := .ref (r 0)) (C := RX2) (T := TX2) (N := 10) hx hb hts hi2 hown hK hP 0 rfl rfl 0 (by decide) k9 (fun _ h9 => h9) rfl dX2_digest_83 ?_
                        refine lv_iload_n hx hb dX2_digest_86 rfl (lv_at hl 2 rfl) ?_
                        refine zx_ald (f := a 0) (n := 12) hx hb hK hP 1 0 rfl rfl (by omega) (by decide) dX2_digest_87 ?_
                        refine lv_i2l hx hb dX2_digest_88 rfl ?_
                        refine lv_ladd hx hb dX2_digest_89 ?_
                        refine lv_lstore_n (lv' := [(1, .long (((31 : Int64) * hh) + ((nI ((a 0) k)).toInt64))), (0, .ref (r 1)), (3, .int (nI k))]) hx hb dX2_digest_90 rfl hl (by decide) rfl (fun ls hl => ?_)
                        refine lv_iinc (v := nI (k + 1)) (lv' := [(3, .int (nI (k + 1))), (1, .long (((31 : Int64) * hh) + ((nI ((a 0) k)).toInt64))), (0, .ref (r 1))]) hx hb dX2_digest_91 hl (k := 2) rfl (zx_inc _ _) (by decide) rfl (fun ls hl => ?_)
                        refine lv_goto (tgt := 60) hx hb dX2_digest_94 (by decide) ?_
                        exact ih_60 (k + 1) (((31 : Int64) * hh) + ((nI ((a 0) k)).toInt64)) y9 w9 (by omega) (by omega) (by rw [gh]; rfl) gy g1 _ (by first | rfl | (congr 1; omega)) _ rfl _ _ hP hD hS ls (lv_sub hl [2, 1, 0] rfl)
                exact lp_60 _ 0 hh y9 w9 (Nat.lt_succ_self _) (Nat.zero_le _) (by rw [gh, show p9 = s 11 by have := gy 11 (by decide); omega]; rfl) gy (gy 1 (by decide)) _ rfl _ rfl _ _ hP hD hS ls (lv_sub hl [1, 2, 0] rfl)
              · refine lv_aload_n hx hb dX2_digest_45 rfl (lv_at hl 0 rfl) ?_
                refine lv_lload_n hx hb dX2_digest_46 rfl (lv_at hl 1 rfl) ?_
                refine lv_iload_n hx hb dX2_digest_47 rfl (lv_at hl 2 rfl) ?_
                refine zx_V_l (As := [.long hh, .int (nI p9)]) (rest := []) cf (c_X2_digestOfPerson l D cI cB r y9 a z w9 hh p9 (zy_I_y hI gy) (by omega)) (cwV 2 hts gX2_digest_X2_digestOfPerson rfl rfl rfl ⟨rfl, hd_X2_digestOfPerson⟩ ⟨Nat.le_of_ble_eq_true rfl, Nat.le_of_ble_eq_true rfl⟩) hK hN hP hD hS hA 0 rfl rfl rfl hl.1 rfl (Nat.le_of_ble_eq_true rfl) dX2_digest_48 ⟨Nat.zero_le _, Nat.zero_le _⟩ (fun v_48 u_48 H locs hq hP hD hS => ?_)
                obtain ⟨rfl, y_48, w_48, rfl, gy_48⟩ := hq
                refine zx_topl (y := zy_mp s a z p9 hh) ((zy_mp_y gy)) ?_
                refine lv_lstore_n (lv' := [(1, .long (zy_mp s a z p9 hh)), (0, .ref (r 1)), (3, .int (nI p9))]) hx hb dX2_digest_51 rfl hl (by decide) rfl (fun ls hl => ?_)
                refine lv_iinc (v := nI (p9 + 1)) (lv' := [(3, .int (nI (p9 + 1))), (1, .long (zy_mp s a z p9 hh)), (0, .ref (r 1))]) hx hb dX2_digest_52 hl (k := 2) rfl (zx_inc _ _) (by decide) rfl (fun ls hl => ?_)
                refine lv_goto (tgt := 34) hx hb dX2_digest_55 (by decide) ?_
                exact ih_34 (p9 + 1) (zy_mp s a z p9 hh) y_48 w_48 (by omega) (by omega) (by rw [gh]; rfl) (fun k hk => (gy_48 k hk).trans (gy k hk)) ((gy_48 11 (by decide)).trans g11) _ (by first | rfl | (congr 1; omega)) _ rfl _ _ hP hD hS ls (lv_sub hl [2, 1, 0] rfl)
          exact lp_34 _ 0 hh y9 w9 (Nat.lt_succ_self _) (Nat.zero_le _) (by rw [gh, show i = 9 by omega]; exact (if_neg (by omega)).symm) gy (gy 11 (by decide)) _ rfl _ rfl _ _ hP hD hS ls (lv_sub hl [1, 2, 0] rfl)
        · refine lv_aload_n hx hb dX2_digest_19 rfl (lv_at hl 0 rfl) ?_
          refine lv_lload_n hx hb dX2_digest_20 rfl (lv_at hl 1 rfl) ?_
          refine lv_iload_n hx hb dX2_digest_21 rfl (lv_at hl 2 rfl) ?_
          refine zx_V_l (As := [.long hh, .int (nI i)]) (rest := []) cf (c_X2_digestOfDrawer l D cI cB r y9 a z w9 hh i (zy_I_y hI gy) (by rw [gy 2 (by decide)]; omega) (by omega)) (cwV 2 hts gX2_digest_X2_digestOfDrawer rfl rfl rfl ⟨rfl, hd_X2_digestOfDrawer⟩ ⟨Nat.le_of_ble_eq_true rfl, Nat.le_of_ble_eq_true rfl⟩) hK hN hP hD hS hA 0 rfl rfl rfl hl.1 rfl (Nat.le_of_ble_eq_true rfl) dX2_digest_22 ⟨Nat.zero_le _, Nat.zero_le _⟩ (fun v_22 u_22 H locs hq hP hD hS => ?_)
          obtain ⟨rfl, y_22, w_22, rfl, gy_22⟩ := hq
          refine zx_topl (y := zy_md s a z i hh) ((zy_md_y gy)) ?_
          refine lv_lstore_n (lv' := [(1, .long (zy_md s a z i hh)), (0, .ref (r 1)), (3, .int (nI i))]) hx hb dX2_digest_25 rfl hl (by decide) rfl (fun ls hl => ?_)
          refine lv_iinc (v := nI (i + 1)) (lv' := [(3, .int (nI (i + 1))), (1, .long (zy_md s a z i hh)), (0, .ref (r 1))]) hx hb dX2_digest_26 hl (k := 2) rfl (zx_inc _ _) (by decide) rfl (fun ls hl => ?_)
          refine lv_goto (tgt := 13) hx hb dX2_digest_29 (by decide) ?_
          exact ih_13 (i + 1) (zy_md s a z i hh) y_22 w_22 (by omega) (by omega) (by rw [gh]; rfl) (fun k hk => (gy_22 k hk).trans (gy k hk)) _ (by first | rfl | (congr 1; omega)) _ rfl _ _ hP hD hS ls (lv_sub hl [2, 1, 0] rfl)
    exact lp_13 _ 0 (853 : Int64) s ah (Nat.lt_succ_self _) (Nat.zero_le _) rfl (fun _ _ => rfl) _ rfl _ rfl _ _ hP hD hS ls (lv_sub hl [2, 1, 0] rfl)
