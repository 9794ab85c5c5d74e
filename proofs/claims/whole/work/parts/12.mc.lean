set_option maxHeartbeats 4000000 in
set_option maxRecDepth 100000 in
theorem c_X3_firstWrong_p (l : Launch) (D : va_G) (cI cB : ClassId) (r : Nat → Nat) (s : Nat → Nat) (a : Nat → Nat → Nat) (z : Nat → Int) (h : Int64) (d w k q : Nat) (hI : zm_I s a z) (hd : d < 9) (hw : w < 128) (hq : q < 128) (hk : k ≤ 4) : zx_C zx_ei l D (zm_t cI cB) (zm_w cI cB r) yX3_firstWrong wsX3_firstWrong rmX3_firstWrong [.ref (r 0), .int (nI d), .int (nI w), .int (nI k), .int (nI q)] (s, a, z, h) (fun v u' => v = nI (zp_fw (zm_f s a d ((k : Int)) q) w) ∧ u' = (s, a, z, h)) := by
  refine zx_of_i (cc := cX3_firstWrong) (maxL := 8) (by decide) rfl (Nat.le_of_ble_eq_true rfl) ?_
  intro p e st m args below meth c A Q H cf hK hN hP hD hS hA hret ls hl
  obtain ⟨hx, hb, hml, hown, hts⟩ := id cf
  have hl : lv_has ls 8 [(0, .ref (r 0)), (1, .int (nI d)), (2, .int (nI w)), (3, .int (nI k)), (4, .int (nI q))] := hl
  have hP : va_P D vwCl ((zm_w cI cB r) (s, a, z, h)) H := hP
  have hD : va_D A ((zm_w cI cB r) (s, a, z, h)) := hD
  obtain ⟨⟨i0, i1, i3, i5, i9, i13, i14⟩, ⟨i17, i18, i19, i20, i21⟩, iP, iF, iL, iG, iZ, jL, jP, jF⟩ := id hI
  refine lv_aload_n hx hb dX3_firstWrong_0 rfl (lv_at hl 0 rfl) ?_
  refine lv_iload_n hx hb dX3_firstWrong_1 rfl (lv_at hl 1 rfl) ?_
  refine lv_iload_n hx hb dX3_firstWrong_2 rfl (lv_at hl 2 rfl) ?_
  refine zx_V_i (As := [.int (nI d), .int (nI w)]) (rest := []) cf (c_X3_putBy l D cI cB r s a z h d w hI (by omega) (by omega)) (cwV 2 hts gX3_firstWrong_X3_putBy rfl rfl rfl ⟨rfl, hd_X3_putBy⟩ ⟨Nat.le_of_ble_eq_true rfl, Nat.le_of_ble_eq_true rfl⟩) hK hN hP hD hS hA 0 rfl rfl rfl hl.1 rfl (Nat.le_of_ble_eq_true rfl) dX3_firstWrong_3 ⟨Nat.zero_le _, Nat.zero_le _⟩ (fun v_3 u_3 H locs hq hP hD hS => ?_)
  obtain ⟨rfl, rfl⟩ := hq
  refine lv_iload hx hb dX3_firstWrong_6 (lv_at hl 4 rfl) ?_
  refine zx_ior hx hb dX3_firstWrong_8 ?_
  have hm0 : zp_put (s 5) (a 6) (a 7) (a 8) d w ||| q < 128 := Nat.or_lt_two_pow (n := 7) (zp_put_lt _ _ _ _ _ _) hq
  obtain ⟨mq9, em0⟩ : ∃ mq9, mq9 = zp_put (s 5) (a 6) (a 7) (a 8) d w ||| q := ⟨_, rfl⟩
  rw [← em0] at hm0 ⊢
  refine lv_istore (lv' := [(5, .int (nI mq9)), (0, .ref (r 0)), (1, .int (nI d)), (2, .int (nI w)), (3, .int (nI k)), (4, .int (nI q))]) hx hb dX3_firstWrong_9 hl (by decide) rfl (fun ls hl => ?_)
  refine lv_iload_n hx hb dX3_firstWrong_11 rfl (lv_at hl 4 rfl) ?_
  refine lv_if_lt (tgt := 22) hx hb dX3_firstWrong_12 (by decide) (fun c_12 => ?_) (fun c_12 => ?_)
  · exact absurd c_12 (nI_pos (by omega))
  · refine lv_iload hx hb dX3_firstWrong_15 (lv_at hl 0 rfl) ?_
    refine lv_iload_n hx hb dX3_firstWrong_17 rfl (lv_at hl 4 rfl) ?_
    refine zx_ishl hx hb (by omega) (zx_m4 hm0 hk) dX3_firstWrong_18 ?_
    refine lv_goto (tgt := 27) hx hb dX3_firstWrong_19 (by decide) ?_
    refine lv_bipush (v := nI 127) hx hb dX3_firstWrong_27 (by decide) ?_
    refine zx_iand hx hb dX3_firstWrong_29 ?_
    obtain ⟨mb9, emb⟩ : ∃ mb9, mb9 = mq9 * 2 ^ k &&& 127 := ⟨_, rfl⟩
    rw [← emb]
    have hmb : mb9 < 2147483648 := by rw [emb]; exact zx_a127 _
    have hM : zm_f s a d ((k : Int)) q w = mb9 := by rw [emb]; unfold zm_f; rw [← em0]; exact zp_sh_p
    refine lv_istore (lv' := [(6, .int (nI mb9)), (5, .int (nI mq9)), (0, .ref (r 0)), (1, .int (nI d)), (2, .int (nI w)), (3, .int (nI k)), (4, .int (nI q))]) hx hb dX3_firstWrong_30 hl (by decide) rfl (fun ls hl => ?_)
    refine lv_iconst (v := nI 0) hx hb dX3_firstWrong_32 (by decide) ?_
    refine lv_istore (lv' := [(7, .int (nI 0)), (6, .int (nI mb9)), (5, .int (nI mq9)), (0, .ref (r 0)), (1, .int (nI d)), (2, .int (nI w)), (3, .int (nI k)), (4, .int (nI q))]) hx hb dX3_firstWrong_33 hl (by decide) rfl (fun ls hl => ?_)
    have lp_35 : ∀ (n_ : Nat) (j : Nat), 7 - j < n_ → (j ≤ 7) → (∀ i, i < j → w.testBit i = mb9.testBit i) → ∀ x2 : Int32, x2 = nI w → ∀ x6 : Int32, x6 = nI mb9 → ∀ x7 : Int32, x7 = nI j → ∀ (H : Heap) (locs : List Loc), va_P D vwCl ((zm_w cI cB r) (s, a, z, h)) H → va_D A ((zm_w cI cB r) (s, a, z, h)) → va_S A st.heap H locs → ∀ ls : Array Slot, lv_has ls 8 [(2, .int x2), (6, .int x6), (7, .int x7)] → W p l e rmX3_firstWrong st m args below meth c H locs 0 0 Q (F0 m 35 ls []) := by
      intro n_
      induction n_ with
      | zero => intros; omega
      | succ n_ ih_35 =>
        intro j hmu_35 hj9 gj
        intro x2 ex2; subst ex2
        intro x6 ex6; subst ex6
        intro x7 ex7; subst ex7
        intro H locs hP hD hS ls hl
        have hl : lv_has ls 8 [(2, .int (nI w)), (6, .int (nI mb9)), (7, .int (nI j))] := hl
        refine lv_iload hx hb dX3_firstWrong_35 (lv_at hl 2 rfl) ?_
        refine lv_bipush (v := nI 7) hx hb dX3_firstWrong_37 (by decide) ?_
        refine zx_icmp_ge hx hb (tgt := 64) (by omega) (by omega) dX3_firstWrong_39 (by decide) (fun c_39 => ?_) (fun c_39 => ?_)
        · refine lv_iload hx hb dX3_firstWrong_64 (lv_at hl 2 rfl) ?_
          exact hret _ _ _ _ _ _ hP hD hS dX3_firstWrong_66 ⟨zp_fw_eq hM hj9 gj (Or.inl (by omega)), rfl⟩
        · refine lv_iload_n hx hb dX3_firstWrong_42 rfl (lv_at hl 0 rfl) ?_
          refine lv_iload hx hb dX3_firstWrong_43 (lv_at hl 2 rfl) ?_
          refine zx_S (As := [.int (nI w), .int (nI j)]) (rest := []) cf (c_X3_has l D w j (by omega) (by omega)) (va_cwS 2 hts gX3_firstWrong_X3_has rfl rfl rfl hd_X3_has ⟨Nat.le_of_ble_eq_true rfl, Nat.le_of_ble_eq_true rfl⟩) hK hN hP hS hA rfl hl.1 rfl (Nat.le_of_ble_eq_true rfl) dX3_firstWrong_45 ⟨Nat.zero_le _, Nat.zero_le _⟩ (fun H locs hP hS => ?_)
          refine lv_iload hx hb dX3_firstWrong_48 (lv_at hl 1 rfl) ?_
          refine lv_iload hx hb dX3_firstWrong_50 (lv_at hl 2 rfl) ?_
          refine zx_S (As := [.int (nI mb9), .int (nI j)]) (rest := [.int (zx_b (Nat.testBit w j))]) cf (c_X3_has l D mb9 j hmb (by omega)) (va_cwS 2 hts gX3_firstWrong_X3_has rfl rfl rfl hd_X3_has ⟨Nat.le_of_ble_eq_true rfl, Nat.le_of_ble_eq_true rfl⟩) hK hN hP hS hA rfl hl.1 rfl (Nat.le_of_ble_eq_true rfl) dX3_firstWrong_52 ⟨Nat.zero_le _, Nat.zero_le _⟩ (fun H locs hP hS => ?_)
          refine zx_bc_ne hx hb (tgt := 64) dX3_firstWrong_55 (by decide) (fun c_55 => ?_) (fun c_55 => ?_)
          · refine lv_iload hx hb dX3_firstWrong_64 (lv_at hl 2 rfl) ?_
            exact hret _ _ _ _ _ _ hP hD hS dX3_firstWrong_66 ⟨zp_fw_eq hM hj9 gj (Or.inr c_55), rfl⟩
          · refine lv_iinc (v := nI (j + 1)) (lv' := [(7, .int (nI (j + 1))), (2, .int (nI w)), (6, .int (nI mb9))]) hx hb dX3_firstWrong_58 hl (k := 2) rfl (zx_inc _ _) (by decide) rfl (fun ls hl => ?_)
            refine lv_goto (tgt := 35) hx hb dX3_firstWrong_61 (by decide) ?_
            exact ih_35 (j + 1) (by omega) (by omega) (lt_s gj c_55) _ rfl _ rfl _ rfl _ _ hP hD hS ls (lv_sub hl [1, 2, 0] rfl)
    exact lp_35 _ 0 (Nat.lt_succ_self _) (Nat.zero_le _) (fun j hj => absurd hj (Nat.not_lt_zero j)) _ rfl _ rfl _ rfl _ _ hP hD hS ls (lv_sub hl [5, 1, 0] rfl)
set_option maxHeartbeats 4000000 in
set_option maxRecDepth 100000 in
theorem c_X3_firstWrong_n (l : Launch) (D : va_G) (cI cB : ClassId) (r : Nat → Nat) (s : Nat → Nat) (a : Nat → Nat → Nat) (z : Nat → Int) (h : Int64) (d w k q : Nat) (hI : zm_I s a z) (hd : d < 9) (hw : w < 128) (hq : q < 128) (h0 : 0 < k) (hk : k ≤ 3) : zx_C zx_ei l D (zm_t cI cB) (zm_w cI cB r) yX3_firstWrong wsX3_firstWrong rmX3_firstWrong [.ref (r 0), .int (nI d), .int (nI w), .int (-(nI k)), .int (nI q)] (s, a, z, h) (fun v u' => v = nI (zp_fw (zm_f s a d (-(k : Int)) q) w) ∧ u' = (s, a, z, h)) := by
  refine zx_of_i (cc := cX3_firstWrong) (maxL := 8) (by decide) rfl (Nat.le_of_ble_eq_true rfl) ?_
  intro p e st m args below meth c A Q H cf hK hN hP hD hS hA hret ls hl
  obtain ⟨hx, hb, hml, hown, hts⟩ := id cf
  have hl : lv_has ls 8 [(0, .ref (r 0)), (1, .int (nI d)), (2, .int (nI w)), (3, .int (-(nI k))), (4, .int (nI q))] := hl
  have hP : va_P D vwCl ((zm_w cI cB r) (s, a, z, h)) H := hP
  have hD : va_D A ((zm_w cI cB r) (s, a, z, h)) := hD
  obtain ⟨⟨i0, i1, i3, i5, i9, i13, i14⟩, ⟨i17, i18, i19, i20, i21⟩, iP, iF, iL, iG, iZ, jL, jP, jF⟩ := id hI
  refine lv_aload_n hx hb dX3_firstWrong_0 rfl (lv_at hl 0 rfl) ?_
  refine lv_iload_n hx hb dX3_firstWrong_1 rfl (lv_at hl 1 rfl) ?_
  refine lv_iload_n hx hb dX3_firstWrong_2 rfl (lv_at hl 2 rfl) ?_
  refine zx_V_i (As := [.int (nI d), .int (nI w)]) (rest := []) cf (c_X3_putBy l D cI cB r s a z h d w hI (by omega) (by omega)) (cwV 2 hts gX3_firstWrong_X3_putBy rfl rfl rfl ⟨rfl, hd_X3_putBy⟩ ⟨Nat.le_of_ble_eq_true rfl, Nat.le_of_ble_eq_true rfl⟩) hK hN hP hD hS hA 0 rfl rfl rfl hl.1 rfl (Nat.le_of_ble_eq_true rfl) dX3_firstWrong_3 ⟨Nat.zero_le _, Nat.zero_le _⟩ (fun v_3 u_3 H locs hq hP hD hS => ?_)
  obtain ⟨rfl, rfl⟩ := hq
  refine lv_iload hx hb dX3_firstWrong_6 (lv_at hl 4 rfl) ?_
  refine zx_ior hx hb dX3_firstWrong_8 ?_
  have hm0 : zp_put (s 5) (a 6) (a 7) (a 8) d w ||| q < 128 := Nat.or_lt_two_pow (n := 7) (zp_put_lt _ _ _ _ _ _) hq
  obtain ⟨mq9, em0⟩ : ∃ mq9, mq9 = zp_put (s 5) (a 6) (a 7) (a 8) d w ||| q := ⟨_, rfl⟩
  rw [← em0] at hm0 ⊢
  refine lv_istore (lv' := [(5, .int (nI mq9)), (0, .ref (r 0)), (1, .int (nI d)), (2, .int (nI w)), (3, .int (-(nI k))), (4, .int (nI q))]) hx hb dX3_firstWrong_9 hl (by decide) rfl (fun ls hl => ?_)
  refine lv_iload_n hx hb dX3_firstWrong_11 rfl (lv_at hl 4 rfl) ?_
  refine lv_if_lt (tgt := 22) hx hb dX3_firstWrong_12 (by decide) (fun c_12 => ?_) (fun c_12 => ?_)
  · refine lv_iload hx hb dX3_firstWrong_22 (lv_at hl 0 rfl) ?_
    refine lv_iload_n hx hb dX3_firstWrong_24 rfl (lv_at hl 4 rfl) ?_
    refine lv_ineg hx hb dX3_firstWrong_25 ?_
    refine zx_topi (y := nI k) (Int32.neg_neg) ?_
    refine zx_ishr hx hb (by omega) (by omega) dX3_firstWrong_26 ?_
    refine lv_bipush (v := nI 127) hx hb dX3_firstWrong_27 (by decide) ?_
    refine zx_iand hx hb dX3_firstWrong_29 ?_
    obtain ⟨mb9, emb⟩ : ∃ mb9, mb9 = mq9 / 2 ^ k &&& 127 := ⟨_, rfl⟩
    rw [← emb]
    have hmb : mb9 < 2147483648 := by rw [emb]; exact zx_a127 _
    have hM : zm_f s a d (-(k : Int)) q w = mb9 := by rw [emb]; unfold zm_f; rw [← em0]; exact zp_sh_n h0
    refine lv_istore (lv' := [(6, .int (nI mb9)), (5, .int (nI mq9)), (0, .ref (r 0)), (1, .int (nI d)), (2, .int (nI w)), (3, .int (-(nI k))), (4, .int (nI q))]) hx hb dX3_firstWrong_30 hl (by decide) rfl (fun ls hl => ?_)
    refine lv_iconst (v := nI 0) hx hb dX3_firstWrong_32 (by decide) ?_
    refine lv_istore (lv' := [(7, .int (nI 0)), (6, .int (nI mb9)), (5, .int (nI mq9)), (0, .ref (r 0)), (1, .int (nI d)), (2, .int (nI w)), (3, .int (-(nI k))), (4, .int (nI q))]) hx hb dX3_firstWrong_33 hl (by decide) rfl (fun ls hl => ?_)
    have lp_35 : ∀ (n_ : Nat) (j : Nat), 7 - j < n_ → (j ≤ 7) → (∀ i, i < j → w.testBit i = mb9.testBit i) → ∀ x2 : Int32, x2 = nI w → ∀ x6 : Int32, x6 = nI mb9 → ∀ x7 : Int32, x7 = nI j → ∀ (H : Heap) (locs : List Loc), va_P D vwCl ((zm_w cI cB r) (s, a, z, h)) H → va_D A ((zm_w cI cB r) (s, a, z, h)) → va_S A st.heap H locs → ∀ ls : Array Slot, lv_has ls 8 [(2, .int x2), (6, .int x6), (7, .int x7)] → W p l e rmX3_firstWrong st m args below meth c H locs 0 0 Q (F0 m 35 ls []) := by
      intro n_
      induction n_ with
      | zero => intros; omega
      | succ n_ ih_35 =>
        intro j hmu_35 hj9 gj
        intro x2 ex2; subst ex2
        intro x6 ex6; subst ex6
        intro x7 ex7; subst ex7
        intro H locs hP hD hS ls hl
        have hl : lv_has ls 8 [(2, .int (nI w)), (6, .int (nI mb9)), (7, .int (nI j))] := hl
        refine lv_iload hx hb dX3_firstWrong_35 (lv_at hl 2 rfl) ?_
        refine lv_bipush (v := nI 7) hx hb dX3_firstWrong_37 (by decide) ?_
        refine zx_icmp_ge hx hb (tgt := 64) (by omega) (by omega) dX3_firstWrong_39 (by decide) (fun c_39 => ?_) (fun c_39 => ?_)
        · refine lv_iload hx hb dX3_firstWrong_64 (lv_at hl 2 rfl) ?_
          exact hret _ _ _ _ _ _ hP hD hS dX3_firstWrong_66 ⟨zp_fw_eq hM hj9 gj (Or.inl (by omega)), rfl⟩
        · refine lv_iload_n hx hb dX3_firstWrong_42 rfl (lv_at hl 0 rfl) ?_
          refine lv_iload hx hb dX3_firstWrong_43 (lv_at hl 2 rfl) ?_
          refine zx_S (As := [.int (nI w), .int (nI j)]) (rest := []) cf (c_X3_has l D w j (by omega) (by omega)) (va_cwS 2 hts gX3_firstWrong_X3_has rfl rfl rfl hd_X3_has ⟨Nat.le_of_ble_eq_true rfl, Nat.le_of_ble_eq_true rfl⟩) hK hN hP hS hA rfl hl.1 rfl (Nat.le_of_ble_eq_true rfl) dX3_firstWrong_45 ⟨Nat.zero_le _, Nat.zero_le _⟩ (fun H locs hP hS => ?_)
          refine lv_iload hx hb dX3_firstWrong_48 (lv_at hl 1 rfl) ?_
          refine lv_iload hx hb dX3_firstWrong_50 (lv_at hl 2 rfl) ?_
          refine zx_S (As := [.int (nI mb9), .int (nI j)]) (rest := [.int (zx_b (Nat.testBit w j))]) cf (c_X3_has l D mb9 j hmb (by omega)) (va_cwS 2 hts gX3_firstWrong_X3_has rfl rfl rfl hd_X3_has ⟨Nat.le_of_ble_eq_true rfl, Nat.le_of_ble_eq_true rfl⟩) hK hN hP hS hA rfl hl.1 rfl (Nat.le_of_ble_eq_true rfl) dX3_firstWrong_52 ⟨Nat.zero_le _, Nat.zero_le _⟩ (fun H locs hP hS => ?_)
          refine zx_bc_ne hx hb (tgt := 64) dX3_firstWrong_55 (by decide) (fun c_55 => ?_) (fun c_55 => ?_)
          · refine lv_iload hx hb dX3_firstWrong_64 (lv_at hl 2 rfl) ?_
            exact hret _ _ _ _ _ _ hP hD hS dX3_firstWrong_66 ⟨zp_fw_eq hM hj9 gj (Or.inr c_55), rfl⟩
          · refine lv_iinc (v := nI (j + 1)) (lv' := [(7, .int (nI (j + 1))), (2, .int (nI w)), (6, .int (nI mb9))]) hx hb dX3_firstWrong_58 hl (k := 2) rfl (zx_inc _ _) (by decide) rfl (fun ls hl => ?_)
            refine lv_goto (tgt := 35) hx hb dX3_firstWrong_61 (by decide) ?_
            exact ih_35 (j + 1) (by omega) (by omega) (lt_s gj c_55) _ rfl _ rfl _ rfl _ _ hP hD hS ls (lv_sub hl [1, 2, 0] rfl)
    exact lp_35 _ 0 (Nat.lt_succ_self _) (Nat.zero_le _) (fun j hj => absurd hj (Nat.not_lt_zero j)) _ rfl _ rfl _ rfl _ _ hP hD hS ls (lv_sub hl [5, 1, 0] rfl)
  · exact absurd (zx_negp h0 (by omega)) c_12
theorem c_X3_firstWrong (l : Launch) (D : va_G) (cI cB : ClassId) (r : Nat → Nat) (s : Nat → Nat) (a : Nat → Nat → Nat) (z : Nat → Int) (h : Int64) (d w : Nat) (ah : Int) (q : Nat) (hI : zm_I s a z) (hd : d < 9) (hw : w < 128) (hq : q < 128) (hah : -3 ≤ ah ∧ ah ≤ 4) : zx_C zx_ei l D (zm_t cI cB) (zm_w cI cB r) yX3_firstWrong wsX3_firstWrong rmX3_firstWrong [.ref (r 0), .int (nI d), .int (nI w), .int (zx_i ah), .int (nI q)] (s, a, z, h) (fun v u' => v = nI (zp_fw (zm_f s a d ah q) w) ∧ u' = (s, a, z, h)) := by
  by_cases h0 : 0 ≤ ah
  · obtain ⟨k, rfl⟩ : ∃ k : Nat, ah = (k : Int) := ⟨ah.toNat, by omega⟩
    exact c_X3_firstWrong_p l D cI cB r s a z h d w k q hI hd hw hq (by omega)
  · obtain ⟨k, rfl⟩ : ∃ k : Nat, ah = -(k : Int) := ⟨(-ah).toNat, by omega⟩
    rw [show zx_i (-(k : Int)) = -(nI k) from (zx_i_neg _).symm]
    exact c_X3_firstWrong_n l D cI cB r s a z h d w k q hI hd hw hq (by omega) (by omega)
set_option maxHeartbeats 4000000 in
set_option maxRecDepth 100000 in
theorem c_X3_isSo (l : Launch) (D : va_G) (cI cB : ClassId) (r : Nat → Nat) (s : Nat → Nat) (a : Nat → Nat → Nat) (z : Nat → Int) (h : Int64) (d w : Nat) (hI : zm_I s a z) (hd : d < 9) (hw : w < 128) : zx_C zx_ei l D (zm_t cI cB) (zm_w cI cB r) yX3_isSo wsX3_isSo rmX3_isSo [.ref (r 0), .int (nI d), .int (nI w)] (s, a, z, h) (fun v u' => v = zx_b (zp_ag (zm_F s a z d) w) ∧ u' = (s, a, z, h)) := by
  refine zx_of_z (cc := cX3_isSo) (maxL := 3) (by decide) rfl (Nat.le_of_ble_eq_true rfl) ?_
  intro p e st m args below meth c A Q H cf hK hN hP hD hS hA hret ls hl
  obtain ⟨hx, hb, hml, hown, hts⟩ := id cf
  have hi3 : ∀ w ∈ wsX30, w ∈ wsX3_isSo := fun w h => List.mem_cons_of_mem _ (List.mem_append_right _ h)
  have k13 := hts (.fieldLink RX3 13 "NineDrawersModel" "laidIn" "[I") (List.mem_of_getElem? (i := 1) (by decide +kernel))
  have hl : lv_has ls 3 [(0, .ref (r 0)), (1, .int (nI d)), (2, .int (nI w))] := hl
  have hP : va_P D vwCl ((zm_w cI cB r) (s, a, z, h)) H := hP
  have hD : va_D A ((zm_w cI cB r) (s, a, z, h)) := hD
  obtain ⟨⟨i0, i1, i3, i5, i9, i13, i14⟩, ⟨i17, i18, i19, i20, i21⟩, iP, iF, iL, iG, iZ, jL, jP, jF⟩ := id hI
  refine lv_aload_n hx hb dX3_isSo_0 rfl (lv_at hl 0 rfl) ?_
  refine lv_iload_n hx hb dX3_isSo_1 rfl (lv_at hl 1 rfl) ?_
  refine lv_iload_n hx hb dX3_isSo_2 rfl (lv_at hl 2 rfl) ?_
  refine lv_aload_n hx hb dX3_isSo_3 rfl (lv_at hl 0 rfl) ?_
  refine lv_iload_n hx hb dX3_isSo_4 rfl (lv_at hl 1 rfl) ?_
  refine zx_V_i (As := [.int (nI d)]) (rest := [.int (nI w), .int (nI d), .ref (r 0)]) cf (c_X3_aheadOf l D cI cB r s a z h d hI (by omega)) (cwV 1 hts gX3_isSo_X3_aheadOf rfl rfl rfl ⟨rfl, hd_X3_aheadOf⟩ ⟨Nat.le_of_ble_eq_true rfl, Nat.le_of_ble_eq_true rfl⟩) hK hN hP hD hS hA 0 rfl rfl rfl hl.1 rfl (Nat.le_of_ble_eq_true rfl) dX3_isSo_5 ⟨Nat.zero_le _, Nat.zero_le _⟩ (fun v_5 u_5 H locs hq hP hD hS => ?_)
  obtain ⟨rfl, rfl⟩ := hq
  refine lv_aload_n hx hb dX3_isSo_8 rfl (lv_at hl 0 rfl) ?_
  refine va_get (D := D) (ci := 3) (v := .ref (r 4)) (C := RX3) (T := TX3) (N := 29) hx hb hts hi3 hown hK hP 0 rfl rfl 4 (by decide) k13 (fun _ h9 => h9) rfl dX3_isSo_9 ?_
  refine lv_iload_n hx hb dX3_isSo_12 rfl (lv_at hl 1 rfl) ?_
  refine zx_ald (f := a 4) (n := 9) hx hb hK hP 2 0 rfl rfl (by omega) (by decide) dX3_isSo_13 ?_
  refine zx_V_i (As := [.int (nI d), .int (nI w), .int (zx_i (zp_ah (s 3) (z d))), .int (nI ((a 4) d))]) (rest := []) cf (c_X3_firstWrong l D cI cB r s a z h d w (zp_ah (s 3) (z d)) ((a 4) d) hI hd hw (iL d hd) (zp_ah_rng i3 (iZ d hd))) (cwV 4 hts gX3_isSo_X3_firstWrong rfl rfl rfl ⟨rfl, hd_X3_firstWrong⟩ ⟨Nat.le_of_ble_eq_true rfl, Nat.le_of_ble_eq_true rfl⟩) hK hN hP hD hS hA 0 rfl rfl rfl hl.1 rfl (Nat.le_of_ble_eq_true rfl) dX3_isSo_14 ⟨Nat.zero_le _, Nat.zero_le _⟩ (fun v_14 u_14 H locs hq hP hD hS => ?_)
  obtain ⟨rfl, rfl⟩ := hq
  refine zx_topi (y := nI (zp_fw (zm_F s a z d) w)) (rfl) ?_
  refine lv_bipush (v := nI 7) hx hb dX3_isSo_17 (by decide) ?_
  refine zx_icmp_ne hx hb (tgt := 26) (zp_fw_lt _ _) (by decide) dX3_isSo_19 (by decide) (fun c_19 => ?_) (fun c_19 => ?_)
  · refine lv_iconst (v := nI 0) hx hb dX3_isSo_26 (by decide) ?_
    exact hret _ _ _ _ _ _ hP hD hS dX3_isSo_27 zx_nar0 ⟨zx_b_f (decide_eq_false c_19), rfl⟩
  · refine lv_iconst (v := nI 1) hx hb dX3_isSo_22 (by decide) ?_
    refine lv_goto (tgt := 27) hx hb dX3_isSo_23 (by decide) ?_
    exact hret _ _ _ _ _ _ hP hD hS dX3_isSo_27 zx_nar1 ⟨zx_b_t (decide_eq_true c_19), rfl⟩
set_option maxHeartbeats 4000000 in
set_option maxRecDepth 100000 in
theorem c_X3_agreeing (l : Launch) (D : va_G) (cI cB : ClassId) (r : Nat → Nat) (s : Nat → Nat) (a : Nat → Nat → Nat) (z : Nat → Int) (h : Int64) (d : Nat) (hI : zm_I s a z) (hd : d < 9) : zx_C zx_ei l D (zm_t cI cB) (zm_w cI cB r) yX3_agreeing wsX3_agreeing rmX3_agreeing [.ref (r 0), .int (nI d)] (s, a, z, h) (fun v u' => v = nI (zp_nag (zm_F s a z d)) ∧ u' = (s, a, z, h)) := by
  refine zx_of_i (cc := cX3_agreeing) (maxL := 4) (by decide) rfl (Nat.le_of_ble_eq_true rfl) ?_
  intro p e st m args below meth c A Q H cf hK hN hP hD hS hA hret ls hl
  obtain ⟨hx, hb, hml, hown, hts⟩ := id cf
  have hl : lv_has ls 4 [(0, .ref (r 0)), (1, .int (nI d))] := hl
  have hP : va_P D vwCl ((zm_w cI cB r) (s, a, z, h)) H := hP
  have hD : va_D A ((zm_w cI cB r) (s, a, z, h)) := hD
  refine lv_iconst (v := nI 0) hx hb dX3_agreeing_0 (by decide) ?_
  refine lv_istore_n (lv' := [(2, .int (nI 0)), (0, .ref (r 0)), (1, .int (nI d))]) hx hb dX3_agreeing_1 rfl hl (by decide) rfl (fun ls hl => ?_)
  refine lv_iconst (v := nI 0) hx hb dX3_agreeing_2 (by decide) ?_
  refine lv_istore_n (lv' := [(3, .int (nI 0)), (2, .int (nI 0)), (0, .ref (r 0)), (1, .int (nI d))]) hx hb dX3_agreeing_3 rfl hl (by decide) rfl (fun ls hl => ?_)
  have lp_4 : ∀ (n_ : Nat) (i : Nat), 128 - i < n_ → (i ≤ 128) → ∀ x1 : Int32, x1 = nI d → ∀ x2 : Int32, x2 = nI (zp_cnt (zp_ag (zm_F s a z d)) i) → ∀ x3 : Int32, x3 = nI i → ∀ (H : Heap) (locs : List Loc), va_P D vwCl ((zm_w cI cB r) (s, a, z, h)) H → va_D A ((zm_w cI cB r) (s, a, z, h)) → va_S A st.heap H locs → ∀ ls : Array Slot, lv_has ls 4 [(0, .ref (r 0)), (1, .int x1), (2, .int x2), (3, .int x3)] → W p l e rmX3_agreeing st m args below meth c H locs 0 0 Q (F0 m 4 ls []) := by
    intro n_
    induction n_ with
    | zero => intros; omega
    | succ n_ ih_4 =>
      intro i hmu_4 hi9
      intro x1 ex1; subst ex1
      intro x2 ex2; subst ex2
      intro x3 ex3; subst ex3
      intro H locs hP hD hS ls hl
      have hl : lv_has ls 4 [(0, .ref (r 0)), (1, .int (nI d)), (2, .int (nI (zp_cnt (zp_ag (zm_F s a z d)) i))), (3, .int (nI i))] := hl
      refine lv_iload_n hx hb dX3_agreeing_4 rfl (lv_at hl 3 rfl) ?_
      refine lv_sipush (v := nI 128) hx hb dX3_agreeing_5 (by decide) ?_
      refine zx_icmp_ge hx hb (tgt := 34) (by omega) (by omega) dX3_agreeing_8 (by decide) (fun c_8 => ?_) (fun c_8 => ?_)
      · refine lv_iload_n hx hb dX3_agreeing_34 rfl (lv_at hl 2 rfl) ?_
        exact hret _ _ _ _ _ _ hP hD hS dX3_agreeing_35 ⟨by rw [show i = 128 by omega]; rfl, rfl⟩
      · refine lv_iload_n hx hb dX3_agreeing_11 rfl (lv_at hl 2 rfl) ?_
        refine lv_aload_n hx hb dX3_agreeing_12 rfl (lv_at hl 0 rfl) ?_
        refine lv_iload_n hx hb dX3_agreeing_13 rfl (lv_at hl 1 rfl) ?_
        refine lv_iload_n hx hb dX3_agreeing_14 rfl (lv_at hl 3 rfl) ?_
        refine zx_V_i (As := [.int (nI d), .int (nI i)]) (rest := [.int (nI (zp_cnt (zp_ag (zm_F s a z d)) i))]) cf (c_X3_isSo l D cI cB r s a z h d i hI (by omega) (by omega)) (cwV 2 hts gX3_agreeing_X3_isSo rfl rfl rfl ⟨rfl, hd_X3_isSo⟩ ⟨Nat.le_of_ble_eq_true rfl, Nat.le_of_ble_eq_true rfl⟩) hK hN hP hD hS hA 0 rfl rfl rfl hl.1 rfl (Nat.le_of_ble_eq_true rfl) dX3_agreeing_15 ⟨Nat.zero_le _, Nat.zero_le _⟩ (fun v_15 u_15 H locs hq hP hD hS => ?_)
        obtain ⟨rfl, rfl⟩ := hq
        refine zx_bf_eq hx hb (tgt := 25) dX3_agreeing_18 (by decide) (fun c_18 => ?_) (fun c_18 => ?_)
        · refine lv_iconst (v := nI 0) hx hb dX3_agreeing_25 (by decide) ?_
          refine zx_iadd hx hb dX3_agreeing_26 ?_
          refine lv_istore_n (lv' := [(2, .int (nI ((zp_cnt (zp_ag (zm_F s a z d)) i) + 0))), (0, .ref (r 0)), (1, .int (nI d)), (3, .int (nI i))]) hx hb dX3_agreeing_27 rfl hl (by decide) rfl (fun ls hl => ?_)
          refine lv_iinc (v := nI (i + 1)) (lv' := [(3, .int (nI (i + 1))), (2, .int (nI ((zp_cnt (zp_ag (zm_F s a z d)) i) + 0))), (0, .ref (r 0)), (1, .int (nI d))]) hx hb dX3_agreeing_28 hl (k := 3) rfl (zx_inc _ _) (by decide) rfl (fun ls hl => ?_)
          refine lv_goto (tgt := 4) hx hb dX3_agreeing_31 (by decide) ?_
          exact ih_4 (i + 1) (by omega) (by omega) _ rfl _ (zp_cntF c_18) _ rfl _ _ hP hD hS ls (lv_sub hl [2, 3, 1, 0] rfl)
        · refine lv_iconst (v := nI 1) hx hb dX3_agreeing_21 (by decide) ?_
          refine lv_goto (tgt := 26) hx hb dX3_agreeing_22 (by decide) ?_
          refine zx_iadd hx hb dX3_agreeing_26 ?_
          refine lv_istore_n (lv' := [(2, .int (nI ((zp_cnt (zp_ag (zm_F s a z d)) i) + 1))), (0, .ref (r 0)), (1, .int (nI d)), (3, .int (nI i))]) hx hb dX3_agreeing_27 rfl hl (by decide) rfl (fun ls hl => ?_)
          refine lv_iinc (v := nI (i + 1)) (lv' := [(3, .int (nI (i + 1))), (2, .int (nI ((zp_cnt (zp_ag (zm_F s a z d)) i) + 1))), (0, .ref (r 0)), (1, .int (nI d))]) hx hb dX3_agreeing_28 hl (k := 3) rfl (zx_inc _ _) (by decide) rfl (fun ls hl => ?_)
          refine lv_goto (tgt := 4) hx hb dX3_agreeing_31 (by decide) ?_
          exact ih_4 (i + 1) (by omega) (by omega) _ rfl _ (zp_cntT c_18) _ rfl _ _ hP hD hS ls (lv_sub hl [2, 3, 1, 0] rfl)
  exact lp_4 _ 0 (Nat.lt_succ_self _) (Nat.zero_le _) _ rfl _ rfl _ rfl _ _ hP hD hS ls (lv_sub hl [2, 3, 1, 0] rfl)
set_option maxHeartbeats 4000000 in
set_option maxRecDepth 100000 in
theorem c_X3_cannotOf (l : Launch) (D : va_G) (cI cB : ClassId) (r : Nat → Nat) (s : Nat → Nat) (a : Nat → Nat → Nat) (z : Nat → Int) (h : Int64) (d : Nat) (hI : zm_I s a z) (hd : d < 9) : zx_C zx_ei l D (zm_t cI cB) (zm_w cI cB r) yX3_cannotOf wsX3_cannotOf rmX3_cannotOf [.ref (r 0), .int (nI d)] (s, a, z, h) (fun v u' => v = zp_can (zm_F s a z d) ∧ u' = (s, a, z, h)) := by
  refine zx_of_i (cc := cX3_cannotOf) (maxL := 5) (by decide) rfl (Nat.le_of_ble_eq_true rfl) ?_
  intro p e st m args below meth c A Q H cf hK hN hP hD hS hA hret ls hl
  obtain ⟨hx, hb, hml, hown, hts⟩ := id cf
  have hi3 : ∀ w ∈ wsX30, w ∈ wsX3_cannotOf := fun w h => List.mem_cons_of_mem _ (List.mem_append_right _ h)
  have k13 := hts (.fieldLink RX3 13 "NineDrawersModel" "laidIn" "[I") (List.mem_of_getElem? (i := 1) (by decide +kernel))
  have hl : lv_has ls 5 [(0, .ref (r 0)), (1, .int (nI d))] := hl
  have hP : va_P D vwCl ((zm_w cI cB r) (s, a, z, h)) H := hP
  have hD : va_D A ((zm_w cI cB r) (s, a, z, h)) := hD
  obtain ⟨⟨i0, i1, i3, i5, i9, i13, i14⟩, ⟨i17, i18, i19, i20, i21⟩, iP, iF, iL, iG, iZ, jL, jP, jF⟩ := id hI
  refine lv_iconst (v := nI 0) hx hb dX3_cannotOf_0 (by decide) ?_
  refine lv_istore_n (lv' := [(2, .int (nI 0)), (0, .ref (r 0)), (1, .int (nI d))]) hx hb dX3_cannotOf_1 rfl hl (by decide) rfl (fun ls hl => ?_)
  refine lv_iconst (v := nI 0) hx hb dX3_cannotOf_2 (by decide) ?_
  refine lv_istore_n (lv' := [(3, .int (nI 0)), (2, .int (nI 0)), (0, .ref (r 0)), (1, .int (nI d))]) hx hb dX3_cannotOf_3 rfl hl (by decide) rfl (fun ls hl => ?_)
  have lp_4 : ∀ (n_ : Nat) (i : Nat), 128 - i < n_ → (i ≤ 128) → ∀ x1 : Int32, x1 = nI d → ∀ x2 : Int32, x2 = nI (zp_max (zp_fw (zm_F s a z d)) i) → ∀ x3 : Int32, x3 = nI i → ∀ (H : Heap) (locs : List Loc), va_P D vwCl ((zm_w cI cB r) (s, a, z, h)) H → va_D A ((zm_w cI cB r) (s, a, z, h)) → va_S A st.heap H locs → ∀ ls : Array Slot, lv_has ls 5 [(0, .ref (r 0)), (1, .int x1), (2, .int x2), (3, .int x3)] → W p l e rmX3_cannotOf st m args below meth c H locs 0 0 Q (F0 m 4 ls []) := by
    intro n_
    induction n_ with
    | zero => intros; omega
    | succ n_ ih_4 =>
      intro i hmu_4 hi9
      intro x1 ex1; subst ex1
      intro x2 ex2; subst ex2
      intro x3 ex3; subst ex3
      intro H locs hP hD hS ls hl
      have hl : lv_has ls 5 [(0, .ref (r 0)), (1, .int (nI d)), (2, .int (nI (zp_max (zp_fw (zm_F s a z d)) i))), (3, .int (nI i))] := hl
      refine lv_iload_n hx hb dX3_cannotOf_4 rfl (lv_at hl 3 rfl) ?_
      refine lv_sipush (v := nI 128) hx hb dX3_cannotOf_5 (by decide) ?_
      refine zx_icmp_ge hx hb (tgt := 49) (by omega) (by omega) dX3_cannotOf_8 (by decide) (fun c_8 => ?_) (fun c_8 => ?_)
      · refine lv_iload_n hx hb dX3_cannotOf_49 rfl (lv_at hl 2 rfl) ?_
        refine lv_bipush (v := nI 7) hx hb dX3_cannotOf_50 (by decide) ?_
        refine zx_icmp_ne hx hb (tgt := 59) (zp_mxf_lt _ _) (by decide) dX3_cannotOf_52 (by decide) (fun c_52 => ?_) (fun c_52 => ?_)
        · refine lv_iload_n hx hb dX3_cannotOf_59 rfl (lv_at hl 2 rfl) ?_
          exact hret _ _ _ _ _ _ hP hD hS dX3_cannotOf_60 ⟨by rw [show i = 128 by omega] at c_52 ⊢; exact (if_neg c_52).symm, rfl⟩
        · refine lv_iconst (v := (-1)) hx hb dX3_cannotOf_55 (by decide) ?_
          refine lv_goto (tgt := 60) hx hb dX3_cannotOf_56 (by decide) ?_
          exact hret _ _ _ _ _ _ hP hD hS dX3_cannotOf_60 ⟨by rw [show i = 128 by omega] at c_52; exact (if_pos c_52).symm, rfl⟩
      · refine lv_aload_n hx hb dX3_cannotOf_11 rfl (lv_at hl 0 rfl) ?_
        refine lv_iload_n hx hb dX3_cannotOf_12 rfl (lv_at hl 1 rfl) ?_
        refine lv_iload_n hx hb dX3_cannotOf_13 rfl (lv_at hl 3 rfl) ?_
        refine lv_aload_n hx hb dX3_cannotOf_14 rfl (lv_at hl 0 rfl) ?_
        refine lv_iload_n hx hb dX3_cannotOf_15 rfl (lv_at hl 1 rfl) ?_
        refine zx_V_i (As := [.int (nI d)]) (rest := [.int (nI i), .int (nI d), .ref (r 0)]) cf (c_X3_aheadOf l D cI cB r s a z h d hI (by omega)) (cwV 1 hts gX3_cannotOf_X3_aheadOf rfl rfl rfl ⟨rfl, hd_X3_aheadOf⟩ ⟨Nat.le_of_ble_eq_true rfl, Nat.le_of_ble_eq_true rfl⟩) hK hN hP hD hS hA 0 rfl rfl rfl hl.1 rfl (Nat.le_of_ble_eq_true rfl) dX3_cannotOf_16 ⟨Nat.zero_le _, Nat.zero_le _⟩ (fun v_16 u_16 H locs hq hP hD hS => ?_)
        obtain ⟨rfl, rfl⟩ := hq
        refine lv_aload_n hx hb dX3_cannotOf_19 rfl (lv_at hl 0 rfl) ?_
        refine va_get (D := D) (ci := 3) (v := .ref (r 4)) (C := RX3) (T := TX3) (N := 29) hx hb hts hi3 hown hK hP 0 rfl rfl 4 (by decide) k13 (fun _ h9 => h9) rfl dX3_cannotOf_20 ?_
        refine lv_iload_n hx hb dX3_cannotOf_23 rfl (lv_at hl 1 rfl) ?_
        refine zx_ald (f := a 4) (n := 9) hx hb hK hP 2 0 rfl rfl (by omega) (by decide) dX3_cannotOf_24 ?_
        refine zx_V_i (As := [.int (nI d), .int (nI i), .int (zx_i (zp_ah (s 3) (z d))), .int (nI ((a 4) d))]) (rest := []) cf (c_X3_firstWrong l D cI cB r s a z h d i (zp_ah (s 3) (z d)) ((a 4) d) hI hd (by omega) (iL d hd) (zp_ah_rng i3 (iZ d hd))) (cwV 4 hts gX3_cannotOf_X3_firstWrong rfl rfl rfl ⟨rfl, hd_X3_firstWrong⟩ ⟨Nat.le_of_ble_eq_true rfl, Nat.le_of_ble_eq_true rfl⟩) hK hN hP hD hS hA 0 rfl rfl rfl hl.1 rfl (Nat.le_of_ble_eq_true rfl) dX3_cannotOf_25 ⟨Nat.zero_le _, Nat.zero_le _⟩ (fun v_25 u_25 H locs hq hP hD hS => ?_)
        obtain ⟨rfl, rfl⟩ := hq
        refine zx_topi (y := nI (zp_fw (zm_F s a z d) i)) (rfl) ?_
        refine lv_istore (lv' := [(4, .int (nI (zp_fw (zm_F s a z d) i))), (0, .ref (r 0)), (1, .int (nI d)), (2, .int (nI (zp_max (zp_fw (zm_F s a z d)) i))), (3, .int (nI i))]) hx hb dX3_cannotOf_28 hl (by decide) rfl (fun ls hl => ?_)
        refine lv_iload hx hb dX3_cannotOf_30 (lv_at hl 0 rfl) ?_
        refine lv_iload_n hx hb dX3_cannotOf_32 rfl (lv_at hl 3 rfl) ?_
        refine zx_icmp_le hx hb (tgt := 41) (zp_fw_lt _ _) (zp_mxf_lt _ _) dX3_cannotOf_33 (by decide) (fun c_33 => ?_) (fun c_33 => ?_)
        · refine lv_iload_n hx hb dX3_cannotOf_41 rfl (lv_at hl 3 rfl) ?_
          refine lv_istore_n (lv' := [(2, .int (nI (zp_max (zp_fw (zm_F s a z d)) i))), (4, .int (nI (zp_fw (zm_F s a z d) i))), (0, .ref (r 0)), (1, .int (nI d)), (3, .int (nI i))]) hx hb dX3_cannotOf_42 rfl hl (by decide) rfl (fun ls hl => ?_)
          refine lv_iinc (v := nI (i + 1)) (lv' := [(3, .int (nI (i + 1))), (2, .int (nI (zp_max (zp_fw (zm_F s a z d)) i))), (4, .int (nI (zp_fw (zm_F s a z d) i))), (0, .ref (r 0)), (1, .int (nI d))]) hx hb dX3_cannotOf_43 hl (k := 4) rfl (zx_inc _ _) (by decide) rfl (fun ls hl => ?_)
          refine lv_goto (tgt := 4) hx hb dX3_cannotOf_46 (by decide) ?_
          exact ih_4 (i + 1) (by omega) (by omega) _ rfl _ (congrArg nI (if_neg (Nat.not_lt.mpr c_33)).symm) _ rfl _ _ hP hD hS ls (lv_sub hl [3, 4, 1, 0] rfl)
        · refine lv_iload hx hb dX3_cannotOf_36 (lv_at hl 0 rfl) ?_
          refine lv_goto (tgt := 42) hx hb dX3_cannotOf_38 (by decide) ?_
          refine lv_istore_n (lv' := [(2, .int (nI (zp_fw (zm_F s a z d) i))), (4, .int (nI (zp_fw (zm_F s a z d) i))), (0, .ref (r 0)), (1, .int (nI d)), (3, .int (nI i))]) hx hb dX3_cannotOf_42 rfl hl (by decide) rfl (fun ls hl => ?_)
          refine lv_iinc (v := nI (i + 1)) (lv' := [(3, .int (nI (i + 1))), (2, .int (nI (zp_fw (zm_F s a z d) i))), (4, .int (nI (zp_fw (zm_F s a z d) i))), (0, .ref (r 0)), (1, .int (nI d))]) hx hb dX3_cannotOf_43 hl (k := 4) rfl (zx_inc _ _) (by decide) rfl (fun ls hl => ?_)
          refine lv_goto (tgt := 4) hx hb dX3_cannotOf_46 (by decide) ?_
          exact ih_4 (i + 1) (by omega) (by omega) _ rfl _ (congrArg nI (if_pos c_33).symm) _ rfl _ _ hP hD hS ls (lv_sub hl [3, 4, 1, 0] rfl)
  exact lp_4 _ 0 (Nat.lt_succ_self _) (Nat.zero_le _) _ rfl _ rfl _ rfl _ _ hP hD hS ls (lv_sub hl [2, 3, 1, 0] rfl)
set_option maxHeartbeats 4000000 in
set_option maxRecDepth 100000 in
theorem c_X3_leastOf (l : Launch) (D : va_G) (cI cB : ClassId) (r : Nat → Nat) (s : Nat → Nat) (a : Nat → Nat → Nat) (z : Nat → Int) (h : Int64) (d : Nat) (hI : zm_I s a z) (hd : d < 9) : zx_C zx_ei l D (zm_t cI cB) (zm_w cI cB r) yX3_leastOf wsX3_leastOf rmX3_leastOf [.ref (r 0), .int (nI d)] (s, a, z, h) (fun v u' => v = zp_lst (zm_F s a z d) ∧ u' = (s, a, z, h)) := by
  refine zx_of_i (cc := cX3_leastOf) (maxL := 3) (by decide) rfl (Nat.le_of_ble_eq_true rfl) ?_
  intro p e st m args below meth c A Q H cf hK hN hP hD hS hA hret ls hl
  obtain ⟨hx, hb, hml, hown, hts⟩ := id cf
  have hl : lv_has ls 3 [(0, .ref (r 0)), (1, .int (nI d))] := hl
  have hP : va_P D vwCl ((zm_w cI cB r) (s, a, z, h)) H := hP
  have hD : va_D A ((zm_w cI cB r) (s, a, z, h)) := hD
  obtain ⟨⟨i0, i1, i3, i5, i9, i13, i14⟩, ⟨i17, i18, i19, i20, i21⟩, iP, iF, iL, iG, iZ, jL, jP, jF⟩ := id hI
  refine lv_iconst (v := nI 0) hx hb dX3_leastOf_0 (by decide) ?_
  refine lv_istore_n (lv' := [(2, .int (nI 0)), (0, .ref (r 0)), (1, .int (nI d))]) hx hb dX3_leastOf_1 rfl hl (by decide) rfl (fun ls hl => ?_)
  have lp_2 : ∀ (n_ : Nat) (k : Nat), 128 - k < n_ → (k ≤ 128) → (∀ j, j < k → zp_ag (zm_F s a z d) j = false) → ∀ x1 : Int32, x1 = nI d → ∀ x2 : Int32, x2 = nI k → ∀ (H : Heap) (locs : List Loc), va_P D vwCl ((zm_w cI cB r) (s, a, z, h)) H → va_D A ((zm_w cI cB r) (s, a, z, h)) → va_S A st.heap H locs → ∀ ls : Array Slot, lv_has ls 3 [(0, .ref (r 0)), (1, .int x1), (2, .int x2)] → W p l e rmX3_leastOf st m args below meth c H locs 0 0 Q (F0 m 2 ls []) := by
    intro n_
    induction n_ with
    | zero => intros; omega
    | succ n_ ih_2 =>
      intro k hmu_2 hk9 gk
      intro x1 ex1; subst ex1
      intro x2 ex2; subst ex2
      intro H locs hP hD hS ls hl
      have hl : lv_has ls 3 [(0, .ref (r 0)), (1, .int (nI d)), (2, .int (nI k))] := hl
      refine lv_iload_n hx hb dX3_leastOf_2 rfl (lv_at hl 2 rfl) ?_
      refine lv_sipush (v := nI 128) hx hb dX3_leastOf_3 (by decide) ?_
      refine zx_icmp_ge hx hb (tgt := 24) (by omega) (by omega) dX3_leastOf_6 (by decide) (fun c_6 => ?_) (fun c_6 => ?_)
      · refine lv_iload_n hx hb dX3_leastOf_24 rfl (lv_at hl 2 rfl) ?_
        refine lv_sipush (v := nI 128) hx hb dX3_leastOf_25 (by decide) ?_
        refine zx_icmp_ne hx hb (tgt := 35) (by omega) (by omega) dX3_leastOf_28 (by decide) (fun c_28 => ?_) (fun c_28 => ?_)
        · refine lv_iload_n hx hb dX3_leastOf_35 rfl (lv_at hl 2 rfl) ?_
          exact hret _ _ _ _ _ _ hP hD hS dX3_leastOf_36 ⟨zp_lst_k hk9 gk (Or.inl (by omega)) c_28, rfl⟩
        · refine lv_iconst (v := (-1)) hx hb dX3_leastOf_31 (by decide) ?_
          refine lv_goto (tgt := 36) hx hb dX3_leastOf_32 (by decide) ?_
          exact hret _ _ _ _ _ _ hP hD hS dX3_leastOf_36 ⟨zp_lst_n hk9 gk (Or.inl (by omega)) c_28, rfl⟩
      · refine lv_aload_n hx hb dX3_leastOf_9 rfl (lv_at hl 0 rfl) ?_
        refine lv_iload_n hx hb dX3_leastOf_10 rfl (lv_at hl 1 rfl) ?_
        refine lv_iload_n hx hb dX3_leastOf_11 rfl (lv_at hl 2 rfl) ?_
        refine zx_V_i (As := [.int (nI d), .int (nI k)]) (rest := []) cf (c_X3_isSo l D cI cB r s a z h d k hI (by omega) (by omega)) (cwV 2 hts gX3_leastOf_X3_isSo rfl rfl rfl ⟨rfl, hd_X3_isSo⟩ ⟨Nat.le_of_ble_eq_true rfl, Nat.le_of_ble_eq_true rfl⟩) hK hN hP hD hS hA 0 rfl rfl rfl hl.1 rfl (Nat.le_of_ble_eq_true rfl) dX3_leastOf_12 ⟨Nat.zero_le _, Nat.zero_le _⟩ (fun v_12 u_12 H locs hq hP hD hS => ?_)
        obtain ⟨rfl, rfl⟩ := hq
        refine zx_bf_ne hx hb (tgt := 24) dX3_leastOf_15 (by decide) (fun c_15 => ?_) (fun c_15 => ?_)
        · refine lv_iload_n hx hb dX3_leastOf_24 rfl (lv_at hl 2 rfl) ?_
          refine lv_sipush (v := nI 128) hx hb dX3_leastOf_25 (by decide) ?_
          refine zx_icmp_ne hx hb (tgt := 35) (by omega) (by omega) dX3_leastOf_28 (by decide) (fun c_28 => ?_) (fun c_28 => ?_)
          · refine lv_iload_n hx hb dX3_leastOf_35 rfl (lv_at hl 2 rfl) ?_
            exact hret _ _ _ _ _ _ hP hD hS dX3_leastOf_36 ⟨zp_lst_k hk9 gk (Or.inr c_15) c_28, rfl⟩
          · refine lv_iconst (v := (-1)) hx hb dX3_leastOf_31 (by decide) ?_
            refine lv_goto (tgt := 36) hx hb dX3_leastOf_32 (by decide) ?_
            exact hret _ _ _ _ _ _ hP hD hS dX3_leastOf_36 ⟨zp_lst_n hk9 gk (Or.inr c_15) c_28, rfl⟩
        · refine lv_iinc (v := nI (k + 1)) (lv' := [(2, .int (nI (k + 1))), (0, .ref (r 0)), (1, .int (nI d))]) hx hb dX3_leastOf_18 hl (k := 2) rfl (zx_inc _ _) (by decide) rfl (fun ls hl => ?_)
          refine lv_goto (tgt := 2) hx hb dX3_leastOf_21 (by decide) ?_
          exact ih_2 (k + 1) (by omega) (by omega) (lt_s gk c_15) _ rfl _ rfl _ _ hP hD hS ls (lv_sub hl [1, 2, 0] rfl)
  exact lp_2 _ 0 (Nat.lt_succ_self _) (Nat.zero_le _) (fun j hj => absurd hj (Nat.not_lt_zero j)) _ rfl _ rfl _ _ hP hD hS ls (lv_sub hl [1, 2, 0] rfl)
set_option maxHeartbeats 4000000 in
set_option maxRecDepth 100000 in
theorem c_X3_peopleOf (l : Launch) (D : va_G) (cI cB : ClassId) (r : Nat → Nat) (s : Nat → Nat) (a : Nat → Nat → Nat) (z : Nat → Int) (h : Int64) (d : Nat) (hI : zm_I s a z) (hd : d < 9) : zx_C zx_ei l D (zm_t cI cB) (zm_w cI cB r) yX3_peopleOf wsX3_peopleOf rmX3_peopleOf [.ref (r 0), .int (nI d)] (s, a, z, h) (fun v u' => v = nI (zp_bits (fun p9 => decide (a 7 p9 = d)) (s 5)) ∧ u' = (s, a, z, h)) := by
  refine zx_of_i (cc := cX3_peopleOf) (maxL := 4) (by decide) rfl (Nat.le_of_ble_eq_true rfl) ?_
  intro p e st m args below meth c A Q H cf hK hN hP hD hS hA hret ls hl
  obtain ⟨hx, hb, hml, hown, hts⟩ := id cf
  have hi3 : ∀ w ∈ wsX30, w ∈ wsX3_peopleOf := fun w h => List.mem_cons_of_mem _ (List.mem_append_right _ h)
  have k82 := hts (.fieldLink RX3 82 "NineDrawersModel" "people" "I") (List.mem_of_getElem? (i := 1) (by decide +kernel))
  have k19 := hts (.fieldLink RX3 19 "NineDrawersModel" "drawerOf" "[I") (List.mem_of_getElem? (i := 2) (by decide +kernel))
  have hl : lv_has ls 4 [(0, .ref (r 0)), (1, .int (nI d))] := hl
  have hP : va_P D vwCl ((zm_w cI cB r) (s, a, z, h)) H := hP
  have hD : va_D A ((zm_w cI cB r) (s, a, z, h)) := hD
  obtain ⟨⟨i0, i1, i3, i5, i9, i13, i14⟩, ⟨i17, i18, i19, i20, i21⟩, iP, iF, iL, iG, iZ, jL, jP, jF⟩ := id hI
  refine lv_iconst (v := nI 0) hx hb dX3_peopleOf_0 (by decide) ?_
  refine lv_istore_n (lv' := [(2, .int (nI 0)), (0, .ref (r 0)), (1, .int (nI d))]) hx hb dX3_peopleOf_1 rfl hl (by decide) rfl (fun ls hl => ?_)
  refine lv_iconst (v := nI 0) hx hb dX3_peopleOf_2 (by decide) ?_
  refine lv_istore_n (lv' := [(3, .int (nI 0)), (2, .int (nI 0)), (0, .ref (r 0)), (1, .int (nI d))]) hx hb dX3_peopleOf_3 rfl hl (by decide) rfl (fun ls hl => ?_)
  have lp_4 : ∀ (n_ : Nat) (k : Nat), s 5 - k < n_ → (k ≤ s 5) → ∀ x1 : Int32, x1 = nI d → ∀ x2 : Int32, x2 = nI (zp_bits (fun p9 => decide (a 7 p9 = d)) k) → ∀ x3 : Int32, x3 = nI k → ∀ (H : Heap) (locs : List Loc), va_P D vwCl ((zm_w cI cB r) (s, a, z, h)) H → va_D A ((zm_w cI cB r) (s, a, z, h)) → va_S A st.heap H locs → ∀ ls : Array Slot, lv_has ls 4 [(0, .ref (r 0)), (1, .int x1), (2, .int x2), (3, .int x3)] → W p l e rmX3_peopleOf st m args below meth c H locs 0 0 Q (F0 m 4 ls []) := by
    intro n_
    induction n_ with
    | zero => intros; omega
    | succ n_ ih_4 =>
      intro k hmu_4 hk9
      intro x1 ex1; subst ex1
      intro x2 ex2; subst ex2
      intro x3 ex3; subst ex3
      intro H locs hP hD hS ls hl
      have hl : lv_has ls 4 [(0, .ref (r 0)), (1, .int (nI d)), (2, .int (nI (zp_bits (fun p9 => decide (a 7 p9 = d)) k))), (3, .int (nI k))] := hl
      refine lv_iload_n hx hb dX3_peopleOf_4 rfl (lv_at hl 3 rfl) ?_
      refine lv_aload_n hx hb dX3_peopleOf_5 rfl (lv_at hl 0 rfl) ?_
      refine va_get (D := D) (ci := 3) (v := .int (nI (s 5))) (C := RX3) (T := TX3) (N := 29) hx hb hts hi3 hown hK hP 0 rfl rfl 5 (by decide) k82 (fun _ h9 => h9) rfl dX3_peopleOf_6 ?_
      refine zx_icmp_ge hx hb (tgt := 38) (by omega) (by omega) dX3_peopleOf_9 (by decide) (fun c_9 => ?_) (fun c_9 => ?_)
      · refine lv_iload_n hx hb dX3_peopleOf_38 rfl (lv_at hl 2 rfl) ?_
        exact hret _ _ _ _ _ _ hP hD hS dX3_peopleOf_39 ⟨by rw [show k = s 5 by omega], rfl⟩
      · refine lv_iload_n hx hb dX3_peopleOf_12 rfl (lv_at hl 2 rfl) ?_
        refine lv_aload_n hx hb dX3_peopleOf_13 rfl (lv_at hl 0 rfl) ?_
        refine va_get (D := D) (ci := 3) (v := .ref (r 7)) (C := RX3) (T := TX3) (N := 29) hx hb hts hi3 hown hK hP 0 rfl rfl 7 (by decide) k19 (fun _ h9 => h9) rfl dX3_peopleOf_14 ?_
        refine lv_iload_n hx hb dX3_peopleOf_17 rfl (lv_at hl 3 rfl) ?_
        refine zx_ald (f := a 7) (n := 6) hx hb hK hP 4 0 rfl rfl (by omega) (by decide) dX3_peopleOf_18 ?_
        refine lv_iload_n hx hb dX3_peopleOf_19 rfl (lv_at hl 1 rfl) ?_
        refine zx_icmp_ne hx hb (tgt := 29) (by have := (iP k (by omega)).2.1; omega) (by omega) dX3_peopleOf_20 (by decide) (fun c_20 => ?_) (fun c_20 => ?_)
        · refine lv_iconst (v := nI 0) hx hb dX3_peopleOf_29 (by decide) ?_
          refine zx_ior hx hb dX3_peopleOf_30 ?_
          refine lv_istore_n (lv' := [(2, .int (nI ((zp_bits (fun p9 => decide (a 7 p9 = d)) k) ||| 0))), (0, .ref (r 0)), (1, .int (nI d)), (3, .int (nI k))]) hx hb dX3_peopleOf_31 rfl hl (by decide) rfl (fun ls hl => ?_)
          refine lv_iinc (v := nI (k + 1)) (lv' := [(3, .int (nI (k + 1))), (2, .int (nI ((zp_bits (fun p9 => decide (a 7 p9 = d)) k) ||| 0))), (0, .ref (r 0)), (1, .int (nI d))]) hx hb dX3_peopleOf_32 hl (k := 3) rfl (zx_inc _ _) (by decide) rfl (fun ls hl => ?_)
          refine lv_goto (tgt := 4) hx hb dX3_peopleOf_35 (by decide) ?_
          exact ih_4 (k + 1) (by omega) (by omega) _ rfl _ (zp_bitsF (f := (fun p9 => decide (a 7 p9 = d))) (decide_eq_false c_20)) _ rfl _ _ hP hD hS ls (lv_sub hl [2, 3, 1, 0] rfl)
        · refine lv_iconst (v := nI 1) hx hb dX3_peopleOf_23 (by decide) ?_
          refine lv_iload_n hx hb dX3_peopleOf_24 rfl (lv_at hl 3 rfl) ?_
          refine zx_ishl1 hx hb (by omega) dX3_peopleOf_25 ?_
          refine lv_goto (tgt := 30) hx hb dX3_peopleOf_26 (by decide) ?_
          refine zx_ior hx hb dX3_peopleOf_30 ?_
          refine lv_istore_n (lv' := [(2, .int (nI ((zp_bits (fun p9 => decide (a 7 p9 = d)) k) ||| (2 ^ k)))), (0, .ref (r 0)), (1, .int (nI d)), (3, .int (nI k))]) hx hb dX3_peopleOf_31 rfl hl (by decide) rfl (fun ls hl => ?_)
          refine lv_iinc (v := nI (k + 1)) (lv' := [(3, .int (nI (k + 1))), (2, .int (nI ((zp_bits (fun p9 => decide (a 7 p9 = d)) k) ||| (2 ^ k)))), (0, .ref (r 0)), (1, .int (nI d))]) hx hb dX3_peopleOf_32 hl (k := 3) rfl (zx_inc _ _) (by decide) rfl (fun ls hl => ?_)
          refine lv_goto (tgt := 4) hx hb dX3_peopleOf_35 (by decide) ?_
          exact ih_4 (k + 1) (by omega) (by omega) _ rfl _ (zp_bitsT (f := (fun p9 => decide (a 7 p9 = d))) (decide_eq_true c_20)) _ rfl _ _ hP hD hS ls (lv_sub hl [2, 3, 1, 0] rfl)
  exact lp_4 _ 0 (Nat.lt_succ_self _) (Nat.zero_le _) _ rfl _ rfl _ rfl _ _ hP hD hS ls (lv_sub hl [2, 3, 1, 0] rfl)
