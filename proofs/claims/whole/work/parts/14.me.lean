set_option maxHeartbeats 4000000 in
set_option maxRecDepth 100000 in
theorem c_X3_fewNow (l : Launch) (D : va_G) (cI cB : ClassId) (r : Nat → Nat) (s : Nat → Nat) (a : Nat → Nat → Nat) (z : Nat → Int) (h : Int64) (d t9 q : Nat) (hI : zm_I s a z) (hd : d < 9) (ht : t9 < 128) (hq : q ≤ 1) : zx_C zx_ei l D (zm_t cI cB) (zm_w cI cB r) yX3_fewNow wsX3_fewNow rmX3_fewNow [.ref (r 0), .int (nI d), .int (nI t9), .int (nI q)] (s, a, z, h) (fun v u' => v = zp_few (zp_bs (fun q9 => zp_eno (zm_f s a d (zp_ah (s 3) (z d)) q9) t9)) q ∧ u' = (s, a, z, h)) := by
  refine zx_of_i (cc := cX3_fewNow) (maxL := 7) (by decide) rfl (Nat.le_of_ble_eq_true rfl) ?_
  intro p e st m args below meth c A Q H cf hK hN hP hD hS hA hret ls hl
  obtain ⟨hx, hb, hml, hown, hts⟩ := id cf
  have hl : lv_has ls 7 [(0, .ref (r 0)), (1, .int (nI d)), (2, .int (nI t9)), (3, .int (nI q))] := hl
  have hP : va_P D vwCl ((zm_w cI cB r) (s, a, z, h)) H := hP
  have hD : va_D A ((zm_w cI cB r) (s, a, z, h)) := hD
  obtain ⟨⟨i0, i1, i3, i5, i9, i13, i14⟩, ⟨i17, i18, i19, i20, i21⟩, iP, iF, iL, iG, iZ, jL, jP, jF⟩ := id hI
  refine lv_iconst (v := (-1)) hx hb dX3_fewNow_0 (by decide) ?_
  refine lv_istore (lv' := [(4, .int (-1)), (0, .ref (r 0)), (1, .int (nI d)), (2, .int (nI t9)), (3, .int (nI q))]) hx hb dX3_fewNow_1 hl (by decide) rfl (fun ls hl => ?_)
  refine lv_iconst (v := nI 0) hx hb dX3_fewNow_3 (by decide) ?_
  refine lv_istore (lv' := [(5, .int (nI 0)), (4, .int (-1)), (0, .ref (r 0)), (1, .int (nI d)), (2, .int (nI t9)), (3, .int (nI q))]) hx hb dX3_fewNow_4 hl (by decide) rfl (fun ls hl => ?_)
  have lp_6 : ∀ (n_ : Nat) (i : Nat), 128 - i < n_ → (i ≤ 128) → ∀ x1 : Int32, x1 = nI d → ∀ x2 : Int32, x2 = nI t9 → ∀ x3 : Int32, x3 = nI q → ∀ x4 : Int32, x4 = (zp_o (zp_bst (fun q9 => zp_eno (zm_f s a d (zp_ah (s 3) (z d)) q9) t9) i)) → ∀ x5 : Int32, x5 = nI i → ∀ (H : Heap) (locs : List Loc), va_P D vwCl ((zm_w cI cB r) (s, a, z, h)) H → va_D A ((zm_w cI cB r) (s, a, z, h)) → va_S A st.heap H locs → ∀ ls : Array Slot, lv_has ls 7 [(0, .ref (r 0)), (1, .int x1), (2, .int x2), (3, .int x3), (4, .int x4), (5, .int x5)] → W p l e rmX3_fewNow st m args below meth c H locs 0 0 Q (F0 m 6 ls []) := by
    intro n_
    induction n_ with
    | zero => intros; omega
    | succ n_ ih_6 =>
      intro i hmu_6 hi9
      intro x1 ex1; subst ex1
      intro x2 ex2; subst ex2
      intro x3 ex3; subst ex3
      intro x4 ex4; subst ex4
      intro x5 ex5; subst ex5
      intro H locs hP hD hS ls hl
      have hl : lv_has ls 7 [(0, .ref (r 0)), (1, .int (nI d)), (2, .int (nI t9)), (3, .int (nI q)), (4, .int (zp_o (zp_bst (fun q9 => zp_eno (zm_f s a d (zp_ah (s 3) (z d)) q9) t9) i))), (5, .int (nI i))] := hl
      refine lv_iload hx hb dX3_fewNow_6 (lv_at hl 5 rfl) ?_
      refine lv_sipush (v := nI 128) hx hb dX3_fewNow_8 (by decide) ?_
      refine zx_icmp_ge hx hb (tgt := 71) (by omega) (by omega) dX3_fewNow_11 (by decide) (fun c_11 => ?_) (fun c_11 => ?_)
      · refine lv_iload hx hb dX3_fewNow_71 (lv_at hl 4 rfl) ?_
        refine lv_iconst (v := (-1)) hx hb dX3_fewNow_73 (by decide) ?_
        refine lv_icmp_eq (tgt := 82) hx hb dX3_fewNow_74 (by decide) (fun c_74 => ?_) (fun c_74 => ?_)
        · refine lv_iload hx hb dX3_fewNow_82 (lv_at hl 4 rfl) ?_
          refine lv_goto (tgt := 92) hx hb dX3_fewNow_84 (by decide) ?_
          exact hret _ _ _ _ _ _ hP hD hS dX3_fewNow_92 ⟨by rw [zp_bs_eq]; rw [show i = 128 by omega] at c_74 ⊢; exact zp_few_n (zp_o_none (fun k hk => by have := zp_bst_lt hk; omega) c_74), rfl⟩
        · obtain ⟨b9, hb9⟩ := zp_o_some c_74
          have hbl := zp_bst_lt hb9
          rw [hb9] at hl
          refine lv_iload_n hx hb dX3_fewNow_77 rfl (lv_at hl 3 rfl) ?_
          refine lv_iconst (v := nI 1) hx hb dX3_fewNow_78 (by decide) ?_
          refine zx_icmp_ne hx hb (tgt := 87) (by omega) (by omega) dX3_fewNow_79 (by decide) (fun c_79 => ?_) (fun c_79 => ?_)
          · refine lv_iload hx hb dX3_fewNow_87 (lv_at hl 4 rfl) ?_
            refine zx_S (As := [.int (nI b9)]) (rest := []) cf (c_X3_size l D b9 (by omega)) (va_cwS 1 hts gX3_fewNow_X3_size rfl rfl rfl hd_X3_size ⟨Nat.le_of_ble_eq_true rfl, Nat.le_of_ble_eq_true rfl⟩) hK hN hP hS hA rfl hl.1 rfl (Nat.le_of_ble_eq_true rfl) dX3_fewNow_89 ⟨Nat.zero_le _, Nat.zero_le _⟩ (fun H locs hP hS => ?_)
            exact hret _ _ _ _ _ _ hP hD hS dX3_fewNow_92 ⟨by rw [show i = 128 by omega] at hb9; rw [zp_bs_eq, hb9]; exact (if_neg c_79).symm, rfl⟩
          · refine lv_iload hx hb dX3_fewNow_82 (lv_at hl 4 rfl) ?_
            refine lv_goto (tgt := 92) hx hb dX3_fewNow_84 (by decide) ?_
            exact hret _ _ _ _ _ _ hP hD hS dX3_fewNow_92 ⟨by rw [show i = 128 by omega] at hb9; rw [zp_bs_eq, hb9, c_79]; rfl, rfl⟩
      · refine lv_iload hx hb dX3_fewNow_14 (lv_at hl 4 rfl) ?_
        refine lv_iconst (v := (-1)) hx hb dX3_fewNow_16 (by decide) ?_
        refine lv_icmp_eq (tgt := 33) hx hb dX3_fewNow_17 (by decide) (fun c_17 => ?_) (fun c_17 => ?_)
        · refine lv_iconst (v := nI 1) hx hb dX3_fewNow_33 (by decide) ?_
          refine lv_goto (tgt := 38) hx hb dX3_fewNow_34 (by decide) ?_
          refine lv_istore (lv' := [(6, .int (nI 1)), (0, .ref (r 0)), (1, .int (nI d)), (2, .int (nI t9)), (3, .int (nI q)), (4, .int (zp_o (zp_bst (fun q9 => zp_eno (zm_f s a d (zp_ah (s 3) (z d)) q9) t9) i))), (5, .int (nI i))]) hx hb dX3_fewNow_38 hl (by decide) rfl (fun ls hl => ?_)
          refine lv_iload hx hb dX3_fewNow_40 (lv_at hl 0 rfl) ?_
          refine zx_if_eq hx hb (tgt := 61) (by omega) dX3_fewNow_42 (by decide) (fun c_42 => ?_) (fun c_42 => ?_)
          · exact absurd c_42 (by decide)
          · refine lv_aload_n hx hb dX3_fewNow_45 rfl (lv_at hl 1 rfl) ?_
            refine lv_iload_n hx hb dX3_fewNow_46 rfl (lv_at hl 2 rfl) ?_
            refine lv_iload_n hx hb dX3_fewNow_47 rfl (lv_at hl 3 rfl) ?_
            refine lv_iload hx hb dX3_fewNow_48 (lv_at hl 6 rfl) ?_
            refine zx_V_i (As := [.int (nI d), .int (nI t9), .int (nI i)]) (rest := []) cf (c_X3_isEnough l D cI cB r s a z h d t9 i hI (by omega) (by omega) (by omega)) (cwV 3 hts gX3_fewNow_X3_isEnough rfl rfl rfl ⟨rfl, hd_X3_isEnough⟩ ⟨Nat.le_of_ble_eq_true rfl, Nat.le_of_ble_eq_true rfl⟩) hK hN hP hD hS hA 0 rfl rfl rfl hl.1 rfl (Nat.le_of_ble_eq_true rfl) dX3_fewNow_50 ⟨Nat.zero_le _, Nat.zero_le _⟩ (fun v_50 u_50 H locs hq hP hD hS => ?_)
            obtain ⟨rfl, rfl⟩ := hq
            refine zx_bf_eq hx hb (tgt := 61) dX3_fewNow_53 (by decide) (fun c_53 => ?_) (fun c_53 => ?_)
            · refine lv_iload hx hb dX3_fewNow_61 (lv_at hl 5 rfl) ?_
              refine lv_istore (lv' := [(4, .int (zp_o (zp_bst (fun q9 => zp_eno (zm_f s a d (zp_ah (s 3) (z d)) q9) t9) i))), (6, .int (nI 1)), (0, .ref (r 0)), (1, .int (nI d)), (2, .int (nI t9)), (3, .int (nI q)), (5, .int (nI i))]) hx hb dX3_fewNow_63 hl (by decide) rfl (fun ls hl => ?_)
              refine lv_iinc (v := nI (i + 1)) (lv' := [(5, .int (nI (i + 1))), (4, .int (zp_o (zp_bst (fun q9 => zp_eno (zm_f s a d (zp_ah (s 3) (z d)) q9) t9) i))), (6, .int (nI 1)), (0, .ref (r 0)), (1, .int (nI d)), (2, .int (nI t9)), (3, .int (nI q))]) hx hb dX3_fewNow_65 hl (k := 6) rfl (zx_inc _ _) (by decide) rfl (fun ls hl => ?_)
              refine lv_goto (tgt := 6) hx hb dX3_fewNow_68 (by decide) ?_
              exact ih_6 (i + 1) (by omega) (by omega) _ rfl _ rfl _ rfl _ (zp_bst_n0 (zp_o_none (fun k hk => by have := zp_bst_lt hk; omega) c_17) c_53) _ rfl _ _ hP hD hS ls (lv_sub hl [3, 4, 5, 6, 1, 0] rfl)
            · refine lv_iload hx hb dX3_fewNow_56 (lv_at hl 6 rfl) ?_
              refine lv_goto (tgt := 63) hx hb dX3_fewNow_58 (by decide) ?_
              refine lv_istore (lv' := [(4, .int (nI i)), (6, .int (nI 1)), (0, .ref (r 0)), (1, .int (nI d)), (2, .int (nI t9)), (3, .int (nI q)), (5, .int (nI i))]) hx hb dX3_fewNow_63 hl (by decide) rfl (fun ls hl => ?_)
              refine lv_iinc (v := nI (i + 1)) (lv' := [(5, .int (nI (i + 1))), (4, .int (nI i)), (6, .int (nI 1)), (0, .ref (r 0)), (1, .int (nI d)), (2, .int (nI t9)), (3, .int (nI q))]) hx hb dX3_fewNow_65 hl (k := 6) rfl (zx_inc _ _) (by decide) rfl (fun ls hl => ?_)
              refine lv_goto (tgt := 6) hx hb dX3_fewNow_68 (by decide) ?_
              exact ih_6 (i + 1) (by omega) (by omega) _ rfl _ rfl _ rfl _ (zp_bst_n1 (zp_o_none (fun k hk => by have := zp_bst_lt hk; omega) c_17) c_53) _ rfl _ _ hP hD hS ls (lv_sub hl [3, 4, 5, 6, 1, 0] rfl)
        · obtain ⟨b9, hb9⟩ := zp_o_some c_17
          have hbl := zp_bst_lt hb9
          rw [hb9] at hl
          refine lv_iload hx hb dX3_fewNow_20 (lv_at hl 5 rfl) ?_
          refine zx_S (As := [.int (nI i)]) (rest := []) cf (c_X3_size l D i (by omega)) (va_cwS 1 hts gX3_fewNow_X3_size rfl rfl rfl hd_X3_size ⟨Nat.le_of_ble_eq_true rfl, Nat.le_of_ble_eq_true rfl⟩) hK hN hP hS hA rfl hl.1 rfl (Nat.le_of_ble_eq_true rfl) dX3_fewNow_22 ⟨Nat.zero_le _, Nat.zero_le _⟩ (fun H locs hP hS => ?_)
          refine lv_iload hx hb dX3_fewNow_25 (lv_at hl 4 rfl) ?_
          refine zx_S (As := [.int (nI b9)]) (rest := [.int (nI (zp_pc i))]) cf (c_X3_size l D b9 (by omega)) (va_cwS 1 hts gX3_fewNow_X3_size rfl rfl rfl hd_X3_size ⟨Nat.le_of_ble_eq_true rfl, Nat.le_of_ble_eq_true rfl⟩) hK hN hP hS hA rfl hl.1 rfl (Nat.le_of_ble_eq_true rfl) dX3_fewNow_27 ⟨Nat.zero_le _, Nat.zero_le _⟩ (fun H locs hP hS => ?_)
          refine zx_icmp_ge hx hb (tgt := 37) (zp_pc_lt _) (zp_pc_lt _) dX3_fewNow_30 (by decide) (fun c_30 => ?_) (fun c_30 => ?_)
          · refine lv_iconst (v := nI 0) hx hb dX3_fewNow_37 (by decide) ?_
            refine lv_istore (lv' := [(6, .int (nI 0)), (0, .ref (r 0)), (1, .int (nI d)), (2, .int (nI t9)), (3, .int (nI q)), (4, .int (nI b9)), (5, .int (nI i))]) hx hb dX3_fewNow_38 hl (by decide) rfl (fun ls hl => ?_)
            refine lv_iload hx hb dX3_fewNow_40 (lv_at hl 0 rfl) ?_
            refine zx_if_eq hx hb (tgt := 61) (by omega) dX3_fewNow_42 (by decide) (fun c_42 => ?_) (fun c_42 => ?_)
            · refine lv_iload hx hb dX3_fewNow_61 (lv_at hl 5 rfl) ?_
              refine lv_istore (lv' := [(4, .int (nI b9)), (6, .int (nI 0)), (0, .ref (r 0)), (1, .int (nI d)), (2, .int (nI t9)), (3, .int (nI q)), (5, .int (nI i))]) hx hb dX3_fewNow_63 hl (by decide) rfl (fun ls hl => ?_)
              refine lv_iinc (v := nI (i + 1)) (lv' := [(5, .int (nI (i + 1))), (4, .int (nI b9)), (6, .int (nI 0)), (0, .ref (r 0)), (1, .int (nI d)), (2, .int (nI t9)), (3, .int (nI q))]) hx hb dX3_fewNow_65 hl (k := 6) rfl (zx_inc _ _) (by decide) rfl (fun ls hl => ?_)
              refine lv_goto (tgt := 6) hx hb dX3_fewNow_68 (by decide) ?_
              exact ih_6 (i + 1) (by omega) (by omega) _ rfl _ rfl _ rfl _ (zp_bst_s0 hb9 (Or.inl c_30)) _ rfl _ _ hP hD hS ls (lv_sub hl [3, 4, 5, 6, 1, 0] rfl)
            · exact absurd c_42 (by decide)
          · refine lv_iconst (v := nI 1) hx hb dX3_fewNow_33 (by decide) ?_
            refine lv_goto (tgt := 38) hx hb dX3_fewNow_34 (by decide) ?_
            refine lv_istore (lv' := [(6, .int (nI 1)), (0, .ref (r 0)), (1, .int (nI d)), (2, .int (nI t9)), (3, .int (nI q)), (4, .int (nI b9)), (5, .int (nI i))]) hx hb dX3_fewNow_38 hl (by decide) rfl (fun ls hl => ?_)
            refine lv_iload hx hb dX3_fewNow_40 (lv_at hl 0 rfl) ?_
            refine zx_if_eq hx hb (tgt := 61) (by omega) dX3_fewNow_42 (by decide) (fun c_42 => ?_) (fun c_42 => ?_)
            · exact absurd c_42 (by decide)
            · refine lv_aload_n hx hb dX3_fewNow_45 rfl (lv_at hl 1 rfl) ?_
              refine lv_iload_n hx hb dX3_fewNow_46 rfl (lv_at hl 2 rfl) ?_
              refine lv_iload_n hx hb dX3_fewNow_47 rfl (lv_at hl 3 rfl) ?_
              refine lv_iload hx hb dX3_fewNow_48 (lv_at hl 6 rfl) ?_
              refine zx_V_i (As := [.int (nI d), .int (nI t9), .int (nI i)]) (rest := []) cf (c_X3_isEnough l D cI cB r s a z h d t9 i hI (by omega) (by omega) (by omega)) (cwV 3 hts gX3_fewNow_X3_isEnough rfl rfl rfl ⟨rfl, hd_X3_isEnough⟩ ⟨Nat.le_of_ble_eq_true rfl, Nat.le_of_ble_eq_true rfl⟩) hK hN hP hD hS hA 0 rfl rfl rfl hl.1 rfl (Nat.le_of_ble_eq_true rfl) dX3_fewNow_50 ⟨Nat.zero_le _, Nat.zero_le _⟩ (fun v_50 u_50 H locs hq hP hD hS => ?_)
              obtain ⟨rfl, rfl⟩ := hq
              refine zx_bf_eq hx hb (tgt := 61) dX3_fewNow_53 (by decide) (fun c_53 => ?_) (fun c_53 => ?_)
              · refine lv_iload hx hb dX3_fewNow_61 (lv_at hl 5 rfl) ?_
                refine lv_istore (lv' := [(4, .int (nI b9)), (6, .int (nI 1)), (0, .ref (r 0)), (1, .int (nI d)), (2, .int (nI t9)), (3, .int (nI q)), (5, .int (nI i))]) hx hb dX3_fewNow_63 hl (by decide) rfl (fun ls hl => ?_)
                refine lv_iinc (v := nI (i + 1)) (lv' := [(5, .int (nI (i + 1))), (4, .int (nI b9)), (6, .int (nI 1)), (0, .ref (r 0)), (1, .int (nI d)), (2, .int (nI t9)), (3, .int (nI q))]) hx hb dX3_fewNow_65 hl (k := 6) rfl (zx_inc _ _) (by decide) rfl (fun ls hl => ?_)
                refine lv_goto (tgt := 6) hx hb dX3_fewNow_68 (by decide) ?_
                exact ih_6 (i + 1) (by omega) (by omega) _ rfl _ rfl _ rfl _ (zp_bst_s0 hb9 (Or.inr c_53)) _ rfl _ _ hP hD hS ls (lv_sub hl [3, 4, 5, 6, 1, 0] rfl)
              · refine lv_iload hx hb dX3_fewNow_56 (lv_at hl 6 rfl) ?_
                refine lv_goto (tgt := 63) hx hb dX3_fewNow_58 (by decide) ?_
                refine lv_istore (lv' := [(4, .int (nI i)), (6, .int (nI 1)), (0, .ref (r 0)), (1, .int (nI d)), (2, .int (nI t9)), (3, .int (nI q)), (5, .int (nI i))]) hx hb dX3_fewNow_63 hl (by decide) rfl (fun ls hl => ?_)
                refine lv_iinc (v := nI (i + 1)) (lv' := [(5, .int (nI (i + 1))), (4, .int (nI i)), (6, .int (nI 1)), (0, .ref (r 0)), (1, .int (nI d)), (2, .int (nI t9)), (3, .int (nI q))]) hx hb dX3_fewNow_65 hl (k := 6) rfl (zx_inc _ _) (by decide) rfl (fun ls hl => ?_)
                refine lv_goto (tgt := 6) hx hb dX3_fewNow_68 (by decide) ?_
                exact ih_6 (i + 1) (by omega) (by omega) _ rfl _ rfl _ rfl _ (zp_bst_s1 hb9 c_30 c_53) _ rfl _ _ hP hD hS ls (lv_sub hl [3, 4, 5, 6, 1, 0] rfl)
  exact lp_6 _ 0 (Nat.lt_succ_self _) (Nat.zero_le _) _ rfl _ rfl _ rfl _ rfl _ rfl _ _ hP hD hS ls (lv_sub hl [2, 3, 4, 5, 1, 0] rfl)
set_option maxHeartbeats 4000000 in
set_option maxRecDepth 100000 in
theorem c_X3_few (l : Launch) (D : va_G) (cI cB : ClassId) (r : Nat → Nat) (s : Nat → Nat) (a : Nat → Nat → Nat) (z : Nat → Int) (h : Int64) (x y w9 : Int32) (hI : zm_I s a z) : zx_C zx_ei l D (zm_t cI cB) (zm_w cI cB r) yX3_few wsX3_few rmX3_few [.ref (r 0), .int x, .int y, .int w9] (s, a, z, h) (fun v u' => zd_out (zd_few (zd_drw (s 0) x) (s 13) y w9) (fun e9 => v = e9 ∧ u' = (s, a, z, h)) (fun k => v = zp_few (zp_bs (fun q9 => zp_eno (zm_f s a k.1 (zp_ah (s 3) (z k.1)) q9) k.2.1)) k.2.2 ∧ u' = (zx_up s 13 (s 13 + 1), a, z, h))) := by
  refine zx_of_i (cc := cX3_few) (maxL := 4) (by decide) rfl (Nat.le_of_ble_eq_true rfl) ?_
  intro p e st m args below meth c A Q H cf hK hN hP hD hS hA hret ls hl
  obtain ⟨hx, hb, hml, hown, hts⟩ := id cf
  have hi3 : ∀ w ∈ wsX30, w ∈ wsX3_few := fun w h => List.mem_cons_of_mem _ (List.mem_append_right _ h)
  have k147 := hts (.fieldLink RX3 147 "NineDrawersModel" "asks" "I") (List.mem_of_getElem? (i := 1) (by decide +kernel))
  have hl : lv_has ls 4 [(0, .ref (r 0)), (1, .int x), (2, .int y), (3, .int w9)] := hl
  have hP : va_P D vwCl ((zm_w cI cB r) (s, a, z, h)) H := hP
  have hD : va_D A ((zm_w cI cB r) (s, a, z, h)) := hD
  obtain ⟨⟨i0, i1, i3, i5, i9, i13, i14⟩, ⟨i17, i18, i19, i20, i21⟩, iP, iF, iL, iG, iZ, jL, jP, jF⟩ := id hI
  refine lv_aload_n hx hb dX3_few_0 rfl (lv_at hl 0 rfl) ?_
  refine lv_iload_n hx hb dX3_few_1 rfl (lv_at hl 1 rfl) ?_
  refine zx_V_i (As := [.int x]) (rest := []) cf (c_X3_isDrawer l D cI cB r s a z h x hI ) (cwV 1 hts gX3_few_X3_isDrawer rfl rfl rfl ⟨rfl, hd_X3_isDrawer⟩ ⟨Nat.le_of_ble_eq_true rfl, Nat.le_of_ble_eq_true rfl⟩) hK hN hP hD hS hA 0 rfl rfl rfl hl.1 rfl (Nat.le_of_ble_eq_true rfl) dX3_few_2 ⟨Nat.zero_le _, Nat.zero_le _⟩ (fun v_2 u_2 H locs hq hP hD hS => ?_)
  obtain ⟨rfl, rfl⟩ := hq
  refine zx_bf_ne hx hb (tgt := 11) dX3_few_5 (by decide) (fun c_5 => ?_) (fun c_5 => ?_)
  · obtain ⟨d, hz⟩ := zd_some c_5
    obtain ⟨rfl, hd, hc9⟩ := zd_drw_some hz
    refine lv_iload_n hx hb dX3_few_11 rfl (lv_at hl 2 rfl) ?_
    refine lv_iconst (v := nI 0) hx hb dX3_few_12 (by decide) ?_
    refine lv_bipush (v := nI 127) hx hb dX3_few_13 (by decide) ?_
    refine zx_S (As := [.int y, .int (nI 0), .int (nI 127)]) (rest := []) cf (c_X3_within l D y (nI 0) (nI 127) ) (va_cwS 3 hts gX3_few_X3_within rfl rfl rfl hd_X3_within ⟨Nat.le_of_ble_eq_true rfl, Nat.le_of_ble_eq_true rfl⟩) hK hN hP hS hA rfl hl.1 rfl (Nat.le_of_ble_eq_true rfl) dX3_few_15 ⟨Nat.zero_le _, Nat.zero_le _⟩ (fun H locs hP hS => ?_)
    refine zx_bf_eq hx hb (tgt := 30) dX3_few_18 (by decide) (fun c_18 => ?_) (fun c_18 => ?_)
    · refine lv_bipush (v := (-102)) hx hb dX3_few_30 (by decide) ?_
      exact hret _ _ _ _ _ _ hP hD hS dX3_few_32 (zd_inl (by unfold zd_few; simp only [hz, zd_nos c_18]) ⟨rfl, rfl⟩)
    · obtain ⟨t9, rfl, ht1, ht2, hy⟩ := zd_yes (by decide) (by decide) c_18
      refine lv_iload_n hx hb dX3_few_21 rfl (lv_at hl 3 rfl) ?_
      refine lv_iconst (v := nI 0) hx hb dX3_few_22 (by decide) ?_
      refine lv_iconst (v := nI 1) hx hb dX3_few_23 (by decide) ?_
      refine zx_S (As := [.int w9, .int (nI 0), .int (nI 1)]) (rest := []) cf (c_X3_within l D w9 (nI 0) (nI 1) ) (va_cwS 3 hts gX3_few_X3_within rfl rfl rfl hd_X3_within ⟨Nat.le_of_ble_eq_true rfl, Nat.le_of_ble_eq_true rfl⟩) hK hN hP hS hA rfl hl.1 rfl (Nat.le_of_ble_eq_true rfl) dX3_few_24 ⟨Nat.zero_le _, Nat.zero_le _⟩ (fun H locs hP hS => ?_)
      refine zx_bf_ne hx hb (tgt := 33) dX3_few_27 (by decide) (fun c_27 => ?_) (fun c_27 => ?_)
      · obtain ⟨q, rfl, hq1, hq2, hw⟩ := zd_yes (by decide) (by decide) c_27
        refine lv_aload_n hx hb dX3_few_33 rfl (lv_at hl 0 rfl) ?_
        refine va_get (D := D) (ci := 3) (v := .int (nI (s 13))) (C := RX3) (T := TX3) (N := 29) hx hb hts hi3 hown hK hP 0 rfl rfl 13 (by decide) k147 (fun _ h9 => h9) rfl dX3_few_34 ?_
        refine lv_bipush (v := nI 40) hx hb dX3_few_37 (by decide) ?_
        refine zx_icmp_ne hx hb (tgt := 45) (by omega) (by omega) dX3_few_39 (by decide) (fun c_39 => ?_) (fun c_39 => ?_)
        · have hI1 : zm_I (zx_up s 13 (s 13 + 1)) a z := ⟨⟨i0, i1, i3, i5, i9, (by show s 13 + 1 ≤ 40; omega), i14⟩, ⟨i17, i18, i19, i20, i21⟩, iP, iF, iL, iG, iZ, jL, jP, jF⟩
          refine lv_aload_n hx hb dX3_few_45 rfl (lv_at hl 0 rfl) ?_
          refine lv_dup hx hb dX3_few_46 rfl ?_
          refine va_get (D := D) (ci := 3) (v := .int (nI (s 13))) (C := RX3) (T := TX3) (N := 29) hx hb hts hi3 hown hK hP 0 rfl rfl 13 (by decide) k147 (fun _ h9 => h9) rfl dX3_few_47 ?_
          refine lv_iconst (v := nI 1) hx hb dX3_few_50 (by decide) ?_
          refine zx_iadd hx hb dX3_few_51 ?_
          refine zx_put (D := D) (ci := 3) (ty := .int) (v := .int (nI ((s 13) + 1))) (ws' := (zm_w cI cB r) ((zx_up s 13 ((s 13) + 1)), a, z, h)) (C := RX3) (T := TX3) (N := 29) hx hb hts hi3 tyX3 tyX3_ok nmX3 hown hK hP hD hS 0 rfl rfl 13 (by decide) k147 (fun _ h9 => h9) rfl (by decide +kernel) rfl rfl (Nat.le_of_ble_eq_true rfl) rfl dX3_few_52 (fun H locs hP hD hS => ?_)
          refine lv_aload_n hx hb dX3_few_55 rfl (lv_at hl 0 rfl) ?_
          refine lv_iload_n hx hb dX3_few_56 rfl (lv_at hl 1 rfl) ?_
          refine lv_iload_n hx hb dX3_few_57 rfl (lv_at hl 2 rfl) ?_
          refine lv_iload_n hx hb dX3_few_58 rfl (lv_at hl 3 rfl) ?_
          refine zx_V_i (As := [.int (nI d), .int (nI t9), .int (nI q)]) (rest := []) cf (c_X3_fewNow l D cI cB r (zx_up s 13 ((s 13) + 1)) a z h d t9 q hI1 (by omega) (by omega) (by omega)) (cwV 3 hts gX3_few_X3_fewNow rfl rfl rfl ⟨rfl, hd_X3_fewNow⟩ ⟨Nat.le_of_ble_eq_true rfl, Nat.le_of_ble_eq_true rfl⟩) hK hN hP hD hS hA 0 rfl rfl rfl hl.1 rfl (Nat.le_of_ble_eq_true rfl) dX3_few_59 ⟨Nat.zero_le _, Nat.zero_le _⟩ (fun v_59 u_59 H locs hq hP hD hS => ?_)
          obtain ⟨rfl, rfl⟩ := hq
          refine zx_topi (y := (zp_few (zp_bs (fun q9 => zp_eno (zm_f s a d (zp_ah (s 3) (z d)) q9) t9)) q)) (congrArg (fun F9 => zp_few (zp_bs F9) q) (funext (fun q9 => congrArg (fun f9 => zp_eno f9 t9) rfl))) ?_
          exact hret _ _ _ _ _ _ hP hD hS dX3_few_62 (zd_inr (k := (d, t9, q)) (by unfold zd_few; simp only [hz, hy, hw]; exact if_neg c_39) ⟨rfl, rfl⟩)
        · refine lv_bipush (v := (-103)) hx hb dX3_few_42 (by decide) ?_
          exact hret _ _ _ _ _ _ hP hD hS dX3_few_44 (zd_inl (by unfold zd_few; simp only [hz, hy, hw]; exact if_pos c_39) ⟨rfl, rfl⟩)
      · refine lv_bipush (v := (-102)) hx hb dX3_few_30 (by decide) ?_
        exact hret _ _ _ _ _ _ hP hD hS dX3_few_32 (zd_inl (by unfold zd_few; simp only [hz, hy, zd_nos c_27]) ⟨rfl, rfl⟩)
  · refine lv_bipush (v := (-101)) hx hb dX3_few_8 (by decide) ?_
    exact hret _ _ _ _ _ _ hP hD hS dX3_few_10 (zd_inl (by rw [zd_none c_5]; rfl) ⟨rfl, rfl⟩)
set_option maxHeartbeats 4000000 in
set_option maxRecDepth 100000 in
theorem c_X3_found (l : Launch) (D : va_G) (cI cB : ClassId) (r : Nat → Nat) (s : Nat → Nat) (a : Nat → Nat → Nat) (z : Nat → Int) (h : Int64) (x y : Int32) (b : Bool) (hI : zm_I s a z) : zx_C zx_ei l D (zm_t cI cB) (zm_w cI cB r) yX3_found wsX3_found rmX3_found [.ref (r 0), .int x, .int y, .int (zx_b b)] (s, a, z, h) (fun v u' => zd_out (zd_found (zd_drw (s 0) x) (zd_rng 0 6 y) (s 9)) (fun e9 => v = e9 ∧ u' = (s, a, z, h)) (fun k => v = nI (s 9 + 1) ∧ u' = (zx_up s 9 (s 9 + 1), zx_up (zx_up (zx_up a 10 (zx_up (a 10) (s 9) k.1)) 11 (zx_up (a 11) (s 9) k.2)) 12 (zx_up (a 12) (s 9) (zx_n b)), z, h))) := by
  refine zx_of_i (cc := cX3_found) (maxL := 4) (by decide) rfl (Nat.le_of_ble_eq_true rfl) ?_
  intro p e st m args below meth c A Q H cf hK hN hP hD hS hA hret ls hl
  obtain ⟨hx, hb, hml, hown, hts⟩ := id cf
  have hi3 : ∀ w ∈ wsX30, w ∈ wsX3_found := fun w h => List.mem_cons_of_mem _ (List.mem_append_right _ h)
  have k85 := hts (.fieldLink RX3 85 "NineDrawersModel" "found" "I") (List.mem_of_getElem? (i := 1) (by decide +kernel))
  have k25 := hts (.fieldLink RX3 25 "NineDrawersModel" "foundIn" "[I") (List.mem_of_getElem? (i := 2) (by decide +kernel))
  have k28 := hts (.fieldLink RX3 28 "NineDrawersModel" "foundOn" "[I") (List.mem_of_getElem? (i := 3) (by decide +kernel))
  have k31 := hts (.fieldLink RX3 31 "NineDrawersModel" "foundIs" "[I") (List.mem_of_getElem? (i := 4) (by decide +kernel))
  have hl : lv_has ls 4 [(0, .ref (r 0)), (1, .int x), (2, .int y), (3, .int (zx_b b))] := hl
  have hP : va_P D vwCl ((zm_w cI cB r) (s, a, z, h)) H := hP
  have hD : va_D A ((zm_w cI cB r) (s, a, z, h)) := hD
  obtain ⟨⟨i0, i1, i3, i5, i9, i13, i14⟩, ⟨i17, i18, i19, i20, i21⟩, iP, iF, iL, iG, iZ, jL, jP, jF⟩ := id hI
  refine lv_aload_n hx hb dX3_found_0 rfl (lv_at hl 0 rfl) ?_
  refine lv_iload_n hx hb dX3_found_1 rfl (lv_at hl 1 rfl) ?_
  refine zx_V_i (As := [.int x]) (rest := []) cf (c_X3_isDrawer l D cI cB r s a z h x hI ) (cwV 1 hts gX3_found_X3_isDrawer rfl rfl rfl ⟨rfl, hd_X3_isDrawer⟩ ⟨Nat.le_of_ble_eq_true rfl, Nat.le_of_ble_eq_true rfl⟩) hK hN hP hD hS hA 0 rfl rfl rfl hl.1 rfl (Nat.le_of_ble_eq_true rfl) dX3_found_2 ⟨Nat.zero_le _, Nat.zero_le _⟩ (fun v_2 u_2 H locs hq hP hD hS => ?_)
  obtain ⟨rfl, rfl⟩ := hq
  refine zx_bf_eq hx hb (tgt := 15) dX3_found_5 (by decide) (fun c_5 => ?_) (fun c_5 => ?_)
  · refine lv_bipush (v := (-101)) hx hb dX3_found_15 (by decide) ?_
    exact hret _ _ _ _ _ _ hP hD hS dX3_found_17 (zd_inl (by rw [zd_none c_5]; rfl) ⟨rfl, rfl⟩)
  · obtain ⟨d, hz⟩ := zd_some c_5
    obtain ⟨rfl, hd, hc9⟩ := zd_drw_some hz
    refine lv_iload_n hx hb dX3_found_8 rfl (lv_at hl 2 rfl) ?_
    refine zx_S (As := [.int y]) (rest := []) cf (c_X3_isDay l D y ) (va_cwS 1 hts gX3_found_X3_isDay rfl rfl rfl hd_X3_isDay ⟨Nat.le_of_ble_eq_true rfl, Nat.le_of_ble_eq_true rfl⟩) hK hN hP hS hA rfl hl.1 rfl (Nat.le_of_ble_eq_true rfl) dX3_found_9 ⟨Nat.zero_le _, Nat.zero_le _⟩ (fun H locs hP hS => ?_)
    refine zx_bf_ne hx hb (tgt := 18) dX3_found_12 (by decide) (fun c_12 => ?_) (fun c_12 => ?_)
    · obtain ⟨o, rfl, ho1, ho2, hy⟩ := zd_yes (by decide) (by decide) c_12
      refine lv_aload_n hx hb dX3_found_18 rfl (lv_at hl 0 rfl) ?_
      refine va_get (D := D) (ci := 3) (v := .int (nI (s 9))) (C := RX3) (T := TX3) (N := 29) hx hb hts hi3 hown hK hP 0 rfl rfl 9 (by decide) k85 (fun _ h9 => h9) rfl dX3_found_19 ?_
      refine lv_bipush (v := nI 8) hx hb dX3_found_22 (by decide) ?_
      refine zx_icmp_ne hx hb (tgt := 30) (by omega) (by omega) dX3_found_24 (by decide) (fun c_24 => ?_) (fun c_24 => ?_)
      · refine lv_aload_n hx hb dX3_found_30 rfl (lv_at hl 0 rfl) ?_
        refine va_get (D := D) (ci := 3) (v := .ref (r 10)) (C := RX3) (T := TX3) (N := 29) hx hb hts hi3 hown hK hP 0 rfl rfl 10 (by decide) k25 (fun _ h9 => h9) rfl dX3_found_31 ?_
        refine lv_aload_n hx hb dX3_found_34 rfl (lv_at hl 0 rfl) ?_
        refine va_get (D := D) (ci := 3) (v := .int (nI (s 9))) (C := RX3) (T := TX3) (N := 29) hx hb hts hi3 hown hK hP 0 rfl rfl 9 (by decide) k85 (fun _ h9 => h9) rfl dX3_found_35 ?_
        refine lv_iload_n hx hb dX3_found_38 rfl (lv_at hl 1 rfl) ?_
        refine zx_ast (f := a 10) (n := 8) (ws' := (zm_w cI cB r) (s, (zx_up a 10 (zx_up (a 10) (s 9) d)), z, h)) hx hb hK hP hD hS 6 0 rfl rfl (by omega) (by decide) rfl dX3_found_39 (fun H locs hP hD hS => ?_)
        refine lv_aload_n hx hb dX3_found_40 rfl (lv_at hl 0 rfl) ?_
        refine va_get (D := D) (ci := 3) (v := .ref (r 11)) (C := RX3) (T := TX3) (N := 29) hx hb hts hi3 hown hK hP 0 rfl rfl 11 (by decide) k28 (fun _ h9 => h9) rfl dX3_found_41 ?_
        refine lv_aload_n hx hb dX3_found_44 rfl (lv_at hl 0 rfl) ?_
        refine va_get (D := D) (ci := 3) (v := .int (nI (s 9))) (C := RX3) (T := TX3) (N := 29) hx hb hts hi3 hown hK hP 0 rfl rfl 9 (by decide) k85 (fun _ h9 => h9) rfl dX3_found_45 ?_
        refine lv_iload_n hx hb dX3_found_48 rfl (lv_at hl 2 rfl) ?_
        refine zx_ast (f := a 11) (n := 8) (ws' := (zm_w cI cB r) (s, (zx_up (zx_up a 10 (zx_up (a 10) (s 9) d)) 11 (zx_up (a 11) (s 9) o)), z, h)) hx hb hK hP hD hS 7 0 rfl rfl (by omega) (by decide) rfl dX3_found_49 (fun H locs hP hD hS => ?_)
        refine lv_aload_n hx hb dX3_found_50 rfl (lv_at hl 0 rfl) ?_
        refine va_get (D := D) (ci := 3) (v := .ref (r 12)) (C := RX3) (T := TX3) (N := 29) hx hb hts hi3 hown hK hP 0 rfl rfl 12 (by decide) k31 (fun _ h9 => h9) rfl dX3_found_51 ?_
        refine lv_aload_n hx hb dX3_found_54 rfl (lv_at hl 0 rfl) ?_
        refine va_get (D := D) (ci := 3) (v := .int (nI (s 9))) (C := RX3) (T := TX3) (N := 29) hx hb hts hi3 hown hK hP 0 rfl rfl 9 (by decide) k85 (fun _ h9 => h9) rfl dX3_found_55 ?_
        refine lv_iload_n hx hb dX3_found_58 rfl (lv_at hl 3 rfl) ?_
        refine zx_bf_eq hx hb (tgt := 66) dX3_found_59 (by decide) (fun c_59 => ?_) (fun c_59 => ?_)
        · subst c_59
          refine lv_iconst (v := nI 0) hx hb dX3_found_66 (by decide) ?_
          refine zx_ast (f := a 12) (n := 8) (ws' := (zm_w cI cB r) (s, (zx_up (zx_up (zx_up a 10 (zx_up (a 10) (s 9) d)) 11 (zx_up (a 11) (s 9) o)) 12 (zx_up (a 12) (s 9) 0)), z, h)) hx hb hK hP hD hS 8 0 rfl rfl (by omega) (by decide) rfl dX3_found_67 (fun H locs hP hD hS => ?_)
          refine lv_aload_n hx hb dX3_found_68 rfl (lv_at hl 0 rfl) ?_
          refine lv_dup hx hb dX3_found_69 rfl ?_
          refine va_get (D := D) (ci := 3) (v := .int (nI (s 9))) (C := RX3) (T := TX3) (N := 29) hx hb hts hi3 hown hK hP 0 rfl rfl 9 (by decide) k85 (fun _ h9 => h9) rfl dX3_found_70 ?_
          refine lv_iconst (v := nI 1) hx hb dX3_found_73 (by decide) ?_
          refine zx_iadd hx hb dX3_found_74 ?_
          refine zx_put (D := D) (ci := 3) (ty := .int) (v := .int (nI ((s 9) + 1))) (ws' := (zm_w cI cB r) ((zx_up s 9 ((s 9) + 1)), (zx_up (zx_up (zx_up a 10 (zx_up (a 10) (s 9) d)) 11 (zx_up (a 11) (s 9) o)) 12 (zx_up (a 12) (s 9) 0)), z, h)) (C := RX3) (T := TX3) (N := 29) hx hb hts hi3 tyX3 tyX3_ok nmX3 hown hK hP hD hS 0 rfl rfl 9 (by decide) k85 (fun _ h9 => h9) rfl (by decide +kernel) rfl rfl (Nat.le_of_ble_eq_true rfl) rfl dX3_found_75 (fun H locs hP hD hS => ?_)
          refine lv_aload_n hx hb dX3_found_78 rfl (lv_at hl 0 rfl) ?_
          refine va_get (D := D) (ci := 3) (v := .int (nI ((s 9) + 1))) (C := RX3) (T := TX3) (N := 29) hx hb hts hi3 hown hK hP 0 rfl rfl 9 (by decide) k85 (fun _ h9 => h9) rfl dX3_found_79 ?_
          exact hret _ _ _ _ _ _ hP hD hS dX3_found_82 (zd_inr (by rw [hz, hy]; exact if_neg c_24) ⟨rfl, rfl⟩)
        · subst c_59
          refine lv_iconst (v := nI 1) hx hb dX3_found_62 (by decide) ?_
          refine lv_goto (tgt := 67) hx hb dX3_found_63 (by decide) ?_
          refine zx_ast (f := a 12) (n := 8) (ws' := (zm_w cI cB r) (s, (zx_up (zx_up (zx_up a 10 (zx_up (a 10) (s 9) d)) 11 (zx_up (a 11) (s 9) o)) 12 (zx_up (a 12) (s 9) 1)), z, h)) hx hb hK hP hD hS 8 0 rfl rfl (by omega) (by decide) rfl dX3_found_67 (fun H locs hP hD hS => ?_)
          refine lv_aload_n hx hb dX3_found_68 rfl (lv_at hl 0 rfl) ?_
          refine lv_dup hx hb dX3_found_69 rfl ?_
          refine va_get (D := D) (ci := 3) (v := .int (nI (s 9))) (C := RX3) (T := TX3) (N := 29) hx hb hts hi3 hown hK hP 0 rfl rfl 9 (by decide) k85 (fun _ h9 => h9) rfl dX3_found_70 ?_
          refine lv_iconst (v := nI 1) hx hb dX3_found_73 (by decide) ?_
          refine zx_iadd hx hb dX3_found_74 ?_
          refine zx_put (D := D) (ci := 3) (ty := .int) (v := .int (nI ((s 9) + 1))) (ws' := (zm_w cI cB r) ((zx_up s 9 ((s 9) + 1)), (zx_up (zx_up (zx_up a 10 (zx_up (a 10) (s 9) d)) 11 (zx_up (a 11) (s 9) o)) 12 (zx_up (a 12) (s 9) 1)), z, h)) (C := RX3) (T := TX3) (N := 29) hx hb hts hi3 tyX3 tyX3_ok nmX3 hown hK hP hD hS 0 rfl rfl 9 (by decide) k85 (fun _ h9 => h9) rfl (by decide +kernel) rfl rfl (Nat.le_of_ble_eq_true rfl) rfl dX3_found_75 (fun H locs hP hD hS => ?_)
          refine lv_aload_n hx hb dX3_found_78 rfl (lv_at hl 0 rfl) ?_
          refine va_get (D := D) (ci := 3) (v := .int (nI ((s 9) + 1))) (C := RX3) (T := TX3) (N := 29) hx hb hts hi3 hown hK hP 0 rfl rfl 9 (by decide) k85 (fun _ h9 => h9) rfl dX3_found_79 ?_
          exact hret _ _ _ _ _ _ hP hD hS dX3_found_82 (zd_inr (by rw [hz, hy]; exact if_neg c_24) ⟨rfl, rfl⟩)
      · refine lv_bipush (v := (-104)) hx hb dX3_found_27 (by decide) ?_
        exact hret _ _ _ _ _ _ hP hD hS dX3_found_29 (zd_inl (by rw [hz, hy]; exact if_pos c_24) ⟨rfl, rfl⟩)
    · refine lv_bipush (v := (-101)) hx hb dX3_found_15 (by decide) ?_
      exact hret _ _ _ _ _ _ hP hD hS dX3_found_17 (zd_inl (by rw [hz, zd_nos c_12]; rfl) ⟨rfl, rfl⟩)
set_option maxHeartbeats 4000000 in
set_option maxRecDepth 100000 in
theorem c_X3_forget (l : Launch) (D : va_G) (cI cB : ClassId) (r : Nat → Nat) (s : Nat → Nat) (a : Nat → Nat → Nat) (z : Nat → Int) (h : Int64) (hI : zm_I s a z) : zx_C zx_ei l D (zm_t cI cB) (zm_w cI cB r) yX3_forget wsX3_forget rmX3_forget [.ref (r 0)] (s, a, z, h) (fun v u' => v = nI (s 9) ∧ u' = (zx_up s 9 0, a, z, h)) := by
  refine zx_of_i (cc := cX3_forget) (maxL := 2) (by decide) rfl (Nat.le_of_ble_eq_true rfl) ?_
  intro p e st m args below meth c A Q H cf hK hN hP hD hS hA hret ls hl
  obtain ⟨hx, hb, hml, hown, hts⟩ := id cf
  have hi3 : ∀ w ∈ wsX30, w ∈ wsX3_forget := fun w h => List.mem_cons_of_mem _ (List.mem_append_right _ h)
  have k85 := hts (.fieldLink RX3 85 "NineDrawersModel" "found" "I") (List.mem_of_getElem? (i := 1) (by decide +kernel))
  have hl : lv_has ls 2 [(0, .ref (r 0))] := hl
  have hP : va_P D vwCl ((zm_w cI cB r) (s, a, z, h)) H := hP
  have hD : va_D A ((zm_w cI cB r) (s, a, z, h)) := hD
  refine lv_aload_n hx hb dX3_forget_0 rfl (lv_at hl 0 rfl) ?_
  refine va_get (D := D) (ci := 3) (v := .int (nI (s 9))) (C := RX3) (T := TX3) (N := 29) hx hb hts hi3 hown hK hP 0 rfl rfl 9 (by decide) k85 (fun _ h9 => h9) rfl dX3_forget_1 ?_
  refine lv_istore_n (lv' := [(1, .int (nI (s 9))), (0, .ref (r 0))]) hx hb dX3_forget_4 rfl hl (by decide) rfl (fun ls hl => ?_)
  refine lv_aload_n hx hb dX3_forget_5 rfl (lv_at hl 1 rfl) ?_
  refine lv_iconst (v := nI 0) hx hb dX3_forget_6 (by decide) ?_
  refine zx_put (D := D) (ci := 3) (ty := .int) (v := .int (nI 0)) (ws' := (zm_w cI cB r) ((zx_up s 9 0), a, z, h)) (C := RX3) (T := TX3) (N := 29) hx hb hts hi3 tyX3 tyX3_ok nmX3 hown hK hP hD hS 0 rfl rfl 9 (by decide) k85 (fun _ h9 => h9) rfl (by decide +kernel) rfl rfl (Nat.le_of_ble_eq_true rfl) rfl dX3_forget_7 (fun H locs hP hD hS => ?_)
  refine lv_iload_n hx hb dX3_forget_10 rfl (lv_at hl 0 rfl) ?_
  exact hret _ _ _ _ _ _ hP hD hS dX3_forget_11 ⟨rfl, rfl⟩
set_option maxHeartbeats 4000000 in
set_option maxRecDepth 100000 in
theorem c_X3_isFound (l : Launch) (D : va_G) (cI cB : ClassId) (r : Nat → Nat) (s : Nat → Nat) (a : Nat → Nat → Nat) (z : Nat → Int) (h : Int64) (d w : Nat) (hI : zm_I s a z) (hd : d < 9) (hw : w < 128) : zx_C zx_ei l D (zm_t cI cB) (zm_w cI cB r) yX3_isFound wsX3_isFound rmX3_isFound [.ref (r 0), .int (nI d), .int (nI w)] (s, a, z, h) (fun v u' => v = zx_b (zp_fd (s 9) (a 10) (a 11) (a 12) d w) ∧ u' = (s, a, z, h)) := by
  refine zx_of_z (cc := cX3_isFound) (maxL := 5) (by decide) rfl (Nat.le_of_ble_eq_true rfl) ?_
  intro p e st m args below meth c A Q H cf hK hN hP hD hS hA hret ls hl
  obtain ⟨hx, hb, hml, hown, hts⟩ := id cf
  have hi3 : ∀ w ∈ wsX30, w ∈ wsX3_isFound := fun w h => List.mem_cons_of_mem _ (List.mem_append_right _ h)
  have k85 := hts (.fieldLink RX3 85 "NineDrawersModel" "found" "I") (List.mem_of_getElem? (i := 1) (by decide +kernel))
  have k25 := hts (.fieldLink RX3 25 "NineDrawersModel" "foundIn" "[I") (List.mem_of_getElem? (i := 2) (by decide +kernel))
  have k28 := hts (.fieldLink RX3 28 "NineDrawersModel" "foundOn" "[I") (List.mem_of_getElem? (i := 3) (by decide +kernel))
  have k31 := hts (.fieldLink RX3 31 "NineDrawersModel" "foundIs" "[I") (List.mem_of_getElem? (i := 4) (by decide +kernel))
  have hl : lv_has ls 5 [(0, .ref (r 0)), (1, .int (nI d)), (2, .int (nI w))] := hl
  have hP : va_P D vwCl ((zm_w cI cB r) (s, a, z, h)) H := hP
  have hD : va_D A ((zm_w cI cB r) (s, a, z, h)) := hD
  obtain ⟨⟨i0, i1, i3, i5, i9, i13, i14⟩, ⟨i17, i18, i19, i20, i21⟩, iP, iF, iL, iG, iZ, jL, jP, jF⟩ := id hI
  refine lv_iconst (v := nI 1) hx hb dX3_isFound_0 (by decide) ?_
  refine lv_istore_n (lv' := [(3, .int (nI 1)), (0, .ref (r 0)), (1, .int (nI d)), (2, .int (nI w))]) hx hb dX3_isFound_1 rfl hl (by decide) rfl (fun ls hl => ?_)
  refine lv_iconst (v := nI 0) hx hb dX3_isFound_2 (by decide) ?_
  refine lv_istore (lv' := [(4, .int (nI 0)), (3, .int (nI 1)), (0, .ref (r 0)), (1, .int (nI d)), (2, .int (nI w))]) hx hb dX3_isFound_3 hl (by decide) rfl (fun ls hl => ?_)
  have lp_5 : ∀ (n_ : Nat) (k : Nat), s 9 - k < n_ → (k ≤ s 9) → ∀ x1 : Int32, x1 = nI d → ∀ x2 : Int32, x2 = nI w → ∀ x3 : Int32, x3 = zx_b (zp_fd k (a 10) (a 11) (a 12) d w) → ∀ x4 : Int32, x4 = nI k → ∀ (H : Heap) (locs : List Loc), va_P D vwCl ((zm_w cI cB r) (s, a, z, h)) H → va_D A ((zm_w cI cB r) (s, a, z, h)) → va_S A st.heap H locs → ∀ ls : Array Slot, lv_has ls 5 [(0, .ref (r 0)), (1, .int x1), (2, .int x2), (3, .int x3), (4, .int x4)] → W p l e rmX3_isFound st m args below meth c H locs 0 0 Q (F0 m 5 ls []) := by
    intro n_
    induction n_ with
    | zero => intros; omega
    | succ n_ ih_5 =>
      intro k hmu_5 hk9
      intro x1 ex1; subst ex1
      intro x2 ex2; subst ex2
      intro x3 ex3; subst ex3
      intro x4 ex4; subst ex4
      intro H locs hP hD hS ls hl
      have hl : lv_has ls 5 [(0, .ref (r 0)), (1, .int (nI d)), (2, .int (nI w)), (3, .int (zx_b (zp_fd k (a 10) (a 11) (a 12) d w))), (4, .int (nI k))] := hl
      refine lv_iload hx hb dX3_isFound_5 (lv_at hl 4 rfl) ?_
      refine lv_aload_n hx hb dX3_isFound_7 rfl (lv_at hl 0 rfl) ?_
      refine va_get (D := D) (ci := 3) (v := .int (nI (s 9))) (C := RX3) (T := TX3) (N := 29) hx hb hts hi3 hown hK hP 0 rfl rfl 9 (by decide) k85 (fun _ h9 => h9) rfl dX3_isFound_8 ?_
      refine zx_icmp_ge hx hb (tgt := 62) (by omega) (by omega) dX3_isFound_11 (by decide) (fun c_11 => ?_) (fun c_11 => ?_)
      · refine lv_iload_n hx hb dX3_isFound_62 rfl (lv_at hl 3 rfl) ?_
        exact hret _ _ _ _ _ _ hP hD hS dX3_isFound_63 (zx_nar _) ⟨by rw [show k = s 9 by omega], rfl⟩
      · refine lv_iload_n hx hb dX3_isFound_14 rfl (lv_at hl 3 rfl) ?_
        refine zx_bf_eq hx hb (tgt := 54) dX3_isFound_15 (by decide) (fun c_15 => ?_) (fun c_15 => ?_)
        · refine lv_iconst (v := nI 0) hx hb dX3_isFound_54 (by decide) ?_
          refine lv_istore_n (lv' := [(3, .int (nI 0)), (0, .ref (r 0)), (1, .int (nI d)), (2, .int (nI w)), (4, .int (nI k))]) hx hb dX3_isFound_55 rfl hl (by decide) rfl (fun ls hl => ?_)
          refine lv_iinc (v := nI (k + 1)) (lv' := [(4, .int (nI (k + 1))), (3, .int (nI 0)), (0, .ref (r 0)), (1, .int (nI d)), (2, .int (nI w))]) hx hb dX3_isFound_56 hl (k := 4) rfl (zx_inc _ _) (by decide) rfl (fun ls hl => ?_)
          refine lv_goto (tgt := 5) hx hb dX3_isFound_59 (by decide) ?_
          exact ih_5 (k + 1) (by omega) (by omega) _ rfl _ rfl _ (zx_b_f (zp_fd_a c_15)) _ rfl _ _ hP hD hS ls (lv_sub hl [2, 3, 4, 1, 0] rfl)
        · refine lv_aload_n hx hb dX3_isFound_18 rfl (lv_at hl 0 rfl) ?_
          refine va_get (D := D) (ci := 3) (v := .ref (r 10)) (C := RX3) (T := TX3) (N := 29) hx hb hts hi3 hown hK hP 0 rfl rfl 10 (by decide) k25 (fun _ h9 => h9) rfl dX3_isFound_19 ?_
          refine lv_iload hx hb dX3_isFound_22 (lv_at hl 4 rfl) ?_
          refine zx_ald (f := a 10) (n := 8) hx hb hK hP 6 0 rfl rfl (by omega) (by decide) dX3_isFound_24 ?_
          refine lv_iload_n hx hb dX3_isFound_25 rfl (lv_at hl 1 rfl) ?_
          refine zx_icmp_ne hx hb (tgt := 50) (by have := (iF k (by omega)).1; omega) (by omega) dX3_isFound_26 (by decide) (fun c_26 => ?_) (fun c_26 => ?_)
          · refine lv_iconst (v := nI 1) hx hb dX3_isFound_50 (by decide) ?_
            refine lv_goto (tgt := 55) hx hb dX3_isFound_51 (by decide) ?_
            refine lv_istore_n (lv' := [(3, .int (nI 1)), (0, .ref (r 0)), (1, .int (nI d)), (2, .int (nI w)), (4, .int (nI k))]) hx hb dX3_isFound_55 rfl hl (by decide) rfl (fun ls hl => ?_)
            refine lv_iinc (v := nI (k + 1)) (lv' := [(4, .int (nI (k + 1))), (3, .int (nI 1)), (0, .ref (r 0)), (1, .int (nI d)), (2, .int (nI w))]) hx hb dX3_isFound_56 hl (k := 4) rfl (zx_inc _ _) (by decide) rfl (fun ls hl => ?_)
            refine lv_goto (tgt := 5) hx hb dX3_isFound_59 (by decide) ?_
            exact ih_5 (k + 1) (by omega) (by omega) _ rfl _ rfl _ (zx_b_t (zp_fd_b c_15 c_26)) _ rfl _ _ hP hD hS ls (lv_sub hl [2, 3, 4, 1, 0] rfl)
          · refine lv_iload_n hx hb dX3_isFound_29 rfl (lv_at hl 2 rfl) ?_
            refine lv_aload_n hx hb dX3_isFound_30 rfl (lv_at hl 0 rfl) ?_
            refine va_get (D := D) (ci := 3) (v := .ref (r 11)) (C := RX3) (T := TX3) (N := 29) hx hb hts hi3 hown hK hP 0 rfl rfl 11 (by decide) k28 (fun _ h9 => h9) rfl dX3_isFound_31 ?_
            refine lv_iload hx hb dX3_isFound_34 (lv_at hl 4 rfl) ?_
            refine zx_ald (f := a 11) (n := 8) hx hb hK hP 7 0 rfl rfl (by omega) (by decide) dX3_isFound_36 ?_
            refine zx_ishr hx hb (by omega) (by have := (iF k (by omega)).2.1; omega) dX3_isFound_37 ?_
            refine lv_iconst (v := nI 1) hx hb dX3_isFound_38 (by decide) ?_
            refine zx_iand hx hb dX3_isFound_39 ?_
            refine zx_topi (y := nI (zx_n (w.testBit (a 11 k)))) (congrArg nI (zx_tbn _ _)) ?_
            refine lv_aload_n hx hb dX3_isFound_40 rfl (lv_at hl 0 rfl) ?_
            refine va_get (D := D) (ci := 3) (v := .ref (r 12)) (C := RX3) (T := TX3) (N := 29) hx hb hts hi3 hown hK hP 0 rfl rfl 12 (by decide) k31 (fun _ h9 => h9) rfl dX3_isFound_41 ?_
            refine lv_iload hx hb dX3_isFound_44 (lv_at hl 4 rfl) ?_
            refine zx_ald (f := a 12) (n := 8) hx hb hK hP 8 0 rfl rfl (by omega) (by decide) dX3_isFound_46 ?_
            refine zx_icmp_ne hx hb (tgt := 54) (zx_n_lt _) (by have := (iF k (by omega)).2.2; omega) dX3_isFound_47 (by decide) (fun c_47 => ?_) (fun c_47 => ?_)
            · refine lv_iconst (v := nI 0) hx hb dX3_isFound_54 (by decide) ?_
              refine lv_istore_n (lv' := [(3, .int (nI 0)), (0, .ref (r 0)), (1, .int (nI d)), (2, .int (nI w)), (4, .int (nI k))]) hx hb dX3_isFound_55 rfl hl (by decide) rfl (fun ls hl => ?_)
              refine lv_iinc (v := nI (k + 1)) (lv' := [(4, .int (nI (k + 1))), (3, .int (nI 0)), (0, .ref (r 0)), (1, .int (nI d)), (2, .int (nI w))]) hx hb dX3_isFound_56 hl (k := 4) rfl (zx_inc _ _) (by decide) rfl (fun ls hl => ?_)
              refine lv_goto (tgt := 5) hx hb dX3_isFound_59 (by decide) ?_
              exact ih_5 (k + 1) (by omega) (by omega) _ rfl _ rfl _ (zx_b_f (zp_fd_c c_26 c_47)) _ rfl _ _ hP hD hS ls (lv_sub hl [2, 3, 4, 1, 0] rfl)
            · refine lv_iconst (v := nI 1) hx hb dX3_isFound_50 (by decide) ?_
              refine lv_goto (tgt := 55) hx hb dX3_isFound_51 (by decide) ?_
              refine lv_istore_n (lv' := [(3, .int (nI 1)), (0, .ref (r 0)), (1, .int (nI d)), (2, .int (nI w)), (4, .int (nI k))]) hx hb dX3_isFound_55 rfl hl (by decide) rfl (fun ls hl => ?_)
              refine lv_iinc (v := nI (k + 1)) (lv' := [(4, .int (nI (k + 1))), (3, .int (nI 1)), (0, .ref (r 0)), (1, .int (nI d)), (2, .int (nI w))]) hx hb dX3_isFound_56 hl (k := 4) rfl (zx_inc _ _) (by decide) rfl (fun ls hl => ?_)
              refine lv_goto (tgt := 5) hx hb dX3_isFound_59 (by decide) ?_
              exact ih_5 (k + 1) (by omega) (by omega) _ rfl _ rfl _ (zx_b_t (zp_fd_d c_15 c_47)) _ rfl _ _ hP hD hS ls (lv_sub hl [2, 3, 4, 1, 0] rfl)
  exact lp_5 _ 0 (Nat.lt_succ_self _) (Nat.zero_le _) _ rfl _ rfl _ zx_b_1 _ rfl _ _ hP hD hS ls (lv_sub hl [2, 3, 4, 1, 0] rfl)
set_option maxHeartbeats 4000000 in
set_option maxRecDepth 100000 in
theorem c_X3_anyBy (l : Launch) (D : va_G) (cI cB : ClassId) (r : Nat → Nat) (s : Nat → Nat) (a : Nat → Nat → Nat) (z : Nat → Int) (h : Int64) (d : Nat) (ah : Int) (hI : zm_I s a z) (hd : d < 9) (hah : -3 ≤ ah ∧ ah ≤ 4) : zx_C zx_ei l D (zm_t cI cB) (zm_w cI cB r) yX3_anyBy wsX3_anyBy rmX3_anyBy [.ref (r 0), .int (nI d), .int (zx_i ah)] (s, a, z, h) (fun v u' => v = zx_b (zp_anb (s 9) (a 10) (a 11) (a 12) d (zm_f s a d ah (a 4 d))) ∧ u' = (s, a, z, h)) := by
  refine zx_of_z (cc := cX3_anyBy) (maxL := 5) (by decide) rfl (Nat.le_of_ble_eq_true rfl) ?_
  intro p e st m args below meth c A Q H cf hK hN hP hD hS hA hret ls hl
  obtain ⟨hx, hb, hml, hown, hts⟩ := id cf
  have hi3 : ∀ w ∈ wsX30, w ∈ wsX3_anyBy := fun w h => List.mem_cons_of_mem _ (List.mem_append_right _ h)
  have k13 := hts (.fieldLink RX3 13 "NineDrawersModel" "laidIn" "[I") (List.mem_of_getElem? (i := 1) (by decide +kernel))
  have hl : lv_has ls 5 [(0, .ref (r 0)), (1, .int (nI d)), (2, .int (zx_i ah))] := hl
  have hP : va_P D vwCl ((zm_w cI cB r) (s, a, z, h)) H := hP
  have hD : va_D A ((zm_w cI cB r) (s, a, z, h)) := hD
  obtain ⟨⟨i0, i1, i3, i5, i9, i13, i14⟩, ⟨i17, i18, i19, i20, i21⟩, iP, iF, iL, iG, iZ, jL, jP, jF⟩ := id hI
  refine lv_iconst (v := nI 0) hx hb dX3_anyBy_0 (by decide) ?_
  refine lv_istore_n (lv' := [(3, .int (nI 0)), (0, .ref (r 0)), (1, .int (nI d)), (2, .int (zx_i ah))]) hx hb dX3_anyBy_1 rfl hl (by decide) rfl (fun ls hl => ?_)
  refine lv_iconst (v := nI 0) hx hb dX3_anyBy_2 (by decide) ?_
  refine lv_istore (lv' := [(4, .int (nI 0)), (3, .int (nI 0)), (0, .ref (r 0)), (1, .int (nI d)), (2, .int (zx_i ah))]) hx hb dX3_anyBy_3 hl (by decide) rfl (fun ls hl => ?_)
  have lp_5 : ∀ (n_ : Nat) (i : Nat), 128 - i < n_ → (i ≤ 128) → ∀ x1 : Int32, x1 = nI d → ∀ x2 : Int32, x2 = zx_i ah → ∀ x3 : Int32, x3 = zx_b (zp_any (fun w8 => zp_fd (s 9) (a 10) (a 11) (a 12) d w8 && zp_ag (zm_f s a d ah (a 4 d)) w8) i) → ∀ x4 : Int32, x4 = nI i → ∀ (H : Heap) (locs : List Loc), va_P D vwCl ((zm_w cI cB r) (s, a, z, h)) H → va_D A ((zm_w cI cB r) (s, a, z, h)) → va_S A st.heap H locs → ∀ ls : Array Slot, lv_has ls 5 [(0, .ref (r 0)), (1, .int x1), (2, .int x2), (3, .int x3), (4, .int x4)] → W p l e rmX3_anyBy st m args below meth c H locs 0 0 Q (F0 m 5 ls []) := by
    intro n_
    induction n_ with
    | zero => intros; omega
    | succ n_ ih_5 =>
      intro i hmu_5 hi9
      intro x1 ex1; subst ex1
      intro x2 ex2; subst ex2
      intro x3 ex3; subst ex3
      intro x4 ex4; subst ex4
      intro H locs hP hD hS ls hl
      have hl : lv_has ls 5 [(0, .ref (r 0)), (1, .int (nI d)), (2, .int (zx_i ah)), (3, .int (zx_b (zp_any (fun w8 => zp_fd (s 9) (a 10) (a 11) (a 12) d w8 && zp_ag (zm_f s a d ah (a 4 d)) w8) i))), (4, .int (nI i))] := hl
      refine lv_iload hx hb dX3_anyBy_5 (lv_at hl 4 rfl) ?_
      refine lv_sipush (v := nI 128) hx hb dX3_anyBy_7 (by decide) ?_
      refine zx_icmp_ge hx hb (tgt := 58) (by omega) (by omega) dX3_anyBy_10 (by decide) (fun c_10 => ?_) (fun c_10 => ?_)
      · refine lv_iload_n hx hb dX3_anyBy_58 rfl (lv_at hl 3 rfl) ?_
        exact hret _ _ _ _ _ _ hP hD hS dX3_anyBy_59 (zx_nar _) ⟨by rw [show i = 128 by omega]; exact congrArg zx_b (zp_anb_eq _ _ _ _ _ _).symm, rfl⟩
      · refine lv_iload_n hx hb dX3_anyBy_13 rfl (lv_at hl 3 rfl) ?_
        refine zx_bf_ne hx hb (tgt := 58) dX3_anyBy_14 (by decide) (fun c_14 => ?_) (fun c_14 => ?_)
        · refine lv_iload_n hx hb dX3_anyBy_58 rfl (lv_at hl 3 rfl) ?_
          exact hret _ _ _ _ _ _ hP hD hS dX3_anyBy_59 (zx_nar _) ⟨zx_b_tt c_14 ((zp_anb_eq _ _ _ _ _ _).trans (zp_any_up (f := (fun w8 => zp_fd (s 9) (a 10) (a 11) (a 12) d w8 && zp_ag (zm_f s a d ah (a 4 d)) w8)) (by omega) c_14)), rfl⟩
        · refine lv_aload_n hx hb dX3_anyBy_17 rfl (lv_at hl 0 rfl) ?_
          refine lv_iload_n hx hb dX3_anyBy_18 rfl (lv_at hl 1 rfl) ?_
          refine lv_iload hx hb dX3_anyBy_19 (lv_at hl 4 rfl) ?_
          refine zx_V_i (As := [.int (nI d), .int (nI i)]) (rest := []) cf (c_X3_isFound l D cI cB r s a z h d i hI (by omega) (by omega)) (cwV 2 hts gX3_anyBy_X3_isFound rfl rfl rfl ⟨rfl, hd_X3_isFound⟩ ⟨Nat.le_of_ble_eq_true rfl, Nat.le_of_ble_eq_true rfl⟩) hK hN hP hD hS hA 0 rfl rfl rfl hl.1 rfl (Nat.le_of_ble_eq_true rfl) dX3_anyBy_21 ⟨Nat.zero_le _, Nat.zero_le _⟩ (fun v_21 u_21 H locs hq hP hD hS => ?_)
          obtain ⟨rfl, rfl⟩ := hq
          refine zx_bf_eq hx hb (tgt := 50) dX3_anyBy_24 (by decide) (fun c_24 => ?_) (fun c_24 => ?_)
          · refine lv_iconst (v := nI 0) hx hb dX3_anyBy_50 (by decide) ?_
            refine lv_istore_n (lv' := [(3, .int (nI 0)), (0, .ref (r 0)), (1, .int (nI d)), (2, .int (zx_i ah)), (4, .int (nI i))]) hx hb dX3_anyBy_51 rfl hl (by decide) rfl (fun ls hl => ?_)
            refine lv_iinc (v := nI (i + 1)) (lv' := [(4, .int (nI (i + 1))), (3, .int (nI 0)), (0, .ref (r 0)), (1, .int (nI d)), (2, .int (zx_i ah))]) hx hb dX3_anyBy_52 hl (k := 4) rfl (zx_inc _ _) (by decide) rfl (fun ls hl => ?_)
            refine lv_goto (tgt := 5) hx hb dX3_anyBy_55 (by decide) ?_
            exact ih_5 (i + 1) (by omega) (by omega) _ rfl _ rfl _ (zx_b_f (zp_any_ff1 (f := (fun w8 => zp_fd (s 9) (a 10) (a 11) (a 12) d w8 && zp_ag (zm_f s a d ah (a 4 d)) w8)) c_14 (by simp [c_24]))) _ rfl _ _ hP hD hS ls (lv_sub hl [2, 3, 4, 1, 0] rfl)
          · refine lv_aload_n hx hb dX3_anyBy_27 rfl (lv_at hl 0 rfl) ?_
            refine lv_iload_n hx hb dX3_anyBy_28 rfl (lv_at hl 1 rfl) ?_
            refine lv_iload hx hb dX3_anyBy_29 (lv_at hl 4 rfl) ?_
            refine lv_iload_n hx hb dX3_anyBy_31 rfl (lv_at hl 2 rfl) ?_
            refine lv_aload_n hx hb dX3_anyBy_32 rfl (lv_at hl 0 rfl) ?_
            refine va_get (D := D) (ci := 3) (v := .ref (r 4)) (C := RX3) (T := TX3) (N := 29) hx hb hts hi3 hown hK hP 0 rfl rfl 4 (by decide) k13 (fun _ h9 => h9) rfl dX3_anyBy_33 ?_
            refine lv_iload_n hx hb dX3_anyBy_36 rfl (lv_at hl 1 rfl) ?_
            refine zx_ald (f := a 4) (n := 9) hx hb hK hP 2 0 rfl rfl (by omega) (by decide) dX3_anyBy_37 ?_
            refine zx_V_i (As := [.int (nI d), .int (nI i), .int (zx_i ah), .int (nI ((a 4) d))]) (rest := []) cf (c_X3_firstWrong l D cI cB r s a z h d i ah ((a 4) d) hI hd (by omega) (iL d hd) hah) (cwV 4 hts gX3_anyBy_X3_firstWrong rfl rfl rfl ⟨rfl, hd_X3_firstWrong⟩ ⟨Nat.le_of_ble_eq_true rfl, Nat.le_of_ble_eq_true rfl⟩) hK hN hP hD hS hA 0 rfl rfl rfl hl.1 rfl (Nat.le_of_ble_eq_true rfl) dX3_anyBy_38 ⟨Nat.zero_le _, Nat.zero_le _⟩ (fun v_38 u_38 H locs hq hP hD hS => ?_)
            obtain ⟨rfl, rfl⟩ := hq
            refine lv_bipush (v := nI 7) hx hb dX3_anyBy_41 (by decide) ?_
            refine zx_icmp_ne hx hb (tgt := 50) (zp_fw_lt _ _) (by decide) dX3_anyBy_43 (by decide) (fun c_43 => ?_) (fun c_43 => ?_)
            · refine lv_iconst (v := nI 0) hx hb dX3_anyBy_50 (by decide) ?_
              refine lv_istore_n (lv' := [(3, .int (nI 0)), (0, .ref (r 0)), (1, .int (nI d)), (2, .int (zx_i ah)), (4, .int (nI i))]) hx hb dX3_anyBy_51 rfl hl (by decide) rfl (fun ls hl => ?_)
              refine lv_iinc (v := nI (i + 1)) (lv' := [(4, .int (nI (i + 1))), (3, .int (nI 0)), (0, .ref (r 0)), (1, .int (nI d)), (2, .int (zx_i ah))]) hx hb dX3_anyBy_52 hl (k := 4) rfl (zx_inc _ _) (by decide) rfl (fun ls hl => ?_)
              refine lv_goto (tgt := 5) hx hb dX3_anyBy_55 (by decide) ?_
              exact ih_5 (i + 1) (by omega) (by omega) _ rfl _ rfl _ (zx_b_f (zp_any_ff1 (f := (fun w8 => zp_fd (s 9) (a 10) (a 11) (a 12) d w8 && zp_ag (zm_f s a d ah (a 4 d)) w8)) c_14 (by simp [zp_ag, c_43]))) _ rfl _ _ hP hD hS ls (lv_sub hl [2, 3, 4, 1, 0] rfl)
            · refine lv_iconst (v := nI 1) hx hb dX3_anyBy_46 (by decide) ?_
              refine lv_goto (tgt := 51) hx hb dX3_anyBy_47 (by decide) ?_
              refine lv_istore_n (lv' := [(3, .int (nI 1)), (0, .ref (r 0)), (1, .int (nI d)), (2, .int (zx_i ah)), (4, .int (nI i))]) hx hb dX3_anyBy_51 rfl hl (by decide) rfl (fun ls hl => ?_)
              refine lv_iinc (v := nI (i + 1)) (lv' := [(4, .int (nI (i + 1))), (3, .int (nI 1)), (0, .ref (r 0)), (1, .int (nI d)), (2, .int (zx_i ah))]) hx hb dX3_anyBy_52 hl (k := 4) rfl (zx_inc _ _) (by decide) rfl (fun ls hl => ?_)
              refine lv_goto (tgt := 5) hx hb dX3_anyBy_55 (by decide) ?_
              exact ih_5 (i + 1) (by omega) (by omega) _ rfl _ rfl _ (zx_b_t (zp_any_t1 (f := (fun w8 => zp_fd (s 9) (a 10) (a 11) (a 12) d w8 && zp_ag (zm_f s a d ah (a 4 d)) w8)) (by simp [c_24, zp_ag, c_43]))) _ rfl _ _ hP hD hS ls (lv_sub hl [2, 3, 4, 1, 0] rfl)
  exact lp_5 _ 0 (Nat.lt_succ_self _) (Nat.zero_le _) _ rfl _ rfl _ zx_b_0 _ rfl _ _ hP hD hS ls (lv_sub hl [2, 3, 4, 1, 0] rfl)
set_option maxHeartbeats 4000000 in
set_option maxRecDepth 100000 in
theorem c_X3_anyLaid (l : Launch) (D : va_G) (cI cB : ClassId) (r : Nat → Nat) (s : Nat → Nat) (a : Nat → Nat → Nat) (z : Nat → Int) (h : Int64) (d q : Nat) (hI : zm_I s a z) (hd : d < 9) (hq : q < 128) : zx_C zx_ei l D (zm_t cI cB) (zm_w cI cB r) yX3_anyLaid wsX3_anyLaid rmX3_anyLaid [.ref (r 0), .int (nI d), .int (nI q)] (s, a, z, h) (fun v u' => v = zx_b (zp_any (zp_ag (zm_f s a d (zp_ah (s 3) (z d)) q)) 128) ∧ u' = (s, a, z, h)) := by
  refine zx_of_z (cc := cX3_anyLaid) (maxL := 5) (by decide) rfl (Nat.le_of_ble_eq_true rfl) ?_
  intro p e st m args below meth c A Q H cf hK hN hP hD hS hA hret ls hl
  obtain ⟨hx, hb, hml, hown, hts⟩ := id cf
  have hl : lv_has ls 5 [(0, .ref (r 0)), (1, .int (nI d)), (2, .int (nI q))] := hl
  have hP : va_P D vwCl ((zm_w cI cB r) (s, a, z, h)) H := hP
  have hD : va_D A ((zm_w cI cB r) (s, a, z, h)) := hD
  obtain ⟨⟨i0, i1, i3, i5, i9, i13, i14⟩, ⟨i17, i18, i19, i20, i21⟩, iP, iF, iL, iG, iZ, jL, jP, jF⟩ := id hI
  refine lv_iconst (v := nI 0) hx hb dX3_anyLaid_0 (by decide) ?_
  refine lv_istore_n (lv' := [(3, .int (nI 0)), (0, .ref (r 0)), (1, .int (nI d)), (2, .int (nI q))]) hx hb dX3_anyLaid_1 rfl hl (by decide) rfl (fun ls hl => ?_)
  refine lv_iconst (v := nI 0) hx hb dX3_anyLaid_2 (by decide) ?_
  refine lv_istore (lv' := [(4, .int (nI 0)), (3, .int (nI 0)), (0, .ref (r 0)), (1, .int (nI d)), (2, .int (nI q))]) hx hb dX3_anyLaid_3 hl (by decide) rfl (fun ls hl => ?_)
  have lp_5 : ∀ (n_ : Nat) (i : Nat), 128 - i < n_ → (i ≤ 128) → ∀ x1 : Int32, x1 = nI d → ∀ x2 : Int32, x2 = nI q → ∀ x3 : Int32, x3 = zx_b (zp_any (zp_ag (zm_f s a d (zp_ah (s 3) (z d)) q)) i) → ∀ x4 : Int32, x4 = nI i → ∀ (H : Heap) (locs : List Loc), va_P D vwCl ((zm_w cI cB r) (s, a, z, h)) H → va_D A ((zm_w cI cB r) (s, a, z, h)) → va_S A st.heap H locs → ∀ ls : Array Slot, lv_has ls 5 [(0, .ref (r 0)), (1, .int x1), (2, .int x2), (3, .int x3), (4, .int x4)] → W p l e rmX3_anyLaid st m args below meth c H locs 0 0 Q (F0 m 5 ls []) := by
    intro n_
    induction n_ with
    | zero => intros; omega
    | succ n_ ih_5 =>
      intro i hmu_5 hi9
      intro x1 ex1; subst ex1
      intro x2 ex2; subst ex2
      intro x3 ex3; subst ex3
      intro x4 ex4; subst ex4
      intro H locs hP hD hS ls hl
      have hl : lv_has ls 5 [(0, .ref (r 0)), (1, .int (nI d)), (2, .int (nI q)), (3, .int (zx_b (zp_any (zp_ag (zm_f s a d (zp_ah (s 3) (z d)) q)) i))), (4, .int (nI i))] := hl
      refine lv_iload hx hb dX3_anyLaid_5 (lv_at hl 4 rfl) ?_
      refine lv_sipush (v := nI 128) hx hb dX3_anyLaid_7 (by decide) ?_
      refine zx_icmp_ge hx hb (tgt := 47) (by omega) (by omega) dX3_anyLaid_10 (by decide) (fun c_10 => ?_) (fun c_10 => ?_)
      · refine lv_iload_n hx hb dX3_anyLaid_47 rfl (lv_at hl 3 rfl) ?_
        exact hret _ _ _ _ _ _ hP hD hS dX3_anyLaid_48 (zx_nar _) ⟨by rw [show i = 128 by omega], rfl⟩
      · refine lv_iload_n hx hb dX3_anyLaid_13 rfl (lv_at hl 3 rfl) ?_
        refine zx_bf_ne hx hb (tgt := 47) dX3_anyLaid_14 (by decide) (fun c_14 => ?_) (fun c_14 => ?_)
        · refine lv_iload_n hx hb dX3_anyLaid_47 rfl (lv_at hl 3 rfl) ?_
          exact hret _ _ _ _ _ _ hP hD hS dX3_anyLaid_48 (zx_nar _) ⟨zx_b_tt c_14 ((zp_any_up (f := (zp_ag (zm_f s a d (zp_ah (s 3) (z d)) q))) (by omega) c_14)), rfl⟩
        · refine lv_aload_n hx hb dX3_anyLaid_17 rfl (lv_at hl 0 rfl) ?_
          refine lv_iload_n hx hb dX3_anyLaid_18 rfl (lv_at hl 1 rfl) ?_
          refine lv_iload hx hb dX3_anyLaid_19 (lv_at hl 4 rfl) ?_
          refine lv_aload_n hx hb dX3_anyLaid_21 rfl (lv_at hl 0 rfl) ?_
          refine lv_iload_n hx hb dX3_anyLaid_22 rfl (lv_at hl 1 rfl) ?_
          refine zx_V_i (As := [.int (nI d)]) (rest := [.int (nI i), .int (nI d), .ref (r 0)]) cf (c_X3_aheadOf l D cI cB r s a z h d hI (by omega)) (cwV 1 hts gX3_anyLaid_X3_aheadOf rfl rfl rfl ⟨rfl, hd_X3_aheadOf⟩ ⟨Nat.le_of_ble_eq_true rfl, Nat.le_of_ble_eq_true rfl⟩) hK hN hP hD hS hA 0 rfl rfl rfl hl.1 rfl (Nat.le_of_ble_eq_true rfl) dX3_anyLaid_23 ⟨Nat.zero_le _, Nat.zero_le _⟩ (fun v_23 u_23 H locs hq hP hD hS => ?_)
          obtain ⟨rfl, rfl⟩ := hq
          refine lv_iload_n hx hb dX3_anyLaid_26 rfl (lv_at hl 2 rfl) ?_
          refine zx_V_i (As := [.int (nI d), .int (nI i), .int (zx_i (zp_ah (s 3) (z d))), .int (nI q)]) (rest := []) cf (c_X3_firstWrong l D cI cB r s a z h d i (zp_ah (s 3) (z d)) q hI hd (by omega) hq (zp_ah_rng i3 (iZ d hd))) (cwV 4 hts gX3_anyLaid_X3_firstWrong rfl rfl rfl ⟨rfl, hd_X3_firstWrong⟩ ⟨Nat.le_of_ble_eq_true rfl, Nat.le_of_ble_eq_true rfl⟩) hK hN hP hD hS hA 0 rfl rfl rfl hl.1 rfl (Nat.le_of_ble_eq_true rfl) dX3_anyLaid_27 ⟨Nat.zero_le _, Nat.zero_le _⟩ (fun v_27 u_27 H locs hq hP hD hS => ?_)
          obtain ⟨rfl, rfl⟩ := hq
          refine lv_bipush (v := nI 7) hx hb dX3_anyLaid_30 (by decide) ?_
          refine zx_icmp_ne hx hb (tgt := 39) (zp_fw_lt _ _) (by decide) dX3_anyLaid_32 (by decide) (fun c_32 => ?_) (fun c_32 => ?_)
          · refine lv_iconst (v := nI 0) hx hb dX3_anyLaid_39 (by decide) ?_
            refine lv_istore_n (lv' := [(3, .int (nI 0)), (0, .ref (r 0)), (1, .int (nI d)), (2, .int (nI q)), (4, .int (nI i))]) hx hb dX3_anyLaid_40 rfl hl (by decide) rfl (fun ls hl => ?_)
            refine lv_iinc (v := nI (i + 1)) (lv' := [(4, .int (nI (i + 1))), (3, .int (nI 0)), (0, .ref (r 0)), (1, .int (nI d)), (2, .int (nI q))]) hx hb dX3_anyLaid_41 hl (k := 4) rfl (zx_inc _ _) (by decide) rfl (fun ls hl => ?_)
            refine lv_goto (tgt := 5) hx hb dX3_anyLaid_44 (by decide) ?_
            exact ih_5 (i + 1) (by omega) (by omega) _ rfl _ rfl _ (zx_b_f (zp_any_ff1 (f := (zp_ag (zm_f s a d (zp_ah (s 3) (z d)) q))) c_14 (decide_eq_false c_32))) _ rfl _ _ hP hD hS ls (lv_sub hl [2, 3, 4, 1, 0] rfl)
          · refine lv_iconst (v := nI 1) hx hb dX3_anyLaid_35 (by decide) ?_
            refine lv_goto (tgt := 40) hx hb dX3_anyLaid_36 (by decide) ?_
            refine lv_istore_n (lv' := [(3, .int (nI 1)), (0, .ref (r 0)), (1, .int (nI d)), (2, .int (nI q)), (4, .int (nI i))]) hx hb dX3_anyLaid_40 rfl hl (by decide) rfl (fun ls hl => ?_)
            refine lv_iinc (v := nI (i + 1)) (lv' := [(4, .int (nI (i + 1))), (3, .int (nI 1)), (0, .ref (r 0)), (1, .int (nI d)), (2, .int (nI q))]) hx hb dX3_anyLaid_41 hl (k := 4) rfl (zx_inc _ _) (by decide) rfl (fun ls hl => ?_)
            refine lv_goto (tgt := 5) hx hb dX3_anyLaid_44 (by decide) ?_
            exact ih_5 (i + 1) (by omega) (by omega) _ rfl _ rfl _ (zx_b_t (zp_any_t1 (f := (zp_ag (zm_f s a d (zp_ah (s 3) (z d)) q))) (decide_eq_true c_32))) _ rfl _ _ hP hD hS ls (lv_sub hl [2, 3, 4, 1, 0] rfl)
  exact lp_5 _ 0 (Nat.lt_succ_self _) (Nat.zero_le _) _ rfl _ rfl _ zx_b_0 _ rfl _ _ hP hD hS ls (lv_sub hl [2, 3, 4, 1, 0] rfl)
set_option maxHeartbeats 4000000 in
set_option maxRecDepth 100000 in
theorem c_X3_delaysOf (l : Launch) (D : va_G) (cI cB : ClassId) (r : Nat → Nat) (s : Nat → Nat) (a : Nat → Nat → Nat) (z : Nat → Int) (h : Int64) (d : Nat) (hI : zm_I s a z) (hd : d < 9) : zx_C zx_ei l D (zm_t cI cB) (zm_w cI cB r) yX3_delaysOf wsX3_delaysOf rmX3_delaysOf [.ref (r 0), .int (nI d)] (s, a, z, h) (fun v u' => v = nI (zm_del s a d) ∧ u' = (s, a, z, h)) := by
  refine zx_of_i (cc := cX3_delaysOf) (maxL := 4) (by decide) rfl (Nat.le_of_ble_eq_true rfl) ?_
  intro p e st m args below meth c A Q H cf hK hN hP hD hS hA hret ls hl
  obtain ⟨hx, hb, hml, hown, hts⟩ := id cf
  have hl : lv_has ls 4 [(0, .ref (r 0)), (1, .int (nI d))] := hl
  have hP : va_P D vwCl ((zm_w cI cB r) (s, a, z, h)) H := hP
  have hD : va_D A ((zm_w cI cB r) (s, a, z, h)) := hD
  obtain ⟨⟨i0, i1, i3, i5, i9, i13, i14⟩, ⟨i17, i18, i19, i20, i21⟩, iP, iF, iL, iG, iZ, jL, jP, jF⟩ := id hI
  refine lv_iconst (v := nI 0) hx hb dX3_delaysOf_0 (by decide) ?_
  refine lv_istore_n (lv' := [(2, .int (nI 0)), (0, .ref (r 0)), (1, .int (nI d))]) hx hb dX3_delaysOf_1 rfl hl (by decide) rfl (fun ls hl => ?_)
  refine lv_bipush (v := (-3)) hx hb dX3_delaysOf_2 (by decide) ?_
  refine lv_istore_n (lv' := [(3, .int (-3)), (2, .int (nI 0)), (0, .ref (r 0)), (1, .int (nI d))]) hx hb dX3_delaysOf_4 rfl hl (by decide) rfl (fun ls hl => ?_)
  have lp_5 : ∀ (n_ : Nat) (j : Nat), 8 - j < n_ → (j ≤ 8) → ∀ x1 : Int32, x1 = nI d → ∀ x2 : Int32, x2 = nI (zp_bits (fun j9 => zp_anb (s 9) (a 10) (a 11) (a 12) d (zm_f s a d ((j9 : Int) - 3) (a 4 d))) j) → ∀ x3 : Int32, x3 = zx_i ((j : Int) - 3) → ∀ (H : Heap) (locs : List Loc), va_P D vwCl ((zm_w cI cB r) (s, a, z, h)) H → va_D A ((zm_w cI cB r) (s, a, z, h)) → va_S A st.heap H locs → ∀ ls : Array Slot, lv_has ls 4 [(0, .ref (r 0)), (1, .int x1), (2, .int x2), (3, .int x3)] → W p l e rmX3_delaysOf st m args below meth c H locs 0 0 Q (F0 m 5 ls []) := by
    intro n_
    induction n_ with
    | zero => intros; omega
    | succ n_ ih_5 =>
      intro j hmu_5 hj9
      intro x1 ex1; subst ex1
      intro x2 ex2; subst ex2
      intro x3 ex3; subst ex3
      intro H locs hP hD hS ls hl
      have hl : lv_has ls 4 [(0, .ref (r 0)), (1, .int (nI d)), (2, .int (nI (zp_bits (fun j9 => zp_anb (s 9) (a 10) (a 11) (a 12) d (zm_f s a d ((j9 : Int) - 3) (a 4 d))) j))), (3, .int (zx_i ((j : Int) - 3)))] := hl
      refine lv_iload_n hx hb dX3_delaysOf_5 rfl (lv_at hl 3 rfl) ?_
      refine lv_iconst (v := nI 4) hx hb dX3_delaysOf_6 (by decide) ?_
      refine lv_icmp_gt (tgt := 38) hx hb dX3_delaysOf_7 (by decide) (fun c_7 => ?_) (fun c_7 => ?_)
      · have c7 := zx_dgt hj9 c_7
        refine lv_iload_n hx hb dX3_delaysOf_38 rfl (lv_at hl 2 rfl) ?_
        exact hret _ _ _ _ _ _ hP hD hS dX3_delaysOf_39 ⟨by rw [show j = 8 by omega]; rfl, rfl⟩
      · have c7 := zx_dle hj9 c_7
        refine lv_iload_n hx hb dX3_delaysOf_10 rfl (lv_at hl 2 rfl) ?_
        refine lv_aload_n hx hb dX3_delaysOf_11 rfl (lv_at hl 0 rfl) ?_
        refine lv_iload_n hx hb dX3_delaysOf_12 rfl (lv_at hl 1 rfl) ?_
        refine lv_iload_n hx hb dX3_delaysOf_13 rfl (lv_at hl 3 rfl) ?_
        refine zx_V_i (As := [.int (nI d), .int (zx_i ((j : Int) - 3))]) (rest := [.int (nI (zp_bits (fun j9 => zp_anb (s 9) (a 10) (a 11) (a 12) d (zm_f s a d ((j9 : Int) - 3) (a 4 d))) j))]) cf (c_X3_anyBy l D cI cB r s a z h d ((j : Int) - 3) hI (by omega) (by omega)) (cwV 2 hts gX3_delaysOf_X3_anyBy rfl rfl rfl ⟨rfl, hd_X3_anyBy⟩ ⟨Nat.le_of_ble_eq_true rfl, Nat.le_of_ble_eq_true rfl⟩) hK hN hP hD hS hA 0 rfl rfl rfl hl.1 rfl (Nat.le_of_ble_eq_true rfl) dX3_delaysOf_14 ⟨Nat.zero_le _, Nat.zero_le _⟩ (fun v_14 u_14 H locs hq hP hD hS => ?_)
        obtain ⟨rfl, rfl⟩ := hq
        refine zx_bf_eq hx hb (tgt := 29) dX3_delaysOf_17 (by decide) (fun c_17 => ?_) (fun c_17 => ?_)
        · refine lv_iconst (v := nI 0) hx hb dX3_delaysOf_29 (by decide) ?_
          refine zx_ior hx hb dX3_delaysOf_30 ?_
          refine lv_istore_n (lv' := [(2, .int (nI ((zp_bits (fun j9 => zp_anb (s 9) (a 10) (a 11) (a 12) d (zm_f s a d ((j9 : Int) - 3) (a 4 d))) j) ||| 0))), (0, .ref (r 0)), (1, .int (nI d)), (3, .int (zx_i ((j : Int) - 3)))]) hx hb dX3_delaysOf_31 rfl hl (by decide) rfl (fun ls hl => ?_)
          refine lv_iinc (v := zx_i ((j : Int) - 3 + 1)) (lv' := [(3, .int (zx_i ((j : Int) - 3 + 1))), (2, .int (nI ((zp_bits (fun j9 => zp_anb (s 9) (a 10) (a 11) (a 12) d (zm_f s a d ((j9 : Int) - 3) (a 4 d))) j) ||| 0))), (0, .ref (r 0)), (1, .int (nI d))]) hx hb dX3_delaysOf_32 hl (k := 3) rfl (zx_incI _ _) (by decide) rfl (fun ls hl => ?_)
          refine lv_goto (tgt := 5) hx hb dX3_delaysOf_35 (by decide) ?_
          exact ih_5 (j + 1) (by omega) (by omega) _ rfl _ (zp_bitsF (f := (fun j9 => zp_anb (s 9) (a 10) (a 11) (a 12) d (zm_f s a d ((j9 : Int) - 3) (a 4 d)))) c_17) _ (congrArg zx_i (by omega)) _ _ hP hD hS ls (lv_sub hl [2, 3, 1, 0] rfl)
        · refine lv_iconst (v := nI 1) hx hb dX3_delaysOf_20 (by decide) ?_
          refine lv_iload_n hx hb dX3_delaysOf_21 rfl (lv_at hl 3 rfl) ?_
          refine lv_bipush (v := (-3)) hx hb dX3_delaysOf_22 (by decide) ?_
          refine lv_isub hx hb dX3_delaysOf_24 ?_
          refine zx_topi (y := nI j) (zx_dj j (by omega)) ?_
          refine zx_ishl1 hx hb (by omega) dX3_delaysOf_25 ?_
          refine lv_goto (tgt := 30) hx hb dX3_delaysOf_26 (by decide) ?_
          refine zx_ior hx hb dX3_delaysOf_30 ?_
          refine lv_istore_n (lv' := [(2, .int (nI ((zp_bits (fun j9 => zp_anb (s 9) (a 10) (a 11) (a 12) d (zm_f s a d ((j9 : Int) - 3) (a 4 d))) j) ||| (2 ^ j)))), (0, .ref (r 0)), (1, .int (nI d)), (3, .int (zx_i ((j : Int) - 3)))]) hx hb dX3_delaysOf_31 rfl hl (by decide) rfl (fun ls hl => ?_)
          refine lv_iinc (v := zx_i ((j : Int) - 3 + 1)) (lv' := [(3, .int (zx_i ((j : Int) - 3 + 1))), (2, .int (nI ((zp_bits (fun j9 => zp_anb (s 9) (a 10) (a 11) (a 12) d (zm_f s a d ((j9 : Int) - 3) (a 4 d))) j) ||| (2 ^ j)))), (0, .ref (r 0)), (1, .int (nI d))]) hx hb dX3_delaysOf_32 hl (k := 3) rfl (zx_incI _ _) (by decide) rfl (fun ls hl => ?_)
          refine lv_goto (tgt := 5) hx hb dX3_delaysOf_35 (by decide) ?_
          exact ih_5 (j + 1) (by omega) (by omega) _ rfl _ (zp_bitsT (f := (fun j9 => zp_anb (s 9) (a 10) (a 11) (a 12) d (zm_f s a d ((j9 : Int) - 3) (a 4 d)))) c_17) _ (congrArg zx_i (by omega)) _ _ hP hD hS ls (lv_sub hl [2, 3, 1, 0] rfl)
  exact lp_5 _ 0 (Nat.lt_succ_self _) (Nat.zero_le _) _ rfl _ rfl _ (by decide) _ _ hP hD hS ls (lv_sub hl [2, 3, 1, 0] rfl)
set_option maxHeartbeats 4000000 in
set_option maxRecDepth 100000 in
theorem c_X3_delays (l : Launch) (D : va_G) (cI cB : ClassId) (r : Nat → Nat) (s : Nat → Nat) (a : Nat → Nat → Nat) (z : Nat → Int) (h : Int64) (x : Int32) (hI : zm_I s a z) : zx_C zx_ei l D (zm_t cI cB) (zm_w cI cB r) yX3_delays wsX3_delays rmX3_delays [.ref (r 0), .int x] (s, a, z, h) (fun v u' => v = zs_de (zd_drw (s 0) x) (fun d => nI (zm_del s a d)) ∧ u' = (s, a, z, h)) := by
  refine zx_of_i (cc := cX3_delays) (maxL := 2) (by decide) rfl (Nat.le_of_ble_eq_true rfl) ?_
  intro p e st m args below meth c A Q H cf hK hN hP hD hS hA hret ls hl
  obtain ⟨hx, hb, hml, hown, hts⟩ := id cf
  have hl : lv_has ls 2 [(0, .ref (r 0)), (1, .int x)] := hl
  have hP : va_P D vwCl ((zm_w cI cB r) (s, a, z, h)) H := hP
  have hD : va_D A ((zm_w cI cB r) (s, a, z, h)) := hD
  refine lv_aload_n hx hb dX3_delays_0 rfl (lv_at hl 0 rfl) ?_
  refine lv_iload_n hx hb dX3_delays_1 rfl (lv_at hl 1 rfl) ?_
  refine zx_V_i (As := [.int x]) (rest := []) cf (c_X3_isDrawer l D cI cB r s a z h x hI ) (cwV 1 hts gX3_delays_X3_isDrawer rfl rfl rfl ⟨rfl, hd_X3_isDrawer⟩ ⟨Nat.le_of_ble_eq_true rfl, Nat.le_of_ble_eq_true rfl⟩) hK hN hP hD hS hA 0 rfl rfl rfl hl.1 rfl (Nat.le_of_ble_eq_true rfl) dX3_delays_2 ⟨Nat.zero_le _, Nat.zero_le _⟩ (fun v_2 u_2 H locs hq hP hD hS => ?_)
  obtain ⟨rfl, rfl⟩ := hq
  refine zx_bf_eq hx hb (tgt := 16) dX3_delays_5 (by decide) (fun c_5 => ?_) (fun c_5 => ?_)
  · refine lv_bipush (v := (-101)) hx hb dX3_delays_16 (by decide) ?_
    exact hret _ _ _ _ _ _ hP hD hS dX3_delays_18 ⟨by rw [zd_none c_5]; rfl, rfl⟩
  · obtain ⟨d, hz⟩ := zd_some c_5
    obtain ⟨rfl, hd, hc9⟩ := zd_drw_some hz
    refine lv_aload_n hx hb dX3_delays_8 rfl (lv_at hl 0 rfl) ?_
    refine lv_iload_n hx hb dX3_delays_9 rfl (lv_at hl 1 rfl) ?_
    refine zx_V_i (As := [.int (nI d)]) (rest := []) cf (c_X3_delaysOf l D cI cB r s a z h d hI (by omega)) (cwV 1 hts gX3_delays_X3_delaysOf rfl rfl rfl ⟨rfl, hd_X3_delaysOf⟩ ⟨Nat.le_of_ble_eq_true rfl, Nat.le_of_ble_eq_true rfl⟩) hK hN hP hD hS hA 0 rfl rfl rfl hl.1 rfl (Nat.le_of_ble_eq_true rfl) dX3_delays_10 ⟨Nat.zero_le _, Nat.zero_le _⟩ (fun v_10 u_10 H locs hq hP hD hS => ?_)
    obtain ⟨rfl, rfl⟩ := hq
    refine lv_goto (tgt := 18) hx hb dX3_delays_13 (by decide) ?_
    exact hret _ _ _ _ _ _ hP hD hS dX3_delays_18 ⟨by rw [hz]; rfl, rfl⟩
