set_option maxHeartbeats 8000000 in
set_option maxRecDepth 100000 in
theorem lw_k0 {p : Program} {l : Launch} {e : Env} {s : State} {m : MethodId} {below : List Frame} {meth : Method} {c : Code} {b L : Nat} {xs : Nat → Int32} (hL : L ≤ 256) (C0 : lw_At p s m meth c b L xs) {D : va_G} {cI cB : ClassId} {rX rM : Nat → Nat} (hK : va_K D vwCl (zm_t cI cB) s) (hN : zx_N s) {k : Nat} (hk : 4 * k + 4 ≤ L) {uX : (Nat → Nat) × (Nat → Nat → Nat) × (Nat → Int) × Int} {uM : (Nat → Nat) × (Nat → Nat → Nat) × (Nat → Int) × Int64} (hU : zr_U k uX uM) (ih : ∀ (vX : (Nat → Nat) × (Nat → Nat → Nat) × (Nat → Int) × Int) (vM : (Nat → Nat) × (Nat → Nat → Nat) × (Nat → Int) × Int64), zr_U (k + 1) vX vM → ∀ (H : Heap) (locs : List Loc), va_P D vwCl (zy_w cI rX vX ++ zm_w cI cB rM vM) H → va_D (fun q : Nat => s.heap.size ≤ q) (zy_w cI rX vX ++ zm_w cI cB rM vM) → va_S (fun q : Nat => s.heap.size ≤ q) s.heap H locs → ∀ ls : Array Slot, lv_has ls 4 [(0, .ref b), (1, .ref (rX 1)), (2, .ref (rM 0)), (3, .int (nI (4 * k)))] → W p l e room_1 s m #[Value.ref b] below meth c H locs 34 292 (lw_Z below #[Value.ref b] s) (F0 m 802 ls [])) : ∀ (H : Heap) (locs : List Loc), va_P D vwCl (zy_w cI rX uX ++ zm_w cI cB rM uM) H → va_D (fun q : Nat => s.heap.size ≤ q) (zy_w cI rX uX ++ zm_w cI cB rM uM) → va_S (fun q : Nat => s.heap.size ≤ q) s.heap H locs → ∀ ls : Array Slot, lv_has ls 4 [(0, .ref b), (1, .ref (rX 1)), (2, .ref (rM 0)), (3, .int (nI (4 * k)))] → W p l e room_1 s m #[Value.ref b] below meth c H locs 34 292 (lw_Z below #[Value.ref b] s) (F0 m 140 ls []) := by
  intro H locs hP hD hS ls hl
  obtain ⟨hx, hb, hr, hml, hown, hts0, hX, hbl, hlocks, hgv⟩ := C0
  have hts : ∀ w ∈ wsL_law, w.before #[Value.ref b] s = true := fun w hw => hts0 w (wsL_law_in w hw)
  have hA : ∀ q : Nat, s.heap.size ≤ q → (fun q : Nat => s.heap.size ≤ q) q := fun _ h => h
  have hbA : ¬ (fun q : Nat => s.heap.size ≤ q) b := Nat.not_le.mpr hbl
  obtain ⟨sx, ax, zx, hx9⟩ := uX
  obtain ⟨sm, am, zm, hm9⟩ := uM
  have hR9 : zr_R k sx ax zx sm am zm := hU
  have cf : CallFix p m c cL_law 4 s #[Value.ref b] wsL_law RL := ⟨hx, hb, hml, hown, hts⟩
  have hin1 : vp_in (nI (4 * k + 1)) L := vp_in_nI (by omega) (by omega)
  have hin2 : vp_in (nI (4 * k + 2)) L := vp_in_nI (by omega) (by omega)
  have hin3 : vp_in (nI (4 * k + 3)) L := vp_in_nI (by omega) (by omega)
  refine lv_aload_n hx hb dL_law_140 rfl (lv_at hl 1 rfl) ?_
  refine lv_aload_n hx hb dL_law_141 rfl (lv_at hl 0 rfl) ?_
  refine lv_iload_n hx hb dL_law_142 rfl (lv_at hl 3 rfl) ?_
  refine lv_iconst (v := nI 1) hx hb dL_law_143 (by decide) ?_
  refine zx_iadd hx hb dL_law_144 ?_
  refine va_sld hx hb hX hbl hbA hS hin1 dL_law_145 ?_
  refine zw_V (em := zx_ei) (As := [.int (xs (nI (4 * k + 1)).toNatClampNeg)]) (rest := []) (W0 := zy_w cI rX (sx, ax, zx, hx9) ++ zm_w cI cB rM (sm, am, zm, hm9)) (wr := zm_w cI cB rM (sm, am, zm, hm9)) cf (c_X2_letter l D cI cB rX sx ax zx hx9 (xs (nI (4 * k + 1)).toNatClampNeg) hR9.2.2.1) (cwV 1 hts gL_law_X2_letter rfl rfl rfl ⟨rfl, hd_X2_letter⟩ ⟨Nat.le_of_ble_eq_true rfl, Nat.le_of_ble_eq_true rfl⟩) hK hN hP hD hS hA [0, 1, 2, 3, 4, 5, 6, 7, 8, 9, 10, 11, 12, 13, 14, 15, 16, 17] [18, 19, 20, 21, 22, 23, 24, 25, 26, 27, 28, 29, 30, 31, 32, 33] rfl rfl rfl rfl (by decide) 0 rfl rfl rfl hl.1 rfl (Nat.le_of_ble_eq_true rfl) dL_law_146 ⟨Nat.le_of_ble_eq_true rfl, Nat.le_of_ble_eq_true rfl⟩ (fun r1 vX H locs hq1 hP hD hS => ?_)
  refine W.eq (g2 := F0 m 149 ls [.int r1]) rfl ?_
  refine lv_aload_n hx hb dL_law_149 rfl (lv_at hl 2 rfl) ?_
  refine lv_aload_n hx hb dL_law_150 rfl (lv_at hl 0 rfl) ?_
  refine lv_iload_n hx hb dL_law_151 rfl (lv_at hl 3 rfl) ?_
  refine lv_iconst (v := nI 1) hx hb dL_law_152 (by decide) ?_
  refine zx_iadd hx hb dL_law_153 ?_
  refine va_sld hx hb hX hbl hbA hS hin1 dL_law_154 ?_
  refine zw_V (em := zx_ei) (As := [.int (xs (nI (4 * k + 1)).toNatClampNeg)]) (rest := [.int r1]) (W0 := zm_w cI cB rM (sm, am, zm, hm9) ++ zy_w cI rX vX) (wr := zy_w cI rX vX) cf (c_X3_letter l D cI cB rM sm am zm hm9 (xs (nI (4 * k + 1)).toNatClampNeg) hR9.2.2.2.1) (cwV 1 hts gL_law_X3_letter rfl rfl rfl ⟨rfl, hd_X3_letter⟩ ⟨Nat.le_of_ble_eq_true rfl, Nat.le_of_ble_eq_true rfl⟩) hK hN hP hD hS hA [0, 1, 2, 3, 4, 5, 6, 7, 8, 9, 10, 11, 12, 13, 14, 15] [16, 17, 18, 19, 20, 21, 22, 23, 24, 25, 26, 27, 28, 29, 30, 31, 32, 33] rfl rfl rfl rfl (by decide) 0 rfl rfl rfl hl.1 rfl (Nat.le_of_ble_eq_true rfl) dL_law_155 ⟨Nat.le_of_ble_eq_true rfl, Nat.le_of_ble_eq_true rfl⟩ (fun r2 vM H locs hq2 hP hD hS => ?_)
  refine W.eq (g2 := F0 m 158 ls [.int r2, .int r1]) rfl ?_
  obtain ⟨he, hv⟩ := zr_s_letter hR9 hq1 hq2
  subst he
  refine lv_icmp_eq (tgt := 802) hx hb dL_law_158 (by decide) (fun _ => ?_) (fun c9 => absurd rfl c9)
  exact ih vX vM hv H locs hP hD hS ls hl
set_option maxHeartbeats 8000000 in
set_option maxRecDepth 100000 in
theorem lw_k1 {p : Program} {l : Launch} {e : Env} {s : State} {m : MethodId} {below : List Frame} {meth : Method} {c : Code} {b L : Nat} {xs : Nat → Int32} (hL : L ≤ 256) (C0 : lw_At p s m meth c b L xs) {D : va_G} {cI cB : ClassId} {rX rM : Nat → Nat} (hK : va_K D vwCl (zm_t cI cB) s) (hN : zx_N s) {k : Nat} (hk : 4 * k + 4 ≤ L) {uX : (Nat → Nat) × (Nat → Nat → Nat) × (Nat → Int) × Int} {uM : (Nat → Nat) × (Nat → Nat → Nat) × (Nat → Int) × Int64} (hU : zr_U k uX uM) (ih : ∀ (vX : (Nat → Nat) × (Nat → Nat → Nat) × (Nat → Int) × Int) (vM : (Nat → Nat) × (Nat → Nat → Nat) × (Nat → Int) × Int64), zr_U (k + 1) vX vM → ∀ (H : Heap) (locs : List Loc), va_P D vwCl (zy_w cI rX vX ++ zm_w cI cB rM vM) H → va_D (fun q : Nat => s.heap.size ≤ q) (zy_w cI rX vX ++ zm_w cI cB rM vM) → va_S (fun q : Nat => s.heap.size ≤ q) s.heap H locs → ∀ ls : Array Slot, lv_has ls 4 [(0, .ref b), (1, .ref (rX 1)), (2, .ref (rM 0)), (3, .int (nI (4 * k)))] → W p l e room_1 s m #[Value.ref b] below meth c H locs 34 292 (lw_Z below #[Value.ref b] s) (F0 m 802 ls [])) : ∀ (H : Heap) (locs : List Loc), va_P D vwCl (zy_w cI rX uX ++ zm_w cI cB rM uM) H → va_D (fun q : Nat => s.heap.size ≤ q) (zy_w cI rX uX ++ zm_w cI cB rM uM) → va_S (fun q : Nat => s.heap.size ≤ q) s.heap H locs → ∀ ls : Array Slot, lv_has ls 4 [(0, .ref b), (1, .ref (rX 1)), (2, .ref (rM 0)), (3, .int (nI (4 * k)))] → W p l e room_1 s m #[Value.ref b] below meth c H locs 34 292 (lw_Z below #[Value.ref b] s) (F0 m 163 ls []) := by
  intro H locs hP hD hS ls hl
  obtain ⟨hx, hb, hr, hml, hown, hts0, hX, hbl, hlocks, hgv⟩ := C0
  have hts : ∀ w ∈ wsL_law, w.before #[Value.ref b] s = true := fun w hw => hts0 w (wsL_law_in w hw)
  have hA : ∀ q : Nat, s.heap.size ≤ q → (fun q : Nat => s.heap.size ≤ q) q := fun _ h => h
  have hbA : ¬ (fun q : Nat => s.heap.size ≤ q) b := Nat.not_le.mpr hbl
  obtain ⟨sx, ax, zx, hx9⟩ := uX
  obtain ⟨sm, am, zm, hm9⟩ := uM
  have hR9 : zr_R k sx ax zx sm am zm := hU
  have cf : CallFix p m c cL_law 4 s #[Value.ref b] wsL_law RL := ⟨hx, hb, hml, hown, hts⟩
  have hin1 : vp_in (nI (4 * k + 1)) L := vp_in_nI (by omega) (by omega)
  have hin2 : vp_in (nI (4 * k + 2)) L := vp_in_nI (by omega) (by omega)
  have hin3 : vp_in (nI (4 * k + 3)) L := vp_in_nI (by omega) (by omega)
  refine lv_aload_n hx hb dL_law_163 rfl (lv_at hl 1 rfl) ?_
  refine zw_V (em := zx_ei) (As := []) (rest := []) (W0 := zy_w cI rX (sx, ax, zx, hx9) ++ zm_w cI cB rM (sm, am, zm, hm9)) (wr := zm_w cI cB rM (sm, am, zm, hm9)) cf (c_X2_blank l D cI cB rX sx ax zx hx9  hR9.2.2.1) (cwV 0 hts gL_law_X2_blank rfl rfl rfl ⟨rfl, hd_X2_blank⟩ ⟨Nat.le_of_ble_eq_true rfl, Nat.le_of_ble_eq_true rfl⟩) hK hN hP hD hS hA [0, 1, 2, 3, 4, 5, 6, 7, 8, 9, 10, 11, 12, 13, 14, 15, 16, 17] [18, 19, 20, 21, 22, 23, 24, 25, 26, 27, 28, 29, 30, 31, 32, 33] rfl rfl rfl rfl (by decide) 0 rfl rfl rfl hl.1 rfl (Nat.le_of_ble_eq_true rfl) dL_law_164 ⟨Nat.le_of_ble_eq_true rfl, Nat.le_of_ble_eq_true rfl⟩ (fun r1 vX H locs hq1 hP hD hS => ?_)
  refine W.eq (g2 := F0 m 167 ls [.int r1]) rfl ?_
  refine lv_aload_n hx hb dL_law_167 rfl (lv_at hl 2 rfl) ?_
  refine zw_V (em := zx_ei) (As := []) (rest := [.int r1]) (W0 := zm_w cI cB rM (sm, am, zm, hm9) ++ zy_w cI rX vX) (wr := zy_w cI rX vX) cf (c_X3_blank l D cI cB rM sm am zm hm9  hR9.2.2.2.1) (cwV 0 hts gL_law_X3_blank rfl rfl rfl ⟨rfl, hd_X3_blank⟩ ⟨Nat.le_of_ble_eq_true rfl, Nat.le_of_ble_eq_true rfl⟩) hK hN hP hD hS hA [0, 1, 2, 3, 4, 5, 6, 7, 8, 9, 10, 11, 12, 13, 14, 15] [16, 17, 18, 19, 20, 21, 22, 23, 24, 25, 26, 27, 28, 29, 30, 31, 32, 33] rfl rfl rfl rfl (by decide) 0 rfl rfl rfl hl.1 rfl (Nat.le_of_ble_eq_true rfl) dL_law_168 ⟨Nat.le_of_ble_eq_true rfl, Nat.le_of_ble_eq_true rfl⟩ (fun r2 vM H locs hq2 hP hD hS => ?_)
  refine W.eq (g2 := F0 m 171 ls [.int r2, .int r1]) rfl ?_
  obtain ⟨he, hv⟩ := zr_s_blank hR9 hq1 hq2
  subst he
  refine lv_icmp_eq (tgt := 802) hx hb dL_law_171 (by decide) (fun _ => ?_) (fun c9 => absurd rfl c9)
  exact ih vX vM hv H locs hP hD hS ls hl
set_option maxHeartbeats 8000000 in
set_option maxRecDepth 100000 in
theorem lw_k2 {p : Program} {l : Launch} {e : Env} {s : State} {m : MethodId} {below : List Frame} {meth : Method} {c : Code} {b L : Nat} {xs : Nat → Int32} (hL : L ≤ 256) (C0 : lw_At p s m meth c b L xs) {D : va_G} {cI cB : ClassId} {rX rM : Nat → Nat} (hK : va_K D vwCl (zm_t cI cB) s) (hN : zx_N s) {k : Nat} (hk : 4 * k + 4 ≤ L) {uX : (Nat → Nat) × (Nat → Nat → Nat) × (Nat → Int) × Int} {uM : (Nat → Nat) × (Nat → Nat → Nat) × (Nat → Int) × Int64} (hU : zr_U k uX uM) (ih : ∀ (vX : (Nat → Nat) × (Nat → Nat → Nat) × (Nat → Int) × Int) (vM : (Nat → Nat) × (Nat → Nat → Nat) × (Nat → Int) × Int64), zr_U (k + 1) vX vM → ∀ (H : Heap) (locs : List Loc), va_P D vwCl (zy_w cI rX vX ++ zm_w cI cB rM vM) H → va_D (fun q : Nat => s.heap.size ≤ q) (zy_w cI rX vX ++ zm_w cI cB rM vM) → va_S (fun q : Nat => s.heap.size ≤ q) s.heap H locs → ∀ ls : Array Slot, lv_has ls 4 [(0, .ref b), (1, .ref (rX 1)), (2, .ref (rM 0)), (3, .int (nI (4 * k)))] → W p l e room_1 s m #[Value.ref b] below meth c H locs 34 292 (lw_Z below #[Value.ref b] s) (F0 m 802 ls [])) : ∀ (H : Heap) (locs : List Loc), va_P D vwCl (zy_w cI rX uX ++ zm_w cI cB rM uM) H → va_D (fun q : Nat => s.heap.size ≤ q) (zy_w cI rX uX ++ zm_w cI cB rM uM) → va_S (fun q : Nat => s.heap.size ≤ q) s.heap H locs → ∀ ls : Array Slot, lv_has ls 4 [(0, .ref b), (1, .ref (rX 1)), (2, .ref (rM 0)), (3, .int (nI (4 * k)))] → W p l e room_1 s m #[Value.ref b] below meth c H locs 34 292 (lw_Z below #[Value.ref b] s) (F0 m 176 ls []) := by
  intro H locs hP hD hS ls hl
  obtain ⟨hx, hb, hr, hml, hown, hts0, hX, hbl, hlocks, hgv⟩ := C0
  have hts : ∀ w ∈ wsL_law, w.before #[Value.ref b] s = true := fun w hw => hts0 w (wsL_law_in w hw)
  have hA : ∀ q : Nat, s.heap.size ≤ q → (fun q : Nat => s.heap.size ≤ q) q := fun _ h => h
  have hbA : ¬ (fun q : Nat => s.heap.size ≤ q) b := Nat.not_le.mpr hbl
  obtain ⟨sx, ax, zx, hx9⟩ := uX
  obtain ⟨sm, am, zm, hm9⟩ := uM
  have hR9 : zr_R k sx ax zx sm am zm := hU
  have cf : CallFix p m c cL_law 4 s #[Value.ref b] wsL_law RL := ⟨hx, hb, hml, hown, hts⟩
  have hin1 : vp_in (nI (4 * k + 1)) L := vp_in_nI (by omega) (by omega)
  have hin2 : vp_in (nI (4 * k + 2)) L := vp_in_nI (by omega) (by omega)
  have hin3 : vp_in (nI (4 * k + 3)) L := vp_in_nI (by omega) (by omega)
  refine lv_aload_n hx hb dL_law_176 rfl (lv_at hl 1 rfl) ?_
  refine zw_V (em := zx_ei) (As := []) (rest := []) (W0 := zy_w cI rX (sx, ax, zx, hx9) ++ zm_w cI cB rM (sm, am, zm, hm9)) (wr := zm_w cI cB rM (sm, am, zm, hm9)) cf (c_X2_fault l D cI cB rX sx ax zx hx9  hR9.2.2.1) (cwV 0 hts gL_law_X2_fault rfl rfl rfl ⟨rfl, hd_X2_fault⟩ ⟨Nat.le_of_ble_eq_true rfl, Nat.le_of_ble_eq_true rfl⟩) hK hN hP hD hS hA [0, 1, 2, 3, 4, 5, 6, 7, 8, 9, 10, 11, 12, 13, 14, 15, 16, 17] [18, 19, 20, 21, 22, 23, 24, 25, 26, 27, 28, 29, 30, 31, 32, 33] rfl rfl rfl rfl (by decide) 0 rfl rfl rfl hl.1 rfl (Nat.le_of_ble_eq_true rfl) dL_law_177 ⟨Nat.le_of_ble_eq_true rfl, Nat.le_of_ble_eq_true rfl⟩ (fun r1 vX H locs hq1 hP hD hS => ?_)
  refine W.eq (g2 := F0 m 180 ls [.int r1]) rfl ?_
  refine lv_aload_n hx hb dL_law_180 rfl (lv_at hl 2 rfl) ?_
  refine zw_V (em := zx_ei) (As := []) (rest := [.int r1]) (W0 := zm_w cI cB rM (sm, am, zm, hm9) ++ zy_w cI rX vX) (wr := zy_w cI rX vX) cf (c_X3_fault l D cI cB rM sm am zm hm9  hR9.2.2.2.1) (cwV 0 hts gL_law_X3_fault rfl rfl rfl ⟨rfl, hd_X3_fault⟩ ⟨Nat.le_of_ble_eq_true rfl, Nat.le_of_ble_eq_true rfl⟩) hK hN hP hD hS hA [0, 1, 2, 3, 4, 5, 6, 7, 8, 9, 10, 11, 12, 13, 14, 15] [16, 17, 18, 19, 20, 21, 22, 23, 24, 25, 26, 27, 28, 29, 30, 31, 32, 33] rfl rfl rfl rfl (by decide) 0 rfl rfl rfl hl.1 rfl (Nat.le_of_ble_eq_true rfl) dL_law_181 ⟨Nat.le_of_ble_eq_true rfl, Nat.le_of_ble_eq_true rfl⟩ (fun r2 vM H locs hq2 hP hD hS => ?_)
  refine W.eq (g2 := F0 m 184 ls [.int r2, .int r1]) rfl ?_
  obtain ⟨he, hv⟩ := zr_s_fault hR9 hq1 hq2
  subst he
  refine lv_icmp_eq (tgt := 802) hx hb dL_law_184 (by decide) (fun _ => ?_) (fun c9 => absurd rfl c9)
  exact ih vX vM hv H locs hP hD hS ls hl
set_option maxHeartbeats 8000000 in
set_option maxRecDepth 100000 in
theorem lw_k3 {p : Program} {l : Launch} {e : Env} {s : State} {m : MethodId} {below : List Frame} {meth : Method} {c : Code} {b L : Nat} {xs : Nat → Int32} (hL : L ≤ 256) (C0 : lw_At p s m meth c b L xs) {D : va_G} {cI cB : ClassId} {rX rM : Nat → Nat} (hK : va_K D vwCl (zm_t cI cB) s) (hN : zx_N s) {k : Nat} (hk : 4 * k + 4 ≤ L) {uX : (Nat → Nat) × (Nat → Nat → Nat) × (Nat → Int) × Int} {uM : (Nat → Nat) × (Nat → Nat → Nat) × (Nat → Int) × Int64} (hU : zr_U k uX uM) (ih : ∀ (vX : (Nat → Nat) × (Nat → Nat → Nat) × (Nat → Int) × Int) (vM : (Nat → Nat) × (Nat → Nat → Nat) × (Nat → Int) × Int64), zr_U (k + 1) vX vM → ∀ (H : Heap) (locs : List Loc), va_P D vwCl (zy_w cI rX vX ++ zm_w cI cB rM vM) H → va_D (fun q : Nat => s.heap.size ≤ q) (zy_w cI rX vX ++ zm_w cI cB rM vM) → va_S (fun q : Nat => s.heap.size ≤ q) s.heap H locs → ∀ ls : Array Slot, lv_has ls 4 [(0, .ref b), (1, .ref (rX 1)), (2, .ref (rM 0)), (3, .int (nI (4 * k)))] → W p l e room_1 s m #[Value.ref b] below meth c H locs 34 292 (lw_Z below #[Value.ref b] s) (F0 m 802 ls [])) : ∀ (H : Heap) (locs : List Loc), va_P D vwCl (zy_w cI rX uX ++ zm_w cI cB rM uM) H → va_D (fun q : Nat => s.heap.size ≤ q) (zy_w cI rX uX ++ zm_w cI cB rM uM) → va_S (fun q : Nat => s.heap.size ≤ q) s.heap H locs → ∀ ls : Array Slot, lv_has ls 4 [(0, .ref b), (1, .ref (rX 1)), (2, .ref (rM 0)), (3, .int (nI (4 * k)))] → W p l e room_1 s m #[Value.ref b] below meth c H locs 34 292 (lw_Z below #[Value.ref b] s) (F0 m 189 ls []) := by
  intro H locs hP hD hS ls hl
  obtain ⟨hx, hb, hr, hml, hown, hts0, hX, hbl, hlocks, hgv⟩ := C0
  have hts : ∀ w ∈ wsL_law, w.before #[Value.ref b] s = true := fun w hw => hts0 w (wsL_law_in w hw)
  have hA : ∀ q : Nat, s.heap.size ≤ q → (fun q : Nat => s.heap.size ≤ q) q := fun _ h => h
  have hbA : ¬ (fun q : Nat => s.heap.size ≤ q) b := Nat.not_le.mpr hbl
  obtain ⟨sx, ax, zx, hx9⟩ := uX
  obtain ⟨sm, am, zm, hm9⟩ := uM
  have hR9 : zr_R k sx ax zx sm am zm := hU
  have cf : CallFix p m c cL_law 4 s #[Value.ref b] wsL_law RL := ⟨hx, hb, hml, hown, hts⟩
  have hin1 : vp_in (nI (4 * k + 1)) L := vp_in_nI (by omega) (by omega)
  have hin2 : vp_in (nI (4 * k + 2)) L := vp_in_nI (by omega) (by omega)
  have hin3 : vp_in (nI (4 * k + 3)) L := vp_in_nI (by omega) (by omega)
  refine lv_aload_n hx hb dL_law_189 rfl (lv_at hl 1 rfl) ?_
  refine zw_V (em := zx_ei) (As := []) (rest := []) (W0 := zy_w cI rX (sx, ax, zx, hx9) ++ zm_w cI cB rM (sm, am, zm, hm9)) (wr := zm_w cI cB rM (sm, am, zm, hm9)) cf (c_X2_chest l D cI cB rX sx ax zx hx9  hR9.2.2.1) (cwV 0 hts gL_law_X2_chest rfl rfl rfl ⟨rfl, hd_X2_chest⟩ ⟨Nat.le_of_ble_eq_true rfl, Nat.le_of_ble_eq_true rfl⟩) hK hN hP hD hS hA [0, 1, 2, 3, 4, 5, 6, 7, 8, 9, 10, 11, 12, 13, 14, 15, 16, 17] [18, 19, 20, 21, 22, 23, 24, 25, 26, 27, 28, 29, 30, 31, 32, 33] rfl rfl rfl rfl (by decide) 0 rfl rfl rfl hl.1 rfl (Nat.le_of_ble_eq_true rfl) dL_law_190 ⟨Nat.le_of_ble_eq_true rfl, Nat.le_of_ble_eq_true rfl⟩ (fun r1 vX H locs hq1 hP hD hS => ?_)
  refine W.eq (g2 := F0 m 193 ls [.int r1]) rfl ?_
  refine lv_aload_n hx hb dL_law_193 rfl (lv_at hl 2 rfl) ?_
  refine zw_V (em := zx_ei) (As := []) (rest := [.int r1]) (W0 := zm_w cI cB rM (sm, am, zm, hm9) ++ zy_w cI rX vX) (wr := zy_w cI rX vX) cf (c_X3_chest l D cI cB rM sm am zm hm9  hR9.2.2.2.1) (cwV 0 hts gL_law_X3_chest rfl rfl rfl ⟨rfl, hd_X3_chest⟩ ⟨Nat.le_of_ble_eq_true rfl, Nat.le_of_ble_eq_true rfl⟩) hK hN hP hD hS hA [0, 1, 2, 3, 4, 5, 6, 7, 8, 9, 10, 11, 12, 13, 14, 15] [16, 17, 18, 19, 20, 21, 22, 23, 24, 25, 26, 27, 28, 29, 30, 31, 32, 33] rfl rfl rfl rfl (by decide) 0 rfl rfl rfl hl.1 rfl (Nat.le_of_ble_eq_true rfl) dL_law_194 ⟨Nat.le_of_ble_eq_true rfl, Nat.le_of_ble_eq_true rfl⟩ (fun r2 vM H locs hq2 hP hD hS => ?_)
  refine W.eq (g2 := F0 m 197 ls [.int r2, .int r1]) rfl ?_
  obtain ⟨he, hv⟩ := zr_s_chest hR9 (by omega) hq1 hq2
  subst he
  refine lv_icmp_eq (tgt := 802) hx hb dL_law_197 (by decide) (fun _ => ?_) (fun c9 => absurd rfl c9)
  exact ih vX vM hv H locs hP hD hS ls hl
set_option maxHeartbeats 8000000 in
set_option maxRecDepth 100000 in
theorem lw_k4 {p : Program} {l : Launch} {e : Env} {s : State} {m : MethodId} {below : List Frame} {meth : Method} {c : Code} {b L : Nat} {xs : Nat → Int32} (hL : L ≤ 256) (C0 : lw_At p s m meth c b L xs) {D : va_G} {cI cB : ClassId} {rX rM : Nat → Nat} (hK : va_K D vwCl (zm_t cI cB) s) (hN : zx_N s) {k : Nat} (hk : 4 * k + 4 ≤ L) {uX : (Nat → Nat) × (Nat → Nat → Nat) × (Nat → Int) × Int} {uM : (Nat → Nat) × (Nat → Nat → Nat) × (Nat → Int) × Int64} (hU : zr_U k uX uM) (ih : ∀ (vX : (Nat → Nat) × (Nat → Nat → Nat) × (Nat → Int) × Int) (vM : (Nat → Nat) × (Nat → Nat → Nat) × (Nat → Int) × Int64), zr_U (k + 1) vX vM → ∀ (H : Heap) (locs : List Loc), va_P D vwCl (zy_w cI rX vX ++ zm_w cI cB rM vM) H → va_D (fun q : Nat => s.heap.size ≤ q) (zy_w cI rX vX ++ zm_w cI cB rM vM) → va_S (fun q : Nat => s.heap.size ≤ q) s.heap H locs → ∀ ls : Array Slot, lv_has ls 4 [(0, .ref b), (1, .ref (rX 1)), (2, .ref (rM 0)), (3, .int (nI (4 * k)))] → W p l e room_1 s m #[Value.ref b] below meth c H locs 34 292 (lw_Z below #[Value.ref b] s) (F0 m 802 ls [])) : ∀ (H : Heap) (locs : List Loc), va_P D vwCl (zy_w cI rX uX ++ zm_w cI cB rM uM) H → va_D (fun q : Nat => s.heap.size ≤ q) (zy_w cI rX uX ++ zm_w cI cB rM uM) → va_S (fun q : Nat => s.heap.size ≤ q) s.heap H locs → ∀ ls : Array Slot, lv_has ls 4 [(0, .ref b), (1, .ref (rX 1)), (2, .ref (rM 0)), (3, .int (nI (4 * k)))] → W p l e room_1 s m #[Value.ref b] below meth c H locs 34 292 (lw_Z below #[Value.ref b] s) (F0 m 202 ls []) := by
  intro H locs hP hD hS ls hl
  obtain ⟨hx, hb, hr, hml, hown, hts0, hX, hbl, hlocks, hgv⟩ := C0
  have hts : ∀ w ∈ wsL_law, w.before #[Value.ref b] s = true := fun w hw => hts0 w (wsL_law_in w hw)
  have hA : ∀ q : Nat, s.heap.size ≤ q → (fun q : Nat => s.heap.size ≤ q) q := fun _ h => h
  have hbA : ¬ (fun q : Nat => s.heap.size ≤ q) b := Nat.not_le.mpr hbl
  obtain ⟨sx, ax, zx, hx9⟩ := uX
  obtain ⟨sm, am, zm, hm9⟩ := uM
  have hR9 : zr_R k sx ax zx sm am zm := hU
  have cf : CallFix p m c cL_law 4 s #[Value.ref b] wsL_law RL := ⟨hx, hb, hml, hown, hts⟩
  have hin1 : vp_in (nI (4 * k + 1)) L := vp_in_nI (by omega) (by omega)
  have hin2 : vp_in (nI (4 * k + 2)) L := vp_in_nI (by omega) (by omega)
  have hin3 : vp_in (nI (4 * k + 3)) L := vp_in_nI (by omega) (by omega)
  refine lv_aload_n hx hb dL_law_202 rfl (lv_at hl 1 rfl) ?_
  refine lv_aload_n hx hb dL_law_203 rfl (lv_at hl 0 rfl) ?_
  refine lv_iload_n hx hb dL_law_204 rfl (lv_at hl 3 rfl) ?_
  refine lv_iconst (v := nI 1) hx hb dL_law_205 (by decide) ?_
  refine zx_iadd hx hb dL_law_206 ?_
  refine va_sld hx hb hX hbl hbA hS hin1 dL_law_207 ?_
  refine zw_V (em := zx_ei) (As := [.int (xs (nI (4 * k + 1)).toNatClampNeg)]) (rest := []) (W0 := zy_w cI rX (sx, ax, zx, hx9) ++ zm_w cI cB rM (sm, am, zm, hm9)) (wr := zm_w cI cB rM (sm, am, zm, hm9)) cf (c_X2_face l D cI cB rX sx ax zx hx9 (xs (nI (4 * k + 1)).toNatClampNeg) hR9.2.2.1) (cwV 1 hts gL_law_X2_face rfl rfl rfl ⟨rfl, hd_X2_face⟩ ⟨Nat.le_of_ble_eq_true rfl, Nat.le_of_ble_eq_true rfl⟩) hK hN hP hD hS hA [0, 1, 2, 3, 4, 5, 6, 7, 8, 9, 10, 11, 12, 13, 14, 15, 16, 17] [18, 19, 20, 21, 22, 23, 24, 25, 26, 27, 28, 29, 30, 31, 32, 33] rfl rfl rfl rfl (by decide) 0 rfl rfl rfl hl.1 rfl (Nat.le_of_ble_eq_true rfl) dL_law_208 ⟨Nat.le_of_ble_eq_true rfl, Nat.le_of_ble_eq_true rfl⟩ (fun r1 vX H locs hq1 hP hD hS => ?_)
  refine W.eq (g2 := F0 m 211 ls [.int r1]) rfl ?_
  refine lv_aload_n hx hb dL_law_211 rfl (lv_at hl 2 rfl) ?_
  refine lv_aload_n hx hb dL_law_212 rfl (lv_at hl 0 rfl) ?_
  refine lv_iload_n hx hb dL_law_213 rfl (lv_at hl 3 rfl) ?_
  refine lv_iconst (v := nI 1) hx hb dL_law_214 (by decide) ?_
  refine zx_iadd hx hb dL_law_215 ?_
  refine va_sld hx hb hX hbl hbA hS hin1 dL_law_216 ?_
  refine zw_V (em := zx_ei) (As := [.int (xs (nI (4 * k + 1)).toNatClampNeg)]) (rest := [.int r1]) (W0 := zm_w cI cB rM (sm, am, zm, hm9) ++ zy_w cI rX vX) (wr := zy_w cI rX vX) cf (c_X3_face l D cI cB rM sm am zm hm9 (xs (nI (4 * k + 1)).toNatClampNeg) hR9.2.2.2.1) (cwV 1 hts gL_law_X3_face rfl rfl rfl ⟨rfl, hd_X3_face⟩ ⟨Nat.le_of_ble_eq_true rfl, Nat.le_of_ble_eq_true rfl⟩) hK hN hP hD hS hA [0, 1, 2, 3, 4, 5, 6, 7, 8, 9, 10, 11, 12, 13, 14, 15] [16, 17, 18, 19, 20, 21, 22, 23, 24, 25, 26, 27, 28, 29, 30, 31, 32, 33] rfl rfl rfl rfl (by decide) 0 rfl rfl rfl hl.1 rfl (Nat.le_of_ble_eq_true rfl) dL_law_217 ⟨Nat.le_of_ble_eq_true rfl, Nat.le_of_ble_eq_true rfl⟩ (fun r2 vM H locs hq2 hP hD hS => ?_)
  refine W.eq (g2 := F0 m 220 ls [.int r2, .int r1]) rfl ?_
  obtain ⟨he, hv⟩ := zr_s_face hR9 hq1 hq2
  subst he
  refine lv_icmp_eq (tgt := 802) hx hb dL_law_220 (by decide) (fun _ => ?_) (fun c9 => absurd rfl c9)
  exact ih vX vM hv H locs hP hD hS ls hl
set_option maxHeartbeats 8000000 in
set_option maxRecDepth 100000 in
theorem lw_k5 {p : Program} {l : Launch} {e : Env} {s : State} {m : MethodId} {below : List Frame} {meth : Method} {c : Code} {b L : Nat} {xs : Nat → Int32} (hL : L ≤ 256) (C0 : lw_At p s m meth c b L xs) {D : va_G} {cI cB : ClassId} {rX rM : Nat → Nat} (hK : va_K D vwCl (zm_t cI cB) s) (hN : zx_N s) {k : Nat} (hk : 4 * k + 4 ≤ L) {uX : (Nat → Nat) × (Nat → Nat → Nat) × (Nat → Int) × Int} {uM : (Nat → Nat) × (Nat → Nat → Nat) × (Nat → Int) × Int64} (hU : zr_U k uX uM) (ih : ∀ (vX : (Nat → Nat) × (Nat → Nat → Nat) × (Nat → Int) × Int) (vM : (Nat → Nat) × (Nat → Nat → Nat) × (Nat → Int) × Int64), zr_U (k + 1) vX vM → ∀ (H : Heap) (locs : List Loc), va_P D vwCl (zy_w cI rX vX ++ zm_w cI cB rM vM) H → va_D (fun q : Nat => s.heap.size ≤ q) (zy_w cI rX vX ++ zm_w cI cB rM vM) → va_S (fun q : Nat => s.heap.size ≤ q) s.heap H locs → ∀ ls : Array Slot, lv_has ls 4 [(0, .ref b), (1, .ref (rX 1)), (2, .ref (rM 0)), (3, .int (nI (4 * k)))] → W p l e room_1 s m #[Value.ref b] below meth c H locs 34 292 (lw_Z below #[Value.ref b] s) (F0 m 802 ls [])) : ∀ (H : Heap) (locs : List Loc), va_P D vwCl (zy_w cI rX uX ++ zm_w cI cB rM uM) H → va_D (fun q : Nat => s.heap.size ≤ q) (zy_w cI rX uX ++ zm_w cI cB rM uM) → va_S (fun q : Nat => s.heap.size ≤ q) s.heap H locs → ∀ ls : Array Slot, lv_has ls 4 [(0, .ref b), (1, .ref (rX 1)), (2, .ref (rM 0)), (3, .int (nI (4 * k)))] → W p l e room_1 s m #[Value.ref b] below meth c H locs 34 292 (lw_Z below #[Value.ref b] s) (F0 m 225 ls []) := by
  intro H locs hP hD hS ls hl
  obtain ⟨hx, hb, hr, hml, hown, hts0, hX, hbl, hlocks, hgv⟩ := C0
  have hts : ∀ w ∈ wsL_law, w.before #[Value.ref b] s = true := fun w hw => hts0 w (wsL_law_in w hw)
  have hA : ∀ q : Nat, s.heap.size ≤ q → (fun q : Nat => s.heap.size ≤ q) q := fun _ h => h
  have hbA : ¬ (fun q : Nat => s.heap.size ≤ q) b := Nat.not_le.mpr hbl
  obtain ⟨sx, ax, zx, hx9⟩ := uX
  obtain ⟨sm, am, zm, hm9⟩ := uM
  have hR9 : zr_R k sx ax zx sm am zm := hU
  have cf : CallFix p m c cL_law 4 s #[Value.ref b] wsL_law RL := ⟨hx, hb, hml, hown, hts⟩
  have hin1 : vp_in (nI (4 * k + 1)) L := vp_in_nI (by omega) (by omega)
  have hin2 : vp_in (nI (4 * k + 2)) L := vp_in_nI (by omega) (by omega)
  have hin3 : vp_in (nI (4 * k + 3)) L := vp_in_nI (by omega) (by omega)
  refine lv_aload_n hx hb dL_law_225 rfl (lv_at hl 1 rfl) ?_
  refine lv_aload_n hx hb dL_law_226 rfl (lv_at hl 0 rfl) ?_
  refine lv_iload_n hx hb dL_law_227 rfl (lv_at hl 3 rfl) ?_
  refine lv_iconst (v := nI 1) hx hb dL_law_228 (by decide) ?_
  refine zx_iadd hx hb dL_law_229 ?_
  refine va_sld hx hb hX hbl hbA hS hin1 dL_law_230 ?_
  refine lv_aload_n hx hb dL_law_231 rfl (lv_at hl 0 rfl) ?_
  refine lv_iload_n hx hb dL_law_232 rfl (lv_at hl 3 rfl) ?_
  refine lv_iconst (v := nI 2) hx hb dL_law_233 (by decide) ?_
  refine zx_iadd hx hb dL_law_234 ?_
  refine va_sld hx hb hX hbl hbA hS hin2 dL_law_235 ?_
  refine zw_V (em := zx_ei) (As := [.int (xs (nI (4 * k + 1)).toNatClampNeg), .int (xs (nI (4 * k + 2)).toNatClampNeg)]) (rest := []) (W0 := zy_w cI rX (sx, ax, zx, hx9) ++ zm_w cI cB rM (sm, am, zm, hm9)) (wr := zm_w cI cB rM (sm, am, zm, hm9)) cf (c_X2_drawer l D cI cB rX sx ax zx hx9 (xs (nI (4 * k + 1)).toNatClampNeg) (xs (nI (4 * k + 2)).toNatClampNeg) hR9.2.2.1) (cwV 2 hts gL_law_X2_drawer rfl rfl rfl ⟨rfl, hd_X2_drawer⟩ ⟨Nat.le_of_ble_eq_true rfl, Nat.le_of_ble_eq_true rfl⟩) hK hN hP hD hS hA [0, 1, 2, 3, 4, 5, 6, 7, 8, 9, 10, 11, 12, 13, 14, 15, 16, 17] [18, 19, 20, 21, 22, 23, 24, 25, 26, 27, 28, 29, 30, 31, 32, 33] rfl rfl rfl rfl (by decide) 0 rfl rfl rfl hl.1 rfl (Nat.le_of_ble_eq_true rfl) dL_law_236 ⟨Nat.le_of_ble_eq_true rfl, Nat.le_of_ble_eq_true rfl⟩ (fun r1 vX H locs hq1 hP hD hS => ?_)
  refine W.eq (g2 := F0 m 239 ls [.int r1]) rfl ?_
  refine lv_aload_n hx hb dL_law_239 rfl (lv_at hl 2 rfl) ?_
  refine lv_aload_n hx hb dL_law_240 rfl (lv_at hl 0 rfl) ?_
  refine lv_iload_n hx hb dL_law_241 rfl (lv_at hl 3 rfl) ?_
  refine lv_iconst (v := nI 1) hx hb dL_law_242 (by decide) ?_
  refine zx_iadd hx hb dL_law_243 ?_
  refine va_sld hx hb hX hbl hbA hS hin1 dL_law_244 ?_
  refine lv_aload_n hx hb dL_law_245 rfl (lv_at hl 0 rfl) ?_
  refine lv_iload_n hx hb dL_law_246 rfl (lv_at hl 3 rfl) ?_
  refine lv_iconst (v := nI 2) hx hb dL_law_247 (by decide) ?_
  refine zx_iadd hx hb dL_law_248 ?_
  refine va_sld hx hb hX hbl hbA hS hin2 dL_law_249 ?_
  refine zw_V (em := zx_ei) (As := [.int (xs (nI (4 * k + 1)).toNatClampNeg), .int (xs (nI (4 * k + 2)).toNatClampNeg)]) (rest := [.int r1]) (W0 := zm_w cI cB rM (sm, am, zm, hm9) ++ zy_w cI rX vX) (wr := zy_w cI rX vX) cf (c_X3_drawer l D cI cB rM sm am zm hm9 (xs (nI (4 * k + 1)).toNatClampNeg) (xs (nI (4 * k + 2)).toNatClampNeg) hR9.2.2.2.1) (cwV 2 hts gL_law_X3_drawer rfl rfl rfl ⟨rfl, hd_X3_drawer⟩ ⟨Nat.le_of_ble_eq_true rfl, Nat.le_of_ble_eq_true rfl⟩) hK hN hP hD hS hA [0, 1, 2, 3, 4, 5, 6, 7, 8, 9, 10, 11, 12, 13, 14, 15] [16, 17, 18, 19, 20, 21, 22, 23, 24, 25, 26, 27, 28, 29, 30, 31, 32, 33] rfl rfl rfl rfl (by decide) 0 rfl rfl rfl hl.1 rfl (Nat.le_of_ble_eq_true rfl) dL_law_250 ⟨Nat.le_of_ble_eq_true rfl, Nat.le_of_ble_eq_true rfl⟩ (fun r2 vM H locs hq2 hP hD hS => ?_)
  refine W.eq (g2 := F0 m 253 ls [.int r2, .int r1]) rfl ?_
  obtain ⟨he, hv⟩ := zr_s_drawer hR9 hq1 hq2
  subst he
  refine lv_icmp_eq (tgt := 802) hx hb dL_law_253 (by decide) (fun _ => ?_) (fun c9 => absurd rfl c9)
  exact ih vX vM hv H locs hP hD hS ls hl
set_option maxHeartbeats 8000000 in
set_option maxRecDepth 100000 in
theorem lw_k6 {p : Program} {l : Launch} {e : Env} {s : State} {m : MethodId} {below : List Frame} {meth : Method} {c : Code} {b L : Nat} {xs : Nat → Int32} (hL : L ≤ 256) (C0 : lw_At p s m meth c b L xs) {D : va_G} {cI cB : ClassId} {rX rM : Nat → Nat} (hK : va_K D vwCl (zm_t cI cB) s) (hN : zx_N s) {k : Nat} (hk : 4 * k + 4 ≤ L) {uX : (Nat → Nat) × (Nat → Nat → Nat) × (Nat → Int) × Int} {uM : (Nat → Nat) × (Nat → Nat → Nat) × (Nat → Int) × Int64} (hU : zr_U k uX uM) (ih : ∀ (vX : (Nat → Nat) × (Nat → Nat → Nat) × (Nat → Int) × Int) (vM : (Nat → Nat) × (Nat → Nat → Nat) × (Nat → Int) × Int64), zr_U (k + 1) vX vM → ∀ (H : Heap) (locs : List Loc), va_P D vwCl (zy_w cI rX vX ++ zm_w cI cB rM vM) H → va_D (fun q : Nat => s.heap.size ≤ q) (zy_w cI rX vX ++ zm_w cI cB rM vM) → va_S (fun q : Nat => s.heap.size ≤ q) s.heap H locs → ∀ ls : Array Slot, lv_has ls 4 [(0, .ref b), (1, .ref (rX 1)), (2, .ref (rM 0)), (3, .int (nI (4 * k)))] → W p l e room_1 s m #[Value.ref b] below meth c H locs 34 292 (lw_Z below #[Value.ref b] s) (F0 m 802 ls [])) : ∀ (H : Heap) (locs : List Loc), va_P D vwCl (zy_w cI rX uX ++ zm_w cI cB rM uM) H → va_D (fun q : Nat => s.heap.size ≤ q) (zy_w cI rX uX ++ zm_w cI cB rM uM) → va_S (fun q : Nat => s.heap.size ≤ q) s.heap H locs → ∀ ls : Array Slot, lv_has ls 4 [(0, .ref b), (1, .ref (rX 1)), (2, .ref (rM 0)), (3, .int (nI (4 * k)))] → W p l e room_1 s m #[Value.ref b] below meth c H locs 34 292 (lw_Z below #[Value.ref b] s) (F0 m 258 ls []) := by
  intro H locs hP hD hS ls hl
  obtain ⟨hx, hb, hr, hml, hown, hts0, hX, hbl, hlocks, hgv⟩ := C0
  have hts : ∀ w ∈ wsL_law, w.before #[Value.ref b] s = true := fun w hw => hts0 w (wsL_law_in w hw)
  have hA : ∀ q : Nat, s.heap.size ≤ q → (fun q : Nat => s.heap.size ≤ q) q := fun _ h => h
  have hbA : ¬ (fun q : Nat => s.heap.size ≤ q) b := Nat.not_le.mpr hbl
  obtain ⟨sx, ax, zx, hx9⟩ := uX
  obtain ⟨sm, am, zm, hm9⟩ := uM
  have hR9 : zr_R k sx ax zx sm am zm := hU
  have cf : CallFix p m c cL_law 4 s #[Value.ref b] wsL_law RL := ⟨hx, hb, hml, hown, hts⟩
  have hin1 : vp_in (nI (4 * k + 1)) L := vp_in_nI (by omega) (by omega)
  have hin2 : vp_in (nI (4 * k + 2)) L := vp_in_nI (by omega) (by omega)
  have hin3 : vp_in (nI (4 * k + 3)) L := vp_in_nI (by omega) (by omega)
  refine lv_aload_n hx hb dL_law_258 rfl (lv_at hl 1 rfl) ?_
  refine lv_aload_n hx hb dL_law_259 rfl (lv_at hl 0 rfl) ?_
  refine lv_iload_n hx hb dL_law_260 rfl (lv_at hl 3 rfl) ?_
  refine lv_iconst (v := nI 1) hx hb dL_law_261 (by decide) ?_
  refine zx_iadd hx hb dL_law_262 ?_
  refine va_sld hx hb hX hbl hbA hS hin1 dL_law_263 ?_
  refine lv_aload_n hx hb dL_law_264 rfl (lv_at hl 0 rfl) ?_
  refine lv_iload_n hx hb dL_law_265 rfl (lv_at hl 3 rfl) ?_
  refine lv_iconst (v := nI 2) hx hb dL_law_266 (by decide) ?_
  refine zx_iadd hx hb dL_law_267 ?_
  refine va_sld hx hb hX hbl hbA hS hin2 dL_law_268 ?_
  refine lv_aload_n hx hb dL_law_269 rfl (lv_at hl 0 rfl) ?_
  refine lv_iload_n hx hb dL_law_270 rfl (lv_at hl 3 rfl) ?_
  refine lv_iconst (v := nI 3) hx hb dL_law_271 (by decide) ?_
  refine zx_iadd hx hb dL_law_272 ?_
  refine va_sld hx hb hX hbl hbA hS hin3 dL_law_273 ?_
  refine zw_V (em := zx_ei) (As := [.int (xs (nI (4 * k + 1)).toNatClampNeg), .int (xs (nI (4 * k + 2)).toNatClampNeg), .int (xs (nI (4 * k + 3)).toNatClampNeg)]) (rest := []) (W0 := zy_w cI rX (sx, ax, zx, hx9) ++ zm_w cI cB rM (sm, am, zm, hm9)) (wr := zm_w cI cB rM (sm, am, zm, hm9)) cf (c_X2_person l D cI cB rX sx ax zx hx9 (xs (nI (4 * k + 1)).toNatClampNeg) (xs (nI (4 * k + 2)).toNatClampNeg) (xs (nI (4 * k + 3)).toNatClampNeg) hR9.2.2.1) (cwV 3 hts gL_law_X2_person rfl rfl rfl ⟨rfl, hd_X2_person⟩ ⟨Nat.le_of_ble_eq_true rfl, Nat.le_of_ble_eq_true rfl⟩) hK hN hP hD hS hA [0, 1, 2, 3, 4, 5, 6, 7, 8, 9, 10, 11, 12, 13, 14, 15, 16, 17] [18, 19, 20, 21, 22, 23, 24, 25, 26, 27, 28, 29, 30, 31, 32, 33] rfl rfl rfl rfl (by decide) 0 rfl rfl rfl hl.1 rfl (Nat.le_of_ble_eq_true rfl) dL_law_274 ⟨Nat.le_of_ble_eq_true rfl, Nat.le_of_ble_eq_true rfl⟩ (fun r1 vX H locs hq1 hP hD hS => ?_)
  refine W.eq (g2 := F0 m 277 ls [.int r1]) rfl ?_
  refine lv_aload_n hx hb dL_law_277 rfl (lv_at hl 2 rfl) ?_
  refine lv_aload_n hx hb dL_law_278 rfl (lv_at hl 0 rfl) ?_
  refine lv_iload_n hx hb dL_law_279 rfl (lv_at hl 3 rfl) ?_
  refine lv_iconst (v := nI 1) hx hb dL_law_280 (by decide) ?_
  refine zx_iadd hx hb dL_law_281 ?_
  refine va_sld hx hb hX hbl hbA hS hin1 dL_law_282 ?_
  refine lv_aload_n hx hb dL_law_283 rfl (lv_at hl 0 rfl) ?_
  refine lv_iload_n hx hb dL_law_284 rfl (lv_at hl 3 rfl) ?_
  refine lv_iconst (v := nI 2) hx hb dL_law_285 (by decide) ?_
  refine zx_iadd hx hb dL_law_286 ?_
  refine va_sld hx hb hX hbl hbA hS hin2 dL_law_287 ?_
  refine lv_aload_n hx hb dL_law_288 rfl (lv_at hl 0 rfl) ?_
  refine lv_iload_n hx hb dL_law_289 rfl (lv_at hl 3 rfl) ?_
  refine lv_iconst (v := nI 3) hx hb dL_law_290 (by decide) ?_
  refine zx_iadd hx hb dL_law_291 ?_
  refine va_sld hx hb hX hbl hbA hS hin3 dL_law_292 ?_
  refine zw_V (em := zx_ei) (As := [.int (xs (nI (4 * k + 1)).toNatClampNeg), .int (xs (nI (4 * k + 2)).toNatClampNeg), .int (xs (nI (4 * k + 3)).toNatClampNeg)]) (rest := [.int r1]) (W0 := zm_w cI cB rM (sm, am, zm, hm9) ++ zy_w cI rX vX) (wr := zy_w cI rX vX) cf (c_X3_person l D cI cB rM sm am zm hm9 (xs (nI (4 * k + 1)).toNatClampNeg) (xs (nI (4 * k + 2)).toNatClampNeg) (xs (nI (4 * k + 3)).toNatClampNeg) hR9.2.2.2.1) (cwV 3 hts gL_law_X3_person rfl rfl rfl ⟨rfl, hd_X3_person⟩ ⟨Nat.le_of_ble_eq_true rfl, Nat.le_of_ble_eq_true rfl⟩) hK hN hP hD hS hA [0, 1, 2, 3, 4, 5, 6, 7, 8, 9, 10, 11, 12, 13, 14, 15] [16, 17, 18, 19, 20, 21, 22, 23, 24, 25, 26, 27, 28, 29, 30, 31, 32, 33] rfl rfl rfl rfl (by decide) 0 rfl rfl rfl hl.1 rfl (Nat.le_of_ble_eq_true rfl) dL_law_293 ⟨Nat.le_of_ble_eq_true rfl, Nat.le_of_ble_eq_true rfl⟩ (fun r2 vM H locs hq2 hP hD hS => ?_)
  refine W.eq (g2 := F0 m 296 ls [.int r2, .int r1]) rfl ?_
  obtain ⟨he, hv⟩ := zr_s_person hR9 hq1 hq2
  subst he
  refine lv_icmp_eq (tgt := 802) hx hb dL_law_296 (by decide) (fun _ => ?_) (fun c9 => absurd rfl c9)
  exact ih vX vM hv H locs hP hD hS ls hl
set_option maxHeartbeats 8000000 in
set_option maxRecDepth 100000 in
theorem lw_k7 {p : Program} {l : Launch} {e : Env} {s : State} {m : MethodId} {below : List Frame} {meth : Method} {c : Code} {b L : Nat} {xs : Nat → Int32} (hL : L ≤ 256) (C0 : lw_At p s m meth c b L xs) {D : va_G} {cI cB : ClassId} {rX rM : Nat → Nat} (hK : va_K D vwCl (zm_t cI cB) s) (hN : zx_N s) {k : Nat} (hk : 4 * k + 4 ≤ L) {uX : (Nat → Nat) × (Nat → Nat → Nat) × (Nat → Int) × Int} {uM : (Nat → Nat) × (Nat → Nat → Nat) × (Nat → Int) × Int64} (hU : zr_U k uX uM) (ih : ∀ (vX : (Nat → Nat) × (Nat → Nat → Nat) × (Nat → Int) × Int) (vM : (Nat → Nat) × (Nat → Nat → Nat) × (Nat → Int) × Int64), zr_U (k + 1) vX vM → ∀ (H : Heap) (locs : List Loc), va_P D vwCl (zy_w cI rX vX ++ zm_w cI cB rM vM) H → va_D (fun q : Nat => s.heap.size ≤ q) (zy_w cI rX vX ++ zm_w cI cB rM vM) → va_S (fun q : Nat => s.heap.size ≤ q) s.heap H locs → ∀ ls : Array Slot, lv_has ls 4 [(0, .ref b), (1, .ref (rX 1)), (2, .ref (rM 0)), (3, .int (nI (4 * k)))] → W p l e room_1 s m #[Value.ref b] below meth c H locs 34 292 (lw_Z below #[Value.ref b] s) (F0 m 802 ls [])) : ∀ (H : Heap) (locs : List Loc), va_P D vwCl (zy_w cI rX uX ++ zm_w cI cB rM uM) H → va_D (fun q : Nat => s.heap.size ≤ q) (zy_w cI rX uX ++ zm_w cI cB rM uM) → va_S (fun q : Nat => s.heap.size ≤ q) s.heap H locs → ∀ ls : Array Slot, lv_has ls 4 [(0, .ref b), (1, .ref (rX 1)), (2, .ref (rM 0)), (3, .int (nI (4 * k)))] → W p l e room_1 s m #[Value.ref b] below meth c H locs 34 292 (lw_Z below #[Value.ref b] s) (F0 m 301 ls []) := by
  intro H locs hP hD hS ls hl
  obtain ⟨hx, hb, hr, hml, hown, hts0, hX, hbl, hlocks, hgv⟩ := C0
  have hts : ∀ w ∈ wsL_law, w.before #[Value.ref b] s = true := fun w hw => hts0 w (wsL_law_in w hw)
  have hA : ∀ q : Nat, s.heap.size ≤ q → (fun q : Nat => s.heap.size ≤ q) q := fun _ h => h
  have hbA : ¬ (fun q : Nat => s.heap.size ≤ q) b := Nat.not_le.mpr hbl
  obtain ⟨sx, ax, zx, hx9⟩ := uX
  obtain ⟨sm, am, zm, hm9⟩ := uM
  have hR9 : zr_R k sx ax zx sm am zm := hU
  have cf : CallFix p m c cL_law 4 s #[Value.ref b] wsL_law RL := ⟨hx, hb, hml, hown, hts⟩
  have hin1 : vp_in (nI (4 * k + 1)) L := vp_in_nI (by omega) (by omega)
  have hin2 : vp_in (nI (4 * k + 2)) L := vp_in_nI (by omega) (by omega)
  have hin3 : vp_in (nI (4 * k + 3)) L := vp_in_nI (by omega) (by omega)
  refine lv_aload_n hx hb dL_law_301 rfl (lv_at hl 1 rfl) ?_
  refine lv_aload_n hx hb dL_law_302 rfl (lv_at hl 0 rfl) ?_
  refine lv_iload_n hx hb dL_law_303 rfl (lv_at hl 3 rfl) ?_
  refine lv_iconst (v := nI 1) hx hb dL_law_304 (by decide) ?_
  refine zx_iadd hx hb dL_law_305 ?_
  refine va_sld hx hb hX hbl hbA hS hin1 dL_law_306 ?_
  refine lv_aload_n hx hb dL_law_307 rfl (lv_at hl 0 rfl) ?_
  refine lv_iload_n hx hb dL_law_308 rfl (lv_at hl 3 rfl) ?_
  refine lv_iconst (v := nI 2) hx hb dL_law_309 (by decide) ?_
  refine zx_iadd hx hb dL_law_310 ?_
  refine va_sld hx hb hX hbl hbA hS hin2 dL_law_311 ?_
  refine zw_V (em := zx_ei) (As := [.int (xs (nI (4 * k + 1)).toNatClampNeg), .int (xs (nI (4 * k + 2)).toNatClampNeg)]) (rest := []) (W0 := zy_w cI rX (sx, ax, zx, hx9) ++ zm_w cI cB rM (sm, am, zm, hm9)) (wr := zm_w cI cB rM (sm, am, zm, hm9)) cf (c_X2_about l D cI cB rX sx ax zx hx9 (xs (nI (4 * k + 1)).toNatClampNeg) (xs (nI (4 * k + 2)).toNatClampNeg) hR9.2.2.1) (cwV 2 hts gL_law_X2_about rfl rfl rfl ⟨rfl, hd_X2_about⟩ ⟨Nat.le_of_ble_eq_true rfl, Nat.le_of_ble_eq_true rfl⟩) hK hN hP hD hS hA [0, 1, 2, 3, 4, 5, 6, 7, 8, 9, 10, 11, 12, 13, 14, 15, 16, 17] [18, 19, 20, 21, 22, 23, 24, 25, 26, 27, 28, 29, 30, 31, 32, 33] rfl rfl rfl rfl (by decide) 0 rfl rfl rfl hl.1 rfl (Nat.le_of_ble_eq_true rfl) dL_law_312 ⟨Nat.le_of_ble_eq_true rfl, Nat.le_of_ble_eq_true rfl⟩ (fun r1 vX H locs hq1 hP hD hS => ?_)
  refine W.eq (g2 := F0 m 315 ls [.int r1]) rfl ?_
  refine lv_aload_n hx hb dL_law_315 rfl (lv_at hl 2 rfl) ?_
  refine lv_aload_n hx hb dL_law_316 rfl (lv_at hl 0 rfl) ?_
  refine lv_iload_n hx hb dL_law_317 rfl (lv_at hl 3 rfl) ?_
  refine lv_iconst (v := nI 1) hx hb dL_law_318 (by decide) ?_
  refine zx_iadd hx hb dL_law_319 ?_
  refine va_sld hx hb hX hbl hbA hS hin1 dL_law_320 ?_
  refine lv_aload_n hx hb dL_law_321 rfl (lv_at hl 0 rfl) ?_
  refine lv_iload_n hx hb dL_law_322 rfl (lv_at hl 3 rfl) ?_
  refine lv_iconst (v := nI 2) hx hb dL_law_323 (by decide) ?_
  refine zx_iadd hx hb dL_law_324 ?_
  refine va_sld hx hb hX hbl hbA hS hin2 dL_law_325 ?_
  refine zw_V (em := zx_ei) (As := [.int (xs (nI (4 * k + 1)).toNatClampNeg), .int (xs (nI (4 * k + 2)).toNatClampNeg)]) (rest := [.int r1]) (W0 := zm_w cI cB rM (sm, am, zm, hm9) ++ zy_w cI rX vX) (wr := zy_w cI rX vX) cf (c_X3_about l D cI cB rM sm am zm hm9 (xs (nI (4 * k + 1)).toNatClampNeg) (xs (nI (4 * k + 2)).toNatClampNeg) hR9.2.2.2.1) (cwV 2 hts gL_law_X3_about rfl rfl rfl ⟨rfl, hd_X3_about⟩ ⟨Nat.le_of_ble_eq_true rfl, Nat.le_of_ble_eq_true rfl⟩) hK hN hP hD hS hA [0, 1, 2, 3, 4, 5, 6, 7, 8, 9, 10, 11, 12, 13, 14, 15] [16, 17, 18, 19, 20, 21, 22, 23, 24, 25, 26, 27, 28, 29, 30, 31, 32, 33] rfl rfl rfl rfl (by decide) 0 rfl rfl rfl hl.1 rfl (Nat.le_of_ble_eq_true rfl) dL_law_326 ⟨Nat.le_of_ble_eq_true rfl, Nat.le_of_ble_eq_true rfl⟩ (fun r2 vM H locs hq2 hP hD hS => ?_)
  refine W.eq (g2 := F0 m 329 ls [.int r2, .int r1]) rfl ?_
  obtain ⟨he, hv⟩ := zr_s_about hR9 hq1 hq2
  subst he
  refine lv_icmp_eq (tgt := 802) hx hb dL_law_329 (by decide) (fun _ => ?_) (fun c9 => absurd rfl c9)
  exact ih vX vM hv H locs hP hD hS ls hl
set_option maxHeartbeats 8000000 in
set_option maxRecDepth 100000 in
theorem lw_k8 {p : Program} {l : Launch} {e : Env} {s : State} {m : MethodId} {below : List Frame} {meth : Method} {c : Code} {b L : Nat} {xs : Nat → Int32} (hL : L ≤ 256) (C0 : lw_At p s m meth c b L xs) {D : va_G} {cI cB : ClassId} {rX rM : Nat → Nat} (hK : va_K D vwCl (zm_t cI cB) s) (hN : zx_N s) {k : Nat} (hk : 4 * k + 4 ≤ L) {uX : (Nat → Nat) × (Nat → Nat → Nat) × (Nat → Int) × Int} {uM : (Nat → Nat) × (Nat → Nat → Nat) × (Nat → Int) × Int64} (hU : zr_U k uX uM) (ih : ∀ (vX : (Nat → Nat) × (Nat → Nat → Nat) × (Nat → Int) × Int) (vM : (Nat → Nat) × (Nat → Nat → Nat) × (Nat → Int) × Int64), zr_U (k + 1) vX vM → ∀ (H : Heap) (locs : List Loc), va_P D vwCl (zy_w cI rX vX ++ zm_w cI cB rM vM) H → va_D (fun q : Nat => s.heap.size ≤ q) (zy_w cI rX vX ++ zm_w cI cB rM vM) → va_S (fun q : Nat => s.heap.size ≤ q) s.heap H locs → ∀ ls : Array Slot, lv_has ls 4 [(0, .ref b), (1, .ref (rX 1)), (2, .ref (rM 0)), (3, .int (nI (4 * k)))] → W p l e room_1 s m #[Value.ref b] below meth c H locs 34 292 (lw_Z below #[Value.ref b] s) (F0 m 802 ls [])) : ∀ (H : Heap) (locs : List Loc), va_P D vwCl (zy_w cI rX uX ++ zm_w cI cB rM uM) H → va_D (fun q : Nat => s.heap.size ≤ q) (zy_w cI rX uX ++ zm_w cI cB rM uM) → va_S (fun q : Nat => s.heap.size ≤ q) s.heap H locs → ∀ ls : Array Slot, lv_has ls 4 [(0, .ref b), (1, .ref (rX 1)), (2, .ref (rM 0)), (3, .int (nI (4 * k)))] → W p l e room_1 s m #[Value.ref b] below meth c H locs 34 292 (lw_Z below #[Value.ref b] s) (F0 m 334 ls []) := by
  intro H locs hP hD hS ls hl
  obtain ⟨hx, hb, hr, hml, hown, hts0, hX, hbl, hlocks, hgv⟩ := C0
  have hts : ∀ w ∈ wsL_law, w.before #[Value.ref b] s = true := fun w hw => hts0 w (wsL_law_in w hw)
  have hA : ∀ q : Nat, s.heap.size ≤ q → (fun q : Nat => s.heap.size ≤ q) q := fun _ h => h
  have hbA : ¬ (fun q : Nat => s.heap.size ≤ q) b := Nat.not_le.mpr hbl
  obtain ⟨sx, ax, zx, hx9⟩ := uX
  obtain ⟨sm, am, zm, hm9⟩ := uM
  have hR9 : zr_R k sx ax zx sm am zm := hU
  have cf : CallFix p m c cL_law 4 s #[Value.ref b] wsL_law RL := ⟨hx, hb, hml, hown, hts⟩
  have hin1 : vp_in (nI (4 * k + 1)) L := vp_in_nI (by omega) (by omega)
  have hin2 : vp_in (nI (4 * k + 2)) L := vp_in_nI (by omega) (by omega)
  have hin3 : vp_in (nI (4 * k + 3)) L := vp_in_nI (by omega) (by omega)
  refine lv_aload_n hx hb dL_law_334 rfl (lv_at hl 1 rfl) ?_
  refine lv_aload_n hx hb dL_law_335 rfl (lv_at hl 0 rfl) ?_
  refine lv_iload_n hx hb dL_law_336 rfl (lv_at hl 3 rfl) ?_
  refine lv_iconst (v := nI 1) hx hb dL_law_337 (by decide) ?_
  refine zx_iadd hx hb dL_law_338 ?_
  refine va_sld hx hb hX hbl hbA hS hin1 dL_law_339 ?_
  refine lv_aload_n hx hb dL_law_340 rfl (lv_at hl 0 rfl) ?_
  refine lv_iload_n hx hb dL_law_341 rfl (lv_at hl 3 rfl) ?_
  refine lv_iconst (v := nI 2) hx hb dL_law_342 (by decide) ?_
  refine zx_iadd hx hb dL_law_343 ?_
  refine va_sld hx hb hX hbl hbA hS hin2 dL_law_344 ?_
  refine zw_V (em := zx_ei) (As := [.int (xs (nI (4 * k + 1)).toNatClampNeg), .int (xs (nI (4 * k + 2)).toNatClampNeg)]) (rest := []) (W0 := zy_w cI rX (sx, ax, zx, hx9) ++ zm_w cI cB rM (sm, am, zm, hm9)) (wr := zm_w cI cB rM (sm, am, zm, hm9)) cf (c_X2_as l D cI cB rX sx ax zx hx9 (xs (nI (4 * k + 1)).toNatClampNeg) (xs (nI (4 * k + 2)).toNatClampNeg) hR9.2.2.1) (cwV 2 hts gL_law_X2_as rfl rfl rfl ⟨rfl, hd_X2_as⟩ ⟨Nat.le_of_ble_eq_true rfl, Nat.le_of_ble_eq_true rfl⟩) hK hN hP hD hS hA [0, 1, 2, 3, 4, 5, 6, 7, 8, 9, 10, 11, 12, 13, 14, 15, 16, 17] [18, 19, 20, 21, 22, 23, 24, 25, 26, 27, 28, 29, 30, 31, 32, 33] rfl rfl rfl rfl (by decide) 0 rfl rfl rfl hl.1 rfl (Nat.le_of_ble_eq_true rfl) dL_law_345 ⟨Nat.le_of_ble_eq_true rfl, Nat.le_of_ble_eq_true rfl⟩ (fun r1 vX H locs hq1 hP hD hS => ?_)
  refine W.eq (g2 := F0 m 348 ls [.int r1]) rfl ?_
  refine lv_aload_n hx hb dL_law_348 rfl (lv_at hl 2 rfl) ?_
  refine lv_aload_n hx hb dL_law_349 rfl (lv_at hl 0 rfl) ?_
  refine lv_iload_n hx hb dL_law_350 rfl (lv_at hl 3 rfl) ?_
  refine lv_iconst (v := nI 1) hx hb dL_law_351 (by decide) ?_
  refine zx_iadd hx hb dL_law_352 ?_
  refine va_sld hx hb hX hbl hbA hS hin1 dL_law_353 ?_
  refine lv_aload_n hx hb dL_law_354 rfl (lv_at hl 0 rfl) ?_
  refine lv_iload_n hx hb dL_law_355 rfl (lv_at hl 3 rfl) ?_
  refine lv_iconst (v := nI 2) hx hb dL_law_356 (by decide) ?_
  refine zx_iadd hx hb dL_law_357 ?_
  refine va_sld hx hb hX hbl hbA hS hin2 dL_law_358 ?_
  refine zw_V (em := zx_ei) (As := [.int (xs (nI (4 * k + 1)).toNatClampNeg), .int (xs (nI (4 * k + 2)).toNatClampNeg)]) (rest := [.int r1]) (W0 := zm_w cI cB rM (sm, am, zm, hm9) ++ zy_w cI rX vX) (wr := zy_w cI rX vX) cf (c_X3_as l D cI cB rM sm am zm hm9 (xs (nI (4 * k + 1)).toNatClampNeg) (xs (nI (4 * k + 2)).toNatClampNeg) hR9.2.2.2.1) (cwV 2 hts gL_law_X3_as rfl rfl rfl ⟨rfl, hd_X3_as⟩ ⟨Nat.le_of_ble_eq_true rfl, Nat.le_of_ble_eq_true rfl⟩) hK hN hP hD hS hA [0, 1, 2, 3, 4, 5, 6, 7, 8, 9, 10, 11, 12, 13, 14, 15] [16, 17, 18, 19, 20, 21, 22, 23, 24, 25, 26, 27, 28, 29, 30, 31, 32, 33] rfl rfl rfl rfl (by decide) 0 rfl rfl rfl hl.1 rfl (Nat.le_of_ble_eq_true rfl) dL_law_359 ⟨Nat.le_of_ble_eq_true rfl, Nat.le_of_ble_eq_true rfl⟩ (fun r2 vM H locs hq2 hP hD hS => ?_)
  refine W.eq (g2 := F0 m 362 ls [.int r2, .int r1]) rfl ?_
  obtain ⟨he, hv⟩ := zr_s_as hR9 hq1 hq2
  subst he
  refine lv_icmp_eq (tgt := 802) hx hb dL_law_362 (by decide) (fun _ => ?_) (fun c9 => absurd rfl c9)
  exact ih vX vM hv H locs hP hD hS ls hl
set_option maxHeartbeats 8000000 in
set_option maxRecDepth 100000 in
theorem lw_k9 {p : Program} {l : Launch} {e : Env} {s : State} {m : MethodId} {below : List Frame} {meth : Method} {c : Code} {b L : Nat} {xs : Nat → Int32} (hL : L ≤ 256) (C0 : lw_At p s m meth c b L xs) {D : va_G} {cI cB : ClassId} {rX rM : Nat → Nat} (hK : va_K D vwCl (zm_t cI cB) s) (hN : zx_N s) {k : Nat} (hk : 4 * k + 4 ≤ L) {uX : (Nat → Nat) × (Nat → Nat → Nat) × (Nat → Int) × Int} {uM : (Nat → Nat) × (Nat → Nat → Nat) × (Nat → Int) × Int64} (hU : zr_U k uX uM) (ih : ∀ (vX : (Nat → Nat) × (Nat → Nat → Nat) × (Nat → Int) × Int) (vM : (Nat → Nat) × (Nat → Nat → Nat) × (Nat → Int) × Int64), zr_U (k + 1) vX vM → ∀ (H : Heap) (locs : List Loc), va_P D vwCl (zy_w cI rX vX ++ zm_w cI cB rM vM) H → va_D (fun q : Nat => s.heap.size ≤ q) (zy_w cI rX vX ++ zm_w cI cB rM vM) → va_S (fun q : Nat => s.heap.size ≤ q) s.heap H locs → ∀ ls : Array Slot, lv_has ls 4 [(0, .ref b), (1, .ref (rX 1)), (2, .ref (rM 0)), (3, .int (nI (4 * k)))] → W p l e room_1 s m #[Value.ref b] below meth c H locs 34 292 (lw_Z below #[Value.ref b] s) (F0 m 802 ls [])) : ∀ (H : Heap) (locs : List Loc), va_P D vwCl (zy_w cI rX uX ++ zm_w cI cB rM uM) H → va_D (fun q : Nat => s.heap.size ≤ q) (zy_w cI rX uX ++ zm_w cI cB rM uM) → va_S (fun q : Nat => s.heap.size ≤ q) s.heap H locs → ∀ ls : Array Slot, lv_has ls 4 [(0, .ref b), (1, .ref (rX 1)), (2, .ref (rM 0)), (3, .int (nI (4 * k)))] → W p l e room_1 s m #[Value.ref b] below meth c H locs 34 292 (lw_Z below #[Value.ref b] s) (F0 m 367 ls []) := by
  intro H locs hP hD hS ls hl
  obtain ⟨hx, hb, hr, hml, hown, hts0, hX, hbl, hlocks, hgv⟩ := C0
  have hts : ∀ w ∈ wsL_law, w.before #[Value.ref b] s = true := fun w hw => hts0 w (wsL_law_in w hw)
  have hA : ∀ q : Nat, s.heap.size ≤ q → (fun q : Nat => s.heap.size ≤ q) q := fun _ h => h
  have hbA : ¬ (fun q : Nat => s.heap.size ≤ q) b := Nat.not_le.mpr hbl
  obtain ⟨sx, ax, zx, hx9⟩ := uX
  obtain ⟨sm, am, zm, hm9⟩ := uM
  have hR9 : zr_R k sx ax zx sm am zm := hU
  have cf : CallFix p m c cL_law 4 s #[Value.ref b] wsL_law RL := ⟨hx, hb, hml, hown, hts⟩
  have hin1 : vp_in (nI (4 * k + 1)) L := vp_in_nI (by omega) (by omega)
  have hin2 : vp_in (nI (4 * k + 2)) L := vp_in_nI (by omega) (by omega)
  have hin3 : vp_in (nI (4 * k + 3)) L := vp_in_nI (by omega) (by omega)
  refine lv_aload_n hx hb dL_law_367 rfl (lv_at hl 1 rfl) ?_
  refine lv_aload_n hx hb dL_law_368 rfl (lv_at hl 0 rfl) ?_
  refine lv_iload_n hx hb dL_law_369 rfl (lv_at hl 3 rfl) ?_
  refine lv_iconst (v := nI 1) hx hb dL_law_370 (by decide) ?_
  refine zx_iadd hx hb dL_law_371 ?_
  refine va_sld hx hb hX hbl hbA hS hin1 dL_law_372 ?_
  refine lv_aload_n hx hb dL_law_373 rfl (lv_at hl 0 rfl) ?_
  refine lv_iload_n hx hb dL_law_374 rfl (lv_at hl 3 rfl) ?_
  refine lv_iconst (v := nI 2) hx hb dL_law_375 (by decide) ?_
  refine zx_iadd hx hb dL_law_376 ?_
  refine va_sld hx hb hX hbl hbA hS hin2 dL_law_377 ?_
  refine zw_V (em := zx_ei) (As := [.int (xs (nI (4 * k + 1)).toNatClampNeg), .int (xs (nI (4 * k + 2)).toNatClampNeg)]) (rest := []) (W0 := zy_w cI rX (sx, ax, zx, hx9) ++ zm_w cI cB rM (sm, am, zm, hm9)) (wr := zm_w cI cB rM (sm, am, zm, hm9)) cf (c_X2_move l D cI cB rX sx ax zx hx9 (xs (nI (4 * k + 1)).toNatClampNeg) (xs (nI (4 * k + 2)).toNatClampNeg) hR9.2.2.1) (cwV 2 hts gL_law_X2_move rfl rfl rfl ⟨rfl, hd_X2_move⟩ ⟨Nat.le_of_ble_eq_true rfl, Nat.le_of_ble_eq_true rfl⟩) hK hN hP hD hS hA [0, 1, 2, 3, 4, 5, 6, 7, 8, 9, 10, 11, 12, 13, 14, 15, 16, 17] [18, 19, 20, 21, 22, 23, 24, 25, 26, 27, 28, 29, 30, 31, 32, 33] rfl rfl rfl rfl (by decide) 0 rfl rfl rfl hl.1 rfl (Nat.le_of_ble_eq_true rfl) dL_law_378 ⟨Nat.le_of_ble_eq_true rfl, Nat.le_of_ble_eq_true rfl⟩ (fun r1 vX H locs hq1 hP hD hS => ?_)
  refine W.eq (g2 := F0 m 381 ls [.int r1]) rfl ?_
  refine lv_aload_n hx hb dL_law_381 rfl (lv_at hl 2 rfl) ?_
  refine lv_aload_n hx hb dL_law_382 rfl (lv_at hl 0 rfl) ?_
  refine lv_iload_n hx hb dL_law_383 rfl (lv_at hl 3 rfl) ?_
  refine lv_iconst (v := nI 1) hx hb dL_law_384 (by decide) ?_
  refine zx_iadd hx hb dL_law_385 ?_
  refine va_sld hx hb hX hbl hbA hS hin1 dL_law_386 ?_
  refine lv_aload_n hx hb dL_law_387 rfl (lv_at hl 0 rfl) ?_
  refine lv_iload_n hx hb dL_law_388 rfl (lv_at hl 3 rfl) ?_
  refine lv_iconst (v := nI 2) hx hb dL_law_389 (by decide) ?_
  refine zx_iadd hx hb dL_law_390 ?_
  refine va_sld hx hb hX hbl hbA hS hin2 dL_law_391 ?_
  refine zw_V (em := zx_ei) (As := [.int (xs (nI (4 * k + 1)).toNatClampNeg), .int (xs (nI (4 * k + 2)).toNatClampNeg)]) (rest := [.int r1]) (W0 := zm_w cI cB rM (sm, am, zm, hm9) ++ zy_w cI rX vX) (wr := zy_w cI rX vX) cf (c_X3_move l D cI cB rM sm am zm hm9 (xs (nI (4 * k + 1)).toNatClampNeg) (xs (nI (4 * k + 2)).toNatClampNeg) hR9.2.2.2.1) (cwV 2 hts gL_law_X3_move rfl rfl rfl ⟨rfl, hd_X3_move⟩ ⟨Nat.le_of_ble_eq_true rfl, Nat.le_of_ble_eq_true rfl⟩) hK hN hP hD hS hA [0, 1, 2, 3, 4, 5, 6, 7, 8, 9, 10, 11, 12, 13, 14, 15] [16, 17, 18, 19, 20, 21, 22, 23, 24, 25, 26, 27, 28, 29, 30, 31, 32, 33] rfl rfl rfl rfl (by decide) 0 rfl rfl rfl hl.1 rfl (Nat.le_of_ble_eq_true rfl) dL_law_392 ⟨Nat.le_of_ble_eq_true rfl, Nat.le_of_ble_eq_true rfl⟩ (fun r2 vM H locs hq2 hP hD hS => ?_)
  refine W.eq (g2 := F0 m 395 ls [.int r2, .int r1]) rfl ?_
  obtain ⟨he, hv⟩ := zr_s_move hR9 hq1 hq2
  subst he
  refine lv_icmp_eq (tgt := 802) hx hb dL_law_395 (by decide) (fun _ => ?_) (fun c9 => absurd rfl c9)
  exact ih vX vM hv H locs hP hD hS ls hl
set_option maxHeartbeats 8000000 in
set_option maxRecDepth 100000 in
theorem lw_k10 {p : Program} {l : Launch} {e : Env} {s : State} {m : MethodId} {below : List Frame} {meth : Method} {c : Code} {b L : Nat} {xs : Nat → Int32} (hL : L ≤ 256) (C0 : lw_At p s m meth c b L xs) {D : va_G} {cI cB : ClassId} {rX rM : Nat → Nat} (hK : va_K D vwCl (zm_t cI cB) s) (hN : zx_N s) {k : Nat} (hk : 4 * k + 4 ≤ L) {uX : (Nat → Nat) × (Nat → Nat → Nat) × (Nat → Int) × Int} {uM : (Nat → Nat) × (Nat → Nat → Nat) × (Nat → Int) × Int64} (hU : zr_U k uX uM) (ih : ∀ (vX : (Nat → Nat) × (Nat → Nat → Nat) × (Nat → Int) × Int) (vM : (Nat → Nat) × (Nat → Nat → Nat) × (Nat → Int) × Int64), zr_U (k + 1) vX vM → ∀ (H : Heap) (locs : List Loc), va_P D vwCl (zy_w cI rX vX ++ zm_w cI cB rM vM) H → va_D (fun q : Nat => s.heap.size ≤ q) (zy_w cI rX vX ++ zm_w cI cB rM vM) → va_S (fun q : Nat => s.heap.size ≤ q) s.heap H locs → ∀ ls : Array Slot, lv_has ls 4 [(0, .ref b), (1, .ref (rX 1)), (2, .ref (rM 0)), (3, .int (nI (4 * k)))] → W p l e room_1 s m #[Value.ref b] below meth c H locs 34 292 (lw_Z below #[Value.ref b] s) (F0 m 802 ls [])) : ∀ (H : Heap) (locs : List Loc), va_P D vwCl (zy_w cI rX uX ++ zm_w cI cB rM uM) H → va_D (fun q : Nat => s.heap.size ≤ q) (zy_w cI rX uX ++ zm_w cI cB rM uM) → va_S (fun q : Nat => s.heap.size ≤ q) s.heap H locs → ∀ ls : Array Slot, lv_has ls 4 [(0, .ref b), (1, .ref (rX 1)), (2, .ref (rM 0)), (3, .int (nI (4 * k)))] → W p l e room_1 s m #[Value.ref b] below meth c H locs 34 292 (lw_Z below #[Value.ref b] s) (F0 m 400 ls []) := by
  intro H locs hP hD hS ls hl
  obtain ⟨hx, hb, hr, hml, hown, hts0, hX, hbl, hlocks, hgv⟩ := C0
  have hts : ∀ w ∈ wsL_law, w.before #[Value.ref b] s = true := fun w hw => hts0 w (wsL_law_in w hw)
  have hA : ∀ q : Nat, s.heap.size ≤ q → (fun q : Nat => s.heap.size ≤ q) q := fun _ h => h
  have hbA : ¬ (fun q : Nat => s.heap.size ≤ q) b := Nat.not_le.mpr hbl
  obtain ⟨sx, ax, zx, hx9⟩ := uX
  obtain ⟨sm, am, zm, hm9⟩ := uM
  have hR9 : zr_R k sx ax zx sm am zm := hU
  have cf : CallFix p m c cL_law 4 s #[Value.ref b] wsL_law RL := ⟨hx, hb, hml, hown, hts⟩
  have hin1 : vp_in (nI (4 * k + 1)) L := vp_in_nI (by omega) (by omega)
  have hin2 : vp_in (nI (4 * k + 2)) L := vp_in_nI (by omega) (by omega)
  have hin3 : vp_in (nI (4 * k + 3)) L := vp_in_nI (by omega) (by omega)
  refine lv_aload_n hx hb dL_law_400 rfl (lv_at hl 1 rfl) ?_
  refine lv_aload_n hx hb dL_law_401 rfl (lv_at hl 0 rfl) ?_
  refine lv_iload_n hx hb dL_law_402 rfl (lv_at hl 3 rfl) ?_
  refine lv_iconst (v := nI 1) hx hb dL_law_403 (by decide) ?_
  refine zx_iadd hx hb dL_law_404 ?_
  refine va_sld hx hb hX hbl hbA hS hin1 dL_law_405 ?_
  refine lv_aload_n hx hb dL_law_406 rfl (lv_at hl 0 rfl) ?_
  refine lv_iload_n hx hb dL_law_407 rfl (lv_at hl 3 rfl) ?_
  refine lv_iconst (v := nI 2) hx hb dL_law_408 (by decide) ?_
  refine zx_iadd hx hb dL_law_409 ?_
  refine va_sld hx hb hX hbl hbA hS hin2 dL_law_410 ?_
  refine lv_aload_n hx hb dL_law_411 rfl (lv_at hl 0 rfl) ?_
  refine lv_iload_n hx hb dL_law_412 rfl (lv_at hl 3 rfl) ?_
  refine lv_iconst (v := nI 3) hx hb dL_law_413 (by decide) ?_
  refine zx_iadd hx hb dL_law_414 ?_
  refine va_sld hx hb hX hbl hbA hS hin3 dL_law_415 ?_
  refine lv_if_eq (tgt := 423) hx hb dL_law_416 (by decide) (fun c_416 => ?_) (fun c_416 => ?_)
  · refine lv_iconst (v := zx_b false) hx hb dL_law_423 (by decide) ?_
    refine zw_V (em := zx_ei) (As := [.int (xs (nI (4 * k + 1)).toNatClampNeg), .int (xs (nI (4 * k + 2)).toNatClampNeg), .int (zx_b false)]) (rest := []) (W0 := zy_w cI rX (sx, ax, zx, hx9) ++ zm_w cI cB rM (sm, am, zm, hm9)) (wr := zm_w cI cB rM (sm, am, zm, hm9)) cf (c_X2_lay l D cI cB rX sx ax zx hx9 (xs (nI (4 * k + 1)).toNatClampNeg) (xs (nI (4 * k + 2)).toNatClampNeg) false hR9.2.2.1) (cwV 3 hts gL_law_X2_lay rfl rfl rfl ⟨rfl, hd_X2_lay⟩ ⟨Nat.le_of_ble_eq_true rfl, Nat.le_of_ble_eq_true rfl⟩) hK hN hP hD hS hA [0, 1, 2, 3, 4, 5, 6, 7, 8, 9, 10, 11, 12, 13, 14, 15, 16, 17] [18, 19, 20, 21, 22, 23, 24, 25, 26, 27, 28, 29, 30, 31, 32, 33] rfl rfl rfl rfl (by decide) 0 rfl rfl rfl hl.1 rfl (Nat.le_of_ble_eq_true rfl) dL_law_424 ⟨Nat.le_of_ble_eq_true rfl, Nat.le_of_ble_eq_true rfl⟩ (fun r1 vX H locs hq1 hP hD hS => ?_)
    refine W.eq (g2 := F0 m 427 ls [.int r1]) rfl ?_
    refine lv_aload_n hx hb dL_law_427 rfl (lv_at hl 2 rfl) ?_
    refine lv_aload_n hx hb dL_law_428 rfl (lv_at hl 0 rfl) ?_
    refine lv_iload_n hx hb dL_law_429 rfl (lv_at hl 3 rfl) ?_
    refine lv_iconst (v := nI 1) hx hb dL_law_430 (by decide) ?_
    refine zx_iadd hx hb dL_law_431 ?_
    refine va_sld hx hb hX hbl hbA hS hin1 dL_law_432 ?_
    refine lv_aload_n hx hb dL_law_433 rfl (lv_at hl 0 rfl) ?_
    refine lv_iload_n hx hb dL_law_434 rfl (lv_at hl 3 rfl) ?_
    refine lv_iconst (v := nI 2) hx hb dL_law_435 (by decide) ?_
    refine zx_iadd hx hb dL_law_436 ?_
    refine va_sld hx hb hX hbl hbA hS hin2 dL_law_437 ?_
    refine lv_aload_n hx hb dL_law_438 rfl (lv_at hl 0 rfl) ?_
    refine lv_iload_n hx hb dL_law_439 rfl (lv_at hl 3 rfl) ?_
    refine lv_iconst (v := nI 3) hx hb dL_law_440 (by decide) ?_
    refine zx_iadd hx hb dL_law_441 ?_
    refine va_sld hx hb hX hbl hbA hS hin3 dL_law_442 ?_
    refine lv_if_eq (tgt := 450) hx hb dL_law_443 (by decide) (fun c_443 => ?_) (fun c_443 => ?_)
    · refine lv_iconst (v := zx_b false) hx hb dL_law_450 (by decide) ?_
      refine zw_V (em := zx_ei) (As := [.int (xs (nI (4 * k + 1)).toNatClampNeg), .int (xs (nI (4 * k + 2)).toNatClampNeg), .int (zx_b false)]) (rest := [.int r1]) (W0 := zm_w cI cB rM (sm, am, zm, hm9) ++ zy_w cI rX vX) (wr := zy_w cI rX vX) cf (c_X3_lay l D cI cB rM sm am zm hm9 (xs (nI (4 * k + 1)).toNatClampNeg) (xs (nI (4 * k + 2)).toNatClampNeg) false hR9.2.2.2.1) (cwV 3 hts gL_law_X3_lay rfl rfl rfl ⟨rfl, hd_X3_lay⟩ ⟨Nat.le_of_ble_eq_true rfl, Nat.le_of_ble_eq_true rfl⟩) hK hN hP hD hS hA [0, 1, 2, 3, 4, 5, 6, 7, 8, 9, 10, 11, 12, 13, 14, 15] [16, 17, 18, 19, 20, 21, 22, 23, 24, 25, 26, 27, 28, 29, 30, 31, 32, 33] rfl rfl rfl rfl (by decide) 0 rfl rfl rfl hl.1 rfl (Nat.le_of_ble_eq_true rfl) dL_law_451 ⟨Nat.le_of_ble_eq_true rfl, Nat.le_of_ble_eq_true rfl⟩ (fun r2 vM H locs hq2 hP hD hS => ?_)
      refine W.eq (g2 := F0 m 454 ls [.int r2, .int r1]) rfl ?_
      obtain ⟨he, hv⟩ := zr_s_lay hR9 hq1 hq2
      subst he
      refine lv_icmp_eq (tgt := 802) hx hb dL_law_454 (by decide) (fun _ => ?_) (fun c9 => absurd rfl c9)
      exact ih vX vM hv H locs hP hD hS ls hl
    · exact absurd c_416 c_443
  · refine lv_iconst (v := zx_b true) hx hb dL_law_419 (by decide) ?_
    refine lv_goto (tgt := 424) hx hb dL_law_420 (by decide) ?_
    refine zw_V (em := zx_ei) (As := [.int (xs (nI (4 * k + 1)).toNatClampNeg), .int (xs (nI (4 * k + 2)).toNatClampNeg), .int (zx_b true)]) (rest := []) (W0 := zy_w cI rX (sx, ax, zx, hx9) ++ zm_w cI cB rM (sm, am, zm, hm9)) (wr := zm_w cI cB rM (sm, am, zm, hm9)) cf (c_X2_lay l D cI cB rX sx ax zx hx9 (xs (nI (4 * k + 1)).toNatClampNeg) (xs (nI (4 * k + 2)).toNatClampNeg) true hR9.2.2.1) (cwV 3 hts gL_law_X2_lay rfl rfl rfl ⟨rfl, hd_X2_lay⟩ ⟨Nat.le_of_ble_eq_true rfl, Nat.le_of_ble_eq_true rfl⟩) hK hN hP hD hS hA [0, 1, 2, 3, 4, 5, 6, 7, 8, 9, 10, 11, 12, 13, 14, 15, 16, 17] [18, 19, 20, 21, 22, 23, 24, 25, 26, 27, 28, 29, 30, 31, 32, 33] rfl rfl rfl rfl (by decide) 0 rfl rfl rfl hl.1 rfl (Nat.le_of_ble_eq_true rfl) dL_law_424 ⟨Nat.le_of_ble_eq_true rfl, Nat.le_of_ble_eq_true rfl⟩ (fun r1 vX H locs hq1 hP hD hS => ?_)
    refine W.eq (g2 := F0 m 427 ls [.int r1]) rfl ?_
    refine lv_aload_n hx hb dL_law_427 rfl (lv_at hl 2 rfl) ?_
    refine lv_aload_n hx hb dL_law_428 rfl (lv_at hl 0 rfl) ?_
    refine lv_iload_n hx hb dL_law_429 rfl (lv_at hl 3 rfl) ?_
    refine lv_iconst (v := nI 1) hx hb dL_law_430 (by decide) ?_
    refine zx_iadd hx hb dL_law_431 ?_
    refine va_sld hx hb hX hbl hbA hS hin1 dL_law_432 ?_
    refine lv_aload_n hx hb dL_law_433 rfl (lv_at hl 0 rfl) ?_
    refine lv_iload_n hx hb dL_law_434 rfl (lv_at hl 3 rfl) ?_
    refine lv_iconst (v := nI 2) hx hb dL_law_435 (by decide) ?_
    refine zx_iadd hx hb dL_law_436 ?_
    refine va_sld hx hb hX hbl hbA hS hin2 dL_law_437 ?_
    refine lv_aload_n hx hb dL_law_438 rfl (lv_at hl 0 rfl) ?_
    refine lv_iload_n hx hb dL_law_439 rfl (lv_at hl 3 rfl) ?_
    refine lv_iconst (v := nI 3) hx hb dL_law_440 (by decide) ?_
    refine zx_iadd hx hb dL_law_441 ?_
    refine va_sld hx hb hX hbl hbA hS hin3 dL_law_442 ?_
    refine lv_if_eq (tgt := 450) hx hb dL_law_443 (by decide) (fun c_443 => ?_) (fun c_443 => ?_)
    · exact absurd c_443 c_416
    · refine lv_iconst (v := zx_b true) hx hb dL_law_446 (by decide) ?_
      refine lv_goto (tgt := 451) hx hb dL_law_447 (by decide) ?_
      refine zw_V (em := zx_ei) (As := [.int (xs (nI (4 * k + 1)).toNatClampNeg), .int (xs (nI (4 * k + 2)).toNatClampNeg), .int (zx_b true)]) (rest := [.int r1]) (W0 := zm_w cI cB rM (sm, am, zm, hm9) ++ zy_w cI rX vX) (wr := zy_w cI rX vX) cf (c_X3_lay l D cI cB rM sm am zm hm9 (xs (nI (4 * k + 1)).toNatClampNeg) (xs (nI (4 * k + 2)).toNatClampNeg) true hR9.2.2.2.1) (cwV 3 hts gL_law_X3_lay rfl rfl rfl ⟨rfl, hd_X3_lay⟩ ⟨Nat.le_of_ble_eq_true rfl, Nat.le_of_ble_eq_true rfl⟩) hK hN hP hD hS hA [0, 1, 2, 3, 4, 5, 6, 7, 8, 9, 10, 11, 12, 13, 14, 15] [16, 17, 18, 19, 20, 21, 22, 23, 24, 25, 26, 27, 28, 29, 30, 31, 32, 33] rfl rfl rfl rfl (by decide) 0 rfl rfl rfl hl.1 rfl (Nat.le_of_ble_eq_true rfl) dL_law_451 ⟨Nat.le_of_ble_eq_true rfl, Nat.le_of_ble_eq_true rfl⟩ (fun r2 vM H locs hq2 hP hD hS => ?_)
      refine W.eq (g2 := F0 m 454 ls [.int r2, .int r1]) rfl ?_
      obtain ⟨he, hv⟩ := zr_s_lay hR9 hq1 hq2
      subst he
      refine lv_icmp_eq (tgt := 802) hx hb dL_law_454 (by decide) (fun _ => ?_) (fun c9 => absurd rfl c9)
      exact ih vX vM hv H locs hP hD hS ls hl
set_option maxHeartbeats 8000000 in
set_option maxRecDepth 100000 in
theorem lw_k11 {p : Program} {l : Launch} {e : Env} {s : State} {m : MethodId} {below : List Frame} {meth : Method} {c : Code} {b L : Nat} {xs : Nat → Int32} (hL : L ≤ 256) (C0 : lw_At p s m meth c b L xs) {D : va_G} {cI cB : ClassId} {rX rM : Nat → Nat} (hK : va_K D vwCl (zm_t cI cB) s) (hN : zx_N s) {k : Nat} (hk : 4 * k + 4 ≤ L) {uX : (Nat → Nat) × (Nat → Nat → Nat) × (Nat → Int) × Int} {uM : (Nat → Nat) × (Nat → Nat → Nat) × (Nat → Int) × Int64} (hU : zr_U k uX uM) (ih : ∀ (vX : (Nat → Nat) × (Nat → Nat → Nat) × (Nat → Int) × Int) (vM : (Nat → Nat) × (Nat → Nat → Nat) × (Nat → Int) × Int64), zr_U (k + 1) vX vM → ∀ (H : Heap) (locs : List Loc), va_P D vwCl (zy_w cI rX vX ++ zm_w cI cB rM vM) H → va_D (fun q : Nat => s.heap.size ≤ q) (zy_w cI rX vX ++ zm_w cI cB rM vM) → va_S (fun q : Nat => s.heap.size ≤ q) s.heap H locs → ∀ ls : Array Slot, lv_has ls 4 [(0, .ref b), (1, .ref (rX 1)), (2, .ref (rM 0)), (3, .int (nI (4 * k)))] → W p l e room_1 s m #[Value.ref b] below meth c H locs 34 292 (lw_Z below #[Value.ref b] s) (F0 m 802 ls [])) : ∀ (H : Heap) (locs : List Loc), va_P D vwCl (zy_w cI rX uX ++ zm_w cI cB rM uM) H → va_D (fun q : Nat => s.heap.size ≤ q) (zy_w cI rX uX ++ zm_w cI cB rM uM) → va_S (fun q : Nat => s.heap.size ≤ q) s.heap H locs → ∀ ls : Array Slot, lv_has ls 4 [(0, .ref b), (1, .ref (rX 1)), (2, .ref (rM 0)), (3, .int (nI (4 * k)))] → W p l e room_1 s m #[Value.ref b] below meth c H locs 34 292 (lw_Z below #[Value.ref b] s) (F0 m 459 ls []) := by
  intro H locs hP hD hS ls hl
  obtain ⟨hx, hb, hr, hml, hown, hts0, hX, hbl, hlocks, hgv⟩ := C0
  have hts : ∀ w ∈ wsL_law, w.before #[Value.ref b] s = true := fun w hw => hts0 w (wsL_law_in w hw)
  have hA : ∀ q : Nat, s.heap.size ≤ q → (fun q : Nat => s.heap.size ≤ q) q := fun _ h => h
  have hbA : ¬ (fun q : Nat => s.heap.size ≤ q) b := Nat.not_le.mpr hbl
  obtain ⟨sx, ax, zx, hx9⟩ := uX
  obtain ⟨sm, am, zm, hm9⟩ := uM
  have hR9 : zr_R k sx ax zx sm am zm := hU
  have cf : CallFix p m c cL_law 4 s #[Value.ref b] wsL_law RL := ⟨hx, hb, hml, hown, hts⟩
  have hin1 : vp_in (nI (4 * k + 1)) L := vp_in_nI (by omega) (by omega)
  have hin2 : vp_in (nI (4 * k + 2)) L := vp_in_nI (by omega) (by omega)
  have hin3 : vp_in (nI (4 * k + 3)) L := vp_in_nI (by omega) (by omega)
  refine lv_aload_n hx hb dL_law_459 rfl (lv_at hl 1 rfl) ?_
  refine lv_aload_n hx hb dL_law_460 rfl (lv_at hl 0 rfl) ?_
  refine lv_iload_n hx hb dL_law_461 rfl (lv_at hl 3 rfl) ?_
  refine lv_iconst (v := nI 1) hx hb dL_law_462 (by decide) ?_
  refine zx_iadd hx hb dL_law_463 ?_
  refine va_sld hx hb hX hbl hbA hS hin1 dL_law_464 ?_
  refine lv_aload_n hx hb dL_law_465 rfl (lv_at hl 0 rfl) ?_
  refine lv_iload_n hx hb dL_law_466 rfl (lv_at hl 3 rfl) ?_
  refine lv_iconst (v := nI 2) hx hb dL_law_467 (by decide) ?_
  refine zx_iadd hx hb dL_law_468 ?_
  refine va_sld hx hb hX hbl hbA hS hin2 dL_law_469 ?_
  refine zw_V (em := zx_ei) (As := [.int (xs (nI (4 * k + 1)).toNatClampNeg), .int (xs (nI (4 * k + 2)).toNatClampNeg)]) (rest := []) (W0 := zy_w cI rX (sx, ax, zx, hx9) ++ zm_w cI cB rM (sm, am, zm, hm9)) (wr := zm_w cI cB rM (sm, am, zm, hm9)) cf (c_X2_agrees l D cI cB rX sx ax zx hx9 (xs (nI (4 * k + 1)).toNatClampNeg) (xs (nI (4 * k + 2)).toNatClampNeg) hR9.2.2.1) (cwV 2 hts gL_law_X2_agrees rfl rfl rfl ⟨rfl, hd_X2_agrees⟩ ⟨Nat.le_of_ble_eq_true rfl, Nat.le_of_ble_eq_true rfl⟩) hK hN hP hD hS hA [0, 1, 2, 3, 4, 5, 6, 7, 8, 9, 10, 11, 12, 13, 14, 15, 16, 17] [18, 19, 20, 21, 22, 23, 24, 25, 26, 27, 28, 29, 30, 31, 32, 33] rfl rfl rfl rfl (by decide) 0 rfl rfl rfl hl.1 rfl (Nat.le_of_ble_eq_true rfl) dL_law_470 ⟨Nat.le_of_ble_eq_true rfl, Nat.le_of_ble_eq_true rfl⟩ (fun r1 vX H locs hq1 hP hD hS => ?_)
  refine W.eq (g2 := F0 m 473 ls [.int r1]) rfl ?_
  refine lv_aload_n hx hb dL_law_473 rfl (lv_at hl 2 rfl) ?_
  refine lv_aload_n hx hb dL_law_474 rfl (lv_at hl 0 rfl) ?_
  refine lv_iload_n hx hb dL_law_475 rfl (lv_at hl 3 rfl) ?_
  refine lv_iconst (v := nI 1) hx hb dL_law_476 (by decide) ?_
  refine zx_iadd hx hb dL_law_477 ?_
  refine va_sld hx hb hX hbl hbA hS hin1 dL_law_478 ?_
  refine lv_aload_n hx hb dL_law_479 rfl (lv_at hl 0 rfl) ?_
  refine lv_iload_n hx hb dL_law_480 rfl (lv_at hl 3 rfl) ?_
  refine lv_iconst (v := nI 2) hx hb dL_law_481 (by decide) ?_
  refine zx_iadd hx hb dL_law_482 ?_
  refine va_sld hx hb hX hbl hbA hS hin2 dL_law_483 ?_
  refine zw_V (em := zx_ei) (As := [.int (xs (nI (4 * k + 1)).toNatClampNeg), .int (xs (nI (4 * k + 2)).toNatClampNeg)]) (rest := [.int r1]) (W0 := zm_w cI cB rM (sm, am, zm, hm9) ++ zy_w cI rX vX) (wr := zy_w cI rX vX) cf (c_X3_agrees l D cI cB rM sm am zm hm9 (xs (nI (4 * k + 1)).toNatClampNeg) (xs (nI (4 * k + 2)).toNatClampNeg) hR9.2.2.2.1) (cwV 2 hts gL_law_X3_agrees rfl rfl rfl ⟨rfl, hd_X3_agrees⟩ ⟨Nat.le_of_ble_eq_true rfl, Nat.le_of_ble_eq_true rfl⟩) hK hN hP hD hS hA [0, 1, 2, 3, 4, 5, 6, 7, 8, 9, 10, 11, 12, 13, 14, 15] [16, 17, 18, 19, 20, 21, 22, 23, 24, 25, 26, 27, 28, 29, 30, 31, 32, 33] rfl rfl rfl rfl (by decide) 0 rfl rfl rfl hl.1 rfl (Nat.le_of_ble_eq_true rfl) dL_law_484 ⟨Nat.le_of_ble_eq_true rfl, Nat.le_of_ble_eq_true rfl⟩ (fun r2 vM H locs hq2 hP hD hS => ?_)
  refine W.eq (g2 := F0 m 487 ls [.int r2, .int r1]) rfl ?_
  obtain ⟨he, hv⟩ := zr_s_agrees hR9 hq1 hq2
  subst he
  refine lv_icmp_eq (tgt := 802) hx hb dL_law_487 (by decide) (fun _ => ?_) (fun c9 => absurd rfl c9)
  exact ih vX vM hv H locs hP hD hS ls hl
set_option maxHeartbeats 8000000 in
set_option maxRecDepth 100000 in
theorem lw_k12 {p : Program} {l : Launch} {e : Env} {s : State} {m : MethodId} {below : List Frame} {meth : Method} {c : Code} {b L : Nat} {xs : Nat → Int32} (hL : L ≤ 256) (C0 : lw_At p s m meth c b L xs) {D : va_G} {cI cB : ClassId} {rX rM : Nat → Nat} (hK : va_K D vwCl (zm_t cI cB) s) (hN : zx_N s) {k : Nat} (hk : 4 * k + 4 ≤ L) {uX : (Nat → Nat) × (Nat → Nat → Nat) × (Nat → Int) × Int} {uM : (Nat → Nat) × (Nat → Nat → Nat) × (Nat → Int) × Int64} (hU : zr_U k uX uM) (ih : ∀ (vX : (Nat → Nat) × (Nat → Nat → Nat) × (Nat → Int) × Int) (vM : (Nat → Nat) × (Nat → Nat → Nat) × (Nat → Int) × Int64), zr_U (k + 1) vX vM → ∀ (H : Heap) (locs : List Loc), va_P D vwCl (zy_w cI rX vX ++ zm_w cI cB rM vM) H → va_D (fun q : Nat => s.heap.size ≤ q) (zy_w cI rX vX ++ zm_w cI cB rM vM) → va_S (fun q : Nat => s.heap.size ≤ q) s.heap H locs → ∀ ls : Array Slot, lv_has ls 4 [(0, .ref b), (1, .ref (rX 1)), (2, .ref (rM 0)), (3, .int (nI (4 * k)))] → W p l e room_1 s m #[Value.ref b] below meth c H locs 34 292 (lw_Z below #[Value.ref b] s) (F0 m 802 ls [])) : ∀ (H : Heap) (locs : List Loc), va_P D vwCl (zy_w cI rX uX ++ zm_w cI cB rM uM) H → va_D (fun q : Nat => s.heap.size ≤ q) (zy_w cI rX uX ++ zm_w cI cB rM uM) → va_S (fun q : Nat => s.heap.size ≤ q) s.heap H locs → ∀ ls : Array Slot, lv_has ls 4 [(0, .ref b), (1, .ref (rX 1)), (2, .ref (rM 0)), (3, .int (nI (4 * k)))] → W p l e room_1 s m #[Value.ref b] below meth c H locs 34 292 (lw_Z below #[Value.ref b] s) (F0 m 492 ls []) := by
  intro H locs hP hD hS ls hl
  obtain ⟨hx, hb, hr, hml, hown, hts0, hX, hbl, hlocks, hgv⟩ := C0
  have hts : ∀ w ∈ wsL_law, w.before #[Value.ref b] s = true := fun w hw => hts0 w (wsL_law_in w hw)
  have hA : ∀ q : Nat, s.heap.size ≤ q → (fun q : Nat => s.heap.size ≤ q) q := fun _ h => h
  have hbA : ¬ (fun q : Nat => s.heap.size ≤ q) b := Nat.not_le.mpr hbl
  obtain ⟨sx, ax, zx, hx9⟩ := uX
  obtain ⟨sm, am, zm, hm9⟩ := uM
  have hR9 : zr_R k sx ax zx sm am zm := hU
  have cf : CallFix p m c cL_law 4 s #[Value.ref b] wsL_law RL := ⟨hx, hb, hml, hown, hts⟩
  have hin1 : vp_in (nI (4 * k + 1)) L := vp_in_nI (by omega) (by omega)
  have hin2 : vp_in (nI (4 * k + 2)) L := vp_in_nI (by omega) (by omega)
  have hin3 : vp_in (nI (4 * k + 3)) L := vp_in_nI (by omega) (by omega)
  refine lv_aload_n hx hb dL_law_492 rfl (lv_at hl 1 rfl) ?_
  refine lv_aload_n hx hb dL_law_493 rfl (lv_at hl 0 rfl) ?_
  refine lv_iload_n hx hb dL_law_494 rfl (lv_at hl 3 rfl) ?_
  refine lv_iconst (v := nI 1) hx hb dL_law_495 (by decide) ?_
  refine zx_iadd hx hb dL_law_496 ?_
  refine va_sld hx hb hX hbl hbA hS hin1 dL_law_497 ?_
  refine lv_aload_n hx hb dL_law_498 rfl (lv_at hl 0 rfl) ?_
  refine lv_iload_n hx hb dL_law_499 rfl (lv_at hl 3 rfl) ?_
  refine lv_iconst (v := nI 2) hx hb dL_law_500 (by decide) ?_
  refine zx_iadd hx hb dL_law_501 ?_
  refine va_sld hx hb hX hbl hbA hS hin2 dL_law_502 ?_
  refine zw_V (em := zx_ei) (As := [.int (xs (nI (4 * k + 1)).toNatClampNeg), .int (xs (nI (4 * k + 2)).toNatClampNeg)]) (rest := []) (W0 := zy_w cI rX (sx, ax, zx, hx9) ++ zm_w cI cB rM (sm, am, zm, hm9)) (wr := zm_w cI cB rM (sm, am, zm, hm9)) cf (c_X2_sure l D cI cB rX sx ax zx hx9 (xs (nI (4 * k + 1)).toNatClampNeg) (xs (nI (4 * k + 2)).toNatClampNeg) hR9.2.2.1) (cwV 2 hts gL_law_X2_sure rfl rfl rfl ⟨rfl, hd_X2_sure⟩ ⟨Nat.le_of_ble_eq_true rfl, Nat.le_of_ble_eq_true rfl⟩) hK hN hP hD hS hA [0, 1, 2, 3, 4, 5, 6, 7, 8, 9, 10, 11, 12, 13, 14, 15, 16, 17] [18, 19, 20, 21, 22, 23, 24, 25, 26, 27, 28, 29, 30, 31, 32, 33] rfl rfl rfl rfl (by decide) 0 rfl rfl rfl hl.1 rfl (Nat.le_of_ble_eq_true rfl) dL_law_503 ⟨Nat.le_of_ble_eq_true rfl, Nat.le_of_ble_eq_true rfl⟩ (fun r1 vX H locs hq1 hP hD hS => ?_)
  refine W.eq (g2 := F0 m 506 ls [.int r1]) rfl ?_
  refine lv_aload_n hx hb dL_law_506 rfl (lv_at hl 2 rfl) ?_
  refine lv_aload_n hx hb dL_law_507 rfl (lv_at hl 0 rfl) ?_
  refine lv_iload_n hx hb dL_law_508 rfl (lv_at hl 3 rfl) ?_
  refine lv_iconst (v := nI 1) hx hb dL_law_509 (by decide) ?_
  refine zx_iadd hx hb dL_law_510 ?_
  refine va_sld hx hb hX hbl hbA hS hin1 dL_law_511 ?_
  refine lv_aload_n hx hb dL_law_512 rfl (lv_at hl 0 rfl) ?_
  refine lv_iload_n hx hb dL_law_513 rfl (lv_at hl 3 rfl) ?_
  refine lv_iconst (v := nI 2) hx hb dL_law_514 (by decide) ?_
  refine zx_iadd hx hb dL_law_515 ?_
  refine va_sld hx hb hX hbl hbA hS hin2 dL_law_516 ?_
  refine zw_V (em := zx_ei) (As := [.int (xs (nI (4 * k + 1)).toNatClampNeg), .int (xs (nI (4 * k + 2)).toNatClampNeg)]) (rest := [.int r1]) (W0 := zm_w cI cB rM (sm, am, zm, hm9) ++ zy_w cI rX vX) (wr := zy_w cI rX vX) cf (c_X3_sure l D cI cB rM sm am zm hm9 (xs (nI (4 * k + 1)).toNatClampNeg) (xs (nI (4 * k + 2)).toNatClampNeg) hR9.2.2.2.1) (cwV 2 hts gL_law_X3_sure rfl rfl rfl ⟨rfl, hd_X3_sure⟩ ⟨Nat.le_of_ble_eq_true rfl, Nat.le_of_ble_eq_true rfl⟩) hK hN hP hD hS hA [0, 1, 2, 3, 4, 5, 6, 7, 8, 9, 10, 11, 12, 13, 14, 15] [16, 17, 18, 19, 20, 21, 22, 23, 24, 25, 26, 27, 28, 29, 30, 31, 32, 33] rfl rfl rfl rfl (by decide) 0 rfl rfl rfl hl.1 rfl (Nat.le_of_ble_eq_true rfl) dL_law_517 ⟨Nat.le_of_ble_eq_true rfl, Nat.le_of_ble_eq_true rfl⟩ (fun r2 vM H locs hq2 hP hD hS => ?_)
  refine W.eq (g2 := F0 m 520 ls [.int r2, .int r1]) rfl ?_
  obtain ⟨he, hv⟩ := zr_s_sure hR9 hq1 hq2
  subst he
  refine lv_icmp_eq (tgt := 802) hx hb dL_law_520 (by decide) (fun _ => ?_) (fun c9 => absurd rfl c9)
  exact ih vX vM hv H locs hP hD hS ls hl
set_option maxHeartbeats 8000000 in
set_option maxRecDepth 100000 in
theorem lw_k13 {p : Program} {l : Launch} {e : Env} {s : State} {m : MethodId} {below : List Frame} {meth : Method} {c : Code} {b L : Nat} {xs : Nat → Int32} (hL : L ≤ 256) (C0 : lw_At p s m meth c b L xs) {D : va_G} {cI cB : ClassId} {rX rM : Nat → Nat} (hK : va_K D vwCl (zm_t cI cB) s) (hN : zx_N s) {k : Nat} (hk : 4 * k + 4 ≤ L) {uX : (Nat → Nat) × (Nat → Nat → Nat) × (Nat → Int) × Int} {uM : (Nat → Nat) × (Nat → Nat → Nat) × (Nat → Int) × Int64} (hU : zr_U k uX uM) (ih : ∀ (vX : (Nat → Nat) × (Nat → Nat → Nat) × (Nat → Int) × Int) (vM : (Nat → Nat) × (Nat → Nat → Nat) × (Nat → Int) × Int64), zr_U (k + 1) vX vM → ∀ (H : Heap) (locs : List Loc), va_P D vwCl (zy_w cI rX vX ++ zm_w cI cB rM vM) H → va_D (fun q : Nat => s.heap.size ≤ q) (zy_w cI rX vX ++ zm_w cI cB rM vM) → va_S (fun q : Nat => s.heap.size ≤ q) s.heap H locs → ∀ ls : Array Slot, lv_has ls 4 [(0, .ref b), (1, .ref (rX 1)), (2, .ref (rM 0)), (3, .int (nI (4 * k)))] → W p l e room_1 s m #[Value.ref b] below meth c H locs 34 292 (lw_Z below #[Value.ref b] s) (F0 m 802 ls [])) : ∀ (H : Heap) (locs : List Loc), va_P D vwCl (zy_w cI rX uX ++ zm_w cI cB rM uM) H → va_D (fun q : Nat => s.heap.size ≤ q) (zy_w cI rX uX ++ zm_w cI cB rM uM) → va_S (fun q : Nat => s.heap.size ≤ q) s.heap H locs → ∀ ls : Array Slot, lv_has ls 4 [(0, .ref b), (1, .ref (rX 1)), (2, .ref (rM 0)), (3, .int (nI (4 * k)))] → W p l e room_1 s m #[Value.ref b] below meth c H locs 34 292 (lw_Z below #[Value.ref b] s) (F0 m 525 ls []) := by
  intro H locs hP hD hS ls hl
  obtain ⟨hx, hb, hr, hml, hown, hts0, hX, hbl, hlocks, hgv⟩ := C0
  have hts : ∀ w ∈ wsL_law, w.before #[Value.ref b] s = true := fun w hw => hts0 w (wsL_law_in w hw)
  have hA : ∀ q : Nat, s.heap.size ≤ q → (fun q : Nat => s.heap.size ≤ q) q := fun _ h => h
  have hbA : ¬ (fun q : Nat => s.heap.size ≤ q) b := Nat.not_le.mpr hbl
  obtain ⟨sx, ax, zx, hx9⟩ := uX
  obtain ⟨sm, am, zm, hm9⟩ := uM
  have hR9 : zr_R k sx ax zx sm am zm := hU
  have cf : CallFix p m c cL_law 4 s #[Value.ref b] wsL_law RL := ⟨hx, hb, hml, hown, hts⟩
  have hin1 : vp_in (nI (4 * k + 1)) L := vp_in_nI (by omega) (by omega)
  have hin2 : vp_in (nI (4 * k + 2)) L := vp_in_nI (by omega) (by omega)
  have hin3 : vp_in (nI (4 * k + 3)) L := vp_in_nI (by omega) (by omega)
  refine lv_aload_n hx hb dL_law_525 rfl (lv_at hl 1 rfl) ?_
  refine lv_aload_n hx hb dL_law_526 rfl (lv_at hl 0 rfl) ?_
  refine lv_iload_n hx hb dL_law_527 rfl (lv_at hl 3 rfl) ?_
  refine lv_iconst (v := nI 1) hx hb dL_law_528 (by decide) ?_
  refine zx_iadd hx hb dL_law_529 ?_
  refine va_sld hx hb hX hbl hbA hS hin1 dL_law_530 ?_
  refine lv_aload_n hx hb dL_law_531 rfl (lv_at hl 0 rfl) ?_
  refine lv_iload_n hx hb dL_law_532 rfl (lv_at hl 3 rfl) ?_
  refine lv_iconst (v := nI 2) hx hb dL_law_533 (by decide) ?_
  refine zx_iadd hx hb dL_law_534 ?_
  refine va_sld hx hb hX hbl hbA hS hin2 dL_law_535 ?_
  refine lv_aload_n hx hb dL_law_536 rfl (lv_at hl 0 rfl) ?_
  refine lv_iload_n hx hb dL_law_537 rfl (lv_at hl 3 rfl) ?_
  refine lv_iconst (v := nI 3) hx hb dL_law_538 (by decide) ?_
  refine zx_iadd hx hb dL_law_539 ?_
  refine va_sld hx hb hX hbl hbA hS hin3 dL_law_540 ?_
  refine zw_V (em := zx_ei) (As := [.int (xs (nI (4 * k + 1)).toNatClampNeg), .int (xs (nI (4 * k + 2)).toNatClampNeg), .int (xs (nI (4 * k + 3)).toNatClampNeg)]) (rest := []) (W0 := zy_w cI rX (sx, ax, zx, hx9) ++ zm_w cI cB rM (sm, am, zm, hm9)) (wr := zm_w cI cB rM (sm, am, zm, hm9)) cf (c_X2_few l D cI cB rX sx ax zx hx9 (xs (nI (4 * k + 1)).toNatClampNeg) (xs (nI (4 * k + 2)).toNatClampNeg) (xs (nI (4 * k + 3)).toNatClampNeg) hR9.2.2.1) (cwV 3 hts gL_law_X2_few rfl rfl rfl ⟨rfl, hd_X2_few⟩ ⟨Nat.le_of_ble_eq_true rfl, Nat.le_of_ble_eq_true rfl⟩) hK hN hP hD hS hA [0, 1, 2, 3, 4, 5, 6, 7, 8, 9, 10, 11, 12, 13, 14, 15, 16, 17] [18, 19, 20, 21, 22, 23, 24, 25, 26, 27, 28, 29, 30, 31, 32, 33] rfl rfl rfl rfl (by decide) 0 rfl rfl rfl hl.1 rfl (Nat.le_of_ble_eq_true rfl) dL_law_541 ⟨Nat.le_of_ble_eq_true rfl, Nat.le_of_ble_eq_true rfl⟩ (fun r1 vX H locs hq1 hP hD hS => ?_)
  refine W.eq (g2 := F0 m 544 ls [.int r1]) rfl ?_
  refine lv_aload_n hx hb dL_law_544 rfl (lv_at hl 2 rfl) ?_
  refine lv_aload_n hx hb dL_law_545 rfl (lv_at hl 0 rfl) ?_
  refine lv_iload_n hx hb dL_law_546 rfl (lv_at hl 3 rfl) ?_
  refine lv_iconst (v := nI 1) hx hb dL_law_547 (by decide) ?_
  refine zx_iadd hx hb dL_law_548 ?_
  refine va_sld hx hb hX hbl hbA hS hin1 dL_law_549 ?_
  refine lv_aload_n hx hb dL_law_550 rfl (lv_at hl 0 rfl) ?_
  refine lv_iload_n hx hb dL_law_551 rfl (lv_at hl 3 rfl) ?_
  refine lv_iconst (v := nI 2) hx hb dL_law_552 (by decide) ?_
  refine zx_iadd hx hb dL_law_553 ?_
  refine va_sld hx hb hX hbl hbA hS hin2 dL_law_554 ?_
  refine lv_aload_n hx hb dL_law_555 rfl (lv_at hl 0 rfl) ?_
  refine lv_iload_n hx hb dL_law_556 rfl (lv_at hl 3 rfl) ?_
  refine lv_iconst (v := nI 3) hx hb dL_law_557 (by decide) ?_
  refine zx_iadd hx hb dL_law_558 ?_
  refine va_sld hx hb hX hbl hbA hS hin3 dL_law_559 ?_
  refine zw_V (em := zx_ei) (As := [.int (xs (nI (4 * k + 1)).toNatClampNeg), .int (xs (nI (4 * k + 2)).toNatClampNeg), .int (xs (nI (4 * k + 3)).toNatClampNeg)]) (rest := [.int r1]) (W0 := zm_w cI cB rM (sm, am, zm, hm9) ++ zy_w cI rX vX) (wr := zy_w cI rX vX) cf (c_X3_few l D cI cB rM sm am zm hm9 (xs (nI (4 * k + 1)).toNatClampNeg) (xs (nI (4 * k + 2)).toNatClampNeg) (xs (nI (4 * k + 3)).toNatClampNeg) hR9.2.2.2.1) (cwV 3 hts gL_law_X3_few rfl rfl rfl ⟨rfl, hd_X3_few⟩ ⟨Nat.le_of_ble_eq_true rfl, Nat.le_of_ble_eq_true rfl⟩) hK hN hP hD hS hA [0, 1, 2, 3, 4, 5, 6, 7, 8, 9, 10, 11, 12, 13, 14, 15] [16, 17, 18, 19, 20, 21, 22, 23, 24, 25, 26, 27, 28, 29, 30, 31, 32, 33] rfl rfl rfl rfl (by decide) 0 rfl rfl rfl hl.1 rfl (Nat.le_of_ble_eq_true rfl) dL_law_560 ⟨Nat.le_of_ble_eq_true rfl, Nat.le_of_ble_eq_true rfl⟩ (fun r2 vM H locs hq2 hP hD hS => ?_)
  refine W.eq (g2 := F0 m 563 ls [.int r2, .int r1]) rfl ?_
  obtain ⟨he, hv⟩ := zr_s_few hR9 hq1 hq2
  subst he
  refine lv_icmp_eq (tgt := 802) hx hb dL_law_563 (by decide) (fun _ => ?_) (fun c9 => absurd rfl c9)
  exact ih vX vM hv H locs hP hD hS ls hl
set_option maxHeartbeats 8000000 in
set_option maxRecDepth 100000 in
theorem lw_k14 {p : Program} {l : Launch} {e : Env} {s : State} {m : MethodId} {below : List Frame} {meth : Method} {c : Code} {b L : Nat} {xs : Nat → Int32} (hL : L ≤ 256) (C0 : lw_At p s m meth c b L xs) {D : va_G} {cI cB : ClassId} {rX rM : Nat → Nat} (hK : va_K D vwCl (zm_t cI cB) s) (hN : zx_N s) {k : Nat} (hk : 4 * k + 4 ≤ L) {uX : (Nat → Nat) × (Nat → Nat → Nat) × (Nat → Int) × Int} {uM : (Nat → Nat) × (Nat → Nat → Nat) × (Nat → Int) × Int64} (hU : zr_U k uX uM) (ih : ∀ (vX : (Nat → Nat) × (Nat → Nat → Nat) × (Nat → Int) × Int) (vM : (Nat → Nat) × (Nat → Nat → Nat) × (Nat → Int) × Int64), zr_U (k + 1) vX vM → ∀ (H : Heap) (locs : List Loc), va_P D vwCl (zy_w cI rX vX ++ zm_w cI cB rM vM) H → va_D (fun q : Nat => s.heap.size ≤ q) (zy_w cI rX vX ++ zm_w cI cB rM vM) → va_S (fun q : Nat => s.heap.size ≤ q) s.heap H locs → ∀ ls : Array Slot, lv_has ls 4 [(0, .ref b), (1, .ref (rX 1)), (2, .ref (rM 0)), (3, .int (nI (4 * k)))] → W p l e room_1 s m #[Value.ref b] below meth c H locs 34 292 (lw_Z below #[Value.ref b] s) (F0 m 802 ls [])) : ∀ (H : Heap) (locs : List Loc), va_P D vwCl (zy_w cI rX uX ++ zm_w cI cB rM uM) H → va_D (fun q : Nat => s.heap.size ≤ q) (zy_w cI rX uX ++ zm_w cI cB rM uM) → va_S (fun q : Nat => s.heap.size ≤ q) s.heap H locs → ∀ ls : Array Slot, lv_has ls 4 [(0, .ref b), (1, .ref (rX 1)), (2, .ref (rM 0)), (3, .int (nI (4 * k)))] → W p l e room_1 s m #[Value.ref b] below meth c H locs 34 292 (lw_Z below #[Value.ref b] s) (F0 m 568 ls []) := by
  intro H locs hP hD hS ls hl
  obtain ⟨hx, hb, hr, hml, hown, hts0, hX, hbl, hlocks, hgv⟩ := C0
  have hts : ∀ w ∈ wsL_law, w.before #[Value.ref b] s = true := fun w hw => hts0 w (wsL_law_in w hw)
  have hA : ∀ q : Nat, s.heap.size ≤ q → (fun q : Nat => s.heap.size ≤ q) q := fun _ h => h
  have hbA : ¬ (fun q : Nat => s.heap.size ≤ q) b := Nat.not_le.mpr hbl
  obtain ⟨sx, ax, zx, hx9⟩ := uX
  obtain ⟨sm, am, zm, hm9⟩ := uM
  have hR9 : zr_R k sx ax zx sm am zm := hU
  have cf : CallFix p m c cL_law 4 s #[Value.ref b] wsL_law RL := ⟨hx, hb, hml, hown, hts⟩
  have hin1 : vp_in (nI (4 * k + 1)) L := vp_in_nI (by omega) (by omega)
  have hin2 : vp_in (nI (4 * k + 2)) L := vp_in_nI (by omega) (by omega)
  have hin3 : vp_in (nI (4 * k + 3)) L := vp_in_nI (by omega) (by omega)
  refine lv_aload_n hx hb dL_law_568 rfl (lv_at hl 1 rfl) ?_
  refine lv_aload_n hx hb dL_law_569 rfl (lv_at hl 0 rfl) ?_
  refine lv_iload_n hx hb dL_law_570 rfl (lv_at hl 3 rfl) ?_
  refine lv_iconst (v := nI 1) hx hb dL_law_571 (by decide) ?_
  refine zx_iadd hx hb dL_law_572 ?_
  refine va_sld hx hb hX hbl hbA hS hin1 dL_law_573 ?_
  refine lv_aload_n hx hb dL_law_574 rfl (lv_at hl 0 rfl) ?_
  refine lv_iload_n hx hb dL_law_575 rfl (lv_at hl 3 rfl) ?_
  refine lv_iconst (v := nI 2) hx hb dL_law_576 (by decide) ?_
  refine zx_iadd hx hb dL_law_577 ?_
  refine va_sld hx hb hX hbl hbA hS hin2 dL_law_578 ?_
  refine lv_aload_n hx hb dL_law_579 rfl (lv_at hl 0 rfl) ?_
  refine lv_iload_n hx hb dL_law_580 rfl (lv_at hl 3 rfl) ?_
  refine lv_iconst (v := nI 3) hx hb dL_law_581 (by decide) ?_
  refine zx_iadd hx hb dL_law_582 ?_
  refine va_sld hx hb hX hbl hbA hS hin3 dL_law_583 ?_
  refine lv_if_eq (tgt := 591) hx hb dL_law_584 (by decide) (fun c_584 => ?_) (fun c_584 => ?_)
  · refine lv_iconst (v := zx_b false) hx hb dL_law_591 (by decide) ?_
    refine zw_V (em := zx_ei) (As := [.int (xs (nI (4 * k + 1)).toNatClampNeg), .int (xs (nI (4 * k + 2)).toNatClampNeg), .int (zx_b false)]) (rest := []) (W0 := zy_w cI rX (sx, ax, zx, hx9) ++ zm_w cI cB rM (sm, am, zm, hm9)) (wr := zm_w cI cB rM (sm, am, zm, hm9)) cf (c_X2_found l D cI cB rX sx ax zx hx9 (xs (nI (4 * k + 1)).toNatClampNeg) (xs (nI (4 * k + 2)).toNatClampNeg) false hR9.2.2.1) (cwV 3 hts gL_law_X2_found rfl rfl rfl ⟨rfl, hd_X2_found⟩ ⟨Nat.le_of_ble_eq_true rfl, Nat.le_of_ble_eq_true rfl⟩) hK hN hP hD hS hA [0, 1, 2, 3, 4, 5, 6, 7, 8, 9, 10, 11, 12, 13, 14, 15, 16, 17] [18, 19, 20, 21, 22, 23, 24, 25, 26, 27, 28, 29, 30, 31, 32, 33] rfl rfl rfl rfl (by decide) 0 rfl rfl rfl hl.1 rfl (Nat.le_of_ble_eq_true rfl) dL_law_592 ⟨Nat.le_of_ble_eq_true rfl, Nat.le_of_ble_eq_true rfl⟩ (fun r1 vX H locs hq1 hP hD hS => ?_)
    refine W.eq (g2 := F0 m 595 ls [.int r1]) rfl ?_
    refine lv_aload_n hx hb dL_law_595 rfl (lv_at hl 2 rfl) ?_
    refine lv_aload_n hx hb dL_law_596 rfl (lv_at hl 0 rfl) ?_
    refine lv_iload_n hx hb dL_law_597 rfl (lv_at hl 3 rfl) ?_
    refine lv_iconst (v := nI 1) hx hb dL_law_598 (by decide) ?_
    refine zx_iadd hx hb dL_law_599 ?_
    refine va_sld hx hb hX hbl hbA hS hin1 dL_law_600 ?_
    refine lv_aload_n hx hb dL_law_601 rfl (lv_at hl 0 rfl) ?_
    refine lv_iload_n hx hb dL_law_602 rfl (lv_at hl 3 rfl) ?_
    refine lv_iconst (v := nI 2) hx hb dL_law_603 (by decide) ?_
    refine zx_iadd hx hb dL_law_604 ?_
    refine va_sld hx hb hX hbl hbA hS hin2 dL_law_605 ?_
    refine lv_aload_n hx hb dL_law_606 rfl (lv_at hl 0 rfl) ?_
    refine lv_iload_n hx hb dL_law_607 rfl (lv_at hl 3 rfl) ?_
    refine lv_iconst (v := nI 3) hx hb dL_law_608 (by decide) ?_
    refine zx_iadd hx hb dL_law_609 ?_
    refine va_sld hx hb hX hbl hbA hS hin3 dL_law_610 ?_
    refine lv_if_eq (tgt := 618) hx hb dL_law_611 (by decide) (fun c_611 => ?_) (fun c_611 => ?_)
    · refine lv_iconst (v := zx_b false) hx hb dL_law_618 (by decide) ?_
      refine zw_V (em := zx_ei) (As := [.int (xs (nI (4 * k + 1)).toNatClampNeg), .int (xs (nI (4 * k + 2)).toNatClampNeg), .int (zx_b false)]) (rest := [.int r1]) (W0 := zm_w cI cB rM (sm, am, zm, hm9) ++ zy_w cI rX vX) (wr := zy_w cI rX vX) cf (c_X3_found l D cI cB rM sm am zm hm9 (xs (nI (4 * k + 1)).toNatClampNeg) (xs (nI (4 * k + 2)).toNatClampNeg) false hR9.2.2.2.1) (cwV 3 hts gL_law_X3_found rfl rfl rfl ⟨rfl, hd_X3_found⟩ ⟨Nat.le_of_ble_eq_true rfl, Nat.le_of_ble_eq_true rfl⟩) hK hN hP hD hS hA [0, 1, 2, 3, 4, 5, 6, 7, 8, 9, 10, 11, 12, 13, 14, 15] [16, 17, 18, 19, 20, 21, 22, 23, 24, 25, 26, 27, 28, 29, 30, 31, 32, 33] rfl rfl rfl rfl (by decide) 0 rfl rfl rfl hl.1 rfl (Nat.le_of_ble_eq_true rfl) dL_law_619 ⟨Nat.le_of_ble_eq_true rfl, Nat.le_of_ble_eq_true rfl⟩ (fun r2 vM H locs hq2 hP hD hS => ?_)
      refine W.eq (g2 := F0 m 622 ls [.int r2, .int r1]) rfl ?_
      obtain ⟨he, hv⟩ := zr_s_found hR9 hq1 hq2
      subst he
      refine lv_icmp_eq (tgt := 802) hx hb dL_law_622 (by decide) (fun _ => ?_) (fun c9 => absurd rfl c9)
      exact ih vX vM hv H locs hP hD hS ls hl
    · exact absurd c_584 c_611
  · refine lv_iconst (v := zx_b true) hx hb dL_law_587 (by decide) ?_
    refine lv_goto (tgt := 592) hx hb dL_law_588 (by decide) ?_
    refine zw_V (em := zx_ei) (As := [.int (xs (nI (4 * k + 1)).toNatClampNeg), .int (xs (nI (4 * k + 2)).toNatClampNeg), .int (zx_b true)]) (rest := []) (W0 := zy_w cI rX (sx, ax, zx, hx9) ++ zm_w cI cB rM (sm, am, zm, hm9)) (wr := zm_w cI cB rM (sm, am, zm, hm9)) cf (c_X2_found l D cI cB rX sx ax zx hx9 (xs (nI (4 * k + 1)).toNatClampNeg) (xs (nI (4 * k + 2)).toNatClampNeg) true hR9.2.2.1) (cwV 3 hts gL_law_X2_found rfl rfl rfl ⟨rfl, hd_X2_found⟩ ⟨Nat.le_of_ble_eq_true rfl, Nat.le_of_ble_eq_true rfl⟩) hK hN hP hD hS hA [0, 1, 2, 3, 4, 5, 6, 7, 8, 9, 10, 11, 12, 13, 14, 15, 16, 17] [18, 19, 20, 21, 22, 23, 24, 25, 26, 27, 28, 29, 30, 31, 32, 33] rfl rfl rfl rfl (by decide) 0 rfl rfl rfl hl.1 rfl (Nat.le_of_ble_eq_true rfl) dL_law_592 ⟨Nat.le_of_ble_eq_true rfl, Nat.le_of_ble_eq_true rfl⟩ (fun r1 vX H locs hq1 hP hD hS => ?_)
    refine W.eq (g2 := F0 m 595 ls [.int r1]) rfl ?_
    refine lv_aload_n hx hb dL_law_595 rfl (lv_at hl 2 rfl) ?_
    refine lv_aload_n hx hb dL_law_596 rfl (lv_at hl 0 rfl) ?_
    refine lv_iload_n hx hb dL_law_597 rfl (lv_at hl 3 rfl) ?_
    refine lv_iconst (v := nI 1) hx hb dL_law_598 (by decide) ?_
    refine zx_iadd hx hb dL_law_599 ?_
    refine va_sld hx hb hX hbl hbA hS hin1 dL_law_600 ?_
    refine lv_aload_n hx hb dL_law_601 rfl (lv_at hl 0 rfl) ?_
    refine lv_iload_n hx hb dL_law_602 rfl (lv_at hl 3 rfl) ?_
    refine lv_iconst (v := nI 2) hx hb dL_law_603 (by decide) ?_
    refine zx_iadd hx hb dL_law_604 ?_
    refine va_sld hx hb hX hbl hbA hS hin2 dL_law_605 ?_
    refine lv_aload_n hx hb dL_law_606 rfl (lv_at hl 0 rfl) ?_
    refine lv_iload_n hx hb dL_law_607 rfl (lv_at hl 3 rfl) ?_
    refine lv_iconst (v := nI 3) hx hb dL_law_608 (by decide) ?_
    refine zx_iadd hx hb dL_law_609 ?_
    refine va_sld hx hb hX hbl hbA hS hin3 dL_law_610 ?_
    refine lv_if_eq (tgt := 618) hx hb dL_law_611 (by decide) (fun c_611 => ?_) (fun c_611 => ?_)
    · exact absurd c_611 c_584
    · refine lv_iconst (v := zx_b true) hx hb dL_law_614 (by decide) ?_
      refine lv_goto (tgt := 619) hx hb dL_law_615 (by decide) ?_
      refine zw_V (em := zx_ei) (As := [.int (xs (nI (4 * k + 1)).toNatClampNeg), .int (xs (nI (4 * k + 2)).toNatClampNeg), .int (zx_b true)]) (rest := [.int r1]) (W0 := zm_w cI cB rM (sm, am, zm, hm9) ++ zy_w cI rX vX) (wr := zy_w cI rX vX) cf (c_X3_found l D cI cB rM sm am zm hm9 (xs (nI (4 * k + 1)).toNatClampNeg) (xs (nI (4 * k + 2)).toNatClampNeg) true hR9.2.2.2.1) (cwV 3 hts gL_law_X3_found rfl rfl rfl ⟨rfl, hd_X3_found⟩ ⟨Nat.le_of_ble_eq_true rfl, Nat.le_of_ble_eq_true rfl⟩) hK hN hP hD hS hA [0, 1, 2, 3, 4, 5, 6, 7, 8, 9, 10, 11, 12, 13, 14, 15] [16, 17, 18, 19, 20, 21, 22, 23, 24, 25, 26, 27, 28, 29, 30, 31, 32, 33] rfl rfl rfl rfl (by decide) 0 rfl rfl rfl hl.1 rfl (Nat.le_of_ble_eq_true rfl) dL_law_619 ⟨Nat.le_of_ble_eq_true rfl, Nat.le_of_ble_eq_true rfl⟩ (fun r2 vM H locs hq2 hP hD hS => ?_)
      refine W.eq (g2 := F0 m 622 ls [.int r2, .int r1]) rfl ?_
      obtain ⟨he, hv⟩ := zr_s_found hR9 hq1 hq2
      subst he
      refine lv_icmp_eq (tgt := 802) hx hb dL_law_622 (by decide) (fun _ => ?_) (fun c9 => absurd rfl c9)
      exact ih vX vM hv H locs hP hD hS ls hl
set_option maxHeartbeats 8000000 in
set_option maxRecDepth 100000 in
theorem lw_k15 {p : Program} {l : Launch} {e : Env} {s : State} {m : MethodId} {below : List Frame} {meth : Method} {c : Code} {b L : Nat} {xs : Nat → Int32} (hL : L ≤ 256) (C0 : lw_At p s m meth c b L xs) {D : va_G} {cI cB : ClassId} {rX rM : Nat → Nat} (hK : va_K D vwCl (zm_t cI cB) s) (hN : zx_N s) {k : Nat} (hk : 4 * k + 4 ≤ L) {uX : (Nat → Nat) × (Nat → Nat → Nat) × (Nat → Int) × Int} {uM : (Nat → Nat) × (Nat → Nat → Nat) × (Nat → Int) × Int64} (hU : zr_U k uX uM) (ih : ∀ (vX : (Nat → Nat) × (Nat → Nat → Nat) × (Nat → Int) × Int) (vM : (Nat → Nat) × (Nat → Nat → Nat) × (Nat → Int) × Int64), zr_U (k + 1) vX vM → ∀ (H : Heap) (locs : List Loc), va_P D vwCl (zy_w cI rX vX ++ zm_w cI cB rM vM) H → va_D (fun q : Nat => s.heap.size ≤ q) (zy_w cI rX vX ++ zm_w cI cB rM vM) → va_S (fun q : Nat => s.heap.size ≤ q) s.heap H locs → ∀ ls : Array Slot, lv_has ls 4 [(0, .ref b), (1, .ref (rX 1)), (2, .ref (rM 0)), (3, .int (nI (4 * k)))] → W p l e room_1 s m #[Value.ref b] below meth c H locs 34 292 (lw_Z below #[Value.ref b] s) (F0 m 802 ls [])) : ∀ (H : Heap) (locs : List Loc), va_P D vwCl (zy_w cI rX uX ++ zm_w cI cB rM uM) H → va_D (fun q : Nat => s.heap.size ≤ q) (zy_w cI rX uX ++ zm_w cI cB rM uM) → va_S (fun q : Nat => s.heap.size ≤ q) s.heap H locs → ∀ ls : Array Slot, lv_has ls 4 [(0, .ref b), (1, .ref (rX 1)), (2, .ref (rM 0)), (3, .int (nI (4 * k)))] → W p l e room_1 s m #[Value.ref b] below meth c H locs 34 292 (lw_Z below #[Value.ref b] s) (F0 m 627 ls []) := by
  intro H locs hP hD hS ls hl
  obtain ⟨hx, hb, hr, hml, hown, hts0, hX, hbl, hlocks, hgv⟩ := C0
  have hts : ∀ w ∈ wsL_law, w.before #[Value.ref b] s = true := fun w hw => hts0 w (wsL_law_in w hw)
  have hA : ∀ q : Nat, s.heap.size ≤ q → (fun q : Nat => s.heap.size ≤ q) q := fun _ h => h
  have hbA : ¬ (fun q : Nat => s.heap.size ≤ q) b := Nat.not_le.mpr hbl
  obtain ⟨sx, ax, zx, hx9⟩ := uX
  obtain ⟨sm, am, zm, hm9⟩ := uM
  have hR9 : zr_R k sx ax zx sm am zm := hU
  have cf : CallFix p m c cL_law 4 s #[Value.ref b] wsL_law RL := ⟨hx, hb, hml, hown, hts⟩
  have hin1 : vp_in (nI (4 * k + 1)) L := vp_in_nI (by omega) (by omega)
  have hin2 : vp_in (nI (4 * k + 2)) L := vp_in_nI (by omega) (by omega)
  have hin3 : vp_in (nI (4 * k + 3)) L := vp_in_nI (by omega) (by omega)
  refine lv_aload_n hx hb dL_law_627 rfl (lv_at hl 1 rfl) ?_
  refine zw_V (em := zx_ei) (As := []) (rest := []) (W0 := zy_w cI rX (sx, ax, zx, hx9) ++ zm_w cI cB rM (sm, am, zm, hm9)) (wr := zm_w cI cB rM (sm, am, zm, hm9)) cf (c_X2_forget l D cI cB rX sx ax zx hx9  hR9.2.2.1) (cwV 0 hts gL_law_X2_forget rfl rfl rfl ⟨rfl, hd_X2_forget⟩ ⟨Nat.le_of_ble_eq_true rfl, Nat.le_of_ble_eq_true rfl⟩) hK hN hP hD hS hA [0, 1, 2, 3, 4, 5, 6, 7, 8, 9, 10, 11, 12, 13, 14, 15, 16, 17] [18, 19, 20, 21, 22, 23, 24, 25, 26, 27, 28, 29, 30, 31, 32, 33] rfl rfl rfl rfl (by decide) 0 rfl rfl rfl hl.1 rfl (Nat.le_of_ble_eq_true rfl) dL_law_628 ⟨Nat.le_of_ble_eq_true rfl, Nat.le_of_ble_eq_true rfl⟩ (fun r1 vX H locs hq1 hP hD hS => ?_)
  refine W.eq (g2 := F0 m 631 ls [.int r1]) rfl ?_
  refine lv_aload_n hx hb dL_law_631 rfl (lv_at hl 2 rfl) ?_
  refine zw_V (em := zx_ei) (As := []) (rest := [.int r1]) (W0 := zm_w cI cB rM (sm, am, zm, hm9) ++ zy_w cI rX vX) (wr := zy_w cI rX vX) cf (c_X3_forget l D cI cB rM sm am zm hm9  hR9.2.2.2.1) (cwV 0 hts gL_law_X3_forget rfl rfl rfl ⟨rfl, hd_X3_forget⟩ ⟨Nat.le_of_ble_eq_true rfl, Nat.le_of_ble_eq_true rfl⟩) hK hN hP hD hS hA [0, 1, 2, 3, 4, 5, 6, 7, 8, 9, 10, 11, 12, 13, 14, 15] [16, 17, 18, 19, 20, 21, 22, 23, 24, 25, 26, 27, 28, 29, 30, 31, 32, 33] rfl rfl rfl rfl (by decide) 0 rfl rfl rfl hl.1 rfl (Nat.le_of_ble_eq_true rfl) dL_law_632 ⟨Nat.le_of_ble_eq_true rfl, Nat.le_of_ble_eq_true rfl⟩ (fun r2 vM H locs hq2 hP hD hS => ?_)
  refine W.eq (g2 := F0 m 635 ls [.int r2, .int r1]) rfl ?_
  obtain ⟨he, hv⟩ := zr_s_forget hR9 hq1 hq2
  subst he
  refine lv_icmp_eq (tgt := 802) hx hb dL_law_635 (by decide) (fun _ => ?_) (fun c9 => absurd rfl c9)
  exact ih vX vM hv H locs hP hD hS ls hl
set_option maxHeartbeats 8000000 in
set_option maxRecDepth 100000 in
theorem lw_k16 {p : Program} {l : Launch} {e : Env} {s : State} {m : MethodId} {below : List Frame} {meth : Method} {c : Code} {b L : Nat} {xs : Nat → Int32} (hL : L ≤ 256) (C0 : lw_At p s m meth c b L xs) {D : va_G} {cI cB : ClassId} {rX rM : Nat → Nat} (hK : va_K D vwCl (zm_t cI cB) s) (hN : zx_N s) {k : Nat} (hk : 4 * k + 4 ≤ L) {uX : (Nat → Nat) × (Nat → Nat → Nat) × (Nat → Int) × Int} {uM : (Nat → Nat) × (Nat → Nat → Nat) × (Nat → Int) × Int64} (hU : zr_U k uX uM) (ih : ∀ (vX : (Nat → Nat) × (Nat → Nat → Nat) × (Nat → Int) × Int) (vM : (Nat → Nat) × (Nat → Nat → Nat) × (Nat → Int) × Int64), zr_U (k + 1) vX vM → ∀ (H : Heap) (locs : List Loc), va_P D vwCl (zy_w cI rX vX ++ zm_w cI cB rM vM) H → va_D (fun q : Nat => s.heap.size ≤ q) (zy_w cI rX vX ++ zm_w cI cB rM vM) → va_S (fun q : Nat => s.heap.size ≤ q) s.heap H locs → ∀ ls : Array Slot, lv_has ls 4 [(0, .ref b), (1, .ref (rX 1)), (2, .ref (rM 0)), (3, .int (nI (4 * k)))] → W p l e room_1 s m #[Value.ref b] below meth c H locs 34 292 (lw_Z below #[Value.ref b] s) (F0 m 802 ls [])) : ∀ (H : Heap) (locs : List Loc), va_P D vwCl (zy_w cI rX uX ++ zm_w cI cB rM uM) H → va_D (fun q : Nat => s.heap.size ≤ q) (zy_w cI rX uX ++ zm_w cI cB rM uM) → va_S (fun q : Nat => s.heap.size ≤ q) s.heap H locs → ∀ ls : Array Slot, lv_has ls 4 [(0, .ref b), (1, .ref (rX 1)), (2, .ref (rM 0)), (3, .int (nI (4 * k)))] → W p l e room_1 s m #[Value.ref b] below meth c H locs 34 292 (lw_Z below #[Value.ref b] s) (F0 m 640 ls []) := by
  intro H locs hP hD hS ls hl
  obtain ⟨hx, hb, hr, hml, hown, hts0, hX, hbl, hlocks, hgv⟩ := C0
  have hts : ∀ w ∈ wsL_law, w.before #[Value.ref b] s = true := fun w hw => hts0 w (wsL_law_in w hw)
  have hA : ∀ q : Nat, s.heap.size ≤ q → (fun q : Nat => s.heap.size ≤ q) q := fun _ h => h
  have hbA : ¬ (fun q : Nat => s.heap.size ≤ q) b := Nat.not_le.mpr hbl
  obtain ⟨sx, ax, zx, hx9⟩ := uX
  obtain ⟨sm, am, zm, hm9⟩ := uM
  have hR9 : zr_R k sx ax zx sm am zm := hU
  have cf : CallFix p m c cL_law 4 s #[Value.ref b] wsL_law RL := ⟨hx, hb, hml, hown, hts⟩
  have hin1 : vp_in (nI (4 * k + 1)) L := vp_in_nI (by omega) (by omega)
  have hin2 : vp_in (nI (4 * k + 2)) L := vp_in_nI (by omega) (by omega)
  have hin3 : vp_in (nI (4 * k + 3)) L := vp_in_nI (by omega) (by omega)
  refine lv_aload_n hx hb dL_law_640 rfl (lv_at hl 1 rfl) ?_
  refine lv_aload_n hx hb dL_law_641 rfl (lv_at hl 0 rfl) ?_
  refine lv_iload_n hx hb dL_law_642 rfl (lv_at hl 3 rfl) ?_
  refine lv_iconst (v := nI 1) hx hb dL_law_643 (by decide) ?_
  refine zx_iadd hx hb dL_law_644 ?_
  refine va_sld hx hb hX hbl hbA hS hin1 dL_law_645 ?_
  refine zw_V (em := zx_ei) (As := [.int (xs (nI (4 * k + 1)).toNatClampNeg)]) (rest := []) (W0 := zy_w cI rX (sx, ax, zx, hx9) ++ zm_w cI cB rM (sm, am, zm, hm9)) (wr := zm_w cI cB rM (sm, am, zm, hm9)) cf (c_X2_delays l D cI cB rX sx ax zx hx9 (xs (nI (4 * k + 1)).toNatClampNeg) hR9.2.2.1) (cwV 1 hts gL_law_X2_delays rfl rfl rfl ⟨rfl, hd_X2_delays⟩ ⟨Nat.le_of_ble_eq_true rfl, Nat.le_of_ble_eq_true rfl⟩) hK hN hP hD hS hA [0, 1, 2, 3, 4, 5, 6, 7, 8, 9, 10, 11, 12, 13, 14, 15, 16, 17] [18, 19, 20, 21, 22, 23, 24, 25, 26, 27, 28, 29, 30, 31, 32, 33] rfl rfl rfl rfl (by decide) 0 rfl rfl rfl hl.1 rfl (Nat.le_of_ble_eq_true rfl) dL_law_646 ⟨Nat.le_of_ble_eq_true rfl, Nat.le_of_ble_eq_true rfl⟩ (fun r1 vX H locs hq1 hP hD hS => ?_)
  refine W.eq (g2 := F0 m 649 ls [.int r1]) rfl ?_
  refine lv_aload_n hx hb dL_law_649 rfl (lv_at hl 2 rfl) ?_
  refine lv_aload_n hx hb dL_law_650 rfl (lv_at hl 0 rfl) ?_
  refine lv_iload_n hx hb dL_law_651 rfl (lv_at hl 3 rfl) ?_
  refine lv_iconst (v := nI 1) hx hb dL_law_652 (by decide) ?_
  refine zx_iadd hx hb dL_law_653 ?_
  refine va_sld hx hb hX hbl hbA hS hin1 dL_law_654 ?_
  refine zw_V (em := zx_ei) (As := [.int (xs (nI (4 * k + 1)).toNatClampNeg)]) (rest := [.int r1]) (W0 := zm_w cI cB rM (sm, am, zm, hm9) ++ zy_w cI rX vX) (wr := zy_w cI rX vX) cf (c_X3_delays l D cI cB rM sm am zm hm9 (xs (nI (4 * k + 1)).toNatClampNeg) hR9.2.2.2.1) (cwV 1 hts gL_law_X3_delays rfl rfl rfl ⟨rfl, hd_X3_delays⟩ ⟨Nat.le_of_ble_eq_true rfl, Nat.le_of_ble_eq_true rfl⟩) hK hN hP hD hS hA [0, 1, 2, 3, 4, 5, 6, 7, 8, 9, 10, 11, 12, 13, 14, 15] [16, 17, 18, 19, 20, 21, 22, 23, 24, 25, 26, 27, 28, 29, 30, 31, 32, 33] rfl rfl rfl rfl (by decide) 0 rfl rfl rfl hl.1 rfl (Nat.le_of_ble_eq_true rfl) dL_law_655 ⟨Nat.le_of_ble_eq_true rfl, Nat.le_of_ble_eq_true rfl⟩ (fun r2 vM H locs hq2 hP hD hS => ?_)
  refine W.eq (g2 := F0 m 658 ls [.int r2, .int r1]) rfl ?_
  obtain ⟨he, hv⟩ := zr_s_delays hR9 hq1 hq2
  subst he
  refine lv_icmp_eq (tgt := 802) hx hb dL_law_658 (by decide) (fun _ => ?_) (fun c9 => absurd rfl c9)
  exact ih vX vM hv H locs hP hD hS ls hl
set_option maxHeartbeats 8000000 in
set_option maxRecDepth 100000 in
theorem lw_k17 {p : Program} {l : Launch} {e : Env} {s : State} {m : MethodId} {below : List Frame} {meth : Method} {c : Code} {b L : Nat} {xs : Nat → Int32} (hL : L ≤ 256) (C0 : lw_At p s m meth c b L xs) {D : va_G} {cI cB : ClassId} {rX rM : Nat → Nat} (hK : va_K D vwCl (zm_t cI cB) s) (hN : zx_N s) {k : Nat} (hk : 4 * k + 4 ≤ L) {uX : (Nat → Nat) × (Nat → Nat → Nat) × (Nat → Int) × Int} {uM : (Nat → Nat) × (Nat → Nat → Nat) × (Nat → Int) × Int64} (hU : zr_U k uX uM) (ih : ∀ (vX : (Nat → Nat) × (Nat → Nat → Nat) × (Nat → Int) × Int) (vM : (Nat → Nat) × (Nat → Nat → Nat) × (Nat → Int) × Int64), zr_U (k + 1) vX vM → ∀ (H : Heap) (locs : List Loc), va_P D vwCl (zy_w cI rX vX ++ zm_w cI cB rM vM) H → va_D (fun q : Nat => s.heap.size ≤ q) (zy_w cI rX vX ++ zm_w cI cB rM vM) → va_S (fun q : Nat => s.heap.size ≤ q) s.heap H locs → ∀ ls : Array Slot, lv_has ls 4 [(0, .ref b), (1, .ref (rX 1)), (2, .ref (rM 0)), (3, .int (nI (4 * k)))] → W p l e room_1 s m #[Value.ref b] below meth c H locs 34 292 (lw_Z below #[Value.ref b] s) (F0 m 802 ls [])) : ∀ (H : Heap) (locs : List Loc), va_P D vwCl (zy_w cI rX uX ++ zm_w cI cB rM uM) H → va_D (fun q : Nat => s.heap.size ≤ q) (zy_w cI rX uX ++ zm_w cI cB rM uM) → va_S (fun q : Nat => s.heap.size ≤ q) s.heap H locs → ∀ ls : Array Slot, lv_has ls 4 [(0, .ref b), (1, .ref (rX 1)), (2, .ref (rM 0)), (3, .int (nI (4 * k)))] → W p l e room_1 s m #[Value.ref b] below meth c H locs 34 292 (lw_Z below #[Value.ref b] s) (F0 m 663 ls []) := by
  intro H locs hP hD hS ls hl
  obtain ⟨hx, hb, hr, hml, hown, hts0, hX, hbl, hlocks, hgv⟩ := C0
  have hts : ∀ w ∈ wsL_law, w.before #[Value.ref b] s = true := fun w hw => hts0 w (wsL_law_in w hw)
  have hA : ∀ q : Nat, s.heap.size ≤ q → (fun q : Nat => s.heap.size ≤ q) q := fun _ h => h
  have hbA : ¬ (fun q : Nat => s.heap.size ≤ q) b := Nat.not_le.mpr hbl
  obtain ⟨sx, ax, zx, hx9⟩ := uX
  obtain ⟨sm, am, zm, hm9⟩ := uM
  have hR9 : zr_R k sx ax zx sm am zm := hU
  have cf : CallFix p m c cL_law 4 s #[Value.ref b] wsL_law RL := ⟨hx, hb, hml, hown, hts⟩
  have hin1 : vp_in (nI (4 * k + 1)) L := vp_in_nI (by omega) (by omega)
  have hin2 : vp_in (nI (4 * k + 2)) L := vp_in_nI (by omega) (by omega)
  have hin3 : vp_in (nI (4 * k + 3)) L := vp_in_nI (by omega) (by omega)
  refine lv_aload_n hx hb dL_law_663 rfl (lv_at hl 1 rfl) ?_
  refine lv_aload_n hx hb dL_law_664 rfl (lv_at hl 0 rfl) ?_
  refine lv_iload_n hx hb dL_law_665 rfl (lv_at hl 3 rfl) ?_
  refine lv_iconst (v := nI 1) hx hb dL_law_666 (by decide) ?_
  refine zx_iadd hx hb dL_law_667 ?_
  refine va_sld hx hb hX hbl hbA hS hin1 dL_law_668 ?_
  refine lv_aload_n hx hb dL_law_669 rfl (lv_at hl 0 rfl) ?_
  refine lv_iload_n hx hb dL_law_670 rfl (lv_at hl 3 rfl) ?_
  refine lv_iconst (v := nI 2) hx hb dL_law_671 (by decide) ?_
  refine zx_iadd hx hb dL_law_672 ?_
  refine va_sld hx hb hX hbl hbA hS hin2 dL_law_673 ?_
  refine zw_V (em := zx_ei) (As := [.int (xs (nI (4 * k + 1)).toNatClampNeg), .int (xs (nI (4 * k + 2)).toNatClampNeg)]) (rest := []) (W0 := zy_w cI rX (sx, ax, zx, hx9) ++ zm_w cI cB rM (sm, am, zm, hm9)) (wr := zm_w cI cB rM (sm, am, zm, hm9)) cf (c_X2_who l D cI cB rX sx ax zx hx9 (xs (nI (4 * k + 1)).toNatClampNeg) (xs (nI (4 * k + 2)).toNatClampNeg) hR9.2.2.1) (cwV 2 hts gL_law_X2_who rfl rfl rfl ⟨rfl, hd_X2_who⟩ ⟨Nat.le_of_ble_eq_true rfl, Nat.le_of_ble_eq_true rfl⟩) hK hN hP hD hS hA [0, 1, 2, 3, 4, 5, 6, 7, 8, 9, 10, 11, 12, 13, 14, 15, 16, 17] [18, 19, 20, 21, 22, 23, 24, 25, 26, 27, 28, 29, 30, 31, 32, 33] rfl rfl rfl rfl (by decide) 0 rfl rfl rfl hl.1 rfl (Nat.le_of_ble_eq_true rfl) dL_law_674 ⟨Nat.le_of_ble_eq_true rfl, Nat.le_of_ble_eq_true rfl⟩ (fun r1 vX H locs hq1 hP hD hS => ?_)
  refine W.eq (g2 := F0 m 677 ls [.int r1]) rfl ?_
  refine lv_aload_n hx hb dL_law_677 rfl (lv_at hl 2 rfl) ?_
  refine lv_aload_n hx hb dL_law_678 rfl (lv_at hl 0 rfl) ?_
  refine lv_iload_n hx hb dL_law_679 rfl (lv_at hl 3 rfl) ?_
  refine lv_iconst (v := nI 1) hx hb dL_law_680 (by decide) ?_
  refine zx_iadd hx hb dL_law_681 ?_
  refine va_sld hx hb hX hbl hbA hS hin1 dL_law_682 ?_
  refine lv_aload_n hx hb dL_law_683 rfl (lv_at hl 0 rfl) ?_
  refine lv_iload_n hx hb dL_law_684 rfl (lv_at hl 3 rfl) ?_
  refine lv_iconst (v := nI 2) hx hb dL_law_685 (by decide) ?_
  refine zx_iadd hx hb dL_law_686 ?_
  refine va_sld hx hb hX hbl hbA hS hin2 dL_law_687 ?_
  refine zw_V (em := zx_ei) (As := [.int (xs (nI (4 * k + 1)).toNatClampNeg), .int (xs (nI (4 * k + 2)).toNatClampNeg)]) (rest := [.int r1]) (W0 := zm_w cI cB rM (sm, am, zm, hm9) ++ zy_w cI rX vX) (wr := zy_w cI rX vX) cf (c_X3_who l D cI cB rM sm am zm hm9 (xs (nI (4 * k + 1)).toNatClampNeg) (xs (nI (4 * k + 2)).toNatClampNeg) hR9.2.2.2.1) (cwV 2 hts gL_law_X3_who rfl rfl rfl ⟨rfl, hd_X3_who⟩ ⟨Nat.le_of_ble_eq_true rfl, Nat.le_of_ble_eq_true rfl⟩) hK hN hP hD hS hA [0, 1, 2, 3, 4, 5, 6, 7, 8, 9, 10, 11, 12, 13, 14, 15] [16, 17, 18, 19, 20, 21, 22, 23, 24, 25, 26, 27, 28, 29, 30, 31, 32, 33] rfl rfl rfl rfl (by decide) 0 rfl rfl rfl hl.1 rfl (Nat.le_of_ble_eq_true rfl) dL_law_688 ⟨Nat.le_of_ble_eq_true rfl, Nat.le_of_ble_eq_true rfl⟩ (fun r2 vM H locs hq2 hP hD hS => ?_)
  refine W.eq (g2 := F0 m 691 ls [.int r2, .int r1]) rfl ?_
  obtain ⟨he, hv⟩ := zr_s_who hR9 hq1 hq2
  subst he
  refine lv_icmp_eq (tgt := 802) hx hb dL_law_691 (by decide) (fun _ => ?_) (fun c9 => absurd rfl c9)
  exact ih vX vM hv H locs hP hD hS ls hl
set_option maxHeartbeats 8000000 in
set_option maxRecDepth 100000 in
theorem lw_k18 {p : Program} {l : Launch} {e : Env} {s : State} {m : MethodId} {below : List Frame} {meth : Method} {c : Code} {b L : Nat} {xs : Nat → Int32} (hL : L ≤ 256) (C0 : lw_At p s m meth c b L xs) {D : va_G} {cI cB : ClassId} {rX rM : Nat → Nat} (hK : va_K D vwCl (zm_t cI cB) s) (hN : zx_N s) {k : Nat} (hk : 4 * k + 4 ≤ L) {uX : (Nat → Nat) × (Nat → Nat → Nat) × (Nat → Int) × Int} {uM : (Nat → Nat) × (Nat → Nat → Nat) × (Nat → Int) × Int64} (hU : zr_U k uX uM) (ih : ∀ (vX : (Nat → Nat) × (Nat → Nat → Nat) × (Nat → Int) × Int) (vM : (Nat → Nat) × (Nat → Nat → Nat) × (Nat → Int) × Int64), zr_U (k + 1) vX vM → ∀ (H : Heap) (locs : List Loc), va_P D vwCl (zy_w cI rX vX ++ zm_w cI cB rM vM) H → va_D (fun q : Nat => s.heap.size ≤ q) (zy_w cI rX vX ++ zm_w cI cB rM vM) → va_S (fun q : Nat => s.heap.size ≤ q) s.heap H locs → ∀ ls : Array Slot, lv_has ls 4 [(0, .ref b), (1, .ref (rX 1)), (2, .ref (rM 0)), (3, .int (nI (4 * k)))] → W p l e room_1 s m #[Value.ref b] below meth c H locs 34 292 (lw_Z below #[Value.ref b] s) (F0 m 802 ls [])) : ∀ (H : Heap) (locs : List Loc), va_P D vwCl (zy_w cI rX uX ++ zm_w cI cB rM uM) H → va_D (fun q : Nat => s.heap.size ≤ q) (zy_w cI rX uX ++ zm_w cI cB rM uM) → va_S (fun q : Nat => s.heap.size ≤ q) s.heap H locs → ∀ ls : Array Slot, lv_has ls 4 [(0, .ref b), (1, .ref (rX 1)), (2, .ref (rM 0)), (3, .int (nI (4 * k)))] → W p l e room_1 s m #[Value.ref b] below meth c H locs 34 292 (lw_Z below #[Value.ref b] s) (F0 m 696 ls []) := by
  intro H locs hP hD hS ls hl
  obtain ⟨hx, hb, hr, hml, hown, hts0, hX, hbl, hlocks, hgv⟩ := C0
  have hts : ∀ w ∈ wsL_law, w.before #[Value.ref b] s = true := fun w hw => hts0 w (wsL_law_in w hw)
  have hA : ∀ q : Nat, s.heap.size ≤ q → (fun q : Nat => s.heap.size ≤ q) q := fun _ h => h
  have hbA : ¬ (fun q : Nat => s.heap.size ≤ q) b := Nat.not_le.mpr hbl
  obtain ⟨sx, ax, zx, hx9⟩ := uX
  obtain ⟨sm, am, zm, hm9⟩ := uM
  have hR9 : zr_R k sx ax zx sm am zm := hU
  have cf : CallFix p m c cL_law 4 s #[Value.ref b] wsL_law RL := ⟨hx, hb, hml, hown, hts⟩
  have hin1 : vp_in (nI (4 * k + 1)) L := vp_in_nI (by omega) (by omega)
  have hin2 : vp_in (nI (4 * k + 2)) L := vp_in_nI (by omega) (by omega)
  have hin3 : vp_in (nI (4 * k + 3)) L := vp_in_nI (by omega) (by omega)
  refine lv_aload_n hx hb dL_law_696 rfl (lv_at hl 1 rfl) ?_
  refine lv_aload_n hx hb dL_law_697 rfl (lv_at hl 0 rfl) ?_
  refine lv_iload_n hx hb dL_law_698 rfl (lv_at hl 3 rfl) ?_
  refine lv_iconst (v := nI 1) hx hb dL_law_699 (by decide) ?_
  refine zx_iadd hx hb dL_law_700 ?_
  refine va_sld hx hb hX hbl hbA hS hin1 dL_law_701 ?_
  refine lv_aload_n hx hb dL_law_702 rfl (lv_at hl 0 rfl) ?_
  refine lv_iload_n hx hb dL_law_703 rfl (lv_at hl 3 rfl) ?_
  refine lv_iconst (v := nI 2) hx hb dL_law_704 (by decide) ?_
  refine zx_iadd hx hb dL_law_705 ?_
  refine va_sld hx hb hX hbl hbA hS hin2 dL_law_706 ?_
  refine lv_aload_n hx hb dL_law_707 rfl (lv_at hl 0 rfl) ?_
  refine lv_iload_n hx hb dL_law_708 rfl (lv_at hl 3 rfl) ?_
  refine lv_iconst (v := nI 3) hx hb dL_law_709 (by decide) ?_
  refine zx_iadd hx hb dL_law_710 ?_
  refine va_sld hx hb hX hbl hbA hS hin3 dL_law_711 ?_
  refine zw_V (em := zx_ei) (As := [.int (xs (nI (4 * k + 1)).toNatClampNeg), .int (xs (nI (4 * k + 2)).toNatClampNeg), .int (xs (nI (4 * k + 3)).toNatClampNeg)]) (rest := []) (W0 := zy_w cI rX (sx, ax, zx, hx9) ++ zm_w cI cB rM (sm, am, zm, hm9)) (wr := zm_w cI cB rM (sm, am, zm, hm9)) cf (c_X2_weeks l D cI cB rX sx ax zx hx9 (xs (nI (4 * k + 1)).toNatClampNeg) (xs (nI (4 * k + 2)).toNatClampNeg) (xs (nI (4 * k + 3)).toNatClampNeg) hR9.2.2.1) (cwV 3 hts gL_law_X2_weeks rfl rfl rfl ⟨rfl, hd_X2_weeks⟩ ⟨Nat.le_of_ble_eq_true rfl, Nat.le_of_ble_eq_true rfl⟩) hK hN hP hD hS hA [0, 1, 2, 3, 4, 5, 6, 7, 8, 9, 10, 11, 12, 13, 14, 15, 16, 17] [18, 19, 20, 21, 22, 23, 24, 25, 26, 27, 28, 29, 30, 31, 32, 33] rfl rfl rfl rfl (by decide) 0 rfl rfl rfl hl.1 rfl (Nat.le_of_ble_eq_true rfl) dL_law_712 ⟨Nat.le_of_ble_eq_true rfl, Nat.le_of_ble_eq_true rfl⟩ (fun r1 vX H locs hq1 hP hD hS => ?_)
  refine W.eq (g2 := F0 m 715 ls [.int r1]) rfl ?_
  refine lv_aload_n hx hb dL_law_715 rfl (lv_at hl 2 rfl) ?_
  refine lv_aload_n hx hb dL_law_716 rfl (lv_at hl 0 rfl) ?_
  refine lv_iload_n hx hb dL_law_717 rfl (lv_at hl 3 rfl) ?_
  refine lv_iconst (v := nI 1) hx hb dL_law_718 (by decide) ?_
  refine zx_iadd hx hb dL_law_719 ?_
  refine va_sld hx hb hX hbl hbA hS hin1 dL_law_720 ?_
  refine lv_aload_n hx hb dL_law_721 rfl (lv_at hl 0 rfl) ?_
  refine lv_iload_n hx hb dL_law_722 rfl (lv_at hl 3 rfl) ?_
  refine lv_iconst (v := nI 2) hx hb dL_law_723 (by decide) ?_
  refine zx_iadd hx hb dL_law_724 ?_
  refine va_sld hx hb hX hbl hbA hS hin2 dL_law_725 ?_
  refine lv_aload_n hx hb dL_law_726 rfl (lv_at hl 0 rfl) ?_
  refine lv_iload_n hx hb dL_law_727 rfl (lv_at hl 3 rfl) ?_
  refine lv_iconst (v := nI 3) hx hb dL_law_728 (by decide) ?_
  refine zx_iadd hx hb dL_law_729 ?_
  refine va_sld hx hb hX hbl hbA hS hin3 dL_law_730 ?_
  refine zw_V (em := zx_ei) (As := [.int (xs (nI (4 * k + 1)).toNatClampNeg), .int (xs (nI (4 * k + 2)).toNatClampNeg), .int (xs (nI (4 * k + 3)).toNatClampNeg)]) (rest := [.int r1]) (W0 := zm_w cI cB rM (sm, am, zm, hm9) ++ zy_w cI rX vX) (wr := zy_w cI rX vX) cf (c_X3_weeks l D cI cB rM sm am zm hm9 (xs (nI (4 * k + 1)).toNatClampNeg) (xs (nI (4 * k + 2)).toNatClampNeg) (xs (nI (4 * k + 3)).toNatClampNeg) hR9.2.2.2.1) (cwV 3 hts gL_law_X3_weeks rfl rfl rfl ⟨rfl, hd_X3_weeks⟩ ⟨Nat.le_of_ble_eq_true rfl, Nat.le_of_ble_eq_true rfl⟩) hK hN hP hD hS hA [0, 1, 2, 3, 4, 5, 6, 7, 8, 9, 10, 11, 12, 13, 14, 15] [16, 17, 18, 19, 20, 21, 22, 23, 24, 25, 26, 27, 28, 29, 30, 31, 32, 33] rfl rfl rfl rfl (by decide) 0 rfl rfl rfl hl.1 rfl (Nat.le_of_ble_eq_true rfl) dL_law_731 ⟨Nat.le_of_ble_eq_true rfl, Nat.le_of_ble_eq_true rfl⟩ (fun r2 vM H locs hq2 hP hD hS => ?_)
  refine W.eq (g2 := F0 m 734 ls [.int r2, .int r1]) rfl ?_
  obtain ⟨he, hv⟩ := zr_s_weeks hR9 hq1 hq2
  subst he
  refine lv_icmp_eq (tgt := 802) hx hb dL_law_734 (by decide) (fun _ => ?_) (fun c9 => absurd rfl c9)
  exact ih vX vM hv H locs hP hD hS ls hl
set_option maxHeartbeats 8000000 in
set_option maxRecDepth 100000 in
theorem lw_k19 {p : Program} {l : Launch} {e : Env} {s : State} {m : MethodId} {below : List Frame} {meth : Method} {c : Code} {b L : Nat} {xs : Nat → Int32} (hL : L ≤ 256) (C0 : lw_At p s m meth c b L xs) {D : va_G} {cI cB : ClassId} {rX rM : Nat → Nat} (hK : va_K D vwCl (zm_t cI cB) s) (hN : zx_N s) {k : Nat} (hk : 4 * k + 4 ≤ L) {uX : (Nat → Nat) × (Nat → Nat → Nat) × (Nat → Int) × Int} {uM : (Nat → Nat) × (Nat → Nat → Nat) × (Nat → Int) × Int64} (hU : zr_U k uX uM) (ih : ∀ (vX : (Nat → Nat) × (Nat → Nat → Nat) × (Nat → Int) × Int) (vM : (Nat → Nat) × (Nat → Nat → Nat) × (Nat → Int) × Int64), zr_U (k + 1) vX vM → ∀ (H : Heap) (locs : List Loc), va_P D vwCl (zy_w cI rX vX ++ zm_w cI cB rM vM) H → va_D (fun q : Nat => s.heap.size ≤ q) (zy_w cI rX vX ++ zm_w cI cB rM vM) → va_S (fun q : Nat => s.heap.size ≤ q) s.heap H locs → ∀ ls : Array Slot, lv_has ls 4 [(0, .ref b), (1, .ref (rX 1)), (2, .ref (rM 0)), (3, .int (nI (4 * k)))] → W p l e room_1 s m #[Value.ref b] below meth c H locs 34 292 (lw_Z below #[Value.ref b] s) (F0 m 802 ls [])) : ∀ (H : Heap) (locs : List Loc), va_P D vwCl (zy_w cI rX uX ++ zm_w cI cB rM uM) H → va_D (fun q : Nat => s.heap.size ≤ q) (zy_w cI rX uX ++ zm_w cI cB rM uM) → va_S (fun q : Nat => s.heap.size ≤ q) s.heap H locs → ∀ ls : Array Slot, lv_has ls 4 [(0, .ref b), (1, .ref (rX 1)), (2, .ref (rM 0)), (3, .int (nI (4 * k)))] → W p l e room_1 s m #[Value.ref b] below meth c H locs 34 292 (lw_Z below #[Value.ref b] s) (F0 m 739 ls []) := by
  intro H locs hP hD hS ls hl
  obtain ⟨hx, hb, hr, hml, hown, hts0, hX, hbl, hlocks, hgv⟩ := C0
  have hts : ∀ w ∈ wsL_law, w.before #[Value.ref b] s = true := fun w hw => hts0 w (wsL_law_in w hw)
  have hA : ∀ q : Nat, s.heap.size ≤ q → (fun q : Nat => s.heap.size ≤ q) q := fun _ h => h
  have hbA : ¬ (fun q : Nat => s.heap.size ≤ q) b := Nat.not_le.mpr hbl
  obtain ⟨sx, ax, zx, hx9⟩ := uX
  obtain ⟨sm, am, zm, hm9⟩ := uM
  have hR9 : zr_R k sx ax zx sm am zm := hU
  have cf : CallFix p m c cL_law 4 s #[Value.ref b] wsL_law RL := ⟨hx, hb, hml, hown, hts⟩
  have hin1 : vp_in (nI (4 * k + 1)) L := vp_in_nI (by omega) (by omega)
  have hin2 : vp_in (nI (4 * k + 2)) L := vp_in_nI (by omega) (by omega)
  have hin3 : vp_in (nI (4 * k + 3)) L := vp_in_nI (by omega) (by omega)
  refine lv_aload_n hx hb dL_law_739 rfl (lv_at hl 1 rfl) ?_
  refine zw_V (em := zx_ei) (As := []) (rest := []) (W0 := zy_w cI rX (sx, ax, zx, hx9) ++ zm_w cI cB rM (sm, am, zm, hm9)) (wr := zm_w cI cB rM (sm, am, zm, hm9)) cf (c_X2_image l D cI cB rX sx ax zx hx9  hR9.2.2.1) (cwV 0 hts gL_law_X2_image rfl rfl rfl ⟨rfl, hd_X2_image⟩ ⟨Nat.le_of_ble_eq_true rfl, Nat.le_of_ble_eq_true rfl⟩) hK hN hP hD hS hA [0, 1, 2, 3, 4, 5, 6, 7, 8, 9, 10, 11, 12, 13, 14, 15, 16, 17] [18, 19, 20, 21, 22, 23, 24, 25, 26, 27, 28, 29, 30, 31, 32, 33] rfl rfl rfl rfl (by decide) 0 rfl rfl rfl hl.1 rfl (Nat.le_of_ble_eq_true rfl) dL_law_740 ⟨Nat.le_of_ble_eq_true rfl, Nat.le_of_ble_eq_true rfl⟩ (fun r1 vX H locs hq1 hP hD hS => ?_)
  refine W.eq (g2 := F0 m 743 ls [.int r1]) rfl ?_
  refine lv_aload_n hx hb dL_law_743 rfl (lv_at hl 2 rfl) ?_
  refine zw_V (em := zx_ei) (As := []) (rest := [.int r1]) (W0 := zm_w cI cB rM (sm, am, zm, hm9) ++ zy_w cI rX vX) (wr := zy_w cI rX vX) cf (c_X3_image l D cI cB rM sm am zm hm9  hR9.2.2.2.1) (cwV 0 hts gL_law_X3_image rfl rfl rfl ⟨rfl, hd_X3_image⟩ ⟨Nat.le_of_ble_eq_true rfl, Nat.le_of_ble_eq_true rfl⟩) hK hN hP hD hS hA [0, 1, 2, 3, 4, 5, 6, 7, 8, 9, 10, 11, 12, 13, 14, 15] [16, 17, 18, 19, 20, 21, 22, 23, 24, 25, 26, 27, 28, 29, 30, 31, 32, 33] rfl rfl rfl rfl (by decide) 0 rfl rfl rfl hl.1 rfl (Nat.le_of_ble_eq_true rfl) dL_law_744 ⟨Nat.le_of_ble_eq_true rfl, Nat.le_of_ble_eq_true rfl⟩ (fun r2 vM H locs hq2 hP hD hS => ?_)
  refine W.eq (g2 := F0 m 747 ls [.int r2, .int r1]) rfl ?_
  obtain ⟨he, hv⟩ := zr_s_image hR9 hq1 hq2
  subst he
  refine lv_icmp_eq (tgt := 802) hx hb dL_law_747 (by decide) (fun _ => ?_) (fun c9 => absurd rfl c9)
  exact ih vX vM hv H locs hP hD hS ls hl
set_option maxHeartbeats 8000000 in
set_option maxRecDepth 100000 in
theorem lw_k20 {p : Program} {l : Launch} {e : Env} {s : State} {m : MethodId} {below : List Frame} {meth : Method} {c : Code} {b L : Nat} {xs : Nat → Int32} (hL : L ≤ 256) (C0 : lw_At p s m meth c b L xs) {D : va_G} {cI cB : ClassId} {rX rM : Nat → Nat} (hK : va_K D vwCl (zm_t cI cB) s) (hN : zx_N s) {k : Nat} (hk : 4 * k + 4 ≤ L) {uX : (Nat → Nat) × (Nat → Nat → Nat) × (Nat → Int) × Int} {uM : (Nat → Nat) × (Nat → Nat → Nat) × (Nat → Int) × Int64} (hU : zr_U k uX uM) (ih : ∀ (vX : (Nat → Nat) × (Nat → Nat → Nat) × (Nat → Int) × Int) (vM : (Nat → Nat) × (Nat → Nat → Nat) × (Nat → Int) × Int64), zr_U (k + 1) vX vM → ∀ (H : Heap) (locs : List Loc), va_P D vwCl (zy_w cI rX vX ++ zm_w cI cB rM vM) H → va_D (fun q : Nat => s.heap.size ≤ q) (zy_w cI rX vX ++ zm_w cI cB rM vM) → va_S (fun q : Nat => s.heap.size ≤ q) s.heap H locs → ∀ ls : Array Slot, lv_has ls 4 [(0, .ref b), (1, .ref (rX 1)), (2, .ref (rM 0)), (3, .int (nI (4 * k)))] → W p l e room_1 s m #[Value.ref b] below meth c H locs 34 292 (lw_Z below #[Value.ref b] s) (F0 m 802 ls [])) : ∀ (H : Heap) (locs : List Loc), va_P D vwCl (zy_w cI rX uX ++ zm_w cI cB rM uM) H → va_D (fun q : Nat => s.heap.size ≤ q) (zy_w cI rX uX ++ zm_w cI cB rM uM) → va_S (fun q : Nat => s.heap.size ≤ q) s.heap H locs → ∀ ls : Array Slot, lv_has ls 4 [(0, .ref b), (1, .ref (rX 1)), (2, .ref (rM 0)), (3, .int (nI (4 * k)))] → W p l e room_1 s m #[Value.ref b] below meth c H locs 34 292 (lw_Z below #[Value.ref b] s) (F0 m 752 ls []) := by
  intro H locs hP hD hS ls hl
  obtain ⟨hx, hb, hr, hml, hown, hts0, hX, hbl, hlocks, hgv⟩ := C0
  have hts : ∀ w ∈ wsL_law, w.before #[Value.ref b] s = true := fun w hw => hts0 w (wsL_law_in w hw)
  have hA : ∀ q : Nat, s.heap.size ≤ q → (fun q : Nat => s.heap.size ≤ q) q := fun _ h => h
  have hbA : ¬ (fun q : Nat => s.heap.size ≤ q) b := Nat.not_le.mpr hbl
  obtain ⟨sx, ax, zx, hx9⟩ := uX
  obtain ⟨sm, am, zm, hm9⟩ := uM
  have hR9 : zr_R k sx ax zx sm am zm := hU
  have cf : CallFix p m c cL_law 4 s #[Value.ref b] wsL_law RL := ⟨hx, hb, hml, hown, hts⟩
  have hin1 : vp_in (nI (4 * k + 1)) L := vp_in_nI (by omega) (by omega)
  have hin2 : vp_in (nI (4 * k + 2)) L := vp_in_nI (by omega) (by omega)
  have hin3 : vp_in (nI (4 * k + 3)) L := vp_in_nI (by omega) (by omega)
  refine lv_aload_n hx hb dL_law_752 rfl (lv_at hl 1 rfl) ?_
  refine zw_V (em := zx_ei) (As := []) (rest := []) (W0 := zy_w cI rX (sx, ax, zx, hx9) ++ zm_w cI cB rM (sm, am, zm, hm9)) (wr := zm_w cI cB rM (sm, am, zm, hm9)) cf (c_X2_restore l D cI cB rX sx ax zx hx9  hR9.2.2.1) (cwV 0 hts gL_law_X2_restore rfl rfl rfl ⟨rfl, hd_X2_restore⟩ ⟨Nat.le_of_ble_eq_true rfl, Nat.le_of_ble_eq_true rfl⟩) hK hN hP hD hS hA [0, 1, 2, 3, 4, 5, 6, 7, 8, 9, 10, 11, 12, 13, 14, 15, 16, 17] [18, 19, 20, 21, 22, 23, 24, 25, 26, 27, 28, 29, 30, 31, 32, 33] rfl rfl rfl rfl (by decide) 0 rfl rfl rfl hl.1 rfl (Nat.le_of_ble_eq_true rfl) dL_law_753 ⟨Nat.le_of_ble_eq_true rfl, Nat.le_of_ble_eq_true rfl⟩ (fun r1 vX H locs hq1 hP hD hS => ?_)
  refine W.eq (g2 := F0 m 756 ls [.int r1]) rfl ?_
  refine lv_aload_n hx hb dL_law_756 rfl (lv_at hl 2 rfl) ?_
  refine zw_V (em := zx_ei) (As := []) (rest := [.int r1]) (W0 := zm_w cI cB rM (sm, am, zm, hm9) ++ zy_w cI rX vX) (wr := zy_w cI rX vX) cf (c_X3_restore l D cI cB rM sm am zm hm9  hR9.2.2.2.1) (cwV 0 hts gL_law_X3_restore rfl rfl rfl ⟨rfl, hd_X3_restore⟩ ⟨Nat.le_of_ble_eq_true rfl, Nat.le_of_ble_eq_true rfl⟩) hK hN hP hD hS hA [0, 1, 2, 3, 4, 5, 6, 7, 8, 9, 10, 11, 12, 13, 14, 15] [16, 17, 18, 19, 20, 21, 22, 23, 24, 25, 26, 27, 28, 29, 30, 31, 32, 33] rfl rfl rfl rfl (by decide) 0 rfl rfl rfl hl.1 rfl (Nat.le_of_ble_eq_true rfl) dL_law_757 ⟨Nat.le_of_ble_eq_true rfl, Nat.le_of_ble_eq_true rfl⟩ (fun r2 vM H locs hq2 hP hD hS => ?_)
  refine W.eq (g2 := F0 m 760 ls [.int r2, .int r1]) rfl ?_
  obtain ⟨he, hv⟩ := zr_s_restore hR9 hq1 hq2
  subst he
  refine lv_icmp_eq (tgt := 802) hx hb dL_law_760 (by decide) (fun _ => ?_) (fun c9 => absurd rfl c9)
  exact ih vX vM hv H locs hP hD hS ls hl
set_option maxHeartbeats 8000000 in
set_option maxRecDepth 100000 in
theorem lw_k21 {p : Program} {l : Launch} {e : Env} {s : State} {m : MethodId} {below : List Frame} {meth : Method} {c : Code} {b L : Nat} {xs : Nat → Int32} (hL : L ≤ 256) (C0 : lw_At p s m meth c b L xs) {D : va_G} {cI cB : ClassId} {rX rM : Nat → Nat} (hK : va_K D vwCl (zm_t cI cB) s) (hN : zx_N s) {k : Nat} (hk : 4 * k + 4 ≤ L) {uX : (Nat → Nat) × (Nat → Nat → Nat) × (Nat → Int) × Int} {uM : (Nat → Nat) × (Nat → Nat → Nat) × (Nat → Int) × Int64} (hU : zr_U k uX uM) (ih : ∀ (vX : (Nat → Nat) × (Nat → Nat → Nat) × (Nat → Int) × Int) (vM : (Nat → Nat) × (Nat → Nat → Nat) × (Nat → Int) × Int64), zr_U (k + 1) vX vM → ∀ (H : Heap) (locs : List Loc), va_P D vwCl (zy_w cI rX vX ++ zm_w cI cB rM vM) H → va_D (fun q : Nat => s.heap.size ≤ q) (zy_w cI rX vX ++ zm_w cI cB rM vM) → va_S (fun q : Nat => s.heap.size ≤ q) s.heap H locs → ∀ ls : Array Slot, lv_has ls 4 [(0, .ref b), (1, .ref (rX 1)), (2, .ref (rM 0)), (3, .int (nI (4 * k)))] → W p l e room_1 s m #[Value.ref b] below meth c H locs 34 292 (lw_Z below #[Value.ref b] s) (F0 m 802 ls [])) : ∀ (H : Heap) (locs : List Loc), va_P D vwCl (zy_w cI rX uX ++ zm_w cI cB rM uM) H → va_D (fun q : Nat => s.heap.size ≤ q) (zy_w cI rX uX ++ zm_w cI cB rM uM) → va_S (fun q : Nat => s.heap.size ≤ q) s.heap H locs → ∀ ls : Array Slot, lv_has ls 4 [(0, .ref b), (1, .ref (rX 1)), (2, .ref (rM 0)), (3, .int (nI (4 * k)))] → W p l e room_1 s m #[Value.ref b] below meth c H locs 34 292 (lw_Z below #[Value.ref b] s) (F0 m 765 ls []) := by
  intro H locs hP hD hS ls hl
  obtain ⟨hx, hb, hr, hml, hown, hts0, hX, hbl, hlocks, hgv⟩ := C0
  have hts : ∀ w ∈ wsL_law, w.before #[Value.ref b] s = true := fun w hw => hts0 w (wsL_law_in w hw)
  have hA : ∀ q : Nat, s.heap.size ≤ q → (fun q : Nat => s.heap.size ≤ q) q := fun _ h => h
  have hbA : ¬ (fun q : Nat => s.heap.size ≤ q) b := Nat.not_le.mpr hbl
  obtain ⟨sx, ax, zx, hx9⟩ := uX
  obtain ⟨sm, am, zm, hm9⟩ := uM
  have hR9 : zr_R k sx ax zx sm am zm := hU
  have cf : CallFix p m c cL_law 4 s #[Value.ref b] wsL_law RL := ⟨hx, hb, hml, hown, hts⟩
  have hin1 : vp_in (nI (4 * k + 1)) L := vp_in_nI (by omega) (by omega)
  have hin2 : vp_in (nI (4 * k + 2)) L := vp_in_nI (by omega) (by omega)
  have hin3 : vp_in (nI (4 * k + 3)) L := vp_in_nI (by omega) (by omega)
  refine lv_aload_n hx hb dL_law_765 rfl (lv_at hl 1 rfl) ?_
  refine lv_aload_n hx hb dL_law_766 rfl (lv_at hl 0 rfl) ?_
  refine lv_iload_n hx hb dL_law_767 rfl (lv_at hl 3 rfl) ?_
  refine lv_iconst (v := nI 1) hx hb dL_law_768 (by decide) ?_
  refine zx_iadd hx hb dL_law_769 ?_
  refine va_sld hx hb hX hbl hbA hS hin1 dL_law_770 ?_
  refine zw_V (em := zx_ei) (As := [.int (xs (nI (4 * k + 1)).toNatClampNeg)]) (rest := []) (W0 := zy_w cI rX (sx, ax, zx, hx9) ++ zm_w cI cB rM (sm, am, zm, hm9)) (wr := zm_w cI cB rM (sm, am, zm, hm9)) cf (c_X2_count l D cI cB rX sx ax zx hx9 (xs (nI (4 * k + 1)).toNatClampNeg) hR9.2.2.1) (cwV 1 hts gL_law_X2_count rfl rfl rfl ⟨rfl, hd_X2_count⟩ ⟨Nat.le_of_ble_eq_true rfl, Nat.le_of_ble_eq_true rfl⟩) hK hN hP hD hS hA [0, 1, 2, 3, 4, 5, 6, 7, 8, 9, 10, 11, 12, 13, 14, 15, 16, 17] [18, 19, 20, 21, 22, 23, 24, 25, 26, 27, 28, 29, 30, 31, 32, 33] rfl rfl rfl rfl (by decide) 0 rfl rfl rfl hl.1 rfl (Nat.le_of_ble_eq_true rfl) dL_law_771 ⟨Nat.le_of_ble_eq_true rfl, Nat.le_of_ble_eq_true rfl⟩ (fun r1 vX H locs hq1 hP hD hS => ?_)
  refine W.eq (g2 := F0 m 774 ls [.int r1]) rfl ?_
  refine lv_aload_n hx hb dL_law_774 rfl (lv_at hl 2 rfl) ?_
  refine lv_aload_n hx hb dL_law_775 rfl (lv_at hl 0 rfl) ?_
  refine lv_iload_n hx hb dL_law_776 rfl (lv_at hl 3 rfl) ?_
  refine lv_iconst (v := nI 1) hx hb dL_law_777 (by decide) ?_
  refine zx_iadd hx hb dL_law_778 ?_
  refine va_sld hx hb hX hbl hbA hS hin1 dL_law_779 ?_
  refine zw_V (em := zx_ei) (As := [.int (xs (nI (4 * k + 1)).toNatClampNeg)]) (rest := [.int r1]) (W0 := zm_w cI cB rM (sm, am, zm, hm9) ++ zy_w cI rX vX) (wr := zy_w cI rX vX) cf (c_X3_count l D cI cB rM sm am zm hm9 (xs (nI (4 * k + 1)).toNatClampNeg) hR9.2.2.2.1) (cwV 1 hts gL_law_X3_count rfl rfl rfl ⟨rfl, hd_X3_count⟩ ⟨Nat.le_of_ble_eq_true rfl, Nat.le_of_ble_eq_true rfl⟩) hK hN hP hD hS hA [0, 1, 2, 3, 4, 5, 6, 7, 8, 9, 10, 11, 12, 13, 14, 15] [16, 17, 18, 19, 20, 21, 22, 23, 24, 25, 26, 27, 28, 29, 30, 31, 32, 33] rfl rfl rfl rfl (by decide) 0 rfl rfl rfl hl.1 rfl (Nat.le_of_ble_eq_true rfl) dL_law_780 ⟨Nat.le_of_ble_eq_true rfl, Nat.le_of_ble_eq_true rfl⟩ (fun r2 vM H locs hq2 hP hD hS => ?_)
  refine W.eq (g2 := F0 m 783 ls [.int r2, .int r1]) rfl ?_
  obtain ⟨he, hv⟩ := zr_s_count hR9 hq1 hq2
  subst he
  refine lv_icmp_eq (tgt := 802) hx hb dL_law_783 (by decide) (fun _ => ?_) (fun c9 => absurd rfl c9)
  exact ih vX vM hv H locs hP hD hS ls hl
set_option maxHeartbeats 8000000 in
set_option maxRecDepth 100000 in
theorem lw_k22 {p : Program} {l : Launch} {e : Env} {s : State} {m : MethodId} {below : List Frame} {meth : Method} {c : Code} {b L : Nat} {xs : Nat → Int32} (hL : L ≤ 256) (C0 : lw_At p s m meth c b L xs) {D : va_G} {cI cB : ClassId} {rX rM : Nat → Nat} (hK : va_K D vwCl (zm_t cI cB) s) (hN : zx_N s) {k : Nat} (hk : 4 * k + 4 ≤ L) {uX : (Nat → Nat) × (Nat → Nat → Nat) × (Nat → Int) × Int} {uM : (Nat → Nat) × (Nat → Nat → Nat) × (Nat → Int) × Int64} (hU : zr_U k uX uM) (ih : ∀ (vX : (Nat → Nat) × (Nat → Nat → Nat) × (Nat → Int) × Int) (vM : (Nat → Nat) × (Nat → Nat → Nat) × (Nat → Int) × Int64), zr_U (k + 1) vX vM → ∀ (H : Heap) (locs : List Loc), va_P D vwCl (zy_w cI rX vX ++ zm_w cI cB rM vM) H → va_D (fun q : Nat => s.heap.size ≤ q) (zy_w cI rX vX ++ zm_w cI cB rM vM) → va_S (fun q : Nat => s.heap.size ≤ q) s.heap H locs → ∀ ls : Array Slot, lv_has ls 4 [(0, .ref b), (1, .ref (rX 1)), (2, .ref (rM 0)), (3, .int (nI (4 * k)))] → W p l e room_1 s m #[Value.ref b] below meth c H locs 34 292 (lw_Z below #[Value.ref b] s) (F0 m 802 ls [])) : ∀ (H : Heap) (locs : List Loc), va_P D vwCl (zy_w cI rX uX ++ zm_w cI cB rM uM) H → va_D (fun q : Nat => s.heap.size ≤ q) (zy_w cI rX uX ++ zm_w cI cB rM uM) → va_S (fun q : Nat => s.heap.size ≤ q) s.heap H locs → ∀ ls : Array Slot, lv_has ls 4 [(0, .ref b), (1, .ref (rX 1)), (2, .ref (rM 0)), (3, .int (nI (4 * k)))] → W p l e room_1 s m #[Value.ref b] below meth c H locs 34 292 (lw_Z below #[Value.ref b] s) (F0 m 788 ls []) := by
  intro H locs hP hD hS ls hl
  obtain ⟨hx, hb, hr, hml, hown, hts0, hX, hbl, hlocks, hgv⟩ := C0
  have hts : ∀ w ∈ wsL_law, w.before #[Value.ref b] s = true := fun w hw => hts0 w (wsL_law_in w hw)
  have hA : ∀ q : Nat, s.heap.size ≤ q → (fun q : Nat => s.heap.size ≤ q) q := fun _ h => h
  have hbA : ¬ (fun q : Nat => s.heap.size ≤ q) b := Nat.not_le.mpr hbl
  obtain ⟨sx, ax, zx, hx9⟩ := uX
  obtain ⟨sm, am, zm, hm9⟩ := uM
  have hR9 : zr_R k sx ax zx sm am zm := hU
  have cf : CallFix p m c cL_law 4 s #[Value.ref b] wsL_law RL := ⟨hx, hb, hml, hown, hts⟩
  have hin1 : vp_in (nI (4 * k + 1)) L := vp_in_nI (by omega) (by omega)
  have hin2 : vp_in (nI (4 * k + 2)) L := vp_in_nI (by omega) (by omega)
  have hin3 : vp_in (nI (4 * k + 3)) L := vp_in_nI (by omega) (by omega)
  refine lv_aload_n hx hb dL_law_788 rfl (lv_at hl 1 rfl) ?_
  refine zw_V (em := zx_el) (As := []) (rest := []) (W0 := zy_w cI rX (sx, ax, zx, hx9) ++ zm_w cI cB rM (sm, am, zm, hm9)) (wr := zm_w cI cB rM (sm, am, zm, hm9)) cf (c_X2_digest l D cI cB rX sx ax zx hx9  hR9.2.2.1) (cwV 0 hts gL_law_X2_digest rfl rfl rfl ⟨rfl, hd_X2_digest⟩ ⟨Nat.le_of_ble_eq_true rfl, Nat.le_of_ble_eq_true rfl⟩) hK hN hP hD hS hA [0, 1, 2, 3, 4, 5, 6, 7, 8, 9, 10, 11, 12, 13, 14, 15, 16, 17] [18, 19, 20, 21, 22, 23, 24, 25, 26, 27, 28, 29, 30, 31, 32, 33] rfl rfl rfl rfl (by decide) 0 rfl rfl rfl hl.1 rfl (Nat.le_of_ble_eq_true rfl) dL_law_789 ⟨Nat.le_of_ble_eq_true rfl, Nat.le_of_ble_eq_true rfl⟩ (fun r1 vX H locs hq1 hP hD hS => ?_)
  refine W.eq (g2 := F0 m 792 ls [.long r1]) rfl ?_
  refine lv_aload_n hx hb dL_law_792 rfl (lv_at hl 2 rfl) ?_
  refine zw_V (em := zx_el) (As := []) (rest := [.long r1]) (W0 := zm_w cI cB rM (sm, am, zm, hm9) ++ zy_w cI rX vX) (wr := zy_w cI rX vX) cf (c_X3_digest l D cI cB rM sm am zm hm9  hR9.2.2.2.1) (cwV 0 hts gL_law_X3_digest rfl rfl rfl ⟨rfl, hd_X3_digest⟩ ⟨Nat.le_of_ble_eq_true rfl, Nat.le_of_ble_eq_true rfl⟩) hK hN hP hD hS hA [0, 1, 2, 3, 4, 5, 6, 7, 8, 9, 10, 11, 12, 13, 14, 15] [16, 17, 18, 19, 20, 21, 22, 23, 24, 25, 26, 27, 28, 29, 30, 31, 32, 33] rfl rfl rfl rfl (by decide) 0 rfl rfl rfl hl.1 rfl (Nat.le_of_ble_eq_true rfl) dL_law_793 ⟨Nat.le_of_ble_eq_true rfl, Nat.le_of_ble_eq_true rfl⟩ (fun r2 vM H locs hq2 hP hD hS => ?_)
  refine W.eq (g2 := F0 m 796 ls [.long r2, .long r1]) rfl ?_
  obtain ⟨he, hv⟩ := zr_s_digest hR9 hq1 hq2
  subst he
  refine W.lcmp hx hb dL_law_796 ?_
  rw [zw_lc]
  refine lv_if_eq (tgt := 802) hx hb dL_law_797 (by decide) (fun _ => ?_) (fun c9 => absurd rfl c9)
  exact ih vX vM hv H locs hP hD hS ls hl
