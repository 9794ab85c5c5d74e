theorem zi_R : zr_R 0 (fun _ => 0) (fun _ _ => 0) (fun _ => 0) (fun _ => 0) (fun _ _ => 0) (fun _ => 0) := by
  have hf : ∀ n, n = 0 → zr_f n (fun _ => 0) (fun _ => 0) (fun _ => 0) (fun _ => 0) (fun _ => 0) := by
    intro n h0; subst h0
    intro d _ o _
    exact ⟨Nat.zero_testBit o, Nat.zero_testBit o⟩
  refine ⟨⟨⟨rfl, rfl, rfl, rfl, rfl, rfl, rfl⟩, fun _ _ => rfl, fun _ _ => rfl, fun _ _ => ⟨rfl, rfl⟩, fun _ _ => rfl, fun _ _ => rfl, hf 0 rfl⟩, ⟨⟨fun q => absurd rfl q, fun q => absurd rfl q.1⟩, Nat.le_refl 0, fun q => absurd rfl q⟩, ?_, ?_, Nat.le_refl 0⟩
  · unfold zy_I
    refine ⟨by decide, by decide, fun _ _ => by simp, fun _ _ => by simp, fun _ _ => by simp, fun _ _ => by simp, fun _ _ => by simp, fun _ _ => by simp⟩
  · unfold zm_I
    refine ⟨by decide, by decide, fun _ _ => by simp, fun _ _ => by simp, fun _ _ => by simp, fun _ _ => by simp, fun _ _ => by simp, fun _ _ => by simp, fun _ _ => by simp, fun _ _ => by simp⟩
set_option maxHeartbeats 8000000 in
set_option maxRecDepth 100000 in
/-- THE LAW, from its entry -/
theorem whole_start {p : Program} {e : Env} {s : State} {m : MethodId} {below : List Frame} {meth : Method} {c : Code} (l : Launch) (hflags : l.flags = flags0) {b L : Nat} {xs : Nat → Int32} (hL : L ≤ 256) (C0 : lw_At p s m meth c b L xs) : W p l e room_1 s m #[Value.ref b] below meth c s.heap [] 0 0 (lw_Z below #[Value.ref b] s) (entryFrame m ([Value.ref b] : List Value).toArray 4) := by
  obtain ⟨hx, hb, hr, hml, hown, hts0, hX, hbl, hlocks, hgv⟩ := id C0
  have hts : ∀ w ∈ wsL_law, w.before #[Value.ref b] s = true := fun w hw => hts0 w (wsL_law_in w hw)
  have hA : ∀ q : Nat, s.heap.size ≤ q → (fun q : Nat => s.heap.size ≤ q) q := fun _ h => h
  have hbA : ¬ (fun q : Nat => s.heap.size ≤ q) b := Nat.not_le.mpr hbl
  have hN : zx_N s := ⟨va_Nw.of rfl (hts0 (.methodLinkNest RX0 24 yX2_putsIfEmpty RX2) (List.mem_of_getElem? (i := 230) (by decide +kernel))), va_Nw.of rfl (hts0 (.methodLinkNest RX0 28 yX2_putsIfThere RX2) (List.mem_of_getElem? (i := 233) (by decide +kernel))), va_Nw.of rfl (hts0 (.methodLinkNest RX0 53 yX2_bitOf RX2) (List.mem_of_getElem? (i := 262) (by decide +kernel)))⟩
  have hN2 : zx_N2 s := ⟨va_Nw.of rfl (hts0 (.methodLinkNest RX2 18 yX1_init RX2) (List.mem_of_getElem? (i := 56) (by decide +kernel))), va_Nw.of rfl (hts0 (.methodLinkNest RX2 28 yX0_init RX2) (List.mem_of_getElem? (i := 100) (by decide +kernel)))⟩
  obtain ⟨c0, iS0, hKn0⟩ := u_known (C := RX0) (T := TX0) (N := 7) (n := 7) hts inlX0 (hts0 (.instantiable RX0 7) (List.mem_of_getElem? (i := 99) (by decide +kernel)))
  obtain ⟨c1, iS1, hKn1⟩ := u_known (C := RX1) (T := TX1) (N := 9) (n := 9) hts inlX1 (hts0 (.instantiable RX1 9) (List.mem_of_getElem? (i := 55) (by decide +kernel)))
  obtain ⟨c2, iS2, hKn2⟩ := u_known (C := RX2) (T := TX2) (N := 10) (n := 10) hts inlX2 (hts0 (.instantiable RX2 10) (List.mem_of_getElem? (i := 47) (by decide +kernel)))
  obtain ⟨c3, iS3, hKn3⟩ := u_known (C := RX3) (T := TX3) (N := 29) (n := 29) hts inlX3 (hts0 (.instantiable RX3 29) (List.mem_of_getElem? (i := 418) (by decide +kernel)))
  obtain ⟨dC, dI, hKc⟩ : ∃ (dC : Nat → ClassId) (dI : Nat → Nat → Nat), ∀ (k : Nat) (q : vw_C), vwCl[k]? = some q → u_Kn s q.1 q.2.1 q.2.2 (dC k) (dI k) := by
    refine ⟨fun k => if k = 0 then c0 else if k = 1 then c1 else if k = 2 then c2 else c3, fun k => if k = 0 then iS0 else if k = 1 then iS1 else if k = 2 then iS2 else iS3, ?_⟩
    intro k q hq
    match k, hq with
    | 0, hq => cases hq; exact hKn0
    | 1, hq => cases hq; exact hKn1
    | 2, hq => cases hq; exact hKn2
    | 3, hq => cases hq; exact hKn3
    | k + 4, hq => simp [vwCl] at hq
  obtain ⟨D, eD⟩ : ∃ z9 : va_G, z9 = (dC, dI) := ⟨_, rfl⟩
  have hS : va_S (fun q : Nat => s.heap.size ≤ q) s.heap s.heap [] := va_S.rf
  have hK : va_K D vwCl [] s := by rw [eD]; exact ⟨hKc, fun k q h => by simp at h⟩
  have hP : va_P D vwCl [] s.heap := fun k q h => by simp at h
  have hD : va_D (fun q : Nat => s.heap.size ≤ q) [] := ⟨fun i j p q h => by simp at h, fun k q h => by simp at h⟩
  have hl := lv_entry ([.ref b]) (n := 4) (Nat.le_of_ble_eq_true rfl)
  rw [lg_entry_eq]
  generalize (lg_sl ([.ref b]) ++ List.replicate (4 - (lg_sl ([.ref b])).length) Slot.unset).toArray = ls at hl ⊢
  have hl : lv_has ls 4 [(0, .ref b)] := hl
  have hc9 : 0 + 1 ≤ room_1.cells := Nat.le_of_ble_eq_true rfl
  have hs9 : 0 + 10 ≤ room_1.slots := Nat.le_of_ble_eq_true rfl
  refine va_new (ci := 2) (fs := [.null, .int (nI 0), .int (nI 0), .null, .null, .int (nI 0), .null, .int (nI 0), .int (nI 0), .null]) (C := RX2) (T := TX2) (N := 10) hx hb hts inlX2 tyX2 tyX2_ok hown (hts (.classLink RL 7 RX2) (List.mem_of_getElem? (i := 0) (by decide +kernel))) (hts (.instantiable RX2 10) (List.mem_of_getElem? (i := 1) (by decide +kernel))) (hts (.initialized RX2) (List.mem_of_getElem? (i := 2) (by decide +kernel))) hK hP hD hS hA rfl (fun j hj => by rcases (show j = 0 ∨ j = 1 ∨ j = 2 ∨ j = 3 ∨ j = 4 ∨ j = 5 ∨ j = 6 ∨ j = 7 ∨ j = 8 ∨ j = 9 by omega) with rfl | rfl | rfl | rfl | rfl | rfl | rfl | rfl | rfl | rfl <;> rfl) hc9 hs9 dL_law_0 (fun qX H hP hD hS => ?_)
  have hP : va_P D vwCl [(qX, .inr (2, [.null, .int (nI 0), .int (nI 0), .null, .null, .int (nI 0), .null, .int (nI 0), .int (nI 0), .null]))] H := hP
  have hD : va_D (fun q : Nat => s.heap.size ≤ q) [(qX, .inr (2, [.null, .int (nI 0), .int (nI 0), .null, .null, .int (nI 0), .null, .int (nI 0), .int (nI 0), .null]))] := hD
  refine W.widen (k := 1) (n := 10) (by omega) (by omega) ?_
  refine lv_dup hx hb dL_law_3 rfl ?_
  have hPc := hP.sub (ws' := [(qX, .inr (2, [.null, .int (nI 0), .int (nI 0), .null, .null, .int (nI 0), .null, .int (nI 0), .int (nI 0), .null]))]) [0] rfl
  have hDc := hD.sub (ws' := [(qX, .inr (2, [.null, .int (nI 0), .int (nI 0), .null, .null, .int (nI 0), .null, .int (nI 0), .int (nI 0), .null]))]) [0] (by decide) rfl
  have hKc := hK.sub (tys' := []) [] rfl
  have hFc := va_free (wc := [(qX, .inr (2, [.null, .int (nI 0), .int (nI 0), .null, .null, .int (nI 0), .null, .int (nI 0), .int (nI 0), .null]))]) hD hS hA [0] rfl
  have hc9 : 1 + 17 ≤ room_1.cells := Nat.le_of_ble_eq_true rfl
  have hs9 : 10 + 136 ≤ room_1.slots := Nat.le_of_ble_eq_true rfl
  refine va_callv (va_runI (As := []) (rest := [.ref qX]) ⟨hx, hb, hml, hown, hts⟩ (c_X2_init l D qX H.size) (cwI 0 hts gL_law_X2_init rfl rfl rfl (hts (.initialized RX2) (List.mem_of_getElem? (i := 2) (by decide +kernel))) (hts (.methodLink RL 9 yX2_init) (List.mem_of_getElem? (i := 6) (by decide +kernel))) (hts (.instanceMethod yX2_init) (List.mem_of_getElem? (i := 7) (by decide +kernel))) rfl (by decide +kernel) ⟨Nat.le_of_ble_eq_true rfl, Nat.le_of_ble_eq_true rfl⟩) ⟨fun a U g mk q => by obtain ⟨q0, q1, qP, qK, ⟨qN1, qN2⟩, qD⟩ := q; exact ⟨q0, q1, qP, va_K.moved (u := U) (U := U.calling g mk a) (Vm.Alike.refl U.vm) qK, ⟨va_Nw.same rfl (U := U.calling g mk a) rfl qN1, va_Nw.same rfl (U := U.calling g mk a) rfl qN2⟩, qD⟩, fun U hU hW => ⟨rfl, by rw [hU], by rw [hU]; exact hPc, va_K.moved hW.alike hKc, ⟨va_Nw.warmM hW hN2.1, va_Nw.warmM hW hN2.2⟩, hDc.weaken (fun _ _ _ _ => trivial)⟩⟩ rfl rfl hl.1 rfl (lv_room (Nat.le_of_ble_eq_true rfl)) dL_law_4 ⟨hc9, hs9⟩) hS (fun q _ h => hFc q h) hFc (fun u t H1 locs ht hvm _ hB hz1 hk1 hS => ?_)
  obtain ⟨cI, rX, erX, hP1, hK1, hD1⟩ := hB
  rw [ht] at hP1
  have hK1 := va_K.moved hvm.symm hK1
  obtain ⟨hP, hD⟩ := va_join (wr := []) (w1 := zy_w cI rX zi_u) hP hD [0] [] rfl rfl (by decide) (by decide) hk1 hFc hP1 hD1
  have hK : va_K D vwCl [(cI, .int)] s := hK1
  generalize H1 = H at hP hS ⊢
  have hP : va_P D vwCl (zy_w cI rX zi_u) H := hP
  have hD : va_D (fun q : Nat => s.heap.size ≤ q) (zy_w cI rX zi_u) := hD
  refine W.widen (k := 18) (n := 146) (by omega) (by omega) ?_
  refine lv_astore_n (lv' := [(1, .ref qX), (0, .ref b)]) hx hb dL_law_7 rfl hl (by decide) rfl (fun ls hl => ?_)
  have hc9 : 18 + 1 ≤ room_1.cells := Nat.le_of_ble_eq_true rfl
  have hs9 : 146 + 29 ≤ room_1.slots := Nat.le_of_ble_eq_true rfl
  refine va_new (ci := 3) (fs := [.int (nI 0), .int (nI 0), .null, .int (nI 0), .null, .int (nI 0), .null, .null, .null, .int (nI 0), .null, .null, .null, .int (nI 0), .int (nI 0), .null, .long 0, .int (nI 0), .int (nI 0), .int (nI 0), .int (nI 0), .int (nI 0), .null, .null, .null, .null, .null, .null, .long 0]) (C := RX3) (T := TX3) (N := 29) hx hb hts inlX3 tyX3 tyX3_ok hown (hts (.classLink RL 10 RX3) (List.mem_of_getElem? (i := 3) (by decide +kernel))) (hts (.instantiable RX3 29) (List.mem_of_getElem? (i := 4) (by decide +kernel))) (hts (.initialized RX3) (List.mem_of_getElem? (i := 5) (by decide +kernel))) hK hP hD hS hA rfl (fun j hj => by rcases (show j = 0 ∨ j = 1 ∨ j = 2 ∨ j = 3 ∨ j = 4 ∨ j = 5 ∨ j = 6 ∨ j = 7 ∨ j = 8 ∨ j = 9 ∨ j = 10 ∨ j = 11 ∨ j = 12 ∨ j = 13 ∨ j = 14 ∨ j = 15 ∨ j = 16 ∨ j = 17 ∨ j = 18 ∨ j = 19 ∨ j = 20 ∨ j = 21 ∨ j = 22 ∨ j = 23 ∨ j = 24 ∨ j = 25 ∨ j = 26 ∨ j = 27 ∨ j = 28 by omega) with rfl | rfl | rfl | rfl | rfl | rfl | rfl | rfl | rfl | rfl | rfl | rfl | rfl | rfl | rfl | rfl | rfl | rfl | rfl | rfl | rfl | rfl | rfl | rfl | rfl | rfl | rfl | rfl | rfl <;> rfl) hc9 hs9 dL_law_8 (fun qM H hP hD hS => ?_)
  have hP : va_P D vwCl (zy_w cI rX zi_u ++ [(qM, .inr (3, [.int (nI 0), .int (nI 0), .null, .int (nI 0), .null, .int (nI 0), .null, .null, .null, .int (nI 0), .null, .null, .null, .int (nI 0), .int (nI 0), .null, .long 0, .int (nI 0), .int (nI 0), .int (nI 0), .int (nI 0), .int (nI 0), .null, .null, .null, .null, .null, .null, .long 0]))]) H := hP
  have hD : va_D (fun q : Nat => s.heap.size ≤ q) (zy_w cI rX zi_u ++ [(qM, .inr (3, [.int (nI 0), .int (nI 0), .null, .int (nI 0), .null, .int (nI 0), .null, .null, .null, .int (nI 0), .null, .null, .null, .int (nI 0), .int (nI 0), .null, .long 0, .int (nI 0), .int (nI 0), .int (nI 0), .int (nI 0), .int (nI 0), .null, .null, .null, .null, .null, .null, .long 0]))]) := hD
  refine W.widen (k := 19) (n := 175) (by omega) (by omega) ?_
  refine lv_dup hx hb dL_law_11 rfl ?_
  have hPc := hP.sub (ws' := [(qM, .inr (3, [.int (nI 0), .int (nI 0), .null, .int (nI 0), .null, .int (nI 0), .null, .null, .null, .int (nI 0), .null, .null, .null, .int (nI 0), .int (nI 0), .null, .long 0, .int (nI 0), .int (nI 0), .int (nI 0), .int (nI 0), .int (nI 0), .null, .null, .null, .null, .null, .null, .long 0]))]) [18] rfl
  have hDc := hD.sub (ws' := [(qM, .inr (3, [.int (nI 0), .int (nI 0), .null, .int (nI 0), .null, .int (nI 0), .null, .null, .null, .int (nI 0), .null, .null, .null, .int (nI 0), .int (nI 0), .null, .long 0, .int (nI 0), .int (nI 0), .int (nI 0), .int (nI 0), .int (nI 0), .null, .null, .null, .null, .null, .null, .long 0]))]) [18] (by decide) rfl
  have hKc := hK.sub (tys' := []) [] rfl
  have hFc := va_free (wc := [(qM, .inr (3, [.int (nI 0), .int (nI 0), .null, .int (nI 0), .null, .int (nI 0), .null, .null, .null, .int (nI 0), .null, .null, .null, .int (nI 0), .int (nI 0), .null, .long 0, .int (nI 0), .int (nI 0), .int (nI 0), .int (nI 0), .int (nI 0), .null, .null, .null, .null, .null, .null, .long 0]))]) hD hS hA [18] rfl
  have hc9 : 19 + 15 ≤ room_1.cells := Nat.le_of_ble_eq_true rfl
  have hs9 : 175 + 117 ≤ room_1.slots := Nat.le_of_ble_eq_true rfl
  refine va_callv (va_runI (As := []) (rest := [.ref qM]) ⟨hx, hb, hml, hown, hts⟩ (c_X3_init l D qM H.size) (cwI 0 hts gL_law_X3_init rfl rfl rfl (hts (.initialized RX3) (List.mem_of_getElem? (i := 5) (by decide +kernel))) (hts (.methodLink RL 12 yX3_init) (List.mem_of_getElem? (i := 36) (by decide +kernel))) (hts (.instanceMethod yX3_init) (List.mem_of_getElem? (i := 37) (by decide +kernel))) rfl (by decide +kernel) ⟨Nat.le_of_ble_eq_true rfl, Nat.le_of_ble_eq_true rfl⟩) ⟨fun a U g mk q => by obtain ⟨q0, q1, qP, qK, qD⟩ := q; exact ⟨q0, q1, qP, va_K.moved (u := U) (U := U.calling g mk a) (Vm.Alike.refl U.vm) qK, qD⟩, fun U hU hW => ⟨rfl, by rw [hU], by rw [hU]; exact hPc, va_K.moved hW.alike hKc, hDc.weaken (fun _ _ _ _ => trivial)⟩⟩ rfl rfl hl.1 rfl (lv_room (Nat.le_of_ble_eq_true rfl)) dL_law_12 ⟨hc9, hs9⟩) hS (fun q _ h => hFc q h) hFc (fun u t H1 locs ht hvm _ hB hz1 hk1 hS => ?_)
  obtain ⟨cI9, cB, rM, erM, hP1, hK1, hD1⟩ := hB
  rw [ht] at hP1
  have hK1 := va_K.moved hvm.symm hK1
  obtain ⟨hP8, hD8⟩ := va_join (wr := zy_w cI rX zi_u) (w1 := zm_w cI9 cB rM zi_m) hP hD [18] [0, 1, 2, 3, 4, 5, 6, 7, 8, 9, 10, 11, 12, 13, 14, 15, 16, 17] rfl rfl (by decide) (by decide) hk1 hFc hP1 hD1
  have hK := hK.app hK1
  have eA9 : cI = cI9 := zi_one hK 0 1 rfl rfl
  subst eA9
  have hK8 : va_K D vwCl (zm_t cI cB) s := hK.sub [0, 2] rfl
  have hS8 := hS
  refine W.widen (k := 34) (n := 292) (by omega) (by omega) ?_
  refine lv_astore_n (lv' := [(2, .ref qM), (1, .ref qX), (0, .ref b)]) hx hb dL_law_15 rfl hl (by decide) rfl (fun ls hl => ?_)
  refine lv_iconst (v := nI (4 * 0)) hx hb dL_law_16 (by decide) ?_
  refine lv_istore_n (lv' := [(3, .int (nI (4 * 0))), (2, .ref qM), (1, .ref qX), (0, .ref b)]) hx hb dL_law_17 rfl hl (by decide) rfl (fun ls hl8 => ?_)
  subst erX
  subst erM
  exact lw_loop hL C0 hK8 hN (L + 4) 0 (Nat.zero_le _) (by omega) zi_u zi_m zi_R H1 locs hP8 hD8 hS8 ls (lv_sub hl8 [3, 2, 1, 0] rfl)
