set_option maxHeartbeats 8000000 in
set_option maxRecDepth 100000 in
theorem lw_loop {p : Program} {l : Launch} {e : Env} {s : State} {m : MethodId} {below : List Frame} {meth : Method} {c : Code} {b L : Nat} {xs : Nat → Int32} (hL : L ≤ 256) (C0 : lw_At p s m meth c b L xs) {D : va_G} {cI cB : ClassId} {rX rM : Nat → Nat} (hK : va_K D vwCl (zm_t cI cB) s) (hN : zx_N s) : ∀ (n k : Nat), 4 * k ≤ L + 3 → L + 4 ≤ 4 * k + n → ∀ (uX : (Nat → Nat) × (Nat → Nat → Nat) × (Nat → Int) × Int) (uM : (Nat → Nat) × (Nat → Nat → Nat) × (Nat → Int) × Int64), zr_U k uX uM → ∀ (H : Heap) (locs : List Loc), va_P D vwCl (zy_w cI rX uX ++ zm_w cI cB rM uM) H → va_D (fun q : Nat => s.heap.size ≤ q) (zy_w cI rX uX ++ zm_w cI cB rM uM) → va_S (fun q : Nat => s.heap.size ≤ q) s.heap H locs → ∀ ls : Array Slot, lv_has ls 4 [(0, .ref b), (1, .ref (rX 1)), (2, .ref (rM 0)), (3, .int (nI (4 * k)))] → W p l e room_1 s m #[Value.ref b] below meth c H locs 34 292 (lw_Z below #[Value.ref b] s) (F0 m 18 ls []) := by
  obtain ⟨hx, hb, hr, hml, hown, hts0, hX, hbl, hlocks, hgv⟩ := id C0
  have hA : ∀ q : Nat, s.heap.size ≤ q → (fun q : Nat => s.heap.size ≤ q) q := fun _ h => h
  have hbA : ¬ (fun q : Nat => s.heap.size ≤ q) b := Nat.not_le.mpr hbl
  intro n
  induction n with
  | zero => intro k h1 h2; omega
  | succ n ih =>
    intro k h1 h2 uX uM hU H locs hP hD hS ls hl
    refine lv_iload_n hx hb dL_law_18 rfl (lv_at hl 3 rfl) ?_
    refine lv_aload_n hx hb dL_law_19 rfl (lv_at hl 0 rfl) ?_
    refine va_slen hx hb hX hbl hbA hS dL_law_20 ?_
    refine lv_iconst (v := nI 4) hx hb dL_law_21 (by decide) ?_
    refine lv_isub hx hb dL_law_22 ?_
    refine lv_icmp_gt (tgt := 808) hx hb dL_law_23 (by decide) (fun c_23 => ?_) (fun c_23 => ?_)
    · refine lv_iconst (v := 1) hx hb dL_law_808 (by decide) ?_
      refine va_forget (fun q hq => hS.2.2 q hq) ?_
      exact lw_ret hx hb hr hlocks dL_law_809
    · have hk : 4 * k + 4 ≤ L := by
        rcases Nat.lt_or_ge L (4 * k + 4) with q | q
        · exact absurd ((zw_cmp hL (by omega)).mpr q) c_23
        · exact q
      have hin0 : vp_in (nI (4 * k)) L := vp_in_nI (by omega) (by omega)
      have back : ∀ (vX : (Nat → Nat) × (Nat → Nat → Nat) × (Nat → Int) × Int) (vM : (Nat → Nat) × (Nat → Nat → Nat) × (Nat → Int) × Int64), zr_U (k + 1) vX vM → ∀ (H : Heap) (locs : List Loc), va_P D vwCl (zy_w cI rX vX ++ zm_w cI cB rM vM) H → va_D (fun q : Nat => s.heap.size ≤ q) (zy_w cI rX vX ++ zm_w cI cB rM vM) → va_S (fun q : Nat => s.heap.size ≤ q) s.heap H locs → ∀ ls : Array Slot, lv_has ls 4 [(0, .ref b), (1, .ref (rX 1)), (2, .ref (rM 0)), (3, .int (nI (4 * k)))] → W p l e room_1 s m #[Value.ref b] below meth c H locs 34 292 (lw_Z below #[Value.ref b] s) (F0 m 802 ls []) := by
        intro vX vM hV H locs hP hD hS ls hl
        refine lv_iinc (v := nI (4 * (k + 1))) (lv' := [(3, .int (nI (4 * (k + 1)))), (0, .ref b), (1, .ref (rX 1)), (2, .ref (rM 0))]) hx hb dL_law_802 hl (k := 3) rfl (zx_inc _ _) (by decide) rfl (fun ls hl => ?_)
        refine lv_goto (tgt := 18) hx hb dL_law_805 (by decide) ?_
        exact ih (k + 1) (by omega) (by omega) vX vM hV H locs hP hD hS ls (lv_sub hl [1, 2, 3, 0] rfl)
      refine lv_aload_n hx hb dL_law_26 rfl (lv_at hl 0 rfl) ?_
      refine lv_iload_n hx hb dL_law_27 rfl (lv_at hl 3 rfl) ?_
      refine va_sld hx hb hX hbl hbA hS hin0 dL_law_28 ?_
      refine lv_bipush (v := 31) hx hb dL_law_29 (by decide) ?_
      refine lv_iand hx hb dL_law_31 ?_
      generalize hx0 : xs (nI (4 * k)).toNatClampNeg = x0
      have hsw := zw_sw x0
      have hlt := Nat.mod_lt x0.toBitVec.toNat (show 0 < 32 by decide)
      generalize x0.toBitVec.toNat % 32 = w0 at hsw hlt
      by_cases hw : 22 < w0
      · refine lv_tableOut (tgt := 802) hx hb dL_law_32 (by rw [hsw]; right; omega) (by decide) ?_
        exact back uX uM (zr_mono (Nat.le_succ k) hU) H locs hP hD hS ls hl
      · rcases (show w0 = 0 ∨ w0 = 1 ∨ w0 = 2 ∨ w0 = 3 ∨ w0 = 4 ∨ w0 = 5 ∨ w0 = 6 ∨ w0 = 7 ∨ w0 = 8 ∨ w0 = 9 ∨ w0 = 10 ∨ w0 = 11 ∨ w0 = 12 ∨ w0 = 13 ∨ w0 = 14 ∨ w0 = 15 ∨ w0 = 16 ∨ w0 = 17 ∨ w0 = 18 ∨ w0 = 19 ∨ w0 = 20 ∨ w0 = 21 ∨ w0 = 22 by omega) with hw0 | hw0 | hw0 | hw0 | hw0 | hw0 | hw0 | hw0 | hw0 | hw0 | hw0 | hw0 | hw0 | hw0 | hw0 | hw0 | hw0 | hw0 | hw0 | hw0 | hw0 | hw0 | hw0
        · subst hw0
          refine lv_tableIn (off := 108) (tgt := 140) hx hb dL_law_32 (by rw [hsw]; decide) (by rw [hsw]; decide) (by rw [hsw]; rfl) (by decide) ?_
          exact lw_k0 hL C0 hK hN hk hU back H locs hP hD hS ls hl
        · subst hw0
          refine lv_tableIn (off := 131) (tgt := 163) hx hb dL_law_32 (by rw [hsw]; decide) (by rw [hsw]; decide) (by rw [hsw]; rfl) (by decide) ?_
          exact lw_k1 hL C0 hK hN hk hU back H locs hP hD hS ls hl
        · subst hw0
          refine lv_tableIn (off := 144) (tgt := 176) hx hb dL_law_32 (by rw [hsw]; decide) (by rw [hsw]; decide) (by rw [hsw]; rfl) (by decide) ?_
          exact lw_k2 hL C0 hK hN hk hU back H locs hP hD hS ls hl
        · subst hw0
          refine lv_tableIn (off := 157) (tgt := 189) hx hb dL_law_32 (by rw [hsw]; decide) (by rw [hsw]; decide) (by rw [hsw]; rfl) (by decide) ?_
          exact lw_k3 hL C0 hK hN hk hU back H locs hP hD hS ls hl
        · subst hw0
          refine lv_tableIn (off := 170) (tgt := 202) hx hb dL_law_32 (by rw [hsw]; decide) (by rw [hsw]; decide) (by rw [hsw]; rfl) (by decide) ?_
          exact lw_k4 hL C0 hK hN hk hU back H locs hP hD hS ls hl
        · subst hw0
          refine lv_tableIn (off := 193) (tgt := 225) hx hb dL_law_32 (by rw [hsw]; decide) (by rw [hsw]; decide) (by rw [hsw]; rfl) (by decide) ?_
          exact lw_k5 hL C0 hK hN hk hU back H locs hP hD hS ls hl
        · subst hw0
          refine lv_tableIn (off := 226) (tgt := 258) hx hb dL_law_32 (by rw [hsw]; decide) (by rw [hsw]; decide) (by rw [hsw]; rfl) (by decide) ?_
          exact lw_k6 hL C0 hK hN hk hU back H locs hP hD hS ls hl
        · subst hw0
          refine lv_tableIn (off := 269) (tgt := 301) hx hb dL_law_32 (by rw [hsw]; decide) (by rw [hsw]; decide) (by rw [hsw]; rfl) (by decide) ?_
          exact lw_k7 hL C0 hK hN hk hU back H locs hP hD hS ls hl
        · subst hw0
          refine lv_tableIn (off := 302) (tgt := 334) hx hb dL_law_32 (by rw [hsw]; decide) (by rw [hsw]; decide) (by rw [hsw]; rfl) (by decide) ?_
          exact lw_k8 hL C0 hK hN hk hU back H locs hP hD hS ls hl
        · subst hw0
          refine lv_tableIn (off := 335) (tgt := 367) hx hb dL_law_32 (by rw [hsw]; decide) (by rw [hsw]; decide) (by rw [hsw]; rfl) (by decide) ?_
          exact lw_k9 hL C0 hK hN hk hU back H locs hP hD hS ls hl
        · subst hw0
          refine lv_tableIn (off := 368) (tgt := 400) hx hb dL_law_32 (by rw [hsw]; decide) (by rw [hsw]; decide) (by rw [hsw]; rfl) (by decide) ?_
          exact lw_k10 hL C0 hK hN hk hU back H locs hP hD hS ls hl
        · subst hw0
          refine lv_tableIn (off := 427) (tgt := 459) hx hb dL_law_32 (by rw [hsw]; decide) (by rw [hsw]; decide) (by rw [hsw]; rfl) (by decide) ?_
          exact lw_k11 hL C0 hK hN hk hU back H locs hP hD hS ls hl
        · subst hw0
          refine lv_tableIn (off := 460) (tgt := 492) hx hb dL_law_32 (by rw [hsw]; decide) (by rw [hsw]; decide) (by rw [hsw]; rfl) (by decide) ?_
          exact lw_k12 hL C0 hK hN hk hU back H locs hP hD hS ls hl
        · subst hw0
          refine lv_tableIn (off := 493) (tgt := 525) hx hb dL_law_32 (by rw [hsw]; decide) (by rw [hsw]; decide) (by rw [hsw]; rfl) (by decide) ?_
          exact lw_k13 hL C0 hK hN hk hU back H locs hP hD hS ls hl
        · subst hw0
          refine lv_tableIn (off := 536) (tgt := 568) hx hb dL_law_32 (by rw [hsw]; decide) (by rw [hsw]; decide) (by rw [hsw]; rfl) (by decide) ?_
          exact lw_k14 hL C0 hK hN hk hU back H locs hP hD hS ls hl
        · subst hw0
          refine lv_tableIn (off := 595) (tgt := 627) hx hb dL_law_32 (by rw [hsw]; decide) (by rw [hsw]; decide) (by rw [hsw]; rfl) (by decide) ?_
          exact lw_k15 hL C0 hK hN hk hU back H locs hP hD hS ls hl
        · subst hw0
          refine lv_tableIn (off := 608) (tgt := 640) hx hb dL_law_32 (by rw [hsw]; decide) (by rw [hsw]; decide) (by rw [hsw]; rfl) (by decide) ?_
          exact lw_k16 hL C0 hK hN hk hU back H locs hP hD hS ls hl
        · subst hw0
          refine lv_tableIn (off := 631) (tgt := 663) hx hb dL_law_32 (by rw [hsw]; decide) (by rw [hsw]; decide) (by rw [hsw]; rfl) (by decide) ?_
          exact lw_k17 hL C0 hK hN hk hU back H locs hP hD hS ls hl
        · subst hw0
          refine lv_tableIn (off := 664) (tgt := 696) hx hb dL_law_32 (by rw [hsw]; decide) (by rw [hsw]; decide) (by rw [hsw]; rfl) (by decide) ?_
          exact lw_k18 hL C0 hK hN hk hU back H locs hP hD hS ls hl
        · subst hw0
          refine lv_tableIn (off := 707) (tgt := 739) hx hb dL_law_32 (by rw [hsw]; decide) (by rw [hsw]; decide) (by rw [hsw]; rfl) (by decide) ?_
          exact lw_k19 hL C0 hK hN hk hU back H locs hP hD hS ls hl
        · subst hw0
          refine lv_tableIn (off := 720) (tgt := 752) hx hb dL_law_32 (by rw [hsw]; decide) (by rw [hsw]; decide) (by rw [hsw]; rfl) (by decide) ?_
          exact lw_k20 hL C0 hK hN hk hU back H locs hP hD hS ls hl
        · subst hw0
          refine lv_tableIn (off := 733) (tgt := 765) hx hb dL_law_32 (by rw [hsw]; decide) (by rw [hsw]; decide) (by rw [hsw]; rfl) (by decide) ?_
          exact lw_k21 hL C0 hK hN hk hU back H locs hP hD hS ls hl
        · subst hw0
          refine lv_tableIn (off := 756) (tgt := 788) hx hb dL_law_32 (by rw [hsw]; decide) (by rw [hsw]; decide) (by rw [hsw]; rfl) (by decide) ?_
          exact lw_k22 hL C0 hK hN hk hU back H locs hP hD hS ls hl
