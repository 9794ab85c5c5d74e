/-! the law's calls: on one of its two worlds -/
section ZW
variable {p : Program} {l : Launch} {e : Env} {R : Room} {s : State} {m : MethodId} {args : Array Value} {below : List Frame} {meth : Method} {c : Code} {H : Heap} {locs : List Loc} {cells slots : Nat} {Q : State → Prop}
variable {cc bytes : ByteArray} {pc : Nat} {ls : Array Slot} {rest st0 : List Value} {H0 : Heap}
theorem zw_sub {isC : List Nat} {W0 wc : va_W} (hC : isC.map (fun i => W0[i]?) = wc.map some) : isC.filterMap (fun i => W0[i]?) = wc := by
  have h : isC.filterMap (fun i => W0[i]?) = (isC.map (fun i => W0[i]?)).filterMap id := by
    rw [List.filterMap_map]; rfl
  rw [h, hC, List.filterMap_map]
  simp
theorem zw_V {ρ σ : Type} {em : ρ → Option Value} {D : va_G} {tys : List (ClassId × FieldType)} {w : σ → va_W} {u : σ} {post : ρ → σ → Prop} {A : Nat → Prop} {y : MethodName} {maxL nL n index : Nat} {ret : Option FieldType} {ws Ts : List Cond} {rm : Room} {own C : String} {b : Addr} {As : List Value} {ci : Nat} {fs : List Value} {T : u_T} {N : Nat} {W0 wr : va_W}
    (S : CallFix p m c cc nL s args Ts own) (hM : zx_C em l D tys w y ws rm (.ref b :: As) u post) (cw : CallW R s args own C index y bytes maxL ret ws rm 0 0 n) (hK : va_K D vwCl tys s) (hN : zx_N s) (hP : va_P D vwCl W0 H) (hD : va_D A W0) (hS : va_S A H0 H locs) (hA : ∀ q, H0.size ≤ q → A q)
    (isC isR : List Nat) (hC : isC.map (fun i => W0[i]?) = (w u).map some) (hR : isR.map (fun i => W0[i]?) = wr.map some) (hnC : va_nd isC = true) (hnd : va_nd isR = true) (hdis : ∀ i ∈ isR, i ∉ isC) (q0 : Nat) (hrv : (w u)[q0]? = some (b, .inr (ci, fs))) (hcl : vwCl[ci]? = some (C, T, N)) (hn : As.length = n) (hsize : ls.size = nL) (hst : st0 = As.reverse ++ .ref b :: rest) (hro : (rest.map fun v => v.category).sum ≤ 8) (hdg : decode cc pc = .ok (.invokevirtual index, 3)) (hf : cells ≤ R.cells ∧ slots ≤ R.slots)
    (kk : ∀ (r : ρ) (u' : σ) (H1 : Heap) (locs1 : List Loc), post r u' → va_P D vwCl (wr ++ w u') H1 → va_D A (wr ++ w u') → va_S A H0 H1 locs1 → W p l e R s m args below meth c H1 locs1 cells slots Q (F0 m (pc + 3) ls ((em r).toList ++ rest))) : W p l e R s m args below meth c H locs cells slots Q (F0 m pc ls st0) := by
  have hPc : va_P D vwCl (w u) H := hP.sub isC (zw_sub hC)
  have hDc : va_D A (w u) := hD.sub isC hnC hC
  have hFc := va_free (wc := w u) hD hS hA isC hC
  refine zx_call (va_runV (As := As) (rest := rest) S (hM H.size) cw ⟨zx_blind, va_recv hK hPc hcl hrv, zx_pre hK hN hPc hDc⟩ rfl hn hsize hst (lv_room hro) hdg hf) hS (fun q _ h => hFc q h) hFc (fun r u' t H1 locs1 ht hvm hw hB hz1 hk1 hS1 => ?_)
  obtain ⟨hP1, hK1, hD1⟩ := hB
  rw [ht] at hP1
  obtain ⟨hP2, hD2⟩ := va_join hP hD isC isR hC hR hnd hdis hk1 hFc hP1 hD1
  exact kk r u' H1 locs1 hw hP2 hD2 hS1
end ZW
theorem zw_cmp {L k : Nat} (hL : L ≤ 256) (hk : k ≤ 300) : (nI L - nI 4 < nI k) ↔ L < k + 4 := by
  have e : nI L - nI 4 = zx_i ((L : Int) - 4) := by
    rw [Int32.sub_eq_add_neg, ← zx_i_n L, ← zx_i_n 4, zx_i_neg, zx_i_add]
    rfl
  rw [Int32.lt_iff_toInt_lt, e, zx_i_toInt (by omega) (by omega), nI_toInt (by omega)]
  omega
theorem zw_sw (x : Int32) : (x &&& 31).toInt = ((x.toBitVec.toNat % 32 : Nat) : Int) := by
  have h1 : (x &&& 31).toBitVec = x.toBitVec &&& 31#32 := rfl
  have h2 : (x.toBitVec &&& 31#32).toNat = x.toBitVec.toNat % 32 := by
    rw [BitVec.toNat_and]
    show x.toBitVec.toNat &&& (2 ^ 5 - 1) = _
    rw [Nat.and_two_pow_sub_one_eq_mod]
  show (x &&& 31).toBitVec.toInt = _
  rw [BitVec.toInt_eq_toNat_of_lt (by rw [h1, h2]; have := Nat.mod_lt x.toBitVec.toNat (show 0 < 32 by decide); omega), h1, h2]
theorem zw_lc (x : Int64) : lg_cmp x x = 0 := by
  unfold lg_cmp
  rw [if_neg (fun h => absurd (Int64.lt_iff_toInt_lt.mp h) (Int.lt_irrefl _)), if_pos rfl]
