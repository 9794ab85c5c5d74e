theorem zx_ltle {a b : Int32} (h : a < b) : ¬ b ≤ a := by
  rw [Int32.lt_iff_toInt_lt] at h
  rw [Int32.le_iff_toInt_le]
  omega
theorem zx_nlt {a b : Int32} (h : ¬ a < b) : b ≤ a := by
  rw [Int32.lt_iff_toInt_lt] at h
  rw [Int32.le_iff_toInt_le]
  omega
theorem zx_a1 (x : Nat) : x &&& 1 < 2 ^ 31 := by
  have := Nat.and_le_right (n := x) (m := 1)
  omega
theorem zx_tbn (x k : Nat) : x / 2 ^ k &&& 1 = zx_n (x.testBit k) := by
  rw [Nat.testBit_eq_decide_div_mod_eq, Nat.and_one_is_mod]
  have h : x / 2 ^ k % 2 < 2 := Nat.mod_lt _ (by decide)
  rcases (show x / 2 ^ k % 2 = 0 ∨ x / 2 ^ k % 2 = 1 by omega) with e | e <;> rw [e] <;> rfl
theorem zx_tb1 {x k : Nat} (h : x / 2 ^ k &&& 1 = 1) : x.testBit k = true := by
  rw [zx_tbn] at h
  cases q : x.testBit k
  · rw [q] at h; cases h
  · rfl
theorem zx_tb0 {x k : Nat} (h : x / 2 ^ k &&& 1 ≠ 1) : x.testBit k = false := by
  rw [zx_tbn] at h
  cases q : x.testBit k
  · rfl
  · rw [q] at h; exact absurd rfl h
/-! what a number names -/
def zd_rng (lo hi : Nat) (x : Int32) : Option Nat := if nI lo ≤ x ∧ x ≤ nI hi then some x.toNatClampNeg else none
theorem zd_yes {lo hi : Nat} {x : Int32} (hl : lo ≤ hi) (hh : hi < 2 ^ 31) (h : decide (nI lo ≤ x ∧ x ≤ nI hi) = true) : ∃ k : Nat, x = nI k ∧ lo ≤ k ∧ k ≤ hi ∧ zd_rng lo hi x = some k := by
  have q := of_decide_eq_true h
  have h1 := q.1
  obtain ⟨j, hj, rfl⟩ := zx_ofV (x := x) (n := hi) (by
    rw [Int32.le_iff_toInt_le, nI_toInt (by omega)] at h1
    rw [Int32.le_iff_toInt_le, nI_toInt (by decide)]
    omega) q.2 hh
  rw [nI_leI (by omega) (by omega)] at h1
  exact ⟨j, rfl, h1, hj, by unfold zd_rng; rw [if_pos q, nI_clamp (by omega)]⟩
theorem zd_nos {lo hi : Nat} {x : Int32} (h : decide (nI lo ≤ x ∧ x ≤ nI hi) = false) : zd_rng lo hi x = none := by
  unfold zd_rng; rw [if_neg (of_decide_eq_false h)]
def zd_drw (c : Nat) (x : Int32) : Option Nat := if c = 0 then none else zd_rng 0 8 x
def zd_per (n : Nat) (x : Int32) : Option Nat := if n = 0 then none else zd_rng 0 (n - 1) x
theorem zd_some {o : Option Nat} (h : o.isSome = true) : ∃ k, o = some k := Option.isSome_iff_exists.mp h
theorem zd_none {o : Option Nat} (h : o.isSome = false) : o = none := by cases o <;> simp_all
theorem zd_rng_some {lo hi k : Nat} {x : Int32} (hl : lo ≤ hi) (hh : hi < 2 ^ 31) (h : zd_rng lo hi x = some k) : x = nI k ∧ lo ≤ k ∧ k ≤ hi := by
  by_cases q : decide (nI lo ≤ x ∧ x ≤ nI hi) = true
  · obtain ⟨j, h1, h2, h3, h4⟩ := zd_yes hl hh q
    rw [h] at h4; cases h4
    exact ⟨h1, h2, h3⟩
  · rw [zd_nos (by simpa using q)] at h; cases h
theorem zd_drw_some {c k : Nat} {x : Int32} (h : zd_drw c x = some k) : x = nI k ∧ k ≤ 8 ∧ c ≠ 0 := by
  unfold zd_drw at h
  split at h
  · cases h
  · rename_i q
    obtain ⟨h1, h2, h3⟩ := zd_rng_some (by decide) (by decide) h
    exact ⟨h1, h3, q⟩
theorem zd_per_some {n k : Nat} {x : Int32} (hn : n < 2 ^ 31) (h : zd_per n x = some k) : x = nI k ∧ k < n := by
  unfold zd_per at h
  split at h
  · cases h
  · rename_i q
    obtain ⟨h1, h2, h3⟩ := zd_rng_some (by omega) (by omega) h
    exact ⟨h1, by omega⟩
theorem zd_drw_b {c : Nat} (x : Int32) (hc : c ≠ 0) : (zd_drw c x).isSome = decide (nI 0 ≤ x ∧ x ≤ nI 8) := by
  unfold zd_drw zd_rng
  rw [if_neg hc]
  by_cases q : nI 0 ≤ x ∧ x ≤ nI 8
  · rw [if_pos q, decide_eq_true q]; rfl
  · rw [if_neg q, decide_eq_false q]; rfl
theorem zd_drw_0 (x : Int32) {c : Nat} (hc : c = 0) : (zd_drw c x).isSome = false := by
  unfold zd_drw; rw [if_pos hc]; rfl
theorem zd_per_b {n : Nat} (x : Int32) (hn : n < 2 ^ 31) : (zd_per n x).isSome = decide (nI 0 ≤ x ∧ x ≤ nI n - nI 1) := by
  unfold zd_per zd_rng
  by_cases q0 : n = 0
  · subst q0
    rw [if_pos rfl]
    symm
    apply decide_eq_false
    rintro ⟨h1, h2⟩
    rw [Int32.le_iff_toInt_le, nI_toInt (by decide)] at h1
    rw [Int32.le_iff_toInt_le] at h2
    have : (nI 0 - nI 1).toInt = -1 := by decide
    omega
  · rw [if_neg q0, pk_sub (by omega)]
    by_cases q : nI 0 ≤ x ∧ x ≤ nI (n - 1)
    · rw [if_pos q, decide_eq_true q]; rfl
    · rw [if_neg q, decide_eq_false q]; rfl
theorem zp_dlV : ∀ c, c < 128 → (zp_dl c = 99 ↔ ¬ (97 ≤ c ∧ c ≤ 100 ∨ 121 ≤ c ∧ c ≤ 122)) := by decide +kernel
theorem zx_dig : ∀ c, c < 128 → decide (nI 0 ≤ nI c - nI 48 ∧ nI c - nI 48 ≤ nI 3) = (decide (48 ≤ c) && decide (c ≤ 51)) := by decide +kernel
theorem zx_dl99 : ∀ c, c < 128 → (zx_i (zp_dl c) = nI 99 ↔ zp_dl c = 99) := by decide +kernel

def rmX0_start : Room := { frames := 0, cells := 0, slots := 0, locals := 0 }
theorem hd_X0_start : yX0_start.cls ≠ "java/lang/invoke/MethodHandle" ∧ yX0_start.cls ≠ "java/lang/invoke/VarHandle" ∧ (parseMethodDescriptor yX0_start.desc).map (fun d => d.parameters.length) = some 2 := by decide +kernel
def rmX2_putsIfEmpty : Room := { frames := 0, cells := 0, slots := 0, locals := 0 }
theorem hd_X2_putsIfEmpty : yX2_putsIfEmpty.cls ≠ "java/lang/invoke/MethodHandle" ∧ yX2_putsIfEmpty.cls ≠ "java/lang/invoke/VarHandle" ∧ (parseMethodDescriptor yX2_putsIfEmpty.desc).map (fun d => d.parameters.length) = some 2 := by decide +kernel
def rmX2_putsIfThere : Room := { frames := 0, cells := 0, slots := 0, locals := 0 }
theorem hd_X2_putsIfThere : yX2_putsIfThere.cls ≠ "java/lang/invoke/MethodHandle" ∧ yX2_putsIfThere.cls ≠ "java/lang/invoke/VarHandle" ∧ (parseMethodDescriptor yX2_putsIfThere.desc).map (fun d => d.parameters.length) = some 2 := by decide +kernel
def rmX0_join : Room := { frames := 1, cells := 0, slots := 0, locals := 21 }
theorem hd_X0_join : yX0_join.cls ≠ "java/lang/invoke/MethodHandle" ∧ yX0_join.cls ≠ "java/lang/invoke/VarHandle" ∧ (parseMethodDescriptor yX0_join.desc).map (fun d => d.parameters.length) = some 2 := by decide +kernel
def rmX0_mustBe : Room := { frames := 0, cells := 0, slots := 0, locals := 0 }
theorem hd_X0_mustBe : yX0_mustBe.cls ≠ "java/lang/invoke/MethodHandle" ∧ yX0_mustBe.cls ≠ "java/lang/invoke/VarHandle" ∧ (parseMethodDescriptor yX0_mustBe.desc).map (fun d => d.parameters.length) = some 1 := by decide +kernel
def rmX0_onlyWeek : Room := { frames := 1, cells := 0, slots := 0, locals := 22 }
theorem hd_X0_onlyWeek : yX0_onlyWeek.cls ≠ "java/lang/invoke/MethodHandle" ∧ yX0_onlyWeek.cls ≠ "java/lang/invoke/VarHandle" ∧ (parseMethodDescriptor yX0_onlyWeek.desc).map (fun d => d.parameters.length) = some 0 := by decide +kernel
def rmX0_settle : Room := { frames := 2, cells := 0, slots := 0, locals := 44 }
theorem hd_X0_settle : yX0_settle.cls ≠ "java/lang/invoke/MethodHandle" ∧ yX0_settle.cls ≠ "java/lang/invoke/VarHandle" ∧ (parseMethodDescriptor yX0_settle.desc).map (fun d => d.parameters.length) = some 0 := by decide +kernel
def rmJ6_bitCount_0f7a4 : Room := { frames := 0, cells := 0, slots := 0, locals := 0 }
theorem hd_J6_bitCount_0f7a4 : yJ6_bitCount_0f7a4.cls ≠ "java/lang/invoke/MethodHandle" ∧ yJ6_bitCount_0f7a4.cls ≠ "java/lang/invoke/VarHandle" ∧ (parseMethodDescriptor yJ6_bitCount_0f7a4.desc).map (fun d => d.parameters.length) = some 1 := by decide +kernel
def rmX0_agreeing : Room := { frames := 1, cells := 0, slots := 0, locals := 20 }
theorem hd_X0_agreeing : yX0_agreeing.cls ≠ "java/lang/invoke/MethodHandle" ∧ yX0_agreeing.cls ≠ "java/lang/invoke/VarHandle" ∧ (parseMethodDescriptor yX0_agreeing.desc).map (fun d => d.parameters.length) = some 0 := by decide +kernel
def rmX2_bitOf : Room := { frames := 0, cells := 0, slots := 0, locals := 0 }
theorem hd_X2_bitOf : yX2_bitOf.cls ≠ "java/lang/invoke/MethodHandle" ∧ yX2_bitOf.cls ≠ "java/lang/invoke/VarHandle" ∧ (parseMethodDescriptor yX2_bitOf.desc).map (fun d => d.parameters.length) = some 2 := by decide +kernel
def rmX0_firstStuckDay : Room := { frames := 1, cells := 0, slots := 0, locals := 21 }
theorem hd_X0_firstStuckDay : yX0_firstStuckDay.cls ≠ "java/lang/invoke/MethodHandle" ∧ yX0_firstStuckDay.cls ≠ "java/lang/invoke/VarHandle" ∧ (parseMethodDescriptor yX0_firstStuckDay.desc).map (fun d => d.parameters.length) = some 0 := by decide +kernel
def rmX0_leastWeek : Room := { frames := 0, cells := 0, slots := 0, locals := 0 }
theorem hd_X0_leastWeek : yX0_leastWeek.cls ≠ "java/lang/invoke/MethodHandle" ∧ yX0_leastWeek.cls ≠ "java/lang/invoke/VarHandle" ∧ (parseMethodDescriptor yX0_leastWeek.desc).map (fun d => d.parameters.length) = some 0 := by decide +kernel
def rmX0_sureOn : Room := { frames := 1, cells := 0, slots := 0, locals := 21 }
theorem hd_X0_sureOn : yX0_sureOn.cls ≠ "java/lang/invoke/MethodHandle" ∧ yX0_sureOn.cls ≠ "java/lang/invoke/VarHandle" ∧ (parseMethodDescriptor yX0_sureOn.desc).map (fun d => d.parameters.length) = some 1 := by decide +kernel
def rmX0_isSureOfAll : Room := { frames := 0, cells := 0, slots := 0, locals := 0 }
theorem hd_X0_isSureOfAll : yX0_isSureOfAll.cls ≠ "java/lang/invoke/MethodHandle" ∧ yX0_isSureOfAll.cls ≠ "java/lang/invoke/VarHandle" ∧ (parseMethodDescriptor yX0_isSureOfAll.desc).map (fun d => d.parameters.length) = some 1 := by decide +kernel
def rmX0_allows : Room := { frames := 0, cells := 0, slots := 0, locals := 0 }
theorem hd_X0_allows : yX0_allows.cls ≠ "java/lang/invoke/MethodHandle" ∧ yX0_allows.cls ≠ "java/lang/invoke/VarHandle" ∧ (parseMethodDescriptor yX0_allows.desc).map (fun d => d.parameters.length) = some 2 := by decide +kernel
def rmX1_clearFound : Room := { frames := 0, cells := 0, slots := 0, locals := 0 }
theorem hd_X1_clearFound : yX1_clearFound.cls ≠ "java/lang/invoke/MethodHandle" ∧ yX1_clearFound.cls ≠ "java/lang/invoke/VarHandle" ∧ (parseMethodDescriptor yX1_clearFound.desc).map (fun d => d.parameters.length) = some 0 := by decide +kernel
def rmX1_clear : Room := { frames := 1, cells := 0, slots := 0, locals := 21 }
theorem hd_X1_clear : yX1_clear.cls ≠ "java/lang/invoke/MethodHandle" ∧ yX1_clear.cls ≠ "java/lang/invoke/VarHandle" ∧ (parseMethodDescriptor yX1_clear.desc).map (fun d => d.parameters.length) = some 1 := by decide +kernel
def rmX1_takeFrom : Room := { frames := 0, cells := 0, slots := 0, locals := 0 }
theorem hd_X1_takeFrom : yX1_takeFrom.cls ≠ "java/lang/invoke/MethodHandle" ∧ yX1_takeFrom.cls ≠ "java/lang/invoke/VarHandle" ∧ (parseMethodDescriptor yX1_takeFrom.desc).map (fun d => d.parameters.length) = some 1 := by decide +kernel
def rmX1_peopleOf : Room := { frames := 0, cells := 0, slots := 0, locals := 0 }
theorem hd_X1_peopleOf : yX1_peopleOf.cls ≠ "java/lang/invoke/MethodHandle" ∧ yX1_peopleOf.cls ≠ "java/lang/invoke/VarHandle" ∧ (parseMethodDescriptor yX1_peopleOf.desc).map (fun d => d.parameters.length) = some 1 := by decide +kernel
def rmX1_thingsLaid : Room := { frames := 1, cells := 0, slots := 0, locals := 20 }
theorem hd_X1_thingsLaid : yX1_thingsLaid.cls ≠ "java/lang/invoke/MethodHandle" ∧ yX1_thingsLaid.cls ≠ "java/lang/invoke/VarHandle" ∧ (parseMethodDescriptor yX1_thingsLaid.desc).map (fun d => d.parameters.length) = some 0 := by decide +kernel
def rmX2_letter : Room := { frames := 0, cells := 0, slots := 0, locals := 0 }
theorem hd_X2_letter : yX2_letter.cls ≠ "java/lang/invoke/MethodHandle" ∧ yX2_letter.cls ≠ "java/lang/invoke/VarHandle" ∧ (parseMethodDescriptor yX2_letter.desc).map (fun d => d.parameters.length) = some 1 := by decide +kernel
def rmX2_blank : Room := { frames := 0, cells := 0, slots := 0, locals := 0 }
theorem hd_X2_blank : yX2_blank.cls ≠ "java/lang/invoke/MethodHandle" ∧ yX2_blank.cls ≠ "java/lang/invoke/VarHandle" ∧ (parseMethodDescriptor yX2_blank.desc).map (fun d => d.parameters.length) = some 0 := by decide +kernel
def rmX2_fits : Room := { frames := 0, cells := 0, slots := 0, locals := 0 }
theorem hd_X2_fits : yX2_fits.cls ≠ "java/lang/invoke/MethodHandle" ∧ yX2_fits.cls ≠ "java/lang/invoke/VarHandle" ∧ (parseMethodDescriptor yX2_fits.desc).map (fun d => d.parameters.length) = some 2 := by decide +kernel
def rmX2_fittingLetters : Room := { frames := 1, cells := 0, slots := 0, locals := 21 }
theorem hd_X2_fittingLetters : yX2_fittingLetters.cls ≠ "java/lang/invoke/MethodHandle" ∧ yX2_fittingLetters.cls ≠ "java/lang/invoke/VarHandle" ∧ (parseMethodDescriptor yX2_fittingLetters.desc).map (fun d => d.parameters.length) = some 0 := by decide +kernel
def rmX2_fault : Room := { frames := 2, cells := 0, slots := 0, locals := 42 }
theorem hd_X2_fault : yX2_fault.cls ≠ "java/lang/invoke/MethodHandle" ∧ yX2_fault.cls ≠ "java/lang/invoke/VarHandle" ∧ (parseMethodDescriptor yX2_fault.desc).map (fun d => d.parameters.length) = some 0 := by decide +kernel
def rmX2_delayByLetter : Room := { frames := 0, cells := 0, slots := 0, locals := 0 }
theorem hd_X2_delayByLetter : yX2_delayByLetter.cls ≠ "java/lang/invoke/MethodHandle" ∧ yX2_delayByLetter.cls ≠ "java/lang/invoke/VarHandle" ∧ (parseMethodDescriptor yX2_delayByLetter.desc).map (fun d => d.parameters.length) = some 1 := by decide +kernel
def rmX2_chest : Room := { frames := 2, cells := 0, slots := 0, locals := 43 }
theorem hd_X2_chest : yX2_chest.cls ≠ "java/lang/invoke/MethodHandle" ∧ yX2_chest.cls ≠ "java/lang/invoke/VarHandle" ∧ (parseMethodDescriptor yX2_chest.desc).map (fun d => d.parameters.length) = some 0 := by decide +kernel
def rmX2_face : Room := { frames := 0, cells := 0, slots := 0, locals := 0 }
theorem hd_X2_face : yX2_face.cls ≠ "java/lang/invoke/MethodHandle" ∧ yX2_face.cls ≠ "java/lang/invoke/VarHandle" ∧ (parseMethodDescriptor yX2_face.desc).map (fun d => d.parameters.length) = some 1 := by decide +kernel
def rmX2_isDrawer : Room := { frames := 0, cells := 0, slots := 0, locals := 0 }
theorem hd_X2_isDrawer : yX2_isDrawer.cls ≠ "java/lang/invoke/MethodHandle" ∧ yX2_isDrawer.cls ≠ "java/lang/invoke/VarHandle" ∧ (parseMethodDescriptor yX2_isDrawer.desc).map (fun d => d.parameters.length) = some 1 := by decide +kernel
def rmX2_aheadOf : Room := { frames := 0, cells := 0, slots := 0, locals := 0 }
theorem hd_X2_aheadOf : yX2_aheadOf.cls ≠ "java/lang/invoke/MethodHandle" ∧ yX2_aheadOf.cls ≠ "java/lang/invoke/VarHandle" ∧ (parseMethodDescriptor yX2_aheadOf.desc).map (fun d => d.parameters.length) = some 1 := by decide +kernel
def rmX2_courseWithout : Room := { frames := 2, cells := 0, slots := 0, locals := 43 }
theorem hd_X2_courseWithout : yX2_courseWithout.cls ≠ "java/lang/invoke/MethodHandle" ∧ yX2_courseWithout.cls ≠ "java/lang/invoke/VarHandle" ∧ (parseMethodDescriptor yX2_courseWithout.desc).map (fun d => d.parameters.length) = some 2 := by decide +kernel
def rmX2_courseOf : Room := { frames := 3, cells := 0, slots := 0, locals := 66 }
theorem hd_X2_courseOf : yX2_courseOf.cls ≠ "java/lang/invoke/MethodHandle" ∧ yX2_courseOf.cls ≠ "java/lang/invoke/VarHandle" ∧ (parseMethodDescriptor yX2_courseOf.desc).map (fun d => d.parameters.length) = some 1 := by decide +kernel
def rmX2_drawer : Room := { frames := 4, cells := 0, slots := 0, locals := 88 }
theorem hd_X2_drawer : yX2_drawer.cls ≠ "java/lang/invoke/MethodHandle" ∧ yX2_drawer.cls ≠ "java/lang/invoke/VarHandle" ∧ (parseMethodDescriptor yX2_drawer.desc).map (fun d => d.parameters.length) = some 2 := by decide +kernel
def rmX2_isKind : Room := { frames := 0, cells := 0, slots := 0, locals := 0 }
theorem hd_X2_isKind : yX2_isKind.cls ≠ "java/lang/invoke/MethodHandle" ∧ yX2_isKind.cls ≠ "java/lang/invoke/VarHandle" ∧ (parseMethodDescriptor yX2_isKind.desc).map (fun d => d.parameters.length) = some 1 := by decide +kernel
def rmX2_isDay : Room := { frames := 0, cells := 0, slots := 0, locals := 0 }
theorem hd_X2_isDay : yX2_isDay.cls ≠ "java/lang/invoke/MethodHandle" ∧ yX2_isDay.cls ≠ "java/lang/invoke/VarHandle" ∧ (parseMethodDescriptor yX2_isDay.desc).map (fun d => d.parameters.length) = some 1 := by decide +kernel
def rmX2_person : Room := { frames := 1, cells := 0, slots := 0, locals := 21 }
theorem hd_X2_person : yX2_person.cls ≠ "java/lang/invoke/MethodHandle" ∧ yX2_person.cls ≠ "java/lang/invoke/VarHandle" ∧ (parseMethodDescriptor yX2_person.desc).map (fun d => d.parameters.length) = some 3 := by decide +kernel
def rmX2_isPerson : Room := { frames := 0, cells := 0, slots := 0, locals := 0 }
theorem hd_X2_isPerson : yX2_isPerson.cls ≠ "java/lang/invoke/MethodHandle" ∧ yX2_isPerson.cls ≠ "java/lang/invoke/VarHandle" ∧ (parseMethodDescriptor yX2_isPerson.desc).map (fun d => d.parameters.length) = some 1 := by decide +kernel
def rmX2_about : Room := { frames := 1, cells := 0, slots := 0, locals := 21 }
theorem hd_X2_about : yX2_about.cls ≠ "java/lang/invoke/MethodHandle" ∧ yX2_about.cls ≠ "java/lang/invoke/VarHandle" ∧ (parseMethodDescriptor yX2_about.desc).map (fun d => d.parameters.length) = some 2 := by decide +kernel
def rmX2_isOfKind : Room := { frames := 0, cells := 0, slots := 0, locals := 0 }
theorem hd_X2_isOfKind : yX2_isOfKind.cls ≠ "java/lang/invoke/MethodHandle" ∧ yX2_isOfKind.cls ≠ "java/lang/invoke/VarHandle" ∧ (parseMethodDescriptor yX2_isOfKind.desc).map (fun d => d.parameters.length) = some 2 := by decide +kernel
def rmX2_as : Room := { frames := 1, cells := 0, slots := 0, locals := 21 }
theorem hd_X2_as : yX2_as.cls ≠ "java/lang/invoke/MethodHandle" ∧ yX2_as.cls ≠ "java/lang/invoke/VarHandle" ∧ (parseMethodDescriptor yX2_as.desc).map (fun d => d.parameters.length) = some 2 := by decide +kernel
def rmX2_move : Room := { frames := 1, cells := 0, slots := 0, locals := 21 }
theorem hd_X2_move : yX2_move.cls ≠ "java/lang/invoke/MethodHandle" ∧ yX2_move.cls ≠ "java/lang/invoke/VarHandle" ∧ (parseMethodDescriptor yX2_move.desc).map (fun d => d.parameters.length) = some 2 := by decide +kernel
def rmX2_lay : Room := { frames := 1, cells := 0, slots := 0, locals := 21 }
theorem hd_X2_lay : yX2_lay.cls ≠ "java/lang/invoke/MethodHandle" ∧ yX2_lay.cls ≠ "java/lang/invoke/VarHandle" ∧ (parseMethodDescriptor yX2_lay.desc).map (fun d => d.parameters.length) = some 3 := by decide +kernel
def rmX2_agrees : Room := { frames := 3, cells := 0, slots := 0, locals := 66 }
theorem hd_X2_agrees : yX2_agrees.cls ≠ "java/lang/invoke/MethodHandle" ∧ yX2_agrees.cls ≠ "java/lang/invoke/VarHandle" ∧ (parseMethodDescriptor yX2_agrees.desc).map (fun d => d.parameters.length) = some 2 := by decide +kernel
def rmX2_sure : Room := { frames := 4, cells := 0, slots := 0, locals := 88 }
theorem hd_X2_sure : yX2_sure.cls ≠ "java/lang/invoke/MethodHandle" ∧ yX2_sure.cls ≠ "java/lang/invoke/VarHandle" ∧ (parseMethodDescriptor yX2_sure.desc).map (fun d => d.parameters.length) = some 2 := by decide +kernel
def rmX2_fewestLaid : Room := { frames := 3, cells := 0, slots := 0, locals := 64 }
theorem hd_X2_fewestLaid : yX2_fewestLaid.cls ≠ "java/lang/invoke/MethodHandle" ∧ yX2_fewestLaid.cls ≠ "java/lang/invoke/VarHandle" ∧ (parseMethodDescriptor yX2_fewestLaid.desc).map (fun d => d.parameters.length) = some 2 := by decide +kernel
def rmX2_few : Room := { frames := 4, cells := 0, slots := 0, locals := 87 }
theorem hd_X2_few : yX2_few.cls ≠ "java/lang/invoke/MethodHandle" ∧ yX2_few.cls ≠ "java/lang/invoke/VarHandle" ∧ (parseMethodDescriptor yX2_few.desc).map (fun d => d.parameters.length) = some 3 := by decide +kernel
def rmX2_found : Room := { frames := 1, cells := 0, slots := 0, locals := 21 }
theorem hd_X2_found : yX2_found.cls ≠ "java/lang/invoke/MethodHandle" ∧ yX2_found.cls ≠ "java/lang/invoke/VarHandle" ∧ (parseMethodDescriptor yX2_found.desc).map (fun d => d.parameters.length) = some 3 := by decide +kernel
def rmX2_forget : Room := { frames := 1, cells := 0, slots := 0, locals := 21 }
theorem hd_X2_forget : yX2_forget.cls ≠ "java/lang/invoke/MethodHandle" ∧ yX2_forget.cls ≠ "java/lang/invoke/VarHandle" ∧ (parseMethodDescriptor yX2_forget.desc).map (fun d => d.parameters.length) = some 0 := by decide +kernel
def rmX2_isAsFound : Room := { frames := 1, cells := 0, slots := 0, locals := 22 }
theorem hd_X2_isAsFound : yX2_isAsFound.cls ≠ "java/lang/invoke/MethodHandle" ∧ yX2_isAsFound.cls ≠ "java/lang/invoke/VarHandle" ∧ (parseMethodDescriptor yX2_isAsFound.desc).map (fun d => d.parameters.length) = some 2 := by decide +kernel
def rmX2_delays : Room := { frames := 3, cells := 0, slots := 0, locals := 66 }
theorem hd_X2_delays : yX2_delays.cls ≠ "java/lang/invoke/MethodHandle" ∧ yX2_delays.cls ≠ "java/lang/invoke/VarHandle" ∧ (parseMethodDescriptor yX2_delays.desc).map (fun d => d.parameters.length) = some 1 := by decide +kernel
def rmX2_canBe : Room := { frames := 3, cells := 0, slots := 0, locals := 66 }
theorem hd_X2_canBe : yX2_canBe.cls ≠ "java/lang/invoke/MethodHandle" ∧ yX2_canBe.cls ≠ "java/lang/invoke/VarHandle" ∧ (parseMethodDescriptor yX2_canBe.desc).map (fun d => d.parameters.length) = some 3 := by decide +kernel
def rmX2_who : Room := { frames := 4, cells := 0, slots := 0, locals := 91 }
theorem hd_X2_who : yX2_who.cls ≠ "java/lang/invoke/MethodHandle" ∧ yX2_who.cls ≠ "java/lang/invoke/VarHandle" ∧ (parseMethodDescriptor yX2_who.desc).map (fun d => d.parameters.length) = some 2 := by decide +kernel
def rmX2_nextSeed : Room := { frames := 0, cells := 0, slots := 0, locals := 0 }
theorem hd_X2_nextSeed : yX2_nextSeed.cls ≠ "java/lang/invoke/MethodHandle" ∧ yX2_nextSeed.cls ≠ "java/lang/invoke/VarHandle" ∧ (parseMethodDescriptor yX2_nextSeed.desc).map (fun d => d.parameters.length) = some 1 := by decide +kernel
def rmX2_drawOf : Room := { frames := 0, cells := 0, slots := 0, locals := 0 }
theorem hd_X2_drawOf : yX2_drawOf.cls ≠ "java/lang/invoke/MethodHandle" ∧ yX2_drawOf.cls ≠ "java/lang/invoke/VarHandle" ∧ (parseMethodDescriptor yX2_drawOf.desc).map (fun d => d.parameters.length) = some 2 := by decide +kernel
def rmX2_weeks : Room := { frames := 3, cells := 0, slots := 0, locals := 66 }
theorem hd_X2_weeks : yX2_weeks.cls ≠ "java/lang/invoke/MethodHandle" ∧ yX2_weeks.cls ≠ "java/lang/invoke/VarHandle" ∧ (parseMethodDescriptor yX2_weeks.desc).map (fun d => d.parameters.length) = some 3 := by decide +kernel
def rmX2_image : Room := { frames := 1, cells := 0, slots := 0, locals := 22 }
theorem hd_X2_image : yX2_image.cls ≠ "java/lang/invoke/MethodHandle" ∧ yX2_image.cls ≠ "java/lang/invoke/VarHandle" ∧ (parseMethodDescriptor yX2_image.desc).map (fun d => d.parameters.length) = some 0 := by decide +kernel
def rmX2_restore : Room := { frames := 1, cells := 0, slots := 0, locals := 22 }
theorem hd_X2_restore : yX2_restore.cls ≠ "java/lang/invoke/MethodHandle" ∧ yX2_restore.cls ≠ "java/lang/invoke/VarHandle" ∧ (parseMethodDescriptor yX2_restore.desc).map (fun d => d.parameters.length) = some 0 := by decide +kernel
def rmX2_drawersThatAgree : Room := { frames := 4, cells := 0, slots := 0, locals := 88 }
theorem hd_X2_drawersThatAgree : yX2_drawersThatAgree.cls ≠ "java/lang/invoke/MethodHandle" ∧ yX2_drawersThatAgree.cls ≠ "java/lang/invoke/VarHandle" ∧ (parseMethodDescriptor yX2_drawersThatAgree.desc).map (fun d => d.parameters.length) = some 0 := by decide +kernel
def rmX2_count : Room := { frames := 5, cells := 0, slots := 0, locals := 110 }
theorem hd_X2_count : yX2_count.cls ≠ "java/lang/invoke/MethodHandle" ∧ yX2_count.cls ≠ "java/lang/invoke/VarHandle" ∧ (parseMethodDescriptor yX2_count.desc).map (fun d => d.parameters.length) = some 1 := by decide +kernel
def rmX2_digestOfDrawer : Room := { frames := 5, cells := 0, slots := 0, locals := 110 }
theorem hd_X2_digestOfDrawer : yX2_digestOfDrawer.cls ≠ "java/lang/invoke/MethodHandle" ∧ yX2_digestOfDrawer.cls ≠ "java/lang/invoke/VarHandle" ∧ (parseMethodDescriptor yX2_digestOfDrawer.desc).map (fun d => d.parameters.length) = some 2 := by decide +kernel
def rmX2_digestOfPerson : Room := { frames := 5, cells := 0, slots := 0, locals := 117 }
theorem hd_X2_digestOfPerson : yX2_digestOfPerson.cls ≠ "java/lang/invoke/MethodHandle" ∧ yX2_digestOfPerson.cls ≠ "java/lang/invoke/VarHandle" ∧ (parseMethodDescriptor yX2_digestOfPerson.desc).map (fun d => d.parameters.length) = some 2 := by decide +kernel
def rmX2_digest : Room := { frames := 6, cells := 0, slots := 0, locals := 143 }
theorem hd_X2_digest : yX2_digest.cls ≠ "java/lang/invoke/MethodHandle" ∧ yX2_digest.cls ≠ "java/lang/invoke/VarHandle" ∧ (parseMethodDescriptor yX2_digest.desc).map (fun d => d.parameters.length) = some 0 := by decide +kernel
def rmX3_within : Room := { frames := 0, cells := 0, slots := 0, locals := 0 }
theorem hd_X3_within : yX3_within.cls ≠ "java/lang/invoke/MethodHandle" ∧ yX3_within.cls ≠ "java/lang/invoke/VarHandle" ∧ (parseMethodDescriptor yX3_within.desc).map (fun d => d.parameters.length) = some 3 := by decide +kernel
def rmX3_has : Room := { frames := 0, cells := 0, slots := 0, locals := 0 }
theorem hd_X3_has : yX3_has.cls ≠ "java/lang/invoke/MethodHandle" ∧ yX3_has.cls ≠ "java/lang/invoke/VarHandle" ∧ (parseMethodDescriptor yX3_has.desc).map (fun d => d.parameters.length) = some 2 := by decide +kernel
def rmX3_size : Room := { frames := 0, cells := 0, slots := 0, locals := 0 }
theorem hd_X3_size : yX3_size.cls ≠ "java/lang/invoke/MethodHandle" ∧ yX3_size.cls ≠ "java/lang/invoke/VarHandle" ∧ (parseMethodDescriptor yX3_size.desc).map (fun d => d.parameters.length) = some 1 := by decide +kernel
def rmX3_letter : Room := { frames := 1, cells := 0, slots := 0, locals := 22 }
theorem hd_X3_letter : yX3_letter.cls ≠ "java/lang/invoke/MethodHandle" ∧ yX3_letter.cls ≠ "java/lang/invoke/VarHandle" ∧ (parseMethodDescriptor yX3_letter.desc).map (fun d => d.parameters.length) = some 1 := by decide +kernel
def rmX3_blank : Room := { frames := 0, cells := 0, slots := 0, locals := 0 }
theorem hd_X3_blank : yX3_blank.cls ≠ "java/lang/invoke/MethodHandle" ∧ yX3_blank.cls ≠ "java/lang/invoke/VarHandle" ∧ (parseMethodDescriptor yX3_blank.desc).map (fun d => d.parameters.length) = some 0 := by decide +kernel
def rmX3_delayBy : Room := { frames := 0, cells := 0, slots := 0, locals := 0 }
theorem hd_X3_delayBy : yX3_delayBy.cls ≠ "java/lang/invoke/MethodHandle" ∧ yX3_delayBy.cls ≠ "java/lang/invoke/VarHandle" ∧ (parseMethodDescriptor yX3_delayBy.desc).map (fun d => d.parameters.length) = some 1 := by decide +kernel
def rmX3_faultNow : Room := { frames := 1, cells := 0, slots := 0, locals := 22 }
theorem hd_X3_faultNow : yX3_faultNow.cls ≠ "java/lang/invoke/MethodHandle" ∧ yX3_faultNow.cls ≠ "java/lang/invoke/VarHandle" ∧ (parseMethodDescriptor yX3_faultNow.desc).map (fun d => d.parameters.length) = some 0 := by decide +kernel
def rmX3_fault : Room := { frames := 2, cells := 0, slots := 0, locals := 43 }
theorem hd_X3_fault : yX3_fault.cls ≠ "java/lang/invoke/MethodHandle" ∧ yX3_fault.cls ≠ "java/lang/invoke/VarHandle" ∧ (parseMethodDescriptor yX3_fault.desc).map (fun d => d.parameters.length) = some 0 := by decide +kernel
def rmX3_chest : Room := { frames := 2, cells := 0, slots := 0, locals := 43 }
theorem hd_X3_chest : yX3_chest.cls ≠ "java/lang/invoke/MethodHandle" ∧ yX3_chest.cls ≠ "java/lang/invoke/VarHandle" ∧ (parseMethodDescriptor yX3_chest.desc).map (fun d => d.parameters.length) = some 0 := by decide +kernel
def rmX3_face : Room := { frames := 1, cells := 0, slots := 0, locals := 22 }
theorem hd_X3_face : yX3_face.cls ≠ "java/lang/invoke/MethodHandle" ∧ yX3_face.cls ≠ "java/lang/invoke/VarHandle" ∧ (parseMethodDescriptor yX3_face.desc).map (fun d => d.parameters.length) = some 1 := by decide +kernel
def rmX3_isDrawer : Room := { frames := 1, cells := 0, slots := 0, locals := 22 }
theorem hd_X3_isDrawer : yX3_isDrawer.cls ≠ "java/lang/invoke/MethodHandle" ∧ yX3_isDrawer.cls ≠ "java/lang/invoke/VarHandle" ∧ (parseMethodDescriptor yX3_isDrawer.desc).map (fun d => d.parameters.length) = some 1 := by decide +kernel
def rmX3_isDay : Room := { frames := 1, cells := 0, slots := 0, locals := 22 }
theorem hd_X3_isDay : yX3_isDay.cls ≠ "java/lang/invoke/MethodHandle" ∧ yX3_isDay.cls ≠ "java/lang/invoke/VarHandle" ∧ (parseMethodDescriptor yX3_isDay.desc).map (fun d => d.parameters.length) = some 1 := by decide +kernel
def rmX3_aheadOf : Room := { frames := 0, cells := 0, slots := 0, locals := 0 }
theorem hd_X3_aheadOf : yX3_aheadOf.cls ≠ "java/lang/invoke/MethodHandle" ∧ yX3_aheadOf.cls ≠ "java/lang/invoke/VarHandle" ∧ (parseMethodDescriptor yX3_aheadOf.desc).map (fun d => d.parameters.length) = some 1 := by decide +kernel
def rmX3_puts : Room := { frames := 0, cells := 0, slots := 0, locals := 0 }
theorem hd_X3_puts : yX3_puts.cls ≠ "java/lang/invoke/MethodHandle" ∧ yX3_puts.cls ≠ "java/lang/invoke/VarHandle" ∧ (parseMethodDescriptor yX3_puts.desc).map (fun d => d.parameters.length) = some 4 := by decide +kernel
def rmX3_putBy : Room := { frames := 1, cells := 0, slots := 0, locals := 23 }
theorem hd_X3_putBy : yX3_putBy.cls ≠ "java/lang/invoke/MethodHandle" ∧ yX3_putBy.cls ≠ "java/lang/invoke/VarHandle" ∧ (parseMethodDescriptor yX3_putBy.desc).map (fun d => d.parameters.length) = some 2 := by decide +kernel
def rmX3_firstWrong : Room := { frames := 2, cells := 0, slots := 0, locals := 48 }
theorem hd_X3_firstWrong : yX3_firstWrong.cls ≠ "java/lang/invoke/MethodHandle" ∧ yX3_firstWrong.cls ≠ "java/lang/invoke/VarHandle" ∧ (parseMethodDescriptor yX3_firstWrong.desc).map (fun d => d.parameters.length) = some 4 := by decide +kernel
def rmX3_isSo : Room := { frames := 3, cells := 0, slots := 0, locals := 75 }
theorem hd_X3_isSo : yX3_isSo.cls ≠ "java/lang/invoke/MethodHandle" ∧ yX3_isSo.cls ≠ "java/lang/invoke/VarHandle" ∧ (parseMethodDescriptor yX3_isSo.desc).map (fun d => d.parameters.length) = some 2 := by decide +kernel
def rmX3_agreeing : Room := { frames := 4, cells := 0, slots := 0, locals := 97 }
theorem hd_X3_agreeing : yX3_agreeing.cls ≠ "java/lang/invoke/MethodHandle" ∧ yX3_agreeing.cls ≠ "java/lang/invoke/VarHandle" ∧ (parseMethodDescriptor yX3_agreeing.desc).map (fun d => d.parameters.length) = some 1 := by decide +kernel
def rmX3_cannotOf : Room := { frames := 3, cells := 0, slots := 0, locals := 75 }
theorem hd_X3_cannotOf : yX3_cannotOf.cls ≠ "java/lang/invoke/MethodHandle" ∧ yX3_cannotOf.cls ≠ "java/lang/invoke/VarHandle" ∧ (parseMethodDescriptor yX3_cannotOf.desc).map (fun d => d.parameters.length) = some 1 := by decide +kernel
def rmX3_leastOf : Room := { frames := 4, cells := 0, slots := 0, locals := 97 }
theorem hd_X3_leastOf : yX3_leastOf.cls ≠ "java/lang/invoke/MethodHandle" ∧ yX3_leastOf.cls ≠ "java/lang/invoke/VarHandle" ∧ (parseMethodDescriptor yX3_leastOf.desc).map (fun d => d.parameters.length) = some 1 := by decide +kernel
def rmX3_peopleOf : Room := { frames := 0, cells := 0, slots := 0, locals := 0 }
theorem hd_X3_peopleOf : yX3_peopleOf.cls ≠ "java/lang/invoke/MethodHandle" ∧ yX3_peopleOf.cls ≠ "java/lang/invoke/VarHandle" ∧ (parseMethodDescriptor yX3_peopleOf.desc).map (fun d => d.parameters.length) = some 1 := by decide +kernel
def rmX3_drawerNow : Room := { frames := 5, cells := 0, slots := 0, locals := 120 }
theorem hd_X3_drawerNow : yX3_drawerNow.cls ≠ "java/lang/invoke/MethodHandle" ∧ yX3_drawerNow.cls ≠ "java/lang/invoke/VarHandle" ∧ (parseMethodDescriptor yX3_drawerNow.desc).map (fun d => d.parameters.length) = some 2 := by decide +kernel
def rmX3_drawer : Room := { frames := 6, cells := 0, slots := 0, locals := 142 }
theorem hd_X3_drawer : yX3_drawer.cls ≠ "java/lang/invoke/MethodHandle" ∧ yX3_drawer.cls ≠ "java/lang/invoke/VarHandle" ∧ (parseMethodDescriptor yX3_drawer.desc).map (fun d => d.parameters.length) = some 2 := by decide +kernel
def rmX3_isPerson : Room := { frames := 1, cells := 0, slots := 0, locals := 22 }
theorem hd_X3_isPerson : yX3_isPerson.cls ≠ "java/lang/invoke/MethodHandle" ∧ yX3_isPerson.cls ≠ "java/lang/invoke/VarHandle" ∧ (parseMethodDescriptor yX3_isPerson.desc).map (fun d => d.parameters.length) = some 1 := by decide +kernel
def rmX3_person : Room := { frames := 2, cells := 0, slots := 0, locals := 43 }
theorem hd_X3_person : yX3_person.cls ≠ "java/lang/invoke/MethodHandle" ∧ yX3_person.cls ≠ "java/lang/invoke/VarHandle" ∧ (parseMethodDescriptor yX3_person.desc).map (fun d => d.parameters.length) = some 3 := by decide +kernel
def rmX3_personNow : Room := { frames := 1, cells := 0, slots := 0, locals := 23 }
theorem hd_X3_personNow : yX3_personNow.cls ≠ "java/lang/invoke/MethodHandle" ∧ yX3_personNow.cls ≠ "java/lang/invoke/VarHandle" ∧ (parseMethodDescriptor yX3_personNow.desc).map (fun d => d.parameters.length) = some 2 := by decide +kernel
def rmX3_about : Room := { frames := 2, cells := 0, slots := 0, locals := 45 }
theorem hd_X3_about : yX3_about.cls ≠ "java/lang/invoke/MethodHandle" ∧ yX3_about.cls ≠ "java/lang/invoke/VarHandle" ∧ (parseMethodDescriptor yX3_about.desc).map (fun d => d.parameters.length) = some 2 := by decide +kernel
def rmX3_as : Room := { frames := 2, cells := 0, slots := 0, locals := 43 }
theorem hd_X3_as : yX3_as.cls ≠ "java/lang/invoke/MethodHandle" ∧ yX3_as.cls ≠ "java/lang/invoke/VarHandle" ∧ (parseMethodDescriptor yX3_as.desc).map (fun d => d.parameters.length) = some 2 := by decide +kernel
def rmX3_move : Room := { frames := 2, cells := 0, slots := 0, locals := 43 }
theorem hd_X3_move : yX3_move.cls ≠ "java/lang/invoke/MethodHandle" ∧ yX3_move.cls ≠ "java/lang/invoke/VarHandle" ∧ (parseMethodDescriptor yX3_move.desc).map (fun d => d.parameters.length) = some 2 := by decide +kernel
def rmX3_lay : Room := { frames := 2, cells := 0, slots := 0, locals := 43 }
theorem hd_X3_lay : yX3_lay.cls ≠ "java/lang/invoke/MethodHandle" ∧ yX3_lay.cls ≠ "java/lang/invoke/VarHandle" ∧ (parseMethodDescriptor yX3_lay.desc).map (fun d => d.parameters.length) = some 3 := by decide +kernel
def rmX3_agrees : Room := { frames := 4, cells := 0, slots := 0, locals := 97 }
theorem hd_X3_agrees : yX3_agrees.cls ≠ "java/lang/invoke/MethodHandle" ∧ yX3_agrees.cls ≠ "java/lang/invoke/VarHandle" ∧ (parseMethodDescriptor yX3_agrees.desc).map (fun d => d.parameters.length) = some 2 := by decide +kernel
def rmX3_sureNow : Room := { frames := 4, cells := 0, slots := 0, locals := 97 }
theorem hd_X3_sureNow : yX3_sureNow.cls ≠ "java/lang/invoke/MethodHandle" ∧ yX3_sureNow.cls ≠ "java/lang/invoke/VarHandle" ∧ (parseMethodDescriptor yX3_sureNow.desc).map (fun d => d.parameters.length) = some 2 := by decide +kernel
def rmX3_sure : Room := { frames := 5, cells := 0, slots := 0, locals := 121 }
theorem hd_X3_sure : yX3_sure.cls ≠ "java/lang/invoke/MethodHandle" ∧ yX3_sure.cls ≠ "java/lang/invoke/VarHandle" ∧ (parseMethodDescriptor yX3_sure.desc).map (fun d => d.parameters.length) = some 2 := by decide +kernel
def rmX3_isEnough : Room := { frames := 3, cells := 0, slots := 0, locals := 75 }
theorem hd_X3_isEnough : yX3_isEnough.cls ≠ "java/lang/invoke/MethodHandle" ∧ yX3_isEnough.cls ≠ "java/lang/invoke/VarHandle" ∧ (parseMethodDescriptor yX3_isEnough.desc).map (fun d => d.parameters.length) = some 3 := by decide +kernel
def rmX3_fewNow : Room := { frames := 4, cells := 0, slots := 0, locals := 101 }
theorem hd_X3_fewNow : yX3_fewNow.cls ≠ "java/lang/invoke/MethodHandle" ∧ yX3_fewNow.cls ≠ "java/lang/invoke/VarHandle" ∧ (parseMethodDescriptor yX3_fewNow.desc).map (fun d => d.parameters.length) = some 3 := by decide +kernel
def rmX3_few : Room := { frames := 5, cells := 0, slots := 0, locals := 127 }
theorem hd_X3_few : yX3_few.cls ≠ "java/lang/invoke/MethodHandle" ∧ yX3_few.cls ≠ "java/lang/invoke/VarHandle" ∧ (parseMethodDescriptor yX3_few.desc).map (fun d => d.parameters.length) = some 3 := by decide +kernel
def rmX3_found : Room := { frames := 2, cells := 0, slots := 0, locals := 43 }
theorem hd_X3_found : yX3_found.cls ≠ "java/lang/invoke/MethodHandle" ∧ yX3_found.cls ≠ "java/lang/invoke/VarHandle" ∧ (parseMethodDescriptor yX3_found.desc).map (fun d => d.parameters.length) = some 3 := by decide +kernel
def rmX3_forget : Room := { frames := 0, cells := 0, slots := 0, locals := 0 }
theorem hd_X3_forget : yX3_forget.cls ≠ "java/lang/invoke/MethodHandle" ∧ yX3_forget.cls ≠ "java/lang/invoke/VarHandle" ∧ (parseMethodDescriptor yX3_forget.desc).map (fun d => d.parameters.length) = some 0 := by decide +kernel
def rmX3_isFound : Room := { frames := 0, cells := 0, slots := 0, locals := 0 }
theorem hd_X3_isFound : yX3_isFound.cls ≠ "java/lang/invoke/MethodHandle" ∧ yX3_isFound.cls ≠ "java/lang/invoke/VarHandle" ∧ (parseMethodDescriptor yX3_isFound.desc).map (fun d => d.parameters.length) = some 2 := by decide +kernel
def rmX3_anyBy : Room := { frames := 3, cells := 0, slots := 0, locals := 75 }
theorem hd_X3_anyBy : yX3_anyBy.cls ≠ "java/lang/invoke/MethodHandle" ∧ yX3_anyBy.cls ≠ "java/lang/invoke/VarHandle" ∧ (parseMethodDescriptor yX3_anyBy.desc).map (fun d => d.parameters.length) = some 2 := by decide +kernel
def rmX3_delaysOf : Room := { frames := 4, cells := 0, slots := 0, locals := 99 }
theorem hd_X3_delaysOf : yX3_delaysOf.cls ≠ "java/lang/invoke/MethodHandle" ∧ yX3_delaysOf.cls ≠ "java/lang/invoke/VarHandle" ∧ (parseMethodDescriptor yX3_delaysOf.desc).map (fun d => d.parameters.length) = some 1 := by decide +kernel
def rmX3_delays : Room := { frames := 5, cells := 0, slots := 0, locals := 122 }
theorem hd_X3_delays : yX3_delays.cls ≠ "java/lang/invoke/MethodHandle" ∧ yX3_delays.cls ≠ "java/lang/invoke/VarHandle" ∧ (parseMethodDescriptor yX3_delays.desc).map (fun d => d.parameters.length) = some 1 := by decide +kernel
def rmX3_whoNow : Room := { frames := 4, cells := 0, slots := 0, locals := 99 }
theorem hd_X3_whoNow : yX3_whoNow.cls ≠ "java/lang/invoke/MethodHandle" ∧ yX3_whoNow.cls ≠ "java/lang/invoke/VarHandle" ∧ (parseMethodDescriptor yX3_whoNow.desc).map (fun d => d.parameters.length) = some 2 := by decide +kernel
def rmX3_who : Room := { frames := 5, cells := 0, slots := 0, locals := 127 }
theorem hd_X3_who : yX3_who.cls ≠ "java/lang/invoke/MethodHandle" ∧ yX3_who.cls ≠ "java/lang/invoke/VarHandle" ∧ (parseMethodDescriptor yX3_who.desc).map (fun d => d.parameters.length) = some 2 := by decide +kernel
def rmX3_draw : Room := { frames := 0, cells := 0, slots := 0, locals := 0 }
theorem hd_X3_draw : yX3_draw.cls ≠ "java/lang/invoke/MethodHandle" ∧ yX3_draw.cls ≠ "java/lang/invoke/VarHandle" ∧ (parseMethodDescriptor yX3_draw.desc).map (fun d => d.parameters.length) = some 1 := by decide +kernel
def rmX3_anyLaid : Room := { frames := 3, cells := 0, slots := 0, locals := 75 }
theorem hd_X3_anyLaid : yX3_anyLaid.cls ≠ "java/lang/invoke/MethodHandle" ∧ yX3_anyLaid.cls ≠ "java/lang/invoke/VarHandle" ∧ (parseMethodDescriptor yX3_anyLaid.desc).map (fun d => d.parameters.length) = some 2 := by decide +kernel
def rmX3_weeksNow : Room := { frames := 4, cells := 0, slots := 0, locals := 99 }
theorem hd_X3_weeksNow : yX3_weeksNow.cls ≠ "java/lang/invoke/MethodHandle" ∧ yX3_weeksNow.cls ≠ "java/lang/invoke/VarHandle" ∧ (parseMethodDescriptor yX3_weeksNow.desc).map (fun d => d.parameters.length) = some 3 := by decide +kernel
def rmX3_weeks : Room := { frames := 5, cells := 0, slots := 0, locals := 126 }
theorem hd_X3_weeks : yX3_weeks.cls ≠ "java/lang/invoke/MethodHandle" ∧ yX3_weeks.cls ≠ "java/lang/invoke/VarHandle" ∧ (parseMethodDescriptor yX3_weeks.desc).map (fun d => d.parameters.length) = some 3 := by decide +kernel
def rmX3_image : Room := { frames := 0, cells := 0, slots := 0, locals := 0 }
theorem hd_X3_image : yX3_image.cls ≠ "java/lang/invoke/MethodHandle" ∧ yX3_image.cls ≠ "java/lang/invoke/VarHandle" ∧ (parseMethodDescriptor yX3_image.desc).map (fun d => d.parameters.length) = some 0 := by decide +kernel
def rmX3_restore : Room := { frames := 0, cells := 0, slots := 0, locals := 0 }
theorem hd_X3_restore : yX3_restore.cls ≠ "java/lang/invoke/MethodHandle" ∧ yX3_restore.cls ≠ "java/lang/invoke/VarHandle" ∧ (parseMethodDescriptor yX3_restore.desc).map (fun d => d.parameters.length) = some 0 := by decide +kernel
def rmX3_agreeingDrawers : Room := { frames := 4, cells := 0, slots := 0, locals := 99 }
theorem hd_X3_agreeingDrawers : yX3_agreeingDrawers.cls ≠ "java/lang/invoke/MethodHandle" ∧ yX3_agreeingDrawers.cls ≠ "java/lang/invoke/VarHandle" ∧ (parseMethodDescriptor yX3_agreeingDrawers.desc).map (fun d => d.parameters.length) = some 0 := by decide +kernel
def rmX3_laidAll : Room := { frames := 1, cells := 0, slots := 0, locals := 22 }
theorem hd_X3_laidAll : yX3_laidAll.cls ≠ "java/lang/invoke/MethodHandle" ∧ yX3_laidAll.cls ≠ "java/lang/invoke/VarHandle" ∧ (parseMethodDescriptor yX3_laidAll.desc).map (fun d => d.parameters.length) = some 0 := by decide +kernel
def rmX3_howMany : Room := { frames := 5, cells := 0, slots := 0, locals := 121 }
theorem hd_X3_howMany : yX3_howMany.cls ≠ "java/lang/invoke/MethodHandle" ∧ yX3_howMany.cls ≠ "java/lang/invoke/VarHandle" ∧ (parseMethodDescriptor yX3_howMany.desc).map (fun d => d.parameters.length) = some 1 := by decide +kernel
def rmX3_count : Room := { frames := 6, cells := 0, slots := 0, locals := 142 }
theorem hd_X3_count : yX3_count.cls ≠ "java/lang/invoke/MethodHandle" ∧ yX3_count.cls ≠ "java/lang/invoke/VarHandle" ∧ (parseMethodDescriptor yX3_count.desc).map (fun d => d.parameters.length) = some 1 := by decide +kernel
def rmX3_mix : Room := { frames := 0, cells := 0, slots := 0, locals := 0 }
theorem hd_X3_mix : yX3_mix.cls ≠ "java/lang/invoke/MethodHandle" ∧ yX3_mix.cls ≠ "java/lang/invoke/VarHandle" ∧ (parseMethodDescriptor yX3_mix.desc).map (fun d => d.parameters.length) = some 1 := by decide +kernel
def rmX3_mixDrawer : Room := { frames := 6, cells := 0, slots := 0, locals := 142 }
theorem hd_X3_mixDrawer : yX3_mixDrawer.cls ≠ "java/lang/invoke/MethodHandle" ∧ yX3_mixDrawer.cls ≠ "java/lang/invoke/VarHandle" ∧ (parseMethodDescriptor yX3_mixDrawer.desc).map (fun d => d.parameters.length) = some 1 := by decide +kernel
def rmX3_digest : Room := { frames := 7, cells := 0, slots := 0, locals := 164 }
theorem hd_X3_digest : yX3_digest.cls ≠ "java/lang/invoke/MethodHandle" ∧ yX3_digest.cls ≠ "java/lang/invoke/VarHandle" ∧ (parseMethodDescriptor yX3_digest.desc).map (fun d => d.parameters.length) = some 0 := by decide +kernel
