/-! PURE 2: common words for class and reference -/
/-- cell -/
def ce_r (dn : Int32) (t c : Nat) : Int32 := if dn = 0 ∧ nI t ≤ 0 then (if nI c < 12 then nI c else -1) else -5
def ce_c (dn : Int32) (t c : Nat) : Nat := if (dn = 0 ∧ nI t ≤ 0) ∧ c < 12 then c + 1 else c
def ce_a (dn : Int32) (t c : Nat) (g : Nat → Int64) (v : Int64) : Nat → Int64 := if (dn = 0 ∧ nI t ≤ 0) ∧ c < 12 then vp_updL g c v else g
/-- file -/
def fi_r (dn : Int32) (t f : Nat) (x : Int32) : Int32 := if x < 0 ∨ ¬ x ≤ 2000 then -4 else if dn = 0 ∧ nI t ≤ 0 then (if nI f < 6 then nI f else -1) else -5
def fi_f (dn : Int32) (t f : Nat) (x : Int32) : Nat := if ¬ (x < 0 ∨ ¬ x ≤ 2000) ∧ (dn = 0 ∧ nI t ≤ 0) ∧ f < 6 then f + 1 else f
def fi_l (dn : Int32) (t f : Nat) (ln : Nat → Int32) (x : Int32) : Nat → Int32 := if ¬ (x < 0 ∨ ¬ x ≤ 2000) ∧ (dn = 0 ∧ nI t ≤ 0) ∧ f < 6 then upd ln f x else ln
theorem ie_nar (f : Nat) (ps ln : Nat → Int32) : narrow .boolean (.int (ie_r f ps ln)) = .int (ie_r f ps ln) := by unfold ie_r; split <;> rfl
theorem ie_s0 {i : Nat} {ps ln : Nat → Int32} (h : ie_r i ps ln = 0) : 0 = ie_r (i + 1) ps ln := by
  unfold ie_r at h ⊢
  by_cases q : ∀ j, j < i → ln j ≤ ps j
  · rw [if_pos q] at h; exact absurd h (by decide)
  · rw [if_neg (fun q2 => q (fun j hj => q2 j (by omega)))]
theorem ie_s1 {i : Nat} {ps ln : Nat → Int32} (h : ps i < ln i) : 0 = ie_r (i + 1) ps ln := (ie_no (i := i) (by omega) (cr_lt_nle h)).symm
theorem ie_s2 {i : Nat} {ps ln : Nat → Int32} (h1 : ¬ ie_r i ps ln = 0) (h : ¬ ps i < ln i) : 1 = ie_r (i + 1) ps ln := by
  refine (ie_yes (lt_s (fun j hj => ?_) (cr_nlt h))).symm
  unfold ie_r at h1
  by_cases q : ∀ j, j < i → ln j ≤ ps j
  · exact q j hj
  · rw [if_neg q] at h1; exact absurd rfl h1
/-- cut -/
def cu_dn (dn x : Int32) : Int32 := if x < 0 ∨ ¬ x ≤ 30 then dn else if x = 0 then 1 else dn
def cu_cp (cp x : Int32) : Int32 := if x < 0 ∨ ¬ x ≤ 30 then cp else x
theorem cr_one {x : Int32} (h : ¬ x < 0) (h0 : ¬ x = 0) (h1 : x ≤ 1) : x = 1 := by
  obtain ⟨j, hj, rfl⟩ := nI_of h
  have h2 : j ≤ 1 := (nI_leI (a := j) (b := 1) hj (by omega)).mp h1
  have h3 : j ≠ 0 := fun q => h0 (by rw [q]; rfl)
  rw [show j = 1 by omega]; rfl
theorem cr_zero {x : Int32} (h : ¬ x < 0) (h0 : x ≤ 0) : x = 0 := by
  obtain ⟨j, hj, rfl⟩ := nI_of h
  have h2 : j ≤ 0 := (nI_leI (a := j) (b := 0) hj (by omega)).mp h0
  rw [show j = 0 by omega]; rfl
/-- the latest whole checkpoint up to the one that was told; 0 for none -/
def lwn (kw : Nat → Int32) (kb : Nat) (x : Int32) : Nat := if x < 1 ∨ nI kb < x then 0 else lw kw x.toNatClampNeg
theorem lwn_lwr (kw : Nat → Int32) (kb : Nat) (x : Int32) : lw_r kw kb x = lwI (lwn kw kb x) := by
  unfold lw_r lwn
  split
  · rfl
  · rfl
theorem lwn_le {kw : Nat → Int32} {kb : Nat} {x : Int32} (hk : kb ≤ 100) : lwn kw kb x ≤ kb := by
  unfold lwn
  by_cases q : x < 1 ∨ nI kb < x
  · rw [if_pos q]; omega
  · rw [if_neg q]
    obtain ⟨n, h1, h2, rfl, -⟩ := cr_has (x := x) hk (by rw [if_neg q]; decide)
    rw [nI_clamp (by omega)]
    exact Nat.le_trans (lw_le kw n) h2
theorem lwn_of {kw : Nat → Int32} {kb k : Nat} {x : Int32} (hkb : kb ≤ 100) (h1 : 1 ≤ k) (h2 : k ≤ 100) (h : lw_r kw kb x = nI k) : lwn kw kb x = k := by
  rw [lwn_lwr] at h
  have hle := lwn_le (kw := kw) (x := x) hkb
  unfold lwI at h
  by_cases q : lwn kw kb x = 0
  · rw [if_pos q] at h
    have h3 : (nI k).toInt = (k : Int) := nI_toInt (by omega)
    rw [← h] at h3
    have h4 : (-1 : Int32).toInt = -1 := by decide
    omega
  · rw [if_neg q] at h
    exact (nI_eq (by omega) (by omega)).mp h
theorem lwn_no {kw : Nat → Int32} {kb : Nat} {x : Int32} (hkb : kb ≤ 100) (h : lw_r kw kb x = -1) : lwn kw kb x = 0 := by
  rw [lwn_lwr] at h
  have hle := lwn_le (kw := kw) (x := x) hkb
  unfold lwI at h
  by_cases q : lwn kw kb x = 0
  · exact q
  · rw [if_neg q] at h
    have h3 : (nI (lwn kw kb x)).toInt = ((lwn kw kb x : Nat) : Int) := nI_toInt (by omega)
    rw [h] at h3
    have h4 : (-1 : Int32).toInt = -1 := by decide
    omega
