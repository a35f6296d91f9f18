/-! PURE 2: common words for class and reference -/
/-- cell -/
def ce_r (dn : Int32) (t c : Nat) : Int32 := if dn = 0 ∧ nI t ≤ 0 then (if nI c < 12 then nI c else -1) else -5
def ce_c (dn : Int32) (t c : Nat) : Nat := if (dn = 0 ∧ nI t ≤ 0) ∧ c < 12 then c + 1 else c
def ce_a (dn : Int32) (t c : Nat) (g : Nat → Int64) (v : Int64) : Nat → Int64 := if (dn = 0 ∧ nI t ≤ 0) ∧ c < 12 then vp_updL g c v else g
/-- file -/
def fi_r (dn : Int32) (t f : Nat) (x : Int32) : Int32 := if x < 0 ∨ ¬ x ≤ 2000 then -4 else if dn = 0 ∧ nI t ≤ 0 then (if nI f < 6 then nI f else -1) else -5
def fi_f (dn : Int32) (t f : Nat) (x : Int32) : Nat := if ¬ (x < 0 ∨ ¬ x ≤ 2000) ∧ (dn = 0 ∧ nI t ≤ 0) ∧ f < 6 then f + 1 else f
def fi_l (dn : Int32) (t f : Nat) (ln : Nat → Int32) (x : Int32) : Nat → Int32 := if ¬ (x < 0 ∨ ¬ x ≤ 2000) ∧ (dn = 0 ∧ nI t ≤ 0) ∧ f < 6 then upd ln f x else ln
theorem ie_nar (f : Nat) (ps ln : Nat → Int32) : narrow .boolean (.int (ie_r f ps ln)) = .int (ie_r f ps ln) := by unfold ie_r; split <;> rfl
theorem ie_s0 {i : Nat} {ps ln : Nat → Int32} (h : ie_r i ps ln = 0) : 0 = ie_r (i + 1) ps ln := by
  unfold ie_r at h ⊢
  by_cases q : ∀ j, j < i → ln j ≤ ps j
  · rw [if_pos q] at h; exact absurd h (by decide)
  · rw [if_neg (fun q2 => q (fun j hj => q2 j (by omega)))]
theorem ie_s1 {i : Nat} {ps ln : Nat → Int32} (h : ps i < ln i) : 0 = ie_r (i + 1) ps ln := (ie_no (i := i) (by omega) (cr_lt_nle h)).symm
theorem ie_s2 {i : Nat} {ps ln : Nat → Int32} (h1 : ¬ ie_r i ps ln = 0) (h : ¬ ps i < ln i) : 1 = ie_r (i + 1) ps ln := by
  refine (ie_yes (lt_s (fun j hj => ?_) (cr_nlt h))).symm
  unfold ie_r at h1
  by_cases q : ∀ j, j < i → ln j ≤ ps j
  · exact q j hj
  · rw [if_neg q] at h1; exact absurd rfl h1
/-- cut -/
def cu_dn (dn x : Int32) : Int32 := if x < 0 ∨ ¬ x ≤ 30 then dn else if x = 0 then 1 else dn
def cu_cp (cp x : Int32) : Int32 := if x < 0 ∨ ¬ x ≤ 30 then cp else x
