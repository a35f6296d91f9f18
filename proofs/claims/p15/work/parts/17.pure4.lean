/-! PURE 4: the reference's restart and equal -/
def mw (iw : Nat → Int32) : Nat → Nat | 0 => 0 | k + 1 => if iw (k + 1) = 0 then mw iw k else k + 1
theorem mw_z {iw : Nat → Int32} {k : Nat} (h0 : 1 ≤ k) (h : iw k = 0) : mw iw (k - 1) = mw iw k := by
  obtain ⟨j, rfl⟩ : ∃ j, k = j + 1 := ⟨k - 1, by omega⟩
  simp only [Nat.add_sub_cancel]
  simp [mw, h]
theorem mw_w {iw : Nat → Int32} {k : Nat} (h0 : 1 ≤ k) (h : ¬ iw k = 0) : mw iw k = k := by
  obtain ⟨j, rfl⟩ : ∃ j, k = j + 1 := ⟨k - 1, by omega⟩
  simp [mw, h]
def mwn (iw : Nat → Int32) (kb : Nat) (x : Int32) : Nat := if x < 1 ∨ nI kb < x then 0 else mw iw x.toNatClampNeg
/-- cells behind a restart, the first i of them done -/
def rc_c (cs fv kc : Nat → Int64) (k n i : Nat) : Nat → Int64 := fun j => if j < i then (if j < n then kc (12 * k + j) else fv j) else cs j
def rc_p (ps kp : Nat → Int32) (k g i : Nat) : Nat → Int32 := fun j => if j < i then (if j < g then kp (6 * k + j) else 0) else ps j
theorem rc_c_0 (cs fv kc : Nat → Int64) (k n : Nat) : cs = rc_c cs fv kc k n 0 := by funext j; simp [rc_c]
theorem rc_p_0 (ps kp : Nat → Int32) (k g : Nat) : ps = rc_p ps kp k g 0 := by funext j; simp [rc_p]
theorem rc_c_s1 {cs fv kc : Nat → Int64} {k n i : Nat} (h : i < n) : vp_updL (rc_c cs fv kc k n i) i (kc (12 * k + i)) = rc_c cs fv kc k n (i + 1) := by
  funext j
  simp only [vp_updL, rc_c]
  by_cases q : j = i
  · subst q; rw [if_pos rfl, if_pos (show j < j + 1 by omega), if_pos h]
  · rw [if_neg q]
    by_cases h2 : j < i
    · rw [if_pos h2, if_pos (show j < i + 1 by omega)]
    · rw [if_neg h2, if_neg (show ¬ j < i + 1 by omega)]
theorem rc_c_s0 {cs fv kc : Nat → Int64} {k n i : Nat} (h : ¬ i < n) : vp_updL (rc_c cs fv kc k n i) i (fv i) = rc_c cs fv kc k n (i + 1) := by
  funext j
  simp only [vp_updL, rc_c]
  by_cases q : j = i
  · subst q; rw [if_pos rfl, if_pos (show j < j + 1 by omega), if_neg h]
  · rw [if_neg q]
    by_cases h2 : j < i
    · rw [if_pos h2, if_pos (show j < i + 1 by omega)]
    · rw [if_neg h2, if_neg (show ¬ j < i + 1 by omega)]
theorem rc_p_s1 {ps kp : Nat → Int32} {k g i : Nat} (h : i < g) : upd (rc_p ps kp k g i) i (kp (6 * k + i)) = rc_p ps kp k g (i + 1) := by
  funext j
  simp only [upd, rc_p]
  by_cases q : j = i
  · subst q; rw [if_pos rfl, if_pos (show j < j + 1 by omega), if_pos h]
  · rw [if_neg q]
    by_cases h2 : j < i
    · rw [if_pos h2, if_pos (show j < i + 1 by omega)]
    · rw [if_neg h2, if_neg (show ¬ j < i + 1 by omega)]
theorem rc_p_s0 {ps kp : Nat → Int32} {k g i : Nat} (h : ¬ i < g) : upd (rc_p ps kp k g i) i 0 = rc_p ps kp k g (i + 1) := by
  funext j
  simp only [upd, rc_p]
  by_cases q : j = i
  · subst q; rw [if_pos rfl, if_pos (show j < j + 1 by omega), if_neg h]
  · rw [if_neg q]
    by_cases h2 : j < i
    · rw [if_pos h2, if_pos (show j < i + 1 by omega)]
    · rw [if_neg h2, if_neg (show ¬ j < i + 1 by omega)]
/-- equal of the reference: 'same' so far is b -/
def hc2 (b : Int32) (i : Nat) (cs tr : Nat → Int64) : Int32 := if b = 0 then 0 else hc_r i cs tr
theorem hc2_0 {b : Int32} {cs tr : Nat → Int64} (hb : b = 0 ∨ b = 1) : b = hc2 b 0 cs tr := by
  unfold hc2
  rcases hb with h | h <;> subst h
  · rfl
  · rw [if_neg (by decide), hc_yes (fun j hj => absurd hj (Nat.not_lt_zero j))]
theorem hc2_s0 {b : Int32} {i : Nat} {cs tr : Nat → Int64} (h : hc2 b i cs tr = 0) : 0 = hc2 b (i + 1) cs tr := by
  unfold hc2 at h ⊢
  by_cases q : b = 0
  · rw [if_pos q]
  · rw [if_neg q] at h ⊢
    unfold hc_r at h ⊢
    by_cases q2 : ∀ j, j < i → cs j = tr j
    · rw [if_pos q2] at h; exact absurd h (by decide)
    · rw [if_neg (fun q3 => q2 (fun j hj => q3 j (by omega)))]
theorem hc2_s1 {b : Int32} {i : Nat} {cs tr : Nat → Int64} (h : ¬ lg_cmp (cs i) (tr i) = 0) : 0 = hc2 b (i + 1) cs tr := by
  unfold hc2
  by_cases q : b = 0
  · rw [if_pos q]
  · rw [if_neg q, hc_no (i := i) (by omega) (fun e => h (cr_cmp0.mpr e))]
theorem hc2_s2 {b : Int32} {i : Nat} {cs tr : Nat → Int64} (h1 : ¬ hc2 b i cs tr = 0) (h : lg_cmp (cs i) (tr i) = 0) : 1 = hc2 b (i + 1) cs tr := by
  unfold hc2 at h1 ⊢
  by_cases q : b = 0
  · rw [if_pos q] at h1; exact absurd rfl h1
  · rw [if_neg q] at h1 ⊢
    refine (hc_yes (lt_s (fun j hj => ?_) (cr_cmp0.mp h))).symm
    unfold hc_r at h1
    by_cases q2 : ∀ j, j < i → cs j = tr j
    · exact q2 j hj
    · rw [if_neg q2] at h1; exact absurd rfl h1
theorem hc2_nar (b : Int32) (i : Nat) (cs tr : Nat → Int64) : narrow .boolean (.int (hc2 b i cs tr)) = .int (hc2 b i cs tr) := by
  unfold hc2
  by_cases q : b = 0
  · rw [if_pos q]; rfl
  · rw [if_neg q]; exact hc_nar _ _ _
def em (c f : Nat) (ln : Nat → Int32) (ro pcs : Nat → Int64) : Nat → Nat → (Nat → Int64) → (Nat → Int32) → Int32 → Int32
  | 0, _, tr, _, b => hc2 b c pcs tr
  | n + 1, i, tr, ta, b => if ¬ ie_r f ta ln = 0 then 0 else if c = 0 then em c f ln ro pcs n (i + 1) tr (rd_p i f ta ln) b else em c f ln ro pcs n (i + 1) (du_c c i (rd_v i f ta ln) tr) (rd_p i f ta ln) (if b = 0 then 0 else if ro i = du_r c i (rd_v i f ta ln) tr then 1 else 0)
theorem em_end {c f t i : Nat} {ln ta : Nat → Int32} {ro pcs tr : Nat → Int64} {b : Int32} (h : i < t) (h1 : ¬ ie_r f ta ln = 0) : em c f ln ro pcs (t - i) i tr ta b = 0 := by
  obtain ⟨k, hk⟩ : ∃ k, t - i = k + 1 := ⟨t - i - 1, by omega⟩
  rw [hk]
  show (if ¬ ie_r f ta ln = 0 then _ else _) = _
  rw [if_pos h1]
theorem em_s0 {c f t i : Nat} {ln ta : Nat → Int32} {ro pcs tr : Nat → Int64} {b : Int32} (h : i < t) (h1 : ie_r f ta ln = 0) (hc : c = 0) : em c f ln ro pcs (t - i) i tr ta b = em c f ln ro pcs (t - (i + 1)) (i + 1) tr (rd_p i f ta ln) b := by
  obtain ⟨k, hk⟩ : ∃ k, t - i = k + 1 := ⟨t - i - 1, by omega⟩
  rw [hk, show t - (i + 1) = k by omega]
  show (if ¬ ie_r f ta ln = 0 then _ else _) = _
  rw [if_neg (fun q => q h1), if_pos hc]
theorem em_s1 {c f t i : Nat} {ln ta : Nat → Int32} {ro pcs tr : Nat → Int64} {b b' : Int32} (h : i < t) (h1 : ie_r f ta ln = 0) (hc : c ≠ 0) (hb : (if b = 0 then 0 else if ro i = du_r c i (rd_v i f ta ln) tr then 1 else 0) = b') : em c f ln ro pcs (t - i) i tr ta b = em c f ln ro pcs (t - (i + 1)) (i + 1) (du_c c i (rd_v i f ta ln) tr) (rd_p i f ta ln) b' := by
  obtain ⟨k, hk⟩ : ∃ k, t - i = k + 1 := ⟨t - i - 1, by omega⟩
  rw [hk, show t - (i + 1) = k by omega, ← hb]
  show (if ¬ ie_r f ta ln = 0 then _ else _) = _
  rw [if_neg (fun q => q h1), if_neg hc]
theorem em_v1 {c t : Nat} {rv V : Int64} {tr : Nat → Int64} (hc : c ≠ 0) (hv : V = rv) : vp_updL tr (t % c) (tr (t % c) + (nI (t + 1)).toInt64 * V) (t % c) = du_r c t rv tr := by
  unfold du_r; rw [if_neg hc, hv]; simp [vp_updL]
theorem em_v0 {c t : Nat} {rv : Int64} {tr : Nat → Int64} (hc : c ≠ 0) (hv : rv = 0) : vp_updL tr (t % c) (tr (t % c) + 0) (t % c) = du_r c t rv tr := by
  unfold du_r; rw [if_neg hc, hv]; simp [vp_updL]
