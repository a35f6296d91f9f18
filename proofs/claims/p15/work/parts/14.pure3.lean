/-! PURE 3: the reference's step, check, restart, equal -/
theorem ie_f0 {f : Nat} {ps ln : Nat → Int32} (h : ie_r f ps ln = 0) : f ≠ 0 := by
  intro q
  subst q
  rw [ie_yes (fun j hj => absurd hj (Nat.not_lt_zero j))] at h
  exact absurd h (by decide)
theorem upd_same (g : Nat → Int32) (k : Nat) : upd g k (g k + 0) = g := by
  funext j
  by_cases h : j = k
  · subst h; simp [upd]
  · simp [upd, h]
theorem updL_twice (g : Nat → Int64) (k : Nat) (a b : Int64) : vp_updL (vp_updL g k a) k b = vp_updL g k b := by
  funext j
  by_cases h : j = k
  · subst h; simp [vp_updL]
  · simp [vp_updL, h]
theorem st_p1 {t f : Nat} {ps ln : Nat → Int32} (hf : f ≠ 0) (h : ¬ ln (t % f) ≤ ps (t % f)) : upd ps (t % f) (ps (t % f) + 1) = rd_p t f ps ln := by
  unfold rd_p; rw [if_neg hf, if_pos (Int32.not_le.mp h)]
theorem st_p0 {t f : Nat} {ps ln : Nat → Int32} (hf : f ≠ 0) (h : ln (t % f) ≤ ps (t % f)) : upd ps (t % f) (ps (t % f) + 0) = rd_p t f ps ln := by
  unfold rd_p; rw [if_neg hf, if_neg (Int32.not_lt.mpr h)]; exact upd_same _ _
theorem st_v1 {t f : Nat} {ps ln : Nat → Int32} (hf : f ≠ 0) (h : ¬ ln (t % f) ≤ ps (t % f)) : rd_v t f ps ln = 1000 * (nI (t % f) + 1).toInt64 + (ps (t % f)).toInt64 := by
  unfold rd_v; rw [if_neg hf, if_pos (Int32.not_le.mp h)]
theorem st_v0 {t f : Nat} {ps ln : Nat → Int32} (hf : f ≠ 0) (h : ln (t % f) ≤ ps (t % f)) : rd_v t f ps ln = 0 := by
  unfold rd_v; rw [if_neg hf, if_neg (Int32.not_lt.mpr h)]
theorem st_c00 {c t : Nat} {rv : Int64} {cs : Nat → Int64} (hc : c = 0) : cs = du_c c t rv cs := by unfold du_c; rw [if_pos hc]
theorem st_r00 {c t : Nat} {rv : Int64} {cs ro : Nat → Int64} (hc : c = 0) : vp_updL ro t 0 = vp_updL ro t (du_r c t rv cs) := by unfold du_r; rw [if_pos hc]
theorem st_c1 {c t : Nat} {rv V : Int64} {cs : Nat → Int64} (hc : c ≠ 0) (hv : V = rv) : vp_updL cs (t % c) (cs (t % c) + (nI (t + 1)).toInt64 * V) = du_c c t rv cs := by unfold du_c; rw [if_neg hc, hv]
theorem st_c0 {c t : Nat} {rv : Int64} {cs : Nat → Int64} (hc : c ≠ 0) (hv : rv = 0) : vp_updL cs (t % c) (cs (t % c) + 0) = du_c c t rv cs := by unfold du_c; rw [if_neg hc, hv]; simp
theorem st_r1 {c t : Nat} {rv V : Int64} {cs ro : Nat → Int64} (hc : c ≠ 0) (hv : V = rv) : vp_updL (vp_updL ro t 0) t (vp_updL cs (t % c) (cs (t % c) + (nI (t + 1)).toInt64 * V) (t % c)) = vp_updL ro t (du_r c t rv cs) := by
  rw [updL_twice]; unfold du_r; rw [if_neg hc, hv]; simp [vp_updL]
theorem st_r0 {c t : Nat} {rv : Int64} {cs ro : Nat → Int64} (hc : c ≠ 0) (hv : rv = 0) : vp_updL (vp_updL ro t 0) t (vp_updL cs (t % c) (cs (t % c) + 0) (t % c)) = vp_updL ro t (du_r c t rv cs) := by
  rw [updL_twice]; unfold du_r; rw [if_neg hc, hv]; simp [vp_updL]
theorem cpy_0 {α : Type} (f g : Nat → α) (dp : Nat) : g = va_cpy f g 0 dp 0 := by
  funext k; unfold va_cpy; rw [if_neg (by omega)]
theorem cpyL_step (f g : Nat → Int64) (dp i : Nat) : vp_updL (va_cpy f g 0 dp i) (dp + i) (f i) = va_cpy f g 0 dp (i + 1) := by
  funext k
  simp only [vp_updL, va_cpy]
  by_cases h : k = dp + i
  · rw [if_pos h, if_pos (by omega)]; congr 1; omega
  · rw [if_neg h]
    by_cases h2 : dp ≤ k ∧ k < dp + i
    · rw [if_pos h2, if_pos (by omega)]
    · rw [if_neg h2, if_neg (by omega)]
theorem cpyI_step (f g : Nat → Int32) (dp i : Nat) : upd (va_cpy f g 0 dp i) (dp + i) (f i) = va_cpy f g 0 dp (i + 1) := by
  funext k
  simp only [upd, va_cpy]
  by_cases h : k = dp + i
  · rw [if_pos h, if_pos (by omega)]; congr 1; omega
  · rw [if_neg h]
    by_cases h2 : dp ≤ k ∧ k < dp + i
    · rw [if_pos h2, if_pos (by omega)]
    · rw [if_neg h2, if_neg (by omega)]
