/-! PURE: what the class's methods compute -/
theorem cr_nI0 {n : Nat} (h : n < 2 ^ 31) (h0 : nI n = 0) : n = 0 := by
  rcases Nat.eq_zero_or_pos n with q | q
  · exact q
  · exact absurd h0 (nI_ne0 q h)
theorem cr_cmp0 {x y : Int64} : lg_cmp x y = 0 ↔ x = y := by
  unfold lg_cmp
  by_cases h1 : y < x
  · have h2 : x ≠ y := by
      intro h; rw [h] at h1; exact absurd h1 (Int64.lt_irrefl)
    simp [h1, h2]
  · by_cases h2 : x = y
    · simp [h2]
    · simp [h1, h2]
def so_c (cs fv : Nat → Int64) (i : Nat) : Nat → Int64 := fun j => if j < i then fv j else cs j
def so_p (ps : Nat → Int32) (i : Nat) : Nat → Int32 := fun j => if j < i then 0 else ps j
theorem so_c_0 (cs fv : Nat → Int64) : cs = so_c cs fv 0 := by funext j; simp [so_c]
theorem so_p_0 (ps : Nat → Int32) : ps = so_p ps 0 := by funext j; simp [so_p]
theorem so_c_step (cs fv : Nat → Int64) (i : Nat) : vp_updL (so_c cs fv i) i (fv i) = so_c cs fv (i + 1) := by
  funext j
  simp only [vp_updL, so_c]
  by_cases h : j = i
  · subst h; simp
  · rw [if_neg h]
    by_cases h2 : j < i
    · rw [if_pos h2, if_pos (by omega)]
    · rw [if_neg h2, if_neg (by omega)]
theorem so_p_step (ps : Nat → Int32) (i : Nat) : upd (so_p ps i) i 0 = so_p ps (i + 1) := by
  funext j
  simp only [upd, so_p]
  by_cases h : j = i
  · subst h; simp
  · rw [if_neg h]
    by_cases h2 : j < i
    · rw [if_pos h2, if_pos (by omega)]
    · rw [if_neg h2, if_neg (by omega)]
def ie_r (f : Nat) (ps ln : Nat → Int32) : Int32 := if (∀ j, j < f → ln j ≤ ps j) then 1 else 0
theorem ie_yes {f : Nat} {ps ln : Nat → Int32} (h : ∀ j, j < f → ln j ≤ ps j) : ie_r f ps ln = 1 := by unfold ie_r; rw [if_pos h]
theorem ie_no {f i : Nat} {ps ln : Nat → Int32} (hi : i < f) (h : ¬ ln i ≤ ps i) : ie_r f ps ln = 0 := by unfold ie_r; rw [if_neg (fun q => h (q i hi))]
def rd_v (t f : Nat) (ps ln : Nat → Int32) : Int64 := if f = 0 then 0 else if ps (t % f) < ln (t % f) then 1000 * (nI (t % f) + 1).toInt64 + (ps (t % f)).toInt64 else 0
def rd_p (t f : Nat) (ps ln : Nat → Int32) : Nat → Int32 := if f = 0 then ps else if ps (t % f) < ln (t % f) then upd ps (t % f) (ps (t % f) + 1) else ps
def du_r (c t : Nat) (rv : Int64) (cs : Nat → Int64) : Int64 := if c = 0 then 0 else cs (t % c) + (nI (t + 1)).toInt64 * rv
def du_c (c t : Nat) (rv : Int64) (cs : Nat → Int64) : Nat → Int64 := if c = 0 then cs else vp_updL cs (t % c) (cs (t % c) + (nI (t + 1)).toInt64 * rv)
def hc_r (c : Nat) (cs os : Nat → Int64) : Int32 := if (∀ j, j < c → cs j = os j) then 1 else 0
theorem hc_yes {c : Nat} {cs os : Nat → Int64} (h : ∀ j, j < c → cs j = os j) : hc_r c cs os = 1 := by unfold hc_r; rw [if_pos h]
theorem hc_no {c i : Nat} {cs os : Nat → Int64} (hi : i < c) (h : ¬ cs i = os i) : hc_r c cs os = 0 := by unfold hc_r; rw [if_neg (fun q => h (q i hi))]
theorem hc_nar (c : Nat) (cs os : Nat → Int64) : narrow .boolean (.int (hc_r c cs os)) = .int (hc_r c cs os) := by unfold hc_r; split <;> rfl
def lw (kw : Nat → Int32) : Nat → Nat | 0 => 0 | k + 1 => if kw k = 0 then lw kw k else k + 1
def lwI (k : Nat) : Int32 := if k = 0 then -1 else nI k
def lw_r (kw : Nat → Int32) (kb : Nat) (x : Int32) : Int32 := if x < 1 ∨ nI kb < x then -1 else lwI (lw kw x.toNatClampNeg)
theorem lw_z {kw : Nat → Int32} {k : Nat} (h0 : 1 ≤ k) (h : kw (k - 1) = 0) : lw kw (k - 1) = lw kw k := by
  obtain ⟨j, rfl⟩ : ∃ j, k = j + 1 := ⟨k - 1, by omega⟩
  simp only [Nat.add_sub_cancel] at h ⊢
  simp [lw, h]
theorem lw_w {kw : Nat → Int32} {k : Nat} (h0 : 1 ≤ k) (h : ¬ kw (k - 1) = 0) : lw kw k = k := by
  obtain ⟨j, rfl⟩ : ∃ j, k = j + 1 := ⟨k - 1, by omega⟩
  simp only [Nat.add_sub_cancel] at h
  simp [lw, h]
theorem lw_le (kw : Nat → Int32) : ∀ k, lw kw k ≤ k
  | 0 => Nat.le_refl _
  | k + 1 => by
    have h := lw_le kw k
    unfold lw
    split <;> omega
theorem cr_has {x : Int32} {kb : Nat} (hk : kb ≤ 100) (h : ¬ (if x < 1 ∨ nI kb < x then (0 : Int32) else 1) = 0) : ∃ n : Nat, 1 ≤ n ∧ n ≤ kb ∧ x = nI n ∧ ¬ (x < 1 ∨ nI kb < x) := by
  have h1 : ¬ (x < 1 ∨ nI kb < x) := fun q => h (by rw [if_pos q])
  have h2 : ¬ x < 1 := fun q => h1 (Or.inl q)
  have h3 : ¬ nI kb < x := fun q => h1 (Or.inr q)
  have h2' : ¬ x < 0 := by
    intro q; apply h2; rw [Int32.lt_iff_toInt_lt] at q ⊢
    have e0 : (0 : Int32).toInt = 0 := rfl
    have e1 : (1 : Int32).toInt = 1 := rfl
    omega
  obtain ⟨j, hj, rfl⟩ := nI_of h2'
  refine ⟨j, ?_, ?_, rfl, h1⟩
  · rcases Nat.eq_zero_or_pos j with q | q
    · subst q; exact absurd (by decide) h2
    · exact q
  · rcases Nat.lt_or_ge kb j with q | q
    · exact absurd (nI_lt q hj) h3
    · exact q
theorem cr_not_has {x : Int32} {kb : Nat} (h : (if x < 1 ∨ nI kb < x then (0 : Int32) else 1) = 0) : x < 1 ∨ nI kb < x := by
  by_cases q : x < 1 ∨ nI kb < x
  · exact q
  · rw [if_neg q] at h; exact absurd h (by decide)
def pe_r (k f : Nat) (ln kp : Nat → Int32) : Int32 := if (∀ j, j < f → kp ((k - 1) * 6 + j) ≤ ln j) then 0 else 1
theorem pe_yes {k f : Nat} {ln kp : Nat → Int32} (h : ∀ j, j < f → kp ((k - 1) * 6 + j) ≤ ln j) : pe_r k f ln kp = 0 := by unfold pe_r; rw [if_pos h]
theorem pe_no {k f i : Nat} {ln kp : Nat → Int32} (hi : i < f) (h : ¬ kp ((k - 1) * 6 + i) ≤ ln i) : pe_r k f ln kp = 1 := by unfold pe_r; rw [if_neg (fun q => h (q i hi))]
/-- an index that passed the tests: 0 ≤ x < n -/
theorem cr_ix {x : Int32} {n : Nat} (hn : n < 2 ^ 31) (h : ¬ (x < 0 ∨ nI n ≤ x)) : ∃ k : Nat, k < n ∧ x = nI k := by
  have h1 : ¬ x < 0 := fun q => h (Or.inl q)
  have h2 : ¬ nI n ≤ x := fun q => h (Or.inr q)
  obtain ⟨j, hj, rfl⟩ := nI_of h1
  refine ⟨j, ?_, rfl⟩
  rcases Nat.lt_or_ge j n with q | q
  · exact q
  · exact absurd (nI_le q hj) h2
theorem cr_if01 {P : Prop} (i : Decidable P) (h : (if P then (0 : Int32) else 1) = 0) : P := by
  by_cases q : P
  · exact q
  · rw [if_neg q] at h; exact absurd h (by decide)
theorem cr_if01n {P : Prop} (i : Decidable P) (h : ¬ (if P then (0 : Int32) else 1) = 0) : ¬ P := fun q => h (by rw [if_pos q])
/-- step: n units at most, from units, cells, positions and rows -/
def srun (c f : Nat) (ln : Nat → Int32) : Nat → Nat × (Nat → Int64) × (Nat → Int32) × (Nat → Int64) → Nat × (Nat → Int64) × (Nat → Int32) × (Nat → Int64)
  | 0, s => s
  | n + 1, s => if s.1 < 5000 ∧ ie_r f s.2.2.1 ln = 0 then srun c f ln n (s.1 + 1, du_c c s.1 (rd_v s.1 f s.2.2.1 ln) s.2.1, rd_p s.1 f s.2.2.1 ln, vp_updL s.2.2.2 s.1 (du_r c s.1 (rd_v s.1 f s.2.2.1 ln) s.2.1)) else s
theorem srun_stop {c f n : Nat} {ln : Nat → Int32} {s : Nat × (Nat → Int64) × (Nat → Int32) × (Nat → Int64)} (h : ¬ (s.1 < 5000 ∧ ie_r f s.2.2.1 ln = 0)) : srun c f ln n s = s := by
  cases n with
  | zero => rfl
  | succ n => unfold srun; rw [if_neg h]
theorem srun_step {c f N d t : Nat} {ln ps : Nat → Int32} {cs rw9 : Nat → Int64} (h : d < N) (hg : t < 5000 ∧ ie_r f ps ln = 0) : srun c f ln (N - d) (t, cs, ps, rw9) = srun c f ln (N - (d + 1)) (t + 1, du_c c t (rd_v t f ps ln) cs, rd_p t f ps ln, vp_updL rw9 t (du_r c t (rd_v t f ps ln) cs)) := by
  obtain ⟨k, hk⟩ : ∃ k, N - d = k + 1 := ⟨N - d - 1, by omega⟩
  rw [hk, show N - (d + 1) = k by omega]
  show (if t < 5000 ∧ ie_r f ps ln = 0 then _ else _) = _
  rw [if_pos hg]
theorem srun_le {c f : Nat} {ln : Nat → Int32} : ∀ (n : Nat) (s : Nat × (Nat → Int64) × (Nat → Int32) × (Nat → Int64)), s.1 ≤ 5000 → (srun c f ln n s).1 ≤ 5000
  | 0, s, h => h
  | n + 1, s, h => by
    unfold srun
    split
    · rename_i q; exact srun_le n _ q.1
    · exact h
theorem cr_nlt {a b : Int32} (h : ¬ b < a) : a ≤ b := Int32.not_lt.mp h
theorem cr_lt_nle {a b : Int32} (h : b < a) : ¬ a ≤ b := Int32.not_le.mpr h
theorem cr_cmplt {x y : Int64} : lg_cmp x y < 0 ↔ x < y := by
  unfold lg_cmp
  rw [Int64.lt_iff_toInt_lt (x := x)]
  by_cases h1 : y < x
  · have h1' := Int64.lt_iff_toInt_lt.mp h1
    simp only [h1, if_true]
    exact ⟨fun q => absurd q (by decide), fun q => by omega⟩
  · have h1' : ¬ y.toInt < x.toInt := fun q => h1 (Int64.lt_iff_toInt_lt.mpr q)
    by_cases h2 : x = y
    · subst h2
      simp only [h1, if_false, if_true]
      exact ⟨fun q => absurd q (by decide), fun q => by omega⟩
    · have h2' : ¬ x.toInt = y.toInt := fun q => h2 (Int64.toInt_inj.mp q)
      simp only [h1, h2, if_false]
      exact ⟨fun _ => by omega, fun _ => by decide⟩
theorem cr_cmpgt {x y : Int64} : (¬ lg_cmp x y ≤ 0) ↔ y < x := by
  unfold lg_cmp
  by_cases h1 : y < x
  · simp only [h1, if_true]
    exact ⟨fun _ => trivial, fun _ => by decide⟩
  · by_cases h2 : x = y
    · subst h2
      simp only [h1, if_false, if_true]
      exact ⟨fun q => absurd (by decide) q, fun q => absurd q id⟩
    · simp only [h1, h2, if_false]
      exact ⟨fun q => absurd (by decide) q, fun q => absurd q id⟩
theorem cr_cmpgt_not {x y : Int64} (h : lg_cmp x y ≤ 0) : ¬ y < x := fun q => cr_cmpgt.mpr q h
def gr_v (ln : Nat → Int32) (k : Nat) (n : Int32) : Int64 := (ln k).toInt64 + n.toInt64
def gr_r (f : Nat) (ln : Nat → Int32) (x n : Int32) : Int32 := if x < 0 ∨ nI f ≤ x then -1 else if gr_v ln x.toNatClampNeg n < 0 ∨ 2000 < gr_v ln x.toNatClampNeg n then -4 else (gr_v ln x.toNatClampNeg n).toInt32
def gr_l (f : Nat) (ln : Nat → Int32) (x n : Int32) : Nat → Int32 := if x < 0 ∨ nI f ≤ x then ln else if gr_v ln x.toNatClampNeg n < 0 ∨ 2000 < gr_v ln x.toNatClampNeg n then ln else upd ln x.toNatClampNeg (gr_v ln x.toNatClampNeg n).toInt32
/-- restart's answer, with number = the latest whole checkpoint up to the one that was told -/
def rs_r (dn number : Int32) (ke : Nat → Int32) (ed : Int32) (f : Nat) (ln kp : Nat → Int32) : Int32 :=
  if dn = 0 then -5 else if number = -1 then -1 else if ¬ ke (number.toNatClampNeg - 1) = ed then -3 else if ¬ pe_r number.toNatClampNeg f ln kp = 0 then -2 else number
theorem lw_r_ok {kw : Nat → Int32} {kb : Nat} {x : Int32} (hk : kb ≤ 100) (h : ¬ lw_r kw kb x = -1) : ∃ k : Nat, 1 ≤ k ∧ k ≤ kb ∧ lw_r kw kb x = nI k := by
  unfold lw_r at h ⊢
  by_cases q : x < 1 ∨ nI kb < x
  · rw [if_pos q] at h; exact absurd rfl h
  · rw [if_neg q] at h ⊢
    obtain ⟨n, h1, h2, rfl, -⟩ := cr_has (x := x) hk (by rw [if_neg q]; decide)
    rw [nI_clamp (by omega)] at h ⊢
    have h3 := lw_le kw n
    unfold lwI at h ⊢
    by_cases h4 : lw kw n = 0
    · rw [if_pos h4] at h; exact absurd rfl h
    · rw [if_neg h4]; exact ⟨lw kw n, by omega, by omega, rfl⟩
/-- equal's answer: n units are left to be done again, from unit i on -/
def er (c f : Nat) (ln : Nat → Int32) (ro pcs : Nat → Int64) : Nat → Nat → (Nat → Int64) → (Nat → Int32) → Int32
  | 0, _, cs, _ => hc_r c pcs cs
  | n + 1, i, cs, ps => if ¬ ie_r f ps ln = 0 then 0 else if du_r c i (rd_v i f ps ln) cs = ro i then er c f ln ro pcs n (i + 1) (du_c c i (rd_v i f ps ln) cs) (rd_p i f ps ln) else 0
theorem er_step {c f t i : Nat} {ln ps : Nat → Int32} {ro pcs cs : Nat → Int64} (h : i < t) (h1 : ie_r f ps ln = 0) (h2 : du_r c i (rd_v i f ps ln) cs = ro i) : er c f ln ro pcs (t - i) i cs ps = er c f ln ro pcs (t - (i + 1)) (i + 1) (du_c c i (rd_v i f ps ln) cs) (rd_p i f ps ln) := by
  obtain ⟨k, hk⟩ : ∃ k, t - i = k + 1 := ⟨t - i - 1, by omega⟩
  rw [hk, show t - (i + 1) = k by omega]
  show (if ¬ ie_r f ps ln = 0 then _ else _) = _
  rw [if_neg (fun q => q h1), if_pos h2]
theorem er_end {c f t i : Nat} {ln ps : Nat → Int32} {ro pcs cs : Nat → Int64} (h : i < t) (h1 : ¬ ie_r f ps ln = 0) : er c f ln ro pcs (t - i) i cs ps = 0 := by
  obtain ⟨k, hk⟩ : ∃ k, t - i = k + 1 := ⟨t - i - 1, by omega⟩
  rw [hk]
  show (if ¬ ie_r f ps ln = 0 then _ else _) = _
  rw [if_pos h1]
theorem er_diff {c f t i : Nat} {ln ps : Nat → Int32} {ro pcs cs : Nat → Int64} (h : i < t) (h1 : ie_r f ps ln = 0) (h2 : ¬ du_r c i (rd_v i f ps ln) cs = ro i) : er c f ln ro pcs (t - i) i cs ps = 0 := by
  obtain ⟨k, hk⟩ : ∃ k, t - i = k + 1 := ⟨t - i - 1, by omega⟩
  rw [hk]
  show (if ¬ ie_r f ps ln = 0 then _ else _) = _
  rw [if_neg (fun q => q h1), if_neg h2]
theorem cr_dec {k : Nat} (h : 1 ≤ k) : nI k + Int32.ofInt (-1) = nI (k - 1) := by
  have h2 := pk_m1 (k - 1)
  rw [show k - 1 + 1 = k by omega] at h2
  rw [show Int32.ofInt (-1) = (-1 : Int32) by decide]
  exact h2
theorem ki_upd {g : Nat → Int32} {B k v : Nat} (h : ∀ j, ∃ n, n ≤ B ∧ g j = nI n) (hv : v ≤ B) : ∀ j, ∃ n, n ≤ B ∧ upd g k (nI v) j = nI n := by
  intro j
  by_cases q : j = k
  · exact ⟨v, hv, by simp [upd, q]⟩
  · obtain ⟨n, h1, h2⟩ := h j
    exact ⟨n, h1, by simp [upd, q, h2]⟩
