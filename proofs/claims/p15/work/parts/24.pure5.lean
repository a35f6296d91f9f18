/-! PURE 5: class and reference side by side -/
/-- what the two sides keep of their checkpoints: number k + 1 lies at place k of the class, at place k + 1 of the reference -/
def KR (kb c f : Nat) (kw ke ku kn : Nat → Int32) (kc : Nat → Int64) (kp : Nat → Int32) (iw mke mku mkm mkf : Nat → Int32) (mkc : Nat → Int64) (mkp : Nat → Int32) : Prop :=
  ∀ k, k < kb → (kw k = 0 ↔ iw (k + 1) = 0) ∧ (¬ kw k = 0 → ke k = mke (k + 1) ∧ ku k = mku (k + 1) ∧ kn k = mkm (k + 1) ∧ (∀ j, j < 12 → kc (k * 12 + j) = mkc (12 * (k + 1) + j)) ∧ (∀ j, j < 6 → kp (k * 6 + j) = mkp (6 * (k + 1) + j)) ∧ (∃ n, n ≤ c ∧ kn k = nI n) ∧ ∃ g, g ≤ f ∧ mkf (k + 1) = nI g ∧ ∀ j, g ≤ j → j < 6 → kp (k * 6 + j) = 0)
def simI (c f t kb : Nat) (dn cp : Int32) (ln ps : Nat → Int32) (ro : Nat → Int64) (kw ke ku kn : Nat → Int32) (kc : Nat → Int64) (kp : Nat → Int32) (iw mke mku mkm mkf : Nat → Int32) (mkc : Nat → Int64) (mkp : Nat → Int32) : Prop :=
  (c ≤ 12 ∧ f ≤ 6 ∧ t ≤ 5000 ∧ kb ≤ 100 ∧ (dn = 0 ∨ dn = 1) ∧ ¬ cp < 0) ∧ ((∀ j, ∃ n, n ≤ 5000 ∧ ku j = nI n) ∧ (∀ j, ∃ n, n ≤ 12 ∧ kn j = nI n) ∧ (∀ j, ∃ n, n ≤ 5000 ∧ mku j = nI n) ∧ (∀ j, ∃ n, n ≤ 12 ∧ mkm j = nI n) ∧ ∀ j, ∃ n, n ≤ 6 ∧ mkf j = nI n) ∧ (∀ j, f ≤ j → j < 6 → ps j = 0) ∧ (∀ j, ¬ ln j < 0) ∧ (c = 0 → ∀ i, ro i = 0) ∧ KR kb c f kw ke ku kn kc kp iw mke mku mkm mkf mkc mkp
section SIM
variable {c f t kb c1 f1 : Nat} {dn cp : Int32} {ln ps : Nat → Int32} {ro : Nat → Int64} {kw ke ku kn : Nat → Int32} {kc : Nat → Int64} {kp : Nat → Int32} {iw mke mku mkm mkf : Nat → Int32} {mkc : Nat → Int64} {mkp : Nat → Int32}
theorem KR_mono (h : KR kb c f kw ke ku kn kc kp iw mke mku mkm mkf mkc mkp) (hc : c ≤ c1) (hf : f ≤ f1) : KR kb c1 f1 kw ke ku kn kc kp iw mke mku mkm mkf mkc mkp := by
  intro k hk
  obtain ⟨h1, h2⟩ := h k hk
  refine ⟨h1, fun q => ?_⟩
  obtain ⟨a1, a2, a3, a4, a5, ⟨n, n1, n2⟩, g, g1, g2, g3⟩ := h2 q
  exact ⟨a1, a2, a3, a4, a5, ⟨n, by omega, n2⟩, g, by omega, g2, g3⟩
theorem ce_c_le (hc : c ≤ 12) : c ≤ ce_c dn t c ∧ ce_c dn t c ≤ 12 := by
  unfold ce_c
  by_cases q : (dn = 0 ∧ nI t ≤ 0) ∧ c < 12
  · rw [if_pos q]; omega
  · rw [if_neg q]; omega
theorem inv_cell (h : simI c f t kb dn cp ln ps ro kw ke ku kn kc kp iw mke mku mkm mkf mkc mkp) : simI (ce_c dn t c) f t kb dn cp ln ps ro kw ke ku kn kc kp iw mke mku mkm mkf mkc mkp := by
  obtain ⟨⟨hc, hf, ht, hkb, hdn, hcp⟩, hK, hp, hl, hr, hR⟩ := h
  have h1 := ce_c_le (dn := dn) (t := t) hc
  exact ⟨⟨h1.2, hf, ht, hkb, hdn, hcp⟩, hK, hp, hl, fun q => hr (by omega), KR_mono hR h1.1 (Nat.le_refl f)⟩
theorem fi_f_le {x : Int32} (hf : f ≤ 6) : f ≤ fi_f dn t f x ∧ fi_f dn t f x ≤ 6 := by
  unfold fi_f
  by_cases q : ¬ (x < 0 ∨ ¬ x ≤ 2000) ∧ (dn = 0 ∧ nI t ≤ 0) ∧ f < 6
  · rw [if_pos q]; omega
  · rw [if_neg q]; omega
theorem inv_file {x : Int32} (h : simI c f t kb dn cp ln ps ro kw ke ku kn kc kp iw mke mku mkm mkf mkc mkp) : simI c (fi_f dn t f x) t kb dn cp (fi_l dn t f ln x) ps ro kw ke ku kn kc kp iw mke mku mkm mkf mkc mkp := by
  obtain ⟨⟨hc, hf, ht, hkb, hdn, hcp⟩, hK, hp, hl, hr, hR⟩ := h
  have h1 := fi_f_le (dn := dn) (t := t) (x := x) hf
  refine ⟨⟨hc, h1.2, ht, hkb, hdn, hcp⟩, hK, fun j h2 h3 => hp j (by omega) h3, fun j => ?_, hr, KR_mono hR (Nat.le_refl c) h1.1⟩
  unfold fi_l
  by_cases q : ¬ (x < 0 ∨ ¬ x ≤ 2000) ∧ (dn = 0 ∧ nI t ≤ 0) ∧ f < 6
  · rw [if_pos q]
    by_cases q2 : j = f
    · rw [q2]; simp only [upd, if_true]; exact fun q3 => q.1 (Or.inl q3)
    · simp only [upd, q2, if_false]; exact hl j
  · rw [if_neg q]; exact hl j
/-- what a run of units keeps -/
theorem srun_inv : ∀ (n : Nat) (s : Nat × (Nat → Int64) × (Nat → Int32) × (Nat → Int64)), s.1 ≤ 5000 → (∀ j, f ≤ j → j < 6 → s.2.2.1 j = 0) → (c = 0 → ∀ i, s.2.2.2 i = 0) →
    (srun c f ln n s).1 ≤ 5000 ∧ (∀ j, f ≤ j → j < 6 → (srun c f ln n s).2.2.1 j = 0) ∧ (c = 0 → ∀ i, (srun c f ln n s).2.2.2 i = 0)
  | 0, s, h1, h2, h3 => ⟨h1, h2, h3⟩
  | n + 1, s, h1, h2, h3 => by
    by_cases q : s.1 < 5000 ∧ ie_r f s.2.2.1 ln = 0
    · unfold srun
      rw [if_pos q]
      refine srun_inv n _ q.1 (fun j h4 h5 => ?_) (fun hc i => ?_)
      · show rd_p s.1 f s.2.2.1 ln j = 0
        unfold rd_p
        by_cases q1 : f = 0
        · rw [if_pos q1]; exact h2 j h4 h5
        · rw [if_neg q1]
          have hlt : s.1 % f < f := Nat.mod_lt _ (by omega)
          by_cases q2 : s.2.2.1 (s.1 % f) < ln (s.1 % f)
          · rw [if_pos q2]
            simp only [upd]
            rw [if_neg (by omega)]; exact h2 j h4 h5
          · rw [if_neg q2]; exact h2 j h4 h5
      · show vp_updL s.2.2.2 s.1 (du_r c s.1 (rd_v s.1 f s.2.2.1 ln) s.2.1) i = 0
        simp only [vp_updL]
        by_cases q1 : i = s.1
        · rw [if_pos q1]; unfold du_r; rw [if_pos hc]
        · rw [if_neg q1]; exact h3 hc i
    · rw [srun_stop q]; exact ⟨h1, h2, h3⟩
theorem inv_step {x : Int32} {t1 : Nat} {cs cs1 ro1 : Nat → Int64} {ps1 : Nat → Int32} {P : Prop} (i : Decidable P) (h : simI c f t kb dn cp ln ps ro kw ke ku kn kc kp iw mke mku mkm mkf mkc mkp) (he : (t1, cs1, ps1, ro1) = (if P then srun c f ln x.toNatClampNeg (t, cs, ps, ro) else (t, cs, ps, ro))) : simI c f t1 kb dn cp ln ps1 ro1 kw ke ku kn kc kp iw mke mku mkm mkf mkc mkp := by
  obtain ⟨⟨hc, hf, ht, hkb, hdn, hcp⟩, hK, hp, hl, hr, hR⟩ := h
  have key := srun_inv (c := c) (f := f) (ln := ln) x.toNatClampNeg (t, cs, ps, ro) ht hp hr
  by_cases q : P
  · rw [if_pos q] at he
    rw [← he] at key
    exact ⟨⟨hc, hf, key.1, hkb, hdn, hcp⟩, hK, key.2.1, hl, key.2.2, hR⟩
  · rw [if_neg q] at he
    simp only [Prod.mk.injEq] at he
    obtain ⟨rfl, rfl, rfl, rfl⟩ := he
    exact ⟨⟨hc, hf, ht, hkb, hdn, hcp⟩, hK, hp, hl, hr, hR⟩
theorem inv_cut {x : Int32} (h : simI c f t kb dn cp ln ps ro kw ke ku kn kc kp iw mke mku mkm mkf mkc mkp) : simI c f t kb (cu_dn dn x) (cu_cp cp x) ln ps ro kw ke ku kn kc kp iw mke mku mkm mkf mkc mkp := by
  obtain ⟨⟨hc, hf, ht, hkb, hdn, hcp⟩, hK, hp, hl, hr, hR⟩ := h
  refine ⟨⟨hc, hf, ht, hkb, ?_, ?_⟩, hK, hp, hl, hr, hR⟩
  · unfold cu_dn
    by_cases q : x < 0 ∨ ¬ x ≤ 30
    · rw [if_pos q]; exact hdn
    · rw [if_neg q]
      by_cases q2 : x = 0
      · rw [if_pos q2]; exact Or.inr rfl
      · rw [if_neg q2]; exact hdn
  · unfold cu_cp
    by_cases q : x < 0 ∨ ¬ x ≤ 30
    · rw [if_pos q]; exact hcp
    · rw [if_neg q]; exact fun q2 => q (Or.inl q2)
theorem inv_grow {x n : Int32} (h : simI c f t kb dn cp ln ps ro kw ke ku kn kc kp iw mke mku mkm mkf mkc mkp) : simI c f t kb dn cp (gr_l f ln x n) ps ro kw ke ku kn kc kp iw mke mku mkm mkf mkc mkp := by
  obtain ⟨hA, hK, hp, hl, hr, hR⟩ := h
  refine ⟨hA, hK, hp, fun j => ?_, hr, hR⟩
  unfold gr_l
  by_cases q : x < 0 ∨ nI f ≤ x
  · rw [if_pos q]; exact hl j
  · rw [if_neg q]
    by_cases q2 : gr_v ln x.toNatClampNeg n < 0 ∨ 2000 < gr_v ln x.toNatClampNeg n
    · rw [if_pos q2]; exact hl j
    · rw [if_neg q2]
      by_cases q3 : j = x.toNatClampNeg
      · rw [q3]; simp only [upd, if_true]
        obtain ⟨k, hk, hv⟩ := pk_lOf (fun q4 => q2 (Or.inl q4))
        rw [hv] at q2 ⊢
        have h5 : k ≤ 2000 := by
          rcases Nat.lt_or_ge 2000 k with q5 | q5
          · exact absurd (Or.inr ((pk_lLT (a := 2000) (by omega) hk).mpr q5)) q2
          · exact q5
        rw [lN_i]
        exact nI_pos (by omega)
      · simp only [upd, q3, if_false]; exact hl j
theorem lwn_mwn {x : Int32} (hk : kb ≤ 100) (h : KR kb c f kw ke ku kn kc kp iw mke mku mkm mkf mkc mkp) : mwn iw kb x = lwn kw kb x := by
  unfold mwn lwn
  by_cases q : x < 1 ∨ nI kb < x
  · rw [if_pos q, if_pos q]
  · rw [if_neg q, if_neg q]
    obtain ⟨n, h1, h2, rfl, -⟩ := cr_has (x := x) hk (by rw [if_neg q]; decide)
    rw [nI_clamp (by omega)]
    have key : ∀ m, m ≤ kb → mw iw m = lw kw m := by
      intro m
      induction m with
      | zero => intro _; rfl
      | succ m ih =>
        intro hm
        have h3 := (h m (by omega)).1
        unfold mw lw
        by_cases q2 : kw m = 0
        · rw [if_pos (h3.mp q2), if_pos q2]; exact ih (by omega)
        · rw [if_neg (fun q3 => q2 (h3.mpr q3)), if_neg q2]
    exact key n h2
theorem lwn_whole {x : Int32} (hk : kb ≤ 100) (h0 : ¬ lwn kw kb x = 0) : ¬ kw (lwn kw kb x - 1) = 0 := by
  have key : ∀ m, ¬ lw kw m = 0 → ¬ kw (lw kw m - 1) = 0 := by
    intro m
    induction m with
    | zero => intro h; exact absurd rfl h
    | succ m ih =>
      intro h
      unfold lw at h ⊢
      by_cases q : kw m = 0
      · rw [if_pos q] at h ⊢; exact ih h
      · rw [if_neg q]; exact q
  unfold lwn at h0 ⊢
  by_cases q : x < 1 ∨ nI kb < x
  · rw [if_pos q] at h0; exact absurd rfl h0
  · rw [if_neg q] at h0 ⊢; exact key _ h0
theorem torn_eq {x : Int32} (hk : kb ≤ 100) (h : KR kb c f kw ke ku kn kc kp iw mke mku mkm mkf mkc mkp) : (if x < 1 ∨ nI kb < x then (-1 : Int32) else if kw (x.toNatClampNeg - 1) = 0 then 1 else 0) = (if x < 1 ∨ nI kb < x then -1 else if iw x.toNatClampNeg = 0 then 1 else 0) := by
  by_cases q : x < 1 ∨ nI kb < x
  · rw [if_pos q, if_pos q]
  · rw [if_neg q, if_neg q]
    obtain ⟨n, h1, h2, rfl, -⟩ := cr_has (x := x) hk (by rw [if_neg q]; decide)
    rw [nI_clamp (by omega)]
    have h3 := (h (n - 1) (by omega)).1
    rw [show n - 1 + 1 = n by omega] at h3
    by_cases q2 : kw (n - 1) = 0
    · rw [if_pos q2, if_pos (h3.mp q2)]
    · rw [if_neg q2, if_neg (fun q3 => q2 (h3.mpr q3))]
/-- equal: class and reference -/
theorem ie_congr {ps qs : Nat → Int32} (h : ∀ j, j < f → ps j = qs j) : ie_r f ps ln = ie_r f qs ln := by
  unfold ie_r
  by_cases q : ∀ j, j < f → ln j ≤ ps j
  · rw [if_pos q, if_pos (fun j hj => by rw [← h j hj]; exact q j hj)]
  · rw [if_neg q, if_neg (fun q2 => q (fun j hj => by rw [h j hj]; exact q2 j hj))]
theorem em_b0 {pcs : Nat → Int64} : ∀ (n i : Nat) (tr : Nat → Int64) (ta : Nat → Int32), em c f ln ro pcs n i tr ta 0 = 0
  | 0, i, tr, ta => by unfold em hc2; rw [if_pos rfl]
  | n + 1, i, tr, ta => by
    unfold em
    by_cases q : ¬ ie_r f ta ln = 0
    · rw [if_pos q]
    · rw [if_neg q]
      by_cases q2 : c = 0
      · rw [if_pos q2]; exact em_b0 n _ _ _
      · rw [if_neg q2, if_pos rfl]; exact em_b0 n _ _ _
theorem er_em {pcs : Nat → Int64} (hz : c = 0 → ∀ i, ro i = 0) : ∀ (n i : Nat) (cs tr : Nat → Int64) (qs ta : Nat → Int32), (∀ j, j < c → cs j = tr j) → (∀ j, j < f → qs j = ta j) → er c f ln ro pcs n i cs qs = em c f ln ro pcs n i tr ta 1
  | 0, i, cs, tr, qs, ta, h1, _ => by
    unfold er em hc2 hc_r
    rw [if_neg (show ¬ (1 : Int32) = 0 by decide)]
    by_cases q : ∀ j, j < c → pcs j = cs j
    · rw [if_pos q, if_pos (fun j hj => (q j hj).trans (h1 j hj))]
    · rw [if_neg q, if_neg (fun q2 => q (fun j hj => (q2 j hj).trans (h1 j hj).symm))]
  | n + 1, i, cs, tr, qs, ta, h1, h2 => by
    have hie := ie_congr (ln := ln) h2
    by_cases q : ie_r f ta ln = 0
    · have hf0 := ie_f0 q
      have hlt : i % f < f := Nat.mod_lt _ (by omega)
      have hv : rd_v i f qs ln = rd_v i f ta ln := by unfold rd_v; rw [h2 _ hlt]
      have hp : ∀ j, j < f → rd_p i f qs ln j = rd_p i f ta ln j := by
        intro j hj
        unfold rd_p
        rw [h2 _ hlt, if_neg hf0, if_neg hf0]
        by_cases q3 : ta (i % f) < ln (i % f)
        · rw [if_pos q3, if_pos q3]; simp only [upd]; rw [h2 j hj]
        · rw [if_neg q3, if_neg q3]; exact h2 j hj
      unfold er em
      have hcond : ¬ ¬ ie_r f ta ln = 0 := fun q2 => q2 q
      rw [hie, if_neg hcond, if_neg hcond]
      by_cases q2 : c = 0
      · have hd0 : du_r c i (rd_v i f qs ln) cs = ro i := by unfold du_r; rw [if_pos q2]; exact (hz q2 i).symm
        rw [if_pos q2, if_pos hd0]
        refine er_em hz n (i + 1) _ _ _ _ (fun j hj => absurd hj (by omega)) hp
      · have hlc : i % c < c := Nat.mod_lt _ (by omega)
        have hdr : du_r c i (rd_v i f qs ln) cs = du_r c i (rd_v i f ta ln) tr := by unfold du_r; rw [h1 _ hlc, hv]
        have hdc : ∀ j, j < c → du_c c i (rd_v i f qs ln) cs j = du_c c i (rd_v i f ta ln) tr j := by
          intro j hj
          unfold du_c
          rw [if_neg q2, if_neg q2, h1 _ hlc, hv]
          simp only [vp_updL]
          rw [h1 j hj]
        rw [if_neg q2, hdr, if_neg (show ¬ (1 : Int32) = 0 by decide)]
        by_cases q4 : ro i = du_r c i (rd_v i f ta ln) tr
        · rw [if_pos q4.symm, if_pos q4]; exact er_em hz n (i + 1) _ _ _ _ hdc hp
        · rw [if_neg (fun q5 => q4 q5.symm), if_neg q4, em_b0]
    · unfold er em
      rw [hie, if_pos q, if_pos q]
theorem equal_eq {pcs rcs tr fv : Nat → Int64} {rps ta : Nat → Int32} (hf : f ≤ 6) (hz : c = 0 → ∀ i, ro i = 0) : er c f ln ro pcs t 0 (so_c rcs fv c) (so_p rps 6) = em c f ln ro pcs t 0 (so_c tr fv c) (so_p ta f) 1 :=
  er_em hz t 0 _ _ _ _ (fun j hj => by simp only [so_c, if_pos hj]) (fun j hj => by simp only [so_p]; rw [if_pos hj, if_pos (by omega)])
end SIM
