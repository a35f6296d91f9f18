/-! PURE 6: step, check and restart of both sides at once -/
section SIM2
variable {c f t kb : Nat} {dn cp ed : Int32} {ln ps : Nat → Int32} {ro cs fv : Nat → Int64} {kw ke ku kn : Nat → Int32} {kc : Nat → Int64} {kp : Nat → Int32} {iw mke mku mkm mkf : Nat → Int32} {mkc : Nat → Int64} {mkp : Nat → Int32}
theorem step_both {x rC rM : Int32} {tC tM : Nat} {csC csM roC roM : Nat → Int64} {psC psM : Nat → Int32} (h : simI c f t kb dn cp ln ps ro kw ke ku kn kc kp iw mke mku mkm mkf mkc mkp) (hC : (x < 0 ∨ ¬ x ≤ 1000 → rC = -4) ∧ (¬ (x < 0 ∨ ¬ x ≤ 1000) → ¬ dn = 0 → rC = -5) ∧ (¬ (x < 0 ∨ ¬ x ≤ 1000) → dn = 0 → rC = nI (tC - t)) ∧ (tC, csC, psC, roC) = (if ¬ (x < 0 ∨ ¬ x ≤ 1000) ∧ dn = 0 then srun c f ln x.toNatClampNeg (t, cs, ps, ro) else (t, cs, ps, ro))) (hM : (x < 0 ∨ ¬ x ≤ 1000 → rM = -4) ∧ (¬ (x < 0 ∨ ¬ x ≤ 1000) → ¬ dn = 0 → rM = -5) ∧ (¬ (x < 0 ∨ ¬ x ≤ 1000) → dn = 0 → rM = nI (tM - t)) ∧ (tM, csM, psM, roM) = (if ¬ (x < 0 ∨ ¬ x ≤ 1000) ∧ dn = 0 then srun c f ln x.toNatClampNeg (t, cs, ps, ro) else (t, cs, ps, ro))) : rC = rM ∧ tC = tM ∧ csC = csM ∧ psC = psM ∧ roC = roM ∧ simI c f tC kb dn cp ln psC roC kw ke ku kn kc kp iw mke mku mkm mkf mkc mkp := by
  obtain ⟨a1, a2, a3, a4⟩ := hC
  obtain ⟨b1, b2, b3, b4⟩ := hM
  have h2 := inv_step inferInstance h a4
  have e := a4.trans b4.symm
  simp only [Prod.mk.injEq] at e
  obtain ⟨e1, e2, e3, e4⟩ := e
  refine ⟨?_, e1, e2, e3, e4, h2⟩
  by_cases q : x < 0 ∨ ¬ x ≤ 1000
  · rw [a1 q, b1 q]
  · by_cases q2 : dn = 0
    · rw [a3 q q2, b3 q q2, e1]
    · rw [a2 q q2, b2 q q2]
theorem upd_ne {g : Nat → Int32} {k j : Nat} {v : Int32} (h : j ≠ k) : upd g k v j = g j := by simp only [upd, if_neg h]
theorem upd_eq {g : Nat → Int32} {k : Nat} {v : Int32} : upd g k v k = v := by simp only [upd, if_true]
theorem cpy_out {α : Type} {a b : Nat → α} {dp n j : Nat} (h : j < dp ∨ dp + n ≤ j) : va_cpy a b 0 dp n j = b j := pk_cpy_out h
theorem cpy_in {α : Type} {a b : Nat → α} {dp n j : Nat} (h : j < n) : va_cpy a b 0 dp n (dp + j) = a j := by
  rw [pk_cpy_in (by omega) (by omega)]; congr 1; omega
theorem KR_torn (h : KR kb c f kw ke ku kn kc kp iw mke mku mkm mkf mkc mkp) : KR (kb + 1) c f (upd kw kb 0) ke ku kn kc kp (upd iw (kb + 1) 0) (upd mke (kb + 1) ed) (upd mku (kb + 1) (nI t)) (upd mkm (kb + 1) (nI c)) (upd mkf (kb + 1) (nI f)) (va_cpy cs mkc 0 (12 * (kb + 1)) 12) (va_cpy ps mkp 0 (6 * (kb + 1)) 6) := by
  intro k hk
  by_cases q : k = kb
  · subst q
    rw [upd_eq, upd_eq]
    exact ⟨Iff.rfl, fun q => absurd rfl q⟩
  · obtain ⟨h1, h2⟩ := h k (by omega)
    rw [upd_ne (g := kw) q, upd_ne (g := iw) (by omega), upd_ne (g := mke) (by omega), upd_ne (g := mku) (by omega), upd_ne (g := mkm) (by omega), upd_ne (g := mkf) (by omega)]
    refine ⟨h1, fun q2 => ?_⟩
    obtain ⟨a1, a2, a3, a4, a5, a6, a7⟩ := h2 q2
    exact ⟨a1, a2, a3, fun j hj => by rw [cpy_out (by omega)]; exact a4 j hj, fun j hj => by rw [cpy_out (by omega)]; exact a5 j hj, a6, a7⟩
theorem KR_whole (h : KR kb c f kw ke ku kn kc kp iw mke mku mkm mkf mkc mkp) (hp : ∀ j, f ≤ j → j < 6 → ps j = 0) : KR (kb + 1) c f (upd kw kb 1) (upd ke kb ed) (upd ku kb (nI t)) (upd kn kb (nI c)) (va_cpy cs kc 0 (kb * 12) 12) (va_cpy ps kp 0 (kb * 6) 6) (upd iw (kb + 1) 1) (upd mke (kb + 1) ed) (upd mku (kb + 1) (nI t)) (upd mkm (kb + 1) (nI c)) (upd mkf (kb + 1) (nI f)) (va_cpy cs mkc 0 (12 * (kb + 1)) 12) (va_cpy ps mkp 0 (6 * (kb + 1)) 6) := by
  intro k hk
  by_cases q : k = kb
  · subst q
    rw [upd_eq, upd_eq, upd_eq, upd_eq, upd_eq, upd_eq, upd_eq, upd_eq, upd_eq]
    exact ⟨Iff.rfl, fun _ => ⟨rfl, rfl, rfl, fun j hj => by rw [cpy_in hj, cpy_in hj], fun j hj => by rw [cpy_in hj, cpy_in hj], ⟨c, Nat.le_refl c, rfl⟩, f, Nat.le_refl f, rfl, fun j h1 h2 => by rw [cpy_in h2]; exact hp j h1 h2⟩⟩
  · obtain ⟨h1, h2⟩ := h k (by omega)
    rw [upd_ne (g := kw) q, upd_ne (g := ke) q, upd_ne (g := ku) q, upd_ne (g := kn) q, upd_ne (g := iw) (by omega), upd_ne (g := mke) (by omega), upd_ne (g := mku) (by omega), upd_ne (g := mkm) (by omega), upd_ne (g := mkf) (by omega)]
    refine ⟨h1, fun q2 => ?_⟩
    obtain ⟨a1, a2, a3, a4, a5, a6, g, g1, g2, g3⟩ := h2 q2
    exact ⟨a1, a2, a3, fun j hj => by rw [cpy_out (by omega), cpy_out (by omega)]; exact a4 j hj, fun j hj => by rw [cpy_out (by omega), cpy_out (by omega)]; exact a5 j hj, a6, g, g1, g2, fun j h3 h4 => by rw [cpy_out (by omega)]; exact g3 j h3 h4⟩
theorem check_both {rC rM dnC dnM cpC cpM : Int32} {kbC kbM : Nat} {kwC keC kuC knC kpC iwM mkeM mkuM mkmM mkfM mkpM : Nat → Int32} {kcC mkcM : Nat → Int64} (h : simI c f t kb dn cp ln ps ro kw ke ku kn kc kp iw mke mku mkm mkf mkc mkp) (hC : (¬ dn = 0 ∧ rC = -5 ∧ kbC = kb ∧ kwC = kw ∧ (keC = ke ∧ kuC = ku ∧ knC = kn ∧ kcC = kc ∧ kpC = kp) ∧ dnC = dn ∧ cpC = cp) ∨ (dn = 0 ∧ ¬ kb < 100 ∧ rC = -1 ∧ kbC = kb ∧ kwC = kw ∧ (keC = ke ∧ kuC = ku ∧ knC = kn ∧ kcC = kc ∧ kpC = kp) ∧ dnC = dn ∧ cpC = cp) ∨ (dn = 0 ∧ kb < 100 ∧ (¬ cp = 0 ∧ cp ≤ nI (4 + c + f)) ∧ cp = 1 ∧ rC = 0 ∧ kbC = kb ∧ kwC = kw ∧ (keC = ke ∧ kuC = ku ∧ knC = kn ∧ kcC = kc ∧ kpC = kp) ∧ dnC = 1 ∧ cpC = 0) ∨ (dn = 0 ∧ kb < 100 ∧ (¬ cp = 0 ∧ cp ≤ nI (4 + c + f)) ∧ ¬ cp = 1 ∧ rC = 0 ∧ kbC = kb + 1 ∧ kwC = upd kw kb 0 ∧ (keC = ke ∧ kuC = ku ∧ knC = kn ∧ kcC = kc ∧ kpC = kp) ∧ dnC = 1 ∧ cpC = 0) ∨ (dn = 0 ∧ kb < 100 ∧ ¬ (¬ cp = 0 ∧ cp ≤ nI (4 + c + f)) ∧ rC = nI (kb + 1) ∧ kbC = kb + 1 ∧ kwC = upd kw kb 1 ∧ (keC = upd ke kb ed ∧ kuC = upd ku kb (nI t) ∧ knC = upd kn kb (nI c) ∧ kcC = va_cpy cs kc 0 (kb * 12) 12 ∧ kpC = va_cpy ps kp 0 (kb * 6) 6) ∧ dnC = dn ∧ cpC = cp)) (hM : (¬ dn = 0 ∧ rM = -5 ∧ kbM = kb ∧ iwM = iw ∧ (mkcM = mkc ∧ mkpM = mkp ∧ mkmM = mkm ∧ mkfM = mkf ∧ mkuM = mku ∧ mkeM = mke) ∧ dnM = dn ∧ cpM = cp) ∨ (dn = 0 ∧ ¬ kb < 100 ∧ rM = -1 ∧ kbM = kb ∧ iwM = iw ∧ (mkcM = mkc ∧ mkpM = mkp ∧ mkmM = mkm ∧ mkfM = mkf ∧ mkuM = mku ∧ mkeM = mke) ∧ dnM = dn ∧ cpM = cp) ∨ (dn = 0 ∧ kb < 100 ∧ (¬ cp = 0 ∧ cp ≤ nI (4 + c + f)) ∧ cp = 1 ∧ rM = 0 ∧ kbM = kb ∧ iwM = iw ∧ (mkcM = mkc ∧ mkpM = mkp ∧ mkmM = mkm ∧ mkfM = mkf ∧ mkuM = mku ∧ mkeM = mke) ∧ dnM = 1 ∧ cpM = 0) ∨ (dn = 0 ∧ kb < 100 ∧ (¬ cp = 0 ∧ cp ≤ nI (4 + c + f)) ∧ ¬ cp = 1 ∧ rM = 0 ∧ kbM = kb + 1 ∧ iwM = upd iw (kb + 1) 0 ∧ (mkcM = va_cpy cs mkc 0 (12 * (kb + 1)) 12 ∧ mkpM = va_cpy ps mkp 0 (6 * (kb + 1)) 6 ∧ mkmM = upd mkm (kb + 1) (nI c) ∧ mkfM = upd mkf (kb + 1) (nI f) ∧ mkuM = upd mku (kb + 1) (nI t) ∧ mkeM = upd mke (kb + 1) ed) ∧ dnM = 1 ∧ cpM = 0) ∨ (dn = 0 ∧ kb < 100 ∧ ¬ (¬ cp = 0 ∧ cp ≤ nI (4 + c + f)) ∧ rM = nI (kb + 1) ∧ kbM = kb + 1 ∧ iwM = upd iw (kb + 1) 1 ∧ (mkcM = va_cpy cs mkc 0 (12 * (kb + 1)) 12 ∧ mkpM = va_cpy ps mkp 0 (6 * (kb + 1)) 6 ∧ mkmM = upd mkm (kb + 1) (nI c) ∧ mkfM = upd mkf (kb + 1) (nI f) ∧ mkuM = upd mku (kb + 1) (nI t) ∧ mkeM = upd mke (kb + 1) ed) ∧ dnM = dn ∧ cpM = cp)) : rC = rM ∧ kbC = kbM ∧ dnC = dnM ∧ cpC = cpM ∧ simI c f t kbC dnC cpC ln ps ro kwC keC kuC knC kcC kpC iwM mkeM mkuM mkmM mkfM mkcM mkpM := by
  have hI := h
  obtain ⟨⟨hc, hf, ht, hkb, hdn, hcp⟩, ⟨k1, k2, k3, k4, k5⟩, hp, hl, hr, hR⟩ := h
  rcases hC with ⟨x1, e0, e1, e2, ⟨e3, e4, e5, e6, e7⟩, e8, e9⟩ | ⟨x1, x2, e0, e1, e2, ⟨e3, e4, e5, e6, e7⟩, e8, e9⟩ | ⟨x1, x2, x3, x4, e0, e1, e2, ⟨e3, e4, e5, e6, e7⟩, e8, e9⟩ | ⟨x1, x2, x3, x4, e0, e1, e2, ⟨e3, e4, e5, e6, e7⟩, e8, e9⟩ | ⟨x1, x2, x3, e0, e1, e2, ⟨e3, e4, e5, e6, e7⟩, e8, e9⟩ <;>
  rcases hM with ⟨y1, d0, d1, d2, ⟨d3, d4, d5, d6, d7, d10⟩, d8, d9⟩ | ⟨y1, y2, d0, d1, d2, ⟨d3, d4, d5, d6, d7, d10⟩, d8, d9⟩ | ⟨y1, y2, y3, y4, d0, d1, d2, ⟨d3, d4, d5, d6, d7, d10⟩, d8, d9⟩ | ⟨y1, y2, y3, y4, d0, d1, d2, ⟨d3, d4, d5, d6, d7, d10⟩, d8, d9⟩ | ⟨y1, y2, y3, d0, d1, d2, ⟨d3, d4, d5, d6, d7, d10⟩, d8, d9⟩ <;>
  first
  | contradiction
  | (rw [e0, e1, e2, e3, e4, e5, e6, e7, e8, e9, d0, d1, d2, d3, d4, d5, d6, d7, d8, d9, d10]
     first
     | exact ⟨rfl, rfl, rfl, rfl, hI⟩
     | exact ⟨rfl, rfl, rfl, rfl, ⟨hc, hf, ht, hkb, Or.inr rfl, by decide⟩, ⟨k1, k2, k3, k4, k5⟩, hp, hl, hr, hR⟩
     | exact ⟨rfl, rfl, rfl, rfl, ⟨hc, hf, ht, by omega, Or.inr rfl, by decide⟩, ⟨k1, k2, ki_upd k3 ht, ki_upd k4 hc, ki_upd k5 hf⟩, hp, hl, hr, KR_torn hR⟩
     | exact ⟨rfl, rfl, rfl, rfl, ⟨hc, hf, ht, by omega, hdn, hcp⟩, ⟨ki_upd k1 ht, ki_upd k2 hc, ki_upd k3 ht, ki_upd k4 hc, ki_upd k5 hf⟩, hp, hl, hr, KR_whole hR hp⟩)
theorem restart_both {x rC rM dnC dnM : Int32} {kbC kbM tC tM : Nat} {csC csM : Nat → Int64} {psC psM : Nat → Int32} (h : simI c f t kb dn cp ln ps ro kw ke ku kn kc kp iw mke mku mkm mkf mkc mkp) (hC : (dn = 0 ∧ rC = -5 ∧ (kbC = kb ∧ csC = cs ∧ psC = ps ∧ tC = t ∧ dnC = dn)) ∨ (¬ dn = 0 ∧ lwn kw kb x = 0 ∧ rC = -1 ∧ (kbC = kb ∧ csC = cs ∧ psC = ps ∧ tC = t ∧ dnC = dn)) ∨ (¬ dn = 0 ∧ ¬ lwn kw kb x = 0 ∧ ¬ ke (lwn kw kb x - 1) = ed ∧ rC = -3 ∧ (kbC = kb ∧ csC = cs ∧ psC = ps ∧ tC = t ∧ dnC = dn)) ∨ (¬ dn = 0 ∧ ¬ lwn kw kb x = 0 ∧ ke (lwn kw kb x - 1) = ed ∧ ¬ pe_r (lwn kw kb x) f ln kp = 0 ∧ rC = -2 ∧ (kbC = kb ∧ csC = cs ∧ psC = ps ∧ tC = t ∧ dnC = dn)) ∨ (¬ dn = 0 ∧ ¬ lwn kw kb x = 0 ∧ ke (lwn kw kb x - 1) = ed ∧ pe_r (lwn kw kb x) f ln kp = 0 ∧ rC = nI (lwn kw kb x) ∧ kbC = lwn kw kb x ∧ (∃ n, n ≤ 12 ∧ kn (lwn kw kb x - 1) = nI n ∧ csC = va_cpy kc (so_c cs fv c) ((lwn kw kb x - 1) * 12) 0 n) ∧ psC = va_cpy kp (so_p ps 6) ((lwn kw kb x - 1) * 6) 0 6 ∧ ku (lwn kw kb x - 1) = nI tC ∧ tC ≤ 5000 ∧ dnC = 0)) (hM : (dn = 0 ∧ rM = -5 ∧ (kbM = kb ∧ csM = cs ∧ psM = ps ∧ tM = t ∧ dnM = dn)) ∨ (¬ dn = 0 ∧ mwn iw kb x = 0 ∧ rM = -1 ∧ (kbM = kb ∧ csM = cs ∧ psM = ps ∧ tM = t ∧ dnM = dn)) ∨ (¬ dn = 0 ∧ ¬ mwn iw kb x = 0 ∧ ¬ mke (mwn iw kb x) = ed ∧ rM = -3 ∧ (kbM = kb ∧ csM = cs ∧ psM = ps ∧ tM = t ∧ dnM = dn)) ∨ (¬ dn = 0 ∧ ¬ mwn iw kb x = 0 ∧ mke (mwn iw kb x) = ed ∧ (∃ g, g ≤ 6 ∧ mkf (mwn iw kb x) = nI g ∧ ¬ (∀ j, j < g → mkp (6 * mwn iw kb x + j) ≤ ln j)) ∧ rM = -2 ∧ (kbM = kb ∧ csM = cs ∧ psM = ps ∧ tM = t ∧ dnM = dn)) ∨ (¬ dn = 0 ∧ ¬ mwn iw kb x = 0 ∧ mke (mwn iw kb x) = ed ∧ (∃ g n, g ≤ 6 ∧ mkf (mwn iw kb x) = nI g ∧ (∀ j, j < g → mkp (6 * mwn iw kb x + j) ≤ ln j) ∧ n ≤ 12 ∧ mkm (mwn iw kb x) = nI n ∧ csM = rc_c cs fv mkc (mwn iw kb x) n c ∧ psM = rc_p ps mkp (mwn iw kb x) g f) ∧ rM = nI (mwn iw kb x) ∧ kbM = mwn iw kb x ∧ mku (mwn iw kb x) = nI tM ∧ tM ≤ 5000 ∧ dnM = 0)) : rC = rM ∧ kbC = kbM ∧ csC = csM ∧ psC = psM ∧ tC = tM ∧ dnC = dnM ∧ simI c f tC kbC dnC cp ln psC ro kw ke ku kn kc kp iw mke mku mkm mkf mkc mkp := by
  have hI := h
  obtain ⟨⟨hc, hf, ht, hkb, hdn, hcp⟩, ⟨k1, k2, k3, k4, k5⟩, hp, hl, hr, hR⟩ := h
  have hmn := lwn_mwn (x := x) hkb hR
  have hle := lwn_le (kw := kw) (x := x) hkb
  have hwh := lwn_whole (kw := kw) (x := x) hkb
  rw [hmn] at hM
  generalize hN : lwn kw kb x = N at hC hM hmn hle hwh
  have hkr : ¬ N = 0 → ke (N - 1) = mke N ∧ ku (N - 1) = mku N ∧ kn (N - 1) = mkm N ∧ (∀ j, j < 12 → kc ((N - 1) * 12 + j) = mkc (12 * N + j)) ∧ (∀ j, j < 6 → kp ((N - 1) * 6 + j) = mkp (6 * N + j)) ∧ (∃ n, n ≤ c ∧ kn (N - 1) = nI n) ∧ ∃ g, g ≤ f ∧ mkf N = nI g ∧ ∀ j, g ≤ j → j < 6 → kp ((N - 1) * 6 + j) = 0 := by
    intro h0
    have h1 := (hR (N - 1) (by omega)).2 (hwh h0)
    rw [show N - 1 + 1 = N by omega] at h1
    exact h1
  have hpe : ¬ N = 0 → ∀ g, g ≤ 6 → mkf N = nI g → (pe_r N f ln kp = 0 ↔ ∀ j, j < g → mkp (6 * N + j) ≤ ln j) := by
    intro h0 g hg hgk
    obtain ⟨-, -, -, -, b5, -, g', g1, g2, g3⟩ := hkr h0
    have hgg : g' = g := (nI_eq (by omega) (by omega)).mp (g2.symm.trans hgk)
    subst hgg
    constructor
    · intro q j hj
      unfold pe_r at q
      by_cases q2 : ∀ j, j < f → kp ((N - 1) * 6 + j) ≤ ln j
      · rw [← b5 j (by omega)]; exact q2 j (by omega)
      · rw [if_neg q2] at q; exact absurd q (by decide)
    · intro q
      refine pe_yes (fun j hj => ?_)
      by_cases q2 : j < g'
      · rw [b5 j (by omega)]; exact q j q2
      · rw [g3 j (by omega) (by omega)]; exact cr_nlt (hl j)
  rcases hC with ⟨x1, e0, e1, e2, e3, e4, e5⟩ | ⟨x1, x2, e0, e1, e2, e3, e4, e5⟩ | ⟨x1, x2, x3, e0, e1, e2, e3, e4, e5⟩ | ⟨x1, x2, x3, x4, e0, e1, e2, e3, e4, e5⟩ | ⟨x1, x2, x3, x4, e0, e1, ⟨n, n1, n2, e2⟩, e3, e4, e6, e5⟩ <;>
  rcases hM with ⟨y1, d0, d1, d2, d3, d4, d5⟩ | ⟨y1, y2, d0, d1, d2, d3, d4, d5⟩ | ⟨y1, y2, y3, d0, d1, d2, d3, d4, d5⟩ | ⟨y1, y2, y3, ⟨g, g1, g2, y4⟩, d0, d1, d2, d3, d4, d5⟩ | ⟨y1, y2, y3, ⟨g, n', g1, g2, y4, n1', n2', d2, d3⟩, d0, d1, d4, d6, d5⟩ <;>
  first
  | contradiction
  | (exact absurd ((hkr x2).1.symm.trans x3) y3)
  | (exact absurd ((hkr x2).1.trans y3) x3)
  | (exact absurd ((hpe x2 g g1 g2).mp x4) y4)
  | (exact absurd ((hpe x2 g g1 g2).mpr y4) x4)
  | (rw [e0, e1, e2, e3, e4, e5, d0, d1, d2, d3, d4, d5]; exact ⟨rfl, rfl, rfl, rfl, rfl, rfl, hI⟩)
  | skip
  · obtain ⟨b1, b2, b3, b4, b5, ⟨n9, n3, n4⟩, g9, g3, g4, g5⟩ := hkr x2
    have hgg : g9 = g := (nI_eq (by omega) (by omega)).mp (g4.symm.trans g2)
    have hnn : n9 = n := (nI_eq (by omega) (by omega)).mp (n4.symm.trans n2)
    have hnm : n' = n := (nI_eq (by omega) (by omega)).mp (n2'.symm.trans (b3.symm.trans n2))
    have htt : tC = tM := (nI_eq (by omega) (by omega)).mp (e4.symm.trans (b2.trans d4))
    subst hgg; subst hnn; subst hnm; subst htt
    have hcs : csC = csM := by
      rw [e2, d2]
      funext j
      unfold va_cpy rc_c so_c
      by_cases q : j < n'
      · rw [if_pos ⟨Nat.zero_le j, by omega⟩, if_pos (by omega), if_pos q, Nat.sub_zero]; exact b4 j (by omega)
      · rw [if_neg (by omega), if_neg q]
    have hps : psC = psM := by
      rw [e3, d3]
      funext j
      unfold va_cpy rc_p so_p
      by_cases q : j < 6
      · rw [if_pos ⟨Nat.zero_le j, by omega⟩, Nat.sub_zero]
        by_cases q1 : j < f
        · rw [if_pos q1]
          by_cases q2 : j < g9
          · rw [if_pos q2]; exact b5 j q
          · rw [if_neg q2]; exact g5 j (by omega) q
        · rw [if_neg q1, hp j (by omega) q]; exact g5 j (by omega) q
      · rw [if_neg (by omega), if_neg q, if_neg (by omega)]
    refine ⟨e0.trans d0.symm, e1.trans d1.symm, hcs, hps, rfl, e5.trans d5.symm, ⟨hc, hf, e6, by rw [e1]; omega, Or.inl e5, hcp⟩, ⟨k1, k2, k3, k4, k5⟩, fun j h3 h4 => ?_, hl, hr, fun k hk => hR k (by rw [e1] at hk; omega)⟩
    rw [e3]
    unfold va_cpy
    rw [if_pos ⟨Nat.zero_le j, by omega⟩, Nat.sub_zero]
    exact g5 j (by omega) h4
end SIM2
