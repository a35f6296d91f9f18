abbrev rm_X4_restart : Room := { frames := 0, cells := 0, slots := 0, locals := 0 }
abbrev qc_X4_restart (D : va_G) (cI cL cZ : ClassId) (am : Nat) (acs : Nat) (afv : Nat) (atr : Nat) (aln : Nat) (aps : Nat) (ata : Nat) (aro : Nat) (akc : Nat) (akp : Nat) (akm : Nat) (akf : Nat) (aku : Nat) (ake : Nat) (aiw : Nat) (cde : Int32) (c : Nat) (f : Nat) (t : Nat) (kb : Nat) (ed : Int32) (cp : Int32) (ct : Int32) (dn : Int32) (cs : Nat → Int64) (fv : Nat → Int64) (ln : Nat → Int32) (ps : Nat → Int32) (kc : Nat → Int64) (kp : Nat → Int32) (km : Nat → Int32) (kf : Nat → Int32) (ku : Nat → Int32) (ke : Nat → Int32) (iw : Nat → Int32) (x : Int32) (A : Nat → Prop) : Array Value → State → Outcome → State → Prop := va_Qi (fun (r : Int32) (u : Nat × (Nat → Int64) × (Nat → Int32) × Nat × Int32) => ((dn = 0 ∧ r = -5 ∧ (u.1 = kb ∧ u.2.1 = cs ∧ u.2.2.1 = ps ∧ u.2.2.2.1 = t ∧ u.2.2.2.2 = dn)) ∨ (¬ dn = 0 ∧ mwn iw kb x = 0 ∧ r = -1 ∧ (u.1 = kb ∧ u.2.1 = cs ∧ u.2.2.1 = ps ∧ u.2.2.2.1 = t ∧ u.2.2.2.2 = dn)) ∨ (¬ dn = 0 ∧ ¬ mwn iw kb x = 0 ∧ ¬ ke (mwn iw kb x) = ed ∧ r = -3 ∧ (u.1 = kb ∧ u.2.1 = cs ∧ u.2.2.1 = ps ∧ u.2.2.2.1 = t ∧ u.2.2.2.2 = dn)) ∨ (¬ dn = 0 ∧ ¬ mwn iw kb x = 0 ∧ ke (mwn iw kb x) = ed ∧ (∃ g, g ≤ 6 ∧ kf (mwn iw kb x) = nI g ∧ ¬ (∀ j, j < g → kp (6 * mwn iw kb x + j) ≤ ln j)) ∧ r = -2 ∧ (u.1 = kb ∧ u.2.1 = cs ∧ u.2.2.1 = ps ∧ u.2.2.2.1 = t ∧ u.2.2.2.2 = dn)) ∨ (¬ dn = 0 ∧ ¬ mwn iw kb x = 0 ∧ ke (mwn iw kb x) = ed ∧ (∃ g n, g ≤ 6 ∧ kf (mwn iw kb x) = nI g ∧ (∀ j, j < g → kp (6 * mwn iw kb x + j) ≤ ln j) ∧ n ≤ 12 ∧ km (mwn iw kb x) = nI n ∧ u.2.1 = rc_c cs fv kc (mwn iw kb x) n c ∧ u.2.2.1 = rc_p ps kp (mwn iw kb x) g f) ∧ r = nI (mwn iw kb x) ∧ u.1 = mwn iw kb x ∧ ku (mwn iw kb x) = nI u.2.2.2.1 ∧ u.2.2.2.1 ≤ 5000 ∧ u.2.2.2.2 = 0))) (ct_B D vwCl [(cI, .int), (cL, .long), (cZ, .boolean)] A (fun (u : Nat × (Nat → Int64) × (Nat → Int32) × Nat × Int32) => [(am, .inr (5, [.int 0, .ref acs, .ref afv, .ref atr, .ref aln, .ref aps, .ref ata, .int (nI c), .int (nI f), .int (nI u.2.2.2.1), .int ed, .ref aro, .ref akc, .ref akp, .ref akm, .ref akf, .ref aku, .ref ake, .ref aiw, .int (nI u.1), .int cp, .int ct, .int u.2.2.2.2])), (acs, .inl (cL, 12, .inr (.inl u.2.1))), (afv, .inl (cL, 12, .inr (.inl fv))), (aln, .inl (cI, 6, .inl ln)), (aps, .inl (cI, 6, .inl u.2.2.1)), (akc, .inl (cL, 1212, .inr (.inl kc))), (akp, .inl (cI, 606, .inl kp)), (akm, .inl (cI, 101, .inl km)), (akf, .inl (cI, 101, .inl kf)), (aku, .inl (cI, 101, .inl ku)), (ake, .inl (cI, 101, .inl ke)), (aiw, .inl (cZ, 101, .inl iw))])) A
set_option maxHeartbeats 4000000 in
set_option maxRecDepth 100000 in
theorem c_X4_restart (l : Launch) (D : va_G) (cI cL cZ : ClassId) (am : Nat) (acs : Nat) (afv : Nat) (atr : Nat) (aln : Nat) (aps : Nat) (ata : Nat) (aro : Nat) (akc : Nat) (akp : Nat) (akm : Nat) (akf : Nat) (aku : Nat) (ake : Nat) (aiw : Nat) (cde : Int32) (c : Nat) (f : Nat) (t : Nat) (kb : Nat) (ed : Int32) (cp : Int32) (ct : Int32) (dn : Int32) (cs : Nat → Int64) (fv : Nat → Int64) (ln : Nat → Int32) (ps : Nat → Int32) (kc : Nat → Int64) (kp : Nat → Int32) (km : Nat → Int32) (kf : Nat → Int32) (ku : Nat → Int32) (ke : Nat → Int32) (iw : Nat → Int32) (x : Int32) (sz : Nat) (hc : c ≤ 12) (hf : f ≤ 6) (hkb : kb ≤ 100) (hku : ∀ j, ∃ n, n ≤ 5000 ∧ ku j = nI n) (hkm : ∀ j, ∃ n, n ≤ 12 ∧ km j = nI n) (hkf : ∀ j, ∃ n, n ≤ 6 ∧ kf j = nI n) : Met l yX4_restart wsX4_restart rm_X4_restart (va_Pc [.ref am, .int x] (ct_P D vwCl [(cI, .int), (cL, .long), (cZ, .boolean)] [(am, .inr (5, [.int cde, .ref acs, .ref afv, .ref atr, .ref aln, .ref aps, .ref ata, .int (nI c), .int (nI f), .int (nI t), .int ed, .ref aro, .ref akc, .ref akp, .ref akm, .ref akf, .ref aku, .ref ake, .ref aiw, .int (nI kb), .int cp, .int ct, .int dn])), (acs, .inl (cL, 12, .inr (.inl cs))), (afv, .inl (cL, 12, .inr (.inl fv))), (aln, .inl (cI, 6, .inl ln)), (aps, .inl (cI, 6, .inl ps)), (akc, .inl (cL, 1212, .inr (.inl kc))), (akp, .inl (cI, 606, .inl kp)), (akm, .inl (cI, 101, .inl km)), (akf, .inl (cI, 101, .inl kf)), (aku, .inl (cI, 101, .inl ku)), (ake, .inl (cI, 101, .inl ke)), (aiw, .inl (cZ, 101, .inl iw))] sz)) (qc_X4_restart D cI cL cZ am acs afv atr aln aps ata aro akc akp akm akf aku ake aiw cde c f t kb ed cp ct dn cs fv ln ps kc kp km kf ku ke iw x (va_A [(am, .inr (5, [.int cde, .ref acs, .ref afv, .ref atr, .ref aln, .ref aps, .ref ata, .int (nI c), .int (nI f), .int (nI t), .int ed, .ref aro, .ref akc, .ref akp, .ref akm, .ref akf, .ref aku, .ref ake, .ref aiw, .int (nI kb), .int cp, .int ct, .int dn])), (acs, .inl (cL, 12, .inr (.inl cs))), (afv, .inl (cL, 12, .inr (.inl fv))), (aln, .inl (cI, 6, .inl ln)), (aps, .inl (cI, 6, .inl ps)), (akc, .inl (cL, 1212, .inr (.inl kc))), (akp, .inl (cI, 606, .inl kp)), (akm, .inl (cI, 101, .inl km)), (akf, .inl (cI, 101, .inl kf)), (aku, .inl (cI, 101, .inl ku)), (ake, .inl (cI, 101, .inl ke)), (aiw, .inl (cZ, 101, .inl iw))] sz)) 0 0 (va_A [(am, .inr (5, [.int cde, .ref acs, .ref afv, .ref atr, .ref aln, .ref aps, .ref ata, .int (nI c), .int (nI f), .int (nI t), .int ed, .ref aro, .ref akc, .ref akp, .ref akm, .ref akf, .ref aku, .ref ake, .ref aiw, .int (nI kb), .int cp, .int ct, .int dn])), (acs, .inl (cL, 12, .inr (.inl cs))), (afv, .inl (cL, 12, .inr (.inl fv))), (aln, .inl (cI, 6, .inl ln)), (aps, .inl (cI, 6, .inl ps)), (akc, .inl (cL, 1212, .inr (.inl kc))), (akp, .inl (cI, 606, .inl kp)), (akm, .inl (cI, 101, .inl km)), (akf, .inl (cI, 101, .inl kf)), (aku, .inl (cI, 101, .inl ku)), (ake, .inl (cI, 101, .inl ke)), (aiw, .inl (cZ, 101, .inl iw))] sz) := by
  refine Met.ofW (cc := cX4_restart) (maxL := 4) (ret := (some .int)) (by decide) rfl ?_
  intro p e s m args below meth cd s₁ B hml hv
  obtain ⟨rfl, hsz, hP, hK, hD0⟩ := hv
  have hx := B.exec
  have hb := B.bytes
  have hr := B.returns
  have hts := atoms_spec (ws := wsX4_restart) B.pre
  have iX4 : ∀ w ∈ wsX40, w ∈ wsX4_restart := by decide +kernel
  have wf68 := hts (.fieldLink RX4 68 "CheckRestartModel" "files" "I") (by decide +kernel)
  have wf44 := hts (.fieldLink RX4 44 "CheckRestartModel" "keptUnits" "[I") (by decide +kernel)
  have wf62 := hts (.fieldLink RX4 62 "CheckRestartModel" "units" "I") (by decide +kernel)
  have wf77 := hts (.fieldLink RX4 77 "CheckRestartModel" "checks" "I") (by decide +kernel)
  have wf58 := hts (.fieldLink RX4 58 "CheckRestartModel" "down" "Z") (by decide +kernel)
  have wf23 := hts (.fieldLink RX4 23 "CheckRestartModel" "positions" "[I") (by decide +kernel)
  have wf41 := hts (.fieldLink RX4 41 "CheckRestartModel" "keptFiles" "[I") (by decide +kernel)
  have wf35 := hts (.fieldLink RX4 35 "CheckRestartModel" "keptPositions" "[I") (by decide +kernel)
  have wf65 := hts (.fieldLink RX4 65 "CheckRestartModel" "many" "I") (by decide +kernel)
  have wf7 := hts (.fieldLink RX4 7 "CheckRestartModel" "cells" "[J") (by decide +kernel)
  have wf38 := hts (.fieldLink RX4 38 "CheckRestartModel" "keptMany" "[I") (by decide +kernel)
  have wf13 := hts (.fieldLink RX4 13 "CheckRestartModel" "first" "[J") (by decide +kernel)
  have wf32 := hts (.fieldLink RX4 32 "CheckRestartModel" "keptCells" "[J") (by decide +kernel)
  have wf19 := hts (.fieldLink RX4 19 "CheckRestartModel" "lengths" "[I") (by decide +kernel)
  have wf50 := hts (.fieldLink RX4 50 "CheckRestartModel" "isWhole" "[Z") (by decide +kernel)
  have wf47 := hts (.fieldLink RX4 47 "CheckRestartModel" "keptEdition" "[I") (by decide +kernel)
  have wf86 := hts (.fieldLink RX4 86 "CheckRestartModel" "edition" "I") (by decide +kernel)
  have wf54 := hts (.fieldLink RX4 54 "CheckRestartModel" "code" "I") (by decide +kernel)
  have hown : s.vm.findClass RX4 = some m.cls := findClass_of_methodNamed B.named
  have hlocks := B.notSynchronized
  subst hsz
  have hD := hD0.self (sz := s.heap.size)
  generalize hAe : va_A [(am, .inr (5, [.int cde, .ref acs, .ref afv, .ref atr, .ref aln, .ref aps, .ref ata, .int (nI c), .int (nI f), .int (nI t), .int ed, .ref aro, .ref akc, .ref akp, .ref akm, .ref akf, .ref aku, .ref ake, .ref aiw, .int (nI kb), .int cp, .int ct, .int dn])), (acs, .inl (cL, 12, .inr (.inl cs))), (afv, .inl (cL, 12, .inr (.inl fv))), (aln, .inl (cI, 6, .inl ln)), (aps, .inl (cI, 6, .inl ps)), (akc, .inl (cL, 1212, .inr (.inl kc))), (akp, .inl (cI, 606, .inl kp)), (akm, .inl (cI, 101, .inl km)), (akf, .inl (cI, 101, .inl kf)), (aku, .inl (cI, 101, .inl ku)), (ake, .inl (cI, 101, .inl ke)), (aiw, .inl (cZ, 101, .inl iw))] s.heap.size = A at hD ⊢
  have hA : ∀ q : Nat, s.heap.size ≤ q → A q := fun q h => by rw [← hAe]; exact Or.inr h
  have hS : va_S A s.heap s.heap [] := va_S.rf
  have hl := lv_entry ([.ref am, .int x]) (n := 4) (Nat.le_of_ble_eq_true rfl)
  rw [lg_entry_eq]
  generalize (lg_sl ([.ref am, .int x]) ++ List.replicate (4 - (lg_sl ([.ref am, .int x])).length) Slot.unset).toArray = ls at hl ⊢
  have hl : lv_has ls 4 [(0, .ref am), (1, .int x)] := hl
  have key168 : ∀ (n : Nat) (k : Nat) (g : Nat) (w : Nat) (i : Nat) (ps2 : Nat → Int32), (¬ dn = 0) → (1 ≤ k) → (k ≤ kb) → (mwn iw kb x = k) → (ke k = ed) → (g ≤ 6) → (kf k = nI g) → (∀ j, j < g → kp (6 * k + j) ≤ ln j) → (w ≤ 12) → (km k = nI w) → (i ≤ f) → (f + 1 ≤ i + n) → (ps2 = rc_p ps kp k g i) → ∀ (H : Heap) (locs : List Loc), va_P D vwCl [(am, .inr (5, [.int 0, .ref acs, .ref afv, .ref atr, .ref aln, .ref aps, .ref ata, .int (nI c), .int (nI f), .int (nI t), .int ed, .ref aro, .ref akc, .ref akp, .ref akm, .ref akf, .ref aku, .ref ake, .ref aiw, .int (nI kb), .int cp, .int ct, .int dn])), (acs, .inl (cL, 12, .inr (.inl (rc_c cs fv kc k w c)))), (afv, .inl (cL, 12, .inr (.inl fv))), (aln, .inl (cI, 6, .inl ln)), (aps, .inl (cI, 6, .inl ps2)), (akc, .inl (cL, 1212, .inr (.inl kc))), (akp, .inl (cI, 606, .inl kp)), (akm, .inl (cI, 101, .inl km)), (akf, .inl (cI, 101, .inl kf)), (aku, .inl (cI, 101, .inl ku)), (ake, .inl (cI, 101, .inl ke)), (aiw, .inl (cZ, 101, .inl iw))] H → va_D A [(am, .inr (5, [.int 0, .ref acs, .ref afv, .ref atr, .ref aln, .ref aps, .ref ata, .int (nI c), .int (nI f), .int (nI t), .int ed, .ref aro, .ref akc, .ref akp, .ref akm, .ref akf, .ref aku, .ref ake, .ref aiw, .int (nI kb), .int cp, .int ct, .int dn])), (acs, .inl (cL, 12, .inr (.inl (rc_c cs fv kc k w c)))), (afv, .inl (cL, 12, .inr (.inl fv))), (aln, .inl (cI, 6, .inl ln)), (aps, .inl (cI, 6, .inl ps2)), (akc, .inl (cL, 1212, .inr (.inl kc))), (akp, .inl (cI, 606, .inl kp)), (akm, .inl (cI, 101, .inl km)), (akf, .inl (cI, 101, .inl kf)), (aku, .inl (cI, 101, .inl ku)), (ake, .inl (cI, 101, .inl ke)), (aiw, .inl (cZ, 101, .inl iw))] → va_S A s.heap H locs → ∀ (ls : Array Slot), lv_has ls 4 [(3, .int (nI i)), (2, .int (nI k)), (0, .ref am), (1, .int x)] → W p l e (headSpec wsX4_restart rm_X4_restart).room s m ([.ref am, .int x] : List Value).toArray below meth cd H locs 0 0 (MQ below (qc_X4_restart D cI cL cZ am acs afv atr aln aps ata aro akc akp akm akf aku ake aiw cde c f t kb ed cp ct dn cs fv ln ps kc kp km kf ku ke iw x A) ([.ref am, .int x] : List Value).toArray s 0 0 A) (F0 m 168 ls []) := by
    intro n
    induction n with
    | zero => intro k g w i ps2 hdn hk1 hk2 hmn hke hg hgk hall hw1 hwk hi hm hps; exact absurd hm (by omega)
    | succ n ih =>
      intro k g w i ps2 hdn hk1 hk2 hmn hke hg hgk hall hw1 hwk hi hm hps H locs hP hD hS ls hl
      refine lv_iload_n hx hb dX4_restart_168 rfl (lv_at hl 0 rfl) ?_
      refine lv_aload_n hx hb dX4_restart_169 rfl (lv_at hl 2 rfl) ?_
      refine va_get (D := D) (ci := 5) (v := .int (nI f)) (C := RX4) (T := TX4) (N := 23) hx hb hts iX4 hown hK hP 0 rfl rfl 8 (by decide) wf68 (fun _ h9 => h9) rfl dX4_restart_170 ?_
      refine lv_icmp_ge (tgt := 213) hx hb dX4_restart_173 (by decide) (fun c_173 => ?_) (fun c_173 => ?_)
      · have h1 : f ≤ i := (nI_leI (by omega) (by omega)).mp c_173
        have h2 : i = f := by omega
        have hps : ps2 = rc_p ps kp k g f := by rw [hps, h2]
        subst hps
        refine lv_aload_n hx hb dX4_restart_213 rfl (lv_at hl 2 rfl) ?_
        refine lv_aload_n hx hb dX4_restart_214 rfl (lv_at hl 2 rfl) ?_
        refine va_get (D := D) (ci := 5) (v := .ref aku) (C := RX4) (T := TX4) (N := 23) hx hb hts iX4 hown hK hP 0 rfl rfl 16 (by decide) wf44 (fun _ h9 => h9) rfl dX4_restart_215 ?_
        refine lv_iload_n hx hb dX4_restart_218 rfl (lv_at hl 1 rfl) ?_
        obtain ⟨z, hz1, hzk⟩ := hku k
        refine ct_iald (k := k) hx hb hK hP 9 0 rfl rfl (by omega) (by decide) dX4_restart_219 ?_
        refine ct_topi (y := (nI z)) (hzk) ?_
        refine va_put (D := D) (ci := 5) (v := .int (nI z)) (ty := .int) (C := RX4) (T := TX4) (N := 23) hx hb hts iX4 tyX4 tyX4_ok nmX4 hown hK hP hD hS 0 rfl rfl 9 (by decide) wf62 (fun _ h9 => h9) rfl (by decide +kernel) rfl rfl (Nat.le_of_ble_eq_true rfl) dX4_restart_220 (fun H locs hP hD hS => ?_)
        have hP : va_P D vwCl [(am, .inr (5, [.int 0, .ref acs, .ref afv, .ref atr, .ref aln, .ref aps, .ref ata, .int (nI c), .int (nI f), .int (nI z), .int ed, .ref aro, .ref akc, .ref akp, .ref akm, .ref akf, .ref aku, .ref ake, .ref aiw, .int (nI kb), .int cp, .int ct, .int dn])), (acs, .inl (cL, 12, .inr (.inl (rc_c cs fv kc k w c)))), (afv, .inl (cL, 12, .inr (.inl fv))), (aln, .inl (cI, 6, .inl ln)), (aps, .inl (cI, 6, .inl (rc_p ps kp k g f))), (akc, .inl (cL, 1212, .inr (.inl kc))), (akp, .inl (cI, 606, .inl kp)), (akm, .inl (cI, 101, .inl km)), (akf, .inl (cI, 101, .inl kf)), (aku, .inl (cI, 101, .inl ku)), (ake, .inl (cI, 101, .inl ke)), (aiw, .inl (cZ, 101, .inl iw))] H := hP
        have hD : va_D A [(am, .inr (5, [.int 0, .ref acs, .ref afv, .ref atr, .ref aln, .ref aps, .ref ata, .int (nI c), .int (nI f), .int (nI z), .int ed, .ref aro, .ref akc, .ref akp, .ref akm, .ref akf, .ref aku, .ref ake, .ref aiw, .int (nI kb), .int cp, .int ct, .int dn])), (acs, .inl (cL, 12, .inr (.inl (rc_c cs fv kc k w c)))), (afv, .inl (cL, 12, .inr (.inl fv))), (aln, .inl (cI, 6, .inl ln)), (aps, .inl (cI, 6, .inl (rc_p ps kp k g f))), (akc, .inl (cL, 1212, .inr (.inl kc))), (akp, .inl (cI, 606, .inl kp)), (akm, .inl (cI, 101, .inl km)), (akf, .inl (cI, 101, .inl kf)), (aku, .inl (cI, 101, .inl ku)), (ake, .inl (cI, 101, .inl ke)), (aiw, .inl (cZ, 101, .inl iw))] := hD
        refine lv_aload_n hx hb dX4_restart_223 rfl (lv_at hl 2 rfl) ?_
        refine lv_iload_n hx hb dX4_restart_224 rfl (lv_at hl 1 rfl) ?_
        refine va_put (D := D) (ci := 5) (v := .int (nI k)) (ty := .int) (C := RX4) (T := TX4) (N := 23) hx hb hts iX4 tyX4 tyX4_ok nmX4 hown hK hP hD hS 0 rfl rfl 19 (by decide) wf77 (fun _ h9 => h9) rfl (by decide +kernel) rfl rfl (Nat.le_of_ble_eq_true rfl) dX4_restart_225 (fun H locs hP hD hS => ?_)
        have hP : va_P D vwCl [(am, .inr (5, [.int 0, .ref acs, .ref afv, .ref atr, .ref aln, .ref aps, .ref ata, .int (nI c), .int (nI f), .int (nI z), .int ed, .ref aro, .ref akc, .ref akp, .ref akm, .ref akf, .ref aku, .ref ake, .ref aiw, .int (nI k), .int cp, .int ct, .int dn])), (acs, .inl (cL, 12, .inr (.inl (rc_c cs fv kc k w c)))), (afv, .inl (cL, 12, .inr (.inl fv))), (aln, .inl (cI, 6, .inl ln)), (aps, .inl (cI, 6, .inl (rc_p ps kp k g f))), (akc, .inl (cL, 1212, .inr (.inl kc))), (akp, .inl (cI, 606, .inl kp)), (akm, .inl (cI, 101, .inl km)), (akf, .inl (cI, 101, .inl kf)), (aku, .inl (cI, 101, .inl ku)), (ake, .inl (cI, 101, .inl ke)), (aiw, .inl (cZ, 101, .inl iw))] H := hP
        have hD : va_D A [(am, .inr (5, [.int 0, .ref acs, .ref afv, .ref atr, .ref aln, .ref aps, .ref ata, .int (nI c), .int (nI f), .int (nI z), .int ed, .ref aro, .ref akc, .ref akp, .ref akm, .ref akf, .ref aku, .ref ake, .ref aiw, .int (nI k), .int cp, .int ct, .int dn])), (acs, .inl (cL, 12, .inr (.inl (rc_c cs fv kc k w c)))), (afv, .inl (cL, 12, .inr (.inl fv))), (aln, .inl (cI, 6, .inl ln)), (aps, .inl (cI, 6, .inl (rc_p ps kp k g f))), (akc, .inl (cL, 1212, .inr (.inl kc))), (akp, .inl (cI, 606, .inl kp)), (akm, .inl (cI, 101, .inl km)), (akf, .inl (cI, 101, .inl kf)), (aku, .inl (cI, 101, .inl ku)), (ake, .inl (cI, 101, .inl ke)), (aiw, .inl (cZ, 101, .inl iw))] := hD
        refine lv_aload_n hx hb dX4_restart_228 rfl (lv_at hl 2 rfl) ?_
        refine lv_iconst (v := 0) hx hb dX4_restart_229 (by decide) ?_
        refine va_put (D := D) (ci := 5) (v := .int 0) (ty := .boolean) (C := RX4) (T := TX4) (N := 23) hx hb hts iX4 tyX4 tyX4_ok nmX4 hown hK hP hD hS 0 rfl rfl 22 (by decide) wf58 (fun _ h9 => h9) rfl (by decide +kernel) rfl rfl (Nat.le_of_ble_eq_true rfl) dX4_restart_230 (fun H locs hP hD hS => ?_)
        have hP : va_P D vwCl [(am, .inr (5, [.int 0, .ref acs, .ref afv, .ref atr, .ref aln, .ref aps, .ref ata, .int (nI c), .int (nI f), .int (nI z), .int ed, .ref aro, .ref akc, .ref akp, .ref akm, .ref akf, .ref aku, .ref ake, .ref aiw, .int (nI k), .int cp, .int ct, .int 0])), (acs, .inl (cL, 12, .inr (.inl (rc_c cs fv kc k w c)))), (afv, .inl (cL, 12, .inr (.inl fv))), (aln, .inl (cI, 6, .inl ln)), (aps, .inl (cI, 6, .inl (rc_p ps kp k g f))), (akc, .inl (cL, 1212, .inr (.inl kc))), (akp, .inl (cI, 606, .inl kp)), (akm, .inl (cI, 101, .inl km)), (akf, .inl (cI, 101, .inl kf)), (aku, .inl (cI, 101, .inl ku)), (ake, .inl (cI, 101, .inl ke)), (aiw, .inl (cZ, 101, .inl iw))] H := hP
        have hD : va_D A [(am, .inr (5, [.int 0, .ref acs, .ref afv, .ref atr, .ref aln, .ref aps, .ref ata, .int (nI c), .int (nI f), .int (nI z), .int ed, .ref aro, .ref akc, .ref akp, .ref akm, .ref akf, .ref aku, .ref ake, .ref aiw, .int (nI k), .int cp, .int ct, .int 0])), (acs, .inl (cL, 12, .inr (.inl (rc_c cs fv kc k w c)))), (afv, .inl (cL, 12, .inr (.inl fv))), (aln, .inl (cI, 6, .inl ln)), (aps, .inl (cI, 6, .inl (rc_p ps kp k g f))), (akc, .inl (cL, 1212, .inr (.inl kc))), (akp, .inl (cI, 606, .inl kp)), (akm, .inl (cI, 101, .inl km)), (akf, .inl (cI, 101, .inl kf)), (aku, .inl (cI, 101, .inl ku)), (ake, .inl (cI, 101, .inl ke)), (aiw, .inl (cZ, 101, .inl iw))] := hD
        refine lv_iload_n hx hb dX4_restart_233 rfl (lv_at hl 1 rfl) ?_
        have hP9 := hP.sub (ws' := [(am, .inr (5, [.int 0, .ref acs, .ref afv, .ref atr, .ref aln, .ref aps, .ref ata, .int (nI c), .int (nI f), .int (nI z), .int ed, .ref aro, .ref akc, .ref akp, .ref akm, .ref akf, .ref aku, .ref ake, .ref aiw, .int (nI k), .int cp, .int ct, .int 0])), (acs, .inl (cL, 12, .inr (.inl (rc_c cs fv kc k w c)))), (afv, .inl (cL, 12, .inr (.inl fv))), (aln, .inl (cI, 6, .inl ln)), (aps, .inl (cI, 6, .inl (rc_p ps kp k g f))), (akc, .inl (cL, 1212, .inr (.inl kc))), (akp, .inl (cI, 606, .inl kp)), (akm, .inl (cI, 101, .inl km)), (akf, .inl (cI, 101, .inl kf)), (aku, .inl (cI, 101, .inl ku)), (ake, .inl (cI, 101, .inl ke)), (aiw, .inl (cZ, 101, .inl iw))]) [0, 1, 2, 3, 4, 5, 6, 7, 8, 9, 10, 11] rfl
        have hD9 := hD.sub (ws' := [(am, .inr (5, [.int 0, .ref acs, .ref afv, .ref atr, .ref aln, .ref aps, .ref ata, .int (nI c), .int (nI f), .int (nI z), .int ed, .ref aro, .ref akc, .ref akp, .ref akm, .ref akf, .ref aku, .ref ake, .ref aiw, .int (nI k), .int cp, .int ct, .int 0])), (acs, .inl (cL, 12, .inr (.inl (rc_c cs fv kc k w c)))), (afv, .inl (cL, 12, .inr (.inl fv))), (aln, .inl (cI, 6, .inl ln)), (aps, .inl (cI, 6, .inl (rc_p ps kp k g f))), (akc, .inl (cL, 1212, .inr (.inl kc))), (akp, .inl (cI, 606, .inl kp)), (akm, .inl (cI, 101, .inl km)), (akf, .inl (cI, 101, .inl kf)), (aku, .inl (cI, 101, .inl ku)), (ake, .inl (cI, 101, .inl ke)), (aiw, .inl (cZ, 101, .inl iw))]) [0, 1, 2, 3, 4, 5, 6, 7, 8, 9, 10, 11] (by decide) rfl
        refine W.widen (k := 0) (n := 0) (Nat.le_of_ble_eq_true rfl) (Nat.le_of_ble_eq_true rfl) ?_
        exact W.iret (v := (nI k)) hx hb hr (fun t9 ht9 hW9 => ⟨⟨(nI k), (k, (rc_c cs fv kc k w c), (rc_p ps kp k g f), z, 0), rfl, Or.inr (Or.inr (Or.inr (Or.inr ⟨hdn, by omega, by rw [hmn]; exact hke, by rw [hmn]; exact ⟨g, w, hg, hgk, hall, hw1, hwk, rfl, rfl⟩, by rw [hmn], by rw [hmn], by rw [hmn]; exact hzk, hz1, rfl⟩))), by rw [ht9]; exact hP9, va_K.moved hW9.alike hK, hD9⟩, hS.F ht9⟩) hS.2.2 dX4_restart_234
      · have h1 : ¬ f ≤ i := fun h => c_173 ((nI_leI (by omega) (by omega)).mpr h)
        refine lv_aload_n hx hb dX4_restart_176 rfl (lv_at hl 2 rfl) ?_
        refine va_get (D := D) (ci := 5) (v := .ref aps) (C := RX4) (T := TX4) (N := 23) hx hb hts iX4 hown hK hP 0 rfl rfl 5 (by decide) wf23 (fun _ h9 => h9) rfl dX4_restart_177 ?_
        refine lv_iload_n hx hb dX4_restart_180 rfl (lv_at hl 0 rfl) ?_
        refine lv_iload_n hx hb dX4_restart_181 rfl (lv_at hl 0 rfl) ?_
        refine lv_aload_n hx hb dX4_restart_182 rfl (lv_at hl 2 rfl) ?_
        refine va_get (D := D) (ci := 5) (v := .ref akf) (C := RX4) (T := TX4) (N := 23) hx hb hts iX4 hown hK hP 0 rfl rfl 15 (by decide) wf41 (fun _ h9 => h9) rfl dX4_restart_183 ?_
        refine lv_iload_n hx hb dX4_restart_186 rfl (lv_at hl 1 rfl) ?_
        refine ct_iald (k := k) hx hb hK hP 8 0 rfl rfl (by omega) (by decide) dX4_restart_187 ?_
        refine ct_topi (y := (nI g)) (hgk) ?_
        refine lv_icmp_ge (tgt := 205) hx hb dX4_restart_188 (by decide) (fun c_188 => ?_) (fun c_188 => ?_)
        · have h5 : ¬ i < g := fun q => nI_ge q (by omega) c_188
          refine lv_iconst (v := 0) hx hb dX4_restart_205 (by decide) ?_
          refine ct_iast (k := i) hx hb hK hP hD hS 4 0 rfl rfl (by omega) (by decide) dX4_restart_206 (fun H locs hP hD hS => ?_)
          have hP : va_P D vwCl [(am, .inr (5, [.int 0, .ref acs, .ref afv, .ref atr, .ref aln, .ref aps, .ref ata, .int (nI c), .int (nI f), .int (nI t), .int ed, .ref aro, .ref akc, .ref akp, .ref akm, .ref akf, .ref aku, .ref ake, .ref aiw, .int (nI kb), .int cp, .int ct, .int dn])), (acs, .inl (cL, 12, .inr (.inl (rc_c cs fv kc k w c)))), (afv, .inl (cL, 12, .inr (.inl fv))), (aln, .inl (cI, 6, .inl ln)), (aps, .inl (cI, 6, .inl (upd ps2 i 0))), (akc, .inl (cL, 1212, .inr (.inl kc))), (akp, .inl (cI, 606, .inl kp)), (akm, .inl (cI, 101, .inl km)), (akf, .inl (cI, 101, .inl kf)), (aku, .inl (cI, 101, .inl ku)), (ake, .inl (cI, 101, .inl ke)), (aiw, .inl (cZ, 101, .inl iw))] H := hP
          have hD : va_D A [(am, .inr (5, [.int 0, .ref acs, .ref afv, .ref atr, .ref aln, .ref aps, .ref ata, .int (nI c), .int (nI f), .int (nI t), .int ed, .ref aro, .ref akc, .ref akp, .ref akm, .ref akf, .ref aku, .ref ake, .ref aiw, .int (nI kb), .int cp, .int ct, .int dn])), (acs, .inl (cL, 12, .inr (.inl (rc_c cs fv kc k w c)))), (afv, .inl (cL, 12, .inr (.inl fv))), (aln, .inl (cI, 6, .inl ln)), (aps, .inl (cI, 6, .inl (upd ps2 i 0))), (akc, .inl (cL, 1212, .inr (.inl kc))), (akp, .inl (cI, 606, .inl kp)), (akm, .inl (cI, 101, .inl km)), (akf, .inl (cI, 101, .inl kf)), (aku, .inl (cI, 101, .inl ku)), (ake, .inl (cI, 101, .inl ke)), (aiw, .inl (cZ, 101, .inl iw))] := hD
          refine lv_iinc (v := (nI (i + 1))) (lv' := [(3, .int (nI (i + 1))), (2, .int (nI k)), (0, .ref am), (1, .int x)]) hx hb dX4_restart_207 hl (k := 0) rfl (nI_1 i) (by decide) rfl (fun ls hl => ?_)
          refine lv_goto (tgt := 168) hx hb dX4_restart_210 (by decide) ?_
          exact ih k g w ((i + 1)) (upd ps2 i 0) hdn hk1 hk2 hmn hke hg hgk hall hw1 hwk (by omega) (by omega) (by rw [hps]; exact rc_p_s0 h5) _ _ (hP.sub [0, 1, 2, 3, 4, 5, 6, 7, 8, 9, 10, 11] rfl) (hD.sub [0, 1, 2, 3, 4, 5, 6, 7, 8, 9, 10, 11] (by decide) rfl) hS ls (lv_sub hl [0, 1, 2, 3] rfl)
        · have h5 : i < g := by
            rcases Nat.lt_or_ge i g with q | q
            · exact q
            · exact absurd (nI_le q (by omega)) c_188
          refine lv_aload_n hx hb dX4_restart_191 rfl (lv_at hl 2 rfl) ?_
          refine va_get (D := D) (ci := 5) (v := .ref akp) (C := RX4) (T := TX4) (N := 23) hx hb hts iX4 hown hK hP 0 rfl rfl 13 (by decide) wf35 (fun _ h9 => h9) rfl dX4_restart_192 ?_
          refine lv_bipush (v := 6) hx hb dX4_restart_195 (by decide) ?_
          refine lv_iload_n hx hb dX4_restart_197 rfl (lv_at hl 1 rfl) ?_
          refine lv_imul hx hb dX4_restart_198 ?_
          refine ct_topi (y := (nI (6 * k))) (pk_mul 6 k) ?_
          refine lv_iload_n hx hb dX4_restart_199 rfl (lv_at hl 0 rfl) ?_
          refine lv_iadd hx hb dX4_restart_200 ?_
          refine ct_topi (y := (nI (6 * k + i))) (nI_add _ _) ?_
          refine ct_iald (k := (6 * k + i)) hx hb hK hP 6 0 rfl rfl (by omega) (by decide) dX4_restart_201 ?_
          refine lv_goto (tgt := 206) hx hb dX4_restart_202 (by decide) ?_
          refine ct_iast (k := i) hx hb hK hP hD hS 4 0 rfl rfl (by omega) (by decide) dX4_restart_206 (fun H locs hP hD hS => ?_)
          have hP : va_P D vwCl [(am, .inr (5, [.int 0, .ref acs, .ref afv, .ref atr, .ref aln, .ref aps, .ref ata, .int (nI c), .int (nI f), .int (nI t), .int ed, .ref aro, .ref akc, .ref akp, .ref akm, .ref akf, .ref aku, .ref ake, .ref aiw, .int (nI kb), .int cp, .int ct, .int dn])), (acs, .inl (cL, 12, .inr (.inl (rc_c cs fv kc k w c)))), (afv, .inl (cL, 12, .inr (.inl fv))), (aln, .inl (cI, 6, .inl ln)), (aps, .inl (cI, 6, .inl (upd ps2 i (kp (6 * k + i))))), (akc, .inl (cL, 1212, .inr (.inl kc))), (akp, .inl (cI, 606, .inl kp)), (akm, .inl (cI, 101, .inl km)), (akf, .inl (cI, 101, .inl kf)), (aku, .inl (cI, 101, .inl ku)), (ake, .inl (cI, 101, .inl ke)), (aiw, .inl (cZ, 101, .inl iw))] H := hP
          have hD : va_D A [(am, .inr (5, [.int 0, .ref acs, .ref afv, .ref atr, .ref aln, .ref aps, .ref ata, .int (nI c), .int (nI f), .int (nI t), .int ed, .ref aro, .ref akc, .ref akp, .ref akm, .ref akf, .ref aku, .ref ake, .ref aiw, .int (nI kb), .int cp, .int ct, .int dn])), (acs, .inl (cL, 12, .inr (.inl (rc_c cs fv kc k w c)))), (afv, .inl (cL, 12, .inr (.inl fv))), (aln, .inl (cI, 6, .inl ln)), (aps, .inl (cI, 6, .inl (upd ps2 i (kp (6 * k + i))))), (akc, .inl (cL, 1212, .inr (.inl kc))), (akp, .inl (cI, 606, .inl kp)), (akm, .inl (cI, 101, .inl km)), (akf, .inl (cI, 101, .inl kf)), (aku, .inl (cI, 101, .inl ku)), (ake, .inl (cI, 101, .inl ke)), (aiw, .inl (cZ, 101, .inl iw))] := hD
          refine lv_iinc (v := (nI (i + 1))) (lv' := [(3, .int (nI (i + 1))), (2, .int (nI k)), (0, .ref am), (1, .int x)]) hx hb dX4_restart_207 hl (k := 0) rfl (nI_1 i) (by decide) rfl (fun ls hl => ?_)
          refine lv_goto (tgt := 168) hx hb dX4_restart_210 (by decide) ?_
          exact ih k g w ((i + 1)) (upd ps2 i (kp (6 * k + i))) hdn hk1 hk2 hmn hke hg hgk hall hw1 hwk (by omega) (by omega) (by rw [hps]; exact rc_p_s1 h5) _ _ (hP.sub [0, 1, 2, 3, 4, 5, 6, 7, 8, 9, 10, 11] rfl) (hD.sub [0, 1, 2, 3, 4, 5, 6, 7, 8, 9, 10, 11] (by decide) rfl) hS ls (lv_sub hl [0, 1, 2, 3] rfl)
  have key116 : ∀ (n : Nat) (k : Nat) (g : Nat) (w : Nat) (i : Nat) (cs2 : Nat → Int64), (¬ dn = 0) → (1 ≤ k) → (k ≤ kb) → (mwn iw kb x = k) → (ke k = ed) → (g ≤ 6) → (kf k = nI g) → (∀ j, j < g → kp (6 * k + j) ≤ ln j) → (w ≤ 12) → (km k = nI w) → (i ≤ c) → (c + 1 ≤ i + n) → (cs2 = rc_c cs fv kc k w i) → ∀ (H : Heap) (locs : List Loc), va_P D vwCl [(am, .inr (5, [.int 0, .ref acs, .ref afv, .ref atr, .ref aln, .ref aps, .ref ata, .int (nI c), .int (nI f), .int (nI t), .int ed, .ref aro, .ref akc, .ref akp, .ref akm, .ref akf, .ref aku, .ref ake, .ref aiw, .int (nI kb), .int cp, .int ct, .int dn])), (acs, .inl (cL, 12, .inr (.inl cs2))), (afv, .inl (cL, 12, .inr (.inl fv))), (aln, .inl (cI, 6, .inl ln)), (aps, .inl (cI, 6, .inl ps)), (akc, .inl (cL, 1212, .inr (.inl kc))), (akp, .inl (cI, 606, .inl kp)), (akm, .inl (cI, 101, .inl km)), (akf, .inl (cI, 101, .inl kf)), (aku, .inl (cI, 101, .inl ku)), (ake, .inl (cI, 101, .inl ke)), (aiw, .inl (cZ, 101, .inl iw))] H → va_D A [(am, .inr (5, [.int 0, .ref acs, .ref afv, .ref atr, .ref aln, .ref aps, .ref ata, .int (nI c), .int (nI f), .int (nI t), .int ed, .ref aro, .ref akc, .ref akp, .ref akm, .ref akf, .ref aku, .ref ake, .ref aiw, .int (nI kb), .int cp, .int ct, .int dn])), (acs, .inl (cL, 12, .inr (.inl cs2))), (afv, .inl (cL, 12, .inr (.inl fv))), (aln, .inl (cI, 6, .inl ln)), (aps, .inl (cI, 6, .inl ps)), (akc, .inl (cL, 1212, .inr (.inl kc))), (akp, .inl (cI, 606, .inl kp)), (akm, .inl (cI, 101, .inl km)), (akf, .inl (cI, 101, .inl kf)), (aku, .inl (cI, 101, .inl ku)), (ake, .inl (cI, 101, .inl ke)), (aiw, .inl (cZ, 101, .inl iw))] → va_S A s.heap H locs → ∀ (ls : Array Slot), lv_has ls 4 [(3, .int (nI i)), (2, .int (nI k)), (0, .ref am), (1, .int x)] → W p l e (headSpec wsX4_restart rm_X4_restart).room s m ([.ref am, .int x] : List Value).toArray below meth cd H locs 0 0 (MQ below (qc_X4_restart D cI cL cZ am acs afv atr aln aps ata aro akc akp akm akf aku ake aiw cde c f t kb ed cp ct dn cs fv ln ps kc kp km kf ku ke iw x A) ([.ref am, .int x] : List Value).toArray s 0 0 A) (F0 m 116 ls []) := by
    intro n
    induction n with
    | zero => intro k g w i cs2 hdn hk1 hk2 hmn hke hg hgk hall hw1 hwk hi hm hcs; exact absurd hm (by omega)
    | succ n ih =>
      intro k g w i cs2 hdn hk1 hk2 hmn hke hg hgk hall hw1 hwk hi hm hcs H locs hP hD hS ls hl
      refine lv_iload_n hx hb dX4_restart_116 rfl (lv_at hl 0 rfl) ?_
      refine lv_aload_n hx hb dX4_restart_117 rfl (lv_at hl 2 rfl) ?_
      refine va_get (D := D) (ci := 5) (v := .int (nI c)) (C := RX4) (T := TX4) (N := 23) hx hb hts iX4 hown hK hP 0 rfl rfl 7 (by decide) wf65 (fun _ h9 => h9) rfl dX4_restart_118 ?_
      refine lv_icmp_ge (tgt := 166) hx hb dX4_restart_121 (by decide) (fun c_121 => ?_) (fun c_121 => ?_)
      · have h1 : c ≤ i := (nI_leI (by omega) (by omega)).mp c_121
        have h2 : i = c := by omega
        have hcs : cs2 = rc_c cs fv kc k w c := by rw [hcs, h2]
        subst hcs
        refine lv_iconst (v := 0) hx hb dX4_restart_166 (by decide) ?_
        refine lv_istore_n (lv' := [(3, .int 0), (2, .int (nI k)), (0, .ref am), (1, .int x)]) hx hb dX4_restart_167 rfl hl (by decide) rfl (fun ls hl => ?_)
        exact key168 (f + 1) k g w 0 ps hdn hk1 hk2 hmn hke hg hgk hall hw1 hwk (by omega) (by omega) (rc_p_0 ps kp k g) _ _ (hP.sub [0, 1, 2, 3, 4, 5, 6, 7, 8, 9, 10, 11] rfl) (hD.sub [0, 1, 2, 3, 4, 5, 6, 7, 8, 9, 10, 11] (by decide) rfl) hS ls (lv_sub hl [0, 1, 2, 3] rfl)
      · have h1 : ¬ c ≤ i := fun h => c_121 ((nI_leI (by omega) (by omega)).mpr h)
        refine lv_aload_n hx hb dX4_restart_124 rfl (lv_at hl 2 rfl) ?_
        refine va_get (D := D) (ci := 5) (v := .ref acs) (C := RX4) (T := TX4) (N := 23) hx hb hts iX4 hown hK hP 0 rfl rfl 1 (by decide) wf7 (fun _ h9 => h9) rfl dX4_restart_125 ?_
        refine lv_iload_n hx hb dX4_restart_128 rfl (lv_at hl 0 rfl) ?_
        refine lv_iload_n hx hb dX4_restart_129 rfl (lv_at hl 0 rfl) ?_
        refine lv_aload_n hx hb dX4_restart_130 rfl (lv_at hl 2 rfl) ?_
        refine va_get (D := D) (ci := 5) (v := .ref akm) (C := RX4) (T := TX4) (N := 23) hx hb hts iX4 hown hK hP 0 rfl rfl 14 (by decide) wf38 (fun _ h9 => h9) rfl dX4_restart_131 ?_
        refine lv_iload_n hx hb dX4_restart_134 rfl (lv_at hl 1 rfl) ?_
        refine ct_iald (k := k) hx hb hK hP 7 0 rfl rfl (by omega) (by decide) dX4_restart_135 ?_
        refine ct_topi (y := (nI w)) (hwk) ?_
        refine lv_icmp_ge (tgt := 153) hx hb dX4_restart_136 (by decide) (fun c_136 => ?_) (fun c_136 => ?_)
        · have h5 : ¬ i < w := fun q => nI_ge q (by omega) c_136
          refine lv_aload_n hx hb dX4_restart_153 rfl (lv_at hl 2 rfl) ?_
          refine va_get (D := D) (ci := 5) (v := .ref afv) (C := RX4) (T := TX4) (N := 23) hx hb hts iX4 hown hK hP 0 rfl rfl 2 (by decide) wf13 (fun _ h9 => h9) rfl dX4_restart_154 ?_
          refine lv_iload_n hx hb dX4_restart_157 rfl (lv_at hl 0 rfl) ?_
          refine ct_lald (k := i) hx hb hK hP 2 1 rfl rfl (by omega) (by decide) dX4_restart_158 ?_
          refine ct_last (k := i) hx hb hK hP hD hS 1 1 rfl rfl (by omega) (by decide) dX4_restart_159 (fun H locs hP hD hS => ?_)
          have hP : va_P D vwCl [(am, .inr (5, [.int 0, .ref acs, .ref afv, .ref atr, .ref aln, .ref aps, .ref ata, .int (nI c), .int (nI f), .int (nI t), .int ed, .ref aro, .ref akc, .ref akp, .ref akm, .ref akf, .ref aku, .ref ake, .ref aiw, .int (nI kb), .int cp, .int ct, .int dn])), (acs, .inl (cL, 12, .inr (.inl (vp_updL cs2 i (fv i))))), (afv, .inl (cL, 12, .inr (.inl fv))), (aln, .inl (cI, 6, .inl ln)), (aps, .inl (cI, 6, .inl ps)), (akc, .inl (cL, 1212, .inr (.inl kc))), (akp, .inl (cI, 606, .inl kp)), (akm, .inl (cI, 101, .inl km)), (akf, .inl (cI, 101, .inl kf)), (aku, .inl (cI, 101, .inl ku)), (ake, .inl (cI, 101, .inl ke)), (aiw, .inl (cZ, 101, .inl iw))] H := hP
          have hD : va_D A [(am, .inr (5, [.int 0, .ref acs, .ref afv, .ref atr, .ref aln, .ref aps, .ref ata, .int (nI c), .int (nI f), .int (nI t), .int ed, .ref aro, .ref akc, .ref akp, .ref akm, .ref akf, .ref aku, .ref ake, .ref aiw, .int (nI kb), .int cp, .int ct, .int dn])), (acs, .inl (cL, 12, .inr (.inl (vp_updL cs2 i (fv i))))), (afv, .inl (cL, 12, .inr (.inl fv))), (aln, .inl (cI, 6, .inl ln)), (aps, .inl (cI, 6, .inl ps)), (akc, .inl (cL, 1212, .inr (.inl kc))), (akp, .inl (cI, 606, .inl kp)), (akm, .inl (cI, 101, .inl km)), (akf, .inl (cI, 101, .inl kf)), (aku, .inl (cI, 101, .inl ku)), (ake, .inl (cI, 101, .inl ke)), (aiw, .inl (cZ, 101, .inl iw))] := hD
          refine lv_iinc (v := (nI (i + 1))) (lv' := [(3, .int (nI (i + 1))), (2, .int (nI k)), (0, .ref am), (1, .int x)]) hx hb dX4_restart_160 hl (k := 0) rfl (nI_1 i) (by decide) rfl (fun ls hl => ?_)
          refine lv_goto (tgt := 116) hx hb dX4_restart_163 (by decide) ?_
          exact ih k g w ((i + 1)) (vp_updL cs2 i (fv i)) hdn hk1 hk2 hmn hke hg hgk hall hw1 hwk (by omega) (by omega) (by rw [hcs]; exact rc_c_s0 h5) _ _ (hP.sub [0, 1, 2, 3, 4, 5, 6, 7, 8, 9, 10, 11] rfl) (hD.sub [0, 1, 2, 3, 4, 5, 6, 7, 8, 9, 10, 11] (by decide) rfl) hS ls (lv_sub hl [0, 1, 2, 3] rfl)
        · have h5 : i < w := by
            rcases Nat.lt_or_ge i w with q | q
            · exact q
            · exact absurd (nI_le q (by omega)) c_136
          refine lv_aload_n hx hb dX4_restart_139 rfl (lv_at hl 2 rfl) ?_
          refine va_get (D := D) (ci := 5) (v := .ref akc) (C := RX4) (T := TX4) (N := 23) hx hb hts iX4 hown hK hP 0 rfl rfl 12 (by decide) wf32 (fun _ h9 => h9) rfl dX4_restart_140 ?_
          refine lv_bipush (v := 12) hx hb dX4_restart_143 (by decide) ?_
          refine lv_iload_n hx hb dX4_restart_145 rfl (lv_at hl 1 rfl) ?_
          refine lv_imul hx hb dX4_restart_146 ?_
          refine ct_topi (y := (nI (12 * k))) (pk_mul 12 k) ?_
          refine lv_iload_n hx hb dX4_restart_147 rfl (lv_at hl 0 rfl) ?_
          refine lv_iadd hx hb dX4_restart_148 ?_
          refine ct_topi (y := (nI (12 * k + i))) (nI_add _ _) ?_
          refine ct_lald (k := (12 * k + i)) hx hb hK hP 5 1 rfl rfl (by omega) (by decide) dX4_restart_149 ?_
          refine lv_goto (tgt := 159) hx hb dX4_restart_150 (by decide) ?_
          refine ct_last (k := i) hx hb hK hP hD hS 1 1 rfl rfl (by omega) (by decide) dX4_restart_159 (fun H locs hP hD hS => ?_)
          have hP : va_P D vwCl [(am, .inr (5, [.int 0, .ref acs, .ref afv, .ref atr, .ref aln, .ref aps, .ref ata, .int (nI c), .int (nI f), .int (nI t), .int ed, .ref aro, .ref akc, .ref akp, .ref akm, .ref akf, .ref aku, .ref ake, .ref aiw, .int (nI kb), .int cp, .int ct, .int dn])), (acs, .inl (cL, 12, .inr (.inl (vp_updL cs2 i (kc (12 * k + i)))))), (afv, .inl (cL, 12, .inr (.inl fv))), (aln, .inl (cI, 6, .inl ln)), (aps, .inl (cI, 6, .inl ps)), (akc, .inl (cL, 1212, .inr (.inl kc))), (akp, .inl (cI, 606, .inl kp)), (akm, .inl (cI, 101, .inl km)), (akf, .inl (cI, 101, .inl kf)), (aku, .inl (cI, 101, .inl ku)), (ake, .inl (cI, 101, .inl ke)), (aiw, .inl (cZ, 101, .inl iw))] H := hP
          have hD : va_D A [(am, .inr (5, [.int 0, .ref acs, .ref afv, .ref atr, .ref aln, .ref aps, .ref ata, .int (nI c), .int (nI f), .int (nI t), .int ed, .ref aro, .ref akc, .ref akp, .ref akm, .ref akf, .ref aku, .ref ake, .ref aiw, .int (nI kb), .int cp, .int ct, .int dn])), (acs, .inl (cL, 12, .inr (.inl (vp_updL cs2 i (kc (12 * k + i)))))), (afv, .inl (cL, 12, .inr (.inl fv))), (aln, .inl (cI, 6, .inl ln)), (aps, .inl (cI, 6, .inl ps)), (akc, .inl (cL, 1212, .inr (.inl kc))), (akp, .inl (cI, 606, .inl kp)), (akm, .inl (cI, 101, .inl km)), (akf, .inl (cI, 101, .inl kf)), (aku, .inl (cI, 101, .inl ku)), (ake, .inl (cI, 101, .inl ke)), (aiw, .inl (cZ, 101, .inl iw))] := hD
          refine lv_iinc (v := (nI (i + 1))) (lv' := [(3, .int (nI (i + 1))), (2, .int (nI k)), (0, .ref am), (1, .int x)]) hx hb dX4_restart_160 hl (k := 0) rfl (nI_1 i) (by decide) rfl (fun ls hl => ?_)
          refine lv_goto (tgt := 116) hx hb dX4_restart_163 (by decide) ?_
          exact ih k g w ((i + 1)) (vp_updL cs2 i (kc (12 * k + i))) hdn hk1 hk2 hmn hke hg hgk hall hw1 hwk (by omega) (by omega) (by rw [hcs]; exact rc_c_s1 h5) _ _ (hP.sub [0, 1, 2, 3, 4, 5, 6, 7, 8, 9, 10, 11] rfl) (hD.sub [0, 1, 2, 3, 4, 5, 6, 7, 8, 9, 10, 11] (by decide) rfl) hS ls (lv_sub hl [0, 1, 2, 3] rfl)
  have key75 : ∀ (n : Nat) (k : Nat) (g : Nat) (i : Nat), (¬ dn = 0) → (1 ≤ k) → (k ≤ kb) → (mwn iw kb x = k) → (ke k = ed) → (g ≤ 6) → (kf k = nI g) → (i ≤ g) → (g + 1 ≤ i + n) → (∀ j, j < i → kp (6 * k + j) ≤ ln j) → ∀ (H : Heap) (locs : List Loc), va_P D vwCl [(am, .inr (5, [.int 0, .ref acs, .ref afv, .ref atr, .ref aln, .ref aps, .ref ata, .int (nI c), .int (nI f), .int (nI t), .int ed, .ref aro, .ref akc, .ref akp, .ref akm, .ref akf, .ref aku, .ref ake, .ref aiw, .int (nI kb), .int cp, .int ct, .int dn])), (acs, .inl (cL, 12, .inr (.inl cs))), (afv, .inl (cL, 12, .inr (.inl fv))), (aln, .inl (cI, 6, .inl ln)), (aps, .inl (cI, 6, .inl ps)), (akc, .inl (cL, 1212, .inr (.inl kc))), (akp, .inl (cI, 606, .inl kp)), (akm, .inl (cI, 101, .inl km)), (akf, .inl (cI, 101, .inl kf)), (aku, .inl (cI, 101, .inl ku)), (ake, .inl (cI, 101, .inl ke)), (aiw, .inl (cZ, 101, .inl iw))] H → va_D A [(am, .inr (5, [.int 0, .ref acs, .ref afv, .ref atr, .ref aln, .ref aps, .ref ata, .int (nI c), .int (nI f), .int (nI t), .int ed, .ref aro, .ref akc, .ref akp, .ref akm, .ref akf, .ref aku, .ref ake, .ref aiw, .int (nI kb), .int cp, .int ct, .int dn])), (acs, .inl (cL, 12, .inr (.inl cs))), (afv, .inl (cL, 12, .inr (.inl fv))), (aln, .inl (cI, 6, .inl ln)), (aps, .inl (cI, 6, .inl ps)), (akc, .inl (cL, 1212, .inr (.inl kc))), (akp, .inl (cI, 606, .inl kp)), (akm, .inl (cI, 101, .inl km)), (akf, .inl (cI, 101, .inl kf)), (aku, .inl (cI, 101, .inl ku)), (ake, .inl (cI, 101, .inl ke)), (aiw, .inl (cZ, 101, .inl iw))] → va_S A s.heap H locs → ∀ (ls : Array Slot), lv_has ls 4 [(3, .int (nI i)), (2, .int (nI k)), (0, .ref am), (1, .int x)] → W p l e (headSpec wsX4_restart rm_X4_restart).room s m ([.ref am, .int x] : List Value).toArray below meth cd H locs 0 0 (MQ below (qc_X4_restart D cI cL cZ am acs afv atr aln aps ata aro akc akp akm akf aku ake aiw cde c f t kb ed cp ct dn cs fv ln ps kc kp km kf ku ke iw x A) ([.ref am, .int x] : List Value).toArray s 0 0 A) (F0 m 75 ls []) := by
    intro n
    induction n with
    | zero => intro k g i hdn hk1 hk2 hmn hke hg hgk hi hm hall; exact absurd hm (by omega)
    | succ n ih =>
      intro k g i hdn hk1 hk2 hmn hke hg hgk hi hm hall H locs hP hD hS ls hl
      refine lv_iload_n hx hb dX4_restart_75 rfl (lv_at hl 0 rfl) ?_
      refine lv_aload_n hx hb dX4_restart_76 rfl (lv_at hl 2 rfl) ?_
      refine va_get (D := D) (ci := 5) (v := .ref akf) (C := RX4) (T := TX4) (N := 23) hx hb hts iX4 hown hK hP 0 rfl rfl 15 (by decide) wf41 (fun _ h9 => h9) rfl dX4_restart_77 ?_
      refine lv_iload_n hx hb dX4_restart_80 rfl (lv_at hl 1 rfl) ?_
      refine ct_iald (k := k) hx hb hK hP 8 0 rfl rfl (by omega) (by decide) dX4_restart_81 ?_
      refine ct_topi (y := (nI g)) (hgk) ?_
      refine lv_icmp_ge (tgt := 114) hx hb dX4_restart_82 (by decide) (fun c_82 => ?_) (fun c_82 => ?_)
      · have h1 : g ≤ i := (nI_leI (by omega) (by omega)).mp c_82
        have h2 : i = g := by omega
        refine lv_iconst (v := 0) hx hb dX4_restart_114 (by decide) ?_
        refine lv_istore_n (lv' := [(3, .int 0), (2, .int (nI k)), (0, .ref am), (1, .int x)]) hx hb dX4_restart_115 rfl hl (by decide) rfl (fun ls hl => ?_)
        obtain ⟨w, hw1, hwk⟩ := hkm k
        exact key116 (c + 1) k g w 0 cs hdn hk1 hk2 hmn hke hg hgk (by rw [← h2]; exact hall) hw1 hwk (by omega) (by omega) (rc_c_0 cs fv kc k w) _ _ (hP.sub [0, 1, 2, 3, 4, 5, 6, 7, 8, 9, 10, 11] rfl) (hD.sub [0, 1, 2, 3, 4, 5, 6, 7, 8, 9, 10, 11] (by decide) rfl) hS ls (lv_sub hl [0, 1, 2, 3] rfl)
      · have h1 : ¬ g ≤ i := fun h => c_82 ((nI_leI (by omega) (by omega)).mpr h)
        refine lv_aload_n hx hb dX4_restart_85 rfl (lv_at hl 2 rfl) ?_
        refine va_get (D := D) (ci := 5) (v := .ref aln) (C := RX4) (T := TX4) (N := 23) hx hb hts iX4 hown hK hP 0 rfl rfl 4 (by decide) wf19 (fun _ h9 => h9) rfl dX4_restart_86 ?_
        refine lv_iload_n hx hb dX4_restart_89 rfl (lv_at hl 0 rfl) ?_
        refine ct_iald (k := i) hx hb hK hP 3 0 rfl rfl (by omega) (by decide) dX4_restart_90 ?_
        refine lv_aload_n hx hb dX4_restart_91 rfl (lv_at hl 2 rfl) ?_
        refine va_get (D := D) (ci := 5) (v := .ref akp) (C := RX4) (T := TX4) (N := 23) hx hb hts iX4 hown hK hP 0 rfl rfl 13 (by decide) wf35 (fun _ h9 => h9) rfl dX4_restart_92 ?_
        refine lv_bipush (v := 6) hx hb dX4_restart_95 (by decide) ?_
        refine lv_iload_n hx hb dX4_restart_97 rfl (lv_at hl 1 rfl) ?_
        refine lv_imul hx hb dX4_restart_98 ?_
        refine ct_topi (y := (nI (6 * k))) (pk_mul 6 k) ?_
        refine lv_iload_n hx hb dX4_restart_99 rfl (lv_at hl 0 rfl) ?_
        refine lv_iadd hx hb dX4_restart_100 ?_
        refine ct_topi (y := (nI (6 * k + i))) (nI_add _ _) ?_
        refine ct_iald (k := (6 * k + i)) hx hb hK hP 6 0 rfl rfl (by omega) (by decide) dX4_restart_101 ?_
        refine lv_icmp_ge (tgt := 108) hx hb dX4_restart_102 (by decide) (fun c_102 => ?_) (fun c_102 => ?_)
        · refine lv_iinc (v := (nI (i + 1))) (lv' := [(3, .int (nI (i + 1))), (2, .int (nI k)), (0, .ref am), (1, .int x)]) hx hb dX4_restart_108 hl (k := 0) rfl (nI_1 i) (by decide) rfl (fun ls hl => ?_)
          refine lv_goto (tgt := 75) hx hb dX4_restart_111 (by decide) ?_
          exact ih k g ((i + 1)) hdn hk1 hk2 hmn hke hg hgk (by omega) (by omega) (lt_s hall c_102) _ _ (hP.sub [0, 1, 2, 3, 4, 5, 6, 7, 8, 9, 10, 11] rfl) (hD.sub [0, 1, 2, 3, 4, 5, 6, 7, 8, 9, 10, 11] (by decide) rfl) hS ls (lv_sub hl [0, 1, 2, 3] rfl)
        · refine lv_bipush (v := (-2)) hx hb dX4_restart_105 (by decide) ?_
          have hP9 := hP.sub (ws' := [(am, .inr (5, [.int 0, .ref acs, .ref afv, .ref atr, .ref aln, .ref aps, .ref ata, .int (nI c), .int (nI f), .int (nI t), .int ed, .ref aro, .ref akc, .ref akp, .ref akm, .ref akf, .ref aku, .ref ake, .ref aiw, .int (nI kb), .int cp, .int ct, .int dn])), (acs, .inl (cL, 12, .inr (.inl cs))), (afv, .inl (cL, 12, .inr (.inl fv))), (aln, .inl (cI, 6, .inl ln)), (aps, .inl (cI, 6, .inl ps)), (akc, .inl (cL, 1212, .inr (.inl kc))), (akp, .inl (cI, 606, .inl kp)), (akm, .inl (cI, 101, .inl km)), (akf, .inl (cI, 101, .inl kf)), (aku, .inl (cI, 101, .inl ku)), (ake, .inl (cI, 101, .inl ke)), (aiw, .inl (cZ, 101, .inl iw))]) [0, 1, 2, 3, 4, 5, 6, 7, 8, 9, 10, 11] rfl
          have hD9 := hD.sub (ws' := [(am, .inr (5, [.int 0, .ref acs, .ref afv, .ref atr, .ref aln, .ref aps, .ref ata, .int (nI c), .int (nI f), .int (nI t), .int ed, .ref aro, .ref akc, .ref akp, .ref akm, .ref akf, .ref aku, .ref ake, .ref aiw, .int (nI kb), .int cp, .int ct, .int dn])), (acs, .inl (cL, 12, .inr (.inl cs))), (afv, .inl (cL, 12, .inr (.inl fv))), (aln, .inl (cI, 6, .inl ln)), (aps, .inl (cI, 6, .inl ps)), (akc, .inl (cL, 1212, .inr (.inl kc))), (akp, .inl (cI, 606, .inl kp)), (akm, .inl (cI, 101, .inl km)), (akf, .inl (cI, 101, .inl kf)), (aku, .inl (cI, 101, .inl ku)), (ake, .inl (cI, 101, .inl ke)), (aiw, .inl (cZ, 101, .inl iw))]) [0, 1, 2, 3, 4, 5, 6, 7, 8, 9, 10, 11] (by decide) rfl
          refine W.widen (k := 0) (n := 0) (Nat.le_of_ble_eq_true rfl) (Nat.le_of_ble_eq_true rfl) ?_
          exact W.iret (v := (-2)) hx hb hr (fun t9 ht9 hW9 => ⟨⟨(-2), (kb, cs, ps, t, dn), rfl, Or.inr (Or.inr (Or.inr (Or.inl ⟨hdn, by omega, by rw [hmn]; exact hke, by rw [hmn]; exact ⟨g, hg, hgk, fun q => c_102 (q i (by omega))⟩, rfl, ⟨rfl, rfl, rfl, rfl, rfl⟩⟩))), by rw [ht9]; exact hP9, va_K.moved hW9.alike hK, hD9⟩, hS.F ht9⟩) hS.2.2 dX4_restart_107
  have key32 : ∀ (n : Nat) (k : Nat), (k ≤ kb) → (k + 1 ≤ n) → (mw iw k = mw iw x.toNatClampNeg) → (¬ (x < 1 ∨ nI kb < x)) → (¬ dn = 0) → ∀ (H : Heap) (locs : List Loc), va_P D vwCl [(am, .inr (5, [.int 0, .ref acs, .ref afv, .ref atr, .ref aln, .ref aps, .ref ata, .int (nI c), .int (nI f), .int (nI t), .int ed, .ref aro, .ref akc, .ref akp, .ref akm, .ref akf, .ref aku, .ref ake, .ref aiw, .int (nI kb), .int cp, .int ct, .int dn])), (acs, .inl (cL, 12, .inr (.inl cs))), (afv, .inl (cL, 12, .inr (.inl fv))), (aln, .inl (cI, 6, .inl ln)), (aps, .inl (cI, 6, .inl ps)), (akc, .inl (cL, 1212, .inr (.inl kc))), (akp, .inl (cI, 606, .inl kp)), (akm, .inl (cI, 101, .inl km)), (akf, .inl (cI, 101, .inl kf)), (aku, .inl (cI, 101, .inl ku)), (ake, .inl (cI, 101, .inl ke)), (aiw, .inl (cZ, 101, .inl iw))] H → va_D A [(am, .inr (5, [.int 0, .ref acs, .ref afv, .ref atr, .ref aln, .ref aps, .ref ata, .int (nI c), .int (nI f), .int (nI t), .int ed, .ref aro, .ref akc, .ref akp, .ref akm, .ref akf, .ref aku, .ref ake, .ref aiw, .int (nI kb), .int cp, .int ct, .int dn])), (acs, .inl (cL, 12, .inr (.inl cs))), (afv, .inl (cL, 12, .inr (.inl fv))), (aln, .inl (cI, 6, .inl ln)), (aps, .inl (cI, 6, .inl ps)), (akc, .inl (cL, 1212, .inr (.inl kc))), (akp, .inl (cI, 606, .inl kp)), (akm, .inl (cI, 101, .inl km)), (akf, .inl (cI, 101, .inl kf)), (aku, .inl (cI, 101, .inl ku)), (ake, .inl (cI, 101, .inl ke)), (aiw, .inl (cZ, 101, .inl iw))] → va_S A s.heap H locs → ∀ (ls : Array Slot), lv_has ls 4 [(2, .int (nI k)), (0, .ref am), (1, .int x)] → W p l e (headSpec wsX4_restart rm_X4_restart).room s m ([.ref am, .int x] : List Value).toArray below meth cd H locs 0 0 (MQ below (qc_X4_restart D cI cL cZ am acs afv atr aln aps ata aro akc akp akm akf aku ake aiw cde c f t kb ed cp ct dn cs fv ln ps kc kp km kf ku ke iw x A) ([.ref am, .int x] : List Value).toArray s 0 0 A) (F0 m 32 ls []) := by
    intro n
    induction n with
    | zero => intro k hkb2 hm hmw hno hdn; exact absurd hm (by omega)
    | succ n ih =>
      intro k hkb2 hm hmw hno hdn H locs hP hD hS ls hl
      refine lv_iload_n hx hb dX4_restart_32 rfl (lv_at hl 0 rfl) ?_
      refine lv_if_le (tgt := 51) hx hb dX4_restart_33 (by decide) (fun c_33 => ?_) (fun c_33 => ?_)
      · have hk0 : k = 0 := by
          have q := (nI_leI (a := k) (b := 0) (by omega) (by omega)).mp c_33
          omega
        refine lv_iload_n hx hb dX4_restart_51 rfl (lv_at hl 0 rfl) ?_
        refine lv_if_ne (tgt := 57) hx hb dX4_restart_52 (by decide) (fun c_52 => ?_) (fun c_52 => ?_)
        · exact absurd c_52 (fun h => h (by rw [hk0]; rfl))
        · refine lv_iconst (v := (-1)) hx hb dX4_restart_55 (by decide) ?_
          have hz : mwn iw kb x = 0 := by unfold mwn; rw [if_neg hno, ← hmw, hk0]; rfl
          have hP9 := hP.sub (ws' := [(am, .inr (5, [.int 0, .ref acs, .ref afv, .ref atr, .ref aln, .ref aps, .ref ata, .int (nI c), .int (nI f), .int (nI t), .int ed, .ref aro, .ref akc, .ref akp, .ref akm, .ref akf, .ref aku, .ref ake, .ref aiw, .int (nI kb), .int cp, .int ct, .int dn])), (acs, .inl (cL, 12, .inr (.inl cs))), (afv, .inl (cL, 12, .inr (.inl fv))), (aln, .inl (cI, 6, .inl ln)), (aps, .inl (cI, 6, .inl ps)), (akc, .inl (cL, 1212, .inr (.inl kc))), (akp, .inl (cI, 606, .inl kp)), (akm, .inl (cI, 101, .inl km)), (akf, .inl (cI, 101, .inl kf)), (aku, .inl (cI, 101, .inl ku)), (ake, .inl (cI, 101, .inl ke)), (aiw, .inl (cZ, 101, .inl iw))]) [0, 1, 2, 3, 4, 5, 6, 7, 8, 9, 10, 11] rfl
          have hD9 := hD.sub (ws' := [(am, .inr (5, [.int 0, .ref acs, .ref afv, .ref atr, .ref aln, .ref aps, .ref ata, .int (nI c), .int (nI f), .int (nI t), .int ed, .ref aro, .ref akc, .ref akp, .ref akm, .ref akf, .ref aku, .ref ake, .ref aiw, .int (nI kb), .int cp, .int ct, .int dn])), (acs, .inl (cL, 12, .inr (.inl cs))), (afv, .inl (cL, 12, .inr (.inl fv))), (aln, .inl (cI, 6, .inl ln)), (aps, .inl (cI, 6, .inl ps)), (akc, .inl (cL, 1212, .inr (.inl kc))), (akp, .inl (cI, 606, .inl kp)), (akm, .inl (cI, 101, .inl km)), (akf, .inl (cI, 101, .inl kf)), (aku, .inl (cI, 101, .inl ku)), (ake, .inl (cI, 101, .inl ke)), (aiw, .inl (cZ, 101, .inl iw))]) [0, 1, 2, 3, 4, 5, 6, 7, 8, 9, 10, 11] (by decide) rfl
          refine W.widen (k := 0) (n := 0) (Nat.le_of_ble_eq_true rfl) (Nat.le_of_ble_eq_true rfl) ?_
          exact W.iret (v := (-1)) hx hb hr (fun t9 ht9 hW9 => ⟨⟨(-1), (kb, cs, ps, t, dn), rfl, Or.inr (Or.inl ⟨hdn, hz, rfl, ⟨rfl, rfl, rfl, rfl, rfl⟩⟩), by rw [ht9]; exact hP9, va_K.moved hW9.alike hK, hD9⟩, hS.F ht9⟩) hS.2.2 dX4_restart_56
      · have hk0 : 1 ≤ k := by
          rcases Nat.eq_zero_or_pos k with q | q
          · subst q; exact absurd (by decide) c_33
          · exact q
        refine lv_aload_n hx hb dX4_restart_36 rfl (lv_at hl 1 rfl) ?_
        refine va_get (D := D) (ci := 5) (v := .ref aiw) (C := RX4) (T := TX4) (N := 23) hx hb hts iX4 hown hK hP 0 rfl rfl 18 (by decide) wf50 (fun _ h9 => h9) rfl dX4_restart_37 ?_
        refine lv_iload_n hx hb dX4_restart_40 rfl (lv_at hl 0 rfl) ?_
        refine ct_zald (k := k) hx hb hK hP 11 2 rfl rfl (by omega) (by decide) dX4_restart_41 ?_
        refine lv_if_ne (tgt := 51) hx hb dX4_restart_42 (by decide) (fun c_42 => ?_) (fun c_42 => ?_)
        · refine lv_iload_n hx hb dX4_restart_51 rfl (lv_at hl 0 rfl) ?_
          refine lv_if_ne (tgt := 57) hx hb dX4_restart_52 (by decide) (fun c_52 => ?_) (fun c_52 => ?_)
          · have hmn : mwn iw kb x = k := by unfold mwn; rw [if_neg hno, ← hmw, mw_w (by omega) c_42]
            refine lv_aload_n hx hb dX4_restart_57 rfl (lv_at hl 1 rfl) ?_
            refine va_get (D := D) (ci := 5) (v := .ref ake) (C := RX4) (T := TX4) (N := 23) hx hb hts iX4 hown hK hP 0 rfl rfl 17 (by decide) wf47 (fun _ h9 => h9) rfl dX4_restart_58 ?_
            refine lv_iload_n hx hb dX4_restart_61 rfl (lv_at hl 0 rfl) ?_
            refine ct_iald (k := k) hx hb hK hP 10 0 rfl rfl (by omega) (by decide) dX4_restart_62 ?_
            refine lv_aload_n hx hb dX4_restart_63 rfl (lv_at hl 1 rfl) ?_
            refine va_get (D := D) (ci := 5) (v := .int ed) (C := RX4) (T := TX4) (N := 23) hx hb hts iX4 hown hK hP 0 rfl rfl 10 (by decide) wf86 (fun _ h9 => h9) rfl dX4_restart_64 ?_
            refine lv_icmp_eq (tgt := 73) hx hb dX4_restart_67 (by decide) (fun c_67 => ?_) (fun c_67 => ?_)
            · obtain ⟨g, hg, hgk⟩ := hkf k
              refine lv_iconst (v := 0) hx hb dX4_restart_73 (by decide) ?_
              refine lv_istore_n (lv' := [(3, .int 0), (2, .int (nI k)), (0, .ref am), (1, .int x)]) hx hb dX4_restart_74 rfl hl (by decide) rfl (fun ls hl => ?_)
              exact key75 (g + 1) k g 0 hdn (by omega) hkb2 hmn c_67 hg hgk (by omega) (by omega) lt_0 _ _ (hP.sub [0, 1, 2, 3, 4, 5, 6, 7, 8, 9, 10, 11] rfl) (hD.sub [0, 1, 2, 3, 4, 5, 6, 7, 8, 9, 10, 11] (by decide) rfl) hS ls (lv_sub hl [0, 1, 2, 3] rfl)
            · refine lv_bipush (v := (-3)) hx hb dX4_restart_70 (by decide) ?_
              have hP9 := hP.sub (ws' := [(am, .inr (5, [.int 0, .ref acs, .ref afv, .ref atr, .ref aln, .ref aps, .ref ata, .int (nI c), .int (nI f), .int (nI t), .int ed, .ref aro, .ref akc, .ref akp, .ref akm, .ref akf, .ref aku, .ref ake, .ref aiw, .int (nI kb), .int cp, .int ct, .int dn])), (acs, .inl (cL, 12, .inr (.inl cs))), (afv, .inl (cL, 12, .inr (.inl fv))), (aln, .inl (cI, 6, .inl ln)), (aps, .inl (cI, 6, .inl ps)), (akc, .inl (cL, 1212, .inr (.inl kc))), (akp, .inl (cI, 606, .inl kp)), (akm, .inl (cI, 101, .inl km)), (akf, .inl (cI, 101, .inl kf)), (aku, .inl (cI, 101, .inl ku)), (ake, .inl (cI, 101, .inl ke)), (aiw, .inl (cZ, 101, .inl iw))]) [0, 1, 2, 3, 4, 5, 6, 7, 8, 9, 10, 11] rfl
              have hD9 := hD.sub (ws' := [(am, .inr (5, [.int 0, .ref acs, .ref afv, .ref atr, .ref aln, .ref aps, .ref ata, .int (nI c), .int (nI f), .int (nI t), .int ed, .ref aro, .ref akc, .ref akp, .ref akm, .ref akf, .ref aku, .ref ake, .ref aiw, .int (nI kb), .int cp, .int ct, .int dn])), (acs, .inl (cL, 12, .inr (.inl cs))), (afv, .inl (cL, 12, .inr (.inl fv))), (aln, .inl (cI, 6, .inl ln)), (aps, .inl (cI, 6, .inl ps)), (akc, .inl (cL, 1212, .inr (.inl kc))), (akp, .inl (cI, 606, .inl kp)), (akm, .inl (cI, 101, .inl km)), (akf, .inl (cI, 101, .inl kf)), (aku, .inl (cI, 101, .inl ku)), (ake, .inl (cI, 101, .inl ke)), (aiw, .inl (cZ, 101, .inl iw))]) [0, 1, 2, 3, 4, 5, 6, 7, 8, 9, 10, 11] (by decide) rfl
              refine W.widen (k := 0) (n := 0) (Nat.le_of_ble_eq_true rfl) (Nat.le_of_ble_eq_true rfl) ?_
              exact W.iret (v := (-3)) hx hb hr (fun t9 ht9 hW9 => ⟨⟨(-3), (kb, cs, ps, t, dn), rfl, Or.inr (Or.inr (Or.inl ⟨hdn, by omega, by rw [hmn]; exact c_67, rfl, ⟨rfl, rfl, rfl, rfl, rfl⟩⟩)), by rw [ht9]; exact hP9, va_K.moved hW9.alike hK, hD9⟩, hS.F ht9⟩) hS.2.2 dX4_restart_72
          · exact absurd c_52 (nI_ne0 (by omega) (by omega))
        · refine lv_iinc (v := (nI (k - 1))) (lv' := [(2, .int (nI (k - 1))), (0, .ref am), (1, .int x)]) hx hb dX4_restart_45 hl (k := 0) rfl (cr_dec (by omega)) (by decide) rfl (fun ls hl => ?_)
          refine lv_goto (tgt := 32) hx hb dX4_restart_48 (by decide) ?_
          exact ih ((k - 1)) (by omega) (by omega) (by rw [← hmw]; exact mw_z (by omega) c_42) hno hdn _ _ (hP.sub [0, 1, 2, 3, 4, 5, 6, 7, 8, 9, 10, 11] rfl) (hD.sub [0, 1, 2, 3, 4, 5, 6, 7, 8, 9, 10, 11] (by decide) rfl) hS ls (lv_sub hl [0, 1, 2] rfl)
  refine lv_aload_n hx hb dX4_restart_0 rfl (lv_at hl 0 rfl) ?_
  refine lv_iconst (v := 0) hx hb dX4_restart_1 (by decide) ?_
  refine va_put (D := D) (ci := 5) (v := .int 0) (ty := .int) (C := RX4) (T := TX4) (N := 23) hx hb hts iX4 tyX4 tyX4_ok nmX4 hown hK hP hD hS 0 rfl rfl 0 (by decide) wf54 (fun _ h9 => h9) rfl (by decide +kernel) rfl rfl (Nat.le_of_ble_eq_true rfl) dX4_restart_2 (fun H locs hP hD hS => ?_)
  have hP : va_P D vwCl [(am, .inr (5, [.int 0, .ref acs, .ref afv, .ref atr, .ref aln, .ref aps, .ref ata, .int (nI c), .int (nI f), .int (nI t), .int ed, .ref aro, .ref akc, .ref akp, .ref akm, .ref akf, .ref aku, .ref ake, .ref aiw, .int (nI kb), .int cp, .int ct, .int dn])), (acs, .inl (cL, 12, .inr (.inl cs))), (afv, .inl (cL, 12, .inr (.inl fv))), (aln, .inl (cI, 6, .inl ln)), (aps, .inl (cI, 6, .inl ps)), (akc, .inl (cL, 1212, .inr (.inl kc))), (akp, .inl (cI, 606, .inl kp)), (akm, .inl (cI, 101, .inl km)), (akf, .inl (cI, 101, .inl kf)), (aku, .inl (cI, 101, .inl ku)), (ake, .inl (cI, 101, .inl ke)), (aiw, .inl (cZ, 101, .inl iw))] H := hP
  have hD : va_D A [(am, .inr (5, [.int 0, .ref acs, .ref afv, .ref atr, .ref aln, .ref aps, .ref ata, .int (nI c), .int (nI f), .int (nI t), .int ed, .ref aro, .ref akc, .ref akp, .ref akm, .ref akf, .ref aku, .ref ake, .ref aiw, .int (nI kb), .int cp, .int ct, .int dn])), (acs, .inl (cL, 12, .inr (.inl cs))), (afv, .inl (cL, 12, .inr (.inl fv))), (aln, .inl (cI, 6, .inl ln)), (aps, .inl (cI, 6, .inl ps)), (akc, .inl (cL, 1212, .inr (.inl kc))), (akp, .inl (cI, 606, .inl kp)), (akm, .inl (cI, 101, .inl km)), (akf, .inl (cI, 101, .inl kf)), (aku, .inl (cI, 101, .inl ku)), (ake, .inl (cI, 101, .inl ke)), (aiw, .inl (cZ, 101, .inl iw))] := hD
  refine lv_aload_n hx hb dX4_restart_5 rfl (lv_at hl 0 rfl) ?_
  refine va_get (D := D) (ci := 5) (v := .int dn) (C := RX4) (T := TX4) (N := 23) hx hb hts iX4 hown hK hP 0 rfl rfl 22 (by decide) wf58 (fun _ h9 => h9) rfl dX4_restart_6 ?_
  refine lv_if_ne (tgt := 15) hx hb dX4_restart_9 (by decide) (fun c_9 => ?_) (fun c_9 => ?_)
  · refine lv_iload_n hx hb dX4_restart_15 rfl (lv_at hl 1 rfl) ?_
    refine lv_iconst (v := 1) hx hb dX4_restart_16 (by decide) ?_
    refine lv_icmp_lt (tgt := 28) hx hb dX4_restart_17 (by decide) (fun c_17 => ?_) (fun c_17 => ?_)
    · refine lv_iconst (v := (-1)) hx hb dX4_restart_28 (by decide) ?_
      have hno : x < 1 ∨ nI kb < x := by first | exact Or.inl c_17 | exact Or.inr (Int32.not_le.mp c_25)
      have hz : mwn iw kb x = 0 := by unfold mwn; rw [if_pos hno]
      have hP9 := hP.sub (ws' := [(am, .inr (5, [.int 0, .ref acs, .ref afv, .ref atr, .ref aln, .ref aps, .ref ata, .int (nI c), .int (nI f), .int (nI t), .int ed, .ref aro, .ref akc, .ref akp, .ref akm, .ref akf, .ref aku, .ref ake, .ref aiw, .int (nI kb), .int cp, .int ct, .int dn])), (acs, .inl (cL, 12, .inr (.inl cs))), (afv, .inl (cL, 12, .inr (.inl fv))), (aln, .inl (cI, 6, .inl ln)), (aps, .inl (cI, 6, .inl ps)), (akc, .inl (cL, 1212, .inr (.inl kc))), (akp, .inl (cI, 606, .inl kp)), (akm, .inl (cI, 101, .inl km)), (akf, .inl (cI, 101, .inl kf)), (aku, .inl (cI, 101, .inl ku)), (ake, .inl (cI, 101, .inl ke)), (aiw, .inl (cZ, 101, .inl iw))]) [0, 1, 2, 3, 4, 5, 6, 7, 8, 9, 10, 11] rfl
      have hD9 := hD.sub (ws' := [(am, .inr (5, [.int 0, .ref acs, .ref afv, .ref atr, .ref aln, .ref aps, .ref ata, .int (nI c), .int (nI f), .int (nI t), .int ed, .ref aro, .ref akc, .ref akp, .ref akm, .ref akf, .ref aku, .ref ake, .ref aiw, .int (nI kb), .int cp, .int ct, .int dn])), (acs, .inl (cL, 12, .inr (.inl cs))), (afv, .inl (cL, 12, .inr (.inl fv))), (aln, .inl (cI, 6, .inl ln)), (aps, .inl (cI, 6, .inl ps)), (akc, .inl (cL, 1212, .inr (.inl kc))), (akp, .inl (cI, 606, .inl kp)), (akm, .inl (cI, 101, .inl km)), (akf, .inl (cI, 101, .inl kf)), (aku, .inl (cI, 101, .inl ku)), (ake, .inl (cI, 101, .inl ke)), (aiw, .inl (cZ, 101, .inl iw))]) [0, 1, 2, 3, 4, 5, 6, 7, 8, 9, 10, 11] (by decide) rfl
      refine W.widen (k := 0) (n := 0) (Nat.le_of_ble_eq_true rfl) (Nat.le_of_ble_eq_true rfl) ?_
      exact W.iret (v := (-1)) hx hb hr (fun t9 ht9 hW9 => ⟨⟨(-1), (kb, cs, ps, t, dn), rfl, Or.inr (Or.inl ⟨c_9, hz, rfl, ⟨rfl, rfl, rfl, rfl, rfl⟩⟩), by rw [ht9]; exact hP9, va_K.moved hW9.alike hK, hD9⟩, hS.F ht9⟩) hS.2.2 dX4_restart_29
    · refine lv_iload_n hx hb dX4_restart_20 rfl (lv_at hl 1 rfl) ?_
      refine lv_aload_n hx hb dX4_restart_21 rfl (lv_at hl 0 rfl) ?_
      refine va_get (D := D) (ci := 5) (v := .int (nI kb)) (C := RX4) (T := TX4) (N := 23) hx hb hts iX4 hown hK hP 0 rfl rfl 19 (by decide) wf77 (fun _ h9 => h9) rfl dX4_restart_22 ?_
      refine lv_icmp_le (tgt := 30) hx hb dX4_restart_25 (by decide) (fun c_25 => ?_) (fun c_25 => ?_)
      · have hno : ¬ (x < 1 ∨ nI kb < x) := fun q => q.elim c_17 (fun q => cr_lt_nle q c_25)
        obtain ⟨n, hn1, hn2, hxn, -⟩ := cr_has (x := x) hkb (by rw [if_neg hno]; decide)
        refine lv_iload_n hx hb dX4_restart_30 rfl (lv_at hl 1 rfl) ?_
        refine ct_topi (y := (nI n)) (hxn) ?_
        refine lv_istore_n (lv' := [(2, .int (nI n)), (0, .ref am), (1, .int x)]) hx hb dX4_restart_31 rfl hl (by decide) rfl (fun ls hl => ?_)
        exact key32 (n + 1) n (by omega) (by omega) (by rw [hxn, nI_clamp (by omega)]) hno c_9 _ _ (hP.sub [0, 1, 2, 3, 4, 5, 6, 7, 8, 9, 10, 11] rfl) (hD.sub [0, 1, 2, 3, 4, 5, 6, 7, 8, 9, 10, 11] (by decide) rfl) hS ls (lv_sub hl [0, 1, 2] rfl)
      · refine lv_iconst (v := (-1)) hx hb dX4_restart_28 (by decide) ?_
        have hno : x < 1 ∨ nI kb < x := by first | exact Or.inl c_17 | exact Or.inr (Int32.not_le.mp c_25)
        have hz : mwn iw kb x = 0 := by unfold mwn; rw [if_pos hno]
        have hP9 := hP.sub (ws' := [(am, .inr (5, [.int 0, .ref acs, .ref afv, .ref atr, .ref aln, .ref aps, .ref ata, .int (nI c), .int (nI f), .int (nI t), .int ed, .ref aro, .ref akc, .ref akp, .ref akm, .ref akf, .ref aku, .ref ake, .ref aiw, .int (nI kb), .int cp, .int ct, .int dn])), (acs, .inl (cL, 12, .inr (.inl cs))), (afv, .inl (cL, 12, .inr (.inl fv))), (aln, .inl (cI, 6, .inl ln)), (aps, .inl (cI, 6, .inl ps)), (akc, .inl (cL, 1212, .inr (.inl kc))), (akp, .inl (cI, 606, .inl kp)), (akm, .inl (cI, 101, .inl km)), (akf, .inl (cI, 101, .inl kf)), (aku, .inl (cI, 101, .inl ku)), (ake, .inl (cI, 101, .inl ke)), (aiw, .inl (cZ, 101, .inl iw))]) [0, 1, 2, 3, 4, 5, 6, 7, 8, 9, 10, 11] rfl
        have hD9 := hD.sub (ws' := [(am, .inr (5, [.int 0, .ref acs, .ref afv, .ref atr, .ref aln, .ref aps, .ref ata, .int (nI c), .int (nI f), .int (nI t), .int ed, .ref aro, .ref akc, .ref akp, .ref akm, .ref akf, .ref aku, .ref ake, .ref aiw, .int (nI kb), .int cp, .int ct, .int dn])), (acs, .inl (cL, 12, .inr (.inl cs))), (afv, .inl (cL, 12, .inr (.inl fv))), (aln, .inl (cI, 6, .inl ln)), (aps, .inl (cI, 6, .inl ps)), (akc, .inl (cL, 1212, .inr (.inl kc))), (akp, .inl (cI, 606, .inl kp)), (akm, .inl (cI, 101, .inl km)), (akf, .inl (cI, 101, .inl kf)), (aku, .inl (cI, 101, .inl ku)), (ake, .inl (cI, 101, .inl ke)), (aiw, .inl (cZ, 101, .inl iw))]) [0, 1, 2, 3, 4, 5, 6, 7, 8, 9, 10, 11] (by decide) rfl
        refine W.widen (k := 0) (n := 0) (Nat.le_of_ble_eq_true rfl) (Nat.le_of_ble_eq_true rfl) ?_
        exact W.iret (v := (-1)) hx hb hr (fun t9 ht9 hW9 => ⟨⟨(-1), (kb, cs, ps, t, dn), rfl, Or.inr (Or.inl ⟨c_9, hz, rfl, ⟨rfl, rfl, rfl, rfl, rfl⟩⟩), by rw [ht9]; exact hP9, va_K.moved hW9.alike hK, hD9⟩, hS.F ht9⟩) hS.2.2 dX4_restart_29
  · refine lv_bipush (v := (-5)) hx hb dX4_restart_12 (by decide) ?_
    have hP9 := hP.sub (ws' := [(am, .inr (5, [.int 0, .ref acs, .ref afv, .ref atr, .ref aln, .ref aps, .ref ata, .int (nI c), .int (nI f), .int (nI t), .int ed, .ref aro, .ref akc, .ref akp, .ref akm, .ref akf, .ref aku, .ref ake, .ref aiw, .int (nI kb), .int cp, .int ct, .int dn])), (acs, .inl (cL, 12, .inr (.inl cs))), (afv, .inl (cL, 12, .inr (.inl fv))), (aln, .inl (cI, 6, .inl ln)), (aps, .inl (cI, 6, .inl ps)), (akc, .inl (cL, 1212, .inr (.inl kc))), (akp, .inl (cI, 606, .inl kp)), (akm, .inl (cI, 101, .inl km)), (akf, .inl (cI, 101, .inl kf)), (aku, .inl (cI, 101, .inl ku)), (ake, .inl (cI, 101, .inl ke)), (aiw, .inl (cZ, 101, .inl iw))]) [0, 1, 2, 3, 4, 5, 6, 7, 8, 9, 10, 11] rfl
    have hD9 := hD.sub (ws' := [(am, .inr (5, [.int 0, .ref acs, .ref afv, .ref atr, .ref aln, .ref aps, .ref ata, .int (nI c), .int (nI f), .int (nI t), .int ed, .ref aro, .ref akc, .ref akp, .ref akm, .ref akf, .ref aku, .ref ake, .ref aiw, .int (nI kb), .int cp, .int ct, .int dn])), (acs, .inl (cL, 12, .inr (.inl cs))), (afv, .inl (cL, 12, .inr (.inl fv))), (aln, .inl (cI, 6, .inl ln)), (aps, .inl (cI, 6, .inl ps)), (akc, .inl (cL, 1212, .inr (.inl kc))), (akp, .inl (cI, 606, .inl kp)), (akm, .inl (cI, 101, .inl km)), (akf, .inl (cI, 101, .inl kf)), (aku, .inl (cI, 101, .inl ku)), (ake, .inl (cI, 101, .inl ke)), (aiw, .inl (cZ, 101, .inl iw))]) [0, 1, 2, 3, 4, 5, 6, 7, 8, 9, 10, 11] (by decide) rfl
    refine W.widen (k := 0) (n := 0) (Nat.le_of_ble_eq_true rfl) (Nat.le_of_ble_eq_true rfl) ?_
    exact W.iret (v := (-5)) hx hb hr (fun t9 ht9 hW9 => ⟨⟨(-5), (kb, cs, ps, t, dn), rfl, Or.inl ⟨c_9, rfl, ⟨rfl, rfl, rfl, rfl, rfl⟩⟩, by rw [ht9]; exact hP9, va_K.moved hW9.alike hK, hD9⟩, hS.F ht9⟩) hS.2.2 dX4_restart_14
