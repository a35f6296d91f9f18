abbrev rm_X4_step : Room := { frames := 1, cells := 0, slots := 0, locals := 22 }
abbrev qc_X4_step (D : va_G) (cI cL cZ : ClassId) (am : Nat) (acs : Nat) (afv : Nat) (atr : Nat) (aln : Nat) (aps : Nat) (ata : Nat) (aro : Nat) (akc : Nat) (akp : Nat) (akm : Nat) (akf : Nat) (aku : Nat) (ake : Nat) (aiw : Nat) (cde : Int32) (c : Nat) (f : Nat) (t : Nat) (kb : Nat) (ed : Int32) (cp : Int32) (ct : Int32) (dn : Int32) (cs : Nat → Int64) (ln : Nat → Int32) (ps : Nat → Int32) (ro : Nat → Int64) (x : Int32) (A : Nat → Prop) : Array Value → State → Outcome → State → Prop := va_Qi (fun (r : Int32) (u : Nat × (Nat → Int64) × (Nat → Int32) × (Nat → Int64)) => ((x < 0 ∨ ¬ x ≤ 1000 → r = -4) ∧ (¬ (x < 0 ∨ ¬ x ≤ 1000) → ¬ dn = 0 → r = -5) ∧ (¬ (x < 0 ∨ ¬ x ≤ 1000) → dn = 0 → r = nI (u.1 - t)) ∧ (u.1, u.2.1, u.2.2.1, u.2.2.2) = (if ¬ (x < 0 ∨ ¬ x ≤ 1000) ∧ dn = 0 then srun c f ln x.toNatClampNeg (t, cs, ps, ro) else (t, cs, ps, ro)))) (ct_B D vwCl [(cI, .int), (cL, .long), (cZ, .boolean)] A (fun (u : Nat × (Nat → Int64) × (Nat → Int32) × (Nat → Int64)) => [(am, .inr (5, [.int 0, .ref acs, .ref afv, .ref atr, .ref aln, .ref aps, .ref ata, .int (nI c), .int (nI f), .int (nI u.1), .int ed, .ref aro, .ref akc, .ref akp, .ref akm, .ref akf, .ref aku, .ref ake, .ref aiw, .int (nI kb), .int cp, .int ct, .int dn])), (acs, .inl (cL, 12, .inr (.inl u.2.1))), (aln, .inl (cI, 6, .inl ln)), (aps, .inl (cI, 6, .inl u.2.2.1)), (aro, .inl (cL, 5001, .inr (.inl u.2.2.2)))])) A
set_option maxHeartbeats 4000000 in
set_option maxRecDepth 100000 in
theorem c_X4_step (l : Launch) (D : va_G) (cI cL cZ : ClassId) (am : Nat) (acs : Nat) (afv : Nat) (atr : Nat) (aln : Nat) (aps : Nat) (ata : Nat) (aro : Nat) (akc : Nat) (akp : Nat) (akm : Nat) (akf : Nat) (aku : Nat) (ake : Nat) (aiw : Nat) (cde : Int32) (c : Nat) (f : Nat) (t : Nat) (kb : Nat) (ed : Int32) (cp : Int32) (ct : Int32) (dn : Int32) (cs : Nat → Int64) (ln : Nat → Int32) (ps : Nat → Int32) (ro : Nat → Int64) (x : Int32) (sz : Nat) (hc : c ≤ 12) (hf : f ≤ 6) (ht : t ≤ 5000) : Met l yX4_step wsX4_step rm_X4_step (va_Pc [.ref am, .int x] (ct_P D vwCl [(cI, .int), (cL, .long), (cZ, .boolean)] [(am, .inr (5, [.int cde, .ref acs, .ref afv, .ref atr, .ref aln, .ref aps, .ref ata, .int (nI c), .int (nI f), .int (nI t), .int ed, .ref aro, .ref akc, .ref akp, .ref akm, .ref akf, .ref aku, .ref ake, .ref aiw, .int (nI kb), .int cp, .int ct, .int dn])), (acs, .inl (cL, 12, .inr (.inl cs))), (aln, .inl (cI, 6, .inl ln)), (aps, .inl (cI, 6, .inl ps)), (aro, .inl (cL, 5001, .inr (.inl ro)))] sz)) (qc_X4_step D cI cL cZ am acs afv atr aln aps ata aro akc akp akm akf aku ake aiw cde c f t kb ed cp ct dn cs ln ps ro x (va_A [(am, .inr (5, [.int cde, .ref acs, .ref afv, .ref atr, .ref aln, .ref aps, .ref ata, .int (nI c), .int (nI f), .int (nI t), .int ed, .ref aro, .ref akc, .ref akp, .ref akm, .ref akf, .ref aku, .ref ake, .ref aiw, .int (nI kb), .int cp, .int ct, .int dn])), (acs, .inl (cL, 12, .inr (.inl cs))), (aln, .inl (cI, 6, .inl ln)), (aps, .inl (cI, 6, .inl ps)), (aro, .inl (cL, 5001, .inr (.inl ro)))] sz)) 0 0 (va_A [(am, .inr (5, [.int cde, .ref acs, .ref afv, .ref atr, .ref aln, .ref aps, .ref ata, .int (nI c), .int (nI f), .int (nI t), .int ed, .ref aro, .ref akc, .ref akp, .ref akm, .ref akf, .ref aku, .ref ake, .ref aiw, .int (nI kb), .int cp, .int ct, .int dn])), (acs, .inl (cL, 12, .inr (.inl cs))), (aln, .inl (cI, 6, .inl ln)), (aps, .inl (cI, 6, .inl ps)), (aro, .inl (cL, 5001, .inr (.inl ro)))] sz) := by
  refine Met.ofW (cc := cX4_step) (maxL := 8) (ret := (some .int)) (by decide) rfl ?_
  intro p e s m args below meth cd s₁ B hml hv
  obtain ⟨rfl, hsz, hP, hK, hD0⟩ := hv
  have hx := B.exec
  have hb := B.bytes
  have hr := B.returns
  have hts := atoms_spec (ws := wsX4_step) B.pre
  have iX4 : ∀ w ∈ wsX40, w ∈ wsX4_step := by decide +kernel
  have wf62 := hts (.fieldLink RX4 62 "CheckRestartModel" "units" "I") (by decide +kernel)
  have wf68 := hts (.fieldLink RX4 68 "CheckRestartModel" "files" "I") (by decide +kernel)
  have wf23 := hts (.fieldLink RX4 23 "CheckRestartModel" "positions" "[I") (by decide +kernel)
  have wf19 := hts (.fieldLink RX4 19 "CheckRestartModel" "lengths" "[I") (by decide +kernel)
  have wk75 := hts (.constantLong RX4 75 1000) (by decide +kernel)
  have wf29 := hts (.fieldLink RX4 29 "CheckRestartModel" "rows" "[J") (by decide +kernel)
  have wf65 := hts (.fieldLink RX4 65 "CheckRestartModel" "many" "I") (by decide +kernel)
  have wf7 := hts (.fieldLink RX4 7 "CheckRestartModel" "cells" "[J") (by decide +kernel)
  have wf54 := hts (.fieldLink RX4 54 "CheckRestartModel" "code" "I") (by decide +kernel)
  have wf58 := hts (.fieldLink RX4 58 "CheckRestartModel" "down" "Z") (by decide +kernel)
  have hown : s.vm.findClass RX4 = some m.cls := findClass_of_methodNamed B.named
  have hlocks := B.notSynchronized
  subst hsz
  have hD := hD0.self (sz := s.heap.size)
  generalize hAe : va_A [(am, .inr (5, [.int cde, .ref acs, .ref afv, .ref atr, .ref aln, .ref aps, .ref ata, .int (nI c), .int (nI f), .int (nI t), .int ed, .ref aro, .ref akc, .ref akp, .ref akm, .ref akf, .ref aku, .ref ake, .ref aiw, .int (nI kb), .int cp, .int ct, .int dn])), (acs, .inl (cL, 12, .inr (.inl cs))), (aln, .inl (cI, 6, .inl ln)), (aps, .inl (cI, 6, .inl ps)), (aro, .inl (cL, 5001, .inr (.inl ro)))] s.heap.size = A at hD ⊢
  have hA : ∀ q : Nat, s.heap.size ≤ q → A q := fun q h => by rw [← hAe]; exact Or.inr h
  have hS : va_S A s.heap s.heap [] := va_S.rf
  have hl := lv_entry ([.ref am, .int x]) (n := 8) (Nat.le_of_ble_eq_true rfl)
  rw [lg_entry_eq]
  generalize (lg_sl ([.ref am, .int x]) ++ List.replicate (8 - (lg_sl ([.ref am, .int x])).length) Slot.unset).toArray = ls at hl ⊢
  have hl : lv_has ls 8 [(0, .ref am), (1, .int x)] := hl
  have key31 : ∀ (n : Nat) (N : Nat) (d : Nat) (t2 : Nat) (cs2 : Nat → Int64) (ps2 : Nat → Int32) (ro2 : Nat → Int64), (x = nI N) → (N ≤ 1000) → (¬ (x < 0 ∨ ¬ x ≤ 1000)) → (dn = 0) → (d ≤ N) → (N + 1 ≤ d + n) → (t2 = t + d) → (t2 ≤ 5000) → (srun c f ln (N - d) (t2, cs2, ps2, ro2) = srun c f ln N (t, cs, ps, ro)) → ∀ (H : Heap) (locs : List Loc), va_P D vwCl [(am, .inr (5, [.int 0, .ref acs, .ref afv, .ref atr, .ref aln, .ref aps, .ref ata, .int (nI c), .int (nI f), .int (nI t2), .int ed, .ref aro, .ref akc, .ref akp, .ref akm, .ref akf, .ref aku, .ref ake, .ref aiw, .int (nI kb), .int cp, .int ct, .int dn])), (acs, .inl (cL, 12, .inr (.inl cs2))), (aln, .inl (cI, 6, .inl ln)), (aps, .inl (cI, 6, .inl ps2)), (aro, .inl (cL, 5001, .inr (.inl ro2)))] H → va_D A [(am, .inr (5, [.int 0, .ref acs, .ref afv, .ref atr, .ref aln, .ref aps, .ref ata, .int (nI c), .int (nI f), .int (nI t2), .int ed, .ref aro, .ref akc, .ref akp, .ref akm, .ref akf, .ref aku, .ref ake, .ref aiw, .int (nI kb), .int cp, .int ct, .int dn])), (acs, .inl (cL, 12, .inr (.inl cs2))), (aln, .inl (cI, 6, .inl ln)), (aps, .inl (cI, 6, .inl ps2)), (aro, .inl (cL, 5001, .inr (.inl ro2)))] → va_S A s.heap H locs → ∀ (ls : Array Slot), lv_has ls 8 [(2, .int (nI d)), (0, .ref am), (1, .int x)] → W p l e (headSpec wsX4_step rm_X4_step).room s m ([.ref am, .int x] : List Value).toArray below meth cd H locs 0 0 (MQ below (qc_X4_step D cI cL cZ am acs afv atr aln aps ata aro akc akp akm akf aku ake aiw cde c f t kb ed cp ct dn cs ln ps ro x A) ([.ref am, .int x] : List Value).toArray s 0 0 A) (F0 m 31 ls []) := by
    intro n
    induction n with
    | zero => intro N d t2 cs2 ps2 ro2 hN hN1 hrg hdn hd hm ht2 ht3 hrun; exact absurd hm (by omega)
    | succ n ih =>
      intro N d t2 cs2 ps2 ro2 hN hN1 hrg hdn hd hm ht2 ht3 hrun H locs hP hD hS ls hl
      have hcl : x.toNatClampNeg = N := by rw [hN, nI_clamp (by omega)]
      refine lv_iload_n hx hb dX4_step_31 rfl (lv_at hl 0 rfl) ?_
      refine lv_iload_n hx hb dX4_step_32 rfl (lv_at hl 2 rfl) ?_
      refine ct_topi (y := (nI N)) (hN) ?_
      refine lv_icmp_ge (tgt := 220) hx hb dX4_step_33 (by decide) (fun c_33 => ?_) (fun c_33 => ?_)
      · have h1 : N ≤ d := (nI_leI (by omega) (by omega)).mp c_33
        have hfin : srun c f ln (N - d) (t2, cs2, ps2, ro2) = (t2, cs2, ps2, ro2) := by rw [show N - d = 0 by omega]; rfl
        refine lv_iload_n hx hb dX4_step_220 rfl (lv_at hl 0 rfl) ?_
        have hP9 := hP.sub (ws' := [(am, .inr (5, [.int 0, .ref acs, .ref afv, .ref atr, .ref aln, .ref aps, .ref ata, .int (nI c), .int (nI f), .int (nI t2), .int ed, .ref aro, .ref akc, .ref akp, .ref akm, .ref akf, .ref aku, .ref ake, .ref aiw, .int (nI kb), .int cp, .int ct, .int dn])), (acs, .inl (cL, 12, .inr (.inl cs2))), (aln, .inl (cI, 6, .inl ln)), (aps, .inl (cI, 6, .inl ps2)), (aro, .inl (cL, 5001, .inr (.inl ro2)))]) [0, 1, 2, 3, 4] rfl
        have hD9 := hD.sub (ws' := [(am, .inr (5, [.int 0, .ref acs, .ref afv, .ref atr, .ref aln, .ref aps, .ref ata, .int (nI c), .int (nI f), .int (nI t2), .int ed, .ref aro, .ref akc, .ref akp, .ref akm, .ref akf, .ref aku, .ref ake, .ref aiw, .int (nI kb), .int cp, .int ct, .int dn])), (acs, .inl (cL, 12, .inr (.inl cs2))), (aln, .inl (cI, 6, .inl ln)), (aps, .inl (cI, 6, .inl ps2)), (aro, .inl (cL, 5001, .inr (.inl ro2)))]) [0, 1, 2, 3, 4] (by decide) rfl
        refine W.widen (k := 0) (n := 0) (Nat.le_of_ble_eq_true rfl) (Nat.le_of_ble_eq_true rfl) ?_
        exact W.iret (v := (nI d)) hx hb hr (fun t9 ht9 hW9 => ⟨⟨(nI d), (t2, cs2, ps2, ro2), rfl, ⟨fun q => absurd q hrg, fun _ q => absurd hdn q, fun _ _ => by rw [ht2, Nat.add_sub_cancel_left], by rw [if_pos ⟨hrg, hdn⟩, hcl, ← hrun, hfin]⟩, by rw [ht9]; exact hP9, va_K.moved hW9.alike hK, hD9⟩, hS.F ht9⟩) hS.2.2 dX4_step_221
      · have h1 : ¬ N ≤ d := fun h => c_33 ((nI_leI (by omega) (by omega)).mpr h)
        refine lv_aload_n hx hb dX4_step_36 rfl (lv_at hl 1 rfl) ?_
        refine va_get (D := D) (ci := 5) (v := .int (nI t2)) (C := RX4) (T := TX4) (N := 23) hx hb hts iX4 hown hK hP 0 rfl rfl 9 (by decide) wf62 (fun _ h9 => h9) rfl dX4_step_37 ?_
        refine lv_sipush (v := 5000) hx hb dX4_step_40 (by decide) ?_
        refine lv_icmp_ge (tgt := 220) hx hb dX4_step_43 (by decide) (fun c_43 => ?_) (fun c_43 => ?_)
        · have h2 : 5000 ≤ t2 := (nI_leI (a := 5000) (b := t2) (by omega) (by omega)).mp c_43
          have hfin := srun_stop (n := N - d) (c := c) (f := f) (ln := ln) (s := (t2, cs2, ps2, ro2)) (fun q => absurd q.1 (Nat.not_lt.mpr h2))
          refine lv_iload_n hx hb dX4_step_220 rfl (lv_at hl 0 rfl) ?_
          have hP9 := hP.sub (ws' := [(am, .inr (5, [.int 0, .ref acs, .ref afv, .ref atr, .ref aln, .ref aps, .ref ata, .int (nI c), .int (nI f), .int (nI t2), .int ed, .ref aro, .ref akc, .ref akp, .ref akm, .ref akf, .ref aku, .ref ake, .ref aiw, .int (nI kb), .int cp, .int ct, .int dn])), (acs, .inl (cL, 12, .inr (.inl cs2))), (aln, .inl (cI, 6, .inl ln)), (aps, .inl (cI, 6, .inl ps2)), (aro, .inl (cL, 5001, .inr (.inl ro2)))]) [0, 1, 2, 3, 4] rfl
          have hD9 := hD.sub (ws' := [(am, .inr (5, [.int 0, .ref acs, .ref afv, .ref atr, .ref aln, .ref aps, .ref ata, .int (nI c), .int (nI f), .int (nI t2), .int ed, .ref aro, .ref akc, .ref akp, .ref akm, .ref akf, .ref aku, .ref ake, .ref aiw, .int (nI kb), .int cp, .int ct, .int dn])), (acs, .inl (cL, 12, .inr (.inl cs2))), (aln, .inl (cI, 6, .inl ln)), (aps, .inl (cI, 6, .inl ps2)), (aro, .inl (cL, 5001, .inr (.inl ro2)))]) [0, 1, 2, 3, 4] (by decide) rfl
          refine W.widen (k := 0) (n := 0) (Nat.le_of_ble_eq_true rfl) (Nat.le_of_ble_eq_true rfl) ?_
          exact W.iret (v := (nI d)) hx hb hr (fun t9 ht9 hW9 => ⟨⟨(nI d), (t2, cs2, ps2, ro2), rfl, ⟨fun q => absurd q hrg, fun _ q => absurd hdn q, fun _ _ => by rw [ht2, Nat.add_sub_cancel_left], by rw [if_pos ⟨hrg, hdn⟩, hcl, ← hrun, hfin]⟩, by rw [ht9]; exact hP9, va_K.moved hW9.alike hK, hD9⟩, hS.F ht9⟩) hS.2.2 dX4_step_221
        · have h2 : ¬ 5000 ≤ t2 := fun h => c_43 ((nI_leI (a := 5000) (b := t2) (by omega) (by omega)).mpr h)
          refine lv_aload_n hx hb dX4_step_46 rfl (lv_at hl 1 rfl) ?_
          refine ct_calli (wr := [(acs, .inl (cL, 12, .inr (.inl cs2))), (aro, .inl (cL, 5001, .inr (.inl ro2)))]) (rest := []) hP hD hS hA [0, 3, 2] [1, 4] (va_runV (C := RX4) (As := []) ⟨hx, hb, hml, hown, hts⟩ (c_X4_isEnded l D cI cL cZ am acs afv atr aln aps ata aro akc akp akm akf aku ake aiw 0 c f t2 kb ed cp ct dn ps2 ln _ (by omega)) (cwV 0 hts gX4_step_X4_isEnded rfl rfl rfl (by decide +kernel) ⟨Nat.le_of_ble_eq_true rfl, Nat.le_of_ble_eq_true rfl⟩) (ct_preV (q0 := 0) (ci := 5) hK hP hD [0, 3, 2] (by decide) rfl rfl rfl rfl rfl) rfl rfl hl.1 rfl (lv_room (Nat.le_of_ble_eq_true rfl)) dX4_step_47 ⟨Nat.le_of_ble_eq_true rfl, Nat.le_of_ble_eq_true rfl⟩) rfl rfl (by decide) (by decide) (fun r_1 u H locs hw hP hD hS => ?_)
          try dsimp only at hw
          obtain rfl := hw
          have hP : va_P D vwCl [(acs, .inl (cL, 12, .inr (.inl cs2))), (aro, .inl (cL, 5001, .inr (.inl ro2))), (am, .inr (5, [.int 0, .ref acs, .ref afv, .ref atr, .ref aln, .ref aps, .ref ata, .int (nI c), .int (nI f), .int (nI t2), .int ed, .ref aro, .ref akc, .ref akp, .ref akm, .ref akf, .ref aku, .ref ake, .ref aiw, .int (nI kb), .int cp, .int ct, .int dn])), (aps, .inl (cI, 6, .inl ps2)), (aln, .inl (cI, 6, .inl ln))] H := hP
          have hD : va_D A [(acs, .inl (cL, 12, .inr (.inl cs2))), (aro, .inl (cL, 5001, .inr (.inl ro2))), (am, .inr (5, [.int 0, .ref acs, .ref afv, .ref atr, .ref aln, .ref aps, .ref ata, .int (nI c), .int (nI f), .int (nI t2), .int ed, .ref aro, .ref akc, .ref akp, .ref akm, .ref akf, .ref aku, .ref ake, .ref aiw, .int (nI kb), .int cp, .int ct, .int dn])), (aps, .inl (cI, 6, .inl ps2)), (aln, .inl (cI, 6, .inl ln))] := hD
          refine lv_if_ne (tgt := 220) hx hb dX4_step_50 (by decide) (fun c_50 => ?_) (fun c_50 => ?_)
          · have hfin := srun_stop (n := N - d) (c := c) (f := f) (ln := ln) (s := (t2, cs2, ps2, ro2)) (fun q => c_50 q.2)
            refine lv_iload_n hx hb dX4_step_220 rfl (lv_at hl 0 rfl) ?_
            have hP9 := hP.sub (ws' := [(am, .inr (5, [.int 0, .ref acs, .ref afv, .ref atr, .ref aln, .ref aps, .ref ata, .int (nI c), .int (nI f), .int (nI t2), .int ed, .ref aro, .ref akc, .ref akp, .ref akm, .ref akf, .ref aku, .ref ake, .ref aiw, .int (nI kb), .int cp, .int ct, .int dn])), (acs, .inl (cL, 12, .inr (.inl cs2))), (aln, .inl (cI, 6, .inl ln)), (aps, .inl (cI, 6, .inl ps2)), (aro, .inl (cL, 5001, .inr (.inl ro2)))]) [2, 0, 4, 3, 1] rfl
            have hD9 := hD.sub (ws' := [(am, .inr (5, [.int 0, .ref acs, .ref afv, .ref atr, .ref aln, .ref aps, .ref ata, .int (nI c), .int (nI f), .int (nI t2), .int ed, .ref aro, .ref akc, .ref akp, .ref akm, .ref akf, .ref aku, .ref ake, .ref aiw, .int (nI kb), .int cp, .int ct, .int dn])), (acs, .inl (cL, 12, .inr (.inl cs2))), (aln, .inl (cI, 6, .inl ln)), (aps, .inl (cI, 6, .inl ps2)), (aro, .inl (cL, 5001, .inr (.inl ro2)))]) [2, 0, 4, 3, 1] (by decide) rfl
            refine W.widen (k := 0) (n := 0) (Nat.le_of_ble_eq_true rfl) (Nat.le_of_ble_eq_true rfl) ?_
            exact W.iret (v := (nI d)) hx hb hr (fun t9 ht9 hW9 => ⟨⟨(nI d), (t2, cs2, ps2, ro2), rfl, ⟨fun q => absurd q hrg, fun _ q => absurd hdn q, fun _ _ => by rw [ht2, Nat.add_sub_cancel_left], by rw [if_pos ⟨hrg, hdn⟩, hcl, ← hrun, hfin]⟩, by rw [ht9]; exact hP9, va_K.moved hW9.alike hK, hD9⟩, hS.F ht9⟩) hS.2.2 dX4_step_221
          · have hgo : t2 < 5000 ∧ ie_r f ps2 ln = 0 := ⟨by omega, c_50⟩
            have hf0 := ie_f0 c_50
            have hlt : t2 % f < f := Nat.mod_lt _ (by omega)
            refine lv_aload_n hx hb dX4_step_53 rfl (lv_at hl 1 rfl) ?_
            refine lv_dup hx hb dX4_step_54 rfl ?_
            refine va_get (D := D) (ci := 5) (v := .int (nI t2)) (C := RX4) (T := TX4) (N := 23) hx hb hts iX4 hown hK hP 2 rfl rfl 9 (by decide) wf62 (fun _ h9 => h9) rfl dX4_step_55 ?_
            refine lv_iconst (v := 1) hx hb dX4_step_58 (by decide) ?_
            refine lv_iadd hx hb dX4_step_59 ?_
            refine ct_topi (y := (nI (t2 + 1))) (nI_1 t2) ?_
            refine va_put (D := D) (ci := 5) (v := .int (nI (t2 + 1))) (ty := .int) (C := RX4) (T := TX4) (N := 23) hx hb hts iX4 tyX4 tyX4_ok nmX4 hown hK hP hD hS 2 rfl rfl 9 (by decide) wf62 (fun _ h9 => h9) rfl (by decide +kernel) rfl rfl (Nat.le_of_ble_eq_true rfl) dX4_step_60 (fun H locs hP hD hS => ?_)
            have hP : va_P D vwCl [(acs, .inl (cL, 12, .inr (.inl cs2))), (aro, .inl (cL, 5001, .inr (.inl ro2))), (am, .inr (5, [.int 0, .ref acs, .ref afv, .ref atr, .ref aln, .ref aps, .ref ata, .int (nI c), .int (nI f), .int (nI (t2 + 1)), .int ed, .ref aro, .ref akc, .ref akp, .ref akm, .ref akf, .ref aku, .ref ake, .ref aiw, .int (nI kb), .int cp, .int ct, .int dn])), (aps, .inl (cI, 6, .inl ps2)), (aln, .inl (cI, 6, .inl ln))] H := hP
            have hD : va_D A [(acs, .inl (cL, 12, .inr (.inl cs2))), (aro, .inl (cL, 5001, .inr (.inl ro2))), (am, .inr (5, [.int 0, .ref acs, .ref afv, .ref atr, .ref aln, .ref aps, .ref ata, .int (nI c), .int (nI f), .int (nI (t2 + 1)), .int ed, .ref aro, .ref akc, .ref akp, .ref akm, .ref akf, .ref aku, .ref ake, .ref aiw, .int (nI kb), .int cp, .int ct, .int dn])), (aps, .inl (cI, 6, .inl ps2)), (aln, .inl (cI, 6, .inl ln))] := hD
            refine lv_iinc (v := (nI (d + 1))) (lv' := [(2, .int (nI (d + 1))), (0, .ref am), (1, .int x)]) hx hb dX4_step_63 hl (k := 0) rfl (nI_1 d) (by decide) rfl (fun ls hl => ?_)
            refine lv_aload_n hx hb dX4_step_66 rfl (lv_at hl 1 rfl) ?_
            refine va_get (D := D) (ci := 5) (v := .int (nI (t2 + 1))) (C := RX4) (T := TX4) (N := 23) hx hb hts iX4 hown hK hP 2 rfl rfl 9 (by decide) wf62 (fun _ h9 => h9) rfl dX4_step_67 ?_
            refine lv_iconst (v := 1) hx hb dX4_step_70 (by decide) ?_
            refine lv_isub hx hb dX4_step_71 ?_
            refine ct_topi (y := (nI t2)) (nI_pred t2) ?_
            refine lv_aload_n hx hb dX4_step_72 rfl (lv_at hl 1 rfl) ?_
            refine va_get (D := D) (ci := 5) (v := .int (nI f)) (C := RX4) (T := TX4) (N := 23) hx hb hts iX4 hown hK hP 2 rfl rfl 8 (by decide) wf68 (fun _ h9 => h9) rfl dX4_step_73 ?_
            refine lv_irem hx hb dX4_step_76 (nI_ne0 (by omega) (by omega)) ?_
            refine ct_topi (pk_rem (by omega) (by omega) (by omega)) ?_
            refine lv_istore_n (lv' := [(3, .int (nI (t2 % f))), (2, .int (nI (d + 1))), (0, .ref am), (1, .int x)]) hx hb dX4_step_77 rfl hl (by decide) rfl (fun ls hl => ?_)
            refine lv_aload_n hx hb dX4_step_78 rfl (lv_at hl 2 rfl) ?_
            refine va_get (D := D) (ci := 5) (v := .ref aps) (C := RX4) (T := TX4) (N := 23) hx hb hts iX4 hown hK hP 2 rfl rfl 5 (by decide) wf23 (fun _ h9 => h9) rfl dX4_step_79 ?_
            refine lv_iload_n hx hb dX4_step_82 rfl (lv_at hl 0 rfl) ?_
            refine ct_iald (k := (t2 % f)) hx hb hK hP 3 0 rfl rfl (by omega) (by decide) dX4_step_83 ?_
            refine lv_aload_n hx hb dX4_step_84 rfl (lv_at hl 2 rfl) ?_
            refine va_get (D := D) (ci := 5) (v := .ref aln) (C := RX4) (T := TX4) (N := 23) hx hb hts iX4 hown hK hP 2 rfl rfl 4 (by decide) wf19 (fun _ h9 => h9) rfl dX4_step_85 ?_
            refine lv_iload_n hx hb dX4_step_88 rfl (lv_at hl 0 rfl) ?_
            refine ct_iald (k := (t2 % f)) hx hb hK hP 4 0 rfl rfl (by omega) (by decide) dX4_step_89 ?_
            refine lv_icmp_ge (tgt := 97) hx hb dX4_step_90 (by decide) (fun c_90 => ?_) (fun c_90 => ?_)
            · refine lv_iconst (v := 0) hx hb dX4_step_97 (by decide) ?_
              refine lv_istore (lv' := [(4, .int 0), (3, .int (nI (t2 % f))), (2, .int (nI (d + 1))), (0, .ref am), (1, .int x)]) hx hb dX4_step_98 hl (by decide) rfl (fun ls hl => ?_)
              refine lv_ldc2 (v := 1000) hx hb hown wk75 dX4_step_100 ?_
              refine lv_iload_n hx hb dX4_step_103 rfl (lv_at hl 1 rfl) ?_
              refine lv_iconst (v := 1) hx hb dX4_step_104 (by decide) ?_
              refine lv_iadd hx hb dX4_step_105 ?_
              refine lv_i2l hx hb dX4_step_106 rfl ?_
              refine lv_lmul hx hb dX4_step_107 ?_
              refine lv_aload_n hx hb dX4_step_108 rfl (lv_at hl 3 rfl) ?_
              refine va_get (D := D) (ci := 5) (v := .ref aps) (C := RX4) (T := TX4) (N := 23) hx hb hts iX4 hown hK hP 2 rfl rfl 5 (by decide) wf23 (fun _ h9 => h9) rfl dX4_step_109 ?_
              refine lv_iload_n hx hb dX4_step_112 rfl (lv_at hl 1 rfl) ?_
              refine ct_iald (k := (t2 % f)) hx hb hK hP 3 0 rfl rfl (by omega) (by decide) dX4_step_113 ?_
              refine lv_i2l hx hb dX4_step_114 rfl ?_
              refine lv_ladd hx hb dX4_step_115 ?_
              refine lv_lstore (lv' := [(5, .long ((1000 * (((nI (t2 % f)) + 1).toInt64)) + ((ps2 (t2 % f)).toInt64))), (4, .int 0), (3, .int (nI (t2 % f))), (2, .int (nI (d + 1))), (0, .ref am), (1, .int x)]) hx hb dX4_step_116 hl (by decide) rfl (fun ls hl => ?_)
              refine lv_aload_n hx hb dX4_step_118 rfl (lv_at hl 4 rfl) ?_
              refine va_get (D := D) (ci := 5) (v := .ref aps) (C := RX4) (T := TX4) (N := 23) hx hb hts iX4 hown hK hP 2 rfl rfl 5 (by decide) wf23 (fun _ h9 => h9) rfl dX4_step_119 ?_
              refine lv_iload_n hx hb dX4_step_122 rfl (lv_at hl 2 rfl) ?_
              refine lv_dup2_11 hx hb dX4_step_123 rfl rfl ?_
              refine ct_iald (k := (t2 % f)) hx hb hK hP 3 0 rfl rfl (by omega) (by decide) dX4_step_124 ?_
              refine lv_iload hx hb dX4_step_125 (lv_at hl 1 rfl) ?_
              refine lv_if_eq (tgt := 134) hx hb dX4_step_127 (by decide) (fun c_127 => ?_) (fun c_127 => ?_)
              · refine lv_iconst (v := 0) hx hb dX4_step_134 (by decide) ?_
                refine lv_iadd hx hb dX4_step_135 ?_
                refine ct_iast (k := (t2 % f)) hx hb hK hP hD hS 3 0 rfl rfl (by omega) (by decide) dX4_step_136 (fun H locs hP hD hS => ?_)
                have hP : va_P D vwCl [(acs, .inl (cL, 12, .inr (.inl cs2))), (aro, .inl (cL, 5001, .inr (.inl ro2))), (am, .inr (5, [.int 0, .ref acs, .ref afv, .ref atr, .ref aln, .ref aps, .ref ata, .int (nI c), .int (nI f), .int (nI (t2 + 1)), .int ed, .ref aro, .ref akc, .ref akp, .ref akm, .ref akf, .ref aku, .ref ake, .ref aiw, .int (nI kb), .int cp, .int ct, .int dn])), (aps, .inl (cI, 6, .inl (upd ps2 (t2 % f) ((ps2 (t2 % f)) + 0)))), (aln, .inl (cI, 6, .inl ln))] H := hP
                have hD : va_D A [(acs, .inl (cL, 12, .inr (.inl cs2))), (aro, .inl (cL, 5001, .inr (.inl ro2))), (am, .inr (5, [.int 0, .ref acs, .ref afv, .ref atr, .ref aln, .ref aps, .ref ata, .int (nI c), .int (nI f), .int (nI (t2 + 1)), .int ed, .ref aro, .ref akc, .ref akp, .ref akm, .ref akf, .ref aku, .ref ake, .ref aiw, .int (nI kb), .int cp, .int ct, .int dn])), (aps, .inl (cI, 6, .inl (upd ps2 (t2 % f) ((ps2 (t2 % f)) + 0)))), (aln, .inl (cI, 6, .inl ln))] := hD
                refine lv_aload_n hx hb dX4_step_137 rfl (lv_at hl 4 rfl) ?_
                refine va_get (D := D) (ci := 5) (v := .ref aro) (C := RX4) (T := TX4) (N := 23) hx hb hts iX4 hown hK hP 2 rfl rfl 11 (by decide) wf29 (fun _ h9 => h9) rfl dX4_step_138 ?_
                refine lv_aload_n hx hb dX4_step_141 rfl (lv_at hl 4 rfl) ?_
                refine va_get (D := D) (ci := 5) (v := .int (nI (t2 + 1))) (C := RX4) (T := TX4) (N := 23) hx hb hts iX4 hown hK hP 2 rfl rfl 9 (by decide) wf62 (fun _ h9 => h9) rfl dX4_step_142 ?_
                refine lv_iconst (v := 1) hx hb dX4_step_145 (by decide) ?_
                refine lv_isub hx hb dX4_step_146 ?_
                refine ct_topi (y := (nI t2)) (nI_pred t2) ?_
                refine lv_lconst (v := 0) hx hb dX4_step_147 (by decide) ?_
                refine ct_last (k := t2) hx hb hK hP hD hS 1 1 rfl rfl (by omega) (by decide) dX4_step_148 (fun H locs hP hD hS => ?_)
                have hP : va_P D vwCl [(acs, .inl (cL, 12, .inr (.inl cs2))), (aro, .inl (cL, 5001, .inr (.inl (vp_updL ro2 t2 0)))), (am, .inr (5, [.int 0, .ref acs, .ref afv, .ref atr, .ref aln, .ref aps, .ref ata, .int (nI c), .int (nI f), .int (nI (t2 + 1)), .int ed, .ref aro, .ref akc, .ref akp, .ref akm, .ref akf, .ref aku, .ref ake, .ref aiw, .int (nI kb), .int cp, .int ct, .int dn])), (aps, .inl (cI, 6, .inl (upd ps2 (t2 % f) ((ps2 (t2 % f)) + 0)))), (aln, .inl (cI, 6, .inl ln))] H := hP
                have hD : va_D A [(acs, .inl (cL, 12, .inr (.inl cs2))), (aro, .inl (cL, 5001, .inr (.inl (vp_updL ro2 t2 0)))), (am, .inr (5, [.int 0, .ref acs, .ref afv, .ref atr, .ref aln, .ref aps, .ref ata, .int (nI c), .int (nI f), .int (nI (t2 + 1)), .int ed, .ref aro, .ref akc, .ref akp, .ref akm, .ref akf, .ref aku, .ref ake, .ref aiw, .int (nI kb), .int cp, .int ct, .int dn])), (aps, .inl (cI, 6, .inl (upd ps2 (t2 % f) ((ps2 (t2 % f)) + 0)))), (aln, .inl (cI, 6, .inl ln))] := hD
                refine lv_aload_n hx hb dX4_step_149 rfl (lv_at hl 4 rfl) ?_
                refine va_get (D := D) (ci := 5) (v := .int (nI c)) (C := RX4) (T := TX4) (N := 23) hx hb hts iX4 hown hK hP 2 rfl rfl 7 (by decide) wf65 (fun _ h9 => h9) rfl dX4_step_150 ?_
                refine lv_if_ne (tgt := 159) hx hb dX4_step_153 (by decide) (fun c_153 => ?_) (fun c_153 => ?_)
                · have hc0 : c ≠ 0 := fun h => by rw [h] at c_153; exact c_153 rfl
                  have hltc : t2 % c < c := Nat.mod_lt _ (by omega)
                  refine lv_aload_n hx hb dX4_step_159 rfl (lv_at hl 4 rfl) ?_
                  refine va_get (D := D) (ci := 5) (v := .int (nI (t2 + 1))) (C := RX4) (T := TX4) (N := 23) hx hb hts iX4 hown hK hP 2 rfl rfl 9 (by decide) wf62 (fun _ h9 => h9) rfl dX4_step_160 ?_
                  refine lv_iconst (v := 1) hx hb dX4_step_163 (by decide) ?_
                  refine lv_isub hx hb dX4_step_164 ?_
                  refine ct_topi (y := (nI t2)) (nI_pred t2) ?_
                  refine lv_aload_n hx hb dX4_step_165 rfl (lv_at hl 4 rfl) ?_
                  refine va_get (D := D) (ci := 5) (v := .int (nI c)) (C := RX4) (T := TX4) (N := 23) hx hb hts iX4 hown hK hP 2 rfl rfl 7 (by decide) wf65 (fun _ h9 => h9) rfl dX4_step_166 ?_
                  refine lv_irem hx hb dX4_step_169 (nI_ne0 (by omega) (by omega)) ?_
                  refine ct_topi (pk_rem (by omega) (by omega) (by omega)) ?_
                  refine lv_istore (lv' := [(7, .int (nI (t2 % c))), (5, .long ((1000 * (((nI (t2 % f)) + 1).toInt64)) + ((ps2 (t2 % f)).toInt64))), (4, .int 0), (3, .int (nI (t2 % f))), (2, .int (nI (d + 1))), (0, .ref am), (1, .int x)]) hx hb dX4_step_170 hl (by decide) rfl (fun ls hl => ?_)
                  refine lv_aload_n hx hb dX4_step_172 rfl (lv_at hl 5 rfl) ?_
                  refine va_get (D := D) (ci := 5) (v := .ref acs) (C := RX4) (T := TX4) (N := 23) hx hb hts iX4 hown hK hP 2 rfl rfl 1 (by decide) wf7 (fun _ h9 => h9) rfl dX4_step_173 ?_
                  refine lv_iload hx hb dX4_step_176 (lv_at hl 0 rfl) ?_
                  refine lv_dup2_11 hx hb dX4_step_178 rfl rfl ?_
                  refine ct_lald (k := (t2 % c)) hx hb hK hP 0 1 rfl rfl (by omega) (by decide) dX4_step_179 ?_
                  refine lv_iload hx hb dX4_step_180 (lv_at hl 2 rfl) ?_
                  refine lv_if_eq (tgt := 196) hx hb dX4_step_182 (by decide) (fun c_182 => ?_) (fun c_182 => ?_)
                  · refine lv_lconst (v := 0) hx hb dX4_step_196 (by decide) ?_
                    refine lv_ladd hx hb dX4_step_197 ?_
                    refine ct_last (k := (t2 % c)) hx hb hK hP hD hS 0 1 rfl rfl (by omega) (by decide) dX4_step_198 (fun H locs hP hD hS => ?_)
                    have hP : va_P D vwCl [(acs, .inl (cL, 12, .inr (.inl (vp_updL cs2 (t2 % c) ((cs2 (t2 % c)) + 0))))), (aro, .inl (cL, 5001, .inr (.inl (vp_updL ro2 t2 0)))), (am, .inr (5, [.int 0, .ref acs, .ref afv, .ref atr, .ref aln, .ref aps, .ref ata, .int (nI c), .int (nI f), .int (nI (t2 + 1)), .int ed, .ref aro, .ref akc, .ref akp, .ref akm, .ref akf, .ref aku, .ref ake, .ref aiw, .int (nI kb), .int cp, .int ct, .int dn])), (aps, .inl (cI, 6, .inl (upd ps2 (t2 % f) ((ps2 (t2 % f)) + 0)))), (aln, .inl (cI, 6, .inl ln))] H := hP
                    have hD : va_D A [(acs, .inl (cL, 12, .inr (.inl (vp_updL cs2 (t2 % c) ((cs2 (t2 % c)) + 0))))), (aro, .inl (cL, 5001, .inr (.inl (vp_updL ro2 t2 0)))), (am, .inr (5, [.int 0, .ref acs, .ref afv, .ref atr, .ref aln, .ref aps, .ref ata, .int (nI c), .int (nI f), .int (nI (t2 + 1)), .int ed, .ref aro, .ref akc, .ref akp, .ref akm, .ref akf, .ref aku, .ref ake, .ref aiw, .int (nI kb), .int cp, .int ct, .int dn])), (aps, .inl (cI, 6, .inl (upd ps2 (t2 % f) ((ps2 (t2 % f)) + 0)))), (aln, .inl (cI, 6, .inl ln))] := hD
                    refine lv_aload_n hx hb dX4_step_199 rfl (lv_at hl 5 rfl) ?_
                    refine va_get (D := D) (ci := 5) (v := .ref aro) (C := RX4) (T := TX4) (N := 23) hx hb hts iX4 hown hK hP 2 rfl rfl 11 (by decide) wf29 (fun _ h9 => h9) rfl dX4_step_200 ?_
                    refine lv_aload_n hx hb dX4_step_203 rfl (lv_at hl 5 rfl) ?_
                    refine va_get (D := D) (ci := 5) (v := .int (nI (t2 + 1))) (C := RX4) (T := TX4) (N := 23) hx hb hts iX4 hown hK hP 2 rfl rfl 9 (by decide) wf62 (fun _ h9 => h9) rfl dX4_step_204 ?_
                    refine lv_iconst (v := 1) hx hb dX4_step_207 (by decide) ?_
                    refine lv_isub hx hb dX4_step_208 ?_
                    refine ct_topi (y := (nI t2)) (nI_pred t2) ?_
                    refine lv_aload_n hx hb dX4_step_209 rfl (lv_at hl 5 rfl) ?_
                    refine va_get (D := D) (ci := 5) (v := .ref acs) (C := RX4) (T := TX4) (N := 23) hx hb hts iX4 hown hK hP 2 rfl rfl 1 (by decide) wf7 (fun _ h9 => h9) rfl dX4_step_210 ?_
                    refine lv_iload hx hb dX4_step_213 (lv_at hl 0 rfl) ?_
                    refine ct_lald (k := (t2 % c)) hx hb hK hP 0 1 rfl rfl (by omega) (by decide) dX4_step_215 ?_
                    refine ct_last (k := t2) hx hb hK hP hD hS 1 1 rfl rfl (by omega) (by decide) dX4_step_216 (fun H locs hP hD hS => ?_)
                    have hP : va_P D vwCl [(acs, .inl (cL, 12, .inr (.inl (vp_updL cs2 (t2 % c) ((cs2 (t2 % c)) + 0))))), (aro, .inl (cL, 5001, .inr (.inl (vp_updL (vp_updL ro2 t2 0) t2 ((vp_updL cs2 (t2 % c) ((cs2 (t2 % c)) + 0)) (t2 % c)))))), (am, .inr (5, [.int 0, .ref acs, .ref afv, .ref atr, .ref aln, .ref aps, .ref ata, .int (nI c), .int (nI f), .int (nI (t2 + 1)), .int ed, .ref aro, .ref akc, .ref akp, .ref akm, .ref akf, .ref aku, .ref ake, .ref aiw, .int (nI kb), .int cp, .int ct, .int dn])), (aps, .inl (cI, 6, .inl (upd ps2 (t2 % f) ((ps2 (t2 % f)) + 0)))), (aln, .inl (cI, 6, .inl ln))] H := hP
                    have hD : va_D A [(acs, .inl (cL, 12, .inr (.inl (vp_updL cs2 (t2 % c) ((cs2 (t2 % c)) + 0))))), (aro, .inl (cL, 5001, .inr (.inl (vp_updL (vp_updL ro2 t2 0) t2 ((vp_updL cs2 (t2 % c) ((cs2 (t2 % c)) + 0)) (t2 % c)))))), (am, .inr (5, [.int 0, .ref acs, .ref afv, .ref atr, .ref aln, .ref aps, .ref ata, .int (nI c), .int (nI f), .int (nI (t2 + 1)), .int ed, .ref aro, .ref akc, .ref akp, .ref akm, .ref akf, .ref aku, .ref ake, .ref aiw, .int (nI kb), .int cp, .int ct, .int dn])), (aps, .inl (cI, 6, .inl (upd ps2 (t2 % f) ((ps2 (t2 % f)) + 0)))), (aln, .inl (cI, 6, .inl ln))] := hD
                    refine lv_goto (tgt := 31) hx hb dX4_step_217 (by decide) ?_
                    have e1 : (upd ps2 (t2 % f) ((ps2 (t2 % f)) + 0)) = rd_p t2 f ps2 ln := st_p0 hf0 c_90
                    have e2 : (vp_updL cs2 (t2 % c) ((cs2 (t2 % c)) + 0)) = du_c c t2 (rd_v t2 f ps2 ln) cs2 := st_c0 hc0 (st_v0 hf0 c_90)
                    have e3 : (vp_updL (vp_updL ro2 t2 0) t2 ((vp_updL cs2 (t2 % c) ((cs2 (t2 % c)) + 0)) (t2 % c))) = vp_updL ro2 t2 (du_r c t2 (rd_v t2 f ps2 ln) cs2) := st_r0 hc0 (st_v0 hf0 c_90)
                    exact ih N ((d + 1)) (t2 + 1) (vp_updL cs2 (t2 % c) ((cs2 (t2 % c)) + 0)) (upd ps2 (t2 % f) ((ps2 (t2 % f)) + 0)) (vp_updL (vp_updL ro2 t2 0) t2 ((vp_updL cs2 (t2 % c) ((cs2 (t2 % c)) + 0)) (t2 % c))) hN hN1 hrg hdn (by omega) (by omega) (by omega) (by omega) (by rw [show (t2 + 1, (vp_updL cs2 (t2 % c) ((cs2 (t2 % c)) + 0)), (upd ps2 (t2 % f) ((ps2 (t2 % f)) + 0)), (vp_updL (vp_updL ro2 t2 0) t2 ((vp_updL cs2 (t2 % c) ((cs2 (t2 % c)) + 0)) (t2 % c)))) = (t2 + 1, du_c c t2 (rd_v t2 f ps2 ln) cs2, rd_p t2 f ps2 ln, vp_updL ro2 t2 (du_r c t2 (rd_v t2 f ps2 ln) cs2)) from by rw [e1, e3, ← e2]]; exact (srun_step (by omega) hgo).symm.trans hrun) _ _ (hP.sub [2, 0, 4, 3, 1] rfl) (hD.sub [2, 0, 4, 3, 1] (by decide) rfl) hS ls (lv_sub hl [4, 5, 6] rfl)
                  · exact absurd c_182 (fun h => h rfl)
                · have hc0 : c = 0 := cr_nI0 (by omega) c_153
                  refine lv_goto (tgt := 31) hx hb dX4_step_156 (by decide) ?_
                  have e1 : (upd ps2 (t2 % f) ((ps2 (t2 % f)) + 0)) = rd_p t2 f ps2 ln := st_p0 hf0 c_90
                  have e2 : cs2 = du_c c t2 (rd_v t2 f ps2 ln) cs2 := st_c00 hc0
                  have e3 : (vp_updL ro2 t2 0) = vp_updL ro2 t2 (du_r c t2 (rd_v t2 f ps2 ln) cs2) := st_r00 hc0
                  exact ih N ((d + 1)) (t2 + 1) cs2 (upd ps2 (t2 % f) ((ps2 (t2 % f)) + 0)) (vp_updL ro2 t2 0) hN hN1 hrg hdn (by omega) (by omega) (by omega) (by omega) (by rw [show (t2 + 1, cs2, (upd ps2 (t2 % f) ((ps2 (t2 % f)) + 0)), (vp_updL ro2 t2 0)) = (t2 + 1, du_c c t2 (rd_v t2 f ps2 ln) cs2, rd_p t2 f ps2 ln, vp_updL ro2 t2 (du_r c t2 (rd_v t2 f ps2 ln) cs2)) from by rw [e1, e3, ← e2]]; exact (srun_step (by omega) hgo).symm.trans hrun) _ _ (hP.sub [2, 0, 4, 3, 1] rfl) (hD.sub [2, 0, 4, 3, 1] (by decide) rfl) hS ls (lv_sub hl [3, 4, 5] rfl)
              · exact absurd c_127 (fun h => h rfl)
            · refine lv_iconst (v := 1) hx hb dX4_step_93 (by decide) ?_
              refine lv_goto (tgt := 98) hx hb dX4_step_94 (by decide) ?_
              refine lv_istore (lv' := [(4, .int 1), (3, .int (nI (t2 % f))), (2, .int (nI (d + 1))), (0, .ref am), (1, .int x)]) hx hb dX4_step_98 hl (by decide) rfl (fun ls hl => ?_)
              refine lv_ldc2 (v := 1000) hx hb hown wk75 dX4_step_100 ?_
              refine lv_iload_n hx hb dX4_step_103 rfl (lv_at hl 1 rfl) ?_
              refine lv_iconst (v := 1) hx hb dX4_step_104 (by decide) ?_
              refine lv_iadd hx hb dX4_step_105 ?_
              refine lv_i2l hx hb dX4_step_106 rfl ?_
              refine lv_lmul hx hb dX4_step_107 ?_
              refine lv_aload_n hx hb dX4_step_108 rfl (lv_at hl 3 rfl) ?_
              refine va_get (D := D) (ci := 5) (v := .ref aps) (C := RX4) (T := TX4) (N := 23) hx hb hts iX4 hown hK hP 2 rfl rfl 5 (by decide) wf23 (fun _ h9 => h9) rfl dX4_step_109 ?_
              refine lv_iload_n hx hb dX4_step_112 rfl (lv_at hl 1 rfl) ?_
              refine ct_iald (k := (t2 % f)) hx hb hK hP 3 0 rfl rfl (by omega) (by decide) dX4_step_113 ?_
              refine lv_i2l hx hb dX4_step_114 rfl ?_
              refine lv_ladd hx hb dX4_step_115 ?_
              refine lv_lstore (lv' := [(5, .long ((1000 * (((nI (t2 % f)) + 1).toInt64)) + ((ps2 (t2 % f)).toInt64))), (4, .int 1), (3, .int (nI (t2 % f))), (2, .int (nI (d + 1))), (0, .ref am), (1, .int x)]) hx hb dX4_step_116 hl (by decide) rfl (fun ls hl => ?_)
              refine lv_aload_n hx hb dX4_step_118 rfl (lv_at hl 4 rfl) ?_
              refine va_get (D := D) (ci := 5) (v := .ref aps) (C := RX4) (T := TX4) (N := 23) hx hb hts iX4 hown hK hP 2 rfl rfl 5 (by decide) wf23 (fun _ h9 => h9) rfl dX4_step_119 ?_
              refine lv_iload_n hx hb dX4_step_122 rfl (lv_at hl 2 rfl) ?_
              refine lv_dup2_11 hx hb dX4_step_123 rfl rfl ?_
              refine ct_iald (k := (t2 % f)) hx hb hK hP 3 0 rfl rfl (by omega) (by decide) dX4_step_124 ?_
              refine lv_iload hx hb dX4_step_125 (lv_at hl 1 rfl) ?_
              refine lv_if_eq (tgt := 134) hx hb dX4_step_127 (by decide) (fun c_127 => ?_) (fun c_127 => ?_)
              · exact absurd c_127 (by decide)
              · refine lv_iconst (v := 1) hx hb dX4_step_130 (by decide) ?_
                refine lv_goto (tgt := 135) hx hb dX4_step_131 (by decide) ?_
                refine lv_iadd hx hb dX4_step_135 ?_
                refine ct_iast (k := (t2 % f)) hx hb hK hP hD hS 3 0 rfl rfl (by omega) (by decide) dX4_step_136 (fun H locs hP hD hS => ?_)
                have hP : va_P D vwCl [(acs, .inl (cL, 12, .inr (.inl cs2))), (aro, .inl (cL, 5001, .inr (.inl ro2))), (am, .inr (5, [.int 0, .ref acs, .ref afv, .ref atr, .ref aln, .ref aps, .ref ata, .int (nI c), .int (nI f), .int (nI (t2 + 1)), .int ed, .ref aro, .ref akc, .ref akp, .ref akm, .ref akf, .ref aku, .ref ake, .ref aiw, .int (nI kb), .int cp, .int ct, .int dn])), (aps, .inl (cI, 6, .inl (upd ps2 (t2 % f) ((ps2 (t2 % f)) + 1)))), (aln, .inl (cI, 6, .inl ln))] H := hP
                have hD : va_D A [(acs, .inl (cL, 12, .inr (.inl cs2))), (aro, .inl (cL, 5001, .inr (.inl ro2))), (am, .inr (5, [.int 0, .ref acs, .ref afv, .ref atr, .ref aln, .ref aps, .ref ata, .int (nI c), .int (nI f), .int (nI (t2 + 1)), .int ed, .ref aro, .ref akc, .ref akp, .ref akm, .ref akf, .ref aku, .ref ake, .ref aiw, .int (nI kb), .int cp, .int ct, .int dn])), (aps, .inl (cI, 6, .inl (upd ps2 (t2 % f) ((ps2 (t2 % f)) + 1)))), (aln, .inl (cI, 6, .inl ln))] := hD
                refine lv_aload_n hx hb dX4_step_137 rfl (lv_at hl 4 rfl) ?_
                refine va_get (D := D) (ci := 5) (v := .ref aro) (C := RX4) (T := TX4) (N := 23) hx hb hts iX4 hown hK hP 2 rfl rfl 11 (by decide) wf29 (fun _ h9 => h9) rfl dX4_step_138 ?_
                refine lv_aload_n hx hb dX4_step_141 rfl (lv_at hl 4 rfl) ?_
                refine va_get (D := D) (ci := 5) (v := .int (nI (t2 + 1))) (C := RX4) (T := TX4) (N := 23) hx hb hts iX4 hown hK hP 2 rfl rfl 9 (by decide) wf62 (fun _ h9 => h9) rfl dX4_step_142 ?_
                refine lv_iconst (v := 1) hx hb dX4_step_145 (by decide) ?_
                refine lv_isub hx hb dX4_step_146 ?_
                refine ct_topi (y := (nI t2)) (nI_pred t2) ?_
                refine lv_lconst (v := 0) hx hb dX4_step_147 (by decide) ?_
                refine ct_last (k := t2) hx hb hK hP hD hS 1 1 rfl rfl (by omega) (by decide) dX4_step_148 (fun H locs hP hD hS => ?_)
                have hP : va_P D vwCl [(acs, .inl (cL, 12, .inr (.inl cs2))), (aro, .inl (cL, 5001, .inr (.inl (vp_updL ro2 t2 0)))), (am, .inr (5, [.int 0, .ref acs, .ref afv, .ref atr, .ref aln, .ref aps, .ref ata, .int (nI c), .int (nI f), .int (nI (t2 + 1)), .int ed, .ref aro, .ref akc, .ref akp, .ref akm, .ref akf, .ref aku, .ref ake, .ref aiw, .int (nI kb), .int cp, .int ct, .int dn])), (aps, .inl (cI, 6, .inl (upd ps2 (t2 % f) ((ps2 (t2 % f)) + 1)))), (aln, .inl (cI, 6, .inl ln))] H := hP
                have hD : va_D A [(acs, .inl (cL, 12, .inr (.inl cs2))), (aro, .inl (cL, 5001, .inr (.inl (vp_updL ro2 t2 0)))), (am, .inr (5, [.int 0, .ref acs, .ref afv, .ref atr, .ref aln, .ref aps, .ref ata, .int (nI c), .int (nI f), .int (nI (t2 + 1)), .int ed, .ref aro, .ref akc, .ref akp, .ref akm, .ref akf, .ref aku, .ref ake, .ref aiw, .int (nI kb), .int cp, .int ct, .int dn])), (aps, .inl (cI, 6, .inl (upd ps2 (t2 % f) ((ps2 (t2 % f)) + 1)))), (aln, .inl (cI, 6, .inl ln))] := hD
                refine lv_aload_n hx hb dX4_step_149 rfl (lv_at hl 4 rfl) ?_
                refine va_get (D := D) (ci := 5) (v := .int (nI c)) (C := RX4) (T := TX4) (N := 23) hx hb hts iX4 hown hK hP 2 rfl rfl 7 (by decide) wf65 (fun _ h9 => h9) rfl dX4_step_150 ?_
                refine lv_if_ne (tgt := 159) hx hb dX4_step_153 (by decide) (fun c_153 => ?_) (fun c_153 => ?_)
                · have hc0 : c ≠ 0 := fun h => by rw [h] at c_153; exact c_153 rfl
                  have hltc : t2 % c < c := Nat.mod_lt _ (by omega)
                  refine lv_aload_n hx hb dX4_step_159 rfl (lv_at hl 4 rfl) ?_
                  refine va_get (D := D) (ci := 5) (v := .int (nI (t2 + 1))) (C := RX4) (T := TX4) (N := 23) hx hb hts iX4 hown hK hP 2 rfl rfl 9 (by decide) wf62 (fun _ h9 => h9) rfl dX4_step_160 ?_
                  refine lv_iconst (v := 1) hx hb dX4_step_163 (by decide) ?_
                  refine lv_isub hx hb dX4_step_164 ?_
                  refine ct_topi (y := (nI t2)) (nI_pred t2) ?_
                  refine lv_aload_n hx hb dX4_step_165 rfl (lv_at hl 4 rfl) ?_
                  refine va_get (D := D) (ci := 5) (v := .int (nI c)) (C := RX4) (T := TX4) (N := 23) hx hb hts iX4 hown hK hP 2 rfl rfl 7 (by decide) wf65 (fun _ h9 => h9) rfl dX4_step_166 ?_
                  refine lv_irem hx hb dX4_step_169 (nI_ne0 (by omega) (by omega)) ?_
                  refine ct_topi (pk_rem (by omega) (by omega) (by omega)) ?_
                  refine lv_istore (lv' := [(7, .int (nI (t2 % c))), (5, .long ((1000 * (((nI (t2 % f)) + 1).toInt64)) + ((ps2 (t2 % f)).toInt64))), (4, .int 1), (3, .int (nI (t2 % f))), (2, .int (nI (d + 1))), (0, .ref am), (1, .int x)]) hx hb dX4_step_170 hl (by decide) rfl (fun ls hl => ?_)
                  refine lv_aload_n hx hb dX4_step_172 rfl (lv_at hl 5 rfl) ?_
                  refine va_get (D := D) (ci := 5) (v := .ref acs) (C := RX4) (T := TX4) (N := 23) hx hb hts iX4 hown hK hP 2 rfl rfl 1 (by decide) wf7 (fun _ h9 => h9) rfl dX4_step_173 ?_
                  refine lv_iload hx hb dX4_step_176 (lv_at hl 0 rfl) ?_
                  refine lv_dup2_11 hx hb dX4_step_178 rfl rfl ?_
                  refine ct_lald (k := (t2 % c)) hx hb hK hP 0 1 rfl rfl (by omega) (by decide) dX4_step_179 ?_
                  refine lv_iload hx hb dX4_step_180 (lv_at hl 2 rfl) ?_
                  refine lv_if_eq (tgt := 196) hx hb dX4_step_182 (by decide) (fun c_182 => ?_) (fun c_182 => ?_)
                  · exact absurd c_182 (by decide)
                  · refine lv_aload_n hx hb dX4_step_185 rfl (lv_at hl 5 rfl) ?_
                    refine va_get (D := D) (ci := 5) (v := .int (nI (t2 + 1))) (C := RX4) (T := TX4) (N := 23) hx hb hts iX4 hown hK hP 2 rfl rfl 9 (by decide) wf62 (fun _ h9 => h9) rfl dX4_step_186 ?_
                    refine lv_i2l hx hb dX4_step_189 rfl ?_
                    refine lv_lload hx hb dX4_step_190 (lv_at hl 1 rfl) ?_
                    refine lv_lmul hx hb dX4_step_192 ?_
                    refine lv_goto (tgt := 197) hx hb dX4_step_193 (by decide) ?_
                    refine lv_ladd hx hb dX4_step_197 ?_
                    refine ct_last (k := (t2 % c)) hx hb hK hP hD hS 0 1 rfl rfl (by omega) (by decide) dX4_step_198 (fun H locs hP hD hS => ?_)
                    have hP : va_P D vwCl [(acs, .inl (cL, 12, .inr (.inl (vp_updL cs2 (t2 % c) ((cs2 (t2 % c)) + (((nI (t2 + 1)).toInt64) * ((1000 * (((nI (t2 % f)) + 1).toInt64)) + ((ps2 (t2 % f)).toInt64)))))))), (aro, .inl (cL, 5001, .inr (.inl (vp_updL ro2 t2 0)))), (am, .inr (5, [.int 0, .ref acs, .ref afv, .ref atr, .ref aln, .ref aps, .ref ata, .int (nI c), .int (nI f), .int (nI (t2 + 1)), .int ed, .ref aro, .ref akc, .ref akp, .ref akm, .ref akf, .ref aku, .ref ake, .ref aiw, .int (nI kb), .int cp, .int ct, .int dn])), (aps, .inl (cI, 6, .inl (upd ps2 (t2 % f) ((ps2 (t2 % f)) + 1)))), (aln, .inl (cI, 6, .inl ln))] H := hP
                    have hD : va_D A [(acs, .inl (cL, 12, .inr (.inl (vp_updL cs2 (t2 % c) ((cs2 (t2 % c)) + (((nI (t2 + 1)).toInt64) * ((1000 * (((nI (t2 % f)) + 1).toInt64)) + ((ps2 (t2 % f)).toInt64)))))))), (aro, .inl (cL, 5001, .inr (.inl (vp_updL ro2 t2 0)))), (am, .inr (5, [.int 0, .ref acs, .ref afv, .ref atr, .ref aln, .ref aps, .ref ata, .int (nI c), .int (nI f), .int (nI (t2 + 1)), .int ed, .ref aro, .ref akc, .ref akp, .ref akm, .ref akf, .ref aku, .ref ake, .ref aiw, .int (nI kb), .int cp, .int ct, .int dn])), (aps, .inl (cI, 6, .inl (upd ps2 (t2 % f) ((ps2 (t2 % f)) + 1)))), (aln, .inl (cI, 6, .inl ln))] := hD
                    refine lv_aload_n hx hb dX4_step_199 rfl (lv_at hl 5 rfl) ?_
                    refine va_get (D := D) (ci := 5) (v := .ref aro) (C := RX4) (T := TX4) (N := 23) hx hb hts iX4 hown hK hP 2 rfl rfl 11 (by decide) wf29 (fun _ h9 => h9) rfl dX4_step_200 ?_
                    refine lv_aload_n hx hb dX4_step_203 rfl (lv_at hl 5 rfl) ?_
                    refine va_get (D := D) (ci := 5) (v := .int (nI (t2 + 1))) (C := RX4) (T := TX4) (N := 23) hx hb hts iX4 hown hK hP 2 rfl rfl 9 (by decide) wf62 (fun _ h9 => h9) rfl dX4_step_204 ?_
                    refine lv_iconst (v := 1) hx hb dX4_step_207 (by decide) ?_
                    refine lv_isub hx hb dX4_step_208 ?_
                    refine ct_topi (y := (nI t2)) (nI_pred t2) ?_
                    refine lv_aload_n hx hb dX4_step_209 rfl (lv_at hl 5 rfl) ?_
                    refine va_get (D := D) (ci := 5) (v := .ref acs) (C := RX4) (T := TX4) (N := 23) hx hb hts iX4 hown hK hP 2 rfl rfl 1 (by decide) wf7 (fun _ h9 => h9) rfl dX4_step_210 ?_
                    refine lv_iload hx hb dX4_step_213 (lv_at hl 0 rfl) ?_
                    refine ct_lald (k := (t2 % c)) hx hb hK hP 0 1 rfl rfl (by omega) (by decide) dX4_step_215 ?_
                    refine ct_last (k := t2) hx hb hK hP hD hS 1 1 rfl rfl (by omega) (by decide) dX4_step_216 (fun H locs hP hD hS => ?_)
                    have hP : va_P D vwCl [(acs, .inl (cL, 12, .inr (.inl (vp_updL cs2 (t2 % c) ((cs2 (t2 % c)) + (((nI (t2 + 1)).toInt64) * ((1000 * (((nI (t2 % f)) + 1).toInt64)) + ((ps2 (t2 % f)).toInt64)))))))), (aro, .inl (cL, 5001, .inr (.inl (vp_updL (vp_updL ro2 t2 0) t2 ((vp_updL cs2 (t2 % c) ((cs2 (t2 % c)) + (((nI (t2 + 1)).toInt64) * ((1000 * (((nI (t2 % f)) + 1).toInt64)) + ((ps2 (t2 % f)).toInt64))))) (t2 % c)))))), (am, .inr (5, [.int 0, .ref acs, .ref afv, .ref atr, .ref aln, .ref aps, .ref ata, .int (nI c), .int (nI f), .int (nI (t2 + 1)), .int ed, .ref aro, .ref akc, .ref akp, .ref akm, .ref akf, .ref aku, .ref ake, .ref aiw, .int (nI kb), .int cp, .int ct, .int dn])), (aps, .inl (cI, 6, .inl (upd ps2 (t2 % f) ((ps2 (t2 % f)) + 1)))), (aln, .inl (cI, 6, .inl ln))] H := hP
                    have hD : va_D A [(acs, .inl (cL, 12, .inr (.inl (vp_updL cs2 (t2 % c) ((cs2 (t2 % c)) + (((nI (t2 + 1)).toInt64) * ((1000 * (((nI (t2 % f)) + 1).toInt64)) + ((ps2 (t2 % f)).toInt64)))))))), (aro, .inl (cL, 5001, .inr (.inl (vp_updL (vp_updL ro2 t2 0) t2 ((vp_updL cs2 (t2 % c) ((cs2 (t2 % c)) + (((nI (t2 + 1)).toInt64) * ((1000 * (((nI (t2 % f)) + 1).toInt64)) + ((ps2 (t2 % f)).toInt64))))) (t2 % c)))))), (am, .inr (5, [.int 0, .ref acs, .ref afv, .ref atr, .ref aln, .ref aps, .ref ata, .int (nI c), .int (nI f), .int (nI (t2 + 1)), .int ed, .ref aro, .ref akc, .ref akp, .ref akm, .ref akf, .ref aku, .ref ake, .ref aiw, .int (nI kb), .int cp, .int ct, .int dn])), (aps, .inl (cI, 6, .inl (upd ps2 (t2 % f) ((ps2 (t2 % f)) + 1)))), (aln, .inl (cI, 6, .inl ln))] := hD
                    refine lv_goto (tgt := 31) hx hb dX4_step_217 (by decide) ?_
                    have e1 : (upd ps2 (t2 % f) ((ps2 (t2 % f)) + 1)) = rd_p t2 f ps2 ln := st_p1 hf0 c_90
                    have e2 : (vp_updL cs2 (t2 % c) ((cs2 (t2 % c)) + (((nI (t2 + 1)).toInt64) * ((1000 * (((nI (t2 % f)) + 1).toInt64)) + ((ps2 (t2 % f)).toInt64))))) = du_c c t2 (rd_v t2 f ps2 ln) cs2 := st_c1 hc0 (st_v1 hf0 c_90).symm
                    have e3 : (vp_updL (vp_updL ro2 t2 0) t2 ((vp_updL cs2 (t2 % c) ((cs2 (t2 % c)) + (((nI (t2 + 1)).toInt64) * ((1000 * (((nI (t2 % f)) + 1).toInt64)) + ((ps2 (t2 % f)).toInt64))))) (t2 % c))) = vp_updL ro2 t2 (du_r c t2 (rd_v t2 f ps2 ln) cs2) := st_r1 hc0 (st_v1 hf0 c_90).symm
                    exact ih N ((d + 1)) (t2 + 1) (vp_updL cs2 (t2 % c) ((cs2 (t2 % c)) + (((nI (t2 + 1)).toInt64) * ((1000 * (((nI (t2 % f)) + 1).toInt64)) + ((ps2 (t2 % f)).toInt64))))) (upd ps2 (t2 % f) ((ps2 (t2 % f)) + 1)) (vp_updL (vp_updL ro2 t2 0) t2 ((vp_updL cs2 (t2 % c) ((cs2 (t2 % c)) + (((nI (t2 + 1)).toInt64) * ((1000 * (((nI (t2 % f)) + 1).toInt64)) + ((ps2 (t2 % f)).toInt64))))) (t2 % c))) hN hN1 hrg hdn (by omega) (by omega) (by omega) (by omega) (by rw [show (t2 + 1, (vp_updL cs2 (t2 % c) ((cs2 (t2 % c)) + (((nI (t2 + 1)).toInt64) * ((1000 * (((nI (t2 % f)) + 1).toInt64)) + ((ps2 (t2 % f)).toInt64))))), (upd ps2 (t2 % f) ((ps2 (t2 % f)) + 1)), (vp_updL (vp_updL ro2 t2 0) t2 ((vp_updL cs2 (t2 % c) ((cs2 (t2 % c)) + (((nI (t2 + 1)).toInt64) * ((1000 * (((nI (t2 % f)) + 1).toInt64)) + ((ps2 (t2 % f)).toInt64))))) (t2 % c)))) = (t2 + 1, du_c c t2 (rd_v t2 f ps2 ln) cs2, rd_p t2 f ps2 ln, vp_updL ro2 t2 (du_r c t2 (rd_v t2 f ps2 ln) cs2)) from by rw [e1, e3, ← e2]]; exact (srun_step (by omega) hgo).symm.trans hrun) _ _ (hP.sub [2, 0, 4, 3, 1] rfl) (hD.sub [2, 0, 4, 3, 1] (by decide) rfl) hS ls (lv_sub hl [4, 5, 6] rfl)
                · have hc0 : c = 0 := cr_nI0 (by omega) c_153
                  refine lv_goto (tgt := 31) hx hb dX4_step_156 (by decide) ?_
                  have e1 : (upd ps2 (t2 % f) ((ps2 (t2 % f)) + 1)) = rd_p t2 f ps2 ln := st_p1 hf0 c_90
                  have e2 : cs2 = du_c c t2 (rd_v t2 f ps2 ln) cs2 := st_c00 hc0
                  have e3 : (vp_updL ro2 t2 0) = vp_updL ro2 t2 (du_r c t2 (rd_v t2 f ps2 ln) cs2) := st_r00 hc0
                  exact ih N ((d + 1)) (t2 + 1) cs2 (upd ps2 (t2 % f) ((ps2 (t2 % f)) + 1)) (vp_updL ro2 t2 0) hN hN1 hrg hdn (by omega) (by omega) (by omega) (by omega) (by rw [show (t2 + 1, cs2, (upd ps2 (t2 % f) ((ps2 (t2 % f)) + 1)), (vp_updL ro2 t2 0)) = (t2 + 1, du_c c t2 (rd_v t2 f ps2 ln) cs2, rd_p t2 f ps2 ln, vp_updL ro2 t2 (du_r c t2 (rd_v t2 f ps2 ln) cs2)) from by rw [e1, e3, ← e2]]; exact (srun_step (by omega) hgo).symm.trans hrun) _ _ (hP.sub [2, 0, 4, 3, 1] rfl) (hD.sub [2, 0, 4, 3, 1] (by decide) rfl) hS ls (lv_sub hl [3, 4, 5] rfl)
  refine lv_aload_n hx hb dX4_step_0 rfl (lv_at hl 0 rfl) ?_
  refine lv_iconst (v := 0) hx hb dX4_step_1 (by decide) ?_
  refine va_put (D := D) (ci := 5) (v := .int 0) (ty := .int) (C := RX4) (T := TX4) (N := 23) hx hb hts iX4 tyX4 tyX4_ok nmX4 hown hK hP hD hS 0 rfl rfl 0 (by decide) wf54 (fun _ h9 => h9) rfl (by decide +kernel) rfl rfl (Nat.le_of_ble_eq_true rfl) dX4_step_2 (fun H locs hP hD hS => ?_)
  have hP : va_P D vwCl [(am, .inr (5, [.int 0, .ref acs, .ref afv, .ref atr, .ref aln, .ref aps, .ref ata, .int (nI c), .int (nI f), .int (nI t), .int ed, .ref aro, .ref akc, .ref akp, .ref akm, .ref akf, .ref aku, .ref ake, .ref aiw, .int (nI kb), .int cp, .int ct, .int dn])), (acs, .inl (cL, 12, .inr (.inl cs))), (aln, .inl (cI, 6, .inl ln)), (aps, .inl (cI, 6, .inl ps)), (aro, .inl (cL, 5001, .inr (.inl ro)))] H := hP
  have hD : va_D A [(am, .inr (5, [.int 0, .ref acs, .ref afv, .ref atr, .ref aln, .ref aps, .ref ata, .int (nI c), .int (nI f), .int (nI t), .int ed, .ref aro, .ref akc, .ref akp, .ref akm, .ref akf, .ref aku, .ref ake, .ref aiw, .int (nI kb), .int cp, .int ct, .int dn])), (acs, .inl (cL, 12, .inr (.inl cs))), (aln, .inl (cI, 6, .inl ln)), (aps, .inl (cI, 6, .inl ps)), (aro, .inl (cL, 5001, .inr (.inl ro)))] := hD
  refine lv_iload_n hx hb dX4_step_5 rfl (lv_at hl 1 rfl) ?_
  refine lv_if_lt (tgt := 16) hx hb dX4_step_6 (by decide) (fun c_6 => ?_) (fun c_6 => ?_)
  · refine lv_bipush (v := (-4)) hx hb dX4_step_16 (by decide) ?_
    have hbad : x < 0 ∨ ¬ x ≤ 1000 := by first | exact Or.inl c_6 | exact Or.inr c_13
    have hP9 := hP.sub (ws' := [(am, .inr (5, [.int 0, .ref acs, .ref afv, .ref atr, .ref aln, .ref aps, .ref ata, .int (nI c), .int (nI f), .int (nI t), .int ed, .ref aro, .ref akc, .ref akp, .ref akm, .ref akf, .ref aku, .ref ake, .ref aiw, .int (nI kb), .int cp, .int ct, .int dn])), (acs, .inl (cL, 12, .inr (.inl cs))), (aln, .inl (cI, 6, .inl ln)), (aps, .inl (cI, 6, .inl ps)), (aro, .inl (cL, 5001, .inr (.inl ro)))]) [0, 1, 2, 3, 4] rfl
    have hD9 := hD.sub (ws' := [(am, .inr (5, [.int 0, .ref acs, .ref afv, .ref atr, .ref aln, .ref aps, .ref ata, .int (nI c), .int (nI f), .int (nI t), .int ed, .ref aro, .ref akc, .ref akp, .ref akm, .ref akf, .ref aku, .ref ake, .ref aiw, .int (nI kb), .int cp, .int ct, .int dn])), (acs, .inl (cL, 12, .inr (.inl cs))), (aln, .inl (cI, 6, .inl ln)), (aps, .inl (cI, 6, .inl ps)), (aro, .inl (cL, 5001, .inr (.inl ro)))]) [0, 1, 2, 3, 4] (by decide) rfl
    refine W.widen (k := 0) (n := 0) (Nat.le_of_ble_eq_true rfl) (Nat.le_of_ble_eq_true rfl) ?_
    exact W.iret (v := (-4)) hx hb hr (fun t9 ht9 hW9 => ⟨⟨(-4), (t, cs, ps, ro), rfl, ⟨fun _ => rfl, fun q => absurd hbad q, fun q => absurd hbad q, by rw [if_neg (fun q => q.1 hbad)]⟩, by rw [ht9]; exact hP9, va_K.moved hW9.alike hK, hD9⟩, hS.F ht9⟩) hS.2.2 dX4_step_18
  · refine lv_iload_n hx hb dX4_step_9 rfl (lv_at hl 1 rfl) ?_
    refine lv_sipush (v := 1000) hx hb dX4_step_10 (by decide) ?_
    refine lv_icmp_le (tgt := 19) hx hb dX4_step_13 (by decide) (fun c_13 => ?_) (fun c_13 => ?_)
    · have hrg : ¬ (x < 0 ∨ ¬ x ≤ 1000) := fun q => q.elim c_6 (fun q => q c_13)
      refine lv_aload_n hx hb dX4_step_19 rfl (lv_at hl 0 rfl) ?_
      refine va_get (D := D) (ci := 5) (v := .int dn) (C := RX4) (T := TX4) (N := 23) hx hb hts iX4 hown hK hP 0 rfl rfl 22 (by decide) wf58 (fun _ h9 => h9) rfl dX4_step_20 ?_
      refine lv_if_eq (tgt := 29) hx hb dX4_step_23 (by decide) (fun c_23 => ?_) (fun c_23 => ?_)
      · obtain ⟨N, hN1, hN⟩ := nI_of2 (M := 1000) (n := 1000) rfl c_6 c_13
        refine lv_iconst (v := 0) hx hb dX4_step_29 (by decide) ?_
        refine lv_istore_n (lv' := [(2, .int 0), (0, .ref am), (1, .int x)]) hx hb dX4_step_30 rfl hl (by decide) rfl (fun ls hl => ?_)
        exact key31 (N + 1) N 0 t cs ps ro hN hN1 hrg c_23 (by omega) (by omega) (by omega) (by omega) rfl _ _ (hP.sub [0, 1, 2, 3, 4] rfl) (hD.sub [0, 1, 2, 3, 4] (by decide) rfl) hS ls (lv_sub hl [0, 1, 2] rfl)
      · refine lv_bipush (v := (-5)) hx hb dX4_step_26 (by decide) ?_
        have hP9 := hP.sub (ws' := [(am, .inr (5, [.int 0, .ref acs, .ref afv, .ref atr, .ref aln, .ref aps, .ref ata, .int (nI c), .int (nI f), .int (nI t), .int ed, .ref aro, .ref akc, .ref akp, .ref akm, .ref akf, .ref aku, .ref ake, .ref aiw, .int (nI kb), .int cp, .int ct, .int dn])), (acs, .inl (cL, 12, .inr (.inl cs))), (aln, .inl (cI, 6, .inl ln)), (aps, .inl (cI, 6, .inl ps)), (aro, .inl (cL, 5001, .inr (.inl ro)))]) [0, 1, 2, 3, 4] rfl
        have hD9 := hD.sub (ws' := [(am, .inr (5, [.int 0, .ref acs, .ref afv, .ref atr, .ref aln, .ref aps, .ref ata, .int (nI c), .int (nI f), .int (nI t), .int ed, .ref aro, .ref akc, .ref akp, .ref akm, .ref akf, .ref aku, .ref ake, .ref aiw, .int (nI kb), .int cp, .int ct, .int dn])), (acs, .inl (cL, 12, .inr (.inl cs))), (aln, .inl (cI, 6, .inl ln)), (aps, .inl (cI, 6, .inl ps)), (aro, .inl (cL, 5001, .inr (.inl ro)))]) [0, 1, 2, 3, 4] (by decide) rfl
        refine W.widen (k := 0) (n := 0) (Nat.le_of_ble_eq_true rfl) (Nat.le_of_ble_eq_true rfl) ?_
        exact W.iret (v := (-5)) hx hb hr (fun t9 ht9 hW9 => ⟨⟨(-5), (t, cs, ps, ro), rfl, ⟨fun q => absurd q hrg, fun _ _ => rfl, fun _ q => absurd q c_23, by rw [if_neg (fun q => c_23 q.2)]⟩, by rw [ht9]; exact hP9, va_K.moved hW9.alike hK, hD9⟩, hS.F ht9⟩) hS.2.2 dX4_step_28
    · refine lv_bipush (v := (-4)) hx hb dX4_step_16 (by decide) ?_
      have hbad : x < 0 ∨ ¬ x ≤ 1000 := by first | exact Or.inl c_6 | exact Or.inr c_13
      have hP9 := hP.sub (ws' := [(am, .inr (5, [.int 0, .ref acs, .ref afv, .ref atr, .ref aln, .ref aps, .ref ata, .int (nI c), .int (nI f), .int (nI t), .int ed, .ref aro, .ref akc, .ref akp, .ref akm, .ref akf, .ref aku, .ref ake, .ref aiw, .int (nI kb), .int cp, .int ct, .int dn])), (acs, .inl (cL, 12, .inr (.inl cs))), (aln, .inl (cI, 6, .inl ln)), (aps, .inl (cI, 6, .inl ps)), (aro, .inl (cL, 5001, .inr (.inl ro)))]) [0, 1, 2, 3, 4] rfl
      have hD9 := hD.sub (ws' := [(am, .inr (5, [.int 0, .ref acs, .ref afv, .ref atr, .ref aln, .ref aps, .ref ata, .int (nI c), .int (nI f), .int (nI t), .int ed, .ref aro, .ref akc, .ref akp, .ref akm, .ref akf, .ref aku, .ref ake, .ref aiw, .int (nI kb), .int cp, .int ct, .int dn])), (acs, .inl (cL, 12, .inr (.inl cs))), (aln, .inl (cI, 6, .inl ln)), (aps, .inl (cI, 6, .inl ps)), (aro, .inl (cL, 5001, .inr (.inl ro)))]) [0, 1, 2, 3, 4] (by decide) rfl
      refine W.widen (k := 0) (n := 0) (Nat.le_of_ble_eq_true rfl) (Nat.le_of_ble_eq_true rfl) ?_
      exact W.iret (v := (-4)) hx hb hr (fun t9 ht9 hW9 => ⟨⟨(-4), (t, cs, ps, ro), rfl, ⟨fun _ => rfl, fun q => absurd hbad q, fun q => absurd hbad q, by rw [if_neg (fun q => q.1 hbad)]⟩, by rw [ht9]; exact hP9, va_K.moved hW9.alike hK, hD9⟩, hS.F ht9⟩) hS.2.2 dX4_step_18
