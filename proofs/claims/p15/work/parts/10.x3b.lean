abbrev rm_X3_check : Room := { frames := 2, cells := 0, slots := 0, locals := 63 }
abbrev qc_X3_check (D : va_G) (cI cL cZ : ClassId) (ax : Nat) (aj : Nat) (ap : Nat) (ar : Nat) (arow : Nat) (ak : Nat) (ed : Int32) (dn : Int32) (cp : Int32) (ct : Int32) (akw : Nat) (ake : Nat) (aku : Nat) (akn : Nat) (akc : Nat) (akp : Nat) (kw : Nat → Int32) (ke : Nat → Int32) (ku : Nat → Int32) (kn : Nat → Int32) (kc : Nat → Int64) (kp : Nat → Int32) (apc : Nat) (app : Nat) (cs : Nat → Int64) (ps : Nat → Int32) (af : Nat) (al : Nat) (c : Nat) (f : Nat) (t : Nat) (kb : Nat) (A : Nat → Prop) : Array Value → State → Outcome → State → Prop := va_Qi (fun (r : Int32) (u : Nat × (Nat → Int32) × (Nat → Int32) × (Nat → Int32) × (Nat → Int32) × (Nat → Int64) × (Nat → Int32) × Int32 × Int32 × Int32) => ((¬ dn = 0 ∧ r = -5 ∧ u.1 = kb ∧ u.2.1 = kw ∧ (u.2.2.1 = ke ∧ u.2.2.2.1 = ku ∧ u.2.2.2.2.1 = kn ∧ u.2.2.2.2.2.1 = kc ∧ u.2.2.2.2.2.2.1 = kp) ∧ u.2.2.2.2.2.2.2.1 = dn ∧ u.2.2.2.2.2.2.2.2.1 = cp) ∨ (dn = 0 ∧ ¬ kb < 100 ∧ r = -1 ∧ u.1 = kb ∧ u.2.1 = kw ∧ (u.2.2.1 = ke ∧ u.2.2.2.1 = ku ∧ u.2.2.2.2.1 = kn ∧ u.2.2.2.2.2.1 = kc ∧ u.2.2.2.2.2.2.1 = kp) ∧ u.2.2.2.2.2.2.2.1 = dn ∧ u.2.2.2.2.2.2.2.2.1 = cp) ∨ (dn = 0 ∧ kb < 100 ∧ (¬ cp = 0 ∧ cp ≤ nI (4 + c + f)) ∧ cp = 1 ∧ r = 0 ∧ u.1 = kb ∧ u.2.1 = kw ∧ (u.2.2.1 = ke ∧ u.2.2.2.1 = ku ∧ u.2.2.2.2.1 = kn ∧ u.2.2.2.2.2.1 = kc ∧ u.2.2.2.2.2.2.1 = kp) ∧ u.2.2.2.2.2.2.2.1 = 1 ∧ u.2.2.2.2.2.2.2.2.1 = 0) ∨ (dn = 0 ∧ kb < 100 ∧ (¬ cp = 0 ∧ cp ≤ nI (4 + c + f)) ∧ ¬ cp = 1 ∧ r = 0 ∧ u.1 = kb + 1 ∧ u.2.1 = upd kw kb 0 ∧ (u.2.2.1 = ke ∧ u.2.2.2.1 = ku ∧ u.2.2.2.2.1 = kn ∧ u.2.2.2.2.2.1 = kc ∧ u.2.2.2.2.2.2.1 = kp) ∧ u.2.2.2.2.2.2.2.1 = 1 ∧ u.2.2.2.2.2.2.2.2.1 = 0) ∨ (dn = 0 ∧ kb < 100 ∧ ¬ (¬ cp = 0 ∧ cp ≤ nI (4 + c + f)) ∧ r = nI (kb + 1) ∧ u.1 = kb + 1 ∧ u.2.1 = upd kw kb 1 ∧ (u.2.2.1 = upd ke kb ed ∧ u.2.2.2.1 = upd ku kb (nI t) ∧ u.2.2.2.2.1 = upd kn kb (nI c) ∧ u.2.2.2.2.2.1 = va_cpy cs kc 0 (kb * 12) 12 ∧ u.2.2.2.2.2.2.1 = va_cpy ps kp 0 (kb * 6) 6) ∧ u.2.2.2.2.2.2.2.1 = dn ∧ u.2.2.2.2.2.2.2.2.1 = cp))) (ct_B D vwCl [(cI, .int), (cL, .long), (cZ, .boolean)] A (fun (u : Nat × (Nat → Int32) × (Nat → Int32) × (Nat → Int32) × (Nat → Int32) × (Nat → Int64) × (Nat → Int32) × Int32 × Int32 × Int32) => [(ax, .inr (4, [.ref aj, .ref ap, .ref ar, .ref arow, .ref ak, .int ed, .int u.2.2.2.2.2.2.2.1, .int u.2.2.2.2.2.2.2.2.1, .int u.2.2.2.2.2.2.2.2.2])), (ak, .inr (1, [.ref akw, .ref ake, .ref aku, .ref akn, .ref akc, .ref akp, .int (nI u.1)])), (akw, .inl (cZ, 100, .inl u.2.1)), (ake, .inl (cI, 100, .inl u.2.2.1)), (aku, .inl (cI, 100, .inl u.2.2.2.1)), (akn, .inl (cI, 100, .inl u.2.2.2.2.1)), (akc, .inl (cL, 1200, .inr (.inl u.2.2.2.2.2.1))), (akp, .inl (cI, 600, .inl u.2.2.2.2.2.2.1)), (ap, .inr (3, [.ref aj, .ref apc, .ref app, .int (nI t)])), (apc, .inl (cL, 12, .inr (.inl cs))), (app, .inl (cI, 6, .inl ps)), (aj, .inr (2, [.ref af, .ref al, .int (nI c), .int (nI f)]))])) A
set_option maxHeartbeats 4000000 in
set_option maxRecDepth 100000 in
theorem c_X3_check (l : Launch) (D : va_G) (cI cL cZ : ClassId) (ax : Nat) (aj : Nat) (ap : Nat) (ar : Nat) (arow : Nat) (ak : Nat) (ed : Int32) (dn : Int32) (cp : Int32) (ct : Int32) (akw : Nat) (ake : Nat) (aku : Nat) (akn : Nat) (akc : Nat) (akp : Nat) (kw : Nat → Int32) (ke : Nat → Int32) (ku : Nat → Int32) (kn : Nat → Int32) (kc : Nat → Int64) (kp : Nat → Int32) (apc : Nat) (app : Nat) (cs : Nat → Int64) (ps : Nat → Int32) (af : Nat) (al : Nat) (c : Nat) (f : Nat) (t : Nat) (kb : Nat) (sz : Nat) (hc : c ≤ 12) (hf : f ≤ 6) (hkb : kb ≤ 100) (hcp : ¬ cp < 0) : Met l yX3_check wsX3_check rm_X3_check (va_Pc [.ref ax] (ct_P D vwCl [(cI, .int), (cL, .long), (cZ, .boolean)] [(ax, .inr (4, [.ref aj, .ref ap, .ref ar, .ref arow, .ref ak, .int ed, .int dn, .int cp, .int ct])), (ak, .inr (1, [.ref akw, .ref ake, .ref aku, .ref akn, .ref akc, .ref akp, .int (nI kb)])), (akw, .inl (cZ, 100, .inl kw)), (ake, .inl (cI, 100, .inl ke)), (aku, .inl (cI, 100, .inl ku)), (akn, .inl (cI, 100, .inl kn)), (akc, .inl (cL, 1200, .inr (.inl kc))), (akp, .inl (cI, 600, .inl kp)), (ap, .inr (3, [.ref aj, .ref apc, .ref app, .int (nI t)])), (apc, .inl (cL, 12, .inr (.inl cs))), (app, .inl (cI, 6, .inl ps)), (aj, .inr (2, [.ref af, .ref al, .int (nI c), .int (nI f)]))] sz)) (qc_X3_check D cI cL cZ ax aj ap ar arow ak ed dn cp ct akw ake aku akn akc akp kw ke ku kn kc kp apc app cs ps af al c f t kb (va_A [(ax, .inr (4, [.ref aj, .ref ap, .ref ar, .ref arow, .ref ak, .int ed, .int dn, .int cp, .int ct])), (ak, .inr (1, [.ref akw, .ref ake, .ref aku, .ref akn, .ref akc, .ref akp, .int (nI kb)])), (akw, .inl (cZ, 100, .inl kw)), (ake, .inl (cI, 100, .inl ke)), (aku, .inl (cI, 100, .inl ku)), (akn, .inl (cI, 100, .inl kn)), (akc, .inl (cL, 1200, .inr (.inl kc))), (akp, .inl (cI, 600, .inl kp)), (ap, .inr (3, [.ref aj, .ref apc, .ref app, .int (nI t)])), (apc, .inl (cL, 12, .inr (.inl cs))), (app, .inl (cI, 6, .inl ps)), (aj, .inr (2, [.ref af, .ref al, .int (nI c), .int (nI f)]))] sz)) 0 0 (va_A [(ax, .inr (4, [.ref aj, .ref ap, .ref ar, .ref arow, .ref ak, .int ed, .int dn, .int cp, .int ct])), (ak, .inr (1, [.ref akw, .ref ake, .ref aku, .ref akn, .ref akc, .ref akp, .int (nI kb)])), (akw, .inl (cZ, 100, .inl kw)), (ake, .inl (cI, 100, .inl ke)), (aku, .inl (cI, 100, .inl ku)), (akn, .inl (cI, 100, .inl kn)), (akc, .inl (cL, 1200, .inr (.inl kc))), (akp, .inl (cI, 600, .inl kp)), (ap, .inr (3, [.ref aj, .ref apc, .ref app, .int (nI t)])), (apc, .inl (cL, 12, .inr (.inl cs))), (app, .inl (cI, 6, .inl ps)), (aj, .inr (2, [.ref af, .ref al, .int (nI c), .int (nI f)]))] sz) := by
  refine Met.ofW (cc := cX3_check) (maxL := 2) (ret := (some .int)) (by decide) rfl ?_
  intro p e s m args below meth cd s₁ B hml hv
  obtain ⟨rfl, hsz, hP, hK, hD0⟩ := hv
  have hx := B.exec
  have hb := B.bytes
  have hr := B.returns
  have hts := atoms_spec (ws := wsX3_check) B.pre
  have iX3 : ∀ w ∈ wsX30, w ∈ wsX3_check := by decide +kernel
  have wf43 := hts (.fieldLink RX3 43 "CheckRestart" "down" "Z") (by decide +kernel)
  have wf35 := hts (.fieldLink RX3 35 "CheckRestart" "checkpoints" "LCheckRestart$Checkpoints;") (by decide +kernel)
  have iX0 : ∀ w ∈ wsX00, w ∈ wsX3_check := by decide +kernel
  have wf83 := hts (.fieldLink RX3 83 "CheckRestart$Checkpoints" "begun" "I") (by decide +kernel)
  have wf10 := hts (.fieldLink RX3 10 "CheckRestart" "job" "LCheckRestart$Job;") (by decide +kernel)
  have iX1 : ∀ w ∈ wsX10, w ∈ wsX3_check := by decide +kernel
  have wf57 := hts (.fieldLink RX3 57 "CheckRestart$Job" "cellCount" "I") (by decide +kernel)
  have wf66 := hts (.fieldLink RX3 66 "CheckRestart$Job" "fileCount" "I") (by decide +kernel)
  have wf47 := hts (.fieldLink RX3 47 "CheckRestart" "cutPart" "I") (by decide +kernel)
  have wf21 := hts (.fieldLink RX3 21 "CheckRestart" "progress" "LCheckRestart$Progress;") (by decide +kernel)
  have wf39 := hts (.fieldLink RX3 39 "CheckRestart" "editionNow" "I") (by decide +kernel)
  have hown : s.vm.findClass RX3 = some m.cls := findClass_of_methodNamed B.named
  have hlocks := B.notSynchronized
  subst hsz
  have hD := hD0.self (sz := s.heap.size)
  generalize hAe : va_A [(ax, .inr (4, [.ref aj, .ref ap, .ref ar, .ref arow, .ref ak, .int ed, .int dn, .int cp, .int ct])), (ak, .inr (1, [.ref akw, .ref ake, .ref aku, .ref akn, .ref akc, .ref akp, .int (nI kb)])), (akw, .inl (cZ, 100, .inl kw)), (ake, .inl (cI, 100, .inl ke)), (aku, .inl (cI, 100, .inl ku)), (akn, .inl (cI, 100, .inl kn)), (akc, .inl (cL, 1200, .inr (.inl kc))), (akp, .inl (cI, 600, .inl kp)), (ap, .inr (3, [.ref aj, .ref apc, .ref app, .int (nI t)])), (apc, .inl (cL, 12, .inr (.inl cs))), (app, .inl (cI, 6, .inl ps)), (aj, .inr (2, [.ref af, .ref al, .int (nI c), .int (nI f)]))] s.heap.size = A at hD ⊢
  have hA : ∀ q : Nat, s.heap.size ≤ q → A q := fun q h => by rw [← hAe]; exact Or.inr h
  have hS : va_S A s.heap s.heap [] := va_S.rf
  have hl := lv_entry ([.ref ax]) (n := 2) (Nat.le_of_ble_eq_true rfl)
  rw [lg_entry_eq]
  generalize (lg_sl ([.ref ax]) ++ List.replicate (2 - (lg_sl ([.ref ax])).length) Slot.unset).toArray = ls at hl ⊢
  have hl : lv_has ls 2 [(0, .ref ax)] := hl
  refine lv_aload_n hx hb dX3_check_0 rfl (lv_at hl 0 rfl) ?_
  refine va_get (D := D) (ci := 4) (v := .int dn) (C := RX3) (T := TX3) (N := 9) hx hb hts iX3 hown hK hP 0 rfl rfl 6 (by decide) wf43 (fun _ h9 => h9) rfl dX3_check_1 ?_
  refine lv_if_eq (tgt := 10) hx hb dX3_check_4 (by decide) (fun c_4 => ?_) (fun c_4 => ?_)
  · refine lv_aload_n hx hb dX3_check_10 rfl (lv_at hl 0 rfl) ?_
    refine va_get (D := D) (ci := 4) (v := .ref ak) (C := RX3) (T := TX3) (N := 9) hx hb hts iX3 hown hK hP 0 rfl rfl 4 (by decide) wf35 (fun _ h9 => h9) rfl dX3_check_11 ?_
    refine va_get (D := D) (ci := 1) (v := .int (nI kb)) (C := RX0) (T := TX0) (N := 7) hx hb hts iX0 hown hK hP 1 rfl rfl 6 (by decide) wf83 (fun _ h9 => h9) rfl dX3_check_14 ?_
    refine lv_bipush (v := 100) hx hb dX3_check_17 (by decide) ?_
    refine lv_icmp_lt (tgt := 24) hx hb dX3_check_19 (by decide) (fun c_19 => ?_) (fun c_19 => ?_)
    · have h1 : kb < 100 := (nI_ltI (a := kb) (b := 100) (by omega) (by omega)).mp c_19
      refine lv_iconst (v := 4) hx hb dX3_check_24 (by decide) ?_
      refine lv_aload_n hx hb dX3_check_25 rfl (lv_at hl 0 rfl) ?_
      refine va_get (D := D) (ci := 4) (v := .ref aj) (C := RX3) (T := TX3) (N := 9) hx hb hts iX3 hown hK hP 0 rfl rfl 0 (by decide) wf10 (fun _ h9 => h9) rfl dX3_check_26 ?_
      refine va_get (D := D) (ci := 2) (v := .int (nI c)) (C := RX1) (T := TX1) (N := 4) hx hb hts iX1 hown hK hP 11 rfl rfl 2 (by decide) wf57 (fun _ h9 => h9) rfl dX3_check_29 ?_
      refine lv_iadd hx hb dX3_check_32 ?_
      refine ct_topi (y := (nI (4 + c))) (nI_add 4 c) ?_
      refine lv_aload_n hx hb dX3_check_33 rfl (lv_at hl 0 rfl) ?_
      refine va_get (D := D) (ci := 4) (v := .ref aj) (C := RX3) (T := TX3) (N := 9) hx hb hts iX3 hown hK hP 0 rfl rfl 0 (by decide) wf10 (fun _ h9 => h9) rfl dX3_check_34 ?_
      refine va_get (D := D) (ci := 2) (v := .int (nI f)) (C := RX1) (T := TX1) (N := 4) hx hb hts iX1 hown hK hP 11 rfl rfl 3 (by decide) wf66 (fun _ h9 => h9) rfl dX3_check_37 ?_
      refine lv_iadd hx hb dX3_check_40 ?_
      refine ct_topi (y := (nI (4 + c + f))) (nI_add (4 + c) f) ?_
      refine lv_istore_n (lv' := [(1, .int (nI (4 + c + f))), (0, .ref ax)]) hx hb dX3_check_41 rfl hl (by decide) rfl (fun ls hl => ?_)
      refine lv_aload_n hx hb dX3_check_42 rfl (lv_at hl 1 rfl) ?_
      refine va_get (D := D) (ci := 4) (v := .int cp) (C := RX3) (T := TX3) (N := 9) hx hb hts iX3 hown hK hP 0 rfl rfl 7 (by decide) wf47 (fun _ h9 => h9) rfl dX3_check_43 ?_
      refine lv_if_eq (tgt := 78) hx hb dX3_check_46 (by decide) (fun c_46 => ?_) (fun c_46 => ?_)
      · refine lv_aload_n hx hb dX3_check_78 rfl (lv_at hl 1 rfl) ?_
        refine va_get (D := D) (ci := 4) (v := .ref ak) (C := RX3) (T := TX3) (N := 9) hx hb hts iX3 hown hK hP 0 rfl rfl 4 (by decide) wf35 (fun _ h9 => h9) rfl dX3_check_79 ?_
        refine lv_aload_n hx hb dX3_check_82 rfl (lv_at hl 1 rfl) ?_
        refine va_get (D := D) (ci := 4) (v := .ref ap) (C := RX3) (T := TX3) (N := 9) hx hb hts iX3 hown hK hP 0 rfl rfl 1 (by decide) wf21 (fun _ h9 => h9) rfl dX3_check_83 ?_
        refine lv_aload_n hx hb dX3_check_86 rfl (lv_at hl 1 rfl) ?_
        refine va_get (D := D) (ci := 4) (v := .int ed) (C := RX3) (T := TX3) (N := 9) hx hb hts iX3 hown hK hP 0 rfl rfl 5 (by decide) wf39 (fun _ h9 => h9) rfl dX3_check_87 ?_
        refine ct_callv (wr := [(ax, .inr (4, [.ref aj, .ref ap, .ref ar, .ref arow, .ref ak, .int ed, .int dn, .int cp, .int ct]))]) (rest := []) hP hD hS hA [1, 2, 3, 4, 5, 6, 7, 8, 9, 10, 11] [0] (va_runV (C := RX0) (As := [.ref ap, .int ed]) ⟨hx, hb, hml, hown, hts⟩ (c_X0_addWhole l D cI cL cZ ak akw ake aku akn akc akp kw ke ku kn kc kp ap apc app cs ps aj af al c f t kb ed _ (by omega)) (cwV 2 hts gX3_check_X0_addWhole rfl rfl rfl (by decide +kernel) ⟨Nat.le_of_ble_eq_true rfl, Nat.le_of_ble_eq_true rfl⟩) (ct_preV (q0 := 0) (ci := 1) hK hP hD [1, 2, 3, 4, 5, 6, 7, 8, 9, 10, 11] (by decide) rfl rfl rfl rfl rfl) rfl rfl hl.1 rfl (lv_room (Nat.le_of_ble_eq_true rfl)) dX3_check_90 ⟨Nat.le_of_ble_eq_true rfl, Nat.le_of_ble_eq_true rfl⟩) rfl rfl (by decide) (by decide) (fun u H locs hw hP hD hS => ?_)
        try dsimp only at hw
        have hP : va_P D vwCl [(ax, .inr (4, [.ref aj, .ref ap, .ref ar, .ref arow, .ref ak, .int ed, .int dn, .int cp, .int ct])), (ak, .inr (1, [.ref akw, .ref ake, .ref aku, .ref akn, .ref akc, .ref akp, .int (nI (kb + 1))])), (akw, .inl (cZ, 100, .inl (upd kw kb 1))), (ake, .inl (cI, 100, .inl (upd ke kb ed))), (aku, .inl (cI, 100, .inl (upd ku kb (nI t)))), (akn, .inl (cI, 100, .inl (upd kn kb (nI c)))), (akc, .inl (cL, 1200, .inr (.inl (va_cpy cs kc 0 (kb * 12) 12)))), (akp, .inl (cI, 600, .inl (va_cpy ps kp 0 (kb * 6) 6))), (ap, .inr (3, [.ref aj, .ref apc, .ref app, .int (nI t)])), (apc, .inl (cL, 12, .inr (.inl cs))), (app, .inl (cI, 6, .inl ps)), (aj, .inr (2, [.ref af, .ref al, .int (nI c), .int (nI f)]))] H := hP
        have hD : va_D A [(ax, .inr (4, [.ref aj, .ref ap, .ref ar, .ref arow, .ref ak, .int ed, .int dn, .int cp, .int ct])), (ak, .inr (1, [.ref akw, .ref ake, .ref aku, .ref akn, .ref akc, .ref akp, .int (nI (kb + 1))])), (akw, .inl (cZ, 100, .inl (upd kw kb 1))), (ake, .inl (cI, 100, .inl (upd ke kb ed))), (aku, .inl (cI, 100, .inl (upd ku kb (nI t)))), (akn, .inl (cI, 100, .inl (upd kn kb (nI c)))), (akc, .inl (cL, 1200, .inr (.inl (va_cpy cs kc 0 (kb * 12) 12)))), (akp, .inl (cI, 600, .inl (va_cpy ps kp 0 (kb * 6) 6))), (ap, .inr (3, [.ref aj, .ref apc, .ref app, .int (nI t)])), (apc, .inl (cL, 12, .inr (.inl cs))), (app, .inl (cI, 6, .inl ps)), (aj, .inr (2, [.ref af, .ref al, .int (nI c), .int (nI f)]))] := hD
        refine lv_aload_n hx hb dX3_check_93 rfl (lv_at hl 1 rfl) ?_
        refine va_get (D := D) (ci := 4) (v := .ref ak) (C := RX3) (T := TX3) (N := 9) hx hb hts iX3 hown hK hP 0 rfl rfl 4 (by decide) wf35 (fun _ h9 => h9) rfl dX3_check_94 ?_
        refine va_get (D := D) (ci := 1) (v := .int (nI (kb + 1))) (C := RX0) (T := TX0) (N := 7) hx hb hts iX0 hown hK hP 1 rfl rfl 6 (by decide) wf83 (fun _ h9 => h9) rfl dX3_check_97 ?_
        have hP9 := hP.sub (ws' := [(ax, .inr (4, [.ref aj, .ref ap, .ref ar, .ref arow, .ref ak, .int ed, .int dn, .int cp, .int ct])), (ak, .inr (1, [.ref akw, .ref ake, .ref aku, .ref akn, .ref akc, .ref akp, .int (nI (kb + 1))])), (akw, .inl (cZ, 100, .inl (upd kw kb 1))), (ake, .inl (cI, 100, .inl (upd ke kb ed))), (aku, .inl (cI, 100, .inl (upd ku kb (nI t)))), (akn, .inl (cI, 100, .inl (upd kn kb (nI c)))), (akc, .inl (cL, 1200, .inr (.inl (va_cpy cs kc 0 (kb * 12) 12)))), (akp, .inl (cI, 600, .inl (va_cpy ps kp 0 (kb * 6) 6))), (ap, .inr (3, [.ref aj, .ref apc, .ref app, .int (nI t)])), (apc, .inl (cL, 12, .inr (.inl cs))), (app, .inl (cI, 6, .inl ps)), (aj, .inr (2, [.ref af, .ref al, .int (nI c), .int (nI f)]))]) [0, 1, 2, 3, 4, 5, 6, 7, 8, 9, 10, 11] rfl
        have hD9 := hD.sub (ws' := [(ax, .inr (4, [.ref aj, .ref ap, .ref ar, .ref arow, .ref ak, .int ed, .int dn, .int cp, .int ct])), (ak, .inr (1, [.ref akw, .ref ake, .ref aku, .ref akn, .ref akc, .ref akp, .int (nI (kb + 1))])), (akw, .inl (cZ, 100, .inl (upd kw kb 1))), (ake, .inl (cI, 100, .inl (upd ke kb ed))), (aku, .inl (cI, 100, .inl (upd ku kb (nI t)))), (akn, .inl (cI, 100, .inl (upd kn kb (nI c)))), (akc, .inl (cL, 1200, .inr (.inl (va_cpy cs kc 0 (kb * 12) 12)))), (akp, .inl (cI, 600, .inl (va_cpy ps kp 0 (kb * 6) 6))), (ap, .inr (3, [.ref aj, .ref apc, .ref app, .int (nI t)])), (apc, .inl (cL, 12, .inr (.inl cs))), (app, .inl (cI, 6, .inl ps)), (aj, .inr (2, [.ref af, .ref al, .int (nI c), .int (nI f)]))]) [0, 1, 2, 3, 4, 5, 6, 7, 8, 9, 10, 11] (by decide) rfl
        refine W.widen (k := 0) (n := 0) (Nat.le_of_ble_eq_true rfl) (Nat.le_of_ble_eq_true rfl) ?_
        exact W.iret (v := (nI (kb + 1))) hx hb hr (fun t9 ht9 hW9 => ⟨⟨(nI (kb + 1)), ((kb + 1), (upd kw kb 1), (upd ke kb ed), (upd ku kb (nI t)), (upd kn kb (nI c)), (va_cpy cs kc 0 (kb * 12) 12), (va_cpy ps kp 0 (kb * 6) 6), dn, cp, ct), rfl, Or.inr (Or.inr (Or.inr (Or.inr ⟨c_4, h1, (by first | exact fun q => q.1 c_46 | exact fun q => cr_lt_nle c_54 q.2), rfl, rfl, rfl, ⟨rfl, rfl, rfl, rfl, rfl⟩, rfl, rfl⟩))), by rw [ht9]; exact hP9, va_K.moved hW9.alike hK, hD9⟩, hS.F ht9⟩) hS.2.2 dX3_check_100
      · refine lv_aload_n hx hb dX3_check_49 rfl (lv_at hl 1 rfl) ?_
        refine va_get (D := D) (ci := 4) (v := .int cp) (C := RX3) (T := TX3) (N := 9) hx hb hts iX3 hown hK hP 0 rfl rfl 7 (by decide) wf47 (fun _ h9 => h9) rfl dX3_check_50 ?_
        refine lv_iload_n hx hb dX3_check_53 rfl (lv_at hl 0 rfl) ?_
        refine lv_icmp_gt (tgt := 78) hx hb dX3_check_54 (by decide) (fun c_54 => ?_) (fun c_54 => ?_)
        · refine lv_aload_n hx hb dX3_check_78 rfl (lv_at hl 1 rfl) ?_
          refine va_get (D := D) (ci := 4) (v := .ref ak) (C := RX3) (T := TX3) (N := 9) hx hb hts iX3 hown hK hP 0 rfl rfl 4 (by decide) wf35 (fun _ h9 => h9) rfl dX3_check_79 ?_
          refine lv_aload_n hx hb dX3_check_82 rfl (lv_at hl 1 rfl) ?_
          refine va_get (D := D) (ci := 4) (v := .ref ap) (C := RX3) (T := TX3) (N := 9) hx hb hts iX3 hown hK hP 0 rfl rfl 1 (by decide) wf21 (fun _ h9 => h9) rfl dX3_check_83 ?_
          refine lv_aload_n hx hb dX3_check_86 rfl (lv_at hl 1 rfl) ?_
          refine va_get (D := D) (ci := 4) (v := .int ed) (C := RX3) (T := TX3) (N := 9) hx hb hts iX3 hown hK hP 0 rfl rfl 5 (by decide) wf39 (fun _ h9 => h9) rfl dX3_check_87 ?_
          refine ct_callv (wr := [(ax, .inr (4, [.ref aj, .ref ap, .ref ar, .ref arow, .ref ak, .int ed, .int dn, .int cp, .int ct]))]) (rest := []) hP hD hS hA [1, 2, 3, 4, 5, 6, 7, 8, 9, 10, 11] [0] (va_runV (C := RX0) (As := [.ref ap, .int ed]) ⟨hx, hb, hml, hown, hts⟩ (c_X0_addWhole l D cI cL cZ ak akw ake aku akn akc akp kw ke ku kn kc kp ap apc app cs ps aj af al c f t kb ed _ (by omega)) (cwV 2 hts gX3_check_X0_addWhole rfl rfl rfl (by decide +kernel) ⟨Nat.le_of_ble_eq_true rfl, Nat.le_of_ble_eq_true rfl⟩) (ct_preV (q0 := 0) (ci := 1) hK hP hD [1, 2, 3, 4, 5, 6, 7, 8, 9, 10, 11] (by decide) rfl rfl rfl rfl rfl) rfl rfl hl.1 rfl (lv_room (Nat.le_of_ble_eq_true rfl)) dX3_check_90 ⟨Nat.le_of_ble_eq_true rfl, Nat.le_of_ble_eq_true rfl⟩) rfl rfl (by decide) (by decide) (fun u H locs hw hP hD hS => ?_)
          try dsimp only at hw
          have hP : va_P D vwCl [(ax, .inr (4, [.ref aj, .ref ap, .ref ar, .ref arow, .ref ak, .int ed, .int dn, .int cp, .int ct])), (ak, .inr (1, [.ref akw, .ref ake, .ref aku, .ref akn, .ref akc, .ref akp, .int (nI (kb + 1))])), (akw, .inl (cZ, 100, .inl (upd kw kb 1))), (ake, .inl (cI, 100, .inl (upd ke kb ed))), (aku, .inl (cI, 100, .inl (upd ku kb (nI t)))), (akn, .inl (cI, 100, .inl (upd kn kb (nI c)))), (akc, .inl (cL, 1200, .inr (.inl (va_cpy cs kc 0 (kb * 12) 12)))), (akp, .inl (cI, 600, .inl (va_cpy ps kp 0 (kb * 6) 6))), (ap, .inr (3, [.ref aj, .ref apc, .ref app, .int (nI t)])), (apc, .inl (cL, 12, .inr (.inl cs))), (app, .inl (cI, 6, .inl ps)), (aj, .inr (2, [.ref af, .ref al, .int (nI c), .int (nI f)]))] H := hP
          have hD : va_D A [(ax, .inr (4, [.ref aj, .ref ap, .ref ar, .ref arow, .ref ak, .int ed, .int dn, .int cp, .int ct])), (ak, .inr (1, [.ref akw, .ref ake, .ref aku, .ref akn, .ref akc, .ref akp, .int (nI (kb + 1))])), (akw, .inl (cZ, 100, .inl (upd kw kb 1))), (ake, .inl (cI, 100, .inl (upd ke kb ed))), (aku, .inl (cI, 100, .inl (upd ku kb (nI t)))), (akn, .inl (cI, 100, .inl (upd kn kb (nI c)))), (akc, .inl (cL, 1200, .inr (.inl (va_cpy cs kc 0 (kb * 12) 12)))), (akp, .inl (cI, 600, .inl (va_cpy ps kp 0 (kb * 6) 6))), (ap, .inr (3, [.ref aj, .ref apc, .ref app, .int (nI t)])), (apc, .inl (cL, 12, .inr (.inl cs))), (app, .inl (cI, 6, .inl ps)), (aj, .inr (2, [.ref af, .ref al, .int (nI c), .int (nI f)]))] := hD
          refine lv_aload_n hx hb dX3_check_93 rfl (lv_at hl 1 rfl) ?_
          refine va_get (D := D) (ci := 4) (v := .ref ak) (C := RX3) (T := TX3) (N := 9) hx hb hts iX3 hown hK hP 0 rfl rfl 4 (by decide) wf35 (fun _ h9 => h9) rfl dX3_check_94 ?_
          refine va_get (D := D) (ci := 1) (v := .int (nI (kb + 1))) (C := RX0) (T := TX0) (N := 7) hx hb hts iX0 hown hK hP 1 rfl rfl 6 (by decide) wf83 (fun _ h9 => h9) rfl dX3_check_97 ?_
          have hP9 := hP.sub (ws' := [(ax, .inr (4, [.ref aj, .ref ap, .ref ar, .ref arow, .ref ak, .int ed, .int dn, .int cp, .int ct])), (ak, .inr (1, [.ref akw, .ref ake, .ref aku, .ref akn, .ref akc, .ref akp, .int (nI (kb + 1))])), (akw, .inl (cZ, 100, .inl (upd kw kb 1))), (ake, .inl (cI, 100, .inl (upd ke kb ed))), (aku, .inl (cI, 100, .inl (upd ku kb (nI t)))), (akn, .inl (cI, 100, .inl (upd kn kb (nI c)))), (akc, .inl (cL, 1200, .inr (.inl (va_cpy cs kc 0 (kb * 12) 12)))), (akp, .inl (cI, 600, .inl (va_cpy ps kp 0 (kb * 6) 6))), (ap, .inr (3, [.ref aj, .ref apc, .ref app, .int (nI t)])), (apc, .inl (cL, 12, .inr (.inl cs))), (app, .inl (cI, 6, .inl ps)), (aj, .inr (2, [.ref af, .ref al, .int (nI c), .int (nI f)]))]) [0, 1, 2, 3, 4, 5, 6, 7, 8, 9, 10, 11] rfl
          have hD9 := hD.sub (ws' := [(ax, .inr (4, [.ref aj, .ref ap, .ref ar, .ref arow, .ref ak, .int ed, .int dn, .int cp, .int ct])), (ak, .inr (1, [.ref akw, .ref ake, .ref aku, .ref akn, .ref akc, .ref akp, .int (nI (kb + 1))])), (akw, .inl (cZ, 100, .inl (upd kw kb 1))), (ake, .inl (cI, 100, .inl (upd ke kb ed))), (aku, .inl (cI, 100, .inl (upd ku kb (nI t)))), (akn, .inl (cI, 100, .inl (upd kn kb (nI c)))), (akc, .inl (cL, 1200, .inr (.inl (va_cpy cs kc 0 (kb * 12) 12)))), (akp, .inl (cI, 600, .inl (va_cpy ps kp 0 (kb * 6) 6))), (ap, .inr (3, [.ref aj, .ref apc, .ref app, .int (nI t)])), (apc, .inl (cL, 12, .inr (.inl cs))), (app, .inl (cI, 6, .inl ps)), (aj, .inr (2, [.ref af, .ref al, .int (nI c), .int (nI f)]))]) [0, 1, 2, 3, 4, 5, 6, 7, 8, 9, 10, 11] (by decide) rfl
          refine W.widen (k := 0) (n := 0) (Nat.le_of_ble_eq_true rfl) (Nat.le_of_ble_eq_true rfl) ?_
          exact W.iret (v := (nI (kb + 1))) hx hb hr (fun t9 ht9 hW9 => ⟨⟨(nI (kb + 1)), ((kb + 1), (upd kw kb 1), (upd ke kb ed), (upd ku kb (nI t)), (upd kn kb (nI c)), (va_cpy cs kc 0 (kb * 12) 12), (va_cpy ps kp 0 (kb * 6) 6), dn, cp, ct), rfl, Or.inr (Or.inr (Or.inr (Or.inr ⟨c_4, h1, (by first | exact fun q => q.1 c_46 | exact fun q => cr_lt_nle c_54 q.2), rfl, rfl, rfl, ⟨rfl, rfl, rfl, rfl, rfl⟩, rfl, rfl⟩))), by rw [ht9]; exact hP9, va_K.moved hW9.alike hK, hD9⟩, hS.F ht9⟩) hS.2.2 dX3_check_100
        · refine lv_aload_n hx hb dX3_check_57 rfl (lv_at hl 1 rfl) ?_
          refine va_get (D := D) (ci := 4) (v := .int cp) (C := RX3) (T := TX3) (N := 9) hx hb hts iX3 hown hK hP 0 rfl rfl 7 (by decide) wf47 (fun _ h9 => h9) rfl dX3_check_58 ?_
          refine lv_iconst (v := 1) hx hb dX3_check_61 (by decide) ?_
          refine lv_icmp_le (tgt := 72) hx hb dX3_check_62 (by decide) (fun c_62 => ?_) (fun c_62 => ?_)
          · refine lv_aload_n hx hb dX3_check_72 rfl (lv_at hl 1 rfl) ?_
            refine ct_callv (wr := [(ak, .inr (1, [.ref akw, .ref ake, .ref aku, .ref akn, .ref akc, .ref akp, .int (nI kb)])), (akw, .inl (cZ, 100, .inl kw)), (ake, .inl (cI, 100, .inl ke)), (aku, .inl (cI, 100, .inl ku)), (akn, .inl (cI, 100, .inl kn)), (akc, .inl (cL, 1200, .inr (.inl kc))), (akp, .inl (cI, 600, .inl kp)), (ap, .inr (3, [.ref aj, .ref apc, .ref app, .int (nI t)])), (apc, .inl (cL, 12, .inr (.inl cs))), (app, .inl (cI, 6, .inl ps)), (aj, .inr (2, [.ref af, .ref al, .int (nI c), .int (nI f)]))]) (rest := []) hP hD hS hA [0] [1, 2, 3, 4, 5, 6, 7, 8, 9, 10, 11] (va_runV (C := RX3) (As := []) ⟨hx, hb, hml, hown, hts⟩ (c_X3_goDown l D cI cL cZ ax aj ap ar arow ak ed dn cp ct _ ) (cwV 0 hts gX3_check_X3_goDown rfl rfl rfl (by decide +kernel) ⟨Nat.le_of_ble_eq_true rfl, Nat.le_of_ble_eq_true rfl⟩) (ct_preV (q0 := 0) (ci := 4) hK hP hD [0] (by decide) rfl rfl rfl rfl rfl) rfl rfl hl.1 rfl (lv_room (Nat.le_of_ble_eq_true rfl)) dX3_check_73 ⟨Nat.le_of_ble_eq_true rfl, Nat.le_of_ble_eq_true rfl⟩) rfl rfl (by decide) (by decide) (fun u H locs hw hP hD hS => ?_)
            try dsimp only at hw
            have hP : va_P D vwCl [(ak, .inr (1, [.ref akw, .ref ake, .ref aku, .ref akn, .ref akc, .ref akp, .int (nI kb)])), (akw, .inl (cZ, 100, .inl kw)), (ake, .inl (cI, 100, .inl ke)), (aku, .inl (cI, 100, .inl ku)), (akn, .inl (cI, 100, .inl kn)), (akc, .inl (cL, 1200, .inr (.inl kc))), (akp, .inl (cI, 600, .inl kp)), (ap, .inr (3, [.ref aj, .ref apc, .ref app, .int (nI t)])), (apc, .inl (cL, 12, .inr (.inl cs))), (app, .inl (cI, 6, .inl ps)), (aj, .inr (2, [.ref af, .ref al, .int (nI c), .int (nI f)])), (ax, .inr (4, [.ref aj, .ref ap, .ref ar, .ref arow, .ref ak, .int ed, .int 1, .int 0, .int (ct + 1)]))] H := hP
            have hD : va_D A [(ak, .inr (1, [.ref akw, .ref ake, .ref aku, .ref akn, .ref akc, .ref akp, .int (nI kb)])), (akw, .inl (cZ, 100, .inl kw)), (ake, .inl (cI, 100, .inl ke)), (aku, .inl (cI, 100, .inl ku)), (akn, .inl (cI, 100, .inl kn)), (akc, .inl (cL, 1200, .inr (.inl kc))), (akp, .inl (cI, 600, .inl kp)), (ap, .inr (3, [.ref aj, .ref apc, .ref app, .int (nI t)])), (apc, .inl (cL, 12, .inr (.inl cs))), (app, .inl (cI, 6, .inl ps)), (aj, .inr (2, [.ref af, .ref al, .int (nI c), .int (nI f)])), (ax, .inr (4, [.ref aj, .ref ap, .ref ar, .ref arow, .ref ak, .int ed, .int 1, .int 0, .int (ct + 1)]))] := hD
            refine lv_iconst (v := 0) hx hb dX3_check_76 (by decide) ?_
            have hP9 := hP.sub (ws' := [(ax, .inr (4, [.ref aj, .ref ap, .ref ar, .ref arow, .ref ak, .int ed, .int 1, .int 0, .int (ct + 1)])), (ak, .inr (1, [.ref akw, .ref ake, .ref aku, .ref akn, .ref akc, .ref akp, .int (nI kb)])), (akw, .inl (cZ, 100, .inl kw)), (ake, .inl (cI, 100, .inl ke)), (aku, .inl (cI, 100, .inl ku)), (akn, .inl (cI, 100, .inl kn)), (akc, .inl (cL, 1200, .inr (.inl kc))), (akp, .inl (cI, 600, .inl kp)), (ap, .inr (3, [.ref aj, .ref apc, .ref app, .int (nI t)])), (apc, .inl (cL, 12, .inr (.inl cs))), (app, .inl (cI, 6, .inl ps)), (aj, .inr (2, [.ref af, .ref al, .int (nI c), .int (nI f)]))]) [11, 0, 1, 2, 3, 4, 5, 6, 7, 8, 9, 10] rfl
            have hD9 := hD.sub (ws' := [(ax, .inr (4, [.ref aj, .ref ap, .ref ar, .ref arow, .ref ak, .int ed, .int 1, .int 0, .int (ct + 1)])), (ak, .inr (1, [.ref akw, .ref ake, .ref aku, .ref akn, .ref akc, .ref akp, .int (nI kb)])), (akw, .inl (cZ, 100, .inl kw)), (ake, .inl (cI, 100, .inl ke)), (aku, .inl (cI, 100, .inl ku)), (akn, .inl (cI, 100, .inl kn)), (akc, .inl (cL, 1200, .inr (.inl kc))), (akp, .inl (cI, 600, .inl kp)), (ap, .inr (3, [.ref aj, .ref apc, .ref app, .int (nI t)])), (apc, .inl (cL, 12, .inr (.inl cs))), (app, .inl (cI, 6, .inl ps)), (aj, .inr (2, [.ref af, .ref al, .int (nI c), .int (nI f)]))]) [11, 0, 1, 2, 3, 4, 5, 6, 7, 8, 9, 10] (by decide) rfl
            refine W.widen (k := 0) (n := 0) (Nat.le_of_ble_eq_true rfl) (Nat.le_of_ble_eq_true rfl) ?_
            exact W.iret (v := 0) hx hb hr (fun t9 ht9 hW9 => ⟨⟨0, (kb, kw, ke, ku, kn, kc, kp, 1, 0, (ct + 1)), rfl, Or.inr (Or.inr (Or.inl ⟨c_4, h1, ⟨c_46, cr_nlt c_54⟩, cr_one hcp c_46 c_62, rfl, rfl, rfl, ⟨rfl, rfl, rfl, rfl, rfl⟩, rfl, rfl⟩)), by rw [ht9]; exact hP9, va_K.moved hW9.alike hK, hD9⟩, hS.F ht9⟩) hS.2.2 dX3_check_77
          · refine lv_aload_n hx hb dX3_check_65 rfl (lv_at hl 1 rfl) ?_
            refine va_get (D := D) (ci := 4) (v := .ref ak) (C := RX3) (T := TX3) (N := 9) hx hb hts iX3 hown hK hP 0 rfl rfl 4 (by decide) wf35 (fun _ h9 => h9) rfl dX3_check_66 ?_
            refine ct_callv (wr := [(ax, .inr (4, [.ref aj, .ref ap, .ref ar, .ref arow, .ref ak, .int ed, .int dn, .int cp, .int ct])), (ake, .inl (cI, 100, .inl ke)), (aku, .inl (cI, 100, .inl ku)), (akn, .inl (cI, 100, .inl kn)), (akc, .inl (cL, 1200, .inr (.inl kc))), (akp, .inl (cI, 600, .inl kp)), (ap, .inr (3, [.ref aj, .ref apc, .ref app, .int (nI t)])), (apc, .inl (cL, 12, .inr (.inl cs))), (app, .inl (cI, 6, .inl ps)), (aj, .inr (2, [.ref af, .ref al, .int (nI c), .int (nI f)]))]) (rest := []) hP hD hS hA [1, 2] [0, 3, 4, 5, 6, 7, 8, 9, 10, 11] (va_runV (C := RX0) (As := []) ⟨hx, hb, hml, hown, hts⟩ (c_X0_addTorn l D cI cL cZ ak akw ake aku akn akc akp kw kb _ (by omega)) (cwV 0 hts gX3_check_X0_addTorn rfl rfl rfl (by decide +kernel) ⟨Nat.le_of_ble_eq_true rfl, Nat.le_of_ble_eq_true rfl⟩) (ct_preV (q0 := 0) (ci := 1) hK hP hD [1, 2] (by decide) rfl rfl rfl rfl rfl) rfl rfl hl.1 rfl (lv_room (Nat.le_of_ble_eq_true rfl)) dX3_check_69 ⟨Nat.le_of_ble_eq_true rfl, Nat.le_of_ble_eq_true rfl⟩) rfl rfl (by decide) (by decide) (fun u H locs hw hP hD hS => ?_)
            try dsimp only at hw
            have hP : va_P D vwCl [(ax, .inr (4, [.ref aj, .ref ap, .ref ar, .ref arow, .ref ak, .int ed, .int dn, .int cp, .int ct])), (ake, .inl (cI, 100, .inl ke)), (aku, .inl (cI, 100, .inl ku)), (akn, .inl (cI, 100, .inl kn)), (akc, .inl (cL, 1200, .inr (.inl kc))), (akp, .inl (cI, 600, .inl kp)), (ap, .inr (3, [.ref aj, .ref apc, .ref app, .int (nI t)])), (apc, .inl (cL, 12, .inr (.inl cs))), (app, .inl (cI, 6, .inl ps)), (aj, .inr (2, [.ref af, .ref al, .int (nI c), .int (nI f)])), (ak, .inr (1, [.ref akw, .ref ake, .ref aku, .ref akn, .ref akc, .ref akp, .int (nI (kb + 1))])), (akw, .inl (cZ, 100, .inl (upd kw kb 0)))] H := hP
            have hD : va_D A [(ax, .inr (4, [.ref aj, .ref ap, .ref ar, .ref arow, .ref ak, .int ed, .int dn, .int cp, .int ct])), (ake, .inl (cI, 100, .inl ke)), (aku, .inl (cI, 100, .inl ku)), (akn, .inl (cI, 100, .inl kn)), (akc, .inl (cL, 1200, .inr (.inl kc))), (akp, .inl (cI, 600, .inl kp)), (ap, .inr (3, [.ref aj, .ref apc, .ref app, .int (nI t)])), (apc, .inl (cL, 12, .inr (.inl cs))), (app, .inl (cI, 6, .inl ps)), (aj, .inr (2, [.ref af, .ref al, .int (nI c), .int (nI f)])), (ak, .inr (1, [.ref akw, .ref ake, .ref aku, .ref akn, .ref akc, .ref akp, .int (nI (kb + 1))])), (akw, .inl (cZ, 100, .inl (upd kw kb 0)))] := hD
            refine lv_aload_n hx hb dX3_check_72 rfl (lv_at hl 1 rfl) ?_
            refine ct_callv (wr := [(ake, .inl (cI, 100, .inl ke)), (aku, .inl (cI, 100, .inl ku)), (akn, .inl (cI, 100, .inl kn)), (akc, .inl (cL, 1200, .inr (.inl kc))), (akp, .inl (cI, 600, .inl kp)), (ap, .inr (3, [.ref aj, .ref apc, .ref app, .int (nI t)])), (apc, .inl (cL, 12, .inr (.inl cs))), (app, .inl (cI, 6, .inl ps)), (aj, .inr (2, [.ref af, .ref al, .int (nI c), .int (nI f)])), (ak, .inr (1, [.ref akw, .ref ake, .ref aku, .ref akn, .ref akc, .ref akp, .int (nI (kb + 1))])), (akw, .inl (cZ, 100, .inl (upd kw kb 0)))]) (rest := []) hP hD hS hA [0] [1, 2, 3, 4, 5, 6, 7, 8, 9, 10, 11] (va_runV (C := RX3) (As := []) ⟨hx, hb, hml, hown, hts⟩ (c_X3_goDown l D cI cL cZ ax aj ap ar arow ak ed dn cp ct _ ) (cwV 0 hts gX3_check_X3_goDown rfl rfl rfl (by decide +kernel) ⟨Nat.le_of_ble_eq_true rfl, Nat.le_of_ble_eq_true rfl⟩) (ct_preV (q0 := 0) (ci := 4) hK hP hD [0] (by decide) rfl rfl rfl rfl rfl) rfl rfl hl.1 rfl (lv_room (Nat.le_of_ble_eq_true rfl)) dX3_check_73 ⟨Nat.le_of_ble_eq_true rfl, Nat.le_of_ble_eq_true rfl⟩) rfl rfl (by decide) (by decide) (fun u H locs hw hP hD hS => ?_)
            try dsimp only at hw
            have hP : va_P D vwCl [(ake, .inl (cI, 100, .inl ke)), (aku, .inl (cI, 100, .inl ku)), (akn, .inl (cI, 100, .inl kn)), (akc, .inl (cL, 1200, .inr (.inl kc))), (akp, .inl (cI, 600, .inl kp)), (ap, .inr (3, [.ref aj, .ref apc, .ref app, .int (nI t)])), (apc, .inl (cL, 12, .inr (.inl cs))), (app, .inl (cI, 6, .inl ps)), (aj, .inr (2, [.ref af, .ref al, .int (nI c), .int (nI f)])), (ak, .inr (1, [.ref akw, .ref ake, .ref aku, .ref akn, .ref akc, .ref akp, .int (nI (kb + 1))])), (akw, .inl (cZ, 100, .inl (upd kw kb 0))), (ax, .inr (4, [.ref aj, .ref ap, .ref ar, .ref arow, .ref ak, .int ed, .int 1, .int 0, .int (ct + 1)]))] H := hP
            have hD : va_D A [(ake, .inl (cI, 100, .inl ke)), (aku, .inl (cI, 100, .inl ku)), (akn, .inl (cI, 100, .inl kn)), (akc, .inl (cL, 1200, .inr (.inl kc))), (akp, .inl (cI, 600, .inl kp)), (ap, .inr (3, [.ref aj, .ref apc, .ref app, .int (nI t)])), (apc, .inl (cL, 12, .inr (.inl cs))), (app, .inl (cI, 6, .inl ps)), (aj, .inr (2, [.ref af, .ref al, .int (nI c), .int (nI f)])), (ak, .inr (1, [.ref akw, .ref ake, .ref aku, .ref akn, .ref akc, .ref akp, .int (nI (kb + 1))])), (akw, .inl (cZ, 100, .inl (upd kw kb 0))), (ax, .inr (4, [.ref aj, .ref ap, .ref ar, .ref arow, .ref ak, .int ed, .int 1, .int 0, .int (ct + 1)]))] := hD
            refine lv_iconst (v := 0) hx hb dX3_check_76 (by decide) ?_
            have hP9 := hP.sub (ws' := [(ax, .inr (4, [.ref aj, .ref ap, .ref ar, .ref arow, .ref ak, .int ed, .int 1, .int 0, .int (ct + 1)])), (ak, .inr (1, [.ref akw, .ref ake, .ref aku, .ref akn, .ref akc, .ref akp, .int (nI (kb + 1))])), (akw, .inl (cZ, 100, .inl (upd kw kb 0))), (ake, .inl (cI, 100, .inl ke)), (aku, .inl (cI, 100, .inl ku)), (akn, .inl (cI, 100, .inl kn)), (akc, .inl (cL, 1200, .inr (.inl kc))), (akp, .inl (cI, 600, .inl kp)), (ap, .inr (3, [.ref aj, .ref apc, .ref app, .int (nI t)])), (apc, .inl (cL, 12, .inr (.inl cs))), (app, .inl (cI, 6, .inl ps)), (aj, .inr (2, [.ref af, .ref al, .int (nI c), .int (nI f)]))]) [11, 9, 10, 0, 1, 2, 3, 4, 5, 6, 7, 8] rfl
            have hD9 := hD.sub (ws' := [(ax, .inr (4, [.ref aj, .ref ap, .ref ar, .ref arow, .ref ak, .int ed, .int 1, .int 0, .int (ct + 1)])), (ak, .inr (1, [.ref akw, .ref ake, .ref aku, .ref akn, .ref akc, .ref akp, .int (nI (kb + 1))])), (akw, .inl (cZ, 100, .inl (upd kw kb 0))), (ake, .inl (cI, 100, .inl ke)), (aku, .inl (cI, 100, .inl ku)), (akn, .inl (cI, 100, .inl kn)), (akc, .inl (cL, 1200, .inr (.inl kc))), (akp, .inl (cI, 600, .inl kp)), (ap, .inr (3, [.ref aj, .ref apc, .ref app, .int (nI t)])), (apc, .inl (cL, 12, .inr (.inl cs))), (app, .inl (cI, 6, .inl ps)), (aj, .inr (2, [.ref af, .ref al, .int (nI c), .int (nI f)]))]) [11, 9, 10, 0, 1, 2, 3, 4, 5, 6, 7, 8] (by decide) rfl
            refine W.widen (k := 0) (n := 0) (Nat.le_of_ble_eq_true rfl) (Nat.le_of_ble_eq_true rfl) ?_
            exact W.iret (v := 0) hx hb hr (fun t9 ht9 hW9 => ⟨⟨0, ((kb + 1), (upd kw kb 0), ke, ku, kn, kc, kp, 1, 0, (ct + 1)), rfl, Or.inr (Or.inr (Or.inr (Or.inl ⟨c_4, h1, ⟨c_46, cr_nlt c_54⟩, fun q => c_62 (by rw [q]; decide), rfl, rfl, rfl, ⟨rfl, rfl, rfl, rfl, rfl⟩, rfl, rfl⟩))), by rw [ht9]; exact hP9, va_K.moved hW9.alike hK, hD9⟩, hS.F ht9⟩) hS.2.2 dX3_check_77
    · have h1 : ¬ kb < 100 := fun q => c_19 (nI_lt (a := kb) (b := 100) q (by omega))
      refine lv_iconst (v := (-1)) hx hb dX3_check_22 (by decide) ?_
      have hP9 := hP.sub (ws' := [(ax, .inr (4, [.ref aj, .ref ap, .ref ar, .ref arow, .ref ak, .int ed, .int dn, .int cp, .int ct])), (ak, .inr (1, [.ref akw, .ref ake, .ref aku, .ref akn, .ref akc, .ref akp, .int (nI kb)])), (akw, .inl (cZ, 100, .inl kw)), (ake, .inl (cI, 100, .inl ke)), (aku, .inl (cI, 100, .inl ku)), (akn, .inl (cI, 100, .inl kn)), (akc, .inl (cL, 1200, .inr (.inl kc))), (akp, .inl (cI, 600, .inl kp)), (ap, .inr (3, [.ref aj, .ref apc, .ref app, .int (nI t)])), (apc, .inl (cL, 12, .inr (.inl cs))), (app, .inl (cI, 6, .inl ps)), (aj, .inr (2, [.ref af, .ref al, .int (nI c), .int (nI f)]))]) [0, 1, 2, 3, 4, 5, 6, 7, 8, 9, 10, 11] rfl
      have hD9 := hD.sub (ws' := [(ax, .inr (4, [.ref aj, .ref ap, .ref ar, .ref arow, .ref ak, .int ed, .int dn, .int cp, .int ct])), (ak, .inr (1, [.ref akw, .ref ake, .ref aku, .ref akn, .ref akc, .ref akp, .int (nI kb)])), (akw, .inl (cZ, 100, .inl kw)), (ake, .inl (cI, 100, .inl ke)), (aku, .inl (cI, 100, .inl ku)), (akn, .inl (cI, 100, .inl kn)), (akc, .inl (cL, 1200, .inr (.inl kc))), (akp, .inl (cI, 600, .inl kp)), (ap, .inr (3, [.ref aj, .ref apc, .ref app, .int (nI t)])), (apc, .inl (cL, 12, .inr (.inl cs))), (app, .inl (cI, 6, .inl ps)), (aj, .inr (2, [.ref af, .ref al, .int (nI c), .int (nI f)]))]) [0, 1, 2, 3, 4, 5, 6, 7, 8, 9, 10, 11] (by decide) rfl
      refine W.widen (k := 0) (n := 0) (Nat.le_of_ble_eq_true rfl) (Nat.le_of_ble_eq_true rfl) ?_
      exact W.iret (v := (-1)) hx hb hr (fun t9 ht9 hW9 => ⟨⟨(-1), (kb, kw, ke, ku, kn, kc, kp, dn, cp, ct), rfl, Or.inr (Or.inl ⟨c_4, h1, rfl, rfl, rfl, ⟨rfl, rfl, rfl, rfl, rfl⟩, rfl, rfl⟩), by rw [ht9]; exact hP9, va_K.moved hW9.alike hK, hD9⟩, hS.F ht9⟩) hS.2.2 dX3_check_23
  · refine lv_bipush (v := (-5)) hx hb dX3_check_7 (by decide) ?_
    have hP9 := hP.sub (ws' := [(ax, .inr (4, [.ref aj, .ref ap, .ref ar, .ref arow, .ref ak, .int ed, .int dn, .int cp, .int ct])), (ak, .inr (1, [.ref akw, .ref ake, .ref aku, .ref akn, .ref akc, .ref akp, .int (nI kb)])), (akw, .inl (cZ, 100, .inl kw)), (ake, .inl (cI, 100, .inl ke)), (aku, .inl (cI, 100, .inl ku)), (akn, .inl (cI, 100, .inl kn)), (akc, .inl (cL, 1200, .inr (.inl kc))), (akp, .inl (cI, 600, .inl kp)), (ap, .inr (3, [.ref aj, .ref apc, .ref app, .int (nI t)])), (apc, .inl (cL, 12, .inr (.inl cs))), (app, .inl (cI, 6, .inl ps)), (aj, .inr (2, [.ref af, .ref al, .int (nI c), .int (nI f)]))]) [0, 1, 2, 3, 4, 5, 6, 7, 8, 9, 10, 11] rfl
    have hD9 := hD.sub (ws' := [(ax, .inr (4, [.ref aj, .ref ap, .ref ar, .ref arow, .ref ak, .int ed, .int dn, .int cp, .int ct])), (ak, .inr (1, [.ref akw, .ref ake, .ref aku, .ref akn, .ref akc, .ref akp, .int (nI kb)])), (akw, .inl (cZ, 100, .inl kw)), (ake, .inl (cI, 100, .inl ke)), (aku, .inl (cI, 100, .inl ku)), (akn, .inl (cI, 100, .inl kn)), (akc, .inl (cL, 1200, .inr (.inl kc))), (akp, .inl (cI, 600, .inl kp)), (ap, .inr (3, [.ref aj, .ref apc, .ref app, .int (nI t)])), (apc, .inl (cL, 12, .inr (.inl cs))), (app, .inl (cI, 6, .inl ps)), (aj, .inr (2, [.ref af, .ref al, .int (nI c), .int (nI f)]))]) [0, 1, 2, 3, 4, 5, 6, 7, 8, 9, 10, 11] (by decide) rfl
    refine W.widen (k := 0) (n := 0) (Nat.le_of_ble_eq_true rfl) (Nat.le_of_ble_eq_true rfl) ?_
    exact W.iret (v := (-5)) hx hb hr (fun t9 ht9 hW9 => ⟨⟨(-5), (kb, kw, ke, ku, kn, kc, kp, dn, cp, ct), rfl, Or.inl ⟨c_4, rfl, rfl, rfl, ⟨rfl, rfl, rfl, rfl, rfl⟩, rfl, rfl⟩, by rw [ht9]; exact hP9, va_K.moved hW9.alike hK, hD9⟩, hS.F ht9⟩) hS.2.2 dX3_check_9
abbrev rm_X3_cut : Room := { frames := 1, cells := 0, slots := 0, locals := 20 }
abbrev qc_X3_cut (D : va_G) (cI cL cZ : ClassId) (ax : Nat) (aj : Nat) (ap : Nat) (ar : Nat) (arow : Nat) (ak : Nat) (ed : Int32) (dn : Int32) (cp : Int32) (ct : Int32) (x : Int32) (A : Nat → Prop) : Array Value → State → Outcome → State → Prop := va_Qi (fun (r : Int32) (u : Int32 × Int32 × Int32) => ((if x < 0 ∨ ¬ x ≤ 30 then -4 else 1) = r) ∧ (cu_dn dn x) = u.1 ∧ (cu_cp cp x) = u.2.1) (ct_B D vwCl [(cI, .int), (cL, .long), (cZ, .boolean)] A (fun (u : Int32 × Int32 × Int32) => [(ax, .inr (4, [.ref aj, .ref ap, .ref ar, .ref arow, .ref ak, .int ed, .int u.1, .int u.2.1, .int u.2.2]))])) A
set_option maxHeartbeats 4000000 in
set_option maxRecDepth 100000 in
theorem c_X3_cut (l : Launch) (D : va_G) (cI cL cZ : ClassId) (ax : Nat) (aj : Nat) (ap : Nat) (ar : Nat) (arow : Nat) (ak : Nat) (ed : Int32) (dn : Int32) (cp : Int32) (ct : Int32) (x : Int32) (sz : Nat)  : Met l yX3_cut wsX3_cut rm_X3_cut (va_Pc [.ref ax, .int x] (ct_P D vwCl [(cI, .int), (cL, .long), (cZ, .boolean)] [(ax, .inr (4, [.ref aj, .ref ap, .ref ar, .ref arow, .ref ak, .int ed, .int dn, .int cp, .int ct]))] sz)) (qc_X3_cut D cI cL cZ ax aj ap ar arow ak ed dn cp ct x (va_A [(ax, .inr (4, [.ref aj, .ref ap, .ref ar, .ref arow, .ref ak, .int ed, .int dn, .int cp, .int ct]))] sz)) 0 0 (va_A [(ax, .inr (4, [.ref aj, .ref ap, .ref ar, .ref arow, .ref ak, .int ed, .int dn, .int cp, .int ct]))] sz) := by
  refine Met.ofW (cc := cX3_cut) (maxL := 2) (ret := (some .int)) (by decide) rfl ?_
  intro p e s m args below meth cd s₁ B hml hv
  obtain ⟨rfl, hsz, hP, hK, hD0⟩ := hv
  have hx := B.exec
  have hb := B.bytes
  have hr := B.returns
  have hts := atoms_spec (ws := wsX3_cut) B.pre
  have iX3 : ∀ w ∈ wsX30, w ∈ wsX3_cut := by decide +kernel
  have wf47 := hts (.fieldLink RX3 47 "CheckRestart" "cutPart" "I") (by decide +kernel)
  have hown : s.vm.findClass RX3 = some m.cls := findClass_of_methodNamed B.named
  have hlocks := B.notSynchronized
  subst hsz
  have hD := hD0.self (sz := s.heap.size)
  generalize hAe : va_A [(ax, .inr (4, [.ref aj, .ref ap, .ref ar, .ref arow, .ref ak, .int ed, .int dn, .int cp, .int ct]))] s.heap.size = A at hD ⊢
  have hA : ∀ q : Nat, s.heap.size ≤ q → A q := fun q h => by rw [← hAe]; exact Or.inr h
  have hS : va_S A s.heap s.heap [] := va_S.rf
  have hl := lv_entry ([.ref ax, .int x]) (n := 2) (Nat.le_of_ble_eq_true rfl)
  rw [lg_entry_eq]
  generalize (lg_sl ([.ref ax, .int x]) ++ List.replicate (2 - (lg_sl ([.ref ax, .int x])).length) Slot.unset).toArray = ls at hl ⊢
  have hl : lv_has ls 2 [(0, .ref ax), (1, .int x)] := hl
  refine lv_iload_n hx hb dX3_cut_0 rfl (lv_at hl 1 rfl) ?_
  refine lv_if_lt (tgt := 10) hx hb dX3_cut_1 (by decide) (fun c_1 => ?_) (fun c_1 => ?_)
  · refine lv_bipush (v := (-4)) hx hb dX3_cut_10 (by decide) ?_
    have hP9 := hP.sub (ws' := [(ax, .inr (4, [.ref aj, .ref ap, .ref ar, .ref arow, .ref ak, .int ed, .int dn, .int cp, .int ct]))]) [0] rfl
    have hD9 := hD.sub (ws' := [(ax, .inr (4, [.ref aj, .ref ap, .ref ar, .ref arow, .ref ak, .int ed, .int dn, .int cp, .int ct]))]) [0] (by decide) rfl
    refine W.widen (k := 0) (n := 0) (Nat.le_of_ble_eq_true rfl) (Nat.le_of_ble_eq_true rfl) ?_
    exact W.iret (v := (-4)) hx hb hr (fun t9 ht9 hW9 => ⟨⟨(-4), (dn, cp, ct), rfl, ⟨by rw [if_pos (by first | exact Or.inl c_1 | exact Or.inr c_7)], by unfold cu_dn; rw [if_pos (by first | exact Or.inl c_1 | exact Or.inr c_7)], by unfold cu_cp; rw [if_pos (by first | exact Or.inl c_1 | exact Or.inr c_7)]⟩, by rw [ht9]; exact hP9, va_K.moved hW9.alike hK, hD9⟩, hS.F ht9⟩) hS.2.2 dX3_cut_12
  · refine lv_iload_n hx hb dX3_cut_4 rfl (lv_at hl 1 rfl) ?_
    refine lv_bipush (v := 30) hx hb dX3_cut_5 (by decide) ?_
    refine lv_icmp_le (tgt := 13) hx hb dX3_cut_7 (by decide) (fun c_7 => ?_) (fun c_7 => ?_)
    · refine lv_iload_n hx hb dX3_cut_13 rfl (lv_at hl 1 rfl) ?_
      refine lv_if_ne (tgt := 24) hx hb dX3_cut_14 (by decide) (fun c_14 => ?_) (fun c_14 => ?_)
      · refine lv_aload_n hx hb dX3_cut_24 rfl (lv_at hl 0 rfl) ?_
        refine lv_iload_n hx hb dX3_cut_25 rfl (lv_at hl 1 rfl) ?_
        refine va_put (D := D) (ci := 4) (v := .int x) (ty := .int) (C := RX3) (T := TX3) (N := 9) hx hb hts iX3 tyX3 tyX3_ok nmX3 hown hK hP hD hS 0 rfl rfl 7 (by decide) wf47 (fun _ h9 => h9) rfl (by decide +kernel) rfl rfl (Nat.le_of_ble_eq_true rfl) dX3_cut_26 (fun H locs hP hD hS => ?_)
        have hP : va_P D vwCl [(ax, .inr (4, [.ref aj, .ref ap, .ref ar, .ref arow, .ref ak, .int ed, .int dn, .int x, .int ct]))] H := hP
        have hD : va_D A [(ax, .inr (4, [.ref aj, .ref ap, .ref ar, .ref arow, .ref ak, .int ed, .int dn, .int x, .int ct]))] := hD
        refine lv_iconst (v := 1) hx hb dX3_cut_29 (by decide) ?_
        have hP9 := hP.sub (ws' := [(ax, .inr (4, [.ref aj, .ref ap, .ref ar, .ref arow, .ref ak, .int ed, .int dn, .int x, .int ct]))]) [0] rfl
        have hD9 := hD.sub (ws' := [(ax, .inr (4, [.ref aj, .ref ap, .ref ar, .ref arow, .ref ak, .int ed, .int dn, .int x, .int ct]))]) [0] (by decide) rfl
        refine W.widen (k := 0) (n := 0) (Nat.le_of_ble_eq_true rfl) (Nat.le_of_ble_eq_true rfl) ?_
        exact W.iret (v := 1) hx hb hr (fun t9 ht9 hW9 => ⟨⟨1, (dn, x, ct), rfl, ⟨by rw [if_neg (fun q => q.elim c_1 (fun q => q c_7))], by unfold cu_dn; exact (if_neg (fun q => q.elim c_1 (fun q => q c_7))).trans (by first | rw [if_neg c_14] | rw [if_pos c_14]), by unfold cu_cp; exact (if_neg (fun q => q.elim c_1 (fun q => q c_7))).trans (by first | rfl | exact c_14)⟩, by rw [ht9]; exact hP9, va_K.moved hW9.alike hK, hD9⟩, hS.F ht9⟩) hS.2.2 dX3_cut_30
      · refine lv_aload_n hx hb dX3_cut_17 rfl (lv_at hl 0 rfl) ?_
        refine ct_callv (wr := []) (rest := []) hP hD hS hA [0] [] (va_runV (C := RX3) (As := []) ⟨hx, hb, hml, hown, hts⟩ (c_X3_goDown l D cI cL cZ ax aj ap ar arow ak ed dn cp ct _ ) (cwV 0 hts gX3_cut_X3_goDown rfl rfl rfl (by decide +kernel) ⟨Nat.le_of_ble_eq_true rfl, Nat.le_of_ble_eq_true rfl⟩) (ct_preV (q0 := 0) (ci := 4) hK hP hD [0] (by decide) rfl rfl rfl rfl rfl) rfl rfl hl.1 rfl (lv_room (Nat.le_of_ble_eq_true rfl)) dX3_cut_18 ⟨Nat.le_of_ble_eq_true rfl, Nat.le_of_ble_eq_true rfl⟩) rfl rfl (by decide) (by decide) (fun u H locs hw hP hD hS => ?_)
        try dsimp only at hw
        have hP : va_P D vwCl [(ax, .inr (4, [.ref aj, .ref ap, .ref ar, .ref arow, .ref ak, .int ed, .int 1, .int 0, .int (ct + 1)]))] H := hP
        have hD : va_D A [(ax, .inr (4, [.ref aj, .ref ap, .ref ar, .ref arow, .ref ak, .int ed, .int 1, .int 0, .int (ct + 1)]))] := hD
        refine lv_goto (tgt := 29) hx hb dX3_cut_21 (by decide) ?_
        refine lv_iconst (v := 1) hx hb dX3_cut_29 (by decide) ?_
        have hP9 := hP.sub (ws' := [(ax, .inr (4, [.ref aj, .ref ap, .ref ar, .ref arow, .ref ak, .int ed, .int 1, .int 0, .int (ct + 1)]))]) [0] rfl
        have hD9 := hD.sub (ws' := [(ax, .inr (4, [.ref aj, .ref ap, .ref ar, .ref arow, .ref ak, .int ed, .int 1, .int 0, .int (ct + 1)]))]) [0] (by decide) rfl
        refine W.widen (k := 0) (n := 0) (Nat.le_of_ble_eq_true rfl) (Nat.le_of_ble_eq_true rfl) ?_
        exact W.iret (v := 1) hx hb hr (fun t9 ht9 hW9 => ⟨⟨1, (1, 0, (ct + 1)), rfl, ⟨by rw [if_neg (fun q => q.elim c_1 (fun q => q c_7))], by unfold cu_dn; exact (if_neg (fun q => q.elim c_1 (fun q => q c_7))).trans (by first | rw [if_neg c_14] | rw [if_pos c_14]), by unfold cu_cp; exact (if_neg (fun q => q.elim c_1 (fun q => q c_7))).trans (by first | rfl | exact c_14)⟩, by rw [ht9]; exact hP9, va_K.moved hW9.alike hK, hD9⟩, hS.F ht9⟩) hS.2.2 dX3_cut_30
    · refine lv_bipush (v := (-4)) hx hb dX3_cut_10 (by decide) ?_
      have hP9 := hP.sub (ws' := [(ax, .inr (4, [.ref aj, .ref ap, .ref ar, .ref arow, .ref ak, .int ed, .int dn, .int cp, .int ct]))]) [0] rfl
      have hD9 := hD.sub (ws' := [(ax, .inr (4, [.ref aj, .ref ap, .ref ar, .ref arow, .ref ak, .int ed, .int dn, .int cp, .int ct]))]) [0] (by decide) rfl
      refine W.widen (k := 0) (n := 0) (Nat.le_of_ble_eq_true rfl) (Nat.le_of_ble_eq_true rfl) ?_
      exact W.iret (v := (-4)) hx hb hr (fun t9 ht9 hW9 => ⟨⟨(-4), (dn, cp, ct), rfl, ⟨by rw [if_pos (by first | exact Or.inl c_1 | exact Or.inr c_7)], by unfold cu_dn; rw [if_pos (by first | exact Or.inl c_1 | exact Or.inr c_7)], by unfold cu_cp; rw [if_pos (by first | exact Or.inl c_1 | exact Or.inr c_7)]⟩, by rw [ht9]; exact hP9, va_K.moved hW9.alike hK, hD9⟩, hS.F ht9⟩) hS.2.2 dX3_cut_12
abbrev rm_X3_position : Room := { frames := 1, cells := 0, slots := 0, locals := 21 }
abbrev qc_X3_position (D : va_G) (cI cL cZ : ClassId) (ax : Nat) (aj : Nat) (ap : Nat) (ar : Nat) (arow : Nat) (ak : Nat) (ed : Int32) (dn : Int32) (cp : Int32) (ct : Int32) (af : Nat) (al : Nat) (c : Nat) (f : Nat) (apc : Nat) (app : Nat) (t : Nat) (ps : Nat → Int32) (x : Int32) (A : Nat → Prop) : Array Value → State → Outcome → State → Prop := va_Qi (fun (r : Int32) (u : Unit) => ((if x < 0 ∨ nI f ≤ x then -1 else ps x.toNatClampNeg) = r)) (ct_B D vwCl [(cI, .int), (cL, .long), (cZ, .boolean)] A (fun (u : Unit) => [(ax, .inr (4, [.ref aj, .ref ap, .ref ar, .ref arow, .ref ak, .int ed, .int dn, .int cp, .int ct])), (aj, .inr (2, [.ref af, .ref al, .int (nI c), .int (nI f)])), (ap, .inr (3, [.ref aj, .ref apc, .ref app, .int (nI t)])), (app, .inl (cI, 6, .inl ps))])) A
set_option maxHeartbeats 4000000 in
set_option maxRecDepth 100000 in
theorem c_X3_position (l : Launch) (D : va_G) (cI cL cZ : ClassId) (ax : Nat) (aj : Nat) (ap : Nat) (ar : Nat) (arow : Nat) (ak : Nat) (ed : Int32) (dn : Int32) (cp : Int32) (ct : Int32) (af : Nat) (al : Nat) (c : Nat) (f : Nat) (apc : Nat) (app : Nat) (t : Nat) (ps : Nat → Int32) (x : Int32) (sz : Nat) (hf : f ≤ 6) : Met l yX3_position wsX3_position rm_X3_position (va_Pc [.ref ax, .int x] (ct_P D vwCl [(cI, .int), (cL, .long), (cZ, .boolean)] [(ax, .inr (4, [.ref aj, .ref ap, .ref ar, .ref arow, .ref ak, .int ed, .int dn, .int cp, .int ct])), (aj, .inr (2, [.ref af, .ref al, .int (nI c), .int (nI f)])), (ap, .inr (3, [.ref aj, .ref apc, .ref app, .int (nI t)])), (app, .inl (cI, 6, .inl ps))] sz)) (qc_X3_position D cI cL cZ ax aj ap ar arow ak ed dn cp ct af al c f apc app t ps x (va_A [(ax, .inr (4, [.ref aj, .ref ap, .ref ar, .ref arow, .ref ak, .int ed, .int dn, .int cp, .int ct])), (aj, .inr (2, [.ref af, .ref al, .int (nI c), .int (nI f)])), (ap, .inr (3, [.ref aj, .ref apc, .ref app, .int (nI t)])), (app, .inl (cI, 6, .inl ps))] sz)) 0 0 (va_A [(ax, .inr (4, [.ref aj, .ref ap, .ref ar, .ref arow, .ref ak, .int ed, .int dn, .int cp, .int ct])), (aj, .inr (2, [.ref af, .ref al, .int (nI c), .int (nI f)])), (ap, .inr (3, [.ref aj, .ref apc, .ref app, .int (nI t)])), (app, .inl (cI, 6, .inl ps))] sz) := by
  refine Met.ofW (cc := cX3_position) (maxL := 2) (ret := (some .int)) (by decide) rfl ?_
  intro p e s m args below meth cd s₁ B hml hv
  obtain ⟨rfl, hsz, hP, hK, hD0⟩ := hv
  have hx := B.exec
  have hb := B.bytes
  have hr := B.returns
  have hts := atoms_spec (ws := wsX3_position) B.pre
  have iX3 : ∀ w ∈ wsX30, w ∈ wsX3_position := by decide +kernel
  have wf10 := hts (.fieldLink RX3 10 "CheckRestart" "job" "LCheckRestart$Job;") (by decide +kernel)
  have wf21 := hts (.fieldLink RX3 21 "CheckRestart" "progress" "LCheckRestart$Progress;") (by decide +kernel)
  have iX2 : ∀ w ∈ wsX20, w ∈ wsX3_position := by decide +kernel
  have wf122 := hts (.fieldLink RX3 122 "CheckRestart$Progress" "positions" "[I") (by decide +kernel)
  have hown : s.vm.findClass RX3 = some m.cls := findClass_of_methodNamed B.named
  have hlocks := B.notSynchronized
  subst hsz
  have hD := hD0.self (sz := s.heap.size)
  generalize hAe : va_A [(ax, .inr (4, [.ref aj, .ref ap, .ref ar, .ref arow, .ref ak, .int ed, .int dn, .int cp, .int ct])), (aj, .inr (2, [.ref af, .ref al, .int (nI c), .int (nI f)])), (ap, .inr (3, [.ref aj, .ref apc, .ref app, .int (nI t)])), (app, .inl (cI, 6, .inl ps))] s.heap.size = A at hD ⊢
  have hA : ∀ q : Nat, s.heap.size ≤ q → A q := fun q h => by rw [← hAe]; exact Or.inr h
  have hS : va_S A s.heap s.heap [] := va_S.rf
  have hl := lv_entry ([.ref ax, .int x]) (n := 2) (Nat.le_of_ble_eq_true rfl)
  rw [lg_entry_eq]
  generalize (lg_sl ([.ref ax, .int x]) ++ List.replicate (2 - (lg_sl ([.ref ax, .int x])).length) Slot.unset).toArray = ls at hl ⊢
  have hl : lv_has ls 2 [(0, .ref ax), (1, .int x)] := hl
  refine lv_aload_n hx hb dX3_position_0 rfl (lv_at hl 0 rfl) ?_
  refine va_get (D := D) (ci := 4) (v := .ref aj) (C := RX3) (T := TX3) (N := 9) hx hb hts iX3 hown hK hP 0 rfl rfl 0 (by decide) wf10 (fun _ h9 => h9) rfl dX3_position_1 ?_
  refine lv_iload_n hx hb dX3_position_4 rfl (lv_at hl 1 rfl) ?_
  refine ct_calli (wr := [(ax, .inr (4, [.ref aj, .ref ap, .ref ar, .ref arow, .ref ak, .int ed, .int dn, .int cp, .int ct])), (ap, .inr (3, [.ref aj, .ref apc, .ref app, .int (nI t)])), (app, .inl (cI, 6, .inl ps))]) (rest := []) hP hD hS hA [1] [0, 2, 3] (va_runV (C := RX1) (As := [.int x]) ⟨hx, hb, hml, hown, hts⟩ (c_X1_hasFile l D cI cL cZ aj af al c f x _ ) (cwV 1 hts gX3_position_X1_hasFile rfl rfl rfl (by decide +kernel) ⟨Nat.le_of_ble_eq_true rfl, Nat.le_of_ble_eq_true rfl⟩) (ct_preV (q0 := 0) (ci := 2) hK hP hD [1] (by decide) rfl rfl rfl rfl rfl) rfl rfl hl.1 rfl (lv_room (Nat.le_of_ble_eq_true rfl)) dX3_position_5 ⟨Nat.le_of_ble_eq_true rfl, Nat.le_of_ble_eq_true rfl⟩) rfl rfl (by decide) (by decide) (fun r_1 u H locs hw hP hD hS => ?_)
  try dsimp only at hw
  obtain rfl := hw
  have hP : va_P D vwCl [(ax, .inr (4, [.ref aj, .ref ap, .ref ar, .ref arow, .ref ak, .int ed, .int dn, .int cp, .int ct])), (ap, .inr (3, [.ref aj, .ref apc, .ref app, .int (nI t)])), (app, .inl (cI, 6, .inl ps)), (aj, .inr (2, [.ref af, .ref al, .int (nI c), .int (nI f)]))] H := hP
  have hD : va_D A [(ax, .inr (4, [.ref aj, .ref ap, .ref ar, .ref arow, .ref ak, .int ed, .int dn, .int cp, .int ct])), (ap, .inr (3, [.ref aj, .ref apc, .ref app, .int (nI t)])), (app, .inl (cI, 6, .inl ps)), (aj, .inr (2, [.ref af, .ref al, .int (nI c), .int (nI f)]))] := hD
  refine lv_if_eq (tgt := 23) hx hb dX3_position_8 (by decide) (fun c_8 => ?_) (fun c_8 => ?_)
  · have h0 := cr_if01 _ c_8
    refine lv_iconst (v := (-1)) hx hb dX3_position_23 (by decide) ?_
    have hP9 := hP.sub (ws' := [(ax, .inr (4, [.ref aj, .ref ap, .ref ar, .ref arow, .ref ak, .int ed, .int dn, .int cp, .int ct])), (aj, .inr (2, [.ref af, .ref al, .int (nI c), .int (nI f)])), (ap, .inr (3, [.ref aj, .ref apc, .ref app, .int (nI t)])), (app, .inl (cI, 6, .inl ps))]) [0, 3, 1, 2] rfl
    have hD9 := hD.sub (ws' := [(ax, .inr (4, [.ref aj, .ref ap, .ref ar, .ref arow, .ref ak, .int ed, .int dn, .int cp, .int ct])), (aj, .inr (2, [.ref af, .ref al, .int (nI c), .int (nI f)])), (ap, .inr (3, [.ref aj, .ref apc, .ref app, .int (nI t)])), (app, .inl (cI, 6, .inl ps))]) [0, 3, 1, 2] (by decide) rfl
    refine W.widen (k := 0) (n := 0) (Nat.le_of_ble_eq_true rfl) (Nat.le_of_ble_eq_true rfl) ?_
    exact W.iret (v := (-1)) hx hb hr (fun t9 ht9 hW9 => ⟨⟨(-1), (), rfl, by rw [if_pos h0], by rw [ht9]; exact hP9, va_K.moved hW9.alike hK, hD9⟩, hS.F ht9⟩) hS.2.2 dX3_position_24
  · have h0 := cr_if01n _ c_8
    obtain ⟨k, hk, hxk⟩ := cr_ix (by omega) h0
    refine lv_aload_n hx hb dX3_position_11 rfl (lv_at hl 0 rfl) ?_
    refine va_get (D := D) (ci := 4) (v := .ref ap) (C := RX3) (T := TX3) (N := 9) hx hb hts iX3 hown hK hP 0 rfl rfl 1 (by decide) wf21 (fun _ h9 => h9) rfl dX3_position_12 ?_
    refine va_get (D := D) (ci := 3) (v := .ref app) (C := RX2) (T := TX2) (N := 4) hx hb hts iX2 hown hK hP 1 rfl rfl 2 (by decide) wf122 (fun _ h9 => h9) rfl dX3_position_15 ?_
    refine lv_iload_n hx hb dX3_position_18 rfl (lv_at hl 1 rfl) ?_
    refine ct_topi (y := (nI k)) (hxk) ?_
    refine ct_iald (k := k) hx hb hK hP 2 0 rfl rfl (by omega) (by decide) dX3_position_19 ?_
    refine lv_goto (tgt := 24) hx hb dX3_position_20 (by decide) ?_
    have hP9 := hP.sub (ws' := [(ax, .inr (4, [.ref aj, .ref ap, .ref ar, .ref arow, .ref ak, .int ed, .int dn, .int cp, .int ct])), (aj, .inr (2, [.ref af, .ref al, .int (nI c), .int (nI f)])), (ap, .inr (3, [.ref aj, .ref apc, .ref app, .int (nI t)])), (app, .inl (cI, 6, .inl ps))]) [0, 3, 1, 2] rfl
    have hD9 := hD.sub (ws' := [(ax, .inr (4, [.ref aj, .ref ap, .ref ar, .ref arow, .ref ak, .int ed, .int dn, .int cp, .int ct])), (aj, .inr (2, [.ref af, .ref al, .int (nI c), .int (nI f)])), (ap, .inr (3, [.ref aj, .ref apc, .ref app, .int (nI t)])), (app, .inl (cI, 6, .inl ps))]) [0, 3, 1, 2] (by decide) rfl
    refine W.widen (k := 0) (n := 0) (Nat.le_of_ble_eq_true rfl) (Nat.le_of_ble_eq_true rfl) ?_
    exact W.iret (v := (ps k)) hx hb hr (fun t9 ht9 hW9 => ⟨⟨(ps k), (), rfl, by rw [if_neg h0, hxk, nI_clamp (by omega)], by rw [ht9]; exact hP9, va_K.moved hW9.alike hK, hD9⟩, hS.F ht9⟩) hS.2.2 dX3_position_24
abbrev rm_X3_grow : Room := { frames := 1, cells := 0, slots := 0, locals := 21 }
abbrev qc_X3_grow (D : va_G) (cI cL cZ : ClassId) (ax : Nat) (aj : Nat) (ap : Nat) (ar : Nat) (arow : Nat) (ak : Nat) (ed : Int32) (dn : Int32) (cp : Int32) (ct : Int32) (af : Nat) (al : Nat) (c : Nat) (f : Nat) (ln : Nat → Int32) (x : Int32) (n : Int32) (A : Nat → Prop) : Array Value → State → Outcome → State → Prop := va_Qi (fun (r : Int32) (u : (Nat → Int32)) => (gr_r f ln x n) = r ∧ (gr_l f ln x n) = u) (ct_B D vwCl [(cI, .int), (cL, .long), (cZ, .boolean)] A (fun (u : (Nat → Int32)) => [(ax, .inr (4, [.ref aj, .ref ap, .ref ar, .ref arow, .ref ak, .int ed, .int dn, .int cp, .int ct])), (aj, .inr (2, [.ref af, .ref al, .int (nI c), .int (nI f)])), (al, .inl (cI, 6, .inl u))])) A
set_option maxHeartbeats 4000000 in
set_option maxRecDepth 100000 in
theorem c_X3_grow (l : Launch) (D : va_G) (cI cL cZ : ClassId) (ax : Nat) (aj : Nat) (ap : Nat) (ar : Nat) (arow : Nat) (ak : Nat) (ed : Int32) (dn : Int32) (cp : Int32) (ct : Int32) (af : Nat) (al : Nat) (c : Nat) (f : Nat) (ln : Nat → Int32) (x : Int32) (n : Int32) (sz : Nat) (hf : f ≤ 6) : Met l yX3_grow wsX3_grow rm_X3_grow (va_Pc [.ref ax, .int x, .int n] (ct_P D vwCl [(cI, .int), (cL, .long), (cZ, .boolean)] [(ax, .inr (4, [.ref aj, .ref ap, .ref ar, .ref arow, .ref ak, .int ed, .int dn, .int cp, .int ct])), (aj, .inr (2, [.ref af, .ref al, .int (nI c), .int (nI f)])), (al, .inl (cI, 6, .inl ln))] sz)) (qc_X3_grow D cI cL cZ ax aj ap ar arow ak ed dn cp ct af al c f ln x n (va_A [(ax, .inr (4, [.ref aj, .ref ap, .ref ar, .ref arow, .ref ak, .int ed, .int dn, .int cp, .int ct])), (aj, .inr (2, [.ref af, .ref al, .int (nI c), .int (nI f)])), (al, .inl (cI, 6, .inl ln))] sz)) 0 0 (va_A [(ax, .inr (4, [.ref aj, .ref ap, .ref ar, .ref arow, .ref ak, .int ed, .int dn, .int cp, .int ct])), (aj, .inr (2, [.ref af, .ref al, .int (nI c), .int (nI f)])), (al, .inl (cI, 6, .inl ln))] sz) := by
  refine Met.ofW (cc := cX3_grow) (maxL := 5) (ret := (some .int)) (by decide) rfl ?_
  intro p e s m args below meth cd s₁ B hml hv
  obtain ⟨rfl, hsz, hP, hK, hD0⟩ := hv
  have hx := B.exec
  have hb := B.bytes
  have hr := B.returns
  have hts := atoms_spec (ws := wsX3_grow) B.pre
  have iX3 : ∀ w ∈ wsX30, w ∈ wsX3_grow := by decide +kernel
  have wf10 := hts (.fieldLink RX3 10 "CheckRestart" "job" "LCheckRestart$Job;") (by decide +kernel)
  have iX1 : ∀ w ∈ wsX10, w ∈ wsX3_grow := by decide +kernel
  have wf69 := hts (.fieldLink RX3 69 "CheckRestart$Job" "lengths" "[I") (by decide +kernel)
  have wk125 := hts (.constantLong RX3 125 2000) (by decide +kernel)
  have hown : s.vm.findClass RX3 = some m.cls := findClass_of_methodNamed B.named
  have hlocks := B.notSynchronized
  subst hsz
  have hD := hD0.self (sz := s.heap.size)
  generalize hAe : va_A [(ax, .inr (4, [.ref aj, .ref ap, .ref ar, .ref arow, .ref ak, .int ed, .int dn, .int cp, .int ct])), (aj, .inr (2, [.ref af, .ref al, .int (nI c), .int (nI f)])), (al, .inl (cI, 6, .inl ln))] s.heap.size = A at hD ⊢
  have hA : ∀ q : Nat, s.heap.size ≤ q → A q := fun q h => by rw [← hAe]; exact Or.inr h
  have hS : va_S A s.heap s.heap [] := va_S.rf
  have hl := lv_entry ([.ref ax, .int x, .int n]) (n := 5) (Nat.le_of_ble_eq_true rfl)
  rw [lg_entry_eq]
  generalize (lg_sl ([.ref ax, .int x, .int n]) ++ List.replicate (5 - (lg_sl ([.ref ax, .int x, .int n])).length) Slot.unset).toArray = ls at hl ⊢
  have hl : lv_has ls 5 [(0, .ref ax), (1, .int x), (2, .int n)] := hl
  refine lv_aload_n hx hb dX3_grow_0 rfl (lv_at hl 0 rfl) ?_
  refine va_get (D := D) (ci := 4) (v := .ref aj) (C := RX3) (T := TX3) (N := 9) hx hb hts iX3 hown hK hP 0 rfl rfl 0 (by decide) wf10 (fun _ h9 => h9) rfl dX3_grow_1 ?_
  refine lv_iload_n hx hb dX3_grow_4 rfl (lv_at hl 1 rfl) ?_
  refine ct_calli (wr := [(ax, .inr (4, [.ref aj, .ref ap, .ref ar, .ref arow, .ref ak, .int ed, .int dn, .int cp, .int ct])), (al, .inl (cI, 6, .inl ln))]) (rest := []) hP hD hS hA [1] [0, 2] (va_runV (C := RX1) (As := [.int x]) ⟨hx, hb, hml, hown, hts⟩ (c_X1_hasFile l D cI cL cZ aj af al c f x _ ) (cwV 1 hts gX3_grow_X1_hasFile rfl rfl rfl (by decide +kernel) ⟨Nat.le_of_ble_eq_true rfl, Nat.le_of_ble_eq_true rfl⟩) (ct_preV (q0 := 0) (ci := 2) hK hP hD [1] (by decide) rfl rfl rfl rfl rfl) rfl rfl hl.1 rfl (lv_room (Nat.le_of_ble_eq_true rfl)) dX3_grow_5 ⟨Nat.le_of_ble_eq_true rfl, Nat.le_of_ble_eq_true rfl⟩) rfl rfl (by decide) (by decide) (fun r_1 u H locs hw hP hD hS => ?_)
  try dsimp only at hw
  obtain rfl := hw
  have hP : va_P D vwCl [(ax, .inr (4, [.ref aj, .ref ap, .ref ar, .ref arow, .ref ak, .int ed, .int dn, .int cp, .int ct])), (al, .inl (cI, 6, .inl ln)), (aj, .inr (2, [.ref af, .ref al, .int (nI c), .int (nI f)]))] H := hP
  have hD : va_D A [(ax, .inr (4, [.ref aj, .ref ap, .ref ar, .ref arow, .ref ak, .int ed, .int dn, .int cp, .int ct])), (al, .inl (cI, 6, .inl ln)), (aj, .inr (2, [.ref af, .ref al, .int (nI c), .int (nI f)]))] := hD
  refine lv_if_ne (tgt := 13) hx hb dX3_grow_8 (by decide) (fun c_8 => ?_) (fun c_8 => ?_)
  · have h0 := cr_if01n _ c_8
    obtain ⟨k, hk, hxk⟩ := cr_ix (by omega) h0
    have hkc : x.toNatClampNeg = k := by rw [hxk, nI_clamp (by omega)]
    refine lv_aload_n hx hb dX3_grow_13 rfl (lv_at hl 0 rfl) ?_
    refine va_get (D := D) (ci := 4) (v := .ref aj) (C := RX3) (T := TX3) (N := 9) hx hb hts iX3 hown hK hP 0 rfl rfl 0 (by decide) wf10 (fun _ h9 => h9) rfl dX3_grow_14 ?_
    refine va_get (D := D) (ci := 2) (v := .ref al) (C := RX1) (T := TX1) (N := 4) hx hb hts iX1 hown hK hP 2 rfl rfl 1 (by decide) wf69 (fun _ h9 => h9) rfl dX3_grow_17 ?_
    refine lv_iload_n hx hb dX3_grow_20 rfl (lv_at hl 1 rfl) ?_
    refine ct_topi (y := (nI k)) (hxk) ?_
    refine ct_iald (k := k) hx hb hK hP 1 0 rfl rfl (by omega) (by decide) dX3_grow_21 ?_
    refine lv_i2l hx hb dX3_grow_22 rfl ?_
    refine lv_iload_n hx hb dX3_grow_23 rfl (lv_at hl 2 rfl) ?_
    refine lv_i2l hx hb dX3_grow_24 rfl ?_
    refine lv_ladd hx hb dX3_grow_25 ?_
    refine lv_lstore_n (lv' := [(3, .long (((ln k).toInt64) + n.toInt64)), (0, .ref ax), (1, .int x), (2, .int n)]) hx hb dX3_grow_26 rfl hl (by decide) rfl (fun ls hl => ?_)
    refine lv_lload_n hx hb dX3_grow_27 rfl (lv_at hl 0 rfl) ?_
    refine lv_lconst (v := 0) hx hb dX3_grow_28 (by decide) ?_
    refine W.lcmp hx hb dX3_grow_29 ?_
    refine lv_if_lt (tgt := 41) hx hb dX3_grow_30 (by decide) (fun c_30 => ?_) (fun c_30 => ?_)
    · refine lv_bipush (v := (-4)) hx hb dX3_grow_41 (by decide) ?_
      have hb4 : gr_v ln x.toNatClampNeg n < 0 ∨ 2000 < gr_v ln x.toNatClampNeg n := by
        rw [hkc]
        first | exact Or.inl (cr_cmplt.mp c_30) | exact Or.inr (cr_cmpgt.mp c_38)
      have hP9 := hP.sub (ws' := [(ax, .inr (4, [.ref aj, .ref ap, .ref ar, .ref arow, .ref ak, .int ed, .int dn, .int cp, .int ct])), (aj, .inr (2, [.ref af, .ref al, .int (nI c), .int (nI f)])), (al, .inl (cI, 6, .inl ln))]) [0, 2, 1] rfl
      have hD9 := hD.sub (ws' := [(ax, .inr (4, [.ref aj, .ref ap, .ref ar, .ref arow, .ref ak, .int ed, .int dn, .int cp, .int ct])), (aj, .inr (2, [.ref af, .ref al, .int (nI c), .int (nI f)])), (al, .inl (cI, 6, .inl ln))]) [0, 2, 1] (by decide) rfl
      refine W.widen (k := 0) (n := 0) (Nat.le_of_ble_eq_true rfl) (Nat.le_of_ble_eq_true rfl) ?_
      exact W.iret (v := (-4)) hx hb hr (fun t9 ht9 hW9 => ⟨⟨(-4), (ln), rfl, ⟨by unfold gr_r; rw [if_neg h0, if_pos hb4], by unfold gr_l; rw [if_neg h0, if_pos hb4]⟩, by rw [ht9]; exact hP9, va_K.moved hW9.alike hK, hD9⟩, hS.F ht9⟩) hS.2.2 dX3_grow_43
    · refine lv_lload_n hx hb dX3_grow_33 rfl (lv_at hl 0 rfl) ?_
      refine lv_ldc2 (v := 2000) hx hb hown wk125 dX3_grow_34 ?_
      refine W.lcmp hx hb dX3_grow_37 ?_
      refine lv_if_le (tgt := 44) hx hb dX3_grow_38 (by decide) (fun c_38 => ?_) (fun c_38 => ?_)
      · refine lv_aload_n hx hb dX3_grow_44 rfl (lv_at hl 1 rfl) ?_
        refine va_get (D := D) (ci := 4) (v := .ref aj) (C := RX3) (T := TX3) (N := 9) hx hb hts iX3 hown hK hP 0 rfl rfl 0 (by decide) wf10 (fun _ h9 => h9) rfl dX3_grow_45 ?_
        refine va_get (D := D) (ci := 2) (v := .ref al) (C := RX1) (T := TX1) (N := 4) hx hb hts iX1 hown hK hP 2 rfl rfl 1 (by decide) wf69 (fun _ h9 => h9) rfl dX3_grow_48 ?_
        refine lv_iload_n hx hb dX3_grow_51 rfl (lv_at hl 2 rfl) ?_
        refine ct_topi (y := (nI k)) (hxk) ?_
        refine lv_lload_n hx hb dX3_grow_52 rfl (lv_at hl 0 rfl) ?_
        refine lv_l2i hx hb dX3_grow_53 rfl ?_
        refine ct_iast (k := k) hx hb hK hP hD hS 1 0 rfl rfl (by omega) (by decide) dX3_grow_54 (fun H locs hP hD hS => ?_)
        have hP : va_P D vwCl [(ax, .inr (4, [.ref aj, .ref ap, .ref ar, .ref arow, .ref ak, .int ed, .int dn, .int cp, .int ct])), (al, .inl (cI, 6, .inl (upd ln k ((((ln k).toInt64) + n.toInt64).toInt32)))), (aj, .inr (2, [.ref af, .ref al, .int (nI c), .int (nI f)]))] H := hP
        have hD : va_D A [(ax, .inr (4, [.ref aj, .ref ap, .ref ar, .ref arow, .ref ak, .int ed, .int dn, .int cp, .int ct])), (al, .inl (cI, 6, .inl (upd ln k ((((ln k).toInt64) + n.toInt64).toInt32)))), (aj, .inr (2, [.ref af, .ref al, .int (nI c), .int (nI f)]))] := hD
        refine lv_aload_n hx hb dX3_grow_55 rfl (lv_at hl 1 rfl) ?_
        refine va_get (D := D) (ci := 4) (v := .ref aj) (C := RX3) (T := TX3) (N := 9) hx hb hts iX3 hown hK hP 0 rfl rfl 0 (by decide) wf10 (fun _ h9 => h9) rfl dX3_grow_56 ?_
        refine va_get (D := D) (ci := 2) (v := .ref al) (C := RX1) (T := TX1) (N := 4) hx hb hts iX1 hown hK hP 2 rfl rfl 1 (by decide) wf69 (fun _ h9 => h9) rfl dX3_grow_59 ?_
        refine lv_iload_n hx hb dX3_grow_62 rfl (lv_at hl 2 rfl) ?_
        refine ct_topi (y := (nI k)) (hxk) ?_
        refine ct_iald (k := k) hx hb hK hP 1 0 rfl rfl (by omega) (by decide) dX3_grow_63 ?_
        have hb4 : ¬ (gr_v ln x.toNatClampNeg n < 0 ∨ 2000 < gr_v ln x.toNatClampNeg n) := by
          rw [hkc]
          exact fun q => q.elim (fun q => c_30 (cr_cmplt.mpr q)) (fun q => cr_cmpgt_not c_38 q)
        have hP9 := hP.sub (ws' := [(ax, .inr (4, [.ref aj, .ref ap, .ref ar, .ref arow, .ref ak, .int ed, .int dn, .int cp, .int ct])), (aj, .inr (2, [.ref af, .ref al, .int (nI c), .int (nI f)])), (al, .inl (cI, 6, .inl (upd ln k ((((ln k).toInt64) + n.toInt64).toInt32))))]) [0, 2, 1] rfl
        have hD9 := hD.sub (ws' := [(ax, .inr (4, [.ref aj, .ref ap, .ref ar, .ref arow, .ref ak, .int ed, .int dn, .int cp, .int ct])), (aj, .inr (2, [.ref af, .ref al, .int (nI c), .int (nI f)])), (al, .inl (cI, 6, .inl (upd ln k ((((ln k).toInt64) + n.toInt64).toInt32))))]) [0, 2, 1] (by decide) rfl
        refine W.widen (k := 0) (n := 0) (Nat.le_of_ble_eq_true rfl) (Nat.le_of_ble_eq_true rfl) ?_
        exact W.iret (v := ((upd ln k ((((ln k).toInt64) + n.toInt64).toInt32)) k)) hx hb hr (fun t9 ht9 hW9 => ⟨⟨((upd ln k ((((ln k).toInt64) + n.toInt64).toInt32)) k), ((upd ln k ((((ln k).toInt64) + n.toInt64).toInt32))), rfl, ⟨by unfold gr_r; rw [if_neg h0, if_neg hb4, hkc]; simp [upd, gr_v], by unfold gr_l; rw [if_neg h0, if_neg hb4, hkc]; rfl⟩, by rw [ht9]; exact hP9, va_K.moved hW9.alike hK, hD9⟩, hS.F ht9⟩) hS.2.2 dX3_grow_64
      · refine lv_bipush (v := (-4)) hx hb dX3_grow_41 (by decide) ?_
        have hb4 : gr_v ln x.toNatClampNeg n < 0 ∨ 2000 < gr_v ln x.toNatClampNeg n := by
          rw [hkc]
          first | exact Or.inl (cr_cmplt.mp c_30) | exact Or.inr (cr_cmpgt.mp c_38)
        have hP9 := hP.sub (ws' := [(ax, .inr (4, [.ref aj, .ref ap, .ref ar, .ref arow, .ref ak, .int ed, .int dn, .int cp, .int ct])), (aj, .inr (2, [.ref af, .ref al, .int (nI c), .int (nI f)])), (al, .inl (cI, 6, .inl ln))]) [0, 2, 1] rfl
        have hD9 := hD.sub (ws' := [(ax, .inr (4, [.ref aj, .ref ap, .ref ar, .ref arow, .ref ak, .int ed, .int dn, .int cp, .int ct])), (aj, .inr (2, [.ref af, .ref al, .int (nI c), .int (nI f)])), (al, .inl (cI, 6, .inl ln))]) [0, 2, 1] (by decide) rfl
        refine W.widen (k := 0) (n := 0) (Nat.le_of_ble_eq_true rfl) (Nat.le_of_ble_eq_true rfl) ?_
        exact W.iret (v := (-4)) hx hb hr (fun t9 ht9 hW9 => ⟨⟨(-4), (ln), rfl, ⟨by unfold gr_r; rw [if_neg h0, if_pos hb4], by unfold gr_l; rw [if_neg h0, if_pos hb4]⟩, by rw [ht9]; exact hP9, va_K.moved hW9.alike hK, hD9⟩, hS.F ht9⟩) hS.2.2 dX3_grow_43
  · have h0 := cr_if01 _ c_8
    refine lv_iconst (v := (-1)) hx hb dX3_grow_11 (by decide) ?_
    have hP9 := hP.sub (ws' := [(ax, .inr (4, [.ref aj, .ref ap, .ref ar, .ref arow, .ref ak, .int ed, .int dn, .int cp, .int ct])), (aj, .inr (2, [.ref af, .ref al, .int (nI c), .int (nI f)])), (al, .inl (cI, 6, .inl ln))]) [0, 2, 1] rfl
    have hD9 := hD.sub (ws' := [(ax, .inr (4, [.ref aj, .ref ap, .ref ar, .ref arow, .ref ak, .int ed, .int dn, .int cp, .int ct])), (aj, .inr (2, [.ref af, .ref al, .int (nI c), .int (nI f)])), (al, .inl (cI, 6, .inl ln))]) [0, 2, 1] (by decide) rfl
    refine W.widen (k := 0) (n := 0) (Nat.le_of_ble_eq_true rfl) (Nat.le_of_ble_eq_true rfl) ?_
    exact W.iret (v := (-1)) hx hb hr (fun t9 ht9 hW9 => ⟨⟨(-1), (ln), rfl, ⟨by unfold gr_r; rw [if_pos h0], by unfold gr_l; rw [if_pos h0]⟩, by rw [ht9]; exact hP9, va_K.moved hW9.alike hK, hD9⟩, hS.F ht9⟩) hS.2.2 dX3_grow_12
abbrev rm_X3_edition : Room := { frames := 0, cells := 0, slots := 0, locals := 0 }
abbrev qc_X3_edition (D : va_G) (cI cL cZ : ClassId) (ax : Nat) (aj : Nat) (ap : Nat) (ar : Nat) (arow : Nat) (ak : Nat) (ed : Int32) (dn : Int32) (cp : Int32) (ct : Int32) (x : Int32) (A : Nat → Prop) : Array Value → State → Outcome → State → Prop := va_Qi (fun (r : Int32) (u : Unit) => ed = r) (ct_B D vwCl [(cI, .int), (cL, .long), (cZ, .boolean)] A (fun (u : Unit) => [(ax, .inr (4, [.ref aj, .ref ap, .ref ar, .ref arow, .ref ak, .int x, .int dn, .int cp, .int ct]))])) A
set_option maxHeartbeats 4000000 in
set_option maxRecDepth 100000 in
theorem c_X3_edition (l : Launch) (D : va_G) (cI cL cZ : ClassId) (ax : Nat) (aj : Nat) (ap : Nat) (ar : Nat) (arow : Nat) (ak : Nat) (ed : Int32) (dn : Int32) (cp : Int32) (ct : Int32) (x : Int32) (sz : Nat)  : Met l yX3_edition wsX3_edition rm_X3_edition (va_Pc [.ref ax, .int x] (ct_P D vwCl [(cI, .int), (cL, .long), (cZ, .boolean)] [(ax, .inr (4, [.ref aj, .ref ap, .ref ar, .ref arow, .ref ak, .int ed, .int dn, .int cp, .int ct]))] sz)) (qc_X3_edition D cI cL cZ ax aj ap ar arow ak ed dn cp ct x (va_A [(ax, .inr (4, [.ref aj, .ref ap, .ref ar, .ref arow, .ref ak, .int ed, .int dn, .int cp, .int ct]))] sz)) 0 0 (va_A [(ax, .inr (4, [.ref aj, .ref ap, .ref ar, .ref arow, .ref ak, .int ed, .int dn, .int cp, .int ct]))] sz) := by
  refine Met.ofW (cc := cX3_edition) (maxL := 3) (ret := (some .int)) (by decide) rfl ?_
  intro p e s m args below meth cd s₁ B hml hv
  obtain ⟨rfl, hsz, hP, hK, hD0⟩ := hv
  have hx := B.exec
  have hb := B.bytes
  have hr := B.returns
  have hts := atoms_spec (ws := wsX3_edition) B.pre
  have iX3 : ∀ w ∈ wsX30, w ∈ wsX3_edition := by decide +kernel
  have wf39 := hts (.fieldLink RX3 39 "CheckRestart" "editionNow" "I") (by decide +kernel)
  have hown : s.vm.findClass RX3 = some m.cls := findClass_of_methodNamed B.named
  have hlocks := B.notSynchronized
  subst hsz
  have hD := hD0.self (sz := s.heap.size)
  generalize hAe : va_A [(ax, .inr (4, [.ref aj, .ref ap, .ref ar, .ref arow, .ref ak, .int ed, .int dn, .int cp, .int ct]))] s.heap.size = A at hD ⊢
  have hA : ∀ q : Nat, s.heap.size ≤ q → A q := fun q h => by rw [← hAe]; exact Or.inr h
  have hS : va_S A s.heap s.heap [] := va_S.rf
  have hl := lv_entry ([.ref ax, .int x]) (n := 3) (Nat.le_of_ble_eq_true rfl)
  rw [lg_entry_eq]
  generalize (lg_sl ([.ref ax, .int x]) ++ List.replicate (3 - (lg_sl ([.ref ax, .int x])).length) Slot.unset).toArray = ls at hl ⊢
  have hl : lv_has ls 3 [(0, .ref ax), (1, .int x)] := hl
  refine lv_aload_n hx hb dX3_edition_0 rfl (lv_at hl 0 rfl) ?_
  refine va_get (D := D) (ci := 4) (v := .int ed) (C := RX3) (T := TX3) (N := 9) hx hb hts iX3 hown hK hP 0 rfl rfl 5 (by decide) wf39 (fun _ h9 => h9) rfl dX3_edition_1 ?_
  refine lv_istore_n (lv' := [(2, .int ed), (0, .ref ax), (1, .int x)]) hx hb dX3_edition_4 rfl hl (by decide) rfl (fun ls hl => ?_)
  refine lv_aload_n hx hb dX3_edition_5 rfl (lv_at hl 1 rfl) ?_
  refine lv_iload_n hx hb dX3_edition_6 rfl (lv_at hl 2 rfl) ?_
  refine va_put (D := D) (ci := 4) (v := .int x) (ty := .int) (C := RX3) (T := TX3) (N := 9) hx hb hts iX3 tyX3 tyX3_ok nmX3 hown hK hP hD hS 0 rfl rfl 5 (by decide) wf39 (fun _ h9 => h9) rfl (by decide +kernel) rfl rfl (Nat.le_of_ble_eq_true rfl) dX3_edition_7 (fun H locs hP hD hS => ?_)
  have hP : va_P D vwCl [(ax, .inr (4, [.ref aj, .ref ap, .ref ar, .ref arow, .ref ak, .int x, .int dn, .int cp, .int ct]))] H := hP
  have hD : va_D A [(ax, .inr (4, [.ref aj, .ref ap, .ref ar, .ref arow, .ref ak, .int x, .int dn, .int cp, .int ct]))] := hD
  refine lv_iload_n hx hb dX3_edition_10 rfl (lv_at hl 0 rfl) ?_
  have hP9 := hP.sub (ws' := [(ax, .inr (4, [.ref aj, .ref ap, .ref ar, .ref arow, .ref ak, .int x, .int dn, .int cp, .int ct]))]) [0] rfl
  have hD9 := hD.sub (ws' := [(ax, .inr (4, [.ref aj, .ref ap, .ref ar, .ref arow, .ref ak, .int x, .int dn, .int cp, .int ct]))]) [0] (by decide) rfl
  refine W.widen (k := 0) (n := 0) (Nat.le_of_ble_eq_true rfl) (Nat.le_of_ble_eq_true rfl) ?_
  exact W.iret (v := ed) hx hb hr (fun t9 ht9 hW9 => ⟨⟨ed, (), rfl, by first | rfl | (simp []; done), by rw [ht9]; exact hP9, va_K.moved hW9.alike hK, hD9⟩, hS.F ht9⟩) hS.2.2 dX3_edition_11
abbrev rm_X3_output : Room := { frames := 1, cells := 0, slots := 0, locals := 21 }
abbrev qc_X3_output (D : va_G) (cI cL cZ : ClassId) (ax : Nat) (aj : Nat) (ap : Nat) (ar : Nat) (arow : Nat) (ak : Nat) (ed : Int32) (dn : Int32) (cp : Int32) (ct : Int32) (apc : Nat) (app : Nat) (t : Nat) (ro : Nat → Int64) (x : Int32) (A : Nat → Prop) : Array Value → State → Outcome → State → Prop := va_Qi (fun (r : Int32) (u : Unit) => ((if x < 0 ∨ nI t ≤ x then 0 else (ro x.toNatClampNeg).toInt32) = r)) (ct_B D vwCl [(cI, .int), (cL, .long), (cZ, .boolean)] A (fun (u : Unit) => [(ax, .inr (4, [.ref aj, .ref ap, .ref ar, .ref arow, .ref ak, .int ed, .int dn, .int cp, .int ct])), (ap, .inr (3, [.ref aj, .ref apc, .ref app, .int (nI t)])), (arow, .inl (cL, 5000, .inr (.inl ro)))])) A
set_option maxHeartbeats 4000000 in
set_option maxRecDepth 100000 in
theorem c_X3_output (l : Launch) (D : va_G) (cI cL cZ : ClassId) (ax : Nat) (aj : Nat) (ap : Nat) (ar : Nat) (arow : Nat) (ak : Nat) (ed : Int32) (dn : Int32) (cp : Int32) (ct : Int32) (apc : Nat) (app : Nat) (t : Nat) (ro : Nat → Int64) (x : Int32) (sz : Nat) (ht : t ≤ 5000) : Met l yX3_output wsX3_output rm_X3_output (va_Pc [.ref ax, .int x] (ct_P D vwCl [(cI, .int), (cL, .long), (cZ, .boolean)] [(ax, .inr (4, [.ref aj, .ref ap, .ref ar, .ref arow, .ref ak, .int ed, .int dn, .int cp, .int ct])), (ap, .inr (3, [.ref aj, .ref apc, .ref app, .int (nI t)])), (arow, .inl (cL, 5000, .inr (.inl ro)))] sz)) (qc_X3_output D cI cL cZ ax aj ap ar arow ak ed dn cp ct apc app t ro x (va_A [(ax, .inr (4, [.ref aj, .ref ap, .ref ar, .ref arow, .ref ak, .int ed, .int dn, .int cp, .int ct])), (ap, .inr (3, [.ref aj, .ref apc, .ref app, .int (nI t)])), (arow, .inl (cL, 5000, .inr (.inl ro)))] sz)) 0 0 (va_A [(ax, .inr (4, [.ref aj, .ref ap, .ref ar, .ref arow, .ref ak, .int ed, .int dn, .int cp, .int ct])), (ap, .inr (3, [.ref aj, .ref apc, .ref app, .int (nI t)])), (arow, .inl (cL, 5000, .inr (.inl ro)))] sz) := by
  refine Met.ofW (cc := cX3_output) (maxL := 2) (ret := (some .int)) (by decide) rfl ?_
  intro p e s m args below meth cd s₁ B hml hv
  obtain ⟨rfl, hsz, hP, hK, hD0⟩ := hv
  have hx := B.exec
  have hb := B.bytes
  have hr := B.returns
  have hts := atoms_spec (ws := wsX3_output) B.pre
  have iX3 : ∀ w ∈ wsX30, w ∈ wsX3_output := by decide +kernel
  have wf28 := hts (.fieldLink RX3 28 "CheckRestart" "rows" "[J") (by decide +kernel)
  have hown : s.vm.findClass RX3 = some m.cls := findClass_of_methodNamed B.named
  have hlocks := B.notSynchronized
  subst hsz
  have hD := hD0.self (sz := s.heap.size)
  generalize hAe : va_A [(ax, .inr (4, [.ref aj, .ref ap, .ref ar, .ref arow, .ref ak, .int ed, .int dn, .int cp, .int ct])), (ap, .inr (3, [.ref aj, .ref apc, .ref app, .int (nI t)])), (arow, .inl (cL, 5000, .inr (.inl ro)))] s.heap.size = A at hD ⊢
  have hA : ∀ q : Nat, s.heap.size ≤ q → A q := fun q h => by rw [← hAe]; exact Or.inr h
  have hS : va_S A s.heap s.heap [] := va_S.rf
  have hl := lv_entry ([.ref ax, .int x]) (n := 2) (Nat.le_of_ble_eq_true rfl)
  rw [lg_entry_eq]
  generalize (lg_sl ([.ref ax, .int x]) ++ List.replicate (2 - (lg_sl ([.ref ax, .int x])).length) Slot.unset).toArray = ls at hl ⊢
  have hl : lv_has ls 2 [(0, .ref ax), (1, .int x)] := hl
  refine lv_aload_n hx hb dX3_output_0 rfl (lv_at hl 0 rfl) ?_
  refine lv_iload_n hx hb dX3_output_1 rfl (lv_at hl 1 rfl) ?_
  refine ct_calli (wr := [(arow, .inl (cL, 5000, .inr (.inl ro)))]) (rest := []) hP hD hS hA [0, 1] [2] (va_runV (C := RX3) (As := [.int x]) ⟨hx, hb, hml, hown, hts⟩ (c_X3_hasRow l D cI cL cZ ax aj ap ar arow ak ed dn cp ct apc app t x _ ) (cwV 1 hts gX3_output_X3_hasRow rfl rfl rfl (by decide +kernel) ⟨Nat.le_of_ble_eq_true rfl, Nat.le_of_ble_eq_true rfl⟩) (ct_preV (q0 := 0) (ci := 4) hK hP hD [0, 1] (by decide) rfl rfl rfl rfl rfl) rfl rfl hl.1 rfl (lv_room (Nat.le_of_ble_eq_true rfl)) dX3_output_2 ⟨Nat.le_of_ble_eq_true rfl, Nat.le_of_ble_eq_true rfl⟩) rfl rfl (by decide) (by decide) (fun r_1 u H locs hw hP hD hS => ?_)
  try dsimp only at hw
  obtain rfl := hw
  have hP : va_P D vwCl [(arow, .inl (cL, 5000, .inr (.inl ro))), (ax, .inr (4, [.ref aj, .ref ap, .ref ar, .ref arow, .ref ak, .int ed, .int dn, .int cp, .int ct])), (ap, .inr (3, [.ref aj, .ref apc, .ref app, .int (nI t)]))] H := hP
  have hD : va_D A [(arow, .inl (cL, 5000, .inr (.inl ro))), (ax, .inr (4, [.ref aj, .ref ap, .ref ar, .ref arow, .ref ak, .int ed, .int dn, .int cp, .int ct])), (ap, .inr (3, [.ref aj, .ref apc, .ref app, .int (nI t)]))] := hD
  refine lv_if_eq (tgt := 18) hx hb dX3_output_5 (by decide) (fun c_5 => ?_) (fun c_5 => ?_)
  · have h0 := cr_if01 _ c_5
    refine lv_iconst (v := 0) hx hb dX3_output_18 (by decide) ?_
    have hP9 := hP.sub (ws' := [(ax, .inr (4, [.ref aj, .ref ap, .ref ar, .ref arow, .ref ak, .int ed, .int dn, .int cp, .int ct])), (ap, .inr (3, [.ref aj, .ref apc, .ref app, .int (nI t)])), (arow, .inl (cL, 5000, .inr (.inl ro)))]) [1, 2, 0] rfl
    have hD9 := hD.sub (ws' := [(ax, .inr (4, [.ref aj, .ref ap, .ref ar, .ref arow, .ref ak, .int ed, .int dn, .int cp, .int ct])), (ap, .inr (3, [.ref aj, .ref apc, .ref app, .int (nI t)])), (arow, .inl (cL, 5000, .inr (.inl ro)))]) [1, 2, 0] (by decide) rfl
    refine W.widen (k := 0) (n := 0) (Nat.le_of_ble_eq_true rfl) (Nat.le_of_ble_eq_true rfl) ?_
    exact W.iret (v := 0) hx hb hr (fun t9 ht9 hW9 => ⟨⟨0, (), rfl, by rw [if_pos h0], by rw [ht9]; exact hP9, va_K.moved hW9.alike hK, hD9⟩, hS.F ht9⟩) hS.2.2 dX3_output_19
  · have h0 := cr_if01n _ c_5
    obtain ⟨k, hk, hxk⟩ := cr_ix (by omega) h0
    refine lv_aload_n hx hb dX3_output_8 rfl (lv_at hl 0 rfl) ?_
    refine va_get (D := D) (ci := 4) (v := .ref arow) (C := RX3) (T := TX3) (N := 9) hx hb hts iX3 hown hK hP 1 rfl rfl 3 (by decide) wf28 (fun _ h9 => h9) rfl dX3_output_9 ?_
    refine lv_iload_n hx hb dX3_output_12 rfl (lv_at hl 1 rfl) ?_
    refine ct_topi (y := (nI k)) (hxk) ?_
    refine ct_lald (k := k) hx hb hK hP 0 1 rfl rfl (by omega) (by decide) dX3_output_13 ?_
    refine lv_l2i hx hb dX3_output_14 rfl ?_
    refine lv_goto (tgt := 19) hx hb dX3_output_15 (by decide) ?_
    have hP9 := hP.sub (ws' := [(ax, .inr (4, [.ref aj, .ref ap, .ref ar, .ref arow, .ref ak, .int ed, .int dn, .int cp, .int ct])), (ap, .inr (3, [.ref aj, .ref apc, .ref app, .int (nI t)])), (arow, .inl (cL, 5000, .inr (.inl ro)))]) [1, 2, 0] rfl
    have hD9 := hD.sub (ws' := [(ax, .inr (4, [.ref aj, .ref ap, .ref ar, .ref arow, .ref ak, .int ed, .int dn, .int cp, .int ct])), (ap, .inr (3, [.ref aj, .ref apc, .ref app, .int (nI t)])), (arow, .inl (cL, 5000, .inr (.inl ro)))]) [1, 2, 0] (by decide) rfl
    refine W.widen (k := 0) (n := 0) (Nat.le_of_ble_eq_true rfl) (Nat.le_of_ble_eq_true rfl) ?_
    exact W.iret (v := (ro k).toInt32) hx hb hr (fun t9 ht9 hW9 => ⟨⟨(ro k).toInt32, (), rfl, by rw [if_neg h0, hxk, nI_clamp (by omega)], by rw [ht9]; exact hP9, va_K.moved hW9.alike hK, hD9⟩, hS.F ht9⟩) hS.2.2 dX3_output_19
abbrev rm_X3_torn : Room := { frames := 1, cells := 0, slots := 0, locals := 21 }
abbrev qc_X3_torn (D : va_G) (cI cL cZ : ClassId) (ax : Nat) (aj : Nat) (ap : Nat) (ar : Nat) (arow : Nat) (ak : Nat) (ed : Int32) (dn : Int32) (cp : Int32) (ct : Int32) (akw : Nat) (ake : Nat) (aku : Nat) (akn : Nat) (akc : Nat) (akp : Nat) (kb : Nat) (kw : Nat → Int32) (x : Int32) (A : Nat → Prop) : Array Value → State → Outcome → State → Prop := va_Qi (fun (r : Int32) (u : Unit) => ((if x < 1 ∨ nI kb < x then -1 else if kw (x.toNatClampNeg - 1) = 0 then 1 else 0) = r)) (ct_B D vwCl [(cI, .int), (cL, .long), (cZ, .boolean)] A (fun (u : Unit) => [(ax, .inr (4, [.ref aj, .ref ap, .ref ar, .ref arow, .ref ak, .int ed, .int dn, .int cp, .int ct])), (ak, .inr (1, [.ref akw, .ref ake, .ref aku, .ref akn, .ref akc, .ref akp, .int (nI kb)])), (akw, .inl (cZ, 100, .inl kw))])) A
set_option maxHeartbeats 4000000 in
set_option maxRecDepth 100000 in
theorem c_X3_torn (l : Launch) (D : va_G) (cI cL cZ : ClassId) (ax : Nat) (aj : Nat) (ap : Nat) (ar : Nat) (arow : Nat) (ak : Nat) (ed : Int32) (dn : Int32) (cp : Int32) (ct : Int32) (akw : Nat) (ake : Nat) (aku : Nat) (akn : Nat) (akc : Nat) (akp : Nat) (kb : Nat) (kw : Nat → Int32) (x : Int32) (sz : Nat) (hkb : kb ≤ 100) : Met l yX3_torn wsX3_torn rm_X3_torn (va_Pc [.ref ax, .int x] (ct_P D vwCl [(cI, .int), (cL, .long), (cZ, .boolean)] [(ax, .inr (4, [.ref aj, .ref ap, .ref ar, .ref arow, .ref ak, .int ed, .int dn, .int cp, .int ct])), (ak, .inr (1, [.ref akw, .ref ake, .ref aku, .ref akn, .ref akc, .ref akp, .int (nI kb)])), (akw, .inl (cZ, 100, .inl kw))] sz)) (qc_X3_torn D cI cL cZ ax aj ap ar arow ak ed dn cp ct akw ake aku akn akc akp kb kw x (va_A [(ax, .inr (4, [.ref aj, .ref ap, .ref ar, .ref arow, .ref ak, .int ed, .int dn, .int cp, .int ct])), (ak, .inr (1, [.ref akw, .ref ake, .ref aku, .ref akn, .ref akc, .ref akp, .int (nI kb)])), (akw, .inl (cZ, 100, .inl kw))] sz)) 0 0 (va_A [(ax, .inr (4, [.ref aj, .ref ap, .ref ar, .ref arow, .ref ak, .int ed, .int dn, .int cp, .int ct])), (ak, .inr (1, [.ref akw, .ref ake, .ref aku, .ref akn, .ref akc, .ref akp, .int (nI kb)])), (akw, .inl (cZ, 100, .inl kw))] sz) := by
  refine Met.ofW (cc := cX3_torn) (maxL := 2) (ret := (some .int)) (by decide) rfl ?_
  intro p e s m args below meth cd s₁ B hml hv
  obtain ⟨rfl, hsz, hP, hK, hD0⟩ := hv
  have hx := B.exec
  have hb := B.bytes
  have hr := B.returns
  have hts := atoms_spec (ws := wsX3_torn) B.pre
  have iX3 : ∀ w ∈ wsX30, w ∈ wsX3_torn := by decide +kernel
  have wf35 := hts (.fieldLink RX3 35 "CheckRestart" "checkpoints" "LCheckRestart$Checkpoints;") (by decide +kernel)
  have iX0 : ∀ w ∈ wsX00, w ∈ wsX3_torn := by decide +kernel
  have wf133 := hts (.fieldLink RX3 133 "CheckRestart$Checkpoints" "whole" "[Z") (by decide +kernel)
  have hown : s.vm.findClass RX3 = some m.cls := findClass_of_methodNamed B.named
  have hlocks := B.notSynchronized
  subst hsz
  have hD := hD0.self (sz := s.heap.size)
  generalize hAe : va_A [(ax, .inr (4, [.ref aj, .ref ap, .ref ar, .ref arow, .ref ak, .int ed, .int dn, .int cp, .int ct])), (ak, .inr (1, [.ref akw, .ref ake, .ref aku, .ref akn, .ref akc, .ref akp, .int (nI kb)])), (akw, .inl (cZ, 100, .inl kw))] s.heap.size = A at hD ⊢
  have hA : ∀ q : Nat, s.heap.size ≤ q → A q := fun q h => by rw [← hAe]; exact Or.inr h
  have hS : va_S A s.heap s.heap [] := va_S.rf
  have hl := lv_entry ([.ref ax, .int x]) (n := 2) (Nat.le_of_ble_eq_true rfl)
  rw [lg_entry_eq]
  generalize (lg_sl ([.ref ax, .int x]) ++ List.replicate (2 - (lg_sl ([.ref ax, .int x])).length) Slot.unset).toArray = ls at hl ⊢
  have hl : lv_has ls 2 [(0, .ref ax), (1, .int x)] := hl
  refine lv_aload_n hx hb dX3_torn_0 rfl (lv_at hl 0 rfl) ?_
  refine va_get (D := D) (ci := 4) (v := .ref ak) (C := RX3) (T := TX3) (N := 9) hx hb hts iX3 hown hK hP 0 rfl rfl 4 (by decide) wf35 (fun _ h9 => h9) rfl dX3_torn_1 ?_
  refine lv_iload_n hx hb dX3_torn_4 rfl (lv_at hl 1 rfl) ?_
  refine ct_calli (wr := [(ax, .inr (4, [.ref aj, .ref ap, .ref ar, .ref arow, .ref ak, .int ed, .int dn, .int cp, .int ct])), (akw, .inl (cZ, 100, .inl kw))]) (rest := []) hP hD hS hA [1] [0, 2] (va_runV (C := RX0) (As := [.int x]) ⟨hx, hb, hml, hown, hts⟩ (c_X0_has l D cI cL cZ ak akw ake aku akn akc akp kb x _ ) (cwV 1 hts gX3_torn_X0_has rfl rfl rfl (by decide +kernel) ⟨Nat.le_of_ble_eq_true rfl, Nat.le_of_ble_eq_true rfl⟩) (ct_preV (q0 := 0) (ci := 1) hK hP hD [1] (by decide) rfl rfl rfl rfl rfl) rfl rfl hl.1 rfl (lv_room (Nat.le_of_ble_eq_true rfl)) dX3_torn_5 ⟨Nat.le_of_ble_eq_true rfl, Nat.le_of_ble_eq_true rfl⟩) rfl rfl (by decide) (by decide) (fun r_1 u H locs hw hP hD hS => ?_)
  try dsimp only at hw
  obtain rfl := hw
  have hP : va_P D vwCl [(ax, .inr (4, [.ref aj, .ref ap, .ref ar, .ref arow, .ref ak, .int ed, .int dn, .int cp, .int ct])), (akw, .inl (cZ, 100, .inl kw)), (ak, .inr (1, [.ref akw, .ref ake, .ref aku, .ref akn, .ref akc, .ref akp, .int (nI kb)]))] H := hP
  have hD : va_D A [(ax, .inr (4, [.ref aj, .ref ap, .ref ar, .ref arow, .ref ak, .int ed, .int dn, .int cp, .int ct])), (akw, .inl (cZ, 100, .inl kw)), (ak, .inr (1, [.ref akw, .ref ake, .ref aku, .ref akn, .ref akc, .ref akp, .int (nI kb)]))] := hD
  refine lv_if_ne (tgt := 13) hx hb dX3_torn_8 (by decide) (fun c_8 => ?_) (fun c_8 => ?_)
  · obtain ⟨k, hk1, hk2, hxk, h0⟩ := cr_has (by omega) c_8
    refine lv_aload_n hx hb dX3_torn_13 rfl (lv_at hl 0 rfl) ?_
    refine va_get (D := D) (ci := 4) (v := .ref ak) (C := RX3) (T := TX3) (N := 9) hx hb hts iX3 hown hK hP 0 rfl rfl 4 (by decide) wf35 (fun _ h9 => h9) rfl dX3_torn_14 ?_
    refine va_get (D := D) (ci := 1) (v := .ref akw) (C := RX0) (T := TX0) (N := 7) hx hb hts iX0 hown hK hP 2 rfl rfl 0 (by decide) wf133 (fun _ h9 => h9) rfl dX3_torn_17 ?_
    refine lv_iload_n hx hb dX3_torn_20 rfl (lv_at hl 1 rfl) ?_
    refine ct_topi (y := (nI k)) (hxk) ?_
    refine lv_iconst (v := 1) hx hb dX3_torn_21 (by decide) ?_
    refine lv_isub hx hb dX3_torn_22 ?_
    refine ct_topi (y := (nI (k - 1))) (pk_sub (a := k) (b := 1) (by omega)) ?_
    refine ct_zald (k := (k - 1)) hx hb hK hP 1 2 rfl rfl (by omega) (by decide) dX3_torn_23 ?_
    refine lv_if_ne (tgt := 31) hx hb dX3_torn_24 (by decide) (fun c_24 => ?_) (fun c_24 => ?_)
    · refine lv_iconst (v := 0) hx hb dX3_torn_31 (by decide) ?_
      refine ct_calli (wr := [(ax, .inr (4, [.ref aj, .ref ap, .ref ar, .ref arow, .ref ak, .int ed, .int dn, .int cp, .int ct])), (akw, .inl (cZ, 100, .inl kw)), (ak, .inr (1, [.ref akw, .ref ake, .ref aku, .ref akn, .ref akc, .ref akp, .int (nI kb)]))]) (rest := []) hP hD hS hA [] [0, 1, 2] (va_runS (As := [.int 0]) ⟨hx, hb, hml, hown, hts⟩ (c_X3_asNumber l D cI cL cZ 0 _ ) (va_cwS 1 hts gX3_torn_X3_asNumber rfl rfl rfl (by decide +kernel) ⟨Nat.le_of_ble_eq_true rfl, Nat.le_of_ble_eq_true rfl⟩) (ct_preS hK hP hD [] (by decide) rfl rfl) rfl rfl hl.1 rfl (lv_room (Nat.le_of_ble_eq_true rfl)) dX3_torn_32 ⟨Nat.le_of_ble_eq_true rfl, Nat.le_of_ble_eq_true rfl⟩) rfl rfl (by decide) (by decide) (fun r_2 u H locs hw hP hD hS => ?_)
      try dsimp only at hw
      obtain rfl := hw
      have hP : va_P D vwCl [(ax, .inr (4, [.ref aj, .ref ap, .ref ar, .ref arow, .ref ak, .int ed, .int dn, .int cp, .int ct])), (akw, .inl (cZ, 100, .inl kw)), (ak, .inr (1, [.ref akw, .ref ake, .ref aku, .ref akn, .ref akc, .ref akp, .int (nI kb)]))] H := hP
      have hD : va_D A [(ax, .inr (4, [.ref aj, .ref ap, .ref ar, .ref arow, .ref ak, .int ed, .int dn, .int cp, .int ct])), (akw, .inl (cZ, 100, .inl kw)), (ak, .inr (1, [.ref akw, .ref ake, .ref aku, .ref akn, .ref akc, .ref akp, .int (nI kb)]))] := hD
      have hP9 := hP.sub (ws' := [(ax, .inr (4, [.ref aj, .ref ap, .ref ar, .ref arow, .ref ak, .int ed, .int dn, .int cp, .int ct])), (ak, .inr (1, [.ref akw, .ref ake, .ref aku, .ref akn, .ref akc, .ref akp, .int (nI kb)])), (akw, .inl (cZ, 100, .inl kw))]) [0, 2, 1] rfl
      have hD9 := hD.sub (ws' := [(ax, .inr (4, [.ref aj, .ref ap, .ref ar, .ref arow, .ref ak, .int ed, .int dn, .int cp, .int ct])), (ak, .inr (1, [.ref akw, .ref ake, .ref aku, .ref akn, .ref akc, .ref akp, .int (nI kb)])), (akw, .inl (cZ, 100, .inl kw))]) [0, 2, 1] (by decide) rfl
      refine W.widen (k := 0) (n := 0) (Nat.le_of_ble_eq_true rfl) (Nat.le_of_ble_eq_true rfl) ?_
      exact W.iret (v := (if 0 = 0 then 0 else 1)) hx hb hr (fun t9 ht9 hW9 => ⟨⟨(if 0 = 0 then 0 else 1), (), rfl, by rw [if_neg h0, hxk, nI_clamp (by omega)]; simp [c_24], by rw [ht9]; exact hP9, va_K.moved hW9.alike hK, hD9⟩, hS.F ht9⟩) hS.2.2 dX3_torn_35
    · refine lv_iconst (v := 1) hx hb dX3_torn_27 (by decide) ?_
      refine lv_goto (tgt := 32) hx hb dX3_torn_28 (by decide) ?_
      refine ct_calli (wr := [(ax, .inr (4, [.ref aj, .ref ap, .ref ar, .ref arow, .ref ak, .int ed, .int dn, .int cp, .int ct])), (akw, .inl (cZ, 100, .inl kw)), (ak, .inr (1, [.ref akw, .ref ake, .ref aku, .ref akn, .ref akc, .ref akp, .int (nI kb)]))]) (rest := []) hP hD hS hA [] [0, 1, 2] (va_runS (As := [.int 1]) ⟨hx, hb, hml, hown, hts⟩ (c_X3_asNumber l D cI cL cZ 1 _ ) (va_cwS 1 hts gX3_torn_X3_asNumber rfl rfl rfl (by decide +kernel) ⟨Nat.le_of_ble_eq_true rfl, Nat.le_of_ble_eq_true rfl⟩) (ct_preS hK hP hD [] (by decide) rfl rfl) rfl rfl hl.1 rfl (lv_room (Nat.le_of_ble_eq_true rfl)) dX3_torn_32 ⟨Nat.le_of_ble_eq_true rfl, Nat.le_of_ble_eq_true rfl⟩) rfl rfl (by decide) (by decide) (fun r_3 u H locs hw hP hD hS => ?_)
      try dsimp only at hw
      obtain rfl := hw
      have hP : va_P D vwCl [(ax, .inr (4, [.ref aj, .ref ap, .ref ar, .ref arow, .ref ak, .int ed, .int dn, .int cp, .int ct])), (akw, .inl (cZ, 100, .inl kw)), (ak, .inr (1, [.ref akw, .ref ake, .ref aku, .ref akn, .ref akc, .ref akp, .int (nI kb)]))] H := hP
      have hD : va_D A [(ax, .inr (4, [.ref aj, .ref ap, .ref ar, .ref arow, .ref ak, .int ed, .int dn, .int cp, .int ct])), (akw, .inl (cZ, 100, .inl kw)), (ak, .inr (1, [.ref akw, .ref ake, .ref aku, .ref akn, .ref akc, .ref akp, .int (nI kb)]))] := hD
      have hP9 := hP.sub (ws' := [(ax, .inr (4, [.ref aj, .ref ap, .ref ar, .ref arow, .ref ak, .int ed, .int dn, .int cp, .int ct])), (ak, .inr (1, [.ref akw, .ref ake, .ref aku, .ref akn, .ref akc, .ref akp, .int (nI kb)])), (akw, .inl (cZ, 100, .inl kw))]) [0, 2, 1] rfl
      have hD9 := hD.sub (ws' := [(ax, .inr (4, [.ref aj, .ref ap, .ref ar, .ref arow, .ref ak, .int ed, .int dn, .int cp, .int ct])), (ak, .inr (1, [.ref akw, .ref ake, .ref aku, .ref akn, .ref akc, .ref akp, .int (nI kb)])), (akw, .inl (cZ, 100, .inl kw))]) [0, 2, 1] (by decide) rfl
      refine W.widen (k := 0) (n := 0) (Nat.le_of_ble_eq_true rfl) (Nat.le_of_ble_eq_true rfl) ?_
      exact W.iret (v := (if 1 = 0 then 0 else 1)) hx hb hr (fun t9 ht9 hW9 => ⟨⟨(if 1 = 0 then 0 else 1), (), rfl, by rw [if_neg h0, hxk, nI_clamp (by omega)]; simp [c_24], by rw [ht9]; exact hP9, va_K.moved hW9.alike hK, hD9⟩, hS.F ht9⟩) hS.2.2 dX3_torn_35
  · have h0 := cr_if01 _ c_8
    refine lv_iconst (v := (-1)) hx hb dX3_torn_11 (by decide) ?_
    have hP9 := hP.sub (ws' := [(ax, .inr (4, [.ref aj, .ref ap, .ref ar, .ref arow, .ref ak, .int ed, .int dn, .int cp, .int ct])), (ak, .inr (1, [.ref akw, .ref ake, .ref aku, .ref akn, .ref akc, .ref akp, .int (nI kb)])), (akw, .inl (cZ, 100, .inl kw))]) [0, 2, 1] rfl
    have hD9 := hD.sub (ws' := [(ax, .inr (4, [.ref aj, .ref ap, .ref ar, .ref arow, .ref ak, .int ed, .int dn, .int cp, .int ct])), (ak, .inr (1, [.ref akw, .ref ake, .ref aku, .ref akn, .ref akc, .ref akp, .int (nI kb)])), (akw, .inl (cZ, 100, .inl kw))]) [0, 2, 1] (by decide) rfl
    refine W.widen (k := 0) (n := 0) (Nat.le_of_ble_eq_true rfl) (Nat.le_of_ble_eq_true rfl) ?_
    exact W.iret (v := (-1)) hx hb hr (fun t9 ht9 hW9 => ⟨⟨(-1), (), rfl, by rw [if_pos h0], by rw [ht9]; exact hP9, va_K.moved hW9.alike hK, hD9⟩, hS.F ht9⟩) hS.2.2 dX3_torn_12
