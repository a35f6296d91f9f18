abbrev rm_X3_get : Room := { frames := 6, cells := 1, slots := 6, locals := 100 }
abbrev qc_X3_get (D : va_G) (cI cL cZ : ClassId) (ax : Nat) (aj : Nat) (ap : Nat) (ar : Nat) (arow : Nat) (ak : Nat) (ed : Int32) (dn : Int32) (cp : Int32) (ct : Int32) (af : Nat) (al : Nat) (c : Nat) (f : Nat) (apc : Nat) (app : Nat) (t : Nat) (cs : Nat → Int64) (x : Int32) (A : Nat → Prop) : Array Value → State → Outcome → State → Prop := va_Ql (fun (r : Int64) (u : Unit) => (cs x.toNatClampNeg) = r ∧ (¬ (x < 0 ∨ nI c ≤ x))) (ct_B D vwCl [(cI, .int), (cL, .long), (cZ, .boolean)] A (fun (u : Unit) => [(ax, .inr (4, [.ref aj, .ref ap, .ref ar, .ref arow, .ref ak, .int ed, .int dn, .int cp, .int ct])), (aj, .inr (2, [.ref af, .ref al, .int (nI c), .int (nI f)])), (ap, .inr (3, [.ref aj, .ref apc, .ref app, .int (nI t)])), (apc, .inl (cL, 12, .inr (.inl cs)))])) A
set_option maxHeartbeats 4000000 in
set_option maxRecDepth 100000 in
theorem c_X3_get (l : Launch) (hl0 : l.stackTraces = false) (D : va_G) (cI cL cZ : ClassId) (ax : Nat) (aj : Nat) (ap : Nat) (ar : Nat) (arow : Nat) (ak : Nat) (ed : Int32) (dn : Int32) (cp : Int32) (ct : Int32) (af : Nat) (al : Nat) (c : Nat) (f : Nat) (apc : Nat) (app : Nat) (t : Nat) (cs : Nat → Int64) (x : Int32) (sz sa : Nat) (hc : c ≤ 12) : vx_Met l yX3_get wsX3_get rm_X3_get (va_Pc [.ref ax, .int x] (fun U => ct_P D vwCl [(cI, .int), (cL, .long), (cZ, .boolean)] [(ax, .inr (4, [.ref aj, .ref ap, .ref ar, .ref arow, .ref ak, .int ed, .int dn, .int cp, .int ct])), (aj, .inr (2, [.ref af, .ref al, .int (nI c), .int (nI f)])), (ap, .inr (3, [.ref aj, .ref apc, .ref app, .int (nI t)])), (apc, .inl (cL, 12, .inr (.inl cs)))] sz U ∧ zx_P RX3 113 "no such cell" eI nsI sa (va_A [(ax, .inr (4, [.ref aj, .ref ap, .ref ar, .ref arow, .ref ak, .int ed, .int dn, .int cp, .int ct])), (aj, .inr (2, [.ref af, .ref al, .int (nI c), .int (nI f)])), (ap, .inr (3, [.ref aj, .ref apc, .ref app, .int (nI t)])), (apc, .inl (cL, 12, .inr (.inl cs)))] sz) U)) (qc_X3_get D cI cL cZ ax aj ap ar arow ak ed dn cp ct af al c f apc app t cs x (va_A [(ax, .inr (4, [.ref aj, .ref ap, .ref ar, .ref arow, .ref ak, .int ed, .int dn, .int cp, .int ct])), (aj, .inr (2, [.ref af, .ref al, .int (nI c), .int (nI f)])), (ap, .inr (3, [.ref aj, .ref apc, .ref app, .int (nI t)])), (apc, .inl (cL, 12, .inr (.inl cs)))] sz)) (vx_X (fun (_ : Unit) => x < 0 ∨ nI c ≤ x) (fun E9 u9 t9 => E9 = eI ∧ ct_B D vwCl [(cI, .int), (cL, .long), (cZ, .boolean)] (va_A [(ax, .inr (4, [.ref aj, .ref ap, .ref ar, .ref arow, .ref ak, .int ed, .int dn, .int cp, .int ct])), (aj, .inr (2, [.ref af, .ref al, .int (nI c), .int (nI f)])), (ap, .inr (3, [.ref aj, .ref apc, .ref app, .int (nI t)])), (apc, .inl (cL, 12, .inr (.inl cs)))] sz) (fun (_ : Unit) => [(ax, .inr (4, [.ref aj, .ref ap, .ref ar, .ref arow, .ref ak, .int ed, .int dn, .int cp, .int ct])), (aj, .inr (2, [.ref af, .ref al, .int (nI c), .int (nI f)])), (ap, .inr (3, [.ref aj, .ref apc, .ref app, .int (nI t)])), (apc, .inl (cL, 12, .inr (.inl cs)))]) u9 t9) (va_A [(ax, .inr (4, [.ref aj, .ref ap, .ref ar, .ref arow, .ref ak, .int ed, .int dn, .int cp, .int ct])), (aj, .inr (2, [.ref af, .ref al, .int (nI c), .int (nI f)])), (ap, .inr (3, [.ref aj, .ref apc, .ref app, .int (nI t)])), (apc, .inl (cL, 12, .inr (.inl cs)))] sz)) 1 6 (va_A [(ax, .inr (4, [.ref aj, .ref ap, .ref ar, .ref arow, .ref ak, .int ed, .int dn, .int cp, .int ct])), (aj, .inr (2, [.ref af, .ref al, .int (nI c), .int (nI f)])), (ap, .inr (3, [.ref aj, .ref apc, .ref app, .int (nI t)])), (apc, .inl (cL, 12, .inr (.inl cs)))] sz) := by
  refine vx_ofW (cc := cX3_get) (maxL := 2) (ret := (some .long)) (by decide) rfl ?_
  intro p e s m args below meth cd s₁ B hml hex hv
  obtain ⟨rfl, ⟨hsz, hP, hK, hD0⟩, hZ⟩ := hv
  have hx := B.exec
  have hb := B.bytes
  have hr := B.returns
  have hts := atoms_spec (ws := wsX3_get) B.pre
  have wc111 := hts (.classLink RX3 111 eI) (by decide +kernel)
  have wneI := hts (.initialized eI) (by decide +kernel)
  have iX3 : ∀ w ∈ wsX30, w ∈ wsX3_get := by decide +kernel
  have wf10 := hts (.fieldLink RX3 10 "CheckRestart" "job" "LCheckRestart$Job;") (by decide +kernel)
  have iX1 : ∀ w ∈ wsX10, w ∈ wsX3_get := by decide +kernel
  have wf57 := hts (.fieldLink RX3 57 "CheckRestart$Job" "cellCount" "I") (by decide +kernel)
  have wf21 := hts (.fieldLink RX3 21 "CheckRestart" "progress" "LCheckRestart$Progress;") (by decide +kernel)
  have iX2 : ∀ w ∈ wsX20, w ∈ wsX3_get := by decide +kernel
  have wf63 := hts (.fieldLink RX3 63 "CheckRestart$Progress" "cells" "[J") (by decide +kernel)
  have hown : s.vm.findClass RX3 = some m.cls := findClass_of_methodNamed B.named
  have hlocks := B.notSynchronized
  subst hsz
  have hD := hD0.self (sz := s.heap.size)
  generalize hAe : va_A [(ax, .inr (4, [.ref aj, .ref ap, .ref ar, .ref arow, .ref ak, .int ed, .int dn, .int cp, .int ct])), (aj, .inr (2, [.ref af, .ref al, .int (nI c), .int (nI f)])), (ap, .inr (3, [.ref aj, .ref apc, .ref app, .int (nI t)])), (apc, .inl (cL, 12, .inr (.inl cs)))] s.heap.size = A at hD hZ ⊢
  have hA : ∀ q : Nat, s.heap.size ≤ q → A q := fun q h => by rw [← hAe]; exact Or.inr h
  have hS : va_S A s.heap s.heap [] := va_S.rf
  have hl := lv_entry ([.ref ax, .int x]) (n := 2) (Nat.le_of_ble_eq_true rfl)
  rw [lg_entry_eq]
  generalize (lg_sl ([.ref ax, .int x]) ++ List.replicate (2 - (lg_sl ([.ref ax, .int x])).length) Slot.unset).toArray = ls at hl ⊢
  have hl : lv_has ls 2 [(0, .ref ax), (1, .int x)] := hl
  refine lv_iload_n hx hb dX3_get_0 rfl (lv_at hl 1 rfl) ?_
  refine lv_if_lt (tgt := 15) hx hb dX3_get_1 (by decide) (fun c_1 => ?_) (fun c_1 => ?_)
  · have h0 : x < 0 ∨ nI c ≤ x := by first | exact Or.inl c_1 | exact Or.inr (cr_nlt c_12)
    have hPw := hP.sub (ws' := [(ax, .inr (4, [.ref aj, .ref ap, .ref ar, .ref arow, .ref ak, .int ed, .int dn, .int cp, .int ct])), (aj, .inr (2, [.ref af, .ref al, .int (nI c), .int (nI f)])), (ap, .inr (3, [.ref aj, .ref apc, .ref app, .int (nI t)])), (apc, .inl (cL, 12, .inr (.inl cs)))]) [0, 1, 2, 3] rfl
    have hDw := hD.sub (ws' := [(ax, .inr (4, [.ref aj, .ref ap, .ref ar, .ref arow, .ref ak, .int ed, .int dn, .int cp, .int ct])), (aj, .inr (2, [.ref af, .ref al, .int (nI c), .int (nI f)])), (ap, .inr (3, [.ref aj, .ref apc, .ref app, .int (nI t)])), (apc, .inl (cL, 12, .inr (.inl cs)))]) [0, 1, 2, 3] (by decide) rfl
    have hat : ∀ w ∈ vx_atS RX3 115 eI nsI, w.before _ s = true := vx_hat (B := zB eI nsI) (fun w hw => hts w (List.mem_cons_of_mem _ (List.mem_append_right _ hw))) (by decide +kernel) (fun w hw => va_Nw.use (zB_tab w hw) (hZ.2.2.2 w hw))
    exact vx_throwS (own := RX3) (cls := eI) (names := nsI) (text := "no such cell") (sa := sa) (A := A) hx hb hl0 hown (by decide +kernel) (by decide +kernel) wc111 wneI hZ.1 hat (by decide +kernel) hZ.2.1 hZ.2.2.1 hS (hl.1.trans hml.symm) dX3_get_15 dX3_get_18 dX3_get_19 dX3_get_21 dX3_get_24 (fun z hz => (hex z hz).elim) (Nat.le_of_ble_eq_true rfl) (Nat.le_of_ble_eq_true rfl) (Nat.le_of_ble_eq_true rfl) (Nat.le_of_ble_eq_true rfl) hlocks (fun t9 ha9 hz9 hk9 => ⟨(), h0, ⟨rfl, hPw.kept (fun k q hk => hk9 q.1 (hPw k q hk).lt), va_K.moved ha9 hK, hDw⟩, Nat.le_trans hS.1 hz9, fun q h1 h2 => (hk9 q (Nat.lt_of_lt_of_le h1 hS.1)).trans (hS.2.1 q h1 h2)⟩) hS.2.2 (Nat.le_of_ble_eq_true rfl) (Nat.le_of_ble_eq_true rfl)
  · refine lv_iload_n hx hb dX3_get_4 rfl (lv_at hl 1 rfl) ?_
    refine lv_aload_n hx hb dX3_get_5 rfl (lv_at hl 0 rfl) ?_
    refine va_get (D := D) (ci := 4) (v := .ref aj) (C := RX3) (T := TX3) (N := 9) hx hb hts iX3 hown hK hP 0 rfl rfl 0 (by decide) wf10 (fun _ h9 => h9) rfl dX3_get_6 ?_
    refine va_get (D := D) (ci := 2) (v := .int (nI c)) (C := RX1) (T := TX1) (N := 4) hx hb hts iX1 hown hK hP 1 rfl rfl 2 (by decide) wf57 (fun _ h9 => h9) rfl dX3_get_9 ?_
    refine lv_icmp_lt (tgt := 25) hx hb dX3_get_12 (by decide) (fun c_12 => ?_) (fun c_12 => ?_)
    · have h0 : ¬ (x < 0 ∨ nI c ≤ x) := fun q => q.elim c_1 (cr_lt_nle c_12)
      obtain ⟨k, hk, hxk⟩ := cr_ix (by omega) h0
      have hcl : x.toNatClampNeg = k := by rw [hxk, nI_clamp (by omega)]
      refine lv_aload_n hx hb dX3_get_25 rfl (lv_at hl 0 rfl) ?_
      refine va_get (D := D) (ci := 4) (v := .ref ap) (C := RX3) (T := TX3) (N := 9) hx hb hts iX3 hown hK hP 0 rfl rfl 1 (by decide) wf21 (fun _ h9 => h9) rfl dX3_get_26 ?_
      refine va_get (D := D) (ci := 3) (v := .ref apc) (C := RX2) (T := TX2) (N := 4) hx hb hts iX2 hown hK hP 2 rfl rfl 1 (by decide) wf63 (fun _ h9 => h9) rfl dX3_get_29 ?_
      refine lv_iload_n hx hb dX3_get_32 rfl (lv_at hl 1 rfl) ?_
      refine ct_topi (y := (nI k)) (hxk) ?_
      refine ct_lald (k := k) hx hb hK hP 3 1 rfl rfl (by omega) (by decide) dX3_get_33 ?_
      have hP9 := hP.sub (ws' := [(ax, .inr (4, [.ref aj, .ref ap, .ref ar, .ref arow, .ref ak, .int ed, .int dn, .int cp, .int ct])), (aj, .inr (2, [.ref af, .ref al, .int (nI c), .int (nI f)])), (ap, .inr (3, [.ref aj, .ref apc, .ref app, .int (nI t)])), (apc, .inl (cL, 12, .inr (.inl cs)))]) [0, 1, 2, 3] rfl
      have hD9 := hD.sub (ws' := [(ax, .inr (4, [.ref aj, .ref ap, .ref ar, .ref arow, .ref ak, .int ed, .int dn, .int cp, .int ct])), (aj, .inr (2, [.ref af, .ref al, .int (nI c), .int (nI f)])), (ap, .inr (3, [.ref aj, .ref apc, .ref app, .int (nI t)])), (apc, .inl (cL, 12, .inr (.inl cs)))]) [0, 1, 2, 3] (by decide) rfl
      refine W.widen (k := 1) (n := 6) (Nat.le_of_ble_eq_true rfl) (Nat.le_of_ble_eq_true rfl) ?_
      exact vx_ret (W.lret (v := (cs k)) hx hb hr (fun t9 ht9 hW9 => ⟨⟨(cs k), (), rfl, ⟨by rw [hcl], h0⟩, by rw [ht9]; exact hP9, va_K.moved hW9.alike hK, hD9⟩, hS.F ht9⟩) hS.2.2 dX3_get_34)
    · have h0 : x < 0 ∨ nI c ≤ x := by first | exact Or.inl c_1 | exact Or.inr (cr_nlt c_12)
      have hPw := hP.sub (ws' := [(ax, .inr (4, [.ref aj, .ref ap, .ref ar, .ref arow, .ref ak, .int ed, .int dn, .int cp, .int ct])), (aj, .inr (2, [.ref af, .ref al, .int (nI c), .int (nI f)])), (ap, .inr (3, [.ref aj, .ref apc, .ref app, .int (nI t)])), (apc, .inl (cL, 12, .inr (.inl cs)))]) [0, 1, 2, 3] rfl
      have hDw := hD.sub (ws' := [(ax, .inr (4, [.ref aj, .ref ap, .ref ar, .ref arow, .ref ak, .int ed, .int dn, .int cp, .int ct])), (aj, .inr (2, [.ref af, .ref al, .int (nI c), .int (nI f)])), (ap, .inr (3, [.ref aj, .ref apc, .ref app, .int (nI t)])), (apc, .inl (cL, 12, .inr (.inl cs)))]) [0, 1, 2, 3] (by decide) rfl
      have hat : ∀ w ∈ vx_atS RX3 115 eI nsI, w.before _ s = true := vx_hat (B := zB eI nsI) (fun w hw => hts w (List.mem_cons_of_mem _ (List.mem_append_right _ hw))) (by decide +kernel) (fun w hw => va_Nw.use (zB_tab w hw) (hZ.2.2.2 w hw))
      exact vx_throwS (own := RX3) (cls := eI) (names := nsI) (text := "no such cell") (sa := sa) (A := A) hx hb hl0 hown (by decide +kernel) (by decide +kernel) wc111 wneI hZ.1 hat (by decide +kernel) hZ.2.1 hZ.2.2.1 hS (hl.1.trans hml.symm) dX3_get_15 dX3_get_18 dX3_get_19 dX3_get_21 dX3_get_24 (fun z hz => (hex z hz).elim) (Nat.le_of_ble_eq_true rfl) (Nat.le_of_ble_eq_true rfl) (Nat.le_of_ble_eq_true rfl) (Nat.le_of_ble_eq_true rfl) hlocks (fun t9 ha9 hz9 hk9 => ⟨(), h0, ⟨rfl, hPw.kept (fun k q hk => hk9 q.1 (hPw k q hk).lt), va_K.moved ha9 hK, hDw⟩, Nat.le_trans hS.1 hz9, fun q h1 h2 => (hk9 q (Nat.lt_of_lt_of_le h1 hS.1)).trans (hS.2.1 q h1 h2)⟩) hS.2.2 (Nat.le_of_ble_eq_true rfl) (Nat.le_of_ble_eq_true rfl)
abbrev rm_X3_row : Room := { frames := 7, cells := 1, slots := 6, locals := 110 }
abbrev qc_X3_row (D : va_G) (cI cL cZ : ClassId) (ax : Nat) (aj : Nat) (ap : Nat) (ar : Nat) (arow : Nat) (ak : Nat) (ed : Int32) (dn : Int32) (cp : Int32) (ct : Int32) (apc : Nat) (app : Nat) (t : Nat) (ro : Nat → Int64) (x : Int32) (A : Nat → Prop) : Array Value → State → Outcome → State → Prop := va_Qi (fun (r : Int32) (u : Unit) => ((ro x.toNatClampNeg >>> ((32 : Int32).toInt64 &&& 63)).toInt32) = r ∧ (¬ (x < 0 ∨ nI t ≤ x))) (ct_B D vwCl [(cI, .int), (cL, .long), (cZ, .boolean)] A (fun (u : Unit) => [(ax, .inr (4, [.ref aj, .ref ap, .ref ar, .ref arow, .ref ak, .int ed, .int dn, .int cp, .int ct])), (ap, .inr (3, [.ref aj, .ref apc, .ref app, .int (nI t)])), (arow, .inl (cL, 5000, .inr (.inl ro)))])) A
set_option maxHeartbeats 4000000 in
set_option maxRecDepth 100000 in
theorem c_X3_row (l : Launch) (hl0 : l.stackTraces = false) (D : va_G) (cI cL cZ : ClassId) (ax : Nat) (aj : Nat) (ap : Nat) (ar : Nat) (arow : Nat) (ak : Nat) (ed : Int32) (dn : Int32) (cp : Int32) (ct : Int32) (apc : Nat) (app : Nat) (t : Nat) (ro : Nat → Int64) (x : Int32) (sz sa : Nat) (ht : t ≤ 5000) : vx_Met l yX3_row wsX3_rowT rm_X3_row (va_Pc [.ref ax, .int x] (fun U => ct_P D vwCl [(cI, .int), (cL, .long), (cZ, .boolean)] [(ax, .inr (4, [.ref aj, .ref ap, .ref ar, .ref arow, .ref ak, .int ed, .int dn, .int cp, .int ct])), (ap, .inr (3, [.ref aj, .ref apc, .ref app, .int (nI t)])), (arow, .inl (cL, 5000, .inr (.inl ro)))] sz U ∧ zx_P RX3 143 "no such row" eA nsA sa (va_A [(ax, .inr (4, [.ref aj, .ref ap, .ref ar, .ref arow, .ref ak, .int ed, .int dn, .int cp, .int ct])), (ap, .inr (3, [.ref aj, .ref apc, .ref app, .int (nI t)])), (arow, .inl (cL, 5000, .inr (.inl ro)))] sz) U)) (qc_X3_row D cI cL cZ ax aj ap ar arow ak ed dn cp ct apc app t ro x (va_A [(ax, .inr (4, [.ref aj, .ref ap, .ref ar, .ref arow, .ref ak, .int ed, .int dn, .int cp, .int ct])), (ap, .inr (3, [.ref aj, .ref apc, .ref app, .int (nI t)])), (arow, .inl (cL, 5000, .inr (.inl ro)))] sz)) (vx_X (fun (_ : Unit) => x < 0 ∨ nI t ≤ x) (fun E9 u9 t9 => E9 = eA ∧ ct_B D vwCl [(cI, .int), (cL, .long), (cZ, .boolean)] (va_A [(ax, .inr (4, [.ref aj, .ref ap, .ref ar, .ref arow, .ref ak, .int ed, .int dn, .int cp, .int ct])), (ap, .inr (3, [.ref aj, .ref apc, .ref app, .int (nI t)])), (arow, .inl (cL, 5000, .inr (.inl ro)))] sz) (fun (_ : Unit) => [(ax, .inr (4, [.ref aj, .ref ap, .ref ar, .ref arow, .ref ak, .int ed, .int dn, .int cp, .int ct])), (ap, .inr (3, [.ref aj, .ref apc, .ref app, .int (nI t)])), (arow, .inl (cL, 5000, .inr (.inl ro)))]) u9 t9) (va_A [(ax, .inr (4, [.ref aj, .ref ap, .ref ar, .ref arow, .ref ak, .int ed, .int dn, .int cp, .int ct])), (ap, .inr (3, [.ref aj, .ref apc, .ref app, .int (nI t)])), (arow, .inl (cL, 5000, .inr (.inl ro)))] sz)) 1 6 (va_A [(ax, .inr (4, [.ref aj, .ref ap, .ref ar, .ref arow, .ref ak, .int ed, .int dn, .int cp, .int ct])), (ap, .inr (3, [.ref aj, .ref apc, .ref app, .int (nI t)])), (arow, .inl (cL, 5000, .inr (.inl ro)))] sz) := by
  refine vx_ofW (cc := cX3_row) (maxL := 2) (ret := (some .int)) (by decide) rfl ?_
  intro p e s m args below meth cd s₁ B hml hex hv
  obtain ⟨rfl, ⟨hsz, hP, hK, hD0⟩, hZ⟩ := hv
  have hx := B.exec
  have hb := B.bytes
  have hr := B.returns
  have hts := atoms_spec (ws := wsX3_rowT) B.pre
  have iX3 : ∀ w ∈ wsX30, w ∈ wsX3_rowT := by decide +kernel
  have wf28 := hts (.fieldLink RX3 28 "CheckRestart" "rows" "[J") (by decide +kernel)
  have wc141 := hts (.classLink RX3 141 eA) (by decide +kernel)
  have wneA := hts (.initialized eA) (by decide +kernel)
  have hown : s.vm.findClass RX3 = some m.cls := findClass_of_methodNamed B.named
  have hlocks := B.notSynchronized
  subst hsz
  have hD := hD0.self (sz := s.heap.size)
  generalize hAe : va_A [(ax, .inr (4, [.ref aj, .ref ap, .ref ar, .ref arow, .ref ak, .int ed, .int dn, .int cp, .int ct])), (ap, .inr (3, [.ref aj, .ref apc, .ref app, .int (nI t)])), (arow, .inl (cL, 5000, .inr (.inl ro)))] s.heap.size = A at hD hZ ⊢
  have hA : ∀ q : Nat, s.heap.size ≤ q → A q := fun q h => by rw [← hAe]; exact Or.inr h
  have hS : va_S A s.heap s.heap [] := va_S.rf
  have hl := lv_entry ([.ref ax, .int x]) (n := 2) (Nat.le_of_ble_eq_true rfl)
  rw [lg_entry_eq]
  generalize (lg_sl ([.ref ax, .int x]) ++ List.replicate (2 - (lg_sl ([.ref ax, .int x])).length) Slot.unset).toArray = ls at hl ⊢
  have hl : lv_has ls 2 [(0, .ref ax), (1, .int x)] := hl
  refine lv_aload_n hx hb dX3_row_0 rfl (lv_at hl 0 rfl) ?_
  refine lv_iload_n hx hb dX3_row_1 rfl (lv_at hl 1 rfl) ?_
  refine ct_calli (wr := [(arow, .inl (cL, 5000, .inr (.inl ro)))]) (rest := []) hP hD hS hA [0, 1] [2] (va_runV (C := RX3) (As := [.int x]) ⟨hx, hb, hml, hown, hts⟩ (c_X3_hasRow l D cI cL cZ ax aj ap ar arow ak ed dn cp ct apc app t x _ ) (cwV 1 hts (goodIn_mono gX3_row_X3_hasRow) rfl rfl rfl (by decide +kernel) ⟨Nat.le_of_ble_eq_true rfl, Nat.le_of_ble_eq_true rfl⟩) (ct_preV (q0 := 0) (ci := 4) hK hP hD [0, 1] (by decide) rfl rfl rfl rfl rfl) rfl rfl hl.1 rfl (lv_room (Nat.le_of_ble_eq_true rfl)) dX3_row_2 ⟨Nat.le_of_ble_eq_true rfl, Nat.le_of_ble_eq_true rfl⟩) rfl rfl (by decide) (by decide) (fun r_1 u H locs hw hP hD hS => ?_)
  try dsimp only at hw
  obtain rfl := hw
  have hP : va_P D vwCl [(arow, .inl (cL, 5000, .inr (.inl ro))), (ax, .inr (4, [.ref aj, .ref ap, .ref ar, .ref arow, .ref ak, .int ed, .int dn, .int cp, .int ct])), (ap, .inr (3, [.ref aj, .ref apc, .ref app, .int (nI t)]))] H := hP
  have hD : va_D A [(arow, .inl (cL, 5000, .inr (.inl ro))), (ax, .inr (4, [.ref aj, .ref ap, .ref ar, .ref arow, .ref ak, .int ed, .int dn, .int cp, .int ct])), (ap, .inr (3, [.ref aj, .ref apc, .ref app, .int (nI t)]))] := hD
  refine lv_if_ne (tgt := 18) hx hb dX3_row_5 (by decide) (fun c_5 => ?_) (fun c_5 => ?_)
  · have h0 := cr_if01n _ c_5
    obtain ⟨k, hk, hxk⟩ := cr_ix (by omega) h0
    have hcl : x.toNatClampNeg = k := by rw [hxk, nI_clamp (by omega)]
    refine lv_aload_n hx hb dX3_row_18 rfl (lv_at hl 0 rfl) ?_
    refine va_get (D := D) (ci := 4) (v := .ref arow) (C := RX3) (T := TX3) (N := 9) hx hb hts iX3 hown hK hP 1 rfl rfl 3 (by decide) wf28 (fun _ h9 => h9) rfl dX3_row_19 ?_
    refine lv_iload_n hx hb dX3_row_22 rfl (lv_at hl 1 rfl) ?_
    refine ct_topi (y := (nI k)) (hxk) ?_
    refine ct_lald (k := k) hx hb hK hP 0 1 rfl rfl (by omega) (by decide) dX3_row_23 ?_
    refine lv_bipush (v := 32) hx hb dX3_row_24 (by decide) ?_
    refine lv_lshr hx hb dX3_row_26 rfl ?_
    refine lv_l2i hx hb dX3_row_27 rfl ?_
    have hP9 := hP.sub (ws' := [(ax, .inr (4, [.ref aj, .ref ap, .ref ar, .ref arow, .ref ak, .int ed, .int dn, .int cp, .int ct])), (ap, .inr (3, [.ref aj, .ref apc, .ref app, .int (nI t)])), (arow, .inl (cL, 5000, .inr (.inl ro)))]) [1, 2, 0] rfl
    have hD9 := hD.sub (ws' := [(ax, .inr (4, [.ref aj, .ref ap, .ref ar, .ref arow, .ref ak, .int ed, .int dn, .int cp, .int ct])), (ap, .inr (3, [.ref aj, .ref apc, .ref app, .int (nI t)])), (arow, .inl (cL, 5000, .inr (.inl ro)))]) [1, 2, 0] (by decide) rfl
    refine W.widen (k := 1) (n := 6) (Nat.le_of_ble_eq_true rfl) (Nat.le_of_ble_eq_true rfl) ?_
    exact vx_ret (W.iret (v := ((ro k) >>> ((32 : Int32).toInt64 &&& 63)).toInt32) hx hb hr (fun t9 ht9 hW9 => ⟨⟨((ro k) >>> ((32 : Int32).toInt64 &&& 63)).toInt32, (), rfl, ⟨by rw [hcl], h0⟩, by rw [ht9]; exact hP9, va_K.moved hW9.alike hK, hD9⟩, hS.F ht9⟩) hS.2.2 dX3_row_28)
  · have h0 := cr_if01 _ c_5
    have hPw := hP.sub (ws' := [(ax, .inr (4, [.ref aj, .ref ap, .ref ar, .ref arow, .ref ak, .int ed, .int dn, .int cp, .int ct])), (ap, .inr (3, [.ref aj, .ref apc, .ref app, .int (nI t)])), (arow, .inl (cL, 5000, .inr (.inl ro)))]) [1, 2, 0] rfl
    have hDw := hD.sub (ws' := [(ax, .inr (4, [.ref aj, .ref ap, .ref ar, .ref arow, .ref ak, .int ed, .int dn, .int cp, .int ct])), (ap, .inr (3, [.ref aj, .ref apc, .ref app, .int (nI t)])), (arow, .inl (cL, 5000, .inr (.inl ro)))]) [1, 2, 0] (by decide) rfl
    have hat : ∀ w ∈ vx_atS RX3 145 eA nsA, w.before _ s = true := vx_hat (B := zB eA nsA) (fun w hw => hts w (List.mem_append_right _ hw)) (by decide +kernel) (fun w hw => va_Nw.use (zB_tab w hw) (hZ.2.2.2 w hw))
    exact vx_throwS (own := RX3) (cls := eA) (names := nsA) (text := "no such row") (sa := sa) (A := A) hx hb hl0 hown (by decide +kernel) (by decide +kernel) wc141 wneA hZ.1 hat (by decide +kernel) hZ.2.1 hZ.2.2.1 hS (hl.1.trans hml.symm) dX3_row_8 dX3_row_11 dX3_row_12 dX3_row_14 dX3_row_17 (fun z hz => (hex z hz).elim) (Nat.le_of_ble_eq_true rfl) (Nat.le_of_ble_eq_true rfl) (Nat.le_of_ble_eq_true rfl) (Nat.le_of_ble_eq_true rfl) hlocks (fun t9 ha9 hz9 hk9 => ⟨(), h0, ⟨rfl, hPw.kept (fun k q hk => hk9 q.1 (hPw k q hk).lt), va_K.moved ha9 hK, hDw⟩, Nat.le_trans hS.1 hz9, fun q h1 h2 => (hk9 q (Nat.lt_of_lt_of_le h1 hS.1)).trans (hS.2.1 q h1 h2)⟩) hS.2.2 (Nat.le_of_ble_eq_true rfl) (Nat.le_of_ble_eq_true rfl)
