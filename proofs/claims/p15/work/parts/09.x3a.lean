abbrev rm_X3_isSetupOver : Room := { frames := 0, cells := 0, slots := 0, locals := 0 }
abbrev qc_X3_isSetupOver (D : va_G) (cI cL cZ : ClassId) (ax : Nat) (aj : Nat) (ap : Nat) (ar : Nat) (arow : Nat) (ak : Nat) (ed : Int32) (dn : Int32) (cp : Int32) (ct : Int32) (apc : Nat) (app : Nat) (t : Nat) (A : Nat → Prop) : Array Value → State → Outcome → State → Prop := va_Qi (fun (r : Int32) (u : Unit) => ((if dn = 0 ∧ nI t ≤ 0 then 0 else 1) = r)) (ct_B D vwCl [(cI, .int), (cL, .long), (cZ, .boolean)] A (fun (u : Unit) => [(ax, .inr (4, [.ref aj, .ref ap, .ref ar, .ref arow, .ref ak, .int ed, .int dn, .int cp, .int ct])), (ap, .inr (3, [.ref aj, .ref apc, .ref app, .int (nI t)]))])) A
set_option maxHeartbeats 4000000 in
set_option maxRecDepth 100000 in
theorem c_X3_isSetupOver (l : Launch) (D : va_G) (cI cL cZ : ClassId) (ax : Nat) (aj : Nat) (ap : Nat) (ar : Nat) (arow : Nat) (ak : Nat) (ed : Int32) (dn : Int32) (cp : Int32) (ct : Int32) (apc : Nat) (app : Nat) (t : Nat) (sz : Nat)  : Met l yX3_isSetupOver wsX3_isSetupOver rm_X3_isSetupOver (va_Pc [.ref ax] (ct_P D vwCl [(cI, .int), (cL, .long), (cZ, .boolean)] [(ax, .inr (4, [.ref aj, .ref ap, .ref ar, .ref arow, .ref ak, .int ed, .int dn, .int cp, .int ct])), (ap, .inr (3, [.ref aj, .ref apc, .ref app, .int (nI t)]))] sz)) (qc_X3_isSetupOver D cI cL cZ ax aj ap ar arow ak ed dn cp ct apc app t (va_A [(ax, .inr (4, [.ref aj, .ref ap, .ref ar, .ref arow, .ref ak, .int ed, .int dn, .int cp, .int ct])), (ap, .inr (3, [.ref aj, .ref apc, .ref app, .int (nI t)]))] sz)) 0 0 (va_A [(ax, .inr (4, [.ref aj, .ref ap, .ref ar, .ref arow, .ref ak, .int ed, .int dn, .int cp, .int ct])), (ap, .inr (3, [.ref aj, .ref apc, .ref app, .int (nI t)]))] sz) := by
  refine Met.ofW (cc := cX3_isSetupOver) (maxL := 1) (ret := (some .boolean)) (by decide) rfl ?_
  intro p e s m args below meth cd s₁ B hml hv
  obtain ⟨rfl, hsz, hP, hK, hD0⟩ := hv
  have hx := B.exec
  have hb := B.bytes
  have hr := B.returns
  have hts := atoms_spec (ws := wsX3_isSetupOver) B.pre
  have iX3 : ∀ w ∈ wsX30, w ∈ wsX3_isSetupOver := by decide +kernel
  have wf43 := hts (.fieldLink RX3 43 "CheckRestart" "down" "Z") (by decide +kernel)
  have wf21 := hts (.fieldLink RX3 21 "CheckRestart" "progress" "LCheckRestart$Progress;") (by decide +kernel)
  have iX2 : ∀ w ∈ wsX20, w ∈ wsX3_isSetupOver := by decide +kernel
  have wf73 := hts (.fieldLink RX3 73 "CheckRestart$Progress" "units" "I") (by decide +kernel)
  have hown : s.vm.findClass RX3 = some m.cls := findClass_of_methodNamed B.named
  have hlocks := B.notSynchronized
  subst hsz
  have hD := hD0.self (sz := s.heap.size)
  generalize hAe : va_A [(ax, .inr (4, [.ref aj, .ref ap, .ref ar, .ref arow, .ref ak, .int ed, .int dn, .int cp, .int ct])), (ap, .inr (3, [.ref aj, .ref apc, .ref app, .int (nI t)]))] s.heap.size = A at hD ⊢
  have hA : ∀ q : Nat, s.heap.size ≤ q → A q := fun q h => by rw [← hAe]; exact Or.inr h
  have hS : va_S A s.heap s.heap [] := va_S.rf
  have hl := lv_entry ([.ref ax]) (n := 1) (Nat.le_of_ble_eq_true rfl)
  rw [lg_entry_eq]
  generalize (lg_sl ([.ref ax]) ++ List.replicate (1 - (lg_sl ([.ref ax])).length) Slot.unset).toArray = ls at hl ⊢
  have hl : lv_has ls 1 [(0, .ref ax)] := hl
  refine lv_aload_n hx hb dX3_isSetupOver_0 rfl (lv_at hl 0 rfl) ?_
  refine va_get (D := D) (ci := 4) (v := .int dn) (C := RX3) (T := TX3) (N := 9) hx hb hts iX3 hown hK hP 0 rfl rfl 6 (by decide) wf43 (fun _ h9 => h9) rfl dX3_isSetupOver_1 ?_
  refine lv_if_ne (tgt := 17) hx hb dX3_isSetupOver_4 (by decide) (fun c_4 => ?_) (fun c_4 => ?_)
  · refine lv_iconst (v := 1) hx hb dX3_isSetupOver_17 (by decide) ?_
    refine lv_goto (tgt := 22) hx hb dX3_isSetupOver_18 (by decide) ?_
    have hP9 := hP.sub (ws' := [(ax, .inr (4, [.ref aj, .ref ap, .ref ar, .ref arow, .ref ak, .int ed, .int dn, .int cp, .int ct])), (ap, .inr (3, [.ref aj, .ref apc, .ref app, .int (nI t)]))]) [0, 1] rfl
    have hD9 := hD.sub (ws' := [(ax, .inr (4, [.ref aj, .ref ap, .ref ar, .ref arow, .ref ak, .int ed, .int dn, .int cp, .int ct])), (ap, .inr (3, [.ref aj, .ref apc, .ref app, .int (nI t)]))]) [0, 1] (by decide) rfl
    refine W.widen (k := 0) (n := 0) (Nat.le_of_ble_eq_true rfl) (Nat.le_of_ble_eq_true rfl) ?_
    exact W.zret (v := 1) hx hb hr (rfl) (fun t9 ht9 hW9 => ⟨⟨1, (), rfl, by first | rfl | (simp [c_4]; done), by rw [ht9]; exact hP9, va_K.moved hW9.alike hK, hD9⟩, hS.F ht9⟩) hS.2.2 dX3_isSetupOver_22
  · refine lv_aload_n hx hb dX3_isSetupOver_7 rfl (lv_at hl 0 rfl) ?_
    refine va_get (D := D) (ci := 4) (v := .ref ap) (C := RX3) (T := TX3) (N := 9) hx hb hts iX3 hown hK hP 0 rfl rfl 1 (by decide) wf21 (fun _ h9 => h9) rfl dX3_isSetupOver_8 ?_
    refine va_get (D := D) (ci := 3) (v := .int (nI t)) (C := RX2) (T := TX2) (N := 4) hx hb hts iX2 hown hK hP 1 rfl rfl 3 (by decide) wf73 (fun _ h9 => h9) rfl dX3_isSetupOver_11 ?_
    refine lv_if_le (tgt := 21) hx hb dX3_isSetupOver_14 (by decide) (fun c_14 => ?_) (fun c_14 => ?_)
    · refine lv_iconst (v := 0) hx hb dX3_isSetupOver_21 (by decide) ?_
      have hP9 := hP.sub (ws' := [(ax, .inr (4, [.ref aj, .ref ap, .ref ar, .ref arow, .ref ak, .int ed, .int dn, .int cp, .int ct])), (ap, .inr (3, [.ref aj, .ref apc, .ref app, .int (nI t)]))]) [0, 1] rfl
      have hD9 := hD.sub (ws' := [(ax, .inr (4, [.ref aj, .ref ap, .ref ar, .ref arow, .ref ak, .int ed, .int dn, .int cp, .int ct])), (ap, .inr (3, [.ref aj, .ref apc, .ref app, .int (nI t)]))]) [0, 1] (by decide) rfl
      refine W.widen (k := 0) (n := 0) (Nat.le_of_ble_eq_true rfl) (Nat.le_of_ble_eq_true rfl) ?_
      exact W.zret (v := 0) hx hb hr (rfl) (fun t9 ht9 hW9 => ⟨⟨0, (), rfl, by first | rfl | (simp [c_4, c_14]; done), by rw [ht9]; exact hP9, va_K.moved hW9.alike hK, hD9⟩, hS.F ht9⟩) hS.2.2 dX3_isSetupOver_22
    · refine lv_iconst (v := 1) hx hb dX3_isSetupOver_17 (by decide) ?_
      refine lv_goto (tgt := 22) hx hb dX3_isSetupOver_18 (by decide) ?_
      have hP9 := hP.sub (ws' := [(ax, .inr (4, [.ref aj, .ref ap, .ref ar, .ref arow, .ref ak, .int ed, .int dn, .int cp, .int ct])), (ap, .inr (3, [.ref aj, .ref apc, .ref app, .int (nI t)]))]) [0, 1] rfl
      have hD9 := hD.sub (ws' := [(ax, .inr (4, [.ref aj, .ref ap, .ref ar, .ref arow, .ref ak, .int ed, .int dn, .int cp, .int ct])), (ap, .inr (3, [.ref aj, .ref apc, .ref app, .int (nI t)]))]) [0, 1] (by decide) rfl
      refine W.widen (k := 0) (n := 0) (Nat.le_of_ble_eq_true rfl) (Nat.le_of_ble_eq_true rfl) ?_
      exact W.zret (v := 1) hx hb hr (rfl) (fun t9 ht9 hW9 => ⟨⟨1, (), rfl, by first | rfl | (simp [c_4, c_14]; done), by rw [ht9]; exact hP9, va_K.moved hW9.alike hK, hD9⟩, hS.F ht9⟩) hS.2.2 dX3_isSetupOver_22
abbrev rm_X3_goDown : Room := { frames := 0, cells := 0, slots := 0, locals := 0 }
abbrev qc_X3_goDown (D : va_G) (cI cL cZ : ClassId) (ax : Nat) (aj : Nat) (ap : Nat) (ar : Nat) (arow : Nat) (ak : Nat) (ed : Int32) (dn : Int32) (cp : Int32) (ct : Int32) (A : Nat → Prop) : Array Value → State → Outcome → State → Prop := va_Qv (fun (u : Unit) => True) (ct_B D vwCl [(cI, .int), (cL, .long), (cZ, .boolean)] A (fun (u : Unit) => [(ax, .inr (4, [.ref aj, .ref ap, .ref ar, .ref arow, .ref ak, .int ed, .int 1, .int 0, .int (ct + 1)]))])) A
set_option maxHeartbeats 4000000 in
set_option maxRecDepth 100000 in
theorem c_X3_goDown (l : Launch) (D : va_G) (cI cL cZ : ClassId) (ax : Nat) (aj : Nat) (ap : Nat) (ar : Nat) (arow : Nat) (ak : Nat) (ed : Int32) (dn : Int32) (cp : Int32) (ct : Int32) (sz : Nat)  : Met l yX3_goDown wsX3_goDown rm_X3_goDown (va_Pc [.ref ax] (ct_P D vwCl [(cI, .int), (cL, .long), (cZ, .boolean)] [(ax, .inr (4, [.ref aj, .ref ap, .ref ar, .ref arow, .ref ak, .int ed, .int dn, .int cp, .int ct]))] sz)) (qc_X3_goDown D cI cL cZ ax aj ap ar arow ak ed dn cp ct (va_A [(ax, .inr (4, [.ref aj, .ref ap, .ref ar, .ref arow, .ref ak, .int ed, .int dn, .int cp, .int ct]))] sz)) 0 0 (va_A [(ax, .inr (4, [.ref aj, .ref ap, .ref ar, .ref arow, .ref ak, .int ed, .int dn, .int cp, .int ct]))] sz) := by
  refine Met.ofW (cc := cX3_goDown) (maxL := 1) (ret := none) (by decide) rfl ?_
  intro p e s m args below meth cd s₁ B hml hv
  obtain ⟨rfl, hsz, hP, hK, hD0⟩ := hv
  have hx := B.exec
  have hb := B.bytes
  have hr := B.returns
  have hts := atoms_spec (ws := wsX3_goDown) B.pre
  have iX3 : ∀ w ∈ wsX30, w ∈ wsX3_goDown := by decide +kernel
  have wf43 := hts (.fieldLink RX3 43 "CheckRestart" "down" "Z") (by decide +kernel)
  have wf47 := hts (.fieldLink RX3 47 "CheckRestart" "cutPart" "I") (by decide +kernel)
  have wf50 := hts (.fieldLink RX3 50 "CheckRestart" "cutsThatCame" "I") (by decide +kernel)
  have hown : s.vm.findClass RX3 = some m.cls := findClass_of_methodNamed B.named
  have hlocks := B.notSynchronized
  subst hsz
  have hD := hD0.self (sz := s.heap.size)
  generalize hAe : va_A [(ax, .inr (4, [.ref aj, .ref ap, .ref ar, .ref arow, .ref ak, .int ed, .int dn, .int cp, .int ct]))] s.heap.size = A at hD ⊢
  have hA : ∀ q : Nat, s.heap.size ≤ q → A q := fun q h => by rw [← hAe]; exact Or.inr h
  have hS : va_S A s.heap s.heap [] := va_S.rf
  have hl := lv_entry ([.ref ax]) (n := 1) (Nat.le_of_ble_eq_true rfl)
  rw [lg_entry_eq]
  generalize (lg_sl ([.ref ax]) ++ List.replicate (1 - (lg_sl ([.ref ax])).length) Slot.unset).toArray = ls at hl ⊢
  have hl : lv_has ls 1 [(0, .ref ax)] := hl
  refine lv_aload_n hx hb dX3_goDown_0 rfl (lv_at hl 0 rfl) ?_
  refine lv_iconst (v := 1) hx hb dX3_goDown_1 (by decide) ?_
  refine va_put (D := D) (ci := 4) (v := .int 1) (ty := .boolean) (C := RX3) (T := TX3) (N := 9) hx hb hts iX3 tyX3 tyX3_ok nmX3 hown hK hP hD hS 0 rfl rfl 6 (by decide) wf43 (fun _ h9 => h9) rfl (by decide +kernel) rfl rfl (Nat.le_of_ble_eq_true rfl) dX3_goDown_2 (fun H locs hP hD hS => ?_)
  have hP : va_P D vwCl [(ax, .inr (4, [.ref aj, .ref ap, .ref ar, .ref arow, .ref ak, .int ed, .int 1, .int cp, .int ct]))] H := hP
  have hD : va_D A [(ax, .inr (4, [.ref aj, .ref ap, .ref ar, .ref arow, .ref ak, .int ed, .int 1, .int cp, .int ct]))] := hD
  refine lv_aload_n hx hb dX3_goDown_5 rfl (lv_at hl 0 rfl) ?_
  refine lv_iconst (v := 0) hx hb dX3_goDown_6 (by decide) ?_
  refine va_put (D := D) (ci := 4) (v := .int 0) (ty := .int) (C := RX3) (T := TX3) (N := 9) hx hb hts iX3 tyX3 tyX3_ok nmX3 hown hK hP hD hS 0 rfl rfl 7 (by decide) wf47 (fun _ h9 => h9) rfl (by decide +kernel) rfl rfl (Nat.le_of_ble_eq_true rfl) dX3_goDown_7 (fun H locs hP hD hS => ?_)
  have hP : va_P D vwCl [(ax, .inr (4, [.ref aj, .ref ap, .ref ar, .ref arow, .ref ak, .int ed, .int 1, .int 0, .int ct]))] H := hP
  have hD : va_D A [(ax, .inr (4, [.ref aj, .ref ap, .ref ar, .ref arow, .ref ak, .int ed, .int 1, .int 0, .int ct]))] := hD
  refine lv_aload_n hx hb dX3_goDown_10 rfl (lv_at hl 0 rfl) ?_
  refine lv_dup hx hb dX3_goDown_11 rfl ?_
  refine va_get (D := D) (ci := 4) (v := .int ct) (C := RX3) (T := TX3) (N := 9) hx hb hts iX3 hown hK hP 0 rfl rfl 8 (by decide) wf50 (fun _ h9 => h9) rfl dX3_goDown_12 ?_
  refine lv_iconst (v := 1) hx hb dX3_goDown_15 (by decide) ?_
  refine lv_iadd hx hb dX3_goDown_16 ?_
  refine va_put (D := D) (ci := 4) (v := .int (ct + 1)) (ty := .int) (C := RX3) (T := TX3) (N := 9) hx hb hts iX3 tyX3 tyX3_ok nmX3 hown hK hP hD hS 0 rfl rfl 8 (by decide) wf50 (fun _ h9 => h9) rfl (by decide +kernel) rfl rfl (Nat.le_of_ble_eq_true rfl) dX3_goDown_17 (fun H locs hP hD hS => ?_)
  have hP : va_P D vwCl [(ax, .inr (4, [.ref aj, .ref ap, .ref ar, .ref arow, .ref ak, .int ed, .int 1, .int 0, .int (ct + 1)]))] H := hP
  have hD : va_D A [(ax, .inr (4, [.ref aj, .ref ap, .ref ar, .ref arow, .ref ak, .int ed, .int 1, .int 0, .int (ct + 1)]))] := hD
  have hP9 := hP.sub (ws' := [(ax, .inr (4, [.ref aj, .ref ap, .ref ar, .ref arow, .ref ak, .int ed, .int 1, .int 0, .int (ct + 1)]))]) [0] rfl
  have hD9 := hD.sub (ws' := [(ax, .inr (4, [.ref aj, .ref ap, .ref ar, .ref arow, .ref ak, .int ed, .int 1, .int 0, .int (ct + 1)]))]) [0] (by decide) rfl
  refine W.widen (k := 0) (n := 0) (Nat.le_of_ble_eq_true rfl) (Nat.le_of_ble_eq_true rfl) ?_
  exact W.vret hx hb hr (fun t9 ht9 hW9 => ⟨⟨(), rfl, trivial, by rw [ht9]; exact hP9, va_K.moved hW9.alike hK, hD9⟩, hS.F ht9⟩) hS.2.2 dX3_goDown_20
abbrev rm_X3_hasRow : Room := { frames := 0, cells := 0, slots := 0, locals := 0 }
abbrev qc_X3_hasRow (D : va_G) (cI cL cZ : ClassId) (ax : Nat) (aj : Nat) (ap : Nat) (ar : Nat) (arow : Nat) (ak : Nat) (ed : Int32) (dn : Int32) (cp : Int32) (ct : Int32) (apc : Nat) (app : Nat) (t : Nat) (x : Int32) (A : Nat → Prop) : Array Value → State → Outcome → State → Prop := va_Qi (fun (r : Int32) (u : Unit) => ((if x < 0 ∨ nI t ≤ x then 0 else 1) = r)) (ct_B D vwCl [(cI, .int), (cL, .long), (cZ, .boolean)] A (fun (u : Unit) => [(ax, .inr (4, [.ref aj, .ref ap, .ref ar, .ref arow, .ref ak, .int ed, .int dn, .int cp, .int ct])), (ap, .inr (3, [.ref aj, .ref apc, .ref app, .int (nI t)]))])) A
set_option maxHeartbeats 4000000 in
set_option maxRecDepth 100000 in
theorem c_X3_hasRow (l : Launch) (D : va_G) (cI cL cZ : ClassId) (ax : Nat) (aj : Nat) (ap : Nat) (ar : Nat) (arow : Nat) (ak : Nat) (ed : Int32) (dn : Int32) (cp : Int32) (ct : Int32) (apc : Nat) (app : Nat) (t : Nat) (x : Int32) (sz : Nat)  : Met l yX3_hasRow wsX3_hasRow rm_X3_hasRow (va_Pc [.ref ax, .int x] (ct_P D vwCl [(cI, .int), (cL, .long), (cZ, .boolean)] [(ax, .inr (4, [.ref aj, .ref ap, .ref ar, .ref arow, .ref ak, .int ed, .int dn, .int cp, .int ct])), (ap, .inr (3, [.ref aj, .ref apc, .ref app, .int (nI t)]))] sz)) (qc_X3_hasRow D cI cL cZ ax aj ap ar arow ak ed dn cp ct apc app t x (va_A [(ax, .inr (4, [.ref aj, .ref ap, .ref ar, .ref arow, .ref ak, .int ed, .int dn, .int cp, .int ct])), (ap, .inr (3, [.ref aj, .ref apc, .ref app, .int (nI t)]))] sz)) 0 0 (va_A [(ax, .inr (4, [.ref aj, .ref ap, .ref ar, .ref arow, .ref ak, .int ed, .int dn, .int cp, .int ct])), (ap, .inr (3, [.ref aj, .ref apc, .ref app, .int (nI t)]))] sz) := by
  refine Met.ofW (cc := cX3_hasRow) (maxL := 2) (ret := (some .boolean)) (by decide) rfl ?_
  intro p e s m args below meth cd s₁ B hml hv
  obtain ⟨rfl, hsz, hP, hK, hD0⟩ := hv
  have hx := B.exec
  have hb := B.bytes
  have hr := B.returns
  have hts := atoms_spec (ws := wsX3_hasRow) B.pre
  have iX3 : ∀ w ∈ wsX30, w ∈ wsX3_hasRow := by decide +kernel
  have wf21 := hts (.fieldLink RX3 21 "CheckRestart" "progress" "LCheckRestart$Progress;") (by decide +kernel)
  have iX2 : ∀ w ∈ wsX20, w ∈ wsX3_hasRow := by decide +kernel
  have wf73 := hts (.fieldLink RX3 73 "CheckRestart$Progress" "units" "I") (by decide +kernel)
  have hown : s.vm.findClass RX3 = some m.cls := findClass_of_methodNamed B.named
  have hlocks := B.notSynchronized
  subst hsz
  have hD := hD0.self (sz := s.heap.size)
  generalize hAe : va_A [(ax, .inr (4, [.ref aj, .ref ap, .ref ar, .ref arow, .ref ak, .int ed, .int dn, .int cp, .int ct])), (ap, .inr (3, [.ref aj, .ref apc, .ref app, .int (nI t)]))] s.heap.size = A at hD ⊢
  have hA : ∀ q : Nat, s.heap.size ≤ q → A q := fun q h => by rw [← hAe]; exact Or.inr h
  have hS : va_S A s.heap s.heap [] := va_S.rf
  have hl := lv_entry ([.ref ax, .int x]) (n := 2) (Nat.le_of_ble_eq_true rfl)
  rw [lg_entry_eq]
  generalize (lg_sl ([.ref ax, .int x]) ++ List.replicate (2 - (lg_sl ([.ref ax, .int x])).length) Slot.unset).toArray = ls at hl ⊢
  have hl : lv_has ls 2 [(0, .ref ax), (1, .int x)] := hl
  refine lv_iload_n hx hb dX3_hasRow_0 rfl (lv_at hl 1 rfl) ?_
  refine lv_if_lt (tgt := 19) hx hb dX3_hasRow_1 (by decide) (fun c_1 => ?_) (fun c_1 => ?_)
  · refine lv_iconst (v := 0) hx hb dX3_hasRow_19 (by decide) ?_
    have hP9 := hP.sub (ws' := [(ax, .inr (4, [.ref aj, .ref ap, .ref ar, .ref arow, .ref ak, .int ed, .int dn, .int cp, .int ct])), (ap, .inr (3, [.ref aj, .ref apc, .ref app, .int (nI t)]))]) [0, 1] rfl
    have hD9 := hD.sub (ws' := [(ax, .inr (4, [.ref aj, .ref ap, .ref ar, .ref arow, .ref ak, .int ed, .int dn, .int cp, .int ct])), (ap, .inr (3, [.ref aj, .ref apc, .ref app, .int (nI t)]))]) [0, 1] (by decide) rfl
    refine W.widen (k := 0) (n := 0) (Nat.le_of_ble_eq_true rfl) (Nat.le_of_ble_eq_true rfl) ?_
    exact W.zret (v := 0) hx hb hr (rfl) (fun t9 ht9 hW9 => ⟨⟨0, (), rfl, by first | rfl | (simp [c_1]; done), by rw [ht9]; exact hP9, va_K.moved hW9.alike hK, hD9⟩, hS.F ht9⟩) hS.2.2 dX3_hasRow_20
  · refine lv_iload_n hx hb dX3_hasRow_4 rfl (lv_at hl 1 rfl) ?_
    refine lv_aload_n hx hb dX3_hasRow_5 rfl (lv_at hl 0 rfl) ?_
    refine va_get (D := D) (ci := 4) (v := .ref ap) (C := RX3) (T := TX3) (N := 9) hx hb hts iX3 hown hK hP 0 rfl rfl 1 (by decide) wf21 (fun _ h9 => h9) rfl dX3_hasRow_6 ?_
    refine va_get (D := D) (ci := 3) (v := .int (nI t)) (C := RX2) (T := TX2) (N := 4) hx hb hts iX2 hown hK hP 1 rfl rfl 3 (by decide) wf73 (fun _ h9 => h9) rfl dX3_hasRow_9 ?_
    refine lv_icmp_ge (tgt := 19) hx hb dX3_hasRow_12 (by decide) (fun c_12 => ?_) (fun c_12 => ?_)
    · refine lv_iconst (v := 0) hx hb dX3_hasRow_19 (by decide) ?_
      have hP9 := hP.sub (ws' := [(ax, .inr (4, [.ref aj, .ref ap, .ref ar, .ref arow, .ref ak, .int ed, .int dn, .int cp, .int ct])), (ap, .inr (3, [.ref aj, .ref apc, .ref app, .int (nI t)]))]) [0, 1] rfl
      have hD9 := hD.sub (ws' := [(ax, .inr (4, [.ref aj, .ref ap, .ref ar, .ref arow, .ref ak, .int ed, .int dn, .int cp, .int ct])), (ap, .inr (3, [.ref aj, .ref apc, .ref app, .int (nI t)]))]) [0, 1] (by decide) rfl
      refine W.widen (k := 0) (n := 0) (Nat.le_of_ble_eq_true rfl) (Nat.le_of_ble_eq_true rfl) ?_
      exact W.zret (v := 0) hx hb hr (rfl) (fun t9 ht9 hW9 => ⟨⟨0, (), rfl, by first | rfl | (simp [c_1, c_12]; done), by rw [ht9]; exact hP9, va_K.moved hW9.alike hK, hD9⟩, hS.F ht9⟩) hS.2.2 dX3_hasRow_20
    · refine lv_iconst (v := 1) hx hb dX3_hasRow_15 (by decide) ?_
      refine lv_goto (tgt := 20) hx hb dX3_hasRow_16 (by decide) ?_
      have hP9 := hP.sub (ws' := [(ax, .inr (4, [.ref aj, .ref ap, .ref ar, .ref arow, .ref ak, .int ed, .int dn, .int cp, .int ct])), (ap, .inr (3, [.ref aj, .ref apc, .ref app, .int (nI t)]))]) [0, 1] rfl
      have hD9 := hD.sub (ws' := [(ax, .inr (4, [.ref aj, .ref ap, .ref ar, .ref arow, .ref ak, .int ed, .int dn, .int cp, .int ct])), (ap, .inr (3, [.ref aj, .ref apc, .ref app, .int (nI t)]))]) [0, 1] (by decide) rfl
      refine W.widen (k := 0) (n := 0) (Nat.le_of_ble_eq_true rfl) (Nat.le_of_ble_eq_true rfl) ?_
      exact W.zret (v := 1) hx hb hr (rfl) (fun t9 ht9 hW9 => ⟨⟨1, (), rfl, by first | rfl | (simp [c_1, c_12]; done), by rw [ht9]; exact hP9, va_K.moved hW9.alike hK, hD9⟩, hS.F ht9⟩) hS.2.2 dX3_hasRow_20
abbrev rm_X3_asNumber : Room := { frames := 0, cells := 0, slots := 0, locals := 0 }
abbrev qc_X3_asNumber (D : va_G) (cI cL cZ : ClassId) (x : Int32) (A : Nat → Prop) : Array Value → State → Outcome → State → Prop := va_Qi (fun (r : Int32) (u : Unit) => (if x = 0 then 0 else 1) = r) (ct_B D vwCl [(cI, .int), (cL, .long), (cZ, .boolean)] A (fun (u : Unit) => [])) A
set_option maxHeartbeats 4000000 in
set_option maxRecDepth 100000 in
theorem c_X3_asNumber (l : Launch) (D : va_G) (cI cL cZ : ClassId) (x : Int32) (sz : Nat)  : Met l yX3_asNumber wsX3_asNumber rm_X3_asNumber (va_Pc [.int x] (ct_P D vwCl [(cI, .int), (cL, .long), (cZ, .boolean)] [] sz)) (qc_X3_asNumber D cI cL cZ x (va_A [] sz)) 0 0 (va_A [] sz) := by
  refine Met.ofW (cc := cX3_asNumber) (maxL := 1) (ret := (some .int)) (by decide) rfl ?_
  intro p e s m args below meth cd s₁ B hml hv
  obtain ⟨rfl, hsz, hP, hK, hD0⟩ := hv
  have hx := B.exec
  have hb := B.bytes
  have hr := B.returns
  have hts := atoms_spec (ws := wsX3_asNumber) B.pre
  have hown : s.vm.findClass RX3 = some m.cls := findClass_of_methodNamed B.named
  have hlocks := B.notSynchronized
  subst hsz
  have hD := hD0.self (sz := s.heap.size)
  generalize hAe : va_A [] s.heap.size = A at hD ⊢
  have hA : ∀ q : Nat, s.heap.size ≤ q → A q := fun q h => by rw [← hAe]; exact Or.inr h
  have hS : va_S A s.heap s.heap [] := va_S.rf
  have hl := lv_entry ([.int x]) (n := 1) (Nat.le_of_ble_eq_true rfl)
  rw [lg_entry_eq]
  generalize (lg_sl ([.int x]) ++ List.replicate (1 - (lg_sl ([.int x])).length) Slot.unset).toArray = ls at hl ⊢
  have hl : lv_has ls 1 [(0, .int x)] := hl
  refine lv_iload_n hx hb dX3_asNumber_0 rfl (lv_at hl 0 rfl) ?_
  refine lv_if_eq (tgt := 8) hx hb dX3_asNumber_1 (by decide) (fun c_1 => ?_) (fun c_1 => ?_)
  · refine lv_iconst (v := 0) hx hb dX3_asNumber_8 (by decide) ?_
    have hP9 := hP.sub (ws' := []) [] rfl
    have hD9 := hD.sub (ws' := []) [] (by decide) rfl
    refine W.widen (k := 0) (n := 0) (Nat.le_of_ble_eq_true rfl) (Nat.le_of_ble_eq_true rfl) ?_
    exact W.iret (v := 0) hx hb hr (fun t9 ht9 hW9 => ⟨⟨0, (), rfl, by first | rfl | (simp [c_1]; done), by rw [ht9]; exact hP9, va_K.moved hW9.alike hK, hD9⟩, hS.F ht9⟩) hS.2.2 dX3_asNumber_9
  · refine lv_iconst (v := 1) hx hb dX3_asNumber_4 (by decide) ?_
    refine lv_goto (tgt := 9) hx hb dX3_asNumber_5 (by decide) ?_
    have hP9 := hP.sub (ws' := []) [] rfl
    have hD9 := hD.sub (ws' := []) [] (by decide) rfl
    refine W.widen (k := 0) (n := 0) (Nat.le_of_ble_eq_true rfl) (Nat.le_of_ble_eq_true rfl) ?_
    exact W.iret (v := 1) hx hb hr (fun t9 ht9 hW9 => ⟨⟨1, (), rfl, by first | rfl | (simp [c_1]; done), by rw [ht9]; exact hP9, va_K.moved hW9.alike hK, hD9⟩, hS.F ht9⟩) hS.2.2 dX3_asNumber_9
abbrev rm_X3_cell : Room := { frames := 1, cells := 0, slots := 0, locals := 20 }
abbrev qc_X3_cell (D : va_G) (cI cL cZ : ClassId) (ax : Nat) (aj : Nat) (ap : Nat) (ar : Nat) (arow : Nat) (ak : Nat) (ed : Int32) (dn : Int32) (cp : Int32) (ct : Int32) (apc : Nat) (app : Nat) (t : Nat) (af : Nat) (al : Nat) (c : Nat) (f : Nat) (fv : Nat → Int64) (cs : Nat → Int64) (v : Int64) (A : Nat → Prop) : Array Value → State → Outcome → State → Prop := va_Qi (fun (r : Int32) (u : Nat × (Nat → Int64) × (Nat → Int64)) => (ce_r dn t c) = r ∧ (ce_c dn t c) = u.1 ∧ (ce_a dn t c fv v) = u.2.1 ∧ (ce_a dn t c cs v) = u.2.2) (ct_B D vwCl [(cI, .int), (cL, .long), (cZ, .boolean)] A (fun (u : Nat × (Nat → Int64) × (Nat → Int64)) => [(ax, .inr (4, [.ref aj, .ref ap, .ref ar, .ref arow, .ref ak, .int ed, .int dn, .int cp, .int ct])), (aj, .inr (2, [.ref af, .ref al, .int (nI u.1), .int (nI f)])), (af, .inl (cL, 12, .inr (.inl u.2.1))), (ap, .inr (3, [.ref aj, .ref apc, .ref app, .int (nI t)])), (apc, .inl (cL, 12, .inr (.inl u.2.2)))])) A
set_option maxHeartbeats 4000000 in
set_option maxRecDepth 100000 in
theorem c_X3_cell (l : Launch) (D : va_G) (cI cL cZ : ClassId) (ax : Nat) (aj : Nat) (ap : Nat) (ar : Nat) (arow : Nat) (ak : Nat) (ed : Int32) (dn : Int32) (cp : Int32) (ct : Int32) (apc : Nat) (app : Nat) (t : Nat) (af : Nat) (al : Nat) (c : Nat) (f : Nat) (fv : Nat → Int64) (cs : Nat → Int64) (v : Int64) (sz : Nat) (hc : c ≤ 12) : Met l yX3_cell wsX3_cell rm_X3_cell (va_Pc [.ref ax, .long v] (ct_P D vwCl [(cI, .int), (cL, .long), (cZ, .boolean)] [(ax, .inr (4, [.ref aj, .ref ap, .ref ar, .ref arow, .ref ak, .int ed, .int dn, .int cp, .int ct])), (aj, .inr (2, [.ref af, .ref al, .int (nI c), .int (nI f)])), (af, .inl (cL, 12, .inr (.inl fv))), (ap, .inr (3, [.ref aj, .ref apc, .ref app, .int (nI t)])), (apc, .inl (cL, 12, .inr (.inl cs)))] sz)) (qc_X3_cell D cI cL cZ ax aj ap ar arow ak ed dn cp ct apc app t af al c f fv cs v (va_A [(ax, .inr (4, [.ref aj, .ref ap, .ref ar, .ref arow, .ref ak, .int ed, .int dn, .int cp, .int ct])), (aj, .inr (2, [.ref af, .ref al, .int (nI c), .int (nI f)])), (af, .inl (cL, 12, .inr (.inl fv))), (ap, .inr (3, [.ref aj, .ref apc, .ref app, .int (nI t)])), (apc, .inl (cL, 12, .inr (.inl cs)))] sz)) 0 0 (va_A [(ax, .inr (4, [.ref aj, .ref ap, .ref ar, .ref arow, .ref ak, .int ed, .int dn, .int cp, .int ct])), (aj, .inr (2, [.ref af, .ref al, .int (nI c), .int (nI f)])), (af, .inl (cL, 12, .inr (.inl fv))), (ap, .inr (3, [.ref aj, .ref apc, .ref app, .int (nI t)])), (apc, .inl (cL, 12, .inr (.inl cs)))] sz) := by
  refine Met.ofW (cc := cX3_cell) (maxL := 4) (ret := (some .int)) (by decide) rfl ?_
  intro p e s m args below meth cd s₁ B hml hv
  obtain ⟨rfl, hsz, hP, hK, hD0⟩ := hv
  have hx := B.exec
  have hb := B.bytes
  have hr := B.returns
  have hts := atoms_spec (ws := wsX3_cell) B.pre
  have iX3 : ∀ w ∈ wsX30, w ∈ wsX3_cell := by decide +kernel
  have wf10 := hts (.fieldLink RX3 10 "CheckRestart" "job" "LCheckRestart$Job;") (by decide +kernel)
  have iX1 : ∀ w ∈ wsX10, w ∈ wsX3_cell := by decide +kernel
  have wf57 := hts (.fieldLink RX3 57 "CheckRestart$Job" "cellCount" "I") (by decide +kernel)
  have wf60 := hts (.fieldLink RX3 60 "CheckRestart$Job" "firstValues" "[J") (by decide +kernel)
  have wf21 := hts (.fieldLink RX3 21 "CheckRestart" "progress" "LCheckRestart$Progress;") (by decide +kernel)
  have iX2 : ∀ w ∈ wsX20, w ∈ wsX3_cell := by decide +kernel
  have wf63 := hts (.fieldLink RX3 63 "CheckRestart$Progress" "cells" "[J") (by decide +kernel)
  have hown : s.vm.findClass RX3 = some m.cls := findClass_of_methodNamed B.named
  have hlocks := B.notSynchronized
  subst hsz
  have hD := hD0.self (sz := s.heap.size)
  generalize hAe : va_A [(ax, .inr (4, [.ref aj, .ref ap, .ref ar, .ref arow, .ref ak, .int ed, .int dn, .int cp, .int ct])), (aj, .inr (2, [.ref af, .ref al, .int (nI c), .int (nI f)])), (af, .inl (cL, 12, .inr (.inl fv))), (ap, .inr (3, [.ref aj, .ref apc, .ref app, .int (nI t)])), (apc, .inl (cL, 12, .inr (.inl cs)))] s.heap.size = A at hD ⊢
  have hA : ∀ q : Nat, s.heap.size ≤ q → A q := fun q h => by rw [← hAe]; exact Or.inr h
  have hS : va_S A s.heap s.heap [] := va_S.rf
  have hl := lv_entry ([.ref ax, .long v]) (n := 4) (Nat.le_of_ble_eq_true rfl)
  rw [lg_entry_eq]
  generalize (lg_sl ([.ref ax, .long v]) ++ List.replicate (4 - (lg_sl ([.ref ax, .long v])).length) Slot.unset).toArray = ls at hl ⊢
  have hl : lv_has ls 4 [(0, .ref ax), (1, .long v)] := hl
  refine lv_aload_n hx hb dX3_cell_0 rfl (lv_at hl 0 rfl) ?_
  refine ct_calli (wr := [(aj, .inr (2, [.ref af, .ref al, .int (nI c), .int (nI f)])), (af, .inl (cL, 12, .inr (.inl fv))), (apc, .inl (cL, 12, .inr (.inl cs)))]) (rest := []) hP hD hS hA [0, 3] [1, 2, 4] (va_runV (C := RX3) (As := []) ⟨hx, hb, hml, hown, hts⟩ (c_X3_isSetupOver l D cI cL cZ ax aj ap ar arow ak ed dn cp ct apc app t _ ) (cwV 0 hts gX3_cell_X3_isSetupOver rfl rfl rfl (by decide +kernel) ⟨Nat.le_of_ble_eq_true rfl, Nat.le_of_ble_eq_true rfl⟩) (ct_preV (q0 := 0) (ci := 4) hK hP hD [0, 3] (by decide) rfl rfl rfl rfl rfl) rfl rfl hl.1 rfl (lv_room (Nat.le_of_ble_eq_true rfl)) dX3_cell_1 ⟨Nat.le_of_ble_eq_true rfl, Nat.le_of_ble_eq_true rfl⟩) rfl rfl (by decide) (by decide) (fun r_1 u H locs hw hP hD hS => ?_)
  try dsimp only at hw
  obtain rfl := hw
  have hP : va_P D vwCl [(aj, .inr (2, [.ref af, .ref al, .int (nI c), .int (nI f)])), (af, .inl (cL, 12, .inr (.inl fv))), (apc, .inl (cL, 12, .inr (.inl cs))), (ax, .inr (4, [.ref aj, .ref ap, .ref ar, .ref arow, .ref ak, .int ed, .int dn, .int cp, .int ct])), (ap, .inr (3, [.ref aj, .ref apc, .ref app, .int (nI t)]))] H := hP
  have hD : va_D A [(aj, .inr (2, [.ref af, .ref al, .int (nI c), .int (nI f)])), (af, .inl (cL, 12, .inr (.inl fv))), (apc, .inl (cL, 12, .inr (.inl cs))), (ax, .inr (4, [.ref aj, .ref ap, .ref ar, .ref arow, .ref ak, .int ed, .int dn, .int cp, .int ct])), (ap, .inr (3, [.ref aj, .ref apc, .ref app, .int (nI t)]))] := hD
  refine lv_if_eq (tgt := 10) hx hb dX3_cell_4 (by decide) (fun c_4 => ?_) (fun c_4 => ?_)
  · have h0 := cr_if01 _ c_4
    refine lv_aload_n hx hb dX3_cell_10 rfl (lv_at hl 0 rfl) ?_
    refine va_get (D := D) (ci := 4) (v := .ref aj) (C := RX3) (T := TX3) (N := 9) hx hb hts iX3 hown hK hP 3 rfl rfl 0 (by decide) wf10 (fun _ h9 => h9) rfl dX3_cell_11 ?_
    refine va_get (D := D) (ci := 2) (v := .int (nI c)) (C := RX1) (T := TX1) (N := 4) hx hb hts iX1 hown hK hP 0 rfl rfl 2 (by decide) wf57 (fun _ h9 => h9) rfl dX3_cell_14 ?_
    refine lv_bipush (v := 12) hx hb dX3_cell_17 (by decide) ?_
    refine lv_icmp_lt (tgt := 24) hx hb dX3_cell_19 (by decide) (fun c_19 => ?_) (fun c_19 => ?_)
    · have h1 : c < 12 := (nI_ltI (a := c) (b := 12) (by omega) (by omega)).mp c_19
      refine lv_aload_n hx hb dX3_cell_24 rfl (lv_at hl 0 rfl) ?_
      refine va_get (D := D) (ci := 4) (v := .ref aj) (C := RX3) (T := TX3) (N := 9) hx hb hts iX3 hown hK hP 3 rfl rfl 0 (by decide) wf10 (fun _ h9 => h9) rfl dX3_cell_25 ?_
      refine va_get (D := D) (ci := 2) (v := .int (nI c)) (C := RX1) (T := TX1) (N := 4) hx hb hts iX1 hown hK hP 0 rfl rfl 2 (by decide) wf57 (fun _ h9 => h9) rfl dX3_cell_28 ?_
      refine lv_istore_n (lv' := [(3, .int (nI c)), (0, .ref ax), (1, .long v)]) hx hb dX3_cell_31 rfl hl (by decide) rfl (fun ls hl => ?_)
      refine lv_aload_n hx hb dX3_cell_32 rfl (lv_at hl 1 rfl) ?_
      refine va_get (D := D) (ci := 4) (v := .ref aj) (C := RX3) (T := TX3) (N := 9) hx hb hts iX3 hown hK hP 3 rfl rfl 0 (by decide) wf10 (fun _ h9 => h9) rfl dX3_cell_33 ?_
      refine va_get (D := D) (ci := 2) (v := .ref af) (C := RX1) (T := TX1) (N := 4) hx hb hts iX1 hown hK hP 0 rfl rfl 0 (by decide) wf60 (fun _ h9 => h9) rfl dX3_cell_36 ?_
      refine lv_iload_n hx hb dX3_cell_39 rfl (lv_at hl 0 rfl) ?_
      refine lv_lload_n hx hb dX3_cell_40 rfl (lv_at hl 2 rfl) ?_
      refine ct_last (k := c) hx hb hK hP hD hS 1 1 rfl rfl (by omega) (by decide) dX3_cell_41 (fun H locs hP hD hS => ?_)
      have hP : va_P D vwCl [(aj, .inr (2, [.ref af, .ref al, .int (nI c), .int (nI f)])), (af, .inl (cL, 12, .inr (.inl (vp_updL fv c v)))), (apc, .inl (cL, 12, .inr (.inl cs))), (ax, .inr (4, [.ref aj, .ref ap, .ref ar, .ref arow, .ref ak, .int ed, .int dn, .int cp, .int ct])), (ap, .inr (3, [.ref aj, .ref apc, .ref app, .int (nI t)]))] H := hP
      have hD : va_D A [(aj, .inr (2, [.ref af, .ref al, .int (nI c), .int (nI f)])), (af, .inl (cL, 12, .inr (.inl (vp_updL fv c v)))), (apc, .inl (cL, 12, .inr (.inl cs))), (ax, .inr (4, [.ref aj, .ref ap, .ref ar, .ref arow, .ref ak, .int ed, .int dn, .int cp, .int ct])), (ap, .inr (3, [.ref aj, .ref apc, .ref app, .int (nI t)]))] := hD
      refine lv_aload_n hx hb dX3_cell_42 rfl (lv_at hl 1 rfl) ?_
      refine va_get (D := D) (ci := 4) (v := .ref aj) (C := RX3) (T := TX3) (N := 9) hx hb hts iX3 hown hK hP 3 rfl rfl 0 (by decide) wf10 (fun _ h9 => h9) rfl dX3_cell_43 ?_
      refine lv_dup hx hb dX3_cell_46 rfl ?_
      refine va_get (D := D) (ci := 2) (v := .int (nI c)) (C := RX1) (T := TX1) (N := 4) hx hb hts iX1 hown hK hP 0 rfl rfl 2 (by decide) wf57 (fun _ h9 => h9) rfl dX3_cell_47 ?_
      refine lv_iconst (v := 1) hx hb dX3_cell_50 (by decide) ?_
      refine lv_iadd hx hb dX3_cell_51 ?_
      refine ct_topi (y := (nI (c + 1))) (nI_1 c) ?_
      refine va_put (D := D) (ci := 2) (v := .int (nI (c + 1))) (ty := .int) (C := RX1) (T := TX1) (N := 4) hx hb hts iX1 tyX1 tyX1_ok nmX1 hown hK hP hD hS 0 rfl rfl 2 (by decide) wf57 (fun _ h9 => h9) rfl (by decide +kernel) rfl rfl (Nat.le_of_ble_eq_true rfl) dX3_cell_52 (fun H locs hP hD hS => ?_)
      have hP : va_P D vwCl [(aj, .inr (2, [.ref af, .ref al, .int (nI (c + 1)), .int (nI f)])), (af, .inl (cL, 12, .inr (.inl (vp_updL fv c v)))), (apc, .inl (cL, 12, .inr (.inl cs))), (ax, .inr (4, [.ref aj, .ref ap, .ref ar, .ref arow, .ref ak, .int ed, .int dn, .int cp, .int ct])), (ap, .inr (3, [.ref aj, .ref apc, .ref app, .int (nI t)]))] H := hP
      have hD : va_D A [(aj, .inr (2, [.ref af, .ref al, .int (nI (c + 1)), .int (nI f)])), (af, .inl (cL, 12, .inr (.inl (vp_updL fv c v)))), (apc, .inl (cL, 12, .inr (.inl cs))), (ax, .inr (4, [.ref aj, .ref ap, .ref ar, .ref arow, .ref ak, .int ed, .int dn, .int cp, .int ct])), (ap, .inr (3, [.ref aj, .ref apc, .ref app, .int (nI t)]))] := hD
      refine lv_aload_n hx hb dX3_cell_55 rfl (lv_at hl 1 rfl) ?_
      refine va_get (D := D) (ci := 4) (v := .ref ap) (C := RX3) (T := TX3) (N := 9) hx hb hts iX3 hown hK hP 3 rfl rfl 1 (by decide) wf21 (fun _ h9 => h9) rfl dX3_cell_56 ?_
      refine va_get (D := D) (ci := 3) (v := .ref apc) (C := RX2) (T := TX2) (N := 4) hx hb hts iX2 hown hK hP 4 rfl rfl 1 (by decide) wf63 (fun _ h9 => h9) rfl dX3_cell_59 ?_
      refine lv_iload_n hx hb dX3_cell_62 rfl (lv_at hl 0 rfl) ?_
      refine lv_lload_n hx hb dX3_cell_63 rfl (lv_at hl 2 rfl) ?_
      refine ct_last (k := c) hx hb hK hP hD hS 2 1 rfl rfl (by omega) (by decide) dX3_cell_64 (fun H locs hP hD hS => ?_)
      have hP : va_P D vwCl [(aj, .inr (2, [.ref af, .ref al, .int (nI (c + 1)), .int (nI f)])), (af, .inl (cL, 12, .inr (.inl (vp_updL fv c v)))), (apc, .inl (cL, 12, .inr (.inl (vp_updL cs c v)))), (ax, .inr (4, [.ref aj, .ref ap, .ref ar, .ref arow, .ref ak, .int ed, .int dn, .int cp, .int ct])), (ap, .inr (3, [.ref aj, .ref apc, .ref app, .int (nI t)]))] H := hP
      have hD : va_D A [(aj, .inr (2, [.ref af, .ref al, .int (nI (c + 1)), .int (nI f)])), (af, .inl (cL, 12, .inr (.inl (vp_updL fv c v)))), (apc, .inl (cL, 12, .inr (.inl (vp_updL cs c v)))), (ax, .inr (4, [.ref aj, .ref ap, .ref ar, .ref arow, .ref ak, .int ed, .int dn, .int cp, .int ct])), (ap, .inr (3, [.ref aj, .ref apc, .ref app, .int (nI t)]))] := hD
      refine lv_iload_n hx hb dX3_cell_65 rfl (lv_at hl 0 rfl) ?_
      have hP9 := hP.sub (ws' := [(ax, .inr (4, [.ref aj, .ref ap, .ref ar, .ref arow, .ref ak, .int ed, .int dn, .int cp, .int ct])), (aj, .inr (2, [.ref af, .ref al, .int (nI (c + 1)), .int (nI f)])), (af, .inl (cL, 12, .inr (.inl (vp_updL fv c v)))), (ap, .inr (3, [.ref aj, .ref apc, .ref app, .int (nI t)])), (apc, .inl (cL, 12, .inr (.inl (vp_updL cs c v))))]) [3, 0, 1, 4, 2] rfl
      have hD9 := hD.sub (ws' := [(ax, .inr (4, [.ref aj, .ref ap, .ref ar, .ref arow, .ref ak, .int ed, .int dn, .int cp, .int ct])), (aj, .inr (2, [.ref af, .ref al, .int (nI (c + 1)), .int (nI f)])), (af, .inl (cL, 12, .inr (.inl (vp_updL fv c v)))), (ap, .inr (3, [.ref aj, .ref apc, .ref app, .int (nI t)])), (apc, .inl (cL, 12, .inr (.inl (vp_updL cs c v))))]) [3, 0, 1, 4, 2] (by decide) rfl
      refine W.widen (k := 0) (n := 0) (Nat.le_of_ble_eq_true rfl) (Nat.le_of_ble_eq_true rfl) ?_
      exact W.iret (v := (nI c)) hx hb hr (fun t9 ht9 hW9 => ⟨⟨(nI c), ((c + 1), (vp_updL fv c v), (vp_updL cs c v)), rfl, ⟨by unfold ce_r; rw [if_pos h0, if_pos c_19], by unfold ce_c; rw [if_pos ⟨h0, h1⟩], by unfold ce_a; rw [if_pos ⟨h0, h1⟩], by unfold ce_a; rw [if_pos ⟨h0, h1⟩]⟩, by rw [ht9]; exact hP9, va_K.moved hW9.alike hK, hD9⟩, hS.F ht9⟩) hS.2.2 dX3_cell_66
    · have h1 : ¬ c < 12 := fun q => c_19 (nI_lt (a := c) (b := 12) q (by omega))
      refine lv_iconst (v := (-1)) hx hb dX3_cell_22 (by decide) ?_
      have hP9 := hP.sub (ws' := [(ax, .inr (4, [.ref aj, .ref ap, .ref ar, .ref arow, .ref ak, .int ed, .int dn, .int cp, .int ct])), (aj, .inr (2, [.ref af, .ref al, .int (nI c), .int (nI f)])), (af, .inl (cL, 12, .inr (.inl fv))), (ap, .inr (3, [.ref aj, .ref apc, .ref app, .int (nI t)])), (apc, .inl (cL, 12, .inr (.inl cs)))]) [3, 0, 1, 4, 2] rfl
      have hD9 := hD.sub (ws' := [(ax, .inr (4, [.ref aj, .ref ap, .ref ar, .ref arow, .ref ak, .int ed, .int dn, .int cp, .int ct])), (aj, .inr (2, [.ref af, .ref al, .int (nI c), .int (nI f)])), (af, .inl (cL, 12, .inr (.inl fv))), (ap, .inr (3, [.ref aj, .ref apc, .ref app, .int (nI t)])), (apc, .inl (cL, 12, .inr (.inl cs)))]) [3, 0, 1, 4, 2] (by decide) rfl
      refine W.widen (k := 0) (n := 0) (Nat.le_of_ble_eq_true rfl) (Nat.le_of_ble_eq_true rfl) ?_
      exact W.iret (v := (-1)) hx hb hr (fun t9 ht9 hW9 => ⟨⟨(-1), (c, fv, cs), rfl, ⟨by unfold ce_r; rw [if_pos h0, if_neg c_19], by unfold ce_c; rw [if_neg (fun q => h1 q.2)], by unfold ce_a; rw [if_neg (fun q => h1 q.2)], by unfold ce_a; rw [if_neg (fun q => h1 q.2)]⟩, by rw [ht9]; exact hP9, va_K.moved hW9.alike hK, hD9⟩, hS.F ht9⟩) hS.2.2 dX3_cell_23
  · have h0 := cr_if01n _ c_4
    refine lv_bipush (v := (-5)) hx hb dX3_cell_7 (by decide) ?_
    have hP9 := hP.sub (ws' := [(ax, .inr (4, [.ref aj, .ref ap, .ref ar, .ref arow, .ref ak, .int ed, .int dn, .int cp, .int ct])), (aj, .inr (2, [.ref af, .ref al, .int (nI c), .int (nI f)])), (af, .inl (cL, 12, .inr (.inl fv))), (ap, .inr (3, [.ref aj, .ref apc, .ref app, .int (nI t)])), (apc, .inl (cL, 12, .inr (.inl cs)))]) [3, 0, 1, 4, 2] rfl
    have hD9 := hD.sub (ws' := [(ax, .inr (4, [.ref aj, .ref ap, .ref ar, .ref arow, .ref ak, .int ed, .int dn, .int cp, .int ct])), (aj, .inr (2, [.ref af, .ref al, .int (nI c), .int (nI f)])), (af, .inl (cL, 12, .inr (.inl fv))), (ap, .inr (3, [.ref aj, .ref apc, .ref app, .int (nI t)])), (apc, .inl (cL, 12, .inr (.inl cs)))]) [3, 0, 1, 4, 2] (by decide) rfl
    refine W.widen (k := 0) (n := 0) (Nat.le_of_ble_eq_true rfl) (Nat.le_of_ble_eq_true rfl) ?_
    exact W.iret (v := (-5)) hx hb hr (fun t9 ht9 hW9 => ⟨⟨(-5), (c, fv, cs), rfl, ⟨by unfold ce_r; rw [if_neg h0], by unfold ce_c; rw [if_neg (fun q => h0 q.1)], by unfold ce_a; rw [if_neg (fun q => h0 q.1)], by unfold ce_a; rw [if_neg (fun q => h0 q.1)]⟩, by rw [ht9]; exact hP9, va_K.moved hW9.alike hK, hD9⟩, hS.F ht9⟩) hS.2.2 dX3_cell_9
abbrev rm_X3_file : Room := { frames := 1, cells := 0, slots := 0, locals := 20 }
abbrev qc_X3_file (D : va_G) (cI cL cZ : ClassId) (ax : Nat) (aj : Nat) (ap : Nat) (ar : Nat) (arow : Nat) (ak : Nat) (ed : Int32) (dn : Int32) (cp : Int32) (ct : Int32) (apc : Nat) (app : Nat) (t : Nat) (af : Nat) (al : Nat) (c : Nat) (f : Nat) (ln : Nat → Int32) (x : Int32) (A : Nat → Prop) : Array Value → State → Outcome → State → Prop := va_Qi (fun (r : Int32) (u : Nat × (Nat → Int32)) => (fi_r dn t f x) = r ∧ (fi_f dn t f x) = u.1 ∧ (fi_l dn t f ln x) = u.2) (ct_B D vwCl [(cI, .int), (cL, .long), (cZ, .boolean)] A (fun (u : Nat × (Nat → Int32)) => [(ax, .inr (4, [.ref aj, .ref ap, .ref ar, .ref arow, .ref ak, .int ed, .int dn, .int cp, .int ct])), (aj, .inr (2, [.ref af, .ref al, .int (nI c), .int (nI u.1)])), (al, .inl (cI, 6, .inl u.2)), (ap, .inr (3, [.ref aj, .ref apc, .ref app, .int (nI t)]))])) A
set_option maxHeartbeats 4000000 in
set_option maxRecDepth 100000 in
theorem c_X3_file (l : Launch) (D : va_G) (cI cL cZ : ClassId) (ax : Nat) (aj : Nat) (ap : Nat) (ar : Nat) (arow : Nat) (ak : Nat) (ed : Int32) (dn : Int32) (cp : Int32) (ct : Int32) (apc : Nat) (app : Nat) (t : Nat) (af : Nat) (al : Nat) (c : Nat) (f : Nat) (ln : Nat → Int32) (x : Int32) (sz : Nat) (hf : f ≤ 6) : Met l yX3_file wsX3_file rm_X3_file (va_Pc [.ref ax, .int x] (ct_P D vwCl [(cI, .int), (cL, .long), (cZ, .boolean)] [(ax, .inr (4, [.ref aj, .ref ap, .ref ar, .ref arow, .ref ak, .int ed, .int dn, .int cp, .int ct])), (aj, .inr (2, [.ref af, .ref al, .int (nI c), .int (nI f)])), (al, .inl (cI, 6, .inl ln)), (ap, .inr (3, [.ref aj, .ref apc, .ref app, .int (nI t)]))] sz)) (qc_X3_file D cI cL cZ ax aj ap ar arow ak ed dn cp ct apc app t af al c f ln x (va_A [(ax, .inr (4, [.ref aj, .ref ap, .ref ar, .ref arow, .ref ak, .int ed, .int dn, .int cp, .int ct])), (aj, .inr (2, [.ref af, .ref al, .int (nI c), .int (nI f)])), (al, .inl (cI, 6, .inl ln)), (ap, .inr (3, [.ref aj, .ref apc, .ref app, .int (nI t)]))] sz)) 0 0 (va_A [(ax, .inr (4, [.ref aj, .ref ap, .ref ar, .ref arow, .ref ak, .int ed, .int dn, .int cp, .int ct])), (aj, .inr (2, [.ref af, .ref al, .int (nI c), .int (nI f)])), (al, .inl (cI, 6, .inl ln)), (ap, .inr (3, [.ref aj, .ref apc, .ref app, .int (nI t)]))] sz) := by
  refine Met.ofW (cc := cX3_file) (maxL := 3) (ret := (some .int)) (by decide) rfl ?_
  intro p e s m args below meth cd s₁ B hml hv
  obtain ⟨rfl, hsz, hP, hK, hD0⟩ := hv
  have hx := B.exec
  have hb := B.bytes
  have hr := B.returns
  have hts := atoms_spec (ws := wsX3_file) B.pre
  have iX3 : ∀ w ∈ wsX30, w ∈ wsX3_file := by decide +kernel
  have wf10 := hts (.fieldLink RX3 10 "CheckRestart" "job" "LCheckRestart$Job;") (by decide +kernel)
  have iX1 : ∀ w ∈ wsX10, w ∈ wsX3_file := by decide +kernel
  have wf66 := hts (.fieldLink RX3 66 "CheckRestart$Job" "fileCount" "I") (by decide +kernel)
  have wf69 := hts (.fieldLink RX3 69 "CheckRestart$Job" "lengths" "[I") (by decide +kernel)
  have hown : s.vm.findClass RX3 = some m.cls := findClass_of_methodNamed B.named
  have hlocks := B.notSynchronized
  subst hsz
  have hD := hD0.self (sz := s.heap.size)
  generalize hAe : va_A [(ax, .inr (4, [.ref aj, .ref ap, .ref ar, .ref arow, .ref ak, .int ed, .int dn, .int cp, .int ct])), (aj, .inr (2, [.ref af, .ref al, .int (nI c), .int (nI f)])), (al, .inl (cI, 6, .inl ln)), (ap, .inr (3, [.ref aj, .ref apc, .ref app, .int (nI t)]))] s.heap.size = A at hD ⊢
  have hA : ∀ q : Nat, s.heap.size ≤ q → A q := fun q h => by rw [← hAe]; exact Or.inr h
  have hS : va_S A s.heap s.heap [] := va_S.rf
  have hl := lv_entry ([.ref ax, .int x]) (n := 3) (Nat.le_of_ble_eq_true rfl)
  rw [lg_entry_eq]
  generalize (lg_sl ([.ref ax, .int x]) ++ List.replicate (3 - (lg_sl ([.ref ax, .int x])).length) Slot.unset).toArray = ls at hl ⊢
  have hl : lv_has ls 3 [(0, .ref ax), (1, .int x)] := hl
  refine lv_iload_n hx hb dX3_file_0 rfl (lv_at hl 1 rfl) ?_
  refine lv_if_lt (tgt := 11) hx hb dX3_file_1 (by decide) (fun c_1 => ?_) (fun c_1 => ?_)
  · refine lv_bipush (v := (-4)) hx hb dX3_file_11 (by decide) ?_
    have hbd : x < 0 ∨ ¬ x ≤ 2000 := by first | exact Or.inl c_1 | exact Or.inr c_8
    have hP9 := hP.sub (ws' := [(ax, .inr (4, [.ref aj, .ref ap, .ref ar, .ref arow, .ref ak, .int ed, .int dn, .int cp, .int ct])), (aj, .inr (2, [.ref af, .ref al, .int (nI c), .int (nI f)])), (al, .inl (cI, 6, .inl ln)), (ap, .inr (3, [.ref aj, .ref apc, .ref app, .int (nI t)]))]) [0, 1, 2, 3] rfl
    have hD9 := hD.sub (ws' := [(ax, .inr (4, [.ref aj, .ref ap, .ref ar, .ref arow, .ref ak, .int ed, .int dn, .int cp, .int ct])), (aj, .inr (2, [.ref af, .ref al, .int (nI c), .int (nI f)])), (al, .inl (cI, 6, .inl ln)), (ap, .inr (3, [.ref aj, .ref apc, .ref app, .int (nI t)]))]) [0, 1, 2, 3] (by decide) rfl
    refine W.widen (k := 0) (n := 0) (Nat.le_of_ble_eq_true rfl) (Nat.le_of_ble_eq_true rfl) ?_
    exact W.iret (v := (-4)) hx hb hr (fun t9 ht9 hW9 => ⟨⟨(-4), (f, ln), rfl, ⟨by unfold fi_r; rw [if_pos hbd], by unfold fi_f; rw [if_neg (fun q => q.1 hbd)], by unfold fi_l; rw [if_neg (fun q => q.1 hbd)]⟩, by rw [ht9]; exact hP9, va_K.moved hW9.alike hK, hD9⟩, hS.F ht9⟩) hS.2.2 dX3_file_13
  · refine lv_iload_n hx hb dX3_file_4 rfl (lv_at hl 1 rfl) ?_
    refine lv_sipush (v := 2000) hx hb dX3_file_5 (by decide) ?_
    refine lv_icmp_le (tgt := 14) hx hb dX3_file_8 (by decide) (fun c_8 => ?_) (fun c_8 => ?_)
    · have hbd : ¬ (x < 0 ∨ ¬ x ≤ 2000) := fun q => q.elim c_1 (fun q => q c_8)
      refine lv_aload_n hx hb dX3_file_14 rfl (lv_at hl 0 rfl) ?_
      refine ct_calli (wr := [(aj, .inr (2, [.ref af, .ref al, .int (nI c), .int (nI f)])), (al, .inl (cI, 6, .inl ln))]) (rest := []) hP hD hS hA [0, 3] [1, 2] (va_runV (C := RX3) (As := []) ⟨hx, hb, hml, hown, hts⟩ (c_X3_isSetupOver l D cI cL cZ ax aj ap ar arow ak ed dn cp ct apc app t _ ) (cwV 0 hts gX3_file_X3_isSetupOver rfl rfl rfl (by decide +kernel) ⟨Nat.le_of_ble_eq_true rfl, Nat.le_of_ble_eq_true rfl⟩) (ct_preV (q0 := 0) (ci := 4) hK hP hD [0, 3] (by decide) rfl rfl rfl rfl rfl) rfl rfl hl.1 rfl (lv_room (Nat.le_of_ble_eq_true rfl)) dX3_file_15 ⟨Nat.le_of_ble_eq_true rfl, Nat.le_of_ble_eq_true rfl⟩) rfl rfl (by decide) (by decide) (fun r_1 u H locs hw hP hD hS => ?_)
      try dsimp only at hw
      obtain rfl := hw
      have hP : va_P D vwCl [(aj, .inr (2, [.ref af, .ref al, .int (nI c), .int (nI f)])), (al, .inl (cI, 6, .inl ln)), (ax, .inr (4, [.ref aj, .ref ap, .ref ar, .ref arow, .ref ak, .int ed, .int dn, .int cp, .int ct])), (ap, .inr (3, [.ref aj, .ref apc, .ref app, .int (nI t)]))] H := hP
      have hD : va_D A [(aj, .inr (2, [.ref af, .ref al, .int (nI c), .int (nI f)])), (al, .inl (cI, 6, .inl ln)), (ax, .inr (4, [.ref aj, .ref ap, .ref ar, .ref arow, .ref ak, .int ed, .int dn, .int cp, .int ct])), (ap, .inr (3, [.ref aj, .ref apc, .ref app, .int (nI t)]))] := hD
      refine lv_if_eq (tgt := 24) hx hb dX3_file_18 (by decide) (fun c_18 => ?_) (fun c_18 => ?_)
      · have h0 := cr_if01 _ c_18
        refine lv_aload_n hx hb dX3_file_24 rfl (lv_at hl 0 rfl) ?_
        refine va_get (D := D) (ci := 4) (v := .ref aj) (C := RX3) (T := TX3) (N := 9) hx hb hts iX3 hown hK hP 2 rfl rfl 0 (by decide) wf10 (fun _ h9 => h9) rfl dX3_file_25 ?_
        refine va_get (D := D) (ci := 2) (v := .int (nI f)) (C := RX1) (T := TX1) (N := 4) hx hb hts iX1 hown hK hP 0 rfl rfl 3 (by decide) wf66 (fun _ h9 => h9) rfl dX3_file_28 ?_
        refine lv_bipush (v := 6) hx hb dX3_file_31 (by decide) ?_
        refine lv_icmp_lt (tgt := 38) hx hb dX3_file_33 (by decide) (fun c_33 => ?_) (fun c_33 => ?_)
        · have h1 : f < 6 := (nI_ltI (a := f) (b := 6) (by omega) (by omega)).mp c_33
          refine lv_aload_n hx hb dX3_file_38 rfl (lv_at hl 0 rfl) ?_
          refine va_get (D := D) (ci := 4) (v := .ref aj) (C := RX3) (T := TX3) (N := 9) hx hb hts iX3 hown hK hP 2 rfl rfl 0 (by decide) wf10 (fun _ h9 => h9) rfl dX3_file_39 ?_
          refine va_get (D := D) (ci := 2) (v := .int (nI f)) (C := RX1) (T := TX1) (N := 4) hx hb hts iX1 hown hK hP 0 rfl rfl 3 (by decide) wf66 (fun _ h9 => h9) rfl dX3_file_42 ?_
          refine lv_istore_n (lv' := [(2, .int (nI f)), (0, .ref ax), (1, .int x)]) hx hb dX3_file_45 rfl hl (by decide) rfl (fun ls hl => ?_)
          refine lv_aload_n hx hb dX3_file_46 rfl (lv_at hl 1 rfl) ?_
          refine va_get (D := D) (ci := 4) (v := .ref aj) (C := RX3) (T := TX3) (N := 9) hx hb hts iX3 hown hK hP 2 rfl rfl 0 (by decide) wf10 (fun _ h9 => h9) rfl dX3_file_47 ?_
          refine va_get (D := D) (ci := 2) (v := .ref al) (C := RX1) (T := TX1) (N := 4) hx hb hts iX1 hown hK hP 0 rfl rfl 1 (by decide) wf69 (fun _ h9 => h9) rfl dX3_file_50 ?_
          refine lv_iload_n hx hb dX3_file_53 rfl (lv_at hl 0 rfl) ?_
          refine lv_iload_n hx hb dX3_file_54 rfl (lv_at hl 2 rfl) ?_
          refine ct_iast (k := f) hx hb hK hP hD hS 1 0 rfl rfl (by omega) (by decide) dX3_file_55 (fun H locs hP hD hS => ?_)
          have hP : va_P D vwCl [(aj, .inr (2, [.ref af, .ref al, .int (nI c), .int (nI f)])), (al, .inl (cI, 6, .inl (upd ln f x))), (ax, .inr (4, [.ref aj, .ref ap, .ref ar, .ref arow, .ref ak, .int ed, .int dn, .int cp, .int ct])), (ap, .inr (3, [.ref aj, .ref apc, .ref app, .int (nI t)]))] H := hP
          have hD : va_D A [(aj, .inr (2, [.ref af, .ref al, .int (nI c), .int (nI f)])), (al, .inl (cI, 6, .inl (upd ln f x))), (ax, .inr (4, [.ref aj, .ref ap, .ref ar, .ref arow, .ref ak, .int ed, .int dn, .int cp, .int ct])), (ap, .inr (3, [.ref aj, .ref apc, .ref app, .int (nI t)]))] := hD
          refine lv_aload_n hx hb dX3_file_56 rfl (lv_at hl 1 rfl) ?_
          refine va_get (D := D) (ci := 4) (v := .ref aj) (C := RX3) (T := TX3) (N := 9) hx hb hts iX3 hown hK hP 2 rfl rfl 0 (by decide) wf10 (fun _ h9 => h9) rfl dX3_file_57 ?_
          refine lv_dup hx hb dX3_file_60 rfl ?_
          refine va_get (D := D) (ci := 2) (v := .int (nI f)) (C := RX1) (T := TX1) (N := 4) hx hb hts iX1 hown hK hP 0 rfl rfl 3 (by decide) wf66 (fun _ h9 => h9) rfl dX3_file_61 ?_
          refine lv_iconst (v := 1) hx hb dX3_file_64 (by decide) ?_
          refine lv_iadd hx hb dX3_file_65 ?_
          refine ct_topi (y := (nI (f + 1))) (nI_1 f) ?_
          refine va_put (D := D) (ci := 2) (v := .int (nI (f + 1))) (ty := .int) (C := RX1) (T := TX1) (N := 4) hx hb hts iX1 tyX1 tyX1_ok nmX1 hown hK hP hD hS 0 rfl rfl 3 (by decide) wf66 (fun _ h9 => h9) rfl (by decide +kernel) rfl rfl (Nat.le_of_ble_eq_true rfl) dX3_file_66 (fun H locs hP hD hS => ?_)
          have hP : va_P D vwCl [(aj, .inr (2, [.ref af, .ref al, .int (nI c), .int (nI (f + 1))])), (al, .inl (cI, 6, .inl (upd ln f x))), (ax, .inr (4, [.ref aj, .ref ap, .ref ar, .ref arow, .ref ak, .int ed, .int dn, .int cp, .int ct])), (ap, .inr (3, [.ref aj, .ref apc, .ref app, .int (nI t)]))] H := hP
          have hD : va_D A [(aj, .inr (2, [.ref af, .ref al, .int (nI c), .int (nI (f + 1))])), (al, .inl (cI, 6, .inl (upd ln f x))), (ax, .inr (4, [.ref aj, .ref ap, .ref ar, .ref arow, .ref ak, .int ed, .int dn, .int cp, .int ct])), (ap, .inr (3, [.ref aj, .ref apc, .ref app, .int (nI t)]))] := hD
          refine lv_iload_n hx hb dX3_file_69 rfl (lv_at hl 0 rfl) ?_
          have hP9 := hP.sub (ws' := [(ax, .inr (4, [.ref aj, .ref ap, .ref ar, .ref arow, .ref ak, .int ed, .int dn, .int cp, .int ct])), (aj, .inr (2, [.ref af, .ref al, .int (nI c), .int (nI (f + 1))])), (al, .inl (cI, 6, .inl (upd ln f x))), (ap, .inr (3, [.ref aj, .ref apc, .ref app, .int (nI t)]))]) [2, 0, 1, 3] rfl
          have hD9 := hD.sub (ws' := [(ax, .inr (4, [.ref aj, .ref ap, .ref ar, .ref arow, .ref ak, .int ed, .int dn, .int cp, .int ct])), (aj, .inr (2, [.ref af, .ref al, .int (nI c), .int (nI (f + 1))])), (al, .inl (cI, 6, .inl (upd ln f x))), (ap, .inr (3, [.ref aj, .ref apc, .ref app, .int (nI t)]))]) [2, 0, 1, 3] (by decide) rfl
          refine W.widen (k := 0) (n := 0) (Nat.le_of_ble_eq_true rfl) (Nat.le_of_ble_eq_true rfl) ?_
          exact W.iret (v := (nI f)) hx hb hr (fun t9 ht9 hW9 => ⟨⟨(nI f), ((f + 1), (upd ln f x)), rfl, ⟨by unfold fi_r; rw [if_neg hbd, if_pos h0, if_pos c_33], by unfold fi_f; rw [if_pos ⟨hbd, h0, h1⟩], by unfold fi_l; rw [if_pos ⟨hbd, h0, h1⟩]⟩, by rw [ht9]; exact hP9, va_K.moved hW9.alike hK, hD9⟩, hS.F ht9⟩) hS.2.2 dX3_file_70
        · have h1 : ¬ f < 6 := fun q => c_33 (nI_lt (a := f) (b := 6) q (by omega))
          refine lv_iconst (v := (-1)) hx hb dX3_file_36 (by decide) ?_
          have hP9 := hP.sub (ws' := [(ax, .inr (4, [.ref aj, .ref ap, .ref ar, .ref arow, .ref ak, .int ed, .int dn, .int cp, .int ct])), (aj, .inr (2, [.ref af, .ref al, .int (nI c), .int (nI f)])), (al, .inl (cI, 6, .inl ln)), (ap, .inr (3, [.ref aj, .ref apc, .ref app, .int (nI t)]))]) [2, 0, 1, 3] rfl
          have hD9 := hD.sub (ws' := [(ax, .inr (4, [.ref aj, .ref ap, .ref ar, .ref arow, .ref ak, .int ed, .int dn, .int cp, .int ct])), (aj, .inr (2, [.ref af, .ref al, .int (nI c), .int (nI f)])), (al, .inl (cI, 6, .inl ln)), (ap, .inr (3, [.ref aj, .ref apc, .ref app, .int (nI t)]))]) [2, 0, 1, 3] (by decide) rfl
          refine W.widen (k := 0) (n := 0) (Nat.le_of_ble_eq_true rfl) (Nat.le_of_ble_eq_true rfl) ?_
          exact W.iret (v := (-1)) hx hb hr (fun t9 ht9 hW9 => ⟨⟨(-1), (f, ln), rfl, ⟨by unfold fi_r; rw [if_neg hbd, if_pos h0, if_neg c_33], by unfold fi_f; rw [if_neg (fun q => h1 q.2.2)], by unfold fi_l; rw [if_neg (fun q => h1 q.2.2)]⟩, by rw [ht9]; exact hP9, va_K.moved hW9.alike hK, hD9⟩, hS.F ht9⟩) hS.2.2 dX3_file_37
      · have h0 := cr_if01n _ c_18
        refine lv_bipush (v := (-5)) hx hb dX3_file_21 (by decide) ?_
        have hP9 := hP.sub (ws' := [(ax, .inr (4, [.ref aj, .ref ap, .ref ar, .ref arow, .ref ak, .int ed, .int dn, .int cp, .int ct])), (aj, .inr (2, [.ref af, .ref al, .int (nI c), .int (nI f)])), (al, .inl (cI, 6, .inl ln)), (ap, .inr (3, [.ref aj, .ref apc, .ref app, .int (nI t)]))]) [2, 0, 1, 3] rfl
        have hD9 := hD.sub (ws' := [(ax, .inr (4, [.ref aj, .ref ap, .ref ar, .ref arow, .ref ak, .int ed, .int dn, .int cp, .int ct])), (aj, .inr (2, [.ref af, .ref al, .int (nI c), .int (nI f)])), (al, .inl (cI, 6, .inl ln)), (ap, .inr (3, [.ref aj, .ref apc, .ref app, .int (nI t)]))]) [2, 0, 1, 3] (by decide) rfl
        refine W.widen (k := 0) (n := 0) (Nat.le_of_ble_eq_true rfl) (Nat.le_of_ble_eq_true rfl) ?_
        exact W.iret (v := (-5)) hx hb hr (fun t9 ht9 hW9 => ⟨⟨(-5), (f, ln), rfl, ⟨by unfold fi_r; rw [if_neg hbd, if_neg h0], by unfold fi_f; rw [if_neg (fun q => h0 q.2.1)], by unfold fi_l; rw [if_neg (fun q => h0 q.2.1)]⟩, by rw [ht9]; exact hP9, va_K.moved hW9.alike hK, hD9⟩, hS.F ht9⟩) hS.2.2 dX3_file_23
    · refine lv_bipush (v := (-4)) hx hb dX3_file_11 (by decide) ?_
      have hbd : x < 0 ∨ ¬ x ≤ 2000 := by first | exact Or.inl c_1 | exact Or.inr c_8
      have hP9 := hP.sub (ws' := [(ax, .inr (4, [.ref aj, .ref ap, .ref ar, .ref arow, .ref ak, .int ed, .int dn, .int cp, .int ct])), (aj, .inr (2, [.ref af, .ref al, .int (nI c), .int (nI f)])), (al, .inl (cI, 6, .inl ln)), (ap, .inr (3, [.ref aj, .ref apc, .ref app, .int (nI t)]))]) [0, 1, 2, 3] rfl
      have hD9 := hD.sub (ws' := [(ax, .inr (4, [.ref aj, .ref ap, .ref ar, .ref arow, .ref ak, .int ed, .int dn, .int cp, .int ct])), (aj, .inr (2, [.ref af, .ref al, .int (nI c), .int (nI f)])), (al, .inl (cI, 6, .inl ln)), (ap, .inr (3, [.ref aj, .ref apc, .ref app, .int (nI t)]))]) [0, 1, 2, 3] (by decide) rfl
      refine W.widen (k := 0) (n := 0) (Nat.le_of_ble_eq_true rfl) (Nat.le_of_ble_eq_true rfl) ?_
      exact W.iret (v := (-4)) hx hb hr (fun t9 ht9 hW9 => ⟨⟨(-4), (f, ln), rfl, ⟨by unfold fi_r; rw [if_pos hbd], by unfold fi_f; rw [if_neg (fun q => q.1 hbd)], by unfold fi_l; rw [if_neg (fun q => q.1 hbd)]⟩, by rw [ht9]; exact hP9, va_K.moved hW9.alike hK, hD9⟩, hS.F ht9⟩) hS.2.2 dX3_file_13
abbrev rm_X3_step : Room := { frames := 2, cells := 0, slots := 0, locals := 47 }
abbrev qc_X3_step (D : va_G) (cI cL cZ : ClassId) (ax : Nat) (aj : Nat) (ap : Nat) (ar : Nat) (arow : Nat) (ak : Nat) (ed : Int32) (dn : Int32) (cp : Int32) (ct : Int32) (apc : Nat) (app : Nat) (cs : Nat → Int64) (ps : Nat → Int32) (af : Nat) (al : Nat) (c : Nat) (f : Nat) (t : Nat) (fv : Nat → Int64) (ln : Nat → Int32) (ro : Nat → Int64) (x : Int32) (A : Nat → Prop) : Array Value → State → Outcome → State → Prop := va_Qi (fun (r : Int32) (u : Nat × (Nat → Int64) × (Nat → Int32) × (Nat → Int64)) => ((x < 0 ∨ ¬ x ≤ 1000 → r = -4) ∧ (¬ (x < 0 ∨ ¬ x ≤ 1000) → ¬ dn = 0 → r = -5) ∧ (¬ (x < 0 ∨ ¬ x ≤ 1000) → dn = 0 → r = nI (u.1 - t)) ∧ (u.1, u.2.1, u.2.2.1, u.2.2.2) = (if ¬ (x < 0 ∨ ¬ x ≤ 1000) ∧ dn = 0 then srun c f ln x.toNatClampNeg (t, cs, ps, ro) else (t, cs, ps, ro)))) (ct_B D vwCl [(cI, .int), (cL, .long), (cZ, .boolean)] A (fun (u : Nat × (Nat → Int64) × (Nat → Int32) × (Nat → Int64)) => [(ax, .inr (4, [.ref aj, .ref ap, .ref ar, .ref arow, .ref ak, .int ed, .int dn, .int cp, .int ct])), (ap, .inr (3, [.ref aj, .ref apc, .ref app, .int (nI u.1)])), (apc, .inl (cL, 12, .inr (.inl u.2.1))), (app, .inl (cI, 6, .inl u.2.2.1)), (aj, .inr (2, [.ref af, .ref al, .int (nI c), .int (nI f)])), (af, .inl (cL, 12, .inr (.inl fv))), (al, .inl (cI, 6, .inl ln)), (arow, .inl (cL, 5000, .inr (.inl u.2.2.2)))])) A
set_option maxHeartbeats 4000000 in
set_option maxRecDepth 100000 in
theorem c_X3_step (l : Launch) (D : va_G) (cI cL cZ : ClassId) (ax : Nat) (aj : Nat) (ap : Nat) (ar : Nat) (arow : Nat) (ak : Nat) (ed : Int32) (dn : Int32) (cp : Int32) (ct : Int32) (apc : Nat) (app : Nat) (cs : Nat → Int64) (ps : Nat → Int32) (af : Nat) (al : Nat) (c : Nat) (f : Nat) (t : Nat) (fv : Nat → Int64) (ln : Nat → Int32) (ro : Nat → Int64) (x : Int32) (sz : Nat) (hc : c ≤ 12) (hf : f ≤ 6) (ht : t ≤ 5000) : Met l yX3_step wsX3_step rm_X3_step (va_Pc [.ref ax, .int x] (ct_P D vwCl [(cI, .int), (cL, .long), (cZ, .boolean)] [(ax, .inr (4, [.ref aj, .ref ap, .ref ar, .ref arow, .ref ak, .int ed, .int dn, .int cp, .int ct])), (ap, .inr (3, [.ref aj, .ref apc, .ref app, .int (nI t)])), (apc, .inl (cL, 12, .inr (.inl cs))), (app, .inl (cI, 6, .inl ps)), (aj, .inr (2, [.ref af, .ref al, .int (nI c), .int (nI f)])), (af, .inl (cL, 12, .inr (.inl fv))), (al, .inl (cI, 6, .inl ln)), (arow, .inl (cL, 5000, .inr (.inl ro)))] sz)) (qc_X3_step D cI cL cZ ax aj ap ar arow ak ed dn cp ct apc app cs ps af al c f t fv ln ro x (va_A [(ax, .inr (4, [.ref aj, .ref ap, .ref ar, .ref arow, .ref ak, .int ed, .int dn, .int cp, .int ct])), (ap, .inr (3, [.ref aj, .ref apc, .ref app, .int (nI t)])), (apc, .inl (cL, 12, .inr (.inl cs))), (app, .inl (cI, 6, .inl ps)), (aj, .inr (2, [.ref af, .ref al, .int (nI c), .int (nI f)])), (af, .inl (cL, 12, .inr (.inl fv))), (al, .inl (cI, 6, .inl ln)), (arow, .inl (cL, 5000, .inr (.inl ro)))] sz)) 0 0 (va_A [(ax, .inr (4, [.ref aj, .ref ap, .ref ar, .ref arow, .ref ak, .int ed, .int dn, .int cp, .int ct])), (ap, .inr (3, [.ref aj, .ref apc, .ref app, .int (nI t)])), (apc, .inl (cL, 12, .inr (.inl cs))), (app, .inl (cI, 6, .inl ps)), (aj, .inr (2, [.ref af, .ref al, .int (nI c), .int (nI f)])), (af, .inl (cL, 12, .inr (.inl fv))), (al, .inl (cI, 6, .inl ln)), (arow, .inl (cL, 5000, .inr (.inl ro)))] sz) := by
  refine Met.ofW (cc := cX3_step) (maxL := 4) (ret := (some .int)) (by decide) rfl ?_
  intro p e s m args below meth cd s₁ B hml hv
  obtain ⟨rfl, hsz, hP, hK, hD0⟩ := hv
  have hx := B.exec
  have hb := B.bytes
  have hr := B.returns
  have hts := atoms_spec (ws := wsX3_step) B.pre
  have iX3 : ∀ w ∈ wsX30, w ∈ wsX3_step := by decide +kernel
  have wf21 := hts (.fieldLink RX3 21 "CheckRestart" "progress" "LCheckRestart$Progress;") (by decide +kernel)
  have iX2 : ∀ w ∈ wsX20, w ∈ wsX3_step := by decide +kernel
  have wf73 := hts (.fieldLink RX3 73 "CheckRestart$Progress" "units" "I") (by decide +kernel)
  have wf28 := hts (.fieldLink RX3 28 "CheckRestart" "rows" "[J") (by decide +kernel)
  have wf43 := hts (.fieldLink RX3 43 "CheckRestart" "down" "Z") (by decide +kernel)
  have hown : s.vm.findClass RX3 = some m.cls := findClass_of_methodNamed B.named
  have hlocks := B.notSynchronized
  subst hsz
  have hD := hD0.self (sz := s.heap.size)
  generalize hAe : va_A [(ax, .inr (4, [.ref aj, .ref ap, .ref ar, .ref arow, .ref ak, .int ed, .int dn, .int cp, .int ct])), (ap, .inr (3, [.ref aj, .ref apc, .ref app, .int (nI t)])), (apc, .inl (cL, 12, .inr (.inl cs))), (app, .inl (cI, 6, .inl ps)), (aj, .inr (2, [.ref af, .ref al, .int (nI c), .int (nI f)])), (af, .inl (cL, 12, .inr (.inl fv))), (al, .inl (cI, 6, .inl ln)), (arow, .inl (cL, 5000, .inr (.inl ro)))] s.heap.size = A at hD ⊢
  have hA : ∀ q : Nat, s.heap.size ≤ q → A q := fun q h => by rw [← hAe]; exact Or.inr h
  have hS : va_S A s.heap s.heap [] := va_S.rf
  have hl := lv_entry ([.ref ax, .int x]) (n := 4) (Nat.le_of_ble_eq_true rfl)
  rw [lg_entry_eq]
  generalize (lg_sl ([.ref ax, .int x]) ++ List.replicate (4 - (lg_sl ([.ref ax, .int x])).length) Slot.unset).toArray = ls at hl ⊢
  have hl : lv_has ls 4 [(0, .ref ax), (1, .int x)] := hl
  have key26 : ∀ (n : Nat) (N : Nat) (d : Nat) (t2 : Nat) (cs2 : Nat → Int64) (ps2 : Nat → Int32) (ro2 : Nat → Int64), (x = nI N) → (N ≤ 1000) → (¬ (x < 0 ∨ ¬ x ≤ 1000)) → (dn = 0) → (d ≤ N) → (N + 1 ≤ d + n) → (t2 = t + d) → (t2 ≤ 5000) → (srun c f ln (N - d) (t2, cs2, ps2, ro2) = srun c f ln N (t, cs, ps, ro)) → ∀ (H : Heap) (locs : List Loc), va_P D vwCl [(ax, .inr (4, [.ref aj, .ref ap, .ref ar, .ref arow, .ref ak, .int ed, .int dn, .int cp, .int ct])), (ap, .inr (3, [.ref aj, .ref apc, .ref app, .int (nI t2)])), (apc, .inl (cL, 12, .inr (.inl cs2))), (app, .inl (cI, 6, .inl ps2)), (aj, .inr (2, [.ref af, .ref al, .int (nI c), .int (nI f)])), (af, .inl (cL, 12, .inr (.inl fv))), (al, .inl (cI, 6, .inl ln)), (arow, .inl (cL, 5000, .inr (.inl ro2)))] H → va_D A [(ax, .inr (4, [.ref aj, .ref ap, .ref ar, .ref arow, .ref ak, .int ed, .int dn, .int cp, .int ct])), (ap, .inr (3, [.ref aj, .ref apc, .ref app, .int (nI t2)])), (apc, .inl (cL, 12, .inr (.inl cs2))), (app, .inl (cI, 6, .inl ps2)), (aj, .inr (2, [.ref af, .ref al, .int (nI c), .int (nI f)])), (af, .inl (cL, 12, .inr (.inl fv))), (al, .inl (cI, 6, .inl ln)), (arow, .inl (cL, 5000, .inr (.inl ro2)))] → va_S A s.heap H locs → ∀ (ls : Array Slot), lv_has ls 4 [(2, .int (nI d)), (0, .ref ax), (1, .int x)] → W p l e (headSpec wsX3_step rm_X3_step).room s m ([.ref ax, .int x] : List Value).toArray below meth cd H locs 0 0 (MQ below (qc_X3_step D cI cL cZ ax aj ap ar arow ak ed dn cp ct apc app cs ps af al c f t fv ln ro x A) ([.ref ax, .int x] : List Value).toArray s 0 0 A) (F0 m 26 ls []) := by
    intro n
    induction n with
    | zero => intro N d t2 cs2 ps2 ro2 hN hN1 hrg hdn hd hm ht2 ht3 hrun; exact absurd hm (by omega)
    | succ n ih =>
      intro N d t2 cs2 ps2 ro2 hN hN1 hrg hdn hd hm ht2 ht3 hrun H locs hP hD hS ls hl
      have hcl : x.toNatClampNeg = N := by rw [hN, nI_clamp (by omega)]
      refine lv_iload_n hx hb dX3_step_26 rfl (lv_at hl 0 rfl) ?_
      refine lv_iload_n hx hb dX3_step_27 rfl (lv_at hl 2 rfl) ?_
      refine ct_topi (y := (nI N)) (hN) ?_
      refine lv_icmp_ge (tgt := 81) hx hb dX3_step_28 (by decide) (fun c_28 => ?_) (fun c_28 => ?_)
      · have h1 : N ≤ d := (nI_leI (by omega) (by omega)).mp c_28
        have hfin : srun c f ln (N - d) (t2, cs2, ps2, ro2) = (t2, cs2, ps2, ro2) := by rw [show N - d = 0 by omega]; rfl
        refine lv_iload_n hx hb dX3_step_81 rfl (lv_at hl 0 rfl) ?_
        have hP9 := hP.sub (ws' := [(ax, .inr (4, [.ref aj, .ref ap, .ref ar, .ref arow, .ref ak, .int ed, .int dn, .int cp, .int ct])), (ap, .inr (3, [.ref aj, .ref apc, .ref app, .int (nI t2)])), (apc, .inl (cL, 12, .inr (.inl cs2))), (app, .inl (cI, 6, .inl ps2)), (aj, .inr (2, [.ref af, .ref al, .int (nI c), .int (nI f)])), (af, .inl (cL, 12, .inr (.inl fv))), (al, .inl (cI, 6, .inl ln)), (arow, .inl (cL, 5000, .inr (.inl ro2)))]) [0, 1, 2, 3, 4, 5, 6, 7] rfl
        have hD9 := hD.sub (ws' := [(ax, .inr (4, [.ref aj, .ref ap, .ref ar, .ref arow, .ref ak, .int ed, .int dn, .int cp, .int ct])), (ap, .inr (3, [.ref aj, .ref apc, .ref app, .int (nI t2)])), (apc, .inl (cL, 12, .inr (.inl cs2))), (app, .inl (cI, 6, .inl ps2)), (aj, .inr (2, [.ref af, .ref al, .int (nI c), .int (nI f)])), (af, .inl (cL, 12, .inr (.inl fv))), (al, .inl (cI, 6, .inl ln)), (arow, .inl (cL, 5000, .inr (.inl ro2)))]) [0, 1, 2, 3, 4, 5, 6, 7] (by decide) rfl
        refine W.widen (k := 0) (n := 0) (Nat.le_of_ble_eq_true rfl) (Nat.le_of_ble_eq_true rfl) ?_
        exact W.iret (v := (nI d)) hx hb hr (fun t9 ht9 hW9 => ⟨⟨(nI d), (t2, cs2, ps2, ro2), rfl, ⟨fun q => absurd q hrg, fun _ q => absurd hdn q, fun _ _ => by rw [ht2, Nat.add_sub_cancel_left], by rw [if_pos ⟨hrg, hdn⟩, hcl, ← hrun, hfin]⟩, by rw [ht9]; exact hP9, va_K.moved hW9.alike hK, hD9⟩, hS.F ht9⟩) hS.2.2 dX3_step_82
      · have h1 : ¬ N ≤ d := fun h => c_28 ((nI_leI (by omega) (by omega)).mpr h)
        refine lv_aload_n hx hb dX3_step_31 rfl (lv_at hl 1 rfl) ?_
        refine va_get (D := D) (ci := 4) (v := .ref ap) (C := RX3) (T := TX3) (N := 9) hx hb hts iX3 hown hK hP 0 rfl rfl 1 (by decide) wf21 (fun _ h9 => h9) rfl dX3_step_32 ?_
        refine va_get (D := D) (ci := 3) (v := .int (nI t2)) (C := RX2) (T := TX2) (N := 4) hx hb hts iX2 hown hK hP 1 rfl rfl 3 (by decide) wf73 (fun _ h9 => h9) rfl dX3_step_35 ?_
        refine lv_sipush (v := 5000) hx hb dX3_step_38 (by decide) ?_
        refine lv_icmp_ge (tgt := 81) hx hb dX3_step_41 (by decide) (fun c_41 => ?_) (fun c_41 => ?_)
        · have h2 : 5000 ≤ t2 := (nI_leI (a := 5000) (b := t2) (by omega) (by omega)).mp c_41
          have hfin := srun_stop (n := N - d) (c := c) (f := f) (ln := ln) (s := (t2, cs2, ps2, ro2)) (fun q => absurd q.1 (Nat.not_lt.mpr h2))
          refine lv_iload_n hx hb dX3_step_81 rfl (lv_at hl 0 rfl) ?_
          have hP9 := hP.sub (ws' := [(ax, .inr (4, [.ref aj, .ref ap, .ref ar, .ref arow, .ref ak, .int ed, .int dn, .int cp, .int ct])), (ap, .inr (3, [.ref aj, .ref apc, .ref app, .int (nI t2)])), (apc, .inl (cL, 12, .inr (.inl cs2))), (app, .inl (cI, 6, .inl ps2)), (aj, .inr (2, [.ref af, .ref al, .int (nI c), .int (nI f)])), (af, .inl (cL, 12, .inr (.inl fv))), (al, .inl (cI, 6, .inl ln)), (arow, .inl (cL, 5000, .inr (.inl ro2)))]) [0, 1, 2, 3, 4, 5, 6, 7] rfl
          have hD9 := hD.sub (ws' := [(ax, .inr (4, [.ref aj, .ref ap, .ref ar, .ref arow, .ref ak, .int ed, .int dn, .int cp, .int ct])), (ap, .inr (3, [.ref aj, .ref apc, .ref app, .int (nI t2)])), (apc, .inl (cL, 12, .inr (.inl cs2))), (app, .inl (cI, 6, .inl ps2)), (aj, .inr (2, [.ref af, .ref al, .int (nI c), .int (nI f)])), (af, .inl (cL, 12, .inr (.inl fv))), (al, .inl (cI, 6, .inl ln)), (arow, .inl (cL, 5000, .inr (.inl ro2)))]) [0, 1, 2, 3, 4, 5, 6, 7] (by decide) rfl
          refine W.widen (k := 0) (n := 0) (Nat.le_of_ble_eq_true rfl) (Nat.le_of_ble_eq_true rfl) ?_
          exact W.iret (v := (nI d)) hx hb hr (fun t9 ht9 hW9 => ⟨⟨(nI d), (t2, cs2, ps2, ro2), rfl, ⟨fun q => absurd q hrg, fun _ q => absurd hdn q, fun _ _ => by rw [ht2, Nat.add_sub_cancel_left], by rw [if_pos ⟨hrg, hdn⟩, hcl, ← hrun, hfin]⟩, by rw [ht9]; exact hP9, va_K.moved hW9.alike hK, hD9⟩, hS.F ht9⟩) hS.2.2 dX3_step_82
        · have h2 : ¬ 5000 ≤ t2 := fun h => c_41 ((nI_leI (a := 5000) (b := t2) (by omega) (by omega)).mpr h)
          refine lv_aload_n hx hb dX3_step_44 rfl (lv_at hl 1 rfl) ?_
          refine va_get (D := D) (ci := 4) (v := .ref ap) (C := RX3) (T := TX3) (N := 9) hx hb hts iX3 hown hK hP 0 rfl rfl 1 (by decide) wf21 (fun _ h9 => h9) rfl dX3_step_45 ?_
          refine ct_calli (wr := [(ax, .inr (4, [.ref aj, .ref ap, .ref ar, .ref arow, .ref ak, .int ed, .int dn, .int cp, .int ct])), (arow, .inl (cL, 5000, .inr (.inl ro2)))]) (rest := []) hP hD hS hA [1, 2, 3, 4, 5, 6] [0, 7] (va_runV (C := RX2) (As := []) ⟨hx, hb, hml, hown, hts⟩ (c_X2_isEnded l D cI cL cZ ap apc app cs2 ps2 aj af al c f fv ln (nI t2) _ (by omega)) (cwV 0 hts gX3_step_X2_isEnded rfl rfl rfl (by decide +kernel) ⟨Nat.le_of_ble_eq_true rfl, Nat.le_of_ble_eq_true rfl⟩) (ct_preV (q0 := 0) (ci := 3) hK hP hD [1, 2, 3, 4, 5, 6] (by decide) rfl rfl rfl rfl rfl) rfl rfl hl.1 rfl (lv_room (Nat.le_of_ble_eq_true rfl)) dX3_step_48 ⟨Nat.le_of_ble_eq_true rfl, Nat.le_of_ble_eq_true rfl⟩) rfl rfl (by decide) (by decide) (fun r_1 u H locs hw hP hD hS => ?_)
          try dsimp only at hw
          obtain rfl := hw
          have hP : va_P D vwCl [(ax, .inr (4, [.ref aj, .ref ap, .ref ar, .ref arow, .ref ak, .int ed, .int dn, .int cp, .int ct])), (arow, .inl (cL, 5000, .inr (.inl ro2))), (ap, .inr (3, [.ref aj, .ref apc, .ref app, .int (nI t2)])), (apc, .inl (cL, 12, .inr (.inl cs2))), (app, .inl (cI, 6, .inl ps2)), (aj, .inr (2, [.ref af, .ref al, .int (nI c), .int (nI f)])), (af, .inl (cL, 12, .inr (.inl fv))), (al, .inl (cI, 6, .inl ln))] H := hP
          have hD : va_D A [(ax, .inr (4, [.ref aj, .ref ap, .ref ar, .ref arow, .ref ak, .int ed, .int dn, .int cp, .int ct])), (arow, .inl (cL, 5000, .inr (.inl ro2))), (ap, .inr (3, [.ref aj, .ref apc, .ref app, .int (nI t2)])), (apc, .inl (cL, 12, .inr (.inl cs2))), (app, .inl (cI, 6, .inl ps2)), (aj, .inr (2, [.ref af, .ref al, .int (nI c), .int (nI f)])), (af, .inl (cL, 12, .inr (.inl fv))), (al, .inl (cI, 6, .inl ln))] := hD
          refine lv_if_ne (tgt := 81) hx hb dX3_step_51 (by decide) (fun c_51 => ?_) (fun c_51 => ?_)
          · have hfin := srun_stop (n := N - d) (c := c) (f := f) (ln := ln) (s := (t2, cs2, ps2, ro2)) (fun q => c_51 q.2)
            refine lv_iload_n hx hb dX3_step_81 rfl (lv_at hl 0 rfl) ?_
            have hP9 := hP.sub (ws' := [(ax, .inr (4, [.ref aj, .ref ap, .ref ar, .ref arow, .ref ak, .int ed, .int dn, .int cp, .int ct])), (ap, .inr (3, [.ref aj, .ref apc, .ref app, .int (nI t2)])), (apc, .inl (cL, 12, .inr (.inl cs2))), (app, .inl (cI, 6, .inl ps2)), (aj, .inr (2, [.ref af, .ref al, .int (nI c), .int (nI f)])), (af, .inl (cL, 12, .inr (.inl fv))), (al, .inl (cI, 6, .inl ln)), (arow, .inl (cL, 5000, .inr (.inl ro2)))]) [0, 2, 3, 4, 5, 6, 7, 1] rfl
            have hD9 := hD.sub (ws' := [(ax, .inr (4, [.ref aj, .ref ap, .ref ar, .ref arow, .ref ak, .int ed, .int dn, .int cp, .int ct])), (ap, .inr (3, [.ref aj, .ref apc, .ref app, .int (nI t2)])), (apc, .inl (cL, 12, .inr (.inl cs2))), (app, .inl (cI, 6, .inl ps2)), (aj, .inr (2, [.ref af, .ref al, .int (nI c), .int (nI f)])), (af, .inl (cL, 12, .inr (.inl fv))), (al, .inl (cI, 6, .inl ln)), (arow, .inl (cL, 5000, .inr (.inl ro2)))]) [0, 2, 3, 4, 5, 6, 7, 1] (by decide) rfl
            refine W.widen (k := 0) (n := 0) (Nat.le_of_ble_eq_true rfl) (Nat.le_of_ble_eq_true rfl) ?_
            exact W.iret (v := (nI d)) hx hb hr (fun t9 ht9 hW9 => ⟨⟨(nI d), (t2, cs2, ps2, ro2), rfl, ⟨fun q => absurd q hrg, fun _ q => absurd hdn q, fun _ _ => by rw [ht2, Nat.add_sub_cancel_left], by rw [if_pos ⟨hrg, hdn⟩, hcl, ← hrun, hfin]⟩, by rw [ht9]; exact hP9, va_K.moved hW9.alike hK, hD9⟩, hS.F ht9⟩) hS.2.2 dX3_step_82
          · have hgo : t2 < 5000 ∧ ie_r f ps2 ln = 0 := ⟨by omega, c_51⟩
            refine lv_aload_n hx hb dX3_step_54 rfl (lv_at hl 1 rfl) ?_
            refine va_get (D := D) (ci := 4) (v := .ref ap) (C := RX3) (T := TX3) (N := 9) hx hb hts iX3 hown hK hP 0 rfl rfl 1 (by decide) wf21 (fun _ h9 => h9) rfl dX3_step_55 ?_
            refine va_get (D := D) (ci := 3) (v := .int (nI t2)) (C := RX2) (T := TX2) (N := 4) hx hb hts iX2 hown hK hP 2 rfl rfl 3 (by decide) wf73 (fun _ h9 => h9) rfl dX3_step_58 ?_
            refine lv_istore_n (lv' := [(3, .int (nI t2)), (2, .int (nI d)), (0, .ref ax), (1, .int x)]) hx hb dX3_step_61 rfl hl (by decide) rfl (fun ls hl => ?_)
            refine lv_aload_n hx hb dX3_step_62 rfl (lv_at hl 2 rfl) ?_
            refine va_get (D := D) (ci := 4) (v := .ref arow) (C := RX3) (T := TX3) (N := 9) hx hb hts iX3 hown hK hP 0 rfl rfl 3 (by decide) wf28 (fun _ h9 => h9) rfl dX3_step_63 ?_
            refine lv_iload_n hx hb dX3_step_66 rfl (lv_at hl 0 rfl) ?_
            refine lv_aload_n hx hb dX3_step_67 rfl (lv_at hl 2 rfl) ?_
            refine va_get (D := D) (ci := 4) (v := .ref ap) (C := RX3) (T := TX3) (N := 9) hx hb hts iX3 hown hK hP 0 rfl rfl 1 (by decide) wf21 (fun _ h9 => h9) rfl dX3_step_68 ?_
            refine ct_calll (wr := [(ax, .inr (4, [.ref aj, .ref ap, .ref ar, .ref arow, .ref ak, .int ed, .int dn, .int cp, .int ct])), (arow, .inl (cL, 5000, .inr (.inl ro2)))]) (rest := [.int (nI t2), .ref arow]) hP hD hS hA [2, 3, 4, 5, 6, 7] [0, 1] (va_runV (C := RX2) (As := []) ⟨hx, hb, hml, hown, hts⟩ (c_X2_doUnit l D cI cL cZ ap apc app cs2 ps2 aj af al c f fv ln t2 _ (by omega) (by omega) (by omega)) (cwV 0 hts gX3_step_X2_doUnit rfl rfl rfl (by decide +kernel) ⟨Nat.le_of_ble_eq_true rfl, Nat.le_of_ble_eq_true rfl⟩) (ct_preV (q0 := 0) (ci := 3) hK hP hD [2, 3, 4, 5, 6, 7] (by decide) rfl rfl rfl rfl rfl) rfl rfl hl.1 rfl (lv_room (Nat.le_of_ble_eq_true rfl)) dX3_step_71 ⟨Nat.le_of_ble_eq_true rfl, Nat.le_of_ble_eq_true rfl⟩) rfl rfl (by decide) (by decide) (fun r_2 u H locs hw hP hD hS => ?_)
            obtain ⟨cs1_3, ps1_4⟩ := u
            try dsimp only at hw
            obtain ⟨rfl, rfl, rfl⟩ := hw
            have hP : va_P D vwCl [(ax, .inr (4, [.ref aj, .ref ap, .ref ar, .ref arow, .ref ak, .int ed, .int dn, .int cp, .int ct])), (arow, .inl (cL, 5000, .inr (.inl ro2))), (ap, .inr (3, [.ref aj, .ref apc, .ref app, .int (nI (t2 + 1))])), (apc, .inl (cL, 12, .inr (.inl (du_c c t2 (rd_v t2 f ps2 ln) cs2)))), (app, .inl (cI, 6, .inl (rd_p t2 f ps2 ln))), (aj, .inr (2, [.ref af, .ref al, .int (nI c), .int (nI f)])), (af, .inl (cL, 12, .inr (.inl fv))), (al, .inl (cI, 6, .inl ln))] H := hP
            have hD : va_D A [(ax, .inr (4, [.ref aj, .ref ap, .ref ar, .ref arow, .ref ak, .int ed, .int dn, .int cp, .int ct])), (arow, .inl (cL, 5000, .inr (.inl ro2))), (ap, .inr (3, [.ref aj, .ref apc, .ref app, .int (nI (t2 + 1))])), (apc, .inl (cL, 12, .inr (.inl (du_c c t2 (rd_v t2 f ps2 ln) cs2)))), (app, .inl (cI, 6, .inl (rd_p t2 f ps2 ln))), (aj, .inr (2, [.ref af, .ref al, .int (nI c), .int (nI f)])), (af, .inl (cL, 12, .inr (.inl fv))), (al, .inl (cI, 6, .inl ln))] := hD
            refine ct_last (k := t2) hx hb hK hP hD hS 1 1 rfl rfl (by omega) (by decide) dX3_step_74 (fun H locs hP hD hS => ?_)
            have hP : va_P D vwCl [(ax, .inr (4, [.ref aj, .ref ap, .ref ar, .ref arow, .ref ak, .int ed, .int dn, .int cp, .int ct])), (arow, .inl (cL, 5000, .inr (.inl (vp_updL ro2 t2 (du_r c t2 (rd_v t2 f ps2 ln) cs2))))), (ap, .inr (3, [.ref aj, .ref apc, .ref app, .int (nI (t2 + 1))])), (apc, .inl (cL, 12, .inr (.inl (du_c c t2 (rd_v t2 f ps2 ln) cs2)))), (app, .inl (cI, 6, .inl (rd_p t2 f ps2 ln))), (aj, .inr (2, [.ref af, .ref al, .int (nI c), .int (nI f)])), (af, .inl (cL, 12, .inr (.inl fv))), (al, .inl (cI, 6, .inl ln))] H := hP
            have hD : va_D A [(ax, .inr (4, [.ref aj, .ref ap, .ref ar, .ref arow, .ref ak, .int ed, .int dn, .int cp, .int ct])), (arow, .inl (cL, 5000, .inr (.inl (vp_updL ro2 t2 (du_r c t2 (rd_v t2 f ps2 ln) cs2))))), (ap, .inr (3, [.ref aj, .ref apc, .ref app, .int (nI (t2 + 1))])), (apc, .inl (cL, 12, .inr (.inl (du_c c t2 (rd_v t2 f ps2 ln) cs2)))), (app, .inl (cI, 6, .inl (rd_p t2 f ps2 ln))), (aj, .inr (2, [.ref af, .ref al, .int (nI c), .int (nI f)])), (af, .inl (cL, 12, .inr (.inl fv))), (al, .inl (cI, 6, .inl ln))] := hD
            refine lv_iinc (v := (nI (d + 1))) (lv' := [(2, .int (nI (d + 1))), (3, .int (nI t2)), (0, .ref ax), (1, .int x)]) hx hb dX3_step_75 hl (k := 1) rfl (nI_1 d) (by decide) rfl (fun ls hl => ?_)
            refine lv_goto (tgt := 26) hx hb dX3_step_78 (by decide) ?_
            exact ih N ((d + 1)) (t2 + 1) (du_c c t2 (rd_v t2 f ps2 ln) cs2) (rd_p t2 f ps2 ln) (vp_updL ro2 t2 (du_r c t2 (rd_v t2 f ps2 ln) cs2)) hN hN1 hrg hdn (by omega) (by omega) (by omega) (by omega) ((srun_step (by omega) hgo).symm.trans hrun) _ _ (hP.sub [0, 2, 3, 4, 5, 6, 7, 1] rfl) (hD.sub [0, 2, 3, 4, 5, 6, 7, 1] (by decide) rfl) hS ls (lv_sub hl [0, 2, 3] rfl)
  refine lv_iload_n hx hb dX3_step_0 rfl (lv_at hl 1 rfl) ?_
  refine lv_if_lt (tgt := 11) hx hb dX3_step_1 (by decide) (fun c_1 => ?_) (fun c_1 => ?_)
  · refine lv_bipush (v := (-4)) hx hb dX3_step_11 (by decide) ?_
    have hbad : x < 0 ∨ ¬ x ≤ 1000 := by first | exact Or.inl c_1 | exact Or.inr c_8
    have hP9 := hP.sub (ws' := [(ax, .inr (4, [.ref aj, .ref ap, .ref ar, .ref arow, .ref ak, .int ed, .int dn, .int cp, .int ct])), (ap, .inr (3, [.ref aj, .ref apc, .ref app, .int (nI t)])), (apc, .inl (cL, 12, .inr (.inl cs))), (app, .inl (cI, 6, .inl ps)), (aj, .inr (2, [.ref af, .ref al, .int (nI c), .int (nI f)])), (af, .inl (cL, 12, .inr (.inl fv))), (al, .inl (cI, 6, .inl ln)), (arow, .inl (cL, 5000, .inr (.inl ro)))]) [0, 1, 2, 3, 4, 5, 6, 7] rfl
    have hD9 := hD.sub (ws' := [(ax, .inr (4, [.ref aj, .ref ap, .ref ar, .ref arow, .ref ak, .int ed, .int dn, .int cp, .int ct])), (ap, .inr (3, [.ref aj, .ref apc, .ref app, .int (nI t)])), (apc, .inl (cL, 12, .inr (.inl cs))), (app, .inl (cI, 6, .inl ps)), (aj, .inr (2, [.ref af, .ref al, .int (nI c), .int (nI f)])), (af, .inl (cL, 12, .inr (.inl fv))), (al, .inl (cI, 6, .inl ln)), (arow, .inl (cL, 5000, .inr (.inl ro)))]) [0, 1, 2, 3, 4, 5, 6, 7] (by decide) rfl
    refine W.widen (k := 0) (n := 0) (Nat.le_of_ble_eq_true rfl) (Nat.le_of_ble_eq_true rfl) ?_
    exact W.iret (v := (-4)) hx hb hr (fun t9 ht9 hW9 => ⟨⟨(-4), (t, cs, ps, ro), rfl, ⟨fun _ => rfl, fun q => absurd hbad q, fun q => absurd hbad q, by rw [if_neg (fun q => q.1 hbad)]⟩, by rw [ht9]; exact hP9, va_K.moved hW9.alike hK, hD9⟩, hS.F ht9⟩) hS.2.2 dX3_step_13
  · refine lv_iload_n hx hb dX3_step_4 rfl (lv_at hl 1 rfl) ?_
    refine lv_sipush (v := 1000) hx hb dX3_step_5 (by decide) ?_
    refine lv_icmp_le (tgt := 14) hx hb dX3_step_8 (by decide) (fun c_8 => ?_) (fun c_8 => ?_)
    · have hrg : ¬ (x < 0 ∨ ¬ x ≤ 1000) := fun q => q.elim c_1 (fun q => q c_8)
      refine lv_aload_n hx hb dX3_step_14 rfl (lv_at hl 0 rfl) ?_
      refine va_get (D := D) (ci := 4) (v := .int dn) (C := RX3) (T := TX3) (N := 9) hx hb hts iX3 hown hK hP 0 rfl rfl 6 (by decide) wf43 (fun _ h9 => h9) rfl dX3_step_15 ?_
      refine lv_if_eq (tgt := 24) hx hb dX3_step_18 (by decide) (fun c_18 => ?_) (fun c_18 => ?_)
      · obtain ⟨N, hN1, hN⟩ := nI_of2 (M := 1000) (n := 1000) rfl c_1 c_8
        refine lv_iconst (v := 0) hx hb dX3_step_24 (by decide) ?_
        refine lv_istore_n (lv' := [(2, .int 0), (0, .ref ax), (1, .int x)]) hx hb dX3_step_25 rfl hl (by decide) rfl (fun ls hl => ?_)
        exact key26 (N + 1) N 0 t cs ps ro hN hN1 hrg c_18 (by omega) (by omega) (by omega) (by omega) rfl _ _ (hP.sub [0, 1, 2, 3, 4, 5, 6, 7] rfl) (hD.sub [0, 1, 2, 3, 4, 5, 6, 7] (by decide) rfl) hS ls (lv_sub hl [0, 1, 2] rfl)
      · refine lv_bipush (v := (-5)) hx hb dX3_step_21 (by decide) ?_
        have hP9 := hP.sub (ws' := [(ax, .inr (4, [.ref aj, .ref ap, .ref ar, .ref arow, .ref ak, .int ed, .int dn, .int cp, .int ct])), (ap, .inr (3, [.ref aj, .ref apc, .ref app, .int (nI t)])), (apc, .inl (cL, 12, .inr (.inl cs))), (app, .inl (cI, 6, .inl ps)), (aj, .inr (2, [.ref af, .ref al, .int (nI c), .int (nI f)])), (af, .inl (cL, 12, .inr (.inl fv))), (al, .inl (cI, 6, .inl ln)), (arow, .inl (cL, 5000, .inr (.inl ro)))]) [0, 1, 2, 3, 4, 5, 6, 7] rfl
        have hD9 := hD.sub (ws' := [(ax, .inr (4, [.ref aj, .ref ap, .ref ar, .ref arow, .ref ak, .int ed, .int dn, .int cp, .int ct])), (ap, .inr (3, [.ref aj, .ref apc, .ref app, .int (nI t)])), (apc, .inl (cL, 12, .inr (.inl cs))), (app, .inl (cI, 6, .inl ps)), (aj, .inr (2, [.ref af, .ref al, .int (nI c), .int (nI f)])), (af, .inl (cL, 12, .inr (.inl fv))), (al, .inl (cI, 6, .inl ln)), (arow, .inl (cL, 5000, .inr (.inl ro)))]) [0, 1, 2, 3, 4, 5, 6, 7] (by decide) rfl
        refine W.widen (k := 0) (n := 0) (Nat.le_of_ble_eq_true rfl) (Nat.le_of_ble_eq_true rfl) ?_
        exact W.iret (v := (-5)) hx hb hr (fun t9 ht9 hW9 => ⟨⟨(-5), (t, cs, ps, ro), rfl, ⟨fun q => absurd q hrg, fun _ _ => rfl, fun _ q => absurd q c_18, by rw [if_neg (fun q => c_18 q.2)]⟩, by rw [ht9]; exact hP9, va_K.moved hW9.alike hK, hD9⟩, hS.F ht9⟩) hS.2.2 dX3_step_23
    · refine lv_bipush (v := (-4)) hx hb dX3_step_11 (by decide) ?_
      have hbad : x < 0 ∨ ¬ x ≤ 1000 := by first | exact Or.inl c_1 | exact Or.inr c_8
      have hP9 := hP.sub (ws' := [(ax, .inr (4, [.ref aj, .ref ap, .ref ar, .ref arow, .ref ak, .int ed, .int dn, .int cp, .int ct])), (ap, .inr (3, [.ref aj, .ref apc, .ref app, .int (nI t)])), (apc, .inl (cL, 12, .inr (.inl cs))), (app, .inl (cI, 6, .inl ps)), (aj, .inr (2, [.ref af, .ref al, .int (nI c), .int (nI f)])), (af, .inl (cL, 12, .inr (.inl fv))), (al, .inl (cI, 6, .inl ln)), (arow, .inl (cL, 5000, .inr (.inl ro)))]) [0, 1, 2, 3, 4, 5, 6, 7] rfl
      have hD9 := hD.sub (ws' := [(ax, .inr (4, [.ref aj, .ref ap, .ref ar, .ref arow, .ref ak, .int ed, .int dn, .int cp, .int ct])), (ap, .inr (3, [.ref aj, .ref apc, .ref app, .int (nI t)])), (apc, .inl (cL, 12, .inr (.inl cs))), (app, .inl (cI, 6, .inl ps)), (aj, .inr (2, [.ref af, .ref al, .int (nI c), .int (nI f)])), (af, .inl (cL, 12, .inr (.inl fv))), (al, .inl (cI, 6, .inl ln)), (arow, .inl (cL, 5000, .inr (.inl ro)))]) [0, 1, 2, 3, 4, 5, 6, 7] (by decide) rfl
      refine W.widen (k := 0) (n := 0) (Nat.le_of_ble_eq_true rfl) (Nat.le_of_ble_eq_true rfl) ?_
      exact W.iret (v := (-4)) hx hb hr (fun t9 ht9 hW9 => ⟨⟨(-4), (t, cs, ps, ro), rfl, ⟨fun _ => rfl, fun q => absurd hbad q, fun q => absurd hbad q, by rw [if_neg (fun q => q.1 hbad)]⟩, by rw [ht9]; exact hP9, va_K.moved hW9.alike hK, hD9⟩, hS.F ht9⟩) hS.2.2 dX3_step_13
