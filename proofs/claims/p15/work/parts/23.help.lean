abbrev rm_L_get : Room := { frames := 7, cells := 1, slots := 6, locals := 121 }
abbrev qc_L_get (D : va_G) (cI cL cZ : ClassId) (ax : Nat) (aj : Nat) (ap : Nat) (ar : Nat) (arow : Nat) (ak : Nat) (ed : Int32) (dn : Int32) (cp : Int32) (ct : Int32) (af : Nat) (al : Nat) (c : Nat) (f : Nat) (apc : Nat) (app : Nat) (t : Nat) (cs : Nat → Int64) (x : Int32) (ao : Nat) (out : Nat → Int64) (A : Nat → Prop) : Array Value → State → Outcome → State → Prop := va_Qi (fun (r : Int32) (u : (Nat → Int64)) => ((if x < 0 ∨ nI c ≤ x then 1 else 0) = r) ∧ ((if x < 0 ∨ nI c ≤ x then out else vp_updL out 0 (cs x.toNatClampNeg)) = u)) (ct_B D vwCl [(cI, .int), (cL, .long), (cZ, .boolean)] A (fun (u : (Nat → Int64)) => [(ax, .inr (4, [.ref aj, .ref ap, .ref ar, .ref arow, .ref ak, .int ed, .int dn, .int cp, .int ct])), (aj, .inr (2, [.ref af, .ref al, .int (nI c), .int (nI f)])), (ap, .inr (3, [.ref aj, .ref apc, .ref app, .int (nI t)])), (apc, .inl (cL, 12, .inr (.inl cs))), (ao, .inl (cL, 1, .inr (.inl u)))])) A
set_option maxHeartbeats 4000000 in
set_option maxRecDepth 100000 in
theorem c_L_get (l : Launch) (hl0 : l.stackTraces = false) (D : va_G) (cI cL cZ : ClassId) (ax : Nat) (aj : Nat) (ap : Nat) (ar : Nat) (arow : Nat) (ak : Nat) (ed : Int32) (dn : Int32) (cp : Int32) (ct : Int32) (af : Nat) (al : Nat) (c : Nat) (f : Nat) (apc : Nat) (app : Nat) (t : Nat) (cs : Nat → Int64) (x : Int32) (ao : Nat) (out : Nat → Int64) (sz sa : Nat) (hc : c ≤ 12) : Met l yL_get wsL_get rm_L_get (va_Pc [.ref ax, .int x, .ref ao] (fun U => ct_P D vwCl [(cI, .int), (cL, .long), (cZ, .boolean)] [(ax, .inr (4, [.ref aj, .ref ap, .ref ar, .ref arow, .ref ak, .int ed, .int dn, .int cp, .int ct])), (aj, .inr (2, [.ref af, .ref al, .int (nI c), .int (nI f)])), (ap, .inr (3, [.ref aj, .ref apc, .ref app, .int (nI t)])), (apc, .inl (cL, 12, .inr (.inl cs))), (ao, .inl (cL, 1, .inr (.inl out)))] sz U ∧ zx_P RX3 113 "no such cell" eI nsI sa (va_A [(ax, .inr (4, [.ref aj, .ref ap, .ref ar, .ref arow, .ref ak, .int ed, .int dn, .int cp, .int ct])), (aj, .inr (2, [.ref af, .ref al, .int (nI c), .int (nI f)])), (ap, .inr (3, [.ref aj, .ref apc, .ref app, .int (nI t)])), (apc, .inl (cL, 12, .inr (.inl cs))), (ao, .inl (cL, 1, .inr (.inl out)))] sz) U)) (qc_L_get D cI cL cZ ax aj ap ar arow ak ed dn cp ct af al c f apc app t cs x ao out (va_A [(ax, .inr (4, [.ref aj, .ref ap, .ref ar, .ref arow, .ref ak, .int ed, .int dn, .int cp, .int ct])), (aj, .inr (2, [.ref af, .ref al, .int (nI c), .int (nI f)])), (ap, .inr (3, [.ref aj, .ref apc, .ref app, .int (nI t)])), (apc, .inl (cL, 12, .inr (.inl cs))), (ao, .inl (cL, 1, .inr (.inl out)))] sz)) 1 6 (va_A [(ax, .inr (4, [.ref aj, .ref ap, .ref ar, .ref arow, .ref ak, .int ed, .int dn, .int cp, .int ct])), (aj, .inr (2, [.ref af, .ref al, .int (nI c), .int (nI f)])), (ap, .inr (3, [.ref aj, .ref apc, .ref app, .int (nI t)])), (apc, .inl (cL, 12, .inr (.inl cs))), (ao, .inl (cL, 1, .inr (.inl out)))] sz) := by
  refine va_MetW (hh := [(0, 8, 11, 13)]) (cc := cL_get) (maxL := 4) (ret := (some .int)) (by decide) rfl ?_
  intro p e s m args below meth cd s₁ B hml hv
  obtain ⟨rfl, ⟨hsz, hP, hK, hD0⟩, hZ⟩ := hv
  have hx := B.exec
  have hb := B.bytes
  have hr := B.returns
  have hts := atoms_spec (ws := wsL_get) B.pre
  have wc13 := hts (.classLink RL 13 eI) (by decide +kernel)
  have hown : s.vm.findClass RL = some m.cls := findClass_of_methodNamed B.named
  have hlocks := B.notSynchronized
  subst hsz
  have hD := hD0.self (sz := s.heap.size)
  generalize hAe : va_A [(ax, .inr (4, [.ref aj, .ref ap, .ref ar, .ref arow, .ref ak, .int ed, .int dn, .int cp, .int ct])), (aj, .inr (2, [.ref af, .ref al, .int (nI c), .int (nI f)])), (ap, .inr (3, [.ref aj, .ref apc, .ref app, .int (nI t)])), (apc, .inl (cL, 12, .inr (.inl cs))), (ao, .inl (cL, 1, .inr (.inl out)))] s.heap.size = A at hD hZ ⊢
  have hA : ∀ q : Nat, s.heap.size ≤ q → A q := fun q h => by rw [← hAe]; exact Or.inr h
  have hS : va_S A s.heap s.heap [] := va_S.rf
  have hl := lv_entry ([.ref ax, .int x, .ref ao]) (n := 4) (Nat.le_of_ble_eq_true rfl)
  rw [lg_entry_eq]
  generalize (lg_sl ([.ref ax, .int x, .ref ao]) ++ List.replicate (4 - (lg_sl ([.ref ax, .int x, .ref ao])).length) Slot.unset).toArray = ls at hl ⊢
  have hl : lv_has ls 4 [(0, .ref ax), (1, .int x), (2, .ref ao)] := hl
  obtain ⟨xt, hsplit, hx1, hx2, hx3, hx4⟩ := l_tab B (hts _ List.mem_cons_self)
  refine lv_aload_n hx hb dL_get_0 rfl (lv_at hl 2 rfl) ?_
  refine lv_iconst (v := 0) hx hb dL_get_1 (by decide) ?_
  refine lv_aload_n hx hb dL_get_2 rfl (lv_at hl 0 rfl) ?_
  refine lv_iload_n hx hb dL_get_3 rfl (lv_at hl 1 rfl) ?_
  refine ct_xl (wr := [(ao, .inl (cL, 1, .inr (.inl out)))]) (rest := [.int 0, .ref ao]) hP hD hS hA [0, 1, 2, 3] [4] (vx_runV (C := RX3) (As := [.int x]) ⟨hx, hb, hml, hown, hts⟩ (c_X3_get l hl0 D cI cL cZ ax aj ap ar arow ak ed dn cp ct af al c f apc app t cs x _ sa (by omega)) (cwV 1 hts gL_get_X3_get rfl rfl rfl (by decide +kernel) ⟨Nat.le_of_ble_eq_true rfl, Nat.le_of_ble_eq_true rfl⟩) (ct_preVx (q0 := 0) (ci := 4) (fun U g mk a h => zx_calling g mk a h) (fun U hU hW => zx_warm hZ hS hU hW (va_free hD hS hA [0, 1, 2, 3] rfl)) hK hP hD [0, 1, 2, 3] (by decide) rfl rfl rfl rfl rfl) rfl rfl hl.1 rfl (lv_room (Nat.le_of_ble_eq_true rfl)) dL_get_4 ⟨Nat.le_of_ble_eq_true rfl, Nat.le_of_ble_eq_true rfl⟩) rfl rfl (by decide) (by decide) (fun ce q9 H locs h0 hP hD hS hce hcv hcl => ?_) (fun r u H locs hw hP hD hS => ?_)
  · refine vx_catch (own := RL) (name := eI) hown [] xt [] hsplit (fun z hz => nomatch hz) (by simp [covers, hx1, hx2]) (by rw [hx4]; decide) (by rw [hx4]; exact wc13) (va_Nw.use rfl (hZ.2.2.2 _ List.mem_cons_self)) hce hcv hcl ?_
    rw [hx3]
    have hP : va_P D vwCl [(ao, .inl (cL, 1, .inr (.inl out))), (ax, .inr (4, [.ref aj, .ref ap, .ref ar, .ref arow, .ref ak, .int ed, .int dn, .int cp, .int ct])), (aj, .inr (2, [.ref af, .ref al, .int (nI c), .int (nI f)])), (ap, .inr (3, [.ref aj, .ref apc, .ref app, .int (nI t)])), (apc, .inl (cL, 12, .inr (.inl cs)))] H := hP
    have hD : va_D A [(ao, .inl (cL, 1, .inr (.inl out))), (ax, .inr (4, [.ref aj, .ref ap, .ref ar, .ref arow, .ref ak, .int ed, .int dn, .int cp, .int ct])), (aj, .inr (2, [.ref af, .ref al, .int (nI c), .int (nI f)])), (ap, .inr (3, [.ref aj, .ref apc, .ref app, .int (nI t)])), (apc, .inl (cL, 12, .inr (.inl cs)))] := hD
    refine lv_astore_n (lv' := [(3, .ref q9), (0, .ref ax), (1, .int x), (2, .ref ao)]) hx hb dL_get_11 rfl hl (by decide) rfl (fun ls hl => ?_)
    refine lv_iconst (v := 1) hx hb dL_get_12 (by decide) ?_
    have hP9 := hP.sub (ws' := [(ax, .inr (4, [.ref aj, .ref ap, .ref ar, .ref arow, .ref ak, .int ed, .int dn, .int cp, .int ct])), (aj, .inr (2, [.ref af, .ref al, .int (nI c), .int (nI f)])), (ap, .inr (3, [.ref aj, .ref apc, .ref app, .int (nI t)])), (apc, .inl (cL, 12, .inr (.inl cs))), (ao, .inl (cL, 1, .inr (.inl out)))]) [1, 2, 3, 4, 0] rfl
    have hD9 := hD.sub (ws' := [(ax, .inr (4, [.ref aj, .ref ap, .ref ar, .ref arow, .ref ak, .int ed, .int dn, .int cp, .int ct])), (aj, .inr (2, [.ref af, .ref al, .int (nI c), .int (nI f)])), (ap, .inr (3, [.ref aj, .ref apc, .ref app, .int (nI t)])), (apc, .inl (cL, 12, .inr (.inl cs))), (ao, .inl (cL, 1, .inr (.inl out)))]) [1, 2, 3, 4, 0] (by decide) rfl
    refine W.widen (k := 1) (n := 6) (Nat.le_of_ble_eq_true rfl) (Nat.le_of_ble_eq_true rfl) ?_
    exact W.iret (v := 1) hx hb hr (fun t9 ht9 hW9 => ⟨⟨1, (out), rfl, ⟨by rw [if_pos h0], by rw [if_pos h0]⟩, by rw [ht9]; exact hP9, va_K.moved hW9.alike hK, hD9⟩, hS.F ht9⟩) hS.2.2 dL_get_13
  · obtain ⟨rfl, h0⟩ := hw
    have hP : va_P D vwCl [(ao, .inl (cL, 1, .inr (.inl out))), (ax, .inr (4, [.ref aj, .ref ap, .ref ar, .ref arow, .ref ak, .int ed, .int dn, .int cp, .int ct])), (aj, .inr (2, [.ref af, .ref al, .int (nI c), .int (nI f)])), (ap, .inr (3, [.ref aj, .ref apc, .ref app, .int (nI t)])), (apc, .inl (cL, 12, .inr (.inl cs)))] H := hP
    have hD : va_D A [(ao, .inl (cL, 1, .inr (.inl out))), (ax, .inr (4, [.ref aj, .ref ap, .ref ar, .ref arow, .ref ak, .int ed, .int dn, .int cp, .int ct])), (aj, .inr (2, [.ref af, .ref al, .int (nI c), .int (nI f)])), (ap, .inr (3, [.ref aj, .ref apc, .ref app, .int (nI t)])), (apc, .inl (cL, 12, .inr (.inl cs)))] := hD
    refine ct_last (k := 0) hx hb hK hP hD hS 0 1 rfl rfl (by omega) (by decide) dL_get_7 (fun H locs hP hD hS => ?_)
    have hP : va_P D vwCl [(ao, .inl (cL, 1, .inr (.inl (vp_updL out 0 (cs x.toNatClampNeg))))), (ax, .inr (4, [.ref aj, .ref ap, .ref ar, .ref arow, .ref ak, .int ed, .int dn, .int cp, .int ct])), (aj, .inr (2, [.ref af, .ref al, .int (nI c), .int (nI f)])), (ap, .inr (3, [.ref aj, .ref apc, .ref app, .int (nI t)])), (apc, .inl (cL, 12, .inr (.inl cs)))] H := hP
    have hD : va_D A [(ao, .inl (cL, 1, .inr (.inl (vp_updL out 0 (cs x.toNatClampNeg))))), (ax, .inr (4, [.ref aj, .ref ap, .ref ar, .ref arow, .ref ak, .int ed, .int dn, .int cp, .int ct])), (aj, .inr (2, [.ref af, .ref al, .int (nI c), .int (nI f)])), (ap, .inr (3, [.ref aj, .ref apc, .ref app, .int (nI t)])), (apc, .inl (cL, 12, .inr (.inl cs)))] := hD
    refine lv_goto (tgt := 14) hx hb dL_get_8 (by decide) ?_
    refine lv_iconst (v := 0) hx hb dL_get_14 (by decide) ?_
    have hP9 := hP.sub (ws' := [(ax, .inr (4, [.ref aj, .ref ap, .ref ar, .ref arow, .ref ak, .int ed, .int dn, .int cp, .int ct])), (aj, .inr (2, [.ref af, .ref al, .int (nI c), .int (nI f)])), (ap, .inr (3, [.ref aj, .ref apc, .ref app, .int (nI t)])), (apc, .inl (cL, 12, .inr (.inl cs))), (ao, .inl (cL, 1, .inr (.inl (vp_updL out 0 (cs x.toNatClampNeg)))))]) [1, 2, 3, 4, 0] rfl
    have hD9 := hD.sub (ws' := [(ax, .inr (4, [.ref aj, .ref ap, .ref ar, .ref arow, .ref ak, .int ed, .int dn, .int cp, .int ct])), (aj, .inr (2, [.ref af, .ref al, .int (nI c), .int (nI f)])), (ap, .inr (3, [.ref aj, .ref apc, .ref app, .int (nI t)])), (apc, .inl (cL, 12, .inr (.inl cs))), (ao, .inl (cL, 1, .inr (.inl (vp_updL out 0 (cs x.toNatClampNeg)))))]) [1, 2, 3, 4, 0] (by decide) rfl
    refine W.widen (k := 1) (n := 6) (Nat.le_of_ble_eq_true rfl) (Nat.le_of_ble_eq_true rfl) ?_
    exact W.iret (v := 0) hx hb hr (fun t9 ht9 hW9 => ⟨⟨0, ((vp_updL out 0 (cs x.toNatClampNeg))), rfl, ⟨by rw [if_neg h0], by rw [if_neg h0]⟩, by rw [ht9]; exact hP9, va_K.moved hW9.alike hK, hD9⟩, hS.F ht9⟩) hS.2.2 dL_get_15
abbrev rm_L_row : Room := { frames := 8, cells := 1, slots := 6, locals := 131 }
abbrev qc_L_row (D : va_G) (cI cL cZ : ClassId) (ax : Nat) (aj : Nat) (ap : Nat) (ar : Nat) (arow : Nat) (ak : Nat) (ed : Int32) (dn : Int32) (cp : Int32) (ct : Int32) (apc : Nat) (app : Nat) (t : Nat) (ro : Nat → Int64) (x : Int32) (ao : Nat) (out : Nat → Int64) (A : Nat → Prop) : Array Value → State → Outcome → State → Prop := va_Qi (fun (r : Int32) (u : (Nat → Int64)) => ((if x < 0 ∨ nI t ≤ x then 1 else 0) = r) ∧ ((if x < 0 ∨ nI t ≤ x then out else vp_updL out 0 (((ro x.toNatClampNeg >>> ((32 : Int32).toInt64 &&& 63)).toInt32)).toInt64) = u)) (ct_B D vwCl [(cI, .int), (cL, .long), (cZ, .boolean)] A (fun (u : (Nat → Int64)) => [(ax, .inr (4, [.ref aj, .ref ap, .ref ar, .ref arow, .ref ak, .int ed, .int dn, .int cp, .int ct])), (ap, .inr (3, [.ref aj, .ref apc, .ref app, .int (nI t)])), (arow, .inl (cL, 5000, .inr (.inl ro))), (ao, .inl (cL, 1, .inr (.inl u)))])) A
set_option maxHeartbeats 4000000 in
set_option maxRecDepth 100000 in
theorem c_L_row (l : Launch) (hl0 : l.stackTraces = false) (D : va_G) (cI cL cZ : ClassId) (ax : Nat) (aj : Nat) (ap : Nat) (ar : Nat) (arow : Nat) (ak : Nat) (ed : Int32) (dn : Int32) (cp : Int32) (ct : Int32) (apc : Nat) (app : Nat) (t : Nat) (ro : Nat → Int64) (x : Int32) (ao : Nat) (out : Nat → Int64) (sz sa : Nat) (ht : t ≤ 5000) : Met l yL_row wsL_rowT rm_L_row (va_Pc [.ref ax, .int x, .ref ao] (fun U => ct_P D vwCl [(cI, .int), (cL, .long), (cZ, .boolean)] [(ax, .inr (4, [.ref aj, .ref ap, .ref ar, .ref arow, .ref ak, .int ed, .int dn, .int cp, .int ct])), (ap, .inr (3, [.ref aj, .ref apc, .ref app, .int (nI t)])), (arow, .inl (cL, 5000, .inr (.inl ro))), (ao, .inl (cL, 1, .inr (.inl out)))] sz U ∧ zx_P RX3 143 "no such row" eA nsA sa (va_A [(ax, .inr (4, [.ref aj, .ref ap, .ref ar, .ref arow, .ref ak, .int ed, .int dn, .int cp, .int ct])), (ap, .inr (3, [.ref aj, .ref apc, .ref app, .int (nI t)])), (arow, .inl (cL, 5000, .inr (.inl ro))), (ao, .inl (cL, 1, .inr (.inl out)))] sz) U)) (qc_L_row D cI cL cZ ax aj ap ar arow ak ed dn cp ct apc app t ro x ao out (va_A [(ax, .inr (4, [.ref aj, .ref ap, .ref ar, .ref arow, .ref ak, .int ed, .int dn, .int cp, .int ct])), (ap, .inr (3, [.ref aj, .ref apc, .ref app, .int (nI t)])), (arow, .inl (cL, 5000, .inr (.inl ro))), (ao, .inl (cL, 1, .inr (.inl out)))] sz)) 1 6 (va_A [(ax, .inr (4, [.ref aj, .ref ap, .ref ar, .ref arow, .ref ak, .int ed, .int dn, .int cp, .int ct])), (ap, .inr (3, [.ref aj, .ref apc, .ref app, .int (nI t)])), (arow, .inl (cL, 5000, .inr (.inl ro))), (ao, .inl (cL, 1, .inr (.inl out)))] sz) := by
  refine va_MetW (hh := [(0, 9, 12, 19)]) (cc := cL_row) (maxL := 4) (ret := (some .int)) (by decide) rfl ?_
  intro p e s m args below meth cd s₁ B hml hv
  obtain ⟨rfl, ⟨hsz, hP, hK, hD0⟩, hZ⟩ := hv
  have hx := B.exec
  have hb := B.bytes
  have hr := B.returns
  have hts := atoms_spec (ws := wsL_rowT) B.pre
  have wc19 := hts (.classLink RL 19 eA) (by decide +kernel)
  have hown : s.vm.findClass RL = some m.cls := findClass_of_methodNamed B.named
  have hlocks := B.notSynchronized
  subst hsz
  have hD := hD0.self (sz := s.heap.size)
  generalize hAe : va_A [(ax, .inr (4, [.ref aj, .ref ap, .ref ar, .ref arow, .ref ak, .int ed, .int dn, .int cp, .int ct])), (ap, .inr (3, [.ref aj, .ref apc, .ref app, .int (nI t)])), (arow, .inl (cL, 5000, .inr (.inl ro))), (ao, .inl (cL, 1, .inr (.inl out)))] s.heap.size = A at hD hZ ⊢
  have hA : ∀ q : Nat, s.heap.size ≤ q → A q := fun q h => by rw [← hAe]; exact Or.inr h
  have hS : va_S A s.heap s.heap [] := va_S.rf
  have hl := lv_entry ([.ref ax, .int x, .ref ao]) (n := 4) (Nat.le_of_ble_eq_true rfl)
  rw [lg_entry_eq]
  generalize (lg_sl ([.ref ax, .int x, .ref ao]) ++ List.replicate (4 - (lg_sl ([.ref ax, .int x, .ref ao])).length) Slot.unset).toArray = ls at hl ⊢
  have hl : lv_has ls 4 [(0, .ref ax), (1, .int x), (2, .ref ao)] := hl
  obtain ⟨xt, hsplit, hx1, hx2, hx3, hx4⟩ := l_tab B (hts _ List.mem_cons_self)
  refine lv_aload_n hx hb dL_row_0 rfl (lv_at hl 2 rfl) ?_
  refine lv_iconst (v := 0) hx hb dL_row_1 (by decide) ?_
  refine lv_aload_n hx hb dL_row_2 rfl (lv_at hl 0 rfl) ?_
  refine lv_iload_n hx hb dL_row_3 rfl (lv_at hl 1 rfl) ?_
  refine ct_xi (wr := [(ao, .inl (cL, 1, .inr (.inl out)))]) (rest := [.int 0, .ref ao]) hP hD hS hA [0, 1, 2] [3] (vx_runV (C := RX3) (As := [.int x]) ⟨hx, hb, hml, hown, hts⟩ (c_X3_row l hl0 D cI cL cZ ax aj ap ar arow ak ed dn cp ct apc app t ro x _ sa (by omega)) (cwV 1 hts gL_row_T rfl rfl rfl (by decide +kernel) ⟨Nat.le_of_ble_eq_true rfl, Nat.le_of_ble_eq_true rfl⟩) (ct_preVx (q0 := 0) (ci := 4) (fun U g mk a h => zx_calling g mk a h) (fun U hU hW => zx_warm hZ hS hU hW (va_free hD hS hA [0, 1, 2] rfl)) hK hP hD [0, 1, 2] (by decide) rfl rfl rfl rfl rfl) rfl rfl hl.1 rfl (lv_room (Nat.le_of_ble_eq_true rfl)) dL_row_4 ⟨Nat.le_of_ble_eq_true rfl, Nat.le_of_ble_eq_true rfl⟩) rfl rfl (by decide) (by decide) (fun ce q9 H locs h0 hP hD hS hce hcv hcl => ?_) (fun r u H locs hw hP hD hS => ?_)
  · refine vx_catch (own := RL) (name := eA) hown [] xt [] hsplit (fun z hz => nomatch hz) (by simp [covers, hx1, hx2]) (by rw [hx4]; decide) (by rw [hx4]; exact wc19) (va_Nw.use rfl (hZ.2.2.2 _ List.mem_cons_self)) hce hcv hcl ?_
    rw [hx3]
    have hP : va_P D vwCl [(ao, .inl (cL, 1, .inr (.inl out))), (ax, .inr (4, [.ref aj, .ref ap, .ref ar, .ref arow, .ref ak, .int ed, .int dn, .int cp, .int ct])), (ap, .inr (3, [.ref aj, .ref apc, .ref app, .int (nI t)])), (arow, .inl (cL, 5000, .inr (.inl ro)))] H := hP
    have hD : va_D A [(ao, .inl (cL, 1, .inr (.inl out))), (ax, .inr (4, [.ref aj, .ref ap, .ref ar, .ref arow, .ref ak, .int ed, .int dn, .int cp, .int ct])), (ap, .inr (3, [.ref aj, .ref apc, .ref app, .int (nI t)])), (arow, .inl (cL, 5000, .inr (.inl ro)))] := hD
    refine lv_astore_n (lv' := [(3, .ref q9), (0, .ref ax), (1, .int x), (2, .ref ao)]) hx hb dL_row_12 rfl hl (by decide) rfl (fun ls hl => ?_)
    refine lv_iconst (v := 1) hx hb dL_row_13 (by decide) ?_
    have hP9 := hP.sub (ws' := [(ax, .inr (4, [.ref aj, .ref ap, .ref ar, .ref arow, .ref ak, .int ed, .int dn, .int cp, .int ct])), (ap, .inr (3, [.ref aj, .ref apc, .ref app, .int (nI t)])), (arow, .inl (cL, 5000, .inr (.inl ro))), (ao, .inl (cL, 1, .inr (.inl out)))]) [1, 2, 3, 0] rfl
    have hD9 := hD.sub (ws' := [(ax, .inr (4, [.ref aj, .ref ap, .ref ar, .ref arow, .ref ak, .int ed, .int dn, .int cp, .int ct])), (ap, .inr (3, [.ref aj, .ref apc, .ref app, .int (nI t)])), (arow, .inl (cL, 5000, .inr (.inl ro))), (ao, .inl (cL, 1, .inr (.inl out)))]) [1, 2, 3, 0] (by decide) rfl
    refine W.widen (k := 1) (n := 6) (Nat.le_of_ble_eq_true rfl) (Nat.le_of_ble_eq_true rfl) ?_
    exact W.iret (v := 1) hx hb hr (fun t9 ht9 hW9 => ⟨⟨1, (out), rfl, ⟨by rw [if_pos h0], by rw [if_pos h0]⟩, by rw [ht9]; exact hP9, va_K.moved hW9.alike hK, hD9⟩, hS.F ht9⟩) hS.2.2 dL_row_14
  · obtain ⟨rfl, h0⟩ := hw
    have hP : va_P D vwCl [(ao, .inl (cL, 1, .inr (.inl out))), (ax, .inr (4, [.ref aj, .ref ap, .ref ar, .ref arow, .ref ak, .int ed, .int dn, .int cp, .int ct])), (ap, .inr (3, [.ref aj, .ref apc, .ref app, .int (nI t)])), (arow, .inl (cL, 5000, .inr (.inl ro)))] H := hP
    have hD : va_D A [(ao, .inl (cL, 1, .inr (.inl out))), (ax, .inr (4, [.ref aj, .ref ap, .ref ar, .ref arow, .ref ak, .int ed, .int dn, .int cp, .int ct])), (ap, .inr (3, [.ref aj, .ref apc, .ref app, .int (nI t)])), (arow, .inl (cL, 5000, .inr (.inl ro)))] := hD
    refine lv_i2l hx hb dL_row_7 rfl ?_
    refine ct_last (k := 0) hx hb hK hP hD hS 0 1 rfl rfl (by omega) (by decide) dL_row_8 (fun H locs hP hD hS => ?_)
    have hP : va_P D vwCl [(ao, .inl (cL, 1, .inr (.inl (vp_updL out 0 (((ro x.toNatClampNeg >>> ((32 : Int32).toInt64 &&& 63)).toInt32).toInt64))))), (ax, .inr (4, [.ref aj, .ref ap, .ref ar, .ref arow, .ref ak, .int ed, .int dn, .int cp, .int ct])), (ap, .inr (3, [.ref aj, .ref apc, .ref app, .int (nI t)])), (arow, .inl (cL, 5000, .inr (.inl ro)))] H := hP
    have hD : va_D A [(ao, .inl (cL, 1, .inr (.inl (vp_updL out 0 (((ro x.toNatClampNeg >>> ((32 : Int32).toInt64 &&& 63)).toInt32).toInt64))))), (ax, .inr (4, [.ref aj, .ref ap, .ref ar, .ref arow, .ref ak, .int ed, .int dn, .int cp, .int ct])), (ap, .inr (3, [.ref aj, .ref apc, .ref app, .int (nI t)])), (arow, .inl (cL, 5000, .inr (.inl ro)))] := hD
    refine lv_goto (tgt := 15) hx hb dL_row_9 (by decide) ?_
    refine lv_iconst (v := 0) hx hb dL_row_15 (by decide) ?_
    have hP9 := hP.sub (ws' := [(ax, .inr (4, [.ref aj, .ref ap, .ref ar, .ref arow, .ref ak, .int ed, .int dn, .int cp, .int ct])), (ap, .inr (3, [.ref aj, .ref apc, .ref app, .int (nI t)])), (arow, .inl (cL, 5000, .inr (.inl ro))), (ao, .inl (cL, 1, .inr (.inl (vp_updL out 0 (((ro x.toNatClampNeg >>> ((32 : Int32).toInt64 &&& 63)).toInt32).toInt64)))))]) [1, 2, 3, 0] rfl
    have hD9 := hD.sub (ws' := [(ax, .inr (4, [.ref aj, .ref ap, .ref ar, .ref arow, .ref ak, .int ed, .int dn, .int cp, .int ct])), (ap, .inr (3, [.ref aj, .ref apc, .ref app, .int (nI t)])), (arow, .inl (cL, 5000, .inr (.inl ro))), (ao, .inl (cL, 1, .inr (.inl (vp_updL out 0 (((ro x.toNatClampNeg >>> ((32 : Int32).toInt64 &&& 63)).toInt32).toInt64)))))]) [1, 2, 3, 0] (by decide) rfl
    refine W.widen (k := 1) (n := 6) (Nat.le_of_ble_eq_true rfl) (Nat.le_of_ble_eq_true rfl) ?_
    exact W.iret (v := 0) hx hb hr (fun t9 ht9 hW9 => ⟨⟨0, ((vp_updL out 0 (((ro x.toNatClampNeg >>> ((32 : Int32).toInt64 &&& 63)).toInt32).toInt64))), rfl, ⟨by rw [if_neg h0], by rw [if_neg h0]⟩, by rw [ht9]; exact hP9, va_K.moved hW9.alike hK, hD9⟩, hS.F ht9⟩) hS.2.2 dL_row_16
