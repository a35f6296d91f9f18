abbrev rm_X1_init : Room := { frames := 1, cells := 2, slots := 18, locals := 12 }
abbrev qc_X1_init (D : va_G) (cI cL cZ : ClassId) (aj : Nat) (A : Nat → Prop) : Array Value → State → Outcome → State → Prop := va_Qv (fun (u : Nat × Nat) => True) (ct_B D vwCl [(cI, .int), (cL, .long), (cZ, .boolean)] A (fun (u : Nat × Nat) => [(aj, .inr (2, [.ref u.1, .ref u.2, .int 0, .int 0])), (u.1, .inl (cL, 12, .inr (.inl (fun _ => 0)))), (u.2, .inl (cI, 6, .inl (fun _ => 0)))])) A
set_option maxHeartbeats 4000000 in
set_option maxRecDepth 100000 in
theorem c_X1_init (l : Launch) (D : va_G) (cI cL cZ : ClassId) (aj : Nat) (sz : Nat)  : Met l yX1_init wsX1_init rm_X1_init (va_Pc [.ref aj] (ct_P D vwCl [(cI, .int), (cL, .long), (cZ, .boolean)] [(aj, .inr (2, [.null, .null, .int 0, .int 0]))] sz)) (qc_X1_init D cI cL cZ aj (va_A [(aj, .inr (2, [.null, .null, .int 0, .int 0]))] sz)) 2 18 (va_A [(aj, .inr (2, [.null, .null, .int 0, .int 0]))] sz) := by
  refine Met.ofW (cc := cX1_init) (maxL := 1) (ret := none) (by decide) rfl ?_
  intro p e s m args below meth cd s₁ B hml hv
  obtain ⟨rfl, hsz, hP, hK, hD0⟩ := hv
  have hx := B.exec
  have hb := B.bytes
  have hr := B.returns
  have hts := atoms_spec (ws := wsX1_init) B.pre
  have wo1 := hts (.methodLink RX1 3 objectInit) (by decide +kernel)
  have wo2 := hts (.instanceMethod objectInit) (by decide +kernel)
  have wo3 := hts (.code objectInit ⟨#[0xb1]⟩ 1 none) (List.mem_of_getElem? (i := 3) rfl)
  have walong := hts (.arrayClass .long) (by decide +kernel)
  have iX1 : ∀ w ∈ wsX10, w ∈ wsX1_init := by decide +kernel
  have wf9 := hts (.fieldLink RX1 9 "CheckRestart$Job" "firstValues" "[J") (by decide +kernel)
  have waint := hts (.arrayClass .int) (by decide +kernel)
  have wf15 := hts (.fieldLink RX1 15 "CheckRestart$Job" "lengths" "[I") (by decide +kernel)
  have wf19 := hts (.fieldLink RX1 19 "CheckRestart$Job" "cellCount" "I") (by decide +kernel)
  have wf23 := hts (.fieldLink RX1 23 "CheckRestart$Job" "fileCount" "I") (by decide +kernel)
  have hown : s.vm.findClass RX1 = some m.cls := findClass_of_methodNamed B.named
  have hlocks := B.notSynchronized
  have hin : meth.name = "<init>" := (name_of_methodNamed B.named B.method).1
  subst hsz
  have hD := hD0.self (sz := s.heap.size)
  generalize hAe : va_A [(aj, .inr (2, [.null, .null, .int 0, .int 0]))] s.heap.size = A at hD ⊢
  have hA : ∀ q : Nat, s.heap.size ≤ q → A q := fun q h => by rw [← hAe]; exact Or.inr h
  have hS : va_S A s.heap s.heap [] := va_S.rf
  have hl := lv_entry ([.ref aj]) (n := 1) (Nat.le_of_ble_eq_true rfl)
  rw [lg_entry_eq]
  generalize (lg_sl ([.ref aj]) ++ List.replicate (1 - (lg_sl ([.ref aj])).length) Slot.unset).toArray = ls at hl ⊢
  have hl : lv_has ls 1 [(0, .ref aj)] := hl
  refine lv_aload_n hx hb dX1_init_0 rfl (lv_at hl 0 rfl) ?_
  refine W.objInit hx hb hown wo1 wo2 wo3 rfl (by rw [hml]; exact hl.1) rfl dX1_init_1 (Nat.le_of_ble_eq_true rfl) (Nat.le_of_ble_eq_true rfl) ?_
  refine W.eq (g2 := F0 m 4 ls []) rfl ?_
  refine lv_aload_n hx hb dX1_init_4 rfl (lv_at hl 0 rfl) ?_
  refine lv_bipush (v := 12) hx hb dX1_init_5 (by decide) ?_
  refine va_newa (atype := .long) (n := 12) (N' := 12) (a0 := (12, .inr (.inl (fun _ => 0)))) (ty := .long) hx hb walong rfl hK hP hD hS hA (fun _ => rfl) (by decide) (by decide) (show 12 * 8 ≤ 536870912 by omega) (Nat.le_of_ble_eq_true rfl) (Nat.le_of_ble_eq_true rfl) dX1_init_7 (fun uf cA_1 H hK2 hP hD hS => ?_)
  have ecA_1 : cL = cA_1 := ct_cls (i := 1) (j := 3) hK2 rfl rfl rfl
  subst ecA_1
  clear hK2
  refine W.widen (k := 1) (n := 12) (by omega) (by omega) ?_
  have hP : va_P D vwCl [(aj, .inr (2, [.null, .null, .int 0, .int 0])), (uf, .inl (cL, 12, .inr (.inl (fun _ => 0))))] H := hP
  have hD : va_D A [(aj, .inr (2, [.null, .null, .int 0, .int 0])), (uf, .inl (cL, 12, .inr (.inl (fun _ => 0))))] := hD
  refine va_putF (D := D) (ci := 2) (v := .ref uf) (ty := (.array .long)) (C := RX1) (T := TX1) (N := 4) hx hb hts iX1 tyX1 tyX1_ok nmX1 hown hK hP hD hS 0 rfl rfl 0 (by decide) wf9 (fun _ h9 => h9) rfl hin rfl (by decide +kernel) rfl rfl (Nat.le_of_ble_eq_true rfl) dX1_init_9 (fun H locs hP hD hS => ?_)
  have hP : va_P D vwCl [(aj, .inr (2, [.ref uf, .null, .int 0, .int 0])), (uf, .inl (cL, 12, .inr (.inl (fun _ => 0))))] H := hP
  have hD : va_D A [(aj, .inr (2, [.ref uf, .null, .int 0, .int 0])), (uf, .inl (cL, 12, .inr (.inl (fun _ => 0))))] := hD
  refine lv_aload_n hx hb dX1_init_12 rfl (lv_at hl 0 rfl) ?_
  refine lv_bipush (v := 6) hx hb dX1_init_13 (by decide) ?_
  refine va_newa (atype := .int) (n := 6) (N' := 6) (a0 := (6, .inl (fun _ => 0))) (ty := .int) hx hb waint rfl hK hP hD hS hA (fun _ => rfl) (by decide) (by decide) (show 6 * 4 ≤ 536870912 by omega) (Nat.le_of_ble_eq_true rfl) (Nat.le_of_ble_eq_true rfl) dX1_init_15 (fun ul cA_2 H hK2 hP hD hS => ?_)
  have ecA_2 : cI = cA_2 := ct_cls (i := 0) (j := 3) hK2 rfl rfl rfl
  subst ecA_2
  clear hK2
  refine W.widen (k := 2) (n := 18) (by omega) (by omega) ?_
  have hP : va_P D vwCl [(aj, .inr (2, [.ref uf, .null, .int 0, .int 0])), (uf, .inl (cL, 12, .inr (.inl (fun _ => 0)))), (ul, .inl (cI, 6, .inl (fun _ => 0)))] H := hP
  have hD : va_D A [(aj, .inr (2, [.ref uf, .null, .int 0, .int 0])), (uf, .inl (cL, 12, .inr (.inl (fun _ => 0)))), (ul, .inl (cI, 6, .inl (fun _ => 0)))] := hD
  refine va_putF (D := D) (ci := 2) (v := .ref ul) (ty := (.array .int)) (C := RX1) (T := TX1) (N := 4) hx hb hts iX1 tyX1 tyX1_ok nmX1 hown hK hP hD hS 0 rfl rfl 1 (by decide) wf15 (fun _ h9 => h9) rfl hin rfl (by decide +kernel) rfl rfl (Nat.le_of_ble_eq_true rfl) dX1_init_17 (fun H locs hP hD hS => ?_)
  have hP : va_P D vwCl [(aj, .inr (2, [.ref uf, .ref ul, .int 0, .int 0])), (uf, .inl (cL, 12, .inr (.inl (fun _ => 0)))), (ul, .inl (cI, 6, .inl (fun _ => 0)))] H := hP
  have hD : va_D A [(aj, .inr (2, [.ref uf, .ref ul, .int 0, .int 0])), (uf, .inl (cL, 12, .inr (.inl (fun _ => 0)))), (ul, .inl (cI, 6, .inl (fun _ => 0)))] := hD
  refine lv_aload_n hx hb dX1_init_20 rfl (lv_at hl 0 rfl) ?_
  refine lv_iconst (v := 0) hx hb dX1_init_21 (by decide) ?_
  refine va_put (D := D) (ci := 2) (v := .int 0) (ty := .int) (C := RX1) (T := TX1) (N := 4) hx hb hts iX1 tyX1 tyX1_ok nmX1 hown hK hP hD hS 0 rfl rfl 2 (by decide) wf19 (fun _ h9 => h9) rfl (by decide +kernel) rfl rfl (Nat.le_of_ble_eq_true rfl) dX1_init_22 (fun H locs hP hD hS => ?_)
  have hP : va_P D vwCl [(aj, .inr (2, [.ref uf, .ref ul, .int 0, .int 0])), (uf, .inl (cL, 12, .inr (.inl (fun _ => 0)))), (ul, .inl (cI, 6, .inl (fun _ => 0)))] H := hP
  have hD : va_D A [(aj, .inr (2, [.ref uf, .ref ul, .int 0, .int 0])), (uf, .inl (cL, 12, .inr (.inl (fun _ => 0)))), (ul, .inl (cI, 6, .inl (fun _ => 0)))] := hD
  refine lv_aload_n hx hb dX1_init_25 rfl (lv_at hl 0 rfl) ?_
  refine lv_iconst (v := 0) hx hb dX1_init_26 (by decide) ?_
  refine va_put (D := D) (ci := 2) (v := .int 0) (ty := .int) (C := RX1) (T := TX1) (N := 4) hx hb hts iX1 tyX1 tyX1_ok nmX1 hown hK hP hD hS 0 rfl rfl 3 (by decide) wf23 (fun _ h9 => h9) rfl (by decide +kernel) rfl rfl (Nat.le_of_ble_eq_true rfl) dX1_init_27 (fun H locs hP hD hS => ?_)
  have hP : va_P D vwCl [(aj, .inr (2, [.ref uf, .ref ul, .int 0, .int 0])), (uf, .inl (cL, 12, .inr (.inl (fun _ => 0)))), (ul, .inl (cI, 6, .inl (fun _ => 0)))] H := hP
  have hD : va_D A [(aj, .inr (2, [.ref uf, .ref ul, .int 0, .int 0])), (uf, .inl (cL, 12, .inr (.inl (fun _ => 0)))), (ul, .inl (cI, 6, .inl (fun _ => 0)))] := hD
  have hP9 := hP.sub (ws' := [(aj, .inr (2, [.ref uf, .ref ul, .int 0, .int 0])), (uf, .inl (cL, 12, .inr (.inl (fun _ => 0)))), (ul, .inl (cI, 6, .inl (fun _ => 0)))]) [0, 1, 2] rfl
  have hD9 := hD.sub (ws' := [(aj, .inr (2, [.ref uf, .ref ul, .int 0, .int 0])), (uf, .inl (cL, 12, .inr (.inl (fun _ => 0)))), (ul, .inl (cI, 6, .inl (fun _ => 0)))]) [0, 1, 2] (by decide) rfl
  refine W.widen (k := 2) (n := 18) (Nat.le_of_ble_eq_true rfl) (Nat.le_of_ble_eq_true rfl) ?_
  exact W.vret hx hb hr (fun t9 ht9 hW9 => ⟨⟨(uf, ul), rfl, trivial, by rw [ht9]; exact hP9, va_K.moved hW9.alike hK, hD9⟩, hS.F ht9⟩) hS.2.2 dX1_init_30
abbrev rm_X1_hasFile : Room := { frames := 0, cells := 0, slots := 0, locals := 0 }
abbrev qc_X1_hasFile (D : va_G) (cI cL cZ : ClassId) (aj : Nat) (af : Nat) (al : Nat) (c : Nat) (f : Nat) (x : Int32) (A : Nat → Prop) : Array Value → State → Outcome → State → Prop := va_Qi (fun (r : Int32) (u : Unit) => ((if x < 0 ∨ nI f ≤ x then 0 else 1) = r)) (ct_B D vwCl [(cI, .int), (cL, .long), (cZ, .boolean)] A (fun (u : Unit) => [(aj, .inr (2, [.ref af, .ref al, .int (nI c), .int (nI f)]))])) A
set_option maxHeartbeats 4000000 in
set_option maxRecDepth 100000 in
theorem c_X1_hasFile (l : Launch) (D : va_G) (cI cL cZ : ClassId) (aj : Nat) (af : Nat) (al : Nat) (c : Nat) (f : Nat) (x : Int32) (sz : Nat)  : Met l yX1_hasFile wsX1_hasFile rm_X1_hasFile (va_Pc [.ref aj, .int x] (ct_P D vwCl [(cI, .int), (cL, .long), (cZ, .boolean)] [(aj, .inr (2, [.ref af, .ref al, .int (nI c), .int (nI f)]))] sz)) (qc_X1_hasFile D cI cL cZ aj af al c f x (va_A [(aj, .inr (2, [.ref af, .ref al, .int (nI c), .int (nI f)]))] sz)) 0 0 (va_A [(aj, .inr (2, [.ref af, .ref al, .int (nI c), .int (nI f)]))] sz) := by
  refine Met.ofW (cc := cX1_hasFile) (maxL := 2) (ret := (some .boolean)) (by decide) rfl ?_
  intro p e s m args below meth cd s₁ B hml hv
  obtain ⟨rfl, hsz, hP, hK, hD0⟩ := hv
  have hx := B.exec
  have hb := B.bytes
  have hr := B.returns
  have hts := atoms_spec (ws := wsX1_hasFile) B.pre
  have iX1 : ∀ w ∈ wsX10, w ∈ wsX1_hasFile := by decide +kernel
  have wf23 := hts (.fieldLink RX1 23 "CheckRestart$Job" "fileCount" "I") (by decide +kernel)
  have hown : s.vm.findClass RX1 = some m.cls := findClass_of_methodNamed B.named
  have hlocks := B.notSynchronized
  subst hsz
  have hD := hD0.self (sz := s.heap.size)
  generalize hAe : va_A [(aj, .inr (2, [.ref af, .ref al, .int (nI c), .int (nI f)]))] s.heap.size = A at hD ⊢
  have hA : ∀ q : Nat, s.heap.size ≤ q → A q := fun q h => by rw [← hAe]; exact Or.inr h
  have hS : va_S A s.heap s.heap [] := va_S.rf
  have hl := lv_entry ([.ref aj, .int x]) (n := 2) (Nat.le_of_ble_eq_true rfl)
  rw [lg_entry_eq]
  generalize (lg_sl ([.ref aj, .int x]) ++ List.replicate (2 - (lg_sl ([.ref aj, .int x])).length) Slot.unset).toArray = ls at hl ⊢
  have hl : lv_has ls 2 [(0, .ref aj), (1, .int x)] := hl
  refine lv_iload_n hx hb dX1_hasFile_0 rfl (lv_at hl 1 rfl) ?_
  refine lv_if_lt (tgt := 16) hx hb dX1_hasFile_1 (by decide) (fun c_1 => ?_) (fun c_1 => ?_)
  · refine lv_iconst (v := 0) hx hb dX1_hasFile_16 (by decide) ?_
    have hP9 := hP.sub (ws' := [(aj, .inr (2, [.ref af, .ref al, .int (nI c), .int (nI f)]))]) [0] rfl
    have hD9 := hD.sub (ws' := [(aj, .inr (2, [.ref af, .ref al, .int (nI c), .int (nI f)]))]) [0] (by decide) rfl
    refine W.widen (k := 0) (n := 0) (Nat.le_of_ble_eq_true rfl) (Nat.le_of_ble_eq_true rfl) ?_
    exact W.zret (v := 0) hx hb hr (rfl) (fun t9 ht9 hW9 => ⟨⟨0, (), rfl, by first | rfl | (simp [c_1]; done), by rw [ht9]; exact hP9, va_K.moved hW9.alike hK, hD9⟩, hS.F ht9⟩) hS.2.2 dX1_hasFile_17
  · refine lv_iload_n hx hb dX1_hasFile_4 rfl (lv_at hl 1 rfl) ?_
    refine lv_aload_n hx hb dX1_hasFile_5 rfl (lv_at hl 0 rfl) ?_
    refine va_get (D := D) (ci := 2) (v := .int (nI f)) (C := RX1) (T := TX1) (N := 4) hx hb hts iX1 hown hK hP 0 rfl rfl 3 (by decide) wf23 (fun _ h9 => h9) rfl dX1_hasFile_6 ?_
    refine lv_icmp_ge (tgt := 16) hx hb dX1_hasFile_9 (by decide) (fun c_9 => ?_) (fun c_9 => ?_)
    · refine lv_iconst (v := 0) hx hb dX1_hasFile_16 (by decide) ?_
      have hP9 := hP.sub (ws' := [(aj, .inr (2, [.ref af, .ref al, .int (nI c), .int (nI f)]))]) [0] rfl
      have hD9 := hD.sub (ws' := [(aj, .inr (2, [.ref af, .ref al, .int (nI c), .int (nI f)]))]) [0] (by decide) rfl
      refine W.widen (k := 0) (n := 0) (Nat.le_of_ble_eq_true rfl) (Nat.le_of_ble_eq_true rfl) ?_
      exact W.zret (v := 0) hx hb hr (rfl) (fun t9 ht9 hW9 => ⟨⟨0, (), rfl, by first | rfl | (simp [c_1, c_9]; done), by rw [ht9]; exact hP9, va_K.moved hW9.alike hK, hD9⟩, hS.F ht9⟩) hS.2.2 dX1_hasFile_17
    · refine lv_iconst (v := 1) hx hb dX1_hasFile_12 (by decide) ?_
      refine lv_goto (tgt := 17) hx hb dX1_hasFile_13 (by decide) ?_
      have hP9 := hP.sub (ws' := [(aj, .inr (2, [.ref af, .ref al, .int (nI c), .int (nI f)]))]) [0] rfl
      have hD9 := hD.sub (ws' := [(aj, .inr (2, [.ref af, .ref al, .int (nI c), .int (nI f)]))]) [0] (by decide) rfl
      refine W.widen (k := 0) (n := 0) (Nat.le_of_ble_eq_true rfl) (Nat.le_of_ble_eq_true rfl) ?_
      exact W.zret (v := 1) hx hb hr (rfl) (fun t9 ht9 hW9 => ⟨⟨1, (), rfl, by first | rfl | (simp [c_1, c_9]; done), by rw [ht9]; exact hP9, va_K.moved hW9.alike hK, hD9⟩, hS.F ht9⟩) hS.2.2 dX1_hasFile_17
abbrev rm_X2_init : Room := { frames := 1, cells := 2, slots := 18, locals := 12 }
abbrev qc_X2_init (D : va_G) (cI cL cZ : ClassId) (ap : Nat) (aj : Nat) (A : Nat → Prop) : Array Value → State → Outcome → State → Prop := va_Qv (fun (u : Nat × Nat) => True) (ct_B D vwCl [(cI, .int), (cL, .long), (cZ, .boolean)] A (fun (u : Nat × Nat) => [(ap, .inr (3, [.ref aj, .ref u.1, .ref u.2, .int 0])), (u.1, .inl (cL, 12, .inr (.inl (fun _ => 0)))), (u.2, .inl (cI, 6, .inl (fun _ => 0)))])) A
set_option maxHeartbeats 4000000 in
set_option maxRecDepth 100000 in
theorem c_X2_init (l : Launch) (D : va_G) (cI cL cZ : ClassId) (ap : Nat) (aj : Nat) (sz : Nat)  : Met l yX2_init wsX2_init rm_X2_init (va_Pc [.ref ap, .ref aj] (ct_P D vwCl [(cI, .int), (cL, .long), (cZ, .boolean)] [(ap, .inr (3, [.null, .null, .null, .int 0]))] sz)) (qc_X2_init D cI cL cZ ap aj (va_A [(ap, .inr (3, [.null, .null, .null, .int 0]))] sz)) 2 18 (va_A [(ap, .inr (3, [.null, .null, .null, .int 0]))] sz) := by
  refine Met.ofW (cc := cX2_init) (maxL := 2) (ret := none) (by decide) rfl ?_
  intro p e s m args below meth cd s₁ B hml hv
  obtain ⟨rfl, hsz, hP, hK, hD0⟩ := hv
  have hx := B.exec
  have hb := B.bytes
  have hr := B.returns
  have hts := atoms_spec (ws := wsX2_init) B.pre
  have wo1 := hts (.methodLink RX2 3 objectInit) (by decide +kernel)
  have wo2 := hts (.instanceMethod objectInit) (by decide +kernel)
  have wo3 := hts (.code objectInit ⟨#[0xb1]⟩ 1 none) (List.mem_of_getElem? (i := 3) rfl)
  have walong := hts (.arrayClass .long) (by decide +kernel)
  have iX2 : ∀ w ∈ wsX20, w ∈ wsX2_init := by decide +kernel
  have wf9 := hts (.fieldLink RX2 9 "CheckRestart$Progress" "cells" "[J") (by decide +kernel)
  have waint := hts (.arrayClass .int) (by decide +kernel)
  have wf15 := hts (.fieldLink RX2 15 "CheckRestart$Progress" "positions" "[I") (by decide +kernel)
  have wf19 := hts (.fieldLink RX2 19 "CheckRestart$Progress" "units" "I") (by decide +kernel)
  have wf23 := hts (.fieldLink RX2 23 "CheckRestart$Progress" "job" "LCheckRestart$Job;") (by decide +kernel)
  have hown : s.vm.findClass RX2 = some m.cls := findClass_of_methodNamed B.named
  have hlocks := B.notSynchronized
  have hin : meth.name = "<init>" := (name_of_methodNamed B.named B.method).1
  subst hsz
  have hD := hD0.self (sz := s.heap.size)
  generalize hAe : va_A [(ap, .inr (3, [.null, .null, .null, .int 0]))] s.heap.size = A at hD ⊢
  have hA : ∀ q : Nat, s.heap.size ≤ q → A q := fun q h => by rw [← hAe]; exact Or.inr h
  have hS : va_S A s.heap s.heap [] := va_S.rf
  have hl := lv_entry ([.ref ap, .ref aj]) (n := 2) (Nat.le_of_ble_eq_true rfl)
  rw [lg_entry_eq]
  generalize (lg_sl ([.ref ap, .ref aj]) ++ List.replicate (2 - (lg_sl ([.ref ap, .ref aj])).length) Slot.unset).toArray = ls at hl ⊢
  have hl : lv_has ls 2 [(0, .ref ap), (1, .ref aj)] := hl
  refine lv_aload_n hx hb dX2_init_0 rfl (lv_at hl 0 rfl) ?_
  refine W.objInit hx hb hown wo1 wo2 wo3 rfl (by rw [hml]; exact hl.1) rfl dX2_init_1 (Nat.le_of_ble_eq_true rfl) (Nat.le_of_ble_eq_true rfl) ?_
  refine W.eq (g2 := F0 m 4 ls []) rfl ?_
  refine lv_aload_n hx hb dX2_init_4 rfl (lv_at hl 0 rfl) ?_
  refine lv_bipush (v := 12) hx hb dX2_init_5 (by decide) ?_
  refine va_newa (atype := .long) (n := 12) (N' := 12) (a0 := (12, .inr (.inl (fun _ => 0)))) (ty := .long) hx hb walong rfl hK hP hD hS hA (fun _ => rfl) (by decide) (by decide) (show 12 * 8 ≤ 536870912 by omega) (Nat.le_of_ble_eq_true rfl) (Nat.le_of_ble_eq_true rfl) dX2_init_7 (fun uc cA_1 H hK2 hP hD hS => ?_)
  have ecA_1 : cL = cA_1 := ct_cls (i := 1) (j := 3) hK2 rfl rfl rfl
  subst ecA_1
  clear hK2
  refine W.widen (k := 1) (n := 12) (by omega) (by omega) ?_
  have hP : va_P D vwCl [(ap, .inr (3, [.null, .null, .null, .int 0])), (uc, .inl (cL, 12, .inr (.inl (fun _ => 0))))] H := hP
  have hD : va_D A [(ap, .inr (3, [.null, .null, .null, .int 0])), (uc, .inl (cL, 12, .inr (.inl (fun _ => 0))))] := hD
  refine va_putF (D := D) (ci := 3) (v := .ref uc) (ty := (.array .long)) (C := RX2) (T := TX2) (N := 4) hx hb hts iX2 tyX2 tyX2_ok nmX2 hown hK hP hD hS 0 rfl rfl 1 (by decide) wf9 (fun _ h9 => h9) rfl hin rfl (by decide +kernel) rfl rfl (Nat.le_of_ble_eq_true rfl) dX2_init_9 (fun H locs hP hD hS => ?_)
  have hP : va_P D vwCl [(ap, .inr (3, [.null, .ref uc, .null, .int 0])), (uc, .inl (cL, 12, .inr (.inl (fun _ => 0))))] H := hP
  have hD : va_D A [(ap, .inr (3, [.null, .ref uc, .null, .int 0])), (uc, .inl (cL, 12, .inr (.inl (fun _ => 0))))] := hD
  refine lv_aload_n hx hb dX2_init_12 rfl (lv_at hl 0 rfl) ?_
  refine lv_bipush (v := 6) hx hb dX2_init_13 (by decide) ?_
  refine va_newa (atype := .int) (n := 6) (N' := 6) (a0 := (6, .inl (fun _ => 0))) (ty := .int) hx hb waint rfl hK hP hD hS hA (fun _ => rfl) (by decide) (by decide) (show 6 * 4 ≤ 536870912 by omega) (Nat.le_of_ble_eq_true rfl) (Nat.le_of_ble_eq_true rfl) dX2_init_15 (fun up cA_2 H hK2 hP hD hS => ?_)
  have ecA_2 : cI = cA_2 := ct_cls (i := 0) (j := 3) hK2 rfl rfl rfl
  subst ecA_2
  clear hK2
  refine W.widen (k := 2) (n := 18) (by omega) (by omega) ?_
  have hP : va_P D vwCl [(ap, .inr (3, [.null, .ref uc, .null, .int 0])), (uc, .inl (cL, 12, .inr (.inl (fun _ => 0)))), (up, .inl (cI, 6, .inl (fun _ => 0)))] H := hP
  have hD : va_D A [(ap, .inr (3, [.null, .ref uc, .null, .int 0])), (uc, .inl (cL, 12, .inr (.inl (fun _ => 0)))), (up, .inl (cI, 6, .inl (fun _ => 0)))] := hD
  refine va_putF (D := D) (ci := 3) (v := .ref up) (ty := (.array .int)) (C := RX2) (T := TX2) (N := 4) hx hb hts iX2 tyX2 tyX2_ok nmX2 hown hK hP hD hS 0 rfl rfl 2 (by decide) wf15 (fun _ h9 => h9) rfl hin rfl (by decide +kernel) rfl rfl (Nat.le_of_ble_eq_true rfl) dX2_init_17 (fun H locs hP hD hS => ?_)
  have hP : va_P D vwCl [(ap, .inr (3, [.null, .ref uc, .ref up, .int 0])), (uc, .inl (cL, 12, .inr (.inl (fun _ => 0)))), (up, .inl (cI, 6, .inl (fun _ => 0)))] H := hP
  have hD : va_D A [(ap, .inr (3, [.null, .ref uc, .ref up, .int 0])), (uc, .inl (cL, 12, .inr (.inl (fun _ => 0)))), (up, .inl (cI, 6, .inl (fun _ => 0)))] := hD
  refine lv_aload_n hx hb dX2_init_20 rfl (lv_at hl 0 rfl) ?_
  refine lv_iconst (v := 0) hx hb dX2_init_21 (by decide) ?_
  refine va_put (D := D) (ci := 3) (v := .int 0) (ty := .int) (C := RX2) (T := TX2) (N := 4) hx hb hts iX2 tyX2 tyX2_ok nmX2 hown hK hP hD hS 0 rfl rfl 3 (by decide) wf19 (fun _ h9 => h9) rfl (by decide +kernel) rfl rfl (Nat.le_of_ble_eq_true rfl) dX2_init_22 (fun H locs hP hD hS => ?_)
  have hP : va_P D vwCl [(ap, .inr (3, [.null, .ref uc, .ref up, .int 0])), (uc, .inl (cL, 12, .inr (.inl (fun _ => 0)))), (up, .inl (cI, 6, .inl (fun _ => 0)))] H := hP
  have hD : va_D A [(ap, .inr (3, [.null, .ref uc, .ref up, .int 0])), (uc, .inl (cL, 12, .inr (.inl (fun _ => 0)))), (up, .inl (cI, 6, .inl (fun _ => 0)))] := hD
  refine lv_aload_n hx hb dX2_init_25 rfl (lv_at hl 0 rfl) ?_
  refine lv_aload_n hx hb dX2_init_26 rfl (lv_at hl 1 rfl) ?_
  refine va_putF (D := D) (ci := 3) (v := .ref aj) (ty := (.object "CheckRestart$Job")) (C := RX2) (T := TX2) (N := 4) hx hb hts iX2 tyX2 tyX2_ok nmX2 hown hK hP hD hS 0 rfl rfl 0 (by decide) wf23 (fun _ h9 => h9) rfl hin rfl (by decide +kernel) rfl rfl (Nat.le_of_ble_eq_true rfl) dX2_init_27 (fun H locs hP hD hS => ?_)
  have hP : va_P D vwCl [(ap, .inr (3, [.ref aj, .ref uc, .ref up, .int 0])), (uc, .inl (cL, 12, .inr (.inl (fun _ => 0)))), (up, .inl (cI, 6, .inl (fun _ => 0)))] H := hP
  have hD : va_D A [(ap, .inr (3, [.ref aj, .ref uc, .ref up, .int 0])), (uc, .inl (cL, 12, .inr (.inl (fun _ => 0)))), (up, .inl (cI, 6, .inl (fun _ => 0)))] := hD
  have hP9 := hP.sub (ws' := [(ap, .inr (3, [.ref aj, .ref uc, .ref up, .int 0])), (uc, .inl (cL, 12, .inr (.inl (fun _ => 0)))), (up, .inl (cI, 6, .inl (fun _ => 0)))]) [0, 1, 2] rfl
  have hD9 := hD.sub (ws' := [(ap, .inr (3, [.ref aj, .ref uc, .ref up, .int 0])), (uc, .inl (cL, 12, .inr (.inl (fun _ => 0)))), (up, .inl (cI, 6, .inl (fun _ => 0)))]) [0, 1, 2] (by decide) rfl
  refine W.widen (k := 2) (n := 18) (Nat.le_of_ble_eq_true rfl) (Nat.le_of_ble_eq_true rfl) ?_
  exact W.vret hx hb hr (fun t9 ht9 hW9 => ⟨⟨(uc, up), rfl, trivial, by rw [ht9]; exact hP9, va_K.moved hW9.alike hK, hD9⟩, hS.F ht9⟩) hS.2.2 dX2_init_30
