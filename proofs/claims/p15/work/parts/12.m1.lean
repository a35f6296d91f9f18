abbrev rm_X4_init : Room := { frames := 1, cells := 14, slots := 7378, locals := 12 }
abbrev qc_X4_init (D : va_G) (cI cL cZ : ClassId) (am : Nat) (A : Nat → Prop) : Array Value → State → Outcome → State → Prop := va_Qv (fun (u : Nat × Nat × Nat × Nat × Nat × Nat × Nat × Nat × Nat × Nat × Nat × Nat × Nat × Nat) => True) (ct_B D vwCl [(cI, .int), (cL, .long), (cZ, .boolean)] A (fun (u : Nat × Nat × Nat × Nat × Nat × Nat × Nat × Nat × Nat × Nat × Nat × Nat × Nat × Nat) => [(am, .inr (5, [.int 0, .ref u.1, .ref u.2.1, .ref u.2.2.1, .ref u.2.2.2.1, .ref u.2.2.2.2.1, .ref u.2.2.2.2.2.1, .int 0, .int 0, .int 0, .int 0, .ref u.2.2.2.2.2.2.1, .ref u.2.2.2.2.2.2.2.1, .ref u.2.2.2.2.2.2.2.2.1, .ref u.2.2.2.2.2.2.2.2.2.1, .ref u.2.2.2.2.2.2.2.2.2.2.1, .ref u.2.2.2.2.2.2.2.2.2.2.2.1, .ref u.2.2.2.2.2.2.2.2.2.2.2.2.1, .ref u.2.2.2.2.2.2.2.2.2.2.2.2.2, .int 0, .int 0, .int 0, .int 0])), (u.1, .inl (cL, 12, .inr (.inl (fun _ => 0)))), (u.2.1, .inl (cL, 12, .inr (.inl (fun _ => 0)))), (u.2.2.1, .inl (cL, 12, .inr (.inl (fun _ => 0)))), (u.2.2.2.1, .inl (cI, 6, .inl (fun _ => 0))), (u.2.2.2.2.1, .inl (cI, 6, .inl (fun _ => 0))), (u.2.2.2.2.2.1, .inl (cI, 6, .inl (fun _ => 0))), (u.2.2.2.2.2.2.1, .inl (cL, 5001, .inr (.inl (fun _ => 0)))), (u.2.2.2.2.2.2.2.1, .inl (cL, 1212, .inr (.inl (fun _ => 0)))), (u.2.2.2.2.2.2.2.2.1, .inl (cI, 606, .inl (fun _ => 0))), (u.2.2.2.2.2.2.2.2.2.1, .inl (cI, 101, .inl (fun _ => 0))), (u.2.2.2.2.2.2.2.2.2.2.1, .inl (cI, 101, .inl (fun _ => 0))), (u.2.2.2.2.2.2.2.2.2.2.2.1, .inl (cI, 101, .inl (fun _ => 0))), (u.2.2.2.2.2.2.2.2.2.2.2.2.1, .inl (cI, 101, .inl (fun _ => 0))), (u.2.2.2.2.2.2.2.2.2.2.2.2.2, .inl (cZ, 101, .inl (fun _ => 0)))])) A
set_option maxHeartbeats 4000000 in
set_option maxRecDepth 100000 in
theorem c_X4_init (l : Launch) (D : va_G) (cI cL cZ : ClassId) (am : Nat) (sz : Nat)  : Met l yX4_init wsX4_init rm_X4_init (va_Pc [.ref am] (ct_P D vwCl [(cI, .int), (cL, .long), (cZ, .boolean)] [(am, .inr (5, [.int 0, .null, .null, .null, .null, .null, .null, .int 0, .int 0, .int 0, .int 0, .null, .null, .null, .null, .null, .null, .null, .null, .int 0, .int 0, .int 0, .int 0]))] sz)) (qc_X4_init D cI cL cZ am (va_A [(am, .inr (5, [.int 0, .null, .null, .null, .null, .null, .null, .int 0, .int 0, .int 0, .int 0, .null, .null, .null, .null, .null, .null, .null, .null, .int 0, .int 0, .int 0, .int 0]))] sz)) 14 7378 (va_A [(am, .inr (5, [.int 0, .null, .null, .null, .null, .null, .null, .int 0, .int 0, .int 0, .int 0, .null, .null, .null, .null, .null, .null, .null, .null, .int 0, .int 0, .int 0, .int 0]))] sz) := by
  refine Met.ofW (cc := cX4_init) (maxL := 1) (ret := none) (by decide) rfl ?_
  intro p e s m args below meth cd s₁ B hml hv
  obtain ⟨rfl, hsz, hP, hK, hD0⟩ := hv
  have hx := B.exec
  have hb := B.bytes
  have hr := B.returns
  have hts := atoms_spec (ws := wsX4_init) B.pre
  have wo1 := hts (.methodLink RX4 1 objectInit) (by decide +kernel)
  have wo2 := hts (.instanceMethod objectInit) (by decide +kernel)
  have wo3 := hts (.code objectInit ⟨#[0xb1]⟩ 1 none) (List.mem_of_getElem? (i := 3) rfl)
  have walong := hts (.arrayClass .long) (by decide +kernel)
  have iX4 : ∀ w ∈ wsX40, w ∈ wsX4_init := by decide +kernel
  have wf7 := hts (.fieldLink RX4 7 "CheckRestartModel" "cells" "[J") (by decide +kernel)
  have wf13 := hts (.fieldLink RX4 13 "CheckRestartModel" "first" "[J") (by decide +kernel)
  have wf16 := hts (.fieldLink RX4 16 "CheckRestartModel" "trial" "[J") (by decide +kernel)
  have waint := hts (.arrayClass .int) (by decide +kernel)
  have wf19 := hts (.fieldLink RX4 19 "CheckRestartModel" "lengths" "[I") (by decide +kernel)
  have wf23 := hts (.fieldLink RX4 23 "CheckRestartModel" "positions" "[I") (by decide +kernel)
  have wf26 := hts (.fieldLink RX4 26 "CheckRestartModel" "trialAt" "[I") (by decide +kernel)
  have wf29 := hts (.fieldLink RX4 29 "CheckRestartModel" "rows" "[J") (by decide +kernel)
  have wf32 := hts (.fieldLink RX4 32 "CheckRestartModel" "keptCells" "[J") (by decide +kernel)
  have wf35 := hts (.fieldLink RX4 35 "CheckRestartModel" "keptPositions" "[I") (by decide +kernel)
  have wf38 := hts (.fieldLink RX4 38 "CheckRestartModel" "keptMany" "[I") (by decide +kernel)
  have wf41 := hts (.fieldLink RX4 41 "CheckRestartModel" "keptFiles" "[I") (by decide +kernel)
  have wf44 := hts (.fieldLink RX4 44 "CheckRestartModel" "keptUnits" "[I") (by decide +kernel)
  have wf47 := hts (.fieldLink RX4 47 "CheckRestartModel" "keptEdition" "[I") (by decide +kernel)
  have waboolean := hts (.arrayClass .boolean) (by decide +kernel)
  have wf50 := hts (.fieldLink RX4 50 "CheckRestartModel" "isWhole" "[Z") (by decide +kernel)
  have hown : s.vm.findClass RX4 = some m.cls := findClass_of_methodNamed B.named
  have hlocks := B.notSynchronized
  have hin : meth.name = "<init>" := (name_of_methodNamed B.named B.method).1
  subst hsz
  have hD := hD0.self (sz := s.heap.size)
  generalize hAe : va_A [(am, .inr (5, [.int 0, .null, .null, .null, .null, .null, .null, .int 0, .int 0, .int 0, .int 0, .null, .null, .null, .null, .null, .null, .null, .null, .int 0, .int 0, .int 0, .int 0]))] s.heap.size = A at hD ⊢
  have hA : ∀ q : Nat, s.heap.size ≤ q → A q := fun q h => by rw [← hAe]; exact Or.inr h
  have hS : va_S A s.heap s.heap [] := va_S.rf
  have hl := lv_entry ([.ref am]) (n := 1) (Nat.le_of_ble_eq_true rfl)
  rw [lg_entry_eq]
  generalize (lg_sl ([.ref am]) ++ List.replicate (1 - (lg_sl ([.ref am])).length) Slot.unset).toArray = ls at hl ⊢
  have hl : lv_has ls 1 [(0, .ref am)] := hl
  refine lv_aload_n hx hb dX4_init_0 rfl (lv_at hl 0 rfl) ?_
  refine W.objInit hx hb hown wo1 wo2 wo3 rfl (by rw [hml]; exact hl.1) rfl dX4_init_1 (Nat.le_of_ble_eq_true rfl) (Nat.le_of_ble_eq_true rfl) ?_
  refine W.eq (g2 := F0 m 4 ls []) rfl ?_
  refine lv_aload_n hx hb dX4_init_4 rfl (lv_at hl 0 rfl) ?_
  refine lv_bipush (v := 12) hx hb dX4_init_5 (by decide) ?_
  refine va_newa (atype := .long) (n := 12) (N' := 12) (a0 := (12, .inr (.inl (fun _ => 0)))) (ty := .long) hx hb walong rfl hK hP hD hS hA (fun _ => rfl) (by decide) (by decide) (show 12 * 8 ≤ 536870912 by omega) (Nat.le_of_ble_eq_true rfl) (Nat.le_of_ble_eq_true rfl) dX4_init_7 (fun uacs cA_1 H hK2 hP hD hS => ?_)
  have ecA_1 : cL = cA_1 := ct_cls (i := 1) (j := 3) hK2 rfl rfl rfl
  subst ecA_1
  clear hK2
  refine W.widen (k := 1) (n := 12) (by omega) (by omega) ?_
  have hP : va_P D vwCl [(am, .inr (5, [.int 0, .null, .null, .null, .null, .null, .null, .int 0, .int 0, .int 0, .int 0, .null, .null, .null, .null, .null, .null, .null, .null, .int 0, .int 0, .int 0, .int 0])), (uacs, .inl (cL, 12, .inr (.inl (fun _ => 0))))] H := hP
  have hD : va_D A [(am, .inr (5, [.int 0, .null, .null, .null, .null, .null, .null, .int 0, .int 0, .int 0, .int 0, .null, .null, .null, .null, .null, .null, .null, .null, .int 0, .int 0, .int 0, .int 0])), (uacs, .inl (cL, 12, .inr (.inl (fun _ => 0))))] := hD
  refine va_putF (D := D) (ci := 5) (v := .ref uacs) (ty := (.array .long)) (C := RX4) (T := TX4) (N := 23) hx hb hts iX4 tyX4 tyX4_ok nmX4 hown hK hP hD hS 0 rfl rfl 1 (by decide) wf7 (fun _ h9 => h9) rfl hin rfl (by decide +kernel) rfl rfl (Nat.le_of_ble_eq_true rfl) dX4_init_9 (fun H locs hP hD hS => ?_)
  have hP : va_P D vwCl [(am, .inr (5, [.int 0, .ref uacs, .null, .null, .null, .null, .null, .int 0, .int 0, .int 0, .int 0, .null, .null, .null, .null, .null, .null, .null, .null, .int 0, .int 0, .int 0, .int 0])), (uacs, .inl (cL, 12, .inr (.inl (fun _ => 0))))] H := hP
  have hD : va_D A [(am, .inr (5, [.int 0, .ref uacs, .null, .null, .null, .null, .null, .int 0, .int 0, .int 0, .int 0, .null, .null, .null, .null, .null, .null, .null, .null, .int 0, .int 0, .int 0, .int 0])), (uacs, .inl (cL, 12, .inr (.inl (fun _ => 0))))] := hD
  refine lv_aload_n hx hb dX4_init_12 rfl (lv_at hl 0 rfl) ?_
  refine lv_bipush (v := 12) hx hb dX4_init_13 (by decide) ?_
  refine va_newa (atype := .long) (n := 12) (N' := 12) (a0 := (12, .inr (.inl (fun _ => 0)))) (ty := .long) hx hb walong rfl hK hP hD hS hA (fun _ => rfl) (by decide) (by decide) (show 12 * 8 ≤ 536870912 by omega) (Nat.le_of_ble_eq_true rfl) (Nat.le_of_ble_eq_true rfl) dX4_init_15 (fun uafv cA_2 H hK2 hP hD hS => ?_)
  have ecA_2 : cL = cA_2 := ct_cls (i := 1) (j := 3) hK2 rfl rfl rfl
  subst ecA_2
  clear hK2
  refine W.widen (k := 2) (n := 24) (by omega) (by omega) ?_
  have hP : va_P D vwCl [(am, .inr (5, [.int 0, .ref uacs, .null, .null, .null, .null, .null, .int 0, .int 0, .int 0, .int 0, .null, .null, .null, .null, .null, .null, .null, .null, .int 0, .int 0, .int 0, .int 0])), (uacs, .inl (cL, 12, .inr (.inl (fun _ => 0)))), (uafv, .inl (cL, 12, .inr (.inl (fun _ => 0))))] H := hP
  have hD : va_D A [(am, .inr (5, [.int 0, .ref uacs, .null, .null, .null, .null, .null, .int 0, .int 0, .int 0, .int 0, .null, .null, .null, .null, .null, .null, .null, .null, .int 0, .int 0, .int 0, .int 0])), (uacs, .inl (cL, 12, .inr (.inl (fun _ => 0)))), (uafv, .inl (cL, 12, .inr (.inl (fun _ => 0))))] := hD
  refine va_putF (D := D) (ci := 5) (v := .ref uafv) (ty := (.array .long)) (C := RX4) (T := TX4) (N := 23) hx hb hts iX4 tyX4 tyX4_ok nmX4 hown hK hP hD hS 0 rfl rfl 2 (by decide) wf13 (fun _ h9 => h9) rfl hin rfl (by decide +kernel) rfl rfl (Nat.le_of_ble_eq_true rfl) dX4_init_17 (fun H locs hP hD hS => ?_)
  have hP : va_P D vwCl [(am, .inr (5, [.int 0, .ref uacs, .ref uafv, .null, .null, .null, .null, .int 0, .int 0, .int 0, .int 0, .null, .null, .null, .null, .null, .null, .null, .null, .int 0, .int 0, .int 0, .int 0])), (uacs, .inl (cL, 12, .inr (.inl (fun _ => 0)))), (uafv, .inl (cL, 12, .inr (.inl (fun _ => 0))))] H := hP
  have hD : va_D A [(am, .inr (5, [.int 0, .ref uacs, .ref uafv, .null, .null, .null, .null, .int 0, .int 0, .int 0, .int 0, .null, .null, .null, .null, .null, .null, .null, .null, .int 0, .int 0, .int 0, .int 0])), (uacs, .inl (cL, 12, .inr (.inl (fun _ => 0)))), (uafv, .inl (cL, 12, .inr (.inl (fun _ => 0))))] := hD
  refine lv_aload_n hx hb dX4_init_20 rfl (lv_at hl 0 rfl) ?_
  refine lv_bipush (v := 12) hx hb dX4_init_21 (by decide) ?_
  refine va_newa (atype := .long) (n := 12) (N' := 12) (a0 := (12, .inr (.inl (fun _ => 0)))) (ty := .long) hx hb walong rfl hK hP hD hS hA (fun _ => rfl) (by decide) (by decide) (show 12 * 8 ≤ 536870912 by omega) (Nat.le_of_ble_eq_true rfl) (Nat.le_of_ble_eq_true rfl) dX4_init_23 (fun uatr cA_3 H hK2 hP hD hS => ?_)
  have ecA_3 : cL = cA_3 := ct_cls (i := 1) (j := 3) hK2 rfl rfl rfl
  subst ecA_3
  clear hK2
  refine W.widen (k := 3) (n := 36) (by omega) (by omega) ?_
  have hP : va_P D vwCl [(am, .inr (5, [.int 0, .ref uacs, .ref uafv, .null, .null, .null, .null, .int 0, .int 0, .int 0, .int 0, .null, .null, .null, .null, .null, .null, .null, .null, .int 0, .int 0, .int 0, .int 0])), (uacs, .inl (cL, 12, .inr (.inl (fun _ => 0)))), (uafv, .inl (cL, 12, .inr (.inl (fun _ => 0)))), (uatr, .inl (cL, 12, .inr (.inl (fun _ => 0))))] H := hP
  have hD : va_D A [(am, .inr (5, [.int 0, .ref uacs, .ref uafv, .null, .null, .null, .null, .int 0, .int 0, .int 0, .int 0, .null, .null, .null, .null, .null, .null, .null, .null, .int 0, .int 0, .int 0, .int 0])), (uacs, .inl (cL, 12, .inr (.inl (fun _ => 0)))), (uafv, .inl (cL, 12, .inr (.inl (fun _ => 0)))), (uatr, .inl (cL, 12, .inr (.inl (fun _ => 0))))] := hD
  refine va_putF (D := D) (ci := 5) (v := .ref uatr) (ty := (.array .long)) (C := RX4) (T := TX4) (N := 23) hx hb hts iX4 tyX4 tyX4_ok nmX4 hown hK hP hD hS 0 rfl rfl 3 (by decide) wf16 (fun _ h9 => h9) rfl hin rfl (by decide +kernel) rfl rfl (Nat.le_of_ble_eq_true rfl) dX4_init_25 (fun H locs hP hD hS => ?_)
  have hP : va_P D vwCl [(am, .inr (5, [.int 0, .ref uacs, .ref uafv, .ref uatr, .null, .null, .null, .int 0, .int 0, .int 0, .int 0, .null, .null, .null, .null, .null, .null, .null, .null, .int 0, .int 0, .int 0, .int 0])), (uacs, .inl (cL, 12, .inr (.inl (fun _ => 0)))), (uafv, .inl (cL, 12, .inr (.inl (fun _ => 0)))), (uatr, .inl (cL, 12, .inr (.inl (fun _ => 0))))] H := hP
  have hD : va_D A [(am, .inr (5, [.int 0, .ref uacs, .ref uafv, .ref uatr, .null, .null, .null, .int 0, .int 0, .int 0, .int 0, .null, .null, .null, .null, .null, .null, .null, .null, .int 0, .int 0, .int 0, .int 0])), (uacs, .inl (cL, 12, .inr (.inl (fun _ => 0)))), (uafv, .inl (cL, 12, .inr (.inl (fun _ => 0)))), (uatr, .inl (cL, 12, .inr (.inl (fun _ => 0))))] := hD
  refine lv_aload_n hx hb dX4_init_28 rfl (lv_at hl 0 rfl) ?_
  refine lv_bipush (v := 6) hx hb dX4_init_29 (by decide) ?_
  refine va_newa (atype := .int) (n := 6) (N' := 6) (a0 := (6, .inl (fun _ => 0))) (ty := .int) hx hb waint rfl hK hP hD hS hA (fun _ => rfl) (by decide) (by decide) (show 6 * 4 ≤ 536870912 by omega) (Nat.le_of_ble_eq_true rfl) (Nat.le_of_ble_eq_true rfl) dX4_init_31 (fun ualn cA_4 H hK2 hP hD hS => ?_)
  have ecA_4 : cI = cA_4 := ct_cls (i := 0) (j := 3) hK2 rfl rfl rfl
  subst ecA_4
  clear hK2
  refine W.widen (k := 4) (n := 42) (by omega) (by omega) ?_
  have hP : va_P D vwCl [(am, .inr (5, [.int 0, .ref uacs, .ref uafv, .ref uatr, .null, .null, .null, .int 0, .int 0, .int 0, .int 0, .null, .null, .null, .null, .null, .null, .null, .null, .int 0, .int 0, .int 0, .int 0])), (uacs, .inl (cL, 12, .inr (.inl (fun _ => 0)))), (uafv, .inl (cL, 12, .inr (.inl (fun _ => 0)))), (uatr, .inl (cL, 12, .inr (.inl (fun _ => 0)))), (ualn, .inl (cI, 6, .inl (fun _ => 0)))] H := hP
  have hD : va_D A [(am, .inr (5, [.int 0, .ref uacs, .ref uafv, .ref uatr, .null, .null, .null, .int 0, .int 0, .int 0, .int 0, .null, .null, .null, .null, .null, .null, .null, .null, .int 0, .int 0, .int 0, .int 0])), (uacs, .inl (cL, 12, .inr (.inl (fun _ => 0)))), (uafv, .inl (cL, 12, .inr (.inl (fun _ => 0)))), (uatr, .inl (cL, 12, .inr (.inl (fun _ => 0)))), (ualn, .inl (cI, 6, .inl (fun _ => 0)))] := hD
  refine va_putF (D := D) (ci := 5) (v := .ref ualn) (ty := (.array .int)) (C := RX4) (T := TX4) (N := 23) hx hb hts iX4 tyX4 tyX4_ok nmX4 hown hK hP hD hS 0 rfl rfl 4 (by decide) wf19 (fun _ h9 => h9) rfl hin rfl (by decide +kernel) rfl rfl (Nat.le_of_ble_eq_true rfl) dX4_init_33 (fun H locs hP hD hS => ?_)
  have hP : va_P D vwCl [(am, .inr (5, [.int 0, .ref uacs, .ref uafv, .ref uatr, .ref ualn, .null, .null, .int 0, .int 0, .int 0, .int 0, .null, .null, .null, .null, .null, .null, .null, .null, .int 0, .int 0, .int 0, .int 0])), (uacs, .inl (cL, 12, .inr (.inl (fun _ => 0)))), (uafv, .inl (cL, 12, .inr (.inl (fun _ => 0)))), (uatr, .inl (cL, 12, .inr (.inl (fun _ => 0)))), (ualn, .inl (cI, 6, .inl (fun _ => 0)))] H := hP
  have hD : va_D A [(am, .inr (5, [.int 0, .ref uacs, .ref uafv, .ref uatr, .ref ualn, .null, .null, .int 0, .int 0, .int 0, .int 0, .null, .null, .null, .null, .null, .null, .null, .null, .int 0, .int 0, .int 0, .int 0])), (uacs, .inl (cL, 12, .inr (.inl (fun _ => 0)))), (uafv, .inl (cL, 12, .inr (.inl (fun _ => 0)))), (uatr, .inl (cL, 12, .inr (.inl (fun _ => 0)))), (ualn, .inl (cI, 6, .inl (fun _ => 0)))] := hD
  refine lv_aload_n hx hb dX4_init_36 rfl (lv_at hl 0 rfl) ?_
  refine lv_bipush (v := 6) hx hb dX4_init_37 (by decide) ?_
  refine va_newa (atype := .int) (n := 6) (N' := 6) (a0 := (6, .inl (fun _ => 0))) (ty := .int) hx hb waint rfl hK hP hD hS hA (fun _ => rfl) (by decide) (by decide) (show 6 * 4 ≤ 536870912 by omega) (Nat.le_of_ble_eq_true rfl) (Nat.le_of_ble_eq_true rfl) dX4_init_39 (fun uaps cA_5 H hK2 hP hD hS => ?_)
  have ecA_5 : cI = cA_5 := ct_cls (i := 0) (j := 3) hK2 rfl rfl rfl
  subst ecA_5
  clear hK2
  refine W.widen (k := 5) (n := 48) (by omega) (by omega) ?_
  have hP : va_P D vwCl [(am, .inr (5, [.int 0, .ref uacs, .ref uafv, .ref uatr, .ref ualn, .null, .null, .int 0, .int 0, .int 0, .int 0, .null, .null, .null, .null, .null, .null, .null, .null, .int 0, .int 0, .int 0, .int 0])), (uacs, .inl (cL, 12, .inr (.inl (fun _ => 0)))), (uafv, .inl (cL, 12, .inr (.inl (fun _ => 0)))), (uatr, .inl (cL, 12, .inr (.inl (fun _ => 0)))), (ualn, .inl (cI, 6, .inl (fun _ => 0))), (uaps, .inl (cI, 6, .inl (fun _ => 0)))] H := hP
  have hD : va_D A [(am, .inr (5, [.int 0, .ref uacs, .ref uafv, .ref uatr, .ref ualn, .null, .null, .int 0, .int 0, .int 0, .int 0, .null, .null, .null, .null, .null, .null, .null, .null, .int 0, .int 0, .int 0, .int 0])), (uacs, .inl (cL, 12, .inr (.inl (fun _ => 0)))), (uafv, .inl (cL, 12, .inr (.inl (fun _ => 0)))), (uatr, .inl (cL, 12, .inr (.inl (fun _ => 0)))), (ualn, .inl (cI, 6, .inl (fun _ => 0))), (uaps, .inl (cI, 6, .inl (fun _ => 0)))] := hD
  refine va_putF (D := D) (ci := 5) (v := .ref uaps) (ty := (.array .int)) (C := RX4) (T := TX4) (N := 23) hx hb hts iX4 tyX4 tyX4_ok nmX4 hown hK hP hD hS 0 rfl rfl 5 (by decide) wf23 (fun _ h9 => h9) rfl hin rfl (by decide +kernel) rfl rfl (Nat.le_of_ble_eq_true rfl) dX4_init_41 (fun H locs hP hD hS => ?_)
  have hP : va_P D vwCl [(am, .inr (5, [.int 0, .ref uacs, .ref uafv, .ref uatr, .ref ualn, .ref uaps, .null, .int 0, .int 0, .int 0, .int 0, .null, .null, .null, .null, .null, .null, .null, .null, .int 0, .int 0, .int 0, .int 0])), (uacs, .inl (cL, 12, .inr (.inl (fun _ => 0)))), (uafv, .inl (cL, 12, .inr (.inl (fun _ => 0)))), (uatr, .inl (cL, 12, .inr (.inl (fun _ => 0)))), (ualn, .inl (cI, 6, .inl (fun _ => 0))), (uaps, .inl (cI, 6, .inl (fun _ => 0)))] H := hP
  have hD : va_D A [(am, .inr (5, [.int 0, .ref uacs, .ref uafv, .ref uatr, .ref ualn, .ref uaps, .null, .int 0, .int 0, .int 0, .int 0, .null, .null, .null, .null, .null, .null, .null, .null, .int 0, .int 0, .int 0, .int 0])), (uacs, .inl (cL, 12, .inr (.inl (fun _ => 0)))), (uafv, .inl (cL, 12, .inr (.inl (fun _ => 0)))), (uatr, .inl (cL, 12, .inr (.inl (fun _ => 0)))), (ualn, .inl (cI, 6, .inl (fun _ => 0))), (uaps, .inl (cI, 6, .inl (fun _ => 0)))] := hD
  refine lv_aload_n hx hb dX4_init_44 rfl (lv_at hl 0 rfl) ?_
  refine lv_bipush (v := 6) hx hb dX4_init_45 (by decide) ?_
  refine va_newa (atype := .int) (n := 6) (N' := 6) (a0 := (6, .inl (fun _ => 0))) (ty := .int) hx hb waint rfl hK hP hD hS hA (fun _ => rfl) (by decide) (by decide) (show 6 * 4 ≤ 536870912 by omega) (Nat.le_of_ble_eq_true rfl) (Nat.le_of_ble_eq_true rfl) dX4_init_47 (fun uata cA_6 H hK2 hP hD hS => ?_)
  have ecA_6 : cI = cA_6 := ct_cls (i := 0) (j := 3) hK2 rfl rfl rfl
  subst ecA_6
  clear hK2
  refine W.widen (k := 6) (n := 54) (by omega) (by omega) ?_
  have hP : va_P D vwCl [(am, .inr (5, [.int 0, .ref uacs, .ref uafv, .ref uatr, .ref ualn, .ref uaps, .null, .int 0, .int 0, .int 0, .int 0, .null, .null, .null, .null, .null, .null, .null, .null, .int 0, .int 0, .int 0, .int 0])), (uacs, .inl (cL, 12, .inr (.inl (fun _ => 0)))), (uafv, .inl (cL, 12, .inr (.inl (fun _ => 0)))), (uatr, .inl (cL, 12, .inr (.inl (fun _ => 0)))), (ualn, .inl (cI, 6, .inl (fun _ => 0))), (uaps, .inl (cI, 6, .inl (fun _ => 0))), (uata, .inl (cI, 6, .inl (fun _ => 0)))] H := hP
  have hD : va_D A [(am, .inr (5, [.int 0, .ref uacs, .ref uafv, .ref uatr, .ref ualn, .ref uaps, .null, .int 0, .int 0, .int 0, .int 0, .null, .null, .null, .null, .null, .null, .null, .null, .int 0, .int 0, .int 0, .int 0])), (uacs, .inl (cL, 12, .inr (.inl (fun _ => 0)))), (uafv, .inl (cL, 12, .inr (.inl (fun _ => 0)))), (uatr, .inl (cL, 12, .inr (.inl (fun _ => 0)))), (ualn, .inl (cI, 6, .inl (fun _ => 0))), (uaps, .inl (cI, 6, .inl (fun _ => 0))), (uata, .inl (cI, 6, .inl (fun _ => 0)))] := hD
  refine va_putF (D := D) (ci := 5) (v := .ref uata) (ty := (.array .int)) (C := RX4) (T := TX4) (N := 23) hx hb hts iX4 tyX4 tyX4_ok nmX4 hown hK hP hD hS 0 rfl rfl 6 (by decide) wf26 (fun _ h9 => h9) rfl hin rfl (by decide +kernel) rfl rfl (Nat.le_of_ble_eq_true rfl) dX4_init_49 (fun H locs hP hD hS => ?_)
  have hP : va_P D vwCl [(am, .inr (5, [.int 0, .ref uacs, .ref uafv, .ref uatr, .ref ualn, .ref uaps, .ref uata, .int 0, .int 0, .int 0, .int 0, .null, .null, .null, .null, .null, .null, .null, .null, .int 0, .int 0, .int 0, .int 0])), (uacs, .inl (cL, 12, .inr (.inl (fun _ => 0)))), (uafv, .inl (cL, 12, .inr (.inl (fun _ => 0)))), (uatr, .inl (cL, 12, .inr (.inl (fun _ => 0)))), (ualn, .inl (cI, 6, .inl (fun _ => 0))), (uaps, .inl (cI, 6, .inl (fun _ => 0))), (uata, .inl (cI, 6, .inl (fun _ => 0)))] H := hP
  have hD : va_D A [(am, .inr (5, [.int 0, .ref uacs, .ref uafv, .ref uatr, .ref ualn, .ref uaps, .ref uata, .int 0, .int 0, .int 0, .int 0, .null, .null, .null, .null, .null, .null, .null, .null, .int 0, .int 0, .int 0, .int 0])), (uacs, .inl (cL, 12, .inr (.inl (fun _ => 0)))), (uafv, .inl (cL, 12, .inr (.inl (fun _ => 0)))), (uatr, .inl (cL, 12, .inr (.inl (fun _ => 0)))), (ualn, .inl (cI, 6, .inl (fun _ => 0))), (uaps, .inl (cI, 6, .inl (fun _ => 0))), (uata, .inl (cI, 6, .inl (fun _ => 0)))] := hD
  refine lv_aload_n hx hb dX4_init_52 rfl (lv_at hl 0 rfl) ?_
  refine lv_sipush (v := 5001) hx hb dX4_init_53 (by decide) ?_
  refine va_newa (atype := .long) (n := 5001) (N' := 5001) (a0 := (5001, .inr (.inl (fun _ => 0)))) (ty := .long) hx hb walong rfl hK hP hD hS hA (fun _ => rfl) (by decide) (by decide) (show 5001 * 8 ≤ 536870912 by omega) (Nat.le_of_ble_eq_true rfl) (Nat.le_of_ble_eq_true rfl) dX4_init_56 (fun uaro cA_7 H hK2 hP hD hS => ?_)
  have ecA_7 : cL = cA_7 := ct_cls (i := 1) (j := 3) hK2 rfl rfl rfl
  subst ecA_7
  clear hK2
  refine W.widen (k := 7) (n := 5055) (by omega) (by omega) ?_
  have hP : va_P D vwCl [(am, .inr (5, [.int 0, .ref uacs, .ref uafv, .ref uatr, .ref ualn, .ref uaps, .ref uata, .int 0, .int 0, .int 0, .int 0, .null, .null, .null, .null, .null, .null, .null, .null, .int 0, .int 0, .int 0, .int 0])), (uacs, .inl (cL, 12, .inr (.inl (fun _ => 0)))), (uafv, .inl (cL, 12, .inr (.inl (fun _ => 0)))), (uatr, .inl (cL, 12, .inr (.inl (fun _ => 0)))), (ualn, .inl (cI, 6, .inl (fun _ => 0))), (uaps, .inl (cI, 6, .inl (fun _ => 0))), (uata, .inl (cI, 6, .inl (fun _ => 0))), (uaro, .inl (cL, 5001, .inr (.inl (fun _ => 0))))] H := hP
  have hD : va_D A [(am, .inr (5, [.int 0, .ref uacs, .ref uafv, .ref uatr, .ref ualn, .ref uaps, .ref uata, .int 0, .int 0, .int 0, .int 0, .null, .null, .null, .null, .null, .null, .null, .null, .int 0, .int 0, .int 0, .int 0])), (uacs, .inl (cL, 12, .inr (.inl (fun _ => 0)))), (uafv, .inl (cL, 12, .inr (.inl (fun _ => 0)))), (uatr, .inl (cL, 12, .inr (.inl (fun _ => 0)))), (ualn, .inl (cI, 6, .inl (fun _ => 0))), (uaps, .inl (cI, 6, .inl (fun _ => 0))), (uata, .inl (cI, 6, .inl (fun _ => 0))), (uaro, .inl (cL, 5001, .inr (.inl (fun _ => 0))))] := hD
  refine va_putF (D := D) (ci := 5) (v := .ref uaro) (ty := (.array .long)) (C := RX4) (T := TX4) (N := 23) hx hb hts iX4 tyX4 tyX4_ok nmX4 hown hK hP hD hS 0 rfl rfl 11 (by decide) wf29 (fun _ h9 => h9) rfl hin rfl (by decide +kernel) rfl rfl (Nat.le_of_ble_eq_true rfl) dX4_init_58 (fun H locs hP hD hS => ?_)
  have hP : va_P D vwCl [(am, .inr (5, [.int 0, .ref uacs, .ref uafv, .ref uatr, .ref ualn, .ref uaps, .ref uata, .int 0, .int 0, .int 0, .int 0, .ref uaro, .null, .null, .null, .null, .null, .null, .null, .int 0, .int 0, .int 0, .int 0])), (uacs, .inl (cL, 12, .inr (.inl (fun _ => 0)))), (uafv, .inl (cL, 12, .inr (.inl (fun _ => 0)))), (uatr, .inl (cL, 12, .inr (.inl (fun _ => 0)))), (ualn, .inl (cI, 6, .inl (fun _ => 0))), (uaps, .inl (cI, 6, .inl (fun _ => 0))), (uata, .inl (cI, 6, .inl (fun _ => 0))), (uaro, .inl (cL, 5001, .inr (.inl (fun _ => 0))))] H := hP
  have hD : va_D A [(am, .inr (5, [.int 0, .ref uacs, .ref uafv, .ref uatr, .ref ualn, .ref uaps, .ref uata, .int 0, .int 0, .int 0, .int 0, .ref uaro, .null, .null, .null, .null, .null, .null, .null, .int 0, .int 0, .int 0, .int 0])), (uacs, .inl (cL, 12, .inr (.inl (fun _ => 0)))), (uafv, .inl (cL, 12, .inr (.inl (fun _ => 0)))), (uatr, .inl (cL, 12, .inr (.inl (fun _ => 0)))), (ualn, .inl (cI, 6, .inl (fun _ => 0))), (uaps, .inl (cI, 6, .inl (fun _ => 0))), (uata, .inl (cI, 6, .inl (fun _ => 0))), (uaro, .inl (cL, 5001, .inr (.inl (fun _ => 0))))] := hD
  refine lv_aload_n hx hb dX4_init_61 rfl (lv_at hl 0 rfl) ?_
  refine lv_sipush (v := 1212) hx hb dX4_init_62 (by decide) ?_
  refine va_newa (atype := .long) (n := 1212) (N' := 1212) (a0 := (1212, .inr (.inl (fun _ => 0)))) (ty := .long) hx hb walong rfl hK hP hD hS hA (fun _ => rfl) (by decide) (by decide) (show 1212 * 8 ≤ 536870912 by omega) (Nat.le_of_ble_eq_true rfl) (Nat.le_of_ble_eq_true rfl) dX4_init_65 (fun uakc cA_8 H hK2 hP hD hS => ?_)
  have ecA_8 : cL = cA_8 := ct_cls (i := 1) (j := 3) hK2 rfl rfl rfl
  subst ecA_8
  clear hK2
  refine W.widen (k := 8) (n := 6267) (by omega) (by omega) ?_
  have hP : va_P D vwCl [(am, .inr (5, [.int 0, .ref uacs, .ref uafv, .ref uatr, .ref ualn, .ref uaps, .ref uata, .int 0, .int 0, .int 0, .int 0, .ref uaro, .null, .null, .null, .null, .null, .null, .null, .int 0, .int 0, .int 0, .int 0])), (uacs, .inl (cL, 12, .inr (.inl (fun _ => 0)))), (uafv, .inl (cL, 12, .inr (.inl (fun _ => 0)))), (uatr, .inl (cL, 12, .inr (.inl (fun _ => 0)))), (ualn, .inl (cI, 6, .inl (fun _ => 0))), (uaps, .inl (cI, 6, .inl (fun _ => 0))), (uata, .inl (cI, 6, .inl (fun _ => 0))), (uaro, .inl (cL, 5001, .inr (.inl (fun _ => 0)))), (uakc, .inl (cL, 1212, .inr (.inl (fun _ => 0))))] H := hP
  have hD : va_D A [(am, .inr (5, [.int 0, .ref uacs, .ref uafv, .ref uatr, .ref ualn, .ref uaps, .ref uata, .int 0, .int 0, .int 0, .int 0, .ref uaro, .null, .null, .null, .null, .null, .null, .null, .int 0, .int 0, .int 0, .int 0])), (uacs, .inl (cL, 12, .inr (.inl (fun _ => 0)))), (uafv, .inl (cL, 12, .inr (.inl (fun _ => 0)))), (uatr, .inl (cL, 12, .inr (.inl (fun _ => 0)))), (ualn, .inl (cI, 6, .inl (fun _ => 0))), (uaps, .inl (cI, 6, .inl (fun _ => 0))), (uata, .inl (cI, 6, .inl (fun _ => 0))), (uaro, .inl (cL, 5001, .inr (.inl (fun _ => 0)))), (uakc, .inl (cL, 1212, .inr (.inl (fun _ => 0))))] := hD
  refine va_putF (D := D) (ci := 5) (v := .ref uakc) (ty := (.array .long)) (C := RX4) (T := TX4) (N := 23) hx hb hts iX4 tyX4 tyX4_ok nmX4 hown hK hP hD hS 0 rfl rfl 12 (by decide) wf32 (fun _ h9 => h9) rfl hin rfl (by decide +kernel) rfl rfl (Nat.le_of_ble_eq_true rfl) dX4_init_67 (fun H locs hP hD hS => ?_)
  have hP : va_P D vwCl [(am, .inr (5, [.int 0, .ref uacs, .ref uafv, .ref uatr, .ref ualn, .ref uaps, .ref uata, .int 0, .int 0, .int 0, .int 0, .ref uaro, .ref uakc, .null, .null, .null, .null, .null, .null, .int 0, .int 0, .int 0, .int 0])), (uacs, .inl (cL, 12, .inr (.inl (fun _ => 0)))), (uafv, .inl (cL, 12, .inr (.inl (fun _ => 0)))), (uatr, .inl (cL, 12, .inr (.inl (fun _ => 0)))), (ualn, .inl (cI, 6, .inl (fun _ => 0))), (uaps, .inl (cI, 6, .inl (fun _ => 0))), (uata, .inl (cI, 6, .inl (fun _ => 0))), (uaro, .inl (cL, 5001, .inr (.inl (fun _ => 0)))), (uakc, .inl (cL, 1212, .inr (.inl (fun _ => 0))))] H := hP
  have hD : va_D A [(am, .inr (5, [.int 0, .ref uacs, .ref uafv, .ref uatr, .ref ualn, .ref uaps, .ref uata, .int 0, .int 0, .int 0, .int 0, .ref uaro, .ref uakc, .null, .null, .null, .null, .null, .null, .int 0, .int 0, .int 0, .int 0])), (uacs, .inl (cL, 12, .inr (.inl (fun _ => 0)))), (uafv, .inl (cL, 12, .inr (.inl (fun _ => 0)))), (uatr, .inl (cL, 12, .inr (.inl (fun _ => 0)))), (ualn, .inl (cI, 6, .inl (fun _ => 0))), (uaps, .inl (cI, 6, .inl (fun _ => 0))), (uata, .inl (cI, 6, .inl (fun _ => 0))), (uaro, .inl (cL, 5001, .inr (.inl (fun _ => 0)))), (uakc, .inl (cL, 1212, .inr (.inl (fun _ => 0))))] := hD
  refine lv_aload_n hx hb dX4_init_70 rfl (lv_at hl 0 rfl) ?_
  refine lv_sipush (v := 606) hx hb dX4_init_71 (by decide) ?_
  refine va_newa (atype := .int) (n := 606) (N' := 606) (a0 := (606, .inl (fun _ => 0))) (ty := .int) hx hb waint rfl hK hP hD hS hA (fun _ => rfl) (by decide) (by decide) (show 606 * 4 ≤ 536870912 by omega) (Nat.le_of_ble_eq_true rfl) (Nat.le_of_ble_eq_true rfl) dX4_init_74 (fun uakp cA_9 H hK2 hP hD hS => ?_)
  have ecA_9 : cI = cA_9 := ct_cls (i := 0) (j := 3) hK2 rfl rfl rfl
  subst ecA_9
  clear hK2
  refine W.widen (k := 9) (n := 6873) (by omega) (by omega) ?_
  have hP : va_P D vwCl [(am, .inr (5, [.int 0, .ref uacs, .ref uafv, .ref uatr, .ref ualn, .ref uaps, .ref uata, .int 0, .int 0, .int 0, .int 0, .ref uaro, .ref uakc, .null, .null, .null, .null, .null, .null, .int 0, .int 0, .int 0, .int 0])), (uacs, .inl (cL, 12, .inr (.inl (fun _ => 0)))), (uafv, .inl (cL, 12, .inr (.inl (fun _ => 0)))), (uatr, .inl (cL, 12, .inr (.inl (fun _ => 0)))), (ualn, .inl (cI, 6, .inl (fun _ => 0))), (uaps, .inl (cI, 6, .inl (fun _ => 0))), (uata, .inl (cI, 6, .inl (fun _ => 0))), (uaro, .inl (cL, 5001, .inr (.inl (fun _ => 0)))), (uakc, .inl (cL, 1212, .inr (.inl (fun _ => 0)))), (uakp, .inl (cI, 606, .inl (fun _ => 0)))] H := hP
  have hD : va_D A [(am, .inr (5, [.int 0, .ref uacs, .ref uafv, .ref uatr, .ref ualn, .ref uaps, .ref uata, .int 0, .int 0, .int 0, .int 0, .ref uaro, .ref uakc, .null, .null, .null, .null, .null, .null, .int 0, .int 0, .int 0, .int 0])), (uacs, .inl (cL, 12, .inr (.inl (fun _ => 0)))), (uafv, .inl (cL, 12, .inr (.inl (fun _ => 0)))), (uatr, .inl (cL, 12, .inr (.inl (fun _ => 0)))), (ualn, .inl (cI, 6, .inl (fun _ => 0))), (uaps, .inl (cI, 6, .inl (fun _ => 0))), (uata, .inl (cI, 6, .inl (fun _ => 0))), (uaro, .inl (cL, 5001, .inr (.inl (fun _ => 0)))), (uakc, .inl (cL, 1212, .inr (.inl (fun _ => 0)))), (uakp, .inl (cI, 606, .inl (fun _ => 0)))] := hD
  refine va_putF (D := D) (ci := 5) (v := .ref uakp) (ty := (.array .int)) (C := RX4) (T := TX4) (N := 23) hx hb hts iX4 tyX4 tyX4_ok nmX4 hown hK hP hD hS 0 rfl rfl 13 (by decide) wf35 (fun _ h9 => h9) rfl hin rfl (by decide +kernel) rfl rfl (Nat.le_of_ble_eq_true rfl) dX4_init_76 (fun H locs hP hD hS => ?_)
  have hP : va_P D vwCl [(am, .inr (5, [.int 0, .ref uacs, .ref uafv, .ref uatr, .ref ualn, .ref uaps, .ref uata, .int 0, .int 0, .int 0, .int 0, .ref uaro, .ref uakc, .ref uakp, .null, .null, .null, .null, .null, .int 0, .int 0, .int 0, .int 0])), (uacs, .inl (cL, 12, .inr (.inl (fun _ => 0)))), (uafv, .inl (cL, 12, .inr (.inl (fun _ => 0)))), (uatr, .inl (cL, 12, .inr (.inl (fun _ => 0)))), (ualn, .inl (cI, 6, .inl (fun _ => 0))), (uaps, .inl (cI, 6, .inl (fun _ => 0))), (uata, .inl (cI, 6, .inl (fun _ => 0))), (uaro, .inl (cL, 5001, .inr (.inl (fun _ => 0)))), (uakc, .inl (cL, 1212, .inr (.inl (fun _ => 0)))), (uakp, .inl (cI, 606, .inl (fun _ => 0)))] H := hP
  have hD : va_D A [(am, .inr (5, [.int 0, .ref uacs, .ref uafv, .ref uatr, .ref ualn, .ref uaps, .ref uata, .int 0, .int 0, .int 0, .int 0, .ref uaro, .ref uakc, .ref uakp, .null, .null, .null, .null, .null, .int 0, .int 0, .int 0, .int 0])), (uacs, .inl (cL, 12, .inr (.inl (fun _ => 0)))), (uafv, .inl (cL, 12, .inr (.inl (fun _ => 0)))), (uatr, .inl (cL, 12, .inr (.inl (fun _ => 0)))), (ualn, .inl (cI, 6, .inl (fun _ => 0))), (uaps, .inl (cI, 6, .inl (fun _ => 0))), (uata, .inl (cI, 6, .inl (fun _ => 0))), (uaro, .inl (cL, 5001, .inr (.inl (fun _ => 0)))), (uakc, .inl (cL, 1212, .inr (.inl (fun _ => 0)))), (uakp, .inl (cI, 606, .inl (fun _ => 0)))] := hD
  refine lv_aload_n hx hb dX4_init_79 rfl (lv_at hl 0 rfl) ?_
  refine lv_bipush (v := 101) hx hb dX4_init_80 (by decide) ?_
  refine va_newa (atype := .int) (n := 101) (N' := 101) (a0 := (101, .inl (fun _ => 0))) (ty := .int) hx hb waint rfl hK hP hD hS hA (fun _ => rfl) (by decide) (by decide) (show 101 * 4 ≤ 536870912 by omega) (Nat.le_of_ble_eq_true rfl) (Nat.le_of_ble_eq_true rfl) dX4_init_82 (fun uakm cA_10 H hK2 hP hD hS => ?_)
  have ecA_10 : cI = cA_10 := ct_cls (i := 0) (j := 3) hK2 rfl rfl rfl
  subst ecA_10
  clear hK2
  refine W.widen (k := 10) (n := 6974) (by omega) (by omega) ?_
  have hP : va_P D vwCl [(am, .inr (5, [.int 0, .ref uacs, .ref uafv, .ref uatr, .ref ualn, .ref uaps, .ref uata, .int 0, .int 0, .int 0, .int 0, .ref uaro, .ref uakc, .ref uakp, .null, .null, .null, .null, .null, .int 0, .int 0, .int 0, .int 0])), (uacs, .inl (cL, 12, .inr (.inl (fun _ => 0)))), (uafv, .inl (cL, 12, .inr (.inl (fun _ => 0)))), (uatr, .inl (cL, 12, .inr (.inl (fun _ => 0)))), (ualn, .inl (cI, 6, .inl (fun _ => 0))), (uaps, .inl (cI, 6, .inl (fun _ => 0))), (uata, .inl (cI, 6, .inl (fun _ => 0))), (uaro, .inl (cL, 5001, .inr (.inl (fun _ => 0)))), (uakc, .inl (cL, 1212, .inr (.inl (fun _ => 0)))), (uakp, .inl (cI, 606, .inl (fun _ => 0))), (uakm, .inl (cI, 101, .inl (fun _ => 0)))] H := hP
  have hD : va_D A [(am, .inr (5, [.int 0, .ref uacs, .ref uafv, .ref uatr, .ref ualn, .ref uaps, .ref uata, .int 0, .int 0, .int 0, .int 0, .ref uaro, .ref uakc, .ref uakp, .null, .null, .null, .null, .null, .int 0, .int 0, .int 0, .int 0])), (uacs, .inl (cL, 12, .inr (.inl (fun _ => 0)))), (uafv, .inl (cL, 12, .inr (.inl (fun _ => 0)))), (uatr, .inl (cL, 12, .inr (.inl (fun _ => 0)))), (ualn, .inl (cI, 6, .inl (fun _ => 0))), (uaps, .inl (cI, 6, .inl (fun _ => 0))), (uata, .inl (cI, 6, .inl (fun _ => 0))), (uaro, .inl (cL, 5001, .inr (.inl (fun _ => 0)))), (uakc, .inl (cL, 1212, .inr (.inl (fun _ => 0)))), (uakp, .inl (cI, 606, .inl (fun _ => 0))), (uakm, .inl (cI, 101, .inl (fun _ => 0)))] := hD
  refine va_putF (D := D) (ci := 5) (v := .ref uakm) (ty := (.array .int)) (C := RX4) (T := TX4) (N := 23) hx hb hts iX4 tyX4 tyX4_ok nmX4 hown hK hP hD hS 0 rfl rfl 14 (by decide) wf38 (fun _ h9 => h9) rfl hin rfl (by decide +kernel) rfl rfl (Nat.le_of_ble_eq_true rfl) dX4_init_84 (fun H locs hP hD hS => ?_)
  have hP : va_P D vwCl [(am, .inr (5, [.int 0, .ref uacs, .ref uafv, .ref uatr, .ref ualn, .ref uaps, .ref uata, .int 0, .int 0, .int 0, .int 0, .ref uaro, .ref uakc, .ref uakp, .ref uakm, .null, .null, .null, .null, .int 0, .int 0, .int 0, .int 0])), (uacs, .inl (cL, 12, .inr (.inl (fun _ => 0)))), (uafv, .inl (cL, 12, .inr (.inl (fun _ => 0)))), (uatr, .inl (cL, 12, .inr (.inl (fun _ => 0)))), (ualn, .inl (cI, 6, .inl (fun _ => 0))), (uaps, .inl (cI, 6, .inl (fun _ => 0))), (uata, .inl (cI, 6, .inl (fun _ => 0))), (uaro, .inl (cL, 5001, .inr (.inl (fun _ => 0)))), (uakc, .inl (cL, 1212, .inr (.inl (fun _ => 0)))), (uakp, .inl (cI, 606, .inl (fun _ => 0))), (uakm, .inl (cI, 101, .inl (fun _ => 0)))] H := hP
  have hD : va_D A [(am, .inr (5, [.int 0, .ref uacs, .ref uafv, .ref uatr, .ref ualn, .ref uaps, .ref uata, .int 0, .int 0, .int 0, .int 0, .ref uaro, .ref uakc, .ref uakp, .ref uakm, .null, .null, .null, .null, .int 0, .int 0, .int 0, .int 0])), (uacs, .inl (cL, 12, .inr (.inl (fun _ => 0)))), (uafv, .inl (cL, 12, .inr (.inl (fun _ => 0)))), (uatr, .inl (cL, 12, .inr (.inl (fun _ => 0)))), (ualn, .inl (cI, 6, .inl (fun _ => 0))), (uaps, .inl (cI, 6, .inl (fun _ => 0))), (uata, .inl (cI, 6, .inl (fun _ => 0))), (uaro, .inl (cL, 5001, .inr (.inl (fun _ => 0)))), (uakc, .inl (cL, 1212, .inr (.inl (fun _ => 0)))), (uakp, .inl (cI, 606, .inl (fun _ => 0))), (uakm, .inl (cI, 101, .inl (fun _ => 0)))] := hD
  refine lv_aload_n hx hb dX4_init_87 rfl (lv_at hl 0 rfl) ?_
  refine lv_bipush (v := 101) hx hb dX4_init_88 (by decide) ?_
  refine va_newa (atype := .int) (n := 101) (N' := 101) (a0 := (101, .inl (fun _ => 0))) (ty := .int) hx hb waint rfl hK hP hD hS hA (fun _ => rfl) (by decide) (by decide) (show 101 * 4 ≤ 536870912 by omega) (Nat.le_of_ble_eq_true rfl) (Nat.le_of_ble_eq_true rfl) dX4_init_90 (fun uakf cA_11 H hK2 hP hD hS => ?_)
  have ecA_11 : cI = cA_11 := ct_cls (i := 0) (j := 3) hK2 rfl rfl rfl
  subst ecA_11
  clear hK2
  refine W.widen (k := 11) (n := 7075) (by omega) (by omega) ?_
  have hP : va_P D vwCl [(am, .inr (5, [.int 0, .ref uacs, .ref uafv, .ref uatr, .ref ualn, .ref uaps, .ref uata, .int 0, .int 0, .int 0, .int 0, .ref uaro, .ref uakc, .ref uakp, .ref uakm, .null, .null, .null, .null, .int 0, .int 0, .int 0, .int 0])), (uacs, .inl (cL, 12, .inr (.inl (fun _ => 0)))), (uafv, .inl (cL, 12, .inr (.inl (fun _ => 0)))), (uatr, .inl (cL, 12, .inr (.inl (fun _ => 0)))), (ualn, .inl (cI, 6, .inl (fun _ => 0))), (uaps, .inl (cI, 6, .inl (fun _ => 0))), (uata, .inl (cI, 6, .inl (fun _ => 0))), (uaro, .inl (cL, 5001, .inr (.inl (fun _ => 0)))), (uakc, .inl (cL, 1212, .inr (.inl (fun _ => 0)))), (uakp, .inl (cI, 606, .inl (fun _ => 0))), (uakm, .inl (cI, 101, .inl (fun _ => 0))), (uakf, .inl (cI, 101, .inl (fun _ => 0)))] H := hP
  have hD : va_D A [(am, .inr (5, [.int 0, .ref uacs, .ref uafv, .ref uatr, .ref ualn, .ref uaps, .ref uata, .int 0, .int 0, .int 0, .int 0, .ref uaro, .ref uakc, .ref uakp, .ref uakm, .null, .null, .null, .null, .int 0, .int 0, .int 0, .int 0])), (uacs, .inl (cL, 12, .inr (.inl (fun _ => 0)))), (uafv, .inl (cL, 12, .inr (.inl (fun _ => 0)))), (uatr, .inl (cL, 12, .inr (.inl (fun _ => 0)))), (ualn, .inl (cI, 6, .inl (fun _ => 0))), (uaps, .inl (cI, 6, .inl (fun _ => 0))), (uata, .inl (cI, 6, .inl (fun _ => 0))), (uaro, .inl (cL, 5001, .inr (.inl (fun _ => 0)))), (uakc, .inl (cL, 1212, .inr (.inl (fun _ => 0)))), (uakp, .inl (cI, 606, .inl (fun _ => 0))), (uakm, .inl (cI, 101, .inl (fun _ => 0))), (uakf, .inl (cI, 101, .inl (fun _ => 0)))] := hD
  refine va_putF (D := D) (ci := 5) (v := .ref uakf) (ty := (.array .int)) (C := RX4) (T := TX4) (N := 23) hx hb hts iX4 tyX4 tyX4_ok nmX4 hown hK hP hD hS 0 rfl rfl 15 (by decide) wf41 (fun _ h9 => h9) rfl hin rfl (by decide +kernel) rfl rfl (Nat.le_of_ble_eq_true rfl) dX4_init_92 (fun H locs hP hD hS => ?_)
  have hP : va_P D vwCl [(am, .inr (5, [.int 0, .ref uacs, .ref uafv, .ref uatr, .ref ualn, .ref uaps, .ref uata, .int 0, .int 0, .int 0, .int 0, .ref uaro, .ref uakc, .ref uakp, .ref uakm, .ref uakf, .null, .null, .null, .int 0, .int 0, .int 0, .int 0])), (uacs, .inl (cL, 12, .inr (.inl (fun _ => 0)))), (uafv, .inl (cL, 12, .inr (.inl (fun _ => 0)))), (uatr, .inl (cL, 12, .inr (.inl (fun _ => 0)))), (ualn, .inl (cI, 6, .inl (fun _ => 0))), (uaps, .inl (cI, 6, .inl (fun _ => 0))), (uata, .inl (cI, 6, .inl (fun _ => 0))), (uaro, .inl (cL, 5001, .inr (.inl (fun _ => 0)))), (uakc, .inl (cL, 1212, .inr (.inl (fun _ => 0)))), (uakp, .inl (cI, 606, .inl (fun _ => 0))), (uakm, .inl (cI, 101, .inl (fun _ => 0))), (uakf, .inl (cI, 101, .inl (fun _ => 0)))] H := hP
  have hD : va_D A [(am, .inr (5, [.int 0, .ref uacs, .ref uafv, .ref uatr, .ref ualn, .ref uaps, .ref uata, .int 0, .int 0, .int 0, .int 0, .ref uaro, .ref uakc, .ref uakp, .ref uakm, .ref uakf, .null, .null, .null, .int 0, .int 0, .int 0, .int 0])), (uacs, .inl (cL, 12, .inr (.inl (fun _ => 0)))), (uafv, .inl (cL, 12, .inr (.inl (fun _ => 0)))), (uatr, .inl (cL, 12, .inr (.inl (fun _ => 0)))), (ualn, .inl (cI, 6, .inl (fun _ => 0))), (uaps, .inl (cI, 6, .inl (fun _ => 0))), (uata, .inl (cI, 6, .inl (fun _ => 0))), (uaro, .inl (cL, 5001, .inr (.inl (fun _ => 0)))), (uakc, .inl (cL, 1212, .inr (.inl (fun _ => 0)))), (uakp, .inl (cI, 606, .inl (fun _ => 0))), (uakm, .inl (cI, 101, .inl (fun _ => 0))), (uakf, .inl (cI, 101, .inl (fun _ => 0)))] := hD
  refine lv_aload_n hx hb dX4_init_95 rfl (lv_at hl 0 rfl) ?_
  refine lv_bipush (v := 101) hx hb dX4_init_96 (by decide) ?_
  refine va_newa (atype := .int) (n := 101) (N' := 101) (a0 := (101, .inl (fun _ => 0))) (ty := .int) hx hb waint rfl hK hP hD hS hA (fun _ => rfl) (by decide) (by decide) (show 101 * 4 ≤ 536870912 by omega) (Nat.le_of_ble_eq_true rfl) (Nat.le_of_ble_eq_true rfl) dX4_init_98 (fun uaku cA_12 H hK2 hP hD hS => ?_)
  have ecA_12 : cI = cA_12 := ct_cls (i := 0) (j := 3) hK2 rfl rfl rfl
  subst ecA_12
  clear hK2
  refine W.widen (k := 12) (n := 7176) (by omega) (by omega) ?_
  have hP : va_P D vwCl [(am, .inr (5, [.int 0, .ref uacs, .ref uafv, .ref uatr, .ref ualn, .ref uaps, .ref uata, .int 0, .int 0, .int 0, .int 0, .ref uaro, .ref uakc, .ref uakp, .ref uakm, .ref uakf, .null, .null, .null, .int 0, .int 0, .int 0, .int 0])), (uacs, .inl (cL, 12, .inr (.inl (fun _ => 0)))), (uafv, .inl (cL, 12, .inr (.inl (fun _ => 0)))), (uatr, .inl (cL, 12, .inr (.inl (fun _ => 0)))), (ualn, .inl (cI, 6, .inl (fun _ => 0))), (uaps, .inl (cI, 6, .inl (fun _ => 0))), (uata, .inl (cI, 6, .inl (fun _ => 0))), (uaro, .inl (cL, 5001, .inr (.inl (fun _ => 0)))), (uakc, .inl (cL, 1212, .inr (.inl (fun _ => 0)))), (uakp, .inl (cI, 606, .inl (fun _ => 0))), (uakm, .inl (cI, 101, .inl (fun _ => 0))), (uakf, .inl (cI, 101, .inl (fun _ => 0))), (uaku, .inl (cI, 101, .inl (fun _ => 0)))] H := hP
  have hD : va_D A [(am, .inr (5, [.int 0, .ref uacs, .ref uafv, .ref uatr, .ref ualn, .ref uaps, .ref uata, .int 0, .int 0, .int 0, .int 0, .ref uaro, .ref uakc, .ref uakp, .ref uakm, .ref uakf, .null, .null, .null, .int 0, .int 0, .int 0, .int 0])), (uacs, .inl (cL, 12, .inr (.inl (fun _ => 0)))), (uafv, .inl (cL, 12, .inr (.inl (fun _ => 0)))), (uatr, .inl (cL, 12, .inr (.inl (fun _ => 0)))), (ualn, .inl (cI, 6, .inl (fun _ => 0))), (uaps, .inl (cI, 6, .inl (fun _ => 0))), (uata, .inl (cI, 6, .inl (fun _ => 0))), (uaro, .inl (cL, 5001, .inr (.inl (fun _ => 0)))), (uakc, .inl (cL, 1212, .inr (.inl (fun _ => 0)))), (uakp, .inl (cI, 606, .inl (fun _ => 0))), (uakm, .inl (cI, 101, .inl (fun _ => 0))), (uakf, .inl (cI, 101, .inl (fun _ => 0))), (uaku, .inl (cI, 101, .inl (fun _ => 0)))] := hD
  refine va_putF (D := D) (ci := 5) (v := .ref uaku) (ty := (.array .int)) (C := RX4) (T := TX4) (N := 23) hx hb hts iX4 tyX4 tyX4_ok nmX4 hown hK hP hD hS 0 rfl rfl 16 (by decide) wf44 (fun _ h9 => h9) rfl hin rfl (by decide +kernel) rfl rfl (Nat.le_of_ble_eq_true rfl) dX4_init_100 (fun H locs hP hD hS => ?_)
  have hP : va_P D vwCl [(am, .inr (5, [.int 0, .ref uacs, .ref uafv, .ref uatr, .ref ualn, .ref uaps, .ref uata, .int 0, .int 0, .int 0, .int 0, .ref uaro, .ref uakc, .ref uakp, .ref uakm, .ref uakf, .ref uaku, .null, .null, .int 0, .int 0, .int 0, .int 0])), (uacs, .inl (cL, 12, .inr (.inl (fun _ => 0)))), (uafv, .inl (cL, 12, .inr (.inl (fun _ => 0)))), (uatr, .inl (cL, 12, .inr (.inl (fun _ => 0)))), (ualn, .inl (cI, 6, .inl (fun _ => 0))), (uaps, .inl (cI, 6, .inl (fun _ => 0))), (uata, .inl (cI, 6, .inl (fun _ => 0))), (uaro, .inl (cL, 5001, .inr (.inl (fun _ => 0)))), (uakc, .inl (cL, 1212, .inr (.inl (fun _ => 0)))), (uakp, .inl (cI, 606, .inl (fun _ => 0))), (uakm, .inl (cI, 101, .inl (fun _ => 0))), (uakf, .inl (cI, 101, .inl (fun _ => 0))), (uaku, .inl (cI, 101, .inl (fun _ => 0)))] H := hP
  have hD : va_D A [(am, .inr (5, [.int 0, .ref uacs, .ref uafv, .ref uatr, .ref ualn, .ref uaps, .ref uata, .int 0, .int 0, .int 0, .int 0, .ref uaro, .ref uakc, .ref uakp, .ref uakm, .ref uakf, .ref uaku, .null, .null, .int 0, .int 0, .int 0, .int 0])), (uacs, .inl (cL, 12, .inr (.inl (fun _ => 0)))), (uafv, .inl (cL, 12, .inr (.inl (fun _ => 0)))), (uatr, .inl (cL, 12, .inr (.inl (fun _ => 0)))), (ualn, .inl (cI, 6, .inl (fun _ => 0))), (uaps, .inl (cI, 6, .inl (fun _ => 0))), (uata, .inl (cI, 6, .inl (fun _ => 0))), (uaro, .inl (cL, 5001, .inr (.inl (fun _ => 0)))), (uakc, .inl (cL, 1212, .inr (.inl (fun _ => 0)))), (uakp, .inl (cI, 606, .inl (fun _ => 0))), (uakm, .inl (cI, 101, .inl (fun _ => 0))), (uakf, .inl (cI, 101, .inl (fun _ => 0))), (uaku, .inl (cI, 101, .inl (fun _ => 0)))] := hD
  refine lv_aload_n hx hb dX4_init_103 rfl (lv_at hl 0 rfl) ?_
  refine lv_bipush (v := 101) hx hb dX4_init_104 (by decide) ?_
  refine va_newa (atype := .int) (n := 101) (N' := 101) (a0 := (101, .inl (fun _ => 0))) (ty := .int) hx hb waint rfl hK hP hD hS hA (fun _ => rfl) (by decide) (by decide) (show 101 * 4 ≤ 536870912 by omega) (Nat.le_of_ble_eq_true rfl) (Nat.le_of_ble_eq_true rfl) dX4_init_106 (fun uake cA_13 H hK2 hP hD hS => ?_)
  have ecA_13 : cI = cA_13 := ct_cls (i := 0) (j := 3) hK2 rfl rfl rfl
  subst ecA_13
  clear hK2
  refine W.widen (k := 13) (n := 7277) (by omega) (by omega) ?_
  have hP : va_P D vwCl [(am, .inr (5, [.int 0, .ref uacs, .ref uafv, .ref uatr, .ref ualn, .ref uaps, .ref uata, .int 0, .int 0, .int 0, .int 0, .ref uaro, .ref uakc, .ref uakp, .ref uakm, .ref uakf, .ref uaku, .null, .null, .int 0, .int 0, .int 0, .int 0])), (uacs, .inl (cL, 12, .inr (.inl (fun _ => 0)))), (uafv, .inl (cL, 12, .inr (.inl (fun _ => 0)))), (uatr, .inl (cL, 12, .inr (.inl (fun _ => 0)))), (ualn, .inl (cI, 6, .inl (fun _ => 0))), (uaps, .inl (cI, 6, .inl (fun _ => 0))), (uata, .inl (cI, 6, .inl (fun _ => 0))), (uaro, .inl (cL, 5001, .inr (.inl (fun _ => 0)))), (uakc, .inl (cL, 1212, .inr (.inl (fun _ => 0)))), (uakp, .inl (cI, 606, .inl (fun _ => 0))), (uakm, .inl (cI, 101, .inl (fun _ => 0))), (uakf, .inl (cI, 101, .inl (fun _ => 0))), (uaku, .inl (cI, 101, .inl (fun _ => 0))), (uake, .inl (cI, 101, .inl (fun _ => 0)))] H := hP
  have hD : va_D A [(am, .inr (5, [.int 0, .ref uacs, .ref uafv, .ref uatr, .ref ualn, .ref uaps, .ref uata, .int 0, .int 0, .int 0, .int 0, .ref uaro, .ref uakc, .ref uakp, .ref uakm, .ref uakf, .ref uaku, .null, .null, .int 0, .int 0, .int 0, .int 0])), (uacs, .inl (cL, 12, .inr (.inl (fun _ => 0)))), (uafv, .inl (cL, 12, .inr (.inl (fun _ => 0)))), (uatr, .inl (cL, 12, .inr (.inl (fun _ => 0)))), (ualn, .inl (cI, 6, .inl (fun _ => 0))), (uaps, .inl (cI, 6, .inl (fun _ => 0))), (uata, .inl (cI, 6, .inl (fun _ => 0))), (uaro, .inl (cL, 5001, .inr (.inl (fun _ => 0)))), (uakc, .inl (cL, 1212, .inr (.inl (fun _ => 0)))), (uakp, .inl (cI, 606, .inl (fun _ => 0))), (uakm, .inl (cI, 101, .inl (fun _ => 0))), (uakf, .inl (cI, 101, .inl (fun _ => 0))), (uaku, .inl (cI, 101, .inl (fun _ => 0))), (uake, .inl (cI, 101, .inl (fun _ => 0)))] := hD
  refine va_putF (D := D) (ci := 5) (v := .ref uake) (ty := (.array .int)) (C := RX4) (T := TX4) (N := 23) hx hb hts iX4 tyX4 tyX4_ok nmX4 hown hK hP hD hS 0 rfl rfl 17 (by decide) wf47 (fun _ h9 => h9) rfl hin rfl (by decide +kernel) rfl rfl (Nat.le_of_ble_eq_true rfl) dX4_init_108 (fun H locs hP hD hS => ?_)
  have hP : va_P D vwCl [(am, .inr (5, [.int 0, .ref uacs, .ref uafv, .ref uatr, .ref ualn, .ref uaps, .ref uata, .int 0, .int 0, .int 0, .int 0, .ref uaro, .ref uakc, .ref uakp, .ref uakm, .ref uakf, .ref uaku, .ref uake, .null, .int 0, .int 0, .int 0, .int 0])), (uacs, .inl (cL, 12, .inr (.inl (fun _ => 0)))), (uafv, .inl (cL, 12, .inr (.inl (fun _ => 0)))), (uatr, .inl (cL, 12, .inr (.inl (fun _ => 0)))), (ualn, .inl (cI, 6, .inl (fun _ => 0))), (uaps, .inl (cI, 6, .inl (fun _ => 0))), (uata, .inl (cI, 6, .inl (fun _ => 0))), (uaro, .inl (cL, 5001, .inr (.inl (fun _ => 0)))), (uakc, .inl (cL, 1212, .inr (.inl (fun _ => 0)))), (uakp, .inl (cI, 606, .inl (fun _ => 0))), (uakm, .inl (cI, 101, .inl (fun _ => 0))), (uakf, .inl (cI, 101, .inl (fun _ => 0))), (uaku, .inl (cI, 101, .inl (fun _ => 0))), (uake, .inl (cI, 101, .inl (fun _ => 0)))] H := hP
  have hD : va_D A [(am, .inr (5, [.int 0, .ref uacs, .ref uafv, .ref uatr, .ref ualn, .ref uaps, .ref uata, .int 0, .int 0, .int 0, .int 0, .ref uaro, .ref uakc, .ref uakp, .ref uakm, .ref uakf, .ref uaku, .ref uake, .null, .int 0, .int 0, .int 0, .int 0])), (uacs, .inl (cL, 12, .inr (.inl (fun _ => 0)))), (uafv, .inl (cL, 12, .inr (.inl (fun _ => 0)))), (uatr, .inl (cL, 12, .inr (.inl (fun _ => 0)))), (ualn, .inl (cI, 6, .inl (fun _ => 0))), (uaps, .inl (cI, 6, .inl (fun _ => 0))), (uata, .inl (cI, 6, .inl (fun _ => 0))), (uaro, .inl (cL, 5001, .inr (.inl (fun _ => 0)))), (uakc, .inl (cL, 1212, .inr (.inl (fun _ => 0)))), (uakp, .inl (cI, 606, .inl (fun _ => 0))), (uakm, .inl (cI, 101, .inl (fun _ => 0))), (uakf, .inl (cI, 101, .inl (fun _ => 0))), (uaku, .inl (cI, 101, .inl (fun _ => 0))), (uake, .inl (cI, 101, .inl (fun _ => 0)))] := hD
  refine lv_aload_n hx hb dX4_init_111 rfl (lv_at hl 0 rfl) ?_
  refine lv_bipush (v := 101) hx hb dX4_init_112 (by decide) ?_
  refine va_newa (atype := .boolean) (n := 101) (N' := 101) (a0 := (101, .inl (fun _ => 0))) (ty := .boolean) hx hb waboolean rfl hK hP hD hS hA (fun _ => rfl) (by decide) (by decide) (show 101 * 1 ≤ 536870912 by omega) (Nat.le_of_ble_eq_true rfl) (Nat.le_of_ble_eq_true rfl) dX4_init_114 (fun uaiw cA_14 H hK2 hP hD hS => ?_)
  have ecA_14 : cZ = cA_14 := ct_cls (i := 2) (j := 3) hK2 rfl rfl rfl
  subst ecA_14
  clear hK2
  refine W.widen (k := 14) (n := 7378) (by omega) (by omega) ?_
  have hP : va_P D vwCl [(am, .inr (5, [.int 0, .ref uacs, .ref uafv, .ref uatr, .ref ualn, .ref uaps, .ref uata, .int 0, .int 0, .int 0, .int 0, .ref uaro, .ref uakc, .ref uakp, .ref uakm, .ref uakf, .ref uaku, .ref uake, .null, .int 0, .int 0, .int 0, .int 0])), (uacs, .inl (cL, 12, .inr (.inl (fun _ => 0)))), (uafv, .inl (cL, 12, .inr (.inl (fun _ => 0)))), (uatr, .inl (cL, 12, .inr (.inl (fun _ => 0)))), (ualn, .inl (cI, 6, .inl (fun _ => 0))), (uaps, .inl (cI, 6, .inl (fun _ => 0))), (uata, .inl (cI, 6, .inl (fun _ => 0))), (uaro, .inl (cL, 5001, .inr (.inl (fun _ => 0)))), (uakc, .inl (cL, 1212, .inr (.inl (fun _ => 0)))), (uakp, .inl (cI, 606, .inl (fun _ => 0))), (uakm, .inl (cI, 101, .inl (fun _ => 0))), (uakf, .inl (cI, 101, .inl (fun _ => 0))), (uaku, .inl (cI, 101, .inl (fun _ => 0))), (uake, .inl (cI, 101, .inl (fun _ => 0))), (uaiw, .inl (cZ, 101, .inl (fun _ => 0)))] H := hP
  have hD : va_D A [(am, .inr (5, [.int 0, .ref uacs, .ref uafv, .ref uatr, .ref ualn, .ref uaps, .ref uata, .int 0, .int 0, .int 0, .int 0, .ref uaro, .ref uakc, .ref uakp, .ref uakm, .ref uakf, .ref uaku, .ref uake, .null, .int 0, .int 0, .int 0, .int 0])), (uacs, .inl (cL, 12, .inr (.inl (fun _ => 0)))), (uafv, .inl (cL, 12, .inr (.inl (fun _ => 0)))), (uatr, .inl (cL, 12, .inr (.inl (fun _ => 0)))), (ualn, .inl (cI, 6, .inl (fun _ => 0))), (uaps, .inl (cI, 6, .inl (fun _ => 0))), (uata, .inl (cI, 6, .inl (fun _ => 0))), (uaro, .inl (cL, 5001, .inr (.inl (fun _ => 0)))), (uakc, .inl (cL, 1212, .inr (.inl (fun _ => 0)))), (uakp, .inl (cI, 606, .inl (fun _ => 0))), (uakm, .inl (cI, 101, .inl (fun _ => 0))), (uakf, .inl (cI, 101, .inl (fun _ => 0))), (uaku, .inl (cI, 101, .inl (fun _ => 0))), (uake, .inl (cI, 101, .inl (fun _ => 0))), (uaiw, .inl (cZ, 101, .inl (fun _ => 0)))] := hD
  refine va_putF (D := D) (ci := 5) (v := .ref uaiw) (ty := (.array .boolean)) (C := RX4) (T := TX4) (N := 23) hx hb hts iX4 tyX4 tyX4_ok nmX4 hown hK hP hD hS 0 rfl rfl 18 (by decide) wf50 (fun _ h9 => h9) rfl hin rfl (by decide +kernel) rfl rfl (Nat.le_of_ble_eq_true rfl) dX4_init_116 (fun H locs hP hD hS => ?_)
  have hP : va_P D vwCl [(am, .inr (5, [.int 0, .ref uacs, .ref uafv, .ref uatr, .ref ualn, .ref uaps, .ref uata, .int 0, .int 0, .int 0, .int 0, .ref uaro, .ref uakc, .ref uakp, .ref uakm, .ref uakf, .ref uaku, .ref uake, .ref uaiw, .int 0, .int 0, .int 0, .int 0])), (uacs, .inl (cL, 12, .inr (.inl (fun _ => 0)))), (uafv, .inl (cL, 12, .inr (.inl (fun _ => 0)))), (uatr, .inl (cL, 12, .inr (.inl (fun _ => 0)))), (ualn, .inl (cI, 6, .inl (fun _ => 0))), (uaps, .inl (cI, 6, .inl (fun _ => 0))), (uata, .inl (cI, 6, .inl (fun _ => 0))), (uaro, .inl (cL, 5001, .inr (.inl (fun _ => 0)))), (uakc, .inl (cL, 1212, .inr (.inl (fun _ => 0)))), (uakp, .inl (cI, 606, .inl (fun _ => 0))), (uakm, .inl (cI, 101, .inl (fun _ => 0))), (uakf, .inl (cI, 101, .inl (fun _ => 0))), (uaku, .inl (cI, 101, .inl (fun _ => 0))), (uake, .inl (cI, 101, .inl (fun _ => 0))), (uaiw, .inl (cZ, 101, .inl (fun _ => 0)))] H := hP
  have hD : va_D A [(am, .inr (5, [.int 0, .ref uacs, .ref uafv, .ref uatr, .ref ualn, .ref uaps, .ref uata, .int 0, .int 0, .int 0, .int 0, .ref uaro, .ref uakc, .ref uakp, .ref uakm, .ref uakf, .ref uaku, .ref uake, .ref uaiw, .int 0, .int 0, .int 0, .int 0])), (uacs, .inl (cL, 12, .inr (.inl (fun _ => 0)))), (uafv, .inl (cL, 12, .inr (.inl (fun _ => 0)))), (uatr, .inl (cL, 12, .inr (.inl (fun _ => 0)))), (ualn, .inl (cI, 6, .inl (fun _ => 0))), (uaps, .inl (cI, 6, .inl (fun _ => 0))), (uata, .inl (cI, 6, .inl (fun _ => 0))), (uaro, .inl (cL, 5001, .inr (.inl (fun _ => 0)))), (uakc, .inl (cL, 1212, .inr (.inl (fun _ => 0)))), (uakp, .inl (cI, 606, .inl (fun _ => 0))), (uakm, .inl (cI, 101, .inl (fun _ => 0))), (uakf, .inl (cI, 101, .inl (fun _ => 0))), (uaku, .inl (cI, 101, .inl (fun _ => 0))), (uake, .inl (cI, 101, .inl (fun _ => 0))), (uaiw, .inl (cZ, 101, .inl (fun _ => 0)))] := hD
  have hP9 := hP.sub (ws' := [(am, .inr (5, [.int 0, .ref uacs, .ref uafv, .ref uatr, .ref ualn, .ref uaps, .ref uata, .int 0, .int 0, .int 0, .int 0, .ref uaro, .ref uakc, .ref uakp, .ref uakm, .ref uakf, .ref uaku, .ref uake, .ref uaiw, .int 0, .int 0, .int 0, .int 0])), (uacs, .inl (cL, 12, .inr (.inl (fun _ => 0)))), (uafv, .inl (cL, 12, .inr (.inl (fun _ => 0)))), (uatr, .inl (cL, 12, .inr (.inl (fun _ => 0)))), (ualn, .inl (cI, 6, .inl (fun _ => 0))), (uaps, .inl (cI, 6, .inl (fun _ => 0))), (uata, .inl (cI, 6, .inl (fun _ => 0))), (uaro, .inl (cL, 5001, .inr (.inl (fun _ => 0)))), (uakc, .inl (cL, 1212, .inr (.inl (fun _ => 0)))), (uakp, .inl (cI, 606, .inl (fun _ => 0))), (uakm, .inl (cI, 101, .inl (fun _ => 0))), (uakf, .inl (cI, 101, .inl (fun _ => 0))), (uaku, .inl (cI, 101, .inl (fun _ => 0))), (uake, .inl (cI, 101, .inl (fun _ => 0))), (uaiw, .inl (cZ, 101, .inl (fun _ => 0)))]) [0, 1, 2, 3, 4, 5, 6, 7, 8, 9, 10, 11, 12, 13, 14] rfl
  have hD9 := hD.sub (ws' := [(am, .inr (5, [.int 0, .ref uacs, .ref uafv, .ref uatr, .ref ualn, .ref uaps, .ref uata, .int 0, .int 0, .int 0, .int 0, .ref uaro, .ref uakc, .ref uakp, .ref uakm, .ref uakf, .ref uaku, .ref uake, .ref uaiw, .int 0, .int 0, .int 0, .int 0])), (uacs, .inl (cL, 12, .inr (.inl (fun _ => 0)))), (uafv, .inl (cL, 12, .inr (.inl (fun _ => 0)))), (uatr, .inl (cL, 12, .inr (.inl (fun _ => 0)))), (ualn, .inl (cI, 6, .inl (fun _ => 0))), (uaps, .inl (cI, 6, .inl (fun _ => 0))), (uata, .inl (cI, 6, .inl (fun _ => 0))), (uaro, .inl (cL, 5001, .inr (.inl (fun _ => 0)))), (uakc, .inl (cL, 1212, .inr (.inl (fun _ => 0)))), (uakp, .inl (cI, 606, .inl (fun _ => 0))), (uakm, .inl (cI, 101, .inl (fun _ => 0))), (uakf, .inl (cI, 101, .inl (fun _ => 0))), (uaku, .inl (cI, 101, .inl (fun _ => 0))), (uake, .inl (cI, 101, .inl (fun _ => 0))), (uaiw, .inl (cZ, 101, .inl (fun _ => 0)))]) [0, 1, 2, 3, 4, 5, 6, 7, 8, 9, 10, 11, 12, 13, 14] (by decide) rfl
  refine W.widen (k := 14) (n := 7378) (Nat.le_of_ble_eq_true rfl) (Nat.le_of_ble_eq_true rfl) ?_
  exact W.vret hx hb hr (fun t9 ht9 hW9 => ⟨⟨(uacs, uafv, uatr, ualn, uaps, uata, uaro, uakc, uakp, uakm, uakf, uaku, uake, uaiw), rfl, trivial, by rw [ht9]; exact hP9, va_K.moved hW9.alike hK, hD9⟩, hS.F ht9⟩) hS.2.2 dX4_init_119
abbrev rm_X4_cell : Room := { frames := 0, cells := 0, slots := 0, locals := 0 }
abbrev qc_X4_cell (D : va_G) (cI cL cZ : ClassId) (am : Nat) (acs : Nat) (afv : Nat) (atr : Nat) (aln : Nat) (aps : Nat) (ata : Nat) (aro : Nat) (akc : Nat) (akp : Nat) (akm : Nat) (akf : Nat) (aku : Nat) (ake : Nat) (aiw : Nat) (cde : Int32) (c : Nat) (f : Nat) (t : Nat) (kb : Nat) (ed : Int32) (cp : Int32) (ct : Int32) (dn : Int32) (cs : Nat → Int64) (fv : Nat → Int64) (v : Int64) (A : Nat → Prop) : Array Value → State → Outcome → State → Prop := va_Qi (fun (r : Int32) (u : Nat × (Nat → Int64) × (Nat → Int64)) => (ce_r dn t c) = r ∧ (ce_c dn t c) = u.1 ∧ (ce_a dn t c fv v) = u.2.1 ∧ (ce_a dn t c cs v) = u.2.2) (ct_B D vwCl [(cI, .int), (cL, .long), (cZ, .boolean)] A (fun (u : Nat × (Nat → Int64) × (Nat → Int64)) => [(am, .inr (5, [.int 0, .ref acs, .ref afv, .ref atr, .ref aln, .ref aps, .ref ata, .int (nI u.1), .int (nI f), .int (nI t), .int ed, .ref aro, .ref akc, .ref akp, .ref akm, .ref akf, .ref aku, .ref ake, .ref aiw, .int (nI kb), .int cp, .int ct, .int dn])), (acs, .inl (cL, 12, .inr (.inl u.2.2))), (afv, .inl (cL, 12, .inr (.inl u.2.1)))])) A
set_option maxHeartbeats 4000000 in
set_option maxRecDepth 100000 in
theorem c_X4_cell (l : Launch) (D : va_G) (cI cL cZ : ClassId) (am : Nat) (acs : Nat) (afv : Nat) (atr : Nat) (aln : Nat) (aps : Nat) (ata : Nat) (aro : Nat) (akc : Nat) (akp : Nat) (akm : Nat) (akf : Nat) (aku : Nat) (ake : Nat) (aiw : Nat) (cde : Int32) (c : Nat) (f : Nat) (t : Nat) (kb : Nat) (ed : Int32) (cp : Int32) (ct : Int32) (dn : Int32) (cs : Nat → Int64) (fv : Nat → Int64) (v : Int64) (sz : Nat) (hc : c ≤ 12) : Met l yX4_cell wsX4_cell rm_X4_cell (va_Pc [.ref am, .long v] (ct_P D vwCl [(cI, .int), (cL, .long), (cZ, .boolean)] [(am, .inr (5, [.int cde, .ref acs, .ref afv, .ref atr, .ref aln, .ref aps, .ref ata, .int (nI c), .int (nI f), .int (nI t), .int ed, .ref aro, .ref akc, .ref akp, .ref akm, .ref akf, .ref aku, .ref ake, .ref aiw, .int (nI kb), .int cp, .int ct, .int dn])), (acs, .inl (cL, 12, .inr (.inl cs))), (afv, .inl (cL, 12, .inr (.inl fv)))] sz)) (qc_X4_cell D cI cL cZ am acs afv atr aln aps ata aro akc akp akm akf aku ake aiw cde c f t kb ed cp ct dn cs fv v (va_A [(am, .inr (5, [.int cde, .ref acs, .ref afv, .ref atr, .ref aln, .ref aps, .ref ata, .int (nI c), .int (nI f), .int (nI t), .int ed, .ref aro, .ref akc, .ref akp, .ref akm, .ref akf, .ref aku, .ref ake, .ref aiw, .int (nI kb), .int cp, .int ct, .int dn])), (acs, .inl (cL, 12, .inr (.inl cs))), (afv, .inl (cL, 12, .inr (.inl fv)))] sz)) 0 0 (va_A [(am, .inr (5, [.int cde, .ref acs, .ref afv, .ref atr, .ref aln, .ref aps, .ref ata, .int (nI c), .int (nI f), .int (nI t), .int ed, .ref aro, .ref akc, .ref akp, .ref akm, .ref akf, .ref aku, .ref ake, .ref aiw, .int (nI kb), .int cp, .int ct, .int dn])), (acs, .inl (cL, 12, .inr (.inl cs))), (afv, .inl (cL, 12, .inr (.inl fv)))] sz) := by
  refine Met.ofW (cc := cX4_cell) (maxL := 3) (ret := (some .int)) (by decide) rfl ?_
  intro p e s m args below meth cd s₁ B hml hv
  obtain ⟨rfl, hsz, hP, hK, hD0⟩ := hv
  have hx := B.exec
  have hb := B.bytes
  have hr := B.returns
  have hts := atoms_spec (ws := wsX4_cell) B.pre
  have iX4 : ∀ w ∈ wsX40, w ∈ wsX4_cell := by decide +kernel
  have wf54 := hts (.fieldLink RX4 54 "CheckRestartModel" "code" "I") (by decide +kernel)
  have wf58 := hts (.fieldLink RX4 58 "CheckRestartModel" "down" "Z") (by decide +kernel)
  have wf62 := hts (.fieldLink RX4 62 "CheckRestartModel" "units" "I") (by decide +kernel)
  have wf65 := hts (.fieldLink RX4 65 "CheckRestartModel" "many" "I") (by decide +kernel)
  have wf7 := hts (.fieldLink RX4 7 "CheckRestartModel" "cells" "[J") (by decide +kernel)
  have wf13 := hts (.fieldLink RX4 13 "CheckRestartModel" "first" "[J") (by decide +kernel)
  have hown : s.vm.findClass RX4 = some m.cls := findClass_of_methodNamed B.named
  have hlocks := B.notSynchronized
  subst hsz
  have hD := hD0.self (sz := s.heap.size)
  generalize hAe : va_A [(am, .inr (5, [.int cde, .ref acs, .ref afv, .ref atr, .ref aln, .ref aps, .ref ata, .int (nI c), .int (nI f), .int (nI t), .int ed, .ref aro, .ref akc, .ref akp, .ref akm, .ref akf, .ref aku, .ref ake, .ref aiw, .int (nI kb), .int cp, .int ct, .int dn])), (acs, .inl (cL, 12, .inr (.inl cs))), (afv, .inl (cL, 12, .inr (.inl fv)))] s.heap.size = A at hD ⊢
  have hA : ∀ q : Nat, s.heap.size ≤ q → A q := fun q h => by rw [← hAe]; exact Or.inr h
  have hS : va_S A s.heap s.heap [] := va_S.rf
  have hl := lv_entry ([.ref am, .long v]) (n := 3) (Nat.le_of_ble_eq_true rfl)
  rw [lg_entry_eq]
  generalize (lg_sl ([.ref am, .long v]) ++ List.replicate (3 - (lg_sl ([.ref am, .long v])).length) Slot.unset).toArray = ls at hl ⊢
  have hl : lv_has ls 3 [(0, .ref am), (1, .long v)] := hl
  refine lv_aload_n hx hb dX4_cell_0 rfl (lv_at hl 0 rfl) ?_
  refine lv_iconst (v := 0) hx hb dX4_cell_1 (by decide) ?_
  refine va_put (D := D) (ci := 5) (v := .int 0) (ty := .int) (C := RX4) (T := TX4) (N := 23) hx hb hts iX4 tyX4 tyX4_ok nmX4 hown hK hP hD hS 0 rfl rfl 0 (by decide) wf54 (fun _ h9 => h9) rfl (by decide +kernel) rfl rfl (Nat.le_of_ble_eq_true rfl) dX4_cell_2 (fun H locs hP hD hS => ?_)
  have hP : va_P D vwCl [(am, .inr (5, [.int 0, .ref acs, .ref afv, .ref atr, .ref aln, .ref aps, .ref ata, .int (nI c), .int (nI f), .int (nI t), .int ed, .ref aro, .ref akc, .ref akp, .ref akm, .ref akf, .ref aku, .ref ake, .ref aiw, .int (nI kb), .int cp, .int ct, .int dn])), (acs, .inl (cL, 12, .inr (.inl cs))), (afv, .inl (cL, 12, .inr (.inl fv)))] H := hP
  have hD : va_D A [(am, .inr (5, [.int 0, .ref acs, .ref afv, .ref atr, .ref aln, .ref aps, .ref ata, .int (nI c), .int (nI f), .int (nI t), .int ed, .ref aro, .ref akc, .ref akp, .ref akm, .ref akf, .ref aku, .ref ake, .ref aiw, .int (nI kb), .int cp, .int ct, .int dn])), (acs, .inl (cL, 12, .inr (.inl cs))), (afv, .inl (cL, 12, .inr (.inl fv)))] := hD
  refine lv_aload_n hx hb dX4_cell_5 rfl (lv_at hl 0 rfl) ?_
  refine va_get (D := D) (ci := 5) (v := .int dn) (C := RX4) (T := TX4) (N := 23) hx hb hts iX4 hown hK hP 0 rfl rfl 22 (by decide) wf58 (fun _ h9 => h9) rfl dX4_cell_6 ?_
  refine lv_if_ne (tgt := 19) hx hb dX4_cell_9 (by decide) (fun c_9 => ?_) (fun c_9 => ?_)
  · refine lv_bipush (v := (-5)) hx hb dX4_cell_19 (by decide) ?_
    have h0 : ¬ (dn = 0 ∧ nI t ≤ 0) := by first | exact fun q => c_9 q.1 | exact fun q => c_16 q.2
    have hP9 := hP.sub (ws' := [(am, .inr (5, [.int 0, .ref acs, .ref afv, .ref atr, .ref aln, .ref aps, .ref ata, .int (nI c), .int (nI f), .int (nI t), .int ed, .ref aro, .ref akc, .ref akp, .ref akm, .ref akf, .ref aku, .ref ake, .ref aiw, .int (nI kb), .int cp, .int ct, .int dn])), (acs, .inl (cL, 12, .inr (.inl cs))), (afv, .inl (cL, 12, .inr (.inl fv)))]) [0, 1, 2] rfl
    have hD9 := hD.sub (ws' := [(am, .inr (5, [.int 0, .ref acs, .ref afv, .ref atr, .ref aln, .ref aps, .ref ata, .int (nI c), .int (nI f), .int (nI t), .int ed, .ref aro, .ref akc, .ref akp, .ref akm, .ref akf, .ref aku, .ref ake, .ref aiw, .int (nI kb), .int cp, .int ct, .int dn])), (acs, .inl (cL, 12, .inr (.inl cs))), (afv, .inl (cL, 12, .inr (.inl fv)))]) [0, 1, 2] (by decide) rfl
    refine W.widen (k := 0) (n := 0) (Nat.le_of_ble_eq_true rfl) (Nat.le_of_ble_eq_true rfl) ?_
    exact W.iret (v := (-5)) hx hb hr (fun t9 ht9 hW9 => ⟨⟨(-5), (c, fv, cs), rfl, ⟨by unfold ce_r; rw [if_neg h0], by unfold ce_c; rw [if_neg (fun q => h0 q.1)], by unfold ce_a; rw [if_neg (fun q => h0 q.1)], by unfold ce_a; rw [if_neg (fun q => h0 q.1)]⟩, by rw [ht9]; exact hP9, va_K.moved hW9.alike hK, hD9⟩, hS.F ht9⟩) hS.2.2 dX4_cell_21
  · refine lv_aload_n hx hb dX4_cell_12 rfl (lv_at hl 0 rfl) ?_
    refine va_get (D := D) (ci := 5) (v := .int (nI t)) (C := RX4) (T := TX4) (N := 23) hx hb hts iX4 hown hK hP 0 rfl rfl 9 (by decide) wf62 (fun _ h9 => h9) rfl dX4_cell_13 ?_
    refine lv_if_le (tgt := 22) hx hb dX4_cell_16 (by decide) (fun c_16 => ?_) (fun c_16 => ?_)
    · refine lv_aload_n hx hb dX4_cell_22 rfl (lv_at hl 0 rfl) ?_
      refine va_get (D := D) (ci := 5) (v := .int (nI c)) (C := RX4) (T := TX4) (N := 23) hx hb hts iX4 hown hK hP 0 rfl rfl 7 (by decide) wf65 (fun _ h9 => h9) rfl dX4_cell_23 ?_
      refine lv_bipush (v := 12) hx hb dX4_cell_26 (by decide) ?_
      refine lv_icmp_ne (tgt := 33) hx hb dX4_cell_28 (by decide) (fun c_28 => ?_) (fun c_28 => ?_)
      · have h1 : c < 12 := by
          rcases Nat.lt_or_ge c 12 with q | q
          · exact q
          · exact absurd (show nI c = 12 by rw [show c = 12 by omega]; rfl) c_28
        have h1b : nI c < 12 := nI_lt (a := c) (b := 12) h1 (by omega)
        refine lv_aload_n hx hb dX4_cell_33 rfl (lv_at hl 0 rfl) ?_
        refine va_get (D := D) (ci := 5) (v := .ref acs) (C := RX4) (T := TX4) (N := 23) hx hb hts iX4 hown hK hP 0 rfl rfl 1 (by decide) wf7 (fun _ h9 => h9) rfl dX4_cell_34 ?_
        refine lv_aload_n hx hb dX4_cell_37 rfl (lv_at hl 0 rfl) ?_
        refine va_get (D := D) (ci := 5) (v := .int (nI c)) (C := RX4) (T := TX4) (N := 23) hx hb hts iX4 hown hK hP 0 rfl rfl 7 (by decide) wf65 (fun _ h9 => h9) rfl dX4_cell_38 ?_
        refine lv_lload_n hx hb dX4_cell_41 rfl (lv_at hl 1 rfl) ?_
        refine ct_last (k := c) hx hb hK hP hD hS 1 1 rfl rfl (by omega) (by decide) dX4_cell_42 (fun H locs hP hD hS => ?_)
        have hP : va_P D vwCl [(am, .inr (5, [.int 0, .ref acs, .ref afv, .ref atr, .ref aln, .ref aps, .ref ata, .int (nI c), .int (nI f), .int (nI t), .int ed, .ref aro, .ref akc, .ref akp, .ref akm, .ref akf, .ref aku, .ref ake, .ref aiw, .int (nI kb), .int cp, .int ct, .int dn])), (acs, .inl (cL, 12, .inr (.inl (vp_updL cs c v)))), (afv, .inl (cL, 12, .inr (.inl fv)))] H := hP
        have hD : va_D A [(am, .inr (5, [.int 0, .ref acs, .ref afv, .ref atr, .ref aln, .ref aps, .ref ata, .int (nI c), .int (nI f), .int (nI t), .int ed, .ref aro, .ref akc, .ref akp, .ref akm, .ref akf, .ref aku, .ref ake, .ref aiw, .int (nI kb), .int cp, .int ct, .int dn])), (acs, .inl (cL, 12, .inr (.inl (vp_updL cs c v)))), (afv, .inl (cL, 12, .inr (.inl fv)))] := hD
        refine lv_aload_n hx hb dX4_cell_43 rfl (lv_at hl 0 rfl) ?_
        refine va_get (D := D) (ci := 5) (v := .ref afv) (C := RX4) (T := TX4) (N := 23) hx hb hts iX4 hown hK hP 0 rfl rfl 2 (by decide) wf13 (fun _ h9 => h9) rfl dX4_cell_44 ?_
        refine lv_aload_n hx hb dX4_cell_47 rfl (lv_at hl 0 rfl) ?_
        refine va_get (D := D) (ci := 5) (v := .int (nI c)) (C := RX4) (T := TX4) (N := 23) hx hb hts iX4 hown hK hP 0 rfl rfl 7 (by decide) wf65 (fun _ h9 => h9) rfl dX4_cell_48 ?_
        refine lv_lload_n hx hb dX4_cell_51 rfl (lv_at hl 1 rfl) ?_
        refine ct_last (k := c) hx hb hK hP hD hS 2 1 rfl rfl (by omega) (by decide) dX4_cell_52 (fun H locs hP hD hS => ?_)
        have hP : va_P D vwCl [(am, .inr (5, [.int 0, .ref acs, .ref afv, .ref atr, .ref aln, .ref aps, .ref ata, .int (nI c), .int (nI f), .int (nI t), .int ed, .ref aro, .ref akc, .ref akp, .ref akm, .ref akf, .ref aku, .ref ake, .ref aiw, .int (nI kb), .int cp, .int ct, .int dn])), (acs, .inl (cL, 12, .inr (.inl (vp_updL cs c v)))), (afv, .inl (cL, 12, .inr (.inl (vp_updL fv c v))))] H := hP
        have hD : va_D A [(am, .inr (5, [.int 0, .ref acs, .ref afv, .ref atr, .ref aln, .ref aps, .ref ata, .int (nI c), .int (nI f), .int (nI t), .int ed, .ref aro, .ref akc, .ref akp, .ref akm, .ref akf, .ref aku, .ref ake, .ref aiw, .int (nI kb), .int cp, .int ct, .int dn])), (acs, .inl (cL, 12, .inr (.inl (vp_updL cs c v)))), (afv, .inl (cL, 12, .inr (.inl (vp_updL fv c v))))] := hD
        refine lv_aload_n hx hb dX4_cell_53 rfl (lv_at hl 0 rfl) ?_
        refine lv_dup hx hb dX4_cell_54 rfl ?_
        refine va_get (D := D) (ci := 5) (v := .int (nI c)) (C := RX4) (T := TX4) (N := 23) hx hb hts iX4 hown hK hP 0 rfl rfl 7 (by decide) wf65 (fun _ h9 => h9) rfl dX4_cell_55 ?_
        refine lv_iconst (v := 1) hx hb dX4_cell_58 (by decide) ?_
        refine lv_iadd hx hb dX4_cell_59 ?_
        refine ct_topi (y := (nI (c + 1))) (nI_1 c) ?_
        refine va_put (D := D) (ci := 5) (v := .int (nI (c + 1))) (ty := .int) (C := RX4) (T := TX4) (N := 23) hx hb hts iX4 tyX4 tyX4_ok nmX4 hown hK hP hD hS 0 rfl rfl 7 (by decide) wf65 (fun _ h9 => h9) rfl (by decide +kernel) rfl rfl (Nat.le_of_ble_eq_true rfl) dX4_cell_60 (fun H locs hP hD hS => ?_)
        have hP : va_P D vwCl [(am, .inr (5, [.int 0, .ref acs, .ref afv, .ref atr, .ref aln, .ref aps, .ref ata, .int (nI (c + 1)), .int (nI f), .int (nI t), .int ed, .ref aro, .ref akc, .ref akp, .ref akm, .ref akf, .ref aku, .ref ake, .ref aiw, .int (nI kb), .int cp, .int ct, .int dn])), (acs, .inl (cL, 12, .inr (.inl (vp_updL cs c v)))), (afv, .inl (cL, 12, .inr (.inl (vp_updL fv c v))))] H := hP
        have hD : va_D A [(am, .inr (5, [.int 0, .ref acs, .ref afv, .ref atr, .ref aln, .ref aps, .ref ata, .int (nI (c + 1)), .int (nI f), .int (nI t), .int ed, .ref aro, .ref akc, .ref akp, .ref akm, .ref akf, .ref aku, .ref ake, .ref aiw, .int (nI kb), .int cp, .int ct, .int dn])), (acs, .inl (cL, 12, .inr (.inl (vp_updL cs c v)))), (afv, .inl (cL, 12, .inr (.inl (vp_updL fv c v))))] := hD
        refine lv_aload_n hx hb dX4_cell_63 rfl (lv_at hl 0 rfl) ?_
        refine va_get (D := D) (ci := 5) (v := .int (nI (c + 1))) (C := RX4) (T := TX4) (N := 23) hx hb hts iX4 hown hK hP 0 rfl rfl 7 (by decide) wf65 (fun _ h9 => h9) rfl dX4_cell_64 ?_
        refine lv_iconst (v := 1) hx hb dX4_cell_67 (by decide) ?_
        refine lv_isub hx hb dX4_cell_68 ?_
        refine ct_topi (y := (nI c)) (nI_pred c) ?_
        have hP9 := hP.sub (ws' := [(am, .inr (5, [.int 0, .ref acs, .ref afv, .ref atr, .ref aln, .ref aps, .ref ata, .int (nI (c + 1)), .int (nI f), .int (nI t), .int ed, .ref aro, .ref akc, .ref akp, .ref akm, .ref akf, .ref aku, .ref ake, .ref aiw, .int (nI kb), .int cp, .int ct, .int dn])), (acs, .inl (cL, 12, .inr (.inl (vp_updL cs c v)))), (afv, .inl (cL, 12, .inr (.inl (vp_updL fv c v))))]) [0, 1, 2] rfl
        have hD9 := hD.sub (ws' := [(am, .inr (5, [.int 0, .ref acs, .ref afv, .ref atr, .ref aln, .ref aps, .ref ata, .int (nI (c + 1)), .int (nI f), .int (nI t), .int ed, .ref aro, .ref akc, .ref akp, .ref akm, .ref akf, .ref aku, .ref ake, .ref aiw, .int (nI kb), .int cp, .int ct, .int dn])), (acs, .inl (cL, 12, .inr (.inl (vp_updL cs c v)))), (afv, .inl (cL, 12, .inr (.inl (vp_updL fv c v))))]) [0, 1, 2] (by decide) rfl
        refine W.widen (k := 0) (n := 0) (Nat.le_of_ble_eq_true rfl) (Nat.le_of_ble_eq_true rfl) ?_
        exact W.iret (v := (nI c)) hx hb hr (fun t9 ht9 hW9 => ⟨⟨(nI c), ((c + 1), (vp_updL fv c v), (vp_updL cs c v)), rfl, ⟨by unfold ce_r; rw [if_pos ⟨c_9, c_16⟩, if_pos h1b], by unfold ce_c; rw [if_pos ⟨⟨c_9, c_16⟩, h1⟩], by unfold ce_a; rw [if_pos ⟨⟨c_9, c_16⟩, h1⟩], by unfold ce_a; rw [if_pos ⟨⟨c_9, c_16⟩, h1⟩]⟩, by rw [ht9]; exact hP9, va_K.moved hW9.alike hK, hD9⟩, hS.F ht9⟩) hS.2.2 dX4_cell_69
      · have h1 : ¬ c < 12 := by
          have q := (nI_eq (a := c) (b := 12) (by omega) (by omega)).mp c_28
          omega
        have h1b : ¬ nI c < 12 := fun q => h1 ((nI_ltI (a := c) (b := 12) (by omega) (by omega)).mp q)
        refine lv_iconst (v := (-1)) hx hb dX4_cell_31 (by decide) ?_
        have hP9 := hP.sub (ws' := [(am, .inr (5, [.int 0, .ref acs, .ref afv, .ref atr, .ref aln, .ref aps, .ref ata, .int (nI c), .int (nI f), .int (nI t), .int ed, .ref aro, .ref akc, .ref akp, .ref akm, .ref akf, .ref aku, .ref ake, .ref aiw, .int (nI kb), .int cp, .int ct, .int dn])), (acs, .inl (cL, 12, .inr (.inl cs))), (afv, .inl (cL, 12, .inr (.inl fv)))]) [0, 1, 2] rfl
        have hD9 := hD.sub (ws' := [(am, .inr (5, [.int 0, .ref acs, .ref afv, .ref atr, .ref aln, .ref aps, .ref ata, .int (nI c), .int (nI f), .int (nI t), .int ed, .ref aro, .ref akc, .ref akp, .ref akm, .ref akf, .ref aku, .ref ake, .ref aiw, .int (nI kb), .int cp, .int ct, .int dn])), (acs, .inl (cL, 12, .inr (.inl cs))), (afv, .inl (cL, 12, .inr (.inl fv)))]) [0, 1, 2] (by decide) rfl
        refine W.widen (k := 0) (n := 0) (Nat.le_of_ble_eq_true rfl) (Nat.le_of_ble_eq_true rfl) ?_
        exact W.iret (v := (-1)) hx hb hr (fun t9 ht9 hW9 => ⟨⟨(-1), (c, fv, cs), rfl, ⟨by unfold ce_r; rw [if_pos ⟨c_9, c_16⟩, if_neg h1b], by unfold ce_c; rw [if_neg (fun q => h1 q.2)], by unfold ce_a; rw [if_neg (fun q => h1 q.2)], by unfold ce_a; rw [if_neg (fun q => h1 q.2)]⟩, by rw [ht9]; exact hP9, va_K.moved hW9.alike hK, hD9⟩, hS.F ht9⟩) hS.2.2 dX4_cell_32
    · refine lv_bipush (v := (-5)) hx hb dX4_cell_19 (by decide) ?_
      have h0 : ¬ (dn = 0 ∧ nI t ≤ 0) := by first | exact fun q => c_9 q.1 | exact fun q => c_16 q.2
      have hP9 := hP.sub (ws' := [(am, .inr (5, [.int 0, .ref acs, .ref afv, .ref atr, .ref aln, .ref aps, .ref ata, .int (nI c), .int (nI f), .int (nI t), .int ed, .ref aro, .ref akc, .ref akp, .ref akm, .ref akf, .ref aku, .ref ake, .ref aiw, .int (nI kb), .int cp, .int ct, .int dn])), (acs, .inl (cL, 12, .inr (.inl cs))), (afv, .inl (cL, 12, .inr (.inl fv)))]) [0, 1, 2] rfl
      have hD9 := hD.sub (ws' := [(am, .inr (5, [.int 0, .ref acs, .ref afv, .ref atr, .ref aln, .ref aps, .ref ata, .int (nI c), .int (nI f), .int (nI t), .int ed, .ref aro, .ref akc, .ref akp, .ref akm, .ref akf, .ref aku, .ref ake, .ref aiw, .int (nI kb), .int cp, .int ct, .int dn])), (acs, .inl (cL, 12, .inr (.inl cs))), (afv, .inl (cL, 12, .inr (.inl fv)))]) [0, 1, 2] (by decide) rfl
      refine W.widen (k := 0) (n := 0) (Nat.le_of_ble_eq_true rfl) (Nat.le_of_ble_eq_true rfl) ?_
      exact W.iret (v := (-5)) hx hb hr (fun t9 ht9 hW9 => ⟨⟨(-5), (c, fv, cs), rfl, ⟨by unfold ce_r; rw [if_neg h0], by unfold ce_c; rw [if_neg (fun q => h0 q.1)], by unfold ce_a; rw [if_neg (fun q => h0 q.1)], by unfold ce_a; rw [if_neg (fun q => h0 q.1)]⟩, by rw [ht9]; exact hP9, va_K.moved hW9.alike hK, hD9⟩, hS.F ht9⟩) hS.2.2 dX4_cell_21
abbrev rm_X4_file : Room := { frames := 0, cells := 0, slots := 0, locals := 0 }
abbrev qc_X4_file (D : va_G) (cI cL cZ : ClassId) (am : Nat) (acs : Nat) (afv : Nat) (atr : Nat) (aln : Nat) (aps : Nat) (ata : Nat) (aro : Nat) (akc : Nat) (akp : Nat) (akm : Nat) (akf : Nat) (aku : Nat) (ake : Nat) (aiw : Nat) (cde : Int32) (c : Nat) (f : Nat) (t : Nat) (kb : Nat) (ed : Int32) (cp : Int32) (ct : Int32) (dn : Int32) (ln : Nat → Int32) (x : Int32) (A : Nat → Prop) : Array Value → State → Outcome → State → Prop := va_Qi (fun (r : Int32) (u : Nat × (Nat → Int32)) => (fi_r dn t f x) = r ∧ (fi_f dn t f x) = u.1 ∧ (fi_l dn t f ln x) = u.2) (ct_B D vwCl [(cI, .int), (cL, .long), (cZ, .boolean)] A (fun (u : Nat × (Nat → Int32)) => [(am, .inr (5, [.int 0, .ref acs, .ref afv, .ref atr, .ref aln, .ref aps, .ref ata, .int (nI c), .int (nI u.1), .int (nI t), .int ed, .ref aro, .ref akc, .ref akp, .ref akm, .ref akf, .ref aku, .ref ake, .ref aiw, .int (nI kb), .int cp, .int ct, .int dn])), (aln, .inl (cI, 6, .inl u.2))])) A
set_option maxHeartbeats 4000000 in
set_option maxRecDepth 100000 in
theorem c_X4_file (l : Launch) (D : va_G) (cI cL cZ : ClassId) (am : Nat) (acs : Nat) (afv : Nat) (atr : Nat) (aln : Nat) (aps : Nat) (ata : Nat) (aro : Nat) (akc : Nat) (akp : Nat) (akm : Nat) (akf : Nat) (aku : Nat) (ake : Nat) (aiw : Nat) (cde : Int32) (c : Nat) (f : Nat) (t : Nat) (kb : Nat) (ed : Int32) (cp : Int32) (ct : Int32) (dn : Int32) (ln : Nat → Int32) (x : Int32) (sz : Nat) (hf : f ≤ 6) : Met l yX4_file wsX4_file rm_X4_file (va_Pc [.ref am, .int x] (ct_P D vwCl [(cI, .int), (cL, .long), (cZ, .boolean)] [(am, .inr (5, [.int cde, .ref acs, .ref afv, .ref atr, .ref aln, .ref aps, .ref ata, .int (nI c), .int (nI f), .int (nI t), .int ed, .ref aro, .ref akc, .ref akp, .ref akm, .ref akf, .ref aku, .ref ake, .ref aiw, .int (nI kb), .int cp, .int ct, .int dn])), (aln, .inl (cI, 6, .inl ln))] sz)) (qc_X4_file D cI cL cZ am acs afv atr aln aps ata aro akc akp akm akf aku ake aiw cde c f t kb ed cp ct dn ln x (va_A [(am, .inr (5, [.int cde, .ref acs, .ref afv, .ref atr, .ref aln, .ref aps, .ref ata, .int (nI c), .int (nI f), .int (nI t), .int ed, .ref aro, .ref akc, .ref akp, .ref akm, .ref akf, .ref aku, .ref ake, .ref aiw, .int (nI kb), .int cp, .int ct, .int dn])), (aln, .inl (cI, 6, .inl ln))] sz)) 0 0 (va_A [(am, .inr (5, [.int cde, .ref acs, .ref afv, .ref atr, .ref aln, .ref aps, .ref ata, .int (nI c), .int (nI f), .int (nI t), .int ed, .ref aro, .ref akc, .ref akp, .ref akm, .ref akf, .ref aku, .ref ake, .ref aiw, .int (nI kb), .int cp, .int ct, .int dn])), (aln, .inl (cI, 6, .inl ln))] sz) := by
  refine Met.ofW (cc := cX4_file) (maxL := 2) (ret := (some .int)) (by decide) rfl ?_
  intro p e s m args below meth cd s₁ B hml hv
  obtain ⟨rfl, hsz, hP, hK, hD0⟩ := hv
  have hx := B.exec
  have hb := B.bytes
  have hr := B.returns
  have hts := atoms_spec (ws := wsX4_file) B.pre
  have iX4 : ∀ w ∈ wsX40, w ∈ wsX4_file := by decide +kernel
  have wf54 := hts (.fieldLink RX4 54 "CheckRestartModel" "code" "I") (by decide +kernel)
  have wf58 := hts (.fieldLink RX4 58 "CheckRestartModel" "down" "Z") (by decide +kernel)
  have wf62 := hts (.fieldLink RX4 62 "CheckRestartModel" "units" "I") (by decide +kernel)
  have wf68 := hts (.fieldLink RX4 68 "CheckRestartModel" "files" "I") (by decide +kernel)
  have wf19 := hts (.fieldLink RX4 19 "CheckRestartModel" "lengths" "[I") (by decide +kernel)
  have hown : s.vm.findClass RX4 = some m.cls := findClass_of_methodNamed B.named
  have hlocks := B.notSynchronized
  subst hsz
  have hD := hD0.self (sz := s.heap.size)
  generalize hAe : va_A [(am, .inr (5, [.int cde, .ref acs, .ref afv, .ref atr, .ref aln, .ref aps, .ref ata, .int (nI c), .int (nI f), .int (nI t), .int ed, .ref aro, .ref akc, .ref akp, .ref akm, .ref akf, .ref aku, .ref ake, .ref aiw, .int (nI kb), .int cp, .int ct, .int dn])), (aln, .inl (cI, 6, .inl ln))] s.heap.size = A at hD ⊢
  have hA : ∀ q : Nat, s.heap.size ≤ q → A q := fun q h => by rw [← hAe]; exact Or.inr h
  have hS : va_S A s.heap s.heap [] := va_S.rf
  have hl := lv_entry ([.ref am, .int x]) (n := 2) (Nat.le_of_ble_eq_true rfl)
  rw [lg_entry_eq]
  generalize (lg_sl ([.ref am, .int x]) ++ List.replicate (2 - (lg_sl ([.ref am, .int x])).length) Slot.unset).toArray = ls at hl ⊢
  have hl : lv_has ls 2 [(0, .ref am), (1, .int x)] := hl
  refine lv_aload_n hx hb dX4_file_0 rfl (lv_at hl 0 rfl) ?_
  refine lv_iconst (v := 0) hx hb dX4_file_1 (by decide) ?_
  refine va_put (D := D) (ci := 5) (v := .int 0) (ty := .int) (C := RX4) (T := TX4) (N := 23) hx hb hts iX4 tyX4 tyX4_ok nmX4 hown hK hP hD hS 0 rfl rfl 0 (by decide) wf54 (fun _ h9 => h9) rfl (by decide +kernel) rfl rfl (Nat.le_of_ble_eq_true rfl) dX4_file_2 (fun H locs hP hD hS => ?_)
  have hP : va_P D vwCl [(am, .inr (5, [.int 0, .ref acs, .ref afv, .ref atr, .ref aln, .ref aps, .ref ata, .int (nI c), .int (nI f), .int (nI t), .int ed, .ref aro, .ref akc, .ref akp, .ref akm, .ref akf, .ref aku, .ref ake, .ref aiw, .int (nI kb), .int cp, .int ct, .int dn])), (aln, .inl (cI, 6, .inl ln))] H := hP
  have hD : va_D A [(am, .inr (5, [.int 0, .ref acs, .ref afv, .ref atr, .ref aln, .ref aps, .ref ata, .int (nI c), .int (nI f), .int (nI t), .int ed, .ref aro, .ref akc, .ref akp, .ref akm, .ref akf, .ref aku, .ref ake, .ref aiw, .int (nI kb), .int cp, .int ct, .int dn])), (aln, .inl (cI, 6, .inl ln))] := hD
  refine lv_iload_n hx hb dX4_file_5 rfl (lv_at hl 1 rfl) ?_
  refine lv_if_lt (tgt := 16) hx hb dX4_file_6 (by decide) (fun c_6 => ?_) (fun c_6 => ?_)
  · refine lv_bipush (v := (-4)) hx hb dX4_file_16 (by decide) ?_
    have hbd : x < 0 ∨ ¬ x ≤ 2000 := by first | exact Or.inl c_6 | exact Or.inr c_13
    have hP9 := hP.sub (ws' := [(am, .inr (5, [.int 0, .ref acs, .ref afv, .ref atr, .ref aln, .ref aps, .ref ata, .int (nI c), .int (nI f), .int (nI t), .int ed, .ref aro, .ref akc, .ref akp, .ref akm, .ref akf, .ref aku, .ref ake, .ref aiw, .int (nI kb), .int cp, .int ct, .int dn])), (aln, .inl (cI, 6, .inl ln))]) [0, 1] rfl
    have hD9 := hD.sub (ws' := [(am, .inr (5, [.int 0, .ref acs, .ref afv, .ref atr, .ref aln, .ref aps, .ref ata, .int (nI c), .int (nI f), .int (nI t), .int ed, .ref aro, .ref akc, .ref akp, .ref akm, .ref akf, .ref aku, .ref ake, .ref aiw, .int (nI kb), .int cp, .int ct, .int dn])), (aln, .inl (cI, 6, .inl ln))]) [0, 1] (by decide) rfl
    refine W.widen (k := 0) (n := 0) (Nat.le_of_ble_eq_true rfl) (Nat.le_of_ble_eq_true rfl) ?_
    exact W.iret (v := (-4)) hx hb hr (fun t9 ht9 hW9 => ⟨⟨(-4), (f, ln), rfl, ⟨by unfold fi_r; rw [if_pos hbd], by unfold fi_f; rw [if_neg (fun q => q.1 hbd)], by unfold fi_l; rw [if_neg (fun q => q.1 hbd)]⟩, by rw [ht9]; exact hP9, va_K.moved hW9.alike hK, hD9⟩, hS.F ht9⟩) hS.2.2 dX4_file_18
  · refine lv_iload_n hx hb dX4_file_9 rfl (lv_at hl 1 rfl) ?_
    refine lv_sipush (v := 2000) hx hb dX4_file_10 (by decide) ?_
    refine lv_icmp_le (tgt := 19) hx hb dX4_file_13 (by decide) (fun c_13 => ?_) (fun c_13 => ?_)
    · have hbd : ¬ (x < 0 ∨ ¬ x ≤ 2000) := fun q => q.elim c_6 (fun q => q c_13)
      refine lv_aload_n hx hb dX4_file_19 rfl (lv_at hl 0 rfl) ?_
      refine va_get (D := D) (ci := 5) (v := .int dn) (C := RX4) (T := TX4) (N := 23) hx hb hts iX4 hown hK hP 0 rfl rfl 22 (by decide) wf58 (fun _ h9 => h9) rfl dX4_file_20 ?_
      refine lv_if_ne (tgt := 33) hx hb dX4_file_23 (by decide) (fun c_23 => ?_) (fun c_23 => ?_)
      · refine lv_bipush (v := (-5)) hx hb dX4_file_33 (by decide) ?_
        have h0 : ¬ (dn = 0 ∧ nI t ≤ 0) := by first | exact fun q => c_23 q.1 | exact fun q => c_30 q.2
        have hP9 := hP.sub (ws' := [(am, .inr (5, [.int 0, .ref acs, .ref afv, .ref atr, .ref aln, .ref aps, .ref ata, .int (nI c), .int (nI f), .int (nI t), .int ed, .ref aro, .ref akc, .ref akp, .ref akm, .ref akf, .ref aku, .ref ake, .ref aiw, .int (nI kb), .int cp, .int ct, .int dn])), (aln, .inl (cI, 6, .inl ln))]) [0, 1] rfl
        have hD9 := hD.sub (ws' := [(am, .inr (5, [.int 0, .ref acs, .ref afv, .ref atr, .ref aln, .ref aps, .ref ata, .int (nI c), .int (nI f), .int (nI t), .int ed, .ref aro, .ref akc, .ref akp, .ref akm, .ref akf, .ref aku, .ref ake, .ref aiw, .int (nI kb), .int cp, .int ct, .int dn])), (aln, .inl (cI, 6, .inl ln))]) [0, 1] (by decide) rfl
        refine W.widen (k := 0) (n := 0) (Nat.le_of_ble_eq_true rfl) (Nat.le_of_ble_eq_true rfl) ?_
        exact W.iret (v := (-5)) hx hb hr (fun t9 ht9 hW9 => ⟨⟨(-5), (f, ln), rfl, ⟨by unfold fi_r; rw [if_neg hbd, if_neg h0], by unfold fi_f; rw [if_neg (fun q => h0 q.2.1)], by unfold fi_l; rw [if_neg (fun q => h0 q.2.1)]⟩, by rw [ht9]; exact hP9, va_K.moved hW9.alike hK, hD9⟩, hS.F ht9⟩) hS.2.2 dX4_file_35
      · refine lv_aload_n hx hb dX4_file_26 rfl (lv_at hl 0 rfl) ?_
        refine va_get (D := D) (ci := 5) (v := .int (nI t)) (C := RX4) (T := TX4) (N := 23) hx hb hts iX4 hown hK hP 0 rfl rfl 9 (by decide) wf62 (fun _ h9 => h9) rfl dX4_file_27 ?_
        refine lv_if_le (tgt := 36) hx hb dX4_file_30 (by decide) (fun c_30 => ?_) (fun c_30 => ?_)
        · refine lv_aload_n hx hb dX4_file_36 rfl (lv_at hl 0 rfl) ?_
          refine va_get (D := D) (ci := 5) (v := .int (nI f)) (C := RX4) (T := TX4) (N := 23) hx hb hts iX4 hown hK hP 0 rfl rfl 8 (by decide) wf68 (fun _ h9 => h9) rfl dX4_file_37 ?_
          refine lv_bipush (v := 6) hx hb dX4_file_40 (by decide) ?_
          refine lv_icmp_ne (tgt := 47) hx hb dX4_file_42 (by decide) (fun c_42 => ?_) (fun c_42 => ?_)
          · have h1 : f < 6 := by
              rcases Nat.lt_or_ge f 6 with q | q
              · exact q
              · exact absurd (show nI f = 6 by rw [show f = 6 by omega]; rfl) c_42
            have h1b : nI f < 6 := nI_lt (a := f) (b := 6) h1 (by omega)
            refine lv_aload_n hx hb dX4_file_47 rfl (lv_at hl 0 rfl) ?_
            refine va_get (D := D) (ci := 5) (v := .ref aln) (C := RX4) (T := TX4) (N := 23) hx hb hts iX4 hown hK hP 0 rfl rfl 4 (by decide) wf19 (fun _ h9 => h9) rfl dX4_file_48 ?_
            refine lv_aload_n hx hb dX4_file_51 rfl (lv_at hl 0 rfl) ?_
            refine va_get (D := D) (ci := 5) (v := .int (nI f)) (C := RX4) (T := TX4) (N := 23) hx hb hts iX4 hown hK hP 0 rfl rfl 8 (by decide) wf68 (fun _ h9 => h9) rfl dX4_file_52 ?_
            refine lv_iload_n hx hb dX4_file_55 rfl (lv_at hl 1 rfl) ?_
            refine ct_iast (k := f) hx hb hK hP hD hS 1 0 rfl rfl (by omega) (by decide) dX4_file_56 (fun H locs hP hD hS => ?_)
            have hP : va_P D vwCl [(am, .inr (5, [.int 0, .ref acs, .ref afv, .ref atr, .ref aln, .ref aps, .ref ata, .int (nI c), .int (nI f), .int (nI t), .int ed, .ref aro, .ref akc, .ref akp, .ref akm, .ref akf, .ref aku, .ref ake, .ref aiw, .int (nI kb), .int cp, .int ct, .int dn])), (aln, .inl (cI, 6, .inl (upd ln f x)))] H := hP
            have hD : va_D A [(am, .inr (5, [.int 0, .ref acs, .ref afv, .ref atr, .ref aln, .ref aps, .ref ata, .int (nI c), .int (nI f), .int (nI t), .int ed, .ref aro, .ref akc, .ref akp, .ref akm, .ref akf, .ref aku, .ref ake, .ref aiw, .int (nI kb), .int cp, .int ct, .int dn])), (aln, .inl (cI, 6, .inl (upd ln f x)))] := hD
            refine lv_aload_n hx hb dX4_file_57 rfl (lv_at hl 0 rfl) ?_
            refine lv_dup hx hb dX4_file_58 rfl ?_
            refine va_get (D := D) (ci := 5) (v := .int (nI f)) (C := RX4) (T := TX4) (N := 23) hx hb hts iX4 hown hK hP 0 rfl rfl 8 (by decide) wf68 (fun _ h9 => h9) rfl dX4_file_59 ?_
            refine lv_iconst (v := 1) hx hb dX4_file_62 (by decide) ?_
            refine lv_iadd hx hb dX4_file_63 ?_
            refine ct_topi (y := (nI (f + 1))) (nI_1 f) ?_
            refine va_put (D := D) (ci := 5) (v := .int (nI (f + 1))) (ty := .int) (C := RX4) (T := TX4) (N := 23) hx hb hts iX4 tyX4 tyX4_ok nmX4 hown hK hP hD hS 0 rfl rfl 8 (by decide) wf68 (fun _ h9 => h9) rfl (by decide +kernel) rfl rfl (Nat.le_of_ble_eq_true rfl) dX4_file_64 (fun H locs hP hD hS => ?_)
            have hP : va_P D vwCl [(am, .inr (5, [.int 0, .ref acs, .ref afv, .ref atr, .ref aln, .ref aps, .ref ata, .int (nI c), .int (nI (f + 1)), .int (nI t), .int ed, .ref aro, .ref akc, .ref akp, .ref akm, .ref akf, .ref aku, .ref ake, .ref aiw, .int (nI kb), .int cp, .int ct, .int dn])), (aln, .inl (cI, 6, .inl (upd ln f x)))] H := hP
            have hD : va_D A [(am, .inr (5, [.int 0, .ref acs, .ref afv, .ref atr, .ref aln, .ref aps, .ref ata, .int (nI c), .int (nI (f + 1)), .int (nI t), .int ed, .ref aro, .ref akc, .ref akp, .ref akm, .ref akf, .ref aku, .ref ake, .ref aiw, .int (nI kb), .int cp, .int ct, .int dn])), (aln, .inl (cI, 6, .inl (upd ln f x)))] := hD
            refine lv_aload_n hx hb dX4_file_67 rfl (lv_at hl 0 rfl) ?_
            refine va_get (D := D) (ci := 5) (v := .int (nI (f + 1))) (C := RX4) (T := TX4) (N := 23) hx hb hts iX4 hown hK hP 0 rfl rfl 8 (by decide) wf68 (fun _ h9 => h9) rfl dX4_file_68 ?_
            refine lv_iconst (v := 1) hx hb dX4_file_71 (by decide) ?_
            refine lv_isub hx hb dX4_file_72 ?_
            refine ct_topi (y := (nI f)) (nI_pred f) ?_
            have hP9 := hP.sub (ws' := [(am, .inr (5, [.int 0, .ref acs, .ref afv, .ref atr, .ref aln, .ref aps, .ref ata, .int (nI c), .int (nI (f + 1)), .int (nI t), .int ed, .ref aro, .ref akc, .ref akp, .ref akm, .ref akf, .ref aku, .ref ake, .ref aiw, .int (nI kb), .int cp, .int ct, .int dn])), (aln, .inl (cI, 6, .inl (upd ln f x)))]) [0, 1] rfl
            have hD9 := hD.sub (ws' := [(am, .inr (5, [.int 0, .ref acs, .ref afv, .ref atr, .ref aln, .ref aps, .ref ata, .int (nI c), .int (nI (f + 1)), .int (nI t), .int ed, .ref aro, .ref akc, .ref akp, .ref akm, .ref akf, .ref aku, .ref ake, .ref aiw, .int (nI kb), .int cp, .int ct, .int dn])), (aln, .inl (cI, 6, .inl (upd ln f x)))]) [0, 1] (by decide) rfl
            refine W.widen (k := 0) (n := 0) (Nat.le_of_ble_eq_true rfl) (Nat.le_of_ble_eq_true rfl) ?_
            exact W.iret (v := (nI f)) hx hb hr (fun t9 ht9 hW9 => ⟨⟨(nI f), ((f + 1), (upd ln f x)), rfl, ⟨by unfold fi_r; rw [if_neg hbd, if_pos ⟨c_23, c_30⟩, if_pos h1b], by unfold fi_f; rw [if_pos ⟨hbd, ⟨c_23, c_30⟩, h1⟩], by unfold fi_l; rw [if_pos ⟨hbd, ⟨c_23, c_30⟩, h1⟩]⟩, by rw [ht9]; exact hP9, va_K.moved hW9.alike hK, hD9⟩, hS.F ht9⟩) hS.2.2 dX4_file_73
          · have h1 : ¬ f < 6 := by
              have q := (nI_eq (a := f) (b := 6) (by omega) (by omega)).mp c_42
              omega
            have h1b : ¬ nI f < 6 := fun q => h1 ((nI_ltI (a := f) (b := 6) (by omega) (by omega)).mp q)
            refine lv_iconst (v := (-1)) hx hb dX4_file_45 (by decide) ?_
            have hP9 := hP.sub (ws' := [(am, .inr (5, [.int 0, .ref acs, .ref afv, .ref atr, .ref aln, .ref aps, .ref ata, .int (nI c), .int (nI f), .int (nI t), .int ed, .ref aro, .ref akc, .ref akp, .ref akm, .ref akf, .ref aku, .ref ake, .ref aiw, .int (nI kb), .int cp, .int ct, .int dn])), (aln, .inl (cI, 6, .inl ln))]) [0, 1] rfl
            have hD9 := hD.sub (ws' := [(am, .inr (5, [.int 0, .ref acs, .ref afv, .ref atr, .ref aln, .ref aps, .ref ata, .int (nI c), .int (nI f), .int (nI t), .int ed, .ref aro, .ref akc, .ref akp, .ref akm, .ref akf, .ref aku, .ref ake, .ref aiw, .int (nI kb), .int cp, .int ct, .int dn])), (aln, .inl (cI, 6, .inl ln))]) [0, 1] (by decide) rfl
            refine W.widen (k := 0) (n := 0) (Nat.le_of_ble_eq_true rfl) (Nat.le_of_ble_eq_true rfl) ?_
            exact W.iret (v := (-1)) hx hb hr (fun t9 ht9 hW9 => ⟨⟨(-1), (f, ln), rfl, ⟨by unfold fi_r; rw [if_neg hbd, if_pos ⟨c_23, c_30⟩, if_neg h1b], by unfold fi_f; rw [if_neg (fun q => h1 q.2.2)], by unfold fi_l; rw [if_neg (fun q => h1 q.2.2)]⟩, by rw [ht9]; exact hP9, va_K.moved hW9.alike hK, hD9⟩, hS.F ht9⟩) hS.2.2 dX4_file_46
        · refine lv_bipush (v := (-5)) hx hb dX4_file_33 (by decide) ?_
          have h0 : ¬ (dn = 0 ∧ nI t ≤ 0) := by first | exact fun q => c_23 q.1 | exact fun q => c_30 q.2
          have hP9 := hP.sub (ws' := [(am, .inr (5, [.int 0, .ref acs, .ref afv, .ref atr, .ref aln, .ref aps, .ref ata, .int (nI c), .int (nI f), .int (nI t), .int ed, .ref aro, .ref akc, .ref akp, .ref akm, .ref akf, .ref aku, .ref ake, .ref aiw, .int (nI kb), .int cp, .int ct, .int dn])), (aln, .inl (cI, 6, .inl ln))]) [0, 1] rfl
          have hD9 := hD.sub (ws' := [(am, .inr (5, [.int 0, .ref acs, .ref afv, .ref atr, .ref aln, .ref aps, .ref ata, .int (nI c), .int (nI f), .int (nI t), .int ed, .ref aro, .ref akc, .ref akp, .ref akm, .ref akf, .ref aku, .ref ake, .ref aiw, .int (nI kb), .int cp, .int ct, .int dn])), (aln, .inl (cI, 6, .inl ln))]) [0, 1] (by decide) rfl
          refine W.widen (k := 0) (n := 0) (Nat.le_of_ble_eq_true rfl) (Nat.le_of_ble_eq_true rfl) ?_
          exact W.iret (v := (-5)) hx hb hr (fun t9 ht9 hW9 => ⟨⟨(-5), (f, ln), rfl, ⟨by unfold fi_r; rw [if_neg hbd, if_neg h0], by unfold fi_f; rw [if_neg (fun q => h0 q.2.1)], by unfold fi_l; rw [if_neg (fun q => h0 q.2.1)]⟩, by rw [ht9]; exact hP9, va_K.moved hW9.alike hK, hD9⟩, hS.F ht9⟩) hS.2.2 dX4_file_35
    · refine lv_bipush (v := (-4)) hx hb dX4_file_16 (by decide) ?_
      have hbd : x < 0 ∨ ¬ x ≤ 2000 := by first | exact Or.inl c_6 | exact Or.inr c_13
      have hP9 := hP.sub (ws' := [(am, .inr (5, [.int 0, .ref acs, .ref afv, .ref atr, .ref aln, .ref aps, .ref ata, .int (nI c), .int (nI f), .int (nI t), .int ed, .ref aro, .ref akc, .ref akp, .ref akm, .ref akf, .ref aku, .ref ake, .ref aiw, .int (nI kb), .int cp, .int ct, .int dn])), (aln, .inl (cI, 6, .inl ln))]) [0, 1] rfl
      have hD9 := hD.sub (ws' := [(am, .inr (5, [.int 0, .ref acs, .ref afv, .ref atr, .ref aln, .ref aps, .ref ata, .int (nI c), .int (nI f), .int (nI t), .int ed, .ref aro, .ref akc, .ref akp, .ref akm, .ref akf, .ref aku, .ref ake, .ref aiw, .int (nI kb), .int cp, .int ct, .int dn])), (aln, .inl (cI, 6, .inl ln))]) [0, 1] (by decide) rfl
      refine W.widen (k := 0) (n := 0) (Nat.le_of_ble_eq_true rfl) (Nat.le_of_ble_eq_true rfl) ?_
      exact W.iret (v := (-4)) hx hb hr (fun t9 ht9 hW9 => ⟨⟨(-4), (f, ln), rfl, ⟨by unfold fi_r; rw [if_pos hbd], by unfold fi_f; rw [if_neg (fun q => q.1 hbd)], by unfold fi_l; rw [if_neg (fun q => q.1 hbd)]⟩, by rw [ht9]; exact hP9, va_K.moved hW9.alike hK, hD9⟩, hS.F ht9⟩) hS.2.2 dX4_file_18
abbrev rm_X4_isEnded : Room := { frames := 0, cells := 0, slots := 0, locals := 0 }
abbrev qc_X4_isEnded (D : va_G) (cI cL cZ : ClassId) (am : Nat) (acs : Nat) (afv : Nat) (atr : Nat) (aln : Nat) (aps : Nat) (ata : Nat) (aro : Nat) (akc : Nat) (akp : Nat) (akm : Nat) (akf : Nat) (aku : Nat) (ake : Nat) (aiw : Nat) (cde : Int32) (c : Nat) (f : Nat) (t : Nat) (kb : Nat) (ed : Int32) (cp : Int32) (ct : Int32) (dn : Int32) (ps : Nat → Int32) (ln : Nat → Int32) (A : Nat → Prop) : Array Value → State → Outcome → State → Prop := va_Qi (fun (r : Int32) (u : Unit) => (ie_r f ps ln) = r) (ct_B D vwCl [(cI, .int), (cL, .long), (cZ, .boolean)] A (fun (u : Unit) => [(am, .inr (5, [.int cde, .ref acs, .ref afv, .ref atr, .ref aln, .ref aps, .ref ata, .int (nI c), .int (nI f), .int (nI t), .int ed, .ref aro, .ref akc, .ref akp, .ref akm, .ref akf, .ref aku, .ref ake, .ref aiw, .int (nI kb), .int cp, .int ct, .int dn])), (aps, .inl (cI, 6, .inl ps)), (aln, .inl (cI, 6, .inl ln))])) A
set_option maxHeartbeats 4000000 in
set_option maxRecDepth 100000 in
theorem c_X4_isEnded (l : Launch) (D : va_G) (cI cL cZ : ClassId) (am : Nat) (acs : Nat) (afv : Nat) (atr : Nat) (aln : Nat) (aps : Nat) (ata : Nat) (aro : Nat) (akc : Nat) (akp : Nat) (akm : Nat) (akf : Nat) (aku : Nat) (ake : Nat) (aiw : Nat) (cde : Int32) (c : Nat) (f : Nat) (t : Nat) (kb : Nat) (ed : Int32) (cp : Int32) (ct : Int32) (dn : Int32) (ps : Nat → Int32) (ln : Nat → Int32) (sz : Nat) (hf : f ≤ 6) : Met l yX4_isEnded wsX4_isEnded rm_X4_isEnded (va_Pc [.ref am] (ct_P D vwCl [(cI, .int), (cL, .long), (cZ, .boolean)] [(am, .inr (5, [.int cde, .ref acs, .ref afv, .ref atr, .ref aln, .ref aps, .ref ata, .int (nI c), .int (nI f), .int (nI t), .int ed, .ref aro, .ref akc, .ref akp, .ref akm, .ref akf, .ref aku, .ref ake, .ref aiw, .int (nI kb), .int cp, .int ct, .int dn])), (aps, .inl (cI, 6, .inl ps)), (aln, .inl (cI, 6, .inl ln))] sz)) (qc_X4_isEnded D cI cL cZ am acs afv atr aln aps ata aro akc akp akm akf aku ake aiw cde c f t kb ed cp ct dn ps ln (va_A [(am, .inr (5, [.int cde, .ref acs, .ref afv, .ref atr, .ref aln, .ref aps, .ref ata, .int (nI c), .int (nI f), .int (nI t), .int ed, .ref aro, .ref akc, .ref akp, .ref akm, .ref akf, .ref aku, .ref ake, .ref aiw, .int (nI kb), .int cp, .int ct, .int dn])), (aps, .inl (cI, 6, .inl ps)), (aln, .inl (cI, 6, .inl ln))] sz)) 0 0 (va_A [(am, .inr (5, [.int cde, .ref acs, .ref afv, .ref atr, .ref aln, .ref aps, .ref ata, .int (nI c), .int (nI f), .int (nI t), .int ed, .ref aro, .ref akc, .ref akp, .ref akm, .ref akf, .ref aku, .ref ake, .ref aiw, .int (nI kb), .int cp, .int ct, .int dn])), (aps, .inl (cI, 6, .inl ps)), (aln, .inl (cI, 6, .inl ln))] sz) := by
  refine Met.ofW (cc := cX4_isEnded) (maxL := 3) (ret := (some .boolean)) (by decide) rfl ?_
  intro p e s m args below meth cd s₁ B hml hv
  obtain ⟨rfl, hsz, hP, hK, hD0⟩ := hv
  have hx := B.exec
  have hb := B.bytes
  have hr := B.returns
  have hts := atoms_spec (ws := wsX4_isEnded) B.pre
  have iX4 : ∀ w ∈ wsX40, w ∈ wsX4_isEnded := by decide +kernel
  have wf68 := hts (.fieldLink RX4 68 "CheckRestartModel" "files" "I") (by decide +kernel)
  have wf23 := hts (.fieldLink RX4 23 "CheckRestartModel" "positions" "[I") (by decide +kernel)
  have wf19 := hts (.fieldLink RX4 19 "CheckRestartModel" "lengths" "[I") (by decide +kernel)
  have hown : s.vm.findClass RX4 = some m.cls := findClass_of_methodNamed B.named
  have hlocks := B.notSynchronized
  subst hsz
  have hD := hD0.self (sz := s.heap.size)
  generalize hAe : va_A [(am, .inr (5, [.int cde, .ref acs, .ref afv, .ref atr, .ref aln, .ref aps, .ref ata, .int (nI c), .int (nI f), .int (nI t), .int ed, .ref aro, .ref akc, .ref akp, .ref akm, .ref akf, .ref aku, .ref ake, .ref aiw, .int (nI kb), .int cp, .int ct, .int dn])), (aps, .inl (cI, 6, .inl ps)), (aln, .inl (cI, 6, .inl ln))] s.heap.size = A at hD ⊢
  have hA : ∀ q : Nat, s.heap.size ≤ q → A q := fun q h => by rw [← hAe]; exact Or.inr h
  have hS : va_S A s.heap s.heap [] := va_S.rf
  have hl := lv_entry ([.ref am]) (n := 3) (Nat.le_of_ble_eq_true rfl)
  rw [lg_entry_eq]
  generalize (lg_sl ([.ref am]) ++ List.replicate (3 - (lg_sl ([.ref am])).length) Slot.unset).toArray = ls at hl ⊢
  have hl : lv_has ls 3 [(0, .ref am)] := hl
  have key4 : ∀ (n : Nat) (i : Nat), (i ≤ f) → (f + 1 ≤ i + n) → ∀ (H : Heap) (locs : List Loc), va_P D vwCl [(am, .inr (5, [.int cde, .ref acs, .ref afv, .ref atr, .ref aln, .ref aps, .ref ata, .int (nI c), .int (nI f), .int (nI t), .int ed, .ref aro, .ref akc, .ref akp, .ref akm, .ref akf, .ref aku, .ref ake, .ref aiw, .int (nI kb), .int cp, .int ct, .int dn])), (aps, .inl (cI, 6, .inl ps)), (aln, .inl (cI, 6, .inl ln))] H → va_D A [(am, .inr (5, [.int cde, .ref acs, .ref afv, .ref atr, .ref aln, .ref aps, .ref ata, .int (nI c), .int (nI f), .int (nI t), .int ed, .ref aro, .ref akc, .ref akp, .ref akm, .ref akf, .ref aku, .ref ake, .ref aiw, .int (nI kb), .int cp, .int ct, .int dn])), (aps, .inl (cI, 6, .inl ps)), (aln, .inl (cI, 6, .inl ln))] → va_S A s.heap H locs → ∀ (ls : Array Slot), lv_has ls 3 [(2, .int (nI i)), (1, .int (ie_r i ps ln)), (0, .ref am)] → W p l e (headSpec wsX4_isEnded rm_X4_isEnded).room s m ([.ref am] : List Value).toArray below meth cd H locs 0 0 (MQ below (qc_X4_isEnded D cI cL cZ am acs afv atr aln aps ata aro akc akp akm akf aku ake aiw cde c f t kb ed cp ct dn ps ln A) ([.ref am] : List Value).toArray s 0 0 A) (F0 m 4 ls []) := by
    intro n
    induction n with
    | zero => intro i hi hm; exact absurd hm (by omega)
    | succ n ih =>
      intro i hi hm H locs hP hD hS ls hl
      refine lv_iload_n hx hb dX4_isEnded_4 rfl (lv_at hl 0 rfl) ?_
      refine lv_aload_n hx hb dX4_isEnded_5 rfl (lv_at hl 2 rfl) ?_
      refine va_get (D := D) (ci := 5) (v := .int (nI f)) (C := RX4) (T := TX4) (N := 23) hx hb hts iX4 hown hK hP 0 rfl rfl 8 (by decide) wf68 (fun _ h9 => h9) rfl dX4_isEnded_6 ?_
      refine lv_icmp_ge (tgt := 43) hx hb dX4_isEnded_9 (by decide) (fun c_9 => ?_) (fun c_9 => ?_)
      · have h1 : f ≤ i := (nI_leI (by omega) (by omega)).mp c_9
        have h2 : i = f := by omega
        refine lv_iload_n hx hb dX4_isEnded_43 rfl (lv_at hl 1 rfl) ?_
        have hP9 := hP.sub (ws' := [(am, .inr (5, [.int cde, .ref acs, .ref afv, .ref atr, .ref aln, .ref aps, .ref ata, .int (nI c), .int (nI f), .int (nI t), .int ed, .ref aro, .ref akc, .ref akp, .ref akm, .ref akf, .ref aku, .ref ake, .ref aiw, .int (nI kb), .int cp, .int ct, .int dn])), (aps, .inl (cI, 6, .inl ps)), (aln, .inl (cI, 6, .inl ln))]) [0, 1, 2] rfl
        have hD9 := hD.sub (ws' := [(am, .inr (5, [.int cde, .ref acs, .ref afv, .ref atr, .ref aln, .ref aps, .ref ata, .int (nI c), .int (nI f), .int (nI t), .int ed, .ref aro, .ref akc, .ref akp, .ref akm, .ref akf, .ref aku, .ref ake, .ref aiw, .int (nI kb), .int cp, .int ct, .int dn])), (aps, .inl (cI, 6, .inl ps)), (aln, .inl (cI, 6, .inl ln))]) [0, 1, 2] (by decide) rfl
        refine W.widen (k := 0) (n := 0) (Nat.le_of_ble_eq_true rfl) (Nat.le_of_ble_eq_true rfl) ?_
        exact W.zret (v := (ie_r i ps ln)) hx hb hr (ie_nar _ _ _) (fun t9 ht9 hW9 => ⟨⟨(ie_r i ps ln), (), rfl, by rw [h2], by rw [ht9]; exact hP9, va_K.moved hW9.alike hK, hD9⟩, hS.F ht9⟩) hS.2.2 dX4_isEnded_44
      · have h1 : ¬ f ≤ i := fun h => c_9 ((nI_leI (by omega) (by omega)).mpr h)
        refine lv_iload_n hx hb dX4_isEnded_12 rfl (lv_at hl 1 rfl) ?_
        refine lv_if_eq (tgt := 35) hx hb dX4_isEnded_13 (by decide) (fun c_13 => ?_) (fun c_13 => ?_)
        · refine lv_iconst (v := 0) hx hb dX4_isEnded_35 (by decide) ?_
          refine ct_topi (y := (ie_r (i + 1) ps ln)) (ie_s0 c_13) ?_
          refine lv_istore_n (lv' := [(1, .int (ie_r (i + 1) ps ln)), (2, .int (nI i)), (0, .ref am)]) hx hb dX4_isEnded_36 rfl hl (by decide) rfl (fun ls hl => ?_)
          refine lv_iinc (v := (nI (i + 1))) (lv' := [(2, .int (nI (i + 1))), (1, .int (ie_r (i + 1) ps ln)), (0, .ref am)]) hx hb dX4_isEnded_37 hl (k := 1) rfl (nI_1 i) (by decide) rfl (fun ls hl => ?_)
          refine lv_goto (tgt := 4) hx hb dX4_isEnded_40 (by decide) ?_
          exact ih ((i + 1)) (by omega) (by omega) _ _ (hP.sub [0, 1, 2] rfl) (hD.sub [0, 1, 2] (by decide) rfl) hS ls (lv_sub hl [0, 1, 2] rfl)
        · refine lv_aload_n hx hb dX4_isEnded_16 rfl (lv_at hl 2 rfl) ?_
          refine va_get (D := D) (ci := 5) (v := .ref aps) (C := RX4) (T := TX4) (N := 23) hx hb hts iX4 hown hK hP 0 rfl rfl 5 (by decide) wf23 (fun _ h9 => h9) rfl dX4_isEnded_17 ?_
          refine lv_iload_n hx hb dX4_isEnded_20 rfl (lv_at hl 0 rfl) ?_
          refine ct_iald (k := i) hx hb hK hP 1 0 rfl rfl (by omega) (by decide) dX4_isEnded_21 ?_
          refine lv_aload_n hx hb dX4_isEnded_22 rfl (lv_at hl 2 rfl) ?_
          refine va_get (D := D) (ci := 5) (v := .ref aln) (C := RX4) (T := TX4) (N := 23) hx hb hts iX4 hown hK hP 0 rfl rfl 4 (by decide) wf19 (fun _ h9 => h9) rfl dX4_isEnded_23 ?_
          refine lv_iload_n hx hb dX4_isEnded_26 rfl (lv_at hl 0 rfl) ?_
          refine ct_iald (k := i) hx hb hK hP 2 0 rfl rfl (by omega) (by decide) dX4_isEnded_27 ?_
          refine lv_icmp_lt (tgt := 35) hx hb dX4_isEnded_28 (by decide) (fun c_28 => ?_) (fun c_28 => ?_)
          · refine lv_iconst (v := 0) hx hb dX4_isEnded_35 (by decide) ?_
            refine ct_topi (y := (ie_r (i + 1) ps ln)) (ie_s1 c_28) ?_
            refine lv_istore_n (lv' := [(1, .int (ie_r (i + 1) ps ln)), (2, .int (nI i)), (0, .ref am)]) hx hb dX4_isEnded_36 rfl hl (by decide) rfl (fun ls hl => ?_)
            refine lv_iinc (v := (nI (i + 1))) (lv' := [(2, .int (nI (i + 1))), (1, .int (ie_r (i + 1) ps ln)), (0, .ref am)]) hx hb dX4_isEnded_37 hl (k := 1) rfl (nI_1 i) (by decide) rfl (fun ls hl => ?_)
            refine lv_goto (tgt := 4) hx hb dX4_isEnded_40 (by decide) ?_
            exact ih ((i + 1)) (by omega) (by omega) _ _ (hP.sub [0, 1, 2] rfl) (hD.sub [0, 1, 2] (by decide) rfl) hS ls (lv_sub hl [0, 1, 2] rfl)
          · refine lv_iconst (v := 1) hx hb dX4_isEnded_31 (by decide) ?_
            refine lv_goto (tgt := 36) hx hb dX4_isEnded_32 (by decide) ?_
            refine ct_topi (y := (ie_r (i + 1) ps ln)) (ie_s2 c_13 c_28) ?_
            refine lv_istore_n (lv' := [(1, .int (ie_r (i + 1) ps ln)), (2, .int (nI i)), (0, .ref am)]) hx hb dX4_isEnded_36 rfl hl (by decide) rfl (fun ls hl => ?_)
            refine lv_iinc (v := (nI (i + 1))) (lv' := [(2, .int (nI (i + 1))), (1, .int (ie_r (i + 1) ps ln)), (0, .ref am)]) hx hb dX4_isEnded_37 hl (k := 1) rfl (nI_1 i) (by decide) rfl (fun ls hl => ?_)
            refine lv_goto (tgt := 4) hx hb dX4_isEnded_40 (by decide) ?_
            exact ih ((i + 1)) (by omega) (by omega) _ _ (hP.sub [0, 1, 2] rfl) (hD.sub [0, 1, 2] (by decide) rfl) hS ls (lv_sub hl [0, 1, 2] rfl)
  refine lv_iconst (v := 1) hx hb dX4_isEnded_0 (by decide) ?_
  refine ct_topi (y := (ie_r 0 ps ln)) ((ie_yes (fun j hj => absurd hj (Nat.not_lt_zero j))).symm) ?_
  refine lv_istore_n (lv' := [(1, .int (ie_r 0 ps ln)), (0, .ref am)]) hx hb dX4_isEnded_1 rfl hl (by decide) rfl (fun ls hl => ?_)
  refine lv_iconst (v := 0) hx hb dX4_isEnded_2 (by decide) ?_
  refine lv_istore_n (lv' := [(2, .int 0), (1, .int (ie_r 0 ps ln)), (0, .ref am)]) hx hb dX4_isEnded_3 rfl hl (by decide) rfl (fun ls hl => ?_)
  exact key4 (f + 1) 0 (by omega) (by omega) _ _ (hP.sub [0, 1, 2] rfl) (hD.sub [0, 1, 2] (by decide) rfl) hS ls (lv_sub hl [0, 1, 2] rfl)
abbrev rm_X4_isOver : Room := { frames := 0, cells := 0, slots := 0, locals := 0 }
abbrev qc_X4_isOver (D : va_G) (cI cL cZ : ClassId) (am : Nat) (acs : Nat) (afv : Nat) (atr : Nat) (aln : Nat) (aps : Nat) (ata : Nat) (aro : Nat) (akc : Nat) (akp : Nat) (akm : Nat) (akf : Nat) (aku : Nat) (ake : Nat) (aiw : Nat) (cde : Int32) (c : Nat) (f : Nat) (t : Nat) (kb : Nat) (ed : Int32) (cp : Int32) (ct : Int32) (dn : Int32) (ta : Nat → Int32) (ln : Nat → Int32) (A : Nat → Prop) : Array Value → State → Outcome → State → Prop := va_Qi (fun (r : Int32) (u : Unit) => (ie_r f ta ln) = r) (ct_B D vwCl [(cI, .int), (cL, .long), (cZ, .boolean)] A (fun (u : Unit) => [(am, .inr (5, [.int cde, .ref acs, .ref afv, .ref atr, .ref aln, .ref aps, .ref ata, .int (nI c), .int (nI f), .int (nI t), .int ed, .ref aro, .ref akc, .ref akp, .ref akm, .ref akf, .ref aku, .ref ake, .ref aiw, .int (nI kb), .int cp, .int ct, .int dn])), (ata, .inl (cI, 6, .inl ta)), (aln, .inl (cI, 6, .inl ln))])) A
set_option maxHeartbeats 4000000 in
set_option maxRecDepth 100000 in
theorem c_X4_isOver (l : Launch) (D : va_G) (cI cL cZ : ClassId) (am : Nat) (acs : Nat) (afv : Nat) (atr : Nat) (aln : Nat) (aps : Nat) (ata : Nat) (aro : Nat) (akc : Nat) (akp : Nat) (akm : Nat) (akf : Nat) (aku : Nat) (ake : Nat) (aiw : Nat) (cde : Int32) (c : Nat) (f : Nat) (t : Nat) (kb : Nat) (ed : Int32) (cp : Int32) (ct : Int32) (dn : Int32) (ta : Nat → Int32) (ln : Nat → Int32) (sz : Nat) (hf : f ≤ 6) : Met l yX4_isOver wsX4_isOver rm_X4_isOver (va_Pc [.ref am] (ct_P D vwCl [(cI, .int), (cL, .long), (cZ, .boolean)] [(am, .inr (5, [.int cde, .ref acs, .ref afv, .ref atr, .ref aln, .ref aps, .ref ata, .int (nI c), .int (nI f), .int (nI t), .int ed, .ref aro, .ref akc, .ref akp, .ref akm, .ref akf, .ref aku, .ref ake, .ref aiw, .int (nI kb), .int cp, .int ct, .int dn])), (ata, .inl (cI, 6, .inl ta)), (aln, .inl (cI, 6, .inl ln))] sz)) (qc_X4_isOver D cI cL cZ am acs afv atr aln aps ata aro akc akp akm akf aku ake aiw cde c f t kb ed cp ct dn ta ln (va_A [(am, .inr (5, [.int cde, .ref acs, .ref afv, .ref atr, .ref aln, .ref aps, .ref ata, .int (nI c), .int (nI f), .int (nI t), .int ed, .ref aro, .ref akc, .ref akp, .ref akm, .ref akf, .ref aku, .ref ake, .ref aiw, .int (nI kb), .int cp, .int ct, .int dn])), (ata, .inl (cI, 6, .inl ta)), (aln, .inl (cI, 6, .inl ln))] sz)) 0 0 (va_A [(am, .inr (5, [.int cde, .ref acs, .ref afv, .ref atr, .ref aln, .ref aps, .ref ata, .int (nI c), .int (nI f), .int (nI t), .int ed, .ref aro, .ref akc, .ref akp, .ref akm, .ref akf, .ref aku, .ref ake, .ref aiw, .int (nI kb), .int cp, .int ct, .int dn])), (ata, .inl (cI, 6, .inl ta)), (aln, .inl (cI, 6, .inl ln))] sz) := by
  refine Met.ofW (cc := cX4_isOver) (maxL := 3) (ret := (some .boolean)) (by decide) rfl ?_
  intro p e s m args below meth cd s₁ B hml hv
  obtain ⟨rfl, hsz, hP, hK, hD0⟩ := hv
  have hx := B.exec
  have hb := B.bytes
  have hr := B.returns
  have hts := atoms_spec (ws := wsX4_isOver) B.pre
  have iX4 : ∀ w ∈ wsX40, w ∈ wsX4_isOver := by decide +kernel
  have wf68 := hts (.fieldLink RX4 68 "CheckRestartModel" "files" "I") (by decide +kernel)
  have wf26 := hts (.fieldLink RX4 26 "CheckRestartModel" "trialAt" "[I") (by decide +kernel)
  have wf19 := hts (.fieldLink RX4 19 "CheckRestartModel" "lengths" "[I") (by decide +kernel)
  have hown : s.vm.findClass RX4 = some m.cls := findClass_of_methodNamed B.named
  have hlocks := B.notSynchronized
  subst hsz
  have hD := hD0.self (sz := s.heap.size)
  generalize hAe : va_A [(am, .inr (5, [.int cde, .ref acs, .ref afv, .ref atr, .ref aln, .ref aps, .ref ata, .int (nI c), .int (nI f), .int (nI t), .int ed, .ref aro, .ref akc, .ref akp, .ref akm, .ref akf, .ref aku, .ref ake, .ref aiw, .int (nI kb), .int cp, .int ct, .int dn])), (ata, .inl (cI, 6, .inl ta)), (aln, .inl (cI, 6, .inl ln))] s.heap.size = A at hD ⊢
  have hA : ∀ q : Nat, s.heap.size ≤ q → A q := fun q h => by rw [← hAe]; exact Or.inr h
  have hS : va_S A s.heap s.heap [] := va_S.rf
  have hl := lv_entry ([.ref am]) (n := 3) (Nat.le_of_ble_eq_true rfl)
  rw [lg_entry_eq]
  generalize (lg_sl ([.ref am]) ++ List.replicate (3 - (lg_sl ([.ref am])).length) Slot.unset).toArray = ls at hl ⊢
  have hl : lv_has ls 3 [(0, .ref am)] := hl
  have key4 : ∀ (n : Nat) (i : Nat), (i ≤ f) → (f + 1 ≤ i + n) → ∀ (H : Heap) (locs : List Loc), va_P D vwCl [(am, .inr (5, [.int cde, .ref acs, .ref afv, .ref atr, .ref aln, .ref aps, .ref ata, .int (nI c), .int (nI f), .int (nI t), .int ed, .ref aro, .ref akc, .ref akp, .ref akm, .ref akf, .ref aku, .ref ake, .ref aiw, .int (nI kb), .int cp, .int ct, .int dn])), (ata, .inl (cI, 6, .inl ta)), (aln, .inl (cI, 6, .inl ln))] H → va_D A [(am, .inr (5, [.int cde, .ref acs, .ref afv, .ref atr, .ref aln, .ref aps, .ref ata, .int (nI c), .int (nI f), .int (nI t), .int ed, .ref aro, .ref akc, .ref akp, .ref akm, .ref akf, .ref aku, .ref ake, .ref aiw, .int (nI kb), .int cp, .int ct, .int dn])), (ata, .inl (cI, 6, .inl ta)), (aln, .inl (cI, 6, .inl ln))] → va_S A s.heap H locs → ∀ (ls : Array Slot), lv_has ls 3 [(2, .int (nI i)), (1, .int (ie_r i ta ln)), (0, .ref am)] → W p l e (headSpec wsX4_isOver rm_X4_isOver).room s m ([.ref am] : List Value).toArray below meth cd H locs 0 0 (MQ below (qc_X4_isOver D cI cL cZ am acs afv atr aln aps ata aro akc akp akm akf aku ake aiw cde c f t kb ed cp ct dn ta ln A) ([.ref am] : List Value).toArray s 0 0 A) (F0 m 4 ls []) := by
    intro n
    induction n with
    | zero => intro i hi hm; exact absurd hm (by omega)
    | succ n ih =>
      intro i hi hm H locs hP hD hS ls hl
      refine lv_iload_n hx hb dX4_isOver_4 rfl (lv_at hl 0 rfl) ?_
      refine lv_aload_n hx hb dX4_isOver_5 rfl (lv_at hl 2 rfl) ?_
      refine va_get (D := D) (ci := 5) (v := .int (nI f)) (C := RX4) (T := TX4) (N := 23) hx hb hts iX4 hown hK hP 0 rfl rfl 8 (by decide) wf68 (fun _ h9 => h9) rfl dX4_isOver_6 ?_
      refine lv_icmp_ge (tgt := 43) hx hb dX4_isOver_9 (by decide) (fun c_9 => ?_) (fun c_9 => ?_)
      · have h1 : f ≤ i := (nI_leI (by omega) (by omega)).mp c_9
        have h2 : i = f := by omega
        refine lv_iload_n hx hb dX4_isOver_43 rfl (lv_at hl 1 rfl) ?_
        have hP9 := hP.sub (ws' := [(am, .inr (5, [.int cde, .ref acs, .ref afv, .ref atr, .ref aln, .ref aps, .ref ata, .int (nI c), .int (nI f), .int (nI t), .int ed, .ref aro, .ref akc, .ref akp, .ref akm, .ref akf, .ref aku, .ref ake, .ref aiw, .int (nI kb), .int cp, .int ct, .int dn])), (ata, .inl (cI, 6, .inl ta)), (aln, .inl (cI, 6, .inl ln))]) [0, 1, 2] rfl
        have hD9 := hD.sub (ws' := [(am, .inr (5, [.int cde, .ref acs, .ref afv, .ref atr, .ref aln, .ref aps, .ref ata, .int (nI c), .int (nI f), .int (nI t), .int ed, .ref aro, .ref akc, .ref akp, .ref akm, .ref akf, .ref aku, .ref ake, .ref aiw, .int (nI kb), .int cp, .int ct, .int dn])), (ata, .inl (cI, 6, .inl ta)), (aln, .inl (cI, 6, .inl ln))]) [0, 1, 2] (by decide) rfl
        refine W.widen (k := 0) (n := 0) (Nat.le_of_ble_eq_true rfl) (Nat.le_of_ble_eq_true rfl) ?_
        exact W.zret (v := (ie_r i ta ln)) hx hb hr (ie_nar _ _ _) (fun t9 ht9 hW9 => ⟨⟨(ie_r i ta ln), (), rfl, by rw [h2], by rw [ht9]; exact hP9, va_K.moved hW9.alike hK, hD9⟩, hS.F ht9⟩) hS.2.2 dX4_isOver_44
      · have h1 : ¬ f ≤ i := fun h => c_9 ((nI_leI (by omega) (by omega)).mpr h)
        refine lv_iload_n hx hb dX4_isOver_12 rfl (lv_at hl 1 rfl) ?_
        refine lv_if_eq (tgt := 35) hx hb dX4_isOver_13 (by decide) (fun c_13 => ?_) (fun c_13 => ?_)
        · refine lv_iconst (v := 0) hx hb dX4_isOver_35 (by decide) ?_
          refine ct_topi (y := (ie_r (i + 1) ta ln)) (ie_s0 c_13) ?_
          refine lv_istore_n (lv' := [(1, .int (ie_r (i + 1) ta ln)), (2, .int (nI i)), (0, .ref am)]) hx hb dX4_isOver_36 rfl hl (by decide) rfl (fun ls hl => ?_)
          refine lv_iinc (v := (nI (i + 1))) (lv' := [(2, .int (nI (i + 1))), (1, .int (ie_r (i + 1) ta ln)), (0, .ref am)]) hx hb dX4_isOver_37 hl (k := 1) rfl (nI_1 i) (by decide) rfl (fun ls hl => ?_)
          refine lv_goto (tgt := 4) hx hb dX4_isOver_40 (by decide) ?_
          exact ih ((i + 1)) (by omega) (by omega) _ _ (hP.sub [0, 1, 2] rfl) (hD.sub [0, 1, 2] (by decide) rfl) hS ls (lv_sub hl [0, 1, 2] rfl)
        · refine lv_aload_n hx hb dX4_isOver_16 rfl (lv_at hl 2 rfl) ?_
          refine va_get (D := D) (ci := 5) (v := .ref ata) (C := RX4) (T := TX4) (N := 23) hx hb hts iX4 hown hK hP 0 rfl rfl 6 (by decide) wf26 (fun _ h9 => h9) rfl dX4_isOver_17 ?_
          refine lv_iload_n hx hb dX4_isOver_20 rfl (lv_at hl 0 rfl) ?_
          refine ct_iald (k := i) hx hb hK hP 1 0 rfl rfl (by omega) (by decide) dX4_isOver_21 ?_
          refine lv_aload_n hx hb dX4_isOver_22 rfl (lv_at hl 2 rfl) ?_
          refine va_get (D := D) (ci := 5) (v := .ref aln) (C := RX4) (T := TX4) (N := 23) hx hb hts iX4 hown hK hP 0 rfl rfl 4 (by decide) wf19 (fun _ h9 => h9) rfl dX4_isOver_23 ?_
          refine lv_iload_n hx hb dX4_isOver_26 rfl (lv_at hl 0 rfl) ?_
          refine ct_iald (k := i) hx hb hK hP 2 0 rfl rfl (by omega) (by decide) dX4_isOver_27 ?_
          refine lv_icmp_lt (tgt := 35) hx hb dX4_isOver_28 (by decide) (fun c_28 => ?_) (fun c_28 => ?_)
          · refine lv_iconst (v := 0) hx hb dX4_isOver_35 (by decide) ?_
            refine ct_topi (y := (ie_r (i + 1) ta ln)) (ie_s1 c_28) ?_
            refine lv_istore_n (lv' := [(1, .int (ie_r (i + 1) ta ln)), (2, .int (nI i)), (0, .ref am)]) hx hb dX4_isOver_36 rfl hl (by decide) rfl (fun ls hl => ?_)
            refine lv_iinc (v := (nI (i + 1))) (lv' := [(2, .int (nI (i + 1))), (1, .int (ie_r (i + 1) ta ln)), (0, .ref am)]) hx hb dX4_isOver_37 hl (k := 1) rfl (nI_1 i) (by decide) rfl (fun ls hl => ?_)
            refine lv_goto (tgt := 4) hx hb dX4_isOver_40 (by decide) ?_
            exact ih ((i + 1)) (by omega) (by omega) _ _ (hP.sub [0, 1, 2] rfl) (hD.sub [0, 1, 2] (by decide) rfl) hS ls (lv_sub hl [0, 1, 2] rfl)
          · refine lv_iconst (v := 1) hx hb dX4_isOver_31 (by decide) ?_
            refine lv_goto (tgt := 36) hx hb dX4_isOver_32 (by decide) ?_
            refine ct_topi (y := (ie_r (i + 1) ta ln)) (ie_s2 c_13 c_28) ?_
            refine lv_istore_n (lv' := [(1, .int (ie_r (i + 1) ta ln)), (2, .int (nI i)), (0, .ref am)]) hx hb dX4_isOver_36 rfl hl (by decide) rfl (fun ls hl => ?_)
            refine lv_iinc (v := (nI (i + 1))) (lv' := [(2, .int (nI (i + 1))), (1, .int (ie_r (i + 1) ta ln)), (0, .ref am)]) hx hb dX4_isOver_37 hl (k := 1) rfl (nI_1 i) (by decide) rfl (fun ls hl => ?_)
            refine lv_goto (tgt := 4) hx hb dX4_isOver_40 (by decide) ?_
            exact ih ((i + 1)) (by omega) (by omega) _ _ (hP.sub [0, 1, 2] rfl) (hD.sub [0, 1, 2] (by decide) rfl) hS ls (lv_sub hl [0, 1, 2] rfl)
  refine lv_iconst (v := 1) hx hb dX4_isOver_0 (by decide) ?_
  refine ct_topi (y := (ie_r 0 ta ln)) ((ie_yes (fun j hj => absurd hj (Nat.not_lt_zero j))).symm) ?_
  refine lv_istore_n (lv' := [(1, .int (ie_r 0 ta ln)), (0, .ref am)]) hx hb dX4_isOver_1 rfl hl (by decide) rfl (fun ls hl => ?_)
  refine lv_iconst (v := 0) hx hb dX4_isOver_2 (by decide) ?_
  refine lv_istore_n (lv' := [(2, .int 0), (1, .int (ie_r 0 ta ln)), (0, .ref am)]) hx hb dX4_isOver_3 rfl hl (by decide) rfl (fun ls hl => ?_)
  exact key4 (f + 1) 0 (by omega) (by omega) _ _ (hP.sub [0, 1, 2] rfl) (hD.sub [0, 1, 2] (by decide) rfl) hS ls (lv_sub hl [0, 1, 2] rfl)
