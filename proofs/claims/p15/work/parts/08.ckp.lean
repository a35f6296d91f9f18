abbrev rm_X0_init : Room := { frames := 1, cells := 6, slots := 2200, locals := 12 }
abbrev qc_X0_init (D : va_G) (cI cL cZ : ClassId) (ak : Nat) (A : Nat → Prop) : Array Value → State → Outcome → State → Prop := va_Qv (fun (u : Nat × Nat × Nat × Nat × Nat × Nat) => True) (ct_B D vwCl [(cI, .int), (cL, .long), (cZ, .boolean)] A (fun (u : Nat × Nat × Nat × Nat × Nat × Nat) => [(ak, .inr (1, [.ref u.1, .ref u.2.1, .ref u.2.2.1, .ref u.2.2.2.1, .ref u.2.2.2.2.1, .ref u.2.2.2.2.2, .int 0])), (u.1, .inl (cZ, 100, .inl (fun _ => 0))), (u.2.1, .inl (cI, 100, .inl (fun _ => 0))), (u.2.2.1, .inl (cI, 100, .inl (fun _ => 0))), (u.2.2.2.1, .inl (cI, 100, .inl (fun _ => 0))), (u.2.2.2.2.1, .inl (cL, 1200, .inr (.inl (fun _ => 0)))), (u.2.2.2.2.2, .inl (cI, 600, .inl (fun _ => 0)))])) A
set_option maxHeartbeats 4000000 in
set_option maxRecDepth 100000 in
theorem c_X0_init (l : Launch) (D : va_G) (cI cL cZ : ClassId) (ak : Nat) (sz : Nat)  : Met l yX0_init wsX0_init rm_X0_init (va_Pc [.ref ak] (ct_P D vwCl [(cI, .int), (cL, .long), (cZ, .boolean)] [(ak, .inr (1, [.null, .null, .null, .null, .null, .null, .int 0]))] sz)) (qc_X0_init D cI cL cZ ak (va_A [(ak, .inr (1, [.null, .null, .null, .null, .null, .null, .int 0]))] sz)) 6 2200 (va_A [(ak, .inr (1, [.null, .null, .null, .null, .null, .null, .int 0]))] sz) := by
  refine Met.ofW (cc := cX0_init) (maxL := 1) (ret := none) (by decide) rfl ?_
  intro p e s m args below meth cd s₁ B hml hv
  obtain ⟨rfl, hsz, hP, hK, hD0⟩ := hv
  have hx := B.exec
  have hb := B.bytes
  have hr := B.returns
  have hts := atoms_spec (ws := wsX0_init) B.pre
  have wo1 := hts (.methodLink RX0 3 objectInit) (by decide +kernel)
  have wo2 := hts (.instanceMethod objectInit) (by decide +kernel)
  have wo3 := hts (.code objectInit ⟨#[0xb1]⟩ 1 none) (List.mem_of_getElem? (i := 3) rfl)
  have waboolean := hts (.arrayClass .boolean) (by decide +kernel)
  have iX0 : ∀ w ∈ wsX00, w ∈ wsX0_init := by decide +kernel
  have wf9 := hts (.fieldLink RX0 9 "CheckRestart$Checkpoints" "whole" "[Z") (by decide +kernel)
  have waint := hts (.arrayClass .int) (by decide +kernel)
  have wf15 := hts (.fieldLink RX0 15 "CheckRestart$Checkpoints" "editions" "[I") (by decide +kernel)
  have wf19 := hts (.fieldLink RX0 19 "CheckRestart$Checkpoints" "units" "[I") (by decide +kernel)
  have wf22 := hts (.fieldLink RX0 22 "CheckRestart$Checkpoints" "cellCounts" "[I") (by decide +kernel)
  have walong := hts (.arrayClass .long) (by decide +kernel)
  have wf25 := hts (.fieldLink RX0 25 "CheckRestart$Checkpoints" "cells" "[J") (by decide +kernel)
  have wf29 := hts (.fieldLink RX0 29 "CheckRestart$Checkpoints" "positions" "[I") (by decide +kernel)
  have wf32 := hts (.fieldLink RX0 32 "CheckRestart$Checkpoints" "begun" "I") (by decide +kernel)
  have hown : s.vm.findClass RX0 = some m.cls := findClass_of_methodNamed B.named
  have hlocks := B.notSynchronized
  have hin : meth.name = "<init>" := (name_of_methodNamed B.named B.method).1
  subst hsz
  have hD := hD0.self (sz := s.heap.size)
  generalize hAe : va_A [(ak, .inr (1, [.null, .null, .null, .null, .null, .null, .int 0]))] s.heap.size = A at hD ⊢
  have hA : ∀ q : Nat, s.heap.size ≤ q → A q := fun q h => by rw [← hAe]; exact Or.inr h
  have hS : va_S A s.heap s.heap [] := va_S.rf
  have hl := lv_entry ([.ref ak]) (n := 1) (Nat.le_of_ble_eq_true rfl)
  rw [lg_entry_eq]
  generalize (lg_sl ([.ref ak]) ++ List.replicate (1 - (lg_sl ([.ref ak])).length) Slot.unset).toArray = ls at hl ⊢
  have hl : lv_has ls 1 [(0, .ref ak)] := hl
  refine lv_aload_n hx hb dX0_init_0 rfl (lv_at hl 0 rfl) ?_
  refine W.objInit hx hb hown wo1 wo2 wo3 rfl (by rw [hml]; exact hl.1) rfl dX0_init_1 (Nat.le_of_ble_eq_true rfl) (Nat.le_of_ble_eq_true rfl) ?_
  refine W.eq (g2 := F0 m 4 ls []) rfl ?_
  refine lv_aload_n hx hb dX0_init_4 rfl (lv_at hl 0 rfl) ?_
  refine lv_bipush (v := 100) hx hb dX0_init_5 (by decide) ?_
  refine va_newa (atype := .boolean) (n := 100) (N' := 100) (a0 := (100, .inl (fun _ => 0))) (ty := .boolean) hx hb waboolean rfl hK hP hD hS hA (fun _ => rfl) (by decide) (by decide) (show 100 * 1 ≤ 536870912 by omega) (Nat.le_of_ble_eq_true rfl) (Nat.le_of_ble_eq_true rfl) dX0_init_7 (fun uw cA_1 H hK2 hP hD hS => ?_)
  have ecA_1 : cZ = cA_1 := ct_cls (i := 2) (j := 3) hK2 rfl rfl rfl
  subst ecA_1
  clear hK2
  refine W.widen (k := 1) (n := 100) (by omega) (by omega) ?_
  have hP : va_P D vwCl [(ak, .inr (1, [.null, .null, .null, .null, .null, .null, .int 0])), (uw, .inl (cZ, 100, .inl (fun _ => 0)))] H := hP
  have hD : va_D A [(ak, .inr (1, [.null, .null, .null, .null, .null, .null, .int 0])), (uw, .inl (cZ, 100, .inl (fun _ => 0)))] := hD
  refine va_putF (D := D) (ci := 1) (v := .ref uw) (ty := (.array .boolean)) (C := RX0) (T := TX0) (N := 7) hx hb hts iX0 tyX0 tyX0_ok nmX0 hown hK hP hD hS 0 rfl rfl 0 (by decide) wf9 (fun _ h9 => h9) rfl hin rfl (by decide +kernel) rfl rfl (Nat.le_of_ble_eq_true rfl) dX0_init_9 (fun H locs hP hD hS => ?_)
  have hP : va_P D vwCl [(ak, .inr (1, [.ref uw, .null, .null, .null, .null, .null, .int 0])), (uw, .inl (cZ, 100, .inl (fun _ => 0)))] H := hP
  have hD : va_D A [(ak, .inr (1, [.ref uw, .null, .null, .null, .null, .null, .int 0])), (uw, .inl (cZ, 100, .inl (fun _ => 0)))] := hD
  refine lv_aload_n hx hb dX0_init_12 rfl (lv_at hl 0 rfl) ?_
  refine lv_bipush (v := 100) hx hb dX0_init_13 (by decide) ?_
  refine va_newa (atype := .int) (n := 100) (N' := 100) (a0 := (100, .inl (fun _ => 0))) (ty := .int) hx hb waint rfl hK hP hD hS hA (fun _ => rfl) (by decide) (by decide) (show 100 * 4 ≤ 536870912 by omega) (Nat.le_of_ble_eq_true rfl) (Nat.le_of_ble_eq_true rfl) dX0_init_15 (fun ue cA_2 H hK2 hP hD hS => ?_)
  have ecA_2 : cI = cA_2 := ct_cls (i := 0) (j := 3) hK2 rfl rfl rfl
  subst ecA_2
  clear hK2
  refine W.widen (k := 2) (n := 200) (by omega) (by omega) ?_
  have hP : va_P D vwCl [(ak, .inr (1, [.ref uw, .null, .null, .null, .null, .null, .int 0])), (uw, .inl (cZ, 100, .inl (fun _ => 0))), (ue, .inl (cI, 100, .inl (fun _ => 0)))] H := hP
  have hD : va_D A [(ak, .inr (1, [.ref uw, .null, .null, .null, .null, .null, .int 0])), (uw, .inl (cZ, 100, .inl (fun _ => 0))), (ue, .inl (cI, 100, .inl (fun _ => 0)))] := hD
  refine va_putF (D := D) (ci := 1) (v := .ref ue) (ty := (.array .int)) (C := RX0) (T := TX0) (N := 7) hx hb hts iX0 tyX0 tyX0_ok nmX0 hown hK hP hD hS 0 rfl rfl 1 (by decide) wf15 (fun _ h9 => h9) rfl hin rfl (by decide +kernel) rfl rfl (Nat.le_of_ble_eq_true rfl) dX0_init_17 (fun H locs hP hD hS => ?_)
  have hP : va_P D vwCl [(ak, .inr (1, [.ref uw, .ref ue, .null, .null, .null, .null, .int 0])), (uw, .inl (cZ, 100, .inl (fun _ => 0))), (ue, .inl (cI, 100, .inl (fun _ => 0)))] H := hP
  have hD : va_D A [(ak, .inr (1, [.ref uw, .ref ue, .null, .null, .null, .null, .int 0])), (uw, .inl (cZ, 100, .inl (fun _ => 0))), (ue, .inl (cI, 100, .inl (fun _ => 0)))] := hD
  refine lv_aload_n hx hb dX0_init_20 rfl (lv_at hl 0 rfl) ?_
  refine lv_bipush (v := 100) hx hb dX0_init_21 (by decide) ?_
  refine va_newa (atype := .int) (n := 100) (N' := 100) (a0 := (100, .inl (fun _ => 0))) (ty := .int) hx hb waint rfl hK hP hD hS hA (fun _ => rfl) (by decide) (by decide) (show 100 * 4 ≤ 536870912 by omega) (Nat.le_of_ble_eq_true rfl) (Nat.le_of_ble_eq_true rfl) dX0_init_23 (fun uu cA_3 H hK2 hP hD hS => ?_)
  have ecA_3 : cI = cA_3 := ct_cls (i := 0) (j := 3) hK2 rfl rfl rfl
  subst ecA_3
  clear hK2
  refine W.widen (k := 3) (n := 300) (by omega) (by omega) ?_
  have hP : va_P D vwCl [(ak, .inr (1, [.ref uw, .ref ue, .null, .null, .null, .null, .int 0])), (uw, .inl (cZ, 100, .inl (fun _ => 0))), (ue, .inl (cI, 100, .inl (fun _ => 0))), (uu, .inl (cI, 100, .inl (fun _ => 0)))] H := hP
  have hD : va_D A [(ak, .inr (1, [.ref uw, .ref ue, .null, .null, .null, .null, .int 0])), (uw, .inl (cZ, 100, .inl (fun _ => 0))), (ue, .inl (cI, 100, .inl (fun _ => 0))), (uu, .inl (cI, 100, .inl (fun _ => 0)))] := hD
  refine va_putF (D := D) (ci := 1) (v := .ref uu) (ty := (.array .int)) (C := RX0) (T := TX0) (N := 7) hx hb hts iX0 tyX0 tyX0_ok nmX0 hown hK hP hD hS 0 rfl rfl 2 (by decide) wf19 (fun _ h9 => h9) rfl hin rfl (by decide +kernel) rfl rfl (Nat.le_of_ble_eq_true rfl) dX0_init_25 (fun H locs hP hD hS => ?_)
  have hP : va_P D vwCl [(ak, .inr (1, [.ref uw, .ref ue, .ref uu, .null, .null, .null, .int 0])), (uw, .inl (cZ, 100, .inl (fun _ => 0))), (ue, .inl (cI, 100, .inl (fun _ => 0))), (uu, .inl (cI, 100, .inl (fun _ => 0)))] H := hP
  have hD : va_D A [(ak, .inr (1, [.ref uw, .ref ue, .ref uu, .null, .null, .null, .int 0])), (uw, .inl (cZ, 100, .inl (fun _ => 0))), (ue, .inl (cI, 100, .inl (fun _ => 0))), (uu, .inl (cI, 100, .inl (fun _ => 0)))] := hD
  refine lv_aload_n hx hb dX0_init_28 rfl (lv_at hl 0 rfl) ?_
  refine lv_bipush (v := 100) hx hb dX0_init_29 (by decide) ?_
  refine va_newa (atype := .int) (n := 100) (N' := 100) (a0 := (100, .inl (fun _ => 0))) (ty := .int) hx hb waint rfl hK hP hD hS hA (fun _ => rfl) (by decide) (by decide) (show 100 * 4 ≤ 536870912 by omega) (Nat.le_of_ble_eq_true rfl) (Nat.le_of_ble_eq_true rfl) dX0_init_31 (fun un cA_4 H hK2 hP hD hS => ?_)
  have ecA_4 : cI = cA_4 := ct_cls (i := 0) (j := 3) hK2 rfl rfl rfl
  subst ecA_4
  clear hK2
  refine W.widen (k := 4) (n := 400) (by omega) (by omega) ?_
  have hP : va_P D vwCl [(ak, .inr (1, [.ref uw, .ref ue, .ref uu, .null, .null, .null, .int 0])), (uw, .inl (cZ, 100, .inl (fun _ => 0))), (ue, .inl (cI, 100, .inl (fun _ => 0))), (uu, .inl (cI, 100, .inl (fun _ => 0))), (un, .inl (cI, 100, .inl (fun _ => 0)))] H := hP
  have hD : va_D A [(ak, .inr (1, [.ref uw, .ref ue, .ref uu, .null, .null, .null, .int 0])), (uw, .inl (cZ, 100, .inl (fun _ => 0))), (ue, .inl (cI, 100, .inl (fun _ => 0))), (uu, .inl (cI, 100, .inl (fun _ => 0))), (un, .inl (cI, 100, .inl (fun _ => 0)))] := hD
  refine va_putF (D := D) (ci := 1) (v := .ref un) (ty := (.array .int)) (C := RX0) (T := TX0) (N := 7) hx hb hts iX0 tyX0 tyX0_ok nmX0 hown hK hP hD hS 0 rfl rfl 3 (by decide) wf22 (fun _ h9 => h9) rfl hin rfl (by decide +kernel) rfl rfl (Nat.le_of_ble_eq_true rfl) dX0_init_33 (fun H locs hP hD hS => ?_)
  have hP : va_P D vwCl [(ak, .inr (1, [.ref uw, .ref ue, .ref uu, .ref un, .null, .null, .int 0])), (uw, .inl (cZ, 100, .inl (fun _ => 0))), (ue, .inl (cI, 100, .inl (fun _ => 0))), (uu, .inl (cI, 100, .inl (fun _ => 0))), (un, .inl (cI, 100, .inl (fun _ => 0)))] H := hP
  have hD : va_D A [(ak, .inr (1, [.ref uw, .ref ue, .ref uu, .ref un, .null, .null, .int 0])), (uw, .inl (cZ, 100, .inl (fun _ => 0))), (ue, .inl (cI, 100, .inl (fun _ => 0))), (uu, .inl (cI, 100, .inl (fun _ => 0))), (un, .inl (cI, 100, .inl (fun _ => 0)))] := hD
  refine lv_aload_n hx hb dX0_init_36 rfl (lv_at hl 0 rfl) ?_
  refine lv_sipush (v := 1200) hx hb dX0_init_37 (by decide) ?_
  refine va_newa (atype := .long) (n := 1200) (N' := 1200) (a0 := (1200, .inr (.inl (fun _ => 0)))) (ty := .long) hx hb walong rfl hK hP hD hS hA (fun _ => rfl) (by decide) (by decide) (show 1200 * 8 ≤ 536870912 by omega) (Nat.le_of_ble_eq_true rfl) (Nat.le_of_ble_eq_true rfl) dX0_init_40 (fun uc cA_5 H hK2 hP hD hS => ?_)
  have ecA_5 : cL = cA_5 := ct_cls (i := 1) (j := 3) hK2 rfl rfl rfl
  subst ecA_5
  clear hK2
  refine W.widen (k := 5) (n := 1600) (by omega) (by omega) ?_
  have hP : va_P D vwCl [(ak, .inr (1, [.ref uw, .ref ue, .ref uu, .ref un, .null, .null, .int 0])), (uw, .inl (cZ, 100, .inl (fun _ => 0))), (ue, .inl (cI, 100, .inl (fun _ => 0))), (uu, .inl (cI, 100, .inl (fun _ => 0))), (un, .inl (cI, 100, .inl (fun _ => 0))), (uc, .inl (cL, 1200, .inr (.inl (fun _ => 0))))] H := hP
  have hD : va_D A [(ak, .inr (1, [.ref uw, .ref ue, .ref uu, .ref un, .null, .null, .int 0])), (uw, .inl (cZ, 100, .inl (fun _ => 0))), (ue, .inl (cI, 100, .inl (fun _ => 0))), (uu, .inl (cI, 100, .inl (fun _ => 0))), (un, .inl (cI, 100, .inl (fun _ => 0))), (uc, .inl (cL, 1200, .inr (.inl (fun _ => 0))))] := hD
  refine va_putF (D := D) (ci := 1) (v := .ref uc) (ty := (.array .long)) (C := RX0) (T := TX0) (N := 7) hx hb hts iX0 tyX0 tyX0_ok nmX0 hown hK hP hD hS 0 rfl rfl 4 (by decide) wf25 (fun _ h9 => h9) rfl hin rfl (by decide +kernel) rfl rfl (Nat.le_of_ble_eq_true rfl) dX0_init_42 (fun H locs hP hD hS => ?_)
  have hP : va_P D vwCl [(ak, .inr (1, [.ref uw, .ref ue, .ref uu, .ref un, .ref uc, .null, .int 0])), (uw, .inl (cZ, 100, .inl (fun _ => 0))), (ue, .inl (cI, 100, .inl (fun _ => 0))), (uu, .inl (cI, 100, .inl (fun _ => 0))), (un, .inl (cI, 100, .inl (fun _ => 0))), (uc, .inl (cL, 1200, .inr (.inl (fun _ => 0))))] H := hP
  have hD : va_D A [(ak, .inr (1, [.ref uw, .ref ue, .ref uu, .ref un, .ref uc, .null, .int 0])), (uw, .inl (cZ, 100, .inl (fun _ => 0))), (ue, .inl (cI, 100, .inl (fun _ => 0))), (uu, .inl (cI, 100, .inl (fun _ => 0))), (un, .inl (cI, 100, .inl (fun _ => 0))), (uc, .inl (cL, 1200, .inr (.inl (fun _ => 0))))] := hD
  refine lv_aload_n hx hb dX0_init_45 rfl (lv_at hl 0 rfl) ?_
  refine lv_sipush (v := 600) hx hb dX0_init_46 (by decide) ?_
  refine va_newa (atype := .int) (n := 600) (N' := 600) (a0 := (600, .inl (fun _ => 0))) (ty := .int) hx hb waint rfl hK hP hD hS hA (fun _ => rfl) (by decide) (by decide) (show 600 * 4 ≤ 536870912 by omega) (Nat.le_of_ble_eq_true rfl) (Nat.le_of_ble_eq_true rfl) dX0_init_49 (fun up cA_6 H hK2 hP hD hS => ?_)
  have ecA_6 : cI = cA_6 := ct_cls (i := 0) (j := 3) hK2 rfl rfl rfl
  subst ecA_6
  clear hK2
  refine W.widen (k := 6) (n := 2200) (by omega) (by omega) ?_
  have hP : va_P D vwCl [(ak, .inr (1, [.ref uw, .ref ue, .ref uu, .ref un, .ref uc, .null, .int 0])), (uw, .inl (cZ, 100, .inl (fun _ => 0))), (ue, .inl (cI, 100, .inl (fun _ => 0))), (uu, .inl (cI, 100, .inl (fun _ => 0))), (un, .inl (cI, 100, .inl (fun _ => 0))), (uc, .inl (cL, 1200, .inr (.inl (fun _ => 0)))), (up, .inl (cI, 600, .inl (fun _ => 0)))] H := hP
  have hD : va_D A [(ak, .inr (1, [.ref uw, .ref ue, .ref uu, .ref un, .ref uc, .null, .int 0])), (uw, .inl (cZ, 100, .inl (fun _ => 0))), (ue, .inl (cI, 100, .inl (fun _ => 0))), (uu, .inl (cI, 100, .inl (fun _ => 0))), (un, .inl (cI, 100, .inl (fun _ => 0))), (uc, .inl (cL, 1200, .inr (.inl (fun _ => 0)))), (up, .inl (cI, 600, .inl (fun _ => 0)))] := hD
  refine va_putF (D := D) (ci := 1) (v := .ref up) (ty := (.array .int)) (C := RX0) (T := TX0) (N := 7) hx hb hts iX0 tyX0 tyX0_ok nmX0 hown hK hP hD hS 0 rfl rfl 5 (by decide) wf29 (fun _ h9 => h9) rfl hin rfl (by decide +kernel) rfl rfl (Nat.le_of_ble_eq_true rfl) dX0_init_51 (fun H locs hP hD hS => ?_)
  have hP : va_P D vwCl [(ak, .inr (1, [.ref uw, .ref ue, .ref uu, .ref un, .ref uc, .ref up, .int 0])), (uw, .inl (cZ, 100, .inl (fun _ => 0))), (ue, .inl (cI, 100, .inl (fun _ => 0))), (uu, .inl (cI, 100, .inl (fun _ => 0))), (un, .inl (cI, 100, .inl (fun _ => 0))), (uc, .inl (cL, 1200, .inr (.inl (fun _ => 0)))), (up, .inl (cI, 600, .inl (fun _ => 0)))] H := hP
  have hD : va_D A [(ak, .inr (1, [.ref uw, .ref ue, .ref uu, .ref un, .ref uc, .ref up, .int 0])), (uw, .inl (cZ, 100, .inl (fun _ => 0))), (ue, .inl (cI, 100, .inl (fun _ => 0))), (uu, .inl (cI, 100, .inl (fun _ => 0))), (un, .inl (cI, 100, .inl (fun _ => 0))), (uc, .inl (cL, 1200, .inr (.inl (fun _ => 0)))), (up, .inl (cI, 600, .inl (fun _ => 0)))] := hD
  refine lv_aload_n hx hb dX0_init_54 rfl (lv_at hl 0 rfl) ?_
  refine lv_iconst (v := 0) hx hb dX0_init_55 (by decide) ?_
  refine va_put (D := D) (ci := 1) (v := .int 0) (ty := .int) (C := RX0) (T := TX0) (N := 7) hx hb hts iX0 tyX0 tyX0_ok nmX0 hown hK hP hD hS 0 rfl rfl 6 (by decide) wf32 (fun _ h9 => h9) rfl (by decide +kernel) rfl rfl (Nat.le_of_ble_eq_true rfl) dX0_init_56 (fun H locs hP hD hS => ?_)
  have hP : va_P D vwCl [(ak, .inr (1, [.ref uw, .ref ue, .ref uu, .ref un, .ref uc, .ref up, .int 0])), (uw, .inl (cZ, 100, .inl (fun _ => 0))), (ue, .inl (cI, 100, .inl (fun _ => 0))), (uu, .inl (cI, 100, .inl (fun _ => 0))), (un, .inl (cI, 100, .inl (fun _ => 0))), (uc, .inl (cL, 1200, .inr (.inl (fun _ => 0)))), (up, .inl (cI, 600, .inl (fun _ => 0)))] H := hP
  have hD : va_D A [(ak, .inr (1, [.ref uw, .ref ue, .ref uu, .ref un, .ref uc, .ref up, .int 0])), (uw, .inl (cZ, 100, .inl (fun _ => 0))), (ue, .inl (cI, 100, .inl (fun _ => 0))), (uu, .inl (cI, 100, .inl (fun _ => 0))), (un, .inl (cI, 100, .inl (fun _ => 0))), (uc, .inl (cL, 1200, .inr (.inl (fun _ => 0)))), (up, .inl (cI, 600, .inl (fun _ => 0)))] := hD
  have hP9 := hP.sub (ws' := [(ak, .inr (1, [.ref uw, .ref ue, .ref uu, .ref un, .ref uc, .ref up, .int 0])), (uw, .inl (cZ, 100, .inl (fun _ => 0))), (ue, .inl (cI, 100, .inl (fun _ => 0))), (uu, .inl (cI, 100, .inl (fun _ => 0))), (un, .inl (cI, 100, .inl (fun _ => 0))), (uc, .inl (cL, 1200, .inr (.inl (fun _ => 0)))), (up, .inl (cI, 600, .inl (fun _ => 0)))]) [0, 1, 2, 3, 4, 5, 6] rfl
  have hD9 := hD.sub (ws' := [(ak, .inr (1, [.ref uw, .ref ue, .ref uu, .ref un, .ref uc, .ref up, .int 0])), (uw, .inl (cZ, 100, .inl (fun _ => 0))), (ue, .inl (cI, 100, .inl (fun _ => 0))), (uu, .inl (cI, 100, .inl (fun _ => 0))), (un, .inl (cI, 100, .inl (fun _ => 0))), (uc, .inl (cL, 1200, .inr (.inl (fun _ => 0)))), (up, .inl (cI, 600, .inl (fun _ => 0)))]) [0, 1, 2, 3, 4, 5, 6] (by decide) rfl
  refine W.widen (k := 6) (n := 2200) (Nat.le_of_ble_eq_true rfl) (Nat.le_of_ble_eq_true rfl) ?_
  exact W.vret hx hb hr (fun t9 ht9 hW9 => ⟨⟨(uw, ue, uu, un, uc, up), rfl, trivial, by rw [ht9]; exact hP9, va_K.moved hW9.alike hK, hD9⟩, hS.F ht9⟩) hS.2.2 dX0_init_59
abbrev rm_X0_has : Room := { frames := 0, cells := 0, slots := 0, locals := 0 }
abbrev qc_X0_has (D : va_G) (cI cL cZ : ClassId) (ak : Nat) (akw : Nat) (ake : Nat) (aku : Nat) (akn : Nat) (akc : Nat) (akp : Nat) (kb : Nat) (x : Int32) (A : Nat → Prop) : Array Value → State → Outcome → State → Prop := va_Qi (fun (r : Int32) (u : Unit) => ((if x < 1 ∨ nI kb < x then 0 else 1) = r)) (ct_B D vwCl [(cI, .int), (cL, .long), (cZ, .boolean)] A (fun (u : Unit) => [(ak, .inr (1, [.ref akw, .ref ake, .ref aku, .ref akn, .ref akc, .ref akp, .int (nI kb)]))])) A
set_option maxHeartbeats 4000000 in
set_option maxRecDepth 100000 in
theorem c_X0_has (l : Launch) (D : va_G) (cI cL cZ : ClassId) (ak : Nat) (akw : Nat) (ake : Nat) (aku : Nat) (akn : Nat) (akc : Nat) (akp : Nat) (kb : Nat) (x : Int32) (sz : Nat)  : Met l yX0_has wsX0_has rm_X0_has (va_Pc [.ref ak, .int x] (ct_P D vwCl [(cI, .int), (cL, .long), (cZ, .boolean)] [(ak, .inr (1, [.ref akw, .ref ake, .ref aku, .ref akn, .ref akc, .ref akp, .int (nI kb)]))] sz)) (qc_X0_has D cI cL cZ ak akw ake aku akn akc akp kb x (va_A [(ak, .inr (1, [.ref akw, .ref ake, .ref aku, .ref akn, .ref akc, .ref akp, .int (nI kb)]))] sz)) 0 0 (va_A [(ak, .inr (1, [.ref akw, .ref ake, .ref aku, .ref akn, .ref akc, .ref akp, .int (nI kb)]))] sz) := by
  refine Met.ofW (cc := cX0_has) (maxL := 2) (ret := (some .boolean)) (by decide) rfl ?_
  intro p e s m args below meth cd s₁ B hml hv
  obtain ⟨rfl, hsz, hP, hK, hD0⟩ := hv
  have hx := B.exec
  have hb := B.bytes
  have hr := B.returns
  have hts := atoms_spec (ws := wsX0_has) B.pre
  have iX0 : ∀ w ∈ wsX00, w ∈ wsX0_has := by decide +kernel
  have wf32 := hts (.fieldLink RX0 32 "CheckRestart$Checkpoints" "begun" "I") (by decide +kernel)
  have hown : s.vm.findClass RX0 = some m.cls := findClass_of_methodNamed B.named
  have hlocks := B.notSynchronized
  subst hsz
  have hD := hD0.self (sz := s.heap.size)
  generalize hAe : va_A [(ak, .inr (1, [.ref akw, .ref ake, .ref aku, .ref akn, .ref akc, .ref akp, .int (nI kb)]))] s.heap.size = A at hD ⊢
  have hA : ∀ q : Nat, s.heap.size ≤ q → A q := fun q h => by rw [← hAe]; exact Or.inr h
  have hS : va_S A s.heap s.heap [] := va_S.rf
  have hl := lv_entry ([.ref ak, .int x]) (n := 2) (Nat.le_of_ble_eq_true rfl)
  rw [lg_entry_eq]
  generalize (lg_sl ([.ref ak, .int x]) ++ List.replicate (2 - (lg_sl ([.ref ak, .int x])).length) Slot.unset).toArray = ls at hl ⊢
  have hl : lv_has ls 2 [(0, .ref ak), (1, .int x)] := hl
  refine lv_iload_n hx hb dX0_has_0 rfl (lv_at hl 1 rfl) ?_
  refine lv_iconst (v := 1) hx hb dX0_has_1 (by decide) ?_
  refine lv_icmp_lt (tgt := 17) hx hb dX0_has_2 (by decide) (fun c_2 => ?_) (fun c_2 => ?_)
  · refine lv_iconst (v := 0) hx hb dX0_has_17 (by decide) ?_
    have hP9 := hP.sub (ws' := [(ak, .inr (1, [.ref akw, .ref ake, .ref aku, .ref akn, .ref akc, .ref akp, .int (nI kb)]))]) [0] rfl
    have hD9 := hD.sub (ws' := [(ak, .inr (1, [.ref akw, .ref ake, .ref aku, .ref akn, .ref akc, .ref akp, .int (nI kb)]))]) [0] (by decide) rfl
    refine W.widen (k := 0) (n := 0) (Nat.le_of_ble_eq_true rfl) (Nat.le_of_ble_eq_true rfl) ?_
    exact W.zret (v := 0) hx hb hr (rfl) (fun t9 ht9 hW9 => ⟨⟨0, (), rfl, by first | rfl | (simp [c_2]; done), by rw [ht9]; exact hP9, va_K.moved hW9.alike hK, hD9⟩, hS.F ht9⟩) hS.2.2 dX0_has_18
  · refine lv_iload_n hx hb dX0_has_5 rfl (lv_at hl 1 rfl) ?_
    refine lv_aload_n hx hb dX0_has_6 rfl (lv_at hl 0 rfl) ?_
    refine va_get (D := D) (ci := 1) (v := .int (nI kb)) (C := RX0) (T := TX0) (N := 7) hx hb hts iX0 hown hK hP 0 rfl rfl 6 (by decide) wf32 (fun _ h9 => h9) rfl dX0_has_7 ?_
    refine lv_icmp_gt (tgt := 17) hx hb dX0_has_10 (by decide) (fun c_10 => ?_) (fun c_10 => ?_)
    · refine lv_iconst (v := 0) hx hb dX0_has_17 (by decide) ?_
      have hP9 := hP.sub (ws' := [(ak, .inr (1, [.ref akw, .ref ake, .ref aku, .ref akn, .ref akc, .ref akp, .int (nI kb)]))]) [0] rfl
      have hD9 := hD.sub (ws' := [(ak, .inr (1, [.ref akw, .ref ake, .ref aku, .ref akn, .ref akc, .ref akp, .int (nI kb)]))]) [0] (by decide) rfl
      refine W.widen (k := 0) (n := 0) (Nat.le_of_ble_eq_true rfl) (Nat.le_of_ble_eq_true rfl) ?_
      exact W.zret (v := 0) hx hb hr (rfl) (fun t9 ht9 hW9 => ⟨⟨0, (), rfl, by first | rfl | (simp [c_2, c_10]; done), by rw [ht9]; exact hP9, va_K.moved hW9.alike hK, hD9⟩, hS.F ht9⟩) hS.2.2 dX0_has_18
    · refine lv_iconst (v := 1) hx hb dX0_has_13 (by decide) ?_
      refine lv_goto (tgt := 18) hx hb dX0_has_14 (by decide) ?_
      have hP9 := hP.sub (ws' := [(ak, .inr (1, [.ref akw, .ref ake, .ref aku, .ref akn, .ref akc, .ref akp, .int (nI kb)]))]) [0] rfl
      have hD9 := hD.sub (ws' := [(ak, .inr (1, [.ref akw, .ref ake, .ref aku, .ref akn, .ref akc, .ref akp, .int (nI kb)]))]) [0] (by decide) rfl
      refine W.widen (k := 0) (n := 0) (Nat.le_of_ble_eq_true rfl) (Nat.le_of_ble_eq_true rfl) ?_
      exact W.zret (v := 1) hx hb hr (rfl) (fun t9 ht9 hW9 => ⟨⟨1, (), rfl, by first | rfl | (simp [c_2, c_10]; done), by rw [ht9]; exact hP9, va_K.moved hW9.alike hK, hD9⟩, hS.F ht9⟩) hS.2.2 dX0_has_18
abbrev rm_X0_addTorn : Room := { frames := 0, cells := 0, slots := 0, locals := 0 }
abbrev qc_X0_addTorn (D : va_G) (cI cL cZ : ClassId) (ak : Nat) (akw : Nat) (ake : Nat) (aku : Nat) (akn : Nat) (akc : Nat) (akp : Nat) (kw : Nat → Int32) (kb : Nat) (A : Nat → Prop) : Array Value → State → Outcome → State → Prop := va_Qv (fun (u : Unit) => True) (ct_B D vwCl [(cI, .int), (cL, .long), (cZ, .boolean)] A (fun (u : Unit) => [(ak, .inr (1, [.ref akw, .ref ake, .ref aku, .ref akn, .ref akc, .ref akp, .int (nI (kb + 1))])), (akw, .inl (cZ, 100, .inl (upd kw kb 0)))])) A
set_option maxHeartbeats 4000000 in
set_option maxRecDepth 100000 in
theorem c_X0_addTorn (l : Launch) (D : va_G) (cI cL cZ : ClassId) (ak : Nat) (akw : Nat) (ake : Nat) (aku : Nat) (akn : Nat) (akc : Nat) (akp : Nat) (kw : Nat → Int32) (kb : Nat) (sz : Nat) (hk : kb < 100) : Met l yX0_addTorn wsX0_addTorn rm_X0_addTorn (va_Pc [.ref ak] (ct_P D vwCl [(cI, .int), (cL, .long), (cZ, .boolean)] [(ak, .inr (1, [.ref akw, .ref ake, .ref aku, .ref akn, .ref akc, .ref akp, .int (nI kb)])), (akw, .inl (cZ, 100, .inl kw))] sz)) (qc_X0_addTorn D cI cL cZ ak akw ake aku akn akc akp kw kb (va_A [(ak, .inr (1, [.ref akw, .ref ake, .ref aku, .ref akn, .ref akc, .ref akp, .int (nI kb)])), (akw, .inl (cZ, 100, .inl kw))] sz)) 0 0 (va_A [(ak, .inr (1, [.ref akw, .ref ake, .ref aku, .ref akn, .ref akc, .ref akp, .int (nI kb)])), (akw, .inl (cZ, 100, .inl kw))] sz) := by
  refine Met.ofW (cc := cX0_addTorn) (maxL := 1) (ret := none) (by decide) rfl ?_
  intro p e s m args below meth cd s₁ B hml hv
  obtain ⟨rfl, hsz, hP, hK, hD0⟩ := hv
  have hx := B.exec
  have hb := B.bytes
  have hr := B.returns
  have hts := atoms_spec (ws := wsX0_addTorn) B.pre
  have iX0 : ∀ w ∈ wsX00, w ∈ wsX0_addTorn := by decide +kernel
  have wf32 := hts (.fieldLink RX0 32 "CheckRestart$Checkpoints" "begun" "I") (by decide +kernel)
  have wf9 := hts (.fieldLink RX0 9 "CheckRestart$Checkpoints" "whole" "[Z") (by decide +kernel)
  have hown : s.vm.findClass RX0 = some m.cls := findClass_of_methodNamed B.named
  have hlocks := B.notSynchronized
  subst hsz
  have hD := hD0.self (sz := s.heap.size)
  generalize hAe : va_A [(ak, .inr (1, [.ref akw, .ref ake, .ref aku, .ref akn, .ref akc, .ref akp, .int (nI kb)])), (akw, .inl (cZ, 100, .inl kw))] s.heap.size = A at hD ⊢
  have hA : ∀ q : Nat, s.heap.size ≤ q → A q := fun q h => by rw [← hAe]; exact Or.inr h
  have hS : va_S A s.heap s.heap [] := va_S.rf
  have hl := lv_entry ([.ref ak]) (n := 1) (Nat.le_of_ble_eq_true rfl)
  rw [lg_entry_eq]
  generalize (lg_sl ([.ref ak]) ++ List.replicate (1 - (lg_sl ([.ref ak])).length) Slot.unset).toArray = ls at hl ⊢
  have hl : lv_has ls 1 [(0, .ref ak)] := hl
  refine lv_aload_n hx hb dX0_addTorn_0 rfl (lv_at hl 0 rfl) ?_
  refine va_get (D := D) (ci := 1) (v := .int (nI kb)) (C := RX0) (T := TX0) (N := 7) hx hb hts iX0 hown hK hP 0 rfl rfl 6 (by decide) wf32 (fun _ h9 => h9) rfl dX0_addTorn_1 ?_
  refine lv_bipush (v := 100) hx hb dX0_addTorn_4 (by decide) ?_
  refine lv_icmp_lt (tgt := 10) hx hb dX0_addTorn_6 (by decide) (fun c_6 => ?_) (fun c_6 => ?_)
  · refine lv_aload_n hx hb dX0_addTorn_10 rfl (lv_at hl 0 rfl) ?_
    refine va_get (D := D) (ci := 1) (v := .ref akw) (C := RX0) (T := TX0) (N := 7) hx hb hts iX0 hown hK hP 0 rfl rfl 0 (by decide) wf9 (fun _ h9 => h9) rfl dX0_addTorn_11 ?_
    refine lv_aload_n hx hb dX0_addTorn_14 rfl (lv_at hl 0 rfl) ?_
    refine va_get (D := D) (ci := 1) (v := .int (nI kb)) (C := RX0) (T := TX0) (N := 7) hx hb hts iX0 hown hK hP 0 rfl rfl 6 (by decide) wf32 (fun _ h9 => h9) rfl dX0_addTorn_15 ?_
    refine lv_iconst (v := 0) hx hb dX0_addTorn_18 (by decide) ?_
    refine ct_zast (k := kb) hx hb hK hP hD hS 1 2 rfl rfl (rfl) (by omega) (by decide) dX0_addTorn_19 (fun H locs hP hD hS => ?_)
    have hP : va_P D vwCl [(ak, .inr (1, [.ref akw, .ref ake, .ref aku, .ref akn, .ref akc, .ref akp, .int (nI kb)])), (akw, .inl (cZ, 100, .inl (upd kw kb 0)))] H := hP
    have hD : va_D A [(ak, .inr (1, [.ref akw, .ref ake, .ref aku, .ref akn, .ref akc, .ref akp, .int (nI kb)])), (akw, .inl (cZ, 100, .inl (upd kw kb 0)))] := hD
    refine lv_aload_n hx hb dX0_addTorn_20 rfl (lv_at hl 0 rfl) ?_
    refine lv_dup hx hb dX0_addTorn_21 rfl ?_
    refine va_get (D := D) (ci := 1) (v := .int (nI kb)) (C := RX0) (T := TX0) (N := 7) hx hb hts iX0 hown hK hP 0 rfl rfl 6 (by decide) wf32 (fun _ h9 => h9) rfl dX0_addTorn_22 ?_
    refine lv_iconst (v := 1) hx hb dX0_addTorn_25 (by decide) ?_
    refine lv_iadd hx hb dX0_addTorn_26 ?_
    refine ct_topi (y := (nI (kb + 1))) (nI_1 kb) ?_
    refine va_put (D := D) (ci := 1) (v := .int (nI (kb + 1))) (ty := .int) (C := RX0) (T := TX0) (N := 7) hx hb hts iX0 tyX0 tyX0_ok nmX0 hown hK hP hD hS 0 rfl rfl 6 (by decide) wf32 (fun _ h9 => h9) rfl (by decide +kernel) rfl rfl (Nat.le_of_ble_eq_true rfl) dX0_addTorn_27 (fun H locs hP hD hS => ?_)
    have hP : va_P D vwCl [(ak, .inr (1, [.ref akw, .ref ake, .ref aku, .ref akn, .ref akc, .ref akp, .int (nI (kb + 1))])), (akw, .inl (cZ, 100, .inl (upd kw kb 0)))] H := hP
    have hD : va_D A [(ak, .inr (1, [.ref akw, .ref ake, .ref aku, .ref akn, .ref akc, .ref akp, .int (nI (kb + 1))])), (akw, .inl (cZ, 100, .inl (upd kw kb 0)))] := hD
    have hP9 := hP.sub (ws' := [(ak, .inr (1, [.ref akw, .ref ake, .ref aku, .ref akn, .ref akc, .ref akp, .int (nI (kb + 1))])), (akw, .inl (cZ, 100, .inl (upd kw kb 0)))]) [0, 1] rfl
    have hD9 := hD.sub (ws' := [(ak, .inr (1, [.ref akw, .ref ake, .ref aku, .ref akn, .ref akc, .ref akp, .int (nI (kb + 1))])), (akw, .inl (cZ, 100, .inl (upd kw kb 0)))]) [0, 1] (by decide) rfl
    refine W.widen (k := 0) (n := 0) (Nat.le_of_ble_eq_true rfl) (Nat.le_of_ble_eq_true rfl) ?_
    exact W.vret hx hb hr (fun t9 ht9 hW9 => ⟨⟨(), rfl, trivial, by rw [ht9]; exact hP9, va_K.moved hW9.alike hK, hD9⟩, hS.F ht9⟩) hS.2.2 dX0_addTorn_30
  · exact absurd c_6 (fun h => h (nI_lt (a := kb) (b := 100) (by omega) (by omega)))
abbrev rm_X0_addWhole : Room := { frames := 1, cells := 0, slots := 0, locals := 40 }
abbrev qc_X0_addWhole (D : va_G) (cI cL cZ : ClassId) (ak : Nat) (akw : Nat) (ake : Nat) (aku : Nat) (akn : Nat) (akc : Nat) (akp : Nat) (kw : Nat → Int32) (ke : Nat → Int32) (ku : Nat → Int32) (kn : Nat → Int32) (kc : Nat → Int64) (kp : Nat → Int32) (ap : Nat) (apc : Nat) (app : Nat) (cs : Nat → Int64) (ps : Nat → Int32) (aj : Nat) (af : Nat) (al : Nat) (c : Nat) (f : Nat) (t : Nat) (kb : Nat) (e0 : Int32) (A : Nat → Prop) : Array Value → State → Outcome → State → Prop := va_Qv (fun (u : Unit) => True) (ct_B D vwCl [(cI, .int), (cL, .long), (cZ, .boolean)] A (fun (u : Unit) => [(ak, .inr (1, [.ref akw, .ref ake, .ref aku, .ref akn, .ref akc, .ref akp, .int (nI (kb + 1))])), (akw, .inl (cZ, 100, .inl (upd kw kb 1))), (ake, .inl (cI, 100, .inl (upd ke kb e0))), (aku, .inl (cI, 100, .inl (upd ku kb (nI t)))), (akn, .inl (cI, 100, .inl (upd kn kb (nI c)))), (akc, .inl (cL, 1200, .inr (.inl (va_cpy cs kc 0 (kb * 12) 12)))), (akp, .inl (cI, 600, .inl (va_cpy ps kp 0 (kb * 6) 6))), (ap, .inr (3, [.ref aj, .ref apc, .ref app, .int (nI t)])), (apc, .inl (cL, 12, .inr (.inl cs))), (app, .inl (cI, 6, .inl ps)), (aj, .inr (2, [.ref af, .ref al, .int (nI c), .int (nI f)]))])) A
set_option maxHeartbeats 4000000 in
set_option maxRecDepth 100000 in
theorem c_X0_addWhole (l : Launch) (D : va_G) (cI cL cZ : ClassId) (ak : Nat) (akw : Nat) (ake : Nat) (aku : Nat) (akn : Nat) (akc : Nat) (akp : Nat) (kw : Nat → Int32) (ke : Nat → Int32) (ku : Nat → Int32) (kn : Nat → Int32) (kc : Nat → Int64) (kp : Nat → Int32) (ap : Nat) (apc : Nat) (app : Nat) (cs : Nat → Int64) (ps : Nat → Int32) (aj : Nat) (af : Nat) (al : Nat) (c : Nat) (f : Nat) (t : Nat) (kb : Nat) (e0 : Int32) (sz : Nat) (hk : kb < 100) : Met l yX0_addWhole wsX0_addWhole rm_X0_addWhole (va_Pc [.ref ak, .ref ap, .int e0] (ct_P D vwCl [(cI, .int), (cL, .long), (cZ, .boolean)] [(ak, .inr (1, [.ref akw, .ref ake, .ref aku, .ref akn, .ref akc, .ref akp, .int (nI kb)])), (akw, .inl (cZ, 100, .inl kw)), (ake, .inl (cI, 100, .inl ke)), (aku, .inl (cI, 100, .inl ku)), (akn, .inl (cI, 100, .inl kn)), (akc, .inl (cL, 1200, .inr (.inl kc))), (akp, .inl (cI, 600, .inl kp)), (ap, .inr (3, [.ref aj, .ref apc, .ref app, .int (nI t)])), (apc, .inl (cL, 12, .inr (.inl cs))), (app, .inl (cI, 6, .inl ps)), (aj, .inr (2, [.ref af, .ref al, .int (nI c), .int (nI f)]))] sz)) (qc_X0_addWhole D cI cL cZ ak akw ake aku akn akc akp kw ke ku kn kc kp ap apc app cs ps aj af al c f t kb e0 (va_A [(ak, .inr (1, [.ref akw, .ref ake, .ref aku, .ref akn, .ref akc, .ref akp, .int (nI kb)])), (akw, .inl (cZ, 100, .inl kw)), (ake, .inl (cI, 100, .inl ke)), (aku, .inl (cI, 100, .inl ku)), (akn, .inl (cI, 100, .inl kn)), (akc, .inl (cL, 1200, .inr (.inl kc))), (akp, .inl (cI, 600, .inl kp)), (ap, .inr (3, [.ref aj, .ref apc, .ref app, .int (nI t)])), (apc, .inl (cL, 12, .inr (.inl cs))), (app, .inl (cI, 6, .inl ps)), (aj, .inr (2, [.ref af, .ref al, .int (nI c), .int (nI f)]))] sz)) 0 0 (va_A [(ak, .inr (1, [.ref akw, .ref ake, .ref aku, .ref akn, .ref akc, .ref akp, .int (nI kb)])), (akw, .inl (cZ, 100, .inl kw)), (ake, .inl (cI, 100, .inl ke)), (aku, .inl (cI, 100, .inl ku)), (akn, .inl (cI, 100, .inl kn)), (akc, .inl (cL, 1200, .inr (.inl kc))), (akp, .inl (cI, 600, .inl kp)), (ap, .inr (3, [.ref aj, .ref apc, .ref app, .int (nI t)])), (apc, .inl (cL, 12, .inr (.inl cs))), (app, .inl (cI, 6, .inl ps)), (aj, .inr (2, [.ref af, .ref al, .int (nI c), .int (nI f)]))] sz) := by
  refine Met.ofW (cc := cX0_addWhole) (maxL := 4) (ret := none) (by decide) rfl ?_
  intro p e s m args below meth cd s₁ B hml hv
  obtain ⟨rfl, hsz, hP, hK, hD0⟩ := hv
  have hx := B.exec
  have hb := B.bytes
  have hr := B.returns
  have hts := atoms_spec (ws := wsX0_addWhole) B.pre
  have iX0 : ∀ w ∈ wsX00, w ∈ wsX0_addWhole := by decide +kernel
  have wf32 := hts (.fieldLink RX0 32 "CheckRestart$Checkpoints" "begun" "I") (by decide +kernel)
  have wf9 := hts (.fieldLink RX0 9 "CheckRestart$Checkpoints" "whole" "[Z") (by decide +kernel)
  have wf15 := hts (.fieldLink RX0 15 "CheckRestart$Checkpoints" "editions" "[I") (by decide +kernel)
  have wf19 := hts (.fieldLink RX0 19 "CheckRestart$Checkpoints" "units" "[I") (by decide +kernel)
  have iX2 : ∀ w ∈ wsX20, w ∈ wsX0_addWhole := by decide +kernel
  have wf36 := hts (.fieldLink RX0 36 "CheckRestart$Progress" "units" "I") (by decide +kernel)
  have wf22 := hts (.fieldLink RX0 22 "CheckRestart$Checkpoints" "cellCounts" "[I") (by decide +kernel)
  have wf40 := hts (.fieldLink RX0 40 "CheckRestart$Progress" "job" "LCheckRestart$Job;") (by decide +kernel)
  have iX1 : ∀ w ∈ wsX10, w ∈ wsX0_addWhole := by decide +kernel
  have wf44 := hts (.fieldLink RX0 44 "CheckRestart$Job" "cellCount" "I") (by decide +kernel)
  have wf49 := hts (.fieldLink RX0 49 "CheckRestart$Progress" "cells" "[J") (by decide +kernel)
  have wf25 := hts (.fieldLink RX0 25 "CheckRestart$Checkpoints" "cells" "[J") (by decide +kernel)
  have wp50 := hts (.methodLink RX0 50 arraycopyName) (by decide +kernel)
  have wp_n := hts (.native arraycopyName) (by decide +kernel)
  have wp_s := hts (.static arraycopyName) (by decide +kernel)
  have wp_i := hts (.initialized "java/lang/System") (by decide +kernel)
  have wf56 := hts (.fieldLink RX0 56 "CheckRestart$Progress" "positions" "[I") (by decide +kernel)
  have wf29 := hts (.fieldLink RX0 29 "CheckRestart$Checkpoints" "positions" "[I") (by decide +kernel)
  have hown : s.vm.findClass RX0 = some m.cls := findClass_of_methodNamed B.named
  have hlocks := B.notSynchronized
  subst hsz
  have hD := hD0.self (sz := s.heap.size)
  generalize hAe : va_A [(ak, .inr (1, [.ref akw, .ref ake, .ref aku, .ref akn, .ref akc, .ref akp, .int (nI kb)])), (akw, .inl (cZ, 100, .inl kw)), (ake, .inl (cI, 100, .inl ke)), (aku, .inl (cI, 100, .inl ku)), (akn, .inl (cI, 100, .inl kn)), (akc, .inl (cL, 1200, .inr (.inl kc))), (akp, .inl (cI, 600, .inl kp)), (ap, .inr (3, [.ref aj, .ref apc, .ref app, .int (nI t)])), (apc, .inl (cL, 12, .inr (.inl cs))), (app, .inl (cI, 6, .inl ps)), (aj, .inr (2, [.ref af, .ref al, .int (nI c), .int (nI f)]))] s.heap.size = A at hD ⊢
  have hA : ∀ q : Nat, s.heap.size ≤ q → A q := fun q h => by rw [← hAe]; exact Or.inr h
  have hS : va_S A s.heap s.heap [] := va_S.rf
  have hl := lv_entry ([.ref ak, .ref ap, .int e0]) (n := 4) (Nat.le_of_ble_eq_true rfl)
  rw [lg_entry_eq]
  generalize (lg_sl ([.ref ak, .ref ap, .int e0]) ++ List.replicate (4 - (lg_sl ([.ref ak, .ref ap, .int e0])).length) Slot.unset).toArray = ls at hl ⊢
  have hl : lv_has ls 4 [(0, .ref ak), (1, .ref ap), (2, .int e0)] := hl
  refine lv_aload_n hx hb dX0_addWhole_0 rfl (lv_at hl 0 rfl) ?_
  refine va_get (D := D) (ci := 1) (v := .int (nI kb)) (C := RX0) (T := TX0) (N := 7) hx hb hts iX0 hown hK hP 0 rfl rfl 6 (by decide) wf32 (fun _ h9 => h9) rfl dX0_addWhole_1 ?_
  refine lv_bipush (v := 100) hx hb dX0_addWhole_4 (by decide) ?_
  refine lv_icmp_lt (tgt := 10) hx hb dX0_addWhole_6 (by decide) (fun c_6 => ?_) (fun c_6 => ?_)
  · refine lv_aload_n hx hb dX0_addWhole_10 rfl (lv_at hl 0 rfl) ?_
    refine va_get (D := D) (ci := 1) (v := .int (nI kb)) (C := RX0) (T := TX0) (N := 7) hx hb hts iX0 hown hK hP 0 rfl rfl 6 (by decide) wf32 (fun _ h9 => h9) rfl dX0_addWhole_11 ?_
    refine lv_istore_n (lv' := [(3, .int (nI kb)), (0, .ref ak), (1, .ref ap), (2, .int e0)]) hx hb dX0_addWhole_14 rfl hl (by decide) rfl (fun ls hl => ?_)
    refine lv_aload_n hx hb dX0_addWhole_15 rfl (lv_at hl 1 rfl) ?_
    refine va_get (D := D) (ci := 1) (v := .ref akw) (C := RX0) (T := TX0) (N := 7) hx hb hts iX0 hown hK hP 0 rfl rfl 0 (by decide) wf9 (fun _ h9 => h9) rfl dX0_addWhole_16 ?_
    refine lv_iload_n hx hb dX0_addWhole_19 rfl (lv_at hl 0 rfl) ?_
    refine lv_iconst (v := 1) hx hb dX0_addWhole_20 (by decide) ?_
    refine ct_zast (k := kb) hx hb hK hP hD hS 1 2 rfl rfl (rfl) (by omega) (by decide) dX0_addWhole_21 (fun H locs hP hD hS => ?_)
    have hP : va_P D vwCl [(ak, .inr (1, [.ref akw, .ref ake, .ref aku, .ref akn, .ref akc, .ref akp, .int (nI kb)])), (akw, .inl (cZ, 100, .inl (upd kw kb 1))), (ake, .inl (cI, 100, .inl ke)), (aku, .inl (cI, 100, .inl ku)), (akn, .inl (cI, 100, .inl kn)), (akc, .inl (cL, 1200, .inr (.inl kc))), (akp, .inl (cI, 600, .inl kp)), (ap, .inr (3, [.ref aj, .ref apc, .ref app, .int (nI t)])), (apc, .inl (cL, 12, .inr (.inl cs))), (app, .inl (cI, 6, .inl ps)), (aj, .inr (2, [.ref af, .ref al, .int (nI c), .int (nI f)]))] H := hP
    have hD : va_D A [(ak, .inr (1, [.ref akw, .ref ake, .ref aku, .ref akn, .ref akc, .ref akp, .int (nI kb)])), (akw, .inl (cZ, 100, .inl (upd kw kb 1))), (ake, .inl (cI, 100, .inl ke)), (aku, .inl (cI, 100, .inl ku)), (akn, .inl (cI, 100, .inl kn)), (akc, .inl (cL, 1200, .inr (.inl kc))), (akp, .inl (cI, 600, .inl kp)), (ap, .inr (3, [.ref aj, .ref apc, .ref app, .int (nI t)])), (apc, .inl (cL, 12, .inr (.inl cs))), (app, .inl (cI, 6, .inl ps)), (aj, .inr (2, [.ref af, .ref al, .int (nI c), .int (nI f)]))] := hD
    refine lv_aload_n hx hb dX0_addWhole_22 rfl (lv_at hl 1 rfl) ?_
    refine va_get (D := D) (ci := 1) (v := .ref ake) (C := RX0) (T := TX0) (N := 7) hx hb hts iX0 hown hK hP 0 rfl rfl 1 (by decide) wf15 (fun _ h9 => h9) rfl dX0_addWhole_23 ?_
    refine lv_iload_n hx hb dX0_addWhole_26 rfl (lv_at hl 0 rfl) ?_
    refine lv_iload_n hx hb dX0_addWhole_27 rfl (lv_at hl 3 rfl) ?_
    refine ct_iast (k := kb) hx hb hK hP hD hS 2 0 rfl rfl (by omega) (by decide) dX0_addWhole_28 (fun H locs hP hD hS => ?_)
    have hP : va_P D vwCl [(ak, .inr (1, [.ref akw, .ref ake, .ref aku, .ref akn, .ref akc, .ref akp, .int (nI kb)])), (akw, .inl (cZ, 100, .inl (upd kw kb 1))), (ake, .inl (cI, 100, .inl (upd ke kb e0))), (aku, .inl (cI, 100, .inl ku)), (akn, .inl (cI, 100, .inl kn)), (akc, .inl (cL, 1200, .inr (.inl kc))), (akp, .inl (cI, 600, .inl kp)), (ap, .inr (3, [.ref aj, .ref apc, .ref app, .int (nI t)])), (apc, .inl (cL, 12, .inr (.inl cs))), (app, .inl (cI, 6, .inl ps)), (aj, .inr (2, [.ref af, .ref al, .int (nI c), .int (nI f)]))] H := hP
    have hD : va_D A [(ak, .inr (1, [.ref akw, .ref ake, .ref aku, .ref akn, .ref akc, .ref akp, .int (nI kb)])), (akw, .inl (cZ, 100, .inl (upd kw kb 1))), (ake, .inl (cI, 100, .inl (upd ke kb e0))), (aku, .inl (cI, 100, .inl ku)), (akn, .inl (cI, 100, .inl kn)), (akc, .inl (cL, 1200, .inr (.inl kc))), (akp, .inl (cI, 600, .inl kp)), (ap, .inr (3, [.ref aj, .ref apc, .ref app, .int (nI t)])), (apc, .inl (cL, 12, .inr (.inl cs))), (app, .inl (cI, 6, .inl ps)), (aj, .inr (2, [.ref af, .ref al, .int (nI c), .int (nI f)]))] := hD
    refine lv_aload_n hx hb dX0_addWhole_29 rfl (lv_at hl 1 rfl) ?_
    refine va_get (D := D) (ci := 1) (v := .ref aku) (C := RX0) (T := TX0) (N := 7) hx hb hts iX0 hown hK hP 0 rfl rfl 2 (by decide) wf19 (fun _ h9 => h9) rfl dX0_addWhole_30 ?_
    refine lv_iload_n hx hb dX0_addWhole_33 rfl (lv_at hl 0 rfl) ?_
    refine lv_aload_n hx hb dX0_addWhole_34 rfl (lv_at hl 2 rfl) ?_
    refine va_get (D := D) (ci := 3) (v := .int (nI t)) (C := RX2) (T := TX2) (N := 4) hx hb hts iX2 hown hK hP 7 rfl rfl 3 (by decide) wf36 (fun _ h9 => h9) rfl dX0_addWhole_35 ?_
    refine ct_iast (k := kb) hx hb hK hP hD hS 3 0 rfl rfl (by omega) (by decide) dX0_addWhole_38 (fun H locs hP hD hS => ?_)
    have hP : va_P D vwCl [(ak, .inr (1, [.ref akw, .ref ake, .ref aku, .ref akn, .ref akc, .ref akp, .int (nI kb)])), (akw, .inl (cZ, 100, .inl (upd kw kb 1))), (ake, .inl (cI, 100, .inl (upd ke kb e0))), (aku, .inl (cI, 100, .inl (upd ku kb (nI t)))), (akn, .inl (cI, 100, .inl kn)), (akc, .inl (cL, 1200, .inr (.inl kc))), (akp, .inl (cI, 600, .inl kp)), (ap, .inr (3, [.ref aj, .ref apc, .ref app, .int (nI t)])), (apc, .inl (cL, 12, .inr (.inl cs))), (app, .inl (cI, 6, .inl ps)), (aj, .inr (2, [.ref af, .ref al, .int (nI c), .int (nI f)]))] H := hP
    have hD : va_D A [(ak, .inr (1, [.ref akw, .ref ake, .ref aku, .ref akn, .ref akc, .ref akp, .int (nI kb)])), (akw, .inl (cZ, 100, .inl (upd kw kb 1))), (ake, .inl (cI, 100, .inl (upd ke kb e0))), (aku, .inl (cI, 100, .inl (upd ku kb (nI t)))), (akn, .inl (cI, 100, .inl kn)), (akc, .inl (cL, 1200, .inr (.inl kc))), (akp, .inl (cI, 600, .inl kp)), (ap, .inr (3, [.ref aj, .ref apc, .ref app, .int (nI t)])), (apc, .inl (cL, 12, .inr (.inl cs))), (app, .inl (cI, 6, .inl ps)), (aj, .inr (2, [.ref af, .ref al, .int (nI c), .int (nI f)]))] := hD
    refine lv_aload_n hx hb dX0_addWhole_39 rfl (lv_at hl 1 rfl) ?_
    refine va_get (D := D) (ci := 1) (v := .ref akn) (C := RX0) (T := TX0) (N := 7) hx hb hts iX0 hown hK hP 0 rfl rfl 3 (by decide) wf22 (fun _ h9 => h9) rfl dX0_addWhole_40 ?_
    refine lv_iload_n hx hb dX0_addWhole_43 rfl (lv_at hl 0 rfl) ?_
    refine lv_aload_n hx hb dX0_addWhole_44 rfl (lv_at hl 2 rfl) ?_
    refine va_get (D := D) (ci := 3) (v := .ref aj) (C := RX2) (T := TX2) (N := 4) hx hb hts iX2 hown hK hP 7 rfl rfl 0 (by decide) wf40 (fun _ h9 => h9) rfl dX0_addWhole_45 ?_
    refine va_get (D := D) (ci := 2) (v := .int (nI c)) (C := RX1) (T := TX1) (N := 4) hx hb hts iX1 hown hK hP 10 rfl rfl 2 (by decide) wf44 (fun _ h9 => h9) rfl dX0_addWhole_48 ?_
    refine ct_iast (k := kb) hx hb hK hP hD hS 4 0 rfl rfl (by omega) (by decide) dX0_addWhole_51 (fun H locs hP hD hS => ?_)
    have hP : va_P D vwCl [(ak, .inr (1, [.ref akw, .ref ake, .ref aku, .ref akn, .ref akc, .ref akp, .int (nI kb)])), (akw, .inl (cZ, 100, .inl (upd kw kb 1))), (ake, .inl (cI, 100, .inl (upd ke kb e0))), (aku, .inl (cI, 100, .inl (upd ku kb (nI t)))), (akn, .inl (cI, 100, .inl (upd kn kb (nI c)))), (akc, .inl (cL, 1200, .inr (.inl kc))), (akp, .inl (cI, 600, .inl kp)), (ap, .inr (3, [.ref aj, .ref apc, .ref app, .int (nI t)])), (apc, .inl (cL, 12, .inr (.inl cs))), (app, .inl (cI, 6, .inl ps)), (aj, .inr (2, [.ref af, .ref al, .int (nI c), .int (nI f)]))] H := hP
    have hD : va_D A [(ak, .inr (1, [.ref akw, .ref ake, .ref aku, .ref akn, .ref akc, .ref akp, .int (nI kb)])), (akw, .inl (cZ, 100, .inl (upd kw kb 1))), (ake, .inl (cI, 100, .inl (upd ke kb e0))), (aku, .inl (cI, 100, .inl (upd ku kb (nI t)))), (akn, .inl (cI, 100, .inl (upd kn kb (nI c)))), (akc, .inl (cL, 1200, .inr (.inl kc))), (akp, .inl (cI, 600, .inl kp)), (ap, .inr (3, [.ref aj, .ref apc, .ref app, .int (nI t)])), (apc, .inl (cL, 12, .inr (.inl cs))), (app, .inl (cI, 6, .inl ps)), (aj, .inr (2, [.ref af, .ref al, .int (nI c), .int (nI f)]))] := hD
    refine lv_aload_n hx hb dX0_addWhole_52 rfl (lv_at hl 2 rfl) ?_
    refine va_get (D := D) (ci := 3) (v := .ref apc) (C := RX2) (T := TX2) (N := 4) hx hb hts iX2 hown hK hP 7 rfl rfl 1 (by decide) wf49 (fun _ h9 => h9) rfl dX0_addWhole_53 ?_
    refine lv_iconst (v := 0) hx hb dX0_addWhole_56 (by decide) ?_
    refine lv_aload_n hx hb dX0_addWhole_57 rfl (lv_at hl 1 rfl) ?_
    refine va_get (D := D) (ci := 1) (v := .ref akc) (C := RX0) (T := TX0) (N := 7) hx hb hts iX0 hown hK hP 0 rfl rfl 4 (by decide) wf25 (fun _ h9 => h9) rfl dX0_addWhole_58 ?_
    refine lv_iload_n hx hb dX0_addWhole_61 rfl (lv_at hl 0 rfl) ?_
    refine lv_bipush (v := 12) hx hb dX0_addWhole_62 (by decide) ?_
    refine lv_imul hx hb dX0_addWhole_64 ?_
    refine ct_topi (y := (nI (kb * 12))) (pk_mul kb 12) ?_
    refine lv_bipush (v := 12) hx hb dX0_addWhole_65 (by decide) ?_
    refine ct_copyl hx hb (hml.trans hl.1.symm) hown wp50 wp_n wp_s wp_i hK hP hD hS 0 (kb * 12) 12 8 5 1 rfl rfl rfl (by omega) (by omega) (by omega) (by omega) (by omega) (Nat.le_of_ble_eq_true rfl) (Nat.le_of_ble_eq_true rfl) dX0_addWhole_67 (fun H locs hP hD hS => ?_)
    have hP : va_P D vwCl [(ak, .inr (1, [.ref akw, .ref ake, .ref aku, .ref akn, .ref akc, .ref akp, .int (nI kb)])), (akw, .inl (cZ, 100, .inl (upd kw kb 1))), (ake, .inl (cI, 100, .inl (upd ke kb e0))), (aku, .inl (cI, 100, .inl (upd ku kb (nI t)))), (akn, .inl (cI, 100, .inl (upd kn kb (nI c)))), (akc, .inl (cL, 1200, .inr (.inl (va_cpy cs kc 0 (kb * 12) 12)))), (akp, .inl (cI, 600, .inl kp)), (ap, .inr (3, [.ref aj, .ref apc, .ref app, .int (nI t)])), (apc, .inl (cL, 12, .inr (.inl cs))), (app, .inl (cI, 6, .inl ps)), (aj, .inr (2, [.ref af, .ref al, .int (nI c), .int (nI f)]))] H := hP
    have hD : va_D A [(ak, .inr (1, [.ref akw, .ref ake, .ref aku, .ref akn, .ref akc, .ref akp, .int (nI kb)])), (akw, .inl (cZ, 100, .inl (upd kw kb 1))), (ake, .inl (cI, 100, .inl (upd ke kb e0))), (aku, .inl (cI, 100, .inl (upd ku kb (nI t)))), (akn, .inl (cI, 100, .inl (upd kn kb (nI c)))), (akc, .inl (cL, 1200, .inr (.inl (va_cpy cs kc 0 (kb * 12) 12)))), (akp, .inl (cI, 600, .inl kp)), (ap, .inr (3, [.ref aj, .ref apc, .ref app, .int (nI t)])), (apc, .inl (cL, 12, .inr (.inl cs))), (app, .inl (cI, 6, .inl ps)), (aj, .inr (2, [.ref af, .ref al, .int (nI c), .int (nI f)]))] := hD
    refine lv_aload_n hx hb dX0_addWhole_70 rfl (lv_at hl 2 rfl) ?_
    refine va_get (D := D) (ci := 3) (v := .ref app) (C := RX2) (T := TX2) (N := 4) hx hb hts iX2 hown hK hP 7 rfl rfl 2 (by decide) wf56 (fun _ h9 => h9) rfl dX0_addWhole_71 ?_
    refine lv_iconst (v := 0) hx hb dX0_addWhole_74 (by decide) ?_
    refine lv_aload_n hx hb dX0_addWhole_75 rfl (lv_at hl 1 rfl) ?_
    refine va_get (D := D) (ci := 1) (v := .ref akp) (C := RX0) (T := TX0) (N := 7) hx hb hts iX0 hown hK hP 0 rfl rfl 5 (by decide) wf29 (fun _ h9 => h9) rfl dX0_addWhole_76 ?_
    refine lv_iload_n hx hb dX0_addWhole_79 rfl (lv_at hl 0 rfl) ?_
    refine lv_bipush (v := 6) hx hb dX0_addWhole_80 (by decide) ?_
    refine lv_imul hx hb dX0_addWhole_82 ?_
    refine ct_topi (y := (nI (kb * 6))) (pk_mul kb 6) ?_
    refine lv_bipush (v := 6) hx hb dX0_addWhole_83 (by decide) ?_
    refine ct_copyi hx hb (hml.trans hl.1.symm) hown wp50 wp_n wp_s wp_i hK hP hD hS 0 (kb * 6) 6 9 6 0 rfl rfl rfl (by omega) (by omega) (by omega) (by omega) (by omega) (Nat.le_of_ble_eq_true rfl) (Nat.le_of_ble_eq_true rfl) dX0_addWhole_85 (fun H locs hP hD hS => ?_)
    have hP : va_P D vwCl [(ak, .inr (1, [.ref akw, .ref ake, .ref aku, .ref akn, .ref akc, .ref akp, .int (nI kb)])), (akw, .inl (cZ, 100, .inl (upd kw kb 1))), (ake, .inl (cI, 100, .inl (upd ke kb e0))), (aku, .inl (cI, 100, .inl (upd ku kb (nI t)))), (akn, .inl (cI, 100, .inl (upd kn kb (nI c)))), (akc, .inl (cL, 1200, .inr (.inl (va_cpy cs kc 0 (kb * 12) 12)))), (akp, .inl (cI, 600, .inl (va_cpy ps kp 0 (kb * 6) 6))), (ap, .inr (3, [.ref aj, .ref apc, .ref app, .int (nI t)])), (apc, .inl (cL, 12, .inr (.inl cs))), (app, .inl (cI, 6, .inl ps)), (aj, .inr (2, [.ref af, .ref al, .int (nI c), .int (nI f)]))] H := hP
    have hD : va_D A [(ak, .inr (1, [.ref akw, .ref ake, .ref aku, .ref akn, .ref akc, .ref akp, .int (nI kb)])), (akw, .inl (cZ, 100, .inl (upd kw kb 1))), (ake, .inl (cI, 100, .inl (upd ke kb e0))), (aku, .inl (cI, 100, .inl (upd ku kb (nI t)))), (akn, .inl (cI, 100, .inl (upd kn kb (nI c)))), (akc, .inl (cL, 1200, .inr (.inl (va_cpy cs kc 0 (kb * 12) 12)))), (akp, .inl (cI, 600, .inl (va_cpy ps kp 0 (kb * 6) 6))), (ap, .inr (3, [.ref aj, .ref apc, .ref app, .int (nI t)])), (apc, .inl (cL, 12, .inr (.inl cs))), (app, .inl (cI, 6, .inl ps)), (aj, .inr (2, [.ref af, .ref al, .int (nI c), .int (nI f)]))] := hD
    refine lv_aload_n hx hb dX0_addWhole_88 rfl (lv_at hl 1 rfl) ?_
    refine lv_dup hx hb dX0_addWhole_89 rfl ?_
    refine va_get (D := D) (ci := 1) (v := .int (nI kb)) (C := RX0) (T := TX0) (N := 7) hx hb hts iX0 hown hK hP 0 rfl rfl 6 (by decide) wf32 (fun _ h9 => h9) rfl dX0_addWhole_90 ?_
    refine lv_iconst (v := 1) hx hb dX0_addWhole_93 (by decide) ?_
    refine lv_iadd hx hb dX0_addWhole_94 ?_
    refine ct_topi (y := (nI (kb + 1))) (nI_1 kb) ?_
    refine va_put (D := D) (ci := 1) (v := .int (nI (kb + 1))) (ty := .int) (C := RX0) (T := TX0) (N := 7) hx hb hts iX0 tyX0 tyX0_ok nmX0 hown hK hP hD hS 0 rfl rfl 6 (by decide) wf32 (fun _ h9 => h9) rfl (by decide +kernel) rfl rfl (Nat.le_of_ble_eq_true rfl) dX0_addWhole_95 (fun H locs hP hD hS => ?_)
    have hP : va_P D vwCl [(ak, .inr (1, [.ref akw, .ref ake, .ref aku, .ref akn, .ref akc, .ref akp, .int (nI (kb + 1))])), (akw, .inl (cZ, 100, .inl (upd kw kb 1))), (ake, .inl (cI, 100, .inl (upd ke kb e0))), (aku, .inl (cI, 100, .inl (upd ku kb (nI t)))), (akn, .inl (cI, 100, .inl (upd kn kb (nI c)))), (akc, .inl (cL, 1200, .inr (.inl (va_cpy cs kc 0 (kb * 12) 12)))), (akp, .inl (cI, 600, .inl (va_cpy ps kp 0 (kb * 6) 6))), (ap, .inr (3, [.ref aj, .ref apc, .ref app, .int (nI t)])), (apc, .inl (cL, 12, .inr (.inl cs))), (app, .inl (cI, 6, .inl ps)), (aj, .inr (2, [.ref af, .ref al, .int (nI c), .int (nI f)]))] H := hP
    have hD : va_D A [(ak, .inr (1, [.ref akw, .ref ake, .ref aku, .ref akn, .ref akc, .ref akp, .int (nI (kb + 1))])), (akw, .inl (cZ, 100, .inl (upd kw kb 1))), (ake, .inl (cI, 100, .inl (upd ke kb e0))), (aku, .inl (cI, 100, .inl (upd ku kb (nI t)))), (akn, .inl (cI, 100, .inl (upd kn kb (nI c)))), (akc, .inl (cL, 1200, .inr (.inl (va_cpy cs kc 0 (kb * 12) 12)))), (akp, .inl (cI, 600, .inl (va_cpy ps kp 0 (kb * 6) 6))), (ap, .inr (3, [.ref aj, .ref apc, .ref app, .int (nI t)])), (apc, .inl (cL, 12, .inr (.inl cs))), (app, .inl (cI, 6, .inl ps)), (aj, .inr (2, [.ref af, .ref al, .int (nI c), .int (nI f)]))] := hD
    have hP9 := hP.sub (ws' := [(ak, .inr (1, [.ref akw, .ref ake, .ref aku, .ref akn, .ref akc, .ref akp, .int (nI (kb + 1))])), (akw, .inl (cZ, 100, .inl (upd kw kb 1))), (ake, .inl (cI, 100, .inl (upd ke kb e0))), (aku, .inl (cI, 100, .inl (upd ku kb (nI t)))), (akn, .inl (cI, 100, .inl (upd kn kb (nI c)))), (akc, .inl (cL, 1200, .inr (.inl (va_cpy cs kc 0 (kb * 12) 12)))), (akp, .inl (cI, 600, .inl (va_cpy ps kp 0 (kb * 6) 6))), (ap, .inr (3, [.ref aj, .ref apc, .ref app, .int (nI t)])), (apc, .inl (cL, 12, .inr (.inl cs))), (app, .inl (cI, 6, .inl ps)), (aj, .inr (2, [.ref af, .ref al, .int (nI c), .int (nI f)]))]) [0, 1, 2, 3, 4, 5, 6, 7, 8, 9, 10] rfl
    have hD9 := hD.sub (ws' := [(ak, .inr (1, [.ref akw, .ref ake, .ref aku, .ref akn, .ref akc, .ref akp, .int (nI (kb + 1))])), (akw, .inl (cZ, 100, .inl (upd kw kb 1))), (ake, .inl (cI, 100, .inl (upd ke kb e0))), (aku, .inl (cI, 100, .inl (upd ku kb (nI t)))), (akn, .inl (cI, 100, .inl (upd kn kb (nI c)))), (akc, .inl (cL, 1200, .inr (.inl (va_cpy cs kc 0 (kb * 12) 12)))), (akp, .inl (cI, 600, .inl (va_cpy ps kp 0 (kb * 6) 6))), (ap, .inr (3, [.ref aj, .ref apc, .ref app, .int (nI t)])), (apc, .inl (cL, 12, .inr (.inl cs))), (app, .inl (cI, 6, .inl ps)), (aj, .inr (2, [.ref af, .ref al, .int (nI c), .int (nI f)]))]) [0, 1, 2, 3, 4, 5, 6, 7, 8, 9, 10] (by decide) rfl
    refine W.widen (k := 0) (n := 0) (Nat.le_of_ble_eq_true rfl) (Nat.le_of_ble_eq_true rfl) ?_
    exact W.vret hx hb hr (fun t9 ht9 hW9 => ⟨⟨(), rfl, trivial, by rw [ht9]; exact hP9, va_K.moved hW9.alike hK, hD9⟩, hS.F ht9⟩) hS.2.2 dX0_addWhole_98
  · exact absurd c_6 (fun h => h (nI_lt (a := kb) (b := 100) (by omega) (by omega)))
abbrev rm_X0_latestWholeUpTo : Room := { frames := 1, cells := 0, slots := 0, locals := 21 }
abbrev qc_X0_latestWholeUpTo (D : va_G) (cI cL cZ : ClassId) (ak : Nat) (akw : Nat) (ake : Nat) (aku : Nat) (akn : Nat) (akc : Nat) (akp : Nat) (kw : Nat → Int32) (kb : Nat) (x : Int32) (A : Nat → Prop) : Array Value → State → Outcome → State → Prop := va_Qi (fun (r : Int32) (u : Unit) => (lw_r kw kb x) = r) (ct_B D vwCl [(cI, .int), (cL, .long), (cZ, .boolean)] A (fun (u : Unit) => [(ak, .inr (1, [.ref akw, .ref ake, .ref aku, .ref akn, .ref akc, .ref akp, .int (nI kb)])), (akw, .inl (cZ, 100, .inl kw))])) A
set_option maxHeartbeats 4000000 in
set_option maxRecDepth 100000 in
theorem c_X0_latestWholeUpTo (l : Launch) (D : va_G) (cI cL cZ : ClassId) (ak : Nat) (akw : Nat) (ake : Nat) (aku : Nat) (akn : Nat) (akc : Nat) (akp : Nat) (kw : Nat → Int32) (kb : Nat) (x : Int32) (sz : Nat) (hk : kb ≤ 100) : Met l yX0_latestWholeUpTo wsX0_latestWholeUpTo rm_X0_latestWholeUpTo (va_Pc [.ref ak, .int x] (ct_P D vwCl [(cI, .int), (cL, .long), (cZ, .boolean)] [(ak, .inr (1, [.ref akw, .ref ake, .ref aku, .ref akn, .ref akc, .ref akp, .int (nI kb)])), (akw, .inl (cZ, 100, .inl kw))] sz)) (qc_X0_latestWholeUpTo D cI cL cZ ak akw ake aku akn akc akp kw kb x (va_A [(ak, .inr (1, [.ref akw, .ref ake, .ref aku, .ref akn, .ref akc, .ref akp, .int (nI kb)])), (akw, .inl (cZ, 100, .inl kw))] sz)) 0 0 (va_A [(ak, .inr (1, [.ref akw, .ref ake, .ref aku, .ref akn, .ref akc, .ref akp, .int (nI kb)])), (akw, .inl (cZ, 100, .inl kw))] sz) := by
  refine Met.ofW (cc := cX0_latestWholeUpTo) (maxL := 3) (ret := (some .int)) (by decide) rfl ?_
  intro p e s m args below meth cd s₁ B hml hv
  obtain ⟨rfl, hsz, hP, hK, hD0⟩ := hv
  have hx := B.exec
  have hb := B.bytes
  have hr := B.returns
  have hts := atoms_spec (ws := wsX0_latestWholeUpTo) B.pre
  have iX0 : ∀ w ∈ wsX00, w ∈ wsX0_latestWholeUpTo := by decide +kernel
  have wf9 := hts (.fieldLink RX0 9 "CheckRestart$Checkpoints" "whole" "[Z") (by decide +kernel)
  have hown : s.vm.findClass RX0 = some m.cls := findClass_of_methodNamed B.named
  have hlocks := B.notSynchronized
  subst hsz
  have hD := hD0.self (sz := s.heap.size)
  generalize hAe : va_A [(ak, .inr (1, [.ref akw, .ref ake, .ref aku, .ref akn, .ref akc, .ref akp, .int (nI kb)])), (akw, .inl (cZ, 100, .inl kw))] s.heap.size = A at hD ⊢
  have hA : ∀ q : Nat, s.heap.size ≤ q → A q := fun q h => by rw [← hAe]; exact Or.inr h
  have hS : va_S A s.heap s.heap [] := va_S.rf
  have hl := lv_entry ([.ref ak, .int x]) (n := 3) (Nat.le_of_ble_eq_true rfl)
  rw [lg_entry_eq]
  generalize (lg_sl ([.ref ak, .int x]) ++ List.replicate (3 - (lg_sl ([.ref ak, .int x])).length) Slot.unset).toArray = ls at hl ⊢
  have hl : lv_has ls 3 [(0, .ref ak), (1, .int x)] := hl
  have key12 : ∀ (n : Nat) (k : Nat), (k ≤ kb) → (k + 1 ≤ n) → (lw kw k = lw kw x.toNatClampNeg) → (¬ (x < 1 ∨ nI kb < x)) → ∀ (H : Heap) (locs : List Loc), va_P D vwCl [(ak, .inr (1, [.ref akw, .ref ake, .ref aku, .ref akn, .ref akc, .ref akp, .int (nI kb)])), (akw, .inl (cZ, 100, .inl kw))] H → va_D A [(ak, .inr (1, [.ref akw, .ref ake, .ref aku, .ref akn, .ref akc, .ref akp, .int (nI kb)])), (akw, .inl (cZ, 100, .inl kw))] → va_S A s.heap H locs → ∀ (ls : Array Slot), lv_has ls 3 [(2, .int (nI k)), (0, .ref ak), (1, .int x)] → W p l e (headSpec wsX0_latestWholeUpTo rm_X0_latestWholeUpTo).room s m ([.ref ak, .int x] : List Value).toArray below meth cd H locs 0 0 (MQ below (qc_X0_latestWholeUpTo D cI cL cZ ak akw ake aku akn akc akp kw kb x A) ([.ref ak, .int x] : List Value).toArray s 0 0 A) (F0 m 12 ls []) := by
    intro n
    induction n with
    | zero => intro k hkb hm hlw hno; exact absurd hm (by omega)
    | succ n ih =>
      intro k hkb hm hlw hno H locs hP hD hS ls hl
      refine lv_iload_n hx hb dX0_latestWholeUpTo_12 rfl (lv_at hl 0 rfl) ?_
      refine lv_iconst (v := 1) hx hb dX0_latestWholeUpTo_13 (by decide) ?_
      refine lv_icmp_lt (tgt := 36) hx hb dX0_latestWholeUpTo_14 (by decide) (fun c_14 => ?_) (fun c_14 => ?_)
      · have h1 : k < 1 := (nI_ltI (a := k) (b := 1) (by omega) (by omega)).mp c_14
        have h2 : k = 0 := by omega
        subst h2
        refine lv_iconst (v := (-1)) hx hb dX0_latestWholeUpTo_36 (by decide) ?_
        have hP9 := hP.sub (ws' := [(ak, .inr (1, [.ref akw, .ref ake, .ref aku, .ref akn, .ref akc, .ref akp, .int (nI kb)])), (akw, .inl (cZ, 100, .inl kw))]) [0, 1] rfl
        have hD9 := hD.sub (ws' := [(ak, .inr (1, [.ref akw, .ref ake, .ref aku, .ref akn, .ref akc, .ref akp, .int (nI kb)])), (akw, .inl (cZ, 100, .inl kw))]) [0, 1] (by decide) rfl
        refine W.widen (k := 0) (n := 0) (Nat.le_of_ble_eq_true rfl) (Nat.le_of_ble_eq_true rfl) ?_
        exact W.iret (v := (-1)) hx hb hr (fun t9 ht9 hW9 => ⟨⟨(-1), (), rfl, by unfold lw_r; rw [if_neg hno, ← hlw]; rfl, by rw [ht9]; exact hP9, va_K.moved hW9.alike hK, hD9⟩, hS.F ht9⟩) hS.2.2 dX0_latestWholeUpTo_37
      · have h1 : ¬ k < 1 := fun h => c_14 ((nI_ltI (a := k) (b := 1) (by omega) (by omega)).mpr h)
        refine lv_aload_n hx hb dX0_latestWholeUpTo_17 rfl (lv_at hl 1 rfl) ?_
        refine va_get (D := D) (ci := 1) (v := .ref akw) (C := RX0) (T := TX0) (N := 7) hx hb hts iX0 hown hK hP 0 rfl rfl 0 (by decide) wf9 (fun _ h9 => h9) rfl dX0_latestWholeUpTo_18 ?_
        refine lv_iload_n hx hb dX0_latestWholeUpTo_21 rfl (lv_at hl 0 rfl) ?_
        refine lv_iconst (v := 1) hx hb dX0_latestWholeUpTo_22 (by decide) ?_
        refine lv_isub hx hb dX0_latestWholeUpTo_23 ?_
        refine ct_topi (y := (nI (k - 1))) (pk_sub (a := k) (b := 1) (by omega)) ?_
        refine ct_zald (k := (k - 1)) hx hb hK hP 1 2 rfl rfl (by omega) (by decide) dX0_latestWholeUpTo_24 ?_
        refine lv_if_eq (tgt := 30) hx hb dX0_latestWholeUpTo_25 (by decide) (fun c_25 => ?_) (fun c_25 => ?_)
        · refine lv_iinc (v := (nI (k - 1))) (lv' := [(2, .int (nI (k - 1))), (0, .ref ak), (1, .int x)]) hx hb dX0_latestWholeUpTo_30 hl (k := 0) rfl (cr_dec (by omega)) (by decide) rfl (fun ls hl => ?_)
          refine lv_goto (tgt := 12) hx hb dX0_latestWholeUpTo_33 (by decide) ?_
          exact ih ((k - 1)) (by omega) (by omega) (by rw [← hlw]; exact lw_z (by omega) c_25) hno _ _ (hP.sub [0, 1] rfl) (hD.sub [0, 1] (by decide) rfl) hS ls (lv_sub hl [0, 1, 2] rfl)
        · refine lv_iload_n hx hb dX0_latestWholeUpTo_28 rfl (lv_at hl 0 rfl) ?_
          have hP9 := hP.sub (ws' := [(ak, .inr (1, [.ref akw, .ref ake, .ref aku, .ref akn, .ref akc, .ref akp, .int (nI kb)])), (akw, .inl (cZ, 100, .inl kw))]) [0, 1] rfl
          have hD9 := hD.sub (ws' := [(ak, .inr (1, [.ref akw, .ref ake, .ref aku, .ref akn, .ref akc, .ref akp, .int (nI kb)])), (akw, .inl (cZ, 100, .inl kw))]) [0, 1] (by decide) rfl
          refine W.widen (k := 0) (n := 0) (Nat.le_of_ble_eq_true rfl) (Nat.le_of_ble_eq_true rfl) ?_
          exact W.iret (v := (nI k)) hx hb hr (fun t9 ht9 hW9 => ⟨⟨(nI k), (), rfl, by unfold lw_r; rw [if_neg hno, ← hlw, lw_w (by omega) c_25]; unfold lwI; rw [if_neg (by omega)], by rw [ht9]; exact hP9, va_K.moved hW9.alike hK, hD9⟩, hS.F ht9⟩) hS.2.2 dX0_latestWholeUpTo_29
  refine lv_aload_n hx hb dX0_latestWholeUpTo_0 rfl (lv_at hl 0 rfl) ?_
  refine lv_iload_n hx hb dX0_latestWholeUpTo_1 rfl (lv_at hl 1 rfl) ?_
  refine ct_calli (wr := [(akw, .inl (cZ, 100, .inl kw))]) (rest := []) hP hD hS hA [0] [1] (va_runV (C := RX0) (As := [.int x]) ⟨hx, hb, hml, hown, hts⟩ (c_X0_has l D cI cL cZ ak akw ake aku akn akc akp kb x _ ) (cwV 1 hts gX0_latestWholeUpTo_X0_has rfl rfl rfl (by decide +kernel) ⟨Nat.le_of_ble_eq_true rfl, Nat.le_of_ble_eq_true rfl⟩) (ct_preV (q0 := 0) (ci := 1) hK hP hD [0] (by decide) rfl rfl rfl rfl rfl) rfl rfl hl.1 rfl (lv_room (Nat.le_of_ble_eq_true rfl)) dX0_latestWholeUpTo_2 ⟨Nat.le_of_ble_eq_true rfl, Nat.le_of_ble_eq_true rfl⟩) rfl rfl (by decide) (by decide) (fun r_1 u H locs hw hP hD hS => ?_)
  try dsimp only at hw
  obtain rfl := hw
  have hP : va_P D vwCl [(akw, .inl (cZ, 100, .inl kw)), (ak, .inr (1, [.ref akw, .ref ake, .ref aku, .ref akn, .ref akc, .ref akp, .int (nI kb)]))] H := hP
  have hD : va_D A [(akw, .inl (cZ, 100, .inl kw)), (ak, .inr (1, [.ref akw, .ref ake, .ref aku, .ref akn, .ref akc, .ref akp, .int (nI kb)]))] := hD
  refine lv_if_ne (tgt := 10) hx hb dX0_latestWholeUpTo_5 (by decide) (fun c_5 => ?_) (fun c_5 => ?_)
  · obtain ⟨n, hn1, hn2, hxn, hno⟩ := cr_has hk c_5
    refine lv_iload_n hx hb dX0_latestWholeUpTo_10 rfl (lv_at hl 1 rfl) ?_
    refine ct_topi (y := (nI n)) (hxn) ?_
    refine lv_istore_n (lv' := [(2, .int (nI n)), (0, .ref ak), (1, .int x)]) hx hb dX0_latestWholeUpTo_11 rfl hl (by decide) rfl (fun ls hl => ?_)
    exact key12 (n + 1) n (by omega) (by omega) (by rw [hxn, nI_clamp (by omega)]) hno _ _ (hP.sub [1, 0] rfl) (hD.sub [1, 0] (by decide) rfl) hS ls (lv_sub hl [0, 1, 2] rfl)
  · have hno := cr_not_has c_5
    refine lv_iconst (v := (-1)) hx hb dX0_latestWholeUpTo_8 (by decide) ?_
    have hP9 := hP.sub (ws' := [(ak, .inr (1, [.ref akw, .ref ake, .ref aku, .ref akn, .ref akc, .ref akp, .int (nI kb)])), (akw, .inl (cZ, 100, .inl kw))]) [1, 0] rfl
    have hD9 := hD.sub (ws' := [(ak, .inr (1, [.ref akw, .ref ake, .ref aku, .ref akn, .ref akc, .ref akp, .int (nI kb)])), (akw, .inl (cZ, 100, .inl kw))]) [1, 0] (by decide) rfl
    refine W.widen (k := 0) (n := 0) (Nat.le_of_ble_eq_true rfl) (Nat.le_of_ble_eq_true rfl) ?_
    exact W.iret (v := (-1)) hx hb hr (fun t9 ht9 hW9 => ⟨⟨(-1), (), rfl, by unfold lw_r; rw [if_pos hno], by rw [ht9]; exact hP9, va_K.moved hW9.alike hK, hD9⟩, hS.F ht9⟩) hS.2.2 dX0_latestWholeUpTo_9
abbrev rm_X0_isPastAFilesEnd : Room := { frames := 0, cells := 0, slots := 0, locals := 0 }
abbrev qc_X0_isPastAFilesEnd (D : va_G) (cI cL cZ : ClassId) (ak : Nat) (akw : Nat) (ake : Nat) (aku : Nat) (akn : Nat) (akc : Nat) (akp : Nat) (kp : Nat → Int32) (kb : Nat) (aj : Nat) (af : Nat) (al : Nat) (c : Nat) (f : Nat) (ln : Nat → Int32) (k : Nat) (A : Nat → Prop) : Array Value → State → Outcome → State → Prop := va_Qi (fun (r : Int32) (u : Unit) => (pe_r k f ln kp) = r) (ct_B D vwCl [(cI, .int), (cL, .long), (cZ, .boolean)] A (fun (u : Unit) => [(ak, .inr (1, [.ref akw, .ref ake, .ref aku, .ref akn, .ref akc, .ref akp, .int (nI kb)])), (akp, .inl (cI, 600, .inl kp)), (aj, .inr (2, [.ref af, .ref al, .int (nI c), .int (nI f)])), (al, .inl (cI, 6, .inl ln))])) A
set_option maxHeartbeats 4000000 in
set_option maxRecDepth 100000 in
theorem c_X0_isPastAFilesEnd (l : Launch) (D : va_G) (cI cL cZ : ClassId) (ak : Nat) (akw : Nat) (ake : Nat) (aku : Nat) (akn : Nat) (akc : Nat) (akp : Nat) (kp : Nat → Int32) (kb : Nat) (aj : Nat) (af : Nat) (al : Nat) (c : Nat) (f : Nat) (ln : Nat → Int32) (k : Nat) (sz : Nat) (hf : f ≤ 6) (hk1 : 1 ≤ k) (hk2 : k ≤ 100) : Met l yX0_isPastAFilesEnd wsX0_isPastAFilesEnd rm_X0_isPastAFilesEnd (va_Pc [.ref ak, .int (nI k), .ref aj] (ct_P D vwCl [(cI, .int), (cL, .long), (cZ, .boolean)] [(ak, .inr (1, [.ref akw, .ref ake, .ref aku, .ref akn, .ref akc, .ref akp, .int (nI kb)])), (akp, .inl (cI, 600, .inl kp)), (aj, .inr (2, [.ref af, .ref al, .int (nI c), .int (nI f)])), (al, .inl (cI, 6, .inl ln))] sz)) (qc_X0_isPastAFilesEnd D cI cL cZ ak akw ake aku akn akc akp kp kb aj af al c f ln k (va_A [(ak, .inr (1, [.ref akw, .ref ake, .ref aku, .ref akn, .ref akc, .ref akp, .int (nI kb)])), (akp, .inl (cI, 600, .inl kp)), (aj, .inr (2, [.ref af, .ref al, .int (nI c), .int (nI f)])), (al, .inl (cI, 6, .inl ln))] sz)) 0 0 (va_A [(ak, .inr (1, [.ref akw, .ref ake, .ref aku, .ref akn, .ref akc, .ref akp, .int (nI kb)])), (akp, .inl (cI, 600, .inl kp)), (aj, .inr (2, [.ref af, .ref al, .int (nI c), .int (nI f)])), (al, .inl (cI, 6, .inl ln))] sz) := by
  refine Met.ofW (cc := cX0_isPastAFilesEnd) (maxL := 5) (ret := (some .boolean)) (by decide) rfl ?_
  intro p e s m args below meth cd s₁ B hml hv
  obtain ⟨rfl, hsz, hP, hK, hD0⟩ := hv
  have hx := B.exec
  have hb := B.bytes
  have hr := B.returns
  have hts := atoms_spec (ws := wsX0_isPastAFilesEnd) B.pre
  have iX1 : ∀ w ∈ wsX10, w ∈ wsX0_isPastAFilesEnd := by decide +kernel
  have wf61 := hts (.fieldLink RX0 61 "CheckRestart$Job" "fileCount" "I") (by decide +kernel)
  have wf64 := hts (.fieldLink RX0 64 "CheckRestart$Job" "lengths" "[I") (by decide +kernel)
  have iX0 : ∀ w ∈ wsX00, w ∈ wsX0_isPastAFilesEnd := by decide +kernel
  have wf29 := hts (.fieldLink RX0 29 "CheckRestart$Checkpoints" "positions" "[I") (by decide +kernel)
  have hown : s.vm.findClass RX0 = some m.cls := findClass_of_methodNamed B.named
  have hlocks := B.notSynchronized
  subst hsz
  have hD := hD0.self (sz := s.heap.size)
  generalize hAe : va_A [(ak, .inr (1, [.ref akw, .ref ake, .ref aku, .ref akn, .ref akc, .ref akp, .int (nI kb)])), (akp, .inl (cI, 600, .inl kp)), (aj, .inr (2, [.ref af, .ref al, .int (nI c), .int (nI f)])), (al, .inl (cI, 6, .inl ln))] s.heap.size = A at hD ⊢
  have hA : ∀ q : Nat, s.heap.size ≤ q → A q := fun q h => by rw [← hAe]; exact Or.inr h
  have hS : va_S A s.heap s.heap [] := va_S.rf
  have hl := lv_entry ([.ref ak, .int (nI k), .ref aj]) (n := 5) (Nat.le_of_ble_eq_true rfl)
  rw [lg_entry_eq]
  generalize (lg_sl ([.ref ak, .int (nI k), .ref aj]) ++ List.replicate (5 - (lg_sl ([.ref ak, .int (nI k), .ref aj])).length) Slot.unset).toArray = ls at hl ⊢
  have hl : lv_has ls 5 [(0, .ref ak), (1, .int (nI k)), (2, .ref aj)] := hl
  have key10 : ∀ (n : Nat) (i : Nat), (i ≤ f) → (f + 1 ≤ i + n) → (∀ j, j < i → kp ((k - 1) * 6 + j) ≤ ln j) → ∀ (H : Heap) (locs : List Loc), va_P D vwCl [(ak, .inr (1, [.ref akw, .ref ake, .ref aku, .ref akn, .ref akc, .ref akp, .int (nI kb)])), (akp, .inl (cI, 600, .inl kp)), (aj, .inr (2, [.ref af, .ref al, .int (nI c), .int (nI f)])), (al, .inl (cI, 6, .inl ln))] H → va_D A [(ak, .inr (1, [.ref akw, .ref ake, .ref aku, .ref akn, .ref akc, .ref akp, .int (nI kb)])), (akp, .inl (cI, 600, .inl kp)), (aj, .inr (2, [.ref af, .ref al, .int (nI c), .int (nI f)])), (al, .inl (cI, 6, .inl ln))] → va_S A s.heap H locs → ∀ (ls : Array Slot), lv_has ls 5 [(4, .int (nI i)), (3, .int (nI ((k - 1) * 6))), (0, .ref ak), (1, .int (nI k)), (2, .ref aj)] → W p l e (headSpec wsX0_isPastAFilesEnd rm_X0_isPastAFilesEnd).room s m ([.ref ak, .int (nI k), .ref aj] : List Value).toArray below meth cd H locs 0 0 (MQ below (qc_X0_isPastAFilesEnd D cI cL cZ ak akw ake aku akn akc akp kp kb aj af al c f ln k A) ([.ref ak, .int (nI k), .ref aj] : List Value).toArray s 0 0 A) (F0 m 10 ls []) := by
    intro n
    induction n with
    | zero => intro i hi hm hall; exact absurd hm (by omega)
    | succ n ih =>
      intro i hi hm hall H locs hP hD hS ls hl
      refine lv_iload hx hb dX0_isPastAFilesEnd_10 (lv_at hl 0 rfl) ?_
      refine lv_aload_n hx hb dX0_isPastAFilesEnd_12 rfl (lv_at hl 4 rfl) ?_
      refine va_get (D := D) (ci := 2) (v := .int (nI f)) (C := RX1) (T := TX1) (N := 4) hx hb hts iX1 hown hK hP 2 rfl rfl 3 (by decide) wf61 (fun _ h9 => h9) rfl dX0_isPastAFilesEnd_13 ?_
      refine lv_icmp_ge (tgt := 46) hx hb dX0_isPastAFilesEnd_16 (by decide) (fun c_16 => ?_) (fun c_16 => ?_)
      · have h1 : f ≤ i := (nI_leI (by omega) (by omega)).mp c_16
        have h2 : i = f := by omega
        refine lv_iconst (v := 0) hx hb dX0_isPastAFilesEnd_46 (by decide) ?_
        have hP9 := hP.sub (ws' := [(ak, .inr (1, [.ref akw, .ref ake, .ref aku, .ref akn, .ref akc, .ref akp, .int (nI kb)])), (akp, .inl (cI, 600, .inl kp)), (aj, .inr (2, [.ref af, .ref al, .int (nI c), .int (nI f)])), (al, .inl (cI, 6, .inl ln))]) [0, 1, 2, 3] rfl
        have hD9 := hD.sub (ws' := [(ak, .inr (1, [.ref akw, .ref ake, .ref aku, .ref akn, .ref akc, .ref akp, .int (nI kb)])), (akp, .inl (cI, 600, .inl kp)), (aj, .inr (2, [.ref af, .ref al, .int (nI c), .int (nI f)])), (al, .inl (cI, 6, .inl ln))]) [0, 1, 2, 3] (by decide) rfl
        refine W.widen (k := 0) (n := 0) (Nat.le_of_ble_eq_true rfl) (Nat.le_of_ble_eq_true rfl) ?_
        exact W.zret (v := 0) hx hb hr (rfl) (fun t9 ht9 hW9 => ⟨⟨0, (), rfl, pe_yes (by rw [← h2]; exact hall), by rw [ht9]; exact hP9, va_K.moved hW9.alike hK, hD9⟩, hS.F ht9⟩) hS.2.2 dX0_isPastAFilesEnd_47
      · have h1 : ¬ f ≤ i := fun h => c_16 ((nI_leI (by omega) (by omega)).mpr h)
        refine lv_aload_n hx hb dX0_isPastAFilesEnd_19 rfl (lv_at hl 4 rfl) ?_
        refine va_get (D := D) (ci := 2) (v := .ref al) (C := RX1) (T := TX1) (N := 4) hx hb hts iX1 hown hK hP 2 rfl rfl 1 (by decide) wf64 (fun _ h9 => h9) rfl dX0_isPastAFilesEnd_20 ?_
        refine lv_iload hx hb dX0_isPastAFilesEnd_23 (lv_at hl 0 rfl) ?_
        refine ct_iald (k := i) hx hb hK hP 3 0 rfl rfl (by omega) (by decide) dX0_isPastAFilesEnd_25 ?_
        refine lv_aload_n hx hb dX0_isPastAFilesEnd_26 rfl (lv_at hl 2 rfl) ?_
        refine va_get (D := D) (ci := 1) (v := .ref akp) (C := RX0) (T := TX0) (N := 7) hx hb hts iX0 hown hK hP 0 rfl rfl 5 (by decide) wf29 (fun _ h9 => h9) rfl dX0_isPastAFilesEnd_27 ?_
        refine lv_iload_n hx hb dX0_isPastAFilesEnd_30 rfl (lv_at hl 1 rfl) ?_
        refine lv_iload hx hb dX0_isPastAFilesEnd_31 (lv_at hl 0 rfl) ?_
        refine lv_iadd hx hb dX0_isPastAFilesEnd_33 ?_
        refine ct_topi (y := (nI ((k - 1) * 6 + i))) (nI_add _ _) ?_
        refine ct_iald (k := ((k - 1) * 6 + i)) hx hb hK hP 1 0 rfl rfl (by omega) (by decide) dX0_isPastAFilesEnd_34 ?_
        refine lv_icmp_ge (tgt := 40) hx hb dX0_isPastAFilesEnd_35 (by decide) (fun c_35 => ?_) (fun c_35 => ?_)
        · refine lv_iinc (v := (nI (i + 1))) (lv' := [(4, .int (nI (i + 1))), (3, .int (nI ((k - 1) * 6))), (0, .ref ak), (1, .int (nI k)), (2, .ref aj)]) hx hb dX0_isPastAFilesEnd_40 hl (k := 0) rfl (nI_1 i) (by decide) rfl (fun ls hl => ?_)
          refine lv_goto (tgt := 10) hx hb dX0_isPastAFilesEnd_43 (by decide) ?_
          exact ih ((i + 1)) (by omega) (by omega) (lt_s hall c_35) _ _ (hP.sub [0, 1, 2, 3] rfl) (hD.sub [0, 1, 2, 3] (by decide) rfl) hS ls (lv_sub hl [0, 1, 2, 3, 4] rfl)
        · refine lv_iconst (v := 1) hx hb dX0_isPastAFilesEnd_38 (by decide) ?_
          have hP9 := hP.sub (ws' := [(ak, .inr (1, [.ref akw, .ref ake, .ref aku, .ref akn, .ref akc, .ref akp, .int (nI kb)])), (akp, .inl (cI, 600, .inl kp)), (aj, .inr (2, [.ref af, .ref al, .int (nI c), .int (nI f)])), (al, .inl (cI, 6, .inl ln))]) [0, 1, 2, 3] rfl
          have hD9 := hD.sub (ws' := [(ak, .inr (1, [.ref akw, .ref ake, .ref aku, .ref akn, .ref akc, .ref akp, .int (nI kb)])), (akp, .inl (cI, 600, .inl kp)), (aj, .inr (2, [.ref af, .ref al, .int (nI c), .int (nI f)])), (al, .inl (cI, 6, .inl ln))]) [0, 1, 2, 3] (by decide) rfl
          refine W.widen (k := 0) (n := 0) (Nat.le_of_ble_eq_true rfl) (Nat.le_of_ble_eq_true rfl) ?_
          exact W.zret (v := 1) hx hb hr (rfl) (fun t9 ht9 hW9 => ⟨⟨1, (), rfl, pe_no (by omega) c_35, by rw [ht9]; exact hP9, va_K.moved hW9.alike hK, hD9⟩, hS.F ht9⟩) hS.2.2 dX0_isPastAFilesEnd_39
  refine lv_iload_n hx hb dX0_isPastAFilesEnd_0 rfl (lv_at hl 1 rfl) ?_
  refine lv_iconst (v := 1) hx hb dX0_isPastAFilesEnd_1 (by decide) ?_
  refine lv_isub hx hb dX0_isPastAFilesEnd_2 ?_
  refine ct_topi (y := (nI (k - 1))) (pk_sub (a := k) (b := 1) (by omega)) ?_
  refine lv_bipush (v := 6) hx hb dX0_isPastAFilesEnd_3 (by decide) ?_
  refine lv_imul hx hb dX0_isPastAFilesEnd_5 ?_
  refine ct_topi (y := (nI ((k - 1) * 6))) (pk_mul (k - 1) 6) ?_
  refine lv_istore_n (lv' := [(3, .int (nI ((k - 1) * 6))), (0, .ref ak), (1, .int (nI k)), (2, .ref aj)]) hx hb dX0_isPastAFilesEnd_6 rfl hl (by decide) rfl (fun ls hl => ?_)
  refine lv_iconst (v := 0) hx hb dX0_isPastAFilesEnd_7 (by decide) ?_
  refine lv_istore (lv' := [(4, .int 0), (3, .int (nI ((k - 1) * 6))), (0, .ref ak), (1, .int (nI k)), (2, .ref aj)]) hx hb dX0_isPastAFilesEnd_8 hl (by decide) rfl (fun ls hl => ?_)
  exact key10 (f + 1) 0 (by omega) (by omega) lt_0 _ _ (hP.sub [0, 1, 2, 3] rfl) (hD.sub [0, 1, 2, 3] (by decide) rfl) hS ls (lv_sub hl [0, 1, 2, 3, 4] rfl)
abbrev rm_X0_putBack : Room := { frames := 1, cells := 0, slots := 0, locals := 40 }
abbrev qc_X0_putBack (D : va_G) (cI cL cZ : ClassId) (ak : Nat) (akw : Nat) (ake : Nat) (aku : Nat) (akn : Nat) (akc : Nat) (akp : Nat) (kw : Nat → Int32) (ke : Nat → Int32) (ku : Nat → Int32) (kn : Nat → Int32) (kc : Nat → Int64) (kp : Nat → Int32) (ap : Nat) (apc : Nat) (app : Nat) (cs : Nat → Int64) (ps : Nat → Int32) (aj : Nat) (af : Nat) (al : Nat) (c : Nat) (f : Nat) (fv : Nat → Int64) (ln : Nat → Int32) (u0 : Int32) (kb : Nat) (k : Nat) (n : Nat) (A : Nat → Prop) : Array Value → State → Outcome → State → Prop := va_Qv (fun (u : Unit) => True) (ct_B D vwCl [(cI, .int), (cL, .long), (cZ, .boolean)] A (fun (u : Unit) => [(ak, .inr (1, [.ref akw, .ref ake, .ref aku, .ref akn, .ref akc, .ref akp, .int (nI kb)])), (akw, .inl (cZ, 100, .inl kw)), (ake, .inl (cI, 100, .inl ke)), (aku, .inl (cI, 100, .inl ku)), (akn, .inl (cI, 100, .inl kn)), (akc, .inl (cL, 1200, .inr (.inl kc))), (akp, .inl (cI, 600, .inl kp)), (ap, .inr (3, [.ref aj, .ref apc, .ref app, .int (ku (k - 1))])), (apc, .inl (cL, 12, .inr (.inl (va_cpy kc (so_c cs fv c) ((k - 1) * 12) 0 n)))), (app, .inl (cI, 6, .inl (va_cpy kp (so_p ps 6) ((k - 1) * 6) 0 6))), (aj, .inr (2, [.ref af, .ref al, .int (nI c), .int (nI f)])), (af, .inl (cL, 12, .inr (.inl fv))), (al, .inl (cI, 6, .inl ln))])) A
set_option maxHeartbeats 4000000 in
set_option maxRecDepth 100000 in
theorem c_X0_putBack (l : Launch) (D : va_G) (cI cL cZ : ClassId) (ak : Nat) (akw : Nat) (ake : Nat) (aku : Nat) (akn : Nat) (akc : Nat) (akp : Nat) (kw : Nat → Int32) (ke : Nat → Int32) (ku : Nat → Int32) (kn : Nat → Int32) (kc : Nat → Int64) (kp : Nat → Int32) (ap : Nat) (apc : Nat) (app : Nat) (cs : Nat → Int64) (ps : Nat → Int32) (aj : Nat) (af : Nat) (al : Nat) (c : Nat) (f : Nat) (fv : Nat → Int64) (ln : Nat → Int32) (u0 : Int32) (kb : Nat) (k : Nat) (n : Nat) (sz : Nat) (hc : c ≤ 12) (hk1 : 1 ≤ k) (hk2 : k ≤ 100) (hn : n ≤ 12) (hkn : kn (k - 1) = nI n) : Met l yX0_putBack wsX0_putBack rm_X0_putBack (va_Pc [.ref ak, .int (nI k), .ref ap] (ct_P D vwCl [(cI, .int), (cL, .long), (cZ, .boolean)] [(ak, .inr (1, [.ref akw, .ref ake, .ref aku, .ref akn, .ref akc, .ref akp, .int (nI kb)])), (akw, .inl (cZ, 100, .inl kw)), (ake, .inl (cI, 100, .inl ke)), (aku, .inl (cI, 100, .inl ku)), (akn, .inl (cI, 100, .inl kn)), (akc, .inl (cL, 1200, .inr (.inl kc))), (akp, .inl (cI, 600, .inl kp)), (ap, .inr (3, [.ref aj, .ref apc, .ref app, .int u0])), (apc, .inl (cL, 12, .inr (.inl cs))), (app, .inl (cI, 6, .inl ps)), (aj, .inr (2, [.ref af, .ref al, .int (nI c), .int (nI f)])), (af, .inl (cL, 12, .inr (.inl fv))), (al, .inl (cI, 6, .inl ln))] sz)) (qc_X0_putBack D cI cL cZ ak akw ake aku akn akc akp kw ke ku kn kc kp ap apc app cs ps aj af al c f fv ln u0 kb k n (va_A [(ak, .inr (1, [.ref akw, .ref ake, .ref aku, .ref akn, .ref akc, .ref akp, .int (nI kb)])), (akw, .inl (cZ, 100, .inl kw)), (ake, .inl (cI, 100, .inl ke)), (aku, .inl (cI, 100, .inl ku)), (akn, .inl (cI, 100, .inl kn)), (akc, .inl (cL, 1200, .inr (.inl kc))), (akp, .inl (cI, 600, .inl kp)), (ap, .inr (3, [.ref aj, .ref apc, .ref app, .int u0])), (apc, .inl (cL, 12, .inr (.inl cs))), (app, .inl (cI, 6, .inl ps)), (aj, .inr (2, [.ref af, .ref al, .int (nI c), .int (nI f)])), (af, .inl (cL, 12, .inr (.inl fv))), (al, .inl (cI, 6, .inl ln))] sz)) 0 0 (va_A [(ak, .inr (1, [.ref akw, .ref ake, .ref aku, .ref akn, .ref akc, .ref akp, .int (nI kb)])), (akw, .inl (cZ, 100, .inl kw)), (ake, .inl (cI, 100, .inl ke)), (aku, .inl (cI, 100, .inl ku)), (akn, .inl (cI, 100, .inl kn)), (akc, .inl (cL, 1200, .inr (.inl kc))), (akp, .inl (cI, 600, .inl kp)), (ap, .inr (3, [.ref aj, .ref apc, .ref app, .int u0])), (apc, .inl (cL, 12, .inr (.inl cs))), (app, .inl (cI, 6, .inl ps)), (aj, .inr (2, [.ref af, .ref al, .int (nI c), .int (nI f)])), (af, .inl (cL, 12, .inr (.inl fv))), (al, .inl (cI, 6, .inl ln))] sz) := by
  refine Met.ofW (cc := cX0_putBack) (maxL := 4) (ret := none) (by decide) rfl ?_
  intro p e s m args below meth cd s₁ B hml hv
  obtain ⟨rfl, hsz, hP, hK, hD0⟩ := hv
  have hx := B.exec
  have hb := B.bytes
  have hr := B.returns
  have hts := atoms_spec (ws := wsX0_putBack) B.pre
  have iX0 : ∀ w ∈ wsX00, w ∈ wsX0_putBack := by decide +kernel
  have wf25 := hts (.fieldLink RX0 25 "CheckRestart$Checkpoints" "cells" "[J") (by decide +kernel)
  have iX2 : ∀ w ∈ wsX20, w ∈ wsX0_putBack := by decide +kernel
  have wf49 := hts (.fieldLink RX0 49 "CheckRestart$Progress" "cells" "[J") (by decide +kernel)
  have wf22 := hts (.fieldLink RX0 22 "CheckRestart$Checkpoints" "cellCounts" "[I") (by decide +kernel)
  have wp50 := hts (.methodLink RX0 50 arraycopyName) (by decide +kernel)
  have wp_n := hts (.native arraycopyName) (by decide +kernel)
  have wp_s := hts (.static arraycopyName) (by decide +kernel)
  have wp_i := hts (.initialized "java/lang/System") (by decide +kernel)
  have wf29 := hts (.fieldLink RX0 29 "CheckRestart$Checkpoints" "positions" "[I") (by decide +kernel)
  have wf56 := hts (.fieldLink RX0 56 "CheckRestart$Progress" "positions" "[I") (by decide +kernel)
  have wf19 := hts (.fieldLink RX0 19 "CheckRestart$Checkpoints" "units" "[I") (by decide +kernel)
  have wf36 := hts (.fieldLink RX0 36 "CheckRestart$Progress" "units" "I") (by decide +kernel)
  have hown : s.vm.findClass RX0 = some m.cls := findClass_of_methodNamed B.named
  have hlocks := B.notSynchronized
  subst hsz
  have hD := hD0.self (sz := s.heap.size)
  generalize hAe : va_A [(ak, .inr (1, [.ref akw, .ref ake, .ref aku, .ref akn, .ref akc, .ref akp, .int (nI kb)])), (akw, .inl (cZ, 100, .inl kw)), (ake, .inl (cI, 100, .inl ke)), (aku, .inl (cI, 100, .inl ku)), (akn, .inl (cI, 100, .inl kn)), (akc, .inl (cL, 1200, .inr (.inl kc))), (akp, .inl (cI, 600, .inl kp)), (ap, .inr (3, [.ref aj, .ref apc, .ref app, .int u0])), (apc, .inl (cL, 12, .inr (.inl cs))), (app, .inl (cI, 6, .inl ps)), (aj, .inr (2, [.ref af, .ref al, .int (nI c), .int (nI f)])), (af, .inl (cL, 12, .inr (.inl fv))), (al, .inl (cI, 6, .inl ln))] s.heap.size = A at hD ⊢
  have hA : ∀ q : Nat, s.heap.size ≤ q → A q := fun q h => by rw [← hAe]; exact Or.inr h
  have hS : va_S A s.heap s.heap [] := va_S.rf
  have hl := lv_entry ([.ref ak, .int (nI k), .ref ap]) (n := 4) (Nat.le_of_ble_eq_true rfl)
  rw [lg_entry_eq]
  generalize (lg_sl ([.ref ak, .int (nI k), .ref ap]) ++ List.replicate (4 - (lg_sl ([.ref ak, .int (nI k), .ref ap])).length) Slot.unset).toArray = ls at hl ⊢
  have hl : lv_has ls 4 [(0, .ref ak), (1, .int (nI k)), (2, .ref ap)] := hl
  refine lv_iload_n hx hb dX0_putBack_0 rfl (lv_at hl 1 rfl) ?_
  refine lv_iconst (v := 1) hx hb dX0_putBack_1 (by decide) ?_
  refine lv_isub hx hb dX0_putBack_2 ?_
  refine ct_topi (y := (nI (k - 1))) (pk_sub (a := k) (b := 1) (by omega)) ?_
  refine lv_istore_n (lv' := [(3, .int (nI (k - 1))), (0, .ref ak), (1, .int (nI k)), (2, .ref ap)]) hx hb dX0_putBack_3 rfl hl (by decide) rfl (fun ls hl => ?_)
  refine lv_aload_n hx hb dX0_putBack_4 rfl (lv_at hl 3 rfl) ?_
  refine ct_callv (wr := [(ak, .inr (1, [.ref akw, .ref ake, .ref aku, .ref akn, .ref akc, .ref akp, .int (nI kb)])), (akw, .inl (cZ, 100, .inl kw)), (ake, .inl (cI, 100, .inl ke)), (aku, .inl (cI, 100, .inl ku)), (akn, .inl (cI, 100, .inl kn)), (akc, .inl (cL, 1200, .inr (.inl kc))), (akp, .inl (cI, 600, .inl kp))]) (rest := []) hP hD hS hA [7, 8, 9, 10, 11, 12] [0, 1, 2, 3, 4, 5, 6] (va_runV (C := RX2) (As := []) ⟨hx, hb, hml, hown, hts⟩ (c_X2_startOver l D cI cL cZ ap apc app cs ps aj af al c f fv ln u0 _ (by omega)) (cwV 0 hts gX0_putBack_X2_startOver rfl rfl rfl (by decide +kernel) ⟨Nat.le_of_ble_eq_true rfl, Nat.le_of_ble_eq_true rfl⟩) (ct_preV (q0 := 0) (ci := 3) hK hP hD [7, 8, 9, 10, 11, 12] (by decide) rfl rfl rfl rfl rfl) rfl rfl hl.1 rfl (lv_room (Nat.le_of_ble_eq_true rfl)) dX0_putBack_5 ⟨Nat.le_of_ble_eq_true rfl, Nat.le_of_ble_eq_true rfl⟩) rfl rfl (by decide) (by decide) (fun u H locs hw hP hD hS => ?_)
  obtain ⟨cs1_2, ps1_3⟩ := u
  try dsimp only at hw
  obtain ⟨rfl, rfl⟩ := hw
  have hP : va_P D vwCl [(ak, .inr (1, [.ref akw, .ref ake, .ref aku, .ref akn, .ref akc, .ref akp, .int (nI kb)])), (akw, .inl (cZ, 100, .inl kw)), (ake, .inl (cI, 100, .inl ke)), (aku, .inl (cI, 100, .inl ku)), (akn, .inl (cI, 100, .inl kn)), (akc, .inl (cL, 1200, .inr (.inl kc))), (akp, .inl (cI, 600, .inl kp)), (ap, .inr (3, [.ref aj, .ref apc, .ref app, .int 0])), (apc, .inl (cL, 12, .inr (.inl (so_c cs fv c)))), (app, .inl (cI, 6, .inl (so_p ps 6))), (aj, .inr (2, [.ref af, .ref al, .int (nI c), .int (nI f)])), (af, .inl (cL, 12, .inr (.inl fv))), (al, .inl (cI, 6, .inl ln))] H := hP
  have hD : va_D A [(ak, .inr (1, [.ref akw, .ref ake, .ref aku, .ref akn, .ref akc, .ref akp, .int (nI kb)])), (akw, .inl (cZ, 100, .inl kw)), (ake, .inl (cI, 100, .inl ke)), (aku, .inl (cI, 100, .inl ku)), (akn, .inl (cI, 100, .inl kn)), (akc, .inl (cL, 1200, .inr (.inl kc))), (akp, .inl (cI, 600, .inl kp)), (ap, .inr (3, [.ref aj, .ref apc, .ref app, .int 0])), (apc, .inl (cL, 12, .inr (.inl (so_c cs fv c)))), (app, .inl (cI, 6, .inl (so_p ps 6))), (aj, .inr (2, [.ref af, .ref al, .int (nI c), .int (nI f)])), (af, .inl (cL, 12, .inr (.inl fv))), (al, .inl (cI, 6, .inl ln))] := hD
  refine lv_aload_n hx hb dX0_putBack_8 rfl (lv_at hl 1 rfl) ?_
  refine va_get (D := D) (ci := 1) (v := .ref akc) (C := RX0) (T := TX0) (N := 7) hx hb hts iX0 hown hK hP 0 rfl rfl 4 (by decide) wf25 (fun _ h9 => h9) rfl dX0_putBack_9 ?_
  refine lv_iload_n hx hb dX0_putBack_12 rfl (lv_at hl 0 rfl) ?_
  refine lv_bipush (v := 12) hx hb dX0_putBack_13 (by decide) ?_
  refine lv_imul hx hb dX0_putBack_15 ?_
  refine ct_topi (y := (nI ((k - 1) * 12))) (pk_mul (k - 1) 12) ?_
  refine lv_aload_n hx hb dX0_putBack_16 rfl (lv_at hl 3 rfl) ?_
  refine va_get (D := D) (ci := 3) (v := .ref apc) (C := RX2) (T := TX2) (N := 4) hx hb hts iX2 hown hK hP 7 rfl rfl 1 (by decide) wf49 (fun _ h9 => h9) rfl dX0_putBack_17 ?_
  refine lv_iconst (v := 0) hx hb dX0_putBack_20 (by decide) ?_
  refine lv_aload_n hx hb dX0_putBack_21 rfl (lv_at hl 1 rfl) ?_
  refine va_get (D := D) (ci := 1) (v := .ref akn) (C := RX0) (T := TX0) (N := 7) hx hb hts iX0 hown hK hP 0 rfl rfl 3 (by decide) wf22 (fun _ h9 => h9) rfl dX0_putBack_22 ?_
  refine lv_iload_n hx hb dX0_putBack_25 rfl (lv_at hl 0 rfl) ?_
  refine ct_iald (k := (k - 1)) hx hb hK hP 4 0 rfl rfl (by omega) (by decide) dX0_putBack_26 ?_
  refine ct_topi (y := (nI n)) (hkn) ?_
  refine ct_copyl hx hb (hml.trans hl.1.symm) hown wp50 wp_n wp_s wp_i hK hP hD hS ((k - 1) * 12) 0 n 5 8 1 rfl rfl rfl (by omega) (by omega) (by omega) (by omega) (by omega) (Nat.le_of_ble_eq_true rfl) (Nat.le_of_ble_eq_true rfl) dX0_putBack_27 (fun H locs hP hD hS => ?_)
  have hP : va_P D vwCl [(ak, .inr (1, [.ref akw, .ref ake, .ref aku, .ref akn, .ref akc, .ref akp, .int (nI kb)])), (akw, .inl (cZ, 100, .inl kw)), (ake, .inl (cI, 100, .inl ke)), (aku, .inl (cI, 100, .inl ku)), (akn, .inl (cI, 100, .inl kn)), (akc, .inl (cL, 1200, .inr (.inl kc))), (akp, .inl (cI, 600, .inl kp)), (ap, .inr (3, [.ref aj, .ref apc, .ref app, .int 0])), (apc, .inl (cL, 12, .inr (.inl (va_cpy kc (so_c cs fv c) ((k - 1) * 12) 0 n)))), (app, .inl (cI, 6, .inl (so_p ps 6))), (aj, .inr (2, [.ref af, .ref al, .int (nI c), .int (nI f)])), (af, .inl (cL, 12, .inr (.inl fv))), (al, .inl (cI, 6, .inl ln))] H := hP
  have hD : va_D A [(ak, .inr (1, [.ref akw, .ref ake, .ref aku, .ref akn, .ref akc, .ref akp, .int (nI kb)])), (akw, .inl (cZ, 100, .inl kw)), (ake, .inl (cI, 100, .inl ke)), (aku, .inl (cI, 100, .inl ku)), (akn, .inl (cI, 100, .inl kn)), (akc, .inl (cL, 1200, .inr (.inl kc))), (akp, .inl (cI, 600, .inl kp)), (ap, .inr (3, [.ref aj, .ref apc, .ref app, .int 0])), (apc, .inl (cL, 12, .inr (.inl (va_cpy kc (so_c cs fv c) ((k - 1) * 12) 0 n)))), (app, .inl (cI, 6, .inl (so_p ps 6))), (aj, .inr (2, [.ref af, .ref al, .int (nI c), .int (nI f)])), (af, .inl (cL, 12, .inr (.inl fv))), (al, .inl (cI, 6, .inl ln))] := hD
  refine lv_aload_n hx hb dX0_putBack_30 rfl (lv_at hl 1 rfl) ?_
  refine va_get (D := D) (ci := 1) (v := .ref akp) (C := RX0) (T := TX0) (N := 7) hx hb hts iX0 hown hK hP 0 rfl rfl 5 (by decide) wf29 (fun _ h9 => h9) rfl dX0_putBack_31 ?_
  refine lv_iload_n hx hb dX0_putBack_34 rfl (lv_at hl 0 rfl) ?_
  refine lv_bipush (v := 6) hx hb dX0_putBack_35 (by decide) ?_
  refine lv_imul hx hb dX0_putBack_37 ?_
  refine ct_topi (y := (nI ((k - 1) * 6))) (pk_mul (k - 1) 6) ?_
  refine lv_aload_n hx hb dX0_putBack_38 rfl (lv_at hl 3 rfl) ?_
  refine va_get (D := D) (ci := 3) (v := .ref app) (C := RX2) (T := TX2) (N := 4) hx hb hts iX2 hown hK hP 7 rfl rfl 2 (by decide) wf56 (fun _ h9 => h9) rfl dX0_putBack_39 ?_
  refine lv_iconst (v := 0) hx hb dX0_putBack_42 (by decide) ?_
  refine lv_bipush (v := 6) hx hb dX0_putBack_43 (by decide) ?_
  refine ct_copyi hx hb (hml.trans hl.1.symm) hown wp50 wp_n wp_s wp_i hK hP hD hS ((k - 1) * 6) 0 6 6 9 0 rfl rfl rfl (by omega) (by omega) (by omega) (by omega) (by omega) (Nat.le_of_ble_eq_true rfl) (Nat.le_of_ble_eq_true rfl) dX0_putBack_45 (fun H locs hP hD hS => ?_)
  have hP : va_P D vwCl [(ak, .inr (1, [.ref akw, .ref ake, .ref aku, .ref akn, .ref akc, .ref akp, .int (nI kb)])), (akw, .inl (cZ, 100, .inl kw)), (ake, .inl (cI, 100, .inl ke)), (aku, .inl (cI, 100, .inl ku)), (akn, .inl (cI, 100, .inl kn)), (akc, .inl (cL, 1200, .inr (.inl kc))), (akp, .inl (cI, 600, .inl kp)), (ap, .inr (3, [.ref aj, .ref apc, .ref app, .int 0])), (apc, .inl (cL, 12, .inr (.inl (va_cpy kc (so_c cs fv c) ((k - 1) * 12) 0 n)))), (app, .inl (cI, 6, .inl (va_cpy kp (so_p ps 6) ((k - 1) * 6) 0 6))), (aj, .inr (2, [.ref af, .ref al, .int (nI c), .int (nI f)])), (af, .inl (cL, 12, .inr (.inl fv))), (al, .inl (cI, 6, .inl ln))] H := hP
  have hD : va_D A [(ak, .inr (1, [.ref akw, .ref ake, .ref aku, .ref akn, .ref akc, .ref akp, .int (nI kb)])), (akw, .inl (cZ, 100, .inl kw)), (ake, .inl (cI, 100, .inl ke)), (aku, .inl (cI, 100, .inl ku)), (akn, .inl (cI, 100, .inl kn)), (akc, .inl (cL, 1200, .inr (.inl kc))), (akp, .inl (cI, 600, .inl kp)), (ap, .inr (3, [.ref aj, .ref apc, .ref app, .int 0])), (apc, .inl (cL, 12, .inr (.inl (va_cpy kc (so_c cs fv c) ((k - 1) * 12) 0 n)))), (app, .inl (cI, 6, .inl (va_cpy kp (so_p ps 6) ((k - 1) * 6) 0 6))), (aj, .inr (2, [.ref af, .ref al, .int (nI c), .int (nI f)])), (af, .inl (cL, 12, .inr (.inl fv))), (al, .inl (cI, 6, .inl ln))] := hD
  refine lv_aload_n hx hb dX0_putBack_48 rfl (lv_at hl 3 rfl) ?_
  refine lv_aload_n hx hb dX0_putBack_49 rfl (lv_at hl 1 rfl) ?_
  refine va_get (D := D) (ci := 1) (v := .ref aku) (C := RX0) (T := TX0) (N := 7) hx hb hts iX0 hown hK hP 0 rfl rfl 2 (by decide) wf19 (fun _ h9 => h9) rfl dX0_putBack_50 ?_
  refine lv_iload_n hx hb dX0_putBack_53 rfl (lv_at hl 0 rfl) ?_
  refine ct_iald (k := (k - 1)) hx hb hK hP 3 0 rfl rfl (by omega) (by decide) dX0_putBack_54 ?_
  refine va_put (D := D) (ci := 3) (v := .int (ku (k - 1))) (ty := .int) (C := RX2) (T := TX2) (N := 4) hx hb hts iX2 tyX2 tyX2_ok nmX2 hown hK hP hD hS 7 rfl rfl 3 (by decide) wf36 (fun _ h9 => h9) rfl (by decide +kernel) rfl rfl (Nat.le_of_ble_eq_true rfl) dX0_putBack_55 (fun H locs hP hD hS => ?_)
  have hP : va_P D vwCl [(ak, .inr (1, [.ref akw, .ref ake, .ref aku, .ref akn, .ref akc, .ref akp, .int (nI kb)])), (akw, .inl (cZ, 100, .inl kw)), (ake, .inl (cI, 100, .inl ke)), (aku, .inl (cI, 100, .inl ku)), (akn, .inl (cI, 100, .inl kn)), (akc, .inl (cL, 1200, .inr (.inl kc))), (akp, .inl (cI, 600, .inl kp)), (ap, .inr (3, [.ref aj, .ref apc, .ref app, .int (ku (k - 1))])), (apc, .inl (cL, 12, .inr (.inl (va_cpy kc (so_c cs fv c) ((k - 1) * 12) 0 n)))), (app, .inl (cI, 6, .inl (va_cpy kp (so_p ps 6) ((k - 1) * 6) 0 6))), (aj, .inr (2, [.ref af, .ref al, .int (nI c), .int (nI f)])), (af, .inl (cL, 12, .inr (.inl fv))), (al, .inl (cI, 6, .inl ln))] H := hP
  have hD : va_D A [(ak, .inr (1, [.ref akw, .ref ake, .ref aku, .ref akn, .ref akc, .ref akp, .int (nI kb)])), (akw, .inl (cZ, 100, .inl kw)), (ake, .inl (cI, 100, .inl ke)), (aku, .inl (cI, 100, .inl ku)), (akn, .inl (cI, 100, .inl kn)), (akc, .inl (cL, 1200, .inr (.inl kc))), (akp, .inl (cI, 600, .inl kp)), (ap, .inr (3, [.ref aj, .ref apc, .ref app, .int (ku (k - 1))])), (apc, .inl (cL, 12, .inr (.inl (va_cpy kc (so_c cs fv c) ((k - 1) * 12) 0 n)))), (app, .inl (cI, 6, .inl (va_cpy kp (so_p ps 6) ((k - 1) * 6) 0 6))), (aj, .inr (2, [.ref af, .ref al, .int (nI c), .int (nI f)])), (af, .inl (cL, 12, .inr (.inl fv))), (al, .inl (cI, 6, .inl ln))] := hD
  have hP9 := hP.sub (ws' := [(ak, .inr (1, [.ref akw, .ref ake, .ref aku, .ref akn, .ref akc, .ref akp, .int (nI kb)])), (akw, .inl (cZ, 100, .inl kw)), (ake, .inl (cI, 100, .inl ke)), (aku, .inl (cI, 100, .inl ku)), (akn, .inl (cI, 100, .inl kn)), (akc, .inl (cL, 1200, .inr (.inl kc))), (akp, .inl (cI, 600, .inl kp)), (ap, .inr (3, [.ref aj, .ref apc, .ref app, .int (ku (k - 1))])), (apc, .inl (cL, 12, .inr (.inl (va_cpy kc (so_c cs fv c) ((k - 1) * 12) 0 n)))), (app, .inl (cI, 6, .inl (va_cpy kp (so_p ps 6) ((k - 1) * 6) 0 6))), (aj, .inr (2, [.ref af, .ref al, .int (nI c), .int (nI f)])), (af, .inl (cL, 12, .inr (.inl fv))), (al, .inl (cI, 6, .inl ln))]) [0, 1, 2, 3, 4, 5, 6, 7, 8, 9, 10, 11, 12] rfl
  have hD9 := hD.sub (ws' := [(ak, .inr (1, [.ref akw, .ref ake, .ref aku, .ref akn, .ref akc, .ref akp, .int (nI kb)])), (akw, .inl (cZ, 100, .inl kw)), (ake, .inl (cI, 100, .inl ke)), (aku, .inl (cI, 100, .inl ku)), (akn, .inl (cI, 100, .inl kn)), (akc, .inl (cL, 1200, .inr (.inl kc))), (akp, .inl (cI, 600, .inl kp)), (ap, .inr (3, [.ref aj, .ref apc, .ref app, .int (ku (k - 1))])), (apc, .inl (cL, 12, .inr (.inl (va_cpy kc (so_c cs fv c) ((k - 1) * 12) 0 n)))), (app, .inl (cI, 6, .inl (va_cpy kp (so_p ps 6) ((k - 1) * 6) 0 6))), (aj, .inr (2, [.ref af, .ref al, .int (nI c), .int (nI f)])), (af, .inl (cL, 12, .inr (.inl fv))), (al, .inl (cI, 6, .inl ln))]) [0, 1, 2, 3, 4, 5, 6, 7, 8, 9, 10, 11, 12] (by decide) rfl
  refine W.widen (k := 0) (n := 0) (Nat.le_of_ble_eq_true rfl) (Nat.le_of_ble_eq_true rfl) ?_
  exact W.vret hx hb hr (fun t9 ht9 hW9 => ⟨⟨(), rfl, trivial, by rw [ht9]; exact hP9, va_K.moved hW9.alike hK, hD9⟩, hS.F ht9⟩) hS.2.2 dX0_putBack_58
