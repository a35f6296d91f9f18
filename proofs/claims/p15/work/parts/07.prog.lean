abbrev rm_X2_startOver : Room := { frames := 0, cells := 0, slots := 0, locals := 0 }
abbrev qc_X2_startOver (D : va_G) (cI cL cZ : ClassId) (ap : Nat) (apc : Nat) (app : Nat) (cs : Nat → Int64) (ps : Nat → Int32) (aj : Nat) (af : Nat) (al : Nat) (c : Nat) (f : Nat) (fv : Nat → Int64) (ln : Nat → Int32) (u0 : Int32) (A : Nat → Prop) : Array Value → State → Outcome → State → Prop := va_Qv (fun (u : (Nat → Int64) × (Nat → Int32)) => (so_c cs fv c) = u.1 ∧ (so_p ps 6) = u.2) (ct_B D vwCl [(cI, .int), (cL, .long), (cZ, .boolean)] A (fun (u : (Nat → Int64) × (Nat → Int32)) => [(ap, .inr (3, [.ref aj, .ref apc, .ref app, .int 0])), (apc, .inl (cL, 12, .inr (.inl u.1))), (app, .inl (cI, 6, .inl u.2)), (aj, .inr (2, [.ref af, .ref al, .int (nI c), .int (nI f)])), (af, .inl (cL, 12, .inr (.inl fv))), (al, .inl (cI, 6, .inl ln))])) A
set_option maxHeartbeats 4000000 in
set_option maxRecDepth 100000 in
theorem c_X2_startOver (l : Launch) (D : va_G) (cI cL cZ : ClassId) (ap : Nat) (apc : Nat) (app : Nat) (cs : Nat → Int64) (ps : Nat → Int32) (aj : Nat) (af : Nat) (al : Nat) (c : Nat) (f : Nat) (fv : Nat → Int64) (ln : Nat → Int32) (u0 : Int32) (sz : Nat) (hc : c ≤ 12) : Met l yX2_startOver wsX2_startOver rm_X2_startOver (va_Pc [.ref ap] (ct_P D vwCl [(cI, .int), (cL, .long), (cZ, .boolean)] [(ap, .inr (3, [.ref aj, .ref apc, .ref app, .int u0])), (apc, .inl (cL, 12, .inr (.inl cs))), (app, .inl (cI, 6, .inl ps)), (aj, .inr (2, [.ref af, .ref al, .int (nI c), .int (nI f)])), (af, .inl (cL, 12, .inr (.inl fv))), (al, .inl (cI, 6, .inl ln))] sz)) (qc_X2_startOver D cI cL cZ ap apc app cs ps aj af al c f fv ln u0 (va_A [(ap, .inr (3, [.ref aj, .ref apc, .ref app, .int u0])), (apc, .inl (cL, 12, .inr (.inl cs))), (app, .inl (cI, 6, .inl ps)), (aj, .inr (2, [.ref af, .ref al, .int (nI c), .int (nI f)])), (af, .inl (cL, 12, .inr (.inl fv))), (al, .inl (cI, 6, .inl ln))] sz)) 0 0 (va_A [(ap, .inr (3, [.ref aj, .ref apc, .ref app, .int u0])), (apc, .inl (cL, 12, .inr (.inl cs))), (app, .inl (cI, 6, .inl ps)), (aj, .inr (2, [.ref af, .ref al, .int (nI c), .int (nI f)])), (af, .inl (cL, 12, .inr (.inl fv))), (al, .inl (cI, 6, .inl ln))] sz) := by
  refine Met.ofW (cc := cX2_startOver) (maxL := 2) (ret := none) (by decide) rfl ?_
  intro p e s m args below meth cd s₁ B hml hv
  obtain ⟨rfl, hsz, hP, hK, hD0⟩ := hv
  have hx := B.exec
  have hb := B.bytes
  have hr := B.returns
  have hts := atoms_spec (ws := wsX2_startOver) B.pre
  have iX2 : ∀ w ∈ wsX20, w ∈ wsX2_startOver := by decide +kernel
  have wf19 := hts (.fieldLink RX2 19 "CheckRestart$Progress" "units" "I") (by decide +kernel)
  have wf15 := hts (.fieldLink RX2 15 "CheckRestart$Progress" "positions" "[I") (by decide +kernel)
  have wf23 := hts (.fieldLink RX2 23 "CheckRestart$Progress" "job" "LCheckRestart$Job;") (by decide +kernel)
  have iX1 : ∀ w ∈ wsX10, w ∈ wsX2_startOver := by decide +kernel
  have wf27 := hts (.fieldLink RX2 27 "CheckRestart$Job" "cellCount" "I") (by decide +kernel)
  have wf9 := hts (.fieldLink RX2 9 "CheckRestart$Progress" "cells" "[J") (by decide +kernel)
  have wf32 := hts (.fieldLink RX2 32 "CheckRestart$Job" "firstValues" "[J") (by decide +kernel)
  have hown : s.vm.findClass RX2 = some m.cls := findClass_of_methodNamed B.named
  have hlocks := B.notSynchronized
  subst hsz
  have hD := hD0.self (sz := s.heap.size)
  generalize hAe : va_A [(ap, .inr (3, [.ref aj, .ref apc, .ref app, .int u0])), (apc, .inl (cL, 12, .inr (.inl cs))), (app, .inl (cI, 6, .inl ps)), (aj, .inr (2, [.ref af, .ref al, .int (nI c), .int (nI f)])), (af, .inl (cL, 12, .inr (.inl fv))), (al, .inl (cI, 6, .inl ln))] s.heap.size = A at hD ⊢
  have hA : ∀ q : Nat, s.heap.size ≤ q → A q := fun q h => by rw [← hAe]; exact Or.inr h
  have hS : va_S A s.heap s.heap [] := va_S.rf
  have hl := lv_entry ([.ref ap]) (n := 2) (Nat.le_of_ble_eq_true rfl)
  rw [lg_entry_eq]
  generalize (lg_sl ([.ref ap]) ++ List.replicate (2 - (lg_sl ([.ref ap])).length) Slot.unset).toArray = ls at hl ⊢
  have hl : lv_has ls 2 [(0, .ref ap)] := hl
  have key36 : ∀ (n : Nat) (i : Nat) (ps2 : Nat → Int32), (i ≤ 6) → (7 ≤ i + n) → (ps2 = so_p ps i) → ∀ (H : Heap) (locs : List Loc), va_P D vwCl [(ap, .inr (3, [.ref aj, .ref apc, .ref app, .int u0])), (apc, .inl (cL, 12, .inr (.inl (so_c cs fv c)))), (app, .inl (cI, 6, .inl ps2)), (aj, .inr (2, [.ref af, .ref al, .int (nI c), .int (nI f)])), (af, .inl (cL, 12, .inr (.inl fv))), (al, .inl (cI, 6, .inl ln))] H → va_D A [(ap, .inr (3, [.ref aj, .ref apc, .ref app, .int u0])), (apc, .inl (cL, 12, .inr (.inl (so_c cs fv c)))), (app, .inl (cI, 6, .inl ps2)), (aj, .inr (2, [.ref af, .ref al, .int (nI c), .int (nI f)])), (af, .inl (cL, 12, .inr (.inl fv))), (al, .inl (cI, 6, .inl ln))] → va_S A s.heap H locs → ∀ (ls : Array Slot), lv_has ls 2 [(1, .int (nI i)), (0, .ref ap)] → W p l e (headSpec wsX2_startOver rm_X2_startOver).room s m ([.ref ap] : List Value).toArray below meth cd H locs 0 0 (MQ below (qc_X2_startOver D cI cL cZ ap apc app cs ps aj af al c f fv ln u0 A) ([.ref ap] : List Value).toArray s 0 0 A) (F0 m 36 ls []) := by
    intro n
    induction n with
    | zero => intro i ps2 hi hm hps; exact absurd hm (by omega)
    | succ n ih =>
      intro i ps2 hi hm hps H locs hP hD hS ls hl
      refine lv_iload_n hx hb dX2_startOver_36 rfl (lv_at hl 0 rfl) ?_
      refine lv_bipush (v := 6) hx hb dX2_startOver_37 (by decide) ?_
      refine lv_icmp_ge (tgt := 55) hx hb dX2_startOver_39 (by decide) (fun c_39 => ?_) (fun c_39 => ?_)
      · have h1 : 6 ≤ i := (nI_leI (a := 6) (b := i) (by omega) (by omega)).mp c_39
        have h2 : i = 6 := by omega
        have hps : ps2 = so_p ps 6 := by rw [hps, h2]
        subst hps
        refine lv_aload_n hx hb dX2_startOver_55 rfl (lv_at hl 1 rfl) ?_
        refine lv_iconst (v := 0) hx hb dX2_startOver_56 (by decide) ?_
        refine va_put (D := D) (ci := 3) (v := .int 0) (ty := .int) (C := RX2) (T := TX2) (N := 4) hx hb hts iX2 tyX2 tyX2_ok nmX2 hown hK hP hD hS 0 rfl rfl 3 (by decide) wf19 (fun _ h9 => h9) rfl (by decide +kernel) rfl rfl (Nat.le_of_ble_eq_true rfl) dX2_startOver_57 (fun H locs hP hD hS => ?_)
        have hP : va_P D vwCl [(ap, .inr (3, [.ref aj, .ref apc, .ref app, .int 0])), (apc, .inl (cL, 12, .inr (.inl (so_c cs fv c)))), (app, .inl (cI, 6, .inl (so_p ps 6))), (aj, .inr (2, [.ref af, .ref al, .int (nI c), .int (nI f)])), (af, .inl (cL, 12, .inr (.inl fv))), (al, .inl (cI, 6, .inl ln))] H := hP
        have hD : va_D A [(ap, .inr (3, [.ref aj, .ref apc, .ref app, .int 0])), (apc, .inl (cL, 12, .inr (.inl (so_c cs fv c)))), (app, .inl (cI, 6, .inl (so_p ps 6))), (aj, .inr (2, [.ref af, .ref al, .int (nI c), .int (nI f)])), (af, .inl (cL, 12, .inr (.inl fv))), (al, .inl (cI, 6, .inl ln))] := hD
        have hP9 := hP.sub (ws' := [(ap, .inr (3, [.ref aj, .ref apc, .ref app, .int 0])), (apc, .inl (cL, 12, .inr (.inl (so_c cs fv c)))), (app, .inl (cI, 6, .inl (so_p ps 6))), (aj, .inr (2, [.ref af, .ref al, .int (nI c), .int (nI f)])), (af, .inl (cL, 12, .inr (.inl fv))), (al, .inl (cI, 6, .inl ln))]) [0, 1, 2, 3, 4, 5] rfl
        have hD9 := hD.sub (ws' := [(ap, .inr (3, [.ref aj, .ref apc, .ref app, .int 0])), (apc, .inl (cL, 12, .inr (.inl (so_c cs fv c)))), (app, .inl (cI, 6, .inl (so_p ps 6))), (aj, .inr (2, [.ref af, .ref al, .int (nI c), .int (nI f)])), (af, .inl (cL, 12, .inr (.inl fv))), (al, .inl (cI, 6, .inl ln))]) [0, 1, 2, 3, 4, 5] (by decide) rfl
        refine W.widen (k := 0) (n := 0) (Nat.le_of_ble_eq_true rfl) (Nat.le_of_ble_eq_true rfl) ?_
        exact W.vret hx hb hr (fun t9 ht9 hW9 => ⟨⟨((so_c cs fv c), (so_p ps 6)), rfl, ⟨rfl, rfl⟩, by rw [ht9]; exact hP9, va_K.moved hW9.alike hK, hD9⟩, hS.F ht9⟩) hS.2.2 dX2_startOver_60
      · have h1 : ¬ 6 ≤ i := fun h => c_39 ((nI_leI (a := 6) (b := i) (by omega) (by omega)).mpr h)
        refine lv_aload_n hx hb dX2_startOver_42 rfl (lv_at hl 1 rfl) ?_
        refine va_get (D := D) (ci := 3) (v := .ref app) (C := RX2) (T := TX2) (N := 4) hx hb hts iX2 hown hK hP 0 rfl rfl 2 (by decide) wf15 (fun _ h9 => h9) rfl dX2_startOver_43 ?_
        refine lv_iload_n hx hb dX2_startOver_46 rfl (lv_at hl 0 rfl) ?_
        refine lv_iconst (v := 0) hx hb dX2_startOver_47 (by decide) ?_
        refine ct_iast (k := i) hx hb hK hP hD hS 2 0 rfl rfl (by omega) (by decide) dX2_startOver_48 (fun H locs hP hD hS => ?_)
        have hP : va_P D vwCl [(ap, .inr (3, [.ref aj, .ref apc, .ref app, .int u0])), (apc, .inl (cL, 12, .inr (.inl (so_c cs fv c)))), (app, .inl (cI, 6, .inl (upd ps2 i 0))), (aj, .inr (2, [.ref af, .ref al, .int (nI c), .int (nI f)])), (af, .inl (cL, 12, .inr (.inl fv))), (al, .inl (cI, 6, .inl ln))] H := hP
        have hD : va_D A [(ap, .inr (3, [.ref aj, .ref apc, .ref app, .int u0])), (apc, .inl (cL, 12, .inr (.inl (so_c cs fv c)))), (app, .inl (cI, 6, .inl (upd ps2 i 0))), (aj, .inr (2, [.ref af, .ref al, .int (nI c), .int (nI f)])), (af, .inl (cL, 12, .inr (.inl fv))), (al, .inl (cI, 6, .inl ln))] := hD
        refine lv_iinc (v := (nI (i + 1))) (lv' := [(1, .int (nI (i + 1))), (0, .ref ap)]) hx hb dX2_startOver_49 hl (k := 0) rfl (nI_1 i) (by decide) rfl (fun ls hl => ?_)
        refine lv_goto (tgt := 36) hx hb dX2_startOver_52 (by decide) ?_
        exact ih ((i + 1)) (upd ps2 i 0) (by omega) (by omega) (by rw [hps]; exact so_p_step ps i) _ _ (hP.sub [0, 1, 2, 3, 4, 5] rfl) (hD.sub [0, 1, 2, 3, 4, 5] (by decide) rfl) hS ls (lv_sub hl [0, 1] rfl)
  have key2 : ∀ (n : Nat) (i : Nat) (cs2 : Nat → Int64), (i ≤ c) → (c + 1 ≤ i + n) → (cs2 = so_c cs fv i) → ∀ (H : Heap) (locs : List Loc), va_P D vwCl [(ap, .inr (3, [.ref aj, .ref apc, .ref app, .int u0])), (apc, .inl (cL, 12, .inr (.inl cs2))), (app, .inl (cI, 6, .inl ps)), (aj, .inr (2, [.ref af, .ref al, .int (nI c), .int (nI f)])), (af, .inl (cL, 12, .inr (.inl fv))), (al, .inl (cI, 6, .inl ln))] H → va_D A [(ap, .inr (3, [.ref aj, .ref apc, .ref app, .int u0])), (apc, .inl (cL, 12, .inr (.inl cs2))), (app, .inl (cI, 6, .inl ps)), (aj, .inr (2, [.ref af, .ref al, .int (nI c), .int (nI f)])), (af, .inl (cL, 12, .inr (.inl fv))), (al, .inl (cI, 6, .inl ln))] → va_S A s.heap H locs → ∀ (ls : Array Slot), lv_has ls 2 [(1, .int (nI i)), (0, .ref ap)] → W p l e (headSpec wsX2_startOver rm_X2_startOver).room s m ([.ref ap] : List Value).toArray below meth cd H locs 0 0 (MQ below (qc_X2_startOver D cI cL cZ ap apc app cs ps aj af al c f fv ln u0 A) ([.ref ap] : List Value).toArray s 0 0 A) (F0 m 2 ls []) := by
    intro n
    induction n with
    | zero => intro i cs2 hi hm hcs; exact absurd hm (by omega)
    | succ n ih =>
      intro i cs2 hi hm hcs H locs hP hD hS ls hl
      refine lv_iload_n hx hb dX2_startOver_2 rfl (lv_at hl 0 rfl) ?_
      refine lv_aload_n hx hb dX2_startOver_3 rfl (lv_at hl 1 rfl) ?_
      refine va_get (D := D) (ci := 3) (v := .ref aj) (C := RX2) (T := TX2) (N := 4) hx hb hts iX2 hown hK hP 0 rfl rfl 0 (by decide) wf23 (fun _ h9 => h9) rfl dX2_startOver_4 ?_
      refine va_get (D := D) (ci := 2) (v := .int (nI c)) (C := RX1) (T := TX1) (N := 4) hx hb hts iX1 hown hK hP 3 rfl rfl 2 (by decide) wf27 (fun _ h9 => h9) rfl dX2_startOver_7 ?_
      refine lv_icmp_ge (tgt := 34) hx hb dX2_startOver_10 (by decide) (fun c_10 => ?_) (fun c_10 => ?_)
      · have h1 : c ≤ i := (nI_leI (by omega) (by omega)).mp c_10
        have h2 : i = c := by omega
        have hcs : cs2 = so_c cs fv c := by rw [hcs, h2]
        subst hcs
        refine lv_iconst (v := 0) hx hb dX2_startOver_34 (by decide) ?_
        refine lv_istore_n (lv' := [(1, .int 0), (0, .ref ap)]) hx hb dX2_startOver_35 rfl hl (by decide) rfl (fun ls hl => ?_)
        exact key36 7 0 ps (by omega) (by omega) (so_p_0 ps) _ _ (hP.sub [0, 1, 2, 3, 4, 5] rfl) (hD.sub [0, 1, 2, 3, 4, 5] (by decide) rfl) hS ls (lv_sub hl [0, 1] rfl)
      · have h1 : ¬ c ≤ i := fun h => c_10 ((nI_leI (by omega) (by omega)).mpr h)
        refine lv_aload_n hx hb dX2_startOver_13 rfl (lv_at hl 1 rfl) ?_
        refine va_get (D := D) (ci := 3) (v := .ref apc) (C := RX2) (T := TX2) (N := 4) hx hb hts iX2 hown hK hP 0 rfl rfl 1 (by decide) wf9 (fun _ h9 => h9) rfl dX2_startOver_14 ?_
        refine lv_iload_n hx hb dX2_startOver_17 rfl (lv_at hl 0 rfl) ?_
        refine lv_aload_n hx hb dX2_startOver_18 rfl (lv_at hl 1 rfl) ?_
        refine va_get (D := D) (ci := 3) (v := .ref aj) (C := RX2) (T := TX2) (N := 4) hx hb hts iX2 hown hK hP 0 rfl rfl 0 (by decide) wf23 (fun _ h9 => h9) rfl dX2_startOver_19 ?_
        refine va_get (D := D) (ci := 2) (v := .ref af) (C := RX1) (T := TX1) (N := 4) hx hb hts iX1 hown hK hP 3 rfl rfl 0 (by decide) wf32 (fun _ h9 => h9) rfl dX2_startOver_22 ?_
        refine lv_iload_n hx hb dX2_startOver_25 rfl (lv_at hl 0 rfl) ?_
        refine ct_lald (k := i) hx hb hK hP 4 1 rfl rfl (by omega) (by decide) dX2_startOver_26 ?_
        refine ct_last (k := i) hx hb hK hP hD hS 1 1 rfl rfl (by omega) (by decide) dX2_startOver_27 (fun H locs hP hD hS => ?_)
        have hP : va_P D vwCl [(ap, .inr (3, [.ref aj, .ref apc, .ref app, .int u0])), (apc, .inl (cL, 12, .inr (.inl (vp_updL cs2 i (fv i))))), (app, .inl (cI, 6, .inl ps)), (aj, .inr (2, [.ref af, .ref al, .int (nI c), .int (nI f)])), (af, .inl (cL, 12, .inr (.inl fv))), (al, .inl (cI, 6, .inl ln))] H := hP
        have hD : va_D A [(ap, .inr (3, [.ref aj, .ref apc, .ref app, .int u0])), (apc, .inl (cL, 12, .inr (.inl (vp_updL cs2 i (fv i))))), (app, .inl (cI, 6, .inl ps)), (aj, .inr (2, [.ref af, .ref al, .int (nI c), .int (nI f)])), (af, .inl (cL, 12, .inr (.inl fv))), (al, .inl (cI, 6, .inl ln))] := hD
        refine lv_iinc (v := (nI (i + 1))) (lv' := [(1, .int (nI (i + 1))), (0, .ref ap)]) hx hb dX2_startOver_28 hl (k := 0) rfl (nI_1 i) (by decide) rfl (fun ls hl => ?_)
        refine lv_goto (tgt := 2) hx hb dX2_startOver_31 (by decide) ?_
        exact ih ((i + 1)) (vp_updL cs2 i (fv i)) (by omega) (by omega) (by rw [hcs]; exact so_c_step cs fv i) _ _ (hP.sub [0, 1, 2, 3, 4, 5] rfl) (hD.sub [0, 1, 2, 3, 4, 5] (by decide) rfl) hS ls (lv_sub hl [0, 1] rfl)
  refine lv_iconst (v := 0) hx hb dX2_startOver_0 (by decide) ?_
  refine lv_istore_n (lv' := [(1, .int 0), (0, .ref ap)]) hx hb dX2_startOver_1 rfl hl (by decide) rfl (fun ls hl => ?_)
  exact key2 (c + 1) 0 cs (by omega) (by omega) (so_c_0 cs fv) _ _ (hP.sub [0, 1, 2, 3, 4, 5] rfl) (hD.sub [0, 1, 2, 3, 4, 5] (by decide) rfl) hS ls (lv_sub hl [0, 1] rfl)
abbrev rm_X2_isEnded : Room := { frames := 0, cells := 0, slots := 0, locals := 0 }
abbrev qc_X2_isEnded (D : va_G) (cI cL cZ : ClassId) (ap : Nat) (apc : Nat) (app : Nat) (cs : Nat → Int64) (ps : Nat → Int32) (aj : Nat) (af : Nat) (al : Nat) (c : Nat) (f : Nat) (fv : Nat → Int64) (ln : Nat → Int32) (u0 : Int32) (A : Nat → Prop) : Array Value → State → Outcome → State → Prop := va_Qi (fun (r : Int32) (u : Unit) => (ie_r f ps ln) = r) (ct_B D vwCl [(cI, .int), (cL, .long), (cZ, .boolean)] A (fun (u : Unit) => [(ap, .inr (3, [.ref aj, .ref apc, .ref app, .int u0])), (apc, .inl (cL, 12, .inr (.inl cs))), (app, .inl (cI, 6, .inl ps)), (aj, .inr (2, [.ref af, .ref al, .int (nI c), .int (nI f)])), (af, .inl (cL, 12, .inr (.inl fv))), (al, .inl (cI, 6, .inl ln))])) A
set_option maxHeartbeats 4000000 in
set_option maxRecDepth 100000 in
theorem c_X2_isEnded (l : Launch) (D : va_G) (cI cL cZ : ClassId) (ap : Nat) (apc : Nat) (app : Nat) (cs : Nat → Int64) (ps : Nat → Int32) (aj : Nat) (af : Nat) (al : Nat) (c : Nat) (f : Nat) (fv : Nat → Int64) (ln : Nat → Int32) (u0 : Int32) (sz : Nat) (hf : f ≤ 6) : Met l yX2_isEnded wsX2_isEnded rm_X2_isEnded (va_Pc [.ref ap] (ct_P D vwCl [(cI, .int), (cL, .long), (cZ, .boolean)] [(ap, .inr (3, [.ref aj, .ref apc, .ref app, .int u0])), (apc, .inl (cL, 12, .inr (.inl cs))), (app, .inl (cI, 6, .inl ps)), (aj, .inr (2, [.ref af, .ref al, .int (nI c), .int (nI f)])), (af, .inl (cL, 12, .inr (.inl fv))), (al, .inl (cI, 6, .inl ln))] sz)) (qc_X2_isEnded D cI cL cZ ap apc app cs ps aj af al c f fv ln u0 (va_A [(ap, .inr (3, [.ref aj, .ref apc, .ref app, .int u0])), (apc, .inl (cL, 12, .inr (.inl cs))), (app, .inl (cI, 6, .inl ps)), (aj, .inr (2, [.ref af, .ref al, .int (nI c), .int (nI f)])), (af, .inl (cL, 12, .inr (.inl fv))), (al, .inl (cI, 6, .inl ln))] sz)) 0 0 (va_A [(ap, .inr (3, [.ref aj, .ref apc, .ref app, .int u0])), (apc, .inl (cL, 12, .inr (.inl cs))), (app, .inl (cI, 6, .inl ps)), (aj, .inr (2, [.ref af, .ref al, .int (nI c), .int (nI f)])), (af, .inl (cL, 12, .inr (.inl fv))), (al, .inl (cI, 6, .inl ln))] sz) := by
  refine Met.ofW (cc := cX2_isEnded) (maxL := 2) (ret := (some .boolean)) (by decide) rfl ?_
  intro p e s m args below meth cd s₁ B hml hv
  obtain ⟨rfl, hsz, hP, hK, hD0⟩ := hv
  have hx := B.exec
  have hb := B.bytes
  have hr := B.returns
  have hts := atoms_spec (ws := wsX2_isEnded) B.pre
  have iX2 : ∀ w ∈ wsX20, w ∈ wsX2_isEnded := by decide +kernel
  have wf23 := hts (.fieldLink RX2 23 "CheckRestart$Progress" "job" "LCheckRestart$Job;") (by decide +kernel)
  have iX1 : ∀ w ∈ wsX10, w ∈ wsX2_isEnded := by decide +kernel
  have wf35 := hts (.fieldLink RX2 35 "CheckRestart$Job" "fileCount" "I") (by decide +kernel)
  have wf15 := hts (.fieldLink RX2 15 "CheckRestart$Progress" "positions" "[I") (by decide +kernel)
  have wf38 := hts (.fieldLink RX2 38 "CheckRestart$Job" "lengths" "[I") (by decide +kernel)
  have hown : s.vm.findClass RX2 = some m.cls := findClass_of_methodNamed B.named
  have hlocks := B.notSynchronized
  subst hsz
  have hD := hD0.self (sz := s.heap.size)
  generalize hAe : va_A [(ap, .inr (3, [.ref aj, .ref apc, .ref app, .int u0])), (apc, .inl (cL, 12, .inr (.inl cs))), (app, .inl (cI, 6, .inl ps)), (aj, .inr (2, [.ref af, .ref al, .int (nI c), .int (nI f)])), (af, .inl (cL, 12, .inr (.inl fv))), (al, .inl (cI, 6, .inl ln))] s.heap.size = A at hD ⊢
  have hA : ∀ q : Nat, s.heap.size ≤ q → A q := fun q h => by rw [← hAe]; exact Or.inr h
  have hS : va_S A s.heap s.heap [] := va_S.rf
  have hl := lv_entry ([.ref ap]) (n := 2) (Nat.le_of_ble_eq_true rfl)
  rw [lg_entry_eq]
  generalize (lg_sl ([.ref ap]) ++ List.replicate (2 - (lg_sl ([.ref ap])).length) Slot.unset).toArray = ls at hl ⊢
  have hl : lv_has ls 2 [(0, .ref ap)] := hl
  have key2 : ∀ (n : Nat) (i : Nat), (i ≤ f) → (f + 1 ≤ i + n) → (∀ j, j < i → ln j ≤ ps j) → ∀ (H : Heap) (locs : List Loc), va_P D vwCl [(ap, .inr (3, [.ref aj, .ref apc, .ref app, .int u0])), (apc, .inl (cL, 12, .inr (.inl cs))), (app, .inl (cI, 6, .inl ps)), (aj, .inr (2, [.ref af, .ref al, .int (nI c), .int (nI f)])), (af, .inl (cL, 12, .inr (.inl fv))), (al, .inl (cI, 6, .inl ln))] H → va_D A [(ap, .inr (3, [.ref aj, .ref apc, .ref app, .int u0])), (apc, .inl (cL, 12, .inr (.inl cs))), (app, .inl (cI, 6, .inl ps)), (aj, .inr (2, [.ref af, .ref al, .int (nI c), .int (nI f)])), (af, .inl (cL, 12, .inr (.inl fv))), (al, .inl (cI, 6, .inl ln))] → va_S A s.heap H locs → ∀ (ls : Array Slot), lv_has ls 2 [(1, .int (nI i)), (0, .ref ap)] → W p l e (headSpec wsX2_isEnded rm_X2_isEnded).room s m ([.ref ap] : List Value).toArray below meth cd H locs 0 0 (MQ below (qc_X2_isEnded D cI cL cZ ap apc app cs ps aj af al c f fv ln u0 A) ([.ref ap] : List Value).toArray s 0 0 A) (F0 m 2 ls []) := by
    intro n
    induction n with
    | zero => intro i hi hm hall; exact absurd hm (by omega)
    | succ n ih =>
      intro i hi hm hall H locs hP hD hS ls hl
      refine lv_iload_n hx hb dX2_isEnded_2 rfl (lv_at hl 0 rfl) ?_
      refine lv_aload_n hx hb dX2_isEnded_3 rfl (lv_at hl 1 rfl) ?_
      refine va_get (D := D) (ci := 3) (v := .ref aj) (C := RX2) (T := TX2) (N := 4) hx hb hts iX2 hown hK hP 0 rfl rfl 0 (by decide) wf23 (fun _ h9 => h9) rfl dX2_isEnded_4 ?_
      refine va_get (D := D) (ci := 2) (v := .int (nI f)) (C := RX1) (T := TX1) (N := 4) hx hb hts iX1 hown hK hP 3 rfl rfl 3 (by decide) wf35 (fun _ h9 => h9) rfl dX2_isEnded_7 ?_
      refine lv_icmp_ge (tgt := 39) hx hb dX2_isEnded_10 (by decide) (fun c_10 => ?_) (fun c_10 => ?_)
      · have h1 : f ≤ i := (nI_leI (by omega) (by omega)).mp c_10
        have h2 : i = f := by omega
        refine lv_iconst (v := 1) hx hb dX2_isEnded_39 (by decide) ?_
        have hP9 := hP.sub (ws' := [(ap, .inr (3, [.ref aj, .ref apc, .ref app, .int u0])), (apc, .inl (cL, 12, .inr (.inl cs))), (app, .inl (cI, 6, .inl ps)), (aj, .inr (2, [.ref af, .ref al, .int (nI c), .int (nI f)])), (af, .inl (cL, 12, .inr (.inl fv))), (al, .inl (cI, 6, .inl ln))]) [0, 1, 2, 3, 4, 5] rfl
        have hD9 := hD.sub (ws' := [(ap, .inr (3, [.ref aj, .ref apc, .ref app, .int u0])), (apc, .inl (cL, 12, .inr (.inl cs))), (app, .inl (cI, 6, .inl ps)), (aj, .inr (2, [.ref af, .ref al, .int (nI c), .int (nI f)])), (af, .inl (cL, 12, .inr (.inl fv))), (al, .inl (cI, 6, .inl ln))]) [0, 1, 2, 3, 4, 5] (by decide) rfl
        refine W.widen (k := 0) (n := 0) (Nat.le_of_ble_eq_true rfl) (Nat.le_of_ble_eq_true rfl) ?_
        exact W.zret (v := 1) hx hb hr (rfl) (fun t9 ht9 hW9 => ⟨⟨1, (), rfl, ie_yes (by rw [← h2]; exact hall), by rw [ht9]; exact hP9, va_K.moved hW9.alike hK, hD9⟩, hS.F ht9⟩) hS.2.2 dX2_isEnded_40
      · have h1 : ¬ f ≤ i := fun h => c_10 ((nI_leI (by omega) (by omega)).mpr h)
        refine lv_aload_n hx hb dX2_isEnded_13 rfl (lv_at hl 1 rfl) ?_
        refine va_get (D := D) (ci := 3) (v := .ref app) (C := RX2) (T := TX2) (N := 4) hx hb hts iX2 hown hK hP 0 rfl rfl 2 (by decide) wf15 (fun _ h9 => h9) rfl dX2_isEnded_14 ?_
        refine lv_iload_n hx hb dX2_isEnded_17 rfl (lv_at hl 0 rfl) ?_
        refine ct_iald (k := i) hx hb hK hP 2 0 rfl rfl (by omega) (by decide) dX2_isEnded_18 ?_
        refine lv_aload_n hx hb dX2_isEnded_19 rfl (lv_at hl 1 rfl) ?_
        refine va_get (D := D) (ci := 3) (v := .ref aj) (C := RX2) (T := TX2) (N := 4) hx hb hts iX2 hown hK hP 0 rfl rfl 0 (by decide) wf23 (fun _ h9 => h9) rfl dX2_isEnded_20 ?_
        refine va_get (D := D) (ci := 2) (v := .ref al) (C := RX1) (T := TX1) (N := 4) hx hb hts iX1 hown hK hP 3 rfl rfl 1 (by decide) wf38 (fun _ h9 => h9) rfl dX2_isEnded_23 ?_
        refine lv_iload_n hx hb dX2_isEnded_26 rfl (lv_at hl 0 rfl) ?_
        refine ct_iald (k := i) hx hb hK hP 5 0 rfl rfl (by omega) (by decide) dX2_isEnded_27 ?_
        refine lv_icmp_ge (tgt := 33) hx hb dX2_isEnded_28 (by decide) (fun c_28 => ?_) (fun c_28 => ?_)
        · refine lv_iinc (v := (nI (i + 1))) (lv' := [(1, .int (nI (i + 1))), (0, .ref ap)]) hx hb dX2_isEnded_33 hl (k := 0) rfl (nI_1 i) (by decide) rfl (fun ls hl => ?_)
          refine lv_goto (tgt := 2) hx hb dX2_isEnded_36 (by decide) ?_
          exact ih ((i + 1)) (by omega) (by omega) (lt_s hall c_28) _ _ (hP.sub [0, 1, 2, 3, 4, 5] rfl) (hD.sub [0, 1, 2, 3, 4, 5] (by decide) rfl) hS ls (lv_sub hl [0, 1] rfl)
        · refine lv_iconst (v := 0) hx hb dX2_isEnded_31 (by decide) ?_
          have hP9 := hP.sub (ws' := [(ap, .inr (3, [.ref aj, .ref apc, .ref app, .int u0])), (apc, .inl (cL, 12, .inr (.inl cs))), (app, .inl (cI, 6, .inl ps)), (aj, .inr (2, [.ref af, .ref al, .int (nI c), .int (nI f)])), (af, .inl (cL, 12, .inr (.inl fv))), (al, .inl (cI, 6, .inl ln))]) [0, 1, 2, 3, 4, 5] rfl
          have hD9 := hD.sub (ws' := [(ap, .inr (3, [.ref aj, .ref apc, .ref app, .int u0])), (apc, .inl (cL, 12, .inr (.inl cs))), (app, .inl (cI, 6, .inl ps)), (aj, .inr (2, [.ref af, .ref al, .int (nI c), .int (nI f)])), (af, .inl (cL, 12, .inr (.inl fv))), (al, .inl (cI, 6, .inl ln))]) [0, 1, 2, 3, 4, 5] (by decide) rfl
          refine W.widen (k := 0) (n := 0) (Nat.le_of_ble_eq_true rfl) (Nat.le_of_ble_eq_true rfl) ?_
          exact W.zret (v := 0) hx hb hr (rfl) (fun t9 ht9 hW9 => ⟨⟨0, (), rfl, ie_no (by omega) c_28, by rw [ht9]; exact hP9, va_K.moved hW9.alike hK, hD9⟩, hS.F ht9⟩) hS.2.2 dX2_isEnded_32
  refine lv_iconst (v := 0) hx hb dX2_isEnded_0 (by decide) ?_
  refine lv_istore_n (lv' := [(1, .int 0), (0, .ref ap)]) hx hb dX2_isEnded_1 rfl hl (by decide) rfl (fun ls hl => ?_)
  exact key2 (f + 1) 0 (by omega) (by omega) lt_0 _ _ (hP.sub [0, 1, 2, 3, 4, 5] rfl) (hD.sub [0, 1, 2, 3, 4, 5] (by decide) rfl) hS ls (lv_sub hl [0, 1] rfl)
abbrev rm_X2_readRecord : Room := { frames := 0, cells := 0, slots := 0, locals := 0 }
abbrev qc_X2_readRecord (D : va_G) (cI cL cZ : ClassId) (ap : Nat) (apc : Nat) (app : Nat) (cs : Nat → Int64) (ps : Nat → Int32) (aj : Nat) (af : Nat) (al : Nat) (c : Nat) (f : Nat) (fv : Nat → Int64) (ln : Nat → Int32) (u0 : Int32) (t : Nat) (A : Nat → Prop) : Array Value → State → Outcome → State → Prop := va_Ql (fun (r : Int64) (u : (Nat → Int32)) => (rd_v t f ps ln) = r ∧ (rd_p t f ps ln) = u) (ct_B D vwCl [(cI, .int), (cL, .long), (cZ, .boolean)] A (fun (u : (Nat → Int32)) => [(ap, .inr (3, [.ref aj, .ref apc, .ref app, .int u0])), (apc, .inl (cL, 12, .inr (.inl cs))), (app, .inl (cI, 6, .inl u)), (aj, .inr (2, [.ref af, .ref al, .int (nI c), .int (nI f)])), (af, .inl (cL, 12, .inr (.inl fv))), (al, .inl (cI, 6, .inl ln))])) A
set_option maxHeartbeats 4000000 in
set_option maxRecDepth 100000 in
theorem c_X2_readRecord (l : Launch) (D : va_G) (cI cL cZ : ClassId) (ap : Nat) (apc : Nat) (app : Nat) (cs : Nat → Int64) (ps : Nat → Int32) (aj : Nat) (af : Nat) (al : Nat) (c : Nat) (f : Nat) (fv : Nat → Int64) (ln : Nat → Int32) (u0 : Int32) (t : Nat) (sz : Nat) (hf : f ≤ 6) (ht : t < 2 ^ 31) : Met l yX2_readRecord wsX2_readRecord rm_X2_readRecord (va_Pc [.ref ap, .int (nI t)] (ct_P D vwCl [(cI, .int), (cL, .long), (cZ, .boolean)] [(ap, .inr (3, [.ref aj, .ref apc, .ref app, .int u0])), (apc, .inl (cL, 12, .inr (.inl cs))), (app, .inl (cI, 6, .inl ps)), (aj, .inr (2, [.ref af, .ref al, .int (nI c), .int (nI f)])), (af, .inl (cL, 12, .inr (.inl fv))), (al, .inl (cI, 6, .inl ln))] sz)) (qc_X2_readRecord D cI cL cZ ap apc app cs ps aj af al c f fv ln u0 t (va_A [(ap, .inr (3, [.ref aj, .ref apc, .ref app, .int u0])), (apc, .inl (cL, 12, .inr (.inl cs))), (app, .inl (cI, 6, .inl ps)), (aj, .inr (2, [.ref af, .ref al, .int (nI c), .int (nI f)])), (af, .inl (cL, 12, .inr (.inl fv))), (al, .inl (cI, 6, .inl ln))] sz)) 0 0 (va_A [(ap, .inr (3, [.ref aj, .ref apc, .ref app, .int u0])), (apc, .inl (cL, 12, .inr (.inl cs))), (app, .inl (cI, 6, .inl ps)), (aj, .inr (2, [.ref af, .ref al, .int (nI c), .int (nI f)])), (af, .inl (cL, 12, .inr (.inl fv))), (al, .inl (cI, 6, .inl ln))] sz) := by
  refine Met.ofW (cc := cX2_readRecord) (maxL := 4) (ret := (some .long)) (by decide) rfl ?_
  intro p e s m args below meth cd s₁ B hml hv
  obtain ⟨rfl, hsz, hP, hK, hD0⟩ := hv
  have hx := B.exec
  have hb := B.bytes
  have hr := B.returns
  have hts := atoms_spec (ws := wsX2_readRecord) B.pre
  have iX2 : ∀ w ∈ wsX20, w ∈ wsX2_readRecord := by decide +kernel
  have wf23 := hts (.fieldLink RX2 23 "CheckRestart$Progress" "job" "LCheckRestart$Job;") (by decide +kernel)
  have iX1 : ∀ w ∈ wsX10, w ∈ wsX2_readRecord := by decide +kernel
  have wf35 := hts (.fieldLink RX2 35 "CheckRestart$Job" "fileCount" "I") (by decide +kernel)
  have wf15 := hts (.fieldLink RX2 15 "CheckRestart$Progress" "positions" "[I") (by decide +kernel)
  have wf38 := hts (.fieldLink RX2 38 "CheckRestart$Job" "lengths" "[I") (by decide +kernel)
  have wk45 := hts (.constantLong RX2 45 1000) (by decide +kernel)
  have hown : s.vm.findClass RX2 = some m.cls := findClass_of_methodNamed B.named
  have hlocks := B.notSynchronized
  subst hsz
  have hD := hD0.self (sz := s.heap.size)
  generalize hAe : va_A [(ap, .inr (3, [.ref aj, .ref apc, .ref app, .int u0])), (apc, .inl (cL, 12, .inr (.inl cs))), (app, .inl (cI, 6, .inl ps)), (aj, .inr (2, [.ref af, .ref al, .int (nI c), .int (nI f)])), (af, .inl (cL, 12, .inr (.inl fv))), (al, .inl (cI, 6, .inl ln))] s.heap.size = A at hD ⊢
  have hA : ∀ q : Nat, s.heap.size ≤ q → A q := fun q h => by rw [← hAe]; exact Or.inr h
  have hS : va_S A s.heap s.heap [] := va_S.rf
  have hl := lv_entry ([.ref ap, .int (nI t)]) (n := 4) (Nat.le_of_ble_eq_true rfl)
  rw [lg_entry_eq]
  generalize (lg_sl ([.ref ap, .int (nI t)]) ++ List.replicate (4 - (lg_sl ([.ref ap, .int (nI t)])).length) Slot.unset).toArray = ls at hl ⊢
  have hl : lv_has ls 4 [(0, .ref ap), (1, .int (nI t))] := hl
  refine lv_aload_n hx hb dX2_readRecord_0 rfl (lv_at hl 0 rfl) ?_
  refine va_get (D := D) (ci := 3) (v := .ref aj) (C := RX2) (T := TX2) (N := 4) hx hb hts iX2 hown hK hP 0 rfl rfl 0 (by decide) wf23 (fun _ h9 => h9) rfl dX2_readRecord_1 ?_
  refine va_get (D := D) (ci := 2) (v := .int (nI f)) (C := RX1) (T := TX1) (N := 4) hx hb hts iX1 hown hK hP 3 rfl rfl 3 (by decide) wf35 (fun _ h9 => h9) rfl dX2_readRecord_4 ?_
  refine lv_if_ne (tgt := 12) hx hb dX2_readRecord_7 (by decide) (fun c_7 => ?_) (fun c_7 => ?_)
  · have h0 : f ≠ 0 := fun h => by rw [h] at c_7; exact c_7 rfl
    have hlt : t % f < f := Nat.mod_lt _ (by omega)
    refine lv_iload_n hx hb dX2_readRecord_12 rfl (lv_at hl 1 rfl) ?_
    refine lv_aload_n hx hb dX2_readRecord_13 rfl (lv_at hl 0 rfl) ?_
    refine va_get (D := D) (ci := 3) (v := .ref aj) (C := RX2) (T := TX2) (N := 4) hx hb hts iX2 hown hK hP 0 rfl rfl 0 (by decide) wf23 (fun _ h9 => h9) rfl dX2_readRecord_14 ?_
    refine va_get (D := D) (ci := 2) (v := .int (nI f)) (C := RX1) (T := TX1) (N := 4) hx hb hts iX1 hown hK hP 3 rfl rfl 3 (by decide) wf35 (fun _ h9 => h9) rfl dX2_readRecord_17 ?_
    refine lv_irem hx hb dX2_readRecord_20 (nI_ne0 (by omega) (by omega)) ?_
    refine ct_topi (pk_rem (by omega) (by omega) (by omega)) ?_
    refine lv_istore_n (lv' := [(2, .int (nI (t % f))), (0, .ref ap), (1, .int (nI t))]) hx hb dX2_readRecord_21 rfl hl (by decide) rfl (fun ls hl => ?_)
    refine lv_aload_n hx hb dX2_readRecord_22 rfl (lv_at hl 1 rfl) ?_
    refine va_get (D := D) (ci := 3) (v := .ref app) (C := RX2) (T := TX2) (N := 4) hx hb hts iX2 hown hK hP 0 rfl rfl 2 (by decide) wf15 (fun _ h9 => h9) rfl dX2_readRecord_23 ?_
    refine lv_iload_n hx hb dX2_readRecord_26 rfl (lv_at hl 0 rfl) ?_
    refine ct_iald (k := (t % f)) hx hb hK hP 2 0 rfl rfl (by omega) (by decide) dX2_readRecord_27 ?_
    refine lv_istore_n (lv' := [(3, .int (ps (t % f))), (2, .int (nI (t % f))), (0, .ref ap), (1, .int (nI t))]) hx hb dX2_readRecord_28 rfl hl (by decide) rfl (fun ls hl => ?_)
    refine lv_iload_n hx hb dX2_readRecord_29 rfl (lv_at hl 0 rfl) ?_
    refine lv_aload_n hx hb dX2_readRecord_30 rfl (lv_at hl 2 rfl) ?_
    refine va_get (D := D) (ci := 3) (v := .ref aj) (C := RX2) (T := TX2) (N := 4) hx hb hts iX2 hown hK hP 0 rfl rfl 0 (by decide) wf23 (fun _ h9 => h9) rfl dX2_readRecord_31 ?_
    refine va_get (D := D) (ci := 2) (v := .ref al) (C := RX1) (T := TX1) (N := 4) hx hb hts iX1 hown hK hP 3 rfl rfl 1 (by decide) wf38 (fun _ h9 => h9) rfl dX2_readRecord_34 ?_
    refine lv_iload_n hx hb dX2_readRecord_37 rfl (lv_at hl 1 rfl) ?_
    refine ct_iald (k := (t % f)) hx hb hK hP 5 0 rfl rfl (by omega) (by decide) dX2_readRecord_38 ?_
    refine lv_icmp_lt (tgt := 44) hx hb dX2_readRecord_39 (by decide) (fun c_39 => ?_) (fun c_39 => ?_)
    · refine lv_aload_n hx hb dX2_readRecord_44 rfl (lv_at hl 2 rfl) ?_
      refine va_get (D := D) (ci := 3) (v := .ref app) (C := RX2) (T := TX2) (N := 4) hx hb hts iX2 hown hK hP 0 rfl rfl 2 (by decide) wf15 (fun _ h9 => h9) rfl dX2_readRecord_45 ?_
      refine lv_iload_n hx hb dX2_readRecord_48 rfl (lv_at hl 1 rfl) ?_
      refine lv_iload_n hx hb dX2_readRecord_49 rfl (lv_at hl 0 rfl) ?_
      refine lv_iconst (v := 1) hx hb dX2_readRecord_50 (by decide) ?_
      refine lv_iadd hx hb dX2_readRecord_51 ?_
      refine ct_iast (k := (t % f)) hx hb hK hP hD hS 2 0 rfl rfl (by omega) (by decide) dX2_readRecord_52 (fun H locs hP hD hS => ?_)
      have hP : va_P D vwCl [(ap, .inr (3, [.ref aj, .ref apc, .ref app, .int u0])), (apc, .inl (cL, 12, .inr (.inl cs))), (app, .inl (cI, 6, .inl (upd ps (t % f) ((ps (t % f)) + 1)))), (aj, .inr (2, [.ref af, .ref al, .int (nI c), .int (nI f)])), (af, .inl (cL, 12, .inr (.inl fv))), (al, .inl (cI, 6, .inl ln))] H := hP
      have hD : va_D A [(ap, .inr (3, [.ref aj, .ref apc, .ref app, .int u0])), (apc, .inl (cL, 12, .inr (.inl cs))), (app, .inl (cI, 6, .inl (upd ps (t % f) ((ps (t % f)) + 1)))), (aj, .inr (2, [.ref af, .ref al, .int (nI c), .int (nI f)])), (af, .inl (cL, 12, .inr (.inl fv))), (al, .inl (cI, 6, .inl ln))] := hD
      refine lv_ldc2 (v := 1000) hx hb hown wk45 dX2_readRecord_53 ?_
      refine lv_iload_n hx hb dX2_readRecord_56 rfl (lv_at hl 1 rfl) ?_
      refine lv_iconst (v := 1) hx hb dX2_readRecord_57 (by decide) ?_
      refine lv_iadd hx hb dX2_readRecord_58 ?_
      refine lv_i2l hx hb dX2_readRecord_59 rfl ?_
      refine lv_lmul hx hb dX2_readRecord_60 ?_
      refine lv_iload_n hx hb dX2_readRecord_61 rfl (lv_at hl 0 rfl) ?_
      refine lv_i2l hx hb dX2_readRecord_62 rfl ?_
      refine lv_ladd hx hb dX2_readRecord_63 ?_
      have hP9 := hP.sub (ws' := [(ap, .inr (3, [.ref aj, .ref apc, .ref app, .int u0])), (apc, .inl (cL, 12, .inr (.inl cs))), (app, .inl (cI, 6, .inl (upd ps (t % f) ((ps (t % f)) + 1)))), (aj, .inr (2, [.ref af, .ref al, .int (nI c), .int (nI f)])), (af, .inl (cL, 12, .inr (.inl fv))), (al, .inl (cI, 6, .inl ln))]) [0, 1, 2, 3, 4, 5] rfl
      have hD9 := hD.sub (ws' := [(ap, .inr (3, [.ref aj, .ref apc, .ref app, .int u0])), (apc, .inl (cL, 12, .inr (.inl cs))), (app, .inl (cI, 6, .inl (upd ps (t % f) ((ps (t % f)) + 1)))), (aj, .inr (2, [.ref af, .ref al, .int (nI c), .int (nI f)])), (af, .inl (cL, 12, .inr (.inl fv))), (al, .inl (cI, 6, .inl ln))]) [0, 1, 2, 3, 4, 5] (by decide) rfl
      refine W.widen (k := 0) (n := 0) (Nat.le_of_ble_eq_true rfl) (Nat.le_of_ble_eq_true rfl) ?_
      exact W.lret (v := ((1000 * (((nI (t % f)) + 1).toInt64)) + ((ps (t % f)).toInt64))) hx hb hr (fun t9 ht9 hW9 => ⟨⟨((1000 * (((nI (t % f)) + 1).toInt64)) + ((ps (t % f)).toInt64)), ((upd ps (t % f) ((ps (t % f)) + 1))), rfl, ⟨by simp [rd_v, rd_p, h0, c_39], by simp [rd_v, rd_p, h0, c_39]⟩, by rw [ht9]; exact hP9, va_K.moved hW9.alike hK, hD9⟩, hS.F ht9⟩) hS.2.2 dX2_readRecord_64
    · refine lv_lconst (v := 0) hx hb dX2_readRecord_42 (by decide) ?_
      have hP9 := hP.sub (ws' := [(ap, .inr (3, [.ref aj, .ref apc, .ref app, .int u0])), (apc, .inl (cL, 12, .inr (.inl cs))), (app, .inl (cI, 6, .inl ps)), (aj, .inr (2, [.ref af, .ref al, .int (nI c), .int (nI f)])), (af, .inl (cL, 12, .inr (.inl fv))), (al, .inl (cI, 6, .inl ln))]) [0, 1, 2, 3, 4, 5] rfl
      have hD9 := hD.sub (ws' := [(ap, .inr (3, [.ref aj, .ref apc, .ref app, .int u0])), (apc, .inl (cL, 12, .inr (.inl cs))), (app, .inl (cI, 6, .inl ps)), (aj, .inr (2, [.ref af, .ref al, .int (nI c), .int (nI f)])), (af, .inl (cL, 12, .inr (.inl fv))), (al, .inl (cI, 6, .inl ln))]) [0, 1, 2, 3, 4, 5] (by decide) rfl
      refine W.widen (k := 0) (n := 0) (Nat.le_of_ble_eq_true rfl) (Nat.le_of_ble_eq_true rfl) ?_
      exact W.lret (v := 0) hx hb hr (fun t9 ht9 hW9 => ⟨⟨0, (ps), rfl, ⟨by simp [rd_v, rd_p, h0, c_39], by simp [rd_v, rd_p, h0, c_39]⟩, by rw [ht9]; exact hP9, va_K.moved hW9.alike hK, hD9⟩, hS.F ht9⟩) hS.2.2 dX2_readRecord_43
  · have h0 : f = 0 := cr_nI0 (by omega) c_7
    refine lv_lconst (v := 0) hx hb dX2_readRecord_10 (by decide) ?_
    have hP9 := hP.sub (ws' := [(ap, .inr (3, [.ref aj, .ref apc, .ref app, .int u0])), (apc, .inl (cL, 12, .inr (.inl cs))), (app, .inl (cI, 6, .inl ps)), (aj, .inr (2, [.ref af, .ref al, .int (nI c), .int (nI f)])), (af, .inl (cL, 12, .inr (.inl fv))), (al, .inl (cI, 6, .inl ln))]) [0, 1, 2, 3, 4, 5] rfl
    have hD9 := hD.sub (ws' := [(ap, .inr (3, [.ref aj, .ref apc, .ref app, .int u0])), (apc, .inl (cL, 12, .inr (.inl cs))), (app, .inl (cI, 6, .inl ps)), (aj, .inr (2, [.ref af, .ref al, .int (nI c), .int (nI f)])), (af, .inl (cL, 12, .inr (.inl fv))), (al, .inl (cI, 6, .inl ln))]) [0, 1, 2, 3, 4, 5] (by decide) rfl
    refine W.widen (k := 0) (n := 0) (Nat.le_of_ble_eq_true rfl) (Nat.le_of_ble_eq_true rfl) ?_
    exact W.lret (v := 0) hx hb hr (fun t9 ht9 hW9 => ⟨⟨0, (ps), rfl, ⟨by simp [rd_v, rd_p, h0], by simp [rd_v, rd_p, h0]⟩, by rw [ht9]; exact hP9, va_K.moved hW9.alike hK, hD9⟩, hS.F ht9⟩) hS.2.2 dX2_readRecord_11
abbrev rm_X2_doUnit : Room := { frames := 1, cells := 0, slots := 0, locals := 23 }
abbrev qc_X2_doUnit (D : va_G) (cI cL cZ : ClassId) (ap : Nat) (apc : Nat) (app : Nat) (cs : Nat → Int64) (ps : Nat → Int32) (aj : Nat) (af : Nat) (al : Nat) (c : Nat) (f : Nat) (fv : Nat → Int64) (ln : Nat → Int32) (t : Nat) (A : Nat → Prop) : Array Value → State → Outcome → State → Prop := va_Ql (fun (r : Int64) (u : (Nat → Int64) × (Nat → Int32)) => (du_r c t (rd_v t f ps ln) cs) = r ∧ (du_c c t (rd_v t f ps ln) cs) = u.1 ∧ (rd_p t f ps ln) = u.2) (ct_B D vwCl [(cI, .int), (cL, .long), (cZ, .boolean)] A (fun (u : (Nat → Int64) × (Nat → Int32)) => [(ap, .inr (3, [.ref aj, .ref apc, .ref app, .int (nI (t + 1))])), (apc, .inl (cL, 12, .inr (.inl u.1))), (app, .inl (cI, 6, .inl u.2)), (aj, .inr (2, [.ref af, .ref al, .int (nI c), .int (nI f)])), (af, .inl (cL, 12, .inr (.inl fv))), (al, .inl (cI, 6, .inl ln))])) A
set_option maxHeartbeats 4000000 in
set_option maxRecDepth 100000 in
theorem c_X2_doUnit (l : Launch) (D : va_G) (cI cL cZ : ClassId) (ap : Nat) (apc : Nat) (app : Nat) (cs : Nat → Int64) (ps : Nat → Int32) (aj : Nat) (af : Nat) (al : Nat) (c : Nat) (f : Nat) (fv : Nat → Int64) (ln : Nat → Int32) (t : Nat) (sz : Nat) (hc : c ≤ 12) (hf : f ≤ 6) (ht : t < 5000) : Met l yX2_doUnit wsX2_doUnit rm_X2_doUnit (va_Pc [.ref ap] (ct_P D vwCl [(cI, .int), (cL, .long), (cZ, .boolean)] [(ap, .inr (3, [.ref aj, .ref apc, .ref app, .int (nI t)])), (apc, .inl (cL, 12, .inr (.inl cs))), (app, .inl (cI, 6, .inl ps)), (aj, .inr (2, [.ref af, .ref al, .int (nI c), .int (nI f)])), (af, .inl (cL, 12, .inr (.inl fv))), (al, .inl (cI, 6, .inl ln))] sz)) (qc_X2_doUnit D cI cL cZ ap apc app cs ps aj af al c f fv ln t (va_A [(ap, .inr (3, [.ref aj, .ref apc, .ref app, .int (nI t)])), (apc, .inl (cL, 12, .inr (.inl cs))), (app, .inl (cI, 6, .inl ps)), (aj, .inr (2, [.ref af, .ref al, .int (nI c), .int (nI f)])), (af, .inl (cL, 12, .inr (.inl fv))), (al, .inl (cI, 6, .inl ln))] sz)) 0 0 (va_A [(ap, .inr (3, [.ref aj, .ref apc, .ref app, .int (nI t)])), (apc, .inl (cL, 12, .inr (.inl cs))), (app, .inl (cI, 6, .inl ps)), (aj, .inr (2, [.ref af, .ref al, .int (nI c), .int (nI f)])), (af, .inl (cL, 12, .inr (.inl fv))), (al, .inl (cI, 6, .inl ln))] sz) := by
  refine Met.ofW (cc := cX2_doUnit) (maxL := 5) (ret := (some .long)) (by decide) rfl ?_
  intro p e s m args below meth cd s₁ B hml hv
  obtain ⟨rfl, hsz, hP, hK, hD0⟩ := hv
  have hx := B.exec
  have hb := B.bytes
  have hr := B.returns
  have hts := atoms_spec (ws := wsX2_doUnit) B.pre
  have iX2 : ∀ w ∈ wsX20, w ∈ wsX2_doUnit := by decide +kernel
  have wf19 := hts (.fieldLink RX2 19 "CheckRestart$Progress" "units" "I") (by decide +kernel)
  have wf23 := hts (.fieldLink RX2 23 "CheckRestart$Progress" "job" "LCheckRestart$Job;") (by decide +kernel)
  have iX1 : ∀ w ∈ wsX10, w ∈ wsX2_doUnit := by decide +kernel
  have wf27 := hts (.fieldLink RX2 27 "CheckRestart$Job" "cellCount" "I") (by decide +kernel)
  have wf9 := hts (.fieldLink RX2 9 "CheckRestart$Progress" "cells" "[J") (by decide +kernel)
  have hown : s.vm.findClass RX2 = some m.cls := findClass_of_methodNamed B.named
  have hlocks := B.notSynchronized
  subst hsz
  have hD := hD0.self (sz := s.heap.size)
  generalize hAe : va_A [(ap, .inr (3, [.ref aj, .ref apc, .ref app, .int (nI t)])), (apc, .inl (cL, 12, .inr (.inl cs))), (app, .inl (cI, 6, .inl ps)), (aj, .inr (2, [.ref af, .ref al, .int (nI c), .int (nI f)])), (af, .inl (cL, 12, .inr (.inl fv))), (al, .inl (cI, 6, .inl ln))] s.heap.size = A at hD ⊢
  have hA : ∀ q : Nat, s.heap.size ≤ q → A q := fun q h => by rw [← hAe]; exact Or.inr h
  have hS : va_S A s.heap s.heap [] := va_S.rf
  have hl := lv_entry ([.ref ap]) (n := 5) (Nat.le_of_ble_eq_true rfl)
  rw [lg_entry_eq]
  generalize (lg_sl ([.ref ap]) ++ List.replicate (5 - (lg_sl ([.ref ap])).length) Slot.unset).toArray = ls at hl ⊢
  have hl : lv_has ls 5 [(0, .ref ap)] := hl
  refine lv_aload_n hx hb dX2_doUnit_0 rfl (lv_at hl 0 rfl) ?_
  refine va_get (D := D) (ci := 3) (v := .int (nI t)) (C := RX2) (T := TX2) (N := 4) hx hb hts iX2 hown hK hP 0 rfl rfl 3 (by decide) wf19 (fun _ h9 => h9) rfl dX2_doUnit_1 ?_
  refine lv_istore_n (lv' := [(1, .int (nI t)), (0, .ref ap)]) hx hb dX2_doUnit_4 rfl hl (by decide) rfl (fun ls hl => ?_)
  refine lv_aload_n hx hb dX2_doUnit_5 rfl (lv_at hl 1 rfl) ?_
  refine lv_iload_n hx hb dX2_doUnit_6 rfl (lv_at hl 0 rfl) ?_
  refine ct_calll (wr := []) (rest := []) hP hD hS hA [0, 1, 2, 3, 4, 5] [] (va_runV (C := RX2) (As := [.int (nI t)]) ⟨hx, hb, hml, hown, hts⟩ (c_X2_readRecord l D cI cL cZ ap apc app cs ps aj af al c f fv ln (nI t) t _ (by omega) (by omega)) (cwV 1 hts gX2_doUnit_X2_readRecord rfl rfl rfl (by decide +kernel) ⟨Nat.le_of_ble_eq_true rfl, Nat.le_of_ble_eq_true rfl⟩) (ct_preV (q0 := 0) (ci := 3) hK hP hD [0, 1, 2, 3, 4, 5] (by decide) rfl rfl rfl rfl rfl) rfl rfl hl.1 rfl (lv_room (Nat.le_of_ble_eq_true rfl)) dX2_doUnit_7 ⟨Nat.le_of_ble_eq_true rfl, Nat.le_of_ble_eq_true rfl⟩) rfl rfl (by decide) (by decide) (fun r_1 u H locs hw hP hD hS => ?_)
  obtain ⟨ps1_2, rfl⟩ : ∃ z, z = u := ⟨_, rfl⟩
  try dsimp only at hw
  obtain ⟨rfl, rfl⟩ := hw
  have hP : va_P D vwCl [(ap, .inr (3, [.ref aj, .ref apc, .ref app, .int (nI t)])), (apc, .inl (cL, 12, .inr (.inl cs))), (app, .inl (cI, 6, .inl (rd_p t f ps ln))), (aj, .inr (2, [.ref af, .ref al, .int (nI c), .int (nI f)])), (af, .inl (cL, 12, .inr (.inl fv))), (al, .inl (cI, 6, .inl ln))] H := hP
  have hD : va_D A [(ap, .inr (3, [.ref aj, .ref apc, .ref app, .int (nI t)])), (apc, .inl (cL, 12, .inr (.inl cs))), (app, .inl (cI, 6, .inl (rd_p t f ps ln))), (aj, .inr (2, [.ref af, .ref al, .int (nI c), .int (nI f)])), (af, .inl (cL, 12, .inr (.inl fv))), (al, .inl (cI, 6, .inl ln))] := hD
  refine lv_lstore_n (lv' := [(2, .long (rd_v t f ps ln)), (1, .int (nI t)), (0, .ref ap)]) hx hb dX2_doUnit_10 rfl hl (by decide) rfl (fun ls hl => ?_)
  refine lv_aload_n hx hb dX2_doUnit_11 rfl (lv_at hl 2 rfl) ?_
  refine lv_dup hx hb dX2_doUnit_12 rfl ?_
  refine va_get (D := D) (ci := 3) (v := .int (nI t)) (C := RX2) (T := TX2) (N := 4) hx hb hts iX2 hown hK hP 0 rfl rfl 3 (by decide) wf19 (fun _ h9 => h9) rfl dX2_doUnit_13 ?_
  refine lv_iconst (v := 1) hx hb dX2_doUnit_16 (by decide) ?_
  refine lv_iadd hx hb dX2_doUnit_17 ?_
  refine ct_topi (y := (nI (t + 1))) (nI_1 t) ?_
  refine va_put (D := D) (ci := 3) (v := .int (nI (t + 1))) (ty := .int) (C := RX2) (T := TX2) (N := 4) hx hb hts iX2 tyX2 tyX2_ok nmX2 hown hK hP hD hS 0 rfl rfl 3 (by decide) wf19 (fun _ h9 => h9) rfl (by decide +kernel) rfl rfl (Nat.le_of_ble_eq_true rfl) dX2_doUnit_18 (fun H locs hP hD hS => ?_)
  have hP : va_P D vwCl [(ap, .inr (3, [.ref aj, .ref apc, .ref app, .int (nI (t + 1))])), (apc, .inl (cL, 12, .inr (.inl cs))), (app, .inl (cI, 6, .inl (rd_p t f ps ln))), (aj, .inr (2, [.ref af, .ref al, .int (nI c), .int (nI f)])), (af, .inl (cL, 12, .inr (.inl fv))), (al, .inl (cI, 6, .inl ln))] H := hP
  have hD : va_D A [(ap, .inr (3, [.ref aj, .ref apc, .ref app, .int (nI (t + 1))])), (apc, .inl (cL, 12, .inr (.inl cs))), (app, .inl (cI, 6, .inl (rd_p t f ps ln))), (aj, .inr (2, [.ref af, .ref al, .int (nI c), .int (nI f)])), (af, .inl (cL, 12, .inr (.inl fv))), (al, .inl (cI, 6, .inl ln))] := hD
  refine lv_aload_n hx hb dX2_doUnit_21 rfl (lv_at hl 2 rfl) ?_
  refine va_get (D := D) (ci := 3) (v := .ref aj) (C := RX2) (T := TX2) (N := 4) hx hb hts iX2 hown hK hP 0 rfl rfl 0 (by decide) wf23 (fun _ h9 => h9) rfl dX2_doUnit_22 ?_
  refine va_get (D := D) (ci := 2) (v := .int (nI c)) (C := RX1) (T := TX1) (N := 4) hx hb hts iX1 hown hK hP 3 rfl rfl 2 (by decide) wf27 (fun _ h9 => h9) rfl dX2_doUnit_25 ?_
  refine lv_if_ne (tgt := 33) hx hb dX2_doUnit_28 (by decide) (fun c_28 => ?_) (fun c_28 => ?_)
  · have h0 : c ≠ 0 := fun h => by rw [h] at c_28; exact c_28 rfl
    have hlt : t % c < c := Nat.mod_lt _ (by omega)
    refine lv_iload_n hx hb dX2_doUnit_33 rfl (lv_at hl 1 rfl) ?_
    refine lv_aload_n hx hb dX2_doUnit_34 rfl (lv_at hl 2 rfl) ?_
    refine va_get (D := D) (ci := 3) (v := .ref aj) (C := RX2) (T := TX2) (N := 4) hx hb hts iX2 hown hK hP 0 rfl rfl 0 (by decide) wf23 (fun _ h9 => h9) rfl dX2_doUnit_35 ?_
    refine va_get (D := D) (ci := 2) (v := .int (nI c)) (C := RX1) (T := TX1) (N := 4) hx hb hts iX1 hown hK hP 3 rfl rfl 2 (by decide) wf27 (fun _ h9 => h9) rfl dX2_doUnit_38 ?_
    refine lv_irem hx hb dX2_doUnit_41 (nI_ne0 (by omega) (by omega)) ?_
    refine ct_topi (pk_rem (by omega) (by omega) (by omega)) ?_
    refine lv_istore (lv' := [(4, .int (nI (t % c))), (2, .long (rd_v t f ps ln)), (1, .int (nI t)), (0, .ref ap)]) hx hb dX2_doUnit_42 hl (by decide) rfl (fun ls hl => ?_)
    refine lv_aload_n hx hb dX2_doUnit_44 rfl (lv_at hl 3 rfl) ?_
    refine va_get (D := D) (ci := 3) (v := .ref apc) (C := RX2) (T := TX2) (N := 4) hx hb hts iX2 hown hK hP 0 rfl rfl 1 (by decide) wf9 (fun _ h9 => h9) rfl dX2_doUnit_45 ?_
    refine lv_iload hx hb dX2_doUnit_48 (lv_at hl 0 rfl) ?_
    refine lv_dup2_11 hx hb dX2_doUnit_50 rfl rfl ?_
    refine ct_lald (k := (t % c)) hx hb hK hP 1 1 rfl rfl (by omega) (by decide) dX2_doUnit_51 ?_
    refine lv_aload_n hx hb dX2_doUnit_52 rfl (lv_at hl 3 rfl) ?_
    refine va_get (D := D) (ci := 3) (v := .int (nI (t + 1))) (C := RX2) (T := TX2) (N := 4) hx hb hts iX2 hown hK hP 0 rfl rfl 3 (by decide) wf19 (fun _ h9 => h9) rfl dX2_doUnit_53 ?_
    refine lv_i2l hx hb dX2_doUnit_56 rfl ?_
    refine lv_lload_n hx hb dX2_doUnit_57 rfl (lv_at hl 1 rfl) ?_
    refine lv_lmul hx hb dX2_doUnit_58 ?_
    refine lv_ladd hx hb dX2_doUnit_59 ?_
    refine ct_last (k := (t % c)) hx hb hK hP hD hS 1 1 rfl rfl (by omega) (by decide) dX2_doUnit_60 (fun H locs hP hD hS => ?_)
    have hP : va_P D vwCl [(ap, .inr (3, [.ref aj, .ref apc, .ref app, .int (nI (t + 1))])), (apc, .inl (cL, 12, .inr (.inl (vp_updL cs (t % c) ((cs (t % c)) + (((nI (t + 1)).toInt64) * (rd_v t f ps ln))))))), (app, .inl (cI, 6, .inl (rd_p t f ps ln))), (aj, .inr (2, [.ref af, .ref al, .int (nI c), .int (nI f)])), (af, .inl (cL, 12, .inr (.inl fv))), (al, .inl (cI, 6, .inl ln))] H := hP
    have hD : va_D A [(ap, .inr (3, [.ref aj, .ref apc, .ref app, .int (nI (t + 1))])), (apc, .inl (cL, 12, .inr (.inl (vp_updL cs (t % c) ((cs (t % c)) + (((nI (t + 1)).toInt64) * (rd_v t f ps ln))))))), (app, .inl (cI, 6, .inl (rd_p t f ps ln))), (aj, .inr (2, [.ref af, .ref al, .int (nI c), .int (nI f)])), (af, .inl (cL, 12, .inr (.inl fv))), (al, .inl (cI, 6, .inl ln))] := hD
    refine lv_aload_n hx hb dX2_doUnit_61 rfl (lv_at hl 3 rfl) ?_
    refine va_get (D := D) (ci := 3) (v := .ref apc) (C := RX2) (T := TX2) (N := 4) hx hb hts iX2 hown hK hP 0 rfl rfl 1 (by decide) wf9 (fun _ h9 => h9) rfl dX2_doUnit_62 ?_
    refine lv_iload hx hb dX2_doUnit_65 (lv_at hl 0 rfl) ?_
    refine ct_lald (k := (t % c)) hx hb hK hP 1 1 rfl rfl (by omega) (by decide) dX2_doUnit_67 ?_
    have hP9 := hP.sub (ws' := [(ap, .inr (3, [.ref aj, .ref apc, .ref app, .int (nI (t + 1))])), (apc, .inl (cL, 12, .inr (.inl (vp_updL cs (t % c) ((cs (t % c)) + (((nI (t + 1)).toInt64) * (rd_v t f ps ln))))))), (app, .inl (cI, 6, .inl (rd_p t f ps ln))), (aj, .inr (2, [.ref af, .ref al, .int (nI c), .int (nI f)])), (af, .inl (cL, 12, .inr (.inl fv))), (al, .inl (cI, 6, .inl ln))]) [0, 1, 2, 3, 4, 5] rfl
    have hD9 := hD.sub (ws' := [(ap, .inr (3, [.ref aj, .ref apc, .ref app, .int (nI (t + 1))])), (apc, .inl (cL, 12, .inr (.inl (vp_updL cs (t % c) ((cs (t % c)) + (((nI (t + 1)).toInt64) * (rd_v t f ps ln))))))), (app, .inl (cI, 6, .inl (rd_p t f ps ln))), (aj, .inr (2, [.ref af, .ref al, .int (nI c), .int (nI f)])), (af, .inl (cL, 12, .inr (.inl fv))), (al, .inl (cI, 6, .inl ln))]) [0, 1, 2, 3, 4, 5] (by decide) rfl
    refine W.widen (k := 0) (n := 0) (Nat.le_of_ble_eq_true rfl) (Nat.le_of_ble_eq_true rfl) ?_
    exact W.lret (v := ((vp_updL cs (t % c) ((cs (t % c)) + (((nI (t + 1)).toInt64) * (rd_v t f ps ln)))) (t % c))) hx hb hr (fun t9 ht9 hW9 => ⟨⟨((vp_updL cs (t % c) ((cs (t % c)) + (((nI (t + 1)).toInt64) * (rd_v t f ps ln)))) (t % c)), ((vp_updL cs (t % c) ((cs (t % c)) + (((nI (t + 1)).toInt64) * (rd_v t f ps ln)))), (rd_p t f ps ln)), rfl, ⟨by simp [du_r, du_c, h0, vp_updL], by simp [du_r, du_c, h0, vp_updL], by simp [du_r, du_c, h0, vp_updL]⟩, by rw [ht9]; exact hP9, va_K.moved hW9.alike hK, hD9⟩, hS.F ht9⟩) hS.2.2 dX2_doUnit_68
  · have h0 : c = 0 := cr_nI0 (by omega) c_28
    refine lv_lconst (v := 0) hx hb dX2_doUnit_31 (by decide) ?_
    have hP9 := hP.sub (ws' := [(ap, .inr (3, [.ref aj, .ref apc, .ref app, .int (nI (t + 1))])), (apc, .inl (cL, 12, .inr (.inl cs))), (app, .inl (cI, 6, .inl (rd_p t f ps ln))), (aj, .inr (2, [.ref af, .ref al, .int (nI c), .int (nI f)])), (af, .inl (cL, 12, .inr (.inl fv))), (al, .inl (cI, 6, .inl ln))]) [0, 1, 2, 3, 4, 5] rfl
    have hD9 := hD.sub (ws' := [(ap, .inr (3, [.ref aj, .ref apc, .ref app, .int (nI (t + 1))])), (apc, .inl (cL, 12, .inr (.inl cs))), (app, .inl (cI, 6, .inl (rd_p t f ps ln))), (aj, .inr (2, [.ref af, .ref al, .int (nI c), .int (nI f)])), (af, .inl (cL, 12, .inr (.inl fv))), (al, .inl (cI, 6, .inl ln))]) [0, 1, 2, 3, 4, 5] (by decide) rfl
    refine W.widen (k := 0) (n := 0) (Nat.le_of_ble_eq_true rfl) (Nat.le_of_ble_eq_true rfl) ?_
    exact W.lret (v := 0) hx hb hr (fun t9 ht9 hW9 => ⟨⟨0, (cs, (rd_p t f ps ln)), rfl, ⟨by simp [du_r, du_c, h0], by simp [du_r, du_c, h0], by simp [du_r, du_c, h0]⟩, by rw [ht9]; exact hP9, va_K.moved hW9.alike hK, hD9⟩, hS.F ht9⟩) hS.2.2 dX2_doUnit_32
abbrev rm_X2_hasCellsOf : Room := { frames := 0, cells := 0, slots := 0, locals := 0 }
abbrev qc_X2_hasCellsOf (D : va_G) (cI cL cZ : ClassId) (ap : Nat) (apc : Nat) (app : Nat) (cs : Nat → Int64) (ao : Nat) (aoc : Nat) (aop : Nat) (os : Nat → Int64) (u0 : Int32) (u1 : Int32) (aj : Nat) (af : Nat) (al : Nat) (c : Nat) (f : Nat) (A : Nat → Prop) : Array Value → State → Outcome → State → Prop := va_Qi (fun (r : Int32) (u : Unit) => (hc_r c cs os) = r) (ct_B D vwCl [(cI, .int), (cL, .long), (cZ, .boolean)] A (fun (u : Unit) => [(ap, .inr (3, [.ref aj, .ref apc, .ref app, .int u0])), (apc, .inl (cL, 12, .inr (.inl cs))), (ao, .inr (3, [.ref aj, .ref aoc, .ref aop, .int u1])), (aoc, .inl (cL, 12, .inr (.inl os))), (aj, .inr (2, [.ref af, .ref al, .int (nI c), .int (nI f)]))])) A
set_option maxHeartbeats 4000000 in
set_option maxRecDepth 100000 in
theorem c_X2_hasCellsOf (l : Launch) (D : va_G) (cI cL cZ : ClassId) (ap : Nat) (apc : Nat) (app : Nat) (cs : Nat → Int64) (ao : Nat) (aoc : Nat) (aop : Nat) (os : Nat → Int64) (u0 : Int32) (u1 : Int32) (aj : Nat) (af : Nat) (al : Nat) (c : Nat) (f : Nat) (sz : Nat) (hc : c ≤ 12) : Met l yX2_hasCellsOf wsX2_hasCellsOf rm_X2_hasCellsOf (va_Pc [.ref ap, .ref ao] (ct_P D vwCl [(cI, .int), (cL, .long), (cZ, .boolean)] [(ap, .inr (3, [.ref aj, .ref apc, .ref app, .int u0])), (apc, .inl (cL, 12, .inr (.inl cs))), (ao, .inr (3, [.ref aj, .ref aoc, .ref aop, .int u1])), (aoc, .inl (cL, 12, .inr (.inl os))), (aj, .inr (2, [.ref af, .ref al, .int (nI c), .int (nI f)]))] sz)) (qc_X2_hasCellsOf D cI cL cZ ap apc app cs ao aoc aop os u0 u1 aj af al c f (va_A [(ap, .inr (3, [.ref aj, .ref apc, .ref app, .int u0])), (apc, .inl (cL, 12, .inr (.inl cs))), (ao, .inr (3, [.ref aj, .ref aoc, .ref aop, .int u1])), (aoc, .inl (cL, 12, .inr (.inl os))), (aj, .inr (2, [.ref af, .ref al, .int (nI c), .int (nI f)]))] sz)) 0 0 (va_A [(ap, .inr (3, [.ref aj, .ref apc, .ref app, .int u0])), (apc, .inl (cL, 12, .inr (.inl cs))), (ao, .inr (3, [.ref aj, .ref aoc, .ref aop, .int u1])), (aoc, .inl (cL, 12, .inr (.inl os))), (aj, .inr (2, [.ref af, .ref al, .int (nI c), .int (nI f)]))] sz) := by
  refine Met.ofW (cc := cX2_hasCellsOf) (maxL := 3) (ret := (some .boolean)) (by decide) rfl ?_
  intro p e s m args below meth cd s₁ B hml hv
  obtain ⟨rfl, hsz, hP, hK, hD0⟩ := hv
  have hx := B.exec
  have hb := B.bytes
  have hr := B.returns
  have hts := atoms_spec (ws := wsX2_hasCellsOf) B.pre
  have iX2 : ∀ w ∈ wsX20, w ∈ wsX2_hasCellsOf := by decide +kernel
  have wf23 := hts (.fieldLink RX2 23 "CheckRestart$Progress" "job" "LCheckRestart$Job;") (by decide +kernel)
  have iX1 : ∀ w ∈ wsX10, w ∈ wsX2_hasCellsOf := by decide +kernel
  have wf27 := hts (.fieldLink RX2 27 "CheckRestart$Job" "cellCount" "I") (by decide +kernel)
  have wf9 := hts (.fieldLink RX2 9 "CheckRestart$Progress" "cells" "[J") (by decide +kernel)
  have hown : s.vm.findClass RX2 = some m.cls := findClass_of_methodNamed B.named
  have hlocks := B.notSynchronized
  subst hsz
  have hD := hD0.self (sz := s.heap.size)
  generalize hAe : va_A [(ap, .inr (3, [.ref aj, .ref apc, .ref app, .int u0])), (apc, .inl (cL, 12, .inr (.inl cs))), (ao, .inr (3, [.ref aj, .ref aoc, .ref aop, .int u1])), (aoc, .inl (cL, 12, .inr (.inl os))), (aj, .inr (2, [.ref af, .ref al, .int (nI c), .int (nI f)]))] s.heap.size = A at hD ⊢
  have hA : ∀ q : Nat, s.heap.size ≤ q → A q := fun q h => by rw [← hAe]; exact Or.inr h
  have hS : va_S A s.heap s.heap [] := va_S.rf
  have hl := lv_entry ([.ref ap, .ref ao]) (n := 3) (Nat.le_of_ble_eq_true rfl)
  rw [lg_entry_eq]
  generalize (lg_sl ([.ref ap, .ref ao]) ++ List.replicate (3 - (lg_sl ([.ref ap, .ref ao])).length) Slot.unset).toArray = ls at hl ⊢
  have hl : lv_has ls 3 [(0, .ref ap), (1, .ref ao)] := hl
  have key2 : ∀ (n : Nat) (i : Nat), (i ≤ c) → (c + 1 ≤ i + n) → (∀ j, j < i → cs j = os j) → ∀ (H : Heap) (locs : List Loc), va_P D vwCl [(ap, .inr (3, [.ref aj, .ref apc, .ref app, .int u0])), (apc, .inl (cL, 12, .inr (.inl cs))), (ao, .inr (3, [.ref aj, .ref aoc, .ref aop, .int u1])), (aoc, .inl (cL, 12, .inr (.inl os))), (aj, .inr (2, [.ref af, .ref al, .int (nI c), .int (nI f)]))] H → va_D A [(ap, .inr (3, [.ref aj, .ref apc, .ref app, .int u0])), (apc, .inl (cL, 12, .inr (.inl cs))), (ao, .inr (3, [.ref aj, .ref aoc, .ref aop, .int u1])), (aoc, .inl (cL, 12, .inr (.inl os))), (aj, .inr (2, [.ref af, .ref al, .int (nI c), .int (nI f)]))] → va_S A s.heap H locs → ∀ (ls : Array Slot), lv_has ls 3 [(2, .int (nI i)), (0, .ref ap), (1, .ref ao)] → W p l e (headSpec wsX2_hasCellsOf rm_X2_hasCellsOf).room s m ([.ref ap, .ref ao] : List Value).toArray below meth cd H locs 0 0 (MQ below (qc_X2_hasCellsOf D cI cL cZ ap apc app cs ao aoc aop os u0 u1 aj af al c f A) ([.ref ap, .ref ao] : List Value).toArray s 0 0 A) (F0 m 2 ls []) := by
    intro n
    induction n with
    | zero => intro i hi hm hall; exact absurd hm (by omega)
    | succ n ih =>
      intro i hi hm hall H locs hP hD hS ls hl
      refine lv_iload_n hx hb dX2_hasCellsOf_2 rfl (lv_at hl 0 rfl) ?_
      refine lv_aload_n hx hb dX2_hasCellsOf_3 rfl (lv_at hl 1 rfl) ?_
      refine va_get (D := D) (ci := 3) (v := .ref aj) (C := RX2) (T := TX2) (N := 4) hx hb hts iX2 hown hK hP 0 rfl rfl 0 (by decide) wf23 (fun _ h9 => h9) rfl dX2_hasCellsOf_4 ?_
      refine va_get (D := D) (ci := 2) (v := .int (nI c)) (C := RX1) (T := TX1) (N := 4) hx hb hts iX1 hown hK hP 4 rfl rfl 2 (by decide) wf27 (fun _ h9 => h9) rfl dX2_hasCellsOf_7 ?_
      refine lv_icmp_ge (tgt := 37) hx hb dX2_hasCellsOf_10 (by decide) (fun c_10 => ?_) (fun c_10 => ?_)
      · have h1 : c ≤ i := (nI_leI (by omega) (by omega)).mp c_10
        have h2 : i = c := by omega
        refine lv_iconst (v := 1) hx hb dX2_hasCellsOf_37 (by decide) ?_
        have hP9 := hP.sub (ws' := [(ap, .inr (3, [.ref aj, .ref apc, .ref app, .int u0])), (apc, .inl (cL, 12, .inr (.inl cs))), (ao, .inr (3, [.ref aj, .ref aoc, .ref aop, .int u1])), (aoc, .inl (cL, 12, .inr (.inl os))), (aj, .inr (2, [.ref af, .ref al, .int (nI c), .int (nI f)]))]) [0, 1, 2, 3, 4] rfl
        have hD9 := hD.sub (ws' := [(ap, .inr (3, [.ref aj, .ref apc, .ref app, .int u0])), (apc, .inl (cL, 12, .inr (.inl cs))), (ao, .inr (3, [.ref aj, .ref aoc, .ref aop, .int u1])), (aoc, .inl (cL, 12, .inr (.inl os))), (aj, .inr (2, [.ref af, .ref al, .int (nI c), .int (nI f)]))]) [0, 1, 2, 3, 4] (by decide) rfl
        refine W.widen (k := 0) (n := 0) (Nat.le_of_ble_eq_true rfl) (Nat.le_of_ble_eq_true rfl) ?_
        exact W.zret (v := 1) hx hb hr (rfl) (fun t9 ht9 hW9 => ⟨⟨1, (), rfl, hc_yes (by rw [← h2]; exact hall), by rw [ht9]; exact hP9, va_K.moved hW9.alike hK, hD9⟩, hS.F ht9⟩) hS.2.2 dX2_hasCellsOf_38
      · have h1 : ¬ c ≤ i := fun h => c_10 ((nI_leI (by omega) (by omega)).mpr h)
        refine lv_aload_n hx hb dX2_hasCellsOf_13 rfl (lv_at hl 1 rfl) ?_
        refine va_get (D := D) (ci := 3) (v := .ref apc) (C := RX2) (T := TX2) (N := 4) hx hb hts iX2 hown hK hP 0 rfl rfl 1 (by decide) wf9 (fun _ h9 => h9) rfl dX2_hasCellsOf_14 ?_
        refine lv_iload_n hx hb dX2_hasCellsOf_17 rfl (lv_at hl 0 rfl) ?_
        refine ct_lald (k := i) hx hb hK hP 1 1 rfl rfl (by omega) (by decide) dX2_hasCellsOf_18 ?_
        refine lv_aload_n hx hb dX2_hasCellsOf_19 rfl (lv_at hl 2 rfl) ?_
        refine va_get (D := D) (ci := 3) (v := .ref aoc) (C := RX2) (T := TX2) (N := 4) hx hb hts iX2 hown hK hP 2 rfl rfl 1 (by decide) wf9 (fun _ h9 => h9) rfl dX2_hasCellsOf_20 ?_
        refine lv_iload_n hx hb dX2_hasCellsOf_23 rfl (lv_at hl 0 rfl) ?_
        refine ct_lald (k := i) hx hb hK hP 3 1 rfl rfl (by omega) (by decide) dX2_hasCellsOf_24 ?_
        refine W.lcmp hx hb dX2_hasCellsOf_25 ?_
        refine lv_if_eq (tgt := 31) hx hb dX2_hasCellsOf_26 (by decide) (fun c_26 => ?_) (fun c_26 => ?_)
        · refine lv_iinc (v := (nI (i + 1))) (lv' := [(2, .int (nI (i + 1))), (0, .ref ap), (1, .ref ao)]) hx hb dX2_hasCellsOf_31 hl (k := 0) rfl (nI_1 i) (by decide) rfl (fun ls hl => ?_)
          refine lv_goto (tgt := 2) hx hb dX2_hasCellsOf_34 (by decide) ?_
          exact ih ((i + 1)) (by omega) (by omega) (lt_s hall (cr_cmp0.mp c_26)) _ _ (hP.sub [0, 1, 2, 3, 4] rfl) (hD.sub [0, 1, 2, 3, 4] (by decide) rfl) hS ls (lv_sub hl [0, 1, 2] rfl)
        · refine lv_iconst (v := 0) hx hb dX2_hasCellsOf_29 (by decide) ?_
          have hP9 := hP.sub (ws' := [(ap, .inr (3, [.ref aj, .ref apc, .ref app, .int u0])), (apc, .inl (cL, 12, .inr (.inl cs))), (ao, .inr (3, [.ref aj, .ref aoc, .ref aop, .int u1])), (aoc, .inl (cL, 12, .inr (.inl os))), (aj, .inr (2, [.ref af, .ref al, .int (nI c), .int (nI f)]))]) [0, 1, 2, 3, 4] rfl
          have hD9 := hD.sub (ws' := [(ap, .inr (3, [.ref aj, .ref apc, .ref app, .int u0])), (apc, .inl (cL, 12, .inr (.inl cs))), (ao, .inr (3, [.ref aj, .ref aoc, .ref aop, .int u1])), (aoc, .inl (cL, 12, .inr (.inl os))), (aj, .inr (2, [.ref af, .ref al, .int (nI c), .int (nI f)]))]) [0, 1, 2, 3, 4] (by decide) rfl
          refine W.widen (k := 0) (n := 0) (Nat.le_of_ble_eq_true rfl) (Nat.le_of_ble_eq_true rfl) ?_
          exact W.zret (v := 0) hx hb hr (rfl) (fun t9 ht9 hW9 => ⟨⟨0, (), rfl, hc_no (by omega) (fun h => c_26 (cr_cmp0.mpr h)), by rw [ht9]; exact hP9, va_K.moved hW9.alike hK, hD9⟩, hS.F ht9⟩) hS.2.2 dX2_hasCellsOf_30
  refine lv_iconst (v := 0) hx hb dX2_hasCellsOf_0 (by decide) ?_
  refine lv_istore_n (lv' := [(2, .int 0), (0, .ref ap), (1, .ref ao)]) hx hb dX2_hasCellsOf_1 rfl hl (by decide) rfl (fun ls hl => ?_)
  exact key2 (c + 1) 0 (by omega) (by omega) lt_0 _ _ (hP.sub [0, 1, 2, 3, 4] rfl) (hD.sub [0, 1, 2, 3, 4] (by decide) rfl) hS ls (lv_sub hl [0, 1, 2] rfl)
