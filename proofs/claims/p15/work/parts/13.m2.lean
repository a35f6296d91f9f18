abbrev rm_X4_cut : Room := { frames := 0, cells := 0, slots := 0, locals := 0 }
abbrev qc_X4_cut (D : va_G) (cI cL cZ : ClassId) (am : Nat) (acs : Nat) (afv : Nat) (atr : Nat) (aln : Nat) (aps : Nat) (ata : Nat) (aro : Nat) (akc : Nat) (akp : Nat) (akm : Nat) (akf : Nat) (aku : Nat) (ake : Nat) (aiw : Nat) (cde : Int32) (c : Nat) (f : Nat) (t : Nat) (kb : Nat) (ed : Int32) (cp : Int32) (ct : Int32) (dn : Int32) (x : Int32) (A : Nat → Prop) : Array Value → State → Outcome → State → Prop := va_Qi (fun (r : Int32) (u : Int32 × Int32 × Int32) => ((if x < 0 ∨ ¬ x ≤ 30 then -4 else 1) = r) ∧ (cu_dn dn x) = u.1 ∧ (cu_cp cp x) = u.2.1) (ct_B D vwCl [(cI, .int), (cL, .long), (cZ, .boolean)] A (fun (u : Int32 × Int32 × Int32) => [(am, .inr (5, [.int 0, .ref acs, .ref afv, .ref atr, .ref aln, .ref aps, .ref ata, .int (nI c), .int (nI f), .int (nI t), .int ed, .ref aro, .ref akc, .ref akp, .ref akm, .ref akf, .ref aku, .ref ake, .ref aiw, .int (nI kb), .int u.2.1, .int u.2.2, .int u.1]))])) A
set_option maxHeartbeats 4000000 in
set_option maxRecDepth 100000 in
theorem c_X4_cut (l : Launch) (D : va_G) (cI cL cZ : ClassId) (am : Nat) (acs : Nat) (afv : Nat) (atr : Nat) (aln : Nat) (aps : Nat) (ata : Nat) (aro : Nat) (akc : Nat) (akp : Nat) (akm : Nat) (akf : Nat) (aku : Nat) (ake : Nat) (aiw : Nat) (cde : Int32) (c : Nat) (f : Nat) (t : Nat) (kb : Nat) (ed : Int32) (cp : Int32) (ct : Int32) (dn : Int32) (x : Int32) (sz : Nat) (hdn : dn = 0 ∨ dn = 1) : Met l yX4_cut wsX4_cut rm_X4_cut (va_Pc [.ref am, .int x] (ct_P D vwCl [(cI, .int), (cL, .long), (cZ, .boolean)] [(am, .inr (5, [.int cde, .ref acs, .ref afv, .ref atr, .ref aln, .ref aps, .ref ata, .int (nI c), .int (nI f), .int (nI t), .int ed, .ref aro, .ref akc, .ref akp, .ref akm, .ref akf, .ref aku, .ref ake, .ref aiw, .int (nI kb), .int cp, .int ct, .int dn]))] sz)) (qc_X4_cut D cI cL cZ am acs afv atr aln aps ata aro akc akp akm akf aku ake aiw cde c f t kb ed cp ct dn x (va_A [(am, .inr (5, [.int cde, .ref acs, .ref afv, .ref atr, .ref aln, .ref aps, .ref ata, .int (nI c), .int (nI f), .int (nI t), .int ed, .ref aro, .ref akc, .ref akp, .ref akm, .ref akf, .ref aku, .ref ake, .ref aiw, .int (nI kb), .int cp, .int ct, .int dn]))] sz)) 0 0 (va_A [(am, .inr (5, [.int cde, .ref acs, .ref afv, .ref atr, .ref aln, .ref aps, .ref ata, .int (nI c), .int (nI f), .int (nI t), .int ed, .ref aro, .ref akc, .ref akp, .ref akm, .ref akf, .ref aku, .ref ake, .ref aiw, .int (nI kb), .int cp, .int ct, .int dn]))] sz) := by
  refine Met.ofW (cc := cX4_cut) (maxL := 2) (ret := (some .int)) (by decide) rfl ?_
  intro p e s m args below meth cd s₁ B hml hv
  obtain ⟨rfl, hsz, hP, hK, hD0⟩ := hv
  have hx := B.exec
  have hb := B.bytes
  have hr := B.returns
  have hts := atoms_spec (ws := wsX4_cut) B.pre
  have iX4 : ∀ w ∈ wsX40, w ∈ wsX4_cut := by decide +kernel
  have wf54 := hts (.fieldLink RX4 54 "CheckRestartModel" "code" "I") (by decide +kernel)
  have wf83 := hts (.fieldLink RX4 83 "CheckRestartModel" "cuts" "I") (by decide +kernel)
  have wf80 := hts (.fieldLink RX4 80 "CheckRestartModel" "cutAt" "I") (by decide +kernel)
  have wf58 := hts (.fieldLink RX4 58 "CheckRestartModel" "down" "Z") (by decide +kernel)
  have hown : s.vm.findClass RX4 = some m.cls := findClass_of_methodNamed B.named
  have hlocks := B.notSynchronized
  subst hsz
  have hD := hD0.self (sz := s.heap.size)
  generalize hAe : va_A [(am, .inr (5, [.int cde, .ref acs, .ref afv, .ref atr, .ref aln, .ref aps, .ref ata, .int (nI c), .int (nI f), .int (nI t), .int ed, .ref aro, .ref akc, .ref akp, .ref akm, .ref akf, .ref aku, .ref ake, .ref aiw, .int (nI kb), .int cp, .int ct, .int dn]))] s.heap.size = A at hD ⊢
  have hA : ∀ q : Nat, s.heap.size ≤ q → A q := fun q h => by rw [← hAe]; exact Or.inr h
  have hS : va_S A s.heap s.heap [] := va_S.rf
  have hl := lv_entry ([.ref am, .int x]) (n := 2) (Nat.le_of_ble_eq_true rfl)
  rw [lg_entry_eq]
  generalize (lg_sl ([.ref am, .int x]) ++ List.replicate (2 - (lg_sl ([.ref am, .int x])).length) Slot.unset).toArray = ls at hl ⊢
  have hl : lv_has ls 2 [(0, .ref am), (1, .int x)] := hl
  refine lv_aload_n hx hb dX4_cut_0 rfl (lv_at hl 0 rfl) ?_
  refine lv_iconst (v := 0) hx hb dX4_cut_1 (by decide) ?_
  refine va_put (D := D) (ci := 5) (v := .int 0) (ty := .int) (C := RX4) (T := TX4) (N := 23) hx hb hts iX4 tyX4 tyX4_ok nmX4 hown hK hP hD hS 0 rfl rfl 0 (by decide) wf54 (fun _ h9 => h9) rfl (by decide +kernel) rfl rfl (Nat.le_of_ble_eq_true rfl) dX4_cut_2 (fun H locs hP hD hS => ?_)
  have hP : va_P D vwCl [(am, .inr (5, [.int 0, .ref acs, .ref afv, .ref atr, .ref aln, .ref aps, .ref ata, .int (nI c), .int (nI f), .int (nI t), .int ed, .ref aro, .ref akc, .ref akp, .ref akm, .ref akf, .ref aku, .ref ake, .ref aiw, .int (nI kb), .int cp, .int ct, .int dn]))] H := hP
  have hD : va_D A [(am, .inr (5, [.int 0, .ref acs, .ref afv, .ref atr, .ref aln, .ref aps, .ref ata, .int (nI c), .int (nI f), .int (nI t), .int ed, .ref aro, .ref akc, .ref akp, .ref akm, .ref akf, .ref aku, .ref ake, .ref aiw, .int (nI kb), .int cp, .int ct, .int dn]))] := hD
  refine lv_iload_n hx hb dX4_cut_5 rfl (lv_at hl 1 rfl) ?_
  refine lv_if_lt (tgt := 15) hx hb dX4_cut_6 (by decide) (fun c_6 => ?_) (fun c_6 => ?_)
  · refine lv_bipush (v := (-4)) hx hb dX4_cut_15 (by decide) ?_
    have hP9 := hP.sub (ws' := [(am, .inr (5, [.int 0, .ref acs, .ref afv, .ref atr, .ref aln, .ref aps, .ref ata, .int (nI c), .int (nI f), .int (nI t), .int ed, .ref aro, .ref akc, .ref akp, .ref akm, .ref akf, .ref aku, .ref ake, .ref aiw, .int (nI kb), .int cp, .int ct, .int dn]))]) [0] rfl
    have hD9 := hD.sub (ws' := [(am, .inr (5, [.int 0, .ref acs, .ref afv, .ref atr, .ref aln, .ref aps, .ref ata, .int (nI c), .int (nI f), .int (nI t), .int ed, .ref aro, .ref akc, .ref akp, .ref akm, .ref akf, .ref aku, .ref ake, .ref aiw, .int (nI kb), .int cp, .int ct, .int dn]))]) [0] (by decide) rfl
    refine W.widen (k := 0) (n := 0) (Nat.le_of_ble_eq_true rfl) (Nat.le_of_ble_eq_true rfl) ?_
    exact W.iret (v := (-4)) hx hb hr (fun t9 ht9 hW9 => ⟨⟨(-4), (dn, cp, ct), rfl, ⟨by rw [if_pos (by first | exact Or.inl c_6 | exact Or.inr c_12)], by unfold cu_dn; rw [if_pos (by first | exact Or.inl c_6 | exact Or.inr c_12)], by unfold cu_cp; rw [if_pos (by first | exact Or.inl c_6 | exact Or.inr c_12)]⟩, by rw [ht9]; exact hP9, va_K.moved hW9.alike hK, hD9⟩, hS.F ht9⟩) hS.2.2 dX4_cut_17
  · refine lv_iload_n hx hb dX4_cut_9 rfl (lv_at hl 1 rfl) ?_
    refine lv_bipush (v := 30) hx hb dX4_cut_10 (by decide) ?_
    refine lv_icmp_le (tgt := 18) hx hb dX4_cut_12 (by decide) (fun c_12 => ?_) (fun c_12 => ?_)
    · refine lv_aload_n hx hb dX4_cut_18 rfl (lv_at hl 0 rfl) ?_
      refine lv_dup hx hb dX4_cut_19 rfl ?_
      refine va_get (D := D) (ci := 5) (v := .int ct) (C := RX4) (T := TX4) (N := 23) hx hb hts iX4 hown hK hP 0 rfl rfl 21 (by decide) wf83 (fun _ h9 => h9) rfl dX4_cut_20 ?_
      refine lv_iload_n hx hb dX4_cut_23 rfl (lv_at hl 1 rfl) ?_
      refine lv_if_ne (tgt := 38) hx hb dX4_cut_24 (by decide) (fun c_24 => ?_) (fun c_24 => ?_)
      · refine lv_iconst (v := 0) hx hb dX4_cut_38 (by decide) ?_
        refine lv_iadd hx hb dX4_cut_39 ?_
        refine va_put (D := D) (ci := 5) (v := .int (ct + 0)) (ty := .int) (C := RX4) (T := TX4) (N := 23) hx hb hts iX4 tyX4 tyX4_ok nmX4 hown hK hP hD hS 0 rfl rfl 21 (by decide) wf83 (fun _ h9 => h9) rfl (by decide +kernel) rfl rfl (Nat.le_of_ble_eq_true rfl) dX4_cut_40 (fun H locs hP hD hS => ?_)
        have hP : va_P D vwCl [(am, .inr (5, [.int 0, .ref acs, .ref afv, .ref atr, .ref aln, .ref aps, .ref ata, .int (nI c), .int (nI f), .int (nI t), .int ed, .ref aro, .ref akc, .ref akp, .ref akm, .ref akf, .ref aku, .ref ake, .ref aiw, .int (nI kb), .int cp, .int (ct + 0), .int dn]))] H := hP
        have hD : va_D A [(am, .inr (5, [.int 0, .ref acs, .ref afv, .ref atr, .ref aln, .ref aps, .ref ata, .int (nI c), .int (nI f), .int (nI t), .int ed, .ref aro, .ref akc, .ref akp, .ref akm, .ref akf, .ref aku, .ref ake, .ref aiw, .int (nI kb), .int cp, .int (ct + 0), .int dn]))] := hD
        refine lv_aload_n hx hb dX4_cut_43 rfl (lv_at hl 0 rfl) ?_
        refine lv_iload_n hx hb dX4_cut_44 rfl (lv_at hl 1 rfl) ?_
        refine va_put (D := D) (ci := 5) (v := .int x) (ty := .int) (C := RX4) (T := TX4) (N := 23) hx hb hts iX4 tyX4 tyX4_ok nmX4 hown hK hP hD hS 0 rfl rfl 20 (by decide) wf80 (fun _ h9 => h9) rfl (by decide +kernel) rfl rfl (Nat.le_of_ble_eq_true rfl) dX4_cut_45 (fun H locs hP hD hS => ?_)
        have hP : va_P D vwCl [(am, .inr (5, [.int 0, .ref acs, .ref afv, .ref atr, .ref aln, .ref aps, .ref ata, .int (nI c), .int (nI f), .int (nI t), .int ed, .ref aro, .ref akc, .ref akp, .ref akm, .ref akf, .ref aku, .ref ake, .ref aiw, .int (nI kb), .int x, .int (ct + 0), .int dn]))] H := hP
        have hD : va_D A [(am, .inr (5, [.int 0, .ref acs, .ref afv, .ref atr, .ref aln, .ref aps, .ref ata, .int (nI c), .int (nI f), .int (nI t), .int ed, .ref aro, .ref akc, .ref akp, .ref akm, .ref akf, .ref aku, .ref ake, .ref aiw, .int (nI kb), .int x, .int (ct + 0), .int dn]))] := hD
        refine lv_aload_n hx hb dX4_cut_48 rfl (lv_at hl 0 rfl) ?_
        refine lv_aload_n hx hb dX4_cut_49 rfl (lv_at hl 0 rfl) ?_
        refine va_get (D := D) (ci := 5) (v := .int dn) (C := RX4) (T := TX4) (N := 23) hx hb hts iX4 hown hK hP 0 rfl rfl 22 (by decide) wf58 (fun _ h9 => h9) rfl dX4_cut_50 ?_
        refine lv_if_ne (tgt := 60) hx hb dX4_cut_53 (by decide) (fun c_53 => ?_) (fun c_53 => ?_)
        · refine lv_iconst (v := 1) hx hb dX4_cut_60 (by decide) ?_
          refine lv_goto (tgt := 65) hx hb dX4_cut_61 (by decide) ?_
          refine va_put (D := D) (ci := 5) (v := .int 1) (ty := .boolean) (C := RX4) (T := TX4) (N := 23) hx hb hts iX4 tyX4 tyX4_ok nmX4 hown hK hP hD hS 0 rfl rfl 22 (by decide) wf58 (fun _ h9 => h9) rfl (by decide +kernel) rfl rfl (Nat.le_of_ble_eq_true rfl) dX4_cut_65 (fun H locs hP hD hS => ?_)
          have hP : va_P D vwCl [(am, .inr (5, [.int 0, .ref acs, .ref afv, .ref atr, .ref aln, .ref aps, .ref ata, .int (nI c), .int (nI f), .int (nI t), .int ed, .ref aro, .ref akc, .ref akp, .ref akm, .ref akf, .ref aku, .ref ake, .ref aiw, .int (nI kb), .int x, .int (ct + 0), .int 1]))] H := hP
          have hD : va_D A [(am, .inr (5, [.int 0, .ref acs, .ref afv, .ref atr, .ref aln, .ref aps, .ref ata, .int (nI c), .int (nI f), .int (nI t), .int ed, .ref aro, .ref akc, .ref akp, .ref akm, .ref akf, .ref aku, .ref ake, .ref aiw, .int (nI kb), .int x, .int (ct + 0), .int 1]))] := hD
          refine lv_iconst (v := 1) hx hb dX4_cut_68 (by decide) ?_
          have hP9 := hP.sub (ws' := [(am, .inr (5, [.int 0, .ref acs, .ref afv, .ref atr, .ref aln, .ref aps, .ref ata, .int (nI c), .int (nI f), .int (nI t), .int ed, .ref aro, .ref akc, .ref akp, .ref akm, .ref akf, .ref aku, .ref ake, .ref aiw, .int (nI kb), .int x, .int (ct + 0), .int 1]))]) [0] rfl
          have hD9 := hD.sub (ws' := [(am, .inr (5, [.int 0, .ref acs, .ref afv, .ref atr, .ref aln, .ref aps, .ref ata, .int (nI c), .int (nI f), .int (nI t), .int ed, .ref aro, .ref akc, .ref akp, .ref akm, .ref akf, .ref aku, .ref ake, .ref aiw, .int (nI kb), .int x, .int (ct + 0), .int 1]))]) [0] (by decide) rfl
          refine W.widen (k := 0) (n := 0) (Nat.le_of_ble_eq_true rfl) (Nat.le_of_ble_eq_true rfl) ?_
          exact W.iret (v := 1) hx hb hr (fun t9 ht9 hW9 => ⟨⟨1, (1, x, (ct + 0)), rfl, ⟨by rw [if_neg (fun q => q.elim c_6 (fun q => q c_12))], by unfold cu_dn; refine (if_neg (fun q => q.elim c_6 (fun q => q c_12))).trans ?_; rcases hdn with h | h <;> by_cases q : x = 0 <;> simp_all, by unfold cu_cp; exact if_neg (fun q => q.elim c_6 (fun q => q c_12))⟩, by rw [ht9]; exact hP9, va_K.moved hW9.alike hK, hD9⟩, hS.F ht9⟩) hS.2.2 dX4_cut_69
        · refine lv_iload_n hx hb dX4_cut_56 rfl (lv_at hl 1 rfl) ?_
          refine lv_if_ne (tgt := 64) hx hb dX4_cut_57 (by decide) (fun c_57 => ?_) (fun c_57 => ?_)
          · refine lv_iconst (v := 0) hx hb dX4_cut_64 (by decide) ?_
            refine va_put (D := D) (ci := 5) (v := .int 0) (ty := .boolean) (C := RX4) (T := TX4) (N := 23) hx hb hts iX4 tyX4 tyX4_ok nmX4 hown hK hP hD hS 0 rfl rfl 22 (by decide) wf58 (fun _ h9 => h9) rfl (by decide +kernel) rfl rfl (Nat.le_of_ble_eq_true rfl) dX4_cut_65 (fun H locs hP hD hS => ?_)
            have hP : va_P D vwCl [(am, .inr (5, [.int 0, .ref acs, .ref afv, .ref atr, .ref aln, .ref aps, .ref ata, .int (nI c), .int (nI f), .int (nI t), .int ed, .ref aro, .ref akc, .ref akp, .ref akm, .ref akf, .ref aku, .ref ake, .ref aiw, .int (nI kb), .int x, .int (ct + 0), .int 0]))] H := hP
            have hD : va_D A [(am, .inr (5, [.int 0, .ref acs, .ref afv, .ref atr, .ref aln, .ref aps, .ref ata, .int (nI c), .int (nI f), .int (nI t), .int ed, .ref aro, .ref akc, .ref akp, .ref akm, .ref akf, .ref aku, .ref ake, .ref aiw, .int (nI kb), .int x, .int (ct + 0), .int 0]))] := hD
            refine lv_iconst (v := 1) hx hb dX4_cut_68 (by decide) ?_
            have hP9 := hP.sub (ws' := [(am, .inr (5, [.int 0, .ref acs, .ref afv, .ref atr, .ref aln, .ref aps, .ref ata, .int (nI c), .int (nI f), .int (nI t), .int ed, .ref aro, .ref akc, .ref akp, .ref akm, .ref akf, .ref aku, .ref ake, .ref aiw, .int (nI kb), .int x, .int (ct + 0), .int 0]))]) [0] rfl
            have hD9 := hD.sub (ws' := [(am, .inr (5, [.int 0, .ref acs, .ref afv, .ref atr, .ref aln, .ref aps, .ref ata, .int (nI c), .int (nI f), .int (nI t), .int ed, .ref aro, .ref akc, .ref akp, .ref akm, .ref akf, .ref aku, .ref ake, .ref aiw, .int (nI kb), .int x, .int (ct + 0), .int 0]))]) [0] (by decide) rfl
            refine W.widen (k := 0) (n := 0) (Nat.le_of_ble_eq_true rfl) (Nat.le_of_ble_eq_true rfl) ?_
            exact W.iret (v := 1) hx hb hr (fun t9 ht9 hW9 => ⟨⟨1, (0, x, (ct + 0)), rfl, ⟨by rw [if_neg (fun q => q.elim c_6 (fun q => q c_12))], by unfold cu_dn; refine (if_neg (fun q => q.elim c_6 (fun q => q c_12))).trans ?_; rcases hdn with h | h <;> by_cases q : x = 0 <;> simp_all, by unfold cu_cp; exact if_neg (fun q => q.elim c_6 (fun q => q c_12))⟩, by rw [ht9]; exact hP9, va_K.moved hW9.alike hK, hD9⟩, hS.F ht9⟩) hS.2.2 dX4_cut_69
          · refine lv_iconst (v := 1) hx hb dX4_cut_60 (by decide) ?_
            refine lv_goto (tgt := 65) hx hb dX4_cut_61 (by decide) ?_
            refine va_put (D := D) (ci := 5) (v := .int 1) (ty := .boolean) (C := RX4) (T := TX4) (N := 23) hx hb hts iX4 tyX4 tyX4_ok nmX4 hown hK hP hD hS 0 rfl rfl 22 (by decide) wf58 (fun _ h9 => h9) rfl (by decide +kernel) rfl rfl (Nat.le_of_ble_eq_true rfl) dX4_cut_65 (fun H locs hP hD hS => ?_)
            have hP : va_P D vwCl [(am, .inr (5, [.int 0, .ref acs, .ref afv, .ref atr, .ref aln, .ref aps, .ref ata, .int (nI c), .int (nI f), .int (nI t), .int ed, .ref aro, .ref akc, .ref akp, .ref akm, .ref akf, .ref aku, .ref ake, .ref aiw, .int (nI kb), .int x, .int (ct + 0), .int 1]))] H := hP
            have hD : va_D A [(am, .inr (5, [.int 0, .ref acs, .ref afv, .ref atr, .ref aln, .ref aps, .ref ata, .int (nI c), .int (nI f), .int (nI t), .int ed, .ref aro, .ref akc, .ref akp, .ref akm, .ref akf, .ref aku, .ref ake, .ref aiw, .int (nI kb), .int x, .int (ct + 0), .int 1]))] := hD
            refine lv_iconst (v := 1) hx hb dX4_cut_68 (by decide) ?_
            have hP9 := hP.sub (ws' := [(am, .inr (5, [.int 0, .ref acs, .ref afv, .ref atr, .ref aln, .ref aps, .ref ata, .int (nI c), .int (nI f), .int (nI t), .int ed, .ref aro, .ref akc, .ref akp, .ref akm, .ref akf, .ref aku, .ref ake, .ref aiw, .int (nI kb), .int x, .int (ct + 0), .int 1]))]) [0] rfl
            have hD9 := hD.sub (ws' := [(am, .inr (5, [.int 0, .ref acs, .ref afv, .ref atr, .ref aln, .ref aps, .ref ata, .int (nI c), .int (nI f), .int (nI t), .int ed, .ref aro, .ref akc, .ref akp, .ref akm, .ref akf, .ref aku, .ref ake, .ref aiw, .int (nI kb), .int x, .int (ct + 0), .int 1]))]) [0] (by decide) rfl
            refine W.widen (k := 0) (n := 0) (Nat.le_of_ble_eq_true rfl) (Nat.le_of_ble_eq_true rfl) ?_
            exact W.iret (v := 1) hx hb hr (fun t9 ht9 hW9 => ⟨⟨1, (1, x, (ct + 0)), rfl, ⟨by rw [if_neg (fun q => q.elim c_6 (fun q => q c_12))], by unfold cu_dn; refine (if_neg (fun q => q.elim c_6 (fun q => q c_12))).trans ?_; rcases hdn with h | h <;> by_cases q : x = 0 <;> simp_all, by unfold cu_cp; exact if_neg (fun q => q.elim c_6 (fun q => q c_12))⟩, by rw [ht9]; exact hP9, va_K.moved hW9.alike hK, hD9⟩, hS.F ht9⟩) hS.2.2 dX4_cut_69
      · refine lv_aload_n hx hb dX4_cut_27 rfl (lv_at hl 0 rfl) ?_
        refine va_get (D := D) (ci := 5) (v := .int dn) (C := RX4) (T := TX4) (N := 23) hx hb hts iX4 hown hK hP 0 rfl rfl 22 (by decide) wf58 (fun _ h9 => h9) rfl dX4_cut_28 ?_
        refine lv_if_ne (tgt := 38) hx hb dX4_cut_31 (by decide) (fun c_31 => ?_) (fun c_31 => ?_)
        · refine lv_iconst (v := 0) hx hb dX4_cut_38 (by decide) ?_
          refine lv_iadd hx hb dX4_cut_39 ?_
          refine va_put (D := D) (ci := 5) (v := .int (ct + 0)) (ty := .int) (C := RX4) (T := TX4) (N := 23) hx hb hts iX4 tyX4 tyX4_ok nmX4 hown hK hP hD hS 0 rfl rfl 21 (by decide) wf83 (fun _ h9 => h9) rfl (by decide +kernel) rfl rfl (Nat.le_of_ble_eq_true rfl) dX4_cut_40 (fun H locs hP hD hS => ?_)
          have hP : va_P D vwCl [(am, .inr (5, [.int 0, .ref acs, .ref afv, .ref atr, .ref aln, .ref aps, .ref ata, .int (nI c), .int (nI f), .int (nI t), .int ed, .ref aro, .ref akc, .ref akp, .ref akm, .ref akf, .ref aku, .ref ake, .ref aiw, .int (nI kb), .int cp, .int (ct + 0), .int dn]))] H := hP
          have hD : va_D A [(am, .inr (5, [.int 0, .ref acs, .ref afv, .ref atr, .ref aln, .ref aps, .ref ata, .int (nI c), .int (nI f), .int (nI t), .int ed, .ref aro, .ref akc, .ref akp, .ref akm, .ref akf, .ref aku, .ref ake, .ref aiw, .int (nI kb), .int cp, .int (ct + 0), .int dn]))] := hD
          refine lv_aload_n hx hb dX4_cut_43 rfl (lv_at hl 0 rfl) ?_
          refine lv_iload_n hx hb dX4_cut_44 rfl (lv_at hl 1 rfl) ?_
          refine va_put (D := D) (ci := 5) (v := .int x) (ty := .int) (C := RX4) (T := TX4) (N := 23) hx hb hts iX4 tyX4 tyX4_ok nmX4 hown hK hP hD hS 0 rfl rfl 20 (by decide) wf80 (fun _ h9 => h9) rfl (by decide +kernel) rfl rfl (Nat.le_of_ble_eq_true rfl) dX4_cut_45 (fun H locs hP hD hS => ?_)
          have hP : va_P D vwCl [(am, .inr (5, [.int 0, .ref acs, .ref afv, .ref atr, .ref aln, .ref aps, .ref ata, .int (nI c), .int (nI f), .int (nI t), .int ed, .ref aro, .ref akc, .ref akp, .ref akm, .ref akf, .ref aku, .ref ake, .ref aiw, .int (nI kb), .int x, .int (ct + 0), .int dn]))] H := hP
          have hD : va_D A [(am, .inr (5, [.int 0, .ref acs, .ref afv, .ref atr, .ref aln, .ref aps, .ref ata, .int (nI c), .int (nI f), .int (nI t), .int ed, .ref aro, .ref akc, .ref akp, .ref akm, .ref akf, .ref aku, .ref ake, .ref aiw, .int (nI kb), .int x, .int (ct + 0), .int dn]))] := hD
          refine lv_aload_n hx hb dX4_cut_48 rfl (lv_at hl 0 rfl) ?_
          refine lv_aload_n hx hb dX4_cut_49 rfl (lv_at hl 0 rfl) ?_
          refine va_get (D := D) (ci := 5) (v := .int dn) (C := RX4) (T := TX4) (N := 23) hx hb hts iX4 hown hK hP 0 rfl rfl 22 (by decide) wf58 (fun _ h9 => h9) rfl dX4_cut_50 ?_
          refine lv_if_ne (tgt := 60) hx hb dX4_cut_53 (by decide) (fun c_53 => ?_) (fun c_53 => ?_)
          · refine lv_iconst (v := 1) hx hb dX4_cut_60 (by decide) ?_
            refine lv_goto (tgt := 65) hx hb dX4_cut_61 (by decide) ?_
            refine va_put (D := D) (ci := 5) (v := .int 1) (ty := .boolean) (C := RX4) (T := TX4) (N := 23) hx hb hts iX4 tyX4 tyX4_ok nmX4 hown hK hP hD hS 0 rfl rfl 22 (by decide) wf58 (fun _ h9 => h9) rfl (by decide +kernel) rfl rfl (Nat.le_of_ble_eq_true rfl) dX4_cut_65 (fun H locs hP hD hS => ?_)
            have hP : va_P D vwCl [(am, .inr (5, [.int 0, .ref acs, .ref afv, .ref atr, .ref aln, .ref aps, .ref ata, .int (nI c), .int (nI f), .int (nI t), .int ed, .ref aro, .ref akc, .ref akp, .ref akm, .ref akf, .ref aku, .ref ake, .ref aiw, .int (nI kb), .int x, .int (ct + 0), .int 1]))] H := hP
            have hD : va_D A [(am, .inr (5, [.int 0, .ref acs, .ref afv, .ref atr, .ref aln, .ref aps, .ref ata, .int (nI c), .int (nI f), .int (nI t), .int ed, .ref aro, .ref akc, .ref akp, .ref akm, .ref akf, .ref aku, .ref ake, .ref aiw, .int (nI kb), .int x, .int (ct + 0), .int 1]))] := hD
            refine lv_iconst (v := 1) hx hb dX4_cut_68 (by decide) ?_
            have hP9 := hP.sub (ws' := [(am, .inr (5, [.int 0, .ref acs, .ref afv, .ref atr, .ref aln, .ref aps, .ref ata, .int (nI c), .int (nI f), .int (nI t), .int ed, .ref aro, .ref akc, .ref akp, .ref akm, .ref akf, .ref aku, .ref ake, .ref aiw, .int (nI kb), .int x, .int (ct + 0), .int 1]))]) [0] rfl
            have hD9 := hD.sub (ws' := [(am, .inr (5, [.int 0, .ref acs, .ref afv, .ref atr, .ref aln, .ref aps, .ref ata, .int (nI c), .int (nI f), .int (nI t), .int ed, .ref aro, .ref akc, .ref akp, .ref akm, .ref akf, .ref aku, .ref ake, .ref aiw, .int (nI kb), .int x, .int (ct + 0), .int 1]))]) [0] (by decide) rfl
            refine W.widen (k := 0) (n := 0) (Nat.le_of_ble_eq_true rfl) (Nat.le_of_ble_eq_true rfl) ?_
            exact W.iret (v := 1) hx hb hr (fun t9 ht9 hW9 => ⟨⟨1, (1, x, (ct + 0)), rfl, ⟨by rw [if_neg (fun q => q.elim c_6 (fun q => q c_12))], by unfold cu_dn; refine (if_neg (fun q => q.elim c_6 (fun q => q c_12))).trans ?_; rcases hdn with h | h <;> by_cases q : x = 0 <;> simp_all, by unfold cu_cp; exact if_neg (fun q => q.elim c_6 (fun q => q c_12))⟩, by rw [ht9]; exact hP9, va_K.moved hW9.alike hK, hD9⟩, hS.F ht9⟩) hS.2.2 dX4_cut_69
          · refine lv_iload_n hx hb dX4_cut_56 rfl (lv_at hl 1 rfl) ?_
            refine lv_if_ne (tgt := 64) hx hb dX4_cut_57 (by decide) (fun c_57 => ?_) (fun c_57 => ?_)
            · refine lv_iconst (v := 0) hx hb dX4_cut_64 (by decide) ?_
              refine va_put (D := D) (ci := 5) (v := .int 0) (ty := .boolean) (C := RX4) (T := TX4) (N := 23) hx hb hts iX4 tyX4 tyX4_ok nmX4 hown hK hP hD hS 0 rfl rfl 22 (by decide) wf58 (fun _ h9 => h9) rfl (by decide +kernel) rfl rfl (Nat.le_of_ble_eq_true rfl) dX4_cut_65 (fun H locs hP hD hS => ?_)
              have hP : va_P D vwCl [(am, .inr (5, [.int 0, .ref acs, .ref afv, .ref atr, .ref aln, .ref aps, .ref ata, .int (nI c), .int (nI f), .int (nI t), .int ed, .ref aro, .ref akc, .ref akp, .ref akm, .ref akf, .ref aku, .ref ake, .ref aiw, .int (nI kb), .int x, .int (ct + 0), .int 0]))] H := hP
              have hD : va_D A [(am, .inr (5, [.int 0, .ref acs, .ref afv, .ref atr, .ref aln, .ref aps, .ref ata, .int (nI c), .int (nI f), .int (nI t), .int ed, .ref aro, .ref akc, .ref akp, .ref akm, .ref akf, .ref aku, .ref ake, .ref aiw, .int (nI kb), .int x, .int (ct + 0), .int 0]))] := hD
              refine lv_iconst (v := 1) hx hb dX4_cut_68 (by decide) ?_
              have hP9 := hP.sub (ws' := [(am, .inr (5, [.int 0, .ref acs, .ref afv, .ref atr, .ref aln, .ref aps, .ref ata, .int (nI c), .int (nI f), .int (nI t), .int ed, .ref aro, .ref akc, .ref akp, .ref akm, .ref akf, .ref aku, .ref ake, .ref aiw, .int (nI kb), .int x, .int (ct + 0), .int 0]))]) [0] rfl
              have hD9 := hD.sub (ws' := [(am, .inr (5, [.int 0, .ref acs, .ref afv, .ref atr, .ref aln, .ref aps, .ref ata, .int (nI c), .int (nI f), .int (nI t), .int ed, .ref aro, .ref akc, .ref akp, .ref akm, .ref akf, .ref aku, .ref ake, .ref aiw, .int (nI kb), .int x, .int (ct + 0), .int 0]))]) [0] (by decide) rfl
              refine W.widen (k := 0) (n := 0) (Nat.le_of_ble_eq_true rfl) (Nat.le_of_ble_eq_true rfl) ?_
              exact W.iret (v := 1) hx hb hr (fun t9 ht9 hW9 => ⟨⟨1, (0, x, (ct + 0)), rfl, ⟨by rw [if_neg (fun q => q.elim c_6 (fun q => q c_12))], by unfold cu_dn; refine (if_neg (fun q => q.elim c_6 (fun q => q c_12))).trans ?_; rcases hdn with h | h <;> by_cases q : x = 0 <;> simp_all, by unfold cu_cp; exact if_neg (fun q => q.elim c_6 (fun q => q c_12))⟩, by rw [ht9]; exact hP9, va_K.moved hW9.alike hK, hD9⟩, hS.F ht9⟩) hS.2.2 dX4_cut_69
            · refine lv_iconst (v := 1) hx hb dX4_cut_60 (by decide) ?_
              refine lv_goto (tgt := 65) hx hb dX4_cut_61 (by decide) ?_
              refine va_put (D := D) (ci := 5) (v := .int 1) (ty := .boolean) (C := RX4) (T := TX4) (N := 23) hx hb hts iX4 tyX4 tyX4_ok nmX4 hown hK hP hD hS 0 rfl rfl 22 (by decide) wf58 (fun _ h9 => h9) rfl (by decide +kernel) rfl rfl (Nat.le_of_ble_eq_true rfl) dX4_cut_65 (fun H locs hP hD hS => ?_)
              have hP : va_P D vwCl [(am, .inr (5, [.int 0, .ref acs, .ref afv, .ref atr, .ref aln, .ref aps, .ref ata, .int (nI c), .int (nI f), .int (nI t), .int ed, .ref aro, .ref akc, .ref akp, .ref akm, .ref akf, .ref aku, .ref ake, .ref aiw, .int (nI kb), .int x, .int (ct + 0), .int 1]))] H := hP
              have hD : va_D A [(am, .inr (5, [.int 0, .ref acs, .ref afv, .ref atr, .ref aln, .ref aps, .ref ata, .int (nI c), .int (nI f), .int (nI t), .int ed, .ref aro, .ref akc, .ref akp, .ref akm, .ref akf, .ref aku, .ref ake, .ref aiw, .int (nI kb), .int x, .int (ct + 0), .int 1]))] := hD
              refine lv_iconst (v := 1) hx hb dX4_cut_68 (by decide) ?_
              have hP9 := hP.sub (ws' := [(am, .inr (5, [.int 0, .ref acs, .ref afv, .ref atr, .ref aln, .ref aps, .ref ata, .int (nI c), .int (nI f), .int (nI t), .int ed, .ref aro, .ref akc, .ref akp, .ref akm, .ref akf, .ref aku, .ref ake, .ref aiw, .int (nI kb), .int x, .int (ct + 0), .int 1]))]) [0] rfl
              have hD9 := hD.sub (ws' := [(am, .inr (5, [.int 0, .ref acs, .ref afv, .ref atr, .ref aln, .ref aps, .ref ata, .int (nI c), .int (nI f), .int (nI t), .int ed, .ref aro, .ref akc, .ref akp, .ref akm, .ref akf, .ref aku, .ref ake, .ref aiw, .int (nI kb), .int x, .int (ct + 0), .int 1]))]) [0] (by decide) rfl
              refine W.widen (k := 0) (n := 0) (Nat.le_of_ble_eq_true rfl) (Nat.le_of_ble_eq_true rfl) ?_
              exact W.iret (v := 1) hx hb hr (fun t9 ht9 hW9 => ⟨⟨1, (1, x, (ct + 0)), rfl, ⟨by rw [if_neg (fun q => q.elim c_6 (fun q => q c_12))], by unfold cu_dn; refine (if_neg (fun q => q.elim c_6 (fun q => q c_12))).trans ?_; rcases hdn with h | h <;> by_cases q : x = 0 <;> simp_all, by unfold cu_cp; exact if_neg (fun q => q.elim c_6 (fun q => q c_12))⟩, by rw [ht9]; exact hP9, va_K.moved hW9.alike hK, hD9⟩, hS.F ht9⟩) hS.2.2 dX4_cut_69
        · refine lv_iconst (v := 1) hx hb dX4_cut_34 (by decide) ?_
          refine lv_goto (tgt := 39) hx hb dX4_cut_35 (by decide) ?_
          refine lv_iadd hx hb dX4_cut_39 ?_
          refine va_put (D := D) (ci := 5) (v := .int (ct + 1)) (ty := .int) (C := RX4) (T := TX4) (N := 23) hx hb hts iX4 tyX4 tyX4_ok nmX4 hown hK hP hD hS 0 rfl rfl 21 (by decide) wf83 (fun _ h9 => h9) rfl (by decide +kernel) rfl rfl (Nat.le_of_ble_eq_true rfl) dX4_cut_40 (fun H locs hP hD hS => ?_)
          have hP : va_P D vwCl [(am, .inr (5, [.int 0, .ref acs, .ref afv, .ref atr, .ref aln, .ref aps, .ref ata, .int (nI c), .int (nI f), .int (nI t), .int ed, .ref aro, .ref akc, .ref akp, .ref akm, .ref akf, .ref aku, .ref ake, .ref aiw, .int (nI kb), .int cp, .int (ct + 1), .int dn]))] H := hP
          have hD : va_D A [(am, .inr (5, [.int 0, .ref acs, .ref afv, .ref atr, .ref aln, .ref aps, .ref ata, .int (nI c), .int (nI f), .int (nI t), .int ed, .ref aro, .ref akc, .ref akp, .ref akm, .ref akf, .ref aku, .ref ake, .ref aiw, .int (nI kb), .int cp, .int (ct + 1), .int dn]))] := hD
          refine lv_aload_n hx hb dX4_cut_43 rfl (lv_at hl 0 rfl) ?_
          refine lv_iload_n hx hb dX4_cut_44 rfl (lv_at hl 1 rfl) ?_
          refine va_put (D := D) (ci := 5) (v := .int x) (ty := .int) (C := RX4) (T := TX4) (N := 23) hx hb hts iX4 tyX4 tyX4_ok nmX4 hown hK hP hD hS 0 rfl rfl 20 (by decide) wf80 (fun _ h9 => h9) rfl (by decide +kernel) rfl rfl (Nat.le_of_ble_eq_true rfl) dX4_cut_45 (fun H locs hP hD hS => ?_)
          have hP : va_P D vwCl [(am, .inr (5, [.int 0, .ref acs, .ref afv, .ref atr, .ref aln, .ref aps, .ref ata, .int (nI c), .int (nI f), .int (nI t), .int ed, .ref aro, .ref akc, .ref akp, .ref akm, .ref akf, .ref aku, .ref ake, .ref aiw, .int (nI kb), .int x, .int (ct + 1), .int dn]))] H := hP
          have hD : va_D A [(am, .inr (5, [.int 0, .ref acs, .ref afv, .ref atr, .ref aln, .ref aps, .ref ata, .int (nI c), .int (nI f), .int (nI t), .int ed, .ref aro, .ref akc, .ref akp, .ref akm, .ref akf, .ref aku, .ref ake, .ref aiw, .int (nI kb), .int x, .int (ct + 1), .int dn]))] := hD
          refine lv_aload_n hx hb dX4_cut_48 rfl (lv_at hl 0 rfl) ?_
          refine lv_aload_n hx hb dX4_cut_49 rfl (lv_at hl 0 rfl) ?_
          refine va_get (D := D) (ci := 5) (v := .int dn) (C := RX4) (T := TX4) (N := 23) hx hb hts iX4 hown hK hP 0 rfl rfl 22 (by decide) wf58 (fun _ h9 => h9) rfl dX4_cut_50 ?_
          refine lv_if_ne (tgt := 60) hx hb dX4_cut_53 (by decide) (fun c_53 => ?_) (fun c_53 => ?_)
          · refine lv_iconst (v := 1) hx hb dX4_cut_60 (by decide) ?_
            refine lv_goto (tgt := 65) hx hb dX4_cut_61 (by decide) ?_
            refine va_put (D := D) (ci := 5) (v := .int 1) (ty := .boolean) (C := RX4) (T := TX4) (N := 23) hx hb hts iX4 tyX4 tyX4_ok nmX4 hown hK hP hD hS 0 rfl rfl 22 (by decide) wf58 (fun _ h9 => h9) rfl (by decide +kernel) rfl rfl (Nat.le_of_ble_eq_true rfl) dX4_cut_65 (fun H locs hP hD hS => ?_)
            have hP : va_P D vwCl [(am, .inr (5, [.int 0, .ref acs, .ref afv, .ref atr, .ref aln, .ref aps, .ref ata, .int (nI c), .int (nI f), .int (nI t), .int ed, .ref aro, .ref akc, .ref akp, .ref akm, .ref akf, .ref aku, .ref ake, .ref aiw, .int (nI kb), .int x, .int (ct + 1), .int 1]))] H := hP
            have hD : va_D A [(am, .inr (5, [.int 0, .ref acs, .ref afv, .ref atr, .ref aln, .ref aps, .ref ata, .int (nI c), .int (nI f), .int (nI t), .int ed, .ref aro, .ref akc, .ref akp, .ref akm, .ref akf, .ref aku, .ref ake, .ref aiw, .int (nI kb), .int x, .int (ct + 1), .int 1]))] := hD
            refine lv_iconst (v := 1) hx hb dX4_cut_68 (by decide) ?_
            have hP9 := hP.sub (ws' := [(am, .inr (5, [.int 0, .ref acs, .ref afv, .ref atr, .ref aln, .ref aps, .ref ata, .int (nI c), .int (nI f), .int (nI t), .int ed, .ref aro, .ref akc, .ref akp, .ref akm, .ref akf, .ref aku, .ref ake, .ref aiw, .int (nI kb), .int x, .int (ct + 1), .int 1]))]) [0] rfl
            have hD9 := hD.sub (ws' := [(am, .inr (5, [.int 0, .ref acs, .ref afv, .ref atr, .ref aln, .ref aps, .ref ata, .int (nI c), .int (nI f), .int (nI t), .int ed, .ref aro, .ref akc, .ref akp, .ref akm, .ref akf, .ref aku, .ref ake, .ref aiw, .int (nI kb), .int x, .int (ct + 1), .int 1]))]) [0] (by decide) rfl
            refine W.widen (k := 0) (n := 0) (Nat.le_of_ble_eq_true rfl) (Nat.le_of_ble_eq_true rfl) ?_
            exact W.iret (v := 1) hx hb hr (fun t9 ht9 hW9 => ⟨⟨1, (1, x, (ct + 1)), rfl, ⟨by rw [if_neg (fun q => q.elim c_6 (fun q => q c_12))], by unfold cu_dn; refine (if_neg (fun q => q.elim c_6 (fun q => q c_12))).trans ?_; rcases hdn with h | h <;> by_cases q : x = 0 <;> simp_all, by unfold cu_cp; exact if_neg (fun q => q.elim c_6 (fun q => q c_12))⟩, by rw [ht9]; exact hP9, va_K.moved hW9.alike hK, hD9⟩, hS.F ht9⟩) hS.2.2 dX4_cut_69
          · refine lv_iload_n hx hb dX4_cut_56 rfl (lv_at hl 1 rfl) ?_
            refine lv_if_ne (tgt := 64) hx hb dX4_cut_57 (by decide) (fun c_57 => ?_) (fun c_57 => ?_)
            · refine lv_iconst (v := 0) hx hb dX4_cut_64 (by decide) ?_
              refine va_put (D := D) (ci := 5) (v := .int 0) (ty := .boolean) (C := RX4) (T := TX4) (N := 23) hx hb hts iX4 tyX4 tyX4_ok nmX4 hown hK hP hD hS 0 rfl rfl 22 (by decide) wf58 (fun _ h9 => h9) rfl (by decide +kernel) rfl rfl (Nat.le_of_ble_eq_true rfl) dX4_cut_65 (fun H locs hP hD hS => ?_)
              have hP : va_P D vwCl [(am, .inr (5, [.int 0, .ref acs, .ref afv, .ref atr, .ref aln, .ref aps, .ref ata, .int (nI c), .int (nI f), .int (nI t), .int ed, .ref aro, .ref akc, .ref akp, .ref akm, .ref akf, .ref aku, .ref ake, .ref aiw, .int (nI kb), .int x, .int (ct + 1), .int 0]))] H := hP
              have hD : va_D A [(am, .inr (5, [.int 0, .ref acs, .ref afv, .ref atr, .ref aln, .ref aps, .ref ata, .int (nI c), .int (nI f), .int (nI t), .int ed, .ref aro, .ref akc, .ref akp, .ref akm, .ref akf, .ref aku, .ref ake, .ref aiw, .int (nI kb), .int x, .int (ct + 1), .int 0]))] := hD
              refine lv_iconst (v := 1) hx hb dX4_cut_68 (by decide) ?_
              have hP9 := hP.sub (ws' := [(am, .inr (5, [.int 0, .ref acs, .ref afv, .ref atr, .ref aln, .ref aps, .ref ata, .int (nI c), .int (nI f), .int (nI t), .int ed, .ref aro, .ref akc, .ref akp, .ref akm, .ref akf, .ref aku, .ref ake, .ref aiw, .int (nI kb), .int x, .int (ct + 1), .int 0]))]) [0] rfl
              have hD9 := hD.sub (ws' := [(am, .inr (5, [.int 0, .ref acs, .ref afv, .ref atr, .ref aln, .ref aps, .ref ata, .int (nI c), .int (nI f), .int (nI t), .int ed, .ref aro, .ref akc, .ref akp, .ref akm, .ref akf, .ref aku, .ref ake, .ref aiw, .int (nI kb), .int x, .int (ct + 1), .int 0]))]) [0] (by decide) rfl
              refine W.widen (k := 0) (n := 0) (Nat.le_of_ble_eq_true rfl) (Nat.le_of_ble_eq_true rfl) ?_
              exact W.iret (v := 1) hx hb hr (fun t9 ht9 hW9 => ⟨⟨1, (0, x, (ct + 1)), rfl, ⟨by rw [if_neg (fun q => q.elim c_6 (fun q => q c_12))], by unfold cu_dn; refine (if_neg (fun q => q.elim c_6 (fun q => q c_12))).trans ?_; rcases hdn with h | h <;> by_cases q : x = 0 <;> simp_all, by unfold cu_cp; exact if_neg (fun q => q.elim c_6 (fun q => q c_12))⟩, by rw [ht9]; exact hP9, va_K.moved hW9.alike hK, hD9⟩, hS.F ht9⟩) hS.2.2 dX4_cut_69
            · refine lv_iconst (v := 1) hx hb dX4_cut_60 (by decide) ?_
              refine lv_goto (tgt := 65) hx hb dX4_cut_61 (by decide) ?_
              refine va_put (D := D) (ci := 5) (v := .int 1) (ty := .boolean) (C := RX4) (T := TX4) (N := 23) hx hb hts iX4 tyX4 tyX4_ok nmX4 hown hK hP hD hS 0 rfl rfl 22 (by decide) wf58 (fun _ h9 => h9) rfl (by decide +kernel) rfl rfl (Nat.le_of_ble_eq_true rfl) dX4_cut_65 (fun H locs hP hD hS => ?_)
              have hP : va_P D vwCl [(am, .inr (5, [.int 0, .ref acs, .ref afv, .ref atr, .ref aln, .ref aps, .ref ata, .int (nI c), .int (nI f), .int (nI t), .int ed, .ref aro, .ref akc, .ref akp, .ref akm, .ref akf, .ref aku, .ref ake, .ref aiw, .int (nI kb), .int x, .int (ct + 1), .int 1]))] H := hP
              have hD : va_D A [(am, .inr (5, [.int 0, .ref acs, .ref afv, .ref atr, .ref aln, .ref aps, .ref ata, .int (nI c), .int (nI f), .int (nI t), .int ed, .ref aro, .ref akc, .ref akp, .ref akm, .ref akf, .ref aku, .ref ake, .ref aiw, .int (nI kb), .int x, .int (ct + 1), .int 1]))] := hD
              refine lv_iconst (v := 1) hx hb dX4_cut_68 (by decide) ?_
              have hP9 := hP.sub (ws' := [(am, .inr (5, [.int 0, .ref acs, .ref afv, .ref atr, .ref aln, .ref aps, .ref ata, .int (nI c), .int (nI f), .int (nI t), .int ed, .ref aro, .ref akc, .ref akp, .ref akm, .ref akf, .ref aku, .ref ake, .ref aiw, .int (nI kb), .int x, .int (ct + 1), .int 1]))]) [0] rfl
              have hD9 := hD.sub (ws' := [(am, .inr (5, [.int 0, .ref acs, .ref afv, .ref atr, .ref aln, .ref aps, .ref ata, .int (nI c), .int (nI f), .int (nI t), .int ed, .ref aro, .ref akc, .ref akp, .ref akm, .ref akf, .ref aku, .ref ake, .ref aiw, .int (nI kb), .int x, .int (ct + 1), .int 1]))]) [0] (by decide) rfl
              refine W.widen (k := 0) (n := 0) (Nat.le_of_ble_eq_true rfl) (Nat.le_of_ble_eq_true rfl) ?_
              exact W.iret (v := 1) hx hb hr (fun t9 ht9 hW9 => ⟨⟨1, (1, x, (ct + 1)), rfl, ⟨by rw [if_neg (fun q => q.elim c_6 (fun q => q c_12))], by unfold cu_dn; refine (if_neg (fun q => q.elim c_6 (fun q => q c_12))).trans ?_; rcases hdn with h | h <;> by_cases q : x = 0 <;> simp_all, by unfold cu_cp; exact if_neg (fun q => q.elim c_6 (fun q => q c_12))⟩, by rw [ht9]; exact hP9, va_K.moved hW9.alike hK, hD9⟩, hS.F ht9⟩) hS.2.2 dX4_cut_69
    · refine lv_bipush (v := (-4)) hx hb dX4_cut_15 (by decide) ?_
      have hP9 := hP.sub (ws' := [(am, .inr (5, [.int 0, .ref acs, .ref afv, .ref atr, .ref aln, .ref aps, .ref ata, .int (nI c), .int (nI f), .int (nI t), .int ed, .ref aro, .ref akc, .ref akp, .ref akm, .ref akf, .ref aku, .ref ake, .ref aiw, .int (nI kb), .int cp, .int ct, .int dn]))]) [0] rfl
      have hD9 := hD.sub (ws' := [(am, .inr (5, [.int 0, .ref acs, .ref afv, .ref atr, .ref aln, .ref aps, .ref ata, .int (nI c), .int (nI f), .int (nI t), .int ed, .ref aro, .ref akc, .ref akp, .ref akm, .ref akf, .ref aku, .ref ake, .ref aiw, .int (nI kb), .int cp, .int ct, .int dn]))]) [0] (by decide) rfl
      refine W.widen (k := 0) (n := 0) (Nat.le_of_ble_eq_true rfl) (Nat.le_of_ble_eq_true rfl) ?_
      exact W.iret (v := (-4)) hx hb hr (fun t9 ht9 hW9 => ⟨⟨(-4), (dn, cp, ct), rfl, ⟨by rw [if_pos (by first | exact Or.inl c_6 | exact Or.inr c_12)], by unfold cu_dn; rw [if_pos (by first | exact Or.inl c_6 | exact Or.inr c_12)], by unfold cu_cp; rw [if_pos (by first | exact Or.inl c_6 | exact Or.inr c_12)]⟩, by rw [ht9]; exact hP9, va_K.moved hW9.alike hK, hD9⟩, hS.F ht9⟩) hS.2.2 dX4_cut_17
abbrev rm_X4_get : Room := { frames := 0, cells := 0, slots := 0, locals := 0 }
abbrev qc_X4_get (D : va_G) (cI cL cZ : ClassId) (am : Nat) (acs : Nat) (afv : Nat) (atr : Nat) (aln : Nat) (aps : Nat) (ata : Nat) (aro : Nat) (akc : Nat) (akp : Nat) (akm : Nat) (akf : Nat) (aku : Nat) (ake : Nat) (aiw : Nat) (cde : Int32) (c : Nat) (f : Nat) (t : Nat) (kb : Nat) (ed : Int32) (cp : Int32) (ct : Int32) (dn : Int32) (cs : Nat → Int64) (x : Int32) (A : Nat → Prop) : Array Value → State → Outcome → State → Prop := va_Ql (fun (r : Int64) (u : Int32) => ((if x < 0 ∨ nI c ≤ x then 0 else cs x.toNatClampNeg) = r) ∧ ((if x < 0 ∨ nI c ≤ x then 1 else 0) = u)) (ct_B D vwCl [(cI, .int), (cL, .long), (cZ, .boolean)] A (fun (u : Int32) => [(am, .inr (5, [.int u, .ref acs, .ref afv, .ref atr, .ref aln, .ref aps, .ref ata, .int (nI c), .int (nI f), .int (nI t), .int ed, .ref aro, .ref akc, .ref akp, .ref akm, .ref akf, .ref aku, .ref ake, .ref aiw, .int (nI kb), .int cp, .int ct, .int dn])), (acs, .inl (cL, 12, .inr (.inl cs)))])) A
set_option maxHeartbeats 4000000 in
set_option maxRecDepth 100000 in
theorem c_X4_get (l : Launch) (D : va_G) (cI cL cZ : ClassId) (am : Nat) (acs : Nat) (afv : Nat) (atr : Nat) (aln : Nat) (aps : Nat) (ata : Nat) (aro : Nat) (akc : Nat) (akp : Nat) (akm : Nat) (akf : Nat) (aku : Nat) (ake : Nat) (aiw : Nat) (cde : Int32) (c : Nat) (f : Nat) (t : Nat) (kb : Nat) (ed : Int32) (cp : Int32) (ct : Int32) (dn : Int32) (cs : Nat → Int64) (x : Int32) (sz : Nat) (hc : c ≤ 12) : Met l yX4_get wsX4_get rm_X4_get (va_Pc [.ref am, .int x] (ct_P D vwCl [(cI, .int), (cL, .long), (cZ, .boolean)] [(am, .inr (5, [.int cde, .ref acs, .ref afv, .ref atr, .ref aln, .ref aps, .ref ata, .int (nI c), .int (nI f), .int (nI t), .int ed, .ref aro, .ref akc, .ref akp, .ref akm, .ref akf, .ref aku, .ref ake, .ref aiw, .int (nI kb), .int cp, .int ct, .int dn])), (acs, .inl (cL, 12, .inr (.inl cs)))] sz)) (qc_X4_get D cI cL cZ am acs afv atr aln aps ata aro akc akp akm akf aku ake aiw cde c f t kb ed cp ct dn cs x (va_A [(am, .inr (5, [.int cde, .ref acs, .ref afv, .ref atr, .ref aln, .ref aps, .ref ata, .int (nI c), .int (nI f), .int (nI t), .int ed, .ref aro, .ref akc, .ref akp, .ref akm, .ref akf, .ref aku, .ref ake, .ref aiw, .int (nI kb), .int cp, .int ct, .int dn])), (acs, .inl (cL, 12, .inr (.inl cs)))] sz)) 0 0 (va_A [(am, .inr (5, [.int cde, .ref acs, .ref afv, .ref atr, .ref aln, .ref aps, .ref ata, .int (nI c), .int (nI f), .int (nI t), .int ed, .ref aro, .ref akc, .ref akp, .ref akm, .ref akf, .ref aku, .ref ake, .ref aiw, .int (nI kb), .int cp, .int ct, .int dn])), (acs, .inl (cL, 12, .inr (.inl cs)))] sz) := by
  refine Met.ofW (cc := cX4_get) (maxL := 2) (ret := (some .long)) (by decide) rfl ?_
  intro p e s m args below meth cd s₁ B hml hv
  obtain ⟨rfl, hsz, hP, hK, hD0⟩ := hv
  have hx := B.exec
  have hb := B.bytes
  have hr := B.returns
  have hts := atoms_spec (ws := wsX4_get) B.pre
  have iX4 : ∀ w ∈ wsX40, w ∈ wsX4_get := by decide +kernel
  have wf54 := hts (.fieldLink RX4 54 "CheckRestartModel" "code" "I") (by decide +kernel)
  have wf65 := hts (.fieldLink RX4 65 "CheckRestartModel" "many" "I") (by decide +kernel)
  have wf7 := hts (.fieldLink RX4 7 "CheckRestartModel" "cells" "[J") (by decide +kernel)
  have hown : s.vm.findClass RX4 = some m.cls := findClass_of_methodNamed B.named
  have hlocks := B.notSynchronized
  subst hsz
  have hD := hD0.self (sz := s.heap.size)
  generalize hAe : va_A [(am, .inr (5, [.int cde, .ref acs, .ref afv, .ref atr, .ref aln, .ref aps, .ref ata, .int (nI c), .int (nI f), .int (nI t), .int ed, .ref aro, .ref akc, .ref akp, .ref akm, .ref akf, .ref aku, .ref ake, .ref aiw, .int (nI kb), .int cp, .int ct, .int dn])), (acs, .inl (cL, 12, .inr (.inl cs)))] s.heap.size = A at hD ⊢
  have hA : ∀ q : Nat, s.heap.size ≤ q → A q := fun q h => by rw [← hAe]; exact Or.inr h
  have hS : va_S A s.heap s.heap [] := va_S.rf
  have hl := lv_entry ([.ref am, .int x]) (n := 2) (Nat.le_of_ble_eq_true rfl)
  rw [lg_entry_eq]
  generalize (lg_sl ([.ref am, .int x]) ++ List.replicate (2 - (lg_sl ([.ref am, .int x])).length) Slot.unset).toArray = ls at hl ⊢
  have hl : lv_has ls 2 [(0, .ref am), (1, .int x)] := hl
  refine lv_aload_n hx hb dX4_get_0 rfl (lv_at hl 0 rfl) ?_
  refine lv_iload_n hx hb dX4_get_1 rfl (lv_at hl 1 rfl) ?_
  refine lv_if_lt (tgt := 13) hx hb dX4_get_2 (by decide) (fun c_2 => ?_) (fun c_2 => ?_)
  · have h0 : x < 0 ∨ nI c ≤ x := by first | exact Or.inl c_2 | exact Or.inr (cr_nlt c_10) | exact Or.inr c_10
    refine lv_iconst (v := 1) hx hb dX4_get_13 (by decide) ?_
    refine lv_goto (tgt := 18) hx hb dX4_get_14 (by decide) ?_
    refine va_put (D := D) (ci := 5) (v := .int 1) (ty := .int) (C := RX4) (T := TX4) (N := 23) hx hb hts iX4 tyX4 tyX4_ok nmX4 hown hK hP hD hS 0 rfl rfl 0 (by decide) wf54 (fun _ h9 => h9) rfl (by decide +kernel) rfl rfl (Nat.le_of_ble_eq_true rfl) dX4_get_18 (fun H locs hP hD hS => ?_)
    have hP : va_P D vwCl [(am, .inr (5, [.int 1, .ref acs, .ref afv, .ref atr, .ref aln, .ref aps, .ref ata, .int (nI c), .int (nI f), .int (nI t), .int ed, .ref aro, .ref akc, .ref akp, .ref akm, .ref akf, .ref aku, .ref ake, .ref aiw, .int (nI kb), .int cp, .int ct, .int dn])), (acs, .inl (cL, 12, .inr (.inl cs)))] H := hP
    have hD : va_D A [(am, .inr (5, [.int 1, .ref acs, .ref afv, .ref atr, .ref aln, .ref aps, .ref ata, .int (nI c), .int (nI f), .int (nI t), .int ed, .ref aro, .ref akc, .ref akp, .ref akm, .ref akf, .ref aku, .ref ake, .ref aiw, .int (nI kb), .int cp, .int ct, .int dn])), (acs, .inl (cL, 12, .inr (.inl cs)))] := hD
    refine lv_aload_n hx hb dX4_get_21 rfl (lv_at hl 0 rfl) ?_
    refine va_get (D := D) (ci := 5) (v := .int 1) (C := RX4) (T := TX4) (N := 23) hx hb hts iX4 hown hK hP 0 rfl rfl 0 (by decide) wf54 (fun _ h9 => h9) rfl dX4_get_22 ?_
    refine lv_if_le (tgt := 32) hx hb dX4_get_25 (by decide) (fun c_25 => ?_) (fun c_25 => ?_)
    · exact absurd c_25 (by decide)
    · refine lv_lconst (v := 0) hx hb dX4_get_28 (by decide) ?_
      refine lv_goto (tgt := 38) hx hb dX4_get_29 (by decide) ?_
      have hP9 := hP.sub (ws' := [(am, .inr (5, [.int 1, .ref acs, .ref afv, .ref atr, .ref aln, .ref aps, .ref ata, .int (nI c), .int (nI f), .int (nI t), .int ed, .ref aro, .ref akc, .ref akp, .ref akm, .ref akf, .ref aku, .ref ake, .ref aiw, .int (nI kb), .int cp, .int ct, .int dn])), (acs, .inl (cL, 12, .inr (.inl cs)))]) [0, 1] rfl
      have hD9 := hD.sub (ws' := [(am, .inr (5, [.int 1, .ref acs, .ref afv, .ref atr, .ref aln, .ref aps, .ref ata, .int (nI c), .int (nI f), .int (nI t), .int ed, .ref aro, .ref akc, .ref akp, .ref akm, .ref akf, .ref aku, .ref ake, .ref aiw, .int (nI kb), .int cp, .int ct, .int dn])), (acs, .inl (cL, 12, .inr (.inl cs)))]) [0, 1] (by decide) rfl
      refine W.widen (k := 0) (n := 0) (Nat.le_of_ble_eq_true rfl) (Nat.le_of_ble_eq_true rfl) ?_
      exact W.lret (v := 0) hx hb hr (fun t9 ht9 hW9 => ⟨⟨0, (1), rfl, ⟨by rw [if_pos h0], by rw [if_pos h0]⟩, by rw [ht9]; exact hP9, va_K.moved hW9.alike hK, hD9⟩, hS.F ht9⟩) hS.2.2 dX4_get_38
  · refine lv_iload_n hx hb dX4_get_5 rfl (lv_at hl 1 rfl) ?_
    refine lv_aload_n hx hb dX4_get_6 rfl (lv_at hl 0 rfl) ?_
    refine va_get (D := D) (ci := 5) (v := .int (nI c)) (C := RX4) (T := TX4) (N := 23) hx hb hts iX4 hown hK hP 0 rfl rfl 7 (by decide) wf65 (fun _ h9 => h9) rfl dX4_get_7 ?_
    refine lv_icmp_lt (tgt := 17) hx hb dX4_get_10 (by decide) (fun c_10 => ?_) (fun c_10 => ?_)
    · have h0 : ¬ (x < 0 ∨ nI c ≤ x) := by first | exact fun q => q.elim c_2 (cr_lt_nle c_10) | exact fun q => q.elim c_2 c_10
      obtain ⟨k, hk, hxk⟩ := cr_ix (by omega) h0
      have hcl : x.toNatClampNeg = k := by rw [hxk, nI_clamp (by omega)]
      refine lv_iconst (v := 0) hx hb dX4_get_17 (by decide) ?_
      refine va_put (D := D) (ci := 5) (v := .int 0) (ty := .int) (C := RX4) (T := TX4) (N := 23) hx hb hts iX4 tyX4 tyX4_ok nmX4 hown hK hP hD hS 0 rfl rfl 0 (by decide) wf54 (fun _ h9 => h9) rfl (by decide +kernel) rfl rfl (Nat.le_of_ble_eq_true rfl) dX4_get_18 (fun H locs hP hD hS => ?_)
      have hP : va_P D vwCl [(am, .inr (5, [.int 0, .ref acs, .ref afv, .ref atr, .ref aln, .ref aps, .ref ata, .int (nI c), .int (nI f), .int (nI t), .int ed, .ref aro, .ref akc, .ref akp, .ref akm, .ref akf, .ref aku, .ref ake, .ref aiw, .int (nI kb), .int cp, .int ct, .int dn])), (acs, .inl (cL, 12, .inr (.inl cs)))] H := hP
      have hD : va_D A [(am, .inr (5, [.int 0, .ref acs, .ref afv, .ref atr, .ref aln, .ref aps, .ref ata, .int (nI c), .int (nI f), .int (nI t), .int ed, .ref aro, .ref akc, .ref akp, .ref akm, .ref akf, .ref aku, .ref ake, .ref aiw, .int (nI kb), .int cp, .int ct, .int dn])), (acs, .inl (cL, 12, .inr (.inl cs)))] := hD
      refine lv_aload_n hx hb dX4_get_21 rfl (lv_at hl 0 rfl) ?_
      refine va_get (D := D) (ci := 5) (v := .int 0) (C := RX4) (T := TX4) (N := 23) hx hb hts iX4 hown hK hP 0 rfl rfl 0 (by decide) wf54 (fun _ h9 => h9) rfl dX4_get_22 ?_
      refine lv_if_le (tgt := 32) hx hb dX4_get_25 (by decide) (fun c_25 => ?_) (fun c_25 => ?_)
      · refine lv_aload_n hx hb dX4_get_32 rfl (lv_at hl 0 rfl) ?_
        refine va_get (D := D) (ci := 5) (v := .ref acs) (C := RX4) (T := TX4) (N := 23) hx hb hts iX4 hown hK hP 0 rfl rfl 1 (by decide) wf7 (fun _ h9 => h9) rfl dX4_get_33 ?_
        refine lv_iload_n hx hb dX4_get_36 rfl (lv_at hl 1 rfl) ?_
        refine ct_topi (y := (nI k)) (hxk) ?_
        refine ct_lald (k := k) hx hb hK hP 1 1 rfl rfl (by omega) (by decide) dX4_get_37 ?_
        have hP9 := hP.sub (ws' := [(am, .inr (5, [.int 0, .ref acs, .ref afv, .ref atr, .ref aln, .ref aps, .ref ata, .int (nI c), .int (nI f), .int (nI t), .int ed, .ref aro, .ref akc, .ref akp, .ref akm, .ref akf, .ref aku, .ref ake, .ref aiw, .int (nI kb), .int cp, .int ct, .int dn])), (acs, .inl (cL, 12, .inr (.inl cs)))]) [0, 1] rfl
        have hD9 := hD.sub (ws' := [(am, .inr (5, [.int 0, .ref acs, .ref afv, .ref atr, .ref aln, .ref aps, .ref ata, .int (nI c), .int (nI f), .int (nI t), .int ed, .ref aro, .ref akc, .ref akp, .ref akm, .ref akf, .ref aku, .ref ake, .ref aiw, .int (nI kb), .int cp, .int ct, .int dn])), (acs, .inl (cL, 12, .inr (.inl cs)))]) [0, 1] (by decide) rfl
        refine W.widen (k := 0) (n := 0) (Nat.le_of_ble_eq_true rfl) (Nat.le_of_ble_eq_true rfl) ?_
        exact W.lret (v := (cs k)) hx hb hr (fun t9 ht9 hW9 => ⟨⟨(cs k), (0), rfl, ⟨by rw [if_neg h0, hcl], by rw [if_neg h0]⟩, by rw [ht9]; exact hP9, va_K.moved hW9.alike hK, hD9⟩, hS.F ht9⟩) hS.2.2 dX4_get_38
      · exact absurd c_25 (fun h => h (by decide))
    · have h0 : x < 0 ∨ nI c ≤ x := by first | exact Or.inl c_2 | exact Or.inr (cr_nlt c_10) | exact Or.inr c_10
      refine lv_iconst (v := 1) hx hb dX4_get_13 (by decide) ?_
      refine lv_goto (tgt := 18) hx hb dX4_get_14 (by decide) ?_
      refine va_put (D := D) (ci := 5) (v := .int 1) (ty := .int) (C := RX4) (T := TX4) (N := 23) hx hb hts iX4 tyX4 tyX4_ok nmX4 hown hK hP hD hS 0 rfl rfl 0 (by decide) wf54 (fun _ h9 => h9) rfl (by decide +kernel) rfl rfl (Nat.le_of_ble_eq_true rfl) dX4_get_18 (fun H locs hP hD hS => ?_)
      have hP : va_P D vwCl [(am, .inr (5, [.int 1, .ref acs, .ref afv, .ref atr, .ref aln, .ref aps, .ref ata, .int (nI c), .int (nI f), .int (nI t), .int ed, .ref aro, .ref akc, .ref akp, .ref akm, .ref akf, .ref aku, .ref ake, .ref aiw, .int (nI kb), .int cp, .int ct, .int dn])), (acs, .inl (cL, 12, .inr (.inl cs)))] H := hP
      have hD : va_D A [(am, .inr (5, [.int 1, .ref acs, .ref afv, .ref atr, .ref aln, .ref aps, .ref ata, .int (nI c), .int (nI f), .int (nI t), .int ed, .ref aro, .ref akc, .ref akp, .ref akm, .ref akf, .ref aku, .ref ake, .ref aiw, .int (nI kb), .int cp, .int ct, .int dn])), (acs, .inl (cL, 12, .inr (.inl cs)))] := hD
      refine lv_aload_n hx hb dX4_get_21 rfl (lv_at hl 0 rfl) ?_
      refine va_get (D := D) (ci := 5) (v := .int 1) (C := RX4) (T := TX4) (N := 23) hx hb hts iX4 hown hK hP 0 rfl rfl 0 (by decide) wf54 (fun _ h9 => h9) rfl dX4_get_22 ?_
      refine lv_if_le (tgt := 32) hx hb dX4_get_25 (by decide) (fun c_25 => ?_) (fun c_25 => ?_)
      · exact absurd c_25 (by decide)
      · refine lv_lconst (v := 0) hx hb dX4_get_28 (by decide) ?_
        refine lv_goto (tgt := 38) hx hb dX4_get_29 (by decide) ?_
        have hP9 := hP.sub (ws' := [(am, .inr (5, [.int 1, .ref acs, .ref afv, .ref atr, .ref aln, .ref aps, .ref ata, .int (nI c), .int (nI f), .int (nI t), .int ed, .ref aro, .ref akc, .ref akp, .ref akm, .ref akf, .ref aku, .ref ake, .ref aiw, .int (nI kb), .int cp, .int ct, .int dn])), (acs, .inl (cL, 12, .inr (.inl cs)))]) [0, 1] rfl
        have hD9 := hD.sub (ws' := [(am, .inr (5, [.int 1, .ref acs, .ref afv, .ref atr, .ref aln, .ref aps, .ref ata, .int (nI c), .int (nI f), .int (nI t), .int ed, .ref aro, .ref akc, .ref akp, .ref akm, .ref akf, .ref aku, .ref ake, .ref aiw, .int (nI kb), .int cp, .int ct, .int dn])), (acs, .inl (cL, 12, .inr (.inl cs)))]) [0, 1] (by decide) rfl
        refine W.widen (k := 0) (n := 0) (Nat.le_of_ble_eq_true rfl) (Nat.le_of_ble_eq_true rfl) ?_
        exact W.lret (v := 0) hx hb hr (fun t9 ht9 hW9 => ⟨⟨0, (1), rfl, ⟨by rw [if_pos h0], by rw [if_pos h0]⟩, by rw [ht9]; exact hP9, va_K.moved hW9.alike hK, hD9⟩, hS.F ht9⟩) hS.2.2 dX4_get_38
abbrev rm_X4_position : Room := { frames := 0, cells := 0, slots := 0, locals := 0 }
abbrev qc_X4_position (D : va_G) (cI cL cZ : ClassId) (am : Nat) (acs : Nat) (afv : Nat) (atr : Nat) (aln : Nat) (aps : Nat) (ata : Nat) (aro : Nat) (akc : Nat) (akp : Nat) (akm : Nat) (akf : Nat) (aku : Nat) (ake : Nat) (aiw : Nat) (cde : Int32) (c : Nat) (f : Nat) (t : Nat) (kb : Nat) (ed : Int32) (cp : Int32) (ct : Int32) (dn : Int32) (ps : Nat → Int32) (x : Int32) (A : Nat → Prop) : Array Value → State → Outcome → State → Prop := va_Qi (fun (r : Int32) (u : Unit) => ((if x < 0 ∨ nI f ≤ x then -1 else ps x.toNatClampNeg) = r)) (ct_B D vwCl [(cI, .int), (cL, .long), (cZ, .boolean)] A (fun (u : Unit) => [(am, .inr (5, [.int 0, .ref acs, .ref afv, .ref atr, .ref aln, .ref aps, .ref ata, .int (nI c), .int (nI f), .int (nI t), .int ed, .ref aro, .ref akc, .ref akp, .ref akm, .ref akf, .ref aku, .ref ake, .ref aiw, .int (nI kb), .int cp, .int ct, .int dn])), (aps, .inl (cI, 6, .inl ps))])) A
set_option maxHeartbeats 4000000 in
set_option maxRecDepth 100000 in
theorem c_X4_position (l : Launch) (D : va_G) (cI cL cZ : ClassId) (am : Nat) (acs : Nat) (afv : Nat) (atr : Nat) (aln : Nat) (aps : Nat) (ata : Nat) (aro : Nat) (akc : Nat) (akp : Nat) (akm : Nat) (akf : Nat) (aku : Nat) (ake : Nat) (aiw : Nat) (cde : Int32) (c : Nat) (f : Nat) (t : Nat) (kb : Nat) (ed : Int32) (cp : Int32) (ct : Int32) (dn : Int32) (ps : Nat → Int32) (x : Int32) (sz : Nat) (hf : f ≤ 6) : Met l yX4_position wsX4_position rm_X4_position (va_Pc [.ref am, .int x] (ct_P D vwCl [(cI, .int), (cL, .long), (cZ, .boolean)] [(am, .inr (5, [.int cde, .ref acs, .ref afv, .ref atr, .ref aln, .ref aps, .ref ata, .int (nI c), .int (nI f), .int (nI t), .int ed, .ref aro, .ref akc, .ref akp, .ref akm, .ref akf, .ref aku, .ref ake, .ref aiw, .int (nI kb), .int cp, .int ct, .int dn])), (aps, .inl (cI, 6, .inl ps))] sz)) (qc_X4_position D cI cL cZ am acs afv atr aln aps ata aro akc akp akm akf aku ake aiw cde c f t kb ed cp ct dn ps x (va_A [(am, .inr (5, [.int cde, .ref acs, .ref afv, .ref atr, .ref aln, .ref aps, .ref ata, .int (nI c), .int (nI f), .int (nI t), .int ed, .ref aro, .ref akc, .ref akp, .ref akm, .ref akf, .ref aku, .ref ake, .ref aiw, .int (nI kb), .int cp, .int ct, .int dn])), (aps, .inl (cI, 6, .inl ps))] sz)) 0 0 (va_A [(am, .inr (5, [.int cde, .ref acs, .ref afv, .ref atr, .ref aln, .ref aps, .ref ata, .int (nI c), .int (nI f), .int (nI t), .int ed, .ref aro, .ref akc, .ref akp, .ref akm, .ref akf, .ref aku, .ref ake, .ref aiw, .int (nI kb), .int cp, .int ct, .int dn])), (aps, .inl (cI, 6, .inl ps))] sz) := by
  refine Met.ofW (cc := cX4_position) (maxL := 2) (ret := (some .int)) (by decide) rfl ?_
  intro p e s m args below meth cd s₁ B hml hv
  obtain ⟨rfl, hsz, hP, hK, hD0⟩ := hv
  have hx := B.exec
  have hb := B.bytes
  have hr := B.returns
  have hts := atoms_spec (ws := wsX4_position) B.pre
  have iX4 : ∀ w ∈ wsX40, w ∈ wsX4_position := by decide +kernel
  have wf54 := hts (.fieldLink RX4 54 "CheckRestartModel" "code" "I") (by decide +kernel)
  have wf68 := hts (.fieldLink RX4 68 "CheckRestartModel" "files" "I") (by decide +kernel)
  have wf23 := hts (.fieldLink RX4 23 "CheckRestartModel" "positions" "[I") (by decide +kernel)
  have hown : s.vm.findClass RX4 = some m.cls := findClass_of_methodNamed B.named
  have hlocks := B.notSynchronized
  subst hsz
  have hD := hD0.self (sz := s.heap.size)
  generalize hAe : va_A [(am, .inr (5, [.int cde, .ref acs, .ref afv, .ref atr, .ref aln, .ref aps, .ref ata, .int (nI c), .int (nI f), .int (nI t), .int ed, .ref aro, .ref akc, .ref akp, .ref akm, .ref akf, .ref aku, .ref ake, .ref aiw, .int (nI kb), .int cp, .int ct, .int dn])), (aps, .inl (cI, 6, .inl ps))] s.heap.size = A at hD ⊢
  have hA : ∀ q : Nat, s.heap.size ≤ q → A q := fun q h => by rw [← hAe]; exact Or.inr h
  have hS : va_S A s.heap s.heap [] := va_S.rf
  have hl := lv_entry ([.ref am, .int x]) (n := 2) (Nat.le_of_ble_eq_true rfl)
  rw [lg_entry_eq]
  generalize (lg_sl ([.ref am, .int x]) ++ List.replicate (2 - (lg_sl ([.ref am, .int x])).length) Slot.unset).toArray = ls at hl ⊢
  have hl : lv_has ls 2 [(0, .ref am), (1, .int x)] := hl
  refine lv_aload_n hx hb dX4_position_0 rfl (lv_at hl 0 rfl) ?_
  refine lv_iconst (v := 0) hx hb dX4_position_1 (by decide) ?_
  refine va_put (D := D) (ci := 5) (v := .int 0) (ty := .int) (C := RX4) (T := TX4) (N := 23) hx hb hts iX4 tyX4 tyX4_ok nmX4 hown hK hP hD hS 0 rfl rfl 0 (by decide) wf54 (fun _ h9 => h9) rfl (by decide +kernel) rfl rfl (Nat.le_of_ble_eq_true rfl) dX4_position_2 (fun H locs hP hD hS => ?_)
  have hP : va_P D vwCl [(am, .inr (5, [.int 0, .ref acs, .ref afv, .ref atr, .ref aln, .ref aps, .ref ata, .int (nI c), .int (nI f), .int (nI t), .int ed, .ref aro, .ref akc, .ref akp, .ref akm, .ref akf, .ref aku, .ref ake, .ref aiw, .int (nI kb), .int cp, .int ct, .int dn])), (aps, .inl (cI, 6, .inl ps))] H := hP
  have hD : va_D A [(am, .inr (5, [.int 0, .ref acs, .ref afv, .ref atr, .ref aln, .ref aps, .ref ata, .int (nI c), .int (nI f), .int (nI t), .int ed, .ref aro, .ref akc, .ref akp, .ref akm, .ref akf, .ref aku, .ref ake, .ref aiw, .int (nI kb), .int cp, .int ct, .int dn])), (aps, .inl (cI, 6, .inl ps))] := hD
  refine lv_iload_n hx hb dX4_position_5 rfl (lv_at hl 1 rfl) ?_
  refine lv_if_lt (tgt := 17) hx hb dX4_position_6 (by decide) (fun c_6 => ?_) (fun c_6 => ?_)
  · have h0 : x < 0 ∨ nI f ≤ x := by first | exact Or.inl c_6 | exact Or.inr (cr_nlt c_14) | exact Or.inr c_14
    refine lv_iconst (v := (-1)) hx hb dX4_position_17 (by decide) ?_
    refine lv_goto (tgt := 27) hx hb dX4_position_18 (by decide) ?_
    have hP9 := hP.sub (ws' := [(am, .inr (5, [.int 0, .ref acs, .ref afv, .ref atr, .ref aln, .ref aps, .ref ata, .int (nI c), .int (nI f), .int (nI t), .int ed, .ref aro, .ref akc, .ref akp, .ref akm, .ref akf, .ref aku, .ref ake, .ref aiw, .int (nI kb), .int cp, .int ct, .int dn])), (aps, .inl (cI, 6, .inl ps))]) [0, 1] rfl
    have hD9 := hD.sub (ws' := [(am, .inr (5, [.int 0, .ref acs, .ref afv, .ref atr, .ref aln, .ref aps, .ref ata, .int (nI c), .int (nI f), .int (nI t), .int ed, .ref aro, .ref akc, .ref akp, .ref akm, .ref akf, .ref aku, .ref ake, .ref aiw, .int (nI kb), .int cp, .int ct, .int dn])), (aps, .inl (cI, 6, .inl ps))]) [0, 1] (by decide) rfl
    refine W.widen (k := 0) (n := 0) (Nat.le_of_ble_eq_true rfl) (Nat.le_of_ble_eq_true rfl) ?_
    exact W.iret (v := (-1)) hx hb hr (fun t9 ht9 hW9 => ⟨⟨(-1), (), rfl, by rw [if_pos h0], by rw [ht9]; exact hP9, va_K.moved hW9.alike hK, hD9⟩, hS.F ht9⟩) hS.2.2 dX4_position_27
  · refine lv_iload_n hx hb dX4_position_9 rfl (lv_at hl 1 rfl) ?_
    refine lv_aload_n hx hb dX4_position_10 rfl (lv_at hl 0 rfl) ?_
    refine va_get (D := D) (ci := 5) (v := .int (nI f)) (C := RX4) (T := TX4) (N := 23) hx hb hts iX4 hown hK hP 0 rfl rfl 8 (by decide) wf68 (fun _ h9 => h9) rfl dX4_position_11 ?_
    refine lv_icmp_lt (tgt := 21) hx hb dX4_position_14 (by decide) (fun c_14 => ?_) (fun c_14 => ?_)
    · have h0 : ¬ (x < 0 ∨ nI f ≤ x) := by first | exact fun q => q.elim c_6 (cr_lt_nle c_14) | exact fun q => q.elim c_6 c_14
      obtain ⟨k, hk, hxk⟩ := cr_ix (by omega) h0
      have hcl : x.toNatClampNeg = k := by rw [hxk, nI_clamp (by omega)]
      refine lv_aload_n hx hb dX4_position_21 rfl (lv_at hl 0 rfl) ?_
      refine va_get (D := D) (ci := 5) (v := .ref aps) (C := RX4) (T := TX4) (N := 23) hx hb hts iX4 hown hK hP 0 rfl rfl 5 (by decide) wf23 (fun _ h9 => h9) rfl dX4_position_22 ?_
      refine lv_iload_n hx hb dX4_position_25 rfl (lv_at hl 1 rfl) ?_
      refine ct_topi (y := (nI k)) (hxk) ?_
      refine ct_iald (k := k) hx hb hK hP 1 0 rfl rfl (by omega) (by decide) dX4_position_26 ?_
      have hP9 := hP.sub (ws' := [(am, .inr (5, [.int 0, .ref acs, .ref afv, .ref atr, .ref aln, .ref aps, .ref ata, .int (nI c), .int (nI f), .int (nI t), .int ed, .ref aro, .ref akc, .ref akp, .ref akm, .ref akf, .ref aku, .ref ake, .ref aiw, .int (nI kb), .int cp, .int ct, .int dn])), (aps, .inl (cI, 6, .inl ps))]) [0, 1] rfl
      have hD9 := hD.sub (ws' := [(am, .inr (5, [.int 0, .ref acs, .ref afv, .ref atr, .ref aln, .ref aps, .ref ata, .int (nI c), .int (nI f), .int (nI t), .int ed, .ref aro, .ref akc, .ref akp, .ref akm, .ref akf, .ref aku, .ref ake, .ref aiw, .int (nI kb), .int cp, .int ct, .int dn])), (aps, .inl (cI, 6, .inl ps))]) [0, 1] (by decide) rfl
      refine W.widen (k := 0) (n := 0) (Nat.le_of_ble_eq_true rfl) (Nat.le_of_ble_eq_true rfl) ?_
      exact W.iret (v := (ps k)) hx hb hr (fun t9 ht9 hW9 => ⟨⟨(ps k), (), rfl, by rw [if_neg h0, hcl], by rw [ht9]; exact hP9, va_K.moved hW9.alike hK, hD9⟩, hS.F ht9⟩) hS.2.2 dX4_position_27
    · have h0 : x < 0 ∨ nI f ≤ x := by first | exact Or.inl c_6 | exact Or.inr (cr_nlt c_14) | exact Or.inr c_14
      refine lv_iconst (v := (-1)) hx hb dX4_position_17 (by decide) ?_
      refine lv_goto (tgt := 27) hx hb dX4_position_18 (by decide) ?_
      have hP9 := hP.sub (ws' := [(am, .inr (5, [.int 0, .ref acs, .ref afv, .ref atr, .ref aln, .ref aps, .ref ata, .int (nI c), .int (nI f), .int (nI t), .int ed, .ref aro, .ref akc, .ref akp, .ref akm, .ref akf, .ref aku, .ref ake, .ref aiw, .int (nI kb), .int cp, .int ct, .int dn])), (aps, .inl (cI, 6, .inl ps))]) [0, 1] rfl
      have hD9 := hD.sub (ws' := [(am, .inr (5, [.int 0, .ref acs, .ref afv, .ref atr, .ref aln, .ref aps, .ref ata, .int (nI c), .int (nI f), .int (nI t), .int ed, .ref aro, .ref akc, .ref akp, .ref akm, .ref akf, .ref aku, .ref ake, .ref aiw, .int (nI kb), .int cp, .int ct, .int dn])), (aps, .inl (cI, 6, .inl ps))]) [0, 1] (by decide) rfl
      refine W.widen (k := 0) (n := 0) (Nat.le_of_ble_eq_true rfl) (Nat.le_of_ble_eq_true rfl) ?_
      exact W.iret (v := (-1)) hx hb hr (fun t9 ht9 hW9 => ⟨⟨(-1), (), rfl, by rw [if_pos h0], by rw [ht9]; exact hP9, va_K.moved hW9.alike hK, hD9⟩, hS.F ht9⟩) hS.2.2 dX4_position_27
abbrev rm_X4_grow : Room := { frames := 0, cells := 0, slots := 0, locals := 0 }
abbrev qc_X4_grow (D : va_G) (cI cL cZ : ClassId) (am : Nat) (acs : Nat) (afv : Nat) (atr : Nat) (aln : Nat) (aps : Nat) (ata : Nat) (aro : Nat) (akc : Nat) (akp : Nat) (akm : Nat) (akf : Nat) (aku : Nat) (ake : Nat) (aiw : Nat) (cde : Int32) (c : Nat) (f : Nat) (t : Nat) (kb : Nat) (ed : Int32) (cp : Int32) (ct : Int32) (dn : Int32) (ln : Nat → Int32) (x : Int32) (n : Int32) (A : Nat → Prop) : Array Value → State → Outcome → State → Prop := va_Qi (fun (r : Int32) (u : (Nat → Int32)) => (gr_r f ln x n) = r ∧ (gr_l f ln x n) = u) (ct_B D vwCl [(cI, .int), (cL, .long), (cZ, .boolean)] A (fun (u : (Nat → Int32)) => [(am, .inr (5, [.int 0, .ref acs, .ref afv, .ref atr, .ref aln, .ref aps, .ref ata, .int (nI c), .int (nI f), .int (nI t), .int ed, .ref aro, .ref akc, .ref akp, .ref akm, .ref akf, .ref aku, .ref ake, .ref aiw, .int (nI kb), .int cp, .int ct, .int dn])), (aln, .inl (cI, 6, .inl u))])) A
set_option maxHeartbeats 4000000 in
set_option maxRecDepth 100000 in
theorem c_X4_grow (l : Launch) (D : va_G) (cI cL cZ : ClassId) (am : Nat) (acs : Nat) (afv : Nat) (atr : Nat) (aln : Nat) (aps : Nat) (ata : Nat) (aro : Nat) (akc : Nat) (akp : Nat) (akm : Nat) (akf : Nat) (aku : Nat) (ake : Nat) (aiw : Nat) (cde : Int32) (c : Nat) (f : Nat) (t : Nat) (kb : Nat) (ed : Int32) (cp : Int32) (ct : Int32) (dn : Int32) (ln : Nat → Int32) (x : Int32) (n : Int32) (sz : Nat) (hf : f ≤ 6) : Met l yX4_grow wsX4_grow rm_X4_grow (va_Pc [.ref am, .int x, .int n] (ct_P D vwCl [(cI, .int), (cL, .long), (cZ, .boolean)] [(am, .inr (5, [.int cde, .ref acs, .ref afv, .ref atr, .ref aln, .ref aps, .ref ata, .int (nI c), .int (nI f), .int (nI t), .int ed, .ref aro, .ref akc, .ref akp, .ref akm, .ref akf, .ref aku, .ref ake, .ref aiw, .int (nI kb), .int cp, .int ct, .int dn])), (aln, .inl (cI, 6, .inl ln))] sz)) (qc_X4_grow D cI cL cZ am acs afv atr aln aps ata aro akc akp akm akf aku ake aiw cde c f t kb ed cp ct dn ln x n (va_A [(am, .inr (5, [.int cde, .ref acs, .ref afv, .ref atr, .ref aln, .ref aps, .ref ata, .int (nI c), .int (nI f), .int (nI t), .int ed, .ref aro, .ref akc, .ref akp, .ref akm, .ref akf, .ref aku, .ref ake, .ref aiw, .int (nI kb), .int cp, .int ct, .int dn])), (aln, .inl (cI, 6, .inl ln))] sz)) 0 0 (va_A [(am, .inr (5, [.int cde, .ref acs, .ref afv, .ref atr, .ref aln, .ref aps, .ref ata, .int (nI c), .int (nI f), .int (nI t), .int ed, .ref aro, .ref akc, .ref akp, .ref akm, .ref akf, .ref aku, .ref ake, .ref aiw, .int (nI kb), .int cp, .int ct, .int dn])), (aln, .inl (cI, 6, .inl ln))] sz) := by
  refine Met.ofW (cc := cX4_grow) (maxL := 5) (ret := (some .int)) (by decide) rfl ?_
  intro p e s m args below meth cd s₁ B hml hv
  obtain ⟨rfl, hsz, hP, hK, hD0⟩ := hv
  have hx := B.exec
  have hb := B.bytes
  have hr := B.returns
  have hts := atoms_spec (ws := wsX4_grow) B.pre
  have iX4 : ∀ w ∈ wsX40, w ∈ wsX4_grow := by decide +kernel
  have wf54 := hts (.fieldLink RX4 54 "CheckRestartModel" "code" "I") (by decide +kernel)
  have wf68 := hts (.fieldLink RX4 68 "CheckRestartModel" "files" "I") (by decide +kernel)
  have wf19 := hts (.fieldLink RX4 19 "CheckRestartModel" "lengths" "[I") (by decide +kernel)
  have wk89 := hts (.constantLong RX4 89 2000) (by decide +kernel)
  have hown : s.vm.findClass RX4 = some m.cls := findClass_of_methodNamed B.named
  have hlocks := B.notSynchronized
  subst hsz
  have hD := hD0.self (sz := s.heap.size)
  generalize hAe : va_A [(am, .inr (5, [.int cde, .ref acs, .ref afv, .ref atr, .ref aln, .ref aps, .ref ata, .int (nI c), .int (nI f), .int (nI t), .int ed, .ref aro, .ref akc, .ref akp, .ref akm, .ref akf, .ref aku, .ref ake, .ref aiw, .int (nI kb), .int cp, .int ct, .int dn])), (aln, .inl (cI, 6, .inl ln))] s.heap.size = A at hD ⊢
  have hA : ∀ q : Nat, s.heap.size ≤ q → A q := fun q h => by rw [← hAe]; exact Or.inr h
  have hS : va_S A s.heap s.heap [] := va_S.rf
  have hl := lv_entry ([.ref am, .int x, .int n]) (n := 5) (Nat.le_of_ble_eq_true rfl)
  rw [lg_entry_eq]
  generalize (lg_sl ([.ref am, .int x, .int n]) ++ List.replicate (5 - (lg_sl ([.ref am, .int x, .int n])).length) Slot.unset).toArray = ls at hl ⊢
  have hl : lv_has ls 5 [(0, .ref am), (1, .int x), (2, .int n)] := hl
  refine lv_aload_n hx hb dX4_grow_0 rfl (lv_at hl 0 rfl) ?_
  refine lv_iconst (v := 0) hx hb dX4_grow_1 (by decide) ?_
  refine va_put (D := D) (ci := 5) (v := .int 0) (ty := .int) (C := RX4) (T := TX4) (N := 23) hx hb hts iX4 tyX4 tyX4_ok nmX4 hown hK hP hD hS 0 rfl rfl 0 (by decide) wf54 (fun _ h9 => h9) rfl (by decide +kernel) rfl rfl (Nat.le_of_ble_eq_true rfl) dX4_grow_2 (fun H locs hP hD hS => ?_)
  have hP : va_P D vwCl [(am, .inr (5, [.int 0, .ref acs, .ref afv, .ref atr, .ref aln, .ref aps, .ref ata, .int (nI c), .int (nI f), .int (nI t), .int ed, .ref aro, .ref akc, .ref akp, .ref akm, .ref akf, .ref aku, .ref ake, .ref aiw, .int (nI kb), .int cp, .int ct, .int dn])), (aln, .inl (cI, 6, .inl ln))] H := hP
  have hD : va_D A [(am, .inr (5, [.int 0, .ref acs, .ref afv, .ref atr, .ref aln, .ref aps, .ref ata, .int (nI c), .int (nI f), .int (nI t), .int ed, .ref aro, .ref akc, .ref akp, .ref akm, .ref akf, .ref aku, .ref ake, .ref aiw, .int (nI kb), .int cp, .int ct, .int dn])), (aln, .inl (cI, 6, .inl ln))] := hD
  refine lv_iload_n hx hb dX4_grow_5 rfl (lv_at hl 1 rfl) ?_
  refine lv_if_lt (tgt := 17) hx hb dX4_grow_6 (by decide) (fun c_6 => ?_) (fun c_6 => ?_)
  · have h0 : x < 0 ∨ nI f ≤ x := by first | exact Or.inl c_6 | exact Or.inr (cr_nlt c_14) | exact Or.inr c_14
    refine lv_iconst (v := (-1)) hx hb dX4_grow_17 (by decide) ?_
    have hP9 := hP.sub (ws' := [(am, .inr (5, [.int 0, .ref acs, .ref afv, .ref atr, .ref aln, .ref aps, .ref ata, .int (nI c), .int (nI f), .int (nI t), .int ed, .ref aro, .ref akc, .ref akp, .ref akm, .ref akf, .ref aku, .ref ake, .ref aiw, .int (nI kb), .int cp, .int ct, .int dn])), (aln, .inl (cI, 6, .inl ln))]) [0, 1] rfl
    have hD9 := hD.sub (ws' := [(am, .inr (5, [.int 0, .ref acs, .ref afv, .ref atr, .ref aln, .ref aps, .ref ata, .int (nI c), .int (nI f), .int (nI t), .int ed, .ref aro, .ref akc, .ref akp, .ref akm, .ref akf, .ref aku, .ref ake, .ref aiw, .int (nI kb), .int cp, .int ct, .int dn])), (aln, .inl (cI, 6, .inl ln))]) [0, 1] (by decide) rfl
    refine W.widen (k := 0) (n := 0) (Nat.le_of_ble_eq_true rfl) (Nat.le_of_ble_eq_true rfl) ?_
    exact W.iret (v := (-1)) hx hb hr (fun t9 ht9 hW9 => ⟨⟨(-1), (ln), rfl, ⟨by unfold gr_r; rw [if_pos h0], by unfold gr_l; rw [if_pos h0]⟩, by rw [ht9]; exact hP9, va_K.moved hW9.alike hK, hD9⟩, hS.F ht9⟩) hS.2.2 dX4_grow_18
  · refine lv_iload_n hx hb dX4_grow_9 rfl (lv_at hl 1 rfl) ?_
    refine lv_aload_n hx hb dX4_grow_10 rfl (lv_at hl 0 rfl) ?_
    refine va_get (D := D) (ci := 5) (v := .int (nI f)) (C := RX4) (T := TX4) (N := 23) hx hb hts iX4 hown hK hP 0 rfl rfl 8 (by decide) wf68 (fun _ h9 => h9) rfl dX4_grow_11 ?_
    refine lv_icmp_lt (tgt := 19) hx hb dX4_grow_14 (by decide) (fun c_14 => ?_) (fun c_14 => ?_)
    · have h0 : ¬ (x < 0 ∨ nI f ≤ x) := by first | exact fun q => q.elim c_6 (cr_lt_nle c_14) | exact fun q => q.elim c_6 c_14
      obtain ⟨k, hk, hxk⟩ := cr_ix (by omega) h0
      have hcl : x.toNatClampNeg = k := by rw [hxk, nI_clamp (by omega)]
      refine lv_aload_n hx hb dX4_grow_19 rfl (lv_at hl 0 rfl) ?_
      refine va_get (D := D) (ci := 5) (v := .ref aln) (C := RX4) (T := TX4) (N := 23) hx hb hts iX4 hown hK hP 0 rfl rfl 4 (by decide) wf19 (fun _ h9 => h9) rfl dX4_grow_20 ?_
      refine lv_iload_n hx hb dX4_grow_23 rfl (lv_at hl 1 rfl) ?_
      refine ct_topi (y := (nI k)) (hxk) ?_
      refine ct_iald (k := k) hx hb hK hP 1 0 rfl rfl (by omega) (by decide) dX4_grow_24 ?_
      refine lv_i2l hx hb dX4_grow_25 rfl ?_
      refine lv_iload_n hx hb dX4_grow_26 rfl (lv_at hl 2 rfl) ?_
      refine lv_i2l hx hb dX4_grow_27 rfl ?_
      refine lv_ladd hx hb dX4_grow_28 ?_
      refine lv_lstore_n (lv' := [(3, .long (((ln k).toInt64) + n.toInt64)), (0, .ref am), (1, .int x), (2, .int n)]) hx hb dX4_grow_29 rfl hl (by decide) rfl (fun ls hl => ?_)
      refine lv_lload_n hx hb dX4_grow_30 rfl (lv_at hl 0 rfl) ?_
      refine lv_lconst (v := 0) hx hb dX4_grow_31 (by decide) ?_
      refine W.lcmp hx hb dX4_grow_32 ?_
      refine lv_if_lt (tgt := 44) hx hb dX4_grow_33 (by decide) (fun c_33 => ?_) (fun c_33 => ?_)
      · refine lv_bipush (v := (-4)) hx hb dX4_grow_44 (by decide) ?_
        have hb4 : gr_v ln x.toNatClampNeg n < 0 ∨ 2000 < gr_v ln x.toNatClampNeg n := by
          rw [hcl]
          first | exact Or.inl (cr_cmplt.mp c_33) | exact Or.inr (cr_cmpgt.mp c_41)
        have hP9 := hP.sub (ws' := [(am, .inr (5, [.int 0, .ref acs, .ref afv, .ref atr, .ref aln, .ref aps, .ref ata, .int (nI c), .int (nI f), .int (nI t), .int ed, .ref aro, .ref akc, .ref akp, .ref akm, .ref akf, .ref aku, .ref ake, .ref aiw, .int (nI kb), .int cp, .int ct, .int dn])), (aln, .inl (cI, 6, .inl ln))]) [0, 1] rfl
        have hD9 := hD.sub (ws' := [(am, .inr (5, [.int 0, .ref acs, .ref afv, .ref atr, .ref aln, .ref aps, .ref ata, .int (nI c), .int (nI f), .int (nI t), .int ed, .ref aro, .ref akc, .ref akp, .ref akm, .ref akf, .ref aku, .ref ake, .ref aiw, .int (nI kb), .int cp, .int ct, .int dn])), (aln, .inl (cI, 6, .inl ln))]) [0, 1] (by decide) rfl
        refine W.widen (k := 0) (n := 0) (Nat.le_of_ble_eq_true rfl) (Nat.le_of_ble_eq_true rfl) ?_
        exact W.iret (v := (-4)) hx hb hr (fun t9 ht9 hW9 => ⟨⟨(-4), (ln), rfl, ⟨by unfold gr_r; rw [if_neg h0, if_pos hb4], by unfold gr_l; rw [if_neg h0, if_pos hb4]⟩, by rw [ht9]; exact hP9, va_K.moved hW9.alike hK, hD9⟩, hS.F ht9⟩) hS.2.2 dX4_grow_46
      · refine lv_lload_n hx hb dX4_grow_36 rfl (lv_at hl 0 rfl) ?_
        refine lv_ldc2 (v := 2000) hx hb hown wk89 dX4_grow_37 ?_
        refine W.lcmp hx hb dX4_grow_40 ?_
        refine lv_if_le (tgt := 47) hx hb dX4_grow_41 (by decide) (fun c_41 => ?_) (fun c_41 => ?_)
        · refine lv_aload_n hx hb dX4_grow_47 rfl (lv_at hl 1 rfl) ?_
          refine va_get (D := D) (ci := 5) (v := .ref aln) (C := RX4) (T := TX4) (N := 23) hx hb hts iX4 hown hK hP 0 rfl rfl 4 (by decide) wf19 (fun _ h9 => h9) rfl dX4_grow_48 ?_
          refine lv_iload_n hx hb dX4_grow_51 rfl (lv_at hl 2 rfl) ?_
          refine ct_topi (y := (nI k)) (hxk) ?_
          refine lv_lload_n hx hb dX4_grow_52 rfl (lv_at hl 0 rfl) ?_
          refine lv_l2i hx hb dX4_grow_53 rfl ?_
          refine ct_iast (k := k) hx hb hK hP hD hS 1 0 rfl rfl (by omega) (by decide) dX4_grow_54 (fun H locs hP hD hS => ?_)
          have hP : va_P D vwCl [(am, .inr (5, [.int 0, .ref acs, .ref afv, .ref atr, .ref aln, .ref aps, .ref ata, .int (nI c), .int (nI f), .int (nI t), .int ed, .ref aro, .ref akc, .ref akp, .ref akm, .ref akf, .ref aku, .ref ake, .ref aiw, .int (nI kb), .int cp, .int ct, .int dn])), (aln, .inl (cI, 6, .inl (upd ln k ((((ln k).toInt64) + n.toInt64).toInt32))))] H := hP
          have hD : va_D A [(am, .inr (5, [.int 0, .ref acs, .ref afv, .ref atr, .ref aln, .ref aps, .ref ata, .int (nI c), .int (nI f), .int (nI t), .int ed, .ref aro, .ref akc, .ref akp, .ref akm, .ref akf, .ref aku, .ref ake, .ref aiw, .int (nI kb), .int cp, .int ct, .int dn])), (aln, .inl (cI, 6, .inl (upd ln k ((((ln k).toInt64) + n.toInt64).toInt32))))] := hD
          refine lv_aload_n hx hb dX4_grow_55 rfl (lv_at hl 1 rfl) ?_
          refine va_get (D := D) (ci := 5) (v := .ref aln) (C := RX4) (T := TX4) (N := 23) hx hb hts iX4 hown hK hP 0 rfl rfl 4 (by decide) wf19 (fun _ h9 => h9) rfl dX4_grow_56 ?_
          refine lv_iload_n hx hb dX4_grow_59 rfl (lv_at hl 2 rfl) ?_
          refine ct_topi (y := (nI k)) (hxk) ?_
          refine ct_iald (k := k) hx hb hK hP 1 0 rfl rfl (by omega) (by decide) dX4_grow_60 ?_
          have hb4 : ¬ (gr_v ln x.toNatClampNeg n < 0 ∨ 2000 < gr_v ln x.toNatClampNeg n) := by
            rw [hcl]
            exact fun q => q.elim (fun q => c_33 (cr_cmplt.mpr q)) (fun q => cr_cmpgt_not c_41 q)
          have hP9 := hP.sub (ws' := [(am, .inr (5, [.int 0, .ref acs, .ref afv, .ref atr, .ref aln, .ref aps, .ref ata, .int (nI c), .int (nI f), .int (nI t), .int ed, .ref aro, .ref akc, .ref akp, .ref akm, .ref akf, .ref aku, .ref ake, .ref aiw, .int (nI kb), .int cp, .int ct, .int dn])), (aln, .inl (cI, 6, .inl (upd ln k ((((ln k).toInt64) + n.toInt64).toInt32))))]) [0, 1] rfl
          have hD9 := hD.sub (ws' := [(am, .inr (5, [.int 0, .ref acs, .ref afv, .ref atr, .ref aln, .ref aps, .ref ata, .int (nI c), .int (nI f), .int (nI t), .int ed, .ref aro, .ref akc, .ref akp, .ref akm, .ref akf, .ref aku, .ref ake, .ref aiw, .int (nI kb), .int cp, .int ct, .int dn])), (aln, .inl (cI, 6, .inl (upd ln k ((((ln k).toInt64) + n.toInt64).toInt32))))]) [0, 1] (by decide) rfl
          refine W.widen (k := 0) (n := 0) (Nat.le_of_ble_eq_true rfl) (Nat.le_of_ble_eq_true rfl) ?_
          exact W.iret (v := ((upd ln k ((((ln k).toInt64) + n.toInt64).toInt32)) k)) hx hb hr (fun t9 ht9 hW9 => ⟨⟨((upd ln k ((((ln k).toInt64) + n.toInt64).toInt32)) k), ((upd ln k ((((ln k).toInt64) + n.toInt64).toInt32))), rfl, ⟨by unfold gr_r; rw [if_neg h0, if_neg hb4, hcl]; simp [upd, gr_v], by unfold gr_l; rw [if_neg h0, if_neg hb4, hcl]; rfl⟩, by rw [ht9]; exact hP9, va_K.moved hW9.alike hK, hD9⟩, hS.F ht9⟩) hS.2.2 dX4_grow_61
        · refine lv_bipush (v := (-4)) hx hb dX4_grow_44 (by decide) ?_
          have hb4 : gr_v ln x.toNatClampNeg n < 0 ∨ 2000 < gr_v ln x.toNatClampNeg n := by
            rw [hcl]
            first | exact Or.inl (cr_cmplt.mp c_33) | exact Or.inr (cr_cmpgt.mp c_41)
          have hP9 := hP.sub (ws' := [(am, .inr (5, [.int 0, .ref acs, .ref afv, .ref atr, .ref aln, .ref aps, .ref ata, .int (nI c), .int (nI f), .int (nI t), .int ed, .ref aro, .ref akc, .ref akp, .ref akm, .ref akf, .ref aku, .ref ake, .ref aiw, .int (nI kb), .int cp, .int ct, .int dn])), (aln, .inl (cI, 6, .inl ln))]) [0, 1] rfl
          have hD9 := hD.sub (ws' := [(am, .inr (5, [.int 0, .ref acs, .ref afv, .ref atr, .ref aln, .ref aps, .ref ata, .int (nI c), .int (nI f), .int (nI t), .int ed, .ref aro, .ref akc, .ref akp, .ref akm, .ref akf, .ref aku, .ref ake, .ref aiw, .int (nI kb), .int cp, .int ct, .int dn])), (aln, .inl (cI, 6, .inl ln))]) [0, 1] (by decide) rfl
          refine W.widen (k := 0) (n := 0) (Nat.le_of_ble_eq_true rfl) (Nat.le_of_ble_eq_true rfl) ?_
          exact W.iret (v := (-4)) hx hb hr (fun t9 ht9 hW9 => ⟨⟨(-4), (ln), rfl, ⟨by unfold gr_r; rw [if_neg h0, if_pos hb4], by unfold gr_l; rw [if_neg h0, if_pos hb4]⟩, by rw [ht9]; exact hP9, va_K.moved hW9.alike hK, hD9⟩, hS.F ht9⟩) hS.2.2 dX4_grow_46
    · have h0 : x < 0 ∨ nI f ≤ x := by first | exact Or.inl c_6 | exact Or.inr (cr_nlt c_14) | exact Or.inr c_14
      refine lv_iconst (v := (-1)) hx hb dX4_grow_17 (by decide) ?_
      have hP9 := hP.sub (ws' := [(am, .inr (5, [.int 0, .ref acs, .ref afv, .ref atr, .ref aln, .ref aps, .ref ata, .int (nI c), .int (nI f), .int (nI t), .int ed, .ref aro, .ref akc, .ref akp, .ref akm, .ref akf, .ref aku, .ref ake, .ref aiw, .int (nI kb), .int cp, .int ct, .int dn])), (aln, .inl (cI, 6, .inl ln))]) [0, 1] rfl
      have hD9 := hD.sub (ws' := [(am, .inr (5, [.int 0, .ref acs, .ref afv, .ref atr, .ref aln, .ref aps, .ref ata, .int (nI c), .int (nI f), .int (nI t), .int ed, .ref aro, .ref akc, .ref akp, .ref akm, .ref akf, .ref aku, .ref ake, .ref aiw, .int (nI kb), .int cp, .int ct, .int dn])), (aln, .inl (cI, 6, .inl ln))]) [0, 1] (by decide) rfl
      refine W.widen (k := 0) (n := 0) (Nat.le_of_ble_eq_true rfl) (Nat.le_of_ble_eq_true rfl) ?_
      exact W.iret (v := (-1)) hx hb hr (fun t9 ht9 hW9 => ⟨⟨(-1), (ln), rfl, ⟨by unfold gr_r; rw [if_pos h0], by unfold gr_l; rw [if_pos h0]⟩, by rw [ht9]; exact hP9, va_K.moved hW9.alike hK, hD9⟩, hS.F ht9⟩) hS.2.2 dX4_grow_18
abbrev rm_X4_edition : Room := { frames := 0, cells := 0, slots := 0, locals := 0 }
abbrev qc_X4_edition (D : va_G) (cI cL cZ : ClassId) (am : Nat) (acs : Nat) (afv : Nat) (atr : Nat) (aln : Nat) (aps : Nat) (ata : Nat) (aro : Nat) (akc : Nat) (akp : Nat) (akm : Nat) (akf : Nat) (aku : Nat) (ake : Nat) (aiw : Nat) (cde : Int32) (c : Nat) (f : Nat) (t : Nat) (kb : Nat) (ed : Int32) (cp : Int32) (ct : Int32) (dn : Int32) (x : Int32) (A : Nat → Prop) : Array Value → State → Outcome → State → Prop := va_Qi (fun (r : Int32) (u : Unit) => ed = r) (ct_B D vwCl [(cI, .int), (cL, .long), (cZ, .boolean)] A (fun (u : Unit) => [(am, .inr (5, [.int 0, .ref acs, .ref afv, .ref atr, .ref aln, .ref aps, .ref ata, .int (nI c), .int (nI f), .int (nI t), .int x, .ref aro, .ref akc, .ref akp, .ref akm, .ref akf, .ref aku, .ref ake, .ref aiw, .int (nI kb), .int cp, .int ct, .int dn]))])) A
set_option maxHeartbeats 4000000 in
set_option maxRecDepth 100000 in
theorem c_X4_edition (l : Launch) (D : va_G) (cI cL cZ : ClassId) (am : Nat) (acs : Nat) (afv : Nat) (atr : Nat) (aln : Nat) (aps : Nat) (ata : Nat) (aro : Nat) (akc : Nat) (akp : Nat) (akm : Nat) (akf : Nat) (aku : Nat) (ake : Nat) (aiw : Nat) (cde : Int32) (c : Nat) (f : Nat) (t : Nat) (kb : Nat) (ed : Int32) (cp : Int32) (ct : Int32) (dn : Int32) (x : Int32) (sz : Nat)  : Met l yX4_edition wsX4_edition rm_X4_edition (va_Pc [.ref am, .int x] (ct_P D vwCl [(cI, .int), (cL, .long), (cZ, .boolean)] [(am, .inr (5, [.int cde, .ref acs, .ref afv, .ref atr, .ref aln, .ref aps, .ref ata, .int (nI c), .int (nI f), .int (nI t), .int ed, .ref aro, .ref akc, .ref akp, .ref akm, .ref akf, .ref aku, .ref ake, .ref aiw, .int (nI kb), .int cp, .int ct, .int dn]))] sz)) (qc_X4_edition D cI cL cZ am acs afv atr aln aps ata aro akc akp akm akf aku ake aiw cde c f t kb ed cp ct dn x (va_A [(am, .inr (5, [.int cde, .ref acs, .ref afv, .ref atr, .ref aln, .ref aps, .ref ata, .int (nI c), .int (nI f), .int (nI t), .int ed, .ref aro, .ref akc, .ref akp, .ref akm, .ref akf, .ref aku, .ref ake, .ref aiw, .int (nI kb), .int cp, .int ct, .int dn]))] sz)) 0 0 (va_A [(am, .inr (5, [.int cde, .ref acs, .ref afv, .ref atr, .ref aln, .ref aps, .ref ata, .int (nI c), .int (nI f), .int (nI t), .int ed, .ref aro, .ref akc, .ref akp, .ref akm, .ref akf, .ref aku, .ref ake, .ref aiw, .int (nI kb), .int cp, .int ct, .int dn]))] sz) := by
  refine Met.ofW (cc := cX4_edition) (maxL := 3) (ret := (some .int)) (by decide) rfl ?_
  intro p e s m args below meth cd s₁ B hml hv
  obtain ⟨rfl, hsz, hP, hK, hD0⟩ := hv
  have hx := B.exec
  have hb := B.bytes
  have hr := B.returns
  have hts := atoms_spec (ws := wsX4_edition) B.pre
  have iX4 : ∀ w ∈ wsX40, w ∈ wsX4_edition := by decide +kernel
  have wf54 := hts (.fieldLink RX4 54 "CheckRestartModel" "code" "I") (by decide +kernel)
  have wf86 := hts (.fieldLink RX4 86 "CheckRestartModel" "edition" "I") (by decide +kernel)
  have hown : s.vm.findClass RX4 = some m.cls := findClass_of_methodNamed B.named
  have hlocks := B.notSynchronized
  subst hsz
  have hD := hD0.self (sz := s.heap.size)
  generalize hAe : va_A [(am, .inr (5, [.int cde, .ref acs, .ref afv, .ref atr, .ref aln, .ref aps, .ref ata, .int (nI c), .int (nI f), .int (nI t), .int ed, .ref aro, .ref akc, .ref akp, .ref akm, .ref akf, .ref aku, .ref ake, .ref aiw, .int (nI kb), .int cp, .int ct, .int dn]))] s.heap.size = A at hD ⊢
  have hA : ∀ q : Nat, s.heap.size ≤ q → A q := fun q h => by rw [← hAe]; exact Or.inr h
  have hS : va_S A s.heap s.heap [] := va_S.rf
  have hl := lv_entry ([.ref am, .int x]) (n := 3) (Nat.le_of_ble_eq_true rfl)
  rw [lg_entry_eq]
  generalize (lg_sl ([.ref am, .int x]) ++ List.replicate (3 - (lg_sl ([.ref am, .int x])).length) Slot.unset).toArray = ls at hl ⊢
  have hl : lv_has ls 3 [(0, .ref am), (1, .int x)] := hl
  refine lv_aload_n hx hb dX4_edition_0 rfl (lv_at hl 0 rfl) ?_
  refine lv_iconst (v := 0) hx hb dX4_edition_1 (by decide) ?_
  refine va_put (D := D) (ci := 5) (v := .int 0) (ty := .int) (C := RX4) (T := TX4) (N := 23) hx hb hts iX4 tyX4 tyX4_ok nmX4 hown hK hP hD hS 0 rfl rfl 0 (by decide) wf54 (fun _ h9 => h9) rfl (by decide +kernel) rfl rfl (Nat.le_of_ble_eq_true rfl) dX4_edition_2 (fun H locs hP hD hS => ?_)
  have hP : va_P D vwCl [(am, .inr (5, [.int 0, .ref acs, .ref afv, .ref atr, .ref aln, .ref aps, .ref ata, .int (nI c), .int (nI f), .int (nI t), .int ed, .ref aro, .ref akc, .ref akp, .ref akm, .ref akf, .ref aku, .ref ake, .ref aiw, .int (nI kb), .int cp, .int ct, .int dn]))] H := hP
  have hD : va_D A [(am, .inr (5, [.int 0, .ref acs, .ref afv, .ref atr, .ref aln, .ref aps, .ref ata, .int (nI c), .int (nI f), .int (nI t), .int ed, .ref aro, .ref akc, .ref akp, .ref akm, .ref akf, .ref aku, .ref ake, .ref aiw, .int (nI kb), .int cp, .int ct, .int dn]))] := hD
  refine lv_aload_n hx hb dX4_edition_5 rfl (lv_at hl 0 rfl) ?_
  refine va_get (D := D) (ci := 5) (v := .int ed) (C := RX4) (T := TX4) (N := 23) hx hb hts iX4 hown hK hP 0 rfl rfl 10 (by decide) wf86 (fun _ h9 => h9) rfl dX4_edition_6 ?_
  refine lv_istore_n (lv' := [(2, .int ed), (0, .ref am), (1, .int x)]) hx hb dX4_edition_9 rfl hl (by decide) rfl (fun ls hl => ?_)
  refine lv_aload_n hx hb dX4_edition_10 rfl (lv_at hl 1 rfl) ?_
  refine lv_iload_n hx hb dX4_edition_11 rfl (lv_at hl 2 rfl) ?_
  refine va_put (D := D) (ci := 5) (v := .int x) (ty := .int) (C := RX4) (T := TX4) (N := 23) hx hb hts iX4 tyX4 tyX4_ok nmX4 hown hK hP hD hS 0 rfl rfl 10 (by decide) wf86 (fun _ h9 => h9) rfl (by decide +kernel) rfl rfl (Nat.le_of_ble_eq_true rfl) dX4_edition_12 (fun H locs hP hD hS => ?_)
  have hP : va_P D vwCl [(am, .inr (5, [.int 0, .ref acs, .ref afv, .ref atr, .ref aln, .ref aps, .ref ata, .int (nI c), .int (nI f), .int (nI t), .int x, .ref aro, .ref akc, .ref akp, .ref akm, .ref akf, .ref aku, .ref ake, .ref aiw, .int (nI kb), .int cp, .int ct, .int dn]))] H := hP
  have hD : va_D A [(am, .inr (5, [.int 0, .ref acs, .ref afv, .ref atr, .ref aln, .ref aps, .ref ata, .int (nI c), .int (nI f), .int (nI t), .int x, .ref aro, .ref akc, .ref akp, .ref akm, .ref akf, .ref aku, .ref ake, .ref aiw, .int (nI kb), .int cp, .int ct, .int dn]))] := hD
  refine lv_iload_n hx hb dX4_edition_15 rfl (lv_at hl 0 rfl) ?_
  have hP9 := hP.sub (ws' := [(am, .inr (5, [.int 0, .ref acs, .ref afv, .ref atr, .ref aln, .ref aps, .ref ata, .int (nI c), .int (nI f), .int (nI t), .int x, .ref aro, .ref akc, .ref akp, .ref akm, .ref akf, .ref aku, .ref ake, .ref aiw, .int (nI kb), .int cp, .int ct, .int dn]))]) [0] rfl
  have hD9 := hD.sub (ws' := [(am, .inr (5, [.int 0, .ref acs, .ref afv, .ref atr, .ref aln, .ref aps, .ref ata, .int (nI c), .int (nI f), .int (nI t), .int x, .ref aro, .ref akc, .ref akp, .ref akm, .ref akf, .ref aku, .ref ake, .ref aiw, .int (nI kb), .int cp, .int ct, .int dn]))]) [0] (by decide) rfl
  refine W.widen (k := 0) (n := 0) (Nat.le_of_ble_eq_true rfl) (Nat.le_of_ble_eq_true rfl) ?_
  exact W.iret (v := ed) hx hb hr (fun t9 ht9 hW9 => ⟨⟨ed, (), rfl, by first | rfl | (simp []; done), by rw [ht9]; exact hP9, va_K.moved hW9.alike hK, hD9⟩, hS.F ht9⟩) hS.2.2 dX4_edition_16
abbrev rm_X4_output : Room := { frames := 0, cells := 0, slots := 0, locals := 0 }
abbrev qc_X4_output (D : va_G) (cI cL cZ : ClassId) (am : Nat) (acs : Nat) (afv : Nat) (atr : Nat) (aln : Nat) (aps : Nat) (ata : Nat) (aro : Nat) (akc : Nat) (akp : Nat) (akm : Nat) (akf : Nat) (aku : Nat) (ake : Nat) (aiw : Nat) (cde : Int32) (c : Nat) (f : Nat) (t : Nat) (kb : Nat) (ed : Int32) (cp : Int32) (ct : Int32) (dn : Int32) (ro : Nat → Int64) (x : Int32) (A : Nat → Prop) : Array Value → State → Outcome → State → Prop := va_Qi (fun (r : Int32) (u : Unit) => ((if x < 0 ∨ nI t ≤ x then 0 else (ro x.toNatClampNeg).toInt32) = r)) (ct_B D vwCl [(cI, .int), (cL, .long), (cZ, .boolean)] A (fun (u : Unit) => [(am, .inr (5, [.int 0, .ref acs, .ref afv, .ref atr, .ref aln, .ref aps, .ref ata, .int (nI c), .int (nI f), .int (nI t), .int ed, .ref aro, .ref akc, .ref akp, .ref akm, .ref akf, .ref aku, .ref ake, .ref aiw, .int (nI kb), .int cp, .int ct, .int dn])), (aro, .inl (cL, 5001, .inr (.inl ro)))])) A
set_option maxHeartbeats 4000000 in
set_option maxRecDepth 100000 in
theorem c_X4_output (l : Launch) (D : va_G) (cI cL cZ : ClassId) (am : Nat) (acs : Nat) (afv : Nat) (atr : Nat) (aln : Nat) (aps : Nat) (ata : Nat) (aro : Nat) (akc : Nat) (akp : Nat) (akm : Nat) (akf : Nat) (aku : Nat) (ake : Nat) (aiw : Nat) (cde : Int32) (c : Nat) (f : Nat) (t : Nat) (kb : Nat) (ed : Int32) (cp : Int32) (ct : Int32) (dn : Int32) (ro : Nat → Int64) (x : Int32) (sz : Nat) (ht : t ≤ 5000) : Met l yX4_output wsX4_output rm_X4_output (va_Pc [.ref am, .int x] (ct_P D vwCl [(cI, .int), (cL, .long), (cZ, .boolean)] [(am, .inr (5, [.int cde, .ref acs, .ref afv, .ref atr, .ref aln, .ref aps, .ref ata, .int (nI c), .int (nI f), .int (nI t), .int ed, .ref aro, .ref akc, .ref akp, .ref akm, .ref akf, .ref aku, .ref ake, .ref aiw, .int (nI kb), .int cp, .int ct, .int dn])), (aro, .inl (cL, 5001, .inr (.inl ro)))] sz)) (qc_X4_output D cI cL cZ am acs afv atr aln aps ata aro akc akp akm akf aku ake aiw cde c f t kb ed cp ct dn ro x (va_A [(am, .inr (5, [.int cde, .ref acs, .ref afv, .ref atr, .ref aln, .ref aps, .ref ata, .int (nI c), .int (nI f), .int (nI t), .int ed, .ref aro, .ref akc, .ref akp, .ref akm, .ref akf, .ref aku, .ref ake, .ref aiw, .int (nI kb), .int cp, .int ct, .int dn])), (aro, .inl (cL, 5001, .inr (.inl ro)))] sz)) 0 0 (va_A [(am, .inr (5, [.int cde, .ref acs, .ref afv, .ref atr, .ref aln, .ref aps, .ref ata, .int (nI c), .int (nI f), .int (nI t), .int ed, .ref aro, .ref akc, .ref akp, .ref akm, .ref akf, .ref aku, .ref ake, .ref aiw, .int (nI kb), .int cp, .int ct, .int dn])), (aro, .inl (cL, 5001, .inr (.inl ro)))] sz) := by
  refine Met.ofW (cc := cX4_output) (maxL := 2) (ret := (some .int)) (by decide) rfl ?_
  intro p e s m args below meth cd s₁ B hml hv
  obtain ⟨rfl, hsz, hP, hK, hD0⟩ := hv
  have hx := B.exec
  have hb := B.bytes
  have hr := B.returns
  have hts := atoms_spec (ws := wsX4_output) B.pre
  have iX4 : ∀ w ∈ wsX40, w ∈ wsX4_output := by decide +kernel
  have wf54 := hts (.fieldLink RX4 54 "CheckRestartModel" "code" "I") (by decide +kernel)
  have wf62 := hts (.fieldLink RX4 62 "CheckRestartModel" "units" "I") (by decide +kernel)
  have wf29 := hts (.fieldLink RX4 29 "CheckRestartModel" "rows" "[J") (by decide +kernel)
  have hown : s.vm.findClass RX4 = some m.cls := findClass_of_methodNamed B.named
  have hlocks := B.notSynchronized
  subst hsz
  have hD := hD0.self (sz := s.heap.size)
  generalize hAe : va_A [(am, .inr (5, [.int cde, .ref acs, .ref afv, .ref atr, .ref aln, .ref aps, .ref ata, .int (nI c), .int (nI f), .int (nI t), .int ed, .ref aro, .ref akc, .ref akp, .ref akm, .ref akf, .ref aku, .ref ake, .ref aiw, .int (nI kb), .int cp, .int ct, .int dn])), (aro, .inl (cL, 5001, .inr (.inl ro)))] s.heap.size = A at hD ⊢
  have hA : ∀ q : Nat, s.heap.size ≤ q → A q := fun q h => by rw [← hAe]; exact Or.inr h
  have hS : va_S A s.heap s.heap [] := va_S.rf
  have hl := lv_entry ([.ref am, .int x]) (n := 2) (Nat.le_of_ble_eq_true rfl)
  rw [lg_entry_eq]
  generalize (lg_sl ([.ref am, .int x]) ++ List.replicate (2 - (lg_sl ([.ref am, .int x])).length) Slot.unset).toArray = ls at hl ⊢
  have hl : lv_has ls 2 [(0, .ref am), (1, .int x)] := hl
  refine lv_aload_n hx hb dX4_output_0 rfl (lv_at hl 0 rfl) ?_
  refine lv_iconst (v := 0) hx hb dX4_output_1 (by decide) ?_
  refine va_put (D := D) (ci := 5) (v := .int 0) (ty := .int) (C := RX4) (T := TX4) (N := 23) hx hb hts iX4 tyX4 tyX4_ok nmX4 hown hK hP hD hS 0 rfl rfl 0 (by decide) wf54 (fun _ h9 => h9) rfl (by decide +kernel) rfl rfl (Nat.le_of_ble_eq_true rfl) dX4_output_2 (fun H locs hP hD hS => ?_)
  have hP : va_P D vwCl [(am, .inr (5, [.int 0, .ref acs, .ref afv, .ref atr, .ref aln, .ref aps, .ref ata, .int (nI c), .int (nI f), .int (nI t), .int ed, .ref aro, .ref akc, .ref akp, .ref akm, .ref akf, .ref aku, .ref ake, .ref aiw, .int (nI kb), .int cp, .int ct, .int dn])), (aro, .inl (cL, 5001, .inr (.inl ro)))] H := hP
  have hD : va_D A [(am, .inr (5, [.int 0, .ref acs, .ref afv, .ref atr, .ref aln, .ref aps, .ref ata, .int (nI c), .int (nI f), .int (nI t), .int ed, .ref aro, .ref akc, .ref akp, .ref akm, .ref akf, .ref aku, .ref ake, .ref aiw, .int (nI kb), .int cp, .int ct, .int dn])), (aro, .inl (cL, 5001, .inr (.inl ro)))] := hD
  refine lv_iload_n hx hb dX4_output_5 rfl (lv_at hl 1 rfl) ?_
  refine lv_if_lt (tgt := 27) hx hb dX4_output_6 (by decide) (fun c_6 => ?_) (fun c_6 => ?_)
  · have h0 : x < 0 ∨ nI t ≤ x := by first | exact Or.inl c_6 | exact Or.inr (cr_nlt c_14) | exact Or.inr c_14
    refine lv_iconst (v := 0) hx hb dX4_output_27 (by decide) ?_
    have hP9 := hP.sub (ws' := [(am, .inr (5, [.int 0, .ref acs, .ref afv, .ref atr, .ref aln, .ref aps, .ref ata, .int (nI c), .int (nI f), .int (nI t), .int ed, .ref aro, .ref akc, .ref akp, .ref akm, .ref akf, .ref aku, .ref ake, .ref aiw, .int (nI kb), .int cp, .int ct, .int dn])), (aro, .inl (cL, 5001, .inr (.inl ro)))]) [0, 1] rfl
    have hD9 := hD.sub (ws' := [(am, .inr (5, [.int 0, .ref acs, .ref afv, .ref atr, .ref aln, .ref aps, .ref ata, .int (nI c), .int (nI f), .int (nI t), .int ed, .ref aro, .ref akc, .ref akp, .ref akm, .ref akf, .ref aku, .ref ake, .ref aiw, .int (nI kb), .int cp, .int ct, .int dn])), (aro, .inl (cL, 5001, .inr (.inl ro)))]) [0, 1] (by decide) rfl
    refine W.widen (k := 0) (n := 0) (Nat.le_of_ble_eq_true rfl) (Nat.le_of_ble_eq_true rfl) ?_
    exact W.iret (v := 0) hx hb hr (fun t9 ht9 hW9 => ⟨⟨0, (), rfl, by rw [if_pos h0], by rw [ht9]; exact hP9, va_K.moved hW9.alike hK, hD9⟩, hS.F ht9⟩) hS.2.2 dX4_output_28
  · refine lv_iload_n hx hb dX4_output_9 rfl (lv_at hl 1 rfl) ?_
    refine lv_aload_n hx hb dX4_output_10 rfl (lv_at hl 0 rfl) ?_
    refine va_get (D := D) (ci := 5) (v := .int (nI t)) (C := RX4) (T := TX4) (N := 23) hx hb hts iX4 hown hK hP 0 rfl rfl 9 (by decide) wf62 (fun _ h9 => h9) rfl dX4_output_11 ?_
    refine lv_icmp_ge (tgt := 27) hx hb dX4_output_14 (by decide) (fun c_14 => ?_) (fun c_14 => ?_)
    · have h0 : x < 0 ∨ nI t ≤ x := by first | exact Or.inl c_6 | exact Or.inr (cr_nlt c_14) | exact Or.inr c_14
      refine lv_iconst (v := 0) hx hb dX4_output_27 (by decide) ?_
      have hP9 := hP.sub (ws' := [(am, .inr (5, [.int 0, .ref acs, .ref afv, .ref atr, .ref aln, .ref aps, .ref ata, .int (nI c), .int (nI f), .int (nI t), .int ed, .ref aro, .ref akc, .ref akp, .ref akm, .ref akf, .ref aku, .ref ake, .ref aiw, .int (nI kb), .int cp, .int ct, .int dn])), (aro, .inl (cL, 5001, .inr (.inl ro)))]) [0, 1] rfl
      have hD9 := hD.sub (ws' := [(am, .inr (5, [.int 0, .ref acs, .ref afv, .ref atr, .ref aln, .ref aps, .ref ata, .int (nI c), .int (nI f), .int (nI t), .int ed, .ref aro, .ref akc, .ref akp, .ref akm, .ref akf, .ref aku, .ref ake, .ref aiw, .int (nI kb), .int cp, .int ct, .int dn])), (aro, .inl (cL, 5001, .inr (.inl ro)))]) [0, 1] (by decide) rfl
      refine W.widen (k := 0) (n := 0) (Nat.le_of_ble_eq_true rfl) (Nat.le_of_ble_eq_true rfl) ?_
      exact W.iret (v := 0) hx hb hr (fun t9 ht9 hW9 => ⟨⟨0, (), rfl, by rw [if_pos h0], by rw [ht9]; exact hP9, va_K.moved hW9.alike hK, hD9⟩, hS.F ht9⟩) hS.2.2 dX4_output_28
    · have h0 : ¬ (x < 0 ∨ nI t ≤ x) := by first | exact fun q => q.elim c_6 (cr_lt_nle c_14) | exact fun q => q.elim c_6 c_14
      obtain ⟨k, hk, hxk⟩ := cr_ix (by omega) h0
      have hcl : x.toNatClampNeg = k := by rw [hxk, nI_clamp (by omega)]
      refine lv_aload_n hx hb dX4_output_17 rfl (lv_at hl 0 rfl) ?_
      refine va_get (D := D) (ci := 5) (v := .ref aro) (C := RX4) (T := TX4) (N := 23) hx hb hts iX4 hown hK hP 0 rfl rfl 11 (by decide) wf29 (fun _ h9 => h9) rfl dX4_output_18 ?_
      refine lv_iload_n hx hb dX4_output_21 rfl (lv_at hl 1 rfl) ?_
      refine ct_topi (y := (nI k)) (hxk) ?_
      refine ct_lald (k := k) hx hb hK hP 1 1 rfl rfl (by omega) (by decide) dX4_output_22 ?_
      refine lv_l2i hx hb dX4_output_23 rfl ?_
      refine lv_goto (tgt := 28) hx hb dX4_output_24 (by decide) ?_
      have hP9 := hP.sub (ws' := [(am, .inr (5, [.int 0, .ref acs, .ref afv, .ref atr, .ref aln, .ref aps, .ref ata, .int (nI c), .int (nI f), .int (nI t), .int ed, .ref aro, .ref akc, .ref akp, .ref akm, .ref akf, .ref aku, .ref ake, .ref aiw, .int (nI kb), .int cp, .int ct, .int dn])), (aro, .inl (cL, 5001, .inr (.inl ro)))]) [0, 1] rfl
      have hD9 := hD.sub (ws' := [(am, .inr (5, [.int 0, .ref acs, .ref afv, .ref atr, .ref aln, .ref aps, .ref ata, .int (nI c), .int (nI f), .int (nI t), .int ed, .ref aro, .ref akc, .ref akp, .ref akm, .ref akf, .ref aku, .ref ake, .ref aiw, .int (nI kb), .int cp, .int ct, .int dn])), (aro, .inl (cL, 5001, .inr (.inl ro)))]) [0, 1] (by decide) rfl
      refine W.widen (k := 0) (n := 0) (Nat.le_of_ble_eq_true rfl) (Nat.le_of_ble_eq_true rfl) ?_
      exact W.iret (v := (ro k).toInt32) hx hb hr (fun t9 ht9 hW9 => ⟨⟨(ro k).toInt32, (), rfl, by rw [if_neg h0, hcl], by rw [ht9]; exact hP9, va_K.moved hW9.alike hK, hD9⟩, hS.F ht9⟩) hS.2.2 dX4_output_28
abbrev rm_X4_torn : Room := { frames := 0, cells := 0, slots := 0, locals := 0 }
abbrev qc_X4_torn (D : va_G) (cI cL cZ : ClassId) (am : Nat) (acs : Nat) (afv : Nat) (atr : Nat) (aln : Nat) (aps : Nat) (ata : Nat) (aro : Nat) (akc : Nat) (akp : Nat) (akm : Nat) (akf : Nat) (aku : Nat) (ake : Nat) (aiw : Nat) (cde : Int32) (c : Nat) (f : Nat) (t : Nat) (kb : Nat) (ed : Int32) (cp : Int32) (ct : Int32) (dn : Int32) (iw : Nat → Int32) (x : Int32) (A : Nat → Prop) : Array Value → State → Outcome → State → Prop := va_Qi (fun (r : Int32) (u : Unit) => ((if x < 1 ∨ nI kb < x then -1 else if iw x.toNatClampNeg = 0 then 1 else 0) = r)) (ct_B D vwCl [(cI, .int), (cL, .long), (cZ, .boolean)] A (fun (u : Unit) => [(am, .inr (5, [.int 0, .ref acs, .ref afv, .ref atr, .ref aln, .ref aps, .ref ata, .int (nI c), .int (nI f), .int (nI t), .int ed, .ref aro, .ref akc, .ref akp, .ref akm, .ref akf, .ref aku, .ref ake, .ref aiw, .int (nI kb), .int cp, .int ct, .int dn])), (aiw, .inl (cZ, 101, .inl iw))])) A
set_option maxHeartbeats 4000000 in
set_option maxRecDepth 100000 in
theorem c_X4_torn (l : Launch) (D : va_G) (cI cL cZ : ClassId) (am : Nat) (acs : Nat) (afv : Nat) (atr : Nat) (aln : Nat) (aps : Nat) (ata : Nat) (aro : Nat) (akc : Nat) (akp : Nat) (akm : Nat) (akf : Nat) (aku : Nat) (ake : Nat) (aiw : Nat) (cde : Int32) (c : Nat) (f : Nat) (t : Nat) (kb : Nat) (ed : Int32) (cp : Int32) (ct : Int32) (dn : Int32) (iw : Nat → Int32) (x : Int32) (sz : Nat) (hkb : kb ≤ 100) : Met l yX4_torn wsX4_torn rm_X4_torn (va_Pc [.ref am, .int x] (ct_P D vwCl [(cI, .int), (cL, .long), (cZ, .boolean)] [(am, .inr (5, [.int cde, .ref acs, .ref afv, .ref atr, .ref aln, .ref aps, .ref ata, .int (nI c), .int (nI f), .int (nI t), .int ed, .ref aro, .ref akc, .ref akp, .ref akm, .ref akf, .ref aku, .ref ake, .ref aiw, .int (nI kb), .int cp, .int ct, .int dn])), (aiw, .inl (cZ, 101, .inl iw))] sz)) (qc_X4_torn D cI cL cZ am acs afv atr aln aps ata aro akc akp akm akf aku ake aiw cde c f t kb ed cp ct dn iw x (va_A [(am, .inr (5, [.int cde, .ref acs, .ref afv, .ref atr, .ref aln, .ref aps, .ref ata, .int (nI c), .int (nI f), .int (nI t), .int ed, .ref aro, .ref akc, .ref akp, .ref akm, .ref akf, .ref aku, .ref ake, .ref aiw, .int (nI kb), .int cp, .int ct, .int dn])), (aiw, .inl (cZ, 101, .inl iw))] sz)) 0 0 (va_A [(am, .inr (5, [.int cde, .ref acs, .ref afv, .ref atr, .ref aln, .ref aps, .ref ata, .int (nI c), .int (nI f), .int (nI t), .int ed, .ref aro, .ref akc, .ref akp, .ref akm, .ref akf, .ref aku, .ref ake, .ref aiw, .int (nI kb), .int cp, .int ct, .int dn])), (aiw, .inl (cZ, 101, .inl iw))] sz) := by
  refine Met.ofW (cc := cX4_torn) (maxL := 2) (ret := (some .int)) (by decide) rfl ?_
  intro p e s m args below meth cd s₁ B hml hv
  obtain ⟨rfl, hsz, hP, hK, hD0⟩ := hv
  have hx := B.exec
  have hb := B.bytes
  have hr := B.returns
  have hts := atoms_spec (ws := wsX4_torn) B.pre
  have iX4 : ∀ w ∈ wsX40, w ∈ wsX4_torn := by decide +kernel
  have wf54 := hts (.fieldLink RX4 54 "CheckRestartModel" "code" "I") (by decide +kernel)
  have wf77 := hts (.fieldLink RX4 77 "CheckRestartModel" "checks" "I") (by decide +kernel)
  have wf50 := hts (.fieldLink RX4 50 "CheckRestartModel" "isWhole" "[Z") (by decide +kernel)
  have hown : s.vm.findClass RX4 = some m.cls := findClass_of_methodNamed B.named
  have hlocks := B.notSynchronized
  subst hsz
  have hD := hD0.self (sz := s.heap.size)
  generalize hAe : va_A [(am, .inr (5, [.int cde, .ref acs, .ref afv, .ref atr, .ref aln, .ref aps, .ref ata, .int (nI c), .int (nI f), .int (nI t), .int ed, .ref aro, .ref akc, .ref akp, .ref akm, .ref akf, .ref aku, .ref ake, .ref aiw, .int (nI kb), .int cp, .int ct, .int dn])), (aiw, .inl (cZ, 101, .inl iw))] s.heap.size = A at hD ⊢
  have hA : ∀ q : Nat, s.heap.size ≤ q → A q := fun q h => by rw [← hAe]; exact Or.inr h
  have hS : va_S A s.heap s.heap [] := va_S.rf
  have hl := lv_entry ([.ref am, .int x]) (n := 2) (Nat.le_of_ble_eq_true rfl)
  rw [lg_entry_eq]
  generalize (lg_sl ([.ref am, .int x]) ++ List.replicate (2 - (lg_sl ([.ref am, .int x])).length) Slot.unset).toArray = ls at hl ⊢
  have hl : lv_has ls 2 [(0, .ref am), (1, .int x)] := hl
  refine lv_aload_n hx hb dX4_torn_0 rfl (lv_at hl 0 rfl) ?_
  refine lv_iconst (v := 0) hx hb dX4_torn_1 (by decide) ?_
  refine va_put (D := D) (ci := 5) (v := .int 0) (ty := .int) (C := RX4) (T := TX4) (N := 23) hx hb hts iX4 tyX4 tyX4_ok nmX4 hown hK hP hD hS 0 rfl rfl 0 (by decide) wf54 (fun _ h9 => h9) rfl (by decide +kernel) rfl rfl (Nat.le_of_ble_eq_true rfl) dX4_torn_2 (fun H locs hP hD hS => ?_)
  have hP : va_P D vwCl [(am, .inr (5, [.int 0, .ref acs, .ref afv, .ref atr, .ref aln, .ref aps, .ref ata, .int (nI c), .int (nI f), .int (nI t), .int ed, .ref aro, .ref akc, .ref akp, .ref akm, .ref akf, .ref aku, .ref ake, .ref aiw, .int (nI kb), .int cp, .int ct, .int dn])), (aiw, .inl (cZ, 101, .inl iw))] H := hP
  have hD : va_D A [(am, .inr (5, [.int 0, .ref acs, .ref afv, .ref atr, .ref aln, .ref aps, .ref ata, .int (nI c), .int (nI f), .int (nI t), .int ed, .ref aro, .ref akc, .ref akp, .ref akm, .ref akf, .ref aku, .ref ake, .ref aiw, .int (nI kb), .int cp, .int ct, .int dn])), (aiw, .inl (cZ, 101, .inl iw))] := hD
  refine lv_iload_n hx hb dX4_torn_5 rfl (lv_at hl 1 rfl) ?_
  refine lv_iconst (v := 1) hx hb dX4_torn_6 (by decide) ?_
  refine lv_icmp_lt (tgt := 18) hx hb dX4_torn_7 (by decide) (fun c_7 => ?_) (fun c_7 => ?_)
  · have h0 : x < 1 ∨ nI kb < x := by first | exact Or.inl c_7 | exact Or.inr (Int32.not_le.mp c_15)
    refine lv_iconst (v := (-1)) hx hb dX4_torn_18 (by decide) ?_
    refine lv_goto (tgt := 36) hx hb dX4_torn_19 (by decide) ?_
    have hP9 := hP.sub (ws' := [(am, .inr (5, [.int 0, .ref acs, .ref afv, .ref atr, .ref aln, .ref aps, .ref ata, .int (nI c), .int (nI f), .int (nI t), .int ed, .ref aro, .ref akc, .ref akp, .ref akm, .ref akf, .ref aku, .ref ake, .ref aiw, .int (nI kb), .int cp, .int ct, .int dn])), (aiw, .inl (cZ, 101, .inl iw))]) [0, 1] rfl
    have hD9 := hD.sub (ws' := [(am, .inr (5, [.int 0, .ref acs, .ref afv, .ref atr, .ref aln, .ref aps, .ref ata, .int (nI c), .int (nI f), .int (nI t), .int ed, .ref aro, .ref akc, .ref akp, .ref akm, .ref akf, .ref aku, .ref ake, .ref aiw, .int (nI kb), .int cp, .int ct, .int dn])), (aiw, .inl (cZ, 101, .inl iw))]) [0, 1] (by decide) rfl
    refine W.widen (k := 0) (n := 0) (Nat.le_of_ble_eq_true rfl) (Nat.le_of_ble_eq_true rfl) ?_
    exact W.iret (v := (-1)) hx hb hr (fun t9 ht9 hW9 => ⟨⟨(-1), (), rfl, by rw [if_pos h0], by rw [ht9]; exact hP9, va_K.moved hW9.alike hK, hD9⟩, hS.F ht9⟩) hS.2.2 dX4_torn_36
  · refine lv_iload_n hx hb dX4_torn_10 rfl (lv_at hl 1 rfl) ?_
    refine lv_aload_n hx hb dX4_torn_11 rfl (lv_at hl 0 rfl) ?_
    refine va_get (D := D) (ci := 5) (v := .int (nI kb)) (C := RX4) (T := TX4) (N := 23) hx hb hts iX4 hown hK hP 0 rfl rfl 19 (by decide) wf77 (fun _ h9 => h9) rfl dX4_torn_12 ?_
    refine lv_icmp_le (tgt := 22) hx hb dX4_torn_15 (by decide) (fun c_15 => ?_) (fun c_15 => ?_)
    · have h0 : ¬ (x < 1 ∨ nI kb < x) := fun q => q.elim c_7 (fun q => cr_lt_nle q c_15)
      obtain ⟨k, hk1, hk2, hxk, -⟩ := cr_has (x := x) hkb (by rw [if_neg h0]; decide)
      have hcl : x.toNatClampNeg = k := by rw [hxk, nI_clamp (by omega)]
      refine lv_aload_n hx hb dX4_torn_22 rfl (lv_at hl 0 rfl) ?_
      refine va_get (D := D) (ci := 5) (v := .ref aiw) (C := RX4) (T := TX4) (N := 23) hx hb hts iX4 hown hK hP 0 rfl rfl 18 (by decide) wf50 (fun _ h9 => h9) rfl dX4_torn_23 ?_
      refine lv_iload_n hx hb dX4_torn_26 rfl (lv_at hl 1 rfl) ?_
      refine ct_topi (y := (nI k)) (hxk) ?_
      refine ct_zald (k := k) hx hb hK hP 1 2 rfl rfl (by omega) (by decide) dX4_torn_27 ?_
      refine lv_if_eq (tgt := 35) hx hb dX4_torn_28 (by decide) (fun c_28 => ?_) (fun c_28 => ?_)
      · refine lv_iconst (v := 1) hx hb dX4_torn_35 (by decide) ?_
        have hP9 := hP.sub (ws' := [(am, .inr (5, [.int 0, .ref acs, .ref afv, .ref atr, .ref aln, .ref aps, .ref ata, .int (nI c), .int (nI f), .int (nI t), .int ed, .ref aro, .ref akc, .ref akp, .ref akm, .ref akf, .ref aku, .ref ake, .ref aiw, .int (nI kb), .int cp, .int ct, .int dn])), (aiw, .inl (cZ, 101, .inl iw))]) [0, 1] rfl
        have hD9 := hD.sub (ws' := [(am, .inr (5, [.int 0, .ref acs, .ref afv, .ref atr, .ref aln, .ref aps, .ref ata, .int (nI c), .int (nI f), .int (nI t), .int ed, .ref aro, .ref akc, .ref akp, .ref akm, .ref akf, .ref aku, .ref ake, .ref aiw, .int (nI kb), .int cp, .int ct, .int dn])), (aiw, .inl (cZ, 101, .inl iw))]) [0, 1] (by decide) rfl
        refine W.widen (k := 0) (n := 0) (Nat.le_of_ble_eq_true rfl) (Nat.le_of_ble_eq_true rfl) ?_
        exact W.iret (v := 1) hx hb hr (fun t9 ht9 hW9 => ⟨⟨1, (), rfl, by rw [if_neg h0, hcl]; simp [c_28], by rw [ht9]; exact hP9, va_K.moved hW9.alike hK, hD9⟩, hS.F ht9⟩) hS.2.2 dX4_torn_36
      · refine lv_iconst (v := 0) hx hb dX4_torn_31 (by decide) ?_
        refine lv_goto (tgt := 36) hx hb dX4_torn_32 (by decide) ?_
        have hP9 := hP.sub (ws' := [(am, .inr (5, [.int 0, .ref acs, .ref afv, .ref atr, .ref aln, .ref aps, .ref ata, .int (nI c), .int (nI f), .int (nI t), .int ed, .ref aro, .ref akc, .ref akp, .ref akm, .ref akf, .ref aku, .ref ake, .ref aiw, .int (nI kb), .int cp, .int ct, .int dn])), (aiw, .inl (cZ, 101, .inl iw))]) [0, 1] rfl
        have hD9 := hD.sub (ws' := [(am, .inr (5, [.int 0, .ref acs, .ref afv, .ref atr, .ref aln, .ref aps, .ref ata, .int (nI c), .int (nI f), .int (nI t), .int ed, .ref aro, .ref akc, .ref akp, .ref akm, .ref akf, .ref aku, .ref ake, .ref aiw, .int (nI kb), .int cp, .int ct, .int dn])), (aiw, .inl (cZ, 101, .inl iw))]) [0, 1] (by decide) rfl
        refine W.widen (k := 0) (n := 0) (Nat.le_of_ble_eq_true rfl) (Nat.le_of_ble_eq_true rfl) ?_
        exact W.iret (v := 0) hx hb hr (fun t9 ht9 hW9 => ⟨⟨0, (), rfl, by rw [if_neg h0, hcl]; simp [c_28], by rw [ht9]; exact hP9, va_K.moved hW9.alike hK, hD9⟩, hS.F ht9⟩) hS.2.2 dX4_torn_36
    · have h0 : x < 1 ∨ nI kb < x := by first | exact Or.inl c_7 | exact Or.inr (Int32.not_le.mp c_15)
      refine lv_iconst (v := (-1)) hx hb dX4_torn_18 (by decide) ?_
      refine lv_goto (tgt := 36) hx hb dX4_torn_19 (by decide) ?_
      have hP9 := hP.sub (ws' := [(am, .inr (5, [.int 0, .ref acs, .ref afv, .ref atr, .ref aln, .ref aps, .ref ata, .int (nI c), .int (nI f), .int (nI t), .int ed, .ref aro, .ref akc, .ref akp, .ref akm, .ref akf, .ref aku, .ref ake, .ref aiw, .int (nI kb), .int cp, .int ct, .int dn])), (aiw, .inl (cZ, 101, .inl iw))]) [0, 1] rfl
      have hD9 := hD.sub (ws' := [(am, .inr (5, [.int 0, .ref acs, .ref afv, .ref atr, .ref aln, .ref aps, .ref ata, .int (nI c), .int (nI f), .int (nI t), .int ed, .ref aro, .ref akc, .ref akp, .ref akm, .ref akf, .ref aku, .ref ake, .ref aiw, .int (nI kb), .int cp, .int ct, .int dn])), (aiw, .inl (cZ, 101, .inl iw))]) [0, 1] (by decide) rfl
      refine W.widen (k := 0) (n := 0) (Nat.le_of_ble_eq_true rfl) (Nat.le_of_ble_eq_true rfl) ?_
      exact W.iret (v := (-1)) hx hb hr (fun t9 ht9 hW9 => ⟨⟨(-1), (), rfl, by rw [if_pos h0], by rw [ht9]; exact hP9, va_K.moved hW9.alike hK, hD9⟩, hS.F ht9⟩) hS.2.2 dX4_torn_36
abbrev rm_X4_row : Room := { frames := 0, cells := 0, slots := 0, locals := 0 }
abbrev qc_X4_row (D : va_G) (cI cL cZ : ClassId) (am : Nat) (acs : Nat) (afv : Nat) (atr : Nat) (aln : Nat) (aps : Nat) (ata : Nat) (aro : Nat) (akc : Nat) (akp : Nat) (akm : Nat) (akf : Nat) (aku : Nat) (ake : Nat) (aiw : Nat) (cde : Int32) (c : Nat) (f : Nat) (t : Nat) (kb : Nat) (ed : Int32) (cp : Int32) (ct : Int32) (dn : Int32) (ro : Nat → Int64) (x : Int32) (A : Nat → Prop) : Array Value → State → Outcome → State → Prop := va_Qi (fun (r : Int32) (u : Int32) => ((if x < 0 ∨ nI t ≤ x then 0 else (ro x.toNatClampNeg >>> ((32 : Int32).toInt64 &&& 63)).toInt32) = r) ∧ ((if x < 0 ∨ nI t ≤ x then 1 else 0) = u)) (ct_B D vwCl [(cI, .int), (cL, .long), (cZ, .boolean)] A (fun (u : Int32) => [(am, .inr (5, [.int u, .ref acs, .ref afv, .ref atr, .ref aln, .ref aps, .ref ata, .int (nI c), .int (nI f), .int (nI t), .int ed, .ref aro, .ref akc, .ref akp, .ref akm, .ref akf, .ref aku, .ref ake, .ref aiw, .int (nI kb), .int cp, .int ct, .int dn])), (aro, .inl (cL, 5001, .inr (.inl ro)))])) A
set_option maxHeartbeats 4000000 in
set_option maxRecDepth 100000 in
theorem c_X4_row (l : Launch) (D : va_G) (cI cL cZ : ClassId) (am : Nat) (acs : Nat) (afv : Nat) (atr : Nat) (aln : Nat) (aps : Nat) (ata : Nat) (aro : Nat) (akc : Nat) (akp : Nat) (akm : Nat) (akf : Nat) (aku : Nat) (ake : Nat) (aiw : Nat) (cde : Int32) (c : Nat) (f : Nat) (t : Nat) (kb : Nat) (ed : Int32) (cp : Int32) (ct : Int32) (dn : Int32) (ro : Nat → Int64) (x : Int32) (sz : Nat) (ht : t ≤ 5000) : Met l yX4_row wsX4_row rm_X4_row (va_Pc [.ref am, .int x] (ct_P D vwCl [(cI, .int), (cL, .long), (cZ, .boolean)] [(am, .inr (5, [.int cde, .ref acs, .ref afv, .ref atr, .ref aln, .ref aps, .ref ata, .int (nI c), .int (nI f), .int (nI t), .int ed, .ref aro, .ref akc, .ref akp, .ref akm, .ref akf, .ref aku, .ref ake, .ref aiw, .int (nI kb), .int cp, .int ct, .int dn])), (aro, .inl (cL, 5001, .inr (.inl ro)))] sz)) (qc_X4_row D cI cL cZ am acs afv atr aln aps ata aro akc akp akm akf aku ake aiw cde c f t kb ed cp ct dn ro x (va_A [(am, .inr (5, [.int cde, .ref acs, .ref afv, .ref atr, .ref aln, .ref aps, .ref ata, .int (nI c), .int (nI f), .int (nI t), .int ed, .ref aro, .ref akc, .ref akp, .ref akm, .ref akf, .ref aku, .ref ake, .ref aiw, .int (nI kb), .int cp, .int ct, .int dn])), (aro, .inl (cL, 5001, .inr (.inl ro)))] sz)) 0 0 (va_A [(am, .inr (5, [.int cde, .ref acs, .ref afv, .ref atr, .ref aln, .ref aps, .ref ata, .int (nI c), .int (nI f), .int (nI t), .int ed, .ref aro, .ref akc, .ref akp, .ref akm, .ref akf, .ref aku, .ref ake, .ref aiw, .int (nI kb), .int cp, .int ct, .int dn])), (aro, .inl (cL, 5001, .inr (.inl ro)))] sz) := by
  refine Met.ofW (cc := cX4_row) (maxL := 2) (ret := (some .int)) (by decide) rfl ?_
  intro p e s m args below meth cd s₁ B hml hv
  obtain ⟨rfl, hsz, hP, hK, hD0⟩ := hv
  have hx := B.exec
  have hb := B.bytes
  have hr := B.returns
  have hts := atoms_spec (ws := wsX4_row) B.pre
  have iX4 : ∀ w ∈ wsX40, w ∈ wsX4_row := by decide +kernel
  have wf54 := hts (.fieldLink RX4 54 "CheckRestartModel" "code" "I") (by decide +kernel)
  have wf62 := hts (.fieldLink RX4 62 "CheckRestartModel" "units" "I") (by decide +kernel)
  have wf29 := hts (.fieldLink RX4 29 "CheckRestartModel" "rows" "[J") (by decide +kernel)
  have hown : s.vm.findClass RX4 = some m.cls := findClass_of_methodNamed B.named
  have hlocks := B.notSynchronized
  subst hsz
  have hD := hD0.self (sz := s.heap.size)
  generalize hAe : va_A [(am, .inr (5, [.int cde, .ref acs, .ref afv, .ref atr, .ref aln, .ref aps, .ref ata, .int (nI c), .int (nI f), .int (nI t), .int ed, .ref aro, .ref akc, .ref akp, .ref akm, .ref akf, .ref aku, .ref ake, .ref aiw, .int (nI kb), .int cp, .int ct, .int dn])), (aro, .inl (cL, 5001, .inr (.inl ro)))] s.heap.size = A at hD ⊢
  have hA : ∀ q : Nat, s.heap.size ≤ q → A q := fun q h => by rw [← hAe]; exact Or.inr h
  have hS : va_S A s.heap s.heap [] := va_S.rf
  have hl := lv_entry ([.ref am, .int x]) (n := 2) (Nat.le_of_ble_eq_true rfl)
  rw [lg_entry_eq]
  generalize (lg_sl ([.ref am, .int x]) ++ List.replicate (2 - (lg_sl ([.ref am, .int x])).length) Slot.unset).toArray = ls at hl ⊢
  have hl : lv_has ls 2 [(0, .ref am), (1, .int x)] := hl
  refine lv_aload_n hx hb dX4_row_0 rfl (lv_at hl 0 rfl) ?_
  refine lv_iload_n hx hb dX4_row_1 rfl (lv_at hl 1 rfl) ?_
  refine lv_if_lt (tgt := 17) hx hb dX4_row_2 (by decide) (fun c_2 => ?_) (fun c_2 => ?_)
  · have h0 : x < 0 ∨ nI t ≤ x := by first | exact Or.inl c_2 | exact Or.inr (cr_nlt c_10) | exact Or.inr c_10
    refine lv_iconst (v := 1) hx hb dX4_row_17 (by decide) ?_
    refine va_put (D := D) (ci := 5) (v := .int 1) (ty := .int) (C := RX4) (T := TX4) (N := 23) hx hb hts iX4 tyX4 tyX4_ok nmX4 hown hK hP hD hS 0 rfl rfl 0 (by decide) wf54 (fun _ h9 => h9) rfl (by decide +kernel) rfl rfl (Nat.le_of_ble_eq_true rfl) dX4_row_18 (fun H locs hP hD hS => ?_)
    have hP : va_P D vwCl [(am, .inr (5, [.int 1, .ref acs, .ref afv, .ref atr, .ref aln, .ref aps, .ref ata, .int (nI c), .int (nI f), .int (nI t), .int ed, .ref aro, .ref akc, .ref akp, .ref akm, .ref akf, .ref aku, .ref ake, .ref aiw, .int (nI kb), .int cp, .int ct, .int dn])), (aro, .inl (cL, 5001, .inr (.inl ro)))] H := hP
    have hD : va_D A [(am, .inr (5, [.int 1, .ref acs, .ref afv, .ref atr, .ref aln, .ref aps, .ref ata, .int (nI c), .int (nI f), .int (nI t), .int ed, .ref aro, .ref akc, .ref akp, .ref akm, .ref akf, .ref aku, .ref ake, .ref aiw, .int (nI kb), .int cp, .int ct, .int dn])), (aro, .inl (cL, 5001, .inr (.inl ro)))] := hD
    refine lv_aload_n hx hb dX4_row_21 rfl (lv_at hl 0 rfl) ?_
    refine va_get (D := D) (ci := 5) (v := .int 1) (C := RX4) (T := TX4) (N := 23) hx hb hts iX4 hown hK hP 0 rfl rfl 0 (by decide) wf54 (fun _ h9 => h9) rfl dX4_row_22 ?_
    refine lv_if_le (tgt := 32) hx hb dX4_row_25 (by decide) (fun c_25 => ?_) (fun c_25 => ?_)
    · exact absurd c_25 (by decide)
    · refine lv_iconst (v := 0) hx hb dX4_row_28 (by decide) ?_
      refine lv_goto (tgt := 42) hx hb dX4_row_29 (by decide) ?_
      have hP9 := hP.sub (ws' := [(am, .inr (5, [.int 1, .ref acs, .ref afv, .ref atr, .ref aln, .ref aps, .ref ata, .int (nI c), .int (nI f), .int (nI t), .int ed, .ref aro, .ref akc, .ref akp, .ref akm, .ref akf, .ref aku, .ref ake, .ref aiw, .int (nI kb), .int cp, .int ct, .int dn])), (aro, .inl (cL, 5001, .inr (.inl ro)))]) [0, 1] rfl
      have hD9 := hD.sub (ws' := [(am, .inr (5, [.int 1, .ref acs, .ref afv, .ref atr, .ref aln, .ref aps, .ref ata, .int (nI c), .int (nI f), .int (nI t), .int ed, .ref aro, .ref akc, .ref akp, .ref akm, .ref akf, .ref aku, .ref ake, .ref aiw, .int (nI kb), .int cp, .int ct, .int dn])), (aro, .inl (cL, 5001, .inr (.inl ro)))]) [0, 1] (by decide) rfl
      refine W.widen (k := 0) (n := 0) (Nat.le_of_ble_eq_true rfl) (Nat.le_of_ble_eq_true rfl) ?_
      exact W.iret (v := 0) hx hb hr (fun t9 ht9 hW9 => ⟨⟨0, (1), rfl, ⟨by rw [if_pos h0], by rw [if_pos h0]⟩, by rw [ht9]; exact hP9, va_K.moved hW9.alike hK, hD9⟩, hS.F ht9⟩) hS.2.2 dX4_row_42
  · refine lv_iload_n hx hb dX4_row_5 rfl (lv_at hl 1 rfl) ?_
    refine lv_aload_n hx hb dX4_row_6 rfl (lv_at hl 0 rfl) ?_
    refine va_get (D := D) (ci := 5) (v := .int (nI t)) (C := RX4) (T := TX4) (N := 23) hx hb hts iX4 hown hK hP 0 rfl rfl 9 (by decide) wf62 (fun _ h9 => h9) rfl dX4_row_7 ?_
    refine lv_icmp_ge (tgt := 17) hx hb dX4_row_10 (by decide) (fun c_10 => ?_) (fun c_10 => ?_)
    · have h0 : x < 0 ∨ nI t ≤ x := by first | exact Or.inl c_2 | exact Or.inr (cr_nlt c_10) | exact Or.inr c_10
      refine lv_iconst (v := 1) hx hb dX4_row_17 (by decide) ?_
      refine va_put (D := D) (ci := 5) (v := .int 1) (ty := .int) (C := RX4) (T := TX4) (N := 23) hx hb hts iX4 tyX4 tyX4_ok nmX4 hown hK hP hD hS 0 rfl rfl 0 (by decide) wf54 (fun _ h9 => h9) rfl (by decide +kernel) rfl rfl (Nat.le_of_ble_eq_true rfl) dX4_row_18 (fun H locs hP hD hS => ?_)
      have hP : va_P D vwCl [(am, .inr (5, [.int 1, .ref acs, .ref afv, .ref atr, .ref aln, .ref aps, .ref ata, .int (nI c), .int (nI f), .int (nI t), .int ed, .ref aro, .ref akc, .ref akp, .ref akm, .ref akf, .ref aku, .ref ake, .ref aiw, .int (nI kb), .int cp, .int ct, .int dn])), (aro, .inl (cL, 5001, .inr (.inl ro)))] H := hP
      have hD : va_D A [(am, .inr (5, [.int 1, .ref acs, .ref afv, .ref atr, .ref aln, .ref aps, .ref ata, .int (nI c), .int (nI f), .int (nI t), .int ed, .ref aro, .ref akc, .ref akp, .ref akm, .ref akf, .ref aku, .ref ake, .ref aiw, .int (nI kb), .int cp, .int ct, .int dn])), (aro, .inl (cL, 5001, .inr (.inl ro)))] := hD
      refine lv_aload_n hx hb dX4_row_21 rfl (lv_at hl 0 rfl) ?_
      refine va_get (D := D) (ci := 5) (v := .int 1) (C := RX4) (T := TX4) (N := 23) hx hb hts iX4 hown hK hP 0 rfl rfl 0 (by decide) wf54 (fun _ h9 => h9) rfl dX4_row_22 ?_
      refine lv_if_le (tgt := 32) hx hb dX4_row_25 (by decide) (fun c_25 => ?_) (fun c_25 => ?_)
      · exact absurd c_25 (by decide)
      · refine lv_iconst (v := 0) hx hb dX4_row_28 (by decide) ?_
        refine lv_goto (tgt := 42) hx hb dX4_row_29 (by decide) ?_
        have hP9 := hP.sub (ws' := [(am, .inr (5, [.int 1, .ref acs, .ref afv, .ref atr, .ref aln, .ref aps, .ref ata, .int (nI c), .int (nI f), .int (nI t), .int ed, .ref aro, .ref akc, .ref akp, .ref akm, .ref akf, .ref aku, .ref ake, .ref aiw, .int (nI kb), .int cp, .int ct, .int dn])), (aro, .inl (cL, 5001, .inr (.inl ro)))]) [0, 1] rfl
        have hD9 := hD.sub (ws' := [(am, .inr (5, [.int 1, .ref acs, .ref afv, .ref atr, .ref aln, .ref aps, .ref ata, .int (nI c), .int (nI f), .int (nI t), .int ed, .ref aro, .ref akc, .ref akp, .ref akm, .ref akf, .ref aku, .ref ake, .ref aiw, .int (nI kb), .int cp, .int ct, .int dn])), (aro, .inl (cL, 5001, .inr (.inl ro)))]) [0, 1] (by decide) rfl
        refine W.widen (k := 0) (n := 0) (Nat.le_of_ble_eq_true rfl) (Nat.le_of_ble_eq_true rfl) ?_
        exact W.iret (v := 0) hx hb hr (fun t9 ht9 hW9 => ⟨⟨0, (1), rfl, ⟨by rw [if_pos h0], by rw [if_pos h0]⟩, by rw [ht9]; exact hP9, va_K.moved hW9.alike hK, hD9⟩, hS.F ht9⟩) hS.2.2 dX4_row_42
    · have h0 : ¬ (x < 0 ∨ nI t ≤ x) := by first | exact fun q => q.elim c_2 (cr_lt_nle c_10) | exact fun q => q.elim c_2 c_10
      obtain ⟨k, hk, hxk⟩ := cr_ix (by omega) h0
      have hcl : x.toNatClampNeg = k := by rw [hxk, nI_clamp (by omega)]
      refine lv_iconst (v := 0) hx hb dX4_row_13 (by decide) ?_
      refine lv_goto (tgt := 18) hx hb dX4_row_14 (by decide) ?_
      refine va_put (D := D) (ci := 5) (v := .int 0) (ty := .int) (C := RX4) (T := TX4) (N := 23) hx hb hts iX4 tyX4 tyX4_ok nmX4 hown hK hP hD hS 0 rfl rfl 0 (by decide) wf54 (fun _ h9 => h9) rfl (by decide +kernel) rfl rfl (Nat.le_of_ble_eq_true rfl) dX4_row_18 (fun H locs hP hD hS => ?_)
      have hP : va_P D vwCl [(am, .inr (5, [.int 0, .ref acs, .ref afv, .ref atr, .ref aln, .ref aps, .ref ata, .int (nI c), .int (nI f), .int (nI t), .int ed, .ref aro, .ref akc, .ref akp, .ref akm, .ref akf, .ref aku, .ref ake, .ref aiw, .int (nI kb), .int cp, .int ct, .int dn])), (aro, .inl (cL, 5001, .inr (.inl ro)))] H := hP
      have hD : va_D A [(am, .inr (5, [.int 0, .ref acs, .ref afv, .ref atr, .ref aln, .ref aps, .ref ata, .int (nI c), .int (nI f), .int (nI t), .int ed, .ref aro, .ref akc, .ref akp, .ref akm, .ref akf, .ref aku, .ref ake, .ref aiw, .int (nI kb), .int cp, .int ct, .int dn])), (aro, .inl (cL, 5001, .inr (.inl ro)))] := hD
      refine lv_aload_n hx hb dX4_row_21 rfl (lv_at hl 0 rfl) ?_
      refine va_get (D := D) (ci := 5) (v := .int 0) (C := RX4) (T := TX4) (N := 23) hx hb hts iX4 hown hK hP 0 rfl rfl 0 (by decide) wf54 (fun _ h9 => h9) rfl dX4_row_22 ?_
      refine lv_if_le (tgt := 32) hx hb dX4_row_25 (by decide) (fun c_25 => ?_) (fun c_25 => ?_)
      · refine lv_aload_n hx hb dX4_row_32 rfl (lv_at hl 0 rfl) ?_
        refine va_get (D := D) (ci := 5) (v := .ref aro) (C := RX4) (T := TX4) (N := 23) hx hb hts iX4 hown hK hP 0 rfl rfl 11 (by decide) wf29 (fun _ h9 => h9) rfl dX4_row_33 ?_
        refine lv_iload_n hx hb dX4_row_36 rfl (lv_at hl 1 rfl) ?_
        refine ct_topi (y := (nI k)) (hxk) ?_
        refine ct_lald (k := k) hx hb hK hP 1 1 rfl rfl (by omega) (by decide) dX4_row_37 ?_
        refine lv_bipush (v := 32) hx hb dX4_row_38 (by decide) ?_
        refine lv_lshr hx hb dX4_row_40 rfl ?_
        refine lv_l2i hx hb dX4_row_41 rfl ?_
        have hP9 := hP.sub (ws' := [(am, .inr (5, [.int 0, .ref acs, .ref afv, .ref atr, .ref aln, .ref aps, .ref ata, .int (nI c), .int (nI f), .int (nI t), .int ed, .ref aro, .ref akc, .ref akp, .ref akm, .ref akf, .ref aku, .ref ake, .ref aiw, .int (nI kb), .int cp, .int ct, .int dn])), (aro, .inl (cL, 5001, .inr (.inl ro)))]) [0, 1] rfl
        have hD9 := hD.sub (ws' := [(am, .inr (5, [.int 0, .ref acs, .ref afv, .ref atr, .ref aln, .ref aps, .ref ata, .int (nI c), .int (nI f), .int (nI t), .int ed, .ref aro, .ref akc, .ref akp, .ref akm, .ref akf, .ref aku, .ref ake, .ref aiw, .int (nI kb), .int cp, .int ct, .int dn])), (aro, .inl (cL, 5001, .inr (.inl ro)))]) [0, 1] (by decide) rfl
        refine W.widen (k := 0) (n := 0) (Nat.le_of_ble_eq_true rfl) (Nat.le_of_ble_eq_true rfl) ?_
        exact W.iret (v := ((ro k) >>> ((32 : Int32).toInt64 &&& 63)).toInt32) hx hb hr (fun t9 ht9 hW9 => ⟨⟨((ro k) >>> ((32 : Int32).toInt64 &&& 63)).toInt32, (0), rfl, ⟨by rw [if_neg h0, hcl], by rw [if_neg h0]⟩, by rw [ht9]; exact hP9, va_K.moved hW9.alike hK, hD9⟩, hS.F ht9⟩) hS.2.2 dX4_row_42
      · exact absurd c_25 (fun h => h (by decide))
abbrev rm_X4_count : Room := { frames := 1, cells := 0, slots := 0, locals := 22 }
abbrev qc_X4_count (D : va_G) (cI cL cZ : ClassId) (am : Nat) (acs : Nat) (afv : Nat) (atr : Nat) (aln : Nat) (aps : Nat) (ata : Nat) (aro : Nat) (akc : Nat) (akp : Nat) (akm : Nat) (akf : Nat) (aku : Nat) (ake : Nat) (aiw : Nat) (cde : Int32) (c : Nat) (f : Nat) (t : Nat) (kb : Nat) (ed : Int32) (cp : Int32) (ct : Int32) (dn : Int32) (ps : Nat → Int32) (ln : Nat → Int32) (x : Int32) (A : Nat → Prop) : Array Value → State → Outcome → State → Prop := va_Qi (fun (r : Int32) (u : Unit) => (if x = 0 then nI c else if x = 1 then nI f else if x = 2 then nI t else if x = 3 then nI kb else if x = 4 then (if dn = 0 then 0 else 1) else if x = 5 then (if ie_r f ps ln = 0 then 0 else 1) else if x = 6 then ct else -1) = r) (ct_B D vwCl [(cI, .int), (cL, .long), (cZ, .boolean)] A (fun (u : Unit) => [(am, .inr (5, [.int 0, .ref acs, .ref afv, .ref atr, .ref aln, .ref aps, .ref ata, .int (nI c), .int (nI f), .int (nI t), .int ed, .ref aro, .ref akc, .ref akp, .ref akm, .ref akf, .ref aku, .ref ake, .ref aiw, .int (nI kb), .int cp, .int ct, .int dn])), (aps, .inl (cI, 6, .inl ps)), (aln, .inl (cI, 6, .inl ln))])) A
set_option maxHeartbeats 4000000 in
set_option maxRecDepth 100000 in
theorem c_X4_count (l : Launch) (D : va_G) (cI cL cZ : ClassId) (am : Nat) (acs : Nat) (afv : Nat) (atr : Nat) (aln : Nat) (aps : Nat) (ata : Nat) (aro : Nat) (akc : Nat) (akp : Nat) (akm : Nat) (akf : Nat) (aku : Nat) (ake : Nat) (aiw : Nat) (cde : Int32) (c : Nat) (f : Nat) (t : Nat) (kb : Nat) (ed : Int32) (cp : Int32) (ct : Int32) (dn : Int32) (ps : Nat → Int32) (ln : Nat → Int32) (x : Int32) (sz : Nat) (hf : f ≤ 6) : Met l yX4_count wsX4_count rm_X4_count (va_Pc [.ref am, .int x] (ct_P D vwCl [(cI, .int), (cL, .long), (cZ, .boolean)] [(am, .inr (5, [.int cde, .ref acs, .ref afv, .ref atr, .ref aln, .ref aps, .ref ata, .int (nI c), .int (nI f), .int (nI t), .int ed, .ref aro, .ref akc, .ref akp, .ref akm, .ref akf, .ref aku, .ref ake, .ref aiw, .int (nI kb), .int cp, .int ct, .int dn])), (aps, .inl (cI, 6, .inl ps)), (aln, .inl (cI, 6, .inl ln))] sz)) (qc_X4_count D cI cL cZ am acs afv atr aln aps ata aro akc akp akm akf aku ake aiw cde c f t kb ed cp ct dn ps ln x (va_A [(am, .inr (5, [.int cde, .ref acs, .ref afv, .ref atr, .ref aln, .ref aps, .ref ata, .int (nI c), .int (nI f), .int (nI t), .int ed, .ref aro, .ref akc, .ref akp, .ref akm, .ref akf, .ref aku, .ref ake, .ref aiw, .int (nI kb), .int cp, .int ct, .int dn])), (aps, .inl (cI, 6, .inl ps)), (aln, .inl (cI, 6, .inl ln))] sz)) 0 0 (va_A [(am, .inr (5, [.int cde, .ref acs, .ref afv, .ref atr, .ref aln, .ref aps, .ref ata, .int (nI c), .int (nI f), .int (nI t), .int ed, .ref aro, .ref akc, .ref akp, .ref akm, .ref akf, .ref aku, .ref ake, .ref aiw, .int (nI kb), .int cp, .int ct, .int dn])), (aps, .inl (cI, 6, .inl ps)), (aln, .inl (cI, 6, .inl ln))] sz) := by
  refine Met.ofW (cc := cX4_count) (maxL := 2) (ret := (some .int)) (by decide) rfl ?_
  intro p e s m args below meth cd s₁ B hml hv
  obtain ⟨rfl, hsz, hP, hK, hD0⟩ := hv
  have hx := B.exec
  have hb := B.bytes
  have hr := B.returns
  have hts := atoms_spec (ws := wsX4_count) B.pre
  have iX4 : ∀ w ∈ wsX40, w ∈ wsX4_count := by decide +kernel
  have wf54 := hts (.fieldLink RX4 54 "CheckRestartModel" "code" "I") (by decide +kernel)
  have wf65 := hts (.fieldLink RX4 65 "CheckRestartModel" "many" "I") (by decide +kernel)
  have wf68 := hts (.fieldLink RX4 68 "CheckRestartModel" "files" "I") (by decide +kernel)
  have wf62 := hts (.fieldLink RX4 62 "CheckRestartModel" "units" "I") (by decide +kernel)
  have wf77 := hts (.fieldLink RX4 77 "CheckRestartModel" "checks" "I") (by decide +kernel)
  have wf58 := hts (.fieldLink RX4 58 "CheckRestartModel" "down" "Z") (by decide +kernel)
  have wf83 := hts (.fieldLink RX4 83 "CheckRestartModel" "cuts" "I") (by decide +kernel)
  have hown : s.vm.findClass RX4 = some m.cls := findClass_of_methodNamed B.named
  have hlocks := B.notSynchronized
  subst hsz
  have hD := hD0.self (sz := s.heap.size)
  generalize hAe : va_A [(am, .inr (5, [.int cde, .ref acs, .ref afv, .ref atr, .ref aln, .ref aps, .ref ata, .int (nI c), .int (nI f), .int (nI t), .int ed, .ref aro, .ref akc, .ref akp, .ref akm, .ref akf, .ref aku, .ref ake, .ref aiw, .int (nI kb), .int cp, .int ct, .int dn])), (aps, .inl (cI, 6, .inl ps)), (aln, .inl (cI, 6, .inl ln))] s.heap.size = A at hD ⊢
  have hA : ∀ q : Nat, s.heap.size ≤ q → A q := fun q h => by rw [← hAe]; exact Or.inr h
  have hS : va_S A s.heap s.heap [] := va_S.rf
  have hl := lv_entry ([.ref am, .int x]) (n := 2) (Nat.le_of_ble_eq_true rfl)
  rw [lg_entry_eq]
  generalize (lg_sl ([.ref am, .int x]) ++ List.replicate (2 - (lg_sl ([.ref am, .int x])).length) Slot.unset).toArray = ls at hl ⊢
  have hl : lv_has ls 2 [(0, .ref am), (1, .int x)] := hl
  refine lv_aload_n hx hb dX4_count_0 rfl (lv_at hl 0 rfl) ?_
  refine lv_iconst (v := 0) hx hb dX4_count_1 (by decide) ?_
  refine va_put (D := D) (ci := 5) (v := .int 0) (ty := .int) (C := RX4) (T := TX4) (N := 23) hx hb hts iX4 tyX4 tyX4_ok nmX4 hown hK hP hD hS 0 rfl rfl 0 (by decide) wf54 (fun _ h9 => h9) rfl (by decide +kernel) rfl rfl (Nat.le_of_ble_eq_true rfl) dX4_count_2 (fun H locs hP hD hS => ?_)
  have hP : va_P D vwCl [(am, .inr (5, [.int 0, .ref acs, .ref afv, .ref atr, .ref aln, .ref aps, .ref ata, .int (nI c), .int (nI f), .int (nI t), .int ed, .ref aro, .ref akc, .ref akp, .ref akm, .ref akf, .ref aku, .ref ake, .ref aiw, .int (nI kb), .int cp, .int ct, .int dn])), (aps, .inl (cI, 6, .inl ps)), (aln, .inl (cI, 6, .inl ln))] H := hP
  have hD : va_D A [(am, .inr (5, [.int 0, .ref acs, .ref afv, .ref atr, .ref aln, .ref aps, .ref ata, .int (nI c), .int (nI f), .int (nI t), .int ed, .ref aro, .ref akc, .ref akp, .ref akm, .ref akf, .ref aku, .ref ake, .ref aiw, .int (nI kb), .int cp, .int ct, .int dn])), (aps, .inl (cI, 6, .inl ps)), (aln, .inl (cI, 6, .inl ln))] := hD
  refine lv_iload_n hx hb dX4_count_5 rfl (lv_at hl 1 rfl) ?_
  by_cases sw_0 : x = 0
  · subst sw_0
    refine lv_tableIn (tgt := 48) hx hb dX4_count_6 (by decide) (by decide) rfl (by decide) ?_
    refine lv_aload_n hx hb dX4_count_48 rfl (lv_at hl 0 rfl) ?_
    refine va_get (D := D) (ci := 5) (v := .int (nI c)) (C := RX4) (T := TX4) (N := 23) hx hb hts iX4 hown hK hP 0 rfl rfl 7 (by decide) wf65 (fun _ h9 => h9) rfl dX4_count_49 ?_
    have hP9 := hP.sub (ws' := [(am, .inr (5, [.int 0, .ref acs, .ref afv, .ref atr, .ref aln, .ref aps, .ref ata, .int (nI c), .int (nI f), .int (nI t), .int ed, .ref aro, .ref akc, .ref akp, .ref akm, .ref akf, .ref aku, .ref ake, .ref aiw, .int (nI kb), .int cp, .int ct, .int dn])), (aps, .inl (cI, 6, .inl ps)), (aln, .inl (cI, 6, .inl ln))]) [0, 1, 2] rfl
    have hD9 := hD.sub (ws' := [(am, .inr (5, [.int 0, .ref acs, .ref afv, .ref atr, .ref aln, .ref aps, .ref ata, .int (nI c), .int (nI f), .int (nI t), .int ed, .ref aro, .ref akc, .ref akp, .ref akm, .ref akf, .ref aku, .ref ake, .ref aiw, .int (nI kb), .int cp, .int ct, .int dn])), (aps, .inl (cI, 6, .inl ps)), (aln, .inl (cI, 6, .inl ln))]) [0, 1, 2] (by decide) rfl
    refine W.widen (k := 0) (n := 0) (Nat.le_of_ble_eq_true rfl) (Nat.le_of_ble_eq_true rfl) ?_
    exact W.iret (v := (nI c)) hx hb hr (fun t9 ht9 hW9 => ⟨⟨(nI c), (), rfl, rfl, by rw [ht9]; exact hP9, va_K.moved hW9.alike hK, hD9⟩, hS.F ht9⟩) hS.2.2 dX4_count_52
  by_cases sw_1 : x = 1
  · subst sw_1
    refine lv_tableIn (tgt := 53) hx hb dX4_count_6 (by decide) (by decide) rfl (by decide) ?_
    refine lv_aload_n hx hb dX4_count_53 rfl (lv_at hl 0 rfl) ?_
    refine va_get (D := D) (ci := 5) (v := .int (nI f)) (C := RX4) (T := TX4) (N := 23) hx hb hts iX4 hown hK hP 0 rfl rfl 8 (by decide) wf68 (fun _ h9 => h9) rfl dX4_count_54 ?_
    have hP9 := hP.sub (ws' := [(am, .inr (5, [.int 0, .ref acs, .ref afv, .ref atr, .ref aln, .ref aps, .ref ata, .int (nI c), .int (nI f), .int (nI t), .int ed, .ref aro, .ref akc, .ref akp, .ref akm, .ref akf, .ref aku, .ref ake, .ref aiw, .int (nI kb), .int cp, .int ct, .int dn])), (aps, .inl (cI, 6, .inl ps)), (aln, .inl (cI, 6, .inl ln))]) [0, 1, 2] rfl
    have hD9 := hD.sub (ws' := [(am, .inr (5, [.int 0, .ref acs, .ref afv, .ref atr, .ref aln, .ref aps, .ref ata, .int (nI c), .int (nI f), .int (nI t), .int ed, .ref aro, .ref akc, .ref akp, .ref akm, .ref akf, .ref aku, .ref ake, .ref aiw, .int (nI kb), .int cp, .int ct, .int dn])), (aps, .inl (cI, 6, .inl ps)), (aln, .inl (cI, 6, .inl ln))]) [0, 1, 2] (by decide) rfl
    refine W.widen (k := 0) (n := 0) (Nat.le_of_ble_eq_true rfl) (Nat.le_of_ble_eq_true rfl) ?_
    exact W.iret (v := (nI f)) hx hb hr (fun t9 ht9 hW9 => ⟨⟨(nI f), (), rfl, rfl, by rw [ht9]; exact hP9, va_K.moved hW9.alike hK, hD9⟩, hS.F ht9⟩) hS.2.2 dX4_count_57
  by_cases sw_2 : x = 2
  · subst sw_2
    refine lv_tableIn (tgt := 58) hx hb dX4_count_6 (by decide) (by decide) rfl (by decide) ?_
    refine lv_aload_n hx hb dX4_count_58 rfl (lv_at hl 0 rfl) ?_
    refine va_get (D := D) (ci := 5) (v := .int (nI t)) (C := RX4) (T := TX4) (N := 23) hx hb hts iX4 hown hK hP 0 rfl rfl 9 (by decide) wf62 (fun _ h9 => h9) rfl dX4_count_59 ?_
    have hP9 := hP.sub (ws' := [(am, .inr (5, [.int 0, .ref acs, .ref afv, .ref atr, .ref aln, .ref aps, .ref ata, .int (nI c), .int (nI f), .int (nI t), .int ed, .ref aro, .ref akc, .ref akp, .ref akm, .ref akf, .ref aku, .ref ake, .ref aiw, .int (nI kb), .int cp, .int ct, .int dn])), (aps, .inl (cI, 6, .inl ps)), (aln, .inl (cI, 6, .inl ln))]) [0, 1, 2] rfl
    have hD9 := hD.sub (ws' := [(am, .inr (5, [.int 0, .ref acs, .ref afv, .ref atr, .ref aln, .ref aps, .ref ata, .int (nI c), .int (nI f), .int (nI t), .int ed, .ref aro, .ref akc, .ref akp, .ref akm, .ref akf, .ref aku, .ref ake, .ref aiw, .int (nI kb), .int cp, .int ct, .int dn])), (aps, .inl (cI, 6, .inl ps)), (aln, .inl (cI, 6, .inl ln))]) [0, 1, 2] (by decide) rfl
    refine W.widen (k := 0) (n := 0) (Nat.le_of_ble_eq_true rfl) (Nat.le_of_ble_eq_true rfl) ?_
    exact W.iret (v := (nI t)) hx hb hr (fun t9 ht9 hW9 => ⟨⟨(nI t), (), rfl, rfl, by rw [ht9]; exact hP9, va_K.moved hW9.alike hK, hD9⟩, hS.F ht9⟩) hS.2.2 dX4_count_62
  by_cases sw_3 : x = 3
  · subst sw_3
    refine lv_tableIn (tgt := 63) hx hb dX4_count_6 (by decide) (by decide) rfl (by decide) ?_
    refine lv_aload_n hx hb dX4_count_63 rfl (lv_at hl 0 rfl) ?_
    refine va_get (D := D) (ci := 5) (v := .int (nI kb)) (C := RX4) (T := TX4) (N := 23) hx hb hts iX4 hown hK hP 0 rfl rfl 19 (by decide) wf77 (fun _ h9 => h9) rfl dX4_count_64 ?_
    have hP9 := hP.sub (ws' := [(am, .inr (5, [.int 0, .ref acs, .ref afv, .ref atr, .ref aln, .ref aps, .ref ata, .int (nI c), .int (nI f), .int (nI t), .int ed, .ref aro, .ref akc, .ref akp, .ref akm, .ref akf, .ref aku, .ref ake, .ref aiw, .int (nI kb), .int cp, .int ct, .int dn])), (aps, .inl (cI, 6, .inl ps)), (aln, .inl (cI, 6, .inl ln))]) [0, 1, 2] rfl
    have hD9 := hD.sub (ws' := [(am, .inr (5, [.int 0, .ref acs, .ref afv, .ref atr, .ref aln, .ref aps, .ref ata, .int (nI c), .int (nI f), .int (nI t), .int ed, .ref aro, .ref akc, .ref akp, .ref akm, .ref akf, .ref aku, .ref ake, .ref aiw, .int (nI kb), .int cp, .int ct, .int dn])), (aps, .inl (cI, 6, .inl ps)), (aln, .inl (cI, 6, .inl ln))]) [0, 1, 2] (by decide) rfl
    refine W.widen (k := 0) (n := 0) (Nat.le_of_ble_eq_true rfl) (Nat.le_of_ble_eq_true rfl) ?_
    exact W.iret (v := (nI kb)) hx hb hr (fun t9 ht9 hW9 => ⟨⟨(nI kb), (), rfl, rfl, by rw [ht9]; exact hP9, va_K.moved hW9.alike hK, hD9⟩, hS.F ht9⟩) hS.2.2 dX4_count_67
  by_cases sw_4 : x = 4
  · subst sw_4
    refine lv_tableIn (tgt := 68) hx hb dX4_count_6 (by decide) (by decide) rfl (by decide) ?_
    refine lv_aload_n hx hb dX4_count_68 rfl (lv_at hl 0 rfl) ?_
    refine va_get (D := D) (ci := 5) (v := .int dn) (C := RX4) (T := TX4) (N := 23) hx hb hts iX4 hown hK hP 0 rfl rfl 22 (by decide) wf58 (fun _ h9 => h9) rfl dX4_count_69 ?_
    refine lv_if_eq (tgt := 79) hx hb dX4_count_72 (by decide) (fun c_72 => ?_) (fun c_72 => ?_)
    · refine lv_iconst (v := 0) hx hb dX4_count_79 (by decide) ?_
      have hP9 := hP.sub (ws' := [(am, .inr (5, [.int 0, .ref acs, .ref afv, .ref atr, .ref aln, .ref aps, .ref ata, .int (nI c), .int (nI f), .int (nI t), .int ed, .ref aro, .ref akc, .ref akp, .ref akm, .ref akf, .ref aku, .ref ake, .ref aiw, .int (nI kb), .int cp, .int ct, .int dn])), (aps, .inl (cI, 6, .inl ps)), (aln, .inl (cI, 6, .inl ln))]) [0, 1, 2] rfl
      have hD9 := hD.sub (ws' := [(am, .inr (5, [.int 0, .ref acs, .ref afv, .ref atr, .ref aln, .ref aps, .ref ata, .int (nI c), .int (nI f), .int (nI t), .int ed, .ref aro, .ref akc, .ref akp, .ref akm, .ref akf, .ref aku, .ref ake, .ref aiw, .int (nI kb), .int cp, .int ct, .int dn])), (aps, .inl (cI, 6, .inl ps)), (aln, .inl (cI, 6, .inl ln))]) [0, 1, 2] (by decide) rfl
      refine W.widen (k := 0) (n := 0) (Nat.le_of_ble_eq_true rfl) (Nat.le_of_ble_eq_true rfl) ?_
      exact W.iret (v := 0) hx hb hr (fun t9 ht9 hW9 => ⟨⟨0, (), rfl, by simp [c_72], by rw [ht9]; exact hP9, va_K.moved hW9.alike hK, hD9⟩, hS.F ht9⟩) hS.2.2 dX4_count_80
    · refine lv_iconst (v := 1) hx hb dX4_count_75 (by decide) ?_
      refine lv_goto (tgt := 80) hx hb dX4_count_76 (by decide) ?_
      have hP9 := hP.sub (ws' := [(am, .inr (5, [.int 0, .ref acs, .ref afv, .ref atr, .ref aln, .ref aps, .ref ata, .int (nI c), .int (nI f), .int (nI t), .int ed, .ref aro, .ref akc, .ref akp, .ref akm, .ref akf, .ref aku, .ref ake, .ref aiw, .int (nI kb), .int cp, .int ct, .int dn])), (aps, .inl (cI, 6, .inl ps)), (aln, .inl (cI, 6, .inl ln))]) [0, 1, 2] rfl
      have hD9 := hD.sub (ws' := [(am, .inr (5, [.int 0, .ref acs, .ref afv, .ref atr, .ref aln, .ref aps, .ref ata, .int (nI c), .int (nI f), .int (nI t), .int ed, .ref aro, .ref akc, .ref akp, .ref akm, .ref akf, .ref aku, .ref ake, .ref aiw, .int (nI kb), .int cp, .int ct, .int dn])), (aps, .inl (cI, 6, .inl ps)), (aln, .inl (cI, 6, .inl ln))]) [0, 1, 2] (by decide) rfl
      refine W.widen (k := 0) (n := 0) (Nat.le_of_ble_eq_true rfl) (Nat.le_of_ble_eq_true rfl) ?_
      exact W.iret (v := 1) hx hb hr (fun t9 ht9 hW9 => ⟨⟨1, (), rfl, by simp [c_72], by rw [ht9]; exact hP9, va_K.moved hW9.alike hK, hD9⟩, hS.F ht9⟩) hS.2.2 dX4_count_80
  by_cases sw_5 : x = 5
  · subst sw_5
    refine lv_tableIn (tgt := 81) hx hb dX4_count_6 (by decide) (by decide) rfl (by decide) ?_
    refine lv_aload_n hx hb dX4_count_81 rfl (lv_at hl 0 rfl) ?_
    refine ct_calli (wr := []) (rest := []) hP hD hS hA [0, 1, 2] [] (va_runV (C := RX4) (As := []) ⟨hx, hb, hml, hown, hts⟩ (c_X4_isEnded l D cI cL cZ am acs afv atr aln aps ata aro akc akp akm akf aku ake aiw 0 c f t kb ed cp ct dn ps ln _ (by omega)) (cwV 0 hts gX4_count_X4_isEnded rfl rfl rfl (by decide +kernel) ⟨Nat.le_of_ble_eq_true rfl, Nat.le_of_ble_eq_true rfl⟩) (ct_preV (q0 := 0) (ci := 5) hK hP hD [0, 1, 2] (by decide) rfl rfl rfl rfl rfl) rfl rfl hl.1 rfl (lv_room (Nat.le_of_ble_eq_true rfl)) dX4_count_82 ⟨Nat.le_of_ble_eq_true rfl, Nat.le_of_ble_eq_true rfl⟩) rfl rfl (by decide) (by decide) (fun r_1 u H locs hw hP hD hS => ?_)
    try dsimp only at hw
    obtain rfl := hw
    have hP : va_P D vwCl [(am, .inr (5, [.int 0, .ref acs, .ref afv, .ref atr, .ref aln, .ref aps, .ref ata, .int (nI c), .int (nI f), .int (nI t), .int ed, .ref aro, .ref akc, .ref akp, .ref akm, .ref akf, .ref aku, .ref ake, .ref aiw, .int (nI kb), .int cp, .int ct, .int dn])), (aps, .inl (cI, 6, .inl ps)), (aln, .inl (cI, 6, .inl ln))] H := hP
    have hD : va_D A [(am, .inr (5, [.int 0, .ref acs, .ref afv, .ref atr, .ref aln, .ref aps, .ref ata, .int (nI c), .int (nI f), .int (nI t), .int ed, .ref aro, .ref akc, .ref akp, .ref akm, .ref akf, .ref aku, .ref ake, .ref aiw, .int (nI kb), .int cp, .int ct, .int dn])), (aps, .inl (cI, 6, .inl ps)), (aln, .inl (cI, 6, .inl ln))] := hD
    refine lv_if_eq (tgt := 92) hx hb dX4_count_85 (by decide) (fun c_85 => ?_) (fun c_85 => ?_)
    · refine lv_iconst (v := 0) hx hb dX4_count_92 (by decide) ?_
      have hP9 := hP.sub (ws' := [(am, .inr (5, [.int 0, .ref acs, .ref afv, .ref atr, .ref aln, .ref aps, .ref ata, .int (nI c), .int (nI f), .int (nI t), .int ed, .ref aro, .ref akc, .ref akp, .ref akm, .ref akf, .ref aku, .ref ake, .ref aiw, .int (nI kb), .int cp, .int ct, .int dn])), (aps, .inl (cI, 6, .inl ps)), (aln, .inl (cI, 6, .inl ln))]) [0, 1, 2] rfl
      have hD9 := hD.sub (ws' := [(am, .inr (5, [.int 0, .ref acs, .ref afv, .ref atr, .ref aln, .ref aps, .ref ata, .int (nI c), .int (nI f), .int (nI t), .int ed, .ref aro, .ref akc, .ref akp, .ref akm, .ref akf, .ref aku, .ref ake, .ref aiw, .int (nI kb), .int cp, .int ct, .int dn])), (aps, .inl (cI, 6, .inl ps)), (aln, .inl (cI, 6, .inl ln))]) [0, 1, 2] (by decide) rfl
      refine W.widen (k := 0) (n := 0) (Nat.le_of_ble_eq_true rfl) (Nat.le_of_ble_eq_true rfl) ?_
      exact W.iret (v := 0) hx hb hr (fun t9 ht9 hW9 => ⟨⟨0, (), rfl, by simp [c_85], by rw [ht9]; exact hP9, va_K.moved hW9.alike hK, hD9⟩, hS.F ht9⟩) hS.2.2 dX4_count_93
    · refine lv_iconst (v := 1) hx hb dX4_count_88 (by decide) ?_
      refine lv_goto (tgt := 93) hx hb dX4_count_89 (by decide) ?_
      have hP9 := hP.sub (ws' := [(am, .inr (5, [.int 0, .ref acs, .ref afv, .ref atr, .ref aln, .ref aps, .ref ata, .int (nI c), .int (nI f), .int (nI t), .int ed, .ref aro, .ref akc, .ref akp, .ref akm, .ref akf, .ref aku, .ref ake, .ref aiw, .int (nI kb), .int cp, .int ct, .int dn])), (aps, .inl (cI, 6, .inl ps)), (aln, .inl (cI, 6, .inl ln))]) [0, 1, 2] rfl
      have hD9 := hD.sub (ws' := [(am, .inr (5, [.int 0, .ref acs, .ref afv, .ref atr, .ref aln, .ref aps, .ref ata, .int (nI c), .int (nI f), .int (nI t), .int ed, .ref aro, .ref akc, .ref akp, .ref akm, .ref akf, .ref aku, .ref ake, .ref aiw, .int (nI kb), .int cp, .int ct, .int dn])), (aps, .inl (cI, 6, .inl ps)), (aln, .inl (cI, 6, .inl ln))]) [0, 1, 2] (by decide) rfl
      refine W.widen (k := 0) (n := 0) (Nat.le_of_ble_eq_true rfl) (Nat.le_of_ble_eq_true rfl) ?_
      exact W.iret (v := 1) hx hb hr (fun t9 ht9 hW9 => ⟨⟨1, (), rfl, by simp [c_85], by rw [ht9]; exact hP9, va_K.moved hW9.alike hK, hD9⟩, hS.F ht9⟩) hS.2.2 dX4_count_93
  by_cases sw_6 : x = 6
  · subst sw_6
    refine lv_tableIn (tgt := 94) hx hb dX4_count_6 (by decide) (by decide) rfl (by decide) ?_
    refine lv_aload_n hx hb dX4_count_94 rfl (lv_at hl 0 rfl) ?_
    refine va_get (D := D) (ci := 5) (v := .int ct) (C := RX4) (T := TX4) (N := 23) hx hb hts iX4 hown hK hP 0 rfl rfl 21 (by decide) wf83 (fun _ h9 => h9) rfl dX4_count_95 ?_
    have hP9 := hP.sub (ws' := [(am, .inr (5, [.int 0, .ref acs, .ref afv, .ref atr, .ref aln, .ref aps, .ref ata, .int (nI c), .int (nI f), .int (nI t), .int ed, .ref aro, .ref akc, .ref akp, .ref akm, .ref akf, .ref aku, .ref ake, .ref aiw, .int (nI kb), .int cp, .int ct, .int dn])), (aps, .inl (cI, 6, .inl ps)), (aln, .inl (cI, 6, .inl ln))]) [0, 1, 2] rfl
    have hD9 := hD.sub (ws' := [(am, .inr (5, [.int 0, .ref acs, .ref afv, .ref atr, .ref aln, .ref aps, .ref ata, .int (nI c), .int (nI f), .int (nI t), .int ed, .ref aro, .ref akc, .ref akp, .ref akm, .ref akf, .ref aku, .ref ake, .ref aiw, .int (nI kb), .int cp, .int ct, .int dn])), (aps, .inl (cI, 6, .inl ps)), (aln, .inl (cI, 6, .inl ln))]) [0, 1, 2] (by decide) rfl
    refine W.widen (k := 0) (n := 0) (Nat.le_of_ble_eq_true rfl) (Nat.le_of_ble_eq_true rfl) ?_
    exact W.iret (v := ct) hx hb hr (fun t9 ht9 hW9 => ⟨⟨ct, (), rfl, rfl, by rw [ht9]; exact hP9, va_K.moved hW9.alike hK, hD9⟩, hS.F ht9⟩) hS.2.2 dX4_count_98
  have st_0 := lv_neT sw_0 (a := 0) rfl
  have st_1 := lv_neT sw_1 (a := 1) rfl
  have st_2 := lv_neT sw_2 (a := 2) rfl
  have st_3 := lv_neT sw_3 (a := 3) rfl
  have st_4 := lv_neT sw_4 (a := 4) rfl
  have st_5 := lv_neT sw_5 (a := 5) rfl
  have st_6 := lv_neT sw_6 (a := 6) rfl
  refine lv_tableOut (tgt := 99) hx hb dX4_count_6 (by omega) (by decide) ?_
  refine lv_iconst (v := (-1)) hx hb dX4_count_99 (by decide) ?_
  have hP9 := hP.sub (ws' := [(am, .inr (5, [.int 0, .ref acs, .ref afv, .ref atr, .ref aln, .ref aps, .ref ata, .int (nI c), .int (nI f), .int (nI t), .int ed, .ref aro, .ref akc, .ref akp, .ref akm, .ref akf, .ref aku, .ref ake, .ref aiw, .int (nI kb), .int cp, .int ct, .int dn])), (aps, .inl (cI, 6, .inl ps)), (aln, .inl (cI, 6, .inl ln))]) [0, 1, 2] rfl
  have hD9 := hD.sub (ws' := [(am, .inr (5, [.int 0, .ref acs, .ref afv, .ref atr, .ref aln, .ref aps, .ref ata, .int (nI c), .int (nI f), .int (nI t), .int ed, .ref aro, .ref akc, .ref akp, .ref akm, .ref akf, .ref aku, .ref ake, .ref aiw, .int (nI kb), .int cp, .int ct, .int dn])), (aps, .inl (cI, 6, .inl ps)), (aln, .inl (cI, 6, .inl ln))]) [0, 1, 2] (by decide) rfl
  refine W.widen (k := 0) (n := 0) (Nat.le_of_ble_eq_true rfl) (Nat.le_of_ble_eq_true rfl) ?_
  exact W.iret (v := (-1)) hx hb hr (fun t9 ht9 hW9 => ⟨⟨(-1), (), rfl, by simp [sw_0, sw_1, sw_2, sw_3, sw_4, sw_5, sw_6], by rw [ht9]; exact hP9, va_K.moved hW9.alike hK, hD9⟩, hS.F ht9⟩) hS.2.2 dX4_count_100
