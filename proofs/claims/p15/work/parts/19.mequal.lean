abbrev rm_X4_equal : Room := { frames := 1, cells := 0, slots := 0, locals := 22 }
abbrev qc_X4_equal (D : va_G) (cI cL cZ : ClassId) (am : Nat) (acs : Nat) (afv : Nat) (atr : Nat) (aln : Nat) (aps : Nat) (ata : Nat) (aro : Nat) (akc : Nat) (akp : Nat) (akm : Nat) (akf : Nat) (aku : Nat) (ake : Nat) (aiw : Nat) (cde : Int32) (c : Nat) (f : Nat) (t : Nat) (kb : Nat) (ed : Int32) (cp : Int32) (ct : Int32) (dn : Int32) (cs : Nat → Int64) (fv : Nat → Int64) (tr : Nat → Int64) (ln : Nat → Int32) (ta : Nat → Int32) (ro : Nat → Int64) (A : Nat → Prop) : Array Value → State → Outcome → State → Prop := va_Qi (fun (r : Int32) (u : (Nat → Int64) × (Nat → Int32)) => (em c f ln ro cs t 0 (so_c tr fv c) (so_p ta f) 1) = r) (ct_B D vwCl [(cI, .int), (cL, .long), (cZ, .boolean)] A (fun (u : (Nat → Int64) × (Nat → Int32)) => [(am, .inr (5, [.int 0, .ref acs, .ref afv, .ref atr, .ref aln, .ref aps, .ref ata, .int (nI c), .int (nI f), .int (nI t), .int ed, .ref aro, .ref akc, .ref akp, .ref akm, .ref akf, .ref aku, .ref ake, .ref aiw, .int (nI kb), .int cp, .int ct, .int dn])), (acs, .inl (cL, 12, .inr (.inl cs))), (afv, .inl (cL, 12, .inr (.inl fv))), (atr, .inl (cL, 12, .inr (.inl u.1))), (aln, .inl (cI, 6, .inl ln)), (ata, .inl (cI, 6, .inl u.2)), (aro, .inl (cL, 5001, .inr (.inl ro)))])) A
set_option maxHeartbeats 4000000 in
set_option maxRecDepth 100000 in
theorem c_X4_equal (l : Launch) (D : va_G) (cI cL cZ : ClassId) (am : Nat) (acs : Nat) (afv : Nat) (atr : Nat) (aln : Nat) (aps : Nat) (ata : Nat) (aro : Nat) (akc : Nat) (akp : Nat) (akm : Nat) (akf : Nat) (aku : Nat) (ake : Nat) (aiw : Nat) (cde : Int32) (c : Nat) (f : Nat) (t : Nat) (kb : Nat) (ed : Int32) (cp : Int32) (ct : Int32) (dn : Int32) (cs : Nat → Int64) (fv : Nat → Int64) (tr : Nat → Int64) (ln : Nat → Int32) (ta : Nat → Int32) (ro : Nat → Int64) (sz : Nat) (hc : c ≤ 12) (hf : f ≤ 6) (ht : t ≤ 5000) : Met l yX4_equal wsX4_equal rm_X4_equal (va_Pc [.ref am] (ct_P D vwCl [(cI, .int), (cL, .long), (cZ, .boolean)] [(am, .inr (5, [.int cde, .ref acs, .ref afv, .ref atr, .ref aln, .ref aps, .ref ata, .int (nI c), .int (nI f), .int (nI t), .int ed, .ref aro, .ref akc, .ref akp, .ref akm, .ref akf, .ref aku, .ref ake, .ref aiw, .int (nI kb), .int cp, .int ct, .int dn])), (acs, .inl (cL, 12, .inr (.inl cs))), (afv, .inl (cL, 12, .inr (.inl fv))), (atr, .inl (cL, 12, .inr (.inl tr))), (aln, .inl (cI, 6, .inl ln)), (ata, .inl (cI, 6, .inl ta)), (aro, .inl (cL, 5001, .inr (.inl ro)))] sz)) (qc_X4_equal D cI cL cZ am acs afv atr aln aps ata aro akc akp akm akf aku ake aiw cde c f t kb ed cp ct dn cs fv tr ln ta ro (va_A [(am, .inr (5, [.int cde, .ref acs, .ref afv, .ref atr, .ref aln, .ref aps, .ref ata, .int (nI c), .int (nI f), .int (nI t), .int ed, .ref aro, .ref akc, .ref akp, .ref akm, .ref akf, .ref aku, .ref ake, .ref aiw, .int (nI kb), .int cp, .int ct, .int dn])), (acs, .inl (cL, 12, .inr (.inl cs))), (afv, .inl (cL, 12, .inr (.inl fv))), (atr, .inl (cL, 12, .inr (.inl tr))), (aln, .inl (cI, 6, .inl ln)), (ata, .inl (cI, 6, .inl ta)), (aro, .inl (cL, 5001, .inr (.inl ro)))] sz)) 0 0 (va_A [(am, .inr (5, [.int cde, .ref acs, .ref afv, .ref atr, .ref aln, .ref aps, .ref ata, .int (nI c), .int (nI f), .int (nI t), .int ed, .ref aro, .ref akc, .ref akp, .ref akm, .ref akf, .ref aku, .ref ake, .ref aiw, .int (nI kb), .int cp, .int ct, .int dn])), (acs, .inl (cL, 12, .inr (.inl cs))), (afv, .inl (cL, 12, .inr (.inl fv))), (atr, .inl (cL, 12, .inr (.inl tr))), (aln, .inl (cI, 6, .inl ln)), (ata, .inl (cI, 6, .inl ta)), (aro, .inl (cL, 5001, .inr (.inl ro)))] sz) := by
  refine Met.ofW (cc := cX4_equal) (maxL := 8) (ret := (some .boolean)) (by decide) rfl ?_
  intro p e s m args below meth cd s₁ B hml hv
  obtain ⟨rfl, hsz, hP, hK, hD0⟩ := hv
  have hx := B.exec
  have hb := B.bytes
  have hr := B.returns
  have hts := atoms_spec (ws := wsX4_equal) B.pre
  have iX4 : ∀ w ∈ wsX40, w ∈ wsX4_equal := by decide +kernel
  have wf65 := hts (.fieldLink RX4 65 "CheckRestartModel" "many" "I") (by decide +kernel)
  have wf7 := hts (.fieldLink RX4 7 "CheckRestartModel" "cells" "[J") (by decide +kernel)
  have wf16 := hts (.fieldLink RX4 16 "CheckRestartModel" "trial" "[J") (by decide +kernel)
  have wf62 := hts (.fieldLink RX4 62 "CheckRestartModel" "units" "I") (by decide +kernel)
  have wf68 := hts (.fieldLink RX4 68 "CheckRestartModel" "files" "I") (by decide +kernel)
  have wf26 := hts (.fieldLink RX4 26 "CheckRestartModel" "trialAt" "[I") (by decide +kernel)
  have wf19 := hts (.fieldLink RX4 19 "CheckRestartModel" "lengths" "[I") (by decide +kernel)
  have wk75 := hts (.constantLong RX4 75 1000) (by decide +kernel)
  have wf29 := hts (.fieldLink RX4 29 "CheckRestartModel" "rows" "[J") (by decide +kernel)
  have wf13 := hts (.fieldLink RX4 13 "CheckRestartModel" "first" "[J") (by decide +kernel)
  have wf54 := hts (.fieldLink RX4 54 "CheckRestartModel" "code" "I") (by decide +kernel)
  have hown : s.vm.findClass RX4 = some m.cls := findClass_of_methodNamed B.named
  have hlocks := B.notSynchronized
  subst hsz
  have hD := hD0.self (sz := s.heap.size)
  generalize hAe : va_A [(am, .inr (5, [.int cde, .ref acs, .ref afv, .ref atr, .ref aln, .ref aps, .ref ata, .int (nI c), .int (nI f), .int (nI t), .int ed, .ref aro, .ref akc, .ref akp, .ref akm, .ref akf, .ref aku, .ref ake, .ref aiw, .int (nI kb), .int cp, .int ct, .int dn])), (acs, .inl (cL, 12, .inr (.inl cs))), (afv, .inl (cL, 12, .inr (.inl fv))), (atr, .inl (cL, 12, .inr (.inl tr))), (aln, .inl (cI, 6, .inl ln)), (ata, .inl (cI, 6, .inl ta)), (aro, .inl (cL, 5001, .inr (.inl ro)))] s.heap.size = A at hD ⊢
  have hA : ∀ q : Nat, s.heap.size ≤ q → A q := fun q h => by rw [← hAe]; exact Or.inr h
  have hS : va_S A s.heap s.heap [] := va_S.rf
  have hl := lv_entry ([.ref am]) (n := 8) (Nat.le_of_ble_eq_true rfl)
  rw [lg_entry_eq]
  generalize (lg_sl ([.ref am]) ++ List.replicate (8 - (lg_sl ([.ref am])).length) Slot.unset).toArray = ls at hl ⊢
  have hl : lv_has ls 8 [(0, .ref am)] := hl
  have key226 : ∀ (n : Nat) (i : Nat) (tr2 : Nat → Int64) (ta2 : Nat → Int32) (b : Int32) (q : Int32), (i ≤ c) → (c + 1 ≤ i + n) → (q = hc2 b i cs tr2) → (hc2 b c cs tr2 = em c f ln ro cs t 0 (so_c tr fv c) (so_p ta f) 1) → ∀ (H : Heap) (locs : List Loc), va_P D vwCl [(am, .inr (5, [.int 0, .ref acs, .ref afv, .ref atr, .ref aln, .ref aps, .ref ata, .int (nI c), .int (nI f), .int (nI t), .int ed, .ref aro, .ref akc, .ref akp, .ref akm, .ref akf, .ref aku, .ref ake, .ref aiw, .int (nI kb), .int cp, .int ct, .int dn])), (acs, .inl (cL, 12, .inr (.inl cs))), (afv, .inl (cL, 12, .inr (.inl fv))), (atr, .inl (cL, 12, .inr (.inl tr2))), (aln, .inl (cI, 6, .inl ln)), (ata, .inl (cI, 6, .inl ta2)), (aro, .inl (cL, 5001, .inr (.inl ro)))] H → va_D A [(am, .inr (5, [.int 0, .ref acs, .ref afv, .ref atr, .ref aln, .ref aps, .ref ata, .int (nI c), .int (nI f), .int (nI t), .int ed, .ref aro, .ref akc, .ref akp, .ref akm, .ref akf, .ref aku, .ref ake, .ref aiw, .int (nI kb), .int cp, .int ct, .int dn])), (acs, .inl (cL, 12, .inr (.inl cs))), (afv, .inl (cL, 12, .inr (.inl fv))), (atr, .inl (cL, 12, .inr (.inl tr2))), (aln, .inl (cI, 6, .inl ln)), (ata, .inl (cI, 6, .inl ta2)), (aro, .inl (cL, 5001, .inr (.inl ro)))] → va_S A s.heap H locs → ∀ (ls : Array Slot), lv_has ls 8 [(2, .int (nI i)), (1, .int q), (0, .ref am)] → W p l e (headSpec wsX4_equal rm_X4_equal).room s m ([.ref am] : List Value).toArray below meth cd H locs 0 0 (MQ below (qc_X4_equal D cI cL cZ am acs afv atr aln aps ata aro akc akp akm akf aku ake aiw cde c f t kb ed cp ct dn cs fv tr ln ta ro A) ([.ref am] : List Value).toArray s 0 0 A) (F0 m 226 ls []) := by
    intro n
    induction n with
    | zero => intro i tr2 ta2 b q hi hm hq hem2; exact absurd hm (by omega)
    | succ n ih =>
      intro i tr2 ta2 b q hi hm hq hem2 H locs hP hD hS ls hl
      refine lv_iload_n hx hb dX4_equal_226 rfl (lv_at hl 0 rfl) ?_
      refine lv_aload_n hx hb dX4_equal_227 rfl (lv_at hl 2 rfl) ?_
      refine va_get (D := D) (ci := 5) (v := .int (nI c)) (C := RX4) (T := TX4) (N := 23) hx hb hts iX4 hown hK hP 0 rfl rfl 7 (by decide) wf65 (fun _ h9 => h9) rfl dX4_equal_228 ?_
      refine lv_icmp_ge (tgt := 266) hx hb dX4_equal_231 (by decide) (fun c_231 => ?_) (fun c_231 => ?_)
      · have h1 : c ≤ i := (nI_leI (by omega) (by omega)).mp c_231
        have h2 : i = c := by omega
        refine lv_iload_n hx hb dX4_equal_266 rfl (lv_at hl 1 rfl) ?_
        have hP9 := hP.sub (ws' := [(am, .inr (5, [.int 0, .ref acs, .ref afv, .ref atr, .ref aln, .ref aps, .ref ata, .int (nI c), .int (nI f), .int (nI t), .int ed, .ref aro, .ref akc, .ref akp, .ref akm, .ref akf, .ref aku, .ref ake, .ref aiw, .int (nI kb), .int cp, .int ct, .int dn])), (acs, .inl (cL, 12, .inr (.inl cs))), (afv, .inl (cL, 12, .inr (.inl fv))), (atr, .inl (cL, 12, .inr (.inl tr2))), (aln, .inl (cI, 6, .inl ln)), (ata, .inl (cI, 6, .inl ta2)), (aro, .inl (cL, 5001, .inr (.inl ro)))]) [0, 1, 2, 3, 4, 5, 6] rfl
        have hD9 := hD.sub (ws' := [(am, .inr (5, [.int 0, .ref acs, .ref afv, .ref atr, .ref aln, .ref aps, .ref ata, .int (nI c), .int (nI f), .int (nI t), .int ed, .ref aro, .ref akc, .ref akp, .ref akm, .ref akf, .ref aku, .ref ake, .ref aiw, .int (nI kb), .int cp, .int ct, .int dn])), (acs, .inl (cL, 12, .inr (.inl cs))), (afv, .inl (cL, 12, .inr (.inl fv))), (atr, .inl (cL, 12, .inr (.inl tr2))), (aln, .inl (cI, 6, .inl ln)), (ata, .inl (cI, 6, .inl ta2)), (aro, .inl (cL, 5001, .inr (.inl ro)))]) [0, 1, 2, 3, 4, 5, 6] (by decide) rfl
        refine W.widen (k := 0) (n := 0) (Nat.le_of_ble_eq_true rfl) (Nat.le_of_ble_eq_true rfl) ?_
        exact W.zret (v := q) hx hb hr (by rw [hq]; exact hc2_nar _ _ _ _) (fun t9 ht9 hW9 => ⟨⟨q, (tr2, ta2), rfl, by rw [← hem2, hq, h2], by rw [ht9]; exact hP9, va_K.moved hW9.alike hK, hD9⟩, hS.F ht9⟩) hS.2.2 dX4_equal_267
      · have h1 : ¬ c ≤ i := fun h => c_231 ((nI_leI (by omega) (by omega)).mpr h)
        refine lv_iload_n hx hb dX4_equal_234 rfl (lv_at hl 1 rfl) ?_
        refine lv_if_eq (tgt := 258) hx hb dX4_equal_235 (by decide) (fun c_235 => ?_) (fun c_235 => ?_)
        · refine lv_iconst (v := 0) hx hb dX4_equal_258 (by decide) ?_
          refine lv_istore_n (lv' := [(1, .int 0), (2, .int (nI i)), (0, .ref am)]) hx hb dX4_equal_259 rfl hl (by decide) rfl (fun ls hl => ?_)
          refine lv_iinc (v := (nI (i + 1))) (lv' := [(2, .int (nI (i + 1))), (1, .int 0), (0, .ref am)]) hx hb dX4_equal_260 hl (k := 1) rfl (nI_1 i) (by decide) rfl (fun ls hl => ?_)
          refine lv_goto (tgt := 226) hx hb dX4_equal_263 (by decide) ?_
          exact ih ((i + 1)) tr2 ta2 b 0 (by omega) (by omega) (hc2_s0 (by rw [← hq]; exact c_235)) hem2 _ _ (hP.sub [0, 1, 2, 3, 4, 5, 6] rfl) (hD.sub [0, 1, 2, 3, 4, 5, 6] (by decide) rfl) hS ls (lv_sub hl [0, 1, 2] rfl)
        · refine lv_aload_n hx hb dX4_equal_238 rfl (lv_at hl 2 rfl) ?_
          refine va_get (D := D) (ci := 5) (v := .ref acs) (C := RX4) (T := TX4) (N := 23) hx hb hts iX4 hown hK hP 0 rfl rfl 1 (by decide) wf7 (fun _ h9 => h9) rfl dX4_equal_239 ?_
          refine lv_iload_n hx hb dX4_equal_242 rfl (lv_at hl 0 rfl) ?_
          refine ct_lald (k := i) hx hb hK hP 1 1 rfl rfl (by omega) (by decide) dX4_equal_243 ?_
          refine lv_aload_n hx hb dX4_equal_244 rfl (lv_at hl 2 rfl) ?_
          refine va_get (D := D) (ci := 5) (v := .ref atr) (C := RX4) (T := TX4) (N := 23) hx hb hts iX4 hown hK hP 0 rfl rfl 3 (by decide) wf16 (fun _ h9 => h9) rfl dX4_equal_245 ?_
          refine lv_iload_n hx hb dX4_equal_248 rfl (lv_at hl 0 rfl) ?_
          refine ct_lald (k := i) hx hb hK hP 3 1 rfl rfl (by omega) (by decide) dX4_equal_249 ?_
          refine W.lcmp hx hb dX4_equal_250 ?_
          refine lv_if_ne (tgt := 258) hx hb dX4_equal_251 (by decide) (fun c_251 => ?_) (fun c_251 => ?_)
          · refine lv_iconst (v := 0) hx hb dX4_equal_258 (by decide) ?_
            refine lv_istore_n (lv' := [(1, .int 0), (2, .int (nI i)), (0, .ref am)]) hx hb dX4_equal_259 rfl hl (by decide) rfl (fun ls hl => ?_)
            refine lv_iinc (v := (nI (i + 1))) (lv' := [(2, .int (nI (i + 1))), (1, .int 0), (0, .ref am)]) hx hb dX4_equal_260 hl (k := 1) rfl (nI_1 i) (by decide) rfl (fun ls hl => ?_)
            refine lv_goto (tgt := 226) hx hb dX4_equal_263 (by decide) ?_
            exact ih ((i + 1)) tr2 ta2 b 0 (by omega) (by omega) (hc2_s1 c_251) hem2 _ _ (hP.sub [0, 1, 2, 3, 4, 5, 6] rfl) (hD.sub [0, 1, 2, 3, 4, 5, 6] (by decide) rfl) hS ls (lv_sub hl [0, 1, 2] rfl)
          · refine lv_iconst (v := 1) hx hb dX4_equal_254 (by decide) ?_
            refine lv_goto (tgt := 259) hx hb dX4_equal_255 (by decide) ?_
            refine lv_istore_n (lv' := [(1, .int 1), (2, .int (nI i)), (0, .ref am)]) hx hb dX4_equal_259 rfl hl (by decide) rfl (fun ls hl => ?_)
            refine lv_iinc (v := (nI (i + 1))) (lv' := [(2, .int (nI (i + 1))), (1, .int 1), (0, .ref am)]) hx hb dX4_equal_260 hl (k := 1) rfl (nI_1 i) (by decide) rfl (fun ls hl => ?_)
            refine lv_goto (tgt := 226) hx hb dX4_equal_263 (by decide) ?_
            exact ih ((i + 1)) tr2 ta2 b 1 (by omega) (by omega) (hc2_s2 (by rw [← hq]; exact c_235) c_251) hem2 _ _ (hP.sub [0, 1, 2, 3, 4, 5, 6] rfl) (hD.sub [0, 1, 2, 3, 4, 5, 6] (by decide) rfl) hS ls (lv_sub hl [0, 1, 2] rfl)
  have key60 : ∀ (n : Nat) (i : Nat) (tr2 : Nat → Int64) (ta2 : Nat → Int32) (b : Int32), (i ≤ t) → (t + 1 ≤ i + n) → (b = 0 ∨ b = 1) → (em c f ln ro cs (t - i) i tr2 ta2 b = em c f ln ro cs t 0 (so_c tr fv c) (so_p ta f) 1) → ∀ (H : Heap) (locs : List Loc), va_P D vwCl [(am, .inr (5, [.int 0, .ref acs, .ref afv, .ref atr, .ref aln, .ref aps, .ref ata, .int (nI c), .int (nI f), .int (nI t), .int ed, .ref aro, .ref akc, .ref akp, .ref akm, .ref akf, .ref aku, .ref ake, .ref aiw, .int (nI kb), .int cp, .int ct, .int dn])), (acs, .inl (cL, 12, .inr (.inl cs))), (afv, .inl (cL, 12, .inr (.inl fv))), (atr, .inl (cL, 12, .inr (.inl tr2))), (aln, .inl (cI, 6, .inl ln)), (ata, .inl (cI, 6, .inl ta2)), (aro, .inl (cL, 5001, .inr (.inl ro)))] H → va_D A [(am, .inr (5, [.int 0, .ref acs, .ref afv, .ref atr, .ref aln, .ref aps, .ref ata, .int (nI c), .int (nI f), .int (nI t), .int ed, .ref aro, .ref akc, .ref akp, .ref akm, .ref akf, .ref aku, .ref ake, .ref aiw, .int (nI kb), .int cp, .int ct, .int dn])), (acs, .inl (cL, 12, .inr (.inl cs))), (afv, .inl (cL, 12, .inr (.inl fv))), (atr, .inl (cL, 12, .inr (.inl tr2))), (aln, .inl (cI, 6, .inl ln)), (ata, .inl (cI, 6, .inl ta2)), (aro, .inl (cL, 5001, .inr (.inl ro)))] → va_S A s.heap H locs → ∀ (ls : Array Slot), lv_has ls 8 [(2, .int (nI (i + 1))), (1, .int b), (0, .ref am)] → W p l e (headSpec wsX4_equal rm_X4_equal).room s m ([.ref am] : List Value).toArray below meth cd H locs 0 0 (MQ below (qc_X4_equal D cI cL cZ am acs afv atr aln aps ata aro akc akp akm akf aku ake aiw cde c f t kb ed cp ct dn cs fv tr ln ta ro A) ([.ref am] : List Value).toArray s 0 0 A) (F0 m 60 ls []) := by
    intro n
    induction n with
    | zero => intro i tr2 ta2 b hi hm hb01 hem; exact absurd hm (by omega)
    | succ n ih =>
      intro i tr2 ta2 b hi hm hb01 hem H locs hP hD hS ls hl
      refine lv_iload_n hx hb dX4_equal_60 rfl (lv_at hl 0 rfl) ?_
      refine lv_aload_n hx hb dX4_equal_61 rfl (lv_at hl 2 rfl) ?_
      refine va_get (D := D) (ci := 5) (v := .int (nI t)) (C := RX4) (T := TX4) (N := 23) hx hb hts iX4 hown hK hP 0 rfl rfl 9 (by decide) wf62 (fun _ h9 => h9) rfl dX4_equal_62 ?_
      refine lv_icmp_gt (tgt := 224) hx hb dX4_equal_65 (by decide) (fun c_65 => ?_) (fun c_65 => ?_)
      · have h1 : t < i + 1 := (nI_ltI (by omega) (by omega)).mp c_65
        refine lv_iconst (v := 0) hx hb dX4_equal_224 (by decide) ?_
        refine lv_istore_n (lv' := [(2, .int 0), (1, .int b), (0, .ref am)]) hx hb dX4_equal_225 rfl hl (by decide) rfl (fun ls hl => ?_)
        exact key226 (c + 1) 0 tr2 ta2 b b (by omega) (by omega) (hc2_0 hb01) (by rw [← hem, show t - i = 0 by omega]; rfl) _ _ (hP.sub [0, 1, 2, 3, 4, 5, 6] rfl) (hD.sub [0, 1, 2, 3, 4, 5, 6] (by decide) rfl) hS ls (lv_sub hl [0, 1, 2] rfl)
      · have h1 : ¬ t < i + 1 := fun h => c_65 ((nI_ltI (by omega) (by omega)).mpr h)
        refine lv_aload_n hx hb dX4_equal_68 rfl (lv_at hl 2 rfl) ?_
        refine ct_calli (wr := [(acs, .inl (cL, 12, .inr (.inl cs))), (afv, .inl (cL, 12, .inr (.inl fv))), (atr, .inl (cL, 12, .inr (.inl tr2))), (aro, .inl (cL, 5001, .inr (.inl ro)))]) (rest := []) hP hD hS hA [0, 5, 4] [1, 2, 3, 6] (va_runV (C := RX4) (As := []) ⟨hx, hb, hml, hown, hts⟩ (c_X4_isOver l D cI cL cZ am acs afv atr aln aps ata aro akc akp akm akf aku ake aiw 0 c f t kb ed cp ct dn ta2 ln _ (by omega)) (cwV 0 hts gX4_equal_X4_isOver rfl rfl rfl (by decide +kernel) ⟨Nat.le_of_ble_eq_true rfl, Nat.le_of_ble_eq_true rfl⟩) (ct_preV (q0 := 0) (ci := 5) hK hP hD [0, 5, 4] (by decide) rfl rfl rfl rfl rfl) rfl rfl hl.1 rfl (lv_room (Nat.le_of_ble_eq_true rfl)) dX4_equal_69 ⟨Nat.le_of_ble_eq_true rfl, Nat.le_of_ble_eq_true rfl⟩) rfl rfl (by decide) (by decide) (fun r_1 u H locs hw hP hD hS => ?_)
        try dsimp only at hw
        obtain rfl := hw
        have hP : va_P D vwCl [(acs, .inl (cL, 12, .inr (.inl cs))), (afv, .inl (cL, 12, .inr (.inl fv))), (atr, .inl (cL, 12, .inr (.inl tr2))), (aro, .inl (cL, 5001, .inr (.inl ro))), (am, .inr (5, [.int 0, .ref acs, .ref afv, .ref atr, .ref aln, .ref aps, .ref ata, .int (nI c), .int (nI f), .int (nI t), .int ed, .ref aro, .ref akc, .ref akp, .ref akm, .ref akf, .ref aku, .ref ake, .ref aiw, .int (nI kb), .int cp, .int ct, .int dn])), (ata, .inl (cI, 6, .inl ta2)), (aln, .inl (cI, 6, .inl ln))] H := hP
        have hD : va_D A [(acs, .inl (cL, 12, .inr (.inl cs))), (afv, .inl (cL, 12, .inr (.inl fv))), (atr, .inl (cL, 12, .inr (.inl tr2))), (aro, .inl (cL, 5001, .inr (.inl ro))), (am, .inr (5, [.int 0, .ref acs, .ref afv, .ref atr, .ref aln, .ref aps, .ref ata, .int (nI c), .int (nI f), .int (nI t), .int ed, .ref aro, .ref akc, .ref akp, .ref akm, .ref akf, .ref aku, .ref ake, .ref aiw, .int (nI kb), .int cp, .int ct, .int dn])), (ata, .inl (cI, 6, .inl ta2)), (aln, .inl (cI, 6, .inl ln))] := hD
        refine lv_if_eq (tgt := 77) hx hb dX4_equal_72 (by decide) (fun c_72 => ?_) (fun c_72 => ?_)
        · have hf0 := ie_f0 c_72
          have hlt : i % f < f := Nat.mod_lt _ (by omega)
          refine lv_iload_n hx hb dX4_equal_77 rfl (lv_at hl 0 rfl) ?_
          refine lv_iconst (v := 1) hx hb dX4_equal_78 (by decide) ?_
          refine lv_isub hx hb dX4_equal_79 ?_
          refine ct_topi (y := (nI i)) (nI_pred i) ?_
          refine lv_aload_n hx hb dX4_equal_80 rfl (lv_at hl 2 rfl) ?_
          refine va_get (D := D) (ci := 5) (v := .int (nI f)) (C := RX4) (T := TX4) (N := 23) hx hb hts iX4 hown hK hP 4 rfl rfl 8 (by decide) wf68 (fun _ h9 => h9) rfl dX4_equal_81 ?_
          refine lv_irem hx hb dX4_equal_84 (nI_ne0 (by omega) (by omega)) ?_
          refine ct_topi (pk_rem (by omega) (by omega) (by omega)) ?_
          refine lv_istore_n (lv' := [(3, .int (nI (i % f))), (2, .int (nI (i + 1))), (1, .int b), (0, .ref am)]) hx hb dX4_equal_85 rfl hl (by decide) rfl (fun ls hl => ?_)
          refine lv_aload_n hx hb dX4_equal_86 rfl (lv_at hl 3 rfl) ?_
          refine va_get (D := D) (ci := 5) (v := .ref ata) (C := RX4) (T := TX4) (N := 23) hx hb hts iX4 hown hK hP 4 rfl rfl 6 (by decide) wf26 (fun _ h9 => h9) rfl dX4_equal_87 ?_
          refine lv_iload_n hx hb dX4_equal_90 rfl (lv_at hl 0 rfl) ?_
          refine ct_iald (k := (i % f)) hx hb hK hP 5 0 rfl rfl (by omega) (by decide) dX4_equal_91 ?_
          refine lv_aload_n hx hb dX4_equal_92 rfl (lv_at hl 3 rfl) ?_
          refine va_get (D := D) (ci := 5) (v := .ref aln) (C := RX4) (T := TX4) (N := 23) hx hb hts iX4 hown hK hP 4 rfl rfl 4 (by decide) wf19 (fun _ h9 => h9) rfl dX4_equal_93 ?_
          refine lv_iload_n hx hb dX4_equal_96 rfl (lv_at hl 0 rfl) ?_
          refine ct_iald (k := (i % f)) hx hb hK hP 6 0 rfl rfl (by omega) (by decide) dX4_equal_97 ?_
          refine lv_icmp_ge (tgt := 105) hx hb dX4_equal_98 (by decide) (fun c_98 => ?_) (fun c_98 => ?_)
          · refine lv_iconst (v := 0) hx hb dX4_equal_105 (by decide) ?_
            refine lv_istore (lv' := [(4, .int 0), (3, .int (nI (i % f))), (2, .int (nI (i + 1))), (1, .int b), (0, .ref am)]) hx hb dX4_equal_106 hl (by decide) rfl (fun ls hl => ?_)
            refine lv_ldc2 (v := 1000) hx hb hown wk75 dX4_equal_108 ?_
            refine lv_iload_n hx hb dX4_equal_111 rfl (lv_at hl 1 rfl) ?_
            refine lv_iconst (v := 1) hx hb dX4_equal_112 (by decide) ?_
            refine lv_iadd hx hb dX4_equal_113 ?_
            refine lv_i2l hx hb dX4_equal_114 rfl ?_
            refine lv_lmul hx hb dX4_equal_115 ?_
            refine lv_aload_n hx hb dX4_equal_116 rfl (lv_at hl 4 rfl) ?_
            refine va_get (D := D) (ci := 5) (v := .ref ata) (C := RX4) (T := TX4) (N := 23) hx hb hts iX4 hown hK hP 4 rfl rfl 6 (by decide) wf26 (fun _ h9 => h9) rfl dX4_equal_117 ?_
            refine lv_iload_n hx hb dX4_equal_120 rfl (lv_at hl 1 rfl) ?_
            refine ct_iald (k := (i % f)) hx hb hK hP 5 0 rfl rfl (by omega) (by decide) dX4_equal_121 ?_
            refine lv_i2l hx hb dX4_equal_122 rfl ?_
            refine lv_ladd hx hb dX4_equal_123 ?_
            refine lv_lstore (lv' := [(5, .long ((1000 * (((nI (i % f)) + 1).toInt64)) + ((ta2 (i % f)).toInt64))), (4, .int 0), (3, .int (nI (i % f))), (2, .int (nI (i + 1))), (1, .int b), (0, .ref am)]) hx hb dX4_equal_124 hl (by decide) rfl (fun ls hl => ?_)
            refine lv_aload_n hx hb dX4_equal_126 rfl (lv_at hl 5 rfl) ?_
            refine va_get (D := D) (ci := 5) (v := .ref ata) (C := RX4) (T := TX4) (N := 23) hx hb hts iX4 hown hK hP 4 rfl rfl 6 (by decide) wf26 (fun _ h9 => h9) rfl dX4_equal_127 ?_
            refine lv_iload_n hx hb dX4_equal_130 rfl (lv_at hl 2 rfl) ?_
            refine lv_dup2_11 hx hb dX4_equal_131 rfl rfl ?_
            refine ct_iald (k := (i % f)) hx hb hK hP 5 0 rfl rfl (by omega) (by decide) dX4_equal_132 ?_
            refine lv_iload hx hb dX4_equal_133 (lv_at hl 1 rfl) ?_
            refine lv_if_eq (tgt := 142) hx hb dX4_equal_135 (by decide) (fun c_135 => ?_) (fun c_135 => ?_)
            · refine lv_iconst (v := 0) hx hb dX4_equal_142 (by decide) ?_
              refine lv_iadd hx hb dX4_equal_143 ?_
              refine ct_iast (k := (i % f)) hx hb hK hP hD hS 5 0 rfl rfl (by omega) (by decide) dX4_equal_144 (fun H locs hP hD hS => ?_)
              have hP : va_P D vwCl [(acs, .inl (cL, 12, .inr (.inl cs))), (afv, .inl (cL, 12, .inr (.inl fv))), (atr, .inl (cL, 12, .inr (.inl tr2))), (aro, .inl (cL, 5001, .inr (.inl ro))), (am, .inr (5, [.int 0, .ref acs, .ref afv, .ref atr, .ref aln, .ref aps, .ref ata, .int (nI c), .int (nI f), .int (nI t), .int ed, .ref aro, .ref akc, .ref akp, .ref akm, .ref akf, .ref aku, .ref ake, .ref aiw, .int (nI kb), .int cp, .int ct, .int dn])), (ata, .inl (cI, 6, .inl (upd ta2 (i % f) ((ta2 (i % f)) + 0)))), (aln, .inl (cI, 6, .inl ln))] H := hP
              have hD : va_D A [(acs, .inl (cL, 12, .inr (.inl cs))), (afv, .inl (cL, 12, .inr (.inl fv))), (atr, .inl (cL, 12, .inr (.inl tr2))), (aro, .inl (cL, 5001, .inr (.inl ro))), (am, .inr (5, [.int 0, .ref acs, .ref afv, .ref atr, .ref aln, .ref aps, .ref ata, .int (nI c), .int (nI f), .int (nI t), .int ed, .ref aro, .ref akc, .ref akp, .ref akm, .ref akf, .ref aku, .ref ake, .ref aiw, .int (nI kb), .int cp, .int ct, .int dn])), (ata, .inl (cI, 6, .inl (upd ta2 (i % f) ((ta2 (i % f)) + 0)))), (aln, .inl (cI, 6, .inl ln))] := hD
              refine lv_aload_n hx hb dX4_equal_145 rfl (lv_at hl 5 rfl) ?_
              refine va_get (D := D) (ci := 5) (v := .int (nI c)) (C := RX4) (T := TX4) (N := 23) hx hb hts iX4 hown hK hP 4 rfl rfl 7 (by decide) wf65 (fun _ h9 => h9) rfl dX4_equal_146 ?_
              refine lv_if_ne (tgt := 155) hx hb dX4_equal_149 (by decide) (fun c_149 => ?_) (fun c_149 => ?_)
              · have hc0 : c ≠ 0 := fun h => by rw [h] at c_149; exact c_149 rfl
                have hltc : i % c < c := Nat.mod_lt _ (by omega)
                refine lv_iload_n hx hb dX4_equal_155 rfl (lv_at hl 3 rfl) ?_
                refine lv_iconst (v := 1) hx hb dX4_equal_156 (by decide) ?_
                refine lv_isub hx hb dX4_equal_157 ?_
                refine ct_topi (y := (nI i)) (nI_pred i) ?_
                refine lv_aload_n hx hb dX4_equal_158 rfl (lv_at hl 5 rfl) ?_
                refine va_get (D := D) (ci := 5) (v := .int (nI c)) (C := RX4) (T := TX4) (N := 23) hx hb hts iX4 hown hK hP 4 rfl rfl 7 (by decide) wf65 (fun _ h9 => h9) rfl dX4_equal_159 ?_
                refine lv_irem hx hb dX4_equal_162 (nI_ne0 (by omega) (by omega)) ?_
                refine ct_topi (pk_rem (by omega) (by omega) (by omega)) ?_
                refine lv_istore (lv' := [(7, .int (nI (i % c))), (5, .long ((1000 * (((nI (i % f)) + 1).toInt64)) + ((ta2 (i % f)).toInt64))), (4, .int 0), (3, .int (nI (i % f))), (2, .int (nI (i + 1))), (1, .int b), (0, .ref am)]) hx hb dX4_equal_163 hl (by decide) rfl (fun ls hl => ?_)
                refine lv_aload_n hx hb dX4_equal_165 rfl (lv_at hl 6 rfl) ?_
                refine va_get (D := D) (ci := 5) (v := .ref atr) (C := RX4) (T := TX4) (N := 23) hx hb hts iX4 hown hK hP 4 rfl rfl 3 (by decide) wf16 (fun _ h9 => h9) rfl dX4_equal_166 ?_
                refine lv_iload hx hb dX4_equal_169 (lv_at hl 0 rfl) ?_
                refine lv_dup2_11 hx hb dX4_equal_171 rfl rfl ?_
                refine ct_lald (k := (i % c)) hx hb hK hP 2 1 rfl rfl (by omega) (by decide) dX4_equal_172 ?_
                refine lv_iload hx hb dX4_equal_173 (lv_at hl 2 rfl) ?_
                refine lv_if_eq (tgt := 186) hx hb dX4_equal_175 (by decide) (fun c_175 => ?_) (fun c_175 => ?_)
                · refine lv_lconst (v := 0) hx hb dX4_equal_186 (by decide) ?_
                  refine lv_ladd hx hb dX4_equal_187 ?_
                  refine ct_last (k := (i % c)) hx hb hK hP hD hS 2 1 rfl rfl (by omega) (by decide) dX4_equal_188 (fun H locs hP hD hS => ?_)
                  have hP : va_P D vwCl [(acs, .inl (cL, 12, .inr (.inl cs))), (afv, .inl (cL, 12, .inr (.inl fv))), (atr, .inl (cL, 12, .inr (.inl (vp_updL tr2 (i % c) ((tr2 (i % c)) + 0))))), (aro, .inl (cL, 5001, .inr (.inl ro))), (am, .inr (5, [.int 0, .ref acs, .ref afv, .ref atr, .ref aln, .ref aps, .ref ata, .int (nI c), .int (nI f), .int (nI t), .int ed, .ref aro, .ref akc, .ref akp, .ref akm, .ref akf, .ref aku, .ref ake, .ref aiw, .int (nI kb), .int cp, .int ct, .int dn])), (ata, .inl (cI, 6, .inl (upd ta2 (i % f) ((ta2 (i % f)) + 0)))), (aln, .inl (cI, 6, .inl ln))] H := hP
                  have hD : va_D A [(acs, .inl (cL, 12, .inr (.inl cs))), (afv, .inl (cL, 12, .inr (.inl fv))), (atr, .inl (cL, 12, .inr (.inl (vp_updL tr2 (i % c) ((tr2 (i % c)) + 0))))), (aro, .inl (cL, 5001, .inr (.inl ro))), (am, .inr (5, [.int 0, .ref acs, .ref afv, .ref atr, .ref aln, .ref aps, .ref ata, .int (nI c), .int (nI f), .int (nI t), .int ed, .ref aro, .ref akc, .ref akp, .ref akm, .ref akf, .ref aku, .ref ake, .ref aiw, .int (nI kb), .int cp, .int ct, .int dn])), (ata, .inl (cI, 6, .inl (upd ta2 (i % f) ((ta2 (i % f)) + 0)))), (aln, .inl (cI, 6, .inl ln))] := hD
                  refine lv_iload_n hx hb dX4_equal_189 rfl (lv_at hl 5 rfl) ?_
                  refine lv_if_eq (tgt := 216) hx hb dX4_equal_190 (by decide) (fun c_190 => ?_) (fun c_190 => ?_)
                  · refine lv_iconst (v := 0) hx hb dX4_equal_216 (by decide) ?_
                    refine lv_istore_n (lv' := [(1, .int 0), (7, .int (nI (i % c))), (5, .long ((1000 * (((nI (i % f)) + 1).toInt64)) + ((ta2 (i % f)).toInt64))), (4, .int 0), (3, .int (nI (i % f))), (2, .int (nI (i + 1))), (0, .ref am)]) hx hb dX4_equal_217 rfl hl (by decide) rfl (fun ls hl => ?_)
                    refine lv_iinc (v := (nI (i + 1 + 1))) (lv' := [(2, .int (nI (i + 1 + 1))), (1, .int 0), (7, .int (nI (i % c))), (5, .long ((1000 * (((nI (i % f)) + 1).toInt64)) + ((ta2 (i % f)).toInt64))), (4, .int 0), (3, .int (nI (i % f))), (0, .ref am)]) hx hb dX4_equal_218 hl (k := 5) rfl (nI_1 (i + 1)) (by decide) rfl (fun ls hl => ?_)
                    refine lv_goto (tgt := 60) hx hb dX4_equal_221 (by decide) ?_
                    have e1 : (upd ta2 (i % f) ((ta2 (i % f)) + 0)) = rd_p i f ta2 ln := st_p0 hf0 c_98
                    have e2 : (vp_updL tr2 (i % c) ((tr2 (i % c)) + 0)) = du_c c i (rd_v i f ta2 ln) tr2 := st_c0 hc0 (st_v0 hf0 c_98)
                    have e4 : (vp_updL tr2 (i % c) ((tr2 (i % c)) + 0)) (i % c) = du_r c i (rd_v i f ta2 ln) tr2 := em_v0 hc0 (st_v0 hf0 c_98)
                    exact ih (i + 1) (vp_updL tr2 (i % c) ((tr2 (i % c)) + 0)) (upd ta2 (i % f) ((ta2 (i % f)) + 0)) 0 (by omega) (by omega) (Or.inl rfl) (by rw [e1, e2]; exact (em_s1 (by omega) c_72 hc0 (by rw [if_pos c_190])).symm.trans hem) _ _ (hP.sub [4, 0, 1, 2, 6, 5, 3] rfl) (hD.sub [4, 0, 1, 2, 6, 5, 3] (by decide) rfl) hS ls (lv_sub hl [0, 1, 6] rfl)
                  · refine lv_aload_n hx hb dX4_equal_193 rfl (lv_at hl 6 rfl) ?_
                    refine va_get (D := D) (ci := 5) (v := .ref aro) (C := RX4) (T := TX4) (N := 23) hx hb hts iX4 hown hK hP 4 rfl rfl 11 (by decide) wf29 (fun _ h9 => h9) rfl dX4_equal_194 ?_
                    refine lv_iload_n hx hb dX4_equal_197 rfl (lv_at hl 4 rfl) ?_
                    refine lv_iconst (v := 1) hx hb dX4_equal_198 (by decide) ?_
                    refine lv_isub hx hb dX4_equal_199 ?_
                    refine ct_topi (y := (nI i)) (nI_pred i) ?_
                    refine ct_lald (k := i) hx hb hK hP 3 1 rfl rfl (by omega) (by decide) dX4_equal_200 ?_
                    refine lv_aload_n hx hb dX4_equal_201 rfl (lv_at hl 6 rfl) ?_
                    refine va_get (D := D) (ci := 5) (v := .ref atr) (C := RX4) (T := TX4) (N := 23) hx hb hts iX4 hown hK hP 4 rfl rfl 3 (by decide) wf16 (fun _ h9 => h9) rfl dX4_equal_202 ?_
                    refine lv_iload hx hb dX4_equal_205 (lv_at hl 0 rfl) ?_
                    refine ct_lald (k := (i % c)) hx hb hK hP 2 1 rfl rfl (by omega) (by decide) dX4_equal_207 ?_
                    refine W.lcmp hx hb dX4_equal_208 ?_
                    refine lv_if_ne (tgt := 216) hx hb dX4_equal_209 (by decide) (fun c_209 => ?_) (fun c_209 => ?_)
                    · refine lv_iconst (v := 0) hx hb dX4_equal_216 (by decide) ?_
                      refine lv_istore_n (lv' := [(1, .int 0), (7, .int (nI (i % c))), (5, .long ((1000 * (((nI (i % f)) + 1).toInt64)) + ((ta2 (i % f)).toInt64))), (4, .int 0), (3, .int (nI (i % f))), (2, .int (nI (i + 1))), (0, .ref am)]) hx hb dX4_equal_217 rfl hl (by decide) rfl (fun ls hl => ?_)
                      refine lv_iinc (v := (nI (i + 1 + 1))) (lv' := [(2, .int (nI (i + 1 + 1))), (1, .int 0), (7, .int (nI (i % c))), (5, .long ((1000 * (((nI (i % f)) + 1).toInt64)) + ((ta2 (i % f)).toInt64))), (4, .int 0), (3, .int (nI (i % f))), (0, .ref am)]) hx hb dX4_equal_218 hl (k := 5) rfl (nI_1 (i + 1)) (by decide) rfl (fun ls hl => ?_)
                      refine lv_goto (tgt := 60) hx hb dX4_equal_221 (by decide) ?_
                      have e1 : (upd ta2 (i % f) ((ta2 (i % f)) + 0)) = rd_p i f ta2 ln := st_p0 hf0 c_98
                      have e2 : (vp_updL tr2 (i % c) ((tr2 (i % c)) + 0)) = du_c c i (rd_v i f ta2 ln) tr2 := st_c0 hc0 (st_v0 hf0 c_98)
                      have e4 : (vp_updL tr2 (i % c) ((tr2 (i % c)) + 0)) (i % c) = du_r c i (rd_v i f ta2 ln) tr2 := em_v0 hc0 (st_v0 hf0 c_98)
                      exact ih (i + 1) (vp_updL tr2 (i % c) ((tr2 (i % c)) + 0)) (upd ta2 (i % f) ((ta2 (i % f)) + 0)) 0 (by omega) (by omega) (Or.inl rfl) (by rw [e1, e2]; exact (em_s1 (by omega) c_72 hc0 (by rw [if_neg c_190, if_neg (fun q => c_209 (cr_cmp0.mpr (q.trans e4.symm)))])).symm.trans hem) _ _ (hP.sub [4, 0, 1, 2, 6, 5, 3] rfl) (hD.sub [4, 0, 1, 2, 6, 5, 3] (by decide) rfl) hS ls (lv_sub hl [0, 1, 6] rfl)
                    · refine lv_iconst (v := 1) hx hb dX4_equal_212 (by decide) ?_
                      refine lv_goto (tgt := 217) hx hb dX4_equal_213 (by decide) ?_
                      refine lv_istore_n (lv' := [(1, .int 1), (7, .int (nI (i % c))), (5, .long ((1000 * (((nI (i % f)) + 1).toInt64)) + ((ta2 (i % f)).toInt64))), (4, .int 0), (3, .int (nI (i % f))), (2, .int (nI (i + 1))), (0, .ref am)]) hx hb dX4_equal_217 rfl hl (by decide) rfl (fun ls hl => ?_)
                      refine lv_iinc (v := (nI (i + 1 + 1))) (lv' := [(2, .int (nI (i + 1 + 1))), (1, .int 1), (7, .int (nI (i % c))), (5, .long ((1000 * (((nI (i % f)) + 1).toInt64)) + ((ta2 (i % f)).toInt64))), (4, .int 0), (3, .int (nI (i % f))), (0, .ref am)]) hx hb dX4_equal_218 hl (k := 5) rfl (nI_1 (i + 1)) (by decide) rfl (fun ls hl => ?_)
                      refine lv_goto (tgt := 60) hx hb dX4_equal_221 (by decide) ?_
                      have e1 : (upd ta2 (i % f) ((ta2 (i % f)) + 0)) = rd_p i f ta2 ln := st_p0 hf0 c_98
                      have e2 : (vp_updL tr2 (i % c) ((tr2 (i % c)) + 0)) = du_c c i (rd_v i f ta2 ln) tr2 := st_c0 hc0 (st_v0 hf0 c_98)
                      have e4 : (vp_updL tr2 (i % c) ((tr2 (i % c)) + 0)) (i % c) = du_r c i (rd_v i f ta2 ln) tr2 := em_v0 hc0 (st_v0 hf0 c_98)
                      exact ih (i + 1) (vp_updL tr2 (i % c) ((tr2 (i % c)) + 0)) (upd ta2 (i % f) ((ta2 (i % f)) + 0)) 1 (by omega) (by omega) (Or.inr rfl) (by rw [e1, e2]; exact (em_s1 (by omega) c_72 hc0 (by rw [if_neg c_190, if_pos ((cr_cmp0.mp c_209).trans e4)])).symm.trans hem) _ _ (hP.sub [4, 0, 1, 2, 6, 5, 3] rfl) (hD.sub [4, 0, 1, 2, 6, 5, 3] (by decide) rfl) hS ls (lv_sub hl [0, 1, 6] rfl)
                · exact absurd c_175 (fun h => h rfl)
              · have hc0 : c = 0 := cr_nI0 (by omega) c_149
                refine lv_goto (tgt := 218) hx hb dX4_equal_152 (by decide) ?_
                refine lv_iinc (v := (nI (i + 1 + 1))) (lv' := [(2, .int (nI (i + 1 + 1))), (5, .long ((1000 * (((nI (i % f)) + 1).toInt64)) + ((ta2 (i % f)).toInt64))), (4, .int 0), (3, .int (nI (i % f))), (1, .int b), (0, .ref am)]) hx hb dX4_equal_218 hl (k := 3) rfl (nI_1 (i + 1)) (by decide) rfl (fun ls hl => ?_)
                refine lv_goto (tgt := 60) hx hb dX4_equal_221 (by decide) ?_
                have e1 : (upd ta2 (i % f) ((ta2 (i % f)) + 0)) = rd_p i f ta2 ln := st_p0 hf0 c_98
                exact ih (i + 1) tr2 (upd ta2 (i % f) ((ta2 (i % f)) + 0)) b (by omega) (by omega) hb01 (by rw [e1]; exact (em_s0 (by omega) c_72 hc0).symm.trans hem) _ _ (hP.sub [4, 0, 1, 2, 6, 5, 3] rfl) (hD.sub [4, 0, 1, 2, 6, 5, 3] (by decide) rfl) hS ls (lv_sub hl [0, 4, 5] rfl)
            · exact absurd c_135 (fun h => h rfl)
          · refine lv_iconst (v := 1) hx hb dX4_equal_101 (by decide) ?_
            refine lv_goto (tgt := 106) hx hb dX4_equal_102 (by decide) ?_
            refine lv_istore (lv' := [(4, .int 1), (3, .int (nI (i % f))), (2, .int (nI (i + 1))), (1, .int b), (0, .ref am)]) hx hb dX4_equal_106 hl (by decide) rfl (fun ls hl => ?_)
            refine lv_ldc2 (v := 1000) hx hb hown wk75 dX4_equal_108 ?_
            refine lv_iload_n hx hb dX4_equal_111 rfl (lv_at hl 1 rfl) ?_
            refine lv_iconst (v := 1) hx hb dX4_equal_112 (by decide) ?_
            refine lv_iadd hx hb dX4_equal_113 ?_
            refine lv_i2l hx hb dX4_equal_114 rfl ?_
            refine lv_lmul hx hb dX4_equal_115 ?_
            refine lv_aload_n hx hb dX4_equal_116 rfl (lv_at hl 4 rfl) ?_
            refine va_get (D := D) (ci := 5) (v := .ref ata) (C := RX4) (T := TX4) (N := 23) hx hb hts iX4 hown hK hP 4 rfl rfl 6 (by decide) wf26 (fun _ h9 => h9) rfl dX4_equal_117 ?_
            refine lv_iload_n hx hb dX4_equal_120 rfl (lv_at hl 1 rfl) ?_
            refine ct_iald (k := (i % f)) hx hb hK hP 5 0 rfl rfl (by omega) (by decide) dX4_equal_121 ?_
            refine lv_i2l hx hb dX4_equal_122 rfl ?_
            refine lv_ladd hx hb dX4_equal_123 ?_
            refine lv_lstore (lv' := [(5, .long ((1000 * (((nI (i % f)) + 1).toInt64)) + ((ta2 (i % f)).toInt64))), (4, .int 1), (3, .int (nI (i % f))), (2, .int (nI (i + 1))), (1, .int b), (0, .ref am)]) hx hb dX4_equal_124 hl (by decide) rfl (fun ls hl => ?_)
            refine lv_aload_n hx hb dX4_equal_126 rfl (lv_at hl 5 rfl) ?_
            refine va_get (D := D) (ci := 5) (v := .ref ata) (C := RX4) (T := TX4) (N := 23) hx hb hts iX4 hown hK hP 4 rfl rfl 6 (by decide) wf26 (fun _ h9 => h9) rfl dX4_equal_127 ?_
            refine lv_iload_n hx hb dX4_equal_130 rfl (lv_at hl 2 rfl) ?_
            refine lv_dup2_11 hx hb dX4_equal_131 rfl rfl ?_
            refine ct_iald (k := (i % f)) hx hb hK hP 5 0 rfl rfl (by omega) (by decide) dX4_equal_132 ?_
            refine lv_iload hx hb dX4_equal_133 (lv_at hl 1 rfl) ?_
            refine lv_if_eq (tgt := 142) hx hb dX4_equal_135 (by decide) (fun c_135 => ?_) (fun c_135 => ?_)
            · exact absurd c_135 (by decide)
            · refine lv_iconst (v := 1) hx hb dX4_equal_138 (by decide) ?_
              refine lv_goto (tgt := 143) hx hb dX4_equal_139 (by decide) ?_
              refine lv_iadd hx hb dX4_equal_143 ?_
              refine ct_iast (k := (i % f)) hx hb hK hP hD hS 5 0 rfl rfl (by omega) (by decide) dX4_equal_144 (fun H locs hP hD hS => ?_)
              have hP : va_P D vwCl [(acs, .inl (cL, 12, .inr (.inl cs))), (afv, .inl (cL, 12, .inr (.inl fv))), (atr, .inl (cL, 12, .inr (.inl tr2))), (aro, .inl (cL, 5001, .inr (.inl ro))), (am, .inr (5, [.int 0, .ref acs, .ref afv, .ref atr, .ref aln, .ref aps, .ref ata, .int (nI c), .int (nI f), .int (nI t), .int ed, .ref aro, .ref akc, .ref akp, .ref akm, .ref akf, .ref aku, .ref ake, .ref aiw, .int (nI kb), .int cp, .int ct, .int dn])), (ata, .inl (cI, 6, .inl (upd ta2 (i % f) ((ta2 (i % f)) + 1)))), (aln, .inl (cI, 6, .inl ln))] H := hP
              have hD : va_D A [(acs, .inl (cL, 12, .inr (.inl cs))), (afv, .inl (cL, 12, .inr (.inl fv))), (atr, .inl (cL, 12, .inr (.inl tr2))), (aro, .inl (cL, 5001, .inr (.inl ro))), (am, .inr (5, [.int 0, .ref acs, .ref afv, .ref atr, .ref aln, .ref aps, .ref ata, .int (nI c), .int (nI f), .int (nI t), .int ed, .ref aro, .ref akc, .ref akp, .ref akm, .ref akf, .ref aku, .ref ake, .ref aiw, .int (nI kb), .int cp, .int ct, .int dn])), (ata, .inl (cI, 6, .inl (upd ta2 (i % f) ((ta2 (i % f)) + 1)))), (aln, .inl (cI, 6, .inl ln))] := hD
              refine lv_aload_n hx hb dX4_equal_145 rfl (lv_at hl 5 rfl) ?_
              refine va_get (D := D) (ci := 5) (v := .int (nI c)) (C := RX4) (T := TX4) (N := 23) hx hb hts iX4 hown hK hP 4 rfl rfl 7 (by decide) wf65 (fun _ h9 => h9) rfl dX4_equal_146 ?_
              refine lv_if_ne (tgt := 155) hx hb dX4_equal_149 (by decide) (fun c_149 => ?_) (fun c_149 => ?_)
              · have hc0 : c ≠ 0 := fun h => by rw [h] at c_149; exact c_149 rfl
                have hltc : i % c < c := Nat.mod_lt _ (by omega)
                refine lv_iload_n hx hb dX4_equal_155 rfl (lv_at hl 3 rfl) ?_
                refine lv_iconst (v := 1) hx hb dX4_equal_156 (by decide) ?_
                refine lv_isub hx hb dX4_equal_157 ?_
                refine ct_topi (y := (nI i)) (nI_pred i) ?_
                refine lv_aload_n hx hb dX4_equal_158 rfl (lv_at hl 5 rfl) ?_
                refine va_get (D := D) (ci := 5) (v := .int (nI c)) (C := RX4) (T := TX4) (N := 23) hx hb hts iX4 hown hK hP 4 rfl rfl 7 (by decide) wf65 (fun _ h9 => h9) rfl dX4_equal_159 ?_
                refine lv_irem hx hb dX4_equal_162 (nI_ne0 (by omega) (by omega)) ?_
                refine ct_topi (pk_rem (by omega) (by omega) (by omega)) ?_
                refine lv_istore (lv' := [(7, .int (nI (i % c))), (5, .long ((1000 * (((nI (i % f)) + 1).toInt64)) + ((ta2 (i % f)).toInt64))), (4, .int 1), (3, .int (nI (i % f))), (2, .int (nI (i + 1))), (1, .int b), (0, .ref am)]) hx hb dX4_equal_163 hl (by decide) rfl (fun ls hl => ?_)
                refine lv_aload_n hx hb dX4_equal_165 rfl (lv_at hl 6 rfl) ?_
                refine va_get (D := D) (ci := 5) (v := .ref atr) (C := RX4) (T := TX4) (N := 23) hx hb hts iX4 hown hK hP 4 rfl rfl 3 (by decide) wf16 (fun _ h9 => h9) rfl dX4_equal_166 ?_
                refine lv_iload hx hb dX4_equal_169 (lv_at hl 0 rfl) ?_
                refine lv_dup2_11 hx hb dX4_equal_171 rfl rfl ?_
                refine ct_lald (k := (i % c)) hx hb hK hP 2 1 rfl rfl (by omega) (by decide) dX4_equal_172 ?_
                refine lv_iload hx hb dX4_equal_173 (lv_at hl 2 rfl) ?_
                refine lv_if_eq (tgt := 186) hx hb dX4_equal_175 (by decide) (fun c_175 => ?_) (fun c_175 => ?_)
                · exact absurd c_175 (by decide)
                · refine lv_iload_n hx hb dX4_equal_178 rfl (lv_at hl 4 rfl) ?_
                  refine lv_i2l hx hb dX4_equal_179 rfl ?_
                  refine lv_lload hx hb dX4_equal_180 (lv_at hl 1 rfl) ?_
                  refine lv_lmul hx hb dX4_equal_182 ?_
                  refine lv_goto (tgt := 187) hx hb dX4_equal_183 (by decide) ?_
                  refine lv_ladd hx hb dX4_equal_187 ?_
                  refine ct_last (k := (i % c)) hx hb hK hP hD hS 2 1 rfl rfl (by omega) (by decide) dX4_equal_188 (fun H locs hP hD hS => ?_)
                  have hP : va_P D vwCl [(acs, .inl (cL, 12, .inr (.inl cs))), (afv, .inl (cL, 12, .inr (.inl fv))), (atr, .inl (cL, 12, .inr (.inl (vp_updL tr2 (i % c) ((tr2 (i % c)) + (((nI (i + 1)).toInt64) * ((1000 * (((nI (i % f)) + 1).toInt64)) + ((ta2 (i % f)).toInt64)))))))), (aro, .inl (cL, 5001, .inr (.inl ro))), (am, .inr (5, [.int 0, .ref acs, .ref afv, .ref atr, .ref aln, .ref aps, .ref ata, .int (nI c), .int (nI f), .int (nI t), .int ed, .ref aro, .ref akc, .ref akp, .ref akm, .ref akf, .ref aku, .ref ake, .ref aiw, .int (nI kb), .int cp, .int ct, .int dn])), (ata, .inl (cI, 6, .inl (upd ta2 (i % f) ((ta2 (i % f)) + 1)))), (aln, .inl (cI, 6, .inl ln))] H := hP
                  have hD : va_D A [(acs, .inl (cL, 12, .inr (.inl cs))), (afv, .inl (cL, 12, .inr (.inl fv))), (atr, .inl (cL, 12, .inr (.inl (vp_updL tr2 (i % c) ((tr2 (i % c)) + (((nI (i + 1)).toInt64) * ((1000 * (((nI (i % f)) + 1).toInt64)) + ((ta2 (i % f)).toInt64)))))))), (aro, .inl (cL, 5001, .inr (.inl ro))), (am, .inr (5, [.int 0, .ref acs, .ref afv, .ref atr, .ref aln, .ref aps, .ref ata, .int (nI c), .int (nI f), .int (nI t), .int ed, .ref aro, .ref akc, .ref akp, .ref akm, .ref akf, .ref aku, .ref ake, .ref aiw, .int (nI kb), .int cp, .int ct, .int dn])), (ata, .inl (cI, 6, .inl (upd ta2 (i % f) ((ta2 (i % f)) + 1)))), (aln, .inl (cI, 6, .inl ln))] := hD
                  refine lv_iload_n hx hb dX4_equal_189 rfl (lv_at hl 5 rfl) ?_
                  refine lv_if_eq (tgt := 216) hx hb dX4_equal_190 (by decide) (fun c_190 => ?_) (fun c_190 => ?_)
                  · refine lv_iconst (v := 0) hx hb dX4_equal_216 (by decide) ?_
                    refine lv_istore_n (lv' := [(1, .int 0), (7, .int (nI (i % c))), (5, .long ((1000 * (((nI (i % f)) + 1).toInt64)) + ((ta2 (i % f)).toInt64))), (4, .int 1), (3, .int (nI (i % f))), (2, .int (nI (i + 1))), (0, .ref am)]) hx hb dX4_equal_217 rfl hl (by decide) rfl (fun ls hl => ?_)
                    refine lv_iinc (v := (nI (i + 1 + 1))) (lv' := [(2, .int (nI (i + 1 + 1))), (1, .int 0), (7, .int (nI (i % c))), (5, .long ((1000 * (((nI (i % f)) + 1).toInt64)) + ((ta2 (i % f)).toInt64))), (4, .int 1), (3, .int (nI (i % f))), (0, .ref am)]) hx hb dX4_equal_218 hl (k := 5) rfl (nI_1 (i + 1)) (by decide) rfl (fun ls hl => ?_)
                    refine lv_goto (tgt := 60) hx hb dX4_equal_221 (by decide) ?_
                    have e1 : (upd ta2 (i % f) ((ta2 (i % f)) + 1)) = rd_p i f ta2 ln := st_p1 hf0 c_98
                    have e2 : (vp_updL tr2 (i % c) ((tr2 (i % c)) + (((nI (i + 1)).toInt64) * ((1000 * (((nI (i % f)) + 1).toInt64)) + ((ta2 (i % f)).toInt64))))) = du_c c i (rd_v i f ta2 ln) tr2 := st_c1 hc0 (st_v1 hf0 c_98).symm
                    have e4 : (vp_updL tr2 (i % c) ((tr2 (i % c)) + (((nI (i + 1)).toInt64) * ((1000 * (((nI (i % f)) + 1).toInt64)) + ((ta2 (i % f)).toInt64))))) (i % c) = du_r c i (rd_v i f ta2 ln) tr2 := em_v1 hc0 (st_v1 hf0 c_98).symm
                    exact ih (i + 1) (vp_updL tr2 (i % c) ((tr2 (i % c)) + (((nI (i + 1)).toInt64) * ((1000 * (((nI (i % f)) + 1).toInt64)) + ((ta2 (i % f)).toInt64))))) (upd ta2 (i % f) ((ta2 (i % f)) + 1)) 0 (by omega) (by omega) (Or.inl rfl) (by rw [e1, e2]; exact (em_s1 (by omega) c_72 hc0 (by rw [if_pos c_190])).symm.trans hem) _ _ (hP.sub [4, 0, 1, 2, 6, 5, 3] rfl) (hD.sub [4, 0, 1, 2, 6, 5, 3] (by decide) rfl) hS ls (lv_sub hl [0, 1, 6] rfl)
                  · refine lv_aload_n hx hb dX4_equal_193 rfl (lv_at hl 6 rfl) ?_
                    refine va_get (D := D) (ci := 5) (v := .ref aro) (C := RX4) (T := TX4) (N := 23) hx hb hts iX4 hown hK hP 4 rfl rfl 11 (by decide) wf29 (fun _ h9 => h9) rfl dX4_equal_194 ?_
                    refine lv_iload_n hx hb dX4_equal_197 rfl (lv_at hl 4 rfl) ?_
                    refine lv_iconst (v := 1) hx hb dX4_equal_198 (by decide) ?_
                    refine lv_isub hx hb dX4_equal_199 ?_
                    refine ct_topi (y := (nI i)) (nI_pred i) ?_
                    refine ct_lald (k := i) hx hb hK hP 3 1 rfl rfl (by omega) (by decide) dX4_equal_200 ?_
                    refine lv_aload_n hx hb dX4_equal_201 rfl (lv_at hl 6 rfl) ?_
                    refine va_get (D := D) (ci := 5) (v := .ref atr) (C := RX4) (T := TX4) (N := 23) hx hb hts iX4 hown hK hP 4 rfl rfl 3 (by decide) wf16 (fun _ h9 => h9) rfl dX4_equal_202 ?_
                    refine lv_iload hx hb dX4_equal_205 (lv_at hl 0 rfl) ?_
                    refine ct_lald (k := (i % c)) hx hb hK hP 2 1 rfl rfl (by omega) (by decide) dX4_equal_207 ?_
                    refine W.lcmp hx hb dX4_equal_208 ?_
                    refine lv_if_ne (tgt := 216) hx hb dX4_equal_209 (by decide) (fun c_209 => ?_) (fun c_209 => ?_)
                    · refine lv_iconst (v := 0) hx hb dX4_equal_216 (by decide) ?_
                      refine lv_istore_n (lv' := [(1, .int 0), (7, .int (nI (i % c))), (5, .long ((1000 * (((nI (i % f)) + 1).toInt64)) + ((ta2 (i % f)).toInt64))), (4, .int 1), (3, .int (nI (i % f))), (2, .int (nI (i + 1))), (0, .ref am)]) hx hb dX4_equal_217 rfl hl (by decide) rfl (fun ls hl => ?_)
                      refine lv_iinc (v := (nI (i + 1 + 1))) (lv' := [(2, .int (nI (i + 1 + 1))), (1, .int 0), (7, .int (nI (i % c))), (5, .long ((1000 * (((nI (i % f)) + 1).toInt64)) + ((ta2 (i % f)).toInt64))), (4, .int 1), (3, .int (nI (i % f))), (0, .ref am)]) hx hb dX4_equal_218 hl (k := 5) rfl (nI_1 (i + 1)) (by decide) rfl (fun ls hl => ?_)
                      refine lv_goto (tgt := 60) hx hb dX4_equal_221 (by decide) ?_
                      have e1 : (upd ta2 (i % f) ((ta2 (i % f)) + 1)) = rd_p i f ta2 ln := st_p1 hf0 c_98
                      have e2 : (vp_updL tr2 (i % c) ((tr2 (i % c)) + (((nI (i + 1)).toInt64) * ((1000 * (((nI (i % f)) + 1).toInt64)) + ((ta2 (i % f)).toInt64))))) = du_c c i (rd_v i f ta2 ln) tr2 := st_c1 hc0 (st_v1 hf0 c_98).symm
                      have e4 : (vp_updL tr2 (i % c) ((tr2 (i % c)) + (((nI (i + 1)).toInt64) * ((1000 * (((nI (i % f)) + 1).toInt64)) + ((ta2 (i % f)).toInt64))))) (i % c) = du_r c i (rd_v i f ta2 ln) tr2 := em_v1 hc0 (st_v1 hf0 c_98).symm
                      exact ih (i + 1) (vp_updL tr2 (i % c) ((tr2 (i % c)) + (((nI (i + 1)).toInt64) * ((1000 * (((nI (i % f)) + 1).toInt64)) + ((ta2 (i % f)).toInt64))))) (upd ta2 (i % f) ((ta2 (i % f)) + 1)) 0 (by omega) (by omega) (Or.inl rfl) (by rw [e1, e2]; exact (em_s1 (by omega) c_72 hc0 (by rw [if_neg c_190, if_neg (fun q => c_209 (cr_cmp0.mpr (q.trans e4.symm)))])).symm.trans hem) _ _ (hP.sub [4, 0, 1, 2, 6, 5, 3] rfl) (hD.sub [4, 0, 1, 2, 6, 5, 3] (by decide) rfl) hS ls (lv_sub hl [0, 1, 6] rfl)
                    · refine lv_iconst (v := 1) hx hb dX4_equal_212 (by decide) ?_
                      refine lv_goto (tgt := 217) hx hb dX4_equal_213 (by decide) ?_
                      refine lv_istore_n (lv' := [(1, .int 1), (7, .int (nI (i % c))), (5, .long ((1000 * (((nI (i % f)) + 1).toInt64)) + ((ta2 (i % f)).toInt64))), (4, .int 1), (3, .int (nI (i % f))), (2, .int (nI (i + 1))), (0, .ref am)]) hx hb dX4_equal_217 rfl hl (by decide) rfl (fun ls hl => ?_)
                      refine lv_iinc (v := (nI (i + 1 + 1))) (lv' := [(2, .int (nI (i + 1 + 1))), (1, .int 1), (7, .int (nI (i % c))), (5, .long ((1000 * (((nI (i % f)) + 1).toInt64)) + ((ta2 (i % f)).toInt64))), (4, .int 1), (3, .int (nI (i % f))), (0, .ref am)]) hx hb dX4_equal_218 hl (k := 5) rfl (nI_1 (i + 1)) (by decide) rfl (fun ls hl => ?_)
                      refine lv_goto (tgt := 60) hx hb dX4_equal_221 (by decide) ?_
                      have e1 : (upd ta2 (i % f) ((ta2 (i % f)) + 1)) = rd_p i f ta2 ln := st_p1 hf0 c_98
                      have e2 : (vp_updL tr2 (i % c) ((tr2 (i % c)) + (((nI (i + 1)).toInt64) * ((1000 * (((nI (i % f)) + 1).toInt64)) + ((ta2 (i % f)).toInt64))))) = du_c c i (rd_v i f ta2 ln) tr2 := st_c1 hc0 (st_v1 hf0 c_98).symm
                      have e4 : (vp_updL tr2 (i % c) ((tr2 (i % c)) + (((nI (i + 1)).toInt64) * ((1000 * (((nI (i % f)) + 1).toInt64)) + ((ta2 (i % f)).toInt64))))) (i % c) = du_r c i (rd_v i f ta2 ln) tr2 := em_v1 hc0 (st_v1 hf0 c_98).symm
                      exact ih (i + 1) (vp_updL tr2 (i % c) ((tr2 (i % c)) + (((nI (i + 1)).toInt64) * ((1000 * (((nI (i % f)) + 1).toInt64)) + ((ta2 (i % f)).toInt64))))) (upd ta2 (i % f) ((ta2 (i % f)) + 1)) 1 (by omega) (by omega) (Or.inr rfl) (by rw [e1, e2]; exact (em_s1 (by omega) c_72 hc0 (by rw [if_neg c_190, if_pos ((cr_cmp0.mp c_209).trans e4)])).symm.trans hem) _ _ (hP.sub [4, 0, 1, 2, 6, 5, 3] rfl) (hD.sub [4, 0, 1, 2, 6, 5, 3] (by decide) rfl) hS ls (lv_sub hl [0, 1, 6] rfl)
              · have hc0 : c = 0 := cr_nI0 (by omega) c_149
                refine lv_goto (tgt := 218) hx hb dX4_equal_152 (by decide) ?_
                refine lv_iinc (v := (nI (i + 1 + 1))) (lv' := [(2, .int (nI (i + 1 + 1))), (5, .long ((1000 * (((nI (i % f)) + 1).toInt64)) + ((ta2 (i % f)).toInt64))), (4, .int 1), (3, .int (nI (i % f))), (1, .int b), (0, .ref am)]) hx hb dX4_equal_218 hl (k := 3) rfl (nI_1 (i + 1)) (by decide) rfl (fun ls hl => ?_)
                refine lv_goto (tgt := 60) hx hb dX4_equal_221 (by decide) ?_
                have e1 : (upd ta2 (i % f) ((ta2 (i % f)) + 1)) = rd_p i f ta2 ln := st_p1 hf0 c_98
                exact ih (i + 1) tr2 (upd ta2 (i % f) ((ta2 (i % f)) + 1)) b (by omega) (by omega) hb01 (by rw [e1]; exact (em_s0 (by omega) c_72 hc0).symm.trans hem) _ _ (hP.sub [4, 0, 1, 2, 6, 5, 3] rfl) (hD.sub [4, 0, 1, 2, 6, 5, 3] (by decide) rfl) hS ls (lv_sub hl [0, 4, 5] rfl)
        · refine lv_iconst (v := 0) hx hb dX4_equal_75 (by decide) ?_
          have hP9 := hP.sub (ws' := [(am, .inr (5, [.int 0, .ref acs, .ref afv, .ref atr, .ref aln, .ref aps, .ref ata, .int (nI c), .int (nI f), .int (nI t), .int ed, .ref aro, .ref akc, .ref akp, .ref akm, .ref akf, .ref aku, .ref ake, .ref aiw, .int (nI kb), .int cp, .int ct, .int dn])), (acs, .inl (cL, 12, .inr (.inl cs))), (afv, .inl (cL, 12, .inr (.inl fv))), (atr, .inl (cL, 12, .inr (.inl tr2))), (aln, .inl (cI, 6, .inl ln)), (ata, .inl (cI, 6, .inl ta2)), (aro, .inl (cL, 5001, .inr (.inl ro)))]) [4, 0, 1, 2, 6, 5, 3] rfl
          have hD9 := hD.sub (ws' := [(am, .inr (5, [.int 0, .ref acs, .ref afv, .ref atr, .ref aln, .ref aps, .ref ata, .int (nI c), .int (nI f), .int (nI t), .int ed, .ref aro, .ref akc, .ref akp, .ref akm, .ref akf, .ref aku, .ref ake, .ref aiw, .int (nI kb), .int cp, .int ct, .int dn])), (acs, .inl (cL, 12, .inr (.inl cs))), (afv, .inl (cL, 12, .inr (.inl fv))), (atr, .inl (cL, 12, .inr (.inl tr2))), (aln, .inl (cI, 6, .inl ln)), (ata, .inl (cI, 6, .inl ta2)), (aro, .inl (cL, 5001, .inr (.inl ro)))]) [4, 0, 1, 2, 6, 5, 3] (by decide) rfl
          refine W.widen (k := 0) (n := 0) (Nat.le_of_ble_eq_true rfl) (Nat.le_of_ble_eq_true rfl) ?_
          exact W.zret (v := 0) hx hb hr (rfl) (fun t9 ht9 hW9 => ⟨⟨0, (tr2, ta2), rfl, by rw [← hem]; exact em_end (by omega) c_72, by rw [ht9]; exact hP9, va_K.moved hW9.alike hK, hD9⟩, hS.F ht9⟩) hS.2.2 dX4_equal_76
  have key35 : ∀ (n : Nat) (i : Nat) (ta2 : Nat → Int32), (i ≤ f) → (f + 1 ≤ i + n) → (ta2 = so_p ta i) → ∀ (H : Heap) (locs : List Loc), va_P D vwCl [(am, .inr (5, [.int 0, .ref acs, .ref afv, .ref atr, .ref aln, .ref aps, .ref ata, .int (nI c), .int (nI f), .int (nI t), .int ed, .ref aro, .ref akc, .ref akp, .ref akm, .ref akf, .ref aku, .ref ake, .ref aiw, .int (nI kb), .int cp, .int ct, .int dn])), (acs, .inl (cL, 12, .inr (.inl cs))), (afv, .inl (cL, 12, .inr (.inl fv))), (atr, .inl (cL, 12, .inr (.inl (so_c tr fv c)))), (aln, .inl (cI, 6, .inl ln)), (ata, .inl (cI, 6, .inl ta2)), (aro, .inl (cL, 5001, .inr (.inl ro)))] H → va_D A [(am, .inr (5, [.int 0, .ref acs, .ref afv, .ref atr, .ref aln, .ref aps, .ref ata, .int (nI c), .int (nI f), .int (nI t), .int ed, .ref aro, .ref akc, .ref akp, .ref akm, .ref akf, .ref aku, .ref ake, .ref aiw, .int (nI kb), .int cp, .int ct, .int dn])), (acs, .inl (cL, 12, .inr (.inl cs))), (afv, .inl (cL, 12, .inr (.inl fv))), (atr, .inl (cL, 12, .inr (.inl (so_c tr fv c)))), (aln, .inl (cI, 6, .inl ln)), (ata, .inl (cI, 6, .inl ta2)), (aro, .inl (cL, 5001, .inr (.inl ro)))] → va_S A s.heap H locs → ∀ (ls : Array Slot), lv_has ls 8 [(1, .int (nI i)), (0, .ref am)] → W p l e (headSpec wsX4_equal rm_X4_equal).room s m ([.ref am] : List Value).toArray below meth cd H locs 0 0 (MQ below (qc_X4_equal D cI cL cZ am acs afv atr aln aps ata aro akc akp akm akf aku ake aiw cde c f t kb ed cp ct dn cs fv tr ln ta ro A) ([.ref am] : List Value).toArray s 0 0 A) (F0 m 35 ls []) := by
    intro n
    induction n with
    | zero => intro i ta2 hi hm hta; exact absurd hm (by omega)
    | succ n ih =>
      intro i ta2 hi hm hta H locs hP hD hS ls hl
      refine lv_iload_n hx hb dX4_equal_35 rfl (lv_at hl 0 rfl) ?_
      refine lv_aload_n hx hb dX4_equal_36 rfl (lv_at hl 1 rfl) ?_
      refine va_get (D := D) (ci := 5) (v := .int (nI f)) (C := RX4) (T := TX4) (N := 23) hx hb hts iX4 hown hK hP 0 rfl rfl 8 (by decide) wf68 (fun _ h9 => h9) rfl dX4_equal_37 ?_
      refine lv_icmp_ge (tgt := 56) hx hb dX4_equal_40 (by decide) (fun c_40 => ?_) (fun c_40 => ?_)
      · have h1 : f ≤ i := (nI_leI (by omega) (by omega)).mp c_40
        have h2 : i = f := by omega
        have hta : ta2 = so_p ta f := by rw [hta, h2]
        subst hta
        refine lv_iconst (v := 1) hx hb dX4_equal_56 (by decide) ?_
        refine lv_istore_n (lv' := [(1, .int 1), (0, .ref am)]) hx hb dX4_equal_57 rfl hl (by decide) rfl (fun ls hl => ?_)
        refine lv_iconst (v := 1) hx hb dX4_equal_58 (by decide) ?_
        refine lv_istore_n (lv' := [(2, .int 1), (1, .int 1), (0, .ref am)]) hx hb dX4_equal_59 rfl hl (by decide) rfl (fun ls hl => ?_)
        exact key60 (t + 1) 0 (so_c tr fv c) (so_p ta f) 1 (by omega) (by omega) (Or.inr rfl) rfl _ _ (hP.sub [0, 1, 2, 3, 4, 5, 6] rfl) (hD.sub [0, 1, 2, 3, 4, 5, 6] (by decide) rfl) hS ls (lv_sub hl [0, 1, 2] rfl)
      · have h1 : ¬ f ≤ i := fun h => c_40 ((nI_leI (by omega) (by omega)).mpr h)
        refine lv_aload_n hx hb dX4_equal_43 rfl (lv_at hl 1 rfl) ?_
        refine va_get (D := D) (ci := 5) (v := .ref ata) (C := RX4) (T := TX4) (N := 23) hx hb hts iX4 hown hK hP 0 rfl rfl 6 (by decide) wf26 (fun _ h9 => h9) rfl dX4_equal_44 ?_
        refine lv_iload_n hx hb dX4_equal_47 rfl (lv_at hl 0 rfl) ?_
        refine lv_iconst (v := 0) hx hb dX4_equal_48 (by decide) ?_
        refine ct_iast (k := i) hx hb hK hP hD hS 5 0 rfl rfl (by omega) (by decide) dX4_equal_49 (fun H locs hP hD hS => ?_)
        have hP : va_P D vwCl [(am, .inr (5, [.int 0, .ref acs, .ref afv, .ref atr, .ref aln, .ref aps, .ref ata, .int (nI c), .int (nI f), .int (nI t), .int ed, .ref aro, .ref akc, .ref akp, .ref akm, .ref akf, .ref aku, .ref ake, .ref aiw, .int (nI kb), .int cp, .int ct, .int dn])), (acs, .inl (cL, 12, .inr (.inl cs))), (afv, .inl (cL, 12, .inr (.inl fv))), (atr, .inl (cL, 12, .inr (.inl (so_c tr fv c)))), (aln, .inl (cI, 6, .inl ln)), (ata, .inl (cI, 6, .inl (upd ta2 i 0))), (aro, .inl (cL, 5001, .inr (.inl ro)))] H := hP
        have hD : va_D A [(am, .inr (5, [.int 0, .ref acs, .ref afv, .ref atr, .ref aln, .ref aps, .ref ata, .int (nI c), .int (nI f), .int (nI t), .int ed, .ref aro, .ref akc, .ref akp, .ref akm, .ref akf, .ref aku, .ref ake, .ref aiw, .int (nI kb), .int cp, .int ct, .int dn])), (acs, .inl (cL, 12, .inr (.inl cs))), (afv, .inl (cL, 12, .inr (.inl fv))), (atr, .inl (cL, 12, .inr (.inl (so_c tr fv c)))), (aln, .inl (cI, 6, .inl ln)), (ata, .inl (cI, 6, .inl (upd ta2 i 0))), (aro, .inl (cL, 5001, .inr (.inl ro)))] := hD
        refine lv_iinc (v := (nI (i + 1))) (lv' := [(1, .int (nI (i + 1))), (0, .ref am)]) hx hb dX4_equal_50 hl (k := 0) rfl (nI_1 i) (by decide) rfl (fun ls hl => ?_)
        refine lv_goto (tgt := 35) hx hb dX4_equal_53 (by decide) ?_
        exact ih ((i + 1)) (upd ta2 i 0) (by omega) (by omega) (by rw [hta]; exact so_p_step ta i) _ _ (hP.sub [0, 1, 2, 3, 4, 5, 6] rfl) (hD.sub [0, 1, 2, 3, 4, 5, 6] (by decide) rfl) hS ls (lv_sub hl [0, 1] rfl)
  have key7 : ∀ (n : Nat) (i : Nat) (tr2 : Nat → Int64), (i ≤ c) → (c + 1 ≤ i + n) → (tr2 = so_c tr fv i) → ∀ (H : Heap) (locs : List Loc), va_P D vwCl [(am, .inr (5, [.int 0, .ref acs, .ref afv, .ref atr, .ref aln, .ref aps, .ref ata, .int (nI c), .int (nI f), .int (nI t), .int ed, .ref aro, .ref akc, .ref akp, .ref akm, .ref akf, .ref aku, .ref ake, .ref aiw, .int (nI kb), .int cp, .int ct, .int dn])), (acs, .inl (cL, 12, .inr (.inl cs))), (afv, .inl (cL, 12, .inr (.inl fv))), (atr, .inl (cL, 12, .inr (.inl tr2))), (aln, .inl (cI, 6, .inl ln)), (ata, .inl (cI, 6, .inl ta)), (aro, .inl (cL, 5001, .inr (.inl ro)))] H → va_D A [(am, .inr (5, [.int 0, .ref acs, .ref afv, .ref atr, .ref aln, .ref aps, .ref ata, .int (nI c), .int (nI f), .int (nI t), .int ed, .ref aro, .ref akc, .ref akp, .ref akm, .ref akf, .ref aku, .ref ake, .ref aiw, .int (nI kb), .int cp, .int ct, .int dn])), (acs, .inl (cL, 12, .inr (.inl cs))), (afv, .inl (cL, 12, .inr (.inl fv))), (atr, .inl (cL, 12, .inr (.inl tr2))), (aln, .inl (cI, 6, .inl ln)), (ata, .inl (cI, 6, .inl ta)), (aro, .inl (cL, 5001, .inr (.inl ro)))] → va_S A s.heap H locs → ∀ (ls : Array Slot), lv_has ls 8 [(1, .int (nI i)), (0, .ref am)] → W p l e (headSpec wsX4_equal rm_X4_equal).room s m ([.ref am] : List Value).toArray below meth cd H locs 0 0 (MQ below (qc_X4_equal D cI cL cZ am acs afv atr aln aps ata aro akc akp akm akf aku ake aiw cde c f t kb ed cp ct dn cs fv tr ln ta ro A) ([.ref am] : List Value).toArray s 0 0 A) (F0 m 7 ls []) := by
    intro n
    induction n with
    | zero => intro i tr2 hi hm htr; exact absurd hm (by omega)
    | succ n ih =>
      intro i tr2 hi hm htr H locs hP hD hS ls hl
      refine lv_iload_n hx hb dX4_equal_7 rfl (lv_at hl 0 rfl) ?_
      refine lv_aload_n hx hb dX4_equal_8 rfl (lv_at hl 1 rfl) ?_
      refine va_get (D := D) (ci := 5) (v := .int (nI c)) (C := RX4) (T := TX4) (N := 23) hx hb hts iX4 hown hK hP 0 rfl rfl 7 (by decide) wf65 (fun _ h9 => h9) rfl dX4_equal_9 ?_
      refine lv_icmp_ge (tgt := 33) hx hb dX4_equal_12 (by decide) (fun c_12 => ?_) (fun c_12 => ?_)
      · have h1 : c ≤ i := (nI_leI (by omega) (by omega)).mp c_12
        have h2 : i = c := by omega
        have htr : tr2 = so_c tr fv c := by rw [htr, h2]
        subst htr
        refine lv_iconst (v := 0) hx hb dX4_equal_33 (by decide) ?_
        refine lv_istore_n (lv' := [(1, .int 0), (0, .ref am)]) hx hb dX4_equal_34 rfl hl (by decide) rfl (fun ls hl => ?_)
        exact key35 (f + 1) 0 ta (by omega) (by omega) (so_p_0 ta) _ _ (hP.sub [0, 1, 2, 3, 4, 5, 6] rfl) (hD.sub [0, 1, 2, 3, 4, 5, 6] (by decide) rfl) hS ls (lv_sub hl [0, 1] rfl)
      · have h1 : ¬ c ≤ i := fun h => c_12 ((nI_leI (by omega) (by omega)).mpr h)
        refine lv_aload_n hx hb dX4_equal_15 rfl (lv_at hl 1 rfl) ?_
        refine va_get (D := D) (ci := 5) (v := .ref atr) (C := RX4) (T := TX4) (N := 23) hx hb hts iX4 hown hK hP 0 rfl rfl 3 (by decide) wf16 (fun _ h9 => h9) rfl dX4_equal_16 ?_
        refine lv_iload_n hx hb dX4_equal_19 rfl (lv_at hl 0 rfl) ?_
        refine lv_aload_n hx hb dX4_equal_20 rfl (lv_at hl 1 rfl) ?_
        refine va_get (D := D) (ci := 5) (v := .ref afv) (C := RX4) (T := TX4) (N := 23) hx hb hts iX4 hown hK hP 0 rfl rfl 2 (by decide) wf13 (fun _ h9 => h9) rfl dX4_equal_21 ?_
        refine lv_iload_n hx hb dX4_equal_24 rfl (lv_at hl 0 rfl) ?_
        refine ct_lald (k := i) hx hb hK hP 2 1 rfl rfl (by omega) (by decide) dX4_equal_25 ?_
        refine ct_last (k := i) hx hb hK hP hD hS 3 1 rfl rfl (by omega) (by decide) dX4_equal_26 (fun H locs hP hD hS => ?_)
        have hP : va_P D vwCl [(am, .inr (5, [.int 0, .ref acs, .ref afv, .ref atr, .ref aln, .ref aps, .ref ata, .int (nI c), .int (nI f), .int (nI t), .int ed, .ref aro, .ref akc, .ref akp, .ref akm, .ref akf, .ref aku, .ref ake, .ref aiw, .int (nI kb), .int cp, .int ct, .int dn])), (acs, .inl (cL, 12, .inr (.inl cs))), (afv, .inl (cL, 12, .inr (.inl fv))), (atr, .inl (cL, 12, .inr (.inl (vp_updL tr2 i (fv i))))), (aln, .inl (cI, 6, .inl ln)), (ata, .inl (cI, 6, .inl ta)), (aro, .inl (cL, 5001, .inr (.inl ro)))] H := hP
        have hD : va_D A [(am, .inr (5, [.int 0, .ref acs, .ref afv, .ref atr, .ref aln, .ref aps, .ref ata, .int (nI c), .int (nI f), .int (nI t), .int ed, .ref aro, .ref akc, .ref akp, .ref akm, .ref akf, .ref aku, .ref ake, .ref aiw, .int (nI kb), .int cp, .int ct, .int dn])), (acs, .inl (cL, 12, .inr (.inl cs))), (afv, .inl (cL, 12, .inr (.inl fv))), (atr, .inl (cL, 12, .inr (.inl (vp_updL tr2 i (fv i))))), (aln, .inl (cI, 6, .inl ln)), (ata, .inl (cI, 6, .inl ta)), (aro, .inl (cL, 5001, .inr (.inl ro)))] := hD
        refine lv_iinc (v := (nI (i + 1))) (lv' := [(1, .int (nI (i + 1))), (0, .ref am)]) hx hb dX4_equal_27 hl (k := 0) rfl (nI_1 i) (by decide) rfl (fun ls hl => ?_)
        refine lv_goto (tgt := 7) hx hb dX4_equal_30 (by decide) ?_
        exact ih ((i + 1)) (vp_updL tr2 i (fv i)) (by omega) (by omega) (by rw [htr]; exact so_c_step tr fv i) _ _ (hP.sub [0, 1, 2, 3, 4, 5, 6] rfl) (hD.sub [0, 1, 2, 3, 4, 5, 6] (by decide) rfl) hS ls (lv_sub hl [0, 1] rfl)
  refine lv_aload_n hx hb dX4_equal_0 rfl (lv_at hl 0 rfl) ?_
  refine lv_iconst (v := 0) hx hb dX4_equal_1 (by decide) ?_
  refine va_put (D := D) (ci := 5) (v := .int 0) (ty := .int) (C := RX4) (T := TX4) (N := 23) hx hb hts iX4 tyX4 tyX4_ok nmX4 hown hK hP hD hS 0 rfl rfl 0 (by decide) wf54 (fun _ h9 => h9) rfl (by decide +kernel) rfl rfl (Nat.le_of_ble_eq_true rfl) dX4_equal_2 (fun H locs hP hD hS => ?_)
  have hP : va_P D vwCl [(am, .inr (5, [.int 0, .ref acs, .ref afv, .ref atr, .ref aln, .ref aps, .ref ata, .int (nI c), .int (nI f), .int (nI t), .int ed, .ref aro, .ref akc, .ref akp, .ref akm, .ref akf, .ref aku, .ref ake, .ref aiw, .int (nI kb), .int cp, .int ct, .int dn])), (acs, .inl (cL, 12, .inr (.inl cs))), (afv, .inl (cL, 12, .inr (.inl fv))), (atr, .inl (cL, 12, .inr (.inl tr))), (aln, .inl (cI, 6, .inl ln)), (ata, .inl (cI, 6, .inl ta)), (aro, .inl (cL, 5001, .inr (.inl ro)))] H := hP
  have hD : va_D A [(am, .inr (5, [.int 0, .ref acs, .ref afv, .ref atr, .ref aln, .ref aps, .ref ata, .int (nI c), .int (nI f), .int (nI t), .int ed, .ref aro, .ref akc, .ref akp, .ref akm, .ref akf, .ref aku, .ref ake, .ref aiw, .int (nI kb), .int cp, .int ct, .int dn])), (acs, .inl (cL, 12, .inr (.inl cs))), (afv, .inl (cL, 12, .inr (.inl fv))), (atr, .inl (cL, 12, .inr (.inl tr))), (aln, .inl (cI, 6, .inl ln)), (ata, .inl (cI, 6, .inl ta)), (aro, .inl (cL, 5001, .inr (.inl ro)))] := hD
  refine lv_iconst (v := 0) hx hb dX4_equal_5 (by decide) ?_
  refine lv_istore_n (lv' := [(1, .int 0), (0, .ref am)]) hx hb dX4_equal_6 rfl hl (by decide) rfl (fun ls hl => ?_)
  exact key7 (c + 1) 0 tr (by omega) (by omega) (so_c_0 tr fv) _ _ (hP.sub [0, 1, 2, 3, 4, 5, 6] rfl) (hD.sub [0, 1, 2, 3, 4, 5, 6] (by decide) rfl) hS ls (lv_sub hl [0, 1] rfl)
