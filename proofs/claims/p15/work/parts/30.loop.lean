set_option maxHeartbeats 4000000 in
set_option maxRecDepth 100000 in
theorem law_loop {p : Program} {l : Launch} {e : Env} {s : State} {m : MethodId} {below : List Frame} {meth : Method} {cd : Code} (hl0 : l.stackTraces = false) {b L : Nat} {xs : Nat → Int32} (C0 : lw_At p s m meth cd b L xs) (hLN : L ≤ 1536) (D : va_G) (cI cL cZ : ClassId) (A : Nat → Prop) (hA : ∀ q, s.heap.size ≤ q → A q) (hbA : ¬ A b) (hK : va_K D vwCl [(cI, .int), (cL, .long), (cZ, .boolean)] s) (sa sr : Nat) (hZ : zx_P RX3 113 "no such cell" eI nsI sa A s) (hZr : zx_P RX3 143 "no such row" eA nsA sr A s) (ax aj af al ap apc app ar arc arp arow ak akw ake aku akn akc akp am macs mafv matr maln maps mata maro makc makp makm makf maku make maiw ao : Nat) (hA2 : ∀ q, A q → s.heap.size ≤ q) : ∀ (n j : Nat) (c : Nat) (f : Nat) (t : Nat) (kb : Nat) (ed : Int32) (dn : Int32) (cp : Int32) (ct : Int32) (mct : Int32) (cde : Int32) (ru : Int32) (fv : Nat → Int64) (ln : Nat → Int32) (cs : Nat → Int64) (ps : Nat → Int32) (ro : Nat → Int64) (rcs : Nat → Int64) (rps : Nat → Int32) (kw : Nat → Int32) (ke : Nat → Int32) (ku : Nat → Int32) (kn : Nat → Int32) (kc : Nat → Int64) (kp : Nat → Int32) (tr : Nat → Int64) (ta : Nat → Int32) (mkc : Nat → Int64) (mkp : Nat → Int32) (mkm : Nat → Int32) (mkf : Nat → Int32) (mku : Nat → Int32) (mke : Nat → Int32) (iw : Nat → Int32) (out : Nat → Int64), L + 3 ≤ 3 * j + 3 * n → 3 * j ≤ L → simI c f t kb dn cp ln ps ro kw ke ku kn kc kp iw mke mku mkm mkf mkc mkp → ∀ (H : Heap) (locs : List Loc), va_P D vwCl (lwW cI cL cZ ax aj af al ap apc app ar arc arp arow ak akw ake aku akn akc akp am macs mafv matr maln maps mata maro makc makp makm makf maku make maiw ao c f t kb ed dn cp ct mct cde ru fv ln cs ps ro rcs rps kw ke ku kn kc kp tr ta mkc mkp mkm mkf mku mke iw out) H → va_D A (lwW cI cL cZ ax aj af al ap apc app ar arc arp arow ak akw ake aku akn akc akp am macs mafv matr maln maps mata maro makc makp makm makf maku make maiw ao c f t kb ed dn cp ct mct cde ru fv ln cs ps ro rcs rps kw ke ku kn kc kp tr ta mkc mkp mkm mkf mku mke iw out) → va_S A s.heap H locs → ∀ (ls : Array Slot), lv_has ls 8 [(0, .ref b), (1, .ref ax), (2, .ref am), (3, .ref ao), (4, .int (nI (3 * j)))] → W p l e room_1 s m #[Value.ref b] below meth cd H locs (34 + j) (14684 + 6 * j) (lw_Z below #[Value.ref b] s) (F0 m 23 ls []) := by
  intro n
  induction n with
  | zero => intro j c f t kb ed dn cp ct mct cde ru fv ln cs ps ro rcs rps kw ke ku kn kc kp tr ta mkc mkp mkm mkf mku mke iw out hm hj; omega
  | succ n ih =>
    intro j c f t kb ed dn cp ct mct cde ru fv ln cs ps ro rcs rps kw ke ku kn kc kp tr ta mkc mkp mkm mkf mku mke iw out hm hj hI H locs hP hD hS ls hl
    obtain ⟨hx, hb, hr, hml, hown, htb, hX, hbl, hlocks, hgv⟩ := id C0
    refine lv_iload hx hb dL_law_23 (lv_at hl 4 rfl) ?_
    refine lv_aload_n hx hb dL_law_25 rfl (lv_at hl 0 rfl) ?_
    refine va_slen hx hb hX hbl hbA hS dL_law_26 ?_
    refine lv_iconst (v := 3) hx hb dL_law_27 (by decide) ?_
    refine lv_isub hx hb dL_law_28 ?_
    refine lv_icmp_gt (tgt := 519) hx hb dL_law_29 (by decide) (fun c_29 => ?_) (fun c_29 => ?_)
    · refine lv_iconst (v := 1) hx hb dL_law_519 (by decide) ?_
      refine va_forget (fun q hq => hA2 _ (hS.2.2 q hq)) ?_
      refine W.widen (k := 1060) (n := 22888) (by omega) (by omega) ?_
      exact lw_ret hx hb hr hlocks dL_law_520
    · have hjl : 3 * j + 3 ≤ L := law_in (by omega) (by omega) c_29
      have tail : ∀ (c : Nat) (f : Nat) (t : Nat) (kb : Nat) (ed : Int32) (dn : Int32) (cp : Int32) (ct : Int32) (mct : Int32) (cde : Int32) (ru : Int32) (fv : Nat → Int64) (ln : Nat → Int32) (cs : Nat → Int64) (ps : Nat → Int32) (ro : Nat → Int64) (rcs : Nat → Int64) (rps : Nat → Int32) (kw : Nat → Int32) (ke : Nat → Int32) (ku : Nat → Int32) (kn : Nat → Int32) (kc : Nat → Int64) (kp : Nat → Int32) (tr : Nat → Int64) (ta : Nat → Int32) (mkc : Nat → Int64) (mkp : Nat → Int32) (mkm : Nat → Int32) (mkf : Nat → Int32) (mku : Nat → Int32) (mke : Nat → Int32) (iw : Nat → Int32) (out : Nat → Int64), simI c f t kb dn cp ln ps ro kw ke ku kn kc kp iw mke mku mkm mkf mkc mkp → ∀ (H : Heap) (locs : List Loc), va_P D vwCl (lwW cI cL cZ ax aj af al ap apc app ar arc arp arow ak akw ake aku akn akc akp am macs mafv matr maln maps mata maro makc makp makm makf maku make maiw ao c f t kb ed dn cp ct mct cde ru fv ln cs ps ro rcs rps kw ke ku kn kc kp tr ta mkc mkp mkm mkf mku mke iw out) H → va_D A (lwW cI cL cZ ax aj af al ap apc app ar arc arp arow ak akw ake aku akn akc akp am macs mafv matr maln maps mata maro makc makp makm makf maku make maiw ao c f t kb ed dn cp ct mct cde ru fv ln cs ps ro rcs rps kw ke ku kn kc kp tr ta mkc mkp mkm mkf mku mke iw out) → va_S A s.heap H locs → ∀ (ls : Array Slot), lv_has ls 8 [(0, .ref b), (1, .ref ax), (2, .ref am), (3, .ref ao), (4, .int (nI (3 * j)))] → W p l e room_1 s m #[Value.ref b] below meth cd H locs (34 + j + 1) (14684 + 6 * j + 6) (lw_Z below #[Value.ref b] s) (F0 m 513 ls []) := by
        intro c f t kb ed dn cp ct mct cde ru fv ln cs ps ro rcs rps kw ke ku kn kc kp tr ta mkc mkp mkm mkf mku mke iw out hI H locs hP hD hS ls hl
        refine lv_iinc (v := nI (3 * (j + 1))) (lv' := [(4, .int (nI (3 * (j + 1)))), (0, .ref b), (1, .ref ax), (2, .ref am), (3, .ref ao)]) hx hb dL_law_513 hl (k := 4) rfl (by rw [show 3 * (j + 1) = 3 * j + 3 by omega]; exact nI_add (3 * j) 3) (by decide) rfl (fun ls hl => ?_)
        refine lv_goto (tgt := 23) hx hb dL_law_516 (by decide) ?_
        refine W.widen (k := 34 + (j + 1)) (n := 14684 + 6 * (j + 1)) (by omega) (by omega) ?_
        exact ih (j + 1) c f t kb ed dn cp ct mct cde ru fv ln cs ps ro rcs rps kw ke ku kn kc kp tr ta mkc mkp mkm mkf mku mke iw out (by omega) (by omega) hI H locs hP hD hS ls (lv_sub hl [1, 2, 3, 4, 0] rfl)
      refine lv_aload_n hx hb dL_law_32 rfl (lv_at hl 0 rfl) ?_
      refine lv_iload hx hb dL_law_33 (lv_at hl 4 rfl) ?_
      refine ct_sld (k := 3 * j) hx hb hX hbl hbA hS (by omega) (by omega) dL_law_35 ?_
      refine lv_bipush (v := 15) hx hb dL_law_36 (by decide) ?_
      refine lv_iand hx hb dL_law_38 ?_
      refine lv_topi (fun y ey => ?_)
      have hk9 : 34 + j + 1 ≤ room_1.cells := show 34 + j + 1 ≤ 1060 by omega
      have hn9 : 14684 + 6 * j + 6 ≤ room_1.slots := show 14684 + 6 * j + 6 ≤ 22888 by omega
      by_cases sw_0 : y = 0
      · rw [sw_0]
        refine lv_tableIn (tgt := 112) hx hb dL_law_39 (by decide) (by decide) rfl (by decide) ?_
        exact lc_0 hl0 C0 hLN D cI cL cZ A hA hbA hK sa sr hZ hZr ax aj af al ap apc app ar arc arp arow ak akw ake aku akn akc akp am macs mafv matr maln maps mata maro makc makp makm makf maku make maiw ao (34 + j) (14684 + 6 * j) hk9 hn9 j hjl c f t kb ed dn cp ct mct cde ru fv ln cs ps ro rcs rps kw ke ku kn kc kp tr ta mkc mkp mkm mkf mku mke iw out hI H locs hP hD hS ls hl tail
      by_cases sw_1 : y = 1
      · rw [sw_1]
        refine lv_tableIn (tgt := 169) hx hb dL_law_39 (by decide) (by decide) rfl (by decide) ?_
        exact lc_1 hl0 C0 hLN D cI cL cZ A hA hbA hK sa sr hZ hZr ax aj af al ap apc app ar arc arp arow ak akw ake aku akn akc akp am macs mafv matr maln maps mata maro makc makp makm makf maku make maiw ao (34 + j) (14684 + 6 * j) hk9 hn9 j hjl c f t kb ed dn cp ct mct cde ru fv ln cs ps ro rcs rps kw ke ku kn kc kp tr ta mkc mkp mkm mkf mku mke iw out hI H locs hP hD hS ls hl tail
      by_cases sw_2 : y = 2
      · rw [sw_2]
        refine lv_tableIn (tgt := 194) hx hb dL_law_39 (by decide) (by decide) rfl (by decide) ?_
        exact lc_2 hl0 C0 hLN D cI cL cZ A hA hbA hK sa sr hZ hZr ax aj af al ap apc app ar arc arp arow ak akw ake aku akn akc akp am macs mafv matr maln maps mata maro makc makp makm makf maku make maiw ao (34 + j) (14684 + 6 * j) hk9 hn9 j hjl c f t kb ed dn cp ct mct cde ru fv ln cs ps ro rcs rps kw ke ku kn kc kp tr ta mkc mkp mkm mkf mku mke iw out hI H locs hP hD hS ls hl tail
      by_cases sw_3 : y = 3
      · rw [sw_3]
        refine lv_tableIn (tgt := 219) hx hb dL_law_39 (by decide) (by decide) rfl (by decide) ?_
        exact lc_3 hl0 C0 hLN D cI cL cZ A hA hbA hK sa sr hZ hZr ax aj af al ap apc app ar arc arp arow ak akw ake aku akn akc akp am macs mafv matr maln maps mata maro makc makp makm makf maku make maiw ao (34 + j) (14684 + 6 * j) hk9 hn9 j hjl c f t kb ed dn cp ct mct cde ru fv ln cs ps ro rcs rps kw ke ku kn kc kp tr ta mkc mkp mkm mkf mku mke iw out hI H locs hP hD hS ls hl tail
      by_cases sw_4 : y = 4
      · rw [sw_4]
        refine lv_tableIn (tgt := 232) hx hb dL_law_39 (by decide) (by decide) rfl (by decide) ?_
        exact lc_4 hl0 C0 hLN D cI cL cZ A hA hbA hK sa sr hZ hZr ax aj af al ap apc app ar arc arp arow ak akw ake aku akn akc akp am macs mafv matr maln maps mata maro makc makp makm makf maku make maiw ao (34 + j) (14684 + 6 * j) hk9 hn9 j hjl c f t kb ed dn cp ct mct cde ru fv ln cs ps ro rcs rps kw ke ku kn kc kp tr ta mkc mkp mkm mkf mku mke iw out hI H locs hP hD hS ls hl tail
      by_cases sw_5 : y = 5
      · rw [sw_5]
        refine lv_tableIn (tgt := 257) hx hb dL_law_39 (by decide) (by decide) rfl (by decide) ?_
        exact lc_5 hl0 C0 hLN D cI cL cZ A hA hbA hK sa sr hZ hZr ax aj af al ap apc app ar arc arp arow ak akw ake aku akn akc akp am macs mafv matr maln maps mata maro makc makp makm makf maku make maiw ao (34 + j) (14684 + 6 * j) hk9 hn9 j hjl c f t kb ed dn cp ct mct cde ru fv ln cs ps ro rcs rps kw ke ku kn kc kp tr ta mkc mkp mkm mkf mku mke iw out hI H locs hP hD hS ls hl tail
      by_cases sw_6 : y = 6
      · rw [sw_6]
        refine lv_tableIn (tgt := 282) hx hb dL_law_39 (by decide) (by decide) rfl (by decide) ?_
        exact lc_6 hl0 C0 hLN D cI cL cZ A hA hbA hK sa sr hZ hZr ax aj af al ap apc app ar arc arp arow ak akw ake aku akn akc akp am macs mafv matr maln maps mata maro makc makp makm makf maku make maiw ao (34 + j) (14684 + 6 * j) hk9 hn9 j hjl c f t kb ed dn cp ct mct cde ru fv ln cs ps ro rcs rps kw ke ku kn kc kp tr ta mkc mkp mkm mkf mku mke iw out hI H locs hP hD hS ls hl tail
      by_cases sw_7 : y = 7
      · rw [sw_7]
        refine lv_tableIn (tgt := 310) hx hb dL_law_39 (by decide) (by decide) rfl (by decide) ?_
        exact lc_7 hl0 C0 hLN D cI cL cZ A hA hbA hK sa sr hZ hZr ax aj af al ap apc app ar arc arp arow ak akw ake aku akn akc akp am macs mafv matr maln maps mata maro makc makp makm makf maku make maiw ao (34 + j) (14684 + 6 * j) hk9 hn9 j hjl c f t kb ed dn cp ct mct cde ru fv ln cs ps ro rcs rps kw ke ku kn kc kp tr ta mkc mkp mkm mkf mku mke iw out hI H locs hP hD hS ls hl tail
      by_cases sw_8 : y = 8
      · rw [sw_8]
        refine lv_tableIn (tgt := 335) hx hb dL_law_39 (by decide) (by decide) rfl (by decide) ?_
        exact lc_8 hl0 C0 hLN D cI cL cZ A hA hbA hK sa sr hZ hZr ax aj af al ap apc app ar arc arp arow ak akw ake aku akn akc akp am macs mafv matr maln maps mata maro makc makp makm makf maku make maiw ao (34 + j) (14684 + 6 * j) hk9 hn9 j hjl c f t kb ed dn cp ct mct cde ru fv ln cs ps ro rcs rps kw ke ku kn kc kp tr ta mkc mkp mkm mkf mku mke iw out hI H locs hP hD hS ls hl tail
      by_cases sw_9 : y = 9
      · rw [sw_9]
        refine lv_tableIn (tgt := 372) hx hb dL_law_39 (by decide) (by decide) rfl (by decide) ?_
        exact lc_9 hl0 C0 hLN D cI cL cZ A hA hbA hK sa sr hZ hZr ax aj af al ap apc app ar arc arp arow ak akw ake aku akn akc akp am macs mafv matr maln maps mata maro makc makp makm makf maku make maiw ao (34 + j) (14684 + 6 * j) hk9 hn9 j hjl c f t kb ed dn cp ct mct cde ru fv ln cs ps ro rcs rps kw ke ku kn kc kp tr ta mkc mkp mkm mkf mku mke iw out hI H locs hP hD hS ls hl tail
      by_cases sw_10 : y = 10
      · rw [sw_10]
        refine lv_tableIn (tgt := 397) hx hb dL_law_39 (by decide) (by decide) rfl (by decide) ?_
        exact lc_10 hl0 C0 hLN D cI cL cZ A hA hbA hK sa sr hZ hZr ax aj af al ap apc app ar arc arp arow ak akw ake aku akn akc akp am macs mafv matr maln maps mata maro makc makp makm makf maku make maiw ao (34 + j) (14684 + 6 * j) hk9 hn9 j hjl c f t kb ed dn cp ct mct cde ru fv ln cs ps ro rcs rps kw ke ku kn kc kp tr ta mkc mkp mkm mkf mku mke iw out hI H locs hP hD hS ls hl tail
      by_cases sw_11 : y = 11
      · rw [sw_11]
        refine lv_tableIn (tgt := 422) hx hb dL_law_39 (by decide) (by decide) rfl (by decide) ?_
        exact lc_11 hl0 C0 hLN D cI cL cZ A hA hbA hK sa sr hZ hZr ax aj af al ap apc app ar arc arp arow ak akw ake aku akn akc akp am macs mafv matr maln maps mata maro makc makp makm makf maku make maiw ao (34 + j) (14684 + 6 * j) hk9 hn9 j hjl c f t kb ed dn cp ct mct cde ru fv ln cs ps ro rcs rps kw ke ku kn kc kp tr ta mkc mkp mkm mkf mku mke iw out hI H locs hP hD hS ls hl tail
      by_cases sw_12 : y = 12
      · rw [sw_12]
        refine lv_tableIn (tgt := 447) hx hb dL_law_39 (by decide) (by decide) rfl (by decide) ?_
        exact lc_12 hl0 C0 hLN D cI cL cZ A hA hbA hK sa sr hZ hZr ax aj af al ap apc app ar arc arp arow ak akw ake aku akn akc akp am macs mafv matr maln maps mata maro makc makp makm makf maku make maiw ao (34 + j) (14684 + 6 * j) hk9 hn9 j hjl c f t kb ed dn cp ct mct cde ru fv ln cs ps ro rcs rps kw ke ku kn kc kp tr ta mkc mkp mkm mkf mku mke iw out hI H locs hP hD hS ls hl tail
      by_cases sw_13 : y = 13
      · rw [sw_13]
        refine lv_tableIn (tgt := 475) hx hb dL_law_39 (by decide) (by decide) rfl (by decide) ?_
        exact lc_13 hl0 C0 hLN D cI cL cZ A hA hbA hK sa sr hZ hZr ax aj af al ap apc app ar arc arp arow ak akw ake aku akn akc akp am macs mafv matr maln maps mata maro makc makp makm makf maku make maiw ao (34 + j) (14684 + 6 * j) hk9 hn9 j hjl c f t kb ed dn cp ct mct cde ru fv ln cs ps ro rcs rps kw ke ku kn kc kp tr ta mkc mkp mkm mkf mku mke iw out hI H locs hP hD hS ls hl tail
      by_cases sw_14 : y = 14
      · rw [sw_14]
        refine lv_tableIn (tgt := 488) hx hb dL_law_39 (by decide) (by decide) rfl (by decide) ?_
        exact lc_14 hl0 C0 hLN D cI cL cZ A hA hbA hK sa sr hZ hZr ax aj af al ap apc app ar arc arp arow ak akw ake aku akn akc akp am macs mafv matr maln maps mata maro makc makp makm makf maku make maiw ao (34 + j) (14684 + 6 * j) hk9 hn9 j hjl c f t kb ed dn cp ct mct cde ru fv ln cs ps ro rcs rps kw ke ku kn kc kp tr ta mkc mkp mkm mkf mku mke iw out hI H locs hP hD hS ls hl tail
      have st_0 := lv_neT sw_0 (a := 0) rfl
      have st_1 := lv_neT sw_1 (a := 1) rfl
      have st_2 := lv_neT sw_2 (a := 2) rfl
      have st_3 := lv_neT sw_3 (a := 3) rfl
      have st_4 := lv_neT sw_4 (a := 4) rfl
      have st_5 := lv_neT sw_5 (a := 5) rfl
      have st_6 := lv_neT sw_6 (a := 6) rfl
      have st_7 := lv_neT sw_7 (a := 7) rfl
      have st_8 := lv_neT sw_8 (a := 8) rfl
      have st_9 := lv_neT sw_9 (a := 9) rfl
      have st_10 := lv_neT sw_10 (a := 10) rfl
      have st_11 := lv_neT sw_11 (a := 11) rfl
      have st_12 := lv_neT sw_12 (a := 12) rfl
      have st_13 := lv_neT sw_13 (a := 13) rfl
      have st_14 := lv_neT sw_14 (a := 14) rfl
      refine lv_tableOut (tgt := 513) hx hb dL_law_39 (by omega) (by decide) ?_
      refine W.widen (k := 34 + j + 1) (n := 14684 + 6 * j + 6) (by omega) (by omega) ?_
      exact tail c f t kb ed dn cp ct mct cde ru fv ln cs ps ro rcs rps kw ke ku kn kc kp tr ta mkc mkp mkm mkf mku mke iw out hI H locs hP hD hS ls hl
