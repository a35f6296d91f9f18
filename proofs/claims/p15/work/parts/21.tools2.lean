/-! TOOLS 2: throwing and catching -/
def zB (E : String) (ns : List String) : List Cond := .castable E E :: (ns ++ ["java/lang/Throwable"]).map (fun Y => Cond.declares ⟨Y, "<init>", "(Ljava/lang/String;)V"⟩)
/-- what a throw of E with a text wants beside the words: the text's cell, two statics of Throwable, words that aren't kept by every call -/
def zx_P (own : String) (k : Nat) (tx E : String) (ns : List String) (sa : Nat) (A : Nat → Prop) (U : State) : Prop := vk_R own k tx sa U ∧ vx_Zq Bundle.tN "UNASSIGNED_STACK" Bundle.steD A U U.heap ∧ vx_Zq Bundle.tN "SUPPRESSED_SENTINEL" Bundle.listD A U U.heap ∧ ∀ w ∈ zB E ns, va_Nw w U
theorem zB_tab {E : String} {ns : List String} : ∀ w ∈ zB E ns, w.onTables = true := by
  intro w hw
  rcases List.mem_cons.mp hw with h | h
  · rw [h]; rfl
  · obtain ⟨Y, -, rfl⟩ := List.mem_map.mp h; rfl
theorem zx_calling {own : String} {k : Nat} {tx E : String} {ns : List String} {sa : Nat} {A : Nat → Prop} {U : State} (g : JFrame) (mk : MethodId) (a : Array Value) (h : zx_P own k tx E ns sa A U) : zx_P own k tx E ns sa A (U.calling g mk a) :=
  ⟨vk_R.same (u := U) rfl h.1, vx_Zq.moved (u := U) (Vm.Alike.refl U.vm) h.2.1, vx_Zq.moved (u := U) (Vm.Alike.refl U.vm) h.2.2.1, fun w hw => va_Nw.same (u := U) (zB_tab w hw) rfl (h.2.2.2 w hw)⟩
theorem zx_warm {own : String} {k : Nat} {tx E : String} {ns : List String} {sa : Nat} {A A0 : Nat → Prop} {s U : State} {H : Heap} {locs : List Loc} (h : zx_P own k tx E ns sa A0 s) (hS : va_S A0 s.heap H locs) (hU : U.heap = H) (hW : s.WarmedH U.vm) (hsub : ∀ q, A q → A0 q) : zx_P own k tx E ns sa A U := by
  refine ⟨vk_R.warm hW h.1, ?_, ?_, fun w hw => ?_⟩
  · rw [hU]; exact vx_Zq.moved hW.alike ((h.2.1.kept (fun a ha hn => hS.2.1 a ha hn)).narrow hsub)
  · rw [hU]; exact vx_Zq.moved hW.alike ((h.2.2.1.kept (fun a ha hn => hS.2.1 a ha hn)).narrow hsub)
  · rcases List.mem_cons.mp hw with q | q
    · rw [q]; exact va_Nw.warmC hW (h.2.2.2 _ List.mem_cons_self)
    · obtain ⟨Y, hY, rfl⟩ := List.mem_map.mp q
      exact va_Nw.warmD hW (h.2.2.2 _ (List.mem_cons_of_mem _ (List.mem_map.mpr ⟨Y, hY, rfl⟩)))
/-- the one row of a method's table -/
theorem l_tab {p : Program} {l : Launch} {y : MethodName} {sp : Spec} {cc : ByteArray} {maxL : Nat} {ret : Option FieldType} {e : Env} {s : State} {m : MethodId} {args : Array Value} {below : List Frame} {meth : Method} {c : Code} {s₁ : State} {a b d k : Nat} (B : BodyLoose p l y sp cc maxL ret e s m args below meth c s₁) (h : (Cond.codeWith y cc maxL ret [(a, b, d, k)]).before args s = true) : ∃ x : ExceptionTableEntry, c.exceptionTable.toList = [] ++ x :: [] ∧ x.startPc = a ∧ x.endPc = b ∧ x.handlerPc = d ∧ x.catchType = k := by
  obtain ⟨m9, meth9, c9, hn9, h1, h2, -, -, h5, -⟩ := Cond.codeWith_spec h
  cases hn9.symm.trans B.named
  cases B.method.symm.trans h1
  cases (Stand.of_body B).code.symm.trans h2
  generalize hL : c.exceptionTable.toList = T at h5
  match T, h5 with
  | [x], h5 =>
    simp only [List.map_cons, List.map_nil, List.cons.injEq, Prod.mk.injEq, and_true] at h5
    exact ⟨x, rfl, h5.1, h5.2.1, h5.2.2.1, h5.2.2.2⟩
section CTX
variable {p : Program} {l : Launch} {e : Env} {R : Room} {s : State} {m : MethodId} {args : Array Value} {below : List Frame} {meth : Method} {c : Code} {H : Heap} {locs : List Loc} {cells slots : Nat} {Q : State → Prop}
variable {pc : Nat} {ls : Array Slot} {rest st0 : List Value} {D : va_G} {cl : List vw_C} {A0 : Nat → Prop} {tys : List (ClassId × FieldType)} {ws wc wr : va_W} {H0 : Heap} {mc ms : Nat} {av : Array Value}
theorem ct_xl {S : Type} {post : Int64 → S → Prop} {px : Unit → Prop} {w1 : S → va_W} {E0 : String} (hP : va_P D cl ws H) (hD : va_D A0 ws) (hS : va_S A0 H0 H locs) (hA : ∀ q, H0.size ≤ q → A0 q) (isC isR : List Nat)
    (hr : vx_Run p l e R s m args below meth c H locs cells slots mc ms (F0 m pc ls st0) rest (va_Ql post (ct_B D cl tys (va_A wc H.size) w1) (va_A wc H.size) av) (vx_X px (fun E9 u t => E9 = E0 ∧ ct_B D cl tys (va_A wc H.size) (fun (_ : Unit) => wc) u t) (va_A wc H.size)) (va_A wc H.size))
    (hC : isC.map (fun i => ws[i]?) = wc.map some) (hR : isR.map (fun i => ws[i]?) = wr.map some) (hn : va_nd isR = true) (hdis : ∀ i ∈ isR, i ∉ isC)
    (kx : ∀ (ce : Cell) (q9 : Addr) (H1 : Heap) (locs1 : List Loc), px () → va_P D cl (wr ++ wc) H1 → va_D A0 (wr ++ wc) → va_S A0 H0 H1 locs1 → H1[q9]? = some ce → ce.vm = .none → s.vm.findClass E0 = some ce.cls → vx_W p l e R s m args below meth c H1 locs1 (cells + mc) (slots + ms) Q (F0 m pc ls rest) q9)
    (kk : ∀ (r : Int64) (u : S) (H1 : Heap) (locs1 : List Loc), post r u → va_P D cl (wr ++ w1 u) H1 → va_D A0 (wr ++ w1 u) → va_S A0 H0 H1 locs1 → W p l e R s m args below meth c H1 locs1 (cells + mc) (slots + ms) Q (F0 m (pc + 3) ls (.long r :: rest))) : W p l e R s m args below meth c H locs cells slots Q (F0 m pc ls st0) := by
  have hF := va_free (wc := wc) hD hS hA isC hC
  refine vx_calll hr hS (fun q _ h => hF q h) hF (fun q _ h => hF q h) (fun E ce q9 u t H1 locs1 ht hvm hpx hB hz1 hk1 hS1 hce hcv hcl => ?_) (fun r u t H1 locs1 ht hvm hw hB hz1 hk1 hS1 => ?_)
  · obtain ⟨rfl, hP1, hK1, hD1⟩ := hB
    rw [ht] at hP1
    obtain ⟨hP2, hD2⟩ := va_join (wr := wr) (w1 := wc) hP hD isC isR hC hR hn hdis hk1 hF hP1 hD1
    exact kx ce q9 H1 locs1 hpx hP2 hD2 hS1 hce hcv hcl
  · obtain ⟨hP1, hK1, hD1⟩ := hB
    rw [ht] at hP1
    obtain ⟨hP2, hD2⟩ := va_join (wr := wr) (w1 := w1 u) hP hD isC isR hC hR hn hdis hk1 hF hP1 hD1
    exact kk r u H1 locs1 hw hP2 hD2 hS1
theorem ct_xi {S : Type} {post : Int32 → S → Prop} {px : Unit → Prop} {w1 : S → va_W} {E0 : String} (hP : va_P D cl ws H) (hD : va_D A0 ws) (hS : va_S A0 H0 H locs) (hA : ∀ q, H0.size ≤ q → A0 q) (isC isR : List Nat)
    (hr : vx_Run p l e R s m args below meth c H locs cells slots mc ms (F0 m pc ls st0) rest (va_Qi post (ct_B D cl tys (va_A wc H.size) w1) (va_A wc H.size) av) (vx_X px (fun E9 u t => E9 = E0 ∧ ct_B D cl tys (va_A wc H.size) (fun (_ : Unit) => wc) u t) (va_A wc H.size)) (va_A wc H.size))
    (hC : isC.map (fun i => ws[i]?) = wc.map some) (hR : isR.map (fun i => ws[i]?) = wr.map some) (hn : va_nd isR = true) (hdis : ∀ i ∈ isR, i ∉ isC)
    (kx : ∀ (ce : Cell) (q9 : Addr) (H1 : Heap) (locs1 : List Loc), px () → va_P D cl (wr ++ wc) H1 → va_D A0 (wr ++ wc) → va_S A0 H0 H1 locs1 → H1[q9]? = some ce → ce.vm = .none → s.vm.findClass E0 = some ce.cls → vx_W p l e R s m args below meth c H1 locs1 (cells + mc) (slots + ms) Q (F0 m pc ls rest) q9)
    (kk : ∀ (r : Int32) (u : S) (H1 : Heap) (locs1 : List Loc), post r u → va_P D cl (wr ++ w1 u) H1 → va_D A0 (wr ++ w1 u) → va_S A0 H0 H1 locs1 → W p l e R s m args below meth c H1 locs1 (cells + mc) (slots + ms) Q (F0 m (pc + 3) ls (.int r :: rest))) : W p l e R s m args below meth c H locs cells slots Q (F0 m pc ls st0) := by
  have hF := va_free (wc := wc) hD hS hA isC hC
  refine vx_calli hr hS (fun q _ h => hF q h) hF (fun q _ h => hF q h) (fun E ce q9 u t H1 locs1 ht hvm hpx hB hz1 hk1 hS1 hce hcv hcl => ?_) (fun r u t H1 locs1 ht hvm hw hB hz1 hk1 hS1 => ?_)
  · obtain ⟨rfl, hP1, hK1, hD1⟩ := hB
    rw [ht] at hP1
    obtain ⟨hP2, hD2⟩ := va_join (wr := wr) (w1 := wc) hP hD isC isR hC hR hn hdis hk1 hF hP1 hD1
    exact kx ce q9 H1 locs1 hpx hP2 hD2 hS1 hce hcv hcl
  · obtain ⟨hP1, hK1, hD1⟩ := hB
    rw [ht] at hP1
    obtain ⟨hP2, hD2⟩ := va_join (wr := wr) (w1 := w1 u) hP hD isC isR hC hR hn hdis hk1 hF hP1 hD1
    exact kk r u H1 locs1 hw hP2 hD2 hS1
theorem ct_preVx {C : String} {b ci q0 : Nat} {q : vw_C} {fs : List Value} {As : List Value} {Z : State → Prop} (hZc : ∀ (U : State) (g : JFrame) (mk : MethodId) (a : Array Value), Z U → Z (U.calling g mk a)) (hZ : ∀ U : State, U.heap = H → s.WarmedH U.vm → Z U) (hK : va_K D cl tys s) (hP : va_P D cl ws H) (hD : va_D A0 ws) (isC : List Nat) (hn : va_nd isC = true) (hC : isC.map (fun i => ws[i]?) = wc.map some) (hC2 : isC.filterMap (fun i => ws[i]?) = wc) (hc : cl[ci]? = some q) (hq : q.1 = C) (he : wc[q0]? = some (b, .inr (ci, fs))) : PreV s H C b (va_Pc (.ref b :: As) (fun U => ct_P D cl tys wc H.size U ∧ Z U)) As := by
  subst hq
  have hPc := hP.sub (ws' := wc) isC hC2
  have hDc := hD.sub (ws' := wc) isC hn hC
  refine ⟨fun a U g mk h => ?_, va_recv hK hPc hc he, fun U hU hW => ⟨rfl, ⟨by rw [hU], by rw [hU]; exact hPc, va_K.moved hW.alike hK, hDc.weaken (fun _ _ _ _ => trivial)⟩, hZ U hU hW⟩⟩
  exact ⟨h.1, (ct_blind (av := .ref b :: As) a U g mk ⟨h.1, h.2.1⟩).2, hZc U g mk a h.2.2⟩
theorem ct_preSx {As : List Value} {Z : State → Prop} (hZc : ∀ (U : State) (g : JFrame) (mk : MethodId) (a : Array Value), Z U → Z (U.calling g mk a)) (hZ : ∀ U : State, U.heap = H → s.WarmedH U.vm → Z U) (hK : va_K D cl tys s) (hP : va_P D cl ws H) (hD : va_D A0 ws) (isC : List Nat) (hn : va_nd isC = true) (hC : isC.map (fun i => ws[i]?) = wc.map some) (hC2 : isC.filterMap (fun i => ws[i]?) = wc) : PreS s H (va_Pc As (fun U => ct_P D cl tys wc H.size U ∧ Z U)) As := by
  have hPc := hP.sub (ws' := wc) isC hC2
  have hDc := hD.sub (ws' := wc) isC hn hC
  refine ⟨fun a U g mk h => ?_, fun U hU hW => ⟨rfl, ⟨by rw [hU], by rw [hU]; exact hPc, va_K.moved hW.alike hK, hDc.weaken (fun _ _ _ _ => trivial)⟩, hZ U hU hW⟩⟩
  exact ⟨h.1, (ct_blind (av := As) a U g mk ⟨h.1, h.2.1⟩).2, hZc U g mk a h.2.2⟩
end CTX
/-! the words of row and of the law's row: those of a throw of ArrayIndexOutOfBoundsException with a text are added -/
abbrev nsI : List String := ["java/lang/RuntimeException", "java/lang/Exception"]
abbrev nsA : List String := ["java/lang/IndexOutOfBoundsException", "java/lang/RuntimeException", "java/lang/Exception"]
abbrev eI : String := "java/lang/IllegalArgumentException"
abbrev eA : String := "java/lang/ArrayIndexOutOfBoundsException"
def wsA_t : List Cond := (vx_atS RX3 145 eA nsA).filter goodWord
def wsX3_rowT : List Cond := wsX3_row ++ wsA_t
def wsL_rowT : List Cond := wsL_row ++ (.classLink RL 19 eA :: wsA_t)
def wsL_lawT : List Cond := wsL_law ++ (.classLink RL 19 eA :: wsA_t)
theorem wsA_good : ∀ w ∈ wsA_t, goodWord w = true := fun w h => (List.mem_filter.mp h).2
theorem goodIn_mono {big b2 ws : List Cond} (h : GoodIn big ws) : GoodIn (big ++ b2) ws := fun w hw => ⟨List.mem_append_left _ (h w hw).1, (h w hw).2⟩
theorem goodIn_t {big : List Cond} : GoodIn (big ++ (.classLink RL 19 eA :: wsA_t)) wsA_t := fun w hw => ⟨List.mem_append_right _ (List.mem_cons_of_mem _ hw), good_of_word (wsA_good w hw)⟩
theorem gL_row_T : GoodIn wsL_rowT (wsV RL 15 RX3 yX3_row wsX3_rowT) := by
  intro w hw
  rcases List.mem_append.mp (show w ∈ (([.methodLink RL 15 yX3_row, .instanceMethod yX3_row, .selects RX3 yX3_row yX3_row, .initialized RX3] : List Cond) ++ (wsX3_row ++ wsA_t)) from hw) with h | h
  · exact goodIn_mono gL_row_X3_row w (List.mem_append_left _ h)
  · rcases List.mem_append.mp h with h | h
    · exact goodIn_mono gL_row_X3_row w (List.mem_append_right _ h)
    · exact goodIn_t w h
theorem gL_law_rowT : GoodIn wsL_lawT (va_wsS RL 80 yL_row wsL_rowT) := by
  intro w hw
  rcases List.mem_append.mp (show w ∈ (([.methodLink RL 80 yL_row, .static yL_row, .initialized RL] : List Cond) ++ (wsL_row ++ (.classLink RL 19 eA :: wsA_t))) from hw) with h | h
  · exact goodIn_mono gL_law_L_row w (List.mem_append_left _ h)
  · rcases List.mem_append.mp h with h | h
    · exact goodIn_mono gL_law_L_row w (List.mem_append_right _ h)
    · rcases List.mem_cons.mp h with h | h
      · rw [h]; exact ⟨List.mem_append_right _ List.mem_cons_self, Or.inl rfl⟩
      · exact goodIn_t w h
theorem wsL_lawT_in : ∀ w ∈ wsL_lawT, w ∈ lw_tbl := by
  intro w hw
  rcases List.mem_append.mp hw with h | h
  · exact wsL_law_in w h
  · exact (by decide +kernel : ∀ w ∈ (Cond.classLink RL 19 eA :: wsA_t), w ∈ lw_tbl) w h
