/-! THE CLAIM OUT OF ONE WALK OF THE LAW'S BODY. Your part is whole_start (and what it stands on); all else here is the same for every law, but numbers. -/
def R_law : String := "CheckRestartLaw"
def lw_P (b : Addr) (xs : List Int32) (args : Array Value) (s : State) : Prop := args = #[.ref b] ∧ s.IntsAt b xs ∧ xs.length ≤ 1536 ∧ (Jvm.Cond.and given_1 narrow_1).before args s = true
def lw_Q (_ : Array Value) (s : State) (o : Outcome) (t : State) : Prop := o = .returned (some (.int 1)) ∧ Framed s o t [] 1060 22888
def lw_Z (below : List Frame) (a : Array Value) (s : State) : State → Prop := fun t => ∃ o, t.status = .running ∧ Ended t below o ∧ lw_Q a s o t
/-- the law's own end, with 1 on the stack, nothing written that was there before, its room as the claim has it -/
theorem lw_ret {p : Program} {l : Launch} {e : Env} {s : State} {m : MethodId} {below : List Frame} {meth : Method} {c : Code} {b : Nat} (hx : p.tables.exec = Jvm.exec) (hb : c.code = code) (hr : meth.sig.returnType = ret) (hlocks : meth.locks = false) {pc : Nat} {H : Heap} {ls : Array Slot} (hdg : decode code pc = .ok (.ireturn, 1)) : W p l e room_1 s m #[Value.ref b] below meth c H [] 1060 22888 (lw_Z below #[Value.ref b] s) (F0 m pc ls [.int 1]) := by
  intro T hT X
  obtain ⟨fs, hret, hrun, hended, hW, hframe⟩ := X.leave (v := some (.int 1)) (hlocks := hlocks) (fun h => by rw [hr] at h; cases h)
  have hmeth' : T.vm.method? m = some meth := X.method'
  refine ⟨T.setFrames fs, ?_, .returned (some (.int 1)), hrun, hended, rfl, ⟨_, rfl⟩, hW, hframe⟩
  jvm_step X.here [X.here.top, hx, hb, hdg, hmeth', hr, ret, narrow_b1]
  (try refine ⟨rfl, ?_⟩); (try refine ⟨rfl, ?_⟩)
  first | (intro acts; rw [hret _ acts rfl rfl rfl]) | rw [hret _ _ rfl rfl rfl]
  exact Steps.refl _
/-- what holds at the law's entry: the machine, the code, the tables' words (any of lw_tbl by 'hts w (by decide +kernel)'), the script of L ints xs at the cell b, what the Statement gives of the start (any of its parts by flat_of_before) -/
def lw_At (p : Program) (s : State) (m : MethodId) (meth : Method) (c : Code) (b L : Nat) (xs : Nat → Int32) : Prop :=
  p.tables.exec = Jvm.exec ∧ c.code = code ∧ meth.sig.returnType = ret ∧ c.maxLocals = 8 ∧ s.vm.findClass R_law = some m.cls ∧ (∀ w ∈ lw_tbl, w.before #[Value.ref b] s = true) ∧ va_X b L xs s s.heap ∧ b < s.heap.size ∧ meth.locks = false ∧ (Jvm.Cond.and given_1 narrow_1).before #[Value.ref b] s = true
/-! TOOLS 3: the law's script -/
section CT3
variable {p : Program} {l : Launch} {e : Env} {R : Room} {s : State} {m : MethodId} {args : Array Value} {below : List Frame} {meth : Method} {c : Code} {H : Heap} {locs : List Loc} {cells slots : Nat} {Q : State → Prop}
variable {cc : ByteArray} {pc : Nat} {ls : Array Slot} {rest : List Value} {A : Nat → Prop} {H0 : Heap}
theorem ct_sld (hexec : p.tables.exec = Jvm.exec) (hb : c.code = cc) {b L : Nat} {xs : Nat → Int32} (hX : va_X b L xs s H0) (hbl : b < H0.size) (hbA : ¬ A b) (hS : va_S A H0 H locs) {k : Nat} (hk : k < L) (hL : L < 2 ^ 31) (hdg : decode cc pc = .ok (.iaload, 1))
    (kk : W p l e R s m args below meth c H locs cells slots Q (F0 m (pc + 1) ls (.int (xs k) :: rest))) : W p l e R s m args below meth c H locs cells slots Q (F0 m pc ls (.int (nI k) :: .ref b :: rest)) := by
  refine va_sld hexec hb hX hbl hbA hS (vp_in_nI hk hL) hdg ?_
  rw [nI_clamp (Nat.lt_trans hk hL)]
  exact kk
end CT3
theorem cr_if10 {P : Prop} (i : Decidable P) (h : (if P then (1 : Int32) else 0) = 0) : ¬ P := by
  intro q
  rw [if_pos q] at h
  exact absurd h (by decide)
theorem law_in {j L : Nat} (hL : L < 2 ^ 30) (hj : 3 * j < 2 ^ 30) (h : ¬ nI L - 3 < nI (3 * j)) : 3 * j + 3 ≤ L := by
  rw [Int32.lt_iff_toInt_lt, nI_toInt (by omega), show nI L - 3 = nI L - nI 3 from rfl, pk_sub_toInt hL (by omega)] at h
  omega
abbrev lwW (cI cL cZ : ClassId) (ax aj af al ap apc app ar arc arp arow ak akw ake aku akn akc akp am macs mafv matr maln maps mata maro makc makp makm makf maku make maiw ao : Nat) (c : Nat) (f : Nat) (t : Nat) (kb : Nat) (ed : Int32) (dn : Int32) (cp : Int32) (ct : Int32) (mct : Int32) (cde : Int32) (ru : Int32) (fv : Nat → Int64) (ln : Nat → Int32) (cs : Nat → Int64) (ps : Nat → Int32) (ro : Nat → Int64) (rcs : Nat → Int64) (rps : Nat → Int32) (kw : Nat → Int32) (ke : Nat → Int32) (ku : Nat → Int32) (kn : Nat → Int32) (kc : Nat → Int64) (kp : Nat → Int32) (tr : Nat → Int64) (ta : Nat → Int32) (mkc : Nat → Int64) (mkp : Nat → Int32) (mkm : Nat → Int32) (mkf : Nat → Int32) (mku : Nat → Int32) (mke : Nat → Int32) (iw : Nat → Int32) (out : Nat → Int64) : va_W := [(ax, .inr (4, [.ref aj, .ref ap, .ref ar, .ref arow, .ref ak, .int ed, .int dn, .int cp, .int ct])), (aj, .inr (2, [.ref af, .ref al, .int (nI c), .int (nI f)])), (af, .inl (cL, 12, .inr (.inl fv))), (al, .inl (cI, 6, .inl ln)), (ap, .inr (3, [.ref aj, .ref apc, .ref app, .int (nI t)])), (apc, .inl (cL, 12, .inr (.inl cs))), (app, .inl (cI, 6, .inl ps)), (ar, .inr (3, [.ref aj, .ref arc, .ref arp, .int ru])), (arc, .inl (cL, 12, .inr (.inl rcs))), (arp, .inl (cI, 6, .inl rps)), (arow, .inl (cL, 5000, .inr (.inl ro))), (ak, .inr (1, [.ref akw, .ref ake, .ref aku, .ref akn, .ref akc, .ref akp, .int (nI kb)])), (akw, .inl (cZ, 100, .inl kw)), (ake, .inl (cI, 100, .inl ke)), (aku, .inl (cI, 100, .inl ku)), (akn, .inl (cI, 100, .inl kn)), (akc, .inl (cL, 1200, .inr (.inl kc))), (akp, .inl (cI, 600, .inl kp)), (am, .inr (5, [.int cde, .ref macs, .ref mafv, .ref matr, .ref maln, .ref maps, .ref mata, .int (nI c), .int (nI f), .int (nI t), .int ed, .ref maro, .ref makc, .ref makp, .ref makm, .ref makf, .ref maku, .ref make, .ref maiw, .int (nI kb), .int cp, .int mct, .int dn])), (macs, .inl (cL, 12, .inr (.inl cs))), (mafv, .inl (cL, 12, .inr (.inl fv))), (matr, .inl (cL, 12, .inr (.inl tr))), (maln, .inl (cI, 6, .inl ln)), (maps, .inl (cI, 6, .inl ps)), (mata, .inl (cI, 6, .inl ta)), (maro, .inl (cL, 5001, .inr (.inl ro))), (makc, .inl (cL, 1212, .inr (.inl mkc))), (makp, .inl (cI, 606, .inl mkp)), (makm, .inl (cI, 101, .inl mkm)), (makf, .inl (cI, 101, .inl mkf)), (maku, .inl (cI, 101, .inl mku)), (make, .inl (cI, 101, .inl mke)), (maiw, .inl (cZ, 101, .inl iw)), (ao, .inl (cL, 1, .inr (.inl out)))]
