def xC (U : State) : Prop := va_Nc eS eI U ∧ va_Nc eA eI U ∧ va_Nc eS eA U
theorem xC.moved {u U : State} (h : u.vm.Alike U.vm) (q : xC u) : xC U := ⟨va_Nc.moved h q.1, va_Nc.moved h q.2.1, va_Nc.moved h q.2.2⟩
def gW (D : va_G) (cy cJ : ClassId) (av : List Value) (A : Nat → Prop) (w : va_W) : Array Value → State → Prop := fun v U => gX D cy av A w v U ∧ va_K D vwCl [(cJ, .long)] U ∧ xC U
theorem gW_blind {D : va_G} {cy cJ : ClassId} {av : List Value} {A : Nat → Prop} {w : va_W} : FrameBlind (gW D cy cJ av A w) := fun _ U _ _ q => ⟨gX_blind _ U _ _ q.1, va_K.moved (Vm.Alike.refl U.vm) q.2.1, xC.moved (Vm.Alike.refl U.vm) q.2.2⟩
/-- the world behind a call, out of what the call says -/
theorem wS.next {D : va_G} {A : Nat → Prop} {w w1 : va_W} {s st₀ t T' : State} {H : Heap} {locs L : List Loc} (hw : wS D A w s H locs) (h0 : st₀.heap = H) (e1 : T'.heap = t.heap) (hL : ∀ q ∈ L, A q.base) (hP : va_P D vwCl w1 t.heap) (hD : va_D A w1) (hF : va_F A st₀ t) : wS D A w1 s T'.heap (locs ++ L) := by
  obtain ⟨hz, hk⟩ := hF
  rw [h0] at hz hk
  exact ⟨by rw [e1]; exact hP, hD, Nat.le_trans hw.2.2.1 (by rw [e1]; exact hz), fun q h1 h2 => by rw [e1, hk q (Nat.lt_of_lt_of_le h1 hw.2.2.1) h2]; exact hw.2.2.2.1 q h1 h2, fun q hq => by
      rcases List.mem_append.mp hq with h | h
      · exact hw.2.2.2.2 q h
      · exact hL q h⟩
section QW
variable {p : Program} {l : Launch} {e : Env} {R : Room} {s : State} {m : MethodId} {args : Array Value} {below : List Frame} {meth : Method} {c : Code} {H : Heap} {locs : List Loc} {cells slots : Nat} {Q : State → Prop} {cc : ByteArray} {pc : Nat} {ls : Array Slot} {rest : List Value}
theorem q_wmp {l : Launch} {D : va_G} {cy cJ : ClassId} {y : MethodName} {ws ws' : List Cond} {rm : Room} {cc : ByteArray} {maxL : Nat} {ret : Option FieldType} {hh : List (Nat × Nat × Nat × Nat)} {av : List Value} {A : Nat → Prop} {w : va_W} {Qc : Array Value → State → Outcome → State → Prop} {XC : String → State → State → Prop} {mc ms : Nat} (hy : plainName y.cls = true) (hw : ws = Cond.codeWith y cc maxL ret hh :: ws') (hlen : (lg_sl av).length ≤ maxL)
    (body : ∀ (p : Program) (e : Env) (s : State) (m : MethodId) (below : List Frame) (meth : Method) (c : Code) (ls : Array Slot), p.tables.exec = Jvm.exec → c.code = cc → meth.sig.returnType = ret → c.maxLocals = maxL → (∀ x ∈ ws, x.before av.toArray s = true) → s.vm.findClass y.cls = some m.cls → meth.locks = false → wS D A w s s.heap [] → va_K D vwCl [(cy, .int)] s → (∀ q, s.heap.size ≤ q → A q) → lv_has ls maxL (lv_args 0 av) → c.exceptionTable.toList = tableOf hh → xN A s → va_K D vwCl [(cJ, .long)] s → xC s →
      W p l e rm s m av.toArray below meth c s.heap [] 0 0 (vx_MQ below Qc XC av.toArray s mc ms A) (F0 m 0 ls [])) : vx_Met l y ws rm (gW D cy cJ av A w) Qc XC mc ms A := by
  refine vx_ofWH (cc := cc) (maxL := maxL) (ret := ret) (hh := hh) hy hw ?_
  intro p e s m args below meth c s₁ B hml hv
  obtain ⟨⟨⟨rfl, hP, hK, hD, hA⟩, hN⟩, hJ, hC⟩ := hv
  rw [lg_entry_eq]
  have hts := atoms_spec (ws := ws) B.pre
  exact body p e s m below meth c _ B.exec B.bytes B.returns hml hts (findClass_of_methodNamed B.named) B.notSynchronized ⟨hP, hD, va_S.rf⟩ hK hA (lv_entry av hlen) (vx_table (x := y) B (hts (Cond.codeWith y cc maxL ret hh) (by rw [hw]; exact List.mem_cons_self ..))) hN hJ hC
theorem q_xV {D : va_G} {cy : ClassId} {y : MethodName} {bytes : ByteArray} {maxL nL n index : Nat} {ret : Option FieldType} {ws : List Cond} {rm : Room} {Ts : List Cond} {own : String} {As st : List Value} {C : String} {T : u_T} {N ci : Nat} {fs : List Value} {b : Addr} {A : Nat → Prop} {w w0 w1 : va_W} {v : Option Value} {st1 : List Value} {code : Nat} {em : Nat → String}
    (S : CallFix p m c cc nL s args Ts own) (hM : vx_Met l y ws rm (gX D cy (.ref b :: As) A w) (xQ D A code v w1) (xX D A em code w0) 1 6 A) (cw : CallW R s args own C index y bytes maxL ret ws rm 1 6 n) (hK : va_K D vwCl [(cy, .int)] s) (hA : ∀ q, s.heap.size ≤ q → A q) (hN : xN A s) (hw : wS D A w s H locs) (q0 : Nat) (he : w[q0]? = some (b, .inr (ci, fs))) (hc : vwCl[ci]? = some (C, T, N)) (hn : As.length = n) (hsize : ls.size = nL) (hst : st = As.reverse ++ .ref b :: rest) (hst1 : v.toList ++ rest = st1) (hW : (rest.map fun v => v.category).sum ≤ 8) (hf : cells + 1 ≤ R.cells ∧ slots + 6 ≤ R.slots) (hdg : decode cc pc = .ok (.invokevirtual index, 3))
    (kx : ∀ (H : Heap) (locs : List Loc) (q9 : Addr) (ce : Cell), code ≠ 0 → wS D A w0 s H locs → H[q9]? = some ce → ce.vm = .none → s.vm.findClass (em code) = some ce.cls → vx_W p l e R s m args below meth c H locs (cells + 1) (slots + 6) Q (F0 m pc ls rest) q9)
    (k : ∀ (H : Heap) (locs : List Loc), code = 0 → wS D A w1 s H locs → W p l e R s m args below meth c H locs (cells + 1) (slots + 6) Q (F0 m (pc + 3) ls st1)) : W p l e R s m args below meth c H locs cells slots Q (F0 m pc ls st) := by
  subst hst
  intro T hT X
  rcases (vx_runV S hM cw ⟨gX_blind, va_recv hK hw.1 hc he, fun U hU hW => ⟨⟨rfl, by rw [hU]; exact hw.1, va_K.moved hW.alike hK, hw.2.1, fun q hq => hA q (Nat.le_trans (by rw [hU] at hq; exact hw.2.2.1) (by rw [hU] at hq; exact hq))⟩, xN.warm hW hU hw.2.2 hN⟩⟩ rfl hn hsize rfl (lv_room hW) hdg hf) T hT X with ⟨v', st₀, t, T', L, h0, X', hL, e1, e2, hQ, stp⟩ | ⟨q9, st₀, t, T', L, E, ce, h0, X', hL, e1, e2, hQ, hce, hcv, hcl, stp⟩
  · obtain ⟨hcode, hv, hP1, hD1, hF⟩ := hQ
    cases hv
    subst hst1
    obtain ⟨t2, a1, b1⟩ := k T'.heap (locs ++ L) hcode (hw.next h0 e1 hL hP1 hD1 hF) T' rfl X'
    exact ⟨t2, stp t2 a1, b1⟩
  · obtain ⟨hcode, hE, hP1, hD1, hF⟩ := hQ
    subst hE
    obtain ⟨t2, a1, b1⟩ := kx T'.heap (locs ++ L) q9 ce hcode (hw.next h0 e1 hL hP1 hD1 hF) (by rw [e1]; exact hce) hcv hcl T' rfl X'
    exact ⟨t2, stp.trans a1, b1⟩
theorem q_xVE {D : va_G} {cy : ClassId} {y : MethodName} {bytes : ByteArray} {maxL nL n index : Nat} {ret : Option FieldType} {ws : List Cond} {rm : Room} {Ts : List Cond} {own : String} {As st : List Value} {C : String} {T : u_T} {N ci : Nat} {fs : List Value} {b : Addr} {A : Nat → Prop} {w : va_W} {code : Nat} {em : Nat → String} {post : Option Value → va_W → Prop} {pw : va_W → Prop}
    (S : CallFix p m c cc nL s args Ts own) (hM : vx_Met l y ws rm (gX D cy (.ref b :: As) A w) (xQE D A code post) (xXE D A em code pw) 1 6 A) (cw : CallW R s args own C index y bytes maxL ret ws rm 1 6 n) (hK : va_K D vwCl [(cy, .int)] s) (hA : ∀ q, s.heap.size ≤ q → A q) (hN : xN A s) (hw : wS D A w s H locs) (q0 : Nat) (he : w[q0]? = some (b, .inr (ci, fs))) (hc : vwCl[ci]? = some (C, T, N)) (hn : As.length = n) (hsize : ls.size = nL) (hst : st = As.reverse ++ .ref b :: rest) (hW : (rest.map fun v => v.category).sum ≤ 8) (hf : cells + 1 ≤ R.cells ∧ slots + 6 ≤ R.slots) (hdg : decode cc pc = .ok (.invokevirtual index, 3))
    (kx : ∀ (H : Heap) (locs : List Loc) (q9 : Addr) (ce : Cell) (w0 : va_W), code ≠ 0 → pw w0 → wS D A w0 s H locs → H[q9]? = some ce → ce.vm = .none → s.vm.findClass (em code) = some ce.cls → vx_W p l e R s m args below meth c H locs (cells + 1) (slots + 6) Q (F0 m pc ls rest) q9)
    (k : ∀ (H : Heap) (locs : List Loc) (v : Option Value) (w1 : va_W), code = 0 → post v w1 → wS D A w1 s H locs → W p l e R s m args below meth c H locs (cells + 1) (slots + 6) Q (F0 m (pc + 3) ls (v.toList ++ rest))) : W p l e R s m args below meth c H locs cells slots Q (F0 m pc ls st) := by
  subst hst
  intro T hT X
  rcases (vx_runV S hM cw ⟨gX_blind, va_recv hK hw.1 hc he, fun U hU hW => ⟨⟨rfl, by rw [hU]; exact hw.1, va_K.moved hW.alike hK, hw.2.1, fun q hq => hA q (Nat.le_trans (by rw [hU] at hq; exact hw.2.2.1) (by rw [hU] at hq; exact hq))⟩, xN.warm hW hU hw.2.2 hN⟩⟩ rfl hn hsize rfl (lv_room hW) hdg hf) T hT X with ⟨v', st₀, t, T', L, h0, X', hL, e1, e2, hQ, stp⟩ | ⟨q9, st₀, t, T', L, E, ce, h0, X', hL, e1, e2, hQ, hce, hcv, hcl, stp⟩
  · obtain ⟨hcode, v, w1, hv, hp, hP1, hD1, hF⟩ := hQ
    cases hv
    obtain ⟨t2, a1, b1⟩ := k T'.heap (locs ++ L) _ w1 hcode hp (hw.next h0 e1 hL hP1 hD1 hF) T' rfl X'
    exact ⟨t2, stp t2 a1, b1⟩
  · obtain ⟨hcode, hE, w0, hp, hP1, hD1, hF⟩ := hQ
    subst hE
    obtain ⟨t2, a1, b1⟩ := kx T'.heap (locs ++ L) q9 ce w0 hcode hp (hw.next h0 e1 hL hP1 hD1 hF) (by rw [e1]; exact hce) hcv hcl T' rfl X'
    exact ⟨t2, stp.trans a1, b1⟩
/-- a wrapper called by the law: it never throws -/
theorem q_lS {D : va_G} {cy cJ : ClassId} {y : MethodName} {bytes : ByteArray} {maxL nL n index : Nat} {ret : Option FieldType} {hh : List (Nat × Nat × Nat × Nat)} {ws : List Cond} {rm : Room} {Ts : List Cond} {own : String} {As st : List Value} {A : Nat → Prop} {w : va_W} {post : Option Value → va_W → Prop}
    (S : CallFix p m c cc nL s args Ts own) (hM : vx_Met l y ws rm (gW D cy cJ As A w) (gE D A post) (fun _ _ _ => False) 1 6 A) (cw : vx_CSW R s args own index y bytes maxL ret hh ws rm 1 6 n) (hK : va_K D vwCl [(cy, .int)] s) (hJ : va_K D vwCl [(cJ, .long)] s) (hC : xC s) (hA : ∀ q, s.heap.size ≤ q → A q) (hN : xN A s) (hw : wS D A w s H locs) (hn : As.length = n) (hsize : ls.size = nL) (hst : st = As.reverse ++ rest) (hW : (rest.map fun v => v.category).sum ≤ 8) (hf : cells + 1 ≤ R.cells ∧ slots + 6 ≤ R.slots) (hdg : decode cc pc = .ok (.invokestatic index, 3))
    (k : ∀ (H : Heap) (locs : List Loc) (v : Option Value) (w1 : va_W), post v w1 → wS D A w1 s H locs → W p l e R s m args below meth c H locs (cells + 1) (slots + 6) Q (F0 m (pc + 3) ls (v.toList ++ rest))) : W p l e R s m args below meth c H locs cells slots Q (F0 m pc ls st) := by
  subst hst
  intro T hT X
  rcases (vx_runSX S hM cw ⟨gW_blind, fun U hU hW => ⟨⟨⟨rfl, by rw [hU]; exact hw.1, va_K.moved hW.alike hK, hw.2.1, fun q hq => hA q (Nat.le_trans (by rw [hU] at hq; exact hw.2.2.1) (by rw [hU] at hq; exact hq))⟩, xN.warm hW hU hw.2.2 hN⟩, va_K.moved hW.alike hJ, xC.moved hW.alike hC⟩⟩ rfl hn hsize rfl (lv_room hW) hdg hf) T hT X with ⟨v', st₀, t, T', L, h0, X', hL, e1, e2, hQ, stp⟩ | ⟨q9, st₀, t, T', L, E, ce, h0, X', hL, e1, e2, hQ, hce, hcv, hcl, stp⟩
  · obtain ⟨v, w1, hv, hp, hP1, hD1, hF⟩ := hQ
    cases hv
    obtain ⟨t2, a1, b1⟩ := k T'.heap (locs ++ L) _ w1 hp (hw.next h0 e1 hL hP1 hD1 hF) T' rfl X'
    exact ⟨t2, stp t2 a1, b1⟩
  · exact hQ.elim
end QW
theorem cRd_le (σ : Nat → Int32) (x : Int32) : cRd σ x ≤ 2 := by unfold cRd; repeat' split
                                                                 all_goals omega
theorem cCo_le (σ : Nat → Int32) (d q v : Int32) : cCo σ d q v ≤ 3 := by unfold cCo; repeat' split
                                                                         all_goals omega
