/-! The law's methods: what stands at their start; those that call what may throw. -/
def gY (D : va_G) (cy : ClassId) (av : List Value) (A : Nat → Prop) (w : va_W) : Array Value → State → Prop := fun v U => gX D cy av A w v U ∧ xC U
theorem gY_blind {D : va_G} {cy : ClassId} {av : List Value} {A : Nat → Prop} {w : va_W} : FrameBlind (gY D cy av A w) := fun _ U _ _ q => ⟨gX_blind _ U _ _ q.1, xC.moved (Vm.Alike.refl U.vm) q.2⟩
section QY
variable {p : Program} {l : Launch} {e : Env} {R : Room} {s : State} {m : MethodId} {args : Array Value} {below : List Frame} {meth : Method} {c : Code} {H : Heap} {locs : List Loc} {cells slots : Nat} {Q : State → Prop} {cc : ByteArray} {pc : Nat} {ls : Array Slot} {rest : List Value}
theorem q_ymp {l : Launch} {D : va_G} {cy : ClassId} {y : MethodName} {ws ws' : List Cond} {rm : Room} {cc : ByteArray} {maxL : Nat} {ret : Option FieldType} {hh : List (Nat × Nat × Nat × Nat)} {av : List Value} {A : Nat → Prop} {w : va_W} {Qc : Array Value → State → Outcome → State → Prop} {XC : String → State → State → Prop} {mc ms : Nat} (hy : plainName y.cls = true) (hw : ws = Cond.codeWith y cc maxL ret hh :: ws') (hlen : (lg_sl av).length ≤ maxL)
    (body : ∀ (p : Program) (e : Env) (s : State) (m : MethodId) (below : List Frame) (meth : Method) (c : Code) (ls : Array Slot), p.tables.exec = Jvm.exec → c.code = cc → meth.sig.returnType = ret → c.maxLocals = maxL → (∀ x ∈ ws, x.before av.toArray s = true) → s.vm.findClass y.cls = some m.cls → meth.locks = false → wS D A w s s.heap [] → va_K D vwCl [(cy, .int)] s → (∀ q, s.heap.size ≤ q → A q) → lv_has ls maxL (lv_args 0 av) → c.exceptionTable.toList = tableOf hh → xN A s → xC s →
      W p l e rm s m av.toArray below meth c s.heap [] 0 0 (vx_MQ below Qc XC av.toArray s mc ms A) (F0 m 0 ls [])) : vx_Met l y ws rm (gY D cy av A w) Qc XC mc ms A := by
  refine vx_ofWH (cc := cc) (maxL := maxL) (ret := ret) (hh := hh) hy hw ?_
  intro p e s m args below meth c s₁ B hml hv
  obtain ⟨⟨⟨rfl, hP, hK, hD, hA⟩, hN⟩, hC⟩ := hv
  rw [lg_entry_eq]
  have hts := atoms_spec (ws := ws) B.pre
  exact body p e s m below meth c _ B.exec B.bytes B.returns hml hts (findClass_of_methodNamed B.named) B.notSynchronized ⟨hP, hD, va_S.rf⟩ hK hA (lv_entry av hlen) (vx_table (x := y) B (hts (Cond.codeWith y cc maxL ret hh) (by rw [hw]; exact List.mem_cons_self ..))) hN hC
theorem q_ymi {l : Launch} {D : va_G} {cy : ClassId} {y : MethodName} {ws ws' : List Cond} {rm : Room} {cc : ByteArray} {maxL : Nat} {ret : Option FieldType} {av : List Value} {A : Nat → Prop} {w : va_W} {Qc : Array Value → State → Outcome → State → Prop} {mc ms : Nat} (hy : plainName y.cls = true) (hw : ws = Cond.code y cc maxL ret :: ws') (hlen : (lg_sl av).length ≤ maxL)
    (body : ∀ (p : Program) (e : Env) (s : State) (m : MethodId) (below : List Frame) (meth : Method) (c : Code) (ls : Array Slot), p.tables.exec = Jvm.exec → c.code = cc → meth.sig.returnType = ret → c.maxLocals = maxL → (∀ x ∈ ws, x.before av.toArray s = true) → s.vm.findClass y.cls = some m.cls → meth.locks = false → wS D A w s s.heap [] → va_K D vwCl [(cy, .int)] s → (∀ q, s.heap.size ≤ q → A q) → lv_has ls maxL (lv_args 0 av) → xN A s → xC s →
      W p l e rm s m av.toArray below meth c s.heap [] 0 0 (MQ below Qc av.toArray s mc ms A) (F0 m 0 ls [])) : Met l y ws rm (gY D cy av A w) Qc mc ms A := by
  refine Met.ofW (cc := cc) (maxL := maxL) (ret := ret) hy hw ?_
  intro p e s m args below meth c s₁ B hml hv
  obtain ⟨⟨⟨rfl, hP, hK, hD, hA⟩, hN⟩, hC⟩ := hv
  rw [lg_entry_eq]
  exact body p e s m below meth c _ B.exec B.bytes B.returns hml (atoms_spec (ws := ws) B.pre) (findClass_of_methodNamed B.named) B.notSynchronized ⟨hP, hD, va_S.rf⟩ hK hA (lv_entry av hlen) hN hC
/-- a method with a table of handlers, called by another one of the law's: it never throws -/
theorem q_yS {D : va_G} {cy : ClassId} {y : MethodName} {bytes : ByteArray} {maxL nL n index : Nat} {ret : Option FieldType} {hh : List (Nat × Nat × Nat × Nat)} {ws : List Cond} {rm : Room} {Ts : List Cond} {own : String} {As st : List Value} {A : Nat → Prop} {w : va_W} {post : Option Value → va_W → Prop} {mc ms : Nat}
    (S : CallFix p m c cc nL s args Ts own) (hM : vx_Met l y ws rm (gY D cy As A w) (gE D A post) (fun _ _ _ => False) mc ms A) (cw : vx_CSW R s args own index y bytes maxL ret hh ws rm mc ms n) (hK : va_K D vwCl [(cy, .int)] s) (hC : xC s) (hA : ∀ q, s.heap.size ≤ q → A q) (hN : xN A s) (hw : wS D A w s H locs) (hn : As.length = n) (hsize : ls.size = nL) (hst : st = As.reverse ++ rest) (hW : (rest.map fun v => v.category).sum ≤ 8) (hf : cells + mc ≤ R.cells ∧ slots + ms ≤ R.slots) (hdg : decode cc pc = .ok (.invokestatic index, 3))
    (k : ∀ (H : Heap) (locs : List Loc) (v : Option Value) (w1 : va_W), post v w1 → wS D A w1 s H locs → W p l e R s m args below meth c H locs (cells + mc) (slots + ms) Q (F0 m (pc + 3) ls (v.toList ++ rest))) : W p l e R s m args below meth c H locs cells slots Q (F0 m pc ls st) := by
  subst hst
  intro T hT X
  rcases (vx_runSX S hM cw ⟨gY_blind, fun U hU hW => ⟨⟨⟨rfl, by rw [hU]; exact hw.1, va_K.moved hW.alike hK, hw.2.1, fun q hq => hA q (Nat.le_trans (by rw [hU] at hq; exact hw.2.2.1) (by rw [hU] at hq; exact hq))⟩, xN.warm hW hU hw.2.2 hN⟩, xC.moved hW.alike hC⟩⟩ rfl hn hsize rfl (lv_room hW) hdg hf) T hT X with ⟨v', st₀, t, T', L, h0, X', hL, e1, e2, hQ, stp⟩ | ⟨q9, st₀, t, T', L, E, ce, h0, X', hL, e1, e2, hQ, hce, hcv, hcl, stp⟩
  · obtain ⟨v, w1, hv, hp, hP1, hD1, hF⟩ := hQ
    cases hv
    obtain ⟨t2, a1, b1⟩ := k T'.heap (locs ++ L) _ w1 hp (hw.next h0 e1 hL hP1 hD1 hF) T' rfl X'
    exact ⟨t2, stp t2 a1, b1⟩
  · exact hQ.elim
/-- a method without one -/
theorem q_yM {D : va_G} {cy : ClassId} {y : MethodName} {bytes : ByteArray} {maxL nL n index : Nat} {ret : Option FieldType} {ws : List Cond} {rm : Room} {Ts : List Cond} {own : String} {As st : List Value} {A : Nat → Prop} {w : va_W} {post : Option Value → va_W → Prop} {mc ms : Nat}
    (S : CallFix p m c cc nL s args Ts own) (hM : Met l y ws rm (gY D cy As A w) (gE D A post) mc ms A) (cw : CallB R s args own index y bytes maxL ret ws rm mc ms n ∧ (Cond.static y).before args s = true) (hK : va_K D vwCl [(cy, .int)] s) (hC : xC s) (hA : ∀ q, s.heap.size ≤ q → A q) (hN : xN A s) (hw : wS D A w s H locs) (hn : As.length = n) (hsize : ls.size = nL) (hst : st = As.reverse ++ rest) (hW : (rest.map fun v => v.category).sum ≤ 8) (hf : cells + mc ≤ R.cells ∧ slots + ms ≤ R.slots) (hdg : decode cc pc = .ok (.invokestatic index, 3))
    (k : ∀ (H : Heap) (locs : List Loc) (v : Option Value) (w1 : va_W), post v w1 → wS D A w1 s H locs → W p l e R s m args below meth c H locs (cells + mc) (slots + ms) Q (F0 m (pc + 3) ls (v.toList ++ rest))) : W p l e R s m args below meth c H locs cells slots Q (F0 m pc ls st) := by
  subst hst
  intro T hT X
  obtain ⟨v', st₀, t, T', L, h0, X', hL, e1, e2, hQ, stp⟩ := (va_runS S hM cw ⟨gY_blind, fun U hU hW => ⟨⟨⟨rfl, by rw [hU]; exact hw.1, va_K.moved hW.alike hK, hw.2.1, fun q hq => hA q (Nat.le_trans (by rw [hU] at hq; exact hw.2.2.1) (by rw [hU] at hq; exact hq))⟩, xN.warm hW hU hw.2.2 hN⟩, xC.moved hW.alike hC⟩⟩ rfl hn hsize rfl (lv_room hW) hdg hf) T hT X
  obtain ⟨v2, w1, hv, hpost, hP1, hD1, hF⟩ := hQ
  cases hv
  obtain ⟨t2, a1, b1⟩ := k T'.heap (locs ++ L) _ w1 hpost (hw.next h0 e1 hL hP1 hD1 hF) T' rfl X'
  exact ⟨t2, stp t2 a1, b1⟩
end QY
theorem hd_L_counted : yL_counted.cls ≠ "java/lang/invoke/MethodHandle" ∧ yL_counted.cls ≠ "java/lang/invoke/VarHandle" ∧ (parseMethodDescriptor yL_counted.desc).map (fun d => d.parameters.length) = some 1 := by decide +kernel
theorem hd_L_tryWrite : yL_tryWrite.cls ≠ "java/lang/invoke/MethodHandle" ∧ yL_tryWrite.cls ≠ "java/lang/invoke/VarHandle" ∧ (parseMethodDescriptor yL_tryWrite.desc).map (fun d => d.parameters.length) = some 3 := by decide +kernel
theorem hd_L_tryBegin : yL_tryBegin.cls ≠ "java/lang/invoke/MethodHandle" ∧ yL_tryBegin.cls ≠ "java/lang/invoke/VarHandle" ∧ (parseMethodDescriptor yL_tryBegin.desc).map (fun d => d.parameters.length) = some 2 := by decide +kernel
theorem hd_L_low : yL_low.cls ≠ "java/lang/invoke/MethodHandle" ∧ yL_low.cls ≠ "java/lang/invoke/VarHandle" ∧ (parseMethodDescriptor yL_low.desc).map (fun d => d.parameters.length) = some 2 := by decide +kernel
theorem hd_L_writes : yL_writes.cls ≠ "java/lang/invoke/MethodHandle" ∧ yL_writes.cls ≠ "java/lang/invoke/VarHandle" ∧ (parseMethodDescriptor yL_writes.desc).map (fun d => d.parameters.length) = some 5 := by decide +kernel
theorem hd_L_tryRead : yL_tryRead.cls ≠ "java/lang/invoke/MethodHandle" ∧ yL_tryRead.cls ≠ "java/lang/invoke/VarHandle" ∧ (parseMethodDescriptor yL_tryRead.desc).map (fun d => d.parameters.length) = some 2 := by decide +kernel
theorem hd_L_unsound : yL_unsound.cls ≠ "java/lang/invoke/MethodHandle" ∧ yL_unsound.cls ≠ "java/lang/invoke/VarHandle" ∧ (parseMethodDescriptor yL_unsound.desc).map (fun d => d.parameters.length) = some 1 := by decide +kernel
theorem hd_L_tryFail : yL_tryFail.cls ≠ "java/lang/invoke/MethodHandle" ∧ yL_tryFail.cls ≠ "java/lang/invoke/VarHandle" ∧ (parseMethodDescriptor yL_tryFail.desc).map (fun d => d.parameters.length) = some 2 := by decide +kernel
theorem hd_L_mends : yL_mends.cls ≠ "java/lang/invoke/MethodHandle" ∧ yL_mends.cls ≠ "java/lang/invoke/VarHandle" ∧ (parseMethodDescriptor yL_mends.desc).map (fun d => d.parameters.length) = some 3 := by decide +kernel
theorem hd_L_tryCorrupt : yL_tryCorrupt.cls ≠ "java/lang/invoke/MethodHandle" ∧ yL_tryCorrupt.cls ≠ "java/lang/invoke/VarHandle" ∧ (parseMethodDescriptor yL_tryCorrupt.desc).map (fun d => d.parameters.length) = some 4 := by decide +kernel
theorem hd_L_isLaidOut : yL_isLaidOut.cls ≠ "java/lang/invoke/MethodHandle" ∧ yL_isLaidOut.cls ≠ "java/lang/invoke/VarHandle" ∧ (parseMethodDescriptor yL_isLaidOut.desc).map (fun d => d.parameters.length) = some 1 := by decide +kernel
theorem hd_L_holds : yL_holds.cls ≠ "java/lang/invoke/MethodHandle" ∧ yL_holds.cls ≠ "java/lang/invoke/VarHandle" ∧ (parseMethodDescriptor yL_holds.desc).map (fun d => d.parameters.length) = some 3 := by decide +kernel
theorem hd_L_cell : yL_cell.cls ≠ "java/lang/invoke/MethodHandle" ∧ yL_cell.cls ≠ "java/lang/invoke/VarHandle" ∧ (parseMethodDescriptor yL_cell.desc).map (fun d => d.parameters.length) = some 2 := by decide +kernel
theorem hd_L_act : yL_act.cls ≠ "java/lang/invoke/MethodHandle" ∧ yL_act.cls ≠ "java/lang/invoke/VarHandle" ∧ (parseMethodDescriptor yL_act.desc).map (fun d => d.parameters.length) = some 5 := by decide +kernel
