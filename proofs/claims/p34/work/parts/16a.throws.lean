/-! What may be thrown: the start holds what an exception needs; the end tells a code. -/
def xStr : List (Nat × String) := [(43, "there is no such address"), (58, "the unit is lost"), (79, "the value is out of range"), (85, "the write is not possible"), (94, "there is no such disc"), (99, "the disc is failed already"), (111, "the disc cannot be mended now"), (120, "the number of steps is out of range"), (125, "there is no room for a spare disc"), (133, "there is no such disc or place"), (138, "the unit is not there"), (159, "there is no such stripe or member"), (167, "there is no such stripe or unit")]
abbrev eI : String := "java/lang/IndexOutOfBoundsException"
abbrev eS : String := "java/lang/IllegalStateException"
abbrev eA : String := "java/lang/IllegalArgumentException"
abbrev eNm : List String := ["java/lang/RuntimeException", "java/lang/Exception"]
def xDs : List Cond := [.declares (Bundle.initS "java/lang/RuntimeException"), .declares (Bundle.initS "java/lang/Exception"), .declares (Bundle.initS Bundle.tN)]
def xWd : List Cond := [.castable eI eI, .castable eS eS, .castable eA eA, .declares (Bundle.initS "java/lang/RuntimeException"), .declares (Bundle.initS "java/lang/Exception"), .declares (Bundle.initS Bundle.tN)]
theorem xWd_warm {s U : State} (hW : s.WarmedH U.vm) (h : ∀ x ∈ xWd, va_Nw x s) : ∀ x ∈ xWd, va_Nw x U := by
  intro x hx
  have hq := h x hx
  simp only [xWd, List.mem_cons, List.mem_nil_iff, or_false] at hx
  rcases hx with rfl | rfl | rfl | rfl | rfl | rfl
  · exact va_Nw.warmC hW hq
  · exact va_Nw.warmC hW hq
  · exact va_Nw.warmC hW hq
  · exact va_Nw.warmD hW hq
  · exact va_Nw.warmD hW hq
  · exact va_Nw.warmD hW hq
theorem xWd_on : ∀ x ∈ xWd, x.onTables = true := by decide +kernel
def xN (A : Nat → Prop) (U : State) : Prop := vx_Zq Bundle.tN "UNASSIGNED_STACK" Bundle.steD A U U.heap ∧ vx_Zq Bundle.tN "SUPPRESSED_SENTINEL" Bundle.listD A U U.heap ∧ (∀ x ∈ xWd, va_Nw x U) ∧ ∀ q ∈ xStr, ∃ sa, vk_R RX6 q.1 q.2 sa U
theorem xN.same {A : Nat → Prop} {u U : State} (hv : U.vm = u.vm) (hh : U.heap = u.heap) (h : xN A u) : xN A U := by
  refine ⟨?_, ?_, fun x hx => va_Nw.same (xWd_on x hx) hv.symm (h.2.2.1 x hx), fun q hq => ?_⟩
  · rw [hh]; exact vx_Zq.moved (by rw [hv]; exact Vm.Alike.refl u.vm) h.1
  · rw [hh]; exact vx_Zq.moved (by rw [hv]; exact Vm.Alike.refl u.vm) h.2.1
  · obtain ⟨sa, hs⟩ := h.2.2.2 q hq
    exact ⟨sa, vk_R.same hv hs⟩
theorem xN.warm {A : Nat → Prop} {s U : State} {H : Heap} {locs : List Loc} (hW : s.WarmedH U.vm) (hU : U.heap = H) (hS : va_S A s.heap H locs) (h : xN A s) : xN A U := by
  refine ⟨?_, ?_, xWd_warm hW h.2.2.1, fun q hq => ?_⟩
  · rw [hU]; exact vx_Zq.moved hW.alike (h.1.kept hS.2.1)
  · rw [hU]; exact vx_Zq.moved hW.alike (h.2.1.kept hS.2.1)
  · obtain ⟨sa, hs⟩ := h.2.2.2 q hq
    exact ⟨sa, vk_R.warm hW hs⟩
def gX (D : va_G) (cy : ClassId) (av : List Value) (A : Nat → Prop) (w : va_W) : Array Value → State → Prop := fun v U => gP D cy av A w v U ∧ xN A U
theorem gX_blind {D : va_G} {cy : ClassId} {av : List Value} {A : Nat → Prop} {w : va_W} : FrameBlind (gX D cy av A w) := fun _ U _ _ q => ⟨gP_blind _ U _ _ q.1, xN.same (u := U) rfl rfl q.2⟩
def xQ (D : va_G) (A : Nat → Prop) (code : Nat) (v : Option Value) (w : va_W) : Array Value → State → Outcome → State → Prop := fun a st o t => code = 0 ∧ gQ D A v w a st o t
def xQE (D : va_G) (A : Nat → Prop) (code : Nat) (post : Option Value → va_W → Prop) : Array Value → State → Outcome → State → Prop := fun a st o t => code = 0 ∧ gE D A post a st o t
def xX (D : va_G) (A : Nat → Prop) (em : Nat → String) (code : Nat) (w : va_W) : String → State → State → Prop := fun E st t => code ≠ 0 ∧ E = em code ∧ va_P D vwCl w t.heap ∧ va_D A w ∧ va_F A st t
def xXE (D : va_G) (A : Nat → Prop) (em : Nat → String) (code : Nat) (pw : va_W → Prop) : String → State → State → Prop := fun E st t => code ≠ 0 ∧ E = em code ∧ ∃ w, pw w ∧ va_P D vwCl w t.heap ∧ va_D A w ∧ va_F A st t
theorem xX.E {D : va_G} {A : Nat → Prop} {em : Nat → String} {code : Nat} {w : va_W} {E : String} {st t : State} (h : xX D A em code w E st t) : xXE D A em code (fun w9 => w9 = w) E st t := ⟨h.1, h.2.1, w, rfl, h.2.2⟩
theorem xQ.E {D : va_G} {A : Nat → Prop} {code : Nat} {v : Option Value} {w : va_W} {a : Array Value} {st t : State} {o : Outcome} (h : xQ D A code v w a st o t) : xQE D A code (fun v9 w9 => v9 = v ∧ w9 = w) a st o t := ⟨h.1, v, w, h.2.1, ⟨rfl, rfl⟩, h.2.2⟩
/-- the world stands still while an exception is made -/
theorem wS.x {D : va_G} {A : Nat → Prop} {w : va_W} {s t : State} {H : Heap} {locs : List Loc} (hw : wS D A w s H locs) (hz : H.size ≤ t.heap.size) (hk : ∀ q : Nat, q < H.size → t.heap[q]? = H[q]?) : va_P D vwCl w t.heap ∧ va_D A w ∧ va_F A s t :=
  ⟨hw.1.kept (fun _ _ hq => hk _ (vx_lt hw.1 hq)), hw.2.1, Nat.le_trans hw.2.2.1 hz, fun q h1 h2 => by rw [hk q (Nat.lt_of_lt_of_le h1 hw.2.2.1)]; exact hw.2.2.2.1 q h1 h2⟩
theorem eNm_fit : ∀ n ∈ eNm, Bundle.fit n = true := by decide +kernel
theorem eI_fit : Bundle.fit eI = true := by decide +kernel
theorem eI_bad : ∀ w ∈ (vx_atS RX6 45 eI eNm).filter (fun w => !goodWord w), w ∈ Cond.castable eI eI :: xDs := by decide +kernel
theorem eI_wd : ∀ w ∈ Cond.castable eI eI :: xDs, w ∈ xWd := by decide +kernel
theorem eI_good : ∀ w ∈ Cond.classLink RX6 41 eI :: Cond.initialized eI :: vx_atS RX6 45 eI eNm, vx_ot w = true := by decide +kernel
theorem eS_fit : Bundle.fit eS = true := by decide +kernel
theorem eS_bad : ∀ w ∈ (vx_atS RX6 60 eS eNm).filter (fun w => !goodWord w), w ∈ Cond.castable eS eS :: xDs := by decide +kernel
theorem eS_wd : ∀ w ∈ Cond.castable eS eS :: xDs, w ∈ xWd := by decide +kernel
theorem eS_good : ∀ w ∈ Cond.classLink RX6 56 eS :: Cond.initialized eS :: vx_atS RX6 60 eS eNm, vx_ot w = true := by decide +kernel
theorem eA_fit : Bundle.fit eA = true := by decide +kernel
theorem eA_bad : ∀ w ∈ (vx_atS RX6 81 eA eNm).filter (fun w => !goodWord w), w ∈ Cond.castable eA eA :: xDs := by decide +kernel
theorem eA_wd : ∀ w ∈ Cond.castable eA eA :: xDs, w ∈ xWd := by decide +kernel
theorem eA_good : ∀ w ∈ Cond.classLink RX6 77 eA :: Cond.initialized eA :: vx_atS RX6 81 eA eNm, vx_ot w = true := by decide +kernel
section QX
variable {p : Program} {l : Launch} {e : Env} {R : Room} {s : State} {m : MethodId} {args : Array Value} {below : List Frame} {meth : Method} {c : Code} {H : Heap} {locs : List Loc} {cells slots : Nat} {Q : State → Prop} {cc : ByteArray} {pc : Nat} {ls : Array Slot} {rest : List Value}
theorem q_xmp {l : Launch} {D : va_G} {cy : ClassId} {y : MethodName} {ws ws' : List Cond} {rm : Room} {cc : ByteArray} {maxL : Nat} {ret : Option FieldType} {av : List Value} {A : Nat → Prop} {w : va_W} {Qc : Array Value → State → Outcome → State → Prop} {XC : String → State → State → Prop} {mc ms : Nat} (hy : plainName y.cls = true) (hw : ws = Cond.code y cc maxL ret :: ws') (hlen : (lg_sl av).length ≤ maxL)
    (body : ∀ (p : Program) (e : Env) (s : State) (m : MethodId) (below : List Frame) (meth : Method) (c : Code) (ls : Array Slot), p.tables.exec = Jvm.exec → c.code = cc → meth.sig.returnType = ret → c.maxLocals = maxL → (∀ x ∈ ws, x.before av.toArray s = true) → s.vm.findClass y.cls = some m.cls → meth.locks = false → wS D A w s s.heap [] → va_K D vwCl [(cy, .int)] s → (∀ q, s.heap.size ≤ q → A q) → lv_has ls maxL (lv_args 0 av) → (∀ x ∈ c.exceptionTable.toList, False) → xN A s →
      W p l e rm s m av.toArray below meth c s.heap [] 0 0 (vx_MQ below Qc XC av.toArray s mc ms A) (F0 m 0 ls [])) : vx_Met l y ws rm (gX D cy av A w) Qc XC mc ms A := by
  refine vx_ofW (cc := cc) (maxL := maxL) (ret := ret) hy hw ?_
  intro p e s m args below meth c s₁ B hml hexc hv
  obtain ⟨⟨rfl, hP, hK, hD, hA⟩, hN⟩ := hv
  rw [lg_entry_eq]
  exact body p e s m below meth c _ B.exec B.bytes B.returns hml (atoms_spec (ws := ws) B.pre) (findClass_of_methodNamed B.named) B.notSynchronized ⟨hP, hD, va_S.rf⟩ hK hA (lv_entry av hlen) hexc hN
theorem q_iretX {D : va_G} {A : Nat → Prop} {w : va_W} {code : Nat} {XC : String → State → State → Prop} {v r : Int32} (hx : p.tables.exec = Jvm.exec) (hb : c.code = cc) (hr : meth.sig.returnType = some .int) (hlocks : meth.locks = false) (hw : wS D A w s H locs) (h1 : cells ≤ 1) (h6 : slots ≤ 6) (hdg : decode cc pc = .ok (.ireturn, 1)) (h0 : code = 0) (hv : v = r) : W p l e R s m args below meth c H locs cells slots (vx_MQ below (xQ D A code (some (.int r)) w) XC args s 1 6 A) (F0 m pc ls [.int v]) := by
  subst hv
  exact vx_ret (W.widen h1 h6 (W.iret hx hb hr (fun t ht _ => ⟨h0, rfl, by rw [ht]; exact hw.1, hw.2.1, hw.2.2.F ht⟩) hw.2.2.2.2 hdg hlocks))
theorem q_iretXE {D : va_G} {A : Nat → Prop} {w : va_W} {code : Nat} {XC : String → State → State → Prop} {v : Int32} {post : Option Value → va_W → Prop} (hx : p.tables.exec = Jvm.exec) (hb : c.code = cc) (hr : meth.sig.returnType = some .int) (hlocks : meth.locks = false) (hw : wS D A w s H locs) (h1 : cells ≤ 1) (h6 : slots ≤ 6) (hdg : decode cc pc = .ok (.ireturn, 1)) (h0 : code = 0) (hv : post (some (.int v)) w) : W p l e R s m args below meth c H locs cells slots (vx_MQ below (xQE D A code post) XC args s 1 6 A) (F0 m pc ls [.int v]) :=
  vx_ret (W.widen h1 h6 (W.iret hx hb hr (fun t ht _ => ⟨h0, _, w, rfl, hv, by rw [ht]; exact hw.1, hw.2.1, hw.2.2.F ht⟩) hw.2.2.2.2 hdg hlocks))
end QX
