/-- the constructors that only the nest may call -/
def xNest : List Cond := [.methodLinkNest RX3 20 yX2_init RX6, .methodLinkNest RX6 25 yX0_init RX6, .methodLinkNest RX6 32 yX3_init RX6]
theorem xNest_on : ∀ x ∈ xNest, x.onTables = true := by decide +kernel
theorem xNest_warm {s U : State} (hW : s.WarmedH U.vm) (h : ∀ x ∈ xNest, va_Nw x s) : ∀ x ∈ xNest, va_Nw x U := by
  intro x hx
  have hq := h x hx
  simp only [xNest, List.mem_cons, List.mem_nil_iff, or_false] at hx
  rcases hx with rfl | rfl | rfl
  · exact va_Nw.warmM hW hq
  · exact va_Nw.warmM hW hq
  · exact va_Nw.warmM hW hq
def gN (D : va_G) (cy : ClassId) (av : List Value) (A : Nat → Prop) (w : va_W) : Array Value → State → Prop := fun v U => gP D cy av A w v U ∧ ∀ x ∈ xNest, va_Nw x U
theorem gN_blind {D : va_G} {cy : ClassId} {av : List Value} {A : Nat → Prop} {w : va_W} : FrameBlind (gN D cy av A w) := fun _ U _ _ q => ⟨gP_blind _ U _ _ q.1, fun x hx => va_Nw.same (u := U) (xNest_on x hx) rfl (q.2 x hx)⟩
section QN
variable {p : Program} {l : Launch} {e : Env} {R : Room} {s : State} {m : MethodId} {args : Array Value} {below : List Frame} {meth : Method} {c : Code} {H : Heap} {locs : List Loc} {cells slots : Nat} {Q : State → Prop} {cc : ByteArray} {pc : Nat} {ls : Array Slot} {rest : List Value}
theorem q_inn {l : Launch} {D : va_G} {cy : ClassId} {y : MethodName} {ws ws' : List Cond} {rm : Room} {cc : ByteArray} {maxL : Nat} {ret : Option FieldType} {av : List Value} {A : Nat → Prop} {w : va_W} {Qc : Array Value → State → Outcome → State → Prop} {mc ms : Nat} (hy : plainName y.cls = true) (hy2 : y.name = "<init>") (hw : ws = Cond.code y cc maxL ret :: ws') (hlen : (lg_sl av).length ≤ maxL)
    (body : ∀ (p : Program) (e : Env) (s : State) (m : MethodId) (below : List Frame) (meth : Method) (c : Code) (ls : Array Slot), p.tables.exec = Jvm.exec → c.code = cc → meth.sig.returnType = ret → c.maxLocals = maxL → (∀ x ∈ ws, x.before av.toArray s = true) → s.vm.findClass y.cls = some m.cls → meth.locks = false → wS D A w s s.heap [] → va_K D vwCl [(cy, .int)] s → (∀ q, s.heap.size ≤ q → A q) → lv_has ls maxL (lv_args 0 av) → meth.name = "<init>" → (∀ x ∈ xNest, va_Nw x s) →
      W p l e rm s m av.toArray below meth c s.heap [] 0 0 (MQ below Qc av.toArray s mc ms A) (F0 m 0 ls [])) : Met l y ws rm (gN D cy av A w) Qc mc ms A := by
  refine Met.ofW (cc := cc) (maxL := maxL) (ret := ret) hy hw ?_
  intro p e s m args below meth c s₁ B hml hv
  obtain ⟨⟨rfl, hP, hK, hD, hA⟩, hNn⟩ := hv
  rw [lg_entry_eq]
  exact body p e s m below meth c _ B.exec B.bytes B.returns hml (atoms_spec (ws := ws) B.pre) (findClass_of_methodNamed B.named) B.notSynchronized ⟨hP, hD, va_S.rf⟩ hK hA (lv_entry av hlen) ((name_of_methodNamed B.named B.method).1.trans hy2) hNn
theorem q_wIN {D : va_G} {cy : ClassId} {y : MethodName} {bytes : ByteArray} {maxL nL n index : Nat} {ret : Option FieldType} {ws : List Cond} {rm : Room} {Ts : List Cond} {own host : String} {As st : List Value} {b : Addr} {A : Nat → Prop} {w : va_W} {post : Option Value → va_W → Prop} {mc ms : Nat}
    (S : CallFix p m c cc nL s args Ts own) (hM : Met l y ws rm (gN D cy (.ref b :: As) A w) (gE D A post) mc ms A) (cw : va_CN R s args own index y host bytes maxL none ws rm mc ms n ∧ y.name = "<init>" ∧ (Cond.instanceMethod y).before args s = true) (hK : va_K D vwCl [(cy, .int)] s) (hA : ∀ q, s.heap.size ≤ q → A q) (hNn : ∀ x ∈ xNest, va_Nw x s) (hw : wS D A w s H locs) (hn : As.length = n) (hsize : ls.size = nL) (hst : st = As.reverse ++ .ref b :: rest) (hW : (rest.map fun v => v.category).sum ≤ 8) (hf : cells + mc ≤ R.cells ∧ slots + ms ≤ R.slots) (hdg : decode cc pc = .ok (.invokespecial index, 3))
    (k : ∀ (H : Heap) (locs : List Loc) (v : Option Value) (w1 : va_W), post v w1 → wS D A w1 s H locs → W p l e R s m args below meth c H locs (cells + mc) (slots + ms) Q (F0 m (pc + 3) ls (v.toList ++ rest))) : W p l e R s m args below meth c H locs cells slots Q (F0 m pc ls st) := by
  subst hst
  intro T hT X
  obtain ⟨v', st₀, t, T', L, h0, X', hL, e1, e2, hQ, stp⟩ := (va_runIN S hM cw ⟨gN_blind, fun U hU hW => ⟨⟨rfl, by rw [hU]; exact hw.1, va_K.moved hW.alike hK, hw.2.1, fun q hq => hA q (Nat.le_trans (by rw [hU] at hq; exact hw.2.2.1) (by rw [hU] at hq; exact hq))⟩, xNest_warm hW hNn⟩⟩ rfl hn hsize rfl (lv_room hW) hdg hf) T hT X
  obtain ⟨v2, w1, hv, hpost, hP1, hD1, hz, hk⟩ := hQ
  cases hv
  rw [h0] at hz hk
  obtain ⟨t2, a1, b1⟩ := k T'.heap (locs ++ L) _ w1 hpost ⟨by rw [e1]; exact hP1, hD1, Nat.le_trans hw.2.2.1 (by rw [e1]; exact hz), fun q h1 h2 => by rw [e1, hk q (Nat.lt_of_lt_of_le h1 hw.2.2.1) h2]; exact hw.2.2.2.1 q h1 h2, fun q hq => by
      rcases List.mem_append.mp hq with h | h
      · exact hw.2.2.2.2 q h
      · exact hL q h⟩ T' rfl X'
  exact ⟨t2, stp t2 a1, b1⟩
end QN

set_option maxHeartbeats 1000000 in
set_option maxRecDepth 100000 in
theorem c_X2_init {l : Launch} (D : va_G) (cy : ClassId) (A : Nat → Prop) (b : Nat) (Z : va_W) : Met l yX2_init wsX2_init (k2_rm 1 21) (gN D cy [.ref (b)] A ((b, .inr (2, [.int (nI (0)), .int (nI (0)), .int (nI (0)), .int (nI (0))])) :: Z)) (gE D A (fun v9 w9 => v9 = none ∧ w9 = ((b, .inr (2, [.int (nI (0)), .int (nI (0)), .int (-1), .int (-1)])) :: Z))) 0 0 A := by
  refine q_inn (cc := cX2_init) (maxL := 1) (ret := none) pl_X2 rfl rfl (Nat.le_of_ble_eq_true rfl) ?_
  intro p e s m below meth c ls hx hb hr hml hts hown hlocks hw hK hA hl hin hNn
  have hP := hw.1
  have hl : lv_has ls 1 [(0, .ref (b))] := hl
  refine lv_aload_n hx hb dX2_init_0 rfl (lv_at hl 0 rfl) ?_
  refine W.objInit hx hb hown (hts (.methodLink RX2 3 objectInit) (List.mem_of_getElem? (i := 1) rfl)) (hts (.instanceMethod objectInit) (List.mem_of_getElem? (i := 2) rfl)) (hts (.code objectInit ⟨#[0xb1]⟩ 1 none) (List.mem_of_getElem? (i := 3) rfl)) rfl (by rw [hml]; exact hl.1) rfl dX2_init_1 (Nat.le_of_ble_eq_true rfl) (Nat.le_of_ble_eq_true rfl) ?_
  refine W.eq (g2 := F0 m 4 ls []) rfl ?_
  refine lv_aload_n hx hb dX2_init_4 rfl (lv_at hl 0 rfl) ?_
  refine lv_iconst (v := nI 0) hx hb dX2_init_5 rfl ?_
  refine va_put (D := D) (ci := 2) (v := .int (nI (0))) (ty := .int) (C := RX2) (T := TX2) (N := 4) hx hb hts (fun _ h => List.mem_cons_of_mem _ (List.mem_append_right _ h)) tyX2 tyX2_ok nmX2 hown hK hw.1 hw.2.1 hw.2.2 0 rfl rfl 0 (by decide) (hts (.fieldLink RX2 11 "SpreadParity$OrderReader" "phase" "I") (List.mem_of_getElem? (i := 4) rfl)) (fun _ h9 => h9) rfl (tyX2_ok 0 (by decide)) rfl rfl (Nat.le_of_ble_eq_true rfl) dX2_init_6 (fun H locs hP hD hS => ?_)
  have hw : wS D A ((b, .inr (2, [.int (nI (0)), .int (nI (0)), .int (nI (0)), .int (nI (0))])) :: Z) s H locs := ⟨hP, hD, hS⟩
  refine lv_aload_n hx hb dX2_init_9 rfl (lv_at hl 0 rfl) ?_
  refine lv_iconst (v := -1) hx hb dX2_init_10 rfl ?_
  refine va_put (D := D) (ci := 2) (v := .int (-1)) (ty := .int) (C := RX2) (T := TX2) (N := 4) hx hb hts (fun _ h => List.mem_cons_of_mem _ (List.mem_append_right _ h)) tyX2 tyX2_ok nmX2 hown hK hw.1 hw.2.1 hw.2.2 0 rfl rfl 2 (by decide) (hts (.fieldLink RX2 15 "SpreadParity$OrderReader" "number" "I") (List.mem_of_getElem? (i := 5) rfl)) (fun _ h9 => h9) rfl (tyX2_ok 2 (by decide)) rfl rfl (Nat.le_of_ble_eq_true rfl) dX2_init_11 (fun H locs hP hD hS => ?_)
  have hw : wS D A ((b, .inr (2, [.int (nI (0)), .int (nI (0)), .int (-1), .int (nI (0))])) :: Z) s H locs := ⟨hP, hD, hS⟩
  refine lv_aload_n hx hb dX2_init_14 rfl (lv_at hl 0 rfl) ?_
  refine lv_iconst (v := -1) hx hb dX2_init_15 rfl ?_
  refine va_put (D := D) (ci := 2) (v := .int (-1)) (ty := .int) (C := RX2) (T := TX2) (N := 4) hx hb hts (fun _ h => List.mem_cons_of_mem _ (List.mem_append_right _ h)) tyX2 tyX2_ok nmX2 hown hK hw.1 hw.2.1 hw.2.2 0 rfl rfl 3 (by decide) (hts (.fieldLink RX2 18 "SpreadParity$OrderReader" "value" "I") (List.mem_of_getElem? (i := 6) rfl)) (fun _ h9 => h9) rfl (tyX2_ok 3 (by decide)) rfl rfl (Nat.le_of_ble_eq_true rfl) dX2_init_16 (fun H locs hP hD hS => ?_)
  have hw : wS D A ((b, .inr (2, [.int (nI (0)), .int (nI (0)), .int (-1), .int (-1)])) :: Z) s H locs := ⟨hP, hD, hS⟩
  exact q_vretE hx hb hr hlocks (w := _) hw dX2_init_19 ⟨rfl, rfl⟩
set_option maxHeartbeats 1000000 in
set_option maxRecDepth 100000 in
theorem c_X0_init {l : Launch} (D : va_G) (cy : ClassId) (A : Nat → Prop) (b : Nat) (Z : va_W) : Met l yX0_init wsX0_init ({ frames := 2, cells := 2, slots := 517, locals := 42 } : Room) (gN D cy [.ref (b)] A ((b, .inr (0, [.null, .int (nI (0)), .int (nI (0))])) :: Z)) (gE D A (fun v9 w9 => v9 = none ∧ ∃ (r t : Nat), w9 = ((r, .inr (4, [.ref (t)])) :: (t, .inl (cy, 516, .inl (fun _ => 0))) :: (b, .inr (0, [.ref (r), .int (nI (0)), .int (nI (0))])) :: Z))) 2 517 A := by
  refine q_inn (cc := cX0_init) (maxL := 1) (ret := none) pl_X0 rfl rfl (Nat.le_of_ble_eq_true rfl) ?_
  intro p e s m below meth c ls hx hb hr hml hts hown hlocks hw hK hA hl hin hNn
  have hP := hw.1
  have hl : lv_has ls 1 [(0, .ref (b))] := hl
  refine lv_aload_n hx hb dX0_init_0 rfl (lv_at hl 0 rfl) ?_
  refine W.objInit hx hb hown (hts (.methodLink RX0 1 objectInit) (List.mem_of_getElem? (i := 1) rfl)) (hts (.instanceMethod objectInit) (List.mem_of_getElem? (i := 2) rfl)) (hts (.code objectInit ⟨#[0xb1]⟩ 1 none) (List.mem_of_getElem? (i := 3) rfl)) rfl (by rw [hml]; exact hl.1) rfl dX0_init_1 (Nat.le_of_ble_eq_true rfl) (Nat.le_of_ble_eq_true rfl) ?_
  refine W.eq (g2 := F0 m 4 ls []) rfl ?_
  refine lv_aload_n hx hb dX0_init_4 rfl (lv_at hl 0 rfl) ?_
  refine va_new (ci := 4) (fs := [.null]) (C := RX4) (T := TX4) (N := 1) hx hb hts (fun _ h => List.mem_cons_of_mem _ (List.mem_append_left _ (List.mem_append_right _ h))) tyX4 tyX4_ok hown (hts (.classLink RX0 7 RX4) (List.mem_of_getElem? (i := 4) rfl)) (hts (.instantiable RX4 1) (List.mem_of_getElem? (i := 5) rfl)) (hts (.initialized RX4) (List.mem_of_getElem? (i := 6) rfl)) hK hw.1 hw.2.1 hw.2.2 hA rfl (fun j hj => by rcases (show j = 0 by omega) with rfl <;> rfl) (Nat.le_of_ble_eq_true rfl) (Nat.le_of_ble_eq_true rfl) dX0_init_5 (fun q5 H hP hD hS => ?_)
  have hw := wS_rot (show wS D A (((b, .inr (0, [.null, .int (nI (0)), .int (nI (0))])) :: Z) ++ [(q5, .inr (4, [.null]))]) s H [] from ⟨hP, hD, hS⟩)
  refine W.widen (k := 1) (n := 1) (Nat.le_of_ble_eq_true rfl) (Nat.le_of_ble_eq_true rfl) ?_
  refine lv_dup hx hb dX0_init_8 rfl ?_
  refine lv_sipush (v := nI 516) hx hb dX0_init_9 rfl ?_
  refine q_wIE (ret := none) (As := [.int (nI (516))]) (rest := [.ref (q5), .ref (b)]) ⟨hx, hb, hml, hown, hts⟩ (c_X4_init D cy A q5 516 ((b, .inr (0, [.null, .int (nI (0)), .int (nI (0))])) :: Z) (by omega)) (cwI 1 hts gX0_init_X4_init rfl rfl rfl (hts (.initialized RX4) (List.mem_of_getElem? (i := 6) rfl)) (hts (.methodLink RX0 13 yX4_init) (List.mem_of_getElem? (i := 8) rfl)) (hts (.instanceMethod yX4_init) (List.mem_of_getElem? (i := 9) rfl)) rfl (by decide +kernel) ⟨Nat.le_of_ble_eq_true rfl, Nat.le_of_ble_eq_true rfl⟩) hK hA hw rfl hl.1 rfl (Nat.le_of_ble_eq_true rfl) ⟨Nat.le_of_ble_eq_true rfl, Nat.le_of_ble_eq_true rfl⟩ dX0_init_12 (fun H locs v9 w9 hp9 hw => ?_)
  obtain ⟨rfl, r12, rfl⟩ := hp9
  refine W.widen (k := 2) (n := 517) (Nat.le_of_ble_eq_true rfl) (Nat.le_of_ble_eq_true rfl) ?_
  refine q_stk (show _ = ([.ref (q5), .ref (b)] : List Value) from rfl) ?_
  have hw : wS D A ((q5, .inr (4, [.ref (r12)])) :: (r12, .inl (cy, 516, .inl (fun _ => 0))) :: (b, .inr (0, [.null, .int (nI (0)), .int (nI (0))])) :: Z) s H locs := hw
  have hP := hw.1
  refine va_putF (D := D) (ci := 0) (v := .ref (q5)) (ty := (.object "SpreadParity$Row")) (C := RX0) (T := TX0) (N := 3) hx hb hts (fun _ h => List.mem_cons_of_mem _ (List.mem_append_right _ h)) tyX0 tyX0_ok nmX0 hown hK hw.1 hw.2.1 hw.2.2 2 rfl rfl 0 (by decide) (hts (.fieldLink RX0 16 "SpreadParity$History" "kept" "LSpreadParity$Row;") (List.mem_of_getElem? (i := 7) rfl)) (fun _ h9 => h9) rfl hin rfl (by decide +kernel) rfl rfl (Nat.le_of_ble_eq_true rfl) dX0_init_15 (fun H locs hP hD hS => ?_)
  have hw : wS D A ((q5, .inr (4, [.ref (r12)])) :: (r12, .inl (cy, 516, .inl (fun _ => 0))) :: (b, .inr (0, [.ref (q5), .int (nI (0)), .int (nI (0))])) :: Z) s H locs := ⟨hP, hD, hS⟩
  exact q_vretE hx hb hr hlocks (w := _) hw dX0_init_18 ⟨rfl, q5, r12, rfl⟩
set_option maxHeartbeats 1000000 in
set_option maxRecDepth 100000 in
theorem c_X3_init {l : Launch} (D : va_G) (cy : ClassId) (A : Nat → Prop) (b : Nat) (Z : va_W) : Met l yX3_init wsX3_init ({ frames := 2, cells := 3, slots := 65, locals := 42 } : Room) (gN D cy [.ref (b)] A ((b, .inr (3, [.null, .null, .int (nI (0)), .int (nI (0))])) :: Z)) (gE D A (fun v9 w9 => v9 = none ∧ ∃ (u r t : Nat), w9 = ((u, .inr (2, [.int (nI (0)), .int (nI (0)), .int (-1), .int (-1)])) :: (r, .inr (4, [.ref (t)])) :: (t, .inl (cy, 60, .inl (fun _ => 0))) :: (b, .inr (3, [.ref (r), .ref (u), .int (nI (0)), .int (nI (0))])) :: Z))) 3 65 A := by
  refine q_inn (cc := cX3_init) (maxL := 1) (ret := none) pl_X3 rfl rfl (Nat.le_of_ble_eq_true rfl) ?_
  intro p e s m below meth c ls hx hb hr hml hts hown hlocks hw hK hA hl hin hNn
  have hP := hw.1
  have hl : lv_has ls 1 [(0, .ref (b))] := hl
  refine lv_aload_n hx hb dX3_init_0 rfl (lv_at hl 0 rfl) ?_
  refine W.objInit hx hb hown (hts (.methodLink RX3 1 objectInit) (List.mem_of_getElem? (i := 1) rfl)) (hts (.instanceMethod objectInit) (List.mem_of_getElem? (i := 2) rfl)) (hts (.code objectInit ⟨#[0xb1]⟩ 1 none) (List.mem_of_getElem? (i := 3) rfl)) rfl (by rw [hml]; exact hl.1) rfl dX3_init_1 (Nat.le_of_ble_eq_true rfl) (Nat.le_of_ble_eq_true rfl) ?_
  refine W.eq (g2 := F0 m 4 ls []) rfl ?_
  refine lv_aload_n hx hb dX3_init_4 rfl (lv_at hl 0 rfl) ?_
  refine va_new (ci := 4) (fs := [.null]) (C := RX4) (T := TX4) (N := 1) hx hb hts (fun _ h => List.mem_cons_of_mem _ (List.mem_append_left _ (List.mem_append_left _ (List.mem_append_right _ h)))) tyX4 tyX4_ok hown (hts (.classLink RX3 7 RX4) (List.mem_of_getElem? (i := 4) rfl)) (hts (.instantiable RX4 1) (List.mem_of_getElem? (i := 5) rfl)) (hts (.initialized RX4) (List.mem_of_getElem? (i := 6) rfl)) hK hw.1 hw.2.1 hw.2.2 hA rfl (fun j hj => by rcases (show j = 0 by omega) with rfl <;> rfl) (Nat.le_of_ble_eq_true rfl) (Nat.le_of_ble_eq_true rfl) dX3_init_5 (fun q5 H hP hD hS => ?_)
  have hw := wS_rot (show wS D A (((b, .inr (3, [.null, .null, .int (nI (0)), .int (nI (0))])) :: Z) ++ [(q5, .inr (4, [.null]))]) s H [] from ⟨hP, hD, hS⟩)
  refine W.widen (k := 1) (n := 1) (Nat.le_of_ble_eq_true rfl) (Nat.le_of_ble_eq_true rfl) ?_
  refine lv_dup hx hb dX3_init_8 rfl ?_
  refine lv_bipush (v := nI 60) hx hb dX3_init_9 rfl ?_
  refine q_wIE (ret := none) (As := [.int (nI (60))]) (rest := [.ref (q5), .ref (b)]) ⟨hx, hb, hml, hown, hts⟩ (c_X4_init D cy A q5 60 ((b, .inr (3, [.null, .null, .int (nI (0)), .int (nI (0))])) :: Z) (by omega)) (cwI 1 hts gX3_init_X4_init rfl rfl rfl (hts (.initialized RX4) (List.mem_of_getElem? (i := 6) rfl)) (hts (.methodLink RX3 11 yX4_init) (List.mem_of_getElem? (i := 12) rfl)) (hts (.instanceMethod yX4_init) (List.mem_of_getElem? (i := 13) rfl)) rfl (by decide +kernel) ⟨Nat.le_of_ble_eq_true rfl, Nat.le_of_ble_eq_true rfl⟩) hK hA hw rfl hl.1 rfl (Nat.le_of_ble_eq_true rfl) ⟨Nat.le_of_ble_eq_true rfl, Nat.le_of_ble_eq_true rfl⟩ dX3_init_11 (fun H locs v9 w9 hp9 hw => ?_)
  obtain ⟨rfl, r11, rfl⟩ := hp9
  refine W.widen (k := 2) (n := 61) (Nat.le_of_ble_eq_true rfl) (Nat.le_of_ble_eq_true rfl) ?_
  refine q_stk (show _ = ([.ref (q5), .ref (b)] : List Value) from rfl) ?_
  have hw : wS D A ((q5, .inr (4, [.ref (r11)])) :: (r11, .inl (cy, 60, .inl (fun _ => 0))) :: (b, .inr (3, [.null, .null, .int (nI (0)), .int (nI (0))])) :: Z) s H locs := hw
  have hP := hw.1
  refine va_putF (D := D) (ci := 3) (v := .ref (q5)) (ty := (.object "SpreadParity$Row")) (C := RX3) (T := TX3) (N := 4) hx hb hts (fun _ h => List.mem_cons_of_mem _ (List.mem_append_left _ (List.mem_append_right _ h))) tyX3 tyX3_ok nmX3 hown hK hw.1 hw.2.1 hw.2.2 2 rfl rfl 0 (by decide) (hts (.fieldLink RX3 14 "SpreadParity$OrderText" "signs" "LSpreadParity$Row;") (List.mem_of_getElem? (i := 7) rfl)) (fun _ h9 => h9) rfl hin rfl (by decide +kernel) rfl rfl (Nat.le_of_ble_eq_true rfl) dX3_init_14 (fun H locs hP hD hS => ?_)
  have hw : wS D A ((q5, .inr (4, [.ref (r11)])) :: (r11, .inl (cy, 60, .inl (fun _ => 0))) :: (b, .inr (3, [.ref (q5), .null, .int (nI (0)), .int (nI (0))])) :: Z) s H locs := ⟨hP, hD, hS⟩
  refine lv_aload_n hx hb dX3_init_17 rfl (lv_at hl 0 rfl) ?_
  refine va_new (ci := 2) (fs := [.int (nI (0)), .int (nI (0)), .int (nI (0)), .int (nI (0))]) (C := RX2) (T := TX2) (N := 4) hx hb hts (fun _ h => List.mem_cons_of_mem _ (List.mem_append_right _ h)) tyX2 tyX2_ok hown (hts (.classLink RX3 18 RX2) (List.mem_of_getElem? (i := 8) rfl)) (hts (.instantiable RX2 4) (List.mem_of_getElem? (i := 9) rfl)) (hts (.initialized RX2) (List.mem_of_getElem? (i := 10) rfl)) hK hw.1 hw.2.1 hw.2.2 hA rfl (fun j hj => by rcases (show j = 0 ∨ j = 1 ∨ j = 2 ∨ j = 3 by omega) with rfl | rfl | rfl | rfl <;> rfl) (Nat.le_of_ble_eq_true rfl) (Nat.le_of_ble_eq_true rfl) dX3_init_18 (fun q18 H hP hD hS => ?_)
  have hw := wS_rot (show wS D A (((q5, .inr (4, [.ref (r11)])) :: (r11, .inl (cy, 60, .inl (fun _ => 0))) :: (b, .inr (3, [.ref (q5), .null, .int (nI (0)), .int (nI (0))])) :: Z) ++ [(q18, .inr (2, [.int (nI (0)), .int (nI (0)), .int (nI (0)), .int (nI (0))]))]) s H locs from ⟨hP, hD, hS⟩)
  refine W.widen (k := 3) (n := 65) (Nat.le_of_ble_eq_true rfl) (Nat.le_of_ble_eq_true rfl) ?_
  refine lv_dup hx hb dX3_init_21 rfl ?_
  refine q_wIN (ret := none) (As := []) (rest := [.ref (q18), .ref (b)]) ⟨hx, hb, hml, hown, hts⟩ (c_X2_init D cy A q18 ((q5, .inr (4, [.ref (r11)])) :: (r11, .inl (cy, 60, .inl (fun _ => 0))) :: (b, .inr (3, [.ref (q5), .null, .int (nI (0)), .int (nI (0))])) :: Z)) ⟨va_cnB 0 hts gX3_init_X2_init_n20 rfl rfl rfl (hNn (.methodLinkNest RX3 20 yX2_init RX6) (by decide +kernel)) (hts (.initialized RX2) (List.mem_of_getElem? (i := 10) rfl)) (by decide +kernel) ⟨Nat.le_of_ble_eq_true rfl, Nat.le_of_ble_eq_true rfl⟩, rfl, (hts (.instanceMethod yX2_init) (List.mem_of_getElem? (i := 22) rfl))⟩ hK hA hNn hw rfl hl.1 rfl (Nat.le_of_ble_eq_true rfl) ⟨Nat.le_of_ble_eq_true rfl, Nat.le_of_ble_eq_true rfl⟩ dX3_init_22 (fun H locs v9 w9 hp9 hw => ?_)
  obtain ⟨rfl, rfl⟩ := hp9
  refine W.widen (k := 3) (n := 65) (Nat.le_of_ble_eq_true rfl) (Nat.le_of_ble_eq_true rfl) ?_
  refine q_stk (show _ = ([.ref (q18), .ref (b)] : List Value) from rfl) ?_
  have hw : wS D A ((q18, .inr (2, [.int (nI (0)), .int (nI (0)), .int (-1), .int (-1)])) :: (q5, .inr (4, [.ref (r11)])) :: (r11, .inl (cy, 60, .inl (fun _ => 0))) :: (b, .inr (3, [.ref (q5), .null, .int (nI (0)), .int (nI (0))])) :: Z) s H locs := hw
  have hP := hw.1
  refine va_putF (D := D) (ci := 3) (v := .ref (q18)) (ty := (.object "SpreadParity$OrderReader")) (C := RX3) (T := TX3) (N := 4) hx hb hts (fun _ h => List.mem_cons_of_mem _ (List.mem_append_left _ (List.mem_append_right _ h))) tyX3 tyX3_ok nmX3 hown hK hw.1 hw.2.1 hw.2.2 3 rfl rfl 1 (by decide) (hts (.fieldLink RX3 21 "SpreadParity$OrderText" "reader" "LSpreadParity$OrderReader;") (List.mem_of_getElem? (i := 11) rfl)) (fun _ h9 => h9) rfl hin rfl (by decide +kernel) rfl rfl (Nat.le_of_ble_eq_true rfl) dX3_init_25 (fun H locs hP hD hS => ?_)
  have hw : wS D A ((q18, .inr (2, [.int (nI (0)), .int (nI (0)), .int (-1), .int (-1)])) :: (q5, .inr (4, [.ref (r11)])) :: (r11, .inl (cy, 60, .inl (fun _ => 0))) :: (b, .inr (3, [.ref (q5), .ref (q18), .int (nI (0)), .int (nI (0))])) :: Z) s H locs := ⟨hP, hD, hS⟩
  exact q_vretE hx hb hr hlocks (w := _) hw dX3_init_28 ⟨rfl, q18, q5, r11, rfl⟩

