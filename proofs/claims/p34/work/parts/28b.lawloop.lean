/-! The script's cells; the law's loop. -/
theorem q_any {l : Launch} {y : MethodName} {ws ws' : List Cond} {rm : Room} {cc : ByteArray} {maxL : Nat} {ret : Option FieldType} {av : List Value} {P : State → Prop} {Qc : Array Value → State → Outcome → State → Prop} {mc ms : Nat} {free : Nat → Prop} (hy : plainName y.cls = true) (hw : ws = Cond.code y cc maxL ret :: ws') (hlen : (lg_sl av).length ≤ maxL)
    (body : ∀ (p : Program) (e : Env) (s : State) (m : MethodId) (below : List Frame) (meth : Method) (c : Code) (ls : Array Slot), p.tables.exec = Jvm.exec → c.code = cc → meth.sig.returnType = ret → c.maxLocals = maxL → (∀ x ∈ ws, x.before av.toArray s = true) → s.vm.findClass y.cls = some m.cls → meth.locks = false → P s → lv_has ls maxL (lv_args 0 av) →
      W p l e rm s m av.toArray below meth c s.heap [] 0 0 (MQ below Qc av.toArray s mc ms free) (F0 m 0 ls [])) : Met l y ws rm (fun v U => v = av.toArray ∧ P U) Qc mc ms free := by
  refine Met.ofW (cc := cc) (maxL := maxL) (ret := ret) hy hw ?_
  intro p e s m args below meth c s₁ B hml hv
  obtain ⟨rfl, hP⟩ := hv
  rw [lg_entry_eq]
  exact body p e s m below meth c _ B.exec B.bytes B.returns hml (atoms_spec (ws := ws) B.pre) (findClass_of_methodNamed B.named) B.notSynchronized hP (lv_entry av hlen)
section QC
variable {p : Program} {l : Launch} {e : Env} {R : Room} {s : State} {m : MethodId} {args : Array Value} {below : List Frame} {meth : Method} {c : Code} {H : Heap} {locs : List Loc} {cells slots : Nat} {Q : State → Prop} {cc : ByteArray} {pc : Nat} {ls : Array Slot} {rest : List Value}
theorem q_cX {bs L : Nat} {xs : Nat → Int32} {A : Nat → Prop} {y : MethodName} {bytes : ByteArray} {maxL nL n index : Nat} {ret : Option FieldType} {ws : List Cond} {rm : Room} {Ts : List Cond} {own : String} {As st : List Value} {r : Value}
    (S : CallFix p m c cc nL s args Ts own) (hM : Met l y ws rm (fun v U => v = As.toArray ∧ va_X bs L xs U U.heap) (k2_QcV r) 0 0 (fun _ => False)) (cw : CallB R s args own index y bytes maxL ret ws rm 0 0 n ∧ (Cond.static y).before args s = true) (hX : va_X bs L xs s s.heap) (hbl : bs < s.heap.size) (hbA : ¬ A bs) (hS : va_S A s.heap H locs)
    (hn : As.length = n) (hsize : ls.size = nL) (hst : st = As.reverse ++ rest) (hW : (rest.map fun v => v.category).sum ≤ 8) (hf : cells ≤ R.cells ∧ slots ≤ R.slots) (hdg : decode cc pc = .ok (.invokestatic index, 3))
    (k : W p l e R s m args below meth c H locs cells slots Q (F0 m (pc + 3) ls (r :: rest))) : W p l e R s m args below meth c H locs cells slots Q (F0 m pc ls st) := by
  subst hst
  exact W.callV (W.runS S hM cw ⟨fun _ U _ _ q => ⟨q.1, va_X.moved (Vm.Alike.refl U.vm) q.2⟩, fun U hU hW => ⟨rfl, va_X.moved hW.alike (by rw [hU]; exact va_X.kept hX (hS.2.1 bs hbl hbA))⟩⟩ rfl hn hsize rfl (lv_room hW) hdg hf) k
end QC
/-- a number of the script, or one made of its place -/
def clV (xs : Nat → Int32) (L i : Nat) : Int32 := if i < L then xs i else nI 767801321 * (nI i + nI 5) + nI 902932979
set_option maxHeartbeats 1000000 in
set_option maxRecDepth 100000 in
theorem c_L_cell {l : Launch} (bs L : Nat) (xs : Nat → Int32) (i : Nat) (hi : i < 1000) (hL : L ≤ 260) : Met l yL_cell wsL_cell (k2_rm 0 0) (fun v U => v = ([.ref bs, .int (nI i)] : List Value).toArray ∧ va_X bs L xs U U.heap) (k2_QcV (.int (clV xs L i))) 0 0 (fun _ => False) := by
  refine q_any (cc := cL_cell) (maxL := 2) (ret := some .int) (P := fun U => va_X bs L xs U U.heap) pl_L rfl (Nat.le_of_ble_eq_true rfl) ?_
  intro p e s m below meth c ls hx hb hr hml hts hown hlocks hX hl
  have hl : lv_has ls 2 [(0, .ref bs), (1, .int (nI i))] := hl
  have hbl : bs < s.heap.size := by
    obtain ⟨scr, h1, -⟩ := hX
    exact (Array.getElem?_eq_some_iff.mp h1).1
  have hS : va_S (fun _ => False) s.heap s.heap [] := va_S.rf
  refine lv_iload_n hx hb dL_cell_0 rfl (lv_at hl 1 rfl) ?_
  refine lv_aload_n hx hb dL_cell_1 rfl (lv_at hl 0 rfl) ?_
  refine va_slen hx hb hX hbl (fun h => h) hS dL_cell_2 ?_
  refine q_geN (a := i) (b := L) (tgt := 12) hx hb dL_cell_3 (by decide) (by omega) (by omega) (fun c_3 => ?_) (fun c_3 => ?_)
  · refine lv_ldc (v := nI 767801321) hx hb hown (hts (.constant RL 7 (767801321)) (List.mem_of_getElem? (i := 1) rfl)) dL_cell_12 ?_
    refine lv_iload_n hx hb dL_cell_14 rfl (lv_at hl 1 rfl) ?_
    refine lv_iconst (v := nI 5) hx hb dL_cell_15 rfl ?_
    refine lv_iadd hx hb dL_cell_16 ?_
    refine lv_imul hx hb dL_cell_17 ?_
    refine lv_ldc (v := nI 902932979) hx hb hown (hts (.constant RL 8 (902932979)) (List.mem_of_getElem? (i := 2) rfl)) dL_cell_18 ?_
    refine lv_iadd hx hb dL_cell_20 ?_
    exact q_iret hx hb hr hlocks dL_cell_21 (by unfold clV; rw [if_neg (by omega)])
  · refine lv_aload_n hx hb dL_cell_6 rfl (lv_at hl 0 rfl) ?_
    refine lv_iload_n hx hb dL_cell_7 rfl (lv_at hl 1 rfl) ?_
    refine va_sld hx hb hX hbl (fun h => h) hS (vp_in_nI (show i < L by omega) (by omega)) dL_cell_8 ?_
    refine lv_goto (tgt := 21) hx hb dL_cell_9 (by decide) ?_
    exact q_iret hx hb hr hlocks dL_cell_21 (by unfold clV; rw [if_pos (by omega), nI_clamp (by omega)])
/-- the law's surroundings -/
def lC (p : Program) (l : Launch) (s : State) (args : Array Value) (m : MethodId) (c : Code) (D : va_G) (cy : ClassId) (A : Nat → Prop) (bs L : Nat) (xs : Nat → Int32) : Prop :=
  p.tables.exec = Jvm.exec ∧ c.code = cL_law ∧ c.maxLocals = 5 ∧ s.vm.findClass RL = some m.cls ∧ (∀ w ∈ wsL_law, w.before args s = true) ∧ va_X bs L xs s s.heap ∧ bs < s.heap.size ∧ ¬ A bs ∧ va_K D vwCl [(cy, .int)] s ∧ (∀ q, s.heap.size ≤ q → A q) ∧ xN A s ∧ xC s ∧ l.stackTraces = false
/-- ahead of the act i -/
def lawS (D : va_G) (cy : ClassId) (A : Nat → Prop) (a : Nat → Nat) (rc rv i : Nat) (s : State) (H : Heap) (locs : List Loc) : Prop := ∃ (σ kept : Nat → Int32) (nxt cnt : Nat) (fl vf : Nat → Int32), wS D A (wX cy a σ kept nxt cnt (fun _ => 0) 0 0 (nI 0) (nI 0) (-1) (-1) ++ ((rc, .inl (cy, 2, .inl fl)) :: (rv, .inl (cy, 42, .inl vf)) :: [])) s H locs ∧ nxt < 6 ∧ cnt ≤ 6 ∧ Inv σ fl vf (64 * i)
set_option maxHeartbeats 2000000 in
set_option maxRecDepth 100000 in
theorem law_loop {p : Program} {l : Launch} {e : Env} {s : State} {m : MethodId} {args : Array Value} {below : List Frame} {meth : Method} {c : Code} {Q : State → Prop} {D : va_G} {cy : ClassId} {A : Nat → Prop} {a : Nat → Nat} {rc rv bs L : Nat} {xs : Nat → Int32} (C : lC p l s args m c D cy A bs L xs) (hL : L ≤ 260) (kend : ∀ (H : Heap) (locs : List Loc) (ls : Array Slot) (n1 n2 : Nat), n1 ≤ 600130 → n2 ≤ 7301079 → va_S A s.heap H locs → W p l e room_1 s m args below meth c H locs n1 n2 Q (F0 m 105 ls [])) : ∀ (k i n1 n2 : Nat) (H : Heap) (locs : List Loc) (ls : Array Slot), i + k = 44 → n1 + 2 * k ≤ 600130 → n2 + 48 * k ≤ 7301079 → lawS D cy A a rc rv i s H locs → lv_has ls 5 [(0, .ref bs), (1, .ref (a 0)), (2, .ref rc), (3, .ref rv), (4, .int (nI i))] → W p l e room_1 s m args below meth c H locs n1 n2 Q (F0 m 54 ls []) := by
  obtain ⟨hx, hb, hml, hown, hts, hX, hbl, hbA, hK, hA, hN, hC, hst⟩ := C
  intro k
  induction k with
  | zero =>
    intro i n1 n2 H locs ls hi h1 h2 hw hl
    obtain ⟨σ, kept, nxt, cnt, fl, vf, hw, -⟩ := hw
    refine lv_iload hx hb dL_law_54 (lv_at hl 4 rfl) ?_
    refine lv_bipush (v := nI 44) hx hb dL_law_56 rfl ?_
    refine q_geN (tgt := 105) hx hb dL_law_58 (by decide) (by omega) (by omega) (fun _ => ?_) (fun h => absurd h (by omega))
    exact kend _ _ _ _ _ (by omega) (by omega) hw.2.2
  | succ k ih =>
    intro i n1 n2 H locs ls hi h1 h2 hw hl
    obtain ⟨σ, kept, nxt, cnt, fl, vf, hw, hn, hc, hI⟩ := hw
    refine lv_iload hx hb dL_law_54 (lv_at hl 4 rfl) ?_
    refine lv_bipush (v := nI 44) hx hb dL_law_56 rfl ?_
    refine q_geN (tgt := 105) hx hb dL_law_58 (by decide) (by omega) (by omega) (fun h => absurd h (by omega)) (fun _ => ?_)
    refine lv_aload_n hx hb dL_law_61 rfl (lv_at hl 1 rfl) ?_
    refine lv_aload_n hx hb dL_law_62 rfl (lv_at hl 0 rfl) ?_
    refine lv_iconst (v := nI 2) hx hb dL_law_63 rfl ?_
    refine lv_iload hx hb dL_law_64 (lv_at hl 4 rfl) ?_
    refine q_mulN hx hb dL_law_66 ?_
    refine q_cX (As := [.ref bs, .int (nI (2 * i))]) (rest := [.ref (a 0)]) ⟨hx, hb, hml, hown, hts⟩ (c_L_cell bs L xs (2 * i) (by omega) hL) (va_cwS 2 hts gL_law_L_cell rfl rfl rfl hd_L_cell ⟨Nat.le_of_ble_eq_true rfl, Nat.le_of_ble_eq_true rfl⟩) hX hbl hbA hw.2.2 rfl hl.1 rfl (Nat.le_of_ble_eq_true rfl) ⟨show n1 ≤ 600130 by omega, show n2 ≤ 7301079 by omega⟩ dL_law_67 ?_
    refine lv_aload_n hx hb dL_law_70 rfl (lv_at hl 0 rfl) ?_
    refine lv_iconst (v := nI 2) hx hb dL_law_71 rfl ?_
    refine lv_iload hx hb dL_law_72 (lv_at hl 4 rfl) ?_
    refine q_mulN hx hb dL_law_74 ?_
    refine lv_iconst (v := nI 1) hx hb dL_law_75 rfl ?_
    refine q_addN hx hb dL_law_76 ?_
    refine q_cX (As := [.ref bs, .int (nI (2 * i + 1))]) (rest := [.int (clV xs L (2 * i)), .ref (a 0)]) ⟨hx, hb, hml, hown, hts⟩ (c_L_cell bs L xs (2 * i + 1) (by omega) hL) (va_cwS 2 hts gL_law_L_cell rfl rfl rfl hd_L_cell ⟨Nat.le_of_ble_eq_true rfl, Nat.le_of_ble_eq_true rfl⟩) hX hbl hbA hw.2.2 rfl hl.1 rfl (Nat.le_of_ble_eq_true rfl) ⟨show n1 ≤ 600130 by omega, show n2 ≤ 7301079 by omega⟩ dL_law_77 ?_
    refine lv_aload_n hx hb dL_law_80 rfl (lv_at hl 2 rfl) ?_
    refine lv_aload_n hx hb dL_law_81 rfl (lv_at hl 3 rfl) ?_
    refine q_yM (As := [.ref (a 0), .int (clV xs L (2 * i)), .int (clV xs L (2 * i + 1)), .ref rc, .ref rv]) (rest := []) ⟨hx, hb, hml, hown, hts⟩ (c_L_act hst D cy A a σ kept nxt cnt (fun _ => 0) 0 0 (nI 0) (nI 0) (-1) (-1) rc rv fl vf [] (64 * i) (clV xs L (2 * i)) (clV xs L (2 * i + 1)) hn hc hI (by omega)) (va_cwS 5 hts gL_law_L_act rfl rfl rfl hd_L_act ⟨Nat.le_of_ble_eq_true rfl, Nat.le_of_ble_eq_true rfl⟩) hK hC hA hN hw rfl hl.1 rfl (Nat.le_of_ble_eq_true rfl) ⟨show n1 + 2 ≤ 600130 by omega, show n2 + 48 ≤ 7301079 by omega⟩ dL_law_82 (fun H locs v9 w9 hp9 hw => ?_)
    obtain ⟨rfl, σ1, kept1, n3, n4, fl1, vf1, rfl, h3, h4, h5⟩ := hp9
    refine q_stk (show _ = ([.int (bI true)] : List Value) from rfl) ?_
    refine q_ifeqB (tgt := 97) hx hb dL_law_85 (by decide) (fun z => by cases z) (fun _ => ?_)
    refine lv_aload_n hx hb dL_law_88 rfl (lv_at hl 1 rfl) ?_
    refine lv_aload_n hx hb dL_law_89 rfl (lv_at hl 2 rfl) ?_
    refine lv_aload_n hx hb dL_law_90 rfl (lv_at hl 3 rfl) ?_
    refine q_cS (As := [.ref (a 0), .ref rc, .ref rv]) (rest := []) (w := []) ⟨hx, hb, hml, hown, hts⟩ (c_L_holds D cy a σ1 kept1 n3 n4 (fun _ => 0) 0 0 (nI 0) (nI 0) (-1) (-1) rc rv fl1 vf1 [] (64 * i + 64) h5 (by omega)) (va_cwS 3 hts gL_law_L_holds rfl rfl rfl hd_L_holds ⟨Nat.le_of_ble_eq_true rfl, Nat.le_of_ble_eq_true rfl⟩) hK hw.1 rfl hl.1 rfl (Nat.le_of_ble_eq_true rfl) ⟨show n1 + 2 ≤ 600130 by omega, show n2 + 48 ≤ 7301079 by omega⟩ dL_law_91 ?_
    refine q_ifneB (tgt := 99) hx hb dL_law_94 (by decide) (fun _ => ?_) (fun z => by cases z)
    refine lv_iinc (k := 4) (v := nI (i + 1)) (lv' := [(4, .int (nI (i + 1))), (0, .ref bs), (1, .ref (a 0)), (2, .ref rc), (3, .ref rv)]) hx hb dL_law_99 hl rfl (nI_add i 1) (by decide) rfl (fun ls hl => ?_)
    refine lv_goto (tgt := 54) hx hb dL_law_102 (by decide) ?_
    exact ih (i + 1) (n1 + 2) (n2 + 48) H locs ls (by omega) (by omega) (by omega) ⟨σ1, kept1, n3, n4, fl1, vf1, hw, h3, h4, Inv_mono h5 (by omega)⟩ (lv_sub hl [1, 2, 3, 4, 0] rfl)
