section QG
variable {p : Program} {l : Launch} {e : Env} {R : Room} {s : State} {m : MethodId} {args : Array Value} {below : List Frame} {meth : Method} {c : Code} {H : Heap} {locs : List Loc} {cells slots : Nat} {Q : State → Prop} {cc : ByteArray} {pc : Nat} {ls : Array Slot} {rest : List Value}
/-- a constructor whose start wants the nest's words, called from outside the nest -/
theorem q_wIG {D : va_G} {cy : ClassId} {y : MethodName} {bytes : ByteArray} {maxL nL n index : Nat} {ret : Option FieldType} {ws : List Cond} {rm : Room} {Ts : List Cond} {own : String} {As st : List Value} {b : Addr} {A : Nat → Prop} {w : va_W} {post : Option Value → va_W → Prop} {mc ms : Nat}
    (S : CallFix p m c cc nL s args Ts own) (hM : Met l y ws rm (gN D cy (.ref b :: As) A w) (gE D A post) mc ms A) (cw : CallB R s args own index y bytes maxL none ws rm mc ms n ∧ y.name = "<init>" ∧ (Cond.instanceMethod y).before args s = true) (hK : va_K D vwCl [(cy, .int)] s) (hA : ∀ q, s.heap.size ≤ q → A q) (hNn : ∀ x ∈ xNest, va_Nw x s) (hw : wS D A w s H locs) (hn : As.length = n) (hsize : ls.size = nL) (hst : st = As.reverse ++ .ref b :: rest) (hW : (rest.map fun v => v.category).sum ≤ 8) (hf : cells + mc ≤ R.cells ∧ slots + ms ≤ R.slots) (hdg : decode cc pc = .ok (.invokespecial index, 3))
    (k : ∀ (H : Heap) (locs : List Loc) (v : Option Value) (w1 : va_W), post v w1 → wS D A w1 s H locs → W p l e R s m args below meth c H locs (cells + mc) (slots + ms) Q (F0 m (pc + 3) ls (v.toList ++ rest))) : W p l e R s m args below meth c H locs cells slots Q (F0 m pc ls st) := by
  subst hst
  intro T hT X
  obtain ⟨v', st₀, t, T', L, h0, X', hL, e1, e2, hQ, stp⟩ := (va_runI S hM cw ⟨gN_blind, fun U hU hW => ⟨⟨rfl, by rw [hU]; exact hw.1, va_K.moved hW.alike hK, hw.2.1, fun q hq => hA q (Nat.le_trans (by rw [hU] at hq; exact hw.2.2.1) (by rw [hU] at hq; exact hq))⟩, xNest_warm hW hNn⟩⟩ rfl hn hsize rfl (lv_room hW) hdg hf) T hT X
  obtain ⟨v2, w1, hv, hpost, hP1, hD1, hz, hk⟩ := hQ
  cases hv
  rw [h0] at hz hk
  obtain ⟨t2, a1, b1⟩ := k T'.heap (locs ++ L) _ w1 hpost ⟨by rw [e1]; exact hP1, hD1, Nat.le_trans hw.2.2.1 (by rw [e1]; exact hz), fun q h1 h2 => by rw [e1, hk q (Nat.lt_of_lt_of_le h1 hw.2.2.1) h2]; exact hw.2.2.2.1 q h1 h2, fun q hq => by
      rcases List.mem_append.mp hq with h | h
      · exact hw.2.2.2.2 q h
      · exact hL q h⟩ T' rfl X'
  exact ⟨t2, stp t2 a1, b1⟩
end QG
set_option maxHeartbeats 2000000 in
set_option maxRecDepth 100000 in
/-- the law's entry, up to its loop -/
theorem law_start {p : Program} {l : Launch} {e : Env} {s : State} {m : MethodId} {below : List Frame} {meth : Method} {c : Code} {Q : State → Prop} {bs L : Nat} {xs : Nat → Int32} (hst : l.stackTraces = false) (hL : L ≤ 2048) (hx : p.tables.exec = Jvm.exec) (hb : c.code = cL_law) (hml : c.maxLocals = 9) (hown : s.vm.findClass RL = some m.cls) (hts0 : ∀ w ∈ lw_tbl, w.before #[Value.ref bs] s = true) (hX : va_X bs L xs s s.heap) (hbl : bs < s.heap.size) (hg : (Jvm.Cond.and given_1 narrow_1).before #[Value.ref bs] s = true)
    (kend : ∀ (H : Heap) (locs : List Loc) (ls : Array Slot) (n1 n2 : Nat), n1 ≤ 601024 → n2 ≤ 7293034 → va_S (fun q : Nat => s.heap.size ≤ q) s.heap H locs → W p l e room_1 s m #[Value.ref bs] below meth c H locs n1 n2 Q (F0 m 1534 ls [])) : W p l e room_1 s m #[Value.ref bs] below meth c s.heap [] 0 0 Q (entryFrame m ([Value.ref bs] : List Value).toArray 9) := by
  have hts : ∀ w ∈ wsL_law, w.before #[Value.ref bs] s = true := fun w h => hts0 w (wsL_law_in w h)
  have hA : ∀ q : Nat, s.heap.size ≤ q → (fun q : Nat => s.heap.size ≤ q) q := fun _ h => h
  have hbA : ¬ (fun q : Nat => s.heap.size ≤ q) bs := Nat.not_le.mpr hbl
  obtain ⟨D, cy, hK⟩ := law_K hts0
  have hNn := law_xNest hts0
  have hw : wS D (fun q : Nat => s.heap.size ≤ q) [] s s.heap [] := ⟨fun k q h => by simp at h, ⟨fun i j p q h => by simp at h, fun k q h => by simp at h⟩, va_S.rf⟩
  have hl := lv_entry ([.ref bs]) (n := 9) (Nat.le_of_ble_eq_true rfl)
  rw [lg_entry_eq]
  generalize (lg_sl ([.ref bs]) ++ List.replicate (9 - (lg_sl ([.ref bs])).length) Slot.unset).toArray = ls at hl ⊢
  have hl : lv_has ls 9 [(0, .ref bs)] := hl
  refine va_new (ci := 6) (fs := [.null, .null, .null, .null]) (C := RX6) (T := TX6) (N := 4) hx hb hts0 inX6 tyX6 tyX6_ok hown (hts0 (.classLink RL 8 RX6) (lw_in1 16 (by decide +kernel))) (hts0 (.instantiable RX6 4) (lw_in1 17 (by decide +kernel))) (hts0 (.initialized RX6) (lw_in1 1 (by decide +kernel))) hK hw.1 hw.2.1 hw.2.2 hA rfl (fun j hj => by rcases (show j = 0 ∨ j = 1 ∨ j = 2 ∨ j = 3 by omega) with rfl | rfl | rfl | rfl <;> rfl) (Nat.le_of_ble_eq_true rfl) (Nat.le_of_ble_eq_true rfl) dL_law_0 (fun q0 H hP hD hS => ?_)
  have hw : wS D (fun q : Nat => s.heap.size ≤ q) [(q0, .inr (6, [.null, .null, .null, .null]))] s H [] := ⟨hP, hD, hS⟩
  refine W.widen (k := 1) (n := 4) (Nat.le_of_ble_eq_true rfl) (Nat.le_of_ble_eq_true rfl) ?_
  refine lv_dup hx hb dL_law_3 rfl ?_
  refine q_wIG (ret := none) (As := []) (rest := [.ref q0]) ⟨hx, hb, hml, hown, hts⟩ (c_X6_init D cy _ q0 []) (cwI 0 hts gL_law_X6_init rfl rfl rfl (hts0 (.initialized RX6) (lw_in1 1 (by decide +kernel))) (hts0 (.methodLink RL 79 yX6_init) (lw_in1 18 (by decide +kernel))) (hts0 (.instanceMethod yX6_init) (lw_in1 19 (by decide +kernel))) rfl (by decide +kernel) ⟨Nat.le_of_ble_eq_true rfl, Nat.le_of_ble_eq_true rfl⟩) hK hA hNn hw rfl hl.1 rfl (Nat.le_of_ble_eq_true rfl) ⟨Nat.le_of_ble_eq_true rfl, Nat.le_of_ble_eq_true rfl⟩ dL_law_4 (fun H locs v9 w9 hp hw => ?_)
  obtain ⟨rfl, a, rfl, rfl⟩ := hp
  refine W.widen (k := 20) (n := 884) (Nat.le_of_ble_eq_true rfl) (Nat.le_of_ble_eq_true rfl) ?_
  refine q_stk (show _ = ([.ref (a 0)] : List Value) from rfl) ?_
  refine lv_astore_n (lv' := [(1, .ref (a 0)), (0, .ref bs)]) hx hb dL_law_7 rfl hl (by decide) rfl (fun ls hl => ?_)
  refine va_new (ci := 7) (fs := [.null, .null, .int (nI (0)), .null, .null, .int (nI (0)), .int (nI (0)), .int (nI (0)), .int (nI (0)), .int (nI (0)), .int (nI (0)), .int (nI (0)), .long (0)]) (C := RX7) (T := TX7) (N := 13) hx hb hts0 inX7 tyX7 tyX7_ok hown (hts0 (.classLink RL 80 RX7) (lw_in1 792 (by decide +kernel))) (hts0 (.instantiable RX7 13) (lw_in1 793 (by decide +kernel))) (hts0 (.initialized RX7) (lw_in1 9 (by decide +kernel))) hK hw.1 hw.2.1 hw.2.2 hA rfl (fun j hj => by rcases (show j = 0 ∨ j = 1 ∨ j = 2 ∨ j = 3 ∨ j = 4 ∨ j = 5 ∨ j = 6 ∨ j = 7 ∨ j = 8 ∨ j = 9 ∨ j = 10 ∨ j = 11 ∨ j = 12 by omega) with rfl | rfl | rfl | rfl | rfl | rfl | rfl | rfl | rfl | rfl | rfl | rfl | rfl <;> rfl) (Nat.le_of_ble_eq_true rfl) (Nat.le_of_ble_eq_true rfl) dL_law_8 (fun q8 H hP hD hS => ?_)
  have hw := wS_rot (show wS D (fun q : Nat => s.heap.size ≤ q) ((wX cy a iniS (fun _ => 0) 0 0 (fun _ => 0) 0 0 (nI 0) (nI 0) (-1) (-1) ++ []) ++ [(q8, .inr (7, [.null, .null, .int (nI (0)), .null, .null, .int (nI (0)), .int (nI (0)), .int (nI (0)), .int (nI (0)), .int (nI (0)), .int (nI (0)), .int (nI (0)), .long (0)]))]) s H locs from ⟨hP, hD, hS⟩)
  refine W.widen (k := 21) (n := 897) (Nat.le_of_ble_eq_true rfl) (Nat.le_of_ble_eq_true rfl) ?_
  refine lv_dup hx hb dL_law_11 rfl ?_
  refine q_wIE (ret := none) (As := []) (rest := [.ref q8]) ⟨hx, hb, hml, hown, hts⟩ (c_X7_init D cy _ q8 (wX cy a iniS (fun _ => 0) 0 0 (fun _ => 0) 0 0 (nI 0) (nI 0) (-1) (-1) ++ [])) (cwI 0 hts gL_law_X7_init rfl rfl rfl (hts0 (.initialized RX7) (lw_in1 9 (by decide +kernel))) (hts0 (.methodLink RL 82 yX7_init) (lw_in1 794 (by decide +kernel))) (hts0 (.instanceMethod yX7_init) (lw_in1 795 (by decide +kernel))) rfl (by decide +kernel) ⟨Nat.le_of_ble_eq_true rfl, Nat.le_of_ble_eq_true rfl⟩) hK hA hw rfl hl.1 rfl (Nat.le_of_ble_eq_true rfl) ⟨Nat.le_of_ble_eq_true rfl, Nat.le_of_ble_eq_true rfl⟩ dL_law_12 (fun H locs v9 w9 hp hw => ?_)
  obtain ⟨rfl, t, bf, sv, s_, rfl⟩ := hp
  refine W.widen (k := 25) (n := 1645) (Nat.le_of_ble_eq_true rfl) (Nat.le_of_ble_eq_true rfl) ?_
  refine q_stk (show _ = ([.ref q8] : List Value) from rfl) ?_
  refine lv_astore_n (lv' := [(2, .ref q8), (1, .ref (a 0)), (0, .ref bs)]) hx hb dL_law_15 rfl hl (by decide) rfl (fun ls hl => ?_)
  refine lv_iconst (v := nI 1) hx hb dL_law_16 rfl ?_
  have hn0 : ¬ nI 1 < 0 := fun h => absurd h (nI_pos (by omega))
  have hbt : 1 * componentBytes .long ≤ 536870912 := by
    have e9 : componentBytes .long = 8 := rfl
    rw [e9]; omega
  refine va_newa (atype := .long) (ty := .long) (n := nI 1) (N' := 1) (a0 := (1, .inr (.inl (fun _ => 0)))) hx hb (hts0 (.arrayClass .long) (lw_in1 1156 (by decide +kernel))) rfl hK hw.1 hw.2.1 hw.2.2 hA (fun _ => rfl) hn0 (nI_clamp (by omega)) hbt (Nat.le_of_ble_eq_true rfl) (Nat.le_of_ble_eq_true rfl) dL_law_17 (fun o cJ H hK2 hP hD hS => ?_)
  have hJ : va_K D vwCl [(cJ, .long)] s := hK2.sub [1] rfl
  have hw : wS D (fun q : Nat => s.heap.size ≤ q) (((t, .inl (cy, 60, .inl (fun _ => 0))) :: (bf, .inl (cy, 86, .inl (fun _ => 0))) :: (sv, .inl (cy, 516, .inl (fun _ => 0))) :: (s_, .inl (cy, 86, .inl (mS iniS))) :: (q8, .inr (7, [.ref (s_), .ref (sv), .int (nI (0)), .ref (bf), .ref (t), .int (nI (0)), .int (nI (0)), .int (nI (0)), .int (nI (0)), .int (nI (0)), .int (nI (0)), .int (nI (0)), .long (0)])) :: (wX cy a iniS (fun _ => 0) 0 0 (fun _ => 0) 0 0 (nI 0) (nI 0) (-1) (-1) ++ [])) ++ [(o, .inl (cJ, 1, .inr (.inl (fun _ => 0))))]) s H locs := ⟨hP, hD, hS⟩
  have hw := wS_part (X := (((t, .inl (cy, 60, .inl (fun _ => 0))) :: (bf, .inl (cy, 86, .inl (fun _ => 0))) :: (sv, .inl (cy, 516, .inl (fun _ => 0))) :: (s_, .inl (cy, 86, .inl (mS iniS))) :: (q8, .inr (7, [.ref (s_), .ref (sv), .int (nI (0)), .ref (bf), .ref (t), .int (nI (0)), .int (nI (0)), .int (nI (0)), .int (nI (0)), .int (nI (0)), .int (nI (0)), .int (nI (0)), .long (0)])) :: (wX cy a iniS (fun _ => 0) 0 0 (fun _ => 0) 0 0 (nI 0) (nI 0) (-1) (-1) ++ [])) ++ [(o, .inl (cJ, 1, .inr (.inl (fun _ => 0))))])) (pl := []) (cx := wX cy a iniS (fun _ => 0) 0 0 (fun _ => 0) 0 0 (nI 0) (nI 0) (-1) (-1) ++ ((o, .inl (cJ, 1, .inr (.inl (fun _ => 0)))) :: wM cy (fun k => [q8, s_, sv, bf, t].getD k 0) (mS iniS) (fun _ => 0) 0 (fun _ => 0) (fun _ => 0) 0 0 0 (nI 0) (nI 0) (nI 0) 0 0)) (by rw [List.append_nil]; exact hw) [5, 6, 7, 8, 9, 10, 11, 12, 13, 14, 15, 16, 17, 18, 19, 20, 21, 22, 23, 4, 3, 2, 1, 0] (by decide) rfl
  rw [List.append_nil] at hw
  refine W.widen (k := 26) (n := 1646) (Nat.le_of_ble_eq_true rfl) (Nat.le_of_ble_eq_true rfl) ?_
  refine lv_astore_n (lv' := [(3, .ref o), (2, .ref q8), (1, .ref (a 0)), (0, .ref bs)]) hx hb dL_law_19 rfl hl (by decide) rfl (fun ls hl => ?_)
  refine lv_iconst (v := nI 0) hx hb dL_law_20 rfl ?_
  refine lv_istore (lv' := [(4, .int (nI 0)), (3, .ref o), (2, .ref q8), (1, .ref (a 0)), (0, .ref bs)]) hx hb dL_law_21 hl (by decide) rfl (fun ls hl => ?_)
  have C : lC p l s #[Value.ref bs] m meth c D cy cJ (fun q : Nat => s.heap.size ≤ q) bs L xs := ⟨hx, hb, hml, hown, hts, hX, hbl, hbA, hK, hJ, hA, law_xN hts0 hg (fun a ha => Nat.not_le.mpr ha) (hK.1 6 _ rfl).2.1, law_xC hg, hst⟩
  have hT : tI (fun _ => 0) = fun _ => 0 := funext fun _ => nI_0
  have hl9 : lv_has ls 9 [(0, .ref bs), (1, .ref (a 0)), (2, .ref ((fun k => [q8, s_, sv, bf, t].getD k 0) 0)), (3, .ref o), (4, .int (nI 0))] := lv_sub hl [4, 3, 2, 1, 0] rfl
  refine law_loop (a := a) (b := (fun k => [q8, s_, sv, bf, t].getD k 0)) C hL kend 512 0 26 1646 H locs ls (by omega) (by omega) (by omega) (by omega) ⟨iniS, fun _ => 0, 0, 0, fun _ => 0, 0, 0, 0, 0, none, none, fun _ => 0, fun _ => 0, 0, 0, 0, some 0, some 0, 0, 0, fun _ => 0, ?_, ⟨by omega, by omega, fun j hj => absurd hj (by omega)⟩, Val_ini, fun _ => Nat.zero_le _, Nat.zero_le _, oB_none, oB_none⟩ hl9
  unfold lawW
  rw [hT]
  exact hw
