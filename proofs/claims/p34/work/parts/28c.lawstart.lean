section QG
variable {p : Program} {l : Launch} {e : Env} {R : Room} {s : State} {m : MethodId} {args : Array Value} {below : List Frame} {meth : Method} {c : Code} {H : Heap} {locs : List Loc} {cells slots : Nat} {Q : State → Prop} {cc : ByteArray} {pc : Nat} {ls : Array Slot} {rest : List Value}
/-- a constructor whose start wants the nest's words, called from outside the nest -/
theorem q_wIG {D : va_G} {cy : ClassId} {y : MethodName} {bytes : ByteArray} {maxL nL n index : Nat} {ret : Option FieldType} {ws : List Cond} {rm : Room} {Ts : List Cond} {own : String} {As st : List Value} {b : Addr} {A : Nat → Prop} {w : va_W} {post : Option Value → va_W → Prop} {mc ms : Nat}
    (S : CallFix p m c cc nL s args Ts own) (hM : Met l y ws rm (gN D cy (.ref b :: As) A w) (gE D A post) mc ms A) (cw : CallB R s args own index y bytes maxL none ws rm mc ms n ∧ y.name = "<init>" ∧ (Cond.instanceMethod y).before args s = true) (hK : va_K D vwCl [(cy, .int)] s) (hA : ∀ q, s.heap.size ≤ q → A q) (hNn : ∀ x ∈ xNest, va_Nw x s) (hw : wS D A w s H locs) (hn : As.length = n) (hsize : ls.size = nL) (hst : st = As.reverse ++ .ref b :: rest) (hW : (rest.map fun v => v.category).sum ≤ 8) (hf : cells + mc ≤ R.cells ∧ slots + ms ≤ R.slots) (hdg : decode cc pc = .ok (.invokespecial index, 3))
    (k : ∀ (H : Heap) (locs : List Loc) (v : Option Value) (w1 : va_W), post v w1 → wS D A w1 s H locs → W p l e R s m args below meth c H locs (cells + mc) (slots + ms) Q (F0 m (pc + 3) ls (v.toList ++ rest))) : W p l e R s m args below meth c H locs cells slots Q (F0 m pc ls st) := by
  subst hst
  intro T hT X
  obtain ⟨v', st₀, t, T', L, h0, X', hL, e1, e2, hQ, stp⟩ := (va_runI S hM cw ⟨gN_blind, fun U hU hW => ⟨⟨rfl, by rw [hU]; exact hw.1, va_K.moved hW.alike hK, hw.2.1, fun q hq => hA q (Nat.le_trans (by rw [hU] at hq; exact hw.2.2.1) (by rw [hU] at hq; exact hq))⟩, xNest_warm hW hNn⟩⟩ rfl hn hsize rfl (lv_room hW) hdg hf) T hT X
  obtain ⟨v2, w1, hv, hpost, hP1, hD1, hz, hk⟩ := hQ
  cases hv
  rw [h0] at hz hk
  obtain ⟨t2, a1, b1⟩ := k T'.heap (locs ++ L) _ w1 hpost ⟨by rw [e1]; exact hP1, hD1, Nat.le_trans hw.2.2.1 (by rw [e1]; exact hz), fun q h1 h2 => by rw [e1, hk q (Nat.lt_of_lt_of_le h1 hw.2.2.1) h2]; exact hw.2.2.2.1 q h1 h2, fun q hq => by
      rcases List.mem_append.mp hq with h | h
      · exact hw.2.2.2.2 q h
      · exact hL q h⟩ T' rfl X'
  exact ⟨t2, stp t2 a1, b1⟩
end QG
theorem wst_ini : (wst iniS 7).1 = 0 := by decide +kernel
set_option maxHeartbeats 2000000 in
set_option maxRecDepth 100000 in
/-- the law's entry, and its loop -/
theorem law_start {p : Program} {l : Launch} {e : Env} {s : State} {m : MethodId} {below : List Frame} {meth : Method} {c : Code} {Q : State → Prop} {bs L : Nat} {xs : Nat → Int32} (hst : l.stackTraces = false) (hL : L ≤ 260) (hx : p.tables.exec = Jvm.exec) (hb : c.code = cL_law) (hml : c.maxLocals = 5) (hown : s.vm.findClass RL = some m.cls) (hts0 : ∀ w ∈ lw_tbl, w.before #[Value.ref bs] s = true) (hX : va_X bs L xs s s.heap) (hbl : bs < s.heap.size) (hg : (Jvm.Cond.and given_1 narrow_1).before #[Value.ref bs] s = true)
    (kend : ∀ (H : Heap) (locs : List Loc) (ls : Array Slot) (n1 n2 : Nat), n1 ≤ 600130 → n2 ≤ 7301079 → va_S (fun q : Nat => s.heap.size ≤ q) s.heap H locs → W p l e room_1 s m #[Value.ref bs] below meth c H locs n1 n2 Q (F0 m 105 ls [])) : W p l e room_1 s m #[Value.ref bs] below meth c s.heap [] 0 0 Q (entryFrame m ([Value.ref bs] : List Value).toArray 5) := by
  have hts : ∀ w ∈ wsL_law, w.before #[Value.ref bs] s = true := fun w h => hts0 w (wsL_law_in w h)
  have hA : ∀ q : Nat, s.heap.size ≤ q → (fun q : Nat => s.heap.size ≤ q) q := fun _ h => h
  have hbA : ¬ (fun q : Nat => s.heap.size ≤ q) bs := Nat.not_le.mpr hbl
  obtain ⟨D, cy, hK⟩ := law_K hts0
  have hNn := law_xNest hts0
  have hw : wS D (fun q : Nat => s.heap.size ≤ q) [] s s.heap [] := ⟨fun k q h => by simp at h, ⟨fun i j p q h => by simp at h, fun k q h => by simp at h⟩, va_S.rf⟩
  have hl := lv_entry ([.ref bs]) (n := 5) (Nat.le_of_ble_eq_true rfl)
  rw [lg_entry_eq]
  generalize (lg_sl ([.ref bs]) ++ List.replicate (5 - (lg_sl ([.ref bs])).length) Slot.unset).toArray = ls at hl ⊢
  have hl : lv_has ls 5 [(0, .ref bs)] := hl
  refine va_new (ci := 6) (fs := [.null, .null, .null, .null]) (C := RX6) (T := TX6) (N := 4) hx hb hts0 inX6 tyX6 tyX6_ok hown (hts0 (.classLink RL 11 RX6) (lw_in1 15 (by decide +kernel))) (hts0 (.instantiable RX6 4) (lw_in1 16 (by decide +kernel))) (hts0 (.initialized RX6) (lw_in1 1 (by decide +kernel))) hK hw.1 hw.2.1 hw.2.2 hA rfl (fun j hj => by rcases (show j = 0 ∨ j = 1 ∨ j = 2 ∨ j = 3 by omega) with rfl | rfl | rfl | rfl <;> rfl) (Nat.le_of_ble_eq_true rfl) (Nat.le_of_ble_eq_true rfl) dL_law_0 (fun q0 H hP hD hS => ?_)
  have hw : wS D (fun q : Nat => s.heap.size ≤ q) [(q0, .inr (6, [.null, .null, .null, .null]))] s H [] := ⟨hP, hD, hS⟩
  refine W.widen (k := 1) (n := 4) (Nat.le_of_ble_eq_true rfl) (Nat.le_of_ble_eq_true rfl) ?_
  refine lv_dup hx hb dL_law_3 rfl ?_
  refine q_wIG (ret := none) (As := []) (rest := [.ref q0]) ⟨hx, hb, hml, hown, hts⟩ (c_X6_init D cy _ q0 []) (cwI 0 hts gL_law_X6_init rfl rfl rfl (hts0 (.initialized RX6) (lw_in1 1 (by decide +kernel))) (hts0 (.methodLink RL 134 yX6_init) (lw_in1 17 (by decide +kernel))) (hts0 (.instanceMethod yX6_init) (lw_in1 18 (by decide +kernel))) rfl (by decide +kernel) ⟨Nat.le_of_ble_eq_true rfl, Nat.le_of_ble_eq_true rfl⟩) hK hA hNn hw rfl hl.1 rfl (Nat.le_of_ble_eq_true rfl) ⟨Nat.le_of_ble_eq_true rfl, Nat.le_of_ble_eq_true rfl⟩ dL_law_4 (fun H locs v9 w9 hp hw => ?_)
  obtain ⟨rfl, a, rfl, rfl⟩ := hp
  refine W.widen (k := 20) (n := 884) (Nat.le_of_ble_eq_true rfl) (Nat.le_of_ble_eq_true rfl) ?_
  refine q_stk (show _ = ([.ref (a 0)] : List Value) from rfl) ?_
  refine lv_astore_n (lv' := [(1, .ref (a 0)), (0, .ref bs)]) hx hb dL_law_7 rfl hl (by decide) rfl (fun ls hl => ?_)
  refine lv_iconst (v := nI 2) hx hb dL_law_8 rfl ?_
  refine va_newa (atype := .int) (ty := .int) (n := nI 2) (N' := 2) (a0 := (2, .inl (fun _ => 0))) hx hb (hts0 (.arrayClass .int) (lw_in1 42 (by decide +kernel))) rfl hK hw.1 hw.2.1 hw.2.2 hA (fun _ => rfl) (fun h => absurd h (nI_pos (by decide))) (nI_clamp (by decide)) (Nat.le_of_ble_eq_true rfl) (Nat.le_of_ble_eq_true rfl) (Nat.le_of_ble_eq_true rfl) dL_law_9 (fun rc cA H hK2 hP hD hS => ?_)
  have hcA := (cA_cy hK hK2).symm
  subst hcA
  refine W.widen (k := 21) (n := 886) (Nat.le_of_ble_eq_true rfl) (Nat.le_of_ble_eq_true rfl) ?_
  have hw : wS D (fun q : Nat => s.heap.size ≤ q) ((wX cy a iniS (fun _ => 0) 0 0 (fun _ => 0) 0 0 (nI 0) (nI 0) (-1) (-1) ++ []) ++ [(rc, .inl (cy, 2, .inl (fun _ => 0)))]) s H locs := ⟨hP, hD, hS⟩
  have hw : wS D (fun q : Nat => s.heap.size ≤ q) (wX cy a iniS (fun _ => 0) 0 0 (fun _ => 0) 0 0 (nI 0) (nI 0) (-1) (-1) ++ [(rc, .inl (cy, 2, .inl (fun _ => 0)))]) s H locs := hw
  refine lv_astore_n (lv' := [(2, .ref rc), (1, .ref (a 0)), (0, .ref bs)]) hx hb dL_law_11 rfl hl (by decide) rfl (fun ls hl => ?_)
  refine lv_bipush (v := nI 42) hx hb dL_law_12 rfl ?_
  refine va_newa (atype := .int) (ty := .int) (n := nI 42) (N' := 42) (a0 := (42, .inl (fun _ => 0))) hx hb (hts0 (.arrayClass .int) (lw_in1 42 (by decide +kernel))) rfl hK hw.1 hw.2.1 hw.2.2 hA (fun _ => rfl) (fun h => absurd h (nI_pos (by decide))) (nI_clamp (by decide)) (Nat.le_of_ble_eq_true rfl) (Nat.le_of_ble_eq_true rfl) (Nat.le_of_ble_eq_true rfl) dL_law_14 (fun rv cA H hK2 hP hD hS => ?_)
  have hcA := (cA_cy hK hK2).symm
  subst hcA
  refine W.widen (k := 22) (n := 928) (Nat.le_of_ble_eq_true rfl) (Nat.le_of_ble_eq_true rfl) ?_
  have hw : wS D (fun q : Nat => s.heap.size ≤ q) ((wX cy a iniS (fun _ => 0) 0 0 (fun _ => 0) 0 0 (nI 0) (nI 0) (-1) (-1) ++ [(rc, .inl (cy, 2, .inl (fun _ => 0)))]) ++ [(rv, .inl (cy, 42, .inl (fun _ => 0)))]) s H locs := ⟨hP, hD, hS⟩
  have hw : wS D (fun q : Nat => s.heap.size ≤ q) (wX cy a iniS (fun _ => 0) 0 0 (fun _ => 0) 0 0 (nI 0) (nI 0) (-1) (-1) ++ ((rc, .inl (cy, 2, .inl (fun _ => 0))) :: (rv, .inl (cy, 42, .inl (fun _ => 0))) :: [])) s H locs := hw
  refine lv_astore_n (lv' := [(3, .ref rv), (2, .ref rc), (1, .ref (a 0)), (0, .ref bs)]) hx hb dL_law_16 rfl hl (by decide) rfl (fun ls hl => ?_)
  refine lv_aload_n hx hb dL_law_17 rfl (lv_at hl 2 rfl) ?_
  refine q_cS (As := [.ref (a 0)]) (rest := []) (w := []) ⟨hx, hb, hml, hown, hts⟩ (c_L_isLaidOut D cy a iniS (fun _ => 0) 0 0 (fun _ => 0) 0 0 (nI 0) (nI 0) (-1) (-1) ((rc, .inl (cy, 2, .inl (fun _ => 0))) :: (rv, .inl (cy, 42, .inl (fun _ => 0))) :: [])) (va_cwS 1 hts gL_law_L_isLaidOut rfl rfl rfl hd_L_isLaidOut ⟨Nat.le_of_ble_eq_true rfl, Nat.le_of_ble_eq_true rfl⟩) hK hw.1 rfl hl.1 rfl (Nat.le_of_ble_eq_true rfl) ⟨Nat.le_of_ble_eq_true rfl, Nat.le_of_ble_eq_true rfl⟩ dL_law_18 ?_
  refine q_ifeqB (tgt := 49) hx hb dL_law_21 (by decide) (fun z => by cases z) (fun _ => ?_)
  refine lv_aload_n hx hb dL_law_24 rfl (lv_at hl 2 rfl) ?_
  refine lv_aload_n hx hb dL_law_25 rfl (lv_at hl 1 rfl) ?_
  refine lv_aload_n hx hb dL_law_26 rfl (lv_at hl 0 rfl) ?_
  refine q_cS (As := [.ref (a 0), .ref rc, .ref rv]) (rest := []) (w := []) ⟨hx, hb, hml, hown, hts⟩ (c_L_holds D cy a iniS (fun _ => 0) 0 0 (fun _ => 0) 0 0 (nI 0) (nI 0) (-1) (-1) rc rv (fun _ => 0) (fun _ => 0) [] 0 Inv_ini (by omega)) (va_cwS 3 hts gL_law_L_holds rfl rfl rfl hd_L_holds ⟨Nat.le_of_ble_eq_true rfl, Nat.le_of_ble_eq_true rfl⟩) hK hw.1 rfl hl.1 rfl (Nat.le_of_ble_eq_true rfl) ⟨Nat.le_of_ble_eq_true rfl, Nat.le_of_ble_eq_true rfl⟩ dL_law_27 ?_
  refine q_ifeqB (tgt := 49) hx hb dL_law_30 (by decide) (fun z => by cases z) (fun _ => ?_)
  refine lv_aload_n hx hb dL_law_33 rfl (lv_at hl 2 rfl) ?_
  refine q_cV (As := []) (rest := []) ⟨hx, hb, hml, hown, hts⟩ (c_X6_worst D cy a iniS (fun _ => 0) 0 0 (fun _ => 0) 0 0 (nI 0) (nI 0) (-1) (-1) ((rc, .inl (cy, 2, .inl (fun _ => 0))) :: (rv, .inl (cy, 42, .inl (fun _ => 0))) :: [])) (cwV 0 hts gL_law_X6_worst rfl rfl rfl hd_X6_worst ⟨Nat.le_of_ble_eq_true rfl, Nat.le_of_ble_eq_true rfl⟩) hK hw.1 0 rfl rfl rfl hl.1 rfl (Nat.le_of_ble_eq_true rfl) ⟨Nat.le_of_ble_eq_true rfl, Nat.le_of_ble_eq_true rfl⟩ dL_law_34 ?_
  refine lv_if_ne (tgt := 49) hx hb dL_law_37 (by decide) (fun h => absurd wst_ini h) (fun _ => ?_)
  refine lv_aload_n hx hb dL_law_40 rfl (lv_at hl 2 rfl) ?_
  refine q_cV (As := []) (rest := []) ⟨hx, hb, hml, hown, hts⟩ (c_X6_balance D cy a iniS (fun _ => 0) 0 0 (fun _ => 0) 0 0 (nI 0) (nI 0) (-1) (-1) ((rc, .inl (cy, 2, .inl (fun _ => 0))) :: (rv, .inl (cy, 42, .inl (fun _ => 0))) :: [])) (cwV 0 hts gL_law_X6_balance rfl rfl rfl hd_X6_balance ⟨Nat.le_of_ble_eq_true rfl, Nat.le_of_ble_eq_true rfl⟩) hK hw.1 0 rfl rfl rfl hl.1 rfl (Nat.le_of_ble_eq_true rfl) ⟨Nat.le_of_ble_eq_true rfl, Nat.le_of_ble_eq_true rfl⟩ dL_law_41 ?_
  refine lv_dconst1 hx hb dL_law_44 ?_
  refine lv_dcmp hx hb dL_law_45 ?_
  refine lv_if_eq (tgt := 51) hx hb dL_law_46 (by decide) (fun _ => ?_) (fun h => absurd bal_ini h)
  refine lv_iconst (v := nI 0) hx hb dL_law_51 rfl ?_
  refine lv_istore (lv' := [(4, .int (nI 0)), (3, .ref rv), (2, .ref rc), (1, .ref (a 0)), (0, .ref bs)]) hx hb dL_law_52 hl (by decide) rfl (fun ls hl => ?_)
  have C : lC p l s #[Value.ref bs] m c D cy (fun q : Nat => s.heap.size ≤ q) bs L xs := ⟨hx, hb, hml, hown, hts, hX, hbl, hbA, hK, hA, law_xN hts0 hg (fun a ha => Nat.not_le.mpr ha) (hK.1 6 _ rfl).2.1, law_xC hg, hst⟩
  exact law_loop (a := a) (rc := rc) (rv := rv) C hL kend 44 0 22 928 H locs ls (by omega) (by omega) (by omega) ⟨iniS, fun _ => 0, 0, 0, fun _ => 0, fun _ => 0, hw, by omega, by omega, Inv_ini⟩ (lv_sub hl [4, 3, 2, 1, 0] rfl)
