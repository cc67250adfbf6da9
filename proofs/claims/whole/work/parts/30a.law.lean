/-- the law's surroundings, the same at every call -/
def lC (p : Program) (l : Launch) (s : State) (args : Array Value) (m : MethodId) (meth : Method) (c : Code) (D : va_G) (cy cJ : ClassId) (A : Nat → Prop) (bs L : Nat) (xs : Nat → Int32) : Prop :=
  p.tables.exec = Jvm.exec ∧ c.code = cL_law ∧ c.maxLocals = 9 ∧ s.vm.findClass RL = some m.cls ∧ (∀ w ∈ wsL_law, w.before args s = true) ∧ va_X bs L xs s s.heap ∧ bs < s.heap.size ∧ ¬ A bs ∧ va_K D vwCl [(cy, .int)] s ∧ va_K D vwCl [(cJ, .long)] s ∧ (∀ q, s.heap.size ≤ q → A q) ∧ xN A s ∧ xC s ∧ l.stackTraces = false
set_option maxHeartbeats 1000000 in
set_option maxRecDepth 100000 in
theorem la_lost {p : Program} {l : Launch} {e : Env} {s : State} {m : MethodId} {args : Array Value} {below : List Frame} {meth : Method} {c : Code} {H : Heap} {locs : List Loc} {n1 n2 : Nat} {Q : State → Prop} {ls : Array Slot} {D : va_G} {cy cJ : ClassId} {A : Nat → Prop} {a b : Nat → Nat} {o bs L i : Nat} {xs : Nat → Int32} (C : lC p l s args m meth c D cy cJ A bs L xs) (hw : lawS D cy cJ A a b o s H locs) (hl : lv_has ls 9 [(0, .ref bs), (1, .ref (a 0)), (2, .ref (b 0)), (3, .ref o), (4, .int (nI i))]) (hi : i + 4 ≤ L) (hL : L ≤ 2048) (hn1 : n1 + 1 ≤ 601024) (hn2 : n2 + 6 ≤ 7293034)
    (k : ∀ (H : Heap) (locs : List Loc) (ls : Array Slot), lawS D cy cJ A a b o s H locs → lv_has ls 9 [(0, .ref bs), (1, .ref (a 0)), (2, .ref (b 0)), (3, .ref o), (4, .int (nI i))] → W p l e room_1 s m args below meth c H locs (n1 + 1) (n2 + 6) Q (F0 m 1528 ls [])) : W p l e room_1 s m args below meth c H locs n1 n2 Q (F0 m 989 ls []) := by
  obtain ⟨hx, hb, hml, hown, hts, hX, hbl, hbA, hK, hJ, hA, hN, hC, hst⟩ := C
  obtain ⟨σ, kept, nxt, cnt, tx, len, pos, pp, lc, on, ov, saved, bef, thr, t9, l9, x9, y9, d9, hs, out, hw, hI, hv, ht, hlen, ob1, ob2⟩ := hw
  have hw : wS D A (wX cy a σ kept nxt cnt (tI tx) len pos (nI pp) (nI lc) (nO on) (nO ov) ++ ((o, .inl (cJ, 1, .inr (.inl out))) :: wM cy b (mS σ) saved cnt bef (tI tx) len thr t9 (nI l9) (nO x9) (nO y9) d9 hs)) s H locs := hw
  refine lv_aload_n hx hb dL_law_989 rfl (lv_at hl 1 rfl) ?_
  refine q_cV (As := []) (rest := []) ⟨hx, hb, hml, hown, hts⟩ (c_X6_lost D cy a σ kept nxt cnt (tI tx) len pos (nI pp) (nI lc) (nO on) (nO ov) ((o, .inl (cJ, 1, .inr (.inl out))) :: wM cy b (mS σ) saved cnt bef (tI tx) len thr t9 (nI l9) (nO x9) (nO y9) d9 hs)) (cwV 0 hts gL_law_X6_lost rfl rfl rfl hd_X6_lost ⟨Nat.le_of_ble_eq_true rfl, Nat.le_of_ble_eq_true rfl⟩) hK hw.1 0 rfl rfl rfl hl.1 rfl (Nat.le_of_ble_eq_true rfl) ⟨show n1 + 0 ≤ 601024 by omega, show n2 + 0 ≤ 7293034 by omega⟩ dL_law_990 ?_
  refine lv_aload_n hx hb dL_law_993 rfl (lv_at hl 2 rfl) ?_
  have hw := pmA hw
  refine q_wV0 (As := []) (rest := [.int (nI (cl σ))]) (st1 := [.int (nI (cl σ)), .int (nI (cl σ))]) ⟨hx, hb, hml, hown, hts⟩ (c_X7_lost D cy A b σ saved cnt bef (tI tx) len thr t9 (nI l9) (nO x9) (nO y9) d9 hs (wX cy a σ kept nxt cnt (tI tx) len pos (nI pp) (nI lc) (nO on) (nO ov) ++ [(o, .inl (cJ, 1, .inr (.inl out)))]) hv) (cwV 0 hts gL_law_X7_lost rfl rfl rfl hd_X7_lost ⟨Nat.le_of_ble_eq_true rfl, Nat.le_of_ble_eq_true rfl⟩) hK hA hw 0 rfl rfl rfl hl.1 rfl rfl (Nat.le_of_ble_eq_true rfl) ⟨show n1 + 0 ≤ 601024 by omega, show n2 + 0 ≤ 7293034 by omega⟩ dL_law_994 (fun H locs hw => ?_)
  have hw := pmB hw
  refine lv_icmp_eq (tgt := 1528) hx hb dL_law_997 (by decide) (fun _ => ?_) (fun h => absurd rfl h)
  refine W.widen (k := n1 + 1) (n := n2 + 6) (by omega) (by omega) ?_
  exact k _ _ _ ⟨σ, kept, nxt, cnt, tx, len, pos, pp, lc, on, ov, saved, bef, 0, t9, l9, x9, y9, d9, hs, out, hw, hI, hv, ht, hlen, ob1, ob2⟩ (lv_sub hl [0, 1, 2, 3, 4] rfl)
set_option maxHeartbeats 1000000 in
set_option maxRecDepth 100000 in
theorem la_wrong {p : Program} {l : Launch} {e : Env} {s : State} {m : MethodId} {args : Array Value} {below : List Frame} {meth : Method} {c : Code} {H : Heap} {locs : List Loc} {n1 n2 : Nat} {Q : State → Prop} {ls : Array Slot} {D : va_G} {cy cJ : ClassId} {A : Nat → Prop} {a b : Nat → Nat} {o bs L i : Nat} {xs : Nat → Int32} (C : lC p l s args m meth c D cy cJ A bs L xs) (hw : lawS D cy cJ A a b o s H locs) (hl : lv_has ls 9 [(0, .ref bs), (1, .ref (a 0)), (2, .ref (b 0)), (3, .ref o), (4, .int (nI i))]) (hi : i + 4 ≤ L) (hL : L ≤ 2048) (hn1 : n1 + 1 ≤ 601024) (hn2 : n2 + 6 ≤ 7293034)
    (k : ∀ (H : Heap) (locs : List Loc) (ls : Array Slot), lawS D cy cJ A a b o s H locs → lv_has ls 9 [(0, .ref bs), (1, .ref (a 0)), (2, .ref (b 0)), (3, .ref o), (4, .int (nI i))] → W p l e room_1 s m args below meth c H locs (n1 + 1) (n2 + 6) Q (F0 m 1528 ls [])) : W p l e room_1 s m args below meth c H locs n1 n2 Q (F0 m 1002 ls []) := by
  obtain ⟨hx, hb, hml, hown, hts, hX, hbl, hbA, hK, hJ, hA, hN, hC, hst⟩ := C
  obtain ⟨σ, kept, nxt, cnt, tx, len, pos, pp, lc, on, ov, saved, bef, thr, t9, l9, x9, y9, d9, hs, out, hw, hI, hv, ht, hlen, ob1, ob2⟩ := hw
  have hw : wS D A (wX cy a σ kept nxt cnt (tI tx) len pos (nI pp) (nI lc) (nO on) (nO ov) ++ ((o, .inl (cJ, 1, .inr (.inl out))) :: wM cy b (mS σ) saved cnt bef (tI tx) len thr t9 (nI l9) (nO x9) (nO y9) d9 hs)) s H locs := hw
  refine lv_aload_n hx hb dL_law_1002 rfl (lv_at hl 1 rfl) ?_
  refine q_cV (As := []) (rest := []) ⟨hx, hb, hml, hown, hts⟩ (c_X6_wrong D cy a σ kept nxt cnt (tI tx) len pos (nI pp) (nI lc) (nO on) (nO ov) ((o, .inl (cJ, 1, .inr (.inl out))) :: wM cy b (mS σ) saved cnt bef (tI tx) len thr t9 (nI l9) (nO x9) (nO y9) d9 hs)) (cwV 0 hts gL_law_X6_wrong rfl rfl rfl hd_X6_wrong ⟨Nat.le_of_ble_eq_true rfl, Nat.le_of_ble_eq_true rfl⟩) hK hw.1 0 rfl rfl rfl hl.1 rfl (Nat.le_of_ble_eq_true rfl) ⟨show n1 + 0 ≤ 601024 by omega, show n2 + 0 ≤ 7293034 by omega⟩ dL_law_1003 ?_
  refine lv_aload_n hx hb dL_law_1006 rfl (lv_at hl 2 rfl) ?_
  have hw := pmA hw
  refine q_wV0 (As := []) (rest := [.int (nI (cw σ))]) (st1 := [.int (nI (cw σ)), .int (nI (cw σ))]) ⟨hx, hb, hml, hown, hts⟩ (c_X7_wrong D cy A b σ saved cnt bef (tI tx) len thr t9 (nI l9) (nO x9) (nO y9) d9 hs (wX cy a σ kept nxt cnt (tI tx) len pos (nI pp) (nI lc) (nO on) (nO ov) ++ [(o, .inl (cJ, 1, .inr (.inl out)))])) (cwV 0 hts gL_law_X7_wrong rfl rfl rfl hd_X7_wrong ⟨Nat.le_of_ble_eq_true rfl, Nat.le_of_ble_eq_true rfl⟩) hK hA hw 0 rfl rfl rfl hl.1 rfl rfl (Nat.le_of_ble_eq_true rfl) ⟨show n1 + 0 ≤ 601024 by omega, show n2 + 0 ≤ 7293034 by omega⟩ dL_law_1007 (fun H locs hw => ?_)
  have hw := pmB hw
  refine lv_icmp_eq (tgt := 1528) hx hb dL_law_1010 (by decide) (fun _ => ?_) (fun h => absurd rfl h)
  refine W.widen (k := n1 + 1) (n := n2 + 6) (by omega) (by omega) ?_
  exact k _ _ _ ⟨σ, kept, nxt, cnt, tx, len, pos, pp, lc, on, ov, saved, bef, 0, t9, l9, x9, y9, d9, hs, out, hw, hI, hv, ht, hlen, ob1, ob2⟩ (lv_sub hl [0, 1, 2, 3, 4] rfl)
set_option maxHeartbeats 1000000 in
set_option maxRecDepth 100000 in
theorem la_spares {p : Program} {l : Launch} {e : Env} {s : State} {m : MethodId} {args : Array Value} {below : List Frame} {meth : Method} {c : Code} {H : Heap} {locs : List Loc} {n1 n2 : Nat} {Q : State → Prop} {ls : Array Slot} {D : va_G} {cy cJ : ClassId} {A : Nat → Prop} {a b : Nat → Nat} {o bs L i : Nat} {xs : Nat → Int32} (C : lC p l s args m meth c D cy cJ A bs L xs) (hw : lawS D cy cJ A a b o s H locs) (hl : lv_has ls 9 [(0, .ref bs), (1, .ref (a 0)), (2, .ref (b 0)), (3, .ref o), (4, .int (nI i))]) (hi : i + 4 ≤ L) (hL : L ≤ 2048) (hn1 : n1 + 1 ≤ 601024) (hn2 : n2 + 6 ≤ 7293034)
    (k : ∀ (H : Heap) (locs : List Loc) (ls : Array Slot), lawS D cy cJ A a b o s H locs → lv_has ls 9 [(0, .ref bs), (1, .ref (a 0)), (2, .ref (b 0)), (3, .ref o), (4, .int (nI i))] → W p l e room_1 s m args below meth c H locs (n1 + 1) (n2 + 6) Q (F0 m 1528 ls [])) : W p l e room_1 s m args below meth c H locs n1 n2 Q (F0 m 1015 ls []) := by
  obtain ⟨hx, hb, hml, hown, hts, hX, hbl, hbA, hK, hJ, hA, hN, hC, hst⟩ := C
  obtain ⟨σ, kept, nxt, cnt, tx, len, pos, pp, lc, on, ov, saved, bef, thr, t9, l9, x9, y9, d9, hs, out, hw, hI, hv, ht, hlen, ob1, ob2⟩ := hw
  have hw : wS D A (wX cy a σ kept nxt cnt (tI tx) len pos (nI pp) (nI lc) (nO on) (nO ov) ++ ((o, .inl (cJ, 1, .inr (.inl out))) :: wM cy b (mS σ) saved cnt bef (tI tx) len thr t9 (nI l9) (nO x9) (nO y9) d9 hs)) s H locs := hw
  refine lv_aload_n hx hb dL_law_1015 rfl (lv_at hl 1 rfl) ?_
  refine q_cV (As := []) (rest := []) ⟨hx, hb, hml, hown, hts⟩ (c_X6_spares D cy a σ kept nxt cnt (tI tx) len pos (nI pp) (nI lc) (nO on) (nO ov) ((o, .inl (cJ, 1, .inr (.inl out))) :: wM cy b (mS σ) saved cnt bef (tI tx) len thr t9 (nI l9) (nO x9) (nO y9) d9 hs)) (cwV 0 hts gL_law_X6_spares rfl rfl rfl hd_X6_spares ⟨Nat.le_of_ble_eq_true rfl, Nat.le_of_ble_eq_true rfl⟩) hK hw.1 0 rfl rfl rfl hl.1 rfl (Nat.le_of_ble_eq_true rfl) ⟨show n1 + 0 ≤ 601024 by omega, show n2 + 0 ≤ 7293034 by omega⟩ dL_law_1016 ?_
  refine lv_aload_n hx hb dL_law_1019 rfl (lv_at hl 2 rfl) ?_
  have hw := pmA hw
  refine q_wV0 (As := []) (rest := [.int (σ 84)]) (st1 := [.int (σ 84), .int (σ 84)]) ⟨hx, hb, hml, hown, hts⟩ (c_X7_spares D cy A b σ saved cnt bef (tI tx) len thr t9 (nI l9) (nO x9) (nO y9) d9 hs (wX cy a σ kept nxt cnt (tI tx) len pos (nI pp) (nI lc) (nO on) (nO ov) ++ [(o, .inl (cJ, 1, .inr (.inl out)))])) (cwV 0 hts gL_law_X7_spares rfl rfl rfl hd_X7_spares ⟨Nat.le_of_ble_eq_true rfl, Nat.le_of_ble_eq_true rfl⟩) hK hA hw 0 rfl rfl rfl hl.1 rfl rfl (Nat.le_of_ble_eq_true rfl) ⟨show n1 + 0 ≤ 601024 by omega, show n2 + 0 ≤ 7293034 by omega⟩ dL_law_1020 (fun H locs hw => ?_)
  have hw := pmB hw
  refine lv_icmp_eq (tgt := 1528) hx hb dL_law_1023 (by decide) (fun _ => ?_) (fun h => absurd rfl h)
  refine W.widen (k := n1 + 1) (n := n2 + 6) (by omega) (by omega) ?_
  exact k _ _ _ ⟨σ, kept, nxt, cnt, tx, len, pos, pp, lc, on, ov, saved, bef, 0, t9, l9, x9, y9, d9, hs, out, hw, hI, hv, ht, hlen, ob1, ob2⟩ (lv_sub hl [0, 1, 2, 3, 4] rfl)
set_option maxHeartbeats 1000000 in
set_option maxRecDepth 100000 in
theorem la_losses {p : Program} {l : Launch} {e : Env} {s : State} {m : MethodId} {args : Array Value} {below : List Frame} {meth : Method} {c : Code} {H : Heap} {locs : List Loc} {n1 n2 : Nat} {Q : State → Prop} {ls : Array Slot} {D : va_G} {cy cJ : ClassId} {A : Nat → Prop} {a b : Nat → Nat} {o bs L i : Nat} {xs : Nat → Int32} (C : lC p l s args m meth c D cy cJ A bs L xs) (hw : lawS D cy cJ A a b o s H locs) (hl : lv_has ls 9 [(0, .ref bs), (1, .ref (a 0)), (2, .ref (b 0)), (3, .ref o), (4, .int (nI i))]) (hi : i + 4 ≤ L) (hL : L ≤ 2048) (hn1 : n1 + 1 ≤ 601024) (hn2 : n2 + 6 ≤ 7293034)
    (k : ∀ (H : Heap) (locs : List Loc) (ls : Array Slot), lawS D cy cJ A a b o s H locs → lv_has ls 9 [(0, .ref bs), (1, .ref (a 0)), (2, .ref (b 0)), (3, .ref o), (4, .int (nI i))] → W p l e room_1 s m args below meth c H locs (n1 + 1) (n2 + 6) Q (F0 m 1528 ls [])) : W p l e room_1 s m args below meth c H locs n1 n2 Q (F0 m 1028 ls []) := by
  obtain ⟨hx, hb, hml, hown, hts, hX, hbl, hbA, hK, hJ, hA, hN, hC, hst⟩ := C
  obtain ⟨σ, kept, nxt, cnt, tx, len, pos, pp, lc, on, ov, saved, bef, thr, t9, l9, x9, y9, d9, hs, out, hw, hI, hv, ht, hlen, ob1, ob2⟩ := hw
  have hw : wS D A (wX cy a σ kept nxt cnt (tI tx) len pos (nI pp) (nI lc) (nO on) (nO ov) ++ ((o, .inl (cJ, 1, .inr (.inl out))) :: wM cy b (mS σ) saved cnt bef (tI tx) len thr t9 (nI l9) (nO x9) (nO y9) d9 hs)) s H locs := hw
  refine lv_aload_n hx hb dL_law_1028 rfl (lv_at hl 1 rfl) ?_
  refine q_cV (As := []) (rest := []) ⟨hx, hb, hml, hown, hts⟩ (c_X6_losses D cy a σ kept nxt cnt (tI tx) len pos (nI pp) (nI lc) (nO on) (nO ov) ((o, .inl (cJ, 1, .inr (.inl out))) :: wM cy b (mS σ) saved cnt bef (tI tx) len thr t9 (nI l9) (nO x9) (nO y9) d9 hs)) (cwV 0 hts gL_law_X6_losses rfl rfl rfl hd_X6_losses ⟨Nat.le_of_ble_eq_true rfl, Nat.le_of_ble_eq_true rfl⟩) hK hw.1 0 rfl rfl rfl hl.1 rfl (Nat.le_of_ble_eq_true rfl) ⟨show n1 + 0 ≤ 601024 by omega, show n2 + 0 ≤ 7293034 by omega⟩ dL_law_1029 ?_
  refine lv_aload_n hx hb dL_law_1032 rfl (lv_at hl 2 rfl) ?_
  have hw := pmA hw
  refine q_wV0 (As := []) (rest := [.int (σ 85)]) (st1 := [.int (σ 85), .int (σ 85)]) ⟨hx, hb, hml, hown, hts⟩ (c_X7_losses D cy A b σ saved cnt bef (tI tx) len thr t9 (nI l9) (nO x9) (nO y9) d9 hs (wX cy a σ kept nxt cnt (tI tx) len pos (nI pp) (nI lc) (nO on) (nO ov) ++ [(o, .inl (cJ, 1, .inr (.inl out)))])) (cwV 0 hts gL_law_X7_losses rfl rfl rfl hd_X7_losses ⟨Nat.le_of_ble_eq_true rfl, Nat.le_of_ble_eq_true rfl⟩) hK hA hw 0 rfl rfl rfl hl.1 rfl rfl (Nat.le_of_ble_eq_true rfl) ⟨show n1 + 0 ≤ 601024 by omega, show n2 + 0 ≤ 7293034 by omega⟩ dL_law_1033 (fun H locs hw => ?_)
  have hw := pmB hw
  refine lv_icmp_eq (tgt := 1528) hx hb dL_law_1036 (by decide) (fun _ => ?_) (fun h => absurd rfl h)
  refine W.widen (k := n1 + 1) (n := n2 + 6) (by omega) (by omega) ?_
  exact k _ _ _ ⟨σ, kept, nxt, cnt, tx, len, pos, pp, lc, on, ov, saved, bef, 0, t9, l9, x9, y9, d9, hs, out, hw, hI, hv, ht, hlen, ob1, ob2⟩ (lv_sub hl [0, 1, 2, 3, 4] rfl)
set_option maxHeartbeats 1000000 in
set_option maxRecDepth 100000 in
theorem la_savedStates {p : Program} {l : Launch} {e : Env} {s : State} {m : MethodId} {args : Array Value} {below : List Frame} {meth : Method} {c : Code} {H : Heap} {locs : List Loc} {n1 n2 : Nat} {Q : State → Prop} {ls : Array Slot} {D : va_G} {cy cJ : ClassId} {A : Nat → Prop} {a b : Nat → Nat} {o bs L i : Nat} {xs : Nat → Int32} (C : lC p l s args m meth c D cy cJ A bs L xs) (hw : lawS D cy cJ A a b o s H locs) (hl : lv_has ls 9 [(0, .ref bs), (1, .ref (a 0)), (2, .ref (b 0)), (3, .ref o), (4, .int (nI i))]) (hi : i + 4 ≤ L) (hL : L ≤ 2048) (hn1 : n1 + 1 ≤ 601024) (hn2 : n2 + 6 ≤ 7293034)
    (k : ∀ (H : Heap) (locs : List Loc) (ls : Array Slot), lawS D cy cJ A a b o s H locs → lv_has ls 9 [(0, .ref bs), (1, .ref (a 0)), (2, .ref (b 0)), (3, .ref o), (4, .int (nI i))] → W p l e room_1 s m args below meth c H locs (n1 + 1) (n2 + 6) Q (F0 m 1528 ls [])) : W p l e room_1 s m args below meth c H locs n1 n2 Q (F0 m 1501 ls []) := by
  obtain ⟨hx, hb, hml, hown, hts, hX, hbl, hbA, hK, hJ, hA, hN, hC, hst⟩ := C
  obtain ⟨σ, kept, nxt, cnt, tx, len, pos, pp, lc, on, ov, saved, bef, thr, t9, l9, x9, y9, d9, hs, out, hw, hI, hv, ht, hlen, ob1, ob2⟩ := hw
  have hw : wS D A (wX cy a σ kept nxt cnt (tI tx) len pos (nI pp) (nI lc) (nO on) (nO ov) ++ ((o, .inl (cJ, 1, .inr (.inl out))) :: wM cy b (mS σ) saved cnt bef (tI tx) len thr t9 (nI l9) (nO x9) (nO y9) d9 hs)) s H locs := hw
  refine lv_aload_n hx hb dL_law_1501 rfl (lv_at hl 1 rfl) ?_
  refine q_cV (As := []) (rest := []) ⟨hx, hb, hml, hown, hts⟩ (c_X6_savedStates D cy a σ kept nxt cnt (tI tx) len pos (nI pp) (nI lc) (nO on) (nO ov) ((o, .inl (cJ, 1, .inr (.inl out))) :: wM cy b (mS σ) saved cnt bef (tI tx) len thr t9 (nI l9) (nO x9) (nO y9) d9 hs)) (cwV 0 hts gL_law_X6_savedStates rfl rfl rfl hd_X6_savedStates ⟨Nat.le_of_ble_eq_true rfl, Nat.le_of_ble_eq_true rfl⟩) hK hw.1 0 rfl rfl rfl hl.1 rfl (Nat.le_of_ble_eq_true rfl) ⟨show n1 + 0 ≤ 601024 by omega, show n2 + 0 ≤ 7293034 by omega⟩ dL_law_1502 ?_
  refine lv_aload_n hx hb dL_law_1505 rfl (lv_at hl 2 rfl) ?_
  have hw := pmA hw
  refine q_wV0 (As := []) (rest := [.int (nI cnt)]) (st1 := [.int (nI cnt), .int (nI cnt)]) ⟨hx, hb, hml, hown, hts⟩ (c_X7_savedStates D cy A b σ saved cnt bef (tI tx) len thr t9 (nI l9) (nO x9) (nO y9) d9 hs (wX cy a σ kept nxt cnt (tI tx) len pos (nI pp) (nI lc) (nO on) (nO ov) ++ [(o, .inl (cJ, 1, .inr (.inl out)))])) (cwV 0 hts gL_law_X7_savedStates rfl rfl rfl hd_X7_savedStates ⟨Nat.le_of_ble_eq_true rfl, Nat.le_of_ble_eq_true rfl⟩) hK hA hw 0 rfl rfl rfl hl.1 rfl rfl (Nat.le_of_ble_eq_true rfl) ⟨show n1 + 0 ≤ 601024 by omega, show n2 + 0 ≤ 7293034 by omega⟩ dL_law_1506 (fun H locs hw => ?_)
  have hw := pmB hw
  refine lv_icmp_eq (tgt := 1528) hx hb dL_law_1509 (by decide) (fun _ => ?_) (fun h => absurd rfl h)
  refine W.widen (k := n1 + 1) (n := n2 + 6) (by omega) (by omega) ?_
  exact k _ _ _ ⟨σ, kept, nxt, cnt, tx, len, pos, pp, lc, on, ov, saved, bef, 0, t9, l9, x9, y9, d9, hs, out, hw, hI, hv, ht, hlen, ob1, ob2⟩ (lv_sub hl [0, 1, 2, 3, 4] rfl)
set_option maxHeartbeats 1000000 in
set_option maxRecDepth 100000 in
theorem la_scrub {p : Program} {l : Launch} {e : Env} {s : State} {m : MethodId} {args : Array Value} {below : List Frame} {meth : Method} {c : Code} {H : Heap} {locs : List Loc} {n1 n2 : Nat} {Q : State → Prop} {ls : Array Slot} {D : va_G} {cy cJ : ClassId} {A : Nat → Prop} {a b : Nat → Nat} {o bs L i : Nat} {xs : Nat → Int32} (C : lC p l s args m meth c D cy cJ A bs L xs) (hw : lawS D cy cJ A a b o s H locs) (hl : lv_has ls 9 [(0, .ref bs), (1, .ref (a 0)), (2, .ref (b 0)), (3, .ref o), (4, .int (nI i))]) (hi : i + 4 ≤ L) (hL : L ≤ 2048) (hn1 : n1 + 1 ≤ 601024) (hn2 : n2 + 6 ≤ 7293034)
    (k : ∀ (H : Heap) (locs : List Loc) (ls : Array Slot), lawS D cy cJ A a b o s H locs → lv_has ls 9 [(0, .ref bs), (1, .ref (a 0)), (2, .ref (b 0)), (3, .ref o), (4, .int (nI i))] → W p l e room_1 s m args below meth c H locs (n1 + 1) (n2 + 6) Q (F0 m 1528 ls [])) : W p l e room_1 s m args below meth c H locs n1 n2 Q (F0 m 592 ls []) := by
  obtain ⟨hx, hb, hml, hown, hts, hX, hbl, hbA, hK, hJ, hA, hN, hC, hst⟩ := C
  obtain ⟨σ, kept, nxt, cnt, tx, len, pos, pp, lc, on, ov, saved, bef, thr, t9, l9, x9, y9, d9, hs, out, hw, hI, hv, ht, hlen, ob1, ob2⟩ := hw
  have hw : wS D A (wX cy a σ kept nxt cnt (tI tx) len pos (nI pp) (nI lc) (nO on) (nO ov) ++ ((o, .inl (cJ, 1, .inr (.inl out))) :: wM cy b (mS σ) saved cnt bef (tI tx) len thr t9 (nI l9) (nO x9) (nO y9) d9 hs)) s H locs := hw
  refine lv_aload_n hx hb dL_law_592 rfl (lv_at hl 1 rfl) ?_
  refine q_wV0 (As := []) (rest := []) (st1 := [.int (nI (scC σ 21))]) ⟨hx, hb, hml, hown, hts⟩ (c_X6_scrub D cy A a σ kept nxt cnt (tI tx) len pos (nI pp) (nI lc) (nO on) (nO ov) ((o, .inl (cJ, 1, .inr (.inl out))) :: wM cy b (mS σ) saved cnt bef (tI tx) len thr t9 (nI l9) (nO x9) (nO y9) d9 hs) hI.1 hI.2.1) (cwV 0 hts gL_law_X6_scrub rfl rfl rfl hd_X6_scrub ⟨Nat.le_of_ble_eq_true rfl, Nat.le_of_ble_eq_true rfl⟩) hK hA hw 0 rfl rfl rfl hl.1 rfl rfl (Nat.le_of_ble_eq_true rfl) ⟨show n1 + 0 ≤ 601024 by omega, show n2 + 0 ≤ 7293034 by omega⟩ dL_law_593 (fun H locs hw => ?_)
  refine lv_aload_n hx hb dL_law_596 rfl (lv_at hl 2 rfl) ?_
  have hw := pmA hw
  refine q_wV0 (As := []) (rest := [.int (nI (scC σ 21))]) (st1 := [.int (nI (scC σ 21)), .int (nI (scC σ 21))]) ⟨hx, hb, hml, hown, hts⟩ (c_X7_scrub D cy A b σ saved cnt bef (tI tx) len thr t9 (nI l9) (nO x9) (nO y9) d9 hs (wX cy a (scS σ 21) (cpK kept σ (nxt * 86) 86) ((nxt + 1) % 6) (min (cnt + 1) 6) (tI tx) len pos (nI pp) (nI lc) (nO on) (nO ov) ++ [(o, .inl (cJ, 1, .inr (.inl out)))]) hI.2.1) (cwV 0 hts gL_law_X7_scrub rfl rfl rfl hd_X7_scrub ⟨Nat.le_of_ble_eq_true rfl, Nat.le_of_ble_eq_true rfl⟩) hK hA hw 0 rfl rfl rfl hl.1 rfl rfl (Nat.le_of_ble_eq_true rfl) ⟨show n1 + 0 ≤ 601024 by omega, show n2 + 0 ≤ 7293034 by omega⟩ dL_law_597 (fun H locs hw => ?_)
  have hw := pmB hw
  refine lv_icmp_eq (tgt := 1528) hx hb dL_law_600 (by decide) (fun _ => ?_) (fun h => absurd rfl h)
  refine W.widen (k := n1 + 1) (n := n2 + 6) (by omega) (by omega) ?_
  exact k _ _ _ ⟨scS σ 21, cpK kept σ (nxt * 86) 86, (nxt + 1) % 6, min (cnt + 1) 6, tx, len, pos, pp, lc, on, ov, svS saved cnt (mS σ), bef, 0, t9, l9, x9, y9, d9, hs, out, hw, hI.push hv, Val_sc hv 21 (by omega), ht, hlen, ob1, ob2⟩ (lv_sub hl [0, 1, 2, 3, 4] rfl)
set_option maxHeartbeats 1000000 in
set_option maxRecDepth 100000 in
theorem la_clearText {p : Program} {l : Launch} {e : Env} {s : State} {m : MethodId} {args : Array Value} {below : List Frame} {meth : Method} {c : Code} {H : Heap} {locs : List Loc} {n1 n2 : Nat} {Q : State → Prop} {ls : Array Slot} {D : va_G} {cy cJ : ClassId} {A : Nat → Prop} {a b : Nat → Nat} {o bs L i : Nat} {xs : Nat → Int32} (C : lC p l s args m meth c D cy cJ A bs L xs) (hw : lawS D cy cJ A a b o s H locs) (hl : lv_has ls 9 [(0, .ref bs), (1, .ref (a 0)), (2, .ref (b 0)), (3, .ref o), (4, .int (nI i))]) (hi : i + 4 ≤ L) (hL : L ≤ 2048) (hn1 : n1 + 1 ≤ 601024) (hn2 : n2 + 6 ≤ 7293034)
    (k : ∀ (H : Heap) (locs : List Loc) (ls : Array Slot), lawS D cy cJ A a b o s H locs → lv_has ls 9 [(0, .ref bs), (1, .ref (a 0)), (2, .ref (b 0)), (3, .ref o), (4, .int (nI i))] → W p l e room_1 s m args below meth c H locs (n1 + 1) (n2 + 6) Q (F0 m 1528 ls [])) : W p l e room_1 s m args below meth c H locs n1 n2 Q (F0 m 1387 ls []) := by
  obtain ⟨hx, hb, hml, hown, hts, hX, hbl, hbA, hK, hJ, hA, hN, hC, hst⟩ := C
  obtain ⟨σ, kept, nxt, cnt, tx, len, pos, pp, lc, on, ov, saved, bef, thr, t9, l9, x9, y9, d9, hs, out, hw, hI, hv, ht, hlen, ob1, ob2⟩ := hw
  have hw : wS D A (wX cy a σ kept nxt cnt (tI tx) len pos (nI pp) (nI lc) (nO on) (nO ov) ++ ((o, .inl (cJ, 1, .inr (.inl out))) :: wM cy b (mS σ) saved cnt bef (tI tx) len thr t9 (nI l9) (nO x9) (nO y9) d9 hs)) s H locs := hw
  refine lv_aload_n hx hb dL_law_1387 rfl (lv_at hl 1 rfl) ?_
  refine q_wV0 (As := []) (rest := []) (st1 := [.int (nI len)]) ⟨hx, hb, hml, hown, hts⟩ (c_X6_clearText D cy A a σ kept nxt cnt (tI tx) len pos (nI pp) (nI lc) (nO on) (nO ov) ((o, .inl (cJ, 1, .inr (.inl out))) :: wM cy b (mS σ) saved cnt bef (tI tx) len thr t9 (nI l9) (nO x9) (nO y9) d9 hs)) (cwV 0 hts gL_law_X6_clearText rfl rfl rfl hd_X6_clearText ⟨Nat.le_of_ble_eq_true rfl, Nat.le_of_ble_eq_true rfl⟩) hK hA hw 0 rfl rfl rfl hl.1 rfl rfl (Nat.le_of_ble_eq_true rfl) ⟨show n1 + 0 ≤ 601024 by omega, show n2 + 0 ≤ 7293034 by omega⟩ dL_law_1388 (fun H locs hw => ?_)
  refine lv_aload_n hx hb dL_law_1391 rfl (lv_at hl 2 rfl) ?_
  have hw := pmA hw
  refine q_wV0 (As := []) (rest := [.int (nI len)]) (st1 := [.int (nI len), .int (nI len)]) ⟨hx, hb, hml, hown, hts⟩ (c_X7_clearText D cy A b σ saved cnt bef (tI tx) len thr t9 (nI l9) (nO x9) (nO y9) d9 hs (wX cy a σ kept nxt cnt (tI tx) 0 pos (nI pp) (nI lc) (nO on) (nO ov) ++ [(o, .inl (cJ, 1, .inr (.inl out)))])) (cwV 0 hts gL_law_X7_clearText rfl rfl rfl hd_X7_clearText ⟨Nat.le_of_ble_eq_true rfl, Nat.le_of_ble_eq_true rfl⟩) hK hA hw 0 rfl rfl rfl hl.1 rfl rfl (Nat.le_of_ble_eq_true rfl) ⟨show n1 + 0 ≤ 601024 by omega, show n2 + 0 ≤ 7293034 by omega⟩ dL_law_1392 (fun H locs hw => ?_)
  have hw := pmB hw
  refine lv_icmp_eq (tgt := 1528) hx hb dL_law_1395 (by decide) (fun _ => ?_) (fun h => absurd rfl h)
  refine W.widen (k := n1 + 1) (n := n2 + 6) (by omega) (by omega) ?_
  exact k _ _ _ ⟨σ, kept, nxt, cnt, tx, 0, pos, pp, lc, on, ov, saved, bef, 0, t9, l9, x9, y9, d9, hs, out, hw, hI, hv, ht, Nat.zero_le _, ob1, ob2⟩ (lv_sub hl [0, 1, 2, 3, 4] rfl)
set_option maxHeartbeats 1000000 in
set_option maxRecDepth 100000 in
theorem la_worst {p : Program} {l : Launch} {e : Env} {s : State} {m : MethodId} {args : Array Value} {below : List Frame} {meth : Method} {c : Code} {H : Heap} {locs : List Loc} {n1 n2 : Nat} {Q : State → Prop} {ls : Array Slot} {D : va_G} {cy cJ : ClassId} {A : Nat → Prop} {a b : Nat → Nat} {o bs L i : Nat} {xs : Nat → Int32} (C : lC p l s args m meth c D cy cJ A bs L xs) (hw : lawS D cy cJ A a b o s H locs) (hl : lv_has ls 9 [(0, .ref bs), (1, .ref (a 0)), (2, .ref (b 0)), (3, .ref o), (4, .int (nI i))]) (hi : i + 4 ≤ L) (hL : L ≤ 2048) (hn1 : n1 + 1 ≤ 601024) (hn2 : n2 + 6 ≤ 7293034)
    (k : ∀ (H : Heap) (locs : List Loc) (ls : Array Slot), lawS D cy cJ A a b o s H locs → lv_has ls 9 [(0, .ref bs), (1, .ref (a 0)), (2, .ref (b 0)), (3, .ref o), (4, .int (nI i))] → W p l e room_1 s m args below meth c H locs (n1 + 1) (n2 + 6) Q (F0 m 1528 ls [])) : W p l e room_1 s m args below meth c H locs n1 n2 Q (F0 m 1318 ls []) := by
  obtain ⟨hx, hb, hml, hown, hts, hX, hbl, hbA, hK, hJ, hA, hN, hC, hst⟩ := C
  obtain ⟨σ, kept, nxt, cnt, tx, len, pos, pp, lc, on, ov, saved, bef, thr, t9, l9, x9, y9, d9, hs, out, hw, hI, hv, ht, hlen, ob1, ob2⟩ := hw
  have hw : wS D A (wX cy a σ kept nxt cnt (tI tx) len pos (nI pp) (nI lc) (nO on) (nO ov) ++ ((o, .inl (cJ, 1, .inr (.inl out))) :: wM cy b (mS σ) saved cnt bef (tI tx) len thr t9 (nI l9) (nO x9) (nO y9) d9 hs)) s H locs := hw
  refine lv_aload_n hx hb dL_law_1318 rfl (lv_at hl 1 rfl) ?_
  refine q_cV (As := []) (rest := []) ⟨hx, hb, hml, hown, hts⟩ (c_X6_worst D cy a σ kept nxt cnt (tI tx) len pos (nI pp) (nI lc) (nO on) (nO ov) ((o, .inl (cJ, 1, .inr (.inl out))) :: wM cy b (mS σ) saved cnt bef (tI tx) len thr t9 (nI l9) (nO x9) (nO y9) d9 hs)) (cwV 0 hts gL_law_X6_worst rfl rfl rfl hd_X6_worst ⟨Nat.le_of_ble_eq_true rfl, Nat.le_of_ble_eq_true rfl⟩) hK hw.1 0 rfl rfl rfl hl.1 rfl (Nat.le_of_ble_eq_true rfl) ⟨show n1 + 0 ≤ 601024 by omega, show n2 + 0 ≤ 7293034 by omega⟩ dL_law_1319 ?_
  refine lv_aload_n hx hb dL_law_1322 rfl (lv_at hl 2 rfl) ?_
  have hw := pmA hw
  refine q_wVE0 (As := []) (rest := [.int (wst σ 7).1]) ⟨hx, hb, hml, hown, hts⟩ (c_X7_worst D cy A b σ saved cnt bef (tI tx) len thr t9 (nI l9) (nO x9) (nO y9) d9 hs (wX cy a σ kept nxt cnt (tI tx) len pos (nI pp) (nI lc) (nO on) (nO ov) ++ [(o, .inl (cJ, 1, .inr (.inl out)))]) hv) (cwV 0 hts gL_law_X7_worst rfl rfl rfl hd_X7_worst ⟨Nat.le_of_ble_eq_true rfl, Nat.le_of_ble_eq_true rfl⟩) hK hA hw 0 rfl rfl rfl hl.1 rfl (Nat.le_of_ble_eq_true rfl) ⟨show n1 + 0 ≤ 601024 by omega, show n2 + 0 ≤ 7293034 by omega⟩ dL_law_1323 (fun H locs v8 w8 hp hw => ?_)
  obtain ⟨rfl, bf9, rfl⟩ := hp
  have hw := pmB hw
  refine q_stk (show _ = ([.int (wst σ 7).1, .int (wst σ 7).1] : List Value) from rfl) ?_
  refine lv_icmp_eq (tgt := 1528) hx hb dL_law_1326 (by decide) (fun _ => ?_) (fun h => absurd rfl h)
  refine W.widen (k := n1 + 1) (n := n2 + 6) (by omega) (by omega) ?_
  exact k _ _ _ ⟨σ, kept, nxt, cnt, tx, len, pos, pp, lc, on, ov, saved, bf9, 0, t9, l9, x9, y9, d9, hs, out, hw, hI, hv, ht, hlen, ob1, ob2⟩ (lv_sub hl [0, 1, 2, 3, 4] rfl)
