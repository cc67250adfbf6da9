theorem cRn_ok {tx : Nat → Nat} {n : Nat} (h : cRn tx n = 0) : (pv tx n (n + 1) 0).1 = true := by
  unfold cRn at h
  by_cases q : (pv tx n (n + 1) 0).1 = true
  · exact q
  · rw [if_neg q] at h; omega
theorem cUn_pos {n : Nat} (h : cUn n = 0) : 0 < n := by
  unfold cUn at h
  by_cases q : n = 0
  · rw [if_pos q] at h; omega
  · omega
set_option maxHeartbeats 1000000 in
set_option maxRecDepth 100000 in
theorem la_run {p : Program} {l : Launch} {e : Env} {s : State} {m : MethodId} {args : Array Value} {below : List Frame} {meth : Method} {c : Code} {H : Heap} {locs : List Loc} {n1 n2 : Nat} {Q : State → Prop} {ls : Array Slot} {D : va_G} {cy cJ : ClassId} {A : Nat → Prop} {a b : Nat → Nat} {o bs L i : Nat} {xs : Nat → Int32} (C : lC p l s args m meth c D cy cJ A bs L xs) (hw : lawS D cy cJ A a b o s H locs) (hl : lv_has ls 9 [(0, .ref bs), (1, .ref (a 0)), (2, .ref (b 0)), (3, .ref o), (4, .int (nI i))]) (hi : i + 4 ≤ L) (hL : L ≤ 2048) (hn1 : n1 + 1 ≤ 601024) (hn2 : n2 + 6 ≤ 7293034)
    (k : ∀ (H : Heap) (locs : List Loc) (ls : Array Slot), lawS D cy cJ A a b o s H locs → lv_has ls 9 [(0, .ref bs), (1, .ref (a 0)), (2, .ref (b 0)), (3, .ref o), (4, .int (nI i))] → W p l e room_1 s m args below meth c H locs (n1 + 1) (n2 + 6) Q (F0 m 1528 ls [])) : W p l e room_1 s m args below meth c H locs n1 n2 Q (F0 m 1413 ls []) := by
  obtain ⟨hx, hb, hml, hown, hts, hX, hbl, hbA, hK, hJ, hA, hN, hC, hst⟩ := C
  obtain ⟨σ, kept, nxt, cnt, tx, len, pos, pp, lc, on, ov, saved, bef, thr, t9, l9, x9, y9, d9, hs, out, hw, hI, hv, ht, hlen, ob1, ob2⟩ := hw
  have hw : wS D A (wX cy a σ kept nxt cnt (tI tx) len pos (nI pp) (nI lc) (nO on) (nO ov) ++ ((o, .inl (cJ, 1, .inr (.inl out))) :: wM cy b (mS σ) saved cnt bef (tI tx) len thr t9 (nI l9) (nO x9) (nO y9) d9 hs)) s H locs := hw
  refine lv_aload_n hx hb dL_law_1413 rfl (lv_at hl 1 rfl) ?_
  refine lv_aload_n hx hb dL_law_1414 rfl (lv_at hl 3 rfl) ?_
  refine q_lS (As := [.ref (a 0), .ref o]) (rest := []) ⟨hx, hb, hml, hown, hts⟩ (c_L_run hst D cy cJ A a σ kept nxt cnt (tI tx) len pos (nI pp) (nI lc) (nO on) (nO ov) (wM cy b (mS σ) saved cnt bef (tI tx) len thr t9 (nI l9) (nO x9) (nO y9) d9 hs) o out  tx pp lc on ov ob1 ob2 ht hlen hI.1 hI.2.1 hv) (vx_cwSW 2 hts gL_law_L_run rfl rfl rfl hd_L_run ⟨Nat.le_of_ble_eq_true rfl, Nat.le_of_ble_eq_true rfl⟩) hK hJ hC hA hN hw rfl hl.1 rfl (Nat.le_of_ble_eq_true rfl) ⟨show n1 + 1 ≤ 601024 by omega, show n2 + 6 ≤ 7293034 by omega⟩ dL_law_1415 (fun H locs v8 w8 hp hw => ?_)
  obtain ⟨rfl, hcase⟩ := hp
  refine q_stk (show _ = ([.int (nI (cRn tx len))] : List Value) from rfl) ?_
  refine lv_istore (lv' := [(5, .int (nI (cRn tx len))), (0, .ref bs), (1, .ref (a 0)), (2, .ref (b 0)), (3, .ref o), (4, .int (nI i))]) hx hb dL_law_1418 hl (by decide) rfl (fun ls hl => ?_)
  refine lv_aload_n hx hb dL_law_1420 rfl (lv_at hl 3 rfl) ?_
  rcases hcase with ⟨h0, q8, p8, l8, x8, y8, b1, b2, rfl⟩ | ⟨h0, p8, l8, x8, y8, b1, b2, rfl⟩
  · skip
    have hw := pmA hw
    refine q_wVE0 (As := []) (rest := [])  ⟨hx, hb, hml, hown, hts⟩ (c_X7_run D cy A b σ saved cnt bef (tI tx) len thr t9 (nI l9) (nO x9) (nO y9) d9 hs (wX cy a (exT tx len (len + 1) 0 σ).1 (cpK kept σ (nxt * 86) 86) ((nxt + 1) % 6) (min (cnt + 1) 6) (tI tx) 0 q8 (nI p8) (nI l8) (nO x8) (nO y8) ++ [(o, .inl (cJ, 1, .inr (.inl (vp_updL out 0 (nI (exT tx len (len + 1) 0 σ).2).toInt64))))])  tx l9 x9 y9 ht hlen hv hI.2.1) (cwV 0 hts gL_law_X7_run rfl rfl rfl hd_X7_run ⟨Nat.le_of_ble_eq_true rfl, Nat.le_of_ble_eq_true rfl⟩) hK hA hw 0 rfl rfl rfl hl.1 rfl (Nat.le_of_ble_eq_true rfl) ⟨show n1 + 1 + 0 ≤ 601024 by omega, show n2 + 6 + 0 ≤ 7293034 by omega⟩ dL_law_1421 (fun H locs v7 w7 hp7 hw => ?_)
    obtain ⟨rfl, t7, l7, x7, y7, d7, rfl⟩ := hp7
    refine q_stk (show _ = ([.int (nI (if cRn tx len = 0 then (exT tx len (len + 1) 0 σ).2 else 0))] : List Value) from rfl) ?_
    rw [if_pos h0] at hw
    rw [if_pos h0] at hw
    rw [if_pos h0] at hw
    rw [if_pos h0] at hw
    refine q_top (show (nI (if cRn tx len = 0 then (exT tx len (len + 1) 0 σ).2 else 0)) = nI (exT tx len (len + 1) 0 σ).2 from by first | (rw [if_pos h0]; done) | (rw [if_pos h0]; rfl)) ?_
    refine lv_istore (lv' := [(6, .int (nI (exT tx len (len + 1) 0 σ).2)), (5, .int (nI (cRn tx len))), (0, .ref bs), (1, .ref (a 0)), (2, .ref (b 0)), (3, .ref o), (4, .int (nI i))]) hx hb dL_law_1424 hl (by decide) rfl (fun ls hl => ?_)
    refine lv_aload_n hx hb dL_law_1426 rfl (lv_at hl 4 rfl) ?_
    refine q_cV (As := []) (rest := []) ⟨hx, hb, hml, hown, hts⟩ (c_X7_thrown D cy b (exT tx len (len + 1) 0 σ).1 (svS saved cnt (mS σ)) (min (cnt + 1) 6) bef (tI tx) 0 (cRn tx len) t7 (nI l7) (nO x7) (nO y7) d7 hs (wX cy a (exT tx len (len + 1) 0 σ).1 (cpK kept σ (nxt * 86) 86) ((nxt + 1) % 6) (min (cnt + 1) 6) (tI tx) 0 q8 (nI p8) (nI l8) (nO x8) (nO y8) ++ [(o, .inl (cJ, 1, .inr (.inl (vp_updL out 0 (nI (exT tx len (len + 1) 0 σ).2).toInt64))))])) (cwV 0 hts gL_law_X7_thrown rfl rfl rfl hd_X7_thrown ⟨Nat.le_of_ble_eq_true rfl, Nat.le_of_ble_eq_true rfl⟩) hK hw.1 0 rfl rfl rfl hl.1 rfl (Nat.le_of_ble_eq_true rfl) ⟨show n1 + 1 + 0 ≤ 601024 by omega, show n2 + 6 + 0 ≤ 7293034 by omega⟩ dL_law_1427 ?_
    have hw := pmB hw
    refine lv_iload hx hb dL_law_1430 (lv_at hl 1 rfl) ?_
    refine lv_icmp_eq (tgt := 1437) hx hb dL_law_1432 (by decide) (fun _ => ?_) (fun h => absurd rfl h)
    refine lv_iload hx hb dL_law_1437 (lv_at hl 1 rfl) ?_
    refine lv_if_ne (tgt := 1454) hx hb dL_law_1439 (by decide) (fun h => absurd (by rw [h0]; rfl) h) (fun _ => ?_)
    refine lv_aload_n hx hb dL_law_1442 rfl (lv_at hl 5 rfl) ?_
    refine lv_iconst (v := nI 0) hx hb dL_law_1443 rfl ?_
    refine va_lald hx hb hJ hw.1 18 0 rfl rfl (vp_in_nI (by decide) (by decide)) dL_law_1444 ?_
    refine lv_iload hx hb dL_law_1445 (lv_at hl 0 rfl) ?_
    refine lv_i2l hx hb dL_law_1447 rfl ?_
    refine q_stk (show _ = ([.long (nI (exT tx len (len + 1) 0 σ).2).toInt64, .long (nI (exT tx len (len + 1) 0 σ).2).toInt64] : List Value) from by rw [nI_clamp (show 0 < 2 ^ 31 by decide)]; rfl) ?_
    refine q_lcmp0 hx hb dL_law_1448 ?_
    refine q_ifeqN (a := 0) (tgt := 1454) hx hb dL_law_1449 (by decide) (by decide) (fun _ => ?_) (fun h => absurd h (by decide))
    refine lv_goto (tgt := 1528) hx hb dL_law_1454 (by decide) ?_
    exact k _ _ _ ⟨(exT tx len (len + 1) 0 σ).1, cpK kept σ (nxt * 86) 86, (nxt + 1) % 6, min (cnt + 1) 6, tx, 0, q8, p8, l8, x8, y8, svS saved cnt (mS σ), bef, cRn tx len, t7, l7, x7, y7, d7, hs, vp_updL out 0 (nI (exT tx len (len + 1) 0 σ).2).toInt64, hw, hI.push hv, Val_exT ht _ _ hv (cRn_ok h0), ht, Nat.zero_le _, b1, b2⟩ (lv_sub hl [2, 3, 4, 5, 6] rfl)
  · skip
    have hw := pmA hw
    refine q_wVE0 (As := []) (rest := [])  ⟨hx, hb, hml, hown, hts⟩ (c_X7_run D cy A b σ saved cnt bef (tI tx) len thr t9 (nI l9) (nO x9) (nO y9) d9 hs (wX cy a σ kept nxt cnt (tI tx) len pos (nI p8) (nI l8) (nO x8) (nO y8) ++ [(o, .inl (cJ, 1, .inr (.inl out)))])  tx l9 x9 y9 ht hlen hv hI.2.1) (cwV 0 hts gL_law_X7_run rfl rfl rfl hd_X7_run ⟨Nat.le_of_ble_eq_true rfl, Nat.le_of_ble_eq_true rfl⟩) hK hA hw 0 rfl rfl rfl hl.1 rfl (Nat.le_of_ble_eq_true rfl) ⟨show n1 + 1 + 0 ≤ 601024 by omega, show n2 + 6 + 0 ≤ 7293034 by omega⟩ dL_law_1421 (fun H locs v7 w7 hp7 hw => ?_)
    obtain ⟨rfl, t7, l7, x7, y7, d7, rfl⟩ := hp7
    refine q_stk (show _ = ([.int (nI (if cRn tx len = 0 then (exT tx len (len + 1) 0 σ).2 else 0))] : List Value) from rfl) ?_
    rw [if_neg h0] at hw
    rw [if_neg h0] at hw
    rw [if_neg h0] at hw
    rw [if_neg h0] at hw
    refine q_top (show (nI (if cRn tx len = 0 then (exT tx len (len + 1) 0 σ).2 else 0)) = nI 0 from by first | (rw [if_neg h0]; done) | (rw [if_neg h0]; rfl)) ?_
    refine lv_istore (lv' := [(6, .int (nI 0)), (5, .int (nI (cRn tx len))), (0, .ref bs), (1, .ref (a 0)), (2, .ref (b 0)), (3, .ref o), (4, .int (nI i))]) hx hb dL_law_1424 hl (by decide) rfl (fun ls hl => ?_)
    refine lv_aload_n hx hb dL_law_1426 rfl (lv_at hl 4 rfl) ?_
    refine q_cV (As := []) (rest := []) ⟨hx, hb, hml, hown, hts⟩ (c_X7_thrown D cy b σ saved cnt bef (tI tx) len (cRn tx len) t7 (nI l7) (nO x7) (nO y7) d7 hs (wX cy a σ kept nxt cnt (tI tx) len pos (nI p8) (nI l8) (nO x8) (nO y8) ++ [(o, .inl (cJ, 1, .inr (.inl out)))])) (cwV 0 hts gL_law_X7_thrown rfl rfl rfl hd_X7_thrown ⟨Nat.le_of_ble_eq_true rfl, Nat.le_of_ble_eq_true rfl⟩) hK hw.1 0 rfl rfl rfl hl.1 rfl (Nat.le_of_ble_eq_true rfl) ⟨show n1 + 1 + 0 ≤ 601024 by omega, show n2 + 6 + 0 ≤ 7293034 by omega⟩ dL_law_1427 ?_
    have hw := pmB hw
    refine lv_iload hx hb dL_law_1430 (lv_at hl 1 rfl) ?_
    refine lv_icmp_eq (tgt := 1437) hx hb dL_law_1432 (by decide) (fun _ => ?_) (fun h => absurd rfl h)
    refine lv_iload hx hb dL_law_1437 (lv_at hl 1 rfl) ?_
    refine lv_if_ne (tgt := 1454) hx hb dL_law_1439 (by decide) (fun _ => ?_) (fun h => absurd h (code_ne h0 (by have h9 : cRn tx len ≤ 3 := Nat.le_trans (cRn_le _ _) (by decide); omega)))
    refine lv_goto (tgt := 1528) hx hb dL_law_1454 (by decide) ?_
    exact k _ _ _ ⟨σ, kept, nxt, cnt, tx, len, pos, p8, l8, x8, y8, saved, bef, cRn tx len, t7, l7, x7, y7, d7, hs, out, hw, hI, hv, ht, hlen, b1, b2⟩ (lv_sub hl [2, 3, 4, 5, 6] rfl)
set_option maxHeartbeats 1000000 in
set_option maxRecDepth 100000 in
theorem la_undo {p : Program} {l : Launch} {e : Env} {s : State} {m : MethodId} {args : Array Value} {below : List Frame} {meth : Method} {c : Code} {H : Heap} {locs : List Loc} {n1 n2 : Nat} {Q : State → Prop} {ls : Array Slot} {D : va_G} {cy cJ : ClassId} {A : Nat → Prop} {a b : Nat → Nat} {o bs L i : Nat} {xs : Nat → Int32} (C : lC p l s args m meth c D cy cJ A bs L xs) (hw : lawS D cy cJ A a b o s H locs) (hl : lv_has ls 9 [(0, .ref bs), (1, .ref (a 0)), (2, .ref (b 0)), (3, .ref o), (4, .int (nI i))]) (hi : i + 4 ≤ L) (hL : L ≤ 2048) (hn1 : n1 + 1 ≤ 601024) (hn2 : n2 + 6 ≤ 7293034)
    (k : ∀ (H : Heap) (locs : List Loc) (ls : Array Slot), lawS D cy cJ A a b o s H locs → lv_has ls 9 [(0, .ref bs), (1, .ref (a 0)), (2, .ref (b 0)), (3, .ref o), (4, .int (nI i))] → W p l e room_1 s m args below meth c H locs (n1 + 1) (n2 + 6) Q (F0 m 1528 ls [])) : W p l e room_1 s m args below meth c H locs n1 n2 Q (F0 m 1457 ls []) := by
  obtain ⟨hx, hb, hml, hown, hts, hX, hbl, hbA, hK, hJ, hA, hN, hC, hst⟩ := C
  obtain ⟨σ, kept, nxt, cnt, tx, len, pos, pp, lc, on, ov, saved, bef, thr, t9, l9, x9, y9, d9, hs, out, hw, hI, hv, ht, hlen, ob1, ob2⟩ := hw
  have hw : wS D A (wX cy a σ kept nxt cnt (tI tx) len pos (nI pp) (nI lc) (nO on) (nO ov) ++ ((o, .inl (cJ, 1, .inr (.inl out))) :: wM cy b (mS σ) saved cnt bef (tI tx) len thr t9 (nI l9) (nO x9) (nO y9) d9 hs)) s H locs := hw
  refine lv_aload_n hx hb dL_law_1457 rfl (lv_at hl 1 rfl) ?_
  refine lv_aload_n hx hb dL_law_1458 rfl (lv_at hl 3 rfl) ?_
  refine q_lS (As := [.ref (a 0), .ref o]) (rest := []) ⟨hx, hb, hml, hown, hts⟩ (c_L_undo hst D cy cJ A a σ kept nxt cnt (tI tx) len pos (nI pp) (nI lc) (nO on) (nO ov) (wM cy b (mS σ) saved cnt bef (tI tx) len thr t9 (nI l9) (nO x9) (nO y9) d9 hs) o out  hI.1 hI.2.1) (vx_cwSW 2 hts gL_law_L_undo rfl rfl rfl hd_L_undo ⟨Nat.le_of_ble_eq_true rfl, Nat.le_of_ble_eq_true rfl⟩) hK hJ hC hA hN hw rfl hl.1 rfl (Nat.le_of_ble_eq_true rfl) ⟨show n1 + 1 ≤ 601024 by omega, show n2 + 6 ≤ 7293034 by omega⟩ dL_law_1459 (fun H locs v8 w8 hp hw => ?_)
  obtain ⟨rfl, hcase⟩ := hp
  refine q_stk (show _ = ([.int (nI (cUn cnt))] : List Value) from rfl) ?_
  refine lv_istore (lv' := [(5, .int (nI (cUn cnt))), (0, .ref bs), (1, .ref (a 0)), (2, .ref (b 0)), (3, .ref o), (4, .int (nI i))]) hx hb dL_law_1462 hl (by decide) rfl (fun ls hl => ?_)
  refine lv_aload_n hx hb dL_law_1464 rfl (lv_at hl 3 rfl) ?_
  rcases hcase with ⟨h0, rfl⟩ | ⟨h0, rfl⟩
  · skip
    have hw := pmA hw
    refine q_wV0 (As := []) (rest := []) (st1 := [.int (nI (if cUn cnt = 0 then cnt - 1 else 0))]) ⟨hx, hb, hml, hown, hts⟩ (c_X7_undo D cy A b σ saved cnt bef (tI tx) len thr t9 (nI l9) (nO x9) (nO y9) d9 hs (wX cy a (cpF σ kept (((nxt + 6 - 1) % 6) * 86) 86) kept ((nxt + 6 - 1) % 6) (cnt - 1) (tI tx) len pos (nI pp) (nI lc) (nO on) (nO ov) ++ [(o, .inl (cJ, 1, .inr (.inl (vp_updL out 0 (nI (cnt - 1)).toInt64))))])  (cpF σ kept (((nxt + 6 - 1) % 6) * 86) 86) hI.2.1 (fun h => (hI.undo h).2.1) (cpF_hK σ kept _).2) (cwV 0 hts gL_law_X7_undo rfl rfl rfl hd_X7_undo ⟨Nat.le_of_ble_eq_true rfl, Nat.le_of_ble_eq_true rfl⟩) hK hA hw 0 rfl rfl rfl hl.1 rfl rfl (Nat.le_of_ble_eq_true rfl) ⟨show n1 + 1 + 0 ≤ 601024 by omega, show n2 + 6 + 0 ≤ 7293034 by omega⟩ dL_law_1465 (fun H locs hw => ?_)
    rw [if_pos h0] at hw
    rw [if_pos h0] at hw
    refine q_top (show (nI (if cUn cnt = 0 then cnt - 1 else 0)) = nI (cnt - 1) from by first | (rw [if_pos h0]; done) | (rw [if_pos h0]; rfl)) ?_
    refine lv_istore (lv' := [(6, .int (nI (cnt - 1))), (5, .int (nI (cUn cnt))), (0, .ref bs), (1, .ref (a 0)), (2, .ref (b 0)), (3, .ref o), (4, .int (nI i))]) hx hb dL_law_1468 hl (by decide) rfl (fun ls hl => ?_)
    refine lv_aload_n hx hb dL_law_1470 rfl (lv_at hl 4 rfl) ?_
    refine q_cV (As := []) (rest := []) ⟨hx, hb, hml, hown, hts⟩ (c_X7_thrown D cy b (cpF σ kept (((nxt + 6 - 1) % 6) * 86) 86) saved (cnt - 1) bef (tI tx) len (cUn cnt) t9 (nI l9) (nO x9) (nO y9) d9 hs (wX cy a (cpF σ kept (((nxt + 6 - 1) % 6) * 86) 86) kept ((nxt + 6 - 1) % 6) (cnt - 1) (tI tx) len pos (nI pp) (nI lc) (nO on) (nO ov) ++ [(o, .inl (cJ, 1, .inr (.inl (vp_updL out 0 (nI (cnt - 1)).toInt64))))])) (cwV 0 hts gL_law_X7_thrown rfl rfl rfl hd_X7_thrown ⟨Nat.le_of_ble_eq_true rfl, Nat.le_of_ble_eq_true rfl⟩) hK hw.1 0 rfl rfl rfl hl.1 rfl (Nat.le_of_ble_eq_true rfl) ⟨show n1 + 1 + 0 ≤ 601024 by omega, show n2 + 6 + 0 ≤ 7293034 by omega⟩ dL_law_1471 ?_
    have hw := pmB hw
    refine lv_iload hx hb dL_law_1474 (lv_at hl 1 rfl) ?_
    refine lv_icmp_eq (tgt := 1481) hx hb dL_law_1476 (by decide) (fun _ => ?_) (fun h => absurd rfl h)
    refine lv_iload hx hb dL_law_1481 (lv_at hl 1 rfl) ?_
    refine lv_if_ne (tgt := 1498) hx hb dL_law_1483 (by decide) (fun h => absurd (by rw [h0]; rfl) h) (fun _ => ?_)
    refine lv_aload_n hx hb dL_law_1486 rfl (lv_at hl 5 rfl) ?_
    refine lv_iconst (v := nI 0) hx hb dL_law_1487 rfl ?_
    refine va_lald hx hb hJ hw.1 18 0 rfl rfl (vp_in_nI (by decide) (by decide)) dL_law_1488 ?_
    refine lv_iload hx hb dL_law_1489 (lv_at hl 0 rfl) ?_
    refine lv_i2l hx hb dL_law_1491 rfl ?_
    refine q_stk (show _ = ([.long (nI (cnt - 1)).toInt64, .long (nI (cnt - 1)).toInt64] : List Value) from by rw [nI_clamp (show 0 < 2 ^ 31 by decide)]; rfl) ?_
    refine q_lcmp0 hx hb dL_law_1492 ?_
    refine q_ifeqN (a := 0) (tgt := 1498) hx hb dL_law_1493 (by decide) (by decide) (fun _ => ?_) (fun h => absurd h (by decide))
    refine lv_goto (tgt := 1528) hx hb dL_law_1498 (by decide) ?_
    exact k _ _ _ ⟨cpF σ kept (((nxt + 6 - 1) % 6) * 86) 86, kept, ((nxt + 6 - 1) % 6), cnt - 1, tx, len, pos, pp, lc, on, ov, saved, bef, cUn cnt, t9, l9, x9, y9, d9, hs, vp_updL out 0 (nI (cnt - 1)).toInt64, hw, (hI.pop (cUn_pos h0)).1, (hI.undo (cUn_pos h0)).1, ht, hlen, ob1, ob2⟩ (lv_sub hl [2, 3, 4, 5, 6] rfl)
  · skip
    have hw := pmA hw
    refine q_wV0 (As := []) (rest := []) (st1 := [.int (nI (if cUn cnt = 0 then cnt - 1 else 0))]) ⟨hx, hb, hml, hown, hts⟩ (c_X7_undo D cy A b σ saved cnt bef (tI tx) len thr t9 (nI l9) (nO x9) (nO y9) d9 hs (wX cy a σ kept nxt cnt (tI tx) len pos (nI pp) (nI lc) (nO on) (nO ov) ++ [(o, .inl (cJ, 1, .inr (.inl out)))])  (cpF σ kept (((nxt + 6 - 1) % 6) * 86) 86) hI.2.1 (fun h => (hI.undo h).2.1) (cpF_hK σ kept _).2) (cwV 0 hts gL_law_X7_undo rfl rfl rfl hd_X7_undo ⟨Nat.le_of_ble_eq_true rfl, Nat.le_of_ble_eq_true rfl⟩) hK hA hw 0 rfl rfl rfl hl.1 rfl rfl (Nat.le_of_ble_eq_true rfl) ⟨show n1 + 1 + 0 ≤ 601024 by omega, show n2 + 6 + 0 ≤ 7293034 by omega⟩ dL_law_1465 (fun H locs hw => ?_)
    rw [if_neg h0] at hw
    rw [if_neg h0] at hw
    refine q_top (show (nI (if cUn cnt = 0 then cnt - 1 else 0)) = nI 0 from by first | (rw [if_neg h0]; done) | (rw [if_neg h0]; rfl)) ?_
    refine lv_istore (lv' := [(6, .int (nI 0)), (5, .int (nI (cUn cnt))), (0, .ref bs), (1, .ref (a 0)), (2, .ref (b 0)), (3, .ref o), (4, .int (nI i))]) hx hb dL_law_1468 hl (by decide) rfl (fun ls hl => ?_)
    refine lv_aload_n hx hb dL_law_1470 rfl (lv_at hl 4 rfl) ?_
    refine q_cV (As := []) (rest := []) ⟨hx, hb, hml, hown, hts⟩ (c_X7_thrown D cy b σ saved cnt bef (tI tx) len (cUn cnt) t9 (nI l9) (nO x9) (nO y9) d9 hs (wX cy a σ kept nxt cnt (tI tx) len pos (nI pp) (nI lc) (nO on) (nO ov) ++ [(o, .inl (cJ, 1, .inr (.inl out)))])) (cwV 0 hts gL_law_X7_thrown rfl rfl rfl hd_X7_thrown ⟨Nat.le_of_ble_eq_true rfl, Nat.le_of_ble_eq_true rfl⟩) hK hw.1 0 rfl rfl rfl hl.1 rfl (Nat.le_of_ble_eq_true rfl) ⟨show n1 + 1 + 0 ≤ 601024 by omega, show n2 + 6 + 0 ≤ 7293034 by omega⟩ dL_law_1471 ?_
    have hw := pmB hw
    refine lv_iload hx hb dL_law_1474 (lv_at hl 1 rfl) ?_
    refine lv_icmp_eq (tgt := 1481) hx hb dL_law_1476 (by decide) (fun _ => ?_) (fun h => absurd rfl h)
    refine lv_iload hx hb dL_law_1481 (lv_at hl 1 rfl) ?_
    refine lv_if_ne (tgt := 1498) hx hb dL_law_1483 (by decide) (fun _ => ?_) (fun h => absurd h (code_ne h0 (by have h9 : cUn cnt ≤ 3 := Nat.le_trans (cUn_le _) (by decide); omega)))
    refine lv_goto (tgt := 1528) hx hb dL_law_1498 (by decide) ?_
    exact k _ _ _ ⟨σ, kept, nxt, cnt, tx, len, pos, pp, lc, on, ov, saved, bef, cUn cnt, t9, l9, x9, y9, d9, hs, out, hw, hI, hv, ht, hlen, ob1, ob2⟩ (lv_sub hl [2, 3, 4, 5, 6] rfl)
set_option maxHeartbeats 1000000 in
set_option maxRecDepth 100000 in
theorem la_append {p : Program} {l : Launch} {e : Env} {s : State} {m : MethodId} {args : Array Value} {below : List Frame} {meth : Method} {c : Code} {H : Heap} {locs : List Loc} {n1 n2 : Nat} {Q : State → Prop} {ls : Array Slot} {D : va_G} {cy cJ : ClassId} {A : Nat → Prop} {a b : Nat → Nat} {o bs L i : Nat} {xs : Nat → Int32} (C : lC p l s args m meth c D cy cJ A bs L xs) (hw : lawS D cy cJ A a b o s H locs) (hl : lv_has ls 9 [(0, .ref bs), (1, .ref (a 0)), (2, .ref (b 0)), (3, .ref o), (4, .int (nI i))]) (hi : i + 4 ≤ L) (hL : L ≤ 2048) (hn1 : n1 + 1 ≤ 601024) (hn2 : n2 + 6 ≤ 7293034)
    (k : ∀ (H : Heap) (locs : List Loc) (ls : Array Slot), lawS D cy cJ A a b o s H locs → lv_has ls 9 [(0, .ref bs), (1, .ref (a 0)), (2, .ref (b 0)), (3, .ref o), (4, .int (nI i))] → W p l e room_1 s m args below meth c H locs (n1 + 1) (n2 + 6) Q (F0 m 1528 ls [])) : W p l e room_1 s m args below meth c H locs n1 n2 Q (F0 m 1331 ls []) := by
  obtain ⟨hx, hb, hml, hown, hts, hX, hbl, hbA, hK, hJ, hA, hN, hC, hst⟩ := C
  obtain ⟨σ, kept, nxt, cnt, tx, len, pos, pp, lc, on, ov, saved, bef, thr, t9, l9, x9, y9, d9, hs, out, hw, hI, hv, ht, hlen, ob1, ob2⟩ := hw
  have hw : wS D A (wX cy a σ kept nxt cnt (tI tx) len pos (nI pp) (nI lc) (nO on) (nO ov) ++ ((o, .inl (cJ, 1, .inr (.inl out))) :: wM cy b (mS σ) saved cnt bef (tI tx) len thr t9 (nI l9) (nO x9) (nO y9) d9 hs)) s H locs := hw
  refine lv_aload_n hx hb dL_law_1331 rfl (lv_at hl 1 rfl) ?_
  refine lv_aload_n hx hb dL_law_1332 rfl (lv_at hl 0 rfl) ?_
  refine lv_iload hx hb dL_law_1333 (lv_at hl 4 rfl) ?_
  refine lv_iconst (v := nI 1) hx hb dL_law_1335 rfl ?_
  refine q_addN hx hb dL_law_1336 ?_
  refine va_sld hx hb hX hbl hbA hw.2.2 (vp_in_nI (show i + 1 < L by omega) (by omega)) dL_law_1337 ?_
  refine lv_aload_n hx hb dL_law_1338 rfl (lv_at hl 3 rfl) ?_
  refine q_lS (As := [.ref (a 0), .int (xs (nI (i + 1)).toNatClampNeg), .ref o]) (rest := []) ⟨hx, hb, hml, hown, hts⟩ (c_L_append hst D cy cJ A a σ kept nxt cnt (tI tx) len pos (nI pp) (nI lc) (nO on) (nO ov) (wM cy b (mS σ) saved cnt bef (tI tx) len thr t9 (nI l9) (nO x9) (nO y9) d9 hs) o out (xs (nI (i + 1)).toNatClampNeg) hlen) (vx_cwSW 3 hts gL_law_L_append rfl rfl rfl hd_L_append ⟨Nat.le_of_ble_eq_true rfl, Nat.le_of_ble_eq_true rfl⟩) hK hJ hC hA hN hw rfl hl.1 rfl (Nat.le_of_ble_eq_true rfl) ⟨show n1 + 1 ≤ 601024 by omega, show n2 + 6 ≤ 7293034 by omega⟩ dL_law_1339 (fun H locs v8 w8 hp hw => ?_)
  obtain ⟨rfl, hcase⟩ := hp
  refine q_stk (show _ = ([.int (nI (cAp len (xs (nI (i + 1)).toNatClampNeg)))] : List Value) from rfl) ?_
  refine lv_istore (lv' := [(5, .int (nI (cAp len (xs (nI (i + 1)).toNatClampNeg)))), (0, .ref bs), (1, .ref (a 0)), (2, .ref (b 0)), (3, .ref o), (4, .int (nI i))]) hx hb dL_law_1342 hl (by decide) rfl (fun ls hl => ?_)
  refine lv_aload_n hx hb dL_law_1344 rfl (lv_at hl 3 rfl) ?_
  refine lv_aload_n hx hb dL_law_1345 rfl (lv_at hl 1 rfl) ?_
  refine lv_iload hx hb dL_law_1346 (lv_at hl 5 rfl) ?_
  refine lv_iconst (v := nI 1) hx hb dL_law_1348 rfl ?_
  refine q_addN hx hb dL_law_1349 ?_
  refine va_sld hx hb hX hbl hbA hw.2.2 (vp_in_nI (show i + 1 < L by omega) (by omega)) dL_law_1350 ?_
  rcases hcase with ⟨h0, rfl⟩ | ⟨h0, rfl⟩
  · skip
    have hw := pmA hw
    refine q_wV0 (As := [.int (xs (nI (i + 1)).toNatClampNeg)]) (rest := []) (st1 := [.int (nI (if cAp len (xs (nI (i + 1)).toNatClampNeg) = 0 then len + 1 else 0))]) ⟨hx, hb, hml, hown, hts⟩ (c_X7_append D cy A b σ saved cnt bef (tI tx) len thr t9 (nI l9) (nO x9) (nO y9) d9 hs (wX cy a σ kept nxt cnt (upd (tI tx) len (xs (nI (i + 1)).toNatClampNeg)) (len + 1) pos (nI pp) (nI lc) (nO on) (nO ov) ++ [(o, .inl (cJ, 1, .inr (.inl (vp_updL out 0 (nI (len + 1)).toInt64))))]) (xs (nI (i + 1)).toNatClampNeg) hlen) (cwV 1 hts gL_law_X7_append rfl rfl rfl hd_X7_append ⟨Nat.le_of_ble_eq_true rfl, Nat.le_of_ble_eq_true rfl⟩) hK hA hw 0 rfl rfl rfl hl.1 rfl rfl (Nat.le_of_ble_eq_true rfl) ⟨show n1 + 1 + 0 ≤ 601024 by omega, show n2 + 6 + 0 ≤ 7293034 by omega⟩ dL_law_1351 (fun H locs hw => ?_)
    rw [if_pos h0] at hw
    rw [if_pos h0] at hw
    refine q_top (show (nI (if cAp len (xs (nI (i + 1)).toNatClampNeg) = 0 then len + 1 else 0)) = nI (len + 1) from by first | (rw [if_pos h0]; done) | (rw [if_pos h0]; rfl)) ?_
    refine lv_istore (lv' := [(6, .int (nI (len + 1))), (5, .int (nI (cAp len (xs (nI (i + 1)).toNatClampNeg)))), (0, .ref bs), (1, .ref (a 0)), (2, .ref (b 0)), (3, .ref o), (4, .int (nI i))]) hx hb dL_law_1354 hl (by decide) rfl (fun ls hl => ?_)
    refine lv_aload_n hx hb dL_law_1356 rfl (lv_at hl 4 rfl) ?_
    refine q_cV (As := []) (rest := []) ⟨hx, hb, hml, hown, hts⟩ (c_X7_thrown D cy b σ saved cnt bef (upd (tI tx) len (xs (nI (i + 1)).toNatClampNeg)) (len + 1) (cAp len (xs (nI (i + 1)).toNatClampNeg)) t9 (nI l9) (nO x9) (nO y9) d9 hs (wX cy a σ kept nxt cnt (upd (tI tx) len (xs (nI (i + 1)).toNatClampNeg)) (len + 1) pos (nI pp) (nI lc) (nO on) (nO ov) ++ [(o, .inl (cJ, 1, .inr (.inl (vp_updL out 0 (nI (len + 1)).toInt64))))])) (cwV 0 hts gL_law_X7_thrown rfl rfl rfl hd_X7_thrown ⟨Nat.le_of_ble_eq_true rfl, Nat.le_of_ble_eq_true rfl⟩) hK hw.1 0 rfl rfl rfl hl.1 rfl (Nat.le_of_ble_eq_true rfl) ⟨show n1 + 1 + 0 ≤ 601024 by omega, show n2 + 6 + 0 ≤ 7293034 by omega⟩ dL_law_1357 ?_
    have hw := pmB hw
    refine lv_iload hx hb dL_law_1360 (lv_at hl 1 rfl) ?_
    refine lv_icmp_eq (tgt := 1367) hx hb dL_law_1362 (by decide) (fun _ => ?_) (fun h => absurd rfl h)
    refine lv_iload hx hb dL_law_1367 (lv_at hl 1 rfl) ?_
    refine lv_if_ne (tgt := 1384) hx hb dL_law_1369 (by decide) (fun h => absurd (by rw [h0]; rfl) h) (fun _ => ?_)
    refine lv_aload_n hx hb dL_law_1372 rfl (lv_at hl 5 rfl) ?_
    refine lv_iconst (v := nI 0) hx hb dL_law_1373 rfl ?_
    refine va_lald hx hb hJ hw.1 18 0 rfl rfl (vp_in_nI (by decide) (by decide)) dL_law_1374 ?_
    refine lv_iload hx hb dL_law_1375 (lv_at hl 0 rfl) ?_
    refine lv_i2l hx hb dL_law_1377 rfl ?_
    refine q_stk (show _ = ([.long (nI (len + 1)).toInt64, .long (nI (len + 1)).toInt64] : List Value) from by rw [nI_clamp (show 0 < 2 ^ 31 by decide)]; rfl) ?_
    refine q_lcmp0 hx hb dL_law_1378 ?_
    refine q_ifeqN (a := 0) (tgt := 1384) hx hb dL_law_1379 (by decide) (by decide) (fun _ => ?_) (fun h => absurd h (by decide))
    refine lv_goto (tgt := 1528) hx hb dL_law_1384 (by decide) ?_
    obtain ⟨tx8, et8, ht8⟩ := tx_app ht h0
    rw [← et8] at hw
    exact k _ _ _ ⟨σ, kept, nxt, cnt, tx8, len + 1, pos, pp, lc, on, ov, saved, bef, cAp len (xs (nI (i + 1)).toNatClampNeg), t9, l9, x9, y9, d9, hs, vp_updL out 0 (nI (len + 1)).toInt64, hw, hI, hv, ht8, cAp_lt hlen h0, ob1, ob2⟩ (lv_sub hl [2, 3, 4, 5, 6] rfl)
  · skip
    have hw := pmA hw
    refine q_wV0 (As := [.int (xs (nI (i + 1)).toNatClampNeg)]) (rest := []) (st1 := [.int (nI (if cAp len (xs (nI (i + 1)).toNatClampNeg) = 0 then len + 1 else 0))]) ⟨hx, hb, hml, hown, hts⟩ (c_X7_append D cy A b σ saved cnt bef (tI tx) len thr t9 (nI l9) (nO x9) (nO y9) d9 hs (wX cy a σ kept nxt cnt (tI tx) len pos (nI pp) (nI lc) (nO on) (nO ov) ++ [(o, .inl (cJ, 1, .inr (.inl out)))]) (xs (nI (i + 1)).toNatClampNeg) hlen) (cwV 1 hts gL_law_X7_append rfl rfl rfl hd_X7_append ⟨Nat.le_of_ble_eq_true rfl, Nat.le_of_ble_eq_true rfl⟩) hK hA hw 0 rfl rfl rfl hl.1 rfl rfl (Nat.le_of_ble_eq_true rfl) ⟨show n1 + 1 + 0 ≤ 601024 by omega, show n2 + 6 + 0 ≤ 7293034 by omega⟩ dL_law_1351 (fun H locs hw => ?_)
    rw [if_neg h0] at hw
    rw [if_neg h0] at hw
    refine q_top (show (nI (if cAp len (xs (nI (i + 1)).toNatClampNeg) = 0 then len + 1 else 0)) = nI 0 from by first | (rw [if_neg h0]; done) | (rw [if_neg h0]; rfl)) ?_
    refine lv_istore (lv' := [(6, .int (nI 0)), (5, .int (nI (cAp len (xs (nI (i + 1)).toNatClampNeg)))), (0, .ref bs), (1, .ref (a 0)), (2, .ref (b 0)), (3, .ref o), (4, .int (nI i))]) hx hb dL_law_1354 hl (by decide) rfl (fun ls hl => ?_)
    refine lv_aload_n hx hb dL_law_1356 rfl (lv_at hl 4 rfl) ?_
    refine q_cV (As := []) (rest := []) ⟨hx, hb, hml, hown, hts⟩ (c_X7_thrown D cy b σ saved cnt bef (tI tx) len (cAp len (xs (nI (i + 1)).toNatClampNeg)) t9 (nI l9) (nO x9) (nO y9) d9 hs (wX cy a σ kept nxt cnt (tI tx) len pos (nI pp) (nI lc) (nO on) (nO ov) ++ [(o, .inl (cJ, 1, .inr (.inl out)))])) (cwV 0 hts gL_law_X7_thrown rfl rfl rfl hd_X7_thrown ⟨Nat.le_of_ble_eq_true rfl, Nat.le_of_ble_eq_true rfl⟩) hK hw.1 0 rfl rfl rfl hl.1 rfl (Nat.le_of_ble_eq_true rfl) ⟨show n1 + 1 + 0 ≤ 601024 by omega, show n2 + 6 + 0 ≤ 7293034 by omega⟩ dL_law_1357 ?_
    have hw := pmB hw
    refine lv_iload hx hb dL_law_1360 (lv_at hl 1 rfl) ?_
    refine lv_icmp_eq (tgt := 1367) hx hb dL_law_1362 (by decide) (fun _ => ?_) (fun h => absurd rfl h)
    refine lv_iload hx hb dL_law_1367 (lv_at hl 1 rfl) ?_
    refine lv_if_ne (tgt := 1384) hx hb dL_law_1369 (by decide) (fun _ => ?_) (fun h => absurd h (code_ne h0 (by have h9 : cAp len (xs (nI (i + 1)).toNatClampNeg) ≤ 3 := Nat.le_trans (cAp_le _ _) (by decide); omega)))
    refine lv_goto (tgt := 1528) hx hb dL_law_1384 (by decide) ?_
    exact k _ _ _ ⟨σ, kept, nxt, cnt, tx, len, pos, pp, lc, on, ov, saved, bef, cAp len (xs (nI (i + 1)).toNatClampNeg), t9, l9, x9, y9, d9, hs, out, hw, hI, hv, ht, hlen, ob1, ob2⟩ (lv_sub hl [2, 3, 4, 5, 6] rfl)
set_option maxHeartbeats 1000000 in
set_option maxRecDepth 100000 in
theorem la_loadOf {p : Program} {l : Launch} {e : Env} {s : State} {m : MethodId} {args : Array Value} {below : List Frame} {meth : Method} {c : Code} {H : Heap} {locs : List Loc} {n1 n2 : Nat} {Q : State → Prop} {ls : Array Slot} {D : va_G} {cy cJ : ClassId} {A : Nat → Prop} {a b : Nat → Nat} {o bs L i : Nat} {xs : Nat → Int32} (C : lC p l s args m meth c D cy cJ A bs L xs) (hw : lawS D cy cJ A a b o s H locs) (hl : lv_has ls 9 [(0, .ref bs), (1, .ref (a 0)), (2, .ref (b 0)), (3, .ref o), (4, .int (nI i))]) (hi : i + 4 ≤ L) (hL : L ≤ 2048) (hn1 : n1 + 1 ≤ 601024) (hn2 : n2 + 6 ≤ 7293034)
    (k : ∀ (H : Heap) (locs : List Loc) (ls : Array Slot), lawS D cy cJ A a b o s H locs → lv_has ls 9 [(0, .ref bs), (1, .ref (a 0)), (2, .ref (b 0)), (3, .ref o), (4, .int (nI i))] → W p l e room_1 s m args below meth c H locs (n1 + 1) (n2 + 6) Q (F0 m 1528 ls [])) : W p l e room_1 s m args below meth c H locs n1 n2 Q (F0 m 1250 ls []) := by
  obtain ⟨hx, hb, hml, hown, hts, hX, hbl, hbA, hK, hJ, hA, hN, hC, hst⟩ := C
  obtain ⟨σ, kept, nxt, cnt, tx, len, pos, pp, lc, on, ov, saved, bef, thr, t9, l9, x9, y9, d9, hs, out, hw, hI, hv, ht, hlen, ob1, ob2⟩ := hw
  have hw : wS D A (wX cy a σ kept nxt cnt (tI tx) len pos (nI pp) (nI lc) (nO on) (nO ov) ++ ((o, .inl (cJ, 1, .inr (.inl out))) :: wM cy b (mS σ) saved cnt bef (tI tx) len thr t9 (nI l9) (nO x9) (nO y9) d9 hs)) s H locs := hw
  refine lv_aload_n hx hb dL_law_1250 rfl (lv_at hl 1 rfl) ?_
  refine lv_aload_n hx hb dL_law_1251 rfl (lv_at hl 0 rfl) ?_
  refine lv_iload hx hb dL_law_1252 (lv_at hl 4 rfl) ?_
  refine lv_iconst (v := nI 1) hx hb dL_law_1254 rfl ?_
  refine q_addN hx hb dL_law_1255 ?_
  refine va_sld hx hb hX hbl hbA hw.2.2 (vp_in_nI (show i + 1 < L by omega) (by omega)) dL_law_1256 ?_
  refine lv_aload_n hx hb dL_law_1257 rfl (lv_at hl 0 rfl) ?_
  refine lv_iload hx hb dL_law_1258 (lv_at hl 4 rfl) ?_
  refine lv_iconst (v := nI 2) hx hb dL_law_1260 rfl ?_
  refine q_addN hx hb dL_law_1261 ?_
  refine va_sld hx hb hX hbl hbA hw.2.2 (vp_in_nI (show i + 2 < L by omega) (by omega)) dL_law_1262 ?_
  refine lv_aload_n hx hb dL_law_1263 rfl (lv_at hl 3 rfl) ?_
  refine q_lS (As := [.ref (a 0), .int (xs (nI (i + 1)).toNatClampNeg), .int (xs (nI (i + 2)).toNatClampNeg), .ref o]) (rest := []) ⟨hx, hb, hml, hown, hts⟩ (c_L_loadOf hst D cy cJ A a σ kept nxt cnt (tI tx) len pos (nI pp) (nI lc) (nO on) (nO ov) (wM cy b (mS σ) saved cnt bef (tI tx) len thr t9 (nI l9) (nO x9) (nO y9) d9 hs) o out (xs (nI (i + 1)).toNatClampNeg) (xs (nI (i + 2)).toNatClampNeg) ) (vx_cwSW 4 hts gL_law_L_loadOf rfl rfl rfl hd_L_loadOf ⟨Nat.le_of_ble_eq_true rfl, Nat.le_of_ble_eq_true rfl⟩) hK hJ hC hA hN hw rfl hl.1 rfl (Nat.le_of_ble_eq_true rfl) ⟨show n1 + 1 ≤ 601024 by omega, show n2 + 6 ≤ 7293034 by omega⟩ dL_law_1264 (fun H locs v8 w8 hp hw => ?_)
  obtain ⟨rfl, hcase⟩ := hp
  refine q_stk (show _ = ([.int (nI (c2 (xs (nI (i + 1)).toNatClampNeg) 7 (xs (nI (i + 2)).toNatClampNeg) 7))] : List Value) from rfl) ?_
  refine lv_istore (lv' := [(5, .int (nI (c2 (xs (nI (i + 1)).toNatClampNeg) 7 (xs (nI (i + 2)).toNatClampNeg) 7))), (0, .ref bs), (1, .ref (a 0)), (2, .ref (b 0)), (3, .ref o), (4, .int (nI i))]) hx hb dL_law_1267 hl (by decide) rfl (fun ls hl => ?_)
  refine lv_aload_n hx hb dL_law_1269 rfl (lv_at hl 3 rfl) ?_
  refine lv_aload_n hx hb dL_law_1270 rfl (lv_at hl 1 rfl) ?_
  refine lv_iload hx hb dL_law_1271 (lv_at hl 5 rfl) ?_
  refine lv_iconst (v := nI 1) hx hb dL_law_1273 rfl ?_
  refine q_addN hx hb dL_law_1274 ?_
  refine va_sld hx hb hX hbl hbA hw.2.2 (vp_in_nI (show i + 1 < L by omega) (by omega)) dL_law_1275 ?_
  refine lv_aload_n hx hb dL_law_1276 rfl (lv_at hl 1 rfl) ?_
  refine lv_iload hx hb dL_law_1277 (lv_at hl 5 rfl) ?_
  refine lv_iconst (v := nI 2) hx hb dL_law_1279 rfl ?_
  refine q_addN hx hb dL_law_1280 ?_
  refine va_sld hx hb hX hbl hbA hw.2.2 (vp_in_nI (show i + 2 < L by omega) (by omega)) dL_law_1281 ?_
  rcases hcase with ⟨h0, rfl⟩ | ⟨h0, rfl⟩
  · skip
    have hw := pmA hw
    refine q_wV0 (As := [.int (xs (nI (i + 1)).toNatClampNeg), .int (xs (nI (i + 2)).toNatClampNeg)]) (rest := []) (st1 := [.int (nI (if c2 (xs (nI (i + 1)).toNatClampNeg) 7 (xs (nI (i + 2)).toNatClampNeg) 7 = 0 then loD (ix (xs (nI (i + 1)).toNatClampNeg)) (ix (xs (nI (i + 2)).toNatClampNeg)) else 0))]) ⟨hx, hb, hml, hown, hts⟩ (c_X7_loadOf D cy A b σ saved cnt bef (tI tx) len thr t9 (nI l9) (nO x9) (nO y9) d9 hs (wX cy a σ kept nxt cnt (tI tx) len pos (nI pp) (nI lc) (nO on) (nO ov) ++ [(o, .inl (cJ, 1, .inr (.inl (vp_updL out 0 (nI (if ix (xs (nI (i + 1)).toNatClampNeg) = ix (xs (nI (i + 2)).toNatClampNeg) then 0 else both (ix (xs (nI (i + 1)).toNatClampNeg)) (ix (xs (nI (i + 2)).toNatClampNeg)))).toInt64))))]) (xs (nI (i + 1)).toNatClampNeg) (xs (nI (i + 2)).toNatClampNeg) ) (cwV 2 hts gL_law_X7_loadOf rfl rfl rfl hd_X7_loadOf ⟨Nat.le_of_ble_eq_true rfl, Nat.le_of_ble_eq_true rfl⟩) hK hA hw 0 rfl rfl rfl hl.1 rfl rfl (Nat.le_of_ble_eq_true rfl) ⟨show n1 + 1 + 0 ≤ 601024 by omega, show n2 + 6 + 0 ≤ 7293034 by omega⟩ dL_law_1282 (fun H locs hw => ?_)
    refine q_top (show (nI (if c2 (xs (nI (i + 1)).toNatClampNeg) 7 (xs (nI (i + 2)).toNatClampNeg) 7 = 0 then loD (ix (xs (nI (i + 1)).toNatClampNeg)) (ix (xs (nI (i + 2)).toNatClampNeg)) else 0)) = nI (if ix (xs (nI (i + 1)).toNatClampNeg) = ix (xs (nI (i + 2)).toNatClampNeg) then 0 else both (ix (xs (nI (i + 1)).toNatClampNeg)) (ix (xs (nI (i + 2)).toNatClampNeg))) from by rw [if_pos h0, loD_both]) ?_
    refine lv_istore (lv' := [(6, .int (nI (if ix (xs (nI (i + 1)).toNatClampNeg) = ix (xs (nI (i + 2)).toNatClampNeg) then 0 else both (ix (xs (nI (i + 1)).toNatClampNeg)) (ix (xs (nI (i + 2)).toNatClampNeg))))), (5, .int (nI (c2 (xs (nI (i + 1)).toNatClampNeg) 7 (xs (nI (i + 2)).toNatClampNeg) 7))), (0, .ref bs), (1, .ref (a 0)), (2, .ref (b 0)), (3, .ref o), (4, .int (nI i))]) hx hb dL_law_1285 hl (by decide) rfl (fun ls hl => ?_)
    refine lv_aload_n hx hb dL_law_1287 rfl (lv_at hl 4 rfl) ?_
    refine q_cV (As := []) (rest := []) ⟨hx, hb, hml, hown, hts⟩ (c_X7_thrown D cy b σ saved cnt bef (tI tx) len (c2 (xs (nI (i + 1)).toNatClampNeg) 7 (xs (nI (i + 2)).toNatClampNeg) 7) t9 (nI l9) (nO x9) (nO y9) d9 hs (wX cy a σ kept nxt cnt (tI tx) len pos (nI pp) (nI lc) (nO on) (nO ov) ++ [(o, .inl (cJ, 1, .inr (.inl (vp_updL out 0 (nI (if ix (xs (nI (i + 1)).toNatClampNeg) = ix (xs (nI (i + 2)).toNatClampNeg) then 0 else both (ix (xs (nI (i + 1)).toNatClampNeg)) (ix (xs (nI (i + 2)).toNatClampNeg)))).toInt64))))])) (cwV 0 hts gL_law_X7_thrown rfl rfl rfl hd_X7_thrown ⟨Nat.le_of_ble_eq_true rfl, Nat.le_of_ble_eq_true rfl⟩) hK hw.1 0 rfl rfl rfl hl.1 rfl (Nat.le_of_ble_eq_true rfl) ⟨show n1 + 1 + 0 ≤ 601024 by omega, show n2 + 6 + 0 ≤ 7293034 by omega⟩ dL_law_1288 ?_
    have hw := pmB hw
    refine lv_iload hx hb dL_law_1291 (lv_at hl 1 rfl) ?_
    refine lv_icmp_eq (tgt := 1298) hx hb dL_law_1293 (by decide) (fun _ => ?_) (fun h => absurd rfl h)
    refine lv_iload hx hb dL_law_1298 (lv_at hl 1 rfl) ?_
    refine lv_if_ne (tgt := 1315) hx hb dL_law_1300 (by decide) (fun h => absurd (by rw [h0]; rfl) h) (fun _ => ?_)
    refine lv_aload_n hx hb dL_law_1303 rfl (lv_at hl 5 rfl) ?_
    refine lv_iconst (v := nI 0) hx hb dL_law_1304 rfl ?_
    refine va_lald hx hb hJ hw.1 18 0 rfl rfl (vp_in_nI (by decide) (by decide)) dL_law_1305 ?_
    refine lv_iload hx hb dL_law_1306 (lv_at hl 0 rfl) ?_
    refine lv_i2l hx hb dL_law_1308 rfl ?_
    refine q_stk (show _ = ([.long (nI (if ix (xs (nI (i + 1)).toNatClampNeg) = ix (xs (nI (i + 2)).toNatClampNeg) then 0 else both (ix (xs (nI (i + 1)).toNatClampNeg)) (ix (xs (nI (i + 2)).toNatClampNeg)))).toInt64, .long (nI (if ix (xs (nI (i + 1)).toNatClampNeg) = ix (xs (nI (i + 2)).toNatClampNeg) then 0 else both (ix (xs (nI (i + 1)).toNatClampNeg)) (ix (xs (nI (i + 2)).toNatClampNeg)))).toInt64] : List Value) from by rw [nI_clamp (show 0 < 2 ^ 31 by decide)]; rfl) ?_
    refine q_lcmp0 hx hb dL_law_1309 ?_
    refine q_ifeqN (a := 0) (tgt := 1315) hx hb dL_law_1310 (by decide) (by decide) (fun _ => ?_) (fun h => absurd h (by decide))
    refine lv_goto (tgt := 1528) hx hb dL_law_1315 (by decide) ?_
    exact k _ _ _ ⟨σ, kept, nxt, cnt, tx, len, pos, pp, lc, on, ov, saved, bef, c2 (xs (nI (i + 1)).toNatClampNeg) 7 (xs (nI (i + 2)).toNatClampNeg) 7, t9, l9, x9, y9, d9, hs, vp_updL out 0 (nI (if ix (xs (nI (i + 1)).toNatClampNeg) = ix (xs (nI (i + 2)).toNatClampNeg) then 0 else both (ix (xs (nI (i + 1)).toNatClampNeg)) (ix (xs (nI (i + 2)).toNatClampNeg)))).toInt64, hw, hI, hv, ht, hlen, ob1, ob2⟩ (lv_sub hl [2, 3, 4, 5, 6] rfl)
  · skip
    have hw := pmA hw
    refine q_wV0 (As := [.int (xs (nI (i + 1)).toNatClampNeg), .int (xs (nI (i + 2)).toNatClampNeg)]) (rest := []) (st1 := [.int (nI (if c2 (xs (nI (i + 1)).toNatClampNeg) 7 (xs (nI (i + 2)).toNatClampNeg) 7 = 0 then loD (ix (xs (nI (i + 1)).toNatClampNeg)) (ix (xs (nI (i + 2)).toNatClampNeg)) else 0))]) ⟨hx, hb, hml, hown, hts⟩ (c_X7_loadOf D cy A b σ saved cnt bef (tI tx) len thr t9 (nI l9) (nO x9) (nO y9) d9 hs (wX cy a σ kept nxt cnt (tI tx) len pos (nI pp) (nI lc) (nO on) (nO ov) ++ [(o, .inl (cJ, 1, .inr (.inl out)))]) (xs (nI (i + 1)).toNatClampNeg) (xs (nI (i + 2)).toNatClampNeg) ) (cwV 2 hts gL_law_X7_loadOf rfl rfl rfl hd_X7_loadOf ⟨Nat.le_of_ble_eq_true rfl, Nat.le_of_ble_eq_true rfl⟩) hK hA hw 0 rfl rfl rfl hl.1 rfl rfl (Nat.le_of_ble_eq_true rfl) ⟨show n1 + 1 + 0 ≤ 601024 by omega, show n2 + 6 + 0 ≤ 7293034 by omega⟩ dL_law_1282 (fun H locs hw => ?_)
    refine q_top (show (nI (if c2 (xs (nI (i + 1)).toNatClampNeg) 7 (xs (nI (i + 2)).toNatClampNeg) 7 = 0 then loD (ix (xs (nI (i + 1)).toNatClampNeg)) (ix (xs (nI (i + 2)).toNatClampNeg)) else 0)) = nI 0 from by first | (rw [if_neg h0]; done) | (rw [if_neg h0]; rfl)) ?_
    refine lv_istore (lv' := [(6, .int (nI 0)), (5, .int (nI (c2 (xs (nI (i + 1)).toNatClampNeg) 7 (xs (nI (i + 2)).toNatClampNeg) 7))), (0, .ref bs), (1, .ref (a 0)), (2, .ref (b 0)), (3, .ref o), (4, .int (nI i))]) hx hb dL_law_1285 hl (by decide) rfl (fun ls hl => ?_)
    refine lv_aload_n hx hb dL_law_1287 rfl (lv_at hl 4 rfl) ?_
    refine q_cV (As := []) (rest := []) ⟨hx, hb, hml, hown, hts⟩ (c_X7_thrown D cy b σ saved cnt bef (tI tx) len (c2 (xs (nI (i + 1)).toNatClampNeg) 7 (xs (nI (i + 2)).toNatClampNeg) 7) t9 (nI l9) (nO x9) (nO y9) d9 hs (wX cy a σ kept nxt cnt (tI tx) len pos (nI pp) (nI lc) (nO on) (nO ov) ++ [(o, .inl (cJ, 1, .inr (.inl out)))])) (cwV 0 hts gL_law_X7_thrown rfl rfl rfl hd_X7_thrown ⟨Nat.le_of_ble_eq_true rfl, Nat.le_of_ble_eq_true rfl⟩) hK hw.1 0 rfl rfl rfl hl.1 rfl (Nat.le_of_ble_eq_true rfl) ⟨show n1 + 1 + 0 ≤ 601024 by omega, show n2 + 6 + 0 ≤ 7293034 by omega⟩ dL_law_1288 ?_
    have hw := pmB hw
    refine lv_iload hx hb dL_law_1291 (lv_at hl 1 rfl) ?_
    refine lv_icmp_eq (tgt := 1298) hx hb dL_law_1293 (by decide) (fun _ => ?_) (fun h => absurd rfl h)
    refine lv_iload hx hb dL_law_1298 (lv_at hl 1 rfl) ?_
    refine lv_if_ne (tgt := 1315) hx hb dL_law_1300 (by decide) (fun _ => ?_) (fun h => absurd h (code_ne h0 (by have h9 : c2 (xs (nI (i + 1)).toNatClampNeg) 7 (xs (nI (i + 2)).toNatClampNeg) 7 ≤ 3 := Nat.le_trans (c2_le _ _ _ _) (by decide); omega)))
    refine lv_goto (tgt := 1528) hx hb dL_law_1315 (by decide) ?_
    exact k _ _ _ ⟨σ, kept, nxt, cnt, tx, len, pos, pp, lc, on, ov, saved, bef, c2 (xs (nI (i + 1)).toNatClampNeg) 7 (xs (nI (i + 2)).toNatClampNeg) 7, t9, l9, x9, y9, d9, hs, out, hw, hI, hv, ht, hlen, ob1, ob2⟩ (lv_sub hl [2, 3, 4, 5, 6] rfl)
set_option maxHeartbeats 1000000 in
set_option maxRecDepth 100000 in
theorem la_firstError {p : Program} {l : Launch} {e : Env} {s : State} {m : MethodId} {args : Array Value} {below : List Frame} {meth : Method} {c : Code} {H : Heap} {locs : List Loc} {n1 n2 : Nat} {Q : State → Prop} {ls : Array Slot} {D : va_G} {cy cJ : ClassId} {A : Nat → Prop} {a b : Nat → Nat} {o bs L i : Nat} {xs : Nat → Int32} (C : lC p l s args m meth c D cy cJ A bs L xs) (hw : lawS D cy cJ A a b o s H locs) (hl : lv_has ls 9 [(0, .ref bs), (1, .ref (a 0)), (2, .ref (b 0)), (3, .ref o), (4, .int (nI i))]) (hi : i + 4 ≤ L) (hL : L ≤ 2048) (hn1 : n1 + 1 ≤ 601024) (hn2 : n2 + 6 ≤ 7293034)
    (k : ∀ (H : Heap) (locs : List Loc) (ls : Array Slot), lawS D cy cJ A a b o s H locs → lv_has ls 9 [(0, .ref bs), (1, .ref (a 0)), (2, .ref (b 0)), (3, .ref o), (4, .int (nI i))] → W p l e room_1 s m args below meth c H locs (n1 + 1) (n2 + 6) Q (F0 m 1528 ls [])) : W p l e room_1 s m args below meth c H locs n1 n2 Q (F0 m 1400 ls []) := by
  obtain ⟨hx, hb, hml, hown, hts, hX, hbl, hbA, hK, hJ, hA, hN, hC, hst⟩ := C
  obtain ⟨σ, kept, nxt, cnt, tx, len, pos, pp, lc, on, ov, saved, bef, thr, t9, l9, x9, y9, d9, hs, out, hw, hI, hv, ht, hlen, ob1, ob2⟩ := hw
  have hw : wS D A (wX cy a σ kept nxt cnt (tI tx) len pos (nI pp) (nI lc) (nO on) (nO ov) ++ ((o, .inl (cJ, 1, .inr (.inl out))) :: wM cy b (mS σ) saved cnt bef (tI tx) len thr t9 (nI l9) (nO x9) (nO y9) d9 hs)) s H locs := hw
  refine lv_aload_n hx hb dL_law_1400 rfl (lv_at hl 1 rfl) ?_
  refine q_wV0 (As := []) (rest := []) (st1 := [.int (nI ((scan tx len 0 (0, lc, on, ov)).1))]) ⟨hx, hb, hml, hown, hts⟩ (c_X6_firstError D cy A a σ kept nxt cnt (tI tx) len pos (nI pp) (nI lc) (nO on) (nO ov) ((o, .inl (cJ, 1, .inr (.inl out))) :: wM cy b (mS σ) saved cnt bef (tI tx) len thr t9 (nI l9) (nO x9) (nO y9) d9 hs) tx pp lc on ov ob1 ob2 ht hlen) (cwV 0 hts gL_law_X6_firstError rfl rfl rfl hd_X6_firstError ⟨Nat.le_of_ble_eq_true rfl, Nat.le_of_ble_eq_true rfl⟩) hK hA hw 0 rfl rfl rfl hl.1 rfl rfl (Nat.le_of_ble_eq_true rfl) ⟨show n1 + 0 ≤ 601024 by omega, show n2 + 0 ≤ 7293034 by omega⟩ dL_law_1401 (fun H locs hw => ?_)
  refine lv_aload_n hx hb dL_law_1404 rfl (lv_at hl 2 rfl) ?_
  have hw := pmA hw
  refine q_wVE0 (As := []) (rest := [.int (nI ((scan tx len 0 (0, lc, on, ov)).1))]) ⟨hx, hb, hml, hown, hts⟩ (c_X7_firstError D cy A b σ saved cnt bef (tI tx) len thr t9 (nI l9) (nO x9) (nO y9) d9 hs (wX cy a σ kept nxt cnt (tI tx) len pos (nI (scan tx len 0 (0, lc, on, ov)).2.1) (nI (scan tx len 0 (0, lc, on, ov)).2.2.1) (nO (scan tx len 0 (0, lc, on, ov)).2.2.2.1) (nO (scan tx len 0 (0, lc, on, ov)).2.2.2.2) ++ [(o, .inl (cJ, 1, .inr (.inl out)))]) tx l9 x9 y9 ht hlen) (cwV 0 hts gL_law_X7_firstError rfl rfl rfl hd_X7_firstError ⟨Nat.le_of_ble_eq_true rfl, Nat.le_of_ble_eq_true rfl⟩) hK hA hw 0 rfl rfl rfl hl.1 rfl (Nat.le_of_ble_eq_true rfl) ⟨show n1 + 0 ≤ 601024 by omega, show n2 + 0 ≤ 7293034 by omega⟩ dL_law_1405 (fun H locs v8 w8 hp hw => ?_)
  obtain ⟨rfl, t7, l7, x7, y7, d7, rfl⟩ := hp
  have hw := pmB hw
  refine q_stk (show _ = ([.int (nI ((scan tx len 0 (0, lc, on, ov)).1)), .int (nI ((scan tx len 0 (0, lc, on, ov)).1))] : List Value) from by rw [sc_first]; rfl) ?_
  refine lv_icmp_eq (tgt := 1528) hx hb dL_law_1408 (by decide) (fun _ => ?_) (fun h => absurd rfl h)
  have hok := scan_OK tx ht len 0 (r := (0, lc, on, ov)) ⟨Nat.zero_le _, ob1, ob2⟩
  refine W.widen (k := n1 + 1) (n := n2 + 6) (by omega) (by omega) ?_
  exact k _ _ _ ⟨σ, kept, nxt, cnt, tx, len, pos, (scan tx len 0 (0, lc, on, ov)).2.1, (scan tx len 0 (0, lc, on, ov)).2.2.1, (scan tx len 0 (0, lc, on, ov)).2.2.2.1, (scan tx len 0 (0, lc, on, ov)).2.2.2.2, saved, bef, 0, t7, l7, x7, y7, d7, hs, out, hw, hI, hv, ht, hlen, hok.2.1, hok.2.2⟩ (lv_sub hl [0, 1, 2, 3, 4] rfl)
set_option maxHeartbeats 1000000 in
set_option maxRecDepth 100000 in
theorem la_digest {p : Program} {l : Launch} {e : Env} {s : State} {m : MethodId} {args : Array Value} {below : List Frame} {meth : Method} {c : Code} {H : Heap} {locs : List Loc} {n1 n2 : Nat} {Q : State → Prop} {ls : Array Slot} {D : va_G} {cy cJ : ClassId} {A : Nat → Prop} {a b : Nat → Nat} {o bs L i : Nat} {xs : Nat → Int32} (C : lC p l s args m meth c D cy cJ A bs L xs) (hw : lawS D cy cJ A a b o s H locs) (hl : lv_has ls 9 [(0, .ref bs), (1, .ref (a 0)), (2, .ref (b 0)), (3, .ref o), (4, .int (nI i))]) (hi : i + 4 ≤ L) (hL : L ≤ 2048) (hn1 : n1 + 1 ≤ 601024) (hn2 : n2 + 6 ≤ 7293034)
    (k : ∀ (H : Heap) (locs : List Loc) (ls : Array Slot), lawS D cy cJ A a b o s H locs → lv_has ls 9 [(0, .ref bs), (1, .ref (a 0)), (2, .ref (b 0)), (3, .ref o), (4, .int (nI i))] → W p l e room_1 s m args below meth c H locs (n1 + 1) (n2 + 6) Q (F0 m 1528 ls [])) : W p l e room_1 s m args below meth c H locs n1 n2 Q (F0 m 1514 ls []) := by
  obtain ⟨hx, hb, hml, hown, hts, hX, hbl, hbA, hK, hJ, hA, hN, hC, hst⟩ := C
  obtain ⟨σ, kept, nxt, cnt, tx, len, pos, pp, lc, on, ov, saved, bef, thr, t9, l9, x9, y9, d9, hs, out, hw, hI, hv, ht, hlen, ob1, ob2⟩ := hw
  have hw : wS D A (wX cy a σ kept nxt cnt (tI tx) len pos (nI pp) (nI lc) (nO on) (nO ov) ++ ((o, .inl (cJ, 1, .inr (.inl out))) :: wM cy b (mS σ) saved cnt bef (tI tx) len thr t9 (nI l9) (nO x9) (nO y9) d9 hs)) s H locs := hw
  refine lv_aload_n hx hb dL_law_1514 rfl (lv_at hl 1 rfl) ?_
  refine q_cV (As := []) (rest := []) ⟨hx, hb, hml, hown, hts⟩ (c_X6_digest D cy a σ kept nxt cnt (tI tx) len pos (nI pp) (nI lc) (nO on) (nO ov) ((o, .inl (cJ, 1, .inr (.inl out))) :: wM cy b (mS σ) saved cnt bef (tI tx) len thr t9 (nI l9) (nO x9) (nO y9) d9 hs)) (cwV 0 hts gL_law_X6_digest rfl rfl rfl hd_X6_digest ⟨Nat.le_of_ble_eq_true rfl, Nat.le_of_ble_eq_true rfl⟩) hK hw.1 0 rfl rfl rfl hl.1 rfl (Nat.le_of_ble_eq_true rfl) ⟨show n1 + 0 ≤ 601024 by omega, show n2 + 0 ≤ 7293034 by omega⟩ dL_law_1515 ?_
  refine lv_aload_n hx hb dL_law_1518 rfl (lv_at hl 2 rfl) ?_
  have hw := pmA hw
  refine q_wVE0 (As := []) (rest := [.long (dig σ)]) ⟨hx, hb, hml, hown, hts⟩ (c_X7_digest D cy A b σ saved cnt bef (tI tx) len thr t9 (nI l9) (nO x9) (nO y9) d9 hs (wX cy a σ kept nxt cnt (tI tx) len pos (nI pp) (nI lc) (nO on) (nO ov) ++ [(o, .inl (cJ, 1, .inr (.inl out)))]) hv) (cwV 0 hts gL_law_X7_digest rfl rfl rfl hd_X7_digest ⟨Nat.le_of_ble_eq_true rfl, Nat.le_of_ble_eq_true rfl⟩) hK hA hw 0 rfl rfl rfl hl.1 rfl (Nat.le_of_ble_eq_true rfl) ⟨show n1 + 0 ≤ 601024 by omega, show n2 + 0 ≤ 7293034 by omega⟩ dL_law_1519 (fun H locs v8 w8 hp hw => ?_)
  obtain ⟨rfl, bf9, rfl⟩ := hp
  have hw := pmB hw
  refine q_stk (show _ = ([.long (dig σ), .long (dig σ)] : List Value) from rfl) ?_
  refine q_lcmp0 hx hb dL_law_1522 ?_
  refine q_ifeqN (a := 0) (tgt := 1528) hx hb dL_law_1523 (by decide) (by decide) (fun _ => ?_) (fun h => absurd h (by decide))
  refine W.widen (k := n1 + 1) (n := n2 + 6) (by omega) (by omega) ?_
  exact k _ _ _ ⟨σ, kept, nxt, cnt, tx, len, pos, pp, lc, on, ov, saved, bf9, 0, t9, l9, x9, y9, d9, dig σ, out, hw, hI, hv, ht, hlen, ob1, ob2⟩ (lv_sub hl [0, 1, 2, 3, 4] rfl)
set_option maxHeartbeats 1000000 in
set_option maxRecDepth 100000 in
theorem la_balance {p : Program} {l : Launch} {e : Env} {s : State} {m : MethodId} {args : Array Value} {below : List Frame} {meth : Method} {c : Code} {H : Heap} {locs : List Loc} {n1 n2 : Nat} {Q : State → Prop} {ls : Array Slot} {D : va_G} {cy cJ : ClassId} {A : Nat → Prop} {a b : Nat → Nat} {o bs L i : Nat} {xs : Nat → Int32} (C : lC p l s args m meth c D cy cJ A bs L xs) (hw : lawS D cy cJ A a b o s H locs) (hl : lv_has ls 9 [(0, .ref bs), (1, .ref (a 0)), (2, .ref (b 0)), (3, .ref o), (4, .int (nI i))]) (hi : i + 4 ≤ L) (hL : L ≤ 2048) (hn1 : n1 + 1 ≤ 601024) (hn2 : n2 + 6 ≤ 7293034)
    (k : ∀ (H : Heap) (locs : List Loc) (ls : Array Slot), lawS D cy cJ A a b o s H locs → lv_has ls 9 [(0, .ref bs), (1, .ref (a 0)), (2, .ref (b 0)), (3, .ref o), (4, .int (nI i))] → W p l e room_1 s m args below meth c H locs (n1 + 1) (n2 + 6) Q (F0 m 1528 ls [])) : W p l e room_1 s m args below meth c H locs n1 n2 Q (F0 m 1153 ls []) := by
  obtain ⟨hx, hb, hml, hown, hts, hX, hbl, hbA, hK, hJ, hA, hN, hC, hst⟩ := C
  obtain ⟨σ, kept, nxt, cnt, tx, len, pos, pp, lc, on, ov, saved, bef, thr, t9, l9, x9, y9, d9, hs, out, hw, hI, hv, ht, hlen, ob1, ob2⟩ := hw
  have hw : wS D A (wX cy a σ kept nxt cnt (tI tx) len pos (nI pp) (nI lc) (nO on) (nO ov) ++ ((o, .inl (cJ, 1, .inr (.inl out))) :: wM cy b (mS σ) saved cnt bef (tI tx) len thr t9 (nI l9) (nO x9) (nO y9) d9 hs)) s H locs := hw
  refine lv_aload_n hx hb dL_law_1153 rfl (lv_at hl 1 rfl) ?_
  refine q_cV (As := []) (rest := []) ⟨hx, hb, hml, hown, hts⟩ (c_X6_balance D cy a σ kept nxt cnt (tI tx) len pos (nI pp) (nI lc) (nO on) (nO ov) ((o, .inl (cJ, 1, .inr (.inl out))) :: wM cy b (mS σ) saved cnt bef (tI tx) len thr t9 (nI l9) (nO x9) (nO y9) d9 hs)) (cwV 0 hts gL_law_X6_balance rfl rfl rfl hd_X6_balance ⟨Nat.le_of_ble_eq_true rfl, Nat.le_of_ble_eq_true rfl⟩) hK hw.1 0 rfl rfl rfl hl.1 rfl (Nat.le_of_ble_eq_true rfl) ⟨show n1 + 0 ≤ 601024 by omega, show n2 + 0 ≤ 7293034 by omega⟩ dL_law_1154 ?_
  refine lv_dstore (lv' := [(5, .double (bal σ)), (0, .ref bs), (1, .ref (a 0)), (2, .ref (b 0)), (3, .ref o), (4, .int (nI i))]) hx hb dL_law_1157 hl (by decide) rfl (fun ls hl => ?_)
  refine lv_aload_n hx hb dL_law_1159 rfl (lv_at hl 3 rfl) ?_
  have hw := pmA hw
  refine q_wV0 (As := []) (rest := []) (st1 := [.double (bal σ)]) ⟨hx, hb, hml, hown, hts⟩ (c_X7_balance D cy A b σ saved cnt bef (tI tx) len thr t9 (nI l9) (nO x9) (nO y9) d9 hs (wX cy a σ kept nxt cnt (tI tx) len pos (nI pp) (nI lc) (nO on) (nO ov) ++ [(o, .inl (cJ, 1, .inr (.inl out)))])) (cwV 0 hts gL_law_X7_balance rfl rfl rfl hd_X7_balance ⟨Nat.le_of_ble_eq_true rfl, Nat.le_of_ble_eq_true rfl⟩) hK hA hw 0 rfl rfl rfl hl.1 rfl rfl (Nat.le_of_ble_eq_true rfl) ⟨show n1 + 0 ≤ 601024 by omega, show n2 + 0 ≤ 7293034 by omega⟩ dL_law_1160 (fun H locs hw => ?_)
  have hw := pmB hw
  refine lv_dstore (lv' := [(7, .double (bal σ)), (5, .double (bal σ)), (0, .ref bs), (1, .ref (a 0)), (2, .ref (b 0)), (3, .ref o), (4, .int (nI i))]) hx hb dL_law_1163 hl (by decide) rfl (fun ls hl => ?_)
  refine lv_dload hx hb dL_law_1165 (lv_at hl 1 rfl) ?_
  refine lv_dload hx hb dL_law_1167 (lv_at hl 0 rfl) ?_
  refine lv_dcmp hx hb dL_law_1169 ?_
  refine lv_if_eq (tgt := 1191) hx hb dL_law_1170 (by decide) (fun h1 => ?_) (fun h1 => ?_)
  · refine lv_goto (tgt := 1528) hx hb dL_law_1191 (by decide) ?_
    refine W.widen (k := n1 + 1) (n := n2 + 6) (by omega) (by omega) ?_
    exact k _ _ _ ⟨σ, kept, nxt, cnt, tx, len, pos, pp, lc, on, ov, saved, bef, 0, t9, l9, x9, y9, d9, hs, out, hw, hI, hv, ht, hlen, ob1, ob2⟩ (lv_sub hl [2, 3, 4, 5, 6] rfl)
  refine lv_dload hx hb dL_law_1173 (lv_at hl 1 rfl) ?_
  refine lv_dload hx hb dL_law_1175 (lv_at hl 1 rfl) ?_
  refine lv_dcmp hx hb dL_law_1177 ?_
  refine lv_if_eq (tgt := 1189) hx hb dL_law_1178 (by decide) (fun h2 => absurd h2 h1) (fun h2 => ?_)
  refine lv_dload hx hb dL_law_1181 (lv_at hl 0 rfl) ?_
  refine lv_dload hx hb dL_law_1183 (lv_at hl 0 rfl) ?_
  refine lv_dcmp hx hb dL_law_1185 ?_
  refine lv_if_ne (tgt := 1191) hx hb dL_law_1186 (by decide) (fun h3 => ?_) (fun h3 => absurd h3 h1)
  · refine lv_goto (tgt := 1528) hx hb dL_law_1191 (by decide) ?_
    refine W.widen (k := n1 + 1) (n := n2 + 6) (by omega) (by omega) ?_
    exact k _ _ _ ⟨σ, kept, nxt, cnt, tx, len, pos, pp, lc, on, ov, saved, bef, 0, t9, l9, x9, y9, d9, hs, out, hw, hI, hv, ht, hlen, ob1, ob2⟩ (lv_sub hl [2, 3, 4, 5, 6] rfl)
