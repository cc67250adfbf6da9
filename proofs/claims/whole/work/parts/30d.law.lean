set_option maxHeartbeats 1000000 in
set_option maxRecDepth 100000 in
theorem la_lostIfFailed {p : Program} {l : Launch} {e : Env} {s : State} {m : MethodId} {args : Array Value} {below : List Frame} {meth : Method} {c : Code} {H : Heap} {locs : List Loc} {n1 n2 : Nat} {Q : State → Prop} {ls : Array Slot} {D : va_G} {cy cJ : ClassId} {A : Nat → Prop} {a b : Nat → Nat} {o bs L i : Nat} {xs : Nat → Int32} (C : lC p l s args m meth c D cy cJ A bs L xs) (hw : lawS D cy cJ A a b o s H locs) (hl : lv_has ls 9 [(0, .ref bs), (1, .ref (a 0)), (2, .ref (b 0)), (3, .ref o), (4, .int (nI i))]) (hi : i + 4 ≤ L) (hL : L ≤ 2048) (hn1 : n1 + 1 ≤ 601024) (hn2 : n2 + 6 ≤ 7293034)
    (k : ∀ (H : Heap) (locs : List Loc) (ls : Array Slot), lawS D cy cJ A a b o s H locs → lv_has ls 9 [(0, .ref bs), (1, .ref (a 0)), (2, .ref (b 0)), (3, .ref o), (4, .int (nI i))] → W p l e room_1 s m args below meth c H locs (n1 + 1) (n2 + 6) Q (F0 m 1528 ls [])) : W p l e room_1 s m args below meth c H locs n1 n2 Q (F0 m 1194 ls []) := by
  obtain ⟨hx, hb, hml, hown, hts, hX, hbl, hbA, hK, hJ, hA, hN, hC, hst⟩ := C
  obtain ⟨σ, kept, nxt, cnt, tx, len, pos, pp, lc, on, ov, saved, bef, thr, t9, l9, x9, y9, d9, hs, out, hw, hI, hv, ht, hlen, ob1, ob2⟩ := hw
  have hw : wS D A (wX cy a σ kept nxt cnt (tI tx) len pos (nI pp) (nI lc) (nO on) (nO ov) ++ ((o, .inl (cJ, 1, .inr (.inl out))) :: wM cy b (mS σ) saved cnt bef (tI tx) len thr t9 (nI l9) (nO x9) (nO y9) d9 hs)) s H locs := hw
  refine lv_aload_n hx hb dL_law_1194 rfl (lv_at hl 1 rfl) ?_
  refine lv_aload_n hx hb dL_law_1195 rfl (lv_at hl 0 rfl) ?_
  refine lv_iload hx hb dL_law_1196 (lv_at hl 4 rfl) ?_
  refine lv_iconst (v := nI 1) hx hb dL_law_1198 rfl ?_
  refine q_addN hx hb dL_law_1199 ?_
  refine va_sld hx hb hX hbl hbA hw.2.2 (vp_in_nI (show i + 1 < L by omega) (by omega)) dL_law_1200 ?_
  refine lv_aload_n hx hb dL_law_1201 rfl (lv_at hl 3 rfl) ?_
  refine q_lS (As := [.ref (a 0), .int (xs (nI (i + 1)).toNatClampNeg), .ref o]) (rest := []) ⟨hx, hb, hml, hown, hts⟩ (c_L_lostIfFailed hst D cy cJ A a σ kept nxt cnt (tI tx) len pos (nI pp) (nI lc) (nO on) (nO ov) (wM cy b (mS σ) saved cnt bef (tI tx) len thr t9 (nI l9) (nO x9) (nO y9) d9 hs) o out (xs (nI (i + 1)).toNatClampNeg) ) (vx_cwSW 3 hts gL_law_L_lostIfFailed rfl rfl rfl hd_L_lostIfFailed ⟨Nat.le_of_ble_eq_true rfl, Nat.le_of_ble_eq_true rfl⟩) hK hJ hC hA hN hw rfl hl.1 rfl (Nat.le_of_ble_eq_true rfl) ⟨show n1 + 1 ≤ 601024 by omega, show n2 + 6 ≤ 7293034 by omega⟩ dL_law_1202 (fun H locs v8 w8 hp hw => ?_)
  obtain ⟨rfl, hcase⟩ := hp
  refine q_stk (show _ = ([.int (nI (c1 (xs (nI (i + 1)).toNatClampNeg) 7))] : List Value) from rfl) ?_
  refine lv_istore (lv' := [(5, .int (nI (c1 (xs (nI (i + 1)).toNatClampNeg) 7))), (0, .ref bs), (1, .ref (a 0)), (2, .ref (b 0)), (3, .ref o), (4, .int (nI i))]) hx hb dL_law_1205 hl (by decide) rfl (fun ls hl => ?_)
  refine lv_aload_n hx hb dL_law_1207 rfl (lv_at hl 3 rfl) ?_
  refine lv_aload_n hx hb dL_law_1208 rfl (lv_at hl 1 rfl) ?_
  refine lv_iload hx hb dL_law_1209 (lv_at hl 5 rfl) ?_
  refine lv_iconst (v := nI 1) hx hb dL_law_1211 rfl ?_
  refine q_addN hx hb dL_law_1212 ?_
  refine va_sld hx hb hX hbl hbA hw.2.2 (vp_in_nI (show i + 1 < L by omega) (by omega)) dL_law_1213 ?_
  rcases hcase with ⟨h0, rfl⟩ | ⟨h0, rfl⟩
  · skip
    have hw := pmA hw
    refine q_wV0 (As := [.int (xs (nI (i + 1)).toNatClampNeg)]) (rest := []) (st1 := [.int (nI (if c1 (xs (nI (i + 1)).toNatClampNeg) 7 = 0 then (cl (failS σ (ix (xs (nI (i + 1)).toNatClampNeg)))) else 0))]) ⟨hx, hb, hml, hown, hts⟩ (c_X7_lostIfFailed D cy A b σ saved cnt bef (tI tx) len thr t9 (nI l9) (nO x9) (nO y9) d9 hs (wX cy a σ kept nxt cnt (tI tx) len pos (nI pp) (nI lc) (nO on) (nO ov) ++ [(o, .inl (cJ, 1, .inr (.inl (vp_updL out 0 (nI (cl (failS σ (ix (xs (nI (i + 1)).toNatClampNeg))))).toInt64))))]) (xs (nI (i + 1)).toNatClampNeg) hv) (cwV 1 hts gL_law_X7_lostIfFailed rfl rfl rfl hd_X7_lostIfFailed ⟨Nat.le_of_ble_eq_true rfl, Nat.le_of_ble_eq_true rfl⟩) hK hA hw 0 rfl rfl rfl hl.1 rfl rfl (Nat.le_of_ble_eq_true rfl) ⟨show n1 + 1 + 0 ≤ 601024 by omega, show n2 + 6 + 0 ≤ 7293034 by omega⟩ dL_law_1214 (fun H locs hw => ?_)
    rw [if_pos h0] at hw
    refine q_top (show (nI (if c1 (xs (nI (i + 1)).toNatClampNeg) 7 = 0 then (cl (failS σ (ix (xs (nI (i + 1)).toNatClampNeg)))) else 0)) = nI (cl (failS σ (ix (xs (nI (i + 1)).toNatClampNeg)))) from by first | (rw [if_pos h0]; done) | (rw [if_pos h0]; rfl)) ?_
    refine lv_istore (lv' := [(6, .int (nI (cl (failS σ (ix (xs (nI (i + 1)).toNatClampNeg)))))), (5, .int (nI (c1 (xs (nI (i + 1)).toNatClampNeg) 7))), (0, .ref bs), (1, .ref (a 0)), (2, .ref (b 0)), (3, .ref o), (4, .int (nI i))]) hx hb dL_law_1217 hl (by decide) rfl (fun ls hl => ?_)
    refine lv_aload_n hx hb dL_law_1219 rfl (lv_at hl 4 rfl) ?_
    refine q_cV (As := []) (rest := []) ⟨hx, hb, hml, hown, hts⟩ (c_X7_thrown D cy b σ saved cnt (cpG bef (mS σ) 0 0 86) (tI tx) len (c1 (xs (nI (i + 1)).toNatClampNeg) 7) t9 (nI l9) (nO x9) (nO y9) d9 hs (wX cy a σ kept nxt cnt (tI tx) len pos (nI pp) (nI lc) (nO on) (nO ov) ++ [(o, .inl (cJ, 1, .inr (.inl (vp_updL out 0 (nI (cl (failS σ (ix (xs (nI (i + 1)).toNatClampNeg))))).toInt64))))])) (cwV 0 hts gL_law_X7_thrown rfl rfl rfl hd_X7_thrown ⟨Nat.le_of_ble_eq_true rfl, Nat.le_of_ble_eq_true rfl⟩) hK hw.1 0 rfl rfl rfl hl.1 rfl (Nat.le_of_ble_eq_true rfl) ⟨show n1 + 1 + 0 ≤ 601024 by omega, show n2 + 6 + 0 ≤ 7293034 by omega⟩ dL_law_1220 ?_
    have hw := pmB hw
    refine lv_iload hx hb dL_law_1223 (lv_at hl 1 rfl) ?_
    refine lv_icmp_eq (tgt := 1230) hx hb dL_law_1225 (by decide) (fun _ => ?_) (fun h => absurd rfl h)
    refine lv_iload hx hb dL_law_1230 (lv_at hl 1 rfl) ?_
    refine lv_if_ne (tgt := 1247) hx hb dL_law_1232 (by decide) (fun h => absurd (by rw [h0]; rfl) h) (fun _ => ?_)
    refine lv_aload_n hx hb dL_law_1235 rfl (lv_at hl 5 rfl) ?_
    refine lv_iconst (v := nI 0) hx hb dL_law_1236 rfl ?_
    refine va_lald hx hb hJ hw.1 18 0 rfl rfl (vp_in_nI (by decide) (by decide)) dL_law_1237 ?_
    refine lv_iload hx hb dL_law_1238 (lv_at hl 0 rfl) ?_
    refine lv_i2l hx hb dL_law_1240 rfl ?_
    refine q_stk (show _ = ([.long (nI (cl (failS σ (ix (xs (nI (i + 1)).toNatClampNeg))))).toInt64, .long (nI (cl (failS σ (ix (xs (nI (i + 1)).toNatClampNeg))))).toInt64] : List Value) from by rw [nI_clamp (show 0 < 2 ^ 31 by decide)]; rfl) ?_
    refine q_lcmp0 hx hb dL_law_1241 ?_
    refine q_ifeqN (a := 0) (tgt := 1247) hx hb dL_law_1242 (by decide) (by decide) (fun _ => ?_) (fun h => absurd h (by decide))
    refine lv_goto (tgt := 1528) hx hb dL_law_1247 (by decide) ?_
    exact k _ _ _ ⟨σ, kept, nxt, cnt, tx, len, pos, pp, lc, on, ov, saved, (cpG bef (mS σ) 0 0 86), c1 (xs (nI (i + 1)).toNatClampNeg) 7, t9, l9, x9, y9, d9, hs, vp_updL out 0 (nI (cl (failS σ (ix (xs (nI (i + 1)).toNatClampNeg))))).toInt64, hw, hI, hv, ht, hlen, ob1, ob2⟩ (lv_sub hl [2, 3, 4, 5, 6] rfl)
  · skip
    have hw := pmA hw
    refine q_wV0 (As := [.int (xs (nI (i + 1)).toNatClampNeg)]) (rest := []) (st1 := [.int (nI (if c1 (xs (nI (i + 1)).toNatClampNeg) 7 = 0 then (cl (failS σ (ix (xs (nI (i + 1)).toNatClampNeg)))) else 0))]) ⟨hx, hb, hml, hown, hts⟩ (c_X7_lostIfFailed D cy A b σ saved cnt bef (tI tx) len thr t9 (nI l9) (nO x9) (nO y9) d9 hs (wX cy a σ kept nxt cnt (tI tx) len pos (nI pp) (nI lc) (nO on) (nO ov) ++ [(o, .inl (cJ, 1, .inr (.inl out)))]) (xs (nI (i + 1)).toNatClampNeg) hv) (cwV 1 hts gL_law_X7_lostIfFailed rfl rfl rfl hd_X7_lostIfFailed ⟨Nat.le_of_ble_eq_true rfl, Nat.le_of_ble_eq_true rfl⟩) hK hA hw 0 rfl rfl rfl hl.1 rfl rfl (Nat.le_of_ble_eq_true rfl) ⟨show n1 + 1 + 0 ≤ 601024 by omega, show n2 + 6 + 0 ≤ 7293034 by omega⟩ dL_law_1214 (fun H locs hw => ?_)
    rw [if_neg h0] at hw
    refine q_top (show (nI (if c1 (xs (nI (i + 1)).toNatClampNeg) 7 = 0 then (cl (failS σ (ix (xs (nI (i + 1)).toNatClampNeg)))) else 0)) = nI 0 from by first | (rw [if_neg h0]; done) | (rw [if_neg h0]; rfl)) ?_
    refine lv_istore (lv' := [(6, .int (nI 0)), (5, .int (nI (c1 (xs (nI (i + 1)).toNatClampNeg) 7))), (0, .ref bs), (1, .ref (a 0)), (2, .ref (b 0)), (3, .ref o), (4, .int (nI i))]) hx hb dL_law_1217 hl (by decide) rfl (fun ls hl => ?_)
    refine lv_aload_n hx hb dL_law_1219 rfl (lv_at hl 4 rfl) ?_
    refine q_cV (As := []) (rest := []) ⟨hx, hb, hml, hown, hts⟩ (c_X7_thrown D cy b σ saved cnt bef (tI tx) len (c1 (xs (nI (i + 1)).toNatClampNeg) 7) t9 (nI l9) (nO x9) (nO y9) d9 hs (wX cy a σ kept nxt cnt (tI tx) len pos (nI pp) (nI lc) (nO on) (nO ov) ++ [(o, .inl (cJ, 1, .inr (.inl out)))])) (cwV 0 hts gL_law_X7_thrown rfl rfl rfl hd_X7_thrown ⟨Nat.le_of_ble_eq_true rfl, Nat.le_of_ble_eq_true rfl⟩) hK hw.1 0 rfl rfl rfl hl.1 rfl (Nat.le_of_ble_eq_true rfl) ⟨show n1 + 1 + 0 ≤ 601024 by omega, show n2 + 6 + 0 ≤ 7293034 by omega⟩ dL_law_1220 ?_
    have hw := pmB hw
    refine lv_iload hx hb dL_law_1223 (lv_at hl 1 rfl) ?_
    refine lv_icmp_eq (tgt := 1230) hx hb dL_law_1225 (by decide) (fun _ => ?_) (fun h => absurd rfl h)
    refine lv_iload hx hb dL_law_1230 (lv_at hl 1 rfl) ?_
    refine lv_if_ne (tgt := 1247) hx hb dL_law_1232 (by decide) (fun _ => ?_) (fun h => absurd h (code_ne h0 (by have h9 : c1 (xs (nI (i + 1)).toNatClampNeg) 7 ≤ 3 := Nat.le_trans (c1_le _ _) (by decide); omega)))
    refine lv_goto (tgt := 1528) hx hb dL_law_1247 (by decide) ?_
    exact k _ _ _ ⟨σ, kept, nxt, cnt, tx, len, pos, pp, lc, on, ov, saved, bef, c1 (xs (nI (i + 1)).toNatClampNeg) 7, t9, l9, x9, y9, d9, hs, out, hw, hI, hv, ht, hlen, ob1, ob2⟩ (lv_sub hl [2, 3, 4, 5, 6] rfl)
