set_option maxHeartbeats 1000000 in
set_option maxRecDepth 100000 in
theorem la_read {p : Program} {l : Launch} {e : Env} {s : State} {m : MethodId} {args : Array Value} {below : List Frame} {meth : Method} {c : Code} {H : Heap} {locs : List Loc} {n1 n2 : Nat} {Q : State → Prop} {ls : Array Slot} {D : va_G} {cy cJ : ClassId} {A : Nat → Prop} {a b : Nat → Nat} {o bs L i : Nat} {xs : Nat → Int32} (C : lC p l s args m meth c D cy cJ A bs L xs) (hw : lawS D cy cJ A a b o s H locs) (hl : lv_has ls 9 [(0, .ref bs), (1, .ref (a 0)), (2, .ref (b 0)), (3, .ref o), (4, .int (nI i))]) (hi : i + 4 ≤ L) (hL : L ≤ 2048) (hn1 : n1 + 1 ≤ 601024) (hn2 : n2 + 6 ≤ 7293034)
    (k : ∀ (H : Heap) (locs : List Loc) (ls : Array Slot), lawS D cy cJ A a b o s H locs → lv_has ls 9 [(0, .ref bs), (1, .ref (a 0)), (2, .ref (b 0)), (3, .ref o), (4, .int (nI i))] → W p l e room_1 s m args below meth c H locs (n1 + 1) (n2 + 6) Q (F0 m 1528 ls [])) : W p l e room_1 s m args below meth c H locs n1 n2 Q (F0 m 176 ls []) := by
  obtain ⟨hx, hb, hml, hown, hts, hX, hbl, hbA, hK, hJ, hA, hN, hC, hst⟩ := C
  obtain ⟨σ, kept, nxt, cnt, tx, len, pos, pp, lc, on, ov, saved, bef, thr, t9, l9, x9, y9, d9, hs, out, hw, hI, hv, ht, hlen, ob1, ob2⟩ := hw
  have hw : wS D A (wX cy a σ kept nxt cnt (tI tx) len pos (nI pp) (nI lc) (nO on) (nO ov) ++ ((o, .inl (cJ, 1, .inr (.inl out))) :: wM cy b (mS σ) saved cnt bef (tI tx) len thr t9 (nI l9) (nO x9) (nO y9) d9 hs)) s H locs := hw
  refine lv_aload_n hx hb dL_law_176 rfl (lv_at hl 1 rfl) ?_
  refine lv_aload_n hx hb dL_law_177 rfl (lv_at hl 0 rfl) ?_
  refine lv_iload hx hb dL_law_178 (lv_at hl 4 rfl) ?_
  refine lv_iconst (v := nI 1) hx hb dL_law_180 rfl ?_
  refine q_addN hx hb dL_law_181 ?_
  refine va_sld hx hb hX hbl hbA hw.2.2 (vp_in_nI (show i + 1 < L by omega) (by omega)) dL_law_182 ?_
  refine lv_aload_n hx hb dL_law_183 rfl (lv_at hl 3 rfl) ?_
  refine q_lS (As := [.ref (a 0), .int (xs (nI (i + 1)).toNatClampNeg), .ref o]) (rest := []) ⟨hx, hb, hml, hown, hts⟩ (c_L_read hst D cy cJ A a σ kept nxt cnt (tI tx) len pos (nI pp) (nI lc) (nO on) (nO ov) (wM cy b (mS σ) saved cnt bef (tI tx) len thr t9 (nI l9) (nO x9) (nO y9) d9 hs) o out (xs (nI (i + 1)).toNatClampNeg) hI.1 hI.2.1) (vx_cwSW 3 hts gL_law_L_read rfl rfl rfl hd_L_read ⟨Nat.le_of_ble_eq_true rfl, Nat.le_of_ble_eq_true rfl⟩) hK hJ hC hA hN hw rfl hl.1 rfl (Nat.le_of_ble_eq_true rfl) ⟨show n1 + 1 ≤ 601024 by omega, show n2 + 6 ≤ 7293034 by omega⟩ dL_law_184 (fun H locs v8 w8 hp hw => ?_)
  obtain ⟨rfl, hcase⟩ := hp
  refine q_stk (show _ = ([.int (nI (cRd σ (xs (nI (i + 1)).toNatClampNeg)))] : List Value) from rfl) ?_
  refine lv_istore (lv' := [(5, .int (nI (cRd σ (xs (nI (i + 1)).toNatClampNeg)))), (0, .ref bs), (1, .ref (a 0)), (2, .ref (b 0)), (3, .ref o), (4, .int (nI i))]) hx hb dL_law_187 hl (by decide) rfl (fun ls hl => ?_)
  refine lv_aload_n hx hb dL_law_189 rfl (lv_at hl 3 rfl) ?_
  refine lv_aload_n hx hb dL_law_190 rfl (lv_at hl 1 rfl) ?_
  refine lv_iload hx hb dL_law_191 (lv_at hl 5 rfl) ?_
  refine lv_iconst (v := nI 1) hx hb dL_law_193 rfl ?_
  refine q_addN hx hb dL_law_194 ?_
  refine va_sld hx hb hX hbl hbA hw.2.2 (vp_in_nI (show i + 1 < L by omega) (by omega)) dL_law_195 ?_
  rcases hcase with ⟨h0, rfl⟩ | ⟨h0, rfl⟩
  · skip
    have hw := pmA hw
    refine q_wV0 (As := [.int (xs (nI (i + 1)).toNatClampNeg)]) (rest := []) (st1 := [.int (if cRd σ (xs (nI (i + 1)).toNatClampNeg) = 0 then kn σ (ad (ix (xs (nI (i + 1)).toNatClampNeg))) else 0)]) ⟨hx, hb, hml, hown, hts⟩ (c_X7_read D cy A b σ saved cnt bef (tI tx) len thr t9 (nI l9) (nO x9) (nO y9) d9 hs (wX cy a (sRd σ (xs (nI (i + 1)).toNatClampNeg)) (cpK kept σ (nxt * 86) 86) ((nxt + 1) % 6) (min (cnt + 1) 6) (tI tx) len pos (nI pp) (nI lc) (nO on) (nO ov) ++ [(o, .inl (cJ, 1, .inr (.inl (vp_updL out 0 (kn σ (ad (ix (xs (nI (i + 1)).toNatClampNeg)))).toInt64))))]) (xs (nI (i + 1)).toNatClampNeg) hv hI.2.1) (cwV 1 hts gL_law_X7_read rfl rfl rfl hd_X7_read ⟨Nat.le_of_ble_eq_true rfl, Nat.le_of_ble_eq_true rfl⟩) hK hA hw 0 rfl rfl rfl hl.1 rfl rfl (Nat.le_of_ble_eq_true rfl) ⟨show n1 + 1 + 0 ≤ 601024 by omega, show n2 + 6 + 0 ≤ 7293034 by omega⟩ dL_law_196 (fun H locs hw => ?_)
    rw [if_pos h0] at hw
    rw [if_pos h0] at hw
    rw [if_pos h0] at hw
    refine q_top (show (if cRd σ (xs (nI (i + 1)).toNatClampNeg) = 0 then kn σ (ad (ix (xs (nI (i + 1)).toNatClampNeg))) else 0) = kn σ (ad (ix (xs (nI (i + 1)).toNatClampNeg))) from by first | (rw [if_pos h0]; done) | (rw [if_pos h0]; rfl)) ?_
    refine lv_istore (lv' := [(6, .int (kn σ (ad (ix (xs (nI (i + 1)).toNatClampNeg))))), (5, .int (nI (cRd σ (xs (nI (i + 1)).toNatClampNeg)))), (0, .ref bs), (1, .ref (a 0)), (2, .ref (b 0)), (3, .ref o), (4, .int (nI i))]) hx hb dL_law_199 hl (by decide) rfl (fun ls hl => ?_)
    refine lv_aload_n hx hb dL_law_201 rfl (lv_at hl 4 rfl) ?_
    refine q_cV (As := []) (rest := []) ⟨hx, hb, hml, hown, hts⟩ (c_X7_thrown D cy b (sRd σ (xs (nI (i + 1)).toNatClampNeg)) (svS saved cnt (mS σ)) (min (cnt + 1) 6) bef (tI tx) len (cRd σ (xs (nI (i + 1)).toNatClampNeg)) t9 (nI l9) (nO x9) (nO y9) d9 hs (wX cy a (sRd σ (xs (nI (i + 1)).toNatClampNeg)) (cpK kept σ (nxt * 86) 86) ((nxt + 1) % 6) (min (cnt + 1) 6) (tI tx) len pos (nI pp) (nI lc) (nO on) (nO ov) ++ [(o, .inl (cJ, 1, .inr (.inl (vp_updL out 0 (kn σ (ad (ix (xs (nI (i + 1)).toNatClampNeg)))).toInt64))))])) (cwV 0 hts gL_law_X7_thrown rfl rfl rfl hd_X7_thrown ⟨Nat.le_of_ble_eq_true rfl, Nat.le_of_ble_eq_true rfl⟩) hK hw.1 0 rfl rfl rfl hl.1 rfl (Nat.le_of_ble_eq_true rfl) ⟨show n1 + 1 + 0 ≤ 601024 by omega, show n2 + 6 + 0 ≤ 7293034 by omega⟩ dL_law_202 ?_
    have hw := pmB hw
    refine lv_iload hx hb dL_law_205 (lv_at hl 1 rfl) ?_
    refine lv_icmp_eq (tgt := 212) hx hb dL_law_207 (by decide) (fun _ => ?_) (fun h => absurd rfl h)
    refine lv_iload hx hb dL_law_212 (lv_at hl 1 rfl) ?_
    refine lv_if_ne (tgt := 229) hx hb dL_law_214 (by decide) (fun h => absurd (by rw [h0]; rfl) h) (fun _ => ?_)
    refine lv_aload_n hx hb dL_law_217 rfl (lv_at hl 5 rfl) ?_
    refine lv_iconst (v := nI 0) hx hb dL_law_218 rfl ?_
    refine va_lald hx hb hJ hw.1 18 0 rfl rfl (vp_in_nI (by decide) (by decide)) dL_law_219 ?_
    refine lv_iload hx hb dL_law_220 (lv_at hl 0 rfl) ?_
    refine lv_i2l hx hb dL_law_222 rfl ?_
    refine q_stk (show _ = ([.long (kn σ (ad (ix (xs (nI (i + 1)).toNatClampNeg)))).toInt64, .long (kn σ (ad (ix (xs (nI (i + 1)).toNatClampNeg)))).toInt64] : List Value) from by rw [nI_clamp (show 0 < 2 ^ 31 by decide)]; rfl) ?_
    refine q_lcmp0 hx hb dL_law_223 ?_
    refine q_ifeqN (a := 0) (tgt := 229) hx hb dL_law_224 (by decide) (by decide) (fun _ => ?_) (fun h => absurd h (by decide))
    refine lv_goto (tgt := 1528) hx hb dL_law_229 (by decide) ?_
    exact k _ _ _ ⟨sRd σ (xs (nI (i + 1)).toNatClampNeg), cpK kept σ (nxt * 86) 86, (nxt + 1) % 6, min (cnt + 1) 6, tx, len, pos, pp, lc, on, ov, svS saved cnt (mS σ), bef, cRd σ (xs (nI (i + 1)).toNatClampNeg), t9, l9, x9, y9, d9, hs, vp_updL out 0 (kn σ (ad (ix (xs (nI (i + 1)).toNatClampNeg)))).toInt64, hw, hI.push hv, Val_sRd hv h0, ht, hlen, ob1, ob2⟩ (lv_sub hl [2, 3, 4, 5, 6] rfl)
  · skip
    have hw := pmA hw
    refine q_wV0 (As := [.int (xs (nI (i + 1)).toNatClampNeg)]) (rest := []) (st1 := [.int (if cRd σ (xs (nI (i + 1)).toNatClampNeg) = 0 then kn σ (ad (ix (xs (nI (i + 1)).toNatClampNeg))) else 0)]) ⟨hx, hb, hml, hown, hts⟩ (c_X7_read D cy A b σ saved cnt bef (tI tx) len thr t9 (nI l9) (nO x9) (nO y9) d9 hs (wX cy a σ kept nxt cnt (tI tx) len pos (nI pp) (nI lc) (nO on) (nO ov) ++ [(o, .inl (cJ, 1, .inr (.inl out)))]) (xs (nI (i + 1)).toNatClampNeg) hv hI.2.1) (cwV 1 hts gL_law_X7_read rfl rfl rfl hd_X7_read ⟨Nat.le_of_ble_eq_true rfl, Nat.le_of_ble_eq_true rfl⟩) hK hA hw 0 rfl rfl rfl hl.1 rfl rfl (Nat.le_of_ble_eq_true rfl) ⟨show n1 + 1 + 0 ≤ 601024 by omega, show n2 + 6 + 0 ≤ 7293034 by omega⟩ dL_law_196 (fun H locs hw => ?_)
    rw [if_neg h0] at hw
    rw [if_neg h0] at hw
    rw [if_neg h0] at hw
    refine q_top (show (if cRd σ (xs (nI (i + 1)).toNatClampNeg) = 0 then kn σ (ad (ix (xs (nI (i + 1)).toNatClampNeg))) else 0) = nI 0 from by first | (rw [if_neg h0]; done) | (rw [if_neg h0]; rfl)) ?_
    refine lv_istore (lv' := [(6, .int (nI 0)), (5, .int (nI (cRd σ (xs (nI (i + 1)).toNatClampNeg)))), (0, .ref bs), (1, .ref (a 0)), (2, .ref (b 0)), (3, .ref o), (4, .int (nI i))]) hx hb dL_law_199 hl (by decide) rfl (fun ls hl => ?_)
    refine lv_aload_n hx hb dL_law_201 rfl (lv_at hl 4 rfl) ?_
    refine q_cV (As := []) (rest := []) ⟨hx, hb, hml, hown, hts⟩ (c_X7_thrown D cy b σ saved cnt bef (tI tx) len (cRd σ (xs (nI (i + 1)).toNatClampNeg)) t9 (nI l9) (nO x9) (nO y9) d9 hs (wX cy a σ kept nxt cnt (tI tx) len pos (nI pp) (nI lc) (nO on) (nO ov) ++ [(o, .inl (cJ, 1, .inr (.inl out)))])) (cwV 0 hts gL_law_X7_thrown rfl rfl rfl hd_X7_thrown ⟨Nat.le_of_ble_eq_true rfl, Nat.le_of_ble_eq_true rfl⟩) hK hw.1 0 rfl rfl rfl hl.1 rfl (Nat.le_of_ble_eq_true rfl) ⟨show n1 + 1 + 0 ≤ 601024 by omega, show n2 + 6 + 0 ≤ 7293034 by omega⟩ dL_law_202 ?_
    have hw := pmB hw
    refine lv_iload hx hb dL_law_205 (lv_at hl 1 rfl) ?_
    refine lv_icmp_eq (tgt := 212) hx hb dL_law_207 (by decide) (fun _ => ?_) (fun h => absurd rfl h)
    refine lv_iload hx hb dL_law_212 (lv_at hl 1 rfl) ?_
    refine lv_if_ne (tgt := 229) hx hb dL_law_214 (by decide) (fun _ => ?_) (fun h => absurd h (code_ne h0 (by have h9 : cRd σ (xs (nI (i + 1)).toNatClampNeg) ≤ 3 := Nat.le_trans (cRd_le _ _) (by decide); omega)))
    refine lv_goto (tgt := 1528) hx hb dL_law_229 (by decide) ?_
    exact k _ _ _ ⟨σ, kept, nxt, cnt, tx, len, pos, pp, lc, on, ov, saved, bef, cRd σ (xs (nI (i + 1)).toNatClampNeg), t9, l9, x9, y9, d9, hs, out, hw, hI, hv, ht, hlen, ob1, ob2⟩ (lv_sub hl [2, 3, 4, 5, 6] rfl)
set_option maxHeartbeats 1000000 in
set_option maxRecDepth 100000 in
theorem la_write {p : Program} {l : Launch} {e : Env} {s : State} {m : MethodId} {args : Array Value} {below : List Frame} {meth : Method} {c : Code} {H : Heap} {locs : List Loc} {n1 n2 : Nat} {Q : State → Prop} {ls : Array Slot} {D : va_G} {cy cJ : ClassId} {A : Nat → Prop} {a b : Nat → Nat} {o bs L i : Nat} {xs : Nat → Int32} (C : lC p l s args m meth c D cy cJ A bs L xs) (hw : lawS D cy cJ A a b o s H locs) (hl : lv_has ls 9 [(0, .ref bs), (1, .ref (a 0)), (2, .ref (b 0)), (3, .ref o), (4, .int (nI i))]) (hi : i + 4 ≤ L) (hL : L ≤ 2048) (hn1 : n1 + 1 ≤ 601024) (hn2 : n2 + 6 ≤ 7293034)
    (k : ∀ (H : Heap) (locs : List Loc) (ls : Array Slot), lawS D cy cJ A a b o s H locs → lv_has ls 9 [(0, .ref bs), (1, .ref (a 0)), (2, .ref (b 0)), (3, .ref o), (4, .int (nI i))] → W p l e room_1 s m args below meth c H locs (n1 + 1) (n2 + 6) Q (F0 m 1528 ls [])) : W p l e room_1 s m args below meth c H locs n1 n2 Q (F0 m 232 ls []) := by
  obtain ⟨hx, hb, hml, hown, hts, hX, hbl, hbA, hK, hJ, hA, hN, hC, hst⟩ := C
  obtain ⟨σ, kept, nxt, cnt, tx, len, pos, pp, lc, on, ov, saved, bef, thr, t9, l9, x9, y9, d9, hs, out, hw, hI, hv, ht, hlen, ob1, ob2⟩ := hw
  have hw : wS D A (wX cy a σ kept nxt cnt (tI tx) len pos (nI pp) (nI lc) (nO on) (nO ov) ++ ((o, .inl (cJ, 1, .inr (.inl out))) :: wM cy b (mS σ) saved cnt bef (tI tx) len thr t9 (nI l9) (nO x9) (nO y9) d9 hs)) s H locs := hw
  refine lv_aload_n hx hb dL_law_232 rfl (lv_at hl 1 rfl) ?_
  refine lv_aload_n hx hb dL_law_233 rfl (lv_at hl 0 rfl) ?_
  refine lv_iload hx hb dL_law_234 (lv_at hl 4 rfl) ?_
  refine lv_iconst (v := nI 1) hx hb dL_law_236 rfl ?_
  refine q_addN hx hb dL_law_237 ?_
  refine va_sld hx hb hX hbl hbA hw.2.2 (vp_in_nI (show i + 1 < L by omega) (by omega)) dL_law_238 ?_
  refine lv_aload_n hx hb dL_law_239 rfl (lv_at hl 0 rfl) ?_
  refine lv_iload hx hb dL_law_240 (lv_at hl 4 rfl) ?_
  refine lv_iconst (v := nI 2) hx hb dL_law_242 rfl ?_
  refine q_addN hx hb dL_law_243 ?_
  refine va_sld hx hb hX hbl hbA hw.2.2 (vp_in_nI (show i + 2 < L by omega) (by omega)) dL_law_244 ?_
  refine lv_aload_n hx hb dL_law_245 rfl (lv_at hl 3 rfl) ?_
  refine q_lS (As := [.ref (a 0), .int (xs (nI (i + 1)).toNatClampNeg), .int (xs (nI (i + 2)).toNatClampNeg), .ref o]) (rest := []) ⟨hx, hb, hml, hown, hts⟩ (c_L_write hst D cy cJ A a σ kept nxt cnt (tI tx) len pos (nI pp) (nI lc) (nO on) (nO ov) (wM cy b (mS σ) saved cnt bef (tI tx) len thr t9 (nI l9) (nO x9) (nO y9) d9 hs) o out (xs (nI (i + 1)).toNatClampNeg) (xs (nI (i + 2)).toNatClampNeg) hI.1 hI.2.1) (vx_cwSW 4 hts gL_law_L_write rfl rfl rfl hd_L_write ⟨Nat.le_of_ble_eq_true rfl, Nat.le_of_ble_eq_true rfl⟩) hK hJ hC hA hN hw rfl hl.1 rfl (Nat.le_of_ble_eq_true rfl) ⟨show n1 + 1 ≤ 601024 by omega, show n2 + 6 ≤ 7293034 by omega⟩ dL_law_246 (fun H locs v8 w8 hp hw => ?_)
  obtain ⟨rfl, hcase⟩ := hp
  refine q_stk (show _ = ([.int (nI (cWr σ (xs (nI (i + 1)).toNatClampNeg) (xs (nI (i + 2)).toNatClampNeg)))] : List Value) from rfl) ?_
  refine lv_istore (lv' := [(5, .int (nI (cWr σ (xs (nI (i + 1)).toNatClampNeg) (xs (nI (i + 2)).toNatClampNeg)))), (0, .ref bs), (1, .ref (a 0)), (2, .ref (b 0)), (3, .ref o), (4, .int (nI i))]) hx hb dL_law_249 hl (by decide) rfl (fun ls hl => ?_)
  refine lv_aload_n hx hb dL_law_251 rfl (lv_at hl 3 rfl) ?_
  refine lv_aload_n hx hb dL_law_252 rfl (lv_at hl 1 rfl) ?_
  refine lv_iload hx hb dL_law_253 (lv_at hl 5 rfl) ?_
  refine lv_iconst (v := nI 1) hx hb dL_law_255 rfl ?_
  refine q_addN hx hb dL_law_256 ?_
  refine va_sld hx hb hX hbl hbA hw.2.2 (vp_in_nI (show i + 1 < L by omega) (by omega)) dL_law_257 ?_
  refine lv_aload_n hx hb dL_law_258 rfl (lv_at hl 1 rfl) ?_
  refine lv_iload hx hb dL_law_259 (lv_at hl 5 rfl) ?_
  refine lv_iconst (v := nI 2) hx hb dL_law_261 rfl ?_
  refine q_addN hx hb dL_law_262 ?_
  refine va_sld hx hb hX hbl hbA hw.2.2 (vp_in_nI (show i + 2 < L by omega) (by omega)) dL_law_263 ?_
  rcases hcase with ⟨h0, rfl⟩ | ⟨h0, rfl⟩
  · skip
    have hw := pmA hw
    refine q_wV0 (As := [.int (xs (nI (i + 1)).toNatClampNeg), .int (xs (nI (i + 2)).toNatClampNeg)]) (rest := []) (st1 := [.int (if cWr σ (xs (nI (i + 1)).toNatClampNeg) (xs (nI (i + 2)).toNatClampNeg) = 0 then nI (wC σ (ix (xs (nI (i + 1)).toNatClampNeg))) else 0)]) ⟨hx, hb, hml, hown, hts⟩ (c_X7_write D cy A b σ saved cnt bef (tI tx) len thr t9 (nI l9) (nO x9) (nO y9) d9 hs (wX cy a (wD σ (ix (xs (nI (i + 1)).toNatClampNeg)) (xs (nI (i + 2)).toNatClampNeg)) (cpK kept σ (nxt * 86) 86) ((nxt + 1) % 6) (min (cnt + 1) 6) (tI tx) len pos (nI pp) (nI lc) (nO on) (nO ov) ++ [(o, .inl (cJ, 1, .inr (.inl (vp_updL out 0 (nI (wC σ (ix (xs (nI (i + 1)).toNatClampNeg)))).toInt64))))]) (xs (nI (i + 1)).toNatClampNeg) (xs (nI (i + 2)).toNatClampNeg) hI.2.1) (cwV 2 hts gL_law_X7_write rfl rfl rfl hd_X7_write ⟨Nat.le_of_ble_eq_true rfl, Nat.le_of_ble_eq_true rfl⟩) hK hA hw 0 rfl rfl rfl hl.1 rfl rfl (Nat.le_of_ble_eq_true rfl) ⟨show n1 + 1 + 0 ≤ 601024 by omega, show n2 + 6 + 0 ≤ 7293034 by omega⟩ dL_law_264 (fun H locs hw => ?_)
    rw [if_pos h0] at hw
    rw [if_pos h0] at hw
    rw [if_pos h0] at hw
    refine q_top (show (if cWr σ (xs (nI (i + 1)).toNatClampNeg) (xs (nI (i + 2)).toNatClampNeg) = 0 then nI (wC σ (ix (xs (nI (i + 1)).toNatClampNeg))) else 0) = nI (wC σ (ix (xs (nI (i + 1)).toNatClampNeg))) from by first | (rw [if_pos h0]; done) | (rw [if_pos h0]; rfl)) ?_
    refine lv_istore (lv' := [(6, .int (nI (wC σ (ix (xs (nI (i + 1)).toNatClampNeg))))), (5, .int (nI (cWr σ (xs (nI (i + 1)).toNatClampNeg) (xs (nI (i + 2)).toNatClampNeg)))), (0, .ref bs), (1, .ref (a 0)), (2, .ref (b 0)), (3, .ref o), (4, .int (nI i))]) hx hb dL_law_267 hl (by decide) rfl (fun ls hl => ?_)
    refine lv_aload_n hx hb dL_law_269 rfl (lv_at hl 4 rfl) ?_
    refine q_cV (As := []) (rest := []) ⟨hx, hb, hml, hown, hts⟩ (c_X7_thrown D cy b (wD σ (ix (xs (nI (i + 1)).toNatClampNeg)) (xs (nI (i + 2)).toNatClampNeg)) (svS saved cnt (mS σ)) (min (cnt + 1) 6) bef (tI tx) len (cWr σ (xs (nI (i + 1)).toNatClampNeg) (xs (nI (i + 2)).toNatClampNeg)) t9 (nI l9) (nO x9) (nO y9) d9 hs (wX cy a (wD σ (ix (xs (nI (i + 1)).toNatClampNeg)) (xs (nI (i + 2)).toNatClampNeg)) (cpK kept σ (nxt * 86) 86) ((nxt + 1) % 6) (min (cnt + 1) 6) (tI tx) len pos (nI pp) (nI lc) (nO on) (nO ov) ++ [(o, .inl (cJ, 1, .inr (.inl (vp_updL out 0 (nI (wC σ (ix (xs (nI (i + 1)).toNatClampNeg)))).toInt64))))])) (cwV 0 hts gL_law_X7_thrown rfl rfl rfl hd_X7_thrown ⟨Nat.le_of_ble_eq_true rfl, Nat.le_of_ble_eq_true rfl⟩) hK hw.1 0 rfl rfl rfl hl.1 rfl (Nat.le_of_ble_eq_true rfl) ⟨show n1 + 1 + 0 ≤ 601024 by omega, show n2 + 6 + 0 ≤ 7293034 by omega⟩ dL_law_270 ?_
    have hw := pmB hw
    refine lv_iload hx hb dL_law_273 (lv_at hl 1 rfl) ?_
    refine lv_icmp_eq (tgt := 280) hx hb dL_law_275 (by decide) (fun _ => ?_) (fun h => absurd rfl h)
    refine lv_iload hx hb dL_law_280 (lv_at hl 1 rfl) ?_
    refine lv_if_ne (tgt := 297) hx hb dL_law_282 (by decide) (fun h => absurd (by rw [h0]; rfl) h) (fun _ => ?_)
    refine lv_aload_n hx hb dL_law_285 rfl (lv_at hl 5 rfl) ?_
    refine lv_iconst (v := nI 0) hx hb dL_law_286 rfl ?_
    refine va_lald hx hb hJ hw.1 18 0 rfl rfl (vp_in_nI (by decide) (by decide)) dL_law_287 ?_
    refine lv_iload hx hb dL_law_288 (lv_at hl 0 rfl) ?_
    refine lv_i2l hx hb dL_law_290 rfl ?_
    refine q_stk (show _ = ([.long (nI (wC σ (ix (xs (nI (i + 1)).toNatClampNeg)))).toInt64, .long (nI (wC σ (ix (xs (nI (i + 1)).toNatClampNeg)))).toInt64] : List Value) from by rw [nI_clamp (show 0 < 2 ^ 31 by decide)]; rfl) ?_
    refine q_lcmp0 hx hb dL_law_291 ?_
    refine q_ifeqN (a := 0) (tgt := 297) hx hb dL_law_292 (by decide) (by decide) (fun _ => ?_) (fun h => absurd h (by decide))
    refine lv_goto (tgt := 1528) hx hb dL_law_297 (by decide) ?_
    exact k _ _ _ ⟨wD σ (ix (xs (nI (i + 1)).toNatClampNeg)) (xs (nI (i + 2)).toNatClampNeg), cpK kept σ (nxt * 86) 86, (nxt + 1) % 6, min (cnt + 1) 6, tx, len, pos, pp, lc, on, ov, svS saved cnt (mS σ), bef, cWr σ (xs (nI (i + 1)).toNatClampNeg) (xs (nI (i + 2)).toNatClampNeg), t9, l9, x9, y9, d9, hs, vp_updL out 0 (nI (wC σ (ix (xs (nI (i + 1)).toNatClampNeg)))).toInt64, hw, hI.push hv, Val_cWr hv h0, ht, hlen, ob1, ob2⟩ (lv_sub hl [2, 3, 4, 5, 6] rfl)
  · skip
    have hw := pmA hw
    refine q_wV0 (As := [.int (xs (nI (i + 1)).toNatClampNeg), .int (xs (nI (i + 2)).toNatClampNeg)]) (rest := []) (st1 := [.int (if cWr σ (xs (nI (i + 1)).toNatClampNeg) (xs (nI (i + 2)).toNatClampNeg) = 0 then nI (wC σ (ix (xs (nI (i + 1)).toNatClampNeg))) else 0)]) ⟨hx, hb, hml, hown, hts⟩ (c_X7_write D cy A b σ saved cnt bef (tI tx) len thr t9 (nI l9) (nO x9) (nO y9) d9 hs (wX cy a σ kept nxt cnt (tI tx) len pos (nI pp) (nI lc) (nO on) (nO ov) ++ [(o, .inl (cJ, 1, .inr (.inl out)))]) (xs (nI (i + 1)).toNatClampNeg) (xs (nI (i + 2)).toNatClampNeg) hI.2.1) (cwV 2 hts gL_law_X7_write rfl rfl rfl hd_X7_write ⟨Nat.le_of_ble_eq_true rfl, Nat.le_of_ble_eq_true rfl⟩) hK hA hw 0 rfl rfl rfl hl.1 rfl rfl (Nat.le_of_ble_eq_true rfl) ⟨show n1 + 1 + 0 ≤ 601024 by omega, show n2 + 6 + 0 ≤ 7293034 by omega⟩ dL_law_264 (fun H locs hw => ?_)
    rw [if_neg h0] at hw
    rw [if_neg h0] at hw
    rw [if_neg h0] at hw
    refine q_top (show (if cWr σ (xs (nI (i + 1)).toNatClampNeg) (xs (nI (i + 2)).toNatClampNeg) = 0 then nI (wC σ (ix (xs (nI (i + 1)).toNatClampNeg))) else 0) = nI 0 from by first | (rw [if_neg h0]; done) | (rw [if_neg h0]; rfl)) ?_
    refine lv_istore (lv' := [(6, .int (nI 0)), (5, .int (nI (cWr σ (xs (nI (i + 1)).toNatClampNeg) (xs (nI (i + 2)).toNatClampNeg)))), (0, .ref bs), (1, .ref (a 0)), (2, .ref (b 0)), (3, .ref o), (4, .int (nI i))]) hx hb dL_law_267 hl (by decide) rfl (fun ls hl => ?_)
    refine lv_aload_n hx hb dL_law_269 rfl (lv_at hl 4 rfl) ?_
    refine q_cV (As := []) (rest := []) ⟨hx, hb, hml, hown, hts⟩ (c_X7_thrown D cy b σ saved cnt bef (tI tx) len (cWr σ (xs (nI (i + 1)).toNatClampNeg) (xs (nI (i + 2)).toNatClampNeg)) t9 (nI l9) (nO x9) (nO y9) d9 hs (wX cy a σ kept nxt cnt (tI tx) len pos (nI pp) (nI lc) (nO on) (nO ov) ++ [(o, .inl (cJ, 1, .inr (.inl out)))])) (cwV 0 hts gL_law_X7_thrown rfl rfl rfl hd_X7_thrown ⟨Nat.le_of_ble_eq_true rfl, Nat.le_of_ble_eq_true rfl⟩) hK hw.1 0 rfl rfl rfl hl.1 rfl (Nat.le_of_ble_eq_true rfl) ⟨show n1 + 1 + 0 ≤ 601024 by omega, show n2 + 6 + 0 ≤ 7293034 by omega⟩ dL_law_270 ?_
    have hw := pmB hw
    refine lv_iload hx hb dL_law_273 (lv_at hl 1 rfl) ?_
    refine lv_icmp_eq (tgt := 280) hx hb dL_law_275 (by decide) (fun _ => ?_) (fun h => absurd rfl h)
    refine lv_iload hx hb dL_law_280 (lv_at hl 1 rfl) ?_
    refine lv_if_ne (tgt := 297) hx hb dL_law_282 (by decide) (fun _ => ?_) (fun h => absurd h (code_ne h0 (by have h9 : cWr σ (xs (nI (i + 1)).toNatClampNeg) (xs (nI (i + 2)).toNatClampNeg) ≤ 3 := Nat.le_trans (cWr_le _ _ _) (by decide); omega)))
    refine lv_goto (tgt := 1528) hx hb dL_law_297 (by decide) ?_
    exact k _ _ _ ⟨σ, kept, nxt, cnt, tx, len, pos, pp, lc, on, ov, saved, bef, cWr σ (xs (nI (i + 1)).toNatClampNeg) (xs (nI (i + 2)).toNatClampNeg), t9, l9, x9, y9, d9, hs, out, hw, hI, hv, ht, hlen, ob1, ob2⟩ (lv_sub hl [2, 3, 4, 5, 6] rfl)
set_option maxHeartbeats 1000000 in
set_option maxRecDepth 100000 in
theorem la_fail {p : Program} {l : Launch} {e : Env} {s : State} {m : MethodId} {args : Array Value} {below : List Frame} {meth : Method} {c : Code} {H : Heap} {locs : List Loc} {n1 n2 : Nat} {Q : State → Prop} {ls : Array Slot} {D : va_G} {cy cJ : ClassId} {A : Nat → Prop} {a b : Nat → Nat} {o bs L i : Nat} {xs : Nat → Int32} (C : lC p l s args m meth c D cy cJ A bs L xs) (hw : lawS D cy cJ A a b o s H locs) (hl : lv_has ls 9 [(0, .ref bs), (1, .ref (a 0)), (2, .ref (b 0)), (3, .ref o), (4, .int (nI i))]) (hi : i + 4 ≤ L) (hL : L ≤ 2048) (hn1 : n1 + 1 ≤ 601024) (hn2 : n2 + 6 ≤ 7293034)
    (k : ∀ (H : Heap) (locs : List Loc) (ls : Array Slot), lawS D cy cJ A a b o s H locs → lv_has ls 9 [(0, .ref bs), (1, .ref (a 0)), (2, .ref (b 0)), (3, .ref o), (4, .int (nI i))] → W p l e room_1 s m args below meth c H locs (n1 + 1) (n2 + 6) Q (F0 m 1528 ls [])) : W p l e room_1 s m args below meth c H locs n1 n2 Q (F0 m 300 ls []) := by
  obtain ⟨hx, hb, hml, hown, hts, hX, hbl, hbA, hK, hJ, hA, hN, hC, hst⟩ := C
  obtain ⟨σ, kept, nxt, cnt, tx, len, pos, pp, lc, on, ov, saved, bef, thr, t9, l9, x9, y9, d9, hs, out, hw, hI, hv, ht, hlen, ob1, ob2⟩ := hw
  have hw : wS D A (wX cy a σ kept nxt cnt (tI tx) len pos (nI pp) (nI lc) (nO on) (nO ov) ++ ((o, .inl (cJ, 1, .inr (.inl out))) :: wM cy b (mS σ) saved cnt bef (tI tx) len thr t9 (nI l9) (nO x9) (nO y9) d9 hs)) s H locs := hw
  refine lv_aload_n hx hb dL_law_300 rfl (lv_at hl 1 rfl) ?_
  refine lv_aload_n hx hb dL_law_301 rfl (lv_at hl 0 rfl) ?_
  refine lv_iload hx hb dL_law_302 (lv_at hl 4 rfl) ?_
  refine lv_iconst (v := nI 1) hx hb dL_law_304 rfl ?_
  refine q_addN hx hb dL_law_305 ?_
  refine va_sld hx hb hX hbl hbA hw.2.2 (vp_in_nI (show i + 1 < L by omega) (by omega)) dL_law_306 ?_
  refine lv_aload_n hx hb dL_law_307 rfl (lv_at hl 3 rfl) ?_
  refine q_lS (As := [.ref (a 0), .int (xs (nI (i + 1)).toNatClampNeg), .ref o]) (rest := []) ⟨hx, hb, hml, hown, hts⟩ (c_L_fail hst D cy cJ A a σ kept nxt cnt (tI tx) len pos (nI pp) (nI lc) (nO on) (nO ov) (wM cy b (mS σ) saved cnt bef (tI tx) len thr t9 (nI l9) (nO x9) (nO y9) d9 hs) o out (xs (nI (i + 1)).toNatClampNeg) hI.1 hI.2.1) (vx_cwSW 3 hts gL_law_L_fail rfl rfl rfl hd_L_fail ⟨Nat.le_of_ble_eq_true rfl, Nat.le_of_ble_eq_true rfl⟩) hK hJ hC hA hN hw rfl hl.1 rfl (Nat.le_of_ble_eq_true rfl) ⟨show n1 + 1 ≤ 601024 by omega, show n2 + 6 ≤ 7293034 by omega⟩ dL_law_308 (fun H locs v8 w8 hp hw => ?_)
  obtain ⟨rfl, hcase⟩ := hp
  refine q_stk (show _ = ([.int (nI (cFl σ (xs (nI (i + 1)).toNatClampNeg)))] : List Value) from rfl) ?_
  refine lv_istore (lv' := [(5, .int (nI (cFl σ (xs (nI (i + 1)).toNatClampNeg)))), (0, .ref bs), (1, .ref (a 0)), (2, .ref (b 0)), (3, .ref o), (4, .int (nI i))]) hx hb dL_law_311 hl (by decide) rfl (fun ls hl => ?_)
  refine lv_aload_n hx hb dL_law_313 rfl (lv_at hl 3 rfl) ?_
  refine lv_aload_n hx hb dL_law_314 rfl (lv_at hl 1 rfl) ?_
  refine lv_iload hx hb dL_law_315 (lv_at hl 5 rfl) ?_
  refine lv_iconst (v := nI 1) hx hb dL_law_317 rfl ?_
  refine q_addN hx hb dL_law_318 ?_
  refine va_sld hx hb hX hbl hbA hw.2.2 (vp_in_nI (show i + 1 < L by omega) (by omega)) dL_law_319 ?_
  rcases hcase with ⟨h0, rfl⟩ | ⟨h0, rfl⟩
  · skip
    have hw := pmA hw
    refine q_wV0 (As := [.int (xs (nI (i + 1)).toNatClampNeg)]) (rest := []) (st1 := [.int (if cFl σ (xs (nI (i + 1)).toNatClampNeg) = 0 then nI (cl (failS σ (ix (xs (nI (i + 1)).toNatClampNeg)))) else 0)]) ⟨hx, hb, hml, hown, hts⟩ (c_X7_fail D cy A b σ saved cnt bef (tI tx) len thr t9 (nI l9) (nO x9) (nO y9) d9 hs (wX cy a (failS σ (ix (xs (nI (i + 1)).toNatClampNeg))) (cpK kept σ (nxt * 86) 86) ((nxt + 1) % 6) (min (cnt + 1) 6) (tI tx) len pos (nI pp) (nI lc) (nO on) (nO ov) ++ [(o, .inl (cJ, 1, .inr (.inl (vp_updL out 0 (nI (cl (failS σ (ix (xs (nI (i + 1)).toNatClampNeg))))).toInt64))))]) (xs (nI (i + 1)).toNatClampNeg) hI.2.1 hv) (cwV 1 hts gL_law_X7_fail rfl rfl rfl hd_X7_fail ⟨Nat.le_of_ble_eq_true rfl, Nat.le_of_ble_eq_true rfl⟩) hK hA hw 0 rfl rfl rfl hl.1 rfl rfl (Nat.le_of_ble_eq_true rfl) ⟨show n1 + 1 + 0 ≤ 601024 by omega, show n2 + 6 + 0 ≤ 7293034 by omega⟩ dL_law_320 (fun H locs hw => ?_)
    rw [if_pos h0] at hw
    rw [if_pos h0] at hw
    rw [if_pos h0] at hw
    refine q_top (show (if cFl σ (xs (nI (i + 1)).toNatClampNeg) = 0 then nI (cl (failS σ (ix (xs (nI (i + 1)).toNatClampNeg)))) else 0) = nI (cl (failS σ (ix (xs (nI (i + 1)).toNatClampNeg)))) from by first | (rw [if_pos h0]; done) | (rw [if_pos h0]; rfl)) ?_
    refine lv_istore (lv' := [(6, .int (nI (cl (failS σ (ix (xs (nI (i + 1)).toNatClampNeg)))))), (5, .int (nI (cFl σ (xs (nI (i + 1)).toNatClampNeg)))), (0, .ref bs), (1, .ref (a 0)), (2, .ref (b 0)), (3, .ref o), (4, .int (nI i))]) hx hb dL_law_323 hl (by decide) rfl (fun ls hl => ?_)
    refine lv_aload_n hx hb dL_law_325 rfl (lv_at hl 4 rfl) ?_
    refine q_cV (As := []) (rest := []) ⟨hx, hb, hml, hown, hts⟩ (c_X7_thrown D cy b (failS σ (ix (xs (nI (i + 1)).toNatClampNeg))) (svS saved cnt (mS σ)) (min (cnt + 1) 6) bef (tI tx) len (cFl σ (xs (nI (i + 1)).toNatClampNeg)) t9 (nI l9) (nO x9) (nO y9) d9 hs (wX cy a (failS σ (ix (xs (nI (i + 1)).toNatClampNeg))) (cpK kept σ (nxt * 86) 86) ((nxt + 1) % 6) (min (cnt + 1) 6) (tI tx) len pos (nI pp) (nI lc) (nO on) (nO ov) ++ [(o, .inl (cJ, 1, .inr (.inl (vp_updL out 0 (nI (cl (failS σ (ix (xs (nI (i + 1)).toNatClampNeg))))).toInt64))))])) (cwV 0 hts gL_law_X7_thrown rfl rfl rfl hd_X7_thrown ⟨Nat.le_of_ble_eq_true rfl, Nat.le_of_ble_eq_true rfl⟩) hK hw.1 0 rfl rfl rfl hl.1 rfl (Nat.le_of_ble_eq_true rfl) ⟨show n1 + 1 + 0 ≤ 601024 by omega, show n2 + 6 + 0 ≤ 7293034 by omega⟩ dL_law_326 ?_
    have hw := pmB hw
    refine lv_iload hx hb dL_law_329 (lv_at hl 1 rfl) ?_
    refine lv_icmp_eq (tgt := 336) hx hb dL_law_331 (by decide) (fun _ => ?_) (fun h => absurd rfl h)
    refine lv_iload hx hb dL_law_336 (lv_at hl 1 rfl) ?_
    refine lv_if_ne (tgt := 353) hx hb dL_law_338 (by decide) (fun h => absurd (by rw [h0]; rfl) h) (fun _ => ?_)
    refine lv_aload_n hx hb dL_law_341 rfl (lv_at hl 5 rfl) ?_
    refine lv_iconst (v := nI 0) hx hb dL_law_342 rfl ?_
    refine va_lald hx hb hJ hw.1 18 0 rfl rfl (vp_in_nI (by decide) (by decide)) dL_law_343 ?_
    refine lv_iload hx hb dL_law_344 (lv_at hl 0 rfl) ?_
    refine lv_i2l hx hb dL_law_346 rfl ?_
    refine q_stk (show _ = ([.long (nI (cl (failS σ (ix (xs (nI (i + 1)).toNatClampNeg))))).toInt64, .long (nI (cl (failS σ (ix (xs (nI (i + 1)).toNatClampNeg))))).toInt64] : List Value) from by rw [nI_clamp (show 0 < 2 ^ 31 by decide)]; rfl) ?_
    refine q_lcmp0 hx hb dL_law_347 ?_
    refine q_ifeqN (a := 0) (tgt := 353) hx hb dL_law_348 (by decide) (by decide) (fun _ => ?_) (fun h => absurd h (by decide))
    refine lv_goto (tgt := 1528) hx hb dL_law_353 (by decide) ?_
    exact k _ _ _ ⟨failS σ (ix (xs (nI (i + 1)).toNatClampNeg)), cpK kept σ (nxt * 86) 86, (nxt + 1) % 6, min (cnt + 1) 6, tx, len, pos, pp, lc, on, ov, svS saved cnt (mS σ), bef, cFl σ (xs (nI (i + 1)).toNatClampNeg), t9, l9, x9, y9, d9, hs, vp_updL out 0 (nI (cl (failS σ (ix (xs (nI (i + 1)).toNatClampNeg))))).toInt64, hw, hI.push hv, Val_cFl hv h0, ht, hlen, ob1, ob2⟩ (lv_sub hl [2, 3, 4, 5, 6] rfl)
  · skip
    have hw := pmA hw
    refine q_wV0 (As := [.int (xs (nI (i + 1)).toNatClampNeg)]) (rest := []) (st1 := [.int (if cFl σ (xs (nI (i + 1)).toNatClampNeg) = 0 then nI (cl (failS σ (ix (xs (nI (i + 1)).toNatClampNeg)))) else 0)]) ⟨hx, hb, hml, hown, hts⟩ (c_X7_fail D cy A b σ saved cnt bef (tI tx) len thr t9 (nI l9) (nO x9) (nO y9) d9 hs (wX cy a σ kept nxt cnt (tI tx) len pos (nI pp) (nI lc) (nO on) (nO ov) ++ [(o, .inl (cJ, 1, .inr (.inl out)))]) (xs (nI (i + 1)).toNatClampNeg) hI.2.1 hv) (cwV 1 hts gL_law_X7_fail rfl rfl rfl hd_X7_fail ⟨Nat.le_of_ble_eq_true rfl, Nat.le_of_ble_eq_true rfl⟩) hK hA hw 0 rfl rfl rfl hl.1 rfl rfl (Nat.le_of_ble_eq_true rfl) ⟨show n1 + 1 + 0 ≤ 601024 by omega, show n2 + 6 + 0 ≤ 7293034 by omega⟩ dL_law_320 (fun H locs hw => ?_)
    rw [if_neg h0] at hw
    rw [if_neg h0] at hw
    rw [if_neg h0] at hw
    refine q_top (show (if cFl σ (xs (nI (i + 1)).toNatClampNeg) = 0 then nI (cl (failS σ (ix (xs (nI (i + 1)).toNatClampNeg)))) else 0) = nI 0 from by first | (rw [if_neg h0]; done) | (rw [if_neg h0]; rfl)) ?_
    refine lv_istore (lv' := [(6, .int (nI 0)), (5, .int (nI (cFl σ (xs (nI (i + 1)).toNatClampNeg)))), (0, .ref bs), (1, .ref (a 0)), (2, .ref (b 0)), (3, .ref o), (4, .int (nI i))]) hx hb dL_law_323 hl (by decide) rfl (fun ls hl => ?_)
    refine lv_aload_n hx hb dL_law_325 rfl (lv_at hl 4 rfl) ?_
    refine q_cV (As := []) (rest := []) ⟨hx, hb, hml, hown, hts⟩ (c_X7_thrown D cy b σ saved cnt bef (tI tx) len (cFl σ (xs (nI (i + 1)).toNatClampNeg)) t9 (nI l9) (nO x9) (nO y9) d9 hs (wX cy a σ kept nxt cnt (tI tx) len pos (nI pp) (nI lc) (nO on) (nO ov) ++ [(o, .inl (cJ, 1, .inr (.inl out)))])) (cwV 0 hts gL_law_X7_thrown rfl rfl rfl hd_X7_thrown ⟨Nat.le_of_ble_eq_true rfl, Nat.le_of_ble_eq_true rfl⟩) hK hw.1 0 rfl rfl rfl hl.1 rfl (Nat.le_of_ble_eq_true rfl) ⟨show n1 + 1 + 0 ≤ 601024 by omega, show n2 + 6 + 0 ≤ 7293034 by omega⟩ dL_law_326 ?_
    have hw := pmB hw
    refine lv_iload hx hb dL_law_329 (lv_at hl 1 rfl) ?_
    refine lv_icmp_eq (tgt := 336) hx hb dL_law_331 (by decide) (fun _ => ?_) (fun h => absurd rfl h)
    refine lv_iload hx hb dL_law_336 (lv_at hl 1 rfl) ?_
    refine lv_if_ne (tgt := 353) hx hb dL_law_338 (by decide) (fun _ => ?_) (fun h => absurd h (code_ne h0 (by have h9 : cFl σ (xs (nI (i + 1)).toNatClampNeg) ≤ 3 := Nat.le_trans (cFl_le _ _) (by decide); omega)))
    refine lv_goto (tgt := 1528) hx hb dL_law_353 (by decide) ?_
    exact k _ _ _ ⟨σ, kept, nxt, cnt, tx, len, pos, pp, lc, on, ov, saved, bef, cFl σ (xs (nI (i + 1)).toNatClampNeg), t9, l9, x9, y9, d9, hs, out, hw, hI, hv, ht, hlen, ob1, ob2⟩ (lv_sub hl [2, 3, 4, 5, 6] rfl)
set_option maxHeartbeats 1000000 in
set_option maxRecDepth 100000 in
theorem la_beginMending {p : Program} {l : Launch} {e : Env} {s : State} {m : MethodId} {args : Array Value} {below : List Frame} {meth : Method} {c : Code} {H : Heap} {locs : List Loc} {n1 n2 : Nat} {Q : State → Prop} {ls : Array Slot} {D : va_G} {cy cJ : ClassId} {A : Nat → Prop} {a b : Nat → Nat} {o bs L i : Nat} {xs : Nat → Int32} (C : lC p l s args m meth c D cy cJ A bs L xs) (hw : lawS D cy cJ A a b o s H locs) (hl : lv_has ls 9 [(0, .ref bs), (1, .ref (a 0)), (2, .ref (b 0)), (3, .ref o), (4, .int (nI i))]) (hi : i + 4 ≤ L) (hL : L ≤ 2048) (hn1 : n1 + 1 ≤ 601024) (hn2 : n2 + 6 ≤ 7293034)
    (k : ∀ (H : Heap) (locs : List Loc) (ls : Array Slot), lawS D cy cJ A a b o s H locs → lv_has ls 9 [(0, .ref bs), (1, .ref (a 0)), (2, .ref (b 0)), (3, .ref o), (4, .int (nI i))] → W p l e room_1 s m args below meth c H locs (n1 + 1) (n2 + 6) Q (F0 m 1528 ls [])) : W p l e room_1 s m args below meth c H locs n1 n2 Q (F0 m 356 ls []) := by
  obtain ⟨hx, hb, hml, hown, hts, hX, hbl, hbA, hK, hJ, hA, hN, hC, hst⟩ := C
  obtain ⟨σ, kept, nxt, cnt, tx, len, pos, pp, lc, on, ov, saved, bef, thr, t9, l9, x9, y9, d9, hs, out, hw, hI, hv, ht, hlen, ob1, ob2⟩ := hw
  have hw : wS D A (wX cy a σ kept nxt cnt (tI tx) len pos (nI pp) (nI lc) (nO on) (nO ov) ++ ((o, .inl (cJ, 1, .inr (.inl out))) :: wM cy b (mS σ) saved cnt bef (tI tx) len thr t9 (nI l9) (nO x9) (nO y9) d9 hs)) s H locs := hw
  refine lv_aload_n hx hb dL_law_356 rfl (lv_at hl 1 rfl) ?_
  refine lv_aload_n hx hb dL_law_357 rfl (lv_at hl 0 rfl) ?_
  refine lv_iload hx hb dL_law_358 (lv_at hl 4 rfl) ?_
  refine lv_iconst (v := nI 1) hx hb dL_law_360 rfl ?_
  refine q_addN hx hb dL_law_361 ?_
  refine va_sld hx hb hX hbl hbA hw.2.2 (vp_in_nI (show i + 1 < L by omega) (by omega)) dL_law_362 ?_
  refine lv_aload_n hx hb dL_law_363 rfl (lv_at hl 3 rfl) ?_
  refine q_lS (As := [.ref (a 0), .int (xs (nI (i + 1)).toNatClampNeg), .ref o]) (rest := []) ⟨hx, hb, hml, hown, hts⟩ (c_L_beginMending hst D cy cJ A a σ kept nxt cnt (tI tx) len pos (nI pp) (nI lc) (nO on) (nO ov) (wM cy b (mS σ) saved cnt bef (tI tx) len thr t9 (nI l9) (nO x9) (nO y9) d9 hs) o out (xs (nI (i + 1)).toNatClampNeg) hv hI.1 hI.2.1) (vx_cwSW 3 hts gL_law_L_beginMending rfl rfl rfl hd_L_beginMending ⟨Nat.le_of_ble_eq_true rfl, Nat.le_of_ble_eq_true rfl⟩) hK hJ hC hA hN hw rfl hl.1 rfl (Nat.le_of_ble_eq_true rfl) ⟨show n1 + 1 ≤ 601024 by omega, show n2 + 6 ≤ 7293034 by omega⟩ dL_law_364 (fun H locs v8 w8 hp hw => ?_)
  obtain ⟨rfl, hcase⟩ := hp
  refine q_stk (show _ = ([.int (nI (cBg σ (xs (nI (i + 1)).toNatClampNeg)))] : List Value) from rfl) ?_
  refine lv_istore (lv' := [(5, .int (nI (cBg σ (xs (nI (i + 1)).toNatClampNeg)))), (0, .ref bs), (1, .ref (a 0)), (2, .ref (b 0)), (3, .ref o), (4, .int (nI i))]) hx hb dL_law_367 hl (by decide) rfl (fun ls hl => ?_)
  refine lv_aload_n hx hb dL_law_369 rfl (lv_at hl 3 rfl) ?_
  refine lv_aload_n hx hb dL_law_370 rfl (lv_at hl 1 rfl) ?_
  refine lv_iload hx hb dL_law_371 (lv_at hl 5 rfl) ?_
  refine lv_iconst (v := nI 1) hx hb dL_law_373 rfl ?_
  refine q_addN hx hb dL_law_374 ?_
  refine va_sld hx hb hX hbl hbA hw.2.2 (vp_in_nI (show i + 1 < L by omega) (by omega)) dL_law_375 ?_
  rcases hcase with ⟨h0, rfl⟩ | ⟨h0, rfl⟩
  · skip
    have hw := pmA hw
    refine q_wV0 (As := [.int (xs (nI (i + 1)).toNatClampNeg)]) (rest := []) (st1 := [.int (if cBg σ (xs (nI (i + 1)).toNatClampNeg) = 0 then begS σ (ix (xs (nI (i + 1)).toNatClampNeg)) 84 else 0)]) ⟨hx, hb, hml, hown, hts⟩ (c_X7_beginMending D cy A b σ saved cnt bef (tI tx) len thr t9 (nI l9) (nO x9) (nO y9) d9 hs (wX cy a (begS σ (ix (xs (nI (i + 1)).toNatClampNeg))) (cpK kept σ (nxt * 86) 86) ((nxt + 1) % 6) (min (cnt + 1) 6) (tI tx) len pos (nI pp) (nI lc) (nO on) (nO ov) ++ [(o, .inl (cJ, 1, .inr (.inl (vp_updL out 0 (begS σ (ix (xs (nI (i + 1)).toNatClampNeg)) 84).toInt64))))]) (xs (nI (i + 1)).toNatClampNeg) hI.2.1) (cwV 1 hts gL_law_X7_beginMending rfl rfl rfl hd_X7_beginMending ⟨Nat.le_of_ble_eq_true rfl, Nat.le_of_ble_eq_true rfl⟩) hK hA hw 0 rfl rfl rfl hl.1 rfl rfl (Nat.le_of_ble_eq_true rfl) ⟨show n1 + 1 + 0 ≤ 601024 by omega, show n2 + 6 + 0 ≤ 7293034 by omega⟩ dL_law_376 (fun H locs hw => ?_)
    rw [if_pos h0] at hw
    rw [if_pos h0] at hw
    rw [if_pos h0] at hw
    refine q_top (show (if cBg σ (xs (nI (i + 1)).toNatClampNeg) = 0 then begS σ (ix (xs (nI (i + 1)).toNatClampNeg)) 84 else 0) = begS σ (ix (xs (nI (i + 1)).toNatClampNeg)) 84 from by first | (rw [if_pos h0]; done) | (rw [if_pos h0]; rfl)) ?_
    refine lv_istore (lv' := [(6, .int (begS σ (ix (xs (nI (i + 1)).toNatClampNeg)) 84)), (5, .int (nI (cBg σ (xs (nI (i + 1)).toNatClampNeg)))), (0, .ref bs), (1, .ref (a 0)), (2, .ref (b 0)), (3, .ref o), (4, .int (nI i))]) hx hb dL_law_379 hl (by decide) rfl (fun ls hl => ?_)
    refine lv_aload_n hx hb dL_law_381 rfl (lv_at hl 4 rfl) ?_
    refine q_cV (As := []) (rest := []) ⟨hx, hb, hml, hown, hts⟩ (c_X7_thrown D cy b (begS σ (ix (xs (nI (i + 1)).toNatClampNeg))) (svS saved cnt (mS σ)) (min (cnt + 1) 6) bef (tI tx) len (cBg σ (xs (nI (i + 1)).toNatClampNeg)) t9 (nI l9) (nO x9) (nO y9) d9 hs (wX cy a (begS σ (ix (xs (nI (i + 1)).toNatClampNeg))) (cpK kept σ (nxt * 86) 86) ((nxt + 1) % 6) (min (cnt + 1) 6) (tI tx) len pos (nI pp) (nI lc) (nO on) (nO ov) ++ [(o, .inl (cJ, 1, .inr (.inl (vp_updL out 0 (begS σ (ix (xs (nI (i + 1)).toNatClampNeg)) 84).toInt64))))])) (cwV 0 hts gL_law_X7_thrown rfl rfl rfl hd_X7_thrown ⟨Nat.le_of_ble_eq_true rfl, Nat.le_of_ble_eq_true rfl⟩) hK hw.1 0 rfl rfl rfl hl.1 rfl (Nat.le_of_ble_eq_true rfl) ⟨show n1 + 1 + 0 ≤ 601024 by omega, show n2 + 6 + 0 ≤ 7293034 by omega⟩ dL_law_382 ?_
    have hw := pmB hw
    refine lv_iload hx hb dL_law_385 (lv_at hl 1 rfl) ?_
    refine lv_icmp_eq (tgt := 392) hx hb dL_law_387 (by decide) (fun _ => ?_) (fun h => absurd rfl h)
    refine lv_iload hx hb dL_law_392 (lv_at hl 1 rfl) ?_
    refine lv_if_ne (tgt := 409) hx hb dL_law_394 (by decide) (fun h => absurd (by rw [h0]; rfl) h) (fun _ => ?_)
    refine lv_aload_n hx hb dL_law_397 rfl (lv_at hl 5 rfl) ?_
    refine lv_iconst (v := nI 0) hx hb dL_law_398 rfl ?_
    refine va_lald hx hb hJ hw.1 18 0 rfl rfl (vp_in_nI (by decide) (by decide)) dL_law_399 ?_
    refine lv_iload hx hb dL_law_400 (lv_at hl 0 rfl) ?_
    refine lv_i2l hx hb dL_law_402 rfl ?_
    refine q_stk (show _ = ([.long (begS σ (ix (xs (nI (i + 1)).toNatClampNeg)) 84).toInt64, .long (begS σ (ix (xs (nI (i + 1)).toNatClampNeg)) 84).toInt64] : List Value) from by rw [nI_clamp (show 0 < 2 ^ 31 by decide)]; rfl) ?_
    refine q_lcmp0 hx hb dL_law_403 ?_
    refine q_ifeqN (a := 0) (tgt := 409) hx hb dL_law_404 (by decide) (by decide) (fun _ => ?_) (fun h => absurd h (by decide))
    refine lv_goto (tgt := 1528) hx hb dL_law_409 (by decide) ?_
    exact k _ _ _ ⟨begS σ (ix (xs (nI (i + 1)).toNatClampNeg)), cpK kept σ (nxt * 86) 86, (nxt + 1) % 6, min (cnt + 1) 6, tx, len, pos, pp, lc, on, ov, svS saved cnt (mS σ), bef, cBg σ (xs (nI (i + 1)).toNatClampNeg), t9, l9, x9, y9, d9, hs, vp_updL out 0 (begS σ (ix (xs (nI (i + 1)).toNatClampNeg)) 84).toInt64, hw, hI.push hv, Val_cBg hv h0, ht, hlen, ob1, ob2⟩ (lv_sub hl [2, 3, 4, 5, 6] rfl)
  · skip
    have hw := pmA hw
    refine q_wV0 (As := [.int (xs (nI (i + 1)).toNatClampNeg)]) (rest := []) (st1 := [.int (if cBg σ (xs (nI (i + 1)).toNatClampNeg) = 0 then begS σ (ix (xs (nI (i + 1)).toNatClampNeg)) 84 else 0)]) ⟨hx, hb, hml, hown, hts⟩ (c_X7_beginMending D cy A b σ saved cnt bef (tI tx) len thr t9 (nI l9) (nO x9) (nO y9) d9 hs (wX cy a σ kept nxt cnt (tI tx) len pos (nI pp) (nI lc) (nO on) (nO ov) ++ [(o, .inl (cJ, 1, .inr (.inl out)))]) (xs (nI (i + 1)).toNatClampNeg) hI.2.1) (cwV 1 hts gL_law_X7_beginMending rfl rfl rfl hd_X7_beginMending ⟨Nat.le_of_ble_eq_true rfl, Nat.le_of_ble_eq_true rfl⟩) hK hA hw 0 rfl rfl rfl hl.1 rfl rfl (Nat.le_of_ble_eq_true rfl) ⟨show n1 + 1 + 0 ≤ 601024 by omega, show n2 + 6 + 0 ≤ 7293034 by omega⟩ dL_law_376 (fun H locs hw => ?_)
    rw [if_neg h0] at hw
    rw [if_neg h0] at hw
    rw [if_neg h0] at hw
    refine q_top (show (if cBg σ (xs (nI (i + 1)).toNatClampNeg) = 0 then begS σ (ix (xs (nI (i + 1)).toNatClampNeg)) 84 else 0) = nI 0 from by first | (rw [if_neg h0]; done) | (rw [if_neg h0]; rfl)) ?_
    refine lv_istore (lv' := [(6, .int (nI 0)), (5, .int (nI (cBg σ (xs (nI (i + 1)).toNatClampNeg)))), (0, .ref bs), (1, .ref (a 0)), (2, .ref (b 0)), (3, .ref o), (4, .int (nI i))]) hx hb dL_law_379 hl (by decide) rfl (fun ls hl => ?_)
    refine lv_aload_n hx hb dL_law_381 rfl (lv_at hl 4 rfl) ?_
    refine q_cV (As := []) (rest := []) ⟨hx, hb, hml, hown, hts⟩ (c_X7_thrown D cy b σ saved cnt bef (tI tx) len (cBg σ (xs (nI (i + 1)).toNatClampNeg)) t9 (nI l9) (nO x9) (nO y9) d9 hs (wX cy a σ kept nxt cnt (tI tx) len pos (nI pp) (nI lc) (nO on) (nO ov) ++ [(o, .inl (cJ, 1, .inr (.inl out)))])) (cwV 0 hts gL_law_X7_thrown rfl rfl rfl hd_X7_thrown ⟨Nat.le_of_ble_eq_true rfl, Nat.le_of_ble_eq_true rfl⟩) hK hw.1 0 rfl rfl rfl hl.1 rfl (Nat.le_of_ble_eq_true rfl) ⟨show n1 + 1 + 0 ≤ 601024 by omega, show n2 + 6 + 0 ≤ 7293034 by omega⟩ dL_law_382 ?_
    have hw := pmB hw
    refine lv_iload hx hb dL_law_385 (lv_at hl 1 rfl) ?_
    refine lv_icmp_eq (tgt := 392) hx hb dL_law_387 (by decide) (fun _ => ?_) (fun h => absurd rfl h)
    refine lv_iload hx hb dL_law_392 (lv_at hl 1 rfl) ?_
    refine lv_if_ne (tgt := 409) hx hb dL_law_394 (by decide) (fun _ => ?_) (fun h => absurd h (code_ne h0 (by have h9 : cBg σ (xs (nI (i + 1)).toNatClampNeg) ≤ 3 := Nat.le_trans (cBg_le _ _) (by decide); omega)))
    refine lv_goto (tgt := 1528) hx hb dL_law_409 (by decide) ?_
    exact k _ _ _ ⟨σ, kept, nxt, cnt, tx, len, pos, pp, lc, on, ov, saved, bef, cBg σ (xs (nI (i + 1)).toNatClampNeg), t9, l9, x9, y9, d9, hs, out, hw, hI, hv, ht, hlen, ob1, ob2⟩ (lv_sub hl [2, 3, 4, 5, 6] rfl)
set_option maxHeartbeats 1000000 in
set_option maxRecDepth 100000 in
theorem la_mend {p : Program} {l : Launch} {e : Env} {s : State} {m : MethodId} {args : Array Value} {below : List Frame} {meth : Method} {c : Code} {H : Heap} {locs : List Loc} {n1 n2 : Nat} {Q : State → Prop} {ls : Array Slot} {D : va_G} {cy cJ : ClassId} {A : Nat → Prop} {a b : Nat → Nat} {o bs L i : Nat} {xs : Nat → Int32} (C : lC p l s args m meth c D cy cJ A bs L xs) (hw : lawS D cy cJ A a b o s H locs) (hl : lv_has ls 9 [(0, .ref bs), (1, .ref (a 0)), (2, .ref (b 0)), (3, .ref o), (4, .int (nI i))]) (hi : i + 4 ≤ L) (hL : L ≤ 2048) (hn1 : n1 + 1 ≤ 601024) (hn2 : n2 + 6 ≤ 7293034)
    (k : ∀ (H : Heap) (locs : List Loc) (ls : Array Slot), lawS D cy cJ A a b o s H locs → lv_has ls 9 [(0, .ref bs), (1, .ref (a 0)), (2, .ref (b 0)), (3, .ref o), (4, .int (nI i))] → W p l e room_1 s m args below meth c H locs (n1 + 1) (n2 + 6) Q (F0 m 1528 ls [])) : W p l e room_1 s m args below meth c H locs n1 n2 Q (F0 m 412 ls []) := by
  obtain ⟨hx, hb, hml, hown, hts, hX, hbl, hbA, hK, hJ, hA, hN, hC, hst⟩ := C
  obtain ⟨σ, kept, nxt, cnt, tx, len, pos, pp, lc, on, ov, saved, bef, thr, t9, l9, x9, y9, d9, hs, out, hw, hI, hv, ht, hlen, ob1, ob2⟩ := hw
  have hw : wS D A (wX cy a σ kept nxt cnt (tI tx) len pos (nI pp) (nI lc) (nO on) (nO ov) ++ ((o, .inl (cJ, 1, .inr (.inl out))) :: wM cy b (mS σ) saved cnt bef (tI tx) len thr t9 (nI l9) (nO x9) (nO y9) d9 hs)) s H locs := hw
  refine lv_aload_n hx hb dL_law_412 rfl (lv_at hl 1 rfl) ?_
  refine lv_aload_n hx hb dL_law_413 rfl (lv_at hl 0 rfl) ?_
  refine lv_iload hx hb dL_law_414 (lv_at hl 4 rfl) ?_
  refine lv_iconst (v := nI 1) hx hb dL_law_416 rfl ?_
  refine q_addN hx hb dL_law_417 ?_
  refine va_sld hx hb hX hbl hbA hw.2.2 (vp_in_nI (show i + 1 < L by omega) (by omega)) dL_law_418 ?_
  refine lv_aload_n hx hb dL_law_419 rfl (lv_at hl 3 rfl) ?_
  refine q_lS (As := [.ref (a 0), .int (xs (nI (i + 1)).toNatClampNeg), .ref o]) (rest := []) ⟨hx, hb, hml, hown, hts⟩ (c_L_mend hst D cy cJ A a σ kept nxt cnt (tI tx) len pos (nI pp) (nI lc) (nO on) (nO ov) (wM cy b (mS σ) saved cnt bef (tI tx) len thr t9 (nI l9) (nO x9) (nO y9) d9 hs) o out (xs (nI (i + 1)).toNatClampNeg) hv hI.1 hI.2.1) (vx_cwSW 3 hts gL_law_L_mend rfl rfl rfl hd_L_mend ⟨Nat.le_of_ble_eq_true rfl, Nat.le_of_ble_eq_true rfl⟩) hK hJ hC hA hN hw rfl hl.1 rfl (Nat.le_of_ble_eq_true rfl) ⟨show n1 + 1 ≤ 601024 by omega, show n2 + 6 ≤ 7293034 by omega⟩ dL_law_420 (fun H locs v8 w8 hp hw => ?_)
  obtain ⟨rfl, hcase⟩ := hp
  refine q_stk (show _ = ([.int (nI (cMe (xs (nI (i + 1)).toNatClampNeg)))] : List Value) from rfl) ?_
  refine lv_istore (lv' := [(5, .int (nI (cMe (xs (nI (i + 1)).toNatClampNeg)))), (0, .ref bs), (1, .ref (a 0)), (2, .ref (b 0)), (3, .ref o), (4, .int (nI i))]) hx hb dL_law_423 hl (by decide) rfl (fun ls hl => ?_)
  refine lv_aload_n hx hb dL_law_425 rfl (lv_at hl 3 rfl) ?_
  refine lv_aload_n hx hb dL_law_426 rfl (lv_at hl 1 rfl) ?_
  refine lv_iload hx hb dL_law_427 (lv_at hl 5 rfl) ?_
  refine lv_iconst (v := nI 1) hx hb dL_law_429 rfl ?_
  refine q_addN hx hb dL_law_430 ?_
  refine va_sld hx hb hX hbl hbA hw.2.2 (vp_in_nI (show i + 1 < L by omega) (by omega)) dL_law_431 ?_
  rcases hcase with ⟨h0, rfl⟩ | ⟨h0, rfl⟩
  · skip
    have hw := pmA hw
    refine q_wV0 (As := [.int (xs (nI (i + 1)).toNatClampNeg)]) (rest := []) (st1 := [.int (nI (if cMe (xs (nI (i + 1)).toNatClampNeg) = 0 then (mnS (ix (xs (nI (i + 1)).toNatClampNeg)) σ).2 else 0))]) ⟨hx, hb, hml, hown, hts⟩ (c_X7_mend D cy A b σ saved cnt bef (tI tx) len thr t9 (nI l9) (nO x9) (nO y9) d9 hs (wX cy a ((mnS (ix (xs (nI (i + 1)).toNatClampNeg)) σ).1) (cpK kept σ (nxt * 86) 86) ((nxt + 1) % 6) (min (cnt + 1) 6) (tI tx) len pos (nI pp) (nI lc) (nO on) (nO ov) ++ [(o, .inl (cJ, 1, .inr (.inl (vp_updL out 0 (nI (mnS (ix (xs (nI (i + 1)).toNatClampNeg)) σ).2).toInt64))))]) (xs (nI (i + 1)).toNatClampNeg) hv hI.2.1) (cwV 1 hts gL_law_X7_mend rfl rfl rfl hd_X7_mend ⟨Nat.le_of_ble_eq_true rfl, Nat.le_of_ble_eq_true rfl⟩) hK hA hw 0 rfl rfl rfl hl.1 rfl rfl (Nat.le_of_ble_eq_true rfl) ⟨show n1 + 1 + 0 ≤ 601024 by omega, show n2 + 6 + 0 ≤ 7293034 by omega⟩ dL_law_432 (fun H locs hw => ?_)
    rw [if_pos h0] at hw
    rw [if_pos h0] at hw
    rw [if_pos h0] at hw
    refine q_top (show (nI (if cMe (xs (nI (i + 1)).toNatClampNeg) = 0 then (mnS (ix (xs (nI (i + 1)).toNatClampNeg)) σ).2 else 0)) = nI (mnS (ix (xs (nI (i + 1)).toNatClampNeg)) σ).2 from by first | (rw [if_pos h0]; done) | (rw [if_pos h0]; rfl)) ?_
    refine lv_istore (lv' := [(6, .int (nI (mnS (ix (xs (nI (i + 1)).toNatClampNeg)) σ).2)), (5, .int (nI (cMe (xs (nI (i + 1)).toNatClampNeg)))), (0, .ref bs), (1, .ref (a 0)), (2, .ref (b 0)), (3, .ref o), (4, .int (nI i))]) hx hb dL_law_435 hl (by decide) rfl (fun ls hl => ?_)
    refine lv_aload_n hx hb dL_law_437 rfl (lv_at hl 4 rfl) ?_
    refine q_cV (As := []) (rest := []) ⟨hx, hb, hml, hown, hts⟩ (c_X7_thrown D cy b ((mnS (ix (xs (nI (i + 1)).toNatClampNeg)) σ).1) (svS saved cnt (mS σ)) (min (cnt + 1) 6) bef (tI tx) len (cMe (xs (nI (i + 1)).toNatClampNeg)) t9 (nI l9) (nO x9) (nO y9) d9 hs (wX cy a ((mnS (ix (xs (nI (i + 1)).toNatClampNeg)) σ).1) (cpK kept σ (nxt * 86) 86) ((nxt + 1) % 6) (min (cnt + 1) 6) (tI tx) len pos (nI pp) (nI lc) (nO on) (nO ov) ++ [(o, .inl (cJ, 1, .inr (.inl (vp_updL out 0 (nI (mnS (ix (xs (nI (i + 1)).toNatClampNeg)) σ).2).toInt64))))])) (cwV 0 hts gL_law_X7_thrown rfl rfl rfl hd_X7_thrown ⟨Nat.le_of_ble_eq_true rfl, Nat.le_of_ble_eq_true rfl⟩) hK hw.1 0 rfl rfl rfl hl.1 rfl (Nat.le_of_ble_eq_true rfl) ⟨show n1 + 1 + 0 ≤ 601024 by omega, show n2 + 6 + 0 ≤ 7293034 by omega⟩ dL_law_438 ?_
    have hw := pmB hw
    refine lv_iload hx hb dL_law_441 (lv_at hl 1 rfl) ?_
    refine lv_icmp_eq (tgt := 448) hx hb dL_law_443 (by decide) (fun _ => ?_) (fun h => absurd rfl h)
    refine lv_iload hx hb dL_law_448 (lv_at hl 1 rfl) ?_
    refine lv_if_ne (tgt := 465) hx hb dL_law_450 (by decide) (fun h => absurd (by rw [h0]; rfl) h) (fun _ => ?_)
    refine lv_aload_n hx hb dL_law_453 rfl (lv_at hl 5 rfl) ?_
    refine lv_iconst (v := nI 0) hx hb dL_law_454 rfl ?_
    refine va_lald hx hb hJ hw.1 18 0 rfl rfl (vp_in_nI (by decide) (by decide)) dL_law_455 ?_
    refine lv_iload hx hb dL_law_456 (lv_at hl 0 rfl) ?_
    refine lv_i2l hx hb dL_law_458 rfl ?_
    refine q_stk (show _ = ([.long (nI (mnS (ix (xs (nI (i + 1)).toNatClampNeg)) σ).2).toInt64, .long (nI (mnS (ix (xs (nI (i + 1)).toNatClampNeg)) σ).2).toInt64] : List Value) from by rw [nI_clamp (show 0 < 2 ^ 31 by decide)]; rfl) ?_
    refine q_lcmp0 hx hb dL_law_459 ?_
    refine q_ifeqN (a := 0) (tgt := 465) hx hb dL_law_460 (by decide) (by decide) (fun _ => ?_) (fun h => absurd h (by decide))
    refine lv_goto (tgt := 1528) hx hb dL_law_465 (by decide) ?_
    exact k _ _ _ ⟨(mnS (ix (xs (nI (i + 1)).toNatClampNeg)) σ).1, cpK kept σ (nxt * 86) 86, (nxt + 1) % 6, min (cnt + 1) 6, tx, len, pos, pp, lc, on, ov, svS saved cnt (mS σ), bef, cMe (xs (nI (i + 1)).toNatClampNeg), t9, l9, x9, y9, d9, hs, vp_updL out 0 (nI (mnS (ix (xs (nI (i + 1)).toNatClampNeg)) σ).2).toInt64, hw, hI.push hv, Val_mn _ hv, ht, hlen, ob1, ob2⟩ (lv_sub hl [2, 3, 4, 5, 6] rfl)
  · skip
    have hw := pmA hw
    refine q_wV0 (As := [.int (xs (nI (i + 1)).toNatClampNeg)]) (rest := []) (st1 := [.int (nI (if cMe (xs (nI (i + 1)).toNatClampNeg) = 0 then (mnS (ix (xs (nI (i + 1)).toNatClampNeg)) σ).2 else 0))]) ⟨hx, hb, hml, hown, hts⟩ (c_X7_mend D cy A b σ saved cnt bef (tI tx) len thr t9 (nI l9) (nO x9) (nO y9) d9 hs (wX cy a σ kept nxt cnt (tI tx) len pos (nI pp) (nI lc) (nO on) (nO ov) ++ [(o, .inl (cJ, 1, .inr (.inl out)))]) (xs (nI (i + 1)).toNatClampNeg) hv hI.2.1) (cwV 1 hts gL_law_X7_mend rfl rfl rfl hd_X7_mend ⟨Nat.le_of_ble_eq_true rfl, Nat.le_of_ble_eq_true rfl⟩) hK hA hw 0 rfl rfl rfl hl.1 rfl rfl (Nat.le_of_ble_eq_true rfl) ⟨show n1 + 1 + 0 ≤ 601024 by omega, show n2 + 6 + 0 ≤ 7293034 by omega⟩ dL_law_432 (fun H locs hw => ?_)
    rw [if_neg h0] at hw
    rw [if_neg h0] at hw
    rw [if_neg h0] at hw
    refine q_top (show (nI (if cMe (xs (nI (i + 1)).toNatClampNeg) = 0 then (mnS (ix (xs (nI (i + 1)).toNatClampNeg)) σ).2 else 0)) = nI 0 from by first | (rw [if_neg h0]; done) | (rw [if_neg h0]; rfl)) ?_
    refine lv_istore (lv' := [(6, .int (nI 0)), (5, .int (nI (cMe (xs (nI (i + 1)).toNatClampNeg)))), (0, .ref bs), (1, .ref (a 0)), (2, .ref (b 0)), (3, .ref o), (4, .int (nI i))]) hx hb dL_law_435 hl (by decide) rfl (fun ls hl => ?_)
    refine lv_aload_n hx hb dL_law_437 rfl (lv_at hl 4 rfl) ?_
    refine q_cV (As := []) (rest := []) ⟨hx, hb, hml, hown, hts⟩ (c_X7_thrown D cy b σ saved cnt bef (tI tx) len (cMe (xs (nI (i + 1)).toNatClampNeg)) t9 (nI l9) (nO x9) (nO y9) d9 hs (wX cy a σ kept nxt cnt (tI tx) len pos (nI pp) (nI lc) (nO on) (nO ov) ++ [(o, .inl (cJ, 1, .inr (.inl out)))])) (cwV 0 hts gL_law_X7_thrown rfl rfl rfl hd_X7_thrown ⟨Nat.le_of_ble_eq_true rfl, Nat.le_of_ble_eq_true rfl⟩) hK hw.1 0 rfl rfl rfl hl.1 rfl (Nat.le_of_ble_eq_true rfl) ⟨show n1 + 1 + 0 ≤ 601024 by omega, show n2 + 6 + 0 ≤ 7293034 by omega⟩ dL_law_438 ?_
    have hw := pmB hw
    refine lv_iload hx hb dL_law_441 (lv_at hl 1 rfl) ?_
    refine lv_icmp_eq (tgt := 448) hx hb dL_law_443 (by decide) (fun _ => ?_) (fun h => absurd rfl h)
    refine lv_iload hx hb dL_law_448 (lv_at hl 1 rfl) ?_
    refine lv_if_ne (tgt := 465) hx hb dL_law_450 (by decide) (fun _ => ?_) (fun h => absurd h (code_ne h0 (by have h9 : cMe (xs (nI (i + 1)).toNatClampNeg) ≤ 3 := Nat.le_trans (cMe_le _) (by decide); omega)))
    refine lv_goto (tgt := 1528) hx hb dL_law_465 (by decide) ?_
    exact k _ _ _ ⟨σ, kept, nxt, cnt, tx, len, pos, pp, lc, on, ov, saved, bef, cMe (xs (nI (i + 1)).toNatClampNeg), t9, l9, x9, y9, d9, hs, out, hw, hI, hv, ht, hlen, ob1, ob2⟩ (lv_sub hl [2, 3, 4, 5, 6] rfl)
set_option maxHeartbeats 1000000 in
set_option maxRecDepth 100000 in
theorem la_addSpare {p : Program} {l : Launch} {e : Env} {s : State} {m : MethodId} {args : Array Value} {below : List Frame} {meth : Method} {c : Code} {H : Heap} {locs : List Loc} {n1 n2 : Nat} {Q : State → Prop} {ls : Array Slot} {D : va_G} {cy cJ : ClassId} {A : Nat → Prop} {a b : Nat → Nat} {o bs L i : Nat} {xs : Nat → Int32} (C : lC p l s args m meth c D cy cJ A bs L xs) (hw : lawS D cy cJ A a b o s H locs) (hl : lv_has ls 9 [(0, .ref bs), (1, .ref (a 0)), (2, .ref (b 0)), (3, .ref o), (4, .int (nI i))]) (hi : i + 4 ≤ L) (hL : L ≤ 2048) (hn1 : n1 + 1 ≤ 601024) (hn2 : n2 + 6 ≤ 7293034)
    (k : ∀ (H : Heap) (locs : List Loc) (ls : Array Slot), lawS D cy cJ A a b o s H locs → lv_has ls 9 [(0, .ref bs), (1, .ref (a 0)), (2, .ref (b 0)), (3, .ref o), (4, .int (nI i))] → W p l e room_1 s m args below meth c H locs (n1 + 1) (n2 + 6) Q (F0 m 1528 ls [])) : W p l e room_1 s m args below meth c H locs n1 n2 Q (F0 m 468 ls []) := by
  obtain ⟨hx, hb, hml, hown, hts, hX, hbl, hbA, hK, hJ, hA, hN, hC, hst⟩ := C
  obtain ⟨σ, kept, nxt, cnt, tx, len, pos, pp, lc, on, ov, saved, bef, thr, t9, l9, x9, y9, d9, hs, out, hw, hI, hv, ht, hlen, ob1, ob2⟩ := hw
  have hw : wS D A (wX cy a σ kept nxt cnt (tI tx) len pos (nI pp) (nI lc) (nO on) (nO ov) ++ ((o, .inl (cJ, 1, .inr (.inl out))) :: wM cy b (mS σ) saved cnt bef (tI tx) len thr t9 (nI l9) (nO x9) (nO y9) d9 hs)) s H locs := hw
  refine lv_aload_n hx hb dL_law_468 rfl (lv_at hl 1 rfl) ?_
  refine lv_aload_n hx hb dL_law_469 rfl (lv_at hl 3 rfl) ?_
  refine q_lS (As := [.ref (a 0), .ref o]) (rest := []) ⟨hx, hb, hml, hown, hts⟩ (c_L_addSpare hst D cy cJ A a σ kept nxt cnt (tI tx) len pos (nI pp) (nI lc) (nO on) (nO ov) (wM cy b (mS σ) saved cnt bef (tI tx) len thr t9 (nI l9) (nO x9) (nO y9) d9 hs) o out  hv hI.1 hI.2.1) (vx_cwSW 2 hts gL_law_L_addSpare rfl rfl rfl hd_L_addSpare ⟨Nat.le_of_ble_eq_true rfl, Nat.le_of_ble_eq_true rfl⟩) hK hJ hC hA hN hw rfl hl.1 rfl (Nat.le_of_ble_eq_true rfl) ⟨show n1 + 1 ≤ 601024 by omega, show n2 + 6 ≤ 7293034 by omega⟩ dL_law_470 (fun H locs v8 w8 hp hw => ?_)
  obtain ⟨rfl, hcase⟩ := hp
  refine q_stk (show _ = ([.int (nI (cAs σ))] : List Value) from rfl) ?_
  refine lv_istore (lv' := [(5, .int (nI (cAs σ))), (0, .ref bs), (1, .ref (a 0)), (2, .ref (b 0)), (3, .ref o), (4, .int (nI i))]) hx hb dL_law_473 hl (by decide) rfl (fun ls hl => ?_)
  refine lv_aload_n hx hb dL_law_475 rfl (lv_at hl 3 rfl) ?_
  rcases hcase with ⟨h0, rfl⟩ | ⟨h0, rfl⟩
  · skip
    have hw := pmA hw
    refine q_wV0 (As := []) (rest := []) (st1 := [.int (if cAs σ = 0 then σ 84 + 1 else 0)]) ⟨hx, hb, hml, hown, hts⟩ (c_X7_addSpare D cy A b σ saved cnt bef (tI tx) len thr t9 (nI l9) (nO x9) (nO y9) d9 hs (wX cy a (upd σ 84 (σ 84 + 1)) (cpK kept σ (nxt * 86) 86) ((nxt + 1) % 6) (min (cnt + 1) 6) (tI tx) len pos (nI pp) (nI lc) (nO on) (nO ov) ++ [(o, .inl (cJ, 1, .inr (.inl (vp_updL out 0 (σ 84 + 1).toInt64))))])  hI.2.1) (cwV 0 hts gL_law_X7_addSpare rfl rfl rfl hd_X7_addSpare ⟨Nat.le_of_ble_eq_true rfl, Nat.le_of_ble_eq_true rfl⟩) hK hA hw 0 rfl rfl rfl hl.1 rfl rfl (Nat.le_of_ble_eq_true rfl) ⟨show n1 + 1 + 0 ≤ 601024 by omega, show n2 + 6 + 0 ≤ 7293034 by omega⟩ dL_law_476 (fun H locs hw => ?_)
    rw [if_pos h0] at hw
    rw [if_pos h0] at hw
    rw [if_pos h0] at hw
    refine q_top (show (if cAs σ = 0 then σ 84 + 1 else 0) = σ 84 + 1 from by first | (rw [if_pos h0]; done) | (rw [if_pos h0]; rfl)) ?_
    refine lv_istore (lv' := [(6, .int (σ 84 + 1)), (5, .int (nI (cAs σ))), (0, .ref bs), (1, .ref (a 0)), (2, .ref (b 0)), (3, .ref o), (4, .int (nI i))]) hx hb dL_law_479 hl (by decide) rfl (fun ls hl => ?_)
    refine lv_aload_n hx hb dL_law_481 rfl (lv_at hl 4 rfl) ?_
    refine q_cV (As := []) (rest := []) ⟨hx, hb, hml, hown, hts⟩ (c_X7_thrown D cy b (upd σ 84 (σ 84 + 1)) (svS saved cnt (mS σ)) (min (cnt + 1) 6) bef (tI tx) len (cAs σ) t9 (nI l9) (nO x9) (nO y9) d9 hs (wX cy a (upd σ 84 (σ 84 + 1)) (cpK kept σ (nxt * 86) 86) ((nxt + 1) % 6) (min (cnt + 1) 6) (tI tx) len pos (nI pp) (nI lc) (nO on) (nO ov) ++ [(o, .inl (cJ, 1, .inr (.inl (vp_updL out 0 (σ 84 + 1).toInt64))))])) (cwV 0 hts gL_law_X7_thrown rfl rfl rfl hd_X7_thrown ⟨Nat.le_of_ble_eq_true rfl, Nat.le_of_ble_eq_true rfl⟩) hK hw.1 0 rfl rfl rfl hl.1 rfl (Nat.le_of_ble_eq_true rfl) ⟨show n1 + 1 + 0 ≤ 601024 by omega, show n2 + 6 + 0 ≤ 7293034 by omega⟩ dL_law_482 ?_
    have hw := pmB hw
    refine lv_iload hx hb dL_law_485 (lv_at hl 1 rfl) ?_
    refine lv_icmp_eq (tgt := 492) hx hb dL_law_487 (by decide) (fun _ => ?_) (fun h => absurd rfl h)
    refine lv_iload hx hb dL_law_492 (lv_at hl 1 rfl) ?_
    refine lv_if_ne (tgt := 509) hx hb dL_law_494 (by decide) (fun h => absurd (by rw [h0]; rfl) h) (fun _ => ?_)
    refine lv_aload_n hx hb dL_law_497 rfl (lv_at hl 5 rfl) ?_
    refine lv_iconst (v := nI 0) hx hb dL_law_498 rfl ?_
    refine va_lald hx hb hJ hw.1 18 0 rfl rfl (vp_in_nI (by decide) (by decide)) dL_law_499 ?_
    refine lv_iload hx hb dL_law_500 (lv_at hl 0 rfl) ?_
    refine lv_i2l hx hb dL_law_502 rfl ?_
    refine q_stk (show _ = ([.long (σ 84 + 1).toInt64, .long (σ 84 + 1).toInt64] : List Value) from by rw [nI_clamp (show 0 < 2 ^ 31 by decide)]; rfl) ?_
    refine q_lcmp0 hx hb dL_law_503 ?_
    refine q_ifeqN (a := 0) (tgt := 509) hx hb dL_law_504 (by decide) (by decide) (fun _ => ?_) (fun h => absurd h (by decide))
    refine lv_goto (tgt := 1528) hx hb dL_law_509 (by decide) ?_
    exact k _ _ _ ⟨upd σ 84 (σ 84 + 1), cpK kept σ (nxt * 86) 86, (nxt + 1) % 6, min (cnt + 1) 6, tx, len, pos, pp, lc, on, ov, svS saved cnt (mS σ), bef, cAs σ, t9, l9, x9, y9, d9, hs, vp_updL out 0 (σ 84 + 1).toInt64, hw, hI.push hv, Val_cAs hv h0, ht, hlen, ob1, ob2⟩ (lv_sub hl [2, 3, 4, 5, 6] rfl)
  · skip
    have hw := pmA hw
    refine q_wV0 (As := []) (rest := []) (st1 := [.int (if cAs σ = 0 then σ 84 + 1 else 0)]) ⟨hx, hb, hml, hown, hts⟩ (c_X7_addSpare D cy A b σ saved cnt bef (tI tx) len thr t9 (nI l9) (nO x9) (nO y9) d9 hs (wX cy a σ kept nxt cnt (tI tx) len pos (nI pp) (nI lc) (nO on) (nO ov) ++ [(o, .inl (cJ, 1, .inr (.inl out)))])  hI.2.1) (cwV 0 hts gL_law_X7_addSpare rfl rfl rfl hd_X7_addSpare ⟨Nat.le_of_ble_eq_true rfl, Nat.le_of_ble_eq_true rfl⟩) hK hA hw 0 rfl rfl rfl hl.1 rfl rfl (Nat.le_of_ble_eq_true rfl) ⟨show n1 + 1 + 0 ≤ 601024 by omega, show n2 + 6 + 0 ≤ 7293034 by omega⟩ dL_law_476 (fun H locs hw => ?_)
    rw [if_neg h0] at hw
    rw [if_neg h0] at hw
    rw [if_neg h0] at hw
    refine q_top (show (if cAs σ = 0 then σ 84 + 1 else 0) = nI 0 from by first | (rw [if_neg h0]; done) | (rw [if_neg h0]; rfl)) ?_
    refine lv_istore (lv' := [(6, .int (nI 0)), (5, .int (nI (cAs σ))), (0, .ref bs), (1, .ref (a 0)), (2, .ref (b 0)), (3, .ref o), (4, .int (nI i))]) hx hb dL_law_479 hl (by decide) rfl (fun ls hl => ?_)
    refine lv_aload_n hx hb dL_law_481 rfl (lv_at hl 4 rfl) ?_
    refine q_cV (As := []) (rest := []) ⟨hx, hb, hml, hown, hts⟩ (c_X7_thrown D cy b σ saved cnt bef (tI tx) len (cAs σ) t9 (nI l9) (nO x9) (nO y9) d9 hs (wX cy a σ kept nxt cnt (tI tx) len pos (nI pp) (nI lc) (nO on) (nO ov) ++ [(o, .inl (cJ, 1, .inr (.inl out)))])) (cwV 0 hts gL_law_X7_thrown rfl rfl rfl hd_X7_thrown ⟨Nat.le_of_ble_eq_true rfl, Nat.le_of_ble_eq_true rfl⟩) hK hw.1 0 rfl rfl rfl hl.1 rfl (Nat.le_of_ble_eq_true rfl) ⟨show n1 + 1 + 0 ≤ 601024 by omega, show n2 + 6 + 0 ≤ 7293034 by omega⟩ dL_law_482 ?_
    have hw := pmB hw
    refine lv_iload hx hb dL_law_485 (lv_at hl 1 rfl) ?_
    refine lv_icmp_eq (tgt := 492) hx hb dL_law_487 (by decide) (fun _ => ?_) (fun h => absurd rfl h)
    refine lv_iload hx hb dL_law_492 (lv_at hl 1 rfl) ?_
    refine lv_if_ne (tgt := 509) hx hb dL_law_494 (by decide) (fun _ => ?_) (fun h => absurd h (code_ne h0 (by have h9 : cAs σ ≤ 3 := Nat.le_trans (cAs_le _) (by decide); omega)))
    refine lv_goto (tgt := 1528) hx hb dL_law_509 (by decide) ?_
    exact k _ _ _ ⟨σ, kept, nxt, cnt, tx, len, pos, pp, lc, on, ov, saved, bef, cAs σ, t9, l9, x9, y9, d9, hs, out, hw, hI, hv, ht, hlen, ob1, ob2⟩ (lv_sub hl [2, 3, 4, 5, 6] rfl)
set_option maxHeartbeats 1000000 in
set_option maxRecDepth 100000 in
theorem la_corrupt {p : Program} {l : Launch} {e : Env} {s : State} {m : MethodId} {args : Array Value} {below : List Frame} {meth : Method} {c : Code} {H : Heap} {locs : List Loc} {n1 n2 : Nat} {Q : State → Prop} {ls : Array Slot} {D : va_G} {cy cJ : ClassId} {A : Nat → Prop} {a b : Nat → Nat} {o bs L i : Nat} {xs : Nat → Int32} (C : lC p l s args m meth c D cy cJ A bs L xs) (hw : lawS D cy cJ A a b o s H locs) (hl : lv_has ls 9 [(0, .ref bs), (1, .ref (a 0)), (2, .ref (b 0)), (3, .ref o), (4, .int (nI i))]) (hi : i + 4 ≤ L) (hL : L ≤ 2048) (hn1 : n1 + 1 ≤ 601024) (hn2 : n2 + 6 ≤ 7293034)
    (k : ∀ (H : Heap) (locs : List Loc) (ls : Array Slot), lawS D cy cJ A a b o s H locs → lv_has ls 9 [(0, .ref bs), (1, .ref (a 0)), (2, .ref (b 0)), (3, .ref o), (4, .int (nI i))] → W p l e room_1 s m args below meth c H locs (n1 + 1) (n2 + 6) Q (F0 m 1528 ls [])) : W p l e room_1 s m args below meth c H locs n1 n2 Q (F0 m 512 ls []) := by
  obtain ⟨hx, hb, hml, hown, hts, hX, hbl, hbA, hK, hJ, hA, hN, hC, hst⟩ := C
  obtain ⟨σ, kept, nxt, cnt, tx, len, pos, pp, lc, on, ov, saved, bef, thr, t9, l9, x9, y9, d9, hs, out, hw, hI, hv, ht, hlen, ob1, ob2⟩ := hw
  have hw : wS D A (wX cy a σ kept nxt cnt (tI tx) len pos (nI pp) (nI lc) (nO on) (nO ov) ++ ((o, .inl (cJ, 1, .inr (.inl out))) :: wM cy b (mS σ) saved cnt bef (tI tx) len thr t9 (nI l9) (nO x9) (nO y9) d9 hs)) s H locs := hw
  refine lv_aload_n hx hb dL_law_512 rfl (lv_at hl 1 rfl) ?_
  refine lv_aload_n hx hb dL_law_513 rfl (lv_at hl 0 rfl) ?_
  refine lv_iload hx hb dL_law_514 (lv_at hl 4 rfl) ?_
  refine lv_iconst (v := nI 1) hx hb dL_law_516 rfl ?_
  refine q_addN hx hb dL_law_517 ?_
  refine va_sld hx hb hX hbl hbA hw.2.2 (vp_in_nI (show i + 1 < L by omega) (by omega)) dL_law_518 ?_
  refine lv_aload_n hx hb dL_law_519 rfl (lv_at hl 0 rfl) ?_
  refine lv_iload hx hb dL_law_520 (lv_at hl 4 rfl) ?_
  refine lv_iconst (v := nI 2) hx hb dL_law_522 rfl ?_
  refine q_addN hx hb dL_law_523 ?_
  refine va_sld hx hb hX hbl hbA hw.2.2 (vp_in_nI (show i + 2 < L by omega) (by omega)) dL_law_524 ?_
  refine lv_aload_n hx hb dL_law_525 rfl (lv_at hl 0 rfl) ?_
  refine lv_iload hx hb dL_law_526 (lv_at hl 4 rfl) ?_
  refine lv_iconst (v := nI 3) hx hb dL_law_528 rfl ?_
  refine q_addN hx hb dL_law_529 ?_
  refine va_sld hx hb hX hbl hbA hw.2.2 (vp_in_nI (show i + 3 < L by omega) (by omega)) dL_law_530 ?_
  refine lv_aload_n hx hb dL_law_531 rfl (lv_at hl 3 rfl) ?_
  refine q_lS (As := [.ref (a 0), .int (xs (nI (i + 1)).toNatClampNeg), .int (xs (nI (i + 2)).toNatClampNeg), .int (xs (nI (i + 3)).toNatClampNeg), .ref o]) (rest := []) ⟨hx, hb, hml, hown, hts⟩ (c_L_corrupt hst D cy cJ A a σ kept nxt cnt (tI tx) len pos (nI pp) (nI lc) (nO on) (nO ov) (wM cy b (mS σ) saved cnt bef (tI tx) len thr t9 (nI l9) (nO x9) (nO y9) d9 hs) o out (xs (nI (i + 1)).toNatClampNeg) (xs (nI (i + 2)).toNatClampNeg) (xs (nI (i + 3)).toNatClampNeg) hI.1 hI.2.1) (vx_cwSW 5 hts gL_law_L_corrupt rfl rfl rfl hd_L_corrupt ⟨Nat.le_of_ble_eq_true rfl, Nat.le_of_ble_eq_true rfl⟩) hK hJ hC hA hN hw rfl hl.1 rfl (Nat.le_of_ble_eq_true rfl) ⟨show n1 + 1 ≤ 601024 by omega, show n2 + 6 ≤ 7293034 by omega⟩ dL_law_532 (fun H locs v8 w8 hp hw => ?_)
  obtain ⟨rfl, hcase⟩ := hp
  refine q_stk (show _ = ([.int (nI (cCo σ (xs (nI (i + 1)).toNatClampNeg) (xs (nI (i + 2)).toNatClampNeg) (xs (nI (i + 3)).toNatClampNeg)))] : List Value) from rfl) ?_
  refine lv_istore (lv' := [(5, .int (nI (cCo σ (xs (nI (i + 1)).toNatClampNeg) (xs (nI (i + 2)).toNatClampNeg) (xs (nI (i + 3)).toNatClampNeg)))), (0, .ref bs), (1, .ref (a 0)), (2, .ref (b 0)), (3, .ref o), (4, .int (nI i))]) hx hb dL_law_535 hl (by decide) rfl (fun ls hl => ?_)
  refine lv_aload_n hx hb dL_law_537 rfl (lv_at hl 3 rfl) ?_
  refine lv_aload_n hx hb dL_law_538 rfl (lv_at hl 1 rfl) ?_
  refine lv_iload hx hb dL_law_539 (lv_at hl 5 rfl) ?_
  refine lv_iconst (v := nI 1) hx hb dL_law_541 rfl ?_
  refine q_addN hx hb dL_law_542 ?_
  refine va_sld hx hb hX hbl hbA hw.2.2 (vp_in_nI (show i + 1 < L by omega) (by omega)) dL_law_543 ?_
  refine lv_aload_n hx hb dL_law_544 rfl (lv_at hl 1 rfl) ?_
  refine lv_iload hx hb dL_law_545 (lv_at hl 5 rfl) ?_
  refine lv_iconst (v := nI 2) hx hb dL_law_547 rfl ?_
  refine q_addN hx hb dL_law_548 ?_
  refine va_sld hx hb hX hbl hbA hw.2.2 (vp_in_nI (show i + 2 < L by omega) (by omega)) dL_law_549 ?_
  refine lv_aload_n hx hb dL_law_550 rfl (lv_at hl 1 rfl) ?_
  refine lv_iload hx hb dL_law_551 (lv_at hl 5 rfl) ?_
  refine lv_iconst (v := nI 3) hx hb dL_law_553 rfl ?_
  refine q_addN hx hb dL_law_554 ?_
  refine va_sld hx hb hX hbl hbA hw.2.2 (vp_in_nI (show i + 3 < L by omega) (by omega)) dL_law_555 ?_
  rcases hcase with ⟨h0, rfl⟩ | ⟨h0, rfl⟩
  · skip
    have hw := pmA hw
    refine q_wV0 (As := [.int (xs (nI (i + 1)).toNatClampNeg), .int (xs (nI (i + 2)).toNatClampNeg), .int (xs (nI (i + 3)).toNatClampNeg)]) (rest := []) (st1 := [.int (if cCo σ (xs (nI (i + 1)).toNatClampNeg) (xs (nI (i + 2)).toNatClampNeg) (xs (nI (i + 3)).toNatClampNeg) = 0 then σ (9 * ix (xs (nI (i + 1)).toNatClampNeg) + ix (xs (nI (i + 2)).toNatClampNeg)) else 0)]) ⟨hx, hb, hml, hown, hts⟩ (c_X7_corrupt D cy A b σ saved cnt bef (tI tx) len thr t9 (nI l9) (nO x9) (nO y9) d9 hs (wX cy a (upd σ (9 * ix (xs (nI (i + 1)).toNatClampNeg) + ix (xs (nI (i + 2)).toNatClampNeg)) (xs (nI (i + 3)).toNatClampNeg)) (cpK kept σ (nxt * 86) 86) ((nxt + 1) % 6) (min (cnt + 1) 6) (tI tx) len pos (nI pp) (nI lc) (nO on) (nO ov) ++ [(o, .inl (cJ, 1, .inr (.inl (vp_updL out 0 (σ (9 * ix (xs (nI (i + 1)).toNatClampNeg) + ix (xs (nI (i + 2)).toNatClampNeg))).toInt64))))]) (xs (nI (i + 1)).toNatClampNeg) (xs (nI (i + 2)).toNatClampNeg) (xs (nI (i + 3)).toNatClampNeg) hI.2.1) (cwV 3 hts gL_law_X7_corrupt rfl rfl rfl hd_X7_corrupt ⟨Nat.le_of_ble_eq_true rfl, Nat.le_of_ble_eq_true rfl⟩) hK hA hw 0 rfl rfl rfl hl.1 rfl rfl (Nat.le_of_ble_eq_true rfl) ⟨show n1 + 1 + 0 ≤ 601024 by omega, show n2 + 6 + 0 ≤ 7293034 by omega⟩ dL_law_556 (fun H locs hw => ?_)
    rw [if_pos h0] at hw
    rw [if_pos h0] at hw
    rw [if_pos h0] at hw
    refine q_top (show (if cCo σ (xs (nI (i + 1)).toNatClampNeg) (xs (nI (i + 2)).toNatClampNeg) (xs (nI (i + 3)).toNatClampNeg) = 0 then σ (9 * ix (xs (nI (i + 1)).toNatClampNeg) + ix (xs (nI (i + 2)).toNatClampNeg)) else 0) = σ (9 * ix (xs (nI (i + 1)).toNatClampNeg) + ix (xs (nI (i + 2)).toNatClampNeg)) from by first | (rw [if_pos h0]; done) | (rw [if_pos h0]; rfl)) ?_
    refine lv_istore (lv' := [(6, .int (σ (9 * ix (xs (nI (i + 1)).toNatClampNeg) + ix (xs (nI (i + 2)).toNatClampNeg)))), (5, .int (nI (cCo σ (xs (nI (i + 1)).toNatClampNeg) (xs (nI (i + 2)).toNatClampNeg) (xs (nI (i + 3)).toNatClampNeg)))), (0, .ref bs), (1, .ref (a 0)), (2, .ref (b 0)), (3, .ref o), (4, .int (nI i))]) hx hb dL_law_559 hl (by decide) rfl (fun ls hl => ?_)
    refine lv_aload_n hx hb dL_law_561 rfl (lv_at hl 4 rfl) ?_
    refine q_cV (As := []) (rest := []) ⟨hx, hb, hml, hown, hts⟩ (c_X7_thrown D cy b (upd σ (9 * ix (xs (nI (i + 1)).toNatClampNeg) + ix (xs (nI (i + 2)).toNatClampNeg)) (xs (nI (i + 3)).toNatClampNeg)) (svS saved cnt (mS σ)) (min (cnt + 1) 6) bef (tI tx) len (cCo σ (xs (nI (i + 1)).toNatClampNeg) (xs (nI (i + 2)).toNatClampNeg) (xs (nI (i + 3)).toNatClampNeg)) t9 (nI l9) (nO x9) (nO y9) d9 hs (wX cy a (upd σ (9 * ix (xs (nI (i + 1)).toNatClampNeg) + ix (xs (nI (i + 2)).toNatClampNeg)) (xs (nI (i + 3)).toNatClampNeg)) (cpK kept σ (nxt * 86) 86) ((nxt + 1) % 6) (min (cnt + 1) 6) (tI tx) len pos (nI pp) (nI lc) (nO on) (nO ov) ++ [(o, .inl (cJ, 1, .inr (.inl (vp_updL out 0 (σ (9 * ix (xs (nI (i + 1)).toNatClampNeg) + ix (xs (nI (i + 2)).toNatClampNeg))).toInt64))))])) (cwV 0 hts gL_law_X7_thrown rfl rfl rfl hd_X7_thrown ⟨Nat.le_of_ble_eq_true rfl, Nat.le_of_ble_eq_true rfl⟩) hK hw.1 0 rfl rfl rfl hl.1 rfl (Nat.le_of_ble_eq_true rfl) ⟨show n1 + 1 + 0 ≤ 601024 by omega, show n2 + 6 + 0 ≤ 7293034 by omega⟩ dL_law_562 ?_
    have hw := pmB hw
    refine lv_iload hx hb dL_law_565 (lv_at hl 1 rfl) ?_
    refine lv_icmp_eq (tgt := 572) hx hb dL_law_567 (by decide) (fun _ => ?_) (fun h => absurd rfl h)
    refine lv_iload hx hb dL_law_572 (lv_at hl 1 rfl) ?_
    refine lv_if_ne (tgt := 589) hx hb dL_law_574 (by decide) (fun h => absurd (by rw [h0]; rfl) h) (fun _ => ?_)
    refine lv_aload_n hx hb dL_law_577 rfl (lv_at hl 5 rfl) ?_
    refine lv_iconst (v := nI 0) hx hb dL_law_578 rfl ?_
    refine va_lald hx hb hJ hw.1 18 0 rfl rfl (vp_in_nI (by decide) (by decide)) dL_law_579 ?_
    refine lv_iload hx hb dL_law_580 (lv_at hl 0 rfl) ?_
    refine lv_i2l hx hb dL_law_582 rfl ?_
    refine q_stk (show _ = ([.long (σ (9 * ix (xs (nI (i + 1)).toNatClampNeg) + ix (xs (nI (i + 2)).toNatClampNeg))).toInt64, .long (σ (9 * ix (xs (nI (i + 1)).toNatClampNeg) + ix (xs (nI (i + 2)).toNatClampNeg))).toInt64] : List Value) from by rw [nI_clamp (show 0 < 2 ^ 31 by decide)]; rfl) ?_
    refine q_lcmp0 hx hb dL_law_583 ?_
    refine q_ifeqN (a := 0) (tgt := 589) hx hb dL_law_584 (by decide) (by decide) (fun _ => ?_) (fun h => absurd h (by decide))
    refine lv_goto (tgt := 1528) hx hb dL_law_589 (by decide) ?_
    exact k _ _ _ ⟨upd σ (9 * ix (xs (nI (i + 1)).toNatClampNeg) + ix (xs (nI (i + 2)).toNatClampNeg)) (xs (nI (i + 3)).toNatClampNeg), cpK kept σ (nxt * 86) 86, (nxt + 1) % 6, min (cnt + 1) 6, tx, len, pos, pp, lc, on, ov, svS saved cnt (mS σ), bef, cCo σ (xs (nI (i + 1)).toNatClampNeg) (xs (nI (i + 2)).toNatClampNeg) (xs (nI (i + 3)).toNatClampNeg), t9, l9, x9, y9, d9, hs, vp_updL out 0 (σ (9 * ix (xs (nI (i + 1)).toNatClampNeg) + ix (xs (nI (i + 2)).toNatClampNeg))).toInt64, hw, hI.push hv, Val_cCo hv h0, ht, hlen, ob1, ob2⟩ (lv_sub hl [2, 3, 4, 5, 6] rfl)
  · skip
    have hw := pmA hw
    refine q_wV0 (As := [.int (xs (nI (i + 1)).toNatClampNeg), .int (xs (nI (i + 2)).toNatClampNeg), .int (xs (nI (i + 3)).toNatClampNeg)]) (rest := []) (st1 := [.int (if cCo σ (xs (nI (i + 1)).toNatClampNeg) (xs (nI (i + 2)).toNatClampNeg) (xs (nI (i + 3)).toNatClampNeg) = 0 then σ (9 * ix (xs (nI (i + 1)).toNatClampNeg) + ix (xs (nI (i + 2)).toNatClampNeg)) else 0)]) ⟨hx, hb, hml, hown, hts⟩ (c_X7_corrupt D cy A b σ saved cnt bef (tI tx) len thr t9 (nI l9) (nO x9) (nO y9) d9 hs (wX cy a σ kept nxt cnt (tI tx) len pos (nI pp) (nI lc) (nO on) (nO ov) ++ [(o, .inl (cJ, 1, .inr (.inl out)))]) (xs (nI (i + 1)).toNatClampNeg) (xs (nI (i + 2)).toNatClampNeg) (xs (nI (i + 3)).toNatClampNeg) hI.2.1) (cwV 3 hts gL_law_X7_corrupt rfl rfl rfl hd_X7_corrupt ⟨Nat.le_of_ble_eq_true rfl, Nat.le_of_ble_eq_true rfl⟩) hK hA hw 0 rfl rfl rfl hl.1 rfl rfl (Nat.le_of_ble_eq_true rfl) ⟨show n1 + 1 + 0 ≤ 601024 by omega, show n2 + 6 + 0 ≤ 7293034 by omega⟩ dL_law_556 (fun H locs hw => ?_)
    rw [if_neg h0] at hw
    rw [if_neg h0] at hw
    rw [if_neg h0] at hw
    refine q_top (show (if cCo σ (xs (nI (i + 1)).toNatClampNeg) (xs (nI (i + 2)).toNatClampNeg) (xs (nI (i + 3)).toNatClampNeg) = 0 then σ (9 * ix (xs (nI (i + 1)).toNatClampNeg) + ix (xs (nI (i + 2)).toNatClampNeg)) else 0) = nI 0 from by first | (rw [if_neg h0]; done) | (rw [if_neg h0]; rfl)) ?_
    refine lv_istore (lv' := [(6, .int (nI 0)), (5, .int (nI (cCo σ (xs (nI (i + 1)).toNatClampNeg) (xs (nI (i + 2)).toNatClampNeg) (xs (nI (i + 3)).toNatClampNeg)))), (0, .ref bs), (1, .ref (a 0)), (2, .ref (b 0)), (3, .ref o), (4, .int (nI i))]) hx hb dL_law_559 hl (by decide) rfl (fun ls hl => ?_)
    refine lv_aload_n hx hb dL_law_561 rfl (lv_at hl 4 rfl) ?_
    refine q_cV (As := []) (rest := []) ⟨hx, hb, hml, hown, hts⟩ (c_X7_thrown D cy b σ saved cnt bef (tI tx) len (cCo σ (xs (nI (i + 1)).toNatClampNeg) (xs (nI (i + 2)).toNatClampNeg) (xs (nI (i + 3)).toNatClampNeg)) t9 (nI l9) (nO x9) (nO y9) d9 hs (wX cy a σ kept nxt cnt (tI tx) len pos (nI pp) (nI lc) (nO on) (nO ov) ++ [(o, .inl (cJ, 1, .inr (.inl out)))])) (cwV 0 hts gL_law_X7_thrown rfl rfl rfl hd_X7_thrown ⟨Nat.le_of_ble_eq_true rfl, Nat.le_of_ble_eq_true rfl⟩) hK hw.1 0 rfl rfl rfl hl.1 rfl (Nat.le_of_ble_eq_true rfl) ⟨show n1 + 1 + 0 ≤ 601024 by omega, show n2 + 6 + 0 ≤ 7293034 by omega⟩ dL_law_562 ?_
    have hw := pmB hw
    refine lv_iload hx hb dL_law_565 (lv_at hl 1 rfl) ?_
    refine lv_icmp_eq (tgt := 572) hx hb dL_law_567 (by decide) (fun _ => ?_) (fun h => absurd rfl h)
    refine lv_iload hx hb dL_law_572 (lv_at hl 1 rfl) ?_
    refine lv_if_ne (tgt := 589) hx hb dL_law_574 (by decide) (fun _ => ?_) (fun h => absurd h (code_ne h0 (by have h9 : cCo σ (xs (nI (i + 1)).toNatClampNeg) (xs (nI (i + 2)).toNatClampNeg) (xs (nI (i + 3)).toNatClampNeg) ≤ 3 := Nat.le_trans (cCo_le _ _ _ _) (by decide); omega)))
    refine lv_goto (tgt := 1528) hx hb dL_law_589 (by decide) ?_
    exact k _ _ _ ⟨σ, kept, nxt, cnt, tx, len, pos, pp, lc, on, ov, saved, bef, cCo σ (xs (nI (i + 1)).toNatClampNeg) (xs (nI (i + 2)).toNatClampNeg) (xs (nI (i + 3)).toNatClampNeg), t9, l9, x9, y9, d9, hs, out, hw, hI, hv, ht, hlen, ob1, ob2⟩ (lv_sub hl [2, 3, 4, 5, 6] rfl)
