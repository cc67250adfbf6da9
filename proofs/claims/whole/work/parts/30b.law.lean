theorem code_ne {k : Nat} (h : k ≠ 0) (hk : k < 2 ^ 31) : ¬ nI k = 0 := fun q => h ((nI_eq hk (by omega)).mp (q.trans nI_0.symm))
theorem q_lcmp0 {p : Program} {l : Launch} {e : Env} {R : Room} {s : State} {m : MethodId} {args : Array Value} {below : List Frame} {meth : Method} {c : Code} {H : Heap} {locs : List Loc} {cells slots : Nat} {Q : State → Prop} {cc : ByteArray} {pc : Nat} {ls : Array Slot} {rest : List Value} (hexec : p.tables.exec = Jvm.exec) (hb : c.code = cc) {x : Int64} (hdg : decode cc pc = .ok (.lcmp, 1)) (k : W p l e R s m args below meth c H locs cells slots Q (F0 m (pc + 1) ls (.int (nI 0) :: rest))) : W p l e R s m args below meth c H locs cells slots Q (F0 m pc ls (.long x :: .long x :: rest)) := by
  intro T hT X
  obtain ⟨t, a, b⟩ := k T hT X
  refine ⟨t, ?_, b⟩
  jvm_step X.here [X.here.top, hexec, hb, hdg]
  first | exact a | (simp; exact a)
set_option maxHeartbeats 1000000 in
set_option maxRecDepth 100000 in
theorem la_state {p : Program} {l : Launch} {e : Env} {s : State} {m : MethodId} {args : Array Value} {below : List Frame} {meth : Method} {c : Code} {H : Heap} {locs : List Loc} {n1 n2 : Nat} {Q : State → Prop} {ls : Array Slot} {D : va_G} {cy cJ : ClassId} {A : Nat → Prop} {a b : Nat → Nat} {o bs L i : Nat} {xs : Nat → Int32} (C : lC p l s args m meth c D cy cJ A bs L xs) (hw : lawS D cy cJ A a b o s H locs) (hl : lv_has ls 9 [(0, .ref bs), (1, .ref (a 0)), (2, .ref (b 0)), (3, .ref o), (4, .int (nI i))]) (hi : i + 4 ≤ L) (hL : L ≤ 2048) (hn1 : n1 + 1 ≤ 601024) (hn2 : n2 + 6 ≤ 7293034)
    (k : ∀ (H : Heap) (locs : List Loc) (ls : Array Slot), lawS D cy cJ A a b o s H locs → lv_has ls 9 [(0, .ref bs), (1, .ref (a 0)), (2, .ref (b 0)), (3, .ref o), (4, .int (nI i))] → W p l e room_1 s m args below meth c H locs (n1 + 1) (n2 + 6) Q (F0 m 1528 ls [])) : W p l e room_1 s m args below meth c H locs n1 n2 Q (F0 m 605 ls []) := by
  obtain ⟨hx, hb, hml, hown, hts, hX, hbl, hbA, hK, hJ, hA, hN, hC, hst⟩ := C
  obtain ⟨σ, kept, nxt, cnt, tx, len, pos, pp, lc, on, ov, saved, bef, thr, t9, l9, x9, y9, d9, hs, out, hw, hI, hv, ht, hlen, ob1, ob2⟩ := hw
  have hw : wS D A (wX cy a σ kept nxt cnt (tI tx) len pos (nI pp) (nI lc) (nO on) (nO ov) ++ ((o, .inl (cJ, 1, .inr (.inl out))) :: wM cy b (mS σ) saved cnt bef (tI tx) len thr t9 (nI l9) (nO x9) (nO y9) d9 hs)) s H locs := hw
  refine lv_aload_n hx hb dL_law_605 rfl (lv_at hl 1 rfl) ?_
  refine lv_aload_n hx hb dL_law_606 rfl (lv_at hl 0 rfl) ?_
  refine lv_iload hx hb dL_law_607 (lv_at hl 4 rfl) ?_
  refine lv_iconst (v := nI 1) hx hb dL_law_609 rfl ?_
  refine q_addN hx hb dL_law_610 ?_
  refine va_sld hx hb hX hbl hbA hw.2.2 (vp_in_nI (show i + 1 < L by omega) (by omega)) dL_law_611 ?_
  refine lv_aload_n hx hb dL_law_612 rfl (lv_at hl 3 rfl) ?_
  refine q_lS (As := [.ref (a 0), .int (xs (nI (i + 1)).toNatClampNeg), .ref o]) (rest := []) ⟨hx, hb, hml, hown, hts⟩ (c_L_state hst D cy cJ A a σ kept nxt cnt (tI tx) len pos (nI pp) (nI lc) (nO on) (nO ov) (wM cy b (mS σ) saved cnt bef (tI tx) len thr t9 (nI l9) (nO x9) (nO y9) d9 hs) o out (xs (nI (i + 1)).toNatClampNeg) ) (vx_cwSW 3 hts gL_law_L_state rfl rfl rfl hd_L_state ⟨Nat.le_of_ble_eq_true rfl, Nat.le_of_ble_eq_true rfl⟩) hK hJ hC hA hN hw rfl hl.1 rfl (Nat.le_of_ble_eq_true rfl) ⟨show n1 + 1 ≤ 601024 by omega, show n2 + 6 ≤ 7293034 by omega⟩ dL_law_613 (fun H locs v8 w8 hp hw => ?_)
  obtain ⟨rfl, hcase⟩ := hp
  refine q_stk (show _ = ([.int (nI (c1 (xs (nI (i + 1)).toNatClampNeg) 7))] : List Value) from rfl) ?_
  refine lv_istore (lv' := [(5, .int (nI (c1 (xs (nI (i + 1)).toNatClampNeg) 7))), (0, .ref bs), (1, .ref (a 0)), (2, .ref (b 0)), (3, .ref o), (4, .int (nI i))]) hx hb dL_law_616 hl (by decide) rfl (fun ls hl => ?_)
  refine lv_aload_n hx hb dL_law_618 rfl (lv_at hl 3 rfl) ?_
  refine lv_aload_n hx hb dL_law_619 rfl (lv_at hl 1 rfl) ?_
  refine lv_iload hx hb dL_law_620 (lv_at hl 5 rfl) ?_
  refine lv_iconst (v := nI 1) hx hb dL_law_622 rfl ?_
  refine q_addN hx hb dL_law_623 ?_
  refine va_sld hx hb hX hbl hbA hw.2.2 (vp_in_nI (show i + 1 < L by omega) (by omega)) dL_law_624 ?_
  rcases hcase with ⟨h0, rfl⟩ | ⟨h0, rfl⟩
  · skip
    have hw := pmA hw
    refine q_wV0 (As := [.int (xs (nI (i + 1)).toNatClampNeg)]) (rest := []) (st1 := [.int (if c1 (xs (nI (i + 1)).toNatClampNeg) 7 = 0 then σ (63 + ix (xs (nI (i + 1)).toNatClampNeg)) else 0)]) ⟨hx, hb, hml, hown, hts⟩ (c_X7_state D cy A b σ saved cnt bef (tI tx) len thr t9 (nI l9) (nO x9) (nO y9) d9 hs (wX cy a σ kept nxt cnt (tI tx) len pos (nI pp) (nI lc) (nO on) (nO ov) ++ [(o, .inl (cJ, 1, .inr (.inl (vp_updL out 0 (σ (63 + ix (xs (nI (i + 1)).toNatClampNeg))).toInt64))))]) (xs (nI (i + 1)).toNatClampNeg) ) (cwV 1 hts gL_law_X7_state rfl rfl rfl hd_X7_state ⟨Nat.le_of_ble_eq_true rfl, Nat.le_of_ble_eq_true rfl⟩) hK hA hw 0 rfl rfl rfl hl.1 rfl rfl (Nat.le_of_ble_eq_true rfl) ⟨show n1 + 1 + 0 ≤ 601024 by omega, show n2 + 6 + 0 ≤ 7293034 by omega⟩ dL_law_625 (fun H locs hw => ?_)
    refine q_top (show (if c1 (xs (nI (i + 1)).toNatClampNeg) 7 = 0 then σ (63 + ix (xs (nI (i + 1)).toNatClampNeg)) else 0) = σ (63 + ix (xs (nI (i + 1)).toNatClampNeg)) from by first | (rw [if_pos h0]; done) | (rw [if_pos h0]; rfl)) ?_
    refine lv_istore (lv' := [(6, .int (σ (63 + ix (xs (nI (i + 1)).toNatClampNeg)))), (5, .int (nI (c1 (xs (nI (i + 1)).toNatClampNeg) 7))), (0, .ref bs), (1, .ref (a 0)), (2, .ref (b 0)), (3, .ref o), (4, .int (nI i))]) hx hb dL_law_628 hl (by decide) rfl (fun ls hl => ?_)
    refine lv_aload_n hx hb dL_law_630 rfl (lv_at hl 4 rfl) ?_
    refine q_cV (As := []) (rest := []) ⟨hx, hb, hml, hown, hts⟩ (c_X7_thrown D cy b σ saved cnt bef (tI tx) len (c1 (xs (nI (i + 1)).toNatClampNeg) 7) t9 (nI l9) (nO x9) (nO y9) d9 hs (wX cy a σ kept nxt cnt (tI tx) len pos (nI pp) (nI lc) (nO on) (nO ov) ++ [(o, .inl (cJ, 1, .inr (.inl (vp_updL out 0 (σ (63 + ix (xs (nI (i + 1)).toNatClampNeg))).toInt64))))])) (cwV 0 hts gL_law_X7_thrown rfl rfl rfl hd_X7_thrown ⟨Nat.le_of_ble_eq_true rfl, Nat.le_of_ble_eq_true rfl⟩) hK hw.1 0 rfl rfl rfl hl.1 rfl (Nat.le_of_ble_eq_true rfl) ⟨show n1 + 1 + 0 ≤ 601024 by omega, show n2 + 6 + 0 ≤ 7293034 by omega⟩ dL_law_631 ?_
    have hw := pmB hw
    refine lv_iload hx hb dL_law_634 (lv_at hl 1 rfl) ?_
    refine lv_icmp_eq (tgt := 641) hx hb dL_law_636 (by decide) (fun _ => ?_) (fun h => absurd rfl h)
    refine lv_iload hx hb dL_law_641 (lv_at hl 1 rfl) ?_
    refine lv_if_ne (tgt := 658) hx hb dL_law_643 (by decide) (fun h => absurd (by rw [h0]; rfl) h) (fun _ => ?_)
    refine lv_aload_n hx hb dL_law_646 rfl (lv_at hl 5 rfl) ?_
    refine lv_iconst (v := nI 0) hx hb dL_law_647 rfl ?_
    refine va_lald hx hb hJ hw.1 18 0 rfl rfl (vp_in_nI (by decide) (by decide)) dL_law_648 ?_
    refine lv_iload hx hb dL_law_649 (lv_at hl 0 rfl) ?_
    refine lv_i2l hx hb dL_law_651 rfl ?_
    refine q_stk (show _ = ([.long (σ (63 + ix (xs (nI (i + 1)).toNatClampNeg))).toInt64, .long (σ (63 + ix (xs (nI (i + 1)).toNatClampNeg))).toInt64] : List Value) from by rw [nI_clamp (show 0 < 2 ^ 31 by decide)]; rfl) ?_
    refine q_lcmp0 hx hb dL_law_652 ?_
    refine q_ifeqN (a := 0) (tgt := 658) hx hb dL_law_653 (by decide) (by decide) (fun _ => ?_) (fun h => absurd h (by decide))
    refine lv_goto (tgt := 1528) hx hb dL_law_658 (by decide) ?_
    exact k _ _ _ ⟨σ, kept, nxt, cnt, tx, len, pos, pp, lc, on, ov, saved, bef, c1 (xs (nI (i + 1)).toNatClampNeg) 7, t9, l9, x9, y9, d9, hs, vp_updL out 0 (σ (63 + ix (xs (nI (i + 1)).toNatClampNeg))).toInt64, hw, hI, hv, ht, hlen, ob1, ob2⟩ (lv_sub hl [2, 3, 4, 5, 6] rfl)
  · skip
    have hw := pmA hw
    refine q_wV0 (As := [.int (xs (nI (i + 1)).toNatClampNeg)]) (rest := []) (st1 := [.int (if c1 (xs (nI (i + 1)).toNatClampNeg) 7 = 0 then σ (63 + ix (xs (nI (i + 1)).toNatClampNeg)) else 0)]) ⟨hx, hb, hml, hown, hts⟩ (c_X7_state D cy A b σ saved cnt bef (tI tx) len thr t9 (nI l9) (nO x9) (nO y9) d9 hs (wX cy a σ kept nxt cnt (tI tx) len pos (nI pp) (nI lc) (nO on) (nO ov) ++ [(o, .inl (cJ, 1, .inr (.inl out)))]) (xs (nI (i + 1)).toNatClampNeg) ) (cwV 1 hts gL_law_X7_state rfl rfl rfl hd_X7_state ⟨Nat.le_of_ble_eq_true rfl, Nat.le_of_ble_eq_true rfl⟩) hK hA hw 0 rfl rfl rfl hl.1 rfl rfl (Nat.le_of_ble_eq_true rfl) ⟨show n1 + 1 + 0 ≤ 601024 by omega, show n2 + 6 + 0 ≤ 7293034 by omega⟩ dL_law_625 (fun H locs hw => ?_)
    refine q_top (show (if c1 (xs (nI (i + 1)).toNatClampNeg) 7 = 0 then σ (63 + ix (xs (nI (i + 1)).toNatClampNeg)) else 0) = nI 0 from by first | (rw [if_neg h0]; done) | (rw [if_neg h0]; rfl)) ?_
    refine lv_istore (lv' := [(6, .int (nI 0)), (5, .int (nI (c1 (xs (nI (i + 1)).toNatClampNeg) 7))), (0, .ref bs), (1, .ref (a 0)), (2, .ref (b 0)), (3, .ref o), (4, .int (nI i))]) hx hb dL_law_628 hl (by decide) rfl (fun ls hl => ?_)
    refine lv_aload_n hx hb dL_law_630 rfl (lv_at hl 4 rfl) ?_
    refine q_cV (As := []) (rest := []) ⟨hx, hb, hml, hown, hts⟩ (c_X7_thrown D cy b σ saved cnt bef (tI tx) len (c1 (xs (nI (i + 1)).toNatClampNeg) 7) t9 (nI l9) (nO x9) (nO y9) d9 hs (wX cy a σ kept nxt cnt (tI tx) len pos (nI pp) (nI lc) (nO on) (nO ov) ++ [(o, .inl (cJ, 1, .inr (.inl out)))])) (cwV 0 hts gL_law_X7_thrown rfl rfl rfl hd_X7_thrown ⟨Nat.le_of_ble_eq_true rfl, Nat.le_of_ble_eq_true rfl⟩) hK hw.1 0 rfl rfl rfl hl.1 rfl (Nat.le_of_ble_eq_true rfl) ⟨show n1 + 1 + 0 ≤ 601024 by omega, show n2 + 6 + 0 ≤ 7293034 by omega⟩ dL_law_631 ?_
    have hw := pmB hw
    refine lv_iload hx hb dL_law_634 (lv_at hl 1 rfl) ?_
    refine lv_icmp_eq (tgt := 641) hx hb dL_law_636 (by decide) (fun _ => ?_) (fun h => absurd rfl h)
    refine lv_iload hx hb dL_law_641 (lv_at hl 1 rfl) ?_
    refine lv_if_ne (tgt := 658) hx hb dL_law_643 (by decide) (fun _ => ?_) (fun h => absurd h (code_ne h0 (by have h9 : c1 (xs (nI (i + 1)).toNatClampNeg) 7 ≤ 3 := Nat.le_trans (c1_le _ _) (by decide); omega)))
    refine lv_goto (tgt := 1528) hx hb dL_law_658 (by decide) ?_
    exact k _ _ _ ⟨σ, kept, nxt, cnt, tx, len, pos, pp, lc, on, ov, saved, bef, c1 (xs (nI (i + 1)).toNatClampNeg) 7, t9, l9, x9, y9, d9, hs, out, hw, hI, hv, ht, hlen, ob1, ob2⟩ (lv_sub hl [2, 3, 4, 5, 6] rfl)
set_option maxHeartbeats 1000000 in
set_option maxRecDepth 100000 in
theorem la_reads {p : Program} {l : Launch} {e : Env} {s : State} {m : MethodId} {args : Array Value} {below : List Frame} {meth : Method} {c : Code} {H : Heap} {locs : List Loc} {n1 n2 : Nat} {Q : State → Prop} {ls : Array Slot} {D : va_G} {cy cJ : ClassId} {A : Nat → Prop} {a b : Nat → Nat} {o bs L i : Nat} {xs : Nat → Int32} (C : lC p l s args m meth c D cy cJ A bs L xs) (hw : lawS D cy cJ A a b o s H locs) (hl : lv_has ls 9 [(0, .ref bs), (1, .ref (a 0)), (2, .ref (b 0)), (3, .ref o), (4, .int (nI i))]) (hi : i + 4 ≤ L) (hL : L ≤ 2048) (hn1 : n1 + 1 ≤ 601024) (hn2 : n2 + 6 ≤ 7293034)
    (k : ∀ (H : Heap) (locs : List Loc) (ls : Array Slot), lawS D cy cJ A a b o s H locs → lv_has ls 9 [(0, .ref bs), (1, .ref (a 0)), (2, .ref (b 0)), (3, .ref o), (4, .int (nI i))] → W p l e room_1 s m args below meth c H locs (n1 + 1) (n2 + 6) Q (F0 m 1528 ls [])) : W p l e room_1 s m args below meth c H locs n1 n2 Q (F0 m 1041 ls []) := by
  obtain ⟨hx, hb, hml, hown, hts, hX, hbl, hbA, hK, hJ, hA, hN, hC, hst⟩ := C
  obtain ⟨σ, kept, nxt, cnt, tx, len, pos, pp, lc, on, ov, saved, bef, thr, t9, l9, x9, y9, d9, hs, out, hw, hI, hv, ht, hlen, ob1, ob2⟩ := hw
  have hw : wS D A (wX cy a σ kept nxt cnt (tI tx) len pos (nI pp) (nI lc) (nO on) (nO ov) ++ ((o, .inl (cJ, 1, .inr (.inl out))) :: wM cy b (mS σ) saved cnt bef (tI tx) len thr t9 (nI l9) (nO x9) (nO y9) d9 hs)) s H locs := hw
  refine lv_aload_n hx hb dL_law_1041 rfl (lv_at hl 1 rfl) ?_
  refine lv_aload_n hx hb dL_law_1042 rfl (lv_at hl 0 rfl) ?_
  refine lv_iload hx hb dL_law_1043 (lv_at hl 4 rfl) ?_
  refine lv_iconst (v := nI 1) hx hb dL_law_1045 rfl ?_
  refine q_addN hx hb dL_law_1046 ?_
  refine va_sld hx hb hX hbl hbA hw.2.2 (vp_in_nI (show i + 1 < L by omega) (by omega)) dL_law_1047 ?_
  refine lv_aload_n hx hb dL_law_1048 rfl (lv_at hl 3 rfl) ?_
  refine q_lS (As := [.ref (a 0), .int (xs (nI (i + 1)).toNatClampNeg), .ref o]) (rest := []) ⟨hx, hb, hml, hown, hts⟩ (c_L_reads hst D cy cJ A a σ kept nxt cnt (tI tx) len pos (nI pp) (nI lc) (nO on) (nO ov) (wM cy b (mS σ) saved cnt bef (tI tx) len thr t9 (nI l9) (nO x9) (nO y9) d9 hs) o out (xs (nI (i + 1)).toNatClampNeg) ) (vx_cwSW 3 hts gL_law_L_reads rfl rfl rfl hd_L_reads ⟨Nat.le_of_ble_eq_true rfl, Nat.le_of_ble_eq_true rfl⟩) hK hJ hC hA hN hw rfl hl.1 rfl (Nat.le_of_ble_eq_true rfl) ⟨show n1 + 1 ≤ 601024 by omega, show n2 + 6 ≤ 7293034 by omega⟩ dL_law_1049 (fun H locs v8 w8 hp hw => ?_)
  obtain ⟨rfl, hcase⟩ := hp
  refine q_stk (show _ = ([.int (nI (c1 (xs (nI (i + 1)).toNatClampNeg) 7))] : List Value) from rfl) ?_
  refine lv_istore (lv' := [(5, .int (nI (c1 (xs (nI (i + 1)).toNatClampNeg) 7))), (0, .ref bs), (1, .ref (a 0)), (2, .ref (b 0)), (3, .ref o), (4, .int (nI i))]) hx hb dL_law_1052 hl (by decide) rfl (fun ls hl => ?_)
  refine lv_aload_n hx hb dL_law_1054 rfl (lv_at hl 3 rfl) ?_
  refine lv_aload_n hx hb dL_law_1055 rfl (lv_at hl 1 rfl) ?_
  refine lv_iload hx hb dL_law_1056 (lv_at hl 5 rfl) ?_
  refine lv_iconst (v := nI 1) hx hb dL_law_1058 rfl ?_
  refine q_addN hx hb dL_law_1059 ?_
  refine va_sld hx hb hX hbl hbA hw.2.2 (vp_in_nI (show i + 1 < L by omega) (by omega)) dL_law_1060 ?_
  rcases hcase with ⟨h0, rfl⟩ | ⟨h0, rfl⟩
  · skip
    have hw := pmA hw
    refine q_wV0 (As := [.int (xs (nI (i + 1)).toNatClampNeg)]) (rest := []) (st1 := [.int (if c1 (xs (nI (i + 1)).toNatClampNeg) 7 = 0 then σ (70 + ix (xs (nI (i + 1)).toNatClampNeg)) else 0)]) ⟨hx, hb, hml, hown, hts⟩ (c_X7_reads D cy A b σ saved cnt bef (tI tx) len thr t9 (nI l9) (nO x9) (nO y9) d9 hs (wX cy a σ kept nxt cnt (tI tx) len pos (nI pp) (nI lc) (nO on) (nO ov) ++ [(o, .inl (cJ, 1, .inr (.inl (vp_updL out 0 (σ (70 + ix (xs (nI (i + 1)).toNatClampNeg))).toInt64))))]) (xs (nI (i + 1)).toNatClampNeg) ) (cwV 1 hts gL_law_X7_reads rfl rfl rfl hd_X7_reads ⟨Nat.le_of_ble_eq_true rfl, Nat.le_of_ble_eq_true rfl⟩) hK hA hw 0 rfl rfl rfl hl.1 rfl rfl (Nat.le_of_ble_eq_true rfl) ⟨show n1 + 1 + 0 ≤ 601024 by omega, show n2 + 6 + 0 ≤ 7293034 by omega⟩ dL_law_1061 (fun H locs hw => ?_)
    refine q_top (show (if c1 (xs (nI (i + 1)).toNatClampNeg) 7 = 0 then σ (70 + ix (xs (nI (i + 1)).toNatClampNeg)) else 0) = σ (70 + ix (xs (nI (i + 1)).toNatClampNeg)) from by first | (rw [if_pos h0]; done) | (rw [if_pos h0]; rfl)) ?_
    refine lv_istore (lv' := [(6, .int (σ (70 + ix (xs (nI (i + 1)).toNatClampNeg)))), (5, .int (nI (c1 (xs (nI (i + 1)).toNatClampNeg) 7))), (0, .ref bs), (1, .ref (a 0)), (2, .ref (b 0)), (3, .ref o), (4, .int (nI i))]) hx hb dL_law_1064 hl (by decide) rfl (fun ls hl => ?_)
    refine lv_aload_n hx hb dL_law_1066 rfl (lv_at hl 4 rfl) ?_
    refine q_cV (As := []) (rest := []) ⟨hx, hb, hml, hown, hts⟩ (c_X7_thrown D cy b σ saved cnt bef (tI tx) len (c1 (xs (nI (i + 1)).toNatClampNeg) 7) t9 (nI l9) (nO x9) (nO y9) d9 hs (wX cy a σ kept nxt cnt (tI tx) len pos (nI pp) (nI lc) (nO on) (nO ov) ++ [(o, .inl (cJ, 1, .inr (.inl (vp_updL out 0 (σ (70 + ix (xs (nI (i + 1)).toNatClampNeg))).toInt64))))])) (cwV 0 hts gL_law_X7_thrown rfl rfl rfl hd_X7_thrown ⟨Nat.le_of_ble_eq_true rfl, Nat.le_of_ble_eq_true rfl⟩) hK hw.1 0 rfl rfl rfl hl.1 rfl (Nat.le_of_ble_eq_true rfl) ⟨show n1 + 1 + 0 ≤ 601024 by omega, show n2 + 6 + 0 ≤ 7293034 by omega⟩ dL_law_1067 ?_
    have hw := pmB hw
    refine lv_iload hx hb dL_law_1070 (lv_at hl 1 rfl) ?_
    refine lv_icmp_eq (tgt := 1077) hx hb dL_law_1072 (by decide) (fun _ => ?_) (fun h => absurd rfl h)
    refine lv_iload hx hb dL_law_1077 (lv_at hl 1 rfl) ?_
    refine lv_if_ne (tgt := 1094) hx hb dL_law_1079 (by decide) (fun h => absurd (by rw [h0]; rfl) h) (fun _ => ?_)
    refine lv_aload_n hx hb dL_law_1082 rfl (lv_at hl 5 rfl) ?_
    refine lv_iconst (v := nI 0) hx hb dL_law_1083 rfl ?_
    refine va_lald hx hb hJ hw.1 18 0 rfl rfl (vp_in_nI (by decide) (by decide)) dL_law_1084 ?_
    refine lv_iload hx hb dL_law_1085 (lv_at hl 0 rfl) ?_
    refine lv_i2l hx hb dL_law_1087 rfl ?_
    refine q_stk (show _ = ([.long (σ (70 + ix (xs (nI (i + 1)).toNatClampNeg))).toInt64, .long (σ (70 + ix (xs (nI (i + 1)).toNatClampNeg))).toInt64] : List Value) from by rw [nI_clamp (show 0 < 2 ^ 31 by decide)]; rfl) ?_
    refine q_lcmp0 hx hb dL_law_1088 ?_
    refine q_ifeqN (a := 0) (tgt := 1094) hx hb dL_law_1089 (by decide) (by decide) (fun _ => ?_) (fun h => absurd h (by decide))
    refine lv_goto (tgt := 1528) hx hb dL_law_1094 (by decide) ?_
    exact k _ _ _ ⟨σ, kept, nxt, cnt, tx, len, pos, pp, lc, on, ov, saved, bef, c1 (xs (nI (i + 1)).toNatClampNeg) 7, t9, l9, x9, y9, d9, hs, vp_updL out 0 (σ (70 + ix (xs (nI (i + 1)).toNatClampNeg))).toInt64, hw, hI, hv, ht, hlen, ob1, ob2⟩ (lv_sub hl [2, 3, 4, 5, 6] rfl)
  · skip
    have hw := pmA hw
    refine q_wV0 (As := [.int (xs (nI (i + 1)).toNatClampNeg)]) (rest := []) (st1 := [.int (if c1 (xs (nI (i + 1)).toNatClampNeg) 7 = 0 then σ (70 + ix (xs (nI (i + 1)).toNatClampNeg)) else 0)]) ⟨hx, hb, hml, hown, hts⟩ (c_X7_reads D cy A b σ saved cnt bef (tI tx) len thr t9 (nI l9) (nO x9) (nO y9) d9 hs (wX cy a σ kept nxt cnt (tI tx) len pos (nI pp) (nI lc) (nO on) (nO ov) ++ [(o, .inl (cJ, 1, .inr (.inl out)))]) (xs (nI (i + 1)).toNatClampNeg) ) (cwV 1 hts gL_law_X7_reads rfl rfl rfl hd_X7_reads ⟨Nat.le_of_ble_eq_true rfl, Nat.le_of_ble_eq_true rfl⟩) hK hA hw 0 rfl rfl rfl hl.1 rfl rfl (Nat.le_of_ble_eq_true rfl) ⟨show n1 + 1 + 0 ≤ 601024 by omega, show n2 + 6 + 0 ≤ 7293034 by omega⟩ dL_law_1061 (fun H locs hw => ?_)
    refine q_top (show (if c1 (xs (nI (i + 1)).toNatClampNeg) 7 = 0 then σ (70 + ix (xs (nI (i + 1)).toNatClampNeg)) else 0) = nI 0 from by first | (rw [if_neg h0]; done) | (rw [if_neg h0]; rfl)) ?_
    refine lv_istore (lv' := [(6, .int (nI 0)), (5, .int (nI (c1 (xs (nI (i + 1)).toNatClampNeg) 7))), (0, .ref bs), (1, .ref (a 0)), (2, .ref (b 0)), (3, .ref o), (4, .int (nI i))]) hx hb dL_law_1064 hl (by decide) rfl (fun ls hl => ?_)
    refine lv_aload_n hx hb dL_law_1066 rfl (lv_at hl 4 rfl) ?_
    refine q_cV (As := []) (rest := []) ⟨hx, hb, hml, hown, hts⟩ (c_X7_thrown D cy b σ saved cnt bef (tI tx) len (c1 (xs (nI (i + 1)).toNatClampNeg) 7) t9 (nI l9) (nO x9) (nO y9) d9 hs (wX cy a σ kept nxt cnt (tI tx) len pos (nI pp) (nI lc) (nO on) (nO ov) ++ [(o, .inl (cJ, 1, .inr (.inl out)))])) (cwV 0 hts gL_law_X7_thrown rfl rfl rfl hd_X7_thrown ⟨Nat.le_of_ble_eq_true rfl, Nat.le_of_ble_eq_true rfl⟩) hK hw.1 0 rfl rfl rfl hl.1 rfl (Nat.le_of_ble_eq_true rfl) ⟨show n1 + 1 + 0 ≤ 601024 by omega, show n2 + 6 + 0 ≤ 7293034 by omega⟩ dL_law_1067 ?_
    have hw := pmB hw
    refine lv_iload hx hb dL_law_1070 (lv_at hl 1 rfl) ?_
    refine lv_icmp_eq (tgt := 1077) hx hb dL_law_1072 (by decide) (fun _ => ?_) (fun h => absurd rfl h)
    refine lv_iload hx hb dL_law_1077 (lv_at hl 1 rfl) ?_
    refine lv_if_ne (tgt := 1094) hx hb dL_law_1079 (by decide) (fun _ => ?_) (fun h => absurd h (code_ne h0 (by have h9 : c1 (xs (nI (i + 1)).toNatClampNeg) 7 ≤ 3 := Nat.le_trans (c1_le _ _) (by decide); omega)))
    refine lv_goto (tgt := 1528) hx hb dL_law_1094 (by decide) ?_
    exact k _ _ _ ⟨σ, kept, nxt, cnt, tx, len, pos, pp, lc, on, ov, saved, bef, c1 (xs (nI (i + 1)).toNatClampNeg) 7, t9, l9, x9, y9, d9, hs, out, hw, hI, hv, ht, hlen, ob1, ob2⟩ (lv_sub hl [2, 3, 4, 5, 6] rfl)
set_option maxHeartbeats 1000000 in
set_option maxRecDepth 100000 in
theorem la_writes {p : Program} {l : Launch} {e : Env} {s : State} {m : MethodId} {args : Array Value} {below : List Frame} {meth : Method} {c : Code} {H : Heap} {locs : List Loc} {n1 n2 : Nat} {Q : State → Prop} {ls : Array Slot} {D : va_G} {cy cJ : ClassId} {A : Nat → Prop} {a b : Nat → Nat} {o bs L i : Nat} {xs : Nat → Int32} (C : lC p l s args m meth c D cy cJ A bs L xs) (hw : lawS D cy cJ A a b o s H locs) (hl : lv_has ls 9 [(0, .ref bs), (1, .ref (a 0)), (2, .ref (b 0)), (3, .ref o), (4, .int (nI i))]) (hi : i + 4 ≤ L) (hL : L ≤ 2048) (hn1 : n1 + 1 ≤ 601024) (hn2 : n2 + 6 ≤ 7293034)
    (k : ∀ (H : Heap) (locs : List Loc) (ls : Array Slot), lawS D cy cJ A a b o s H locs → lv_has ls 9 [(0, .ref bs), (1, .ref (a 0)), (2, .ref (b 0)), (3, .ref o), (4, .int (nI i))] → W p l e room_1 s m args below meth c H locs (n1 + 1) (n2 + 6) Q (F0 m 1528 ls [])) : W p l e room_1 s m args below meth c H locs n1 n2 Q (F0 m 1097 ls []) := by
  obtain ⟨hx, hb, hml, hown, hts, hX, hbl, hbA, hK, hJ, hA, hN, hC, hst⟩ := C
  obtain ⟨σ, kept, nxt, cnt, tx, len, pos, pp, lc, on, ov, saved, bef, thr, t9, l9, x9, y9, d9, hs, out, hw, hI, hv, ht, hlen, ob1, ob2⟩ := hw
  have hw : wS D A (wX cy a σ kept nxt cnt (tI tx) len pos (nI pp) (nI lc) (nO on) (nO ov) ++ ((o, .inl (cJ, 1, .inr (.inl out))) :: wM cy b (mS σ) saved cnt bef (tI tx) len thr t9 (nI l9) (nO x9) (nO y9) d9 hs)) s H locs := hw
  refine lv_aload_n hx hb dL_law_1097 rfl (lv_at hl 1 rfl) ?_
  refine lv_aload_n hx hb dL_law_1098 rfl (lv_at hl 0 rfl) ?_
  refine lv_iload hx hb dL_law_1099 (lv_at hl 4 rfl) ?_
  refine lv_iconst (v := nI 1) hx hb dL_law_1101 rfl ?_
  refine q_addN hx hb dL_law_1102 ?_
  refine va_sld hx hb hX hbl hbA hw.2.2 (vp_in_nI (show i + 1 < L by omega) (by omega)) dL_law_1103 ?_
  refine lv_aload_n hx hb dL_law_1104 rfl (lv_at hl 3 rfl) ?_
  refine q_lS (As := [.ref (a 0), .int (xs (nI (i + 1)).toNatClampNeg), .ref o]) (rest := []) ⟨hx, hb, hml, hown, hts⟩ (c_L_writes hst D cy cJ A a σ kept nxt cnt (tI tx) len pos (nI pp) (nI lc) (nO on) (nO ov) (wM cy b (mS σ) saved cnt bef (tI tx) len thr t9 (nI l9) (nO x9) (nO y9) d9 hs) o out (xs (nI (i + 1)).toNatClampNeg) ) (vx_cwSW 3 hts gL_law_L_writes rfl rfl rfl hd_L_writes ⟨Nat.le_of_ble_eq_true rfl, Nat.le_of_ble_eq_true rfl⟩) hK hJ hC hA hN hw rfl hl.1 rfl (Nat.le_of_ble_eq_true rfl) ⟨show n1 + 1 ≤ 601024 by omega, show n2 + 6 ≤ 7293034 by omega⟩ dL_law_1105 (fun H locs v8 w8 hp hw => ?_)
  obtain ⟨rfl, hcase⟩ := hp
  refine q_stk (show _ = ([.int (nI (c1 (xs (nI (i + 1)).toNatClampNeg) 7))] : List Value) from rfl) ?_
  refine lv_istore (lv' := [(5, .int (nI (c1 (xs (nI (i + 1)).toNatClampNeg) 7))), (0, .ref bs), (1, .ref (a 0)), (2, .ref (b 0)), (3, .ref o), (4, .int (nI i))]) hx hb dL_law_1108 hl (by decide) rfl (fun ls hl => ?_)
  refine lv_aload_n hx hb dL_law_1110 rfl (lv_at hl 3 rfl) ?_
  refine lv_aload_n hx hb dL_law_1111 rfl (lv_at hl 1 rfl) ?_
  refine lv_iload hx hb dL_law_1112 (lv_at hl 5 rfl) ?_
  refine lv_iconst (v := nI 1) hx hb dL_law_1114 rfl ?_
  refine q_addN hx hb dL_law_1115 ?_
  refine va_sld hx hb hX hbl hbA hw.2.2 (vp_in_nI (show i + 1 < L by omega) (by omega)) dL_law_1116 ?_
  rcases hcase with ⟨h0, rfl⟩ | ⟨h0, rfl⟩
  · skip
    have hw := pmA hw
    refine q_wV0 (As := [.int (xs (nI (i + 1)).toNatClampNeg)]) (rest := []) (st1 := [.int (if c1 (xs (nI (i + 1)).toNatClampNeg) 7 = 0 then σ (77 + ix (xs (nI (i + 1)).toNatClampNeg)) else 0)]) ⟨hx, hb, hml, hown, hts⟩ (c_X7_writes D cy A b σ saved cnt bef (tI tx) len thr t9 (nI l9) (nO x9) (nO y9) d9 hs (wX cy a σ kept nxt cnt (tI tx) len pos (nI pp) (nI lc) (nO on) (nO ov) ++ [(o, .inl (cJ, 1, .inr (.inl (vp_updL out 0 (σ (77 + ix (xs (nI (i + 1)).toNatClampNeg))).toInt64))))]) (xs (nI (i + 1)).toNatClampNeg) ) (cwV 1 hts gL_law_X7_writes rfl rfl rfl hd_X7_writes ⟨Nat.le_of_ble_eq_true rfl, Nat.le_of_ble_eq_true rfl⟩) hK hA hw 0 rfl rfl rfl hl.1 rfl rfl (Nat.le_of_ble_eq_true rfl) ⟨show n1 + 1 + 0 ≤ 601024 by omega, show n2 + 6 + 0 ≤ 7293034 by omega⟩ dL_law_1117 (fun H locs hw => ?_)
    refine q_top (show (if c1 (xs (nI (i + 1)).toNatClampNeg) 7 = 0 then σ (77 + ix (xs (nI (i + 1)).toNatClampNeg)) else 0) = σ (77 + ix (xs (nI (i + 1)).toNatClampNeg)) from by first | (rw [if_pos h0]; done) | (rw [if_pos h0]; rfl)) ?_
    refine lv_istore (lv' := [(6, .int (σ (77 + ix (xs (nI (i + 1)).toNatClampNeg)))), (5, .int (nI (c1 (xs (nI (i + 1)).toNatClampNeg) 7))), (0, .ref bs), (1, .ref (a 0)), (2, .ref (b 0)), (3, .ref o), (4, .int (nI i))]) hx hb dL_law_1120 hl (by decide) rfl (fun ls hl => ?_)
    refine lv_aload_n hx hb dL_law_1122 rfl (lv_at hl 4 rfl) ?_
    refine q_cV (As := []) (rest := []) ⟨hx, hb, hml, hown, hts⟩ (c_X7_thrown D cy b σ saved cnt bef (tI tx) len (c1 (xs (nI (i + 1)).toNatClampNeg) 7) t9 (nI l9) (nO x9) (nO y9) d9 hs (wX cy a σ kept nxt cnt (tI tx) len pos (nI pp) (nI lc) (nO on) (nO ov) ++ [(o, .inl (cJ, 1, .inr (.inl (vp_updL out 0 (σ (77 + ix (xs (nI (i + 1)).toNatClampNeg))).toInt64))))])) (cwV 0 hts gL_law_X7_thrown rfl rfl rfl hd_X7_thrown ⟨Nat.le_of_ble_eq_true rfl, Nat.le_of_ble_eq_true rfl⟩) hK hw.1 0 rfl rfl rfl hl.1 rfl (Nat.le_of_ble_eq_true rfl) ⟨show n1 + 1 + 0 ≤ 601024 by omega, show n2 + 6 + 0 ≤ 7293034 by omega⟩ dL_law_1123 ?_
    have hw := pmB hw
    refine lv_iload hx hb dL_law_1126 (lv_at hl 1 rfl) ?_
    refine lv_icmp_eq (tgt := 1133) hx hb dL_law_1128 (by decide) (fun _ => ?_) (fun h => absurd rfl h)
    refine lv_iload hx hb dL_law_1133 (lv_at hl 1 rfl) ?_
    refine lv_if_ne (tgt := 1150) hx hb dL_law_1135 (by decide) (fun h => absurd (by rw [h0]; rfl) h) (fun _ => ?_)
    refine lv_aload_n hx hb dL_law_1138 rfl (lv_at hl 5 rfl) ?_
    refine lv_iconst (v := nI 0) hx hb dL_law_1139 rfl ?_
    refine va_lald hx hb hJ hw.1 18 0 rfl rfl (vp_in_nI (by decide) (by decide)) dL_law_1140 ?_
    refine lv_iload hx hb dL_law_1141 (lv_at hl 0 rfl) ?_
    refine lv_i2l hx hb dL_law_1143 rfl ?_
    refine q_stk (show _ = ([.long (σ (77 + ix (xs (nI (i + 1)).toNatClampNeg))).toInt64, .long (σ (77 + ix (xs (nI (i + 1)).toNatClampNeg))).toInt64] : List Value) from by rw [nI_clamp (show 0 < 2 ^ 31 by decide)]; rfl) ?_
    refine q_lcmp0 hx hb dL_law_1144 ?_
    refine q_ifeqN (a := 0) (tgt := 1150) hx hb dL_law_1145 (by decide) (by decide) (fun _ => ?_) (fun h => absurd h (by decide))
    refine lv_goto (tgt := 1528) hx hb dL_law_1150 (by decide) ?_
    exact k _ _ _ ⟨σ, kept, nxt, cnt, tx, len, pos, pp, lc, on, ov, saved, bef, c1 (xs (nI (i + 1)).toNatClampNeg) 7, t9, l9, x9, y9, d9, hs, vp_updL out 0 (σ (77 + ix (xs (nI (i + 1)).toNatClampNeg))).toInt64, hw, hI, hv, ht, hlen, ob1, ob2⟩ (lv_sub hl [2, 3, 4, 5, 6] rfl)
  · skip
    have hw := pmA hw
    refine q_wV0 (As := [.int (xs (nI (i + 1)).toNatClampNeg)]) (rest := []) (st1 := [.int (if c1 (xs (nI (i + 1)).toNatClampNeg) 7 = 0 then σ (77 + ix (xs (nI (i + 1)).toNatClampNeg)) else 0)]) ⟨hx, hb, hml, hown, hts⟩ (c_X7_writes D cy A b σ saved cnt bef (tI tx) len thr t9 (nI l9) (nO x9) (nO y9) d9 hs (wX cy a σ kept nxt cnt (tI tx) len pos (nI pp) (nI lc) (nO on) (nO ov) ++ [(o, .inl (cJ, 1, .inr (.inl out)))]) (xs (nI (i + 1)).toNatClampNeg) ) (cwV 1 hts gL_law_X7_writes rfl rfl rfl hd_X7_writes ⟨Nat.le_of_ble_eq_true rfl, Nat.le_of_ble_eq_true rfl⟩) hK hA hw 0 rfl rfl rfl hl.1 rfl rfl (Nat.le_of_ble_eq_true rfl) ⟨show n1 + 1 + 0 ≤ 601024 by omega, show n2 + 6 + 0 ≤ 7293034 by omega⟩ dL_law_1117 (fun H locs hw => ?_)
    refine q_top (show (if c1 (xs (nI (i + 1)).toNatClampNeg) 7 = 0 then σ (77 + ix (xs (nI (i + 1)).toNatClampNeg)) else 0) = nI 0 from by first | (rw [if_neg h0]; done) | (rw [if_neg h0]; rfl)) ?_
    refine lv_istore (lv' := [(6, .int (nI 0)), (5, .int (nI (c1 (xs (nI (i + 1)).toNatClampNeg) 7))), (0, .ref bs), (1, .ref (a 0)), (2, .ref (b 0)), (3, .ref o), (4, .int (nI i))]) hx hb dL_law_1120 hl (by decide) rfl (fun ls hl => ?_)
    refine lv_aload_n hx hb dL_law_1122 rfl (lv_at hl 4 rfl) ?_
    refine q_cV (As := []) (rest := []) ⟨hx, hb, hml, hown, hts⟩ (c_X7_thrown D cy b σ saved cnt bef (tI tx) len (c1 (xs (nI (i + 1)).toNatClampNeg) 7) t9 (nI l9) (nO x9) (nO y9) d9 hs (wX cy a σ kept nxt cnt (tI tx) len pos (nI pp) (nI lc) (nO on) (nO ov) ++ [(o, .inl (cJ, 1, .inr (.inl out)))])) (cwV 0 hts gL_law_X7_thrown rfl rfl rfl hd_X7_thrown ⟨Nat.le_of_ble_eq_true rfl, Nat.le_of_ble_eq_true rfl⟩) hK hw.1 0 rfl rfl rfl hl.1 rfl (Nat.le_of_ble_eq_true rfl) ⟨show n1 + 1 + 0 ≤ 601024 by omega, show n2 + 6 + 0 ≤ 7293034 by omega⟩ dL_law_1123 ?_
    have hw := pmB hw
    refine lv_iload hx hb dL_law_1126 (lv_at hl 1 rfl) ?_
    refine lv_icmp_eq (tgt := 1133) hx hb dL_law_1128 (by decide) (fun _ => ?_) (fun h => absurd rfl h)
    refine lv_iload hx hb dL_law_1133 (lv_at hl 1 rfl) ?_
    refine lv_if_ne (tgt := 1150) hx hb dL_law_1135 (by decide) (fun _ => ?_) (fun h => absurd h (code_ne h0 (by have h9 : c1 (xs (nI (i + 1)).toNatClampNeg) 7 ≤ 3 := Nat.le_trans (c1_le _ _) (by decide); omega)))
    refine lv_goto (tgt := 1528) hx hb dL_law_1150 (by decide) ?_
    exact k _ _ _ ⟨σ, kept, nxt, cnt, tx, len, pos, pp, lc, on, ov, saved, bef, c1 (xs (nI (i + 1)).toNatClampNeg) 7, t9, l9, x9, y9, d9, hs, out, hw, hI, hv, ht, hlen, ob1, ob2⟩ (lv_sub hl [2, 3, 4, 5, 6] rfl)
set_option maxHeartbeats 1000000 in
set_option maxRecDepth 100000 in
theorem la_peek {p : Program} {l : Launch} {e : Env} {s : State} {m : MethodId} {args : Array Value} {below : List Frame} {meth : Method} {c : Code} {H : Heap} {locs : List Loc} {n1 n2 : Nat} {Q : State → Prop} {ls : Array Slot} {D : va_G} {cy cJ : ClassId} {A : Nat → Prop} {a b : Nat → Nat} {o bs L i : Nat} {xs : Nat → Int32} (C : lC p l s args m meth c D cy cJ A bs L xs) (hw : lawS D cy cJ A a b o s H locs) (hl : lv_has ls 9 [(0, .ref bs), (1, .ref (a 0)), (2, .ref (b 0)), (3, .ref o), (4, .int (nI i))]) (hi : i + 4 ≤ L) (hL : L ≤ 2048) (hn1 : n1 + 1 ≤ 601024) (hn2 : n2 + 6 ≤ 7293034)
    (k : ∀ (H : Heap) (locs : List Loc) (ls : Array Slot), lawS D cy cJ A a b o s H locs → lv_has ls 9 [(0, .ref bs), (1, .ref (a 0)), (2, .ref (b 0)), (3, .ref o), (4, .int (nI i))] → W p l e room_1 s m args below meth c H locs (n1 + 1) (n2 + 6) Q (F0 m 1528 ls [])) : W p l e room_1 s m args below meth c H locs n1 n2 Q (F0 m 933 ls []) := by
  obtain ⟨hx, hb, hml, hown, hts, hX, hbl, hbA, hK, hJ, hA, hN, hC, hst⟩ := C
  obtain ⟨σ, kept, nxt, cnt, tx, len, pos, pp, lc, on, ov, saved, bef, thr, t9, l9, x9, y9, d9, hs, out, hw, hI, hv, ht, hlen, ob1, ob2⟩ := hw
  have hw : wS D A (wX cy a σ kept nxt cnt (tI tx) len pos (nI pp) (nI lc) (nO on) (nO ov) ++ ((o, .inl (cJ, 1, .inr (.inl out))) :: wM cy b (mS σ) saved cnt bef (tI tx) len thr t9 (nI l9) (nO x9) (nO y9) d9 hs)) s H locs := hw
  refine lv_aload_n hx hb dL_law_933 rfl (lv_at hl 1 rfl) ?_
  refine lv_aload_n hx hb dL_law_934 rfl (lv_at hl 0 rfl) ?_
  refine lv_iload hx hb dL_law_935 (lv_at hl 4 rfl) ?_
  refine lv_iconst (v := nI 1) hx hb dL_law_937 rfl ?_
  refine q_addN hx hb dL_law_938 ?_
  refine va_sld hx hb hX hbl hbA hw.2.2 (vp_in_nI (show i + 1 < L by omega) (by omega)) dL_law_939 ?_
  refine lv_aload_n hx hb dL_law_940 rfl (lv_at hl 3 rfl) ?_
  refine q_lS (As := [.ref (a 0), .int (xs (nI (i + 1)).toNatClampNeg), .ref o]) (rest := []) ⟨hx, hb, hml, hown, hts⟩ (c_L_peek hst D cy cJ A a σ kept nxt cnt (tI tx) len pos (nI pp) (nI lc) (nO on) (nO ov) (wM cy b (mS σ) saved cnt bef (tI tx) len thr t9 (nI l9) (nO x9) (nO y9) d9 hs) o out (xs (nI (i + 1)).toNatClampNeg) ) (vx_cwSW 3 hts gL_law_L_peek rfl rfl rfl hd_L_peek ⟨Nat.le_of_ble_eq_true rfl, Nat.le_of_ble_eq_true rfl⟩) hK hJ hC hA hN hw rfl hl.1 rfl (Nat.le_of_ble_eq_true rfl) ⟨show n1 + 1 ≤ 601024 by omega, show n2 + 6 ≤ 7293034 by omega⟩ dL_law_941 (fun H locs v8 w8 hp hw => ?_)
  obtain ⟨rfl, hcase⟩ := hp
  refine q_stk (show _ = ([.int (nI (c1 (xs (nI (i + 1)).toNatClampNeg) 42))] : List Value) from rfl) ?_
  refine lv_istore (lv' := [(5, .int (nI (c1 (xs (nI (i + 1)).toNatClampNeg) 42))), (0, .ref bs), (1, .ref (a 0)), (2, .ref (b 0)), (3, .ref o), (4, .int (nI i))]) hx hb dL_law_944 hl (by decide) rfl (fun ls hl => ?_)
  refine lv_aload_n hx hb dL_law_946 rfl (lv_at hl 3 rfl) ?_
  refine lv_aload_n hx hb dL_law_947 rfl (lv_at hl 1 rfl) ?_
  refine lv_iload hx hb dL_law_948 (lv_at hl 5 rfl) ?_
  refine lv_iconst (v := nI 1) hx hb dL_law_950 rfl ?_
  refine q_addN hx hb dL_law_951 ?_
  refine va_sld hx hb hX hbl hbA hw.2.2 (vp_in_nI (show i + 1 < L by omega) (by omega)) dL_law_952 ?_
  rcases hcase with ⟨h0, rfl⟩ | ⟨h0, rfl⟩
  · skip
    have hw := pmA hw
    refine q_wV0 (As := [.int (xs (nI (i + 1)).toNatClampNeg)]) (rest := []) (st1 := [.int (if c1 (xs (nI (i + 1)).toNatClampNeg) 42 = 0 then kn σ (ad (ix (xs (nI (i + 1)).toNatClampNeg))) else 0)]) ⟨hx, hb, hml, hown, hts⟩ (c_X7_peek D cy A b σ saved cnt bef (tI tx) len thr t9 (nI l9) (nO x9) (nO y9) d9 hs (wX cy a σ kept nxt cnt (tI tx) len pos (nI pp) (nI lc) (nO on) (nO ov) ++ [(o, .inl (cJ, 1, .inr (.inl (vp_updL out 0 (kn σ (ad (ix (xs (nI (i + 1)).toNatClampNeg)))).toInt64))))]) (xs (nI (i + 1)).toNatClampNeg) ) (cwV 1 hts gL_law_X7_peek rfl rfl rfl hd_X7_peek ⟨Nat.le_of_ble_eq_true rfl, Nat.le_of_ble_eq_true rfl⟩) hK hA hw 0 rfl rfl rfl hl.1 rfl rfl (Nat.le_of_ble_eq_true rfl) ⟨show n1 + 1 + 0 ≤ 601024 by omega, show n2 + 6 + 0 ≤ 7293034 by omega⟩ dL_law_953 (fun H locs hw => ?_)
    refine q_top (show (if c1 (xs (nI (i + 1)).toNatClampNeg) 42 = 0 then kn σ (ad (ix (xs (nI (i + 1)).toNatClampNeg))) else 0) = kn σ (ad (ix (xs (nI (i + 1)).toNatClampNeg))) from by first | (rw [if_pos h0]; done) | (rw [if_pos h0]; rfl)) ?_
    refine lv_istore (lv' := [(6, .int (kn σ (ad (ix (xs (nI (i + 1)).toNatClampNeg))))), (5, .int (nI (c1 (xs (nI (i + 1)).toNatClampNeg) 42))), (0, .ref bs), (1, .ref (a 0)), (2, .ref (b 0)), (3, .ref o), (4, .int (nI i))]) hx hb dL_law_956 hl (by decide) rfl (fun ls hl => ?_)
    refine lv_aload_n hx hb dL_law_958 rfl (lv_at hl 4 rfl) ?_
    refine q_cV (As := []) (rest := []) ⟨hx, hb, hml, hown, hts⟩ (c_X7_thrown D cy b σ saved cnt bef (tI tx) len (c1 (xs (nI (i + 1)).toNatClampNeg) 42) t9 (nI l9) (nO x9) (nO y9) d9 hs (wX cy a σ kept nxt cnt (tI tx) len pos (nI pp) (nI lc) (nO on) (nO ov) ++ [(o, .inl (cJ, 1, .inr (.inl (vp_updL out 0 (kn σ (ad (ix (xs (nI (i + 1)).toNatClampNeg)))).toInt64))))])) (cwV 0 hts gL_law_X7_thrown rfl rfl rfl hd_X7_thrown ⟨Nat.le_of_ble_eq_true rfl, Nat.le_of_ble_eq_true rfl⟩) hK hw.1 0 rfl rfl rfl hl.1 rfl (Nat.le_of_ble_eq_true rfl) ⟨show n1 + 1 + 0 ≤ 601024 by omega, show n2 + 6 + 0 ≤ 7293034 by omega⟩ dL_law_959 ?_
    have hw := pmB hw
    refine lv_iload hx hb dL_law_962 (lv_at hl 1 rfl) ?_
    refine lv_icmp_eq (tgt := 969) hx hb dL_law_964 (by decide) (fun _ => ?_) (fun h => absurd rfl h)
    refine lv_iload hx hb dL_law_969 (lv_at hl 1 rfl) ?_
    refine lv_if_ne (tgt := 986) hx hb dL_law_971 (by decide) (fun h => absurd (by rw [h0]; rfl) h) (fun _ => ?_)
    refine lv_aload_n hx hb dL_law_974 rfl (lv_at hl 5 rfl) ?_
    refine lv_iconst (v := nI 0) hx hb dL_law_975 rfl ?_
    refine va_lald hx hb hJ hw.1 18 0 rfl rfl (vp_in_nI (by decide) (by decide)) dL_law_976 ?_
    refine lv_iload hx hb dL_law_977 (lv_at hl 0 rfl) ?_
    refine lv_i2l hx hb dL_law_979 rfl ?_
    refine q_stk (show _ = ([.long (kn σ (ad (ix (xs (nI (i + 1)).toNatClampNeg)))).toInt64, .long (kn σ (ad (ix (xs (nI (i + 1)).toNatClampNeg)))).toInt64] : List Value) from by rw [nI_clamp (show 0 < 2 ^ 31 by decide)]; rfl) ?_
    refine q_lcmp0 hx hb dL_law_980 ?_
    refine q_ifeqN (a := 0) (tgt := 986) hx hb dL_law_981 (by decide) (by decide) (fun _ => ?_) (fun h => absurd h (by decide))
    refine lv_goto (tgt := 1528) hx hb dL_law_986 (by decide) ?_
    exact k _ _ _ ⟨σ, kept, nxt, cnt, tx, len, pos, pp, lc, on, ov, saved, bef, c1 (xs (nI (i + 1)).toNatClampNeg) 42, t9, l9, x9, y9, d9, hs, vp_updL out 0 (kn σ (ad (ix (xs (nI (i + 1)).toNatClampNeg)))).toInt64, hw, hI, hv, ht, hlen, ob1, ob2⟩ (lv_sub hl [2, 3, 4, 5, 6] rfl)
  · skip
    have hw := pmA hw
    refine q_wV0 (As := [.int (xs (nI (i + 1)).toNatClampNeg)]) (rest := []) (st1 := [.int (if c1 (xs (nI (i + 1)).toNatClampNeg) 42 = 0 then kn σ (ad (ix (xs (nI (i + 1)).toNatClampNeg))) else 0)]) ⟨hx, hb, hml, hown, hts⟩ (c_X7_peek D cy A b σ saved cnt bef (tI tx) len thr t9 (nI l9) (nO x9) (nO y9) d9 hs (wX cy a σ kept nxt cnt (tI tx) len pos (nI pp) (nI lc) (nO on) (nO ov) ++ [(o, .inl (cJ, 1, .inr (.inl out)))]) (xs (nI (i + 1)).toNatClampNeg) ) (cwV 1 hts gL_law_X7_peek rfl rfl rfl hd_X7_peek ⟨Nat.le_of_ble_eq_true rfl, Nat.le_of_ble_eq_true rfl⟩) hK hA hw 0 rfl rfl rfl hl.1 rfl rfl (Nat.le_of_ble_eq_true rfl) ⟨show n1 + 1 + 0 ≤ 601024 by omega, show n2 + 6 + 0 ≤ 7293034 by omega⟩ dL_law_953 (fun H locs hw => ?_)
    refine q_top (show (if c1 (xs (nI (i + 1)).toNatClampNeg) 42 = 0 then kn σ (ad (ix (xs (nI (i + 1)).toNatClampNeg))) else 0) = nI 0 from by first | (rw [if_neg h0]; done) | (rw [if_neg h0]; rfl)) ?_
    refine lv_istore (lv' := [(6, .int (nI 0)), (5, .int (nI (c1 (xs (nI (i + 1)).toNatClampNeg) 42))), (0, .ref bs), (1, .ref (a 0)), (2, .ref (b 0)), (3, .ref o), (4, .int (nI i))]) hx hb dL_law_956 hl (by decide) rfl (fun ls hl => ?_)
    refine lv_aload_n hx hb dL_law_958 rfl (lv_at hl 4 rfl) ?_
    refine q_cV (As := []) (rest := []) ⟨hx, hb, hml, hown, hts⟩ (c_X7_thrown D cy b σ saved cnt bef (tI tx) len (c1 (xs (nI (i + 1)).toNatClampNeg) 42) t9 (nI l9) (nO x9) (nO y9) d9 hs (wX cy a σ kept nxt cnt (tI tx) len pos (nI pp) (nI lc) (nO on) (nO ov) ++ [(o, .inl (cJ, 1, .inr (.inl out)))])) (cwV 0 hts gL_law_X7_thrown rfl rfl rfl hd_X7_thrown ⟨Nat.le_of_ble_eq_true rfl, Nat.le_of_ble_eq_true rfl⟩) hK hw.1 0 rfl rfl rfl hl.1 rfl (Nat.le_of_ble_eq_true rfl) ⟨show n1 + 1 + 0 ≤ 601024 by omega, show n2 + 6 + 0 ≤ 7293034 by omega⟩ dL_law_959 ?_
    have hw := pmB hw
    refine lv_iload hx hb dL_law_962 (lv_at hl 1 rfl) ?_
    refine lv_icmp_eq (tgt := 969) hx hb dL_law_964 (by decide) (fun _ => ?_) (fun h => absurd rfl h)
    refine lv_iload hx hb dL_law_969 (lv_at hl 1 rfl) ?_
    refine lv_if_ne (tgt := 986) hx hb dL_law_971 (by decide) (fun _ => ?_) (fun h => absurd h (code_ne h0 (by have h9 : c1 (xs (nI (i + 1)).toNatClampNeg) 42 ≤ 3 := Nat.le_trans (c1_le _ _) (by decide); omega)))
    refine lv_goto (tgt := 1528) hx hb dL_law_986 (by decide) ?_
    exact k _ _ _ ⟨σ, kept, nxt, cnt, tx, len, pos, pp, lc, on, ov, saved, bef, c1 (xs (nI (i + 1)).toNatClampNeg) 42, t9, l9, x9, y9, d9, hs, out, hw, hI, hv, ht, hlen, ob1, ob2⟩ (lv_sub hl [2, 3, 4, 5, 6] rfl)
set_option maxHeartbeats 1000000 in
set_option maxRecDepth 100000 in
theorem la_member {p : Program} {l : Launch} {e : Env} {s : State} {m : MethodId} {args : Array Value} {below : List Frame} {meth : Method} {c : Code} {H : Heap} {locs : List Loc} {n1 n2 : Nat} {Q : State → Prop} {ls : Array Slot} {D : va_G} {cy cJ : ClassId} {A : Nat → Prop} {a b : Nat → Nat} {o bs L i : Nat} {xs : Nat → Int32} (C : lC p l s args m meth c D cy cJ A bs L xs) (hw : lawS D cy cJ A a b o s H locs) (hl : lv_has ls 9 [(0, .ref bs), (1, .ref (a 0)), (2, .ref (b 0)), (3, .ref o), (4, .int (nI i))]) (hi : i + 4 ≤ L) (hL : L ≤ 2048) (hn1 : n1 + 1 ≤ 601024) (hn2 : n2 + 6 ≤ 7293034)
    (k : ∀ (H : Heap) (locs : List Loc) (ls : Array Slot), lawS D cy cJ A a b o s H locs → lv_has ls 9 [(0, .ref bs), (1, .ref (a 0)), (2, .ref (b 0)), (3, .ref o), (4, .int (nI i))] → W p l e room_1 s m args below meth c H locs (n1 + 1) (n2 + 6) Q (F0 m 1528 ls [])) : W p l e room_1 s m args below meth c H locs n1 n2 Q (F0 m 661 ls []) := by
  obtain ⟨hx, hb, hml, hown, hts, hX, hbl, hbA, hK, hJ, hA, hN, hC, hst⟩ := C
  obtain ⟨σ, kept, nxt, cnt, tx, len, pos, pp, lc, on, ov, saved, bef, thr, t9, l9, x9, y9, d9, hs, out, hw, hI, hv, ht, hlen, ob1, ob2⟩ := hw
  have hw : wS D A (wX cy a σ kept nxt cnt (tI tx) len pos (nI pp) (nI lc) (nO on) (nO ov) ++ ((o, .inl (cJ, 1, .inr (.inl out))) :: wM cy b (mS σ) saved cnt bef (tI tx) len thr t9 (nI l9) (nO x9) (nO y9) d9 hs)) s H locs := hw
  refine lv_aload_n hx hb dL_law_661 rfl (lv_at hl 1 rfl) ?_
  refine lv_aload_n hx hb dL_law_662 rfl (lv_at hl 0 rfl) ?_
  refine lv_iload hx hb dL_law_663 (lv_at hl 4 rfl) ?_
  refine lv_iconst (v := nI 1) hx hb dL_law_665 rfl ?_
  refine q_addN hx hb dL_law_666 ?_
  refine va_sld hx hb hX hbl hbA hw.2.2 (vp_in_nI (show i + 1 < L by omega) (by omega)) dL_law_667 ?_
  refine lv_aload_n hx hb dL_law_668 rfl (lv_at hl 0 rfl) ?_
  refine lv_iload hx hb dL_law_669 (lv_at hl 4 rfl) ?_
  refine lv_iconst (v := nI 2) hx hb dL_law_671 rfl ?_
  refine q_addN hx hb dL_law_672 ?_
  refine va_sld hx hb hX hbl hbA hw.2.2 (vp_in_nI (show i + 2 < L by omega) (by omega)) dL_law_673 ?_
  refine lv_aload_n hx hb dL_law_674 rfl (lv_at hl 3 rfl) ?_
  refine q_lS (As := [.ref (a 0), .int (xs (nI (i + 1)).toNatClampNeg), .int (xs (nI (i + 2)).toNatClampNeg), .ref o]) (rest := []) ⟨hx, hb, hml, hown, hts⟩ (c_L_member hst D cy cJ A a σ kept nxt cnt (tI tx) len pos (nI pp) (nI lc) (nO on) (nO ov) (wM cy b (mS σ) saved cnt bef (tI tx) len thr t9 (nI l9) (nO x9) (nO y9) d9 hs) o out (xs (nI (i + 1)).toNatClampNeg) (xs (nI (i + 2)).toNatClampNeg) ) (vx_cwSW 4 hts gL_law_L_member rfl rfl rfl hd_L_member ⟨Nat.le_of_ble_eq_true rfl, Nat.le_of_ble_eq_true rfl⟩) hK hJ hC hA hN hw rfl hl.1 rfl (Nat.le_of_ble_eq_true rfl) ⟨show n1 + 1 ≤ 601024 by omega, show n2 + 6 ≤ 7293034 by omega⟩ dL_law_675 (fun H locs v8 w8 hp hw => ?_)
  obtain ⟨rfl, hcase⟩ := hp
  refine q_stk (show _ = ([.int (nI (c2 (xs (nI (i + 1)).toNatClampNeg) 21 (xs (nI (i + 2)).toNatClampNeg) 3))] : List Value) from rfl) ?_
  refine lv_istore (lv' := [(5, .int (nI (c2 (xs (nI (i + 1)).toNatClampNeg) 21 (xs (nI (i + 2)).toNatClampNeg) 3))), (0, .ref bs), (1, .ref (a 0)), (2, .ref (b 0)), (3, .ref o), (4, .int (nI i))]) hx hb dL_law_678 hl (by decide) rfl (fun ls hl => ?_)
  refine lv_aload_n hx hb dL_law_680 rfl (lv_at hl 3 rfl) ?_
  refine lv_aload_n hx hb dL_law_681 rfl (lv_at hl 1 rfl) ?_
  refine lv_iload hx hb dL_law_682 (lv_at hl 5 rfl) ?_
  refine lv_iconst (v := nI 1) hx hb dL_law_684 rfl ?_
  refine q_addN hx hb dL_law_685 ?_
  refine va_sld hx hb hX hbl hbA hw.2.2 (vp_in_nI (show i + 1 < L by omega) (by omega)) dL_law_686 ?_
  refine lv_aload_n hx hb dL_law_687 rfl (lv_at hl 1 rfl) ?_
  refine lv_iload hx hb dL_law_688 (lv_at hl 5 rfl) ?_
  refine lv_iconst (v := nI 2) hx hb dL_law_690 rfl ?_
  refine q_addN hx hb dL_law_691 ?_
  refine va_sld hx hb hX hbl hbA hw.2.2 (vp_in_nI (show i + 2 < L by omega) (by omega)) dL_law_692 ?_
  rcases hcase with ⟨h0, rfl⟩ | ⟨h0, rfl⟩
  · skip
    have hw := pmA hw
    refine q_wV0 (As := [.int (xs (nI (i + 1)).toNatClampNeg), .int (xs (nI (i + 2)).toNatClampNeg)]) (rest := []) (st1 := [.int (nI (if c2 (xs (nI (i + 1)).toNatClampNeg) 21 (xs (nI (i + 2)).toNatClampNeg) 3 = 0 then (mem (ix (xs (nI (i + 1)).toNatClampNeg)) (ix (xs (nI (i + 2)).toNatClampNeg))) else 0))]) ⟨hx, hb, hml, hown, hts⟩ (c_X7_member D cy A b σ saved cnt bef (tI tx) len thr t9 (nI l9) (nO x9) (nO y9) d9 hs (wX cy a σ kept nxt cnt (tI tx) len pos (nI pp) (nI lc) (nO on) (nO ov) ++ [(o, .inl (cJ, 1, .inr (.inl (vp_updL out 0 (nI (mem (ix (xs (nI (i + 1)).toNatClampNeg)) (ix (xs (nI (i + 2)).toNatClampNeg)))).toInt64))))]) (xs (nI (i + 1)).toNatClampNeg) (xs (nI (i + 2)).toNatClampNeg) ) (cwV 2 hts gL_law_X7_member rfl rfl rfl hd_X7_member ⟨Nat.le_of_ble_eq_true rfl, Nat.le_of_ble_eq_true rfl⟩) hK hA hw 0 rfl rfl rfl hl.1 rfl rfl (Nat.le_of_ble_eq_true rfl) ⟨show n1 + 1 + 0 ≤ 601024 by omega, show n2 + 6 + 0 ≤ 7293034 by omega⟩ dL_law_693 (fun H locs hw => ?_)
    refine q_top (show (nI (if c2 (xs (nI (i + 1)).toNatClampNeg) 21 (xs (nI (i + 2)).toNatClampNeg) 3 = 0 then (mem (ix (xs (nI (i + 1)).toNatClampNeg)) (ix (xs (nI (i + 2)).toNatClampNeg))) else 0)) = nI (mem (ix (xs (nI (i + 1)).toNatClampNeg)) (ix (xs (nI (i + 2)).toNatClampNeg))) from by first | (rw [if_pos h0]; done) | (rw [if_pos h0]; rfl)) ?_
    refine lv_istore (lv' := [(6, .int (nI (mem (ix (xs (nI (i + 1)).toNatClampNeg)) (ix (xs (nI (i + 2)).toNatClampNeg))))), (5, .int (nI (c2 (xs (nI (i + 1)).toNatClampNeg) 21 (xs (nI (i + 2)).toNatClampNeg) 3))), (0, .ref bs), (1, .ref (a 0)), (2, .ref (b 0)), (3, .ref o), (4, .int (nI i))]) hx hb dL_law_696 hl (by decide) rfl (fun ls hl => ?_)
    refine lv_aload_n hx hb dL_law_698 rfl (lv_at hl 4 rfl) ?_
    refine q_cV (As := []) (rest := []) ⟨hx, hb, hml, hown, hts⟩ (c_X7_thrown D cy b σ saved cnt bef (tI tx) len (c2 (xs (nI (i + 1)).toNatClampNeg) 21 (xs (nI (i + 2)).toNatClampNeg) 3) t9 (nI l9) (nO x9) (nO y9) d9 hs (wX cy a σ kept nxt cnt (tI tx) len pos (nI pp) (nI lc) (nO on) (nO ov) ++ [(o, .inl (cJ, 1, .inr (.inl (vp_updL out 0 (nI (mem (ix (xs (nI (i + 1)).toNatClampNeg)) (ix (xs (nI (i + 2)).toNatClampNeg)))).toInt64))))])) (cwV 0 hts gL_law_X7_thrown rfl rfl rfl hd_X7_thrown ⟨Nat.le_of_ble_eq_true rfl, Nat.le_of_ble_eq_true rfl⟩) hK hw.1 0 rfl rfl rfl hl.1 rfl (Nat.le_of_ble_eq_true rfl) ⟨show n1 + 1 + 0 ≤ 601024 by omega, show n2 + 6 + 0 ≤ 7293034 by omega⟩ dL_law_699 ?_
    have hw := pmB hw
    refine lv_iload hx hb dL_law_702 (lv_at hl 1 rfl) ?_
    refine lv_icmp_eq (tgt := 709) hx hb dL_law_704 (by decide) (fun _ => ?_) (fun h => absurd rfl h)
    refine lv_iload hx hb dL_law_709 (lv_at hl 1 rfl) ?_
    refine lv_if_ne (tgt := 726) hx hb dL_law_711 (by decide) (fun h => absurd (by rw [h0]; rfl) h) (fun _ => ?_)
    refine lv_aload_n hx hb dL_law_714 rfl (lv_at hl 5 rfl) ?_
    refine lv_iconst (v := nI 0) hx hb dL_law_715 rfl ?_
    refine va_lald hx hb hJ hw.1 18 0 rfl rfl (vp_in_nI (by decide) (by decide)) dL_law_716 ?_
    refine lv_iload hx hb dL_law_717 (lv_at hl 0 rfl) ?_
    refine lv_i2l hx hb dL_law_719 rfl ?_
    refine q_stk (show _ = ([.long (nI (mem (ix (xs (nI (i + 1)).toNatClampNeg)) (ix (xs (nI (i + 2)).toNatClampNeg)))).toInt64, .long (nI (mem (ix (xs (nI (i + 1)).toNatClampNeg)) (ix (xs (nI (i + 2)).toNatClampNeg)))).toInt64] : List Value) from by rw [nI_clamp (show 0 < 2 ^ 31 by decide)]; rfl) ?_
    refine q_lcmp0 hx hb dL_law_720 ?_
    refine q_ifeqN (a := 0) (tgt := 726) hx hb dL_law_721 (by decide) (by decide) (fun _ => ?_) (fun h => absurd h (by decide))
    refine lv_goto (tgt := 1528) hx hb dL_law_726 (by decide) ?_
    exact k _ _ _ ⟨σ, kept, nxt, cnt, tx, len, pos, pp, lc, on, ov, saved, bef, c2 (xs (nI (i + 1)).toNatClampNeg) 21 (xs (nI (i + 2)).toNatClampNeg) 3, t9, l9, x9, y9, d9, hs, vp_updL out 0 (nI (mem (ix (xs (nI (i + 1)).toNatClampNeg)) (ix (xs (nI (i + 2)).toNatClampNeg)))).toInt64, hw, hI, hv, ht, hlen, ob1, ob2⟩ (lv_sub hl [2, 3, 4, 5, 6] rfl)
  · skip
    have hw := pmA hw
    refine q_wV0 (As := [.int (xs (nI (i + 1)).toNatClampNeg), .int (xs (nI (i + 2)).toNatClampNeg)]) (rest := []) (st1 := [.int (nI (if c2 (xs (nI (i + 1)).toNatClampNeg) 21 (xs (nI (i + 2)).toNatClampNeg) 3 = 0 then (mem (ix (xs (nI (i + 1)).toNatClampNeg)) (ix (xs (nI (i + 2)).toNatClampNeg))) else 0))]) ⟨hx, hb, hml, hown, hts⟩ (c_X7_member D cy A b σ saved cnt bef (tI tx) len thr t9 (nI l9) (nO x9) (nO y9) d9 hs (wX cy a σ kept nxt cnt (tI tx) len pos (nI pp) (nI lc) (nO on) (nO ov) ++ [(o, .inl (cJ, 1, .inr (.inl out)))]) (xs (nI (i + 1)).toNatClampNeg) (xs (nI (i + 2)).toNatClampNeg) ) (cwV 2 hts gL_law_X7_member rfl rfl rfl hd_X7_member ⟨Nat.le_of_ble_eq_true rfl, Nat.le_of_ble_eq_true rfl⟩) hK hA hw 0 rfl rfl rfl hl.1 rfl rfl (Nat.le_of_ble_eq_true rfl) ⟨show n1 + 1 + 0 ≤ 601024 by omega, show n2 + 6 + 0 ≤ 7293034 by omega⟩ dL_law_693 (fun H locs hw => ?_)
    refine q_top (show (nI (if c2 (xs (nI (i + 1)).toNatClampNeg) 21 (xs (nI (i + 2)).toNatClampNeg) 3 = 0 then (mem (ix (xs (nI (i + 1)).toNatClampNeg)) (ix (xs (nI (i + 2)).toNatClampNeg))) else 0)) = nI 0 from by first | (rw [if_neg h0]; done) | (rw [if_neg h0]; rfl)) ?_
    refine lv_istore (lv' := [(6, .int (nI 0)), (5, .int (nI (c2 (xs (nI (i + 1)).toNatClampNeg) 21 (xs (nI (i + 2)).toNatClampNeg) 3))), (0, .ref bs), (1, .ref (a 0)), (2, .ref (b 0)), (3, .ref o), (4, .int (nI i))]) hx hb dL_law_696 hl (by decide) rfl (fun ls hl => ?_)
    refine lv_aload_n hx hb dL_law_698 rfl (lv_at hl 4 rfl) ?_
    refine q_cV (As := []) (rest := []) ⟨hx, hb, hml, hown, hts⟩ (c_X7_thrown D cy b σ saved cnt bef (tI tx) len (c2 (xs (nI (i + 1)).toNatClampNeg) 21 (xs (nI (i + 2)).toNatClampNeg) 3) t9 (nI l9) (nO x9) (nO y9) d9 hs (wX cy a σ kept nxt cnt (tI tx) len pos (nI pp) (nI lc) (nO on) (nO ov) ++ [(o, .inl (cJ, 1, .inr (.inl out)))])) (cwV 0 hts gL_law_X7_thrown rfl rfl rfl hd_X7_thrown ⟨Nat.le_of_ble_eq_true rfl, Nat.le_of_ble_eq_true rfl⟩) hK hw.1 0 rfl rfl rfl hl.1 rfl (Nat.le_of_ble_eq_true rfl) ⟨show n1 + 1 + 0 ≤ 601024 by omega, show n2 + 6 + 0 ≤ 7293034 by omega⟩ dL_law_699 ?_
    have hw := pmB hw
    refine lv_iload hx hb dL_law_702 (lv_at hl 1 rfl) ?_
    refine lv_icmp_eq (tgt := 709) hx hb dL_law_704 (by decide) (fun _ => ?_) (fun h => absurd rfl h)
    refine lv_iload hx hb dL_law_709 (lv_at hl 1 rfl) ?_
    refine lv_if_ne (tgt := 726) hx hb dL_law_711 (by decide) (fun _ => ?_) (fun h => absurd h (code_ne h0 (by have h9 : c2 (xs (nI (i + 1)).toNatClampNeg) 21 (xs (nI (i + 2)).toNatClampNeg) 3 ≤ 3 := Nat.le_trans (c2_le _ _ _ _) (by decide); omega)))
    refine lv_goto (tgt := 1528) hx hb dL_law_726 (by decide) ?_
    exact k _ _ _ ⟨σ, kept, nxt, cnt, tx, len, pos, pp, lc, on, ov, saved, bef, c2 (xs (nI (i + 1)).toNatClampNeg) 21 (xs (nI (i + 2)).toNatClampNeg) 3, t9, l9, x9, y9, d9, hs, out, hw, hI, hv, ht, hlen, ob1, ob2⟩ (lv_sub hl [2, 3, 4, 5, 6] rfl)
set_option maxHeartbeats 1000000 in
set_option maxRecDepth 100000 in
theorem la_stripeAt {p : Program} {l : Launch} {e : Env} {s : State} {m : MethodId} {args : Array Value} {below : List Frame} {meth : Method} {c : Code} {H : Heap} {locs : List Loc} {n1 n2 : Nat} {Q : State → Prop} {ls : Array Slot} {D : va_G} {cy cJ : ClassId} {A : Nat → Prop} {a b : Nat → Nat} {o bs L i : Nat} {xs : Nat → Int32} (C : lC p l s args m meth c D cy cJ A bs L xs) (hw : lawS D cy cJ A a b o s H locs) (hl : lv_has ls 9 [(0, .ref bs), (1, .ref (a 0)), (2, .ref (b 0)), (3, .ref o), (4, .int (nI i))]) (hi : i + 4 ≤ L) (hL : L ≤ 2048) (hn1 : n1 + 1 ≤ 601024) (hn2 : n2 + 6 ≤ 7293034)
    (k : ∀ (H : Heap) (locs : List Loc) (ls : Array Slot), lawS D cy cJ A a b o s H locs → lv_has ls 9 [(0, .ref bs), (1, .ref (a 0)), (2, .ref (b 0)), (3, .ref o), (4, .int (nI i))] → W p l e room_1 s m args below meth c H locs (n1 + 1) (n2 + 6) Q (F0 m 1528 ls [])) : W p l e room_1 s m args below meth c H locs n1 n2 Q (F0 m 729 ls []) := by
  obtain ⟨hx, hb, hml, hown, hts, hX, hbl, hbA, hK, hJ, hA, hN, hC, hst⟩ := C
  obtain ⟨σ, kept, nxt, cnt, tx, len, pos, pp, lc, on, ov, saved, bef, thr, t9, l9, x9, y9, d9, hs, out, hw, hI, hv, ht, hlen, ob1, ob2⟩ := hw
  have hw : wS D A (wX cy a σ kept nxt cnt (tI tx) len pos (nI pp) (nI lc) (nO on) (nO ov) ++ ((o, .inl (cJ, 1, .inr (.inl out))) :: wM cy b (mS σ) saved cnt bef (tI tx) len thr t9 (nI l9) (nO x9) (nO y9) d9 hs)) s H locs := hw
  refine lv_aload_n hx hb dL_law_729 rfl (lv_at hl 1 rfl) ?_
  refine lv_aload_n hx hb dL_law_730 rfl (lv_at hl 0 rfl) ?_
  refine lv_iload hx hb dL_law_731 (lv_at hl 4 rfl) ?_
  refine lv_iconst (v := nI 1) hx hb dL_law_733 rfl ?_
  refine q_addN hx hb dL_law_734 ?_
  refine va_sld hx hb hX hbl hbA hw.2.2 (vp_in_nI (show i + 1 < L by omega) (by omega)) dL_law_735 ?_
  refine lv_aload_n hx hb dL_law_736 rfl (lv_at hl 0 rfl) ?_
  refine lv_iload hx hb dL_law_737 (lv_at hl 4 rfl) ?_
  refine lv_iconst (v := nI 2) hx hb dL_law_739 rfl ?_
  refine q_addN hx hb dL_law_740 ?_
  refine va_sld hx hb hX hbl hbA hw.2.2 (vp_in_nI (show i + 2 < L by omega) (by omega)) dL_law_741 ?_
  refine lv_aload_n hx hb dL_law_742 rfl (lv_at hl 3 rfl) ?_
  refine q_lS (As := [.ref (a 0), .int (xs (nI (i + 1)).toNatClampNeg), .int (xs (nI (i + 2)).toNatClampNeg), .ref o]) (rest := []) ⟨hx, hb, hml, hown, hts⟩ (c_L_stripeAt hst D cy cJ A a σ kept nxt cnt (tI tx) len pos (nI pp) (nI lc) (nO on) (nO ov) (wM cy b (mS σ) saved cnt bef (tI tx) len thr t9 (nI l9) (nO x9) (nO y9) d9 hs) o out (xs (nI (i + 1)).toNatClampNeg) (xs (nI (i + 2)).toNatClampNeg) ) (vx_cwSW 4 hts gL_law_L_stripeAt rfl rfl rfl hd_L_stripeAt ⟨Nat.le_of_ble_eq_true rfl, Nat.le_of_ble_eq_true rfl⟩) hK hJ hC hA hN hw rfl hl.1 rfl (Nat.le_of_ble_eq_true rfl) ⟨show n1 + 1 ≤ 601024 by omega, show n2 + 6 ≤ 7293034 by omega⟩ dL_law_743 (fun H locs v8 w8 hp hw => ?_)
  obtain ⟨rfl, hcase⟩ := hp
  refine q_stk (show _ = ([.int (nI (c2 (xs (nI (i + 1)).toNatClampNeg) 7 (xs (nI (i + 2)).toNatClampNeg) 9))] : List Value) from rfl) ?_
  refine lv_istore (lv' := [(5, .int (nI (c2 (xs (nI (i + 1)).toNatClampNeg) 7 (xs (nI (i + 2)).toNatClampNeg) 9))), (0, .ref bs), (1, .ref (a 0)), (2, .ref (b 0)), (3, .ref o), (4, .int (nI i))]) hx hb dL_law_746 hl (by decide) rfl (fun ls hl => ?_)
  refine lv_aload_n hx hb dL_law_748 rfl (lv_at hl 3 rfl) ?_
  refine lv_aload_n hx hb dL_law_749 rfl (lv_at hl 1 rfl) ?_
  refine lv_iload hx hb dL_law_750 (lv_at hl 5 rfl) ?_
  refine lv_iconst (v := nI 1) hx hb dL_law_752 rfl ?_
  refine q_addN hx hb dL_law_753 ?_
  refine va_sld hx hb hX hbl hbA hw.2.2 (vp_in_nI (show i + 1 < L by omega) (by omega)) dL_law_754 ?_
  refine lv_aload_n hx hb dL_law_755 rfl (lv_at hl 1 rfl) ?_
  refine lv_iload hx hb dL_law_756 (lv_at hl 5 rfl) ?_
  refine lv_iconst (v := nI 2) hx hb dL_law_758 rfl ?_
  refine q_addN hx hb dL_law_759 ?_
  refine va_sld hx hb hX hbl hbA hw.2.2 (vp_in_nI (show i + 2 < L by omega) (by omega)) dL_law_760 ?_
  rcases hcase with ⟨h0, rfl⟩ | ⟨h0, rfl⟩
  · skip
    have hw := pmA hw
    refine q_wV0 (As := [.int (xs (nI (i + 1)).toNatClampNeg), .int (xs (nI (i + 2)).toNatClampNeg)]) (rest := []) (st1 := [.int (nI (if c2 (xs (nI (i + 1)).toNatClampNeg) 7 (xs (nI (i + 2)).toNatClampNeg) 9 = 0 then (stT (9 * ix (xs (nI (i + 1)).toNatClampNeg) + ix (xs (nI (i + 2)).toNatClampNeg))) else 0))]) ⟨hx, hb, hml, hown, hts⟩ (c_X7_stripeAt D cy A b σ saved cnt bef (tI tx) len thr t9 (nI l9) (nO x9) (nO y9) d9 hs (wX cy a σ kept nxt cnt (tI tx) len pos (nI pp) (nI lc) (nO on) (nO ov) ++ [(o, .inl (cJ, 1, .inr (.inl (vp_updL out 0 (nI (stT (9 * ix (xs (nI (i + 1)).toNatClampNeg) + ix (xs (nI (i + 2)).toNatClampNeg)))).toInt64))))]) (xs (nI (i + 1)).toNatClampNeg) (xs (nI (i + 2)).toNatClampNeg) ) (cwV 2 hts gL_law_X7_stripeAt rfl rfl rfl hd_X7_stripeAt ⟨Nat.le_of_ble_eq_true rfl, Nat.le_of_ble_eq_true rfl⟩) hK hA hw 0 rfl rfl rfl hl.1 rfl rfl (Nat.le_of_ble_eq_true rfl) ⟨show n1 + 1 + 0 ≤ 601024 by omega, show n2 + 6 + 0 ≤ 7293034 by omega⟩ dL_law_761 (fun H locs hw => ?_)
    refine q_top (show (nI (if c2 (xs (nI (i + 1)).toNatClampNeg) 7 (xs (nI (i + 2)).toNatClampNeg) 9 = 0 then (stT (9 * ix (xs (nI (i + 1)).toNatClampNeg) + ix (xs (nI (i + 2)).toNatClampNeg))) else 0)) = nI (stT (9 * ix (xs (nI (i + 1)).toNatClampNeg) + ix (xs (nI (i + 2)).toNatClampNeg))) from by first | (rw [if_pos h0]; done) | (rw [if_pos h0]; rfl)) ?_
    refine lv_istore (lv' := [(6, .int (nI (stT (9 * ix (xs (nI (i + 1)).toNatClampNeg) + ix (xs (nI (i + 2)).toNatClampNeg))))), (5, .int (nI (c2 (xs (nI (i + 1)).toNatClampNeg) 7 (xs (nI (i + 2)).toNatClampNeg) 9))), (0, .ref bs), (1, .ref (a 0)), (2, .ref (b 0)), (3, .ref o), (4, .int (nI i))]) hx hb dL_law_764 hl (by decide) rfl (fun ls hl => ?_)
    refine lv_aload_n hx hb dL_law_766 rfl (lv_at hl 4 rfl) ?_
    refine q_cV (As := []) (rest := []) ⟨hx, hb, hml, hown, hts⟩ (c_X7_thrown D cy b σ saved cnt bef (tI tx) len (c2 (xs (nI (i + 1)).toNatClampNeg) 7 (xs (nI (i + 2)).toNatClampNeg) 9) t9 (nI l9) (nO x9) (nO y9) d9 hs (wX cy a σ kept nxt cnt (tI tx) len pos (nI pp) (nI lc) (nO on) (nO ov) ++ [(o, .inl (cJ, 1, .inr (.inl (vp_updL out 0 (nI (stT (9 * ix (xs (nI (i + 1)).toNatClampNeg) + ix (xs (nI (i + 2)).toNatClampNeg)))).toInt64))))])) (cwV 0 hts gL_law_X7_thrown rfl rfl rfl hd_X7_thrown ⟨Nat.le_of_ble_eq_true rfl, Nat.le_of_ble_eq_true rfl⟩) hK hw.1 0 rfl rfl rfl hl.1 rfl (Nat.le_of_ble_eq_true rfl) ⟨show n1 + 1 + 0 ≤ 601024 by omega, show n2 + 6 + 0 ≤ 7293034 by omega⟩ dL_law_767 ?_
    have hw := pmB hw
    refine lv_iload hx hb dL_law_770 (lv_at hl 1 rfl) ?_
    refine lv_icmp_eq (tgt := 777) hx hb dL_law_772 (by decide) (fun _ => ?_) (fun h => absurd rfl h)
    refine lv_iload hx hb dL_law_777 (lv_at hl 1 rfl) ?_
    refine lv_if_ne (tgt := 794) hx hb dL_law_779 (by decide) (fun h => absurd (by rw [h0]; rfl) h) (fun _ => ?_)
    refine lv_aload_n hx hb dL_law_782 rfl (lv_at hl 5 rfl) ?_
    refine lv_iconst (v := nI 0) hx hb dL_law_783 rfl ?_
    refine va_lald hx hb hJ hw.1 18 0 rfl rfl (vp_in_nI (by decide) (by decide)) dL_law_784 ?_
    refine lv_iload hx hb dL_law_785 (lv_at hl 0 rfl) ?_
    refine lv_i2l hx hb dL_law_787 rfl ?_
    refine q_stk (show _ = ([.long (nI (stT (9 * ix (xs (nI (i + 1)).toNatClampNeg) + ix (xs (nI (i + 2)).toNatClampNeg)))).toInt64, .long (nI (stT (9 * ix (xs (nI (i + 1)).toNatClampNeg) + ix (xs (nI (i + 2)).toNatClampNeg)))).toInt64] : List Value) from by rw [nI_clamp (show 0 < 2 ^ 31 by decide)]; rfl) ?_
    refine q_lcmp0 hx hb dL_law_788 ?_
    refine q_ifeqN (a := 0) (tgt := 794) hx hb dL_law_789 (by decide) (by decide) (fun _ => ?_) (fun h => absurd h (by decide))
    refine lv_goto (tgt := 1528) hx hb dL_law_794 (by decide) ?_
    exact k _ _ _ ⟨σ, kept, nxt, cnt, tx, len, pos, pp, lc, on, ov, saved, bef, c2 (xs (nI (i + 1)).toNatClampNeg) 7 (xs (nI (i + 2)).toNatClampNeg) 9, t9, l9, x9, y9, d9, hs, vp_updL out 0 (nI (stT (9 * ix (xs (nI (i + 1)).toNatClampNeg) + ix (xs (nI (i + 2)).toNatClampNeg)))).toInt64, hw, hI, hv, ht, hlen, ob1, ob2⟩ (lv_sub hl [2, 3, 4, 5, 6] rfl)
  · skip
    have hw := pmA hw
    refine q_wV0 (As := [.int (xs (nI (i + 1)).toNatClampNeg), .int (xs (nI (i + 2)).toNatClampNeg)]) (rest := []) (st1 := [.int (nI (if c2 (xs (nI (i + 1)).toNatClampNeg) 7 (xs (nI (i + 2)).toNatClampNeg) 9 = 0 then (stT (9 * ix (xs (nI (i + 1)).toNatClampNeg) + ix (xs (nI (i + 2)).toNatClampNeg))) else 0))]) ⟨hx, hb, hml, hown, hts⟩ (c_X7_stripeAt D cy A b σ saved cnt bef (tI tx) len thr t9 (nI l9) (nO x9) (nO y9) d9 hs (wX cy a σ kept nxt cnt (tI tx) len pos (nI pp) (nI lc) (nO on) (nO ov) ++ [(o, .inl (cJ, 1, .inr (.inl out)))]) (xs (nI (i + 1)).toNatClampNeg) (xs (nI (i + 2)).toNatClampNeg) ) (cwV 2 hts gL_law_X7_stripeAt rfl rfl rfl hd_X7_stripeAt ⟨Nat.le_of_ble_eq_true rfl, Nat.le_of_ble_eq_true rfl⟩) hK hA hw 0 rfl rfl rfl hl.1 rfl rfl (Nat.le_of_ble_eq_true rfl) ⟨show n1 + 1 + 0 ≤ 601024 by omega, show n2 + 6 + 0 ≤ 7293034 by omega⟩ dL_law_761 (fun H locs hw => ?_)
    refine q_top (show (nI (if c2 (xs (nI (i + 1)).toNatClampNeg) 7 (xs (nI (i + 2)).toNatClampNeg) 9 = 0 then (stT (9 * ix (xs (nI (i + 1)).toNatClampNeg) + ix (xs (nI (i + 2)).toNatClampNeg))) else 0)) = nI 0 from by first | (rw [if_neg h0]; done) | (rw [if_neg h0]; rfl)) ?_
    refine lv_istore (lv' := [(6, .int (nI 0)), (5, .int (nI (c2 (xs (nI (i + 1)).toNatClampNeg) 7 (xs (nI (i + 2)).toNatClampNeg) 9))), (0, .ref bs), (1, .ref (a 0)), (2, .ref (b 0)), (3, .ref o), (4, .int (nI i))]) hx hb dL_law_764 hl (by decide) rfl (fun ls hl => ?_)
    refine lv_aload_n hx hb dL_law_766 rfl (lv_at hl 4 rfl) ?_
    refine q_cV (As := []) (rest := []) ⟨hx, hb, hml, hown, hts⟩ (c_X7_thrown D cy b σ saved cnt bef (tI tx) len (c2 (xs (nI (i + 1)).toNatClampNeg) 7 (xs (nI (i + 2)).toNatClampNeg) 9) t9 (nI l9) (nO x9) (nO y9) d9 hs (wX cy a σ kept nxt cnt (tI tx) len pos (nI pp) (nI lc) (nO on) (nO ov) ++ [(o, .inl (cJ, 1, .inr (.inl out)))])) (cwV 0 hts gL_law_X7_thrown rfl rfl rfl hd_X7_thrown ⟨Nat.le_of_ble_eq_true rfl, Nat.le_of_ble_eq_true rfl⟩) hK hw.1 0 rfl rfl rfl hl.1 rfl (Nat.le_of_ble_eq_true rfl) ⟨show n1 + 1 + 0 ≤ 601024 by omega, show n2 + 6 + 0 ≤ 7293034 by omega⟩ dL_law_767 ?_
    have hw := pmB hw
    refine lv_iload hx hb dL_law_770 (lv_at hl 1 rfl) ?_
    refine lv_icmp_eq (tgt := 777) hx hb dL_law_772 (by decide) (fun _ => ?_) (fun h => absurd rfl h)
    refine lv_iload hx hb dL_law_777 (lv_at hl 1 rfl) ?_
    refine lv_if_ne (tgt := 794) hx hb dL_law_779 (by decide) (fun _ => ?_) (fun h => absurd h (code_ne h0 (by have h9 : c2 (xs (nI (i + 1)).toNatClampNeg) 7 (xs (nI (i + 2)).toNatClampNeg) 9 ≤ 3 := Nat.le_trans (c2_le _ _ _ _) (by decide); omega)))
    refine lv_goto (tgt := 1528) hx hb dL_law_794 (by decide) ?_
    exact k _ _ _ ⟨σ, kept, nxt, cnt, tx, len, pos, pp, lc, on, ov, saved, bef, c2 (xs (nI (i + 1)).toNatClampNeg) 7 (xs (nI (i + 2)).toNatClampNeg) 9, t9, l9, x9, y9, d9, hs, out, hw, hI, hv, ht, hlen, ob1, ob2⟩ (lv_sub hl [2, 3, 4, 5, 6] rfl)
set_option maxHeartbeats 1000000 in
set_option maxRecDepth 100000 in
theorem la_place {p : Program} {l : Launch} {e : Env} {s : State} {m : MethodId} {args : Array Value} {below : List Frame} {meth : Method} {c : Code} {H : Heap} {locs : List Loc} {n1 n2 : Nat} {Q : State → Prop} {ls : Array Slot} {D : va_G} {cy cJ : ClassId} {A : Nat → Prop} {a b : Nat → Nat} {o bs L i : Nat} {xs : Nat → Int32} (C : lC p l s args m meth c D cy cJ A bs L xs) (hw : lawS D cy cJ A a b o s H locs) (hl : lv_has ls 9 [(0, .ref bs), (1, .ref (a 0)), (2, .ref (b 0)), (3, .ref o), (4, .int (nI i))]) (hi : i + 4 ≤ L) (hL : L ≤ 2048) (hn1 : n1 + 1 ≤ 601024) (hn2 : n2 + 6 ≤ 7293034)
    (k : ∀ (H : Heap) (locs : List Loc) (ls : Array Slot), lawS D cy cJ A a b o s H locs → lv_has ls 9 [(0, .ref bs), (1, .ref (a 0)), (2, .ref (b 0)), (3, .ref o), (4, .int (nI i))] → W p l e room_1 s m args below meth c H locs (n1 + 1) (n2 + 6) Q (F0 m 1528 ls [])) : W p l e room_1 s m args below meth c H locs n1 n2 Q (F0 m 797 ls []) := by
  obtain ⟨hx, hb, hml, hown, hts, hX, hbl, hbA, hK, hJ, hA, hN, hC, hst⟩ := C
  obtain ⟨σ, kept, nxt, cnt, tx, len, pos, pp, lc, on, ov, saved, bef, thr, t9, l9, x9, y9, d9, hs, out, hw, hI, hv, ht, hlen, ob1, ob2⟩ := hw
  have hw : wS D A (wX cy a σ kept nxt cnt (tI tx) len pos (nI pp) (nI lc) (nO on) (nO ov) ++ ((o, .inl (cJ, 1, .inr (.inl out))) :: wM cy b (mS σ) saved cnt bef (tI tx) len thr t9 (nI l9) (nO x9) (nO y9) d9 hs)) s H locs := hw
  refine lv_aload_n hx hb dL_law_797 rfl (lv_at hl 1 rfl) ?_
  refine lv_aload_n hx hb dL_law_798 rfl (lv_at hl 0 rfl) ?_
  refine lv_iload hx hb dL_law_799 (lv_at hl 4 rfl) ?_
  refine lv_iconst (v := nI 1) hx hb dL_law_801 rfl ?_
  refine q_addN hx hb dL_law_802 ?_
  refine va_sld hx hb hX hbl hbA hw.2.2 (vp_in_nI (show i + 1 < L by omega) (by omega)) dL_law_803 ?_
  refine lv_aload_n hx hb dL_law_804 rfl (lv_at hl 0 rfl) ?_
  refine lv_iload hx hb dL_law_805 (lv_at hl 4 rfl) ?_
  refine lv_iconst (v := nI 2) hx hb dL_law_807 rfl ?_
  refine q_addN hx hb dL_law_808 ?_
  refine va_sld hx hb hX hbl hbA hw.2.2 (vp_in_nI (show i + 2 < L by omega) (by omega)) dL_law_809 ?_
  refine lv_aload_n hx hb dL_law_810 rfl (lv_at hl 3 rfl) ?_
  refine q_lS (As := [.ref (a 0), .int (xs (nI (i + 1)).toNatClampNeg), .int (xs (nI (i + 2)).toNatClampNeg), .ref o]) (rest := []) ⟨hx, hb, hml, hown, hts⟩ (c_L_place hst D cy cJ A a σ kept nxt cnt (tI tx) len pos (nI pp) (nI lc) (nO on) (nO ov) (wM cy b (mS σ) saved cnt bef (tI tx) len thr t9 (nI l9) (nO x9) (nO y9) d9 hs) o out (xs (nI (i + 1)).toNatClampNeg) (xs (nI (i + 2)).toNatClampNeg) ) (vx_cwSW 4 hts gL_law_L_place rfl rfl rfl hd_L_place ⟨Nat.le_of_ble_eq_true rfl, Nat.le_of_ble_eq_true rfl⟩) hK hJ hC hA hN hw rfl hl.1 rfl (Nat.le_of_ble_eq_true rfl) ⟨show n1 + 1 ≤ 601024 by omega, show n2 + 6 ≤ 7293034 by omega⟩ dL_law_811 (fun H locs v8 w8 hp hw => ?_)
  obtain ⟨rfl, hcase⟩ := hp
  refine q_stk (show _ = ([.int (nI (c2 (xs (nI (i + 1)).toNatClampNeg) 21 (xs (nI (i + 2)).toNatClampNeg) 3))] : List Value) from rfl) ?_
  refine lv_istore (lv' := [(5, .int (nI (c2 (xs (nI (i + 1)).toNatClampNeg) 21 (xs (nI (i + 2)).toNatClampNeg) 3))), (0, .ref bs), (1, .ref (a 0)), (2, .ref (b 0)), (3, .ref o), (4, .int (nI i))]) hx hb dL_law_814 hl (by decide) rfl (fun ls hl => ?_)
  refine lv_aload_n hx hb dL_law_816 rfl (lv_at hl 3 rfl) ?_
  refine lv_aload_n hx hb dL_law_817 rfl (lv_at hl 1 rfl) ?_
  refine lv_iload hx hb dL_law_818 (lv_at hl 5 rfl) ?_
  refine lv_iconst (v := nI 1) hx hb dL_law_820 rfl ?_
  refine q_addN hx hb dL_law_821 ?_
  refine va_sld hx hb hX hbl hbA hw.2.2 (vp_in_nI (show i + 1 < L by omega) (by omega)) dL_law_822 ?_
  refine lv_aload_n hx hb dL_law_823 rfl (lv_at hl 1 rfl) ?_
  refine lv_iload hx hb dL_law_824 (lv_at hl 5 rfl) ?_
  refine lv_iconst (v := nI 2) hx hb dL_law_826 rfl ?_
  refine q_addN hx hb dL_law_827 ?_
  refine va_sld hx hb hX hbl hbA hw.2.2 (vp_in_nI (show i + 2 < L by omega) (by omega)) dL_law_828 ?_
  rcases hcase with ⟨h0, rfl⟩ | ⟨h0, rfl⟩
  · skip
    have hw := pmA hw
    refine q_wV0 (As := [.int (xs (nI (i + 1)).toNatClampNeg), .int (xs (nI (i + 2)).toNatClampNeg)]) (rest := []) (st1 := [.int (nI (if c2 (xs (nI (i + 1)).toNatClampNeg) 21 (xs (nI (i + 2)).toNatClampNeg) 3 = 0 then (10 * (spT (3 * ix (xs (nI (i + 1)).toNatClampNeg) + ix (xs (nI (i + 2)).toNatClampNeg)) / 9) + spT (3 * ix (xs (nI (i + 1)).toNatClampNeg) + ix (xs (nI (i + 2)).toNatClampNeg)) % 9) else 0))]) ⟨hx, hb, hml, hown, hts⟩ (c_X7_place D cy A b σ saved cnt bef (tI tx) len thr t9 (nI l9) (nO x9) (nO y9) d9 hs (wX cy a σ kept nxt cnt (tI tx) len pos (nI pp) (nI lc) (nO on) (nO ov) ++ [(o, .inl (cJ, 1, .inr (.inl (vp_updL out 0 (nI (10 * (spT (3 * ix (xs (nI (i + 1)).toNatClampNeg) + ix (xs (nI (i + 2)).toNatClampNeg)) / 9) + spT (3 * ix (xs (nI (i + 1)).toNatClampNeg) + ix (xs (nI (i + 2)).toNatClampNeg)) % 9)).toInt64))))]) (xs (nI (i + 1)).toNatClampNeg) (xs (nI (i + 2)).toNatClampNeg) ) (cwV 2 hts gL_law_X7_place rfl rfl rfl hd_X7_place ⟨Nat.le_of_ble_eq_true rfl, Nat.le_of_ble_eq_true rfl⟩) hK hA hw 0 rfl rfl rfl hl.1 rfl rfl (Nat.le_of_ble_eq_true rfl) ⟨show n1 + 1 + 0 ≤ 601024 by omega, show n2 + 6 + 0 ≤ 7293034 by omega⟩ dL_law_829 (fun H locs hw => ?_)
    refine q_top (show (nI (if c2 (xs (nI (i + 1)).toNatClampNeg) 21 (xs (nI (i + 2)).toNatClampNeg) 3 = 0 then (10 * (spT (3 * ix (xs (nI (i + 1)).toNatClampNeg) + ix (xs (nI (i + 2)).toNatClampNeg)) / 9) + spT (3 * ix (xs (nI (i + 1)).toNatClampNeg) + ix (xs (nI (i + 2)).toNatClampNeg)) % 9) else 0)) = nI (10 * (spT (3 * ix (xs (nI (i + 1)).toNatClampNeg) + ix (xs (nI (i + 2)).toNatClampNeg)) / 9) + spT (3 * ix (xs (nI (i + 1)).toNatClampNeg) + ix (xs (nI (i + 2)).toNatClampNeg)) % 9) from by first | (rw [if_pos h0]; done) | (rw [if_pos h0]; rfl)) ?_
    refine lv_istore (lv' := [(6, .int (nI (10 * (spT (3 * ix (xs (nI (i + 1)).toNatClampNeg) + ix (xs (nI (i + 2)).toNatClampNeg)) / 9) + spT (3 * ix (xs (nI (i + 1)).toNatClampNeg) + ix (xs (nI (i + 2)).toNatClampNeg)) % 9))), (5, .int (nI (c2 (xs (nI (i + 1)).toNatClampNeg) 21 (xs (nI (i + 2)).toNatClampNeg) 3))), (0, .ref bs), (1, .ref (a 0)), (2, .ref (b 0)), (3, .ref o), (4, .int (nI i))]) hx hb dL_law_832 hl (by decide) rfl (fun ls hl => ?_)
    refine lv_aload_n hx hb dL_law_834 rfl (lv_at hl 4 rfl) ?_
    refine q_cV (As := []) (rest := []) ⟨hx, hb, hml, hown, hts⟩ (c_X7_thrown D cy b σ saved cnt bef (tI tx) len (c2 (xs (nI (i + 1)).toNatClampNeg) 21 (xs (nI (i + 2)).toNatClampNeg) 3) t9 (nI l9) (nO x9) (nO y9) d9 hs (wX cy a σ kept nxt cnt (tI tx) len pos (nI pp) (nI lc) (nO on) (nO ov) ++ [(o, .inl (cJ, 1, .inr (.inl (vp_updL out 0 (nI (10 * (spT (3 * ix (xs (nI (i + 1)).toNatClampNeg) + ix (xs (nI (i + 2)).toNatClampNeg)) / 9) + spT (3 * ix (xs (nI (i + 1)).toNatClampNeg) + ix (xs (nI (i + 2)).toNatClampNeg)) % 9)).toInt64))))])) (cwV 0 hts gL_law_X7_thrown rfl rfl rfl hd_X7_thrown ⟨Nat.le_of_ble_eq_true rfl, Nat.le_of_ble_eq_true rfl⟩) hK hw.1 0 rfl rfl rfl hl.1 rfl (Nat.le_of_ble_eq_true rfl) ⟨show n1 + 1 + 0 ≤ 601024 by omega, show n2 + 6 + 0 ≤ 7293034 by omega⟩ dL_law_835 ?_
    have hw := pmB hw
    refine lv_iload hx hb dL_law_838 (lv_at hl 1 rfl) ?_
    refine lv_icmp_eq (tgt := 845) hx hb dL_law_840 (by decide) (fun _ => ?_) (fun h => absurd rfl h)
    refine lv_iload hx hb dL_law_845 (lv_at hl 1 rfl) ?_
    refine lv_if_ne (tgt := 862) hx hb dL_law_847 (by decide) (fun h => absurd (by rw [h0]; rfl) h) (fun _ => ?_)
    refine lv_aload_n hx hb dL_law_850 rfl (lv_at hl 5 rfl) ?_
    refine lv_iconst (v := nI 0) hx hb dL_law_851 rfl ?_
    refine va_lald hx hb hJ hw.1 18 0 rfl rfl (vp_in_nI (by decide) (by decide)) dL_law_852 ?_
    refine lv_iload hx hb dL_law_853 (lv_at hl 0 rfl) ?_
    refine lv_i2l hx hb dL_law_855 rfl ?_
    refine q_stk (show _ = ([.long (nI (10 * (spT (3 * ix (xs (nI (i + 1)).toNatClampNeg) + ix (xs (nI (i + 2)).toNatClampNeg)) / 9) + spT (3 * ix (xs (nI (i + 1)).toNatClampNeg) + ix (xs (nI (i + 2)).toNatClampNeg)) % 9)).toInt64, .long (nI (10 * (spT (3 * ix (xs (nI (i + 1)).toNatClampNeg) + ix (xs (nI (i + 2)).toNatClampNeg)) / 9) + spT (3 * ix (xs (nI (i + 1)).toNatClampNeg) + ix (xs (nI (i + 2)).toNatClampNeg)) % 9)).toInt64] : List Value) from by rw [nI_clamp (show 0 < 2 ^ 31 by decide)]; rfl) ?_
    refine q_lcmp0 hx hb dL_law_856 ?_
    refine q_ifeqN (a := 0) (tgt := 862) hx hb dL_law_857 (by decide) (by decide) (fun _ => ?_) (fun h => absurd h (by decide))
    refine lv_goto (tgt := 1528) hx hb dL_law_862 (by decide) ?_
    exact k _ _ _ ⟨σ, kept, nxt, cnt, tx, len, pos, pp, lc, on, ov, saved, bef, c2 (xs (nI (i + 1)).toNatClampNeg) 21 (xs (nI (i + 2)).toNatClampNeg) 3, t9, l9, x9, y9, d9, hs, vp_updL out 0 (nI (10 * (spT (3 * ix (xs (nI (i + 1)).toNatClampNeg) + ix (xs (nI (i + 2)).toNatClampNeg)) / 9) + spT (3 * ix (xs (nI (i + 1)).toNatClampNeg) + ix (xs (nI (i + 2)).toNatClampNeg)) % 9)).toInt64, hw, hI, hv, ht, hlen, ob1, ob2⟩ (lv_sub hl [2, 3, 4, 5, 6] rfl)
  · skip
    have hw := pmA hw
    refine q_wV0 (As := [.int (xs (nI (i + 1)).toNatClampNeg), .int (xs (nI (i + 2)).toNatClampNeg)]) (rest := []) (st1 := [.int (nI (if c2 (xs (nI (i + 1)).toNatClampNeg) 21 (xs (nI (i + 2)).toNatClampNeg) 3 = 0 then (10 * (spT (3 * ix (xs (nI (i + 1)).toNatClampNeg) + ix (xs (nI (i + 2)).toNatClampNeg)) / 9) + spT (3 * ix (xs (nI (i + 1)).toNatClampNeg) + ix (xs (nI (i + 2)).toNatClampNeg)) % 9) else 0))]) ⟨hx, hb, hml, hown, hts⟩ (c_X7_place D cy A b σ saved cnt bef (tI tx) len thr t9 (nI l9) (nO x9) (nO y9) d9 hs (wX cy a σ kept nxt cnt (tI tx) len pos (nI pp) (nI lc) (nO on) (nO ov) ++ [(o, .inl (cJ, 1, .inr (.inl out)))]) (xs (nI (i + 1)).toNatClampNeg) (xs (nI (i + 2)).toNatClampNeg) ) (cwV 2 hts gL_law_X7_place rfl rfl rfl hd_X7_place ⟨Nat.le_of_ble_eq_true rfl, Nat.le_of_ble_eq_true rfl⟩) hK hA hw 0 rfl rfl rfl hl.1 rfl rfl (Nat.le_of_ble_eq_true rfl) ⟨show n1 + 1 + 0 ≤ 601024 by omega, show n2 + 6 + 0 ≤ 7293034 by omega⟩ dL_law_829 (fun H locs hw => ?_)
    refine q_top (show (nI (if c2 (xs (nI (i + 1)).toNatClampNeg) 21 (xs (nI (i + 2)).toNatClampNeg) 3 = 0 then (10 * (spT (3 * ix (xs (nI (i + 1)).toNatClampNeg) + ix (xs (nI (i + 2)).toNatClampNeg)) / 9) + spT (3 * ix (xs (nI (i + 1)).toNatClampNeg) + ix (xs (nI (i + 2)).toNatClampNeg)) % 9) else 0)) = nI 0 from by first | (rw [if_neg h0]; done) | (rw [if_neg h0]; rfl)) ?_
    refine lv_istore (lv' := [(6, .int (nI 0)), (5, .int (nI (c2 (xs (nI (i + 1)).toNatClampNeg) 21 (xs (nI (i + 2)).toNatClampNeg) 3))), (0, .ref bs), (1, .ref (a 0)), (2, .ref (b 0)), (3, .ref o), (4, .int (nI i))]) hx hb dL_law_832 hl (by decide) rfl (fun ls hl => ?_)
    refine lv_aload_n hx hb dL_law_834 rfl (lv_at hl 4 rfl) ?_
    refine q_cV (As := []) (rest := []) ⟨hx, hb, hml, hown, hts⟩ (c_X7_thrown D cy b σ saved cnt bef (tI tx) len (c2 (xs (nI (i + 1)).toNatClampNeg) 21 (xs (nI (i + 2)).toNatClampNeg) 3) t9 (nI l9) (nO x9) (nO y9) d9 hs (wX cy a σ kept nxt cnt (tI tx) len pos (nI pp) (nI lc) (nO on) (nO ov) ++ [(o, .inl (cJ, 1, .inr (.inl out)))])) (cwV 0 hts gL_law_X7_thrown rfl rfl rfl hd_X7_thrown ⟨Nat.le_of_ble_eq_true rfl, Nat.le_of_ble_eq_true rfl⟩) hK hw.1 0 rfl rfl rfl hl.1 rfl (Nat.le_of_ble_eq_true rfl) ⟨show n1 + 1 + 0 ≤ 601024 by omega, show n2 + 6 + 0 ≤ 7293034 by omega⟩ dL_law_835 ?_
    have hw := pmB hw
    refine lv_iload hx hb dL_law_838 (lv_at hl 1 rfl) ?_
    refine lv_icmp_eq (tgt := 845) hx hb dL_law_840 (by decide) (fun _ => ?_) (fun h => absurd rfl h)
    refine lv_iload hx hb dL_law_845 (lv_at hl 1 rfl) ?_
    refine lv_if_ne (tgt := 862) hx hb dL_law_847 (by decide) (fun _ => ?_) (fun h => absurd h (code_ne h0 (by have h9 : c2 (xs (nI (i + 1)).toNatClampNeg) 21 (xs (nI (i + 2)).toNatClampNeg) 3 ≤ 3 := Nat.le_trans (c2_le _ _ _ _) (by decide); omega)))
    refine lv_goto (tgt := 1528) hx hb dL_law_862 (by decide) ?_
    exact k _ _ _ ⟨σ, kept, nxt, cnt, tx, len, pos, pp, lc, on, ov, saved, bef, c2 (xs (nI (i + 1)).toNatClampNeg) 21 (xs (nI (i + 2)).toNatClampNeg) 3, t9, l9, x9, y9, d9, hs, out, hw, hI, hv, ht, hlen, ob1, ob2⟩ (lv_sub hl [2, 3, 4, 5, 6] rfl)
set_option maxHeartbeats 1000000 in
set_option maxRecDepth 100000 in
theorem la_unit {p : Program} {l : Launch} {e : Env} {s : State} {m : MethodId} {args : Array Value} {below : List Frame} {meth : Method} {c : Code} {H : Heap} {locs : List Loc} {n1 n2 : Nat} {Q : State → Prop} {ls : Array Slot} {D : va_G} {cy cJ : ClassId} {A : Nat → Prop} {a b : Nat → Nat} {o bs L i : Nat} {xs : Nat → Int32} (C : lC p l s args m meth c D cy cJ A bs L xs) (hw : lawS D cy cJ A a b o s H locs) (hl : lv_has ls 9 [(0, .ref bs), (1, .ref (a 0)), (2, .ref (b 0)), (3, .ref o), (4, .int (nI i))]) (hi : i + 4 ≤ L) (hL : L ≤ 2048) (hn1 : n1 + 1 ≤ 601024) (hn2 : n2 + 6 ≤ 7293034)
    (k : ∀ (H : Heap) (locs : List Loc) (ls : Array Slot), lawS D cy cJ A a b o s H locs → lv_has ls 9 [(0, .ref bs), (1, .ref (a 0)), (2, .ref (b 0)), (3, .ref o), (4, .int (nI i))] → W p l e room_1 s m args below meth c H locs (n1 + 1) (n2 + 6) Q (F0 m 1528 ls [])) : W p l e room_1 s m args below meth c H locs n1 n2 Q (F0 m 865 ls []) := by
  obtain ⟨hx, hb, hml, hown, hts, hX, hbl, hbA, hK, hJ, hA, hN, hC, hst⟩ := C
  obtain ⟨σ, kept, nxt, cnt, tx, len, pos, pp, lc, on, ov, saved, bef, thr, t9, l9, x9, y9, d9, hs, out, hw, hI, hv, ht, hlen, ob1, ob2⟩ := hw
  have hw : wS D A (wX cy a σ kept nxt cnt (tI tx) len pos (nI pp) (nI lc) (nO on) (nO ov) ++ ((o, .inl (cJ, 1, .inr (.inl out))) :: wM cy b (mS σ) saved cnt bef (tI tx) len thr t9 (nI l9) (nO x9) (nO y9) d9 hs)) s H locs := hw
  refine lv_aload_n hx hb dL_law_865 rfl (lv_at hl 1 rfl) ?_
  refine lv_aload_n hx hb dL_law_866 rfl (lv_at hl 0 rfl) ?_
  refine lv_iload hx hb dL_law_867 (lv_at hl 4 rfl) ?_
  refine lv_iconst (v := nI 1) hx hb dL_law_869 rfl ?_
  refine q_addN hx hb dL_law_870 ?_
  refine va_sld hx hb hX hbl hbA hw.2.2 (vp_in_nI (show i + 1 < L by omega) (by omega)) dL_law_871 ?_
  refine lv_aload_n hx hb dL_law_872 rfl (lv_at hl 0 rfl) ?_
  refine lv_iload hx hb dL_law_873 (lv_at hl 4 rfl) ?_
  refine lv_iconst (v := nI 2) hx hb dL_law_875 rfl ?_
  refine q_addN hx hb dL_law_876 ?_
  refine va_sld hx hb hX hbl hbA hw.2.2 (vp_in_nI (show i + 2 < L by omega) (by omega)) dL_law_877 ?_
  refine lv_aload_n hx hb dL_law_878 rfl (lv_at hl 3 rfl) ?_
  refine q_lS (As := [.ref (a 0), .int (xs (nI (i + 1)).toNatClampNeg), .int (xs (nI (i + 2)).toNatClampNeg), .ref o]) (rest := []) ⟨hx, hb, hml, hown, hts⟩ (c_L_unit hst D cy cJ A a σ kept nxt cnt (tI tx) len pos (nI pp) (nI lc) (nO on) (nO ov) (wM cy b (mS σ) saved cnt bef (tI tx) len thr t9 (nI l9) (nO x9) (nO y9) d9 hs) o out (xs (nI (i + 1)).toNatClampNeg) (xs (nI (i + 2)).toNatClampNeg) ) (vx_cwSW 4 hts gL_law_L_unit rfl rfl rfl hd_L_unit ⟨Nat.le_of_ble_eq_true rfl, Nat.le_of_ble_eq_true rfl⟩) hK hJ hC hA hN hw rfl hl.1 rfl (Nat.le_of_ble_eq_true rfl) ⟨show n1 + 1 ≤ 601024 by omega, show n2 + 6 ≤ 7293034 by omega⟩ dL_law_879 (fun H locs v8 w8 hp hw => ?_)
  obtain ⟨rfl, hcase⟩ := hp
  refine q_stk (show _ = ([.int (nI (c2 (xs (nI (i + 1)).toNatClampNeg) 7 (xs (nI (i + 2)).toNatClampNeg) 9))] : List Value) from rfl) ?_
  refine lv_istore (lv' := [(5, .int (nI (c2 (xs (nI (i + 1)).toNatClampNeg) 7 (xs (nI (i + 2)).toNatClampNeg) 9))), (0, .ref bs), (1, .ref (a 0)), (2, .ref (b 0)), (3, .ref o), (4, .int (nI i))]) hx hb dL_law_882 hl (by decide) rfl (fun ls hl => ?_)
  refine lv_aload_n hx hb dL_law_884 rfl (lv_at hl 3 rfl) ?_
  refine lv_aload_n hx hb dL_law_885 rfl (lv_at hl 1 rfl) ?_
  refine lv_iload hx hb dL_law_886 (lv_at hl 5 rfl) ?_
  refine lv_iconst (v := nI 1) hx hb dL_law_888 rfl ?_
  refine q_addN hx hb dL_law_889 ?_
  refine va_sld hx hb hX hbl hbA hw.2.2 (vp_in_nI (show i + 1 < L by omega) (by omega)) dL_law_890 ?_
  refine lv_aload_n hx hb dL_law_891 rfl (lv_at hl 1 rfl) ?_
  refine lv_iload hx hb dL_law_892 (lv_at hl 5 rfl) ?_
  refine lv_iconst (v := nI 2) hx hb dL_law_894 rfl ?_
  refine q_addN hx hb dL_law_895 ?_
  refine va_sld hx hb hX hbl hbA hw.2.2 (vp_in_nI (show i + 2 < L by omega) (by omega)) dL_law_896 ?_
  rcases hcase with ⟨h0, rfl⟩ | ⟨h0, rfl⟩
  · skip
    have hw := pmA hw
    refine q_wV0 (As := [.int (xs (nI (i + 1)).toNatClampNeg), .int (xs (nI (i + 2)).toNatClampNeg)]) (rest := []) (st1 := [.int (if c2 (xs (nI (i + 1)).toNatClampNeg) 7 (xs (nI (i + 2)).toNatClampNeg) 9 = 0 then vis σ (9 * ix (xs (nI (i + 1)).toNatClampNeg) + ix (xs (nI (i + 2)).toNatClampNeg)) else 0)]) ⟨hx, hb, hml, hown, hts⟩ (c_X7_unit D cy A b σ saved cnt bef (tI tx) len thr t9 (nI l9) (nO x9) (nO y9) d9 hs (wX cy a σ kept nxt cnt (tI tx) len pos (nI pp) (nI lc) (nO on) (nO ov) ++ [(o, .inl (cJ, 1, .inr (.inl (vp_updL out 0 (vis σ (9 * ix (xs (nI (i + 1)).toNatClampNeg) + ix (xs (nI (i + 2)).toNatClampNeg))).toInt64))))]) (xs (nI (i + 1)).toNatClampNeg) (xs (nI (i + 2)).toNatClampNeg) ) (cwV 2 hts gL_law_X7_unit rfl rfl rfl hd_X7_unit ⟨Nat.le_of_ble_eq_true rfl, Nat.le_of_ble_eq_true rfl⟩) hK hA hw 0 rfl rfl rfl hl.1 rfl rfl (Nat.le_of_ble_eq_true rfl) ⟨show n1 + 1 + 0 ≤ 601024 by omega, show n2 + 6 + 0 ≤ 7293034 by omega⟩ dL_law_897 (fun H locs hw => ?_)
    refine q_top (show (if c2 (xs (nI (i + 1)).toNatClampNeg) 7 (xs (nI (i + 2)).toNatClampNeg) 9 = 0 then vis σ (9 * ix (xs (nI (i + 1)).toNatClampNeg) + ix (xs (nI (i + 2)).toNatClampNeg)) else 0) = vis σ (9 * ix (xs (nI (i + 1)).toNatClampNeg) + ix (xs (nI (i + 2)).toNatClampNeg)) from by first | (rw [if_pos h0]; done) | (rw [if_pos h0]; rfl)) ?_
    refine lv_istore (lv' := [(6, .int (vis σ (9 * ix (xs (nI (i + 1)).toNatClampNeg) + ix (xs (nI (i + 2)).toNatClampNeg)))), (5, .int (nI (c2 (xs (nI (i + 1)).toNatClampNeg) 7 (xs (nI (i + 2)).toNatClampNeg) 9))), (0, .ref bs), (1, .ref (a 0)), (2, .ref (b 0)), (3, .ref o), (4, .int (nI i))]) hx hb dL_law_900 hl (by decide) rfl (fun ls hl => ?_)
    refine lv_aload_n hx hb dL_law_902 rfl (lv_at hl 4 rfl) ?_
    refine q_cV (As := []) (rest := []) ⟨hx, hb, hml, hown, hts⟩ (c_X7_thrown D cy b σ saved cnt bef (tI tx) len (c2 (xs (nI (i + 1)).toNatClampNeg) 7 (xs (nI (i + 2)).toNatClampNeg) 9) t9 (nI l9) (nO x9) (nO y9) d9 hs (wX cy a σ kept nxt cnt (tI tx) len pos (nI pp) (nI lc) (nO on) (nO ov) ++ [(o, .inl (cJ, 1, .inr (.inl (vp_updL out 0 (vis σ (9 * ix (xs (nI (i + 1)).toNatClampNeg) + ix (xs (nI (i + 2)).toNatClampNeg))).toInt64))))])) (cwV 0 hts gL_law_X7_thrown rfl rfl rfl hd_X7_thrown ⟨Nat.le_of_ble_eq_true rfl, Nat.le_of_ble_eq_true rfl⟩) hK hw.1 0 rfl rfl rfl hl.1 rfl (Nat.le_of_ble_eq_true rfl) ⟨show n1 + 1 + 0 ≤ 601024 by omega, show n2 + 6 + 0 ≤ 7293034 by omega⟩ dL_law_903 ?_
    have hw := pmB hw
    refine lv_iload hx hb dL_law_906 (lv_at hl 1 rfl) ?_
    refine lv_icmp_eq (tgt := 913) hx hb dL_law_908 (by decide) (fun _ => ?_) (fun h => absurd rfl h)
    refine lv_iload hx hb dL_law_913 (lv_at hl 1 rfl) ?_
    refine lv_if_ne (tgt := 930) hx hb dL_law_915 (by decide) (fun h => absurd (by rw [h0]; rfl) h) (fun _ => ?_)
    refine lv_aload_n hx hb dL_law_918 rfl (lv_at hl 5 rfl) ?_
    refine lv_iconst (v := nI 0) hx hb dL_law_919 rfl ?_
    refine va_lald hx hb hJ hw.1 18 0 rfl rfl (vp_in_nI (by decide) (by decide)) dL_law_920 ?_
    refine lv_iload hx hb dL_law_921 (lv_at hl 0 rfl) ?_
    refine lv_i2l hx hb dL_law_923 rfl ?_
    refine q_stk (show _ = ([.long (vis σ (9 * ix (xs (nI (i + 1)).toNatClampNeg) + ix (xs (nI (i + 2)).toNatClampNeg))).toInt64, .long (vis σ (9 * ix (xs (nI (i + 1)).toNatClampNeg) + ix (xs (nI (i + 2)).toNatClampNeg))).toInt64] : List Value) from by rw [nI_clamp (show 0 < 2 ^ 31 by decide)]; rfl) ?_
    refine q_lcmp0 hx hb dL_law_924 ?_
    refine q_ifeqN (a := 0) (tgt := 930) hx hb dL_law_925 (by decide) (by decide) (fun _ => ?_) (fun h => absurd h (by decide))
    refine lv_goto (tgt := 1528) hx hb dL_law_930 (by decide) ?_
    exact k _ _ _ ⟨σ, kept, nxt, cnt, tx, len, pos, pp, lc, on, ov, saved, bef, c2 (xs (nI (i + 1)).toNatClampNeg) 7 (xs (nI (i + 2)).toNatClampNeg) 9, t9, l9, x9, y9, d9, hs, vp_updL out 0 (vis σ (9 * ix (xs (nI (i + 1)).toNatClampNeg) + ix (xs (nI (i + 2)).toNatClampNeg))).toInt64, hw, hI, hv, ht, hlen, ob1, ob2⟩ (lv_sub hl [2, 3, 4, 5, 6] rfl)
  · skip
    have hw := pmA hw
    refine q_wV0 (As := [.int (xs (nI (i + 1)).toNatClampNeg), .int (xs (nI (i + 2)).toNatClampNeg)]) (rest := []) (st1 := [.int (if c2 (xs (nI (i + 1)).toNatClampNeg) 7 (xs (nI (i + 2)).toNatClampNeg) 9 = 0 then vis σ (9 * ix (xs (nI (i + 1)).toNatClampNeg) + ix (xs (nI (i + 2)).toNatClampNeg)) else 0)]) ⟨hx, hb, hml, hown, hts⟩ (c_X7_unit D cy A b σ saved cnt bef (tI tx) len thr t9 (nI l9) (nO x9) (nO y9) d9 hs (wX cy a σ kept nxt cnt (tI tx) len pos (nI pp) (nI lc) (nO on) (nO ov) ++ [(o, .inl (cJ, 1, .inr (.inl out)))]) (xs (nI (i + 1)).toNatClampNeg) (xs (nI (i + 2)).toNatClampNeg) ) (cwV 2 hts gL_law_X7_unit rfl rfl rfl hd_X7_unit ⟨Nat.le_of_ble_eq_true rfl, Nat.le_of_ble_eq_true rfl⟩) hK hA hw 0 rfl rfl rfl hl.1 rfl rfl (Nat.le_of_ble_eq_true rfl) ⟨show n1 + 1 + 0 ≤ 601024 by omega, show n2 + 6 + 0 ≤ 7293034 by omega⟩ dL_law_897 (fun H locs hw => ?_)
    refine q_top (show (if c2 (xs (nI (i + 1)).toNatClampNeg) 7 (xs (nI (i + 2)).toNatClampNeg) 9 = 0 then vis σ (9 * ix (xs (nI (i + 1)).toNatClampNeg) + ix (xs (nI (i + 2)).toNatClampNeg)) else 0) = nI 0 from by first | (rw [if_neg h0]; done) | (rw [if_neg h0]; rfl)) ?_
    refine lv_istore (lv' := [(6, .int (nI 0)), (5, .int (nI (c2 (xs (nI (i + 1)).toNatClampNeg) 7 (xs (nI (i + 2)).toNatClampNeg) 9))), (0, .ref bs), (1, .ref (a 0)), (2, .ref (b 0)), (3, .ref o), (4, .int (nI i))]) hx hb dL_law_900 hl (by decide) rfl (fun ls hl => ?_)
    refine lv_aload_n hx hb dL_law_902 rfl (lv_at hl 4 rfl) ?_
    refine q_cV (As := []) (rest := []) ⟨hx, hb, hml, hown, hts⟩ (c_X7_thrown D cy b σ saved cnt bef (tI tx) len (c2 (xs (nI (i + 1)).toNatClampNeg) 7 (xs (nI (i + 2)).toNatClampNeg) 9) t9 (nI l9) (nO x9) (nO y9) d9 hs (wX cy a σ kept nxt cnt (tI tx) len pos (nI pp) (nI lc) (nO on) (nO ov) ++ [(o, .inl (cJ, 1, .inr (.inl out)))])) (cwV 0 hts gL_law_X7_thrown rfl rfl rfl hd_X7_thrown ⟨Nat.le_of_ble_eq_true rfl, Nat.le_of_ble_eq_true rfl⟩) hK hw.1 0 rfl rfl rfl hl.1 rfl (Nat.le_of_ble_eq_true rfl) ⟨show n1 + 1 + 0 ≤ 601024 by omega, show n2 + 6 + 0 ≤ 7293034 by omega⟩ dL_law_903 ?_
    have hw := pmB hw
    refine lv_iload hx hb dL_law_906 (lv_at hl 1 rfl) ?_
    refine lv_icmp_eq (tgt := 913) hx hb dL_law_908 (by decide) (fun _ => ?_) (fun h => absurd rfl h)
    refine lv_iload hx hb dL_law_913 (lv_at hl 1 rfl) ?_
    refine lv_if_ne (tgt := 930) hx hb dL_law_915 (by decide) (fun _ => ?_) (fun h => absurd h (code_ne h0 (by have h9 : c2 (xs (nI (i + 1)).toNatClampNeg) 7 (xs (nI (i + 2)).toNatClampNeg) 9 ≤ 3 := Nat.le_trans (c2_le _ _ _ _) (by decide); omega)))
    refine lv_goto (tgt := 1528) hx hb dL_law_930 (by decide) ?_
    exact k _ _ _ ⟨σ, kept, nxt, cnt, tx, len, pos, pp, lc, on, ov, saved, bef, c2 (xs (nI (i + 1)).toNatClampNeg) 7 (xs (nI (i + 2)).toNatClampNeg) 9, t9, l9, x9, y9, d9, hs, out, hw, hI, hv, ht, hlen, ob1, ob2⟩ (lv_sub hl [2, 3, 4, 5, 6] rfl)
