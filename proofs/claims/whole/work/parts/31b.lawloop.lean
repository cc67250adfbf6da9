theorem lawS.S {D : va_G} {cy cJ : ClassId} {A : Nat → Prop} {a b : Nat → Nat} {o : Nat} {s : State} {H : Heap} {locs : List Loc} (h : lawS D cy cJ A a b o s H locs) : va_S A s.heap H locs := by
  obtain ⟨σ, kept, nxt, cnt, tx, len, pos, pp, lc, on, ov, saved, bef, thr, t9, l9, x9, y9, d9, hs, out, hw, -⟩ := h
  exact hw.2.2
theorem and31 (x : Int32) : ∃ k : Nat, k < 32 ∧ x &&& nI 31 = nI k := by
  refine ⟨(x &&& nI 31).toBitVec.toNat, ?_, ?_⟩
  · rw [Int32.toBitVec_and, BitVec.toNat_and]
    exact Nat.lt_of_le_of_lt Nat.and_le_right (by decide)
  · apply Int32.toBitVec_inj.mp
    show _ = BitVec.ofNat 32 _
    rw [BitVec.ofNat_toNat, BitVec.setWidth_eq]
theorem sub4 {L i : Nat} (hL : L ≤ 2048) (hi : i ≤ 2052) : nI i > Int32.ofNat L - nI 4 ↔ L < i + 4 := by
  have e1 : (Int32.ofNat L - nI 4).toInt = (L : Int) - 4 := by
    rw [Int32.toInt_sub, show (Int32.ofNat L).toInt = (L : Int) from nI_toInt (by omega), nI_toInt (by omega)]
    rw [Int.bmod_eq_of_le (by omega) (by omega)]
    rfl
  show Int32.ofNat L - nI 4 < nI i ↔ _
  rw [Int32.lt_iff_toInt_lt, e1, nI_toInt (by omega)]
  omega
set_option maxHeartbeats 1000000 in
/-- the loop's test -/
theorem law_head {p : Program} {l : Launch} {e : Env} {s : State} {m : MethodId} {args : Array Value} {below : List Frame} {meth : Method} {c : Code} {Q : State → Prop} {D : va_G} {cy cJ : ClassId} {A : Nat → Prop} {a b : Nat → Nat} {o bs L : Nat} {xs : Nat → Int32} {H : Heap} {locs : List Loc} {ls : Array Slot} {i n1 n2 : Nat} (C : lC p l s args m meth c D cy cJ A bs L xs) (hL : L ≤ 2048) (hw : lawS D cy cJ A a b o s H locs) (hl : lv_has ls 9 [(0, .ref bs), (1, .ref (a 0)), (2, .ref (b 0)), (3, .ref o), (4, .int (nI i))]) (hi : i ≤ 2052)
    (k1 : L < i + 4 → W p l e room_1 s m args below meth c H locs n1 n2 Q (F0 m 1534 ls [])) (k2 : i + 4 ≤ L → W p l e room_1 s m args below meth c H locs n1 n2 Q (F0 m 32 ls [])) : W p l e room_1 s m args below meth c H locs n1 n2 Q (F0 m 23 ls []) := by
  obtain ⟨hx, hb, hml, hown, hts, hX, hbl, hbA, hK, hJ, hA, hN, hC, hst⟩ := id C
  refine lv_iload hx hb dL_law_23 (lv_at hl 4 rfl) ?_
  refine lv_aload_n hx hb dL_law_25 rfl (lv_at hl 0 rfl) ?_
  refine va_slen hx hb hX hbl hbA hw.S dL_law_26 ?_
  refine lv_iconst (v := nI 4) hx hb dL_law_27 rfl ?_
  refine lv_isub hx hb dL_law_28 ?_
  refine lv_icmp_gt (tgt := 1534) hx hb dL_law_29 (by decide) (fun h => ?_) (fun h => ?_)
  · exact k1 ((sub4 hL hi).mp h)
  · exact k2 (Nat.not_lt.mp fun h2 => h ((sub4 hL hi).mpr h2))
set_option maxHeartbeats 1000000 in
/-- one call of the script -/
theorem law_disp {p : Program} {l : Launch} {e : Env} {s : State} {m : MethodId} {args : Array Value} {below : List Frame} {meth : Method} {c : Code} {Q : State → Prop} {D : va_G} {cy cJ : ClassId} {A : Nat → Prop} {a b : Nat → Nat} {o bs L : Nat} {xs : Nat → Int32} {H : Heap} {locs : List Loc} {ls : Array Slot} {i n1 n2 : Nat} (C : lC p l s args m meth c D cy cJ A bs L xs) (hL : L ≤ 2048) (hw : lawS D cy cJ A a b o s H locs) (hl : lv_has ls 9 [(0, .ref bs), (1, .ref (a 0)), (2, .ref (b 0)), (3, .ref o), (4, .int (nI i))]) (hi : i + 4 ≤ L) (hn1 : n1 + 1 ≤ 601024) (hn2 : n2 + 6 ≤ 7293034)
    (k : ∀ (H : Heap) (locs : List Loc) (ls : Array Slot), lawS D cy cJ A a b o s H locs → lv_has ls 9 [(0, .ref bs), (1, .ref (a 0)), (2, .ref (b 0)), (3, .ref o), (4, .int (nI i))] → W p l e room_1 s m args below meth c H locs (n1 + 1) (n2 + 6) Q (F0 m 1528 ls [])) : W p l e room_1 s m args below meth c H locs n1 n2 Q (F0 m 32 ls []) := by
  obtain ⟨hx, hb, hml, hown, hts, hX, hbl, hbA, hK, hJ, hA, hN, hC, hst⟩ := id C
  refine lv_aload_n hx hb dL_law_32 rfl (lv_at hl 0 rfl) ?_
  refine lv_iload hx hb dL_law_33 (lv_at hl 4 rfl) ?_
  refine va_sld hx hb hX hbl hbA hw.S (vp_in_nI (show i < L by omega) (by omega)) dL_law_35 ?_
  refine lv_bipush (v := nI 31) hx hb dL_law_36 rfl ?_
  refine lv_iand hx hb dL_law_38 ?_
  obtain ⟨j, hj, e⟩ := and31 (xs (nI i).toNatClampNeg)
  refine q_top e ?_
  rcases (show j = 0 ∨ j = 1 ∨ j = 2 ∨ j = 3 ∨ j = 4 ∨ j = 5 ∨ j = 6 ∨ j = 7 ∨ j = 8 ∨ j = 9 ∨ j = 10 ∨ j = 11 ∨ j = 12 ∨ j = 13 ∨ j = 14 ∨ j = 15 ∨ j = 16 ∨ j = 17 ∨ j = 18 ∨ j = 19 ∨ j = 20 ∨ j = 21 ∨ j = 22 ∨ j = 23 ∨ j = 24 ∨ j = 25 ∨ j = 26 ∨ j = 27 ∨ j = 28 ∨ j = 29 ∨ j = 30 ∨ j = 31 by omega) with rfl | rfl | rfl | rfl | rfl | rfl | rfl | rfl | rfl | rfl | rfl | rfl | rfl | rfl | rfl | rfl | rfl | rfl | rfl | rfl | rfl | rfl | rfl | rfl | rfl | rfl | rfl | rfl | rfl | rfl | rfl | rfl
  · exact lv_tableIn (off := 137) (tgt := 176) hx hb dL_law_39 (by decide) (by decide) (by decide) (by decide) (la_read C hw hl hi hL hn1 hn2 k)
  · exact lv_tableIn (off := 193) (tgt := 232) hx hb dL_law_39 (by decide) (by decide) (by decide) (by decide) (la_write C hw hl hi hL hn1 hn2 k)
  · exact lv_tableIn (off := 261) (tgt := 300) hx hb dL_law_39 (by decide) (by decide) (by decide) (by decide) (la_fail C hw hl hi hL hn1 hn2 k)
  · exact lv_tableIn (off := 317) (tgt := 356) hx hb dL_law_39 (by decide) (by decide) (by decide) (by decide) (la_beginMending C hw hl hi hL hn1 hn2 k)
  · exact lv_tableIn (off := 373) (tgt := 412) hx hb dL_law_39 (by decide) (by decide) (by decide) (by decide) (la_mend C hw hl hi hL hn1 hn2 k)
  · exact lv_tableIn (off := 429) (tgt := 468) hx hb dL_law_39 (by decide) (by decide) (by decide) (by decide) (la_addSpare C hw hl hi hL hn1 hn2 k)
  · exact lv_tableIn (off := 473) (tgt := 512) hx hb dL_law_39 (by decide) (by decide) (by decide) (by decide) (la_corrupt C hw hl hi hL hn1 hn2 k)
  · exact lv_tableIn (off := 553) (tgt := 592) hx hb dL_law_39 (by decide) (by decide) (by decide) (by decide) (la_scrub C hw hl hi hL hn1 hn2 k)
  · exact lv_tableIn (off := 566) (tgt := 605) hx hb dL_law_39 (by decide) (by decide) (by decide) (by decide) (la_state C hw hl hi hL hn1 hn2 k)
  · exact lv_tableIn (off := 622) (tgt := 661) hx hb dL_law_39 (by decide) (by decide) (by decide) (by decide) (la_member C hw hl hi hL hn1 hn2 k)
  · exact lv_tableIn (off := 690) (tgt := 729) hx hb dL_law_39 (by decide) (by decide) (by decide) (by decide) (la_stripeAt C hw hl hi hL hn1 hn2 k)
  · exact lv_tableIn (off := 758) (tgt := 797) hx hb dL_law_39 (by decide) (by decide) (by decide) (by decide) (la_place C hw hl hi hL hn1 hn2 k)
  · exact lv_tableIn (off := 826) (tgt := 865) hx hb dL_law_39 (by decide) (by decide) (by decide) (by decide) (la_unit C hw hl hi hL hn1 hn2 k)
  · exact lv_tableIn (off := 894) (tgt := 933) hx hb dL_law_39 (by decide) (by decide) (by decide) (by decide) (la_peek C hw hl hi hL hn1 hn2 k)
  · exact lv_tableIn (off := 950) (tgt := 989) hx hb dL_law_39 (by decide) (by decide) (by decide) (by decide) (la_lost C hw hl hi hL hn1 hn2 k)
  · exact lv_tableIn (off := 963) (tgt := 1002) hx hb dL_law_39 (by decide) (by decide) (by decide) (by decide) (la_wrong C hw hl hi hL hn1 hn2 k)
  · exact lv_tableIn (off := 976) (tgt := 1015) hx hb dL_law_39 (by decide) (by decide) (by decide) (by decide) (la_spares C hw hl hi hL hn1 hn2 k)
  · exact lv_tableIn (off := 989) (tgt := 1028) hx hb dL_law_39 (by decide) (by decide) (by decide) (by decide) (la_losses C hw hl hi hL hn1 hn2 k)
  · exact lv_tableIn (off := 1002) (tgt := 1041) hx hb dL_law_39 (by decide) (by decide) (by decide) (by decide) (la_reads C hw hl hi hL hn1 hn2 k)
  · exact lv_tableIn (off := 1058) (tgt := 1097) hx hb dL_law_39 (by decide) (by decide) (by decide) (by decide) (la_writes C hw hl hi hL hn1 hn2 k)
  · exact lv_tableIn (off := 1114) (tgt := 1153) hx hb dL_law_39 (by decide) (by decide) (by decide) (by decide) (la_balance C hw hl hi hL hn1 hn2 k)
  · exact lv_tableIn (off := 1155) (tgt := 1194) hx hb dL_law_39 (by decide) (by decide) (by decide) (by decide) (la_lostIfFailed C hw hl hi hL hn1 hn2 k)
  · exact lv_tableIn (off := 1211) (tgt := 1250) hx hb dL_law_39 (by decide) (by decide) (by decide) (by decide) (la_loadOf C hw hl hi hL hn1 hn2 k)
  · exact lv_tableIn (off := 1279) (tgt := 1318) hx hb dL_law_39 (by decide) (by decide) (by decide) (by decide) (la_worst C hw hl hi hL hn1 hn2 k)
  · exact lv_tableIn (off := 1292) (tgt := 1331) hx hb dL_law_39 (by decide) (by decide) (by decide) (by decide) (la_append C hw hl hi hL hn1 hn2 k)
  · exact lv_tableIn (off := 1348) (tgt := 1387) hx hb dL_law_39 (by decide) (by decide) (by decide) (by decide) (la_clearText C hw hl hi hL hn1 hn2 k)
  · exact lv_tableIn (off := 1361) (tgt := 1400) hx hb dL_law_39 (by decide) (by decide) (by decide) (by decide) (la_firstError C hw hl hi hL hn1 hn2 k)
  · exact lv_tableIn (off := 1374) (tgt := 1413) hx hb dL_law_39 (by decide) (by decide) (by decide) (by decide) (la_run C hw hl hi hL hn1 hn2 k)
  · exact lv_tableIn (off := 1418) (tgt := 1457) hx hb dL_law_39 (by decide) (by decide) (by decide) (by decide) (la_undo C hw hl hi hL hn1 hn2 k)
  · exact lv_tableIn (off := 1462) (tgt := 1501) hx hb dL_law_39 (by decide) (by decide) (by decide) (by decide) (la_savedStates C hw hl hi hL hn1 hn2 k)
  · exact lv_tableIn (off := 1475) (tgt := 1514) hx hb dL_law_39 (by decide) (by decide) (by decide) (by decide) (la_digest C hw hl hi hL hn1 hn2 k)
  · exact lv_tableOut (tgt := 1528) hx hb dL_law_39 (Or.inr (by decide)) (by decide) (W.widen (k := n1 + 1) (n := n2 + 6) (by omega) (by omega) (k _ _ _ hw hl))
set_option maxHeartbeats 1000000 in
theorem law_loop {p : Program} {l : Launch} {e : Env} {s : State} {m : MethodId} {args : Array Value} {below : List Frame} {meth : Method} {c : Code} {Q : State → Prop} {D : va_G} {cy cJ : ClassId} {A : Nat → Prop} {a b : Nat → Nat} {o bs L : Nat} {xs : Nat → Int32} (C : lC p l s args m meth c D cy cJ A bs L xs) (hL : L ≤ 2048) (kend : ∀ (H : Heap) (locs : List Loc) (ls : Array Slot) (n1 n2 : Nat), n1 ≤ 601024 → n2 ≤ 7293034 → va_S A s.heap H locs → W p l e room_1 s m args below meth c H locs n1 n2 Q (F0 m 1534 ls [])) : ∀ (k i n1 n2 : Nat) (H : Heap) (locs : List Loc) (ls : Array Slot), L < i + 4 * k + 4 → i ≤ 2052 → n1 + k ≤ 601024 → n2 + 6 * k ≤ 7293034 → lawS D cy cJ A a b o s H locs → lv_has ls 9 [(0, .ref bs), (1, .ref (a 0)), (2, .ref (b 0)), (3, .ref o), (4, .int (nI i))] → W p l e room_1 s m args below meth c H locs n1 n2 Q (F0 m 23 ls []) := by
  intro k
  induction k with
  | zero =>
    intro i n1 n2 H locs ls hk hi h1 h2 hw hl
    exact law_head C hL hw hl hi (fun _ => kend _ _ _ _ _ (by omega) (by omega) hw.S) (fun h => absurd h (by omega))
  | succ k ih =>
    intro i n1 n2 H locs ls hk hi h1 h2 hw hl
    refine law_head C hL hw hl hi (fun _ => kend _ _ _ _ _ (by omega) (by omega) hw.S) (fun h => ?_)
    refine law_disp C hL hw hl h (by omega) (by omega) (fun H locs ls hw hl => ?_)
    obtain ⟨hx, hb, -⟩ := id C
    refine lv_iinc (k := 4) (v := nI (i + 4)) (lv' := [(4, .int (nI (i + 4))), (0, .ref bs), (1, .ref (a 0)), (2, .ref (b 0)), (3, .ref o)]) hx hb dL_law_1528 hl rfl (nI_add i 4) (by decide) rfl (fun ls hl => ?_)
    refine lv_goto (tgt := 23) hx hb dL_law_1531 (by decide) ?_
    exact ih (i + 4) (n1 + 1) (n2 + 6) H locs ls (by omega) (by omega) (by omega) (by omega) hw (lv_sub hl [1, 2, 3, 4, 0] rfl)

