set_option maxHeartbeats 1000000 in
set_option maxRecDepth 100000 in
theorem c_X7_digest {l : Launch} (D : va_G) (cy : ClassId) (A : Nat → Prop) (b : Nat → Nat) (σ saved : Nat → Int32) (many : Nat) (bef T : Nat → Int32) (len thr at_ : Nat) (le f1 f2 : Int32) (dn : Nat) (hs : Int64) (Z : va_W) (h_0 : Val σ) : Met l yX7_digest wsX7_digest (k2_rm 10 222) (gP D cy [.ref (b 0)] A (wM cy b (mS σ) saved many bef T len thr at_ le f1 f2 dn hs ++ Z)) (gE D A (fun v9 w9 => v9 = some (.long (dig σ)) ∧ ∃ bf9 : Nat → Int32, w9 = (wM cy b (mS σ) saved many bf9 T len 0 at_ le f1 f2 dn (dig σ) ++ Z))) 0 0 A := by
  refine q_imp (cc := cX7_digest) (maxL := 2) (ret := (some .long)) pl_X7 rfl (Nat.le_of_ble_eq_true rfl) ?_
  intro p e s m below meth c ls hx hb hr hml hts hown hlocks hw hK hA hl
  have hP := hw.1
  have hl : lv_has ls 2 [(0, .ref (b 0))] := hl
  refine lv_aload_n hx hb dX7_digest_0 rfl (lv_at hl 0 rfl) ?_
  refine lv_iconst (v := nI 0) hx hb dX7_digest_1 rfl ?_
  refine va_put (D := D) (ci := 7) (v := .int (nI (0))) (ty := .int) (C := RX7) (T := TX7) (N := 13) hx hb hts (fun _ h => List.mem_cons_of_mem _ (List.mem_append_right _ h)) tyX7 tyX7_ok nmX7 hown hK hw.1 hw.2.1 hw.2.2 0 rfl rfl 6 (by decide) (hts (.fieldLink RX7 22 "SpreadParityModel" "thrown" "I") (List.mem_of_getElem? (i := 1) rfl)) (fun _ h9 => h9) rfl (tyX7_ok 6 (by decide)) rfl rfl (Nat.le_of_ble_eq_true rfl) dX7_digest_2 (fun H locs hP hD hS => ?_)
  have hw : wS D A (wM cy b (mS σ) saved many bef T len 0 at_ le f1 f2 dn hs ++ Z) s H locs := ⟨hP, hD, hS⟩
  refine lv_aload_n hx hb dX7_digest_5 rfl (lv_at hl 0 rfl) ?_
  refine lv_ldc2 (v := 4184) hx hb hown (hts (.constantLong RX7 213 (4184)) (List.mem_of_getElem? (i := 2) rfl)) dX7_digest_6 ?_
  refine va_put (D := D) (ci := 7) (v := .long (4184)) (ty := .long) (C := RX7) (T := TX7) (N := 13) hx hb hts (fun _ h => List.mem_cons_of_mem _ (List.mem_append_right _ h)) tyX7 tyX7_ok nmX7 hown hK hw.1 hw.2.1 hw.2.2 0 rfl rfl 12 (by decide) (hts (.fieldLink RX7 209 "SpreadParityModel" "hash" "J") (List.mem_of_getElem? (i := 3) rfl)) (fun _ h9 => h9) rfl (tyX7_ok 12 (by decide)) rfl rfl (Nat.le_of_ble_eq_true rfl) dX7_digest_9 (fun H locs hP hD hS => ?_)
  have hw : wS D A (wM cy b (mS σ) saved many bef T len 0 at_ le f1 f2 dn 4184 ++ Z) s H locs := ⟨hP, hD, hS⟩
  refine lv_aload_n hx hb dX7_digest_12 rfl (lv_at hl 0 rfl) ?_
  refine lv_aload_n hx hb dX7_digest_13 rfl (lv_at hl 0 rfl) ?_
  refine q_cV (As := []) (rest := [.ref (b 0)]) ⟨hx, hb, hml, hown, hts⟩ (c_X7_lostAddresses D cy b σ saved many bef T len 0 at_ le f1 f2 dn 4184 Z (by omega)) (cwV 0 hts gX7_digest_X7_lostAddresses rfl rfl rfl hd_X7_lostAddresses ⟨Nat.le_of_ble_eq_true rfl, Nat.le_of_ble_eq_true rfl⟩) hK hP 0 rfl rfl rfl hl.1 rfl (Nat.le_of_ble_eq_true rfl) ⟨Nat.zero_le _, Nat.zero_le _⟩ dX7_digest_14 ?_
  refine lv_i2l hx hb dX7_digest_17 rfl ?_
  refine q_wV0 (As := [.long ((nI (cl σ)).toInt64)]) (rest := []) (st1 := []) ⟨hx, hb, hml, hown, hts⟩ (c_X7_mix D cy A b σ saved many bef T len 0 at_ le f1 f2 dn 4184 Z ((nI (cl σ)).toInt64)) (cwV 1 hts gX7_digest_X7_mix rfl rfl rfl hd_X7_mix ⟨Nat.le_of_ble_eq_true rfl, Nat.le_of_ble_eq_true rfl⟩) hK hA hw 0 rfl rfl rfl hl.1 rfl rfl (Nat.le_of_ble_eq_true rfl) ⟨Nat.zero_le _, Nat.zero_le _⟩ dX7_digest_18 (fun H locs hw => ?_)
  have hw : wS D A (wM cy b (mS σ) saved many bef T len 0 at_ le f1 f2 dn (31 * 4184 + ((nI (cl σ)).toInt64)) ++ Z) s H locs := hw
  have hP := hw.1
  have e_1 : (31 * 4184 + ((nI (cl σ)).toInt64)) = hx1 4184 (nI (cl σ)) := rfl
  rw [e_1] at hw
  have hP := hw.1
  refine lv_aload_n hx hb dX7_digest_21 rfl (lv_at hl 0 rfl) ?_
  refine lv_aload_n hx hb dX7_digest_22 rfl (lv_at hl 0 rfl) ?_
  refine q_cV (As := []) (rest := [.ref (b 0)]) ⟨hx, hb, hml, hown, hts⟩ (c_X7_wrongStripes D cy b σ saved many bef T len 0 at_ le f1 f2 dn (hx1 4184 (nI (cl σ))) Z ) (cwV 0 hts gX7_digest_X7_wrongStripes rfl rfl rfl hd_X7_wrongStripes ⟨Nat.le_of_ble_eq_true rfl, Nat.le_of_ble_eq_true rfl⟩) hK hP 0 rfl rfl rfl hl.1 rfl (Nat.le_of_ble_eq_true rfl) ⟨Nat.zero_le _, Nat.zero_le _⟩ dX7_digest_23 ?_
  refine lv_i2l hx hb dX7_digest_26 rfl ?_
  refine q_wV0 (As := [.long ((nI (cw σ)).toInt64)]) (rest := []) (st1 := []) ⟨hx, hb, hml, hown, hts⟩ (c_X7_mix D cy A b σ saved many bef T len 0 at_ le f1 f2 dn (hx1 4184 (nI (cl σ))) Z ((nI (cw σ)).toInt64)) (cwV 1 hts gX7_digest_X7_mix rfl rfl rfl hd_X7_mix ⟨Nat.le_of_ble_eq_true rfl, Nat.le_of_ble_eq_true rfl⟩) hK hA hw 0 rfl rfl rfl hl.1 rfl rfl (Nat.le_of_ble_eq_true rfl) ⟨Nat.zero_le _, Nat.zero_le _⟩ dX7_digest_27 (fun H locs hw => ?_)
  have hw : wS D A (wM cy b (mS σ) saved many bef T len 0 at_ le f1 f2 dn (31 * (hx1 4184 (nI (cl σ))) + ((nI (cw σ)).toInt64)) ++ Z) s H locs := hw
  have hP := hw.1
  have e_2 : (31 * (hx1 4184 (nI (cl σ))) + ((nI (cw σ)).toInt64)) = hx1 (hx1 4184 (nI (cl σ))) (nI (cw σ)) := rfl
  rw [e_2] at hw
  have hP := hw.1
  refine lv_aload_n hx hb dX7_digest_30 rfl (lv_at hl 0 rfl) ?_
  refine lv_aload_n hx hb dX7_digest_31 rfl (lv_at hl 0 rfl) ?_
  refine va_get (D := D) (ci := 7) (v := .ref (b 1)) (C := RX7) (T := TX7) (N := 13) hx hb hts (fun _ h => List.mem_cons_of_mem _ (List.mem_append_right _ h)) hown hK hP 0 rfl rfl 0 (by decide) (hts (.fieldLink RX7 7 "SpreadParityModel" "s" "[I") (List.mem_of_getElem? (i := 4) rfl)) (fun _ h9 => h9) rfl dX7_digest_32 ?_
  refine lv_bipush (v := nI 84) hx hb dX7_digest_35 rfl ?_
  refine q_iald hx hb hK hP 1 rfl (by omega) (by omega) dX7_digest_37 ?_
  refine q_top (show ((mS σ) (84)) = σ (84) from mS_c _ (by omega)) ?_
  refine lv_i2l hx hb dX7_digest_38 rfl ?_
  refine q_wV0 (As := [.long ((σ (84)).toInt64)]) (rest := []) (st1 := []) ⟨hx, hb, hml, hown, hts⟩ (c_X7_mix D cy A b σ saved many bef T len 0 at_ le f1 f2 dn (hx1 (hx1 4184 (nI (cl σ))) (nI (cw σ))) Z ((σ (84)).toInt64)) (cwV 1 hts gX7_digest_X7_mix rfl rfl rfl hd_X7_mix ⟨Nat.le_of_ble_eq_true rfl, Nat.le_of_ble_eq_true rfl⟩) hK hA hw 0 rfl rfl rfl hl.1 rfl rfl (Nat.le_of_ble_eq_true rfl) ⟨Nat.zero_le _, Nat.zero_le _⟩ dX7_digest_39 (fun H locs hw => ?_)
  have hw : wS D A (wM cy b (mS σ) saved many bef T len 0 at_ le f1 f2 dn (31 * (hx1 (hx1 4184 (nI (cl σ))) (nI (cw σ))) + ((σ (84)).toInt64)) ++ Z) s H locs := hw
  have hP := hw.1
  have e_3 : (31 * (hx1 (hx1 4184 (nI (cl σ))) (nI (cw σ))) + ((σ (84)).toInt64)) = hx1 (hx1 (hx1 4184 (nI (cl σ))) (nI (cw σ))) (σ 84) := rfl
  rw [e_3] at hw
  have hP := hw.1
  refine lv_aload_n hx hb dX7_digest_42 rfl (lv_at hl 0 rfl) ?_
  refine lv_aload_n hx hb dX7_digest_43 rfl (lv_at hl 0 rfl) ?_
  refine va_get (D := D) (ci := 7) (v := .ref (b 1)) (C := RX7) (T := TX7) (N := 13) hx hb hts (fun _ h => List.mem_cons_of_mem _ (List.mem_append_right _ h)) hown hK hP 0 rfl rfl 0 (by decide) (hts (.fieldLink RX7 7 "SpreadParityModel" "s" "[I") (List.mem_of_getElem? (i := 4) rfl)) (fun _ h9 => h9) rfl dX7_digest_44 ?_
  refine lv_bipush (v := nI 85) hx hb dX7_digest_47 rfl ?_
  refine q_iald hx hb hK hP 1 rfl (by omega) (by omega) dX7_digest_49 ?_
  refine q_top (show ((mS σ) (85)) = σ (85) from mS_c _ (by omega)) ?_
  refine lv_i2l hx hb dX7_digest_50 rfl ?_
  refine q_wV0 (As := [.long ((σ (85)).toInt64)]) (rest := []) (st1 := []) ⟨hx, hb, hml, hown, hts⟩ (c_X7_mix D cy A b σ saved many bef T len 0 at_ le f1 f2 dn (hx1 (hx1 (hx1 4184 (nI (cl σ))) (nI (cw σ))) (σ 84)) Z ((σ (85)).toInt64)) (cwV 1 hts gX7_digest_X7_mix rfl rfl rfl hd_X7_mix ⟨Nat.le_of_ble_eq_true rfl, Nat.le_of_ble_eq_true rfl⟩) hK hA hw 0 rfl rfl rfl hl.1 rfl rfl (Nat.le_of_ble_eq_true rfl) ⟨Nat.zero_le _, Nat.zero_le _⟩ dX7_digest_51 (fun H locs hw => ?_)
  have hw : wS D A (wM cy b (mS σ) saved many bef T len 0 at_ le f1 f2 dn (31 * (hx1 (hx1 (hx1 4184 (nI (cl σ))) (nI (cw σ))) (σ 84)) + ((σ (85)).toInt64)) ++ Z) s H locs := hw
  have hP := hw.1
  have e_4 : (31 * (hx1 (hx1 (hx1 4184 (nI (cl σ))) (nI (cw σ))) (σ 84)) + ((σ (85)).toInt64)) = hx1 (hx1 (hx1 (hx1 4184 (nI (cl σ))) (nI (cw σ))) (σ 84)) (σ 85) := rfl
  rw [e_4] at hw
  have hP := hw.1
  refine lv_aload_n hx hb dX7_digest_54 rfl (lv_at hl 0 rfl) ?_
  refine lv_aload_n hx hb dX7_digest_55 rfl (lv_at hl 0 rfl) ?_
  refine q_wVE0 (As := []) (rest := [.ref (b 0)]) ⟨hx, hb, hml, hown, hts⟩ (c_X7_worstDisc D cy A b σ saved many bef T len 0 at_ le f1 f2 dn (hx1 (hx1 (hx1 (hx1 4184 (nI (cl σ))) (nI (cw σ))) (σ 84)) (σ 85)) Z h_0) (cwV 0 hts gX7_digest_X7_worstDisc rfl rfl rfl hd_X7_worstDisc ⟨Nat.le_of_ble_eq_true rfl, Nat.le_of_ble_eq_true rfl⟩) hK hA hw 0 rfl rfl rfl hl.1 rfl (Nat.le_of_ble_eq_true rfl) ⟨Nat.zero_le _, Nat.zero_le _⟩ dX7_digest_56 (fun H locs v9 w9 hp9 hw => ?_)
  obtain ⟨rfl, bf9_56, rfl⟩ := hp9
  refine q_stk (show _ = ([.int ((wst σ 7).1), .ref (b 0)] : List Value) from rfl) ?_
  have hw : wS D A (wM cy b (mS σ) saved many bf9_56 T len 0 at_ le f1 f2 dn (hx1 (hx1 (hx1 (hx1 4184 (nI (cl σ))) (nI (cw σ))) (σ 84)) (σ 85)) ++ Z) s H locs := hw
  have hP := hw.1
  refine lv_i2l hx hb dX7_digest_59 rfl ?_
  refine q_wV0 (As := [.long (((wst σ 7).1).toInt64)]) (rest := []) (st1 := []) ⟨hx, hb, hml, hown, hts⟩ (c_X7_mix D cy A b σ saved many bf9_56 T len 0 at_ le f1 f2 dn (hx1 (hx1 (hx1 (hx1 4184 (nI (cl σ))) (nI (cw σ))) (σ 84)) (σ 85)) Z (((wst σ 7).1).toInt64)) (cwV 1 hts gX7_digest_X7_mix rfl rfl rfl hd_X7_mix ⟨Nat.le_of_ble_eq_true rfl, Nat.le_of_ble_eq_true rfl⟩) hK hA hw 0 rfl rfl rfl hl.1 rfl rfl (Nat.le_of_ble_eq_true rfl) ⟨Nat.zero_le _, Nat.zero_le _⟩ dX7_digest_60 (fun H locs hw => ?_)
  have hw : wS D A (wM cy b (mS σ) saved many bf9_56 T len 0 at_ le f1 f2 dn (31 * (hx1 (hx1 (hx1 (hx1 4184 (nI (cl σ))) (nI (cw σ))) (σ 84)) (σ 85)) + (((wst σ 7).1).toInt64)) ++ Z) s H locs := hw
  have hP := hw.1
  have e_5 : (31 * (hx1 (hx1 (hx1 (hx1 4184 (nI (cl σ))) (nI (cw σ))) (σ 84)) (σ 85)) + (((wst σ 7).1).toInt64)) = hx1 (hx1 (hx1 (hx1 (hx1 4184 (nI (cl σ))) (nI (cw σ))) (σ 84)) (σ 85)) (wst σ 7).1 := rfl
  rw [e_5] at hw
  have hP := hw.1
  refine lv_iconst (v := nI 0) hx hb dX7_digest_63 rfl ?_
  refine lv_istore_n (lv' := [(1, .int (nI (0))), (0, .ref (b 0))]) hx hb dX7_digest_64 rfl hl (by decide) rfl (fun ls hl => ?_)
  have lp65 : ∀ (j_ i : Nat), i + j_ = 7 → ∀ (bf : Nat → Int32), 0 ≤ i → ∀ (H : Heap) (locs : List Loc) (ls : Array Slot), wS D A (wM cy b (mS σ) saved many bf T len 0 at_ le f1 f2 dn (hxD σ (hx1 (hx1 (hx1 (hx1 (hx1 4184 (nI (cl σ))) (nI (cw σ))) (σ 84)) (σ 85)) (wst σ 7).1) i) ++ Z) s H locs → lv_has ls 2 [(0, .ref (b 0)), (1, .int (nI (i)))] → W p l e (k2_rm 10 222) s m ([.ref (b 0)] : List Value).toArray below meth c H locs 0 0 (MQ below (gE D A (fun v9 w9 => v9 = some (.long (dig σ)) ∧ ∃ bf9 : Nat → Int32, w9 = (wM cy b (mS σ) saved many bf9 T len 0 at_ le f1 f2 dn (dig σ) ++ Z))) ([.ref (b 0)] : List Value).toArray s 0 0 A) (F0 m 65 ls []) := by
    intro j_
    induction j_ with
    | zero =>
      intro i hn_i bf hy0 H locs ls hw hl
      have hP := hw.1
      refine lv_iload_n hx hb dX7_digest_65 rfl (lv_at hl 1 rfl) ?_
      refine lv_bipush (v := nI 7) hx hb dX7_digest_66 rfl ?_
      refine q_geN (tgt := 128) hx hb dX7_digest_68 (by decide) (by omega) (by omega) (fun c_68 => ?_) (fun c_68 => absurd c_68 (by omega))
      have e_6 : (hxD σ (hx1 (hx1 (hx1 (hx1 (hx1 4184 (nI (cl σ))) (nI (cw σ))) (σ 84)) (σ 85)) (wst σ 7).1) i) = hxD σ (hx1 (hx1 (hx1 (hx1 (hx1 4184 (nI (cl σ))) (nI (cw σ))) (σ 84)) (σ 85)) (wst σ 7).1) 7 := by rw [show i = 7 by omega]
      rw [e_6] at hw
      have hP := hw.1
      refine lv_iconst (v := nI 0) hx hb dX7_digest_128 rfl ?_
      refine lv_istore_n (lv' := [(1, .int (nI (0))), (0, .ref (b 0))]) hx hb dX7_digest_129 rfl hl (by decide) rfl (fun ls hl => ?_)
      have lp130 : ∀ (j_ i : Nat), i + j_ = 42 → ∀ (H : Heap) (locs : List Loc) (ls : Array Slot), wS D A (wM cy b (mS σ) saved many bf T len 0 at_ le f1 f2 dn (hxA σ (hxD σ (hx1 (hx1 (hx1 (hx1 (hx1 4184 (nI (cl σ))) (nI (cw σ))) (σ 84)) (σ 85)) (wst σ 7).1) 7) i) ++ Z) s H locs → lv_has ls 2 [(0, .ref (b 0)), (1, .int (nI (i)))] → W p l e (k2_rm 10 222) s m ([.ref (b 0)] : List Value).toArray below meth c H locs 0 0 (MQ below (gE D A (fun v9 w9 => v9 = some (.long (dig σ)) ∧ ∃ bf9 : Nat → Int32, w9 = (wM cy b (mS σ) saved many bf9 T len 0 at_ le f1 f2 dn (dig σ) ++ Z))) ([.ref (b 0)] : List Value).toArray s 0 0 A) (F0 m 130 ls []) := by
        intro j_
        induction j_ with
        | zero =>
          intro i hn_i H locs ls hw hl
          have hP := hw.1
          refine lv_iload_n hx hb dX7_digest_130 rfl (lv_at hl 1 rfl) ?_
          refine lv_bipush (v := nI 42) hx hb dX7_digest_131 rfl ?_
          refine q_geN (tgt := 157) hx hb dX7_digest_133 (by decide) (by omega) (by omega) (fun c_133 => ?_) (fun c_133 => absurd c_133 (by omega))
          have e_7 : (hxA σ (hxD σ (hx1 (hx1 (hx1 (hx1 (hx1 4184 (nI (cl σ))) (nI (cw σ))) (σ 84)) (σ 85)) (wst σ 7).1) 7) i) = hxA σ (hxD σ (hx1 (hx1 (hx1 (hx1 (hx1 4184 (nI (cl σ))) (nI (cw σ))) (σ 84)) (σ 85)) (wst σ 7).1) 7) 42 := by rw [show i = 42 by omega]
          rw [e_7] at hw
          have hP := hw.1
          refine lv_iconst (v := nI 0) hx hb dX7_digest_157 rfl ?_
          refine lv_istore_n (lv' := [(1, .int (nI (0))), (0, .ref (b 0))]) hx hb dX7_digest_158 rfl hl (by decide) rfl (fun ls hl => ?_)
          have lp159 : ∀ (j_ i : Nat), i + j_ = 63 → ∀ (H : Heap) (locs : List Loc) (ls : Array Slot), wS D A (wM cy b (mS σ) saved many bf T len 0 at_ le f1 f2 dn (hxU σ (hxA σ (hxD σ (hx1 (hx1 (hx1 (hx1 (hx1 4184 (nI (cl σ))) (nI (cw σ))) (σ 84)) (σ 85)) (wst σ 7).1) 7) 42) i) ++ Z) s H locs → lv_has ls 2 [(0, .ref (b 0)), (1, .int (nI (i)))] → W p l e (k2_rm 10 222) s m ([.ref (b 0)] : List Value).toArray below meth c H locs 0 0 (MQ below (gE D A (fun v9 w9 => v9 = some (.long (dig σ)) ∧ ∃ bf9 : Nat → Int32, w9 = (wM cy b (mS σ) saved many bf9 T len 0 at_ le f1 f2 dn (dig σ) ++ Z))) ([.ref (b 0)] : List Value).toArray s 0 0 A) (F0 m 159 ls []) := by
            intro j_
            induction j_ with
            | zero =>
              intro i hn_i H locs ls hw hl
              have hP := hw.1
              refine lv_iload_n hx hb dX7_digest_159 rfl (lv_at hl 1 rfl) ?_
              refine lv_bipush (v := nI 63) hx hb dX7_digest_160 rfl ?_
              refine q_geN (tgt := 181) hx hb dX7_digest_162 (by decide) (by omega) (by omega) (fun c_162 => ?_) (fun c_162 => absurd c_162 (by omega))
              have e_8 : (hxU σ (hxA σ (hxD σ (hx1 (hx1 (hx1 (hx1 (hx1 4184 (nI (cl σ))) (nI (cw σ))) (σ 84)) (σ 85)) (wst σ 7).1) 7) 42) i) = dig σ := by rw [show i = 63 by omega]; rfl
              rw [e_8] at hw
              have hP := hw.1
              refine lv_aload_n hx hb dX7_digest_181 rfl (lv_at hl 0 rfl) ?_
              refine va_get (D := D) (ci := 7) (v := .long (dig σ)) (C := RX7) (T := TX7) (N := 13) hx hb hts (fun _ h => List.mem_cons_of_mem _ (List.mem_append_right _ h)) hown hK hP 0 rfl rfl 12 (by decide) (hts (.fieldLink RX7 209 "SpreadParityModel" "hash" "J") (List.mem_of_getElem? (i := 3) rfl)) (fun _ h9 => h9) rfl dX7_digest_182 ?_
              exact q_lretE hx hb hr hlocks hw dX7_digest_185 (⟨rfl, bf, rfl⟩)
            | succ j_ ih_i =>
              intro i hn_i H locs ls hw hl
              have hP := hw.1
              refine lv_iload_n hx hb dX7_digest_159 rfl (lv_at hl 1 rfl) ?_
              refine lv_bipush (v := nI 63) hx hb dX7_digest_160 rfl ?_
              refine q_geN (tgt := 181) hx hb dX7_digest_162 (by decide) (by omega) (by omega) (fun c_162 => absurd c_162 (by omega)) (fun c_162 => ?_)
              refine lv_aload_n hx hb dX7_digest_165 rfl (lv_at hl 0 rfl) ?_
              refine lv_aload_n hx hb dX7_digest_166 rfl (lv_at hl 0 rfl) ?_
              refine lv_iload_n hx hb dX7_digest_167 rfl (lv_at hl 1 rfl) ?_
              refine q_cV (As := [.int (nI (i))]) (rest := [.ref (b 0)]) ⟨hx, hb, hml, hown, hts⟩ (c_X7_unitTold D cy b σ saved many bf T len 0 at_ le f1 f2 dn (hxU σ (hxA σ (hxD σ (hx1 (hx1 (hx1 (hx1 (hx1 4184 (nI (cl σ))) (nI (cw σ))) (σ 84)) (σ 85)) (wst σ 7).1) 7) 42) i) Z (i) (by omega)) (cwV 1 hts gX7_digest_X7_unitTold rfl rfl rfl hd_X7_unitTold ⟨Nat.le_of_ble_eq_true rfl, Nat.le_of_ble_eq_true rfl⟩) hK hP 0 rfl rfl rfl hl.1 rfl (Nat.le_of_ble_eq_true rfl) ⟨Nat.zero_le _, Nat.zero_le _⟩ dX7_digest_168 ?_
              refine lv_i2l hx hb dX7_digest_171 rfl ?_
              refine q_wV0 (As := [.long ((vis σ i).toInt64)]) (rest := []) (st1 := []) ⟨hx, hb, hml, hown, hts⟩ (c_X7_mix D cy A b σ saved many bf T len 0 at_ le f1 f2 dn (hxU σ (hxA σ (hxD σ (hx1 (hx1 (hx1 (hx1 (hx1 4184 (nI (cl σ))) (nI (cw σ))) (σ 84)) (σ 85)) (wst σ 7).1) 7) 42) i) Z ((vis σ i).toInt64)) (cwV 1 hts gX7_digest_X7_mix rfl rfl rfl hd_X7_mix ⟨Nat.le_of_ble_eq_true rfl, Nat.le_of_ble_eq_true rfl⟩) hK hA hw 0 rfl rfl rfl hl.1 rfl rfl (Nat.le_of_ble_eq_true rfl) ⟨Nat.zero_le _, Nat.zero_le _⟩ dX7_digest_172 (fun H locs hw => ?_)
              have hw : wS D A (wM cy b (mS σ) saved many bf T len 0 at_ le f1 f2 dn (31 * (hxU σ (hxA σ (hxD σ (hx1 (hx1 (hx1 (hx1 (hx1 4184 (nI (cl σ))) (nI (cw σ))) (σ 84)) (σ 85)) (wst σ 7).1) 7) 42) i) + ((vis σ i).toInt64)) ++ Z) s H locs := hw
              have hP := hw.1
              have e_9 : (31 * (hxU σ (hxA σ (hxD σ (hx1 (hx1 (hx1 (hx1 (hx1 4184 (nI (cl σ))) (nI (cw σ))) (σ 84)) (σ 85)) (wst σ 7).1) 7) 42) i) + ((vis σ i).toInt64)) = hxU σ (hxA σ (hxD σ (hx1 (hx1 (hx1 (hx1 (hx1 4184 (nI (cl σ))) (nI (cw σ))) (σ 84)) (σ 85)) (wst σ 7).1) 7) 42) (i + 1) := rfl
              rw [e_9] at hw
              have hP := hw.1
              refine lv_iinc (v := nI (i + 1)) (lv' := [(1, .int (nI (i + 1))), (0, .ref (b 0))]) hx hb dX7_digest_175 hl (k := 1) rfl (show nI (i) + nI 1 = nI (i + 1) from nI_add _ _) (by decide) rfl (fun ls hl => ?_)
              refine lv_goto (tgt := 159) hx hb dX7_digest_178 (by decide) ?_
              exact ih_i (i + 1) (by omega) _ _ _ hw (lv_sub hl [1, 0] rfl)
          exact lp159 (63 - 0) 0 (by omega) _ _ _ hw (lv_sub hl [1, 0] rfl)
        | succ j_ ih_i =>
          intro i hn_i H locs ls hw hl
          have hP := hw.1
          refine lv_iload_n hx hb dX7_digest_130 rfl (lv_at hl 1 rfl) ?_
          refine lv_bipush (v := nI 42) hx hb dX7_digest_131 rfl ?_
          refine q_geN (tgt := 157) hx hb dX7_digest_133 (by decide) (by omega) (by omega) (fun c_133 => absurd c_133 (by omega)) (fun c_133 => ?_)
          refine lv_aload_n hx hb dX7_digest_136 rfl (lv_at hl 0 rfl) ?_
          refine lv_aload_n hx hb dX7_digest_137 rfl (lv_at hl 0 rfl) ?_
          refine lv_iload_n hx hb dX7_digest_138 rfl (lv_at hl 1 rfl) ?_
          refine lv_iconst (v := nI 2) hx hb dX7_digest_139 rfl ?_
          refine q_divN hx hb dX7_digest_140 (by omega) (by omega) (by omega) ?_
          refine lv_iload_n hx hb dX7_digest_141 rfl (lv_at hl 1 rfl) ?_
          refine lv_iconst (v := nI 2) hx hb dX7_digest_142 rfl ?_
          refine q_remN hx hb dX7_digest_143 (by omega) (by omega) (by omega) ?_
          refine q_cV (As := [.int (nI (i / 2)), .int (nI (i % 2))]) (rest := [.ref (b 0)]) ⟨hx, hb, hml, hown, hts⟩ (c_X7_look D cy b σ saved many bf T len 0 at_ le f1 f2 dn (hxA σ (hxD σ (hx1 (hx1 (hx1 (hx1 (hx1 4184 (nI (cl σ))) (nI (cw σ))) (σ 84)) (σ 85)) (wst σ 7).1) 7) i) Z (i / 2) (i % 2) (by omega) (by omega)) (cwV 2 hts gX7_digest_X7_look rfl rfl rfl hd_X7_look ⟨Nat.le_of_ble_eq_true rfl, Nat.le_of_ble_eq_true rfl⟩) hK hP 0 rfl rfl rfl hl.1 rfl (Nat.le_of_ble_eq_true rfl) ⟨Nat.zero_le _, Nat.zero_le _⟩ dX7_digest_144 ?_
          refine q_top (show (kn σ (spT (3 * (i / 2) + (i % 2)))) = kn σ (ad i) from rfl) ?_
          refine lv_i2l hx hb dX7_digest_147 rfl ?_
          refine q_wV0 (As := [.long ((kn σ (ad i)).toInt64)]) (rest := []) (st1 := []) ⟨hx, hb, hml, hown, hts⟩ (c_X7_mix D cy A b σ saved many bf T len 0 at_ le f1 f2 dn (hxA σ (hxD σ (hx1 (hx1 (hx1 (hx1 (hx1 4184 (nI (cl σ))) (nI (cw σ))) (σ 84)) (σ 85)) (wst σ 7).1) 7) i) Z ((kn σ (ad i)).toInt64)) (cwV 1 hts gX7_digest_X7_mix rfl rfl rfl hd_X7_mix ⟨Nat.le_of_ble_eq_true rfl, Nat.le_of_ble_eq_true rfl⟩) hK hA hw 0 rfl rfl rfl hl.1 rfl rfl (Nat.le_of_ble_eq_true rfl) ⟨Nat.zero_le _, Nat.zero_le _⟩ dX7_digest_148 (fun H locs hw => ?_)
          have hw : wS D A (wM cy b (mS σ) saved many bf T len 0 at_ le f1 f2 dn (31 * (hxA σ (hxD σ (hx1 (hx1 (hx1 (hx1 (hx1 4184 (nI (cl σ))) (nI (cw σ))) (σ 84)) (σ 85)) (wst σ 7).1) 7) i) + ((kn σ (ad i)).toInt64)) ++ Z) s H locs := hw
          have hP := hw.1
          have e_10 : (31 * (hxA σ (hxD σ (hx1 (hx1 (hx1 (hx1 (hx1 4184 (nI (cl σ))) (nI (cw σ))) (σ 84)) (σ 85)) (wst σ 7).1) 7) i) + ((kn σ (ad i)).toInt64)) = hxA σ (hxD σ (hx1 (hx1 (hx1 (hx1 (hx1 4184 (nI (cl σ))) (nI (cw σ))) (σ 84)) (σ 85)) (wst σ 7).1) 7) (i + 1) := rfl
          rw [e_10] at hw
          have hP := hw.1
          refine lv_iinc (v := nI (i + 1)) (lv' := [(1, .int (nI (i + 1))), (0, .ref (b 0))]) hx hb dX7_digest_151 hl (k := 1) rfl (show nI (i) + nI 1 = nI (i + 1) from nI_add _ _) (by decide) rfl (fun ls hl => ?_)
          refine lv_goto (tgt := 130) hx hb dX7_digest_154 (by decide) ?_
          exact ih_i (i + 1) (by omega) _ _ _ hw (lv_sub hl [1, 0] rfl)
      exact lp130 (42 - 0) 0 (by omega) _ _ _ hw (lv_sub hl [1, 0] rfl)
    | succ j_ ih_i =>
      intro i hn_i bf hy0 H locs ls hw hl
      have hP := hw.1
      refine lv_iload_n hx hb dX7_digest_65 rfl (lv_at hl 1 rfl) ?_
      refine lv_bipush (v := nI 7) hx hb dX7_digest_66 rfl ?_
      refine q_geN (tgt := 128) hx hb dX7_digest_68 (by decide) (by omega) (by omega) (fun c_68 => absurd c_68 (by omega)) (fun c_68 => ?_)
      refine lv_aload_n hx hb dX7_digest_71 rfl (lv_at hl 0 rfl) ?_
      refine lv_aload_n hx hb dX7_digest_72 rfl (lv_at hl 0 rfl) ?_
      refine va_get (D := D) (ci := 7) (v := .ref (b 1)) (C := RX7) (T := TX7) (N := 13) hx hb hts (fun _ h => List.mem_cons_of_mem _ (List.mem_append_right _ h)) hown hK hP 0 rfl rfl 0 (by decide) (hts (.fieldLink RX7 7 "SpreadParityModel" "s" "[I") (List.mem_of_getElem? (i := 4) rfl)) (fun _ h9 => h9) rfl dX7_digest_73 ?_
      refine lv_iconst (v := nI 0) hx hb dX7_digest_76 rfl ?_
      refine lv_iload_n hx hb dX7_digest_77 rfl (lv_at hl 1 rfl) ?_
      refine q_addN hx hb dX7_digest_78 ?_
      refine q_iald hx hb hK hP 1 rfl (by omega) (by omega) dX7_digest_79 ?_
      refine q_top (show ((mS σ) (0 + i)) = σ (63 + i) from mS_p _ (by omega)) ?_
      refine lv_i2l hx hb dX7_digest_80 rfl ?_
      refine q_wV0 (As := [.long ((σ (63 + i)).toInt64)]) (rest := []) (st1 := []) ⟨hx, hb, hml, hown, hts⟩ (c_X7_mix D cy A b σ saved many bf T len 0 at_ le f1 f2 dn (hxD σ (hx1 (hx1 (hx1 (hx1 (hx1 4184 (nI (cl σ))) (nI (cw σ))) (σ 84)) (σ 85)) (wst σ 7).1) i) Z ((σ (63 + i)).toInt64)) (cwV 1 hts gX7_digest_X7_mix rfl rfl rfl hd_X7_mix ⟨Nat.le_of_ble_eq_true rfl, Nat.le_of_ble_eq_true rfl⟩) hK hA hw 0 rfl rfl rfl hl.1 rfl rfl (Nat.le_of_ble_eq_true rfl) ⟨Nat.zero_le _, Nat.zero_le _⟩ dX7_digest_81 (fun H locs hw => ?_)
      have hw : wS D A (wM cy b (mS σ) saved many bf T len 0 at_ le f1 f2 dn (31 * (hxD σ (hx1 (hx1 (hx1 (hx1 (hx1 4184 (nI (cl σ))) (nI (cw σ))) (σ 84)) (σ 85)) (wst σ 7).1) i) + ((σ (63 + i)).toInt64)) ++ Z) s H locs := hw
      have hP := hw.1
      refine lv_aload_n hx hb dX7_digest_84 rfl (lv_at hl 0 rfl) ?_
      refine lv_aload_n hx hb dX7_digest_85 rfl (lv_at hl 0 rfl) ?_
      refine va_get (D := D) (ci := 7) (v := .ref (b 1)) (C := RX7) (T := TX7) (N := 13) hx hb hts (fun _ h => List.mem_cons_of_mem _ (List.mem_append_right _ h)) hown hK hP 0 rfl rfl 0 (by decide) (hts (.fieldLink RX7 7 "SpreadParityModel" "s" "[I") (List.mem_of_getElem? (i := 4) rfl)) (fun _ h9 => h9) rfl dX7_digest_86 ?_
      refine lv_bipush (v := nI 70) hx hb dX7_digest_89 rfl ?_
      refine lv_iload_n hx hb dX7_digest_91 rfl (lv_at hl 1 rfl) ?_
      refine q_addN hx hb dX7_digest_92 ?_
      refine q_iald hx hb hK hP 1 rfl (by omega) (by omega) dX7_digest_93 ?_
      refine q_top (show ((mS σ) (70 + i)) = σ (70 + i) from mS_c _ (by omega)) ?_
      refine lv_i2l hx hb dX7_digest_94 rfl ?_
      refine q_wV0 (As := [.long ((σ (70 + i)).toInt64)]) (rest := []) (st1 := []) ⟨hx, hb, hml, hown, hts⟩ (c_X7_mix D cy A b σ saved many bf T len 0 at_ le f1 f2 dn (31 * (hxD σ (hx1 (hx1 (hx1 (hx1 (hx1 4184 (nI (cl σ))) (nI (cw σ))) (σ 84)) (σ 85)) (wst σ 7).1) i) + ((σ (63 + i)).toInt64)) Z ((σ (70 + i)).toInt64)) (cwV 1 hts gX7_digest_X7_mix rfl rfl rfl hd_X7_mix ⟨Nat.le_of_ble_eq_true rfl, Nat.le_of_ble_eq_true rfl⟩) hK hA hw 0 rfl rfl rfl hl.1 rfl rfl (Nat.le_of_ble_eq_true rfl) ⟨Nat.zero_le _, Nat.zero_le _⟩ dX7_digest_95 (fun H locs hw => ?_)
      have hw : wS D A (wM cy b (mS σ) saved many bf T len 0 at_ le f1 f2 dn (31 * (31 * (hxD σ (hx1 (hx1 (hx1 (hx1 (hx1 4184 (nI (cl σ))) (nI (cw σ))) (σ 84)) (σ 85)) (wst σ 7).1) i) + ((σ (63 + i)).toInt64)) + ((σ (70 + i)).toInt64)) ++ Z) s H locs := hw
      have hP := hw.1
      refine lv_aload_n hx hb dX7_digest_98 rfl (lv_at hl 0 rfl) ?_
      refine lv_aload_n hx hb dX7_digest_99 rfl (lv_at hl 0 rfl) ?_
      refine va_get (D := D) (ci := 7) (v := .ref (b 1)) (C := RX7) (T := TX7) (N := 13) hx hb hts (fun _ h => List.mem_cons_of_mem _ (List.mem_append_right _ h)) hown hK hP 0 rfl rfl 0 (by decide) (hts (.fieldLink RX7 7 "SpreadParityModel" "s" "[I") (List.mem_of_getElem? (i := 4) rfl)) (fun _ h9 => h9) rfl dX7_digest_100 ?_
      refine lv_bipush (v := nI 77) hx hb dX7_digest_103 rfl ?_
      refine lv_iload_n hx hb dX7_digest_105 rfl (lv_at hl 1 rfl) ?_
      refine q_addN hx hb dX7_digest_106 ?_
      refine q_iald hx hb hK hP 1 rfl (by omega) (by omega) dX7_digest_107 ?_
      refine q_top (show ((mS σ) (77 + i)) = σ (77 + i) from mS_c _ (by omega)) ?_
      refine lv_i2l hx hb dX7_digest_108 rfl ?_
      refine q_wV0 (As := [.long ((σ (77 + i)).toInt64)]) (rest := []) (st1 := []) ⟨hx, hb, hml, hown, hts⟩ (c_X7_mix D cy A b σ saved many bf T len 0 at_ le f1 f2 dn (31 * (31 * (hxD σ (hx1 (hx1 (hx1 (hx1 (hx1 4184 (nI (cl σ))) (nI (cw σ))) (σ 84)) (σ 85)) (wst σ 7).1) i) + ((σ (63 + i)).toInt64)) + ((σ (70 + i)).toInt64)) Z ((σ (77 + i)).toInt64)) (cwV 1 hts gX7_digest_X7_mix rfl rfl rfl hd_X7_mix ⟨Nat.le_of_ble_eq_true rfl, Nat.le_of_ble_eq_true rfl⟩) hK hA hw 0 rfl rfl rfl hl.1 rfl rfl (Nat.le_of_ble_eq_true rfl) ⟨Nat.zero_le _, Nat.zero_le _⟩ dX7_digest_109 (fun H locs hw => ?_)
      have hw : wS D A (wM cy b (mS σ) saved many bf T len 0 at_ le f1 f2 dn (31 * (31 * (31 * (hxD σ (hx1 (hx1 (hx1 (hx1 (hx1 4184 (nI (cl σ))) (nI (cw σ))) (σ 84)) (σ 85)) (wst σ 7).1) i) + ((σ (63 + i)).toInt64)) + ((σ (70 + i)).toInt64)) + ((σ (77 + i)).toInt64)) ++ Z) s H locs := hw
      have hP := hw.1
      refine lv_aload_n hx hb dX7_digest_112 rfl (lv_at hl 0 rfl) ?_
      refine lv_aload_n hx hb dX7_digest_113 rfl (lv_at hl 0 rfl) ?_
      refine lv_iload_n hx hb dX7_digest_114 rfl (lv_at hl 1 rfl) ?_
      refine q_wV0 (As := [.int (nI (i))]) (rest := [.ref (b 0)]) (st1 := [.int (nI (cl (failS σ i))), .ref (b 0)]) ⟨hx, hb, hml, hown, hts⟩ (c_X7_lostBy D cy A b σ saved many bf T len 0 at_ le f1 f2 dn (31 * (31 * (31 * (hxD σ (hx1 (hx1 (hx1 (hx1 (hx1 4184 (nI (cl σ))) (nI (cw σ))) (σ 84)) (σ 85)) (wst σ 7).1) i) + ((σ (63 + i)).toInt64)) + ((σ (70 + i)).toInt64)) + ((σ (77 + i)).toInt64)) Z (i) (by omega) h_0) (cwV 1 hts gX7_digest_X7_lostBy rfl rfl rfl hd_X7_lostBy ⟨Nat.le_of_ble_eq_true rfl, Nat.le_of_ble_eq_true rfl⟩) hK hA hw 0 rfl rfl rfl hl.1 rfl rfl (Nat.le_of_ble_eq_true rfl) ⟨Nat.zero_le _, Nat.zero_le _⟩ dX7_digest_115 (fun H locs hw => ?_)
      have hw : wS D A (wM cy b (mS σ) saved many (cpG bf (mS σ) 0 0 86) T len 0 at_ le f1 f2 dn (31 * (31 * (31 * (hxD σ (hx1 (hx1 (hx1 (hx1 (hx1 4184 (nI (cl σ))) (nI (cw σ))) (σ 84)) (σ 85)) (wst σ 7).1) i) + ((σ (63 + i)).toInt64)) + ((σ (70 + i)).toInt64)) + ((σ (77 + i)).toInt64)) ++ Z) s H locs := hw
      have hP := hw.1
      refine lv_i2l hx hb dX7_digest_118 rfl ?_
      refine q_wV0 (As := [.long ((nI (cl (failS σ i))).toInt64)]) (rest := []) (st1 := []) ⟨hx, hb, hml, hown, hts⟩ (c_X7_mix D cy A b σ saved many (cpG bf (mS σ) 0 0 86) T len 0 at_ le f1 f2 dn (31 * (31 * (31 * (hxD σ (hx1 (hx1 (hx1 (hx1 (hx1 4184 (nI (cl σ))) (nI (cw σ))) (σ 84)) (σ 85)) (wst σ 7).1) i) + ((σ (63 + i)).toInt64)) + ((σ (70 + i)).toInt64)) + ((σ (77 + i)).toInt64)) Z ((nI (cl (failS σ i))).toInt64)) (cwV 1 hts gX7_digest_X7_mix rfl rfl rfl hd_X7_mix ⟨Nat.le_of_ble_eq_true rfl, Nat.le_of_ble_eq_true rfl⟩) hK hA hw 0 rfl rfl rfl hl.1 rfl rfl (Nat.le_of_ble_eq_true rfl) ⟨Nat.zero_le _, Nat.zero_le _⟩ dX7_digest_119 (fun H locs hw => ?_)
      have hw : wS D A (wM cy b (mS σ) saved many (cpG bf (mS σ) 0 0 86) T len 0 at_ le f1 f2 dn (31 * (31 * (31 * (31 * (hxD σ (hx1 (hx1 (hx1 (hx1 (hx1 4184 (nI (cl σ))) (nI (cw σ))) (σ 84)) (σ 85)) (wst σ 7).1) i) + ((σ (63 + i)).toInt64)) + ((σ (70 + i)).toInt64)) + ((σ (77 + i)).toInt64)) + ((nI (cl (failS σ i))).toInt64)) ++ Z) s H locs := hw
      have hP := hw.1
      have e_11 : (31 * (31 * (31 * (31 * (hxD σ (hx1 (hx1 (hx1 (hx1 (hx1 4184 (nI (cl σ))) (nI (cw σ))) (σ 84)) (σ 85)) (wst σ 7).1) i) + ((σ (63 + i)).toInt64)) + ((σ (70 + i)).toInt64)) + ((σ (77 + i)).toInt64)) + ((nI (cl (failS σ i))).toInt64)) = hxD σ (hx1 (hx1 (hx1 (hx1 (hx1 4184 (nI (cl σ))) (nI (cw σ))) (σ 84)) (σ 85)) (wst σ 7).1) (i + 1) := rfl
      rw [e_11] at hw
      have hP := hw.1
      refine lv_iinc (v := nI (i + 1)) (lv' := [(1, .int (nI (i + 1))), (0, .ref (b 0))]) hx hb dX7_digest_122 hl (k := 1) rfl (show nI (i) + nI 1 = nI (i + 1) from nI_add _ _) (by decide) rfl (fun ls hl => ?_)
      refine lv_goto (tgt := 65) hx hb dX7_digest_125 (by decide) ?_
      exact ih_i (i + 1) (by omega) (cpG bf (mS σ) 0 0 86) (Nat.zero_le _) _ _ _ hw (lv_sub hl [1, 0] rfl)
  exact lp65 (7 - 0) 0 (by omega) (bf9_56) (Nat.zero_le _) _ _ _ hw (lv_sub hl [1, 0] rfl)
