set_option maxHeartbeats 1000000 in
set_option maxRecDepth 100000 in
theorem c_X7_doFail {l : Launch} (D : va_G) (cy : ClassId) (A : Nat → Prop) (b : Nat → Nat) (σ saved : Nat → Int32) (many : Nat) (bef T : Nat → Int32) (len thr at_ : Nat) (le f1 f2 : Int32) (dn : Nat) (hs : Int64) (Z : va_W) (d : Nat) (h_0 : d < 7) (h_1 : Val σ) : Met l yX7_doFail wsX7_doFail (k2_rm 7 156) (gP D cy [.ref (b 0), .int (nI (d))] A (wM cy b (mS σ) saved many bef T len thr at_ le f1 f2 dn hs ++ Z)) (gQ D A (some (.int (nI (cl (failS σ d))))) (wM cy b (mS (failS σ d)) saved many bef T len thr at_ le f1 f2 dn hs ++ Z)) 0 0 A := by
  refine q_imp (cc := cX7_doFail) (maxL := 3) (ret := (some .int)) pl_X7 rfl (Nat.le_of_ble_eq_true rfl) ?_
  intro p e s m below meth c ls hx hb hr hml hts hown hlocks hw hK hA hl
  have hP := hw.1
  have hl : lv_has ls 3 [(0, .ref (b 0)), (1, .int (nI (d)))] := hl
  refine lv_aload_n hx hb dX7_doFail_0 rfl (lv_at hl 0 rfl) ?_
  refine va_get (D := D) (ci := 7) (v := .ref (b 1)) (C := RX7) (T := TX7) (N := 13) hx hb hts (fun _ h => List.mem_cons_of_mem _ (List.mem_append_right _ h)) hown hK hP 0 rfl rfl 0 (by decide) (hts (.fieldLink RX7 7 "SpreadParityModel" "s" "[I") (List.mem_of_getElem? (i := 1) rfl)) (fun _ h9 => h9) rfl dX7_doFail_1 ?_
  refine lv_iconst (v := nI 0) hx hb dX7_doFail_4 rfl ?_
  refine lv_iload_n hx hb dX7_doFail_5 rfl (lv_at hl 1 rfl) ?_
  refine q_addN hx hb dX7_doFail_6 ?_
  refine lv_iconst (v := -1) hx hb dX7_doFail_7 rfl ?_
  refine q_iast hx hb hK hw 1 rfl (by omega) (by omega) dX7_doFail_8 (fun H locs hw => ?_)
  have hw : wS D A (wM cy b (upd (mS σ) (0 + d) (-1)) saved many bef T len thr at_ le f1 f2 dn hs ++ Z) s H locs := hw
  have hP := hw.1
  have e_m8 : upd (mS σ) (0 + d) (-1) = mS (upd σ (63 + d) (-1)) := mS_wp _ _ (by omega)
  rw [e_m8] at hw
  have hP := hw.1
  have e_1 : upd σ (63 + d) (-1) = failN σ d 0 := failN_0 σ d
  rw [e_1] at hw
  have hP := hw.1
  refine lv_iconst (v := nI 0) hx hb dX7_doFail_9 rfl ?_
  refine lv_istore_n (lv' := [(2, .int (nI (0))), (0, .ref (b 0)), (1, .int (nI (d)))]) hx hb dX7_doFail_10 rfl hl (by decide) rfl (fun ls hl => ?_)
  have lp11 : ∀ (j_ i : Nat), i + j_ = 9 → ∀ (H : Heap) (locs : List Loc) (ls : Array Slot), wS D A (wM cy b (mS (failN σ d i)) saved many bef T len thr at_ le f1 f2 dn hs ++ Z) s H locs → lv_has ls 3 [(0, .ref (b 0)), (1, .int (nI (d))), (2, .int (nI (i)))] → W p l e (k2_rm 7 156) s m ([.ref (b 0), .int (nI (d))] : List Value).toArray below meth c H locs 0 0 (MQ below (gQ D A (some (.int (nI (cl (failS σ d))))) (wM cy b (mS (failS σ d)) saved many bef T len thr at_ le f1 f2 dn hs ++ Z)) ([.ref (b 0), .int (nI (d))] : List Value).toArray s 0 0 A) (F0 m 11 ls []) := by
    intro j_
    induction j_ with
    | zero =>
      intro i hn_i H locs ls hw hl
      have hP := hw.1
      refine lv_iload_n hx hb dX7_doFail_11 rfl (lv_at hl 2 rfl) ?_
      refine lv_bipush (v := nI 9) hx hb dX7_doFail_12 rfl ?_
      refine q_geN (tgt := 38) hx hb dX7_doFail_14 (by decide) (by omega) (by omega) (fun c_14 => ?_) (fun c_14 => absurd c_14 (by omega))
      have e9 : i = 9 := by omega
      subst e9
      have hw : wS D A (wM cy b (mS (failS σ d)) saved many bef T len thr at_ le f1 f2 dn hs ++ Z) s H locs := hw
      have hP := hw.1
      refine lv_aload_n hx hb dX7_doFail_38 rfl (lv_at hl 0 rfl) ?_
      refine q_cV (As := []) (rest := []) ⟨hx, hb, hml, hown, hts⟩ (c_X7_lostAddresses D cy b (failS σ d) saved many bef T len thr at_ le f1 f2 dn hs Z (Val_fail h_1 (by omega))) (cwV 0 hts gX7_doFail_X7_lostAddresses rfl rfl rfl hd_X7_lostAddresses ⟨Nat.le_of_ble_eq_true rfl, Nat.le_of_ble_eq_true rfl⟩) hK hP 0 rfl rfl rfl hl.1 rfl (Nat.le_of_ble_eq_true rfl) ⟨Nat.zero_le _, Nat.zero_le _⟩ dX7_doFail_39 ?_
      exact q_iretW hx hb hr hlocks hw dX7_doFail_42 (rfl)
    | succ j_ ih_i =>
      intro i hn_i H locs ls hw hl
      have hP := hw.1
      refine lv_iload_n hx hb dX7_doFail_11 rfl (lv_at hl 2 rfl) ?_
      refine lv_bipush (v := nI 9) hx hb dX7_doFail_12 rfl ?_
      refine q_geN (tgt := 38) hx hb dX7_doFail_14 (by decide) (by omega) (by omega) (fun c_14 => absurd c_14 (by omega)) (fun c_14 => ?_)
      refine lv_aload_n hx hb dX7_doFail_17 rfl (lv_at hl 0 rfl) ?_
      refine va_get (D := D) (ci := 7) (v := .ref (b 1)) (C := RX7) (T := TX7) (N := 13) hx hb hts (fun _ h => List.mem_cons_of_mem _ (List.mem_append_right _ h)) hown hK hP 0 rfl rfl 0 (by decide) (hts (.fieldLink RX7 7 "SpreadParityModel" "s" "[I") (List.mem_of_getElem? (i := 1) rfl)) (fun _ h9 => h9) rfl dX7_doFail_18 ?_
      refine lv_bipush (v := nI 7) hx hb dX7_doFail_21 rfl ?_
      refine lv_bipush (v := nI 9) hx hb dX7_doFail_23 rfl ?_
      refine lv_iload_n hx hb dX7_doFail_25 rfl (lv_at hl 1 rfl) ?_
      refine q_mulN hx hb dX7_doFail_26 ?_
      refine q_addN hx hb dX7_doFail_27 ?_
      refine lv_iload_n hx hb dX7_doFail_28 rfl (lv_at hl 2 rfl) ?_
      refine q_addN hx hb dX7_doFail_29 ?_
      refine q_top (show (nI ((7 + (9 * d)) + i)) = nI (7 + (9 * d + i)) from congrArg nI (by omega)) ?_
      refine lv_iconst (v := nI 0) hx hb dX7_doFail_30 rfl ?_
      refine q_iast hx hb hK hw 1 rfl (by omega) (by omega) dX7_doFail_31 (fun H locs hw => ?_)
      have hw : wS D A (wM cy b (upd (mS (failN σ d i)) (7 + (9 * d + i)) (0)) saved many bef T len thr at_ le f1 f2 dn hs ++ Z) s H locs := hw
      have hP := hw.1
      have e_m31 : upd (mS (failN σ d i)) (7 + (9 * d + i)) (0) = mS (upd (failN σ d i) (9 * d + i) (0)) := mS_wu _ _ (by omega)
      rw [e_m31] at hw
      have hP := hw.1
      have e_2 : upd (failN σ d i) (9 * d + i) (0) = failN σ d (i + 1) := failN_s σ (by omega) (by omega)
      rw [e_2] at hw
      have hP := hw.1
      refine lv_iinc (v := nI (i + 1)) (lv' := [(2, .int (nI (i + 1))), (0, .ref (b 0)), (1, .int (nI (d)))]) hx hb dX7_doFail_32 hl (k := 2) rfl (show nI (i) + nI 1 = nI (i + 1) from nI_add _ _) (by decide) rfl (fun ls hl => ?_)
      refine lv_goto (tgt := 11) hx hb dX7_doFail_35 (by decide) ?_
      exact ih_i (i + 1) (by omega) _ _ _ hw (lv_sub hl [1, 2, 0] rfl)
  exact lp11 (9 - 0) 0 (by omega) _ _ _ hw (lv_sub hl [1, 2, 0] rfl)
set_option maxHeartbeats 1000000 in
set_option maxRecDepth 100000 in
theorem c_X7_doBegin {l : Launch} (D : va_G) (cy : ClassId) (A : Nat → Prop) (b : Nat → Nat) (σ saved : Nat → Int32) (many : Nat) (bef T : Nat → Int32) (len thr at_ : Nat) (le f1 f2 : Int32) (dn : Nat) (hs : Int64) (Z : va_W) (d : Nat) (h_0 : d < 7) : Met l yX7_doBegin wsX7_doBegin (k2_rm 0 0) (gP D cy [.ref (b 0), .int (nI (d))] A (wM cy b (mS σ) saved many bef T len thr at_ le f1 f2 dn hs ++ Z)) (gQ D A (some (.int (begS σ d 84))) (wM cy b (mS (begS σ d)) saved many bef T len thr at_ le f1 f2 dn hs ++ Z)) 0 0 A := by
  refine q_imp (cc := cX7_doBegin) (maxL := 2) (ret := (some .int)) pl_X7 rfl (Nat.le_of_ble_eq_true rfl) ?_
  intro p e s m below meth c ls hx hb hr hml hts hown hlocks hw hK hA hl
  have hP := hw.1
  have hl : lv_has ls 2 [(0, .ref (b 0)), (1, .int (nI (d)))] := hl
  refine lv_aload_n hx hb dX7_doBegin_0 rfl (lv_at hl 0 rfl) ?_
  refine va_get (D := D) (ci := 7) (v := .ref (b 1)) (C := RX7) (T := TX7) (N := 13) hx hb hts (fun _ h => List.mem_cons_of_mem _ (List.mem_append_right _ h)) hown hK hP 0 rfl rfl 0 (by decide) (hts (.fieldLink RX7 7 "SpreadParityModel" "s" "[I") (List.mem_of_getElem? (i := 1) rfl)) (fun _ h9 => h9) rfl dX7_doBegin_1 ?_
  refine lv_iconst (v := nI 0) hx hb dX7_doBegin_4 rfl ?_
  refine lv_iload_n hx hb dX7_doBegin_5 rfl (lv_at hl 1 rfl) ?_
  refine q_addN hx hb dX7_doBegin_6 ?_
  refine lv_iconst (v := nI 0) hx hb dX7_doBegin_7 rfl ?_
  refine q_iast hx hb hK hw 1 rfl (by omega) (by omega) dX7_doBegin_8 (fun H locs hw => ?_)
  have hw : wS D A (wM cy b (upd (mS σ) (0 + d) (0)) saved many bef T len thr at_ le f1 f2 dn hs ++ Z) s H locs := hw
  have hP := hw.1
  have e_m8 : upd (mS σ) (0 + d) (0) = mS (upd σ (63 + d) (0)) := mS_wp _ _ (by omega)
  rw [e_m8] at hw
  have hP := hw.1
  refine lv_aload_n hx hb dX7_doBegin_9 rfl (lv_at hl 0 rfl) ?_
  refine va_get (D := D) (ci := 7) (v := .ref (b 1)) (C := RX7) (T := TX7) (N := 13) hx hb hts (fun _ h => List.mem_cons_of_mem _ (List.mem_append_right _ h)) hown hK hP 0 rfl rfl 0 (by decide) (hts (.fieldLink RX7 7 "SpreadParityModel" "s" "[I") (List.mem_of_getElem? (i := 1) rfl)) (fun _ h9 => h9) rfl dX7_doBegin_10 ?_
  refine lv_bipush (v := nI 84) hx hb dX7_doBegin_13 rfl ?_
  refine lv_dup2_11 hx hb dX7_doBegin_15 rfl rfl ?_
  refine q_iald hx hb hK hP 1 rfl (by omega) (by omega) dX7_doBegin_16 ?_
  refine q_top (show ((mS (upd σ (63 + d) (0))) (84)) = (upd σ (63 + d) (0)) (84) from mS_c _ (by omega)) ?_
  refine lv_iconst (v := nI 1) hx hb dX7_doBegin_17 rfl ?_
  refine lv_isub hx hb dX7_doBegin_18 ?_
  refine q_iast hx hb hK hw 1 rfl (by omega) (by omega) dX7_doBegin_19 (fun H locs hw => ?_)
  have hw : wS D A (wM cy b (upd (mS (upd σ (63 + d) (0))) (84) (((upd σ (63 + d) (0)) (84)) - 1)) saved many bef T len thr at_ le f1 f2 dn hs ++ Z) s H locs := hw
  have hP := hw.1
  have e_m19 : upd (mS (upd σ (63 + d) (0))) (84) (((upd σ (63 + d) (0)) (84)) - 1) = mS (upd (upd σ (63 + d) (0)) (84) (((upd σ (63 + d) (0)) (84)) - 1)) := mS_wc _ _ (by omega)
  rw [e_m19] at hw
  have hP := hw.1
  have e_1 : upd (upd σ (63 + d) (0)) (84) (((upd σ (63 + d) (0)) (84)) - 1) = begS σ d := begS_c σ (by omega)
  rw [e_1] at hw
  have hP := hw.1
  refine lv_aload_n hx hb dX7_doBegin_20 rfl (lv_at hl 0 rfl) ?_
  refine va_get (D := D) (ci := 7) (v := .ref (b 1)) (C := RX7) (T := TX7) (N := 13) hx hb hts (fun _ h => List.mem_cons_of_mem _ (List.mem_append_right _ h)) hown hK hP 0 rfl rfl 0 (by decide) (hts (.fieldLink RX7 7 "SpreadParityModel" "s" "[I") (List.mem_of_getElem? (i := 1) rfl)) (fun _ h9 => h9) rfl dX7_doBegin_21 ?_
  refine lv_bipush (v := nI 84) hx hb dX7_doBegin_24 rfl ?_
  refine q_iald hx hb hK hP 1 rfl (by omega) (by omega) dX7_doBegin_26 ?_
  refine q_top (show ((mS (begS σ d)) (84)) = (begS σ d) (84) from mS_c _ (by omega)) ?_
  exact q_iretW hx hb hr hlocks hw dX7_doBegin_27 (rfl)
set_option maxHeartbeats 1000000 in
set_option maxRecDepth 100000 in
theorem c_X7_isMended {l : Launch} (D : va_G) (cy : ClassId) (b : Nat → Nat) (σ saved : Nat → Int32) (many : Nat) (bef T : Nat → Int32) (len thr at_ : Nat) (le f1 f2 : Int32) (dn : Nat) (hs : Int64) (Z : va_W) (d : Nat) (h_0 : d < 7) (h_1 : Val σ) : Met l yX7_isMended wsX7_isMended (k2_rm 1 22) (gR D cy [.ref (b 0), .int (nI (d))] (wM cy b (mS σ) saved many bef T len thr at_ le f1 f2 dn hs ++ Z)) (k2_QcV (.int (bI (isM σ d)))) 0 0 (fun _ => False) := by
  refine q_pure (cc := cX7_isMended) (maxL := 2) (ret := (some .boolean)) pl_X7 rfl (Nat.le_of_ble_eq_true rfl) ?_
  intro p e s m below meth c ls hx hb hr hml hts hown hlocks hP hK hl
  have hl : lv_has ls 2 [(0, .ref (b 0)), (1, .int (nI (d)))] := hl
  refine lv_aload_n hx hb dX7_isMended_0 rfl (lv_at hl 0 rfl) ?_
  refine va_get (D := D) (ci := 7) (v := .ref (b 1)) (C := RX7) (T := TX7) (N := 13) hx hb hts (fun _ h => List.mem_cons_of_mem _ (List.mem_append_right _ h)) hown hK hP 0 rfl rfl 0 (by decide) (hts (.fieldLink RX7 7 "SpreadParityModel" "s" "[I") (List.mem_of_getElem? (i := 1) rfl)) (fun _ h9 => h9) rfl dX7_isMended_1 ?_
  refine lv_iconst (v := nI 0) hx hb dX7_isMended_4 rfl ?_
  refine lv_iload_n hx hb dX7_isMended_5 rfl (lv_at hl 1 rfl) ?_
  refine q_addN hx hb dX7_isMended_6 ?_
  refine q_iald hx hb hK hP 1 rfl (by omega) (by omega) dX7_isMended_7 ?_
  refine q_top (show ((mS σ) (0 + d)) = σ (63 + d) from mS_p _ (by omega)) ?_
  refine lv_iconst (v := nI 0) hx hb dX7_isMended_8 rfl ?_
  refine lv_bipush (v := nI 8) hx hb dX7_isMended_9 rfl ?_
  refine q_cS (As := [.int (σ (63 + d)), .int (nI (0)), .int (nI (8))]) (rest := []) (w := []) ⟨hx, hb, hml, hown, hts⟩ (c_X7_in D cy (σ (63 + d)) (0) (8)) (va_cwS 3 hts gX7_isMended_X7_in rfl rfl rfl hd_X7_in ⟨Nat.le_of_ble_eq_true rfl, Nat.le_of_ble_eq_true rfl⟩) hK q_Pnil rfl hl.1 rfl (Nat.le_of_ble_eq_true rfl) ⟨Nat.zero_le _, Nat.zero_le _⟩ dX7_isMended_11 ?_
  exact q_zret hx hb hr hlocks dX7_isMended_14 (congrArg bI (isM_in h_1 h_0))
set_option maxHeartbeats 1000000 in
set_option maxRecDepth 100000 in
theorem c_X7_mendOne {l : Launch} (D : va_G) (cy : ClassId) (A : Nat → Prop) (b : Nat → Nat) (σ saved : Nat → Int32) (many : Nat) (bef T : Nat → Int32) (len thr at_ : Nat) (le f1 f2 : Int32) (dn : Nat) (hs : Int64) (Z : va_W) (g : Nat) (d : Nat) (h_0 : d < 7) (h_1 : σ (63 + d) = nI g) (h_2 : g < 9) : Met l yX7_mendOne wsX7_mendOne (k2_rm 5 112) (gP D cy [.ref (b 0), .int (nI (d))] A (wM cy b (mS σ) saved many bef T len thr at_ le f1 f2 dn hs ++ Z)) (gQ D A (none) (wM cy b (mS (mendS σ d)) saved many bef T len thr at_ le f1 f2 dn hs ++ Z)) 0 0 A := by
  refine q_imp (cc := cX7_mendOne) (maxL := 5) (ret := none) pl_X7 rfl (Nat.le_of_ble_eq_true rfl) ?_
  intro p e s m below meth c ls hx hb hr hml hts hown hlocks hw hK hA hl
  have hP := hw.1
  have hl : lv_has ls 5 [(0, .ref (b 0)), (1, .int (nI (d)))] := hl
  refine lv_aload_n hx hb dX7_mendOne_0 rfl (lv_at hl 0 rfl) ?_
  refine va_get (D := D) (ci := 7) (v := .ref (b 1)) (C := RX7) (T := TX7) (N := 13) hx hb hts (fun _ h => List.mem_cons_of_mem _ (List.mem_append_right _ h)) hown hK hP 0 rfl rfl 0 (by decide) (hts (.fieldLink RX7 7 "SpreadParityModel" "s" "[I") (List.mem_of_getElem? (i := 1) rfl)) (fun _ h9 => h9) rfl dX7_mendOne_1 ?_
  refine lv_iconst (v := nI 0) hx hb dX7_mendOne_4 rfl ?_
  refine lv_iload_n hx hb dX7_mendOne_5 rfl (lv_at hl 1 rfl) ?_
  refine q_addN hx hb dX7_mendOne_6 ?_
  refine q_iald hx hb hK hP 1 rfl (by omega) (by omega) dX7_mendOne_7 ?_
  refine q_top (show ((mS σ) (0 + d)) = σ (63 + d) from mS_p _ (by omega)) ?_
  refine q_top (show (σ (63 + d)) = nI (g) from h_1) ?_
  refine lv_istore_n (lv' := [(2, .int (nI (g))), (0, .ref (b 0)), (1, .int (nI (d)))]) hx hb dX7_mendOne_8 rfl hl (by decide) rfl (fun ls hl => ?_)
  refine lv_iload_n hx hb dX7_mendOne_9 rfl (lv_at hl 2 rfl) ?_
  refine lv_iload_n hx hb dX7_mendOne_10 rfl (lv_at hl 0 rfl) ?_
  refine q_cS (As := [.int (nI (d)), .int (nI (g))]) (rest := []) (w := []) ⟨hx, hb, hml, hown, hts⟩ (c_X7_stripeOf D cy (d) (g) (by omega) (by omega)) (va_cwS 2 hts gX7_mendOne_X7_stripeOf rfl rfl rfl hd_X7_stripeOf ⟨Nat.le_of_ble_eq_true rfl, Nat.le_of_ble_eq_true rfl⟩) hK q_Pnil rfl hl.1 rfl (Nat.le_of_ble_eq_true rfl) ⟨Nat.zero_le _, Nat.zero_le _⟩ dX7_mendOne_11 ?_
  refine lv_istore_n (lv' := [(3, .int (nI (stT (9 * d + g)))), (2, .int (nI (g))), (0, .ref (b 0)), (1, .int (nI (d)))]) hx hb dX7_mendOne_14 rfl hl (by decide) rfl (fun ls hl => ?_)
  refine lv_iload_n hx hb dX7_mendOne_15 rfl (lv_at hl 3 rfl) ?_
  refine lv_iload_n hx hb dX7_mendOne_16 rfl (lv_at hl 1 rfl) ?_
  refine q_cS (As := [.int (nI (d)), .int (nI (g))]) (rest := []) (w := []) ⟨hx, hb, hml, hown, hts⟩ (c_X7_unitAt D cy (d) (g) (by omega) (by omega)) (va_cwS 2 hts gX7_mendOne_X7_unitAt rfl rfl rfl hd_X7_unitAt ⟨Nat.le_of_ble_eq_true rfl, Nat.le_of_ble_eq_true rfl⟩) hK q_Pnil rfl hl.1 rfl (Nat.le_of_ble_eq_true rfl) ⟨Nat.zero_le _, Nat.zero_le _⟩ dX7_mendOne_17 ?_
  refine lv_istore (lv' := [(4, .int (nI (unT (9 * d + g)))), (3, .int (nI (stT (9 * d + g)))), (2, .int (nI (g))), (0, .ref (b 0)), (1, .int (nI (d)))]) hx hb dX7_mendOne_20 hl (by decide) rfl (fun ls hl => ?_)
  refine lv_aload_n hx hb dX7_mendOne_22 rfl (lv_at hl 3 rfl) ?_
  refine lv_iload_n hx hb dX7_mendOne_23 rfl (lv_at hl 1 rfl) ?_
  refine lv_iload hx hb dX7_mendOne_24 (lv_at hl 0 rfl) ?_
  refine q_cV (As := [.int (nI (stT (9 * d + g))), .int (nI (unT (9 * d + g)))]) (rest := []) ⟨hx, hb, hml, hown, hts⟩ (c_X7_canFind D cy b σ saved many bef T len thr at_ le f1 f2 dn hs Z (stT (9 * d + g)) (unT (9 * d + g)) (stT_lt (by omega)) (unT_lt (by omega))) (cwV 2 hts gX7_mendOne_X7_canFind rfl rfl rfl hd_X7_canFind ⟨Nat.le_of_ble_eq_true rfl, Nat.le_of_ble_eq_true rfl⟩) hK hP 0 rfl rfl rfl hl.1 rfl (Nat.le_of_ble_eq_true rfl) ⟨Nat.zero_le _, Nat.zero_le _⟩ dX7_mendOne_26 ?_
  refine q_ifeqB (tgt := 83) hx hb dX7_mendOne_29 (by decide) (fun c_29 => ?_) (fun c_29 => ?_)
  · refine lv_aload_n hx hb dX7_mendOne_83 rfl (lv_at hl 3 rfl) ?_
    refine va_get (D := D) (ci := 7) (v := .ref (b 1)) (C := RX7) (T := TX7) (N := 13) hx hb hts (fun _ h => List.mem_cons_of_mem _ (List.mem_append_right _ h)) hown hK hP 0 rfl rfl 0 (by decide) (hts (.fieldLink RX7 7 "SpreadParityModel" "s" "[I") (List.mem_of_getElem? (i := 1) rfl)) (fun _ h9 => h9) rfl dX7_mendOne_84 ?_
    refine lv_bipush (v := nI 85) hx hb dX7_mendOne_87 rfl ?_
    refine lv_dup2_11 hx hb dX7_mendOne_89 rfl rfl ?_
    refine q_iald hx hb hK hP 1 rfl (by omega) (by omega) dX7_mendOne_90 ?_
    refine q_top (show ((mS σ) (85)) = σ (85) from mS_c _ (by omega)) ?_
    refine lv_iconst (v := nI 1) hx hb dX7_mendOne_91 rfl ?_
    refine lv_iadd hx hb dX7_mendOne_92 ?_
    refine q_iast hx hb hK hw 1 rfl (by omega) (by omega) dX7_mendOne_93 (fun H locs hw => ?_)
    have hw : wS D A (wM cy b (upd (mS σ) (85) ((σ (85)) + 1)) saved many bef T len thr at_ le f1 f2 dn hs ++ Z) s H locs := hw
    have hP := hw.1
    have e_m93 : upd (mS σ) (85) ((σ (85)) + 1) = mS (upd σ (85) ((σ (85)) + 1)) := mS_wc _ _ (by omega)
    rw [e_m93] at hw
    have hP := hw.1
    refine lv_aload_n hx hb dX7_mendOne_94 rfl (lv_at hl 3 rfl) ?_
    refine va_get (D := D) (ci := 7) (v := .ref (b 1)) (C := RX7) (T := TX7) (N := 13) hx hb hts (fun _ h => List.mem_cons_of_mem _ (List.mem_append_right _ h)) hown hK hP 0 rfl rfl 0 (by decide) (hts (.fieldLink RX7 7 "SpreadParityModel" "s" "[I") (List.mem_of_getElem? (i := 1) rfl)) (fun _ h9 => h9) rfl dX7_mendOne_95 ?_
    refine lv_iconst (v := nI 0) hx hb dX7_mendOne_98 rfl ?_
    refine lv_iload_n hx hb dX7_mendOne_99 rfl (lv_at hl 4 rfl) ?_
    refine q_addN hx hb dX7_mendOne_100 ?_
    refine lv_dup2_11 hx hb dX7_mendOne_101 rfl rfl ?_
    refine q_iald hx hb hK hP 1 rfl (by omega) (by omega) dX7_mendOne_102 ?_
    refine q_top (show ((mS (upd σ (85) ((σ (85)) + 1))) (0 + d)) = (upd σ (85) ((σ (85)) + 1)) (63 + d) from mS_p _ (by omega)) ?_
    refine lv_iconst (v := nI 1) hx hb dX7_mendOne_103 rfl ?_
    refine lv_iadd hx hb dX7_mendOne_104 ?_
    refine q_iast hx hb hK hw 1 rfl (by omega) (by omega) dX7_mendOne_105 (fun H locs hw => ?_)
    have hw : wS D A (wM cy b (upd (mS (upd σ (85) ((σ (85)) + 1))) (0 + d) (((upd σ (85) ((σ (85)) + 1)) (63 + d)) + 1)) saved many bef T len thr at_ le f1 f2 dn hs ++ Z) s H locs := hw
    have hP := hw.1
    have e_m105 : upd (mS (upd σ (85) ((σ (85)) + 1))) (0 + d) (((upd σ (85) ((σ (85)) + 1)) (63 + d)) + 1) = mS (upd (upd σ (85) ((σ (85)) + 1)) (63 + d) (((upd σ (85) ((σ (85)) + 1)) (63 + d)) + 1)) := mS_wp _ _ (by omega)
    rw [e_m105] at hw
    have hP := hw.1
    rw [show upd (upd σ (85) ((σ (85)) + 1)) (63 + d) (((upd σ (85) ((σ (85)) + 1)) (63 + d)) + 1) = mendS σ d from by
        simp only [mendS, mendA, mkS, h_1, nI_clamp (show g < 2 ^ 31 by omega)]
        rw [sp_stun (show 9 * d + g < 63 by omega)] at *
        simp only [c_29, if_true, if_false, Bool.false_eq_true]] at hw
    exact q_vretW hx hb hr hlocks hw dX7_mendOne_106
  · refine lv_aload_n hx hb dX7_mendOne_32 rfl (lv_at hl 3 rfl) ?_
    refine lv_iload_n hx hb dX7_mendOne_33 rfl (lv_at hl 1 rfl) ?_
    refine lv_iload hx hb dX7_mendOne_34 (lv_at hl 0 rfl) ?_
    refine q_cS (As := [.int (nI (unT (9 * d + g)))]) (rest := [.int (nI (stT (9 * d + g))), .ref (b 0)]) (w := []) ⟨hx, hb, hml, hown, hts⟩ (c_X7_one D cy (unT (9 * d + g)) (unT_lt (by omega))) (va_cwS 1 hts gX7_mendOne_X7_one rfl rfl rfl hd_X7_one ⟨Nat.le_of_ble_eq_true rfl, Nat.le_of_ble_eq_true rfl⟩) hK q_Pnil rfl hl.1 rfl (Nat.le_of_ble_eq_true rfl) ⟨Nat.zero_le _, Nat.zero_le _⟩ dX7_mendOne_36 ?_
    refine q_wV0 (As := [.int (nI (stT (9 * d + g))), .int (nI (on1 (unT (9 * d + g))))]) (rest := []) (st1 := []) ⟨hx, hb, hml, hown, hts⟩ (c_X7_countRead D cy A b σ saved many bef T len thr at_ le f1 f2 dn hs Z (stT (9 * d + g)) (on1 (unT (9 * d + g))) (stT_lt (by omega)) (on1_lt _)) (cwV 2 hts gX7_mendOne_X7_countRead rfl rfl rfl hd_X7_countRead ⟨Nat.le_of_ble_eq_true rfl, Nat.le_of_ble_eq_true rfl⟩) hK hA hw 0 rfl rfl rfl hl.1 rfl rfl (Nat.le_of_ble_eq_true rfl) ⟨Nat.zero_le _, Nat.zero_le _⟩ dX7_mendOne_39 (fun H locs hw => ?_)
    have hw : wS D A (wM cy b (mS (rdS σ (spT (3 * (stT (9 * d + g)) + (on1 (unT (9 * d + g))))))) saved many bef T len thr at_ le f1 f2 dn hs ++ Z) s H locs := hw
    have hP := hw.1
    refine lv_aload_n hx hb dX7_mendOne_42 rfl (lv_at hl 3 rfl) ?_
    refine lv_iload_n hx hb dX7_mendOne_43 rfl (lv_at hl 1 rfl) ?_
    refine lv_iload hx hb dX7_mendOne_44 (lv_at hl 0 rfl) ?_
    refine q_cS (As := [.int (nI (unT (9 * d + g)))]) (rest := [.int (nI (stT (9 * d + g))), .ref (b 0)]) (w := []) ⟨hx, hb, hml, hown, hts⟩ (c_X7_two D cy (unT (9 * d + g)) (unT_lt (by omega))) (va_cwS 1 hts gX7_mendOne_X7_two rfl rfl rfl hd_X7_two ⟨Nat.le_of_ble_eq_true rfl, Nat.le_of_ble_eq_true rfl⟩) hK q_Pnil rfl hl.1 rfl (Nat.le_of_ble_eq_true rfl) ⟨Nat.zero_le _, Nat.zero_le _⟩ dX7_mendOne_46 ?_
    refine q_wV0 (As := [.int (nI (stT (9 * d + g))), .int (nI (tw2 (unT (9 * d + g))))]) (rest := []) (st1 := []) ⟨hx, hb, hml, hown, hts⟩ (c_X7_countRead D cy A b (rdS σ (spT (3 * (stT (9 * d + g)) + (on1 (unT (9 * d + g)))))) saved many bef T len thr at_ le f1 f2 dn hs Z (stT (9 * d + g)) (tw2 (unT (9 * d + g))) (stT_lt (by omega)) (tw2_lt _)) (cwV 2 hts gX7_mendOne_X7_countRead rfl rfl rfl hd_X7_countRead ⟨Nat.le_of_ble_eq_true rfl, Nat.le_of_ble_eq_true rfl⟩) hK hA hw 0 rfl rfl rfl hl.1 rfl rfl (Nat.le_of_ble_eq_true rfl) ⟨Nat.zero_le _, Nat.zero_le _⟩ dX7_mendOne_49 (fun H locs hw => ?_)
    have hw : wS D A (wM cy b (mS (rdS (rdS σ (spT (3 * (stT (9 * d + g)) + (on1 (unT (9 * d + g)))))) (spT (3 * (stT (9 * d + g)) + (tw2 (unT (9 * d + g))))))) saved many bef T len thr at_ le f1 f2 dn hs ++ Z) s H locs := hw
    have hP := hw.1
    refine lv_aload_n hx hb dX7_mendOne_52 rfl (lv_at hl 3 rfl) ?_
    refine lv_iload_n hx hb dX7_mendOne_53 rfl (lv_at hl 1 rfl) ?_
    refine lv_iload hx hb dX7_mendOne_54 (lv_at hl 0 rfl) ?_
    refine lv_aload_n hx hb dX7_mendOne_56 rfl (lv_at hl 3 rfl) ?_
    refine lv_iload_n hx hb dX7_mendOne_57 rfl (lv_at hl 1 rfl) ?_
    refine lv_iload hx hb dX7_mendOne_58 (lv_at hl 0 rfl) ?_
    refine q_cS (As := [.int (nI (unT (9 * d + g)))]) (rest := [.int (nI (stT (9 * d + g))), .ref (b 0), .int (nI (unT (9 * d + g))), .int (nI (stT (9 * d + g))), .ref (b 0)]) (w := []) ⟨hx, hb, hml, hown, hts⟩ (c_X7_one D cy (unT (9 * d + g)) (unT_lt (by omega))) (va_cwS 1 hts gX7_mendOne_X7_one rfl rfl rfl hd_X7_one ⟨Nat.le_of_ble_eq_true rfl, Nat.le_of_ble_eq_true rfl⟩) hK q_Pnil rfl hl.1 rfl (Nat.le_of_ble_eq_true rfl) ⟨Nat.zero_le _, Nat.zero_le _⟩ dX7_mendOne_60 ?_
    refine q_cV (As := [.int (nI (stT (9 * d + g))), .int (nI (on1 (unT (9 * d + g))))]) (rest := [.int (nI (unT (9 * d + g))), .int (nI (stT (9 * d + g))), .ref (b 0)]) ⟨hx, hb, hml, hown, hts⟩ (c_X7_valueOf D cy b (rdS (rdS σ (spT (3 * (stT (9 * d + g)) + (on1 (unT (9 * d + g)))))) (spT (3 * (stT (9 * d + g)) + (tw2 (unT (9 * d + g)))))) saved many bef T len thr at_ le f1 f2 dn hs Z (stT (9 * d + g)) (on1 (unT (9 * d + g))) (stT_lt (by omega)) (on1_lt _)) (cwV 2 hts gX7_mendOne_X7_valueOf rfl rfl rfl hd_X7_valueOf ⟨Nat.le_of_ble_eq_true rfl, Nat.le_of_ble_eq_true rfl⟩) hK hP 0 rfl rfl rfl hl.1 rfl (Nat.le_of_ble_eq_true rfl) ⟨Nat.zero_le _, Nat.zero_le _⟩ dX7_mendOne_63 ?_
    refine lv_aload_n hx hb dX7_mendOne_66 rfl (lv_at hl 3 rfl) ?_
    refine lv_iload_n hx hb dX7_mendOne_67 rfl (lv_at hl 1 rfl) ?_
    refine lv_iload hx hb dX7_mendOne_68 (lv_at hl 0 rfl) ?_
    refine q_cS (As := [.int (nI (unT (9 * d + g)))]) (rest := [.int (nI (stT (9 * d + g))), .ref (b 0), .int ((rdS (rdS σ (spT (3 * (stT (9 * d + g)) + (on1 (unT (9 * d + g)))))) (spT (3 * (stT (9 * d + g)) + (tw2 (unT (9 * d + g)))))) (spT (3 * (stT (9 * d + g)) + (on1 (unT (9 * d + g)))))), .int (nI (unT (9 * d + g))), .int (nI (stT (9 * d + g))), .ref (b 0)]) (w := []) ⟨hx, hb, hml, hown, hts⟩ (c_X7_two D cy (unT (9 * d + g)) (unT_lt (by omega))) (va_cwS 1 hts gX7_mendOne_X7_two rfl rfl rfl hd_X7_two ⟨Nat.le_of_ble_eq_true rfl, Nat.le_of_ble_eq_true rfl⟩) hK q_Pnil rfl hl.1 rfl (Nat.le_of_ble_eq_true rfl) ⟨Nat.zero_le _, Nat.zero_le _⟩ dX7_mendOne_70 ?_
    refine q_cV (As := [.int (nI (stT (9 * d + g))), .int (nI (tw2 (unT (9 * d + g))))]) (rest := [.int ((rdS (rdS σ (spT (3 * (stT (9 * d + g)) + (on1 (unT (9 * d + g)))))) (spT (3 * (stT (9 * d + g)) + (tw2 (unT (9 * d + g)))))) (spT (3 * (stT (9 * d + g)) + (on1 (unT (9 * d + g)))))), .int (nI (unT (9 * d + g))), .int (nI (stT (9 * d + g))), .ref (b 0)]) ⟨hx, hb, hml, hown, hts⟩ (c_X7_valueOf D cy b (rdS (rdS σ (spT (3 * (stT (9 * d + g)) + (on1 (unT (9 * d + g)))))) (spT (3 * (stT (9 * d + g)) + (tw2 (unT (9 * d + g)))))) saved many bef T len thr at_ le f1 f2 dn hs Z (stT (9 * d + g)) (tw2 (unT (9 * d + g))) (stT_lt (by omega)) (tw2_lt _)) (cwV 2 hts gX7_mendOne_X7_valueOf rfl rfl rfl hd_X7_valueOf ⟨Nat.le_of_ble_eq_true rfl, Nat.le_of_ble_eq_true rfl⟩) hK hP 0 rfl rfl rfl hl.1 rfl (Nat.le_of_ble_eq_true rfl) ⟨Nat.zero_le _, Nat.zero_le _⟩ dX7_mendOne_73 ?_
    refine lv_ixor hx hb dX7_mendOne_76 ?_
    refine q_wV0 (As := [.int (nI (stT (9 * d + g))), .int (nI (unT (9 * d + g))), .int (((rdS (rdS σ (spT (3 * (stT (9 * d + g)) + (on1 (unT (9 * d + g)))))) (spT (3 * (stT (9 * d + g)) + (tw2 (unT (9 * d + g)))))) (spT (3 * (stT (9 * d + g)) + (on1 (unT (9 * d + g)))))) ^^^ ((rdS (rdS σ (spT (3 * (stT (9 * d + g)) + (on1 (unT (9 * d + g)))))) (spT (3 * (stT (9 * d + g)) + (tw2 (unT (9 * d + g)))))) (spT (3 * (stT (9 * d + g)) + (tw2 (unT (9 * d + g)))))))]) (rest := []) (st1 := []) ⟨hx, hb, hml, hown, hts⟩ (c_X7_lay D cy A b (rdS (rdS σ (spT (3 * (stT (9 * d + g)) + (on1 (unT (9 * d + g)))))) (spT (3 * (stT (9 * d + g)) + (tw2 (unT (9 * d + g)))))) saved many bef T len thr at_ le f1 f2 dn hs Z (stT (9 * d + g)) (unT (9 * d + g)) (((rdS (rdS σ (spT (3 * (stT (9 * d + g)) + (on1 (unT (9 * d + g)))))) (spT (3 * (stT (9 * d + g)) + (tw2 (unT (9 * d + g)))))) (spT (3 * (stT (9 * d + g)) + (on1 (unT (9 * d + g)))))) ^^^ ((rdS (rdS σ (spT (3 * (stT (9 * d + g)) + (on1 (unT (9 * d + g)))))) (spT (3 * (stT (9 * d + g)) + (tw2 (unT (9 * d + g)))))) (spT (3 * (stT (9 * d + g)) + (tw2 (unT (9 * d + g))))))) (stT_lt (by omega)) (unT_lt (by omega))) (cwV 3 hts gX7_mendOne_X7_lay rfl rfl rfl hd_X7_lay ⟨Nat.le_of_ble_eq_true rfl, Nat.le_of_ble_eq_true rfl⟩) hK hA hw 0 rfl rfl rfl hl.1 rfl rfl (Nat.le_of_ble_eq_true rfl) ⟨Nat.zero_le _, Nat.zero_le _⟩ dX7_mendOne_77 (fun H locs hw => ?_)
    have hw : wS D A (wM cy b (mS (wrS (rdS (rdS σ (spT (3 * (stT (9 * d + g)) + (on1 (unT (9 * d + g)))))) (spT (3 * (stT (9 * d + g)) + (tw2 (unT (9 * d + g)))))) (spT (3 * (stT (9 * d + g)) + (unT (9 * d + g)))) (((rdS (rdS σ (spT (3 * (stT (9 * d + g)) + (on1 (unT (9 * d + g)))))) (spT (3 * (stT (9 * d + g)) + (tw2 (unT (9 * d + g)))))) (spT (3 * (stT (9 * d + g)) + (on1 (unT (9 * d + g)))))) ^^^ ((rdS (rdS σ (spT (3 * (stT (9 * d + g)) + (on1 (unT (9 * d + g)))))) (spT (3 * (stT (9 * d + g)) + (tw2 (unT (9 * d + g)))))) (spT (3 * (stT (9 * d + g)) + (tw2 (unT (9 * d + g))))))))) saved many bef T len thr at_ le f1 f2 dn hs ++ Z) s H locs := hw
    have hP := hw.1
    refine lv_goto (tgt := 94) hx hb dX7_mendOne_80 (by decide) ?_
    refine lv_aload_n hx hb dX7_mendOne_94 rfl (lv_at hl 3 rfl) ?_
    refine va_get (D := D) (ci := 7) (v := .ref (b 1)) (C := RX7) (T := TX7) (N := 13) hx hb hts (fun _ h => List.mem_cons_of_mem _ (List.mem_append_right _ h)) hown hK hP 0 rfl rfl 0 (by decide) (hts (.fieldLink RX7 7 "SpreadParityModel" "s" "[I") (List.mem_of_getElem? (i := 1) rfl)) (fun _ h9 => h9) rfl dX7_mendOne_95 ?_
    refine lv_iconst (v := nI 0) hx hb dX7_mendOne_98 rfl ?_
    refine lv_iload_n hx hb dX7_mendOne_99 rfl (lv_at hl 4 rfl) ?_
    refine q_addN hx hb dX7_mendOne_100 ?_
    refine lv_dup2_11 hx hb dX7_mendOne_101 rfl rfl ?_
    refine q_iald hx hb hK hP 1 rfl (by omega) (by omega) dX7_mendOne_102 ?_
    refine q_top (show ((mS (wrS (rdS (rdS σ (spT (3 * (stT (9 * d + g)) + (on1 (unT (9 * d + g)))))) (spT (3 * (stT (9 * d + g)) + (tw2 (unT (9 * d + g)))))) (spT (3 * (stT (9 * d + g)) + (unT (9 * d + g)))) (((rdS (rdS σ (spT (3 * (stT (9 * d + g)) + (on1 (unT (9 * d + g)))))) (spT (3 * (stT (9 * d + g)) + (tw2 (unT (9 * d + g)))))) (spT (3 * (stT (9 * d + g)) + (on1 (unT (9 * d + g)))))) ^^^ ((rdS (rdS σ (spT (3 * (stT (9 * d + g)) + (on1 (unT (9 * d + g)))))) (spT (3 * (stT (9 * d + g)) + (tw2 (unT (9 * d + g)))))) (spT (3 * (stT (9 * d + g)) + (tw2 (unT (9 * d + g))))))))) (0 + d)) = (wrS (rdS (rdS σ (spT (3 * (stT (9 * d + g)) + (on1 (unT (9 * d + g)))))) (spT (3 * (stT (9 * d + g)) + (tw2 (unT (9 * d + g)))))) (spT (3 * (stT (9 * d + g)) + (unT (9 * d + g)))) (((rdS (rdS σ (spT (3 * (stT (9 * d + g)) + (on1 (unT (9 * d + g)))))) (spT (3 * (stT (9 * d + g)) + (tw2 (unT (9 * d + g)))))) (spT (3 * (stT (9 * d + g)) + (on1 (unT (9 * d + g)))))) ^^^ ((rdS (rdS σ (spT (3 * (stT (9 * d + g)) + (on1 (unT (9 * d + g)))))) (spT (3 * (stT (9 * d + g)) + (tw2 (unT (9 * d + g)))))) (spT (3 * (stT (9 * d + g)) + (tw2 (unT (9 * d + g)))))))) (63 + d) from mS_p _ (by omega)) ?_
    refine lv_iconst (v := nI 1) hx hb dX7_mendOne_103 rfl ?_
    refine lv_iadd hx hb dX7_mendOne_104 ?_
    refine q_iast hx hb hK hw 1 rfl (by omega) (by omega) dX7_mendOne_105 (fun H locs hw => ?_)
    have hw : wS D A (wM cy b (upd (mS (wrS (rdS (rdS σ (spT (3 * (stT (9 * d + g)) + (on1 (unT (9 * d + g)))))) (spT (3 * (stT (9 * d + g)) + (tw2 (unT (9 * d + g)))))) (spT (3 * (stT (9 * d + g)) + (unT (9 * d + g)))) (((rdS (rdS σ (spT (3 * (stT (9 * d + g)) + (on1 (unT (9 * d + g)))))) (spT (3 * (stT (9 * d + g)) + (tw2 (unT (9 * d + g)))))) (spT (3 * (stT (9 * d + g)) + (on1 (unT (9 * d + g)))))) ^^^ ((rdS (rdS σ (spT (3 * (stT (9 * d + g)) + (on1 (unT (9 * d + g)))))) (spT (3 * (stT (9 * d + g)) + (tw2 (unT (9 * d + g)))))) (spT (3 * (stT (9 * d + g)) + (tw2 (unT (9 * d + g))))))))) (0 + d) (((wrS (rdS (rdS σ (spT (3 * (stT (9 * d + g)) + (on1 (unT (9 * d + g)))))) (spT (3 * (stT (9 * d + g)) + (tw2 (unT (9 * d + g)))))) (spT (3 * (stT (9 * d + g)) + (unT (9 * d + g)))) (((rdS (rdS σ (spT (3 * (stT (9 * d + g)) + (on1 (unT (9 * d + g)))))) (spT (3 * (stT (9 * d + g)) + (tw2 (unT (9 * d + g)))))) (spT (3 * (stT (9 * d + g)) + (on1 (unT (9 * d + g)))))) ^^^ ((rdS (rdS σ (spT (3 * (stT (9 * d + g)) + (on1 (unT (9 * d + g)))))) (spT (3 * (stT (9 * d + g)) + (tw2 (unT (9 * d + g)))))) (spT (3 * (stT (9 * d + g)) + (tw2 (unT (9 * d + g)))))))) (63 + d)) + 1)) saved many bef T len thr at_ le f1 f2 dn hs ++ Z) s H locs := hw
    have hP := hw.1
    have e_m105 : upd (mS (wrS (rdS (rdS σ (spT (3 * (stT (9 * d + g)) + (on1 (unT (9 * d + g)))))) (spT (3 * (stT (9 * d + g)) + (tw2 (unT (9 * d + g)))))) (spT (3 * (stT (9 * d + g)) + (unT (9 * d + g)))) (((rdS (rdS σ (spT (3 * (stT (9 * d + g)) + (on1 (unT (9 * d + g)))))) (spT (3 * (stT (9 * d + g)) + (tw2 (unT (9 * d + g)))))) (spT (3 * (stT (9 * d + g)) + (on1 (unT (9 * d + g)))))) ^^^ ((rdS (rdS σ (spT (3 * (stT (9 * d + g)) + (on1 (unT (9 * d + g)))))) (spT (3 * (stT (9 * d + g)) + (tw2 (unT (9 * d + g)))))) (spT (3 * (stT (9 * d + g)) + (tw2 (unT (9 * d + g))))))))) (0 + d) (((wrS (rdS (rdS σ (spT (3 * (stT (9 * d + g)) + (on1 (unT (9 * d + g)))))) (spT (3 * (stT (9 * d + g)) + (tw2 (unT (9 * d + g)))))) (spT (3 * (stT (9 * d + g)) + (unT (9 * d + g)))) (((rdS (rdS σ (spT (3 * (stT (9 * d + g)) + (on1 (unT (9 * d + g)))))) (spT (3 * (stT (9 * d + g)) + (tw2 (unT (9 * d + g)))))) (spT (3 * (stT (9 * d + g)) + (on1 (unT (9 * d + g)))))) ^^^ ((rdS (rdS σ (spT (3 * (stT (9 * d + g)) + (on1 (unT (9 * d + g)))))) (spT (3 * (stT (9 * d + g)) + (tw2 (unT (9 * d + g)))))) (spT (3 * (stT (9 * d + g)) + (tw2 (unT (9 * d + g)))))))) (63 + d)) + 1) = mS (upd (wrS (rdS (rdS σ (spT (3 * (stT (9 * d + g)) + (on1 (unT (9 * d + g)))))) (spT (3 * (stT (9 * d + g)) + (tw2 (unT (9 * d + g)))))) (spT (3 * (stT (9 * d + g)) + (unT (9 * d + g)))) (((rdS (rdS σ (spT (3 * (stT (9 * d + g)) + (on1 (unT (9 * d + g)))))) (spT (3 * (stT (9 * d + g)) + (tw2 (unT (9 * d + g)))))) (spT (3 * (stT (9 * d + g)) + (on1 (unT (9 * d + g)))))) ^^^ ((rdS (rdS σ (spT (3 * (stT (9 * d + g)) + (on1 (unT (9 * d + g)))))) (spT (3 * (stT (9 * d + g)) + (tw2 (unT (9 * d + g)))))) (spT (3 * (stT (9 * d + g)) + (tw2 (unT (9 * d + g)))))))) (63 + d) (((wrS (rdS (rdS σ (spT (3 * (stT (9 * d + g)) + (on1 (unT (9 * d + g)))))) (spT (3 * (stT (9 * d + g)) + (tw2 (unT (9 * d + g)))))) (spT (3 * (stT (9 * d + g)) + (unT (9 * d + g)))) (((rdS (rdS σ (spT (3 * (stT (9 * d + g)) + (on1 (unT (9 * d + g)))))) (spT (3 * (stT (9 * d + g)) + (tw2 (unT (9 * d + g)))))) (spT (3 * (stT (9 * d + g)) + (on1 (unT (9 * d + g)))))) ^^^ ((rdS (rdS σ (spT (3 * (stT (9 * d + g)) + (on1 (unT (9 * d + g)))))) (spT (3 * (stT (9 * d + g)) + (tw2 (unT (9 * d + g)))))) (spT (3 * (stT (9 * d + g)) + (tw2 (unT (9 * d + g)))))))) (63 + d)) + 1)) := mS_wp _ _ (by omega)
    rw [e_m105] at hw
    have hP := hw.1
    rw [show upd (wrS (rdS (rdS σ (spT (3 * (stT (9 * d + g)) + (on1 (unT (9 * d + g)))))) (spT (3 * (stT (9 * d + g)) + (tw2 (unT (9 * d + g)))))) (spT (3 * (stT (9 * d + g)) + (unT (9 * d + g)))) (((rdS (rdS σ (spT (3 * (stT (9 * d + g)) + (on1 (unT (9 * d + g)))))) (spT (3 * (stT (9 * d + g)) + (tw2 (unT (9 * d + g)))))) (spT (3 * (stT (9 * d + g)) + (on1 (unT (9 * d + g)))))) ^^^ ((rdS (rdS σ (spT (3 * (stT (9 * d + g)) + (on1 (unT (9 * d + g)))))) (spT (3 * (stT (9 * d + g)) + (tw2 (unT (9 * d + g)))))) (spT (3 * (stT (9 * d + g)) + (tw2 (unT (9 * d + g)))))))) (63 + d) (((wrS (rdS (rdS σ (spT (3 * (stT (9 * d + g)) + (on1 (unT (9 * d + g)))))) (spT (3 * (stT (9 * d + g)) + (tw2 (unT (9 * d + g)))))) (spT (3 * (stT (9 * d + g)) + (unT (9 * d + g)))) (((rdS (rdS σ (spT (3 * (stT (9 * d + g)) + (on1 (unT (9 * d + g)))))) (spT (3 * (stT (9 * d + g)) + (tw2 (unT (9 * d + g)))))) (spT (3 * (stT (9 * d + g)) + (on1 (unT (9 * d + g)))))) ^^^ ((rdS (rdS σ (spT (3 * (stT (9 * d + g)) + (on1 (unT (9 * d + g)))))) (spT (3 * (stT (9 * d + g)) + (tw2 (unT (9 * d + g)))))) (spT (3 * (stT (9 * d + g)) + (tw2 (unT (9 * d + g)))))))) (63 + d)) + 1) = mendS σ d from by
        simp only [mendS, mendA, mkS, h_1, nI_clamp (show g < 2 ^ 31 by omega)]
        rw [sp_stun (show 9 * d + g < 63 by omega)] at *
        simp only [c_29, if_true, if_false, Bool.false_eq_true]
        exact mo_1 (by omega)] at hw
    exact q_vretW hx hb hr hlocks hw dX7_mendOne_106
