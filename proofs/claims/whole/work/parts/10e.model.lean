set_option maxHeartbeats 1000000 in
set_option maxRecDepth 100000 in
theorem c_X7_isUnit {l : Launch} (D : va_G) (cy : ClassId) (b : Nat → Nat) (σ saved : Nat → Int32) (many : Nat) (bef T : Nat → Int32) (len thr at_ : Nat) (le f1 f2 : Int32) (dn : Nat) (hs : Int64) (Z : va_W) (k : Nat) (h_0 : k < 63) : Met l yX7_isUnit wsX7_isUnit (k2_rm 0 0) (gR D cy [.ref (b 0), .int (nI (k))] (wM cy b (mS σ) saved many bef T len thr at_ le f1 f2 dn hs ++ Z)) (k2_QcV (.int (bI (th σ k)))) 0 0 (fun _ => False) := by
  refine q_pure (cc := cX7_isUnit) (maxL := 3) (ret := (some .boolean)) pl_X7 rfl (Nat.le_of_ble_eq_true rfl) ?_
  intro p e s m below meth c ls hx hb hr hml hts hown hlocks hP hK hl
  have hl : lv_has ls 3 [(0, .ref (b 0)), (1, .int (nI (k)))] := hl
  refine lv_aload_n hx hb dX7_isUnit_0 rfl (lv_at hl 0 rfl) ?_
  refine va_get (D := D) (ci := 7) (v := .ref (b 1)) (C := RX7) (T := TX7) (N := 13) hx hb hts (fun _ h => List.mem_cons_of_mem _ (List.mem_append_right _ h)) hown hK hP 0 rfl rfl 0 (by decide) (hts (.fieldLink RX7 7 "SpreadParityModel" "s" "[I") (List.mem_of_getElem? (i := 1) rfl)) (fun _ h9 => h9) rfl dX7_isUnit_1 ?_
  refine lv_iconst (v := nI 0) hx hb dX7_isUnit_4 rfl ?_
  refine lv_iload_n hx hb dX7_isUnit_5 rfl (lv_at hl 1 rfl) ?_
  refine lv_bipush (v := nI 9) hx hb dX7_isUnit_6 rfl ?_
  refine q_divN hx hb dX7_isUnit_8 (by omega) (by omega) (by omega) ?_
  refine q_addN hx hb dX7_isUnit_9 ?_
  refine q_iald hx hb hK hP 1 rfl (by omega) (by omega) dX7_isUnit_10 ?_
  refine q_top (show ((mS σ) (0 + (k / 9))) = σ (63 + (k / 9)) from mS_p _ (by omega)) ?_
  refine lv_istore_n (lv' := [(2, .int (σ (63 + (k / 9)))), (0, .ref (b 0)), (1, .int (nI (k)))]) hx hb dX7_isUnit_11 rfl hl (by decide) rfl (fun ls hl => ?_)
  refine lv_iload_n hx hb dX7_isUnit_12 rfl (lv_at hl 0 rfl) ?_
  refine lv_bipush (v := nI 9) hx hb dX7_isUnit_13 rfl ?_
  refine lv_icmp_eq (tgt := 26) hx hb dX7_isUnit_15 (by decide) (fun (c_15 : (σ (63 + (k / 9))) = (9)) => ?_) (fun (c_15 : ¬ (σ (63 + (k / 9))) = (9)) => ?_)
  · refine lv_iconst (v := nI 1) hx hb dX7_isUnit_26 rfl ?_
    refine lv_goto (tgt := 31) hx hb dX7_isUnit_27 (by decide) ?_
    exact q_zret hx hb hr hlocks dX7_isUnit_31 (by rw [th_s c_15]; rfl)
  · refine lv_iload_n hx hb dX7_isUnit_18 rfl (lv_at hl 0 rfl) ?_
    refine lv_iload_n hx hb dX7_isUnit_19 rfl (lv_at hl 2 rfl) ?_
    refine lv_bipush (v := nI 9) hx hb dX7_isUnit_20 rfl ?_
    refine q_remN hx hb dX7_isUnit_22 (by omega) (by omega) (by omega) ?_
    refine lv_icmp_le (tgt := 30) hx hb dX7_isUnit_23 (by decide) (fun (c_23 : (σ (63 + (k / 9))) ≤ (nI (k % 9))) => ?_) (fun (c_23 : ¬ (σ (63 + (k / 9))) ≤ (nI (k % 9))) => ?_)
    · refine lv_iconst (v := nI 0) hx hb dX7_isUnit_30 rfl ?_
      exact q_zret hx hb hr hlocks dX7_isUnit_31 (by rw [show th σ k = false by simp [th, Int32.not_lt.mpr c_23]]; rfl)
    · refine lv_iconst (v := nI 1) hx hb dX7_isUnit_26 rfl ?_
      refine lv_goto (tgt := 31) hx hb dX7_isUnit_27 (by decide) ?_
      exact q_zret hx hb hr hlocks dX7_isUnit_31 (by rw [show th σ k = true by simp [th, Int32.not_le.mp c_23]]; rfl)
set_option maxHeartbeats 1000000 in
set_option maxRecDepth 100000 in
theorem c_X7_isThere {l : Launch} (D : va_G) (cy : ClassId) (b : Nat → Nat) (σ saved : Nat → Int32) (many : Nat) (bef T : Nat → Int32) (len thr at_ : Nat) (le f1 f2 : Int32) (dn : Nat) (hs : Int64) (Z : va_W) (sn : Nat) (u : Nat) (h_0 : sn < 21) (h_1 : u < 3) : Met l yX7_isThere wsX7_isThere (k2_rm 3 68) (gR D cy [.ref (b 0), .int (nI (sn)), .int (nI (u))] (wM cy b (mS σ) saved many bef T len thr at_ le f1 f2 dn hs ++ Z)) (k2_QcV (.int (bI (th σ (spT (3 * sn + u)))))) 0 0 (fun _ => False) := by
  refine q_pure (cc := cX7_isThere) (maxL := 3) (ret := (some .boolean)) pl_X7 rfl (Nat.le_of_ble_eq_true rfl) ?_
  intro p e s m below meth c ls hx hb hr hml hts hown hlocks hP hK hl
  have hl : lv_has ls 3 [(0, .ref (b 0)), (1, .int (nI (sn))), (2, .int (nI (u)))] := hl
  refine lv_aload_n hx hb dX7_isThere_0 rfl (lv_at hl 0 rfl) ?_
  refine lv_iload_n hx hb dX7_isThere_1 rfl (lv_at hl 1 rfl) ?_
  refine lv_iload_n hx hb dX7_isThere_2 rfl (lv_at hl 2 rfl) ?_
  refine q_cS (As := [.int (nI (sn)), .int (nI (u))]) (rest := [.ref (b 0)]) (w := []) ⟨hx, hb, hml, hown, hts⟩ (c_X7_where D cy (sn) (u) (by omega) (by omega)) (va_cwS 2 hts gX7_isThere_X7_where rfl rfl rfl hd_X7_where ⟨Nat.le_of_ble_eq_true rfl, Nat.le_of_ble_eq_true rfl⟩) hK q_Pnil rfl hl.1 rfl (Nat.le_of_ble_eq_true rfl) ⟨Nat.zero_le _, Nat.zero_le _⟩ dX7_isThere_3 ?_
  refine q_cV (As := [.int (nI (spT (3 * sn + u)))]) (rest := []) ⟨hx, hb, hml, hown, hts⟩ (c_X7_isUnit D cy b σ saved many bef T len thr at_ le f1 f2 dn hs Z (spT (3 * sn + u)) (sp_lt (by omega) (by omega))) (cwV 1 hts gX7_isThere_X7_isUnit rfl rfl rfl hd_X7_isUnit ⟨Nat.le_of_ble_eq_true rfl, Nat.le_of_ble_eq_true rfl⟩) hK hP 0 rfl rfl rfl hl.1 rfl (Nat.le_of_ble_eq_true rfl) ⟨Nat.zero_le _, Nat.zero_le _⟩ dX7_isThere_6 ?_
  exact q_zret hx hb hr hlocks dX7_isThere_9 (rfl)
set_option maxHeartbeats 1000000 in
set_option maxRecDepth 100000 in
theorem c_X7_valueOf {l : Launch} (D : va_G) (cy : ClassId) (b : Nat → Nat) (σ saved : Nat → Int32) (many : Nat) (bef T : Nat → Int32) (len thr at_ : Nat) (le f1 f2 : Int32) (dn : Nat) (hs : Int64) (Z : va_W) (sn : Nat) (u : Nat) (h_0 : sn < 21) (h_1 : u < 3) : Met l yX7_valueOf wsX7_valueOf (k2_rm 3 68) (gR D cy [.ref (b 0), .int (nI (sn)), .int (nI (u))] (wM cy b (mS σ) saved many bef T len thr at_ le f1 f2 dn hs ++ Z)) (k2_QcV (.int (σ (spT (3 * sn + u))))) 0 0 (fun _ => False) := by
  refine q_pure (cc := cX7_valueOf) (maxL := 3) (ret := (some .int)) pl_X7 rfl (Nat.le_of_ble_eq_true rfl) ?_
  intro p e s m below meth c ls hx hb hr hml hts hown hlocks hP hK hl
  have hl : lv_has ls 3 [(0, .ref (b 0)), (1, .int (nI (sn))), (2, .int (nI (u)))] := hl
  refine lv_aload_n hx hb dX7_valueOf_0 rfl (lv_at hl 0 rfl) ?_
  refine va_get (D := D) (ci := 7) (v := .ref (b 1)) (C := RX7) (T := TX7) (N := 13) hx hb hts (fun _ h => List.mem_cons_of_mem _ (List.mem_append_right _ h)) hown hK hP 0 rfl rfl 0 (by decide) (hts (.fieldLink RX7 7 "SpreadParityModel" "s" "[I") (List.mem_of_getElem? (i := 1) rfl)) (fun _ h9 => h9) rfl dX7_valueOf_1 ?_
  refine lv_bipush (v := nI 7) hx hb dX7_valueOf_4 rfl ?_
  refine lv_iload_n hx hb dX7_valueOf_6 rfl (lv_at hl 1 rfl) ?_
  refine lv_iload_n hx hb dX7_valueOf_7 rfl (lv_at hl 2 rfl) ?_
  refine q_cS (As := [.int (nI (sn)), .int (nI (u))]) (rest := [.int (nI (7)), .ref (b 1)]) (w := []) ⟨hx, hb, hml, hown, hts⟩ (c_X7_where D cy (sn) (u) (by omega) (by omega)) (va_cwS 2 hts gX7_valueOf_X7_where rfl rfl rfl hd_X7_where ⟨Nat.le_of_ble_eq_true rfl, Nat.le_of_ble_eq_true rfl⟩) hK q_Pnil rfl hl.1 rfl (Nat.le_of_ble_eq_true rfl) ⟨Nat.zero_le _, Nat.zero_le _⟩ dX7_valueOf_8 ?_
  refine q_addN hx hb dX7_valueOf_11 ?_
  refine q_iald hx hb hK hP 1 rfl (by have := @sp_lt sn u (by omega) (by omega); omega) (by omega) dX7_valueOf_12 ?_
  refine q_top (show ((mS σ) (7 + (spT (3 * sn + u)))) = σ (spT (3 * sn + u)) from mS_u _ (sp_lt (by omega) (by omega))) ?_
  exact q_iret hx hb hr hlocks dX7_valueOf_13 (rfl)
set_option maxHeartbeats 1000000 in
set_option maxRecDepth 100000 in
theorem c_X7_one {l : Launch} (D : va_G) (cy : ClassId)  (u : Nat) (h_0 : u < 3) : Met l yX7_one wsX7_one (k2_rm 0 0) (gR D cy [.int (nI (u))] []) (k2_QcV (.int (nI (on1 u)))) 0 0 (fun _ => False) := by
  refine q_pure (cc := cX7_one) (maxL := 1) (ret := (some .int)) pl_X7 rfl (Nat.le_of_ble_eq_true rfl) ?_
  intro p e s m below meth c ls hx hb hr hml hts hown hlocks hP hK hl
  have hl : lv_has ls 1 [(0, .int (nI (u)))] := hl
  refine lv_iload_n hx hb dX7_one_0 rfl (lv_at hl 0 rfl) ?_
  refine q_ifneN (tgt := 8) hx hb dX7_one_1 (by decide) (by omega) (fun c_1 => ?_) (fun c_1 => ?_)
  · refine lv_iconst (v := nI 0) hx hb dX7_one_8 rfl ?_
    exact q_iret hx hb hr hlocks dX7_one_9 (by rw [on1, if_neg (by omega)])
  · refine lv_iconst (v := nI 1) hx hb dX7_one_4 rfl ?_
    refine lv_goto (tgt := 9) hx hb dX7_one_5 (by decide) ?_
    exact q_iret hx hb hr hlocks dX7_one_9 (by rw [on1, if_pos c_1])
set_option maxHeartbeats 1000000 in
set_option maxRecDepth 100000 in
theorem c_X7_two {l : Launch} (D : va_G) (cy : ClassId)  (u : Nat) (h_0 : u < 3) : Met l yX7_two wsX7_two (k2_rm 0 0) (gR D cy [.int (nI (u))] []) (k2_QcV (.int (nI (tw2 u)))) 0 0 (fun _ => False) := by
  refine q_pure (cc := cX7_two) (maxL := 1) (ret := (some .int)) pl_X7 rfl (Nat.le_of_ble_eq_true rfl) ?_
  intro p e s m below meth c ls hx hb hr hml hts hown hlocks hP hK hl
  have hl : lv_has ls 1 [(0, .int (nI (u)))] := hl
  refine lv_iload_n hx hb dX7_two_0 rfl (lv_at hl 0 rfl) ?_
  refine lv_iconst (v := nI 2) hx hb dX7_two_1 rfl ?_
  refine q_neN (tgt := 9) hx hb dX7_two_2 (by decide) (by omega) (by omega) (fun c_2 => ?_) (fun c_2 => ?_)
  · refine lv_iconst (v := nI 2) hx hb dX7_two_9 rfl ?_
    exact q_iret hx hb hr hlocks dX7_two_10 (by rw [tw2, if_neg c_2])
  · refine lv_iconst (v := nI 1) hx hb dX7_two_5 rfl ?_
    refine lv_goto (tgt := 10) hx hb dX7_two_6 (by decide) ?_
    exact q_iret hx hb hr hlocks dX7_two_10 (by rw [tw2, if_pos c_2])
set_option maxHeartbeats 1000000 in
set_option maxRecDepth 100000 in
theorem c_X7_canFind {l : Launch} (D : va_G) (cy : ClassId) (b : Nat → Nat) (σ saved : Nat → Int32) (many : Nat) (bef T : Nat → Int32) (len thr at_ : Nat) (le f1 f2 : Int32) (dn : Nat) (hs : Int64) (Z : va_W) (sn : Nat) (u : Nat) (h_0 : sn < 21) (h_1 : u < 3) : Met l yX7_canFind wsX7_canFind (k2_rm 4 90) (gR D cy [.ref (b 0), .int (nI (sn)), .int (nI (u))] (wM cy b (mS σ) saved many bef T len thr at_ le f1 f2 dn hs ++ Z)) (k2_QcV (.int (bI (cf σ (spT (3 * sn + u)))))) 0 0 (fun _ => False) := by
  refine q_pure (cc := cX7_canFind) (maxL := 3) (ret := (some .boolean)) pl_X7 rfl (Nat.le_of_ble_eq_true rfl) ?_
  intro p e s m below meth c ls hx hb hr hml hts hown hlocks hP hK hl
  have hl : lv_has ls 3 [(0, .ref (b 0)), (1, .int (nI (sn))), (2, .int (nI (u)))] := hl
  refine lv_aload_n hx hb dX7_canFind_0 rfl (lv_at hl 0 rfl) ?_
  refine lv_iload_n hx hb dX7_canFind_1 rfl (lv_at hl 1 rfl) ?_
  refine lv_iload_n hx hb dX7_canFind_2 rfl (lv_at hl 2 rfl) ?_
  refine q_cS (As := [.int (nI (u))]) (rest := [.int (nI (sn)), .ref (b 0)]) (w := []) ⟨hx, hb, hml, hown, hts⟩ (c_X7_one D cy (u) (by omega)) (va_cwS 1 hts gX7_canFind_X7_one rfl rfl rfl hd_X7_one ⟨Nat.le_of_ble_eq_true rfl, Nat.le_of_ble_eq_true rfl⟩) hK q_Pnil rfl hl.1 rfl (Nat.le_of_ble_eq_true rfl) ⟨Nat.zero_le _, Nat.zero_le _⟩ dX7_canFind_3 ?_
  refine q_cV (As := [.int (nI (sn)), .int (nI (on1 u))]) (rest := []) ⟨hx, hb, hml, hown, hts⟩ (c_X7_isThere D cy b σ saved many bef T len thr at_ le f1 f2 dn hs Z (sn) (on1 u) (by omega) (on1_lt u)) (cwV 2 hts gX7_canFind_X7_isThere rfl rfl rfl hd_X7_isThere ⟨Nat.le_of_ble_eq_true rfl, Nat.le_of_ble_eq_true rfl⟩) hK hP 0 rfl rfl rfl hl.1 rfl (Nat.le_of_ble_eq_true rfl) ⟨Nat.zero_le _, Nat.zero_le _⟩ dX7_canFind_6 ?_
  refine q_ifeqB (tgt := 28) hx hb dX7_canFind_9 (by decide) (fun c_9 => ?_) (fun c_9 => ?_)
  · refine lv_iconst (v := nI 0) hx hb dX7_canFind_28 rfl ?_
    exact q_zret hx hb hr hlocks dX7_canFind_29 (by rw [cf_12 h_0 h_1]; simp [c_9, bI, nI_0, nI1])
  · refine lv_aload_n hx hb dX7_canFind_12 rfl (lv_at hl 0 rfl) ?_
    refine lv_iload_n hx hb dX7_canFind_13 rfl (lv_at hl 1 rfl) ?_
    refine lv_iload_n hx hb dX7_canFind_14 rfl (lv_at hl 2 rfl) ?_
    refine q_cS (As := [.int (nI (u))]) (rest := [.int (nI (sn)), .ref (b 0)]) (w := []) ⟨hx, hb, hml, hown, hts⟩ (c_X7_two D cy (u) (by omega)) (va_cwS 1 hts gX7_canFind_X7_two rfl rfl rfl hd_X7_two ⟨Nat.le_of_ble_eq_true rfl, Nat.le_of_ble_eq_true rfl⟩) hK q_Pnil rfl hl.1 rfl (Nat.le_of_ble_eq_true rfl) ⟨Nat.zero_le _, Nat.zero_le _⟩ dX7_canFind_15 ?_
    refine q_cV (As := [.int (nI (sn)), .int (nI (tw2 u))]) (rest := []) ⟨hx, hb, hml, hown, hts⟩ (c_X7_isThere D cy b σ saved many bef T len thr at_ le f1 f2 dn hs Z (sn) (tw2 u) (by omega) (tw2_lt u)) (cwV 2 hts gX7_canFind_X7_isThere rfl rfl rfl hd_X7_isThere ⟨Nat.le_of_ble_eq_true rfl, Nat.le_of_ble_eq_true rfl⟩) hK hP 0 rfl rfl rfl hl.1 rfl (Nat.le_of_ble_eq_true rfl) ⟨Nat.zero_le _, Nat.zero_le _⟩ dX7_canFind_18 ?_
    refine q_ifeqB (tgt := 28) hx hb dX7_canFind_21 (by decide) (fun c_21 => ?_) (fun c_21 => ?_)
    · refine lv_iconst (v := nI 0) hx hb dX7_canFind_28 rfl ?_
      exact q_zret hx hb hr hlocks dX7_canFind_29 (by rw [cf_12 h_0 h_1]; simp [c_9, c_21, bI, nI_0, nI1])
    · refine lv_iconst (v := nI 1) hx hb dX7_canFind_24 rfl ?_
      refine lv_goto (tgt := 29) hx hb dX7_canFind_25 (by decide) ?_
      exact q_zret hx hb hr hlocks dX7_canFind_29 (by rw [cf_12 h_0 h_1]; simp [c_9, c_21, bI, nI_0, nI1])
set_option maxHeartbeats 1000000 in
set_option maxRecDepth 100000 in
theorem c_X7_look {l : Launch} (D : va_G) (cy : ClassId) (b : Nat → Nat) (σ saved : Nat → Int32) (many : Nat) (bef T : Nat → Int32) (len thr at_ : Nat) (le f1 f2 : Int32) (dn : Nat) (hs : Int64) (Z : va_W) (sn : Nat) (u : Nat) (h_0 : sn < 21) (h_1 : u < 3) : Met l yX7_look wsX7_look (k2_rm 5 112) (gR D cy [.ref (b 0), .int (nI (sn)), .int (nI (u))] (wM cy b (mS σ) saved many bef T len thr at_ le f1 f2 dn hs ++ Z)) (k2_QcV (.int (kn σ (spT (3 * sn + u))))) 0 0 (fun _ => False) := by
  refine q_pure (cc := cX7_look) (maxL := 3) (ret := (some .int)) pl_X7 rfl (Nat.le_of_ble_eq_true rfl) ?_
  intro p e s m below meth c ls hx hb hr hml hts hown hlocks hP hK hl
  have hl : lv_has ls 3 [(0, .ref (b 0)), (1, .int (nI (sn))), (2, .int (nI (u)))] := hl
  refine lv_aload_n hx hb dX7_look_0 rfl (lv_at hl 0 rfl) ?_
  refine lv_iload_n hx hb dX7_look_1 rfl (lv_at hl 1 rfl) ?_
  refine lv_iload_n hx hb dX7_look_2 rfl (lv_at hl 2 rfl) ?_
  refine q_cV (As := [.int (nI (sn)), .int (nI (u))]) (rest := []) ⟨hx, hb, hml, hown, hts⟩ (c_X7_isThere D cy b σ saved many bef T len thr at_ le f1 f2 dn hs Z (sn) (u) (by omega) (by omega)) (cwV 2 hts gX7_look_X7_isThere rfl rfl rfl hd_X7_isThere ⟨Nat.le_of_ble_eq_true rfl, Nat.le_of_ble_eq_true rfl⟩) hK hP 0 rfl rfl rfl hl.1 rfl (Nat.le_of_ble_eq_true rfl) ⟨Nat.zero_le _, Nat.zero_le _⟩ dX7_look_3 ?_
  refine q_ifeqB (tgt := 16) hx hb dX7_look_6 (by decide) (fun c_6 => ?_) (fun c_6 => ?_)
  · refine lv_aload_n hx hb dX7_look_16 rfl (lv_at hl 0 rfl) ?_
    refine lv_iload_n hx hb dX7_look_17 rfl (lv_at hl 1 rfl) ?_
    refine lv_iload_n hx hb dX7_look_18 rfl (lv_at hl 2 rfl) ?_
    refine q_cV (As := [.int (nI (sn)), .int (nI (u))]) (rest := []) ⟨hx, hb, hml, hown, hts⟩ (c_X7_canFind D cy b σ saved many bef T len thr at_ le f1 f2 dn hs Z (sn) (u) (by omega) (by omega)) (cwV 2 hts gX7_look_X7_canFind rfl rfl rfl hd_X7_canFind ⟨Nat.le_of_ble_eq_true rfl, Nat.le_of_ble_eq_true rfl⟩) hK hP 0 rfl rfl rfl hl.1 rfl (Nat.le_of_ble_eq_true rfl) ⟨Nat.zero_le _, Nat.zero_le _⟩ dX7_look_19 ?_
    refine q_ifeqB (tgt := 47) hx hb dX7_look_22 (by decide) (fun c_22 => ?_) (fun c_22 => ?_)
    · refine lv_iconst (v := -1) hx hb dX7_look_47 rfl ?_
      exact q_iret hx hb hr hlocks dX7_look_48 (by simp [kn, lo, c_6, c_22])
    · refine lv_aload_n hx hb dX7_look_25 rfl (lv_at hl 0 rfl) ?_
      refine lv_iload_n hx hb dX7_look_26 rfl (lv_at hl 1 rfl) ?_
      refine lv_iload_n hx hb dX7_look_27 rfl (lv_at hl 2 rfl) ?_
      refine q_cS (As := [.int (nI (u))]) (rest := [.int (nI (sn)), .ref (b 0)]) (w := []) ⟨hx, hb, hml, hown, hts⟩ (c_X7_one D cy (u) (by omega)) (va_cwS 1 hts gX7_look_X7_one rfl rfl rfl hd_X7_one ⟨Nat.le_of_ble_eq_true rfl, Nat.le_of_ble_eq_true rfl⟩) hK q_Pnil rfl hl.1 rfl (Nat.le_of_ble_eq_true rfl) ⟨Nat.zero_le _, Nat.zero_le _⟩ dX7_look_28 ?_
      refine q_cV (As := [.int (nI (sn)), .int (nI (on1 u))]) (rest := []) ⟨hx, hb, hml, hown, hts⟩ (c_X7_valueOf D cy b σ saved many bef T len thr at_ le f1 f2 dn hs Z (sn) (on1 u) (by omega) (on1_lt u)) (cwV 2 hts gX7_look_X7_valueOf rfl rfl rfl hd_X7_valueOf ⟨Nat.le_of_ble_eq_true rfl, Nat.le_of_ble_eq_true rfl⟩) hK hP 0 rfl rfl rfl hl.1 rfl (Nat.le_of_ble_eq_true rfl) ⟨Nat.zero_le _, Nat.zero_le _⟩ dX7_look_31 ?_
      refine lv_aload_n hx hb dX7_look_34 rfl (lv_at hl 0 rfl) ?_
      refine lv_iload_n hx hb dX7_look_35 rfl (lv_at hl 1 rfl) ?_
      refine lv_iload_n hx hb dX7_look_36 rfl (lv_at hl 2 rfl) ?_
      refine q_cS (As := [.int (nI (u))]) (rest := [.int (nI (sn)), .ref (b 0), .int (σ (spT (3 * sn + (on1 u))))]) (w := []) ⟨hx, hb, hml, hown, hts⟩ (c_X7_two D cy (u) (by omega)) (va_cwS 1 hts gX7_look_X7_two rfl rfl rfl hd_X7_two ⟨Nat.le_of_ble_eq_true rfl, Nat.le_of_ble_eq_true rfl⟩) hK q_Pnil rfl hl.1 rfl (Nat.le_of_ble_eq_true rfl) ⟨Nat.zero_le _, Nat.zero_le _⟩ dX7_look_37 ?_
      refine q_cV (As := [.int (nI (sn)), .int (nI (tw2 u))]) (rest := [.int (σ (spT (3 * sn + (on1 u))))]) ⟨hx, hb, hml, hown, hts⟩ (c_X7_valueOf D cy b σ saved many bef T len thr at_ le f1 f2 dn hs Z (sn) (tw2 u) (by omega) (tw2_lt u)) (cwV 2 hts gX7_look_X7_valueOf rfl rfl rfl hd_X7_valueOf ⟨Nat.le_of_ble_eq_true rfl, Nat.le_of_ble_eq_true rfl⟩) hK hP 0 rfl rfl rfl hl.1 rfl (Nat.le_of_ble_eq_true rfl) ⟨Nat.zero_le _, Nat.zero_le _⟩ dX7_look_40 ?_
      refine lv_ixor hx hb dX7_look_43 ?_
      refine lv_goto (tgt := 48) hx hb dX7_look_44 (by decide) ?_
      exact q_iret hx hb hr hlocks dX7_look_48 (by rw [← fd_12 _ h_0 h_1]; simp [kn, lo, c_6, c_22])
  · refine lv_aload_n hx hb dX7_look_9 rfl (lv_at hl 0 rfl) ?_
    refine lv_iload_n hx hb dX7_look_10 rfl (lv_at hl 1 rfl) ?_
    refine lv_iload_n hx hb dX7_look_11 rfl (lv_at hl 2 rfl) ?_
    refine q_cV (As := [.int (nI (sn)), .int (nI (u))]) (rest := []) ⟨hx, hb, hml, hown, hts⟩ (c_X7_valueOf D cy b σ saved many bef T len thr at_ le f1 f2 dn hs Z (sn) (u) (by omega) (by omega)) (cwV 2 hts gX7_look_X7_valueOf rfl rfl rfl hd_X7_valueOf ⟨Nat.le_of_ble_eq_true rfl, Nat.le_of_ble_eq_true rfl⟩) hK hP 0 rfl rfl rfl hl.1 rfl (Nat.le_of_ble_eq_true rfl) ⟨Nat.zero_le _, Nat.zero_le _⟩ dX7_look_12 ?_
    exact q_iret hx hb hr hlocks dX7_look_15 (by simp [kn, lo, c_6])
set_option maxHeartbeats 1000000 in
set_option maxRecDepth 100000 in
theorem c_X7_countRead {l : Launch} (D : va_G) (cy : ClassId) (A : Nat → Prop) (b : Nat → Nat) (σ saved : Nat → Int32) (many : Nat) (bef T : Nat → Int32) (len thr at_ : Nat) (le f1 f2 : Int32) (dn : Nat) (hs : Int64) (Z : va_W) (sn : Nat) (u : Nat) (h_0 : sn < 21) (h_1 : u < 3) : Met l yX7_countRead wsX7_countRead (k2_rm 3 68) (gP D cy [.ref (b 0), .int (nI (sn)), .int (nI (u))] A (wM cy b (mS σ) saved many bef T len thr at_ le f1 f2 dn hs ++ Z)) (gQ D A (none) (wM cy b (mS (rdS σ (spT (3 * sn + u)))) saved many bef T len thr at_ le f1 f2 dn hs ++ Z)) 0 0 A := by
  refine q_imp (cc := cX7_countRead) (maxL := 3) (ret := none) pl_X7 rfl (Nat.le_of_ble_eq_true rfl) ?_
  intro p e s m below meth c ls hx hb hr hml hts hown hlocks hw hK hA hl
  have hP := hw.1
  have hl : lv_has ls 3 [(0, .ref (b 0)), (1, .int (nI (sn))), (2, .int (nI (u)))] := hl
  refine lv_aload_n hx hb dX7_countRead_0 rfl (lv_at hl 0 rfl) ?_
  refine va_get (D := D) (ci := 7) (v := .ref (b 1)) (C := RX7) (T := TX7) (N := 13) hx hb hts (fun _ h => List.mem_cons_of_mem _ (List.mem_append_right _ h)) hown hK hP 0 rfl rfl 0 (by decide) (hts (.fieldLink RX7 7 "SpreadParityModel" "s" "[I") (List.mem_of_getElem? (i := 1) rfl)) (fun _ h9 => h9) rfl dX7_countRead_1 ?_
  refine lv_bipush (v := nI 70) hx hb dX7_countRead_4 rfl ?_
  refine lv_iload_n hx hb dX7_countRead_6 rfl (lv_at hl 1 rfl) ?_
  refine lv_iload_n hx hb dX7_countRead_7 rfl (lv_at hl 2 rfl) ?_
  refine q_cS (As := [.int (nI (sn)), .int (nI (u))]) (rest := [.int (nI (70)), .ref (b 1)]) (w := []) ⟨hx, hb, hml, hown, hts⟩ (c_X7_where D cy (sn) (u) (by omega) (by omega)) (va_cwS 2 hts gX7_countRead_X7_where rfl rfl rfl hd_X7_where ⟨Nat.le_of_ble_eq_true rfl, Nat.le_of_ble_eq_true rfl⟩) hK q_Pnil rfl hl.1 rfl (Nat.le_of_ble_eq_true rfl) ⟨Nat.zero_le _, Nat.zero_le _⟩ dX7_countRead_8 ?_
  refine lv_bipush (v := nI 9) hx hb dX7_countRead_11 rfl ?_
  refine q_divN hx hb dX7_countRead_13 (by omega) (by have := @sp_lt sn u (by omega) (by omega); omega) (by omega) ?_
  refine q_addN hx hb dX7_countRead_14 ?_
  refine lv_dup2_11 hx hb dX7_countRead_15 rfl rfl ?_
  refine q_iald hx hb hK hP 1 rfl (by have := @sp_lt sn u (by omega) (by omega); omega) (by omega) dX7_countRead_16 ?_
  refine q_top (show ((mS σ) (70 + ((spT (3 * sn + u)) / 9))) = σ (70 + ((spT (3 * sn + u)) / 9)) from mS_c _ (by omega)) ?_
  refine lv_iconst (v := nI 1) hx hb dX7_countRead_17 rfl ?_
  refine lv_iadd hx hb dX7_countRead_18 ?_
  refine q_iast hx hb hK hw 1 rfl (by have := @sp_lt sn u (by omega) (by omega); omega) (by omega) dX7_countRead_19 (fun H locs hw => ?_)
  have hw : wS D A (wM cy b (upd (mS σ) (70 + ((spT (3 * sn + u)) / 9)) ((σ (70 + ((spT (3 * sn + u)) / 9))) + 1)) saved many bef T len thr at_ le f1 f2 dn hs ++ Z) s H locs := hw
  have hP := hw.1
  have e_m19 : upd (mS σ) (70 + ((spT (3 * sn + u)) / 9)) ((σ (70 + ((spT (3 * sn + u)) / 9))) + 1) = mS (upd σ (70 + ((spT (3 * sn + u)) / 9)) ((σ (70 + ((spT (3 * sn + u)) / 9))) + 1)) := mS_wc _ _ (by omega)
  rw [e_m19] at hw
  have hP := hw.1
  exact q_vretW hx hb hr hlocks hw dX7_countRead_20
set_option maxHeartbeats 1000000 in
set_option maxRecDepth 100000 in
theorem c_X7_lay {l : Launch} (D : va_G) (cy : ClassId) (A : Nat → Prop) (b : Nat → Nat) (σ saved : Nat → Int32) (many : Nat) (bef T : Nat → Int32) (len thr at_ : Nat) (le f1 f2 : Int32) (dn : Nat) (hs : Int64) (Z : va_W) (sn : Nat) (u : Nat) (v : Int32) (h_0 : sn < 21) (h_1 : u < 3) : Met l yX7_lay wsX7_lay (k2_rm 3 68) (gP D cy [.ref (b 0), .int (nI (sn)), .int (nI (u)), .int (v)] A (wM cy b (mS σ) saved many bef T len thr at_ le f1 f2 dn hs ++ Z)) (gQ D A (none) (wM cy b (mS (wrS σ (spT (3 * sn + u)) v)) saved many bef T len thr at_ le f1 f2 dn hs ++ Z)) 0 0 A := by
  refine q_imp (cc := cX7_lay) (maxL := 4) (ret := none) pl_X7 rfl (Nat.le_of_ble_eq_true rfl) ?_
  intro p e s m below meth c ls hx hb hr hml hts hown hlocks hw hK hA hl
  have hP := hw.1
  have hl : lv_has ls 4 [(0, .ref (b 0)), (1, .int (nI (sn))), (2, .int (nI (u))), (3, .int (v))] := hl
  refine lv_aload_n hx hb dX7_lay_0 rfl (lv_at hl 0 rfl) ?_
  refine va_get (D := D) (ci := 7) (v := .ref (b 1)) (C := RX7) (T := TX7) (N := 13) hx hb hts (fun _ h => List.mem_cons_of_mem _ (List.mem_append_right _ h)) hown hK hP 0 rfl rfl 0 (by decide) (hts (.fieldLink RX7 7 "SpreadParityModel" "s" "[I") (List.mem_of_getElem? (i := 1) rfl)) (fun _ h9 => h9) rfl dX7_lay_1 ?_
  refine lv_bipush (v := nI 7) hx hb dX7_lay_4 rfl ?_
  refine lv_iload_n hx hb dX7_lay_6 rfl (lv_at hl 1 rfl) ?_
  refine lv_iload_n hx hb dX7_lay_7 rfl (lv_at hl 2 rfl) ?_
  refine q_cS (As := [.int (nI (sn)), .int (nI (u))]) (rest := [.int (nI (7)), .ref (b 1)]) (w := []) ⟨hx, hb, hml, hown, hts⟩ (c_X7_where D cy (sn) (u) (by omega) (by omega)) (va_cwS 2 hts gX7_lay_X7_where rfl rfl rfl hd_X7_where ⟨Nat.le_of_ble_eq_true rfl, Nat.le_of_ble_eq_true rfl⟩) hK q_Pnil rfl hl.1 rfl (Nat.le_of_ble_eq_true rfl) ⟨Nat.zero_le _, Nat.zero_le _⟩ dX7_lay_8 ?_
  refine q_addN hx hb dX7_lay_11 ?_
  refine lv_iload_n hx hb dX7_lay_12 rfl (lv_at hl 3 rfl) ?_
  refine q_iast hx hb hK hw 1 rfl (by have := @sp_lt sn u (by omega) (by omega); omega) (by omega) dX7_lay_13 (fun H locs hw => ?_)
  have hw : wS D A (wM cy b (upd (mS σ) (7 + (spT (3 * sn + u))) (v)) saved many bef T len thr at_ le f1 f2 dn hs ++ Z) s H locs := hw
  have hP := hw.1
  have e_m13 : upd (mS σ) (7 + (spT (3 * sn + u))) (v) = mS (upd σ (spT (3 * sn + u)) (v)) := mS_wu _ _ (sp_lt (by omega) (by omega))
  rw [e_m13] at hw
  have hP := hw.1
  refine lv_aload_n hx hb dX7_lay_14 rfl (lv_at hl 0 rfl) ?_
  refine va_get (D := D) (ci := 7) (v := .ref (b 1)) (C := RX7) (T := TX7) (N := 13) hx hb hts (fun _ h => List.mem_cons_of_mem _ (List.mem_append_right _ h)) hown hK hP 0 rfl rfl 0 (by decide) (hts (.fieldLink RX7 7 "SpreadParityModel" "s" "[I") (List.mem_of_getElem? (i := 1) rfl)) (fun _ h9 => h9) rfl dX7_lay_15 ?_
  refine lv_bipush (v := nI 77) hx hb dX7_lay_18 rfl ?_
  refine lv_iload_n hx hb dX7_lay_20 rfl (lv_at hl 1 rfl) ?_
  refine lv_iload_n hx hb dX7_lay_21 rfl (lv_at hl 2 rfl) ?_
  refine q_cS (As := [.int (nI (sn)), .int (nI (u))]) (rest := [.int (nI (77)), .ref (b 1)]) (w := []) ⟨hx, hb, hml, hown, hts⟩ (c_X7_where D cy (sn) (u) (by omega) (by omega)) (va_cwS 2 hts gX7_lay_X7_where rfl rfl rfl hd_X7_where ⟨Nat.le_of_ble_eq_true rfl, Nat.le_of_ble_eq_true rfl⟩) hK q_Pnil rfl hl.1 rfl (Nat.le_of_ble_eq_true rfl) ⟨Nat.zero_le _, Nat.zero_le _⟩ dX7_lay_22 ?_
  refine lv_bipush (v := nI 9) hx hb dX7_lay_25 rfl ?_
  refine q_divN hx hb dX7_lay_27 (by omega) (by have := @sp_lt sn u (by omega) (by omega); omega) (by omega) ?_
  refine q_addN hx hb dX7_lay_28 ?_
  refine lv_dup2_11 hx hb dX7_lay_29 rfl rfl ?_
  refine q_iald hx hb hK hP 1 rfl (by have := @sp_lt sn u (by omega) (by omega); omega) (by omega) dX7_lay_30 ?_
  refine q_top (show ((mS (upd σ (spT (3 * sn + u)) (v))) (77 + ((spT (3 * sn + u)) / 9))) = (upd σ (spT (3 * sn + u)) (v)) (77 + ((spT (3 * sn + u)) / 9)) from mS_c _ (by omega)) ?_
  refine lv_iconst (v := nI 1) hx hb dX7_lay_31 rfl ?_
  refine lv_iadd hx hb dX7_lay_32 ?_
  refine q_iast hx hb hK hw 1 rfl (by have := @sp_lt sn u (by omega) (by omega); omega) (by omega) dX7_lay_33 (fun H locs hw => ?_)
  have hw : wS D A (wM cy b (upd (mS (upd σ (spT (3 * sn + u)) (v))) (77 + ((spT (3 * sn + u)) / 9)) (((upd σ (spT (3 * sn + u)) (v)) (77 + ((spT (3 * sn + u)) / 9))) + 1)) saved many bef T len thr at_ le f1 f2 dn hs ++ Z) s H locs := hw
  have hP := hw.1
  have e_m33 : upd (mS (upd σ (spT (3 * sn + u)) (v))) (77 + ((spT (3 * sn + u)) / 9)) (((upd σ (spT (3 * sn + u)) (v)) (77 + ((spT (3 * sn + u)) / 9))) + 1) = mS (upd (upd σ (spT (3 * sn + u)) (v)) (77 + ((spT (3 * sn + u)) / 9)) (((upd σ (spT (3 * sn + u)) (v)) (77 + ((spT (3 * sn + u)) / 9))) + 1)) := mS_wc _ _ (by omega)
  rw [e_m33] at hw
  have hP := hw.1
  rw [show upd (upd σ (spT (3 * sn + u)) (v)) (77 + ((spT (3 * sn + u)) / 9)) (((upd σ (spT (3 * sn + u)) (v)) (77 + ((spT (3 * sn + u)) / 9))) + 1) = wrS σ (spT (3 * sn + u)) v from lay_wr _ _ (sp_lt (by omega) (by omega))] at hw
  exact q_vretW hx hb hr hlocks hw dX7_lay_34
set_option maxHeartbeats 1000000 in
set_option maxRecDepth 100000 in
theorem c_X7_lostAddresses {l : Launch} (D : va_G) (cy : ClassId) (b : Nat → Nat) (σ saved : Nat → Int32) (many : Nat) (bef T : Nat → Int32) (len thr at_ : Nat) (le f1 f2 : Int32) (dn : Nat) (hs : Int64) (Z : va_W) (h_0 : Val σ) : Met l yX7_lostAddresses wsX7_lostAddresses (k2_rm 6 134) (gR D cy [.ref (b 0)] (wM cy b (mS σ) saved many bef T len thr at_ le f1 f2 dn hs ++ Z)) (k2_QcV (.int (nI (cl σ)))) 0 0 (fun _ => False) := by
  refine q_pure (cc := cX7_lostAddresses) (maxL := 3) (ret := (some .int)) pl_X7 rfl (Nat.le_of_ble_eq_true rfl) ?_
  intro p e s m below meth c ls hx hb hr hml hts hown hlocks hP hK hl
  have hl : lv_has ls 3 [(0, .ref (b 0))] := hl
  refine lv_iconst (v := nI 0) hx hb dX7_lostAddresses_0 rfl ?_
  refine lv_istore_n (lv' := [(1, .int (nI (0))), (0, .ref (b 0))]) hx hb dX7_lostAddresses_1 rfl hl (by decide) rfl (fun ls hl => ?_)
  refine lv_iconst (v := nI 0) hx hb dX7_lostAddresses_2 rfl ?_
  refine lv_istore_n (lv' := [(2, .int (nI (0))), (1, .int (nI (0))), (0, .ref (b 0))]) hx hb dX7_lostAddresses_3 rfl hl (by decide) rfl (fun ls hl => ?_)
  have lp4 : ∀ (j_ i : Nat), i + j_ = 42 → ∀ (ls : Array Slot), lv_has ls 3 [(0, .ref (b 0)), (1, .int (nI (cntB (fun q => lo σ (ad q)) i))), (2, .int (nI (i)))] → W p l e (k2_rm 6 134) s m ([.ref (b 0)] : List Value).toArray below meth c s.heap [] 0 0 (MQ below (k2_QcV (.int (nI (cl σ)))) ([.ref (b 0)] : List Value).toArray s 0 0 (fun _ => False)) (F0 m 4 ls []) := by
    intro j_
    induction j_ with
    | zero =>
      intro i hn_i ls hl
      refine lv_iload_n hx hb dX7_lostAddresses_4 rfl (lv_at hl 2 rfl) ?_
      refine lv_bipush (v := nI 42) hx hb dX7_lostAddresses_5 rfl ?_
      refine q_geN (tgt := 38) hx hb dX7_lostAddresses_7 (by decide) (by omega) (by omega) (fun c_7 => ?_) (fun c_7 => absurd c_7 (by omega))
      refine lv_iload_n hx hb dX7_lostAddresses_38 rfl (lv_at hl 1 rfl) ?_
      exact q_iret hx hb hr hlocks dX7_lostAddresses_39 (by have e9 : i = 42 := (by omega); subst e9; rfl)
    | succ j_ ih_i =>
      intro i hn_i ls hl
      refine lv_iload_n hx hb dX7_lostAddresses_4 rfl (lv_at hl 2 rfl) ?_
      refine lv_bipush (v := nI 42) hx hb dX7_lostAddresses_5 rfl ?_
      refine q_geN (tgt := 38) hx hb dX7_lostAddresses_7 (by decide) (by omega) (by omega) (fun c_7 => absurd c_7 (by omega)) (fun c_7 => ?_)
      refine lv_iload_n hx hb dX7_lostAddresses_10 rfl (lv_at hl 1 rfl) ?_
      refine lv_aload_n hx hb dX7_lostAddresses_11 rfl (lv_at hl 0 rfl) ?_
      refine lv_iload_n hx hb dX7_lostAddresses_12 rfl (lv_at hl 2 rfl) ?_
      refine lv_iconst (v := nI 2) hx hb dX7_lostAddresses_13 rfl ?_
      refine q_divN hx hb dX7_lostAddresses_14 (by omega) (by omega) (by omega) ?_
      refine lv_iload_n hx hb dX7_lostAddresses_15 rfl (lv_at hl 2 rfl) ?_
      refine lv_iconst (v := nI 2) hx hb dX7_lostAddresses_16 rfl ?_
      refine q_remN hx hb dX7_lostAddresses_17 (by omega) (by omega) (by omega) ?_
      refine q_cV (As := [.int (nI (i / 2)), .int (nI (i % 2))]) (rest := [.int (nI (cntB (fun q => lo σ (ad q)) i))]) ⟨hx, hb, hml, hown, hts⟩ (c_X7_look D cy b σ saved many bef T len thr at_ le f1 f2 dn hs Z (i / 2) (i % 2) (by omega) (by omega)) (cwV 2 hts gX7_lostAddresses_X7_look rfl rfl rfl hd_X7_look ⟨Nat.le_of_ble_eq_true rfl, Nat.le_of_ble_eq_true rfl⟩) hK hP 0 rfl rfl rfl hl.1 rfl (Nat.le_of_ble_eq_true rfl) ⟨Nat.zero_le _, Nat.zero_le _⟩ dX7_lostAddresses_18 ?_
      refine lv_iconst (v := -1) hx hb dX7_lostAddresses_21 rfl ?_
      refine lv_icmp_ne (tgt := 29) hx hb dX7_lostAddresses_22 (by decide) (fun (c_22 : ¬ (kn σ (spT (3 * (i / 2) + (i % 2)))) = (-1)) => ?_) (fun (c_22 : (kn σ (spT (3 * (i / 2) + (i % 2)))) = (-1)) => ?_)
      · refine lv_iconst (v := nI 0) hx hb dX7_lostAddresses_29 rfl ?_
        refine q_addN hx hb dX7_lostAddresses_30 ?_
        refine lv_istore_n (lv' := [(1, .int (nI ((cntB (fun q => lo σ (ad q)) i) + 0))), (0, .ref (b 0)), (2, .int (nI (i)))]) hx hb dX7_lostAddresses_31 rfl hl (by decide) rfl (fun ls hl => ?_)
        have e_l : lo σ (ad i) = false := kn_f h_0 (ad_lt (by omega)) c_22
        have e_c : nI ((cntB (fun q => lo σ (ad q)) i) + 0) = nI (cntB (fun q => lo σ (ad q)) (i + 1)) := congrArg nI (by show (cntB (fun q => lo σ (ad q)) i) + 0 = cntB (fun q => lo σ (ad q)) (i + 1); simp only [cntB, e_l, if_true, if_false, Bool.false_eq_true])
        rw [e_c] at hl
        refine lv_iinc (v := nI (i + 1)) (lv' := [(2, .int (nI (i + 1))), (1, .int (nI (cntB (fun q => lo σ (ad q)) (i + 1)))), (0, .ref (b 0))]) hx hb dX7_lostAddresses_32 hl (k := 2) rfl (show nI (i) + nI 1 = nI (i + 1) from nI_add _ _) (by decide) rfl (fun ls hl => ?_)
        refine lv_goto (tgt := 4) hx hb dX7_lostAddresses_35 (by decide) ?_
        exact ih_i (i + 1) (by omega) _ (lv_sub hl [2, 1, 0] rfl)
      · refine lv_iconst (v := nI 1) hx hb dX7_lostAddresses_25 rfl ?_
        refine lv_goto (tgt := 30) hx hb dX7_lostAddresses_26 (by decide) ?_
        refine q_addN hx hb dX7_lostAddresses_30 ?_
        refine lv_istore_n (lv' := [(1, .int (nI ((cntB (fun q => lo σ (ad q)) i) + 1))), (0, .ref (b 0)), (2, .int (nI (i)))]) hx hb dX7_lostAddresses_31 rfl hl (by decide) rfl (fun ls hl => ?_)
        have e_l : lo σ (ad i) = true := kn_t h_0 (ad_lt (by omega)) c_22
        have e_c : nI ((cntB (fun q => lo σ (ad q)) i) + 1) = nI (cntB (fun q => lo σ (ad q)) (i + 1)) := congrArg nI (by show (cntB (fun q => lo σ (ad q)) i) + 1 = cntB (fun q => lo σ (ad q)) (i + 1); simp only [cntB, e_l, if_true, if_false, Bool.false_eq_true])
        rw [e_c] at hl
        refine lv_iinc (v := nI (i + 1)) (lv' := [(2, .int (nI (i + 1))), (1, .int (nI (cntB (fun q => lo σ (ad q)) (i + 1)))), (0, .ref (b 0))]) hx hb dX7_lostAddresses_32 hl (k := 2) rfl (show nI (i) + nI 1 = nI (i + 1) from nI_add _ _) (by decide) rfl (fun ls hl => ?_)
        refine lv_goto (tgt := 4) hx hb dX7_lostAddresses_35 (by decide) ?_
        exact ih_i (i + 1) (by omega) _ (lv_sub hl [2, 1, 0] rfl)
  exact lp4 (42 - 0) 0 (by omega) _ (lv_sub hl [2, 1, 0] rfl)
