/-! The calls of the class within their ranges: none of them throws. -/
theorem inR_N {x n : Nat} (h : x < n) (hn : n < 2 ^ 31) : inR (nI x) n = true := by
  simp only [inR, Bool.and_eq_true, decide_eq_true_eq]
  rw [nI_toInt (by omega)]
  omega
set_option maxHeartbeats 1000000 in
set_option maxRecDepth 100000 in
theorem k_X6_state {l : Launch} (D : va_G) (cy : ClassId) (a : Nat → Nat) (σ kept : Nat → Int32) (nxt cnt : Nat) (T : Nat → Int32) (len pos : Nat) (ph le nu va : Int32) (Z : va_W) (d : Nat) (h_0 : d < 7) : Met l yX6_state wsX6_state (k2_rm 6 82) (gR D cy [.ref (a 0), .int (nI (d))] (wX cy a σ kept nxt cnt T len pos ph le nu va ++ Z)) (k2_QcV (.int (σ (63 + d)))) 0 0 (fun _ => False) := by
  refine q_pure (cc := cX6_state) (maxL := 2) (ret := (some .int)) pl_X6 rfl (Nat.le_of_ble_eq_true rfl) ?_
  intro p e s m below meth c ls hx hb hr hml hts hown hlocks hP hK hl
  have hl : lv_has ls 2 [(0, .ref (a 0)), (1, .int (nI (d)))] := hl
  refine lv_iload_n hx hb dX6_state_0 rfl (lv_at hl 1 rfl) ?_
  refine q_cS (As := [.int (nI (d))]) (rest := []) (w := []) ⟨hx, hb, hml, hown, hts⟩ (c_X6_isDisc D cy (nI (d))) (va_cwS 1 hts gX6_state_X6_isDisc rfl rfl rfl hd_X6_isDisc ⟨Nat.le_of_ble_eq_true rfl, Nat.le_of_ble_eq_true rfl⟩) hK q_Pnil rfl hl.1 rfl (Nat.le_of_ble_eq_true rfl) ⟨Nat.zero_le _, Nat.zero_le _⟩ dX6_state_1 ?_
  refine q_ifneB (tgt := 17) hx hb dX6_state_4 (by decide) (fun c_4 => ?_) (fun c_4 => absurd c_4 (by rw [inR_N (by omega) (by decide)]; decide))
  refine lv_aload_n hx hb dX6_state_17 rfl (lv_at hl 0 rfl) ?_
  refine va_get (D := D) (ci := 6) (v := .ref (a 8)) (C := RX6) (T := TX6) (N := 4) hx hb hts (fun _ h => List.mem_cons_of_mem _ (List.mem_append_left _ (List.mem_append_left _ (List.mem_append_left _ (List.mem_append_right _ h))))) hown hK hP 0 rfl rfl 1 (by decide) (hts (.fieldLink RX6 19 "SpreadParity" "now" "LSpreadParity$State;") (List.mem_of_getElem? (i := 3) rfl)) (fun _ h9 => h9) rfl dX6_state_18 ?_
  refine lv_iload_n hx hb dX6_state_21 rfl (lv_at hl 1 rfl) ?_
  refine q_cV (As := [.int (nI (d))]) (rest := []) ⟨hx, hb, hml, hown, hts⟩ (c_X5_progressOf D cy a σ kept nxt cnt T len pos ph le nu va Z (d) (by omega)) (cwV 1 hts gX6_state_X5_progressOf rfl rfl rfl hd_X5_progressOf ⟨Nat.le_of_ble_eq_true rfl, Nat.le_of_ble_eq_true rfl⟩) hK hP 8 rfl rfl rfl hl.1 rfl (Nat.le_of_ble_eq_true rfl) ⟨Nat.zero_le _, Nat.zero_le _⟩ dX6_state_22 ?_
  exact q_iret hx hb hr hlocks dX6_state_25 (rfl)
set_option maxHeartbeats 1000000 in
set_option maxRecDepth 100000 in
theorem k_X6_reads {l : Launch} (D : va_G) (cy : ClassId) (a : Nat → Nat) (σ kept : Nat → Int32) (nxt cnt : Nat) (T : Nat → Int32) (len pos : Nat) (ph le nu va : Int32) (Z : va_W) (d : Nat) (h_0 : d < 7) : Met l yX6_reads wsX6_reads (k2_rm 6 82) (gR D cy [.ref (a 0), .int (nI (d))] (wX cy a σ kept nxt cnt T len pos ph le nu va ++ Z)) (k2_QcV (.int (σ (70 + d)))) 0 0 (fun _ => False) := by
  refine q_pure (cc := cX6_reads) (maxL := 2) (ret := (some .int)) pl_X6 rfl (Nat.le_of_ble_eq_true rfl) ?_
  intro p e s m below meth c ls hx hb hr hml hts hown hlocks hP hK hl
  have hl : lv_has ls 2 [(0, .ref (a 0)), (1, .int (nI (d)))] := hl
  refine lv_iload_n hx hb dX6_reads_0 rfl (lv_at hl 1 rfl) ?_
  refine q_cS (As := [.int (nI (d))]) (rest := []) (w := []) ⟨hx, hb, hml, hown, hts⟩ (c_X6_isDisc D cy (nI (d))) (va_cwS 1 hts gX6_reads_X6_isDisc rfl rfl rfl hd_X6_isDisc ⟨Nat.le_of_ble_eq_true rfl, Nat.le_of_ble_eq_true rfl⟩) hK q_Pnil rfl hl.1 rfl (Nat.le_of_ble_eq_true rfl) ⟨Nat.zero_le _, Nat.zero_le _⟩ dX6_reads_1 ?_
  refine q_ifneB (tgt := 17) hx hb dX6_reads_4 (by decide) (fun c_4 => ?_) (fun c_4 => absurd c_4 (by rw [inR_N (by omega) (by decide)]; decide))
  refine lv_aload_n hx hb dX6_reads_17 rfl (lv_at hl 0 rfl) ?_
  refine va_get (D := D) (ci := 6) (v := .ref (a 8)) (C := RX6) (T := TX6) (N := 4) hx hb hts (fun _ h => List.mem_cons_of_mem _ (List.mem_append_left _ (List.mem_append_left _ (List.mem_append_left _ (List.mem_append_right _ h))))) hown hK hP 0 rfl rfl 1 (by decide) (hts (.fieldLink RX6 19 "SpreadParity" "now" "LSpreadParity$State;") (List.mem_of_getElem? (i := 3) rfl)) (fun _ h9 => h9) rfl dX6_reads_18 ?_
  refine lv_iload_n hx hb dX6_reads_21 rfl (lv_at hl 1 rfl) ?_
  refine q_cV (As := [.int (nI (d))]) (rest := []) ⟨hx, hb, hml, hown, hts⟩ (c_X5_readCount D cy a σ kept nxt cnt T len pos ph le nu va Z (d) (by omega)) (cwV 1 hts gX6_reads_X5_readCount rfl rfl rfl hd_X5_readCount ⟨Nat.le_of_ble_eq_true rfl, Nat.le_of_ble_eq_true rfl⟩) hK hP 8 rfl rfl rfl hl.1 rfl (Nat.le_of_ble_eq_true rfl) ⟨Nat.zero_le _, Nat.zero_le _⟩ dX6_reads_22 ?_
  exact q_iret hx hb hr hlocks dX6_reads_25 (rfl)
set_option maxHeartbeats 1000000 in
set_option maxRecDepth 100000 in
theorem k_X6_writes {l : Launch} (D : va_G) (cy : ClassId) (a : Nat → Nat) (σ kept : Nat → Int32) (nxt cnt : Nat) (T : Nat → Int32) (len pos : Nat) (ph le nu va : Int32) (Z : va_W) (d : Nat) (h_0 : d < 7) : Met l yX6_writes wsX6_writes (k2_rm 6 82) (gR D cy [.ref (a 0), .int (nI (d))] (wX cy a σ kept nxt cnt T len pos ph le nu va ++ Z)) (k2_QcV (.int (σ (77 + d)))) 0 0 (fun _ => False) := by
  refine q_pure (cc := cX6_writes) (maxL := 2) (ret := (some .int)) pl_X6 rfl (Nat.le_of_ble_eq_true rfl) ?_
  intro p e s m below meth c ls hx hb hr hml hts hown hlocks hP hK hl
  have hl : lv_has ls 2 [(0, .ref (a 0)), (1, .int (nI (d)))] := hl
  refine lv_iload_n hx hb dX6_writes_0 rfl (lv_at hl 1 rfl) ?_
  refine q_cS (As := [.int (nI (d))]) (rest := []) (w := []) ⟨hx, hb, hml, hown, hts⟩ (c_X6_isDisc D cy (nI (d))) (va_cwS 1 hts gX6_writes_X6_isDisc rfl rfl rfl hd_X6_isDisc ⟨Nat.le_of_ble_eq_true rfl, Nat.le_of_ble_eq_true rfl⟩) hK q_Pnil rfl hl.1 rfl (Nat.le_of_ble_eq_true rfl) ⟨Nat.zero_le _, Nat.zero_le _⟩ dX6_writes_1 ?_
  refine q_ifneB (tgt := 17) hx hb dX6_writes_4 (by decide) (fun c_4 => ?_) (fun c_4 => absurd c_4 (by rw [inR_N (by omega) (by decide)]; decide))
  refine lv_aload_n hx hb dX6_writes_17 rfl (lv_at hl 0 rfl) ?_
  refine va_get (D := D) (ci := 6) (v := .ref (a 8)) (C := RX6) (T := TX6) (N := 4) hx hb hts (fun _ h => List.mem_cons_of_mem _ (List.mem_append_left _ (List.mem_append_left _ (List.mem_append_left _ (List.mem_append_right _ h))))) hown hK hP 0 rfl rfl 1 (by decide) (hts (.fieldLink RX6 19 "SpreadParity" "now" "LSpreadParity$State;") (List.mem_of_getElem? (i := 3) rfl)) (fun _ h9 => h9) rfl dX6_writes_18 ?_
  refine lv_iload_n hx hb dX6_writes_21 rfl (lv_at hl 1 rfl) ?_
  refine q_cV (As := [.int (nI (d))]) (rest := []) ⟨hx, hb, hml, hown, hts⟩ (c_X5_writeCount D cy a σ kept nxt cnt T len pos ph le nu va Z (d) (by omega)) (cwV 1 hts gX6_writes_X5_writeCount rfl rfl rfl hd_X5_writeCount ⟨Nat.le_of_ble_eq_true rfl, Nat.le_of_ble_eq_true rfl⟩) hK hP 8 rfl rfl rfl hl.1 rfl (Nat.le_of_ble_eq_true rfl) ⟨Nat.zero_le _, Nat.zero_le _⟩ dX6_writes_22 ?_
  exact q_iret hx hb hr hlocks dX6_writes_25 (rfl)
set_option maxHeartbeats 1000000 in
set_option maxRecDepth 100000 in
theorem k_X6_peek {l : Launch} (D : va_G) (cy : ClassId) (a : Nat → Nat) (σ kept : Nat → Int32) (nxt cnt : Nat) (T : Nat → Int32) (len pos : Nat) (ph le nu va : Int32) (Z : va_W) (q : Nat) (h_0 : q < 42) : Met l yX6_peek wsX6_peek (k2_rm 6 109) (gR D cy [.ref (a 0), .int (nI (q))] (wX cy a σ kept nxt cnt T len pos ph le nu va ++ Z)) (k2_QcV (.int (kn σ (ad q)))) 0 0 (fun _ => False) := by
  refine q_pure (cc := cX6_peek) (maxL := 2) (ret := (some .int)) pl_X6 rfl (Nat.le_of_ble_eq_true rfl) ?_
  intro p e s m below meth c ls hx hb hr hml hts hown hlocks hP hK hl
  have hl : lv_has ls 2 [(0, .ref (a 0)), (1, .int (nI (q)))] := hl
  refine lv_iload_n hx hb dX6_peek_0 rfl (lv_at hl 1 rfl) ?_
  refine q_cS (As := [.int (nI (q))]) (rest := []) (w := []) ⟨hx, hb, hml, hown, hts⟩ (c_X6_isAddress D cy (nI (q))) (va_cwS 1 hts gX6_peek_X6_isAddress rfl rfl rfl hd_X6_isAddress ⟨Nat.le_of_ble_eq_true rfl, Nat.le_of_ble_eq_true rfl⟩) hK q_Pnil rfl hl.1 rfl (Nat.le_of_ble_eq_true rfl) ⟨Nat.zero_le _, Nat.zero_le _⟩ dX6_peek_1 ?_
  refine q_ifneB (tgt := 17) hx hb dX6_peek_4 (by decide) (fun c_4 => ?_) (fun c_4 => absurd c_4 (by rw [inR_N (by omega) (by decide)]; decide))
  refine lv_aload_n hx hb dX6_peek_17 rfl (lv_at hl 0 rfl) ?_
  refine lv_aload_n hx hb dX6_peek_18 rfl (lv_at hl 0 rfl) ?_
  refine va_get (D := D) (ci := 6) (v := .ref (a 1)) (C := RX6) (T := TX6) (N := 4) hx hb hts (fun _ h => List.mem_cons_of_mem _ (List.mem_append_left _ (List.mem_append_left _ (List.mem_append_left _ (List.mem_append_left _ (List.mem_append_right _ h)))))) hown hK hP 0 rfl rfl 0 (by decide) (hts (.fieldLink RX6 10 "SpreadParity" "layout" "LSpreadParity$Layout;") (List.mem_of_getElem? (i := 3) rfl)) (fun _ h9 => h9) rfl dX6_peek_19 ?_
  refine lv_iload_n hx hb dX6_peek_22 rfl (lv_at hl 1 rfl) ?_
  refine q_cV (As := [.int (nI (q))]) (rest := [.ref (a 0)]) ⟨hx, hb, hml, hown, hts⟩ (c_X1_spotOfAddress D cy a σ kept nxt cnt T len pos ph le nu va Z (q) (by omega)) (cwV 1 hts gX6_peek_X1_spotOfAddress rfl rfl rfl hd_X1_spotOfAddress ⟨Nat.le_of_ble_eq_true rfl, Nat.le_of_ble_eq_true rfl⟩) hK hP 1 rfl rfl rfl hl.1 rfl (Nat.le_of_ble_eq_true rfl) ⟨Nat.zero_le _, Nat.zero_le _⟩ dX6_peek_23 ?_
  refine q_cV (As := [.int (nI (ad q))]) (rest := []) ⟨hx, hb, hml, hown, hts⟩ (c_X6_knownValue D cy a σ kept nxt cnt T len pos ph le nu va Z (ad q) (ad_lt h_0)) (cwV 1 hts gX6_peek_X6_knownValue rfl rfl rfl hd_X6_knownValue ⟨Nat.le_of_ble_eq_true rfl, Nat.le_of_ble_eq_true rfl⟩) hK hP 0 rfl rfl rfl hl.1 rfl (Nat.le_of_ble_eq_true rfl) ⟨Nat.zero_le _, Nat.zero_le _⟩ dX6_peek_26 ?_
  exact q_iret hx hb hr hlocks dX6_peek_29 (rfl)
set_option maxHeartbeats 1000000 in
set_option maxRecDepth 100000 in
theorem k_X6_lostIfFailed {l : Launch} (D : va_G) (cy : ClassId) (a : Nat → Nat) (σ kept : Nat → Int32) (nxt cnt : Nat) (T : Nat → Int32) (len pos : Nat) (ph le nu va : Int32) (Z : va_W) (d : Nat) (h_0 : d < 7) : Met l yX6_lostIfFailed wsX6_lostIfFailed (k2_rm 6 111) (gR D cy [.ref (a 0), .int (nI (d))] (wX cy a σ kept nxt cnt T len pos ph le nu va ++ Z)) (k2_QcV (.int (nI (cl (failS σ d))))) 0 0 (fun _ => False) := by
  refine q_pure (cc := cX6_lostIfFailed) (maxL := 2) (ret := (some .int)) pl_X6 rfl (Nat.le_of_ble_eq_true rfl) ?_
  intro p e s m below meth c ls hx hb hr hml hts hown hlocks hP hK hl
  have hl : lv_has ls 2 [(0, .ref (a 0)), (1, .int (nI (d)))] := hl
  refine lv_iload_n hx hb dX6_lostIfFailed_0 rfl (lv_at hl 1 rfl) ?_
  refine q_cS (As := [.int (nI (d))]) (rest := []) (w := []) ⟨hx, hb, hml, hown, hts⟩ (c_X6_isDisc D cy (nI (d))) (va_cwS 1 hts gX6_lostIfFailed_X6_isDisc rfl rfl rfl hd_X6_isDisc ⟨Nat.le_of_ble_eq_true rfl, Nat.le_of_ble_eq_true rfl⟩) hK q_Pnil rfl hl.1 rfl (Nat.le_of_ble_eq_true rfl) ⟨Nat.zero_le _, Nat.zero_le _⟩ dX6_lostIfFailed_1 ?_
  refine q_ifneB (tgt := 17) hx hb dX6_lostIfFailed_4 (by decide) (fun c_4 => ?_) (fun c_4 => absurd c_4 (by rw [inR_N (by omega) (by decide)]; decide))
  refine lv_aload_n hx hb dX6_lostIfFailed_17 rfl (lv_at hl 0 rfl) ?_
  refine lv_iload_n hx hb dX6_lostIfFailed_18 rfl (lv_at hl 1 rfl) ?_
  refine q_cV (As := [.int (nI (d))]) (rest := []) ⟨hx, hb, hml, hown, hts⟩ (c_X6_countLost D cy a σ kept nxt cnt T len pos ph le nu va Z (failS σ d) (nI (d)) (Wo_fail σ h_0)) (cwV 1 hts gX6_lostIfFailed_X6_countLost rfl rfl rfl hd_X6_countLost ⟨Nat.le_of_ble_eq_true rfl, Nat.le_of_ble_eq_true rfl⟩) hK hP 0 rfl rfl rfl hl.1 rfl (Nat.le_of_ble_eq_true rfl) ⟨Nat.zero_le _, Nat.zero_le _⟩ dX6_lostIfFailed_19 ?_
  exact q_iret hx hb hr hlocks dX6_lostIfFailed_22 (rfl)
set_option maxHeartbeats 1000000 in
set_option maxRecDepth 100000 in
theorem k_X6_member {l : Launch} (D : va_G) (cy : ClassId) (a : Nat → Nat) (σ kept : Nat → Int32) (nxt cnt : Nat) (T : Nat → Int32) (len pos : Nat) (ph le nu va : Int32) (Z : va_W) (s_ : Nat) (mm : Nat) (h_0 : s_ < 21) (h_1 : mm < 3) : Met l yX6_member wsX6_member (k2_rm 6 82) (gR D cy [.ref (a 0), .int (nI (s_)), .int (nI (mm))] (wX cy a σ kept nxt cnt T len pos ph le nu va ++ Z)) (k2_QcV (.int (nI (mem s_ mm)))) 0 0 (fun _ => False) := by
  refine q_pure (cc := cX6_member) (maxL := 3) (ret := (some .int)) pl_X6 rfl (Nat.le_of_ble_eq_true rfl) ?_
  intro p e s m below meth c ls hx hb hr hml hts hown hlocks hP hK hl
  have hl : lv_has ls 3 [(0, .ref (a 0)), (1, .int (nI (s_))), (2, .int (nI (mm)))] := hl
  refine lv_iload_n hx hb dX6_member_0 rfl (lv_at hl 1 rfl) ?_
  refine q_cS (As := [.int (nI (s_))]) (rest := []) (w := []) ⟨hx, hb, hml, hown, hts⟩ (c_X6_isStripe D cy (nI (s_))) (va_cwS 1 hts gX6_member_X6_isStripe rfl rfl rfl hd_X6_isStripe ⟨Nat.le_of_ble_eq_true rfl, Nat.le_of_ble_eq_true rfl⟩) hK q_Pnil rfl hl.1 rfl (Nat.le_of_ble_eq_true rfl) ⟨Nat.zero_le _, Nat.zero_le _⟩ dX6_member_1 ?_
  refine q_ifeqB (tgt := 14) hx hb dX6_member_4 (by decide) (fun c_4 => absurd c_4 (by rw [inR_N (by omega) (by decide)]; decide)) (fun c_4 => ?_)
  refine lv_iload_n hx hb dX6_member_7 rfl (lv_at hl 2 rfl) ?_
  refine q_cS (As := [.int (nI (mm))]) (rest := []) (w := []) ⟨hx, hb, hml, hown, hts⟩ (c_X6_isWithinStripe D cy (nI (mm))) (va_cwS 1 hts gX6_member_X6_isWithinStripe rfl rfl rfl hd_X6_isWithinStripe ⟨Nat.le_of_ble_eq_true rfl, Nat.le_of_ble_eq_true rfl⟩) hK q_Pnil rfl hl.1 rfl (Nat.le_of_ble_eq_true rfl) ⟨Nat.zero_le _, Nat.zero_le _⟩ dX6_member_8 ?_
  refine q_ifneB (tgt := 24) hx hb dX6_member_11 (by decide) (fun c_11 => ?_) (fun c_11 => absurd c_11 (by rw [inR_N (by omega) (by decide)]; decide))
  refine lv_iload_n hx hb dX6_member_24 rfl (lv_at hl 1 rfl) ?_
  refine lv_iload_n hx hb dX6_member_25 rfl (lv_at hl 2 rfl) ?_
  refine q_cS (As := [.int (nI (s_)), .int (nI (mm))]) (rest := []) (w := []) ⟨hx, hb, hml, hown, hts⟩ (c_X1_discOfMember D cy (s_) (mm) (by omega) (by omega)) (va_cwS 2 hts gX6_member_X1_discOfMember rfl rfl rfl hd_X1_discOfMember ⟨Nat.le_of_ble_eq_true rfl, Nat.le_of_ble_eq_true rfl⟩) hK q_Pnil rfl hl.1 rfl (Nat.le_of_ble_eq_true rfl) ⟨Nat.zero_le _, Nat.zero_le _⟩ dX6_member_26 ?_
  exact q_iret hx hb hr hlocks dX6_member_29 (rfl)
set_option maxHeartbeats 1000000 in
set_option maxRecDepth 100000 in
theorem k_X6_stripeAt {l : Launch} (D : va_G) (cy : ClassId) (a : Nat → Nat) (σ kept : Nat → Int32) (nxt cnt : Nat) (T : Nat → Int32) (len pos : Nat) (ph le nu va : Int32) (Z : va_W) (d : Nat) (q : Nat) (h_0 : d < 7) (h_1 : q < 9) : Met l yX6_stripeAt wsX6_stripeAt (k2_rm 6 82) (gR D cy [.ref (a 0), .int (nI (d)), .int (nI (q))] (wX cy a σ kept nxt cnt T len pos ph le nu va ++ Z)) (k2_QcV (.int (nI (stT (9 * d + q))))) 0 0 (fun _ => False) := by
  refine q_pure (cc := cX6_stripeAt) (maxL := 3) (ret := (some .int)) pl_X6 rfl (Nat.le_of_ble_eq_true rfl) ?_
  intro p e s m below meth c ls hx hb hr hml hts hown hlocks hP hK hl
  have hl : lv_has ls 3 [(0, .ref (a 0)), (1, .int (nI (d))), (2, .int (nI (q)))] := hl
  refine lv_iload_n hx hb dX6_stripeAt_0 rfl (lv_at hl 1 rfl) ?_
  refine q_cS (As := [.int (nI (d))]) (rest := []) (w := []) ⟨hx, hb, hml, hown, hts⟩ (c_X6_isDisc D cy (nI (d))) (va_cwS 1 hts gX6_stripeAt_X6_isDisc rfl rfl rfl hd_X6_isDisc ⟨Nat.le_of_ble_eq_true rfl, Nat.le_of_ble_eq_true rfl⟩) hK q_Pnil rfl hl.1 rfl (Nat.le_of_ble_eq_true rfl) ⟨Nat.zero_le _, Nat.zero_le _⟩ dX6_stripeAt_1 ?_
  refine q_ifeqB (tgt := 14) hx hb dX6_stripeAt_4 (by decide) (fun c_4 => absurd c_4 (by rw [inR_N (by omega) (by decide)]; decide)) (fun c_4 => ?_)
  refine lv_iload_n hx hb dX6_stripeAt_7 rfl (lv_at hl 2 rfl) ?_
  refine q_cS (As := [.int (nI (q))]) (rest := []) (w := []) ⟨hx, hb, hml, hown, hts⟩ (c_X6_isPlace D cy (nI (q))) (va_cwS 1 hts gX6_stripeAt_X6_isPlace rfl rfl rfl hd_X6_isPlace ⟨Nat.le_of_ble_eq_true rfl, Nat.le_of_ble_eq_true rfl⟩) hK q_Pnil rfl hl.1 rfl (Nat.le_of_ble_eq_true rfl) ⟨Nat.zero_le _, Nat.zero_le _⟩ dX6_stripeAt_8 ?_
  refine q_ifneB (tgt := 24) hx hb dX6_stripeAt_11 (by decide) (fun c_11 => ?_) (fun c_11 => absurd c_11 (by rw [inR_N (by omega) (by decide)]; decide))
  refine lv_aload_n hx hb dX6_stripeAt_24 rfl (lv_at hl 0 rfl) ?_
  refine va_get (D := D) (ci := 6) (v := .ref (a 1)) (C := RX6) (T := TX6) (N := 4) hx hb hts (fun _ h => List.mem_cons_of_mem _ (List.mem_append_left _ (List.mem_append_left _ (List.mem_append_left _ (List.mem_append_right _ h))))) hown hK hP 0 rfl rfl 0 (by decide) (hts (.fieldLink RX6 10 "SpreadParity" "layout" "LSpreadParity$Layout;") (List.mem_of_getElem? (i := 3) rfl)) (fun _ h9 => h9) rfl dX6_stripeAt_25 ?_
  refine lv_iload_n hx hb dX6_stripeAt_28 rfl (lv_at hl 1 rfl) ?_
  refine lv_iload_n hx hb dX6_stripeAt_29 rfl (lv_at hl 2 rfl) ?_
  refine q_cS (As := [.int (nI (d)), .int (nI (q))]) (rest := [.ref (a 1)]) (w := []) ⟨hx, hb, hml, hown, hts⟩ (c_X1_spotAt D cy (d) (q)) (va_cwS 2 hts gX6_stripeAt_X1_spotAt rfl rfl rfl hd_X1_spotAt ⟨Nat.le_of_ble_eq_true rfl, Nat.le_of_ble_eq_true rfl⟩) hK q_Pnil rfl hl.1 rfl (Nat.le_of_ble_eq_true rfl) ⟨Nat.zero_le _, Nat.zero_le _⟩ dX6_stripeAt_30 ?_
  refine q_cV (As := [.int (nI (9 * d + q))]) (rest := []) ⟨hx, hb, hml, hown, hts⟩ (c_X1_stripeOfSpot D cy a σ kept nxt cnt T len pos ph le nu va Z (9 * d + q) (by omega)) (cwV 1 hts gX6_stripeAt_X1_stripeOfSpot rfl rfl rfl hd_X1_stripeOfSpot ⟨Nat.le_of_ble_eq_true rfl, Nat.le_of_ble_eq_true rfl⟩) hK hP 1 rfl rfl rfl hl.1 rfl (Nat.le_of_ble_eq_true rfl) ⟨Nat.zero_le _, Nat.zero_le _⟩ dX6_stripeAt_33 ?_
  exact q_iret hx hb hr hlocks dX6_stripeAt_36 (rfl)
set_option maxHeartbeats 1000000 in
set_option maxRecDepth 100000 in
theorem k_X6_unit {l : Launch} (D : va_G) (cy : ClassId) (a : Nat → Nat) (σ kept : Nat → Int32) (nxt cnt : Nat) (T : Nat → Int32) (len pos : Nat) (ph le nu va : Int32) (Z : va_W) (d : Nat) (q : Nat) (h_0 : d < 7) (h_1 : q < 9) : Met l yX6_unit wsX6_unit (k2_rm 6 82) (gR D cy [.ref (a 0), .int (nI (d)), .int (nI (q))] (wX cy a σ kept nxt cnt T len pos ph le nu va ++ Z)) (k2_QcV (.int (vis σ (9 * d + q)))) 0 0 (fun _ => False) := by
  refine q_pure (cc := cX6_unit) (maxL := 3) (ret := (some .int)) pl_X6 rfl (Nat.le_of_ble_eq_true rfl) ?_
  intro p e s m below meth c ls hx hb hr hml hts hown hlocks hP hK hl
  have hl : lv_has ls 3 [(0, .ref (a 0)), (1, .int (nI (d))), (2, .int (nI (q)))] := hl
  refine lv_iload_n hx hb dX6_unit_0 rfl (lv_at hl 1 rfl) ?_
  refine q_cS (As := [.int (nI (d))]) (rest := []) (w := []) ⟨hx, hb, hml, hown, hts⟩ (c_X6_isDisc D cy (nI (d))) (va_cwS 1 hts gX6_unit_X6_isDisc rfl rfl rfl hd_X6_isDisc ⟨Nat.le_of_ble_eq_true rfl, Nat.le_of_ble_eq_true rfl⟩) hK q_Pnil rfl hl.1 rfl (Nat.le_of_ble_eq_true rfl) ⟨Nat.zero_le _, Nat.zero_le _⟩ dX6_unit_1 ?_
  refine q_ifeqB (tgt := 14) hx hb dX6_unit_4 (by decide) (fun c_4 => absurd c_4 (by rw [inR_N (by omega) (by decide)]; decide)) (fun c_4 => ?_)
  refine lv_iload_n hx hb dX6_unit_7 rfl (lv_at hl 2 rfl) ?_
  refine q_cS (As := [.int (nI (q))]) (rest := []) (w := []) ⟨hx, hb, hml, hown, hts⟩ (c_X6_isPlace D cy (nI (q))) (va_cwS 1 hts gX6_unit_X6_isPlace rfl rfl rfl hd_X6_isPlace ⟨Nat.le_of_ble_eq_true rfl, Nat.le_of_ble_eq_true rfl⟩) hK q_Pnil rfl hl.1 rfl (Nat.le_of_ble_eq_true rfl) ⟨Nat.zero_le _, Nat.zero_le _⟩ dX6_unit_8 ?_
  refine q_ifneB (tgt := 24) hx hb dX6_unit_11 (by decide) (fun c_11 => ?_) (fun c_11 => absurd c_11 (by rw [inR_N (by omega) (by decide)]; decide))
  refine lv_aload_n hx hb dX6_unit_24 rfl (lv_at hl 0 rfl) ?_
  refine lv_iload_n hx hb dX6_unit_25 rfl (lv_at hl 1 rfl) ?_
  refine lv_iload_n hx hb dX6_unit_26 rfl (lv_at hl 2 rfl) ?_
  refine q_cS (As := [.int (nI (d)), .int (nI (q))]) (rest := [.ref (a 0)]) (w := []) ⟨hx, hb, hml, hown, hts⟩ (c_X1_spotAt D cy (d) (q)) (va_cwS 2 hts gX6_unit_X1_spotAt rfl rfl rfl hd_X1_spotAt ⟨Nat.le_of_ble_eq_true rfl, Nat.le_of_ble_eq_true rfl⟩) hK q_Pnil rfl hl.1 rfl (Nat.le_of_ble_eq_true rfl) ⟨Nat.zero_le _, Nat.zero_le _⟩ dX6_unit_27 ?_
  refine q_cV (As := [.int (nI (9 * d + q))]) (rest := []) ⟨hx, hb, hml, hown, hts⟩ (c_X6_visibleValue D cy a σ kept nxt cnt T len pos ph le nu va Z (9 * d + q) (by omega)) (cwV 1 hts gX6_unit_X6_visibleValue rfl rfl rfl hd_X6_visibleValue ⟨Nat.le_of_ble_eq_true rfl, Nat.le_of_ble_eq_true rfl⟩) hK hP 0 rfl rfl rfl hl.1 rfl (Nat.le_of_ble_eq_true rfl) ⟨Nat.zero_le _, Nat.zero_le _⟩ dX6_unit_30 ?_
  exact q_iret hx hb hr hlocks dX6_unit_33 (rfl)
set_option maxHeartbeats 1000000 in
set_option maxRecDepth 100000 in
theorem k_X6_place {l : Launch} (D : va_G) (cy : ClassId) (a : Nat → Nat) (σ kept : Nat → Int32) (nxt cnt : Nat) (T : Nat → Int32) (len pos : Nat) (ph le nu va : Int32) (Z : va_W) (s_ : Nat) (mm : Nat) (h_0 : s_ < 21) (h_1 : mm < 3) : Met l yX6_place wsX6_place (k2_rm 6 82) (gR D cy [.ref (a 0), .int (nI (s_)), .int (nI (mm))] (wX cy a σ kept nxt cnt T len pos ph le nu va ++ Z)) (k2_QcV (.int (nI (10 * (spT (3 * s_ + mm) / 9) + spT (3 * s_ + mm) % 9)))) 0 0 (fun _ => False) := by
  refine q_pure (cc := cX6_place) (maxL := 4) (ret := (some .int)) pl_X6 rfl (Nat.le_of_ble_eq_true rfl) ?_
  intro p e s m below meth c ls hx hb hr hml hts hown hlocks hP hK hl
  have hl : lv_has ls 4 [(0, .ref (a 0)), (1, .int (nI (s_))), (2, .int (nI (mm)))] := hl
  refine lv_iload_n hx hb dX6_place_0 rfl (lv_at hl 1 rfl) ?_
  refine q_cS (As := [.int (nI (s_))]) (rest := []) (w := []) ⟨hx, hb, hml, hown, hts⟩ (c_X6_isStripe D cy (nI (s_))) (va_cwS 1 hts gX6_place_X6_isStripe rfl rfl rfl hd_X6_isStripe ⟨Nat.le_of_ble_eq_true rfl, Nat.le_of_ble_eq_true rfl⟩) hK q_Pnil rfl hl.1 rfl (Nat.le_of_ble_eq_true rfl) ⟨Nat.zero_le _, Nat.zero_le _⟩ dX6_place_1 ?_
  refine q_ifeqB (tgt := 14) hx hb dX6_place_4 (by decide) (fun c_4 => absurd c_4 (by rw [inR_N (by omega) (by decide)]; decide)) (fun c_4 => ?_)
  refine lv_iload_n hx hb dX6_place_7 rfl (lv_at hl 2 rfl) ?_
  refine q_cS (As := [.int (nI (mm))]) (rest := []) (w := []) ⟨hx, hb, hml, hown, hts⟩ (c_X6_isWithinStripe D cy (nI (mm))) (va_cwS 1 hts gX6_place_X6_isWithinStripe rfl rfl rfl hd_X6_isWithinStripe ⟨Nat.le_of_ble_eq_true rfl, Nat.le_of_ble_eq_true rfl⟩) hK q_Pnil rfl hl.1 rfl (Nat.le_of_ble_eq_true rfl) ⟨Nat.zero_le _, Nat.zero_le _⟩ dX6_place_8 ?_
  refine q_ifneB (tgt := 24) hx hb dX6_place_11 (by decide) (fun c_11 => ?_) (fun c_11 => absurd c_11 (by rw [inR_N (by omega) (by decide)]; decide))
  refine lv_aload_n hx hb dX6_place_24 rfl (lv_at hl 0 rfl) ?_
  refine va_get (D := D) (ci := 6) (v := .ref (a 1)) (C := RX6) (T := TX6) (N := 4) hx hb hts (fun _ h => List.mem_cons_of_mem _ (List.mem_append_left _ (List.mem_append_left _ (List.mem_append_left _ (List.mem_append_right _ h))))) hown hK hP 0 rfl rfl 0 (by decide) (hts (.fieldLink RX6 10 "SpreadParity" "layout" "LSpreadParity$Layout;") (List.mem_of_getElem? (i := 3) rfl)) (fun _ h9 => h9) rfl dX6_place_25 ?_
  refine lv_iload_n hx hb dX6_place_28 rfl (lv_at hl 1 rfl) ?_
  refine lv_iload_n hx hb dX6_place_29 rfl (lv_at hl 2 rfl) ?_
  refine q_cV (As := [.int (nI (s_)), .int (nI (mm))]) (rest := []) ⟨hx, hb, hml, hown, hts⟩ (c_X1_spotOf D cy a σ kept nxt cnt T len pos ph le nu va Z (s_) (mm) (by omega) (by omega)) (cwV 2 hts gX6_place_X1_spotOf rfl rfl rfl hd_X1_spotOf ⟨Nat.le_of_ble_eq_true rfl, Nat.le_of_ble_eq_true rfl⟩) hK hP 1 rfl rfl rfl hl.1 rfl (Nat.le_of_ble_eq_true rfl) ⟨Nat.zero_le _, Nat.zero_le _⟩ dX6_place_30 ?_
  refine lv_istore_n (lv' := [(3, .int (nI (spT (3 * s_ + mm)))), (0, .ref (a 0)), (1, .int (nI (s_))), (2, .int (nI (mm)))]) hx hb dX6_place_33 rfl hl (by decide) rfl (fun ls hl => ?_)
  refine lv_bipush (v := nI 10) hx hb dX6_place_34 rfl ?_
  refine lv_iload_n hx hb dX6_place_36 rfl (lv_at hl 0 rfl) ?_
  refine q_cS (As := [.int (nI (spT (3 * s_ + mm)))]) (rest := [.int (nI (10))]) (w := []) ⟨hx, hb, hml, hown, hts⟩ (c_X1_discOfSpot D cy (spT (3 * s_ + mm)) (by have h9 := @sp_lt s_ mm h_0 h_1; omega)) (va_cwS 1 hts gX6_place_X1_discOfSpot rfl rfl rfl hd_X1_discOfSpot ⟨Nat.le_of_ble_eq_true rfl, Nat.le_of_ble_eq_true rfl⟩) hK q_Pnil rfl hl.1 rfl (Nat.le_of_ble_eq_true rfl) ⟨Nat.zero_le _, Nat.zero_le _⟩ dX6_place_37 ?_
  refine q_mulN hx hb dX6_place_40 ?_
  refine lv_iload_n hx hb dX6_place_41 rfl (lv_at hl 0 rfl) ?_
  refine q_cS (As := [.int (nI (spT (3 * s_ + mm)))]) (rest := [.int (nI (10 * ((spT (3 * s_ + mm)) / 9)))]) (w := []) ⟨hx, hb, hml, hown, hts⟩ (c_X1_placeOfSpot D cy (spT (3 * s_ + mm)) (by have h9 := @sp_lt s_ mm h_0 h_1; omega)) (va_cwS 1 hts gX6_place_X1_placeOfSpot rfl rfl rfl hd_X1_placeOfSpot ⟨Nat.le_of_ble_eq_true rfl, Nat.le_of_ble_eq_true rfl⟩) hK q_Pnil rfl hl.1 rfl (Nat.le_of_ble_eq_true rfl) ⟨Nat.zero_le _, Nat.zero_le _⟩ dX6_place_42 ?_
  refine q_addN hx hb dX6_place_45 ?_
  exact q_iret hx hb hr hlocks dX6_place_46 (rfl)
set_option maxHeartbeats 1000000 in
set_option maxRecDepth 100000 in
theorem k_X6_loadOf {l : Launch} (D : va_G) (cy : ClassId) (a : Nat → Nat) (σ kept : Nat → Int32) (nxt cnt : Nat) (T : Nat → Int32) (len pos : Nat) (ph le nu va : Int32) (Z : va_W) (d : Nat) (q : Nat) (h_0 : d < 7) (h_1 : q < 7) : Met l yX6_loadOf wsX6_loadOf (k2_rm 6 82) (gR D cy [.ref (a 0), .int (nI (d)), .int (nI (q))] (wX cy a σ kept nxt cnt T len pos ph le nu va ++ Z)) (k2_QcV (.int (nI (if d = q then 0 else both d q)))) 0 0 (fun _ => False) := by
  refine q_pure (cc := cX6_loadOf) (maxL := 3) (ret := (some .int)) pl_X6 rfl (Nat.le_of_ble_eq_true rfl) ?_
  intro p e s m below meth c ls hx hb hr hml hts hown hlocks hP hK hl
  have hl : lv_has ls 3 [(0, .ref (a 0)), (1, .int (nI (d))), (2, .int (nI (q)))] := hl
  refine lv_iload_n hx hb dX6_loadOf_0 rfl (lv_at hl 1 rfl) ?_
  refine q_cS (As := [.int (nI (d))]) (rest := []) (w := []) ⟨hx, hb, hml, hown, hts⟩ (c_X6_isDisc D cy (nI (d))) (va_cwS 1 hts gX6_loadOf_X6_isDisc rfl rfl rfl hd_X6_isDisc ⟨Nat.le_of_ble_eq_true rfl, Nat.le_of_ble_eq_true rfl⟩) hK q_Pnil rfl hl.1 rfl (Nat.le_of_ble_eq_true rfl) ⟨Nat.zero_le _, Nat.zero_le _⟩ dX6_loadOf_1 ?_
  refine q_ifeqB (tgt := 14) hx hb dX6_loadOf_4 (by decide) (fun c_4 => absurd c_4 (by rw [inR_N (by omega) (by decide)]; decide)) (fun c_4 => ?_)
  refine lv_iload_n hx hb dX6_loadOf_7 rfl (lv_at hl 2 rfl) ?_
  refine q_cS (As := [.int (nI (q))]) (rest := []) (w := []) ⟨hx, hb, hml, hown, hts⟩ (c_X6_isDisc D cy (nI (q))) (va_cwS 1 hts gX6_loadOf_X6_isDisc rfl rfl rfl hd_X6_isDisc ⟨Nat.le_of_ble_eq_true rfl, Nat.le_of_ble_eq_true rfl⟩) hK q_Pnil rfl hl.1 rfl (Nat.le_of_ble_eq_true rfl) ⟨Nat.zero_le _, Nat.zero_le _⟩ dX6_loadOf_8 ?_
  refine q_ifneB (tgt := 24) hx hb dX6_loadOf_11 (by decide) (fun c_11 => ?_) (fun c_11 => absurd c_11 (by rw [inR_N (by omega) (by decide)]; decide))
  refine lv_iload_n hx hb dX6_loadOf_24 rfl (lv_at hl 1 rfl) ?_
  refine lv_iload_n hx hb dX6_loadOf_25 rfl (lv_at hl 2 rfl) ?_
  refine q_neN (tgt := 33) hx hb dX6_loadOf_26 (by decide) (by omega) (by omega) (fun c_26 => ?_) (fun c_26 => ?_)
  · refine lv_aload_n hx hb dX6_loadOf_33 rfl (lv_at hl 0 rfl) ?_
    refine va_get (D := D) (ci := 6) (v := .ref (a 1)) (C := RX6) (T := TX6) (N := 4) hx hb hts (fun _ h => List.mem_cons_of_mem _ (List.mem_append_left _ (List.mem_append_right _ h))) hown hK hP 0 rfl rfl 0 (by decide) (hts (.fieldLink RX6 10 "SpreadParity" "layout" "LSpreadParity$Layout;") (List.mem_of_getElem? (i := 3) rfl)) (fun _ h9 => h9) rfl dX6_loadOf_34 ?_
    refine lv_iload_n hx hb dX6_loadOf_37 rfl (lv_at hl 1 rfl) ?_
    refine lv_iload_n hx hb dX6_loadOf_38 rfl (lv_at hl 2 rfl) ?_
    refine q_cV (As := [.int (nI (d)), .int (nI (q))]) (rest := []) ⟨hx, hb, hml, hown, hts⟩ (c_X1_stripesOnBoth D cy a σ kept nxt cnt T len pos ph le nu va Z (d) (q) (by omega) (by omega)) (cwV 2 hts gX6_loadOf_X1_stripesOnBoth rfl rfl rfl hd_X1_stripesOnBoth ⟨Nat.le_of_ble_eq_true rfl, Nat.le_of_ble_eq_true rfl⟩) hK hP 1 rfl rfl rfl hl.1 rfl (Nat.le_of_ble_eq_true rfl) ⟨Nat.zero_le _, Nat.zero_le _⟩ dX6_loadOf_39 ?_
    exact q_iret hx hb hr hlocks dX6_loadOf_42 (by rw [if_neg c_26])
  · refine lv_iconst (v := nI 0) hx hb dX6_loadOf_29 rfl ?_
    refine lv_goto (tgt := 42) hx hb dX6_loadOf_30 (by decide) ?_
    exact q_iret hx hb hr hlocks dX6_loadOf_42 (by rw [if_pos c_26])
set_option maxHeartbeats 1000000 in
set_option maxRecDepth 100000 in
theorem k_X6_mend {l : Launch} (D : va_G) (cy : ClassId) (A : Nat → Prop) (a : Nat → Nat) (σ kept : Nat → Int32) (nxt cnt : Nat) (T : Nat → Int32) (len pos : Nat) (ph le nu va : Int32) (Z : va_W) (n : Nat) (h_0 : 1 ≤ n) (h_1 : n ≤ 9) (h_2 : nxt < 6) (h_3 : cnt ≤ 6) (h_4 : Val σ) : Met l yX6_mend wsX6_mend (k2_rm 6 111) (gP D cy [.ref (a 0), .int (nI (n))] A (wX cy a σ kept nxt cnt T len pos ph le nu va ++ Z)) (gQ D A (some (.int (nI ((mnS n σ).2)))) (wX cy a ((mnS n σ).1) (cpK kept σ (nxt * 86) 86) ((nxt + 1) % 6) (min (cnt + 1) 6) T len pos ph le nu va ++ Z)) 0 0 A := by
  refine q_imp (cc := cX6_mend) (maxL := 2) (ret := (some .int)) pl_X6 rfl (Nat.le_of_ble_eq_true rfl) ?_
  intro p e s m below meth c ls hx hb hr hml hts hown hlocks hw hK hA hl
  have hP := hw.1
  have hl : lv_has ls 2 [(0, .ref (a 0)), (1, .int (nI (n)))] := hl
  refine lv_iload_n hx hb dX6_mend_0 rfl (lv_at hl 1 rfl) ?_
  refine lv_iconst (v := nI 1) hx hb dX6_mend_1 rfl ?_
  refine q_ltN (tgt := 11) hx hb dX6_mend_2 (by decide) (by omega) (by omega) (fun c_2 => absurd c_2 (by omega)) (fun c_2 => ?_)
  refine lv_iload_n hx hb dX6_mend_5 rfl (lv_at hl 1 rfl) ?_
  refine lv_bipush (v := nI 9) hx hb dX6_mend_6 rfl ?_
  refine q_leN (tgt := 21) hx hb dX6_mend_8 (by decide) (by omega) (by omega) (fun c_8 => ?_) (fun c_8 => absurd c_8 (by omega))
  refine lv_aload_n hx hb dX6_mend_21 rfl (lv_at hl 0 rfl) ?_
  refine va_get (D := D) (ci := 6) (v := .ref (a 11)) (C := RX6) (T := TX6) (N := 4) hx hb hts (fun _ h => List.mem_cons_of_mem _ (List.mem_append_left _ (List.mem_append_left _ (List.mem_append_left _ (List.mem_append_left _ (List.mem_append_left _ (List.mem_append_right _ h))))))) hown hK hP 0 rfl rfl 2 (by decide) (hts (.fieldLink RX6 26 "SpreadParity" "history" "LSpreadParity$History;") (List.mem_of_getElem? (i := 3) rfl)) (fun _ h9 => h9) rfl dX6_mend_22 ?_
  refine lv_aload_n hx hb dX6_mend_25 rfl (lv_at hl 0 rfl) ?_
  refine va_get (D := D) (ci := 6) (v := .ref (a 8)) (C := RX6) (T := TX6) (N := 4) hx hb hts (fun _ h => List.mem_cons_of_mem _ (List.mem_append_left _ (List.mem_append_left _ (List.mem_append_left _ (List.mem_append_left _ (List.mem_append_left _ (List.mem_append_right _ h))))))) hown hK hP 0 rfl rfl 1 (by decide) (hts (.fieldLink RX6 19 "SpreadParity" "now" "LSpreadParity$State;") (List.mem_of_getElem? (i := 4) rfl)) (fun _ h9 => h9) rfl dX6_mend_26 ?_
  refine q_wV0 (As := [.ref (a 8)]) (rest := []) (st1 := []) ⟨hx, hb, hml, hown, hts⟩ (c_X0_keep D cy A a σ kept nxt cnt T len pos ph le nu va Z (by omega) (by omega)) (cwV 1 hts gX6_mend_X0_keep rfl rfl rfl hd_X0_keep ⟨Nat.le_of_ble_eq_true rfl, Nat.le_of_ble_eq_true rfl⟩) hK hA hw 11 rfl rfl rfl hl.1 rfl rfl (Nat.le_of_ble_eq_true rfl) ⟨Nat.zero_le _, Nat.zero_le _⟩ dX6_mend_29 (fun H locs hw => ?_)
  have hw : wS D A (wX cy a σ (cpK kept σ (nxt * 86) 86) ((nxt + 1) % 6) (min (cnt + 1) 6) T len pos ph le nu va ++ Z) s H locs := hw
  have hP := hw.1
  refine lv_aload_n hx hb dX6_mend_32 rfl (lv_at hl 0 rfl) ?_
  refine lv_iload_n hx hb dX6_mend_33 rfl (lv_at hl 1 rfl) ?_
  refine q_wV0 (As := [.int (nI (n))]) (rest := []) (st1 := [.int (nI ((mnS n σ).2))]) ⟨hx, hb, hml, hown, hts⟩ (c_X6_makeSteps D cy A a σ (cpK kept σ (nxt * 86) 86) ((nxt + 1) % 6) (min (cnt + 1) 6) T len pos ph le nu va Z (n) (by omega) h_4) (cwV 1 hts gX6_mend_X6_makeSteps rfl rfl rfl hd_X6_makeSteps ⟨Nat.le_of_ble_eq_true rfl, Nat.le_of_ble_eq_true rfl⟩) hK hA hw 0 rfl rfl rfl hl.1 rfl rfl (Nat.le_of_ble_eq_true rfl) ⟨Nat.zero_le _, Nat.zero_le _⟩ dX6_mend_34 (fun H locs hw => ?_)
  have hw : wS D A (wX cy a ((mnS n σ).1) (cpK kept σ (nxt * 86) 86) ((nxt + 1) % 6) (min (cnt + 1) 6) T len pos ph le nu va ++ Z) s H locs := hw
  have hP := hw.1
  exact q_iretW hx hb hr hlocks hw dX6_mend_37 (rfl)
set_option maxHeartbeats 1000000 in
set_option maxRecDepth 100000 in
theorem k_X6_addSpare {l : Launch} (D : va_G) (cy : ClassId) (A : Nat → Prop) (a : Nat → Nat) (σ kept : Nat → Int32) (nxt cnt : Nat) (T : Nat → Int32) (len pos : Nat) (ph le nu va : Int32) (Z : va_W) (h_0 : nxt < 6) (h_1 : cnt ≤ 6) (h_2 : Val σ) (h_3 : ¬ σ 84 = 5) : Met l yX6_addSpare wsX6_addSpare (k2_rm 6 82) (gP D cy [.ref (a 0)] A (wX cy a σ kept nxt cnt T len pos ph le nu va ++ Z)) (gQ D A (some (.int (σ 84 + 1))) (wX cy a (upd σ 84 (σ 84 + 1)) (cpK kept σ (nxt * 86) 86) ((nxt + 1) % 6) (min (cnt + 1) 6) T len pos ph le nu va ++ Z)) 0 0 A := by
  refine q_imp (cc := cX6_addSpare) (maxL := 1) (ret := (some .int)) pl_X6 rfl (Nat.le_of_ble_eq_true rfl) ?_
  intro p e s m below meth c ls hx hb hr hml hts hown hlocks hw hK hA hl
  have hP := hw.1
  have hl : lv_has ls 1 [(0, .ref (a 0))] := hl
  refine lv_aload_n hx hb dX6_addSpare_0 rfl (lv_at hl 0 rfl) ?_
  refine va_get (D := D) (ci := 6) (v := .ref (a 8)) (C := RX6) (T := TX6) (N := 4) hx hb hts (fun _ h => List.mem_cons_of_mem _ (List.mem_append_left _ (List.mem_append_left _ (List.mem_append_left _ (List.mem_append_left _ (List.mem_append_right _ h)))))) hown hK hP 0 rfl rfl 1 (by decide) (hts (.fieldLink RX6 19 "SpreadParity" "now" "LSpreadParity$State;") (List.mem_of_getElem? (i := 3) rfl)) (fun _ h9 => h9) rfl dX6_addSpare_1 ?_
  refine q_cV (As := []) (rest := []) ⟨hx, hb, hml, hown, hts⟩ (c_X5_spareDiscs D cy a σ kept nxt cnt T len pos ph le nu va Z ) (cwV 0 hts gX6_addSpare_X5_spareDiscs rfl rfl rfl hd_X5_spareDiscs ⟨Nat.le_of_ble_eq_true rfl, Nat.le_of_ble_eq_true rfl⟩) hK hP 8 rfl rfl rfl hl.1 rfl (Nat.le_of_ble_eq_true rfl) ⟨Nat.zero_le _, Nat.zero_le _⟩ dX6_addSpare_4 ?_
  refine lv_iconst (v := nI 5) hx hb dX6_addSpare_7 rfl ?_
  refine lv_icmp_lt (tgt := 21) hx hb dX6_addSpare_8 (by decide) (fun (c_8 : (σ 84) < (5)) => ?_) (fun (c_8 : ¬ (σ 84) < (5)) => absurd (as_5 h_2 c_8) h_3)
  refine lv_aload_n hx hb dX6_addSpare_21 rfl (lv_at hl 0 rfl) ?_
  refine va_get (D := D) (ci := 6) (v := .ref (a 11)) (C := RX6) (T := TX6) (N := 4) hx hb hts (fun _ h => List.mem_cons_of_mem _ (List.mem_append_left _ (List.mem_append_left _ (List.mem_append_left _ (List.mem_append_left _ (List.mem_append_right _ h)))))) hown hK hP 0 rfl rfl 2 (by decide) (hts (.fieldLink RX6 26 "SpreadParity" "history" "LSpreadParity$History;") (List.mem_of_getElem? (i := 4) rfl)) (fun _ h9 => h9) rfl dX6_addSpare_22 ?_
  refine lv_aload_n hx hb dX6_addSpare_25 rfl (lv_at hl 0 rfl) ?_
  refine va_get (D := D) (ci := 6) (v := .ref (a 8)) (C := RX6) (T := TX6) (N := 4) hx hb hts (fun _ h => List.mem_cons_of_mem _ (List.mem_append_left _ (List.mem_append_left _ (List.mem_append_left _ (List.mem_append_left _ (List.mem_append_right _ h)))))) hown hK hP 0 rfl rfl 1 (by decide) (hts (.fieldLink RX6 19 "SpreadParity" "now" "LSpreadParity$State;") (List.mem_of_getElem? (i := 3) rfl)) (fun _ h9 => h9) rfl dX6_addSpare_26 ?_
  refine q_wV0 (As := [.ref (a 8)]) (rest := []) (st1 := []) ⟨hx, hb, hml, hown, hts⟩ (c_X0_keep D cy A a σ kept nxt cnt T len pos ph le nu va Z (by omega) (by omega)) (cwV 1 hts gX6_addSpare_X0_keep rfl rfl rfl hd_X0_keep ⟨Nat.le_of_ble_eq_true rfl, Nat.le_of_ble_eq_true rfl⟩) hK hA hw 11 rfl rfl rfl hl.1 rfl rfl (Nat.le_of_ble_eq_true rfl) ⟨Nat.zero_le _, Nat.zero_le _⟩ dX6_addSpare_29 (fun H locs hw => ?_)
  have hw : wS D A (wX cy a σ (cpK kept σ (nxt * 86) 86) ((nxt + 1) % 6) (min (cnt + 1) 6) T len pos ph le nu va ++ Z) s H locs := hw
  have hP := hw.1
  refine lv_aload_n hx hb dX6_addSpare_32 rfl (lv_at hl 0 rfl) ?_
  refine va_get (D := D) (ci := 6) (v := .ref (a 8)) (C := RX6) (T := TX6) (N := 4) hx hb hts (fun _ h => List.mem_cons_of_mem _ (List.mem_append_left _ (List.mem_append_left _ (List.mem_append_left _ (List.mem_append_left _ (List.mem_append_right _ h)))))) hown hK hP 0 rfl rfl 1 (by decide) (hts (.fieldLink RX6 19 "SpreadParity" "now" "LSpreadParity$State;") (List.mem_of_getElem? (i := 3) rfl)) (fun _ h9 => h9) rfl dX6_addSpare_33 ?_
  refine q_wV0 (As := []) (rest := []) (st1 := []) ⟨hx, hb, hml, hown, hts⟩ (c_X5_addSpareDisc D cy A a σ (cpK kept σ (nxt * 86) 86) ((nxt + 1) % 6) (min (cnt + 1) 6) T len pos ph le nu va Z ) (cwV 0 hts gX6_addSpare_X5_addSpareDisc rfl rfl rfl hd_X5_addSpareDisc ⟨Nat.le_of_ble_eq_true rfl, Nat.le_of_ble_eq_true rfl⟩) hK hA hw 8 rfl rfl rfl hl.1 rfl rfl (Nat.le_of_ble_eq_true rfl) ⟨Nat.zero_le _, Nat.zero_le _⟩ dX6_addSpare_36 (fun H locs hw => ?_)
  have hw : wS D A (wX cy a (upd σ 84 (σ 84 + 1)) (cpK kept σ (nxt * 86) 86) ((nxt + 1) % 6) (min (cnt + 1) 6) T len pos ph le nu va ++ Z) s H locs := hw
  have hP := hw.1
  refine lv_aload_n hx hb dX6_addSpare_39 rfl (lv_at hl 0 rfl) ?_
  refine va_get (D := D) (ci := 6) (v := .ref (a 8)) (C := RX6) (T := TX6) (N := 4) hx hb hts (fun _ h => List.mem_cons_of_mem _ (List.mem_append_left _ (List.mem_append_left _ (List.mem_append_left _ (List.mem_append_left _ (List.mem_append_right _ h)))))) hown hK hP 0 rfl rfl 1 (by decide) (hts (.fieldLink RX6 19 "SpreadParity" "now" "LSpreadParity$State;") (List.mem_of_getElem? (i := 3) rfl)) (fun _ h9 => h9) rfl dX6_addSpare_40 ?_
  refine q_cV (As := []) (rest := []) ⟨hx, hb, hml, hown, hts⟩ (c_X5_spareDiscs D cy a (upd σ 84 (σ 84 + 1)) (cpK kept σ (nxt * 86) 86) ((nxt + 1) % 6) (min (cnt + 1) 6) T len pos ph le nu va Z ) (cwV 0 hts gX6_addSpare_X5_spareDiscs rfl rfl rfl hd_X5_spareDiscs ⟨Nat.le_of_ble_eq_true rfl, Nat.le_of_ble_eq_true rfl⟩) hK hP 8 rfl rfl rfl hl.1 rfl (Nat.le_of_ble_eq_true rfl) ⟨Nat.zero_le _, Nat.zero_le _⟩ dX6_addSpare_43 ?_
  refine q_top (show ((upd σ 84 (σ 84 + 1)) 84) = σ 84 + 1 from upd_eq _ _ _) ?_
  exact q_iretW hx hb hr hlocks hw dX6_addSpare_46 (rfl)
