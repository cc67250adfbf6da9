set_option maxHeartbeats 1000000 in
set_option maxRecDepth 100000 in
theorem c_X6_state {l : Launch} (hst : l.stackTraces = false) (D : va_G) (cy : ClassId) (A : Nat → Prop) (a : Nat → Nat) (σ kept : Nat → Int32) (nxt cnt : Nat) (T : Nat → Int32) (len pos : Nat) (ph le nu va : Int32) (Z : va_W) (x : Int32) : vx_Met l yX6_state wsX6_state ({ frames := 6, cells := 1, slots := 6, locals := 82 } : Room) (gX D cy [.ref (a 0), .int (x)] A (wX cy a σ kept nxt cnt T len pos ph le nu va ++ Z)) (xQ D A (c1 x 7) (some (.int (σ (63 + ix x)))) (wX cy a σ kept nxt cnt T len pos ph le nu va ++ Z)) (xX D A (fun _ => eI) (c1 x 7) (wX cy a σ kept nxt cnt T len pos ph le nu va ++ Z)) 1 6 A := by
  refine q_xmp (cc := cX6_state) (maxL := 2) (ret := (some .int)) pl_X6 rfl (Nat.le_of_ble_eq_true rfl) ?_
  intro p e s m below meth c ls hx hb hr hml hts hown hlocks hw hK hA hl hexc hN
  have hP := hw.1
  have hl : lv_has ls 2 [(0, .ref (a 0)), (1, .int (x))] := hl
  refine lv_iload_n hx hb dX6_state_0 rfl (lv_at hl 1 rfl) ?_
  refine q_cS (As := [.int (x)]) (rest := []) (w := []) ⟨hx, hb, hml, hown, hts⟩ (c_X6_isDisc D cy (x)) (va_cwS 1 hts gX6_state_X6_isDisc rfl rfl rfl hd_X6_isDisc ⟨Nat.le_of_ble_eq_true rfl, Nat.le_of_ble_eq_true rfl⟩) hK q_Pnil rfl hl.1 rfl (Nat.le_of_ble_eq_true rfl) ⟨Nat.zero_le _, Nat.zero_le _⟩ dX6_state_1 ?_
  refine q_ifneB (tgt := 17) hx hb dX6_state_4 (by decide) (fun c_4 => ?_) (fun c_4 => ?_)
  · obtain ⟨j, h_j, e_j⟩ := inR_nI c_4
    have x_j : ix x = j := by rw [e_j]; exact nI_clamp (by omega)
    have hl : lv_has ls 2 [(0, .ref (a 0)), (1, .int (nI (j)))] := by rw [← e_j]; exact hl
    refine lv_aload_n hx hb dX6_state_17 rfl (lv_at hl 0 rfl) ?_
    refine va_get (D := D) (ci := 6) (v := .ref (a 8)) (C := RX6) (T := TX6) (N := 4) hx hb hts (fun _ h => List.mem_cons_of_mem _ (List.mem_append_left _ (List.mem_append_left _ (List.mem_append_left _ (List.mem_append_right _ h))))) hown hK hP 0 rfl rfl 1 (by decide) (hts (.fieldLink RX6 19 "SpreadParity" "now" "LSpreadParity$State;") (List.mem_of_getElem? (i := 3) rfl)) (fun _ h9 => h9) rfl dX6_state_18 ?_
    refine lv_iload_n hx hb dX6_state_21 rfl (lv_at hl 1 rfl) ?_
    refine q_cV (As := [.int (nI (j))]) (rest := []) ⟨hx, hb, hml, hown, hts⟩ (c_X5_progressOf D cy a σ kept nxt cnt T len pos ph le nu va Z (j) (by omega)) (cwV 1 hts gX6_state_X5_progressOf rfl rfl rfl hd_X5_progressOf ⟨Nat.le_of_ble_eq_true rfl, Nat.le_of_ble_eq_true rfl⟩) hK hP 8 rfl rfl rfl hl.1 rfl (Nat.le_of_ble_eq_true rfl) ⟨Nat.zero_le _, Nat.zero_le _⟩ dX6_state_22 ?_
    have e_c : c1 x 7 = 0 := by rw [c1, if_pos c_4]
    exact q_iretX hx hb hr hlocks hw (Nat.le_of_ble_eq_true rfl) (Nat.le_of_ble_eq_true rfl) dX6_state_25 e_c (by rw [x_j])
  · have e_c : c1 x 7 = 1 := by rw [c1, if_neg (by rw [c_4]; decide)]
    obtain ⟨sa, hsa⟩ := hN.2.2.2 (94, "there is no such disc") (by decide)
    exact vx_throwS (names := eNm) (A := A) (sa := sa) (text := "there is no such disc") hx hb hst hown eI_fit eNm_fit (hts (.classLink RX6 41 "java/lang/IndexOutOfBoundsException") (List.mem_of_getElem? (i := 1) rfl)) (hts (.initialized "java/lang/IndexOutOfBoundsException") (List.mem_of_getElem? (i := 2) rfl)) hsa (vx_hat (fun w h => hts w ((fun _ h => List.mem_cons_of_mem _ (List.mem_append_right _ h)) w h)) eI_bad (fun w h => va_Nw.use (xWd_on w (eI_wd w h)) (hN.2.2.1 w (eI_wd w h)))) eI_good hN.1 hN.2.1 hw.2.2 (hl.1.trans hml.symm) dX6_state_7 dX6_state_10 dX6_state_11 dX6_state_13 dX6_state_16 (fun x h => (hexc x h).elim) (by decide) (by decide) (by decide) (by decide) hlocks (fun t _ hz hk => ⟨by rw [e_c]; decide, by rw [e_c] <;> rfl, wS.x hw hz hk⟩) hw.2.2.2.2 (by decide) (by decide)
set_option maxHeartbeats 1000000 in
set_option maxRecDepth 100000 in
theorem c_X6_reads {l : Launch} (hst : l.stackTraces = false) (D : va_G) (cy : ClassId) (A : Nat → Prop) (a : Nat → Nat) (σ kept : Nat → Int32) (nxt cnt : Nat) (T : Nat → Int32) (len pos : Nat) (ph le nu va : Int32) (Z : va_W) (x : Int32) : vx_Met l yX6_reads wsX6_reads ({ frames := 6, cells := 1, slots := 6, locals := 82 } : Room) (gX D cy [.ref (a 0), .int (x)] A (wX cy a σ kept nxt cnt T len pos ph le nu va ++ Z)) (xQ D A (c1 x 7) (some (.int (σ (70 + ix x)))) (wX cy a σ kept nxt cnt T len pos ph le nu va ++ Z)) (xX D A (fun _ => eI) (c1 x 7) (wX cy a σ kept nxt cnt T len pos ph le nu va ++ Z)) 1 6 A := by
  refine q_xmp (cc := cX6_reads) (maxL := 2) (ret := (some .int)) pl_X6 rfl (Nat.le_of_ble_eq_true rfl) ?_
  intro p e s m below meth c ls hx hb hr hml hts hown hlocks hw hK hA hl hexc hN
  have hP := hw.1
  have hl : lv_has ls 2 [(0, .ref (a 0)), (1, .int (x))] := hl
  refine lv_iload_n hx hb dX6_reads_0 rfl (lv_at hl 1 rfl) ?_
  refine q_cS (As := [.int (x)]) (rest := []) (w := []) ⟨hx, hb, hml, hown, hts⟩ (c_X6_isDisc D cy (x)) (va_cwS 1 hts gX6_reads_X6_isDisc rfl rfl rfl hd_X6_isDisc ⟨Nat.le_of_ble_eq_true rfl, Nat.le_of_ble_eq_true rfl⟩) hK q_Pnil rfl hl.1 rfl (Nat.le_of_ble_eq_true rfl) ⟨Nat.zero_le _, Nat.zero_le _⟩ dX6_reads_1 ?_
  refine q_ifneB (tgt := 17) hx hb dX6_reads_4 (by decide) (fun c_4 => ?_) (fun c_4 => ?_)
  · obtain ⟨j, h_j, e_j⟩ := inR_nI c_4
    have x_j : ix x = j := by rw [e_j]; exact nI_clamp (by omega)
    have hl : lv_has ls 2 [(0, .ref (a 0)), (1, .int (nI (j)))] := by rw [← e_j]; exact hl
    refine lv_aload_n hx hb dX6_reads_17 rfl (lv_at hl 0 rfl) ?_
    refine va_get (D := D) (ci := 6) (v := .ref (a 8)) (C := RX6) (T := TX6) (N := 4) hx hb hts (fun _ h => List.mem_cons_of_mem _ (List.mem_append_left _ (List.mem_append_left _ (List.mem_append_left _ (List.mem_append_right _ h))))) hown hK hP 0 rfl rfl 1 (by decide) (hts (.fieldLink RX6 19 "SpreadParity" "now" "LSpreadParity$State;") (List.mem_of_getElem? (i := 3) rfl)) (fun _ h9 => h9) rfl dX6_reads_18 ?_
    refine lv_iload_n hx hb dX6_reads_21 rfl (lv_at hl 1 rfl) ?_
    refine q_cV (As := [.int (nI (j))]) (rest := []) ⟨hx, hb, hml, hown, hts⟩ (c_X5_readCount D cy a σ kept nxt cnt T len pos ph le nu va Z (j) (by omega)) (cwV 1 hts gX6_reads_X5_readCount rfl rfl rfl hd_X5_readCount ⟨Nat.le_of_ble_eq_true rfl, Nat.le_of_ble_eq_true rfl⟩) hK hP 8 rfl rfl rfl hl.1 rfl (Nat.le_of_ble_eq_true rfl) ⟨Nat.zero_le _, Nat.zero_le _⟩ dX6_reads_22 ?_
    have e_c : c1 x 7 = 0 := by rw [c1, if_pos c_4]
    exact q_iretX hx hb hr hlocks hw (Nat.le_of_ble_eq_true rfl) (Nat.le_of_ble_eq_true rfl) dX6_reads_25 e_c (by rw [x_j])
  · have e_c : c1 x 7 = 1 := by rw [c1, if_neg (by rw [c_4]; decide)]
    obtain ⟨sa, hsa⟩ := hN.2.2.2 (94, "there is no such disc") (by decide)
    exact vx_throwS (names := eNm) (A := A) (sa := sa) (text := "there is no such disc") hx hb hst hown eI_fit eNm_fit (hts (.classLink RX6 41 "java/lang/IndexOutOfBoundsException") (List.mem_of_getElem? (i := 1) rfl)) (hts (.initialized "java/lang/IndexOutOfBoundsException") (List.mem_of_getElem? (i := 2) rfl)) hsa (vx_hat (fun w h => hts w ((fun _ h => List.mem_cons_of_mem _ (List.mem_append_right _ h)) w h)) eI_bad (fun w h => va_Nw.use (xWd_on w (eI_wd w h)) (hN.2.2.1 w (eI_wd w h)))) eI_good hN.1 hN.2.1 hw.2.2 (hl.1.trans hml.symm) dX6_reads_7 dX6_reads_10 dX6_reads_11 dX6_reads_13 dX6_reads_16 (fun x h => (hexc x h).elim) (by decide) (by decide) (by decide) (by decide) hlocks (fun t _ hz hk => ⟨by rw [e_c]; decide, by rw [e_c] <;> rfl, wS.x hw hz hk⟩) hw.2.2.2.2 (by decide) (by decide)
set_option maxHeartbeats 1000000 in
set_option maxRecDepth 100000 in
theorem c_X6_writes {l : Launch} (hst : l.stackTraces = false) (D : va_G) (cy : ClassId) (A : Nat → Prop) (a : Nat → Nat) (σ kept : Nat → Int32) (nxt cnt : Nat) (T : Nat → Int32) (len pos : Nat) (ph le nu va : Int32) (Z : va_W) (x : Int32) : vx_Met l yX6_writes wsX6_writes ({ frames := 6, cells := 1, slots := 6, locals := 82 } : Room) (gX D cy [.ref (a 0), .int (x)] A (wX cy a σ kept nxt cnt T len pos ph le nu va ++ Z)) (xQ D A (c1 x 7) (some (.int (σ (77 + ix x)))) (wX cy a σ kept nxt cnt T len pos ph le nu va ++ Z)) (xX D A (fun _ => eI) (c1 x 7) (wX cy a σ kept nxt cnt T len pos ph le nu va ++ Z)) 1 6 A := by
  refine q_xmp (cc := cX6_writes) (maxL := 2) (ret := (some .int)) pl_X6 rfl (Nat.le_of_ble_eq_true rfl) ?_
  intro p e s m below meth c ls hx hb hr hml hts hown hlocks hw hK hA hl hexc hN
  have hP := hw.1
  have hl : lv_has ls 2 [(0, .ref (a 0)), (1, .int (x))] := hl
  refine lv_iload_n hx hb dX6_writes_0 rfl (lv_at hl 1 rfl) ?_
  refine q_cS (As := [.int (x)]) (rest := []) (w := []) ⟨hx, hb, hml, hown, hts⟩ (c_X6_isDisc D cy (x)) (va_cwS 1 hts gX6_writes_X6_isDisc rfl rfl rfl hd_X6_isDisc ⟨Nat.le_of_ble_eq_true rfl, Nat.le_of_ble_eq_true rfl⟩) hK q_Pnil rfl hl.1 rfl (Nat.le_of_ble_eq_true rfl) ⟨Nat.zero_le _, Nat.zero_le _⟩ dX6_writes_1 ?_
  refine q_ifneB (tgt := 17) hx hb dX6_writes_4 (by decide) (fun c_4 => ?_) (fun c_4 => ?_)
  · obtain ⟨j, h_j, e_j⟩ := inR_nI c_4
    have x_j : ix x = j := by rw [e_j]; exact nI_clamp (by omega)
    have hl : lv_has ls 2 [(0, .ref (a 0)), (1, .int (nI (j)))] := by rw [← e_j]; exact hl
    refine lv_aload_n hx hb dX6_writes_17 rfl (lv_at hl 0 rfl) ?_
    refine va_get (D := D) (ci := 6) (v := .ref (a 8)) (C := RX6) (T := TX6) (N := 4) hx hb hts (fun _ h => List.mem_cons_of_mem _ (List.mem_append_left _ (List.mem_append_left _ (List.mem_append_left _ (List.mem_append_right _ h))))) hown hK hP 0 rfl rfl 1 (by decide) (hts (.fieldLink RX6 19 "SpreadParity" "now" "LSpreadParity$State;") (List.mem_of_getElem? (i := 3) rfl)) (fun _ h9 => h9) rfl dX6_writes_18 ?_
    refine lv_iload_n hx hb dX6_writes_21 rfl (lv_at hl 1 rfl) ?_
    refine q_cV (As := [.int (nI (j))]) (rest := []) ⟨hx, hb, hml, hown, hts⟩ (c_X5_writeCount D cy a σ kept nxt cnt T len pos ph le nu va Z (j) (by omega)) (cwV 1 hts gX6_writes_X5_writeCount rfl rfl rfl hd_X5_writeCount ⟨Nat.le_of_ble_eq_true rfl, Nat.le_of_ble_eq_true rfl⟩) hK hP 8 rfl rfl rfl hl.1 rfl (Nat.le_of_ble_eq_true rfl) ⟨Nat.zero_le _, Nat.zero_le _⟩ dX6_writes_22 ?_
    have e_c : c1 x 7 = 0 := by rw [c1, if_pos c_4]
    exact q_iretX hx hb hr hlocks hw (Nat.le_of_ble_eq_true rfl) (Nat.le_of_ble_eq_true rfl) dX6_writes_25 e_c (by rw [x_j])
  · have e_c : c1 x 7 = 1 := by rw [c1, if_neg (by rw [c_4]; decide)]
    obtain ⟨sa, hsa⟩ := hN.2.2.2 (94, "there is no such disc") (by decide)
    exact vx_throwS (names := eNm) (A := A) (sa := sa) (text := "there is no such disc") hx hb hst hown eI_fit eNm_fit (hts (.classLink RX6 41 "java/lang/IndexOutOfBoundsException") (List.mem_of_getElem? (i := 1) rfl)) (hts (.initialized "java/lang/IndexOutOfBoundsException") (List.mem_of_getElem? (i := 2) rfl)) hsa (vx_hat (fun w h => hts w ((fun _ h => List.mem_cons_of_mem _ (List.mem_append_right _ h)) w h)) eI_bad (fun w h => va_Nw.use (xWd_on w (eI_wd w h)) (hN.2.2.1 w (eI_wd w h)))) eI_good hN.1 hN.2.1 hw.2.2 (hl.1.trans hml.symm) dX6_writes_7 dX6_writes_10 dX6_writes_11 dX6_writes_13 dX6_writes_16 (fun x h => (hexc x h).elim) (by decide) (by decide) (by decide) (by decide) hlocks (fun t _ hz hk => ⟨by rw [e_c]; decide, by rw [e_c] <;> rfl, wS.x hw hz hk⟩) hw.2.2.2.2 (by decide) (by decide)
set_option maxHeartbeats 1000000 in
set_option maxRecDepth 100000 in
theorem c_X6_peek {l : Launch} (hst : l.stackTraces = false) (D : va_G) (cy : ClassId) (A : Nat → Prop) (a : Nat → Nat) (σ kept : Nat → Int32) (nxt cnt : Nat) (T : Nat → Int32) (len pos : Nat) (ph le nu va : Int32) (Z : va_W) (x : Int32) : vx_Met l yX6_peek wsX6_peek ({ frames := 6, cells := 1, slots := 6, locals := 109 } : Room) (gX D cy [.ref (a 0), .int (x)] A (wX cy a σ kept nxt cnt T len pos ph le nu va ++ Z)) (xQ D A (c1 x 42) (some (.int (kn σ (ad (ix x))))) (wX cy a σ kept nxt cnt T len pos ph le nu va ++ Z)) (xX D A (fun _ => eI) (c1 x 42) (wX cy a σ kept nxt cnt T len pos ph le nu va ++ Z)) 1 6 A := by
  refine q_xmp (cc := cX6_peek) (maxL := 2) (ret := (some .int)) pl_X6 rfl (Nat.le_of_ble_eq_true rfl) ?_
  intro p e s m below meth c ls hx hb hr hml hts hown hlocks hw hK hA hl hexc hN
  have hP := hw.1
  have hl : lv_has ls 2 [(0, .ref (a 0)), (1, .int (x))] := hl
  refine lv_iload_n hx hb dX6_peek_0 rfl (lv_at hl 1 rfl) ?_
  refine q_cS (As := [.int (x)]) (rest := []) (w := []) ⟨hx, hb, hml, hown, hts⟩ (c_X6_isAddress D cy (x)) (va_cwS 1 hts gX6_peek_X6_isAddress rfl rfl rfl hd_X6_isAddress ⟨Nat.le_of_ble_eq_true rfl, Nat.le_of_ble_eq_true rfl⟩) hK q_Pnil rfl hl.1 rfl (Nat.le_of_ble_eq_true rfl) ⟨Nat.zero_le _, Nat.zero_le _⟩ dX6_peek_1 ?_
  refine q_ifneB (tgt := 17) hx hb dX6_peek_4 (by decide) (fun c_4 => ?_) (fun c_4 => ?_)
  · obtain ⟨j, h_j, e_j⟩ := inR_nI c_4
    have x_j : ix x = j := by rw [e_j]; exact nI_clamp (by omega)
    have hl : lv_has ls 2 [(0, .ref (a 0)), (1, .int (nI (j)))] := by rw [← e_j]; exact hl
    refine lv_aload_n hx hb dX6_peek_17 rfl (lv_at hl 0 rfl) ?_
    refine lv_aload_n hx hb dX6_peek_18 rfl (lv_at hl 0 rfl) ?_
    refine va_get (D := D) (ci := 6) (v := .ref (a 1)) (C := RX6) (T := TX6) (N := 4) hx hb hts (fun _ h => List.mem_cons_of_mem _ (List.mem_append_left _ (List.mem_append_left _ (List.mem_append_left _ (List.mem_append_left _ (List.mem_append_right _ h)))))) hown hK hP 0 rfl rfl 0 (by decide) (hts (.fieldLink RX6 10 "SpreadParity" "layout" "LSpreadParity$Layout;") (List.mem_of_getElem? (i := 3) rfl)) (fun _ h9 => h9) rfl dX6_peek_19 ?_
    refine lv_iload_n hx hb dX6_peek_22 rfl (lv_at hl 1 rfl) ?_
    refine q_cV (As := [.int (nI (j))]) (rest := [.ref (a 0)]) ⟨hx, hb, hml, hown, hts⟩ (c_X1_spotOfAddress D cy a σ kept nxt cnt T len pos ph le nu va Z (j) (by omega)) (cwV 1 hts gX6_peek_X1_spotOfAddress rfl rfl rfl hd_X1_spotOfAddress ⟨Nat.le_of_ble_eq_true rfl, Nat.le_of_ble_eq_true rfl⟩) hK hP 1 rfl rfl rfl hl.1 rfl (Nat.le_of_ble_eq_true rfl) ⟨Nat.zero_le _, Nat.zero_le _⟩ dX6_peek_23 ?_
    refine q_cV (As := [.int (nI (ad j))]) (rest := []) ⟨hx, hb, hml, hown, hts⟩ (c_X6_knownValue D cy a σ kept nxt cnt T len pos ph le nu va Z (ad j) (ad_lt h_j)) (cwV 1 hts gX6_peek_X6_knownValue rfl rfl rfl hd_X6_knownValue ⟨Nat.le_of_ble_eq_true rfl, Nat.le_of_ble_eq_true rfl⟩) hK hP 0 rfl rfl rfl hl.1 rfl (Nat.le_of_ble_eq_true rfl) ⟨Nat.zero_le _, Nat.zero_le _⟩ dX6_peek_26 ?_
    have e_c : c1 x 42 = 0 := by rw [c1, if_pos c_4]
    exact q_iretX hx hb hr hlocks hw (Nat.le_of_ble_eq_true rfl) (Nat.le_of_ble_eq_true rfl) dX6_peek_29 e_c (by rw [x_j])
  · have e_c : c1 x 42 = 1 := by rw [c1, if_neg (by rw [c_4]; decide)]
    obtain ⟨sa, hsa⟩ := hN.2.2.2 (43, "there is no such address") (by decide)
    exact vx_throwS (names := eNm) (A := A) (sa := sa) (text := "there is no such address") hx hb hst hown eI_fit eNm_fit (hts (.classLink RX6 41 "java/lang/IndexOutOfBoundsException") (List.mem_of_getElem? (i := 1) rfl)) (hts (.initialized "java/lang/IndexOutOfBoundsException") (List.mem_of_getElem? (i := 2) rfl)) hsa (vx_hat (fun w h => hts w ((fun _ h => List.mem_cons_of_mem _ (List.mem_append_right _ h)) w h)) eI_bad (fun w h => va_Nw.use (xWd_on w (eI_wd w h)) (hN.2.2.1 w (eI_wd w h)))) eI_good hN.1 hN.2.1 hw.2.2 (hl.1.trans hml.symm) dX6_peek_7 dX6_peek_10 dX6_peek_11 dX6_peek_13 dX6_peek_16 (fun x h => (hexc x h).elim) (by decide) (by decide) (by decide) (by decide) hlocks (fun t _ hz hk => ⟨by rw [e_c]; decide, by rw [e_c] <;> rfl, wS.x hw hz hk⟩) hw.2.2.2.2 (by decide) (by decide)
set_option maxHeartbeats 1000000 in
set_option maxRecDepth 100000 in
theorem c_X6_lostIfFailed {l : Launch} (hst : l.stackTraces = false) (D : va_G) (cy : ClassId) (A : Nat → Prop) (a : Nat → Nat) (σ kept : Nat → Int32) (nxt cnt : Nat) (T : Nat → Int32) (len pos : Nat) (ph le nu va : Int32) (Z : va_W) (x : Int32) : vx_Met l yX6_lostIfFailed wsX6_lostIfFailed ({ frames := 6, cells := 1, slots := 6, locals := 111 } : Room) (gX D cy [.ref (a 0), .int (x)] A (wX cy a σ kept nxt cnt T len pos ph le nu va ++ Z)) (xQ D A (c1 x 7) (some (.int (nI (cl (failS σ (ix x)))))) (wX cy a σ kept nxt cnt T len pos ph le nu va ++ Z)) (xX D A (fun _ => eI) (c1 x 7) (wX cy a σ kept nxt cnt T len pos ph le nu va ++ Z)) 1 6 A := by
  refine q_xmp (cc := cX6_lostIfFailed) (maxL := 2) (ret := (some .int)) pl_X6 rfl (Nat.le_of_ble_eq_true rfl) ?_
  intro p e s m below meth c ls hx hb hr hml hts hown hlocks hw hK hA hl hexc hN
  have hP := hw.1
  have hl : lv_has ls 2 [(0, .ref (a 0)), (1, .int (x))] := hl
  refine lv_iload_n hx hb dX6_lostIfFailed_0 rfl (lv_at hl 1 rfl) ?_
  refine q_cS (As := [.int (x)]) (rest := []) (w := []) ⟨hx, hb, hml, hown, hts⟩ (c_X6_isDisc D cy (x)) (va_cwS 1 hts gX6_lostIfFailed_X6_isDisc rfl rfl rfl hd_X6_isDisc ⟨Nat.le_of_ble_eq_true rfl, Nat.le_of_ble_eq_true rfl⟩) hK q_Pnil rfl hl.1 rfl (Nat.le_of_ble_eq_true rfl) ⟨Nat.zero_le _, Nat.zero_le _⟩ dX6_lostIfFailed_1 ?_
  refine q_ifneB (tgt := 17) hx hb dX6_lostIfFailed_4 (by decide) (fun c_4 => ?_) (fun c_4 => ?_)
  · obtain ⟨j, h_j, e_j⟩ := inR_nI c_4
    have x_j : ix x = j := by rw [e_j]; exact nI_clamp (by omega)
    have hl : lv_has ls 2 [(0, .ref (a 0)), (1, .int (nI (j)))] := by rw [← e_j]; exact hl
    refine lv_aload_n hx hb dX6_lostIfFailed_17 rfl (lv_at hl 0 rfl) ?_
    refine lv_iload_n hx hb dX6_lostIfFailed_18 rfl (lv_at hl 1 rfl) ?_
    refine q_cV (As := [.int (nI (j))]) (rest := []) ⟨hx, hb, hml, hown, hts⟩ (c_X6_countLost D cy a σ kept nxt cnt T len pos ph le nu va Z (failS σ j) (nI (j)) (Wo_fail σ h_j)) (cwV 1 hts gX6_lostIfFailed_X6_countLost rfl rfl rfl hd_X6_countLost ⟨Nat.le_of_ble_eq_true rfl, Nat.le_of_ble_eq_true rfl⟩) hK hP 0 rfl rfl rfl hl.1 rfl (Nat.le_of_ble_eq_true rfl) ⟨Nat.zero_le _, Nat.zero_le _⟩ dX6_lostIfFailed_19 ?_
    have e_c : c1 x 7 = 0 := by rw [c1, if_pos c_4]
    exact q_iretX hx hb hr hlocks hw (Nat.le_of_ble_eq_true rfl) (Nat.le_of_ble_eq_true rfl) dX6_lostIfFailed_22 e_c (by rw [x_j])
  · have e_c : c1 x 7 = 1 := by rw [c1, if_neg (by rw [c_4]; decide)]
    obtain ⟨sa, hsa⟩ := hN.2.2.2 (94, "there is no such disc") (by decide)
    exact vx_throwS (names := eNm) (A := A) (sa := sa) (text := "there is no such disc") hx hb hst hown eI_fit eNm_fit (hts (.classLink RX6 41 "java/lang/IndexOutOfBoundsException") (List.mem_of_getElem? (i := 1) rfl)) (hts (.initialized "java/lang/IndexOutOfBoundsException") (List.mem_of_getElem? (i := 2) rfl)) hsa (vx_hat (fun w h => hts w ((fun _ h => List.mem_cons_of_mem _ (List.mem_append_right _ h)) w h)) eI_bad (fun w h => va_Nw.use (xWd_on w (eI_wd w h)) (hN.2.2.1 w (eI_wd w h)))) eI_good hN.1 hN.2.1 hw.2.2 (hl.1.trans hml.symm) dX6_lostIfFailed_7 dX6_lostIfFailed_10 dX6_lostIfFailed_11 dX6_lostIfFailed_13 dX6_lostIfFailed_16 (fun x h => (hexc x h).elim) (by decide) (by decide) (by decide) (by decide) hlocks (fun t _ hz hk => ⟨by rw [e_c]; decide, by rw [e_c] <;> rfl, wS.x hw hz hk⟩) hw.2.2.2.2 (by decide) (by decide)
set_option maxHeartbeats 1000000 in
set_option maxRecDepth 100000 in
theorem c_X6_member {l : Launch} (hst : l.stackTraces = false) (D : va_G) (cy : ClassId) (A : Nat → Prop) (a : Nat → Nat) (σ kept : Nat → Int32) (nxt cnt : Nat) (T : Nat → Int32) (len pos : Nat) (ph le nu va : Int32) (Z : va_W) (x : Int32) (y : Int32) : vx_Met l yX6_member wsX6_member ({ frames := 6, cells := 1, slots := 6, locals := 82 } : Room) (gX D cy [.ref (a 0), .int (x), .int (y)] A (wX cy a σ kept nxt cnt T len pos ph le nu va ++ Z)) (xQ D A (c2 x 21 y 3) (some (.int (nI (mem (ix x) (ix y))))) (wX cy a σ kept nxt cnt T len pos ph le nu va ++ Z)) (xX D A (fun _ => eI) (c2 x 21 y 3) (wX cy a σ kept nxt cnt T len pos ph le nu va ++ Z)) 1 6 A := by
  refine q_xmp (cc := cX6_member) (maxL := 3) (ret := (some .int)) pl_X6 rfl (Nat.le_of_ble_eq_true rfl) ?_
  intro p e s m below meth c ls hx hb hr hml hts hown hlocks hw hK hA hl hexc hN
  have hP := hw.1
  have hl : lv_has ls 3 [(0, .ref (a 0)), (1, .int (x)), (2, .int (y))] := hl
  refine lv_iload_n hx hb dX6_member_0 rfl (lv_at hl 1 rfl) ?_
  refine q_cS (As := [.int (x)]) (rest := []) (w := []) ⟨hx, hb, hml, hown, hts⟩ (c_X6_isStripe D cy (x)) (va_cwS 1 hts gX6_member_X6_isStripe rfl rfl rfl hd_X6_isStripe ⟨Nat.le_of_ble_eq_true rfl, Nat.le_of_ble_eq_true rfl⟩) hK q_Pnil rfl hl.1 rfl (Nat.le_of_ble_eq_true rfl) ⟨Nat.zero_le _, Nat.zero_le _⟩ dX6_member_1 ?_
  refine q_ifeqB (tgt := 14) hx hb dX6_member_4 (by decide) (fun c_4 => ?_) (fun c_4 => ?_)
  · have e_c : c2 x 21 y 3 = 1 := by rw [c2, if_neg (by rw [c_4]; simp)]
    obtain ⟨sa, hsa⟩ := hN.2.2.2 (159, "there is no such stripe or member") (by decide)
    exact vx_throwS (names := eNm) (A := A) (sa := sa) (text := "there is no such stripe or member") hx hb hst hown eI_fit eNm_fit (hts (.classLink RX6 41 "java/lang/IndexOutOfBoundsException") (List.mem_of_getElem? (i := 1) rfl)) (hts (.initialized "java/lang/IndexOutOfBoundsException") (List.mem_of_getElem? (i := 2) rfl)) hsa (vx_hat (fun w h => hts w ((fun _ h => List.mem_cons_of_mem _ (List.mem_append_right _ h)) w h)) eI_bad (fun w h => va_Nw.use (xWd_on w (eI_wd w h)) (hN.2.2.1 w (eI_wd w h)))) eI_good hN.1 hN.2.1 hw.2.2 (hl.1.trans hml.symm) dX6_member_14 dX6_member_17 dX6_member_18 dX6_member_20 dX6_member_23 (fun x h => (hexc x h).elim) (by decide) (by decide) (by decide) (by decide) hlocks (fun t _ hz hk => ⟨by rw [e_c]; decide, by rw [e_c] <;> rfl, wS.x hw hz hk⟩) hw.2.2.2.2 (by decide) (by decide)
  · refine lv_iload_n hx hb dX6_member_7 rfl (lv_at hl 2 rfl) ?_
    refine q_cS (As := [.int (y)]) (rest := []) (w := []) ⟨hx, hb, hml, hown, hts⟩ (c_X6_isWithinStripe D cy (y)) (va_cwS 1 hts gX6_member_X6_isWithinStripe rfl rfl rfl hd_X6_isWithinStripe ⟨Nat.le_of_ble_eq_true rfl, Nat.le_of_ble_eq_true rfl⟩) hK q_Pnil rfl hl.1 rfl (Nat.le_of_ble_eq_true rfl) ⟨Nat.zero_le _, Nat.zero_le _⟩ dX6_member_8 ?_
    refine q_ifneB (tgt := 24) hx hb dX6_member_11 (by decide) (fun c_11 => ?_) (fun c_11 => ?_)
    · obtain ⟨i, h_i, e_i⟩ := inR_nI c_4
      have x_i : ix x = i := by rw [e_i]; exact nI_clamp (by omega)
      have hl : lv_has ls 3 [(0, .ref (a 0)), (1, .int (nI (i))), (2, .int (y))] := by rw [← e_i]; exact hl
      obtain ⟨j, h_j, e_j⟩ := inR_nI c_11
      have x_j : ix y = j := by rw [e_j]; exact nI_clamp (by omega)
      have hl : lv_has ls 3 [(0, .ref (a 0)), (1, .int (nI (i))), (2, .int (nI (j)))] := by rw [← e_j]; exact hl
      refine lv_iload_n hx hb dX6_member_24 rfl (lv_at hl 1 rfl) ?_
      refine lv_iload_n hx hb dX6_member_25 rfl (lv_at hl 2 rfl) ?_
      refine q_cS (As := [.int (nI (i)), .int (nI (j))]) (rest := []) (w := []) ⟨hx, hb, hml, hown, hts⟩ (c_X1_discOfMember D cy (i) (j) (by omega) (by omega)) (va_cwS 2 hts gX6_member_X1_discOfMember rfl rfl rfl hd_X1_discOfMember ⟨Nat.le_of_ble_eq_true rfl, Nat.le_of_ble_eq_true rfl⟩) hK q_Pnil rfl hl.1 rfl (Nat.le_of_ble_eq_true rfl) ⟨Nat.zero_le _, Nat.zero_le _⟩ dX6_member_26 ?_
      have e_c : c2 x 21 y 3 = 0 := by rw [c2, if_pos (by rw [c_4, c_11]; rfl)]
      exact q_iretX hx hb hr hlocks hw (Nat.le_of_ble_eq_true rfl) (Nat.le_of_ble_eq_true rfl) dX6_member_29 e_c (by rw [x_i, x_j])
    · have e_c : c2 x 21 y 3 = 1 := by rw [c2, if_neg (by rw [c_11]; simp)]
      obtain ⟨sa, hsa⟩ := hN.2.2.2 (159, "there is no such stripe or member") (by decide)
      exact vx_throwS (names := eNm) (A := A) (sa := sa) (text := "there is no such stripe or member") hx hb hst hown eI_fit eNm_fit (hts (.classLink RX6 41 "java/lang/IndexOutOfBoundsException") (List.mem_of_getElem? (i := 1) rfl)) (hts (.initialized "java/lang/IndexOutOfBoundsException") (List.mem_of_getElem? (i := 2) rfl)) hsa (vx_hat (fun w h => hts w ((fun _ h => List.mem_cons_of_mem _ (List.mem_append_right _ h)) w h)) eI_bad (fun w h => va_Nw.use (xWd_on w (eI_wd w h)) (hN.2.2.1 w (eI_wd w h)))) eI_good hN.1 hN.2.1 hw.2.2 (hl.1.trans hml.symm) dX6_member_14 dX6_member_17 dX6_member_18 dX6_member_20 dX6_member_23 (fun x h => (hexc x h).elim) (by decide) (by decide) (by decide) (by decide) hlocks (fun t _ hz hk => ⟨by rw [e_c]; decide, by rw [e_c] <;> rfl, wS.x hw hz hk⟩) hw.2.2.2.2 (by decide) (by decide)
set_option maxHeartbeats 1000000 in
set_option maxRecDepth 100000 in
theorem c_X6_stripeAt {l : Launch} (hst : l.stackTraces = false) (D : va_G) (cy : ClassId) (A : Nat → Prop) (a : Nat → Nat) (σ kept : Nat → Int32) (nxt cnt : Nat) (T : Nat → Int32) (len pos : Nat) (ph le nu va : Int32) (Z : va_W) (x : Int32) (y : Int32) : vx_Met l yX6_stripeAt wsX6_stripeAt ({ frames := 6, cells := 1, slots := 6, locals := 82 } : Room) (gX D cy [.ref (a 0), .int (x), .int (y)] A (wX cy a σ kept nxt cnt T len pos ph le nu va ++ Z)) (xQ D A (c2 x 7 y 9) (some (.int (nI (stT (9 * ix x + ix y))))) (wX cy a σ kept nxt cnt T len pos ph le nu va ++ Z)) (xX D A (fun _ => eI) (c2 x 7 y 9) (wX cy a σ kept nxt cnt T len pos ph le nu va ++ Z)) 1 6 A := by
  refine q_xmp (cc := cX6_stripeAt) (maxL := 3) (ret := (some .int)) pl_X6 rfl (Nat.le_of_ble_eq_true rfl) ?_
  intro p e s m below meth c ls hx hb hr hml hts hown hlocks hw hK hA hl hexc hN
  have hP := hw.1
  have hl : lv_has ls 3 [(0, .ref (a 0)), (1, .int (x)), (2, .int (y))] := hl
  refine lv_iload_n hx hb dX6_stripeAt_0 rfl (lv_at hl 1 rfl) ?_
  refine q_cS (As := [.int (x)]) (rest := []) (w := []) ⟨hx, hb, hml, hown, hts⟩ (c_X6_isDisc D cy (x)) (va_cwS 1 hts gX6_stripeAt_X6_isDisc rfl rfl rfl hd_X6_isDisc ⟨Nat.le_of_ble_eq_true rfl, Nat.le_of_ble_eq_true rfl⟩) hK q_Pnil rfl hl.1 rfl (Nat.le_of_ble_eq_true rfl) ⟨Nat.zero_le _, Nat.zero_le _⟩ dX6_stripeAt_1 ?_
  refine q_ifeqB (tgt := 14) hx hb dX6_stripeAt_4 (by decide) (fun c_4 => ?_) (fun c_4 => ?_)
  · have e_c : c2 x 7 y 9 = 1 := by rw [c2, if_neg (by rw [c_4]; simp)]
    obtain ⟨sa, hsa⟩ := hN.2.2.2 (133, "there is no such disc or place") (by decide)
    exact vx_throwS (names := eNm) (A := A) (sa := sa) (text := "there is no such disc or place") hx hb hst hown eI_fit eNm_fit (hts (.classLink RX6 41 "java/lang/IndexOutOfBoundsException") (List.mem_of_getElem? (i := 1) rfl)) (hts (.initialized "java/lang/IndexOutOfBoundsException") (List.mem_of_getElem? (i := 2) rfl)) hsa (vx_hat (fun w h => hts w ((fun _ h => List.mem_cons_of_mem _ (List.mem_append_right _ h)) w h)) eI_bad (fun w h => va_Nw.use (xWd_on w (eI_wd w h)) (hN.2.2.1 w (eI_wd w h)))) eI_good hN.1 hN.2.1 hw.2.2 (hl.1.trans hml.symm) dX6_stripeAt_14 dX6_stripeAt_17 dX6_stripeAt_18 dX6_stripeAt_20 dX6_stripeAt_23 (fun x h => (hexc x h).elim) (by decide) (by decide) (by decide) (by decide) hlocks (fun t _ hz hk => ⟨by rw [e_c]; decide, by rw [e_c] <;> rfl, wS.x hw hz hk⟩) hw.2.2.2.2 (by decide) (by decide)
  · refine lv_iload_n hx hb dX6_stripeAt_7 rfl (lv_at hl 2 rfl) ?_
    refine q_cS (As := [.int (y)]) (rest := []) (w := []) ⟨hx, hb, hml, hown, hts⟩ (c_X6_isPlace D cy (y)) (va_cwS 1 hts gX6_stripeAt_X6_isPlace rfl rfl rfl hd_X6_isPlace ⟨Nat.le_of_ble_eq_true rfl, Nat.le_of_ble_eq_true rfl⟩) hK q_Pnil rfl hl.1 rfl (Nat.le_of_ble_eq_true rfl) ⟨Nat.zero_le _, Nat.zero_le _⟩ dX6_stripeAt_8 ?_
    refine q_ifneB (tgt := 24) hx hb dX6_stripeAt_11 (by decide) (fun c_11 => ?_) (fun c_11 => ?_)
    · obtain ⟨i, h_i, e_i⟩ := inR_nI c_4
      have x_i : ix x = i := by rw [e_i]; exact nI_clamp (by omega)
      have hl : lv_has ls 3 [(0, .ref (a 0)), (1, .int (nI (i))), (2, .int (y))] := by rw [← e_i]; exact hl
      obtain ⟨j, h_j, e_j⟩ := inR_nI c_11
      have x_j : ix y = j := by rw [e_j]; exact nI_clamp (by omega)
      have hl : lv_has ls 3 [(0, .ref (a 0)), (1, .int (nI (i))), (2, .int (nI (j)))] := by rw [← e_j]; exact hl
      refine lv_aload_n hx hb dX6_stripeAt_24 rfl (lv_at hl 0 rfl) ?_
      refine va_get (D := D) (ci := 6) (v := .ref (a 1)) (C := RX6) (T := TX6) (N := 4) hx hb hts (fun _ h => List.mem_cons_of_mem _ (List.mem_append_left _ (List.mem_append_left _ (List.mem_append_left _ (List.mem_append_right _ h))))) hown hK hP 0 rfl rfl 0 (by decide) (hts (.fieldLink RX6 10 "SpreadParity" "layout" "LSpreadParity$Layout;") (List.mem_of_getElem? (i := 3) rfl)) (fun _ h9 => h9) rfl dX6_stripeAt_25 ?_
      refine lv_iload_n hx hb dX6_stripeAt_28 rfl (lv_at hl 1 rfl) ?_
      refine lv_iload_n hx hb dX6_stripeAt_29 rfl (lv_at hl 2 rfl) ?_
      refine q_cS (As := [.int (nI (i)), .int (nI (j))]) (rest := [.ref (a 1)]) (w := []) ⟨hx, hb, hml, hown, hts⟩ (c_X1_spotAt D cy (i) (j)) (va_cwS 2 hts gX6_stripeAt_X1_spotAt rfl rfl rfl hd_X1_spotAt ⟨Nat.le_of_ble_eq_true rfl, Nat.le_of_ble_eq_true rfl⟩) hK q_Pnil rfl hl.1 rfl (Nat.le_of_ble_eq_true rfl) ⟨Nat.zero_le _, Nat.zero_le _⟩ dX6_stripeAt_30 ?_
      refine q_cV (As := [.int (nI (9 * i + j))]) (rest := []) ⟨hx, hb, hml, hown, hts⟩ (c_X1_stripeOfSpot D cy a σ kept nxt cnt T len pos ph le nu va Z (9 * i + j) (by omega)) (cwV 1 hts gX6_stripeAt_X1_stripeOfSpot rfl rfl rfl hd_X1_stripeOfSpot ⟨Nat.le_of_ble_eq_true rfl, Nat.le_of_ble_eq_true rfl⟩) hK hP 1 rfl rfl rfl hl.1 rfl (Nat.le_of_ble_eq_true rfl) ⟨Nat.zero_le _, Nat.zero_le _⟩ dX6_stripeAt_33 ?_
      have e_c : c2 x 7 y 9 = 0 := by rw [c2, if_pos (by rw [c_4, c_11]; rfl)]
      exact q_iretX hx hb hr hlocks hw (Nat.le_of_ble_eq_true rfl) (Nat.le_of_ble_eq_true rfl) dX6_stripeAt_36 e_c (by rw [x_i, x_j])
    · have e_c : c2 x 7 y 9 = 1 := by rw [c2, if_neg (by rw [c_11]; simp)]
      obtain ⟨sa, hsa⟩ := hN.2.2.2 (133, "there is no such disc or place") (by decide)
      exact vx_throwS (names := eNm) (A := A) (sa := sa) (text := "there is no such disc or place") hx hb hst hown eI_fit eNm_fit (hts (.classLink RX6 41 "java/lang/IndexOutOfBoundsException") (List.mem_of_getElem? (i := 1) rfl)) (hts (.initialized "java/lang/IndexOutOfBoundsException") (List.mem_of_getElem? (i := 2) rfl)) hsa (vx_hat (fun w h => hts w ((fun _ h => List.mem_cons_of_mem _ (List.mem_append_right _ h)) w h)) eI_bad (fun w h => va_Nw.use (xWd_on w (eI_wd w h)) (hN.2.2.1 w (eI_wd w h)))) eI_good hN.1 hN.2.1 hw.2.2 (hl.1.trans hml.symm) dX6_stripeAt_14 dX6_stripeAt_17 dX6_stripeAt_18 dX6_stripeAt_20 dX6_stripeAt_23 (fun x h => (hexc x h).elim) (by decide) (by decide) (by decide) (by decide) hlocks (fun t _ hz hk => ⟨by rw [e_c]; decide, by rw [e_c] <;> rfl, wS.x hw hz hk⟩) hw.2.2.2.2 (by decide) (by decide)
set_option maxHeartbeats 1000000 in
set_option maxRecDepth 100000 in
theorem c_X6_unit {l : Launch} (hst : l.stackTraces = false) (D : va_G) (cy : ClassId) (A : Nat → Prop) (a : Nat → Nat) (σ kept : Nat → Int32) (nxt cnt : Nat) (T : Nat → Int32) (len pos : Nat) (ph le nu va : Int32) (Z : va_W) (x : Int32) (y : Int32) : vx_Met l yX6_unit wsX6_unit ({ frames := 6, cells := 1, slots := 6, locals := 82 } : Room) (gX D cy [.ref (a 0), .int (x), .int (y)] A (wX cy a σ kept nxt cnt T len pos ph le nu va ++ Z)) (xQ D A (c2 x 7 y 9) (some (.int (vis σ (9 * ix x + ix y)))) (wX cy a σ kept nxt cnt T len pos ph le nu va ++ Z)) (xX D A (fun _ => eI) (c2 x 7 y 9) (wX cy a σ kept nxt cnt T len pos ph le nu va ++ Z)) 1 6 A := by
  refine q_xmp (cc := cX6_unit) (maxL := 3) (ret := (some .int)) pl_X6 rfl (Nat.le_of_ble_eq_true rfl) ?_
  intro p e s m below meth c ls hx hb hr hml hts hown hlocks hw hK hA hl hexc hN
  have hP := hw.1
  have hl : lv_has ls 3 [(0, .ref (a 0)), (1, .int (x)), (2, .int (y))] := hl
  refine lv_iload_n hx hb dX6_unit_0 rfl (lv_at hl 1 rfl) ?_
  refine q_cS (As := [.int (x)]) (rest := []) (w := []) ⟨hx, hb, hml, hown, hts⟩ (c_X6_isDisc D cy (x)) (va_cwS 1 hts gX6_unit_X6_isDisc rfl rfl rfl hd_X6_isDisc ⟨Nat.le_of_ble_eq_true rfl, Nat.le_of_ble_eq_true rfl⟩) hK q_Pnil rfl hl.1 rfl (Nat.le_of_ble_eq_true rfl) ⟨Nat.zero_le _, Nat.zero_le _⟩ dX6_unit_1 ?_
  refine q_ifeqB (tgt := 14) hx hb dX6_unit_4 (by decide) (fun c_4 => ?_) (fun c_4 => ?_)
  · have e_c : c2 x 7 y 9 = 1 := by rw [c2, if_neg (by rw [c_4]; simp)]
    obtain ⟨sa, hsa⟩ := hN.2.2.2 (133, "there is no such disc or place") (by decide)
    exact vx_throwS (names := eNm) (A := A) (sa := sa) (text := "there is no such disc or place") hx hb hst hown eI_fit eNm_fit (hts (.classLink RX6 41 "java/lang/IndexOutOfBoundsException") (List.mem_of_getElem? (i := 1) rfl)) (hts (.initialized "java/lang/IndexOutOfBoundsException") (List.mem_of_getElem? (i := 2) rfl)) hsa (vx_hat (fun w h => hts w ((fun _ h => List.mem_cons_of_mem _ (List.mem_append_right _ h)) w h)) eI_bad (fun w h => va_Nw.use (xWd_on w (eI_wd w h)) (hN.2.2.1 w (eI_wd w h)))) eI_good hN.1 hN.2.1 hw.2.2 (hl.1.trans hml.symm) dX6_unit_14 dX6_unit_17 dX6_unit_18 dX6_unit_20 dX6_unit_23 (fun x h => (hexc x h).elim) (by decide) (by decide) (by decide) (by decide) hlocks (fun t _ hz hk => ⟨by rw [e_c]; decide, by rw [e_c] <;> rfl, wS.x hw hz hk⟩) hw.2.2.2.2 (by decide) (by decide)
  · refine lv_iload_n hx hb dX6_unit_7 rfl (lv_at hl 2 rfl) ?_
    refine q_cS (As := [.int (y)]) (rest := []) (w := []) ⟨hx, hb, hml, hown, hts⟩ (c_X6_isPlace D cy (y)) (va_cwS 1 hts gX6_unit_X6_isPlace rfl rfl rfl hd_X6_isPlace ⟨Nat.le_of_ble_eq_true rfl, Nat.le_of_ble_eq_true rfl⟩) hK q_Pnil rfl hl.1 rfl (Nat.le_of_ble_eq_true rfl) ⟨Nat.zero_le _, Nat.zero_le _⟩ dX6_unit_8 ?_
    refine q_ifneB (tgt := 24) hx hb dX6_unit_11 (by decide) (fun c_11 => ?_) (fun c_11 => ?_)
    · obtain ⟨i, h_i, e_i⟩ := inR_nI c_4
      have x_i : ix x = i := by rw [e_i]; exact nI_clamp (by omega)
      have hl : lv_has ls 3 [(0, .ref (a 0)), (1, .int (nI (i))), (2, .int (y))] := by rw [← e_i]; exact hl
      obtain ⟨j, h_j, e_j⟩ := inR_nI c_11
      have x_j : ix y = j := by rw [e_j]; exact nI_clamp (by omega)
      have hl : lv_has ls 3 [(0, .ref (a 0)), (1, .int (nI (i))), (2, .int (nI (j)))] := by rw [← e_j]; exact hl
      refine lv_aload_n hx hb dX6_unit_24 rfl (lv_at hl 0 rfl) ?_
      refine lv_iload_n hx hb dX6_unit_25 rfl (lv_at hl 1 rfl) ?_
      refine lv_iload_n hx hb dX6_unit_26 rfl (lv_at hl 2 rfl) ?_
      refine q_cS (As := [.int (nI (i)), .int (nI (j))]) (rest := [.ref (a 0)]) (w := []) ⟨hx, hb, hml, hown, hts⟩ (c_X1_spotAt D cy (i) (j)) (va_cwS 2 hts gX6_unit_X1_spotAt rfl rfl rfl hd_X1_spotAt ⟨Nat.le_of_ble_eq_true rfl, Nat.le_of_ble_eq_true rfl⟩) hK q_Pnil rfl hl.1 rfl (Nat.le_of_ble_eq_true rfl) ⟨Nat.zero_le _, Nat.zero_le _⟩ dX6_unit_27 ?_
      refine q_cV (As := [.int (nI (9 * i + j))]) (rest := []) ⟨hx, hb, hml, hown, hts⟩ (c_X6_visibleValue D cy a σ kept nxt cnt T len pos ph le nu va Z (9 * i + j) (by omega)) (cwV 1 hts gX6_unit_X6_visibleValue rfl rfl rfl hd_X6_visibleValue ⟨Nat.le_of_ble_eq_true rfl, Nat.le_of_ble_eq_true rfl⟩) hK hP 0 rfl rfl rfl hl.1 rfl (Nat.le_of_ble_eq_true rfl) ⟨Nat.zero_le _, Nat.zero_le _⟩ dX6_unit_30 ?_
      have e_c : c2 x 7 y 9 = 0 := by rw [c2, if_pos (by rw [c_4, c_11]; rfl)]
      exact q_iretX hx hb hr hlocks hw (Nat.le_of_ble_eq_true rfl) (Nat.le_of_ble_eq_true rfl) dX6_unit_33 e_c (by rw [x_i, x_j])
    · have e_c : c2 x 7 y 9 = 1 := by rw [c2, if_neg (by rw [c_11]; simp)]
      obtain ⟨sa, hsa⟩ := hN.2.2.2 (133, "there is no such disc or place") (by decide)
      exact vx_throwS (names := eNm) (A := A) (sa := sa) (text := "there is no such disc or place") hx hb hst hown eI_fit eNm_fit (hts (.classLink RX6 41 "java/lang/IndexOutOfBoundsException") (List.mem_of_getElem? (i := 1) rfl)) (hts (.initialized "java/lang/IndexOutOfBoundsException") (List.mem_of_getElem? (i := 2) rfl)) hsa (vx_hat (fun w h => hts w ((fun _ h => List.mem_cons_of_mem _ (List.mem_append_right _ h)) w h)) eI_bad (fun w h => va_Nw.use (xWd_on w (eI_wd w h)) (hN.2.2.1 w (eI_wd w h)))) eI_good hN.1 hN.2.1 hw.2.2 (hl.1.trans hml.symm) dX6_unit_14 dX6_unit_17 dX6_unit_18 dX6_unit_20 dX6_unit_23 (fun x h => (hexc x h).elim) (by decide) (by decide) (by decide) (by decide) hlocks (fun t _ hz hk => ⟨by rw [e_c]; decide, by rw [e_c] <;> rfl, wS.x hw hz hk⟩) hw.2.2.2.2 (by decide) (by decide)
set_option maxHeartbeats 1000000 in
set_option maxRecDepth 100000 in
theorem c_X6_place {l : Launch} (hst : l.stackTraces = false) (D : va_G) (cy : ClassId) (A : Nat → Prop) (a : Nat → Nat) (σ kept : Nat → Int32) (nxt cnt : Nat) (T : Nat → Int32) (len pos : Nat) (ph le nu va : Int32) (Z : va_W) (x : Int32) (y : Int32) : vx_Met l yX6_place wsX6_place ({ frames := 6, cells := 1, slots := 6, locals := 82 } : Room) (gX D cy [.ref (a 0), .int (x), .int (y)] A (wX cy a σ kept nxt cnt T len pos ph le nu va ++ Z)) (xQ D A (c2 x 21 y 3) (some (.int (nI (10 * (spT (3 * ix x + ix y) / 9) + spT (3 * ix x + ix y) % 9)))) (wX cy a σ kept nxt cnt T len pos ph le nu va ++ Z)) (xX D A (fun _ => eI) (c2 x 21 y 3) (wX cy a σ kept nxt cnt T len pos ph le nu va ++ Z)) 1 6 A := by
  refine q_xmp (cc := cX6_place) (maxL := 4) (ret := (some .int)) pl_X6 rfl (Nat.le_of_ble_eq_true rfl) ?_
  intro p e s m below meth c ls hx hb hr hml hts hown hlocks hw hK hA hl hexc hN
  have hP := hw.1
  have hl : lv_has ls 4 [(0, .ref (a 0)), (1, .int (x)), (2, .int (y))] := hl
  refine lv_iload_n hx hb dX6_place_0 rfl (lv_at hl 1 rfl) ?_
  refine q_cS (As := [.int (x)]) (rest := []) (w := []) ⟨hx, hb, hml, hown, hts⟩ (c_X6_isStripe D cy (x)) (va_cwS 1 hts gX6_place_X6_isStripe rfl rfl rfl hd_X6_isStripe ⟨Nat.le_of_ble_eq_true rfl, Nat.le_of_ble_eq_true rfl⟩) hK q_Pnil rfl hl.1 rfl (Nat.le_of_ble_eq_true rfl) ⟨Nat.zero_le _, Nat.zero_le _⟩ dX6_place_1 ?_
  refine q_ifeqB (tgt := 14) hx hb dX6_place_4 (by decide) (fun c_4 => ?_) (fun c_4 => ?_)
  · have e_c : c2 x 21 y 3 = 1 := by rw [c2, if_neg (by rw [c_4]; simp)]
    obtain ⟨sa, hsa⟩ := hN.2.2.2 (167, "there is no such stripe or unit") (by decide)
    exact vx_throwS (names := eNm) (A := A) (sa := sa) (text := "there is no such stripe or unit") hx hb hst hown eI_fit eNm_fit (hts (.classLink RX6 41 "java/lang/IndexOutOfBoundsException") (List.mem_of_getElem? (i := 1) rfl)) (hts (.initialized "java/lang/IndexOutOfBoundsException") (List.mem_of_getElem? (i := 2) rfl)) hsa (vx_hat (fun w h => hts w ((fun _ h => List.mem_cons_of_mem _ (List.mem_append_right _ h)) w h)) eI_bad (fun w h => va_Nw.use (xWd_on w (eI_wd w h)) (hN.2.2.1 w (eI_wd w h)))) eI_good hN.1 hN.2.1 hw.2.2 (hl.1.trans hml.symm) dX6_place_14 dX6_place_17 dX6_place_18 dX6_place_20 dX6_place_23 (fun x h => (hexc x h).elim) (by decide) (by decide) (by decide) (by decide) hlocks (fun t _ hz hk => ⟨by rw [e_c]; decide, by rw [e_c] <;> rfl, wS.x hw hz hk⟩) hw.2.2.2.2 (by decide) (by decide)
  · refine lv_iload_n hx hb dX6_place_7 rfl (lv_at hl 2 rfl) ?_
    refine q_cS (As := [.int (y)]) (rest := []) (w := []) ⟨hx, hb, hml, hown, hts⟩ (c_X6_isWithinStripe D cy (y)) (va_cwS 1 hts gX6_place_X6_isWithinStripe rfl rfl rfl hd_X6_isWithinStripe ⟨Nat.le_of_ble_eq_true rfl, Nat.le_of_ble_eq_true rfl⟩) hK q_Pnil rfl hl.1 rfl (Nat.le_of_ble_eq_true rfl) ⟨Nat.zero_le _, Nat.zero_le _⟩ dX6_place_8 ?_
    refine q_ifneB (tgt := 24) hx hb dX6_place_11 (by decide) (fun c_11 => ?_) (fun c_11 => ?_)
    · obtain ⟨i, h_i, e_i⟩ := inR_nI c_4
      have x_i : ix x = i := by rw [e_i]; exact nI_clamp (by omega)
      have hl : lv_has ls 4 [(0, .ref (a 0)), (1, .int (nI (i))), (2, .int (y))] := by rw [← e_i]; exact hl
      obtain ⟨j, h_j, e_j⟩ := inR_nI c_11
      have x_j : ix y = j := by rw [e_j]; exact nI_clamp (by omega)
      have hl : lv_has ls 4 [(0, .ref (a 0)), (1, .int (nI (i))), (2, .int (nI (j)))] := by rw [← e_j]; exact hl
      refine lv_aload_n hx hb dX6_place_24 rfl (lv_at hl 0 rfl) ?_
      refine va_get (D := D) (ci := 6) (v := .ref (a 1)) (C := RX6) (T := TX6) (N := 4) hx hb hts (fun _ h => List.mem_cons_of_mem _ (List.mem_append_left _ (List.mem_append_left _ (List.mem_append_left _ (List.mem_append_right _ h))))) hown hK hP 0 rfl rfl 0 (by decide) (hts (.fieldLink RX6 10 "SpreadParity" "layout" "LSpreadParity$Layout;") (List.mem_of_getElem? (i := 3) rfl)) (fun _ h9 => h9) rfl dX6_place_25 ?_
      refine lv_iload_n hx hb dX6_place_28 rfl (lv_at hl 1 rfl) ?_
      refine lv_iload_n hx hb dX6_place_29 rfl (lv_at hl 2 rfl) ?_
      refine q_cV (As := [.int (nI (i)), .int (nI (j))]) (rest := []) ⟨hx, hb, hml, hown, hts⟩ (c_X1_spotOf D cy a σ kept nxt cnt T len pos ph le nu va Z (i) (j) (by omega) (by omega)) (cwV 2 hts gX6_place_X1_spotOf rfl rfl rfl hd_X1_spotOf ⟨Nat.le_of_ble_eq_true rfl, Nat.le_of_ble_eq_true rfl⟩) hK hP 1 rfl rfl rfl hl.1 rfl (Nat.le_of_ble_eq_true rfl) ⟨Nat.zero_le _, Nat.zero_le _⟩ dX6_place_30 ?_
      refine lv_istore_n (lv' := [(3, .int (nI (spT (3 * i + j)))), (0, .ref (a 0)), (1, .int (nI (i))), (2, .int (nI (j)))]) hx hb dX6_place_33 rfl hl (by decide) rfl (fun ls hl => ?_)
      refine lv_bipush (v := nI 10) hx hb dX6_place_34 rfl ?_
      refine lv_iload_n hx hb dX6_place_36 rfl (lv_at hl 0 rfl) ?_
      refine q_cS (As := [.int (nI (spT (3 * i + j)))]) (rest := [.int (nI (10))]) (w := []) ⟨hx, hb, hml, hown, hts⟩ (c_X1_discOfSpot D cy (spT (3 * i + j)) (by have h9 := @sp_lt i j h_i h_j; omega)) (va_cwS 1 hts gX6_place_X1_discOfSpot rfl rfl rfl hd_X1_discOfSpot ⟨Nat.le_of_ble_eq_true rfl, Nat.le_of_ble_eq_true rfl⟩) hK q_Pnil rfl hl.1 rfl (Nat.le_of_ble_eq_true rfl) ⟨Nat.zero_le _, Nat.zero_le _⟩ dX6_place_37 ?_
      refine q_mulN hx hb dX6_place_40 ?_
      refine lv_iload_n hx hb dX6_place_41 rfl (lv_at hl 0 rfl) ?_
      refine q_cS (As := [.int (nI (spT (3 * i + j)))]) (rest := [.int (nI (10 * ((spT (3 * i + j)) / 9)))]) (w := []) ⟨hx, hb, hml, hown, hts⟩ (c_X1_placeOfSpot D cy (spT (3 * i + j)) (by have h9 := @sp_lt i j h_i h_j; omega)) (va_cwS 1 hts gX6_place_X1_placeOfSpot rfl rfl rfl hd_X1_placeOfSpot ⟨Nat.le_of_ble_eq_true rfl, Nat.le_of_ble_eq_true rfl⟩) hK q_Pnil rfl hl.1 rfl (Nat.le_of_ble_eq_true rfl) ⟨Nat.zero_le _, Nat.zero_le _⟩ dX6_place_42 ?_
      refine q_addN hx hb dX6_place_45 ?_
      have e_c : c2 x 21 y 3 = 0 := by rw [c2, if_pos (by rw [c_4, c_11]; rfl)]
      exact q_iretX hx hb hr hlocks hw (Nat.le_of_ble_eq_true rfl) (Nat.le_of_ble_eq_true rfl) dX6_place_46 e_c (by rw [x_i, x_j])
    · have e_c : c2 x 21 y 3 = 1 := by rw [c2, if_neg (by rw [c_11]; simp)]
      obtain ⟨sa, hsa⟩ := hN.2.2.2 (167, "there is no such stripe or unit") (by decide)
      exact vx_throwS (names := eNm) (A := A) (sa := sa) (text := "there is no such stripe or unit") hx hb hst hown eI_fit eNm_fit (hts (.classLink RX6 41 "java/lang/IndexOutOfBoundsException") (List.mem_of_getElem? (i := 1) rfl)) (hts (.initialized "java/lang/IndexOutOfBoundsException") (List.mem_of_getElem? (i := 2) rfl)) hsa (vx_hat (fun w h => hts w ((fun _ h => List.mem_cons_of_mem _ (List.mem_append_right _ h)) w h)) eI_bad (fun w h => va_Nw.use (xWd_on w (eI_wd w h)) (hN.2.2.1 w (eI_wd w h)))) eI_good hN.1 hN.2.1 hw.2.2 (hl.1.trans hml.symm) dX6_place_14 dX6_place_17 dX6_place_18 dX6_place_20 dX6_place_23 (fun x h => (hexc x h).elim) (by decide) (by decide) (by decide) (by decide) hlocks (fun t _ hz hk => ⟨by rw [e_c]; decide, by rw [e_c] <;> rfl, wS.x hw hz hk⟩) hw.2.2.2.2 (by decide) (by decide)
set_option maxHeartbeats 1000000 in
set_option maxRecDepth 100000 in
theorem c_X6_loadOf {l : Launch} (hst : l.stackTraces = false) (D : va_G) (cy : ClassId) (A : Nat → Prop) (a : Nat → Nat) (σ kept : Nat → Int32) (nxt cnt : Nat) (T : Nat → Int32) (len pos : Nat) (ph le nu va : Int32) (Z : va_W) (x : Int32) (y : Int32) : vx_Met l yX6_loadOf wsX6_loadOf ({ frames := 6, cells := 1, slots := 6, locals := 82 } : Room) (gX D cy [.ref (a 0), .int (x), .int (y)] A (wX cy a σ kept nxt cnt T len pos ph le nu va ++ Z)) (xQ D A (c2 x 7 y 7) (some (.int (nI (if ix x = ix y then 0 else both (ix x) (ix y))))) (wX cy a σ kept nxt cnt T len pos ph le nu va ++ Z)) (xX D A (fun _ => eI) (c2 x 7 y 7) (wX cy a σ kept nxt cnt T len pos ph le nu va ++ Z)) 1 6 A := by
  refine q_xmp (cc := cX6_loadOf) (maxL := 3) (ret := (some .int)) pl_X6 rfl (Nat.le_of_ble_eq_true rfl) ?_
  intro p e s m below meth c ls hx hb hr hml hts hown hlocks hw hK hA hl hexc hN
  have hP := hw.1
  have hl : lv_has ls 3 [(0, .ref (a 0)), (1, .int (x)), (2, .int (y))] := hl
  refine lv_iload_n hx hb dX6_loadOf_0 rfl (lv_at hl 1 rfl) ?_
  refine q_cS (As := [.int (x)]) (rest := []) (w := []) ⟨hx, hb, hml, hown, hts⟩ (c_X6_isDisc D cy (x)) (va_cwS 1 hts gX6_loadOf_X6_isDisc rfl rfl rfl hd_X6_isDisc ⟨Nat.le_of_ble_eq_true rfl, Nat.le_of_ble_eq_true rfl⟩) hK q_Pnil rfl hl.1 rfl (Nat.le_of_ble_eq_true rfl) ⟨Nat.zero_le _, Nat.zero_le _⟩ dX6_loadOf_1 ?_
  refine q_ifeqB (tgt := 14) hx hb dX6_loadOf_4 (by decide) (fun c_4 => ?_) (fun c_4 => ?_)
  · have e_c : c2 x 7 y 7 = 1 := by rw [c2, if_neg (by rw [c_4]; simp)]
    obtain ⟨sa, hsa⟩ := hN.2.2.2 (94, "there is no such disc") (by decide)
    exact vx_throwS (names := eNm) (A := A) (sa := sa) (text := "there is no such disc") hx hb hst hown eI_fit eNm_fit (hts (.classLink RX6 41 "java/lang/IndexOutOfBoundsException") (List.mem_of_getElem? (i := 1) rfl)) (hts (.initialized "java/lang/IndexOutOfBoundsException") (List.mem_of_getElem? (i := 2) rfl)) hsa (vx_hat (fun w h => hts w ((fun _ h => List.mem_cons_of_mem _ (List.mem_append_right _ h)) w h)) eI_bad (fun w h => va_Nw.use (xWd_on w (eI_wd w h)) (hN.2.2.1 w (eI_wd w h)))) eI_good hN.1 hN.2.1 hw.2.2 (hl.1.trans hml.symm) dX6_loadOf_14 dX6_loadOf_17 dX6_loadOf_18 dX6_loadOf_20 dX6_loadOf_23 (fun x h => (hexc x h).elim) (by decide) (by decide) (by decide) (by decide) hlocks (fun t _ hz hk => ⟨by rw [e_c]; decide, by rw [e_c] <;> rfl, wS.x hw hz hk⟩) hw.2.2.2.2 (by decide) (by decide)
  · refine lv_iload_n hx hb dX6_loadOf_7 rfl (lv_at hl 2 rfl) ?_
    refine q_cS (As := [.int (y)]) (rest := []) (w := []) ⟨hx, hb, hml, hown, hts⟩ (c_X6_isDisc D cy (y)) (va_cwS 1 hts gX6_loadOf_X6_isDisc rfl rfl rfl hd_X6_isDisc ⟨Nat.le_of_ble_eq_true rfl, Nat.le_of_ble_eq_true rfl⟩) hK q_Pnil rfl hl.1 rfl (Nat.le_of_ble_eq_true rfl) ⟨Nat.zero_le _, Nat.zero_le _⟩ dX6_loadOf_8 ?_
    refine q_ifneB (tgt := 24) hx hb dX6_loadOf_11 (by decide) (fun c_11 => ?_) (fun c_11 => ?_)
    · obtain ⟨i, h_i, e_i⟩ := inR_nI c_4
      have x_i : ix x = i := by rw [e_i]; exact nI_clamp (by omega)
      have hl : lv_has ls 3 [(0, .ref (a 0)), (1, .int (nI (i))), (2, .int (y))] := by rw [← e_i]; exact hl
      obtain ⟨j, h_j, e_j⟩ := inR_nI c_11
      have x_j : ix y = j := by rw [e_j]; exact nI_clamp (by omega)
      have hl : lv_has ls 3 [(0, .ref (a 0)), (1, .int (nI (i))), (2, .int (nI (j)))] := by rw [← e_j]; exact hl
      refine lv_iload_n hx hb dX6_loadOf_24 rfl (lv_at hl 1 rfl) ?_
      refine lv_iload_n hx hb dX6_loadOf_25 rfl (lv_at hl 2 rfl) ?_
      refine q_neN (tgt := 33) hx hb dX6_loadOf_26 (by decide) (by omega) (by omega) (fun c_26 => ?_) (fun c_26 => ?_)
      · refine lv_aload_n hx hb dX6_loadOf_33 rfl (lv_at hl 0 rfl) ?_
        refine va_get (D := D) (ci := 6) (v := .ref (a 1)) (C := RX6) (T := TX6) (N := 4) hx hb hts (fun _ h => List.mem_cons_of_mem _ (List.mem_append_left _ (List.mem_append_right _ h))) hown hK hP 0 rfl rfl 0 (by decide) (hts (.fieldLink RX6 10 "SpreadParity" "layout" "LSpreadParity$Layout;") (List.mem_of_getElem? (i := 3) rfl)) (fun _ h9 => h9) rfl dX6_loadOf_34 ?_
        refine lv_iload_n hx hb dX6_loadOf_37 rfl (lv_at hl 1 rfl) ?_
        refine lv_iload_n hx hb dX6_loadOf_38 rfl (lv_at hl 2 rfl) ?_
        refine q_cV (As := [.int (nI (i)), .int (nI (j))]) (rest := []) ⟨hx, hb, hml, hown, hts⟩ (c_X1_stripesOnBoth D cy a σ kept nxt cnt T len pos ph le nu va Z (i) (j) (by omega) (by omega)) (cwV 2 hts gX6_loadOf_X1_stripesOnBoth rfl rfl rfl hd_X1_stripesOnBoth ⟨Nat.le_of_ble_eq_true rfl, Nat.le_of_ble_eq_true rfl⟩) hK hP 1 rfl rfl rfl hl.1 rfl (Nat.le_of_ble_eq_true rfl) ⟨Nat.zero_le _, Nat.zero_le _⟩ dX6_loadOf_39 ?_
        have e_c : c2 x 7 y 7 = 0 := by rw [c2, if_pos (by rw [c_4, c_11]; rfl)]
        exact q_iretX hx hb hr hlocks hw (Nat.le_of_ble_eq_true rfl) (Nat.le_of_ble_eq_true rfl) dX6_loadOf_42 e_c (by rw [x_i, x_j, if_neg c_26])
      · refine lv_iconst (v := nI 0) hx hb dX6_loadOf_29 rfl ?_
        refine lv_goto (tgt := 42) hx hb dX6_loadOf_30 (by decide) ?_
        have e_c : c2 x 7 y 7 = 0 := by rw [c2, if_pos (by rw [c_4, c_11]; rfl)]
        exact q_iretX hx hb hr hlocks hw (Nat.le_of_ble_eq_true rfl) (Nat.le_of_ble_eq_true rfl) dX6_loadOf_42 e_c (by rw [x_i, x_j, if_pos c_26])
    · have e_c : c2 x 7 y 7 = 1 := by rw [c2, if_neg (by rw [c_11]; simp)]
      obtain ⟨sa, hsa⟩ := hN.2.2.2 (94, "there is no such disc") (by decide)
      exact vx_throwS (names := eNm) (A := A) (sa := sa) (text := "there is no such disc") hx hb hst hown eI_fit eNm_fit (hts (.classLink RX6 41 "java/lang/IndexOutOfBoundsException") (List.mem_of_getElem? (i := 1) rfl)) (hts (.initialized "java/lang/IndexOutOfBoundsException") (List.mem_of_getElem? (i := 2) rfl)) hsa (vx_hat (fun w h => hts w ((fun _ h => List.mem_cons_of_mem _ (List.mem_append_right _ h)) w h)) eI_bad (fun w h => va_Nw.use (xWd_on w (eI_wd w h)) (hN.2.2.1 w (eI_wd w h)))) eI_good hN.1 hN.2.1 hw.2.2 (hl.1.trans hml.symm) dX6_loadOf_14 dX6_loadOf_17 dX6_loadOf_18 dX6_loadOf_20 dX6_loadOf_23 (fun x h => (hexc x h).elim) (by decide) (by decide) (by decide) (by decide) hlocks (fun t _ hz hk => ⟨by rw [e_c]; decide, by rw [e_c] <;> rfl, wS.x hw hz hk⟩) hw.2.2.2.2 (by decide) (by decide)

