set_option maxHeartbeats 1000000 in
set_option maxRecDepth 100000 in
theorem c_X6_lost {l : Launch} (D : va_G) (cy : ClassId) (a : Nat → Nat) (σ kept : Nat → Int32) (nxt cnt : Nat) (T : Nat → Int32) (len pos : Nat) (ph le nu va : Int32) (Z : va_W) : Met l yX6_lost wsX6_lost (k2_rm 5 111) (gR D cy [.ref (a 0)] (wX cy a σ kept nxt cnt T len pos ph le nu va ++ Z)) (k2_QcV (.int (nI (cl σ)))) 0 0 (fun _ => False) := by
  refine q_pure (cc := cX6_lost) (maxL := 1) (ret := (some .int)) pl_X6 rfl (Nat.le_of_ble_eq_true rfl) ?_
  intro p e s m below meth c ls hx hb hr hml hts hown hlocks hP hK hl
  have hl : lv_has ls 1 [(0, .ref (a 0))] := hl
  refine lv_aload_n hx hb dX6_lost_0 rfl (lv_at hl 0 rfl) ?_
  refine lv_iconst (v := -1) hx hb dX6_lost_1 rfl ?_
  refine q_cV (As := [.int (-1)]) (rest := []) ⟨hx, hb, hml, hown, hts⟩ (c_X6_countLost D cy a σ kept nxt cnt T len pos ph le nu va Z (σ) (-1) (Wo_none _)) (cwV 1 hts gX6_lost_X6_countLost rfl rfl rfl hd_X6_countLost ⟨Nat.le_of_ble_eq_true rfl, Nat.le_of_ble_eq_true rfl⟩) hK hP 0 rfl rfl rfl hl.1 rfl (Nat.le_of_ble_eq_true rfl) ⟨Nat.zero_le _, Nat.zero_le _⟩ dX6_lost_2 ?_
  exact q_iret hx hb hr hlocks dX6_lost_5 (rfl)
set_option maxHeartbeats 1000000 in
set_option maxRecDepth 100000 in
theorem c_X6_wrong {l : Launch} (D : va_G) (cy : ClassId) (a : Nat → Nat) (σ kept : Nat → Int32) (nxt cnt : Nat) (T : Nat → Int32) (len pos : Nat) (ph le nu va : Int32) (Z : va_W) : Met l yX6_wrong wsX6_wrong (k2_rm 5 111) (gR D cy [.ref (a 0)] (wX cy a σ kept nxt cnt T len pos ph le nu va ++ Z)) (k2_QcV (.int (nI (cw σ)))) 0 0 (fun _ => False) := by
  refine q_pure (cc := cX6_wrong) (maxL := 1) (ret := (some .int)) pl_X6 rfl (Nat.le_of_ble_eq_true rfl) ?_
  intro p e s m below meth c ls hx hb hr hml hts hown hlocks hP hK hl
  have hl : lv_has ls 1 [(0, .ref (a 0))] := hl
  refine lv_aload_n hx hb dX6_wrong_0 rfl (lv_at hl 0 rfl) ?_
  refine q_cV (As := []) (rest := []) ⟨hx, hb, hml, hown, hts⟩ (c_X6_countWrong D cy a σ kept nxt cnt T len pos ph le nu va Z ) (cwV 0 hts gX6_wrong_X6_countWrong rfl rfl rfl hd_X6_countWrong ⟨Nat.le_of_ble_eq_true rfl, Nat.le_of_ble_eq_true rfl⟩) hK hP 0 rfl rfl rfl hl.1 rfl (Nat.le_of_ble_eq_true rfl) ⟨Nat.zero_le _, Nat.zero_le _⟩ dX6_wrong_1 ?_
  exact q_iret hx hb hr hlocks dX6_wrong_4 (rfl)
set_option maxHeartbeats 1000000 in
set_option maxRecDepth 100000 in
theorem c_X6_spares {l : Launch} (D : va_G) (cy : ClassId) (a : Nat → Nat) (σ kept : Nat → Int32) (nxt cnt : Nat) (T : Nat → Int32) (len pos : Nat) (ph le nu va : Int32) (Z : va_W) : Met l yX6_spares wsX6_spares (k2_rm 2 41) (gR D cy [.ref (a 0)] (wX cy a σ kept nxt cnt T len pos ph le nu va ++ Z)) (k2_QcV (.int (σ 84))) 0 0 (fun _ => False) := by
  refine q_pure (cc := cX6_spares) (maxL := 1) (ret := (some .int)) pl_X6 rfl (Nat.le_of_ble_eq_true rfl) ?_
  intro p e s m below meth c ls hx hb hr hml hts hown hlocks hP hK hl
  have hl : lv_has ls 1 [(0, .ref (a 0))] := hl
  refine lv_aload_n hx hb dX6_spares_0 rfl (lv_at hl 0 rfl) ?_
  refine va_get (D := D) (ci := 6) (v := .ref (a 8)) (C := RX6) (T := TX6) (N := 4) hx hb hts (fun _ h => List.mem_cons_of_mem _ (List.mem_append_left _ (List.mem_append_left _ (List.mem_append_right _ h)))) hown hK hP 0 rfl rfl 1 (by decide) (hts (.fieldLink RX6 19 "SpreadParity" "now" "LSpreadParity$State;") (List.mem_of_getElem? (i := 1) rfl)) (fun _ h9 => h9) rfl dX6_spares_1 ?_
  refine q_cV (As := []) (rest := []) ⟨hx, hb, hml, hown, hts⟩ (c_X5_spareDiscs D cy a σ kept nxt cnt T len pos ph le nu va Z ) (cwV 0 hts gX6_spares_X5_spareDiscs rfl rfl rfl hd_X5_spareDiscs ⟨Nat.le_of_ble_eq_true rfl, Nat.le_of_ble_eq_true rfl⟩) hK hP 8 rfl rfl rfl hl.1 rfl (Nat.le_of_ble_eq_true rfl) ⟨Nat.zero_le _, Nat.zero_le _⟩ dX6_spares_4 ?_
  exact q_iret hx hb hr hlocks dX6_spares_7 (rfl)
set_option maxHeartbeats 1000000 in
set_option maxRecDepth 100000 in
theorem c_X6_losses {l : Launch} (D : va_G) (cy : ClassId) (a : Nat → Nat) (σ kept : Nat → Int32) (nxt cnt : Nat) (T : Nat → Int32) (len pos : Nat) (ph le nu va : Int32) (Z : va_W) : Met l yX6_losses wsX6_losses (k2_rm 2 41) (gR D cy [.ref (a 0)] (wX cy a σ kept nxt cnt T len pos ph le nu va ++ Z)) (k2_QcV (.int (σ 85))) 0 0 (fun _ => False) := by
  refine q_pure (cc := cX6_losses) (maxL := 1) (ret := (some .int)) pl_X6 rfl (Nat.le_of_ble_eq_true rfl) ?_
  intro p e s m below meth c ls hx hb hr hml hts hown hlocks hP hK hl
  have hl : lv_has ls 1 [(0, .ref (a 0))] := hl
  refine lv_aload_n hx hb dX6_losses_0 rfl (lv_at hl 0 rfl) ?_
  refine va_get (D := D) (ci := 6) (v := .ref (a 8)) (C := RX6) (T := TX6) (N := 4) hx hb hts (fun _ h => List.mem_cons_of_mem _ (List.mem_append_left _ (List.mem_append_left _ (List.mem_append_right _ h)))) hown hK hP 0 rfl rfl 1 (by decide) (hts (.fieldLink RX6 19 "SpreadParity" "now" "LSpreadParity$State;") (List.mem_of_getElem? (i := 1) rfl)) (fun _ h9 => h9) rfl dX6_losses_1 ?_
  refine q_cV (As := []) (rest := []) ⟨hx, hb, hml, hown, hts⟩ (c_X5_lossCount D cy a σ kept nxt cnt T len pos ph le nu va Z ) (cwV 0 hts gX6_losses_X5_lossCount rfl rfl rfl hd_X5_lossCount ⟨Nat.le_of_ble_eq_true rfl, Nat.le_of_ble_eq_true rfl⟩) hK hP 8 rfl rfl rfl hl.1 rfl (Nat.le_of_ble_eq_true rfl) ⟨Nat.zero_le _, Nat.zero_le _⟩ dX6_losses_4 ?_
  exact q_iret hx hb hr hlocks dX6_losses_7 (rfl)
set_option maxHeartbeats 1000000 in
set_option maxRecDepth 100000 in
theorem c_X6_worst {l : Launch} (D : va_G) (cy : ClassId) (a : Nat → Nat) (σ kept : Nat → Int32) (nxt cnt : Nat) (T : Nat → Int32) (len pos : Nat) (ph le nu va : Int32) (Z : va_W) : Met l yX6_worst wsX6_worst (k2_rm 6 135) (gR D cy [.ref (a 0)] (wX cy a σ kept nxt cnt T len pos ph le nu va ++ Z)) (k2_QcV (.int ((wst σ 7).1))) 0 0 (fun _ => False) := by
  refine q_pure (cc := cX6_worst) (maxL := 1) (ret := (some .int)) pl_X6 rfl (Nat.le_of_ble_eq_true rfl) ?_
  intro p e s m below meth c ls hx hb hr hml hts hown hlocks hP hK hl
  have hl : lv_has ls 1 [(0, .ref (a 0))] := hl
  refine lv_aload_n hx hb dX6_worst_0 rfl (lv_at hl 0 rfl) ?_
  refine q_cV (As := []) (rest := []) ⟨hx, hb, hml, hown, hts⟩ (c_X6_findWorst D cy a σ kept nxt cnt T len pos ph le nu va Z ) (cwV 0 hts gX6_worst_X6_findWorst rfl rfl rfl hd_X6_findWorst ⟨Nat.le_of_ble_eq_true rfl, Nat.le_of_ble_eq_true rfl⟩) hK hP 0 rfl rfl rfl hl.1 rfl (Nat.le_of_ble_eq_true rfl) ⟨Nat.zero_le _, Nat.zero_le _⟩ dX6_worst_1 ?_
  exact q_iret hx hb hr hlocks dX6_worst_4 (rfl)
