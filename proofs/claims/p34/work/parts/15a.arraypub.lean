set_option maxHeartbeats 1000000 in
set_option maxRecDepth 100000 in
theorem c_X6_scrub {l : Launch} (D : va_G) (cy : ClassId) (A : Nat → Prop) (a : Nat → Nat) (σ kept : Nat → Int32) (nxt cnt : Nat) (T : Nat → Int32) (len pos : Nat) (ph le nu va : Int32) (Z : va_W) (h_0 : nxt < 6) (h_1 : cnt ≤ 6) : Met l yX6_scrub wsX6_scrub (k2_rm 5 110) (gP D cy [.ref (a 0)] A (wX cy a σ kept nxt cnt T len pos ph le nu va ++ Z)) (gQ D A (some (.int (nI (scC σ 21)))) (wX cy a (scS σ 21) (cpK kept σ (nxt * 86) 86) ((nxt + 1) % 6) (min (cnt + 1) 6) T len pos ph le nu va ++ Z)) 0 0 A := by
  refine q_imp (cc := cX6_scrub) (maxL := 1) (ret := (some .int)) pl_X6 rfl (Nat.le_of_ble_eq_true rfl) ?_
  intro p e s m below meth c ls hx hb hr hml hts hown hlocks hw hK hA hl
  have hP := hw.1
  have hl : lv_has ls 1 [(0, .ref (a 0))] := hl
  refine lv_aload_n hx hb dX6_scrub_0 rfl (lv_at hl 0 rfl) ?_
  refine va_get (D := D) (ci := 6) (v := .ref (a 11)) (C := RX6) (T := TX6) (N := 4) hx hb hts (fun _ h => List.mem_cons_of_mem _ (List.mem_append_left _ (List.mem_append_left _ (List.mem_append_left _ (List.mem_append_left _ (List.mem_append_right _ h)))))) hown hK hP 0 rfl rfl 2 (by decide) (hts (.fieldLink RX6 26 "SpreadParity" "history" "LSpreadParity$History;") (List.mem_of_getElem? (i := 1) rfl)) (fun _ h9 => h9) rfl dX6_scrub_1 ?_
  refine lv_aload_n hx hb dX6_scrub_4 rfl (lv_at hl 0 rfl) ?_
  refine va_get (D := D) (ci := 6) (v := .ref (a 8)) (C := RX6) (T := TX6) (N := 4) hx hb hts (fun _ h => List.mem_cons_of_mem _ (List.mem_append_left _ (List.mem_append_left _ (List.mem_append_left _ (List.mem_append_left _ (List.mem_append_right _ h)))))) hown hK hP 0 rfl rfl 1 (by decide) (hts (.fieldLink RX6 19 "SpreadParity" "now" "LSpreadParity$State;") (List.mem_of_getElem? (i := 2) rfl)) (fun _ h9 => h9) rfl dX6_scrub_5 ?_
  refine q_wV0 (As := [.ref (a 8)]) (rest := []) (st1 := []) ⟨hx, hb, hml, hown, hts⟩ (c_X0_keep D cy A a σ kept nxt cnt T len pos ph le nu va Z (by omega) (by omega)) (cwV 1 hts gX6_scrub_X0_keep rfl rfl rfl hd_X0_keep ⟨Nat.le_of_ble_eq_true rfl, Nat.le_of_ble_eq_true rfl⟩) hK hA hw 11 rfl rfl rfl hl.1 rfl rfl (Nat.le_of_ble_eq_true rfl) ⟨Nat.zero_le _, Nat.zero_le _⟩ dX6_scrub_8 (fun H locs hw => ?_)
  have hw : wS D A (wX cy a σ (cpK kept σ (nxt * 86) 86) ((nxt + 1) % 6) (min (cnt + 1) 6) T len pos ph le nu va ++ Z) s H locs := hw
  have hP := hw.1
  refine lv_aload_n hx hb dX6_scrub_11 rfl (lv_at hl 0 rfl) ?_
  refine q_wV0 (As := []) (rest := []) (st1 := [.int (nI (scC σ 21))]) ⟨hx, hb, hml, hown, hts⟩ (c_X6_scrubStripes D cy A a σ (cpK kept σ (nxt * 86) 86) ((nxt + 1) % 6) (min (cnt + 1) 6) T len pos ph le nu va Z ) (cwV 0 hts gX6_scrub_X6_scrubStripes rfl rfl rfl hd_X6_scrubStripes ⟨Nat.le_of_ble_eq_true rfl, Nat.le_of_ble_eq_true rfl⟩) hK hA hw 0 rfl rfl rfl hl.1 rfl rfl (Nat.le_of_ble_eq_true rfl) ⟨Nat.zero_le _, Nat.zero_le _⟩ dX6_scrub_12 (fun H locs hw => ?_)
  have hw : wS D A (wX cy a (scS σ 21) (cpK kept σ (nxt * 86) 86) ((nxt + 1) % 6) (min (cnt + 1) 6) T len pos ph le nu va ++ Z) s H locs := hw
  have hP := hw.1
  exact q_iretW hx hb hr hlocks hw dX6_scrub_15 (rfl)
