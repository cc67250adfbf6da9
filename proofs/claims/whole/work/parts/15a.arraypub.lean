def okO (σ : Nat → Int32) (lc : Nat) (o1 : Option Nat) : Bool := if lc = 119 then canW σ (gD o1) else if lc = 102 then decide (σ (63 + gD o1) ≠ -1) else if lc = 109 then (decide (σ (63 + gD o1) = -1) && decide (0 < σ 84)) else true
set_option maxHeartbeats 1000000 in
set_option maxRecDepth 100000 in
theorem c_X6_canObey_w {l : Launch} (D : va_G) (cy : ClassId) (a : Nat → Nat) (σ kept : Nat → Int32) (nxt cnt : Nat) (T : Nat → Int32) (len pos : Nat) (ph le nu va : Int32) (Z : va_W) (pp : Nat) (q v : Nat) (h_0 : q < 42) : Met l yX6_canObey wsX6_canObey (k2_rm 5 109) (gR D cy [.ref (a 0), .ref (a 17)] (wX cy a σ kept nxt cnt T len pos (nI (pp)) (nI (119)) (nI (q)) (nI (v)) ++ Z)) (k2_QcV (.int (bI (canW σ q)))) 0 0 (fun _ => False) := by
  refine q_pure (cc := cX6_canObey) (maxL := 2) (ret := (some .boolean)) pl_X6 rfl (Nat.le_of_ble_eq_true rfl) ?_
  intro p e s m below meth c ls hx hb hr hml hts hown hlocks hP hK hl
  have hl : lv_has ls 2 [(0, .ref (a 0)), (1, .ref (a 17))] := hl
  refine lv_aload_n hx hb dX6_canObey_0 rfl (lv_at hl 1 rfl) ?_
  refine q_cV (As := []) (rest := []) ⟨hx, hb, hml, hown, hts⟩ (c_X2_orderLetter D cy a σ kept nxt cnt T len pos (nI (pp)) (nI (119)) (nI (q)) (nI (v)) Z (pp) (119) (some q) (some v) ) (cwV 0 hts gX6_canObey_X2_orderLetter rfl rfl rfl hd_X2_orderLetter ⟨Nat.le_of_ble_eq_true rfl, Nat.le_of_ble_eq_true rfl⟩) hK hP 17 rfl rfl rfl hl.1 rfl (Nat.le_of_ble_eq_true rfl) ⟨Nat.zero_le _, Nat.zero_le _⟩ dX6_canObey_1 ?_
  have k_4 : 119 = 119 := by omega
  refine q_look (tgt := 40) (off := 36) hx hb dX6_canObey_4 (by decide) (by rw [k_4]; decide) (by omega) (by decide) ?_
  refine lv_aload_n hx hb dX6_canObey_40 rfl (lv_at hl 0 rfl) ?_
  refine lv_aload_n hx hb dX6_canObey_41 rfl (lv_at hl 1 rfl) ?_
  refine q_cV (As := []) (rest := [.ref (a 0)]) ⟨hx, hb, hml, hown, hts⟩ (c_X2_orderNumber D cy a σ kept nxt cnt T len pos (nI (pp)) (nI (119)) (nI (q)) (nI (v)) Z (pp) (119) (some q) (some v) ) (cwV 0 hts gX6_canObey_X2_orderNumber rfl rfl rfl hd_X2_orderNumber ⟨Nat.le_of_ble_eq_true rfl, Nat.le_of_ble_eq_true rfl⟩) hK hP 17 rfl rfl rfl hl.1 rfl (Nat.le_of_ble_eq_true rfl) ⟨Nat.zero_le _, Nat.zero_le _⟩ dX6_canObey_42 ?_
  refine q_top (show (nO (some q)) = nI (q) from rfl) ?_
  refine q_cV (As := [.int (nI (q))]) (rest := []) ⟨hx, hb, hml, hown, hts⟩ (c_X6_canStore D cy a σ kept nxt cnt T len pos (nI (pp)) (nI (119)) (nI (q)) (nI (v)) Z (q) (by omega)) (cwV 1 hts gX6_canObey_X6_canStore rfl rfl rfl hd_X6_canStore ⟨Nat.le_of_ble_eq_true rfl, Nat.le_of_ble_eq_true rfl⟩) hK hP 0 rfl rfl rfl hl.1 rfl (Nat.le_of_ble_eq_true rfl) ⟨Nat.zero_le _, Nat.zero_le _⟩ dX6_canObey_45 ?_
  exact q_zret hx hb hr hlocks dX6_canObey_48 (rfl)
set_option maxHeartbeats 1000000 in
set_option maxRecDepth 100000 in
theorem c_X6_canObey_f {l : Launch} (D : va_G) (cy : ClassId) (a : Nat → Nat) (σ kept : Nat → Int32) (nxt cnt : Nat) (T : Nat → Int32) (len pos : Nat) (ph le nu va : Int32) (Z : va_W) (pp : Nat) (d : Nat) (o2 : Option Nat) (h_0 : d < 7) : Met l yX6_canObey wsX6_canObey (k2_rm 5 109) (gR D cy [.ref (a 0), .ref (a 17)] (wX cy a σ kept nxt cnt T len pos (nI (pp)) (nI (102)) (nI (d)) (nO (o2)) ++ Z)) (k2_QcV (.int (bI (decide (σ (63 + d) ≠ -1))))) 0 0 (fun _ => False) := by
  refine q_pure (cc := cX6_canObey) (maxL := 2) (ret := (some .boolean)) pl_X6 rfl (Nat.le_of_ble_eq_true rfl) ?_
  intro p e s m below meth c ls hx hb hr hml hts hown hlocks hP hK hl
  have hl : lv_has ls 2 [(0, .ref (a 0)), (1, .ref (a 17))] := hl
  refine lv_aload_n hx hb dX6_canObey_0 rfl (lv_at hl 1 rfl) ?_
  refine q_cV (As := []) (rest := []) ⟨hx, hb, hml, hown, hts⟩ (c_X2_orderLetter D cy a σ kept nxt cnt T len pos (nI (pp)) (nI (102)) (nI (d)) (nO (o2)) Z (pp) (102) (some d) (o2) ) (cwV 0 hts gX6_canObey_X2_orderLetter rfl rfl rfl hd_X2_orderLetter ⟨Nat.le_of_ble_eq_true rfl, Nat.le_of_ble_eq_true rfl⟩) hK hP 17 rfl rfl rfl hl.1 rfl (Nat.le_of_ble_eq_true rfl) ⟨Nat.zero_le _, Nat.zero_le _⟩ dX6_canObey_1 ?_
  have k_4 : 102 = 102 := by omega
  refine q_look (tgt := 49) (off := 45) hx hb dX6_canObey_4 (by decide) (by rw [k_4]; decide) (by omega) (by decide) ?_
  refine lv_aload_n hx hb dX6_canObey_49 rfl (lv_at hl 0 rfl) ?_
  refine lv_aload_n hx hb dX6_canObey_50 rfl (lv_at hl 1 rfl) ?_
  refine q_cV (As := []) (rest := [.ref (a 0)]) ⟨hx, hb, hml, hown, hts⟩ (c_X2_orderNumber D cy a σ kept nxt cnt T len pos (nI (pp)) (nI (102)) (nI (d)) (nO (o2)) Z (pp) (102) (some d) (o2) ) (cwV 0 hts gX6_canObey_X2_orderNumber rfl rfl rfl hd_X2_orderNumber ⟨Nat.le_of_ble_eq_true rfl, Nat.le_of_ble_eq_true rfl⟩) hK hP 17 rfl rfl rfl hl.1 rfl (Nat.le_of_ble_eq_true rfl) ⟨Nat.zero_le _, Nat.zero_le _⟩ dX6_canObey_51 ?_
  refine q_top (show (nO (some d)) = nI (d) from rfl) ?_
  refine q_cV (As := [.int (nI (d))]) (rest := []) ⟨hx, hb, hml, hown, hts⟩ (c_X6_canDrop D cy a σ kept nxt cnt T len pos (nI (pp)) (nI (102)) (nI (d)) (nO (o2)) Z (d) (by omega)) (cwV 1 hts gX6_canObey_X6_canDrop rfl rfl rfl hd_X6_canDrop ⟨Nat.le_of_ble_eq_true rfl, Nat.le_of_ble_eq_true rfl⟩) hK hP 0 rfl rfl rfl hl.1 rfl (Nat.le_of_ble_eq_true rfl) ⟨Nat.zero_le _, Nat.zero_le _⟩ dX6_canObey_54 ?_
  exact q_zret hx hb hr hlocks dX6_canObey_57 (rfl)
set_option maxHeartbeats 1000000 in
set_option maxRecDepth 100000 in
theorem c_X6_canObey_m {l : Launch} (D : va_G) (cy : ClassId) (a : Nat → Nat) (σ kept : Nat → Int32) (nxt cnt : Nat) (T : Nat → Int32) (len pos : Nat) (ph le nu va : Int32) (Z : va_W) (pp : Nat) (d : Nat) (o2 : Option Nat) (h_0 : d < 7) : Met l yX6_canObey wsX6_canObey (k2_rm 5 109) (gR D cy [.ref (a 0), .ref (a 17)] (wX cy a σ kept nxt cnt T len pos (nI (pp)) (nI (109)) (nI (d)) (nO (o2)) ++ Z)) (k2_QcV (.int (bI (decide (σ (63 + d) = -1) && decide (0 < σ 84))))) 0 0 (fun _ => False) := by
  refine q_pure (cc := cX6_canObey) (maxL := 2) (ret := (some .boolean)) pl_X6 rfl (Nat.le_of_ble_eq_true rfl) ?_
  intro p e s m below meth c ls hx hb hr hml hts hown hlocks hP hK hl
  have hl : lv_has ls 2 [(0, .ref (a 0)), (1, .ref (a 17))] := hl
  refine lv_aload_n hx hb dX6_canObey_0 rfl (lv_at hl 1 rfl) ?_
  refine q_cV (As := []) (rest := []) ⟨hx, hb, hml, hown, hts⟩ (c_X2_orderLetter D cy a σ kept nxt cnt T len pos (nI (pp)) (nI (109)) (nI (d)) (nO (o2)) Z (pp) (109) (some d) (o2) ) (cwV 0 hts gX6_canObey_X2_orderLetter rfl rfl rfl hd_X2_orderLetter ⟨Nat.le_of_ble_eq_true rfl, Nat.le_of_ble_eq_true rfl⟩) hK hP 17 rfl rfl rfl hl.1 rfl (Nat.le_of_ble_eq_true rfl) ⟨Nat.zero_le _, Nat.zero_le _⟩ dX6_canObey_1 ?_
  have k_4 : 109 = 109 := by omega
  refine q_look (tgt := 58) (off := 54) hx hb dX6_canObey_4 (by decide) (by rw [k_4]; decide) (by omega) (by decide) ?_
  refine lv_aload_n hx hb dX6_canObey_58 rfl (lv_at hl 0 rfl) ?_
  refine lv_aload_n hx hb dX6_canObey_59 rfl (lv_at hl 1 rfl) ?_
  refine q_cV (As := []) (rest := [.ref (a 0)]) ⟨hx, hb, hml, hown, hts⟩ (c_X2_orderNumber D cy a σ kept nxt cnt T len pos (nI (pp)) (nI (109)) (nI (d)) (nO (o2)) Z (pp) (109) (some d) (o2) ) (cwV 0 hts gX6_canObey_X2_orderNumber rfl rfl rfl hd_X2_orderNumber ⟨Nat.le_of_ble_eq_true rfl, Nat.le_of_ble_eq_true rfl⟩) hK hP 17 rfl rfl rfl hl.1 rfl (Nat.le_of_ble_eq_true rfl) ⟨Nat.zero_le _, Nat.zero_le _⟩ dX6_canObey_60 ?_
  refine q_top (show (nO (some d)) = nI (d) from rfl) ?_
  refine q_cV (As := [.int (nI (d))]) (rest := []) ⟨hx, hb, hml, hown, hts⟩ (c_X6_canReplace D cy a σ kept nxt cnt T len pos (nI (pp)) (nI (109)) (nI (d)) (nO (o2)) Z (d) (by omega)) (cwV 1 hts gX6_canObey_X6_canReplace rfl rfl rfl hd_X6_canReplace ⟨Nat.le_of_ble_eq_true rfl, Nat.le_of_ble_eq_true rfl⟩) hK hP 0 rfl rfl rfl hl.1 rfl (Nat.le_of_ble_eq_true rfl) ⟨Nat.zero_le _, Nat.zero_le _⟩ dX6_canObey_63 ?_
  exact q_zret hx hb hr hlocks dX6_canObey_66 (rfl)
set_option maxHeartbeats 1000000 in
set_option maxRecDepth 100000 in
theorem c_X6_canObey_s {l : Launch} (D : va_G) (cy : ClassId) (a : Nat → Nat) (σ kept : Nat → Int32) (nxt cnt : Nat) (T : Nat → Int32) (len pos : Nat) (ph le nu va : Int32) (Z : va_W) (pp : Nat) (o1 o2 : Option Nat) : Met l yX6_canObey wsX6_canObey (k2_rm 5 109) (gR D cy [.ref (a 0), .ref (a 17)] (wX cy a σ kept nxt cnt T len pos (nI (pp)) (nI (115)) (nO (o1)) (nO (o2)) ++ Z)) (k2_QcV (.int (bI (true)))) 0 0 (fun _ => False) := by
  refine q_pure (cc := cX6_canObey) (maxL := 2) (ret := (some .boolean)) pl_X6 rfl (Nat.le_of_ble_eq_true rfl) ?_
  intro p e s m below meth c ls hx hb hr hml hts hown hlocks hP hK hl
  have hl : lv_has ls 2 [(0, .ref (a 0)), (1, .ref (a 17))] := hl
  refine lv_aload_n hx hb dX6_canObey_0 rfl (lv_at hl 1 rfl) ?_
  refine q_cV (As := []) (rest := []) ⟨hx, hb, hml, hown, hts⟩ (c_X2_orderLetter D cy a σ kept nxt cnt T len pos (nI (pp)) (nI (115)) (nO (o1)) (nO (o2)) Z (pp) (115) (o1) (o2) ) (cwV 0 hts gX6_canObey_X2_orderLetter rfl rfl rfl hd_X2_orderLetter ⟨Nat.le_of_ble_eq_true rfl, Nat.le_of_ble_eq_true rfl⟩) hK hP 17 rfl rfl rfl hl.1 rfl (Nat.le_of_ble_eq_true rfl) ⟨Nat.zero_le _, Nat.zero_le _⟩ dX6_canObey_1 ?_
  have k_4 : (¬ 115 = 102 ∧ ¬ 115 = 109 ∧ ¬ 115 = 119) := by omega
  refine q_look (tgt := 67) (off := 63) hx hb dX6_canObey_4 (by decide) (by simp only [Op.lookupswitch.offset_cons, Op.lookupswitch.offset_nil]; obtain ⟨k0, k1, k2⟩ := k_4; repeat rw [if_neg (by omega)]) (by omega) (by decide) ?_
  refine lv_iconst (v := nI 1) hx hb dX6_canObey_67 rfl ?_
  exact q_zret hx hb hr hlocks dX6_canObey_68 (rfl)
set_option maxHeartbeats 1000000 in
set_option maxRecDepth 100000 in
theorem c_X6_canObey_c {l : Launch} (D : va_G) (cy : ClassId) (a : Nat → Nat) (σ kept : Nat → Int32) (nxt cnt : Nat) (T : Nat → Int32) (len pos : Nat) (ph le nu va : Int32) (Z : va_W) (pp : Nat) (o1 o2 : Option Nat) : Met l yX6_canObey wsX6_canObey (k2_rm 5 109) (gR D cy [.ref (a 0), .ref (a 17)] (wX cy a σ kept nxt cnt T len pos (nI (pp)) (nI (99)) (nO (o1)) (nO (o2)) ++ Z)) (k2_QcV (.int (bI (true)))) 0 0 (fun _ => False) := by
  refine q_pure (cc := cX6_canObey) (maxL := 2) (ret := (some .boolean)) pl_X6 rfl (Nat.le_of_ble_eq_true rfl) ?_
  intro p e s m below meth c ls hx hb hr hml hts hown hlocks hP hK hl
  have hl : lv_has ls 2 [(0, .ref (a 0)), (1, .ref (a 17))] := hl
  refine lv_aload_n hx hb dX6_canObey_0 rfl (lv_at hl 1 rfl) ?_
  refine q_cV (As := []) (rest := []) ⟨hx, hb, hml, hown, hts⟩ (c_X2_orderLetter D cy a σ kept nxt cnt T len pos (nI (pp)) (nI (99)) (nO (o1)) (nO (o2)) Z (pp) (99) (o1) (o2) ) (cwV 0 hts gX6_canObey_X2_orderLetter rfl rfl rfl hd_X2_orderLetter ⟨Nat.le_of_ble_eq_true rfl, Nat.le_of_ble_eq_true rfl⟩) hK hP 17 rfl rfl rfl hl.1 rfl (Nat.le_of_ble_eq_true rfl) ⟨Nat.zero_le _, Nat.zero_le _⟩ dX6_canObey_1 ?_
  have k_4 : (¬ 99 = 102 ∧ ¬ 99 = 109 ∧ ¬ 99 = 119) := by omega
  refine q_look (tgt := 67) (off := 63) hx hb dX6_canObey_4 (by decide) (by simp only [Op.lookupswitch.offset_cons, Op.lookupswitch.offset_nil]; obtain ⟨k0, k1, k2⟩ := k_4; repeat rw [if_neg (by omega)]) (by omega) (by decide) ?_
  refine lv_iconst (v := nI 1) hx hb dX6_canObey_67 rfl ?_
  exact q_zret hx hb hr hlocks dX6_canObey_68 (rfl)
set_option maxRecDepth 100000 in
theorem c_X6_canObey {l : Launch} (D : va_G) (cy : ClassId) (a : Nat → Nat) (σ kept : Nat → Int32) (nxt cnt : Nat) (T : Nat → Int32) (len pos : Nat) (ph le nu va : Int32) (Z : va_W) (pp lc : Nat) (o1 o2 : Option Nat) (h_0 : oOK (lc, o1, o2)) : Met l yX6_canObey wsX6_canObey (k2_rm 5 109) (gR D cy [.ref (a 0), .ref (a 17)] (wX cy a σ kept nxt cnt T len pos (nI (pp)) (nI (lc)) (nO (o1)) (nO (o2)) ++ Z)) (k2_QcV (.int (bI (okO σ lc o1)))) 0 0 (fun _ => False) := by
  rcases h_0 with ⟨rfl, q, v, h1, hq, h2, hv⟩ | ⟨h0, d, h1, hd⟩ | ⟨rfl, n, h1, hn⟩ | rfl
  · cases h1; cases h2
    exact c_X6_canObey_w D cy a σ kept nxt cnt T len pos (nI pp) (nI 119) (nI q) (nI v) Z pp q v hq
  · cases h1
    rcases h0 with rfl | rfl
    · exact c_X6_canObey_f D cy a σ kept nxt cnt T len pos (nI pp) (nI 102) (nI d) (nO o2) Z pp d o2 hd
    · exact c_X6_canObey_m D cy a σ kept nxt cnt T len pos (nI pp) (nI 109) (nI d) (nO o2) Z pp d o2 hd
  · cases h1
    exact c_X6_canObey_s D cy a σ kept nxt cnt T len pos (nI pp) (nI 115) (nI n) (nO o2) Z pp (some n) o2
  · exact c_X6_canObey_c D cy a σ kept nxt cnt T len pos (nI pp) (nI 99) (nO o1) (nO o2) Z pp o1 o2
set_option maxHeartbeats 1000000 in
set_option maxRecDepth 100000 in
theorem c_X6_obey_w {l : Launch} (D : va_G) (cy : ClassId) (A : Nat → Prop) (a : Nat → Nat) (σ kept : Nat → Int32) (nxt cnt : Nat) (T : Nat → Int32) (len pos : Nat) (ph le nu va : Int32) (Z : va_W) (pp : Nat) (q v : Nat) (h_0 : q < 42) : Met l yX6_obey wsX6_obey (k2_rm 5 111) (gP D cy [.ref (a 0), .ref (a 17)] A (wX cy a σ kept nxt cnt T len pos (nI (pp)) (nI (119)) (nI (q)) (nI (v)) ++ Z)) (gQ D A (none) (wX cy a (wD σ q (nI v)) kept nxt cnt T len pos (nI (pp)) (nI (119)) (nI (q)) (nI (v)) ++ Z)) 0 0 A := by
  refine q_imp (cc := cX6_obey) (maxL := 2) (ret := none) pl_X6 rfl (Nat.le_of_ble_eq_true rfl) ?_
  intro p e s m below meth c ls hx hb hr hml hts hown hlocks hw hK hA hl
  have hP := hw.1
  have hl : lv_has ls 2 [(0, .ref (a 0)), (1, .ref (a 17))] := hl
  refine lv_aload_n hx hb dX6_obey_0 rfl (lv_at hl 1 rfl) ?_
  refine q_cV (As := []) (rest := []) ⟨hx, hb, hml, hown, hts⟩ (c_X2_orderLetter D cy a σ kept nxt cnt T len pos (nI (pp)) (nI (119)) (nI (q)) (nI (v)) Z (pp) (119) (some q) (some v) ) (cwV 0 hts gX6_obey_X2_orderLetter rfl rfl rfl hd_X2_orderLetter ⟨Nat.le_of_ble_eq_true rfl, Nat.le_of_ble_eq_true rfl⟩) hK hP 17 rfl rfl rfl hl.1 rfl (Nat.le_of_ble_eq_true rfl) ⟨Nat.zero_le _, Nat.zero_le _⟩ dX6_obey_1 ?_
  have k_4 : 119 = 119 := by omega
  refine q_look (tgt := 48) (off := 44) hx hb dX6_obey_4 (by decide) (by rw [k_4]; decide) (by omega) (by decide) ?_
  refine lv_aload_n hx hb dX6_obey_48 rfl (lv_at hl 0 rfl) ?_
  refine lv_aload_n hx hb dX6_obey_49 rfl (lv_at hl 1 rfl) ?_
  refine q_cV (As := []) (rest := [.ref (a 0)]) ⟨hx, hb, hml, hown, hts⟩ (c_X2_orderNumber D cy a σ kept nxt cnt T len pos (nI (pp)) (nI (119)) (nI (q)) (nI (v)) Z (pp) (119) (some q) (some v) ) (cwV 0 hts gX6_obey_X2_orderNumber rfl rfl rfl hd_X2_orderNumber ⟨Nat.le_of_ble_eq_true rfl, Nat.le_of_ble_eq_true rfl⟩) hK hP 17 rfl rfl rfl hl.1 rfl (Nat.le_of_ble_eq_true rfl) ⟨Nat.zero_le _, Nat.zero_le _⟩ dX6_obey_50 ?_
  refine q_top (show (nO (some q)) = nI (q) from rfl) ?_
  refine lv_aload_n hx hb dX6_obey_53 rfl (lv_at hl 1 rfl) ?_
  refine q_cV (As := []) (rest := [.int (nI (q)), .ref (a 0)]) ⟨hx, hb, hml, hown, hts⟩ (c_X2_orderValue D cy a σ kept nxt cnt T len pos (nI (pp)) (nI (119)) (nI (q)) (nI (v)) Z (pp) (119) (some q) (some v) ) (cwV 0 hts gX6_obey_X2_orderValue rfl rfl rfl hd_X2_orderValue ⟨Nat.le_of_ble_eq_true rfl, Nat.le_of_ble_eq_true rfl⟩) hK hP 17 rfl rfl rfl hl.1 rfl (Nat.le_of_ble_eq_true rfl) ⟨Nat.zero_le _, Nat.zero_le _⟩ dX6_obey_54 ?_
  refine q_top (show (nO (some v)) = nI (v) from rfl) ?_
  refine q_wV0 (As := [.int (nI (q)), .int (nI (v))]) (rest := []) (st1 := [.int (nI (wC σ q))]) ⟨hx, hb, hml, hown, hts⟩ (c_X6_storeData D cy A a σ kept nxt cnt T len pos (nI (pp)) (nI (119)) (nI (q)) (nI (v)) Z (q) (nI (v)) (by omega)) (cwV 2 hts gX6_obey_X6_storeData rfl rfl rfl hd_X6_storeData ⟨Nat.le_of_ble_eq_true rfl, Nat.le_of_ble_eq_true rfl⟩) hK hA hw 0 rfl rfl rfl hl.1 rfl rfl (Nat.le_of_ble_eq_true rfl) ⟨Nat.zero_le _, Nat.zero_le _⟩ dX6_obey_57 (fun H locs hw => ?_)
  have hw : wS D A (wX cy a (wD σ q (nI (v))) kept nxt cnt T len pos (nI (pp)) (nI (119)) (nI (q)) (nI (v)) ++ Z) s H locs := hw
  have hP := hw.1
  refine lv_pop hx hb dX6_obey_60 rfl ?_
  refine lv_goto (tgt := 109) hx hb dX6_obey_61 (by decide) ?_
  exact q_vretW hx hb hr hlocks hw dX6_obey_109
set_option maxHeartbeats 1000000 in
set_option maxRecDepth 100000 in
theorem c_X6_obey_f {l : Launch} (D : va_G) (cy : ClassId) (A : Nat → Prop) (a : Nat → Nat) (σ kept : Nat → Int32) (nxt cnt : Nat) (T : Nat → Int32) (len pos : Nat) (ph le nu va : Int32) (Z : va_W) (pp : Nat) (d : Nat) (o2 : Option Nat) (h_0 : d < 7) : Met l yX6_obey wsX6_obey (k2_rm 5 111) (gP D cy [.ref (a 0), .ref (a 17)] A (wX cy a σ kept nxt cnt T len pos (nI (pp)) (nI (102)) (nI (d)) (nO (o2)) ++ Z)) (gQ D A (none) (wX cy a (failS σ d) kept nxt cnt T len pos (nI (pp)) (nI (102)) (nI (d)) (nO (o2)) ++ Z)) 0 0 A := by
  refine q_imp (cc := cX6_obey) (maxL := 2) (ret := none) pl_X6 rfl (Nat.le_of_ble_eq_true rfl) ?_
  intro p e s m below meth c ls hx hb hr hml hts hown hlocks hw hK hA hl
  have hP := hw.1
  have hl : lv_has ls 2 [(0, .ref (a 0)), (1, .ref (a 17))] := hl
  refine lv_aload_n hx hb dX6_obey_0 rfl (lv_at hl 1 rfl) ?_
  refine q_cV (As := []) (rest := []) ⟨hx, hb, hml, hown, hts⟩ (c_X2_orderLetter D cy a σ kept nxt cnt T len pos (nI (pp)) (nI (102)) (nI (d)) (nO (o2)) Z (pp) (102) (some d) (o2) ) (cwV 0 hts gX6_obey_X2_orderLetter rfl rfl rfl hd_X2_orderLetter ⟨Nat.le_of_ble_eq_true rfl, Nat.le_of_ble_eq_true rfl⟩) hK hP 17 rfl rfl rfl hl.1 rfl (Nat.le_of_ble_eq_true rfl) ⟨Nat.zero_le _, Nat.zero_le _⟩ dX6_obey_1 ?_
  have k_4 : 102 = 102 := by omega
  refine q_look (tgt := 64) (off := 60) hx hb dX6_obey_4 (by decide) (by rw [k_4]; decide) (by omega) (by decide) ?_
  refine lv_aload_n hx hb dX6_obey_64 rfl (lv_at hl 0 rfl) ?_
  refine va_get (D := D) (ci := 6) (v := .ref (a 8)) (C := RX6) (T := TX6) (N := 4) hx hb hts (fun _ h => List.mem_cons_of_mem _ (List.mem_append_left _ (List.mem_append_left _ (List.mem_append_left _ (List.mem_append_left _ (List.mem_append_right _ h)))))) hown hK hP 0 rfl rfl 1 (by decide) (hts (.fieldLink RX6 19 "SpreadParity" "now" "LSpreadParity$State;") (List.mem_of_getElem? (i := 1) rfl)) (fun _ h9 => h9) rfl dX6_obey_65 ?_
  refine lv_aload_n hx hb dX6_obey_68 rfl (lv_at hl 1 rfl) ?_
  refine q_cV (As := []) (rest := [.ref (a 8)]) ⟨hx, hb, hml, hown, hts⟩ (c_X2_orderNumber D cy a σ kept nxt cnt T len pos (nI (pp)) (nI (102)) (nI (d)) (nO (o2)) Z (pp) (102) (some d) (o2) ) (cwV 0 hts gX6_obey_X2_orderNumber rfl rfl rfl hd_X2_orderNumber ⟨Nat.le_of_ble_eq_true rfl, Nat.le_of_ble_eq_true rfl⟩) hK hP 17 rfl rfl rfl hl.1 rfl (Nat.le_of_ble_eq_true rfl) ⟨Nat.zero_le _, Nat.zero_le _⟩ dX6_obey_69 ?_
  refine q_top (show (nO (some d)) = nI (d) from rfl) ?_
  refine q_wV0 (As := [.int (nI (d))]) (rest := []) (st1 := []) ⟨hx, hb, hml, hown, hts⟩ (c_X5_dropDisc D cy A a σ kept nxt cnt T len pos (nI (pp)) (nI (102)) (nI (d)) (nO (o2)) Z (d) (by omega)) (cwV 1 hts gX6_obey_X5_dropDisc rfl rfl rfl hd_X5_dropDisc ⟨Nat.le_of_ble_eq_true rfl, Nat.le_of_ble_eq_true rfl⟩) hK hA hw 8 rfl rfl rfl hl.1 rfl rfl (Nat.le_of_ble_eq_true rfl) ⟨Nat.zero_le _, Nat.zero_le _⟩ dX6_obey_72 (fun H locs hw => ?_)
  have hw : wS D A (wX cy a (failS σ d) kept nxt cnt T len pos (nI (pp)) (nI (102)) (nI (d)) (nO (o2)) ++ Z) s H locs := hw
  have hP := hw.1
  refine lv_goto (tgt := 109) hx hb dX6_obey_75 (by decide) ?_
  exact q_vretW hx hb hr hlocks hw dX6_obey_109
set_option maxHeartbeats 1000000 in
set_option maxRecDepth 100000 in
theorem c_X6_obey_m {l : Launch} (D : va_G) (cy : ClassId) (A : Nat → Prop) (a : Nat → Nat) (σ kept : Nat → Int32) (nxt cnt : Nat) (T : Nat → Int32) (len pos : Nat) (ph le nu va : Int32) (Z : va_W) (pp : Nat) (d : Nat) (o2 : Option Nat) (h_0 : d < 7) : Met l yX6_obey wsX6_obey (k2_rm 5 111) (gP D cy [.ref (a 0), .ref (a 17)] A (wX cy a σ kept nxt cnt T len pos (nI (pp)) (nI (109)) (nI (d)) (nO (o2)) ++ Z)) (gQ D A (none) (wX cy a (begS σ d) kept nxt cnt T len pos (nI (pp)) (nI (109)) (nI (d)) (nO (o2)) ++ Z)) 0 0 A := by
  refine q_imp (cc := cX6_obey) (maxL := 2) (ret := none) pl_X6 rfl (Nat.le_of_ble_eq_true rfl) ?_
  intro p e s m below meth c ls hx hb hr hml hts hown hlocks hw hK hA hl
  have hP := hw.1
  have hl : lv_has ls 2 [(0, .ref (a 0)), (1, .ref (a 17))] := hl
  refine lv_aload_n hx hb dX6_obey_0 rfl (lv_at hl 1 rfl) ?_
  refine q_cV (As := []) (rest := []) ⟨hx, hb, hml, hown, hts⟩ (c_X2_orderLetter D cy a σ kept nxt cnt T len pos (nI (pp)) (nI (109)) (nI (d)) (nO (o2)) Z (pp) (109) (some d) (o2) ) (cwV 0 hts gX6_obey_X2_orderLetter rfl rfl rfl hd_X2_orderLetter ⟨Nat.le_of_ble_eq_true rfl, Nat.le_of_ble_eq_true rfl⟩) hK hP 17 rfl rfl rfl hl.1 rfl (Nat.le_of_ble_eq_true rfl) ⟨Nat.zero_le _, Nat.zero_le _⟩ dX6_obey_1 ?_
  have k_4 : 109 = 109 := by omega
  refine q_look (tgt := 78) (off := 74) hx hb dX6_obey_4 (by decide) (by rw [k_4]; decide) (by omega) (by decide) ?_
  refine lv_aload_n hx hb dX6_obey_78 rfl (lv_at hl 0 rfl) ?_
  refine va_get (D := D) (ci := 6) (v := .ref (a 8)) (C := RX6) (T := TX6) (N := 4) hx hb hts (fun _ h => List.mem_cons_of_mem _ (List.mem_append_left _ (List.mem_append_left _ (List.mem_append_left _ (List.mem_append_left _ (List.mem_append_right _ h)))))) hown hK hP 0 rfl rfl 1 (by decide) (hts (.fieldLink RX6 19 "SpreadParity" "now" "LSpreadParity$State;") (List.mem_of_getElem? (i := 1) rfl)) (fun _ h9 => h9) rfl dX6_obey_79 ?_
  refine lv_aload_n hx hb dX6_obey_82 rfl (lv_at hl 1 rfl) ?_
  refine q_cV (As := []) (rest := [.ref (a 8)]) ⟨hx, hb, hml, hown, hts⟩ (c_X2_orderNumber D cy a σ kept nxt cnt T len pos (nI (pp)) (nI (109)) (nI (d)) (nO (o2)) Z (pp) (109) (some d) (o2) ) (cwV 0 hts gX6_obey_X2_orderNumber rfl rfl rfl hd_X2_orderNumber ⟨Nat.le_of_ble_eq_true rfl, Nat.le_of_ble_eq_true rfl⟩) hK hP 17 rfl rfl rfl hl.1 rfl (Nat.le_of_ble_eq_true rfl) ⟨Nat.zero_le _, Nat.zero_le _⟩ dX6_obey_83 ?_
  refine q_top (show (nO (some d)) = nI (d) from rfl) ?_
  refine q_wV0 (As := [.int (nI (d))]) (rest := []) (st1 := []) ⟨hx, hb, hml, hown, hts⟩ (c_X5_replaceDisc D cy A a σ kept nxt cnt T len pos (nI (pp)) (nI (109)) (nI (d)) (nO (o2)) Z (d) (by omega)) (cwV 1 hts gX6_obey_X5_replaceDisc rfl rfl rfl hd_X5_replaceDisc ⟨Nat.le_of_ble_eq_true rfl, Nat.le_of_ble_eq_true rfl⟩) hK hA hw 8 rfl rfl rfl hl.1 rfl rfl (Nat.le_of_ble_eq_true rfl) ⟨Nat.zero_le _, Nat.zero_le _⟩ dX6_obey_86 (fun H locs hw => ?_)
  have hw : wS D A (wX cy a (begS σ d) kept nxt cnt T len pos (nI (pp)) (nI (109)) (nI (d)) (nO (o2)) ++ Z) s H locs := hw
  have hP := hw.1
  refine lv_goto (tgt := 109) hx hb dX6_obey_89 (by decide) ?_
  exact q_vretW hx hb hr hlocks hw dX6_obey_109
set_option maxHeartbeats 1000000 in
set_option maxRecDepth 100000 in
theorem c_X6_obey_s {l : Launch} (D : va_G) (cy : ClassId) (A : Nat → Prop) (a : Nat → Nat) (σ kept : Nat → Int32) (nxt cnt : Nat) (T : Nat → Int32) (len pos : Nat) (ph le nu va : Int32) (Z : va_W) (pp : Nat) (n : Nat) (o2 : Option Nat) (h_0 : n ≤ 9) (h_1 : Val σ) : Met l yX6_obey wsX6_obey (k2_rm 5 111) (gP D cy [.ref (a 0), .ref (a 17)] A (wX cy a σ kept nxt cnt T len pos (nI (pp)) (nI (115)) (nI (n)) (nO (o2)) ++ Z)) (gQ D A (none) (wX cy a ((mnS n σ).1) kept nxt cnt T len pos (nI (pp)) (nI (115)) (nI (n)) (nO (o2)) ++ Z)) 0 0 A := by
  refine q_imp (cc := cX6_obey) (maxL := 2) (ret := none) pl_X6 rfl (Nat.le_of_ble_eq_true rfl) ?_
  intro p e s m below meth c ls hx hb hr hml hts hown hlocks hw hK hA hl
  have hP := hw.1
  have hl : lv_has ls 2 [(0, .ref (a 0)), (1, .ref (a 17))] := hl
  refine lv_aload_n hx hb dX6_obey_0 rfl (lv_at hl 1 rfl) ?_
  refine q_cV (As := []) (rest := []) ⟨hx, hb, hml, hown, hts⟩ (c_X2_orderLetter D cy a σ kept nxt cnt T len pos (nI (pp)) (nI (115)) (nI (n)) (nO (o2)) Z (pp) (115) (some n) (o2) ) (cwV 0 hts gX6_obey_X2_orderLetter rfl rfl rfl hd_X2_orderLetter ⟨Nat.le_of_ble_eq_true rfl, Nat.le_of_ble_eq_true rfl⟩) hK hP 17 rfl rfl rfl hl.1 rfl (Nat.le_of_ble_eq_true rfl) ⟨Nat.zero_le _, Nat.zero_le _⟩ dX6_obey_1 ?_
  have k_4 : 115 = 115 := by omega
  refine q_look (tgt := 92) (off := 88) hx hb dX6_obey_4 (by decide) (by rw [k_4]; decide) (by omega) (by decide) ?_
  refine lv_aload_n hx hb dX6_obey_92 rfl (lv_at hl 0 rfl) ?_
  refine lv_aload_n hx hb dX6_obey_93 rfl (lv_at hl 1 rfl) ?_
  refine q_cV (As := []) (rest := [.ref (a 0)]) ⟨hx, hb, hml, hown, hts⟩ (c_X2_orderNumber D cy a σ kept nxt cnt T len pos (nI (pp)) (nI (115)) (nI (n)) (nO (o2)) Z (pp) (115) (some n) (o2) ) (cwV 0 hts gX6_obey_X2_orderNumber rfl rfl rfl hd_X2_orderNumber ⟨Nat.le_of_ble_eq_true rfl, Nat.le_of_ble_eq_true rfl⟩) hK hP 17 rfl rfl rfl hl.1 rfl (Nat.le_of_ble_eq_true rfl) ⟨Nat.zero_le _, Nat.zero_le _⟩ dX6_obey_94 ?_
  refine q_top (show (nO (some n)) = nI (n) from rfl) ?_
  refine q_wV0 (As := [.int (nI (n))]) (rest := []) (st1 := [.int (nI ((mnS n σ).2))]) ⟨hx, hb, hml, hown, hts⟩ (c_X6_makeSteps D cy A a σ kept nxt cnt T len pos (nI (pp)) (nI (115)) (nI (n)) (nO (o2)) Z (n) (by omega) h_1) (cwV 1 hts gX6_obey_X6_makeSteps rfl rfl rfl hd_X6_makeSteps ⟨Nat.le_of_ble_eq_true rfl, Nat.le_of_ble_eq_true rfl⟩) hK hA hw 0 rfl rfl rfl hl.1 rfl rfl (Nat.le_of_ble_eq_true rfl) ⟨Nat.zero_le _, Nat.zero_le _⟩ dX6_obey_97 (fun H locs hw => ?_)
  have hw : wS D A (wX cy a ((mnS n σ).1) kept nxt cnt T len pos (nI (pp)) (nI (115)) (nI (n)) (nO (o2)) ++ Z) s H locs := hw
  have hP := hw.1
  refine lv_pop hx hb dX6_obey_100 rfl ?_
  refine lv_goto (tgt := 109) hx hb dX6_obey_101 (by decide) ?_
  exact q_vretW hx hb hr hlocks hw dX6_obey_109
set_option maxHeartbeats 1000000 in
set_option maxRecDepth 100000 in
theorem c_X6_obey_c {l : Launch} (D : va_G) (cy : ClassId) (A : Nat → Prop) (a : Nat → Nat) (σ kept : Nat → Int32) (nxt cnt : Nat) (T : Nat → Int32) (len pos : Nat) (ph le nu va : Int32) (Z : va_W) (pp : Nat) (o1 o2 : Option Nat) : Met l yX6_obey wsX6_obey (k2_rm 5 111) (gP D cy [.ref (a 0), .ref (a 17)] A (wX cy a σ kept nxt cnt T len pos (nI (pp)) (nI (99)) (nO (o1)) (nO (o2)) ++ Z)) (gQ D A (none) (wX cy a (scS σ 21) kept nxt cnt T len pos (nI (pp)) (nI (99)) (nO (o1)) (nO (o2)) ++ Z)) 0 0 A := by
  refine q_imp (cc := cX6_obey) (maxL := 2) (ret := none) pl_X6 rfl (Nat.le_of_ble_eq_true rfl) ?_
  intro p e s m below meth c ls hx hb hr hml hts hown hlocks hw hK hA hl
  have hP := hw.1
  have hl : lv_has ls 2 [(0, .ref (a 0)), (1, .ref (a 17))] := hl
  refine lv_aload_n hx hb dX6_obey_0 rfl (lv_at hl 1 rfl) ?_
  refine q_cV (As := []) (rest := []) ⟨hx, hb, hml, hown, hts⟩ (c_X2_orderLetter D cy a σ kept nxt cnt T len pos (nI (pp)) (nI (99)) (nO (o1)) (nO (o2)) Z (pp) (99) (o1) (o2) ) (cwV 0 hts gX6_obey_X2_orderLetter rfl rfl rfl hd_X2_orderLetter ⟨Nat.le_of_ble_eq_true rfl, Nat.le_of_ble_eq_true rfl⟩) hK hP 17 rfl rfl rfl hl.1 rfl (Nat.le_of_ble_eq_true rfl) ⟨Nat.zero_le _, Nat.zero_le _⟩ dX6_obey_1 ?_
  have k_4 : (¬ 99 = 102 ∧ ¬ 99 = 109 ∧ ¬ 99 = 115 ∧ ¬ 99 = 119) := by omega
  refine q_look (tgt := 104) (off := 100) hx hb dX6_obey_4 (by decide) (by simp only [Op.lookupswitch.offset_cons, Op.lookupswitch.offset_nil]; obtain ⟨k0, k1, k2, k3⟩ := k_4; repeat rw [if_neg (by omega)]) (by omega) (by decide) ?_
  refine lv_aload_n hx hb dX6_obey_104 rfl (lv_at hl 0 rfl) ?_
  refine q_wV0 (As := []) (rest := []) (st1 := [.int (nI (scC σ 21))]) ⟨hx, hb, hml, hown, hts⟩ (c_X6_scrubStripes D cy A a σ kept nxt cnt T len pos (nI (pp)) (nI (99)) (nO (o1)) (nO (o2)) Z ) (cwV 0 hts gX6_obey_X6_scrubStripes rfl rfl rfl hd_X6_scrubStripes ⟨Nat.le_of_ble_eq_true rfl, Nat.le_of_ble_eq_true rfl⟩) hK hA hw 0 rfl rfl rfl hl.1 rfl rfl (Nat.le_of_ble_eq_true rfl) ⟨Nat.zero_le _, Nat.zero_le _⟩ dX6_obey_105 (fun H locs hw => ?_)
  have hw : wS D A (wX cy a (scS σ 21) kept nxt cnt T len pos (nI (pp)) (nI (99)) (nO (o1)) (nO (o2)) ++ Z) s H locs := hw
  have hP := hw.1
  refine lv_pop hx hb dX6_obey_108 rfl ?_
  exact q_vretW hx hb hr hlocks hw dX6_obey_109
set_option maxRecDepth 100000 in
theorem c_X6_obey {l : Launch} (D : va_G) (cy : ClassId) (A : Nat → Prop) (a : Nat → Nat) (σ kept : Nat → Int32) (nxt cnt : Nat) (T : Nat → Int32) (len pos : Nat) (ph le nu va : Int32) (Z : va_W) (pp lc : Nat) (o1 o2 : Option Nat) (h_0 : oOK (lc, o1, o2)) (h_1 : Val σ) : Met l yX6_obey wsX6_obey (k2_rm 5 111) (gP D cy [.ref (a 0), .ref (a 17)] A (wX cy a σ kept nxt cnt T len pos (nI (pp)) (nI (lc)) (nO (o1)) (nO (o2)) ++ Z)) (gQ D A (none) (wX cy a (doO σ lc o1 o2) kept nxt cnt T len pos (nI (pp)) (nI (lc)) (nO (o1)) (nO (o2)) ++ Z)) 0 0 A := by
  rcases h_0 with ⟨rfl, q, v, h1, hq, h2, hv⟩ | ⟨h0, d, h1, hd⟩ | ⟨rfl, n, h1, hn⟩ | rfl
  · cases h1; cases h2
    exact c_X6_obey_w D cy A a σ kept nxt cnt T len pos (nI pp) (nI 119) (nI q) (nI v) Z pp q v hq
  · cases h1
    rcases h0 with rfl | rfl
    · exact c_X6_obey_f D cy A a σ kept nxt cnt T len pos (nI pp) (nI 102) (nI d) (nO o2) Z pp d o2 hd
    · exact c_X6_obey_m D cy A a σ kept nxt cnt T len pos (nI pp) (nI 109) (nI d) (nO o2) Z pp d o2 hd
  · cases h1
    exact c_X6_obey_s D cy A a σ kept nxt cnt T len pos (nI pp) (nI 115) (nI n) (nO o2) Z pp n o2 hn h_1
  · rw [show doO σ 99 o1 o2 = scS σ 21 by simp [doO]]
    exact c_X6_obey_c D cy A a σ kept nxt cnt T len pos (nI pp) (nI 99) (nO o1) (nO o2) Z pp o1 o2
set_option maxHeartbeats 1000000 in
set_option maxRecDepth 100000 in
theorem c_X6_digest {l : Launch} (D : va_G) (cy : ClassId) (a : Nat → Nat) (σ kept : Nat → Int32) (nxt cnt : Nat) (T : Nat → Int32) (len pos : Nat) (ph le nu va : Int32) (Z : va_W) : Met l yX6_digest wsX6_digest (k2_rm 6 136) (gR D cy [.ref (a 0)] (wX cy a σ kept nxt cnt T len pos ph le nu va ++ Z)) (k2_QcV (.long (dig σ))) 0 0 (fun _ => False) := by
  refine q_pure (cc := cX6_digest) (maxL := 3) (ret := (some .long)) pl_X6 rfl (Nat.le_of_ble_eq_true rfl) ?_
  intro p e s m below meth c ls hx hb hr hml hts hown hlocks hP hK hl
  have hl : lv_has ls 3 [(0, .ref (a 0))] := hl
  refine lv_ldc2 (v := 4184) hx hb hown (hts (.constantLong RX6 261 (4184)) (List.mem_of_getElem? (i := 1) rfl)) dX6_digest_0 ?_
  refine lv_aload_n hx hb dX6_digest_3 rfl (lv_at hl 0 rfl) ?_
  refine lv_iconst (v := -1) hx hb dX6_digest_4 rfl ?_
  refine q_cV (As := [.int (-1)]) (rest := [.long (4184)]) ⟨hx, hb, hml, hown, hts⟩ (c_X6_countLost D cy a σ kept nxt cnt T len pos ph le nu va Z (σ) (-1) (Wo_none _)) (cwV 1 hts gX6_digest_X6_countLost rfl rfl rfl hd_X6_countLost ⟨Nat.le_of_ble_eq_true rfl, Nat.le_of_ble_eq_true rfl⟩) hK hP 0 rfl rfl rfl hl.1 rfl (Nat.le_of_ble_eq_true rfl) ⟨Nat.zero_le _, Nat.zero_le _⟩ dX6_digest_5 ?_
  refine q_cS (As := [.long (4184), .int (nI (cl σ))]) (rest := []) (w := []) ⟨hx, hb, hml, hown, hts⟩ (c_X6_hashed D cy (4184) (nI (cl σ))) (va_cwS 2 hts gX6_digest_X6_hashed rfl rfl rfl hd_X6_hashed ⟨Nat.le_of_ble_eq_true rfl, Nat.le_of_ble_eq_true rfl⟩) hK q_Pnil rfl hl.1 rfl (Nat.le_of_ble_eq_true rfl) ⟨Nat.zero_le _, Nat.zero_le _⟩ dX6_digest_8 ?_
  refine lv_lstore_n (lv' := [(1, .long (hx1 4184 (nI (cl σ)))), (0, .ref (a 0))]) hx hb dX6_digest_11 rfl hl (by decide) rfl (fun ls hl => ?_)
  refine lv_lload_n hx hb dX6_digest_12 rfl (lv_at hl 0 rfl) ?_
  refine lv_aload_n hx hb dX6_digest_13 rfl (lv_at hl 1 rfl) ?_
  refine q_cV (As := []) (rest := [.long (hx1 4184 (nI (cl σ)))]) ⟨hx, hb, hml, hown, hts⟩ (c_X6_countWrong D cy a σ kept nxt cnt T len pos ph le nu va Z ) (cwV 0 hts gX6_digest_X6_countWrong rfl rfl rfl hd_X6_countWrong ⟨Nat.le_of_ble_eq_true rfl, Nat.le_of_ble_eq_true rfl⟩) hK hP 0 rfl rfl rfl hl.1 rfl (Nat.le_of_ble_eq_true rfl) ⟨Nat.zero_le _, Nat.zero_le _⟩ dX6_digest_14 ?_
  refine q_cS (As := [.long (hx1 4184 (nI (cl σ))), .int (nI (cw σ))]) (rest := []) (w := []) ⟨hx, hb, hml, hown, hts⟩ (c_X6_hashed D cy (hx1 4184 (nI (cl σ))) (nI (cw σ))) (va_cwS 2 hts gX6_digest_X6_hashed rfl rfl rfl hd_X6_hashed ⟨Nat.le_of_ble_eq_true rfl, Nat.le_of_ble_eq_true rfl⟩) hK q_Pnil rfl hl.1 rfl (Nat.le_of_ble_eq_true rfl) ⟨Nat.zero_le _, Nat.zero_le _⟩ dX6_digest_17 ?_
  refine lv_lstore_n (lv' := [(1, .long (hx1 (hx1 4184 (nI (cl σ))) (nI (cw σ)))), (0, .ref (a 0))]) hx hb dX6_digest_20 rfl hl (by decide) rfl (fun ls hl => ?_)
  refine lv_lload_n hx hb dX6_digest_21 rfl (lv_at hl 0 rfl) ?_
  refine lv_aload_n hx hb dX6_digest_22 rfl (lv_at hl 1 rfl) ?_
  refine va_get (D := D) (ci := 6) (v := .ref (a 8)) (C := RX6) (T := TX6) (N := 4) hx hb hts (fun _ h => List.mem_cons_of_mem _ (List.mem_append_left _ (List.mem_append_left _ (List.mem_append_left _ (List.mem_append_right _ h))))) hown hK hP 0 rfl rfl 1 (by decide) (hts (.fieldLink RX6 19 "SpreadParity" "now" "LSpreadParity$State;") (List.mem_of_getElem? (i := 2) rfl)) (fun _ h9 => h9) rfl dX6_digest_23 ?_
  refine q_cV (As := []) (rest := [.long (hx1 (hx1 4184 (nI (cl σ))) (nI (cw σ)))]) ⟨hx, hb, hml, hown, hts⟩ (c_X5_spareDiscs D cy a σ kept nxt cnt T len pos ph le nu va Z ) (cwV 0 hts gX6_digest_X5_spareDiscs rfl rfl rfl hd_X5_spareDiscs ⟨Nat.le_of_ble_eq_true rfl, Nat.le_of_ble_eq_true rfl⟩) hK hP 8 rfl rfl rfl hl.1 rfl (Nat.le_of_ble_eq_true rfl) ⟨Nat.zero_le _, Nat.zero_le _⟩ dX6_digest_26 ?_
  refine q_cS (As := [.long (hx1 (hx1 4184 (nI (cl σ))) (nI (cw σ))), .int (σ 84)]) (rest := []) (w := []) ⟨hx, hb, hml, hown, hts⟩ (c_X6_hashed D cy (hx1 (hx1 4184 (nI (cl σ))) (nI (cw σ))) (σ 84)) (va_cwS 2 hts gX6_digest_X6_hashed rfl rfl rfl hd_X6_hashed ⟨Nat.le_of_ble_eq_true rfl, Nat.le_of_ble_eq_true rfl⟩) hK q_Pnil rfl hl.1 rfl (Nat.le_of_ble_eq_true rfl) ⟨Nat.zero_le _, Nat.zero_le _⟩ dX6_digest_29 ?_
  refine lv_lstore_n (lv' := [(1, .long (hx1 (hx1 (hx1 4184 (nI (cl σ))) (nI (cw σ))) (σ 84))), (0, .ref (a 0))]) hx hb dX6_digest_32 rfl hl (by decide) rfl (fun ls hl => ?_)
  refine lv_lload_n hx hb dX6_digest_33 rfl (lv_at hl 0 rfl) ?_
  refine lv_aload_n hx hb dX6_digest_34 rfl (lv_at hl 1 rfl) ?_
  refine va_get (D := D) (ci := 6) (v := .ref (a 8)) (C := RX6) (T := TX6) (N := 4) hx hb hts (fun _ h => List.mem_cons_of_mem _ (List.mem_append_left _ (List.mem_append_left _ (List.mem_append_left _ (List.mem_append_right _ h))))) hown hK hP 0 rfl rfl 1 (by decide) (hts (.fieldLink RX6 19 "SpreadParity" "now" "LSpreadParity$State;") (List.mem_of_getElem? (i := 2) rfl)) (fun _ h9 => h9) rfl dX6_digest_35 ?_
  refine q_cV (As := []) (rest := [.long (hx1 (hx1 (hx1 4184 (nI (cl σ))) (nI (cw σ))) (σ 84))]) ⟨hx, hb, hml, hown, hts⟩ (c_X5_lossCount D cy a σ kept nxt cnt T len pos ph le nu va Z ) (cwV 0 hts gX6_digest_X5_lossCount rfl rfl rfl hd_X5_lossCount ⟨Nat.le_of_ble_eq_true rfl, Nat.le_of_ble_eq_true rfl⟩) hK hP 8 rfl rfl rfl hl.1 rfl (Nat.le_of_ble_eq_true rfl) ⟨Nat.zero_le _, Nat.zero_le _⟩ dX6_digest_38 ?_
  refine q_cS (As := [.long (hx1 (hx1 (hx1 4184 (nI (cl σ))) (nI (cw σ))) (σ 84)), .int (σ 85)]) (rest := []) (w := []) ⟨hx, hb, hml, hown, hts⟩ (c_X6_hashed D cy (hx1 (hx1 (hx1 4184 (nI (cl σ))) (nI (cw σ))) (σ 84)) (σ 85)) (va_cwS 2 hts gX6_digest_X6_hashed rfl rfl rfl hd_X6_hashed ⟨Nat.le_of_ble_eq_true rfl, Nat.le_of_ble_eq_true rfl⟩) hK q_Pnil rfl hl.1 rfl (Nat.le_of_ble_eq_true rfl) ⟨Nat.zero_le _, Nat.zero_le _⟩ dX6_digest_41 ?_
  refine lv_lstore_n (lv' := [(1, .long (hx1 (hx1 (hx1 (hx1 4184 (nI (cl σ))) (nI (cw σ))) (σ 84)) (σ 85))), (0, .ref (a 0))]) hx hb dX6_digest_44 rfl hl (by decide) rfl (fun ls hl => ?_)
  refine lv_lload_n hx hb dX6_digest_45 rfl (lv_at hl 0 rfl) ?_
  refine lv_aload_n hx hb dX6_digest_46 rfl (lv_at hl 1 rfl) ?_
  refine q_cV (As := []) (rest := [.long (hx1 (hx1 (hx1 (hx1 4184 (nI (cl σ))) (nI (cw σ))) (σ 84)) (σ 85))]) ⟨hx, hb, hml, hown, hts⟩ (c_X6_findWorst D cy a σ kept nxt cnt T len pos ph le nu va Z ) (cwV 0 hts gX6_digest_X6_findWorst rfl rfl rfl hd_X6_findWorst ⟨Nat.le_of_ble_eq_true rfl, Nat.le_of_ble_eq_true rfl⟩) hK hP 0 rfl rfl rfl hl.1 rfl (Nat.le_of_ble_eq_true rfl) ⟨Nat.zero_le _, Nat.zero_le _⟩ dX6_digest_47 ?_
  refine q_cS (As := [.long (hx1 (hx1 (hx1 (hx1 4184 (nI (cl σ))) (nI (cw σ))) (σ 84)) (σ 85)), .int ((wst σ 7).1)]) (rest := []) (w := []) ⟨hx, hb, hml, hown, hts⟩ (c_X6_hashed D cy (hx1 (hx1 (hx1 (hx1 4184 (nI (cl σ))) (nI (cw σ))) (σ 84)) (σ 85)) ((wst σ 7).1)) (va_cwS 2 hts gX6_digest_X6_hashed rfl rfl rfl hd_X6_hashed ⟨Nat.le_of_ble_eq_true rfl, Nat.le_of_ble_eq_true rfl⟩) hK q_Pnil rfl hl.1 rfl (Nat.le_of_ble_eq_true rfl) ⟨Nat.zero_le _, Nat.zero_le _⟩ dX6_digest_50 ?_
  refine lv_lstore_n (lv' := [(1, .long (hx1 (hx1 (hx1 (hx1 (hx1 4184 (nI (cl σ))) (nI (cw σ))) (σ 84)) (σ 85)) ((wst σ 7).1))), (0, .ref (a 0))]) hx hb dX6_digest_53 rfl hl (by decide) rfl (fun ls hl => ?_)
  refine lv_aload_n hx hb dX6_digest_54 rfl (lv_at hl 1 rfl) ?_
  refine lv_lload_n hx hb dX6_digest_55 rfl (lv_at hl 0 rfl) ?_
  refine q_cV (As := [.long (hx1 (hx1 (hx1 (hx1 (hx1 4184 (nI (cl σ))) (nI (cw σ))) (σ 84)) (σ 85)) ((wst σ 7).1))]) (rest := []) ⟨hx, hb, hml, hown, hts⟩ (c_X6_hashOfDiscs D cy a σ kept nxt cnt T len pos ph le nu va Z (hx1 (hx1 (hx1 (hx1 (hx1 4184 (nI (cl σ))) (nI (cw σ))) (σ 84)) (σ 85)) ((wst σ 7).1))) (cwV 1 hts gX6_digest_X6_hashOfDiscs rfl rfl rfl hd_X6_hashOfDiscs ⟨Nat.le_of_ble_eq_true rfl, Nat.le_of_ble_eq_true rfl⟩) hK hP 0 rfl rfl rfl hl.1 rfl (Nat.le_of_ble_eq_true rfl) ⟨Nat.zero_le _, Nat.zero_le _⟩ dX6_digest_56 ?_
  refine lv_lstore_n (lv' := [(1, .long (hxD σ (hx1 (hx1 (hx1 (hx1 (hx1 4184 (nI (cl σ))) (nI (cw σ))) (σ 84)) (σ 85)) ((wst σ 7).1)) 7)), (0, .ref (a 0))]) hx hb dX6_digest_59 rfl hl (by decide) rfl (fun ls hl => ?_)
  refine lv_aload_n hx hb dX6_digest_60 rfl (lv_at hl 1 rfl) ?_
  refine lv_lload_n hx hb dX6_digest_61 rfl (lv_at hl 0 rfl) ?_
  refine q_cV (As := [.long (hxD σ (hx1 (hx1 (hx1 (hx1 (hx1 4184 (nI (cl σ))) (nI (cw σ))) (σ 84)) (σ 85)) ((wst σ 7).1)) 7)]) (rest := []) ⟨hx, hb, hml, hown, hts⟩ (c_X6_hashOfAddresses D cy a σ kept nxt cnt T len pos ph le nu va Z (hxD σ (hx1 (hx1 (hx1 (hx1 (hx1 4184 (nI (cl σ))) (nI (cw σ))) (σ 84)) (σ 85)) ((wst σ 7).1)) 7)) (cwV 1 hts gX6_digest_X6_hashOfAddresses rfl rfl rfl hd_X6_hashOfAddresses ⟨Nat.le_of_ble_eq_true rfl, Nat.le_of_ble_eq_true rfl⟩) hK hP 0 rfl rfl rfl hl.1 rfl (Nat.le_of_ble_eq_true rfl) ⟨Nat.zero_le _, Nat.zero_le _⟩ dX6_digest_62 ?_
  refine lv_lstore_n (lv' := [(1, .long (hxA σ (hxD σ (hx1 (hx1 (hx1 (hx1 (hx1 4184 (nI (cl σ))) (nI (cw σ))) (σ 84)) (σ 85)) ((wst σ 7).1)) 7) 42)), (0, .ref (a 0))]) hx hb dX6_digest_65 rfl hl (by decide) rfl (fun ls hl => ?_)
  refine lv_aload_n hx hb dX6_digest_66 rfl (lv_at hl 1 rfl) ?_
  refine lv_lload_n hx hb dX6_digest_67 rfl (lv_at hl 0 rfl) ?_
  refine q_cV (As := [.long (hxA σ (hxD σ (hx1 (hx1 (hx1 (hx1 (hx1 4184 (nI (cl σ))) (nI (cw σ))) (σ 84)) (σ 85)) ((wst σ 7).1)) 7) 42)]) (rest := []) ⟨hx, hb, hml, hown, hts⟩ (c_X6_hashOfUnits D cy a σ kept nxt cnt T len pos ph le nu va Z (hxA σ (hxD σ (hx1 (hx1 (hx1 (hx1 (hx1 4184 (nI (cl σ))) (nI (cw σ))) (σ 84)) (σ 85)) ((wst σ 7).1)) 7) 42)) (cwV 1 hts gX6_digest_X6_hashOfUnits rfl rfl rfl hd_X6_hashOfUnits ⟨Nat.le_of_ble_eq_true rfl, Nat.le_of_ble_eq_true rfl⟩) hK hP 0 rfl rfl rfl hl.1 rfl (Nat.le_of_ble_eq_true rfl) ⟨Nat.zero_le _, Nat.zero_le _⟩ dX6_digest_68 ?_
  exact q_lret hx hb hr hlocks dX6_digest_71 (rfl)
set_option maxHeartbeats 1000000 in
set_option maxRecDepth 100000 in
theorem c_X6_scrub {l : Launch} (D : va_G) (cy : ClassId) (A : Nat → Prop) (a : Nat → Nat) (σ kept : Nat → Int32) (nxt cnt : Nat) (T : Nat → Int32) (len pos : Nat) (ph le nu va : Int32) (Z : va_W) (h_0 : nxt < 6) (h_1 : cnt ≤ 6) : Met l yX6_scrub wsX6_scrub (k2_rm 5 110) (gP D cy [.ref (a 0)] A (wX cy a σ kept nxt cnt T len pos ph le nu va ++ Z)) (gQ D A (some (.int (nI (scC σ 21)))) (wX cy a (scS σ 21) (cpK kept σ (nxt * 86) 86) ((nxt + 1) % 6) (min (cnt + 1) 6) T len pos ph le nu va ++ Z)) 0 0 A := by
  refine q_imp (cc := cX6_scrub) (maxL := 1) (ret := (some .int)) pl_X6 rfl (Nat.le_of_ble_eq_true rfl) ?_
  intro p e s m below meth c ls hx hb hr hml hts hown hlocks hw hK hA hl
  have hP := hw.1
  have hl : lv_has ls 1 [(0, .ref (a 0))] := hl
  refine lv_aload_n hx hb dX6_scrub_0 rfl (lv_at hl 0 rfl) ?_
  refine va_get (D := D) (ci := 6) (v := .ref (a 11)) (C := RX6) (T := TX6) (N := 4) hx hb hts (fun _ h => List.mem_cons_of_mem _ (List.mem_append_left _ (List.mem_append_left _ (List.mem_append_left _ (List.mem_append_left _ (List.mem_append_right _ h)))))) hown hK hP 0 rfl rfl 2 (by decide) (hts (.fieldLink RX6 26 "SpreadParity" "history" "LSpreadParity$History;") (List.mem_of_getElem? (i := 1) rfl)) (fun _ h9 => h9) rfl dX6_scrub_1 ?_
  refine lv_aload_n hx hb dX6_scrub_4 rfl (lv_at hl 0 rfl) ?_
  refine va_get (D := D) (ci := 6) (v := .ref (a 8)) (C := RX6) (T := TX6) (N := 4) hx hb hts (fun _ h => List.mem_cons_of_mem _ (List.mem_append_left _ (List.mem_append_left _ (List.mem_append_left _ (List.mem_append_left _ (List.mem_append_right _ h)))))) hown hK hP 0 rfl rfl 1 (by decide) (hts (.fieldLink RX6 19 "SpreadParity" "now" "LSpreadParity$State;") (List.mem_of_getElem? (i := 2) rfl)) (fun _ h9 => h9) rfl dX6_scrub_5 ?_
  refine q_wV0 (As := [.ref (a 8)]) (rest := []) (st1 := []) ⟨hx, hb, hml, hown, hts⟩ (c_X0_keep D cy A a σ kept nxt cnt T len pos ph le nu va Z (by omega) (by omega)) (cwV 1 hts gX6_scrub_X0_keep rfl rfl rfl hd_X0_keep ⟨Nat.le_of_ble_eq_true rfl, Nat.le_of_ble_eq_true rfl⟩) hK hA hw 11 rfl rfl rfl hl.1 rfl rfl (Nat.le_of_ble_eq_true rfl) ⟨Nat.zero_le _, Nat.zero_le _⟩ dX6_scrub_8 (fun H locs hw => ?_)
  have hw : wS D A (wX cy a σ (cpK kept σ (nxt * 86) 86) ((nxt + 1) % 6) (min (cnt + 1) 6) T len pos ph le nu va ++ Z) s H locs := hw
  have hP := hw.1
  refine lv_aload_n hx hb dX6_scrub_11 rfl (lv_at hl 0 rfl) ?_
  refine q_wV0 (As := []) (rest := []) (st1 := [.int (nI (scC σ 21))]) ⟨hx, hb, hml, hown, hts⟩ (c_X6_scrubStripes D cy A a σ (cpK kept σ (nxt * 86) 86) ((nxt + 1) % 6) (min (cnt + 1) 6) T len pos ph le nu va Z ) (cwV 0 hts gX6_scrub_X6_scrubStripes rfl rfl rfl hd_X6_scrubStripes ⟨Nat.le_of_ble_eq_true rfl, Nat.le_of_ble_eq_true rfl⟩) hK hA hw 0 rfl rfl rfl hl.1 rfl rfl (Nat.le_of_ble_eq_true rfl) ⟨Nat.zero_le _, Nat.zero_le _⟩ dX6_scrub_12 (fun H locs hw => ?_)
  have hw : wS D A (wX cy a (scS σ 21) (cpK kept σ (nxt * 86) 86) ((nxt + 1) % 6) (min (cnt + 1) 6) T len pos ph le nu va ++ Z) s H locs := hw
  have hP := hw.1
  exact q_iretW hx hb hr hlocks hw dX6_scrub_15 (rfl)
set_option maxHeartbeats 1000000 in
set_option maxRecDepth 100000 in
theorem c_X6_savedStates {l : Launch} (D : va_G) (cy : ClassId) (a : Nat → Nat) (σ kept : Nat → Int32) (nxt cnt : Nat) (T : Nat → Int32) (len pos : Nat) (ph le nu va : Int32) (Z : va_W) : Met l yX6_savedStates wsX6_savedStates (k2_rm 1 20) (gR D cy [.ref (a 0)] (wX cy a σ kept nxt cnt T len pos ph le nu va ++ Z)) (k2_QcV (.int (nI (cnt)))) 0 0 (fun _ => False) := by
  refine q_pure (cc := cX6_savedStates) (maxL := 1) (ret := (some .int)) pl_X6 rfl (Nat.le_of_ble_eq_true rfl) ?_
  intro p e s m below meth c ls hx hb hr hml hts hown hlocks hP hK hl
  have hl : lv_has ls 1 [(0, .ref (a 0))] := hl
  refine lv_aload_n hx hb dX6_savedStates_0 rfl (lv_at hl 0 rfl) ?_
  refine va_get (D := D) (ci := 6) (v := .ref (a 11)) (C := RX6) (T := TX6) (N := 4) hx hb hts (fun _ h => List.mem_cons_of_mem _ (List.mem_append_left _ (List.mem_append_right _ h))) hown hK hP 0 rfl rfl 2 (by decide) (hts (.fieldLink RX6 26 "SpreadParity" "history" "LSpreadParity$History;") (List.mem_of_getElem? (i := 1) rfl)) (fun _ h9 => h9) rfl dX6_savedStates_1 ?_
  refine q_cV (As := []) (rest := []) ⟨hx, hb, hml, hown, hts⟩ (c_X0_keptCount D cy a σ kept nxt cnt T len pos ph le nu va Z ) (cwV 0 hts gX6_savedStates_X0_keptCount rfl rfl rfl hd_X0_keptCount ⟨Nat.le_of_ble_eq_true rfl, Nat.le_of_ble_eq_true rfl⟩) hK hP 11 rfl rfl rfl hl.1 rfl (Nat.le_of_ble_eq_true rfl) ⟨Nat.zero_le _, Nat.zero_le _⟩ dX6_savedStates_4 ?_
  exact q_iret hx hb hr hlocks dX6_savedStates_7 (rfl)
