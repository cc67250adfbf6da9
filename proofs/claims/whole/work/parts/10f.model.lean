set_option maxHeartbeats 1000000 in
set_option maxRecDepth 100000 in
theorem c_X7_isWhole {l : Launch} (D : va_G) (cy : ClassId) (b : Nat → Nat) (σ saved : Nat → Int32) (many : Nat) (bef T : Nat → Int32) (len thr at_ : Nat) (le f1 f2 : Int32) (dn : Nat) (hs : Int64) (Z : va_W) (sn : Nat) (h_0 : sn < 21) : Met l yX7_isWhole wsX7_isWhole (k2_rm 4 90) (gR D cy [.ref (b 0), .int (nI (sn))] (wM cy b (mS σ) saved many bef T len thr at_ le f1 f2 dn hs ++ Z)) (k2_QcV (.int (bI (whl σ sn)))) 0 0 (fun _ => False) := by
  refine q_pure (cc := cX7_isWhole) (maxL := 2) (ret := (some .boolean)) pl_X7 rfl (Nat.le_of_ble_eq_true rfl) ?_
  intro p e s m below meth c ls hx hb hr hml hts hown hlocks hP hK hl
  have hl : lv_has ls 2 [(0, .ref (b 0)), (1, .int (nI (sn)))] := hl
  refine lv_aload_n hx hb dX7_isWhole_0 rfl (lv_at hl 0 rfl) ?_
  refine lv_iload_n hx hb dX7_isWhole_1 rfl (lv_at hl 1 rfl) ?_
  refine lv_iconst (v := nI 0) hx hb dX7_isWhole_2 rfl ?_
  refine q_cV (As := [.int (nI (sn)), .int (nI (0))]) (rest := []) ⟨hx, hb, hml, hown, hts⟩ (c_X7_isThere D cy b σ saved many bef T len thr at_ le f1 f2 dn hs Z (sn) (0) (by omega) (by omega)) (cwV 2 hts gX7_isWhole_X7_isThere rfl rfl rfl hd_X7_isThere ⟨Nat.le_of_ble_eq_true rfl, Nat.le_of_ble_eq_true rfl⟩) hK hP 0 rfl rfl rfl hl.1 rfl (Nat.le_of_ble_eq_true rfl) ⟨Nat.zero_le _, Nat.zero_le _⟩ dX7_isWhole_3 ?_
  refine q_top (show (bI (th σ (spT (3 * sn + 0)))) = bI (th σ (spT (3 * sn))) from rfl) ?_
  refine q_ifeqB (tgt := 31) hx hb dX7_isWhole_6 (by decide) (fun c_6 => ?_) (fun c_6 => ?_)
  · refine lv_iconst (v := nI 0) hx hb dX7_isWhole_31 rfl ?_
    exact q_zret hx hb hr hlocks dX7_isWhole_32 (by simp [whl, c_6, bI, nI_0, nI1])
  · refine lv_aload_n hx hb dX7_isWhole_9 rfl (lv_at hl 0 rfl) ?_
    refine lv_iload_n hx hb dX7_isWhole_10 rfl (lv_at hl 1 rfl) ?_
    refine lv_iconst (v := nI 1) hx hb dX7_isWhole_11 rfl ?_
    refine q_cV (As := [.int (nI (sn)), .int (nI (1))]) (rest := []) ⟨hx, hb, hml, hown, hts⟩ (c_X7_isThere D cy b σ saved many bef T len thr at_ le f1 f2 dn hs Z (sn) (1) (by omega) (by omega)) (cwV 2 hts gX7_isWhole_X7_isThere rfl rfl rfl hd_X7_isThere ⟨Nat.le_of_ble_eq_true rfl, Nat.le_of_ble_eq_true rfl⟩) hK hP 0 rfl rfl rfl hl.1 rfl (Nat.le_of_ble_eq_true rfl) ⟨Nat.zero_le _, Nat.zero_le _⟩ dX7_isWhole_12 ?_
    refine q_ifeqB (tgt := 31) hx hb dX7_isWhole_15 (by decide) (fun c_15 => ?_) (fun c_15 => ?_)
    · refine lv_iconst (v := nI 0) hx hb dX7_isWhole_31 rfl ?_
      exact q_zret hx hb hr hlocks dX7_isWhole_32 (by simp [whl, c_6, c_15, bI, nI_0, nI1])
    · refine lv_aload_n hx hb dX7_isWhole_18 rfl (lv_at hl 0 rfl) ?_
      refine lv_iload_n hx hb dX7_isWhole_19 rfl (lv_at hl 1 rfl) ?_
      refine lv_iconst (v := nI 2) hx hb dX7_isWhole_20 rfl ?_
      refine q_cV (As := [.int (nI (sn)), .int (nI (2))]) (rest := []) ⟨hx, hb, hml, hown, hts⟩ (c_X7_isThere D cy b σ saved many bef T len thr at_ le f1 f2 dn hs Z (sn) (2) (by omega) (by omega)) (cwV 2 hts gX7_isWhole_X7_isThere rfl rfl rfl hd_X7_isThere ⟨Nat.le_of_ble_eq_true rfl, Nat.le_of_ble_eq_true rfl⟩) hK hP 0 rfl rfl rfl hl.1 rfl (Nat.le_of_ble_eq_true rfl) ⟨Nat.zero_le _, Nat.zero_le _⟩ dX7_isWhole_21 ?_
      refine q_ifeqB (tgt := 31) hx hb dX7_isWhole_24 (by decide) (fun c_24 => ?_) (fun c_24 => ?_)
      · refine lv_iconst (v := nI 0) hx hb dX7_isWhole_31 rfl ?_
        exact q_zret hx hb hr hlocks dX7_isWhole_32 (by simp [whl, c_6, c_15, c_24, bI, nI_0, nI1])
      · refine lv_iconst (v := nI 1) hx hb dX7_isWhole_27 rfl ?_
        refine lv_goto (tgt := 32) hx hb dX7_isWhole_28 (by decide) ?_
        exact q_zret hx hb hr hlocks dX7_isWhole_32 (by simp [whl, c_6, c_15, c_24, bI, nI_0, nI1])
set_option maxHeartbeats 1000000 in
set_option maxRecDepth 100000 in
theorem c_X7_isWrong {l : Launch} (D : va_G) (cy : ClassId) (b : Nat → Nat) (σ saved : Nat → Int32) (many : Nat) (bef T : Nat → Int32) (len thr at_ : Nat) (le f1 f2 : Int32) (dn : Nat) (hs : Int64) (Z : va_W) (sn : Nat) (h_0 : sn < 21) : Met l yX7_isWrong wsX7_isWrong (k2_rm 5 111) (gR D cy [.ref (b 0), .int (nI (sn))] (wM cy b (mS σ) saved many bef T len thr at_ le f1 f2 dn hs ++ Z)) (k2_QcV (.int (bI (wrg σ sn)))) 0 0 (fun _ => False) := by
  refine q_pure (cc := cX7_isWrong) (maxL := 2) (ret := (some .boolean)) pl_X7 rfl (Nat.le_of_ble_eq_true rfl) ?_
  intro p e s m below meth c ls hx hb hr hml hts hown hlocks hP hK hl
  have hl : lv_has ls 2 [(0, .ref (b 0)), (1, .int (nI (sn)))] := hl
  refine lv_aload_n hx hb dX7_isWrong_0 rfl (lv_at hl 0 rfl) ?_
  refine lv_iload_n hx hb dX7_isWrong_1 rfl (lv_at hl 1 rfl) ?_
  refine q_cV (As := [.int (nI (sn))]) (rest := []) ⟨hx, hb, hml, hown, hts⟩ (c_X7_isWhole D cy b σ saved many bef T len thr at_ le f1 f2 dn hs Z (sn) (by omega)) (cwV 1 hts gX7_isWrong_X7_isWhole rfl rfl rfl hd_X7_isWhole ⟨Nat.le_of_ble_eq_true rfl, Nat.le_of_ble_eq_true rfl⟩) hK hP 0 rfl rfl rfl hl.1 rfl (Nat.le_of_ble_eq_true rfl) ⟨Nat.zero_le _, Nat.zero_le _⟩ dX7_isWrong_2 ?_
  refine q_ifeqB (tgt := 34) hx hb dX7_isWrong_5 (by decide) (fun c_5 => ?_) (fun c_5 => ?_)
  · refine lv_iconst (v := nI 0) hx hb dX7_isWrong_34 rfl ?_
    exact q_zret hx hb hr hlocks dX7_isWrong_35 (by simp [wrg, c_5, bI, nI_0, nI1])
  · refine lv_aload_n hx hb dX7_isWrong_8 rfl (lv_at hl 0 rfl) ?_
    refine lv_iload_n hx hb dX7_isWrong_9 rfl (lv_at hl 1 rfl) ?_
    refine lv_iconst (v := nI 0) hx hb dX7_isWrong_10 rfl ?_
    refine q_cV (As := [.int (nI (sn)), .int (nI (0))]) (rest := []) ⟨hx, hb, hml, hown, hts⟩ (c_X7_valueOf D cy b σ saved many bef T len thr at_ le f1 f2 dn hs Z (sn) (0) (by omega) (by omega)) (cwV 2 hts gX7_isWrong_X7_valueOf rfl rfl rfl hd_X7_valueOf ⟨Nat.le_of_ble_eq_true rfl, Nat.le_of_ble_eq_true rfl⟩) hK hP 0 rfl rfl rfl hl.1 rfl (Nat.le_of_ble_eq_true rfl) ⟨Nat.zero_le _, Nat.zero_le _⟩ dX7_isWrong_11 ?_
    refine q_top (show (σ (spT (3 * sn + 0))) = σ (spT (3 * sn)) from rfl) ?_
    refine lv_aload_n hx hb dX7_isWrong_14 rfl (lv_at hl 0 rfl) ?_
    refine lv_iload_n hx hb dX7_isWrong_15 rfl (lv_at hl 1 rfl) ?_
    refine lv_iconst (v := nI 1) hx hb dX7_isWrong_16 rfl ?_
    refine q_cV (As := [.int (nI (sn)), .int (nI (1))]) (rest := [.int (σ (spT (3 * sn)))]) ⟨hx, hb, hml, hown, hts⟩ (c_X7_valueOf D cy b σ saved many bef T len thr at_ le f1 f2 dn hs Z (sn) (1) (by omega) (by omega)) (cwV 2 hts gX7_isWrong_X7_valueOf rfl rfl rfl hd_X7_valueOf ⟨Nat.le_of_ble_eq_true rfl, Nat.le_of_ble_eq_true rfl⟩) hK hP 0 rfl rfl rfl hl.1 rfl (Nat.le_of_ble_eq_true rfl) ⟨Nat.zero_le _, Nat.zero_le _⟩ dX7_isWrong_17 ?_
    refine lv_ixor hx hb dX7_isWrong_20 ?_
    refine lv_aload_n hx hb dX7_isWrong_21 rfl (lv_at hl 0 rfl) ?_
    refine lv_iload_n hx hb dX7_isWrong_22 rfl (lv_at hl 1 rfl) ?_
    refine lv_iconst (v := nI 2) hx hb dX7_isWrong_23 rfl ?_
    refine q_cV (As := [.int (nI (sn)), .int (nI (2))]) (rest := [.int ((σ (spT (3 * sn))) ^^^ (σ (spT (3 * sn + 1))))]) ⟨hx, hb, hml, hown, hts⟩ (c_X7_valueOf D cy b σ saved many bef T len thr at_ le f1 f2 dn hs Z (sn) (2) (by omega) (by omega)) (cwV 2 hts gX7_isWrong_X7_valueOf rfl rfl rfl hd_X7_valueOf ⟨Nat.le_of_ble_eq_true rfl, Nat.le_of_ble_eq_true rfl⟩) hK hP 0 rfl rfl rfl hl.1 rfl (Nat.le_of_ble_eq_true rfl) ⟨Nat.zero_le _, Nat.zero_le _⟩ dX7_isWrong_24 ?_
    refine lv_icmp_eq (tgt := 34) hx hb dX7_isWrong_27 (by decide) (fun (c_27 : ((σ (spT (3 * sn))) ^^^ (σ (spT (3 * sn + 1)))) = (σ (spT (3 * sn + 2)))) => ?_) (fun (c_27 : ¬ ((σ (spT (3 * sn))) ^^^ (σ (spT (3 * sn + 1)))) = (σ (spT (3 * sn + 2)))) => ?_)
    · refine lv_iconst (v := nI 0) hx hb dX7_isWrong_34 rfl ?_
      exact q_zret hx hb hr hlocks dX7_isWrong_35 (by simp [wrg, c_5, c_27, bI, nI_0, nI1])
    · refine lv_iconst (v := nI 1) hx hb dX7_isWrong_30 rfl ?_
      refine lv_goto (tgt := 35) hx hb dX7_isWrong_31 (by decide) ?_
      exact q_zret hx hb hr hlocks dX7_isWrong_35 (by simp [wrg, c_5, c_27, bI, nI_0, nI1])
set_option maxHeartbeats 1000000 in
set_option maxRecDepth 100000 in
theorem c_X7_canWrite {l : Launch} (D : va_G) (cy : ClassId) (b : Nat → Nat) (σ saved : Nat → Int32) (many : Nat) (bef T : Nat → Int32) (len thr at_ : Nat) (le f1 f2 : Int32) (dn : Nat) (hs : Int64) (Z : va_W) (q : Nat) (h_0 : q < 42) : Met l yX7_canWrite wsX7_canWrite (k2_rm 4 90) (gR D cy [.ref (b 0), .int (nI (q))] (wM cy b (mS σ) saved many bef T len thr at_ le f1 f2 dn hs ++ Z)) (k2_QcV (.int (bI (canW σ q)))) 0 0 (fun _ => False) := by
  refine q_pure (cc := cX7_canWrite) (maxL := 4) (ret := (some .boolean)) pl_X7 rfl (Nat.le_of_ble_eq_true rfl) ?_
  intro p e s m below meth c ls hx hb hr hml hts hown hlocks hP hK hl
  have hl : lv_has ls 4 [(0, .ref (b 0)), (1, .int (nI (q)))] := hl
  refine lv_iload_n hx hb dX7_canWrite_0 rfl (lv_at hl 1 rfl) ?_
  refine lv_iconst (v := nI 2) hx hb dX7_canWrite_1 rfl ?_
  refine q_divN hx hb dX7_canWrite_2 (by omega) (by omega) (by omega) ?_
  refine lv_istore_n (lv' := [(2, .int (nI (q / 2))), (0, .ref (b 0)), (1, .int (nI (q)))]) hx hb dX7_canWrite_3 rfl hl (by decide) rfl (fun ls hl => ?_)
  refine lv_iload_n hx hb dX7_canWrite_4 rfl (lv_at hl 2 rfl) ?_
  refine lv_iconst (v := nI 2) hx hb dX7_canWrite_5 rfl ?_
  refine q_remN hx hb dX7_canWrite_6 (by omega) (by omega) (by omega) ?_
  refine lv_istore_n (lv' := [(3, .int (nI (q % 2))), (2, .int (nI (q / 2))), (0, .ref (b 0)), (1, .int (nI (q)))]) hx hb dX7_canWrite_7 rfl hl (by decide) rfl (fun ls hl => ?_)
  refine lv_aload_n hx hb dX7_canWrite_8 rfl (lv_at hl 2 rfl) ?_
  refine lv_iload_n hx hb dX7_canWrite_9 rfl (lv_at hl 1 rfl) ?_
  refine lv_iload_n hx hb dX7_canWrite_10 rfl (lv_at hl 0 rfl) ?_
  refine q_cV (As := [.int (nI (q / 2)), .int (nI (q % 2))]) (rest := []) ⟨hx, hb, hml, hown, hts⟩ (c_X7_isThere D cy b σ saved many bef T len thr at_ le f1 f2 dn hs Z (q / 2) (q % 2) (by omega) (by omega)) (cwV 2 hts gX7_canWrite_X7_isThere rfl rfl rfl hd_X7_isThere ⟨Nat.le_of_ble_eq_true rfl, Nat.le_of_ble_eq_true rfl⟩) hK hP 0 rfl rfl rfl hl.1 rfl (Nat.le_of_ble_eq_true rfl) ⟨Nat.zero_le _, Nat.zero_le _⟩ dX7_canWrite_11 ?_
  refine q_top (show (bI (th σ (spT (3 * (q / 2) + (q % 2))))) = bI (th σ (ad q)) from rfl) ?_
  refine q_ifneB (tgt := 37) hx hb dX7_canWrite_14 (by decide) (fun c_14 => ?_) (fun c_14 => ?_)
  · refine lv_iconst (v := nI 1) hx hb dX7_canWrite_37 rfl ?_
    refine lv_goto (tgt := 42) hx hb dX7_canWrite_38 (by decide) ?_
    exact q_zret hx hb hr hlocks dX7_canWrite_42 (by rw [canW, lo, cf_ad h_0]; simp [c_14, bI, nI_0, nI1])
  · refine lv_aload_n hx hb dX7_canWrite_17 rfl (lv_at hl 2 rfl) ?_
    refine lv_iload_n hx hb dX7_canWrite_18 rfl (lv_at hl 1 rfl) ?_
    refine lv_iconst (v := nI 1) hx hb dX7_canWrite_19 rfl ?_
    refine lv_iload_n hx hb dX7_canWrite_20 rfl (lv_at hl 0 rfl) ?_
    refine q_subN hx hb dX7_canWrite_21 (by omega) ?_
    refine q_cV (As := [.int (nI (q / 2)), .int (nI (1 - (q % 2)))]) (rest := []) ⟨hx, hb, hml, hown, hts⟩ (c_X7_isThere D cy b σ saved many bef T len thr at_ le f1 f2 dn hs Z (q / 2) (1 - (q % 2)) (by omega) (by omega)) (cwV 2 hts gX7_canWrite_X7_isThere rfl rfl rfl hd_X7_isThere ⟨Nat.le_of_ble_eq_true rfl, Nat.le_of_ble_eq_true rfl⟩) hK hP 0 rfl rfl rfl hl.1 rfl (Nat.le_of_ble_eq_true rfl) ⟨Nat.zero_le _, Nat.zero_le _⟩ dX7_canWrite_22 ?_
    refine q_top (show (bI (th σ (spT (3 * (q / 2) + (1 - (q % 2)))))) = bI (th σ (adO q)) from rfl) ?_
    refine q_ifeqB (tgt := 41) hx hb dX7_canWrite_25 (by decide) (fun c_25 => ?_) (fun c_25 => ?_)
    · refine lv_iconst (v := nI 0) hx hb dX7_canWrite_41 rfl ?_
      exact q_zret hx hb hr hlocks dX7_canWrite_42 (by rw [canW, lo, cf_ad h_0]; simp [c_14, c_25, bI, nI_0, nI1])
    · refine lv_aload_n hx hb dX7_canWrite_28 rfl (lv_at hl 2 rfl) ?_
      refine lv_iload_n hx hb dX7_canWrite_29 rfl (lv_at hl 1 rfl) ?_
      refine lv_iconst (v := nI 2) hx hb dX7_canWrite_30 rfl ?_
      refine q_cV (As := [.int (nI (q / 2)), .int (nI (2))]) (rest := []) ⟨hx, hb, hml, hown, hts⟩ (c_X7_isThere D cy b σ saved many bef T len thr at_ le f1 f2 dn hs Z (q / 2) (2) (by omega) (by omega)) (cwV 2 hts gX7_canWrite_X7_isThere rfl rfl rfl hd_X7_isThere ⟨Nat.le_of_ble_eq_true rfl, Nat.le_of_ble_eq_true rfl⟩) hK hP 0 rfl rfl rfl hl.1 rfl (Nat.le_of_ble_eq_true rfl) ⟨Nat.zero_le _, Nat.zero_le _⟩ dX7_canWrite_31 ?_
      refine q_top (show (bI (th σ (spT (3 * (q / 2) + 2)))) = bI (th σ (adP q)) from rfl) ?_
      refine q_ifeqB (tgt := 41) hx hb dX7_canWrite_34 (by decide) (fun c_34 => ?_) (fun c_34 => ?_)
      · refine lv_iconst (v := nI 0) hx hb dX7_canWrite_41 rfl ?_
        exact q_zret hx hb hr hlocks dX7_canWrite_42 (by rw [canW, lo, cf_ad h_0]; simp [c_14, c_25, c_34, bI, nI_0, nI1])
      · refine lv_iconst (v := nI 1) hx hb dX7_canWrite_37 rfl ?_
        refine lv_goto (tgt := 42) hx hb dX7_canWrite_38 (by decide) ?_
        exact q_zret hx hb hr hlocks dX7_canWrite_42 (by rw [canW, lo, cf_ad h_0]; simp [c_14, c_25, c_34, bI, nI_0, nI1])
set_option maxHeartbeats 1000000 in
set_option maxRecDepth 100000 in
theorem c_X7_doWrite {l : Launch} (D : va_G) (cy : ClassId) (A : Nat → Prop) (b : Nat → Nat) (σ saved : Nat → Int32) (many : Nat) (bef T : Nat → Int32) (len thr at_ : Nat) (le f1 f2 : Int32) (dn : Nat) (hs : Int64) (Z : va_W) (q : Nat) (v : Int32) (h_0 : q < 42) : Met l yX7_doWrite wsX7_doWrite (k2_rm 4 91) (gP D cy [.ref (b 0), .int (nI (q)), .int (v)] A (wM cy b (mS σ) saved many bef T len thr at_ le f1 f2 dn hs ++ Z)) (gQ D A (some (.int (nI (wC σ q)))) (wM cy b (mS (wD σ q v)) saved many bef T len thr at_ le f1 f2 dn hs ++ Z)) 0 0 A := by
  refine q_imp (cc := cX7_doWrite) (maxL := 5) (ret := (some .int)) pl_X7 rfl (Nat.le_of_ble_eq_true rfl) ?_
  intro p e s m below meth c ls hx hb hr hml hts hown hlocks hw hK hA hl
  have hP := hw.1
  have hl : lv_has ls 5 [(0, .ref (b 0)), (1, .int (nI (q))), (2, .int (v))] := hl
  refine lv_iload_n hx hb dX7_doWrite_0 rfl (lv_at hl 1 rfl) ?_
  refine lv_iconst (v := nI 2) hx hb dX7_doWrite_1 rfl ?_
  refine q_divN hx hb dX7_doWrite_2 (by omega) (by omega) (by omega) ?_
  refine lv_istore_n (lv' := [(3, .int (nI (q / 2))), (0, .ref (b 0)), (1, .int (nI (q))), (2, .int (v))]) hx hb dX7_doWrite_3 rfl hl (by decide) rfl (fun ls hl => ?_)
  refine lv_iload_n hx hb dX7_doWrite_4 rfl (lv_at hl 2 rfl) ?_
  refine lv_iconst (v := nI 2) hx hb dX7_doWrite_5 rfl ?_
  refine q_remN hx hb dX7_doWrite_6 (by omega) (by omega) (by omega) ?_
  refine lv_istore (lv' := [(4, .int (nI (q % 2))), (3, .int (nI (q / 2))), (0, .ref (b 0)), (1, .int (nI (q))), (2, .int (v))]) hx hb dX7_doWrite_7 hl (by decide) rfl (fun ls hl => ?_)
  refine lv_aload_n hx hb dX7_doWrite_9 rfl (lv_at hl 2 rfl) ?_
  refine lv_iload_n hx hb dX7_doWrite_10 rfl (lv_at hl 1 rfl) ?_
  refine lv_iload hx hb dX7_doWrite_11 (lv_at hl 0 rfl) ?_
  refine q_cV (As := [.int (nI (q / 2)), .int (nI (q % 2))]) (rest := []) ⟨hx, hb, hml, hown, hts⟩ (c_X7_isThere D cy b σ saved many bef T len thr at_ le f1 f2 dn hs Z (q / 2) (q % 2) (by omega) (by omega)) (cwV 2 hts gX7_doWrite_X7_isThere rfl rfl rfl hd_X7_isThere ⟨Nat.le_of_ble_eq_true rfl, Nat.le_of_ble_eq_true rfl⟩) hK hP 0 rfl rfl rfl hl.1 rfl (Nat.le_of_ble_eq_true rfl) ⟨Nat.zero_le _, Nat.zero_le _⟩ dX7_doWrite_13 ?_
  refine q_top (show (bI (th σ (spT (3 * (q / 2) + (q % 2))))) = bI (th σ (ad q)) from rfl) ?_
  refine q_ifneB (tgt := 47) hx hb dX7_doWrite_16 (by decide) (fun c_16 => ?_) (fun c_16 => ?_)
  · refine lv_aload_n hx hb dX7_doWrite_47 rfl (lv_at hl 2 rfl) ?_
    refine lv_iload_n hx hb dX7_doWrite_48 rfl (lv_at hl 1 rfl) ?_
    refine lv_iconst (v := nI 2) hx hb dX7_doWrite_49 rfl ?_
    refine q_cV (As := [.int (nI (q / 2)), .int (nI (2))]) (rest := []) ⟨hx, hb, hml, hown, hts⟩ (c_X7_isThere D cy b σ saved many bef T len thr at_ le f1 f2 dn hs Z (q / 2) (2) (by omega) (by omega)) (cwV 2 hts gX7_doWrite_X7_isThere rfl rfl rfl hd_X7_isThere ⟨Nat.le_of_ble_eq_true rfl, Nat.le_of_ble_eq_true rfl⟩) hK hP 0 rfl rfl rfl hl.1 rfl (Nat.le_of_ble_eq_true rfl) ⟨Nat.zero_le _, Nat.zero_le _⟩ dX7_doWrite_50 ?_
    refine q_top (show (bI (th σ (spT (3 * (q / 2) + 2)))) = bI (th σ (adP q)) from rfl) ?_
    refine q_ifneB (tgt := 66) hx hb dX7_doWrite_53 (by decide) (fun c_53 => ?_) (fun c_53 => ?_)
    · refine lv_aload_n hx hb dX7_doWrite_66 rfl (lv_at hl 2 rfl) ?_
      refine lv_iload_n hx hb dX7_doWrite_67 rfl (lv_at hl 1 rfl) ?_
      refine lv_iload hx hb dX7_doWrite_68 (lv_at hl 0 rfl) ?_
      refine q_wV0 (As := [.int (nI (q / 2)), .int (nI (q % 2))]) (rest := []) (st1 := []) ⟨hx, hb, hml, hown, hts⟩ (c_X7_countRead D cy A b σ saved many bef T len thr at_ le f1 f2 dn hs Z (q / 2) (q % 2) (by omega) (by omega)) (cwV 2 hts gX7_doWrite_X7_countRead rfl rfl rfl hd_X7_countRead ⟨Nat.le_of_ble_eq_true rfl, Nat.le_of_ble_eq_true rfl⟩) hK hA hw 0 rfl rfl rfl hl.1 rfl rfl (Nat.le_of_ble_eq_true rfl) ⟨Nat.zero_le _, Nat.zero_le _⟩ dX7_doWrite_70 (fun H locs hw => ?_)
      have hw : wS D A (wM cy b (mS (rdS σ (spT (3 * (q / 2) + (q % 2))))) saved many bef T len thr at_ le f1 f2 dn hs ++ Z) s H locs := hw
      have hP := hw.1
      refine lv_aload_n hx hb dX7_doWrite_73 rfl (lv_at hl 2 rfl) ?_
      refine lv_iload_n hx hb dX7_doWrite_74 rfl (lv_at hl 1 rfl) ?_
      refine lv_iconst (v := nI 2) hx hb dX7_doWrite_75 rfl ?_
      refine q_wV0 (As := [.int (nI (q / 2)), .int (nI (2))]) (rest := []) (st1 := []) ⟨hx, hb, hml, hown, hts⟩ (c_X7_countRead D cy A b (rdS σ (spT (3 * (q / 2) + (q % 2)))) saved many bef T len thr at_ le f1 f2 dn hs Z (q / 2) (2) (by omega) (by omega)) (cwV 2 hts gX7_doWrite_X7_countRead rfl rfl rfl hd_X7_countRead ⟨Nat.le_of_ble_eq_true rfl, Nat.le_of_ble_eq_true rfl⟩) hK hA hw 0 rfl rfl rfl hl.1 rfl rfl (Nat.le_of_ble_eq_true rfl) ⟨Nat.zero_le _, Nat.zero_le _⟩ dX7_doWrite_76 (fun H locs hw => ?_)
      have hw : wS D A (wM cy b (mS (rdS (rdS σ (spT (3 * (q / 2) + (q % 2)))) (spT (3 * (q / 2) + 2)))) saved many bef T len thr at_ le f1 f2 dn hs ++ Z) s H locs := hw
      have hP := hw.1
      refine lv_aload_n hx hb dX7_doWrite_79 rfl (lv_at hl 2 rfl) ?_
      refine lv_iload_n hx hb dX7_doWrite_80 rfl (lv_at hl 1 rfl) ?_
      refine lv_iconst (v := nI 2) hx hb dX7_doWrite_81 rfl ?_
      refine lv_aload_n hx hb dX7_doWrite_82 rfl (lv_at hl 2 rfl) ?_
      refine lv_iload_n hx hb dX7_doWrite_83 rfl (lv_at hl 1 rfl) ?_
      refine lv_iconst (v := nI 2) hx hb dX7_doWrite_84 rfl ?_
      refine q_cV (As := [.int (nI (q / 2)), .int (nI (2))]) (rest := [.int (nI (2)), .int (nI (q / 2)), .ref (b 0)]) ⟨hx, hb, hml, hown, hts⟩ (c_X7_valueOf D cy b (rdS (rdS σ (spT (3 * (q / 2) + (q % 2)))) (spT (3 * (q / 2) + 2))) saved many bef T len thr at_ le f1 f2 dn hs Z (q / 2) (2) (by omega) (by omega)) (cwV 2 hts gX7_doWrite_X7_valueOf rfl rfl rfl hd_X7_valueOf ⟨Nat.le_of_ble_eq_true rfl, Nat.le_of_ble_eq_true rfl⟩) hK hP 0 rfl rfl rfl hl.1 rfl (Nat.le_of_ble_eq_true rfl) ⟨Nat.zero_le _, Nat.zero_le _⟩ dX7_doWrite_85 ?_
      refine lv_aload_n hx hb dX7_doWrite_88 rfl (lv_at hl 2 rfl) ?_
      refine lv_iload_n hx hb dX7_doWrite_89 rfl (lv_at hl 1 rfl) ?_
      refine lv_iload hx hb dX7_doWrite_90 (lv_at hl 0 rfl) ?_
      refine q_cV (As := [.int (nI (q / 2)), .int (nI (q % 2))]) (rest := [.int ((rdS (rdS σ (spT (3 * (q / 2) + (q % 2)))) (spT (3 * (q / 2) + 2))) (spT (3 * (q / 2) + 2))), .int (nI (2)), .int (nI (q / 2)), .ref (b 0)]) ⟨hx, hb, hml, hown, hts⟩ (c_X7_valueOf D cy b (rdS (rdS σ (spT (3 * (q / 2) + (q % 2)))) (spT (3 * (q / 2) + 2))) saved many bef T len thr at_ le f1 f2 dn hs Z (q / 2) (q % 2) (by omega) (by omega)) (cwV 2 hts gX7_doWrite_X7_valueOf rfl rfl rfl hd_X7_valueOf ⟨Nat.le_of_ble_eq_true rfl, Nat.le_of_ble_eq_true rfl⟩) hK hP 0 rfl rfl rfl hl.1 rfl (Nat.le_of_ble_eq_true rfl) ⟨Nat.zero_le _, Nat.zero_le _⟩ dX7_doWrite_92 ?_
      refine lv_ixor hx hb dX7_doWrite_95 ?_
      refine lv_iload_n hx hb dX7_doWrite_96 rfl (lv_at hl 4 rfl) ?_
      refine lv_ixor hx hb dX7_doWrite_97 ?_
      refine q_wV0 (As := [.int (nI (q / 2)), .int (nI (2)), .int ((((rdS (rdS σ (spT (3 * (q / 2) + (q % 2)))) (spT (3 * (q / 2) + 2))) (spT (3 * (q / 2) + 2))) ^^^ ((rdS (rdS σ (spT (3 * (q / 2) + (q % 2)))) (spT (3 * (q / 2) + 2))) (spT (3 * (q / 2) + (q % 2))))) ^^^ v)]) (rest := []) (st1 := []) ⟨hx, hb, hml, hown, hts⟩ (c_X7_lay D cy A b (rdS (rdS σ (spT (3 * (q / 2) + (q % 2)))) (spT (3 * (q / 2) + 2))) saved many bef T len thr at_ le f1 f2 dn hs Z (q / 2) (2) ((((rdS (rdS σ (spT (3 * (q / 2) + (q % 2)))) (spT (3 * (q / 2) + 2))) (spT (3 * (q / 2) + 2))) ^^^ ((rdS (rdS σ (spT (3 * (q / 2) + (q % 2)))) (spT (3 * (q / 2) + 2))) (spT (3 * (q / 2) + (q % 2))))) ^^^ v) (by omega) (by omega)) (cwV 3 hts gX7_doWrite_X7_lay rfl rfl rfl hd_X7_lay ⟨Nat.le_of_ble_eq_true rfl, Nat.le_of_ble_eq_true rfl⟩) hK hA hw 0 rfl rfl rfl hl.1 rfl rfl (Nat.le_of_ble_eq_true rfl) ⟨Nat.zero_le _, Nat.zero_le _⟩ dX7_doWrite_98 (fun H locs hw => ?_)
      have hw : wS D A (wM cy b (mS (wrS (rdS (rdS σ (spT (3 * (q / 2) + (q % 2)))) (spT (3 * (q / 2) + 2))) (spT (3 * (q / 2) + 2)) ((((rdS (rdS σ (spT (3 * (q / 2) + (q % 2)))) (spT (3 * (q / 2) + 2))) (spT (3 * (q / 2) + 2))) ^^^ ((rdS (rdS σ (spT (3 * (q / 2) + (q % 2)))) (spT (3 * (q / 2) + 2))) (spT (3 * (q / 2) + (q % 2))))) ^^^ v))) saved many bef T len thr at_ le f1 f2 dn hs ++ Z) s H locs := hw
      have hP := hw.1
      refine lv_aload_n hx hb dX7_doWrite_101 rfl (lv_at hl 2 rfl) ?_
      refine lv_iload_n hx hb dX7_doWrite_102 rfl (lv_at hl 1 rfl) ?_
      refine lv_iload hx hb dX7_doWrite_103 (lv_at hl 0 rfl) ?_
      refine lv_iload_n hx hb dX7_doWrite_105 rfl (lv_at hl 4 rfl) ?_
      refine q_wV0 (As := [.int (nI (q / 2)), .int (nI (q % 2)), .int (v)]) (rest := []) (st1 := []) ⟨hx, hb, hml, hown, hts⟩ (c_X7_lay D cy A b (wrS (rdS (rdS σ (spT (3 * (q / 2) + (q % 2)))) (spT (3 * (q / 2) + 2))) (spT (3 * (q / 2) + 2)) ((((rdS (rdS σ (spT (3 * (q / 2) + (q % 2)))) (spT (3 * (q / 2) + 2))) (spT (3 * (q / 2) + 2))) ^^^ ((rdS (rdS σ (spT (3 * (q / 2) + (q % 2)))) (spT (3 * (q / 2) + 2))) (spT (3 * (q / 2) + (q % 2))))) ^^^ v)) saved many bef T len thr at_ le f1 f2 dn hs Z (q / 2) (q % 2) (v) (by omega) (by omega)) (cwV 3 hts gX7_doWrite_X7_lay rfl rfl rfl hd_X7_lay ⟨Nat.le_of_ble_eq_true rfl, Nat.le_of_ble_eq_true rfl⟩) hK hA hw 0 rfl rfl rfl hl.1 rfl rfl (Nat.le_of_ble_eq_true rfl) ⟨Nat.zero_le _, Nat.zero_le _⟩ dX7_doWrite_106 (fun H locs hw => ?_)
      have hw : wS D A (wM cy b (mS (wrS (wrS (rdS (rdS σ (spT (3 * (q / 2) + (q % 2)))) (spT (3 * (q / 2) + 2))) (spT (3 * (q / 2) + 2)) ((((rdS (rdS σ (spT (3 * (q / 2) + (q % 2)))) (spT (3 * (q / 2) + 2))) (spT (3 * (q / 2) + 2))) ^^^ ((rdS (rdS σ (spT (3 * (q / 2) + (q % 2)))) (spT (3 * (q / 2) + 2))) (spT (3 * (q / 2) + (q % 2))))) ^^^ v)) (spT (3 * (q / 2) + (q % 2))) v)) saved many bef T len thr at_ le f1 f2 dn hs ++ Z) s H locs := hw
      have hP := hw.1
      refine lv_iconst (v := nI 4) hx hb dX7_doWrite_109 rfl ?_
      rw [show wrS (wrS (rdS (rdS σ (spT (3 * (q / 2) + (q % 2)))) (spT (3 * (q / 2) + 2))) (spT (3 * (q / 2) + 2)) ((((rdS (rdS σ (spT (3 * (q / 2) + (q % 2)))) (spT (3 * (q / 2) + 2))) (spT (3 * (q / 2) + 2))) ^^^ ((rdS (rdS σ (spT (3 * (q / 2) + (q % 2)))) (spT (3 * (q / 2) + 2))) (spT (3 * (q / 2) + (q % 2))))) ^^^ v)) (spT (3 * (q / 2) + (q % 2))) v = wD σ q v from dw_4 h_0 c_16 c_53] at hw
      exact q_iretW hx hb hr hlocks hw dX7_doWrite_110 (by simp only [wC, c_16, c_53, if_true, if_false, Bool.false_eq_true])
    · refine lv_aload_n hx hb dX7_doWrite_56 rfl (lv_at hl 2 rfl) ?_
      refine lv_iload_n hx hb dX7_doWrite_57 rfl (lv_at hl 1 rfl) ?_
      refine lv_iload hx hb dX7_doWrite_58 (lv_at hl 0 rfl) ?_
      refine lv_iload_n hx hb dX7_doWrite_60 rfl (lv_at hl 4 rfl) ?_
      refine q_wV0 (As := [.int (nI (q / 2)), .int (nI (q % 2)), .int (v)]) (rest := []) (st1 := []) ⟨hx, hb, hml, hown, hts⟩ (c_X7_lay D cy A b σ saved many bef T len thr at_ le f1 f2 dn hs Z (q / 2) (q % 2) (v) (by omega) (by omega)) (cwV 3 hts gX7_doWrite_X7_lay rfl rfl rfl hd_X7_lay ⟨Nat.le_of_ble_eq_true rfl, Nat.le_of_ble_eq_true rfl⟩) hK hA hw 0 rfl rfl rfl hl.1 rfl rfl (Nat.le_of_ble_eq_true rfl) ⟨Nat.zero_le _, Nat.zero_le _⟩ dX7_doWrite_61 (fun H locs hw => ?_)
      have hw : wS D A (wM cy b (mS (wrS σ (spT (3 * (q / 2) + (q % 2))) v)) saved many bef T len thr at_ le f1 f2 dn hs ++ Z) s H locs := hw
      have hP := hw.1
      refine lv_iconst (v := nI 1) hx hb dX7_doWrite_64 rfl ?_
      rw [show wrS σ (spT (3 * (q / 2) + (q % 2))) v = wD σ q v from by simp only [wD, c_16, c_53, if_true, if_false, Bool.false_eq_true]; rfl] at hw
      exact q_iretW hx hb hr hlocks hw dX7_doWrite_65 (by simp only [wC, c_16, c_53, if_true, if_false, Bool.false_eq_true])
  · refine lv_aload_n hx hb dX7_doWrite_19 rfl (lv_at hl 2 rfl) ?_
    refine lv_iload_n hx hb dX7_doWrite_20 rfl (lv_at hl 1 rfl) ?_
    refine lv_iconst (v := nI 1) hx hb dX7_doWrite_21 rfl ?_
    refine lv_iload hx hb dX7_doWrite_22 (lv_at hl 0 rfl) ?_
    refine q_subN hx hb dX7_doWrite_24 (by omega) ?_
    refine q_wV0 (As := [.int (nI (q / 2)), .int (nI (1 - (q % 2)))]) (rest := []) (st1 := []) ⟨hx, hb, hml, hown, hts⟩ (c_X7_countRead D cy A b σ saved many bef T len thr at_ le f1 f2 dn hs Z (q / 2) (1 - (q % 2)) (by omega) (by omega)) (cwV 2 hts gX7_doWrite_X7_countRead rfl rfl rfl hd_X7_countRead ⟨Nat.le_of_ble_eq_true rfl, Nat.le_of_ble_eq_true rfl⟩) hK hA hw 0 rfl rfl rfl hl.1 rfl rfl (Nat.le_of_ble_eq_true rfl) ⟨Nat.zero_le _, Nat.zero_le _⟩ dX7_doWrite_25 (fun H locs hw => ?_)
    have hw : wS D A (wM cy b (mS (rdS σ (spT (3 * (q / 2) + (1 - (q % 2)))))) saved many bef T len thr at_ le f1 f2 dn hs ++ Z) s H locs := hw
    have hP := hw.1
    refine lv_aload_n hx hb dX7_doWrite_28 rfl (lv_at hl 2 rfl) ?_
    refine lv_iload_n hx hb dX7_doWrite_29 rfl (lv_at hl 1 rfl) ?_
    refine lv_iconst (v := nI 2) hx hb dX7_doWrite_30 rfl ?_
    refine lv_aload_n hx hb dX7_doWrite_31 rfl (lv_at hl 2 rfl) ?_
    refine lv_iload_n hx hb dX7_doWrite_32 rfl (lv_at hl 1 rfl) ?_
    refine lv_iconst (v := nI 1) hx hb dX7_doWrite_33 rfl ?_
    refine lv_iload hx hb dX7_doWrite_34 (lv_at hl 0 rfl) ?_
    refine q_subN hx hb dX7_doWrite_36 (by omega) ?_
    refine q_cV (As := [.int (nI (q / 2)), .int (nI (1 - (q % 2)))]) (rest := [.int (nI (2)), .int (nI (q / 2)), .ref (b 0)]) ⟨hx, hb, hml, hown, hts⟩ (c_X7_valueOf D cy b (rdS σ (spT (3 * (q / 2) + (1 - (q % 2))))) saved many bef T len thr at_ le f1 f2 dn hs Z (q / 2) (1 - (q % 2)) (by omega) (by omega)) (cwV 2 hts gX7_doWrite_X7_valueOf rfl rfl rfl hd_X7_valueOf ⟨Nat.le_of_ble_eq_true rfl, Nat.le_of_ble_eq_true rfl⟩) hK hP 0 rfl rfl rfl hl.1 rfl (Nat.le_of_ble_eq_true rfl) ⟨Nat.zero_le _, Nat.zero_le _⟩ dX7_doWrite_37 ?_
    refine lv_iload_n hx hb dX7_doWrite_40 rfl (lv_at hl 4 rfl) ?_
    refine lv_ixor hx hb dX7_doWrite_41 ?_
    refine q_wV0 (As := [.int (nI (q / 2)), .int (nI (2)), .int (((rdS σ (spT (3 * (q / 2) + (1 - (q % 2))))) (spT (3 * (q / 2) + (1 - (q % 2))))) ^^^ v)]) (rest := []) (st1 := []) ⟨hx, hb, hml, hown, hts⟩ (c_X7_lay D cy A b (rdS σ (spT (3 * (q / 2) + (1 - (q % 2))))) saved many bef T len thr at_ le f1 f2 dn hs Z (q / 2) (2) (((rdS σ (spT (3 * (q / 2) + (1 - (q % 2))))) (spT (3 * (q / 2) + (1 - (q % 2))))) ^^^ v) (by omega) (by omega)) (cwV 3 hts gX7_doWrite_X7_lay rfl rfl rfl hd_X7_lay ⟨Nat.le_of_ble_eq_true rfl, Nat.le_of_ble_eq_true rfl⟩) hK hA hw 0 rfl rfl rfl hl.1 rfl rfl (Nat.le_of_ble_eq_true rfl) ⟨Nat.zero_le _, Nat.zero_le _⟩ dX7_doWrite_42 (fun H locs hw => ?_)
    have hw : wS D A (wM cy b (mS (wrS (rdS σ (spT (3 * (q / 2) + (1 - (q % 2))))) (spT (3 * (q / 2) + 2)) (((rdS σ (spT (3 * (q / 2) + (1 - (q % 2))))) (spT (3 * (q / 2) + (1 - (q % 2))))) ^^^ v))) saved many bef T len thr at_ le f1 f2 dn hs ++ Z) s H locs := hw
    have hP := hw.1
    refine lv_iconst (v := nI 2) hx hb dX7_doWrite_45 rfl ?_
    rw [show wrS (rdS σ (spT (3 * (q / 2) + (1 - (q % 2))))) (spT (3 * (q / 2) + 2)) (((rdS σ (spT (3 * (q / 2) + (1 - (q % 2))))) (spT (3 * (q / 2) + (1 - (q % 2))))) ^^^ v) = wD σ q v from by simp only [wD, c_16, if_true, if_false, Bool.false_eq_true]; exact dw_2 h_0] at hw
    exact q_iretW hx hb hr hlocks hw dX7_doWrite_46 (by simp only [wC, c_16, if_true, if_false, Bool.false_eq_true])
