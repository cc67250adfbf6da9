set_option maxHeartbeats 1000000 in
set_option maxRecDepth 100000 in
theorem c_X7_doMend {l : Launch} (D : va_G) (cy : ClassId) (A : Nat → Prop) (b : Nat → Nat) (σ saved : Nat → Int32) (many : Nat) (bef T : Nat → Int32) (len thr at_ : Nat) (le f1 f2 : Int32) (dn : Nat) (hs : Int64) (Z : va_W) (n : Nat) (h_0 : n < 2 ^ 31) (h_1 : Val σ) : Met l yX7_doMend wsX7_doMend (k2_rm 6 136) (gP D cy [.ref (b 0), .int (nI (n))] A (wM cy b (mS σ) saved many bef T len thr at_ le f1 f2 dn hs ++ Z)) (gQ D A (some (.int (nI ((mnS n σ).2)))) (wM cy b (mS (mnS n σ).1) saved many bef T len thr at_ le f1 f2 dn hs ++ Z)) 0 0 A := by
  refine q_imp (cc := cX7_doMend) (maxL := 4) (ret := (some .int)) pl_X7 rfl (Nat.le_of_ble_eq_true rfl) ?_
  intro p e s m below meth c ls hx hb hr hml hts hown hlocks hw hK hA hl
  have hP := hw.1
  have hl : lv_has ls 4 [(0, .ref (b 0)), (1, .int (nI (n)))] := hl
  refine lv_iconst (v := nI 0) hx hb dX7_doMend_0 rfl ?_
  refine lv_istore_n (lv' := [(2, .int (nI (0))), (0, .ref (b 0)), (1, .int (nI (n)))]) hx hb dX7_doMend_1 rfl hl (by decide) rfl (fun ls hl => ?_)
  refine lv_iconst (v := nI 0) hx hb dX7_doMend_2 rfl ?_
  refine lv_istore_n (lv' := [(3, .int (nI (0))), (2, .int (nI (0))), (0, .ref (b 0)), (1, .int (nI (n)))]) hx hb dX7_doMend_3 rfl hl (by decide) rfl (fun ls hl => ?_)
  have lp4 : ∀ (j_ i : Nat), i + j_ = n + 7 → ∀ (k : Nat) (x : Nat) (τ : Nat → Int32), k + x = i → k ≤ n → x ≤ 7 → Val τ → (∀ y, y < x → isM τ y = false) → mnS n σ = ((mnS (n - k) τ).1, (mnS (n - k) τ).2 + k) → ∀ (H : Heap) (locs : List Loc) (ls : Array Slot), wS D A (wM cy b (mS τ) saved many bef T len thr at_ le f1 f2 dn hs ++ Z) s H locs → lv_has ls 4 [(0, .ref (b 0)), (1, .int (nI (n))), (2, .int (nI (k))), (3, .int (nI (x)))] → W p l e (k2_rm 6 136) s m ([.ref (b 0), .int (nI (n))] : List Value).toArray below meth c H locs 0 0 (MQ below (gQ D A (some (.int (nI ((mnS n σ).2)))) (wM cy b (mS (mnS n σ).1) saved many bef T len thr at_ le f1 f2 dn hs ++ Z)) ([.ref (b 0), .int (nI (n))] : List Value).toArray s 0 0 A) (F0 m 4 ls []) := by
    intro j_
    induction j_ with
    | zero =>
      intro i hn_i k x τ hy0 hy1 hy2 hy3 hy4 hy5 H locs ls hw hl
      have hP := hw.1
      refine lv_iload_n hx hb dX7_doMend_4 rfl (lv_at hl 2 rfl) ?_
      refine lv_iload_n hx hb dX7_doMend_5 rfl (lv_at hl 1 rfl) ?_
      refine q_geN (tgt := 40) hx hb dX7_doMend_6 (by decide) (by omega) (by omega) (fun c_6 => ?_) (fun c_6 => absurd c_6 (by omega))
      refine lv_iload_n hx hb dX7_doMend_40 rfl (lv_at hl 2 rfl) ?_
      have e_w : mnS n σ = (τ, k) := by rw [hy5, show n - k = 0 by omega]; simp only [mnS, Nat.zero_add]
      have hw : wS D A (wM cy b (mS (mnS n σ).1) saved many bef T len thr at_ le f1 f2 dn hs ++ Z) s H locs := by rw [e_w]; exact hw
      exact q_iretW hx hb hr hlocks hw dX7_doMend_41 (by rw [e_w])
    | succ j_ ih_i =>
      intro i hn_i k x τ hy0 hy1 hy2 hy3 hy4 hy5 H locs ls hw hl
      have hP := hw.1
      refine lv_iload_n hx hb dX7_doMend_4 rfl (lv_at hl 2 rfl) ?_
      refine lv_iload_n hx hb dX7_doMend_5 rfl (lv_at hl 1 rfl) ?_
      refine q_geN (tgt := 40) hx hb dX7_doMend_6 (by decide) (by omega) (by omega) (fun c_6 => ?_) (fun c_6 => ?_)
      · refine lv_iload_n hx hb dX7_doMend_40 rfl (lv_at hl 2 rfl) ?_
        have e_w : mnS n σ = (τ, k) := by rw [hy5, show n - k = 0 by omega]; simp only [mnS, Nat.zero_add]
        have hw : wS D A (wM cy b (mS (mnS n σ).1) saved many bef T len thr at_ le f1 f2 dn hs ++ Z) s H locs := by rw [e_w]; exact hw
        exact q_iretW hx hb hr hlocks hw dX7_doMend_41 (by rw [e_w])
      · refine lv_iload_n hx hb dX7_doMend_9 rfl (lv_at hl 3 rfl) ?_
        refine lv_bipush (v := nI 7) hx hb dX7_doMend_10 rfl ?_
        refine q_geN (tgt := 40) hx hb dX7_doMend_12 (by decide) (by omega) (by omega) (fun c_12 => ?_) (fun c_12 => ?_)
        · refine lv_iload_n hx hb dX7_doMend_40 rfl (lv_at hl 2 rfl) ?_
          have e_w : mnS n σ = (τ, k) := by rw [hy5, mnS_0 (lm_none (by omega) hy4), Nat.zero_add]
          have hw : wS D A (wM cy b (mS (mnS n σ).1) saved many bef T len thr at_ le f1 f2 dn hs ++ Z) s H locs := by rw [e_w]; exact hw
          exact q_iretW hx hb hr hlocks hw dX7_doMend_41 (by rw [e_w])
        · refine lv_aload_n hx hb dX7_doMend_15 rfl (lv_at hl 0 rfl) ?_
          refine lv_iload_n hx hb dX7_doMend_16 rfl (lv_at hl 3 rfl) ?_
          refine q_cV (As := [.int (nI (x))]) (rest := []) ⟨hx, hb, hml, hown, hts⟩ (c_X7_isMended D cy b τ saved many bef T len thr at_ le f1 f2 dn hs Z (x) (by omega) hy3) (cwV 1 hts gX7_doMend_X7_isMended rfl rfl rfl hd_X7_isMended ⟨Nat.le_of_ble_eq_true rfl, Nat.le_of_ble_eq_true rfl⟩) hK hP 0 rfl rfl rfl hl.1 rfl (Nat.le_of_ble_eq_true rfl) ⟨Nat.zero_le _, Nat.zero_le _⟩ dX7_doMend_17 ?_
          refine q_ifeqB (tgt := 34) hx hb dX7_doMend_20 (by decide) (fun c_20 => ?_) (fun c_20 => ?_)
          · refine lv_iinc (v := nI (x + 1)) (lv' := [(3, .int (nI (x + 1))), (0, .ref (b 0)), (1, .int (nI (n))), (2, .int (nI (k)))]) hx hb dX7_doMend_34 hl (k := 3) rfl (show nI (x) + nI 1 = nI (x + 1) from nI_add _ _) (by decide) rfl (fun ls hl => ?_)
            refine lv_goto (tgt := 4) hx hb dX7_doMend_37 (by decide) ?_
            exact ih_i (i + 1) (by omega) (k) (x + 1) (τ) (by omega) (by omega) (by omega) (hy3) (fun y hy => by by_cases h9 : y = x; exact (h9 ▸ c_20); exact hy4 y (by omega)) (hy5) _ _ _ hw (lv_sub hl [1, 2, 3, 0] rfl)
          · have e_l : lm τ = x := lm_first (by omega) hy4 c_20
            obtain ⟨g, hg, hgs⟩ := Val_lm hy3 (by omega)
            rw [e_l] at hgs
            refine lv_aload_n hx hb dX7_doMend_23 rfl (lv_at hl 0 rfl) ?_
            refine lv_iload_n hx hb dX7_doMend_24 rfl (lv_at hl 3 rfl) ?_
            refine q_wV0 (As := [.int (nI (x))]) (rest := []) (st1 := []) ⟨hx, hb, hml, hown, hts⟩ (c_X7_mendOne D cy A b τ saved many bef T len thr at_ le f1 f2 dn hs Z (g) (x) (by omega) hgs hg) (cwV 1 hts gX7_doMend_X7_mendOne rfl rfl rfl hd_X7_mendOne ⟨Nat.le_of_ble_eq_true rfl, Nat.le_of_ble_eq_true rfl⟩) hK hA hw 0 rfl rfl rfl hl.1 rfl rfl (Nat.le_of_ble_eq_true rfl) ⟨Nat.zero_le _, Nat.zero_le _⟩ dX7_doMend_25 (fun H locs hw => ?_)
            have hw : wS D A (wM cy b (mS (mendS τ x)) saved many bef T len thr at_ le f1 f2 dn hs ++ Z) s H locs := hw
            have hP := hw.1
            refine lv_iinc (v := nI (k + 1)) (lv' := [(2, .int (nI (k + 1))), (0, .ref (b 0)), (1, .int (nI (n))), (3, .int (nI (x)))]) hx hb dX7_doMend_28 hl (k := 2) rfl (show nI (k) + nI 1 = nI (k + 1) from nI_add _ _) (by decide) rfl (fun ls hl => ?_)
            refine lv_goto (tgt := 4) hx hb dX7_doMend_31 (by decide) ?_
            exact ih_i (i + 1) (by omega) (k + 1) (x) (mendS τ x) (by omega) (by omega) (by omega) (by have := Val_mend hy3 (show lm τ < 7 by omega); rw [e_l] at this; exact this) (fun y hy => (isM_mend hy3 e_l (by omega) hy).trans (hy4 y hy)) (by rw [hy5, show n - k = (n - (k + 1)) + 1 by omega]; simp only [mnS, e_l]; rw [if_pos (by omega), show k + 1 = 1 + k by omega, Nat.add_assoc]) _ _ _ hw (lv_sub hl [1, 2, 0, 3] rfl)
  exact lp4 ((n + 7) - 0) 0 (by omega) (0) (0) (σ) (rfl) (Nat.zero_le _) (Nat.zero_le _) (h_1) (fun y hy => absurd hy (Nat.not_lt_zero y)) (rfl) _ _ _ hw (lv_sub hl [2, 3, 1, 0] rfl)
set_option maxHeartbeats 1000000 in
set_option maxRecDepth 100000 in
theorem c_X7_doScrub {l : Launch} (D : va_G) (cy : ClassId) (A : Nat → Prop) (b : Nat → Nat) (σ saved : Nat → Int32) (many : Nat) (bef T : Nat → Int32) (len thr at_ : Nat) (le f1 f2 : Int32) (dn : Nat) (hs : Int64) (Z : va_W) : Met l yX7_doScrub wsX7_doScrub (k2_rm 6 132) (gP D cy [.ref (b 0)] A (wM cy b (mS σ) saved many bef T len thr at_ le f1 f2 dn hs ++ Z)) (gQ D A (some (.int (nI (scC σ 21)))) (wM cy b (mS (scS σ 21)) saved many bef T len thr at_ le f1 f2 dn hs ++ Z)) 0 0 A := by
  refine q_imp (cc := cX7_doScrub) (maxL := 3) (ret := (some .int)) pl_X7 rfl (Nat.le_of_ble_eq_true rfl) ?_
  intro p e s m below meth c ls hx hb hr hml hts hown hlocks hw hK hA hl
  have hP := hw.1
  have hl : lv_has ls 3 [(0, .ref (b 0))] := hl
  refine lv_iconst (v := nI 0) hx hb dX7_doScrub_0 rfl ?_
  refine lv_istore_n (lv' := [(1, .int (nI (0))), (0, .ref (b 0))]) hx hb dX7_doScrub_1 rfl hl (by decide) rfl (fun ls hl => ?_)
  refine lv_iconst (v := nI 0) hx hb dX7_doScrub_2 rfl ?_
  refine lv_istore_n (lv' := [(2, .int (nI (0))), (1, .int (nI (0))), (0, .ref (b 0))]) hx hb dX7_doScrub_3 rfl hl (by decide) rfl (fun ls hl => ?_)
  have lp4 : ∀ (j_ i : Nat), i + j_ = 21 → ∀ (H : Heap) (locs : List Loc) (ls : Array Slot), wS D A (wM cy b (mS (scS σ i)) saved many bef T len thr at_ le f1 f2 dn hs ++ Z) s H locs → lv_has ls 3 [(0, .ref (b 0)), (1, .int (nI (scC σ i))), (2, .int (nI (i)))] → W p l e (k2_rm 6 132) s m ([.ref (b 0)] : List Value).toArray below meth c H locs 0 0 (MQ below (gQ D A (some (.int (nI (scC σ 21)))) (wM cy b (mS (scS σ 21)) saved many bef T len thr at_ le f1 f2 dn hs ++ Z)) ([.ref (b 0)] : List Value).toArray s 0 0 A) (F0 m 4 ls []) := by
    intro j_
    induction j_ with
    | zero =>
      intro i hn_i H locs ls hw hl
      have hP := hw.1
      refine lv_iload_n hx hb dX7_doScrub_4 rfl (lv_at hl 2 rfl) ?_
      refine lv_bipush (v := nI 21) hx hb dX7_doScrub_5 rfl ?_
      refine q_geN (tgt := 72) hx hb dX7_doScrub_7 (by decide) (by omega) (by omega) (fun c_7 => ?_) (fun c_7 => absurd c_7 (by omega))
      refine lv_iload_n hx hb dX7_doScrub_72 rfl (lv_at hl 1 rfl) ?_
      have e9 : i = 21 := by omega
      subst e9
      exact q_iretW hx hb hr hlocks hw dX7_doScrub_73 (rfl)
    | succ j_ ih_i =>
      intro i hn_i H locs ls hw hl
      have hP := hw.1
      refine lv_iload_n hx hb dX7_doScrub_4 rfl (lv_at hl 2 rfl) ?_
      refine lv_bipush (v := nI 21) hx hb dX7_doScrub_5 rfl ?_
      refine q_geN (tgt := 72) hx hb dX7_doScrub_7 (by decide) (by omega) (by omega) (fun c_7 => absurd c_7 (by omega)) (fun c_7 => ?_)
      refine lv_aload_n hx hb dX7_doScrub_10 rfl (lv_at hl 0 rfl) ?_
      refine lv_iload_n hx hb dX7_doScrub_11 rfl (lv_at hl 2 rfl) ?_
      refine q_cV (As := [.int (nI (i))]) (rest := []) ⟨hx, hb, hml, hown, hts⟩ (c_X7_isWhole D cy b (scS σ i) saved many bef T len thr at_ le f1 f2 dn hs Z (i) (by omega)) (cwV 1 hts gX7_doScrub_X7_isWhole rfl rfl rfl hd_X7_isWhole ⟨Nat.le_of_ble_eq_true rfl, Nat.le_of_ble_eq_true rfl⟩) hK hP 0 rfl rfl rfl hl.1 rfl (Nat.le_of_ble_eq_true rfl) ⟨Nat.zero_le _, Nat.zero_le _⟩ dX7_doScrub_12 ?_
      refine q_ifeqB (tgt := 66) hx hb dX7_doScrub_15 (by decide) (fun c_15 => ?_) (fun c_15 => ?_)
      · have e_g : wrg (scS σ i) i = false := by simp only [wrg, c_15, Bool.false_and]
        have e_s : scS σ i = scS σ (i + 1) := by simp only [scS, scA, c_15, if_false, Bool.false_eq_true]
        rw [e_s] at hw
        have e_c : nI (scC σ i) = nI (scC σ (i + 1)) := congrArg nI (by simp only [scC, e_g, if_true, if_false, Bool.false_eq_true, Nat.add_zero])
        rw [e_c] at hl
        have hP := hw.1
        refine lv_iinc (v := nI (i + 1)) (lv' := [(2, .int (nI (i + 1))), (0, .ref (b 0)), (1, .int (nI (scC σ (i + 1))))]) hx hb dX7_doScrub_66 hl (k := 2) rfl (show nI (i) + nI 1 = nI (i + 1) from nI_add _ _) (by decide) rfl (fun ls hl => ?_)
        refine lv_goto (tgt := 4) hx hb dX7_doScrub_69 (by decide) ?_
        exact ih_i (i + 1) (by omega) _ _ _ hw (lv_sub hl [1, 2, 0] rfl)
      · refine lv_aload_n hx hb dX7_doScrub_18 rfl (lv_at hl 0 rfl) ?_
        refine lv_iload_n hx hb dX7_doScrub_19 rfl (lv_at hl 2 rfl) ?_
        refine lv_iconst (v := nI 0) hx hb dX7_doScrub_20 rfl ?_
        refine q_wV0 (As := [.int (nI (i)), .int (nI (0))]) (rest := []) (st1 := []) ⟨hx, hb, hml, hown, hts⟩ (c_X7_countRead D cy A b (scS σ i) saved many bef T len thr at_ le f1 f2 dn hs Z (i) (0) (by omega) (by omega)) (cwV 2 hts gX7_doScrub_X7_countRead rfl rfl rfl hd_X7_countRead ⟨Nat.le_of_ble_eq_true rfl, Nat.le_of_ble_eq_true rfl⟩) hK hA hw 0 rfl rfl rfl hl.1 rfl rfl (Nat.le_of_ble_eq_true rfl) ⟨Nat.zero_le _, Nat.zero_le _⟩ dX7_doScrub_21 (fun H locs hw => ?_)
        have hw : wS D A (wM cy b (mS (rdS (scS σ i) (spT (3 * i + 0)))) saved many bef T len thr at_ le f1 f2 dn hs ++ Z) s H locs := hw
        have hP := hw.1
        refine lv_aload_n hx hb dX7_doScrub_24 rfl (lv_at hl 0 rfl) ?_
        refine lv_iload_n hx hb dX7_doScrub_25 rfl (lv_at hl 2 rfl) ?_
        refine lv_iconst (v := nI 1) hx hb dX7_doScrub_26 rfl ?_
        refine q_wV0 (As := [.int (nI (i)), .int (nI (1))]) (rest := []) (st1 := []) ⟨hx, hb, hml, hown, hts⟩ (c_X7_countRead D cy A b (rdS (scS σ i) (spT (3 * i + 0))) saved many bef T len thr at_ le f1 f2 dn hs Z (i) (1) (by omega) (by omega)) (cwV 2 hts gX7_doScrub_X7_countRead rfl rfl rfl hd_X7_countRead ⟨Nat.le_of_ble_eq_true rfl, Nat.le_of_ble_eq_true rfl⟩) hK hA hw 0 rfl rfl rfl hl.1 rfl rfl (Nat.le_of_ble_eq_true rfl) ⟨Nat.zero_le _, Nat.zero_le _⟩ dX7_doScrub_27 (fun H locs hw => ?_)
        have hw : wS D A (wM cy b (mS (rdS (rdS (scS σ i) (spT (3 * i + 0))) (spT (3 * i + 1)))) saved many bef T len thr at_ le f1 f2 dn hs ++ Z) s H locs := hw
        have hP := hw.1
        refine lv_aload_n hx hb dX7_doScrub_30 rfl (lv_at hl 0 rfl) ?_
        refine lv_iload_n hx hb dX7_doScrub_31 rfl (lv_at hl 2 rfl) ?_
        refine lv_iconst (v := nI 2) hx hb dX7_doScrub_32 rfl ?_
        refine q_wV0 (As := [.int (nI (i)), .int (nI (2))]) (rest := []) (st1 := []) ⟨hx, hb, hml, hown, hts⟩ (c_X7_countRead D cy A b (rdS (rdS (scS σ i) (spT (3 * i + 0))) (spT (3 * i + 1))) saved many bef T len thr at_ le f1 f2 dn hs Z (i) (2) (by omega) (by omega)) (cwV 2 hts gX7_doScrub_X7_countRead rfl rfl rfl hd_X7_countRead ⟨Nat.le_of_ble_eq_true rfl, Nat.le_of_ble_eq_true rfl⟩) hK hA hw 0 rfl rfl rfl hl.1 rfl rfl (Nat.le_of_ble_eq_true rfl) ⟨Nat.zero_le _, Nat.zero_le _⟩ dX7_doScrub_33 (fun H locs hw => ?_)
        have hw : wS D A (wM cy b (mS (rdS (rdS (rdS (scS σ i) (spT (3 * i + 0))) (spT (3 * i + 1))) (spT (3 * i + 2)))) saved many bef T len thr at_ le f1 f2 dn hs ++ Z) s H locs := hw
        have hP := hw.1
        refine lv_aload_n hx hb dX7_doScrub_36 rfl (lv_at hl 0 rfl) ?_
        refine lv_iload_n hx hb dX7_doScrub_37 rfl (lv_at hl 2 rfl) ?_
        refine q_cV (As := [.int (nI (i))]) (rest := []) ⟨hx, hb, hml, hown, hts⟩ (c_X7_isWrong D cy b (rdS (rdS (rdS (scS σ i) (spT (3 * i + 0))) (spT (3 * i + 1))) (spT (3 * i + 2))) saved many bef T len thr at_ le f1 f2 dn hs Z (i) (by omega)) (cwV 1 hts gX7_doScrub_X7_isWrong rfl rfl rfl hd_X7_isWrong ⟨Nat.le_of_ble_eq_true rfl, Nat.le_of_ble_eq_true rfl⟩) hK hP 0 rfl rfl rfl hl.1 rfl (Nat.le_of_ble_eq_true rfl) ⟨Nat.zero_le _, Nat.zero_le _⟩ dX7_doScrub_38 ?_
        refine q_ifeqB (tgt := 66) hx hb dX7_doScrub_41 (by decide) (fun c_41 => ?_) (fun c_41 => ?_)
        · have e_g : wrg (scS σ i) i = false := by rw [← wrg_R _ (by omega)]; exact c_41
          have e_s : rdS (rdS (rdS (scS σ i) (spT (3 * i + 0))) (spT (3 * i + 1))) (spT (3 * i + 2)) = scS σ (i + 1) := by simp only [scS, scA, c_15, e_g, if_true, if_false, Bool.false_eq_true]; rfl
          rw [e_s] at hw
          have e_c : nI (scC σ i) = nI (scC σ (i + 1)) := congrArg nI (by simp only [scC, e_g, if_true, if_false, Bool.false_eq_true, Nat.add_zero])
          rw [e_c] at hl
          have hP := hw.1
          refine lv_iinc (v := nI (i + 1)) (lv' := [(2, .int (nI (i + 1))), (0, .ref (b 0)), (1, .int (nI (scC σ (i + 1))))]) hx hb dX7_doScrub_66 hl (k := 2) rfl (show nI (i) + nI 1 = nI (i + 1) from nI_add _ _) (by decide) rfl (fun ls hl => ?_)
          refine lv_goto (tgt := 4) hx hb dX7_doScrub_69 (by decide) ?_
          exact ih_i (i + 1) (by omega) _ _ _ hw (lv_sub hl [1, 2, 0] rfl)
        · refine lv_aload_n hx hb dX7_doScrub_44 rfl (lv_at hl 0 rfl) ?_
          refine lv_iload_n hx hb dX7_doScrub_45 rfl (lv_at hl 2 rfl) ?_
          refine lv_iconst (v := nI 2) hx hb dX7_doScrub_46 rfl ?_
          refine lv_aload_n hx hb dX7_doScrub_47 rfl (lv_at hl 0 rfl) ?_
          refine lv_iload_n hx hb dX7_doScrub_48 rfl (lv_at hl 2 rfl) ?_
          refine lv_iconst (v := nI 0) hx hb dX7_doScrub_49 rfl ?_
          refine q_cV (As := [.int (nI (i)), .int (nI (0))]) (rest := [.int (nI (2)), .int (nI (i)), .ref (b 0)]) ⟨hx, hb, hml, hown, hts⟩ (c_X7_valueOf D cy b (rdS (rdS (rdS (scS σ i) (spT (3 * i + 0))) (spT (3 * i + 1))) (spT (3 * i + 2))) saved many bef T len thr at_ le f1 f2 dn hs Z (i) (0) (by omega) (by omega)) (cwV 2 hts gX7_doScrub_X7_valueOf rfl rfl rfl hd_X7_valueOf ⟨Nat.le_of_ble_eq_true rfl, Nat.le_of_ble_eq_true rfl⟩) hK hP 0 rfl rfl rfl hl.1 rfl (Nat.le_of_ble_eq_true rfl) ⟨Nat.zero_le _, Nat.zero_le _⟩ dX7_doScrub_50 ?_
          refine lv_aload_n hx hb dX7_doScrub_53 rfl (lv_at hl 0 rfl) ?_
          refine lv_iload_n hx hb dX7_doScrub_54 rfl (lv_at hl 2 rfl) ?_
          refine lv_iconst (v := nI 1) hx hb dX7_doScrub_55 rfl ?_
          refine q_cV (As := [.int (nI (i)), .int (nI (1))]) (rest := [.int ((rdS (rdS (rdS (scS σ i) (spT (3 * i + 0))) (spT (3 * i + 1))) (spT (3 * i + 2))) (spT (3 * i + 0))), .int (nI (2)), .int (nI (i)), .ref (b 0)]) ⟨hx, hb, hml, hown, hts⟩ (c_X7_valueOf D cy b (rdS (rdS (rdS (scS σ i) (spT (3 * i + 0))) (spT (3 * i + 1))) (spT (3 * i + 2))) saved many bef T len thr at_ le f1 f2 dn hs Z (i) (1) (by omega) (by omega)) (cwV 2 hts gX7_doScrub_X7_valueOf rfl rfl rfl hd_X7_valueOf ⟨Nat.le_of_ble_eq_true rfl, Nat.le_of_ble_eq_true rfl⟩) hK hP 0 rfl rfl rfl hl.1 rfl (Nat.le_of_ble_eq_true rfl) ⟨Nat.zero_le _, Nat.zero_le _⟩ dX7_doScrub_56 ?_
          refine lv_ixor hx hb dX7_doScrub_59 ?_
          refine q_wV0 (As := [.int (nI (i)), .int (nI (2)), .int (((rdS (rdS (rdS (scS σ i) (spT (3 * i + 0))) (spT (3 * i + 1))) (spT (3 * i + 2))) (spT (3 * i + 0))) ^^^ ((rdS (rdS (rdS (scS σ i) (spT (3 * i + 0))) (spT (3 * i + 1))) (spT (3 * i + 2))) (spT (3 * i + 1))))]) (rest := []) (st1 := []) ⟨hx, hb, hml, hown, hts⟩ (c_X7_lay D cy A b (rdS (rdS (rdS (scS σ i) (spT (3 * i + 0))) (spT (3 * i + 1))) (spT (3 * i + 2))) saved many bef T len thr at_ le f1 f2 dn hs Z (i) (2) (((rdS (rdS (rdS (scS σ i) (spT (3 * i + 0))) (spT (3 * i + 1))) (spT (3 * i + 2))) (spT (3 * i + 0))) ^^^ ((rdS (rdS (rdS (scS σ i) (spT (3 * i + 0))) (spT (3 * i + 1))) (spT (3 * i + 2))) (spT (3 * i + 1)))) (by omega) (by omega)) (cwV 3 hts gX7_doScrub_X7_lay rfl rfl rfl hd_X7_lay ⟨Nat.le_of_ble_eq_true rfl, Nat.le_of_ble_eq_true rfl⟩) hK hA hw 0 rfl rfl rfl hl.1 rfl rfl (Nat.le_of_ble_eq_true rfl) ⟨Nat.zero_le _, Nat.zero_le _⟩ dX7_doScrub_60 (fun H locs hw => ?_)
          have hw : wS D A (wM cy b (mS (wrS (rdS (rdS (rdS (scS σ i) (spT (3 * i + 0))) (spT (3 * i + 1))) (spT (3 * i + 2))) (spT (3 * i + 2)) (((rdS (rdS (rdS (scS σ i) (spT (3 * i + 0))) (spT (3 * i + 1))) (spT (3 * i + 2))) (spT (3 * i + 0))) ^^^ ((rdS (rdS (rdS (scS σ i) (spT (3 * i + 0))) (spT (3 * i + 1))) (spT (3 * i + 2))) (spT (3 * i + 1)))))) saved many bef T len thr at_ le f1 f2 dn hs ++ Z) s H locs := hw
          have hP := hw.1
          refine lv_iinc (v := nI (scC σ i + 1)) (lv' := [(1, .int (nI (scC σ i + 1))), (0, .ref (b 0)), (2, .int (nI (i)))]) hx hb dX7_doScrub_63 hl (k := 1) rfl (show nI (scC σ i) + nI 1 = nI (scC σ i + 1) from nI_add _ _) (by decide) rfl (fun ls hl => ?_)
          have e_g : wrg (scS σ i) i = true := by rw [← wrg_R _ (by omega)]; exact c_41
          have e_s : wrS (rdS (rdS (rdS (scS σ i) (spT (3 * i + 0))) (spT (3 * i + 1))) (spT (3 * i + 2))) (spT (3 * i + 2)) (((rdS (rdS (rdS (scS σ i) (spT (3 * i + 0))) (spT (3 * i + 1))) (spT (3 * i + 2))) (spT (3 * i + 0))) ^^^ ((rdS (rdS (rdS (scS σ i) (spT (3 * i + 0))) (spT (3 * i + 1))) (spT (3 * i + 2))) (spT (3 * i + 1)))) = scS σ (i + 1) := by simp only [scS, scA, c_15, e_g, if_true]; exact sc_x _ (by omega)
          rw [e_s] at hw
          have e_c : nI (scC σ i + 1) = nI (scC σ (i + 1)) := congrArg nI (by simp only [scC, e_g, if_true, if_false, Bool.false_eq_true, Nat.add_zero])
          rw [e_c] at hl
          have hP := hw.1
          refine lv_iinc (v := nI (i + 1)) (lv' := [(2, .int (nI (i + 1))), (1, .int (nI (scC σ (i + 1)))), (0, .ref (b 0))]) hx hb dX7_doScrub_66 hl (k := 2) rfl (show nI (i) + nI 1 = nI (i + 1) from nI_add _ _) (by decide) rfl (fun ls hl => ?_)
          refine lv_goto (tgt := 4) hx hb dX7_doScrub_69 (by decide) ?_
          exact ih_i (i + 1) (by omega) _ _ _ hw (lv_sub hl [2, 1, 0] rfl)
  exact lp4 (21 - 0) 0 (by omega) _ _ _ hw (lv_sub hl [2, 1, 0] rfl)
