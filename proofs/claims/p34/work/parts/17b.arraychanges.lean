theorem inB_p {x : Int32} {lo hi : Nat} (h : inB x lo hi = true) : ¬ x < nI lo ∧ x ≤ nI hi := by
  simp only [inB, Bool.and_eq_true, decide_eq_true_eq] at h
  exact ⟨Int32.not_lt.mpr h.1, h.2⟩
theorem inB_q {x : Int32} {lo hi : Nat} (h1 : ¬ x < nI lo) (h2 : x ≤ nI hi) : inB x lo hi = true := by
  simp only [inB, Bool.and_eq_true, decide_eq_true_eq]
  exact ⟨Int32.not_lt.mp h1, h2⟩
theorem sp_pos {σ : Nat → Int32} (hv : Val σ) : (0 < σ 84) ↔ ¬ σ 84 = 0 := by
  obtain ⟨n, hn, e⟩ := hv.2.2
  rw [e, ← nI_0, nI_eq (by omega) (by omega), nI_ltI (by omega) (by omega)]
  omega
theorem bg_f {σ : Nat → Int32} (hv : Val σ) {j : Nat} (h : (decide (σ (63 + j) = -1) && decide (0 < σ 84)) = false) : ¬ σ (63 + j) = -1 ∨ σ 84 = 0 := by
  by_cases q : σ (63 + j) = -1
  · by_cases q2 : σ 84 = 0
    · exact Or.inr q2
    · rw [decide_eq_true q, decide_eq_true ((sp_pos hv).mpr q2)] at h
      cases h
  · exact Or.inl q
theorem bg_t {σ : Nat → Int32} (hv : Val σ) {j : Nat} (h : (decide (σ (63 + j) = -1) && decide (0 < σ 84)) = true) : ¬ (¬ σ (63 + j) = -1 ∨ σ 84 = 0) := by
  simp only [Bool.and_eq_true, decide_eq_true_eq] at h
  exact fun q => q.elim (fun q => q h.1) (fun q => (sp_pos hv).mp h.2 q)
theorem as_n {σ : Nat → Int32} (h : σ 84 < nI 5) : ¬ σ 84 = 5 := by
  intro e
  rw [e] at h
  exact absurd h (by decide)
theorem as_5 {σ : Nat → Int32} (hv : Val σ) (h : ¬ σ 84 < nI 5) : σ 84 = 5 := by
  obtain ⟨n, hn, e⟩ := hv.2.2
  rw [e, nI_ltI (by omega) (by omega)] at h
  rw [e, show n = 5 by omega]
  rfl
set_option maxHeartbeats 1000000 in
set_option maxRecDepth 100000 in
theorem c_X6_read {l : Launch} (hst : l.stackTraces = false) (D : va_G) (cy : ClassId) (A : Nat → Prop) (a : Nat → Nat) (σ kept : Nat → Int32) (nxt cnt : Nat) (T : Nat → Int32) (len pos : Nat) (ph le nu va : Int32) (Z : va_W) (x : Int32) (h_0 : nxt < 6) (h_1 : cnt ≤ 6) : vx_Met l yX6_read wsX6_read ({ frames := 6, cells := 1, slots := 6, locals := 88 } : Room) (gX D cy [.ref (a 0), .int (x)] A (wX cy a σ kept nxt cnt T len pos ph le nu va ++ Z)) (xQ D A (cRd σ x) (some (.int (kn σ (ad (ix x))))) (wX cy a (sRd σ x) (cpK kept σ (nxt * 86) 86) ((nxt + 1) % 6) (min (cnt + 1) 6) T len pos ph le nu va ++ Z)) (xX D A (fun k => if k = 1 then eI else eS) (cRd σ x) (wX cy a σ kept nxt cnt T len pos ph le nu va ++ Z)) 1 6 A := by
  refine q_xmp (cc := cX6_read) (maxL := 3) (ret := (some .int)) pl_X6 rfl (Nat.le_of_ble_eq_true rfl) ?_
  intro p e s m below meth c ls hx hb hr hml hts hown hlocks hw hK hA hl hexc hN
  have hP := hw.1
  have hl : lv_has ls 3 [(0, .ref (a 0)), (1, .int (x))] := hl
  refine lv_iload_n hx hb dX6_read_0 rfl (lv_at hl 1 rfl) ?_
  refine q_cS (As := [.int (x)]) (rest := []) (w := []) ⟨hx, hb, hml, hown, hts⟩ (c_X6_isAddress D cy (x)) (va_cwS 1 hts gX6_read_X6_isAddress rfl rfl rfl hd_X6_isAddress ⟨Nat.le_of_ble_eq_true rfl, Nat.le_of_ble_eq_true rfl⟩) hK q_Pnil rfl hl.1 rfl (Nat.le_of_ble_eq_true rfl) ⟨Nat.zero_le _, Nat.zero_le _⟩ dX6_read_1 ?_
  refine q_ifneB (tgt := 17) hx hb dX6_read_4 (by decide) (fun c_4 => ?_) (fun c_4 => ?_)
  · obtain ⟨j, h_j, e_j⟩ := inR_nI c_4
    have x_j : ix x = j := by rw [e_j]; exact nI_clamp (by omega)
    have hl : lv_has ls 3 [(0, .ref (a 0)), (1, .int (nI (j)))] := by rw [← e_j]; exact hl
    refine lv_aload_n hx hb dX6_read_17 rfl (lv_at hl 0 rfl) ?_
    refine va_get (D := D) (ci := 6) (v := .ref (a 1)) (C := RX6) (T := TX6) (N := 4) hx hb hts (fun _ h => List.mem_cons_of_mem _ (List.mem_append_left _ (List.mem_append_left _ (List.mem_append_left _ (List.mem_append_left _ (List.mem_append_left _ (List.mem_append_left _ (List.mem_append_right _ h)))))))) hown hK hP 0 rfl rfl 0 (by decide) (hts (.fieldLink RX6 10 "SpreadParity" "layout" "LSpreadParity$Layout;") (List.mem_of_getElem? (i := 5) rfl)) (fun _ h9 => h9) rfl dX6_read_18 ?_
    refine lv_iload_n hx hb dX6_read_21 rfl (lv_at hl 1 rfl) ?_
    refine q_cV (As := [.int (nI (j))]) (rest := []) ⟨hx, hb, hml, hown, hts⟩ (c_X1_spotOfAddress D cy a σ kept nxt cnt T len pos ph le nu va Z (j) (by omega)) (cwV 1 hts gX6_read_X1_spotOfAddress rfl rfl rfl hd_X1_spotOfAddress ⟨Nat.le_of_ble_eq_true rfl, Nat.le_of_ble_eq_true rfl⟩) hK hP 1 rfl rfl rfl hl.1 rfl (Nat.le_of_ble_eq_true rfl) ⟨Nat.zero_le _, Nat.zero_le _⟩ dX6_read_22 ?_
    refine lv_istore_n (lv' := [(2, .int (nI (ad j))), (0, .ref (a 0)), (1, .int (nI (j)))]) hx hb dX6_read_25 rfl hl (by decide) rfl (fun ls hl => ?_)
    refine lv_aload_n hx hb dX6_read_26 rfl (lv_at hl 1 rfl) ?_
    refine lv_iload_n hx hb dX6_read_27 rfl (lv_at hl 0 rfl) ?_
    refine lv_iconst (v := -1) hx hb dX6_read_28 rfl ?_
    refine q_cV (As := [.int (nI (ad j)), .int (-1)]) (rest := []) ⟨hx, hb, hml, hown, hts⟩ (c_X6_isLost D cy a σ kept nxt cnt T len pos ph le nu va Z (σ) (ad j) (-1) (ad_lt h_j) (Wo_none _)) (cwV 2 hts gX6_read_X6_isLost rfl rfl rfl hd_X6_isLost ⟨Nat.le_of_ble_eq_true rfl, Nat.le_of_ble_eq_true rfl⟩) hK hP 0 rfl rfl rfl hl.1 rfl (Nat.le_of_ble_eq_true rfl) ⟨Nat.zero_le _, Nat.zero_le _⟩ dX6_read_29 ?_
    refine q_ifeqB (tgt := 45) hx hb dX6_read_32 (by decide) (fun c_32 => ?_) (fun c_32 => ?_)
    · refine lv_aload_n hx hb dX6_read_45 rfl (lv_at hl 1 rfl) ?_
      refine va_get (D := D) (ci := 6) (v := .ref (a 11)) (C := RX6) (T := TX6) (N := 4) hx hb hts (fun _ h => List.mem_cons_of_mem _ (List.mem_append_left _ (List.mem_append_left _ (List.mem_append_left _ (List.mem_append_left _ (List.mem_append_left _ (List.mem_append_left _ (List.mem_append_right _ h)))))))) hown hK hP 0 rfl rfl 2 (by decide) (hts (.fieldLink RX6 26 "SpreadParity" "history" "LSpreadParity$History;") (List.mem_of_getElem? (i := 6) rfl)) (fun _ h9 => h9) rfl dX6_read_46 ?_
      refine lv_aload_n hx hb dX6_read_49 rfl (lv_at hl 1 rfl) ?_
      refine va_get (D := D) (ci := 6) (v := .ref (a 8)) (C := RX6) (T := TX6) (N := 4) hx hb hts (fun _ h => List.mem_cons_of_mem _ (List.mem_append_left _ (List.mem_append_left _ (List.mem_append_left _ (List.mem_append_left _ (List.mem_append_left _ (List.mem_append_left _ (List.mem_append_right _ h)))))))) hown hK hP 0 rfl rfl 1 (by decide) (hts (.fieldLink RX6 19 "SpreadParity" "now" "LSpreadParity$State;") (List.mem_of_getElem? (i := 7) rfl)) (fun _ h9 => h9) rfl dX6_read_50 ?_
      refine q_wV0 (As := [.ref (a 8)]) (rest := []) (st1 := []) ⟨hx, hb, hml, hown, hts⟩ (c_X0_keep D cy A a σ kept nxt cnt T len pos ph le nu va Z (by omega) (by omega)) (cwV 1 hts gX6_read_X0_keep rfl rfl rfl hd_X0_keep ⟨Nat.le_of_ble_eq_true rfl, Nat.le_of_ble_eq_true rfl⟩) hK hA hw 11 rfl rfl rfl hl.1 rfl rfl (Nat.le_of_ble_eq_true rfl) ⟨Nat.zero_le _, Nat.zero_le _⟩ dX6_read_53 (fun H locs hw => ?_)
      have hw : wS D A (wX cy a σ (cpK kept σ (nxt * 86) 86) ((nxt + 1) % 6) (min (cnt + 1) 6) T len pos ph le nu va ++ Z) s H locs := hw
      have hP := hw.1
      refine lv_aload_n hx hb dX6_read_56 rfl (lv_at hl 1 rfl) ?_
      refine va_get (D := D) (ci := 6) (v := .ref (a 8)) (C := RX6) (T := TX6) (N := 4) hx hb hts (fun _ h => List.mem_cons_of_mem _ (List.mem_append_left _ (List.mem_append_left _ (List.mem_append_left _ (List.mem_append_left _ (List.mem_append_left _ (List.mem_append_left _ (List.mem_append_right _ h)))))))) hown hK hP 0 rfl rfl 1 (by decide) (hts (.fieldLink RX6 19 "SpreadParity" "now" "LSpreadParity$State;") (List.mem_of_getElem? (i := 7) rfl)) (fun _ h9 => h9) rfl dX6_read_57 ?_
      refine lv_iload_n hx hb dX6_read_60 rfl (lv_at hl 0 rfl) ?_
      refine lv_iconst (v := -1) hx hb dX6_read_61 rfl ?_
      refine q_cV (As := [.int (nI (ad j)), .int (-1)]) (rest := []) ⟨hx, hb, hml, hown, hts⟩ (c_X5_hasUnit D cy a σ (cpK kept σ (nxt * 86) 86) ((nxt + 1) % 6) (min (cnt + 1) 6) T len pos ph le nu va Z (σ) (ad j) (-1) (ad_lt h_j) (Wo_none _)) (cwV 2 hts gX6_read_X5_hasUnit rfl rfl rfl hd_X5_hasUnit ⟨Nat.le_of_ble_eq_true rfl, Nat.le_of_ble_eq_true rfl⟩) hK hP 8 rfl rfl rfl hl.1 rfl (Nat.le_of_ble_eq_true rfl) ⟨Nat.zero_le _, Nat.zero_le _⟩ dX6_read_62 ?_
      refine q_ifeqB (tgt := 79) hx hb dX6_read_65 (by decide) (fun c_65 => ?_) (fun c_65 => ?_)
      · refine lv_aload_n hx hb dX6_read_79 rfl (lv_at hl 1 rfl) ?_
        refine lv_iload_n hx hb dX6_read_80 rfl (lv_at hl 0 rfl) ?_
        refine q_wV0 (As := [.int (nI (ad j))]) (rest := []) (st1 := [.int (fd σ (ad j))]) ⟨hx, hb, hml, hown, hts⟩ (c_X6_fetchOthers D cy A a σ (cpK kept σ (nxt * 86) 86) ((nxt + 1) % 6) (min (cnt + 1) 6) T len pos ph le nu va Z (ad j) (ad_lt h_j)) (cwV 1 hts gX6_read_X6_fetchOthers rfl rfl rfl hd_X6_fetchOthers ⟨Nat.le_of_ble_eq_true rfl, Nat.le_of_ble_eq_true rfl⟩) hK hA hw 0 rfl rfl rfl hl.1 rfl rfl (Nat.le_of_ble_eq_true rfl) ⟨Nat.zero_le _, Nat.zero_le _⟩ dX6_read_81 (fun H locs hw => ?_)
        have hw : wS D A (wX cy a (f2S σ (ad j)) (cpK kept σ (nxt * 86) 86) ((nxt + 1) % 6) (min (cnt + 1) 6) T len pos ph le nu va ++ Z) s H locs := hw
        have hP := hw.1
        have e_s : f2S σ (ad j) = sRd σ x := by rw [sRd, x_j, if_neg (by rw [c_65]; decide)]
        rw [e_s] at hw
        have e_c : cRd σ x = 0 := by rw [cRd, if_pos c_4, x_j, if_neg (by rw [c_32]; decide)]
        exact q_iretX hx hb hr hlocks hw (Nat.le_of_ble_eq_true rfl) (Nat.le_of_ble_eq_true rfl) dX6_read_84 e_c (by rw [x_j]; simp [kn, c_32, c_65])
      · refine lv_aload_n hx hb dX6_read_68 rfl (lv_at hl 1 rfl) ?_
        refine va_get (D := D) (ci := 6) (v := .ref (a 8)) (C := RX6) (T := TX6) (N := 4) hx hb hts (fun _ h => List.mem_cons_of_mem _ (List.mem_append_left _ (List.mem_append_left _ (List.mem_append_left _ (List.mem_append_left _ (List.mem_append_left _ (List.mem_append_left _ (List.mem_append_right _ h)))))))) hown hK hP 0 rfl rfl 1 (by decide) (hts (.fieldLink RX6 19 "SpreadParity" "now" "LSpreadParity$State;") (List.mem_of_getElem? (i := 7) rfl)) (fun _ h9 => h9) rfl dX6_read_69 ?_
        refine lv_iload_n hx hb dX6_read_72 rfl (lv_at hl 0 rfl) ?_
        refine q_wV0 (As := [.int (nI (ad j))]) (rest := []) (st1 := [.int (σ (ad j))]) ⟨hx, hb, hml, hown, hts⟩ (c_X5_fetch D cy A a σ (cpK kept σ (nxt * 86) 86) ((nxt + 1) % 6) (min (cnt + 1) 6) T len pos ph le nu va Z (ad j) (ad_lt h_j)) (cwV 1 hts gX6_read_X5_fetch rfl rfl rfl hd_X5_fetch ⟨Nat.le_of_ble_eq_true rfl, Nat.le_of_ble_eq_true rfl⟩) hK hA hw 8 rfl rfl rfl hl.1 rfl rfl (Nat.le_of_ble_eq_true rfl) ⟨Nat.zero_le _, Nat.zero_le _⟩ dX6_read_73 (fun H locs hw => ?_)
        have hw : wS D A (wX cy a (rdS σ (ad j)) (cpK kept σ (nxt * 86) 86) ((nxt + 1) % 6) (min (cnt + 1) 6) T len pos ph le nu va ++ Z) s H locs := hw
        have hP := hw.1
        refine lv_goto (tgt := 84) hx hb dX6_read_76 (by decide) ?_
        have e_s : rdS σ (ad j) = sRd σ x := by rw [sRd, x_j, if_pos c_65]
        rw [e_s] at hw
        have e_c : cRd σ x = 0 := by rw [cRd, if_pos c_4, x_j, if_neg (by rw [c_32]; decide)]
        exact q_iretX hx hb hr hlocks hw (Nat.le_of_ble_eq_true rfl) (Nat.le_of_ble_eq_true rfl) dX6_read_84 e_c (by rw [x_j]; simp [kn, c_32, c_65])
    · have e_c : cRd σ x = 2 := by rw [cRd, if_pos c_4, x_j, if_pos c_32]
      obtain ⟨sa, hsa⟩ := hN.2.2.2 (58, "the unit is lost") (by decide)
      exact vx_throwS (names := eNm) (A := A) (sa := sa) (text := "the unit is lost") hx hb hst hown eS_fit eNm_fit (hts (.classLink RX6 56 "java/lang/IllegalStateException") (List.mem_of_getElem? (i := 3) rfl)) (hts (.initialized "java/lang/IllegalStateException") (List.mem_of_getElem? (i := 4) rfl)) hsa (vx_hat (fun w h => hts w ((fun _ h => List.mem_cons_of_mem _ (List.mem_append_right _ h)) w h)) eS_bad (fun w h => va_Nw.use (xWd_on w (eS_wd w h)) (hN.2.2.1 w (eS_wd w h)))) eS_good hN.1 hN.2.1 hw.2.2 (hl.1.trans hml.symm) dX6_read_35 dX6_read_38 dX6_read_39 dX6_read_41 dX6_read_44 (fun x h => (hexc x h).elim) (by decide) (by decide) (by decide) (by decide) hlocks (fun t _ hz hk => ⟨by rw [e_c]; decide, by rw [e_c] <;> rfl, wS.x hw hz hk⟩) hw.2.2.2.2 (by decide) (by decide)
  · have e_c : cRd σ x = 1 := by rw [cRd, if_neg (by rw [c_4]; decide)]
    obtain ⟨sa, hsa⟩ := hN.2.2.2 (43, "there is no such address") (by decide)
    exact vx_throwS (names := eNm) (A := A) (sa := sa) (text := "there is no such address") hx hb hst hown eI_fit eNm_fit (hts (.classLink RX6 41 "java/lang/IndexOutOfBoundsException") (List.mem_of_getElem? (i := 1) rfl)) (hts (.initialized "java/lang/IndexOutOfBoundsException") (List.mem_of_getElem? (i := 2) rfl)) hsa (vx_hat (fun w h => hts w ((fun _ h => List.mem_cons_of_mem _ (List.mem_append_left _ (List.mem_append_right _ h))) w h)) eI_bad (fun w h => va_Nw.use (xWd_on w (eI_wd w h)) (hN.2.2.1 w (eI_wd w h)))) eI_good hN.1 hN.2.1 hw.2.2 (hl.1.trans hml.symm) dX6_read_7 dX6_read_10 dX6_read_11 dX6_read_13 dX6_read_16 (fun x h => (hexc x h).elim) (by decide) (by decide) (by decide) (by decide) hlocks (fun t _ hz hk => ⟨by rw [e_c]; decide, by rw [e_c] <;> rfl, wS.x hw hz hk⟩) hw.2.2.2.2 (by decide) (by decide)
set_option maxHeartbeats 1000000 in
set_option maxRecDepth 100000 in
theorem c_X6_write {l : Launch} (hst : l.stackTraces = false) (D : va_G) (cy : ClassId) (A : Nat → Prop) (a : Nat → Nat) (σ kept : Nat → Int32) (nxt cnt : Nat) (T : Nat → Int32) (len pos : Nat) (ph le nu va : Int32) (Z : va_W) (x : Int32) (v : Int32) (h_0 : nxt < 6) (h_1 : cnt ≤ 6) : vx_Met l yX6_write wsX6_write ({ frames := 6, cells := 1, slots := 6, locals := 109 } : Room) (gX D cy [.ref (a 0), .int (x), .int (v)] A (wX cy a σ kept nxt cnt T len pos ph le nu va ++ Z)) (xQ D A (cWr σ x v) (some (.int (nI (wC σ (ix x))))) (wX cy a (wD σ (ix x) v) (cpK kept σ (nxt * 86) 86) ((nxt + 1) % 6) (min (cnt + 1) 6) T len pos ph le nu va ++ Z)) (xX D A (fun k => if k = 1 then eI else if k = 2 then eA else eS) (cWr σ x v) (wX cy a σ kept nxt cnt T len pos ph le nu va ++ Z)) 1 6 A := by
  refine q_xmp (cc := cX6_write) (maxL := 3) (ret := (some .int)) pl_X6 rfl (Nat.le_of_ble_eq_true rfl) ?_
  intro p e s m below meth c ls hx hb hr hml hts hown hlocks hw hK hA hl hexc hN
  have hP := hw.1
  have hl : lv_has ls 3 [(0, .ref (a 0)), (1, .int (x)), (2, .int (v))] := hl
  refine lv_iload_n hx hb dX6_write_0 rfl (lv_at hl 1 rfl) ?_
  refine q_cS (As := [.int (x)]) (rest := []) (w := []) ⟨hx, hb, hml, hown, hts⟩ (c_X6_isAddress D cy (x)) (va_cwS 1 hts gX6_write_X6_isAddress rfl rfl rfl hd_X6_isAddress ⟨Nat.le_of_ble_eq_true rfl, Nat.le_of_ble_eq_true rfl⟩) hK q_Pnil rfl hl.1 rfl (Nat.le_of_ble_eq_true rfl) ⟨Nat.zero_le _, Nat.zero_le _⟩ dX6_write_1 ?_
  refine q_ifneB (tgt := 17) hx hb dX6_write_4 (by decide) (fun c_4 => ?_) (fun c_4 => ?_)
  · refine lv_iload_n hx hb dX6_write_17 rfl (lv_at hl 2 rfl) ?_
    refine q_cS (As := [.int (v)]) (rest := []) (w := []) ⟨hx, hb, hml, hown, hts⟩ (c_X6_isValue D cy (v)) (va_cwS 1 hts gX6_write_X6_isValue rfl rfl rfl hd_X6_isValue ⟨Nat.le_of_ble_eq_true rfl, Nat.le_of_ble_eq_true rfl⟩) hK q_Pnil rfl hl.1 rfl (Nat.le_of_ble_eq_true rfl) ⟨Nat.zero_le _, Nat.zero_le _⟩ dX6_write_18 ?_
    refine q_ifneB (tgt := 34) hx hb dX6_write_21 (by decide) (fun c_21 => ?_) (fun c_21 => ?_)
    · obtain ⟨j, h_j, e_j⟩ := inR_nI c_4
      have x_j : ix x = j := by rw [e_j]; exact nI_clamp (by omega)
      have hl : lv_has ls 3 [(0, .ref (a 0)), (1, .int (nI (j))), (2, .int (v))] := by rw [← e_j]; exact hl
      refine lv_aload_n hx hb dX6_write_34 rfl (lv_at hl 0 rfl) ?_
      refine lv_iload_n hx hb dX6_write_35 rfl (lv_at hl 1 rfl) ?_
      refine q_cV (As := [.int (nI (j))]) (rest := []) ⟨hx, hb, hml, hown, hts⟩ (c_X6_canStore D cy a σ kept nxt cnt T len pos ph le nu va Z (j) (by omega)) (cwV 1 hts gX6_write_X6_canStore rfl rfl rfl hd_X6_canStore ⟨Nat.le_of_ble_eq_true rfl, Nat.le_of_ble_eq_true rfl⟩) hK hP 0 rfl rfl rfl hl.1 rfl (Nat.le_of_ble_eq_true rfl) ⟨Nat.zero_le _, Nat.zero_le _⟩ dX6_write_36 ?_
      refine q_ifneB (tgt := 52) hx hb dX6_write_39 (by decide) (fun c_39 => ?_) (fun c_39 => ?_)
      · refine lv_aload_n hx hb dX6_write_52 rfl (lv_at hl 0 rfl) ?_
        refine va_get (D := D) (ci := 6) (v := .ref (a 11)) (C := RX6) (T := TX6) (N := 4) hx hb hts (fun _ h => List.mem_cons_of_mem _ (List.mem_append_left _ (List.mem_append_left _ (List.mem_append_left _ (List.mem_append_left _ (List.mem_append_left _ (List.mem_append_left _ (List.mem_append_left _ (List.mem_append_right _ h))))))))) hown hK hP 0 rfl rfl 2 (by decide) (hts (.fieldLink RX6 26 "SpreadParity" "history" "LSpreadParity$History;") (List.mem_of_getElem? (i := 7) rfl)) (fun _ h9 => h9) rfl dX6_write_53 ?_
        refine lv_aload_n hx hb dX6_write_56 rfl (lv_at hl 0 rfl) ?_
        refine va_get (D := D) (ci := 6) (v := .ref (a 8)) (C := RX6) (T := TX6) (N := 4) hx hb hts (fun _ h => List.mem_cons_of_mem _ (List.mem_append_left _ (List.mem_append_left _ (List.mem_append_left _ (List.mem_append_left _ (List.mem_append_left _ (List.mem_append_left _ (List.mem_append_left _ (List.mem_append_right _ h))))))))) hown hK hP 0 rfl rfl 1 (by decide) (hts (.fieldLink RX6 19 "SpreadParity" "now" "LSpreadParity$State;") (List.mem_of_getElem? (i := 8) rfl)) (fun _ h9 => h9) rfl dX6_write_57 ?_
        refine q_wV0 (As := [.ref (a 8)]) (rest := []) (st1 := []) ⟨hx, hb, hml, hown, hts⟩ (c_X0_keep D cy A a σ kept nxt cnt T len pos ph le nu va Z (by omega) (by omega)) (cwV 1 hts gX6_write_X0_keep rfl rfl rfl hd_X0_keep ⟨Nat.le_of_ble_eq_true rfl, Nat.le_of_ble_eq_true rfl⟩) hK hA hw 11 rfl rfl rfl hl.1 rfl rfl (Nat.le_of_ble_eq_true rfl) ⟨Nat.zero_le _, Nat.zero_le _⟩ dX6_write_60 (fun H locs hw => ?_)
        have hw : wS D A (wX cy a σ (cpK kept σ (nxt * 86) 86) ((nxt + 1) % 6) (min (cnt + 1) 6) T len pos ph le nu va ++ Z) s H locs := hw
        have hP := hw.1
        refine lv_aload_n hx hb dX6_write_63 rfl (lv_at hl 0 rfl) ?_
        refine lv_iload_n hx hb dX6_write_64 rfl (lv_at hl 1 rfl) ?_
        refine lv_iload_n hx hb dX6_write_65 rfl (lv_at hl 2 rfl) ?_
        refine q_wV0 (As := [.int (nI (j)), .int (v)]) (rest := []) (st1 := [.int (nI (wC σ j))]) ⟨hx, hb, hml, hown, hts⟩ (c_X6_storeData D cy A a σ (cpK kept σ (nxt * 86) 86) ((nxt + 1) % 6) (min (cnt + 1) 6) T len pos ph le nu va Z (j) (v) (by omega)) (cwV 2 hts gX6_write_X6_storeData rfl rfl rfl hd_X6_storeData ⟨Nat.le_of_ble_eq_true rfl, Nat.le_of_ble_eq_true rfl⟩) hK hA hw 0 rfl rfl rfl hl.1 rfl rfl (Nat.le_of_ble_eq_true rfl) ⟨Nat.zero_le _, Nat.zero_le _⟩ dX6_write_66 (fun H locs hw => ?_)
        have hw : wS D A (wX cy a (wD σ j v) (cpK kept σ (nxt * 86) 86) ((nxt + 1) % 6) (min (cnt + 1) 6) T len pos ph le nu va ++ Z) s H locs := hw
        have hP := hw.1
        have e_s : wD σ j v = wD σ (ix x) v := by rw [x_j]
        rw [e_s] at hw
        have e_c : cWr σ x v = 0 := by rw [cWr, if_pos c_4, if_pos c_21, x_j, if_pos c_39]
        exact q_iretX hx hb hr hlocks hw (Nat.le_of_ble_eq_true rfl) (Nat.le_of_ble_eq_true rfl) dX6_write_69 e_c (by rw [x_j])
      · have e_c : cWr σ x v = 3 := by rw [cWr, if_pos c_4, if_pos c_21, x_j, if_neg (by rw [c_39]; decide)]
        obtain ⟨sa, hsa⟩ := hN.2.2.2 (85, "the write is not possible") (by decide)
        exact vx_throwS (names := eNm) (A := A) (sa := sa) (text := "the write is not possible") hx hb hst hown eS_fit eNm_fit (hts (.classLink RX6 56 "java/lang/IllegalStateException") (List.mem_of_getElem? (i := 5) rfl)) (hts (.initialized "java/lang/IllegalStateException") (List.mem_of_getElem? (i := 6) rfl)) hsa (vx_hat (fun w h => hts w ((fun _ h => List.mem_cons_of_mem _ (List.mem_append_right _ h)) w h)) eS_bad (fun w h => va_Nw.use (xWd_on w (eS_wd w h)) (hN.2.2.1 w (eS_wd w h)))) eS_good hN.1 hN.2.1 hw.2.2 (hl.1.trans hml.symm) dX6_write_42 dX6_write_45 dX6_write_46 dX6_write_48 dX6_write_51 (fun x h => (hexc x h).elim) (by decide) (by decide) (by decide) (by decide) hlocks (fun t _ hz hk => ⟨by rw [e_c]; decide, by rw [e_c] <;> rfl, wS.x hw hz hk⟩) hw.2.2.2.2 (by decide) (by decide)
    · have e_c : cWr σ x v = 2 := by rw [cWr, if_pos c_4, if_neg (by rw [c_21]; decide)]
      obtain ⟨sa, hsa⟩ := hN.2.2.2 (79, "the value is out of range") (by decide)
      exact vx_throwS (names := eNm) (A := A) (sa := sa) (text := "the value is out of range") hx hb hst hown eA_fit eNm_fit (hts (.classLink RX6 77 "java/lang/IllegalArgumentException") (List.mem_of_getElem? (i := 3) rfl)) (hts (.initialized "java/lang/IllegalArgumentException") (List.mem_of_getElem? (i := 4) rfl)) hsa (vx_hat (fun w h => hts w ((fun _ h => List.mem_cons_of_mem _ (List.mem_append_left _ (List.mem_append_right _ h))) w h)) eA_bad (fun w h => va_Nw.use (xWd_on w (eA_wd w h)) (hN.2.2.1 w (eA_wd w h)))) eA_good hN.1 hN.2.1 hw.2.2 (hl.1.trans hml.symm) dX6_write_24 dX6_write_27 dX6_write_28 dX6_write_30 dX6_write_33 (fun x h => (hexc x h).elim) (by decide) (by decide) (by decide) (by decide) hlocks (fun t _ hz hk => ⟨by rw [e_c]; decide, by rw [e_c] <;> rfl, wS.x hw hz hk⟩) hw.2.2.2.2 (by decide) (by decide)
  · have e_c : cWr σ x v = 1 := by rw [cWr, if_neg (by rw [c_4]; decide)]
    obtain ⟨sa, hsa⟩ := hN.2.2.2 (43, "there is no such address") (by decide)
    exact vx_throwS (names := eNm) (A := A) (sa := sa) (text := "there is no such address") hx hb hst hown eI_fit eNm_fit (hts (.classLink RX6 41 "java/lang/IndexOutOfBoundsException") (List.mem_of_getElem? (i := 1) rfl)) (hts (.initialized "java/lang/IndexOutOfBoundsException") (List.mem_of_getElem? (i := 2) rfl)) hsa (vx_hat (fun w h => hts w ((fun _ h => List.mem_cons_of_mem _ (List.mem_append_left _ (List.mem_append_left _ (List.mem_append_right _ h)))) w h)) eI_bad (fun w h => va_Nw.use (xWd_on w (eI_wd w h)) (hN.2.2.1 w (eI_wd w h)))) eI_good hN.1 hN.2.1 hw.2.2 (hl.1.trans hml.symm) dX6_write_7 dX6_write_10 dX6_write_11 dX6_write_13 dX6_write_16 (fun x h => (hexc x h).elim) (by decide) (by decide) (by decide) (by decide) hlocks (fun t _ hz hk => ⟨by rw [e_c]; decide, by rw [e_c] <;> rfl, wS.x hw hz hk⟩) hw.2.2.2.2 (by decide) (by decide)
set_option maxHeartbeats 1000000 in
set_option maxRecDepth 100000 in
theorem c_X6_fail {l : Launch} (hst : l.stackTraces = false) (D : va_G) (cy : ClassId) (A : Nat → Prop) (a : Nat → Nat) (σ kept : Nat → Int32) (nxt cnt : Nat) (T : Nat → Int32) (len pos : Nat) (ph le nu va : Int32) (Z : va_W) (x : Int32) (h_0 : nxt < 6) (h_1 : cnt ≤ 6) : vx_Met l yX6_fail wsX6_fail ({ frames := 6, cells := 1, slots := 6, locals := 111 } : Room) (gX D cy [.ref (a 0), .int (x)] A (wX cy a σ kept nxt cnt T len pos ph le nu va ++ Z)) (xQ D A (cFl σ x) (some (.int (nI (cl (failS σ (ix x)))))) (wX cy a (failS σ (ix x)) (cpK kept σ (nxt * 86) 86) ((nxt + 1) % 6) (min (cnt + 1) 6) T len pos ph le nu va ++ Z)) (xX D A (fun k => if k = 1 then eI else eS) (cFl σ x) (wX cy a σ kept nxt cnt T len pos ph le nu va ++ Z)) 1 6 A := by
  refine q_xmp (cc := cX6_fail) (maxL := 2) (ret := (some .int)) pl_X6 rfl (Nat.le_of_ble_eq_true rfl) ?_
  intro p e s m below meth c ls hx hb hr hml hts hown hlocks hw hK hA hl hexc hN
  have hP := hw.1
  have hl : lv_has ls 2 [(0, .ref (a 0)), (1, .int (x))] := hl
  refine lv_iload_n hx hb dX6_fail_0 rfl (lv_at hl 1 rfl) ?_
  refine q_cS (As := [.int (x)]) (rest := []) (w := []) ⟨hx, hb, hml, hown, hts⟩ (c_X6_isDisc D cy (x)) (va_cwS 1 hts gX6_fail_X6_isDisc rfl rfl rfl hd_X6_isDisc ⟨Nat.le_of_ble_eq_true rfl, Nat.le_of_ble_eq_true rfl⟩) hK q_Pnil rfl hl.1 rfl (Nat.le_of_ble_eq_true rfl) ⟨Nat.zero_le _, Nat.zero_le _⟩ dX6_fail_1 ?_
  refine q_ifneB (tgt := 17) hx hb dX6_fail_4 (by decide) (fun c_4 => ?_) (fun c_4 => ?_)
  · obtain ⟨j, h_j, e_j⟩ := inR_nI c_4
    have x_j : ix x = j := by rw [e_j]; exact nI_clamp (by omega)
    have hl : lv_has ls 2 [(0, .ref (a 0)), (1, .int (nI (j)))] := by rw [← e_j]; exact hl
    refine lv_aload_n hx hb dX6_fail_17 rfl (lv_at hl 0 rfl) ?_
    refine lv_iload_n hx hb dX6_fail_18 rfl (lv_at hl 1 rfl) ?_
    refine q_cV (As := [.int (nI (j))]) (rest := []) ⟨hx, hb, hml, hown, hts⟩ (c_X6_canDrop D cy a σ kept nxt cnt T len pos ph le nu va Z (j) (by omega)) (cwV 1 hts gX6_fail_X6_canDrop rfl rfl rfl hd_X6_canDrop ⟨Nat.le_of_ble_eq_true rfl, Nat.le_of_ble_eq_true rfl⟩) hK hP 0 rfl rfl rfl hl.1 rfl (Nat.le_of_ble_eq_true rfl) ⟨Nat.zero_le _, Nat.zero_le _⟩ dX6_fail_19 ?_
    refine q_ifneB (tgt := 35) hx hb dX6_fail_22 (by decide) (fun c_22 => ?_) (fun c_22 => ?_)
    · refine lv_aload_n hx hb dX6_fail_35 rfl (lv_at hl 0 rfl) ?_
      refine va_get (D := D) (ci := 6) (v := .ref (a 11)) (C := RX6) (T := TX6) (N := 4) hx hb hts (fun _ h => List.mem_cons_of_mem _ (List.mem_append_left _ (List.mem_append_left _ (List.mem_append_left _ (List.mem_append_left _ (List.mem_append_left _ (List.mem_append_left _ (List.mem_append_right _ h)))))))) hown hK hP 0 rfl rfl 2 (by decide) (hts (.fieldLink RX6 26 "SpreadParity" "history" "LSpreadParity$History;") (List.mem_of_getElem? (i := 5) rfl)) (fun _ h9 => h9) rfl dX6_fail_36 ?_
      refine lv_aload_n hx hb dX6_fail_39 rfl (lv_at hl 0 rfl) ?_
      refine va_get (D := D) (ci := 6) (v := .ref (a 8)) (C := RX6) (T := TX6) (N := 4) hx hb hts (fun _ h => List.mem_cons_of_mem _ (List.mem_append_left _ (List.mem_append_left _ (List.mem_append_left _ (List.mem_append_left _ (List.mem_append_left _ (List.mem_append_left _ (List.mem_append_right _ h)))))))) hown hK hP 0 rfl rfl 1 (by decide) (hts (.fieldLink RX6 19 "SpreadParity" "now" "LSpreadParity$State;") (List.mem_of_getElem? (i := 6) rfl)) (fun _ h9 => h9) rfl dX6_fail_40 ?_
      refine q_wV0 (As := [.ref (a 8)]) (rest := []) (st1 := []) ⟨hx, hb, hml, hown, hts⟩ (c_X0_keep D cy A a σ kept nxt cnt T len pos ph le nu va Z (by omega) (by omega)) (cwV 1 hts gX6_fail_X0_keep rfl rfl rfl hd_X0_keep ⟨Nat.le_of_ble_eq_true rfl, Nat.le_of_ble_eq_true rfl⟩) hK hA hw 11 rfl rfl rfl hl.1 rfl rfl (Nat.le_of_ble_eq_true rfl) ⟨Nat.zero_le _, Nat.zero_le _⟩ dX6_fail_43 (fun H locs hw => ?_)
      have hw : wS D A (wX cy a σ (cpK kept σ (nxt * 86) 86) ((nxt + 1) % 6) (min (cnt + 1) 6) T len pos ph le nu va ++ Z) s H locs := hw
      have hP := hw.1
      refine lv_aload_n hx hb dX6_fail_46 rfl (lv_at hl 0 rfl) ?_
      refine va_get (D := D) (ci := 6) (v := .ref (a 8)) (C := RX6) (T := TX6) (N := 4) hx hb hts (fun _ h => List.mem_cons_of_mem _ (List.mem_append_left _ (List.mem_append_left _ (List.mem_append_left _ (List.mem_append_left _ (List.mem_append_left _ (List.mem_append_left _ (List.mem_append_right _ h)))))))) hown hK hP 0 rfl rfl 1 (by decide) (hts (.fieldLink RX6 19 "SpreadParity" "now" "LSpreadParity$State;") (List.mem_of_getElem? (i := 6) rfl)) (fun _ h9 => h9) rfl dX6_fail_47 ?_
      refine lv_iload_n hx hb dX6_fail_50 rfl (lv_at hl 1 rfl) ?_
      refine q_wV0 (As := [.int (nI (j))]) (rest := []) (st1 := []) ⟨hx, hb, hml, hown, hts⟩ (c_X5_dropDisc D cy A a σ (cpK kept σ (nxt * 86) 86) ((nxt + 1) % 6) (min (cnt + 1) 6) T len pos ph le nu va Z (j) (by omega)) (cwV 1 hts gX6_fail_X5_dropDisc rfl rfl rfl hd_X5_dropDisc ⟨Nat.le_of_ble_eq_true rfl, Nat.le_of_ble_eq_true rfl⟩) hK hA hw 8 rfl rfl rfl hl.1 rfl rfl (Nat.le_of_ble_eq_true rfl) ⟨Nat.zero_le _, Nat.zero_le _⟩ dX6_fail_51 (fun H locs hw => ?_)
      have hw : wS D A (wX cy a (failS σ j) (cpK kept σ (nxt * 86) 86) ((nxt + 1) % 6) (min (cnt + 1) 6) T len pos ph le nu va ++ Z) s H locs := hw
      have hP := hw.1
      refine lv_aload_n hx hb dX6_fail_54 rfl (lv_at hl 0 rfl) ?_
      refine lv_iconst (v := -1) hx hb dX6_fail_55 rfl ?_
      refine q_cV (As := [.int (-1)]) (rest := []) ⟨hx, hb, hml, hown, hts⟩ (c_X6_countLost D cy a (failS σ j) (cpK kept σ (nxt * 86) 86) ((nxt + 1) % 6) (min (cnt + 1) 6) T len pos ph le nu va Z (failS σ j) (-1) (Wo_none _)) (cwV 1 hts gX6_fail_X6_countLost rfl rfl rfl hd_X6_countLost ⟨Nat.le_of_ble_eq_true rfl, Nat.le_of_ble_eq_true rfl⟩) hK hP 0 rfl rfl rfl hl.1 rfl (Nat.le_of_ble_eq_true rfl) ⟨Nat.zero_le _, Nat.zero_le _⟩ dX6_fail_56 ?_
      have e_s : failS σ j = failS σ (ix x) := by rw [x_j]
      rw [e_s] at hw
      have e_c : cFl σ x = 0 := by rw [cFl, if_pos c_4, x_j, if_neg (by simpa using c_22)]
      exact q_iretX hx hb hr hlocks hw (Nat.le_of_ble_eq_true rfl) (Nat.le_of_ble_eq_true rfl) dX6_fail_59 e_c (by rw [x_j])
    · have e_c : cFl σ x = 2 := by rw [cFl, if_pos c_4, x_j, if_pos (by simpa using c_22)]
      obtain ⟨sa, hsa⟩ := hN.2.2.2 (99, "the disc is failed already") (by decide)
      exact vx_throwS (names := eNm) (A := A) (sa := sa) (text := "the disc is failed already") hx hb hst hown eS_fit eNm_fit (hts (.classLink RX6 56 "java/lang/IllegalStateException") (List.mem_of_getElem? (i := 3) rfl)) (hts (.initialized "java/lang/IllegalStateException") (List.mem_of_getElem? (i := 4) rfl)) hsa (vx_hat (fun w h => hts w ((fun _ h => List.mem_cons_of_mem _ (List.mem_append_right _ h)) w h)) eS_bad (fun w h => va_Nw.use (xWd_on w (eS_wd w h)) (hN.2.2.1 w (eS_wd w h)))) eS_good hN.1 hN.2.1 hw.2.2 (hl.1.trans hml.symm) dX6_fail_25 dX6_fail_28 dX6_fail_29 dX6_fail_31 dX6_fail_34 (fun x h => (hexc x h).elim) (by decide) (by decide) (by decide) (by decide) hlocks (fun t _ hz hk => ⟨by rw [e_c]; decide, by rw [e_c] <;> rfl, wS.x hw hz hk⟩) hw.2.2.2.2 (by decide) (by decide)
  · have e_c : cFl σ x = 1 := by rw [cFl, if_neg (by rw [c_4]; decide)]
    obtain ⟨sa, hsa⟩ := hN.2.2.2 (94, "there is no such disc") (by decide)
    exact vx_throwS (names := eNm) (A := A) (sa := sa) (text := "there is no such disc") hx hb hst hown eI_fit eNm_fit (hts (.classLink RX6 41 "java/lang/IndexOutOfBoundsException") (List.mem_of_getElem? (i := 1) rfl)) (hts (.initialized "java/lang/IndexOutOfBoundsException") (List.mem_of_getElem? (i := 2) rfl)) hsa (vx_hat (fun w h => hts w ((fun _ h => List.mem_cons_of_mem _ (List.mem_append_left _ (List.mem_append_right _ h))) w h)) eI_bad (fun w h => va_Nw.use (xWd_on w (eI_wd w h)) (hN.2.2.1 w (eI_wd w h)))) eI_good hN.1 hN.2.1 hw.2.2 (hl.1.trans hml.symm) dX6_fail_7 dX6_fail_10 dX6_fail_11 dX6_fail_13 dX6_fail_16 (fun x h => (hexc x h).elim) (by decide) (by decide) (by decide) (by decide) hlocks (fun t _ hz hk => ⟨by rw [e_c]; decide, by rw [e_c] <;> rfl, wS.x hw hz hk⟩) hw.2.2.2.2 (by decide) (by decide)
set_option maxHeartbeats 1000000 in
set_option maxRecDepth 100000 in
theorem c_X6_beginMending {l : Launch} (hst : l.stackTraces = false) (D : va_G) (cy : ClassId) (A : Nat → Prop) (a : Nat → Nat) (σ kept : Nat → Int32) (nxt cnt : Nat) (T : Nat → Int32) (len pos : Nat) (ph le nu va : Int32) (Z : va_W) (x : Int32) (h_0 : Val σ) (h_1 : nxt < 6) (h_2 : cnt ≤ 6) : vx_Met l yX6_beginMending wsX6_beginMending ({ frames := 6, cells := 1, slots := 6, locals := 82 } : Room) (gX D cy [.ref (a 0), .int (x)] A (wX cy a σ kept nxt cnt T len pos ph le nu va ++ Z)) (xQ D A (cBg σ x) (some (.int (begS σ (ix x) 84))) (wX cy a (begS σ (ix x)) (cpK kept σ (nxt * 86) 86) ((nxt + 1) % 6) (min (cnt + 1) 6) T len pos ph le nu va ++ Z)) (xX D A (fun k => if k = 1 then eI else eS) (cBg σ x) (wX cy a σ kept nxt cnt T len pos ph le nu va ++ Z)) 1 6 A := by
  refine q_xmp (cc := cX6_beginMending) (maxL := 2) (ret := (some .int)) pl_X6 rfl (Nat.le_of_ble_eq_true rfl) ?_
  intro p e s m below meth c ls hx hb hr hml hts hown hlocks hw hK hA hl hexc hN
  have hP := hw.1
  have hl : lv_has ls 2 [(0, .ref (a 0)), (1, .int (x))] := hl
  refine lv_iload_n hx hb dX6_beginMending_0 rfl (lv_at hl 1 rfl) ?_
  refine q_cS (As := [.int (x)]) (rest := []) (w := []) ⟨hx, hb, hml, hown, hts⟩ (c_X6_isDisc D cy (x)) (va_cwS 1 hts gX6_beginMending_X6_isDisc rfl rfl rfl hd_X6_isDisc ⟨Nat.le_of_ble_eq_true rfl, Nat.le_of_ble_eq_true rfl⟩) hK q_Pnil rfl hl.1 rfl (Nat.le_of_ble_eq_true rfl) ⟨Nat.zero_le _, Nat.zero_le _⟩ dX6_beginMending_1 ?_
  refine q_ifneB (tgt := 17) hx hb dX6_beginMending_4 (by decide) (fun c_4 => ?_) (fun c_4 => ?_)
  · obtain ⟨j, h_j, e_j⟩ := inR_nI c_4
    have x_j : ix x = j := by rw [e_j]; exact nI_clamp (by omega)
    have hl : lv_has ls 2 [(0, .ref (a 0)), (1, .int (nI (j)))] := by rw [← e_j]; exact hl
    refine lv_aload_n hx hb dX6_beginMending_17 rfl (lv_at hl 0 rfl) ?_
    refine lv_iload_n hx hb dX6_beginMending_18 rfl (lv_at hl 1 rfl) ?_
    refine q_cV (As := [.int (nI (j))]) (rest := []) ⟨hx, hb, hml, hown, hts⟩ (c_X6_canReplace D cy a σ kept nxt cnt T len pos ph le nu va Z (j) (by omega)) (cwV 1 hts gX6_beginMending_X6_canReplace rfl rfl rfl hd_X6_canReplace ⟨Nat.le_of_ble_eq_true rfl, Nat.le_of_ble_eq_true rfl⟩) hK hP 0 rfl rfl rfl hl.1 rfl (Nat.le_of_ble_eq_true rfl) ⟨Nat.zero_le _, Nat.zero_le _⟩ dX6_beginMending_19 ?_
    refine q_ifneB (tgt := 35) hx hb dX6_beginMending_22 (by decide) (fun c_22 => ?_) (fun c_22 => ?_)
    · refine lv_aload_n hx hb dX6_beginMending_35 rfl (lv_at hl 0 rfl) ?_
      refine va_get (D := D) (ci := 6) (v := .ref (a 11)) (C := RX6) (T := TX6) (N := 4) hx hb hts (fun _ h => List.mem_cons_of_mem _ (List.mem_append_left _ (List.mem_append_left _ (List.mem_append_left _ (List.mem_append_left _ (List.mem_append_left _ (List.mem_append_right _ h))))))) hown hK hP 0 rfl rfl 2 (by decide) (hts (.fieldLink RX6 26 "SpreadParity" "history" "LSpreadParity$History;") (List.mem_of_getElem? (i := 5) rfl)) (fun _ h9 => h9) rfl dX6_beginMending_36 ?_
      refine lv_aload_n hx hb dX6_beginMending_39 rfl (lv_at hl 0 rfl) ?_
      refine va_get (D := D) (ci := 6) (v := .ref (a 8)) (C := RX6) (T := TX6) (N := 4) hx hb hts (fun _ h => List.mem_cons_of_mem _ (List.mem_append_left _ (List.mem_append_left _ (List.mem_append_left _ (List.mem_append_left _ (List.mem_append_left _ (List.mem_append_right _ h))))))) hown hK hP 0 rfl rfl 1 (by decide) (hts (.fieldLink RX6 19 "SpreadParity" "now" "LSpreadParity$State;") (List.mem_of_getElem? (i := 6) rfl)) (fun _ h9 => h9) rfl dX6_beginMending_40 ?_
      refine q_wV0 (As := [.ref (a 8)]) (rest := []) (st1 := []) ⟨hx, hb, hml, hown, hts⟩ (c_X0_keep D cy A a σ kept nxt cnt T len pos ph le nu va Z (by omega) (by omega)) (cwV 1 hts gX6_beginMending_X0_keep rfl rfl rfl hd_X0_keep ⟨Nat.le_of_ble_eq_true rfl, Nat.le_of_ble_eq_true rfl⟩) hK hA hw 11 rfl rfl rfl hl.1 rfl rfl (Nat.le_of_ble_eq_true rfl) ⟨Nat.zero_le _, Nat.zero_le _⟩ dX6_beginMending_43 (fun H locs hw => ?_)
      have hw : wS D A (wX cy a σ (cpK kept σ (nxt * 86) 86) ((nxt + 1) % 6) (min (cnt + 1) 6) T len pos ph le nu va ++ Z) s H locs := hw
      have hP := hw.1
      refine lv_aload_n hx hb dX6_beginMending_46 rfl (lv_at hl 0 rfl) ?_
      refine va_get (D := D) (ci := 6) (v := .ref (a 8)) (C := RX6) (T := TX6) (N := 4) hx hb hts (fun _ h => List.mem_cons_of_mem _ (List.mem_append_left _ (List.mem_append_left _ (List.mem_append_left _ (List.mem_append_left _ (List.mem_append_left _ (List.mem_append_right _ h))))))) hown hK hP 0 rfl rfl 1 (by decide) (hts (.fieldLink RX6 19 "SpreadParity" "now" "LSpreadParity$State;") (List.mem_of_getElem? (i := 6) rfl)) (fun _ h9 => h9) rfl dX6_beginMending_47 ?_
      refine lv_iload_n hx hb dX6_beginMending_50 rfl (lv_at hl 1 rfl) ?_
      refine q_wV0 (As := [.int (nI (j))]) (rest := []) (st1 := []) ⟨hx, hb, hml, hown, hts⟩ (c_X5_replaceDisc D cy A a σ (cpK kept σ (nxt * 86) 86) ((nxt + 1) % 6) (min (cnt + 1) 6) T len pos ph le nu va Z (j) (by omega)) (cwV 1 hts gX6_beginMending_X5_replaceDisc rfl rfl rfl hd_X5_replaceDisc ⟨Nat.le_of_ble_eq_true rfl, Nat.le_of_ble_eq_true rfl⟩) hK hA hw 8 rfl rfl rfl hl.1 rfl rfl (Nat.le_of_ble_eq_true rfl) ⟨Nat.zero_le _, Nat.zero_le _⟩ dX6_beginMending_51 (fun H locs hw => ?_)
      have hw : wS D A (wX cy a (begS σ j) (cpK kept σ (nxt * 86) 86) ((nxt + 1) % 6) (min (cnt + 1) 6) T len pos ph le nu va ++ Z) s H locs := hw
      have hP := hw.1
      refine lv_aload_n hx hb dX6_beginMending_54 rfl (lv_at hl 0 rfl) ?_
      refine va_get (D := D) (ci := 6) (v := .ref (a 8)) (C := RX6) (T := TX6) (N := 4) hx hb hts (fun _ h => List.mem_cons_of_mem _ (List.mem_append_left _ (List.mem_append_left _ (List.mem_append_left _ (List.mem_append_left _ (List.mem_append_left _ (List.mem_append_right _ h))))))) hown hK hP 0 rfl rfl 1 (by decide) (hts (.fieldLink RX6 19 "SpreadParity" "now" "LSpreadParity$State;") (List.mem_of_getElem? (i := 6) rfl)) (fun _ h9 => h9) rfl dX6_beginMending_55 ?_
      refine q_cV (As := []) (rest := []) ⟨hx, hb, hml, hown, hts⟩ (c_X5_spareDiscs D cy a (begS σ j) (cpK kept σ (nxt * 86) 86) ((nxt + 1) % 6) (min (cnt + 1) 6) T len pos ph le nu va Z ) (cwV 0 hts gX6_beginMending_X5_spareDiscs rfl rfl rfl hd_X5_spareDiscs ⟨Nat.le_of_ble_eq_true rfl, Nat.le_of_ble_eq_true rfl⟩) hK hP 8 rfl rfl rfl hl.1 rfl (Nat.le_of_ble_eq_true rfl) ⟨Nat.zero_le _, Nat.zero_le _⟩ dX6_beginMending_58 ?_
      have e_s : begS σ j = begS σ (ix x) := by rw [x_j]
      rw [e_s] at hw
      have e_c : cBg σ x = 0 := by rw [cBg, if_pos c_4, x_j, if_neg (bg_t h_0 c_22)]
      exact q_iretX hx hb hr hlocks hw (Nat.le_of_ble_eq_true rfl) (Nat.le_of_ble_eq_true rfl) dX6_beginMending_61 e_c (by rw [x_j])
    · have e_c : cBg σ x = 2 := by rw [cBg, if_pos c_4, x_j, if_pos (bg_f h_0 c_22)]
      obtain ⟨sa, hsa⟩ := hN.2.2.2 (111, "the disc cannot be mended now") (by decide)
      exact vx_throwS (names := eNm) (A := A) (sa := sa) (text := "the disc cannot be mended now") hx hb hst hown eS_fit eNm_fit (hts (.classLink RX6 56 "java/lang/IllegalStateException") (List.mem_of_getElem? (i := 3) rfl)) (hts (.initialized "java/lang/IllegalStateException") (List.mem_of_getElem? (i := 4) rfl)) hsa (vx_hat (fun w h => hts w ((fun _ h => List.mem_cons_of_mem _ (List.mem_append_right _ h)) w h)) eS_bad (fun w h => va_Nw.use (xWd_on w (eS_wd w h)) (hN.2.2.1 w (eS_wd w h)))) eS_good hN.1 hN.2.1 hw.2.2 (hl.1.trans hml.symm) dX6_beginMending_25 dX6_beginMending_28 dX6_beginMending_29 dX6_beginMending_31 dX6_beginMending_34 (fun x h => (hexc x h).elim) (by decide) (by decide) (by decide) (by decide) hlocks (fun t _ hz hk => ⟨by rw [e_c]; decide, by rw [e_c] <;> rfl, wS.x hw hz hk⟩) hw.2.2.2.2 (by decide) (by decide)
  · have e_c : cBg σ x = 1 := by rw [cBg, if_neg (by rw [c_4]; decide)]
    obtain ⟨sa, hsa⟩ := hN.2.2.2 (94, "there is no such disc") (by decide)
    exact vx_throwS (names := eNm) (A := A) (sa := sa) (text := "there is no such disc") hx hb hst hown eI_fit eNm_fit (hts (.classLink RX6 41 "java/lang/IndexOutOfBoundsException") (List.mem_of_getElem? (i := 1) rfl)) (hts (.initialized "java/lang/IndexOutOfBoundsException") (List.mem_of_getElem? (i := 2) rfl)) hsa (vx_hat (fun w h => hts w ((fun _ h => List.mem_cons_of_mem _ (List.mem_append_left _ (List.mem_append_right _ h))) w h)) eI_bad (fun w h => va_Nw.use (xWd_on w (eI_wd w h)) (hN.2.2.1 w (eI_wd w h)))) eI_good hN.1 hN.2.1 hw.2.2 (hl.1.trans hml.symm) dX6_beginMending_7 dX6_beginMending_10 dX6_beginMending_11 dX6_beginMending_13 dX6_beginMending_16 (fun x h => (hexc x h).elim) (by decide) (by decide) (by decide) (by decide) hlocks (fun t _ hz hk => ⟨by rw [e_c]; decide, by rw [e_c] <;> rfl, wS.x hw hz hk⟩) hw.2.2.2.2 (by decide) (by decide)
set_option maxHeartbeats 1000000 in
set_option maxRecDepth 100000 in
theorem c_X6_mend {l : Launch} (hst : l.stackTraces = false) (D : va_G) (cy : ClassId) (A : Nat → Prop) (a : Nat → Nat) (σ kept : Nat → Int32) (nxt cnt : Nat) (T : Nat → Int32) (len pos : Nat) (ph le nu va : Int32) (Z : va_W) (x : Int32) (h_0 : Val σ) (h_1 : nxt < 6) (h_2 : cnt ≤ 6) : vx_Met l yX6_mend wsX6_mend ({ frames := 6, cells := 1, slots := 6, locals := 111 } : Room) (gX D cy [.ref (a 0), .int (x)] A (wX cy a σ kept nxt cnt T len pos ph le nu va ++ Z)) (xQ D A (cMe x) (some (.int (nI ((mnS (ix x) σ).2)))) (wX cy a ((mnS (ix x) σ).1) (cpK kept σ (nxt * 86) 86) ((nxt + 1) % 6) (min (cnt + 1) 6) T len pos ph le nu va ++ Z)) (xX D A (fun _ => eA) (cMe x) (wX cy a σ kept nxt cnt T len pos ph le nu va ++ Z)) 1 6 A := by
  refine q_xmp (cc := cX6_mend) (maxL := 2) (ret := (some .int)) pl_X6 rfl (Nat.le_of_ble_eq_true rfl) ?_
  intro p e s m below meth c ls hx hb hr hml hts hown hlocks hw hK hA hl hexc hN
  have hP := hw.1
  have hl : lv_has ls 2 [(0, .ref (a 0)), (1, .int (x))] := hl
  refine lv_iload_n hx hb dX6_mend_0 rfl (lv_at hl 1 rfl) ?_
  refine lv_iconst (v := nI 1) hx hb dX6_mend_1 rfl ?_
  refine lv_icmp_lt (tgt := 11) hx hb dX6_mend_2 (by decide) (fun (c_2 : (x) < (1)) => ?_) (fun (c_2 : ¬ (x) < (1)) => ?_)
  · have e_c : cMe x = 1 := by rw [cMe, if_neg (fun h => (inB_p h).1 c_2)]
    obtain ⟨sa, hsa⟩ := hN.2.2.2 (120, "the number of steps is out of range") (by decide)
    exact vx_throwS (names := eNm) (A := A) (sa := sa) (text := "the number of steps is out of range") hx hb hst hown eA_fit eNm_fit (hts (.classLink RX6 77 "java/lang/IllegalArgumentException") (List.mem_of_getElem? (i := 1) rfl)) (hts (.initialized "java/lang/IllegalArgumentException") (List.mem_of_getElem? (i := 2) rfl)) hsa (vx_hat (fun w h => hts w ((fun _ h => List.mem_cons_of_mem _ (List.mem_append_right _ h)) w h)) eA_bad (fun w h => va_Nw.use (xWd_on w (eA_wd w h)) (hN.2.2.1 w (eA_wd w h)))) eA_good hN.1 hN.2.1 hw.2.2 (hl.1.trans hml.symm) dX6_mend_11 dX6_mend_14 dX6_mend_15 dX6_mend_17 dX6_mend_20 (fun x h => (hexc x h).elim) (by decide) (by decide) (by decide) (by decide) hlocks (fun t _ hz hk => ⟨by rw [e_c]; decide, by rw [e_c] <;> rfl, wS.x hw hz hk⟩) hw.2.2.2.2 (by decide) (by decide)
  · refine lv_iload_n hx hb dX6_mend_5 rfl (lv_at hl 1 rfl) ?_
    refine lv_bipush (v := nI 9) hx hb dX6_mend_6 rfl ?_
    refine lv_icmp_le (tgt := 21) hx hb dX6_mend_8 (by decide) (fun (c_8 : (x) ≤ (9)) => ?_) (fun (c_8 : ¬ (x) ≤ (9)) => ?_)
    · obtain ⟨j, h_j, e_j⟩ := inB_nI (inB_q c_2 c_8)
      have x_j : ix x = j := by rw [e_j]; exact nI_clamp (by omega)
      have hl : lv_has ls 2 [(0, .ref (a 0)), (1, .int (nI (j)))] := by rw [← e_j]; exact hl
      refine lv_aload_n hx hb dX6_mend_21 rfl (lv_at hl 0 rfl) ?_
      refine va_get (D := D) (ci := 6) (v := .ref (a 11)) (C := RX6) (T := TX6) (N := 4) hx hb hts (fun _ h => List.mem_cons_of_mem _ (List.mem_append_left _ (List.mem_append_left _ (List.mem_append_left _ (List.mem_append_left _ (List.mem_append_left _ (List.mem_append_right _ h))))))) hown hK hP 0 rfl rfl 2 (by decide) (hts (.fieldLink RX6 26 "SpreadParity" "history" "LSpreadParity$History;") (List.mem_of_getElem? (i := 3) rfl)) (fun _ h9 => h9) rfl dX6_mend_22 ?_
      refine lv_aload_n hx hb dX6_mend_25 rfl (lv_at hl 0 rfl) ?_
      refine va_get (D := D) (ci := 6) (v := .ref (a 8)) (C := RX6) (T := TX6) (N := 4) hx hb hts (fun _ h => List.mem_cons_of_mem _ (List.mem_append_left _ (List.mem_append_left _ (List.mem_append_left _ (List.mem_append_left _ (List.mem_append_left _ (List.mem_append_right _ h))))))) hown hK hP 0 rfl rfl 1 (by decide) (hts (.fieldLink RX6 19 "SpreadParity" "now" "LSpreadParity$State;") (List.mem_of_getElem? (i := 4) rfl)) (fun _ h9 => h9) rfl dX6_mend_26 ?_
      refine q_wV0 (As := [.ref (a 8)]) (rest := []) (st1 := []) ⟨hx, hb, hml, hown, hts⟩ (c_X0_keep D cy A a σ kept nxt cnt T len pos ph le nu va Z (by omega) (by omega)) (cwV 1 hts gX6_mend_X0_keep rfl rfl rfl hd_X0_keep ⟨Nat.le_of_ble_eq_true rfl, Nat.le_of_ble_eq_true rfl⟩) hK hA hw 11 rfl rfl rfl hl.1 rfl rfl (Nat.le_of_ble_eq_true rfl) ⟨Nat.zero_le _, Nat.zero_le _⟩ dX6_mend_29 (fun H locs hw => ?_)
      have hw : wS D A (wX cy a σ (cpK kept σ (nxt * 86) 86) ((nxt + 1) % 6) (min (cnt + 1) 6) T len pos ph le nu va ++ Z) s H locs := hw
      have hP := hw.1
      refine lv_aload_n hx hb dX6_mend_32 rfl (lv_at hl 0 rfl) ?_
      refine lv_iload_n hx hb dX6_mend_33 rfl (lv_at hl 1 rfl) ?_
      refine q_wV0 (As := [.int (nI (j))]) (rest := []) (st1 := [.int (nI ((mnS j σ).2))]) ⟨hx, hb, hml, hown, hts⟩ (c_X6_makeSteps D cy A a σ (cpK kept σ (nxt * 86) 86) ((nxt + 1) % 6) (min (cnt + 1) 6) T len pos ph le nu va Z (j) (by omega) h_0) (cwV 1 hts gX6_mend_X6_makeSteps rfl rfl rfl hd_X6_makeSteps ⟨Nat.le_of_ble_eq_true rfl, Nat.le_of_ble_eq_true rfl⟩) hK hA hw 0 rfl rfl rfl hl.1 rfl rfl (Nat.le_of_ble_eq_true rfl) ⟨Nat.zero_le _, Nat.zero_le _⟩ dX6_mend_34 (fun H locs hw => ?_)
      have hw : wS D A (wX cy a ((mnS j σ).1) (cpK kept σ (nxt * 86) 86) ((nxt + 1) % 6) (min (cnt + 1) 6) T len pos ph le nu va ++ Z) s H locs := hw
      have hP := hw.1
      have e_s : (mnS j σ).1 = (mnS (ix x) σ).1 := by rw [x_j]
      rw [e_s] at hw
      have e_c : cMe x = 0 := by rw [cMe, if_pos (inB_q c_2 c_8)]
      exact q_iretX hx hb hr hlocks hw (Nat.le_of_ble_eq_true rfl) (Nat.le_of_ble_eq_true rfl) dX6_mend_37 e_c (by rw [x_j])
    · have e_c : cMe x = 1 := by rw [cMe, if_neg (fun h => c_8 (inB_p h).2)]
      obtain ⟨sa, hsa⟩ := hN.2.2.2 (120, "the number of steps is out of range") (by decide)
      exact vx_throwS (names := eNm) (A := A) (sa := sa) (text := "the number of steps is out of range") hx hb hst hown eA_fit eNm_fit (hts (.classLink RX6 77 "java/lang/IllegalArgumentException") (List.mem_of_getElem? (i := 1) rfl)) (hts (.initialized "java/lang/IllegalArgumentException") (List.mem_of_getElem? (i := 2) rfl)) hsa (vx_hat (fun w h => hts w ((fun _ h => List.mem_cons_of_mem _ (List.mem_append_right _ h)) w h)) eA_bad (fun w h => va_Nw.use (xWd_on w (eA_wd w h)) (hN.2.2.1 w (eA_wd w h)))) eA_good hN.1 hN.2.1 hw.2.2 (hl.1.trans hml.symm) dX6_mend_11 dX6_mend_14 dX6_mend_15 dX6_mend_17 dX6_mend_20 (fun x h => (hexc x h).elim) (by decide) (by decide) (by decide) (by decide) hlocks (fun t _ hz hk => ⟨by rw [e_c]; decide, by rw [e_c] <;> rfl, wS.x hw hz hk⟩) hw.2.2.2.2 (by decide) (by decide)
set_option maxHeartbeats 1000000 in
set_option maxRecDepth 100000 in
theorem c_X6_addSpare {l : Launch} (hst : l.stackTraces = false) (D : va_G) (cy : ClassId) (A : Nat → Prop) (a : Nat → Nat) (σ kept : Nat → Int32) (nxt cnt : Nat) (T : Nat → Int32) (len pos : Nat) (ph le nu va : Int32) (Z : va_W) (h_0 : Val σ) (h_1 : nxt < 6) (h_2 : cnt ≤ 6) : vx_Met l yX6_addSpare wsX6_addSpare ({ frames := 6, cells := 1, slots := 6, locals := 82 } : Room) (gX D cy [.ref (a 0)] A (wX cy a σ kept nxt cnt T len pos ph le nu va ++ Z)) (xQ D A (cAs σ) (some (.int (σ 84 + 1))) (wX cy a (upd σ 84 (σ 84 + 1)) (cpK kept σ (nxt * 86) 86) ((nxt + 1) % 6) (min (cnt + 1) 6) T len pos ph le nu va ++ Z)) (xX D A (fun _ => eS) (cAs σ) (wX cy a σ kept nxt cnt T len pos ph le nu va ++ Z)) 1 6 A := by
  refine q_xmp (cc := cX6_addSpare) (maxL := 1) (ret := (some .int)) pl_X6 rfl (Nat.le_of_ble_eq_true rfl) ?_
  intro p e s m below meth c ls hx hb hr hml hts hown hlocks hw hK hA hl hexc hN
  have hP := hw.1
  have hl : lv_has ls 1 [(0, .ref (a 0))] := hl
  refine lv_aload_n hx hb dX6_addSpare_0 rfl (lv_at hl 0 rfl) ?_
  refine va_get (D := D) (ci := 6) (v := .ref (a 8)) (C := RX6) (T := TX6) (N := 4) hx hb hts (fun _ h => List.mem_cons_of_mem _ (List.mem_append_left _ (List.mem_append_left _ (List.mem_append_left _ (List.mem_append_left _ (List.mem_append_right _ h)))))) hown hK hP 0 rfl rfl 1 (by decide) (hts (.fieldLink RX6 19 "SpreadParity" "now" "LSpreadParity$State;") (List.mem_of_getElem? (i := 3) rfl)) (fun _ h9 => h9) rfl dX6_addSpare_1 ?_
  refine q_cV (As := []) (rest := []) ⟨hx, hb, hml, hown, hts⟩ (c_X5_spareDiscs D cy a σ kept nxt cnt T len pos ph le nu va Z ) (cwV 0 hts gX6_addSpare_X5_spareDiscs rfl rfl rfl hd_X5_spareDiscs ⟨Nat.le_of_ble_eq_true rfl, Nat.le_of_ble_eq_true rfl⟩) hK hP 8 rfl rfl rfl hl.1 rfl (Nat.le_of_ble_eq_true rfl) ⟨Nat.zero_le _, Nat.zero_le _⟩ dX6_addSpare_4 ?_
  refine lv_iconst (v := nI 5) hx hb dX6_addSpare_7 rfl ?_
  refine lv_icmp_lt (tgt := 21) hx hb dX6_addSpare_8 (by decide) (fun (c_8 : (σ 84) < (5)) => ?_) (fun (c_8 : ¬ (σ 84) < (5)) => ?_)
  · refine lv_aload_n hx hb dX6_addSpare_21 rfl (lv_at hl 0 rfl) ?_
    refine va_get (D := D) (ci := 6) (v := .ref (a 11)) (C := RX6) (T := TX6) (N := 4) hx hb hts (fun _ h => List.mem_cons_of_mem _ (List.mem_append_left _ (List.mem_append_left _ (List.mem_append_left _ (List.mem_append_left _ (List.mem_append_right _ h)))))) hown hK hP 0 rfl rfl 2 (by decide) (hts (.fieldLink RX6 26 "SpreadParity" "history" "LSpreadParity$History;") (List.mem_of_getElem? (i := 4) rfl)) (fun _ h9 => h9) rfl dX6_addSpare_22 ?_
    refine lv_aload_n hx hb dX6_addSpare_25 rfl (lv_at hl 0 rfl) ?_
    refine va_get (D := D) (ci := 6) (v := .ref (a 8)) (C := RX6) (T := TX6) (N := 4) hx hb hts (fun _ h => List.mem_cons_of_mem _ (List.mem_append_left _ (List.mem_append_left _ (List.mem_append_left _ (List.mem_append_left _ (List.mem_append_right _ h)))))) hown hK hP 0 rfl rfl 1 (by decide) (hts (.fieldLink RX6 19 "SpreadParity" "now" "LSpreadParity$State;") (List.mem_of_getElem? (i := 3) rfl)) (fun _ h9 => h9) rfl dX6_addSpare_26 ?_
    refine q_wV0 (As := [.ref (a 8)]) (rest := []) (st1 := []) ⟨hx, hb, hml, hown, hts⟩ (c_X0_keep D cy A a σ kept nxt cnt T len pos ph le nu va Z (by omega) (by omega)) (cwV 1 hts gX6_addSpare_X0_keep rfl rfl rfl hd_X0_keep ⟨Nat.le_of_ble_eq_true rfl, Nat.le_of_ble_eq_true rfl⟩) hK hA hw 11 rfl rfl rfl hl.1 rfl rfl (Nat.le_of_ble_eq_true rfl) ⟨Nat.zero_le _, Nat.zero_le _⟩ dX6_addSpare_29 (fun H locs hw => ?_)
    have hw : wS D A (wX cy a σ (cpK kept σ (nxt * 86) 86) ((nxt + 1) % 6) (min (cnt + 1) 6) T len pos ph le nu va ++ Z) s H locs := hw
    have hP := hw.1
    refine lv_aload_n hx hb dX6_addSpare_32 rfl (lv_at hl 0 rfl) ?_
    refine va_get (D := D) (ci := 6) (v := .ref (a 8)) (C := RX6) (T := TX6) (N := 4) hx hb hts (fun _ h => List.mem_cons_of_mem _ (List.mem_append_left _ (List.mem_append_left _ (List.mem_append_left _ (List.mem_append_left _ (List.mem_append_right _ h)))))) hown hK hP 0 rfl rfl 1 (by decide) (hts (.fieldLink RX6 19 "SpreadParity" "now" "LSpreadParity$State;") (List.mem_of_getElem? (i := 3) rfl)) (fun _ h9 => h9) rfl dX6_addSpare_33 ?_
    refine q_wV0 (As := []) (rest := []) (st1 := []) ⟨hx, hb, hml, hown, hts⟩ (c_X5_addSpareDisc D cy A a σ (cpK kept σ (nxt * 86) 86) ((nxt + 1) % 6) (min (cnt + 1) 6) T len pos ph le nu va Z ) (cwV 0 hts gX6_addSpare_X5_addSpareDisc rfl rfl rfl hd_X5_addSpareDisc ⟨Nat.le_of_ble_eq_true rfl, Nat.le_of_ble_eq_true rfl⟩) hK hA hw 8 rfl rfl rfl hl.1 rfl rfl (Nat.le_of_ble_eq_true rfl) ⟨Nat.zero_le _, Nat.zero_le _⟩ dX6_addSpare_36 (fun H locs hw => ?_)
    have hw : wS D A (wX cy a (upd σ 84 (σ 84 + 1)) (cpK kept σ (nxt * 86) 86) ((nxt + 1) % 6) (min (cnt + 1) 6) T len pos ph le nu va ++ Z) s H locs := hw
    have hP := hw.1
    refine lv_aload_n hx hb dX6_addSpare_39 rfl (lv_at hl 0 rfl) ?_
    refine va_get (D := D) (ci := 6) (v := .ref (a 8)) (C := RX6) (T := TX6) (N := 4) hx hb hts (fun _ h => List.mem_cons_of_mem _ (List.mem_append_left _ (List.mem_append_left _ (List.mem_append_left _ (List.mem_append_left _ (List.mem_append_right _ h)))))) hown hK hP 0 rfl rfl 1 (by decide) (hts (.fieldLink RX6 19 "SpreadParity" "now" "LSpreadParity$State;") (List.mem_of_getElem? (i := 3) rfl)) (fun _ h9 => h9) rfl dX6_addSpare_40 ?_
    refine q_cV (As := []) (rest := []) ⟨hx, hb, hml, hown, hts⟩ (c_X5_spareDiscs D cy a (upd σ 84 (σ 84 + 1)) (cpK kept σ (nxt * 86) 86) ((nxt + 1) % 6) (min (cnt + 1) 6) T len pos ph le nu va Z ) (cwV 0 hts gX6_addSpare_X5_spareDiscs rfl rfl rfl hd_X5_spareDiscs ⟨Nat.le_of_ble_eq_true rfl, Nat.le_of_ble_eq_true rfl⟩) hK hP 8 rfl rfl rfl hl.1 rfl (Nat.le_of_ble_eq_true rfl) ⟨Nat.zero_le _, Nat.zero_le _⟩ dX6_addSpare_43 ?_
    refine q_top (show ((upd σ 84 (σ 84 + 1)) 84) = σ 84 + 1 from upd_eq _ _ _) ?_
    have e_c : cAs σ = 0 := by rw [cAs, if_neg (as_n c_8)]
    exact q_iretX hx hb hr hlocks hw (Nat.le_of_ble_eq_true rfl) (Nat.le_of_ble_eq_true rfl) dX6_addSpare_46 e_c (rfl)
  · have e_c : cAs σ = 1 := by rw [cAs, if_pos (as_5 h_0 c_8)]
    obtain ⟨sa, hsa⟩ := hN.2.2.2 (125, "there is no room for a spare disc") (by decide)
    exact vx_throwS (names := eNm) (A := A) (sa := sa) (text := "there is no room for a spare disc") hx hb hst hown eS_fit eNm_fit (hts (.classLink RX6 56 "java/lang/IllegalStateException") (List.mem_of_getElem? (i := 1) rfl)) (hts (.initialized "java/lang/IllegalStateException") (List.mem_of_getElem? (i := 2) rfl)) hsa (vx_hat (fun w h => hts w ((fun _ h => List.mem_cons_of_mem _ (List.mem_append_right _ h)) w h)) eS_bad (fun w h => va_Nw.use (xWd_on w (eS_wd w h)) (hN.2.2.1 w (eS_wd w h)))) eS_good hN.1 hN.2.1 hw.2.2 (hl.1.trans hml.symm) dX6_addSpare_11 dX6_addSpare_14 dX6_addSpare_15 dX6_addSpare_17 dX6_addSpare_20 (fun x h => (hexc x h).elim) (by decide) (by decide) (by decide) (by decide) hlocks (fun t _ hz hk => ⟨by rw [e_c]; decide, by rw [e_c] <;> rfl, wS.x hw hz hk⟩) hw.2.2.2.2 (by decide) (by decide)
set_option maxHeartbeats 1000000 in
set_option maxRecDepth 100000 in
theorem c_X6_corrupt {l : Launch} (hst : l.stackTraces = false) (D : va_G) (cy : ClassId) (A : Nat → Prop) (a : Nat → Nat) (σ kept : Nat → Int32) (nxt cnt : Nat) (T : Nat → Int32) (len pos : Nat) (ph le nu va : Int32) (Z : va_W) (d : Int32) (q : Int32) (v : Int32) (h_0 : nxt < 6) (h_1 : cnt ≤ 6) : vx_Met l yX6_corrupt wsX6_corrupt ({ frames := 6, cells := 1, slots := 6, locals := 82 } : Room) (gX D cy [.ref (a 0), .int (d), .int (q), .int (v)] A (wX cy a σ kept nxt cnt T len pos ph le nu va ++ Z)) (xQ D A (cCo σ d q v) (some (.int (σ (9 * ix d + ix q)))) (wX cy a (upd σ (9 * ix d + ix q) v) (cpK kept σ (nxt * 86) 86) ((nxt + 1) % 6) (min (cnt + 1) 6) T len pos ph le nu va ++ Z)) (xX D A (fun k => if k = 1 then eI else if k = 2 then eA else eS) (cCo σ d q v) (wX cy a σ kept nxt cnt T len pos ph le nu va ++ Z)) 1 6 A := by
  refine q_xmp (cc := cX6_corrupt) (maxL := 6) (ret := (some .int)) pl_X6 rfl (Nat.le_of_ble_eq_true rfl) ?_
  intro p e s m below meth c ls hx hb hr hml hts hown hlocks hw hK hA hl hexc hN
  have hP := hw.1
  have hl : lv_has ls 6 [(0, .ref (a 0)), (1, .int (d)), (2, .int (q)), (3, .int (v))] := hl
  refine lv_iload_n hx hb dX6_corrupt_0 rfl (lv_at hl 1 rfl) ?_
  refine q_cS (As := [.int (d)]) (rest := []) (w := []) ⟨hx, hb, hml, hown, hts⟩ (c_X6_isDisc D cy (d)) (va_cwS 1 hts gX6_corrupt_X6_isDisc rfl rfl rfl hd_X6_isDisc ⟨Nat.le_of_ble_eq_true rfl, Nat.le_of_ble_eq_true rfl⟩) hK q_Pnil rfl hl.1 rfl (Nat.le_of_ble_eq_true rfl) ⟨Nat.zero_le _, Nat.zero_le _⟩ dX6_corrupt_1 ?_
  refine q_ifeqB (tgt := 14) hx hb dX6_corrupt_4 (by decide) (fun c_4 => ?_) (fun c_4 => ?_)
  · have e_c : cCo σ d q v = 1 := by rw [cCo, if_neg (by rw [c_4]; simp)]
    obtain ⟨sa, hsa⟩ := hN.2.2.2 (133, "there is no such disc or place") (by decide)
    exact vx_throwS (names := eNm) (A := A) (sa := sa) (text := "there is no such disc or place") hx hb hst hown eI_fit eNm_fit (hts (.classLink RX6 41 "java/lang/IndexOutOfBoundsException") (List.mem_of_getElem? (i := 1) rfl)) (hts (.initialized "java/lang/IndexOutOfBoundsException") (List.mem_of_getElem? (i := 2) rfl)) hsa (vx_hat (fun w h => hts w ((fun _ h => List.mem_cons_of_mem _ (List.mem_append_left _ (List.mem_append_left _ (List.mem_append_right _ h)))) w h)) eI_bad (fun w h => va_Nw.use (xWd_on w (eI_wd w h)) (hN.2.2.1 w (eI_wd w h)))) eI_good hN.1 hN.2.1 hw.2.2 (hl.1.trans hml.symm) dX6_corrupt_14 dX6_corrupt_17 dX6_corrupt_18 dX6_corrupt_20 dX6_corrupt_23 (fun x h => (hexc x h).elim) (by decide) (by decide) (by decide) (by decide) hlocks (fun t _ hz hk => ⟨by rw [e_c]; decide, by rw [e_c] <;> rfl, wS.x hw hz hk⟩) hw.2.2.2.2 (by decide) (by decide)
  · refine lv_iload_n hx hb dX6_corrupt_7 rfl (lv_at hl 2 rfl) ?_
    refine q_cS (As := [.int (q)]) (rest := []) (w := []) ⟨hx, hb, hml, hown, hts⟩ (c_X6_isPlace D cy (q)) (va_cwS 1 hts gX6_corrupt_X6_isPlace rfl rfl rfl hd_X6_isPlace ⟨Nat.le_of_ble_eq_true rfl, Nat.le_of_ble_eq_true rfl⟩) hK q_Pnil rfl hl.1 rfl (Nat.le_of_ble_eq_true rfl) ⟨Nat.zero_le _, Nat.zero_le _⟩ dX6_corrupt_8 ?_
    refine q_ifneB (tgt := 24) hx hb dX6_corrupt_11 (by decide) (fun c_11 => ?_) (fun c_11 => ?_)
    · refine lv_iload_n hx hb dX6_corrupt_24 rfl (lv_at hl 3 rfl) ?_
      refine q_cS (As := [.int (v)]) (rest := []) (w := []) ⟨hx, hb, hml, hown, hts⟩ (c_X6_isValue D cy (v)) (va_cwS 1 hts gX6_corrupt_X6_isValue rfl rfl rfl hd_X6_isValue ⟨Nat.le_of_ble_eq_true rfl, Nat.le_of_ble_eq_true rfl⟩) hK q_Pnil rfl hl.1 rfl (Nat.le_of_ble_eq_true rfl) ⟨Nat.zero_le _, Nat.zero_le _⟩ dX6_corrupt_25 ?_
      refine q_ifneB (tgt := 41) hx hb dX6_corrupt_28 (by decide) (fun c_28 => ?_) (fun c_28 => ?_)
      · obtain ⟨i, h_i, e_i⟩ := inR_nI c_4
        have x_i : ix d = i := by rw [e_i]; exact nI_clamp (by omega)
        have hl : lv_has ls 6 [(0, .ref (a 0)), (1, .int (nI (i))), (2, .int (q)), (3, .int (v))] := by rw [← e_i]; exact hl
        obtain ⟨j, h_j, e_j⟩ := inR_nI c_11
        have x_j : ix q = j := by rw [e_j]; exact nI_clamp (by omega)
        have hl : lv_has ls 6 [(0, .ref (a 0)), (1, .int (nI (i))), (2, .int (nI (j))), (3, .int (v))] := by rw [← e_j]; exact hl
        refine lv_iload_n hx hb dX6_corrupt_41 rfl (lv_at hl 1 rfl) ?_
        refine lv_iload_n hx hb dX6_corrupt_42 rfl (lv_at hl 2 rfl) ?_
        refine q_cS (As := [.int (nI (i)), .int (nI (j))]) (rest := []) (w := []) ⟨hx, hb, hml, hown, hts⟩ (c_X1_spotAt D cy (i) (j)) (va_cwS 2 hts gX6_corrupt_X1_spotAt rfl rfl rfl hd_X1_spotAt ⟨Nat.le_of_ble_eq_true rfl, Nat.le_of_ble_eq_true rfl⟩) hK q_Pnil rfl hl.1 rfl (Nat.le_of_ble_eq_true rfl) ⟨Nat.zero_le _, Nat.zero_le _⟩ dX6_corrupt_43 ?_
        refine lv_istore (lv' := [(4, .int (nI (9 * i + j))), (0, .ref (a 0)), (1, .int (nI (i))), (2, .int (nI (j))), (3, .int (v))]) hx hb dX6_corrupt_46 hl (by decide) rfl (fun ls hl => ?_)
        refine lv_aload_n hx hb dX6_corrupt_48 rfl (lv_at hl 1 rfl) ?_
        refine va_get (D := D) (ci := 6) (v := .ref (a 8)) (C := RX6) (T := TX6) (N := 4) hx hb hts (fun _ h => List.mem_cons_of_mem _ (List.mem_append_left _ (List.mem_append_left _ (List.mem_append_left _ (List.mem_append_left _ (List.mem_append_left _ (List.mem_append_left _ (List.mem_append_right _ h)))))))) hown hK hP 0 rfl rfl 1 (by decide) (hts (.fieldLink RX6 19 "SpreadParity" "now" "LSpreadParity$State;") (List.mem_of_getElem? (i := 7) rfl)) (fun _ h9 => h9) rfl dX6_corrupt_49 ?_
        refine lv_iload hx hb dX6_corrupt_52 (lv_at hl 0 rfl) ?_
        refine lv_iconst (v := -1) hx hb dX6_corrupt_54 rfl ?_
        refine q_cV (As := [.int (nI (9 * i + j)), .int (-1)]) (rest := []) ⟨hx, hb, hml, hown, hts⟩ (c_X5_hasUnit D cy a σ kept nxt cnt T len pos ph le nu va Z (σ) (9 * i + j) (-1) (by omega) (Wo_none _)) (cwV 2 hts gX6_corrupt_X5_hasUnit rfl rfl rfl hd_X5_hasUnit ⟨Nat.le_of_ble_eq_true rfl, Nat.le_of_ble_eq_true rfl⟩) hK hP 8 rfl rfl rfl hl.1 rfl (Nat.le_of_ble_eq_true rfl) ⟨Nat.zero_le _, Nat.zero_le _⟩ dX6_corrupt_55 ?_
        refine q_ifneB (tgt := 71) hx hb dX6_corrupt_58 (by decide) (fun c_58 => ?_) (fun c_58 => ?_)
        · refine lv_aload_n hx hb dX6_corrupt_71 rfl (lv_at hl 1 rfl) ?_
          refine va_get (D := D) (ci := 6) (v := .ref (a 11)) (C := RX6) (T := TX6) (N := 4) hx hb hts (fun _ h => List.mem_cons_of_mem _ (List.mem_append_left _ (List.mem_append_left _ (List.mem_append_left _ (List.mem_append_left _ (List.mem_append_left _ (List.mem_append_left _ (List.mem_append_right _ h)))))))) hown hK hP 0 rfl rfl 2 (by decide) (hts (.fieldLink RX6 26 "SpreadParity" "history" "LSpreadParity$History;") (List.mem_of_getElem? (i := 8) rfl)) (fun _ h9 => h9) rfl dX6_corrupt_72 ?_
          refine lv_aload_n hx hb dX6_corrupt_75 rfl (lv_at hl 1 rfl) ?_
          refine va_get (D := D) (ci := 6) (v := .ref (a 8)) (C := RX6) (T := TX6) (N := 4) hx hb hts (fun _ h => List.mem_cons_of_mem _ (List.mem_append_left _ (List.mem_append_left _ (List.mem_append_left _ (List.mem_append_left _ (List.mem_append_left _ (List.mem_append_left _ (List.mem_append_right _ h)))))))) hown hK hP 0 rfl rfl 1 (by decide) (hts (.fieldLink RX6 19 "SpreadParity" "now" "LSpreadParity$State;") (List.mem_of_getElem? (i := 7) rfl)) (fun _ h9 => h9) rfl dX6_corrupt_76 ?_
          refine q_wV0 (As := [.ref (a 8)]) (rest := []) (st1 := []) ⟨hx, hb, hml, hown, hts⟩ (c_X0_keep D cy A a σ kept nxt cnt T len pos ph le nu va Z (by omega) (by omega)) (cwV 1 hts gX6_corrupt_X0_keep rfl rfl rfl hd_X0_keep ⟨Nat.le_of_ble_eq_true rfl, Nat.le_of_ble_eq_true rfl⟩) hK hA hw 11 rfl rfl rfl hl.1 rfl rfl (Nat.le_of_ble_eq_true rfl) ⟨Nat.zero_le _, Nat.zero_le _⟩ dX6_corrupt_79 (fun H locs hw => ?_)
          have hw : wS D A (wX cy a σ (cpK kept σ (nxt * 86) 86) ((nxt + 1) % 6) (min (cnt + 1) 6) T len pos ph le nu va ++ Z) s H locs := hw
          have hP := hw.1
          refine lv_aload_n hx hb dX6_corrupt_82 rfl (lv_at hl 1 rfl) ?_
          refine va_get (D := D) (ci := 6) (v := .ref (a 8)) (C := RX6) (T := TX6) (N := 4) hx hb hts (fun _ h => List.mem_cons_of_mem _ (List.mem_append_left _ (List.mem_append_left _ (List.mem_append_left _ (List.mem_append_left _ (List.mem_append_left _ (List.mem_append_left _ (List.mem_append_right _ h)))))))) hown hK hP 0 rfl rfl 1 (by decide) (hts (.fieldLink RX6 19 "SpreadParity" "now" "LSpreadParity$State;") (List.mem_of_getElem? (i := 7) rfl)) (fun _ h9 => h9) rfl dX6_corrupt_83 ?_
          refine lv_iload hx hb dX6_corrupt_86 (lv_at hl 0 rfl) ?_
          refine q_cV (As := [.int (nI (9 * i + j))]) (rest := []) ⟨hx, hb, hml, hown, hts⟩ (c_X5_valueAt D cy a σ (cpK kept σ (nxt * 86) 86) ((nxt + 1) % 6) (min (cnt + 1) 6) T len pos ph le nu va Z (9 * i + j) (by omega)) (cwV 1 hts gX6_corrupt_X5_valueAt rfl rfl rfl hd_X5_valueAt ⟨Nat.le_of_ble_eq_true rfl, Nat.le_of_ble_eq_true rfl⟩) hK hP 8 rfl rfl rfl hl.1 rfl (Nat.le_of_ble_eq_true rfl) ⟨Nat.zero_le _, Nat.zero_le _⟩ dX6_corrupt_88 ?_
          refine lv_istore (lv' := [(5, .int (σ (9 * i + j))), (4, .int (nI (9 * i + j))), (0, .ref (a 0)), (1, .int (nI (i))), (2, .int (nI (j))), (3, .int (v))]) hx hb dX6_corrupt_91 hl (by decide) rfl (fun ls hl => ?_)
          refine lv_aload_n hx hb dX6_corrupt_93 rfl (lv_at hl 2 rfl) ?_
          refine va_get (D := D) (ci := 6) (v := .ref (a 8)) (C := RX6) (T := TX6) (N := 4) hx hb hts (fun _ h => List.mem_cons_of_mem _ (List.mem_append_left _ (List.mem_append_left _ (List.mem_append_left _ (List.mem_append_left _ (List.mem_append_left _ (List.mem_append_left _ (List.mem_append_right _ h)))))))) hown hK hP 0 rfl rfl 1 (by decide) (hts (.fieldLink RX6 19 "SpreadParity" "now" "LSpreadParity$State;") (List.mem_of_getElem? (i := 7) rfl)) (fun _ h9 => h9) rfl dX6_corrupt_94 ?_
          refine lv_iload hx hb dX6_corrupt_97 (lv_at hl 1 rfl) ?_
          refine lv_iload_n hx hb dX6_corrupt_99 rfl (lv_at hl 5 rfl) ?_
          refine q_wV0 (As := [.int (nI (9 * i + j)), .int (v)]) (rest := []) (st1 := []) ⟨hx, hb, hml, hown, hts⟩ (c_X5_setValue D cy A a σ (cpK kept σ (nxt * 86) 86) ((nxt + 1) % 6) (min (cnt + 1) 6) T len pos ph le nu va Z (9 * i + j) (v) (by omega)) (cwV 2 hts gX6_corrupt_X5_setValue rfl rfl rfl hd_X5_setValue ⟨Nat.le_of_ble_eq_true rfl, Nat.le_of_ble_eq_true rfl⟩) hK hA hw 8 rfl rfl rfl hl.1 rfl rfl (Nat.le_of_ble_eq_true rfl) ⟨Nat.zero_le _, Nat.zero_le _⟩ dX6_corrupt_100 (fun H locs hw => ?_)
          have hw : wS D A (wX cy a (upd σ (9 * i + j) v) (cpK kept σ (nxt * 86) 86) ((nxt + 1) % 6) (min (cnt + 1) 6) T len pos ph le nu va ++ Z) s H locs := hw
          have hP := hw.1
          refine lv_iload hx hb dX6_corrupt_103 (lv_at hl 0 rfl) ?_
          have e_s : upd σ (9 * i + j) v = upd σ (9 * ix d + ix q) v := by rw [x_i, x_j]
          rw [e_s] at hw
          have e_c : cCo σ d q v = 0 := by rw [cCo, if_pos (by rw [c_4, c_11]; rfl), if_pos c_28, x_i, x_j, if_pos c_58]
          exact q_iretX hx hb hr hlocks hw (Nat.le_of_ble_eq_true rfl) (Nat.le_of_ble_eq_true rfl) dX6_corrupt_105 e_c (by rw [x_i, x_j])
        · have e_c : cCo σ d q v = 3 := by rw [cCo, if_pos (by rw [c_4, c_11]; rfl), if_pos c_28, x_i, x_j, if_neg (by rw [c_58]; decide)]
          obtain ⟨sa, hsa⟩ := hN.2.2.2 (138, "the unit is not there") (by decide)
          exact vx_throwS (names := eNm) (A := A) (sa := sa) (text := "the unit is not there") hx hb hst hown eS_fit eNm_fit (hts (.classLink RX6 56 "java/lang/IllegalStateException") (List.mem_of_getElem? (i := 5) rfl)) (hts (.initialized "java/lang/IllegalStateException") (List.mem_of_getElem? (i := 6) rfl)) hsa (vx_hat (fun w h => hts w ((fun _ h => List.mem_cons_of_mem _ (List.mem_append_right _ h)) w h)) eS_bad (fun w h => va_Nw.use (xWd_on w (eS_wd w h)) (hN.2.2.1 w (eS_wd w h)))) eS_good hN.1 hN.2.1 hw.2.2 (hl.1.trans hml.symm) dX6_corrupt_61 dX6_corrupt_64 dX6_corrupt_65 dX6_corrupt_67 dX6_corrupt_70 (fun x h => (hexc x h).elim) (by decide) (by decide) (by decide) (by decide) hlocks (fun t _ hz hk => ⟨by rw [e_c]; decide, by rw [e_c] <;> rfl, wS.x hw hz hk⟩) hw.2.2.2.2 (by decide) (by decide)
      · have e_c : cCo σ d q v = 2 := by rw [cCo, if_pos (by rw [c_4, c_11]; rfl), if_neg (by rw [c_28]; decide)]
        obtain ⟨sa, hsa⟩ := hN.2.2.2 (79, "the value is out of range") (by decide)
        exact vx_throwS (names := eNm) (A := A) (sa := sa) (text := "the value is out of range") hx hb hst hown eA_fit eNm_fit (hts (.classLink RX6 77 "java/lang/IllegalArgumentException") (List.mem_of_getElem? (i := 3) rfl)) (hts (.initialized "java/lang/IllegalArgumentException") (List.mem_of_getElem? (i := 4) rfl)) hsa (vx_hat (fun w h => hts w ((fun _ h => List.mem_cons_of_mem _ (List.mem_append_left _ (List.mem_append_right _ h))) w h)) eA_bad (fun w h => va_Nw.use (xWd_on w (eA_wd w h)) (hN.2.2.1 w (eA_wd w h)))) eA_good hN.1 hN.2.1 hw.2.2 (hl.1.trans hml.symm) dX6_corrupt_31 dX6_corrupt_34 dX6_corrupt_35 dX6_corrupt_37 dX6_corrupt_40 (fun x h => (hexc x h).elim) (by decide) (by decide) (by decide) (by decide) hlocks (fun t _ hz hk => ⟨by rw [e_c]; decide, by rw [e_c] <;> rfl, wS.x hw hz hk⟩) hw.2.2.2.2 (by decide) (by decide)
    · have e_c : cCo σ d q v = 1 := by rw [cCo, if_neg (by rw [c_11]; simp)]
      obtain ⟨sa, hsa⟩ := hN.2.2.2 (133, "there is no such disc or place") (by decide)
      exact vx_throwS (names := eNm) (A := A) (sa := sa) (text := "there is no such disc or place") hx hb hst hown eI_fit eNm_fit (hts (.classLink RX6 41 "java/lang/IndexOutOfBoundsException") (List.mem_of_getElem? (i := 1) rfl)) (hts (.initialized "java/lang/IndexOutOfBoundsException") (List.mem_of_getElem? (i := 2) rfl)) hsa (vx_hat (fun w h => hts w ((fun _ h => List.mem_cons_of_mem _ (List.mem_append_left _ (List.mem_append_left _ (List.mem_append_right _ h)))) w h)) eI_bad (fun w h => va_Nw.use (xWd_on w (eI_wd w h)) (hN.2.2.1 w (eI_wd w h)))) eI_good hN.1 hN.2.1 hw.2.2 (hl.1.trans hml.symm) dX6_corrupt_14 dX6_corrupt_17 dX6_corrupt_18 dX6_corrupt_20 dX6_corrupt_23 (fun x h => (hexc x h).elim) (by decide) (by decide) (by decide) (by decide) hlocks (fun t _ hz hk => ⟨by rw [e_c]; decide, by rw [e_c] <;> rfl, wS.x hw hz hk⟩) hw.2.2.2.2 (by decide) (by decide)
