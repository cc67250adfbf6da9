def cRd (σ : Nat → Int32) (x : Int32) : Nat := if inR x 42 = true then (if lo σ (ad (ix x)) = true then 2 else 0) else 1
def sRd (σ : Nat → Int32) (x : Int32) : Nat → Int32 := if th σ (ad (ix x)) = true then rdS σ (ad (ix x)) else f2S σ (ad (ix x))
def cMe (x : Int32) : Nat := if inB x 1 9 = true then 0 else 1
def cAs (σ : Nat → Int32) : Nat := if σ 84 = 5 then 1 else 0
def cCo (σ : Nat → Int32) (d q v : Int32) : Nat := if (inR d 7 && inR q 9) = true then (if inR v 65536 = true then (if th σ (9 * ix d + ix q) = true then 0 else 3) else 2) else 1
def c1 (x : Int32) (n : Nat) : Nat := if inR x n = true then 0 else 1
def c2 (x : Int32) (n : Nat) (y : Int32) (k : Nat) : Nat := if (inR x n && inR y k) = true then 0 else 1
theorem cWr_le (σ : Nat → Int32) (x v : Int32) : cWr σ x v ≤ 3 := by unfold cWr; repeat' split
                                                                     all_goals omega
theorem cFl_le (σ : Nat → Int32) (x : Int32) : cFl σ x ≤ 2 := by unfold cFl; repeat' split
                                                                 all_goals omega
theorem cBg_le (σ : Nat → Int32) (x : Int32) : cBg σ x ≤ 2 := by unfold cBg; repeat' split
                                                                 all_goals omega
theorem cWr_R {σ : Nat → Int32} {x v : Int32} (h : cWr σ x v = 0) : inR x 42 = true := by
  unfold cWr at h
  split at h
  · assumption
  · cases h
theorem cFl_R {σ : Nat → Int32} {x : Int32} (h : cFl σ x = 0) : inR x 7 = true := by
  unfold cFl at h
  split at h
  · assumption
  · cases h
theorem cBg_R {σ : Nat → Int32} {x : Int32} (h : cBg σ x = 0) : inR x 7 = true := by
  unfold cBg at h
  split at h
  · assumption
  · cases h
theorem inB_nI {x : Int32} (h : inB x 1 9 = true) : ∃ j : Nat, j ≤ 9 ∧ x = nI j := by
  have h2 : inR x 10 = true := by
    rw [← inB_R (show 9 + 1 < 2 ^ 31 by omega)]
    simp only [inB, Bool.and_eq_true, decide_eq_true_eq] at h ⊢
    refine ⟨?_, h.2⟩
    have h3 := Int32.le_iff_toInt_le.mp h.1
    rw [Int32.le_iff_toInt_le, nI_toInt (by omega)]
    rw [nI_toInt (by omega)] at h3
    omega
  obtain ⟨j, hj, e⟩ := inR_nI h2
  exact ⟨j, by omega, e⟩
theorem th_f2 (σ : Nat → Int32) (k j : Nat) (hj : j < 63) : th (f2S σ k) j = th σ j := by
  unfold f2S; rw [th_rd _ _ _ hj, th_rd _ _ _ hj]
theorem kn_congr {σ τ : Nat → Int32} (h : ∀ j, j < 70 → τ j = σ j) {k : Nat} (hk : k < 63) : kn τ k = kn σ k := by
  have ht : ∀ j, j < 63 → th τ j = th σ j := fun j hj => by unfold th; rw [h _ (by omega)]
  have h1 := nx_lt hk 1
  have h2 := nx_lt hk 2
  unfold kn lo cf fd
  rw [ht _ hk, ht _ h1, ht _ h2, h _ (by omega), h _ (by omega), h _ (by omega)]
theorem kn_sRd {σ : Nat → Int32} {x : Int32} {j : Nat} (e : ix x = j) (hj : j < 42) : kn (sRd σ x) (spT (3 * (j / 2) + j % 2)) = kn σ (ad (ix x)) := by
  rw [e]
  refine kn_congr (fun i hi => ?_) (ad_lt hj)
  unfold sRd
  split
  · exact rd_lt _ _ hi
  · exact f2_lt _ _ hi
theorem lb_back (σ bef : Nat → Int32) {d : Nat} (hd : d < 7) : cpG (mS (failS σ d)) (cpG bef (mS σ) 0 0 86) 0 0 86 = mS σ := by
  funext i
  unfold cpG
  by_cases h : i < 86
  · have h1 : 0 ≤ i ∧ i < 0 + 86 := by omega
    have h2 : 0 ≤ 0 + (i - 0) ∧ 0 + (i - 0) < 0 + 86 := by omega
    rw [if_pos h1, if_pos h2]
    congr 1
    omega
  · have h1 : ¬ (0 ≤ i ∧ i < 0 + 86) := by omega
    rw [if_neg h1, mS_c _ (by omega), mS_c _ (by omega)]
    unfold failS
    rw [if_neg (by omega), if_neg (by omega)]

set_option maxHeartbeats 1000000 in
set_option maxRecDepth 100000 in
theorem c_X7_read {l : Launch} (D : va_G) (cy : ClassId) (A : Nat → Prop) (b : Nat → Nat) (σ saved : Nat → Int32) (many : Nat) (bef T : Nat → Int32) (len thr at_ : Nat) (le f1 f2 : Int32) (dn : Nat) (hs : Int64) (Z : va_W) (x : Int32) (h_0 : Val σ) (h_1 : many ≤ 6) : Met l yX7_read wsX7_read (k2_rm 6 134) (gP D cy [.ref (b 0), .int (x)] A (wM cy b (mS σ) saved many bef T len thr at_ le f1 f2 dn hs ++ Z)) (gQ D A (some (.int (if cRd σ x = 0 then kn σ (ad (ix x)) else 0))) (wM cy b (mS (if cRd σ x = 0 then sRd σ x else σ)) (if cRd σ x = 0 then svS saved many (mS σ) else saved) (if cRd σ x = 0 then min (many + 1) 6 else many) bef T len (cRd σ x) at_ le f1 f2 dn hs ++ Z)) 0 0 A := by
  refine q_imp (cc := cX7_read) (maxL := 4) (ret := (some .int)) pl_X7 rfl (Nat.le_of_ble_eq_true rfl) ?_
  intro p e s m below meth c ls hx hb hr hml hts hown hlocks hw hK hA hl
  have hP := hw.1
  have hl : lv_has ls 4 [(0, .ref (b 0)), (1, .int (x))] := hl
  refine lv_aload_n hx hb dX7_read_0 rfl (lv_at hl 0 rfl) ?_
  refine lv_iload_n hx hb dX7_read_1 rfl (lv_at hl 1 rfl) ?_
  refine q_cS (As := [.int (x)]) (rest := [.ref (b 0)]) (w := []) ⟨hx, hb, hml, hown, hts⟩ (c_X7_isAddress D cy (x)) (va_cwS 1 hts gX7_read_X7_isAddress rfl rfl rfl hd_X7_isAddress ⟨Nat.le_of_ble_eq_true rfl, Nat.le_of_ble_eq_true rfl⟩) hK q_Pnil rfl hl.1 rfl (Nat.le_of_ble_eq_true rfl) ⟨Nat.zero_le _, Nat.zero_le _⟩ dX7_read_2 ?_
  refine q_ifneB (tgt := 12) hx hb dX7_read_5 (by decide) (fun c_5 => ?_) (fun c_5 => ?_)
  · obtain ⟨j, h_j, e_j⟩ := inR_nI c_5
    have x_j : ix x = j := by rw [e_j]; exact nI_clamp (by omega)
    have hl : lv_has ls 4 [(0, .ref (b 0)), (1, .int (nI (j)))] := by rw [← e_j]; exact hl
    refine lv_aload_n hx hb dX7_read_12 rfl (lv_at hl 0 rfl) ?_
    refine lv_iload_n hx hb dX7_read_13 rfl (lv_at hl 1 rfl) ?_
    refine lv_iconst (v := nI 2) hx hb dX7_read_14 rfl ?_
    refine q_divN hx hb dX7_read_15 (by omega) (by omega) (by omega) ?_
    refine lv_iload_n hx hb dX7_read_16 rfl (lv_at hl 1 rfl) ?_
    refine lv_iconst (v := nI 2) hx hb dX7_read_17 rfl ?_
    refine q_remN hx hb dX7_read_18 (by omega) (by omega) (by omega) ?_
    refine q_cV (As := [.int (nI (j / 2)), .int (nI (j % 2))]) (rest := [.ref (b 0)]) ⟨hx, hb, hml, hown, hts⟩ (c_X7_look D cy b σ saved many bef T len thr at_ le f1 f2 dn hs Z (j / 2) (j % 2) (by omega) (by omega)) (cwV 2 hts gX7_read_X7_look rfl rfl rfl hd_X7_look ⟨Nat.le_of_ble_eq_true rfl, Nat.le_of_ble_eq_true rfl⟩) hK hP 0 rfl rfl rfl hl.1 rfl (Nat.le_of_ble_eq_true rfl) ⟨Nat.zero_le _, Nat.zero_le _⟩ dX7_read_19 ?_
    refine q_top (show (kn σ (spT (3 * (j / 2) + (j % 2)))) = kn σ (ad j) from rfl) ?_
    refine lv_iconst (v := -1) hx hb dX7_read_22 rfl ?_
    refine lv_icmp_ne (tgt := 30) hx hb dX7_read_23 (by decide) (fun (c_23 : ¬ (kn σ (ad j)) = (-1)) => ?_) (fun (c_23 : (kn σ (ad j)) = (-1)) => ?_)
    · refine lv_iconst (v := nI 0) hx hb dX7_read_30 rfl ?_
      refine q_wV0 (As := [.int (nI (0))]) (rest := []) (st1 := [.int (bI (decide (0 = 0)))]) ⟨hx, hb, hml, hown, hts⟩ (c_X7_holds D cy A b σ saved many bef T len thr at_ le f1 f2 dn hs Z (0) (by omega)) (cwV 1 hts gX7_read_X7_holds rfl rfl rfl hd_X7_holds ⟨Nat.le_of_ble_eq_true rfl, Nat.le_of_ble_eq_true rfl⟩) hK hA hw 0 rfl rfl rfl hl.1 rfl rfl (Nat.le_of_ble_eq_true rfl) ⟨Nat.zero_le _, Nat.zero_le _⟩ dX7_read_31 (fun H locs hw => ?_)
      have hw : wS D A (wM cy b (mS σ) saved many bef T len 0 at_ le f1 f2 dn hs ++ Z) s H locs := hw
      have hP := hw.1
      refine q_ifneB (tgt := 39) hx hb dX7_read_34 (by decide) (fun c_34 => ?_) (fun c_34 => absurd c_34 (by decide))
      refine lv_aload_n hx hb dX7_read_39 rfl (lv_at hl 0 rfl) ?_
      refine q_wV0 (As := []) (rest := []) (st1 := []) ⟨hx, hb, hml, hown, hts⟩ (c_X7_save D cy A b σ saved many bef T len 0 at_ le f1 f2 dn hs Z (by omega)) (cwV 0 hts gX7_read_X7_save rfl rfl rfl hd_X7_save ⟨Nat.le_of_ble_eq_true rfl, Nat.le_of_ble_eq_true rfl⟩) hK hA hw 0 rfl rfl rfl hl.1 rfl rfl (Nat.le_of_ble_eq_true rfl) ⟨Nat.zero_le _, Nat.zero_le _⟩ dX7_read_40 (fun H locs hw => ?_)
      have hw : wS D A (wM cy b (mS σ) (svS saved many (mS σ)) (min (many + 1) 6) bef T len 0 at_ le f1 f2 dn hs ++ Z) s H locs := hw
      have hP := hw.1
      refine lv_iload_n hx hb dX7_read_43 rfl (lv_at hl 1 rfl) ?_
      refine lv_iconst (v := nI 2) hx hb dX7_read_44 rfl ?_
      refine q_divN hx hb dX7_read_45 (by omega) (by omega) (by omega) ?_
      refine lv_istore_n (lv' := [(2, .int (nI (j / 2))), (0, .ref (b 0)), (1, .int (nI (j)))]) hx hb dX7_read_46 rfl hl (by decide) rfl (fun ls hl => ?_)
      refine lv_iload_n hx hb dX7_read_47 rfl (lv_at hl 2 rfl) ?_
      refine lv_iconst (v := nI 2) hx hb dX7_read_48 rfl ?_
      refine q_remN hx hb dX7_read_49 (by omega) (by omega) (by omega) ?_
      refine lv_istore_n (lv' := [(3, .int (nI (j % 2))), (2, .int (nI (j / 2))), (0, .ref (b 0)), (1, .int (nI (j)))]) hx hb dX7_read_50 rfl hl (by decide) rfl (fun ls hl => ?_)
      refine lv_aload_n hx hb dX7_read_51 rfl (lv_at hl 2 rfl) ?_
      refine lv_iload_n hx hb dX7_read_52 rfl (lv_at hl 1 rfl) ?_
      refine lv_iload_n hx hb dX7_read_53 rfl (lv_at hl 0 rfl) ?_
      refine q_cV (As := [.int (nI (j / 2)), .int (nI (j % 2))]) (rest := []) ⟨hx, hb, hml, hown, hts⟩ (c_X7_isThere D cy b σ (svS saved many (mS σ)) (min (many + 1) 6) bef T len 0 at_ le f1 f2 dn hs Z (j / 2) (j % 2) (by omega) (by omega)) (cwV 2 hts gX7_read_X7_isThere rfl rfl rfl hd_X7_isThere ⟨Nat.le_of_ble_eq_true rfl, Nat.le_of_ble_eq_true rfl⟩) hK hP 0 rfl rfl rfl hl.1 rfl (Nat.le_of_ble_eq_true rfl) ⟨Nat.zero_le _, Nat.zero_le _⟩ dX7_read_54 ?_
      refine q_top (show (bI (th σ (spT (3 * (j / 2) + (j % 2))))) = bI (th σ (ad j)) from rfl) ?_
      refine q_ifeqB (tgt := 69) hx hb dX7_read_57 (by decide) (fun c_57 => ?_) (fun c_57 => ?_)
      · refine lv_aload_n hx hb dX7_read_69 rfl (lv_at hl 2 rfl) ?_
        refine lv_iload_n hx hb dX7_read_70 rfl (lv_at hl 1 rfl) ?_
        refine lv_iload_n hx hb dX7_read_71 rfl (lv_at hl 0 rfl) ?_
        refine q_cS (As := [.int (nI (j % 2))]) (rest := [.int (nI (j / 2)), .ref (b 0)]) (w := []) ⟨hx, hb, hml, hown, hts⟩ (c_X7_one D cy (j % 2) (by omega)) (va_cwS 1 hts gX7_read_X7_one rfl rfl rfl hd_X7_one ⟨Nat.le_of_ble_eq_true rfl, Nat.le_of_ble_eq_true rfl⟩) hK q_Pnil rfl hl.1 rfl (Nat.le_of_ble_eq_true rfl) ⟨Nat.zero_le _, Nat.zero_le _⟩ dX7_read_72 ?_
        refine q_wV0 (As := [.int (nI (j / 2)), .int (nI (on1 (j % 2)))]) (rest := []) (st1 := []) ⟨hx, hb, hml, hown, hts⟩ (c_X7_countRead D cy A b σ (svS saved many (mS σ)) (min (many + 1) 6) bef T len 0 at_ le f1 f2 dn hs Z (j / 2) (on1 (j % 2)) (by omega) (on1_lt _)) (cwV 2 hts gX7_read_X7_countRead rfl rfl rfl hd_X7_countRead ⟨Nat.le_of_ble_eq_true rfl, Nat.le_of_ble_eq_true rfl⟩) hK hA hw 0 rfl rfl rfl hl.1 rfl rfl (Nat.le_of_ble_eq_true rfl) ⟨Nat.zero_le _, Nat.zero_le _⟩ dX7_read_75 (fun H locs hw => ?_)
        have hw : wS D A (wM cy b (mS (rdS σ (spT (3 * (j / 2) + (on1 (j % 2)))))) (svS saved many (mS σ)) (min (many + 1) 6) bef T len 0 at_ le f1 f2 dn hs ++ Z) s H locs := hw
        have hP := hw.1
        refine lv_aload_n hx hb dX7_read_78 rfl (lv_at hl 2 rfl) ?_
        refine lv_iload_n hx hb dX7_read_79 rfl (lv_at hl 1 rfl) ?_
        refine lv_iload_n hx hb dX7_read_80 rfl (lv_at hl 0 rfl) ?_
        refine q_cS (As := [.int (nI (j % 2))]) (rest := [.int (nI (j / 2)), .ref (b 0)]) (w := []) ⟨hx, hb, hml, hown, hts⟩ (c_X7_two D cy (j % 2) (by omega)) (va_cwS 1 hts gX7_read_X7_two rfl rfl rfl hd_X7_two ⟨Nat.le_of_ble_eq_true rfl, Nat.le_of_ble_eq_true rfl⟩) hK q_Pnil rfl hl.1 rfl (Nat.le_of_ble_eq_true rfl) ⟨Nat.zero_le _, Nat.zero_le _⟩ dX7_read_81 ?_
        refine q_wV0 (As := [.int (nI (j / 2)), .int (nI (tw2 (j % 2)))]) (rest := []) (st1 := []) ⟨hx, hb, hml, hown, hts⟩ (c_X7_countRead D cy A b (rdS σ (spT (3 * (j / 2) + (on1 (j % 2))))) (svS saved many (mS σ)) (min (many + 1) 6) bef T len 0 at_ le f1 f2 dn hs Z (j / 2) (tw2 (j % 2)) (by omega) (tw2_lt _)) (cwV 2 hts gX7_read_X7_countRead rfl rfl rfl hd_X7_countRead ⟨Nat.le_of_ble_eq_true rfl, Nat.le_of_ble_eq_true rfl⟩) hK hA hw 0 rfl rfl rfl hl.1 rfl rfl (Nat.le_of_ble_eq_true rfl) ⟨Nat.zero_le _, Nat.zero_le _⟩ dX7_read_84 (fun H locs hw => ?_)
        have hw : wS D A (wM cy b (mS (rdS (rdS σ (spT (3 * (j / 2) + (on1 (j % 2))))) (spT (3 * (j / 2) + (tw2 (j % 2)))))) (svS saved many (mS σ)) (min (many + 1) 6) bef T len 0 at_ le f1 f2 dn hs ++ Z) s H locs := hw
        have hP := hw.1
        refine lv_aload_n hx hb dX7_read_87 rfl (lv_at hl 2 rfl) ?_
        refine lv_iload_n hx hb dX7_read_88 rfl (lv_at hl 1 rfl) ?_
        refine lv_iload_n hx hb dX7_read_89 rfl (lv_at hl 0 rfl) ?_
        refine q_cV (As := [.int (nI (j / 2)), .int (nI (j % 2))]) (rest := []) ⟨hx, hb, hml, hown, hts⟩ (c_X7_look D cy b (rdS (rdS σ (spT (3 * (j / 2) + (on1 (j % 2))))) (spT (3 * (j / 2) + (tw2 (j % 2))))) (svS saved many (mS σ)) (min (many + 1) 6) bef T len 0 at_ le f1 f2 dn hs Z (j / 2) (j % 2) (by omega) (by omega)) (cwV 2 hts gX7_read_X7_look rfl rfl rfl hd_X7_look ⟨Nat.le_of_ble_eq_true rfl, Nat.le_of_ble_eq_true rfl⟩) hK hP 0 rfl rfl rfl hl.1 rfl (Nat.le_of_ble_eq_true rfl) ⟨Nat.zero_le _, Nat.zero_le _⟩ dX7_read_90 ?_
        have e_c : cRd σ x = 0 := by rw [cRd, if_pos c_5, x_j, if_neg (by rw [kn_f h_0 (ad_lt h_j) c_23]; decide)]
        have e_s : rdS (rdS σ (spT (3 * (j / 2) + (on1 (j % 2))))) (spT (3 * (j / 2) + (tw2 (j % 2)))) = sRd σ x := by rw [sRd, x_j, if_neg (by rw [c_57]; decide)]; exact f2_12 σ (s := j / 2) (u := j % 2) (by omega) (by omega)
        rw [e_s] at hw
        have hw : wS D A (wM cy b (mS (if cRd σ x = 0 then sRd σ x else σ)) (if cRd σ x = 0 then svS saved many (mS σ) else saved) (if cRd σ x = 0 then min (many + 1) 6 else many) bef T len (cRd σ x) at_ le f1 f2 dn hs ++ Z) s H locs := by rw [e_c]; exact hw
        exact q_iretW hx hb hr hlocks hw dX7_read_93 (by rw [e_c]; rw [e_s]; exact kn_sRd x_j h_j)
      · refine lv_aload_n hx hb dX7_read_60 rfl (lv_at hl 2 rfl) ?_
        refine lv_iload_n hx hb dX7_read_61 rfl (lv_at hl 1 rfl) ?_
        refine lv_iload_n hx hb dX7_read_62 rfl (lv_at hl 0 rfl) ?_
        refine q_wV0 (As := [.int (nI (j / 2)), .int (nI (j % 2))]) (rest := []) (st1 := []) ⟨hx, hb, hml, hown, hts⟩ (c_X7_countRead D cy A b σ (svS saved many (mS σ)) (min (many + 1) 6) bef T len 0 at_ le f1 f2 dn hs Z (j / 2) (j % 2) (by omega) (by omega)) (cwV 2 hts gX7_read_X7_countRead rfl rfl rfl hd_X7_countRead ⟨Nat.le_of_ble_eq_true rfl, Nat.le_of_ble_eq_true rfl⟩) hK hA hw 0 rfl rfl rfl hl.1 rfl rfl (Nat.le_of_ble_eq_true rfl) ⟨Nat.zero_le _, Nat.zero_le _⟩ dX7_read_63 (fun H locs hw => ?_)
        have hw : wS D A (wM cy b (mS (rdS σ (spT (3 * (j / 2) + (j % 2))))) (svS saved many (mS σ)) (min (many + 1) 6) bef T len 0 at_ le f1 f2 dn hs ++ Z) s H locs := hw
        have hP := hw.1
        refine lv_goto (tgt := 87) hx hb dX7_read_66 (by decide) ?_
        refine lv_aload_n hx hb dX7_read_87 rfl (lv_at hl 2 rfl) ?_
        refine lv_iload_n hx hb dX7_read_88 rfl (lv_at hl 1 rfl) ?_
        refine lv_iload_n hx hb dX7_read_89 rfl (lv_at hl 0 rfl) ?_
        refine q_cV (As := [.int (nI (j / 2)), .int (nI (j % 2))]) (rest := []) ⟨hx, hb, hml, hown, hts⟩ (c_X7_look D cy b (rdS σ (spT (3 * (j / 2) + (j % 2)))) (svS saved many (mS σ)) (min (many + 1) 6) bef T len 0 at_ le f1 f2 dn hs Z (j / 2) (j % 2) (by omega) (by omega)) (cwV 2 hts gX7_read_X7_look rfl rfl rfl hd_X7_look ⟨Nat.le_of_ble_eq_true rfl, Nat.le_of_ble_eq_true rfl⟩) hK hP 0 rfl rfl rfl hl.1 rfl (Nat.le_of_ble_eq_true rfl) ⟨Nat.zero_le _, Nat.zero_le _⟩ dX7_read_90 ?_
        have e_c : cRd σ x = 0 := by rw [cRd, if_pos c_5, x_j, if_neg (by rw [kn_f h_0 (ad_lt h_j) c_23]; decide)]
        have e_s : rdS σ (spT (3 * (j / 2) + (j % 2))) = sRd σ x := by rw [sRd, x_j, if_pos c_57]; rfl
        rw [e_s] at hw
        have hw : wS D A (wM cy b (mS (if cRd σ x = 0 then sRd σ x else σ)) (if cRd σ x = 0 then svS saved many (mS σ) else saved) (if cRd σ x = 0 then min (many + 1) 6 else many) bef T len (cRd σ x) at_ le f1 f2 dn hs ++ Z) s H locs := by rw [e_c]; exact hw
        exact q_iretW hx hb hr hlocks hw dX7_read_93 (by rw [e_c]; rw [e_s]; exact kn_sRd x_j h_j)
    · refine lv_iconst (v := nI 2) hx hb dX7_read_26 rfl ?_
      refine lv_goto (tgt := 31) hx hb dX7_read_27 (by decide) ?_
      refine q_wV0 (As := [.int (nI (2))]) (rest := []) (st1 := [.int (bI (decide (2 = 0)))]) ⟨hx, hb, hml, hown, hts⟩ (c_X7_holds D cy A b σ saved many bef T len thr at_ le f1 f2 dn hs Z (2) (by omega)) (cwV 1 hts gX7_read_X7_holds rfl rfl rfl hd_X7_holds ⟨Nat.le_of_ble_eq_true rfl, Nat.le_of_ble_eq_true rfl⟩) hK hA hw 0 rfl rfl rfl hl.1 rfl rfl (Nat.le_of_ble_eq_true rfl) ⟨Nat.zero_le _, Nat.zero_le _⟩ dX7_read_31 (fun H locs hw => ?_)
      have hw : wS D A (wM cy b (mS σ) saved many bef T len 2 at_ le f1 f2 dn hs ++ Z) s H locs := hw
      have hP := hw.1
      refine q_ifneB (tgt := 39) hx hb dX7_read_34 (by decide) (fun c_34 => absurd c_34 (by decide)) (fun c_34 => ?_)
      refine lv_iconst (v := nI 0) hx hb dX7_read_37 rfl ?_
      have e_c : cRd σ x = 2 := by rw [cRd, if_pos c_5, x_j, if_pos (kn_t h_0 (ad_lt h_j) c_23)]
      have hw : wS D A (wM cy b (mS (if cRd σ x = 0 then sRd σ x else σ)) (if cRd σ x = 0 then svS saved many (mS σ) else saved) (if cRd σ x = 0 then min (many + 1) 6 else many) bef T len (cRd σ x) at_ le f1 f2 dn hs ++ Z) s H locs := by rw [e_c]; exact hw
      exact q_iretW hx hb hr hlocks hw dX7_read_38 (by rw [e_c]; rfl)
  · refine lv_iconst (v := nI 1) hx hb dX7_read_8 rfl ?_
    refine lv_goto (tgt := 31) hx hb dX7_read_9 (by decide) ?_
    refine q_wV0 (As := [.int (nI (1))]) (rest := []) (st1 := [.int (bI (decide (1 = 0)))]) ⟨hx, hb, hml, hown, hts⟩ (c_X7_holds D cy A b σ saved many bef T len thr at_ le f1 f2 dn hs Z (1) (by omega)) (cwV 1 hts gX7_read_X7_holds rfl rfl rfl hd_X7_holds ⟨Nat.le_of_ble_eq_true rfl, Nat.le_of_ble_eq_true rfl⟩) hK hA hw 0 rfl rfl rfl hl.1 rfl rfl (Nat.le_of_ble_eq_true rfl) ⟨Nat.zero_le _, Nat.zero_le _⟩ dX7_read_31 (fun H locs hw => ?_)
    have hw : wS D A (wM cy b (mS σ) saved many bef T len 1 at_ le f1 f2 dn hs ++ Z) s H locs := hw
    have hP := hw.1
    refine q_ifneB (tgt := 39) hx hb dX7_read_34 (by decide) (fun c_34 => absurd c_34 (by decide)) (fun c_34 => ?_)
    refine lv_iconst (v := nI 0) hx hb dX7_read_37 rfl ?_
    have e_c : cRd σ x = 1 := by rw [cRd, if_neg (by rw [c_5]; decide)]
    have hw : wS D A (wM cy b (mS (if cRd σ x = 0 then sRd σ x else σ)) (if cRd σ x = 0 then svS saved many (mS σ) else saved) (if cRd σ x = 0 then min (many + 1) 6 else many) bef T len (cRd σ x) at_ le f1 f2 dn hs ++ Z) s H locs := by rw [e_c]; exact hw
    exact q_iretW hx hb hr hlocks hw dX7_read_38 (by rw [e_c]; rfl)
set_option maxHeartbeats 1000000 in
set_option maxRecDepth 100000 in
theorem c_X7_write {l : Launch} (D : va_G) (cy : ClassId) (A : Nat → Prop) (b : Nat → Nat) (σ saved : Nat → Int32) (many : Nat) (bef T : Nat → Int32) (len thr at_ : Nat) (le f1 f2 : Int32) (dn : Nat) (hs : Int64) (Z : va_W) (x : Int32) (v : Int32) (h_0 : many ≤ 6) : Met l yX7_write wsX7_write (k2_rm 6 135) (gP D cy [.ref (b 0), .int (x), .int (v)] A (wM cy b (mS σ) saved many bef T len thr at_ le f1 f2 dn hs ++ Z)) (gQ D A (some (.int (if cWr σ x v = 0 then nI (wC σ (ix x)) else 0))) (wM cy b (mS (if cWr σ x v = 0 then wD σ (ix x) v else σ)) (if cWr σ x v = 0 then svS saved many (mS σ) else saved) (if cWr σ x v = 0 then min (many + 1) 6 else many) bef T len (cWr σ x v) at_ le f1 f2 dn hs ++ Z)) 0 0 A := by
  refine q_imp (cc := cX7_write) (maxL := 3) (ret := (some .int)) pl_X7 rfl (Nat.le_of_ble_eq_true rfl) ?_
  intro p e s m below meth c ls hx hb hr hml hts hown hlocks hw hK hA hl
  have hP := hw.1
  have hl : lv_has ls 3 [(0, .ref (b 0)), (1, .int (x)), (2, .int (v))] := hl
  refine lv_aload_n hx hb dX7_write_0 rfl (lv_at hl 0 rfl) ?_
  refine lv_aload_n hx hb dX7_write_1 rfl (lv_at hl 0 rfl) ?_
  refine lv_iload_n hx hb dX7_write_2 rfl (lv_at hl 1 rfl) ?_
  refine lv_iload_n hx hb dX7_write_3 rfl (lv_at hl 2 rfl) ?_
  refine q_cV (As := [.int (x), .int (v)]) (rest := [.ref (b 0)]) ⟨hx, hb, hml, hown, hts⟩ (c_X7_writeError D cy b σ saved many bef T len thr at_ le f1 f2 dn hs Z (x) (v)) (cwV 2 hts gX7_write_X7_writeError rfl rfl rfl hd_X7_writeError ⟨Nat.le_of_ble_eq_true rfl, Nat.le_of_ble_eq_true rfl⟩) hK hP 0 rfl rfl rfl hl.1 rfl (Nat.le_of_ble_eq_true rfl) ⟨Nat.zero_le _, Nat.zero_le _⟩ dX7_write_4 ?_
  refine q_wV0 (As := [.int (nI (cWr σ x v))]) (rest := []) (st1 := [.int (bI (decide ((cWr σ x v) = 0)))]) ⟨hx, hb, hml, hown, hts⟩ (c_X7_holds D cy A b σ saved many bef T len thr at_ le f1 f2 dn hs Z (cWr σ x v) (by have h9 := cWr_le σ x v; omega)) (cwV 1 hts gX7_write_X7_holds rfl rfl rfl hd_X7_holds ⟨Nat.le_of_ble_eq_true rfl, Nat.le_of_ble_eq_true rfl⟩) hK hA hw 0 rfl rfl rfl hl.1 rfl rfl (Nat.le_of_ble_eq_true rfl) ⟨Nat.zero_le _, Nat.zero_le _⟩ dX7_write_7 (fun H locs hw => ?_)
  have hw : wS D A (wM cy b (mS σ) saved many bef T len (cWr σ x v) at_ le f1 f2 dn hs ++ Z) s H locs := hw
  have hP := hw.1
  refine q_ifneB (tgt := 15) hx hb dX7_write_10 (by decide) (fun c_10 => ?_) (fun c_10 => ?_)
  · have e_z : cWr σ x v = 0 := of_decide_eq_true c_10
    obtain ⟨j, h_j, e_j⟩ := inR_nI (cWr_R e_z)
    have x_j : ix x = j := by rw [e_j]; exact nI_clamp (by omega)
    have hl : lv_has ls 3 [(0, .ref (b 0)), (1, .int (nI (j))), (2, .int (v))] := by rw [← e_j]; exact hl
    refine lv_aload_n hx hb dX7_write_15 rfl (lv_at hl 0 rfl) ?_
    refine q_wV0 (As := []) (rest := []) (st1 := []) ⟨hx, hb, hml, hown, hts⟩ (c_X7_save D cy A b σ saved many bef T len (cWr σ x v) at_ le f1 f2 dn hs Z (by omega)) (cwV 0 hts gX7_write_X7_save rfl rfl rfl hd_X7_save ⟨Nat.le_of_ble_eq_true rfl, Nat.le_of_ble_eq_true rfl⟩) hK hA hw 0 rfl rfl rfl hl.1 rfl rfl (Nat.le_of_ble_eq_true rfl) ⟨Nat.zero_le _, Nat.zero_le _⟩ dX7_write_16 (fun H locs hw => ?_)
    have hw : wS D A (wM cy b (mS σ) (svS saved many (mS σ)) (min (many + 1) 6) bef T len (cWr σ x v) at_ le f1 f2 dn hs ++ Z) s H locs := hw
    have hP := hw.1
    refine lv_aload_n hx hb dX7_write_19 rfl (lv_at hl 0 rfl) ?_
    refine lv_iload_n hx hb dX7_write_20 rfl (lv_at hl 1 rfl) ?_
    refine lv_iload_n hx hb dX7_write_21 rfl (lv_at hl 2 rfl) ?_
    refine q_wV0 (As := [.int (nI (j)), .int (v)]) (rest := []) (st1 := [.int (nI (wC σ j))]) ⟨hx, hb, hml, hown, hts⟩ (c_X7_doWrite D cy A b σ (svS saved many (mS σ)) (min (many + 1) 6) bef T len (cWr σ x v) at_ le f1 f2 dn hs Z (j) (v) (by omega)) (cwV 2 hts gX7_write_X7_doWrite rfl rfl rfl hd_X7_doWrite ⟨Nat.le_of_ble_eq_true rfl, Nat.le_of_ble_eq_true rfl⟩) hK hA hw 0 rfl rfl rfl hl.1 rfl rfl (Nat.le_of_ble_eq_true rfl) ⟨Nat.zero_le _, Nat.zero_le _⟩ dX7_write_22 (fun H locs hw => ?_)
    have hw : wS D A (wM cy b (mS (wD σ j v)) (svS saved many (mS σ)) (min (many + 1) 6) bef T len (cWr σ x v) at_ le f1 f2 dn hs ++ Z) s H locs := hw
    have hP := hw.1
    have e_s : wD σ j v = wD σ (ix x) v := by rw [x_j]
    rw [e_s] at hw
    have hw : wS D A (wM cy b (mS (if cWr σ x v = 0 then wD σ (ix x) v else σ)) (if cWr σ x v = 0 then svS saved many (mS σ) else saved) (if cWr σ x v = 0 then min (many + 1) 6 else many) bef T len (cWr σ x v) at_ le f1 f2 dn hs ++ Z) s H locs := by rw [if_pos e_z, if_pos e_z, if_pos e_z]; exact hw
    exact q_iretW hx hb hr hlocks hw dX7_write_25 (by rw [if_pos e_z]; rw [x_j])
  · have e_z : ¬ cWr σ x v = 0 := of_decide_eq_false c_10
    refine lv_iconst (v := nI 0) hx hb dX7_write_13 rfl ?_
    have hw : wS D A (wM cy b (mS (if cWr σ x v = 0 then wD σ (ix x) v else σ)) (if cWr σ x v = 0 then svS saved many (mS σ) else saved) (if cWr σ x v = 0 then min (many + 1) 6 else many) bef T len (cWr σ x v) at_ le f1 f2 dn hs ++ Z) s H locs := by rw [if_neg e_z, if_neg e_z, if_neg e_z]; exact hw
    exact q_iretW hx hb hr hlocks hw dX7_write_14 (by rw [if_neg e_z]; rfl)
set_option maxHeartbeats 1000000 in
set_option maxRecDepth 100000 in
theorem c_X7_fail {l : Launch} (D : va_G) (cy : ClassId) (A : Nat → Prop) (b : Nat → Nat) (σ saved : Nat → Int32) (many : Nat) (bef T : Nat → Int32) (len thr at_ : Nat) (le f1 f2 : Int32) (dn : Nat) (hs : Int64) (Z : va_W) (x : Int32) (h_0 : many ≤ 6) (h_1 : Val σ) : Met l yX7_fail wsX7_fail (k2_rm 8 178) (gP D cy [.ref (b 0), .int (x)] A (wM cy b (mS σ) saved many bef T len thr at_ le f1 f2 dn hs ++ Z)) (gQ D A (some (.int (if cFl σ x = 0 then nI (cl (failS σ (ix x))) else 0))) (wM cy b (mS (if cFl σ x = 0 then failS σ (ix x) else σ)) (if cFl σ x = 0 then svS saved many (mS σ) else saved) (if cFl σ x = 0 then min (many + 1) 6 else many) bef T len (cFl σ x) at_ le f1 f2 dn hs ++ Z)) 0 0 A := by
  refine q_imp (cc := cX7_fail) (maxL := 2) (ret := (some .int)) pl_X7 rfl (Nat.le_of_ble_eq_true rfl) ?_
  intro p e s m below meth c ls hx hb hr hml hts hown hlocks hw hK hA hl
  have hP := hw.1
  have hl : lv_has ls 2 [(0, .ref (b 0)), (1, .int (x))] := hl
  refine lv_aload_n hx hb dX7_fail_0 rfl (lv_at hl 0 rfl) ?_
  refine lv_aload_n hx hb dX7_fail_1 rfl (lv_at hl 0 rfl) ?_
  refine lv_iload_n hx hb dX7_fail_2 rfl (lv_at hl 1 rfl) ?_
  refine q_cV (As := [.int (x)]) (rest := [.ref (b 0)]) ⟨hx, hb, hml, hown, hts⟩ (c_X7_failError D cy b σ saved many bef T len thr at_ le f1 f2 dn hs Z (x)) (cwV 1 hts gX7_fail_X7_failError rfl rfl rfl hd_X7_failError ⟨Nat.le_of_ble_eq_true rfl, Nat.le_of_ble_eq_true rfl⟩) hK hP 0 rfl rfl rfl hl.1 rfl (Nat.le_of_ble_eq_true rfl) ⟨Nat.zero_le _, Nat.zero_le _⟩ dX7_fail_3 ?_
  refine q_wV0 (As := [.int (nI (cFl σ x))]) (rest := []) (st1 := [.int (bI (decide ((cFl σ x) = 0)))]) ⟨hx, hb, hml, hown, hts⟩ (c_X7_holds D cy A b σ saved many bef T len thr at_ le f1 f2 dn hs Z (cFl σ x) (by have h9 := cFl_le σ x; omega)) (cwV 1 hts gX7_fail_X7_holds rfl rfl rfl hd_X7_holds ⟨Nat.le_of_ble_eq_true rfl, Nat.le_of_ble_eq_true rfl⟩) hK hA hw 0 rfl rfl rfl hl.1 rfl rfl (Nat.le_of_ble_eq_true rfl) ⟨Nat.zero_le _, Nat.zero_le _⟩ dX7_fail_6 (fun H locs hw => ?_)
  have hw : wS D A (wM cy b (mS σ) saved many bef T len (cFl σ x) at_ le f1 f2 dn hs ++ Z) s H locs := hw
  have hP := hw.1
  refine q_ifneB (tgt := 14) hx hb dX7_fail_9 (by decide) (fun c_9 => ?_) (fun c_9 => ?_)
  · have e_z : cFl σ x = 0 := of_decide_eq_true c_9
    obtain ⟨j, h_j, e_j⟩ := inR_nI (cFl_R e_z)
    have x_j : ix x = j := by rw [e_j]; exact nI_clamp (by omega)
    have hl : lv_has ls 2 [(0, .ref (b 0)), (1, .int (nI (j)))] := by rw [← e_j]; exact hl
    refine lv_aload_n hx hb dX7_fail_14 rfl (lv_at hl 0 rfl) ?_
    refine q_wV0 (As := []) (rest := []) (st1 := []) ⟨hx, hb, hml, hown, hts⟩ (c_X7_save D cy A b σ saved many bef T len (cFl σ x) at_ le f1 f2 dn hs Z (by omega)) (cwV 0 hts gX7_fail_X7_save rfl rfl rfl hd_X7_save ⟨Nat.le_of_ble_eq_true rfl, Nat.le_of_ble_eq_true rfl⟩) hK hA hw 0 rfl rfl rfl hl.1 rfl rfl (Nat.le_of_ble_eq_true rfl) ⟨Nat.zero_le _, Nat.zero_le _⟩ dX7_fail_15 (fun H locs hw => ?_)
    have hw : wS D A (wM cy b (mS σ) (svS saved many (mS σ)) (min (many + 1) 6) bef T len (cFl σ x) at_ le f1 f2 dn hs ++ Z) s H locs := hw
    have hP := hw.1
    refine lv_aload_n hx hb dX7_fail_18 rfl (lv_at hl 0 rfl) ?_
    refine lv_iload_n hx hb dX7_fail_19 rfl (lv_at hl 1 rfl) ?_
    refine q_wV0 (As := [.int (nI (j))]) (rest := []) (st1 := [.int (nI (cl (failS σ j)))]) ⟨hx, hb, hml, hown, hts⟩ (c_X7_doFail D cy A b σ (svS saved many (mS σ)) (min (many + 1) 6) bef T len (cFl σ x) at_ le f1 f2 dn hs Z (j) h_j h_1) (cwV 1 hts gX7_fail_X7_doFail rfl rfl rfl hd_X7_doFail ⟨Nat.le_of_ble_eq_true rfl, Nat.le_of_ble_eq_true rfl⟩) hK hA hw 0 rfl rfl rfl hl.1 rfl rfl (Nat.le_of_ble_eq_true rfl) ⟨Nat.zero_le _, Nat.zero_le _⟩ dX7_fail_20 (fun H locs hw => ?_)
    have hw : wS D A (wM cy b (mS (failS σ j)) (svS saved many (mS σ)) (min (many + 1) 6) bef T len (cFl σ x) at_ le f1 f2 dn hs ++ Z) s H locs := hw
    have hP := hw.1
    have e_s : failS σ j = failS σ (ix x) := by rw [x_j]
    rw [e_s] at hw
    have hw : wS D A (wM cy b (mS (if cFl σ x = 0 then failS σ (ix x) else σ)) (if cFl σ x = 0 then svS saved many (mS σ) else saved) (if cFl σ x = 0 then min (many + 1) 6 else many) bef T len (cFl σ x) at_ le f1 f2 dn hs ++ Z) s H locs := by rw [if_pos e_z, if_pos e_z, if_pos e_z]; exact hw
    exact q_iretW hx hb hr hlocks hw dX7_fail_23 (by rw [if_pos e_z]; rw [x_j])
  · have e_z : ¬ cFl σ x = 0 := of_decide_eq_false c_9
    refine lv_iconst (v := nI 0) hx hb dX7_fail_12 rfl ?_
    have hw : wS D A (wM cy b (mS (if cFl σ x = 0 then failS σ (ix x) else σ)) (if cFl σ x = 0 then svS saved many (mS σ) else saved) (if cFl σ x = 0 then min (many + 1) 6 else many) bef T len (cFl σ x) at_ le f1 f2 dn hs ++ Z) s H locs := by rw [if_neg e_z, if_neg e_z, if_neg e_z]; exact hw
    exact q_iretW hx hb hr hlocks hw dX7_fail_13 (by rw [if_neg e_z]; rfl)
set_option maxHeartbeats 1000000 in
set_option maxRecDepth 100000 in
theorem c_X7_beginMending {l : Launch} (D : va_G) (cy : ClassId) (A : Nat → Prop) (b : Nat → Nat) (σ saved : Nat → Int32) (many : Nat) (bef T : Nat → Int32) (len thr at_ : Nat) (le f1 f2 : Int32) (dn : Nat) (hs : Int64) (Z : va_W) (x : Int32) (h_0 : many ≤ 6) : Met l yX7_beginMending wsX7_beginMending (k2_rm 3 63) (gP D cy [.ref (b 0), .int (x)] A (wM cy b (mS σ) saved many bef T len thr at_ le f1 f2 dn hs ++ Z)) (gQ D A (some (.int (if cBg σ x = 0 then begS σ (ix x) 84 else 0))) (wM cy b (mS (if cBg σ x = 0 then begS σ (ix x) else σ)) (if cBg σ x = 0 then svS saved many (mS σ) else saved) (if cBg σ x = 0 then min (many + 1) 6 else many) bef T len (cBg σ x) at_ le f1 f2 dn hs ++ Z)) 0 0 A := by
  refine q_imp (cc := cX7_beginMending) (maxL := 2) (ret := (some .int)) pl_X7 rfl (Nat.le_of_ble_eq_true rfl) ?_
  intro p e s m below meth c ls hx hb hr hml hts hown hlocks hw hK hA hl
  have hP := hw.1
  have hl : lv_has ls 2 [(0, .ref (b 0)), (1, .int (x))] := hl
  refine lv_aload_n hx hb dX7_beginMending_0 rfl (lv_at hl 0 rfl) ?_
  refine lv_aload_n hx hb dX7_beginMending_1 rfl (lv_at hl 0 rfl) ?_
  refine lv_iload_n hx hb dX7_beginMending_2 rfl (lv_at hl 1 rfl) ?_
  refine q_cV (As := [.int (x)]) (rest := [.ref (b 0)]) ⟨hx, hb, hml, hown, hts⟩ (c_X7_beginError D cy b σ saved many bef T len thr at_ le f1 f2 dn hs Z (x)) (cwV 1 hts gX7_beginMending_X7_beginError rfl rfl rfl hd_X7_beginError ⟨Nat.le_of_ble_eq_true rfl, Nat.le_of_ble_eq_true rfl⟩) hK hP 0 rfl rfl rfl hl.1 rfl (Nat.le_of_ble_eq_true rfl) ⟨Nat.zero_le _, Nat.zero_le _⟩ dX7_beginMending_3 ?_
  refine q_wV0 (As := [.int (nI (cBg σ x))]) (rest := []) (st1 := [.int (bI (decide ((cBg σ x) = 0)))]) ⟨hx, hb, hml, hown, hts⟩ (c_X7_holds D cy A b σ saved many bef T len thr at_ le f1 f2 dn hs Z (cBg σ x) (by have h9 := cBg_le σ x; omega)) (cwV 1 hts gX7_beginMending_X7_holds rfl rfl rfl hd_X7_holds ⟨Nat.le_of_ble_eq_true rfl, Nat.le_of_ble_eq_true rfl⟩) hK hA hw 0 rfl rfl rfl hl.1 rfl rfl (Nat.le_of_ble_eq_true rfl) ⟨Nat.zero_le _, Nat.zero_le _⟩ dX7_beginMending_6 (fun H locs hw => ?_)
  have hw : wS D A (wM cy b (mS σ) saved many bef T len (cBg σ x) at_ le f1 f2 dn hs ++ Z) s H locs := hw
  have hP := hw.1
  refine q_ifneB (tgt := 14) hx hb dX7_beginMending_9 (by decide) (fun c_9 => ?_) (fun c_9 => ?_)
  · have e_z : cBg σ x = 0 := of_decide_eq_true c_9
    obtain ⟨j, h_j, e_j⟩ := inR_nI (cBg_R e_z)
    have x_j : ix x = j := by rw [e_j]; exact nI_clamp (by omega)
    have hl : lv_has ls 2 [(0, .ref (b 0)), (1, .int (nI (j)))] := by rw [← e_j]; exact hl
    refine lv_aload_n hx hb dX7_beginMending_14 rfl (lv_at hl 0 rfl) ?_
    refine q_wV0 (As := []) (rest := []) (st1 := []) ⟨hx, hb, hml, hown, hts⟩ (c_X7_save D cy A b σ saved many bef T len (cBg σ x) at_ le f1 f2 dn hs Z (by omega)) (cwV 0 hts gX7_beginMending_X7_save rfl rfl rfl hd_X7_save ⟨Nat.le_of_ble_eq_true rfl, Nat.le_of_ble_eq_true rfl⟩) hK hA hw 0 rfl rfl rfl hl.1 rfl rfl (Nat.le_of_ble_eq_true rfl) ⟨Nat.zero_le _, Nat.zero_le _⟩ dX7_beginMending_15 (fun H locs hw => ?_)
    have hw : wS D A (wM cy b (mS σ) (svS saved many (mS σ)) (min (many + 1) 6) bef T len (cBg σ x) at_ le f1 f2 dn hs ++ Z) s H locs := hw
    have hP := hw.1
    refine lv_aload_n hx hb dX7_beginMending_18 rfl (lv_at hl 0 rfl) ?_
    refine lv_iload_n hx hb dX7_beginMending_19 rfl (lv_at hl 1 rfl) ?_
    refine q_wV0 (As := [.int (nI (j))]) (rest := []) (st1 := [.int (begS σ j 84)]) ⟨hx, hb, hml, hown, hts⟩ (c_X7_doBegin D cy A b σ (svS saved many (mS σ)) (min (many + 1) 6) bef T len (cBg σ x) at_ le f1 f2 dn hs Z (j) (by omega)) (cwV 1 hts gX7_beginMending_X7_doBegin rfl rfl rfl hd_X7_doBegin ⟨Nat.le_of_ble_eq_true rfl, Nat.le_of_ble_eq_true rfl⟩) hK hA hw 0 rfl rfl rfl hl.1 rfl rfl (Nat.le_of_ble_eq_true rfl) ⟨Nat.zero_le _, Nat.zero_le _⟩ dX7_beginMending_20 (fun H locs hw => ?_)
    have hw : wS D A (wM cy b (mS (begS σ j)) (svS saved many (mS σ)) (min (many + 1) 6) bef T len (cBg σ x) at_ le f1 f2 dn hs ++ Z) s H locs := hw
    have hP := hw.1
    have e_s : begS σ j = begS σ (ix x) := by rw [x_j]
    rw [e_s] at hw
    have hw : wS D A (wM cy b (mS (if cBg σ x = 0 then begS σ (ix x) else σ)) (if cBg σ x = 0 then svS saved many (mS σ) else saved) (if cBg σ x = 0 then min (many + 1) 6 else many) bef T len (cBg σ x) at_ le f1 f2 dn hs ++ Z) s H locs := by rw [if_pos e_z, if_pos e_z, if_pos e_z]; exact hw
    exact q_iretW hx hb hr hlocks hw dX7_beginMending_23 (by rw [if_pos e_z]; rw [x_j])
  · have e_z : ¬ cBg σ x = 0 := of_decide_eq_false c_9
    refine lv_iconst (v := nI 0) hx hb dX7_beginMending_12 rfl ?_
    have hw : wS D A (wM cy b (mS (if cBg σ x = 0 then begS σ (ix x) else σ)) (if cBg σ x = 0 then svS saved many (mS σ) else saved) (if cBg σ x = 0 then min (many + 1) 6 else many) bef T len (cBg σ x) at_ le f1 f2 dn hs ++ Z) s H locs := by rw [if_neg e_z, if_neg e_z, if_neg e_z]; exact hw
    exact q_iretW hx hb hr hlocks hw dX7_beginMending_13 (by rw [if_neg e_z]; rfl)
set_option maxHeartbeats 1000000 in
set_option maxRecDepth 100000 in
theorem c_X7_mend {l : Launch} (D : va_G) (cy : ClassId) (A : Nat → Prop) (b : Nat → Nat) (σ saved : Nat → Int32) (many : Nat) (bef T : Nat → Int32) (len thr at_ : Nat) (le f1 f2 : Int32) (dn : Nat) (hs : Int64) (Z : va_W) (x : Int32) (h_0 : Val σ) (h_1 : many ≤ 6) : Met l yX7_mend wsX7_mend (k2_rm 7 159) (gP D cy [.ref (b 0), .int (x)] A (wM cy b (mS σ) saved many bef T len thr at_ le f1 f2 dn hs ++ Z)) (gQ D A (some (.int (nI (if cMe x = 0 then (mnS (ix x) σ).2 else 0)))) (wM cy b (mS (if cMe x = 0 then (mnS (ix x) σ).1 else σ)) (if cMe x = 0 then svS saved many (mS σ) else saved) (if cMe x = 0 then min (many + 1) 6 else many) bef T len (cMe x) at_ le f1 f2 dn hs ++ Z)) 0 0 A := by
  refine q_imp (cc := cX7_mend) (maxL := 2) (ret := (some .int)) pl_X7 rfl (Nat.le_of_ble_eq_true rfl) ?_
  intro p e s m below meth c ls hx hb hr hml hts hown hlocks hw hK hA hl
  have hP := hw.1
  have hl : lv_has ls 2 [(0, .ref (b 0)), (1, .int (x))] := hl
  refine lv_aload_n hx hb dX7_mend_0 rfl (lv_at hl 0 rfl) ?_
  refine lv_iload_n hx hb dX7_mend_1 rfl (lv_at hl 1 rfl) ?_
  refine lv_iconst (v := nI 1) hx hb dX7_mend_2 rfl ?_
  refine lv_bipush (v := nI 9) hx hb dX7_mend_3 rfl ?_
  refine q_cS (As := [.int (x), .int (nI (1)), .int (nI (9))]) (rest := [.ref (b 0)]) (w := []) ⟨hx, hb, hml, hown, hts⟩ (c_X7_in D cy (x) (1) (9)) (va_cwS 3 hts gX7_mend_X7_in rfl rfl rfl hd_X7_in ⟨Nat.le_of_ble_eq_true rfl, Nat.le_of_ble_eq_true rfl⟩) hK q_Pnil rfl hl.1 rfl (Nat.le_of_ble_eq_true rfl) ⟨Nat.zero_le _, Nat.zero_le _⟩ dX7_mend_5 ?_
  refine q_ifeqB (tgt := 15) hx hb dX7_mend_8 (by decide) (fun c_8 => ?_) (fun c_8 => ?_)
  · refine lv_iconst (v := nI 1) hx hb dX7_mend_15 rfl ?_
    refine q_wV0 (As := [.int (nI (1))]) (rest := []) (st1 := [.int (bI (decide (1 = 0)))]) ⟨hx, hb, hml, hown, hts⟩ (c_X7_holds D cy A b σ saved many bef T len thr at_ le f1 f2 dn hs Z (1) (by omega)) (cwV 1 hts gX7_mend_X7_holds rfl rfl rfl hd_X7_holds ⟨Nat.le_of_ble_eq_true rfl, Nat.le_of_ble_eq_true rfl⟩) hK hA hw 0 rfl rfl rfl hl.1 rfl rfl (Nat.le_of_ble_eq_true rfl) ⟨Nat.zero_le _, Nat.zero_le _⟩ dX7_mend_16 (fun H locs hw => ?_)
    have hw : wS D A (wM cy b (mS σ) saved many bef T len 1 at_ le f1 f2 dn hs ++ Z) s H locs := hw
    have hP := hw.1
    refine q_ifneB (tgt := 24) hx hb dX7_mend_19 (by decide) (fun c_19 => absurd c_19 (by decide)) (fun c_19 => ?_)
    refine lv_iconst (v := nI 0) hx hb dX7_mend_22 rfl ?_
    have e_c : cMe x = 1 := by rw [cMe, if_neg (by rw [c_8]; decide)]
    have hw : wS D A (wM cy b (mS (if cMe x = 0 then (mnS (ix x) σ).1 else σ)) (if cMe x = 0 then svS saved many (mS σ) else saved) (if cMe x = 0 then min (many + 1) 6 else many) bef T len (cMe x) at_ le f1 f2 dn hs ++ Z) s H locs := by rw [e_c]; exact hw
    exact q_iretW hx hb hr hlocks hw dX7_mend_23 (by rw [e_c]; rfl)
  · refine lv_iconst (v := nI 0) hx hb dX7_mend_11 rfl ?_
    refine lv_goto (tgt := 16) hx hb dX7_mend_12 (by decide) ?_
    refine q_wV0 (As := [.int (nI (0))]) (rest := []) (st1 := [.int (bI (decide (0 = 0)))]) ⟨hx, hb, hml, hown, hts⟩ (c_X7_holds D cy A b σ saved many bef T len thr at_ le f1 f2 dn hs Z (0) (by omega)) (cwV 1 hts gX7_mend_X7_holds rfl rfl rfl hd_X7_holds ⟨Nat.le_of_ble_eq_true rfl, Nat.le_of_ble_eq_true rfl⟩) hK hA hw 0 rfl rfl rfl hl.1 rfl rfl (Nat.le_of_ble_eq_true rfl) ⟨Nat.zero_le _, Nat.zero_le _⟩ dX7_mend_16 (fun H locs hw => ?_)
    have hw : wS D A (wM cy b (mS σ) saved many bef T len 0 at_ le f1 f2 dn hs ++ Z) s H locs := hw
    have hP := hw.1
    refine q_ifneB (tgt := 24) hx hb dX7_mend_19 (by decide) (fun c_19 => ?_) (fun c_19 => absurd c_19 (by decide))
    obtain ⟨j, h_j, e_j⟩ := inB_nI c_8
    have x_j : ix x = j := by rw [e_j]; exact nI_clamp (by omega)
    have hl : lv_has ls 2 [(0, .ref (b 0)), (1, .int (nI (j)))] := by rw [← e_j]; exact hl
    refine lv_aload_n hx hb dX7_mend_24 rfl (lv_at hl 0 rfl) ?_
    refine q_wV0 (As := []) (rest := []) (st1 := []) ⟨hx, hb, hml, hown, hts⟩ (c_X7_save D cy A b σ saved many bef T len 0 at_ le f1 f2 dn hs Z (by omega)) (cwV 0 hts gX7_mend_X7_save rfl rfl rfl hd_X7_save ⟨Nat.le_of_ble_eq_true rfl, Nat.le_of_ble_eq_true rfl⟩) hK hA hw 0 rfl rfl rfl hl.1 rfl rfl (Nat.le_of_ble_eq_true rfl) ⟨Nat.zero_le _, Nat.zero_le _⟩ dX7_mend_25 (fun H locs hw => ?_)
    have hw : wS D A (wM cy b (mS σ) (svS saved many (mS σ)) (min (many + 1) 6) bef T len 0 at_ le f1 f2 dn hs ++ Z) s H locs := hw
    have hP := hw.1
    refine lv_aload_n hx hb dX7_mend_28 rfl (lv_at hl 0 rfl) ?_
    refine lv_iload_n hx hb dX7_mend_29 rfl (lv_at hl 1 rfl) ?_
    refine q_wV0 (As := [.int (nI (j))]) (rest := []) (st1 := [.int (nI ((mnS j σ).2))]) ⟨hx, hb, hml, hown, hts⟩ (c_X7_doMend D cy A b σ (svS saved many (mS σ)) (min (many + 1) 6) bef T len 0 at_ le f1 f2 dn hs Z (j) (by omega) h_0) (cwV 1 hts gX7_mend_X7_doMend rfl rfl rfl hd_X7_doMend ⟨Nat.le_of_ble_eq_true rfl, Nat.le_of_ble_eq_true rfl⟩) hK hA hw 0 rfl rfl rfl hl.1 rfl rfl (Nat.le_of_ble_eq_true rfl) ⟨Nat.zero_le _, Nat.zero_le _⟩ dX7_mend_30 (fun H locs hw => ?_)
    have hw : wS D A (wM cy b (mS (mnS j σ).1) (svS saved many (mS σ)) (min (many + 1) 6) bef T len 0 at_ le f1 f2 dn hs ++ Z) s H locs := hw
    have hP := hw.1
    have e_c : cMe x = 0 := by rw [cMe, if_pos c_8]
    have e_s : (mnS j σ).1 = (mnS (ix x) σ).1 := by rw [x_j]
    rw [e_s] at hw
    have hw : wS D A (wM cy b (mS (if cMe x = 0 then (mnS (ix x) σ).1 else σ)) (if cMe x = 0 then svS saved many (mS σ) else saved) (if cMe x = 0 then min (many + 1) 6 else many) bef T len (cMe x) at_ le f1 f2 dn hs ++ Z) s H locs := by rw [e_c]; exact hw
    exact q_iretW hx hb hr hlocks hw dX7_mend_33 (by rw [e_c]; rw [if_pos rfl, x_j])
set_option maxHeartbeats 1000000 in
set_option maxRecDepth 100000 in
theorem c_X7_addSpare {l : Launch} (D : va_G) (cy : ClassId) (A : Nat → Prop) (b : Nat → Nat) (σ saved : Nat → Int32) (many : Nat) (bef T : Nat → Int32) (len thr at_ : Nat) (le f1 f2 : Int32) (dn : Nat) (hs : Int64) (Z : va_W) (h_0 : many ≤ 6) : Met l yX7_addSpare wsX7_addSpare (k2_rm 2 45) (gP D cy [.ref (b 0)] A (wM cy b (mS σ) saved many bef T len thr at_ le f1 f2 dn hs ++ Z)) (gQ D A (some (.int (if cAs σ = 0 then σ 84 + 1 else 0))) (wM cy b (mS (if cAs σ = 0 then upd σ 84 (σ 84 + 1) else σ)) (if cAs σ = 0 then svS saved many (mS σ) else saved) (if cAs σ = 0 then min (many + 1) 6 else many) bef T len (cAs σ) at_ le f1 f2 dn hs ++ Z)) 0 0 A := by
  refine q_imp (cc := cX7_addSpare) (maxL := 1) (ret := (some .int)) pl_X7 rfl (Nat.le_of_ble_eq_true rfl) ?_
  intro p e s m below meth c ls hx hb hr hml hts hown hlocks hw hK hA hl
  have hP := hw.1
  have hl : lv_has ls 1 [(0, .ref (b 0))] := hl
  refine lv_aload_n hx hb dX7_addSpare_0 rfl (lv_at hl 0 rfl) ?_
  refine lv_aload_n hx hb dX7_addSpare_1 rfl (lv_at hl 0 rfl) ?_
  refine va_get (D := D) (ci := 7) (v := .ref (b 1)) (C := RX7) (T := TX7) (N := 13) hx hb hts (fun _ h => List.mem_cons_of_mem _ (List.mem_append_right _ h)) hown hK hP 0 rfl rfl 0 (by decide) (hts (.fieldLink RX7 7 "SpreadParityModel" "s" "[I") (List.mem_of_getElem? (i := 1) rfl)) (fun _ h9 => h9) rfl dX7_addSpare_2 ?_
  refine lv_bipush (v := nI 84) hx hb dX7_addSpare_5 rfl ?_
  refine q_iald hx hb hK hP 1 rfl (by omega) (by omega) dX7_addSpare_7 ?_
  refine q_top (show ((mS σ) (84)) = σ (84) from mS_c _ (by omega)) ?_
  refine lv_iconst (v := nI 5) hx hb dX7_addSpare_8 rfl ?_
  refine lv_icmp_ne (tgt := 16) hx hb dX7_addSpare_9 (by decide) (fun (c_9 : ¬ (σ (84)) = (5)) => ?_) (fun (c_9 : (σ (84)) = (5)) => ?_)
  · refine lv_iconst (v := nI 0) hx hb dX7_addSpare_16 rfl ?_
    refine q_wV0 (As := [.int (nI (0))]) (rest := []) (st1 := [.int (bI (decide (0 = 0)))]) ⟨hx, hb, hml, hown, hts⟩ (c_X7_holds D cy A b σ saved many bef T len thr at_ le f1 f2 dn hs Z (0) (by omega)) (cwV 1 hts gX7_addSpare_X7_holds rfl rfl rfl hd_X7_holds ⟨Nat.le_of_ble_eq_true rfl, Nat.le_of_ble_eq_true rfl⟩) hK hA hw 0 rfl rfl rfl hl.1 rfl rfl (Nat.le_of_ble_eq_true rfl) ⟨Nat.zero_le _, Nat.zero_le _⟩ dX7_addSpare_17 (fun H locs hw => ?_)
    have hw : wS D A (wM cy b (mS σ) saved many bef T len 0 at_ le f1 f2 dn hs ++ Z) s H locs := hw
    have hP := hw.1
    refine q_ifneB (tgt := 25) hx hb dX7_addSpare_20 (by decide) (fun c_20 => ?_) (fun c_20 => absurd c_20 (by decide))
    refine lv_aload_n hx hb dX7_addSpare_25 rfl (lv_at hl 0 rfl) ?_
    refine q_wV0 (As := []) (rest := []) (st1 := []) ⟨hx, hb, hml, hown, hts⟩ (c_X7_save D cy A b σ saved many bef T len 0 at_ le f1 f2 dn hs Z (by omega)) (cwV 0 hts gX7_addSpare_X7_save rfl rfl rfl hd_X7_save ⟨Nat.le_of_ble_eq_true rfl, Nat.le_of_ble_eq_true rfl⟩) hK hA hw 0 rfl rfl rfl hl.1 rfl rfl (Nat.le_of_ble_eq_true rfl) ⟨Nat.zero_le _, Nat.zero_le _⟩ dX7_addSpare_26 (fun H locs hw => ?_)
    have hw : wS D A (wM cy b (mS σ) (svS saved many (mS σ)) (min (many + 1) 6) bef T len 0 at_ le f1 f2 dn hs ++ Z) s H locs := hw
    have hP := hw.1
    refine lv_aload_n hx hb dX7_addSpare_29 rfl (lv_at hl 0 rfl) ?_
    refine va_get (D := D) (ci := 7) (v := .ref (b 1)) (C := RX7) (T := TX7) (N := 13) hx hb hts (fun _ h => List.mem_cons_of_mem _ (List.mem_append_right _ h)) hown hK hP 0 rfl rfl 0 (by decide) (hts (.fieldLink RX7 7 "SpreadParityModel" "s" "[I") (List.mem_of_getElem? (i := 1) rfl)) (fun _ h9 => h9) rfl dX7_addSpare_30 ?_
    refine lv_bipush (v := nI 84) hx hb dX7_addSpare_33 rfl ?_
    refine lv_dup2_11 hx hb dX7_addSpare_35 rfl rfl ?_
    refine q_iald hx hb hK hP 1 rfl (by omega) (by omega) dX7_addSpare_36 ?_
    refine q_top (show ((mS σ) (84)) = σ (84) from mS_c _ (by omega)) ?_
    refine lv_iconst (v := nI 1) hx hb dX7_addSpare_37 rfl ?_
    refine lv_iadd hx hb dX7_addSpare_38 ?_
    refine q_iast hx hb hK hw 1 rfl (by omega) (by omega) dX7_addSpare_39 (fun H locs hw => ?_)
    have hw : wS D A (wM cy b (upd (mS σ) (84) ((σ (84)) + 1)) (svS saved many (mS σ)) (min (many + 1) 6) bef T len 0 at_ le f1 f2 dn hs ++ Z) s H locs := hw
    have hP := hw.1
    have e_m39 : upd (mS σ) (84) ((σ (84)) + 1) = mS (upd σ (84) ((σ (84)) + 1)) := mS_wc _ _ (by omega)
    rw [e_m39] at hw
    have hP := hw.1
    refine lv_aload_n hx hb dX7_addSpare_40 rfl (lv_at hl 0 rfl) ?_
    refine va_get (D := D) (ci := 7) (v := .ref (b 1)) (C := RX7) (T := TX7) (N := 13) hx hb hts (fun _ h => List.mem_cons_of_mem _ (List.mem_append_right _ h)) hown hK hP 0 rfl rfl 0 (by decide) (hts (.fieldLink RX7 7 "SpreadParityModel" "s" "[I") (List.mem_of_getElem? (i := 1) rfl)) (fun _ h9 => h9) rfl dX7_addSpare_41 ?_
    refine lv_bipush (v := nI 84) hx hb dX7_addSpare_44 rfl ?_
    refine q_iald hx hb hK hP 1 rfl (by omega) (by omega) dX7_addSpare_46 ?_
    refine q_top (show ((mS (upd σ (84) ((σ (84)) + 1))) (84)) = (upd σ (84) ((σ (84)) + 1)) (84) from mS_c _ (by omega)) ?_
    refine q_top (show ((upd σ (84) ((σ (84)) + 1)) (84)) = σ 84 + 1 from upd_eq _ _ _) ?_
    have e_c : cAs σ = 0 := by rw [cAs, if_neg c_9]
    have e_s : upd σ (84) ((σ (84)) + 1) = upd σ 84 (σ 84 + 1) := by rfl
    rw [e_s] at hw
    have hw : wS D A (wM cy b (mS (if cAs σ = 0 then upd σ 84 (σ 84 + 1) else σ)) (if cAs σ = 0 then svS saved many (mS σ) else saved) (if cAs σ = 0 then min (many + 1) 6 else many) bef T len (cAs σ) at_ le f1 f2 dn hs ++ Z) s H locs := by rw [e_c]; exact hw
    exact q_iretW hx hb hr hlocks hw dX7_addSpare_47 (by rw [e_c]; rfl)
  · refine lv_iconst (v := nI 1) hx hb dX7_addSpare_12 rfl ?_
    refine lv_goto (tgt := 17) hx hb dX7_addSpare_13 (by decide) ?_
    refine q_wV0 (As := [.int (nI (1))]) (rest := []) (st1 := [.int (bI (decide (1 = 0)))]) ⟨hx, hb, hml, hown, hts⟩ (c_X7_holds D cy A b σ saved many bef T len thr at_ le f1 f2 dn hs Z (1) (by omega)) (cwV 1 hts gX7_addSpare_X7_holds rfl rfl rfl hd_X7_holds ⟨Nat.le_of_ble_eq_true rfl, Nat.le_of_ble_eq_true rfl⟩) hK hA hw 0 rfl rfl rfl hl.1 rfl rfl (Nat.le_of_ble_eq_true rfl) ⟨Nat.zero_le _, Nat.zero_le _⟩ dX7_addSpare_17 (fun H locs hw => ?_)
    have hw : wS D A (wM cy b (mS σ) saved many bef T len 1 at_ le f1 f2 dn hs ++ Z) s H locs := hw
    have hP := hw.1
    refine q_ifneB (tgt := 25) hx hb dX7_addSpare_20 (by decide) (fun c_20 => absurd c_20 (by decide)) (fun c_20 => ?_)
    refine lv_iconst (v := nI 0) hx hb dX7_addSpare_23 rfl ?_
    have e_c : cAs σ = 1 := by rw [cAs, if_pos c_9]
    have hw : wS D A (wM cy b (mS (if cAs σ = 0 then upd σ 84 (σ 84 + 1) else σ)) (if cAs σ = 0 then svS saved many (mS σ) else saved) (if cAs σ = 0 then min (many + 1) 6 else many) bef T len (cAs σ) at_ le f1 f2 dn hs ++ Z) s H locs := by rw [e_c]; exact hw
    exact q_iretW hx hb hr hlocks hw dX7_addSpare_24 (by rw [e_c]; rfl)
set_option maxHeartbeats 1000000 in
set_option maxRecDepth 100000 in
theorem c_X7_corrupt {l : Launch} (D : va_G) (cy : ClassId) (A : Nat → Prop) (b : Nat → Nat) (σ saved : Nat → Int32) (many : Nat) (bef T : Nat → Int32) (len thr at_ : Nat) (le f1 f2 : Int32) (dn : Nat) (hs : Int64) (Z : va_W) (d : Int32) (q : Int32) (v : Int32) (h_0 : many ≤ 6) : Met l yX7_corrupt wsX7_corrupt (k2_rm 2 45) (gP D cy [.ref (b 0), .int (d), .int (q), .int (v)] A (wM cy b (mS σ) saved many bef T len thr at_ le f1 f2 dn hs ++ Z)) (gQ D A (some (.int (if cCo σ d q v = 0 then σ (9 * ix d + ix q) else 0))) (wM cy b (mS (if cCo σ d q v = 0 then upd σ (9 * ix d + ix q) v else σ)) (if cCo σ d q v = 0 then svS saved many (mS σ) else saved) (if cCo σ d q v = 0 then min (many + 1) 6 else many) bef T len (cCo σ d q v) at_ le f1 f2 dn hs ++ Z)) 0 0 A := by
  refine q_imp (cc := cX7_corrupt) (maxL := 6) (ret := (some .int)) pl_X7 rfl (Nat.le_of_ble_eq_true rfl) ?_
  intro p e s m below meth c ls hx hb hr hml hts hown hlocks hw hK hA hl
  have hP := hw.1
  have hl : lv_has ls 6 [(0, .ref (b 0)), (1, .int (d)), (2, .int (q)), (3, .int (v))] := hl
  refine lv_iload_n hx hb dX7_corrupt_0 rfl (lv_at hl 1 rfl) ?_
  refine q_cS (As := [.int (d)]) (rest := []) (w := []) ⟨hx, hb, hml, hown, hts⟩ (c_X7_isDisc D cy (d)) (va_cwS 1 hts gX7_corrupt_X7_isDisc rfl rfl rfl hd_X7_isDisc ⟨Nat.le_of_ble_eq_true rfl, Nat.le_of_ble_eq_true rfl⟩) hK q_Pnil rfl hl.1 rfl (Nat.le_of_ble_eq_true rfl) ⟨Nat.zero_le _, Nat.zero_le _⟩ dX7_corrupt_1 ?_
  refine q_ifeqB (tgt := 18) hx hb dX7_corrupt_4 (by decide) (fun c_4 => ?_) (fun c_4 => ?_)
  · refine lv_iconst (v := nI 0) hx hb dX7_corrupt_18 rfl ?_
    refine lv_istore (lv' := [(4, .int (nI (0))), (0, .ref (b 0)), (1, .int (d)), (2, .int (q)), (3, .int (v))]) hx hb dX7_corrupt_19 hl (by decide) rfl (fun ls hl => ?_)
    refine lv_aload_n hx hb dX7_corrupt_21 rfl (lv_at hl 1 rfl) ?_
    refine lv_iload hx hb dX7_corrupt_22 (lv_at hl 0 rfl) ?_
    refine q_ifneN (tgt := 31) hx hb dX7_corrupt_24 (by decide) (by omega) (fun c_24 => absurd c_24 (by omega)) (fun c_24 => ?_)
    refine lv_iconst (v := nI 1) hx hb dX7_corrupt_27 rfl ?_
    refine lv_goto (tgt := 63) hx hb dX7_corrupt_28 (by decide) ?_
    refine q_wV0 (As := [.int (nI (1))]) (rest := []) (st1 := [.int (bI (decide (1 = 0)))]) ⟨hx, hb, hml, hown, hts⟩ (c_X7_holds D cy A b σ saved many bef T len thr at_ le f1 f2 dn hs Z (1) (by omega)) (cwV 1 hts gX7_corrupt_X7_holds rfl rfl rfl hd_X7_holds ⟨Nat.le_of_ble_eq_true rfl, Nat.le_of_ble_eq_true rfl⟩) hK hA hw 0 rfl rfl rfl hl.1 rfl rfl (Nat.le_of_ble_eq_true rfl) ⟨Nat.zero_le _, Nat.zero_le _⟩ dX7_corrupt_63 (fun H locs hw => ?_)
    have hw : wS D A (wM cy b (mS σ) saved many bef T len 1 at_ le f1 f2 dn hs ++ Z) s H locs := hw
    have hP := hw.1
    refine q_ifneB (tgt := 71) hx hb dX7_corrupt_66 (by decide) (fun c_66 => absurd c_66 (by decide)) (fun c_66 => ?_)
    refine lv_iconst (v := nI 0) hx hb dX7_corrupt_69 rfl ?_
    have e_c : cCo σ d q v = 1 := by rw [cCo, if_neg (by rw [c_4]; simp)]
    have hw : wS D A (wM cy b (mS (if cCo σ d q v = 0 then upd σ (9 * ix d + ix q) v else σ)) (if cCo σ d q v = 0 then svS saved many (mS σ) else saved) (if cCo σ d q v = 0 then min (many + 1) 6 else many) bef T len (cCo σ d q v) at_ le f1 f2 dn hs ++ Z) s H locs := by rw [e_c]; exact hw
    exact q_iretW hx hb hr hlocks hw dX7_corrupt_70 (by rw [e_c]; rfl)
  · refine lv_iload_n hx hb dX7_corrupt_7 rfl (lv_at hl 2 rfl) ?_
    refine q_cS (As := [.int (q)]) (rest := []) (w := []) ⟨hx, hb, hml, hown, hts⟩ (c_X7_isPlace D cy (q)) (va_cwS 1 hts gX7_corrupt_X7_isPlace rfl rfl rfl hd_X7_isPlace ⟨Nat.le_of_ble_eq_true rfl, Nat.le_of_ble_eq_true rfl⟩) hK q_Pnil rfl hl.1 rfl (Nat.le_of_ble_eq_true rfl) ⟨Nat.zero_le _, Nat.zero_le _⟩ dX7_corrupt_8 ?_
    refine q_ifeqB (tgt := 18) hx hb dX7_corrupt_11 (by decide) (fun c_11 => ?_) (fun c_11 => ?_)
    · refine lv_iconst (v := nI 0) hx hb dX7_corrupt_18 rfl ?_
      refine lv_istore (lv' := [(4, .int (nI (0))), (0, .ref (b 0)), (1, .int (d)), (2, .int (q)), (3, .int (v))]) hx hb dX7_corrupt_19 hl (by decide) rfl (fun ls hl => ?_)
      refine lv_aload_n hx hb dX7_corrupt_21 rfl (lv_at hl 1 rfl) ?_
      refine lv_iload hx hb dX7_corrupt_22 (lv_at hl 0 rfl) ?_
      refine q_ifneN (tgt := 31) hx hb dX7_corrupt_24 (by decide) (by omega) (fun c_24 => absurd c_24 (by omega)) (fun c_24 => ?_)
      refine lv_iconst (v := nI 1) hx hb dX7_corrupt_27 rfl ?_
      refine lv_goto (tgt := 63) hx hb dX7_corrupt_28 (by decide) ?_
      refine q_wV0 (As := [.int (nI (1))]) (rest := []) (st1 := [.int (bI (decide (1 = 0)))]) ⟨hx, hb, hml, hown, hts⟩ (c_X7_holds D cy A b σ saved many bef T len thr at_ le f1 f2 dn hs Z (1) (by omega)) (cwV 1 hts gX7_corrupt_X7_holds rfl rfl rfl hd_X7_holds ⟨Nat.le_of_ble_eq_true rfl, Nat.le_of_ble_eq_true rfl⟩) hK hA hw 0 rfl rfl rfl hl.1 rfl rfl (Nat.le_of_ble_eq_true rfl) ⟨Nat.zero_le _, Nat.zero_le _⟩ dX7_corrupt_63 (fun H locs hw => ?_)
      have hw : wS D A (wM cy b (mS σ) saved many bef T len 1 at_ le f1 f2 dn hs ++ Z) s H locs := hw
      have hP := hw.1
      refine q_ifneB (tgt := 71) hx hb dX7_corrupt_66 (by decide) (fun c_66 => absurd c_66 (by decide)) (fun c_66 => ?_)
      refine lv_iconst (v := nI 0) hx hb dX7_corrupt_69 rfl ?_
      have e_c : cCo σ d q v = 1 := by rw [cCo, if_neg (by rw [c_11]; simp)]
      have hw : wS D A (wM cy b (mS (if cCo σ d q v = 0 then upd σ (9 * ix d + ix q) v else σ)) (if cCo σ d q v = 0 then svS saved many (mS σ) else saved) (if cCo σ d q v = 0 then min (many + 1) 6 else many) bef T len (cCo σ d q v) at_ le f1 f2 dn hs ++ Z) s H locs := by rw [e_c]; exact hw
      exact q_iretW hx hb hr hlocks hw dX7_corrupt_70 (by rw [e_c]; rfl)
    · refine lv_iconst (v := nI 1) hx hb dX7_corrupt_14 rfl ?_
      refine lv_goto (tgt := 19) hx hb dX7_corrupt_15 (by decide) ?_
      refine lv_istore (lv' := [(4, .int (nI (1))), (0, .ref (b 0)), (1, .int (d)), (2, .int (q)), (3, .int (v))]) hx hb dX7_corrupt_19 hl (by decide) rfl (fun ls hl => ?_)
      refine lv_aload_n hx hb dX7_corrupt_21 rfl (lv_at hl 1 rfl) ?_
      refine lv_iload hx hb dX7_corrupt_22 (lv_at hl 0 rfl) ?_
      refine q_ifneN (tgt := 31) hx hb dX7_corrupt_24 (by decide) (by omega) (fun c_24 => ?_) (fun c_24 => absurd c_24 (by omega))
      obtain ⟨i, h_i, e_i⟩ := inR_nI c_4
      have x_i : ix d = i := by rw [e_i]; exact nI_clamp (by omega)
      have hl : lv_has ls 6 [(4, .int (nI (1))), (0, .ref (b 0)), (1, .int (nI (i))), (2, .int (q)), (3, .int (v))] := by rw [← e_i]; exact hl
      obtain ⟨j, h_j, e_j⟩ := inR_nI c_11
      have x_j : ix q = j := by rw [e_j]; exact nI_clamp (by omega)
      have hl : lv_has ls 6 [(4, .int (nI (1))), (0, .ref (b 0)), (1, .int (nI (i))), (2, .int (nI (j))), (3, .int (v))] := by rw [← e_j]; exact hl
      refine lv_iload_n hx hb dX7_corrupt_31 rfl (lv_at hl 4 rfl) ?_
      refine lv_iconst (v := nI 0) hx hb dX7_corrupt_32 rfl ?_
      refine lv_ldc (v  := nI 65535) hx hb hown (hts (.constant RX7 105 (65535)) (List.mem_of_getElem? (i := 1) rfl)) dX7_corrupt_33 ?_
      refine q_cS (As := [.int (v), .int (nI (0)), .int (nI (65535))]) (rest := [.ref (b 0)]) (w := []) ⟨hx, hb, hml, hown, hts⟩ (c_X7_in D cy (v) (0) (65535)) (va_cwS 3 hts gX7_corrupt_X7_in rfl rfl rfl hd_X7_in ⟨Nat.le_of_ble_eq_true rfl, Nat.le_of_ble_eq_true rfl⟩) hK q_Pnil rfl hl.1 rfl (Nat.le_of_ble_eq_true rfl) ⟨Nat.zero_le _, Nat.zero_le _⟩ dX7_corrupt_35 ?_
      refine q_top (show (bI (inB v 0 65535)) = bI (inR v 65536) from congrArg bI (inB_R (by omega))) ?_
      refine q_ifneB (tgt := 45) hx hb dX7_corrupt_38 (by decide) (fun c_38 => ?_) (fun c_38 => ?_)
      · refine lv_aload_n hx hb dX7_corrupt_45 rfl (lv_at hl 1 rfl) ?_
        refine lv_bipush (v := nI 9) hx hb dX7_corrupt_46 rfl ?_
        refine lv_iload_n hx hb dX7_corrupt_48 rfl (lv_at hl 2 rfl) ?_
        refine q_mulN hx hb dX7_corrupt_49 ?_
        refine lv_iload_n hx hb dX7_corrupt_50 rfl (lv_at hl 3 rfl) ?_
        refine q_addN hx hb dX7_corrupt_51 ?_
        refine q_cV (As := [.int (nI ((9 * i) + j))]) (rest := [.ref (b 0)]) ⟨hx, hb, hml, hown, hts⟩ (c_X7_isUnit D cy b σ saved many bef T len thr at_ le f1 f2 dn hs Z ((9 * i) + j) (by omega)) (cwV 1 hts gX7_corrupt_X7_isUnit rfl rfl rfl hd_X7_isUnit ⟨Nat.le_of_ble_eq_true rfl, Nat.le_of_ble_eq_true rfl⟩) hK hP 0 rfl rfl rfl hl.1 rfl (Nat.le_of_ble_eq_true rfl) ⟨Nat.zero_le _, Nat.zero_le _⟩ dX7_corrupt_52 ?_
        refine q_ifeqB (tgt := 62) hx hb dX7_corrupt_55 (by decide) (fun c_55 => ?_) (fun c_55 => ?_)
        · refine lv_iconst (v := nI 3) hx hb dX7_corrupt_62 rfl ?_
          refine q_wV0 (As := [.int (nI (3))]) (rest := []) (st1 := [.int (bI (decide (3 = 0)))]) ⟨hx, hb, hml, hown, hts⟩ (c_X7_holds D cy A b σ saved many bef T len thr at_ le f1 f2 dn hs Z (3) (by omega)) (cwV 1 hts gX7_corrupt_X7_holds rfl rfl rfl hd_X7_holds ⟨Nat.le_of_ble_eq_true rfl, Nat.le_of_ble_eq_true rfl⟩) hK hA hw 0 rfl rfl rfl hl.1 rfl rfl (Nat.le_of_ble_eq_true rfl) ⟨Nat.zero_le _, Nat.zero_le _⟩ dX7_corrupt_63 (fun H locs hw => ?_)
          have hw : wS D A (wM cy b (mS σ) saved many bef T len 3 at_ le f1 f2 dn hs ++ Z) s H locs := hw
          have hP := hw.1
          refine q_ifneB (tgt := 71) hx hb dX7_corrupt_66 (by decide) (fun c_66 => absurd c_66 (by decide)) (fun c_66 => ?_)
          refine lv_iconst (v := nI 0) hx hb dX7_corrupt_69 rfl ?_
          have e_c : cCo σ d q v = 3 := by rw [cCo, if_pos (by rw [c_4, c_11]; rfl), if_pos c_38, x_i, x_j, if_neg (by rw [c_55]; decide)]
          have hw : wS D A (wM cy b (mS (if cCo σ d q v = 0 then upd σ (9 * ix d + ix q) v else σ)) (if cCo σ d q v = 0 then svS saved many (mS σ) else saved) (if cCo σ d q v = 0 then min (many + 1) 6 else many) bef T len (cCo σ d q v) at_ le f1 f2 dn hs ++ Z) s H locs := by rw [e_c]; exact hw
          exact q_iretW hx hb hr hlocks hw dX7_corrupt_70 (by rw [e_c]; rfl)
        · refine lv_iconst (v := nI 0) hx hb dX7_corrupt_58 rfl ?_
          refine lv_goto (tgt := 63) hx hb dX7_corrupt_59 (by decide) ?_
          refine q_wV0 (As := [.int (nI (0))]) (rest := []) (st1 := [.int (bI (decide (0 = 0)))]) ⟨hx, hb, hml, hown, hts⟩ (c_X7_holds D cy A b σ saved many bef T len thr at_ le f1 f2 dn hs Z (0) (by omega)) (cwV 1 hts gX7_corrupt_X7_holds rfl rfl rfl hd_X7_holds ⟨Nat.le_of_ble_eq_true rfl, Nat.le_of_ble_eq_true rfl⟩) hK hA hw 0 rfl rfl rfl hl.1 rfl rfl (Nat.le_of_ble_eq_true rfl) ⟨Nat.zero_le _, Nat.zero_le _⟩ dX7_corrupt_63 (fun H locs hw => ?_)
          have hw : wS D A (wM cy b (mS σ) saved many bef T len 0 at_ le f1 f2 dn hs ++ Z) s H locs := hw
          have hP := hw.1
          refine q_ifneB (tgt := 71) hx hb dX7_corrupt_66 (by decide) (fun c_66 => ?_) (fun c_66 => absurd c_66 (by decide))
          refine lv_aload_n hx hb dX7_corrupt_71 rfl (lv_at hl 1 rfl) ?_
          refine q_wV0 (As := []) (rest := []) (st1 := []) ⟨hx, hb, hml, hown, hts⟩ (c_X7_save D cy A b σ saved many bef T len 0 at_ le f1 f2 dn hs Z (by omega)) (cwV 0 hts gX7_corrupt_X7_save rfl rfl rfl hd_X7_save ⟨Nat.le_of_ble_eq_true rfl, Nat.le_of_ble_eq_true rfl⟩) hK hA hw 0 rfl rfl rfl hl.1 rfl rfl (Nat.le_of_ble_eq_true rfl) ⟨Nat.zero_le _, Nat.zero_le _⟩ dX7_corrupt_72 (fun H locs hw => ?_)
          have hw : wS D A (wM cy b (mS σ) (svS saved many (mS σ)) (min (many + 1) 6) bef T len 0 at_ le f1 f2 dn hs ++ Z) s H locs := hw
          have hP := hw.1
          refine lv_aload_n hx hb dX7_corrupt_75 rfl (lv_at hl 1 rfl) ?_
          refine va_get (D := D) (ci := 7) (v := .ref (b 1)) (C := RX7) (T := TX7) (N := 13) hx hb hts (fun _ h => List.mem_cons_of_mem _ (List.mem_append_right _ h)) hown hK hP 0 rfl rfl 0 (by decide) (hts (.fieldLink RX7 7 "SpreadParityModel" "s" "[I") (List.mem_of_getElem? (i := 2) rfl)) (fun _ h9 => h9) rfl dX7_corrupt_76 ?_
          refine lv_bipush (v := nI 7) hx hb dX7_corrupt_79 rfl ?_
          refine lv_bipush (v := nI 9) hx hb dX7_corrupt_81 rfl ?_
          refine lv_iload_n hx hb dX7_corrupt_83 rfl (lv_at hl 2 rfl) ?_
          refine q_mulN hx hb dX7_corrupt_84 ?_
          refine q_addN hx hb dX7_corrupt_85 ?_
          refine lv_iload_n hx hb dX7_corrupt_86 rfl (lv_at hl 3 rfl) ?_
          refine q_addN hx hb dX7_corrupt_87 ?_
          refine q_top (show (nI ((7 + (9 * i)) + j)) = nI (7 + (9 * i + j)) from congrArg nI (by omega)) ?_
          refine q_iald hx hb hK hP 1 rfl (by omega) (by omega) dX7_corrupt_88 ?_
          refine q_top (show ((mS σ) (7 + (9 * i + j))) = σ (9 * i + j) from mS_u _ (by omega)) ?_
          refine lv_istore (lv' := [(5, .int (σ (9 * i + j))), (4, .int (nI (1))), (0, .ref (b 0)), (1, .int (nI (i))), (2, .int (nI (j))), (3, .int (v))]) hx hb dX7_corrupt_89 hl (by decide) rfl (fun ls hl => ?_)
          refine lv_aload_n hx hb dX7_corrupt_91 rfl (lv_at hl 2 rfl) ?_
          refine va_get (D := D) (ci := 7) (v := .ref (b 1)) (C := RX7) (T := TX7) (N := 13) hx hb hts (fun _ h => List.mem_cons_of_mem _ (List.mem_append_right _ h)) hown hK hP 0 rfl rfl 0 (by decide) (hts (.fieldLink RX7 7 "SpreadParityModel" "s" "[I") (List.mem_of_getElem? (i := 2) rfl)) (fun _ h9 => h9) rfl dX7_corrupt_92 ?_
          refine lv_bipush (v := nI 7) hx hb dX7_corrupt_95 rfl ?_
          refine lv_bipush (v := nI 9) hx hb dX7_corrupt_97 rfl ?_
          refine lv_iload_n hx hb dX7_corrupt_99 rfl (lv_at hl 3 rfl) ?_
          refine q_mulN hx hb dX7_corrupt_100 ?_
          refine q_addN hx hb dX7_corrupt_101 ?_
          refine lv_iload_n hx hb dX7_corrupt_102 rfl (lv_at hl 4 rfl) ?_
          refine q_addN hx hb dX7_corrupt_103 ?_
          refine q_top (show (nI ((7 + (9 * i)) + j)) = nI (7 + (9 * i + j)) from congrArg nI (by omega)) ?_
          refine lv_iload_n hx hb dX7_corrupt_104 rfl (lv_at hl 5 rfl) ?_
          refine q_iast hx hb hK hw 1 rfl (by omega) (by omega) dX7_corrupt_105 (fun H locs hw => ?_)
          have hw : wS D A (wM cy b (upd (mS σ) (7 + (9 * i + j)) (v)) (svS saved many (mS σ)) (min (many + 1) 6) bef T len 0 at_ le f1 f2 dn hs ++ Z) s H locs := hw
          have hP := hw.1
          have e_m105 : upd (mS σ) (7 + (9 * i + j)) (v) = mS (upd σ (9 * i + j) (v)) := mS_wu _ _ (by omega)
          rw [e_m105] at hw
          have hP := hw.1
          refine lv_iload hx hb dX7_corrupt_106 (lv_at hl 0 rfl) ?_
          have e_c : cCo σ d q v = 0 := by rw [cCo, if_pos (by rw [c_4, c_11]; rfl), if_pos c_38, x_i, x_j, if_pos c_55]
          have e_s : upd σ (9 * i + j) (v) = upd σ (9 * ix d + ix q) v := by rw [x_i, x_j]
          rw [e_s] at hw
          have hw : wS D A (wM cy b (mS (if cCo σ d q v = 0 then upd σ (9 * ix d + ix q) v else σ)) (if cCo σ d q v = 0 then svS saved many (mS σ) else saved) (if cCo σ d q v = 0 then min (many + 1) 6 else many) bef T len (cCo σ d q v) at_ le f1 f2 dn hs ++ Z) s H locs := by rw [e_c]; exact hw
          exact q_iretW hx hb hr hlocks hw dX7_corrupt_108 (by rw [e_c]; rw [if_pos rfl, x_i, x_j])
      · refine lv_iconst (v := nI 2) hx hb dX7_corrupt_41 rfl ?_
        refine lv_goto (tgt := 63) hx hb dX7_corrupt_42 (by decide) ?_
        refine q_wV0 (As := [.int (nI (2))]) (rest := []) (st1 := [.int (bI (decide (2 = 0)))]) ⟨hx, hb, hml, hown, hts⟩ (c_X7_holds D cy A b σ saved many bef T len thr at_ le f1 f2 dn hs Z (2) (by omega)) (cwV 1 hts gX7_corrupt_X7_holds rfl rfl rfl hd_X7_holds ⟨Nat.le_of_ble_eq_true rfl, Nat.le_of_ble_eq_true rfl⟩) hK hA hw 0 rfl rfl rfl hl.1 rfl rfl (Nat.le_of_ble_eq_true rfl) ⟨Nat.zero_le _, Nat.zero_le _⟩ dX7_corrupt_63 (fun H locs hw => ?_)
        have hw : wS D A (wM cy b (mS σ) saved many bef T len 2 at_ le f1 f2 dn hs ++ Z) s H locs := hw
        have hP := hw.1
        refine q_ifneB (tgt := 71) hx hb dX7_corrupt_66 (by decide) (fun c_66 => absurd c_66 (by decide)) (fun c_66 => ?_)
        refine lv_iconst (v := nI 0) hx hb dX7_corrupt_69 rfl ?_
        have e_c : cCo σ d q v = 2 := by rw [cCo, if_pos (by rw [c_4, c_11]; rfl), if_neg (by rw [c_38]; decide)]
        have hw : wS D A (wM cy b (mS (if cCo σ d q v = 0 then upd σ (9 * ix d + ix q) v else σ)) (if cCo σ d q v = 0 then svS saved many (mS σ) else saved) (if cCo σ d q v = 0 then min (many + 1) 6 else many) bef T len (cCo σ d q v) at_ le f1 f2 dn hs ++ Z) s H locs := by rw [e_c]; exact hw
        exact q_iretW hx hb hr hlocks hw dX7_corrupt_70 (by rw [e_c]; rfl)
set_option maxHeartbeats 1000000 in
set_option maxRecDepth 100000 in
theorem c_X7_scrub {l : Launch} (D : va_G) (cy : ClassId) (A : Nat → Prop) (b : Nat → Nat) (σ saved : Nat → Int32) (many : Nat) (bef T : Nat → Int32) (len thr at_ : Nat) (le f1 f2 : Int32) (dn : Nat) (hs : Int64) (Z : va_W) (h_0 : many ≤ 6) : Met l yX7_scrub wsX7_scrub (k2_rm 7 154) (gP D cy [.ref (b 0)] A (wM cy b (mS σ) saved many bef T len thr at_ le f1 f2 dn hs ++ Z)) (gQ D A (some (.int (nI (scC σ 21)))) (wM cy b (mS (scS σ 21)) (svS saved many (mS σ)) (min (many + 1) 6) bef T len 0 at_ le f1 f2 dn hs ++ Z)) 0 0 A := by
  refine q_imp (cc := cX7_scrub) (maxL := 1) (ret := (some .int)) pl_X7 rfl (Nat.le_of_ble_eq_true rfl) ?_
  intro p e s m below meth c ls hx hb hr hml hts hown hlocks hw hK hA hl
  have hP := hw.1
  have hl : lv_has ls 1 [(0, .ref (b 0))] := hl
  refine lv_aload_n hx hb dX7_scrub_0 rfl (lv_at hl 0 rfl) ?_
  refine lv_iconst (v := nI 0) hx hb dX7_scrub_1 rfl ?_
  refine va_put (D := D) (ci := 7) (v := .int (nI (0))) (ty := .int) (C := RX7) (T := TX7) (N := 13) hx hb hts (fun _ h => List.mem_cons_of_mem _ (List.mem_append_right _ h)) tyX7 tyX7_ok nmX7 hown hK hw.1 hw.2.1 hw.2.2 0 rfl rfl 6 (by decide) (hts (.fieldLink RX7 22 "SpreadParityModel" "thrown" "I") (List.mem_of_getElem? (i := 1) rfl)) (fun _ h9 => h9) rfl (tyX7_ok 6 (by decide)) rfl rfl (Nat.le_of_ble_eq_true rfl) dX7_scrub_2 (fun H locs hP hD hS => ?_)
  have hw : wS D A (wM cy b (mS σ) saved many bef T len 0 at_ le f1 f2 dn hs ++ Z) s H locs := ⟨hP, hD, hS⟩
  refine lv_aload_n hx hb dX7_scrub_5 rfl (lv_at hl 0 rfl) ?_
  refine q_wV0 (As := []) (rest := []) (st1 := []) ⟨hx, hb, hml, hown, hts⟩ (c_X7_save D cy A b σ saved many bef T len 0 at_ le f1 f2 dn hs Z (by omega)) (cwV 0 hts gX7_scrub_X7_save rfl rfl rfl hd_X7_save ⟨Nat.le_of_ble_eq_true rfl, Nat.le_of_ble_eq_true rfl⟩) hK hA hw 0 rfl rfl rfl hl.1 rfl rfl (Nat.le_of_ble_eq_true rfl) ⟨Nat.zero_le _, Nat.zero_le _⟩ dX7_scrub_6 (fun H locs hw => ?_)
  have hw : wS D A (wM cy b (mS σ) (svS saved many (mS σ)) (min (many + 1) 6) bef T len 0 at_ le f1 f2 dn hs ++ Z) s H locs := hw
  have hP := hw.1
  refine lv_aload_n hx hb dX7_scrub_9 rfl (lv_at hl 0 rfl) ?_
  refine q_wV0 (As := []) (rest := []) (st1 := [.int (nI (scC σ 21))]) ⟨hx, hb, hml, hown, hts⟩ (c_X7_doScrub D cy A b σ (svS saved many (mS σ)) (min (many + 1) 6) bef T len 0 at_ le f1 f2 dn hs Z ) (cwV 0 hts gX7_scrub_X7_doScrub rfl rfl rfl hd_X7_doScrub ⟨Nat.le_of_ble_eq_true rfl, Nat.le_of_ble_eq_true rfl⟩) hK hA hw 0 rfl rfl rfl hl.1 rfl rfl (Nat.le_of_ble_eq_true rfl) ⟨Nat.zero_le _, Nat.zero_le _⟩ dX7_scrub_10 (fun H locs hw => ?_)
  have hw : wS D A (wM cy b (mS (scS σ 21)) (svS saved many (mS σ)) (min (many + 1) 6) bef T len 0 at_ le f1 f2 dn hs ++ Z) s H locs := hw
  have hP := hw.1
  exact q_iretW hx hb hr hlocks hw dX7_scrub_13 (rfl)
set_option maxHeartbeats 1000000 in
set_option maxRecDepth 100000 in
theorem c_X7_state {l : Launch} (D : va_G) (cy : ClassId) (A : Nat → Prop) (b : Nat → Nat) (σ saved : Nat → Int32) (many : Nat) (bef T : Nat → Int32) (len thr at_ : Nat) (le f1 f2 : Int32) (dn : Nat) (hs : Int64) (Z : va_W) (x : Int32) : Met l yX7_state wsX7_state (k2_rm 2 42) (gP D cy [.ref (b 0), .int (x)] A (wM cy b (mS σ) saved many bef T len thr at_ le f1 f2 dn hs ++ Z)) (gQ D A (some (.int (if c1 x 7 = 0 then σ (63 + ix x) else 0))) (wM cy b (mS σ) saved many bef T len (c1 x 7) at_ le f1 f2 dn hs ++ Z)) 0 0 A := by
  refine q_imp (cc := cX7_state) (maxL := 2) (ret := (some .int)) pl_X7 rfl (Nat.le_of_ble_eq_true rfl) ?_
  intro p e s m below meth c ls hx hb hr hml hts hown hlocks hw hK hA hl
  have hP := hw.1
  have hl : lv_has ls 2 [(0, .ref (b 0)), (1, .int (x))] := hl
  refine lv_aload_n hx hb dX7_state_0 rfl (lv_at hl 0 rfl) ?_
  refine lv_iload_n hx hb dX7_state_1 rfl (lv_at hl 1 rfl) ?_
  refine q_cS (As := [.int (x)]) (rest := [.ref (b 0)]) (w := []) ⟨hx, hb, hml, hown, hts⟩ (c_X7_isDisc D cy (x)) (va_cwS 1 hts gX7_state_X7_isDisc rfl rfl rfl hd_X7_isDisc ⟨Nat.le_of_ble_eq_true rfl, Nat.le_of_ble_eq_true rfl⟩) hK q_Pnil rfl hl.1 rfl (Nat.le_of_ble_eq_true rfl) ⟨Nat.zero_le _, Nat.zero_le _⟩ dX7_state_2 ?_
  refine q_ifeqB (tgt := 12) hx hb dX7_state_5 (by decide) (fun c_5 => ?_) (fun c_5 => ?_)
  · refine lv_iconst (v := nI 1) hx hb dX7_state_12 rfl ?_
    refine q_wV0 (As := [.int (nI (1))]) (rest := []) (st1 := [.int (bI (decide (1 = 0)))]) ⟨hx, hb, hml, hown, hts⟩ (c_X7_holds D cy A b σ saved many bef T len thr at_ le f1 f2 dn hs Z (1) (by omega)) (cwV 1 hts gX7_state_X7_holds rfl rfl rfl hd_X7_holds ⟨Nat.le_of_ble_eq_true rfl, Nat.le_of_ble_eq_true rfl⟩) hK hA hw 0 rfl rfl rfl hl.1 rfl rfl (Nat.le_of_ble_eq_true rfl) ⟨Nat.zero_le _, Nat.zero_le _⟩ dX7_state_13 (fun H locs hw => ?_)
    have hw : wS D A (wM cy b (mS σ) saved many bef T len 1 at_ le f1 f2 dn hs ++ Z) s H locs := hw
    have hP := hw.1
    refine q_ifeqB (tgt := 30) hx hb dX7_state_16 (by decide) (fun c_16 => ?_) (fun c_16 => absurd c_16 (by decide))
    refine lv_iconst (v := nI 0) hx hb dX7_state_30 rfl ?_
    have e_c : c1 x 7 = 1 := by rw [c1, if_neg (by rw [c_5]; decide)]
    have hw : wS D A (wM cy b (mS σ) saved many bef T len (c1 x 7) at_ le f1 f2 dn hs ++ Z) s H locs := by rw [e_c]; exact hw
    exact q_iretW hx hb hr hlocks hw dX7_state_31 (by rw [e_c]; rfl)
  · refine lv_iconst (v := nI 0) hx hb dX7_state_8 rfl ?_
    refine lv_goto (tgt := 13) hx hb dX7_state_9 (by decide) ?_
    refine q_wV0 (As := [.int (nI (0))]) (rest := []) (st1 := [.int (bI (decide (0 = 0)))]) ⟨hx, hb, hml, hown, hts⟩ (c_X7_holds D cy A b σ saved many bef T len thr at_ le f1 f2 dn hs Z (0) (by omega)) (cwV 1 hts gX7_state_X7_holds rfl rfl rfl hd_X7_holds ⟨Nat.le_of_ble_eq_true rfl, Nat.le_of_ble_eq_true rfl⟩) hK hA hw 0 rfl rfl rfl hl.1 rfl rfl (Nat.le_of_ble_eq_true rfl) ⟨Nat.zero_le _, Nat.zero_le _⟩ dX7_state_13 (fun H locs hw => ?_)
    have hw : wS D A (wM cy b (mS σ) saved many bef T len 0 at_ le f1 f2 dn hs ++ Z) s H locs := hw
    have hP := hw.1
    refine q_ifeqB (tgt := 30) hx hb dX7_state_16 (by decide) (fun c_16 => absurd c_16 (by decide)) (fun c_16 => ?_)
    obtain ⟨j, h_j, e_j⟩ := inR_nI c_5
    have x_j : ix x = j := by rw [e_j]; exact nI_clamp (by omega)
    have hl : lv_has ls 2 [(0, .ref (b 0)), (1, .int (nI (j)))] := by rw [← e_j]; exact hl
    refine lv_aload_n hx hb dX7_state_19 rfl (lv_at hl 0 rfl) ?_
    refine va_get (D := D) (ci := 7) (v := .ref (b 1)) (C := RX7) (T := TX7) (N := 13) hx hb hts (fun _ h => List.mem_cons_of_mem _ (List.mem_append_right _ h)) hown hK hP 0 rfl rfl 0 (by decide) (hts (.fieldLink RX7 7 "SpreadParityModel" "s" "[I") (List.mem_of_getElem? (i := 1) rfl)) (fun _ h9 => h9) rfl dX7_state_20 ?_
    refine lv_iconst (v := nI 0) hx hb dX7_state_23 rfl ?_
    refine lv_iload_n hx hb dX7_state_24 rfl (lv_at hl 1 rfl) ?_
    refine q_addN hx hb dX7_state_25 ?_
    refine q_iald hx hb hK hP 1 rfl (by omega) (by omega) dX7_state_26 ?_
    refine q_top (show ((mS σ) (0 + j)) = σ (63 + j) from mS_p _ (by omega)) ?_
    refine lv_goto (tgt := 31) hx hb dX7_state_27 (by decide) ?_
    have e_c : c1 x 7 = 0 := by rw [c1, if_pos c_5]
    have hw : wS D A (wM cy b (mS σ) saved many bef T len (c1 x 7) at_ le f1 f2 dn hs ++ Z) s H locs := by rw [e_c]; exact hw
    exact q_iretW hx hb hr hlocks hw dX7_state_31 (by rw [e_c]; rw [if_pos rfl, x_j])
set_option maxHeartbeats 1000000 in
set_option maxRecDepth 100000 in
theorem c_X7_reads {l : Launch} (D : va_G) (cy : ClassId) (A : Nat → Prop) (b : Nat → Nat) (σ saved : Nat → Int32) (many : Nat) (bef T : Nat → Int32) (len thr at_ : Nat) (le f1 f2 : Int32) (dn : Nat) (hs : Int64) (Z : va_W) (x : Int32) : Met l yX7_reads wsX7_reads (k2_rm 2 42) (gP D cy [.ref (b 0), .int (x)] A (wM cy b (mS σ) saved many bef T len thr at_ le f1 f2 dn hs ++ Z)) (gQ D A (some (.int (if c1 x 7 = 0 then σ (70 + ix x) else 0))) (wM cy b (mS σ) saved many bef T len (c1 x 7) at_ le f1 f2 dn hs ++ Z)) 0 0 A := by
  refine q_imp (cc := cX7_reads) (maxL := 2) (ret := (some .int)) pl_X7 rfl (Nat.le_of_ble_eq_true rfl) ?_
  intro p e s m below meth c ls hx hb hr hml hts hown hlocks hw hK hA hl
  have hP := hw.1
  have hl : lv_has ls 2 [(0, .ref (b 0)), (1, .int (x))] := hl
  refine lv_aload_n hx hb dX7_reads_0 rfl (lv_at hl 0 rfl) ?_
  refine lv_iload_n hx hb dX7_reads_1 rfl (lv_at hl 1 rfl) ?_
  refine q_cS (As := [.int (x)]) (rest := [.ref (b 0)]) (w := []) ⟨hx, hb, hml, hown, hts⟩ (c_X7_isDisc D cy (x)) (va_cwS 1 hts gX7_reads_X7_isDisc rfl rfl rfl hd_X7_isDisc ⟨Nat.le_of_ble_eq_true rfl, Nat.le_of_ble_eq_true rfl⟩) hK q_Pnil rfl hl.1 rfl (Nat.le_of_ble_eq_true rfl) ⟨Nat.zero_le _, Nat.zero_le _⟩ dX7_reads_2 ?_
  refine q_ifeqB (tgt := 12) hx hb dX7_reads_5 (by decide) (fun c_5 => ?_) (fun c_5 => ?_)
  · refine lv_iconst (v := nI 1) hx hb dX7_reads_12 rfl ?_
    refine q_wV0 (As := [.int (nI (1))]) (rest := []) (st1 := [.int (bI (decide (1 = 0)))]) ⟨hx, hb, hml, hown, hts⟩ (c_X7_holds D cy A b σ saved many bef T len thr at_ le f1 f2 dn hs Z (1) (by omega)) (cwV 1 hts gX7_reads_X7_holds rfl rfl rfl hd_X7_holds ⟨Nat.le_of_ble_eq_true rfl, Nat.le_of_ble_eq_true rfl⟩) hK hA hw 0 rfl rfl rfl hl.1 rfl rfl (Nat.le_of_ble_eq_true rfl) ⟨Nat.zero_le _, Nat.zero_le _⟩ dX7_reads_13 (fun H locs hw => ?_)
    have hw : wS D A (wM cy b (mS σ) saved many bef T len 1 at_ le f1 f2 dn hs ++ Z) s H locs := hw
    have hP := hw.1
    refine q_ifeqB (tgt := 31) hx hb dX7_reads_16 (by decide) (fun c_16 => ?_) (fun c_16 => absurd c_16 (by decide))
    refine lv_iconst (v := nI 0) hx hb dX7_reads_31 rfl ?_
    have e_c : c1 x 7 = 1 := by rw [c1, if_neg (by rw [c_5]; decide)]
    have hw : wS D A (wM cy b (mS σ) saved many bef T len (c1 x 7) at_ le f1 f2 dn hs ++ Z) s H locs := by rw [e_c]; exact hw
    exact q_iretW hx hb hr hlocks hw dX7_reads_32 (by rw [e_c]; rfl)
  · refine lv_iconst (v := nI 0) hx hb dX7_reads_8 rfl ?_
    refine lv_goto (tgt := 13) hx hb dX7_reads_9 (by decide) ?_
    refine q_wV0 (As := [.int (nI (0))]) (rest := []) (st1 := [.int (bI (decide (0 = 0)))]) ⟨hx, hb, hml, hown, hts⟩ (c_X7_holds D cy A b σ saved many bef T len thr at_ le f1 f2 dn hs Z (0) (by omega)) (cwV 1 hts gX7_reads_X7_holds rfl rfl rfl hd_X7_holds ⟨Nat.le_of_ble_eq_true rfl, Nat.le_of_ble_eq_true rfl⟩) hK hA hw 0 rfl rfl rfl hl.1 rfl rfl (Nat.le_of_ble_eq_true rfl) ⟨Nat.zero_le _, Nat.zero_le _⟩ dX7_reads_13 (fun H locs hw => ?_)
    have hw : wS D A (wM cy b (mS σ) saved many bef T len 0 at_ le f1 f2 dn hs ++ Z) s H locs := hw
    have hP := hw.1
    refine q_ifeqB (tgt := 31) hx hb dX7_reads_16 (by decide) (fun c_16 => absurd c_16 (by decide)) (fun c_16 => ?_)
    obtain ⟨j, h_j, e_j⟩ := inR_nI c_5
    have x_j : ix x = j := by rw [e_j]; exact nI_clamp (by omega)
    have hl : lv_has ls 2 [(0, .ref (b 0)), (1, .int (nI (j)))] := by rw [← e_j]; exact hl
    refine lv_aload_n hx hb dX7_reads_19 rfl (lv_at hl 0 rfl) ?_
    refine va_get (D := D) (ci := 7) (v := .ref (b 1)) (C := RX7) (T := TX7) (N := 13) hx hb hts (fun _ h => List.mem_cons_of_mem _ (List.mem_append_right _ h)) hown hK hP 0 rfl rfl 0 (by decide) (hts (.fieldLink RX7 7 "SpreadParityModel" "s" "[I") (List.mem_of_getElem? (i := 1) rfl)) (fun _ h9 => h9) rfl dX7_reads_20 ?_
    refine lv_bipush (v := nI 70) hx hb dX7_reads_23 rfl ?_
    refine lv_iload_n hx hb dX7_reads_25 rfl (lv_at hl 1 rfl) ?_
    refine q_addN hx hb dX7_reads_26 ?_
    refine q_iald hx hb hK hP 1 rfl (by omega) (by omega) dX7_reads_27 ?_
    refine q_top (show ((mS σ) (70 + j)) = σ (70 + j) from mS_c _ (by omega)) ?_
    refine lv_goto (tgt := 32) hx hb dX7_reads_28 (by decide) ?_
    have e_c : c1 x 7 = 0 := by rw [c1, if_pos c_5]
    have hw : wS D A (wM cy b (mS σ) saved many bef T len (c1 x 7) at_ le f1 f2 dn hs ++ Z) s H locs := by rw [e_c]; exact hw
    exact q_iretW hx hb hr hlocks hw dX7_reads_32 (by rw [e_c]; rw [if_pos rfl, x_j])
set_option maxHeartbeats 1000000 in
set_option maxRecDepth 100000 in
theorem c_X7_writes {l : Launch} (D : va_G) (cy : ClassId) (A : Nat → Prop) (b : Nat → Nat) (σ saved : Nat → Int32) (many : Nat) (bef T : Nat → Int32) (len thr at_ : Nat) (le f1 f2 : Int32) (dn : Nat) (hs : Int64) (Z : va_W) (x : Int32) : Met l yX7_writes wsX7_writes (k2_rm 2 42) (gP D cy [.ref (b 0), .int (x)] A (wM cy b (mS σ) saved many bef T len thr at_ le f1 f2 dn hs ++ Z)) (gQ D A (some (.int (if c1 x 7 = 0 then σ (77 + ix x) else 0))) (wM cy b (mS σ) saved many bef T len (c1 x 7) at_ le f1 f2 dn hs ++ Z)) 0 0 A := by
  refine q_imp (cc := cX7_writes) (maxL := 2) (ret := (some .int)) pl_X7 rfl (Nat.le_of_ble_eq_true rfl) ?_
  intro p e s m below meth c ls hx hb hr hml hts hown hlocks hw hK hA hl
  have hP := hw.1
  have hl : lv_has ls 2 [(0, .ref (b 0)), (1, .int (x))] := hl
  refine lv_aload_n hx hb dX7_writes_0 rfl (lv_at hl 0 rfl) ?_
  refine lv_iload_n hx hb dX7_writes_1 rfl (lv_at hl 1 rfl) ?_
  refine q_cS (As := [.int (x)]) (rest := [.ref (b 0)]) (w := []) ⟨hx, hb, hml, hown, hts⟩ (c_X7_isDisc D cy (x)) (va_cwS 1 hts gX7_writes_X7_isDisc rfl rfl rfl hd_X7_isDisc ⟨Nat.le_of_ble_eq_true rfl, Nat.le_of_ble_eq_true rfl⟩) hK q_Pnil rfl hl.1 rfl (Nat.le_of_ble_eq_true rfl) ⟨Nat.zero_le _, Nat.zero_le _⟩ dX7_writes_2 ?_
  refine q_ifeqB (tgt := 12) hx hb dX7_writes_5 (by decide) (fun c_5 => ?_) (fun c_5 => ?_)
  · refine lv_iconst (v := nI 1) hx hb dX7_writes_12 rfl ?_
    refine q_wV0 (As := [.int (nI (1))]) (rest := []) (st1 := [.int (bI (decide (1 = 0)))]) ⟨hx, hb, hml, hown, hts⟩ (c_X7_holds D cy A b σ saved many bef T len thr at_ le f1 f2 dn hs Z (1) (by omega)) (cwV 1 hts gX7_writes_X7_holds rfl rfl rfl hd_X7_holds ⟨Nat.le_of_ble_eq_true rfl, Nat.le_of_ble_eq_true rfl⟩) hK hA hw 0 rfl rfl rfl hl.1 rfl rfl (Nat.le_of_ble_eq_true rfl) ⟨Nat.zero_le _, Nat.zero_le _⟩ dX7_writes_13 (fun H locs hw => ?_)
    have hw : wS D A (wM cy b (mS σ) saved many bef T len 1 at_ le f1 f2 dn hs ++ Z) s H locs := hw
    have hP := hw.1
    refine q_ifeqB (tgt := 31) hx hb dX7_writes_16 (by decide) (fun c_16 => ?_) (fun c_16 => absurd c_16 (by decide))
    refine lv_iconst (v := nI 0) hx hb dX7_writes_31 rfl ?_
    have e_c : c1 x 7 = 1 := by rw [c1, if_neg (by rw [c_5]; decide)]
    have hw : wS D A (wM cy b (mS σ) saved many bef T len (c1 x 7) at_ le f1 f2 dn hs ++ Z) s H locs := by rw [e_c]; exact hw
    exact q_iretW hx hb hr hlocks hw dX7_writes_32 (by rw [e_c]; rfl)
  · refine lv_iconst (v := nI 0) hx hb dX7_writes_8 rfl ?_
    refine lv_goto (tgt := 13) hx hb dX7_writes_9 (by decide) ?_
    refine q_wV0 (As := [.int (nI (0))]) (rest := []) (st1 := [.int (bI (decide (0 = 0)))]) ⟨hx, hb, hml, hown, hts⟩ (c_X7_holds D cy A b σ saved many bef T len thr at_ le f1 f2 dn hs Z (0) (by omega)) (cwV 1 hts gX7_writes_X7_holds rfl rfl rfl hd_X7_holds ⟨Nat.le_of_ble_eq_true rfl, Nat.le_of_ble_eq_true rfl⟩) hK hA hw 0 rfl rfl rfl hl.1 rfl rfl (Nat.le_of_ble_eq_true rfl) ⟨Nat.zero_le _, Nat.zero_le _⟩ dX7_writes_13 (fun H locs hw => ?_)
    have hw : wS D A (wM cy b (mS σ) saved many bef T len 0 at_ le f1 f2 dn hs ++ Z) s H locs := hw
    have hP := hw.1
    refine q_ifeqB (tgt := 31) hx hb dX7_writes_16 (by decide) (fun c_16 => absurd c_16 (by decide)) (fun c_16 => ?_)
    obtain ⟨j, h_j, e_j⟩ := inR_nI c_5
    have x_j : ix x = j := by rw [e_j]; exact nI_clamp (by omega)
    have hl : lv_has ls 2 [(0, .ref (b 0)), (1, .int (nI (j)))] := by rw [← e_j]; exact hl
    refine lv_aload_n hx hb dX7_writes_19 rfl (lv_at hl 0 rfl) ?_
    refine va_get (D := D) (ci := 7) (v := .ref (b 1)) (C := RX7) (T := TX7) (N := 13) hx hb hts (fun _ h => List.mem_cons_of_mem _ (List.mem_append_right _ h)) hown hK hP 0 rfl rfl 0 (by decide) (hts (.fieldLink RX7 7 "SpreadParityModel" "s" "[I") (List.mem_of_getElem? (i := 1) rfl)) (fun _ h9 => h9) rfl dX7_writes_20 ?_
    refine lv_bipush (v := nI 77) hx hb dX7_writes_23 rfl ?_
    refine lv_iload_n hx hb dX7_writes_25 rfl (lv_at hl 1 rfl) ?_
    refine q_addN hx hb dX7_writes_26 ?_
    refine q_iald hx hb hK hP 1 rfl (by omega) (by omega) dX7_writes_27 ?_
    refine q_top (show ((mS σ) (77 + j)) = σ (77 + j) from mS_c _ (by omega)) ?_
    refine lv_goto (tgt := 32) hx hb dX7_writes_28 (by decide) ?_
    have e_c : c1 x 7 = 0 := by rw [c1, if_pos c_5]
    have hw : wS D A (wM cy b (mS σ) saved many bef T len (c1 x 7) at_ le f1 f2 dn hs ++ Z) s H locs := by rw [e_c]; exact hw
    exact q_iretW hx hb hr hlocks hw dX7_writes_32 (by rw [e_c]; rw [if_pos rfl, x_j])
set_option maxHeartbeats 1000000 in
set_option maxRecDepth 100000 in
theorem c_X7_peek {l : Launch} (D : va_G) (cy : ClassId) (A : Nat → Prop) (b : Nat → Nat) (σ saved : Nat → Int32) (many : Nat) (bef T : Nat → Int32) (len thr at_ : Nat) (le f1 f2 : Int32) (dn : Nat) (hs : Int64) (Z : va_W) (x : Int32) : Met l yX7_peek wsX7_peek (k2_rm 6 134) (gP D cy [.ref (b 0), .int (x)] A (wM cy b (mS σ) saved many bef T len thr at_ le f1 f2 dn hs ++ Z)) (gQ D A (some (.int (if c1 x 42 = 0 then kn σ (ad (ix x)) else 0))) (wM cy b (mS σ) saved many bef T len (c1 x 42) at_ le f1 f2 dn hs ++ Z)) 0 0 A := by
  refine q_imp (cc := cX7_peek) (maxL := 2) (ret := (some .int)) pl_X7 rfl (Nat.le_of_ble_eq_true rfl) ?_
  intro p e s m below meth c ls hx hb hr hml hts hown hlocks hw hK hA hl
  have hP := hw.1
  have hl : lv_has ls 2 [(0, .ref (b 0)), (1, .int (x))] := hl
  refine lv_aload_n hx hb dX7_peek_0 rfl (lv_at hl 0 rfl) ?_
  refine lv_iload_n hx hb dX7_peek_1 rfl (lv_at hl 1 rfl) ?_
  refine q_cS (As := [.int (x)]) (rest := [.ref (b 0)]) (w := []) ⟨hx, hb, hml, hown, hts⟩ (c_X7_isAddress D cy (x)) (va_cwS 1 hts gX7_peek_X7_isAddress rfl rfl rfl hd_X7_isAddress ⟨Nat.le_of_ble_eq_true rfl, Nat.le_of_ble_eq_true rfl⟩) hK q_Pnil rfl hl.1 rfl (Nat.le_of_ble_eq_true rfl) ⟨Nat.zero_le _, Nat.zero_le _⟩ dX7_peek_2 ?_
  refine q_ifeqB (tgt := 12) hx hb dX7_peek_5 (by decide) (fun c_5 => ?_) (fun c_5 => ?_)
  · refine lv_iconst (v := nI 1) hx hb dX7_peek_12 rfl ?_
    refine q_wV0 (As := [.int (nI (1))]) (rest := []) (st1 := [.int (bI (decide (1 = 0)))]) ⟨hx, hb, hml, hown, hts⟩ (c_X7_holds D cy A b σ saved many bef T len thr at_ le f1 f2 dn hs Z (1) (by omega)) (cwV 1 hts gX7_peek_X7_holds rfl rfl rfl hd_X7_holds ⟨Nat.le_of_ble_eq_true rfl, Nat.le_of_ble_eq_true rfl⟩) hK hA hw 0 rfl rfl rfl hl.1 rfl rfl (Nat.le_of_ble_eq_true rfl) ⟨Nat.zero_le _, Nat.zero_le _⟩ dX7_peek_13 (fun H locs hw => ?_)
    have hw : wS D A (wM cy b (mS σ) saved many bef T len 1 at_ le f1 f2 dn hs ++ Z) s H locs := hw
    have hP := hw.1
    refine q_ifeqB (tgt := 32) hx hb dX7_peek_16 (by decide) (fun c_16 => ?_) (fun c_16 => absurd c_16 (by decide))
    refine lv_iconst (v := nI 0) hx hb dX7_peek_32 rfl ?_
    have e_c : c1 x 42 = 1 := by rw [c1, if_neg (by rw [c_5]; decide)]
    have hw : wS D A (wM cy b (mS σ) saved many bef T len (c1 x 42) at_ le f1 f2 dn hs ++ Z) s H locs := by rw [e_c]; exact hw
    exact q_iretW hx hb hr hlocks hw dX7_peek_33 (by rw [e_c]; rfl)
  · refine lv_iconst (v := nI 0) hx hb dX7_peek_8 rfl ?_
    refine lv_goto (tgt := 13) hx hb dX7_peek_9 (by decide) ?_
    refine q_wV0 (As := [.int (nI (0))]) (rest := []) (st1 := [.int (bI (decide (0 = 0)))]) ⟨hx, hb, hml, hown, hts⟩ (c_X7_holds D cy A b σ saved many bef T len thr at_ le f1 f2 dn hs Z (0) (by omega)) (cwV 1 hts gX7_peek_X7_holds rfl rfl rfl hd_X7_holds ⟨Nat.le_of_ble_eq_true rfl, Nat.le_of_ble_eq_true rfl⟩) hK hA hw 0 rfl rfl rfl hl.1 rfl rfl (Nat.le_of_ble_eq_true rfl) ⟨Nat.zero_le _, Nat.zero_le _⟩ dX7_peek_13 (fun H locs hw => ?_)
    have hw : wS D A (wM cy b (mS σ) saved many bef T len 0 at_ le f1 f2 dn hs ++ Z) s H locs := hw
    have hP := hw.1
    refine q_ifeqB (tgt := 32) hx hb dX7_peek_16 (by decide) (fun c_16 => absurd c_16 (by decide)) (fun c_16 => ?_)
    obtain ⟨j, h_j, e_j⟩ := inR_nI c_5
    have x_j : ix x = j := by rw [e_j]; exact nI_clamp (by omega)
    have hl : lv_has ls 2 [(0, .ref (b 0)), (1, .int (nI (j)))] := by rw [← e_j]; exact hl
    refine lv_aload_n hx hb dX7_peek_19 rfl (lv_at hl 0 rfl) ?_
    refine lv_iload_n hx hb dX7_peek_20 rfl (lv_at hl 1 rfl) ?_
    refine lv_iconst (v := nI 2) hx hb dX7_peek_21 rfl ?_
    refine q_divN hx hb dX7_peek_22 (by omega) (by omega) (by omega) ?_
    refine lv_iload_n hx hb dX7_peek_23 rfl (lv_at hl 1 rfl) ?_
    refine lv_iconst (v := nI 2) hx hb dX7_peek_24 rfl ?_
    refine q_remN hx hb dX7_peek_25 (by omega) (by omega) (by omega) ?_
    refine q_cV (As := [.int (nI (j / 2)), .int (nI (j % 2))]) (rest := []) ⟨hx, hb, hml, hown, hts⟩ (c_X7_look D cy b σ saved many bef T len 0 at_ le f1 f2 dn hs Z (j / 2) (j % 2) (by omega) (by omega)) (cwV 2 hts gX7_peek_X7_look rfl rfl rfl hd_X7_look ⟨Nat.le_of_ble_eq_true rfl, Nat.le_of_ble_eq_true rfl⟩) hK hP 0 rfl rfl rfl hl.1 rfl (Nat.le_of_ble_eq_true rfl) ⟨Nat.zero_le _, Nat.zero_le _⟩ dX7_peek_26 ?_
    refine q_top (show (kn σ (spT (3 * (j / 2) + (j % 2)))) = kn σ (ad j) from rfl) ?_
    refine lv_goto (tgt := 33) hx hb dX7_peek_29 (by decide) ?_
    have e_c : c1 x 42 = 0 := by rw [c1, if_pos c_5]
    have hw : wS D A (wM cy b (mS σ) saved many bef T len (c1 x 42) at_ le f1 f2 dn hs ++ Z) s H locs := by rw [e_c]; exact hw
    exact q_iretW hx hb hr hlocks hw dX7_peek_33 (by rw [e_c]; rw [if_pos rfl, x_j])
set_option maxHeartbeats 1000000 in
set_option maxRecDepth 100000 in
theorem c_X7_member {l : Launch} (D : va_G) (cy : ClassId) (A : Nat → Prop) (b : Nat → Nat) (σ saved : Nat → Int32) (many : Nat) (bef T : Nat → Int32) (len thr at_ : Nat) (le f1 f2 : Int32) (dn : Nat) (hs : Int64) (Z : va_W) (x : Int32) (y : Int32) : Met l yX7_member wsX7_member (k2_rm 2 42) (gP D cy [.ref (b 0), .int (x), .int (y)] A (wM cy b (mS σ) saved many bef T len thr at_ le f1 f2 dn hs ++ Z)) (gQ D A (some (.int (nI (if c2 x 21 y 3 = 0 then mem (ix x) (ix y) else 0)))) (wM cy b (mS σ) saved many bef T len (c2 x 21 y 3) at_ le f1 f2 dn hs ++ Z)) 0 0 A := by
  refine q_imp (cc := cX7_member) (maxL := 3) (ret := (some .int)) pl_X7 rfl (Nat.le_of_ble_eq_true rfl) ?_
  intro p e s m below meth c ls hx hb hr hml hts hown hlocks hw hK hA hl
  have hP := hw.1
  have hl : lv_has ls 3 [(0, .ref (b 0)), (1, .int (x)), (2, .int (y))] := hl
  refine lv_aload_n hx hb dX7_member_0 rfl (lv_at hl 0 rfl) ?_
  refine lv_iload_n hx hb dX7_member_1 rfl (lv_at hl 1 rfl) ?_
  refine q_cS (As := [.int (x)]) (rest := [.ref (b 0)]) (w := []) ⟨hx, hb, hml, hown, hts⟩ (c_X7_isStripe D cy (x)) (va_cwS 1 hts gX7_member_X7_isStripe rfl rfl rfl hd_X7_isStripe ⟨Nat.le_of_ble_eq_true rfl, Nat.le_of_ble_eq_true rfl⟩) hK q_Pnil rfl hl.1 rfl (Nat.le_of_ble_eq_true rfl) ⟨Nat.zero_le _, Nat.zero_le _⟩ dX7_member_2 ?_
  refine q_ifeqB (tgt := 21) hx hb dX7_member_5 (by decide) (fun c_5 => ?_) (fun c_5 => ?_)
  · refine lv_iconst (v := nI 1) hx hb dX7_member_21 rfl ?_
    refine q_wV0 (As := [.int (nI (1))]) (rest := []) (st1 := [.int (bI (decide (1 = 0)))]) ⟨hx, hb, hml, hown, hts⟩ (c_X7_holds D cy A b σ saved many bef T len thr at_ le f1 f2 dn hs Z (1) (by omega)) (cwV 1 hts gX7_member_X7_holds rfl rfl rfl hd_X7_holds ⟨Nat.le_of_ble_eq_true rfl, Nat.le_of_ble_eq_true rfl⟩) hK hA hw 0 rfl rfl rfl hl.1 rfl rfl (Nat.le_of_ble_eq_true rfl) ⟨Nat.zero_le _, Nat.zero_le _⟩ dX7_member_22 (fun H locs hw => ?_)
    have hw : wS D A (wM cy b (mS σ) saved many bef T len 1 at_ le f1 f2 dn hs ++ Z) s H locs := hw
    have hP := hw.1
    refine q_ifeqB (tgt := 36) hx hb dX7_member_25 (by decide) (fun c_25 => ?_) (fun c_25 => absurd c_25 (by decide))
    refine lv_iconst (v := nI 0) hx hb dX7_member_36 rfl ?_
    have e_c : c2 x 21 y 3 = 1 := by rw [c2, if_neg (by rw [c_5]; simp)]
    have hw : wS D A (wM cy b (mS σ) saved many bef T len (c2 x 21 y 3) at_ le f1 f2 dn hs ++ Z) s H locs := by rw [e_c]; exact hw
    exact q_iretW hx hb hr hlocks hw dX7_member_37 (by rw [e_c]; rfl)
  · refine lv_iload_n hx hb dX7_member_8 rfl (lv_at hl 2 rfl) ?_
    refine lv_iconst (v := nI 0) hx hb dX7_member_9 rfl ?_
    refine lv_iconst (v := nI 2) hx hb dX7_member_10 rfl ?_
    refine q_cS (As := [.int (y), .int (nI (0)), .int (nI (2))]) (rest := [.ref (b 0)]) (w := []) ⟨hx, hb, hml, hown, hts⟩ (c_X7_in D cy (y) (0) (2)) (va_cwS 3 hts gX7_member_X7_in rfl rfl rfl hd_X7_in ⟨Nat.le_of_ble_eq_true rfl, Nat.le_of_ble_eq_true rfl⟩) hK q_Pnil rfl hl.1 rfl (Nat.le_of_ble_eq_true rfl) ⟨Nat.zero_le _, Nat.zero_le _⟩ dX7_member_11 ?_
    refine q_top (show (bI (inB y 0 2)) = bI (inR y 3) from congrArg bI (inB_R (by omega))) ?_
    refine q_ifeqB (tgt := 21) hx hb dX7_member_14 (by decide) (fun c_14 => ?_) (fun c_14 => ?_)
    · refine lv_iconst (v := nI 1) hx hb dX7_member_21 rfl ?_
      refine q_wV0 (As := [.int (nI (1))]) (rest := []) (st1 := [.int (bI (decide (1 = 0)))]) ⟨hx, hb, hml, hown, hts⟩ (c_X7_holds D cy A b σ saved many bef T len thr at_ le f1 f2 dn hs Z (1) (by omega)) (cwV 1 hts gX7_member_X7_holds rfl rfl rfl hd_X7_holds ⟨Nat.le_of_ble_eq_true rfl, Nat.le_of_ble_eq_true rfl⟩) hK hA hw 0 rfl rfl rfl hl.1 rfl rfl (Nat.le_of_ble_eq_true rfl) ⟨Nat.zero_le _, Nat.zero_le _⟩ dX7_member_22 (fun H locs hw => ?_)
      have hw : wS D A (wM cy b (mS σ) saved many bef T len 1 at_ le f1 f2 dn hs ++ Z) s H locs := hw
      have hP := hw.1
      refine q_ifeqB (tgt := 36) hx hb dX7_member_25 (by decide) (fun c_25 => ?_) (fun c_25 => absurd c_25 (by decide))
      refine lv_iconst (v := nI 0) hx hb dX7_member_36 rfl ?_
      have e_c : c2 x 21 y 3 = 1 := by rw [c2, if_neg (by rw [c_14]; simp)]
      have hw : wS D A (wM cy b (mS σ) saved many bef T len (c2 x 21 y 3) at_ le f1 f2 dn hs ++ Z) s H locs := by rw [e_c]; exact hw
      exact q_iretW hx hb hr hlocks hw dX7_member_37 (by rw [e_c]; rfl)
    · refine lv_iconst (v := nI 0) hx hb dX7_member_17 rfl ?_
      refine lv_goto (tgt := 22) hx hb dX7_member_18 (by decide) ?_
      refine q_wV0 (As := [.int (nI (0))]) (rest := []) (st1 := [.int (bI (decide (0 = 0)))]) ⟨hx, hb, hml, hown, hts⟩ (c_X7_holds D cy A b σ saved many bef T len thr at_ le f1 f2 dn hs Z (0) (by omega)) (cwV 1 hts gX7_member_X7_holds rfl rfl rfl hd_X7_holds ⟨Nat.le_of_ble_eq_true rfl, Nat.le_of_ble_eq_true rfl⟩) hK hA hw 0 rfl rfl rfl hl.1 rfl rfl (Nat.le_of_ble_eq_true rfl) ⟨Nat.zero_le _, Nat.zero_le _⟩ dX7_member_22 (fun H locs hw => ?_)
      have hw : wS D A (wM cy b (mS σ) saved many bef T len 0 at_ le f1 f2 dn hs ++ Z) s H locs := hw
      have hP := hw.1
      refine q_ifeqB (tgt := 36) hx hb dX7_member_25 (by decide) (fun c_25 => absurd c_25 (by decide)) (fun c_25 => ?_)
      obtain ⟨i, h_i, e_i⟩ := inR_nI c_5
      have x_i : ix x = i := by rw [e_i]; exact nI_clamp (by omega)
      have hl : lv_has ls 3 [(0, .ref (b 0)), (1, .int (nI (i))), (2, .int (y))] := by rw [← e_i]; exact hl
      obtain ⟨j, h_j, e_j⟩ := inR_nI c_14
      have x_j : ix y = j := by rw [e_j]; exact nI_clamp (by omega)
      have hl : lv_has ls 3 [(0, .ref (b 0)), (1, .int (nI (i))), (2, .int (nI (j)))] := by rw [← e_j]; exact hl
      refine lv_iload_n hx hb dX7_member_28 rfl (lv_at hl 1 rfl) ?_
      refine lv_iload_n hx hb dX7_member_29 rfl (lv_at hl 2 rfl) ?_
      refine q_cS (As := [.int (nI (i)), .int (nI (j))]) (rest := []) (w := []) ⟨hx, hb, hml, hown, hts⟩ (c_X7_memberOf D cy (i) (j) (by omega) (by omega)) (va_cwS 2 hts gX7_member_X7_memberOf rfl rfl rfl hd_X7_memberOf ⟨Nat.le_of_ble_eq_true rfl, Nat.le_of_ble_eq_true rfl⟩) hK q_Pnil rfl hl.1 rfl (Nat.le_of_ble_eq_true rfl) ⟨Nat.zero_le _, Nat.zero_le _⟩ dX7_member_30 ?_
      refine lv_goto (tgt := 37) hx hb dX7_member_33 (by decide) ?_
      have e_c : c2 x 21 y 3 = 0 := by rw [c2, if_pos (by rw [c_5, c_14]; rfl)]
      have hw : wS D A (wM cy b (mS σ) saved many bef T len (c2 x 21 y 3) at_ le f1 f2 dn hs ++ Z) s H locs := by rw [e_c]; exact hw
      exact q_iretW hx hb hr hlocks hw dX7_member_37 (by rw [e_c]; rw [if_pos rfl, x_i, x_j])
set_option maxHeartbeats 1000000 in
set_option maxRecDepth 100000 in
theorem c_X7_stripeAt {l : Launch} (D : va_G) (cy : ClassId) (A : Nat → Prop) (b : Nat → Nat) (σ saved : Nat → Int32) (many : Nat) (bef T : Nat → Int32) (len thr at_ : Nat) (le f1 f2 : Int32) (dn : Nat) (hs : Int64) (Z : va_W) (x : Int32) (y : Int32) : Met l yX7_stripeAt wsX7_stripeAt (k2_rm 3 65) (gP D cy [.ref (b 0), .int (x), .int (y)] A (wM cy b (mS σ) saved many bef T len thr at_ le f1 f2 dn hs ++ Z)) (gQ D A (some (.int (nI (if c2 x 7 y 9 = 0 then stT (9 * ix x + ix y) else 0)))) (wM cy b (mS σ) saved many bef T len (c2 x 7 y 9) at_ le f1 f2 dn hs ++ Z)) 0 0 A := by
  refine q_imp (cc := cX7_stripeAt) (maxL := 3) (ret := (some .int)) pl_X7 rfl (Nat.le_of_ble_eq_true rfl) ?_
  intro p e s m below meth c ls hx hb hr hml hts hown hlocks hw hK hA hl
  have hP := hw.1
  have hl : lv_has ls 3 [(0, .ref (b 0)), (1, .int (x)), (2, .int (y))] := hl
  refine lv_aload_n hx hb dX7_stripeAt_0 rfl (lv_at hl 0 rfl) ?_
  refine lv_iload_n hx hb dX7_stripeAt_1 rfl (lv_at hl 1 rfl) ?_
  refine q_cS (As := [.int (x)]) (rest := [.ref (b 0)]) (w := []) ⟨hx, hb, hml, hown, hts⟩ (c_X7_isDisc D cy (x)) (va_cwS 1 hts gX7_stripeAt_X7_isDisc rfl rfl rfl hd_X7_isDisc ⟨Nat.le_of_ble_eq_true rfl, Nat.le_of_ble_eq_true rfl⟩) hK q_Pnil rfl hl.1 rfl (Nat.le_of_ble_eq_true rfl) ⟨Nat.zero_le _, Nat.zero_le _⟩ dX7_stripeAt_2 ?_
  refine q_ifeqB (tgt := 19) hx hb dX7_stripeAt_5 (by decide) (fun c_5 => ?_) (fun c_5 => ?_)
  · refine lv_iconst (v := nI 1) hx hb dX7_stripeAt_19 rfl ?_
    refine q_wV0 (As := [.int (nI (1))]) (rest := []) (st1 := [.int (bI (decide (1 = 0)))]) ⟨hx, hb, hml, hown, hts⟩ (c_X7_holds D cy A b σ saved many bef T len thr at_ le f1 f2 dn hs Z (1) (by omega)) (cwV 1 hts gX7_stripeAt_X7_holds rfl rfl rfl hd_X7_holds ⟨Nat.le_of_ble_eq_true rfl, Nat.le_of_ble_eq_true rfl⟩) hK hA hw 0 rfl rfl rfl hl.1 rfl rfl (Nat.le_of_ble_eq_true rfl) ⟨Nat.zero_le _, Nat.zero_le _⟩ dX7_stripeAt_20 (fun H locs hw => ?_)
    have hw : wS D A (wM cy b (mS σ) saved many bef T len 1 at_ le f1 f2 dn hs ++ Z) s H locs := hw
    have hP := hw.1
    refine q_ifeqB (tgt := 34) hx hb dX7_stripeAt_23 (by decide) (fun c_23 => ?_) (fun c_23 => absurd c_23 (by decide))
    refine lv_iconst (v := nI 0) hx hb dX7_stripeAt_34 rfl ?_
    have e_c : c2 x 7 y 9 = 1 := by rw [c2, if_neg (by rw [c_5]; simp)]
    have hw : wS D A (wM cy b (mS σ) saved many bef T len (c2 x 7 y 9) at_ le f1 f2 dn hs ++ Z) s H locs := by rw [e_c]; exact hw
    exact q_iretW hx hb hr hlocks hw dX7_stripeAt_35 (by rw [e_c]; rfl)
  · refine lv_iload_n hx hb dX7_stripeAt_8 rfl (lv_at hl 2 rfl) ?_
    refine q_cS (As := [.int (y)]) (rest := [.ref (b 0)]) (w := []) ⟨hx, hb, hml, hown, hts⟩ (c_X7_isPlace D cy (y)) (va_cwS 1 hts gX7_stripeAt_X7_isPlace rfl rfl rfl hd_X7_isPlace ⟨Nat.le_of_ble_eq_true rfl, Nat.le_of_ble_eq_true rfl⟩) hK q_Pnil rfl hl.1 rfl (Nat.le_of_ble_eq_true rfl) ⟨Nat.zero_le _, Nat.zero_le _⟩ dX7_stripeAt_9 ?_
    refine q_ifeqB (tgt := 19) hx hb dX7_stripeAt_12 (by decide) (fun c_12 => ?_) (fun c_12 => ?_)
    · refine lv_iconst (v := nI 1) hx hb dX7_stripeAt_19 rfl ?_
      refine q_wV0 (As := [.int (nI (1))]) (rest := []) (st1 := [.int (bI (decide (1 = 0)))]) ⟨hx, hb, hml, hown, hts⟩ (c_X7_holds D cy A b σ saved many bef T len thr at_ le f1 f2 dn hs Z (1) (by omega)) (cwV 1 hts gX7_stripeAt_X7_holds rfl rfl rfl hd_X7_holds ⟨Nat.le_of_ble_eq_true rfl, Nat.le_of_ble_eq_true rfl⟩) hK hA hw 0 rfl rfl rfl hl.1 rfl rfl (Nat.le_of_ble_eq_true rfl) ⟨Nat.zero_le _, Nat.zero_le _⟩ dX7_stripeAt_20 (fun H locs hw => ?_)
      have hw : wS D A (wM cy b (mS σ) saved many bef T len 1 at_ le f1 f2 dn hs ++ Z) s H locs := hw
      have hP := hw.1
      refine q_ifeqB (tgt := 34) hx hb dX7_stripeAt_23 (by decide) (fun c_23 => ?_) (fun c_23 => absurd c_23 (by decide))
      refine lv_iconst (v := nI 0) hx hb dX7_stripeAt_34 rfl ?_
      have e_c : c2 x 7 y 9 = 1 := by rw [c2, if_neg (by rw [c_12]; simp)]
      have hw : wS D A (wM cy b (mS σ) saved many bef T len (c2 x 7 y 9) at_ le f1 f2 dn hs ++ Z) s H locs := by rw [e_c]; exact hw
      exact q_iretW hx hb hr hlocks hw dX7_stripeAt_35 (by rw [e_c]; rfl)
    · refine lv_iconst (v := nI 0) hx hb dX7_stripeAt_15 rfl ?_
      refine lv_goto (tgt := 20) hx hb dX7_stripeAt_16 (by decide) ?_
      refine q_wV0 (As := [.int (nI (0))]) (rest := []) (st1 := [.int (bI (decide (0 = 0)))]) ⟨hx, hb, hml, hown, hts⟩ (c_X7_holds D cy A b σ saved many bef T len thr at_ le f1 f2 dn hs Z (0) (by omega)) (cwV 1 hts gX7_stripeAt_X7_holds rfl rfl rfl hd_X7_holds ⟨Nat.le_of_ble_eq_true rfl, Nat.le_of_ble_eq_true rfl⟩) hK hA hw 0 rfl rfl rfl hl.1 rfl rfl (Nat.le_of_ble_eq_true rfl) ⟨Nat.zero_le _, Nat.zero_le _⟩ dX7_stripeAt_20 (fun H locs hw => ?_)
      have hw : wS D A (wM cy b (mS σ) saved many bef T len 0 at_ le f1 f2 dn hs ++ Z) s H locs := hw
      have hP := hw.1
      refine q_ifeqB (tgt := 34) hx hb dX7_stripeAt_23 (by decide) (fun c_23 => absurd c_23 (by decide)) (fun c_23 => ?_)
      obtain ⟨i, h_i, e_i⟩ := inR_nI c_5
      have x_i : ix x = i := by rw [e_i]; exact nI_clamp (by omega)
      have hl : lv_has ls 3 [(0, .ref (b 0)), (1, .int (nI (i))), (2, .int (y))] := by rw [← e_i]; exact hl
      obtain ⟨j, h_j, e_j⟩ := inR_nI c_12
      have x_j : ix y = j := by rw [e_j]; exact nI_clamp (by omega)
      have hl : lv_has ls 3 [(0, .ref (b 0)), (1, .int (nI (i))), (2, .int (nI (j)))] := by rw [← e_j]; exact hl
      refine lv_iload_n hx hb dX7_stripeAt_26 rfl (lv_at hl 1 rfl) ?_
      refine lv_iload_n hx hb dX7_stripeAt_27 rfl (lv_at hl 2 rfl) ?_
      refine q_cS (As := [.int (nI (i)), .int (nI (j))]) (rest := []) (w := []) ⟨hx, hb, hml, hown, hts⟩ (c_X7_stripeOf D cy (i) (j) (by omega) (by omega)) (va_cwS 2 hts gX7_stripeAt_X7_stripeOf rfl rfl rfl hd_X7_stripeOf ⟨Nat.le_of_ble_eq_true rfl, Nat.le_of_ble_eq_true rfl⟩) hK q_Pnil rfl hl.1 rfl (Nat.le_of_ble_eq_true rfl) ⟨Nat.zero_le _, Nat.zero_le _⟩ dX7_stripeAt_28 ?_
      refine lv_goto (tgt := 35) hx hb dX7_stripeAt_31 (by decide) ?_
      have e_c : c2 x 7 y 9 = 0 := by rw [c2, if_pos (by rw [c_5, c_12]; rfl)]
      have hw : wS D A (wM cy b (mS σ) saved many bef T len (c2 x 7 y 9) at_ le f1 f2 dn hs ++ Z) s H locs := by rw [e_c]; exact hw
      exact q_iretW hx hb hr hlocks hw dX7_stripeAt_35 (by rw [e_c]; rw [if_pos rfl, x_i, x_j])
set_option maxHeartbeats 1000000 in
set_option maxRecDepth 100000 in
theorem c_X7_place {l : Launch} (D : va_G) (cy : ClassId) (A : Nat → Prop) (b : Nat → Nat) (σ saved : Nat → Int32) (many : Nat) (bef T : Nat → Int32) (len thr at_ : Nat) (le f1 f2 : Int32) (dn : Nat) (hs : Int64) (Z : va_W) (x : Int32) (y : Int32) : Met l yX7_place wsX7_place (k2_rm 3 68) (gP D cy [.ref (b 0), .int (x), .int (y)] A (wM cy b (mS σ) saved many bef T len thr at_ le f1 f2 dn hs ++ Z)) (gQ D A (some (.int (nI (if c2 x 21 y 3 = 0 then 10 * (spT (3 * ix x + ix y) / 9) + spT (3 * ix x + ix y) % 9 else 0)))) (wM cy b (mS σ) saved many bef T len (c2 x 21 y 3) at_ le f1 f2 dn hs ++ Z)) 0 0 A := by
  refine q_imp (cc := cX7_place) (maxL := 4) (ret := (some .int)) pl_X7 rfl (Nat.le_of_ble_eq_true rfl) ?_
  intro p e s m below meth c ls hx hb hr hml hts hown hlocks hw hK hA hl
  have hP := hw.1
  have hl : lv_has ls 4 [(0, .ref (b 0)), (1, .int (x)), (2, .int (y))] := hl
  refine lv_aload_n hx hb dX7_place_0 rfl (lv_at hl 0 rfl) ?_
  refine lv_iload_n hx hb dX7_place_1 rfl (lv_at hl 1 rfl) ?_
  refine q_cS (As := [.int (x)]) (rest := [.ref (b 0)]) (w := []) ⟨hx, hb, hml, hown, hts⟩ (c_X7_isStripe D cy (x)) (va_cwS 1 hts gX7_place_X7_isStripe rfl rfl rfl hd_X7_isStripe ⟨Nat.le_of_ble_eq_true rfl, Nat.le_of_ble_eq_true rfl⟩) hK q_Pnil rfl hl.1 rfl (Nat.le_of_ble_eq_true rfl) ⟨Nat.zero_le _, Nat.zero_le _⟩ dX7_place_2 ?_
  refine q_ifeqB (tgt := 21) hx hb dX7_place_5 (by decide) (fun c_5 => ?_) (fun c_5 => ?_)
  · refine lv_iconst (v := nI 1) hx hb dX7_place_21 rfl ?_
    refine q_wV0 (As := [.int (nI (1))]) (rest := []) (st1 := [.int (bI (decide (1 = 0)))]) ⟨hx, hb, hml, hown, hts⟩ (c_X7_holds D cy A b σ saved many bef T len thr at_ le f1 f2 dn hs Z (1) (by omega)) (cwV 1 hts gX7_place_X7_holds rfl rfl rfl hd_X7_holds ⟨Nat.le_of_ble_eq_true rfl, Nat.le_of_ble_eq_true rfl⟩) hK hA hw 0 rfl rfl rfl hl.1 rfl rfl (Nat.le_of_ble_eq_true rfl) ⟨Nat.zero_le _, Nat.zero_le _⟩ dX7_place_22 (fun H locs hw => ?_)
    have hw : wS D A (wM cy b (mS σ) saved many bef T len 1 at_ le f1 f2 dn hs ++ Z) s H locs := hw
    have hP := hw.1
    refine q_ifneB (tgt := 30) hx hb dX7_place_25 (by decide) (fun c_25 => absurd c_25 (by decide)) (fun c_25 => ?_)
    refine lv_iconst (v := nI 0) hx hb dX7_place_28 rfl ?_
    have e_c : c2 x 21 y 3 = 1 := by rw [c2, if_neg (by rw [c_5]; simp)]
    have hw : wS D A (wM cy b (mS σ) saved many bef T len (c2 x 21 y 3) at_ le f1 f2 dn hs ++ Z) s H locs := by rw [e_c]; exact hw
    exact q_iretW hx hb hr hlocks hw dX7_place_29 (by rw [e_c]; rfl)
  · refine lv_iload_n hx hb dX7_place_8 rfl (lv_at hl 2 rfl) ?_
    refine lv_iconst (v := nI 0) hx hb dX7_place_9 rfl ?_
    refine lv_iconst (v := nI 2) hx hb dX7_place_10 rfl ?_
    refine q_cS (As := [.int (y), .int (nI (0)), .int (nI (2))]) (rest := [.ref (b 0)]) (w := []) ⟨hx, hb, hml, hown, hts⟩ (c_X7_in D cy (y) (0) (2)) (va_cwS 3 hts gX7_place_X7_in rfl rfl rfl hd_X7_in ⟨Nat.le_of_ble_eq_true rfl, Nat.le_of_ble_eq_true rfl⟩) hK q_Pnil rfl hl.1 rfl (Nat.le_of_ble_eq_true rfl) ⟨Nat.zero_le _, Nat.zero_le _⟩ dX7_place_11 ?_
    refine q_top (show (bI (inB y 0 2)) = bI (inR y 3) from congrArg bI (inB_R (by omega))) ?_
    refine q_ifeqB (tgt := 21) hx hb dX7_place_14 (by decide) (fun c_14 => ?_) (fun c_14 => ?_)
    · refine lv_iconst (v := nI 1) hx hb dX7_place_21 rfl ?_
      refine q_wV0 (As := [.int (nI (1))]) (rest := []) (st1 := [.int (bI (decide (1 = 0)))]) ⟨hx, hb, hml, hown, hts⟩ (c_X7_holds D cy A b σ saved many bef T len thr at_ le f1 f2 dn hs Z (1) (by omega)) (cwV 1 hts gX7_place_X7_holds rfl rfl rfl hd_X7_holds ⟨Nat.le_of_ble_eq_true rfl, Nat.le_of_ble_eq_true rfl⟩) hK hA hw 0 rfl rfl rfl hl.1 rfl rfl (Nat.le_of_ble_eq_true rfl) ⟨Nat.zero_le _, Nat.zero_le _⟩ dX7_place_22 (fun H locs hw => ?_)
      have hw : wS D A (wM cy b (mS σ) saved many bef T len 1 at_ le f1 f2 dn hs ++ Z) s H locs := hw
      have hP := hw.1
      refine q_ifneB (tgt := 30) hx hb dX7_place_25 (by decide) (fun c_25 => absurd c_25 (by decide)) (fun c_25 => ?_)
      refine lv_iconst (v := nI 0) hx hb dX7_place_28 rfl ?_
      have e_c : c2 x 21 y 3 = 1 := by rw [c2, if_neg (by rw [c_14]; simp)]
      have hw : wS D A (wM cy b (mS σ) saved many bef T len (c2 x 21 y 3) at_ le f1 f2 dn hs ++ Z) s H locs := by rw [e_c]; exact hw
      exact q_iretW hx hb hr hlocks hw dX7_place_29 (by rw [e_c]; rfl)
    · refine lv_iconst (v := nI 0) hx hb dX7_place_17 rfl ?_
      refine lv_goto (tgt := 22) hx hb dX7_place_18 (by decide) ?_
      refine q_wV0 (As := [.int (nI (0))]) (rest := []) (st1 := [.int (bI (decide (0 = 0)))]) ⟨hx, hb, hml, hown, hts⟩ (c_X7_holds D cy A b σ saved many bef T len thr at_ le f1 f2 dn hs Z (0) (by omega)) (cwV 1 hts gX7_place_X7_holds rfl rfl rfl hd_X7_holds ⟨Nat.le_of_ble_eq_true rfl, Nat.le_of_ble_eq_true rfl⟩) hK hA hw 0 rfl rfl rfl hl.1 rfl rfl (Nat.le_of_ble_eq_true rfl) ⟨Nat.zero_le _, Nat.zero_le _⟩ dX7_place_22 (fun H locs hw => ?_)
      have hw : wS D A (wM cy b (mS σ) saved many bef T len 0 at_ le f1 f2 dn hs ++ Z) s H locs := hw
      have hP := hw.1
      refine q_ifneB (tgt := 30) hx hb dX7_place_25 (by decide) (fun c_25 => ?_) (fun c_25 => absurd c_25 (by decide))
      obtain ⟨i, h_i, e_i⟩ := inR_nI c_5
      have x_i : ix x = i := by rw [e_i]; exact nI_clamp (by omega)
      have hl : lv_has ls 4 [(0, .ref (b 0)), (1, .int (nI (i))), (2, .int (y))] := by rw [← e_i]; exact hl
      obtain ⟨j, h_j, e_j⟩ := inR_nI c_14
      have x_j : ix y = j := by rw [e_j]; exact nI_clamp (by omega)
      have hl : lv_has ls 4 [(0, .ref (b 0)), (1, .int (nI (i))), (2, .int (nI (j)))] := by rw [← e_j]; exact hl
      refine lv_iload_n hx hb dX7_place_30 rfl (lv_at hl 1 rfl) ?_
      refine lv_iload_n hx hb dX7_place_31 rfl (lv_at hl 2 rfl) ?_
      refine q_cS (As := [.int (nI (i)), .int (nI (j))]) (rest := []) (w := []) ⟨hx, hb, hml, hown, hts⟩ (c_X7_where D cy (i) (j) (by omega) (by omega)) (va_cwS 2 hts gX7_place_X7_where rfl rfl rfl hd_X7_where ⟨Nat.le_of_ble_eq_true rfl, Nat.le_of_ble_eq_true rfl⟩) hK q_Pnil rfl hl.1 rfl (Nat.le_of_ble_eq_true rfl) ⟨Nat.zero_le _, Nat.zero_le _⟩ dX7_place_32 ?_
      refine lv_istore_n (lv' := [(3, .int (nI (spT (3 * i + j)))), (0, .ref (b 0)), (1, .int (nI (i))), (2, .int (nI (j)))]) hx hb dX7_place_35 rfl hl (by decide) rfl (fun ls hl => ?_)
      refine lv_bipush (v := nI 10) hx hb dX7_place_36 rfl ?_
      refine lv_iload_n hx hb dX7_place_38 rfl (lv_at hl 0 rfl) ?_
      refine lv_bipush (v := nI 9) hx hb dX7_place_39 rfl ?_
      refine q_divN hx hb dX7_place_41 (by omega) (by have h9 := @sp_lt i j h_i h_j; omega) (by omega) ?_
      refine q_mulN hx hb dX7_place_42 ?_
      refine lv_iload_n hx hb dX7_place_43 rfl (lv_at hl 0 rfl) ?_
      refine lv_bipush (v := nI 9) hx hb dX7_place_44 rfl ?_
      refine q_remN hx hb dX7_place_46 (by omega) (by have h9 := @sp_lt i j h_i h_j; omega) (by omega) ?_
      refine q_addN hx hb dX7_place_47 ?_
      have e_c : c2 x 21 y 3 = 0 := by rw [c2, if_pos (by rw [c_5, c_14]; rfl)]
      have hw : wS D A (wM cy b (mS σ) saved many bef T len (c2 x 21 y 3) at_ le f1 f2 dn hs ++ Z) s H locs := by rw [e_c]; exact hw
      exact q_iretW hx hb hr hlocks hw dX7_place_48 (by rw [e_c]; rw [if_pos rfl, x_i, x_j])
set_option maxHeartbeats 1000000 in
set_option maxRecDepth 100000 in
theorem c_X7_unitTold {l : Launch} (D : va_G) (cy : ClassId) (b : Nat → Nat) (σ saved : Nat → Int32) (many : Nat) (bef T : Nat → Int32) (len thr at_ : Nat) (le f1 f2 : Int32) (dn : Nat) (hs : Int64) (Z : va_W) (k : Nat) (h_0 : k < 63) : Met l yX7_unitTold wsX7_unitTold (k2_rm 1 22) (gR D cy [.ref (b 0), .int (nI (k))] (wM cy b (mS σ) saved many bef T len thr at_ le f1 f2 dn hs ++ Z)) (k2_QcV (.int (vis σ k))) 0 0 (fun _ => False) := by
  refine q_pure (cc := cX7_unitTold) (maxL := 2) (ret := (some .int)) pl_X7 rfl (Nat.le_of_ble_eq_true rfl) ?_
  intro p e s m below meth c ls hx hb hr hml hts hown hlocks hP hK hl
  have hl : lv_has ls 2 [(0, .ref (b 0)), (1, .int (nI (k)))] := hl
  refine lv_aload_n hx hb dX7_unitTold_0 rfl (lv_at hl 0 rfl) ?_
  refine lv_iload_n hx hb dX7_unitTold_1 rfl (lv_at hl 1 rfl) ?_
  refine q_cV (As := [.int (nI (k))]) (rest := []) ⟨hx, hb, hml, hown, hts⟩ (c_X7_isUnit D cy b σ saved many bef T len thr at_ le f1 f2 dn hs Z (k) (by omega)) (cwV 1 hts gX7_unitTold_X7_isUnit rfl rfl rfl hd_X7_isUnit ⟨Nat.le_of_ble_eq_true rfl, Nat.le_of_ble_eq_true rfl⟩) hK hP 0 rfl rfl rfl hl.1 rfl (Nat.le_of_ble_eq_true rfl) ⟨Nat.zero_le _, Nat.zero_le _⟩ dX7_unitTold_2 ?_
  refine q_ifeqB (tgt := 20) hx hb dX7_unitTold_5 (by decide) (fun c_5 => ?_) (fun c_5 => ?_)
  · refine lv_iconst (v := -1) hx hb dX7_unitTold_20 rfl ?_
    exact q_iret hx hb hr hlocks dX7_unitTold_21 (by simp [vis, c_5])
  · refine lv_aload_n hx hb dX7_unitTold_8 rfl (lv_at hl 0 rfl) ?_
    refine va_get (D := D) (ci := 7) (v := .ref (b 1)) (C := RX7) (T := TX7) (N := 13) hx hb hts (fun _ h => List.mem_cons_of_mem _ (List.mem_append_right _ h)) hown hK hP 0 rfl rfl 0 (by decide) (hts (.fieldLink RX7 7 "SpreadParityModel" "s" "[I") (List.mem_of_getElem? (i := 1) rfl)) (fun _ h9 => h9) rfl dX7_unitTold_9 ?_
    refine lv_bipush (v := nI 7) hx hb dX7_unitTold_12 rfl ?_
    refine lv_iload_n hx hb dX7_unitTold_14 rfl (lv_at hl 1 rfl) ?_
    refine q_addN hx hb dX7_unitTold_15 ?_
    refine q_iald hx hb hK hP 1 rfl (by omega) (by omega) dX7_unitTold_16 ?_
    refine q_top (show ((mS σ) (7 + k)) = σ (k) from mS_u _ (by omega)) ?_
    refine lv_goto (tgt := 21) hx hb dX7_unitTold_17 (by decide) ?_
    exact q_iret hx hb hr hlocks dX7_unitTold_21 (by simp [vis, c_5])
set_option maxHeartbeats 1000000 in
set_option maxRecDepth 100000 in
theorem c_X7_unit {l : Launch} (D : va_G) (cy : ClassId) (A : Nat → Prop) (b : Nat → Nat) (σ saved : Nat → Int32) (many : Nat) (bef T : Nat → Int32) (len thr at_ : Nat) (le f1 f2 : Int32) (dn : Nat) (hs : Int64) (Z : va_W) (x : Int32) (y : Int32) : Met l yX7_unit wsX7_unit (k2_rm 2 43) (gP D cy [.ref (b 0), .int (x), .int (y)] A (wM cy b (mS σ) saved many bef T len thr at_ le f1 f2 dn hs ++ Z)) (gQ D A (some (.int (if c2 x 7 y 9 = 0 then vis σ (9 * ix x + ix y) else 0))) (wM cy b (mS σ) saved many bef T len (c2 x 7 y 9) at_ le f1 f2 dn hs ++ Z)) 0 0 A := by
  refine q_imp (cc := cX7_unit) (maxL := 3) (ret := (some .int)) pl_X7 rfl (Nat.le_of_ble_eq_true rfl) ?_
  intro p e s m below meth c ls hx hb hr hml hts hown hlocks hw hK hA hl
  have hP := hw.1
  have hl : lv_has ls 3 [(0, .ref (b 0)), (1, .int (x)), (2, .int (y))] := hl
  refine lv_aload_n hx hb dX7_unit_0 rfl (lv_at hl 0 rfl) ?_
  refine lv_iload_n hx hb dX7_unit_1 rfl (lv_at hl 1 rfl) ?_
  refine q_cS (As := [.int (x)]) (rest := [.ref (b 0)]) (w := []) ⟨hx, hb, hml, hown, hts⟩ (c_X7_isDisc D cy (x)) (va_cwS 1 hts gX7_unit_X7_isDisc rfl rfl rfl hd_X7_isDisc ⟨Nat.le_of_ble_eq_true rfl, Nat.le_of_ble_eq_true rfl⟩) hK q_Pnil rfl hl.1 rfl (Nat.le_of_ble_eq_true rfl) ⟨Nat.zero_le _, Nat.zero_le _⟩ dX7_unit_2 ?_
  refine q_ifeqB (tgt := 19) hx hb dX7_unit_5 (by decide) (fun c_5 => ?_) (fun c_5 => ?_)
  · refine lv_iconst (v := nI 1) hx hb dX7_unit_19 rfl ?_
    refine q_wV0 (As := [.int (nI (1))]) (rest := []) (st1 := [.int (bI (decide (1 = 0)))]) ⟨hx, hb, hml, hown, hts⟩ (c_X7_holds D cy A b σ saved many bef T len thr at_ le f1 f2 dn hs Z (1) (by omega)) (cwV 1 hts gX7_unit_X7_holds rfl rfl rfl hd_X7_holds ⟨Nat.le_of_ble_eq_true rfl, Nat.le_of_ble_eq_true rfl⟩) hK hA hw 0 rfl rfl rfl hl.1 rfl rfl (Nat.le_of_ble_eq_true rfl) ⟨Nat.zero_le _, Nat.zero_le _⟩ dX7_unit_20 (fun H locs hw => ?_)
    have hw : wS D A (wM cy b (mS σ) saved many bef T len 1 at_ le f1 f2 dn hs ++ Z) s H locs := hw
    have hP := hw.1
    refine q_ifeqB (tgt := 39) hx hb dX7_unit_23 (by decide) (fun c_23 => ?_) (fun c_23 => absurd c_23 (by decide))
    refine lv_iconst (v := nI 0) hx hb dX7_unit_39 rfl ?_
    have e_c : c2 x 7 y 9 = 1 := by rw [c2, if_neg (by rw [c_5]; simp)]
    have hw : wS D A (wM cy b (mS σ) saved many bef T len (c2 x 7 y 9) at_ le f1 f2 dn hs ++ Z) s H locs := by rw [e_c]; exact hw
    exact q_iretW hx hb hr hlocks hw dX7_unit_40 (by rw [e_c]; rfl)
  · refine lv_iload_n hx hb dX7_unit_8 rfl (lv_at hl 2 rfl) ?_
    refine q_cS (As := [.int (y)]) (rest := [.ref (b 0)]) (w := []) ⟨hx, hb, hml, hown, hts⟩ (c_X7_isPlace D cy (y)) (va_cwS 1 hts gX7_unit_X7_isPlace rfl rfl rfl hd_X7_isPlace ⟨Nat.le_of_ble_eq_true rfl, Nat.le_of_ble_eq_true rfl⟩) hK q_Pnil rfl hl.1 rfl (Nat.le_of_ble_eq_true rfl) ⟨Nat.zero_le _, Nat.zero_le _⟩ dX7_unit_9 ?_
    refine q_ifeqB (tgt := 19) hx hb dX7_unit_12 (by decide) (fun c_12 => ?_) (fun c_12 => ?_)
    · refine lv_iconst (v := nI 1) hx hb dX7_unit_19 rfl ?_
      refine q_wV0 (As := [.int (nI (1))]) (rest := []) (st1 := [.int (bI (decide (1 = 0)))]) ⟨hx, hb, hml, hown, hts⟩ (c_X7_holds D cy A b σ saved many bef T len thr at_ le f1 f2 dn hs Z (1) (by omega)) (cwV 1 hts gX7_unit_X7_holds rfl rfl rfl hd_X7_holds ⟨Nat.le_of_ble_eq_true rfl, Nat.le_of_ble_eq_true rfl⟩) hK hA hw 0 rfl rfl rfl hl.1 rfl rfl (Nat.le_of_ble_eq_true rfl) ⟨Nat.zero_le _, Nat.zero_le _⟩ dX7_unit_20 (fun H locs hw => ?_)
      have hw : wS D A (wM cy b (mS σ) saved many bef T len 1 at_ le f1 f2 dn hs ++ Z) s H locs := hw
      have hP := hw.1
      refine q_ifeqB (tgt := 39) hx hb dX7_unit_23 (by decide) (fun c_23 => ?_) (fun c_23 => absurd c_23 (by decide))
      refine lv_iconst (v := nI 0) hx hb dX7_unit_39 rfl ?_
      have e_c : c2 x 7 y 9 = 1 := by rw [c2, if_neg (by rw [c_12]; simp)]
      have hw : wS D A (wM cy b (mS σ) saved many bef T len (c2 x 7 y 9) at_ le f1 f2 dn hs ++ Z) s H locs := by rw [e_c]; exact hw
      exact q_iretW hx hb hr hlocks hw dX7_unit_40 (by rw [e_c]; rfl)
    · refine lv_iconst (v := nI 0) hx hb dX7_unit_15 rfl ?_
      refine lv_goto (tgt := 20) hx hb dX7_unit_16 (by decide) ?_
      refine q_wV0 (As := [.int (nI (0))]) (rest := []) (st1 := [.int (bI (decide (0 = 0)))]) ⟨hx, hb, hml, hown, hts⟩ (c_X7_holds D cy A b σ saved many bef T len thr at_ le f1 f2 dn hs Z (0) (by omega)) (cwV 1 hts gX7_unit_X7_holds rfl rfl rfl hd_X7_holds ⟨Nat.le_of_ble_eq_true rfl, Nat.le_of_ble_eq_true rfl⟩) hK hA hw 0 rfl rfl rfl hl.1 rfl rfl (Nat.le_of_ble_eq_true rfl) ⟨Nat.zero_le _, Nat.zero_le _⟩ dX7_unit_20 (fun H locs hw => ?_)
      have hw : wS D A (wM cy b (mS σ) saved many bef T len 0 at_ le f1 f2 dn hs ++ Z) s H locs := hw
      have hP := hw.1
      refine q_ifeqB (tgt := 39) hx hb dX7_unit_23 (by decide) (fun c_23 => absurd c_23 (by decide)) (fun c_23 => ?_)
      obtain ⟨i, h_i, e_i⟩ := inR_nI c_5
      have x_i : ix x = i := by rw [e_i]; exact nI_clamp (by omega)
      have hl : lv_has ls 3 [(0, .ref (b 0)), (1, .int (nI (i))), (2, .int (y))] := by rw [← e_i]; exact hl
      obtain ⟨j, h_j, e_j⟩ := inR_nI c_12
      have x_j : ix y = j := by rw [e_j]; exact nI_clamp (by omega)
      have hl : lv_has ls 3 [(0, .ref (b 0)), (1, .int (nI (i))), (2, .int (nI (j)))] := by rw [← e_j]; exact hl
      refine lv_aload_n hx hb dX7_unit_26 rfl (lv_at hl 0 rfl) ?_
      refine lv_bipush (v := nI 9) hx hb dX7_unit_27 rfl ?_
      refine lv_iload_n hx hb dX7_unit_29 rfl (lv_at hl 1 rfl) ?_
      refine q_mulN hx hb dX7_unit_30 ?_
      refine lv_iload_n hx hb dX7_unit_31 rfl (lv_at hl 2 rfl) ?_
      refine q_addN hx hb dX7_unit_32 ?_
      refine q_cV (As := [.int (nI ((9 * i) + j))]) (rest := []) ⟨hx, hb, hml, hown, hts⟩ (c_X7_unitTold D cy b σ saved many bef T len 0 at_ le f1 f2 dn hs Z ((9 * i) + j) (by omega)) (cwV 1 hts gX7_unit_X7_unitTold rfl rfl rfl hd_X7_unitTold ⟨Nat.le_of_ble_eq_true rfl, Nat.le_of_ble_eq_true rfl⟩) hK hP 0 rfl rfl rfl hl.1 rfl (Nat.le_of_ble_eq_true rfl) ⟨Nat.zero_le _, Nat.zero_le _⟩ dX7_unit_33 ?_
      refine lv_goto (tgt := 40) hx hb dX7_unit_36 (by decide) ?_
      have e_c : c2 x 7 y 9 = 0 := by rw [c2, if_pos (by rw [c_5, c_12]; rfl)]
      have hw : wS D A (wM cy b (mS σ) saved many bef T len (c2 x 7 y 9) at_ le f1 f2 dn hs ++ Z) s H locs := by rw [e_c]; exact hw
      exact q_iretW hx hb hr hlocks hw dX7_unit_40 (by rw [e_c]; rw [if_pos rfl, x_i, x_j])
set_option maxHeartbeats 1000000 in
set_option maxRecDepth 100000 in
theorem c_X7_told {l : Launch} (D : va_G) (cy : ClassId) (A : Nat → Prop) (b : Nat → Nat) (σ saved : Nat → Int32) (many : Nat) (bef T : Nat → Int32) (len thr at_ : Nat) (le f1 f2 : Int32) (dn : Nat) (hs : Int64) (Z : va_W) (v : Int32) : Met l yX7_told wsX7_told (k2_rm 0 0) (gP D cy [.ref (b 0), .int (v)] A (wM cy b (mS σ) saved many bef T len thr at_ le f1 f2 dn hs ++ Z)) (gQ D A (some (.int (v))) (wM cy b (mS σ) saved many bef T len 0 at_ le f1 f2 dn hs ++ Z)) 0 0 A := by
  refine q_imp (cc := cX7_told) (maxL := 2) (ret := (some .int)) pl_X7 rfl (Nat.le_of_ble_eq_true rfl) ?_
  intro p e s m below meth c ls hx hb hr hml hts hown hlocks hw hK hA hl
  have hP := hw.1
  have hl : lv_has ls 2 [(0, .ref (b 0)), (1, .int (v))] := hl
  refine lv_aload_n hx hb dX7_told_0 rfl (lv_at hl 0 rfl) ?_
  refine lv_iconst (v := nI 0) hx hb dX7_told_1 rfl ?_
  refine va_put (D := D) (ci := 7) (v := .int (nI (0))) (ty := .int) (C := RX7) (T := TX7) (N := 13) hx hb hts (fun _ h => List.mem_cons_of_mem _ (List.mem_append_right _ h)) tyX7 tyX7_ok nmX7 hown hK hw.1 hw.2.1 hw.2.2 0 rfl rfl 6 (by decide) (hts (.fieldLink RX7 22 "SpreadParityModel" "thrown" "I") (List.mem_of_getElem? (i := 1) rfl)) (fun _ h9 => h9) rfl (tyX7_ok 6 (by decide)) rfl rfl (Nat.le_of_ble_eq_true rfl) dX7_told_2 (fun H locs hP hD hS => ?_)
  have hw : wS D A (wM cy b (mS σ) saved many bef T len 0 at_ le f1 f2 dn hs ++ Z) s H locs := ⟨hP, hD, hS⟩
  refine lv_iload_n hx hb dX7_told_5 rfl (lv_at hl 1 rfl) ?_
  exact q_iretW hx hb hr hlocks hw dX7_told_6 (rfl)
set_option maxHeartbeats 1000000 in
set_option maxRecDepth 100000 in
theorem c_X7_wrongStripes {l : Launch} (D : va_G) (cy : ClassId) (b : Nat → Nat) (σ saved : Nat → Int32) (many : Nat) (bef T : Nat → Int32) (len thr at_ : Nat) (le f1 f2 : Int32) (dn : Nat) (hs : Int64) (Z : va_W) : Met l yX7_wrongStripes wsX7_wrongStripes (k2_rm 6 132) (gR D cy [.ref (b 0)] (wM cy b (mS σ) saved many bef T len thr at_ le f1 f2 dn hs ++ Z)) (k2_QcV (.int (nI (cw σ)))) 0 0 (fun _ => False) := by
  refine q_pure (cc := cX7_wrongStripes) (maxL := 3) (ret := (some .int)) pl_X7 rfl (Nat.le_of_ble_eq_true rfl) ?_
  intro p e s m below meth c ls hx hb hr hml hts hown hlocks hP hK hl
  have hl : lv_has ls 3 [(0, .ref (b 0))] := hl
  refine lv_iconst (v := nI 0) hx hb dX7_wrongStripes_0 rfl ?_
  refine lv_istore_n (lv' := [(1, .int (nI (0))), (0, .ref (b 0))]) hx hb dX7_wrongStripes_1 rfl hl (by decide) rfl (fun ls hl => ?_)
  refine lv_iconst (v := nI 0) hx hb dX7_wrongStripes_2 rfl ?_
  refine lv_istore_n (lv' := [(2, .int (nI (0))), (1, .int (nI (0))), (0, .ref (b 0))]) hx hb dX7_wrongStripes_3 rfl hl (by decide) rfl (fun ls hl => ?_)
  have lp4 : ∀ (j_ i : Nat), i + j_ = 21 → ∀ (ls : Array Slot), lv_has ls 3 [(0, .ref (b 0)), (1, .int (nI (cntB (wrg σ) i))), (2, .int (nI (i)))] → W p l e (k2_rm 6 132) s m ([.ref (b 0)] : List Value).toArray below meth c s.heap [] 0 0 (MQ below (k2_QcV (.int (nI (cw σ)))) ([.ref (b 0)] : List Value).toArray s 0 0 (fun _ => False)) (F0 m 4 ls []) := by
    intro j_
    induction j_ with
    | zero =>
      intro i hn_i ls hl
      refine lv_iload_n hx hb dX7_wrongStripes_4 rfl (lv_at hl 2 rfl) ?_
      refine lv_bipush (v := nI 21) hx hb dX7_wrongStripes_5 rfl ?_
      refine q_geN (tgt := 32) hx hb dX7_wrongStripes_7 (by decide) (by omega) (by omega) (fun c_7 => ?_) (fun c_7 => absurd c_7 (by omega))
      refine lv_iload_n hx hb dX7_wrongStripes_32 rfl (lv_at hl 1 rfl) ?_
      exact q_iret hx hb hr hlocks dX7_wrongStripes_33 (by have e9 : i = 21 := (by omega); subst e9; rfl)
    | succ j_ ih_i =>
      intro i hn_i ls hl
      refine lv_iload_n hx hb dX7_wrongStripes_4 rfl (lv_at hl 2 rfl) ?_
      refine lv_bipush (v := nI 21) hx hb dX7_wrongStripes_5 rfl ?_
      refine q_geN (tgt := 32) hx hb dX7_wrongStripes_7 (by decide) (by omega) (by omega) (fun c_7 => absurd c_7 (by omega)) (fun c_7 => ?_)
      refine lv_iload_n hx hb dX7_wrongStripes_10 rfl (lv_at hl 1 rfl) ?_
      refine lv_aload_n hx hb dX7_wrongStripes_11 rfl (lv_at hl 0 rfl) ?_
      refine lv_iload_n hx hb dX7_wrongStripes_12 rfl (lv_at hl 2 rfl) ?_
      refine q_cV (As := [.int (nI (i))]) (rest := [.int (nI (cntB (wrg σ) i))]) ⟨hx, hb, hml, hown, hts⟩ (c_X7_isWrong D cy b σ saved many bef T len thr at_ le f1 f2 dn hs Z (i) (by omega)) (cwV 1 hts gX7_wrongStripes_X7_isWrong rfl rfl rfl hd_X7_isWrong ⟨Nat.le_of_ble_eq_true rfl, Nat.le_of_ble_eq_true rfl⟩) hK hP 0 rfl rfl rfl hl.1 rfl (Nat.le_of_ble_eq_true rfl) ⟨Nat.zero_le _, Nat.zero_le _⟩ dX7_wrongStripes_13 ?_
      refine q_ifeqB (tgt := 23) hx hb dX7_wrongStripes_16 (by decide) (fun c_16 => ?_) (fun c_16 => ?_)
      · refine lv_iconst (v := nI 0) hx hb dX7_wrongStripes_23 rfl ?_
        refine q_addN hx hb dX7_wrongStripes_24 ?_
        refine lv_istore_n (lv' := [(1, .int (nI ((cntB (wrg σ) i) + 0))), (0, .ref (b 0)), (2, .int (nI (i)))]) hx hb dX7_wrongStripes_25 rfl hl (by decide) rfl (fun ls hl => ?_)
        have e_c : nI ((cntB (wrg σ) i) + 0) = nI (cntB (wrg σ) (i + 1)) := congrArg nI (by show (cntB (wrg σ) i) + 0 = cntB (wrg σ) (i + 1); simp only [cntB, c_16, if_true, if_false, Bool.false_eq_true])
        have hl : lv_has ls 3 [(1, .int (nI (cntB (wrg σ) (i + 1)))), (0, .ref (b 0)), (2, .int (nI (i)))] := by rw [← e_c]; exact hl
        refine lv_iinc (v := nI (i + 1)) (lv' := [(2, .int (nI (i + 1))), (1, .int (nI (cntB (wrg σ) (i + 1)))), (0, .ref (b 0))]) hx hb dX7_wrongStripes_26 hl (k := 2) rfl (show nI (i) + nI 1 = nI (i + 1) from nI_add _ _) (by decide) rfl (fun ls hl => ?_)
        refine lv_goto (tgt := 4) hx hb dX7_wrongStripes_29 (by decide) ?_
        exact ih_i (i + 1) (by omega) _ (lv_sub hl [2, 1, 0] rfl)
      · refine lv_iconst (v := nI 1) hx hb dX7_wrongStripes_19 rfl ?_
        refine lv_goto (tgt := 24) hx hb dX7_wrongStripes_20 (by decide) ?_
        refine q_addN hx hb dX7_wrongStripes_24 ?_
        refine lv_istore_n (lv' := [(1, .int (nI ((cntB (wrg σ) i) + 1))), (0, .ref (b 0)), (2, .int (nI (i)))]) hx hb dX7_wrongStripes_25 rfl hl (by decide) rfl (fun ls hl => ?_)
        have e_c : nI ((cntB (wrg σ) i) + 1) = nI (cntB (wrg σ) (i + 1)) := congrArg nI (by show (cntB (wrg σ) i) + 1 = cntB (wrg σ) (i + 1); simp only [cntB, c_16, if_true, if_false, Bool.false_eq_true])
        have hl : lv_has ls 3 [(1, .int (nI (cntB (wrg σ) (i + 1)))), (0, .ref (b 0)), (2, .int (nI (i)))] := by rw [← e_c]; exact hl
        refine lv_iinc (v := nI (i + 1)) (lv' := [(2, .int (nI (i + 1))), (1, .int (nI (cntB (wrg σ) (i + 1)))), (0, .ref (b 0))]) hx hb dX7_wrongStripes_26 hl (k := 2) rfl (show nI (i) + nI 1 = nI (i + 1) from nI_add _ _) (by decide) rfl (fun ls hl => ?_)
        refine lv_goto (tgt := 4) hx hb dX7_wrongStripes_29 (by decide) ?_
        exact ih_i (i + 1) (by omega) _ (lv_sub hl [2, 1, 0] rfl)
  exact lp4 (21 - 0) 0 (by omega) _ (lv_sub hl [2, 1, 0] rfl)
set_option maxHeartbeats 1000000 in
set_option maxRecDepth 100000 in
theorem c_X7_lost {l : Launch} (D : va_G) (cy : ClassId) (A : Nat → Prop) (b : Nat → Nat) (σ saved : Nat → Int32) (many : Nat) (bef T : Nat → Int32) (len thr at_ : Nat) (le f1 f2 : Int32) (dn : Nat) (hs : Int64) (Z : va_W) (h_0 : Val σ) : Met l yX7_lost wsX7_lost (k2_rm 7 156) (gP D cy [.ref (b 0)] A (wM cy b (mS σ) saved many bef T len thr at_ le f1 f2 dn hs ++ Z)) (gQ D A (some (.int (nI (cl σ)))) (wM cy b (mS σ) saved many bef T len 0 at_ le f1 f2 dn hs ++ Z)) 0 0 A := by
  refine q_imp (cc := cX7_lost) (maxL := 1) (ret := (some .int)) pl_X7 rfl (Nat.le_of_ble_eq_true rfl) ?_
  intro p e s m below meth c ls hx hb hr hml hts hown hlocks hw hK hA hl
  have hP := hw.1
  have hl : lv_has ls 1 [(0, .ref (b 0))] := hl
  refine lv_aload_n hx hb dX7_lost_0 rfl (lv_at hl 0 rfl) ?_
  refine lv_aload_n hx hb dX7_lost_1 rfl (lv_at hl 0 rfl) ?_
  refine q_cV (As := []) (rest := [.ref (b 0)]) ⟨hx, hb, hml, hown, hts⟩ (c_X7_lostAddresses D cy b σ saved many bef T len thr at_ le f1 f2 dn hs Z h_0) (cwV 0 hts gX7_lost_X7_lostAddresses rfl rfl rfl hd_X7_lostAddresses ⟨Nat.le_of_ble_eq_true rfl, Nat.le_of_ble_eq_true rfl⟩) hK hP 0 rfl rfl rfl hl.1 rfl (Nat.le_of_ble_eq_true rfl) ⟨Nat.zero_le _, Nat.zero_le _⟩ dX7_lost_2 ?_
  refine q_wV0 (As := [.int (nI (cl σ))]) (rest := []) (st1 := [.int (nI (cl σ))]) ⟨hx, hb, hml, hown, hts⟩ (c_X7_told D cy A b σ saved many bef T len thr at_ le f1 f2 dn hs Z (nI (cl σ))) (cwV 1 hts gX7_lost_X7_told rfl rfl rfl hd_X7_told ⟨Nat.le_of_ble_eq_true rfl, Nat.le_of_ble_eq_true rfl⟩) hK hA hw 0 rfl rfl rfl hl.1 rfl rfl (Nat.le_of_ble_eq_true rfl) ⟨Nat.zero_le _, Nat.zero_le _⟩ dX7_lost_5 (fun H locs hw => ?_)
  have hw : wS D A (wM cy b (mS σ) saved many bef T len 0 at_ le f1 f2 dn hs ++ Z) s H locs := hw
  have hP := hw.1
  exact q_iretW hx hb hr hlocks hw dX7_lost_8 (rfl)
set_option maxHeartbeats 1000000 in
set_option maxRecDepth 100000 in
theorem c_X7_wrong {l : Launch} (D : va_G) (cy : ClassId) (A : Nat → Prop) (b : Nat → Nat) (σ saved : Nat → Int32) (many : Nat) (bef T : Nat → Int32) (len thr at_ : Nat) (le f1 f2 : Int32) (dn : Nat) (hs : Int64) (Z : va_W) : Met l yX7_wrong wsX7_wrong (k2_rm 7 154) (gP D cy [.ref (b 0)] A (wM cy b (mS σ) saved many bef T len thr at_ le f1 f2 dn hs ++ Z)) (gQ D A (some (.int (nI (cw σ)))) (wM cy b (mS σ) saved many bef T len 0 at_ le f1 f2 dn hs ++ Z)) 0 0 A := by
  refine q_imp (cc := cX7_wrong) (maxL := 1) (ret := (some .int)) pl_X7 rfl (Nat.le_of_ble_eq_true rfl) ?_
  intro p e s m below meth c ls hx hb hr hml hts hown hlocks hw hK hA hl
  have hP := hw.1
  have hl : lv_has ls 1 [(0, .ref (b 0))] := hl
  refine lv_aload_n hx hb dX7_wrong_0 rfl (lv_at hl 0 rfl) ?_
  refine lv_aload_n hx hb dX7_wrong_1 rfl (lv_at hl 0 rfl) ?_
  refine q_cV (As := []) (rest := [.ref (b 0)]) ⟨hx, hb, hml, hown, hts⟩ (c_X7_wrongStripes D cy b σ saved many bef T len thr at_ le f1 f2 dn hs Z ) (cwV 0 hts gX7_wrong_X7_wrongStripes rfl rfl rfl hd_X7_wrongStripes ⟨Nat.le_of_ble_eq_true rfl, Nat.le_of_ble_eq_true rfl⟩) hK hP 0 rfl rfl rfl hl.1 rfl (Nat.le_of_ble_eq_true rfl) ⟨Nat.zero_le _, Nat.zero_le _⟩ dX7_wrong_2 ?_
  refine q_wV0 (As := [.int (nI (cw σ))]) (rest := []) (st1 := [.int (nI (cw σ))]) ⟨hx, hb, hml, hown, hts⟩ (c_X7_told D cy A b σ saved many bef T len thr at_ le f1 f2 dn hs Z (nI (cw σ))) (cwV 1 hts gX7_wrong_X7_told rfl rfl rfl hd_X7_told ⟨Nat.le_of_ble_eq_true rfl, Nat.le_of_ble_eq_true rfl⟩) hK hA hw 0 rfl rfl rfl hl.1 rfl rfl (Nat.le_of_ble_eq_true rfl) ⟨Nat.zero_le _, Nat.zero_le _⟩ dX7_wrong_5 (fun H locs hw => ?_)
  have hw : wS D A (wM cy b (mS σ) saved many bef T len 0 at_ le f1 f2 dn hs ++ Z) s H locs := hw
  have hP := hw.1
  exact q_iretW hx hb hr hlocks hw dX7_wrong_8 (rfl)
set_option maxHeartbeats 1000000 in
set_option maxRecDepth 100000 in
theorem c_X7_spares {l : Launch} (D : va_G) (cy : ClassId) (A : Nat → Prop) (b : Nat → Nat) (σ saved : Nat → Int32) (many : Nat) (bef T : Nat → Int32) (len thr at_ : Nat) (le f1 f2 : Int32) (dn : Nat) (hs : Int64) (Z : va_W) : Met l yX7_spares wsX7_spares (k2_rm 1 21) (gP D cy [.ref (b 0)] A (wM cy b (mS σ) saved many bef T len thr at_ le f1 f2 dn hs ++ Z)) (gQ D A (some (.int (σ 84))) (wM cy b (mS σ) saved many bef T len 0 at_ le f1 f2 dn hs ++ Z)) 0 0 A := by
  refine q_imp (cc := cX7_spares) (maxL := 1) (ret := (some .int)) pl_X7 rfl (Nat.le_of_ble_eq_true rfl) ?_
  intro p e s m below meth c ls hx hb hr hml hts hown hlocks hw hK hA hl
  have hP := hw.1
  have hl : lv_has ls 1 [(0, .ref (b 0))] := hl
  refine lv_aload_n hx hb dX7_spares_0 rfl (lv_at hl 0 rfl) ?_
  refine lv_aload_n hx hb dX7_spares_1 rfl (lv_at hl 0 rfl) ?_
  refine va_get (D := D) (ci := 7) (v := .ref (b 1)) (C := RX7) (T := TX7) (N := 13) hx hb hts (fun _ h => List.mem_cons_of_mem _ (List.mem_append_right _ h)) hown hK hP 0 rfl rfl 0 (by decide) (hts (.fieldLink RX7 7 "SpreadParityModel" "s" "[I") (List.mem_of_getElem? (i := 1) rfl)) (fun _ h9 => h9) rfl dX7_spares_2 ?_
  refine lv_bipush (v := nI 84) hx hb dX7_spares_5 rfl ?_
  refine q_iald hx hb hK hP 1 rfl (by omega) (by omega) dX7_spares_7 ?_
  refine q_top (show ((mS σ) (84)) = σ (84) from mS_c _ (by omega)) ?_
  refine q_wV0 (As := [.int (σ (84))]) (rest := []) (st1 := [.int (σ (84))]) ⟨hx, hb, hml, hown, hts⟩ (c_X7_told D cy A b σ saved many bef T len thr at_ le f1 f2 dn hs Z (σ (84))) (cwV 1 hts gX7_spares_X7_told rfl rfl rfl hd_X7_told ⟨Nat.le_of_ble_eq_true rfl, Nat.le_of_ble_eq_true rfl⟩) hK hA hw 0 rfl rfl rfl hl.1 rfl rfl (Nat.le_of_ble_eq_true rfl) ⟨Nat.zero_le _, Nat.zero_le _⟩ dX7_spares_8 (fun H locs hw => ?_)
  have hw : wS D A (wM cy b (mS σ) saved many bef T len 0 at_ le f1 f2 dn hs ++ Z) s H locs := hw
  have hP := hw.1
  exact q_iretW hx hb hr hlocks hw dX7_spares_11 (rfl)
set_option maxHeartbeats 1000000 in
set_option maxRecDepth 100000 in
theorem c_X7_losses {l : Launch} (D : va_G) (cy : ClassId) (A : Nat → Prop) (b : Nat → Nat) (σ saved : Nat → Int32) (many : Nat) (bef T : Nat → Int32) (len thr at_ : Nat) (le f1 f2 : Int32) (dn : Nat) (hs : Int64) (Z : va_W) : Met l yX7_losses wsX7_losses (k2_rm 1 21) (gP D cy [.ref (b 0)] A (wM cy b (mS σ) saved many bef T len thr at_ le f1 f2 dn hs ++ Z)) (gQ D A (some (.int (σ 85))) (wM cy b (mS σ) saved many bef T len 0 at_ le f1 f2 dn hs ++ Z)) 0 0 A := by
  refine q_imp (cc := cX7_losses) (maxL := 1) (ret := (some .int)) pl_X7 rfl (Nat.le_of_ble_eq_true rfl) ?_
  intro p e s m below meth c ls hx hb hr hml hts hown hlocks hw hK hA hl
  have hP := hw.1
  have hl : lv_has ls 1 [(0, .ref (b 0))] := hl
  refine lv_aload_n hx hb dX7_losses_0 rfl (lv_at hl 0 rfl) ?_
  refine lv_aload_n hx hb dX7_losses_1 rfl (lv_at hl 0 rfl) ?_
  refine va_get (D := D) (ci := 7) (v := .ref (b 1)) (C := RX7) (T := TX7) (N := 13) hx hb hts (fun _ h => List.mem_cons_of_mem _ (List.mem_append_right _ h)) hown hK hP 0 rfl rfl 0 (by decide) (hts (.fieldLink RX7 7 "SpreadParityModel" "s" "[I") (List.mem_of_getElem? (i := 1) rfl)) (fun _ h9 => h9) rfl dX7_losses_2 ?_
  refine lv_bipush (v := nI 85) hx hb dX7_losses_5 rfl ?_
  refine q_iald hx hb hK hP 1 rfl (by omega) (by omega) dX7_losses_7 ?_
  refine q_top (show ((mS σ) (85)) = σ (85) from mS_c _ (by omega)) ?_
  refine q_wV0 (As := [.int (σ (85))]) (rest := []) (st1 := [.int (σ (85))]) ⟨hx, hb, hml, hown, hts⟩ (c_X7_told D cy A b σ saved many bef T len thr at_ le f1 f2 dn hs Z (σ (85))) (cwV 1 hts gX7_losses_X7_told rfl rfl rfl hd_X7_told ⟨Nat.le_of_ble_eq_true rfl, Nat.le_of_ble_eq_true rfl⟩) hK hA hw 0 rfl rfl rfl hl.1 rfl rfl (Nat.le_of_ble_eq_true rfl) ⟨Nat.zero_le _, Nat.zero_le _⟩ dX7_losses_8 (fun H locs hw => ?_)
  have hw : wS D A (wM cy b (mS σ) saved many bef T len 0 at_ le f1 f2 dn hs ++ Z) s H locs := hw
  have hP := hw.1
  exact q_iretW hx hb hr hlocks hw dX7_losses_11 (rfl)
set_option maxHeartbeats 1000000 in
set_option maxRecDepth 100000 in
theorem c_X7_lostBy {l : Launch} (D : va_G) (cy : ClassId) (A : Nat → Prop) (b : Nat → Nat) (σ saved : Nat → Int32) (many : Nat) (bef T : Nat → Int32) (len thr at_ : Nat) (le f1 f2 : Int32) (dn : Nat) (hs : Int64) (Z : va_W) (d : Nat) (h_0 : d < 7) (h_1 : Val σ) : Met l yX7_lostBy wsX7_lostBy (k2_rm 8 178) (gP D cy [.ref (b 0), .int (nI (d))] A (wM cy b (mS σ) saved many bef T len thr at_ le f1 f2 dn hs ++ Z)) (gQ D A (some (.int (nI (cl (failS σ d))))) (wM cy b (mS σ) saved many (cpG bef (mS σ) 0 0 86) T len thr at_ le f1 f2 dn hs ++ Z)) 0 0 A := by
  refine q_imp (cc := cX7_lostBy) (maxL := 3) (ret := (some .int)) pl_X7 rfl (Nat.le_of_ble_eq_true rfl) ?_
  intro p e s m below meth c ls hx hb hr hml hts hown hlocks hw hK hA hl
  have hP := hw.1
  have hl : lv_has ls 3 [(0, .ref (b 0)), (1, .int (nI (d)))] := hl
  refine lv_aload_n hx hb dX7_lostBy_0 rfl (lv_at hl 0 rfl) ?_
  refine va_get (D := D) (ci := 7) (v := .ref (b 1)) (C := RX7) (T := TX7) (N := 13) hx hb hts (fun _ h => List.mem_cons_of_mem _ (List.mem_append_right _ h)) hown hK hP 0 rfl rfl 0 (by decide) (hts (.fieldLink RX7 7 "SpreadParityModel" "s" "[I") (List.mem_of_getElem? (i := 1) rfl)) (fun _ h9 => h9) rfl dX7_lostBy_1 ?_
  refine lv_iconst (v := nI 0) hx hb dX7_lostBy_4 rfl ?_
  refine lv_aload_n hx hb dX7_lostBy_5 rfl (lv_at hl 0 rfl) ?_
  refine va_get (D := D) (ci := 7) (v := .ref (b 3)) (C := RX7) (T := TX7) (N := 13) hx hb hts (fun _ h => List.mem_cons_of_mem _ (List.mem_append_right _ h)) hown hK hP 0 rfl rfl 3 (by decide) (hts (.fieldLink RX7 16 "SpreadParityModel" "before" "[I") (List.mem_of_getElem? (i := 2) rfl)) (fun _ h9 => h9) rfl dX7_lostBy_6 ?_
  refine lv_iconst (v := nI 0) hx hb dX7_lostBy_9 rfl ?_
  refine q_wS0 (As := [.ref (b 1), .int (nI (0)), .ref (b 3), .int (nI (0))]) (rest := []) (st1 := []) ⟨hx, hb, hml, hown, hts⟩ (c_X7_copy D cy A (wM cy b (mS σ) saved many bef T len thr at_ le f1 f2 dn hs ++ Z) 1 3 (b 1) (b 3) 86 86 (mS σ) bef rfl rfl (by decide) (0) (0) (by omega) (by omega) (by omega) (by omega)) (va_cwS 4 hts gX7_lostBy_X7_copy rfl rfl rfl hd_X7_copy ⟨Nat.le_of_ble_eq_true rfl, Nat.le_of_ble_eq_true rfl⟩) hK hA hw rfl hl.1 rfl rfl (Nat.le_of_ble_eq_true rfl) ⟨Nat.zero_le _, Nat.zero_le _⟩ dX7_lostBy_10 (fun H locs hw => ?_)
  have hw : wS D A (wM cy b (mS σ) saved many (cpG bef (mS σ) (0) (0) 86) T len thr at_ le f1 f2 dn hs ++ Z) s H locs := hw
  have hP := hw.1
  refine lv_aload_n hx hb dX7_lostBy_13 rfl (lv_at hl 0 rfl) ?_
  refine lv_iload_n hx hb dX7_lostBy_14 rfl (lv_at hl 1 rfl) ?_
  refine q_wV0 (As := [.int (nI (d))]) (rest := []) (st1 := [.int (nI (cl (failS σ d)))]) ⟨hx, hb, hml, hown, hts⟩ (c_X7_doFail D cy A b σ saved many (cpG bef (mS σ) (0) (0) 86) T len thr at_ le f1 f2 dn hs Z (d) h_0 h_1) (cwV 1 hts gX7_lostBy_X7_doFail rfl rfl rfl hd_X7_doFail ⟨Nat.le_of_ble_eq_true rfl, Nat.le_of_ble_eq_true rfl⟩) hK hA hw 0 rfl rfl rfl hl.1 rfl rfl (Nat.le_of_ble_eq_true rfl) ⟨Nat.zero_le _, Nat.zero_le _⟩ dX7_lostBy_15 (fun H locs hw => ?_)
  have hw : wS D A (wM cy b (mS (failS σ d)) saved many (cpG bef (mS σ) (0) (0) 86) T len thr at_ le f1 f2 dn hs ++ Z) s H locs := hw
  have hP := hw.1
  refine lv_istore_n (lv' := [(2, .int (nI (cl (failS σ d)))), (0, .ref (b 0)), (1, .int (nI (d)))]) hx hb dX7_lostBy_18 rfl hl (by decide) rfl (fun ls hl => ?_)
  refine lv_aload_n hx hb dX7_lostBy_19 rfl (lv_at hl 1 rfl) ?_
  refine va_get (D := D) (ci := 7) (v := .ref (b 3)) (C := RX7) (T := TX7) (N := 13) hx hb hts (fun _ h => List.mem_cons_of_mem _ (List.mem_append_right _ h)) hown hK hP 0 rfl rfl 3 (by decide) (hts (.fieldLink RX7 16 "SpreadParityModel" "before" "[I") (List.mem_of_getElem? (i := 2) rfl)) (fun _ h9 => h9) rfl dX7_lostBy_20 ?_
  refine lv_iconst (v := nI 0) hx hb dX7_lostBy_23 rfl ?_
  refine lv_aload_n hx hb dX7_lostBy_24 rfl (lv_at hl 1 rfl) ?_
  refine va_get (D := D) (ci := 7) (v := .ref (b 1)) (C := RX7) (T := TX7) (N := 13) hx hb hts (fun _ h => List.mem_cons_of_mem _ (List.mem_append_right _ h)) hown hK hP 0 rfl rfl 0 (by decide) (hts (.fieldLink RX7 7 "SpreadParityModel" "s" "[I") (List.mem_of_getElem? (i := 1) rfl)) (fun _ h9 => h9) rfl dX7_lostBy_25 ?_
  refine lv_iconst (v := nI 0) hx hb dX7_lostBy_28 rfl ?_
  refine q_wS0 (As := [.ref (b 3), .int (nI (0)), .ref (b 1), .int (nI (0))]) (rest := []) (st1 := []) ⟨hx, hb, hml, hown, hts⟩ (c_X7_copy D cy A (wM cy b (mS (failS σ d)) saved many (cpG bef (mS σ) (0) (0) 86) T len thr at_ le f1 f2 dn hs ++ Z) 3 1 (b 3) (b 1) 86 86 (cpG bef (mS σ) (0) (0) 86) (mS (failS σ d)) rfl rfl (by decide) (0) (0) (by omega) (by omega) (by omega) (by omega)) (va_cwS 4 hts gX7_lostBy_X7_copy rfl rfl rfl hd_X7_copy ⟨Nat.le_of_ble_eq_true rfl, Nat.le_of_ble_eq_true rfl⟩) hK hA hw rfl hl.1 rfl rfl (Nat.le_of_ble_eq_true rfl) ⟨Nat.zero_le _, Nat.zero_le _⟩ dX7_lostBy_29 (fun H locs hw => ?_)
  have hw : wS D A (wM cy b (cpG (mS (failS σ d)) (cpG bef (mS σ) (0) (0) 86) (0) (0) 86) saved many (cpG bef (mS σ) (0) (0) 86) T len thr at_ le f1 f2 dn hs ++ Z) s H locs := hw
  have hP := hw.1
  refine lv_iload_n hx hb dX7_lostBy_32 rfl (lv_at hl 0 rfl) ?_
  rw [show cpG (mS (failS σ d)) (cpG bef (mS σ) (0) (0) 86) (0) (0) 86 = mS σ from lb_back σ bef h_0] at hw
  exact q_iretW hx hb hr hlocks hw dX7_lostBy_33 (rfl)
