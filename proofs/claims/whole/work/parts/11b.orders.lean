def ix (x : Int32) : Nat := x.toNatClampNeg
/-- why a write, a failure, a mending cannot be: the number of its exception, 0 if it can -/
def cWr (σ : Nat → Int32) (x v : Int32) : Nat := if inR x 42 = true then (if inR v 65536 = true then (if canW σ (ix x) = true then 0 else 3) else 2) else 1
def cFl (σ : Nat → Int32) (x : Int32) : Nat := if inR x 7 = true then (if σ (63 + ix x) = -1 then 2 else 0) else 1
def cBg (σ : Nat → Int32) (x : Int32) : Nat := if inR x 7 = true then (if ¬ σ (63 + ix x) = -1 ∨ σ 84 = 0 then 2 else 0) else 1
theorem ix_N {j : Nat} (h : j < 2 ^ 31) : ix (nI j) = j := nI_clamp h
theorem cWr_N {σ : Nat → Int32} {q v : Nat} (hq : q < 42) (hv : v < 65536) : cWr σ (nI q) (nI v) = if canW σ q = true then 0 else 3 := by
  rw [cWr, if_pos (inR_of hq (by omega)), if_pos (inR_of hv (by omega)), ix_N (by omega)]
theorem cFl_N {σ : Nat → Int32} {d : Nat} (hd : d < 7) : cFl σ (nI d) = if σ (63 + d) = -1 then 2 else 0 := by
  rw [cFl, if_pos (inR_of hd (by omega)), ix_N (by omega)]
theorem cBg_N {σ : Nat → Int32} {d : Nat} (hd : d < 7) : cBg σ (nI d) = if ¬ σ (63 + d) = -1 ∨ σ 84 = 0 then 2 else 0 := by
  rw [cBg, if_pos (inR_of hd (by omega)), ix_N (by omega)]
/-- an order as the text's grammar has it -/
def oOK (o : Nat × Option Nat × Option Nat) : Prop := (o.1 = 119 ∧ ∃ q v, o.2.1 = some q ∧ q < 42 ∧ o.2.2 = some v ∧ v < 65536) ∨ ((o.1 = 102 ∨ o.1 = 109) ∧ ∃ d, o.2.1 = some d ∧ d < 7) ∨ (o.1 = 115 ∧ ∃ n, o.2.1 = some n ∧ n ≤ 9) ∨ o.1 = 99
def gD (o : Option Nat) : Nat := o.getD 0
def errO (σ : Nat → Int32) (lc : Nat) (o1 : Option Nat) : Nat := if lc = 119 then (if canW σ (gD o1) = true then 0 else 3) else if lc = 102 then (if σ (63 + gD o1) = -1 then 2 else 0) else if lc = 109 then (if ¬ σ (63 + gD o1) = -1 ∨ σ 84 = 0 then 2 else 0) else 0
def doO (σ : Nat → Int32) (lc : Nat) (o1 o2 : Option Nat) : Nat → Int32 := if lc = 119 then wD σ (gD o1) (nI (gD o2)) else if lc = 102 then failS σ (gD o1) else if lc = 109 then begS σ (gD o1) else if lc = 115 then (mnS (gD o1) σ).1 else scS σ 21
def rvO (σ : Nat → Int32) (lc : Nat) (o1 : Option Nat) : Int32 := if lc = 119 then nI (wC σ (gD o1)) else if lc = 102 then nI (cl (failS σ (gD o1))) else if lc = 109 then begS σ (gD o1) 84 else if lc = 115 then nI (mnS (gD o1) σ).2 else nI (scC σ 21)

set_option maxHeartbeats 1000000 in
set_option maxRecDepth 100000 in
theorem c_X7_writeError {l : Launch} (D : va_G) (cy : ClassId) (b : Nat → Nat) (σ saved : Nat → Int32) (many : Nat) (bef T : Nat → Int32) (len thr at_ : Nat) (le f1 f2 : Int32) (dn : Nat) (hs : Int64) (Z : va_W) (x : Int32) (v : Int32) : Met l yX7_writeError wsX7_writeError (k2_rm 5 113) (gR D cy [.ref (b 0), .int (x), .int (v)] (wM cy b (mS σ) saved many bef T len thr at_ le f1 f2 dn hs ++ Z)) (k2_QcV (.int (nI (cWr σ x v)))) 0 0 (fun _ => False) := by
  refine q_pure (cc := cX7_writeError) (maxL := 3) (ret := (some .int)) pl_X7 rfl (Nat.le_of_ble_eq_true rfl) ?_
  intro p e s m below meth c ls hx hb hr hml hts hown hlocks hP hK hl
  have hl : lv_has ls 3 [(0, .ref (b 0)), (1, .int (x)), (2, .int (v))] := hl
  refine lv_iload_n hx hb dX7_writeError_0 rfl (lv_at hl 1 rfl) ?_
  refine q_cS (As := [.int (x)]) (rest := []) (w := []) ⟨hx, hb, hml, hown, hts⟩ (c_X7_isAddress D cy (x)) (va_cwS 1 hts gX7_writeError_X7_isAddress rfl rfl rfl hd_X7_isAddress ⟨Nat.le_of_ble_eq_true rfl, Nat.le_of_ble_eq_true rfl⟩) hK q_Pnil rfl hl.1 rfl (Nat.le_of_ble_eq_true rfl) ⟨Nat.zero_le _, Nat.zero_le _⟩ dX7_writeError_1 ?_
  refine q_ifneB (tgt := 11) hx hb dX7_writeError_4 (by decide) (fun c_4 => ?_) (fun c_4 => ?_)
  · refine lv_iload_n hx hb dX7_writeError_11 rfl (lv_at hl 2 rfl) ?_
    refine lv_iconst (v := nI 0) hx hb dX7_writeError_12 rfl ?_
    refine lv_ldc (v  := nI 65535) hx hb hown (hts (.constant RX7 105 (65535)) (List.mem_of_getElem? (i := 1) rfl)) dX7_writeError_13 ?_
    refine q_cS (As := [.int (v), .int (nI (0)), .int (nI (65535))]) (rest := []) (w := []) ⟨hx, hb, hml, hown, hts⟩ (c_X7_in D cy (v) (0) (65535)) (va_cwS 3 hts gX7_writeError_X7_in rfl rfl rfl hd_X7_in ⟨Nat.le_of_ble_eq_true rfl, Nat.le_of_ble_eq_true rfl⟩) hK q_Pnil rfl hl.1 rfl (Nat.le_of_ble_eq_true rfl) ⟨Nat.zero_le _, Nat.zero_le _⟩ dX7_writeError_15 ?_
    refine q_top (show (bI (inB v 0 65535)) = bI (inR v 65536) from congrArg bI (inB_R (by omega))) ?_
    refine q_ifneB (tgt := 25) hx hb dX7_writeError_18 (by decide) (fun c_18 => ?_) (fun c_18 => ?_)
    · obtain ⟨j, h_j, e_j⟩ := inR_nI c_4
      have x_j : ix x = j := by rw [e_j]; exact nI_clamp (by omega)
      have hl : lv_has ls 3 [(0, .ref (b 0)), (1, .int (nI (j))), (2, .int (v))] := by rw [← e_j]; exact hl
      refine lv_aload_n hx hb dX7_writeError_25 rfl (lv_at hl 0 rfl) ?_
      refine lv_iload_n hx hb dX7_writeError_26 rfl (lv_at hl 1 rfl) ?_
      refine q_cV (As := [.int (nI (j))]) (rest := []) ⟨hx, hb, hml, hown, hts⟩ (c_X7_canWrite D cy b σ saved many bef T len thr at_ le f1 f2 dn hs Z (j) h_j) (cwV 1 hts gX7_writeError_X7_canWrite rfl rfl rfl hd_X7_canWrite ⟨Nat.le_of_ble_eq_true rfl, Nat.le_of_ble_eq_true rfl⟩) hK hP 0 rfl rfl rfl hl.1 rfl (Nat.le_of_ble_eq_true rfl) ⟨Nat.zero_le _, Nat.zero_le _⟩ dX7_writeError_27 ?_
      refine q_ifeqB (tgt := 37) hx hb dX7_writeError_30 (by decide) (fun c_30 => ?_) (fun c_30 => ?_)
      · refine lv_iconst (v := nI 3) hx hb dX7_writeError_37 rfl ?_
        exact q_iret hx hb hr hlocks dX7_writeError_38 (by rw [cWr, if_pos c_4, if_pos c_18, x_j, if_neg (by rw [c_30]; decide)])
      · refine lv_iconst (v := nI 0) hx hb dX7_writeError_33 rfl ?_
        refine lv_goto (tgt := 38) hx hb dX7_writeError_34 (by decide) ?_
        exact q_iret hx hb hr hlocks dX7_writeError_38 (by rw [cWr, if_pos c_4, if_pos c_18, x_j, if_pos c_30])
    · refine lv_iconst (v := nI 2) hx hb dX7_writeError_21 rfl ?_
      refine lv_goto (tgt := 38) hx hb dX7_writeError_22 (by decide) ?_
      exact q_iret hx hb hr hlocks dX7_writeError_38 (by rw [cWr, if_pos c_4, if_neg (by rw [c_18]; decide)])
  · refine lv_iconst (v := nI 1) hx hb dX7_writeError_7 rfl ?_
    refine lv_goto (tgt := 38) hx hb dX7_writeError_8 (by decide) ?_
    exact q_iret hx hb hr hlocks dX7_writeError_38 (by rw [cWr, if_neg (by rw [c_4]; decide)])
set_option maxHeartbeats 1000000 in
set_option maxRecDepth 100000 in
theorem c_X7_failError {l : Launch} (D : va_G) (cy : ClassId) (b : Nat → Nat) (σ saved : Nat → Int32) (many : Nat) (bef T : Nat → Int32) (len thr at_ : Nat) (le f1 f2 : Int32) (dn : Nat) (hs : Int64) (Z : va_W) (x : Int32) : Met l yX7_failError wsX7_failError (k2_rm 2 42) (gR D cy [.ref (b 0), .int (x)] (wM cy b (mS σ) saved many bef T len thr at_ le f1 f2 dn hs ++ Z)) (k2_QcV (.int (nI (cFl σ x)))) 0 0 (fun _ => False) := by
  refine q_pure (cc := cX7_failError) (maxL := 2) (ret := (some .int)) pl_X7 rfl (Nat.le_of_ble_eq_true rfl) ?_
  intro p e s m below meth c ls hx hb hr hml hts hown hlocks hP hK hl
  have hl : lv_has ls 2 [(0, .ref (b 0)), (1, .int (x))] := hl
  refine lv_iload_n hx hb dX7_failError_0 rfl (lv_at hl 1 rfl) ?_
  refine q_cS (As := [.int (x)]) (rest := []) (w := []) ⟨hx, hb, hml, hown, hts⟩ (c_X7_isDisc D cy (x)) (va_cwS 1 hts gX7_failError_X7_isDisc rfl rfl rfl hd_X7_isDisc ⟨Nat.le_of_ble_eq_true rfl, Nat.le_of_ble_eq_true rfl⟩) hK q_Pnil rfl hl.1 rfl (Nat.le_of_ble_eq_true rfl) ⟨Nat.zero_le _, Nat.zero_le _⟩ dX7_failError_1 ?_
  refine q_ifneB (tgt := 11) hx hb dX7_failError_4 (by decide) (fun c_4 => ?_) (fun c_4 => ?_)
  · obtain ⟨j, h_j, e_j⟩ := inR_nI c_4
    have x_j : ix x = j := by rw [e_j]; exact nI_clamp (by omega)
    have hl : lv_has ls 2 [(0, .ref (b 0)), (1, .int (nI (j)))] := by rw [← e_j]; exact hl
    refine lv_aload_n hx hb dX7_failError_11 rfl (lv_at hl 0 rfl) ?_
    refine va_get (D := D) (ci := 7) (v := .ref (b 1)) (C := RX7) (T := TX7) (N := 13) hx hb hts (fun _ h => List.mem_cons_of_mem _ (List.mem_append_right _ h)) hown hK hP 0 rfl rfl 0 (by decide) (hts (.fieldLink RX7 7 "SpreadParityModel" "s" "[I") (List.mem_of_getElem? (i := 1) rfl)) (fun _ h9 => h9) rfl dX7_failError_12 ?_
    refine lv_iconst (v := nI 0) hx hb dX7_failError_15 rfl ?_
    refine lv_iload_n hx hb dX7_failError_16 rfl (lv_at hl 1 rfl) ?_
    refine q_addN hx hb dX7_failError_17 ?_
    refine q_iald hx hb hK hP 1 rfl (by omega) (by omega) dX7_failError_18 ?_
    refine q_top (show ((mS σ) (0 + j)) = σ (63 + j) from mS_p _ (by omega)) ?_
    refine lv_iconst (v := -1) hx hb dX7_failError_19 rfl ?_
    refine lv_icmp_ne (tgt := 27) hx hb dX7_failError_20 (by decide) (fun (c_20 : ¬ (σ (63 + j)) = (-1)) => ?_) (fun (c_20 : (σ (63 + j)) = (-1)) => ?_)
    · refine lv_iconst (v := nI 0) hx hb dX7_failError_27 rfl ?_
      exact q_iret hx hb hr hlocks dX7_failError_28 (by rw [cFl, if_pos c_4, x_j, if_neg c_20])
    · refine lv_iconst (v := nI 2) hx hb dX7_failError_23 rfl ?_
      refine lv_goto (tgt := 28) hx hb dX7_failError_24 (by decide) ?_
      exact q_iret hx hb hr hlocks dX7_failError_28 (by rw [cFl, if_pos c_4, x_j, if_pos c_20])
  · refine lv_iconst (v := nI 1) hx hb dX7_failError_7 rfl ?_
    refine lv_goto (tgt := 28) hx hb dX7_failError_8 (by decide) ?_
    exact q_iret hx hb hr hlocks dX7_failError_28 (by rw [cFl, if_neg (by rw [c_4]; decide)])
set_option maxHeartbeats 1000000 in
set_option maxRecDepth 100000 in
theorem c_X7_beginError {l : Launch} (D : va_G) (cy : ClassId) (b : Nat → Nat) (σ saved : Nat → Int32) (many : Nat) (bef T : Nat → Int32) (len thr at_ : Nat) (le f1 f2 : Int32) (dn : Nat) (hs : Int64) (Z : va_W) (x : Int32) : Met l yX7_beginError wsX7_beginError (k2_rm 2 42) (gR D cy [.ref (b 0), .int (x)] (wM cy b (mS σ) saved many bef T len thr at_ le f1 f2 dn hs ++ Z)) (k2_QcV (.int (nI (cBg σ x)))) 0 0 (fun _ => False) := by
  refine q_pure (cc := cX7_beginError) (maxL := 2) (ret := (some .int)) pl_X7 rfl (Nat.le_of_ble_eq_true rfl) ?_
  intro p e s m below meth c ls hx hb hr hml hts hown hlocks hP hK hl
  have hl : lv_has ls 2 [(0, .ref (b 0)), (1, .int (x))] := hl
  refine lv_iload_n hx hb dX7_beginError_0 rfl (lv_at hl 1 rfl) ?_
  refine q_cS (As := [.int (x)]) (rest := []) (w := []) ⟨hx, hb, hml, hown, hts⟩ (c_X7_isDisc D cy (x)) (va_cwS 1 hts gX7_beginError_X7_isDisc rfl rfl rfl hd_X7_isDisc ⟨Nat.le_of_ble_eq_true rfl, Nat.le_of_ble_eq_true rfl⟩) hK q_Pnil rfl hl.1 rfl (Nat.le_of_ble_eq_true rfl) ⟨Nat.zero_le _, Nat.zero_le _⟩ dX7_beginError_1 ?_
  refine q_ifneB (tgt := 11) hx hb dX7_beginError_4 (by decide) (fun c_4 => ?_) (fun c_4 => ?_)
  · obtain ⟨j, h_j, e_j⟩ := inR_nI c_4
    have x_j : ix x = j := by rw [e_j]; exact nI_clamp (by omega)
    have hl : lv_has ls 2 [(0, .ref (b 0)), (1, .int (nI (j)))] := by rw [← e_j]; exact hl
    refine lv_aload_n hx hb dX7_beginError_11 rfl (lv_at hl 0 rfl) ?_
    refine va_get (D := D) (ci := 7) (v := .ref (b 1)) (C := RX7) (T := TX7) (N := 13) hx hb hts (fun _ h => List.mem_cons_of_mem _ (List.mem_append_right _ h)) hown hK hP 0 rfl rfl 0 (by decide) (hts (.fieldLink RX7 7 "SpreadParityModel" "s" "[I") (List.mem_of_getElem? (i := 1) rfl)) (fun _ h9 => h9) rfl dX7_beginError_12 ?_
    refine lv_iconst (v := nI 0) hx hb dX7_beginError_15 rfl ?_
    refine lv_iload_n hx hb dX7_beginError_16 rfl (lv_at hl 1 rfl) ?_
    refine q_addN hx hb dX7_beginError_17 ?_
    refine q_iald hx hb hK hP 1 rfl (by omega) (by omega) dX7_beginError_18 ?_
    refine q_top (show ((mS σ) (0 + j)) = σ (63 + j) from mS_p _ (by omega)) ?_
    refine lv_iconst (v := -1) hx hb dX7_beginError_19 rfl ?_
    refine lv_icmp_ne (tgt := 33) hx hb dX7_beginError_20 (by decide) (fun (c_20 : ¬ (σ (63 + j)) = (-1)) => ?_) (fun (c_20 : (σ (63 + j)) = (-1)) => ?_)
    · refine lv_iconst (v := nI 2) hx hb dX7_beginError_33 rfl ?_
      refine lv_goto (tgt := 38) hx hb dX7_beginError_34 (by decide) ?_
      exact q_iret hx hb hr hlocks dX7_beginError_38 (by rw [cBg, if_pos c_4, x_j, if_pos (Or.inl c_20)])
    · refine lv_aload_n hx hb dX7_beginError_23 rfl (lv_at hl 0 rfl) ?_
      refine va_get (D := D) (ci := 7) (v := .ref (b 1)) (C := RX7) (T := TX7) (N := 13) hx hb hts (fun _ h => List.mem_cons_of_mem _ (List.mem_append_right _ h)) hown hK hP 0 rfl rfl 0 (by decide) (hts (.fieldLink RX7 7 "SpreadParityModel" "s" "[I") (List.mem_of_getElem? (i := 1) rfl)) (fun _ h9 => h9) rfl dX7_beginError_24 ?_
      refine lv_bipush (v := nI 84) hx hb dX7_beginError_27 rfl ?_
      refine q_iald hx hb hK hP 1 rfl (by omega) (by omega) dX7_beginError_29 ?_
      refine q_top (show ((mS σ) (84)) = σ (84) from mS_c _ (by omega)) ?_
      refine lv_if_ne (tgt := 37) hx hb dX7_beginError_30 (by decide) (fun (c_30 : ¬ (σ (84)) = 0) => ?_) (fun (c_30 : (σ (84)) = 0) => ?_)
      · refine lv_iconst (v := nI 0) hx hb dX7_beginError_37 rfl ?_
        exact q_iret hx hb hr hlocks dX7_beginError_38 (by rw [cBg, if_pos c_4, x_j, if_neg (fun h => h.elim (fun q => q c_20) c_30)])
      · refine lv_iconst (v := nI 2) hx hb dX7_beginError_33 rfl ?_
        refine lv_goto (tgt := 38) hx hb dX7_beginError_34 (by decide) ?_
        exact q_iret hx hb hr hlocks dX7_beginError_38 (by rw [cBg, if_pos c_4, x_j, if_pos (Or.inr c_30)])
  · refine lv_iconst (v := nI 1) hx hb dX7_beginError_7 rfl ?_
    refine lv_goto (tgt := 38) hx hb dX7_beginError_8 (by decide) ?_
    exact q_iret hx hb hr hlocks dX7_beginError_38 (by rw [cBg, if_neg (by rw [c_4]; decide)])
set_option maxHeartbeats 1000000 in
set_option maxRecDepth 100000 in
theorem c_X7_errorOfOrder_w {l : Launch} (D : va_G) (cy : ClassId) (b : Nat → Nat) (σ saved : Nat → Int32) (many : Nat) (bef T : Nat → Int32) (len thr at_ : Nat) (le f1 f2 : Int32) (dn : Nat) (hs : Int64) (Z : va_W) (q v : Nat) (h_0 : q < 42) (h_1 : v < 65536) : Met l yX7_errorOfOrder wsX7_errorOfOrder (k2_rm 6 135) (gR D cy [.ref (b 0)] (wM cy b (mS σ) saved many bef T len thr at_ (nI (119)) (nI (q)) (nI (v)) dn hs ++ Z)) (k2_QcV (.int (nI (if canW σ q = true then 0 else 3)))) 0 0 (fun _ => False) := by
  refine q_pure (cc := cX7_errorOfOrder) (maxL := 1) (ret := (some .int)) pl_X7 rfl (Nat.le_of_ble_eq_true rfl) ?_
  intro p e s m below meth c ls hx hb hr hml hts hown hlocks hP hK hl
  have hl : lv_has ls 1 [(0, .ref (b 0))] := hl
  refine lv_aload_n hx hb dX7_errorOfOrder_0 rfl (lv_at hl 0 rfl) ?_
  refine va_get (D := D) (ci := 7) (v := .int (nI (119))) (C := RX7) (T := TX7) (N := 13) hx hb hts (fun _ h => List.mem_cons_of_mem _ (List.mem_append_right _ h)) hown hK hP 0 rfl rfl 8 (by decide) (hts (.fieldLink RX7 172 "SpreadParityModel" "letter" "I") (List.mem_of_getElem? (i := 1) rfl)) (fun _ h9 => h9) rfl dX7_errorOfOrder_1 ?_
  refine lv_bipush (v := nI 119) hx hb dX7_errorOfOrder_4 rfl ?_
  refine q_neN (tgt := 24) hx hb dX7_errorOfOrder_6 (by decide) (by omega) (by omega) (fun c_6 => absurd c_6 (by omega)) (fun c_6 => ?_)
  refine lv_aload_n hx hb dX7_errorOfOrder_9 rfl (lv_at hl 0 rfl) ?_
  refine lv_aload_n hx hb dX7_errorOfOrder_10 rfl (lv_at hl 0 rfl) ?_
  refine va_get (D := D) (ci := 7) (v := .int (nI (q))) (C := RX7) (T := TX7) (N := 13) hx hb hts (fun _ h => List.mem_cons_of_mem _ (List.mem_append_right _ h)) hown hK hP 0 rfl rfl 9 (by decide) (hts (.fieldLink RX7 178 "SpreadParityModel" "first" "I") (List.mem_of_getElem? (i := 2) rfl)) (fun _ h9 => h9) rfl dX7_errorOfOrder_11 ?_
  refine lv_aload_n hx hb dX7_errorOfOrder_14 rfl (lv_at hl 0 rfl) ?_
  refine va_get (D := D) (ci := 7) (v := .int (nI (v))) (C := RX7) (T := TX7) (N := 13) hx hb hts (fun _ h => List.mem_cons_of_mem _ (List.mem_append_right _ h)) hown hK hP 0 rfl rfl 10 (by decide) (hts (.fieldLink RX7 184 "SpreadParityModel" "second" "I") (List.mem_of_getElem? (i := 3) rfl)) (fun _ h9 => h9) rfl dX7_errorOfOrder_15 ?_
  refine q_cV (As := [.int (nI (q)), .int (nI (v))]) (rest := []) ⟨hx, hb, hml, hown, hts⟩ (c_X7_writeError D cy b σ saved many bef T len thr at_ (nI (119)) (nI (q)) (nI (v)) dn hs Z (nI (q)) (nI (v))) (cwV 2 hts gX7_errorOfOrder_X7_writeError rfl rfl rfl hd_X7_writeError ⟨Nat.le_of_ble_eq_true rfl, Nat.le_of_ble_eq_true rfl⟩) hK hP 0 rfl rfl rfl hl.1 rfl (Nat.le_of_ble_eq_true rfl) ⟨Nat.zero_le _, Nat.zero_le _⟩ dX7_errorOfOrder_18 ?_
  refine q_top (show (nI (cWr σ (nI (q)) (nI (v)))) = nI (if canW σ q = true then 0 else 3) from congrArg nI (cWr_N h_0 h_1)) ?_
  refine lv_goto (tgt := 65) hx hb dX7_errorOfOrder_21 (by decide) ?_
  exact q_iret hx hb hr hlocks dX7_errorOfOrder_65 (rfl)
set_option maxHeartbeats 1000000 in
set_option maxRecDepth 100000 in
theorem c_X7_errorOfOrder_f {l : Launch} (D : va_G) (cy : ClassId) (b : Nat → Nat) (σ saved : Nat → Int32) (many : Nat) (bef T : Nat → Int32) (len thr at_ : Nat) (le f1 f2 : Int32) (dn : Nat) (hs : Int64) (Z : va_W) (d : Nat) (h_0 : d < 7) : Met l yX7_errorOfOrder wsX7_errorOfOrder (k2_rm 6 135) (gR D cy [.ref (b 0)] (wM cy b (mS σ) saved many bef T len thr at_ (nI (102)) (nI (d)) f2 dn hs ++ Z)) (k2_QcV (.int (nI (if σ (63 + d) = -1 then 2 else 0)))) 0 0 (fun _ => False) := by
  refine q_pure (cc := cX7_errorOfOrder) (maxL := 1) (ret := (some .int)) pl_X7 rfl (Nat.le_of_ble_eq_true rfl) ?_
  intro p e s m below meth c ls hx hb hr hml hts hown hlocks hP hK hl
  have hl : lv_has ls 1 [(0, .ref (b 0))] := hl
  refine lv_aload_n hx hb dX7_errorOfOrder_0 rfl (lv_at hl 0 rfl) ?_
  refine va_get (D := D) (ci := 7) (v := .int (nI (102))) (C := RX7) (T := TX7) (N := 13) hx hb hts (fun _ h => List.mem_cons_of_mem _ (List.mem_append_right _ h)) hown hK hP 0 rfl rfl 8 (by decide) (hts (.fieldLink RX7 172 "SpreadParityModel" "letter" "I") (List.mem_of_getElem? (i := 1) rfl)) (fun _ h9 => h9) rfl dX7_errorOfOrder_1 ?_
  refine lv_bipush (v := nI 119) hx hb dX7_errorOfOrder_4 rfl ?_
  refine q_neN (tgt := 24) hx hb dX7_errorOfOrder_6 (by decide) (by omega) (by omega) (fun c_6 => ?_) (fun c_6 => absurd c_6 (by omega))
  refine lv_aload_n hx hb dX7_errorOfOrder_24 rfl (lv_at hl 0 rfl) ?_
  refine va_get (D := D) (ci := 7) (v := .int (nI (102))) (C := RX7) (T := TX7) (N := 13) hx hb hts (fun _ h => List.mem_cons_of_mem _ (List.mem_append_right _ h)) hown hK hP 0 rfl rfl 8 (by decide) (hts (.fieldLink RX7 172 "SpreadParityModel" "letter" "I") (List.mem_of_getElem? (i := 1) rfl)) (fun _ h9 => h9) rfl dX7_errorOfOrder_25 ?_
  refine lv_bipush (v := nI 102) hx hb dX7_errorOfOrder_28 rfl ?_
  refine q_neN (tgt := 44) hx hb dX7_errorOfOrder_30 (by decide) (by omega) (by omega) (fun c_30 => absurd c_30 (by omega)) (fun c_30 => ?_)
  refine lv_aload_n hx hb dX7_errorOfOrder_33 rfl (lv_at hl 0 rfl) ?_
  refine lv_aload_n hx hb dX7_errorOfOrder_34 rfl (lv_at hl 0 rfl) ?_
  refine va_get (D := D) (ci := 7) (v := .int (nI (d))) (C := RX7) (T := TX7) (N := 13) hx hb hts (fun _ h => List.mem_cons_of_mem _ (List.mem_append_right _ h)) hown hK hP 0 rfl rfl 9 (by decide) (hts (.fieldLink RX7 178 "SpreadParityModel" "first" "I") (List.mem_of_getElem? (i := 2) rfl)) (fun _ h9 => h9) rfl dX7_errorOfOrder_35 ?_
  refine q_cV (As := [.int (nI (d))]) (rest := []) ⟨hx, hb, hml, hown, hts⟩ (c_X7_failError D cy b σ saved many bef T len thr at_ (nI (102)) (nI (d)) f2 dn hs Z (nI (d))) (cwV 1 hts gX7_errorOfOrder_X7_failError rfl rfl rfl hd_X7_failError ⟨Nat.le_of_ble_eq_true rfl, Nat.le_of_ble_eq_true rfl⟩) hK hP 0 rfl rfl rfl hl.1 rfl (Nat.le_of_ble_eq_true rfl) ⟨Nat.zero_le _, Nat.zero_le _⟩ dX7_errorOfOrder_38 ?_
  refine q_top (show (nI (cFl σ (nI (d)))) = nI (if σ (63 + d) = -1 then 2 else 0) from congrArg nI (cFl_N h_0)) ?_
  refine lv_goto (tgt := 65) hx hb dX7_errorOfOrder_41 (by decide) ?_
  exact q_iret hx hb hr hlocks dX7_errorOfOrder_65 (rfl)
set_option maxHeartbeats 1000000 in
set_option maxRecDepth 100000 in
theorem c_X7_errorOfOrder_m {l : Launch} (D : va_G) (cy : ClassId) (b : Nat → Nat) (σ saved : Nat → Int32) (many : Nat) (bef T : Nat → Int32) (len thr at_ : Nat) (le f1 f2 : Int32) (dn : Nat) (hs : Int64) (Z : va_W) (d : Nat) (h_0 : d < 7) : Met l yX7_errorOfOrder wsX7_errorOfOrder (k2_rm 6 135) (gR D cy [.ref (b 0)] (wM cy b (mS σ) saved many bef T len thr at_ (nI (109)) (nI (d)) f2 dn hs ++ Z)) (k2_QcV (.int (nI (if ¬ σ (63 + d) = -1 ∨ σ 84 = 0 then 2 else 0)))) 0 0 (fun _ => False) := by
  refine q_pure (cc := cX7_errorOfOrder) (maxL := 1) (ret := (some .int)) pl_X7 rfl (Nat.le_of_ble_eq_true rfl) ?_
  intro p e s m below meth c ls hx hb hr hml hts hown hlocks hP hK hl
  have hl : lv_has ls 1 [(0, .ref (b 0))] := hl
  refine lv_aload_n hx hb dX7_errorOfOrder_0 rfl (lv_at hl 0 rfl) ?_
  refine va_get (D := D) (ci := 7) (v := .int (nI (109))) (C := RX7) (T := TX7) (N := 13) hx hb hts (fun _ h => List.mem_cons_of_mem _ (List.mem_append_right _ h)) hown hK hP 0 rfl rfl 8 (by decide) (hts (.fieldLink RX7 172 "SpreadParityModel" "letter" "I") (List.mem_of_getElem? (i := 1) rfl)) (fun _ h9 => h9) rfl dX7_errorOfOrder_1 ?_
  refine lv_bipush (v := nI 119) hx hb dX7_errorOfOrder_4 rfl ?_
  refine q_neN (tgt := 24) hx hb dX7_errorOfOrder_6 (by decide) (by omega) (by omega) (fun c_6 => ?_) (fun c_6 => absurd c_6 (by omega))
  refine lv_aload_n hx hb dX7_errorOfOrder_24 rfl (lv_at hl 0 rfl) ?_
  refine va_get (D := D) (ci := 7) (v := .int (nI (109))) (C := RX7) (T := TX7) (N := 13) hx hb hts (fun _ h => List.mem_cons_of_mem _ (List.mem_append_right _ h)) hown hK hP 0 rfl rfl 8 (by decide) (hts (.fieldLink RX7 172 "SpreadParityModel" "letter" "I") (List.mem_of_getElem? (i := 1) rfl)) (fun _ h9 => h9) rfl dX7_errorOfOrder_25 ?_
  refine lv_bipush (v := nI 102) hx hb dX7_errorOfOrder_28 rfl ?_
  refine q_neN (tgt := 44) hx hb dX7_errorOfOrder_30 (by decide) (by omega) (by omega) (fun c_30 => ?_) (fun c_30 => absurd c_30 (by omega))
  refine lv_aload_n hx hb dX7_errorOfOrder_44 rfl (lv_at hl 0 rfl) ?_
  refine va_get (D := D) (ci := 7) (v := .int (nI (109))) (C := RX7) (T := TX7) (N := 13) hx hb hts (fun _ h => List.mem_cons_of_mem _ (List.mem_append_right _ h)) hown hK hP 0 rfl rfl 8 (by decide) (hts (.fieldLink RX7 172 "SpreadParityModel" "letter" "I") (List.mem_of_getElem? (i := 1) rfl)) (fun _ h9 => h9) rfl dX7_errorOfOrder_45 ?_
  refine lv_bipush (v := nI 109) hx hb dX7_errorOfOrder_48 rfl ?_
  refine q_neN (tgt := 64) hx hb dX7_errorOfOrder_50 (by decide) (by omega) (by omega) (fun c_50 => absurd c_50 (by omega)) (fun c_50 => ?_)
  refine lv_aload_n hx hb dX7_errorOfOrder_53 rfl (lv_at hl 0 rfl) ?_
  refine lv_aload_n hx hb dX7_errorOfOrder_54 rfl (lv_at hl 0 rfl) ?_
  refine va_get (D := D) (ci := 7) (v := .int (nI (d))) (C := RX7) (T := TX7) (N := 13) hx hb hts (fun _ h => List.mem_cons_of_mem _ (List.mem_append_right _ h)) hown hK hP 0 rfl rfl 9 (by decide) (hts (.fieldLink RX7 178 "SpreadParityModel" "first" "I") (List.mem_of_getElem? (i := 2) rfl)) (fun _ h9 => h9) rfl dX7_errorOfOrder_55 ?_
  refine q_cV (As := [.int (nI (d))]) (rest := []) ⟨hx, hb, hml, hown, hts⟩ (c_X7_beginError D cy b σ saved many bef T len thr at_ (nI (109)) (nI (d)) f2 dn hs Z (nI (d))) (cwV 1 hts gX7_errorOfOrder_X7_beginError rfl rfl rfl hd_X7_beginError ⟨Nat.le_of_ble_eq_true rfl, Nat.le_of_ble_eq_true rfl⟩) hK hP 0 rfl rfl rfl hl.1 rfl (Nat.le_of_ble_eq_true rfl) ⟨Nat.zero_le _, Nat.zero_le _⟩ dX7_errorOfOrder_58 ?_
  refine q_top (show (nI (cBg σ (nI (d)))) = nI (if ¬ σ (63 + d) = -1 ∨ σ 84 = 0 then 2 else 0) from congrArg nI (cBg_N h_0)) ?_
  refine lv_goto (tgt := 65) hx hb dX7_errorOfOrder_61 (by decide) ?_
  exact q_iret hx hb hr hlocks dX7_errorOfOrder_65 (rfl)
set_option maxHeartbeats 1000000 in
set_option maxRecDepth 100000 in
theorem c_X7_errorOfOrder_s {l : Launch} (D : va_G) (cy : ClassId) (b : Nat → Nat) (σ saved : Nat → Int32) (many : Nat) (bef T : Nat → Int32) (len thr at_ : Nat) (le f1 f2 : Int32) (dn : Nat) (hs : Int64) (Z : va_W) : Met l yX7_errorOfOrder wsX7_errorOfOrder (k2_rm 6 135) (gR D cy [.ref (b 0)] (wM cy b (mS σ) saved many bef T len thr at_ (nI (115)) f1 f2 dn hs ++ Z)) (k2_QcV (.int (nI (0)))) 0 0 (fun _ => False) := by
  refine q_pure (cc := cX7_errorOfOrder) (maxL := 1) (ret := (some .int)) pl_X7 rfl (Nat.le_of_ble_eq_true rfl) ?_
  intro p e s m below meth c ls hx hb hr hml hts hown hlocks hP hK hl
  have hl : lv_has ls 1 [(0, .ref (b 0))] := hl
  refine lv_aload_n hx hb dX7_errorOfOrder_0 rfl (lv_at hl 0 rfl) ?_
  refine va_get (D := D) (ci := 7) (v := .int (nI (115))) (C := RX7) (T := TX7) (N := 13) hx hb hts (fun _ h => List.mem_cons_of_mem _ (List.mem_append_right _ h)) hown hK hP 0 rfl rfl 8 (by decide) (hts (.fieldLink RX7 172 "SpreadParityModel" "letter" "I") (List.mem_of_getElem? (i := 1) rfl)) (fun _ h9 => h9) rfl dX7_errorOfOrder_1 ?_
  refine lv_bipush (v := nI 119) hx hb dX7_errorOfOrder_4 rfl ?_
  refine q_neN (tgt := 24) hx hb dX7_errorOfOrder_6 (by decide) (by omega) (by omega) (fun c_6 => ?_) (fun c_6 => absurd c_6 (by omega))
  refine lv_aload_n hx hb dX7_errorOfOrder_24 rfl (lv_at hl 0 rfl) ?_
  refine va_get (D := D) (ci := 7) (v := .int (nI (115))) (C := RX7) (T := TX7) (N := 13) hx hb hts (fun _ h => List.mem_cons_of_mem _ (List.mem_append_right _ h)) hown hK hP 0 rfl rfl 8 (by decide) (hts (.fieldLink RX7 172 "SpreadParityModel" "letter" "I") (List.mem_of_getElem? (i := 1) rfl)) (fun _ h9 => h9) rfl dX7_errorOfOrder_25 ?_
  refine lv_bipush (v := nI 102) hx hb dX7_errorOfOrder_28 rfl ?_
  refine q_neN (tgt := 44) hx hb dX7_errorOfOrder_30 (by decide) (by omega) (by omega) (fun c_30 => ?_) (fun c_30 => absurd c_30 (by omega))
  refine lv_aload_n hx hb dX7_errorOfOrder_44 rfl (lv_at hl 0 rfl) ?_
  refine va_get (D := D) (ci := 7) (v := .int (nI (115))) (C := RX7) (T := TX7) (N := 13) hx hb hts (fun _ h => List.mem_cons_of_mem _ (List.mem_append_right _ h)) hown hK hP 0 rfl rfl 8 (by decide) (hts (.fieldLink RX7 172 "SpreadParityModel" "letter" "I") (List.mem_of_getElem? (i := 1) rfl)) (fun _ h9 => h9) rfl dX7_errorOfOrder_45 ?_
  refine lv_bipush (v := nI 109) hx hb dX7_errorOfOrder_48 rfl ?_
  refine q_neN (tgt := 64) hx hb dX7_errorOfOrder_50 (by decide) (by omega) (by omega) (fun c_50 => ?_) (fun c_50 => absurd c_50 (by omega))
  refine lv_iconst (v := nI 0) hx hb dX7_errorOfOrder_64 rfl ?_
  exact q_iret hx hb hr hlocks dX7_errorOfOrder_65 (rfl)
set_option maxHeartbeats 1000000 in
set_option maxRecDepth 100000 in
theorem c_X7_errorOfOrder_c {l : Launch} (D : va_G) (cy : ClassId) (b : Nat → Nat) (σ saved : Nat → Int32) (many : Nat) (bef T : Nat → Int32) (len thr at_ : Nat) (le f1 f2 : Int32) (dn : Nat) (hs : Int64) (Z : va_W) : Met l yX7_errorOfOrder wsX7_errorOfOrder (k2_rm 6 135) (gR D cy [.ref (b 0)] (wM cy b (mS σ) saved many bef T len thr at_ (nI (99)) f1 f2 dn hs ++ Z)) (k2_QcV (.int (nI (0)))) 0 0 (fun _ => False) := by
  refine q_pure (cc := cX7_errorOfOrder) (maxL := 1) (ret := (some .int)) pl_X7 rfl (Nat.le_of_ble_eq_true rfl) ?_
  intro p e s m below meth c ls hx hb hr hml hts hown hlocks hP hK hl
  have hl : lv_has ls 1 [(0, .ref (b 0))] := hl
  refine lv_aload_n hx hb dX7_errorOfOrder_0 rfl (lv_at hl 0 rfl) ?_
  refine va_get (D := D) (ci := 7) (v := .int (nI (99))) (C := RX7) (T := TX7) (N := 13) hx hb hts (fun _ h => List.mem_cons_of_mem _ (List.mem_append_right _ h)) hown hK hP 0 rfl rfl 8 (by decide) (hts (.fieldLink RX7 172 "SpreadParityModel" "letter" "I") (List.mem_of_getElem? (i := 1) rfl)) (fun _ h9 => h9) rfl dX7_errorOfOrder_1 ?_
  refine lv_bipush (v := nI 119) hx hb dX7_errorOfOrder_4 rfl ?_
  refine q_neN (tgt := 24) hx hb dX7_errorOfOrder_6 (by decide) (by omega) (by omega) (fun c_6 => ?_) (fun c_6 => absurd c_6 (by omega))
  refine lv_aload_n hx hb dX7_errorOfOrder_24 rfl (lv_at hl 0 rfl) ?_
  refine va_get (D := D) (ci := 7) (v := .int (nI (99))) (C := RX7) (T := TX7) (N := 13) hx hb hts (fun _ h => List.mem_cons_of_mem _ (List.mem_append_right _ h)) hown hK hP 0 rfl rfl 8 (by decide) (hts (.fieldLink RX7 172 "SpreadParityModel" "letter" "I") (List.mem_of_getElem? (i := 1) rfl)) (fun _ h9 => h9) rfl dX7_errorOfOrder_25 ?_
  refine lv_bipush (v := nI 102) hx hb dX7_errorOfOrder_28 rfl ?_
  refine q_neN (tgt := 44) hx hb dX7_errorOfOrder_30 (by decide) (by omega) (by omega) (fun c_30 => ?_) (fun c_30 => absurd c_30 (by omega))
  refine lv_aload_n hx hb dX7_errorOfOrder_44 rfl (lv_at hl 0 rfl) ?_
  refine va_get (D := D) (ci := 7) (v := .int (nI (99))) (C := RX7) (T := TX7) (N := 13) hx hb hts (fun _ h => List.mem_cons_of_mem _ (List.mem_append_right _ h)) hown hK hP 0 rfl rfl 8 (by decide) (hts (.fieldLink RX7 172 "SpreadParityModel" "letter" "I") (List.mem_of_getElem? (i := 1) rfl)) (fun _ h9 => h9) rfl dX7_errorOfOrder_45 ?_
  refine lv_bipush (v := nI 109) hx hb dX7_errorOfOrder_48 rfl ?_
  refine q_neN (tgt := 64) hx hb dX7_errorOfOrder_50 (by decide) (by omega) (by omega) (fun c_50 => ?_) (fun c_50 => absurd c_50 (by omega))
  refine lv_iconst (v := nI 0) hx hb dX7_errorOfOrder_64 rfl ?_
  exact q_iret hx hb hr hlocks dX7_errorOfOrder_65 (rfl)
set_option maxRecDepth 100000 in
theorem c_X7_errorOfOrder {l : Launch} (D : va_G) (cy : ClassId) (b : Nat → Nat) (σ saved : Nat → Int32) (many : Nat) (bef T : Nat → Int32) (len thr at_ : Nat) (le f1 f2 : Int32) (dn : Nat) (hs : Int64) (Z : va_W) (lc : Nat) (o1 o2 : Option Nat) (h_0 : oOK (lc, o1, o2)) : Met l yX7_errorOfOrder wsX7_errorOfOrder (k2_rm 6 135) (gR D cy [.ref (b 0)] (wM cy b (mS σ) saved many bef T len thr at_ (nI (lc)) (nO (o1)) (nO (o2)) dn hs ++ Z)) (k2_QcV (.int (nI (errO σ lc o1)))) 0 0 (fun _ => False) := by
  rcases h_0 with ⟨rfl, q, v, h1, hq, h2, hv⟩ | ⟨h0, d, h1, hd⟩ | ⟨rfl, n, h1, hn⟩ | rfl
  · cases h1; cases h2
    exact c_X7_errorOfOrder_w D cy b σ saved many bef T len thr at_ (nI 119) (nI q) (nI v) dn hs Z q v hq hv
  · cases h1
    rcases h0 with rfl | rfl
    · exact c_X7_errorOfOrder_f D cy b σ saved many bef T len thr at_ (nI 102) (nI d) (nO o2) dn hs Z d hd
    · exact c_X7_errorOfOrder_m D cy b σ saved many bef T len thr at_ (nI 109) (nI d) (nO o2) dn hs Z d hd
  · cases h1
    exact c_X7_errorOfOrder_s D cy b σ saved many bef T len thr at_ (nI 115) (nI n) (nO o2) dn hs Z
  · exact c_X7_errorOfOrder_c D cy b σ saved many bef T len thr at_ (nI 99) (nO o1) (nO o2) dn hs Z
set_option maxHeartbeats 1000000 in
set_option maxRecDepth 100000 in
theorem c_X7_does_w {l : Launch} (D : va_G) (cy : ClassId) (A : Nat → Prop) (b : Nat → Nat) (σ saved : Nat → Int32) (many : Nat) (bef T : Nat → Int32) (len thr at_ : Nat) (le f1 f2 : Int32) (dn : Nat) (hs : Int64) (Z : va_W) (q v : Nat) (h_0 : q < 42) (h_1 : v < 65536) : Met l yX7_does wsX7_does (k2_rm 8 178) (gP D cy [.ref (b 0)] A (wM cy b (mS σ) saved many bef T len thr at_ (nI (119)) (nI (q)) (nI (v)) dn hs ++ Z)) (gQ D A (some (.int (nI (wC σ q)))) (wM cy b (mS (wD σ q (nI v))) saved many bef T len thr at_ (nI (119)) (nI (q)) (nI (v)) dn hs ++ Z)) 0 0 A := by
  refine q_imp (cc := cX7_does) (maxL := 1) (ret := (some .int)) pl_X7 rfl (Nat.le_of_ble_eq_true rfl) ?_
  intro p e s m below meth c ls hx hb hr hml hts hown hlocks hw hK hA hl
  have hP := hw.1
  have hl : lv_has ls 1 [(0, .ref (b 0))] := hl
  refine lv_aload_n hx hb dX7_does_0 rfl (lv_at hl 0 rfl) ?_
  refine va_get (D := D) (ci := 7) (v := .int (nI (119))) (C := RX7) (T := TX7) (N := 13) hx hb hts (fun _ h => List.mem_cons_of_mem _ (List.mem_append_right _ h)) hown hK hP 0 rfl rfl 8 (by decide) (hts (.fieldLink RX7 172 "SpreadParityModel" "letter" "I") (List.mem_of_getElem? (i := 1) rfl)) (fun _ h9 => h9) rfl dX7_does_1 ?_
  have k_4 : 119 = 119 := by omega
  refine q_look (tgt := 48) (off := 44) hx hb dX7_does_4 (by decide) (by rw [k_4]; decide) (by omega) (by decide) ?_
  refine lv_aload_n hx hb dX7_does_48 rfl (lv_at hl 0 rfl) ?_
  refine lv_aload_n hx hb dX7_does_49 rfl (lv_at hl 0 rfl) ?_
  refine va_get (D := D) (ci := 7) (v := .int (nI (q))) (C := RX7) (T := TX7) (N := 13) hx hb hts (fun _ h => List.mem_cons_of_mem _ (List.mem_append_right _ h)) hown hK hP 0 rfl rfl 9 (by decide) (hts (.fieldLink RX7 178 "SpreadParityModel" "first" "I") (List.mem_of_getElem? (i := 2) rfl)) (fun _ h9 => h9) rfl dX7_does_50 ?_
  refine lv_aload_n hx hb dX7_does_53 rfl (lv_at hl 0 rfl) ?_
  refine va_get (D := D) (ci := 7) (v := .int (nI (v))) (C := RX7) (T := TX7) (N := 13) hx hb hts (fun _ h => List.mem_cons_of_mem _ (List.mem_append_right _ h)) hown hK hP 0 rfl rfl 10 (by decide) (hts (.fieldLink RX7 184 "SpreadParityModel" "second" "I") (List.mem_of_getElem? (i := 3) rfl)) (fun _ h9 => h9) rfl dX7_does_54 ?_
  refine q_wV0 (As := [.int (nI (q)), .int (nI (v))]) (rest := []) (st1 := [.int (nI (wC σ q))]) ⟨hx, hb, hml, hown, hts⟩ (c_X7_doWrite D cy A b σ saved many bef T len thr at_ (nI (119)) (nI (q)) (nI (v)) dn hs Z (q) (nI (v)) (by omega)) (cwV 2 hts gX7_does_X7_doWrite rfl rfl rfl hd_X7_doWrite ⟨Nat.le_of_ble_eq_true rfl, Nat.le_of_ble_eq_true rfl⟩) hK hA hw 0 rfl rfl rfl hl.1 rfl rfl (Nat.le_of_ble_eq_true rfl) ⟨Nat.zero_le _, Nat.zero_le _⟩ dX7_does_57 (fun H locs hw => ?_)
  have hw : wS D A (wM cy b (mS (wD σ q (nI (v)))) saved many bef T len thr at_ (nI (119)) (nI (q)) (nI (v)) dn hs ++ Z) s H locs := hw
  have hP := hw.1
  exact q_iretW hx hb hr hlocks hw dX7_does_60 (rfl)
set_option maxHeartbeats 1000000 in
set_option maxRecDepth 100000 in
theorem c_X7_does_f {l : Launch} (D : va_G) (cy : ClassId) (A : Nat → Prop) (b : Nat → Nat) (σ saved : Nat → Int32) (many : Nat) (bef T : Nat → Int32) (len thr at_ : Nat) (le f1 f2 : Int32) (dn : Nat) (hs : Int64) (Z : va_W) (d : Nat) (h_0 : d < 7) (h_1 : Val σ) : Met l yX7_does wsX7_does (k2_rm 8 178) (gP D cy [.ref (b 0)] A (wM cy b (mS σ) saved many bef T len thr at_ (nI (102)) (nI (d)) f2 dn hs ++ Z)) (gQ D A (some (.int (nI (cl (failS σ d))))) (wM cy b (mS (failS σ d)) saved many bef T len thr at_ (nI (102)) (nI (d)) f2 dn hs ++ Z)) 0 0 A := by
  refine q_imp (cc := cX7_does) (maxL := 1) (ret := (some .int)) pl_X7 rfl (Nat.le_of_ble_eq_true rfl) ?_
  intro p e s m below meth c ls hx hb hr hml hts hown hlocks hw hK hA hl
  have hP := hw.1
  have hl : lv_has ls 1 [(0, .ref (b 0))] := hl
  refine lv_aload_n hx hb dX7_does_0 rfl (lv_at hl 0 rfl) ?_
  refine va_get (D := D) (ci := 7) (v := .int (nI (102))) (C := RX7) (T := TX7) (N := 13) hx hb hts (fun _ h => List.mem_cons_of_mem _ (List.mem_append_right _ h)) hown hK hP 0 rfl rfl 8 (by decide) (hts (.fieldLink RX7 172 "SpreadParityModel" "letter" "I") (List.mem_of_getElem? (i := 1) rfl)) (fun _ h9 => h9) rfl dX7_does_1 ?_
  have k_4 : 102 = 102 := by omega
  refine q_look (tgt := 61) (off := 57) hx hb dX7_does_4 (by decide) (by rw [k_4]; decide) (by omega) (by decide) ?_
  refine lv_aload_n hx hb dX7_does_61 rfl (lv_at hl 0 rfl) ?_
  refine lv_aload_n hx hb dX7_does_62 rfl (lv_at hl 0 rfl) ?_
  refine va_get (D := D) (ci := 7) (v := .int (nI (d))) (C := RX7) (T := TX7) (N := 13) hx hb hts (fun _ h => List.mem_cons_of_mem _ (List.mem_append_right _ h)) hown hK hP 0 rfl rfl 9 (by decide) (hts (.fieldLink RX7 178 "SpreadParityModel" "first" "I") (List.mem_of_getElem? (i := 2) rfl)) (fun _ h9 => h9) rfl dX7_does_63 ?_
  refine q_wV0 (As := [.int (nI (d))]) (rest := []) (st1 := [.int (nI (cl (failS σ d)))]) ⟨hx, hb, hml, hown, hts⟩ (c_X7_doFail D cy A b σ saved many bef T len thr at_ (nI (102)) (nI (d)) f2 dn hs Z (d) h_0 h_1) (cwV 1 hts gX7_does_X7_doFail rfl rfl rfl hd_X7_doFail ⟨Nat.le_of_ble_eq_true rfl, Nat.le_of_ble_eq_true rfl⟩) hK hA hw 0 rfl rfl rfl hl.1 rfl rfl (Nat.le_of_ble_eq_true rfl) ⟨Nat.zero_le _, Nat.zero_le _⟩ dX7_does_66 (fun H locs hw => ?_)
  have hw : wS D A (wM cy b (mS (failS σ d)) saved many bef T len thr at_ (nI (102)) (nI (d)) f2 dn hs ++ Z) s H locs := hw
  have hP := hw.1
  exact q_iretW hx hb hr hlocks hw dX7_does_69 (rfl)
set_option maxHeartbeats 1000000 in
set_option maxRecDepth 100000 in
theorem c_X7_does_m {l : Launch} (D : va_G) (cy : ClassId) (A : Nat → Prop) (b : Nat → Nat) (σ saved : Nat → Int32) (many : Nat) (bef T : Nat → Int32) (len thr at_ : Nat) (le f1 f2 : Int32) (dn : Nat) (hs : Int64) (Z : va_W) (d : Nat) (h_0 : d < 7) : Met l yX7_does wsX7_does (k2_rm 8 178) (gP D cy [.ref (b 0)] A (wM cy b (mS σ) saved many bef T len thr at_ (nI (109)) (nI (d)) f2 dn hs ++ Z)) (gQ D A (some (.int (begS σ d 84))) (wM cy b (mS (begS σ d)) saved many bef T len thr at_ (nI (109)) (nI (d)) f2 dn hs ++ Z)) 0 0 A := by
  refine q_imp (cc := cX7_does) (maxL := 1) (ret := (some .int)) pl_X7 rfl (Nat.le_of_ble_eq_true rfl) ?_
  intro p e s m below meth c ls hx hb hr hml hts hown hlocks hw hK hA hl
  have hP := hw.1
  have hl : lv_has ls 1 [(0, .ref (b 0))] := hl
  refine lv_aload_n hx hb dX7_does_0 rfl (lv_at hl 0 rfl) ?_
  refine va_get (D := D) (ci := 7) (v := .int (nI (109))) (C := RX7) (T := TX7) (N := 13) hx hb hts (fun _ h => List.mem_cons_of_mem _ (List.mem_append_right _ h)) hown hK hP 0 rfl rfl 8 (by decide) (hts (.fieldLink RX7 172 "SpreadParityModel" "letter" "I") (List.mem_of_getElem? (i := 1) rfl)) (fun _ h9 => h9) rfl dX7_does_1 ?_
  have k_4 : 109 = 109 := by omega
  refine q_look (tgt := 70) (off := 66) hx hb dX7_does_4 (by decide) (by rw [k_4]; decide) (by omega) (by decide) ?_
  refine lv_aload_n hx hb dX7_does_70 rfl (lv_at hl 0 rfl) ?_
  refine lv_aload_n hx hb dX7_does_71 rfl (lv_at hl 0 rfl) ?_
  refine va_get (D := D) (ci := 7) (v := .int (nI (d))) (C := RX7) (T := TX7) (N := 13) hx hb hts (fun _ h => List.mem_cons_of_mem _ (List.mem_append_right _ h)) hown hK hP 0 rfl rfl 9 (by decide) (hts (.fieldLink RX7 178 "SpreadParityModel" "first" "I") (List.mem_of_getElem? (i := 2) rfl)) (fun _ h9 => h9) rfl dX7_does_72 ?_
  refine q_wV0 (As := [.int (nI (d))]) (rest := []) (st1 := [.int (begS σ d 84)]) ⟨hx, hb, hml, hown, hts⟩ (c_X7_doBegin D cy A b σ saved many bef T len thr at_ (nI (109)) (nI (d)) f2 dn hs Z (d) (by omega)) (cwV 1 hts gX7_does_X7_doBegin rfl rfl rfl hd_X7_doBegin ⟨Nat.le_of_ble_eq_true rfl, Nat.le_of_ble_eq_true rfl⟩) hK hA hw 0 rfl rfl rfl hl.1 rfl rfl (Nat.le_of_ble_eq_true rfl) ⟨Nat.zero_le _, Nat.zero_le _⟩ dX7_does_75 (fun H locs hw => ?_)
  have hw : wS D A (wM cy b (mS (begS σ d)) saved many bef T len thr at_ (nI (109)) (nI (d)) f2 dn hs ++ Z) s H locs := hw
  have hP := hw.1
  exact q_iretW hx hb hr hlocks hw dX7_does_78 (rfl)
set_option maxHeartbeats 1000000 in
set_option maxRecDepth 100000 in
theorem c_X7_does_s {l : Launch} (D : va_G) (cy : ClassId) (A : Nat → Prop) (b : Nat → Nat) (σ saved : Nat → Int32) (many : Nat) (bef T : Nat → Int32) (len thr at_ : Nat) (le f1 f2 : Int32) (dn : Nat) (hs : Int64) (Z : va_W) (n : Nat) (h_0 : n ≤ 9) (h_1 : Val σ) : Met l yX7_does wsX7_does (k2_rm 8 178) (gP D cy [.ref (b 0)] A (wM cy b (mS σ) saved many bef T len thr at_ (nI (115)) (nI (n)) f2 dn hs ++ Z)) (gQ D A (some (.int (nI ((mnS n σ).2)))) (wM cy b (mS (mnS n σ).1) saved many bef T len thr at_ (nI (115)) (nI (n)) f2 dn hs ++ Z)) 0 0 A := by
  refine q_imp (cc := cX7_does) (maxL := 1) (ret := (some .int)) pl_X7 rfl (Nat.le_of_ble_eq_true rfl) ?_
  intro p e s m below meth c ls hx hb hr hml hts hown hlocks hw hK hA hl
  have hP := hw.1
  have hl : lv_has ls 1 [(0, .ref (b 0))] := hl
  refine lv_aload_n hx hb dX7_does_0 rfl (lv_at hl 0 rfl) ?_
  refine va_get (D := D) (ci := 7) (v := .int (nI (115))) (C := RX7) (T := TX7) (N := 13) hx hb hts (fun _ h => List.mem_cons_of_mem _ (List.mem_append_right _ h)) hown hK hP 0 rfl rfl 8 (by decide) (hts (.fieldLink RX7 172 "SpreadParityModel" "letter" "I") (List.mem_of_getElem? (i := 1) rfl)) (fun _ h9 => h9) rfl dX7_does_1 ?_
  have k_4 : 115 = 115 := by omega
  refine q_look (tgt := 79) (off := 75) hx hb dX7_does_4 (by decide) (by rw [k_4]; decide) (by omega) (by decide) ?_
  refine lv_aload_n hx hb dX7_does_79 rfl (lv_at hl 0 rfl) ?_
  refine lv_aload_n hx hb dX7_does_80 rfl (lv_at hl 0 rfl) ?_
  refine va_get (D := D) (ci := 7) (v := .int (nI (n))) (C := RX7) (T := TX7) (N := 13) hx hb hts (fun _ h => List.mem_cons_of_mem _ (List.mem_append_right _ h)) hown hK hP 0 rfl rfl 9 (by decide) (hts (.fieldLink RX7 178 "SpreadParityModel" "first" "I") (List.mem_of_getElem? (i := 2) rfl)) (fun _ h9 => h9) rfl dX7_does_81 ?_
  refine q_wV0 (As := [.int (nI (n))]) (rest := []) (st1 := [.int (nI ((mnS n σ).2))]) ⟨hx, hb, hml, hown, hts⟩ (c_X7_doMend D cy A b σ saved many bef T len thr at_ (nI (115)) (nI (n)) f2 dn hs Z (n) (by omega) h_1) (cwV 1 hts gX7_does_X7_doMend rfl rfl rfl hd_X7_doMend ⟨Nat.le_of_ble_eq_true rfl, Nat.le_of_ble_eq_true rfl⟩) hK hA hw 0 rfl rfl rfl hl.1 rfl rfl (Nat.le_of_ble_eq_true rfl) ⟨Nat.zero_le _, Nat.zero_le _⟩ dX7_does_84 (fun H locs hw => ?_)
  have hw : wS D A (wM cy b (mS (mnS n σ).1) saved many bef T len thr at_ (nI (115)) (nI (n)) f2 dn hs ++ Z) s H locs := hw
  have hP := hw.1
  exact q_iretW hx hb hr hlocks hw dX7_does_87 (rfl)
set_option maxHeartbeats 1000000 in
set_option maxRecDepth 100000 in
theorem c_X7_does_c {l : Launch} (D : va_G) (cy : ClassId) (A : Nat → Prop) (b : Nat → Nat) (σ saved : Nat → Int32) (many : Nat) (bef T : Nat → Int32) (len thr at_ : Nat) (le f1 f2 : Int32) (dn : Nat) (hs : Int64) (Z : va_W) : Met l yX7_does wsX7_does (k2_rm 8 178) (gP D cy [.ref (b 0)] A (wM cy b (mS σ) saved many bef T len thr at_ (nI (99)) f1 f2 dn hs ++ Z)) (gQ D A (some (.int (nI (scC σ 21)))) (wM cy b (mS (scS σ 21)) saved many bef T len thr at_ (nI (99)) f1 f2 dn hs ++ Z)) 0 0 A := by
  refine q_imp (cc := cX7_does) (maxL := 1) (ret := (some .int)) pl_X7 rfl (Nat.le_of_ble_eq_true rfl) ?_
  intro p e s m below meth c ls hx hb hr hml hts hown hlocks hw hK hA hl
  have hP := hw.1
  have hl : lv_has ls 1 [(0, .ref (b 0))] := hl
  refine lv_aload_n hx hb dX7_does_0 rfl (lv_at hl 0 rfl) ?_
  refine va_get (D := D) (ci := 7) (v := .int (nI (99))) (C := RX7) (T := TX7) (N := 13) hx hb hts (fun _ h => List.mem_cons_of_mem _ (List.mem_append_right _ h)) hown hK hP 0 rfl rfl 8 (by decide) (hts (.fieldLink RX7 172 "SpreadParityModel" "letter" "I") (List.mem_of_getElem? (i := 1) rfl)) (fun _ h9 => h9) rfl dX7_does_1 ?_
  have k_4 : (¬ 99 = 102 ∧ ¬ 99 = 109 ∧ ¬ 99 = 115 ∧ ¬ 99 = 119) := by omega
  refine q_look (tgt := 88) (off := 84) hx hb dX7_does_4 (by decide) (by simp only [Op.lookupswitch.offset_cons, Op.lookupswitch.offset_nil]; obtain ⟨k0, k1, k2, k3⟩ := k_4; repeat rw [if_neg (by omega)]) (by omega) (by decide) ?_
  refine lv_aload_n hx hb dX7_does_88 rfl (lv_at hl 0 rfl) ?_
  refine q_wV0 (As := []) (rest := []) (st1 := [.int (nI (scC σ 21))]) ⟨hx, hb, hml, hown, hts⟩ (c_X7_doScrub D cy A b σ saved many bef T len thr at_ (nI (99)) f1 f2 dn hs Z ) (cwV 0 hts gX7_does_X7_doScrub rfl rfl rfl hd_X7_doScrub ⟨Nat.le_of_ble_eq_true rfl, Nat.le_of_ble_eq_true rfl⟩) hK hA hw 0 rfl rfl rfl hl.1 rfl rfl (Nat.le_of_ble_eq_true rfl) ⟨Nat.zero_le _, Nat.zero_le _⟩ dX7_does_89 (fun H locs hw => ?_)
  have hw : wS D A (wM cy b (mS (scS σ 21)) saved many bef T len thr at_ (nI (99)) f1 f2 dn hs ++ Z) s H locs := hw
  have hP := hw.1
  exact q_iretW hx hb hr hlocks hw dX7_does_92 (rfl)
set_option maxRecDepth 100000 in
theorem c_X7_does {l : Launch} (D : va_G) (cy : ClassId) (A : Nat → Prop) (b : Nat → Nat) (σ saved : Nat → Int32) (many : Nat) (bef T : Nat → Int32) (len thr at_ : Nat) (le f1 f2 : Int32) (dn : Nat) (hs : Int64) (Z : va_W) (lc : Nat) (o1 o2 : Option Nat) (h_0 : oOK (lc, o1, o2)) (h_1 : Val σ) : Met l yX7_does wsX7_does (k2_rm 8 178) (gP D cy [.ref (b 0)] A (wM cy b (mS σ) saved many bef T len thr at_ (nI (lc)) (nO (o1)) (nO (o2)) dn hs ++ Z)) (gQ D A (some (.int (rvO σ lc o1))) (wM cy b (mS (doO σ lc o1 o2)) saved many bef T len thr at_ (nI (lc)) (nO (o1)) (nO (o2)) dn hs ++ Z)) 0 0 A := by
  rcases h_0 with ⟨rfl, q, v, h1, hq, h2, hv⟩ | ⟨h0, d, h1, hd⟩ | ⟨rfl, n, h1, hn⟩ | rfl
  · cases h1; cases h2
    exact c_X7_does_w D cy A b σ saved many bef T len thr at_ (nI 119) (nI q) (nI v) dn hs Z q v hq hv
  · cases h1
    rcases h0 with rfl | rfl
    · exact c_X7_does_f D cy A b σ saved many bef T len thr at_ (nI 102) (nI d) (nO o2) dn hs Z d hd h_1
    · exact c_X7_does_m D cy A b σ saved many bef T len thr at_ (nI 109) (nI d) (nO o2) dn hs Z d hd
  · cases h1
    exact c_X7_does_s D cy A b σ saved many bef T len thr at_ (nI 115) (nI n) (nO o2) dn hs Z n hn h_1
  · rw [show rvO σ 99 o1 = nI (scC σ 21) by simp [rvO], show doO σ 99 o1 o2 = scS σ 21 by simp [doO]]
    exact c_X7_does_c D cy A b σ saved many bef T len thr at_ (nI 99) (nO o1) (nO o2) dn hs Z
