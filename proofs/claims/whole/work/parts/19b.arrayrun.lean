/-- where the run of a text stands: the place q, the state τ, i orders done; EX what it comes to -/
def runI (tx : Nat → Nat) (n q : Nat) (τ : Nat → Int32) (i : Nat) (EX : (Nat → Int32) × Nat) : Prop := (q ≤ n ∧ ∃ k, (pv tx n (k + 1) q).1 = true ∧ EX = ((exT tx n (k + 1) q τ).1, (exT tx n (k + 1) q τ).2 + i)) ∨ (n < q ∧ EX = (τ, i))
theorem runI_go {tx : Nat → Nat} {n q p1 l1 i : Nat} {o1 v1 : Option Nat} {τ : Nat → Int32} {EX : (Nat → Int32) × Nat} (h : runI tx n q τ i EX) (c : (nxO tx n q (p1, l1, o1, v1)).1 = true) : q ≤ n ∧ ∃ (E : RSt) (k : Nat), nxO tx n q (p1, l1, o1, v1) = (true, (pO tx n q).2.1 + 1, E) ∧ OKst E (pO tx n q).2.2 ∧ (pO tx n q).1 = true ∧ (pO tx n q).2.1 ≤ n ∧ EX = ((exT tx n (k + 1) q τ).1, (exT tx n (k + 1) q τ).2 + i) ∧ (¬ (pO tx n q).2.1 = n → (pv tx n k ((pO tx n q).2.1 + 1)).1 = true ∧ (pO tx n q).2.1 < n) := by
  rcases h with ⟨hq, k, hv, he⟩ | ⟨hq, -⟩
  · obtain ⟨-, hok, E, e1, e2, e3, e4⟩ := nx_ord l1 o1 v1 p1 hq hv
    exact ⟨hq, E, k, e1, e2, hok, e3, he, e4⟩
  · unfold nxO at c
    rw [if_neg (by omega)] at c
    cases c
theorem runI_end {tx : Nat → Nat} {n q p1 l1 i : Nat} {o1 v1 : Option Nat} {τ : Nat → Int32} {EX : (Nat → Int32) × Nat} (h : runI tx n q τ i EX) (c : (nxO tx n q (p1, l1, o1, v1)).1 = false) : EX = (τ, i) := by
  rcases h with ⟨hq, k, hv, he⟩ | ⟨-, he⟩
  · obtain ⟨-, hok, E, e1, -⟩ := nx_ord l1 o1 v1 p1 hq hv
    rw [e1] at c
    cases c
  · exact he
theorem runI_stop {tx : Nat → Nat} {n q i k : Nat} {E : RSt} {τ : Nat → Int32} {EX : (Nat → Int32) × Nat} (hE : OKst E (pO tx n q).2.2) (he : EX = ((exT tx n (k + 1) q τ).1, (exT tx n (k + 1) q τ).2 + i)) (c : ¬ okO τ E.2.1 E.2.2.1 = true) (hv : Val τ) : EX = (τ, i) := by
  have h1 : 0 < errO τ E.2.1 E.2.2.1 := by
    by_cases q : 0 < errO τ E.2.1 E.2.2.1
    · exact q
    · exact absurd ((okO_err hv _ _).mpr q) c
  rw [E_err hE] at h1
  rw [he, exT_0 h1, Nat.zero_add]
theorem runI_next {tx : Nat → Nat} {n q i k : Nat} {E : RSt} {τ : Nat → Int32} {EX : (Nat → Int32) × Nat} (hE : OKst E (pO tx n q).2.2) (hen : (pO tx n q).2.1 ≤ n) (he : EX = ((exT tx n (k + 1) q τ).1, (exT tx n (k + 1) q τ).2 + i)) (hp : ¬ (pO tx n q).2.1 = n → (pv tx n k ((pO tx n q).2.1 + 1)).1 = true ∧ (pO tx n q).2.1 < n) (c : ¬ 0 < errO τ E.2.1 E.2.2.1) : runI tx n ((pO tx n q).2.1 + 1) (doO τ E.2.1 E.2.2.1 E.2.2.2) (i + 1) EX := by
  rw [E_err hE] at c
  rw [E_do hE]
  by_cases h : (pO tx n q).2.1 = n
  · refine Or.inr ⟨by omega, ?_⟩
    rw [he, exT_1 c h, Nat.add_comm 1 i]
  · obtain ⟨hv, hlt⟩ := hp h
    cases k with
    | zero => simp only [pv] at hv; cases hv
    | succ k =>
      refine Or.inl ⟨by omega, k, hv, ?_⟩
      rw [he, exT_s c h, Nat.add_assoc, Nat.add_comm 1 i]
theorem nxA_OK {tx : Nat → Nat} {n : Nat} (h : ∀ i, tx i ≤ 126) : ∀ (k i : Nat) {r : RSt}, rOK r → rOK (nxA tx n k i r).2 := by
  intro k
  induction k with
  | zero => intro i r hr; exact hr
  | succ k ih =>
    intro i r hr
    simp only [nxA]
    split
    · exact ih (i + 1) (tkN_OK hr (h i))
    · exact hr
theorem nxO_oB {tx : Nat → Nat} {n q p1 l1 : Nat} {o1 v1 : Option Nat} (h : ∀ i, tx i ≤ 126) (h1 : oB o1) (h2 : oB v1) : oB (nxO tx n q (p1, l1, o1, v1)).2.2.2.2.1 ∧ oB (nxO tx n q (p1, l1, o1, v1)).2.2.2.2.2 := by
  unfold nxO
  split
  · have h3 : rOK (nxA tx n (n - q) q (0, l1, o1, v1)).2 := nxA_OK h _ _ ⟨by omega, h1, h2⟩
    exact h3.2
  · exact ⟨h1, h2⟩
set_option maxHeartbeats 1000000 in
set_option maxRecDepth 100000 in
theorem c_X6_run {l : Launch} (hst : l.stackTraces = false) (D : va_G) (cy : ClassId) (A : Nat → Prop) (a : Nat → Nat) (σ kept : Nat → Int32) (nxt cnt : Nat) (T : Nat → Int32) (len pos : Nat) (ph le nu va : Int32) (Z : va_W) (tx : Nat → Nat) (pp lc : Nat) (on ov : Option Nat) (h_0 : oB on) (h_1 : oB ov) (h_2 : ∀ i, tx i ≤ 126) (h_3 : len ≤ 60) (h_4 : nxt < 6) (h_5 : cnt ≤ 6) (h_6 : Val σ) : vx_Met l yX6_run wsX6_run ({ frames := 6, cells := 1, slots := 6, locals := 132 } : Room) (gX D cy [.ref (a 0)] A (wX cy a σ kept nxt cnt (tI tx) len pos (nI (pp)) (nI (lc)) (nO (on)) (nO (ov)) ++ Z)) (xQE D A (cRn tx len) (fun v9 w9 => v9 = some (.int (nI (exT tx len (len + 1) 0 σ).2)) ∧ ∃ (q9 p9 l9 : Nat) (x9 y9 : Option Nat), oB x9 ∧ oB y9 ∧ w9 = (wX cy a (exT tx len (len + 1) 0 σ).1 (cpK kept σ (nxt * 86) 86) ((nxt + 1) % 6) (min (cnt + 1) 6) (tI tx) 0 q9 (nI p9) (nI l9) (nO x9) (nO y9) ++ Z))) (xXE D A (fun _ => eA) (cRn tx len) (fun w9 => ∃ (p9 l9 : Nat) (x9 y9 : Option Nat), oB x9 ∧ oB y9 ∧ w9 = (wX cy a σ kept nxt cnt (tI tx) len pos (nI p9) (nI l9) (nO x9) (nO y9) ++ Z))) 1 6 A := by
  refine q_xmp (cc := cX6_run) (maxL := 2) (ret := (some .int)) pl_X6 rfl (Nat.le_of_ble_eq_true rfl) ?_
  intro p e s m below meth c ls hx hb hr hml hts hown hlocks hw hK hA hl hexc hN
  have hP := hw.1
  have hl : lv_has ls 2 [(0, .ref (a 0))] := hl
  refine lv_aload_n hx hb dX6_run_0 rfl (lv_at hl 0 rfl) ?_
  refine va_get (D := D) (ci := 6) (v := .ref (a 14)) (C := RX6) (T := TX6) (N := 4) hx hb hts (fun _ h => List.mem_cons_of_mem _ (List.mem_append_left _ (List.mem_append_left _ (List.mem_append_left _ (List.mem_append_left _ (List.mem_append_left _ (List.mem_append_left _ (List.mem_append_left _ (List.mem_append_right _ h))))))))) hown hK hP 0 rfl rfl 3 (by decide) (hts (.fieldLink RX6 33 "SpreadParity" "text" "LSpreadParity$OrderText;") (List.mem_of_getElem? (i := 3) rfl)) (fun _ h9 => h9) rfl dX6_run_1 ?_
  refine q_wV0 (As := []) (rest := []) (st1 := [.int (bI (decide ((scan tx len 0 (0, lc, on, ov)).1 = len) && mE (scan tx len 0 (0, lc, on, ov)).2))]) ⟨hx, hb, hml, hown, hts⟩ (c_X3_isOrderText D cy A a σ kept nxt cnt (tI tx) len pos (nI (pp)) (nI (lc)) (nO (on)) (nO (ov)) Z (tx) (pp) (lc) (on) (ov) h_0 h_1 h_2 h_3) (cwV 0 hts gX6_run_X3_isOrderText rfl rfl rfl hd_X3_isOrderText ⟨Nat.le_of_ble_eq_true rfl, Nat.le_of_ble_eq_true rfl⟩) hK hA hw 14 rfl rfl rfl hl.1 rfl rfl (Nat.le_of_ble_eq_true rfl) ⟨Nat.zero_le _, Nat.zero_le _⟩ dX6_run_4 (fun H locs hw => ?_)
  have hw : wS D A (wX cy a σ kept nxt cnt (tI tx) len pos (nI ((scan tx len 0 (0, lc, on, ov)).2.1)) (nI ((scan tx len 0 (0, lc, on, ov)).2.2.1)) (nO ((scan tx len 0 (0, lc, on, ov)).2.2.2.1)) (nO ((scan tx len 0 (0, lc, on, ov)).2.2.2.2)) ++ Z) s H locs := hw
  have hP := hw.1
  refine q_ifneB (tgt := 20) hx hb dX6_run_7 (by decide) (fun c_7 => ?_) (fun c_7 => ?_)
  · have h_v : (pv tx len (len + 1) 0).1 = true := by rw [← sc_valid lc on ov, c_7]
    refine lv_aload_n hx hb dX6_run_20 rfl (lv_at hl 0 rfl) ?_
    refine va_get (D := D) (ci := 6) (v := .ref (a 11)) (C := RX6) (T := TX6) (N := 4) hx hb hts (fun _ h => List.mem_cons_of_mem _ (List.mem_append_left _ (List.mem_append_left _ (List.mem_append_left _ (List.mem_append_left _ (List.mem_append_left _ (List.mem_append_left _ (List.mem_append_left _ (List.mem_append_right _ h))))))))) hown hK hP 0 rfl rfl 2 (by decide) (hts (.fieldLink RX6 26 "SpreadParity" "history" "LSpreadParity$History;") (List.mem_of_getElem? (i := 4) rfl)) (fun _ h9 => h9) rfl dX6_run_21 ?_
    refine lv_aload_n hx hb dX6_run_24 rfl (lv_at hl 0 rfl) ?_
    refine va_get (D := D) (ci := 6) (v := .ref (a 8)) (C := RX6) (T := TX6) (N := 4) hx hb hts (fun _ h => List.mem_cons_of_mem _ (List.mem_append_left _ (List.mem_append_left _ (List.mem_append_left _ (List.mem_append_left _ (List.mem_append_left _ (List.mem_append_left _ (List.mem_append_left _ (List.mem_append_right _ h))))))))) hown hK hP 0 rfl rfl 1 (by decide) (hts (.fieldLink RX6 19 "SpreadParity" "now" "LSpreadParity$State;") (List.mem_of_getElem? (i := 5) rfl)) (fun _ h9 => h9) rfl dX6_run_25 ?_
    refine q_wV0 (As := [.ref (a 8)]) (rest := []) (st1 := []) ⟨hx, hb, hml, hown, hts⟩ (c_X0_keep D cy A a σ kept nxt cnt (tI tx) len pos (nI ((scan tx len 0 (0, lc, on, ov)).2.1)) (nI ((scan tx len 0 (0, lc, on, ov)).2.2.1)) (nO ((scan tx len 0 (0, lc, on, ov)).2.2.2.1)) (nO ((scan tx len 0 (0, lc, on, ov)).2.2.2.2)) Z h_4 h_5) (cwV 1 hts gX6_run_X0_keep rfl rfl rfl hd_X0_keep ⟨Nat.le_of_ble_eq_true rfl, Nat.le_of_ble_eq_true rfl⟩) hK hA hw 11 rfl rfl rfl hl.1 rfl rfl (Nat.le_of_ble_eq_true rfl) ⟨Nat.zero_le _, Nat.zero_le _⟩ dX6_run_28 (fun H locs hw => ?_)
    have hw : wS D A (wX cy a σ (cpK kept σ (nxt * 86) 86) ((nxt + 1) % 6) (min (cnt + 1) 6) (tI tx) len pos (nI ((scan tx len 0 (0, lc, on, ov)).2.1)) (nI ((scan tx len 0 (0, lc, on, ov)).2.2.1)) (nO ((scan tx len 0 (0, lc, on, ov)).2.2.2.1)) (nO ((scan tx len 0 (0, lc, on, ov)).2.2.2.2)) ++ Z) s H locs := hw
    have hP := hw.1
    refine lv_iconst (v := nI 0) hx hb dX6_run_31 rfl ?_
    refine lv_istore_n (lv' := [(1, .int (nI (0))), (0, .ref (a 0))]) hx hb dX6_run_32 rfl hl (by decide) rfl (fun ls hl => ?_)
    refine lv_aload_n hx hb dX6_run_33 rfl (lv_at hl 1 rfl) ?_
    refine va_get (D := D) (ci := 6) (v := .ref (a 14)) (C := RX6) (T := TX6) (N := 4) hx hb hts (fun _ h => List.mem_cons_of_mem _ (List.mem_append_left _ (List.mem_append_left _ (List.mem_append_left _ (List.mem_append_left _ (List.mem_append_left _ (List.mem_append_left _ (List.mem_append_left _ (List.mem_append_right _ h))))))))) hown hK hP 0 rfl rfl 3 (by decide) (hts (.fieldLink RX6 33 "SpreadParity" "text" "LSpreadParity$OrderText;") (List.mem_of_getElem? (i := 3) rfl)) (fun _ h9 => h9) rfl dX6_run_34 ?_
    refine q_wV0 (As := []) (rest := []) (st1 := []) ⟨hx, hb, hml, hown, hts⟩ (c_X3_rewind D cy A a σ (cpK kept σ (nxt * 86) 86) ((nxt + 1) % 6) (min (cnt + 1) 6) (tI tx) len pos (nI ((scan tx len 0 (0, lc, on, ov)).2.1)) (nI ((scan tx len 0 (0, lc, on, ov)).2.2.1)) (nO ((scan tx len 0 (0, lc, on, ov)).2.2.2.1)) (nO ((scan tx len 0 (0, lc, on, ov)).2.2.2.2)) Z ) (cwV 0 hts gX6_run_X3_rewind rfl rfl rfl hd_X3_rewind ⟨Nat.le_of_ble_eq_true rfl, Nat.le_of_ble_eq_true rfl⟩) hK hA hw 14 rfl rfl rfl hl.1 rfl rfl (Nat.le_of_ble_eq_true rfl) ⟨Nat.zero_le _, Nat.zero_le _⟩ dX6_run_37 (fun H locs hw => ?_)
    have hw : wS D A (wX cy a σ (cpK kept σ (nxt * 86) 86) ((nxt + 1) % 6) (min (cnt + 1) 6) (tI tx) len 0 (nI ((scan tx len 0 (0, lc, on, ov)).2.1)) (nI ((scan tx len 0 (0, lc, on, ov)).2.2.1)) (nO ((scan tx len 0 (0, lc, on, ov)).2.2.2.1)) (nO ((scan tx len 0 (0, lc, on, ov)).2.2.2.2)) ++ Z) s H locs := hw
    have hP := hw.1
    have lp40 : ∀ (j_ i : Nat), i + j_ = 60 → ∀ (τ : Nat → Int32) (q : Nat) (p1 : Nat) (l1 : Nat) (o1 : Option Nat) (v1 : Option Nat), Val τ → oB o1 → oB v1 → 2 * i ≤ q → q ≤ len + 1 → runI tx len q τ i (exT tx len (len + 1) 0 σ) → ∀ (H : Heap) (locs : List Loc) (ls : Array Slot), wS D A (wX cy a τ (cpK kept σ (nxt * 86) 86) ((nxt + 1) % 6) (min (cnt + 1) 6) (tI tx) len q (nI (p1)) (nI (l1)) (nO (o1)) (nO (v1)) ++ Z) s H locs → lv_has ls 2 [(0, .ref (a 0)), (1, .int (nI (i)))] → W p l e ({ frames := 6, cells := 1, slots := 6, locals := 132 } : Room) s m ([.ref (a 0)] : List Value).toArray below meth c H locs 0 0 (vx_MQ below (xQE D A (cRn tx len) (fun v9 w9 => v9 = some (.int (nI (exT tx len (len + 1) 0 σ).2)) ∧ ∃ (q9 p9 l9 : Nat) (x9 y9 : Option Nat), oB x9 ∧ oB y9 ∧ w9 = (wX cy a (exT tx len (len + 1) 0 σ).1 (cpK kept σ (nxt * 86) 86) ((nxt + 1) % 6) (min (cnt + 1) 6) (tI tx) 0 q9 (nI p9) (nI l9) (nO x9) (nO y9) ++ Z))) (xXE D A (fun _ => eA) (cRn tx len) (fun w9 => ∃ (p9 l9 : Nat) (x9 y9 : Option Nat), oB x9 ∧ oB y9 ∧ w9 = (wX cy a σ kept nxt cnt (tI tx) len pos (nI p9) (nI l9) (nO x9) (nO y9) ++ Z))) ([.ref (a 0)] : List Value).toArray s 1 6 A) (F0 m 40 ls []) := by
      intro j_
      induction j_ with
      | zero =>
        intro i hn_i τ q p1 l1 o1 v1 hy0 hy1 hy2 hy3 hy4 hy5 H locs ls hw hl
        omega
      | succ j_ ih_i =>
        intro i hn_i τ q p1 l1 o1 v1 hy0 hy1 hy2 hy3 hy4 hy5 H locs ls hw hl
        have hP := hw.1
        refine lv_iload_n hx hb dX6_run_40 rfl (lv_at hl 1 rfl) ?_
        refine lv_bipush (v := nI 60) hx hb dX6_run_41 rfl ?_
        refine q_geN (tgt := 87) hx hb dX6_run_43 (by decide) (by omega) (by omega) (fun c_43 => absurd c_43 (by omega)) (fun c_43 => ?_)
        refine lv_aload_n hx hb dX6_run_46 rfl (lv_at hl 0 rfl) ?_
        refine va_get (D := D) (ci := 6) (v := .ref (a 14)) (C := RX6) (T := TX6) (N := 4) hx hb hts (fun _ h => List.mem_cons_of_mem _ (List.mem_append_left _ (List.mem_append_left _ (List.mem_append_left _ (List.mem_append_left _ (List.mem_append_left _ (List.mem_append_left _ (List.mem_append_left _ (List.mem_append_right _ h))))))))) hown hK hP 0 rfl rfl 3 (by decide) (hts (.fieldLink RX6 33 "SpreadParity" "text" "LSpreadParity$OrderText;") (List.mem_of_getElem? (i := 3) rfl)) (fun _ h9 => h9) rfl dX6_run_47 ?_
        refine q_wV0 (As := []) (rest := []) (st1 := [.int (bI ((nxO tx len q (p1, l1, o1, v1)).1))]) ⟨hx, hb, hml, hown, hts⟩ (c_X3_nextOrder D cy A a τ (cpK kept σ (nxt * 86) 86) ((nxt + 1) % 6) (min (cnt + 1) 6) (tI tx) len q (nI (p1)) (nI (l1)) (nO (o1)) (nO (v1)) Z (tx) (p1) (l1) (o1) (v1) hy1 hy2 h_2 h_3 (by omega)) (cwV 0 hts gX6_run_X3_nextOrder rfl rfl rfl hd_X3_nextOrder ⟨Nat.le_of_ble_eq_true rfl, Nat.le_of_ble_eq_true rfl⟩) hK hA hw 14 rfl rfl rfl hl.1 rfl rfl (Nat.le_of_ble_eq_true rfl) ⟨Nat.zero_le _, Nat.zero_le _⟩ dX6_run_50 (fun H locs hw => ?_)
        have hw : wS D A (wX cy a τ (cpK kept σ (nxt * 86) 86) ((nxt + 1) % 6) (min (cnt + 1) 6) (tI tx) len ((nxO tx len q (p1, l1, o1, v1)).2.1) (nI ((nxO tx len q (p1, l1, o1, v1)).2.2.1)) (nI ((nxO tx len q (p1, l1, o1, v1)).2.2.2.1)) (nO ((nxO tx len q (p1, l1, o1, v1)).2.2.2.2.1)) (nO ((nxO tx len q (p1, l1, o1, v1)).2.2.2.2.2)) ++ Z) s H locs := hw
        have hP := hw.1
        refine q_ifeqB (tgt := 87) hx hb dX6_run_53 (by decide) (fun c_53 => ?_) (fun c_53 => ?_)
        · have h_r := runI_end hy5 c_53
          have h_oB := nxO_oB (n := len) (q := q) (p1 := p1) (l1 := l1) h_2 hy1 hy2
          refine lv_aload_n hx hb dX6_run_87 rfl (lv_at hl 0 rfl) ?_
          refine va_get (D := D) (ci := 6) (v := .ref (a 14)) (C := RX6) (T := TX6) (N := 4) hx hb hts (fun _ h => List.mem_cons_of_mem _ (List.mem_append_left _ (List.mem_append_left _ (List.mem_append_left _ (List.mem_append_left _ (List.mem_append_left _ (List.mem_append_left _ (List.mem_append_left _ (List.mem_append_right _ h))))))))) hown hK hP 0 rfl rfl 3 (by decide) (hts (.fieldLink RX6 33 "SpreadParity" "text" "LSpreadParity$OrderText;") (List.mem_of_getElem? (i := 3) rfl)) (fun _ h9 => h9) rfl dX6_run_88 ?_
          refine q_wV0 (As := []) (rest := []) (st1 := []) ⟨hx, hb, hml, hown, hts⟩ (c_X3_empty D cy A a τ (cpK kept σ (nxt * 86) 86) ((nxt + 1) % 6) (min (cnt + 1) 6) (tI tx) len ((nxO tx len q (p1, l1, o1, v1)).2.1) (nI ((nxO tx len q (p1, l1, o1, v1)).2.2.1)) (nI ((nxO tx len q (p1, l1, o1, v1)).2.2.2.1)) (nO ((nxO tx len q (p1, l1, o1, v1)).2.2.2.2.1)) (nO ((nxO tx len q (p1, l1, o1, v1)).2.2.2.2.2)) Z ) (cwV 0 hts gX6_run_X3_empty rfl rfl rfl hd_X3_empty ⟨Nat.le_of_ble_eq_true rfl, Nat.le_of_ble_eq_true rfl⟩) hK hA hw 14 rfl rfl rfl hl.1 rfl rfl (Nat.le_of_ble_eq_true rfl) ⟨Nat.zero_le _, Nat.zero_le _⟩ dX6_run_91 (fun H locs hw => ?_)
          have hw : wS D A (wX cy a τ (cpK kept σ (nxt * 86) 86) ((nxt + 1) % 6) (min (cnt + 1) 6) (tI tx) 0 ((nxO tx len q (p1, l1, o1, v1)).2.1) (nI ((nxO tx len q (p1, l1, o1, v1)).2.2.1)) (nI ((nxO tx len q (p1, l1, o1, v1)).2.2.2.1)) (nO ((nxO tx len q (p1, l1, o1, v1)).2.2.2.2.1)) (nO ((nxO tx len q (p1, l1, o1, v1)).2.2.2.2.2)) ++ Z) s H locs := hw
          have hP := hw.1
          refine lv_iload_n hx hb dX6_run_94 rfl (lv_at hl 1 rfl) ?_
          have e_c : cRn tx len = 0 := by rw [cRn, if_pos h_v]
          exact q_iretXE hx hb hr hlocks hw (Nat.le_of_ble_eq_true rfl) (Nat.le_of_ble_eq_true rfl) dX6_run_95 e_c (⟨by rw [h_r], (nxO tx len q (p1, l1, o1, v1)).2.1, (nxO tx len q (p1, l1, o1, v1)).2.2.1, (nxO tx len q (p1, l1, o1, v1)).2.2.2.1, (nxO tx len q (p1, l1, o1, v1)).2.2.2.2.1, (nxO tx len q (p1, l1, o1, v1)).2.2.2.2.2, h_oB.1, h_oB.2, by rw [h_r]⟩)
        · obtain ⟨h_q, E, k, e_n, hE, h_p, h_e, h_EX, h_pv⟩ := runI_go hy5 c_53
          have h_ok := E_ok hE (po_OK h_2 h_p)
          have h_oB := nxO_oB (n := len) (q := q) (p1 := p1) (l1 := l1) h_2 hy1 hy2
          have h_ge : q < (pO tx len q).2.1 := po_ge tx len q none none h_p h_3
          rw [e_n] at hw h_oB
          have hw : wS D A (wX cy a τ (cpK kept σ (nxt * 86) 86) ((nxt + 1) % 6) (min (cnt + 1) 6) (tI tx) len ((pO tx len q).2.1 + 1) (nI (E.1)) (nI (E.2.1)) (nO (E.2.2.1)) (nO (E.2.2.2)) ++ Z) s H locs := hw
          have hP := hw.1
          refine lv_aload_n hx hb dX6_run_56 rfl (lv_at hl 0 rfl) ?_
          refine lv_aload_n hx hb dX6_run_57 rfl (lv_at hl 0 rfl) ?_
          refine va_get (D := D) (ci := 6) (v := .ref (a 14)) (C := RX6) (T := TX6) (N := 4) hx hb hts (fun _ h => List.mem_cons_of_mem _ (List.mem_append_left _ (List.mem_append_left _ (List.mem_append_left _ (List.mem_append_left _ (List.mem_append_left _ (List.mem_append_left _ (List.mem_append_left _ (List.mem_append_right _ h))))))))) hown hK hP 0 rfl rfl 3 (by decide) (hts (.fieldLink RX6 33 "SpreadParity" "text" "LSpreadParity$OrderText;") (List.mem_of_getElem? (i := 3) rfl)) (fun _ h9 => h9) rfl dX6_run_58 ?_
          refine q_cV (As := []) (rest := [.ref (a 0)]) ⟨hx, hb, hml, hown, hts⟩ (c_X3_order D cy a τ (cpK kept σ (nxt * 86) 86) ((nxt + 1) % 6) (min (cnt + 1) 6) (tI tx) len ((pO tx len q).2.1 + 1) (nI (E.1)) (nI (E.2.1)) (nO (E.2.2.1)) (nO (E.2.2.2)) Z ) (cwV 0 hts gX6_run_X3_order rfl rfl rfl hd_X3_order ⟨Nat.le_of_ble_eq_true rfl, Nat.le_of_ble_eq_true rfl⟩) hK hP 14 rfl rfl rfl hl.1 rfl (Nat.le_of_ble_eq_true rfl) ⟨Nat.zero_le _, Nat.zero_le _⟩ dX6_run_61 ?_
          refine q_cV (As := [.ref (a 17)]) (rest := []) ⟨hx, hb, hml, hown, hts⟩ (c_X6_canObey D cy a τ (cpK kept σ (nxt * 86) 86) ((nxt + 1) % 6) (min (cnt + 1) 6) (tI tx) len ((pO tx len q).2.1 + 1) (nI (E.1)) (nI (E.2.1)) (nO (E.2.2.1)) (nO (E.2.2.2)) Z (E.1) (E.2.1) (E.2.2.1) (E.2.2.2) h_ok) (cwV 1 hts gX6_run_X6_canObey rfl rfl rfl hd_X6_canObey ⟨Nat.le_of_ble_eq_true rfl, Nat.le_of_ble_eq_true rfl⟩) hK hP 0 rfl rfl rfl hl.1 rfl (Nat.le_of_ble_eq_true rfl) ⟨Nat.zero_le _, Nat.zero_le _⟩ dX6_run_64 ?_
          refine q_ifeqB (tgt := 87) hx hb dX6_run_67 (by decide) (fun c_67 => ?_) (fun c_67 => ?_)
          · have h_r := runI_stop hE h_EX (fun h => by rw [c_67] at h; cases h) hy0
            refine lv_aload_n hx hb dX6_run_87 rfl (lv_at hl 0 rfl) ?_
            refine va_get (D := D) (ci := 6) (v := .ref (a 14)) (C := RX6) (T := TX6) (N := 4) hx hb hts (fun _ h => List.mem_cons_of_mem _ (List.mem_append_left _ (List.mem_append_left _ (List.mem_append_left _ (List.mem_append_left _ (List.mem_append_left _ (List.mem_append_left _ (List.mem_append_left _ (List.mem_append_right _ h))))))))) hown hK hP 0 rfl rfl 3 (by decide) (hts (.fieldLink RX6 33 "SpreadParity" "text" "LSpreadParity$OrderText;") (List.mem_of_getElem? (i := 3) rfl)) (fun _ h9 => h9) rfl dX6_run_88 ?_
            refine q_wV0 (As := []) (rest := []) (st1 := []) ⟨hx, hb, hml, hown, hts⟩ (c_X3_empty D cy A a τ (cpK kept σ (nxt * 86) 86) ((nxt + 1) % 6) (min (cnt + 1) 6) (tI tx) len ((pO tx len q).2.1 + 1) (nI (E.1)) (nI (E.2.1)) (nO (E.2.2.1)) (nO (E.2.2.2)) Z ) (cwV 0 hts gX6_run_X3_empty rfl rfl rfl hd_X3_empty ⟨Nat.le_of_ble_eq_true rfl, Nat.le_of_ble_eq_true rfl⟩) hK hA hw 14 rfl rfl rfl hl.1 rfl rfl (Nat.le_of_ble_eq_true rfl) ⟨Nat.zero_le _, Nat.zero_le _⟩ dX6_run_91 (fun H locs hw => ?_)
            have hw : wS D A (wX cy a τ (cpK kept σ (nxt * 86) 86) ((nxt + 1) % 6) (min (cnt + 1) 6) (tI tx) 0 ((pO tx len q).2.1 + 1) (nI (E.1)) (nI (E.2.1)) (nO (E.2.2.1)) (nO (E.2.2.2)) ++ Z) s H locs := hw
            have hP := hw.1
            refine lv_iload_n hx hb dX6_run_94 rfl (lv_at hl 1 rfl) ?_
            have e_c : cRn tx len = 0 := by rw [cRn, if_pos h_v]
            exact q_iretXE hx hb hr hlocks hw (Nat.le_of_ble_eq_true rfl) (Nat.le_of_ble_eq_true rfl) dX6_run_95 e_c (⟨by rw [h_r], (pO tx len q).2.1 + 1, E.1, E.2.1, E.2.2.1, E.2.2.2, h_oB.1, h_oB.2, by rw [h_r]⟩)
          · refine lv_aload_n hx hb dX6_run_70 rfl (lv_at hl 0 rfl) ?_
            refine lv_aload_n hx hb dX6_run_71 rfl (lv_at hl 0 rfl) ?_
            refine va_get (D := D) (ci := 6) (v := .ref (a 14)) (C := RX6) (T := TX6) (N := 4) hx hb hts (fun _ h => List.mem_cons_of_mem _ (List.mem_append_left _ (List.mem_append_left _ (List.mem_append_left _ (List.mem_append_left _ (List.mem_append_left _ (List.mem_append_left _ (List.mem_append_left _ (List.mem_append_right _ h))))))))) hown hK hP 0 rfl rfl 3 (by decide) (hts (.fieldLink RX6 33 "SpreadParity" "text" "LSpreadParity$OrderText;") (List.mem_of_getElem? (i := 3) rfl)) (fun _ h9 => h9) rfl dX6_run_72 ?_
            refine q_cV (As := []) (rest := [.ref (a 0)]) ⟨hx, hb, hml, hown, hts⟩ (c_X3_order D cy a τ (cpK kept σ (nxt * 86) 86) ((nxt + 1) % 6) (min (cnt + 1) 6) (tI tx) len ((pO tx len q).2.1 + 1) (nI (E.1)) (nI (E.2.1)) (nO (E.2.2.1)) (nO (E.2.2.2)) Z ) (cwV 0 hts gX6_run_X3_order rfl rfl rfl hd_X3_order ⟨Nat.le_of_ble_eq_true rfl, Nat.le_of_ble_eq_true rfl⟩) hK hP 14 rfl rfl rfl hl.1 rfl (Nat.le_of_ble_eq_true rfl) ⟨Nat.zero_le _, Nat.zero_le _⟩ dX6_run_75 ?_
            refine q_wV0 (As := [.ref (a 17)]) (rest := []) (st1 := []) ⟨hx, hb, hml, hown, hts⟩ (c_X6_obey D cy A a τ (cpK kept σ (nxt * 86) 86) ((nxt + 1) % 6) (min (cnt + 1) 6) (tI tx) len ((pO tx len q).2.1 + 1) (nI (E.1)) (nI (E.2.1)) (nO (E.2.2.1)) (nO (E.2.2.2)) Z (E.1) (E.2.1) (E.2.2.1) (E.2.2.2) h_ok hy0) (cwV 1 hts gX6_run_X6_obey rfl rfl rfl hd_X6_obey ⟨Nat.le_of_ble_eq_true rfl, Nat.le_of_ble_eq_true rfl⟩) hK hA hw 0 rfl rfl rfl hl.1 rfl rfl (Nat.le_of_ble_eq_true rfl) ⟨Nat.zero_le _, Nat.zero_le _⟩ dX6_run_78 (fun H locs hw => ?_)
            have hw : wS D A (wX cy a (doO τ E.2.1 E.2.2.1 E.2.2.2) (cpK kept σ (nxt * 86) 86) ((nxt + 1) % 6) (min (cnt + 1) 6) (tI tx) len ((pO tx len q).2.1 + 1) (nI (E.1)) (nI (E.2.1)) (nO (E.2.2.1)) (nO (E.2.2.2)) ++ Z) s H locs := hw
            have hP := hw.1
            refine lv_iinc (v := nI (i + 1)) (lv' := [(1, .int (nI (i + 1))), (0, .ref (a 0))]) hx hb dX6_run_81 hl (k := 1) rfl (show nI (i) + nI 1 = nI (i + 1) from nI_add _ _) (by decide) rfl (fun ls hl => ?_)
            refine lv_goto (tgt := 40) hx hb dX6_run_84 (by decide) ?_
            exact ih_i (i + 1) (by omega) (doO τ E.2.1 E.2.2.1 E.2.2.2) ((pO tx len q).2.1 + 1) (E.1) (E.2.1) (E.2.2.1) (E.2.2.2) (Val_do (o := (E.2.1, E.2.2.1, E.2.2.2)) hy0 h_ok (by have h9 := (okO_err hy0 _ _).mp c_67; simp only; omega)) (h_oB.1) (h_oB.2) (by omega) (by omega) (runI_next hE h_e h_EX h_pv ((okO_err hy0 _ _).mp c_67)) _ _ _ hw (lv_sub hl [1, 0] rfl)
    exact lp40 (60 - 0) 0 (by omega) (σ) (0) ((scan tx len 0 (0, lc, on, ov)).2.1) ((scan tx len 0 (0, lc, on, ov)).2.2.1) ((scan tx len 0 (0, lc, on, ov)).2.2.2.1) ((scan tx len 0 (0, lc, on, ov)).2.2.2.2) (h_6) ((scan_OK tx h_2 len 0 (r := (0, lc, on, ov)) ⟨by omega, h_0, h_1⟩).2.1) ((scan_OK tx h_2 len 0 (r := (0, lc, on, ov)) ⟨by omega, h_0, h_1⟩).2.2) (Nat.le_refl _) (Nat.zero_le _) (Or.inl ⟨Nat.zero_le _, len, h_v, rfl⟩) _ _ _ hw (lv_sub hl [1, 0] rfl)
  · have e_c : cRn tx len = 1 := by rw [cRn, if_neg (by rw [← sc_valid lc on ov, c_7]; decide)]
    obtain ⟨sa, hsa⟩ := hN.2.2.2 (233, "the buffer is not a complete order text") (by decide)
    exact vx_throwS (names := eNm) (A := A) (sa := sa) (text := "the buffer is not a complete order text") hx hb hst hown eA_fit eNm_fit (hts (.classLink RX6 77 "java/lang/IllegalArgumentException") (List.mem_of_getElem? (i := 1) rfl)) (hts (.initialized "java/lang/IllegalArgumentException") (List.mem_of_getElem? (i := 2) rfl)) hsa (vx_hat (fun w h => hts w ((fun _ h => List.mem_cons_of_mem _ (List.mem_append_right _ h)) w h)) eA_bad (fun w h => va_Nw.use (xWd_on w (eA_wd w h)) (hN.2.2.1 w (eA_wd w h)))) eA_good hN.1 hN.2.1 hw.2.2 (hl.1.trans hml.symm) dX6_run_10 dX6_run_13 dX6_run_14 dX6_run_16 dX6_run_19 (fun x h => (hexc x h).elim) (by decide) (by decide) (by decide) (by decide) hlocks (fun t _ hz hk => ⟨by rw [e_c]; decide, by rw [e_c] <;> rfl, _, ⟨(scan tx len 0 (0, lc, on, ov)).2.1, (scan tx len 0 (0, lc, on, ov)).2.2.1, (scan tx len 0 (0, lc, on, ov)).2.2.2.1, (scan tx len 0 (0, lc, on, ov)).2.2.2.2, (scan_OK tx h_2 len 0 (r := (0, lc, on, ov)) ⟨by omega, h_0, h_1⟩).2.1, (scan_OK tx h_2 len 0 (r := (0, lc, on, ov)) ⟨by omega, h_0, h_1⟩).2.2, rfl⟩, wS.x hw hz hk⟩) hw.2.2.2.2 (by decide) (by decide)
