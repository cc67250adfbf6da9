theorem lies_t {s d i : Nat} (hi : i < 3) (h : mem s i = d) : lies s d = true := by
  have h2 : i = 0 ∨ i = 1 ∨ i = 2 := by omega
  rcases h2 with rfl | rfl | rfl <;> simp [lies, h]
theorem lies_f {s d : Nat} (h : ∀ x, x < 3 → ¬ mem s x = d) : lies s d = false := by
  simp [lies, h 0 (by omega), h 1 (by omega), h 2 (by omega)]
theorem q_min {a b : Nat} (ha : a < 2 ^ 31) (hb : b < 2 ^ 31) : (if nI b < nI a then nI b else nI a) = nI (min a b) := by
  by_cases h : b < a
  · rw [if_pos ((nI_ltI hb ha).mpr h), Nat.min_eq_right (by omega)]
  · rw [if_neg (fun h2 => h ((nI_ltI hb ha).mp h2)), Nat.min_eq_left (by omega)]

set_option maxHeartbeats 1000000 in
set_option maxRecDepth 100000 in
theorem c_X1_discOfSpot {l : Launch} (D : va_G) (cy : ClassId)  (k : Nat) (h_0 : k < 2 ^ 31) : Met l yX1_discOfSpot wsX1_discOfSpot (k2_rm 0 0) (gR D cy [.int (nI (k))] []) (k2_QcV (.int (nI (k / 9)))) 0 0 (fun _ => False) := by
  refine q_pure (cc := cX1_discOfSpot) (maxL := 1) (ret := (some .int)) pl_X1 rfl (Nat.le_of_ble_eq_true rfl) ?_
  intro p e s m below meth c ls hx hb hr hml hts hown hlocks hP hK hl
  have hl : lv_has ls 1 [(0, .int (nI (k)))] := hl
  refine lv_iload_n hx hb dX1_discOfSpot_0 rfl (lv_at hl 0 rfl) ?_
  refine lv_bipush (v := nI 9) hx hb dX1_discOfSpot_1 rfl ?_
  refine q_divN hx hb dX1_discOfSpot_3 (by omega) (by omega) (by omega) ?_
  exact q_iret hx hb hr hlocks dX1_discOfSpot_4 (rfl)
set_option maxHeartbeats 1000000 in
set_option maxRecDepth 100000 in
theorem c_X1_placeOfSpot {l : Launch} (D : va_G) (cy : ClassId)  (k : Nat) (h_0 : k < 2 ^ 31) : Met l yX1_placeOfSpot wsX1_placeOfSpot (k2_rm 0 0) (gR D cy [.int (nI (k))] []) (k2_QcV (.int (nI (k % 9)))) 0 0 (fun _ => False) := by
  refine q_pure (cc := cX1_placeOfSpot) (maxL := 1) (ret := (some .int)) pl_X1 rfl (Nat.le_of_ble_eq_true rfl) ?_
  intro p e s m below meth c ls hx hb hr hml hts hown hlocks hP hK hl
  have hl : lv_has ls 1 [(0, .int (nI (k)))] := hl
  refine lv_iload_n hx hb dX1_placeOfSpot_0 rfl (lv_at hl 0 rfl) ?_
  refine lv_bipush (v := nI 9) hx hb dX1_placeOfSpot_1 rfl ?_
  refine q_remN hx hb dX1_placeOfSpot_3 (by omega) (by omega) (by omega) ?_
  exact q_iret hx hb hr hlocks dX1_placeOfSpot_4 (rfl)
set_option maxHeartbeats 1000000 in
set_option maxRecDepth 100000 in
theorem c_X1_spotAt {l : Launch} (D : va_G) (cy : ClassId)  (d : Nat) (q : Nat) : Met l yX1_spotAt wsX1_spotAt (k2_rm 0 0) (gR D cy [.int (nI (d)), .int (nI (q))] []) (k2_QcV (.int (nI (9 * d + q)))) 0 0 (fun _ => False) := by
  refine q_pure (cc := cX1_spotAt) (maxL := 2) (ret := (some .int)) pl_X1 rfl (Nat.le_of_ble_eq_true rfl) ?_
  intro p e s m below meth c ls hx hb hr hml hts hown hlocks hP hK hl
  have hl : lv_has ls 2 [(0, .int (nI (d))), (1, .int (nI (q)))] := hl
  refine lv_bipush (v := nI 9) hx hb dX1_spotAt_0 rfl ?_
  refine lv_iload_n hx hb dX1_spotAt_2 rfl (lv_at hl 0 rfl) ?_
  refine q_mulN hx hb dX1_spotAt_3 ?_
  refine lv_iload_n hx hb dX1_spotAt_4 rfl (lv_at hl 1 rfl) ?_
  refine q_addN hx hb dX1_spotAt_5 ?_
  exact q_iret hx hb hr hlocks dX1_spotAt_6 (rfl)
set_option maxHeartbeats 1000000 in
set_option maxRecDepth 100000 in
theorem c_X1_discOfMember {l : Launch} (D : va_G) (cy : ClassId)  (s_ : Nat) (mm : Nat) (h_0 : s_ < 21) (h_1 : mm < 3) : Met l yX1_discOfMember wsX1_discOfMember (k2_rm 0 0) (gR D cy [.int (nI (s_)), .int (nI (mm))] []) (k2_QcV (.int (nI (mem s_ mm)))) 0 0 (fun _ => False) := by
  refine q_pure (cc := cX1_discOfMember) (maxL := 2) (ret := (some .int)) pl_X1 rfl (Nat.le_of_ble_eq_true rfl) ?_
  intro p e s m below meth c ls hx hb hr hml hts hown hlocks hP hK hl
  have hl : lv_has ls 2 [(0, .int (nI (s_))), (1, .int (nI (mm)))] := hl
  refine lv_iload_n hx hb dX1_discOfMember_0 rfl (lv_at hl 0 rfl) ?_
  refine lv_iload_n hx hb dX1_discOfMember_1 rfl (lv_at hl 1 rfl) ?_
  refine lv_iconst (v := nI 2) hx hb dX1_discOfMember_2 rfl ?_
  refine q_neN (tgt := 10) hx hb dX1_discOfMember_3 (by decide) (by omega) (by omega) (fun c_3 => ?_) (fun c_3 => ?_)
  · refine lv_iload_n hx hb dX1_discOfMember_10 rfl (lv_at hl 1 rfl) ?_
    refine q_addN hx hb dX1_discOfMember_11 ?_
    refine lv_bipush (v := nI 7) hx hb dX1_discOfMember_12 rfl ?_
    refine q_remN hx hb dX1_discOfMember_14 (by omega) (by omega) (by omega) ?_
    exact q_iret hx hb hr hlocks dX1_discOfMember_15 (by first | (subst c_3; rfl) | (simp only [mem, c_3, if_false]))
  · refine lv_iconst (v := nI 3) hx hb dX1_discOfMember_6 rfl ?_
    refine lv_goto (tgt := 11) hx hb dX1_discOfMember_7 (by decide) ?_
    refine q_addN hx hb dX1_discOfMember_11 ?_
    refine lv_bipush (v := nI 7) hx hb dX1_discOfMember_12 rfl ?_
    refine q_remN hx hb dX1_discOfMember_14 (by omega) (by omega) (by omega) ?_
    exact q_iret hx hb hr hlocks dX1_discOfMember_15 (by first | (subst c_3; rfl) | (simp only [mem, c_3, if_false]))
set_option maxHeartbeats 1000000 in
set_option maxRecDepth 100000 in
theorem c_X1_liesOn {l : Launch} (D : va_G) (cy : ClassId)  (s_ : Nat) (d : Nat) (h_0 : s_ < 21) (h_1 : d < 7) : Met l yX1_liesOn wsX1_liesOn (k2_rm 1 21) (gR D cy [.int (nI (s_)), .int (nI (d))] []) (k2_QcV (.int (bI (lies s_ d)))) 0 0 (fun _ => False) := by
  refine q_pure (cc := cX1_liesOn) (maxL := 3) (ret := (some .boolean)) pl_X1 rfl (Nat.le_of_ble_eq_true rfl) ?_
  intro p e s m below meth c ls hx hb hr hml hts hown hlocks hP hK hl
  have hl : lv_has ls 3 [(0, .int (nI (s_))), (1, .int (nI (d)))] := hl
  refine lv_iconst (v := nI 0) hx hb dX1_liesOn_0 rfl ?_
  refine lv_istore_n (lv' := [(2, .int (nI (0))), (0, .int (nI (s_))), (1, .int (nI (d)))]) hx hb dX1_liesOn_1 rfl hl (by decide) rfl (fun ls hl => ?_)
  have lp2 : ∀ (j_ i : Nat), i + j_ = 3 → (∀ x, x < i → ¬ mem s_ x = d) → ∀ (ls : Array Slot), lv_has ls 3 [(0, .int (nI (s_))), (1, .int (nI (d))), (2, .int (nI (i)))] → W p l e (k2_rm 1 21) s m ([.int (nI (s_)), .int (nI (d))] : List Value).toArray below meth c s.heap [] 0 0 (MQ below (k2_QcV (.int (bI (lies s_ d)))) ([.int (nI (s_)), .int (nI (d))] : List Value).toArray s 0 0 (fun _ => False)) (F0 m 2 ls []) := by
    intro j_
    induction j_ with
    | zero =>
      intro i hn_i hy0 ls hl
      refine lv_iload_n hx hb dX1_liesOn_2 rfl (lv_at hl 2 rfl) ?_
      refine lv_iconst (v := nI 3) hx hb dX1_liesOn_3 rfl ?_
      refine q_geN (tgt := 24) hx hb dX1_liesOn_4 (by decide) (by omega) (by omega) (fun c_4 => ?_) (fun c_4 => absurd c_4 (by omega))
      refine lv_iconst (v := nI 0) hx hb dX1_liesOn_24 rfl ?_
      exact q_zret hx hb hr hlocks dX1_liesOn_25 (by rw [show lies s_ d = false from lies_f (fun x hx => hy0 x (by omega))]; rfl)
    | succ j_ ih_i =>
      intro i hn_i hy0 ls hl
      refine lv_iload_n hx hb dX1_liesOn_2 rfl (lv_at hl 2 rfl) ?_
      refine lv_iconst (v := nI 3) hx hb dX1_liesOn_3 rfl ?_
      refine q_geN (tgt := 24) hx hb dX1_liesOn_4 (by decide) (by omega) (by omega) (fun c_4 => absurd c_4 (by omega)) (fun c_4 => ?_)
      refine lv_iload_n hx hb dX1_liesOn_7 rfl (lv_at hl 0 rfl) ?_
      refine lv_iload_n hx hb dX1_liesOn_8 rfl (lv_at hl 2 rfl) ?_
      refine q_cS (As := [.int (nI (s_)), .int (nI (i))]) (rest := []) (w := []) ⟨hx, hb, hml, hown, hts⟩ (c_X1_discOfMember D cy (s_) (i) (by omega) (by omega)) (va_cwS 2 hts gX1_liesOn_X1_discOfMember rfl rfl rfl hd_X1_discOfMember ⟨Nat.le_of_ble_eq_true rfl, Nat.le_of_ble_eq_true rfl⟩) hK q_Pnil rfl hl.1 rfl (Nat.le_of_ble_eq_true rfl) ⟨Nat.zero_le _, Nat.zero_le _⟩ dX1_liesOn_9 ?_
      refine lv_iload_n hx hb dX1_liesOn_12 rfl (lv_at hl 1 rfl) ?_
      refine q_neN (tgt := 18) hx hb dX1_liesOn_13 (by decide) (by have := mem_lt s_ i; omega) (by omega) (fun c_13 => ?_) (fun c_13 => ?_)
      · refine lv_iinc (v := nI (i + 1)) (lv' := [(2, .int (nI (i + 1))), (0, .int (nI (s_))), (1, .int (nI (d)))]) hx hb dX1_liesOn_18 hl (k := 2) rfl (show nI (i) + nI 1 = nI (i + 1) from nI_add _ _) (by decide) rfl (fun ls hl => ?_)
        refine lv_goto (tgt := 2) hx hb dX1_liesOn_21 (by decide) ?_
        exact ih_i (i + 1) (by omega) (fun x hx => by by_cases h9 : x = i; exact (h9 ▸ c_13); exact hy0 x (by omega)) _ (lv_sub hl [1, 2, 0] rfl)
      · refine lv_iconst (v := nI 1) hx hb dX1_liesOn_16 rfl ?_
        exact q_zret hx hb hr hlocks dX1_liesOn_17 (by rw [show lies s_ d = true from lies_t (by omega) c_13]; rfl)
  exact lp2 (3 - 0) 0 (by omega) (fun x hx => absurd hx (Nat.not_lt_zero x)) _ (lv_sub hl [1, 2, 0] rfl)
set_option maxHeartbeats 1000000 in
set_option maxRecDepth 100000 in
theorem c_X5_hasUnit {l : Launch} (D : va_G) (cy : ClassId) (a : Nat → Nat) (σ kept : Nat → Int32) (nxt cnt : Nat) (T : Nat → Int32) (len pos : Nat) (ph le nu va : Int32) (Z : va_W) (τ : Nat → Int32) (k : Nat) (wo : Int32) (h_0 : k < 63) (h_1 : Wo σ wo τ) : Met l yX5_hasUnit wsX5_hasUnit (k2_rm 1 21) (gR D cy [.ref (a 8), .int (nI (k)), .int (wo)] (wX cy a σ kept nxt cnt T len pos ph le nu va ++ Z)) (k2_QcV (.int (bI (th τ k)))) 0 0 (fun _ => False) := by
  refine q_pure (cc := cX5_hasUnit) (maxL := 4) (ret := (some .boolean)) pl_X5 rfl (Nat.le_of_ble_eq_true rfl) ?_
  intro p e s m below meth c ls hx hb hr hml hts hown hlocks hP hK hl
  have hl : lv_has ls 4 [(0, .ref (a 8)), (1, .int (nI (k))), (2, .int (wo))] := hl
  refine lv_iload_n hx hb dX5_hasUnit_0 rfl (lv_at hl 1 rfl) ?_
  refine q_cS (As := [.int (nI (k))]) (rest := []) (w := []) ⟨hx, hb, hml, hown, hts⟩ (c_X1_discOfSpot D cy (k) (by omega)) (va_cwS 1 hts gX5_hasUnit_X1_discOfSpot rfl rfl rfl hd_X1_discOfSpot ⟨Nat.le_of_ble_eq_true rfl, Nat.le_of_ble_eq_true rfl⟩) hK q_Pnil rfl hl.1 rfl (Nat.le_of_ble_eq_true rfl) ⟨Nat.zero_le _, Nat.zero_le _⟩ dX5_hasUnit_1 ?_
  refine lv_istore_n (lv' := [(3, .int (nI (k / 9))), (0, .ref (a 8)), (1, .int (nI (k))), (2, .int (wo))]) hx hb dX5_hasUnit_4 rfl hl (by decide) rfl (fun ls hl => ?_)
  refine lv_iload_n hx hb dX5_hasUnit_5 rfl (lv_at hl 0 rfl) ?_
  refine lv_iload_n hx hb dX5_hasUnit_6 rfl (lv_at hl 3 rfl) ?_
  refine lv_icmp_eq (tgt := 32) hx hb dX5_hasUnit_7 (by decide) (fun (c_7 : (nI (k / 9)) = (wo)) => ?_) (fun (c_7 : ¬ (nI (k / 9)) = (wo)) => ?_)
  · refine lv_iconst (v := nI 0) hx hb dX5_hasUnit_32 rfl ?_
    exact q_zret hx hb hr hlocks dX5_hasUnit_33 (by rw [← h_1 _ h_0]; simp [c_7, bI, nI_0])
  · refine lv_aload_n hx hb dX5_hasUnit_10 rfl (lv_at hl 1 rfl) ?_
    refine va_get (D := D) (ci := 5) (v := .ref (a 9)) (C := RX5) (T := TX5) (N := 1) hx hb hts (fun _ h => List.mem_cons_of_mem _ (List.mem_append_left _ (List.mem_append_right _ h))) hown hK hP 8 rfl rfl 0 (by decide) (hts (.fieldLink RX5 18 "SpreadParity$State" "row" "LSpreadParity$Row;") (List.mem_of_getElem? (i := 1) rfl)) (fun _ h9 => h9) rfl dX5_hasUnit_11 ?_
    refine lv_bipush (v := nI 63) hx hb dX5_hasUnit_14 rfl ?_
    refine lv_iload_n hx hb dX5_hasUnit_16 rfl (lv_at hl 0 rfl) ?_
    refine q_addN hx hb dX5_hasUnit_17 ?_
    refine q_cV (As := [.int (nI (63 + (k / 9)))]) (rest := []) ⟨hx, hb, hml, hown, hts⟩ (c_X4_at D cy (wX cy a σ kept nxt cnt T len pos ph le nu va ++ Z) 9 10 (a 9) (a 10) 86 σ rfl rfl (63 + (k / 9)) (by omega) (by omega)) (cwV 1 hts gX5_hasUnit_X4_at rfl rfl rfl hd_X4_at ⟨Nat.le_of_ble_eq_true rfl, Nat.le_of_ble_eq_true rfl⟩) hK hP 9 rfl rfl rfl hl.1 rfl (Nat.le_of_ble_eq_true rfl) ⟨Nat.zero_le _, Nat.zero_le _⟩ dX5_hasUnit_18 ?_
    refine lv_iload_n hx hb dX5_hasUnit_21 rfl (lv_at hl 2 rfl) ?_
    refine q_cS (As := [.int (nI (k))]) (rest := [.int (σ (63 + (k / 9)))]) (w := []) ⟨hx, hb, hml, hown, hts⟩ (c_X1_placeOfSpot D cy (k) (by omega)) (va_cwS 1 hts gX5_hasUnit_X1_placeOfSpot rfl rfl rfl hd_X1_placeOfSpot ⟨Nat.le_of_ble_eq_true rfl, Nat.le_of_ble_eq_true rfl⟩) hK q_Pnil rfl hl.1 rfl (Nat.le_of_ble_eq_true rfl) ⟨Nat.zero_le _, Nat.zero_le _⟩ dX5_hasUnit_22 ?_
    refine lv_icmp_le (tgt := 32) hx hb dX5_hasUnit_25 (by decide) (fun (c_25 : (σ (63 + (k / 9))) ≤ (nI (k % 9))) => ?_) (fun (c_25 : ¬ (σ (63 + (k / 9))) ≤ (nI (k % 9))) => ?_)
    · refine lv_iconst (v := nI 0) hx hb dX5_hasUnit_32 rfl ?_
      exact q_zret hx hb hr hlocks dX5_hasUnit_33 (by rw [← h_1 _ h_0]; simp [th, Int32.not_lt.mpr c_25, bI, nI_0])
    · refine lv_iconst (v := nI 1) hx hb dX5_hasUnit_28 rfl ?_
      refine lv_goto (tgt := 33) hx hb dX5_hasUnit_29 (by decide) ?_
      exact q_zret hx hb hr hlocks dX5_hasUnit_33 (by rw [← h_1 _ h_0]; simp [th, c_7, Int32.not_le.mp c_25, bI]; rfl)
set_option maxHeartbeats 1000000 in
set_option maxRecDepth 100000 in
theorem c_X5_valueAt {l : Launch} (D : va_G) (cy : ClassId) (a : Nat → Nat) (σ kept : Nat → Int32) (nxt cnt : Nat) (T : Nat → Int32) (len pos : Nat) (ph le nu va : Int32) (Z : va_W) (k : Nat) (h_0 : k < 86) : Met l yX5_valueAt wsX5_valueAt (k2_rm 1 21) (gR D cy [.ref (a 8), .int (nI (k))] (wX cy a σ kept nxt cnt T len pos ph le nu va ++ Z)) (k2_QcV (.int (σ k))) 0 0 (fun _ => False) := by
  refine q_pure (cc := cX5_valueAt) (maxL := 2) (ret := (some .int)) pl_X5 rfl (Nat.le_of_ble_eq_true rfl) ?_
  intro p e s m below meth c ls hx hb hr hml hts hown hlocks hP hK hl
  have hl : lv_has ls 2 [(0, .ref (a 8)), (1, .int (nI (k)))] := hl
  refine lv_aload_n hx hb dX5_valueAt_0 rfl (lv_at hl 0 rfl) ?_
  refine va_get (D := D) (ci := 5) (v := .ref (a 9)) (C := RX5) (T := TX5) (N := 1) hx hb hts (fun _ h => List.mem_cons_of_mem _ (List.mem_append_left _ (List.mem_append_right _ h))) hown hK hP 8 rfl rfl 0 (by decide) (hts (.fieldLink RX5 18 "SpreadParity$State" "row" "LSpreadParity$Row;") (List.mem_of_getElem? (i := 1) rfl)) (fun _ h9 => h9) rfl dX5_valueAt_1 ?_
  refine lv_iload_n hx hb dX5_valueAt_4 rfl (lv_at hl 1 rfl) ?_
  refine q_cV (As := [.int (nI (k))]) (rest := []) ⟨hx, hb, hml, hown, hts⟩ (c_X4_at D cy (wX cy a σ kept nxt cnt T len pos ph le nu va ++ Z) 9 10 (a 9) (a 10) 86 σ rfl rfl (k) (by omega) (by omega)) (cwV 1 hts gX5_valueAt_X4_at rfl rfl rfl hd_X4_at ⟨Nat.le_of_ble_eq_true rfl, Nat.le_of_ble_eq_true rfl⟩) hK hP 9 rfl rfl rfl hl.1 rfl (Nat.le_of_ble_eq_true rfl) ⟨Nat.zero_le _, Nat.zero_le _⟩ dX5_valueAt_5 ?_
  exact q_iret hx hb hr hlocks dX5_valueAt_8 (rfl)
set_option maxHeartbeats 1000000 in
set_option maxRecDepth 100000 in
theorem c_X5_setValue {l : Launch} (D : va_G) (cy : ClassId) (A : Nat → Prop) (a : Nat → Nat) (σ kept : Nat → Int32) (nxt cnt : Nat) (T : Nat → Int32) (len pos : Nat) (ph le nu va : Int32) (Z : va_W) (k : Nat) (x : Int32) (h_0 : k < 86) : Met l yX5_setValue wsX5_setValue (k2_rm 1 22) (gP D cy [.ref (a 8), .int (nI (k)), .int (x)] A (wX cy a σ kept nxt cnt T len pos ph le nu va ++ Z)) (gQ D A (none) (wX cy a (upd σ k x) kept nxt cnt T len pos ph le nu va ++ Z)) 0 0 A := by
  refine q_imp (cc := cX5_setValue) (maxL := 3) (ret := none) pl_X5 rfl (Nat.le_of_ble_eq_true rfl) ?_
  intro p e s m below meth c ls hx hb hr hml hts hown hlocks hw hK hA hl
  have hP := hw.1
  have hl : lv_has ls 3 [(0, .ref (a 8)), (1, .int (nI (k))), (2, .int (x))] := hl
  refine lv_aload_n hx hb dX5_setValue_0 rfl (lv_at hl 0 rfl) ?_
  refine va_get (D := D) (ci := 5) (v := .ref (a 9)) (C := RX5) (T := TX5) (N := 1) hx hb hts (fun _ h => List.mem_cons_of_mem _ (List.mem_append_left _ (List.mem_append_right _ h))) hown hK hP 8 rfl rfl 0 (by decide) (hts (.fieldLink RX5 18 "SpreadParity$State" "row" "LSpreadParity$Row;") (List.mem_of_getElem? (i := 1) rfl)) (fun _ h9 => h9) rfl dX5_setValue_1 ?_
  refine lv_iload_n hx hb dX5_setValue_4 rfl (lv_at hl 1 rfl) ?_
  refine lv_iload_n hx hb dX5_setValue_5 rfl (lv_at hl 2 rfl) ?_
  refine q_wV0 (As := [.int (nI (k)), .int (x)]) (rest := []) (st1 := []) ⟨hx, hb, hml, hown, hts⟩ (c_X4_put D cy A (wX cy a σ kept nxt cnt T len pos ph le nu va ++ Z) 9 10 (a 9) (a 10) 86 σ rfl rfl (k) (x) (by omega) (by omega)) (cwV 2 hts gX5_setValue_X4_put rfl rfl rfl hd_X4_put ⟨Nat.le_of_ble_eq_true rfl, Nat.le_of_ble_eq_true rfl⟩) hK hA hw 9 rfl rfl rfl hl.1 rfl rfl (Nat.le_of_ble_eq_true rfl) ⟨Nat.zero_le _, Nat.zero_le _⟩ dX5_setValue_6 (fun H locs hw => ?_)
  have hw : wS D A (wX cy a (upd σ k x) kept nxt cnt T len pos ph le nu va ++ Z) s H locs := hw
  have hP := hw.1
  exact q_vretW hx hb hr hlocks hw dX5_setValue_9
set_option maxHeartbeats 1000000 in
set_option maxRecDepth 100000 in
theorem c_X5_fetch {l : Launch} (D : va_G) (cy : ClassId) (A : Nat → Prop) (a : Nat → Nat) (σ kept : Nat → Int32) (nxt cnt : Nat) (T : Nat → Int32) (len pos : Nat) (ph le nu va : Int32) (Z : va_W) (k : Nat) (h_0 : k < 63) : Met l yX5_fetch wsX5_fetch (k2_rm 1 21) (gP D cy [.ref (a 8), .int (nI (k))] A (wX cy a σ kept nxt cnt T len pos ph le nu va ++ Z)) (gQ D A (some (.int (σ k))) (wX cy a (rdS σ k) kept nxt cnt T len pos ph le nu va ++ Z)) 0 0 A := by
  refine q_imp (cc := cX5_fetch) (maxL := 2) (ret := (some .int)) pl_X5 rfl (Nat.le_of_ble_eq_true rfl) ?_
  intro p e s m below meth c ls hx hb hr hml hts hown hlocks hw hK hA hl
  have hP := hw.1
  have hl : lv_has ls 2 [(0, .ref (a 8)), (1, .int (nI (k)))] := hl
  refine lv_aload_n hx hb dX5_fetch_0 rfl (lv_at hl 0 rfl) ?_
  refine va_get (D := D) (ci := 5) (v := .ref (a 9)) (C := RX5) (T := TX5) (N := 1) hx hb hts (fun _ h => List.mem_cons_of_mem _ (List.mem_append_left _ (List.mem_append_right _ h))) hown hK hP 8 rfl rfl 0 (by decide) (hts (.fieldLink RX5 18 "SpreadParity$State" "row" "LSpreadParity$Row;") (List.mem_of_getElem? (i := 1) rfl)) (fun _ h9 => h9) rfl dX5_fetch_1 ?_
  refine lv_bipush (v := nI 70) hx hb dX5_fetch_4 rfl ?_
  refine lv_iload_n hx hb dX5_fetch_6 rfl (lv_at hl 1 rfl) ?_
  refine q_cS (As := [.int (nI (k))]) (rest := [.int (nI (70)), .ref (a 9)]) (w := []) ⟨hx, hb, hml, hown, hts⟩ (c_X1_discOfSpot D cy (k) (by omega)) (va_cwS 1 hts gX5_fetch_X1_discOfSpot rfl rfl rfl hd_X1_discOfSpot ⟨Nat.le_of_ble_eq_true rfl, Nat.le_of_ble_eq_true rfl⟩) hK q_Pnil rfl hl.1 rfl (Nat.le_of_ble_eq_true rfl) ⟨Nat.zero_le _, Nat.zero_le _⟩ dX5_fetch_7 ?_
  refine q_addN hx hb dX5_fetch_10 ?_
  refine q_wV0 (As := [.int (nI (70 + (k / 9)))]) (rest := []) (st1 := []) ⟨hx, hb, hml, hown, hts⟩ (c_X4_increase D cy A (wX cy a σ kept nxt cnt T len pos ph le nu va ++ Z) 9 10 (a 9) (a 10) 86 σ rfl rfl (70 + (k / 9)) (by omega) (by omega)) (cwV 1 hts gX5_fetch_X4_increase rfl rfl rfl hd_X4_increase ⟨Nat.le_of_ble_eq_true rfl, Nat.le_of_ble_eq_true rfl⟩) hK hA hw 9 rfl rfl rfl hl.1 rfl rfl (Nat.le_of_ble_eq_true rfl) ⟨Nat.zero_le _, Nat.zero_le _⟩ dX5_fetch_11 (fun H locs hw => ?_)
  have hw : wS D A (wX cy a (upd σ (70 + (k / 9)) (σ (70 + (k / 9)) + 1)) kept nxt cnt T len pos ph le nu va ++ Z) s H locs := hw
  have hP := hw.1
  refine lv_aload_n hx hb dX5_fetch_14 rfl (lv_at hl 0 rfl) ?_
  refine va_get (D := D) (ci := 5) (v := .ref (a 9)) (C := RX5) (T := TX5) (N := 1) hx hb hts (fun _ h => List.mem_cons_of_mem _ (List.mem_append_left _ (List.mem_append_right _ h))) hown hK hP 8 rfl rfl 0 (by decide) (hts (.fieldLink RX5 18 "SpreadParity$State" "row" "LSpreadParity$Row;") (List.mem_of_getElem? (i := 1) rfl)) (fun _ h9 => h9) rfl dX5_fetch_15 ?_
  refine lv_iload_n hx hb dX5_fetch_18 rfl (lv_at hl 1 rfl) ?_
  refine q_cV (As := [.int (nI (k))]) (rest := []) ⟨hx, hb, hml, hown, hts⟩ (c_X4_at D cy (wX cy a (upd σ (70 + (k / 9)) (σ (70 + (k / 9)) + 1)) kept nxt cnt T len pos ph le nu va ++ Z) 9 10 (a 9) (a 10) 86 (upd σ (70 + (k / 9)) (σ (70 + (k / 9)) + 1)) rfl rfl (k) (by omega) (by omega)) (cwV 1 hts gX5_fetch_X4_at rfl rfl rfl hd_X4_at ⟨Nat.le_of_ble_eq_true rfl, Nat.le_of_ble_eq_true rfl⟩) hK hP 9 rfl rfl rfl hl.1 rfl (Nat.le_of_ble_eq_true rfl) ⟨Nat.zero_le _, Nat.zero_le _⟩ dX5_fetch_19 ?_
  refine q_top (show ((upd σ (70 + (k / 9)) (σ (70 + (k / 9)) + 1)) k) = σ (k) from pk_un (by omega)) ?_
  exact q_iretW hx hb hr hlocks hw dX5_fetch_22 (rfl)
set_option maxHeartbeats 1000000 in
set_option maxRecDepth 100000 in
theorem c_X5_store {l : Launch} (D : va_G) (cy : ClassId) (A : Nat → Prop) (a : Nat → Nat) (σ kept : Nat → Int32) (nxt cnt : Nat) (T : Nat → Int32) (len pos : Nat) (ph le nu va : Int32) (Z : va_W) (k : Nat) (x : Int32) (h_0 : k < 63) : Met l yX5_store wsX5_store (k2_rm 1 22) (gP D cy [.ref (a 8), .int (nI (k)), .int (x)] A (wX cy a σ kept nxt cnt T len pos ph le nu va ++ Z)) (gQ D A (none) (wX cy a (wrS σ k x) kept nxt cnt T len pos ph le nu va ++ Z)) 0 0 A := by
  refine q_imp (cc := cX5_store) (maxL := 3) (ret := none) pl_X5 rfl (Nat.le_of_ble_eq_true rfl) ?_
  intro p e s m below meth c ls hx hb hr hml hts hown hlocks hw hK hA hl
  have hP := hw.1
  have hl : lv_has ls 3 [(0, .ref (a 8)), (1, .int (nI (k))), (2, .int (x))] := hl
  refine lv_aload_n hx hb dX5_store_0 rfl (lv_at hl 0 rfl) ?_
  refine va_get (D := D) (ci := 5) (v := .ref (a 9)) (C := RX5) (T := TX5) (N := 1) hx hb hts (fun _ h => List.mem_cons_of_mem _ (List.mem_append_left _ (List.mem_append_right _ h))) hown hK hP 8 rfl rfl 0 (by decide) (hts (.fieldLink RX5 18 "SpreadParity$State" "row" "LSpreadParity$Row;") (List.mem_of_getElem? (i := 1) rfl)) (fun _ h9 => h9) rfl dX5_store_1 ?_
  refine lv_bipush (v := nI 77) hx hb dX5_store_4 rfl ?_
  refine lv_iload_n hx hb dX5_store_6 rfl (lv_at hl 1 rfl) ?_
  refine q_cS (As := [.int (nI (k))]) (rest := [.int (nI (77)), .ref (a 9)]) (w := []) ⟨hx, hb, hml, hown, hts⟩ (c_X1_discOfSpot D cy (k) (by omega)) (va_cwS 1 hts gX5_store_X1_discOfSpot rfl rfl rfl hd_X1_discOfSpot ⟨Nat.le_of_ble_eq_true rfl, Nat.le_of_ble_eq_true rfl⟩) hK q_Pnil rfl hl.1 rfl (Nat.le_of_ble_eq_true rfl) ⟨Nat.zero_le _, Nat.zero_le _⟩ dX5_store_7 ?_
  refine q_addN hx hb dX5_store_10 ?_
  refine q_wV0 (As := [.int (nI (77 + (k / 9)))]) (rest := []) (st1 := []) ⟨hx, hb, hml, hown, hts⟩ (c_X4_increase D cy A (wX cy a σ kept nxt cnt T len pos ph le nu va ++ Z) 9 10 (a 9) (a 10) 86 σ rfl rfl (77 + (k / 9)) (by omega) (by omega)) (cwV 1 hts gX5_store_X4_increase rfl rfl rfl hd_X4_increase ⟨Nat.le_of_ble_eq_true rfl, Nat.le_of_ble_eq_true rfl⟩) hK hA hw 9 rfl rfl rfl hl.1 rfl rfl (Nat.le_of_ble_eq_true rfl) ⟨Nat.zero_le _, Nat.zero_le _⟩ dX5_store_11 (fun H locs hw => ?_)
  have hw : wS D A (wX cy a (upd σ (77 + (k / 9)) (σ (77 + (k / 9)) + 1)) kept nxt cnt T len pos ph le nu va ++ Z) s H locs := hw
  have hP := hw.1
  refine lv_aload_n hx hb dX5_store_14 rfl (lv_at hl 0 rfl) ?_
  refine va_get (D := D) (ci := 5) (v := .ref (a 9)) (C := RX5) (T := TX5) (N := 1) hx hb hts (fun _ h => List.mem_cons_of_mem _ (List.mem_append_left _ (List.mem_append_right _ h))) hown hK hP 8 rfl rfl 0 (by decide) (hts (.fieldLink RX5 18 "SpreadParity$State" "row" "LSpreadParity$Row;") (List.mem_of_getElem? (i := 1) rfl)) (fun _ h9 => h9) rfl dX5_store_15 ?_
  refine lv_iload_n hx hb dX5_store_18 rfl (lv_at hl 1 rfl) ?_
  refine lv_iload_n hx hb dX5_store_19 rfl (lv_at hl 2 rfl) ?_
  refine q_wV0 (As := [.int (nI (k)), .int (x)]) (rest := []) (st1 := []) ⟨hx, hb, hml, hown, hts⟩ (c_X4_put D cy A (wX cy a (upd σ (77 + (k / 9)) (σ (77 + (k / 9)) + 1)) kept nxt cnt T len pos ph le nu va ++ Z) 9 10 (a 9) (a 10) 86 (upd σ (77 + (k / 9)) (σ (77 + (k / 9)) + 1)) rfl rfl (k) (x) (by omega) (by omega)) (cwV 2 hts gX5_store_X4_put rfl rfl rfl hd_X4_put ⟨Nat.le_of_ble_eq_true rfl, Nat.le_of_ble_eq_true rfl⟩) hK hA hw 9 rfl rfl rfl hl.1 rfl rfl (Nat.le_of_ble_eq_true rfl) ⟨Nat.zero_le _, Nat.zero_le _⟩ dX5_store_20 (fun H locs hw => ?_)
  have hw : wS D A (wX cy a (upd (upd σ (77 + (k / 9)) (σ (77 + (k / 9)) + 1)) k x) kept nxt cnt T len pos ph le nu va ++ Z) s H locs := hw
  have hP := hw.1
  exact q_vretW hx hb hr hlocks hw dX5_store_23
set_option maxHeartbeats 1000000 in
set_option maxRecDepth 100000 in
theorem c_X5_progressOf {l : Launch} (D : va_G) (cy : ClassId) (a : Nat → Nat) (σ kept : Nat → Int32) (nxt cnt : Nat) (T : Nat → Int32) (len pos : Nat) (ph le nu va : Int32) (Z : va_W) (d : Nat) (h_0 : d < 7) : Met l yX5_progressOf wsX5_progressOf (k2_rm 1 21) (gR D cy [.ref (a 8), .int (nI (d))] (wX cy a σ kept nxt cnt T len pos ph le nu va ++ Z)) (k2_QcV (.int (σ (63 + d)))) 0 0 (fun _ => False) := by
  refine q_pure (cc := cX5_progressOf) (maxL := 2) (ret := (some .int)) pl_X5 rfl (Nat.le_of_ble_eq_true rfl) ?_
  intro p e s m below meth c ls hx hb hr hml hts hown hlocks hP hK hl
  have hl : lv_has ls 2 [(0, .ref (a 8)), (1, .int (nI (d)))] := hl
  refine lv_aload_n hx hb dX5_progressOf_0 rfl (lv_at hl 0 rfl) ?_
  refine va_get (D := D) (ci := 5) (v := .ref (a 9)) (C := RX5) (T := TX5) (N := 1) hx hb hts (fun _ h => List.mem_cons_of_mem _ (List.mem_append_left _ (List.mem_append_right _ h))) hown hK hP 8 rfl rfl 0 (by decide) (hts (.fieldLink RX5 18 "SpreadParity$State" "row" "LSpreadParity$Row;") (List.mem_of_getElem? (i := 1) rfl)) (fun _ h9 => h9) rfl dX5_progressOf_1 ?_
  refine lv_bipush (v := nI 63) hx hb dX5_progressOf_4 rfl ?_
  refine lv_iload_n hx hb dX5_progressOf_6 rfl (lv_at hl 1 rfl) ?_
  refine q_addN hx hb dX5_progressOf_7 ?_
  refine q_cV (As := [.int (nI (63 + d))]) (rest := []) ⟨hx, hb, hml, hown, hts⟩ (c_X4_at D cy (wX cy a σ kept nxt cnt T len pos ph le nu va ++ Z) 9 10 (a 9) (a 10) 86 σ rfl rfl (63 + d) (by omega) (by omega)) (cwV 1 hts gX5_progressOf_X4_at rfl rfl rfl hd_X4_at ⟨Nat.le_of_ble_eq_true rfl, Nat.le_of_ble_eq_true rfl⟩) hK hP 9 rfl rfl rfl hl.1 rfl (Nat.le_of_ble_eq_true rfl) ⟨Nat.zero_le _, Nat.zero_le _⟩ dX5_progressOf_8 ?_
  exact q_iret hx hb hr hlocks dX5_progressOf_11 (rfl)
set_option maxHeartbeats 1000000 in
set_option maxRecDepth 100000 in
theorem c_X5_readCount {l : Launch} (D : va_G) (cy : ClassId) (a : Nat → Nat) (σ kept : Nat → Int32) (nxt cnt : Nat) (T : Nat → Int32) (len pos : Nat) (ph le nu va : Int32) (Z : va_W) (d : Nat) (h_0 : d < 7) : Met l yX5_readCount wsX5_readCount (k2_rm 1 21) (gR D cy [.ref (a 8), .int (nI (d))] (wX cy a σ kept nxt cnt T len pos ph le nu va ++ Z)) (k2_QcV (.int (σ (70 + d)))) 0 0 (fun _ => False) := by
  refine q_pure (cc := cX5_readCount) (maxL := 2) (ret := (some .int)) pl_X5 rfl (Nat.le_of_ble_eq_true rfl) ?_
  intro p e s m below meth c ls hx hb hr hml hts hown hlocks hP hK hl
  have hl : lv_has ls 2 [(0, .ref (a 8)), (1, .int (nI (d)))] := hl
  refine lv_aload_n hx hb dX5_readCount_0 rfl (lv_at hl 0 rfl) ?_
  refine va_get (D := D) (ci := 5) (v := .ref (a 9)) (C := RX5) (T := TX5) (N := 1) hx hb hts (fun _ h => List.mem_cons_of_mem _ (List.mem_append_left _ (List.mem_append_right _ h))) hown hK hP 8 rfl rfl 0 (by decide) (hts (.fieldLink RX5 18 "SpreadParity$State" "row" "LSpreadParity$Row;") (List.mem_of_getElem? (i := 1) rfl)) (fun _ h9 => h9) rfl dX5_readCount_1 ?_
  refine lv_bipush (v := nI 70) hx hb dX5_readCount_4 rfl ?_
  refine lv_iload_n hx hb dX5_readCount_6 rfl (lv_at hl 1 rfl) ?_
  refine q_addN hx hb dX5_readCount_7 ?_
  refine q_cV (As := [.int (nI (70 + d))]) (rest := []) ⟨hx, hb, hml, hown, hts⟩ (c_X4_at D cy (wX cy a σ kept nxt cnt T len pos ph le nu va ++ Z) 9 10 (a 9) (a 10) 86 σ rfl rfl (70 + d) (by omega) (by omega)) (cwV 1 hts gX5_readCount_X4_at rfl rfl rfl hd_X4_at ⟨Nat.le_of_ble_eq_true rfl, Nat.le_of_ble_eq_true rfl⟩) hK hP 9 rfl rfl rfl hl.1 rfl (Nat.le_of_ble_eq_true rfl) ⟨Nat.zero_le _, Nat.zero_le _⟩ dX5_readCount_8 ?_
  exact q_iret hx hb hr hlocks dX5_readCount_11 (rfl)
set_option maxHeartbeats 1000000 in
set_option maxRecDepth 100000 in
theorem c_X5_writeCount {l : Launch} (D : va_G) (cy : ClassId) (a : Nat → Nat) (σ kept : Nat → Int32) (nxt cnt : Nat) (T : Nat → Int32) (len pos : Nat) (ph le nu va : Int32) (Z : va_W) (d : Nat) (h_0 : d < 7) : Met l yX5_writeCount wsX5_writeCount (k2_rm 1 21) (gR D cy [.ref (a 8), .int (nI (d))] (wX cy a σ kept nxt cnt T len pos ph le nu va ++ Z)) (k2_QcV (.int (σ (77 + d)))) 0 0 (fun _ => False) := by
  refine q_pure (cc := cX5_writeCount) (maxL := 2) (ret := (some .int)) pl_X5 rfl (Nat.le_of_ble_eq_true rfl) ?_
  intro p e s m below meth c ls hx hb hr hml hts hown hlocks hP hK hl
  have hl : lv_has ls 2 [(0, .ref (a 8)), (1, .int (nI (d)))] := hl
  refine lv_aload_n hx hb dX5_writeCount_0 rfl (lv_at hl 0 rfl) ?_
  refine va_get (D := D) (ci := 5) (v := .ref (a 9)) (C := RX5) (T := TX5) (N := 1) hx hb hts (fun _ h => List.mem_cons_of_mem _ (List.mem_append_left _ (List.mem_append_right _ h))) hown hK hP 8 rfl rfl 0 (by decide) (hts (.fieldLink RX5 18 "SpreadParity$State" "row" "LSpreadParity$Row;") (List.mem_of_getElem? (i := 1) rfl)) (fun _ h9 => h9) rfl dX5_writeCount_1 ?_
  refine lv_bipush (v := nI 77) hx hb dX5_writeCount_4 rfl ?_
  refine lv_iload_n hx hb dX5_writeCount_6 rfl (lv_at hl 1 rfl) ?_
  refine q_addN hx hb dX5_writeCount_7 ?_
  refine q_cV (As := [.int (nI (77 + d))]) (rest := []) ⟨hx, hb, hml, hown, hts⟩ (c_X4_at D cy (wX cy a σ kept nxt cnt T len pos ph le nu va ++ Z) 9 10 (a 9) (a 10) 86 σ rfl rfl (77 + d) (by omega) (by omega)) (cwV 1 hts gX5_writeCount_X4_at rfl rfl rfl hd_X4_at ⟨Nat.le_of_ble_eq_true rfl, Nat.le_of_ble_eq_true rfl⟩) hK hP 9 rfl rfl rfl hl.1 rfl (Nat.le_of_ble_eq_true rfl) ⟨Nat.zero_le _, Nat.zero_le _⟩ dX5_writeCount_8 ?_
  exact q_iret hx hb hr hlocks dX5_writeCount_11 (rfl)
set_option maxHeartbeats 1000000 in
set_option maxRecDepth 100000 in
theorem c_X5_spareDiscs {l : Launch} (D : va_G) (cy : ClassId) (a : Nat → Nat) (σ kept : Nat → Int32) (nxt cnt : Nat) (T : Nat → Int32) (len pos : Nat) (ph le nu va : Int32) (Z : va_W) : Met l yX5_spareDiscs wsX5_spareDiscs (k2_rm 1 21) (gR D cy [.ref (a 8)] (wX cy a σ kept nxt cnt T len pos ph le nu va ++ Z)) (k2_QcV (.int (σ 84))) 0 0 (fun _ => False) := by
  refine q_pure (cc := cX5_spareDiscs) (maxL := 1) (ret := (some .int)) pl_X5 rfl (Nat.le_of_ble_eq_true rfl) ?_
  intro p e s m below meth c ls hx hb hr hml hts hown hlocks hP hK hl
  have hl : lv_has ls 1 [(0, .ref (a 8))] := hl
  refine lv_aload_n hx hb dX5_spareDiscs_0 rfl (lv_at hl 0 rfl) ?_
  refine va_get (D := D) (ci := 5) (v := .ref (a 9)) (C := RX5) (T := TX5) (N := 1) hx hb hts (fun _ h => List.mem_cons_of_mem _ (List.mem_append_left _ (List.mem_append_right _ h))) hown hK hP 8 rfl rfl 0 (by decide) (hts (.fieldLink RX5 18 "SpreadParity$State" "row" "LSpreadParity$Row;") (List.mem_of_getElem? (i := 1) rfl)) (fun _ h9 => h9) rfl dX5_spareDiscs_1 ?_
  refine lv_bipush (v := nI 84) hx hb dX5_spareDiscs_4 rfl ?_
  refine q_cV (As := [.int (nI (84))]) (rest := []) ⟨hx, hb, hml, hown, hts⟩ (c_X4_at D cy (wX cy a σ kept nxt cnt T len pos ph le nu va ++ Z) 9 10 (a 9) (a 10) 86 σ rfl rfl (84) (by omega) (by omega)) (cwV 1 hts gX5_spareDiscs_X4_at rfl rfl rfl hd_X4_at ⟨Nat.le_of_ble_eq_true rfl, Nat.le_of_ble_eq_true rfl⟩) hK hP 9 rfl rfl rfl hl.1 rfl (Nat.le_of_ble_eq_true rfl) ⟨Nat.zero_le _, Nat.zero_le _⟩ dX5_spareDiscs_6 ?_
  exact q_iret hx hb hr hlocks dX5_spareDiscs_9 (rfl)
set_option maxHeartbeats 1000000 in
set_option maxRecDepth 100000 in
theorem c_X5_lossCount {l : Launch} (D : va_G) (cy : ClassId) (a : Nat → Nat) (σ kept : Nat → Int32) (nxt cnt : Nat) (T : Nat → Int32) (len pos : Nat) (ph le nu va : Int32) (Z : va_W) : Met l yX5_lossCount wsX5_lossCount (k2_rm 1 21) (gR D cy [.ref (a 8)] (wX cy a σ kept nxt cnt T len pos ph le nu va ++ Z)) (k2_QcV (.int (σ 85))) 0 0 (fun _ => False) := by
  refine q_pure (cc := cX5_lossCount) (maxL := 1) (ret := (some .int)) pl_X5 rfl (Nat.le_of_ble_eq_true rfl) ?_
  intro p e s m below meth c ls hx hb hr hml hts hown hlocks hP hK hl
  have hl : lv_has ls 1 [(0, .ref (a 8))] := hl
  refine lv_aload_n hx hb dX5_lossCount_0 rfl (lv_at hl 0 rfl) ?_
  refine va_get (D := D) (ci := 5) (v := .ref (a 9)) (C := RX5) (T := TX5) (N := 1) hx hb hts (fun _ h => List.mem_cons_of_mem _ (List.mem_append_left _ (List.mem_append_right _ h))) hown hK hP 8 rfl rfl 0 (by decide) (hts (.fieldLink RX5 18 "SpreadParity$State" "row" "LSpreadParity$Row;") (List.mem_of_getElem? (i := 1) rfl)) (fun _ h9 => h9) rfl dX5_lossCount_1 ?_
  refine lv_bipush (v := nI 85) hx hb dX5_lossCount_4 rfl ?_
  refine q_cV (As := [.int (nI (85))]) (rest := []) ⟨hx, hb, hml, hown, hts⟩ (c_X4_at D cy (wX cy a σ kept nxt cnt T len pos ph le nu va ++ Z) 9 10 (a 9) (a 10) 86 σ rfl rfl (85) (by omega) (by omega)) (cwV 1 hts gX5_lossCount_X4_at rfl rfl rfl hd_X4_at ⟨Nat.le_of_ble_eq_true rfl, Nat.le_of_ble_eq_true rfl⟩) hK hP 9 rfl rfl rfl hl.1 rfl (Nat.le_of_ble_eq_true rfl) ⟨Nat.zero_le _, Nat.zero_le _⟩ dX5_lossCount_6 ?_
  exact q_iret hx hb hr hlocks dX5_lossCount_9 (rfl)
set_option maxHeartbeats 1000000 in
set_option maxRecDepth 100000 in
theorem c_X5_addSpareDisc {l : Launch} (D : va_G) (cy : ClassId) (A : Nat → Prop) (a : Nat → Nat) (σ kept : Nat → Int32) (nxt cnt : Nat) (T : Nat → Int32) (len pos : Nat) (ph le nu va : Int32) (Z : va_W) : Met l yX5_addSpareDisc wsX5_addSpareDisc (k2_rm 1 21) (gP D cy [.ref (a 8)] A (wX cy a σ kept nxt cnt T len pos ph le nu va ++ Z)) (gQ D A (none) (wX cy a (upd σ 84 (σ 84 + 1)) kept nxt cnt T len pos ph le nu va ++ Z)) 0 0 A := by
  refine q_imp (cc := cX5_addSpareDisc) (maxL := 1) (ret := none) pl_X5 rfl (Nat.le_of_ble_eq_true rfl) ?_
  intro p e s m below meth c ls hx hb hr hml hts hown hlocks hw hK hA hl
  have hP := hw.1
  have hl : lv_has ls 1 [(0, .ref (a 8))] := hl
  refine lv_aload_n hx hb dX5_addSpareDisc_0 rfl (lv_at hl 0 rfl) ?_
  refine va_get (D := D) (ci := 5) (v := .ref (a 9)) (C := RX5) (T := TX5) (N := 1) hx hb hts (fun _ h => List.mem_cons_of_mem _ (List.mem_append_left _ (List.mem_append_right _ h))) hown hK hP 8 rfl rfl 0 (by decide) (hts (.fieldLink RX5 18 "SpreadParity$State" "row" "LSpreadParity$Row;") (List.mem_of_getElem? (i := 1) rfl)) (fun _ h9 => h9) rfl dX5_addSpareDisc_1 ?_
  refine lv_bipush (v := nI 84) hx hb dX5_addSpareDisc_4 rfl ?_
  refine q_wV0 (As := [.int (nI (84))]) (rest := []) (st1 := []) ⟨hx, hb, hml, hown, hts⟩ (c_X4_increase D cy A (wX cy a σ kept nxt cnt T len pos ph le nu va ++ Z) 9 10 (a 9) (a 10) 86 σ rfl rfl (84) (by omega) (by omega)) (cwV 1 hts gX5_addSpareDisc_X4_increase rfl rfl rfl hd_X4_increase ⟨Nat.le_of_ble_eq_true rfl, Nat.le_of_ble_eq_true rfl⟩) hK hA hw 9 rfl rfl rfl hl.1 rfl rfl (Nat.le_of_ble_eq_true rfl) ⟨Nat.zero_le _, Nat.zero_le _⟩ dX5_addSpareDisc_6 (fun H locs hw => ?_)
  have hw : wS D A (wX cy a (upd σ 84 (σ 84 + 1)) kept nxt cnt T len pos ph le nu va ++ Z) s H locs := hw
  have hP := hw.1
  exact q_vretW hx hb hr hlocks hw dX5_addSpareDisc_9
set_option maxHeartbeats 1000000 in
set_option maxRecDepth 100000 in
theorem c_X5_addLoss {l : Launch} (D : va_G) (cy : ClassId) (A : Nat → Prop) (a : Nat → Nat) (σ kept : Nat → Int32) (nxt cnt : Nat) (T : Nat → Int32) (len pos : Nat) (ph le nu va : Int32) (Z : va_W) : Met l yX5_addLoss wsX5_addLoss (k2_rm 1 21) (gP D cy [.ref (a 8)] A (wX cy a σ kept nxt cnt T len pos ph le nu va ++ Z)) (gQ D A (none) (wX cy a (upd σ 85 (σ 85 + 1)) kept nxt cnt T len pos ph le nu va ++ Z)) 0 0 A := by
  refine q_imp (cc := cX5_addLoss) (maxL := 1) (ret := none) pl_X5 rfl (Nat.le_of_ble_eq_true rfl) ?_
  intro p e s m below meth c ls hx hb hr hml hts hown hlocks hw hK hA hl
  have hP := hw.1
  have hl : lv_has ls 1 [(0, .ref (a 8))] := hl
  refine lv_aload_n hx hb dX5_addLoss_0 rfl (lv_at hl 0 rfl) ?_
  refine va_get (D := D) (ci := 5) (v := .ref (a 9)) (C := RX5) (T := TX5) (N := 1) hx hb hts (fun _ h => List.mem_cons_of_mem _ (List.mem_append_left _ (List.mem_append_right _ h))) hown hK hP 8 rfl rfl 0 (by decide) (hts (.fieldLink RX5 18 "SpreadParity$State" "row" "LSpreadParity$Row;") (List.mem_of_getElem? (i := 1) rfl)) (fun _ h9 => h9) rfl dX5_addLoss_1 ?_
  refine lv_bipush (v := nI 85) hx hb dX5_addLoss_4 rfl ?_
  refine q_wV0 (As := [.int (nI (85))]) (rest := []) (st1 := []) ⟨hx, hb, hml, hown, hts⟩ (c_X4_increase D cy A (wX cy a σ kept nxt cnt T len pos ph le nu va ++ Z) 9 10 (a 9) (a 10) 86 σ rfl rfl (85) (by omega) (by omega)) (cwV 1 hts gX5_addLoss_X4_increase rfl rfl rfl hd_X4_increase ⟨Nat.le_of_ble_eq_true rfl, Nat.le_of_ble_eq_true rfl⟩) hK hA hw 9 rfl rfl rfl hl.1 rfl rfl (Nat.le_of_ble_eq_true rfl) ⟨Nat.zero_le _, Nat.zero_le _⟩ dX5_addLoss_6 (fun H locs hw => ?_)
  have hw : wS D A (wX cy a (upd σ 85 (σ 85 + 1)) kept nxt cnt T len pos ph le nu va ++ Z) s H locs := hw
  have hP := hw.1
  exact q_vretW hx hb hr hlocks hw dX5_addLoss_9
set_option maxHeartbeats 1000000 in
set_option maxRecDepth 100000 in
theorem c_X5_dropDisc {l : Launch} (D : va_G) (cy : ClassId) (A : Nat → Prop) (a : Nat → Nat) (σ kept : Nat → Int32) (nxt cnt : Nat) (T : Nat → Int32) (len pos : Nat) (ph le nu va : Int32) (Z : va_W) (d : Nat) (h_0 : d < 7) : Met l yX5_dropDisc wsX5_dropDisc (k2_rm 2 44) (gP D cy [.ref (a 8), .int (nI (d))] A (wX cy a σ kept nxt cnt T len pos ph le nu va ++ Z)) (gQ D A (none) (wX cy a (failS σ d) kept nxt cnt T len pos ph le nu va ++ Z)) 0 0 A := by
  refine q_imp (cc := cX5_dropDisc) (maxL := 3) (ret := none) pl_X5 rfl (Nat.le_of_ble_eq_true rfl) ?_
  intro p e s m below meth c ls hx hb hr hml hts hown hlocks hw hK hA hl
  have hP := hw.1
  have hl : lv_has ls 3 [(0, .ref (a 8)), (1, .int (nI (d)))] := hl
  refine lv_aload_n hx hb dX5_dropDisc_0 rfl (lv_at hl 0 rfl) ?_
  refine va_get (D := D) (ci := 5) (v := .ref (a 9)) (C := RX5) (T := TX5) (N := 1) hx hb hts (fun _ h => List.mem_cons_of_mem _ (List.mem_append_left _ (List.mem_append_right _ h))) hown hK hP 8 rfl rfl 0 (by decide) (hts (.fieldLink RX5 18 "SpreadParity$State" "row" "LSpreadParity$Row;") (List.mem_of_getElem? (i := 1) rfl)) (fun _ h9 => h9) rfl dX5_dropDisc_1 ?_
  refine lv_bipush (v := nI 63) hx hb dX5_dropDisc_4 rfl ?_
  refine lv_iload_n hx hb dX5_dropDisc_6 rfl (lv_at hl 1 rfl) ?_
  refine q_addN hx hb dX5_dropDisc_7 ?_
  refine lv_iconst (v := -1) hx hb dX5_dropDisc_8 rfl ?_
  refine q_wV0 (As := [.int (nI (63 + d)), .int (-1)]) (rest := []) (st1 := []) ⟨hx, hb, hml, hown, hts⟩ (c_X4_put D cy A (wX cy a σ kept nxt cnt T len pos ph le nu va ++ Z) 9 10 (a 9) (a 10) 86 σ rfl rfl (63 + d) (-1) (by omega) (by omega)) (cwV 2 hts gX5_dropDisc_X4_put rfl rfl rfl hd_X4_put ⟨Nat.le_of_ble_eq_true rfl, Nat.le_of_ble_eq_true rfl⟩) hK hA hw 9 rfl rfl rfl hl.1 rfl rfl (Nat.le_of_ble_eq_true rfl) ⟨Nat.zero_le _, Nat.zero_le _⟩ dX5_dropDisc_9 (fun H locs hw => ?_)
  have hw : wS D A (wX cy a (upd σ (63 + d) (-1)) kept nxt cnt T len pos ph le nu va ++ Z) s H locs := hw
  have hP := hw.1
  have e_1 : (upd σ (63 + d) (-1)) = failN σ d 0 := failN_0 σ d
  rw [e_1] at hw
  have hP := hw.1
  refine lv_iconst (v := nI 0) hx hb dX5_dropDisc_12 rfl ?_
  refine lv_istore_n (lv' := [(2, .int (nI (0))), (0, .ref (a 8)), (1, .int (nI (d)))]) hx hb dX5_dropDisc_13 rfl hl (by decide) rfl (fun ls hl => ?_)
  have lp14 : ∀ (j_ i : Nat), i + j_ = 9 → ∀ (H : Heap) (locs : List Loc) (ls : Array Slot), wS D A (wX cy a (failN σ d i) kept nxt cnt T len pos ph le nu va ++ Z) s H locs → lv_has ls 3 [(0, .ref (a 8)), (1, .int (nI (d))), (2, .int (nI (i)))] → W p l e (k2_rm 2 44) s m ([.ref (a 8), .int (nI (d))] : List Value).toArray below meth c H locs 0 0 (MQ below (gQ D A (none) (wX cy a (failS σ d) kept nxt cnt T len pos ph le nu va ++ Z)) ([.ref (a 8), .int (nI (d))] : List Value).toArray s 0 0 A) (F0 m 14 ls []) := by
    intro j_
    induction j_ with
    | zero =>
      intro i hn_i H locs ls hw hl
      have hP := hw.1
      refine lv_iload_n hx hb dX5_dropDisc_14 rfl (lv_at hl 2 rfl) ?_
      refine lv_bipush (v := nI 9) hx hb dX5_dropDisc_15 rfl ?_
      refine q_geN (tgt := 36) hx hb dX5_dropDisc_17 (by decide) (by omega) (by omega) (fun c_17 => ?_) (fun c_17 => absurd c_17 (by omega))
      have e9 : i = 9 := by omega
      subst e9
      exact q_vretW hx hb hr hlocks hw dX5_dropDisc_36
    | succ j_ ih_i =>
      intro i hn_i H locs ls hw hl
      have hP := hw.1
      refine lv_iload_n hx hb dX5_dropDisc_14 rfl (lv_at hl 2 rfl) ?_
      refine lv_bipush (v := nI 9) hx hb dX5_dropDisc_15 rfl ?_
      refine q_geN (tgt := 36) hx hb dX5_dropDisc_17 (by decide) (by omega) (by omega) (fun c_17 => absurd c_17 (by omega)) (fun c_17 => ?_)
      refine lv_aload_n hx hb dX5_dropDisc_20 rfl (lv_at hl 0 rfl) ?_
      refine lv_iload_n hx hb dX5_dropDisc_21 rfl (lv_at hl 1 rfl) ?_
      refine lv_iload_n hx hb dX5_dropDisc_22 rfl (lv_at hl 2 rfl) ?_
      refine q_cS (As := [.int (nI (d)), .int (nI (i))]) (rest := [.ref (a 8)]) (w := []) ⟨hx, hb, hml, hown, hts⟩ (c_X1_spotAt D cy (d) (i)) (va_cwS 2 hts gX5_dropDisc_X1_spotAt rfl rfl rfl hd_X1_spotAt ⟨Nat.le_of_ble_eq_true rfl, Nat.le_of_ble_eq_true rfl⟩) hK q_Pnil rfl hl.1 rfl (Nat.le_of_ble_eq_true rfl) ⟨Nat.zero_le _, Nat.zero_le _⟩ dX5_dropDisc_23 ?_
      refine lv_iconst (v := nI 0) hx hb dX5_dropDisc_26 rfl ?_
      refine q_wV0 (As := [.int (nI (9 * d + i)), .int (nI (0))]) (rest := []) (st1 := []) ⟨hx, hb, hml, hown, hts⟩ (c_X5_setValue D cy A a (failN σ d i) kept nxt cnt T len pos ph le nu va Z (9 * d + i) (0) (by omega)) (cwV 2 hts gX5_dropDisc_X5_setValue rfl rfl rfl hd_X5_setValue ⟨Nat.le_of_ble_eq_true rfl, Nat.le_of_ble_eq_true rfl⟩) hK hA hw 8 rfl rfl rfl hl.1 rfl rfl (Nat.le_of_ble_eq_true rfl) ⟨Nat.zero_le _, Nat.zero_le _⟩ dX5_dropDisc_27 (fun H locs hw => ?_)
      have hw : wS D A (wX cy a (upd (failN σ d i) (9 * d + i) 0) kept nxt cnt T len pos ph le nu va ++ Z) s H locs := hw
      have hP := hw.1
      have e_2 : (upd (failN σ d i) (9 * d + i) 0) = failN σ d (i + 1) := failN_s σ (by omega) (by omega)
      rw [e_2] at hw
      have hP := hw.1
      refine lv_iinc (v := nI (i + 1)) (lv' := [(2, .int (nI (i + 1))), (0, .ref (a 8)), (1, .int (nI (d)))]) hx hb dX5_dropDisc_30 hl (k := 2) rfl (show nI (i) + nI 1 = nI (i + 1) from nI_add _ _) (by decide) rfl (fun ls hl => ?_)
      refine lv_goto (tgt := 14) hx hb dX5_dropDisc_33 (by decide) ?_
      exact ih_i (i + 1) (by omega) _ _ _ hw (lv_sub hl [1, 2, 0] rfl)
  exact lp14 (9 - 0) 0 (by omega) _ _ _ hw (lv_sub hl [1, 2, 0] rfl)
set_option maxHeartbeats 1000000 in
set_option maxRecDepth 100000 in
theorem c_X5_replaceDisc {l : Launch} (D : va_G) (cy : ClassId) (A : Nat → Prop) (a : Nat → Nat) (σ kept : Nat → Int32) (nxt cnt : Nat) (T : Nat → Int32) (len pos : Nat) (ph le nu va : Int32) (Z : va_W) (d : Nat) (h_0 : d < 7) : Met l yX5_replaceDisc wsX5_replaceDisc (k2_rm 2 41) (gP D cy [.ref (a 8), .int (nI (d))] A (wX cy a σ kept nxt cnt T len pos ph le nu va ++ Z)) (gQ D A (none) (wX cy a (begS σ d) kept nxt cnt T len pos ph le nu va ++ Z)) 0 0 A := by
  refine q_imp (cc := cX5_replaceDisc) (maxL := 2) (ret := none) pl_X5 rfl (Nat.le_of_ble_eq_true rfl) ?_
  intro p e s m below meth c ls hx hb hr hml hts hown hlocks hw hK hA hl
  have hP := hw.1
  have hl : lv_has ls 2 [(0, .ref (a 8)), (1, .int (nI (d)))] := hl
  refine lv_aload_n hx hb dX5_replaceDisc_0 rfl (lv_at hl 0 rfl) ?_
  refine va_get (D := D) (ci := 5) (v := .ref (a 9)) (C := RX5) (T := TX5) (N := 1) hx hb hts (fun _ h => List.mem_cons_of_mem _ (List.mem_append_left _ (List.mem_append_right _ h))) hown hK hP 8 rfl rfl 0 (by decide) (hts (.fieldLink RX5 18 "SpreadParity$State" "row" "LSpreadParity$Row;") (List.mem_of_getElem? (i := 1) rfl)) (fun _ h9 => h9) rfl dX5_replaceDisc_1 ?_
  refine lv_bipush (v := nI 84) hx hb dX5_replaceDisc_4 rfl ?_
  refine lv_aload_n hx hb dX5_replaceDisc_6 rfl (lv_at hl 0 rfl) ?_
  refine q_cV (As := []) (rest := [.int (nI (84)), .ref (a 9)]) ⟨hx, hb, hml, hown, hts⟩ (c_X5_spareDiscs D cy a σ kept nxt cnt T len pos ph le nu va Z ) (cwV 0 hts gX5_replaceDisc_X5_spareDiscs rfl rfl rfl hd_X5_spareDiscs ⟨Nat.le_of_ble_eq_true rfl, Nat.le_of_ble_eq_true rfl⟩) hK hP 8 rfl rfl rfl hl.1 rfl (Nat.le_of_ble_eq_true rfl) ⟨Nat.zero_le _, Nat.zero_le _⟩ dX5_replaceDisc_7 ?_
  refine lv_iconst (v := nI 1) hx hb dX5_replaceDisc_10 rfl ?_
  refine lv_isub hx hb dX5_replaceDisc_11 ?_
  refine q_wV0 (As := [.int (nI (84)), .int ((σ 84) - 1)]) (rest := []) (st1 := []) ⟨hx, hb, hml, hown, hts⟩ (c_X4_put D cy A (wX cy a σ kept nxt cnt T len pos ph le nu va ++ Z) 9 10 (a 9) (a 10) 86 σ rfl rfl (84) ((σ 84) - 1) (by omega) (by omega)) (cwV 2 hts gX5_replaceDisc_X4_put rfl rfl rfl hd_X4_put ⟨Nat.le_of_ble_eq_true rfl, Nat.le_of_ble_eq_true rfl⟩) hK hA hw 9 rfl rfl rfl hl.1 rfl rfl (Nat.le_of_ble_eq_true rfl) ⟨Nat.zero_le _, Nat.zero_le _⟩ dX5_replaceDisc_12 (fun H locs hw => ?_)
  have hw : wS D A (wX cy a (upd σ 84 ((σ 84) - 1)) kept nxt cnt T len pos ph le nu va ++ Z) s H locs := hw
  have hP := hw.1
  refine lv_aload_n hx hb dX5_replaceDisc_15 rfl (lv_at hl 0 rfl) ?_
  refine va_get (D := D) (ci := 5) (v := .ref (a 9)) (C := RX5) (T := TX5) (N := 1) hx hb hts (fun _ h => List.mem_cons_of_mem _ (List.mem_append_left _ (List.mem_append_right _ h))) hown hK hP 8 rfl rfl 0 (by decide) (hts (.fieldLink RX5 18 "SpreadParity$State" "row" "LSpreadParity$Row;") (List.mem_of_getElem? (i := 1) rfl)) (fun _ h9 => h9) rfl dX5_replaceDisc_16 ?_
  refine lv_bipush (v := nI 63) hx hb dX5_replaceDisc_19 rfl ?_
  refine lv_iload_n hx hb dX5_replaceDisc_21 rfl (lv_at hl 1 rfl) ?_
  refine q_addN hx hb dX5_replaceDisc_22 ?_
  refine lv_iconst (v := nI 0) hx hb dX5_replaceDisc_23 rfl ?_
  refine q_wV0 (As := [.int (nI (63 + d)), .int (nI (0))]) (rest := []) (st1 := []) ⟨hx, hb, hml, hown, hts⟩ (c_X4_put D cy A (wX cy a (upd σ 84 ((σ 84) - 1)) kept nxt cnt T len pos ph le nu va ++ Z) 9 10 (a 9) (a 10) 86 (upd σ 84 ((σ 84) - 1)) rfl rfl (63 + d) (0) (by omega) (by omega)) (cwV 2 hts gX5_replaceDisc_X4_put rfl rfl rfl hd_X4_put ⟨Nat.le_of_ble_eq_true rfl, Nat.le_of_ble_eq_true rfl⟩) hK hA hw 9 rfl rfl rfl hl.1 rfl rfl (Nat.le_of_ble_eq_true rfl) ⟨Nat.zero_le _, Nat.zero_le _⟩ dX5_replaceDisc_24 (fun H locs hw => ?_)
  have hw : wS D A (wX cy a (upd (upd σ 84 ((σ 84) - 1)) (63 + d) 0) kept nxt cnt T len pos ph le nu va ++ Z) s H locs := hw
  have hP := hw.1
  exact q_vretW hx hb hr hlocks hw dX5_replaceDisc_27
set_option maxHeartbeats 1000000 in
set_option maxRecDepth 100000 in
theorem c_X5_advance {l : Launch} (D : va_G) (cy : ClassId) (A : Nat → Prop) (a : Nat → Nat) (σ kept : Nat → Int32) (nxt cnt : Nat) (T : Nat → Int32) (len pos : Nat) (ph le nu va : Int32) (Z : va_W) (d : Nat) (h_0 : d < 7) : Met l yX5_advance wsX5_advance (k2_rm 1 21) (gP D cy [.ref (a 8), .int (nI (d))] A (wX cy a σ kept nxt cnt T len pos ph le nu va ++ Z)) (gQ D A (none) (wX cy a (upd σ (63 + d) (σ (63 + d) + 1)) kept nxt cnt T len pos ph le nu va ++ Z)) 0 0 A := by
  refine q_imp (cc := cX5_advance) (maxL := 2) (ret := none) pl_X5 rfl (Nat.le_of_ble_eq_true rfl) ?_
  intro p e s m below meth c ls hx hb hr hml hts hown hlocks hw hK hA hl
  have hP := hw.1
  have hl : lv_has ls 2 [(0, .ref (a 8)), (1, .int (nI (d)))] := hl
  refine lv_aload_n hx hb dX5_advance_0 rfl (lv_at hl 0 rfl) ?_
  refine va_get (D := D) (ci := 5) (v := .ref (a 9)) (C := RX5) (T := TX5) (N := 1) hx hb hts (fun _ h => List.mem_cons_of_mem _ (List.mem_append_left _ (List.mem_append_right _ h))) hown hK hP 8 rfl rfl 0 (by decide) (hts (.fieldLink RX5 18 "SpreadParity$State" "row" "LSpreadParity$Row;") (List.mem_of_getElem? (i := 1) rfl)) (fun _ h9 => h9) rfl dX5_advance_1 ?_
  refine lv_bipush (v := nI 63) hx hb dX5_advance_4 rfl ?_
  refine lv_iload_n hx hb dX5_advance_6 rfl (lv_at hl 1 rfl) ?_
  refine q_addN hx hb dX5_advance_7 ?_
  refine q_wV0 (As := [.int (nI (63 + d))]) (rest := []) (st1 := []) ⟨hx, hb, hml, hown, hts⟩ (c_X4_increase D cy A (wX cy a σ kept nxt cnt T len pos ph le nu va ++ Z) 9 10 (a 9) (a 10) 86 σ rfl rfl (63 + d) (by omega) (by omega)) (cwV 1 hts gX5_advance_X4_increase rfl rfl rfl hd_X4_increase ⟨Nat.le_of_ble_eq_true rfl, Nat.le_of_ble_eq_true rfl⟩) hK hA hw 9 rfl rfl rfl hl.1 rfl rfl (Nat.le_of_ble_eq_true rfl) ⟨Nat.zero_le _, Nat.zero_le _⟩ dX5_advance_8 (fun H locs hw => ?_)
  have hw : wS D A (wX cy a (upd σ (63 + d) (σ (63 + d) + 1)) kept nxt cnt T len pos ph le nu va ++ Z) s H locs := hw
  have hP := hw.1
  exact q_vretW hx hb hr hlocks hw dX5_advance_11
set_option maxHeartbeats 1000000 in
set_option maxRecDepth 100000 in
theorem c_X5_copyTo {l : Launch} (D : va_G) (cy : ClassId) (A : Nat → Prop) (a : Nat → Nat) (σ kept : Nat → Int32) (nxt cnt : Nat) (T : Nat → Int32) (len pos : Nat) (ph le nu va : Int32) (Z : va_W) (st : Nat) (h_0 : st + 86 ≤ 516) : Met l yX5_copyTo wsX5_copyTo (k2_rm 1 22) (gP D cy [.ref (a 8), .ref (a 12), .int (nI (st))] A (wX cy a σ kept nxt cnt T len pos ph le nu va ++ Z)) (gQ D A (none) (wX cy a σ (cpK kept σ st 86) nxt cnt T len pos ph le nu va ++ Z)) 0 0 A := by
  refine q_imp (cc := cX5_copyTo) (maxL := 4) (ret := none) pl_X5 rfl (Nat.le_of_ble_eq_true rfl) ?_
  intro p e s m below meth c ls hx hb hr hml hts hown hlocks hw hK hA hl
  have hP := hw.1
  have hl : lv_has ls 4 [(0, .ref (a 8)), (1, .ref (a 12)), (2, .int (nI (st)))] := hl
  have e_1 : (kept) = cpK kept σ st 0 := (cpK_0 kept σ st).symm
  rw [e_1] at hw
  have hP := hw.1
  refine lv_iconst (v := nI 0) hx hb dX5_copyTo_0 rfl ?_
  refine lv_istore_n (lv' := [(3, .int (nI (0))), (0, .ref (a 8)), (1, .ref (a 12)), (2, .int (nI (st)))]) hx hb dX5_copyTo_1 rfl hl (by decide) rfl (fun ls hl => ?_)
  have lp2 : ∀ (j_ i : Nat), i + j_ = 86 → ∀ (H : Heap) (locs : List Loc) (ls : Array Slot), wS D A (wX cy a σ (cpK kept σ st i) nxt cnt T len pos ph le nu va ++ Z) s H locs → lv_has ls 4 [(0, .ref (a 8)), (1, .ref (a 12)), (2, .int (nI (st))), (3, .int (nI (i)))] → W p l e (k2_rm 1 22) s m ([.ref (a 8), .ref (a 12), .int (nI (st))] : List Value).toArray below meth c H locs 0 0 (MQ below (gQ D A (none) (wX cy a σ (cpK kept σ st 86) nxt cnt T len pos ph le nu va ++ Z)) ([.ref (a 8), .ref (a 12), .int (nI (st))] : List Value).toArray s 0 0 A) (F0 m 2 ls []) := by
    intro j_
    induction j_ with
    | zero =>
      intro i hn_i H locs ls hw hl
      have hP := hw.1
      refine lv_iload_n hx hb dX5_copyTo_2 rfl (lv_at hl 3 rfl) ?_
      refine lv_bipush (v := nI 86) hx hb dX5_copyTo_3 rfl ?_
      refine q_geN (tgt := 29) hx hb dX5_copyTo_5 (by decide) (by omega) (by omega) (fun c_5 => ?_) (fun c_5 => absurd c_5 (by omega))
      have e9 : i = 86 := by omega
      subst e9
      exact q_vretW hx hb hr hlocks hw dX5_copyTo_29
    | succ j_ ih_i =>
      intro i hn_i H locs ls hw hl
      have hP := hw.1
      refine lv_iload_n hx hb dX5_copyTo_2 rfl (lv_at hl 3 rfl) ?_
      refine lv_bipush (v := nI 86) hx hb dX5_copyTo_3 rfl ?_
      refine q_geN (tgt := 29) hx hb dX5_copyTo_5 (by decide) (by omega) (by omega) (fun c_5 => absurd c_5 (by omega)) (fun c_5 => ?_)
      refine lv_aload_n hx hb dX5_copyTo_8 rfl (lv_at hl 1 rfl) ?_
      refine lv_iload_n hx hb dX5_copyTo_9 rfl (lv_at hl 2 rfl) ?_
      refine lv_iload_n hx hb dX5_copyTo_10 rfl (lv_at hl 3 rfl) ?_
      refine q_addN hx hb dX5_copyTo_11 ?_
      refine lv_aload_n hx hb dX5_copyTo_12 rfl (lv_at hl 0 rfl) ?_
      refine va_get (D := D) (ci := 5) (v := .ref (a 9)) (C := RX5) (T := TX5) (N := 1) hx hb hts (fun _ h => List.mem_cons_of_mem _ (List.mem_append_left _ (List.mem_append_right _ h))) hown hK hP 8 rfl rfl 0 (by decide) (hts (.fieldLink RX5 18 "SpreadParity$State" "row" "LSpreadParity$Row;") (List.mem_of_getElem? (i := 1) rfl)) (fun _ h9 => h9) rfl dX5_copyTo_13 ?_
      refine lv_iload_n hx hb dX5_copyTo_16 rfl (lv_at hl 3 rfl) ?_
      refine q_cV (As := [.int (nI (i))]) (rest := [.int (nI (st + i)), .ref (a 12)]) ⟨hx, hb, hml, hown, hts⟩ (c_X4_at D cy (wX cy a σ (cpK kept σ st i) nxt cnt T len pos ph le nu va ++ Z) 9 10 (a 9) (a 10) 86 σ rfl rfl (i) (by omega) (by omega)) (cwV 1 hts gX5_copyTo_X4_at rfl rfl rfl hd_X4_at ⟨Nat.le_of_ble_eq_true rfl, Nat.le_of_ble_eq_true rfl⟩) hK hP 9 rfl rfl rfl hl.1 rfl (Nat.le_of_ble_eq_true rfl) ⟨Nat.zero_le _, Nat.zero_le _⟩ dX5_copyTo_17 ?_
      refine q_wV0 (As := [.int (nI (st + i)), .int (σ i)]) (rest := []) (st1 := []) ⟨hx, hb, hml, hown, hts⟩ (c_X4_put D cy A (wX cy a σ (cpK kept σ st i) nxt cnt T len pos ph le nu va ++ Z) 12 13 (a 12) (a 13) 516 (cpK kept σ st i) rfl rfl (st + i) (σ i) (by omega) (by omega)) (cwV 2 hts gX5_copyTo_X4_put rfl rfl rfl hd_X4_put ⟨Nat.le_of_ble_eq_true rfl, Nat.le_of_ble_eq_true rfl⟩) hK hA hw 12 rfl rfl rfl hl.1 rfl rfl (Nat.le_of_ble_eq_true rfl) ⟨Nat.zero_le _, Nat.zero_le _⟩ dX5_copyTo_20 (fun H locs hw => ?_)
      have hw : wS D A (wX cy a σ (upd (cpK kept σ st i) (st + i) (σ i)) nxt cnt T len pos ph le nu va ++ Z) s H locs := hw
      have hP := hw.1
      have e_2 : (upd (cpK kept σ st i) (st + i) (σ i)) = cpK kept σ st (i + 1) := cpK_s kept σ st i
      rw [e_2] at hw
      have hP := hw.1
      refine lv_iinc (v := nI (i + 1)) (lv' := [(3, .int (nI (i + 1))), (0, .ref (a 8)), (1, .ref (a 12)), (2, .int (nI (st)))]) hx hb dX5_copyTo_23 hl (k := 3) rfl (show nI (i) + nI 1 = nI (i + 1) from nI_add _ _) (by decide) rfl (fun ls hl => ?_)
      refine lv_goto (tgt := 2) hx hb dX5_copyTo_26 (by decide) ?_
      exact ih_i (i + 1) (by omega) _ _ _ hw (lv_sub hl [1, 2, 3, 0] rfl)
  exact lp2 (86 - 0) 0 (by omega) _ _ _ hw (lv_sub hl [1, 2, 3, 0] rfl)
set_option maxHeartbeats 1000000 in
set_option maxRecDepth 100000 in
theorem c_X0_keep {l : Launch} (D : va_G) (cy : ClassId) (A : Nat → Prop) (a : Nat → Nat) (σ kept : Nat → Int32) (nxt cnt : Nat) (T : Nat → Int32) (len pos : Nat) (ph le nu va : Int32) (Z : va_W) (h_0 : nxt < 6) (h_1 : cnt ≤ 6) : Met l yX0_keep wsX0_keep (k2_rm 2 45) (gP D cy [.ref (a 11), .ref (a 8)] A (wX cy a σ kept nxt cnt T len pos ph le nu va ++ Z)) (gQ D A (none) (wX cy a σ (cpK kept σ (nxt * 86) 86) ((nxt + 1) % 6) (min (cnt + 1) 6) T len pos ph le nu va ++ Z)) 0 0 A := by
  refine q_imp (cc := cX0_keep) (maxL := 2) (ret := none) pl_X0 rfl (Nat.le_of_ble_eq_true rfl) ?_
  intro p e s m below meth c ls hx hb hr hml hts hown hlocks hw hK hA hl
  have hP := hw.1
  have hl : lv_has ls 2 [(0, .ref (a 11)), (1, .ref (a 8))] := hl
  refine lv_aload_n hx hb dX0_keep_0 rfl (lv_at hl 1 rfl) ?_
  refine lv_aload_n hx hb dX0_keep_1 rfl (lv_at hl 0 rfl) ?_
  refine va_get (D := D) (ci := 0) (v := .ref (a 12)) (C := RX0) (T := TX0) (N := 3) hx hb hts (fun _ h => List.mem_cons_of_mem _ (List.mem_append_left _ (List.mem_append_left _ (List.mem_append_right _ h)))) hown hK hP 11 rfl rfl 0 (by decide) (hts (.fieldLink RX0 16 "SpreadParity$History" "kept" "LSpreadParity$Row;") (List.mem_of_getElem? (i := 1) rfl)) (fun _ h9 => h9) rfl dX0_keep_2 ?_
  refine lv_aload_n hx hb dX0_keep_5 rfl (lv_at hl 0 rfl) ?_
  refine va_get (D := D) (ci := 0) (v := .int (nI (nxt))) (C := RX0) (T := TX0) (N := 3) hx hb hts (fun _ h => List.mem_cons_of_mem _ (List.mem_append_left _ (List.mem_append_left _ (List.mem_append_right _ h)))) hown hK hP 11 rfl rfl 1 (by decide) (hts (.fieldLink RX0 24 "SpreadParity$History" "next" "I") (List.mem_of_getElem? (i := 2) rfl)) (fun _ h9 => h9) rfl dX0_keep_6 ?_
  refine lv_bipush (v := nI 86) hx hb dX0_keep_9 rfl ?_
  refine q_mulN hx hb dX0_keep_11 ?_
  refine q_wV0 (As := [.ref (a 12), .int (nI (nxt * 86))]) (rest := []) (st1 := []) ⟨hx, hb, hml, hown, hts⟩ (c_X5_copyTo D cy A a σ kept nxt cnt T len pos ph le nu va Z (nxt * 86) (by omega)) (cwV 2 hts gX0_keep_X5_copyTo rfl rfl rfl hd_X5_copyTo ⟨Nat.le_of_ble_eq_true rfl, Nat.le_of_ble_eq_true rfl⟩) hK hA hw 8 rfl rfl rfl hl.1 rfl rfl (Nat.le_of_ble_eq_true rfl) ⟨Nat.zero_le _, Nat.zero_le _⟩ dX0_keep_12 (fun H locs hw => ?_)
  have hw : wS D A (wX cy a σ (cpK kept σ (nxt * 86) 86) nxt cnt T len pos ph le nu va ++ Z) s H locs := hw
  have hP := hw.1
  refine lv_aload_n hx hb dX0_keep_15 rfl (lv_at hl 0 rfl) ?_
  refine lv_aload_n hx hb dX0_keep_16 rfl (lv_at hl 0 rfl) ?_
  refine va_get (D := D) (ci := 0) (v := .int (nI (nxt))) (C := RX0) (T := TX0) (N := 3) hx hb hts (fun _ h => List.mem_cons_of_mem _ (List.mem_append_left _ (List.mem_append_left _ (List.mem_append_right _ h)))) hown hK hP 11 rfl rfl 1 (by decide) (hts (.fieldLink RX0 24 "SpreadParity$History" "next" "I") (List.mem_of_getElem? (i := 2) rfl)) (fun _ h9 => h9) rfl dX0_keep_17 ?_
  refine lv_iconst (v := nI 1) hx hb dX0_keep_20 rfl ?_
  refine q_addN hx hb dX0_keep_21 ?_
  refine lv_bipush (v := nI 6) hx hb dX0_keep_22 rfl ?_
  refine q_remN hx hb dX0_keep_24 (by omega) (by omega) (by omega) ?_
  refine va_put (D := D) (ci := 0) (v := .int (nI ((nxt + 1) % 6))) (ty := .int) (C := RX0) (T := TX0) (N := 3) hx hb hts (fun _ h => List.mem_cons_of_mem _ (List.mem_append_left _ (List.mem_append_left _ (List.mem_append_right _ h)))) tyX0 tyX0_ok nmX0 hown hK hw.1 hw.2.1 hw.2.2 11 rfl rfl 1 (by decide) (hts (.fieldLink RX0 24 "SpreadParity$History" "next" "I") (List.mem_of_getElem? (i := 2) rfl)) (fun _ h9 => h9) rfl (tyX0_ok 1 (by decide)) rfl rfl (Nat.le_of_ble_eq_true rfl) dX0_keep_25 (fun H locs hP hD hS => ?_)
  have hw : wS D A (wX cy a σ (cpK kept σ (nxt * 86) 86) ((nxt + 1) % 6) cnt T len pos ph le nu va ++ Z) s H locs := ⟨hP, hD, hS⟩
  refine lv_aload_n hx hb dX0_keep_28 rfl (lv_at hl 0 rfl) ?_
  refine lv_aload_n hx hb dX0_keep_29 rfl (lv_at hl 0 rfl) ?_
  refine va_get (D := D) (ci := 0) (v := .int (nI (cnt))) (C := RX0) (T := TX0) (N := 3) hx hb hts (fun _ h => List.mem_cons_of_mem _ (List.mem_append_left _ (List.mem_append_left _ (List.mem_append_right _ h)))) hown hK hP 11 rfl rfl 2 (by decide) (hts (.fieldLink RX0 20 "SpreadParity$History" "count" "I") (List.mem_of_getElem? (i := 3) rfl)) (fun _ h9 => h9) rfl dX0_keep_30 ?_
  refine lv_iconst (v := nI 1) hx hb dX0_keep_33 rfl ?_
  refine q_addN hx hb dX0_keep_34 ?_
  refine lv_bipush (v := nI 6) hx hb dX0_keep_35 rfl ?_
  refine va_mmin hx hb (hml.trans hl.1.symm) hown (hts (.methodLink RX0 31 Lib.Math.min.name) (List.mem_of_getElem? (i := 4) rfl)) (hts (.static Lib.Math.min.name) (List.mem_of_getElem? (i := 5) rfl)) (hts (.initialized "java/lang/Math") (List.mem_of_getElem? (i := 6) rfl)) (hts (.code Lib.Math.min.name Lib.Math.min.code 2 (some .int)) (List.mem_of_getElem? (i := 7) rfl)) (Nat.le_of_ble_eq_true rfl) (Nat.le_of_ble_eq_true rfl) (Nat.zero_le _) (Nat.zero_le _) dX0_keep_37 ?_
  refine q_top (show (if 6 < nI (cnt + 1) then 6 else nI (cnt + 1)) = nI (min (cnt + 1) 6) from q_min (a := cnt + 1) (b := 6) (by omega) (by omega)) ?_
  refine va_put (D := D) (ci := 0) (v := .int (nI (min (cnt + 1) 6))) (ty := .int) (C := RX0) (T := TX0) (N := 3) hx hb hts (fun _ h => List.mem_cons_of_mem _ (List.mem_append_left _ (List.mem_append_left _ (List.mem_append_right _ h)))) tyX0 tyX0_ok nmX0 hown hK hw.1 hw.2.1 hw.2.2 11 rfl rfl 2 (by decide) (hts (.fieldLink RX0 20 "SpreadParity$History" "count" "I") (List.mem_of_getElem? (i := 3) rfl)) (fun _ h9 => h9) rfl (tyX0_ok 2 (by decide)) rfl rfl (Nat.le_of_ble_eq_true rfl) dX0_keep_40 (fun H locs hP hD hS => ?_)
  have hw : wS D A (wX cy a σ (cpK kept σ (nxt * 86) 86) ((nxt + 1) % 6) (min (cnt + 1) 6) T len pos ph le nu va ++ Z) s H locs := ⟨hP, hD, hS⟩
  exact q_vretW hx hb hr hlocks hw dX0_keep_43
set_option maxHeartbeats 1000000 in
set_option maxRecDepth 100000 in
theorem c_X1_spotOf {l : Launch} (D : va_G) (cy : ClassId) (a : Nat → Nat) (σ kept : Nat → Int32) (nxt cnt : Nat) (T : Nat → Int32) (len pos : Nat) (ph le nu va : Int32) (Z : va_W) (s_ : Nat) (u : Nat) (h_0 : s_ < 21) (h_1 : u < 3) : Met l yX1_spotOf wsX1_spotOf (k2_rm 1 21) (gR D cy [.ref (a 1), .int (nI (s_)), .int (nI (u))] (wX cy a σ kept nxt cnt T len pos ph le nu va ++ Z)) (k2_QcV (.int (nI (spT (3 * s_ + u))))) 0 0 (fun _ => False) := by
  refine q_pure (cc := cX1_spotOf) (maxL := 3) (ret := (some .int)) pl_X1 rfl (Nat.le_of_ble_eq_true rfl) ?_
  intro p e s m below meth c ls hx hb hr hml hts hown hlocks hP hK hl
  have hl : lv_has ls 3 [(0, .ref (a 1)), (1, .int (nI (s_))), (2, .int (nI (u)))] := hl
  refine lv_aload_n hx hb dX1_spotOf_0 rfl (lv_at hl 0 rfl) ?_
  refine va_get (D := D) (ci := 1) (v := .ref (a 2)) (C := RX1) (T := TX1) (N := 3) hx hb hts (fun _ h => List.mem_cons_of_mem _ (List.mem_append_left _ (List.mem_append_right _ h))) hown hK hP 1 rfl rfl 0 (by decide) (hts (.fieldLink RX1 14 "SpreadParity$Layout" "spots" "LSpreadParity$Row;") (List.mem_of_getElem? (i := 1) rfl)) (fun _ h9 => h9) rfl dX1_spotOf_1 ?_
  refine lv_iconst (v := nI 3) hx hb dX1_spotOf_4 rfl ?_
  refine lv_iload_n hx hb dX1_spotOf_5 rfl (lv_at hl 1 rfl) ?_
  refine q_mulN hx hb dX1_spotOf_6 ?_
  refine lv_iload_n hx hb dX1_spotOf_7 rfl (lv_at hl 2 rfl) ?_
  refine q_addN hx hb dX1_spotOf_8 ?_
  refine q_cV (As := [.int (nI ((3 * s_) + u))]) (rest := []) ⟨hx, hb, hml, hown, hts⟩ (c_X4_at D cy (wX cy a σ kept nxt cnt T len pos ph le nu va ++ Z) 2 3 (a 2) (a 3) 63 lyS rfl rfl ((3 * s_) + u) (by omega) (by omega)) (cwV 1 hts gX1_spotOf_X4_at rfl rfl rfl hd_X4_at ⟨Nat.le_of_ble_eq_true rfl, Nat.le_of_ble_eq_true rfl⟩) hK hP 2 rfl rfl rfl hl.1 rfl (Nat.le_of_ble_eq_true rfl) ⟨Nat.zero_le _, Nat.zero_le _⟩ dX1_spotOf_9 ?_
  refine q_top (show (lyS ((3 * s_) + u)) = nI (spT (3 * s_ + u)) from rfl) ?_
  exact q_iret hx hb hr hlocks dX1_spotOf_12 (rfl)
set_option maxHeartbeats 1000000 in
set_option maxRecDepth 100000 in
theorem c_X1_spotOfAddress {l : Launch} (D : va_G) (cy : ClassId) (a : Nat → Nat) (σ kept : Nat → Int32) (nxt cnt : Nat) (T : Nat → Int32) (len pos : Nat) (ph le nu va : Int32) (Z : va_W) (q : Nat) (h_0 : q < 42) : Met l yX1_spotOfAddress wsX1_spotOfAddress (k2_rm 2 43) (gR D cy [.ref (a 1), .int (nI (q))] (wX cy a σ kept nxt cnt T len pos ph le nu va ++ Z)) (k2_QcV (.int (nI (ad q)))) 0 0 (fun _ => False) := by
  refine q_pure (cc := cX1_spotOfAddress) (maxL := 2) (ret := (some .int)) pl_X1 rfl (Nat.le_of_ble_eq_true rfl) ?_
  intro p e s m below meth c ls hx hb hr hml hts hown hlocks hP hK hl
  have hl : lv_has ls 2 [(0, .ref (a 1)), (1, .int (nI (q)))] := hl
  refine lv_aload_n hx hb dX1_spotOfAddress_0 rfl (lv_at hl 0 rfl) ?_
  refine lv_iload_n hx hb dX1_spotOfAddress_1 rfl (lv_at hl 1 rfl) ?_
  refine lv_iconst (v := nI 2) hx hb dX1_spotOfAddress_2 rfl ?_
  refine q_divN hx hb dX1_spotOfAddress_3 (by omega) (by omega) (by omega) ?_
  refine lv_iload_n hx hb dX1_spotOfAddress_4 rfl (lv_at hl 1 rfl) ?_
  refine lv_iconst (v := nI 2) hx hb dX1_spotOfAddress_5 rfl ?_
  refine q_remN hx hb dX1_spotOfAddress_6 (by omega) (by omega) (by omega) ?_
  refine q_cV (As := [.int (nI (q / 2)), .int (nI (q % 2))]) (rest := []) ⟨hx, hb, hml, hown, hts⟩ (c_X1_spotOf D cy a σ kept nxt cnt T len pos ph le nu va Z (q / 2) (q % 2) (by omega) (by omega)) (cwV 2 hts gX1_spotOfAddress_X1_spotOf rfl rfl rfl hd_X1_spotOf ⟨Nat.le_of_ble_eq_true rfl, Nat.le_of_ble_eq_true rfl⟩) hK hP 1 rfl rfl rfl hl.1 rfl (Nat.le_of_ble_eq_true rfl) ⟨Nat.zero_le _, Nat.zero_le _⟩ dX1_spotOfAddress_7 ?_
  exact q_iret hx hb hr hlocks dX1_spotOfAddress_10 (rfl)
set_option maxHeartbeats 1000000 in
set_option maxRecDepth 100000 in
theorem c_X1_otherDataOfAddress {l : Launch} (D : va_G) (cy : ClassId) (a : Nat → Nat) (σ kept : Nat → Int32) (nxt cnt : Nat) (T : Nat → Int32) (len pos : Nat) (ph le nu va : Int32) (Z : va_W) (q : Nat) (h_0 : q < 42) : Met l yX1_otherDataOfAddress wsX1_otherDataOfAddress (k2_rm 2 43) (gR D cy [.ref (a 1), .int (nI (q))] (wX cy a σ kept nxt cnt T len pos ph le nu va ++ Z)) (k2_QcV (.int (nI (adO q)))) 0 0 (fun _ => False) := by
  refine q_pure (cc := cX1_otherDataOfAddress) (maxL := 2) (ret := (some .int)) pl_X1 rfl (Nat.le_of_ble_eq_true rfl) ?_
  intro p e s m below meth c ls hx hb hr hml hts hown hlocks hP hK hl
  have hl : lv_has ls 2 [(0, .ref (a 1)), (1, .int (nI (q)))] := hl
  refine lv_aload_n hx hb dX1_otherDataOfAddress_0 rfl (lv_at hl 0 rfl) ?_
  refine lv_iload_n hx hb dX1_otherDataOfAddress_1 rfl (lv_at hl 1 rfl) ?_
  refine lv_iconst (v := nI 2) hx hb dX1_otherDataOfAddress_2 rfl ?_
  refine q_divN hx hb dX1_otherDataOfAddress_3 (by omega) (by omega) (by omega) ?_
  refine lv_iconst (v := nI 1) hx hb dX1_otherDataOfAddress_4 rfl ?_
  refine lv_iload_n hx hb dX1_otherDataOfAddress_5 rfl (lv_at hl 1 rfl) ?_
  refine lv_iconst (v := nI 2) hx hb dX1_otherDataOfAddress_6 rfl ?_
  refine q_remN hx hb dX1_otherDataOfAddress_7 (by omega) (by omega) (by omega) ?_
  refine q_subN hx hb dX1_otherDataOfAddress_8 (by omega) ?_
  refine q_cV (As := [.int (nI (q / 2)), .int (nI (1 - (q % 2)))]) (rest := []) ⟨hx, hb, hml, hown, hts⟩ (c_X1_spotOf D cy a σ kept nxt cnt T len pos ph le nu va Z (q / 2) (1 - (q % 2)) (by omega) (by omega)) (cwV 2 hts gX1_otherDataOfAddress_X1_spotOf rfl rfl rfl hd_X1_spotOf ⟨Nat.le_of_ble_eq_true rfl, Nat.le_of_ble_eq_true rfl⟩) hK hP 1 rfl rfl rfl hl.1 rfl (Nat.le_of_ble_eq_true rfl) ⟨Nat.zero_le _, Nat.zero_le _⟩ dX1_otherDataOfAddress_9 ?_
  exact q_iret hx hb hr hlocks dX1_otherDataOfAddress_12 (rfl)
set_option maxHeartbeats 1000000 in
set_option maxRecDepth 100000 in
theorem c_X1_parityOfAddress {l : Launch} (D : va_G) (cy : ClassId) (a : Nat → Nat) (σ kept : Nat → Int32) (nxt cnt : Nat) (T : Nat → Int32) (len pos : Nat) (ph le nu va : Int32) (Z : va_W) (q : Nat) (h_0 : q < 42) : Met l yX1_parityOfAddress wsX1_parityOfAddress (k2_rm 2 43) (gR D cy [.ref (a 1), .int (nI (q))] (wX cy a σ kept nxt cnt T len pos ph le nu va ++ Z)) (k2_QcV (.int (nI (adP q)))) 0 0 (fun _ => False) := by
  refine q_pure (cc := cX1_parityOfAddress) (maxL := 2) (ret := (some .int)) pl_X1 rfl (Nat.le_of_ble_eq_true rfl) ?_
  intro p e s m below meth c ls hx hb hr hml hts hown hlocks hP hK hl
  have hl : lv_has ls 2 [(0, .ref (a 1)), (1, .int (nI (q)))] := hl
  refine lv_aload_n hx hb dX1_parityOfAddress_0 rfl (lv_at hl 0 rfl) ?_
  refine lv_iload_n hx hb dX1_parityOfAddress_1 rfl (lv_at hl 1 rfl) ?_
  refine lv_iconst (v := nI 2) hx hb dX1_parityOfAddress_2 rfl ?_
  refine q_divN hx hb dX1_parityOfAddress_3 (by omega) (by omega) (by omega) ?_
  refine lv_iconst (v := nI 2) hx hb dX1_parityOfAddress_4 rfl ?_
  refine q_cV (As := [.int (nI (q / 2)), .int (nI (2))]) (rest := []) ⟨hx, hb, hml, hown, hts⟩ (c_X1_spotOf D cy a σ kept nxt cnt T len pos ph le nu va Z (q / 2) (2) (by omega) (by omega)) (cwV 2 hts gX1_parityOfAddress_X1_spotOf rfl rfl rfl hd_X1_spotOf ⟨Nat.le_of_ble_eq_true rfl, Nat.le_of_ble_eq_true rfl⟩) hK hP 1 rfl rfl rfl hl.1 rfl (Nat.le_of_ble_eq_true rfl) ⟨Nat.zero_le _, Nat.zero_le _⟩ dX1_parityOfAddress_5 ?_
  exact q_iret hx hb hr hlocks dX1_parityOfAddress_8 (rfl)
set_option maxHeartbeats 1000000 in
set_option maxRecDepth 100000 in
theorem c_X1_stripeOfSpot {l : Launch} (D : va_G) (cy : ClassId) (a : Nat → Nat) (σ kept : Nat → Int32) (nxt cnt : Nat) (T : Nat → Int32) (len pos : Nat) (ph le nu va : Int32) (Z : va_W) (k : Nat) (h_0 : k < 63) : Met l yX1_stripeOfSpot wsX1_stripeOfSpot (k2_rm 1 21) (gR D cy [.ref (a 1), .int (nI (k))] (wX cy a σ kept nxt cnt T len pos ph le nu va ++ Z)) (k2_QcV (.int (nI (stT k)))) 0 0 (fun _ => False) := by
  refine q_pure (cc := cX1_stripeOfSpot) (maxL := 2) (ret := (some .int)) pl_X1 rfl (Nat.le_of_ble_eq_true rfl) ?_
  intro p e s m below meth c ls hx hb hr hml hts hown hlocks hP hK hl
  have hl : lv_has ls 2 [(0, .ref (a 1)), (1, .int (nI (k)))] := hl
  refine lv_aload_n hx hb dX1_stripeOfSpot_0 rfl (lv_at hl 0 rfl) ?_
  refine va_get (D := D) (ci := 1) (v := .ref (a 4)) (C := RX1) (T := TX1) (N := 3) hx hb hts (fun _ h => List.mem_cons_of_mem _ (List.mem_append_left _ (List.mem_append_right _ h))) hown hK hP 1 rfl rfl 1 (by decide) (hts (.fieldLink RX1 20 "SpreadParity$Layout" "stripes" "LSpreadParity$Row;") (List.mem_of_getElem? (i := 1) rfl)) (fun _ h9 => h9) rfl dX1_stripeOfSpot_1 ?_
  refine lv_iload_n hx hb dX1_stripeOfSpot_4 rfl (lv_at hl 1 rfl) ?_
  refine q_cV (As := [.int (nI (k))]) (rest := []) ⟨hx, hb, hml, hown, hts⟩ (c_X4_at D cy (wX cy a σ kept nxt cnt T len pos ph le nu va ++ Z) 4 5 (a 4) (a 5) 63 lyT rfl rfl (k) (by omega) (by omega)) (cwV 1 hts gX1_stripeOfSpot_X4_at rfl rfl rfl hd_X4_at ⟨Nat.le_of_ble_eq_true rfl, Nat.le_of_ble_eq_true rfl⟩) hK hP 4 rfl rfl rfl hl.1 rfl (Nat.le_of_ble_eq_true rfl) ⟨Nat.zero_le _, Nat.zero_le _⟩ dX1_stripeOfSpot_5 ?_
  exact q_iret hx hb hr hlocks dX1_stripeOfSpot_8 (rfl)
set_option maxHeartbeats 1000000 in
set_option maxRecDepth 100000 in
theorem c_X1_nextInStripe {l : Launch} (D : va_G) (cy : ClassId) (a : Nat → Nat) (σ kept : Nat → Int32) (nxt cnt : Nat) (T : Nat → Int32) (len pos : Nat) (ph le nu va : Int32) (Z : va_W) (k : Nat) (st : Nat) (h_0 : k < 63) (h_1 : st < 3) : Met l yX1_nextInStripe wsX1_nextInStripe (k2_rm 1 21) (gR D cy [.ref (a 1), .int (nI (k)), .int (nI (st))] (wX cy a σ kept nxt cnt T len pos ph le nu va ++ Z)) (k2_QcV (.int (nI (nx k st)))) 0 0 (fun _ => False) := by
  refine q_pure (cc := cX1_nextInStripe) (maxL := 4) (ret := (some .int)) pl_X1 rfl (Nat.le_of_ble_eq_true rfl) ?_
  intro p e s m below meth c ls hx hb hr hml hts hown hlocks hP hK hl
  have hl : lv_has ls 4 [(0, .ref (a 1)), (1, .int (nI (k))), (2, .int (nI (st)))] := hl
  refine lv_aload_n hx hb dX1_nextInStripe_0 rfl (lv_at hl 0 rfl) ?_
  refine va_get (D := D) (ci := 1) (v := .ref (a 6)) (C := RX1) (T := TX1) (N := 3) hx hb hts (fun _ h => List.mem_cons_of_mem _ (List.mem_append_left _ (List.mem_append_right _ h))) hown hK hP 1 rfl rfl 2 (by decide) (hts (.fieldLink RX1 23 "SpreadParity$Layout" "units" "LSpreadParity$Row;") (List.mem_of_getElem? (i := 1) rfl)) (fun _ h9 => h9) rfl dX1_nextInStripe_1 ?_
  refine lv_iload_n hx hb dX1_nextInStripe_4 rfl (lv_at hl 1 rfl) ?_
  refine q_cV (As := [.int (nI (k))]) (rest := []) ⟨hx, hb, hml, hown, hts⟩ (c_X4_at D cy (wX cy a σ kept nxt cnt T len pos ph le nu va ++ Z) 6 7 (a 6) (a 7) 63 lyU rfl rfl (k) (by omega) (by omega)) (cwV 1 hts gX1_nextInStripe_X4_at rfl rfl rfl hd_X4_at ⟨Nat.le_of_ble_eq_true rfl, Nat.le_of_ble_eq_true rfl⟩) hK hP 6 rfl rfl rfl hl.1 rfl (Nat.le_of_ble_eq_true rfl) ⟨Nat.zero_le _, Nat.zero_le _⟩ dX1_nextInStripe_5 ?_
  refine q_top (show (lyU k) = nI (unT (k)) from rfl) ?_
  refine lv_iload_n hx hb dX1_nextInStripe_8 rfl (lv_at hl 2 rfl) ?_
  refine q_addN hx hb dX1_nextInStripe_9 ?_
  refine lv_iconst (v := nI 3) hx hb dX1_nextInStripe_10 rfl ?_
  refine q_remN hx hb dX1_nextInStripe_11 (by omega) (by have := unT_lt h_0; omega) (by omega) ?_
  refine lv_istore_n (lv' := [(3, .int (nI (((unT (k)) + st) % 3))), (0, .ref (a 1)), (1, .int (nI (k))), (2, .int (nI (st)))]) hx hb dX1_nextInStripe_12 rfl hl (by decide) rfl (fun ls hl => ?_)
  refine lv_aload_n hx hb dX1_nextInStripe_13 rfl (lv_at hl 1 rfl) ?_
  refine va_get (D := D) (ci := 1) (v := .ref (a 2)) (C := RX1) (T := TX1) (N := 3) hx hb hts (fun _ h => List.mem_cons_of_mem _ (List.mem_append_left _ (List.mem_append_right _ h))) hown hK hP 1 rfl rfl 0 (by decide) (hts (.fieldLink RX1 14 "SpreadParity$Layout" "spots" "LSpreadParity$Row;") (List.mem_of_getElem? (i := 2) rfl)) (fun _ h9 => h9) rfl dX1_nextInStripe_14 ?_
  refine lv_iconst (v := nI 3) hx hb dX1_nextInStripe_17 rfl ?_
  refine lv_aload_n hx hb dX1_nextInStripe_18 rfl (lv_at hl 1 rfl) ?_
  refine va_get (D := D) (ci := 1) (v := .ref (a 4)) (C := RX1) (T := TX1) (N := 3) hx hb hts (fun _ h => List.mem_cons_of_mem _ (List.mem_append_left _ (List.mem_append_right _ h))) hown hK hP 1 rfl rfl 1 (by decide) (hts (.fieldLink RX1 20 "SpreadParity$Layout" "stripes" "LSpreadParity$Row;") (List.mem_of_getElem? (i := 3) rfl)) (fun _ h9 => h9) rfl dX1_nextInStripe_19 ?_
  refine lv_iload_n hx hb dX1_nextInStripe_22 rfl (lv_at hl 2 rfl) ?_
  refine q_cV (As := [.int (nI (k))]) (rest := [.int (nI (3)), .ref (a 2)]) ⟨hx, hb, hml, hown, hts⟩ (c_X4_at D cy (wX cy a σ kept nxt cnt T len pos ph le nu va ++ Z) 4 5 (a 4) (a 5) 63 lyT rfl rfl (k) (by omega) (by omega)) (cwV 1 hts gX1_nextInStripe_X4_at rfl rfl rfl hd_X4_at ⟨Nat.le_of_ble_eq_true rfl, Nat.le_of_ble_eq_true rfl⟩) hK hP 4 rfl rfl rfl hl.1 rfl (Nat.le_of_ble_eq_true rfl) ⟨Nat.zero_le _, Nat.zero_le _⟩ dX1_nextInStripe_23 ?_
  refine q_top (show (lyT k) = nI (stT (k)) from rfl) ?_
  refine q_mulN hx hb dX1_nextInStripe_26 ?_
  refine lv_iload_n hx hb dX1_nextInStripe_27 rfl (lv_at hl 0 rfl) ?_
  refine q_addN hx hb dX1_nextInStripe_28 ?_
  refine q_cV (As := [.int (nI ((3 * (stT (k))) + (((unT (k)) + st) % 3)))]) (rest := []) ⟨hx, hb, hml, hown, hts⟩ (c_X4_at D cy (wX cy a σ kept nxt cnt T len pos ph le nu va ++ Z) 2 3 (a 2) (a 3) 63 lyS rfl rfl ((3 * (stT (k))) + (((unT (k)) + st) % 3)) (by have := stT_lt h_0; omega) (by omega)) (cwV 1 hts gX1_nextInStripe_X4_at rfl rfl rfl hd_X4_at ⟨Nat.le_of_ble_eq_true rfl, Nat.le_of_ble_eq_true rfl⟩) hK hP 2 rfl rfl rfl hl.1 rfl (Nat.le_of_ble_eq_true rfl) ⟨Nat.zero_le _, Nat.zero_le _⟩ dX1_nextInStripe_29 ?_
  exact q_iret hx hb hr hlocks dX1_nextInStripe_32 (rfl)
set_option maxHeartbeats 1000000 in
set_option maxRecDepth 100000 in
theorem c_X1_stripesOnBoth {l : Launch} (D : va_G) (cy : ClassId) (a : Nat → Nat) (σ kept : Nat → Int32) (nxt cnt : Nat) (T : Nat → Int32) (len pos : Nat) (ph le nu va : Int32) (Z : va_W) (d : Nat) (o : Nat) (h_0 : d < 7) (h_1 : o < 7) : Met l yX1_stripesOnBoth wsX1_stripesOnBoth (k2_rm 2 43) (gR D cy [.ref (a 1), .int (nI (d)), .int (nI (o))] (wX cy a σ kept nxt cnt T len pos ph le nu va ++ Z)) (k2_QcV (.int (nI (both d o)))) 0 0 (fun _ => False) := by
  refine q_pure (cc := cX1_stripesOnBoth) (maxL := 5) (ret := (some .int)) pl_X1 rfl (Nat.le_of_ble_eq_true rfl) ?_
  intro p e s m below meth c ls hx hb hr hml hts hown hlocks hP hK hl
  have hl : lv_has ls 5 [(0, .ref (a 1)), (1, .int (nI (d))), (2, .int (nI (o)))] := hl
  refine lv_iconst (v := nI 0) hx hb dX1_stripesOnBoth_0 rfl ?_
  refine lv_istore_n (lv' := [(3, .int (nI (0))), (0, .ref (a 1)), (1, .int (nI (d))), (2, .int (nI (o)))]) hx hb dX1_stripesOnBoth_1 rfl hl (by decide) rfl (fun ls hl => ?_)
  refine lv_iconst (v := nI 0) hx hb dX1_stripesOnBoth_2 rfl ?_
  refine lv_istore (lv' := [(4, .int (nI (0))), (3, .int (nI (0))), (0, .ref (a 1)), (1, .int (nI (d))), (2, .int (nI (o)))]) hx hb dX1_stripesOnBoth_3 hl (by decide) rfl (fun ls hl => ?_)
  have lp5 : ∀ (j_ i : Nat), i + j_ = 21 → ∀ (ls : Array Slot), lv_has ls 5 [(0, .ref (a 1)), (1, .int (nI (d))), (2, .int (nI (o))), (3, .int (nI (cntB (fun x => lies x d && lies x o) i))), (4, .int (nI (i)))] → W p l e (k2_rm 2 43) s m ([.ref (a 1), .int (nI (d)), .int (nI (o))] : List Value).toArray below meth c s.heap [] 0 0 (MQ below (k2_QcV (.int (nI (both d o)))) ([.ref (a 1), .int (nI (d)), .int (nI (o))] : List Value).toArray s 0 0 (fun _ => False)) (F0 m 5 ls []) := by
    intro j_
    induction j_ with
    | zero =>
      intro i hn_i ls hl
      refine lv_iload hx hb dX1_stripesOnBoth_5 (lv_at hl 4 rfl) ?_
      refine lv_bipush (v := nI 21) hx hb dX1_stripesOnBoth_7 rfl ?_
      refine q_geN (tgt := 39) hx hb dX1_stripesOnBoth_9 (by decide) (by omega) (by omega) (fun c_9 => ?_) (fun c_9 => absurd c_9 (by omega))
      refine lv_iload_n hx hb dX1_stripesOnBoth_39 rfl (lv_at hl 3 rfl) ?_
      exact q_iret hx hb hr hlocks dX1_stripesOnBoth_40 (by have e9 : i = 21 := (by omega); subst e9; rfl)
    | succ j_ ih_i =>
      intro i hn_i ls hl
      refine lv_iload hx hb dX1_stripesOnBoth_5 (lv_at hl 4 rfl) ?_
      refine lv_bipush (v := nI 21) hx hb dX1_stripesOnBoth_7 rfl ?_
      refine q_geN (tgt := 39) hx hb dX1_stripesOnBoth_9 (by decide) (by omega) (by omega) (fun c_9 => absurd c_9 (by omega)) (fun c_9 => ?_)
      refine lv_iload hx hb dX1_stripesOnBoth_12 (lv_at hl 4 rfl) ?_
      refine lv_iload_n hx hb dX1_stripesOnBoth_14 rfl (lv_at hl 1 rfl) ?_
      refine q_cS (As := [.int (nI (i)), .int (nI (d))]) (rest := []) (w := []) ⟨hx, hb, hml, hown, hts⟩ (c_X1_liesOn D cy (i) (d) (by omega) (by omega)) (va_cwS 2 hts gX1_stripesOnBoth_X1_liesOn rfl rfl rfl hd_X1_liesOn ⟨Nat.le_of_ble_eq_true rfl, Nat.le_of_ble_eq_true rfl⟩) hK q_Pnil rfl hl.1 rfl (Nat.le_of_ble_eq_true rfl) ⟨Nat.zero_le _, Nat.zero_le _⟩ dX1_stripesOnBoth_15 ?_
      refine q_ifeqB (tgt := 33) hx hb dX1_stripesOnBoth_18 (by decide) (fun c_18 => ?_) (fun c_18 => ?_)
      · have e_c : nI (cntB (fun x => lies x d && lies x o) i) = nI (cntB (fun x => lies x d && lies x o) (i + 1)) := congrArg nI (by show cntB (fun x => lies x d && lies x o) i = cntB (fun x => lies x d && lies x o) (i + 1); simp only [cntB, c_18, Bool.false_and, Bool.and_false, Bool.true_and, Bool.and_true, if_true, if_false, Bool.false_eq_true, Nat.add_zero])
        rw [e_c] at hl
        refine lv_iinc (v := nI (i + 1)) (lv' := [(4, .int (nI (i + 1))), (0, .ref (a 1)), (1, .int (nI (d))), (2, .int (nI (o))), (3, .int (nI (cntB (fun x => lies x d && lies x o) (i + 1))))]) hx hb dX1_stripesOnBoth_33 hl (k := 4) rfl (show nI (i) + nI 1 = nI (i + 1) from nI_add _ _) (by decide) rfl (fun ls hl => ?_)
        refine lv_goto (tgt := 5) hx hb dX1_stripesOnBoth_36 (by decide) ?_
        exact ih_i (i + 1) (by omega) _ (lv_sub hl [1, 2, 3, 4, 0] rfl)
      · refine lv_iload hx hb dX1_stripesOnBoth_21 (lv_at hl 4 rfl) ?_
        refine lv_iload_n hx hb dX1_stripesOnBoth_23 rfl (lv_at hl 2 rfl) ?_
        refine q_cS (As := [.int (nI (i)), .int (nI (o))]) (rest := []) (w := []) ⟨hx, hb, hml, hown, hts⟩ (c_X1_liesOn D cy (i) (o) (by omega) (by omega)) (va_cwS 2 hts gX1_stripesOnBoth_X1_liesOn rfl rfl rfl hd_X1_liesOn ⟨Nat.le_of_ble_eq_true rfl, Nat.le_of_ble_eq_true rfl⟩) hK q_Pnil rfl hl.1 rfl (Nat.le_of_ble_eq_true rfl) ⟨Nat.zero_le _, Nat.zero_le _⟩ dX1_stripesOnBoth_24 ?_
        refine q_ifeqB (tgt := 33) hx hb dX1_stripesOnBoth_27 (by decide) (fun c_27 => ?_) (fun c_27 => ?_)
        · have e_c : nI (cntB (fun x => lies x d && lies x o) i) = nI (cntB (fun x => lies x d && lies x o) (i + 1)) := congrArg nI (by show cntB (fun x => lies x d && lies x o) i = cntB (fun x => lies x d && lies x o) (i + 1); simp only [cntB, c_18, c_27, Bool.false_and, Bool.and_false, Bool.true_and, Bool.and_true, if_true, if_false, Bool.false_eq_true, Nat.add_zero])
          rw [e_c] at hl
          refine lv_iinc (v := nI (i + 1)) (lv' := [(4, .int (nI (i + 1))), (0, .ref (a 1)), (1, .int (nI (d))), (2, .int (nI (o))), (3, .int (nI (cntB (fun x => lies x d && lies x o) (i + 1))))]) hx hb dX1_stripesOnBoth_33 hl (k := 4) rfl (show nI (i) + nI 1 = nI (i + 1) from nI_add _ _) (by decide) rfl (fun ls hl => ?_)
          refine lv_goto (tgt := 5) hx hb dX1_stripesOnBoth_36 (by decide) ?_
          exact ih_i (i + 1) (by omega) _ (lv_sub hl [1, 2, 3, 4, 0] rfl)
        · refine lv_iinc (v := nI (cntB (fun x => lies x d && lies x o) i + 1)) (lv' := [(3, .int (nI (cntB (fun x => lies x d && lies x o) i + 1))), (0, .ref (a 1)), (1, .int (nI (d))), (2, .int (nI (o))), (4, .int (nI (i)))]) hx hb dX1_stripesOnBoth_30 hl (k := 3) rfl (show nI (cntB (fun x => lies x d && lies x o) i) + nI 1 = nI (cntB (fun x => lies x d && lies x o) i + 1) from nI_add _ _) (by decide) rfl (fun ls hl => ?_)
          have e_c : nI (cntB (fun x => lies x d && lies x o) i + 1) = nI (cntB (fun x => lies x d && lies x o) (i + 1)) := congrArg nI (by show cntB (fun x => lies x d && lies x o) i + 1 = cntB (fun x => lies x d && lies x o) (i + 1); simp only [cntB, c_18, c_27, Bool.false_and, Bool.and_false, Bool.true_and, Bool.and_true, if_true, if_false, Bool.false_eq_true, Nat.add_zero])
          rw [e_c] at hl
          refine lv_iinc (v := nI (i + 1)) (lv' := [(4, .int (nI (i + 1))), (3, .int (nI (cntB (fun x => lies x d && lies x o) (i + 1)))), (0, .ref (a 1)), (1, .int (nI (d))), (2, .int (nI (o)))]) hx hb dX1_stripesOnBoth_33 hl (k := 4) rfl (show nI (i) + nI 1 = nI (i + 1) from nI_add _ _) (by decide) rfl (fun ls hl => ?_)
          refine lv_goto (tgt := 5) hx hb dX1_stripesOnBoth_36 (by decide) ?_
          exact ih_i (i + 1) (by omega) _ (lv_sub hl [2, 3, 4, 1, 0] rfl)
  exact lp5 (21 - 0) 0 (by omega) _ (lv_sub hl [2, 3, 4, 1, 0] rfl)

