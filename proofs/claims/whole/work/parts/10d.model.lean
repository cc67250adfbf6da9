set_option maxHeartbeats 1000000 in
set_option maxRecDepth 100000 in
theorem c_X7_stripeOf {l : Launch} (D : va_G) (cy : ClassId)  (d : Nat) (q : Nat) (h_0 : d < 7) (h_1 : q < 9) : Met l yX7_stripeOf wsX7_stripeOf (k2_rm 2 42) (gR D cy [.int (nI (d)), .int (nI (q))] []) (k2_QcV (.int (nI (stT (9 * d + q))))) 0 0 (fun _ => False) := by
  refine q_pure (cc := cX7_stripeOf) (maxL := 4) (ret := (some .int)) pl_X7 rfl (Nat.le_of_ble_eq_true rfl) ?_
  intro p e s m below meth c ls hx hb hr hml hts hown hlocks hP hK hl
  have hl : lv_has ls 4 [(0, .int (nI (d))), (1, .int (nI (q)))] := hl
  refine lv_iload_n hx hb dX7_stripeOf_0 rfl (lv_at hl 1 rfl) ?_
  refine lv_istore_n (lv' := [(2, .int (nI (q))), (0, .int (nI (d))), (1, .int (nI (q)))]) hx hb dX7_stripeOf_1 rfl hl (by decide) rfl (fun ls hl => ?_)
  refine lv_iconst (v := nI 0) hx hb dX7_stripeOf_2 rfl ?_
  refine lv_istore_n (lv' := [(3, .int (nI (0))), (2, .int (nI (q))), (0, .int (nI (d))), (1, .int (nI (q)))]) hx hb dX7_stripeOf_3 rfl hl (by decide) rfl (fun ls hl => ?_)
  have lp4 : ∀ (j_ i : Nat), i + j_ = stT (9 * d + q) → ∀ (ls : Array Slot), lv_has ls 4 [(0, .int (nI (d))), (1, .int (nI (q))), (2, .int (nI (q - plc d i))), (3, .int (nI (i)))] → W p l e (k2_rm 2 42) s m ([.int (nI (d)), .int (nI (q))] : List Value).toArray below meth c s.heap [] 0 0 (MQ below (k2_QcV (.int (nI (stT (9 * d + q))))) ([.int (nI (d)), .int (nI (q))] : List Value).toArray s 0 0 (fun _ => False)) (F0 m 4 ls []) := by
    intro j_
    induction j_ with
    | zero =>
      intro i hn_i ls hl
      refine lv_iload_n hx hb dX7_stripeOf_4 rfl (lv_at hl 2 rfl) ?_
      refine q_ifgtN (tgt := 16) hx hb dX7_stripeOf_5 (by decide) (by omega) (fun c_5 => absurd c_5 (by have h9 := (st_end h_0 h_1).1; rw [show stT (9 * d + q) = i by omega] at h9; omega)) (fun c_5 => ?_)
      refine lv_iload_n hx hb dX7_stripeOf_8 rfl (lv_at hl 3 rfl) ?_
      refine lv_iload_n hx hb dX7_stripeOf_9 rfl (lv_at hl 0 rfl) ?_
      refine q_cS (As := [.int (nI (i)), .int (nI (d))]) (rest := []) (w := []) ⟨hx, hb, hml, hown, hts⟩ (c_X7_lies D cy (i) (d) (by have := @stT_lt (9 * d + q) (by omega); omega) (by omega)) (va_cwS 2 hts gX7_stripeOf_X7_lies rfl rfl rfl hd_X7_lies ⟨Nat.le_of_ble_eq_true rfl, Nat.le_of_ble_eq_true rfl⟩) hK q_Pnil rfl hl.1 rfl (Nat.le_of_ble_eq_true rfl) ⟨Nat.zero_le _, Nat.zero_le _⟩ dX7_stripeOf_10 ?_
      refine q_ifneB (tgt := 38) hx hb dX7_stripeOf_13 (by decide) (fun c_13 => ?_) (fun c_13 => by have h9 := (st_end h_0 h_1).2; rw [show i = stT (9 * d + q) by omega] at c_13; rw [h9] at c_13; cases c_13)
      refine lv_iload_n hx hb dX7_stripeOf_38 rfl (lv_at hl 3 rfl) ?_
      exact q_iret hx hb hr hlocks dX7_stripeOf_39 (congrArg nI (by omega))
    | succ j_ ih_i =>
      intro i hn_i ls hl
      refine lv_iload_n hx hb dX7_stripeOf_4 rfl (lv_at hl 2 rfl) ?_
      refine q_ifgtN (tgt := 16) hx hb dX7_stripeOf_5 (by decide) (by omega) (fun c_5 => ?_) (fun c_5 => ?_)
      · refine lv_iload_n hx hb dX7_stripeOf_16 rfl (lv_at hl 2 rfl) ?_
        refine lv_iload_n hx hb dX7_stripeOf_17 rfl (lv_at hl 3 rfl) ?_
        refine lv_iload_n hx hb dX7_stripeOf_18 rfl (lv_at hl 0 rfl) ?_
        refine q_cS (As := [.int (nI (i)), .int (nI (d))]) (rest := [.int (nI (q - plc d i))]) (w := []) ⟨hx, hb, hml, hown, hts⟩ (c_X7_lies D cy (i) (d) (by have := @stT_lt (9 * d + q) (by omega); omega) (by omega)) (va_cwS 2 hts gX7_stripeOf_X7_lies rfl rfl rfl hd_X7_lies ⟨Nat.le_of_ble_eq_true rfl, Nat.le_of_ble_eq_true rfl⟩) hK q_Pnil rfl hl.1 rfl (Nat.le_of_ble_eq_true rfl) ⟨Nat.zero_le _, Nat.zero_le _⟩ dX7_stripeOf_19 ?_
        refine q_ifeqB (tgt := 29) hx hb dX7_stripeOf_22 (by decide) (fun c_22 => ?_) (fun c_22 => ?_)
        · refine lv_iconst (v := nI 0) hx hb dX7_stripeOf_29 rfl ?_
          refine q_subN hx hb dX7_stripeOf_30 (by first | omega | (have h9 := st_mid h_0 h_1 (i := i) (by omega); simp only [c_22, and_true] at h9; omega)) ?_
          refine lv_istore_n (lv' := [(2, .int (nI ((q - plc d i) - 0))), (0, .int (nI (d))), (1, .int (nI (q))), (3, .int (nI (i)))]) hx hb dX7_stripeOf_31 rfl hl (by decide) rfl (fun ls hl => ?_)
          have e_c : nI ((q - plc d i) - 0) = nI (q - plc d (i + 1)) := congrArg nI (by simp only [plc, cntB, c_22, if_true, if_false, Bool.false_eq_true]; omega)
          rw [e_c] at hl
          refine lv_iinc (v := nI (i + 1)) (lv' := [(3, .int (nI (i + 1))), (2, .int (nI (q - plc d (i + 1)))), (0, .int (nI (d))), (1, .int (nI (q)))]) hx hb dX7_stripeOf_32 hl (k := 3) rfl (show nI (i) + nI 1 = nI (i + 1) from nI_add _ _) (by decide) rfl (fun ls hl => ?_)
          refine lv_goto (tgt := 4) hx hb dX7_stripeOf_35 (by decide) ?_
          exact ih_i (i + 1) (by omega) _ (lv_sub hl [2, 3, 1, 0] rfl)
        · refine lv_iconst (v := nI 1) hx hb dX7_stripeOf_25 rfl ?_
          refine lv_goto (tgt := 30) hx hb dX7_stripeOf_26 (by decide) ?_
          refine q_subN hx hb dX7_stripeOf_30 (by first | omega | (have h9 := st_mid h_0 h_1 (i := i) (by omega); simp only [c_22, and_true] at h9; omega)) ?_
          refine lv_istore_n (lv' := [(2, .int (nI ((q - plc d i) - 1))), (0, .int (nI (d))), (1, .int (nI (q))), (3, .int (nI (i)))]) hx hb dX7_stripeOf_31 rfl hl (by decide) rfl (fun ls hl => ?_)
          have e_c : nI ((q - plc d i) - 1) = nI (q - plc d (i + 1)) := congrArg nI (by simp only [plc, cntB, c_22, if_true, if_false, Bool.false_eq_true]; omega)
          rw [e_c] at hl
          refine lv_iinc (v := nI (i + 1)) (lv' := [(3, .int (nI (i + 1))), (2, .int (nI (q - plc d (i + 1)))), (0, .int (nI (d))), (1, .int (nI (q)))]) hx hb dX7_stripeOf_32 hl (k := 3) rfl (show nI (i) + nI 1 = nI (i + 1) from nI_add _ _) (by decide) rfl (fun ls hl => ?_)
          refine lv_goto (tgt := 4) hx hb dX7_stripeOf_35 (by decide) ?_
          exact ih_i (i + 1) (by omega) _ (lv_sub hl [2, 3, 1, 0] rfl)
      · refine lv_iload_n hx hb dX7_stripeOf_8 rfl (lv_at hl 3 rfl) ?_
        refine lv_iload_n hx hb dX7_stripeOf_9 rfl (lv_at hl 0 rfl) ?_
        refine q_cS (As := [.int (nI (i)), .int (nI (d))]) (rest := []) (w := []) ⟨hx, hb, hml, hown, hts⟩ (c_X7_lies D cy (i) (d) (by have := @stT_lt (9 * d + q) (by omega); omega) (by omega)) (va_cwS 2 hts gX7_stripeOf_X7_lies rfl rfl rfl hd_X7_lies ⟨Nat.le_of_ble_eq_true rfl, Nat.le_of_ble_eq_true rfl⟩) hK q_Pnil rfl hl.1 rfl (Nat.le_of_ble_eq_true rfl) ⟨Nat.zero_le _, Nat.zero_le _⟩ dX7_stripeOf_10 ?_
        refine q_ifneB (tgt := 38) hx hb dX7_stripeOf_13 (by decide) (fun c_13 => absurd ⟨c_5, c_13⟩ (st_mid h_0 h_1 (by omega))) (fun c_13 => ?_)
        refine lv_iload_n hx hb dX7_stripeOf_16 rfl (lv_at hl 2 rfl) ?_
        refine lv_iload_n hx hb dX7_stripeOf_17 rfl (lv_at hl 3 rfl) ?_
        refine lv_iload_n hx hb dX7_stripeOf_18 rfl (lv_at hl 0 rfl) ?_
        refine q_cS (As := [.int (nI (i)), .int (nI (d))]) (rest := [.int (nI (q - plc d i))]) (w := []) ⟨hx, hb, hml, hown, hts⟩ (c_X7_lies D cy (i) (d) (by have := @stT_lt (9 * d + q) (by omega); omega) (by omega)) (va_cwS 2 hts gX7_stripeOf_X7_lies rfl rfl rfl hd_X7_lies ⟨Nat.le_of_ble_eq_true rfl, Nat.le_of_ble_eq_true rfl⟩) hK q_Pnil rfl hl.1 rfl (Nat.le_of_ble_eq_true rfl) ⟨Nat.zero_le _, Nat.zero_le _⟩ dX7_stripeOf_19 ?_
        refine q_ifeqB (tgt := 29) hx hb dX7_stripeOf_22 (by decide) (fun c_22 => ?_) (fun c_22 => ?_)
        · refine lv_iconst (v := nI 0) hx hb dX7_stripeOf_29 rfl ?_
          refine q_subN hx hb dX7_stripeOf_30 (by first | omega | (have h9 := st_mid h_0 h_1 (i := i) (by omega); simp only [c_22, and_true] at h9; omega)) ?_
          refine lv_istore_n (lv' := [(2, .int (nI ((q - plc d i) - 0))), (0, .int (nI (d))), (1, .int (nI (q))), (3, .int (nI (i)))]) hx hb dX7_stripeOf_31 rfl hl (by decide) rfl (fun ls hl => ?_)
          have e_c : nI ((q - plc d i) - 0) = nI (q - plc d (i + 1)) := congrArg nI (by simp only [plc, cntB, c_22, if_true, if_false, Bool.false_eq_true]; omega)
          rw [e_c] at hl
          refine lv_iinc (v := nI (i + 1)) (lv' := [(3, .int (nI (i + 1))), (2, .int (nI (q - plc d (i + 1)))), (0, .int (nI (d))), (1, .int (nI (q)))]) hx hb dX7_stripeOf_32 hl (k := 3) rfl (show nI (i) + nI 1 = nI (i + 1) from nI_add _ _) (by decide) rfl (fun ls hl => ?_)
          refine lv_goto (tgt := 4) hx hb dX7_stripeOf_35 (by decide) ?_
          exact ih_i (i + 1) (by omega) _ (lv_sub hl [2, 3, 1, 0] rfl)
        · refine lv_iconst (v := nI 1) hx hb dX7_stripeOf_25 rfl ?_
          refine lv_goto (tgt := 30) hx hb dX7_stripeOf_26 (by decide) ?_
          refine q_subN hx hb dX7_stripeOf_30 (by first | omega | (have h9 := st_mid h_0 h_1 (i := i) (by omega); simp only [c_22, and_true] at h9; omega)) ?_
          refine lv_istore_n (lv' := [(2, .int (nI ((q - plc d i) - 1))), (0, .int (nI (d))), (1, .int (nI (q))), (3, .int (nI (i)))]) hx hb dX7_stripeOf_31 rfl hl (by decide) rfl (fun ls hl => ?_)
          have e_c : nI ((q - plc d i) - 1) = nI (q - plc d (i + 1)) := congrArg nI (by simp only [plc, cntB, c_22, if_true, if_false, Bool.false_eq_true]; omega)
          rw [e_c] at hl
          refine lv_iinc (v := nI (i + 1)) (lv' := [(3, .int (nI (i + 1))), (2, .int (nI (q - plc d (i + 1)))), (0, .int (nI (d))), (1, .int (nI (q)))]) hx hb dX7_stripeOf_32 hl (k := 3) rfl (show nI (i) + nI 1 = nI (i + 1) from nI_add _ _) (by decide) rfl (fun ls hl => ?_)
          refine lv_goto (tgt := 4) hx hb dX7_stripeOf_35 (by decide) ?_
          exact ih_i (i + 1) (by omega) _ (lv_sub hl [2, 3, 1, 0] rfl)
  exact lp4 ((stT (9 * d + q)) - 0) 0 (by omega) _ (lv_sub hl [2, 3, 1, 0] rfl)
set_option maxHeartbeats 1000000 in
set_option maxRecDepth 100000 in
theorem c_X7_unitAt {l : Launch} (D : va_G) (cy : ClassId)  (d : Nat) (q : Nat) (h_0 : d < 7) (h_1 : q < 9) : Met l yX7_unitAt wsX7_unitAt (k2_rm 3 68) (gR D cy [.int (nI (d)), .int (nI (q))] []) (k2_QcV (.int (nI (unT (9 * d + q))))) 0 0 (fun _ => False) := by
  refine q_pure (cc := cX7_unitAt) (maxL := 5) (ret := (some .int)) pl_X7 rfl (Nat.le_of_ble_eq_true rfl) ?_
  intro p e s m below meth c ls hx hb hr hml hts hown hlocks hP hK hl
  have hl : lv_has ls 5 [(0, .int (nI (d))), (1, .int (nI (q)))] := hl
  refine lv_iload_n hx hb dX7_unitAt_0 rfl (lv_at hl 0 rfl) ?_
  refine lv_iload_n hx hb dX7_unitAt_1 rfl (lv_at hl 1 rfl) ?_
  refine q_cS (As := [.int (nI (d)), .int (nI (q))]) (rest := []) (w := []) ⟨hx, hb, hml, hown, hts⟩ (c_X7_stripeOf D cy (d) (q) (by omega) (by omega)) (va_cwS 2 hts gX7_unitAt_X7_stripeOf rfl rfl rfl hd_X7_stripeOf ⟨Nat.le_of_ble_eq_true rfl, Nat.le_of_ble_eq_true rfl⟩) hK q_Pnil rfl hl.1 rfl (Nat.le_of_ble_eq_true rfl) ⟨Nat.zero_le _, Nat.zero_le _⟩ dX7_unitAt_2 ?_
  refine lv_istore_n (lv' := [(2, .int (nI (stT (9 * d + q)))), (0, .int (nI (d))), (1, .int (nI (q)))]) hx hb dX7_unitAt_5 rfl hl (by decide) rfl (fun ls hl => ?_)
  refine lv_iconst (v := nI 0) hx hb dX7_unitAt_6 rfl ?_
  refine lv_istore_n (lv' := [(3, .int (nI (0))), (2, .int (nI (stT (9 * d + q)))), (0, .int (nI (d))), (1, .int (nI (q)))]) hx hb dX7_unitAt_7 rfl hl (by decide) rfl (fun ls hl => ?_)
  refine lv_iconst (v := nI 1) hx hb dX7_unitAt_8 rfl ?_
  refine lv_istore (lv' := [(4, .int (nI (1))), (3, .int (nI (0))), (2, .int (nI (stT (9 * d + q)))), (0, .int (nI (d))), (1, .int (nI (q)))]) hx hb dX7_unitAt_9 hl (by decide) rfl (fun ls hl => ?_)
  have lp11 : ∀ (j_ i : Nat), i + j_ = 3 → 1 ≤ i → ∀ (ls : Array Slot), lv_has ls 5 [(0, .int (nI (d))), (1, .int (nI (q))), (2, .int (nI (stT (9 * d + q)))), (3, .int (nI (uf (9 * d + q) i))), (4, .int (nI (i)))] → W p l e (k2_rm 3 68) s m ([.int (nI (d)), .int (nI (q))] : List Value).toArray below meth c s.heap [] 0 0 (MQ below (k2_QcV (.int (nI (unT (9 * d + q))))) ([.int (nI (d)), .int (nI (q))] : List Value).toArray s 0 0 (fun _ => False)) (F0 m 11 ls []) := by
    intro j_
    induction j_ with
    | zero =>
      intro i hn_i hy0 ls hl
      refine lv_iload hx hb dX7_unitAt_11 (lv_at hl 4 rfl) ?_
      refine lv_iconst (v := nI 2) hx hb dX7_unitAt_13 rfl ?_
      refine q_gtN (tgt := 45) hx hb dX7_unitAt_14 (by decide) (by omega) (by omega) (fun c_14 => ?_) (fun c_14 => absurd c_14 (by omega))
      refine lv_iload_n hx hb dX7_unitAt_45 rfl (lv_at hl 3 rfl) ?_
      exact q_iret hx hb hr hlocks dX7_unitAt_46 (by have e9 : i = 3 := (by omega); subst e9; exact congrArg nI (uf_tab (by omega)))
    | succ j_ ih_i =>
      intro i hn_i hy0 ls hl
      refine lv_iload hx hb dX7_unitAt_11 (lv_at hl 4 rfl) ?_
      refine lv_iconst (v := nI 2) hx hb dX7_unitAt_13 rfl ?_
      refine q_gtN (tgt := 45) hx hb dX7_unitAt_14 (by decide) (by omega) (by omega) (fun c_14 => absurd c_14 (by omega)) (fun c_14 => ?_)
      refine lv_iload_n hx hb dX7_unitAt_17 rfl (lv_at hl 2 rfl) ?_
      refine lv_iload hx hb dX7_unitAt_18 (lv_at hl 4 rfl) ?_
      refine q_cS (As := [.int (nI (stT (9 * d + q))), .int (nI (i))]) (rest := []) (w := []) ⟨hx, hb, hml, hown, hts⟩ (c_X7_where D cy (stT (9 * d + q)) (i) (stT_lt (by omega)) (by omega)) (va_cwS 2 hts gX7_unitAt_X7_where rfl rfl rfl hd_X7_where ⟨Nat.le_of_ble_eq_true rfl, Nat.le_of_ble_eq_true rfl⟩) hK q_Pnil rfl hl.1 rfl (Nat.le_of_ble_eq_true rfl) ⟨Nat.zero_le _, Nat.zero_le _⟩ dX7_unitAt_20 ?_
      refine lv_bipush (v := nI 9) hx hb dX7_unitAt_23 rfl ?_
      refine lv_iload_n hx hb dX7_unitAt_25 rfl (lv_at hl 0 rfl) ?_
      refine q_mulN hx hb dX7_unitAt_26 ?_
      refine lv_iload_n hx hb dX7_unitAt_27 rfl (lv_at hl 1 rfl) ?_
      refine q_addN hx hb dX7_unitAt_28 ?_
      refine q_neN (tgt := 37) hx hb dX7_unitAt_29 (by decide) (by have := @sp_lt (stT (9 * d + q)) i (stT_lt (by omega)) (by omega); omega) (by omega) (fun c_29 => ?_) (fun c_29 => ?_)
      · refine lv_iload_n hx hb dX7_unitAt_37 rfl (lv_at hl 3 rfl) ?_
        refine lv_istore_n (lv' := [(3, .int (nI (uf (9 * d + q) i))), (0, .int (nI (d))), (1, .int (nI (q))), (2, .int (nI (stT (9 * d + q)))), (4, .int (nI (i)))]) hx hb dX7_unitAt_38 rfl hl (by decide) rfl (fun ls hl => ?_)
        have e_c : nI (uf (9 * d + q) (i + 1)) = nI (uf (9 * d + q) i) := congrArg nI (by simp only [uf]; rw [if_neg (fun h => c_29 h.2)])
        have hl : lv_has ls 5 [(3, .int (nI (uf (9 * d + q) (i + 1)))), (0, .int (nI (d))), (1, .int (nI (q))), (2, .int (nI (stT (9 * d + q)))), (4, .int (nI (i)))] := by
          rw [e_c]
          exact hl
        refine lv_iinc (v := nI (i + 1)) (lv' := [(4, .int (nI (i + 1))), (3, .int (nI (uf (9 * d + q) (i + 1)))), (0, .int (nI (d))), (1, .int (nI (q))), (2, .int (nI (stT (9 * d + q))))]) hx hb dX7_unitAt_39 hl (k := 4) rfl (show nI (i) + nI 1 = nI (i + 1) from nI_add _ _) (by decide) rfl (fun ls hl => ?_)
        refine lv_goto (tgt := 11) hx hb dX7_unitAt_42 (by decide) ?_
        exact ih_i (i + 1) (by omega) (by omega) _ (lv_sub hl [2, 3, 4, 1, 0] rfl)
      · refine lv_iload hx hb dX7_unitAt_32 (lv_at hl 4 rfl) ?_
        refine lv_goto (tgt := 38) hx hb dX7_unitAt_34 (by decide) ?_
        refine lv_istore_n (lv' := [(3, .int (nI (i))), (0, .int (nI (d))), (1, .int (nI (q))), (2, .int (nI (stT (9 * d + q)))), (4, .int (nI (i)))]) hx hb dX7_unitAt_38 rfl hl (by decide) rfl (fun ls hl => ?_)
        have e_c : nI (uf (9 * d + q) (i + 1)) = nI (i) := congrArg nI (by simp only [uf]; rw [if_pos ⟨hy0, c_29⟩])
        have hl : lv_has ls 5 [(3, .int (nI (uf (9 * d + q) (i + 1)))), (0, .int (nI (d))), (1, .int (nI (q))), (2, .int (nI (stT (9 * d + q)))), (4, .int (nI (i)))] := by
          rw [e_c]
          exact hl
        refine lv_iinc (v := nI (i + 1)) (lv' := [(4, .int (nI (i + 1))), (3, .int (nI (uf (9 * d + q) (i + 1)))), (0, .int (nI (d))), (1, .int (nI (q))), (2, .int (nI (stT (9 * d + q))))]) hx hb dX7_unitAt_39 hl (k := 4) rfl (show nI (i) + nI 1 = nI (i + 1) from nI_add _ _) (by decide) rfl (fun ls hl => ?_)
        refine lv_goto (tgt := 11) hx hb dX7_unitAt_42 (by decide) ?_
        exact ih_i (i + 1) (by omega) (by omega) _ (lv_sub hl [2, 3, 4, 1, 0] rfl)
  exact lp11 (3 - 1) 1 (by omega) (Nat.le_refl 1) _ (lv_sub hl [3, 4, 2, 1, 0] rfl)
