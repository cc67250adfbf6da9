set_option maxHeartbeats 1000000 in
set_option maxRecDepth 100000 in
theorem c_X7_memberOf {l : Launch} (D : va_G) (cy : ClassId)  (sn : Nat) (mm : Nat) (h_0 : sn < 21) (h_1 : mm < 3) : Met l yX7_memberOf wsX7_memberOf (k2_rm 0 0) (gR D cy [.int (nI (sn)), .int (nI (mm))] []) (k2_QcV (.int (nI (mem sn mm)))) 0 0 (fun _ => False) := by
  refine q_pure (cc := cX7_memberOf) (maxL := 2) (ret := (some .int)) pl_X7 rfl (Nat.le_of_ble_eq_true rfl) ?_
  intro p e s m below meth c ls hx hb hr hml hts hown hlocks hP hK hl
  have hl : lv_has ls 2 [(0, .int (nI (sn))), (1, .int (nI (mm)))] := hl
  refine lv_iload_n hx hb dX7_memberOf_0 rfl (lv_at hl 0 rfl) ?_
  refine lv_iload_n hx hb dX7_memberOf_1 rfl (lv_at hl 1 rfl) ?_
  refine lv_iconst (v := nI 2) hx hb dX7_memberOf_2 rfl ?_
  refine q_neN (tgt := 10) hx hb dX7_memberOf_3 (by decide) (by omega) (by omega) (fun c_3 => ?_) (fun c_3 => ?_)
  · refine lv_iload_n hx hb dX7_memberOf_10 rfl (lv_at hl 1 rfl) ?_
    refine q_addN hx hb dX7_memberOf_11 ?_
    refine lv_bipush (v := nI 7) hx hb dX7_memberOf_12 rfl ?_
    refine q_remN hx hb dX7_memberOf_14 (by omega) (by omega) (by omega) ?_
    exact q_iret hx hb hr hlocks dX7_memberOf_15 (by first | (subst c_3; rfl) | (simp only [mem, c_3, if_false]))
  · refine lv_iconst (v := nI 3) hx hb dX7_memberOf_6 rfl ?_
    refine lv_goto (tgt := 11) hx hb dX7_memberOf_7 (by decide) ?_
    refine q_addN hx hb dX7_memberOf_11 ?_
    refine lv_bipush (v := nI 7) hx hb dX7_memberOf_12 rfl ?_
    refine q_remN hx hb dX7_memberOf_14 (by omega) (by omega) (by omega) ?_
    exact q_iret hx hb hr hlocks dX7_memberOf_15 (by first | (subst c_3; rfl) | (simp only [mem, c_3, if_false]))
set_option maxHeartbeats 1000000 in
set_option maxRecDepth 100000 in
theorem c_X7_lies {l : Launch} (D : va_G) (cy : ClassId)  (sn : Nat) (d : Nat) (h_0 : sn < 21) (h_1 : d < 7) : Met l yX7_lies wsX7_lies (k2_rm 1 21) (gR D cy [.int (nI (sn)), .int (nI (d))] []) (k2_QcV (.int (bI (lies sn d)))) 0 0 (fun _ => False) := by
  refine q_pure (cc := cX7_lies) (maxL := 2) (ret := (some .boolean)) pl_X7 rfl (Nat.le_of_ble_eq_true rfl) ?_
  intro p e s m below meth c ls hx hb hr hml hts hown hlocks hP hK hl
  have hl : lv_has ls 2 [(0, .int (nI (sn))), (1, .int (nI (d)))] := hl
  refine lv_iload_n hx hb dX7_lies_0 rfl (lv_at hl 0 rfl) ?_
  refine lv_iconst (v := nI 0) hx hb dX7_lies_1 rfl ?_
  refine q_cS (As := [.int (nI (sn)), .int (nI (0))]) (rest := []) (w := []) ⟨hx, hb, hml, hown, hts⟩ (c_X7_memberOf D cy (sn) (0) (by omega) (by omega)) (va_cwS 2 hts gX7_lies_X7_memberOf rfl rfl rfl hd_X7_memberOf ⟨Nat.le_of_ble_eq_true rfl, Nat.le_of_ble_eq_true rfl⟩) hK q_Pnil rfl hl.1 rfl (Nat.le_of_ble_eq_true rfl) ⟨Nat.zero_le _, Nat.zero_le _⟩ dX7_lies_2 ?_
  refine lv_iload_n hx hb dX7_lies_5 rfl (lv_at hl 1 rfl) ?_
  refine q_eqN (tgt := 27) hx hb dX7_lies_6 (by decide) (by have := mem_lt sn 0; omega) (by omega) (fun c_6 => ?_) (fun c_6 => ?_)
  · refine lv_iconst (v := nI 1) hx hb dX7_lies_27 rfl ?_
    refine lv_goto (tgt := 32) hx hb dX7_lies_28 (by decide) ?_
    exact q_zret hx hb hr hlocks dX7_lies_32 (by simp [lies, c_6, bI, nI_0, nI1])
  · refine lv_iload_n hx hb dX7_lies_9 rfl (lv_at hl 0 rfl) ?_
    refine lv_iconst (v := nI 1) hx hb dX7_lies_10 rfl ?_
    refine q_cS (As := [.int (nI (sn)), .int (nI (1))]) (rest := []) (w := []) ⟨hx, hb, hml, hown, hts⟩ (c_X7_memberOf D cy (sn) (1) (by omega) (by omega)) (va_cwS 2 hts gX7_lies_X7_memberOf rfl rfl rfl hd_X7_memberOf ⟨Nat.le_of_ble_eq_true rfl, Nat.le_of_ble_eq_true rfl⟩) hK q_Pnil rfl hl.1 rfl (Nat.le_of_ble_eq_true rfl) ⟨Nat.zero_le _, Nat.zero_le _⟩ dX7_lies_11 ?_
    refine lv_iload_n hx hb dX7_lies_14 rfl (lv_at hl 1 rfl) ?_
    refine q_eqN (tgt := 27) hx hb dX7_lies_15 (by decide) (by have := mem_lt sn 1; omega) (by omega) (fun c_15 => ?_) (fun c_15 => ?_)
    · refine lv_iconst (v := nI 1) hx hb dX7_lies_27 rfl ?_
      refine lv_goto (tgt := 32) hx hb dX7_lies_28 (by decide) ?_
      exact q_zret hx hb hr hlocks dX7_lies_32 (by simp [lies, c_6, c_15, bI, nI_0, nI1])
    · refine lv_iload_n hx hb dX7_lies_18 rfl (lv_at hl 0 rfl) ?_
      refine lv_iconst (v := nI 2) hx hb dX7_lies_19 rfl ?_
      refine q_cS (As := [.int (nI (sn)), .int (nI (2))]) (rest := []) (w := []) ⟨hx, hb, hml, hown, hts⟩ (c_X7_memberOf D cy (sn) (2) (by omega) (by omega)) (va_cwS 2 hts gX7_lies_X7_memberOf rfl rfl rfl hd_X7_memberOf ⟨Nat.le_of_ble_eq_true rfl, Nat.le_of_ble_eq_true rfl⟩) hK q_Pnil rfl hl.1 rfl (Nat.le_of_ble_eq_true rfl) ⟨Nat.zero_le _, Nat.zero_le _⟩ dX7_lies_20 ?_
      refine lv_iload_n hx hb dX7_lies_23 rfl (lv_at hl 1 rfl) ?_
      refine q_neN (tgt := 31) hx hb dX7_lies_24 (by decide) (by have := mem_lt sn 2; omega) (by omega) (fun c_24 => ?_) (fun c_24 => ?_)
      · refine lv_iconst (v := nI 0) hx hb dX7_lies_31 rfl ?_
        exact q_zret hx hb hr hlocks dX7_lies_32 (by simp [lies, c_6, c_15, c_24, bI, nI_0, nI1])
      · refine lv_iconst (v := nI 1) hx hb dX7_lies_27 rfl ?_
        refine lv_goto (tgt := 32) hx hb dX7_lies_28 (by decide) ?_
        exact q_zret hx hb hr hlocks dX7_lies_32 (by simp [lies, c_6, c_15, c_24, bI, nI_0, nI1])
set_option maxHeartbeats 1000000 in
set_option maxRecDepth 100000 in
theorem c_X7_where {l : Launch} (D : va_G) (cy : ClassId)  (sn : Nat) (u : Nat) (h_0 : sn < 21) (h_1 : u < 3) : Met l yX7_where wsX7_where (k2_rm 2 42) (gR D cy [.int (nI (sn)), .int (nI (u))] []) (k2_QcV (.int (nI (spT (3 * sn + u))))) 0 0 (fun _ => False) := by
  refine q_pure (cc := cX7_where) (maxL := 7) (ret := (some .int)) pl_X7 rfl (Nat.le_of_ble_eq_true rfl) ?_
  intro p e s m below meth c ls hx hb hr hml hts hown hlocks hP hK hl
  have hl : lv_has ls 7 [(0, .int (nI (sn))), (1, .int (nI (u)))] := hl
  refine lv_iload_n hx hb dX7_where_0 rfl (lv_at hl 0 rfl) ?_
  refine lv_bipush (v := nI 7) hx hb dX7_where_1 rfl ?_
  refine q_divN hx hb dX7_where_3 (by omega) (by omega) (by omega) ?_
  refine lv_istore_n (lv' := [(2, .int (nI (sn / 7))), (0, .int (nI (sn))), (1, .int (nI (u)))]) hx hb dX7_where_4 rfl hl (by decide) rfl (fun ls hl => ?_)
  have jn40 : ∀ (ls : Array Slot), lv_has ls 7 [(0, .int (nI (sn)))] → W p l e (k2_rm 2 42) s m ([.int (nI (sn)), .int (nI (u))] : List Value).toArray below meth c s.heap [] 0 0 (MQ below (k2_QcV (.int (nI (spT (3 * sn + u))))) ([.int (nI (sn)), .int (nI (u))] : List Value).toArray s 0 0 (fun _ => False)) (F0 m 40 ls [.int (nI (mbr sn u))]) := by
    intro ls hl
    refine lv_istore_n (lv' := [(3, .int (nI (mbr sn u))), (0, .int (nI (sn)))]) hx hb dX7_where_40 rfl hl (by decide) rfl (fun ls hl => ?_)
    refine lv_iload_n hx hb dX7_where_41 rfl (lv_at hl 1 rfl) ?_
    refine lv_iload_n hx hb dX7_where_42 rfl (lv_at hl 0 rfl) ?_
    refine q_cS (As := [.int (nI (sn)), .int (nI (mbr sn u))]) (rest := []) (w := []) ⟨hx, hb, hml, hown, hts⟩ (c_X7_memberOf D cy (sn) (mbr sn u) (by omega) (mbr_lt (by omega) (by omega))) (va_cwS 2 hts gX7_where_X7_memberOf rfl rfl rfl hd_X7_memberOf ⟨Nat.le_of_ble_eq_true rfl, Nat.le_of_ble_eq_true rfl⟩) hK q_Pnil rfl hl.1 rfl (Nat.le_of_ble_eq_true rfl) ⟨Nat.zero_le _, Nat.zero_le _⟩ dX7_where_43 ?_
    refine lv_istore (lv' := [(4, .int (nI (mem sn (mbr sn u)))), (3, .int (nI (mbr sn u))), (0, .int (nI (sn)))]) hx hb dX7_where_46 hl (by decide) rfl (fun ls hl => ?_)
    refine lv_iconst (v := nI 0) hx hb dX7_where_48 rfl ?_
    refine lv_istore (lv' := [(5, .int (nI (0))), (4, .int (nI (mem sn (mbr sn u)))), (3, .int (nI (mbr sn u))), (0, .int (nI (sn)))]) hx hb dX7_where_49 hl (by decide) rfl (fun ls hl => ?_)
    refine lv_iconst (v := nI 0) hx hb dX7_where_51 rfl ?_
    refine lv_istore (lv' := [(6, .int (nI (0))), (5, .int (nI (0))), (4, .int (nI (mem sn (mbr sn u)))), (3, .int (nI (mbr sn u))), (0, .int (nI (sn)))]) hx hb dX7_where_52 hl (by decide) rfl (fun ls hl => ?_)
    have lp54 : ∀ (j_ i : Nat), i + j_ = sn → ∀ (ls : Array Slot), lv_has ls 7 [(0, .int (nI (sn))), (3, .int (nI (mbr sn u))), (4, .int (nI (mem sn (mbr sn u)))), (5, .int (nI (plc (mem sn (mbr sn u)) i))), (6, .int (nI (i)))] → W p l e (k2_rm 2 42) s m ([.int (nI (sn)), .int (nI (u))] : List Value).toArray below meth c s.heap [] 0 0 (MQ below (k2_QcV (.int (nI (spT (3 * sn + u))))) ([.int (nI (sn)), .int (nI (u))] : List Value).toArray s 0 0 (fun _ => False)) (F0 m 54 ls []) := by
      intro j_
      induction j_ with
      | zero =>
        intro i hn_i ls hl
        refine lv_iload hx hb dX7_where_54 (lv_at hl 4 rfl) ?_
        refine lv_iload_n hx hb dX7_where_56 rfl (lv_at hl 0 rfl) ?_
        refine q_geN (tgt := 86) hx hb dX7_where_57 (by decide) (by omega) (by omega) (fun c_57 => ?_) (fun c_57 => absurd c_57 (by omega))
        refine lv_bipush (v := nI 9) hx hb dX7_where_86 rfl ?_
        refine lv_iload hx hb dX7_where_88 (lv_at hl 2 rfl) ?_
        refine q_mulN hx hb dX7_where_90 ?_
        refine lv_iload hx hb dX7_where_91 (lv_at hl 3 rfl) ?_
        refine q_addN hx hb dX7_where_93 ?_
        exact q_iret hx hb hr hlocks dX7_where_94 (by have e9 : i = sn := (by omega); subst e9; exact congrArg nI (wh_tab h_0 h_1))
      | succ j_ ih_i =>
        intro i hn_i ls hl
        refine lv_iload hx hb dX7_where_54 (lv_at hl 4 rfl) ?_
        refine lv_iload_n hx hb dX7_where_56 rfl (lv_at hl 0 rfl) ?_
        refine q_geN (tgt := 86) hx hb dX7_where_57 (by decide) (by omega) (by omega) (fun c_57 => absurd c_57 (by omega)) (fun c_57 => ?_)
        refine lv_iload hx hb dX7_where_60 (lv_at hl 3 rfl) ?_
        refine lv_iload hx hb dX7_where_62 (lv_at hl 4 rfl) ?_
        refine lv_iload hx hb dX7_where_64 (lv_at hl 2 rfl) ?_
        refine q_cS (As := [.int (nI (i)), .int (nI (mem sn (mbr sn u)))]) (rest := [.int (nI (plc (mem sn (mbr sn u)) i))]) (w := []) ⟨hx, hb, hml, hown, hts⟩ (c_X7_lies D cy (i) (mem sn (mbr sn u)) (by omega) (mem_lt _ _)) (va_cwS 2 hts gX7_where_X7_lies rfl rfl rfl hd_X7_lies ⟨Nat.le_of_ble_eq_true rfl, Nat.le_of_ble_eq_true rfl⟩) hK q_Pnil rfl hl.1 rfl (Nat.le_of_ble_eq_true rfl) ⟨Nat.zero_le _, Nat.zero_le _⟩ dX7_where_66 ?_
        refine q_ifeqB (tgt := 76) hx hb dX7_where_69 (by decide) (fun c_69 => ?_) (fun c_69 => ?_)
        · refine lv_iconst (v := nI 0) hx hb dX7_where_76 rfl ?_
          refine q_addN hx hb dX7_where_77 ?_
          refine lv_istore (lv' := [(5, .int (nI ((plc (mem sn (mbr sn u)) i) + 0))), (0, .int (nI (sn))), (3, .int (nI (mbr sn u))), (4, .int (nI (mem sn (mbr sn u)))), (6, .int (nI (i)))]) hx hb dX7_where_78 hl (by decide) rfl (fun ls hl => ?_)
          have e_c : nI ((plc (mem sn (mbr sn u)) i) + 0) = nI (plc (mem sn (mbr sn u)) (i + 1)) := congrArg nI (by show (plc (mem sn (mbr sn u)) i) + 0 = plc (mem sn (mbr sn u)) (i + 1); simp only [plc, cntB, c_69, if_true, if_false, Bool.false_eq_true])
          rw [e_c] at hl
          refine lv_iinc (v := nI (i + 1)) (lv' := [(6, .int (nI (i + 1))), (5, .int (nI (plc (mem sn (mbr sn u)) (i + 1)))), (0, .int (nI (sn))), (3, .int (nI (mbr sn u))), (4, .int (nI (mem sn (mbr sn u))))]) hx hb dX7_where_80 hl (k := 4) rfl (show nI (i) + nI 1 = nI (i + 1) from nI_add _ _) (by decide) rfl (fun ls hl => ?_)
          refine lv_goto (tgt := 54) hx hb dX7_where_83 (by decide) ?_
          exact ih_i (i + 1) (by omega) _ (lv_sub hl [2, 3, 4, 1, 0] rfl)
        · refine lv_iconst (v := nI 1) hx hb dX7_where_72 rfl ?_
          refine lv_goto (tgt := 77) hx hb dX7_where_73 (by decide) ?_
          refine q_addN hx hb dX7_where_77 ?_
          refine lv_istore (lv' := [(5, .int (nI ((plc (mem sn (mbr sn u)) i) + 1))), (0, .int (nI (sn))), (3, .int (nI (mbr sn u))), (4, .int (nI (mem sn (mbr sn u)))), (6, .int (nI (i)))]) hx hb dX7_where_78 hl (by decide) rfl (fun ls hl => ?_)
          have e_c : nI ((plc (mem sn (mbr sn u)) i) + 1) = nI (plc (mem sn (mbr sn u)) (i + 1)) := congrArg nI (by show (plc (mem sn (mbr sn u)) i) + 1 = plc (mem sn (mbr sn u)) (i + 1); simp only [plc, cntB, c_69, if_true, if_false, Bool.false_eq_true])
          rw [e_c] at hl
          refine lv_iinc (v := nI (i + 1)) (lv' := [(6, .int (nI (i + 1))), (5, .int (nI (plc (mem sn (mbr sn u)) (i + 1)))), (0, .int (nI (sn))), (3, .int (nI (mbr sn u))), (4, .int (nI (mem sn (mbr sn u))))]) hx hb dX7_where_80 hl (k := 4) rfl (show nI (i) + nI 1 = nI (i + 1) from nI_add _ _) (by decide) rfl (fun ls hl => ?_)
          refine lv_goto (tgt := 54) hx hb dX7_where_83 (by decide) ?_
          exact ih_i (i + 1) (by omega) _ (lv_sub hl [2, 3, 4, 1, 0] rfl)
    exact lp54 (sn - 0) 0 (by omega) _ (lv_sub hl [4, 3, 2, 1, 0] rfl)
  refine lv_iload_n hx hb dX7_where_5 rfl (lv_at hl 2 rfl) ?_
  refine lv_iconst (v := nI 2) hx hb dX7_where_6 rfl ?_
  refine q_neN (tgt := 14) hx hb dX7_where_7 (by decide) (by omega) (by omega) (fun c_7 => ?_) (fun c_7 => ?_)
  · refine lv_iload_n hx hb dX7_where_14 rfl (lv_at hl 2 rfl) ?_
    refine q_ifneN (tgt := 30) hx hb dX7_where_15 (by decide) (by omega) (fun c_15 => ?_) (fun c_15 => ?_)
    · refine lv_iload_n hx hb dX7_where_30 rfl (lv_at hl 0 rfl) ?_
      refine lv_iconst (v := nI 2) hx hb dX7_where_31 rfl ?_
      refine q_neN (tgt := 39) hx hb dX7_where_32 (by decide) (by omega) (by omega) (fun c_32 => ?_) (fun c_32 => ?_)
      · refine lv_iconst (v := nI 2) hx hb dX7_where_39 rfl ?_
        refine q_stk (show ([.int (nI (2))] : List Value) = [.int (nI (mbr sn u))] from by unfold mbr; rw [if_neg (by omega)]; rw [if_neg (by omega)]; rw [if_neg (by omega)]) ?_
        exact jn40 _ (lv_sub hl [1] rfl)
      · refine lv_iconst (v := nI 1) hx hb dX7_where_35 rfl ?_
        refine lv_goto (tgt := 40) hx hb dX7_where_36 (by decide) ?_
        refine q_stk (show ([.int (nI (1))] : List Value) = [.int (nI (mbr sn u))] from by unfold mbr; rw [if_neg (by omega)]; rw [if_neg (by omega)]; rw [if_pos c_32]) ?_
        exact jn40 _ (lv_sub hl [1] rfl)
    · refine lv_iload_n hx hb dX7_where_18 rfl (lv_at hl 0 rfl) ?_
      refine q_ifneN (tgt := 26) hx hb dX7_where_19 (by decide) (by omega) (fun c_19 => ?_) (fun c_19 => ?_)
      · refine lv_iconst (v := nI 0) hx hb dX7_where_26 rfl ?_
        refine lv_goto (tgt := 40) hx hb dX7_where_27 (by decide) ?_
        refine q_stk (show ([.int (nI (0))] : List Value) = [.int (nI (mbr sn u))] from by unfold mbr; rw [if_neg (by omega)]; rw [if_pos c_15]; rw [if_neg (by omega)]) ?_
        exact jn40 _ (lv_sub hl [1] rfl)
      · refine lv_iconst (v := nI 1) hx hb dX7_where_22 rfl ?_
        refine lv_goto (tgt := 40) hx hb dX7_where_23 (by decide) ?_
        refine q_stk (show ([.int (nI (1))] : List Value) = [.int (nI (mbr sn u))] from by unfold mbr; rw [if_neg (by omega)]; rw [if_pos c_15]; rw [if_pos c_19]) ?_
        exact jn40 _ (lv_sub hl [1] rfl)
  · refine lv_iload_n hx hb dX7_where_10 rfl (lv_at hl 0 rfl) ?_
    refine lv_goto (tgt := 40) hx hb dX7_where_11 (by decide) ?_
    refine q_stk (show ([.int (nI (sn / 7))] : List Value) = [.int (nI (mbr sn u))] from by unfold mbr; rw [if_pos c_7]) ?_
    exact jn40 _ (lv_sub hl [1] rfl)
