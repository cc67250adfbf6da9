set_option maxHeartbeats 1000000 in
set_option maxRecDepth 100000 in
theorem c_X7_thrown {l : Launch} (D : va_G) (cy : ClassId) (b : Nat → Nat) (σ saved : Nat → Int32) (many : Nat) (bef T : Nat → Int32) (len thr at_ : Nat) (le f1 f2 : Int32) (dn : Nat) (hs : Int64) (Z : va_W) : Met l yX7_thrown wsX7_thrown (k2_rm 0 0) (gR D cy [.ref (b 0)] (wM cy b (mS σ) saved many bef T len thr at_ le f1 f2 dn hs ++ Z)) (k2_QcV (.int (nI (thr)))) 0 0 (fun _ => False) := by
  refine q_pure (cc := cX7_thrown) (maxL := 1) (ret := (some .int)) pl_X7 rfl (Nat.le_of_ble_eq_true rfl) ?_
  intro p e s m below meth c ls hx hb hr hml hts hown hlocks hP hK hl
  have hl : lv_has ls 1 [(0, .ref (b 0))] := hl
  refine lv_aload_n hx hb dX7_thrown_0 rfl (lv_at hl 0 rfl) ?_
  refine va_get (D := D) (ci := 7) (v := .int (nI (thr))) (C := RX7) (T := TX7) (N := 13) hx hb hts (fun _ h => List.mem_cons_of_mem _ (List.mem_append_right _ h)) hown hK hP 0 rfl rfl 6 (by decide) (hts (.fieldLink RX7 22 "SpreadParityModel" "thrown" "I") (List.mem_of_getElem? (i := 1) rfl)) (fun _ h9 => h9) rfl dX7_thrown_1 ?_
  exact q_iret hx hb hr hlocks dX7_thrown_4 (rfl)
set_option maxHeartbeats 1000000 in
set_option maxRecDepth 100000 in
theorem c_X7_holds {l : Launch} (D : va_G) (cy : ClassId) (A : Nat → Prop) (b : Nat → Nat) (σ saved : Nat → Int32) (many : Nat) (bef T : Nat → Int32) (len thr at_ : Nat) (le f1 f2 : Int32) (dn : Nat) (hs : Int64) (Z : va_W) (w : Nat) (h_0 : w < 4) : Met l yX7_holds wsX7_holds (k2_rm 0 0) (gP D cy [.ref (b 0), .int (nI (w))] A (wM cy b (mS σ) saved many bef T len thr at_ le f1 f2 dn hs ++ Z)) (gQ D A (some (.int (bI (decide (w = 0))))) (wM cy b (mS σ) saved many bef T len w at_ le f1 f2 dn hs ++ Z)) 0 0 A := by
  refine q_imp (cc := cX7_holds) (maxL := 2) (ret := (some .boolean)) pl_X7 rfl (Nat.le_of_ble_eq_true rfl) ?_
  intro p e s m below meth c ls hx hb hr hml hts hown hlocks hw hK hA hl
  have hP := hw.1
  have hl : lv_has ls 2 [(0, .ref (b 0)), (1, .int (nI (w)))] := hl
  refine lv_aload_n hx hb dX7_holds_0 rfl (lv_at hl 0 rfl) ?_
  refine lv_iload_n hx hb dX7_holds_1 rfl (lv_at hl 1 rfl) ?_
  refine va_put (D := D) (ci := 7) (v := .int (nI (w))) (ty := .int) (C := RX7) (T := TX7) (N := 13) hx hb hts (fun _ h => List.mem_cons_of_mem _ (List.mem_append_right _ h)) tyX7 tyX7_ok nmX7 hown hK hw.1 hw.2.1 hw.2.2 0 rfl rfl 6 (by decide) (hts (.fieldLink RX7 22 "SpreadParityModel" "thrown" "I") (List.mem_of_getElem? (i := 1) rfl)) (fun _ h9 => h9) rfl (tyX7_ok 6 (by decide)) rfl rfl (Nat.le_of_ble_eq_true rfl) dX7_holds_2 (fun H locs hP hD hS => ?_)
  have hw : wS D A (wM cy b (mS σ) saved many bef T len w at_ le f1 f2 dn hs ++ Z) s H locs := ⟨hP, hD, hS⟩
  refine lv_iload_n hx hb dX7_holds_5 rfl (lv_at hl 1 rfl) ?_
  refine q_ifneN (tgt := 13) hx hb dX7_holds_6 (by decide) (by omega) (fun c_6 => ?_) (fun c_6 => ?_)
  · refine lv_iconst (v := nI 0) hx hb dX7_holds_13 rfl ?_
    exact q_zretW hx hb hr hlocks hw dX7_holds_14 (by rw [decide_eq_false (by omega)]; rfl)
  · refine lv_iconst (v := nI 1) hx hb dX7_holds_9 rfl ?_
    refine lv_goto (tgt := 14) hx hb dX7_holds_10 (by decide) ?_
    exact q_zretW hx hb hr hlocks hw dX7_holds_14 (by rw [decide_eq_true (by omega)]; rfl)
set_option maxHeartbeats 1000000 in
set_option maxRecDepth 100000 in
theorem c_X7_in {l : Launch} (D : va_G) (cy : ClassId)  (v : Int32) (lo : Nat) (hi : Nat) : Met l yX7_in wsX7_in (k2_rm 0 0) (gR D cy [.int (v), .int (nI (lo)), .int (nI (hi))] []) (k2_QcV (.int (bI (inB v lo hi)))) 0 0 (fun _ => False) := by
  refine q_pure (cc := cX7_in) (maxL := 3) (ret := (some .boolean)) pl_X7 rfl (Nat.le_of_ble_eq_true rfl) ?_
  intro p e s m below meth c ls hx hb hr hml hts hown hlocks hP hK hl
  have hl : lv_has ls 3 [(0, .int (v)), (1, .int (nI (lo))), (2, .int (nI (hi)))] := hl
  refine lv_iload_n hx hb dX7_in_0 rfl (lv_at hl 0 rfl) ?_
  refine lv_iload_n hx hb dX7_in_1 rfl (lv_at hl 1 rfl) ?_
  refine lv_icmp_lt (tgt := 14) hx hb dX7_in_2 (by decide) (fun (c_2 : (v) < (nI (lo))) => ?_) (fun (c_2 : ¬ (v) < (nI (lo))) => ?_)
  · refine lv_iconst (v := nI 0) hx hb dX7_in_14 rfl ?_
    exact q_zret hx hb hr hlocks dX7_in_15 (by simp [inB, Int32.not_le.mpr c_2, bI, nI_0])
  · refine lv_iload_n hx hb dX7_in_5 rfl (lv_at hl 0 rfl) ?_
    refine lv_iload_n hx hb dX7_in_6 rfl (lv_at hl 2 rfl) ?_
    refine lv_icmp_gt (tgt := 14) hx hb dX7_in_7 (by decide) (fun (c_7 : (nI (hi)) < (v)) => ?_) (fun (c_7 : ¬ (nI (hi)) < (v)) => ?_)
    · refine lv_iconst (v := nI 0) hx hb dX7_in_14 rfl ?_
      exact q_zret hx hb hr hlocks dX7_in_15 (by simp [inB, Int32.not_le.mpr c_7, bI, nI_0])
    · refine lv_iconst (v := nI 1) hx hb dX7_in_10 rfl ?_
      refine lv_goto (tgt := 15) hx hb dX7_in_11 (by decide) ?_
      exact q_zret hx hb hr hlocks dX7_in_15 (by simp [inB, Int32.not_lt.mp c_2, Int32.not_lt.mp c_7, bI, nI1])
set_option maxHeartbeats 1000000 in
set_option maxRecDepth 100000 in
theorem c_X7_isDisc {l : Launch} (D : va_G) (cy : ClassId)  (x : Int32) : Met l yX7_isDisc wsX7_isDisc (k2_rm 1 22) (gR D cy [.int (x)] []) (k2_QcV (.int (bI (inR x 7)))) 0 0 (fun _ => False) := by
  refine q_pure (cc := cX7_isDisc) (maxL := 1) (ret := (some .boolean)) pl_X7 rfl (Nat.le_of_ble_eq_true rfl) ?_
  intro p e s m below meth c ls hx hb hr hml hts hown hlocks hP hK hl
  have hl : lv_has ls 1 [(0, .int (x))] := hl
  refine lv_iload_n hx hb dX7_isDisc_0 rfl (lv_at hl 0 rfl) ?_
  refine lv_iconst (v := nI 0) hx hb dX7_isDisc_1 rfl ?_
  refine lv_bipush (v := nI 6) hx hb dX7_isDisc_2 rfl ?_
  refine q_cS (As := [.int (x), .int (nI (0)), .int (nI (6))]) (rest := []) (w := []) ⟨hx, hb, hml, hown, hts⟩ (c_X7_in D cy (x) (0) (6)) (va_cwS 3 hts gX7_isDisc_X7_in rfl rfl rfl hd_X7_in ⟨Nat.le_of_ble_eq_true rfl, Nat.le_of_ble_eq_true rfl⟩) hK q_Pnil rfl hl.1 rfl (Nat.le_of_ble_eq_true rfl) ⟨Nat.zero_le _, Nat.zero_le _⟩ dX7_isDisc_4 ?_
  exact q_zret hx hb hr hlocks dX7_isDisc_7 (congrArg bI (inB_R (by omega)))
set_option maxHeartbeats 1000000 in
set_option maxRecDepth 100000 in
theorem c_X7_isPlace {l : Launch} (D : va_G) (cy : ClassId)  (x : Int32) : Met l yX7_isPlace wsX7_isPlace (k2_rm 1 22) (gR D cy [.int (x)] []) (k2_QcV (.int (bI (inR x 9)))) 0 0 (fun _ => False) := by
  refine q_pure (cc := cX7_isPlace) (maxL := 1) (ret := (some .boolean)) pl_X7 rfl (Nat.le_of_ble_eq_true rfl) ?_
  intro p e s m below meth c ls hx hb hr hml hts hown hlocks hP hK hl
  have hl : lv_has ls 1 [(0, .int (x))] := hl
  refine lv_iload_n hx hb dX7_isPlace_0 rfl (lv_at hl 0 rfl) ?_
  refine lv_iconst (v := nI 0) hx hb dX7_isPlace_1 rfl ?_
  refine lv_bipush (v := nI 8) hx hb dX7_isPlace_2 rfl ?_
  refine q_cS (As := [.int (x), .int (nI (0)), .int (nI (8))]) (rest := []) (w := []) ⟨hx, hb, hml, hown, hts⟩ (c_X7_in D cy (x) (0) (8)) (va_cwS 3 hts gX7_isPlace_X7_in rfl rfl rfl hd_X7_in ⟨Nat.le_of_ble_eq_true rfl, Nat.le_of_ble_eq_true rfl⟩) hK q_Pnil rfl hl.1 rfl (Nat.le_of_ble_eq_true rfl) ⟨Nat.zero_le _, Nat.zero_le _⟩ dX7_isPlace_4 ?_
  exact q_zret hx hb hr hlocks dX7_isPlace_7 (congrArg bI (inB_R (by omega)))
set_option maxHeartbeats 1000000 in
set_option maxRecDepth 100000 in
theorem c_X7_isStripe {l : Launch} (D : va_G) (cy : ClassId)  (x : Int32) : Met l yX7_isStripe wsX7_isStripe (k2_rm 1 22) (gR D cy [.int (x)] []) (k2_QcV (.int (bI (inR x 21)))) 0 0 (fun _ => False) := by
  refine q_pure (cc := cX7_isStripe) (maxL := 1) (ret := (some .boolean)) pl_X7 rfl (Nat.le_of_ble_eq_true rfl) ?_
  intro p e s m below meth c ls hx hb hr hml hts hown hlocks hP hK hl
  have hl : lv_has ls 1 [(0, .int (x))] := hl
  refine lv_iload_n hx hb dX7_isStripe_0 rfl (lv_at hl 0 rfl) ?_
  refine lv_iconst (v := nI 0) hx hb dX7_isStripe_1 rfl ?_
  refine lv_bipush (v := nI 20) hx hb dX7_isStripe_2 rfl ?_
  refine q_cS (As := [.int (x), .int (nI (0)), .int (nI (20))]) (rest := []) (w := []) ⟨hx, hb, hml, hown, hts⟩ (c_X7_in D cy (x) (0) (20)) (va_cwS 3 hts gX7_isStripe_X7_in rfl rfl rfl hd_X7_in ⟨Nat.le_of_ble_eq_true rfl, Nat.le_of_ble_eq_true rfl⟩) hK q_Pnil rfl hl.1 rfl (Nat.le_of_ble_eq_true rfl) ⟨Nat.zero_le _, Nat.zero_le _⟩ dX7_isStripe_4 ?_
  exact q_zret hx hb hr hlocks dX7_isStripe_7 (congrArg bI (inB_R (by omega)))
set_option maxHeartbeats 1000000 in
set_option maxRecDepth 100000 in
theorem c_X7_isAddress {l : Launch} (D : va_G) (cy : ClassId)  (x : Int32) : Met l yX7_isAddress wsX7_isAddress (k2_rm 1 22) (gR D cy [.int (x)] []) (k2_QcV (.int (bI (inR x 42)))) 0 0 (fun _ => False) := by
  refine q_pure (cc := cX7_isAddress) (maxL := 1) (ret := (some .boolean)) pl_X7 rfl (Nat.le_of_ble_eq_true rfl) ?_
  intro p e s m below meth c ls hx hb hr hml hts hown hlocks hP hK hl
  have hl : lv_has ls 1 [(0, .int (x))] := hl
  refine lv_iload_n hx hb dX7_isAddress_0 rfl (lv_at hl 0 rfl) ?_
  refine lv_iconst (v := nI 0) hx hb dX7_isAddress_1 rfl ?_
  refine lv_bipush (v := nI 41) hx hb dX7_isAddress_2 rfl ?_
  refine q_cS (As := [.int (x), .int (nI (0)), .int (nI (41))]) (rest := []) (w := []) ⟨hx, hb, hml, hown, hts⟩ (c_X7_in D cy (x) (0) (41)) (va_cwS 3 hts gX7_isAddress_X7_in rfl rfl rfl hd_X7_in ⟨Nat.le_of_ble_eq_true rfl, Nat.le_of_ble_eq_true rfl⟩) hK q_Pnil rfl hl.1 rfl (Nat.le_of_ble_eq_true rfl) ⟨Nat.zero_le _, Nat.zero_le _⟩ dX7_isAddress_4 ?_
  exact q_zret hx hb hr hlocks dX7_isAddress_7 (congrArg bI (inB_R (by omega)))
set_option maxHeartbeats 1000000 in
set_option maxRecDepth 100000 in
theorem c_X7_copy {l : Launch} (D : va_G) (cy : ClassId) (A : Nat → Prop) (w : va_W) (k0 k1 r0 r1 n0 n1 : Nat) (f g : Nat → Int32) (h0 : w[k0]? = some (r0, .inl (cy, n0, .inl f))) (h1 : w[k1]? = some (r1, .inl (cy, n1, .inl g))) (hne : k0 ≠ k1) (fo : Nat) (to : Nat) (h_0 : fo + 86 ≤ n0) (h_1 : to + 86 ≤ n1) (h_2 : n0 < 2 ^ 31) (h_3 : n1 < 2 ^ 31) : Met l yX7_copy wsX7_copy (k2_rm 0 0) (gP D cy [.ref (r0), .int (nI (fo)), .ref (r1), .int (nI (to))] A w) (gQ D A (none) (w.set k1 (r1, .inl (cy, n1, .inl (cpG g f to fo 86))))) 0 0 A := by
  refine q_imp (cc := cX7_copy) (maxL := 5) (ret := none) pl_X7 rfl (Nat.le_of_ble_eq_true rfl) ?_
  intro p e s m below meth c ls hx hb hr hml hts hown hlocks hw hK hA hl
  have hl : lv_has ls 5 [(0, .ref r0), (1, .int (nI fo)), (2, .ref r1), (3, .int (nI to))] := hl
  have hset : w.set k1 (r1, .inl (cy, n1, .inl (cpG g f to fo 0))) = w := by
    rw [cpG_0]
    apply List.ext_getElem?
    intro j
    rw [List.getElem?_set]
    split
    · rename_i h; subst h
      rw [h1]
      split
      · rfl
      · rename_i h2; exact absurd (List.getElem?_eq_some_iff.mp h1).1 h2
    · rfl
  refine lv_iconst (v := nI 0) hx hb dX7_copy_0 rfl ?_
  refine lv_istore (lv' := [(4, .int (nI 0)), (0, .ref r0), (1, .int (nI fo)), (2, .ref r1), (3, .int (nI to))]) hx hb dX7_copy_1 hl (by decide) rfl (fun ls hl => ?_)
  have lp : ∀ (j_ i : Nat), i + j_ = 86 → ∀ (H : Heap) (locs : List Loc) (ls : Array Slot), wS D A (w.set k1 (r1, .inl (cy, n1, .inl (cpG g f to fo i)))) s H locs → lv_has ls 5 [(0, .ref r0), (1, .int (nI fo)), (2, .ref r1), (3, .int (nI to)), (4, .int (nI i))] → W p l e (k2_rm 0 0) s m ([.ref (r0), .int (nI (fo)), .ref (r1), .int (nI (to))] : List Value).toArray below meth c H locs 0 0 (MQ below (gQ D A (none) (w.set k1 (r1, .inl (cy, n1, .inl (cpG g f to fo 86))))) ([.ref (r0), .int (nI (fo)), .ref (r1), .int (nI (to))] : List Value).toArray s 0 0 A) (F0 m 3 ls []) := by
    intro j_
    induction j_ with
    | zero =>
      intro i hn H locs ls hw hl
      refine lv_iload hx hb dX7_copy_3 (lv_at hl 4 rfl) ?_
      refine lv_bipush (v := nI 86) hx hb dX7_copy_5 rfl ?_
      refine q_geN (tgt := 28) hx hb dX7_copy_7 (by decide) (by omega) (by omega) (fun c_7 => ?_) (fun c_7 => absurd c_7 (by omega))
      have e9 : i = 86 := by omega
      subst e9
      exact q_vretW hx hb hr hlocks hw dX7_copy_28
    | succ j_ ih =>
      intro i hn H locs ls hw hl
      have hP := hw.1
      have g1 : (w.set k1 (r1, .inl (cy, n1, .inl (cpG g f to fo i))))[k1]? = some (r1, .inl (cy, n1, .inl (cpG g f to fo i))) := List.getElem?_set_self (List.getElem?_eq_some_iff.mp h1).1
      have g0 : (w.set k1 (r1, .inl (cy, n1, .inl (cpG g f to fo i))))[k0]? = some (r0, .inl (cy, n0, .inl f)) := by rw [List.getElem?_set_ne (Ne.symm hne)]; exact h0
      refine lv_iload hx hb dX7_copy_3 (lv_at hl 4 rfl) ?_
      refine lv_bipush (v := nI 86) hx hb dX7_copy_5 rfl ?_
      refine q_geN (tgt := 28) hx hb dX7_copy_7 (by decide) (by omega) (by omega) (fun c_7 => absurd c_7 (by omega)) (fun c_7 => ?_)
      refine lv_aload_n hx hb dX7_copy_10 rfl (lv_at hl 2 rfl) ?_
      refine lv_iload_n hx hb dX7_copy_11 rfl (lv_at hl 3 rfl) ?_
      refine lv_iload hx hb dX7_copy_12 (lv_at hl 4 rfl) ?_
      refine q_addN hx hb dX7_copy_14 ?_
      refine lv_aload_n hx hb dX7_copy_15 rfl (lv_at hl 0 rfl) ?_
      refine lv_iload_n hx hb dX7_copy_16 rfl (lv_at hl 1 rfl) ?_
      refine lv_iload hx hb dX7_copy_17 (lv_at hl 4 rfl) ?_
      refine q_addN hx hb dX7_copy_19 ?_
      refine q_iald hx hb hK hP k0 g0 (by omega) (by omega) dX7_copy_20 ?_
      refine q_iast hx hb hK hw k1 g1 (by omega) (by omega) dX7_copy_21 (fun H locs hw => ?_)
      rw [List.set_set, cpG_s] at hw
      refine lv_iinc (v := nI (i + 1)) (lv' := [(4, .int (nI (i + 1))), (0, .ref r0), (1, .int (nI fo)), (2, .ref r1), (3, .int (nI to))]) hx hb dX7_copy_22 hl (k := 4) rfl (show nI i + nI 1 = nI (i + 1) from nI_add _ _) (by decide) rfl (fun ls hl => ?_)
      refine lv_goto (tgt := 3) hx hb dX7_copy_25 (by decide) ?_
      exact ih (i + 1) (by omega) _ _ _ hw (lv_sub hl [1, 2, 3, 4, 0] rfl)
  rw [← hset] at hw
  exact lp 86 0 (by omega) _ _ _ hw (lv_sub hl [1, 2, 3, 4, 0] rfl)
set_option maxHeartbeats 1000000 in
set_option maxRecDepth 100000 in
theorem c_X7_save {l : Launch} (D : va_G) (cy : ClassId) (A : Nat → Prop) (b : Nat → Nat) (σ saved : Nat → Int32) (many : Nat) (bef T : Nat → Int32) (len thr at_ : Nat) (le f1 f2 : Int32) (dn : Nat) (hs : Int64) (Z : va_W) (h_0 : many ≤ 6) : Met l yX7_save wsX7_save (k2_rm 1 24) (gP D cy [.ref (b 0)] A (wM cy b (mS σ) saved many bef T len thr at_ le f1 f2 dn hs ++ Z)) (gQ D A (none) (wM cy b (mS σ) (svS saved many (mS σ)) (min (many + 1) 6) bef T len thr at_ le f1 f2 dn hs ++ Z)) 0 0 A := by
  refine q_imp (cc := cX7_save) (maxL := 2) (ret := none) pl_X7 rfl (Nat.le_of_ble_eq_true rfl) ?_
  intro p e s m below meth c ls hx hb hr hml hts hown hlocks hw hK hA hl
  have hP := hw.1
  have hl : lv_has ls 2 [(0, .ref (b 0))] := hl
  refine lv_aload_n hx hb dX7_save_0 rfl (lv_at hl 0 rfl) ?_
  refine va_get (D := D) (ci := 7) (v := .int (nI (many))) (C := RX7) (T := TX7) (N := 13) hx hb hts (fun _ h => List.mem_cons_of_mem _ (List.mem_append_right _ h)) hown hK hP 0 rfl rfl 2 (by decide) (hts (.fieldLink RX7 30 "SpreadParityModel" "savedMany" "I") (List.mem_of_getElem? (i := 1) rfl)) (fun _ h9 => h9) rfl dX7_save_1 ?_
  refine lv_bipush (v := nI 6) hx hb dX7_save_4 rfl ?_
  refine q_neN (tgt := 49) hx hb dX7_save_6 (by decide) (by omega) (by omega) (fun c_6 => ?_) (fun c_6 => ?_)
  · refine lv_aload_n hx hb dX7_save_49 rfl (lv_at hl 0 rfl) ?_
    refine va_get (D := D) (ci := 7) (v := .ref (b 1)) (C := RX7) (T := TX7) (N := 13) hx hb hts (fun _ h => List.mem_cons_of_mem _ (List.mem_append_right _ h)) hown hK hP 0 rfl rfl 0 (by decide) (hts (.fieldLink RX7 7 "SpreadParityModel" "s" "[I") (List.mem_of_getElem? (i := 3) rfl)) (fun _ h9 => h9) rfl dX7_save_50 ?_
    refine lv_iconst (v := nI 0) hx hb dX7_save_53 rfl ?_
    refine lv_aload_n hx hb dX7_save_54 rfl (lv_at hl 0 rfl) ?_
    refine va_get (D := D) (ci := 7) (v := .ref (b 2)) (C := RX7) (T := TX7) (N := 13) hx hb hts (fun _ h => List.mem_cons_of_mem _ (List.mem_append_right _ h)) hown hK hP 0 rfl rfl 1 (by decide) (hts (.fieldLink RX7 13 "SpreadParityModel" "saved" "[I") (List.mem_of_getElem? (i := 2) rfl)) (fun _ h9 => h9) rfl dX7_save_55 ?_
    refine lv_bipush (v := nI 86) hx hb dX7_save_58 rfl ?_
    refine lv_aload_n hx hb dX7_save_60 rfl (lv_at hl 0 rfl) ?_
    refine va_get (D := D) (ci := 7) (v := .int (nI (many))) (C := RX7) (T := TX7) (N := 13) hx hb hts (fun _ h => List.mem_cons_of_mem _ (List.mem_append_right _ h)) hown hK hP 0 rfl rfl 2 (by decide) (hts (.fieldLink RX7 30 "SpreadParityModel" "savedMany" "I") (List.mem_of_getElem? (i := 1) rfl)) (fun _ h9 => h9) rfl dX7_save_61 ?_
    refine q_mulN hx hb dX7_save_64 ?_
    refine q_wS0 (As := [.ref (b 1), .int (nI (0)), .ref (b 2), .int (nI (86 * many))]) (rest := []) (st1 := []) ⟨hx, hb, hml, hown, hts⟩ (c_X7_copy D cy A (wM cy b (mS σ) saved many bef T len thr at_ le f1 f2 dn hs ++ Z) 1 2 (b 1) (b 2) 86 516 (mS σ) saved rfl rfl (by decide) (0) (86 * many) (by omega) (by omega) (by omega) (by omega)) (va_cwS 4 hts gX7_save_X7_copy rfl rfl rfl hd_X7_copy ⟨Nat.le_of_ble_eq_true rfl, Nat.le_of_ble_eq_true rfl⟩) hK hA hw rfl hl.1 rfl rfl (Nat.le_of_ble_eq_true rfl) ⟨Nat.zero_le _, Nat.zero_le _⟩ dX7_save_65 (fun H locs hw => ?_)
    have hw : wS D A (wM cy b (mS σ) (cpG saved (mS σ) (86 * many) (0) 86) many bef T len thr at_ le f1 f2 dn hs ++ Z) s H locs := hw
    have hP := hw.1
    refine lv_aload_n hx hb dX7_save_68 rfl (lv_at hl 0 rfl) ?_
    refine lv_dup hx hb dX7_save_69 rfl ?_
    refine va_get (D := D) (ci := 7) (v := .int (nI (many))) (C := RX7) (T := TX7) (N := 13) hx hb hts (fun _ h => List.mem_cons_of_mem _ (List.mem_append_right _ h)) hown hK hP 0 rfl rfl 2 (by decide) (hts (.fieldLink RX7 30 "SpreadParityModel" "savedMany" "I") (List.mem_of_getElem? (i := 1) rfl)) (fun _ h9 => h9) rfl dX7_save_70 ?_
    refine lv_iconst (v := nI 1) hx hb dX7_save_73 rfl ?_
    refine q_addN hx hb dX7_save_74 ?_
    refine va_put (D := D) (ci := 7) (v := .int (nI (many + 1))) (ty := .int) (C := RX7) (T := TX7) (N := 13) hx hb hts (fun _ h => List.mem_cons_of_mem _ (List.mem_append_right _ h)) tyX7 tyX7_ok nmX7 hown hK hw.1 hw.2.1 hw.2.2 0 rfl rfl 2 (by decide) (hts (.fieldLink RX7 30 "SpreadParityModel" "savedMany" "I") (List.mem_of_getElem? (i := 1) rfl)) (fun _ h9 => h9) rfl (tyX7_ok 2 (by decide)) rfl rfl (Nat.le_of_ble_eq_true rfl) dX7_save_75 (fun H locs hP hD hS => ?_)
    have hw : wS D A (wM cy b (mS σ) (cpG saved (mS σ) (86 * many) (0) 86) (many + 1) bef T len thr at_ le f1 f2 dn hs ++ Z) s H locs := ⟨hP, hD, hS⟩
    have e_w : cpG saved (mS σ) (86 * many) (0) 86 = svS saved many (mS σ) := by rw [svS, if_neg c_6, Nat.mul_comm]
    have e_m : many + 1 = min (many + 1) 6 := by omega
    rw [e_w, e_m] at hw
    exact q_vretW hx hb hr hlocks hw dX7_save_78
  · have e_1 : (saved) = cpF saved saved 86 0 := (cpF_0 saved saved 86).symm
    rw [e_1] at hw
    have hP := hw.1
    refine lv_iconst (v := nI 0) hx hb dX7_save_9 rfl ?_
    refine lv_istore_n (lv' := [(1, .int (nI (0))), (0, .ref (b 0))]) hx hb dX7_save_10 rfl hl (by decide) rfl (fun ls hl => ?_)
    have lp11 : ∀ (j_ i : Nat), i + j_ = 430 → ∀ (H : Heap) (locs : List Loc) (ls : Array Slot), wS D A (wM cy b (mS σ) (cpF saved saved 86 i) many bef T len thr at_ le f1 f2 dn hs ++ Z) s H locs → lv_has ls 2 [(0, .ref (b 0)), (1, .int (nI (i)))] → W p l e (k2_rm 1 24) s m ([.ref (b 0)] : List Value).toArray below meth c H locs 0 0 (MQ below (gQ D A (none) (wM cy b (mS σ) (svS saved many (mS σ)) (min (many + 1) 6) bef T len thr at_ le f1 f2 dn hs ++ Z)) ([.ref (b 0)] : List Value).toArray s 0 0 A) (F0 m 11 ls []) := by
      intro j_
      induction j_ with
      | zero =>
        intro i hn_i H locs ls hw hl
        have hP := hw.1
        refine lv_iload_n hx hb dX7_save_11 rfl (lv_at hl 1 rfl) ?_
        refine lv_sipush (v := nI 430) hx hb dX7_save_12 rfl ?_
        refine q_geN (tgt := 39) hx hb dX7_save_15 (by decide) (by omega) (by omega) (fun c_15 => ?_) (fun c_15 => absurd c_15 (by omega))
        refine lv_aload_n hx hb dX7_save_39 rfl (lv_at hl 0 rfl) ?_
        refine lv_dup hx hb dX7_save_40 rfl ?_
        refine va_get (D := D) (ci := 7) (v := .int (nI (many))) (C := RX7) (T := TX7) (N := 13) hx hb hts (fun _ h => List.mem_cons_of_mem _ (List.mem_append_right _ h)) hown hK hP 0 rfl rfl 2 (by decide) (hts (.fieldLink RX7 30 "SpreadParityModel" "savedMany" "I") (List.mem_of_getElem? (i := 1) rfl)) (fun _ h9 => h9) rfl dX7_save_41 ?_
        refine lv_iconst (v := nI 1) hx hb dX7_save_44 rfl ?_
        refine q_subN hx hb dX7_save_45 (by omega) ?_
        refine va_put (D := D) (ci := 7) (v := .int (nI (many - 1))) (ty := .int) (C := RX7) (T := TX7) (N := 13) hx hb hts (fun _ h => List.mem_cons_of_mem _ (List.mem_append_right _ h)) tyX7 tyX7_ok nmX7 hown hK hw.1 hw.2.1 hw.2.2 0 rfl rfl 2 (by decide) (hts (.fieldLink RX7 30 "SpreadParityModel" "savedMany" "I") (List.mem_of_getElem? (i := 1) rfl)) (fun _ h9 => h9) rfl (tyX7_ok 2 (by decide)) rfl rfl (Nat.le_of_ble_eq_true rfl) dX7_save_46 (fun H locs hP hD hS => ?_)
        have hw : wS D A (wM cy b (mS σ) (cpF saved saved 86 i) (many - 1) bef T len thr at_ le f1 f2 dn hs ++ Z) s H locs := ⟨hP, hD, hS⟩
        refine lv_aload_n hx hb dX7_save_49 rfl (lv_at hl 0 rfl) ?_
        refine va_get (D := D) (ci := 7) (v := .ref (b 1)) (C := RX7) (T := TX7) (N := 13) hx hb hts (fun _ h => List.mem_cons_of_mem _ (List.mem_append_right _ h)) hown hK hP 0 rfl rfl 0 (by decide) (hts (.fieldLink RX7 7 "SpreadParityModel" "s" "[I") (List.mem_of_getElem? (i := 3) rfl)) (fun _ h9 => h9) rfl dX7_save_50 ?_
        refine lv_iconst (v := nI 0) hx hb dX7_save_53 rfl ?_
        refine lv_aload_n hx hb dX7_save_54 rfl (lv_at hl 0 rfl) ?_
        refine va_get (D := D) (ci := 7) (v := .ref (b 2)) (C := RX7) (T := TX7) (N := 13) hx hb hts (fun _ h => List.mem_cons_of_mem _ (List.mem_append_right _ h)) hown hK hP 0 rfl rfl 1 (by decide) (hts (.fieldLink RX7 13 "SpreadParityModel" "saved" "[I") (List.mem_of_getElem? (i := 2) rfl)) (fun _ h9 => h9) rfl dX7_save_55 ?_
        refine lv_bipush (v := nI 86) hx hb dX7_save_58 rfl ?_
        refine lv_aload_n hx hb dX7_save_60 rfl (lv_at hl 0 rfl) ?_
        refine va_get (D := D) (ci := 7) (v := .int (nI (many - 1))) (C := RX7) (T := TX7) (N := 13) hx hb hts (fun _ h => List.mem_cons_of_mem _ (List.mem_append_right _ h)) hown hK hP 0 rfl rfl 2 (by decide) (hts (.fieldLink RX7 30 "SpreadParityModel" "savedMany" "I") (List.mem_of_getElem? (i := 1) rfl)) (fun _ h9 => h9) rfl dX7_save_61 ?_
        refine q_mulN hx hb dX7_save_64 ?_
        refine q_wS0 (As := [.ref (b 1), .int (nI (0)), .ref (b 2), .int (nI (86 * (many - 1)))]) (rest := []) (st1 := []) ⟨hx, hb, hml, hown, hts⟩ (c_X7_copy D cy A (wM cy b (mS σ) (cpF saved saved 86 i) (many - 1) bef T len thr at_ le f1 f2 dn hs ++ Z) 1 2 (b 1) (b 2) 86 516 (mS σ) (cpF saved saved 86 i) rfl rfl (by decide) (0) (86 * (many - 1)) (by omega) (by omega) (by omega) (by omega)) (va_cwS 4 hts gX7_save_X7_copy rfl rfl rfl hd_X7_copy ⟨Nat.le_of_ble_eq_true rfl, Nat.le_of_ble_eq_true rfl⟩) hK hA hw rfl hl.1 rfl rfl (Nat.le_of_ble_eq_true rfl) ⟨Nat.zero_le _, Nat.zero_le _⟩ dX7_save_65 (fun H locs hw => ?_)
        have hw : wS D A (wM cy b (mS σ) (cpG (cpF saved saved 86 i) (mS σ) (86 * (many - 1)) (0) 86) (many - 1) bef T len thr at_ le f1 f2 dn hs ++ Z) s H locs := hw
        have hP := hw.1
        refine lv_aload_n hx hb dX7_save_68 rfl (lv_at hl 0 rfl) ?_
        refine lv_dup hx hb dX7_save_69 rfl ?_
        refine va_get (D := D) (ci := 7) (v := .int (nI (many - 1))) (C := RX7) (T := TX7) (N := 13) hx hb hts (fun _ h => List.mem_cons_of_mem _ (List.mem_append_right _ h)) hown hK hP 0 rfl rfl 2 (by decide) (hts (.fieldLink RX7 30 "SpreadParityModel" "savedMany" "I") (List.mem_of_getElem? (i := 1) rfl)) (fun _ h9 => h9) rfl dX7_save_70 ?_
        refine lv_iconst (v := nI 1) hx hb dX7_save_73 rfl ?_
        refine q_addN hx hb dX7_save_74 ?_
        refine va_put (D := D) (ci := 7) (v := .int (nI ((many - 1) + 1))) (ty := .int) (C := RX7) (T := TX7) (N := 13) hx hb hts (fun _ h => List.mem_cons_of_mem _ (List.mem_append_right _ h)) tyX7 tyX7_ok nmX7 hown hK hw.1 hw.2.1 hw.2.2 0 rfl rfl 2 (by decide) (hts (.fieldLink RX7 30 "SpreadParityModel" "savedMany" "I") (List.mem_of_getElem? (i := 1) rfl)) (fun _ h9 => h9) rfl (tyX7_ok 2 (by decide)) rfl rfl (Nat.le_of_ble_eq_true rfl) dX7_save_75 (fun H locs hP hD hS => ?_)
        have hw : wS D A (wM cy b (mS σ) (cpG (cpF saved saved 86 i) (mS σ) (86 * (many - 1)) (0) 86) ((many - 1) + 1) bef T len thr at_ le f1 f2 dn hs ++ Z) s H locs := ⟨hP, hD, hS⟩
        have e9 : i = 430 := by omega
        subst e9
        have e_w : cpG (cpF saved saved 86 430) (mS σ) (86 * (many - 1)) (0) 86 = svS saved many (mS σ) := by rw [svS, if_pos c_6, c_6]
        have e_m : (many - 1) + 1 = min (many + 1) 6 := by omega
        rw [e_w, e_m] at hw
        exact q_vretW hx hb hr hlocks hw dX7_save_78
      | succ j_ ih_i =>
        intro i hn_i H locs ls hw hl
        have hP := hw.1
        refine lv_iload_n hx hb dX7_save_11 rfl (lv_at hl 1 rfl) ?_
        refine lv_sipush (v := nI 430) hx hb dX7_save_12 rfl ?_
        refine q_geN (tgt := 39) hx hb dX7_save_15 (by decide) (by omega) (by omega) (fun c_15 => absurd c_15 (by omega)) (fun c_15 => ?_)
        refine lv_aload_n hx hb dX7_save_18 rfl (lv_at hl 0 rfl) ?_
        refine va_get (D := D) (ci := 7) (v := .ref (b 2)) (C := RX7) (T := TX7) (N := 13) hx hb hts (fun _ h => List.mem_cons_of_mem _ (List.mem_append_right _ h)) hown hK hP 0 rfl rfl 1 (by decide) (hts (.fieldLink RX7 13 "SpreadParityModel" "saved" "[I") (List.mem_of_getElem? (i := 2) rfl)) (fun _ h9 => h9) rfl dX7_save_19 ?_
        refine lv_iload_n hx hb dX7_save_22 rfl (lv_at hl 1 rfl) ?_
        refine lv_aload_n hx hb dX7_save_23 rfl (lv_at hl 0 rfl) ?_
        refine va_get (D := D) (ci := 7) (v := .ref (b 2)) (C := RX7) (T := TX7) (N := 13) hx hb hts (fun _ h => List.mem_cons_of_mem _ (List.mem_append_right _ h)) hown hK hP 0 rfl rfl 1 (by decide) (hts (.fieldLink RX7 13 "SpreadParityModel" "saved" "[I") (List.mem_of_getElem? (i := 2) rfl)) (fun _ h9 => h9) rfl dX7_save_24 ?_
        refine lv_bipush (v := nI 86) hx hb dX7_save_27 rfl ?_
        refine lv_iload_n hx hb dX7_save_29 rfl (lv_at hl 1 rfl) ?_
        refine q_addN hx hb dX7_save_30 ?_
        refine q_iald hx hb hK hP 2 rfl (by omega) (by omega) dX7_save_31 ?_
        refine q_top (show ((cpF saved saved 86 i) (86 + i)) = saved (86 + i) from cpF_ge _ _ _ (by omega)) ?_
        refine q_iast hx hb hK hw 2 rfl (by omega) (by omega) dX7_save_32 (fun H locs hw => ?_)
        have hw : wS D A (wM cy b (mS σ) (upd (cpF saved saved 86 i) (i) (saved (86 + i))) many bef T len thr at_ le f1 f2 dn hs ++ Z) s H locs := hw
        have hP := hw.1
        have e_2 : (upd (cpF saved saved 86 i) (i) (saved (86 + i))) = cpF saved saved 86 (i + 1) := cpF_s saved saved 86 i
        rw [e_2] at hw
        have hP := hw.1
        refine lv_iinc (v := nI (i + 1)) (lv' := [(1, .int (nI (i + 1))), (0, .ref (b 0))]) hx hb dX7_save_33 hl (k := 1) rfl (show nI (i) + nI 1 = nI (i + 1) from nI_add _ _) (by decide) rfl (fun ls hl => ?_)
        refine lv_goto (tgt := 11) hx hb dX7_save_36 (by decide) ?_
        exact ih_i (i + 1) (by omega) _ _ _ hw (lv_sub hl [1, 0] rfl)
    exact lp11 (430 - 0) 0 (by omega) _ _ _ hw (lv_sub hl [1, 0] rfl)
