set_option maxHeartbeats 1000000 in
set_option maxRecDepth 100000 in
theorem c_L_read {l : Launch} (hst : l.stackTraces = false) (D : va_G) (cy cJ : ClassId) (A : Nat → Prop) (a : Nat → Nat) (σ kept : Nat → Int32) (nxt cnt : Nat) (T : Nat → Int32) (len pos : Nat) (ph le nu va : Int32) (Z : va_W) (o : Nat) (out : Nat → Int64) (x : Int32) (h_0 : nxt < 6) (h_1 : cnt ≤ 6) : vx_Met l yL_read wsL_read ({ frames := 7, cells := 1, slots := 6, locals := 110 } : Room) (gW D cy cJ [.ref (a 0), .int (x), .ref o] A (wX cy a σ kept nxt cnt T len pos ph le nu va ++ ((o, .inl (cJ, 1, .inr (.inl out))) :: Z))) (gE D A (fun v9 w9 => v9 = some (.int (nI (cRd σ x))) ∧ ((cRd σ x = 0 ∧ w9 = (wX cy a (sRd σ x) (cpK kept σ (nxt * 86) 86) ((nxt + 1) % 6) (min (cnt + 1) 6) T len pos ph le nu va ++ ((o, .inl (cJ, 1, .inr (.inl (vp_updL out 0 (kn σ (ad (ix x))).toInt64)))) :: Z))) ∨ (cRd σ x ≠ 0 ∧ w9 = (wX cy a σ kept nxt cnt T len pos ph le nu va ++ ((o, .inl (cJ, 1, .inr (.inl out))) :: Z)))))) (fun _ _ _ => False) 1 6 A := by
  refine q_wmp (cc := cL_read) (maxL := 4) (ret := some .int) (hh := [(0, 9, 12, 13), (0, 9, 15, 15)]) pl_L rfl (Nat.le_of_ble_eq_true rfl) ?_
  intro p e s m below meth c ls hx hb hr hml hts hown hlocks hw hK hA hl hexc hN hJ hC
  have hl : lv_has ls 4 [(0, .ref (a 0)), (1, .int (x)), (2, .ref o)] := hl
  refine lv_aload_n hx hb dL_read_0 rfl (lv_at hl 2 rfl) ?_
  refine lv_iconst (v := nI 0) hx hb dL_read_1 rfl ?_
  refine lv_aload_n hx hb dL_read_2 rfl (lv_at hl 0 rfl) ?_
  refine lv_iload_n hx hb dL_read_3 rfl (lv_at hl 1 rfl) ?_
  refine q_xV (As := [.int (x)]) (rest := [.int (nI 0), .ref o]) ⟨hx, hb, hml, hown, hts⟩ (c_X6_read hst D cy A a σ kept nxt cnt T len pos ph le nu va ((o, .inl (cJ, 1, .inr (.inl out))) :: Z)  x h_0 h_1) (cwV 1 hts gL_read_X6_read rfl rfl rfl hd_X6_read ⟨Nat.le_of_ble_eq_true rfl, Nat.le_of_ble_eq_true rfl⟩) hK hA hN hw 0 rfl rfl rfl hl.1 rfl rfl (Nat.le_of_ble_eq_true rfl) ⟨Nat.le_refl _, Nat.le_refl _⟩ dL_read_4 (fun H locs q9 ce hc0 hw hce hcv hcl => ?_) (fun H locs hc0 hw => ?_)
  · skip
    have hle : cRd σ x ≤ 2 := cRd_le _ _
    rcases (show cRd σ x = 1 ∨ cRd σ x = 2 by omega) with hk | hk
    · skip
      have hcl : s.vm.findClass eI = some ce.cls := by first | (rw [hk] at hcl; exact hcl) | exact hcl
      refine vx_catch (own := RL) (name := eI) hown [] ⟨0, 9, 12, 13⟩ [⟨0, 9, 15, 15⟩] (by rw [hexc]; rfl) (fun z hz => absurd hz List.not_mem_nil) (by decide) (by decide) (hts (.classLink RL 13 "java/lang/IndexOutOfBoundsException") (List.mem_of_getElem? (i := 1) rfl)) (va_Nw.use rfl (hN.2.2.1 (.castable eI eI) (by decide))) hce hcv hcl ?_
      refine lv_astore_n (lv' := [(3, .ref q9), (0, .ref (a 0)), (1, .int (x)), (2, .ref o)]) hx hb dL_read_12 rfl hl (by decide) rfl (fun ls hl => ?_)
      refine lv_iconst (v := nI 1) hx hb dL_read_13 rfl ?_
      exact vx_ret (q_iretE hx hb hr hlocks hw dL_read_14 ⟨by rw [hk], Or.inr ⟨hc0, rfl⟩⟩)
    · skip
      have hcl : s.vm.findClass eS = some ce.cls := by first | (rw [hk] at hcl; exact hcl) | exact hcl
      refine vx_catch (own := RL) (name := eS) hown [⟨0, 9, 12, 13⟩] ⟨0, 9, 15, 15⟩ [] (by rw [hexc]; rfl) (List.forall_mem_cons.mpr ⟨Or.inr ⟨by decide, eI, hts (.classLink RL 13 "java/lang/IndexOutOfBoundsException") (List.mem_of_getElem? (i := 1) rfl), hC.1⟩, fun z hz => absurd hz List.not_mem_nil⟩) (by decide) (by decide) (hts (.classLink RL 15 "java/lang/IllegalStateException") (List.mem_of_getElem? (i := 2) rfl)) (va_Nw.use rfl (hN.2.2.1 (.castable eS eS) (by decide))) hce hcv hcl ?_
      refine lv_astore_n (lv' := [(3, .ref q9), (0, .ref (a 0)), (1, .int (x)), (2, .ref o)]) hx hb dL_read_15 rfl hl (by decide) rfl (fun ls hl => ?_)
      refine lv_iconst (v := nI 2) hx hb dL_read_16 rfl ?_
      exact vx_ret (q_iretE hx hb hr hlocks hw dL_read_17 ⟨by rw [hk], Or.inr ⟨hc0, rfl⟩⟩)
  · skip
    refine lv_i2l hx hb dL_read_7 rfl ?_
    refine va_last hx hb hJ hw.1 hw.2.1 hw.2.2 18 0 rfl rfl (i := nI 0) (vp_in_nI (by decide) (by decide)) dL_read_8 (fun H locs hP hD hS => ?_)
    rw [nI_clamp (show 0 < 2 ^ 31 by decide)] at hP hD
    refine lv_goto (tgt := 18) hx hb dL_read_9 (by decide) ?_
    refine lv_iconst (v := nI 0) hx hb dL_read_18 rfl ?_
    exact vx_ret (q_iretE (w := _) hx hb hr hlocks ⟨hP, hD, hS⟩ dL_read_19 ⟨by rw [hc0], Or.inl ⟨hc0, rfl⟩⟩)
set_option maxHeartbeats 1000000 in
set_option maxRecDepth 100000 in
theorem c_L_write {l : Launch} (hst : l.stackTraces = false) (D : va_G) (cy cJ : ClassId) (A : Nat → Prop) (a : Nat → Nat) (σ kept : Nat → Int32) (nxt cnt : Nat) (T : Nat → Int32) (len pos : Nat) (ph le nu va : Int32) (Z : va_W) (o : Nat) (out : Nat → Int64) (x : Int32) (v : Int32) (h_0 : nxt < 6) (h_1 : cnt ≤ 6) : vx_Met l yL_write wsL_write ({ frames := 7, cells := 1, slots := 6, locals := 131 } : Room) (gW D cy cJ [.ref (a 0), .int (x), .int (v), .ref o] A (wX cy a σ kept nxt cnt T len pos ph le nu va ++ ((o, .inl (cJ, 1, .inr (.inl out))) :: Z))) (gE D A (fun v9 w9 => v9 = some (.int (nI (cWr σ x v))) ∧ ((cWr σ x v = 0 ∧ w9 = (wX cy a (wD σ (ix x) v) (cpK kept σ (nxt * 86) 86) ((nxt + 1) % 6) (min (cnt + 1) 6) T len pos ph le nu va ++ ((o, .inl (cJ, 1, .inr (.inl (vp_updL out 0 (nI (wC σ (ix x))).toInt64)))) :: Z))) ∨ (cWr σ x v ≠ 0 ∧ w9 = (wX cy a σ kept nxt cnt T len pos ph le nu va ++ ((o, .inl (cJ, 1, .inr (.inl out))) :: Z)))))) (fun _ _ _ => False) 1 6 A := by
  refine q_wmp (cc := cL_write) (maxL := 5) (ret := some .int) (hh := [(0, 10, 13, 13), (0, 10, 17, 21), (0, 10, 21, 15)]) pl_L rfl (Nat.le_of_ble_eq_true rfl) ?_
  intro p e s m below meth c ls hx hb hr hml hts hown hlocks hw hK hA hl hexc hN hJ hC
  have hl : lv_has ls 5 [(0, .ref (a 0)), (1, .int (x)), (2, .int (v)), (3, .ref o)] := hl
  refine lv_aload_n hx hb dL_write_0 rfl (lv_at hl 3 rfl) ?_
  refine lv_iconst (v := nI 0) hx hb dL_write_1 rfl ?_
  refine lv_aload_n hx hb dL_write_2 rfl (lv_at hl 0 rfl) ?_
  refine lv_iload_n hx hb dL_write_3 rfl (lv_at hl 1 rfl) ?_
  refine lv_iload_n hx hb dL_write_4 rfl (lv_at hl 2 rfl) ?_
  refine q_xV (As := [.int (x), .int (v)]) (rest := [.int (nI 0), .ref o]) ⟨hx, hb, hml, hown, hts⟩ (c_X6_write hst D cy A a σ kept nxt cnt T len pos ph le nu va ((o, .inl (cJ, 1, .inr (.inl out))) :: Z)  x v h_0 h_1) (cwV 2 hts gL_write_X6_write rfl rfl rfl hd_X6_write ⟨Nat.le_of_ble_eq_true rfl, Nat.le_of_ble_eq_true rfl⟩) hK hA hN hw 0 rfl rfl rfl hl.1 rfl rfl (Nat.le_of_ble_eq_true rfl) ⟨Nat.le_refl _, Nat.le_refl _⟩ dL_write_5 (fun H locs q9 ce hc0 hw hce hcv hcl => ?_) (fun H locs hc0 hw => ?_)
  · skip
    have hle : cWr σ x v ≤ 3 := cWr_le _ _ _
    rcases (show cWr σ x v = 1 ∨ cWr σ x v = 2 ∨ cWr σ x v = 3 by omega) with hk | hk | hk
    · skip
      have hcl : s.vm.findClass eI = some ce.cls := by first | (rw [hk] at hcl; exact hcl) | exact hcl
      refine vx_catch (own := RL) (name := eI) hown [] ⟨0, 10, 13, 13⟩ [⟨0, 10, 17, 21⟩, ⟨0, 10, 21, 15⟩] (by rw [hexc]; rfl) (fun z hz => absurd hz List.not_mem_nil) (by decide) (by decide) (hts (.classLink RL 13 "java/lang/IndexOutOfBoundsException") (List.mem_of_getElem? (i := 1) rfl)) (va_Nw.use rfl (hN.2.2.1 (.castable eI eI) (by decide))) hce hcv hcl ?_
      refine lv_astore (lv' := [(4, .ref q9), (0, .ref (a 0)), (1, .int (x)), (2, .int (v)), (3, .ref o)]) hx hb dL_write_13 hl (by decide) rfl (fun ls hl => ?_)
      refine lv_iconst (v := nI 1) hx hb dL_write_15 rfl ?_
      exact vx_ret (q_iretE hx hb hr hlocks hw dL_write_16 ⟨by rw [hk], Or.inr ⟨hc0, rfl⟩⟩)
    · skip
      have hcl : s.vm.findClass eA = some ce.cls := by first | (rw [hk] at hcl; exact hcl) | exact hcl
      refine vx_catch (own := RL) (name := eA) hown [⟨0, 10, 13, 13⟩] ⟨0, 10, 17, 21⟩ [⟨0, 10, 21, 15⟩] (by rw [hexc]; rfl) (List.forall_mem_cons.mpr ⟨Or.inr ⟨by decide, eI, hts (.classLink RL 13 "java/lang/IndexOutOfBoundsException") (List.mem_of_getElem? (i := 1) rfl), hC.2.1⟩, fun z hz => absurd hz List.not_mem_nil⟩) (by decide) (by decide) (hts (.classLink RL 21 "java/lang/IllegalArgumentException") (List.mem_of_getElem? (i := 2) rfl)) (va_Nw.use rfl (hN.2.2.1 (.castable eA eA) (by decide))) hce hcv hcl ?_
      refine lv_astore (lv' := [(4, .ref q9), (0, .ref (a 0)), (1, .int (x)), (2, .int (v)), (3, .ref o)]) hx hb dL_write_17 hl (by decide) rfl (fun ls hl => ?_)
      refine lv_iconst (v := nI 2) hx hb dL_write_19 rfl ?_
      exact vx_ret (q_iretE hx hb hr hlocks hw dL_write_20 ⟨by rw [hk], Or.inr ⟨hc0, rfl⟩⟩)
    · skip
      have hcl : s.vm.findClass eS = some ce.cls := by first | (rw [hk] at hcl; exact hcl) | exact hcl
      refine vx_catch (own := RL) (name := eS) hown [⟨0, 10, 13, 13⟩, ⟨0, 10, 17, 21⟩] ⟨0, 10, 21, 15⟩ [] (by rw [hexc]; rfl) (List.forall_mem_cons.mpr ⟨Or.inr ⟨by decide, eI, hts (.classLink RL 13 "java/lang/IndexOutOfBoundsException") (List.mem_of_getElem? (i := 1) rfl), hC.1⟩, List.forall_mem_cons.mpr ⟨Or.inr ⟨by decide, eA, hts (.classLink RL 21 "java/lang/IllegalArgumentException") (List.mem_of_getElem? (i := 2) rfl), hC.2.2⟩, fun z hz => absurd hz List.not_mem_nil⟩⟩) (by decide) (by decide) (hts (.classLink RL 15 "java/lang/IllegalStateException") (List.mem_of_getElem? (i := 3) rfl)) (va_Nw.use rfl (hN.2.2.1 (.castable eS eS) (by decide))) hce hcv hcl ?_
      refine lv_astore (lv' := [(4, .ref q9), (0, .ref (a 0)), (1, .int (x)), (2, .int (v)), (3, .ref o)]) hx hb dL_write_21 hl (by decide) rfl (fun ls hl => ?_)
      refine lv_iconst (v := nI 3) hx hb dL_write_23 rfl ?_
      exact vx_ret (q_iretE hx hb hr hlocks hw dL_write_24 ⟨by rw [hk], Or.inr ⟨hc0, rfl⟩⟩)
  · skip
    refine lv_i2l hx hb dL_write_8 rfl ?_
    refine va_last hx hb hJ hw.1 hw.2.1 hw.2.2 18 0 rfl rfl (i := nI 0) (vp_in_nI (by decide) (by decide)) dL_write_9 (fun H locs hP hD hS => ?_)
    rw [nI_clamp (show 0 < 2 ^ 31 by decide)] at hP hD
    refine lv_goto (tgt := 25) hx hb dL_write_10 (by decide) ?_
    refine lv_iconst (v := nI 0) hx hb dL_write_25 rfl ?_
    exact vx_ret (q_iretE (w := _) hx hb hr hlocks ⟨hP, hD, hS⟩ dL_write_26 ⟨by rw [hc0], Or.inl ⟨hc0, rfl⟩⟩)
set_option maxHeartbeats 1000000 in
set_option maxRecDepth 100000 in
theorem c_L_fail {l : Launch} (hst : l.stackTraces = false) (D : va_G) (cy cJ : ClassId) (A : Nat → Prop) (a : Nat → Nat) (σ kept : Nat → Int32) (nxt cnt : Nat) (T : Nat → Int32) (len pos : Nat) (ph le nu va : Int32) (Z : va_W) (o : Nat) (out : Nat → Int64) (x : Int32) (h_0 : nxt < 6) (h_1 : cnt ≤ 6) : vx_Met l yL_fail wsL_fail ({ frames := 7, cells := 1, slots := 6, locals := 132 } : Room) (gW D cy cJ [.ref (a 0), .int (x), .ref o] A (wX cy a σ kept nxt cnt T len pos ph le nu va ++ ((o, .inl (cJ, 1, .inr (.inl out))) :: Z))) (gE D A (fun v9 w9 => v9 = some (.int (nI (cFl σ x))) ∧ ((cFl σ x = 0 ∧ w9 = (wX cy a (failS σ (ix x)) (cpK kept σ (nxt * 86) 86) ((nxt + 1) % 6) (min (cnt + 1) 6) T len pos ph le nu va ++ ((o, .inl (cJ, 1, .inr (.inl (vp_updL out 0 (nI (cl (failS σ (ix x)))).toInt64)))) :: Z))) ∨ (cFl σ x ≠ 0 ∧ w9 = (wX cy a σ kept nxt cnt T len pos ph le nu va ++ ((o, .inl (cJ, 1, .inr (.inl out))) :: Z)))))) (fun _ _ _ => False) 1 6 A := by
  refine q_wmp (cc := cL_fail) (maxL := 4) (ret := some .int) (hh := [(0, 9, 12, 13), (0, 9, 15, 15)]) pl_L rfl (Nat.le_of_ble_eq_true rfl) ?_
  intro p e s m below meth c ls hx hb hr hml hts hown hlocks hw hK hA hl hexc hN hJ hC
  have hl : lv_has ls 4 [(0, .ref (a 0)), (1, .int (x)), (2, .ref o)] := hl
  refine lv_aload_n hx hb dL_fail_0 rfl (lv_at hl 2 rfl) ?_
  refine lv_iconst (v := nI 0) hx hb dL_fail_1 rfl ?_
  refine lv_aload_n hx hb dL_fail_2 rfl (lv_at hl 0 rfl) ?_
  refine lv_iload_n hx hb dL_fail_3 rfl (lv_at hl 1 rfl) ?_
  refine q_xV (As := [.int (x)]) (rest := [.int (nI 0), .ref o]) ⟨hx, hb, hml, hown, hts⟩ (c_X6_fail hst D cy A a σ kept nxt cnt T len pos ph le nu va ((o, .inl (cJ, 1, .inr (.inl out))) :: Z)  x h_0 h_1) (cwV 1 hts gL_fail_X6_fail rfl rfl rfl hd_X6_fail ⟨Nat.le_of_ble_eq_true rfl, Nat.le_of_ble_eq_true rfl⟩) hK hA hN hw 0 rfl rfl rfl hl.1 rfl rfl (Nat.le_of_ble_eq_true rfl) ⟨Nat.le_refl _, Nat.le_refl _⟩ dL_fail_4 (fun H locs q9 ce hc0 hw hce hcv hcl => ?_) (fun H locs hc0 hw => ?_)
  · skip
    have hle : cFl σ x ≤ 2 := cFl_le _ _
    rcases (show cFl σ x = 1 ∨ cFl σ x = 2 by omega) with hk | hk
    · skip
      have hcl : s.vm.findClass eI = some ce.cls := by first | (rw [hk] at hcl; exact hcl) | exact hcl
      refine vx_catch (own := RL) (name := eI) hown [] ⟨0, 9, 12, 13⟩ [⟨0, 9, 15, 15⟩] (by rw [hexc]; rfl) (fun z hz => absurd hz List.not_mem_nil) (by decide) (by decide) (hts (.classLink RL 13 "java/lang/IndexOutOfBoundsException") (List.mem_of_getElem? (i := 1) rfl)) (va_Nw.use rfl (hN.2.2.1 (.castable eI eI) (by decide))) hce hcv hcl ?_
      refine lv_astore_n (lv' := [(3, .ref q9), (0, .ref (a 0)), (1, .int (x)), (2, .ref o)]) hx hb dL_fail_12 rfl hl (by decide) rfl (fun ls hl => ?_)
      refine lv_iconst (v := nI 1) hx hb dL_fail_13 rfl ?_
      exact vx_ret (q_iretE hx hb hr hlocks hw dL_fail_14 ⟨by rw [hk], Or.inr ⟨hc0, rfl⟩⟩)
    · skip
      have hcl : s.vm.findClass eS = some ce.cls := by first | (rw [hk] at hcl; exact hcl) | exact hcl
      refine vx_catch (own := RL) (name := eS) hown [⟨0, 9, 12, 13⟩] ⟨0, 9, 15, 15⟩ [] (by rw [hexc]; rfl) (List.forall_mem_cons.mpr ⟨Or.inr ⟨by decide, eI, hts (.classLink RL 13 "java/lang/IndexOutOfBoundsException") (List.mem_of_getElem? (i := 1) rfl), hC.1⟩, fun z hz => absurd hz List.not_mem_nil⟩) (by decide) (by decide) (hts (.classLink RL 15 "java/lang/IllegalStateException") (List.mem_of_getElem? (i := 2) rfl)) (va_Nw.use rfl (hN.2.2.1 (.castable eS eS) (by decide))) hce hcv hcl ?_
      refine lv_astore_n (lv' := [(3, .ref q9), (0, .ref (a 0)), (1, .int (x)), (2, .ref o)]) hx hb dL_fail_15 rfl hl (by decide) rfl (fun ls hl => ?_)
      refine lv_iconst (v := nI 2) hx hb dL_fail_16 rfl ?_
      exact vx_ret (q_iretE hx hb hr hlocks hw dL_fail_17 ⟨by rw [hk], Or.inr ⟨hc0, rfl⟩⟩)
  · skip
    refine lv_i2l hx hb dL_fail_7 rfl ?_
    refine va_last hx hb hJ hw.1 hw.2.1 hw.2.2 18 0 rfl rfl (i := nI 0) (vp_in_nI (by decide) (by decide)) dL_fail_8 (fun H locs hP hD hS => ?_)
    rw [nI_clamp (show 0 < 2 ^ 31 by decide)] at hP hD
    refine lv_goto (tgt := 18) hx hb dL_fail_9 (by decide) ?_
    refine lv_iconst (v := nI 0) hx hb dL_fail_18 rfl ?_
    exact vx_ret (q_iretE (w := _) hx hb hr hlocks ⟨hP, hD, hS⟩ dL_fail_19 ⟨by rw [hc0], Or.inl ⟨hc0, rfl⟩⟩)
set_option maxHeartbeats 1000000 in
set_option maxRecDepth 100000 in
theorem c_L_beginMending {l : Launch} (hst : l.stackTraces = false) (D : va_G) (cy cJ : ClassId) (A : Nat → Prop) (a : Nat → Nat) (σ kept : Nat → Int32) (nxt cnt : Nat) (T : Nat → Int32) (len pos : Nat) (ph le nu va : Int32) (Z : va_W) (o : Nat) (out : Nat → Int64) (x : Int32) (h_0 : Val σ) (h_1 : nxt < 6) (h_2 : cnt ≤ 6) : vx_Met l yL_beginMending wsL_beginMending ({ frames := 7, cells := 1, slots := 6, locals := 103 } : Room) (gW D cy cJ [.ref (a 0), .int (x), .ref o] A (wX cy a σ kept nxt cnt T len pos ph le nu va ++ ((o, .inl (cJ, 1, .inr (.inl out))) :: Z))) (gE D A (fun v9 w9 => v9 = some (.int (nI (cBg σ x))) ∧ ((cBg σ x = 0 ∧ w9 = (wX cy a (begS σ (ix x)) (cpK kept σ (nxt * 86) 86) ((nxt + 1) % 6) (min (cnt + 1) 6) T len pos ph le nu va ++ ((o, .inl (cJ, 1, .inr (.inl (vp_updL out 0 (begS σ (ix x) 84).toInt64)))) :: Z))) ∨ (cBg σ x ≠ 0 ∧ w9 = (wX cy a σ kept nxt cnt T len pos ph le nu va ++ ((o, .inl (cJ, 1, .inr (.inl out))) :: Z)))))) (fun _ _ _ => False) 1 6 A := by
  refine q_wmp (cc := cL_beginMending) (maxL := 4) (ret := some .int) (hh := [(0, 9, 12, 13), (0, 9, 15, 15)]) pl_L rfl (Nat.le_of_ble_eq_true rfl) ?_
  intro p e s m below meth c ls hx hb hr hml hts hown hlocks hw hK hA hl hexc hN hJ hC
  have hl : lv_has ls 4 [(0, .ref (a 0)), (1, .int (x)), (2, .ref o)] := hl
  refine lv_aload_n hx hb dL_beginMending_0 rfl (lv_at hl 2 rfl) ?_
  refine lv_iconst (v := nI 0) hx hb dL_beginMending_1 rfl ?_
  refine lv_aload_n hx hb dL_beginMending_2 rfl (lv_at hl 0 rfl) ?_
  refine lv_iload_n hx hb dL_beginMending_3 rfl (lv_at hl 1 rfl) ?_
  refine q_xV (As := [.int (x)]) (rest := [.int (nI 0), .ref o]) ⟨hx, hb, hml, hown, hts⟩ (c_X6_beginMending hst D cy A a σ kept nxt cnt T len pos ph le nu va ((o, .inl (cJ, 1, .inr (.inl out))) :: Z)  x h_0 h_1 h_2) (cwV 1 hts gL_beginMending_X6_beginMending rfl rfl rfl hd_X6_beginMending ⟨Nat.le_of_ble_eq_true rfl, Nat.le_of_ble_eq_true rfl⟩) hK hA hN hw 0 rfl rfl rfl hl.1 rfl rfl (Nat.le_of_ble_eq_true rfl) ⟨Nat.le_refl _, Nat.le_refl _⟩ dL_beginMending_4 (fun H locs q9 ce hc0 hw hce hcv hcl => ?_) (fun H locs hc0 hw => ?_)
  · skip
    have hle : cBg σ x ≤ 2 := cBg_le _ _
    rcases (show cBg σ x = 1 ∨ cBg σ x = 2 by omega) with hk | hk
    · skip
      have hcl : s.vm.findClass eI = some ce.cls := by first | (rw [hk] at hcl; exact hcl) | exact hcl
      refine vx_catch (own := RL) (name := eI) hown [] ⟨0, 9, 12, 13⟩ [⟨0, 9, 15, 15⟩] (by rw [hexc]; rfl) (fun z hz => absurd hz List.not_mem_nil) (by decide) (by decide) (hts (.classLink RL 13 "java/lang/IndexOutOfBoundsException") (List.mem_of_getElem? (i := 1) rfl)) (va_Nw.use rfl (hN.2.2.1 (.castable eI eI) (by decide))) hce hcv hcl ?_
      refine lv_astore_n (lv' := [(3, .ref q9), (0, .ref (a 0)), (1, .int (x)), (2, .ref o)]) hx hb dL_beginMending_12 rfl hl (by decide) rfl (fun ls hl => ?_)
      refine lv_iconst (v := nI 1) hx hb dL_beginMending_13 rfl ?_
      exact vx_ret (q_iretE hx hb hr hlocks hw dL_beginMending_14 ⟨by rw [hk], Or.inr ⟨hc0, rfl⟩⟩)
    · skip
      have hcl : s.vm.findClass eS = some ce.cls := by first | (rw [hk] at hcl; exact hcl) | exact hcl
      refine vx_catch (own := RL) (name := eS) hown [⟨0, 9, 12, 13⟩] ⟨0, 9, 15, 15⟩ [] (by rw [hexc]; rfl) (List.forall_mem_cons.mpr ⟨Or.inr ⟨by decide, eI, hts (.classLink RL 13 "java/lang/IndexOutOfBoundsException") (List.mem_of_getElem? (i := 1) rfl), hC.1⟩, fun z hz => absurd hz List.not_mem_nil⟩) (by decide) (by decide) (hts (.classLink RL 15 "java/lang/IllegalStateException") (List.mem_of_getElem? (i := 2) rfl)) (va_Nw.use rfl (hN.2.2.1 (.castable eS eS) (by decide))) hce hcv hcl ?_
      refine lv_astore_n (lv' := [(3, .ref q9), (0, .ref (a 0)), (1, .int (x)), (2, .ref o)]) hx hb dL_beginMending_15 rfl hl (by decide) rfl (fun ls hl => ?_)
      refine lv_iconst (v := nI 2) hx hb dL_beginMending_16 rfl ?_
      exact vx_ret (q_iretE hx hb hr hlocks hw dL_beginMending_17 ⟨by rw [hk], Or.inr ⟨hc0, rfl⟩⟩)
  · skip
    refine lv_i2l hx hb dL_beginMending_7 rfl ?_
    refine va_last hx hb hJ hw.1 hw.2.1 hw.2.2 18 0 rfl rfl (i := nI 0) (vp_in_nI (by decide) (by decide)) dL_beginMending_8 (fun H locs hP hD hS => ?_)
    rw [nI_clamp (show 0 < 2 ^ 31 by decide)] at hP hD
    refine lv_goto (tgt := 18) hx hb dL_beginMending_9 (by decide) ?_
    refine lv_iconst (v := nI 0) hx hb dL_beginMending_18 rfl ?_
    exact vx_ret (q_iretE (w := _) hx hb hr hlocks ⟨hP, hD, hS⟩ dL_beginMending_19 ⟨by rw [hc0], Or.inl ⟨hc0, rfl⟩⟩)
set_option maxHeartbeats 1000000 in
set_option maxRecDepth 100000 in
theorem c_L_mend {l : Launch} (hst : l.stackTraces = false) (D : va_G) (cy cJ : ClassId) (A : Nat → Prop) (a : Nat → Nat) (σ kept : Nat → Int32) (nxt cnt : Nat) (T : Nat → Int32) (len pos : Nat) (ph le nu va : Int32) (Z : va_W) (o : Nat) (out : Nat → Int64) (x : Int32) (h_0 : Val σ) (h_1 : nxt < 6) (h_2 : cnt ≤ 6) : vx_Met l yL_mend wsL_mend ({ frames := 7, cells := 1, slots := 6, locals := 132 } : Room) (gW D cy cJ [.ref (a 0), .int (x), .ref o] A (wX cy a σ kept nxt cnt T len pos ph le nu va ++ ((o, .inl (cJ, 1, .inr (.inl out))) :: Z))) (gE D A (fun v9 w9 => v9 = some (.int (nI (cMe x))) ∧ ((cMe x = 0 ∧ w9 = (wX cy a ((mnS (ix x) σ).1) (cpK kept σ (nxt * 86) 86) ((nxt + 1) % 6) (min (cnt + 1) 6) T len pos ph le nu va ++ ((o, .inl (cJ, 1, .inr (.inl (vp_updL out 0 (nI ((mnS (ix x) σ).2)).toInt64)))) :: Z))) ∨ (cMe x ≠ 0 ∧ w9 = (wX cy a σ kept nxt cnt T len pos ph le nu va ++ ((o, .inl (cJ, 1, .inr (.inl out))) :: Z)))))) (fun _ _ _ => False) 1 6 A := by
  refine q_wmp (cc := cL_mend) (maxL := 4) (ret := some .int) (hh := [(0, 9, 12, 21)]) pl_L rfl (Nat.le_of_ble_eq_true rfl) ?_
  intro p e s m below meth c ls hx hb hr hml hts hown hlocks hw hK hA hl hexc hN hJ hC
  have hl : lv_has ls 4 [(0, .ref (a 0)), (1, .int (x)), (2, .ref o)] := hl
  refine lv_aload_n hx hb dL_mend_0 rfl (lv_at hl 2 rfl) ?_
  refine lv_iconst (v := nI 0) hx hb dL_mend_1 rfl ?_
  refine lv_aload_n hx hb dL_mend_2 rfl (lv_at hl 0 rfl) ?_
  refine lv_iload_n hx hb dL_mend_3 rfl (lv_at hl 1 rfl) ?_
  refine q_xV (As := [.int (x)]) (rest := [.int (nI 0), .ref o]) ⟨hx, hb, hml, hown, hts⟩ (c_X6_mend hst D cy A a σ kept nxt cnt T len pos ph le nu va ((o, .inl (cJ, 1, .inr (.inl out))) :: Z)  x h_0 h_1 h_2) (cwV 1 hts gL_mend_X6_mend rfl rfl rfl hd_X6_mend ⟨Nat.le_of_ble_eq_true rfl, Nat.le_of_ble_eq_true rfl⟩) hK hA hN hw 0 rfl rfl rfl hl.1 rfl rfl (Nat.le_of_ble_eq_true rfl) ⟨Nat.le_refl _, Nat.le_refl _⟩ dL_mend_4 (fun H locs q9 ce hc0 hw hce hcv hcl => ?_) (fun H locs hc0 hw => ?_)
  · skip
    have hle : cMe x ≤ 1 := cMe_le _
    have hk : cMe x = 1 := by omega
    have hcl : s.vm.findClass eA = some ce.cls := by first | (rw [hk] at hcl; exact hcl) | exact hcl
    refine vx_catch (own := RL) (name := eA) hown [] ⟨0, 9, 12, 21⟩ [] (by rw [hexc]; rfl) (fun z hz => absurd hz List.not_mem_nil) (by decide) (by decide) (hts (.classLink RL 21 "java/lang/IllegalArgumentException") (List.mem_of_getElem? (i := 1) rfl)) (va_Nw.use rfl (hN.2.2.1 (.castable eA eA) (by decide))) hce hcv hcl ?_
    refine lv_astore_n (lv' := [(3, .ref q9), (0, .ref (a 0)), (1, .int (x)), (2, .ref o)]) hx hb dL_mend_12 rfl hl (by decide) rfl (fun ls hl => ?_)
    refine lv_iconst (v := nI 1) hx hb dL_mend_13 rfl ?_
    exact vx_ret (q_iretE hx hb hr hlocks hw dL_mend_14 ⟨by rw [hk], Or.inr ⟨hc0, rfl⟩⟩)
  · skip
    refine lv_i2l hx hb dL_mend_7 rfl ?_
    refine va_last hx hb hJ hw.1 hw.2.1 hw.2.2 18 0 rfl rfl (i := nI 0) (vp_in_nI (by decide) (by decide)) dL_mend_8 (fun H locs hP hD hS => ?_)
    rw [nI_clamp (show 0 < 2 ^ 31 by decide)] at hP hD
    refine lv_goto (tgt := 15) hx hb dL_mend_9 (by decide) ?_
    refine lv_iconst (v := nI 0) hx hb dL_mend_15 rfl ?_
    exact vx_ret (q_iretE (w := _) hx hb hr hlocks ⟨hP, hD, hS⟩ dL_mend_16 ⟨by rw [hc0], Or.inl ⟨hc0, rfl⟩⟩)
set_option maxHeartbeats 1000000 in
set_option maxRecDepth 100000 in
theorem c_L_addSpare {l : Launch} (hst : l.stackTraces = false) (D : va_G) (cy cJ : ClassId) (A : Nat → Prop) (a : Nat → Nat) (σ kept : Nat → Int32) (nxt cnt : Nat) (T : Nat → Int32) (len pos : Nat) (ph le nu va : Int32) (Z : va_W) (o : Nat) (out : Nat → Int64) (h_0 : Val σ) (h_1 : nxt < 6) (h_2 : cnt ≤ 6) : vx_Met l yL_addSpare wsL_addSpare ({ frames := 7, cells := 1, slots := 6, locals := 102 } : Room) (gW D cy cJ [.ref (a 0), .ref o] A (wX cy a σ kept nxt cnt T len pos ph le nu va ++ ((o, .inl (cJ, 1, .inr (.inl out))) :: Z))) (gE D A (fun v9 w9 => v9 = some (.int (nI (cAs σ))) ∧ ((cAs σ = 0 ∧ w9 = (wX cy a (upd σ 84 (σ 84 + 1)) (cpK kept σ (nxt * 86) 86) ((nxt + 1) % 6) (min (cnt + 1) 6) T len pos ph le nu va ++ ((o, .inl (cJ, 1, .inr (.inl (vp_updL out 0 (σ 84 + 1).toInt64)))) :: Z))) ∨ (cAs σ ≠ 0 ∧ w9 = (wX cy a σ kept nxt cnt T len pos ph le nu va ++ ((o, .inl (cJ, 1, .inr (.inl out))) :: Z)))))) (fun _ _ _ => False) 1 6 A := by
  refine q_wmp (cc := cL_addSpare) (maxL := 3) (ret := some .int) (hh := [(0, 8, 11, 15)]) pl_L rfl (Nat.le_of_ble_eq_true rfl) ?_
  intro p e s m below meth c ls hx hb hr hml hts hown hlocks hw hK hA hl hexc hN hJ hC
  have hl : lv_has ls 3 [(0, .ref (a 0)), (1, .ref o)] := hl
  refine lv_aload_n hx hb dL_addSpare_0 rfl (lv_at hl 1 rfl) ?_
  refine lv_iconst (v := nI 0) hx hb dL_addSpare_1 rfl ?_
  refine lv_aload_n hx hb dL_addSpare_2 rfl (lv_at hl 0 rfl) ?_
  refine q_xV (As := []) (rest := [.int (nI 0), .ref o]) ⟨hx, hb, hml, hown, hts⟩ (c_X6_addSpare hst D cy A a σ kept nxt cnt T len pos ph le nu va ((o, .inl (cJ, 1, .inr (.inl out))) :: Z)   h_0 h_1 h_2) (cwV 0 hts gL_addSpare_X6_addSpare rfl rfl rfl hd_X6_addSpare ⟨Nat.le_of_ble_eq_true rfl, Nat.le_of_ble_eq_true rfl⟩) hK hA hN hw 0 rfl rfl rfl hl.1 rfl rfl (Nat.le_of_ble_eq_true rfl) ⟨Nat.le_refl _, Nat.le_refl _⟩ dL_addSpare_3 (fun H locs q9 ce hc0 hw hce hcv hcl => ?_) (fun H locs hc0 hw => ?_)
  · skip
    have hle : cAs σ ≤ 1 := cAs_le _
    have hk : cAs σ = 1 := by omega
    have hcl : s.vm.findClass eS = some ce.cls := by first | (rw [hk] at hcl; exact hcl) | exact hcl
    refine vx_catch (own := RL) (name := eS) hown [] ⟨0, 8, 11, 15⟩ [] (by rw [hexc]; rfl) (fun z hz => absurd hz List.not_mem_nil) (by decide) (by decide) (hts (.classLink RL 15 "java/lang/IllegalStateException") (List.mem_of_getElem? (i := 1) rfl)) (va_Nw.use rfl (hN.2.2.1 (.castable eS eS) (by decide))) hce hcv hcl ?_
    refine lv_astore_n (lv' := [(2, .ref q9), (0, .ref (a 0)), (1, .ref o)]) hx hb dL_addSpare_11 rfl hl (by decide) rfl (fun ls hl => ?_)
    refine lv_iconst (v := nI 1) hx hb dL_addSpare_12 rfl ?_
    exact vx_ret (q_iretE hx hb hr hlocks hw dL_addSpare_13 ⟨by rw [hk], Or.inr ⟨hc0, rfl⟩⟩)
  · skip
    refine lv_i2l hx hb dL_addSpare_6 rfl ?_
    refine va_last hx hb hJ hw.1 hw.2.1 hw.2.2 18 0 rfl rfl (i := nI 0) (vp_in_nI (by decide) (by decide)) dL_addSpare_7 (fun H locs hP hD hS => ?_)
    rw [nI_clamp (show 0 < 2 ^ 31 by decide)] at hP hD
    refine lv_goto (tgt := 14) hx hb dL_addSpare_8 (by decide) ?_
    refine lv_iconst (v := nI 0) hx hb dL_addSpare_14 rfl ?_
    exact vx_ret (q_iretE (w := _) hx hb hr hlocks ⟨hP, hD, hS⟩ dL_addSpare_15 ⟨by rw [hc0], Or.inl ⟨hc0, rfl⟩⟩)
set_option maxHeartbeats 1000000 in
set_option maxRecDepth 100000 in
theorem c_L_corrupt {l : Launch} (hst : l.stackTraces = false) (D : va_G) (cy cJ : ClassId) (A : Nat → Prop) (a : Nat → Nat) (σ kept : Nat → Int32) (nxt cnt : Nat) (T : Nat → Int32) (len pos : Nat) (ph le nu va : Int32) (Z : va_W) (o : Nat) (out : Nat → Int64) (d : Int32) (q : Int32) (v : Int32) (h_0 : nxt < 6) (h_1 : cnt ≤ 6) : vx_Met l yL_corrupt wsL_corrupt ({ frames := 7, cells := 1, slots := 6, locals := 107 } : Room) (gW D cy cJ [.ref (a 0), .int (d), .int (q), .int (v), .ref o] A (wX cy a σ kept nxt cnt T len pos ph le nu va ++ ((o, .inl (cJ, 1, .inr (.inl out))) :: Z))) (gE D A (fun v9 w9 => v9 = some (.int (nI (cCo σ d q v))) ∧ ((cCo σ d q v = 0 ∧ w9 = (wX cy a (upd σ (9 * ix d + ix q) v) (cpK kept σ (nxt * 86) 86) ((nxt + 1) % 6) (min (cnt + 1) 6) T len pos ph le nu va ++ ((o, .inl (cJ, 1, .inr (.inl (vp_updL out 0 (σ (9 * ix d + ix q)).toInt64)))) :: Z))) ∨ (cCo σ d q v ≠ 0 ∧ w9 = (wX cy a σ kept nxt cnt T len pos ph le nu va ++ ((o, .inl (cJ, 1, .inr (.inl out))) :: Z)))))) (fun _ _ _ => False) 1 6 A := by
  refine q_wmp (cc := cL_corrupt) (maxL := 6) (ret := some .int) (hh := [(0, 12, 15, 13), (0, 12, 19, 21), (0, 12, 23, 15)]) pl_L rfl (Nat.le_of_ble_eq_true rfl) ?_
  intro p e s m below meth c ls hx hb hr hml hts hown hlocks hw hK hA hl hexc hN hJ hC
  have hl : lv_has ls 6 [(0, .ref (a 0)), (1, .int (d)), (2, .int (q)), (3, .int (v)), (4, .ref o)] := hl
  refine lv_aload hx hb dL_corrupt_0 (lv_at hl 4 rfl) ?_
  refine lv_iconst (v := nI 0) hx hb dL_corrupt_2 rfl ?_
  refine lv_aload_n hx hb dL_corrupt_3 rfl (lv_at hl 0 rfl) ?_
  refine lv_iload_n hx hb dL_corrupt_4 rfl (lv_at hl 1 rfl) ?_
  refine lv_iload_n hx hb dL_corrupt_5 rfl (lv_at hl 2 rfl) ?_
  refine lv_iload_n hx hb dL_corrupt_6 rfl (lv_at hl 3 rfl) ?_
  refine q_xV (As := [.int (d), .int (q), .int (v)]) (rest := [.int (nI 0), .ref o]) ⟨hx, hb, hml, hown, hts⟩ (c_X6_corrupt hst D cy A a σ kept nxt cnt T len pos ph le nu va ((o, .inl (cJ, 1, .inr (.inl out))) :: Z)  d q v h_0 h_1) (cwV 3 hts gL_corrupt_X6_corrupt rfl rfl rfl hd_X6_corrupt ⟨Nat.le_of_ble_eq_true rfl, Nat.le_of_ble_eq_true rfl⟩) hK hA hN hw 0 rfl rfl rfl hl.1 rfl rfl (Nat.le_of_ble_eq_true rfl) ⟨Nat.le_refl _, Nat.le_refl _⟩ dL_corrupt_7 (fun H locs q9 ce hc0 hw hce hcv hcl => ?_) (fun H locs hc0 hw => ?_)
  · skip
    have hle : cCo σ d q v ≤ 3 := cCo_le _ _ _ _
    rcases (show cCo σ d q v = 1 ∨ cCo σ d q v = 2 ∨ cCo σ d q v = 3 by omega) with hk | hk | hk
    · skip
      have hcl : s.vm.findClass eI = some ce.cls := by first | (rw [hk] at hcl; exact hcl) | exact hcl
      refine vx_catch (own := RL) (name := eI) hown [] ⟨0, 12, 15, 13⟩ [⟨0, 12, 19, 21⟩, ⟨0, 12, 23, 15⟩] (by rw [hexc]; rfl) (fun z hz => absurd hz List.not_mem_nil) (by decide) (by decide) (hts (.classLink RL 13 "java/lang/IndexOutOfBoundsException") (List.mem_of_getElem? (i := 1) rfl)) (va_Nw.use rfl (hN.2.2.1 (.castable eI eI) (by decide))) hce hcv hcl ?_
      refine lv_astore (lv' := [(5, .ref q9), (0, .ref (a 0)), (1, .int (d)), (2, .int (q)), (3, .int (v)), (4, .ref o)]) hx hb dL_corrupt_15 hl (by decide) rfl (fun ls hl => ?_)
      refine lv_iconst (v := nI 1) hx hb dL_corrupt_17 rfl ?_
      exact vx_ret (q_iretE hx hb hr hlocks hw dL_corrupt_18 ⟨by rw [hk], Or.inr ⟨hc0, rfl⟩⟩)
    · skip
      have hcl : s.vm.findClass eA = some ce.cls := by first | (rw [hk] at hcl; exact hcl) | exact hcl
      refine vx_catch (own := RL) (name := eA) hown [⟨0, 12, 15, 13⟩] ⟨0, 12, 19, 21⟩ [⟨0, 12, 23, 15⟩] (by rw [hexc]; rfl) (List.forall_mem_cons.mpr ⟨Or.inr ⟨by decide, eI, hts (.classLink RL 13 "java/lang/IndexOutOfBoundsException") (List.mem_of_getElem? (i := 1) rfl), hC.2.1⟩, fun z hz => absurd hz List.not_mem_nil⟩) (by decide) (by decide) (hts (.classLink RL 21 "java/lang/IllegalArgumentException") (List.mem_of_getElem? (i := 2) rfl)) (va_Nw.use rfl (hN.2.2.1 (.castable eA eA) (by decide))) hce hcv hcl ?_
      refine lv_astore (lv' := [(5, .ref q9), (0, .ref (a 0)), (1, .int (d)), (2, .int (q)), (3, .int (v)), (4, .ref o)]) hx hb dL_corrupt_19 hl (by decide) rfl (fun ls hl => ?_)
      refine lv_iconst (v := nI 2) hx hb dL_corrupt_21 rfl ?_
      exact vx_ret (q_iretE hx hb hr hlocks hw dL_corrupt_22 ⟨by rw [hk], Or.inr ⟨hc0, rfl⟩⟩)
    · skip
      have hcl : s.vm.findClass eS = some ce.cls := by first | (rw [hk] at hcl; exact hcl) | exact hcl
      refine vx_catch (own := RL) (name := eS) hown [⟨0, 12, 15, 13⟩, ⟨0, 12, 19, 21⟩] ⟨0, 12, 23, 15⟩ [] (by rw [hexc]; rfl) (List.forall_mem_cons.mpr ⟨Or.inr ⟨by decide, eI, hts (.classLink RL 13 "java/lang/IndexOutOfBoundsException") (List.mem_of_getElem? (i := 1) rfl), hC.1⟩, List.forall_mem_cons.mpr ⟨Or.inr ⟨by decide, eA, hts (.classLink RL 21 "java/lang/IllegalArgumentException") (List.mem_of_getElem? (i := 2) rfl), hC.2.2⟩, fun z hz => absurd hz List.not_mem_nil⟩⟩) (by decide) (by decide) (hts (.classLink RL 15 "java/lang/IllegalStateException") (List.mem_of_getElem? (i := 3) rfl)) (va_Nw.use rfl (hN.2.2.1 (.castable eS eS) (by decide))) hce hcv hcl ?_
      refine lv_astore (lv' := [(5, .ref q9), (0, .ref (a 0)), (1, .int (d)), (2, .int (q)), (3, .int (v)), (4, .ref o)]) hx hb dL_corrupt_23 hl (by decide) rfl (fun ls hl => ?_)
      refine lv_iconst (v := nI 3) hx hb dL_corrupt_25 rfl ?_
      exact vx_ret (q_iretE hx hb hr hlocks hw dL_corrupt_26 ⟨by rw [hk], Or.inr ⟨hc0, rfl⟩⟩)
  · skip
    refine lv_i2l hx hb dL_corrupt_10 rfl ?_
    refine va_last hx hb hJ hw.1 hw.2.1 hw.2.2 18 0 rfl rfl (i := nI 0) (vp_in_nI (by decide) (by decide)) dL_corrupt_11 (fun H locs hP hD hS => ?_)
    rw [nI_clamp (show 0 < 2 ^ 31 by decide)] at hP hD
    refine lv_goto (tgt := 27) hx hb dL_corrupt_12 (by decide) ?_
    refine lv_iconst (v := nI 0) hx hb dL_corrupt_27 rfl ?_
    exact vx_ret (q_iretE (w := _) hx hb hr hlocks ⟨hP, hD, hS⟩ dL_corrupt_28 ⟨by rw [hc0], Or.inl ⟨hc0, rfl⟩⟩)
set_option maxHeartbeats 1000000 in
set_option maxRecDepth 100000 in
theorem c_L_state {l : Launch} (hst : l.stackTraces = false) (D : va_G) (cy cJ : ClassId) (A : Nat → Prop) (a : Nat → Nat) (σ kept : Nat → Int32) (nxt cnt : Nat) (T : Nat → Int32) (len pos : Nat) (ph le nu va : Int32) (Z : va_W) (o : Nat) (out : Nat → Int64) (x : Int32) : vx_Met l yL_state wsL_state ({ frames := 7, cells := 1, slots := 6, locals := 103 } : Room) (gW D cy cJ [.ref (a 0), .int (x), .ref o] A (wX cy a σ kept nxt cnt T len pos ph le nu va ++ ((o, .inl (cJ, 1, .inr (.inl out))) :: Z))) (gE D A (fun v9 w9 => v9 = some (.int (nI (c1 x 7))) ∧ ((c1 x 7 = 0 ∧ w9 = (wX cy a σ kept nxt cnt T len pos ph le nu va ++ ((o, .inl (cJ, 1, .inr (.inl (vp_updL out 0 (σ (63 + ix x)).toInt64)))) :: Z))) ∨ (c1 x 7 ≠ 0 ∧ w9 = (wX cy a σ kept nxt cnt T len pos ph le nu va ++ ((o, .inl (cJ, 1, .inr (.inl out))) :: Z)))))) (fun _ _ _ => False) 1 6 A := by
  refine q_wmp (cc := cL_state) (maxL := 4) (ret := some .int) (hh := [(0, 9, 12, 13)]) pl_L rfl (Nat.le_of_ble_eq_true rfl) ?_
  intro p e s m below meth c ls hx hb hr hml hts hown hlocks hw hK hA hl hexc hN hJ hC
  have hl : lv_has ls 4 [(0, .ref (a 0)), (1, .int (x)), (2, .ref o)] := hl
  refine lv_aload_n hx hb dL_state_0 rfl (lv_at hl 2 rfl) ?_
  refine lv_iconst (v := nI 0) hx hb dL_state_1 rfl ?_
  refine lv_aload_n hx hb dL_state_2 rfl (lv_at hl 0 rfl) ?_
  refine lv_iload_n hx hb dL_state_3 rfl (lv_at hl 1 rfl) ?_
  refine q_xV (As := [.int (x)]) (rest := [.int (nI 0), .ref o]) ⟨hx, hb, hml, hown, hts⟩ (c_X6_state hst D cy A a σ kept nxt cnt T len pos ph le nu va ((o, .inl (cJ, 1, .inr (.inl out))) :: Z)  x ) (cwV 1 hts gL_state_X6_state rfl rfl rfl hd_X6_state ⟨Nat.le_of_ble_eq_true rfl, Nat.le_of_ble_eq_true rfl⟩) hK hA hN hw 0 rfl rfl rfl hl.1 rfl rfl (Nat.le_of_ble_eq_true rfl) ⟨Nat.le_refl _, Nat.le_refl _⟩ dL_state_4 (fun H locs q9 ce hc0 hw hce hcv hcl => ?_) (fun H locs hc0 hw => ?_)
  · skip
    have hle : c1 x 7 ≤ 1 := c1_le _ _
    have hk : c1 x 7 = 1 := by omega
    have hcl : s.vm.findClass eI = some ce.cls := by first | (rw [hk] at hcl; exact hcl) | exact hcl
    refine vx_catch (own := RL) (name := eI) hown [] ⟨0, 9, 12, 13⟩ [] (by rw [hexc]; rfl) (fun z hz => absurd hz List.not_mem_nil) (by decide) (by decide) (hts (.classLink RL 13 "java/lang/IndexOutOfBoundsException") (List.mem_of_getElem? (i := 1) rfl)) (va_Nw.use rfl (hN.2.2.1 (.castable eI eI) (by decide))) hce hcv hcl ?_
    refine lv_astore_n (lv' := [(3, .ref q9), (0, .ref (a 0)), (1, .int (x)), (2, .ref o)]) hx hb dL_state_12 rfl hl (by decide) rfl (fun ls hl => ?_)
    refine lv_iconst (v := nI 1) hx hb dL_state_13 rfl ?_
    exact vx_ret (q_iretE hx hb hr hlocks hw dL_state_14 ⟨by rw [hk], Or.inr ⟨hc0, rfl⟩⟩)
  · skip
    refine lv_i2l hx hb dL_state_7 rfl ?_
    refine va_last hx hb hJ hw.1 hw.2.1 hw.2.2 18 0 rfl rfl (i := nI 0) (vp_in_nI (by decide) (by decide)) dL_state_8 (fun H locs hP hD hS => ?_)
    rw [nI_clamp (show 0 < 2 ^ 31 by decide)] at hP hD
    refine lv_goto (tgt := 15) hx hb dL_state_9 (by decide) ?_
    refine lv_iconst (v := nI 0) hx hb dL_state_15 rfl ?_
    exact vx_ret (q_iretE (w := _) hx hb hr hlocks ⟨hP, hD, hS⟩ dL_state_16 ⟨by rw [hc0], Or.inl ⟨hc0, rfl⟩⟩)
set_option maxHeartbeats 1000000 in
set_option maxRecDepth 100000 in
theorem c_L_member {l : Launch} (hst : l.stackTraces = false) (D : va_G) (cy cJ : ClassId) (A : Nat → Prop) (a : Nat → Nat) (σ kept : Nat → Int32) (nxt cnt : Nat) (T : Nat → Int32) (len pos : Nat) (ph le nu va : Int32) (Z : va_W) (o : Nat) (out : Nat → Int64) (x : Int32) (y : Int32) : vx_Met l yL_member wsL_member ({ frames := 7, cells := 1, slots := 6, locals := 104 } : Room) (gW D cy cJ [.ref (a 0), .int (x), .int (y), .ref o] A (wX cy a σ kept nxt cnt T len pos ph le nu va ++ ((o, .inl (cJ, 1, .inr (.inl out))) :: Z))) (gE D A (fun v9 w9 => v9 = some (.int (nI (c2 x 21 y 3))) ∧ ((c2 x 21 y 3 = 0 ∧ w9 = (wX cy a σ kept nxt cnt T len pos ph le nu va ++ ((o, .inl (cJ, 1, .inr (.inl (vp_updL out 0 (nI (mem (ix x) (ix y))).toInt64)))) :: Z))) ∨ (c2 x 21 y 3 ≠ 0 ∧ w9 = (wX cy a σ kept nxt cnt T len pos ph le nu va ++ ((o, .inl (cJ, 1, .inr (.inl out))) :: Z)))))) (fun _ _ _ => False) 1 6 A := by
  refine q_wmp (cc := cL_member) (maxL := 5) (ret := some .int) (hh := [(0, 10, 13, 13)]) pl_L rfl (Nat.le_of_ble_eq_true rfl) ?_
  intro p e s m below meth c ls hx hb hr hml hts hown hlocks hw hK hA hl hexc hN hJ hC
  have hl : lv_has ls 5 [(0, .ref (a 0)), (1, .int (x)), (2, .int (y)), (3, .ref o)] := hl
  refine lv_aload_n hx hb dL_member_0 rfl (lv_at hl 3 rfl) ?_
  refine lv_iconst (v := nI 0) hx hb dL_member_1 rfl ?_
  refine lv_aload_n hx hb dL_member_2 rfl (lv_at hl 0 rfl) ?_
  refine lv_iload_n hx hb dL_member_3 rfl (lv_at hl 1 rfl) ?_
  refine lv_iload_n hx hb dL_member_4 rfl (lv_at hl 2 rfl) ?_
  refine q_xV (As := [.int (x), .int (y)]) (rest := [.int (nI 0), .ref o]) ⟨hx, hb, hml, hown, hts⟩ (c_X6_member hst D cy A a σ kept nxt cnt T len pos ph le nu va ((o, .inl (cJ, 1, .inr (.inl out))) :: Z)  x y ) (cwV 2 hts gL_member_X6_member rfl rfl rfl hd_X6_member ⟨Nat.le_of_ble_eq_true rfl, Nat.le_of_ble_eq_true rfl⟩) hK hA hN hw 0 rfl rfl rfl hl.1 rfl rfl (Nat.le_of_ble_eq_true rfl) ⟨Nat.le_refl _, Nat.le_refl _⟩ dL_member_5 (fun H locs q9 ce hc0 hw hce hcv hcl => ?_) (fun H locs hc0 hw => ?_)
  · skip
    have hle : c2 x 21 y 3 ≤ 1 := c2_le _ _ _ _
    have hk : c2 x 21 y 3 = 1 := by omega
    have hcl : s.vm.findClass eI = some ce.cls := by first | (rw [hk] at hcl; exact hcl) | exact hcl
    refine vx_catch (own := RL) (name := eI) hown [] ⟨0, 10, 13, 13⟩ [] (by rw [hexc]; rfl) (fun z hz => absurd hz List.not_mem_nil) (by decide) (by decide) (hts (.classLink RL 13 "java/lang/IndexOutOfBoundsException") (List.mem_of_getElem? (i := 1) rfl)) (va_Nw.use rfl (hN.2.2.1 (.castable eI eI) (by decide))) hce hcv hcl ?_
    refine lv_astore (lv' := [(4, .ref q9), (0, .ref (a 0)), (1, .int (x)), (2, .int (y)), (3, .ref o)]) hx hb dL_member_13 hl (by decide) rfl (fun ls hl => ?_)
    refine lv_iconst (v := nI 1) hx hb dL_member_15 rfl ?_
    exact vx_ret (q_iretE hx hb hr hlocks hw dL_member_16 ⟨by rw [hk], Or.inr ⟨hc0, rfl⟩⟩)
  · skip
    refine lv_i2l hx hb dL_member_8 rfl ?_
    refine va_last hx hb hJ hw.1 hw.2.1 hw.2.2 18 0 rfl rfl (i := nI 0) (vp_in_nI (by decide) (by decide)) dL_member_9 (fun H locs hP hD hS => ?_)
    rw [nI_clamp (show 0 < 2 ^ 31 by decide)] at hP hD
    refine lv_goto (tgt := 17) hx hb dL_member_10 (by decide) ?_
    refine lv_iconst (v := nI 0) hx hb dL_member_17 rfl ?_
    exact vx_ret (q_iretE (w := _) hx hb hr hlocks ⟨hP, hD, hS⟩ dL_member_18 ⟨by rw [hc0], Or.inl ⟨hc0, rfl⟩⟩)
set_option maxHeartbeats 1000000 in
set_option maxRecDepth 100000 in
theorem c_L_stripeAt {l : Launch} (hst : l.stackTraces = false) (D : va_G) (cy cJ : ClassId) (A : Nat → Prop) (a : Nat → Nat) (σ kept : Nat → Int32) (nxt cnt : Nat) (T : Nat → Int32) (len pos : Nat) (ph le nu va : Int32) (Z : va_W) (o : Nat) (out : Nat → Int64) (x : Int32) (y : Int32) : vx_Met l yL_stripeAt wsL_stripeAt ({ frames := 7, cells := 1, slots := 6, locals := 104 } : Room) (gW D cy cJ [.ref (a 0), .int (x), .int (y), .ref o] A (wX cy a σ kept nxt cnt T len pos ph le nu va ++ ((o, .inl (cJ, 1, .inr (.inl out))) :: Z))) (gE D A (fun v9 w9 => v9 = some (.int (nI (c2 x 7 y 9))) ∧ ((c2 x 7 y 9 = 0 ∧ w9 = (wX cy a σ kept nxt cnt T len pos ph le nu va ++ ((o, .inl (cJ, 1, .inr (.inl (vp_updL out 0 (nI (stT (9 * ix x + ix y))).toInt64)))) :: Z))) ∨ (c2 x 7 y 9 ≠ 0 ∧ w9 = (wX cy a σ kept nxt cnt T len pos ph le nu va ++ ((o, .inl (cJ, 1, .inr (.inl out))) :: Z)))))) (fun _ _ _ => False) 1 6 A := by
  refine q_wmp (cc := cL_stripeAt) (maxL := 5) (ret := some .int) (hh := [(0, 10, 13, 13)]) pl_L rfl (Nat.le_of_ble_eq_true rfl) ?_
  intro p e s m below meth c ls hx hb hr hml hts hown hlocks hw hK hA hl hexc hN hJ hC
  have hl : lv_has ls 5 [(0, .ref (a 0)), (1, .int (x)), (2, .int (y)), (3, .ref o)] := hl
  refine lv_aload_n hx hb dL_stripeAt_0 rfl (lv_at hl 3 rfl) ?_
  refine lv_iconst (v := nI 0) hx hb dL_stripeAt_1 rfl ?_
  refine lv_aload_n hx hb dL_stripeAt_2 rfl (lv_at hl 0 rfl) ?_
  refine lv_iload_n hx hb dL_stripeAt_3 rfl (lv_at hl 1 rfl) ?_
  refine lv_iload_n hx hb dL_stripeAt_4 rfl (lv_at hl 2 rfl) ?_
  refine q_xV (As := [.int (x), .int (y)]) (rest := [.int (nI 0), .ref o]) ⟨hx, hb, hml, hown, hts⟩ (c_X6_stripeAt hst D cy A a σ kept nxt cnt T len pos ph le nu va ((o, .inl (cJ, 1, .inr (.inl out))) :: Z)  x y ) (cwV 2 hts gL_stripeAt_X6_stripeAt rfl rfl rfl hd_X6_stripeAt ⟨Nat.le_of_ble_eq_true rfl, Nat.le_of_ble_eq_true rfl⟩) hK hA hN hw 0 rfl rfl rfl hl.1 rfl rfl (Nat.le_of_ble_eq_true rfl) ⟨Nat.le_refl _, Nat.le_refl _⟩ dL_stripeAt_5 (fun H locs q9 ce hc0 hw hce hcv hcl => ?_) (fun H locs hc0 hw => ?_)
  · skip
    have hle : c2 x 7 y 9 ≤ 1 := c2_le _ _ _ _
    have hk : c2 x 7 y 9 = 1 := by omega
    have hcl : s.vm.findClass eI = some ce.cls := by first | (rw [hk] at hcl; exact hcl) | exact hcl
    refine vx_catch (own := RL) (name := eI) hown [] ⟨0, 10, 13, 13⟩ [] (by rw [hexc]; rfl) (fun z hz => absurd hz List.not_mem_nil) (by decide) (by decide) (hts (.classLink RL 13 "java/lang/IndexOutOfBoundsException") (List.mem_of_getElem? (i := 1) rfl)) (va_Nw.use rfl (hN.2.2.1 (.castable eI eI) (by decide))) hce hcv hcl ?_
    refine lv_astore (lv' := [(4, .ref q9), (0, .ref (a 0)), (1, .int (x)), (2, .int (y)), (3, .ref o)]) hx hb dL_stripeAt_13 hl (by decide) rfl (fun ls hl => ?_)
    refine lv_iconst (v := nI 1) hx hb dL_stripeAt_15 rfl ?_
    exact vx_ret (q_iretE hx hb hr hlocks hw dL_stripeAt_16 ⟨by rw [hk], Or.inr ⟨hc0, rfl⟩⟩)
  · skip
    refine lv_i2l hx hb dL_stripeAt_8 rfl ?_
    refine va_last hx hb hJ hw.1 hw.2.1 hw.2.2 18 0 rfl rfl (i := nI 0) (vp_in_nI (by decide) (by decide)) dL_stripeAt_9 (fun H locs hP hD hS => ?_)
    rw [nI_clamp (show 0 < 2 ^ 31 by decide)] at hP hD
    refine lv_goto (tgt := 17) hx hb dL_stripeAt_10 (by decide) ?_
    refine lv_iconst (v := nI 0) hx hb dL_stripeAt_17 rfl ?_
    exact vx_ret (q_iretE (w := _) hx hb hr hlocks ⟨hP, hD, hS⟩ dL_stripeAt_18 ⟨by rw [hc0], Or.inl ⟨hc0, rfl⟩⟩)
set_option maxHeartbeats 1000000 in
set_option maxRecDepth 100000 in
theorem c_L_place {l : Launch} (hst : l.stackTraces = false) (D : va_G) (cy cJ : ClassId) (A : Nat → Prop) (a : Nat → Nat) (σ kept : Nat → Int32) (nxt cnt : Nat) (T : Nat → Int32) (len pos : Nat) (ph le nu va : Int32) (Z : va_W) (o : Nat) (out : Nat → Int64) (x : Int32) (y : Int32) : vx_Met l yL_place wsL_place ({ frames := 7, cells := 1, slots := 6, locals := 105 } : Room) (gW D cy cJ [.ref (a 0), .int (x), .int (y), .ref o] A (wX cy a σ kept nxt cnt T len pos ph le nu va ++ ((o, .inl (cJ, 1, .inr (.inl out))) :: Z))) (gE D A (fun v9 w9 => v9 = some (.int (nI (c2 x 21 y 3))) ∧ ((c2 x 21 y 3 = 0 ∧ w9 = (wX cy a σ kept nxt cnt T len pos ph le nu va ++ ((o, .inl (cJ, 1, .inr (.inl (vp_updL out 0 (nI (10 * (spT (3 * ix x + ix y) / 9) + spT (3 * ix x + ix y) % 9)).toInt64)))) :: Z))) ∨ (c2 x 21 y 3 ≠ 0 ∧ w9 = (wX cy a σ kept nxt cnt T len pos ph le nu va ++ ((o, .inl (cJ, 1, .inr (.inl out))) :: Z)))))) (fun _ _ _ => False) 1 6 A := by
  refine q_wmp (cc := cL_place) (maxL := 5) (ret := some .int) (hh := [(0, 10, 13, 13)]) pl_L rfl (Nat.le_of_ble_eq_true rfl) ?_
  intro p e s m below meth c ls hx hb hr hml hts hown hlocks hw hK hA hl hexc hN hJ hC
  have hl : lv_has ls 5 [(0, .ref (a 0)), (1, .int (x)), (2, .int (y)), (3, .ref o)] := hl
  refine lv_aload_n hx hb dL_place_0 rfl (lv_at hl 3 rfl) ?_
  refine lv_iconst (v := nI 0) hx hb dL_place_1 rfl ?_
  refine lv_aload_n hx hb dL_place_2 rfl (lv_at hl 0 rfl) ?_
  refine lv_iload_n hx hb dL_place_3 rfl (lv_at hl 1 rfl) ?_
  refine lv_iload_n hx hb dL_place_4 rfl (lv_at hl 2 rfl) ?_
  refine q_xV (As := [.int (x), .int (y)]) (rest := [.int (nI 0), .ref o]) ⟨hx, hb, hml, hown, hts⟩ (c_X6_place hst D cy A a σ kept nxt cnt T len pos ph le nu va ((o, .inl (cJ, 1, .inr (.inl out))) :: Z)  x y ) (cwV 2 hts gL_place_X6_place rfl rfl rfl hd_X6_place ⟨Nat.le_of_ble_eq_true rfl, Nat.le_of_ble_eq_true rfl⟩) hK hA hN hw 0 rfl rfl rfl hl.1 rfl rfl (Nat.le_of_ble_eq_true rfl) ⟨Nat.le_refl _, Nat.le_refl _⟩ dL_place_5 (fun H locs q9 ce hc0 hw hce hcv hcl => ?_) (fun H locs hc0 hw => ?_)
  · skip
    have hle : c2 x 21 y 3 ≤ 1 := c2_le _ _ _ _
    have hk : c2 x 21 y 3 = 1 := by omega
    have hcl : s.vm.findClass eI = some ce.cls := by first | (rw [hk] at hcl; exact hcl) | exact hcl
    refine vx_catch (own := RL) (name := eI) hown [] ⟨0, 10, 13, 13⟩ [] (by rw [hexc]; rfl) (fun z hz => absurd hz List.not_mem_nil) (by decide) (by decide) (hts (.classLink RL 13 "java/lang/IndexOutOfBoundsException") (List.mem_of_getElem? (i := 1) rfl)) (va_Nw.use rfl (hN.2.2.1 (.castable eI eI) (by decide))) hce hcv hcl ?_
    refine lv_astore (lv' := [(4, .ref q9), (0, .ref (a 0)), (1, .int (x)), (2, .int (y)), (3, .ref o)]) hx hb dL_place_13 hl (by decide) rfl (fun ls hl => ?_)
    refine lv_iconst (v := nI 1) hx hb dL_place_15 rfl ?_
    exact vx_ret (q_iretE hx hb hr hlocks hw dL_place_16 ⟨by rw [hk], Or.inr ⟨hc0, rfl⟩⟩)
  · skip
    refine lv_i2l hx hb dL_place_8 rfl ?_
    refine va_last hx hb hJ hw.1 hw.2.1 hw.2.2 18 0 rfl rfl (i := nI 0) (vp_in_nI (by decide) (by decide)) dL_place_9 (fun H locs hP hD hS => ?_)
    rw [nI_clamp (show 0 < 2 ^ 31 by decide)] at hP hD
    refine lv_goto (tgt := 17) hx hb dL_place_10 (by decide) ?_
    refine lv_iconst (v := nI 0) hx hb dL_place_17 rfl ?_
    exact vx_ret (q_iretE (w := _) hx hb hr hlocks ⟨hP, hD, hS⟩ dL_place_18 ⟨by rw [hc0], Or.inl ⟨hc0, rfl⟩⟩)
set_option maxHeartbeats 1000000 in
set_option maxRecDepth 100000 in
theorem c_L_unit {l : Launch} (hst : l.stackTraces = false) (D : va_G) (cy cJ : ClassId) (A : Nat → Prop) (a : Nat → Nat) (σ kept : Nat → Int32) (nxt cnt : Nat) (T : Nat → Int32) (len pos : Nat) (ph le nu va : Int32) (Z : va_W) (o : Nat) (out : Nat → Int64) (x : Int32) (y : Int32) : vx_Met l yL_unit wsL_unit ({ frames := 7, cells := 1, slots := 6, locals := 104 } : Room) (gW D cy cJ [.ref (a 0), .int (x), .int (y), .ref o] A (wX cy a σ kept nxt cnt T len pos ph le nu va ++ ((o, .inl (cJ, 1, .inr (.inl out))) :: Z))) (gE D A (fun v9 w9 => v9 = some (.int (nI (c2 x 7 y 9))) ∧ ((c2 x 7 y 9 = 0 ∧ w9 = (wX cy a σ kept nxt cnt T len pos ph le nu va ++ ((o, .inl (cJ, 1, .inr (.inl (vp_updL out 0 (vis σ (9 * ix x + ix y)).toInt64)))) :: Z))) ∨ (c2 x 7 y 9 ≠ 0 ∧ w9 = (wX cy a σ kept nxt cnt T len pos ph le nu va ++ ((o, .inl (cJ, 1, .inr (.inl out))) :: Z)))))) (fun _ _ _ => False) 1 6 A := by
  refine q_wmp (cc := cL_unit) (maxL := 5) (ret := some .int) (hh := [(0, 10, 13, 13)]) pl_L rfl (Nat.le_of_ble_eq_true rfl) ?_
  intro p e s m below meth c ls hx hb hr hml hts hown hlocks hw hK hA hl hexc hN hJ hC
  have hl : lv_has ls 5 [(0, .ref (a 0)), (1, .int (x)), (2, .int (y)), (3, .ref o)] := hl
  refine lv_aload_n hx hb dL_unit_0 rfl (lv_at hl 3 rfl) ?_
  refine lv_iconst (v := nI 0) hx hb dL_unit_1 rfl ?_
  refine lv_aload_n hx hb dL_unit_2 rfl (lv_at hl 0 rfl) ?_
  refine lv_iload_n hx hb dL_unit_3 rfl (lv_at hl 1 rfl) ?_
  refine lv_iload_n hx hb dL_unit_4 rfl (lv_at hl 2 rfl) ?_
  refine q_xV (As := [.int (x), .int (y)]) (rest := [.int (nI 0), .ref o]) ⟨hx, hb, hml, hown, hts⟩ (c_X6_unit hst D cy A a σ kept nxt cnt T len pos ph le nu va ((o, .inl (cJ, 1, .inr (.inl out))) :: Z)  x y ) (cwV 2 hts gL_unit_X6_unit rfl rfl rfl hd_X6_unit ⟨Nat.le_of_ble_eq_true rfl, Nat.le_of_ble_eq_true rfl⟩) hK hA hN hw 0 rfl rfl rfl hl.1 rfl rfl (Nat.le_of_ble_eq_true rfl) ⟨Nat.le_refl _, Nat.le_refl _⟩ dL_unit_5 (fun H locs q9 ce hc0 hw hce hcv hcl => ?_) (fun H locs hc0 hw => ?_)
  · skip
    have hle : c2 x 7 y 9 ≤ 1 := c2_le _ _ _ _
    have hk : c2 x 7 y 9 = 1 := by omega
    have hcl : s.vm.findClass eI = some ce.cls := by first | (rw [hk] at hcl; exact hcl) | exact hcl
    refine vx_catch (own := RL) (name := eI) hown [] ⟨0, 10, 13, 13⟩ [] (by rw [hexc]; rfl) (fun z hz => absurd hz List.not_mem_nil) (by decide) (by decide) (hts (.classLink RL 13 "java/lang/IndexOutOfBoundsException") (List.mem_of_getElem? (i := 1) rfl)) (va_Nw.use rfl (hN.2.2.1 (.castable eI eI) (by decide))) hce hcv hcl ?_
    refine lv_astore (lv' := [(4, .ref q9), (0, .ref (a 0)), (1, .int (x)), (2, .int (y)), (3, .ref o)]) hx hb dL_unit_13 hl (by decide) rfl (fun ls hl => ?_)
    refine lv_iconst (v := nI 1) hx hb dL_unit_15 rfl ?_
    exact vx_ret (q_iretE hx hb hr hlocks hw dL_unit_16 ⟨by rw [hk], Or.inr ⟨hc0, rfl⟩⟩)
  · skip
    refine lv_i2l hx hb dL_unit_8 rfl ?_
    refine va_last hx hb hJ hw.1 hw.2.1 hw.2.2 18 0 rfl rfl (i := nI 0) (vp_in_nI (by decide) (by decide)) dL_unit_9 (fun H locs hP hD hS => ?_)
    rw [nI_clamp (show 0 < 2 ^ 31 by decide)] at hP hD
    refine lv_goto (tgt := 17) hx hb dL_unit_10 (by decide) ?_
    refine lv_iconst (v := nI 0) hx hb dL_unit_17 rfl ?_
    exact vx_ret (q_iretE (w := _) hx hb hr hlocks ⟨hP, hD, hS⟩ dL_unit_18 ⟨by rw [hc0], Or.inl ⟨hc0, rfl⟩⟩)
set_option maxHeartbeats 1000000 in
set_option maxRecDepth 100000 in
theorem c_L_peek {l : Launch} (hst : l.stackTraces = false) (D : va_G) (cy cJ : ClassId) (A : Nat → Prop) (a : Nat → Nat) (σ kept : Nat → Int32) (nxt cnt : Nat) (T : Nat → Int32) (len pos : Nat) (ph le nu va : Int32) (Z : va_W) (o : Nat) (out : Nat → Int64) (x : Int32) : vx_Met l yL_peek wsL_peek ({ frames := 7, cells := 1, slots := 6, locals := 130 } : Room) (gW D cy cJ [.ref (a 0), .int (x), .ref o] A (wX cy a σ kept nxt cnt T len pos ph le nu va ++ ((o, .inl (cJ, 1, .inr (.inl out))) :: Z))) (gE D A (fun v9 w9 => v9 = some (.int (nI (c1 x 42))) ∧ ((c1 x 42 = 0 ∧ w9 = (wX cy a σ kept nxt cnt T len pos ph le nu va ++ ((o, .inl (cJ, 1, .inr (.inl (vp_updL out 0 (kn σ (ad (ix x))).toInt64)))) :: Z))) ∨ (c1 x 42 ≠ 0 ∧ w9 = (wX cy a σ kept nxt cnt T len pos ph le nu va ++ ((o, .inl (cJ, 1, .inr (.inl out))) :: Z)))))) (fun _ _ _ => False) 1 6 A := by
  refine q_wmp (cc := cL_peek) (maxL := 4) (ret := some .int) (hh := [(0, 9, 12, 13)]) pl_L rfl (Nat.le_of_ble_eq_true rfl) ?_
  intro p e s m below meth c ls hx hb hr hml hts hown hlocks hw hK hA hl hexc hN hJ hC
  have hl : lv_has ls 4 [(0, .ref (a 0)), (1, .int (x)), (2, .ref o)] := hl
  refine lv_aload_n hx hb dL_peek_0 rfl (lv_at hl 2 rfl) ?_
  refine lv_iconst (v := nI 0) hx hb dL_peek_1 rfl ?_
  refine lv_aload_n hx hb dL_peek_2 rfl (lv_at hl 0 rfl) ?_
  refine lv_iload_n hx hb dL_peek_3 rfl (lv_at hl 1 rfl) ?_
  refine q_xV (As := [.int (x)]) (rest := [.int (nI 0), .ref o]) ⟨hx, hb, hml, hown, hts⟩ (c_X6_peek hst D cy A a σ kept nxt cnt T len pos ph le nu va ((o, .inl (cJ, 1, .inr (.inl out))) :: Z)  x ) (cwV 1 hts gL_peek_X6_peek rfl rfl rfl hd_X6_peek ⟨Nat.le_of_ble_eq_true rfl, Nat.le_of_ble_eq_true rfl⟩) hK hA hN hw 0 rfl rfl rfl hl.1 rfl rfl (Nat.le_of_ble_eq_true rfl) ⟨Nat.le_refl _, Nat.le_refl _⟩ dL_peek_4 (fun H locs q9 ce hc0 hw hce hcv hcl => ?_) (fun H locs hc0 hw => ?_)
  · skip
    have hle : c1 x 42 ≤ 1 := c1_le _ _
    have hk : c1 x 42 = 1 := by omega
    have hcl : s.vm.findClass eI = some ce.cls := by first | (rw [hk] at hcl; exact hcl) | exact hcl
    refine vx_catch (own := RL) (name := eI) hown [] ⟨0, 9, 12, 13⟩ [] (by rw [hexc]; rfl) (fun z hz => absurd hz List.not_mem_nil) (by decide) (by decide) (hts (.classLink RL 13 "java/lang/IndexOutOfBoundsException") (List.mem_of_getElem? (i := 1) rfl)) (va_Nw.use rfl (hN.2.2.1 (.castable eI eI) (by decide))) hce hcv hcl ?_
    refine lv_astore_n (lv' := [(3, .ref q9), (0, .ref (a 0)), (1, .int (x)), (2, .ref o)]) hx hb dL_peek_12 rfl hl (by decide) rfl (fun ls hl => ?_)
    refine lv_iconst (v := nI 1) hx hb dL_peek_13 rfl ?_
    exact vx_ret (q_iretE hx hb hr hlocks hw dL_peek_14 ⟨by rw [hk], Or.inr ⟨hc0, rfl⟩⟩)
  · skip
    refine lv_i2l hx hb dL_peek_7 rfl ?_
    refine va_last hx hb hJ hw.1 hw.2.1 hw.2.2 18 0 rfl rfl (i := nI 0) (vp_in_nI (by decide) (by decide)) dL_peek_8 (fun H locs hP hD hS => ?_)
    rw [nI_clamp (show 0 < 2 ^ 31 by decide)] at hP hD
    refine lv_goto (tgt := 15) hx hb dL_peek_9 (by decide) ?_
    refine lv_iconst (v := nI 0) hx hb dL_peek_15 rfl ?_
    exact vx_ret (q_iretE (w := _) hx hb hr hlocks ⟨hP, hD, hS⟩ dL_peek_16 ⟨by rw [hc0], Or.inl ⟨hc0, rfl⟩⟩)
set_option maxHeartbeats 1000000 in
set_option maxRecDepth 100000 in
theorem c_L_reads {l : Launch} (hst : l.stackTraces = false) (D : va_G) (cy cJ : ClassId) (A : Nat → Prop) (a : Nat → Nat) (σ kept : Nat → Int32) (nxt cnt : Nat) (T : Nat → Int32) (len pos : Nat) (ph le nu va : Int32) (Z : va_W) (o : Nat) (out : Nat → Int64) (x : Int32) : vx_Met l yL_reads wsL_reads ({ frames := 7, cells := 1, slots := 6, locals := 103 } : Room) (gW D cy cJ [.ref (a 0), .int (x), .ref o] A (wX cy a σ kept nxt cnt T len pos ph le nu va ++ ((o, .inl (cJ, 1, .inr (.inl out))) :: Z))) (gE D A (fun v9 w9 => v9 = some (.int (nI (c1 x 7))) ∧ ((c1 x 7 = 0 ∧ w9 = (wX cy a σ kept nxt cnt T len pos ph le nu va ++ ((o, .inl (cJ, 1, .inr (.inl (vp_updL out 0 (σ (70 + ix x)).toInt64)))) :: Z))) ∨ (c1 x 7 ≠ 0 ∧ w9 = (wX cy a σ kept nxt cnt T len pos ph le nu va ++ ((o, .inl (cJ, 1, .inr (.inl out))) :: Z)))))) (fun _ _ _ => False) 1 6 A := by
  refine q_wmp (cc := cL_reads) (maxL := 4) (ret := some .int) (hh := [(0, 9, 12, 13)]) pl_L rfl (Nat.le_of_ble_eq_true rfl) ?_
  intro p e s m below meth c ls hx hb hr hml hts hown hlocks hw hK hA hl hexc hN hJ hC
  have hl : lv_has ls 4 [(0, .ref (a 0)), (1, .int (x)), (2, .ref o)] := hl
  refine lv_aload_n hx hb dL_reads_0 rfl (lv_at hl 2 rfl) ?_
  refine lv_iconst (v := nI 0) hx hb dL_reads_1 rfl ?_
  refine lv_aload_n hx hb dL_reads_2 rfl (lv_at hl 0 rfl) ?_
  refine lv_iload_n hx hb dL_reads_3 rfl (lv_at hl 1 rfl) ?_
  refine q_xV (As := [.int (x)]) (rest := [.int (nI 0), .ref o]) ⟨hx, hb, hml, hown, hts⟩ (c_X6_reads hst D cy A a σ kept nxt cnt T len pos ph le nu va ((o, .inl (cJ, 1, .inr (.inl out))) :: Z)  x ) (cwV 1 hts gL_reads_X6_reads rfl rfl rfl hd_X6_reads ⟨Nat.le_of_ble_eq_true rfl, Nat.le_of_ble_eq_true rfl⟩) hK hA hN hw 0 rfl rfl rfl hl.1 rfl rfl (Nat.le_of_ble_eq_true rfl) ⟨Nat.le_refl _, Nat.le_refl _⟩ dL_reads_4 (fun H locs q9 ce hc0 hw hce hcv hcl => ?_) (fun H locs hc0 hw => ?_)
  · skip
    have hle : c1 x 7 ≤ 1 := c1_le _ _
    have hk : c1 x 7 = 1 := by omega
    have hcl : s.vm.findClass eI = some ce.cls := by first | (rw [hk] at hcl; exact hcl) | exact hcl
    refine vx_catch (own := RL) (name := eI) hown [] ⟨0, 9, 12, 13⟩ [] (by rw [hexc]; rfl) (fun z hz => absurd hz List.not_mem_nil) (by decide) (by decide) (hts (.classLink RL 13 "java/lang/IndexOutOfBoundsException") (List.mem_of_getElem? (i := 1) rfl)) (va_Nw.use rfl (hN.2.2.1 (.castable eI eI) (by decide))) hce hcv hcl ?_
    refine lv_astore_n (lv' := [(3, .ref q9), (0, .ref (a 0)), (1, .int (x)), (2, .ref o)]) hx hb dL_reads_12 rfl hl (by decide) rfl (fun ls hl => ?_)
    refine lv_iconst (v := nI 1) hx hb dL_reads_13 rfl ?_
    exact vx_ret (q_iretE hx hb hr hlocks hw dL_reads_14 ⟨by rw [hk], Or.inr ⟨hc0, rfl⟩⟩)
  · skip
    refine lv_i2l hx hb dL_reads_7 rfl ?_
    refine va_last hx hb hJ hw.1 hw.2.1 hw.2.2 18 0 rfl rfl (i := nI 0) (vp_in_nI (by decide) (by decide)) dL_reads_8 (fun H locs hP hD hS => ?_)
    rw [nI_clamp (show 0 < 2 ^ 31 by decide)] at hP hD
    refine lv_goto (tgt := 15) hx hb dL_reads_9 (by decide) ?_
    refine lv_iconst (v := nI 0) hx hb dL_reads_15 rfl ?_
    exact vx_ret (q_iretE (w := _) hx hb hr hlocks ⟨hP, hD, hS⟩ dL_reads_16 ⟨by rw [hc0], Or.inl ⟨hc0, rfl⟩⟩)
set_option maxHeartbeats 1000000 in
set_option maxRecDepth 100000 in
theorem c_L_writes {l : Launch} (hst : l.stackTraces = false) (D : va_G) (cy cJ : ClassId) (A : Nat → Prop) (a : Nat → Nat) (σ kept : Nat → Int32) (nxt cnt : Nat) (T : Nat → Int32) (len pos : Nat) (ph le nu va : Int32) (Z : va_W) (o : Nat) (out : Nat → Int64) (x : Int32) : vx_Met l yL_writes wsL_writes ({ frames := 7, cells := 1, slots := 6, locals := 103 } : Room) (gW D cy cJ [.ref (a 0), .int (x), .ref o] A (wX cy a σ kept nxt cnt T len pos ph le nu va ++ ((o, .inl (cJ, 1, .inr (.inl out))) :: Z))) (gE D A (fun v9 w9 => v9 = some (.int (nI (c1 x 7))) ∧ ((c1 x 7 = 0 ∧ w9 = (wX cy a σ kept nxt cnt T len pos ph le nu va ++ ((o, .inl (cJ, 1, .inr (.inl (vp_updL out 0 (σ (77 + ix x)).toInt64)))) :: Z))) ∨ (c1 x 7 ≠ 0 ∧ w9 = (wX cy a σ kept nxt cnt T len pos ph le nu va ++ ((o, .inl (cJ, 1, .inr (.inl out))) :: Z)))))) (fun _ _ _ => False) 1 6 A := by
  refine q_wmp (cc := cL_writes) (maxL := 4) (ret := some .int) (hh := [(0, 9, 12, 13)]) pl_L rfl (Nat.le_of_ble_eq_true rfl) ?_
  intro p e s m below meth c ls hx hb hr hml hts hown hlocks hw hK hA hl hexc hN hJ hC
  have hl : lv_has ls 4 [(0, .ref (a 0)), (1, .int (x)), (2, .ref o)] := hl
  refine lv_aload_n hx hb dL_writes_0 rfl (lv_at hl 2 rfl) ?_
  refine lv_iconst (v := nI 0) hx hb dL_writes_1 rfl ?_
  refine lv_aload_n hx hb dL_writes_2 rfl (lv_at hl 0 rfl) ?_
  refine lv_iload_n hx hb dL_writes_3 rfl (lv_at hl 1 rfl) ?_
  refine q_xV (As := [.int (x)]) (rest := [.int (nI 0), .ref o]) ⟨hx, hb, hml, hown, hts⟩ (c_X6_writes hst D cy A a σ kept nxt cnt T len pos ph le nu va ((o, .inl (cJ, 1, .inr (.inl out))) :: Z)  x ) (cwV 1 hts gL_writes_X6_writes rfl rfl rfl hd_X6_writes ⟨Nat.le_of_ble_eq_true rfl, Nat.le_of_ble_eq_true rfl⟩) hK hA hN hw 0 rfl rfl rfl hl.1 rfl rfl (Nat.le_of_ble_eq_true rfl) ⟨Nat.le_refl _, Nat.le_refl _⟩ dL_writes_4 (fun H locs q9 ce hc0 hw hce hcv hcl => ?_) (fun H locs hc0 hw => ?_)
  · skip
    have hle : c1 x 7 ≤ 1 := c1_le _ _
    have hk : c1 x 7 = 1 := by omega
    have hcl : s.vm.findClass eI = some ce.cls := by first | (rw [hk] at hcl; exact hcl) | exact hcl
    refine vx_catch (own := RL) (name := eI) hown [] ⟨0, 9, 12, 13⟩ [] (by rw [hexc]; rfl) (fun z hz => absurd hz List.not_mem_nil) (by decide) (by decide) (hts (.classLink RL 13 "java/lang/IndexOutOfBoundsException") (List.mem_of_getElem? (i := 1) rfl)) (va_Nw.use rfl (hN.2.2.1 (.castable eI eI) (by decide))) hce hcv hcl ?_
    refine lv_astore_n (lv' := [(3, .ref q9), (0, .ref (a 0)), (1, .int (x)), (2, .ref o)]) hx hb dL_writes_12 rfl hl (by decide) rfl (fun ls hl => ?_)
    refine lv_iconst (v := nI 1) hx hb dL_writes_13 rfl ?_
    exact vx_ret (q_iretE hx hb hr hlocks hw dL_writes_14 ⟨by rw [hk], Or.inr ⟨hc0, rfl⟩⟩)
  · skip
    refine lv_i2l hx hb dL_writes_7 rfl ?_
    refine va_last hx hb hJ hw.1 hw.2.1 hw.2.2 18 0 rfl rfl (i := nI 0) (vp_in_nI (by decide) (by decide)) dL_writes_8 (fun H locs hP hD hS => ?_)
    rw [nI_clamp (show 0 < 2 ^ 31 by decide)] at hP hD
    refine lv_goto (tgt := 15) hx hb dL_writes_9 (by decide) ?_
    refine lv_iconst (v := nI 0) hx hb dL_writes_15 rfl ?_
    exact vx_ret (q_iretE (w := _) hx hb hr hlocks ⟨hP, hD, hS⟩ dL_writes_16 ⟨by rw [hc0], Or.inl ⟨hc0, rfl⟩⟩)
set_option maxHeartbeats 1000000 in
set_option maxRecDepth 100000 in
theorem c_L_lostIfFailed {l : Launch} (hst : l.stackTraces = false) (D : va_G) (cy cJ : ClassId) (A : Nat → Prop) (a : Nat → Nat) (σ kept : Nat → Int32) (nxt cnt : Nat) (T : Nat → Int32) (len pos : Nat) (ph le nu va : Int32) (Z : va_W) (o : Nat) (out : Nat → Int64) (x : Int32) : vx_Met l yL_lostIfFailed wsL_lostIfFailed ({ frames := 7, cells := 1, slots := 6, locals := 132 } : Room) (gW D cy cJ [.ref (a 0), .int (x), .ref o] A (wX cy a σ kept nxt cnt T len pos ph le nu va ++ ((o, .inl (cJ, 1, .inr (.inl out))) :: Z))) (gE D A (fun v9 w9 => v9 = some (.int (nI (c1 x 7))) ∧ ((c1 x 7 = 0 ∧ w9 = (wX cy a σ kept nxt cnt T len pos ph le nu va ++ ((o, .inl (cJ, 1, .inr (.inl (vp_updL out 0 (nI (cl (failS σ (ix x)))).toInt64)))) :: Z))) ∨ (c1 x 7 ≠ 0 ∧ w9 = (wX cy a σ kept nxt cnt T len pos ph le nu va ++ ((o, .inl (cJ, 1, .inr (.inl out))) :: Z)))))) (fun _ _ _ => False) 1 6 A := by
  refine q_wmp (cc := cL_lostIfFailed) (maxL := 4) (ret := some .int) (hh := [(0, 9, 12, 13)]) pl_L rfl (Nat.le_of_ble_eq_true rfl) ?_
  intro p e s m below meth c ls hx hb hr hml hts hown hlocks hw hK hA hl hexc hN hJ hC
  have hl : lv_has ls 4 [(0, .ref (a 0)), (1, .int (x)), (2, .ref o)] := hl
  refine lv_aload_n hx hb dL_lostIfFailed_0 rfl (lv_at hl 2 rfl) ?_
  refine lv_iconst (v := nI 0) hx hb dL_lostIfFailed_1 rfl ?_
  refine lv_aload_n hx hb dL_lostIfFailed_2 rfl (lv_at hl 0 rfl) ?_
  refine lv_iload_n hx hb dL_lostIfFailed_3 rfl (lv_at hl 1 rfl) ?_
  refine q_xV (As := [.int (x)]) (rest := [.int (nI 0), .ref o]) ⟨hx, hb, hml, hown, hts⟩ (c_X6_lostIfFailed hst D cy A a σ kept nxt cnt T len pos ph le nu va ((o, .inl (cJ, 1, .inr (.inl out))) :: Z)  x ) (cwV 1 hts gL_lostIfFailed_X6_lostIfFailed rfl rfl rfl hd_X6_lostIfFailed ⟨Nat.le_of_ble_eq_true rfl, Nat.le_of_ble_eq_true rfl⟩) hK hA hN hw 0 rfl rfl rfl hl.1 rfl rfl (Nat.le_of_ble_eq_true rfl) ⟨Nat.le_refl _, Nat.le_refl _⟩ dL_lostIfFailed_4 (fun H locs q9 ce hc0 hw hce hcv hcl => ?_) (fun H locs hc0 hw => ?_)
  · skip
    have hle : c1 x 7 ≤ 1 := c1_le _ _
    have hk : c1 x 7 = 1 := by omega
    have hcl : s.vm.findClass eI = some ce.cls := by first | (rw [hk] at hcl; exact hcl) | exact hcl
    refine vx_catch (own := RL) (name := eI) hown [] ⟨0, 9, 12, 13⟩ [] (by rw [hexc]; rfl) (fun z hz => absurd hz List.not_mem_nil) (by decide) (by decide) (hts (.classLink RL 13 "java/lang/IndexOutOfBoundsException") (List.mem_of_getElem? (i := 1) rfl)) (va_Nw.use rfl (hN.2.2.1 (.castable eI eI) (by decide))) hce hcv hcl ?_
    refine lv_astore_n (lv' := [(3, .ref q9), (0, .ref (a 0)), (1, .int (x)), (2, .ref o)]) hx hb dL_lostIfFailed_12 rfl hl (by decide) rfl (fun ls hl => ?_)
    refine lv_iconst (v := nI 1) hx hb dL_lostIfFailed_13 rfl ?_
    exact vx_ret (q_iretE hx hb hr hlocks hw dL_lostIfFailed_14 ⟨by rw [hk], Or.inr ⟨hc0, rfl⟩⟩)
  · skip
    refine lv_i2l hx hb dL_lostIfFailed_7 rfl ?_
    refine va_last hx hb hJ hw.1 hw.2.1 hw.2.2 18 0 rfl rfl (i := nI 0) (vp_in_nI (by decide) (by decide)) dL_lostIfFailed_8 (fun H locs hP hD hS => ?_)
    rw [nI_clamp (show 0 < 2 ^ 31 by decide)] at hP hD
    refine lv_goto (tgt := 15) hx hb dL_lostIfFailed_9 (by decide) ?_
    refine lv_iconst (v := nI 0) hx hb dL_lostIfFailed_15 rfl ?_
    exact vx_ret (q_iretE (w := _) hx hb hr hlocks ⟨hP, hD, hS⟩ dL_lostIfFailed_16 ⟨by rw [hc0], Or.inl ⟨hc0, rfl⟩⟩)
set_option maxHeartbeats 1000000 in
set_option maxRecDepth 100000 in
theorem c_L_loadOf {l : Launch} (hst : l.stackTraces = false) (D : va_G) (cy cJ : ClassId) (A : Nat → Prop) (a : Nat → Nat) (σ kept : Nat → Int32) (nxt cnt : Nat) (T : Nat → Int32) (len pos : Nat) (ph le nu va : Int32) (Z : va_W) (o : Nat) (out : Nat → Int64) (x : Int32) (y : Int32) : vx_Met l yL_loadOf wsL_loadOf ({ frames := 7, cells := 1, slots := 6, locals := 104 } : Room) (gW D cy cJ [.ref (a 0), .int (x), .int (y), .ref o] A (wX cy a σ kept nxt cnt T len pos ph le nu va ++ ((o, .inl (cJ, 1, .inr (.inl out))) :: Z))) (gE D A (fun v9 w9 => v9 = some (.int (nI (c2 x 7 y 7))) ∧ ((c2 x 7 y 7 = 0 ∧ w9 = (wX cy a σ kept nxt cnt T len pos ph le nu va ++ ((o, .inl (cJ, 1, .inr (.inl (vp_updL out 0 (nI (if ix x = ix y then 0 else both (ix x) (ix y))).toInt64)))) :: Z))) ∨ (c2 x 7 y 7 ≠ 0 ∧ w9 = (wX cy a σ kept nxt cnt T len pos ph le nu va ++ ((o, .inl (cJ, 1, .inr (.inl out))) :: Z)))))) (fun _ _ _ => False) 1 6 A := by
  refine q_wmp (cc := cL_loadOf) (maxL := 5) (ret := some .int) (hh := [(0, 10, 13, 13)]) pl_L rfl (Nat.le_of_ble_eq_true rfl) ?_
  intro p e s m below meth c ls hx hb hr hml hts hown hlocks hw hK hA hl hexc hN hJ hC
  have hl : lv_has ls 5 [(0, .ref (a 0)), (1, .int (x)), (2, .int (y)), (3, .ref o)] := hl
  refine lv_aload_n hx hb dL_loadOf_0 rfl (lv_at hl 3 rfl) ?_
  refine lv_iconst (v := nI 0) hx hb dL_loadOf_1 rfl ?_
  refine lv_aload_n hx hb dL_loadOf_2 rfl (lv_at hl 0 rfl) ?_
  refine lv_iload_n hx hb dL_loadOf_3 rfl (lv_at hl 1 rfl) ?_
  refine lv_iload_n hx hb dL_loadOf_4 rfl (lv_at hl 2 rfl) ?_
  refine q_xV (As := [.int (x), .int (y)]) (rest := [.int (nI 0), .ref o]) ⟨hx, hb, hml, hown, hts⟩ (c_X6_loadOf hst D cy A a σ kept nxt cnt T len pos ph le nu va ((o, .inl (cJ, 1, .inr (.inl out))) :: Z)  x y ) (cwV 2 hts gL_loadOf_X6_loadOf rfl rfl rfl hd_X6_loadOf ⟨Nat.le_of_ble_eq_true rfl, Nat.le_of_ble_eq_true rfl⟩) hK hA hN hw 0 rfl rfl rfl hl.1 rfl rfl (Nat.le_of_ble_eq_true rfl) ⟨Nat.le_refl _, Nat.le_refl _⟩ dL_loadOf_5 (fun H locs q9 ce hc0 hw hce hcv hcl => ?_) (fun H locs hc0 hw => ?_)
  · skip
    have hle : c2 x 7 y 7 ≤ 1 := c2_le _ _ _ _
    have hk : c2 x 7 y 7 = 1 := by omega
    have hcl : s.vm.findClass eI = some ce.cls := by first | (rw [hk] at hcl; exact hcl) | exact hcl
    refine vx_catch (own := RL) (name := eI) hown [] ⟨0, 10, 13, 13⟩ [] (by rw [hexc]; rfl) (fun z hz => absurd hz List.not_mem_nil) (by decide) (by decide) (hts (.classLink RL 13 "java/lang/IndexOutOfBoundsException") (List.mem_of_getElem? (i := 1) rfl)) (va_Nw.use rfl (hN.2.2.1 (.castable eI eI) (by decide))) hce hcv hcl ?_
    refine lv_astore (lv' := [(4, .ref q9), (0, .ref (a 0)), (1, .int (x)), (2, .int (y)), (3, .ref o)]) hx hb dL_loadOf_13 hl (by decide) rfl (fun ls hl => ?_)
    refine lv_iconst (v := nI 1) hx hb dL_loadOf_15 rfl ?_
    exact vx_ret (q_iretE hx hb hr hlocks hw dL_loadOf_16 ⟨by rw [hk], Or.inr ⟨hc0, rfl⟩⟩)
  · skip
    refine lv_i2l hx hb dL_loadOf_8 rfl ?_
    refine va_last hx hb hJ hw.1 hw.2.1 hw.2.2 18 0 rfl rfl (i := nI 0) (vp_in_nI (by decide) (by decide)) dL_loadOf_9 (fun H locs hP hD hS => ?_)
    rw [nI_clamp (show 0 < 2 ^ 31 by decide)] at hP hD
    refine lv_goto (tgt := 17) hx hb dL_loadOf_10 (by decide) ?_
    refine lv_iconst (v := nI 0) hx hb dL_loadOf_17 rfl ?_
    exact vx_ret (q_iretE (w := _) hx hb hr hlocks ⟨hP, hD, hS⟩ dL_loadOf_18 ⟨by rw [hc0], Or.inl ⟨hc0, rfl⟩⟩)
set_option maxHeartbeats 1000000 in
set_option maxRecDepth 100000 in
theorem c_L_append {l : Launch} (hst : l.stackTraces = false) (D : va_G) (cy cJ : ClassId) (A : Nat → Prop) (a : Nat → Nat) (σ kept : Nat → Int32) (nxt cnt : Nat) (T : Nat → Int32) (len pos : Nat) (ph le nu va : Int32) (Z : va_W) (o : Nat) (out : Nat → Int64) (x : Int32) (h_0 : len ≤ 60) : vx_Met l yL_append wsL_append ({ frames := 7, cells := 1, slots := 6, locals := 103 } : Room) (gW D cy cJ [.ref (a 0), .int (x), .ref o] A (wX cy a σ kept nxt cnt T len pos ph le nu va ++ ((o, .inl (cJ, 1, .inr (.inl out))) :: Z))) (gE D A (fun v9 w9 => v9 = some (.int (nI (cAp len x))) ∧ ((cAp len x = 0 ∧ w9 = (wX cy a σ kept nxt cnt (upd T len x) (len + 1) pos ph le nu va ++ ((o, .inl (cJ, 1, .inr (.inl (vp_updL out 0 (nI (len + 1)).toInt64)))) :: Z))) ∨ (cAp len x ≠ 0 ∧ w9 = (wX cy a σ kept nxt cnt T len pos ph le nu va ++ ((o, .inl (cJ, 1, .inr (.inl out))) :: Z)))))) (fun _ _ _ => False) 1 6 A := by
  refine q_wmp (cc := cL_append) (maxL := 4) (ret := some .int) (hh := [(0, 9, 12, 21), (0, 9, 15, 15)]) pl_L rfl (Nat.le_of_ble_eq_true rfl) ?_
  intro p e s m below meth c ls hx hb hr hml hts hown hlocks hw hK hA hl hexc hN hJ hC
  have hl : lv_has ls 4 [(0, .ref (a 0)), (1, .int (x)), (2, .ref o)] := hl
  refine lv_aload_n hx hb dL_append_0 rfl (lv_at hl 2 rfl) ?_
  refine lv_iconst (v := nI 0) hx hb dL_append_1 rfl ?_
  refine lv_aload_n hx hb dL_append_2 rfl (lv_at hl 0 rfl) ?_
  refine lv_iload_n hx hb dL_append_3 rfl (lv_at hl 1 rfl) ?_
  refine q_xV (As := [.int (x)]) (rest := [.int (nI 0), .ref o]) ⟨hx, hb, hml, hown, hts⟩ (c_X6_append hst D cy A a σ kept nxt cnt T len pos ph le nu va ((o, .inl (cJ, 1, .inr (.inl out))) :: Z)  x h_0) (cwV 1 hts gL_append_X6_append rfl rfl rfl hd_X6_append ⟨Nat.le_of_ble_eq_true rfl, Nat.le_of_ble_eq_true rfl⟩) hK hA hN hw 0 rfl rfl rfl hl.1 rfl rfl (Nat.le_of_ble_eq_true rfl) ⟨Nat.le_refl _, Nat.le_refl _⟩ dL_append_4 (fun H locs q9 ce hc0 hw hce hcv hcl => ?_) (fun H locs hc0 hw => ?_)
  · skip
    have hle : cAp len x ≤ 2 := cAp_le _ _
    rcases (show cAp len x = 1 ∨ cAp len x = 2 by omega) with hk | hk
    · skip
      have hcl : s.vm.findClass eA = some ce.cls := by first | (rw [hk] at hcl; exact hcl) | exact hcl
      refine vx_catch (own := RL) (name := eA) hown [] ⟨0, 9, 12, 21⟩ [⟨0, 9, 15, 15⟩] (by rw [hexc]; rfl) (fun z hz => absurd hz List.not_mem_nil) (by decide) (by decide) (hts (.classLink RL 21 "java/lang/IllegalArgumentException") (List.mem_of_getElem? (i := 1) rfl)) (va_Nw.use rfl (hN.2.2.1 (.castable eA eA) (by decide))) hce hcv hcl ?_
      refine lv_astore_n (lv' := [(3, .ref q9), (0, .ref (a 0)), (1, .int (x)), (2, .ref o)]) hx hb dL_append_12 rfl hl (by decide) rfl (fun ls hl => ?_)
      refine lv_iconst (v := nI 1) hx hb dL_append_13 rfl ?_
      exact vx_ret (q_iretE hx hb hr hlocks hw dL_append_14 ⟨by rw [hk], Or.inr ⟨hc0, rfl⟩⟩)
    · skip
      have hcl : s.vm.findClass eS = some ce.cls := by first | (rw [hk] at hcl; exact hcl) | exact hcl
      refine vx_catch (own := RL) (name := eS) hown [⟨0, 9, 12, 21⟩] ⟨0, 9, 15, 15⟩ [] (by rw [hexc]; rfl) (List.forall_mem_cons.mpr ⟨Or.inr ⟨by decide, eA, hts (.classLink RL 21 "java/lang/IllegalArgumentException") (List.mem_of_getElem? (i := 1) rfl), hC.2.2⟩, fun z hz => absurd hz List.not_mem_nil⟩) (by decide) (by decide) (hts (.classLink RL 15 "java/lang/IllegalStateException") (List.mem_of_getElem? (i := 2) rfl)) (va_Nw.use rfl (hN.2.2.1 (.castable eS eS) (by decide))) hce hcv hcl ?_
      refine lv_astore_n (lv' := [(3, .ref q9), (0, .ref (a 0)), (1, .int (x)), (2, .ref o)]) hx hb dL_append_15 rfl hl (by decide) rfl (fun ls hl => ?_)
      refine lv_iconst (v := nI 2) hx hb dL_append_16 rfl ?_
      exact vx_ret (q_iretE hx hb hr hlocks hw dL_append_17 ⟨by rw [hk], Or.inr ⟨hc0, rfl⟩⟩)
  · skip
    refine lv_i2l hx hb dL_append_7 rfl ?_
    refine va_last hx hb hJ hw.1 hw.2.1 hw.2.2 18 0 rfl rfl (i := nI 0) (vp_in_nI (by decide) (by decide)) dL_append_8 (fun H locs hP hD hS => ?_)
    rw [nI_clamp (show 0 < 2 ^ 31 by decide)] at hP hD
    refine lv_goto (tgt := 18) hx hb dL_append_9 (by decide) ?_
    refine lv_iconst (v := nI 0) hx hb dL_append_18 rfl ?_
    exact vx_ret (q_iretE (w := _) hx hb hr hlocks ⟨hP, hD, hS⟩ dL_append_19 ⟨by rw [hc0], Or.inl ⟨hc0, rfl⟩⟩)
set_option maxHeartbeats 1000000 in
set_option maxRecDepth 100000 in
theorem c_L_run {l : Launch} (hst : l.stackTraces = false) (D : va_G) (cy cJ : ClassId) (A : Nat → Prop) (a : Nat → Nat) (σ kept : Nat → Int32) (nxt cnt : Nat) (T : Nat → Int32) (len pos : Nat) (ph le nu va : Int32) (Z : va_W) (o : Nat) (out : Nat → Int64) (tx : Nat → Nat) (pp lc : Nat) (on ov : Option Nat) (h_0 : oB on) (h_1 : oB ov) (h_2 : ∀ i, tx i ≤ 126) (h_3 : len ≤ 60) (h_4 : nxt < 6) (h_5 : cnt ≤ 6) (h_6 : Val σ) : vx_Met l yL_run wsL_run ({ frames := 7, cells := 1, slots := 6, locals := 153 } : Room) (gW D cy cJ [.ref (a 0), .ref o] A (wX cy a σ kept nxt cnt (tI tx) len pos (nI (pp)) (nI (lc)) (nO (on)) (nO (ov)) ++ ((o, .inl (cJ, 1, .inr (.inl out))) :: Z))) (gE D A (fun v9 w9 => v9 = some (.int (nI (cRn tx len))) ∧ ((cRn tx len = 0 ∧ ∃ (q9 p9 l9 : Nat) (x9 y9 : Option Nat), oB x9 ∧ oB y9 ∧ w9 = (wX cy a (exT tx len (len + 1) 0 σ).1 (cpK kept σ (nxt * 86) 86) ((nxt + 1) % 6) (min (cnt + 1) 6) (tI tx) 0 q9 (nI p9) (nI l9) (nO x9) (nO y9) ++ ((o, .inl (cJ, 1, .inr (.inl (vp_updL out 0 (nI (exT tx len (len + 1) 0 σ).2).toInt64)))) :: Z))) ∨ (cRn tx len ≠ 0 ∧ ∃ (p9 l9 : Nat) (x9 y9 : Option Nat), oB x9 ∧ oB y9 ∧ w9 = (wX cy a σ kept nxt cnt (tI tx) len pos (nI p9) (nI l9) (nO x9) (nO y9) ++ ((o, .inl (cJ, 1, .inr (.inl out))) :: Z)))))) (fun _ _ _ => False) 1 6 A := by
  refine q_wmp (cc := cL_run) (maxL := 3) (ret := some .int) (hh := [(0, 8, 11, 21)]) pl_L rfl (Nat.le_of_ble_eq_true rfl) ?_
  intro p e s m below meth c ls hx hb hr hml hts hown hlocks hw hK hA hl hexc hN hJ hC
  have hl : lv_has ls 3 [(0, .ref (a 0)), (1, .ref o)] := hl
  refine lv_aload_n hx hb dL_run_0 rfl (lv_at hl 1 rfl) ?_
  refine lv_iconst (v := nI 0) hx hb dL_run_1 rfl ?_
  refine lv_aload_n hx hb dL_run_2 rfl (lv_at hl 0 rfl) ?_
  refine q_xVE (As := []) (rest := [.int (nI 0), .ref o]) ⟨hx, hb, hml, hown, hts⟩ (c_X6_run hst D cy A a σ kept nxt cnt T len pos ph le nu va ((o, .inl (cJ, 1, .inr (.inl out))) :: Z) tx pp lc on ov  h_0 h_1 h_2 h_3 h_4 h_5 h_6) (cwV 0 hts gL_run_X6_run rfl rfl rfl hd_X6_run ⟨Nat.le_of_ble_eq_true rfl, Nat.le_of_ble_eq_true rfl⟩) hK hA hN hw 0 rfl rfl rfl hl.1 rfl (Nat.le_of_ble_eq_true rfl) ⟨Nat.le_refl _, Nat.le_refl _⟩ dL_run_3 (fun H locs q9 ce w9 hc0 hp9 hw hce hcv hcl => ?_) (fun H locs v9 w9 hc0 hp9 hw => ?_)
  · obtain ⟨p9, l9, x9, y9, ob1, ob2, rfl⟩ := hp9
    have hle : cRn tx len ≤ 1 := cRn_le _ _
    have hk : cRn tx len = 1 := by omega
    have hcl : s.vm.findClass eA = some ce.cls := by first | (rw [hk] at hcl; exact hcl) | exact hcl
    refine vx_catch (own := RL) (name := eA) hown [] ⟨0, 8, 11, 21⟩ [] (by rw [hexc]; rfl) (fun z hz => absurd hz List.not_mem_nil) (by decide) (by decide) (hts (.classLink RL 21 "java/lang/IllegalArgumentException") (List.mem_of_getElem? (i := 1) rfl)) (va_Nw.use rfl (hN.2.2.1 (.castable eA eA) (by decide))) hce hcv hcl ?_
    refine lv_astore_n (lv' := [(2, .ref q9), (0, .ref (a 0)), (1, .ref o)]) hx hb dL_run_11 rfl hl (by decide) rfl (fun ls hl => ?_)
    refine lv_iconst (v := nI 1) hx hb dL_run_12 rfl ?_
    exact vx_ret (q_iretE hx hb hr hlocks hw dL_run_13 ⟨by rw [hk], Or.inr ⟨hc0, p9, l9, x9, y9, ob1, ob2, rfl⟩⟩)
  · obtain ⟨rfl, q9, p9, l9, x9, y9, ob1, ob2, rfl⟩ := hp9
    refine lv_i2l hx hb dL_run_6 rfl ?_
    refine va_last hx hb hJ hw.1 hw.2.1 hw.2.2 18 0 rfl rfl (i := nI 0) (vp_in_nI (by decide) (by decide)) dL_run_7 (fun H locs hP hD hS => ?_)
    rw [nI_clamp (show 0 < 2 ^ 31 by decide)] at hP hD
    refine lv_goto (tgt := 14) hx hb dL_run_8 (by decide) ?_
    refine lv_iconst (v := nI 0) hx hb dL_run_14 rfl ?_
    exact vx_ret (q_iretE (w := _) hx hb hr hlocks ⟨hP, hD, hS⟩ dL_run_15 ⟨by rw [hc0], Or.inl ⟨hc0, q9, p9, l9, x9, y9, ob1, ob2, rfl⟩⟩)
set_option maxHeartbeats 1000000 in
set_option maxRecDepth 100000 in
theorem c_L_undo {l : Launch} (hst : l.stackTraces = false) (D : va_G) (cy cJ : ClassId) (A : Nat → Prop) (a : Nat → Nat) (σ kept : Nat → Int32) (nxt cnt : Nat) (T : Nat → Int32) (len pos : Nat) (ph le nu va : Int32) (Z : va_W) (o : Nat) (out : Nat → Int64) (h_0 : nxt < 6) (h_1 : cnt ≤ 6) : vx_Met l yL_undo wsL_undo ({ frames := 7, cells := 1, slots := 6, locals := 102 } : Room) (gW D cy cJ [.ref (a 0), .ref o] A (wX cy a σ kept nxt cnt T len pos ph le nu va ++ ((o, .inl (cJ, 1, .inr (.inl out))) :: Z))) (gE D A (fun v9 w9 => v9 = some (.int (nI (cUn cnt))) ∧ ((cUn cnt = 0 ∧ w9 = (wX cy a (cpF σ kept ((nxt + 6 - 1) % 6 * 86) 86) kept ((nxt + 6 - 1) % 6) (cnt - 1) T len pos ph le nu va ++ ((o, .inl (cJ, 1, .inr (.inl (vp_updL out 0 (nI (cnt - 1)).toInt64)))) :: Z))) ∨ (cUn cnt ≠ 0 ∧ w9 = (wX cy a σ kept nxt cnt T len pos ph le nu va ++ ((o, .inl (cJ, 1, .inr (.inl out))) :: Z)))))) (fun _ _ _ => False) 1 6 A := by
  refine q_wmp (cc := cL_undo) (maxL := 3) (ret := some .int) (hh := [(0, 8, 11, 15)]) pl_L rfl (Nat.le_of_ble_eq_true rfl) ?_
  intro p e s m below meth c ls hx hb hr hml hts hown hlocks hw hK hA hl hexc hN hJ hC
  have hl : lv_has ls 3 [(0, .ref (a 0)), (1, .ref o)] := hl
  refine lv_aload_n hx hb dL_undo_0 rfl (lv_at hl 1 rfl) ?_
  refine lv_iconst (v := nI 0) hx hb dL_undo_1 rfl ?_
  refine lv_aload_n hx hb dL_undo_2 rfl (lv_at hl 0 rfl) ?_
  refine q_xV (As := []) (rest := [.int (nI 0), .ref o]) ⟨hx, hb, hml, hown, hts⟩ (c_X6_undo hst D cy A a σ kept nxt cnt T len pos ph le nu va ((o, .inl (cJ, 1, .inr (.inl out))) :: Z)   h_0 h_1) (cwV 0 hts gL_undo_X6_undo rfl rfl rfl hd_X6_undo ⟨Nat.le_of_ble_eq_true rfl, Nat.le_of_ble_eq_true rfl⟩) hK hA hN hw 0 rfl rfl rfl hl.1 rfl rfl (Nat.le_of_ble_eq_true rfl) ⟨Nat.le_refl _, Nat.le_refl _⟩ dL_undo_3 (fun H locs q9 ce hc0 hw hce hcv hcl => ?_) (fun H locs hc0 hw => ?_)
  · skip
    have hle : cUn cnt ≤ 1 := cUn_le _
    have hk : cUn cnt = 1 := by omega
    have hcl : s.vm.findClass eS = some ce.cls := by first | (rw [hk] at hcl; exact hcl) | exact hcl
    refine vx_catch (own := RL) (name := eS) hown [] ⟨0, 8, 11, 15⟩ [] (by rw [hexc]; rfl) (fun z hz => absurd hz List.not_mem_nil) (by decide) (by decide) (hts (.classLink RL 15 "java/lang/IllegalStateException") (List.mem_of_getElem? (i := 1) rfl)) (va_Nw.use rfl (hN.2.2.1 (.castable eS eS) (by decide))) hce hcv hcl ?_
    refine lv_astore_n (lv' := [(2, .ref q9), (0, .ref (a 0)), (1, .ref o)]) hx hb dL_undo_11 rfl hl (by decide) rfl (fun ls hl => ?_)
    refine lv_iconst (v := nI 1) hx hb dL_undo_12 rfl ?_
    exact vx_ret (q_iretE hx hb hr hlocks hw dL_undo_13 ⟨by rw [hk], Or.inr ⟨hc0, rfl⟩⟩)
  · skip
    refine lv_i2l hx hb dL_undo_6 rfl ?_
    refine va_last hx hb hJ hw.1 hw.2.1 hw.2.2 18 0 rfl rfl (i := nI 0) (vp_in_nI (by decide) (by decide)) dL_undo_7 (fun H locs hP hD hS => ?_)
    rw [nI_clamp (show 0 < 2 ^ 31 by decide)] at hP hD
    refine lv_goto (tgt := 14) hx hb dL_undo_8 (by decide) ?_
    refine lv_iconst (v := nI 0) hx hb dL_undo_14 rfl ?_
    exact vx_ret (q_iretE (w := _) hx hb hr hlocks ⟨hP, hD, hS⟩ dL_undo_15 ⟨by rw [hc0], Or.inl ⟨hc0, rfl⟩⟩)
