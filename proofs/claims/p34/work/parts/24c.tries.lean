/-! The law's own calls of what may throw: -7002 if the state forbids it. -/
theorem ix_N {x : Nat} (h : x < 70000) : ix (nI x) = x := nI_clamp (by omega)
/-- reading an address -/
def rS (σ : Nat → Int32) (q : Nat) : Nat → Int32 := if th σ (ad q) = true then rdS σ (ad q) else f2S σ (ad q)
theorem sRd_N {σ : Nat → Int32} {q : Nat} (h : q < 42) : sRd σ (nI q) = rS σ q := by
  unfold sRd rS
  rw [ix_N (by omega)]
theorem cRd_N {σ : Nat → Int32} {q : Nat} (h : q < 42) : (lo σ (ad q) = false ∧ cRd σ (nI q) = 0) ∨ (lo σ (ad q) = true ∧ cRd σ (nI q) = 2) := by
  unfold cRd
  rw [ix_N (by omega), if_pos (inR_N h (by decide))]
  cases lo σ (ad q)
  · exact Or.inl ⟨rfl, if_neg (by decide)⟩
  · exact Or.inr ⟨rfl, if_pos rfl⟩
theorem cWr_N {σ : Nat → Int32} {q v : Nat} (h : q < 42) (hv : v < 65536) : (canW σ q = true ∧ cWr σ (nI q) (nI v) = 0) ∨ (canW σ q = false ∧ cWr σ (nI q) (nI v) = 3) := by
  unfold cWr
  rw [ix_N (by omega), if_pos (inR_N h (by decide)), if_pos (inR_N hv (by decide))]
  cases canW σ q
  · exact Or.inr ⟨rfl, if_neg (by decide)⟩
  · exact Or.inl ⟨rfl, if_pos rfl⟩
theorem cFl_N {σ : Nat → Int32} {d : Nat} (h : d < 7) : (¬ σ (63 + d) = -1 ∧ cFl σ (nI d) = 0) ∨ (σ (63 + d) = -1 ∧ cFl σ (nI d) = 2) := by
  unfold cFl
  rw [ix_N (by omega), if_pos (inR_N h (by decide))]
  by_cases q : σ (63 + d) = -1
  · exact Or.inr ⟨q, if_pos q⟩
  · exact Or.inl ⟨q, if_neg q⟩
theorem cBg_N {σ : Nat → Int32} {d : Nat} (h : d < 7) : ((σ (63 + d) = -1 ∧ ¬ σ 84 = 0) ∧ cBg σ (nI d) = 0) ∨ ((¬ σ (63 + d) = -1 ∨ σ 84 = 0) ∧ cBg σ (nI d) = 2) := by
  unfold cBg
  rw [ix_N (by omega), if_pos (inR_N h (by decide))]
  by_cases q : ¬ σ (63 + d) = -1 ∨ σ 84 = 0
  · exact Or.inr ⟨q, if_pos q⟩
  · exact Or.inl ⟨⟨Decidable.byContradiction fun z => q (Or.inl z), fun z => q (Or.inr z)⟩, if_neg q⟩
theorem cCo_N {σ : Nat → Int32} {d p v : Nat} (h : d < 7) (hp : p < 9) (hv : v < 65536) : (th σ (9 * d + p) = true ∧ cCo σ (nI d) (nI p) (nI v) = 0) ∨ (th σ (9 * d + p) = false ∧ cCo σ (nI d) (nI p) (nI v) = 3) := by
  unfold cCo
  rw [ix_N (show d < 70000 by omega), ix_N (show p < 70000 by omega), if_pos (by rw [inR_N h (by decide), inR_N hp (by decide)]; rfl), if_pos (inR_N hv (by decide))]
  cases th σ (9 * d + p)
  · exact Or.inr ⟨rfl, if_neg (by decide)⟩
  · exact Or.inl ⟨rfl, if_pos rfl⟩
set_option maxHeartbeats 1000000 in
set_option maxRecDepth 100000 in
theorem c_L_tryRead {l : Launch} (hst : l.stackTraces = false) (D : va_G) (cy : ClassId) (A : Nat → Prop) (a : Nat → Nat) (σ kept : Nat → Int32) (nxt cnt : Nat) (T : Nat → Int32) (len pos : Nat) (ph le nu va : Int32) (Z : va_W) (h_n : nxt < 6) (h_c : cnt ≤ 6) (q : Nat) (h_q : q < 42) : vx_Met l yL_tryRead wsL_tryRead ({ frames := 7, cells := 1, slots := 6, locals := 110 } : Room) (gY D cy [.ref (a 0), .int (nI q)] A (wX cy a σ kept nxt cnt T len pos ph le nu va ++ Z)) (gE D A (fun v9 w9 => (lo σ (ad q) = false ∧ v9 = some (.int (kn σ (ad q))) ∧ w9 = (wX cy a (rS σ q) (cpK kept σ (nxt * 86) 86) ((nxt + 1) % 6) (min (cnt + 1) 6) T len pos ph le nu va ++ Z)) ∨ (lo σ (ad q) = true ∧ v9 = some (.int (-7002)) ∧ w9 = (wX cy a σ kept nxt cnt T len pos ph le nu va ++ Z)))) (fun _ _ _ => False) 1 6 A := by
  refine q_ymp (cc := cL_tryRead) (maxL := 3) (ret := some .int) (hh := [(0, 5, 6, 16), (0, 5, 11, 18)]) pl_L rfl (Nat.le_of_ble_eq_true rfl) ?_
  intro p_ e_ s m below meth c ls hx hb hr hml hts hown hlocks hw hK hA hl hexc hN hC
  have hl : lv_has ls 3 [(0, .ref (a 0)), (1, .int (nI q))] := hl
  have e_code := @cRd_N σ q h_q
  refine lv_aload_n hx hb dL_tryRead_0 rfl (lv_at hl 0 rfl) ?_
  refine lv_iload_n hx hb dL_tryRead_1 rfl (lv_at hl 1 rfl) ?_
  refine q_xV (As := [.int (nI q)]) (rest := []) (st1 := [.int (kn σ (ad (ix (nI q))))]) ⟨hx, hb, hml, hown, hts⟩ (c_X6_read hst D cy A a σ kept nxt cnt T len pos ph le nu va Z (nI q) h_n h_c) (cwV 1 hts gL_tryRead_X6_read rfl rfl rfl hd_X6_read ⟨Nat.le_of_ble_eq_true rfl, Nat.le_of_ble_eq_true rfl⟩) hK hA hN hw 0 rfl rfl rfl hl.1 rfl rfl (Nat.le_of_ble_eq_true rfl) ⟨Nat.le_refl _, Nat.le_refl _⟩ dL_tryRead_2 (fun H locs q9 ce hc0 hw hce hcv hcl => ?_) (fun H locs hc0 hw => ?_)
  · rcases e_code with ⟨h_ok, e_code⟩ | ⟨h_ok, e_code⟩
    · exact absurd e_code hc0
    have hcl : s.vm.findClass eS = some ce.cls := by rw [e_code] at hcl; exact hcl
    refine vx_catch (own := RL) (name := eS) hown [⟨0, 5, 6, 16⟩] ⟨0, 5, 11, 18⟩ [] (by rw [hexc]; rfl) (List.forall_mem_cons.mpr ⟨Or.inr ⟨by decide, eI, hts (.classLink RL 16 "java/lang/IndexOutOfBoundsException") (List.mem_of_getElem? (i := 1) rfl), hC.1⟩, fun z hz => absurd hz List.not_mem_nil⟩) (by decide) (by decide) (hts (.classLink RL 18 "java/lang/IllegalStateException") (List.mem_of_getElem? (i := 2) rfl)) (va_Nw.use rfl (hN.2.2.1 (.castable eS eS) (by decide))) hce hcv hcl ?_
    refine lv_astore_n (lv' := [(2, .ref q9), (0, .ref (a 0)), (1, .int (nI q))]) hx hb dL_tryRead_11 rfl hl (by decide) rfl (fun ls hl => ?_)
    refine lv_sipush (v := -7002) hx hb dL_tryRead_12 rfl ?_
    exact vx_ret (q_iretE hx hb hr hlocks hw dL_tryRead_15 (Or.inr ⟨h_ok, rfl, rfl⟩))
  · rcases e_code with ⟨h_ok, e_code⟩ | ⟨h_ok, e_code⟩
    · exact vx_ret (q_iretE hx hb hr hlocks hw dL_tryRead_5 (Or.inl ⟨h_ok, by rw [ix_N (show q < 70000 by omega)], by rw [sRd_N h_q]⟩))
    · rw [e_code] at hc0
      exact absurd hc0 (by decide)
set_option maxHeartbeats 1000000 in
set_option maxRecDepth 100000 in
theorem c_L_tryWrite {l : Launch} (hst : l.stackTraces = false) (D : va_G) (cy : ClassId) (A : Nat → Prop) (a : Nat → Nat) (σ kept : Nat → Int32) (nxt cnt : Nat) (T : Nat → Int32) (len pos : Nat) (ph le nu va : Int32) (Z : va_W) (h_n : nxt < 6) (h_c : cnt ≤ 6) (q v : Nat) (h_q : q < 42) (h_v : v < 65536) : vx_Met l yL_tryWrite wsL_tryWrite ({ frames := 7, cells := 1, slots := 6, locals := 131 } : Room) (gY D cy [.ref (a 0), .int (nI q), .int (nI v)] A (wX cy a σ kept nxt cnt T len pos ph le nu va ++ Z)) (gE D A (fun v9 w9 => (canW σ q = true ∧ v9 = some (.int (nI (wC σ q))) ∧ w9 = (wX cy a (wD σ q (nI v)) (cpK kept σ (nxt * 86) 86) ((nxt + 1) % 6) (min (cnt + 1) 6) T len pos ph le nu va ++ Z)) ∨ (canW σ q = false ∧ v9 = some (.int (-7002)) ∧ w9 = (wX cy a σ kept nxt cnt T len pos ph le nu va ++ Z)))) (fun _ _ _ => False) 1 6 A := by
  refine q_ymp (cc := cL_tryWrite) (maxL := 4) (ret := some .int) (hh := [(0, 6, 7, 16), (0, 6, 12, 24), (0, 6, 17, 18)]) pl_L rfl (Nat.le_of_ble_eq_true rfl) ?_
  intro p_ e_ s m below meth c ls hx hb hr hml hts hown hlocks hw hK hA hl hexc hN hC
  have hl : lv_has ls 4 [(0, .ref (a 0)), (1, .int (nI q)), (2, .int (nI v))] := hl
  have e_code := @cWr_N σ q v h_q h_v
  refine lv_aload_n hx hb dL_tryWrite_0 rfl (lv_at hl 0 rfl) ?_
  refine lv_iload_n hx hb dL_tryWrite_1 rfl (lv_at hl 1 rfl) ?_
  refine lv_iload_n hx hb dL_tryWrite_2 rfl (lv_at hl 2 rfl) ?_
  refine q_xV (As := [.int (nI q), .int (nI v)]) (rest := []) (st1 := [.int (nI (wC σ (ix (nI q))))]) ⟨hx, hb, hml, hown, hts⟩ (c_X6_write hst D cy A a σ kept nxt cnt T len pos ph le nu va Z (nI q) (nI v) h_n h_c) (cwV 2 hts gL_tryWrite_X6_write rfl rfl rfl hd_X6_write ⟨Nat.le_of_ble_eq_true rfl, Nat.le_of_ble_eq_true rfl⟩) hK hA hN hw 0 rfl rfl rfl hl.1 rfl rfl (Nat.le_of_ble_eq_true rfl) ⟨Nat.le_refl _, Nat.le_refl _⟩ dL_tryWrite_3 (fun H locs q9 ce hc0 hw hce hcv hcl => ?_) (fun H locs hc0 hw => ?_)
  · rcases e_code with ⟨h_ok, e_code⟩ | ⟨h_ok, e_code⟩
    · exact absurd e_code hc0
    have hcl : s.vm.findClass eS = some ce.cls := by rw [e_code] at hcl; exact hcl
    refine vx_catch (own := RL) (name := eS) hown [⟨0, 6, 7, 16⟩, ⟨0, 6, 12, 24⟩] ⟨0, 6, 17, 18⟩ [] (by rw [hexc]; rfl) (List.forall_mem_cons.mpr ⟨Or.inr ⟨by decide, eI, hts (.classLink RL 16 "java/lang/IndexOutOfBoundsException") (List.mem_of_getElem? (i := 1) rfl), hC.1⟩, List.forall_mem_cons.mpr ⟨Or.inr ⟨by decide, eA, hts (.classLink RL 24 "java/lang/IllegalArgumentException") (List.mem_of_getElem? (i := 2) rfl), hC.2.2⟩, fun z hz => absurd hz List.not_mem_nil⟩⟩) (by decide) (by decide) (hts (.classLink RL 18 "java/lang/IllegalStateException") (List.mem_of_getElem? (i := 3) rfl)) (va_Nw.use rfl (hN.2.2.1 (.castable eS eS) (by decide))) hce hcv hcl ?_
    refine lv_astore_n (lv' := [(3, .ref q9), (0, .ref (a 0)), (1, .int (nI q)), (2, .int (nI v))]) hx hb dL_tryWrite_17 rfl hl (by decide) rfl (fun ls hl => ?_)
    refine lv_sipush (v := -7002) hx hb dL_tryWrite_18 rfl ?_
    exact vx_ret (q_iretE hx hb hr hlocks hw dL_tryWrite_21 (Or.inr ⟨h_ok, rfl, rfl⟩))
  · rcases e_code with ⟨h_ok, e_code⟩ | ⟨h_ok, e_code⟩
    · exact vx_ret (q_iretE hx hb hr hlocks hw dL_tryWrite_6 (Or.inl ⟨h_ok, by rw [ix_N (show q < 70000 by omega)], by rw [ix_N (show q < 70000 by omega)]⟩))
    · rw [e_code] at hc0
      exact absurd hc0 (by decide)
set_option maxHeartbeats 1000000 in
set_option maxRecDepth 100000 in
theorem c_L_tryFail {l : Launch} (hst : l.stackTraces = false) (D : va_G) (cy : ClassId) (A : Nat → Prop) (a : Nat → Nat) (σ kept : Nat → Int32) (nxt cnt : Nat) (T : Nat → Int32) (len pos : Nat) (ph le nu va : Int32) (Z : va_W) (h_n : nxt < 6) (h_c : cnt ≤ 6) (d : Nat) (h_d : d < 7) : vx_Met l yL_tryFail wsL_tryFail ({ frames := 7, cells := 1, slots := 6, locals := 132 } : Room) (gY D cy [.ref (a 0), .int (nI d)] A (wX cy a σ kept nxt cnt T len pos ph le nu va ++ Z)) (gE D A (fun v9 w9 => (¬ σ (63 + d) = -1 ∧ v9 = some (.int (nI (cl (failS σ d)))) ∧ w9 = (wX cy a (failS σ d) (cpK kept σ (nxt * 86) 86) ((nxt + 1) % 6) (min (cnt + 1) 6) T len pos ph le nu va ++ Z)) ∨ (σ (63 + d) = -1 ∧ v9 = some (.int (-7002)) ∧ w9 = (wX cy a σ kept nxt cnt T len pos ph le nu va ++ Z)))) (fun _ _ _ => False) 1 6 A := by
  refine q_ymp (cc := cL_tryFail) (maxL := 3) (ret := some .int) (hh := [(0, 5, 6, 16), (0, 5, 11, 18)]) pl_L rfl (Nat.le_of_ble_eq_true rfl) ?_
  intro p_ e_ s m below meth c ls hx hb hr hml hts hown hlocks hw hK hA hl hexc hN hC
  have hl : lv_has ls 3 [(0, .ref (a 0)), (1, .int (nI d))] := hl
  have e_code := @cFl_N σ d h_d
  refine lv_aload_n hx hb dL_tryFail_0 rfl (lv_at hl 0 rfl) ?_
  refine lv_iload_n hx hb dL_tryFail_1 rfl (lv_at hl 1 rfl) ?_
  refine q_xV (As := [.int (nI d)]) (rest := []) (st1 := [.int (nI (cl (failS σ (ix (nI d)))))]) ⟨hx, hb, hml, hown, hts⟩ (c_X6_fail hst D cy A a σ kept nxt cnt T len pos ph le nu va Z (nI d) h_n h_c) (cwV 1 hts gL_tryFail_X6_fail rfl rfl rfl hd_X6_fail ⟨Nat.le_of_ble_eq_true rfl, Nat.le_of_ble_eq_true rfl⟩) hK hA hN hw 0 rfl rfl rfl hl.1 rfl rfl (Nat.le_of_ble_eq_true rfl) ⟨Nat.le_refl _, Nat.le_refl _⟩ dL_tryFail_2 (fun H locs q9 ce hc0 hw hce hcv hcl => ?_) (fun H locs hc0 hw => ?_)
  · rcases e_code with ⟨h_ok, e_code⟩ | ⟨h_ok, e_code⟩
    · exact absurd e_code hc0
    have hcl : s.vm.findClass eS = some ce.cls := by rw [e_code] at hcl; exact hcl
    refine vx_catch (own := RL) (name := eS) hown [⟨0, 5, 6, 16⟩] ⟨0, 5, 11, 18⟩ [] (by rw [hexc]; rfl) (List.forall_mem_cons.mpr ⟨Or.inr ⟨by decide, eI, hts (.classLink RL 16 "java/lang/IndexOutOfBoundsException") (List.mem_of_getElem? (i := 1) rfl), hC.1⟩, fun z hz => absurd hz List.not_mem_nil⟩) (by decide) (by decide) (hts (.classLink RL 18 "java/lang/IllegalStateException") (List.mem_of_getElem? (i := 2) rfl)) (va_Nw.use rfl (hN.2.2.1 (.castable eS eS) (by decide))) hce hcv hcl ?_
    refine lv_astore_n (lv' := [(2, .ref q9), (0, .ref (a 0)), (1, .int (nI d))]) hx hb dL_tryFail_11 rfl hl (by decide) rfl (fun ls hl => ?_)
    refine lv_sipush (v := -7002) hx hb dL_tryFail_12 rfl ?_
    exact vx_ret (q_iretE hx hb hr hlocks hw dL_tryFail_15 (Or.inr ⟨h_ok, rfl, rfl⟩))
  · rcases e_code with ⟨h_ok, e_code⟩ | ⟨h_ok, e_code⟩
    · exact vx_ret (q_iretE hx hb hr hlocks hw dL_tryFail_5 (Or.inl ⟨h_ok, by rw [ix_N (show d < 70000 by omega)], by rw [ix_N (show d < 70000 by omega)]⟩))
    · rw [e_code] at hc0
      exact absurd hc0 (by decide)
set_option maxHeartbeats 1000000 in
set_option maxRecDepth 100000 in
theorem c_L_tryBegin {l : Launch} (hst : l.stackTraces = false) (D : va_G) (cy : ClassId) (A : Nat → Prop) (a : Nat → Nat) (σ kept : Nat → Int32) (nxt cnt : Nat) (T : Nat → Int32) (len pos : Nat) (ph le nu va : Int32) (Z : va_W) (h_n : nxt < 6) (h_c : cnt ≤ 6) (h_V : Val σ) (d : Nat) (h_d : d < 7) : vx_Met l yL_tryBegin wsL_tryBegin ({ frames := 7, cells := 1, slots := 6, locals := 103 } : Room) (gY D cy [.ref (a 0), .int (nI d)] A (wX cy a σ kept nxt cnt T len pos ph le nu va ++ Z)) (gE D A (fun v9 w9 => ((σ (63 + d) = -1 ∧ ¬ σ 84 = 0) ∧ v9 = some (.int (begS σ d 84)) ∧ w9 = (wX cy a (begS σ d) (cpK kept σ (nxt * 86) 86) ((nxt + 1) % 6) (min (cnt + 1) 6) T len pos ph le nu va ++ Z)) ∨ ((¬ σ (63 + d) = -1 ∨ σ 84 = 0) ∧ v9 = some (.int (-7002)) ∧ w9 = (wX cy a σ kept nxt cnt T len pos ph le nu va ++ Z)))) (fun _ _ _ => False) 1 6 A := by
  refine q_ymp (cc := cL_tryBegin) (maxL := 3) (ret := some .int) (hh := [(0, 5, 6, 16), (0, 5, 11, 18)]) pl_L rfl (Nat.le_of_ble_eq_true rfl) ?_
  intro p_ e_ s m below meth c ls hx hb hr hml hts hown hlocks hw hK hA hl hexc hN hC
  have hl : lv_has ls 3 [(0, .ref (a 0)), (1, .int (nI d))] := hl
  have e_code := @cBg_N σ d h_d
  refine lv_aload_n hx hb dL_tryBegin_0 rfl (lv_at hl 0 rfl) ?_
  refine lv_iload_n hx hb dL_tryBegin_1 rfl (lv_at hl 1 rfl) ?_
  refine q_xV (As := [.int (nI d)]) (rest := []) (st1 := [.int (begS σ (ix (nI d)) 84)]) ⟨hx, hb, hml, hown, hts⟩ (c_X6_beginMending hst D cy A a σ kept nxt cnt T len pos ph le nu va Z (nI d) h_V h_n h_c) (cwV 1 hts gL_tryBegin_X6_beginMending rfl rfl rfl hd_X6_beginMending ⟨Nat.le_of_ble_eq_true rfl, Nat.le_of_ble_eq_true rfl⟩) hK hA hN hw 0 rfl rfl rfl hl.1 rfl rfl (Nat.le_of_ble_eq_true rfl) ⟨Nat.le_refl _, Nat.le_refl _⟩ dL_tryBegin_2 (fun H locs q9 ce hc0 hw hce hcv hcl => ?_) (fun H locs hc0 hw => ?_)
  · rcases e_code with ⟨h_ok, e_code⟩ | ⟨h_ok, e_code⟩
    · exact absurd e_code hc0
    have hcl : s.vm.findClass eS = some ce.cls := by rw [e_code] at hcl; exact hcl
    refine vx_catch (own := RL) (name := eS) hown [⟨0, 5, 6, 16⟩] ⟨0, 5, 11, 18⟩ [] (by rw [hexc]; rfl) (List.forall_mem_cons.mpr ⟨Or.inr ⟨by decide, eI, hts (.classLink RL 16 "java/lang/IndexOutOfBoundsException") (List.mem_of_getElem? (i := 1) rfl), hC.1⟩, fun z hz => absurd hz List.not_mem_nil⟩) (by decide) (by decide) (hts (.classLink RL 18 "java/lang/IllegalStateException") (List.mem_of_getElem? (i := 2) rfl)) (va_Nw.use rfl (hN.2.2.1 (.castable eS eS) (by decide))) hce hcv hcl ?_
    refine lv_astore_n (lv' := [(2, .ref q9), (0, .ref (a 0)), (1, .int (nI d))]) hx hb dL_tryBegin_11 rfl hl (by decide) rfl (fun ls hl => ?_)
    refine lv_sipush (v := -7002) hx hb dL_tryBegin_12 rfl ?_
    exact vx_ret (q_iretE hx hb hr hlocks hw dL_tryBegin_15 (Or.inr ⟨h_ok, rfl, rfl⟩))
  · rcases e_code with ⟨h_ok, e_code⟩ | ⟨h_ok, e_code⟩
    · exact vx_ret (q_iretE hx hb hr hlocks hw dL_tryBegin_5 (Or.inl ⟨h_ok, by rw [ix_N (show d < 70000 by omega)], by rw [ix_N (show d < 70000 by omega)]⟩))
    · rw [e_code] at hc0
      exact absurd hc0 (by decide)
set_option maxHeartbeats 1000000 in
set_option maxRecDepth 100000 in
theorem c_L_tryCorrupt {l : Launch} (hst : l.stackTraces = false) (D : va_G) (cy : ClassId) (A : Nat → Prop) (a : Nat → Nat) (σ kept : Nat → Int32) (nxt cnt : Nat) (T : Nat → Int32) (len pos : Nat) (ph le nu va : Int32) (Z : va_W) (h_n : nxt < 6) (h_c : cnt ≤ 6) (d p v : Nat) (h_d : d < 7) (h_p : p < 9) (h_v : v < 65536) : vx_Met l yL_tryCorrupt wsL_tryCorrupt ({ frames := 7, cells := 1, slots := 6, locals := 107 } : Room) (gY D cy [.ref (a 0), .int (nI d), .int (nI p), .int (nI v)] A (wX cy a σ kept nxt cnt T len pos ph le nu va ++ Z)) (gE D A (fun v9 w9 => (th σ (9 * d + p) = true ∧ v9 = some (.int (σ (9 * d + p))) ∧ w9 = (wX cy a (upd σ (9 * d + p) (nI v)) (cpK kept σ (nxt * 86) 86) ((nxt + 1) % 6) (min (cnt + 1) 6) T len pos ph le nu va ++ Z)) ∨ (th σ (9 * d + p) = false ∧ v9 = some (.int (-7002)) ∧ w9 = (wX cy a σ kept nxt cnt T len pos ph le nu va ++ Z)))) (fun _ _ _ => False) 1 6 A := by
  refine q_ymp (cc := cL_tryCorrupt) (maxL := 5) (ret := some .int) (hh := [(0, 7, 8, 16), (0, 7, 14, 24), (0, 7, 20, 18)]) pl_L rfl (Nat.le_of_ble_eq_true rfl) ?_
  intro p_ e_ s m below meth c ls hx hb hr hml hts hown hlocks hw hK hA hl hexc hN hC
  have hl : lv_has ls 5 [(0, .ref (a 0)), (1, .int (nI d)), (2, .int (nI p)), (3, .int (nI v))] := hl
  have e_code := @cCo_N σ d p v h_d h_p h_v
  refine lv_aload_n hx hb dL_tryCorrupt_0 rfl (lv_at hl 0 rfl) ?_
  refine lv_iload_n hx hb dL_tryCorrupt_1 rfl (lv_at hl 1 rfl) ?_
  refine lv_iload_n hx hb dL_tryCorrupt_2 rfl (lv_at hl 2 rfl) ?_
  refine lv_iload_n hx hb dL_tryCorrupt_3 rfl (lv_at hl 3 rfl) ?_
  refine q_xV (As := [.int (nI d), .int (nI p), .int (nI v)]) (rest := []) (st1 := [.int (σ (9 * ix (nI d) + ix (nI p)))]) ⟨hx, hb, hml, hown, hts⟩ (c_X6_corrupt hst D cy A a σ kept nxt cnt T len pos ph le nu va Z (nI d) (nI p) (nI v) h_n h_c) (cwV 3 hts gL_tryCorrupt_X6_corrupt rfl rfl rfl hd_X6_corrupt ⟨Nat.le_of_ble_eq_true rfl, Nat.le_of_ble_eq_true rfl⟩) hK hA hN hw 0 rfl rfl rfl hl.1 rfl rfl (Nat.le_of_ble_eq_true rfl) ⟨Nat.le_refl _, Nat.le_refl _⟩ dL_tryCorrupt_4 (fun H locs q9 ce hc0 hw hce hcv hcl => ?_) (fun H locs hc0 hw => ?_)
  · rcases e_code with ⟨h_ok, e_code⟩ | ⟨h_ok, e_code⟩
    · exact absurd e_code hc0
    have hcl : s.vm.findClass eS = some ce.cls := by rw [e_code] at hcl; exact hcl
    refine vx_catch (own := RL) (name := eS) hown [⟨0, 7, 8, 16⟩, ⟨0, 7, 14, 24⟩] ⟨0, 7, 20, 18⟩ [] (by rw [hexc]; rfl) (List.forall_mem_cons.mpr ⟨Or.inr ⟨by decide, eI, hts (.classLink RL 16 "java/lang/IndexOutOfBoundsException") (List.mem_of_getElem? (i := 1) rfl), hC.1⟩, List.forall_mem_cons.mpr ⟨Or.inr ⟨by decide, eA, hts (.classLink RL 24 "java/lang/IllegalArgumentException") (List.mem_of_getElem? (i := 2) rfl), hC.2.2⟩, fun z hz => absurd hz List.not_mem_nil⟩⟩) (by decide) (by decide) (hts (.classLink RL 18 "java/lang/IllegalStateException") (List.mem_of_getElem? (i := 3) rfl)) (va_Nw.use rfl (hN.2.2.1 (.castable eS eS) (by decide))) hce hcv hcl ?_
    refine lv_astore (lv' := [(4, .ref q9), (0, .ref (a 0)), (1, .int (nI d)), (2, .int (nI p)), (3, .int (nI v))]) hx hb dL_tryCorrupt_20 hl (by decide) rfl (fun ls hl => ?_)
    refine lv_sipush (v := -7002) hx hb dL_tryCorrupt_22 rfl ?_
    exact vx_ret (q_iretE hx hb hr hlocks hw dL_tryCorrupt_25 (Or.inr ⟨h_ok, rfl, rfl⟩))
  · rcases e_code with ⟨h_ok, e_code⟩ | ⟨h_ok, e_code⟩
    · exact vx_ret (q_iretE hx hb hr hlocks hw dL_tryCorrupt_7 (Or.inl ⟨h_ok, by rw [ix_N (show d < 70000 by omega), ix_N (show p < 70000 by omega)], by rw [ix_N (show d < 70000 by omega), ix_N (show p < 70000 by omega)]⟩))
    · rw [e_code] at hc0
      exact absurd hc0 (by decide)
