/-- the state at the start -/
def iniS : Nat → Int32 := fun k => if 63 ≤ k ∧ k < 70 then 9 else if k = 84 then 2 else 0
def inS (i : Nat) : Nat → Int32 := fun k => if 63 ≤ k ∧ k < 63 + i then 9 else 0
theorem inS_0 : (fun _ => (0 : Int32)) = inS 0 := by
  funext k
  unfold inS
  rw [if_neg (by omega)]
theorem inS_s (i : Nat) : upd (inS i) (63 + i) 9 = inS (i + 1) := by
  funext k
  by_cases h : k = 63 + i
  · rw [h, upd_eq]; unfold inS; rw [if_pos (by omega)]
  · rw [upd_ne h]; unfold inS
    have e : (63 ≤ k ∧ k < 63 + (i + 1)) ↔ (63 ≤ k ∧ k < 63 + i) := by omega
    simp only [e]
theorem inS_e : upd (inS 7) 84 2 = iniS := by
  funext k
  by_cases h : k = 84
  · rw [h, upd_eq]; rfl
  · rw [upd_ne h]; unfold inS iniS
    rw [if_neg h]
theorem Val_ini : Val iniS := by
  refine ⟨fun k hk => ⟨0, by omega, ?_⟩, fun d hd => Or.inr ⟨9, by omega, ?_⟩, 2, by omega, rfl⟩
  · unfold iniS; rw [if_neg (by omega), if_neg (by omega)]; rfl
  · unfold iniS; rw [if_pos (by omega)]; rfl
set_option maxHeartbeats 1000000 in
set_option maxRecDepth 100000 in
theorem c_X5_init {l : Launch} (D : va_G) (cy : ClassId) (A : Nat → Prop) (b : Nat) (Z : va_W) : Met l yX5_init wsX5_init ({ frames := 2, cells := 2, slots := 87, locals := 42 } : Room) (gP D cy [.ref (b)] A ((b, .inr (5, [.null])) :: Z)) (gE D A (fun v9 w9 => v9 = none ∧ ∃ (r t : Nat), w9 = ((r, .inr (4, [.ref (t)])) :: (t, .inl (cy, 86, .inl iniS)) :: (b, .inr (5, [.ref (r)])) :: Z))) 2 87 A := by
  refine q_ini (cc := cX5_init) (maxL := 2) (ret := none) pl_X5 rfl rfl (Nat.le_of_ble_eq_true rfl) ?_
  intro p e s m below meth c ls hx hb hr hml hts hown hlocks hw hK hA hl hin
  have hP := hw.1
  have hl : lv_has ls 2 [(0, .ref (b))] := hl
  refine lv_aload_n hx hb dX5_init_0 rfl (lv_at hl 0 rfl) ?_
  refine W.objInit hx hb hown (hts (.methodLink RX5 7 objectInit) (List.mem_of_getElem? (i := 1) rfl)) (hts (.instanceMethod objectInit) (List.mem_of_getElem? (i := 2) rfl)) (hts (.code objectInit ⟨#[0xb1]⟩ 1 none) (List.mem_of_getElem? (i := 3) rfl)) rfl (by rw [hml]; exact hl.1) rfl dX5_init_1 (Nat.le_of_ble_eq_true rfl) (Nat.le_of_ble_eq_true rfl) ?_
  refine W.eq (g2 := F0 m 4 ls []) rfl ?_
  refine lv_aload_n hx hb dX5_init_4 rfl (lv_at hl 0 rfl) ?_
  refine va_new (ci := 4) (fs := [.null]) (C := RX4) (T := TX4) (N := 1) hx hb hts (fun _ h => List.mem_cons_of_mem _ (List.mem_append_left _ (List.mem_append_right _ h))) tyX4 tyX4_ok hown (hts (.classLink RX5 13 RX4) (List.mem_of_getElem? (i := 4) rfl)) (hts (.instantiable RX4 1) (List.mem_of_getElem? (i := 5) rfl)) (hts (.initialized RX4) (List.mem_of_getElem? (i := 6) rfl)) hK hw.1 hw.2.1 hw.2.2 hA rfl (fun j hj => by rcases (show j = 0 by omega) with rfl <;> rfl) (Nat.le_of_ble_eq_true rfl) (Nat.le_of_ble_eq_true rfl) dX5_init_5 (fun q5 H hP hD hS => ?_)
  have hw := wS_rot (show wS D A (((b, .inr (5, [.null])) :: Z) ++ [(q5, .inr (4, [.null]))]) s H [] from ⟨hP, hD, hS⟩)
  refine W.widen (k := 1) (n := 1) (Nat.le_of_ble_eq_true rfl) (Nat.le_of_ble_eq_true rfl) ?_
  refine lv_dup hx hb dX5_init_8 rfl ?_
  refine lv_bipush (v := nI 86) hx hb dX5_init_9 rfl ?_
  refine q_wIE (ret := none) (As := [.int (nI (86))]) (rest := [.ref (q5), .ref (b)]) ⟨hx, hb, hml, hown, hts⟩ (c_X4_init D cy A q5 86 ((b, .inr (5, [.null])) :: Z) (by omega)) (cwI 1 hts gX5_init_X4_init rfl rfl rfl (hts (.initialized RX4) (List.mem_of_getElem? (i := 6) rfl)) (hts (.methodLink RX5 15 yX4_init) (List.mem_of_getElem? (i := 8) rfl)) (hts (.instanceMethod yX4_init) (List.mem_of_getElem? (i := 9) rfl)) rfl (by decide +kernel) ⟨Nat.le_of_ble_eq_true rfl, Nat.le_of_ble_eq_true rfl⟩) hK hA hw rfl hl.1 rfl (Nat.le_of_ble_eq_true rfl) ⟨Nat.le_of_ble_eq_true rfl, Nat.le_of_ble_eq_true rfl⟩ dX5_init_11 (fun H locs v9 w9 hp9 hw => ?_)
  obtain ⟨rfl, r11, rfl⟩ := hp9
  refine W.widen (k := 2) (n := 87) (Nat.le_of_ble_eq_true rfl) (Nat.le_of_ble_eq_true rfl) ?_
  refine q_stk (show _ = ([.ref (q5), .ref (b)] : List Value) from rfl) ?_
  have hw : wS D A ((q5, .inr (4, [.ref (r11)])) :: (r11, .inl (cy, 86, .inl (fun _ => 0))) :: (b, .inr (5, [.null])) :: Z) s H locs := hw
  have hP := hw.1
  refine va_putF (D := D) (ci := 5) (v := .ref (q5)) (ty := (.object "SpreadParity$Row")) (C := RX5) (T := TX5) (N := 1) hx hb hts (fun _ h => List.mem_cons_of_mem _ (List.mem_append_right _ h)) tyX5 tyX5_ok nmX5 hown hK hw.1 hw.2.1 hw.2.2 2 rfl rfl 0 (by decide) (hts (.fieldLink RX5 18 "SpreadParity$State" "row" "LSpreadParity$Row;") (List.mem_of_getElem? (i := 7) rfl)) (fun _ h9 => h9) rfl hin rfl (by decide +kernel) rfl rfl (Nat.le_of_ble_eq_true rfl) dX5_init_14 (fun H locs hP hD hS => ?_)
  have hw : wS D A ((q5, .inr (4, [.ref (r11)])) :: (r11, .inl (cy, 86, .inl (fun _ => 0))) :: (b, .inr (5, [.ref (q5)])) :: Z) s H locs := ⟨hP, hD, hS⟩
  have hw : wS D A ((q5, .inr (4, [.ref (r11)])) :: (r11, .inl (cy, 86, .inl (inS 0))) :: (b, .inr (5, [.ref (q5)])) :: Z) s H locs := by rw [← inS_0]; exact hw
  have hP := hw.1
  refine lv_iconst (v := nI 0) hx hb dX5_init_17 rfl ?_
  refine lv_istore_n (lv' := [(1, .int (nI (0))), (0, .ref (b))]) hx hb dX5_init_18 rfl hl (by decide) rfl (fun ls hl => ?_)
  have lp19 : ∀ (j_ i : Nat), i + j_ = 7 → ∀ (H : Heap) (locs : List Loc) (ls : Array Slot), wS D A ((q5, .inr (4, [.ref (r11)])) :: (r11, .inl (cy, 86, .inl (inS i))) :: (b, .inr (5, [.ref (q5)])) :: Z) s H locs → lv_has ls 2 [(0, .ref (b)), (1, .int (nI (i)))] → W p l e ({ frames := 2, cells := 2, slots := 87, locals := 42 } : Room) s m ([.ref (b)] : List Value).toArray below meth c H locs 2 87 (MQ below (gE D A (fun v9 w9 => v9 = none ∧ ∃ (r t : Nat), w9 = ((r, .inr (4, [.ref (t)])) :: (t, .inl (cy, 86, .inl iniS)) :: (b, .inr (5, [.ref (r)])) :: Z))) ([.ref (b)] : List Value).toArray s 2 87 A) (F0 m 19 ls []) := by
    intro j_
    induction j_ with
    | zero =>
      intro i hn_i H locs ls hw hl
      have hP := hw.1
      refine lv_iload_n hx hb dX5_init_19 rfl (lv_at hl 1 rfl) ?_
      refine lv_bipush (v := nI 7) hx hb dX5_init_20 rfl ?_
      refine q_geN (tgt := 44) hx hb dX5_init_22 (by decide) (by omega) (by omega) (fun c_22 => ?_) (fun c_22 => absurd c_22 (by omega))
      have e9 : i = 7 := by omega
      subst e9
      have hl : lv_has ls 2 [(0, .ref (b))] := lv_sub hl [0] rfl
      have hw : wS D A ((q5, .inr (4, [.ref (r11)])) :: (r11, .inl (cy, 86, .inl (inS 7))) :: (b, .inr (5, [.ref (q5)])) :: Z) s H locs := hw
      refine lv_aload_n hx hb dX5_init_44 rfl (lv_at hl 0 rfl) ?_
      refine va_get (D := D) (ci := 5) (v := .ref (q5)) (C := RX5) (T := TX5) (N := 1) hx hb hts (fun _ h => List.mem_cons_of_mem _ (List.mem_append_right _ h)) hown hK hP 2 rfl rfl 0 (by decide) (hts (.fieldLink RX5 18 "SpreadParity$State" "row" "LSpreadParity$Row;") (List.mem_of_getElem? (i := 7) rfl)) (fun _ h9 => h9) rfl dX5_init_45 ?_
      refine lv_bipush (v := nI 84) hx hb dX5_init_48 rfl ?_
      refine lv_iconst (v := nI 2) hx hb dX5_init_50 rfl ?_
      refine q_wV0 (As := [.int (nI (84)), .int (nI (2))]) (rest := []) (st1 := []) ⟨hx, hb, hml, hown, hts⟩ (c_X4_put D cy A ((q5, .inr (4, [.ref (r11)])) :: (r11, .inl (cy, 86, .inl (inS 7))) :: (b, .inr (5, [.ref (q5)])) :: Z) 0 1 (q5) (r11) 86 (inS 7) rfl rfl (84) (2) (by omega) (by omega)) (cwV 2 hts gX5_init_X4_put rfl rfl rfl hd_X4_put ⟨Nat.le_of_ble_eq_true rfl, Nat.le_of_ble_eq_true rfl⟩) hK hA hw 0 rfl rfl rfl hl.1 rfl rfl (Nat.le_of_ble_eq_true rfl) ⟨Nat.le_of_ble_eq_true rfl, Nat.le_of_ble_eq_true rfl⟩ dX5_init_51 (fun H locs hw => ?_)
      have hw : wS D A ((q5, .inr (4, [.ref (r11)])) :: (r11, .inl (cy, 86, .inl (upd (inS 7) 84 2))) :: (b, .inr (5, [.ref (q5)])) :: Z) s H locs := hw
      have hP := hw.1
      have hw : wS D A ((q5, .inr (4, [.ref (r11)])) :: (r11, .inl (cy, 86, .inl iniS)) :: (b, .inr (5, [.ref (q5)])) :: Z) s H locs := by rw [← inS_e]; exact hw
      have hP := hw.1
      exact q_vretE hx hb hr hlocks (w := _) hw dX5_init_54 ⟨rfl, q5, r11, rfl⟩
    | succ j_ ih_i =>
      intro i hn_i H locs ls hw hl
      have hP := hw.1
      refine lv_iload_n hx hb dX5_init_19 rfl (lv_at hl 1 rfl) ?_
      refine lv_bipush (v := nI 7) hx hb dX5_init_20 rfl ?_
      refine q_geN (tgt := 44) hx hb dX5_init_22 (by decide) (by omega) (by omega) (fun c_22 => absurd c_22 (by omega)) (fun c_22 => ?_)
      refine lv_aload_n hx hb dX5_init_25 rfl (lv_at hl 0 rfl) ?_
      refine va_get (D := D) (ci := 5) (v := .ref (q5)) (C := RX5) (T := TX5) (N := 1) hx hb hts (fun _ h => List.mem_cons_of_mem _ (List.mem_append_right _ h)) hown hK hP 2 rfl rfl 0 (by decide) (hts (.fieldLink RX5 18 "SpreadParity$State" "row" "LSpreadParity$Row;") (List.mem_of_getElem? (i := 7) rfl)) (fun _ h9 => h9) rfl dX5_init_26 ?_
      refine lv_bipush (v := nI 63) hx hb dX5_init_29 rfl ?_
      refine lv_iload_n hx hb dX5_init_31 rfl (lv_at hl 1 rfl) ?_
      refine q_addN hx hb dX5_init_32 ?_
      refine lv_bipush (v := nI 9) hx hb dX5_init_33 rfl ?_
      refine q_wV0 (As := [.int (nI (63 + i)), .int (nI (9))]) (rest := []) (st1 := []) ⟨hx, hb, hml, hown, hts⟩ (c_X4_put D cy A ((q5, .inr (4, [.ref (r11)])) :: (r11, .inl (cy, 86, .inl (inS i))) :: (b, .inr (5, [.ref (q5)])) :: Z) 0 1 (q5) (r11) 86 (inS i) rfl rfl (63 + i) (9) (by omega) (by omega)) (cwV 2 hts gX5_init_X4_put rfl rfl rfl hd_X4_put ⟨Nat.le_of_ble_eq_true rfl, Nat.le_of_ble_eq_true rfl⟩) hK hA hw 0 rfl rfl rfl hl.1 rfl rfl (Nat.le_of_ble_eq_true rfl) ⟨Nat.le_of_ble_eq_true rfl, Nat.le_of_ble_eq_true rfl⟩ dX5_init_35 (fun H locs hw => ?_)
      have hw : wS D A ((q5, .inr (4, [.ref (r11)])) :: (r11, .inl (cy, 86, .inl (upd (inS i) (63 + i) 9))) :: (b, .inr (5, [.ref (q5)])) :: Z) s H locs := hw
      have hP := hw.1
      have hw : wS D A ((q5, .inr (4, [.ref (r11)])) :: (r11, .inl (cy, 86, .inl (inS (i + 1)))) :: (b, .inr (5, [.ref (q5)])) :: Z) s H locs := by rw [← inS_s i]; exact hw
      have hP := hw.1
      refine lv_iinc (v := nI (i + 1)) (lv' := [(1, .int (nI (i + 1))), (0, .ref (b))]) hx hb dX5_init_38 hl (k := 1) rfl (show nI (i) + nI 1 = nI (i + 1) from nI_add _ _) (by decide) rfl (fun ls hl => ?_)
      refine lv_goto (tgt := 19) hx hb dX5_init_41 (by decide) ?_
      exact ih_i (i + 1) (by omega) _ _ _ hw (lv_sub hl [1, 0] rfl)
  exact lp19 (7 - 0) 0 (by omega) _ _ _ hw (lv_sub hl [1, 0] rfl)
