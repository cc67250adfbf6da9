/-- the layout, as it is laid: stripe by stripe, member by member -/
def cN (k d : Nat) : Nat := cntB (fun j => decide (mem (j / 3) (j % 3) = d)) k
def cF (k : Nat) : Nat → Int32 := fun d => nI (cN k d)
def uD (s : Nat) : Nat → Nat
  | 0 => 0
  | m + 1 => uD s m + (if m = s / 7 then 0 else 1)
def uu (s m : Nat) : Nat := if m = s / 7 then 2 else uD s m
def pk (k : Nat) : Nat := 3 * (k / 3) + uu (k / 3) (k % 3)
def lS : Nat → Nat → Int32
  | 0 => fun _ => 0
  | k + 1 => upd (lS k) (pk k) (nI (spT (pk k)))
def lT : Nat → Nat → Int32
  | 0 => fun _ => 0
  | k + 1 => upd (lT k) (spT (pk k)) (nI (k / 3))
def lU : Nat → Nat → Int32
  | 0 => fun _ => 0
  | k + 1 => upd (lU k) (spT (pk k)) (nI (uu (k / 3) (k % 3)))
theorem pk_e {i m : Nat} (hm : m < 3) : pk (3 * i + m) = 3 * i + uu i m := by
  unfold pk
  rw [show (3 * i + m) / 3 = i by omega, show (3 * i + m) % 3 = m by omega]
theorem sk_e {i m : Nat} (hi : i < 21) (hm : m < 3) : 9 * mem i m + cN (3 * i + m) (mem i m) = spT (pk (3 * i + m)) := (show ∀ i, i < 21 → ∀ m, m < 3 → 9 * mem i m + cN (3 * i + m) (mem i m) = spT (pk (3 * i + m)) by decide +kernel) i hi m hm
theorem lyp_lt {i m : Nat} (hi : i < 21) (hm : m < 3) : spT (pk (3 * i + m)) < 63 := (show ∀ i, i < 21 → ∀ m, m < 3 → spT (pk (3 * i + m)) < 63 by decide +kernel) i hi m hm
theorem uD_lt {i m : Nat} (_ : ¬ m = i / 7) (hm : m < 3) : uD i m < 3 := by
  have h : ∀ m, uD i m ≤ m := by
    intro m
    induction m with
    | zero => exact Nat.le_refl _
    | succ m ih => simp only [uD]; split <;> omega
  have := h m
  omega
theorem cF_s {i m : Nat} (hm : m < 3) : cF (3 * i + (m + 1)) = upd (cF (3 * i + m)) (mem i m) (cF (3 * i + m) (mem i m) + 1) := by
  funext d
  have e : cN (3 * i + (m + 1)) d = cN (3 * i + m) d + (if mem i m = d then 1 else 0) := by
    show cntB (fun j => decide (mem (j / 3) (j % 3) = d)) (3 * i + m) + (if decide (mem ((3 * i + m) / 3) ((3 * i + m) % 3) = d) = true then 1 else 0) = cntB (fun j => decide (mem (j / 3) (j % 3) = d)) (3 * i + m) + _
    have e1 : (3 * i + m) / 3 = i := by omega
    have e2 : (3 * i + m) % 3 = m := by omega
    rw [e1, e2]
    by_cases q : mem i m = d
    · rw [if_pos (decide_eq_true q), if_pos q]
    · rw [if_neg (by rw [decide_eq_false q]; decide), if_neg q]
  by_cases h : d = mem i m
  · rw [h, upd_eq]
    unfold cF
    rw [← h, e, if_pos h.symm, nI_1]
  · rw [upd_ne h]
    unfold cF
    rw [e, if_neg (fun q => h q.symm), Nat.add_zero]
theorem lay_3 {i m x : Nat} (hm : m < 3) (hx : uu i m = x) : lS (3 * i + (m + 1)) = upd (lS (3 * i + m)) (3 * i + x) (nI (spT (pk (3 * i + m)))) ∧ lT (3 * i + (m + 1)) = upd (lT (3 * i + m)) (spT (pk (3 * i + m))) (nI i) ∧ lU (3 * i + (m + 1)) = upd (lU (3 * i + m)) (spT (pk (3 * i + m))) (nI x) := by
  have e1 : (3 * i + m) / 3 = i := by omega
  have e2 : (3 * i + m) % 3 = m := by omega
  refine ⟨?_, ?_, ?_⟩
  · show upd (lS (3 * i + m)) (pk (3 * i + m)) (nI (spT (pk (3 * i + m)))) = _
    rw [← hx, ← pk_e hm]
  · show upd (lT (3 * i + m)) (spT (pk (3 * i + m))) (nI ((3 * i + m) / 3)) = _
    rw [e1]
  · show upd (lU (3 * i + m)) (spT (pk (3 * i + m))) (nI (uu ((3 * i + m) / 3) ((3 * i + m) % 3))) = _
    rw [e1, e2, hx]
theorem lay_2 {i m : Nat} (c : m = i / 7) (_ : i < 21) (hm : m < 3) : lS (3 * i + (m + 1)) = upd (lS (3 * i + m)) (3 * i + 2) (nI (spT (pk (3 * i + m)))) ∧ lT (3 * i + (m + 1)) = upd (lT (3 * i + m)) (spT (pk (3 * i + m))) (nI i) ∧ lU (3 * i + (m + 1)) = upd (lU (3 * i + m)) (spT (pk (3 * i + m))) (nI 2) :=
  lay_3 hm (by unfold uu; rw [if_pos c])
theorem lay_u {i m : Nat} (c : ¬ m = i / 7) (_ : i < 21) (hm : m < 3) : lS (3 * i + (m + 1)) = upd (lS (3 * i + m)) (3 * i + uD i m) (nI (spT (pk (3 * i + m)))) ∧ lT (3 * i + (m + 1)) = upd (lT (3 * i + m)) (spT (pk (3 * i + m))) (nI i) ∧ lU (3 * i + (m + 1)) = upd (lU (3 * i + m)) (spT (pk (3 * i + m))) (nI (uD i m)) :=
  lay_3 hm (by unfold uu; rw [if_neg c])
theorem ly_end {j : Nat} (hj : j < 63) : lS (3 * 21) j = lyS j ∧ lT (3 * 21) j = lyT j ∧ lU (3 * 21) j = lyU j := (show ∀ j, j < 63 → (lS (3 * 21) j = lyS j ∧ lT (3 * 21) j = lyT j ∧ lU (3 * 21) j = lyU j) by decide +kernel) j hj
theorem cell_fn {cA : ClassId} {n : Nat} {f g : Nat → Int32} (h : ∀ j, j < n → f j = g j) : vp_cell cA (n, .inl f) = vp_cell cA (n, .inl g) := by
  show arrV cA n (fun j => .int (f j)) = arrV cA n (fun j => .int (g j))
  unfold arrV
  congr 2
  funext ⟨j, hj⟩
  simp only [h j hj]
theorem wS_fn {D : va_G} {A : Nat → Prop} {w : va_W} {cy : ClassId} {n r : Nat} {f g : Nat → Int32} {s : State} {H : Heap} {locs : List Loc} (h : wS D A w s H locs) (q0 : Nat) (he : w[q0]? = some (r, .inl (cy, n, .inl f))) (hfg : ∀ j, j < n → f j = g j) : wS D A (w.set q0 (r, .inl (cy, n, .inl g))) s H locs := by
  have h0 : H[r]? = some (vp_cell cy (n, .inl f)) := h.1 q0 _ he
  exact ⟨va_P.set h.1 h.2.1 he (show H[r]? = some (vp_cell cy (n, .inl g)) by rw [h0, cell_fn hfg]) (fun _ _ => rfl), h.2.1.set he, h.2.2⟩
set_option maxHeartbeats 1000000 in
set_option maxRecDepth 100000 in
theorem c_X1_lay {l : Launch} (D : va_G) (cy : ClassId) (A : Nat → Prop) (b g g2 u u2 t t2 s1 s2 : Nat) (f0 f1 f2 f3 : Nat → Int32) (Z : va_W) (k : Nat) (s_ : Nat) (uu : Nat) (h_0 : k < 63) (h_1 : s_ < 21) (h_2 : uu < 3) : Met l yX1_lay wsX1_lay (k2_rm 1 22) (gP D cy [.ref (b), .int (nI (k)), .int (nI (s_)), .int (nI (uu))] A ((g, .inr (4, [.ref (g2)])) :: (g2, .inl (cy, 7, .inl f0)) :: (u, .inr (4, [.ref (u2)])) :: (u2, .inl (cy, 63, .inl f3)) :: (t, .inr (4, [.ref (t2)])) :: (t2, .inl (cy, 63, .inl f2)) :: (s1, .inr (4, [.ref (s2)])) :: (s2, .inl (cy, 63, .inl f1)) :: (b, .inr (1, [.ref (s1), .ref (t), .ref (u)])) :: Z)) (gQ D A (none) ((g, .inr (4, [.ref (g2)])) :: (g2, .inl (cy, 7, .inl f0)) :: (u, .inr (4, [.ref (u2)])) :: (u2, .inl (cy, 63, .inl (upd f3 (k) (nI (uu))))) :: (t, .inr (4, [.ref (t2)])) :: (t2, .inl (cy, 63, .inl (upd f2 (k) (nI (s_))))) :: (s1, .inr (4, [.ref (s2)])) :: (s2, .inl (cy, 63, .inl (upd f1 (3 * s_ + uu) (nI (k))))) :: (b, .inr (1, [.ref (s1), .ref (t), .ref (u)])) :: Z)) 0 0 A := by
  refine q_imp (cc := cX1_lay) (maxL := 4) (ret := none) pl_X1 rfl (Nat.le_of_ble_eq_true rfl) ?_
  intro p e s m below meth c ls hx hb hr hml hts hown hlocks hw hK hA hl
  have hP := hw.1
  have hl : lv_has ls 4 [(0, .ref (b)), (1, .int (nI (k))), (2, .int (nI (s_))), (3, .int (nI (uu)))] := hl
  refine lv_aload_n hx hb dX1_lay_0 rfl (lv_at hl 0 rfl) ?_
  refine va_get (D := D) (ci := 1) (v := .ref (s1)) (C := RX1) (T := TX1) (N := 3) hx hb hts (fun _ h => List.mem_cons_of_mem _ (List.mem_append_left _ (List.mem_append_right _ h))) hown hK hP 8 rfl rfl 0 (by decide) (hts (.fieldLink RX1 14 "SpreadParity$Layout" "spots" "LSpreadParity$Row;") (List.mem_of_getElem? (i := 1) rfl)) (fun _ h9 => h9) rfl dX1_lay_1 ?_
  refine lv_iconst (v := nI 3) hx hb dX1_lay_4 rfl ?_
  refine lv_iload_n hx hb dX1_lay_5 rfl (lv_at hl 2 rfl) ?_
  refine q_mulN hx hb dX1_lay_6 ?_
  refine lv_iload_n hx hb dX1_lay_7 rfl (lv_at hl 3 rfl) ?_
  refine q_addN hx hb dX1_lay_8 ?_
  refine lv_iload_n hx hb dX1_lay_9 rfl (lv_at hl 1 rfl) ?_
  refine q_wV0 (As := [.int (nI ((3 * s_) + uu)), .int (nI (k))]) (rest := []) (st1 := []) ⟨hx, hb, hml, hown, hts⟩ (c_X4_put D cy A ((g, .inr (4, [.ref (g2)])) :: (g2, .inl (cy, 7, .inl f0)) :: (u, .inr (4, [.ref (u2)])) :: (u2, .inl (cy, 63, .inl f3)) :: (t, .inr (4, [.ref (t2)])) :: (t2, .inl (cy, 63, .inl f2)) :: (s1, .inr (4, [.ref (s2)])) :: (s2, .inl (cy, 63, .inl f1)) :: (b, .inr (1, [.ref (s1), .ref (t), .ref (u)])) :: Z) 6 7 (s1) (s2) 63 f1 rfl rfl ((3 * s_) + uu) (nI (k)) (by omega) (by omega)) (cwV 2 hts gX1_lay_X4_put rfl rfl rfl hd_X4_put ⟨Nat.le_of_ble_eq_true rfl, Nat.le_of_ble_eq_true rfl⟩) hK hA hw 6 rfl rfl rfl hl.1 rfl rfl (Nat.le_of_ble_eq_true rfl) ⟨Nat.zero_le _, Nat.zero_le _⟩ dX1_lay_10 (fun H locs hw => ?_)
  have hw : wS D A ((g, .inr (4, [.ref (g2)])) :: (g2, .inl (cy, 7, .inl f0)) :: (u, .inr (4, [.ref (u2)])) :: (u2, .inl (cy, 63, .inl f3)) :: (t, .inr (4, [.ref (t2)])) :: (t2, .inl (cy, 63, .inl f2)) :: (s1, .inr (4, [.ref (s2)])) :: (s2, .inl (cy, 63, .inl (upd f1 ((3 * s_) + uu) (nI (k))))) :: (b, .inr (1, [.ref (s1), .ref (t), .ref (u)])) :: Z) s H locs := hw
  have hP := hw.1
  refine lv_aload_n hx hb dX1_lay_13 rfl (lv_at hl 0 rfl) ?_
  refine va_get (D := D) (ci := 1) (v := .ref (t)) (C := RX1) (T := TX1) (N := 3) hx hb hts (fun _ h => List.mem_cons_of_mem _ (List.mem_append_left _ (List.mem_append_right _ h))) hown hK hP 8 rfl rfl 1 (by decide) (hts (.fieldLink RX1 20 "SpreadParity$Layout" "stripes" "LSpreadParity$Row;") (List.mem_of_getElem? (i := 2) rfl)) (fun _ h9 => h9) rfl dX1_lay_14 ?_
  refine lv_iload_n hx hb dX1_lay_17 rfl (lv_at hl 1 rfl) ?_
  refine lv_iload_n hx hb dX1_lay_18 rfl (lv_at hl 2 rfl) ?_
  refine q_wV0 (As := [.int (nI (k)), .int (nI (s_))]) (rest := []) (st1 := []) ⟨hx, hb, hml, hown, hts⟩ (c_X4_put D cy A ((g, .inr (4, [.ref (g2)])) :: (g2, .inl (cy, 7, .inl f0)) :: (u, .inr (4, [.ref (u2)])) :: (u2, .inl (cy, 63, .inl f3)) :: (t, .inr (4, [.ref (t2)])) :: (t2, .inl (cy, 63, .inl f2)) :: (s1, .inr (4, [.ref (s2)])) :: (s2, .inl (cy, 63, .inl (upd f1 ((3 * s_) + uu) (nI (k))))) :: (b, .inr (1, [.ref (s1), .ref (t), .ref (u)])) :: Z) 4 5 (t) (t2) 63 f2 rfl rfl (k) (nI (s_)) (by omega) (by omega)) (cwV 2 hts gX1_lay_X4_put rfl rfl rfl hd_X4_put ⟨Nat.le_of_ble_eq_true rfl, Nat.le_of_ble_eq_true rfl⟩) hK hA hw 4 rfl rfl rfl hl.1 rfl rfl (Nat.le_of_ble_eq_true rfl) ⟨Nat.zero_le _, Nat.zero_le _⟩ dX1_lay_19 (fun H locs hw => ?_)
  have hw : wS D A ((g, .inr (4, [.ref (g2)])) :: (g2, .inl (cy, 7, .inl f0)) :: (u, .inr (4, [.ref (u2)])) :: (u2, .inl (cy, 63, .inl f3)) :: (t, .inr (4, [.ref (t2)])) :: (t2, .inl (cy, 63, .inl (upd f2 k (nI (s_))))) :: (s1, .inr (4, [.ref (s2)])) :: (s2, .inl (cy, 63, .inl (upd f1 ((3 * s_) + uu) (nI (k))))) :: (b, .inr (1, [.ref (s1), .ref (t), .ref (u)])) :: Z) s H locs := hw
  have hP := hw.1
  refine lv_aload_n hx hb dX1_lay_22 rfl (lv_at hl 0 rfl) ?_
  refine va_get (D := D) (ci := 1) (v := .ref (u)) (C := RX1) (T := TX1) (N := 3) hx hb hts (fun _ h => List.mem_cons_of_mem _ (List.mem_append_left _ (List.mem_append_right _ h))) hown hK hP 8 rfl rfl 2 (by decide) (hts (.fieldLink RX1 23 "SpreadParity$Layout" "units" "LSpreadParity$Row;") (List.mem_of_getElem? (i := 3) rfl)) (fun _ h9 => h9) rfl dX1_lay_23 ?_
  refine lv_iload_n hx hb dX1_lay_26 rfl (lv_at hl 1 rfl) ?_
  refine lv_iload_n hx hb dX1_lay_27 rfl (lv_at hl 3 rfl) ?_
  refine q_wV0 (As := [.int (nI (k)), .int (nI (uu))]) (rest := []) (st1 := []) ⟨hx, hb, hml, hown, hts⟩ (c_X4_put D cy A ((g, .inr (4, [.ref (g2)])) :: (g2, .inl (cy, 7, .inl f0)) :: (u, .inr (4, [.ref (u2)])) :: (u2, .inl (cy, 63, .inl f3)) :: (t, .inr (4, [.ref (t2)])) :: (t2, .inl (cy, 63, .inl (upd f2 k (nI (s_))))) :: (s1, .inr (4, [.ref (s2)])) :: (s2, .inl (cy, 63, .inl (upd f1 ((3 * s_) + uu) (nI (k))))) :: (b, .inr (1, [.ref (s1), .ref (t), .ref (u)])) :: Z) 2 3 (u) (u2) 63 f3 rfl rfl (k) (nI (uu)) (by omega) (by omega)) (cwV 2 hts gX1_lay_X4_put rfl rfl rfl hd_X4_put ⟨Nat.le_of_ble_eq_true rfl, Nat.le_of_ble_eq_true rfl⟩) hK hA hw 2 rfl rfl rfl hl.1 rfl rfl (Nat.le_of_ble_eq_true rfl) ⟨Nat.zero_le _, Nat.zero_le _⟩ dX1_lay_28 (fun H locs hw => ?_)
  have hw : wS D A ((g, .inr (4, [.ref (g2)])) :: (g2, .inl (cy, 7, .inl f0)) :: (u, .inr (4, [.ref (u2)])) :: (u2, .inl (cy, 63, .inl (upd f3 k (nI (uu))))) :: (t, .inr (4, [.ref (t2)])) :: (t2, .inl (cy, 63, .inl (upd f2 k (nI (s_))))) :: (s1, .inr (4, [.ref (s2)])) :: (s2, .inl (cy, 63, .inl (upd f1 ((3 * s_) + uu) (nI (k))))) :: (b, .inr (1, [.ref (s1), .ref (t), .ref (u)])) :: Z) s H locs := hw
  have hP := hw.1
  exact q_vretW hx hb hr hlocks hw dX1_lay_31
set_option maxHeartbeats 1000000 in
set_option maxRecDepth 100000 in
theorem c_X1_init {l : Launch} (D : va_G) (cy : ClassId) (A : Nat → Prop) (b : Nat) (Z : va_W) : Met l yX1_init wsX1_init ({ frames := 2, cells := 8, slots := 200, locals := 45 } : Room) (gP D cy [.ref (b)] A ((b, .inr (1, [.null, .null, .null])) :: Z)) (gE D A (fun v9 w9 => v9 = none ∧ ∃ (s1 s2 t t2 u u2 : Nat), w9 = ((s1, .inr (4, [.ref (s2)])) :: (s2, .inl (cy, 63, .inl lyS)) :: (t, .inr (4, [.ref (t2)])) :: (t2, .inl (cy, 63, .inl lyT)) :: (u, .inr (4, [.ref (u2)])) :: (u2, .inl (cy, 63, .inl lyU)) :: (b, .inr (1, [.ref (s1), .ref (t), .ref (u)])) :: Z))) 8 200 A := by
  refine q_ini (cc := cX1_init) (maxL := 8) (ret := none) pl_X1 rfl rfl (Nat.le_of_ble_eq_true rfl) ?_
  intro p e s m below meth c ls hx hb hr hml hts hown hlocks hw hK hA hl hin
  have hP := hw.1
  have hl : lv_has ls 8 [(0, .ref (b))] := hl
  refine lv_aload_n hx hb dX1_init_0 rfl (lv_at hl 0 rfl) ?_
  refine W.objInit hx hb hown (hts (.methodLink RX1 3 objectInit) (List.mem_of_getElem? (i := 1) rfl)) (hts (.instanceMethod objectInit) (List.mem_of_getElem? (i := 2) rfl)) (hts (.code objectInit ⟨#[0xb1]⟩ 1 none) (List.mem_of_getElem? (i := 3) rfl)) rfl (by rw [hml]; exact hl.1) rfl dX1_init_1 (Nat.le_of_ble_eq_true rfl) (Nat.le_of_ble_eq_true rfl) ?_
  refine W.eq (g2 := F0 m 4 ls []) rfl ?_
  refine lv_aload_n hx hb dX1_init_4 rfl (lv_at hl 0 rfl) ?_
  refine va_new (ci := 4) (fs := [.null]) (C := RX4) (T := TX4) (N := 1) hx hb hts (fun _ h => List.mem_cons_of_mem _ (List.mem_append_left _ (List.mem_append_right _ h))) tyX4 tyX4_ok hown (hts (.classLink RX1 9 RX4) (List.mem_of_getElem? (i := 4) rfl)) (hts (.instantiable RX4 1) (List.mem_of_getElem? (i := 5) rfl)) (hts (.initialized RX4) (List.mem_of_getElem? (i := 6) rfl)) hK hw.1 hw.2.1 hw.2.2 hA rfl (fun j hj => by rcases (show j = 0 by omega) with rfl <;> rfl) (Nat.le_of_ble_eq_true rfl) (Nat.le_of_ble_eq_true rfl) dX1_init_5 (fun q5 H hP hD hS => ?_)
  have hw := wS_rot (show wS D A (((b, .inr (1, [.null, .null, .null])) :: Z) ++ [(q5, .inr (4, [.null]))]) s H [] from ⟨hP, hD, hS⟩)
  refine W.widen (k := 1) (n := 1) (Nat.le_of_ble_eq_true rfl) (Nat.le_of_ble_eq_true rfl) ?_
  refine lv_dup hx hb dX1_init_8 rfl ?_
  refine lv_bipush (v := nI 63) hx hb dX1_init_9 rfl ?_
  refine q_wIE (ret := none) (As := [.int (nI (63))]) (rest := [.ref (q5), .ref (b)]) ⟨hx, hb, hml, hown, hts⟩ (c_X4_init D cy A q5 63 ((b, .inr (1, [.null, .null, .null])) :: Z) (by omega)) (cwI 1 hts gX1_init_X4_init rfl rfl rfl (hts (.initialized RX4) (List.mem_of_getElem? (i := 6) rfl)) (hts (.methodLink RX1 11 yX4_init) (List.mem_of_getElem? (i := 10) rfl)) (hts (.instanceMethod yX4_init) (List.mem_of_getElem? (i := 11) rfl)) rfl (by decide +kernel) ⟨Nat.le_of_ble_eq_true rfl, Nat.le_of_ble_eq_true rfl⟩) hK hA hw rfl hl.1 rfl (Nat.le_of_ble_eq_true rfl) ⟨Nat.le_of_ble_eq_true rfl, Nat.le_of_ble_eq_true rfl⟩ dX1_init_11 (fun H locs v9 w9 hp9 hw => ?_)
  obtain ⟨rfl, r11, rfl⟩ := hp9
  refine W.widen (k := 2) (n := 64) (Nat.le_of_ble_eq_true rfl) (Nat.le_of_ble_eq_true rfl) ?_
  refine q_stk (show _ = ([.ref (q5), .ref (b)] : List Value) from rfl) ?_
  have hw : wS D A ((q5, .inr (4, [.ref (r11)])) :: (r11, .inl (cy, 63, .inl (fun _ => 0))) :: (b, .inr (1, [.null, .null, .null])) :: Z) s H locs := hw
  have hP := hw.1
  refine va_putF (D := D) (ci := 1) (v := .ref (q5)) (ty := (.object "SpreadParity$Row")) (C := RX1) (T := TX1) (N := 3) hx hb hts (fun _ h => List.mem_cons_of_mem _ (List.mem_append_right _ h)) tyX1 tyX1_ok nmX1 hown hK hw.1 hw.2.1 hw.2.2 2 rfl rfl 0 (by decide) (hts (.fieldLink RX1 14 "SpreadParity$Layout" "spots" "LSpreadParity$Row;") (List.mem_of_getElem? (i := 7) rfl)) (fun _ h9 => h9) rfl hin rfl (by decide +kernel) rfl rfl (Nat.le_of_ble_eq_true rfl) dX1_init_14 (fun H locs hP hD hS => ?_)
  have hw : wS D A ((q5, .inr (4, [.ref (r11)])) :: (r11, .inl (cy, 63, .inl (fun _ => 0))) :: (b, .inr (1, [.ref (q5), .null, .null])) :: Z) s H locs := ⟨hP, hD, hS⟩
  refine lv_aload_n hx hb dX1_init_17 rfl (lv_at hl 0 rfl) ?_
  refine va_new (ci := 4) (fs := [.null]) (C := RX4) (T := TX4) (N := 1) hx hb hts (fun _ h => List.mem_cons_of_mem _ (List.mem_append_left _ (List.mem_append_right _ h))) tyX4 tyX4_ok hown (hts (.classLink RX1 9 RX4) (List.mem_of_getElem? (i := 4) rfl)) (hts (.instantiable RX4 1) (List.mem_of_getElem? (i := 5) rfl)) (hts (.initialized RX4) (List.mem_of_getElem? (i := 6) rfl)) hK hw.1 hw.2.1 hw.2.2 hA rfl (fun j hj => by rcases (show j = 0 by omega) with rfl <;> rfl) (Nat.le_of_ble_eq_true rfl) (Nat.le_of_ble_eq_true rfl) dX1_init_18 (fun q18 H hP hD hS => ?_)
  have hw := wS_rot (show wS D A (((q5, .inr (4, [.ref (r11)])) :: (r11, .inl (cy, 63, .inl (fun _ => 0))) :: (b, .inr (1, [.ref (q5), .null, .null])) :: Z) ++ [(q18, .inr (4, [.null]))]) s H locs from ⟨hP, hD, hS⟩)
  refine W.widen (k := 3) (n := 65) (Nat.le_of_ble_eq_true rfl) (Nat.le_of_ble_eq_true rfl) ?_
  refine lv_dup hx hb dX1_init_21 rfl ?_
  refine lv_bipush (v := nI 63) hx hb dX1_init_22 rfl ?_
  refine q_wIE (ret := none) (As := [.int (nI (63))]) (rest := [.ref (q18), .ref (b)]) ⟨hx, hb, hml, hown, hts⟩ (c_X4_init D cy A q18 63 ((q5, .inr (4, [.ref (r11)])) :: (r11, .inl (cy, 63, .inl (fun _ => 0))) :: (b, .inr (1, [.ref (q5), .null, .null])) :: Z) (by omega)) (cwI 1 hts gX1_init_X4_init rfl rfl rfl (hts (.initialized RX4) (List.mem_of_getElem? (i := 6) rfl)) (hts (.methodLink RX1 11 yX4_init) (List.mem_of_getElem? (i := 10) rfl)) (hts (.instanceMethod yX4_init) (List.mem_of_getElem? (i := 11) rfl)) rfl (by decide +kernel) ⟨Nat.le_of_ble_eq_true rfl, Nat.le_of_ble_eq_true rfl⟩) hK hA hw rfl hl.1 rfl (Nat.le_of_ble_eq_true rfl) ⟨Nat.le_of_ble_eq_true rfl, Nat.le_of_ble_eq_true rfl⟩ dX1_init_24 (fun H locs v9 w9 hp9 hw => ?_)
  obtain ⟨rfl, r24, rfl⟩ := hp9
  refine W.widen (k := 4) (n := 128) (Nat.le_of_ble_eq_true rfl) (Nat.le_of_ble_eq_true rfl) ?_
  refine q_stk (show _ = ([.ref (q18), .ref (b)] : List Value) from rfl) ?_
  have hw : wS D A ((q18, .inr (4, [.ref (r24)])) :: (r24, .inl (cy, 63, .inl (fun _ => 0))) :: (q5, .inr (4, [.ref (r11)])) :: (r11, .inl (cy, 63, .inl (fun _ => 0))) :: (b, .inr (1, [.ref (q5), .null, .null])) :: Z) s H locs := hw
  have hP := hw.1
  refine va_putF (D := D) (ci := 1) (v := .ref (q18)) (ty := (.object "SpreadParity$Row")) (C := RX1) (T := TX1) (N := 3) hx hb hts (fun _ h => List.mem_cons_of_mem _ (List.mem_append_right _ h)) tyX1 tyX1_ok nmX1 hown hK hw.1 hw.2.1 hw.2.2 4 rfl rfl 1 (by decide) (hts (.fieldLink RX1 20 "SpreadParity$Layout" "stripes" "LSpreadParity$Row;") (List.mem_of_getElem? (i := 8) rfl)) (fun _ h9 => h9) rfl hin rfl (by decide +kernel) rfl rfl (Nat.le_of_ble_eq_true rfl) dX1_init_27 (fun H locs hP hD hS => ?_)
  have hw : wS D A ((q18, .inr (4, [.ref (r24)])) :: (r24, .inl (cy, 63, .inl (fun _ => 0))) :: (q5, .inr (4, [.ref (r11)])) :: (r11, .inl (cy, 63, .inl (fun _ => 0))) :: (b, .inr (1, [.ref (q5), .ref (q18), .null])) :: Z) s H locs := ⟨hP, hD, hS⟩
  refine lv_aload_n hx hb dX1_init_30 rfl (lv_at hl 0 rfl) ?_
  refine va_new (ci := 4) (fs := [.null]) (C := RX4) (T := TX4) (N := 1) hx hb hts (fun _ h => List.mem_cons_of_mem _ (List.mem_append_left _ (List.mem_append_right _ h))) tyX4 tyX4_ok hown (hts (.classLink RX1 9 RX4) (List.mem_of_getElem? (i := 4) rfl)) (hts (.instantiable RX4 1) (List.mem_of_getElem? (i := 5) rfl)) (hts (.initialized RX4) (List.mem_of_getElem? (i := 6) rfl)) hK hw.1 hw.2.1 hw.2.2 hA rfl (fun j hj => by rcases (show j = 0 by omega) with rfl <;> rfl) (Nat.le_of_ble_eq_true rfl) (Nat.le_of_ble_eq_true rfl) dX1_init_31 (fun q31 H hP hD hS => ?_)
  have hw := wS_rot (show wS D A (((q18, .inr (4, [.ref (r24)])) :: (r24, .inl (cy, 63, .inl (fun _ => 0))) :: (q5, .inr (4, [.ref (r11)])) :: (r11, .inl (cy, 63, .inl (fun _ => 0))) :: (b, .inr (1, [.ref (q5), .ref (q18), .null])) :: Z) ++ [(q31, .inr (4, [.null]))]) s H locs from ⟨hP, hD, hS⟩)
  refine W.widen (k := 5) (n := 129) (Nat.le_of_ble_eq_true rfl) (Nat.le_of_ble_eq_true rfl) ?_
  refine lv_dup hx hb dX1_init_34 rfl ?_
  refine lv_bipush (v := nI 63) hx hb dX1_init_35 rfl ?_
  refine q_wIE (ret := none) (As := [.int (nI (63))]) (rest := [.ref (q31), .ref (b)]) ⟨hx, hb, hml, hown, hts⟩ (c_X4_init D cy A q31 63 ((q18, .inr (4, [.ref (r24)])) :: (r24, .inl (cy, 63, .inl (fun _ => 0))) :: (q5, .inr (4, [.ref (r11)])) :: (r11, .inl (cy, 63, .inl (fun _ => 0))) :: (b, .inr (1, [.ref (q5), .ref (q18), .null])) :: Z) (by omega)) (cwI 1 hts gX1_init_X4_init rfl rfl rfl (hts (.initialized RX4) (List.mem_of_getElem? (i := 6) rfl)) (hts (.methodLink RX1 11 yX4_init) (List.mem_of_getElem? (i := 10) rfl)) (hts (.instanceMethod yX4_init) (List.mem_of_getElem? (i := 11) rfl)) rfl (by decide +kernel) ⟨Nat.le_of_ble_eq_true rfl, Nat.le_of_ble_eq_true rfl⟩) hK hA hw rfl hl.1 rfl (Nat.le_of_ble_eq_true rfl) ⟨Nat.le_of_ble_eq_true rfl, Nat.le_of_ble_eq_true rfl⟩ dX1_init_37 (fun H locs v9 w9 hp9 hw => ?_)
  obtain ⟨rfl, r37, rfl⟩ := hp9
  refine W.widen (k := 6) (n := 192) (Nat.le_of_ble_eq_true rfl) (Nat.le_of_ble_eq_true rfl) ?_
  refine q_stk (show _ = ([.ref (q31), .ref (b)] : List Value) from rfl) ?_
  have hw : wS D A ((q31, .inr (4, [.ref (r37)])) :: (r37, .inl (cy, 63, .inl (fun _ => 0))) :: (q18, .inr (4, [.ref (r24)])) :: (r24, .inl (cy, 63, .inl (fun _ => 0))) :: (q5, .inr (4, [.ref (r11)])) :: (r11, .inl (cy, 63, .inl (fun _ => 0))) :: (b, .inr (1, [.ref (q5), .ref (q18), .null])) :: Z) s H locs := hw
  have hP := hw.1
  refine va_putF (D := D) (ci := 1) (v := .ref (q31)) (ty := (.object "SpreadParity$Row")) (C := RX1) (T := TX1) (N := 3) hx hb hts (fun _ h => List.mem_cons_of_mem _ (List.mem_append_right _ h)) tyX1 tyX1_ok nmX1 hown hK hw.1 hw.2.1 hw.2.2 6 rfl rfl 2 (by decide) (hts (.fieldLink RX1 23 "SpreadParity$Layout" "units" "LSpreadParity$Row;") (List.mem_of_getElem? (i := 9) rfl)) (fun _ h9 => h9) rfl hin rfl (by decide +kernel) rfl rfl (Nat.le_of_ble_eq_true rfl) dX1_init_40 (fun H locs hP hD hS => ?_)
  have hw : wS D A ((q31, .inr (4, [.ref (r37)])) :: (r37, .inl (cy, 63, .inl (fun _ => 0))) :: (q18, .inr (4, [.ref (r24)])) :: (r24, .inl (cy, 63, .inl (fun _ => 0))) :: (q5, .inr (4, [.ref (r11)])) :: (r11, .inl (cy, 63, .inl (fun _ => 0))) :: (b, .inr (1, [.ref (q5), .ref (q18), .ref (q31)])) :: Z) s H locs := ⟨hP, hD, hS⟩
  refine va_new (ci := 4) (fs := [.null]) (C := RX4) (T := TX4) (N := 1) hx hb hts (fun _ h => List.mem_cons_of_mem _ (List.mem_append_left _ (List.mem_append_right _ h))) tyX4 tyX4_ok hown (hts (.classLink RX1 9 RX4) (List.mem_of_getElem? (i := 4) rfl)) (hts (.instantiable RX4 1) (List.mem_of_getElem? (i := 5) rfl)) (hts (.initialized RX4) (List.mem_of_getElem? (i := 6) rfl)) hK hw.1 hw.2.1 hw.2.2 hA rfl (fun j hj => by rcases (show j = 0 by omega) with rfl <;> rfl) (Nat.le_of_ble_eq_true rfl) (Nat.le_of_ble_eq_true rfl) dX1_init_43 (fun q43 H hP hD hS => ?_)
  have hw := wS_rot (show wS D A (((q31, .inr (4, [.ref (r37)])) :: (r37, .inl (cy, 63, .inl (fun _ => 0))) :: (q18, .inr (4, [.ref (r24)])) :: (r24, .inl (cy, 63, .inl (fun _ => 0))) :: (q5, .inr (4, [.ref (r11)])) :: (r11, .inl (cy, 63, .inl (fun _ => 0))) :: (b, .inr (1, [.ref (q5), .ref (q18), .ref (q31)])) :: Z) ++ [(q43, .inr (4, [.null]))]) s H locs from ⟨hP, hD, hS⟩)
  refine W.widen (k := 7) (n := 193) (Nat.le_of_ble_eq_true rfl) (Nat.le_of_ble_eq_true rfl) ?_
  refine lv_dup hx hb dX1_init_46 rfl ?_
  refine lv_bipush (v := nI 7) hx hb dX1_init_47 rfl ?_
  refine q_wIE (ret := none) (As := [.int (nI (7))]) (rest := [.ref (q43)]) ⟨hx, hb, hml, hown, hts⟩ (c_X4_init D cy A q43 7 ((q31, .inr (4, [.ref (r37)])) :: (r37, .inl (cy, 63, .inl (fun _ => 0))) :: (q18, .inr (4, [.ref (r24)])) :: (r24, .inl (cy, 63, .inl (fun _ => 0))) :: (q5, .inr (4, [.ref (r11)])) :: (r11, .inl (cy, 63, .inl (fun _ => 0))) :: (b, .inr (1, [.ref (q5), .ref (q18), .ref (q31)])) :: Z) (by omega)) (cwI 1 hts gX1_init_X4_init rfl rfl rfl (hts (.initialized RX4) (List.mem_of_getElem? (i := 6) rfl)) (hts (.methodLink RX1 11 yX4_init) (List.mem_of_getElem? (i := 10) rfl)) (hts (.instanceMethod yX4_init) (List.mem_of_getElem? (i := 11) rfl)) rfl (by decide +kernel) ⟨Nat.le_of_ble_eq_true rfl, Nat.le_of_ble_eq_true rfl⟩) hK hA hw rfl hl.1 rfl (Nat.le_of_ble_eq_true rfl) ⟨Nat.le_of_ble_eq_true rfl, Nat.le_of_ble_eq_true rfl⟩ dX1_init_49 (fun H locs v9 w9 hp9 hw => ?_)
  obtain ⟨rfl, r49, rfl⟩ := hp9
  refine W.widen (k := 8) (n := 200) (Nat.le_of_ble_eq_true rfl) (Nat.le_of_ble_eq_true rfl) ?_
  refine q_stk (show _ = ([.ref (q43)] : List Value) from rfl) ?_
  have hw : wS D A ((q43, .inr (4, [.ref (r49)])) :: (r49, .inl (cy, 7, .inl (fun _ => 0))) :: (q31, .inr (4, [.ref (r37)])) :: (r37, .inl (cy, 63, .inl (fun _ => 0))) :: (q18, .inr (4, [.ref (r24)])) :: (r24, .inl (cy, 63, .inl (fun _ => 0))) :: (q5, .inr (4, [.ref (r11)])) :: (r11, .inl (cy, 63, .inl (fun _ => 0))) :: (b, .inr (1, [.ref (q5), .ref (q18), .ref (q31)])) :: Z) s H locs := hw
  have hP := hw.1
  refine lv_astore_n (lv' := [(1, .ref (q43)), (0, .ref (b))]) hx hb dX1_init_52 rfl hl (by decide) rfl (fun ls hl => ?_)
  have hw : wS D A ((q43, .inr (4, [.ref (r49)])) :: (r49, .inl (cy, 7, .inl (cF (3 * 0)))) :: (q31, .inr (4, [.ref (r37)])) :: (r37, .inl (cy, 63, .inl (lU (3 * 0)))) :: (q18, .inr (4, [.ref (r24)])) :: (r24, .inl (cy, 63, .inl (lT (3 * 0)))) :: (q5, .inr (4, [.ref (r11)])) :: (r11, .inl (cy, 63, .inl (lS (3 * 0)))) :: (b, .inr (1, [.ref (q5), .ref (q18), .ref (q31)])) :: Z) s H locs := by rw [show cF (3 * 0) = (fun _ => (0 : Int32)) from rfl, show lS (3 * 0) = (fun _ => (0 : Int32)) from rfl, show lT (3 * 0) = (fun _ => (0 : Int32)) from rfl, show lU (3 * 0) = (fun _ => (0 : Int32)) from rfl]; exact hw
  have hP := hw.1
  refine lv_iconst (v := nI 0) hx hb dX1_init_53 rfl ?_
  refine lv_istore_n (lv' := [(2, .int (nI (0))), (1, .ref (q43)), (0, .ref (b))]) hx hb dX1_init_54 rfl hl (by decide) rfl (fun ls hl => ?_)
  have lp55 : ∀ (j_ i : Nat), i + j_ = 21 → ∀ (H : Heap) (locs : List Loc) (ls : Array Slot), wS D A ((q43, .inr (4, [.ref (r49)])) :: (r49, .inl (cy, 7, .inl (cF (3 * i)))) :: (q31, .inr (4, [.ref (r37)])) :: (r37, .inl (cy, 63, .inl (lU (3 * i)))) :: (q18, .inr (4, [.ref (r24)])) :: (r24, .inl (cy, 63, .inl (lT (3 * i)))) :: (q5, .inr (4, [.ref (r11)])) :: (r11, .inl (cy, 63, .inl (lS (3 * i)))) :: (b, .inr (1, [.ref (q5), .ref (q18), .ref (q31)])) :: Z) s H locs → lv_has ls 8 [(0, .ref (b)), (1, .ref (q43)), (2, .int (nI (i)))] → W p l e ({ frames := 2, cells := 8, slots := 200, locals := 45 } : Room) s m ([.ref (b)] : List Value).toArray below meth c H locs 8 200 (MQ below (gE D A (fun v9 w9 => v9 = none ∧ ∃ (s1 s2 t t2 u u2 : Nat), w9 = ((s1, .inr (4, [.ref (s2)])) :: (s2, .inl (cy, 63, .inl lyS)) :: (t, .inr (4, [.ref (t2)])) :: (t2, .inl (cy, 63, .inl lyT)) :: (u, .inr (4, [.ref (u2)])) :: (u2, .inl (cy, 63, .inl lyU)) :: (b, .inr (1, [.ref (s1), .ref (t), .ref (u)])) :: Z))) ([.ref (b)] : List Value).toArray s 8 200 A) (F0 m 55 ls []) := by
    intro j_
    induction j_ with
    | zero =>
      intro i hn_i H locs ls hw hl
      have hP := hw.1
      refine lv_iload_n hx hb dX1_init_55 rfl (lv_at hl 2 rfl) ?_
      refine lv_bipush (v := nI 21) hx hb dX1_init_56 rfl ?_
      refine q_geN (tgt := 157) hx hb dX1_init_58 (by decide) (by omega) (by omega) (fun c_58 => ?_) (fun c_58 => absurd c_58 (by omega))
      have e9 : i = 21 := by omega
      subst e9
      have hw := wS_fn (g := lyS) hw 7 rfl (fun j hj => (ly_end hj).1)
      have hw := wS_fn (g := lyT) hw 5 rfl (fun j hj => (ly_end hj).2.1)
      have hw := wS_fn (g := lyU) hw 3 rfl (fun j hj => (ly_end hj).2.2)
      have hw := wS_part (X := [(q43, .inr (4, [.ref r49])), (r49, .inl (cy, 7, .inl (cF (3 * 21)))), (q31, .inr (4, [.ref r37])), (r37, .inl (cy, 63, .inl lyU)), (q18, .inr (4, [.ref r24])), (r24, .inl (cy, 63, .inl lyT)), (q5, .inr (4, [.ref r11])), (r11, .inl (cy, 63, .inl lyS)), (b, .inr (1, [.ref q5, .ref q18, .ref q31]))]) (pl := Z) (cx := [(q5, .inr (4, [.ref r11])), (r11, .inl (cy, 63, .inl lyS)), (q18, .inr (4, [.ref r24])), (r24, .inl (cy, 63, .inl lyT)), (q31, .inr (4, [.ref r37])), (r37, .inl (cy, 63, .inl lyU)), (b, .inr (1, [.ref q5, .ref q18, .ref q31]))]) hw [6, 7, 4, 5, 2, 3, 8] (by decide) rfl
      exact q_vretE hx hb hr hlocks (w := _) hw dX1_init_157 ⟨rfl, q5, r11, q18, r24, q31, r37, rfl⟩
    | succ j_ ih_i =>
      intro i hn_i H locs ls hw hl
      have hP := hw.1
      refine lv_iload_n hx hb dX1_init_55 rfl (lv_at hl 2 rfl) ?_
      refine lv_bipush (v := nI 21) hx hb dX1_init_56 rfl ?_
      refine q_geN (tgt := 157) hx hb dX1_init_58 (by decide) (by omega) (by omega) (fun c_58 => absurd c_58 (by omega)) (fun c_58 => ?_)
      refine lv_iconst (v := nI 0) hx hb dX1_init_61 rfl ?_
      refine lv_istore_n (lv' := [(3, .int (nI (0))), (0, .ref (b)), (1, .ref (q43)), (2, .int (nI (i)))]) hx hb dX1_init_62 rfl hl (by decide) rfl (fun ls hl => ?_)
      refine lv_iconst (v := nI 0) hx hb dX1_init_63 rfl ?_
      refine lv_istore (lv' := [(4, .int (nI (0))), (3, .int (nI (0))), (0, .ref (b)), (1, .ref (q43)), (2, .int (nI (i)))]) hx hb dX1_init_64 hl (by decide) rfl (fun ls hl => ?_)
      have lp66 : ∀ (j_ y : Nat), y + j_ = 3 → ∀ (H : Heap) (locs : List Loc) (ls : Array Slot), wS D A ((q43, .inr (4, [.ref (r49)])) :: (r49, .inl (cy, 7, .inl (cF (3 * i + y)))) :: (q31, .inr (4, [.ref (r37)])) :: (r37, .inl (cy, 63, .inl (lU (3 * i + y)))) :: (q18, .inr (4, [.ref (r24)])) :: (r24, .inl (cy, 63, .inl (lT (3 * i + y)))) :: (q5, .inr (4, [.ref (r11)])) :: (r11, .inl (cy, 63, .inl (lS (3 * i + y)))) :: (b, .inr (1, [.ref (q5), .ref (q18), .ref (q31)])) :: Z) s H locs → lv_has ls 8 [(0, .ref (b)), (1, .ref (q43)), (2, .int (nI (i))), (3, .int (nI (uD i y))), (4, .int (nI (y)))] → W p l e ({ frames := 2, cells := 8, slots := 200, locals := 45 } : Room) s m ([.ref (b)] : List Value).toArray below meth c H locs 8 200 (MQ below (gE D A (fun v9 w9 => v9 = none ∧ ∃ (s1 s2 t t2 u u2 : Nat), w9 = ((s1, .inr (4, [.ref (s2)])) :: (s2, .inl (cy, 63, .inl lyS)) :: (t, .inr (4, [.ref (t2)])) :: (t2, .inl (cy, 63, .inl lyT)) :: (u, .inr (4, [.ref (u2)])) :: (u2, .inl (cy, 63, .inl lyU)) :: (b, .inr (1, [.ref (s1), .ref (t), .ref (u)])) :: Z))) ([.ref (b)] : List Value).toArray s 8 200 A) (F0 m 66 ls []) := by
        intro j_
        induction j_ with
        | zero =>
          intro y hn_y H locs ls hw hl
          have hP := hw.1
          refine lv_iload hx hb dX1_init_66 (lv_at hl 4 rfl) ?_
          refine lv_iconst (v := nI 3) hx hb dX1_init_68 rfl ?_
          refine q_geN (tgt := 151) hx hb dX1_init_69 (by decide) (by omega) (by omega) (fun c_69 => ?_) (fun c_69 => absurd c_69 (by omega))
          have hw : wS D A ((q43, .inr (4, [.ref (r49)])) :: (r49, .inl (cy, 7, .inl (cF (3 * (i + 1))))) :: (q31, .inr (4, [.ref (r37)])) :: (r37, .inl (cy, 63, .inl (lU (3 * (i + 1))))) :: (q18, .inr (4, [.ref (r24)])) :: (r24, .inl (cy, 63, .inl (lT (3 * (i + 1))))) :: (q5, .inr (4, [.ref (r11)])) :: (r11, .inl (cy, 63, .inl (lS (3 * (i + 1))))) :: (b, .inr (1, [.ref (q5), .ref (q18), .ref (q31)])) :: Z) s H locs := by rw [show 3 * (i + 1) = 3 * i + y by omega]; exact hw
          have hP := hw.1
          refine lv_iinc (v := nI (i + 1)) (lv' := [(2, .int (nI (i + 1))), (0, .ref (b)), (1, .ref (q43)), (3, .int (nI (uD i y))), (4, .int (nI (y)))]) hx hb dX1_init_151 hl (k := 2) rfl (show nI (i) + nI 1 = nI (i + 1) from nI_add _ _) (by decide) rfl (fun ls hl => ?_)
          refine lv_goto (tgt := 55) hx hb dX1_init_154 (by decide) ?_
          exact ih_i (i + 1) (by omega) _ _ _ hw (lv_sub hl [1, 2, 0] rfl)
        | succ j_ ih_y =>
          intro y hn_y H locs ls hw hl
          have hP := hw.1
          refine lv_iload hx hb dX1_init_66 (lv_at hl 4 rfl) ?_
          refine lv_iconst (v := nI 3) hx hb dX1_init_68 rfl ?_
          refine q_geN (tgt := 151) hx hb dX1_init_69 (by decide) (by omega) (by omega) (fun c_69 => absurd c_69 (by omega)) (fun c_69 => ?_)
          refine lv_iload_n hx hb dX1_init_72 rfl (lv_at hl 2 rfl) ?_
          refine lv_iload hx hb dX1_init_73 (lv_at hl 4 rfl) ?_
          refine q_cS (As := [.int (nI (i)), .int (nI (y))]) (rest := []) (w := []) ⟨hx, hb, hml, hown, hts⟩ (c_X1_discOfMember D cy (i) (y) (by omega) (by omega)) (va_cwS 2 hts gX1_init_X1_discOfMember rfl rfl rfl hd_X1_discOfMember ⟨Nat.le_of_ble_eq_true rfl, Nat.le_of_ble_eq_true rfl⟩) hK q_Pnil rfl hl.1 rfl (Nat.le_of_ble_eq_true rfl) ⟨Nat.le_of_ble_eq_true rfl, Nat.le_of_ble_eq_true rfl⟩ dX1_init_75 ?_
          refine lv_istore (lv' := [(5, .int (nI (mem i y))), (0, .ref (b)), (1, .ref (q43)), (2, .int (nI (i))), (3, .int (nI (uD i y))), (4, .int (nI (y)))]) hx hb dX1_init_78 hl (by decide) rfl (fun ls hl => ?_)
          refine lv_iload hx hb dX1_init_80 (lv_at hl 0 rfl) ?_
          refine lv_aload_n hx hb dX1_init_82 rfl (lv_at hl 2 rfl) ?_
          refine lv_iload hx hb dX1_init_83 (lv_at hl 0 rfl) ?_
          refine q_cV (As := [.int (nI (mem i y))]) (rest := [.int (nI (mem i y))]) ⟨hx, hb, hml, hown, hts⟩ (c_X4_at D cy ((q43, .inr (4, [.ref (r49)])) :: (r49, .inl (cy, 7, .inl (cF (3 * i + y)))) :: (q31, .inr (4, [.ref (r37)])) :: (r37, .inl (cy, 63, .inl (lU (3 * i + y)))) :: (q18, .inr (4, [.ref (r24)])) :: (r24, .inl (cy, 63, .inl (lT (3 * i + y)))) :: (q5, .inr (4, [.ref (r11)])) :: (r11, .inl (cy, 63, .inl (lS (3 * i + y)))) :: (b, .inr (1, [.ref (q5), .ref (q18), .ref (q31)])) :: Z) 0 1 (q43) (r49) 7 (cF (3 * i + y)) rfl rfl (mem i y) (by have h9 := mem_lt i y; omega) (by omega)) (cwV 1 hts gX1_init_X4_at rfl rfl rfl hd_X4_at ⟨Nat.le_of_ble_eq_true rfl, Nat.le_of_ble_eq_true rfl⟩) hK hP 0 rfl rfl rfl hl.1 rfl (Nat.le_of_ble_eq_true rfl) ⟨Nat.le_of_ble_eq_true rfl, Nat.le_of_ble_eq_true rfl⟩ dX1_init_85 ?_
          refine q_top (show ((cF (3 * i + y)) (mem i y)) = nI (cN (3 * i + y) (mem i y)) from rfl) ?_
          refine q_cS (As := [.int (nI (mem i y)), .int (nI (cN (3 * i + y) (mem i y)))]) (rest := []) (w := []) ⟨hx, hb, hml, hown, hts⟩ (c_X1_spotAt D cy (mem i y) (cN (3 * i + y) (mem i y))) (va_cwS 2 hts gX1_init_X1_spotAt rfl rfl rfl hd_X1_spotAt ⟨Nat.le_of_ble_eq_true rfl, Nat.le_of_ble_eq_true rfl⟩) hK q_Pnil rfl hl.1 rfl (Nat.le_of_ble_eq_true rfl) ⟨Nat.le_of_ble_eq_true rfl, Nat.le_of_ble_eq_true rfl⟩ dX1_init_88 ?_
          refine q_top (show (nI (9 * (mem i y) + (cN (3 * i + y) (mem i y)))) = nI (spT (pk (3 * i + y))) from congrArg nI (sk_e (by omega) (by omega))) ?_
          refine lv_istore (lv' := [(6, .int (nI (spT (pk (3 * i + y))))), (5, .int (nI (mem i y))), (0, .ref (b)), (1, .ref (q43)), (2, .int (nI (i))), (3, .int (nI (uD i y))), (4, .int (nI (y)))]) hx hb dX1_init_91 hl (by decide) rfl (fun ls hl => ?_)
          refine lv_aload_n hx hb dX1_init_93 rfl (lv_at hl 3 rfl) ?_
          refine lv_iload hx hb dX1_init_94 (lv_at hl 1 rfl) ?_
          refine q_wV0 (As := [.int (nI (mem i y))]) (rest := []) (st1 := []) ⟨hx, hb, hml, hown, hts⟩ (c_X4_increase D cy A ((q43, .inr (4, [.ref (r49)])) :: (r49, .inl (cy, 7, .inl (cF (3 * i + y)))) :: (q31, .inr (4, [.ref (r37)])) :: (r37, .inl (cy, 63, .inl (lU (3 * i + y)))) :: (q18, .inr (4, [.ref (r24)])) :: (r24, .inl (cy, 63, .inl (lT (3 * i + y)))) :: (q5, .inr (4, [.ref (r11)])) :: (r11, .inl (cy, 63, .inl (lS (3 * i + y)))) :: (b, .inr (1, [.ref (q5), .ref (q18), .ref (q31)])) :: Z) 0 1 (q43) (r49) 7 (cF (3 * i + y)) rfl rfl (mem i y) (by have h9 := mem_lt i y; omega) (by omega)) (cwV 1 hts gX1_init_X4_increase rfl rfl rfl hd_X4_increase ⟨Nat.le_of_ble_eq_true rfl, Nat.le_of_ble_eq_true rfl⟩) hK hA hw 0 rfl rfl rfl hl.1 rfl rfl (Nat.le_of_ble_eq_true rfl) ⟨Nat.le_of_ble_eq_true rfl, Nat.le_of_ble_eq_true rfl⟩ dX1_init_96 (fun H locs hw => ?_)
          have hw : wS D A ((q43, .inr (4, [.ref (r49)])) :: (r49, .inl (cy, 7, .inl (upd (cF (3 * i + y)) (mem i y) ((cF (3 * i + y)) (mem i y) + 1)))) :: (q31, .inr (4, [.ref (r37)])) :: (r37, .inl (cy, 63, .inl (lU (3 * i + y)))) :: (q18, .inr (4, [.ref (r24)])) :: (r24, .inl (cy, 63, .inl (lT (3 * i + y)))) :: (q5, .inr (4, [.ref (r11)])) :: (r11, .inl (cy, 63, .inl (lS (3 * i + y)))) :: (b, .inr (1, [.ref (q5), .ref (q18), .ref (q31)])) :: Z) s H locs := hw
          have hP := hw.1
          have hw : wS D A ((q43, .inr (4, [.ref (r49)])) :: (r49, .inl (cy, 7, .inl (cF (3 * i + (y + 1))))) :: (q31, .inr (4, [.ref (r37)])) :: (r37, .inl (cy, 63, .inl (lU (3 * i + y)))) :: (q18, .inr (4, [.ref (r24)])) :: (r24, .inl (cy, 63, .inl (lT (3 * i + y)))) :: (q5, .inr (4, [.ref (r11)])) :: (r11, .inl (cy, 63, .inl (lS (3 * i + y)))) :: (b, .inr (1, [.ref (q5), .ref (q18), .ref (q31)])) :: Z) s H locs := by rw [cF_s (i := i) (m := y) (by omega)]; exact hw
          have hP := hw.1
          refine lv_iload hx hb dX1_init_99 (lv_at hl 6 rfl) ?_
          refine lv_iload_n hx hb dX1_init_101 rfl (lv_at hl 4 rfl) ?_
          refine lv_bipush (v := nI 7) hx hb dX1_init_102 rfl ?_
          refine q_divN hx hb dX1_init_104 (by omega) (by omega) (by omega) ?_
          refine q_neN (tgt := 112) hx hb dX1_init_105 (by decide) (by omega) (by omega) (fun c_105 => ?_) (fun c_105 => ?_)
          · refine lv_iconst (v := nI 0) hx hb dX1_init_112 rfl ?_
            refine lv_istore (lv' := [(7, .int (nI (0))), (6, .int (nI (spT (pk (3 * i + y))))), (5, .int (nI (mem i y))), (0, .ref (b)), (1, .ref (q43)), (2, .int (nI (i))), (3, .int (nI (uD i y))), (4, .int (nI (y)))]) hx hb dX1_init_113 hl (by decide) rfl (fun ls hl => ?_)
            refine lv_aload_n hx hb dX1_init_115 rfl (lv_at hl 3 rfl) ?_
            refine lv_iload hx hb dX1_init_116 (lv_at hl 1 rfl) ?_
            refine lv_iload_n hx hb dX1_init_118 rfl (lv_at hl 5 rfl) ?_
            refine lv_iload hx hb dX1_init_119 (lv_at hl 0 rfl) ?_
            refine q_ifeqN (tgt := 128) hx hb dX1_init_121 (by decide) (by omega) (fun c_121 => ?_) (fun c_121 => absurd c_121 (by omega))
            refine lv_iload_n hx hb dX1_init_128 rfl (lv_at hl 6 rfl) ?_
            refine q_wV0 (As := [.int (nI (spT (pk (3 * i + y)))), .int (nI (i)), .int (nI (uD i y))]) (rest := []) (st1 := []) ⟨hx, hb, hml, hown, hts⟩ (c_X1_lay D cy A b q43 r49 q31 r37 q18 r24 q5 r11 (cF (3 * i + (y + 1))) (lS (3 * i + y)) (lT (3 * i + y)) (lU (3 * i + y)) Z (spT (pk (3 * i + y))) (i) (uD i y) (lyp_lt (by omega) (by omega)) (by omega) (uD_lt c_105 (by omega))) (cwV 3 hts gX1_init_X1_lay rfl rfl rfl hd_X1_lay ⟨Nat.le_of_ble_eq_true rfl, Nat.le_of_ble_eq_true rfl⟩) hK hA hw 8 rfl rfl rfl hl.1 rfl rfl (Nat.le_of_ble_eq_true rfl) ⟨Nat.le_of_ble_eq_true rfl, Nat.le_of_ble_eq_true rfl⟩ dX1_init_129 (fun H locs hw => ?_)
            have hw : wS D A ((q43, .inr (4, [.ref (r49)])) :: (r49, .inl (cy, 7, .inl (cF (3 * i + (y + 1))))) :: (q31, .inr (4, [.ref (r37)])) :: (r37, .inl (cy, 63, .inl (lU (3 * i + (y + 1))))) :: (q18, .inr (4, [.ref (r24)])) :: (r24, .inl (cy, 63, .inl (lT (3 * i + (y + 1))))) :: (q5, .inr (4, [.ref (r11)])) :: (r11, .inl (cy, 63, .inl (lS (3 * i + (y + 1))))) :: (b, .inr (1, [.ref (q5), .ref (q18), .ref (q31)])) :: Z) s H locs := by
              obtain ⟨e1, e2, e3⟩ := lay_u c_105 (i := i) (m := y) (by omega) (by omega)
              rw [e1, e2, e3]; exact hw
            have hP := hw.1
            refine lv_iload_n hx hb dX1_init_132 rfl (lv_at hl 6 rfl) ?_
            refine lv_iload hx hb dX1_init_133 (lv_at hl 0 rfl) ?_
            refine q_ifeqN (tgt := 142) hx hb dX1_init_135 (by decide) (by omega) (fun c_135 => ?_) (fun c_135 => absurd c_135 (by omega))
            refine lv_iconst (v := nI 1) hx hb dX1_init_142 rfl ?_
            refine q_addN hx hb dX1_init_143 ?_
            refine lv_istore_n (lv' := [(3, .int (nI ((uD i y) + 1))), (7, .int (nI (0))), (6, .int (nI (spT (pk (3 * i + y))))), (5, .int (nI (mem i y))), (0, .ref (b)), (1, .ref (q43)), (2, .int (nI (i))), (4, .int (nI (y)))]) hx hb dX1_init_144 rfl hl (by decide) rfl (fun ls hl => ?_)
            have e_c : nI ((uD i y) + 1) = nI (uD i (y + 1)) := congrArg nI (by show (uD i y) + 1 = uD i y + _; rw [if_neg c_105])
            have hl : lv_has ls 8 [(3, .int (nI (uD i (y + 1)))), (7, .int (nI (0))), (6, .int (nI (spT (pk (3 * i + y))))), (5, .int (nI (mem i y))), (0, .ref (b)), (1, .ref (q43)), (2, .int (nI (i))), (4, .int (nI (y)))] := by rw [← e_c]; exact hl
            refine lv_iinc (v := nI (y + 1)) (lv' := [(4, .int (nI (y + 1))), (3, .int (nI (uD i (y + 1)))), (7, .int (nI (0))), (6, .int (nI (spT (pk (3 * i + y))))), (5, .int (nI (mem i y))), (0, .ref (b)), (1, .ref (q43)), (2, .int (nI (i)))]) hx hb dX1_init_145 hl (k := 7) rfl (show nI (y) + nI 1 = nI (y + 1) from nI_add _ _) (by decide) rfl (fun ls hl => ?_)
            refine lv_goto (tgt := 66) hx hb dX1_init_148 (by decide) ?_
            exact ih_y (y + 1) (by omega) _ _ _ hw (lv_sub hl [5, 6, 7, 1, 0] rfl)
          · refine lv_iconst (v := nI 1) hx hb dX1_init_108 rfl ?_
            refine lv_goto (tgt := 113) hx hb dX1_init_109 (by decide) ?_
            refine lv_istore (lv' := [(7, .int (nI (1))), (6, .int (nI (spT (pk (3 * i + y))))), (5, .int (nI (mem i y))), (0, .ref (b)), (1, .ref (q43)), (2, .int (nI (i))), (3, .int (nI (uD i y))), (4, .int (nI (y)))]) hx hb dX1_init_113 hl (by decide) rfl (fun ls hl => ?_)
            refine lv_aload_n hx hb dX1_init_115 rfl (lv_at hl 3 rfl) ?_
            refine lv_iload hx hb dX1_init_116 (lv_at hl 1 rfl) ?_
            refine lv_iload_n hx hb dX1_init_118 rfl (lv_at hl 5 rfl) ?_
            refine lv_iload hx hb dX1_init_119 (lv_at hl 0 rfl) ?_
            refine q_ifeqN (tgt := 128) hx hb dX1_init_121 (by decide) (by omega) (fun c_121 => absurd c_121 (by omega)) (fun c_121 => ?_)
            refine lv_iconst (v := nI 2) hx hb dX1_init_124 rfl ?_
            refine lv_goto (tgt := 129) hx hb dX1_init_125 (by decide) ?_
            refine q_wV0 (As := [.int (nI (spT (pk (3 * i + y)))), .int (nI (i)), .int (nI (2))]) (rest := []) (st1 := []) ⟨hx, hb, hml, hown, hts⟩ (c_X1_lay D cy A b q43 r49 q31 r37 q18 r24 q5 r11 (cF (3 * i + (y + 1))) (lS (3 * i + y)) (lT (3 * i + y)) (lU (3 * i + y)) Z (spT (pk (3 * i + y))) (i) (2) (lyp_lt (by omega) (by omega)) (by omega) (by omega)) (cwV 3 hts gX1_init_X1_lay rfl rfl rfl hd_X1_lay ⟨Nat.le_of_ble_eq_true rfl, Nat.le_of_ble_eq_true rfl⟩) hK hA hw 8 rfl rfl rfl hl.1 rfl rfl (Nat.le_of_ble_eq_true rfl) ⟨Nat.le_of_ble_eq_true rfl, Nat.le_of_ble_eq_true rfl⟩ dX1_init_129 (fun H locs hw => ?_)
            have hw : wS D A ((q43, .inr (4, [.ref (r49)])) :: (r49, .inl (cy, 7, .inl (cF (3 * i + (y + 1))))) :: (q31, .inr (4, [.ref (r37)])) :: (r37, .inl (cy, 63, .inl (lU (3 * i + (y + 1))))) :: (q18, .inr (4, [.ref (r24)])) :: (r24, .inl (cy, 63, .inl (lT (3 * i + (y + 1))))) :: (q5, .inr (4, [.ref (r11)])) :: (r11, .inl (cy, 63, .inl (lS (3 * i + (y + 1))))) :: (b, .inr (1, [.ref (q5), .ref (q18), .ref (q31)])) :: Z) s H locs := by
              obtain ⟨e1, e2, e3⟩ := lay_2 c_105 (i := i) (m := y) (by omega) (by omega)
              rw [e1, e2, e3]; exact hw
            have hP := hw.1
            refine lv_iload_n hx hb dX1_init_132 rfl (lv_at hl 6 rfl) ?_
            refine lv_iload hx hb dX1_init_133 (lv_at hl 0 rfl) ?_
            refine q_ifeqN (tgt := 142) hx hb dX1_init_135 (by decide) (by omega) (fun c_135 => absurd c_135 (by omega)) (fun c_135 => ?_)
            refine lv_iconst (v := nI 0) hx hb dX1_init_138 rfl ?_
            refine lv_goto (tgt := 143) hx hb dX1_init_139 (by decide) ?_
            refine q_addN hx hb dX1_init_143 ?_
            refine lv_istore_n (lv' := [(3, .int (nI ((uD i y) + 0))), (7, .int (nI (1))), (6, .int (nI (spT (pk (3 * i + y))))), (5, .int (nI (mem i y))), (0, .ref (b)), (1, .ref (q43)), (2, .int (nI (i))), (4, .int (nI (y)))]) hx hb dX1_init_144 rfl hl (by decide) rfl (fun ls hl => ?_)
            have e_c : nI ((uD i y) + 0) = nI (uD i (y + 1)) := congrArg nI (by show (uD i y) + 0 = uD i y + _; rw [if_pos c_105])
            have hl : lv_has ls 8 [(3, .int (nI (uD i (y + 1)))), (7, .int (nI (1))), (6, .int (nI (spT (pk (3 * i + y))))), (5, .int (nI (mem i y))), (0, .ref (b)), (1, .ref (q43)), (2, .int (nI (i))), (4, .int (nI (y)))] := by rw [← e_c]; exact hl
            refine lv_iinc (v := nI (y + 1)) (lv' := [(4, .int (nI (y + 1))), (3, .int (nI (uD i (y + 1)))), (7, .int (nI (1))), (6, .int (nI (spT (pk (3 * i + y))))), (5, .int (nI (mem i y))), (0, .ref (b)), (1, .ref (q43)), (2, .int (nI (i)))]) hx hb dX1_init_145 hl (k := 7) rfl (show nI (y) + nI 1 = nI (y + 1) from nI_add _ _) (by decide) rfl (fun ls hl => ?_)
            refine lv_goto (tgt := 66) hx hb dX1_init_148 (by decide) ?_
            exact ih_y (y + 1) (by omega) _ _ _ hw (lv_sub hl [5, 6, 7, 1, 0] rfl)
      exact lp66 (3 - 0) 0 (by omega) _ _ _ hw (lv_sub hl [2, 3, 4, 1, 0] rfl)
  exact lp55 (21 - 0) 0 (by omega) _ _ _ hw (lv_sub hl [2, 1, 0] rfl)

