def loD (d o : Nat) : Nat := cntB (fun q => decide (¬ d = o) && lies q d && lies q o) 21
def cAp (n : Nat) (x : Int32) : Nat := if inB x 33 126 = true then (if n = 60 then 2 else 0) else 1
def cRn (tx : Nat → Nat) (n : Nat) : Nat := if (pv tx n (n + 1) 0).1 = true then 0 else 1
def cUn (many : Nat) : Nat := if many = 0 then 1 else 0
theorem wst_n {σ : Nat → Int32} {k : Nat} (h : ¬ σ (63 + k) = 9) : wst σ (k + 1) = wst σ k := by
  simp only [wst]; rw [if_neg (fun q => h q.1)]
theorem wst_y {σ : Nat → Int32} {k : Nat} (h : σ (63 + k) = 9) (h2 : (wst σ k).2 < nI (cl (failS σ k))) : wst σ (k + 1) = (nI k, nI (cl (failS σ k))) := by
  simp only [wst]; rw [if_pos ⟨h, h2⟩]
theorem wst_l {σ : Nat → Int32} {k : Nat} (h : ¬ (wst σ k).2 < nI (cl (failS σ k))) : wst σ (k + 1) = wst σ k := by
  simp only [wst]; rw [if_neg (fun q => h q.2)]
theorem wst_2 (σ : Nat → Int32) : ∀ k, k ≤ 7 → ((wst σ k).1 = -1 ∧ (wst σ k).2 = -1) ∨ ∃ f, f < 7 ∧ (wst σ k).1 = nI f ∧ (wst σ k).2 = nI (cl (failS σ f)) := by
  intro k
  induction k with
  | zero => intro _; exact Or.inl ⟨rfl, rfl⟩
  | succ k ih =>
    intro hk
    simp only [wst]
    split
    · exact Or.inr ⟨k, by omega, rfl, rfl⟩
    · exact ih (by omega)
theorem wst_N (σ : Nat → Int32) {k : Nat} (hk : k ≤ 7) (h : ¬ (wst σ k).1 = -1) : ∃ f, f < 7 ∧ (wst σ k).1 = nI f ∧ (wst σ k).2 = nI (cl (failS σ f)) := by
  rcases wst_2 σ k hk with q | q
  · exact absurd q.1 h
  · exact q
theorem nI_gt_m1 {n : Nat} (h : n < 2 ^ 31) : (-1 : Int32) < nI n := by
  rw [Int32.lt_iff_toInt_lt, nI_toInt h]
  have h4 : (-1 : Int32).toInt = -1 := by decide
  omega
theorem wst_m1 {σ : Nat → Int32} {k : Nat} (h : (wst σ k).1 = -1) (hk : k ≤ 7 := by omega) : (wst σ k).2 < nI (cl (failS σ k)) := by
  rcases wst_2 σ k hk with q | ⟨f, hf, q, -⟩
  · rw [q.2]
    exact nI_gt_m1 (by have h9 := cntB_le (fun q => lo (failS σ k) (ad q)) 42; unfold cl; omega)
  · rw [q] at h
    exact absurd h (nI_ne_m1 (by omega))
theorem un_back {σ τ saved : Nat → Int32} {st : Nat} (h : ∀ i, i < 86 → saved (86 * st + i) = mS τ i) (h2 : ∀ i, 86 ≤ i → σ i = τ i) : cpG (mS σ) saved 0 (86 * st) 86 = mS τ := by
  funext i
  unfold cpG
  by_cases q : i < 86
  · rw [if_pos (by omega), ← h i q]
    congr 1
  · rw [if_neg (by omega), mS_c _ (by omega), mS_c _ (by omega)]
    exact h2 i (by omega)

set_option maxHeartbeats 1000000 in
set_option maxRecDepth 100000 in
theorem c_X7_lostIfFailed {l : Launch} (D : va_G) (cy : ClassId) (A : Nat → Prop) (b : Nat → Nat) (σ saved : Nat → Int32) (many : Nat) (bef T : Nat → Int32) (len thr at_ : Nat) (le f1 f2 : Int32) (dn : Nat) (hs : Int64) (Z : va_W) (x : Int32) (h_0 : Val σ) : Met l yX7_lostIfFailed wsX7_lostIfFailed (k2_rm 9 200) (gP D cy [.ref (b 0), .int (x)] A (wM cy b (mS σ) saved many bef T len thr at_ le f1 f2 dn hs ++ Z)) (gQ D A (some (.int (nI (if c1 x 7 = 0 then cl (failS σ (ix x)) else 0)))) (wM cy b (mS σ) saved many (if c1 x 7 = 0 then cpG bef (mS σ) 0 0 86 else bef) T len (c1 x 7) at_ le f1 f2 dn hs ++ Z)) 0 0 A := by
  refine q_imp (cc := cX7_lostIfFailed) (maxL := 2) (ret := (some .int)) pl_X7 rfl (Nat.le_of_ble_eq_true rfl) ?_
  intro p e s m below meth c ls hx hb hr hml hts hown hlocks hw hK hA hl
  have hP := hw.1
  have hl : lv_has ls 2 [(0, .ref (b 0)), (1, .int (x))] := hl
  refine lv_aload_n hx hb dX7_lostIfFailed_0 rfl (lv_at hl 0 rfl) ?_
  refine lv_iload_n hx hb dX7_lostIfFailed_1 rfl (lv_at hl 1 rfl) ?_
  refine q_cS (As := [.int (x)]) (rest := [.ref (b 0)]) (w := []) ⟨hx, hb, hml, hown, hts⟩ (c_X7_isDisc D cy (x)) (va_cwS 1 hts gX7_lostIfFailed_X7_isDisc rfl rfl rfl hd_X7_isDisc ⟨Nat.le_of_ble_eq_true rfl, Nat.le_of_ble_eq_true rfl⟩) hK q_Pnil rfl hl.1 rfl (Nat.le_of_ble_eq_true rfl) ⟨Nat.zero_le _, Nat.zero_le _⟩ dX7_lostIfFailed_2 ?_
  refine q_ifeqB (tgt := 12) hx hb dX7_lostIfFailed_5 (by decide) (fun c_5 => ?_) (fun c_5 => ?_)
  · refine lv_iconst (v := nI 1) hx hb dX7_lostIfFailed_12 rfl ?_
    refine q_wV0 (As := [.int (nI (1))]) (rest := []) (st1 := [.int (bI (decide (1 = 0)))]) ⟨hx, hb, hml, hown, hts⟩ (c_X7_holds D cy A b σ saved many bef T len thr at_ le f1 f2 dn hs Z (1) (by omega)) (cwV 1 hts gX7_lostIfFailed_X7_holds rfl rfl rfl hd_X7_holds ⟨Nat.le_of_ble_eq_true rfl, Nat.le_of_ble_eq_true rfl⟩) hK hA hw 0 rfl rfl rfl hl.1 rfl rfl (Nat.le_of_ble_eq_true rfl) ⟨Nat.zero_le _, Nat.zero_le _⟩ dX7_lostIfFailed_13 (fun H locs hw => ?_)
    have hw : wS D A (wM cy b (mS σ) saved many bef T len 1 at_ le f1 f2 dn hs ++ Z) s H locs := hw
    have hP := hw.1
    refine q_ifeqB (tgt := 27) hx hb dX7_lostIfFailed_16 (by decide) (fun c_16 => ?_) (fun c_16 => absurd c_16 (by decide))
    refine lv_iconst (v := nI 0) hx hb dX7_lostIfFailed_27 rfl ?_
    have e_c : c1 x 7 = 1 := by rw [c1, if_neg (by rw [c_5]; decide)]
    have hw : wS D A (wM cy b (mS σ) saved many (if c1 x 7 = 0 then cpG bef (mS σ) 0 0 86 else bef) T len (c1 x 7) at_ le f1 f2 dn hs ++ Z) s H locs := by rw [e_c]; exact hw
    exact q_iretW hx hb hr hlocks hw dX7_lostIfFailed_28 (by rw [e_c]; rfl)
  · refine lv_iconst (v := nI 0) hx hb dX7_lostIfFailed_8 rfl ?_
    refine lv_goto (tgt := 13) hx hb dX7_lostIfFailed_9 (by decide) ?_
    refine q_wV0 (As := [.int (nI (0))]) (rest := []) (st1 := [.int (bI (decide (0 = 0)))]) ⟨hx, hb, hml, hown, hts⟩ (c_X7_holds D cy A b σ saved many bef T len thr at_ le f1 f2 dn hs Z (0) (by omega)) (cwV 1 hts gX7_lostIfFailed_X7_holds rfl rfl rfl hd_X7_holds ⟨Nat.le_of_ble_eq_true rfl, Nat.le_of_ble_eq_true rfl⟩) hK hA hw 0 rfl rfl rfl hl.1 rfl rfl (Nat.le_of_ble_eq_true rfl) ⟨Nat.zero_le _, Nat.zero_le _⟩ dX7_lostIfFailed_13 (fun H locs hw => ?_)
    have hw : wS D A (wM cy b (mS σ) saved many bef T len 0 at_ le f1 f2 dn hs ++ Z) s H locs := hw
    have hP := hw.1
    refine q_ifeqB (tgt := 27) hx hb dX7_lostIfFailed_16 (by decide) (fun c_16 => absurd c_16 (by decide)) (fun c_16 => ?_)
    obtain ⟨j, h_j, e_j⟩ := inR_nI c_5
    have x_j : ix x = j := by rw [e_j]; exact nI_clamp (by omega)
    have hl : lv_has ls 2 [(0, .ref (b 0)), (1, .int (nI (j)))] := by rw [← e_j]; exact hl
    refine lv_aload_n hx hb dX7_lostIfFailed_19 rfl (lv_at hl 0 rfl) ?_
    refine lv_iload_n hx hb dX7_lostIfFailed_20 rfl (lv_at hl 1 rfl) ?_
    refine q_wV0 (As := [.int (nI (j))]) (rest := []) (st1 := [.int (nI (cl (failS σ j)))]) ⟨hx, hb, hml, hown, hts⟩ (c_X7_lostBy D cy A b σ saved many bef T len 0 at_ le f1 f2 dn hs Z (j) h_j h_0) (cwV 1 hts gX7_lostIfFailed_X7_lostBy rfl rfl rfl hd_X7_lostBy ⟨Nat.le_of_ble_eq_true rfl, Nat.le_of_ble_eq_true rfl⟩) hK hA hw 0 rfl rfl rfl hl.1 rfl rfl (Nat.le_of_ble_eq_true rfl) ⟨Nat.zero_le _, Nat.zero_le _⟩ dX7_lostIfFailed_21 (fun H locs hw => ?_)
    have hw : wS D A (wM cy b (mS σ) saved many (cpG bef (mS σ) 0 0 86) T len 0 at_ le f1 f2 dn hs ++ Z) s H locs := hw
    have hP := hw.1
    refine lv_goto (tgt := 28) hx hb dX7_lostIfFailed_24 (by decide) ?_
    have e_c : c1 x 7 = 0 := by rw [c1, if_pos c_5]
    have hw : wS D A (wM cy b (mS σ) saved many (if c1 x 7 = 0 then cpG bef (mS σ) 0 0 86 else bef) T len (c1 x 7) at_ le f1 f2 dn hs ++ Z) s H locs := by rw [e_c]; exact hw
    exact q_iretW hx hb hr hlocks hw dX7_lostIfFailed_28 (by rw [e_c]; rw [if_pos rfl, x_j])
set_option maxHeartbeats 1000000 in
set_option maxRecDepth 100000 in
theorem c_X7_loadOf {l : Launch} (D : va_G) (cy : ClassId) (A : Nat → Prop) (b : Nat → Nat) (σ saved : Nat → Int32) (many : Nat) (bef T : Nat → Int32) (len thr at_ : Nat) (le f1 f2 : Int32) (dn : Nat) (hs : Int64) (Z : va_W) (x : Int32) (y : Int32) : Met l yX7_loadOf wsX7_loadOf (k2_rm 2 42) (gP D cy [.ref (b 0), .int (x), .int (y)] A (wM cy b (mS σ) saved many bef T len thr at_ le f1 f2 dn hs ++ Z)) (gQ D A (some (.int (nI (if c2 x 7 y 7 = 0 then loD (ix x) (ix y) else 0)))) (wM cy b (mS σ) saved many bef T len (c2 x 7 y 7) at_ le f1 f2 dn hs ++ Z)) 0 0 A := by
  refine q_imp (cc := cX7_loadOf) (maxL := 5) (ret := (some .int)) pl_X7 rfl (Nat.le_of_ble_eq_true rfl) ?_
  intro p e s m below meth c ls hx hb hr hml hts hown hlocks hw hK hA hl
  have hP := hw.1
  have hl : lv_has ls 5 [(0, .ref (b 0)), (1, .int (x)), (2, .int (y))] := hl
  refine lv_aload_n hx hb dX7_loadOf_0 rfl (lv_at hl 0 rfl) ?_
  refine lv_iload_n hx hb dX7_loadOf_1 rfl (lv_at hl 1 rfl) ?_
  refine q_cS (As := [.int (x)]) (rest := [.ref (b 0)]) (w := []) ⟨hx, hb, hml, hown, hts⟩ (c_X7_isDisc D cy (x)) (va_cwS 1 hts gX7_loadOf_X7_isDisc rfl rfl rfl hd_X7_isDisc ⟨Nat.le_of_ble_eq_true rfl, Nat.le_of_ble_eq_true rfl⟩) hK q_Pnil rfl hl.1 rfl (Nat.le_of_ble_eq_true rfl) ⟨Nat.zero_le _, Nat.zero_le _⟩ dX7_loadOf_2 ?_
  refine q_ifeqB (tgt := 19) hx hb dX7_loadOf_5 (by decide) (fun c_5 => ?_) (fun c_5 => ?_)
  · refine lv_iconst (v := nI 1) hx hb dX7_loadOf_19 rfl ?_
    refine q_wV0 (As := [.int (nI (1))]) (rest := []) (st1 := [.int (bI (decide (1 = 0)))]) ⟨hx, hb, hml, hown, hts⟩ (c_X7_holds D cy A b σ saved many bef T len thr at_ le f1 f2 dn hs Z (1) (by omega)) (cwV 1 hts gX7_loadOf_X7_holds rfl rfl rfl hd_X7_holds ⟨Nat.le_of_ble_eq_true rfl, Nat.le_of_ble_eq_true rfl⟩) hK hA hw 0 rfl rfl rfl hl.1 rfl rfl (Nat.le_of_ble_eq_true rfl) ⟨Nat.zero_le _, Nat.zero_le _⟩ dX7_loadOf_20 (fun H locs hw => ?_)
    have hw : wS D A (wM cy b (mS σ) saved many bef T len 1 at_ le f1 f2 dn hs ++ Z) s H locs := hw
    have hP := hw.1
    refine q_ifneB (tgt := 28) hx hb dX7_loadOf_23 (by decide) (fun c_23 => absurd c_23 (by decide)) (fun c_23 => ?_)
    refine lv_iconst (v := nI 0) hx hb dX7_loadOf_26 rfl ?_
    have e_c : c2 x 7 y 7 = 1 := by rw [c2, if_neg (by rw [c_5]; simp)]
    have hw : wS D A (wM cy b (mS σ) saved many bef T len (c2 x 7 y 7) at_ le f1 f2 dn hs ++ Z) s H locs := by rw [e_c]; exact hw
    exact q_iretW hx hb hr hlocks hw dX7_loadOf_27 (by rw [e_c]; rfl)
  · refine lv_iload_n hx hb dX7_loadOf_8 rfl (lv_at hl 2 rfl) ?_
    refine q_cS (As := [.int (y)]) (rest := [.ref (b 0)]) (w := []) ⟨hx, hb, hml, hown, hts⟩ (c_X7_isDisc D cy (y)) (va_cwS 1 hts gX7_loadOf_X7_isDisc rfl rfl rfl hd_X7_isDisc ⟨Nat.le_of_ble_eq_true rfl, Nat.le_of_ble_eq_true rfl⟩) hK q_Pnil rfl hl.1 rfl (Nat.le_of_ble_eq_true rfl) ⟨Nat.zero_le _, Nat.zero_le _⟩ dX7_loadOf_9 ?_
    refine q_ifeqB (tgt := 19) hx hb dX7_loadOf_12 (by decide) (fun c_12 => ?_) (fun c_12 => ?_)
    · refine lv_iconst (v := nI 1) hx hb dX7_loadOf_19 rfl ?_
      refine q_wV0 (As := [.int (nI (1))]) (rest := []) (st1 := [.int (bI (decide (1 = 0)))]) ⟨hx, hb, hml, hown, hts⟩ (c_X7_holds D cy A b σ saved many bef T len thr at_ le f1 f2 dn hs Z (1) (by omega)) (cwV 1 hts gX7_loadOf_X7_holds rfl rfl rfl hd_X7_holds ⟨Nat.le_of_ble_eq_true rfl, Nat.le_of_ble_eq_true rfl⟩) hK hA hw 0 rfl rfl rfl hl.1 rfl rfl (Nat.le_of_ble_eq_true rfl) ⟨Nat.zero_le _, Nat.zero_le _⟩ dX7_loadOf_20 (fun H locs hw => ?_)
      have hw : wS D A (wM cy b (mS σ) saved many bef T len 1 at_ le f1 f2 dn hs ++ Z) s H locs := hw
      have hP := hw.1
      refine q_ifneB (tgt := 28) hx hb dX7_loadOf_23 (by decide) (fun c_23 => absurd c_23 (by decide)) (fun c_23 => ?_)
      refine lv_iconst (v := nI 0) hx hb dX7_loadOf_26 rfl ?_
      have e_c : c2 x 7 y 7 = 1 := by rw [c2, if_neg (by rw [c_12]; simp)]
      have hw : wS D A (wM cy b (mS σ) saved many bef T len (c2 x 7 y 7) at_ le f1 f2 dn hs ++ Z) s H locs := by rw [e_c]; exact hw
      exact q_iretW hx hb hr hlocks hw dX7_loadOf_27 (by rw [e_c]; rfl)
    · refine lv_iconst (v := nI 0) hx hb dX7_loadOf_15 rfl ?_
      refine lv_goto (tgt := 20) hx hb dX7_loadOf_16 (by decide) ?_
      refine q_wV0 (As := [.int (nI (0))]) (rest := []) (st1 := [.int (bI (decide (0 = 0)))]) ⟨hx, hb, hml, hown, hts⟩ (c_X7_holds D cy A b σ saved many bef T len thr at_ le f1 f2 dn hs Z (0) (by omega)) (cwV 1 hts gX7_loadOf_X7_holds rfl rfl rfl hd_X7_holds ⟨Nat.le_of_ble_eq_true rfl, Nat.le_of_ble_eq_true rfl⟩) hK hA hw 0 rfl rfl rfl hl.1 rfl rfl (Nat.le_of_ble_eq_true rfl) ⟨Nat.zero_le _, Nat.zero_le _⟩ dX7_loadOf_20 (fun H locs hw => ?_)
      have hw : wS D A (wM cy b (mS σ) saved many bef T len 0 at_ le f1 f2 dn hs ++ Z) s H locs := hw
      have hP := hw.1
      refine q_ifneB (tgt := 28) hx hb dX7_loadOf_23 (by decide) (fun c_23 => ?_) (fun c_23 => absurd c_23 (by decide))
      obtain ⟨i, h_i, e_i⟩ := inR_nI c_5
      have x_i : ix x = i := by rw [e_i]; exact nI_clamp (by omega)
      have hl : lv_has ls 5 [(0, .ref (b 0)), (1, .int (nI (i))), (2, .int (y))] := by rw [← e_i]; exact hl
      obtain ⟨j, h_j, e_j⟩ := inR_nI c_12
      have x_j : ix y = j := by rw [e_j]; exact nI_clamp (by omega)
      have hl : lv_has ls 5 [(0, .ref (b 0)), (1, .int (nI (i))), (2, .int (nI (j)))] := by rw [← e_j]; exact hl
      refine lv_iconst (v := nI 0) hx hb dX7_loadOf_28 rfl ?_
      refine lv_istore_n (lv' := [(3, .int (nI (0))), (0, .ref (b 0)), (1, .int (nI (i))), (2, .int (nI (j)))]) hx hb dX7_loadOf_29 rfl hl (by decide) rfl (fun ls hl => ?_)
      refine lv_iconst (v := nI 0) hx hb dX7_loadOf_30 rfl ?_
      refine lv_istore (lv' := [(4, .int (nI (0))), (3, .int (nI (0))), (0, .ref (b 0)), (1, .int (nI (i))), (2, .int (nI (j)))]) hx hb dX7_loadOf_31 hl (by decide) rfl (fun ls hl => ?_)
      have lp33 : ∀ (j_ k : Nat), k + j_ = 21 → ∀ (H : Heap) (locs : List Loc) (ls : Array Slot), wS D A (wM cy b (mS σ) saved many bef T len 0 at_ le f1 f2 dn hs ++ Z) s H locs → lv_has ls 5 [(0, .ref (b 0)), (1, .int (nI (i))), (2, .int (nI (j))), (3, .int (nI (cntB (fun q => decide (¬ i = j) && lies q i && lies q j) k))), (4, .int (nI (k)))] → W p l e (k2_rm 2 42) s m ([.ref (b 0), .int (x), .int (y)] : List Value).toArray below meth c H locs 0 0 (MQ below (gQ D A (some (.int (nI (if c2 x 7 y 7 = 0 then loD (ix x) (ix y) else 0)))) (wM cy b (mS σ) saved many bef T len (c2 x 7 y 7) at_ le f1 f2 dn hs ++ Z)) ([.ref (b 0), .int (x), .int (y)] : List Value).toArray s 0 0 A) (F0 m 33 ls []) := by
        intro j_
        induction j_ with
        | zero =>
          intro k hn_k H locs ls hw hl
          have hP := hw.1
          refine lv_iload hx hb dX7_loadOf_33 (lv_at hl 4 rfl) ?_
          refine lv_bipush (v := nI 21) hx hb dX7_loadOf_35 rfl ?_
          refine q_geN (tgt := 77) hx hb dX7_loadOf_37 (by decide) (by omega) (by omega) (fun c_37 => ?_) (fun c_37 => absurd c_37 (by omega))
          refine lv_iload_n hx hb dX7_loadOf_77 rfl (lv_at hl 3 rfl) ?_
          have e_c : c2 x 7 y 7 = 0 := by rw [c2, if_pos (by rw [c_5, c_12]; rfl)]
          have hw : wS D A (wM cy b (mS σ) saved many bef T len (c2 x 7 y 7) at_ le f1 f2 dn hs ++ Z) s H locs := by rw [e_c]; exact hw
          exact q_iretW hx hb hr hlocks hw dX7_loadOf_78 (by rw [e_c, if_pos rfl, x_i, x_j, loD, show k = 21 by omega])
        | succ j_ ih_k =>
          intro k hn_k H locs ls hw hl
          have hP := hw.1
          refine lv_iload hx hb dX7_loadOf_33 (lv_at hl 4 rfl) ?_
          refine lv_bipush (v := nI 21) hx hb dX7_loadOf_35 rfl ?_
          refine q_geN (tgt := 77) hx hb dX7_loadOf_37 (by decide) (by omega) (by omega) (fun c_37 => absurd c_37 (by omega)) (fun c_37 => ?_)
          refine lv_iload_n hx hb dX7_loadOf_40 rfl (lv_at hl 3 rfl) ?_
          refine lv_iload_n hx hb dX7_loadOf_41 rfl (lv_at hl 1 rfl) ?_
          refine lv_iload_n hx hb dX7_loadOf_42 rfl (lv_at hl 2 rfl) ?_
          refine q_eqN (tgt := 68) hx hb dX7_loadOf_43 (by decide) (by omega) (by omega) (fun c_43 => ?_) (fun c_43 => ?_)
          · refine lv_iconst (v := nI 0) hx hb dX7_loadOf_68 rfl ?_
            refine q_addN hx hb dX7_loadOf_69 ?_
            refine lv_istore_n (lv' := [(3, .int (nI ((cntB (fun q => decide (¬ i = j) && lies q i && lies q j) k) + 0))), (0, .ref (b 0)), (1, .int (nI (i))), (2, .int (nI (j))), (4, .int (nI (k)))]) hx hb dX7_loadOf_70 rfl hl (by decide) rfl (fun ls hl => ?_)
            have e_g : (decide (¬ i = j) && lies k i && lies k j) = false := by rw [decide_eq_false (fun h => h c_43)]; rfl
            have e_k : nI ((cntB (fun q => decide (¬ i = j) && lies q i && lies q j) k) + 0) = nI (cntB (fun q => decide (¬ i = j) && lies q i && lies q j) (k + 1)) := congrArg nI (by show (cntB (fun q => decide (¬ i = j) && lies q i && lies q j) k) + 0 = cntB (fun q => decide (¬ i = j) && lies q i && lies q j) (k + 1); simp only [cntB, e_g, if_true, if_false, Bool.false_eq_true])
            have hl : lv_has ls 5 [(3, .int (nI (cntB (fun q => decide (¬ i = j) && lies q i && lies q j) (k + 1)))), (0, .ref (b 0)), (1, .int (nI (i))), (2, .int (nI (j))), (4, .int (nI (k)))] := by rw [← e_k]; exact hl
            refine lv_iinc (v := nI (k + 1)) (lv' := [(4, .int (nI (k + 1))), (3, .int (nI (cntB (fun q => decide (¬ i = j) && lies q i && lies q j) (k + 1)))), (0, .ref (b 0)), (1, .int (nI (i))), (2, .int (nI (j)))]) hx hb dX7_loadOf_71 hl (k := 4) rfl (show nI (k) + nI 1 = nI (k + 1) from nI_add _ _) (by decide) rfl (fun ls hl => ?_)
            refine lv_goto (tgt := 33) hx hb dX7_loadOf_74 (by decide) ?_
            exact ih_k (k + 1) (by omega) _ _ _ hw (lv_sub hl [2, 3, 4, 1, 0] rfl)
          · refine lv_iload hx hb dX7_loadOf_46 (lv_at hl 4 rfl) ?_
            refine lv_iload_n hx hb dX7_loadOf_48 rfl (lv_at hl 1 rfl) ?_
            refine q_cS (As := [.int (nI (k)), .int (nI (i))]) (rest := [.int (nI (cntB (fun q => decide (¬ i = j) && lies q i && lies q j) k))]) (w := []) ⟨hx, hb, hml, hown, hts⟩ (c_X7_lies D cy (k) (i) (by omega) (by omega)) (va_cwS 2 hts gX7_loadOf_X7_lies rfl rfl rfl hd_X7_lies ⟨Nat.le_of_ble_eq_true rfl, Nat.le_of_ble_eq_true rfl⟩) hK q_Pnil rfl hl.1 rfl (Nat.le_of_ble_eq_true rfl) ⟨Nat.zero_le _, Nat.zero_le _⟩ dX7_loadOf_49 ?_
            refine q_ifeqB (tgt := 68) hx hb dX7_loadOf_52 (by decide) (fun c_52 => ?_) (fun c_52 => ?_)
            · refine lv_iconst (v := nI 0) hx hb dX7_loadOf_68 rfl ?_
              refine q_addN hx hb dX7_loadOf_69 ?_
              refine lv_istore_n (lv' := [(3, .int (nI ((cntB (fun q => decide (¬ i = j) && lies q i && lies q j) k) + 0))), (0, .ref (b 0)), (1, .int (nI (i))), (2, .int (nI (j))), (4, .int (nI (k)))]) hx hb dX7_loadOf_70 rfl hl (by decide) rfl (fun ls hl => ?_)
              have e_g : (decide (¬ i = j) && lies k i && lies k j) = false := by rw [c_52, Bool.and_false, Bool.false_and]
              have e_k : nI ((cntB (fun q => decide (¬ i = j) && lies q i && lies q j) k) + 0) = nI (cntB (fun q => decide (¬ i = j) && lies q i && lies q j) (k + 1)) := congrArg nI (by show (cntB (fun q => decide (¬ i = j) && lies q i && lies q j) k) + 0 = cntB (fun q => decide (¬ i = j) && lies q i && lies q j) (k + 1); simp only [cntB, e_g, if_true, if_false, Bool.false_eq_true])
              have hl : lv_has ls 5 [(3, .int (nI (cntB (fun q => decide (¬ i = j) && lies q i && lies q j) (k + 1)))), (0, .ref (b 0)), (1, .int (nI (i))), (2, .int (nI (j))), (4, .int (nI (k)))] := by rw [← e_k]; exact hl
              refine lv_iinc (v := nI (k + 1)) (lv' := [(4, .int (nI (k + 1))), (3, .int (nI (cntB (fun q => decide (¬ i = j) && lies q i && lies q j) (k + 1)))), (0, .ref (b 0)), (1, .int (nI (i))), (2, .int (nI (j)))]) hx hb dX7_loadOf_71 hl (k := 4) rfl (show nI (k) + nI 1 = nI (k + 1) from nI_add _ _) (by decide) rfl (fun ls hl => ?_)
              refine lv_goto (tgt := 33) hx hb dX7_loadOf_74 (by decide) ?_
              exact ih_k (k + 1) (by omega) _ _ _ hw (lv_sub hl [2, 3, 4, 1, 0] rfl)
            · refine lv_iload hx hb dX7_loadOf_55 (lv_at hl 4 rfl) ?_
              refine lv_iload_n hx hb dX7_loadOf_57 rfl (lv_at hl 2 rfl) ?_
              refine q_cS (As := [.int (nI (k)), .int (nI (j))]) (rest := [.int (nI (cntB (fun q => decide (¬ i = j) && lies q i && lies q j) k))]) (w := []) ⟨hx, hb, hml, hown, hts⟩ (c_X7_lies D cy (k) (j) (by omega) (by omega)) (va_cwS 2 hts gX7_loadOf_X7_lies rfl rfl rfl hd_X7_lies ⟨Nat.le_of_ble_eq_true rfl, Nat.le_of_ble_eq_true rfl⟩) hK q_Pnil rfl hl.1 rfl (Nat.le_of_ble_eq_true rfl) ⟨Nat.zero_le _, Nat.zero_le _⟩ dX7_loadOf_58 ?_
              refine q_ifeqB (tgt := 68) hx hb dX7_loadOf_61 (by decide) (fun c_61 => ?_) (fun c_61 => ?_)
              · refine lv_iconst (v := nI 0) hx hb dX7_loadOf_68 rfl ?_
                refine q_addN hx hb dX7_loadOf_69 ?_
                refine lv_istore_n (lv' := [(3, .int (nI ((cntB (fun q => decide (¬ i = j) && lies q i && lies q j) k) + 0))), (0, .ref (b 0)), (1, .int (nI (i))), (2, .int (nI (j))), (4, .int (nI (k)))]) hx hb dX7_loadOf_70 rfl hl (by decide) rfl (fun ls hl => ?_)
                have e_g : (decide (¬ i = j) && lies k i && lies k j) = false := by rw [c_61, Bool.and_false]
                have e_k : nI ((cntB (fun q => decide (¬ i = j) && lies q i && lies q j) k) + 0) = nI (cntB (fun q => decide (¬ i = j) && lies q i && lies q j) (k + 1)) := congrArg nI (by show (cntB (fun q => decide (¬ i = j) && lies q i && lies q j) k) + 0 = cntB (fun q => decide (¬ i = j) && lies q i && lies q j) (k + 1); simp only [cntB, e_g, if_true, if_false, Bool.false_eq_true])
                have hl : lv_has ls 5 [(3, .int (nI (cntB (fun q => decide (¬ i = j) && lies q i && lies q j) (k + 1)))), (0, .ref (b 0)), (1, .int (nI (i))), (2, .int (nI (j))), (4, .int (nI (k)))] := by rw [← e_k]; exact hl
                refine lv_iinc (v := nI (k + 1)) (lv' := [(4, .int (nI (k + 1))), (3, .int (nI (cntB (fun q => decide (¬ i = j) && lies q i && lies q j) (k + 1)))), (0, .ref (b 0)), (1, .int (nI (i))), (2, .int (nI (j)))]) hx hb dX7_loadOf_71 hl (k := 4) rfl (show nI (k) + nI 1 = nI (k + 1) from nI_add _ _) (by decide) rfl (fun ls hl => ?_)
                refine lv_goto (tgt := 33) hx hb dX7_loadOf_74 (by decide) ?_
                exact ih_k (k + 1) (by omega) _ _ _ hw (lv_sub hl [2, 3, 4, 1, 0] rfl)
              · refine lv_iconst (v := nI 1) hx hb dX7_loadOf_64 rfl ?_
                refine lv_goto (tgt := 69) hx hb dX7_loadOf_65 (by decide) ?_
                refine q_addN hx hb dX7_loadOf_69 ?_
                refine lv_istore_n (lv' := [(3, .int (nI ((cntB (fun q => decide (¬ i = j) && lies q i && lies q j) k) + 1))), (0, .ref (b 0)), (1, .int (nI (i))), (2, .int (nI (j))), (4, .int (nI (k)))]) hx hb dX7_loadOf_70 rfl hl (by decide) rfl (fun ls hl => ?_)
                have e_g : (decide (¬ i = j) && lies k i && lies k j) = true := by rw [c_52, c_61, decide_eq_true c_43]; rfl
                have e_k : nI ((cntB (fun q => decide (¬ i = j) && lies q i && lies q j) k) + 1) = nI (cntB (fun q => decide (¬ i = j) && lies q i && lies q j) (k + 1)) := congrArg nI (by show (cntB (fun q => decide (¬ i = j) && lies q i && lies q j) k) + 1 = cntB (fun q => decide (¬ i = j) && lies q i && lies q j) (k + 1); simp only [cntB, e_g, if_true, if_false, Bool.false_eq_true])
                have hl : lv_has ls 5 [(3, .int (nI (cntB (fun q => decide (¬ i = j) && lies q i && lies q j) (k + 1)))), (0, .ref (b 0)), (1, .int (nI (i))), (2, .int (nI (j))), (4, .int (nI (k)))] := by rw [← e_k]; exact hl
                refine lv_iinc (v := nI (k + 1)) (lv' := [(4, .int (nI (k + 1))), (3, .int (nI (cntB (fun q => decide (¬ i = j) && lies q i && lies q j) (k + 1)))), (0, .ref (b 0)), (1, .int (nI (i))), (2, .int (nI (j)))]) hx hb dX7_loadOf_71 hl (k := 4) rfl (show nI (k) + nI 1 = nI (k + 1) from nI_add _ _) (by decide) rfl (fun ls hl => ?_)
                refine lv_goto (tgt := 33) hx hb dX7_loadOf_74 (by decide) ?_
                exact ih_k (k + 1) (by omega) _ _ _ hw (lv_sub hl [2, 3, 4, 1, 0] rfl)
      exact lp33 (21 - 0) 0 (by omega) _ _ _ hw (lv_sub hl [2, 3, 4, 1, 0] rfl)
set_option maxHeartbeats 1000000 in
set_option maxRecDepth 100000 in
theorem c_X7_worstDisc {l : Launch} (D : va_G) (cy : ClassId) (A : Nat → Prop) (b : Nat → Nat) (σ saved : Nat → Int32) (many : Nat) (bef T : Nat → Int32) (len thr at_ : Nat) (le f1 f2 : Int32) (dn : Nat) (hs : Int64) (Z : va_W) (h_0 : Val σ) : Met l yX7_worstDisc wsX7_worstDisc (k2_rm 9 200) (gP D cy [.ref (b 0)] A (wM cy b (mS σ) saved many bef T len thr at_ le f1 f2 dn hs ++ Z)) (gE D A (fun v9 w9 => v9 = some (.int (wst σ 7).1) ∧ ∃ bf9 : Nat → Int32, w9 = (wM cy b (mS σ) saved many bf9 T len thr at_ le f1 f2 dn hs ++ Z))) 0 0 A := by
  refine q_imp (cc := cX7_worstDisc) (maxL := 3) (ret := (some .int)) pl_X7 rfl (Nat.le_of_ble_eq_true rfl) ?_
  intro p e s m below meth c ls hx hb hr hml hts hown hlocks hw hK hA hl
  have hP := hw.1
  have hl : lv_has ls 3 [(0, .ref (b 0))] := hl
  refine lv_iconst (v := -1) hx hb dX7_worstDisc_0 rfl ?_
  refine lv_istore_n (lv' := [(1, .int (-1)), (0, .ref (b 0))]) hx hb dX7_worstDisc_1 rfl hl (by decide) rfl (fun ls hl => ?_)
  refine lv_iconst (v := nI 0) hx hb dX7_worstDisc_2 rfl ?_
  refine lv_istore_n (lv' := [(2, .int (nI (0))), (1, .int (-1)), (0, .ref (b 0))]) hx hb dX7_worstDisc_3 rfl hl (by decide) rfl (fun ls hl => ?_)
  have lp4 : ∀ (j_ k : Nat), k + j_ = 7 → ∀ (bf : Nat → Int32), 0 ≤ k → ∀ (H : Heap) (locs : List Loc) (ls : Array Slot), wS D A (wM cy b (mS σ) saved many bf T len thr at_ le f1 f2 dn hs ++ Z) s H locs → lv_has ls 3 [(0, .ref (b 0)), (1, .int ((wst σ k).1)), (2, .int (nI (k)))] → W p l e (k2_rm 9 200) s m ([.ref (b 0)] : List Value).toArray below meth c H locs 0 0 (MQ below (gE D A (fun v9 w9 => v9 = some (.int (wst σ 7).1) ∧ ∃ bf9 : Nat → Int32, w9 = (wM cy b (mS σ) saved many bf9 T len thr at_ le f1 f2 dn hs ++ Z))) ([.ref (b 0)] : List Value).toArray s 0 0 A) (F0 m 4 ls []) := by
    intro j_
    induction j_ with
    | zero =>
      intro k hn_k bf hy0 H locs ls hw hl
      have hP := hw.1
      refine lv_iload_n hx hb dX7_worstDisc_4 rfl (lv_at hl 2 rfl) ?_
      refine lv_bipush (v := nI 7) hx hb dX7_worstDisc_5 rfl ?_
      refine q_geN (tgt := 53) hx hb dX7_worstDisc_7 (by decide) (by omega) (by omega) (fun c_7 => ?_) (fun c_7 => absurd c_7 (by omega))
      refine lv_iload_n hx hb dX7_worstDisc_53 rfl (lv_at hl 1 rfl) ?_
      exact q_iretE hx hb hr hlocks hw dX7_worstDisc_54 (⟨by rw [show k = 7 by omega], bf, rfl⟩)
    | succ j_ ih_k =>
      intro k hn_k bf hy0 H locs ls hw hl
      have hP := hw.1
      refine lv_iload_n hx hb dX7_worstDisc_4 rfl (lv_at hl 2 rfl) ?_
      refine lv_bipush (v := nI 7) hx hb dX7_worstDisc_5 rfl ?_
      refine q_geN (tgt := 53) hx hb dX7_worstDisc_7 (by decide) (by omega) (by omega) (fun c_7 => absurd c_7 (by omega)) (fun c_7 => ?_)
      refine lv_aload_n hx hb dX7_worstDisc_10 rfl (lv_at hl 0 rfl) ?_
      refine va_get (D := D) (ci := 7) (v := .ref (b 1)) (C := RX7) (T := TX7) (N := 13) hx hb hts (fun _ h => List.mem_cons_of_mem _ (List.mem_append_right _ h)) hown hK hP 0 rfl rfl 0 (by decide) (hts (.fieldLink RX7 7 "SpreadParityModel" "s" "[I") (List.mem_of_getElem? (i := 1) rfl)) (fun _ h9 => h9) rfl dX7_worstDisc_11 ?_
      refine lv_iconst (v := nI 0) hx hb dX7_worstDisc_14 rfl ?_
      refine lv_iload_n hx hb dX7_worstDisc_15 rfl (lv_at hl 2 rfl) ?_
      refine q_addN hx hb dX7_worstDisc_16 ?_
      refine q_iald hx hb hK hP 1 rfl (by omega) (by omega) dX7_worstDisc_17 ?_
      refine q_top (show ((mS σ) (0 + k)) = σ (63 + k) from mS_p _ (by omega)) ?_
      refine lv_bipush (v := nI 9) hx hb dX7_worstDisc_18 rfl ?_
      refine lv_icmp_ne (tgt := 45) hx hb dX7_worstDisc_20 (by decide) (fun (c_20 : ¬ (σ (63 + k)) = (9)) => ?_) (fun (c_20 : (σ (63 + k)) = (9)) => ?_)
      · refine lv_iload_n hx hb dX7_worstDisc_45 rfl (lv_at hl 1 rfl) ?_
        refine q_top (show (wst σ k).1 = (wst σ (k + 1)).1 from by rw [wst_n c_20]) ?_
        refine lv_istore_n (lv' := [(1, .int ((wst σ (k + 1)).1)), (0, .ref (b 0)), (2, .int (nI (k)))]) hx hb dX7_worstDisc_46 rfl hl (by decide) rfl (fun ls hl => ?_)
        refine lv_iinc (v := nI (k + 1)) (lv' := [(2, .int (nI (k + 1))), (1, .int ((wst σ (k + 1)).1)), (0, .ref (b 0))]) hx hb dX7_worstDisc_47 hl (k := 2) rfl (show nI (k) + nI 1 = nI (k + 1) from nI_add _ _) (by decide) rfl (fun ls hl => ?_)
        refine lv_goto (tgt := 4) hx hb dX7_worstDisc_50 (by decide) ?_
        exact ih_k (k + 1) (by omega) (bf) (Nat.zero_le _) _ _ _ hw (lv_sub hl [2, 1, 0] rfl)
      · refine lv_iload_n hx hb dX7_worstDisc_23 rfl (lv_at hl 1 rfl) ?_
        refine lv_iconst (v := -1) hx hb dX7_worstDisc_24 rfl ?_
        refine lv_icmp_eq (tgt := 41) hx hb dX7_worstDisc_25 (by decide) (fun (c_25 : ((wst σ k).1) = (-1)) => ?_) (fun (c_25 : ¬ ((wst σ k).1) = (-1)) => ?_)
        · refine lv_iload_n hx hb dX7_worstDisc_41 rfl (lv_at hl 2 rfl) ?_
          refine lv_goto (tgt := 46) hx hb dX7_worstDisc_42 (by decide) ?_
          refine q_top (show nI (k) = (wst σ (k + 1)).1 from by rw [wst_y c_20 (wst_m1 c_25)]) ?_
          refine lv_istore_n (lv' := [(1, .int ((wst σ (k + 1)).1)), (0, .ref (b 0)), (2, .int (nI (k)))]) hx hb dX7_worstDisc_46 rfl hl (by decide) rfl (fun ls hl => ?_)
          refine lv_iinc (v := nI (k + 1)) (lv' := [(2, .int (nI (k + 1))), (1, .int ((wst σ (k + 1)).1)), (0, .ref (b 0))]) hx hb dX7_worstDisc_47 hl (k := 2) rfl (show nI (k) + nI 1 = nI (k + 1) from nI_add _ _) (by decide) rfl (fun ls hl => ?_)
          refine lv_goto (tgt := 4) hx hb dX7_worstDisc_50 (by decide) ?_
          exact ih_k (k + 1) (by omega) (bf) (Nat.zero_le _) _ _ _ hw (lv_sub hl [2, 1, 0] rfl)
        · obtain ⟨f, h_f, e_f, e_g⟩ := wst_N σ (by omega) c_25
          have hl : lv_has ls 3 [(0, .ref (b 0)), (1, .int (nI (f))), (2, .int (nI (k)))] := by rw [← e_f]; exact hl
          refine lv_aload_n hx hb dX7_worstDisc_28 rfl (lv_at hl 0 rfl) ?_
          refine lv_iload_n hx hb dX7_worstDisc_29 rfl (lv_at hl 2 rfl) ?_
          refine q_wV0 (As := [.int (nI (k))]) (rest := []) (st1 := [.int (nI (cl (failS σ k)))]) ⟨hx, hb, hml, hown, hts⟩ (c_X7_lostBy D cy A b σ saved many bf T len thr at_ le f1 f2 dn hs Z (k) (by omega) h_0) (cwV 1 hts gX7_worstDisc_X7_lostBy rfl rfl rfl hd_X7_lostBy ⟨Nat.le_of_ble_eq_true rfl, Nat.le_of_ble_eq_true rfl⟩) hK hA hw 0 rfl rfl rfl hl.1 rfl rfl (Nat.le_of_ble_eq_true rfl) ⟨Nat.zero_le _, Nat.zero_le _⟩ dX7_worstDisc_30 (fun H locs hw => ?_)
          have hw : wS D A (wM cy b (mS σ) saved many (cpG bf (mS σ) 0 0 86) T len thr at_ le f1 f2 dn hs ++ Z) s H locs := hw
          have hP := hw.1
          refine lv_aload_n hx hb dX7_worstDisc_33 rfl (lv_at hl 0 rfl) ?_
          refine lv_iload_n hx hb dX7_worstDisc_34 rfl (lv_at hl 1 rfl) ?_
          refine q_wV0 (As := [.int (nI (f))]) (rest := [.int (nI (cl (failS σ k)))]) (st1 := [.int (nI (cl (failS σ f))), .int (nI (cl (failS σ k)))]) ⟨hx, hb, hml, hown, hts⟩ (c_X7_lostBy D cy A b σ saved many (cpG bf (mS σ) 0 0 86) T len thr at_ le f1 f2 dn hs Z (f) h_f h_0) (cwV 1 hts gX7_worstDisc_X7_lostBy rfl rfl rfl hd_X7_lostBy ⟨Nat.le_of_ble_eq_true rfl, Nat.le_of_ble_eq_true rfl⟩) hK hA hw 0 rfl rfl rfl hl.1 rfl rfl (Nat.le_of_ble_eq_true rfl) ⟨Nat.zero_le _, Nat.zero_le _⟩ dX7_worstDisc_35 (fun H locs hw => ?_)
          have hw : wS D A (wM cy b (mS σ) saved many (cpG (cpG bf (mS σ) 0 0 86) (mS σ) 0 0 86) T len thr at_ le f1 f2 dn hs ++ Z) s H locs := hw
          have hP := hw.1
          refine q_leN (tgt := 45) hx hb dX7_worstDisc_38 (by decide) (by have h9 := cntB_le (fun q => lo (failS σ k) (ad q)) 42; have h8 := cntB_le (fun q => lo (failS σ f) (ad q)) 42; unfold cl; omega) (by have h9 := cntB_le (fun q => lo (failS σ k) (ad q)) 42; have h8 := cntB_le (fun q => lo (failS σ f) (ad q)) 42; unfold cl; omega) (fun c_38 => ?_) (fun c_38 => ?_)
          · refine lv_iload_n hx hb dX7_worstDisc_45 rfl (lv_at hl 1 rfl) ?_
            refine q_top (show nI (f) = (wst σ (k + 1)).1 from by rw [wst_l (e_g ▸ fun h => absurd h (by rw [nI_ltI (by have h9 := cntB_le (fun q => lo (failS σ f) (ad q)) 42; unfold cl; omega) (by have h9 := cntB_le (fun q => lo (failS σ k) (ad q)) 42; unfold cl; omega)]; omega)), e_f]) ?_
            refine lv_istore_n (lv' := [(1, .int ((wst σ (k + 1)).1)), (0, .ref (b 0)), (2, .int (nI (k)))]) hx hb dX7_worstDisc_46 rfl hl (by decide) rfl (fun ls hl => ?_)
            refine lv_iinc (v := nI (k + 1)) (lv' := [(2, .int (nI (k + 1))), (1, .int ((wst σ (k + 1)).1)), (0, .ref (b 0))]) hx hb dX7_worstDisc_47 hl (k := 2) rfl (show nI (k) + nI 1 = nI (k + 1) from nI_add _ _) (by decide) rfl (fun ls hl => ?_)
            refine lv_goto (tgt := 4) hx hb dX7_worstDisc_50 (by decide) ?_
            exact ih_k (k + 1) (by omega) (cpG (cpG bf (mS σ) 0 0 86) (mS σ) 0 0 86) (Nat.zero_le _) _ _ _ hw (lv_sub hl [2, 1, 0] rfl)
          · refine lv_iload_n hx hb dX7_worstDisc_41 rfl (lv_at hl 2 rfl) ?_
            refine lv_goto (tgt := 46) hx hb dX7_worstDisc_42 (by decide) ?_
            refine q_top (show nI (k) = (wst σ (k + 1)).1 from by rw [wst_y c_20 (e_g ▸ (nI_ltI (by have h9 := cntB_le (fun q => lo (failS σ f) (ad q)) 42; unfold cl; omega) (by have h9 := cntB_le (fun q => lo (failS σ k) (ad q)) 42; unfold cl; omega)).mpr c_38)]) ?_
            refine lv_istore_n (lv' := [(1, .int ((wst σ (k + 1)).1)), (0, .ref (b 0)), (2, .int (nI (k)))]) hx hb dX7_worstDisc_46 rfl hl (by decide) rfl (fun ls hl => ?_)
            refine lv_iinc (v := nI (k + 1)) (lv' := [(2, .int (nI (k + 1))), (1, .int ((wst σ (k + 1)).1)), (0, .ref (b 0))]) hx hb dX7_worstDisc_47 hl (k := 2) rfl (show nI (k) + nI 1 = nI (k + 1) from nI_add _ _) (by decide) rfl (fun ls hl => ?_)
            refine lv_goto (tgt := 4) hx hb dX7_worstDisc_50 (by decide) ?_
            exact ih_k (k + 1) (by omega) (cpG (cpG bf (mS σ) 0 0 86) (mS σ) 0 0 86) (Nat.zero_le _) _ _ _ hw (lv_sub hl [2, 1, 0] rfl)
  exact lp4 (7 - 0) 0 (by omega) (bef) (Nat.zero_le _) _ _ _ hw (lv_sub hl [2, 1, 0] rfl)
set_option maxHeartbeats 1000000 in
set_option maxRecDepth 100000 in
theorem c_X7_worst {l : Launch} (D : va_G) (cy : ClassId) (A : Nat → Prop) (b : Nat → Nat) (σ saved : Nat → Int32) (many : Nat) (bef T : Nat → Int32) (len thr at_ : Nat) (le f1 f2 : Int32) (dn : Nat) (hs : Int64) (Z : va_W) (h_0 : Val σ) : Met l yX7_worst wsX7_worst (k2_rm 10 222) (gP D cy [.ref (b 0)] A (wM cy b (mS σ) saved many bef T len thr at_ le f1 f2 dn hs ++ Z)) (gE D A (fun v9 w9 => v9 = some (.int (wst σ 7).1) ∧ ∃ bf9 : Nat → Int32, w9 = (wM cy b (mS σ) saved many bf9 T len 0 at_ le f1 f2 dn hs ++ Z))) 0 0 A := by
  refine q_imp (cc := cX7_worst) (maxL := 1) (ret := (some .int)) pl_X7 rfl (Nat.le_of_ble_eq_true rfl) ?_
  intro p e s m below meth c ls hx hb hr hml hts hown hlocks hw hK hA hl
  have hP := hw.1
  have hl : lv_has ls 1 [(0, .ref (b 0))] := hl
  refine lv_aload_n hx hb dX7_worst_0 rfl (lv_at hl 0 rfl) ?_
  refine lv_aload_n hx hb dX7_worst_1 rfl (lv_at hl 0 rfl) ?_
  refine q_wVE0 (As := []) (rest := [.ref (b 0)]) ⟨hx, hb, hml, hown, hts⟩ (c_X7_worstDisc D cy A b σ saved many bef T len thr at_ le f1 f2 dn hs Z h_0) (cwV 0 hts gX7_worst_X7_worstDisc rfl rfl rfl hd_X7_worstDisc ⟨Nat.le_of_ble_eq_true rfl, Nat.le_of_ble_eq_true rfl⟩) hK hA hw 0 rfl rfl rfl hl.1 rfl (Nat.le_of_ble_eq_true rfl) ⟨Nat.zero_le _, Nat.zero_le _⟩ dX7_worst_2 (fun H locs v9 w9 hp9 hw => ?_)
  obtain ⟨rfl, bf9_2, rfl⟩ := hp9
  refine q_stk (show _ = ([.int ((wst σ 7).1), .ref (b 0)] : List Value) from rfl) ?_
  have hw : wS D A (wM cy b (mS σ) saved many bf9_2 T len thr at_ le f1 f2 dn hs ++ Z) s H locs := hw
  have hP := hw.1
  refine q_wV0 (As := [.int ((wst σ 7).1)]) (rest := []) (st1 := [.int ((wst σ 7).1)]) ⟨hx, hb, hml, hown, hts⟩ (c_X7_told D cy A b σ saved many bf9_2 T len thr at_ le f1 f2 dn hs Z ((wst σ 7).1)) (cwV 1 hts gX7_worst_X7_told rfl rfl rfl hd_X7_told ⟨Nat.le_of_ble_eq_true rfl, Nat.le_of_ble_eq_true rfl⟩) hK hA hw 0 rfl rfl rfl hl.1 rfl rfl (Nat.le_of_ble_eq_true rfl) ⟨Nat.zero_le _, Nat.zero_le _⟩ dX7_worst_5 (fun H locs hw => ?_)
  have hw : wS D A (wM cy b (mS σ) saved many bf9_2 T len 0 at_ le f1 f2 dn hs ++ Z) s H locs := hw
  have hP := hw.1
  exact q_iretE hx hb hr hlocks hw dX7_worst_8 (⟨rfl, bf9_2, rfl⟩)
set_option maxHeartbeats 1000000 in
set_option maxRecDepth 100000 in
theorem c_X7_append {l : Launch} (D : va_G) (cy : ClassId) (A : Nat → Prop) (b : Nat → Nat) (σ saved : Nat → Int32) (many : Nat) (bef T : Nat → Int32) (len thr at_ : Nat) (le f1 f2 : Int32) (dn : Nat) (hs : Int64) (Z : va_W) (x : Int32) (h_0 : len ≤ 60) : Met l yX7_append wsX7_append (k2_rm 1 22) (gP D cy [.ref (b 0), .int (x)] A (wM cy b (mS σ) saved many bef T len thr at_ le f1 f2 dn hs ++ Z)) (gQ D A (some (.int (nI (if cAp len x = 0 then len + 1 else 0)))) (wM cy b (mS σ) saved many bef (if cAp len x = 0 then upd T len x else T) (if cAp len x = 0 then len + 1 else len) (cAp len x) at_ le f1 f2 dn hs ++ Z)) 0 0 A := by
  refine q_imp (cc := cX7_append) (maxL := 2) (ret := (some .int)) pl_X7 rfl (Nat.le_of_ble_eq_true rfl) ?_
  intro p e s m below meth c ls hx hb hr hml hts hown hlocks hw hK hA hl
  have hP := hw.1
  have hl : lv_has ls 2 [(0, .ref (b 0)), (1, .int (x))] := hl
  refine lv_aload_n hx hb dX7_append_0 rfl (lv_at hl 0 rfl) ?_
  refine lv_iload_n hx hb dX7_append_1 rfl (lv_at hl 1 rfl) ?_
  refine lv_bipush (v := nI 33) hx hb dX7_append_2 rfl ?_
  refine lv_bipush (v := nI 126) hx hb dX7_append_4 rfl ?_
  refine q_cS (As := [.int (x), .int (nI (33)), .int (nI (126))]) (rest := [.ref (b 0)]) (w := []) ⟨hx, hb, hml, hown, hts⟩ (c_X7_in D cy (x) (33) (126)) (va_cwS 3 hts gX7_append_X7_in rfl rfl rfl hd_X7_in ⟨Nat.le_of_ble_eq_true rfl, Nat.le_of_ble_eq_true rfl⟩) hK q_Pnil rfl hl.1 rfl (Nat.le_of_ble_eq_true rfl) ⟨Nat.zero_le _, Nat.zero_le _⟩ dX7_append_6 ?_
  refine q_ifneB (tgt := 16) hx hb dX7_append_9 (by decide) (fun c_9 => ?_) (fun c_9 => ?_)
  · refine lv_aload_n hx hb dX7_append_16 rfl (lv_at hl 0 rfl) ?_
    refine va_get (D := D) (ci := 7) (v := .int (nI (len))) (C := RX7) (T := TX7) (N := 13) hx hb hts (fun _ h => List.mem_cons_of_mem _ (List.mem_append_right _ h)) hown hK hP 0 rfl rfl 5 (by decide) (hts (.fieldLink RX7 163 "SpreadParityModel" "length" "I") (List.mem_of_getElem? (i := 1) rfl)) (fun _ h9 => h9) rfl dX7_append_17 ?_
    refine lv_bipush (v := nI 60) hx hb dX7_append_20 rfl ?_
    refine q_neN (tgt := 29) hx hb dX7_append_22 (by decide) (by omega) (by omega) (fun c_22 => ?_) (fun c_22 => ?_)
    · refine lv_iconst (v := nI 0) hx hb dX7_append_29 rfl ?_
      refine q_wV0 (As := [.int (nI (0))]) (rest := []) (st1 := [.int (bI (decide (0 = 0)))]) ⟨hx, hb, hml, hown, hts⟩ (c_X7_holds D cy A b σ saved many bef T len thr at_ le f1 f2 dn hs Z (0) (by omega)) (cwV 1 hts gX7_append_X7_holds rfl rfl rfl hd_X7_holds ⟨Nat.le_of_ble_eq_true rfl, Nat.le_of_ble_eq_true rfl⟩) hK hA hw 0 rfl rfl rfl hl.1 rfl rfl (Nat.le_of_ble_eq_true rfl) ⟨Nat.zero_le _, Nat.zero_le _⟩ dX7_append_30 (fun H locs hw => ?_)
      have hw : wS D A (wM cy b (mS σ) saved many bef T len 0 at_ le f1 f2 dn hs ++ Z) s H locs := hw
      have hP := hw.1
      refine q_ifneB (tgt := 38) hx hb dX7_append_33 (by decide) (fun c_33 => ?_) (fun c_33 => absurd c_33 (by decide))
      refine lv_aload_n hx hb dX7_append_38 rfl (lv_at hl 0 rfl) ?_
      refine va_get (D := D) (ci := 7) (v := .ref (b 4)) (C := RX7) (T := TX7) (N := 13) hx hb hts (fun _ h => List.mem_cons_of_mem _ (List.mem_append_right _ h)) hown hK hP 0 rfl rfl 4 (by decide) (hts (.fieldLink RX7 19 "SpreadParityModel" "text" "[I") (List.mem_of_getElem? (i := 2) rfl)) (fun _ h9 => h9) rfl dX7_append_39 ?_
      refine lv_aload_n hx hb dX7_append_42 rfl (lv_at hl 0 rfl) ?_
      refine va_get (D := D) (ci := 7) (v := .int (nI (len))) (C := RX7) (T := TX7) (N := 13) hx hb hts (fun _ h => List.mem_cons_of_mem _ (List.mem_append_right _ h)) hown hK hP 0 rfl rfl 5 (by decide) (hts (.fieldLink RX7 163 "SpreadParityModel" "length" "I") (List.mem_of_getElem? (i := 1) rfl)) (fun _ h9 => h9) rfl dX7_append_43 ?_
      refine lv_iload_n hx hb dX7_append_46 rfl (lv_at hl 1 rfl) ?_
      refine q_iast hx hb hK hw 4 rfl (by omega) (by omega) dX7_append_47 (fun H locs hw => ?_)
      have hw : wS D A (wM cy b (mS σ) saved many bef (upd T (len) (x)) len 0 at_ le f1 f2 dn hs ++ Z) s H locs := hw
      have hP := hw.1
      refine lv_aload_n hx hb dX7_append_48 rfl (lv_at hl 0 rfl) ?_
      refine lv_dup hx hb dX7_append_49 rfl ?_
      refine va_get (D := D) (ci := 7) (v := .int (nI (len))) (C := RX7) (T := TX7) (N := 13) hx hb hts (fun _ h => List.mem_cons_of_mem _ (List.mem_append_right _ h)) hown hK hP 0 rfl rfl 5 (by decide) (hts (.fieldLink RX7 163 "SpreadParityModel" "length" "I") (List.mem_of_getElem? (i := 1) rfl)) (fun _ h9 => h9) rfl dX7_append_50 ?_
      refine lv_iconst (v := nI 1) hx hb dX7_append_53 rfl ?_
      refine q_addN hx hb dX7_append_54 ?_
      refine va_put (D := D) (ci := 7) (v := .int (nI (len + 1))) (ty := .int) (C := RX7) (T := TX7) (N := 13) hx hb hts (fun _ h => List.mem_cons_of_mem _ (List.mem_append_right _ h)) tyX7 tyX7_ok nmX7 hown hK hw.1 hw.2.1 hw.2.2 0 rfl rfl 5 (by decide) (hts (.fieldLink RX7 163 "SpreadParityModel" "length" "I") (List.mem_of_getElem? (i := 1) rfl)) (fun _ h9 => h9) rfl (tyX7_ok 5 (by decide)) rfl rfl (Nat.le_of_ble_eq_true rfl) dX7_append_55 (fun H locs hP hD hS => ?_)
      have hw : wS D A (wM cy b (mS σ) saved many bef (upd T (len) (x)) (len + 1) 0 at_ le f1 f2 dn hs ++ Z) s H locs := ⟨hP, hD, hS⟩
      refine lv_aload_n hx hb dX7_append_58 rfl (lv_at hl 0 rfl) ?_
      refine va_get (D := D) (ci := 7) (v := .int (nI (len + 1))) (C := RX7) (T := TX7) (N := 13) hx hb hts (fun _ h => List.mem_cons_of_mem _ (List.mem_append_right _ h)) hown hK hP 0 rfl rfl 5 (by decide) (hts (.fieldLink RX7 163 "SpreadParityModel" "length" "I") (List.mem_of_getElem? (i := 1) rfl)) (fun _ h9 => h9) rfl dX7_append_59 ?_
      have e_c : cAp len x = 0 := by rw [cAp, if_pos c_9, if_neg c_22]
      have hw : wS D A (wM cy b (mS σ) saved many bef (if cAp len x = 0 then upd T len x else T) (if cAp len x = 0 then len + 1 else len) (cAp len x) at_ le f1 f2 dn hs ++ Z) s H locs := by rw [e_c]; exact hw
      exact q_iretW hx hb hr hlocks hw dX7_append_62 (by rw [e_c]; rfl)
    · refine lv_iconst (v := nI 2) hx hb dX7_append_25 rfl ?_
      refine lv_goto (tgt := 30) hx hb dX7_append_26 (by decide) ?_
      refine q_wV0 (As := [.int (nI (2))]) (rest := []) (st1 := [.int (bI (decide (2 = 0)))]) ⟨hx, hb, hml, hown, hts⟩ (c_X7_holds D cy A b σ saved many bef T len thr at_ le f1 f2 dn hs Z (2) (by omega)) (cwV 1 hts gX7_append_X7_holds rfl rfl rfl hd_X7_holds ⟨Nat.le_of_ble_eq_true rfl, Nat.le_of_ble_eq_true rfl⟩) hK hA hw 0 rfl rfl rfl hl.1 rfl rfl (Nat.le_of_ble_eq_true rfl) ⟨Nat.zero_le _, Nat.zero_le _⟩ dX7_append_30 (fun H locs hw => ?_)
      have hw : wS D A (wM cy b (mS σ) saved many bef T len 2 at_ le f1 f2 dn hs ++ Z) s H locs := hw
      have hP := hw.1
      refine q_ifneB (tgt := 38) hx hb dX7_append_33 (by decide) (fun c_33 => absurd c_33 (by decide)) (fun c_33 => ?_)
      refine lv_iconst (v := nI 0) hx hb dX7_append_36 rfl ?_
      have e_c : cAp len x = 2 := by rw [cAp, if_pos c_9, if_pos c_22]
      have hw : wS D A (wM cy b (mS σ) saved many bef (if cAp len x = 0 then upd T len x else T) (if cAp len x = 0 then len + 1 else len) (cAp len x) at_ le f1 f2 dn hs ++ Z) s H locs := by rw [e_c]; exact hw
      exact q_iretW hx hb hr hlocks hw dX7_append_37 (by rw [e_c]; rfl)
  · refine lv_iconst (v := nI 1) hx hb dX7_append_12 rfl ?_
    refine lv_goto (tgt := 30) hx hb dX7_append_13 (by decide) ?_
    refine q_wV0 (As := [.int (nI (1))]) (rest := []) (st1 := [.int (bI (decide (1 = 0)))]) ⟨hx, hb, hml, hown, hts⟩ (c_X7_holds D cy A b σ saved many bef T len thr at_ le f1 f2 dn hs Z (1) (by omega)) (cwV 1 hts gX7_append_X7_holds rfl rfl rfl hd_X7_holds ⟨Nat.le_of_ble_eq_true rfl, Nat.le_of_ble_eq_true rfl⟩) hK hA hw 0 rfl rfl rfl hl.1 rfl rfl (Nat.le_of_ble_eq_true rfl) ⟨Nat.zero_le _, Nat.zero_le _⟩ dX7_append_30 (fun H locs hw => ?_)
    have hw : wS D A (wM cy b (mS σ) saved many bef T len 1 at_ le f1 f2 dn hs ++ Z) s H locs := hw
    have hP := hw.1
    refine q_ifneB (tgt := 38) hx hb dX7_append_33 (by decide) (fun c_33 => absurd c_33 (by decide)) (fun c_33 => ?_)
    refine lv_iconst (v := nI 0) hx hb dX7_append_36 rfl ?_
    have e_c : cAp len x = 1 := by rw [cAp, if_neg (by rw [c_9]; decide)]
    have hw : wS D A (wM cy b (mS σ) saved many bef (if cAp len x = 0 then upd T len x else T) (if cAp len x = 0 then len + 1 else len) (cAp len x) at_ le f1 f2 dn hs ++ Z) s H locs := by rw [e_c]; exact hw
    exact q_iretW hx hb hr hlocks hw dX7_append_37 (by rw [e_c]; rfl)
set_option maxHeartbeats 1000000 in
set_option maxRecDepth 100000 in
theorem c_X7_clearText {l : Launch} (D : va_G) (cy : ClassId) (A : Nat → Prop) (b : Nat → Nat) (σ saved : Nat → Int32) (many : Nat) (bef T : Nat → Int32) (len thr at_ : Nat) (le f1 f2 : Int32) (dn : Nat) (hs : Int64) (Z : va_W) : Met l yX7_clearText wsX7_clearText (k2_rm 1 21) (gP D cy [.ref (b 0)] A (wM cy b (mS σ) saved many bef T len thr at_ le f1 f2 dn hs ++ Z)) (gQ D A (some (.int (nI len))) (wM cy b (mS σ) saved many bef T 0 0 at_ le f1 f2 dn hs ++ Z)) 0 0 A := by
  refine q_imp (cc := cX7_clearText) (maxL := 2) (ret := (some .int)) pl_X7 rfl (Nat.le_of_ble_eq_true rfl) ?_
  intro p e s m below meth c ls hx hb hr hml hts hown hlocks hw hK hA hl
  have hP := hw.1
  have hl : lv_has ls 2 [(0, .ref (b 0))] := hl
  refine lv_aload_n hx hb dX7_clearText_0 rfl (lv_at hl 0 rfl) ?_
  refine va_get (D := D) (ci := 7) (v := .int (nI (len))) (C := RX7) (T := TX7) (N := 13) hx hb hts (fun _ h => List.mem_cons_of_mem _ (List.mem_append_right _ h)) hown hK hP 0 rfl rfl 5 (by decide) (hts (.fieldLink RX7 163 "SpreadParityModel" "length" "I") (List.mem_of_getElem? (i := 1) rfl)) (fun _ h9 => h9) rfl dX7_clearText_1 ?_
  refine lv_istore_n (lv' := [(1, .int (nI (len))), (0, .ref (b 0))]) hx hb dX7_clearText_4 rfl hl (by decide) rfl (fun ls hl => ?_)
  refine lv_aload_n hx hb dX7_clearText_5 rfl (lv_at hl 1 rfl) ?_
  refine lv_iconst (v := nI 0) hx hb dX7_clearText_6 rfl ?_
  refine va_put (D := D) (ci := 7) (v := .int (nI (0))) (ty := .int) (C := RX7) (T := TX7) (N := 13) hx hb hts (fun _ h => List.mem_cons_of_mem _ (List.mem_append_right _ h)) tyX7 tyX7_ok nmX7 hown hK hw.1 hw.2.1 hw.2.2 0 rfl rfl 5 (by decide) (hts (.fieldLink RX7 163 "SpreadParityModel" "length" "I") (List.mem_of_getElem? (i := 1) rfl)) (fun _ h9 => h9) rfl (tyX7_ok 5 (by decide)) rfl rfl (Nat.le_of_ble_eq_true rfl) dX7_clearText_7 (fun H locs hP hD hS => ?_)
  have hw : wS D A (wM cy b (mS σ) saved many bef T 0 thr at_ le f1 f2 dn hs ++ Z) s H locs := ⟨hP, hD, hS⟩
  refine lv_aload_n hx hb dX7_clearText_10 rfl (lv_at hl 1 rfl) ?_
  refine lv_iload_n hx hb dX7_clearText_11 rfl (lv_at hl 0 rfl) ?_
  refine q_wV0 (As := [.int (nI (len))]) (rest := []) (st1 := [.int (nI (len))]) ⟨hx, hb, hml, hown, hts⟩ (c_X7_told D cy A b σ saved many bef T 0 thr at_ le f1 f2 dn hs Z (nI (len))) (cwV 1 hts gX7_clearText_X7_told rfl rfl rfl hd_X7_told ⟨Nat.le_of_ble_eq_true rfl, Nat.le_of_ble_eq_true rfl⟩) hK hA hw 0 rfl rfl rfl hl.1 rfl rfl (Nat.le_of_ble_eq_true rfl) ⟨Nat.zero_le _, Nat.zero_le _⟩ dX7_clearText_12 (fun H locs hw => ?_)
  have hw : wS D A (wM cy b (mS σ) saved many bef T 0 0 at_ le f1 f2 dn hs ++ Z) s H locs := hw
  have hP := hw.1
  exact q_iretW hx hb hr hlocks hw dX7_clearText_15 (rfl)
set_option maxHeartbeats 1000000 in
set_option maxRecDepth 100000 in
theorem c_X7_firstError {l : Launch} (D : va_G) (cy : ClassId) (A : Nat → Prop) (b : Nat → Nat) (σ saved : Nat → Int32) (many : Nat) (bef T : Nat → Int32) (len thr at_ : Nat) (le f1 f2 : Int32) (dn : Nat) (hs : Int64) (Z : va_W) (tx : Nat → Nat) (lc : Nat) (o1 o2 : Option Nat) (h_0 : ∀ i, tx i ≤ 126) (h_1 : len ≤ 60) : Met l yX7_firstError wsX7_firstError (k2_rm 10 220) (gP D cy [.ref (b 0)] A (wM cy b (mS σ) saved many bef (tI tx) len thr at_ (nI (lc)) (nO (o1)) (nO (o2)) dn hs ++ Z)) (gE D A (fun v9 w9 => v9 = some (.int (nI (if (pv tx len (len + 1) 0).1 = true then len else (pv tx len (len + 1) 0).2))) ∧ ∃ (t9 l9 : Nat) (x9 y9 : Option Nat) (d9 : Nat), w9 = (wM cy b (mS σ) saved many bef (tI tx) len 0 t9 (nI l9) (nO x9) (nO y9) d9 hs ++ Z))) 0 0 A := by
  refine q_imp (cc := cX7_firstError) (maxL := 1) (ret := (some .int)) pl_X7 rfl (Nat.le_of_ble_eq_true rfl) ?_
  intro p e s m below meth c ls hx hb hr hml hts hown hlocks hw hK hA hl
  have hP := hw.1
  have hl : lv_has ls 1 [(0, .ref (b 0))] := hl
  refine lv_aload_n hx hb dX7_firstError_0 rfl (lv_at hl 0 rfl) ?_
  refine lv_aload_n hx hb dX7_firstError_1 rfl (lv_at hl 0 rfl) ?_
  refine lv_iconst (v := nI 0) hx hb dX7_firstError_2 rfl ?_
  refine q_wVE0 (As := [.int (nI (0))]) (rest := [.ref (b 0)]) ⟨hx, hb, hml, hown, hts⟩ (c_X7_readText_f D cy A b σ saved many bef (tI tx) len thr at_ (nI (lc)) (nO (o1)) (nO (o2)) dn hs Z (tx) (lc) (o1) (o2) h_0 h_1) (cwV 1 hts gX7_firstError_X7_readText rfl rfl rfl hd_X7_readText ⟨Nat.le_of_ble_eq_true rfl, Nat.le_of_ble_eq_true rfl⟩) hK hA hw 0 rfl rfl rfl hl.1 rfl (Nat.le_of_ble_eq_true rfl) ⟨Nat.zero_le _, Nat.zero_le _⟩ dX7_firstError_3 (fun H locs v9 w9 hp9 hw => ?_)
  obtain ⟨rfl, l9_3, x9_3, y9_3, d9_3, rfl⟩ := hp9
  refine q_stk (show _ = ([.int (bI ((pv tx len (len + 1) 0).1)), .ref (b 0)] : List Value) from rfl) ?_
  have hw : wS D A (wM cy b (mS σ) saved many bef (tI tx) len thr ((pv tx len (len + 1) 0).2) (nI (l9_3)) (nO (x9_3)) (nO (y9_3)) d9_3 hs ++ Z) s H locs := hw
  have hP := hw.1
  refine q_ifeqB (tgt := 16) hx hb dX7_firstError_6 (by decide) (fun c_6 => ?_) (fun c_6 => ?_)
  · refine lv_aload_n hx hb dX7_firstError_16 rfl (lv_at hl 0 rfl) ?_
    refine va_get (D := D) (ci := 7) (v := .int (nI ((pv tx len (len + 1) 0).2))) (C := RX7) (T := TX7) (N := 13) hx hb hts (fun _ h => List.mem_cons_of_mem _ (List.mem_append_right _ h)) hown hK hP 0 rfl rfl 7 (by decide) (hts (.fieldLink RX7 166 "SpreadParityModel" "at" "I") (List.mem_of_getElem? (i := 2) rfl)) (fun _ h9 => h9) rfl dX7_firstError_17 ?_
    refine q_wV0 (As := [.int (nI ((pv tx len (len + 1) 0).2))]) (rest := []) (st1 := [.int (nI ((pv tx len (len + 1) 0).2))]) ⟨hx, hb, hml, hown, hts⟩ (c_X7_told D cy A b σ saved many bef (tI tx) len thr ((pv tx len (len + 1) 0).2) (nI (l9_3)) (nO (x9_3)) (nO (y9_3)) d9_3 hs Z (nI ((pv tx len (len + 1) 0).2))) (cwV 1 hts gX7_firstError_X7_told rfl rfl rfl hd_X7_told ⟨Nat.le_of_ble_eq_true rfl, Nat.le_of_ble_eq_true rfl⟩) hK hA hw 0 rfl rfl rfl hl.1 rfl rfl (Nat.le_of_ble_eq_true rfl) ⟨Nat.zero_le _, Nat.zero_le _⟩ dX7_firstError_20 (fun H locs hw => ?_)
    have hw : wS D A (wM cy b (mS σ) saved many bef (tI tx) len 0 ((pv tx len (len + 1) 0).2) (nI (l9_3)) (nO (x9_3)) (nO (y9_3)) d9_3 hs ++ Z) s H locs := hw
    have hP := hw.1
    exact q_iretE hx hb hr hlocks hw dX7_firstError_23 (⟨by rw [if_neg (by rw [c_6]; decide)], (pv tx len (len + 1) 0).2, l9_3, x9_3, y9_3, d9_3, rfl⟩)
  · refine lv_aload_n hx hb dX7_firstError_9 rfl (lv_at hl 0 rfl) ?_
    refine va_get (D := D) (ci := 7) (v := .int (nI (len))) (C := RX7) (T := TX7) (N := 13) hx hb hts (fun _ h => List.mem_cons_of_mem _ (List.mem_append_right _ h)) hown hK hP 0 rfl rfl 5 (by decide) (hts (.fieldLink RX7 163 "SpreadParityModel" "length" "I") (List.mem_of_getElem? (i := 1) rfl)) (fun _ h9 => h9) rfl dX7_firstError_10 ?_
    refine lv_goto (tgt := 20) hx hb dX7_firstError_13 (by decide) ?_
    refine q_wV0 (As := [.int (nI (len))]) (rest := []) (st1 := [.int (nI (len))]) ⟨hx, hb, hml, hown, hts⟩ (c_X7_told D cy A b σ saved many bef (tI tx) len thr ((pv tx len (len + 1) 0).2) (nI (l9_3)) (nO (x9_3)) (nO (y9_3)) d9_3 hs Z (nI (len))) (cwV 1 hts gX7_firstError_X7_told rfl rfl rfl hd_X7_told ⟨Nat.le_of_ble_eq_true rfl, Nat.le_of_ble_eq_true rfl⟩) hK hA hw 0 rfl rfl rfl hl.1 rfl rfl (Nat.le_of_ble_eq_true rfl) ⟨Nat.zero_le _, Nat.zero_le _⟩ dX7_firstError_20 (fun H locs hw => ?_)
    have hw : wS D A (wM cy b (mS σ) saved many bef (tI tx) len 0 ((pv tx len (len + 1) 0).2) (nI (l9_3)) (nO (x9_3)) (nO (y9_3)) d9_3 hs ++ Z) s H locs := hw
    have hP := hw.1
    exact q_iretE hx hb hr hlocks hw dX7_firstError_23 (⟨by rw [if_pos c_6], (pv tx len (len + 1) 0).2, l9_3, x9_3, y9_3, d9_3, rfl⟩)
set_option maxHeartbeats 1000000 in
set_option maxRecDepth 100000 in
theorem c_X7_run {l : Launch} (D : va_G) (cy : ClassId) (A : Nat → Prop) (b : Nat → Nat) (σ saved : Nat → Int32) (many : Nat) (bef T : Nat → Int32) (len thr at_ : Nat) (le f1 f2 : Int32) (dn : Nat) (hs : Int64) (Z : va_W) (tx : Nat → Nat) (lc : Nat) (o1 o2 : Option Nat) (h_0 : ∀ i, tx i ≤ 126) (h_1 : len ≤ 60) (h_2 : Val σ) (h_3 : many ≤ 6) : Met l yX7_run wsX7_run (k2_rm 10 220) (gP D cy [.ref (b 0)] A (wM cy b (mS σ) saved many bef (tI tx) len thr at_ (nI (lc)) (nO (o1)) (nO (o2)) dn hs ++ Z)) (gE D A (fun v9 w9 => v9 = some (.int (nI (if cRn tx len = 0 then (exT tx len (len + 1) 0 σ).2 else 0))) ∧ ∃ (t9 l9 : Nat) (x9 y9 : Option Nat) (d9 : Nat), w9 = (wM cy b (mS (if cRn tx len = 0 then (exT tx len (len + 1) 0 σ).1 else σ)) (if cRn tx len = 0 then svS saved many (mS σ) else saved) (if cRn tx len = 0 then min (many + 1) 6 else many) bef (tI tx) (if cRn tx len = 0 then 0 else len) (cRn tx len) t9 (nI l9) (nO x9) (nO y9) d9 hs ++ Z))) 0 0 A := by
  refine q_imp (cc := cX7_run) (maxL := 2) (ret := (some .int)) pl_X7 rfl (Nat.le_of_ble_eq_true rfl) ?_
  intro p e s m below meth c ls hx hb hr hml hts hown hlocks hw hK hA hl
  have hP := hw.1
  have hl : lv_has ls 2 [(0, .ref (b 0))] := hl
  refine lv_aload_n hx hb dX7_run_0 rfl (lv_at hl 0 rfl) ?_
  refine lv_aload_n hx hb dX7_run_1 rfl (lv_at hl 0 rfl) ?_
  refine lv_iconst (v := nI 0) hx hb dX7_run_2 rfl ?_
  refine q_wVE0 (As := [.int (nI (0))]) (rest := [.ref (b 0)]) ⟨hx, hb, hml, hown, hts⟩ (c_X7_readText_f D cy A b σ saved many bef (tI tx) len thr at_ (nI (lc)) (nO (o1)) (nO (o2)) dn hs Z (tx) (lc) (o1) (o2) h_0 h_1) (cwV 1 hts gX7_run_X7_readText rfl rfl rfl hd_X7_readText ⟨Nat.le_of_ble_eq_true rfl, Nat.le_of_ble_eq_true rfl⟩) hK hA hw 0 rfl rfl rfl hl.1 rfl (Nat.le_of_ble_eq_true rfl) ⟨Nat.zero_le _, Nat.zero_le _⟩ dX7_run_3 (fun H locs v9 w9 hp9 hw => ?_)
  obtain ⟨rfl, l9_3, x9_3, y9_3, d9_3, rfl⟩ := hp9
  refine q_stk (show _ = ([.int (bI ((pv tx len (len + 1) 0).1)), .ref (b 0)] : List Value) from rfl) ?_
  have hw : wS D A (wM cy b (mS σ) saved many bef (tI tx) len thr ((pv tx len (len + 1) 0).2) (nI (l9_3)) (nO (x9_3)) (nO (y9_3)) d9_3 hs ++ Z) s H locs := hw
  have hP := hw.1
  refine q_ifeqB (tgt := 13) hx hb dX7_run_6 (by decide) (fun c_6 => ?_) (fun c_6 => ?_)
  · refine lv_iconst (v := nI 1) hx hb dX7_run_13 rfl ?_
    refine q_wV0 (As := [.int (nI (1))]) (rest := []) (st1 := [.int (bI (decide (1 = 0)))]) ⟨hx, hb, hml, hown, hts⟩ (c_X7_holds D cy A b σ saved many bef (tI tx) len thr ((pv tx len (len + 1) 0).2) (nI (l9_3)) (nO (x9_3)) (nO (y9_3)) d9_3 hs Z (1) (by omega)) (cwV 1 hts gX7_run_X7_holds rfl rfl rfl hd_X7_holds ⟨Nat.le_of_ble_eq_true rfl, Nat.le_of_ble_eq_true rfl⟩) hK hA hw 0 rfl rfl rfl hl.1 rfl rfl (Nat.le_of_ble_eq_true rfl) ⟨Nat.zero_le _, Nat.zero_le _⟩ dX7_run_14 (fun H locs hw => ?_)
    have hw : wS D A (wM cy b (mS σ) saved many bef (tI tx) len 1 ((pv tx len (len + 1) 0).2) (nI (l9_3)) (nO (x9_3)) (nO (y9_3)) d9_3 hs ++ Z) s H locs := hw
    have hP := hw.1
    refine q_ifneB (tgt := 22) hx hb dX7_run_17 (by decide) (fun c_17 => absurd c_17 (by decide)) (fun c_17 => ?_)
    refine lv_iconst (v := nI 0) hx hb dX7_run_20 rfl ?_
    have e_c : cRn tx len = 1 := by rw [cRn, if_neg (by rw [c_6]; decide)]
    exact q_iretE hx hb hr hlocks hw dX7_run_21 (⟨by rw [e_c]; rfl, (pv tx len (len + 1) 0).2, l9_3, x9_3, y9_3, d9_3, by rw [e_c]; rfl⟩)
  · refine lv_iconst (v := nI 0) hx hb dX7_run_9 rfl ?_
    refine lv_goto (tgt := 14) hx hb dX7_run_10 (by decide) ?_
    refine q_wV0 (As := [.int (nI (0))]) (rest := []) (st1 := [.int (bI (decide (0 = 0)))]) ⟨hx, hb, hml, hown, hts⟩ (c_X7_holds D cy A b σ saved many bef (tI tx) len thr ((pv tx len (len + 1) 0).2) (nI (l9_3)) (nO (x9_3)) (nO (y9_3)) d9_3 hs Z (0) (by omega)) (cwV 1 hts gX7_run_X7_holds rfl rfl rfl hd_X7_holds ⟨Nat.le_of_ble_eq_true rfl, Nat.le_of_ble_eq_true rfl⟩) hK hA hw 0 rfl rfl rfl hl.1 rfl rfl (Nat.le_of_ble_eq_true rfl) ⟨Nat.zero_le _, Nat.zero_le _⟩ dX7_run_14 (fun H locs hw => ?_)
    have hw : wS D A (wM cy b (mS σ) saved many bef (tI tx) len 0 ((pv tx len (len + 1) 0).2) (nI (l9_3)) (nO (x9_3)) (nO (y9_3)) d9_3 hs ++ Z) s H locs := hw
    have hP := hw.1
    refine q_ifneB (tgt := 22) hx hb dX7_run_17 (by decide) (fun c_17 => ?_) (fun c_17 => absurd c_17 (by decide))
    refine lv_aload_n hx hb dX7_run_22 rfl (lv_at hl 0 rfl) ?_
    refine q_wV0 (As := []) (rest := []) (st1 := []) ⟨hx, hb, hml, hown, hts⟩ (c_X7_save D cy A b σ saved many bef (tI tx) len 0 ((pv tx len (len + 1) 0).2) (nI (l9_3)) (nO (x9_3)) (nO (y9_3)) d9_3 hs Z (by omega)) (cwV 0 hts gX7_run_X7_save rfl rfl rfl hd_X7_save ⟨Nat.le_of_ble_eq_true rfl, Nat.le_of_ble_eq_true rfl⟩) hK hA hw 0 rfl rfl rfl hl.1 rfl rfl (Nat.le_of_ble_eq_true rfl) ⟨Nat.zero_le _, Nat.zero_le _⟩ dX7_run_23 (fun H locs hw => ?_)
    have hw : wS D A (wM cy b (mS σ) (svS saved many (mS σ)) (min (many + 1) 6) bef (tI tx) len 0 ((pv tx len (len + 1) 0).2) (nI (l9_3)) (nO (x9_3)) (nO (y9_3)) d9_3 hs ++ Z) s H locs := hw
    have hP := hw.1
    refine lv_aload_n hx hb dX7_run_26 rfl (lv_at hl 0 rfl) ?_
    refine lv_iconst (v := nI 1) hx hb dX7_run_27 rfl ?_
    refine q_wVE0 (As := [.int (nI (1))]) (rest := []) ⟨hx, hb, hml, hown, hts⟩ (c_X7_readText_t D cy A b σ (svS saved many (mS σ)) (min (many + 1) 6) bef (tI tx) len 0 ((pv tx len (len + 1) 0).2) (nI (l9_3)) (nO (x9_3)) (nO (y9_3)) d9_3 hs Z (tx) (l9_3) (x9_3) (y9_3) h_0 h_1 h_2 c_6) (cwV 1 hts gX7_run_X7_readText rfl rfl rfl hd_X7_readText ⟨Nat.le_of_ble_eq_true rfl, Nat.le_of_ble_eq_true rfl⟩) hK hA hw 0 rfl rfl rfl hl.1 rfl (Nat.le_of_ble_eq_true rfl) ⟨Nat.zero_le _, Nat.zero_le _⟩ dX7_run_28 (fun H locs v9 w9 hp9 hw => ?_)
    obtain ⟨rfl, t9_28, l9_28, x9_28, y9_28, rfl⟩ := hp9
    refine q_stk (show _ = ([.int (bI (true))] : List Value) from rfl) ?_
    have hw : wS D A (wM cy b (mS (exT tx len (len + 1) 0 σ).1) (svS saved many (mS σ)) (min (many + 1) 6) bef (tI tx) len 0 t9_28 (nI (l9_28)) (nO (x9_28)) (nO (y9_28)) ((exT tx len (len + 1) 0 σ).2) hs ++ Z) s H locs := hw
    have hP := hw.1
    refine lv_istore_n (lv' := [(1, .int (bI (true))), (0, .ref (b 0))]) hx hb dX7_run_31 rfl hl (by decide) rfl (fun ls hl => ?_)
    refine lv_aload_n hx hb dX7_run_32 rfl (lv_at hl 1 rfl) ?_
    refine lv_iconst (v := nI 0) hx hb dX7_run_33 rfl ?_
    refine va_put (D := D) (ci := 7) (v := .int (nI (0))) (ty := .int) (C := RX7) (T := TX7) (N := 13) hx hb hts (fun _ h => List.mem_cons_of_mem _ (List.mem_append_right _ h)) tyX7 tyX7_ok nmX7 hown hK hw.1 hw.2.1 hw.2.2 0 rfl rfl 5 (by decide) (hts (.fieldLink RX7 163 "SpreadParityModel" "length" "I") (List.mem_of_getElem? (i := 1) rfl)) (fun _ h9 => h9) rfl (tyX7_ok 5 (by decide)) rfl rfl (Nat.le_of_ble_eq_true rfl) dX7_run_34 (fun H locs hP hD hS => ?_)
    have hw : wS D A (wM cy b (mS (exT tx len (len + 1) 0 σ).1) (svS saved many (mS σ)) (min (many + 1) 6) bef (tI tx) 0 0 t9_28 (nI (l9_28)) (nO (x9_28)) (nO (y9_28)) ((exT tx len (len + 1) 0 σ).2) hs ++ Z) s H locs := ⟨hP, hD, hS⟩
    refine lv_iload_n hx hb dX7_run_37 rfl (lv_at hl 0 rfl) ?_
    refine q_ifeqB (tgt := 48) hx hb dX7_run_38 (by decide) (fun c_38 => absurd c_38 (by decide)) (fun c_38 => ?_)
    refine lv_aload_n hx hb dX7_run_41 rfl (lv_at hl 1 rfl) ?_
    refine va_get (D := D) (ci := 7) (v := .int (nI ((exT tx len (len + 1) 0 σ).2))) (C := RX7) (T := TX7) (N := 13) hx hb hts (fun _ h => List.mem_cons_of_mem _ (List.mem_append_right _ h)) hown hK hP 0 rfl rfl 11 (by decide) (hts (.fieldLink RX7 190 "SpreadParityModel" "done" "I") (List.mem_of_getElem? (i := 2) rfl)) (fun _ h9 => h9) rfl dX7_run_42 ?_
    refine lv_goto (tgt := 49) hx hb dX7_run_45 (by decide) ?_
    have e_c : cRn tx len = 0 := by rw [cRn, if_pos c_6]
    exact q_iretE hx hb hr hlocks hw dX7_run_49 (⟨by rw [e_c]; rfl, t9_28, l9_28, x9_28, y9_28, (exT tx len (len + 1) 0 σ).2, by rw [e_c]; rfl⟩)
set_option maxHeartbeats 1000000 in
set_option maxRecDepth 100000 in
theorem c_X7_undo {l : Launch} (D : va_G) (cy : ClassId) (A : Nat → Prop) (b : Nat → Nat) (σ saved : Nat → Int32) (many : Nat) (bef T : Nat → Int32) (len thr at_ : Nat) (le f1 f2 : Int32) (dn : Nat) (hs : Int64) (Z : va_W) (τ : Nat → Int32) (h_0 : many ≤ 6) (h_1 : 0 < many → ∀ i, i < 86 → saved (86 * (many - 1) + i) = mS τ i) (h_2 : ∀ i, 86 ≤ i → σ i = τ i) : Met l yX7_undo wsX7_undo (k2_rm 1 24) (gP D cy [.ref (b 0)] A (wM cy b (mS σ) saved many bef T len thr at_ le f1 f2 dn hs ++ Z)) (gQ D A (some (.int (nI (if cUn many = 0 then many - 1 else 0)))) (wM cy b (mS (if cUn many = 0 then τ else σ)) saved (if cUn many = 0 then many - 1 else many) bef T len (cUn many) at_ le f1 f2 dn hs ++ Z)) 0 0 A := by
  refine q_imp (cc := cX7_undo) (maxL := 1) (ret := (some .int)) pl_X7 rfl (Nat.le_of_ble_eq_true rfl) ?_
  intro p e s m below meth c ls hx hb hr hml hts hown hlocks hw hK hA hl
  have hP := hw.1
  have hl : lv_has ls 1 [(0, .ref (b 0))] := hl
  refine lv_aload_n hx hb dX7_undo_0 rfl (lv_at hl 0 rfl) ?_
  refine lv_aload_n hx hb dX7_undo_1 rfl (lv_at hl 0 rfl) ?_
  refine va_get (D := D) (ci := 7) (v := .int (nI (many))) (C := RX7) (T := TX7) (N := 13) hx hb hts (fun _ h => List.mem_cons_of_mem _ (List.mem_append_right _ h)) hown hK hP 0 rfl rfl 2 (by decide) (hts (.fieldLink RX7 30 "SpreadParityModel" "savedMany" "I") (List.mem_of_getElem? (i := 1) rfl)) (fun _ h9 => h9) rfl dX7_undo_2 ?_
  refine q_ifleN (tgt := 12) hx hb dX7_undo_5 (by decide) (by omega) (fun c_5 => ?_) (fun c_5 => ?_)
  · refine lv_iconst (v := nI 1) hx hb dX7_undo_12 rfl ?_
    refine q_wV0 (As := [.int (nI (1))]) (rest := []) (st1 := [.int (bI (decide (1 = 0)))]) ⟨hx, hb, hml, hown, hts⟩ (c_X7_holds D cy A b σ saved many bef T len thr at_ le f1 f2 dn hs Z (1) (by omega)) (cwV 1 hts gX7_undo_X7_holds rfl rfl rfl hd_X7_holds ⟨Nat.le_of_ble_eq_true rfl, Nat.le_of_ble_eq_true rfl⟩) hK hA hw 0 rfl rfl rfl hl.1 rfl rfl (Nat.le_of_ble_eq_true rfl) ⟨Nat.zero_le _, Nat.zero_le _⟩ dX7_undo_13 (fun H locs hw => ?_)
    have hw : wS D A (wM cy b (mS σ) saved many bef T len 1 at_ le f1 f2 dn hs ++ Z) s H locs := hw
    have hP := hw.1
    refine q_ifneB (tgt := 21) hx hb dX7_undo_16 (by decide) (fun c_16 => absurd c_16 (by decide)) (fun c_16 => ?_)
    refine lv_iconst (v := nI 0) hx hb dX7_undo_19 rfl ?_
    have e_c : cUn many = 1 := by rw [cUn, if_pos (by omega)]
    have hw : wS D A (wM cy b (mS (if cUn many = 0 then τ else σ)) saved (if cUn many = 0 then many - 1 else many) bef T len (cUn many) at_ le f1 f2 dn hs ++ Z) s H locs := by rw [e_c]; exact hw
    exact q_iretW hx hb hr hlocks hw dX7_undo_20 (by rw [e_c]; rfl)
  · refine lv_iconst (v := nI 0) hx hb dX7_undo_8 rfl ?_
    refine lv_goto (tgt := 13) hx hb dX7_undo_9 (by decide) ?_
    refine q_wV0 (As := [.int (nI (0))]) (rest := []) (st1 := [.int (bI (decide (0 = 0)))]) ⟨hx, hb, hml, hown, hts⟩ (c_X7_holds D cy A b σ saved many bef T len thr at_ le f1 f2 dn hs Z (0) (by omega)) (cwV 1 hts gX7_undo_X7_holds rfl rfl rfl hd_X7_holds ⟨Nat.le_of_ble_eq_true rfl, Nat.le_of_ble_eq_true rfl⟩) hK hA hw 0 rfl rfl rfl hl.1 rfl rfl (Nat.le_of_ble_eq_true rfl) ⟨Nat.zero_le _, Nat.zero_le _⟩ dX7_undo_13 (fun H locs hw => ?_)
    have hw : wS D A (wM cy b (mS σ) saved many bef T len 0 at_ le f1 f2 dn hs ++ Z) s H locs := hw
    have hP := hw.1
    refine q_ifneB (tgt := 21) hx hb dX7_undo_16 (by decide) (fun c_16 => ?_) (fun c_16 => absurd c_16 (by decide))
    refine lv_aload_n hx hb dX7_undo_21 rfl (lv_at hl 0 rfl) ?_
    refine lv_dup hx hb dX7_undo_22 rfl ?_
    refine va_get (D := D) (ci := 7) (v := .int (nI (many))) (C := RX7) (T := TX7) (N := 13) hx hb hts (fun _ h => List.mem_cons_of_mem _ (List.mem_append_right _ h)) hown hK hP 0 rfl rfl 2 (by decide) (hts (.fieldLink RX7 30 "SpreadParityModel" "savedMany" "I") (List.mem_of_getElem? (i := 1) rfl)) (fun _ h9 => h9) rfl dX7_undo_23 ?_
    refine lv_iconst (v := nI 1) hx hb dX7_undo_26 rfl ?_
    refine q_subN hx hb dX7_undo_27 (by omega) ?_
    refine va_put (D := D) (ci := 7) (v := .int (nI (many - 1))) (ty := .int) (C := RX7) (T := TX7) (N := 13) hx hb hts (fun _ h => List.mem_cons_of_mem _ (List.mem_append_right _ h)) tyX7 tyX7_ok nmX7 hown hK hw.1 hw.2.1 hw.2.2 0 rfl rfl 2 (by decide) (hts (.fieldLink RX7 30 "SpreadParityModel" "savedMany" "I") (List.mem_of_getElem? (i := 1) rfl)) (fun _ h9 => h9) rfl (tyX7_ok 2 (by decide)) rfl rfl (Nat.le_of_ble_eq_true rfl) dX7_undo_28 (fun H locs hP hD hS => ?_)
    have hw : wS D A (wM cy b (mS σ) saved (many - 1) bef T len 0 at_ le f1 f2 dn hs ++ Z) s H locs := ⟨hP, hD, hS⟩
    refine lv_aload_n hx hb dX7_undo_31 rfl (lv_at hl 0 rfl) ?_
    refine va_get (D := D) (ci := 7) (v := .ref (b 2)) (C := RX7) (T := TX7) (N := 13) hx hb hts (fun _ h => List.mem_cons_of_mem _ (List.mem_append_right _ h)) hown hK hP 0 rfl rfl 1 (by decide) (hts (.fieldLink RX7 13 "SpreadParityModel" "saved" "[I") (List.mem_of_getElem? (i := 2) rfl)) (fun _ h9 => h9) rfl dX7_undo_32 ?_
    refine lv_bipush (v := nI 86) hx hb dX7_undo_35 rfl ?_
    refine lv_aload_n hx hb dX7_undo_37 rfl (lv_at hl 0 rfl) ?_
    refine va_get (D := D) (ci := 7) (v := .int (nI (many - 1))) (C := RX7) (T := TX7) (N := 13) hx hb hts (fun _ h => List.mem_cons_of_mem _ (List.mem_append_right _ h)) hown hK hP 0 rfl rfl 2 (by decide) (hts (.fieldLink RX7 30 "SpreadParityModel" "savedMany" "I") (List.mem_of_getElem? (i := 1) rfl)) (fun _ h9 => h9) rfl dX7_undo_38 ?_
    refine q_mulN hx hb dX7_undo_41 ?_
    refine lv_aload_n hx hb dX7_undo_42 rfl (lv_at hl 0 rfl) ?_
    refine va_get (D := D) (ci := 7) (v := .ref (b 1)) (C := RX7) (T := TX7) (N := 13) hx hb hts (fun _ h => List.mem_cons_of_mem _ (List.mem_append_right _ h)) hown hK hP 0 rfl rfl 0 (by decide) (hts (.fieldLink RX7 7 "SpreadParityModel" "s" "[I") (List.mem_of_getElem? (i := 3) rfl)) (fun _ h9 => h9) rfl dX7_undo_43 ?_
    refine lv_iconst (v := nI 0) hx hb dX7_undo_46 rfl ?_
    refine q_wS0 (As := [.ref (b 2), .int (nI (86 * (many - 1))), .ref (b 1), .int (nI (0))]) (rest := []) (st1 := []) ⟨hx, hb, hml, hown, hts⟩ (c_X7_copy D cy A (wM cy b (mS σ) saved (many - 1) bef T len 0 at_ le f1 f2 dn hs ++ Z) 2 1 (b 2) (b 1) 516 86 saved (mS σ) rfl rfl (by decide) (86 * (many - 1)) (0) (by omega) (by omega) (by omega) (by omega)) (va_cwS 4 hts gX7_undo_X7_copy rfl rfl rfl hd_X7_copy ⟨Nat.le_of_ble_eq_true rfl, Nat.le_of_ble_eq_true rfl⟩) hK hA hw rfl hl.1 rfl rfl (Nat.le_of_ble_eq_true rfl) ⟨Nat.zero_le _, Nat.zero_le _⟩ dX7_undo_47 (fun H locs hw => ?_)
    have hw : wS D A (wM cy b (cpG (mS σ) saved (0) (86 * (many - 1)) 86) saved (many - 1) bef T len 0 at_ le f1 f2 dn hs ++ Z) s H locs := hw
    have hP := hw.1
    refine lv_aload_n hx hb dX7_undo_50 rfl (lv_at hl 0 rfl) ?_
    refine va_get (D := D) (ci := 7) (v := .int (nI (many - 1))) (C := RX7) (T := TX7) (N := 13) hx hb hts (fun _ h => List.mem_cons_of_mem _ (List.mem_append_right _ h)) hown hK hP 0 rfl rfl 2 (by decide) (hts (.fieldLink RX7 30 "SpreadParityModel" "savedMany" "I") (List.mem_of_getElem? (i := 1) rfl)) (fun _ h9 => h9) rfl dX7_undo_51 ?_
    have e_c : cUn many = 0 := by rw [cUn, if_neg (by omega)]
    rw [show cpG (mS σ) saved (0) (86 * (many - 1)) 86 = mS τ from un_back (h_1 (by omega)) h_2] at hw
    have hw : wS D A (wM cy b (mS (if cUn many = 0 then τ else σ)) saved (if cUn many = 0 then many - 1 else many) bef T len (cUn many) at_ le f1 f2 dn hs ++ Z) s H locs := by rw [e_c]; exact hw
    exact q_iretW hx hb hr hlocks hw dX7_undo_54 (by rw [e_c]; rfl)
set_option maxHeartbeats 1000000 in
set_option maxRecDepth 100000 in
theorem c_X7_savedStates {l : Launch} (D : va_G) (cy : ClassId) (A : Nat → Prop) (b : Nat → Nat) (σ saved : Nat → Int32) (many : Nat) (bef T : Nat → Int32) (len thr at_ : Nat) (le f1 f2 : Int32) (dn : Nat) (hs : Int64) (Z : va_W) : Met l yX7_savedStates wsX7_savedStates (k2_rm 1 21) (gP D cy [.ref (b 0)] A (wM cy b (mS σ) saved many bef T len thr at_ le f1 f2 dn hs ++ Z)) (gQ D A (some (.int (nI many))) (wM cy b (mS σ) saved many bef T len 0 at_ le f1 f2 dn hs ++ Z)) 0 0 A := by
  refine q_imp (cc := cX7_savedStates) (maxL := 1) (ret := (some .int)) pl_X7 rfl (Nat.le_of_ble_eq_true rfl) ?_
  intro p e s m below meth c ls hx hb hr hml hts hown hlocks hw hK hA hl
  have hP := hw.1
  have hl : lv_has ls 1 [(0, .ref (b 0))] := hl
  refine lv_aload_n hx hb dX7_savedStates_0 rfl (lv_at hl 0 rfl) ?_
  refine lv_aload_n hx hb dX7_savedStates_1 rfl (lv_at hl 0 rfl) ?_
  refine va_get (D := D) (ci := 7) (v := .int (nI (many))) (C := RX7) (T := TX7) (N := 13) hx hb hts (fun _ h => List.mem_cons_of_mem _ (List.mem_append_right _ h)) hown hK hP 0 rfl rfl 2 (by decide) (hts (.fieldLink RX7 30 "SpreadParityModel" "savedMany" "I") (List.mem_of_getElem? (i := 1) rfl)) (fun _ h9 => h9) rfl dX7_savedStates_2 ?_
  refine q_wV0 (As := [.int (nI (many))]) (rest := []) (st1 := [.int (nI (many))]) ⟨hx, hb, hml, hown, hts⟩ (c_X7_told D cy A b σ saved many bef T len thr at_ le f1 f2 dn hs Z (nI (many))) (cwV 1 hts gX7_savedStates_X7_told rfl rfl rfl hd_X7_told ⟨Nat.le_of_ble_eq_true rfl, Nat.le_of_ble_eq_true rfl⟩) hK hA hw 0 rfl rfl rfl hl.1 rfl rfl (Nat.le_of_ble_eq_true rfl) ⟨Nat.zero_le _, Nat.zero_le _⟩ dX7_savedStates_5 (fun H locs hw => ?_)
  have hw : wS D A (wM cy b (mS σ) saved many bef T len 0 at_ le f1 f2 dn hs ++ Z) s H locs := hw
  have hP := hw.1
  exact q_iretW hx hb hr hlocks hw dX7_savedStates_8 (rfl)
set_option maxHeartbeats 1000000 in
set_option maxRecDepth 100000 in
theorem c_X7_mix {l : Launch} (D : va_G) (cy : ClassId) (A : Nat → Prop) (b : Nat → Nat) (σ saved : Nat → Int32) (many : Nat) (bef T : Nat → Int32) (len thr at_ : Nat) (le f1 f2 : Int32) (dn : Nat) (hs : Int64) (Z : va_W) (v : Int64) : Met l yX7_mix wsX7_mix (k2_rm 0 0) (gP D cy [.ref (b 0), .long (v)] A (wM cy b (mS σ) saved many bef T len thr at_ le f1 f2 dn hs ++ Z)) (gQ D A (none) (wM cy b (mS σ) saved many bef T len thr at_ le f1 f2 dn (31 * hs + v) ++ Z)) 0 0 A := by
  refine q_imp (cc := cX7_mix) (maxL := 3) (ret := none) pl_X7 rfl (Nat.le_of_ble_eq_true rfl) ?_
  intro p e s m below meth c ls hx hb hr hml hts hown hlocks hw hK hA hl
  have hP := hw.1
  have hl : lv_has ls 3 [(0, .ref (b 0)), (1, .long (v))] := hl
  refine lv_aload_n hx hb dX7_mix_0 rfl (lv_at hl 0 rfl) ?_
  refine lv_ldc2 (v := 31) hx hb hown (hts (.constantLong RX7 207 (31)) (List.mem_of_getElem? (i := 1) rfl)) dX7_mix_1 ?_
  refine lv_aload_n hx hb dX7_mix_4 rfl (lv_at hl 0 rfl) ?_
  refine va_get (D := D) (ci := 7) (v := .long (hs)) (C := RX7) (T := TX7) (N := 13) hx hb hts (fun _ h => List.mem_cons_of_mem _ (List.mem_append_right _ h)) hown hK hP 0 rfl rfl 12 (by decide) (hts (.fieldLink RX7 209 "SpreadParityModel" "hash" "J") (List.mem_of_getElem? (i := 2) rfl)) (fun _ h9 => h9) rfl dX7_mix_5 ?_
  refine lv_lmul hx hb dX7_mix_8 ?_
  refine lv_lload_n hx hb dX7_mix_9 rfl (lv_at hl 1 rfl) ?_
  refine lv_ladd hx hb dX7_mix_10 ?_
  refine va_put (D := D) (ci := 7) (v := .long (((31) * (hs)) + (v))) (ty := .long) (C := RX7) (T := TX7) (N := 13) hx hb hts (fun _ h => List.mem_cons_of_mem _ (List.mem_append_right _ h)) tyX7 tyX7_ok nmX7 hown hK hw.1 hw.2.1 hw.2.2 0 rfl rfl 12 (by decide) (hts (.fieldLink RX7 209 "SpreadParityModel" "hash" "J") (List.mem_of_getElem? (i := 2) rfl)) (fun _ h9 => h9) rfl (tyX7_ok 12 (by decide)) rfl rfl (Nat.le_of_ble_eq_true rfl) dX7_mix_11 (fun H locs hP hD hS => ?_)
  have hw : wS D A (wM cy b (mS σ) saved many bef T len thr at_ le f1 f2 dn (((31) * (hs)) + (v)) ++ Z) s H locs := ⟨hP, hD, hS⟩
  exact q_vretW hx hb hr hlocks hw dX7_mix_14
