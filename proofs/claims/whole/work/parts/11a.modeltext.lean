theorem inB_N {a lo hi : Nat} (ha : a < 2 ^ 31) (hlo : lo < 2 ^ 31) (hhi : hi < 2 ^ 31) : inB (nI a) lo hi = (decide (lo ≤ a) && decide (a ≤ hi)) := by
  have h1 : (nI lo ≤ nI a) ↔ lo ≤ a := nI_leI hlo ha
  have h2 : (nI a ≤ nI hi) ↔ a ≤ hi := nI_leI ha hhi
  simp only [inB, h1, h2]
/-- the sign at the place i lies between lo and hi -/
def nxt (tx : Nat → Nat) (n i lo hi : Nat) : Bool := decide (i < n) && (decide (lo ≤ tx i) && decide (tx i ≤ hi))
theorem nxt_lt {tx : Nat → Nat} {n i lo hi : Nat} (h : nxt tx n i lo hi = true) : i < n := by
  simp only [nxt, Bool.and_eq_true, decide_eq_true_eq] at h
  exact h.1
theorem nxt_ge {tx : Nat → Nat} {n i lo hi : Nat} (h : nxt tx n i lo hi = true) : lo ≤ tx i ∧ tx i ≤ hi := by
  simp only [nxt, Bool.and_eq_true, decide_eq_true_eq] at h
  exact h.2
/-- the place behind a sign, if it stands there -/
def tkM (tx : Nat → Nat) (n i ch : Nat) : Nat := i + (if nxt tx n i ch ch then 1 else 0)
theorem tkM_le (tx : Nat → Nat) (n i ch : Nat) : tkM tx n i ch ≤ i + 1 := by unfold tkM; split <;> omega
/-- a number of at most top, from the place i on -/
def rnA (tx : Nat → Nat) (n top : Nat) : Nat → Nat → Nat → Option Nat × Nat
  | 0, v, i => (some v, i)
  | k + 1, v, i => if 0 < v ∧ nxt tx n i 48 57 = true ∧ 10 * v + tx i - 48 ≤ top then rnA tx n top k (10 * v + tx i - 48) (i + 1) else (some v, i)
def rn (tx : Nat → Nat) (n i top : Nat) : Option Nat × Nat := if nxt tx n i 48 57 = true then rnA tx n top (n - (i + 1)) (tx i - 48) (i + 1) else (none, i)
theorem rnA_B (tx : Nat → Nat) (n : Nat) {top : Nat} (ht : top ≤ 65535) : ∀ (k v i : Nat), v ≤ 65535 → oB (rnA tx n top k v i).1 := by
  intro k
  induction k with
  | zero => intro v i hv b hb; simp only [rnA] at hb; cases hb; exact hv
  | succ k ih =>
    intro v i hv
    simp only [rnA]
    split
    · exact ih _ _ (by omega)
    · intro b hb; cases hb; exact hv
theorem rn_B {tx : Nat → Nat} (h : ∀ i, tx i ≤ 126) {n i top : Nat} (ht : top ≤ 65535) : oB (rn tx n i top).1 := by
  unfold rn
  split
  · exact rnA_B tx n ht _ _ _ (by have := h i; omega)
  · exact oB_none
theorem rnA_le (tx : Nat → Nat) (n top : Nat) : ∀ (k v i : Nat), (rnA tx n top k v i).2 ≤ i + k ∧ i ≤ (rnA tx n top k v i).2 := by
  intro k
  induction k with
  | zero => intro v i; simp [rnA]
  | succ k ih =>
    intro v i
    simp only [rnA]
    split
    · have := ih (10 * v + tx i - 48) (i + 1); omega
    · simp
theorem rn_le (tx : Nat → Nat) (n i top : Nat) (h : i ≤ 61) : (rn tx n i top).2 ≤ max n i ∧ i ≤ (rn tx n i top).2 := by
  unfold rn
  split
  · rename_i h2
    have h3 := nxt_lt h2
    have := rnA_le tx n top (n - (i + 1)) (tx i - 48) (i + 1)
    omega
  · exact ⟨by omega, by omega⟩
def rdg (tx : Nat → Nat) (n i lo hi : Nat) : Option Nat × Nat := if nxt tx n i (48 + lo) (48 + hi) = true then (some (tx i - 48), i + 1) else (none, i)
theorem rdg_B {tx : Nat → Nat} (h : ∀ i, tx i ≤ 126) {n i lo hi : Nat} : oB (rdg tx n i lo hi).1 := by
  unfold rdg
  split
  · intro b hb; cases hb; have := h i; omega
  · exact oB_none
/-- the sign at a place, 0 behind the end -/
def ltr (tx : Nat → Nat) (n i : Nat) : Nat := if i < n then tx i else 0
theorem ltr_le (tx : Nat → Nat) (n i : Nat) (h : ∀ i, tx i ≤ 126) : ltr tx n i ≤ 126 := by unfold ltr; split; exact h i; omega
/-- an order read from the place i on: whether it is one, the place behind, its letter, its numbers (a and b those of before) -/
def po (tx : Nat → Nat) (n i : Nat) (a b : Option Nat) : Bool × Nat × Nat × Option Nat × Option Nat :=
  if ltr tx n i = 119 then
    (if (rn tx n (i + 1) 41).1 = none then (false, (rn tx n (i + 1) 41).2, ltr tx n i, (rn tx n (i + 1) 41).1, b)
     else if nxt tx n (rn tx n (i + 1) 41).2 61 61 = false then (false, tkM tx n (rn tx n (i + 1) 41).2 61, ltr tx n i, (rn tx n (i + 1) 41).1, b)
     else ((rn tx n (tkM tx n (rn tx n (i + 1) 41).2 61) 65535).1.isSome, (rn tx n (tkM tx n (rn tx n (i + 1) 41).2 61) 65535).2, ltr tx n i, (rn tx n (i + 1) 41).1, (rn tx n (tkM tx n (rn tx n (i + 1) 41).2 61) 65535).1))
  else if ltr tx n i = 102 ∨ ltr tx n i = 109 then ((rdg tx n (i + 1) 0 6).1.isSome, (rdg tx n (i + 1) 0 6).2, ltr tx n i, (rdg tx n (i + 1) 0 6).1, b)
  else if ltr tx n i = 115 then ((rdg tx n (i + 1) 1 9).1.isSome, (rdg tx n (i + 1) 1 9).2, ltr tx n i, (rdg tx n (i + 1) 1 9).1, b)
  else if ltr tx n i = 99 then (true, i + 1, ltr tx n i, a, b)
  else (false, i, ltr tx n i, a, b)

set_option maxHeartbeats 1000000 in
set_option maxRecDepth 100000 in
theorem c_X7_isNext {l : Launch} (D : va_G) (cy : ClassId) (b : Nat → Nat) (σ saved : Nat → Int32) (many : Nat) (bef T : Nat → Int32) (len thr at_ : Nat) (le f1 f2 : Int32) (dn : Nat) (hs : Int64) (Z : va_W) (tx : Nat → Nat) (lo : Nat) (hi : Nat) (h_0 : lo < 2 ^ 31) (h_1 : hi < 2 ^ 31) (h_2 : ∀ i, tx i ≤ 126) (h_3 : len ≤ 60) (h_4 : at_ ≤ 61) : Met l yX7_isNext wsX7_isNext (k2_rm 1 22) (gR D cy [.ref (b 0), .int (nI (lo)), .int (nI (hi))] (wM cy b (mS σ) saved many bef (tI tx) len thr at_ le f1 f2 dn hs ++ Z)) (k2_QcV (.int (bI (nxt tx len at_ lo hi)))) 0 0 (fun _ => False) := by
  refine q_pure (cc := cX7_isNext) (maxL := 3) (ret := (some .boolean)) pl_X7 rfl (Nat.le_of_ble_eq_true rfl) ?_
  intro p e s m below meth c ls hx hb hr hml hts hown hlocks hP hK hl
  have hl : lv_has ls 3 [(0, .ref (b 0)), (1, .int (nI (lo))), (2, .int (nI (hi)))] := hl
  refine lv_aload_n hx hb dX7_isNext_0 rfl (lv_at hl 0 rfl) ?_
  refine va_get (D := D) (ci := 7) (v := .int (nI (at_))) (C := RX7) (T := TX7) (N := 13) hx hb hts (fun _ h => List.mem_cons_of_mem _ (List.mem_append_right _ h)) hown hK hP 0 rfl rfl 7 (by decide) (hts (.fieldLink RX7 166 "SpreadParityModel" "at" "I") (List.mem_of_getElem? (i := 1) rfl)) (fun _ h9 => h9) rfl dX7_isNext_1 ?_
  refine lv_aload_n hx hb dX7_isNext_4 rfl (lv_at hl 0 rfl) ?_
  refine va_get (D := D) (ci := 7) (v := .int (nI (len))) (C := RX7) (T := TX7) (N := 13) hx hb hts (fun _ h => List.mem_cons_of_mem _ (List.mem_append_right _ h)) hown hK hP 0 rfl rfl 5 (by decide) (hts (.fieldLink RX7 163 "SpreadParityModel" "length" "I") (List.mem_of_getElem? (i := 2) rfl)) (fun _ h9 => h9) rfl dX7_isNext_5 ?_
  refine q_geN (tgt := 32) hx hb dX7_isNext_8 (by decide) (by omega) (by omega) (fun c_8 => ?_) (fun c_8 => ?_)
  · refine lv_iconst (v := nI 0) hx hb dX7_isNext_32 rfl ?_
    exact q_zret hx hb hr hlocks dX7_isNext_33 (by rw [nxt, decide_eq_false (show ¬ at_ < len by omega)]; rfl)
  · refine lv_aload_n hx hb dX7_isNext_11 rfl (lv_at hl 0 rfl) ?_
    refine va_get (D := D) (ci := 7) (v := .ref (b 4)) (C := RX7) (T := TX7) (N := 13) hx hb hts (fun _ h => List.mem_cons_of_mem _ (List.mem_append_right _ h)) hown hK hP 0 rfl rfl 4 (by decide) (hts (.fieldLink RX7 19 "SpreadParityModel" "text" "[I") (List.mem_of_getElem? (i := 3) rfl)) (fun _ h9 => h9) rfl dX7_isNext_12 ?_
    refine lv_aload_n hx hb dX7_isNext_15 rfl (lv_at hl 0 rfl) ?_
    refine va_get (D := D) (ci := 7) (v := .int (nI (at_))) (C := RX7) (T := TX7) (N := 13) hx hb hts (fun _ h => List.mem_cons_of_mem _ (List.mem_append_right _ h)) hown hK hP 0 rfl rfl 7 (by decide) (hts (.fieldLink RX7 166 "SpreadParityModel" "at" "I") (List.mem_of_getElem? (i := 1) rfl)) (fun _ h9 => h9) rfl dX7_isNext_16 ?_
    refine q_iald hx hb hK hP 4 rfl (by omega) (by omega) dX7_isNext_19 ?_
    refine q_top (show ((tI tx) (at_)) = nI (tx at_) from rfl) ?_
    refine lv_iload_n hx hb dX7_isNext_20 rfl (lv_at hl 1 rfl) ?_
    refine lv_iload_n hx hb dX7_isNext_21 rfl (lv_at hl 2 rfl) ?_
    refine q_cS (As := [.int (nI (tx at_)), .int (nI (lo)), .int (nI (hi))]) (rest := []) (w := []) ⟨hx, hb, hml, hown, hts⟩ (c_X7_in D cy (nI (tx at_)) (lo) (hi)) (va_cwS 3 hts gX7_isNext_X7_in rfl rfl rfl hd_X7_in ⟨Nat.le_of_ble_eq_true rfl, Nat.le_of_ble_eq_true rfl⟩) hK q_Pnil rfl hl.1 rfl (Nat.le_of_ble_eq_true rfl) ⟨Nat.zero_le _, Nat.zero_le _⟩ dX7_isNext_22 ?_
    refine q_ifeqB (tgt := 32) hx hb dX7_isNext_25 (by decide) (fun c_25 => ?_) (fun c_25 => ?_)
    · refine lv_iconst (v := nI 0) hx hb dX7_isNext_32 rfl ?_
      exact q_zret hx hb hr hlocks dX7_isNext_33 (by have h9 := inB_N (a := tx at_) (lo := lo) (hi := hi) (by have := h_2 at_; omega) h_0 h_1; rw [h9] at c_25; rw [nxt, decide_eq_true (show at_ < len by omega), Bool.true_and, c_25]; rfl)
    · refine lv_iconst (v := nI 1) hx hb dX7_isNext_28 rfl ?_
      refine lv_goto (tgt := 33) hx hb dX7_isNext_29 (by decide) ?_
      exact q_zret hx hb hr hlocks dX7_isNext_33 (by have h9 := inB_N (a := tx at_) (lo := lo) (hi := hi) (by have := h_2 at_; omega) h_0 h_1; rw [h9] at c_25; rw [nxt, decide_eq_true (show at_ < len by omega), Bool.true_and, c_25]; rfl)
set_option maxHeartbeats 1000000 in
set_option maxRecDepth 100000 in
theorem c_X7_takes {l : Launch} (D : va_G) (cy : ClassId) (A : Nat → Prop) (b : Nat → Nat) (σ saved : Nat → Int32) (many : Nat) (bef T : Nat → Int32) (len thr at_ : Nat) (le f1 f2 : Int32) (dn : Nat) (hs : Int64) (Z : va_W) (tx : Nat → Nat) (ch : Nat) (h_0 : ch < 2 ^ 31) (h_1 : ∀ i, tx i ≤ 126) (h_2 : len ≤ 60) (h_3 : at_ ≤ 61) : Met l yX7_takes wsX7_takes (k2_rm 2 44) (gP D cy [.ref (b 0), .int (nI (ch))] A (wM cy b (mS σ) saved many bef (tI tx) len thr at_ le f1 f2 dn hs ++ Z)) (gQ D A (some (.int (bI (nxt tx len at_ ch ch)))) (wM cy b (mS σ) saved many bef (tI tx) len thr (tkM tx len at_ ch) le f1 f2 dn hs ++ Z)) 0 0 A := by
  refine q_imp (cc := cX7_takes) (maxL := 3) (ret := (some .boolean)) pl_X7 rfl (Nat.le_of_ble_eq_true rfl) ?_
  intro p e s m below meth c ls hx hb hr hml hts hown hlocks hw hK hA hl
  have hP := hw.1
  have hl : lv_has ls 3 [(0, .ref (b 0)), (1, .int (nI (ch)))] := hl
  refine lv_aload_n hx hb dX7_takes_0 rfl (lv_at hl 0 rfl) ?_
  refine lv_iload_n hx hb dX7_takes_1 rfl (lv_at hl 1 rfl) ?_
  refine lv_iload_n hx hb dX7_takes_2 rfl (lv_at hl 1 rfl) ?_
  refine q_cV (As := [.int (nI (ch)), .int (nI (ch))]) (rest := []) ⟨hx, hb, hml, hown, hts⟩ (c_X7_isNext D cy b σ saved many bef (tI tx) len thr at_ le f1 f2 dn hs Z (tx) (ch) (ch) h_0 h_0 h_1 h_2 h_3) (cwV 2 hts gX7_takes_X7_isNext rfl rfl rfl hd_X7_isNext ⟨Nat.le_of_ble_eq_true rfl, Nat.le_of_ble_eq_true rfl⟩) hK hP 0 rfl rfl rfl hl.1 rfl (Nat.le_of_ble_eq_true rfl) ⟨Nat.zero_le _, Nat.zero_le _⟩ dX7_takes_3 ?_
  refine lv_istore_n (lv' := [(2, .int (bI (nxt tx len at_ ch ch))), (0, .ref (b 0)), (1, .int (nI (ch)))]) hx hb dX7_takes_6 rfl hl (by decide) rfl (fun ls hl => ?_)
  refine lv_aload_n hx hb dX7_takes_7 rfl (lv_at hl 1 rfl) ?_
  refine lv_dup hx hb dX7_takes_8 rfl ?_
  refine va_get (D := D) (ci := 7) (v := .int (nI (at_))) (C := RX7) (T := TX7) (N := 13) hx hb hts (fun _ h => List.mem_cons_of_mem _ (List.mem_append_right _ h)) hown hK hP 0 rfl rfl 7 (by decide) (hts (.fieldLink RX7 166 "SpreadParityModel" "at" "I") (List.mem_of_getElem? (i := 1) rfl)) (fun _ h9 => h9) rfl dX7_takes_9 ?_
  refine lv_iload_n hx hb dX7_takes_12 rfl (lv_at hl 0 rfl) ?_
  refine q_ifeqB (tgt := 20) hx hb dX7_takes_13 (by decide) (fun c_13 => ?_) (fun c_13 => ?_)
  · refine lv_iconst (v := nI 0) hx hb dX7_takes_20 rfl ?_
    refine q_addN hx hb dX7_takes_21 ?_
    refine va_put (D := D) (ci := 7) (v := .int (nI (at_ + 0))) (ty := .int) (C := RX7) (T := TX7) (N := 13) hx hb hts (fun _ h => List.mem_cons_of_mem _ (List.mem_append_right _ h)) tyX7 tyX7_ok nmX7 hown hK hw.1 hw.2.1 hw.2.2 0 rfl rfl 7 (by decide) (hts (.fieldLink RX7 166 "SpreadParityModel" "at" "I") (List.mem_of_getElem? (i := 1) rfl)) (fun _ h9 => h9) rfl (tyX7_ok 7 (by decide)) rfl rfl (Nat.le_of_ble_eq_true rfl) dX7_takes_22 (fun H locs hP hD hS => ?_)
    have hw : wS D A (wM cy b (mS σ) saved many bef (tI tx) len thr (at_ + 0) le f1 f2 dn hs ++ Z) s H locs := ⟨hP, hD, hS⟩
    refine lv_iload_n hx hb dX7_takes_25 rfl (lv_at hl 0 rfl) ?_
    have e_w : at_ + 0 = tkM tx len at_ ch := by rw [tkM, c_13]; rfl
    rw [e_w] at hw
    exact q_zretW hx hb hr hlocks hw dX7_takes_26 (rfl)
  · refine lv_iconst (v := nI 1) hx hb dX7_takes_16 rfl ?_
    refine lv_goto (tgt := 21) hx hb dX7_takes_17 (by decide) ?_
    refine q_addN hx hb dX7_takes_21 ?_
    refine va_put (D := D) (ci := 7) (v := .int (nI (at_ + 1))) (ty := .int) (C := RX7) (T := TX7) (N := 13) hx hb hts (fun _ h => List.mem_cons_of_mem _ (List.mem_append_right _ h)) tyX7 tyX7_ok nmX7 hown hK hw.1 hw.2.1 hw.2.2 0 rfl rfl 7 (by decide) (hts (.fieldLink RX7 166 "SpreadParityModel" "at" "I") (List.mem_of_getElem? (i := 1) rfl)) (fun _ h9 => h9) rfl (tyX7_ok 7 (by decide)) rfl rfl (Nat.le_of_ble_eq_true rfl) dX7_takes_22 (fun H locs hP hD hS => ?_)
    have hw : wS D A (wM cy b (mS σ) saved many bef (tI tx) len thr (at_ + 1) le f1 f2 dn hs ++ Z) s H locs := ⟨hP, hD, hS⟩
    refine lv_iload_n hx hb dX7_takes_25 rfl (lv_at hl 0 rfl) ?_
    have e_w : at_ + 1 = tkM tx len at_ ch := by rw [tkM, c_13]; rfl
    rw [e_w] at hw
    exact q_zretW hx hb hr hlocks hw dX7_takes_26 (rfl)
set_option maxHeartbeats 1000000 in
set_option maxRecDepth 100000 in
theorem c_X7_readNumber {l : Launch} (D : va_G) (cy : ClassId) (A : Nat → Prop) (b : Nat → Nat) (σ saved : Nat → Int32) (many : Nat) (bef T : Nat → Int32) (len thr at_ : Nat) (le f1 f2 : Int32) (dn : Nat) (hs : Int64) (Z : va_W) (tx : Nat → Nat) (top : Nat) (h_0 : top ≤ 65535) (h_1 : ∀ i, tx i ≤ 126) (h_2 : len ≤ 60) (h_3 : at_ ≤ 61) : Met l yX7_readNumber wsX7_readNumber (k2_rm 2 44) (gP D cy [.ref (b 0), .int (nI (top))] A (wM cy b (mS σ) saved many bef (tI tx) len thr at_ le f1 f2 dn hs ++ Z)) (gQ D A (some (.int (nO ((rn tx len at_ top).1)))) (wM cy b (mS σ) saved many bef (tI tx) len thr ((rn tx len at_ top).2) le f1 f2 dn hs ++ Z)) 0 0 A := by
  refine q_imp (cc := cX7_readNumber) (maxL := 3) (ret := (some .int)) pl_X7 rfl (Nat.le_of_ble_eq_true rfl) ?_
  intro p e s m below meth c ls hx hb hr hml hts hown hlocks hw hK hA hl
  have hP := hw.1
  have hl : lv_has ls 3 [(0, .ref (b 0)), (1, .int (nI (top)))] := hl
  refine lv_aload_n hx hb dX7_readNumber_0 rfl (lv_at hl 0 rfl) ?_
  refine lv_bipush (v := nI 48) hx hb dX7_readNumber_1 rfl ?_
  refine lv_bipush (v := nI 57) hx hb dX7_readNumber_3 rfl ?_
  refine q_cV (As := [.int (nI (48)), .int (nI (57))]) (rest := []) ⟨hx, hb, hml, hown, hts⟩ (c_X7_isNext D cy b σ saved many bef (tI tx) len thr at_ le f1 f2 dn hs Z (tx) (48) (57) (by omega) (by omega) h_1 h_2 h_3) (cwV 2 hts gX7_readNumber_X7_isNext rfl rfl rfl hd_X7_isNext ⟨Nat.le_of_ble_eq_true rfl, Nat.le_of_ble_eq_true rfl⟩) hK hP 0 rfl rfl rfl hl.1 rfl (Nat.le_of_ble_eq_true rfl) ⟨Nat.zero_le _, Nat.zero_le _⟩ dX7_readNumber_5 ?_
  refine q_ifneB (tgt := 13) hx hb dX7_readNumber_8 (by decide) (fun c_8 => ?_) (fun c_8 => ?_)
  · refine lv_aload_n hx hb dX7_readNumber_13 rfl (lv_at hl 0 rfl) ?_
    refine va_get (D := D) (ci := 7) (v := .ref (b 4)) (C := RX7) (T := TX7) (N := 13) hx hb hts (fun _ h => List.mem_cons_of_mem _ (List.mem_append_right _ h)) hown hK hP 0 rfl rfl 4 (by decide) (hts (.fieldLink RX7 19 "SpreadParityModel" "text" "[I") (List.mem_of_getElem? (i := 1) rfl)) (fun _ h9 => h9) rfl dX7_readNumber_14 ?_
    refine lv_aload_n hx hb dX7_readNumber_17 rfl (lv_at hl 0 rfl) ?_
    refine va_get (D := D) (ci := 7) (v := .int (nI (at_))) (C := RX7) (T := TX7) (N := 13) hx hb hts (fun _ h => List.mem_cons_of_mem _ (List.mem_append_right _ h)) hown hK hP 0 rfl rfl 7 (by decide) (hts (.fieldLink RX7 166 "SpreadParityModel" "at" "I") (List.mem_of_getElem? (i := 2) rfl)) (fun _ h9 => h9) rfl dX7_readNumber_18 ?_
    refine q_iald hx hb hK hP 4 rfl (by have h9 := nxt_lt c_8; omega) (by omega) dX7_readNumber_21 ?_
    refine q_top (show ((tI tx) (at_)) = nI (tx at_) from rfl) ?_
    refine lv_bipush (v := nI 48) hx hb dX7_readNumber_22 rfl ?_
    refine q_subN hx hb dX7_readNumber_24 (by have h9 := nxt_ge c_8; omega) ?_
    refine lv_istore_n (lv' := [(2, .int (nI ((tx at_) - 48))), (0, .ref (b 0)), (1, .int (nI (top)))]) hx hb dX7_readNumber_25 rfl hl (by decide) rfl (fun ls hl => ?_)
    have h_lt := nxt_lt c_8
    refine lv_aload_n hx hb dX7_readNumber_26 rfl (lv_at hl 1 rfl) ?_
    refine lv_dup hx hb dX7_readNumber_27 rfl ?_
    refine va_get (D := D) (ci := 7) (v := .int (nI (at_))) (C := RX7) (T := TX7) (N := 13) hx hb hts (fun _ h => List.mem_cons_of_mem _ (List.mem_append_right _ h)) hown hK hP 0 rfl rfl 7 (by decide) (hts (.fieldLink RX7 166 "SpreadParityModel" "at" "I") (List.mem_of_getElem? (i := 2) rfl)) (fun _ h9 => h9) rfl dX7_readNumber_28 ?_
    refine lv_iconst (v := nI 1) hx hb dX7_readNumber_31 rfl ?_
    refine q_addN hx hb dX7_readNumber_32 ?_
    refine va_put (D := D) (ci := 7) (v := .int (nI (at_ + 1))) (ty := .int) (C := RX7) (T := TX7) (N := 13) hx hb hts (fun _ h => List.mem_cons_of_mem _ (List.mem_append_right _ h)) tyX7 tyX7_ok nmX7 hown hK hw.1 hw.2.1 hw.2.2 0 rfl rfl 7 (by decide) (hts (.fieldLink RX7 166 "SpreadParityModel" "at" "I") (List.mem_of_getElem? (i := 2) rfl)) (fun _ h9 => h9) rfl (tyX7_ok 7 (by decide)) rfl rfl (Nat.le_of_ble_eq_true rfl) dX7_readNumber_33 (fun H locs hP hD hS => ?_)
    have hw : wS D A (wM cy b (mS σ) saved many bef (tI tx) len thr (at_ + 1) le f1 f2 dn hs ++ Z) s H locs := ⟨hP, hD, hS⟩
    have lp36 : ∀ (j_ i : Nat), i + j_ = len → ∀ (v : Nat), rnA tx len top (len - (at_ + 1)) (tx at_ - 48) (at_ + 1) = rnA tx len top j_ v i → v ≤ 65535 → ∀ (H : Heap) (locs : List Loc) (ls : Array Slot), wS D A (wM cy b (mS σ) saved many bef (tI tx) len thr i le f1 f2 dn hs ++ Z) s H locs → lv_has ls 3 [(0, .ref (b 0)), (1, .int (nI (top))), (2, .int (nI (v)))] → W p l e (k2_rm 2 44) s m ([.ref (b 0), .int (nI (top))] : List Value).toArray below meth c H locs 0 0 (MQ below (gQ D A (some (.int (nO ((rn tx len at_ top).1)))) (wM cy b (mS σ) saved many bef (tI tx) len thr ((rn tx len at_ top).2) le f1 f2 dn hs ++ Z)) ([.ref (b 0), .int (nI (top))] : List Value).toArray s 0 0 A) (F0 m 36 ls []) := by
      intro j_
      induction j_ with
      | zero =>
        intro i hn_i v hy0 hy1 H locs ls hw hl
        have hP := hw.1
        refine lv_iload_n hx hb dX7_readNumber_36 rfl (lv_at hl 2 rfl) ?_
        refine q_ifleN (tgt := 103) hx hb dX7_readNumber_37 (by decide) (by omega) (fun c_37 => ?_) (fun c_37 => ?_)
        · refine lv_iload_n hx hb dX7_readNumber_103 rfl (lv_at hl 2 rfl) ?_
          have e_w : rn tx len at_ top = (some v, i) := by rw [rn, c_8, if_pos rfl, hy0]; simp only [rnA]
          have hw : wS D A (wM cy b (mS σ) saved many bef (tI tx) len thr ((rn tx len at_ top).2) le f1 f2 dn hs ++ Z) s H locs := by rw [e_w]; exact hw
          exact q_iretW hx hb hr hlocks hw dX7_readNumber_104 (by rw [e_w]; rfl)
        · refine lv_aload_n hx hb dX7_readNumber_40 rfl (lv_at hl 0 rfl) ?_
          refine lv_bipush (v := nI 48) hx hb dX7_readNumber_41 rfl ?_
          refine lv_bipush (v := nI 57) hx hb dX7_readNumber_43 rfl ?_
          refine q_cV (As := [.int (nI (48)), .int (nI (57))]) (rest := []) ⟨hx, hb, hml, hown, hts⟩ (c_X7_isNext D cy b σ saved many bef (tI tx) len thr i le f1 f2 dn hs Z (tx) (48) (57) (by omega) (by omega) h_1 h_2 (by omega)) (cwV 2 hts gX7_readNumber_X7_isNext rfl rfl rfl hd_X7_isNext ⟨Nat.le_of_ble_eq_true rfl, Nat.le_of_ble_eq_true rfl⟩) hK hP 0 rfl rfl rfl hl.1 rfl (Nat.le_of_ble_eq_true rfl) ⟨Nat.zero_le _, Nat.zero_le _⟩ dX7_readNumber_45 ?_
          refine q_ifeqB (tgt := 103) hx hb dX7_readNumber_48 (by decide) (fun c_48 => ?_) (fun c_48 => by have h9 := nxt_lt c_48; omega)
          refine lv_iload_n hx hb dX7_readNumber_103 rfl (lv_at hl 2 rfl) ?_
          have e_w : rn tx len at_ top = (some v, i) := by rw [rn, c_8, if_pos rfl, hy0]; simp only [rnA]
          have hw : wS D A (wM cy b (mS σ) saved many bef (tI tx) len thr ((rn tx len at_ top).2) le f1 f2 dn hs ++ Z) s H locs := by rw [e_w]; exact hw
          exact q_iretW hx hb hr hlocks hw dX7_readNumber_104 (by rw [e_w]; rfl)
      | succ j_ ih_i =>
        intro i hn_i v hy0 hy1 H locs ls hw hl
        have hP := hw.1
        refine lv_iload_n hx hb dX7_readNumber_36 rfl (lv_at hl 2 rfl) ?_
        refine q_ifleN (tgt := 103) hx hb dX7_readNumber_37 (by decide) (by omega) (fun c_37 => ?_) (fun c_37 => ?_)
        · refine lv_iload_n hx hb dX7_readNumber_103 rfl (lv_at hl 2 rfl) ?_
          have e_w : rn tx len at_ top = (some v, i) := by rw [rn, c_8, if_pos rfl, hy0]; simp only [rnA]; rw [if_neg (fun h => by omega)]
          have hw : wS D A (wM cy b (mS σ) saved many bef (tI tx) len thr ((rn tx len at_ top).2) le f1 f2 dn hs ++ Z) s H locs := by rw [e_w]; exact hw
          exact q_iretW hx hb hr hlocks hw dX7_readNumber_104 (by rw [e_w]; rfl)
        · refine lv_aload_n hx hb dX7_readNumber_40 rfl (lv_at hl 0 rfl) ?_
          refine lv_bipush (v := nI 48) hx hb dX7_readNumber_41 rfl ?_
          refine lv_bipush (v := nI 57) hx hb dX7_readNumber_43 rfl ?_
          refine q_cV (As := [.int (nI (48)), .int (nI (57))]) (rest := []) ⟨hx, hb, hml, hown, hts⟩ (c_X7_isNext D cy b σ saved many bef (tI tx) len thr i le f1 f2 dn hs Z (tx) (48) (57) (by omega) (by omega) h_1 h_2 (by omega)) (cwV 2 hts gX7_readNumber_X7_isNext rfl rfl rfl hd_X7_isNext ⟨Nat.le_of_ble_eq_true rfl, Nat.le_of_ble_eq_true rfl⟩) hK hP 0 rfl rfl rfl hl.1 rfl (Nat.le_of_ble_eq_true rfl) ⟨Nat.zero_le _, Nat.zero_le _⟩ dX7_readNumber_45 ?_
          refine q_ifeqB (tgt := 103) hx hb dX7_readNumber_48 (by decide) (fun c_48 => ?_) (fun c_48 => ?_)
          · refine lv_iload_n hx hb dX7_readNumber_103 rfl (lv_at hl 2 rfl) ?_
            have e_w : rn tx len at_ top = (some v, i) := by rw [rn, c_8, if_pos rfl, hy0]; simp only [rnA]; rw [if_neg (fun h => by rw [c_48] at h; cases h.2.1)]
            have hw : wS D A (wM cy b (mS σ) saved many bef (tI tx) len thr ((rn tx len at_ top).2) le f1 f2 dn hs ++ Z) s H locs := by rw [e_w]; exact hw
            exact q_iretW hx hb hr hlocks hw dX7_readNumber_104 (by rw [e_w]; rfl)
          · refine lv_bipush (v := nI 10) hx hb dX7_readNumber_51 rfl ?_
            refine lv_iload_n hx hb dX7_readNumber_53 rfl (lv_at hl 2 rfl) ?_
            refine q_mulN hx hb dX7_readNumber_54 ?_
            refine lv_aload_n hx hb dX7_readNumber_55 rfl (lv_at hl 0 rfl) ?_
            refine va_get (D := D) (ci := 7) (v := .ref (b 4)) (C := RX7) (T := TX7) (N := 13) hx hb hts (fun _ h => List.mem_cons_of_mem _ (List.mem_append_right _ h)) hown hK hP 0 rfl rfl 4 (by decide) (hts (.fieldLink RX7 19 "SpreadParityModel" "text" "[I") (List.mem_of_getElem? (i := 1) rfl)) (fun _ h9 => h9) rfl dX7_readNumber_56 ?_
            refine lv_aload_n hx hb dX7_readNumber_59 rfl (lv_at hl 0 rfl) ?_
            refine va_get (D := D) (ci := 7) (v := .int (nI (i))) (C := RX7) (T := TX7) (N := 13) hx hb hts (fun _ h => List.mem_cons_of_mem _ (List.mem_append_right _ h)) hown hK hP 0 rfl rfl 7 (by decide) (hts (.fieldLink RX7 166 "SpreadParityModel" "at" "I") (List.mem_of_getElem? (i := 2) rfl)) (fun _ h9 => h9) rfl dX7_readNumber_60 ?_
            refine q_iald hx hb hK hP 4 rfl (by have h9 := nxt_lt c_48; omega) (by omega) dX7_readNumber_63 ?_
            refine q_top (show ((tI tx) (i)) = nI (tx i) from rfl) ?_
            refine q_addN hx hb dX7_readNumber_64 ?_
            refine lv_bipush (v := nI 48) hx hb dX7_readNumber_65 rfl ?_
            refine q_subN hx hb dX7_readNumber_67 (by have h9 := nxt_ge c_48; omega) ?_
            refine lv_iload_n hx hb dX7_readNumber_68 rfl (lv_at hl 1 rfl) ?_
            refine q_gtN (tgt := 103) hx hb dX7_readNumber_69 (by decide) (by have h9 := h_1 i; omega) (by omega) (fun c_69 => ?_) (fun c_69 => ?_)
            · refine lv_iload_n hx hb dX7_readNumber_103 rfl (lv_at hl 2 rfl) ?_
              have e_w : rn tx len at_ top = (some v, i) := by rw [rn, c_8, if_pos rfl, hy0]; simp only [rnA]; rw [if_neg (fun h => by omega)]
              have hw : wS D A (wM cy b (mS σ) saved many bef (tI tx) len thr ((rn tx len at_ top).2) le f1 f2 dn hs ++ Z) s H locs := by rw [e_w]; exact hw
              exact q_iretW hx hb hr hlocks hw dX7_readNumber_104 (by rw [e_w]; rfl)
            · refine lv_bipush (v := nI 10) hx hb dX7_readNumber_72 rfl ?_
              refine lv_iload_n hx hb dX7_readNumber_74 rfl (lv_at hl 2 rfl) ?_
              refine q_mulN hx hb dX7_readNumber_75 ?_
              refine lv_aload_n hx hb dX7_readNumber_76 rfl (lv_at hl 0 rfl) ?_
              refine va_get (D := D) (ci := 7) (v := .ref (b 4)) (C := RX7) (T := TX7) (N := 13) hx hb hts (fun _ h => List.mem_cons_of_mem _ (List.mem_append_right _ h)) hown hK hP 0 rfl rfl 4 (by decide) (hts (.fieldLink RX7 19 "SpreadParityModel" "text" "[I") (List.mem_of_getElem? (i := 1) rfl)) (fun _ h9 => h9) rfl dX7_readNumber_77 ?_
              refine lv_aload_n hx hb dX7_readNumber_80 rfl (lv_at hl 0 rfl) ?_
              refine va_get (D := D) (ci := 7) (v := .int (nI (i))) (C := RX7) (T := TX7) (N := 13) hx hb hts (fun _ h => List.mem_cons_of_mem _ (List.mem_append_right _ h)) hown hK hP 0 rfl rfl 7 (by decide) (hts (.fieldLink RX7 166 "SpreadParityModel" "at" "I") (List.mem_of_getElem? (i := 2) rfl)) (fun _ h9 => h9) rfl dX7_readNumber_81 ?_
              refine q_iald hx hb hK hP 4 rfl (by have h9 := nxt_lt c_48; omega) (by omega) dX7_readNumber_84 ?_
              refine q_top (show ((tI tx) (i)) = nI (tx i) from rfl) ?_
              refine q_addN hx hb dX7_readNumber_85 ?_
              refine lv_bipush (v := nI 48) hx hb dX7_readNumber_86 rfl ?_
              refine q_subN hx hb dX7_readNumber_88 (by have h9 := nxt_ge c_48; omega) ?_
              refine lv_istore_n (lv' := [(2, .int (nI (((10 * v) + (tx i)) - 48))), (0, .ref (b 0)), (1, .int (nI (top)))]) hx hb dX7_readNumber_89 rfl hl (by decide) rfl (fun ls hl => ?_)
              refine lv_aload_n hx hb dX7_readNumber_90 rfl (lv_at hl 1 rfl) ?_
              refine lv_dup hx hb dX7_readNumber_91 rfl ?_
              refine va_get (D := D) (ci := 7) (v := .int (nI (i))) (C := RX7) (T := TX7) (N := 13) hx hb hts (fun _ h => List.mem_cons_of_mem _ (List.mem_append_right _ h)) hown hK hP 0 rfl rfl 7 (by decide) (hts (.fieldLink RX7 166 "SpreadParityModel" "at" "I") (List.mem_of_getElem? (i := 2) rfl)) (fun _ h9 => h9) rfl dX7_readNumber_92 ?_
              refine lv_iconst (v := nI 1) hx hb dX7_readNumber_95 rfl ?_
              refine q_addN hx hb dX7_readNumber_96 ?_
              refine va_put (D := D) (ci := 7) (v := .int (nI (i + 1))) (ty := .int) (C := RX7) (T := TX7) (N := 13) hx hb hts (fun _ h => List.mem_cons_of_mem _ (List.mem_append_right _ h)) tyX7 tyX7_ok nmX7 hown hK hw.1 hw.2.1 hw.2.2 0 rfl rfl 7 (by decide) (hts (.fieldLink RX7 166 "SpreadParityModel" "at" "I") (List.mem_of_getElem? (i := 2) rfl)) (fun _ h9 => h9) rfl (tyX7_ok 7 (by decide)) rfl rfl (Nat.le_of_ble_eq_true rfl) dX7_readNumber_97 (fun H locs hP hD hS => ?_)
              have hw : wS D A (wM cy b (mS σ) saved many bef (tI tx) len thr (i + 1) le f1 f2 dn hs ++ Z) s H locs := ⟨hP, hD, hS⟩
              refine lv_goto (tgt := 36) hx hb dX7_readNumber_100 (by decide) ?_
              exact ih_i (i + 1) (by omega) (10 * v + tx i - 48) (by rw [hy0]; simp only [rnA]; rw [if_pos ⟨c_37, c_48, by omega⟩]) (by omega) _ _ _ hw (lv_sub hl [1, 2, 0] rfl)
    exact lp36 (len - (at_ + 1)) (at_ + 1) (by omega) (tx at_ - 48) (rfl) (by have := h_1 at_; omega) _ _ _ hw (lv_sub hl [1, 2, 0] rfl)
  · refine lv_iconst (v := -1) hx hb dX7_readNumber_11 rfl ?_
    have e_w : rn tx len at_ top = (none, at_) := by rw [rn, c_8]; rfl
    have hw : wS D A (wM cy b (mS σ) saved many bef (tI tx) len thr ((rn tx len at_ top).2) le f1 f2 dn hs ++ Z) s s.heap [] := by rw [e_w]; exact hw
    exact q_iretW hx hb hr hlocks hw dX7_readNumber_12 (by rw [e_w]; rfl)
set_option maxHeartbeats 1000000 in
set_option maxRecDepth 100000 in
theorem c_X7_readDigit {l : Launch} (D : va_G) (cy : ClassId) (A : Nat → Prop) (b : Nat → Nat) (σ saved : Nat → Int32) (many : Nat) (bef T : Nat → Int32) (len thr at_ : Nat) (le f1 f2 : Int32) (dn : Nat) (hs : Int64) (Z : va_W) (tx : Nat → Nat) (lo : Nat) (hi : Nat) (h_0 : lo < 10) (h_1 : hi < 10) (h_2 : ∀ i, tx i ≤ 126) (h_3 : len ≤ 60) (h_4 : at_ ≤ 61) : Met l yX7_readDigit wsX7_readDigit (k2_rm 2 44) (gP D cy [.ref (b 0), .int (nI (lo)), .int (nI (hi))] A (wM cy b (mS σ) saved many bef (tI tx) len thr at_ le f1 f2 dn hs ++ Z)) (gQ D A (some (.int (nO ((rdg tx len at_ lo hi).1)))) (wM cy b (mS σ) saved many bef (tI tx) len thr ((rdg tx len at_ lo hi).2) le f1 f2 dn hs ++ Z)) 0 0 A := by
  refine q_imp (cc := cX7_readDigit) (maxL := 4) (ret := (some .int)) pl_X7 rfl (Nat.le_of_ble_eq_true rfl) ?_
  intro p e s m below meth c ls hx hb hr hml hts hown hlocks hw hK hA hl
  have hP := hw.1
  have hl : lv_has ls 4 [(0, .ref (b 0)), (1, .int (nI (lo))), (2, .int (nI (hi)))] := hl
  refine lv_aload_n hx hb dX7_readDigit_0 rfl (lv_at hl 0 rfl) ?_
  refine lv_bipush (v := nI 48) hx hb dX7_readDigit_1 rfl ?_
  refine lv_iload_n hx hb dX7_readDigit_3 rfl (lv_at hl 1 rfl) ?_
  refine q_addN hx hb dX7_readDigit_4 ?_
  refine lv_bipush (v := nI 48) hx hb dX7_readDigit_5 rfl ?_
  refine lv_iload_n hx hb dX7_readDigit_7 rfl (lv_at hl 2 rfl) ?_
  refine q_addN hx hb dX7_readDigit_8 ?_
  refine q_cV (As := [.int (nI (48 + lo)), .int (nI (48 + hi))]) (rest := []) ⟨hx, hb, hml, hown, hts⟩ (c_X7_isNext D cy b σ saved many bef (tI tx) len thr at_ le f1 f2 dn hs Z (tx) (48 + lo) (48 + hi) (by omega) (by omega) h_2 h_3 h_4) (cwV 2 hts gX7_readDigit_X7_isNext rfl rfl rfl hd_X7_isNext ⟨Nat.le_of_ble_eq_true rfl, Nat.le_of_ble_eq_true rfl⟩) hK hP 0 rfl rfl rfl hl.1 rfl (Nat.le_of_ble_eq_true rfl) ⟨Nat.zero_le _, Nat.zero_le _⟩ dX7_readDigit_9 ?_
  refine q_ifeqB (tgt := 30) hx hb dX7_readDigit_12 (by decide) (fun c_12 => ?_) (fun c_12 => ?_)
  · refine lv_iconst (v := -1) hx hb dX7_readDigit_30 rfl ?_
    refine lv_istore_n (lv' := [(3, .int (-1)), (0, .ref (b 0)), (1, .int (nI (lo))), (2, .int (nI (hi)))]) hx hb dX7_readDigit_31 rfl hl (by decide) rfl (fun ls hl => ?_)
    refine lv_aload_n hx hb dX7_readDigit_32 rfl (lv_at hl 1 rfl) ?_
    refine lv_dup hx hb dX7_readDigit_33 rfl ?_
    refine va_get (D := D) (ci := 7) (v := .int (nI (at_))) (C := RX7) (T := TX7) (N := 13) hx hb hts (fun _ h => List.mem_cons_of_mem _ (List.mem_append_right _ h)) hown hK hP 0 rfl rfl 7 (by decide) (hts (.fieldLink RX7 166 "SpreadParityModel" "at" "I") (List.mem_of_getElem? (i := 2) rfl)) (fun _ h9 => h9) rfl dX7_readDigit_34 ?_
    refine lv_iload_n hx hb dX7_readDigit_37 rfl (lv_at hl 0 rfl) ?_
    refine lv_iconst (v := -1) hx hb dX7_readDigit_38 rfl ?_
    refine lv_icmp_ne (tgt := 46) hx hb dX7_readDigit_39 (by decide) (fun (c_39 : ¬ (-1) = (-1)) => absurd rfl c_39) (fun (c_39 : (-1) = (-1)) => ?_)
    refine lv_iconst (v := nI 0) hx hb dX7_readDigit_42 rfl ?_
    refine lv_goto (tgt := 47) hx hb dX7_readDigit_43 (by decide) ?_
    refine q_addN hx hb dX7_readDigit_47 ?_
    refine va_put (D := D) (ci := 7) (v := .int (nI (at_ + 0))) (ty := .int) (C := RX7) (T := TX7) (N := 13) hx hb hts (fun _ h => List.mem_cons_of_mem _ (List.mem_append_right _ h)) tyX7 tyX7_ok nmX7 hown hK hw.1 hw.2.1 hw.2.2 0 rfl rfl 7 (by decide) (hts (.fieldLink RX7 166 "SpreadParityModel" "at" "I") (List.mem_of_getElem? (i := 2) rfl)) (fun _ h9 => h9) rfl (tyX7_ok 7 (by decide)) rfl rfl (Nat.le_of_ble_eq_true rfl) dX7_readDigit_48 (fun H locs hP hD hS => ?_)
    have hw : wS D A (wM cy b (mS σ) saved many bef (tI tx) len thr (at_ + 0) le f1 f2 dn hs ++ Z) s H locs := ⟨hP, hD, hS⟩
    refine lv_iload_n hx hb dX7_readDigit_51 rfl (lv_at hl 0 rfl) ?_
    have e_w : rdg tx len at_ lo hi = (none, at_) := by rw [rdg, c_12]; rfl
    have hw : wS D A (wM cy b (mS σ) saved many bef (tI tx) len thr ((rdg tx len at_ lo hi).2) le f1 f2 dn hs ++ Z) s H locs := by rw [e_w]; exact hw
    exact q_iretW hx hb hr hlocks hw dX7_readDigit_52 (by rw [e_w]; rfl)
  · refine lv_aload_n hx hb dX7_readDigit_15 rfl (lv_at hl 0 rfl) ?_
    refine va_get (D := D) (ci := 7) (v := .ref (b 4)) (C := RX7) (T := TX7) (N := 13) hx hb hts (fun _ h => List.mem_cons_of_mem _ (List.mem_append_right _ h)) hown hK hP 0 rfl rfl 4 (by decide) (hts (.fieldLink RX7 19 "SpreadParityModel" "text" "[I") (List.mem_of_getElem? (i := 1) rfl)) (fun _ h9 => h9) rfl dX7_readDigit_16 ?_
    refine lv_aload_n hx hb dX7_readDigit_19 rfl (lv_at hl 0 rfl) ?_
    refine va_get (D := D) (ci := 7) (v := .int (nI (at_))) (C := RX7) (T := TX7) (N := 13) hx hb hts (fun _ h => List.mem_cons_of_mem _ (List.mem_append_right _ h)) hown hK hP 0 rfl rfl 7 (by decide) (hts (.fieldLink RX7 166 "SpreadParityModel" "at" "I") (List.mem_of_getElem? (i := 2) rfl)) (fun _ h9 => h9) rfl dX7_readDigit_20 ?_
    refine q_iald hx hb hK hP 4 rfl (by have h9 := nxt_lt c_12; omega) (by omega) dX7_readDigit_23 ?_
    refine q_top (show ((tI tx) (at_)) = nI (tx at_) from rfl) ?_
    refine lv_bipush (v := nI 48) hx hb dX7_readDigit_24 rfl ?_
    refine q_subN hx hb dX7_readDigit_26 (by have h9 := nxt_ge c_12; omega) ?_
    refine lv_goto (tgt := 31) hx hb dX7_readDigit_27 (by decide) ?_
    refine lv_istore_n (lv' := [(3, .int (nI ((tx at_) - 48))), (0, .ref (b 0)), (1, .int (nI (lo))), (2, .int (nI (hi)))]) hx hb dX7_readDigit_31 rfl hl (by decide) rfl (fun ls hl => ?_)
    refine lv_aload_n hx hb dX7_readDigit_32 rfl (lv_at hl 1 rfl) ?_
    refine lv_dup hx hb dX7_readDigit_33 rfl ?_
    refine va_get (D := D) (ci := 7) (v := .int (nI (at_))) (C := RX7) (T := TX7) (N := 13) hx hb hts (fun _ h => List.mem_cons_of_mem _ (List.mem_append_right _ h)) hown hK hP 0 rfl rfl 7 (by decide) (hts (.fieldLink RX7 166 "SpreadParityModel" "at" "I") (List.mem_of_getElem? (i := 2) rfl)) (fun _ h9 => h9) rfl dX7_readDigit_34 ?_
    refine lv_iload_n hx hb dX7_readDigit_37 rfl (lv_at hl 0 rfl) ?_
    refine lv_iconst (v := -1) hx hb dX7_readDigit_38 rfl ?_
    refine lv_icmp_ne (tgt := 46) hx hb dX7_readDigit_39 (by decide) (fun (c_39 : ¬ (nI ((tx at_) - 48)) = (-1)) => ?_) (fun (c_39 : (nI ((tx at_) - 48)) = (-1)) => absurd c_39 (nI_ne_m1 (by have h9 := h_2 at_; omega)))
    refine lv_iconst (v := nI 1) hx hb dX7_readDigit_46 rfl ?_
    refine q_addN hx hb dX7_readDigit_47 ?_
    refine va_put (D := D) (ci := 7) (v := .int (nI (at_ + 1))) (ty := .int) (C := RX7) (T := TX7) (N := 13) hx hb hts (fun _ h => List.mem_cons_of_mem _ (List.mem_append_right _ h)) tyX7 tyX7_ok nmX7 hown hK hw.1 hw.2.1 hw.2.2 0 rfl rfl 7 (by decide) (hts (.fieldLink RX7 166 "SpreadParityModel" "at" "I") (List.mem_of_getElem? (i := 2) rfl)) (fun _ h9 => h9) rfl (tyX7_ok 7 (by decide)) rfl rfl (Nat.le_of_ble_eq_true rfl) dX7_readDigit_48 (fun H locs hP hD hS => ?_)
    have hw : wS D A (wM cy b (mS σ) saved many bef (tI tx) len thr (at_ + 1) le f1 f2 dn hs ++ Z) s H locs := ⟨hP, hD, hS⟩
    refine lv_iload_n hx hb dX7_readDigit_51 rfl (lv_at hl 0 rfl) ?_
    have e_w : rdg tx len at_ lo hi = (some (tx at_ - 48), at_ + 1) := by rw [rdg, c_12]; rfl
    have hw : wS D A (wM cy b (mS σ) saved many bef (tI tx) len thr ((rdg tx len at_ lo hi).2) le f1 f2 dn hs ++ Z) s H locs := by rw [e_w]; exact hw
    exact q_iretW hx hb hr hlocks hw dX7_readDigit_52 (by rw [e_w]; rfl)
set_option maxHeartbeats 1000000 in
set_option maxRecDepth 100000 in
theorem c_X7_readOrder {l : Launch} (D : va_G) (cy : ClassId) (A : Nat → Prop) (b : Nat → Nat) (σ saved : Nat → Int32) (many : Nat) (bef T : Nat → Int32) (len thr at_ : Nat) (le f1 f2 : Int32) (dn : Nat) (hs : Int64) (Z : va_W) (tx : Nat → Nat) (lc : Nat) (o1 o2 : Option Nat) (h_0 : ∀ i, tx i ≤ 126) (h_1 : len ≤ 60) (h_2 : at_ ≤ 60) : Met l yX7_readOrder wsX7_readOrder (k2_rm 3 67) (gP D cy [.ref (b 0)] A (wM cy b (mS σ) saved many bef (tI tx) len thr at_ (nI (lc)) (nO (o1)) (nO (o2)) dn hs ++ Z)) (gQ D A (some (.int (bI ((po tx len at_ o1 o2).1)))) (wM cy b (mS σ) saved many bef (tI tx) len thr ((po tx len at_ o1 o2).2.1) (nI ((po tx len at_ o1 o2).2.2.1)) (nO ((po tx len at_ o1 o2).2.2.2.1)) (nO ((po tx len at_ o1 o2).2.2.2.2)) dn hs ++ Z)) 0 0 A := by
  refine q_imp (cc := cX7_readOrder) (maxL := 1) (ret := (some .boolean)) pl_X7 rfl (Nat.le_of_ble_eq_true rfl) ?_
  intro p e s m below meth c ls hx hb hr hml hts hown hlocks hw hK hA hl
  have hP := hw.1
  have hl : lv_has ls 1 [(0, .ref (b 0))] := hl
  refine lv_aload_n hx hb dX7_readOrder_0 rfl (lv_at hl 0 rfl) ?_
  refine lv_aload_n hx hb dX7_readOrder_1 rfl (lv_at hl 0 rfl) ?_
  have jn25 : ∀ (H : Heap) (locs : List Loc) (ls : Array Slot), wS D A (wM cy b (mS σ) saved many bef (tI tx) len thr at_ (nI (lc)) (nO (o1)) (nO (o2)) dn hs ++ Z) s H locs → lv_has ls 1 [(0, .ref (b 0))] → W p l e (k2_rm 3 67) s m ([.ref (b 0)] : List Value).toArray below meth c H locs 0 0 (MQ below (gQ D A (some (.int (bI ((po tx len at_ o1 o2).1)))) (wM cy b (mS σ) saved many bef (tI tx) len thr ((po tx len at_ o1 o2).2.1) (nI ((po tx len at_ o1 o2).2.2.1)) (nO ((po tx len at_ o1 o2).2.2.2.1)) (nO ((po tx len at_ o1 o2).2.2.2.2)) dn hs ++ Z)) ([.ref (b 0)] : List Value).toArray s 0 0 A) (F0 m 25 ls [.int (nI (ltr tx len at_)), .ref (b 0)]) := by
    intro H locs ls hw hl
    have hP := hw.1
    refine va_put (D := D) (ci := 7) (v := .int (nI (ltr tx len at_))) (ty := .int) (C := RX7) (T := TX7) (N := 13) hx hb hts (fun _ h => List.mem_cons_of_mem _ (List.mem_append_right _ h)) tyX7 tyX7_ok nmX7 hown hK hw.1 hw.2.1 hw.2.2 0 rfl rfl 8 (by decide) (hts (.fieldLink RX7 172 "SpreadParityModel" "letter" "I") (List.mem_of_getElem? (i := 4) rfl)) (fun _ h9 => h9) rfl (tyX7_ok 8 (by decide)) rfl rfl (Nat.le_of_ble_eq_true rfl) dX7_readOrder_25 (fun H locs hP hD hS => ?_)
    have hw : wS D A (wM cy b (mS σ) saved many bef (tI tx) len thr at_ (nI (ltr tx len at_)) (nO (o1)) (nO (o2)) dn hs ++ Z) s H locs := ⟨hP, hD, hS⟩
    refine lv_aload_n hx hb dX7_readOrder_28 rfl (lv_at hl 0 rfl) ?_
    refine lv_dup hx hb dX7_readOrder_29 rfl ?_
    refine va_get (D := D) (ci := 7) (v := .int (nI (at_))) (C := RX7) (T := TX7) (N := 13) hx hb hts (fun _ h => List.mem_cons_of_mem _ (List.mem_append_right _ h)) hown hK hP 0 rfl rfl 7 (by decide) (hts (.fieldLink RX7 166 "SpreadParityModel" "at" "I") (List.mem_of_getElem? (i := 1) rfl)) (fun _ h9 => h9) rfl dX7_readOrder_30 ?_
    refine lv_iconst (v := nI 1) hx hb dX7_readOrder_33 rfl ?_
    refine q_addN hx hb dX7_readOrder_34 ?_
    refine va_put (D := D) (ci := 7) (v := .int (nI (at_ + 1))) (ty := .int) (C := RX7) (T := TX7) (N := 13) hx hb hts (fun _ h => List.mem_cons_of_mem _ (List.mem_append_right _ h)) tyX7 tyX7_ok nmX7 hown hK hw.1 hw.2.1 hw.2.2 0 rfl rfl 7 (by decide) (hts (.fieldLink RX7 166 "SpreadParityModel" "at" "I") (List.mem_of_getElem? (i := 1) rfl)) (fun _ h9 => h9) rfl (tyX7_ok 7 (by decide)) rfl rfl (Nat.le_of_ble_eq_true rfl) dX7_readOrder_35 (fun H locs hP hD hS => ?_)
    have hw : wS D A (wM cy b (mS σ) saved many bef (tI tx) len thr (at_ + 1) (nI (ltr tx len at_)) (nO (o1)) (nO (o2)) dn hs ++ Z) s H locs := ⟨hP, hD, hS⟩
    refine lv_aload_n hx hb dX7_readOrder_38 rfl (lv_at hl 0 rfl) ?_
    refine va_get (D := D) (ci := 7) (v := .int (nI (ltr tx len at_))) (C := RX7) (T := TX7) (N := 13) hx hb hts (fun _ h => List.mem_cons_of_mem _ (List.mem_append_right _ h)) hown hK hP 0 rfl rfl 8 (by decide) (hts (.fieldLink RX7 172 "SpreadParityModel" "letter" "I") (List.mem_of_getElem? (i := 4) rfl)) (fun _ h9 => h9) rfl dX7_readOrder_39 ?_
    rcases (show ltr tx len at_ = 99 ∨ ltr tx len at_ = 102 ∨ ltr tx len at_ = 109 ∨ ltr tx len at_ = 115 ∨ ltr tx len at_ = 119 ∨ (¬ ltr tx len at_ = 99 ∧ ¬ ltr tx len at_ = 102 ∧ ¬ ltr tx len at_ = 109 ∧ ¬ ltr tx len at_ = 115 ∧ ¬ ltr tx len at_ = 119) by (have h9 := ltr_le tx len at_ h_0; omega)) with k_42 | k_42 | k_42 | k_42 | k_42 | k_42
    · refine q_look (tgt := 195) (off := 153) hx hb dX7_readOrder_42 (by decide) (by rw [k_42]; decide) (by have h9 := ltr_le tx len at_ h_0; omega) (by decide) ?_
      refine lv_iconst (v := nI 1) hx hb dX7_readOrder_195 rfl ?_
      have e_w : po tx len at_ o1 o2 = (true, at_ + 1, ltr tx len at_, o1, o2) := by
        simp [po, k_42]
      have hw : wS D A (wM cy b (mS σ) saved many bef (tI tx) len thr ((po tx len at_ o1 o2).2.1) (nI ((po tx len at_ o1 o2).2.2.1)) (nO ((po tx len at_ o1 o2).2.2.2.1)) (nO ((po tx len at_ o1 o2).2.2.2.2)) dn hs ++ Z) s H locs := by rw [e_w]; exact hw
      exact q_zretW hx hb hr hlocks hw dX7_readOrder_196 (by rw [e_w]; rfl)
    · refine q_look (tgt := 145) (off := 103) hx hb dX7_readOrder_42 (by decide) (by rw [k_42]; decide) (by have h9 := ltr_le tx len at_ h_0; omega) (by decide) ?_
      refine lv_aload_n hx hb dX7_readOrder_145 rfl (lv_at hl 0 rfl) ?_
      refine lv_aload_n hx hb dX7_readOrder_146 rfl (lv_at hl 0 rfl) ?_
      refine lv_iconst (v := nI 0) hx hb dX7_readOrder_147 rfl ?_
      refine lv_bipush (v := nI 6) hx hb dX7_readOrder_148 rfl ?_
      refine q_wV0 (As := [.int (nI (0)), .int (nI (6))]) (rest := [.ref (b 0)]) (st1 := [.int (nO ((rdg tx len (at_ + 1) 0 6).1)), .ref (b 0)]) ⟨hx, hb, hml, hown, hts⟩ (c_X7_readDigit D cy A b σ saved many bef (tI tx) len thr (at_ + 1) (nI (ltr tx len at_)) (nO (o1)) (nO (o2)) dn hs Z (tx) (0) (6) (by omega) (by omega) h_0 h_1 (by omega)) (cwV 2 hts gX7_readOrder_X7_readDigit rfl rfl rfl hd_X7_readDigit ⟨Nat.le_of_ble_eq_true rfl, Nat.le_of_ble_eq_true rfl⟩) hK hA hw 0 rfl rfl rfl hl.1 rfl rfl (Nat.le_of_ble_eq_true rfl) ⟨Nat.zero_le _, Nat.zero_le _⟩ dX7_readOrder_150 (fun H locs hw => ?_)
      have hw : wS D A (wM cy b (mS σ) saved many bef (tI tx) len thr ((rdg tx len (at_ + 1) 0 6).2) (nI (ltr tx len at_)) (nO (o1)) (nO (o2)) dn hs ++ Z) s H locs := hw
      have hP := hw.1
      refine va_put (D := D) (ci := 7) (v := .int (nO ((rdg tx len (at_ + 1) 0 6).1))) (ty := .int) (C := RX7) (T := TX7) (N := 13) hx hb hts (fun _ h => List.mem_cons_of_mem _ (List.mem_append_right _ h)) tyX7 tyX7_ok nmX7 hown hK hw.1 hw.2.1 hw.2.2 0 rfl rfl 9 (by decide) (hts (.fieldLink RX7 178 "SpreadParityModel" "first" "I") (List.mem_of_getElem? (i := 5) rfl)) (fun _ h9 => h9) rfl (tyX7_ok 9 (by decide)) rfl rfl (Nat.le_of_ble_eq_true rfl) dX7_readOrder_153 (fun H locs hP hD hS => ?_)
      have hw : wS D A (wM cy b (mS σ) saved many bef (tI tx) len thr ((rdg tx len (at_ + 1) 0 6).2) (nI (ltr tx len at_)) (nO ((rdg tx len (at_ + 1) 0 6).1)) (nO (o2)) dn hs ++ Z) s H locs := ⟨hP, hD, hS⟩
      refine lv_aload_n hx hb dX7_readOrder_156 rfl (lv_at hl 0 rfl) ?_
      refine va_get (D := D) (ci := 7) (v := .int (nO ((rdg tx len (at_ + 1) 0 6).1))) (C := RX7) (T := TX7) (N := 13) hx hb hts (fun _ h => List.mem_cons_of_mem _ (List.mem_append_right _ h)) hown hK hP 0 rfl rfl 9 (by decide) (hts (.fieldLink RX7 178 "SpreadParityModel" "first" "I") (List.mem_of_getElem? (i := 5) rfl)) (fun _ h9 => h9) rfl dX7_readOrder_157 ?_
      refine lv_iconst (v := -1) hx hb dX7_readOrder_160 rfl ?_
      refine lv_icmp_eq (tgt := 168) hx hb dX7_readOrder_161 (by decide) (fun (c_161 : (nO ((rdg tx len (at_ + 1) 0 6).1)) = (-1)) => ?_) (fun (c_161 : ¬ (nO ((rdg tx len (at_ + 1) 0 6).1)) = (-1)) => ?_)
      · refine lv_iconst (v := nI 0) hx hb dX7_readOrder_168 rfl ?_
        have e_w : po tx len at_ o1 o2 = (false, (rdg tx len (at_ + 1) 0 6).2, ltr tx len at_, (rdg tx len (at_ + 1) 0 6).1, o2) := by
          have h9 : (rdg tx len (at_ + 1) 0 6).1.isSome = false := by rw [nO_m1 (rdg_B h_0) c_161]; rfl
          simp [po, k_42, h9]
        have hw : wS D A (wM cy b (mS σ) saved many bef (tI tx) len thr ((po tx len at_ o1 o2).2.1) (nI ((po tx len at_ o1 o2).2.2.1)) (nO ((po tx len at_ o1 o2).2.2.2.1)) (nO ((po tx len at_ o1 o2).2.2.2.2)) dn hs ++ Z) s H locs := by rw [e_w]; exact hw
        exact q_zretW hx hb hr hlocks hw dX7_readOrder_169 (by rw [e_w]; rfl)
      · refine lv_iconst (v := nI 1) hx hb dX7_readOrder_164 rfl ?_
        refine lv_goto (tgt := 169) hx hb dX7_readOrder_165 (by decide) ?_
        have e_w : po tx len at_ o1 o2 = (true, (rdg tx len (at_ + 1) 0 6).2, ltr tx len at_, (rdg tx len (at_ + 1) 0 6).1, o2) := by
          have h9 := nO_s (rdg_B h_0) c_161; simp [po, k_42, h9]
        have hw : wS D A (wM cy b (mS σ) saved many bef (tI tx) len thr ((po tx len at_ o1 o2).2.1) (nI ((po tx len at_ o1 o2).2.2.1)) (nO ((po tx len at_ o1 o2).2.2.2.1)) (nO ((po tx len at_ o1 o2).2.2.2.2)) dn hs ++ Z) s H locs := by rw [e_w]; exact hw
        exact q_zretW hx hb hr hlocks hw dX7_readOrder_169 (by rw [e_w]; rfl)
    · refine q_look (tgt := 145) (off := 103) hx hb dX7_readOrder_42 (by decide) (by rw [k_42]; decide) (by have h9 := ltr_le tx len at_ h_0; omega) (by decide) ?_
      refine lv_aload_n hx hb dX7_readOrder_145 rfl (lv_at hl 0 rfl) ?_
      refine lv_aload_n hx hb dX7_readOrder_146 rfl (lv_at hl 0 rfl) ?_
      refine lv_iconst (v := nI 0) hx hb dX7_readOrder_147 rfl ?_
      refine lv_bipush (v := nI 6) hx hb dX7_readOrder_148 rfl ?_
      refine q_wV0 (As := [.int (nI (0)), .int (nI (6))]) (rest := [.ref (b 0)]) (st1 := [.int (nO ((rdg tx len (at_ + 1) 0 6).1)), .ref (b 0)]) ⟨hx, hb, hml, hown, hts⟩ (c_X7_readDigit D cy A b σ saved many bef (tI tx) len thr (at_ + 1) (nI (ltr tx len at_)) (nO (o1)) (nO (o2)) dn hs Z (tx) (0) (6) (by omega) (by omega) h_0 h_1 (by omega)) (cwV 2 hts gX7_readOrder_X7_readDigit rfl rfl rfl hd_X7_readDigit ⟨Nat.le_of_ble_eq_true rfl, Nat.le_of_ble_eq_true rfl⟩) hK hA hw 0 rfl rfl rfl hl.1 rfl rfl (Nat.le_of_ble_eq_true rfl) ⟨Nat.zero_le _, Nat.zero_le _⟩ dX7_readOrder_150 (fun H locs hw => ?_)
      have hw : wS D A (wM cy b (mS σ) saved many bef (tI tx) len thr ((rdg tx len (at_ + 1) 0 6).2) (nI (ltr tx len at_)) (nO (o1)) (nO (o2)) dn hs ++ Z) s H locs := hw
      have hP := hw.1
      refine va_put (D := D) (ci := 7) (v := .int (nO ((rdg tx len (at_ + 1) 0 6).1))) (ty := .int) (C := RX7) (T := TX7) (N := 13) hx hb hts (fun _ h => List.mem_cons_of_mem _ (List.mem_append_right _ h)) tyX7 tyX7_ok nmX7 hown hK hw.1 hw.2.1 hw.2.2 0 rfl rfl 9 (by decide) (hts (.fieldLink RX7 178 "SpreadParityModel" "first" "I") (List.mem_of_getElem? (i := 5) rfl)) (fun _ h9 => h9) rfl (tyX7_ok 9 (by decide)) rfl rfl (Nat.le_of_ble_eq_true rfl) dX7_readOrder_153 (fun H locs hP hD hS => ?_)
      have hw : wS D A (wM cy b (mS σ) saved many bef (tI tx) len thr ((rdg tx len (at_ + 1) 0 6).2) (nI (ltr tx len at_)) (nO ((rdg tx len (at_ + 1) 0 6).1)) (nO (o2)) dn hs ++ Z) s H locs := ⟨hP, hD, hS⟩
      refine lv_aload_n hx hb dX7_readOrder_156 rfl (lv_at hl 0 rfl) ?_
      refine va_get (D := D) (ci := 7) (v := .int (nO ((rdg tx len (at_ + 1) 0 6).1))) (C := RX7) (T := TX7) (N := 13) hx hb hts (fun _ h => List.mem_cons_of_mem _ (List.mem_append_right _ h)) hown hK hP 0 rfl rfl 9 (by decide) (hts (.fieldLink RX7 178 "SpreadParityModel" "first" "I") (List.mem_of_getElem? (i := 5) rfl)) (fun _ h9 => h9) rfl dX7_readOrder_157 ?_
      refine lv_iconst (v := -1) hx hb dX7_readOrder_160 rfl ?_
      refine lv_icmp_eq (tgt := 168) hx hb dX7_readOrder_161 (by decide) (fun (c_161 : (nO ((rdg tx len (at_ + 1) 0 6).1)) = (-1)) => ?_) (fun (c_161 : ¬ (nO ((rdg tx len (at_ + 1) 0 6).1)) = (-1)) => ?_)
      · refine lv_iconst (v := nI 0) hx hb dX7_readOrder_168 rfl ?_
        have e_w : po tx len at_ o1 o2 = (false, (rdg tx len (at_ + 1) 0 6).2, ltr tx len at_, (rdg tx len (at_ + 1) 0 6).1, o2) := by
          have h9 : (rdg tx len (at_ + 1) 0 6).1.isSome = false := by rw [nO_m1 (rdg_B h_0) c_161]; rfl
          simp [po, k_42, h9]
        have hw : wS D A (wM cy b (mS σ) saved many bef (tI tx) len thr ((po tx len at_ o1 o2).2.1) (nI ((po tx len at_ o1 o2).2.2.1)) (nO ((po tx len at_ o1 o2).2.2.2.1)) (nO ((po tx len at_ o1 o2).2.2.2.2)) dn hs ++ Z) s H locs := by rw [e_w]; exact hw
        exact q_zretW hx hb hr hlocks hw dX7_readOrder_169 (by rw [e_w]; rfl)
      · refine lv_iconst (v := nI 1) hx hb dX7_readOrder_164 rfl ?_
        refine lv_goto (tgt := 169) hx hb dX7_readOrder_165 (by decide) ?_
        have e_w : po tx len at_ o1 o2 = (true, (rdg tx len (at_ + 1) 0 6).2, ltr tx len at_, (rdg tx len (at_ + 1) 0 6).1, o2) := by
          have h9 := nO_s (rdg_B h_0) c_161; simp [po, k_42, h9]
        have hw : wS D A (wM cy b (mS σ) saved many bef (tI tx) len thr ((po tx len at_ o1 o2).2.1) (nI ((po tx len at_ o1 o2).2.2.1)) (nO ((po tx len at_ o1 o2).2.2.2.1)) (nO ((po tx len at_ o1 o2).2.2.2.2)) dn hs ++ Z) s H locs := by rw [e_w]; exact hw
        exact q_zretW hx hb hr hlocks hw dX7_readOrder_169 (by rw [e_w]; rfl)
    · refine q_look (tgt := 170) (off := 128) hx hb dX7_readOrder_42 (by decide) (by rw [k_42]; decide) (by have h9 := ltr_le tx len at_ h_0; omega) (by decide) ?_
      refine lv_aload_n hx hb dX7_readOrder_170 rfl (lv_at hl 0 rfl) ?_
      refine lv_aload_n hx hb dX7_readOrder_171 rfl (lv_at hl 0 rfl) ?_
      refine lv_iconst (v := nI 1) hx hb dX7_readOrder_172 rfl ?_
      refine lv_bipush (v := nI 9) hx hb dX7_readOrder_173 rfl ?_
      refine q_wV0 (As := [.int (nI (1)), .int (nI (9))]) (rest := [.ref (b 0)]) (st1 := [.int (nO ((rdg tx len (at_ + 1) 1 9).1)), .ref (b 0)]) ⟨hx, hb, hml, hown, hts⟩ (c_X7_readDigit D cy A b σ saved many bef (tI tx) len thr (at_ + 1) (nI (ltr tx len at_)) (nO (o1)) (nO (o2)) dn hs Z (tx) (1) (9) (by omega) (by omega) h_0 h_1 (by omega)) (cwV 2 hts gX7_readOrder_X7_readDigit rfl rfl rfl hd_X7_readDigit ⟨Nat.le_of_ble_eq_true rfl, Nat.le_of_ble_eq_true rfl⟩) hK hA hw 0 rfl rfl rfl hl.1 rfl rfl (Nat.le_of_ble_eq_true rfl) ⟨Nat.zero_le _, Nat.zero_le _⟩ dX7_readOrder_175 (fun H locs hw => ?_)
      have hw : wS D A (wM cy b (mS σ) saved many bef (tI tx) len thr ((rdg tx len (at_ + 1) 1 9).2) (nI (ltr tx len at_)) (nO (o1)) (nO (o2)) dn hs ++ Z) s H locs := hw
      have hP := hw.1
      refine va_put (D := D) (ci := 7) (v := .int (nO ((rdg tx len (at_ + 1) 1 9).1))) (ty := .int) (C := RX7) (T := TX7) (N := 13) hx hb hts (fun _ h => List.mem_cons_of_mem _ (List.mem_append_right _ h)) tyX7 tyX7_ok nmX7 hown hK hw.1 hw.2.1 hw.2.2 0 rfl rfl 9 (by decide) (hts (.fieldLink RX7 178 "SpreadParityModel" "first" "I") (List.mem_of_getElem? (i := 5) rfl)) (fun _ h9 => h9) rfl (tyX7_ok 9 (by decide)) rfl rfl (Nat.le_of_ble_eq_true rfl) dX7_readOrder_178 (fun H locs hP hD hS => ?_)
      have hw : wS D A (wM cy b (mS σ) saved many bef (tI tx) len thr ((rdg tx len (at_ + 1) 1 9).2) (nI (ltr tx len at_)) (nO ((rdg tx len (at_ + 1) 1 9).1)) (nO (o2)) dn hs ++ Z) s H locs := ⟨hP, hD, hS⟩
      refine lv_aload_n hx hb dX7_readOrder_181 rfl (lv_at hl 0 rfl) ?_
      refine va_get (D := D) (ci := 7) (v := .int (nO ((rdg tx len (at_ + 1) 1 9).1))) (C := RX7) (T := TX7) (N := 13) hx hb hts (fun _ h => List.mem_cons_of_mem _ (List.mem_append_right _ h)) hown hK hP 0 rfl rfl 9 (by decide) (hts (.fieldLink RX7 178 "SpreadParityModel" "first" "I") (List.mem_of_getElem? (i := 5) rfl)) (fun _ h9 => h9) rfl dX7_readOrder_182 ?_
      refine lv_iconst (v := -1) hx hb dX7_readOrder_185 rfl ?_
      refine lv_icmp_eq (tgt := 193) hx hb dX7_readOrder_186 (by decide) (fun (c_186 : (nO ((rdg tx len (at_ + 1) 1 9).1)) = (-1)) => ?_) (fun (c_186 : ¬ (nO ((rdg tx len (at_ + 1) 1 9).1)) = (-1)) => ?_)
      · refine lv_iconst (v := nI 0) hx hb dX7_readOrder_193 rfl ?_
        have e_w : po tx len at_ o1 o2 = (false, (rdg tx len (at_ + 1) 1 9).2, ltr tx len at_, (rdg tx len (at_ + 1) 1 9).1, o2) := by
          have h9 : (rdg tx len (at_ + 1) 1 9).1.isSome = false := by rw [nO_m1 (rdg_B h_0) c_186]; rfl
          simp [po, k_42, h9]
        have hw : wS D A (wM cy b (mS σ) saved many bef (tI tx) len thr ((po tx len at_ o1 o2).2.1) (nI ((po tx len at_ o1 o2).2.2.1)) (nO ((po tx len at_ o1 o2).2.2.2.1)) (nO ((po tx len at_ o1 o2).2.2.2.2)) dn hs ++ Z) s H locs := by rw [e_w]; exact hw
        exact q_zretW hx hb hr hlocks hw dX7_readOrder_194 (by rw [e_w]; rfl)
      · refine lv_iconst (v := nI 1) hx hb dX7_readOrder_189 rfl ?_
        refine lv_goto (tgt := 194) hx hb dX7_readOrder_190 (by decide) ?_
        have e_w : po tx len at_ o1 o2 = (true, (rdg tx len (at_ + 1) 1 9).2, ltr tx len at_, (rdg tx len (at_ + 1) 1 9).1, o2) := by
          have h9 := nO_s (rdg_B h_0) c_186; simp [po, k_42, h9]
        have hw : wS D A (wM cy b (mS σ) saved many bef (tI tx) len thr ((po tx len at_ o1 o2).2.1) (nI ((po tx len at_ o1 o2).2.2.1)) (nO ((po tx len at_ o1 o2).2.2.2.1)) (nO ((po tx len at_ o1 o2).2.2.2.2)) dn hs ++ Z) s H locs := by rw [e_w]; exact hw
        exact q_zretW hx hb hr hlocks hw dX7_readOrder_194 (by rw [e_w]; rfl)
    · refine q_look (tgt := 92) (off := 50) hx hb dX7_readOrder_42 (by decide) (by rw [k_42]; decide) (by have h9 := ltr_le tx len at_ h_0; omega) (by decide) ?_
      refine lv_aload_n hx hb dX7_readOrder_92 rfl (lv_at hl 0 rfl) ?_
      refine lv_aload_n hx hb dX7_readOrder_93 rfl (lv_at hl 0 rfl) ?_
      refine lv_bipush (v := nI 41) hx hb dX7_readOrder_94 rfl ?_
      refine q_wV0 (As := [.int (nI (41))]) (rest := [.ref (b 0)]) (st1 := [.int (nO ((rn tx len (at_ + 1) 41).1)), .ref (b 0)]) ⟨hx, hb, hml, hown, hts⟩ (c_X7_readNumber D cy A b σ saved many bef (tI tx) len thr (at_ + 1) (nI (ltr tx len at_)) (nO (o1)) (nO (o2)) dn hs Z (tx) (41) (by omega) h_0 h_1 (by omega)) (cwV 1 hts gX7_readOrder_X7_readNumber rfl rfl rfl hd_X7_readNumber ⟨Nat.le_of_ble_eq_true rfl, Nat.le_of_ble_eq_true rfl⟩) hK hA hw 0 rfl rfl rfl hl.1 rfl rfl (Nat.le_of_ble_eq_true rfl) ⟨Nat.zero_le _, Nat.zero_le _⟩ dX7_readOrder_96 (fun H locs hw => ?_)
      have hw : wS D A (wM cy b (mS σ) saved many bef (tI tx) len thr ((rn tx len (at_ + 1) 41).2) (nI (ltr tx len at_)) (nO (o1)) (nO (o2)) dn hs ++ Z) s H locs := hw
      have hP := hw.1
      refine va_put (D := D) (ci := 7) (v := .int (nO ((rn tx len (at_ + 1) 41).1))) (ty := .int) (C := RX7) (T := TX7) (N := 13) hx hb hts (fun _ h => List.mem_cons_of_mem _ (List.mem_append_right _ h)) tyX7 tyX7_ok nmX7 hown hK hw.1 hw.2.1 hw.2.2 0 rfl rfl 9 (by decide) (hts (.fieldLink RX7 178 "SpreadParityModel" "first" "I") (List.mem_of_getElem? (i := 5) rfl)) (fun _ h9 => h9) rfl (tyX7_ok 9 (by decide)) rfl rfl (Nat.le_of_ble_eq_true rfl) dX7_readOrder_99 (fun H locs hP hD hS => ?_)
      have hw : wS D A (wM cy b (mS σ) saved many bef (tI tx) len thr ((rn tx len (at_ + 1) 41).2) (nI (ltr tx len at_)) (nO ((rn tx len (at_ + 1) 41).1)) (nO (o2)) dn hs ++ Z) s H locs := ⟨hP, hD, hS⟩
      refine lv_aload_n hx hb dX7_readOrder_102 rfl (lv_at hl 0 rfl) ?_
      refine va_get (D := D) (ci := 7) (v := .int (nO ((rn tx len (at_ + 1) 41).1))) (C := RX7) (T := TX7) (N := 13) hx hb hts (fun _ h => List.mem_cons_of_mem _ (List.mem_append_right _ h)) hown hK hP 0 rfl rfl 9 (by decide) (hts (.fieldLink RX7 178 "SpreadParityModel" "first" "I") (List.mem_of_getElem? (i := 5) rfl)) (fun _ h9 => h9) rfl dX7_readOrder_103 ?_
      refine lv_iconst (v := -1) hx hb dX7_readOrder_106 rfl ?_
      refine lv_icmp_eq (tgt := 119) hx hb dX7_readOrder_107 (by decide) (fun (c_107 : (nO ((rn tx len (at_ + 1) 41).1)) = (-1)) => ?_) (fun (c_107 : ¬ (nO ((rn tx len (at_ + 1) 41).1)) = (-1)) => ?_)
      · refine lv_iconst (v := nI 0) hx hb dX7_readOrder_119 rfl ?_
        have e_w : po tx len at_ o1 o2 = (false, (rn tx len (at_ + 1) 41).2, ltr tx len at_, (rn tx len (at_ + 1) 41).1, o2) := by
          have h9 : (rn tx len (at_ + 1) 41).1 = none := nO_m1 (rn_B h_0 (by omega)) c_107
          simp [po, k_42, h9]
        have hw : wS D A (wM cy b (mS σ) saved many bef (tI tx) len thr ((po tx len at_ o1 o2).2.1) (nI ((po tx len at_ o1 o2).2.2.1)) (nO ((po tx len at_ o1 o2).2.2.2.1)) (nO ((po tx len at_ o1 o2).2.2.2.2)) dn hs ++ Z) s H locs := by rw [e_w]; exact hw
        exact q_zretW hx hb hr hlocks hw dX7_readOrder_120 (by rw [e_w]; rfl)
      · refine lv_aload_n hx hb dX7_readOrder_110 rfl (lv_at hl 0 rfl) ?_
        refine lv_bipush (v := nI 61) hx hb dX7_readOrder_111 rfl ?_
        refine q_wV0 (As := [.int (nI (61))]) (rest := []) (st1 := [.int (bI (nxt tx len ((rn tx len (at_ + 1) 41).2) 61 61))]) ⟨hx, hb, hml, hown, hts⟩ (c_X7_takes D cy A b σ saved many bef (tI tx) len thr ((rn tx len (at_ + 1) 41).2) (nI (ltr tx len at_)) (nO ((rn tx len (at_ + 1) 41).1)) (nO (o2)) dn hs Z (tx) (61) (by omega) h_0 h_1 (by have h9 := rn_le tx len (at_ + 1) 41 (by omega); omega)) (cwV 1 hts gX7_readOrder_X7_takes rfl rfl rfl hd_X7_takes ⟨Nat.le_of_ble_eq_true rfl, Nat.le_of_ble_eq_true rfl⟩) hK hA hw 0 rfl rfl rfl hl.1 rfl rfl (Nat.le_of_ble_eq_true rfl) ⟨Nat.zero_le _, Nat.zero_le _⟩ dX7_readOrder_113 (fun H locs hw => ?_)
        have hw : wS D A (wM cy b (mS σ) saved many bef (tI tx) len thr (tkM tx len ((rn tx len (at_ + 1) 41).2) 61) (nI (ltr tx len at_)) (nO ((rn tx len (at_ + 1) 41).1)) (nO (o2)) dn hs ++ Z) s H locs := hw
        have hP := hw.1
        refine q_ifneB (tgt := 121) hx hb dX7_readOrder_116 (by decide) (fun c_116 => ?_) (fun c_116 => ?_)
        · refine lv_aload_n hx hb dX7_readOrder_121 rfl (lv_at hl 0 rfl) ?_
          refine lv_aload_n hx hb dX7_readOrder_122 rfl (lv_at hl 0 rfl) ?_
          refine lv_ldc (v  := nI 65535) hx hb hown (hts (.constant RX7 105 (65535)) (List.mem_of_getElem? (i := 6) rfl)) dX7_readOrder_123 ?_
          refine q_wV0 (As := [.int (nI (65535))]) (rest := [.ref (b 0)]) (st1 := [.int (nO ((rn tx len (tkM tx len ((rn tx len (at_ + 1) 41).2) 61) 65535).1)), .ref (b 0)]) ⟨hx, hb, hml, hown, hts⟩ (c_X7_readNumber D cy A b σ saved many bef (tI tx) len thr (tkM tx len ((rn tx len (at_ + 1) 41).2) 61) (nI (ltr tx len at_)) (nO ((rn tx len (at_ + 1) 41).1)) (nO (o2)) dn hs Z (tx) (65535) (by omega) h_0 h_1 (by have h7 := nxt_lt c_116; have h8 := tkM_le tx len (rn tx len (at_ + 1) 41).2 61; omega)) (cwV 1 hts gX7_readOrder_X7_readNumber rfl rfl rfl hd_X7_readNumber ⟨Nat.le_of_ble_eq_true rfl, Nat.le_of_ble_eq_true rfl⟩) hK hA hw 0 rfl rfl rfl hl.1 rfl rfl (Nat.le_of_ble_eq_true rfl) ⟨Nat.zero_le _, Nat.zero_le _⟩ dX7_readOrder_125 (fun H locs hw => ?_)
          have hw : wS D A (wM cy b (mS σ) saved many bef (tI tx) len thr ((rn tx len (tkM tx len ((rn tx len (at_ + 1) 41).2) 61) 65535).2) (nI (ltr tx len at_)) (nO ((rn tx len (at_ + 1) 41).1)) (nO (o2)) dn hs ++ Z) s H locs := hw
          have hP := hw.1
          refine va_put (D := D) (ci := 7) (v := .int (nO ((rn tx len (tkM tx len ((rn tx len (at_ + 1) 41).2) 61) 65535).1))) (ty := .int) (C := RX7) (T := TX7) (N := 13) hx hb hts (fun _ h => List.mem_cons_of_mem _ (List.mem_append_right _ h)) tyX7 tyX7_ok nmX7 hown hK hw.1 hw.2.1 hw.2.2 0 rfl rfl 10 (by decide) (hts (.fieldLink RX7 184 "SpreadParityModel" "second" "I") (List.mem_of_getElem? (i := 7) rfl)) (fun _ h9 => h9) rfl (tyX7_ok 10 (by decide)) rfl rfl (Nat.le_of_ble_eq_true rfl) dX7_readOrder_128 (fun H locs hP hD hS => ?_)
          have hw : wS D A (wM cy b (mS σ) saved many bef (tI tx) len thr ((rn tx len (tkM tx len ((rn tx len (at_ + 1) 41).2) 61) 65535).2) (nI (ltr tx len at_)) (nO ((rn tx len (at_ + 1) 41).1)) (nO ((rn tx len (tkM tx len ((rn tx len (at_ + 1) 41).2) 61) 65535).1)) dn hs ++ Z) s H locs := ⟨hP, hD, hS⟩
          refine lv_aload_n hx hb dX7_readOrder_131 rfl (lv_at hl 0 rfl) ?_
          refine va_get (D := D) (ci := 7) (v := .int (nO ((rn tx len (tkM tx len ((rn tx len (at_ + 1) 41).2) 61) 65535).1))) (C := RX7) (T := TX7) (N := 13) hx hb hts (fun _ h => List.mem_cons_of_mem _ (List.mem_append_right _ h)) hown hK hP 0 rfl rfl 10 (by decide) (hts (.fieldLink RX7 184 "SpreadParityModel" "second" "I") (List.mem_of_getElem? (i := 7) rfl)) (fun _ h9 => h9) rfl dX7_readOrder_132 ?_
          refine lv_iconst (v := -1) hx hb dX7_readOrder_135 rfl ?_
          refine lv_icmp_eq (tgt := 143) hx hb dX7_readOrder_136 (by decide) (fun (c_136 : (nO ((rn tx len (tkM tx len ((rn tx len (at_ + 1) 41).2) 61) 65535).1)) = (-1)) => ?_) (fun (c_136 : ¬ (nO ((rn tx len (tkM tx len ((rn tx len (at_ + 1) 41).2) 61) 65535).1)) = (-1)) => ?_)
          · refine lv_iconst (v := nI 0) hx hb dX7_readOrder_143 rfl ?_
            have e_w : po tx len at_ o1 o2 = (false, (rn tx len (tkM tx len ((rn tx len (at_ + 1) 41).2) 61) 65535).2, ltr tx len at_, (rn tx len (at_ + 1) 41).1, (rn tx len (tkM tx len ((rn tx len (at_ + 1) 41).2) 61) 65535).1) := by
              have h9 : ¬ (rn tx len (at_ + 1) 41).1 = none := nO_n (rn_B h_0 (by omega)) c_107
              have h8 : (rn tx len (tkM tx len (rn tx len (at_ + 1) 41).2 61) 65535).1.isSome = false := (by rw [nO_m1 (rn_B h_0 (by omega)) c_136]; rfl)
              simp [po, k_42, h9, c_116, h8]
            have hw : wS D A (wM cy b (mS σ) saved many bef (tI tx) len thr ((po tx len at_ o1 o2).2.1) (nI ((po tx len at_ o1 o2).2.2.1)) (nO ((po tx len at_ o1 o2).2.2.2.1)) (nO ((po tx len at_ o1 o2).2.2.2.2)) dn hs ++ Z) s H locs := by rw [e_w]; exact hw
            exact q_zretW hx hb hr hlocks hw dX7_readOrder_144 (by rw [e_w]; rfl)
          · refine lv_iconst (v := nI 1) hx hb dX7_readOrder_139 rfl ?_
            refine lv_goto (tgt := 144) hx hb dX7_readOrder_140 (by decide) ?_
            have e_w : po tx len at_ o1 o2 = (true, (rn tx len (tkM tx len ((rn tx len (at_ + 1) 41).2) 61) 65535).2, ltr tx len at_, (rn tx len (at_ + 1) 41).1, (rn tx len (tkM tx len ((rn tx len (at_ + 1) 41).2) 61) 65535).1) := by
              have h9 : ¬ (rn tx len (at_ + 1) 41).1 = none := nO_n (rn_B h_0 (by omega)) c_107
              have h8 : (rn tx len (tkM tx len (rn tx len (at_ + 1) 41).2 61) 65535).1.isSome = true := nO_s (rn_B h_0 (by omega)) c_136
              simp [po, k_42, h9, c_116, h8]
            have hw : wS D A (wM cy b (mS σ) saved many bef (tI tx) len thr ((po tx len at_ o1 o2).2.1) (nI ((po tx len at_ o1 o2).2.2.1)) (nO ((po tx len at_ o1 o2).2.2.2.1)) (nO ((po tx len at_ o1 o2).2.2.2.2)) dn hs ++ Z) s H locs := by rw [e_w]; exact hw
            exact q_zretW hx hb hr hlocks hw dX7_readOrder_144 (by rw [e_w]; rfl)
        · refine lv_iconst (v := nI 0) hx hb dX7_readOrder_119 rfl ?_
          have e_w : po tx len at_ o1 o2 = (false, tkM tx len ((rn tx len (at_ + 1) 41).2) 61, ltr tx len at_, (rn tx len (at_ + 1) 41).1, o2) := by
            have h9 : ¬ (rn tx len (at_ + 1) 41).1 = none := nO_n (rn_B h_0 (by omega)) c_107
            simp [po, k_42, h9, tkM, c_116]
          have hw : wS D A (wM cy b (mS σ) saved many bef (tI tx) len thr ((po tx len at_ o1 o2).2.1) (nI ((po tx len at_ o1 o2).2.2.1)) (nO ((po tx len at_ o1 o2).2.2.2.1)) (nO ((po tx len at_ o1 o2).2.2.2.2)) dn hs ++ Z) s H locs := by rw [e_w]; exact hw
          exact q_zretW hx hb hr hlocks hw dX7_readOrder_120 (by rw [e_w]; rfl)
    · refine q_look (tgt := 197) (off := 155) hx hb dX7_readOrder_42 (by decide) (by simp only [Op.lookupswitch.offset_cons, Op.lookupswitch.offset_nil]; obtain ⟨k0, k1, k2, k3, k4⟩ := k_42; repeat rw [if_neg (by omega)]) (by have h9 := ltr_le tx len at_ h_0; omega) (by decide) ?_
      refine lv_aload_n hx hb dX7_readOrder_197 rfl (lv_at hl 0 rfl) ?_
      refine lv_dup hx hb dX7_readOrder_198 rfl ?_
      refine va_get (D := D) (ci := 7) (v := .int (nI (at_ + 1))) (C := RX7) (T := TX7) (N := 13) hx hb hts (fun _ h => List.mem_cons_of_mem _ (List.mem_append_right _ h)) hown hK hP 0 rfl rfl 7 (by decide) (hts (.fieldLink RX7 166 "SpreadParityModel" "at" "I") (List.mem_of_getElem? (i := 1) rfl)) (fun _ h9 => h9) rfl dX7_readOrder_199 ?_
      refine lv_iconst (v := nI 1) hx hb dX7_readOrder_202 rfl ?_
      refine q_subN hx hb dX7_readOrder_203 (by omega) ?_
      refine va_put (D := D) (ci := 7) (v := .int (nI ((at_ + 1) - 1))) (ty := .int) (C := RX7) (T := TX7) (N := 13) hx hb hts (fun _ h => List.mem_cons_of_mem _ (List.mem_append_right _ h)) tyX7 tyX7_ok nmX7 hown hK hw.1 hw.2.1 hw.2.2 0 rfl rfl 7 (by decide) (hts (.fieldLink RX7 166 "SpreadParityModel" "at" "I") (List.mem_of_getElem? (i := 1) rfl)) (fun _ h9 => h9) rfl (tyX7_ok 7 (by decide)) rfl rfl (Nat.le_of_ble_eq_true rfl) dX7_readOrder_204 (fun H locs hP hD hS => ?_)
      have hw : wS D A (wM cy b (mS σ) saved many bef (tI tx) len thr ((at_ + 1) - 1) (nI (ltr tx len at_)) (nO (o1)) (nO (o2)) dn hs ++ Z) s H locs := ⟨hP, hD, hS⟩
      refine lv_iconst (v := nI 0) hx hb dX7_readOrder_207 rfl ?_
      have e_w : po tx len at_ o1 o2 = (false, (at_ + 1) - 1, ltr tx len at_, o1, o2) := by
        obtain ⟨k0, k1, k2, k3, k4⟩ := k_42; simp [po, k0, k1, k2, k3, k4]
      have hw : wS D A (wM cy b (mS σ) saved many bef (tI tx) len thr ((po tx len at_ o1 o2).2.1) (nI ((po tx len at_ o1 o2).2.2.1)) (nO ((po tx len at_ o1 o2).2.2.2.1)) (nO ((po tx len at_ o1 o2).2.2.2.2)) dn hs ++ Z) s H locs := by rw [e_w]; exact hw
      exact q_zretW hx hb hr hlocks hw dX7_readOrder_208 (by rw [e_w]; rfl)
  refine va_get (D := D) (ci := 7) (v := .int (nI (at_))) (C := RX7) (T := TX7) (N := 13) hx hb hts (fun _ h => List.mem_cons_of_mem _ (List.mem_append_right _ h)) hown hK hP 0 rfl rfl 7 (by decide) (hts (.fieldLink RX7 166 "SpreadParityModel" "at" "I") (List.mem_of_getElem? (i := 1) rfl)) (fun _ h9 => h9) rfl dX7_readOrder_2 ?_
  refine lv_aload_n hx hb dX7_readOrder_5 rfl (lv_at hl 0 rfl) ?_
  refine va_get (D := D) (ci := 7) (v := .int (nI (len))) (C := RX7) (T := TX7) (N := 13) hx hb hts (fun _ h => List.mem_cons_of_mem _ (List.mem_append_right _ h)) hown hK hP 0 rfl rfl 5 (by decide) (hts (.fieldLink RX7 163 "SpreadParityModel" "length" "I") (List.mem_of_getElem? (i := 2) rfl)) (fun _ h9 => h9) rfl dX7_readOrder_6 ?_
  refine q_geN (tgt := 24) hx hb dX7_readOrder_9 (by decide) (by omega) (by omega) (fun c_9 => ?_) (fun c_9 => ?_)
  · refine lv_iconst (v := nI 0) hx hb dX7_readOrder_24 rfl ?_
    refine q_stk (show ([.int (nI (0)), .ref (b 0)] : List Value) = [.int (nI (ltr tx len at_)), .ref (b 0)] from by rw [ltr, if_neg (by omega)]) ?_
    exact jn25 _ _ _ hw (lv_sub hl [0] rfl)
  · refine lv_aload_n hx hb dX7_readOrder_12 rfl (lv_at hl 0 rfl) ?_
    refine va_get (D := D) (ci := 7) (v := .ref (b 4)) (C := RX7) (T := TX7) (N := 13) hx hb hts (fun _ h => List.mem_cons_of_mem _ (List.mem_append_right _ h)) hown hK hP 0 rfl rfl 4 (by decide) (hts (.fieldLink RX7 19 "SpreadParityModel" "text" "[I") (List.mem_of_getElem? (i := 3) rfl)) (fun _ h9 => h9) rfl dX7_readOrder_13 ?_
    refine lv_aload_n hx hb dX7_readOrder_16 rfl (lv_at hl 0 rfl) ?_
    refine va_get (D := D) (ci := 7) (v := .int (nI (at_))) (C := RX7) (T := TX7) (N := 13) hx hb hts (fun _ h => List.mem_cons_of_mem _ (List.mem_append_right _ h)) hown hK hP 0 rfl rfl 7 (by decide) (hts (.fieldLink RX7 166 "SpreadParityModel" "at" "I") (List.mem_of_getElem? (i := 1) rfl)) (fun _ h9 => h9) rfl dX7_readOrder_17 ?_
    refine q_iald hx hb hK hP 4 rfl (by omega) (by omega) dX7_readOrder_20 ?_
    refine q_top (show ((tI tx) (at_)) = nI (tx at_) from rfl) ?_
    refine lv_goto (tgt := 25) hx hb dX7_readOrder_21 (by decide) ?_
    refine q_stk (show ([.int (nI (tx at_)), .ref (b 0)] : List Value) = [.int (nI (ltr tx len at_)), .ref (b 0)] from by rw [ltr, if_pos (by omega)]) ?_
    exact jn25 _ _ _ hw (lv_sub hl [0] rfl)
