/-- po's answer does not hang on what the numbers were before -/
abbrev pO (tx : Nat → Nat) (n i : Nat) : Bool × Nat × Nat × Option Nat × Option Nat := po tx n i none none
theorem po_ab {tx : Nat → Nat} {n i : Nat} (a b : Option Nat) : (po tx n i a b).1 = (pO tx n i).1 ∧ (po tx n i a b).2.1 = (pO tx n i).2.1 ∧ (po tx n i a b).2.2.1 = (pO tx n i).2.2.1 ∧ ((po tx n i a b).2.2.1 ≠ 99 → (po tx n i a b).1 = true → (po tx n i a b).2.2.2.1 = (pO tx n i).2.2.2.1) ∧ ((po tx n i a b).2.2.1 = 119 → (po tx n i a b).1 = true → (po tx n i a b).2.2.2.2 = (pO tx n i).2.2.2.2) := by
  unfold pO po
  by_cases h1 : ltr tx n i = 119
  · simp only [h1, if_true]
    split
    · simp
    · split <;> simp
  · simp only [h1, if_false]
    by_cases h2 : ltr tx n i = 102 ∨ ltr tx n i = 109
    · simp [h1, h2]
    · simp only [h2, if_false]
      by_cases h3 : ltr tx n i = 115
      · simp [h3]
      · simp only [h3, if_false]
        by_cases h4 : ltr tx n i = 99
        · simp [h4]
        · simp [h1, h4]
theorem po_1 {tx : Nat → Nat} {n i : Nat} (a b : Option Nat) : (po tx n i a b).1 = (pO tx n i).1 := (po_ab a b).1
theorem po_2 {tx : Nat → Nat} {n i : Nat} (a b : Option Nat) : (po tx n i a b).2.1 = (pO tx n i).2.1 := (po_ab a b).2.1
theorem po_3 {tx : Nat → Nat} {n i : Nat} (a b : Option Nat) : (po tx n i a b).2.2.1 = (pO tx n i).2.2.1 := (po_ab a b).2.2.1
theorem rnA_top (tx : Nat → Nat) (n : Nat) {top : Nat} : ∀ (k v i : Nat), v ≤ top → ∃ w, (rnA tx n top k v i).1 = some w ∧ w ≤ top := by
  intro k
  induction k with
  | zero => intro v i hv; exact ⟨v, rfl, hv⟩
  | succ k ih =>
    intro v i hv
    simp only [rnA]
    split
    · rename_i h; exact ih _ _ h.2.2
    · exact ⟨v, rfl, hv⟩
theorem rn_top {tx : Nat → Nat} {n i top : Nat} (ht : 9 ≤ top) (h : ¬ (rn tx n i top).1 = none) : ∃ w, (rn tx n i top).1 = some w ∧ w ≤ top := by
  unfold rn at h ⊢
  split
  · rename_i h2
    have := nxt_ge h2
    exact rnA_top tx n _ _ _ (by omega)
  · rename_i h2
    rw [if_neg h2] at h
    exact absurd rfl h
theorem rdg_top {tx : Nat → Nat} {n i lo hi : Nat} (h : (rdg tx n i lo hi).1.isSome = true) : ∃ w, (rdg tx n i lo hi).1 = some w ∧ lo ≤ w ∧ w ≤ hi := by
  unfold rdg at h ⊢
  split
  · rename_i h2
    have := nxt_ge h2
    exact ⟨tx i - 48, rfl, by omega, by omega⟩
  · rename_i h2
    rw [if_neg h2] at h
    cases h
theorem po_OK {tx : Nat → Nat} (_ : ∀ i, tx i ≤ 126) {n i : Nat} {a b : Option Nat} (h : (po tx n i a b).1 = true) : oOK (po tx n i a b).2.2 := by
  unfold po at h ⊢
  by_cases h1 : ltr tx n i = 119
  · simp only [h1, if_true] at h ⊢
    split at h
    · cases h
    · rename_i h2
      split at h
      · cases h
      · rename_i h3
        rw [if_neg h2, if_neg h3]
        simp only at h
        obtain ⟨q, hq, hq2⟩ := rn_top (by omega) h2
        obtain ⟨v, hv, hv2⟩ := rn_top (tx := tx) (n := n) (i := tkM tx n (rn tx n (i + 1) 41).2 61) (top := 65535) (by omega) (fun e => by rw [e] at h; cases h)
        exact Or.inl ⟨rfl, q, v, hq, by omega, hv, by omega⟩
  · simp only [h1, if_false] at h ⊢
    by_cases h2 : ltr tx n i = 102 ∨ ltr tx n i = 109
    · simp only [h2, if_true] at h ⊢
      obtain ⟨w, hw, -, hw2⟩ := rdg_top h
      exact Or.inr (Or.inl ⟨h2, w, hw, by omega⟩)
    · simp only [h2, if_false] at h ⊢
      by_cases h3 : ltr tx n i = 115
      · simp only [h3, if_true] at h ⊢
        obtain ⟨w, hw, -, hw2⟩ := rdg_top h
        exact Or.inr (Or.inr (Or.inl ⟨rfl, w, hw, hw2⟩))
      · simp only [h3, if_false] at h ⊢
        by_cases h4 : ltr tx n i = 99
        · simp only [h4, if_true] at h ⊢
          exact Or.inr (Or.inr (Or.inr rfl))
        · simp only [h4, if_false] at h
          cases h
theorem rdg_le (tx : Nat → Nat) (n i lo hi : Nat) : (rdg tx n i lo hi).2 ≤ max n i ∧ i ≤ (rdg tx n i lo hi).2 := by
  unfold rdg
  split
  · rename_i h
    have := nxt_lt h
    exact ⟨by simp only; omega, by simp only; omega⟩
  · exact ⟨by simp only; omega, by simp only; omega⟩
theorem tkM_b (tx : Nat → Nat) (n i ch : Nat) : tkM tx n i ch ≤ max n i ∧ i ≤ tkM tx n i ch := by
  unfold tkM
  split
  · rename_i h
    have := nxt_lt h
    omega
  · omega
/-- an order ends inside the text, or one behind its end -/
theorem po_le (tx : Nat → Nat) (n i : Nat) (a b : Option Nat) (hi : i ≤ n) (hn : n ≤ 60) : (po tx n i a b).2.1 ≤ 61 := by
  have hr := rn_le tx n (i + 1) 41 (by omega)
  have hk := tkM_b tx n (rn tx n (i + 1) 41).2 61
  have hr2 := rn_le tx n (tkM tx n (rn tx n (i + 1) 41).2 61) 65535 (by omega)
  have h6 := rdg_le tx n (i + 1) 0 6
  have h9 := rdg_le tx n (i + 1) 1 9
  unfold po
  repeat' split
  all_goals (simp only; omega)
theorem po_ge (tx : Nat → Nat) (n i : Nat) (a b : Option Nat) (h : (po tx n i a b).1 = true) (hn : n ≤ 60) : i < (po tx n i a b).2.1 := by
  by_cases hi : i ≤ 60
  · have hr := rn_le tx n (i + 1) 41 (by omega)
    have hk := tkM_b tx n (rn tx n (i + 1) 41).2 61
    have hr2 := rn_le tx n (tkM tx n (rn tx n (i + 1) 41).2 61) 65535 (by omega)
    have h6 := rdg_le tx n (i + 1) 0 6
    have h9 := rdg_le tx n (i + 1) 1 9
    unfold po at h ⊢
    by_cases h1 : ltr tx n i = 119
    · simp only [h1, if_true] at h ⊢
      repeat' split
      all_goals (simp only; omega)
    · simp only [h1, if_false] at h ⊢
      by_cases h2 : ltr tx n i = 102 ∨ ltr tx n i = 109
      · simp only [h2, if_true]; omega
      · simp only [h2, if_false] at h ⊢
        by_cases h3 : ltr tx n i = 115
        · simp only [h3, if_true]; omega
        · simp only [h3, if_false] at h ⊢
          by_cases h4 : ltr tx n i = 99
          · simp only [h4, if_true]; omega
          · simp only [h4, if_false] at h
            cases h
  · have h0 : ltr tx n i = 0 := by unfold ltr; rw [if_neg (by omega)]
    unfold po at h
    rw [h0] at h
    simp at h
/-- the text from the order at the place i on: whether it is whole; the first error, else its end -/
def pv (tx : Nat → Nat) (n : Nat) : Nat → Nat → Bool × Nat
  | 0, i => (false, i)
  | k + 1, i => if (pO tx n i).1 = true then (if (pO tx n i).2.1 = n then (true, n) else if nxt tx n (pO tx n i).2.1 59 59 = true then pv tx n k ((pO tx n i).2.1 + 1) else (false, (pO tx n i).2.1)) else (false, (pO tx n i).2.1)
/-- its orders done one after the other, up to the first one that cannot be: the state, how many -/
def exT (tx : Nat → Nat) (n : Nat) : Nat → Nat → (Nat → Int32) → (Nat → Int32) × Nat
  | 0, _, σ => (σ, 0)
  | k + 1, i, σ => if 0 < errO σ (pO tx n i).2.2.1 (pO tx n i).2.2.2.1 then (σ, 0) else if (pO tx n i).2.1 = n then (doO σ (pO tx n i).2.2.1 (pO tx n i).2.2.2.1 (pO tx n i).2.2.2.2, 1) else ((exT tx n k ((pO tx n i).2.1 + 1) (doO σ (pO tx n i).2.2.1 (pO tx n i).2.2.2.1 (pO tx n i).2.2.2.2)).1, (exT tx n k ((pO tx n i).2.1 + 1) (doO σ (pO tx n i).2.2.1 (pO tx n i).2.2.2.1 (pO tx n i).2.2.2.2)).2 + 1)
theorem pv_f {tx : Nat → Nat} {n k i : Nat} (h : (pO tx n i).1 = false) : pv tx n (k + 1) i = (false, (pO tx n i).2.1) := by
  simp only [pv]; rw [if_neg (by rw [h]; decide)]
theorem pv_e {tx : Nat → Nat} {n k i : Nat} (h : (pO tx n i).1 = true) (h2 : (pO tx n i).2.1 = n) : pv tx n (k + 1) i = (true, n) := by
  simp only [pv]; rw [if_pos h, if_pos h2]
theorem pv_s {tx : Nat → Nat} {n k i : Nat} (h : (pO tx n i).1 = true) (h2 : ¬ (pO tx n i).2.1 = n) : pv tx n (k + 1) i = if nxt tx n (pO tx n i).2.1 59 59 = true then pv tx n k ((pO tx n i).2.1 + 1) else (false, (pO tx n i).2.1) := by
  simp only [pv]; rw [if_pos h, if_neg h2]
theorem exT_0 {tx : Nat → Nat} {n k i : Nat} {σ : Nat → Int32} (h : 0 < errO σ (pO tx n i).2.2.1 (pO tx n i).2.2.2.1) : exT tx n (k + 1) i σ = (σ, 0) := by
  simp only [exT]; rw [if_pos h]
theorem exT_1 {tx : Nat → Nat} {n k i : Nat} {σ : Nat → Int32} (h : ¬ 0 < errO σ (pO tx n i).2.2.1 (pO tx n i).2.2.2.1) (h2 : (pO tx n i).2.1 = n) : exT tx n (k + 1) i σ = (doO σ (pO tx n i).2.2.1 (pO tx n i).2.2.2.1 (pO tx n i).2.2.2.2, 1) := by
  simp only [exT]; rw [if_neg h, if_pos h2]
theorem exT_s {tx : Nat → Nat} {n k i : Nat} {σ : Nat → Int32} (h : ¬ 0 < errO σ (pO tx n i).2.2.1 (pO tx n i).2.2.2.1) (h2 : ¬ (pO tx n i).2.1 = n) : exT tx n (k + 1) i σ = ((exT tx n k ((pO tx n i).2.1 + 1) (doO σ (pO tx n i).2.2.1 (pO tx n i).2.2.2.1 (pO tx n i).2.2.2.2)).1, (exT tx n k ((pO tx n i).2.1 + 1) (doO σ (pO tx n i).2.2.1 (pO tx n i).2.2.2.1 (pO tx n i).2.2.2.2)).2 + 1) := by
  simp only [exT]; rw [if_neg h, if_neg h2]
theorem errO_le (σ : Nat → Int32) (lc : Nat) (o : Option Nat) : errO σ lc o ≤ 3 := by
  unfold errO
  repeat' split
  all_goals omega
set_option maxRecDepth 10000 in
theorem po_e {tx : Nat → Nat} {n i : Nat} {σ : Nat → Int32} (a b : Option Nat) (h : (po tx n i a b).1 = true) : errO σ (po tx n i a b).2.2.1 (po tx n i a b).2.2.2.1 = errO σ (pO tx n i).2.2.1 (pO tx n i).2.2.2.1 := by
  obtain ⟨-, -, h3, h4, -⟩ := po_ab (tx := tx) (n := n) (i := i) a b
  by_cases q : (po tx n i a b).2.2.1 = 99
  · rw [← h3, q]; simp [errO]
  · rw [h4 q h, h3]
set_option maxRecDepth 10000 in
theorem po_d {tx : Nat → Nat} {n i : Nat} {σ : Nat → Int32} (a b : Option Nat) (h : (po tx n i a b).1 = true) : doO σ (po tx n i a b).2.2.1 (po tx n i a b).2.2.2.1 (po tx n i a b).2.2.2.2 = doO σ (pO tx n i).2.2.1 (pO tx n i).2.2.2.1 (pO tx n i).2.2.2.2 := by
  obtain ⟨-, -, h3, h4, h5⟩ := po_ab (tx := tx) (n := n) (i := i) a b
  by_cases q : (po tx n i a b).2.2.1 = 99
  · rw [← h3, q]; simp [doO]
  · by_cases q2 : (po tx n i a b).2.2.1 = 119
    · rw [h4 q h, h5 q2 h, h3]
    · rw [h4 q h, ← h3]
      unfold doO
      rw [if_neg q2, if_neg q2]
theorem Val_wD {σ : Nat → Int32} (hv : Val σ) {q v : Nat} (hq : q < 42) (hv2 : v < 65536) : Val (wD σ q (nI v)) := by
  have h1 := ad_lt hq
  have h2 := adP_lt hq
  have h3 := adO_lt hq
  have hx : ∀ k, k < 63 → ∃ c : Nat, c < 65536 ∧ σ k ^^^ nI v = nI c := fun k hk => by
    obtain ⟨a, ha, e⟩ := hv.1 k hk
    rw [e]; exact nI_xor ha hv2
  unfold wD
  split
  · split
    · refine Val_wr (Val_wr (Val_rd (Val_rd hv h1) h2) h1 ⟨v, hv2, rfl⟩) h2 ?_
      obtain ⟨a, ha, e⟩ := hv.1 _ h2
      obtain ⟨c, hc, e2⟩ := hx _ h1
      rw [e, e2]; exact nI_xor ha hc
    · exact Val_wr hv h1 ⟨v, hv2, rfl⟩
  · exact Val_wr (Val_rd hv h3) h2 (hx _ h3)
theorem Val_beg {σ : Nat → Int32} (hv : Val σ) {d : Nat} (hd : d < 7) (h : ¬ σ 84 = 0) : Val (begS σ d) := by
  obtain ⟨n, hn, e⟩ := hv.2.2
  have hn0 : n ≠ 0 := fun q => h (by rw [e, q]; rfl)
  refine ⟨fun j hj => ?_, fun x hx => ?_, ?_⟩
  · unfold begS; rw [upd_ne (by omega), upd_ne (by omega)]; exact hv.1 j hj
  · unfold begS
    by_cases q : x = d
    · rw [q, upd_eq]; exact Or.inr ⟨0, by omega, rfl⟩
    · rw [upd_ne (by omega), upd_ne (by omega)]; exact hv.2.1 x hx
  · unfold begS
    rw [upd_ne (by omega), upd_eq, e]
    exact ⟨n - 1, by omega, by rw [show (1 : Int32) = nI 1 from rfl, pk_sub (by omega)]⟩
theorem Val_mn : ∀ (n : Nat) {σ : Nat → Int32}, Val σ → Val (mnS n σ).1 := by
  intro n
  induction n with
  | zero => intro σ hv; exact hv
  | succ n ih =>
    intro σ hv
    simp only [mnS]
    split
    · rename_i h; exact ih (Val_mend hv h)
    · exact hv
theorem Val_sc {σ : Nat → Int32} (hv : Val σ) : ∀ n, n ≤ 21 → Val (scS σ n) := by
  intro n
  induction n with
  | zero => intro _; exact hv
  | succ n ih =>
    intro hn
    have h := ih (by omega)
    have h0 : spT (3 * n) < 63 := sp_lt (u := 0) (by omega) (by omega)
    have h1 : spT (3 * n + 1) < 63 := sp_lt (by omega) (by omega)
    have h2 : spT (3 * n + 2) < 63 := sp_lt (by omega) (by omega)
    have hR : Val (scR (scS σ n) n) := Val_rd (Val_rd (Val_rd h h0) h1) h2
    simp only [scS]
    unfold scA
    split
    · split
      · exact Val_wr hR h2 (Val_xor h h0 h1)
      · exact hR
    · exact h
theorem Val_do0 {σ : Nat → Int32} (hv : Val σ) {lc : Nat} {o1 o2 : Option Nat} (h : oOK (lc, o1, o2)) (h0 : lc = 109 → ¬ σ 84 = 0) : Val (doO σ lc o1 o2) := by
  rcases h with ⟨rfl, q, v, h1, hq, h2, hv2⟩ | ⟨hl, d, h1, hd⟩ | ⟨rfl, n, h1, hn⟩ | rfl
  · cases h1; cases h2; exact Val_wD hv hq hv2
  · cases h1
    rcases hl with rfl | rfl
    · exact Val_fail hv hd
    · exact Val_beg hv hd (h0 rfl)
  · cases h1; exact Val_mn n hv
  · have e : doO σ 99 o1 o2 = scS σ 21 := by simp [doO]
    rw [e]; exact Val_sc hv 21 (by omega)
theorem Val_do {σ : Nat → Int32} (hv : Val σ) {o : Nat × Option Nat × Option Nat} (h : oOK o) (h0 : errO σ o.1 o.2.1 = 0) : Val (doO σ o.1 o.2.1 o.2.2) := by
  obtain ⟨lc, o1, o2⟩ := o
  refine Val_do0 hv h (fun e h84 => ?_)
  simp only at e h0
  subst e
  simp [errO, h84] at h0

set_option maxHeartbeats 1000000 in
set_option maxRecDepth 100000 in
theorem c_X7_readText_f {l : Launch} (D : va_G) (cy : ClassId) (A : Nat → Prop) (b : Nat → Nat) (σ saved : Nat → Int32) (many : Nat) (bef T : Nat → Int32) (len thr at_ : Nat) (le f1 f2 : Int32) (dn : Nat) (hs : Int64) (Z : va_W) (tx : Nat → Nat) (lc : Nat) (o1 o2 : Option Nat) (h_0 : ∀ i, tx i ≤ 126) (h_1 : len ≤ 60) : Met l yX7_readText wsX7_readText (k2_rm 9 198) (gP D cy [.ref (b 0), .int (nI (0))] A (wM cy b (mS σ) saved many bef (tI tx) len thr at_ (nI (lc)) (nO (o1)) (nO (o2)) dn hs ++ Z)) (gE D A (fun v9 w9 => v9 = some (.int (bI (pv tx len (len + 1) 0).1)) ∧ ∃ (l9 : Nat) (x9 y9 : Option Nat) (d9 : Nat), w9 = (wM cy b (mS σ) saved many bef (tI tx) len thr (pv tx len (len + 1) 0).2 (nI l9) (nO x9) (nO y9) d9 hs ++ Z))) 0 0 A := by
  refine q_imp (cc := cX7_readText) (maxL := 3) (ret := (some .boolean)) pl_X7 rfl (Nat.le_of_ble_eq_true rfl) ?_
  intro p e s m below meth c ls hx hb hr hml hts hown hlocks hw hK hA hl
  have hP := hw.1
  have hl : lv_has ls 3 [(0, .ref (b 0)), (1, .int (nI (0)))] := hl
  refine lv_aload_n hx hb dX7_readText_0 rfl (lv_at hl 0 rfl) ?_
  refine lv_iconst (v := nI 0) hx hb dX7_readText_1 rfl ?_
  refine va_put (D := D) (ci := 7) (v := .int (nI (0))) (ty := .int) (C := RX7) (T := TX7) (N := 13) hx hb hts (fun _ h => List.mem_cons_of_mem _ (List.mem_append_right _ h)) tyX7 tyX7_ok nmX7 hown hK hw.1 hw.2.1 hw.2.2 0 rfl rfl 7 (by decide) (hts (.fieldLink RX7 166 "SpreadParityModel" "at" "I") (List.mem_of_getElem? (i := 1) rfl)) (fun _ h9 => h9) rfl (tyX7_ok 7 (by decide)) rfl rfl (Nat.le_of_ble_eq_true rfl) dX7_readText_2 (fun H locs hP hD hS => ?_)
  have hw : wS D A (wM cy b (mS σ) saved many bef (tI tx) len thr 0 (nI (lc)) (nO (o1)) (nO (o2)) dn hs ++ Z) s H locs := ⟨hP, hD, hS⟩
  refine lv_aload_n hx hb dX7_readText_5 rfl (lv_at hl 0 rfl) ?_
  refine lv_iconst (v := nI 0) hx hb dX7_readText_6 rfl ?_
  refine va_put (D := D) (ci := 7) (v := .int (nI (0))) (ty := .int) (C := RX7) (T := TX7) (N := 13) hx hb hts (fun _ h => List.mem_cons_of_mem _ (List.mem_append_right _ h)) tyX7 tyX7_ok nmX7 hown hK hw.1 hw.2.1 hw.2.2 0 rfl rfl 11 (by decide) (hts (.fieldLink RX7 190 "SpreadParityModel" "done" "I") (List.mem_of_getElem? (i := 2) rfl)) (fun _ h9 => h9) rfl (tyX7_ok 11 (by decide)) rfl rfl (Nat.le_of_ble_eq_true rfl) dX7_readText_7 (fun H locs hP hD hS => ?_)
  have hw : wS D A (wM cy b (mS σ) saved many bef (tI tx) len thr 0 (nI (lc)) (nO (o1)) (nO (o2)) 0 hs ++ Z) s H locs := ⟨hP, hD, hS⟩
  refine lv_aload_n hx hb dX7_readText_10 rfl (lv_at hl 0 rfl) ?_
  refine q_wV0 (As := []) (rest := []) (st1 := [.int (bI ((po tx len 0 o1 o2).1))]) ⟨hx, hb, hml, hown, hts⟩ (c_X7_readOrder D cy A b σ saved many bef (tI tx) len thr 0 (nI (lc)) (nO (o1)) (nO (o2)) 0 hs Z (tx) (lc) (o1) (o2) h_0 h_1 (by omega)) (cwV 0 hts gX7_readText_X7_readOrder rfl rfl rfl hd_X7_readOrder ⟨Nat.le_of_ble_eq_true rfl, Nat.le_of_ble_eq_true rfl⟩) hK hA hw 0 rfl rfl rfl hl.1 rfl rfl (Nat.le_of_ble_eq_true rfl) ⟨Nat.zero_le _, Nat.zero_le _⟩ dX7_readText_11 (fun H locs hw => ?_)
  have hw : wS D A (wM cy b (mS σ) saved many bef (tI tx) len thr ((po tx len 0 o1 o2).2.1) (nI ((po tx len 0 o1 o2).2.2.1)) (nO ((po tx len 0 o1 o2).2.2.2.1)) (nO ((po tx len 0 o1 o2).2.2.2.2)) 0 hs ++ Z) s H locs := hw
  have hP := hw.1
  refine lv_istore_n (lv' := [(2, .int (bI ((po tx len 0 o1 o2).1))), (0, .ref (b 0)), (1, .int (nI (0)))]) hx hb dX7_readText_14 rfl hl (by decide) rfl (fun ls hl => ?_)
  have lp15 : ∀ (j_ k : Nat), k + j_ = len + 1 → ∀ (i : Nat) (a1 : Option Nat) (a2 : Option Nat), i ≤ len → k ≤ i → pv tx len (len + 1) 0 = pv tx len j_ i → ∀ (H : Heap) (locs : List Loc) (ls : Array Slot), wS D A (wM cy b (mS σ) saved many bef (tI tx) len thr ((po tx len i a1 a2).2.1) (nI ((po tx len i a1 a2).2.2.1)) (nO ((po tx len i a1 a2).2.2.2.1)) (nO ((po tx len i a1 a2).2.2.2.2)) k hs ++ Z) s H locs → lv_has ls 3 [(0, .ref (b 0)), (1, .int (nI (0))), (2, .int (bI ((po tx len i a1 a2).1)))] → W p l e (k2_rm 9 198) s m ([.ref (b 0), .int (nI (0))] : List Value).toArray below meth c H locs 0 0 (MQ below (gE D A (fun v9 w9 => v9 = some (.int (bI (pv tx len (len + 1) 0).1)) ∧ ∃ (l9 : Nat) (x9 y9 : Option Nat) (d9 : Nat), w9 = (wM cy b (mS σ) saved many bef (tI tx) len thr (pv tx len (len + 1) 0).2 (nI l9) (nO x9) (nO y9) d9 hs ++ Z))) ([.ref (b 0), .int (nI (0))] : List Value).toArray s 0 0 A) (F0 m 15 ls []) := by
    intro j_
    induction j_ with
    | zero =>
      intro k hn_k i a1 a2 hy0 hy1 hy2 H locs ls hw hl
      intros; omega
    | succ j_ ih_k =>
      intro k hn_k i a1 a2 hy0 hy1 hy2 H locs ls hw hl
      have hP := hw.1
      refine lv_iload_n hx hb dX7_readText_15 rfl (lv_at hl 2 rfl) ?_
      refine q_ifeqB (tgt := 85) hx hb dX7_readText_16 (by decide) (fun c_16 => ?_) (fun c_16 => ?_)
      · refine lv_iconst (v := nI 0) hx hb dX7_readText_85 rfl ?_
        have e_w : pv tx len (len + 1) 0 = (false, (po tx len i a1 a2).2.1) := by rw [hy2, po_2 a1 a2]; exact pv_f (by rw [← po_1 a1 a2]; exact c_16)
        rw [show (po tx len i a1 a2).2.1 = (pv tx len (len + 1) 0).2 by rw [e_w]] at hw
        exact q_zretE false hx hb hr hlocks hw dX7_readText_86 (rfl : nI 0 = bI false) ⟨by rw [e_w], (po tx len i a1 a2).2.2.1, (po tx len i a1 a2).2.2.2.1, (po tx len i a1 a2).2.2.2.2, k, rfl⟩
      · refine lv_iload_n hx hb dX7_readText_19 rfl (lv_at hl 1 rfl) ?_
        refine q_ifeqN (tgt := 37) hx hb dX7_readText_20 (by decide) (by omega) (fun c_20 => ?_) (fun c_20 => absurd c_20 (by omega))
        refine lv_aload_n hx hb dX7_readText_37 rfl (lv_at hl 0 rfl) ?_
        refine lv_dup hx hb dX7_readText_38 rfl ?_
        refine va_get (D := D) (ci := 7) (v := .int (nI (k))) (C := RX7) (T := TX7) (N := 13) hx hb hts (fun _ h => List.mem_cons_of_mem _ (List.mem_append_right _ h)) hown hK hP 0 rfl rfl 11 (by decide) (hts (.fieldLink RX7 190 "SpreadParityModel" "done" "I") (List.mem_of_getElem? (i := 2) rfl)) (fun _ h9 => h9) rfl dX7_readText_39 ?_
        refine lv_iconst (v := nI 1) hx hb dX7_readText_42 rfl ?_
        refine q_addN hx hb dX7_readText_43 ?_
        refine va_put (D := D) (ci := 7) (v := .int (nI (k + 1))) (ty := .int) (C := RX7) (T := TX7) (N := 13) hx hb hts (fun _ h => List.mem_cons_of_mem _ (List.mem_append_right _ h)) tyX7 tyX7_ok nmX7 hown hK hw.1 hw.2.1 hw.2.2 0 rfl rfl 11 (by decide) (hts (.fieldLink RX7 190 "SpreadParityModel" "done" "I") (List.mem_of_getElem? (i := 2) rfl)) (fun _ h9 => h9) rfl (tyX7_ok 11 (by decide)) rfl rfl (Nat.le_of_ble_eq_true rfl) dX7_readText_44 (fun H locs hP hD hS => ?_)
        have hw : wS D A (wM cy b (mS σ) saved many bef (tI tx) len thr ((po tx len i a1 a2).2.1) (nI ((po tx len i a1 a2).2.2.1)) (nO ((po tx len i a1 a2).2.2.2.1)) (nO ((po tx len i a1 a2).2.2.2.2)) (k + 1) hs ++ Z) s H locs := ⟨hP, hD, hS⟩
        refine lv_aload_n hx hb dX7_readText_47 rfl (lv_at hl 0 rfl) ?_
        refine va_get (D := D) (ci := 7) (v := .int (nI ((po tx len i a1 a2).2.1))) (C := RX7) (T := TX7) (N := 13) hx hb hts (fun _ h => List.mem_cons_of_mem _ (List.mem_append_right _ h)) hown hK hP 0 rfl rfl 7 (by decide) (hts (.fieldLink RX7 166 "SpreadParityModel" "at" "I") (List.mem_of_getElem? (i := 1) rfl)) (fun _ h9 => h9) rfl dX7_readText_48 ?_
        refine lv_aload_n hx hb dX7_readText_51 rfl (lv_at hl 0 rfl) ?_
        refine va_get (D := D) (ci := 7) (v := .int (nI (len))) (C := RX7) (T := TX7) (N := 13) hx hb hts (fun _ h => List.mem_cons_of_mem _ (List.mem_append_right _ h)) hown hK hP 0 rfl rfl 5 (by decide) (hts (.fieldLink RX7 163 "SpreadParityModel" "length" "I") (List.mem_of_getElem? (i := 3) rfl)) (fun _ h9 => h9) rfl dX7_readText_52 ?_
        refine q_neN (tgt := 60) hx hb dX7_readText_55 (by decide) (by have h9 := po_le tx len i a1 a2 hy0 h_1; omega) (by omega) (fun c_55 => ?_) (fun c_55 => ?_)
        · refine lv_aload_n hx hb dX7_readText_60 rfl (lv_at hl 0 rfl) ?_
          refine lv_bipush (v := nI 59) hx hb dX7_readText_61 rfl ?_
          refine q_wV0 (As := [.int (nI (59))]) (rest := []) (st1 := [.int (bI (nxt tx len ((po tx len i a1 a2).2.1) 59 59))]) ⟨hx, hb, hml, hown, hts⟩ (c_X7_takes D cy A b σ saved many bef (tI tx) len thr ((po tx len i a1 a2).2.1) (nI ((po tx len i a1 a2).2.2.1)) (nO ((po tx len i a1 a2).2.2.2.1)) (nO ((po tx len i a1 a2).2.2.2.2)) (k + 1) hs Z (tx) (59) (by omega) h_0 h_1 (by have h9 := po_le tx len i a1 a2 hy0 h_1; omega)) (cwV 1 hts gX7_readText_X7_takes rfl rfl rfl hd_X7_takes ⟨Nat.le_of_ble_eq_true rfl, Nat.le_of_ble_eq_true rfl⟩) hK hA hw 0 rfl rfl rfl hl.1 rfl rfl (Nat.le_of_ble_eq_true rfl) ⟨Nat.zero_le _, Nat.zero_le _⟩ dX7_readText_63 (fun H locs hw => ?_)
          have hw : wS D A (wM cy b (mS σ) saved many bef (tI tx) len thr (tkM tx len ((po tx len i a1 a2).2.1) 59) (nI ((po tx len i a1 a2).2.2.1)) (nO ((po tx len i a1 a2).2.2.2.1)) (nO ((po tx len i a1 a2).2.2.2.2)) (k + 1) hs ++ Z) s H locs := hw
          have hP := hw.1
          refine q_ifeqB (tgt := 80) hx hb dX7_readText_66 (by decide) (fun c_66 => ?_) (fun c_66 => ?_)
          · refine lv_iconst (v := nI 0) hx hb dX7_readText_80 rfl ?_
            refine lv_istore_n (lv' := [(2, .int (nI (0))), (0, .ref (b 0)), (1, .int (nI (0)))]) hx hb dX7_readText_81 rfl hl (by decide) rfl (fun ls hl => ?_)
            refine lv_goto (tgt := 15) hx hb dX7_readText_82 (by decide) ?_
            refine lv_iload_n hx hb dX7_readText_15 rfl (lv_at hl 0 rfl) ?_
            refine q_ifeqN (tgt := 85) hx hb dX7_readText_16 (by decide) (by omega) (fun d_16 => ?_) (fun d_16 => absurd d_16 (by omega))
            refine lv_iconst (v := nI 0) hx hb dX7_readText_85 rfl ?_
            have e_w : pv tx len (len + 1) 0 = (false, (po tx len i a1 a2).2.1) := by rw [hy2, pv_s (by rw [← po_1 a1 a2]; exact c_16) (by rw [← po_2 a1 a2]; exact c_55), ← po_2 a1 a2, if_neg (by rw [c_66]; decide)]
            have e_t : tkM tx len ((po tx len i a1 a2).2.1) 59 = (po tx len i a1 a2).2.1 := by rw [tkM, if_neg (by rw [c_66]; decide), Nat.add_zero]
            rw [e_t] at hw
            rw [show (po tx len i a1 a2).2.1 = (pv tx len (len + 1) 0).2 by rw [e_w]] at hw
            exact q_zretE false hx hb hr hlocks hw dX7_readText_86 (rfl : nI 0 = bI false) ⟨by rw [e_w], (po tx len i a1 a2).2.2.1, (po tx len i a1 a2).2.2.2.1, (po tx len i a1 a2).2.2.2.2, k + 1, rfl⟩
          · have e_t : tkM tx len ((po tx len i a1 a2).2.1) 59 = (po tx len i a1 a2).2.1 + 1 := by rw [tkM, if_pos c_66]
            rw [e_t] at hw
            have hP := hw.1
            have h_lt := nxt_lt c_66
            refine lv_aload_n hx hb dX7_readText_69 rfl (lv_at hl 0 rfl) ?_
            refine q_wV0 (As := []) (rest := []) (st1 := [.int (bI ((po tx len ((po tx len i a1 a2).2.1 + 1) ((po tx len i a1 a2).2.2.2.1) ((po tx len i a1 a2).2.2.2.2)).1))]) ⟨hx, hb, hml, hown, hts⟩ (c_X7_readOrder D cy A b σ saved many bef (tI tx) len thr ((po tx len i a1 a2).2.1 + 1) (nI ((po tx len i a1 a2).2.2.1)) (nO ((po tx len i a1 a2).2.2.2.1)) (nO ((po tx len i a1 a2).2.2.2.2)) (k + 1) hs Z (tx) ((po tx len i a1 a2).2.2.1) ((po tx len i a1 a2).2.2.2.1) ((po tx len i a1 a2).2.2.2.2) h_0 h_1 (by omega)) (cwV 0 hts gX7_readText_X7_readOrder rfl rfl rfl hd_X7_readOrder ⟨Nat.le_of_ble_eq_true rfl, Nat.le_of_ble_eq_true rfl⟩) hK hA hw 0 rfl rfl rfl hl.1 rfl rfl (Nat.le_of_ble_eq_true rfl) ⟨Nat.zero_le _, Nat.zero_le _⟩ dX7_readText_70 (fun H locs hw => ?_)
            have hw : wS D A (wM cy b (mS σ) saved many bef (tI tx) len thr ((po tx len ((po tx len i a1 a2).2.1 + 1) ((po tx len i a1 a2).2.2.2.1) ((po tx len i a1 a2).2.2.2.2)).2.1) (nI ((po tx len ((po tx len i a1 a2).2.1 + 1) ((po tx len i a1 a2).2.2.2.1) ((po tx len i a1 a2).2.2.2.2)).2.2.1)) (nO ((po tx len ((po tx len i a1 a2).2.1 + 1) ((po tx len i a1 a2).2.2.2.1) ((po tx len i a1 a2).2.2.2.2)).2.2.2.1)) (nO ((po tx len ((po tx len i a1 a2).2.1 + 1) ((po tx len i a1 a2).2.2.2.1) ((po tx len i a1 a2).2.2.2.2)).2.2.2.2)) (k + 1) hs ++ Z) s H locs := hw
            have hP := hw.1
            refine q_ifeqB (tgt := 80) hx hb dX7_readText_73 (by decide) (fun c_73 => ?_) (fun c_73 => ?_)
            · refine lv_iconst (v := nI 0) hx hb dX7_readText_80 rfl ?_
              refine lv_istore_n (lv' := [(2, .int (nI (0))), (0, .ref (b 0)), (1, .int (nI (0)))]) hx hb dX7_readText_81 rfl hl (by decide) rfl (fun ls hl => ?_)
              have e_c : bI ((po tx len ((po tx len i a1 a2).2.1 + 1) (po tx len i a1 a2).2.2.2.1 (po tx len i a1 a2).2.2.2.2).1) = 0 := by rw [c_73]; rfl
              have hl : lv_has ls 3 [(2, .int (bI ((po tx len ((po tx len i a1 a2).2.1 + 1) (po tx len i a1 a2).2.2.2.1 (po tx len i a1 a2).2.2.2.2).1))), (0, .ref (b 0)), (1, .int (nI (0)))] := by
                rw [e_c]
                exact hl
              refine lv_goto (tgt := 15) hx hb dX7_readText_82 (by decide) ?_
              exact ih_k (k + 1) (by omega) ((po tx len i a1 a2).2.1 + 1) ((po tx len i a1 a2).2.2.2.1) ((po tx len i a1 a2).2.2.2.2) (by have h9 := nxt_lt c_66; omega) (by have h9 := po_ge tx len i a1 a2 c_16 h_1; omega) (by rw [hy2, pv_s (by rw [← po_1 a1 a2]; exact c_16) (by rw [← po_2 a1 a2]; exact c_55), ← po_2 a1 a2, if_pos c_66]) _ _ _ hw (lv_sub hl [1, 2, 0] rfl)
            · refine lv_iconst (v := nI 1) hx hb dX7_readText_76 rfl ?_
              refine lv_goto (tgt := 81) hx hb dX7_readText_77 (by decide) ?_
              refine lv_istore_n (lv' := [(2, .int (nI (1))), (0, .ref (b 0)), (1, .int (nI (0)))]) hx hb dX7_readText_81 rfl hl (by decide) rfl (fun ls hl => ?_)
              have e_c : bI ((po tx len ((po tx len i a1 a2).2.1 + 1) (po tx len i a1 a2).2.2.2.1 (po tx len i a1 a2).2.2.2.2).1) = 1 := by rw [c_73]; rfl
              have hl : lv_has ls 3 [(2, .int (bI ((po tx len ((po tx len i a1 a2).2.1 + 1) (po tx len i a1 a2).2.2.2.1 (po tx len i a1 a2).2.2.2.2).1))), (0, .ref (b 0)), (1, .int (nI (0)))] := by
                rw [e_c]
                exact hl
              refine lv_goto (tgt := 15) hx hb dX7_readText_82 (by decide) ?_
              exact ih_k (k + 1) (by omega) ((po tx len i a1 a2).2.1 + 1) ((po tx len i a1 a2).2.2.2.1) ((po tx len i a1 a2).2.2.2.2) (by have h9 := nxt_lt c_66; omega) (by have h9 := po_ge tx len i a1 a2 c_16 h_1; omega) (by rw [hy2, pv_s (by rw [← po_1 a1 a2]; exact c_16) (by rw [← po_2 a1 a2]; exact c_55), ← po_2 a1 a2, if_pos c_66]) _ _ _ hw (lv_sub hl [1, 2, 0] rfl)
        · refine lv_iconst (v := nI 1) hx hb dX7_readText_58 rfl ?_
          have e_w : pv tx len (len + 1) 0 = (true, len) := by rw [hy2]; exact pv_e (by rw [← po_1 a1 a2]; exact c_16) (by rw [← po_2 a1 a2]; exact c_55)
          rw [c_55] at hw
          have hw : wS D A (wM cy b (mS σ) saved many bef (tI tx) len thr ((pv tx len (len + 1) 0).2) (nI ((po tx len i a1 a2).2.2.1)) (nO ((po tx len i a1 a2).2.2.2.1)) (nO ((po tx len i a1 a2).2.2.2.2)) (k + 1) hs ++ Z) s H locs := by rw [e_w]; exact hw
          exact q_zretE true hx hb hr hlocks hw dX7_readText_59 (rfl : nI 1 = bI true) ⟨by rw [e_w], (po tx len i a1 a2).2.2.1, (po tx len i a1 a2).2.2.2.1, (po tx len i a1 a2).2.2.2.2, k + 1, rfl⟩
  exact lp15 ((len + 1) - 0) 0 (by omega) (0) (o1) (o2) (Nat.zero_le _) (Nat.le_refl _) (rfl) _ _ _ hw (lv_sub hl [1, 2, 0] rfl)
set_option maxHeartbeats 1000000 in
set_option maxRecDepth 100000 in
theorem c_X7_readText_t {l : Launch} (D : va_G) (cy : ClassId) (A : Nat → Prop) (b : Nat → Nat) (σ saved : Nat → Int32) (many : Nat) (bef T : Nat → Int32) (len thr at_ : Nat) (le f1 f2 : Int32) (dn : Nat) (hs : Int64) (Z : va_W) (tx : Nat → Nat) (lc : Nat) (o1 o2 : Option Nat) (h_0 : ∀ i, tx i ≤ 126) (h_1 : len ≤ 60) (h_2 : Val σ) (h_3 : (pv tx len (len + 1) 0).1 = true) : Met l yX7_readText wsX7_readText (k2_rm 9 198) (gP D cy [.ref (b 0), .int (nI (1))] A (wM cy b (mS σ) saved many bef (tI tx) len thr at_ (nI (lc)) (nO (o1)) (nO (o2)) dn hs ++ Z)) (gE D A (fun v9 w9 => v9 = some (.int (bI true)) ∧ ∃ (t9 l9 : Nat) (x9 y9 : Option Nat), w9 = (wM cy b (mS (exT tx len (len + 1) 0 σ).1) saved many bef (tI tx) len thr t9 (nI l9) (nO x9) (nO y9) (exT tx len (len + 1) 0 σ).2 hs ++ Z))) 0 0 A := by
  refine q_imp (cc := cX7_readText) (maxL := 3) (ret := (some .boolean)) pl_X7 rfl (Nat.le_of_ble_eq_true rfl) ?_
  intro p e s m below meth c ls hx hb hr hml hts hown hlocks hw hK hA hl
  have hP := hw.1
  have hl : lv_has ls 3 [(0, .ref (b 0)), (1, .int (nI (1)))] := hl
  refine lv_aload_n hx hb dX7_readText_0 rfl (lv_at hl 0 rfl) ?_
  refine lv_iconst (v := nI 0) hx hb dX7_readText_1 rfl ?_
  refine va_put (D := D) (ci := 7) (v := .int (nI (0))) (ty := .int) (C := RX7) (T := TX7) (N := 13) hx hb hts (fun _ h => List.mem_cons_of_mem _ (List.mem_append_right _ h)) tyX7 tyX7_ok nmX7 hown hK hw.1 hw.2.1 hw.2.2 0 rfl rfl 7 (by decide) (hts (.fieldLink RX7 166 "SpreadParityModel" "at" "I") (List.mem_of_getElem? (i := 1) rfl)) (fun _ h9 => h9) rfl (tyX7_ok 7 (by decide)) rfl rfl (Nat.le_of_ble_eq_true rfl) dX7_readText_2 (fun H locs hP hD hS => ?_)
  have hw : wS D A (wM cy b (mS σ) saved many bef (tI tx) len thr 0 (nI (lc)) (nO (o1)) (nO (o2)) dn hs ++ Z) s H locs := ⟨hP, hD, hS⟩
  refine lv_aload_n hx hb dX7_readText_5 rfl (lv_at hl 0 rfl) ?_
  refine lv_iconst (v := nI 0) hx hb dX7_readText_6 rfl ?_
  refine va_put (D := D) (ci := 7) (v := .int (nI (0))) (ty := .int) (C := RX7) (T := TX7) (N := 13) hx hb hts (fun _ h => List.mem_cons_of_mem _ (List.mem_append_right _ h)) tyX7 tyX7_ok nmX7 hown hK hw.1 hw.2.1 hw.2.2 0 rfl rfl 11 (by decide) (hts (.fieldLink RX7 190 "SpreadParityModel" "done" "I") (List.mem_of_getElem? (i := 2) rfl)) (fun _ h9 => h9) rfl (tyX7_ok 11 (by decide)) rfl rfl (Nat.le_of_ble_eq_true rfl) dX7_readText_7 (fun H locs hP hD hS => ?_)
  have hw : wS D A (wM cy b (mS σ) saved many bef (tI tx) len thr 0 (nI (lc)) (nO (o1)) (nO (o2)) 0 hs ++ Z) s H locs := ⟨hP, hD, hS⟩
  refine lv_aload_n hx hb dX7_readText_10 rfl (lv_at hl 0 rfl) ?_
  refine q_wV0 (As := []) (rest := []) (st1 := [.int (bI ((po tx len 0 o1 o2).1))]) ⟨hx, hb, hml, hown, hts⟩ (c_X7_readOrder D cy A b σ saved many bef (tI tx) len thr 0 (nI (lc)) (nO (o1)) (nO (o2)) 0 hs Z (tx) (lc) (o1) (o2) h_0 h_1 (by omega)) (cwV 0 hts gX7_readText_X7_readOrder rfl rfl rfl hd_X7_readOrder ⟨Nat.le_of_ble_eq_true rfl, Nat.le_of_ble_eq_true rfl⟩) hK hA hw 0 rfl rfl rfl hl.1 rfl rfl (Nat.le_of_ble_eq_true rfl) ⟨Nat.zero_le _, Nat.zero_le _⟩ dX7_readText_11 (fun H locs hw => ?_)
  have hw : wS D A (wM cy b (mS σ) saved many bef (tI tx) len thr ((po tx len 0 o1 o2).2.1) (nI ((po tx len 0 o1 o2).2.2.1)) (nO ((po tx len 0 o1 o2).2.2.2.1)) (nO ((po tx len 0 o1 o2).2.2.2.2)) 0 hs ++ Z) s H locs := hw
  have hP := hw.1
  refine lv_istore_n (lv' := [(2, .int (bI ((po tx len 0 o1 o2).1))), (0, .ref (b 0)), (1, .int (nI (1)))]) hx hb dX7_readText_14 rfl hl (by decide) rfl (fun ls hl => ?_)
  have lp15 : ∀ (j_ k : Nat), k + j_ = len + 1 → ∀ (i : Nat) (a1 : Option Nat) (a2 : Option Nat) (τ : Nat → Int32), i ≤ len → k ≤ i → pv tx len (len + 1) 0 = pv tx len j_ i → Val τ → exT tx len (len + 1) 0 σ = ((exT tx len j_ i τ).1, (exT tx len j_ i τ).2 + k) → ∀ (H : Heap) (locs : List Loc) (ls : Array Slot), wS D A (wM cy b (mS τ) saved many bef (tI tx) len thr ((po tx len i a1 a2).2.1) (nI ((po tx len i a1 a2).2.2.1)) (nO ((po tx len i a1 a2).2.2.2.1)) (nO ((po tx len i a1 a2).2.2.2.2)) k hs ++ Z) s H locs → lv_has ls 3 [(0, .ref (b 0)), (1, .int (nI (1))), (2, .int (bI ((po tx len i a1 a2).1)))] → W p l e (k2_rm 9 198) s m ([.ref (b 0), .int (nI (1))] : List Value).toArray below meth c H locs 0 0 (MQ below (gE D A (fun v9 w9 => v9 = some (.int (bI true)) ∧ ∃ (t9 l9 : Nat) (x9 y9 : Option Nat), w9 = (wM cy b (mS (exT tx len (len + 1) 0 σ).1) saved many bef (tI tx) len thr t9 (nI l9) (nO x9) (nO y9) (exT tx len (len + 1) 0 σ).2 hs ++ Z))) ([.ref (b 0), .int (nI (1))] : List Value).toArray s 0 0 A) (F0 m 15 ls []) := by
    intro j_
    induction j_ with
    | zero =>
      intro k hn_k i a1 a2 τ hy0 hy1 hy2 hy3 hy4 H locs ls hw hl
      intros; omega
    | succ j_ ih_k =>
      intro k hn_k i a1 a2 τ hy0 hy1 hy2 hy3 hy4 H locs ls hw hl
      have hP := hw.1
      refine lv_iload_n hx hb dX7_readText_15 rfl (lv_at hl 2 rfl) ?_
      refine q_ifeqB (tgt := 85) hx hb dX7_readText_16 (by decide) (fun c_16 => ?_) (fun c_16 => ?_)
      · refine lv_iconst (v := nI 0) hx hb dX7_readText_85 rfl ?_
        exact absurd h_3 (by rw [hy2, pv_f (by rw [← po_1 a1 a2]; exact c_16)]; exact Bool.false_ne_true)
      · refine lv_iload_n hx hb dX7_readText_19 rfl (lv_at hl 1 rfl) ?_
        refine q_ifeqN (tgt := 37) hx hb dX7_readText_20 (by decide) (by omega) (fun c_20 => absurd c_20 (by omega)) (fun c_20 => ?_)
        refine lv_aload_n hx hb dX7_readText_23 rfl (lv_at hl 0 rfl) ?_
        refine q_cV (As := []) (rest := []) ⟨hx, hb, hml, hown, hts⟩ (c_X7_errorOfOrder D cy b τ saved many bef (tI tx) len thr ((po tx len i a1 a2).2.1) (nI ((po tx len i a1 a2).2.2.1)) (nO ((po tx len i a1 a2).2.2.2.1)) (nO ((po tx len i a1 a2).2.2.2.2)) k hs Z ((po tx len i a1 a2).2.2.1) ((po tx len i a1 a2).2.2.2.1) ((po tx len i a1 a2).2.2.2.2) (po_OK h_0 c_16)) (cwV 0 hts gX7_readText_X7_errorOfOrder rfl rfl rfl hd_X7_errorOfOrder ⟨Nat.le_of_ble_eq_true rfl, Nat.le_of_ble_eq_true rfl⟩) hK hP 0 rfl rfl rfl hl.1 rfl (Nat.le_of_ble_eq_true rfl) ⟨Nat.zero_le _, Nat.zero_le _⟩ dX7_readText_24 ?_
        refine q_ifleN (tgt := 32) hx hb dX7_readText_27 (by decide) (by have h9 := errO_le τ (po tx len i a1 a2).2.2.1 (po tx len i a1 a2).2.2.2.1; omega) (fun c_27 => ?_) (fun c_27 => ?_)
        · refine lv_aload_n hx hb dX7_readText_32 rfl (lv_at hl 0 rfl) ?_
          refine q_wV0 (As := []) (rest := []) (st1 := [.int (rvO τ ((po tx len i a1 a2).2.2.1) ((po tx len i a1 a2).2.2.2.1))]) ⟨hx, hb, hml, hown, hts⟩ (c_X7_does D cy A b τ saved many bef (tI tx) len thr ((po tx len i a1 a2).2.1) (nI ((po tx len i a1 a2).2.2.1)) (nO ((po tx len i a1 a2).2.2.2.1)) (nO ((po tx len i a1 a2).2.2.2.2)) k hs Z ((po tx len i a1 a2).2.2.1) ((po tx len i a1 a2).2.2.2.1) ((po tx len i a1 a2).2.2.2.2) (po_OK h_0 c_16) hy3) (cwV 0 hts gX7_readText_X7_does rfl rfl rfl hd_X7_does ⟨Nat.le_of_ble_eq_true rfl, Nat.le_of_ble_eq_true rfl⟩) hK hA hw 0 rfl rfl rfl hl.1 rfl rfl (Nat.le_of_ble_eq_true rfl) ⟨Nat.zero_le _, Nat.zero_le _⟩ dX7_readText_33 (fun H locs hw => ?_)
          have hw : wS D A (wM cy b (mS (doO τ ((po tx len i a1 a2).2.2.1) ((po tx len i a1 a2).2.2.2.1) ((po tx len i a1 a2).2.2.2.2))) saved many bef (tI tx) len thr ((po tx len i a1 a2).2.1) (nI (((po tx len i a1 a2).2.2.1))) (nO (((po tx len i a1 a2).2.2.2.1))) (nO (((po tx len i a1 a2).2.2.2.2))) k hs ++ Z) s H locs := hw
          have hP := hw.1
          refine lv_pop hx hb dX7_readText_36 rfl ?_
          refine lv_aload_n hx hb dX7_readText_37 rfl (lv_at hl 0 rfl) ?_
          refine lv_dup hx hb dX7_readText_38 rfl ?_
          refine va_get (D := D) (ci := 7) (v := .int (nI (k))) (C := RX7) (T := TX7) (N := 13) hx hb hts (fun _ h => List.mem_cons_of_mem _ (List.mem_append_right _ h)) hown hK hP 0 rfl rfl 11 (by decide) (hts (.fieldLink RX7 190 "SpreadParityModel" "done" "I") (List.mem_of_getElem? (i := 2) rfl)) (fun _ h9 => h9) rfl dX7_readText_39 ?_
          refine lv_iconst (v := nI 1) hx hb dX7_readText_42 rfl ?_
          refine q_addN hx hb dX7_readText_43 ?_
          refine va_put (D := D) (ci := 7) (v := .int (nI (k + 1))) (ty := .int) (C := RX7) (T := TX7) (N := 13) hx hb hts (fun _ h => List.mem_cons_of_mem _ (List.mem_append_right _ h)) tyX7 tyX7_ok nmX7 hown hK hw.1 hw.2.1 hw.2.2 0 rfl rfl 11 (by decide) (hts (.fieldLink RX7 190 "SpreadParityModel" "done" "I") (List.mem_of_getElem? (i := 2) rfl)) (fun _ h9 => h9) rfl (tyX7_ok 11 (by decide)) rfl rfl (Nat.le_of_ble_eq_true rfl) dX7_readText_44 (fun H locs hP hD hS => ?_)
          have hw : wS D A (wM cy b (mS (doO τ ((po tx len i a1 a2).2.2.1) ((po tx len i a1 a2).2.2.2.1) ((po tx len i a1 a2).2.2.2.2))) saved many bef (tI tx) len thr ((po tx len i a1 a2).2.1) (nI (((po tx len i a1 a2).2.2.1))) (nO (((po tx len i a1 a2).2.2.2.1))) (nO (((po tx len i a1 a2).2.2.2.2))) (k + 1) hs ++ Z) s H locs := ⟨hP, hD, hS⟩
          refine lv_aload_n hx hb dX7_readText_47 rfl (lv_at hl 0 rfl) ?_
          refine va_get (D := D) (ci := 7) (v := .int (nI ((po tx len i a1 a2).2.1))) (C := RX7) (T := TX7) (N := 13) hx hb hts (fun _ h => List.mem_cons_of_mem _ (List.mem_append_right _ h)) hown hK hP 0 rfl rfl 7 (by decide) (hts (.fieldLink RX7 166 "SpreadParityModel" "at" "I") (List.mem_of_getElem? (i := 1) rfl)) (fun _ h9 => h9) rfl dX7_readText_48 ?_
          refine lv_aload_n hx hb dX7_readText_51 rfl (lv_at hl 0 rfl) ?_
          refine va_get (D := D) (ci := 7) (v := .int (nI (len))) (C := RX7) (T := TX7) (N := 13) hx hb hts (fun _ h => List.mem_cons_of_mem _ (List.mem_append_right _ h)) hown hK hP 0 rfl rfl 5 (by decide) (hts (.fieldLink RX7 163 "SpreadParityModel" "length" "I") (List.mem_of_getElem? (i := 3) rfl)) (fun _ h9 => h9) rfl dX7_readText_52 ?_
          refine q_neN (tgt := 60) hx hb dX7_readText_55 (by decide) (by have h9 := po_le tx len i a1 a2 hy0 h_1; omega) (by omega) (fun c_55 => ?_) (fun c_55 => ?_)
          · refine lv_aload_n hx hb dX7_readText_60 rfl (lv_at hl 0 rfl) ?_
            refine lv_bipush (v := nI 59) hx hb dX7_readText_61 rfl ?_
            refine q_wV0 (As := [.int (nI (59))]) (rest := []) (st1 := [.int (bI (nxt tx len ((po tx len i a1 a2).2.1) 59 59))]) ⟨hx, hb, hml, hown, hts⟩ (c_X7_takes D cy A b (doO τ ((po tx len i a1 a2).2.2.1) ((po tx len i a1 a2).2.2.2.1) ((po tx len i a1 a2).2.2.2.2)) saved many bef (tI tx) len thr ((po tx len i a1 a2).2.1) (nI (((po tx len i a1 a2).2.2.1))) (nO (((po tx len i a1 a2).2.2.2.1))) (nO (((po tx len i a1 a2).2.2.2.2))) (k + 1) hs Z (tx) (59) (by omega) h_0 h_1 (by have h9 := po_le tx len i a1 a2 hy0 h_1; omega)) (cwV 1 hts gX7_readText_X7_takes rfl rfl rfl hd_X7_takes ⟨Nat.le_of_ble_eq_true rfl, Nat.le_of_ble_eq_true rfl⟩) hK hA hw 0 rfl rfl rfl hl.1 rfl rfl (Nat.le_of_ble_eq_true rfl) ⟨Nat.zero_le _, Nat.zero_le _⟩ dX7_readText_63 (fun H locs hw => ?_)
            have hw : wS D A (wM cy b (mS (doO τ ((po tx len i a1 a2).2.2.1) ((po tx len i a1 a2).2.2.2.1) ((po tx len i a1 a2).2.2.2.2))) saved many bef (tI tx) len thr (tkM tx len ((po tx len i a1 a2).2.1) 59) (nI (((po tx len i a1 a2).2.2.1))) (nO (((po tx len i a1 a2).2.2.2.1))) (nO (((po tx len i a1 a2).2.2.2.2))) (k + 1) hs ++ Z) s H locs := hw
            have hP := hw.1
            refine q_ifeqB (tgt := 80) hx hb dX7_readText_66 (by decide) (fun c_66 => ?_) (fun c_66 => ?_)
            · refine lv_iconst (v := nI 0) hx hb dX7_readText_80 rfl ?_
              refine lv_istore_n (lv' := [(2, .int (nI (0))), (0, .ref (b 0)), (1, .int (nI (1)))]) hx hb dX7_readText_81 rfl hl (by decide) rfl (fun ls hl => ?_)
              refine lv_goto (tgt := 15) hx hb dX7_readText_82 (by decide) ?_
              refine lv_iload_n hx hb dX7_readText_15 rfl (lv_at hl 0 rfl) ?_
              refine q_ifeqN (tgt := 85) hx hb dX7_readText_16 (by decide) (by omega) (fun d_16 => ?_) (fun d_16 => absurd d_16 (by omega))
              refine lv_iconst (v := nI 0) hx hb dX7_readText_85 rfl ?_
              exact absurd h_3 (by rw [hy2, pv_s (by rw [← po_1 a1 a2]; exact c_16) (by rw [← po_2 a1 a2]; exact c_55), ← po_2 a1 a2, if_neg (by rw [c_66]; decide)]; exact Bool.false_ne_true)
            · have e_t : tkM tx len ((po tx len i a1 a2).2.1) 59 = (po tx len i a1 a2).2.1 + 1 := by rw [tkM, if_pos c_66]
              rw [e_t] at hw
              have hP := hw.1
              have h_lt := nxt_lt c_66
              refine lv_aload_n hx hb dX7_readText_69 rfl (lv_at hl 0 rfl) ?_
              refine q_wV0 (As := []) (rest := []) (st1 := [.int (bI ((po tx len ((po tx len i a1 a2).2.1 + 1) (((po tx len i a1 a2).2.2.2.1)) (((po tx len i a1 a2).2.2.2.2))).1))]) ⟨hx, hb, hml, hown, hts⟩ (c_X7_readOrder D cy A b (doO τ ((po tx len i a1 a2).2.2.1) ((po tx len i a1 a2).2.2.2.1) ((po tx len i a1 a2).2.2.2.2)) saved many bef (tI tx) len thr ((po tx len i a1 a2).2.1 + 1) (nI (((po tx len i a1 a2).2.2.1))) (nO (((po tx len i a1 a2).2.2.2.1))) (nO (((po tx len i a1 a2).2.2.2.2))) (k + 1) hs Z (tx) (((po tx len i a1 a2).2.2.1)) (((po tx len i a1 a2).2.2.2.1)) (((po tx len i a1 a2).2.2.2.2)) h_0 h_1 (by omega)) (cwV 0 hts gX7_readText_X7_readOrder rfl rfl rfl hd_X7_readOrder ⟨Nat.le_of_ble_eq_true rfl, Nat.le_of_ble_eq_true rfl⟩) hK hA hw 0 rfl rfl rfl hl.1 rfl rfl (Nat.le_of_ble_eq_true rfl) ⟨Nat.zero_le _, Nat.zero_le _⟩ dX7_readText_70 (fun H locs hw => ?_)
              have hw : wS D A (wM cy b (mS (doO τ ((po tx len i a1 a2).2.2.1) ((po tx len i a1 a2).2.2.2.1) ((po tx len i a1 a2).2.2.2.2))) saved many bef (tI tx) len thr ((po tx len ((po tx len i a1 a2).2.1 + 1) (((po tx len i a1 a2).2.2.2.1)) (((po tx len i a1 a2).2.2.2.2))).2.1) (nI ((po tx len ((po tx len i a1 a2).2.1 + 1) (((po tx len i a1 a2).2.2.2.1)) (((po tx len i a1 a2).2.2.2.2))).2.2.1)) (nO ((po tx len ((po tx len i a1 a2).2.1 + 1) (((po tx len i a1 a2).2.2.2.1)) (((po tx len i a1 a2).2.2.2.2))).2.2.2.1)) (nO ((po tx len ((po tx len i a1 a2).2.1 + 1) (((po tx len i a1 a2).2.2.2.1)) (((po tx len i a1 a2).2.2.2.2))).2.2.2.2)) (k + 1) hs ++ Z) s H locs := hw
              have hP := hw.1
              refine q_ifeqB (tgt := 80) hx hb dX7_readText_73 (by decide) (fun c_73 => ?_) (fun c_73 => ?_)
              · refine lv_iconst (v := nI 0) hx hb dX7_readText_80 rfl ?_
                refine lv_istore_n (lv' := [(2, .int (nI (0))), (0, .ref (b 0)), (1, .int (nI (1)))]) hx hb dX7_readText_81 rfl hl (by decide) rfl (fun ls hl => ?_)
                have e_c : bI ((po tx len ((po tx len i a1 a2).2.1 + 1) (po tx len i a1 a2).2.2.2.1 (po tx len i a1 a2).2.2.2.2).1) = 0 := by rw [c_73]; rfl
                have hl : lv_has ls 3 [(2, .int (bI ((po tx len ((po tx len i a1 a2).2.1 + 1) (po tx len i a1 a2).2.2.2.1 (po tx len i a1 a2).2.2.2.2).1))), (0, .ref (b 0)), (1, .int (nI (1)))] := by
                  rw [e_c]
                  exact hl
                refine lv_goto (tgt := 15) hx hb dX7_readText_82 (by decide) ?_
                exact ih_k (k + 1) (by omega) ((po tx len i a1 a2).2.1 + 1) ((po tx len i a1 a2).2.2.2.1) ((po tx len i a1 a2).2.2.2.2) (doO τ (po tx len i a1 a2).2.2.1 (po tx len i a1 a2).2.2.2.1 (po tx len i a1 a2).2.2.2.2) (by have h9 := nxt_lt c_66; omega) (by have h9 := po_ge tx len i a1 a2 c_16 h_1; omega) (by rw [hy2, pv_s (by rw [← po_1 a1 a2]; exact c_16) (by rw [← po_2 a1 a2]; exact c_55), ← po_2 a1 a2, if_pos c_66]) (Val_do hy3 (po_OK h_0 c_16) c_27) (by rw [hy4, exT_s (by rw [← po_e a1 a2 c_16]; omega) (by rw [← po_2 a1 a2]; exact c_55), ← po_2 a1 a2, po_d a1 a2 c_16, Nat.add_assoc, Nat.add_comm 1 k]) _ _ _ hw (lv_sub hl [1, 2, 0] rfl)
              · refine lv_iconst (v := nI 1) hx hb dX7_readText_76 rfl ?_
                refine lv_goto (tgt := 81) hx hb dX7_readText_77 (by decide) ?_
                refine lv_istore_n (lv' := [(2, .int (nI (1))), (0, .ref (b 0)), (1, .int (nI (1)))]) hx hb dX7_readText_81 rfl hl (by decide) rfl (fun ls hl => ?_)
                have e_c : bI ((po tx len ((po tx len i a1 a2).2.1 + 1) (po tx len i a1 a2).2.2.2.1 (po tx len i a1 a2).2.2.2.2).1) = 1 := by rw [c_73]; rfl
                have hl : lv_has ls 3 [(2, .int (bI ((po tx len ((po tx len i a1 a2).2.1 + 1) (po tx len i a1 a2).2.2.2.1 (po tx len i a1 a2).2.2.2.2).1))), (0, .ref (b 0)), (1, .int (nI (1)))] := by
                  rw [e_c]
                  exact hl
                refine lv_goto (tgt := 15) hx hb dX7_readText_82 (by decide) ?_
                exact ih_k (k + 1) (by omega) ((po tx len i a1 a2).2.1 + 1) ((po tx len i a1 a2).2.2.2.1) ((po tx len i a1 a2).2.2.2.2) (doO τ (po tx len i a1 a2).2.2.1 (po tx len i a1 a2).2.2.2.1 (po tx len i a1 a2).2.2.2.2) (by have h9 := nxt_lt c_66; omega) (by have h9 := po_ge tx len i a1 a2 c_16 h_1; omega) (by rw [hy2, pv_s (by rw [← po_1 a1 a2]; exact c_16) (by rw [← po_2 a1 a2]; exact c_55), ← po_2 a1 a2, if_pos c_66]) (Val_do hy3 (po_OK h_0 c_16) c_27) (by rw [hy4, exT_s (by rw [← po_e a1 a2 c_16]; omega) (by rw [← po_2 a1 a2]; exact c_55), ← po_2 a1 a2, po_d a1 a2 c_16, Nat.add_assoc, Nat.add_comm 1 k]) _ _ _ hw (lv_sub hl [1, 2, 0] rfl)
          · refine lv_iconst (v := nI 1) hx hb dX7_readText_58 rfl ?_
            have e_w : exT tx len (len + 1) 0 σ = (doO τ (po tx len i a1 a2).2.2.1 (po tx len i a1 a2).2.2.2.1 (po tx len i a1 a2).2.2.2.2, k + 1) := by rw [hy4, exT_1 (by rw [← po_e a1 a2 c_16]; omega) (by rw [← po_2 a1 a2]; exact c_55), po_d a1 a2 c_16, Nat.add_comm]
            have hw : wS D A (wM cy b (mS (exT tx len (len + 1) 0 σ).1) saved many bef (tI tx) len thr ((po tx len i a1 a2).2.1) (nI (((po tx len i a1 a2).2.2.1))) (nO (((po tx len i a1 a2).2.2.2.1))) (nO (((po tx len i a1 a2).2.2.2.2))) ((exT tx len (len + 1) 0 σ).2) hs ++ Z) s H locs := by rw [e_w]; exact hw
            exact q_zretE true hx hb hr hlocks hw dX7_readText_59 (rfl : nI 1 = bI true) ⟨rfl, (po tx len i a1 a2).2.1, ((po tx len i a1 a2).2.2.1), ((po tx len i a1 a2).2.2.2.1), ((po tx len i a1 a2).2.2.2.2), rfl⟩
        · refine lv_iconst (v := nI 1) hx hb dX7_readText_30 rfl ?_
          have e_w : exT tx len (len + 1) 0 σ = (τ, k) := by rw [hy4, exT_0 (by rw [← po_e a1 a2 c_16]; exact c_27), Nat.zero_add]
          have hw : wS D A (wM cy b (mS (exT tx len (len + 1) 0 σ).1) saved many bef (tI tx) len thr ((po tx len i a1 a2).2.1) (nI ((po tx len i a1 a2).2.2.1)) (nO ((po tx len i a1 a2).2.2.2.1)) (nO ((po tx len i a1 a2).2.2.2.2)) ((exT tx len (len + 1) 0 σ).2) hs ++ Z) s H locs := by rw [e_w]; exact hw
          exact q_zretE true hx hb hr hlocks hw dX7_readText_31 (rfl : nI 1 = bI true) ⟨rfl, (po tx len i a1 a2).2.1, (po tx len i a1 a2).2.2.1, (po tx len i a1 a2).2.2.2.1, (po tx len i a1 a2).2.2.2.2, rfl⟩
  exact lp15 ((len + 1) - 0) 0 (by omega) (0) (o1) (o2) (σ) (Nat.zero_le _) (Nat.le_refl _) (rfl) (h_2) (rfl) _ _ _ hw (lv_sub hl [1, 2, 0] rfl)
