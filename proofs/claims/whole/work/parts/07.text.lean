-- ---- numbers that may be none
def nO (o : Option Nat) : Int32 := match o with
  | none => -1
  | some v => nI v
def oB (o : Option Nat) : Prop := ∀ b, o = some b → b ≤ 65535
theorem oB_none : oB none := fun b h => by cases h
theorem nI1 : nI 1 = 1 := rfl
theorem nO_m1 {o : Option Nat} (h : oB o) (h2 : nO o = -1) : o = none := by
  cases o with
  | none => rfl
  | some b => exact absurd h2 (nI_ne_m1 (by have := h b rfl; omega))
theorem nO_n {o : Option Nat} (_ : oB o) (h2 : ¬ nO o = -1) : ¬ o = none := fun h3 => h2 (by rw [h3]; rfl)
theorem nO_s {o : Option Nat} (_ : oB o) (h2 : ¬ nO o = -1) : o.isSome = true := by
  cases o with
  | none => exact absurd rfl h2
  | some b => rfl
/-- above 0 -/
def oP (o : Option Nat) : Bool := match o with
  | none => false
  | some v => decide (0 < v)
theorem nO_le {o : Option Nat} (h : oB o) (h2 : nO o ≤ 0) : oP o = false := by
  cases o with
  | none => rfl
  | some b =>
    have h4 := h b rfl
    have h3 : nI b ≤ nI 0 := h2
    have h5 := (nI_leI (by omega) (by omega)).mp h3
    simp [oP]; omega
theorem nO_gt {o : Option Nat} (h : oB o) (h2 : ¬ nO o ≤ 0) : oP o = true := by
  cases o with
  | none => exact absurd (by decide) h2
  | some b =>
    have h4 := h b rfl
    have h3 : ¬ nI b ≤ nI 0 := h2
    have h5 : ¬ b ≤ 0 := fun q => h3 ((nI_leI (by omega) (by omega)).mpr q)
    simp [oP]; omega
/-- the number before, with a digit more -/
def wdv (o : Option Nat) (c : Nat) : Nat := match o with
  | none => c - 48
  | some b => 10 * b + (c - 48)
def wd (o : Option Nat) (c top : Nat) : Option Nat := if c < 48 ∨ 57 < c ∨ o = some 0 then none else if wdv o c ≤ top then some (wdv o c) else none
theorem wd_B (o : Option Nat) (c : Nat) {top : Nat} (h : top ≤ 65535) : oB (wd o c top) := fun b hb => by
  unfold wd at hb
  split at hb
  · cases hb
  · split at hb
    · cases hb; omega
    · cases hb
/-- the reader: phase, letter, number, value -/
abbrev RSt : Type := Nat × Nat × Option Nat × Option Nat
def rOK (r : RSt) : Prop := r.1 ≤ 5 ∧ oB r.2.2.1 ∧ oB r.2.2.2
def tkL (pp c : Nat) : Bool × RSt := if c = 119 then (true, 1, c, none, none) else if c = 102 ∨ c = 109 then (true, 3, c, none, none) else if c = 115 then (true, 4, c, none, none) else if c = 99 then (true, 5, c, none, none) else (false, pp, c, none, none)
def tkA (pp lc : Nat) (on ov : Option Nat) (c : Nat) : Bool × RSt := if c = 61 ∧ ¬ on = none then (true, 2, lc, on, ov) else ((wd on c 41).isSome, pp, lc, wd on c 41, ov)
def tkV (pp lc : Nat) (on ov : Option Nat) (c : Nat) : Bool × RSt := if c = 59 ∧ ¬ ov = none then (true, 0, lc, on, ov) else ((wd ov c 65535).isSome, pp, lc, on, wd ov c 65535)
def tkD (lc : Nat) (ov : Option Nat) (c : Nat) : Bool × RSt := ((wd none c 6).isSome, 5, lc, wd none c 6, ov)
def tkS (lc : Nat) (ov : Option Nat) (c : Nat) : Bool × RSt := (oP (wd none c 9), 5, lc, wd none c 9, ov)
def tkN (r : RSt) (c : Nat) : Bool × RSt := if r.1 = 0 then tkL r.1 c else if r.1 = 1 then tkA r.1 r.2.1 r.2.2.1 r.2.2.2 c else if r.1 = 2 then tkV r.1 r.2.1 r.2.2.1 r.2.2.2 c else if r.1 = 3 then tkD r.2.1 r.2.2.2 c else if r.1 = 4 then tkS r.2.1 r.2.2.2 c else (decide (c = 59), 0, r.2.1, r.2.2.1, r.2.2.2)
theorem tkN_OK {r : RSt} (h : rOK r) {c : Nat} (_ : c ≤ 126) : rOK (tkN r c).2 := by
  obtain ⟨pp, lc, on, ov⟩ := r
  obtain ⟨h1, h2, h3⟩ := h
  simp only at h1 h2 h3
  unfold tkN
  simp only
  split
  · unfold tkL
    repeat' split
    all_goals exact ⟨by simp <;> omega, oB_none, oB_none⟩
  · split
    · unfold tkA
      split
      · exact ⟨by simp, h2, h3⟩
      · exact ⟨by simpa using h1, wd_B _ _ (by omega), h3⟩
    · split
      · unfold tkV
        split
        · exact ⟨by simp, h2, h3⟩
        · exact ⟨by simpa using h1, h2, wd_B _ _ (by omega)⟩
      · split
        · exact ⟨by simp [tkD], wd_B _ _ (by omega), h3⟩
        · split
          · exact ⟨by simp [tkS], wd_B _ _ (by omega), h3⟩
          · exact ⟨by simp, h2, h3⟩
/-- the text may end here -/
def mE (r : RSt) : Bool := decide (r.1 = 5) || (decide (r.1 = 2) && r.2.2.2.isSome)
/-- the buffer -/
def tI (tx : Nat → Nat) : Nat → Int32 := fun i => nI (tx i)
/-- k signs from the place i on, up to the first refused one: its place, and the reader then -/
def scan (tx : Nat → Nat) : Nat → Nat → RSt → Nat × RSt
  | 0, i, r => (i, r)
  | k + 1, i, r => if (tkN r (tx i)).1 = true then scan tx k (i + 1) (tkN r (tx i)).2 else (i, (tkN r (tx i)).2)
theorem scan_le (tx : Nat → Nat) : ∀ (k i : Nat) (r : RSt), (scan tx k i r).1 ≤ i + k := by
  intro k
  induction k with
  | zero => intro i r; simp [scan]
  | succ k ih =>
    intro i r
    simp only [scan]
    split
    · have := ih (i + 1) (tkN r (tx i)).2; omega
    · simp
theorem scan_OK (tx : Nat → Nat) (h : ∀ i, tx i ≤ 126) : ∀ (k i : Nat) {r : RSt}, rOK r → rOK (scan tx k i r).2 := by
  intro k
  induction k with
  | zero => intro i r hr; exact hr
  | succ k ih =>
    intro i r hr
    simp only [scan]
    split
    · exact ih (i + 1) (tkN_OK hr (h i))
    · exact tkN_OK hr (h i)
/-- the reader over the signs from the place i on, up to a ';' or the end -/
def nxA (tx : Nat → Nat) (n : Nat) : Nat → Nat → RSt → Nat × RSt
  | 0, i, r => (i, r)
  | k + 1, i, r => if i < n ∧ ¬ tx i = 59 then nxA tx n k (i + 1) (tkN r (tx i)).2 else (i, r)
def nxO (tx : Nat → Nat) (n pos : Nat) (r : RSt) : Bool × Nat × RSt := if pos < n then (true, (nxA tx n (n - pos) pos (0, r.2)).1 + 1, (nxA tx n (n - pos) pos (0, r.2)).2) else (false, pos, r)
section
variable {p : Program} {l : Launch} {e : Env} {R : Room} {s : State} {m : MethodId} {args : Array Value} {below : List Frame} {meth : Method} {c : Code} {H : Heap} {locs : List Loc} {cells slots : Nat} {Q : State → Prop} {cc : ByteArray} {pc : Nat} {ls : Array Slot} {rest : List Value}
theorem q_look (hexec : p.tables.exec = Jvm.exec) (hb : c.code = cc) {dflt : Int} {ps : Array (Int × Int)} {len n : Nat} {off : Int} {tgt : Nat} (hdg : decode cc pc = .ok (.lookupswitch dflt ps, len)) (hp : (ps.toList.zip (ps.toList.drop 1)).all (fun (a, next) => a.1 < next.1) = true) (ho : Op.lookupswitch.offset ps.toList dflt (n : Int) = off) (hn : n < 2 ^ 31) (ht : (pc : Int) + off = (tgt : Int))
    (k : W p l e R s m args below meth c H locs cells slots Q (F0 m tgt ls rest)) : W p l e R s m args below meth c H locs cells slots Q (F0 m pc ls (.int (nI n) :: rest)) := lv_lookup hexec hb hdg hp (by rw [nI_toInt hn]; exact ho) ht k
end

set_option maxHeartbeats 1000000 in
set_option maxRecDepth 100000 in
theorem c_X2_withDigit_n {l : Launch} (D : va_G) (cy : ClassId)  (ch : Nat) (top : Nat) (h_0 : ch ≤ 126) (h_1 : top ≤ 65535) : Met l yX2_withDigit wsX2_withDigit (k2_rm 0 0) (gR D cy [.int (-1), .int (nI (ch)), .int (nI (top))] []) (k2_QcV (.int (nO (wd none ch top)))) 0 0 (fun _ => False) := by
  refine q_pure (cc := cX2_withDigit) (maxL := 5) (ret := (some .int)) pl_X2 rfl (Nat.le_of_ble_eq_true rfl) ?_
  intro p e s m below meth c ls hx hb hr hml hts hown hlocks hP hK hl
  have hl : lv_has ls 5 [(0, .int (-1)), (1, .int (nI (ch))), (2, .int (nI (top)))] := hl
  refine lv_iload_n hx hb dX2_withDigit_0 rfl (lv_at hl 1 rfl) ?_
  refine lv_bipush (v := nI 48) hx hb dX2_withDigit_1 rfl ?_
  refine q_ltN (tgt := 16) hx hb dX2_withDigit_3 (by decide) (by omega) (by omega) (fun c_3 => ?_) (fun c_3 => ?_)
  · refine lv_iconst (v := -1) hx hb dX2_withDigit_16 rfl ?_
    exact q_iret hx hb hr hlocks dX2_withDigit_17 (by rw [wd, if_pos (Or.inl c_3)]; rfl)
  · refine lv_iload_n hx hb dX2_withDigit_6 rfl (lv_at hl 1 rfl) ?_
    refine lv_bipush (v := nI 57) hx hb dX2_withDigit_7 rfl ?_
    refine q_gtN (tgt := 16) hx hb dX2_withDigit_9 (by decide) (by omega) (by omega) (fun c_9 => ?_) (fun c_9 => ?_)
    · refine lv_iconst (v := -1) hx hb dX2_withDigit_16 rfl ?_
      exact q_iret hx hb hr hlocks dX2_withDigit_17 (by rw [wd, if_pos (Or.inr (Or.inl c_9))]; rfl)
    · refine lv_iload_n hx hb dX2_withDigit_12 rfl (lv_at hl 0 rfl) ?_
      refine lv_if_ne (tgt := 18) hx hb dX2_withDigit_13 (by decide) (fun (c_13 : ¬ (-1) = 0) => ?_) (fun (c_13 : (-1) = 0) => absurd c_13 (by decide))
      refine lv_iload_n hx hb dX2_withDigit_18 rfl (lv_at hl 1 rfl) ?_
      refine lv_bipush (v := nI 48) hx hb dX2_withDigit_19 rfl ?_
      refine q_subN hx hb dX2_withDigit_21 (by omega) ?_
      refine lv_istore_n (lv' := [(3, .int (nI (ch - 48))), (0, .int (-1)), (1, .int (nI (ch))), (2, .int (nI (top)))]) hx hb dX2_withDigit_22 rfl hl (by decide) rfl (fun ls hl => ?_)
      refine lv_iload_n hx hb dX2_withDigit_23 rfl (lv_at hl 1 rfl) ?_
      refine lv_iconst (v := -1) hx hb dX2_withDigit_24 rfl ?_
      refine lv_icmp_ne (tgt := 32) hx hb dX2_withDigit_25 (by decide) (fun (c_25 : ¬ (-1) = (-1)) => absurd rfl c_25) (fun (c_25 : (-1) = (-1)) => ?_)
      refine lv_iload_n hx hb dX2_withDigit_28 rfl (lv_at hl 0 rfl) ?_
      refine lv_goto (tgt := 38) hx hb dX2_withDigit_29 (by decide) ?_
      refine lv_istore (lv' := [(4, .int (nI (ch - 48))), (3, .int (nI (ch - 48))), (0, .int (-1)), (1, .int (nI (ch))), (2, .int (nI (top)))]) hx hb dX2_withDigit_38 hl (by decide) rfl (fun ls hl => ?_)
      refine lv_iload hx hb dX2_withDigit_40 (lv_at hl 0 rfl) ?_
      refine lv_iload_n hx hb dX2_withDigit_42 rfl (lv_at hl 4 rfl) ?_
      refine q_gtN (tgt := 51) hx hb dX2_withDigit_43 (by decide) (by omega) (by omega) (fun c_43 => ?_) (fun c_43 => ?_)
      · refine lv_iconst (v := -1) hx hb dX2_withDigit_51 rfl ?_
        exact q_iret hx hb hr hlocks dX2_withDigit_52 (by rw [wd, if_neg (by simp; omega), if_neg (by simp only [wdv]; omega)]; rfl)
      · refine lv_iload hx hb dX2_withDigit_46 (lv_at hl 0 rfl) ?_
        refine lv_goto (tgt := 52) hx hb dX2_withDigit_48 (by decide) ?_
        exact q_iret hx hb hr hlocks dX2_withDigit_52 (by rw [wd, if_neg (by simp; omega), if_pos (by simp only [wdv]; omega)]; rfl)
set_option maxHeartbeats 1000000 in
set_option maxRecDepth 100000 in
theorem c_X2_withDigit_s {l : Launch} (D : va_G) (cy : ClassId)  (b : Nat) (ch : Nat) (top : Nat) (h_0 : ch ≤ 126) (h_1 : top ≤ 65535) (h_2 : b ≤ 65535) : Met l yX2_withDigit wsX2_withDigit (k2_rm 0 0) (gR D cy [.int (nI (b)), .int (nI (ch)), .int (nI (top))] []) (k2_QcV (.int (nO (wd (some b) ch top)))) 0 0 (fun _ => False) := by
  refine q_pure (cc := cX2_withDigit) (maxL := 5) (ret := (some .int)) pl_X2 rfl (Nat.le_of_ble_eq_true rfl) ?_
  intro p e s m below meth c ls hx hb hr hml hts hown hlocks hP hK hl
  have hl : lv_has ls 5 [(0, .int (nI (b))), (1, .int (nI (ch))), (2, .int (nI (top)))] := hl
  refine lv_iload_n hx hb dX2_withDigit_0 rfl (lv_at hl 1 rfl) ?_
  refine lv_bipush (v := nI 48) hx hb dX2_withDigit_1 rfl ?_
  refine q_ltN (tgt := 16) hx hb dX2_withDigit_3 (by decide) (by omega) (by omega) (fun c_3 => ?_) (fun c_3 => ?_)
  · refine lv_iconst (v := -1) hx hb dX2_withDigit_16 rfl ?_
    exact q_iret hx hb hr hlocks dX2_withDigit_17 (by rw [wd, if_pos (Or.inl c_3)]; rfl)
  · refine lv_iload_n hx hb dX2_withDigit_6 rfl (lv_at hl 1 rfl) ?_
    refine lv_bipush (v := nI 57) hx hb dX2_withDigit_7 rfl ?_
    refine q_gtN (tgt := 16) hx hb dX2_withDigit_9 (by decide) (by omega) (by omega) (fun c_9 => ?_) (fun c_9 => ?_)
    · refine lv_iconst (v := -1) hx hb dX2_withDigit_16 rfl ?_
      exact q_iret hx hb hr hlocks dX2_withDigit_17 (by rw [wd, if_pos (Or.inr (Or.inl c_9))]; rfl)
    · refine lv_iload_n hx hb dX2_withDigit_12 rfl (lv_at hl 0 rfl) ?_
      refine q_ifneN (tgt := 18) hx hb dX2_withDigit_13 (by decide) (by omega) (fun c_13 => ?_) (fun c_13 => ?_)
      · refine lv_iload_n hx hb dX2_withDigit_18 rfl (lv_at hl 1 rfl) ?_
        refine lv_bipush (v := nI 48) hx hb dX2_withDigit_19 rfl ?_
        refine q_subN hx hb dX2_withDigit_21 (by omega) ?_
        refine lv_istore_n (lv' := [(3, .int (nI (ch - 48))), (0, .int (nI (b))), (1, .int (nI (ch))), (2, .int (nI (top)))]) hx hb dX2_withDigit_22 rfl hl (by decide) rfl (fun ls hl => ?_)
        refine lv_iload_n hx hb dX2_withDigit_23 rfl (lv_at hl 1 rfl) ?_
        refine lv_iconst (v := -1) hx hb dX2_withDigit_24 rfl ?_
        refine lv_icmp_ne (tgt := 32) hx hb dX2_withDigit_25 (by decide) (fun (c_25 : ¬ (nI (b)) = (-1)) => ?_) (fun (c_25 : (nI (b)) = (-1)) => absurd c_25 (nI_ne_m1 (by omega)))
        refine lv_bipush (v := nI 10) hx hb dX2_withDigit_32 rfl ?_
        refine lv_iload_n hx hb dX2_withDigit_34 rfl (lv_at hl 1 rfl) ?_
        refine q_mulN hx hb dX2_withDigit_35 ?_
        refine lv_iload_n hx hb dX2_withDigit_36 rfl (lv_at hl 0 rfl) ?_
        refine q_addN hx hb dX2_withDigit_37 ?_
        refine lv_istore (lv' := [(4, .int (nI ((10 * b) + (ch - 48)))), (3, .int (nI (ch - 48))), (0, .int (nI (b))), (1, .int (nI (ch))), (2, .int (nI (top)))]) hx hb dX2_withDigit_38 hl (by decide) rfl (fun ls hl => ?_)
        refine lv_iload hx hb dX2_withDigit_40 (lv_at hl 0 rfl) ?_
        refine lv_iload_n hx hb dX2_withDigit_42 rfl (lv_at hl 4 rfl) ?_
        refine q_gtN (tgt := 51) hx hb dX2_withDigit_43 (by decide) (by omega) (by omega) (fun c_43 => ?_) (fun c_43 => ?_)
        · refine lv_iconst (v := -1) hx hb dX2_withDigit_51 rfl ?_
          exact q_iret hx hb hr hlocks dX2_withDigit_52 (by rw [wd, if_neg (by simp; omega), if_neg (by simp only [wdv]; omega)]; rfl)
        · refine lv_iload hx hb dX2_withDigit_46 (lv_at hl 0 rfl) ?_
          refine lv_goto (tgt := 52) hx hb dX2_withDigit_48 (by decide) ?_
          exact q_iret hx hb hr hlocks dX2_withDigit_52 (by rw [wd, if_neg (by simp; omega), if_pos (by simp only [wdv]; omega)]; rfl)
      · refine lv_iconst (v := -1) hx hb dX2_withDigit_16 rfl ?_
        exact q_iret hx hb hr hlocks dX2_withDigit_17 (by rw [wd, if_pos (Or.inr (Or.inr (by rw [c_13])))]; rfl)
theorem c_X2_withDigit {l : Launch} (D : va_G) (cy : ClassId)  (bf : Option Nat) (ch : Nat) (top : Nat) (h_0 : ch ≤ 126) (h_1 : top ≤ 65535) (h_2 : oB bf) : Met l yX2_withDigit wsX2_withDigit (k2_rm 0 0) (gR D cy [.int (nO (bf)), .int (nI (ch)), .int (nI (top))] []) (k2_QcV (.int (nO (wd bf ch top)))) 0 0 (fun _ => False) := by
  cases bf with
  | none => exact c_X2_withDigit_n D cy ch top h_0 h_1
  | some b => exact c_X2_withDigit_s D cy b ch top h_0 h_1 (h_2 b rfl)
set_option maxHeartbeats 1000000 in
set_option maxRecDepth 100000 in
theorem c_X2_restart {l : Launch} (D : va_G) (cy : ClassId) (A : Nat → Prop) (a : Nat → Nat) (σ kept : Nat → Int32) (nxt cnt : Nat) (T : Nat → Int32) (len pos : Nat) (ph le nu va : Int32) (Z : va_W) (pp lc : Nat) (on ov : Option Nat) : Met l yX2_restart wsX2_restart (k2_rm 0 0) (gP D cy [.ref (a 17)] A (wX cy a σ kept nxt cnt T len pos (nI (pp)) (nI (lc)) (nO (on)) (nO (ov)) ++ Z)) (gQ D A (none) (wX cy a σ kept nxt cnt T len pos (nI (0)) (nI (lc)) (nO (on)) (nO (ov)) ++ Z)) 0 0 A := by
  refine q_imp (cc := cX2_restart) (maxL := 1) (ret := none) pl_X2 rfl (Nat.le_of_ble_eq_true rfl) ?_
  intro p e s m below meth c ls hx hb hr hml hts hown hlocks hw hK hA hl
  have hP := hw.1
  have hl : lv_has ls 1 [(0, .ref (a 17))] := hl
  refine lv_aload_n hx hb dX2_restart_0 rfl (lv_at hl 0 rfl) ?_
  refine lv_iconst (v := nI 0) hx hb dX2_restart_1 rfl ?_
  refine va_put (D := D) (ci := 2) (v := .int (nI (0))) (ty := .int) (C := RX2) (T := TX2) (N := 4) hx hb hts (fun _ h => List.mem_cons_of_mem _ (List.mem_append_right _ h)) tyX2 tyX2_ok nmX2 hown hK hw.1 hw.2.1 hw.2.2 17 rfl rfl 0 (by decide) (hts (.fieldLink RX2 11 "SpreadParity$OrderReader" "phase" "I") (List.mem_of_getElem? (i := 1) rfl)) (fun _ h9 => h9) rfl (tyX2_ok 0 (by decide)) rfl rfl (Nat.le_of_ble_eq_true rfl) dX2_restart_2 (fun H locs hP hD hS => ?_)
  have hw : wS D A (wX cy a σ kept nxt cnt T len pos (nI (0)) (nI (lc)) (nO (on)) (nO (ov)) ++ Z) s H locs := ⟨hP, hD, hS⟩
  exact q_vretW hx hb hr hlocks hw dX2_restart_5
set_option maxHeartbeats 1000000 in
set_option maxRecDepth 100000 in
theorem c_X2_orderLetter {l : Launch} (D : va_G) (cy : ClassId) (a : Nat → Nat) (σ kept : Nat → Int32) (nxt cnt : Nat) (T : Nat → Int32) (len pos : Nat) (ph le nu va : Int32) (Z : va_W) (pp lc : Nat) (on ov : Option Nat) : Met l yX2_orderLetter wsX2_orderLetter (k2_rm 0 0) (gR D cy [.ref (a 17)] (wX cy a σ kept nxt cnt T len pos (nI (pp)) (nI (lc)) (nO (on)) (nO (ov)) ++ Z)) (k2_QcV (.int (nI (lc)))) 0 0 (fun _ => False) := by
  refine q_pure (cc := cX2_orderLetter) (maxL := 1) (ret := (some .int)) pl_X2 rfl (Nat.le_of_ble_eq_true rfl) ?_
  intro p e s m below meth c ls hx hb hr hml hts hown hlocks hP hK hl
  have hl : lv_has ls 1 [(0, .ref (a 17))] := hl
  refine lv_aload_n hx hb dX2_orderLetter_0 rfl (lv_at hl 0 rfl) ?_
  refine va_get (D := D) (ci := 2) (v := .int (nI (lc))) (C := RX2) (T := TX2) (N := 4) hx hb hts (fun _ h => List.mem_cons_of_mem _ (List.mem_append_right _ h)) hown hK hP 17 rfl rfl 1 (by decide) (hts (.fieldLink RX2 21 "SpreadParity$OrderReader" "letter" "I") (List.mem_of_getElem? (i := 1) rfl)) (fun _ h9 => h9) rfl dX2_orderLetter_1 ?_
  exact q_iret hx hb hr hlocks dX2_orderLetter_4 (rfl)
set_option maxHeartbeats 1000000 in
set_option maxRecDepth 100000 in
theorem c_X2_orderNumber {l : Launch} (D : va_G) (cy : ClassId) (a : Nat → Nat) (σ kept : Nat → Int32) (nxt cnt : Nat) (T : Nat → Int32) (len pos : Nat) (ph le nu va : Int32) (Z : va_W) (pp lc : Nat) (on ov : Option Nat) : Met l yX2_orderNumber wsX2_orderNumber (k2_rm 0 0) (gR D cy [.ref (a 17)] (wX cy a σ kept nxt cnt T len pos (nI (pp)) (nI (lc)) (nO (on)) (nO (ov)) ++ Z)) (k2_QcV (.int (nO (on)))) 0 0 (fun _ => False) := by
  refine q_pure (cc := cX2_orderNumber) (maxL := 1) (ret := (some .int)) pl_X2 rfl (Nat.le_of_ble_eq_true rfl) ?_
  intro p e s m below meth c ls hx hb hr hml hts hown hlocks hP hK hl
  have hl : lv_has ls 1 [(0, .ref (a 17))] := hl
  refine lv_aload_n hx hb dX2_orderNumber_0 rfl (lv_at hl 0 rfl) ?_
  refine va_get (D := D) (ci := 2) (v := .int (nO (on))) (C := RX2) (T := TX2) (N := 4) hx hb hts (fun _ h => List.mem_cons_of_mem _ (List.mem_append_right _ h)) hown hK hP 17 rfl rfl 2 (by decide) (hts (.fieldLink RX2 15 "SpreadParity$OrderReader" "number" "I") (List.mem_of_getElem? (i := 1) rfl)) (fun _ h9 => h9) rfl dX2_orderNumber_1 ?_
  exact q_iret hx hb hr hlocks dX2_orderNumber_4 (rfl)
set_option maxHeartbeats 1000000 in
set_option maxRecDepth 100000 in
theorem c_X2_orderValue {l : Launch} (D : va_G) (cy : ClassId) (a : Nat → Nat) (σ kept : Nat → Int32) (nxt cnt : Nat) (T : Nat → Int32) (len pos : Nat) (ph le nu va : Int32) (Z : va_W) (pp lc : Nat) (on ov : Option Nat) : Met l yX2_orderValue wsX2_orderValue (k2_rm 0 0) (gR D cy [.ref (a 17)] (wX cy a σ kept nxt cnt T len pos (nI (pp)) (nI (lc)) (nO (on)) (nO (ov)) ++ Z)) (k2_QcV (.int (nO (ov)))) 0 0 (fun _ => False) := by
  refine q_pure (cc := cX2_orderValue) (maxL := 1) (ret := (some .int)) pl_X2 rfl (Nat.le_of_ble_eq_true rfl) ?_
  intro p e s m below meth c ls hx hb hr hml hts hown hlocks hP hK hl
  have hl : lv_has ls 1 [(0, .ref (a 17))] := hl
  refine lv_aload_n hx hb dX2_orderValue_0 rfl (lv_at hl 0 rfl) ?_
  refine va_get (D := D) (ci := 2) (v := .int (nO (ov))) (C := RX2) (T := TX2) (N := 4) hx hb hts (fun _ h => List.mem_cons_of_mem _ (List.mem_append_right _ h)) hown hK hP 17 rfl rfl 3 (by decide) (hts (.fieldLink RX2 18 "SpreadParity$OrderReader" "value" "I") (List.mem_of_getElem? (i := 1) rfl)) (fun _ h9 => h9) rfl dX2_orderValue_1 ?_
  exact q_iret hx hb hr hlocks dX2_orderValue_4 (rfl)
set_option maxHeartbeats 1000000 in
set_option maxRecDepth 100000 in
theorem c_X2_mayEnd {l : Launch} (D : va_G) (cy : ClassId) (a : Nat → Nat) (σ kept : Nat → Int32) (nxt cnt : Nat) (T : Nat → Int32) (len pos : Nat) (ph le nu va : Int32) (Z : va_W) (pp lc : Nat) (on ov : Option Nat) (h_0 : oB on) (h_1 : oB ov) (h_2 : pp ≤ 5) : Met l yX2_mayEnd wsX2_mayEnd (k2_rm 0 0) (gR D cy [.ref (a 17)] (wX cy a σ kept nxt cnt T len pos (nI (pp)) (nI (lc)) (nO (on)) (nO (ov)) ++ Z)) (k2_QcV (.int (bI (mE (pp, lc, on, ov))))) 0 0 (fun _ => False) := by
  refine q_pure (cc := cX2_mayEnd) (maxL := 1) (ret := (some .boolean)) pl_X2 rfl (Nat.le_of_ble_eq_true rfl) ?_
  intro p e s m below meth c ls hx hb hr hml hts hown hlocks hP hK hl
  have hl : lv_has ls 1 [(0, .ref (a 17))] := hl
  refine lv_aload_n hx hb dX2_mayEnd_0 rfl (lv_at hl 0 rfl) ?_
  refine va_get (D := D) (ci := 2) (v := .int (nI (pp))) (C := RX2) (T := TX2) (N := 4) hx hb hts (fun _ h => List.mem_cons_of_mem _ (List.mem_append_right _ h)) hown hK hP 17 rfl rfl 0 (by decide) (hts (.fieldLink RX2 11 "SpreadParity$OrderReader" "phase" "I") (List.mem_of_getElem? (i := 1) rfl)) (fun _ h9 => h9) rfl dX2_mayEnd_1 ?_
  refine lv_iconst (v := nI 5) hx hb dX2_mayEnd_4 rfl ?_
  refine q_eqN (tgt := 24) hx hb dX2_mayEnd_5 (by decide) (by omega) (by omega) (fun c_5 => ?_) (fun c_5 => ?_)
  · refine lv_iconst (v := nI 1) hx hb dX2_mayEnd_24 rfl ?_
    refine lv_goto (tgt := 29) hx hb dX2_mayEnd_25 (by decide) ?_
    exact q_zret hx hb hr hlocks dX2_mayEnd_29 (by simp [mE, bI, nI_0, nI1, c_5])
  · refine lv_aload_n hx hb dX2_mayEnd_8 rfl (lv_at hl 0 rfl) ?_
    refine va_get (D := D) (ci := 2) (v := .int (nI (pp))) (C := RX2) (T := TX2) (N := 4) hx hb hts (fun _ h => List.mem_cons_of_mem _ (List.mem_append_right _ h)) hown hK hP 17 rfl rfl 0 (by decide) (hts (.fieldLink RX2 11 "SpreadParity$OrderReader" "phase" "I") (List.mem_of_getElem? (i := 1) rfl)) (fun _ h9 => h9) rfl dX2_mayEnd_9 ?_
    refine lv_iconst (v := nI 2) hx hb dX2_mayEnd_12 rfl ?_
    refine q_neN (tgt := 28) hx hb dX2_mayEnd_13 (by decide) (by omega) (by omega) (fun c_13 => ?_) (fun c_13 => ?_)
    · refine lv_iconst (v := nI 0) hx hb dX2_mayEnd_28 rfl ?_
      exact q_zret hx hb hr hlocks dX2_mayEnd_29 (by simp [mE, bI, nI_0, nI1, c_5, c_13])
    · refine lv_aload_n hx hb dX2_mayEnd_16 rfl (lv_at hl 0 rfl) ?_
      refine va_get (D := D) (ci := 2) (v := .int (nO (ov))) (C := RX2) (T := TX2) (N := 4) hx hb hts (fun _ h => List.mem_cons_of_mem _ (List.mem_append_right _ h)) hown hK hP 17 rfl rfl 3 (by decide) (hts (.fieldLink RX2 18 "SpreadParity$OrderReader" "value" "I") (List.mem_of_getElem? (i := 2) rfl)) (fun _ h9 => h9) rfl dX2_mayEnd_17 ?_
      refine lv_iconst (v := -1) hx hb dX2_mayEnd_20 rfl ?_
      refine lv_icmp_eq (tgt := 28) hx hb dX2_mayEnd_21 (by decide) (fun (c_21 : (nO (ov)) = (-1)) => ?_) (fun (c_21 : ¬ (nO (ov)) = (-1)) => ?_)
      · refine lv_iconst (v := nI 0) hx hb dX2_mayEnd_28 rfl ?_
        exact q_zret hx hb hr hlocks dX2_mayEnd_29 (by simp [mE, bI, nI_0, nI1, c_5, c_13, nO_m1 h_1 c_21])
      · refine lv_iconst (v := nI 1) hx hb dX2_mayEnd_24 rfl ?_
        refine lv_goto (tgt := 29) hx hb dX2_mayEnd_25 (by decide) ?_
        exact q_zret hx hb hr hlocks dX2_mayEnd_29 (by simp [mE, bI, nI_0, nI1, c_5, c_13, nO_s h_1 c_21])
set_option maxHeartbeats 1000000 in
set_option maxRecDepth 100000 in
theorem c_X2_takesLetter {l : Launch} (D : va_G) (cy : ClassId) (A : Nat → Prop) (a : Nat → Nat) (σ kept : Nat → Int32) (nxt cnt : Nat) (T : Nat → Int32) (len pos : Nat) (ph le nu va : Int32) (Z : va_W) (pp lc : Nat) (on ov : Option Nat) (ch : Nat) (h_0 : ch ≤ 126) (h_1 : oB on) (h_2 : oB ov) : Met l yX2_takesLetter wsX2_takesLetter (k2_rm 0 0) (gP D cy [.ref (a 17), .int (nI (ch))] A (wX cy a σ kept nxt cnt T len pos (nI (pp)) (nI (lc)) (nO (on)) (nO (ov)) ++ Z)) (gQ D A (some (.int (bI ((tkL pp ch).1)))) (wX cy a σ kept nxt cnt T len pos (nI ((tkL pp ch).2.1)) (nI ((tkL pp ch).2.2.1)) (nO ((tkL pp ch).2.2.2.1)) (nO ((tkL pp ch).2.2.2.2)) ++ Z)) 0 0 A := by
  refine q_imp (cc := cX2_takesLetter) (maxL := 2) (ret := (some .boolean)) pl_X2 rfl (Nat.le_of_ble_eq_true rfl) ?_
  intro p e s m below meth c ls hx hb hr hml hts hown hlocks hw hK hA hl
  have hP := hw.1
  have hl : lv_has ls 2 [(0, .ref (a 17)), (1, .int (nI (ch)))] := hl
  refine lv_aload_n hx hb dX2_takesLetter_0 rfl (lv_at hl 0 rfl) ?_
  refine lv_iload_n hx hb dX2_takesLetter_1 rfl (lv_at hl 1 rfl) ?_
  refine va_put (D := D) (ci := 2) (v := .int (nI (ch))) (ty := .int) (C := RX2) (T := TX2) (N := 4) hx hb hts (fun _ h => List.mem_cons_of_mem _ (List.mem_append_right _ h)) tyX2 tyX2_ok nmX2 hown hK hw.1 hw.2.1 hw.2.2 17 rfl rfl 1 (by decide) (hts (.fieldLink RX2 21 "SpreadParity$OrderReader" "letter" "I") (List.mem_of_getElem? (i := 1) rfl)) (fun _ h9 => h9) rfl (tyX2_ok 1 (by decide)) rfl rfl (Nat.le_of_ble_eq_true rfl) dX2_takesLetter_2 (fun H locs hP hD hS => ?_)
  have hw : wS D A (wX cy a σ kept nxt cnt T len pos (nI (pp)) (nI (ch)) (nO (on)) (nO (ov)) ++ Z) s H locs := ⟨hP, hD, hS⟩
  refine lv_aload_n hx hb dX2_takesLetter_5 rfl (lv_at hl 0 rfl) ?_
  refine lv_iconst (v := -1) hx hb dX2_takesLetter_6 rfl ?_
  refine va_put (D := D) (ci := 2) (v := .int (-1)) (ty := .int) (C := RX2) (T := TX2) (N := 4) hx hb hts (fun _ h => List.mem_cons_of_mem _ (List.mem_append_right _ h)) tyX2 tyX2_ok nmX2 hown hK hw.1 hw.2.1 hw.2.2 17 rfl rfl 2 (by decide) (hts (.fieldLink RX2 15 "SpreadParity$OrderReader" "number" "I") (List.mem_of_getElem? (i := 2) rfl)) (fun _ h9 => h9) rfl (tyX2_ok 2 (by decide)) rfl rfl (Nat.le_of_ble_eq_true rfl) dX2_takesLetter_7 (fun H locs hP hD hS => ?_)
  have hw : wS D A (wX cy a σ kept nxt cnt T len pos (nI (pp)) (nI (ch)) (-1) (nO (ov)) ++ Z) s H locs := ⟨hP, hD, hS⟩
  refine lv_aload_n hx hb dX2_takesLetter_10 rfl (lv_at hl 0 rfl) ?_
  refine lv_iconst (v := -1) hx hb dX2_takesLetter_11 rfl ?_
  refine va_put (D := D) (ci := 2) (v := .int (-1)) (ty := .int) (C := RX2) (T := TX2) (N := 4) hx hb hts (fun _ h => List.mem_cons_of_mem _ (List.mem_append_right _ h)) tyX2 tyX2_ok nmX2 hown hK hw.1 hw.2.1 hw.2.2 17 rfl rfl 3 (by decide) (hts (.fieldLink RX2 18 "SpreadParity$OrderReader" "value" "I") (List.mem_of_getElem? (i := 3) rfl)) (fun _ h9 => h9) rfl (tyX2_ok 3 (by decide)) rfl rfl (Nat.le_of_ble_eq_true rfl) dX2_takesLetter_12 (fun H locs hP hD hS => ?_)
  have hw : wS D A (wX cy a σ kept nxt cnt T len pos (nI (pp)) (nI (ch)) (-1) (-1) ++ Z) s H locs := ⟨hP, hD, hS⟩
  refine lv_iload_n hx hb dX2_takesLetter_15 rfl (lv_at hl 1 rfl) ?_
  rcases (show ch = 99 ∨ ch = 102 ∨ ch = 109 ∨ ch = 115 ∨ ch = 119 ∨ (¬ ch = 99 ∧ ¬ ch = 102 ∧ ¬ ch = 109 ∧ ¬ ch = 115 ∧ ¬ ch = 119) by omega) with k_16 | k_16 | k_16 | k_16 | k_16 | k_16
  · refine q_look (tgt := 89) (off := 73) hx hb dX2_takesLetter_16 (by decide) (by rw [k_16]; decide) (by omega) (by decide) ?_
    refine lv_aload_n hx hb dX2_takesLetter_89 rfl (lv_at hl 0 rfl) ?_
    refine lv_iconst (v := nI 5) hx hb dX2_takesLetter_90 rfl ?_
    refine va_put (D := D) (ci := 2) (v := .int (nI (5))) (ty := .int) (C := RX2) (T := TX2) (N := 4) hx hb hts (fun _ h => List.mem_cons_of_mem _ (List.mem_append_right _ h)) tyX2 tyX2_ok nmX2 hown hK hw.1 hw.2.1 hw.2.2 17 rfl rfl 0 (by decide) (hts (.fieldLink RX2 11 "SpreadParity$OrderReader" "phase" "I") (List.mem_of_getElem? (i := 4) rfl)) (fun _ h9 => h9) rfl (tyX2_ok 0 (by decide)) rfl rfl (Nat.le_of_ble_eq_true rfl) dX2_takesLetter_91 (fun H locs hP hD hS => ?_)
    have hw : wS D A (wX cy a σ kept nxt cnt T len pos (nI (5)) (nI (ch)) (-1) (-1) ++ Z) s H locs := ⟨hP, hD, hS⟩
    refine lv_iconst (v := nI 1) hx hb dX2_takesLetter_94 rfl ?_
    have e_w : tkL pp ch = (true, (5, ch, none, none)) := by simp [tkL, k_16]
    have hw : wS D A (wX cy a σ kept nxt cnt T len pos (nI ((tkL pp ch).2.1)) (nI ((tkL pp ch).2.2.1)) (nO ((tkL pp ch).2.2.2.1)) (nO ((tkL pp ch).2.2.2.2)) ++ Z) s H locs := by rw [e_w]; exact hw
    exact q_zretW hx hb hr hlocks hw dX2_takesLetter_95 (by rw [e_w]; rfl)
  · refine q_look (tgt := 75) (off := 59) hx hb dX2_takesLetter_16 (by decide) (by rw [k_16]; decide) (by omega) (by decide) ?_
    refine lv_aload_n hx hb dX2_takesLetter_75 rfl (lv_at hl 0 rfl) ?_
    refine lv_iconst (v := nI 3) hx hb dX2_takesLetter_76 rfl ?_
    refine va_put (D := D) (ci := 2) (v := .int (nI (3))) (ty := .int) (C := RX2) (T := TX2) (N := 4) hx hb hts (fun _ h => List.mem_cons_of_mem _ (List.mem_append_right _ h)) tyX2 tyX2_ok nmX2 hown hK hw.1 hw.2.1 hw.2.2 17 rfl rfl 0 (by decide) (hts (.fieldLink RX2 11 "SpreadParity$OrderReader" "phase" "I") (List.mem_of_getElem? (i := 4) rfl)) (fun _ h9 => h9) rfl (tyX2_ok 0 (by decide)) rfl rfl (Nat.le_of_ble_eq_true rfl) dX2_takesLetter_77 (fun H locs hP hD hS => ?_)
    have hw : wS D A (wX cy a σ kept nxt cnt T len pos (nI (3)) (nI (ch)) (-1) (-1) ++ Z) s H locs := ⟨hP, hD, hS⟩
    refine lv_iconst (v := nI 1) hx hb dX2_takesLetter_80 rfl ?_
    have e_w : tkL pp ch = (true, (3, ch, none, none)) := by simp [tkL, k_16]
    have hw : wS D A (wX cy a σ kept nxt cnt T len pos (nI ((tkL pp ch).2.1)) (nI ((tkL pp ch).2.2.1)) (nO ((tkL pp ch).2.2.2.1)) (nO ((tkL pp ch).2.2.2.2)) ++ Z) s H locs := by rw [e_w]; exact hw
    exact q_zretW hx hb hr hlocks hw dX2_takesLetter_81 (by rw [e_w]; rfl)
  · refine q_look (tgt := 75) (off := 59) hx hb dX2_takesLetter_16 (by decide) (by rw [k_16]; decide) (by omega) (by decide) ?_
    refine lv_aload_n hx hb dX2_takesLetter_75 rfl (lv_at hl 0 rfl) ?_
    refine lv_iconst (v := nI 3) hx hb dX2_takesLetter_76 rfl ?_
    refine va_put (D := D) (ci := 2) (v := .int (nI (3))) (ty := .int) (C := RX2) (T := TX2) (N := 4) hx hb hts (fun _ h => List.mem_cons_of_mem _ (List.mem_append_right _ h)) tyX2 tyX2_ok nmX2 hown hK hw.1 hw.2.1 hw.2.2 17 rfl rfl 0 (by decide) (hts (.fieldLink RX2 11 "SpreadParity$OrderReader" "phase" "I") (List.mem_of_getElem? (i := 4) rfl)) (fun _ h9 => h9) rfl (tyX2_ok 0 (by decide)) rfl rfl (Nat.le_of_ble_eq_true rfl) dX2_takesLetter_77 (fun H locs hP hD hS => ?_)
    have hw : wS D A (wX cy a σ kept nxt cnt T len pos (nI (3)) (nI (ch)) (-1) (-1) ++ Z) s H locs := ⟨hP, hD, hS⟩
    refine lv_iconst (v := nI 1) hx hb dX2_takesLetter_80 rfl ?_
    have e_w : tkL pp ch = (true, (3, ch, none, none)) := by simp [tkL, k_16]
    have hw : wS D A (wX cy a σ kept nxt cnt T len pos (nI ((tkL pp ch).2.1)) (nI ((tkL pp ch).2.2.1)) (nO ((tkL pp ch).2.2.2.1)) (nO ((tkL pp ch).2.2.2.2)) ++ Z) s H locs := by rw [e_w]; exact hw
    exact q_zretW hx hb hr hlocks hw dX2_takesLetter_81 (by rw [e_w]; rfl)
  · refine q_look (tgt := 82) (off := 66) hx hb dX2_takesLetter_16 (by decide) (by rw [k_16]; decide) (by omega) (by decide) ?_
    refine lv_aload_n hx hb dX2_takesLetter_82 rfl (lv_at hl 0 rfl) ?_
    refine lv_iconst (v := nI 4) hx hb dX2_takesLetter_83 rfl ?_
    refine va_put (D := D) (ci := 2) (v := .int (nI (4))) (ty := .int) (C := RX2) (T := TX2) (N := 4) hx hb hts (fun _ h => List.mem_cons_of_mem _ (List.mem_append_right _ h)) tyX2 tyX2_ok nmX2 hown hK hw.1 hw.2.1 hw.2.2 17 rfl rfl 0 (by decide) (hts (.fieldLink RX2 11 "SpreadParity$OrderReader" "phase" "I") (List.mem_of_getElem? (i := 4) rfl)) (fun _ h9 => h9) rfl (tyX2_ok 0 (by decide)) rfl rfl (Nat.le_of_ble_eq_true rfl) dX2_takesLetter_84 (fun H locs hP hD hS => ?_)
    have hw : wS D A (wX cy a σ kept nxt cnt T len pos (nI (4)) (nI (ch)) (-1) (-1) ++ Z) s H locs := ⟨hP, hD, hS⟩
    refine lv_iconst (v := nI 1) hx hb dX2_takesLetter_87 rfl ?_
    have e_w : tkL pp ch = (true, (4, ch, none, none)) := by simp [tkL, k_16]
    have hw : wS D A (wX cy a σ kept nxt cnt T len pos (nI ((tkL pp ch).2.1)) (nI ((tkL pp ch).2.2.1)) (nO ((tkL pp ch).2.2.2.1)) (nO ((tkL pp ch).2.2.2.2)) ++ Z) s H locs := by rw [e_w]; exact hw
    exact q_zretW hx hb hr hlocks hw dX2_takesLetter_88 (by rw [e_w]; rfl)
  · refine q_look (tgt := 68) (off := 52) hx hb dX2_takesLetter_16 (by decide) (by rw [k_16]; decide) (by omega) (by decide) ?_
    refine lv_aload_n hx hb dX2_takesLetter_68 rfl (lv_at hl 0 rfl) ?_
    refine lv_iconst (v := nI 1) hx hb dX2_takesLetter_69 rfl ?_
    refine va_put (D := D) (ci := 2) (v := .int (nI (1))) (ty := .int) (C := RX2) (T := TX2) (N := 4) hx hb hts (fun _ h => List.mem_cons_of_mem _ (List.mem_append_right _ h)) tyX2 tyX2_ok nmX2 hown hK hw.1 hw.2.1 hw.2.2 17 rfl rfl 0 (by decide) (hts (.fieldLink RX2 11 "SpreadParity$OrderReader" "phase" "I") (List.mem_of_getElem? (i := 4) rfl)) (fun _ h9 => h9) rfl (tyX2_ok 0 (by decide)) rfl rfl (Nat.le_of_ble_eq_true rfl) dX2_takesLetter_70 (fun H locs hP hD hS => ?_)
    have hw : wS D A (wX cy a σ kept nxt cnt T len pos (nI (1)) (nI (ch)) (-1) (-1) ++ Z) s H locs := ⟨hP, hD, hS⟩
    refine lv_iconst (v := nI 1) hx hb dX2_takesLetter_73 rfl ?_
    have e_w : tkL pp ch = (true, (1, ch, none, none)) := by simp [tkL, k_16]
    have hw : wS D A (wX cy a σ kept nxt cnt T len pos (nI ((tkL pp ch).2.1)) (nI ((tkL pp ch).2.2.1)) (nO ((tkL pp ch).2.2.2.1)) (nO ((tkL pp ch).2.2.2.2)) ++ Z) s H locs := by rw [e_w]; exact hw
    exact q_zretW hx hb hr hlocks hw dX2_takesLetter_74 (by rw [e_w]; rfl)
  · refine q_look (tgt := 96) (off := 80) hx hb dX2_takesLetter_16 (by decide) (by simp only [Op.lookupswitch.offset_cons, Op.lookupswitch.offset_nil]; obtain ⟨k0, k1, k2, k3, k4⟩ := k_16; repeat rw [if_neg (by omega)]) (by omega) (by decide) ?_
    refine lv_iconst (v := nI 0) hx hb dX2_takesLetter_96 rfl ?_
    have e_w : tkL pp ch = (false, (pp, ch, none, none)) := by obtain ⟨k0, k1, k2, k3, k4⟩ := k_16; simp [tkL, k0, k1, k2, k3, k4]
    have hw : wS D A (wX cy a σ kept nxt cnt T len pos (nI ((tkL pp ch).2.1)) (nI ((tkL pp ch).2.2.1)) (nO ((tkL pp ch).2.2.2.1)) (nO ((tkL pp ch).2.2.2.2)) ++ Z) s H locs := by rw [e_w]; exact hw
    exact q_zretW hx hb hr hlocks hw dX2_takesLetter_97 (by rw [e_w]; rfl)
set_option maxHeartbeats 1000000 in
set_option maxRecDepth 100000 in
theorem c_X2_takesInAddress {l : Launch} (D : va_G) (cy : ClassId) (A : Nat → Prop) (a : Nat → Nat) (σ kept : Nat → Int32) (nxt cnt : Nat) (T : Nat → Int32) (len pos : Nat) (ph le nu va : Int32) (Z : va_W) (pp lc : Nat) (on ov : Option Nat) (ch : Nat) (h_0 : ch ≤ 126) (h_1 : oB on) (h_2 : oB ov) : Met l yX2_takesInAddress wsX2_takesInAddress (k2_rm 1 24) (gP D cy [.ref (a 17), .int (nI (ch))] A (wX cy a σ kept nxt cnt T len pos (nI (pp)) (nI (lc)) (nO (on)) (nO (ov)) ++ Z)) (gQ D A (some (.int (bI ((tkA pp lc on ov ch).1)))) (wX cy a σ kept nxt cnt T len pos (nI ((tkA pp lc on ov ch).2.1)) (nI ((tkA pp lc on ov ch).2.2.1)) (nO ((tkA pp lc on ov ch).2.2.2.1)) (nO ((tkA pp lc on ov ch).2.2.2.2)) ++ Z)) 0 0 A := by
  refine q_imp (cc := cX2_takesInAddress) (maxL := 2) (ret := (some .boolean)) pl_X2 rfl (Nat.le_of_ble_eq_true rfl) ?_
  intro p e s m below meth c ls hx hb hr hml hts hown hlocks hw hK hA hl
  have hP := hw.1
  have hl : lv_has ls 2 [(0, .ref (a 17)), (1, .int (nI (ch)))] := hl
  refine lv_iload_n hx hb dX2_takesInAddress_0 rfl (lv_at hl 1 rfl) ?_
  refine lv_bipush (v := nI 61) hx hb dX2_takesInAddress_1 rfl ?_
  refine q_neN (tgt := 21) hx hb dX2_takesInAddress_3 (by decide) (by omega) (by omega) (fun c_3 => ?_) (fun c_3 => ?_)
  · refine lv_aload_n hx hb dX2_takesInAddress_21 rfl (lv_at hl 0 rfl) ?_
    refine lv_aload_n hx hb dX2_takesInAddress_22 rfl (lv_at hl 0 rfl) ?_
    refine va_get (D := D) (ci := 2) (v := .int (nO (on))) (C := RX2) (T := TX2) (N := 4) hx hb hts (fun _ h => List.mem_cons_of_mem _ (List.mem_append_right _ h)) hown hK hP 17 rfl rfl 2 (by decide) (hts (.fieldLink RX2 15 "SpreadParity$OrderReader" "number" "I") (List.mem_of_getElem? (i := 1) rfl)) (fun _ h9 => h9) rfl dX2_takesInAddress_23 ?_
    refine lv_iload_n hx hb dX2_takesInAddress_26 rfl (lv_at hl 1 rfl) ?_
    refine lv_bipush (v := nI 41) hx hb dX2_takesInAddress_27 rfl ?_
    refine q_cS (As := [.int (nO (on)), .int (nI (ch)), .int (nI (41))]) (rest := [.ref (a 17)]) (w := []) ⟨hx, hb, hml, hown, hts⟩ (c_X2_withDigit D cy (on) (ch) (41) h_0 (by omega) h_1) (va_cwS 3 hts gX2_takesInAddress_X2_withDigit rfl rfl rfl hd_X2_withDigit ⟨Nat.le_of_ble_eq_true rfl, Nat.le_of_ble_eq_true rfl⟩) hK q_Pnil rfl hl.1 rfl (Nat.le_of_ble_eq_true rfl) ⟨Nat.zero_le _, Nat.zero_le _⟩ dX2_takesInAddress_29 ?_
    refine va_put (D := D) (ci := 2) (v := .int (nO (wd on ch 41))) (ty := .int) (C := RX2) (T := TX2) (N := 4) hx hb hts (fun _ h => List.mem_cons_of_mem _ (List.mem_append_right _ h)) tyX2 tyX2_ok nmX2 hown hK hw.1 hw.2.1 hw.2.2 17 rfl rfl 2 (by decide) (hts (.fieldLink RX2 15 "SpreadParity$OrderReader" "number" "I") (List.mem_of_getElem? (i := 1) rfl)) (fun _ h9 => h9) rfl (tyX2_ok 2 (by decide)) rfl rfl (Nat.le_of_ble_eq_true rfl) dX2_takesInAddress_32 (fun H locs hP hD hS => ?_)
    have hw : wS D A (wX cy a σ kept nxt cnt T len pos (nI (pp)) (nI (lc)) (nO (wd on ch 41)) (nO (ov)) ++ Z) s H locs := ⟨hP, hD, hS⟩
    refine lv_aload_n hx hb dX2_takesInAddress_35 rfl (lv_at hl 0 rfl) ?_
    refine va_get (D := D) (ci := 2) (v := .int (nO (wd on ch 41))) (C := RX2) (T := TX2) (N := 4) hx hb hts (fun _ h => List.mem_cons_of_mem _ (List.mem_append_right _ h)) hown hK hP 17 rfl rfl 2 (by decide) (hts (.fieldLink RX2 15 "SpreadParity$OrderReader" "number" "I") (List.mem_of_getElem? (i := 1) rfl)) (fun _ h9 => h9) rfl dX2_takesInAddress_36 ?_
    refine lv_iconst (v := -1) hx hb dX2_takesInAddress_39 rfl ?_
    refine lv_icmp_eq (tgt := 47) hx hb dX2_takesInAddress_40 (by decide) (fun (c_40 : (nO (wd on ch 41)) = (-1)) => ?_) (fun (c_40 : ¬ (nO (wd on ch 41)) = (-1)) => ?_)
    · refine lv_iconst (v := nI 0) hx hb dX2_takesInAddress_47 rfl ?_
      have e_w : tkA pp lc on ov ch = (false, (pp, lc, wd on ch 41, ov)) := by rw [tkA, if_neg (fun h => c_3 h.1), show (wd on ch 41).isSome = false from by rw [nO_m1 (wd_B _ _ (by omega)) c_40]; rfl]
      have hw : wS D A (wX cy a σ kept nxt cnt T len pos (nI ((tkA pp lc on ov ch).2.1)) (nI ((tkA pp lc on ov ch).2.2.1)) (nO ((tkA pp lc on ov ch).2.2.2.1)) (nO ((tkA pp lc on ov ch).2.2.2.2)) ++ Z) s H locs := by rw [e_w]; exact hw
      exact q_zretW hx hb hr hlocks hw dX2_takesInAddress_48 (by rw [e_w]; rfl)
    · refine lv_iconst (v := nI 1) hx hb dX2_takesInAddress_43 rfl ?_
      refine lv_goto (tgt := 48) hx hb dX2_takesInAddress_44 (by decide) ?_
      have e_w : tkA pp lc on ov ch = (true, (pp, lc, wd on ch 41, ov)) := by rw [tkA, if_neg (fun h => c_3 h.1), nO_s (wd_B _ _ (by omega)) c_40]
      have hw : wS D A (wX cy a σ kept nxt cnt T len pos (nI ((tkA pp lc on ov ch).2.1)) (nI ((tkA pp lc on ov ch).2.2.1)) (nO ((tkA pp lc on ov ch).2.2.2.1)) (nO ((tkA pp lc on ov ch).2.2.2.2)) ++ Z) s H locs := by rw [e_w]; exact hw
      exact q_zretW hx hb hr hlocks hw dX2_takesInAddress_48 (by rw [e_w]; rfl)
  · refine lv_aload_n hx hb dX2_takesInAddress_6 rfl (lv_at hl 0 rfl) ?_
    refine va_get (D := D) (ci := 2) (v := .int (nO (on))) (C := RX2) (T := TX2) (N := 4) hx hb hts (fun _ h => List.mem_cons_of_mem _ (List.mem_append_right _ h)) hown hK hP 17 rfl rfl 2 (by decide) (hts (.fieldLink RX2 15 "SpreadParity$OrderReader" "number" "I") (List.mem_of_getElem? (i := 1) rfl)) (fun _ h9 => h9) rfl dX2_takesInAddress_7 ?_
    refine lv_iconst (v := -1) hx hb dX2_takesInAddress_10 rfl ?_
    refine lv_icmp_eq (tgt := 21) hx hb dX2_takesInAddress_11 (by decide) (fun (c_11 : (nO (on)) = (-1)) => ?_) (fun (c_11 : ¬ (nO (on)) = (-1)) => ?_)
    · refine lv_aload_n hx hb dX2_takesInAddress_21 rfl (lv_at hl 0 rfl) ?_
      refine lv_aload_n hx hb dX2_takesInAddress_22 rfl (lv_at hl 0 rfl) ?_
      refine va_get (D := D) (ci := 2) (v := .int (nO (on))) (C := RX2) (T := TX2) (N := 4) hx hb hts (fun _ h => List.mem_cons_of_mem _ (List.mem_append_right _ h)) hown hK hP 17 rfl rfl 2 (by decide) (hts (.fieldLink RX2 15 "SpreadParity$OrderReader" "number" "I") (List.mem_of_getElem? (i := 1) rfl)) (fun _ h9 => h9) rfl dX2_takesInAddress_23 ?_
      refine lv_iload_n hx hb dX2_takesInAddress_26 rfl (lv_at hl 1 rfl) ?_
      refine lv_bipush (v := nI 41) hx hb dX2_takesInAddress_27 rfl ?_
      refine q_cS (As := [.int (nO (on)), .int (nI (ch)), .int (nI (41))]) (rest := [.ref (a 17)]) (w := []) ⟨hx, hb, hml, hown, hts⟩ (c_X2_withDigit D cy (on) (ch) (41) h_0 (by omega) h_1) (va_cwS 3 hts gX2_takesInAddress_X2_withDigit rfl rfl rfl hd_X2_withDigit ⟨Nat.le_of_ble_eq_true rfl, Nat.le_of_ble_eq_true rfl⟩) hK q_Pnil rfl hl.1 rfl (Nat.le_of_ble_eq_true rfl) ⟨Nat.zero_le _, Nat.zero_le _⟩ dX2_takesInAddress_29 ?_
      refine va_put (D := D) (ci := 2) (v := .int (nO (wd on ch 41))) (ty := .int) (C := RX2) (T := TX2) (N := 4) hx hb hts (fun _ h => List.mem_cons_of_mem _ (List.mem_append_right _ h)) tyX2 tyX2_ok nmX2 hown hK hw.1 hw.2.1 hw.2.2 17 rfl rfl 2 (by decide) (hts (.fieldLink RX2 15 "SpreadParity$OrderReader" "number" "I") (List.mem_of_getElem? (i := 1) rfl)) (fun _ h9 => h9) rfl (tyX2_ok 2 (by decide)) rfl rfl (Nat.le_of_ble_eq_true rfl) dX2_takesInAddress_32 (fun H locs hP hD hS => ?_)
      have hw : wS D A (wX cy a σ kept nxt cnt T len pos (nI (pp)) (nI (lc)) (nO (wd on ch 41)) (nO (ov)) ++ Z) s H locs := ⟨hP, hD, hS⟩
      refine lv_aload_n hx hb dX2_takesInAddress_35 rfl (lv_at hl 0 rfl) ?_
      refine va_get (D := D) (ci := 2) (v := .int (nO (wd on ch 41))) (C := RX2) (T := TX2) (N := 4) hx hb hts (fun _ h => List.mem_cons_of_mem _ (List.mem_append_right _ h)) hown hK hP 17 rfl rfl 2 (by decide) (hts (.fieldLink RX2 15 "SpreadParity$OrderReader" "number" "I") (List.mem_of_getElem? (i := 1) rfl)) (fun _ h9 => h9) rfl dX2_takesInAddress_36 ?_
      refine lv_iconst (v := -1) hx hb dX2_takesInAddress_39 rfl ?_
      refine lv_icmp_eq (tgt := 47) hx hb dX2_takesInAddress_40 (by decide) (fun (c_40 : (nO (wd on ch 41)) = (-1)) => ?_) (fun (c_40 : ¬ (nO (wd on ch 41)) = (-1)) => ?_)
      · refine lv_iconst (v := nI 0) hx hb dX2_takesInAddress_47 rfl ?_
        have e_w : tkA pp lc on ov ch = (false, (pp, lc, wd on ch 41, ov)) := by rw [tkA, if_neg (fun h => h.2 (nO_m1 h_1 c_11)), show (wd on ch 41).isSome = false from by rw [nO_m1 (wd_B _ _ (by omega)) c_40]; rfl]
        have hw : wS D A (wX cy a σ kept nxt cnt T len pos (nI ((tkA pp lc on ov ch).2.1)) (nI ((tkA pp lc on ov ch).2.2.1)) (nO ((tkA pp lc on ov ch).2.2.2.1)) (nO ((tkA pp lc on ov ch).2.2.2.2)) ++ Z) s H locs := by rw [e_w]; exact hw
        exact q_zretW hx hb hr hlocks hw dX2_takesInAddress_48 (by rw [e_w]; rfl)
      · refine lv_iconst (v := nI 1) hx hb dX2_takesInAddress_43 rfl ?_
        refine lv_goto (tgt := 48) hx hb dX2_takesInAddress_44 (by decide) ?_
        have e_w : tkA pp lc on ov ch = (true, (pp, lc, wd on ch 41, ov)) := by rw [tkA, if_neg (fun h => h.2 (nO_m1 h_1 c_11)), nO_s (wd_B _ _ (by omega)) c_40]
        have hw : wS D A (wX cy a σ kept nxt cnt T len pos (nI ((tkA pp lc on ov ch).2.1)) (nI ((tkA pp lc on ov ch).2.2.1)) (nO ((tkA pp lc on ov ch).2.2.2.1)) (nO ((tkA pp lc on ov ch).2.2.2.2)) ++ Z) s H locs := by rw [e_w]; exact hw
        exact q_zretW hx hb hr hlocks hw dX2_takesInAddress_48 (by rw [e_w]; rfl)
    · refine lv_aload_n hx hb dX2_takesInAddress_14 rfl (lv_at hl 0 rfl) ?_
      refine lv_iconst (v := nI 2) hx hb dX2_takesInAddress_15 rfl ?_
      refine va_put (D := D) (ci := 2) (v := .int (nI (2))) (ty := .int) (C := RX2) (T := TX2) (N := 4) hx hb hts (fun _ h => List.mem_cons_of_mem _ (List.mem_append_right _ h)) tyX2 tyX2_ok nmX2 hown hK hw.1 hw.2.1 hw.2.2 17 rfl rfl 0 (by decide) (hts (.fieldLink RX2 11 "SpreadParity$OrderReader" "phase" "I") (List.mem_of_getElem? (i := 2) rfl)) (fun _ h9 => h9) rfl (tyX2_ok 0 (by decide)) rfl rfl (Nat.le_of_ble_eq_true rfl) dX2_takesInAddress_16 (fun H locs hP hD hS => ?_)
      have hw : wS D A (wX cy a σ kept nxt cnt T len pos (nI (2)) (nI (lc)) (nO (on)) (nO (ov)) ++ Z) s H locs := ⟨hP, hD, hS⟩
      refine lv_iconst (v := nI 1) hx hb dX2_takesInAddress_19 rfl ?_
      have e_w : tkA pp lc on ov ch = (true, (2, lc, on, ov)) := by rw [tkA, if_pos ⟨c_3, nO_n h_1 c_11⟩]
      have hw : wS D A (wX cy a σ kept nxt cnt T len pos (nI ((tkA pp lc on ov ch).2.1)) (nI ((tkA pp lc on ov ch).2.2.1)) (nO ((tkA pp lc on ov ch).2.2.2.1)) (nO ((tkA pp lc on ov ch).2.2.2.2)) ++ Z) s H locs := by rw [e_w]; exact hw
      exact q_zretW hx hb hr hlocks hw dX2_takesInAddress_20 (by rw [e_w]; rfl)
set_option maxHeartbeats 1000000 in
set_option maxRecDepth 100000 in
theorem c_X2_takesInValue {l : Launch} (D : va_G) (cy : ClassId) (A : Nat → Prop) (a : Nat → Nat) (σ kept : Nat → Int32) (nxt cnt : Nat) (T : Nat → Int32) (len pos : Nat) (ph le nu va : Int32) (Z : va_W) (pp lc : Nat) (on ov : Option Nat) (ch : Nat) (h_0 : ch ≤ 126) (h_1 : oB on) (h_2 : oB ov) : Met l yX2_takesInValue wsX2_takesInValue (k2_rm 1 24) (gP D cy [.ref (a 17), .int (nI (ch))] A (wX cy a σ kept nxt cnt T len pos (nI (pp)) (nI (lc)) (nO (on)) (nO (ov)) ++ Z)) (gQ D A (some (.int (bI ((tkV pp lc on ov ch).1)))) (wX cy a σ kept nxt cnt T len pos (nI ((tkV pp lc on ov ch).2.1)) (nI ((tkV pp lc on ov ch).2.2.1)) (nO ((tkV pp lc on ov ch).2.2.2.1)) (nO ((tkV pp lc on ov ch).2.2.2.2)) ++ Z)) 0 0 A := by
  refine q_imp (cc := cX2_takesInValue) (maxL := 2) (ret := (some .boolean)) pl_X2 rfl (Nat.le_of_ble_eq_true rfl) ?_
  intro p e s m below meth c ls hx hb hr hml hts hown hlocks hw hK hA hl
  have hP := hw.1
  have hl : lv_has ls 2 [(0, .ref (a 17)), (1, .int (nI (ch)))] := hl
  refine lv_iload_n hx hb dX2_takesInValue_0 rfl (lv_at hl 1 rfl) ?_
  refine lv_bipush (v := nI 59) hx hb dX2_takesInValue_1 rfl ?_
  refine q_neN (tgt := 21) hx hb dX2_takesInValue_3 (by decide) (by omega) (by omega) (fun c_3 => ?_) (fun c_3 => ?_)
  · refine lv_aload_n hx hb dX2_takesInValue_21 rfl (lv_at hl 0 rfl) ?_
    refine lv_aload_n hx hb dX2_takesInValue_22 rfl (lv_at hl 0 rfl) ?_
    refine va_get (D := D) (ci := 2) (v := .int (nO (ov))) (C := RX2) (T := TX2) (N := 4) hx hb hts (fun _ h => List.mem_cons_of_mem _ (List.mem_append_right _ h)) hown hK hP 17 rfl rfl 3 (by decide) (hts (.fieldLink RX2 18 "SpreadParity$OrderReader" "value" "I") (List.mem_of_getElem? (i := 1) rfl)) (fun _ h9 => h9) rfl dX2_takesInValue_23 ?_
    refine lv_iload_n hx hb dX2_takesInValue_26 rfl (lv_at hl 1 rfl) ?_
    refine lv_ldc (v  := nI 65535) hx hb hown (hts (.constant RX2 38 (65535)) (List.mem_of_getElem? (i := 3) rfl)) dX2_takesInValue_27 ?_
    refine q_cS (As := [.int (nO (ov)), .int (nI (ch)), .int (nI (65535))]) (rest := [.ref (a 17)]) (w := []) ⟨hx, hb, hml, hown, hts⟩ (c_X2_withDigit D cy (ov) (ch) (65535) h_0 (by omega) h_2) (va_cwS 3 hts gX2_takesInValue_X2_withDigit rfl rfl rfl hd_X2_withDigit ⟨Nat.le_of_ble_eq_true rfl, Nat.le_of_ble_eq_true rfl⟩) hK q_Pnil rfl hl.1 rfl (Nat.le_of_ble_eq_true rfl) ⟨Nat.zero_le _, Nat.zero_le _⟩ dX2_takesInValue_29 ?_
    refine va_put (D := D) (ci := 2) (v := .int (nO (wd ov ch 65535))) (ty := .int) (C := RX2) (T := TX2) (N := 4) hx hb hts (fun _ h => List.mem_cons_of_mem _ (List.mem_append_right _ h)) tyX2 tyX2_ok nmX2 hown hK hw.1 hw.2.1 hw.2.2 17 rfl rfl 3 (by decide) (hts (.fieldLink RX2 18 "SpreadParity$OrderReader" "value" "I") (List.mem_of_getElem? (i := 1) rfl)) (fun _ h9 => h9) rfl (tyX2_ok 3 (by decide)) rfl rfl (Nat.le_of_ble_eq_true rfl) dX2_takesInValue_32 (fun H locs hP hD hS => ?_)
    have hw : wS D A (wX cy a σ kept nxt cnt T len pos (nI (pp)) (nI (lc)) (nO (on)) (nO (wd ov ch 65535)) ++ Z) s H locs := ⟨hP, hD, hS⟩
    refine lv_aload_n hx hb dX2_takesInValue_35 rfl (lv_at hl 0 rfl) ?_
    refine va_get (D := D) (ci := 2) (v := .int (nO (wd ov ch 65535))) (C := RX2) (T := TX2) (N := 4) hx hb hts (fun _ h => List.mem_cons_of_mem _ (List.mem_append_right _ h)) hown hK hP 17 rfl rfl 3 (by decide) (hts (.fieldLink RX2 18 "SpreadParity$OrderReader" "value" "I") (List.mem_of_getElem? (i := 1) rfl)) (fun _ h9 => h9) rfl dX2_takesInValue_36 ?_
    refine lv_iconst (v := -1) hx hb dX2_takesInValue_39 rfl ?_
    refine lv_icmp_eq (tgt := 47) hx hb dX2_takesInValue_40 (by decide) (fun (c_40 : (nO (wd ov ch 65535)) = (-1)) => ?_) (fun (c_40 : ¬ (nO (wd ov ch 65535)) = (-1)) => ?_)
    · refine lv_iconst (v := nI 0) hx hb dX2_takesInValue_47 rfl ?_
      have e_w : tkV pp lc on ov ch = (false, (pp, lc, on, wd ov ch 65535)) := by rw [tkV, if_neg (fun h => c_3 h.1), show (wd ov ch 65535).isSome = false from by rw [nO_m1 (wd_B _ _ (by omega)) c_40]; rfl]
      have hw : wS D A (wX cy a σ kept nxt cnt T len pos (nI ((tkV pp lc on ov ch).2.1)) (nI ((tkV pp lc on ov ch).2.2.1)) (nO ((tkV pp lc on ov ch).2.2.2.1)) (nO ((tkV pp lc on ov ch).2.2.2.2)) ++ Z) s H locs := by rw [e_w]; exact hw
      exact q_zretW hx hb hr hlocks hw dX2_takesInValue_48 (by rw [e_w]; rfl)
    · refine lv_iconst (v := nI 1) hx hb dX2_takesInValue_43 rfl ?_
      refine lv_goto (tgt := 48) hx hb dX2_takesInValue_44 (by decide) ?_
      have e_w : tkV pp lc on ov ch = (true, (pp, lc, on, wd ov ch 65535)) := by rw [tkV, if_neg (fun h => c_3 h.1), nO_s (wd_B _ _ (by omega)) c_40]
      have hw : wS D A (wX cy a σ kept nxt cnt T len pos (nI ((tkV pp lc on ov ch).2.1)) (nI ((tkV pp lc on ov ch).2.2.1)) (nO ((tkV pp lc on ov ch).2.2.2.1)) (nO ((tkV pp lc on ov ch).2.2.2.2)) ++ Z) s H locs := by rw [e_w]; exact hw
      exact q_zretW hx hb hr hlocks hw dX2_takesInValue_48 (by rw [e_w]; rfl)
  · refine lv_aload_n hx hb dX2_takesInValue_6 rfl (lv_at hl 0 rfl) ?_
    refine va_get (D := D) (ci := 2) (v := .int (nO (ov))) (C := RX2) (T := TX2) (N := 4) hx hb hts (fun _ h => List.mem_cons_of_mem _ (List.mem_append_right _ h)) hown hK hP 17 rfl rfl 3 (by decide) (hts (.fieldLink RX2 18 "SpreadParity$OrderReader" "value" "I") (List.mem_of_getElem? (i := 1) rfl)) (fun _ h9 => h9) rfl dX2_takesInValue_7 ?_
    refine lv_iconst (v := -1) hx hb dX2_takesInValue_10 rfl ?_
    refine lv_icmp_eq (tgt := 21) hx hb dX2_takesInValue_11 (by decide) (fun (c_11 : (nO (ov)) = (-1)) => ?_) (fun (c_11 : ¬ (nO (ov)) = (-1)) => ?_)
    · refine lv_aload_n hx hb dX2_takesInValue_21 rfl (lv_at hl 0 rfl) ?_
      refine lv_aload_n hx hb dX2_takesInValue_22 rfl (lv_at hl 0 rfl) ?_
      refine va_get (D := D) (ci := 2) (v := .int (nO (ov))) (C := RX2) (T := TX2) (N := 4) hx hb hts (fun _ h => List.mem_cons_of_mem _ (List.mem_append_right _ h)) hown hK hP 17 rfl rfl 3 (by decide) (hts (.fieldLink RX2 18 "SpreadParity$OrderReader" "value" "I") (List.mem_of_getElem? (i := 1) rfl)) (fun _ h9 => h9) rfl dX2_takesInValue_23 ?_
      refine lv_iload_n hx hb dX2_takesInValue_26 rfl (lv_at hl 1 rfl) ?_
      refine lv_ldc (v  := nI 65535) hx hb hown (hts (.constant RX2 38 (65535)) (List.mem_of_getElem? (i := 3) rfl)) dX2_takesInValue_27 ?_
      refine q_cS (As := [.int (nO (ov)), .int (nI (ch)), .int (nI (65535))]) (rest := [.ref (a 17)]) (w := []) ⟨hx, hb, hml, hown, hts⟩ (c_X2_withDigit D cy (ov) (ch) (65535) h_0 (by omega) h_2) (va_cwS 3 hts gX2_takesInValue_X2_withDigit rfl rfl rfl hd_X2_withDigit ⟨Nat.le_of_ble_eq_true rfl, Nat.le_of_ble_eq_true rfl⟩) hK q_Pnil rfl hl.1 rfl (Nat.le_of_ble_eq_true rfl) ⟨Nat.zero_le _, Nat.zero_le _⟩ dX2_takesInValue_29 ?_
      refine va_put (D := D) (ci := 2) (v := .int (nO (wd ov ch 65535))) (ty := .int) (C := RX2) (T := TX2) (N := 4) hx hb hts (fun _ h => List.mem_cons_of_mem _ (List.mem_append_right _ h)) tyX2 tyX2_ok nmX2 hown hK hw.1 hw.2.1 hw.2.2 17 rfl rfl 3 (by decide) (hts (.fieldLink RX2 18 "SpreadParity$OrderReader" "value" "I") (List.mem_of_getElem? (i := 1) rfl)) (fun _ h9 => h9) rfl (tyX2_ok 3 (by decide)) rfl rfl (Nat.le_of_ble_eq_true rfl) dX2_takesInValue_32 (fun H locs hP hD hS => ?_)
      have hw : wS D A (wX cy a σ kept nxt cnt T len pos (nI (pp)) (nI (lc)) (nO (on)) (nO (wd ov ch 65535)) ++ Z) s H locs := ⟨hP, hD, hS⟩
      refine lv_aload_n hx hb dX2_takesInValue_35 rfl (lv_at hl 0 rfl) ?_
      refine va_get (D := D) (ci := 2) (v := .int (nO (wd ov ch 65535))) (C := RX2) (T := TX2) (N := 4) hx hb hts (fun _ h => List.mem_cons_of_mem _ (List.mem_append_right _ h)) hown hK hP 17 rfl rfl 3 (by decide) (hts (.fieldLink RX2 18 "SpreadParity$OrderReader" "value" "I") (List.mem_of_getElem? (i := 1) rfl)) (fun _ h9 => h9) rfl dX2_takesInValue_36 ?_
      refine lv_iconst (v := -1) hx hb dX2_takesInValue_39 rfl ?_
      refine lv_icmp_eq (tgt := 47) hx hb dX2_takesInValue_40 (by decide) (fun (c_40 : (nO (wd ov ch 65535)) = (-1)) => ?_) (fun (c_40 : ¬ (nO (wd ov ch 65535)) = (-1)) => ?_)
      · refine lv_iconst (v := nI 0) hx hb dX2_takesInValue_47 rfl ?_
        have e_w : tkV pp lc on ov ch = (false, (pp, lc, on, wd ov ch 65535)) := by rw [tkV, if_neg (fun h => h.2 (nO_m1 h_2 c_11)), show (wd ov ch 65535).isSome = false from by rw [nO_m1 (wd_B _ _ (by omega)) c_40]; rfl]
        have hw : wS D A (wX cy a σ kept nxt cnt T len pos (nI ((tkV pp lc on ov ch).2.1)) (nI ((tkV pp lc on ov ch).2.2.1)) (nO ((tkV pp lc on ov ch).2.2.2.1)) (nO ((tkV pp lc on ov ch).2.2.2.2)) ++ Z) s H locs := by rw [e_w]; exact hw
        exact q_zretW hx hb hr hlocks hw dX2_takesInValue_48 (by rw [e_w]; rfl)
      · refine lv_iconst (v := nI 1) hx hb dX2_takesInValue_43 rfl ?_
        refine lv_goto (tgt := 48) hx hb dX2_takesInValue_44 (by decide) ?_
        have e_w : tkV pp lc on ov ch = (true, (pp, lc, on, wd ov ch 65535)) := by rw [tkV, if_neg (fun h => h.2 (nO_m1 h_2 c_11)), nO_s (wd_B _ _ (by omega)) c_40]
        have hw : wS D A (wX cy a σ kept nxt cnt T len pos (nI ((tkV pp lc on ov ch).2.1)) (nI ((tkV pp lc on ov ch).2.2.1)) (nO ((tkV pp lc on ov ch).2.2.2.1)) (nO ((tkV pp lc on ov ch).2.2.2.2)) ++ Z) s H locs := by rw [e_w]; exact hw
        exact q_zretW hx hb hr hlocks hw dX2_takesInValue_48 (by rw [e_w]; rfl)
    · refine lv_aload_n hx hb dX2_takesInValue_14 rfl (lv_at hl 0 rfl) ?_
      refine lv_iconst (v := nI 0) hx hb dX2_takesInValue_15 rfl ?_
      refine va_put (D := D) (ci := 2) (v := .int (nI (0))) (ty := .int) (C := RX2) (T := TX2) (N := 4) hx hb hts (fun _ h => List.mem_cons_of_mem _ (List.mem_append_right _ h)) tyX2 tyX2_ok nmX2 hown hK hw.1 hw.2.1 hw.2.2 17 rfl rfl 0 (by decide) (hts (.fieldLink RX2 11 "SpreadParity$OrderReader" "phase" "I") (List.mem_of_getElem? (i := 2) rfl)) (fun _ h9 => h9) rfl (tyX2_ok 0 (by decide)) rfl rfl (Nat.le_of_ble_eq_true rfl) dX2_takesInValue_16 (fun H locs hP hD hS => ?_)
      have hw : wS D A (wX cy a σ kept nxt cnt T len pos (nI (0)) (nI (lc)) (nO (on)) (nO (ov)) ++ Z) s H locs := ⟨hP, hD, hS⟩
      refine lv_iconst (v := nI 1) hx hb dX2_takesInValue_19 rfl ?_
      have e_w : tkV pp lc on ov ch = (true, (0, lc, on, ov)) := by rw [tkV, if_pos ⟨c_3, nO_n h_2 c_11⟩]
      have hw : wS D A (wX cy a σ kept nxt cnt T len pos (nI ((tkV pp lc on ov ch).2.1)) (nI ((tkV pp lc on ov ch).2.2.1)) (nO ((tkV pp lc on ov ch).2.2.2.1)) (nO ((tkV pp lc on ov ch).2.2.2.2)) ++ Z) s H locs := by rw [e_w]; exact hw
      exact q_zretW hx hb hr hlocks hw dX2_takesInValue_20 (by rw [e_w]; rfl)
set_option maxHeartbeats 1000000 in
set_option maxRecDepth 100000 in
theorem c_X2_takes {l : Launch} (D : va_G) (cy : ClassId) (A : Nat → Prop) (a : Nat → Nat) (σ kept : Nat → Int32) (nxt cnt : Nat) (T : Nat → Int32) (len pos : Nat) (ph le nu va : Int32) (Z : va_W) (pp lc : Nat) (on ov : Option Nat) (ch : Nat) (h_0 : ch ≤ 126) (h_1 : oB on) (h_2 : oB ov) (h_3 : pp ≤ 5) : Met l yX2_takes wsX2_takes (k2_rm 2 45) (gP D cy [.ref (a 17), .int (nI (ch))] A (wX cy a σ kept nxt cnt T len pos (nI (pp)) (nI (lc)) (nO (on)) (nO (ov)) ++ Z)) (gQ D A (some (.int (bI ((tkN (pp, lc, on, ov) ch).1)))) (wX cy a σ kept nxt cnt T len pos (nI ((tkN (pp, lc, on, ov) ch).2.1)) (nI ((tkN (pp, lc, on, ov) ch).2.2.1)) (nO ((tkN (pp, lc, on, ov) ch).2.2.2.1)) (nO ((tkN (pp, lc, on, ov) ch).2.2.2.2)) ++ Z)) 0 0 A := by
  refine q_imp (cc := cX2_takes) (maxL := 2) (ret := (some .boolean)) pl_X2 rfl (Nat.le_of_ble_eq_true rfl) ?_
  intro p e s m below meth c ls hx hb hr hml hts hown hlocks hw hK hA hl
  have hP := hw.1
  have hl : lv_has ls 2 [(0, .ref (a 17)), (1, .int (nI (ch)))] := hl
  refine lv_aload_n hx hb dX2_takes_0 rfl (lv_at hl 0 rfl) ?_
  refine va_get (D := D) (ci := 2) (v := .int (nI (pp))) (C := RX2) (T := TX2) (N := 4) hx hb hts (fun _ h => List.mem_cons_of_mem _ (List.mem_append_right _ h)) hown hK hP 17 rfl rfl 0 (by decide) (hts (.fieldLink RX2 11 "SpreadParity$OrderReader" "phase" "I") (List.mem_of_getElem? (i := 1) rfl)) (fun _ h9 => h9) rfl dX2_takes_1 ?_
  rcases (show pp = 0 ∨ pp = 1 ∨ pp = 2 ∨ pp = 3 ∨ pp = 4 ∨ (¬ pp = 0 ∧ ¬ pp = 1 ∧ ¬ pp = 2 ∧ ¬ pp = 3 ∧ ¬ pp = 4) by omega) with k_4 | k_4 | k_4 | k_4 | k_4 | k_4
  · refine q_top (show nI (pp) = nI 0 by rw [k_4]) ?_
    refine lv_tableIn (off := 36) (tgt := 40) hx hb dX2_takes_4 (by decide) (by decide) (by decide) (by decide) ?_
    refine lv_aload_n hx hb dX2_takes_40 rfl (lv_at hl 0 rfl) ?_
    refine lv_iload_n hx hb dX2_takes_41 rfl (lv_at hl 1 rfl) ?_
    refine q_wV0 (As := [.int (nI (ch))]) (rest := []) (st1 := [.int (bI ((tkL pp ch).1))]) ⟨hx, hb, hml, hown, hts⟩ (c_X2_takesLetter D cy A a σ kept nxt cnt T len pos (nI (pp)) (nI (lc)) (nO (on)) (nO (ov)) Z (pp) (lc) (on) (ov) (ch) h_0 h_1 h_2) (cwV 1 hts gX2_takes_X2_takesLetter rfl rfl rfl hd_X2_takesLetter ⟨Nat.le_of_ble_eq_true rfl, Nat.le_of_ble_eq_true rfl⟩) hK hA hw 17 rfl rfl rfl hl.1 rfl rfl (Nat.le_of_ble_eq_true rfl) ⟨Nat.zero_le _, Nat.zero_le _⟩ dX2_takes_42 (fun H locs hw => ?_)
    have hw : wS D A (wX cy a σ kept nxt cnt T len pos (nI ((tkL pp ch).2.1)) (nI ((tkL pp ch).2.2.1)) (nO ((tkL pp ch).2.2.2.1)) (nO ((tkL pp ch).2.2.2.2)) ++ Z) s H locs := hw
    have hP := hw.1
    have e_w : tkN (pp, lc, on, ov) ch = tkL pp ch := by simp [tkN, k_4]
    have hw : wS D A (wX cy a σ kept nxt cnt T len pos (nI ((tkN (pp, lc, on, ov) ch).2.1)) (nI ((tkN (pp, lc, on, ov) ch).2.2.1)) (nO ((tkN (pp, lc, on, ov) ch).2.2.2.1)) (nO ((tkN (pp, lc, on, ov) ch).2.2.2.2)) ++ Z) s H locs := by rw [e_w]; exact hw
    exact q_zretW hx hb hr hlocks hw dX2_takes_45 (by rw [e_w])
  · refine q_top (show nI (pp) = nI 1 by rw [k_4]) ?_
    refine lv_tableIn (off := 42) (tgt := 46) hx hb dX2_takes_4 (by decide) (by decide) (by decide) (by decide) ?_
    refine lv_aload_n hx hb dX2_takes_46 rfl (lv_at hl 0 rfl) ?_
    refine lv_iload_n hx hb dX2_takes_47 rfl (lv_at hl 1 rfl) ?_
    refine q_wV0 (As := [.int (nI (ch))]) (rest := []) (st1 := [.int (bI ((tkA pp lc on ov ch).1))]) ⟨hx, hb, hml, hown, hts⟩ (c_X2_takesInAddress D cy A a σ kept nxt cnt T len pos (nI (pp)) (nI (lc)) (nO (on)) (nO (ov)) Z (pp) (lc) (on) (ov) (ch) h_0 h_1 h_2) (cwV 1 hts gX2_takes_X2_takesInAddress rfl rfl rfl hd_X2_takesInAddress ⟨Nat.le_of_ble_eq_true rfl, Nat.le_of_ble_eq_true rfl⟩) hK hA hw 17 rfl rfl rfl hl.1 rfl rfl (Nat.le_of_ble_eq_true rfl) ⟨Nat.zero_le _, Nat.zero_le _⟩ dX2_takes_48 (fun H locs hw => ?_)
    have hw : wS D A (wX cy a σ kept nxt cnt T len pos (nI ((tkA pp lc on ov ch).2.1)) (nI ((tkA pp lc on ov ch).2.2.1)) (nO ((tkA pp lc on ov ch).2.2.2.1)) (nO ((tkA pp lc on ov ch).2.2.2.2)) ++ Z) s H locs := hw
    have hP := hw.1
    have e_w : tkN (pp, lc, on, ov) ch = tkA pp lc on ov ch := by simp [tkN, k_4]
    have hw : wS D A (wX cy a σ kept nxt cnt T len pos (nI ((tkN (pp, lc, on, ov) ch).2.1)) (nI ((tkN (pp, lc, on, ov) ch).2.2.1)) (nO ((tkN (pp, lc, on, ov) ch).2.2.2.1)) (nO ((tkN (pp, lc, on, ov) ch).2.2.2.2)) ++ Z) s H locs := by rw [e_w]; exact hw
    exact q_zretW hx hb hr hlocks hw dX2_takes_51 (by rw [e_w])
  · refine q_top (show nI (pp) = nI 2 by rw [k_4]) ?_
    refine lv_tableIn (off := 48) (tgt := 52) hx hb dX2_takes_4 (by decide) (by decide) (by decide) (by decide) ?_
    refine lv_aload_n hx hb dX2_takes_52 rfl (lv_at hl 0 rfl) ?_
    refine lv_iload_n hx hb dX2_takes_53 rfl (lv_at hl 1 rfl) ?_
    refine q_wV0 (As := [.int (nI (ch))]) (rest := []) (st1 := [.int (bI ((tkV pp lc on ov ch).1))]) ⟨hx, hb, hml, hown, hts⟩ (c_X2_takesInValue D cy A a σ kept nxt cnt T len pos (nI (pp)) (nI (lc)) (nO (on)) (nO (ov)) Z (pp) (lc) (on) (ov) (ch) h_0 h_1 h_2) (cwV 1 hts gX2_takes_X2_takesInValue rfl rfl rfl hd_X2_takesInValue ⟨Nat.le_of_ble_eq_true rfl, Nat.le_of_ble_eq_true rfl⟩) hK hA hw 17 rfl rfl rfl hl.1 rfl rfl (Nat.le_of_ble_eq_true rfl) ⟨Nat.zero_le _, Nat.zero_le _⟩ dX2_takes_54 (fun H locs hw => ?_)
    have hw : wS D A (wX cy a σ kept nxt cnt T len pos (nI ((tkV pp lc on ov ch).2.1)) (nI ((tkV pp lc on ov ch).2.2.1)) (nO ((tkV pp lc on ov ch).2.2.2.1)) (nO ((tkV pp lc on ov ch).2.2.2.2)) ++ Z) s H locs := hw
    have hP := hw.1
    have e_w : tkN (pp, lc, on, ov) ch = tkV pp lc on ov ch := by simp [tkN, k_4]
    have hw : wS D A (wX cy a σ kept nxt cnt T len pos (nI ((tkN (pp, lc, on, ov) ch).2.1)) (nI ((tkN (pp, lc, on, ov) ch).2.2.1)) (nO ((tkN (pp, lc, on, ov) ch).2.2.2.1)) (nO ((tkN (pp, lc, on, ov) ch).2.2.2.2)) ++ Z) s H locs := by rw [e_w]; exact hw
    exact q_zretW hx hb hr hlocks hw dX2_takes_57 (by rw [e_w])
  · refine q_top (show nI (pp) = nI 3 by rw [k_4]) ?_
    refine lv_tableIn (off := 54) (tgt := 58) hx hb dX2_takes_4 (by decide) (by decide) (by decide) (by decide) ?_
    refine lv_aload_n hx hb dX2_takes_58 rfl (lv_at hl 0 rfl) ?_
    refine lv_iconst (v := -1) hx hb dX2_takes_59 rfl ?_
    refine lv_iload_n hx hb dX2_takes_60 rfl (lv_at hl 1 rfl) ?_
    refine lv_bipush (v := nI 6) hx hb dX2_takes_61 rfl ?_
    refine q_cS (As := [.int (-1), .int (nI (ch)), .int (nI (6))]) (rest := [.ref (a 17)]) (w := []) ⟨hx, hb, hml, hown, hts⟩ (c_X2_withDigit D cy (none) (ch) (6) h_0 (by omega) oB_none) (va_cwS 3 hts gX2_takes_X2_withDigit rfl rfl rfl hd_X2_withDigit ⟨Nat.le_of_ble_eq_true rfl, Nat.le_of_ble_eq_true rfl⟩) hK q_Pnil rfl hl.1 rfl (Nat.le_of_ble_eq_true rfl) ⟨Nat.zero_le _, Nat.zero_le _⟩ dX2_takes_63 ?_
    refine va_put (D := D) (ci := 2) (v := .int (nO (wd none ch 6))) (ty := .int) (C := RX2) (T := TX2) (N := 4) hx hb hts (fun _ h => List.mem_cons_of_mem _ (List.mem_append_right _ h)) tyX2 tyX2_ok nmX2 hown hK hw.1 hw.2.1 hw.2.2 17 rfl rfl 2 (by decide) (hts (.fieldLink RX2 15 "SpreadParity$OrderReader" "number" "I") (List.mem_of_getElem? (i := 2) rfl)) (fun _ h9 => h9) rfl (tyX2_ok 2 (by decide)) rfl rfl (Nat.le_of_ble_eq_true rfl) dX2_takes_66 (fun H locs hP hD hS => ?_)
    have hw : wS D A (wX cy a σ kept nxt cnt T len pos (nI (pp)) (nI (lc)) (nO (wd none ch 6)) (nO (ov)) ++ Z) s H locs := ⟨hP, hD, hS⟩
    refine lv_aload_n hx hb dX2_takes_69 rfl (lv_at hl 0 rfl) ?_
    refine lv_iconst (v := nI 5) hx hb dX2_takes_70 rfl ?_
    refine va_put (D := D) (ci := 2) (v := .int (nI (5))) (ty := .int) (C := RX2) (T := TX2) (N := 4) hx hb hts (fun _ h => List.mem_cons_of_mem _ (List.mem_append_right _ h)) tyX2 tyX2_ok nmX2 hown hK hw.1 hw.2.1 hw.2.2 17 rfl rfl 0 (by decide) (hts (.fieldLink RX2 11 "SpreadParity$OrderReader" "phase" "I") (List.mem_of_getElem? (i := 1) rfl)) (fun _ h9 => h9) rfl (tyX2_ok 0 (by decide)) rfl rfl (Nat.le_of_ble_eq_true rfl) dX2_takes_71 (fun H locs hP hD hS => ?_)
    have hw : wS D A (wX cy a σ kept nxt cnt T len pos (nI (5)) (nI (lc)) (nO (wd none ch 6)) (nO (ov)) ++ Z) s H locs := ⟨hP, hD, hS⟩
    refine lv_aload_n hx hb dX2_takes_74 rfl (lv_at hl 0 rfl) ?_
    refine va_get (D := D) (ci := 2) (v := .int (nO (wd none ch 6))) (C := RX2) (T := TX2) (N := 4) hx hb hts (fun _ h => List.mem_cons_of_mem _ (List.mem_append_right _ h)) hown hK hP 17 rfl rfl 2 (by decide) (hts (.fieldLink RX2 15 "SpreadParity$OrderReader" "number" "I") (List.mem_of_getElem? (i := 2) rfl)) (fun _ h9 => h9) rfl dX2_takes_75 ?_
    refine lv_iconst (v := -1) hx hb dX2_takes_78 rfl ?_
    refine lv_icmp_eq (tgt := 86) hx hb dX2_takes_79 (by decide) (fun (c_79 : (nO (wd none ch 6)) = (-1)) => ?_) (fun (c_79 : ¬ (nO (wd none ch 6)) = (-1)) => ?_)
    · refine lv_iconst (v := nI 0) hx hb dX2_takes_86 rfl ?_
      have e_w : tkN (pp, lc, on, ov) ch = (false, (5, lc, wd none ch 6, ov)) := by simp [tkN, tkD, tkS, k_4, nO_m1 (wd_B _ _ (by omega)) c_79]
      have hw : wS D A (wX cy a σ kept nxt cnt T len pos (nI ((tkN (pp, lc, on, ov) ch).2.1)) (nI ((tkN (pp, lc, on, ov) ch).2.2.1)) (nO ((tkN (pp, lc, on, ov) ch).2.2.2.1)) (nO ((tkN (pp, lc, on, ov) ch).2.2.2.2)) ++ Z) s H locs := by rw [e_w]; exact hw
      exact q_zretW hx hb hr hlocks hw dX2_takes_87 (by rw [e_w]; rfl)
    · refine lv_iconst (v := nI 1) hx hb dX2_takes_82 rfl ?_
      refine lv_goto (tgt := 87) hx hb dX2_takes_83 (by decide) ?_
      have e_w : tkN (pp, lc, on, ov) ch = (true, (5, lc, wd none ch 6, ov)) := by simp [tkN, tkD, tkS, k_4, nO_s (wd_B _ _ (by omega)) c_79]
      have hw : wS D A (wX cy a σ kept nxt cnt T len pos (nI ((tkN (pp, lc, on, ov) ch).2.1)) (nI ((tkN (pp, lc, on, ov) ch).2.2.1)) (nO ((tkN (pp, lc, on, ov) ch).2.2.2.1)) (nO ((tkN (pp, lc, on, ov) ch).2.2.2.2)) ++ Z) s H locs := by rw [e_w]; exact hw
      exact q_zretW hx hb hr hlocks hw dX2_takes_87 (by rw [e_w]; rfl)
  · refine q_top (show nI (pp) = nI 4 by rw [k_4]) ?_
    refine lv_tableIn (off := 84) (tgt := 88) hx hb dX2_takes_4 (by decide) (by decide) (by decide) (by decide) ?_
    refine lv_aload_n hx hb dX2_takes_88 rfl (lv_at hl 0 rfl) ?_
    refine lv_iconst (v := -1) hx hb dX2_takes_89 rfl ?_
    refine lv_iload_n hx hb dX2_takes_90 rfl (lv_at hl 1 rfl) ?_
    refine lv_bipush (v := nI 9) hx hb dX2_takes_91 rfl ?_
    refine q_cS (As := [.int (-1), .int (nI (ch)), .int (nI (9))]) (rest := [.ref (a 17)]) (w := []) ⟨hx, hb, hml, hown, hts⟩ (c_X2_withDigit D cy (none) (ch) (9) h_0 (by omega) oB_none) (va_cwS 3 hts gX2_takes_X2_withDigit rfl rfl rfl hd_X2_withDigit ⟨Nat.le_of_ble_eq_true rfl, Nat.le_of_ble_eq_true rfl⟩) hK q_Pnil rfl hl.1 rfl (Nat.le_of_ble_eq_true rfl) ⟨Nat.zero_le _, Nat.zero_le _⟩ dX2_takes_93 ?_
    refine va_put (D := D) (ci := 2) (v := .int (nO (wd none ch 9))) (ty := .int) (C := RX2) (T := TX2) (N := 4) hx hb hts (fun _ h => List.mem_cons_of_mem _ (List.mem_append_right _ h)) tyX2 tyX2_ok nmX2 hown hK hw.1 hw.2.1 hw.2.2 17 rfl rfl 2 (by decide) (hts (.fieldLink RX2 15 "SpreadParity$OrderReader" "number" "I") (List.mem_of_getElem? (i := 2) rfl)) (fun _ h9 => h9) rfl (tyX2_ok 2 (by decide)) rfl rfl (Nat.le_of_ble_eq_true rfl) dX2_takes_96 (fun H locs hP hD hS => ?_)
    have hw : wS D A (wX cy a σ kept nxt cnt T len pos (nI (pp)) (nI (lc)) (nO (wd none ch 9)) (nO (ov)) ++ Z) s H locs := ⟨hP, hD, hS⟩
    refine lv_aload_n hx hb dX2_takes_99 rfl (lv_at hl 0 rfl) ?_
    refine lv_iconst (v := nI 5) hx hb dX2_takes_100 rfl ?_
    refine va_put (D := D) (ci := 2) (v := .int (nI (5))) (ty := .int) (C := RX2) (T := TX2) (N := 4) hx hb hts (fun _ h => List.mem_cons_of_mem _ (List.mem_append_right _ h)) tyX2 tyX2_ok nmX2 hown hK hw.1 hw.2.1 hw.2.2 17 rfl rfl 0 (by decide) (hts (.fieldLink RX2 11 "SpreadParity$OrderReader" "phase" "I") (List.mem_of_getElem? (i := 1) rfl)) (fun _ h9 => h9) rfl (tyX2_ok 0 (by decide)) rfl rfl (Nat.le_of_ble_eq_true rfl) dX2_takes_101 (fun H locs hP hD hS => ?_)
    have hw : wS D A (wX cy a σ kept nxt cnt T len pos (nI (5)) (nI (lc)) (nO (wd none ch 9)) (nO (ov)) ++ Z) s H locs := ⟨hP, hD, hS⟩
    refine lv_aload_n hx hb dX2_takes_104 rfl (lv_at hl 0 rfl) ?_
    refine va_get (D := D) (ci := 2) (v := .int (nO (wd none ch 9))) (C := RX2) (T := TX2) (N := 4) hx hb hts (fun _ h => List.mem_cons_of_mem _ (List.mem_append_right _ h)) hown hK hP 17 rfl rfl 2 (by decide) (hts (.fieldLink RX2 15 "SpreadParity$OrderReader" "number" "I") (List.mem_of_getElem? (i := 2) rfl)) (fun _ h9 => h9) rfl dX2_takes_105 ?_
    refine lv_if_le (tgt := 115) hx hb dX2_takes_108 (by decide) (fun (c_108 : (nO (wd none ch 9)) ≤ 0) => ?_) (fun (c_108 : ¬ (nO (wd none ch 9)) ≤ 0) => ?_)
    · refine lv_iconst (v := nI 0) hx hb dX2_takes_115 rfl ?_
      have e_w : tkN (pp, lc, on, ov) ch = (false, (5, lc, wd none ch 9, ov)) := by simp [tkN, tkD, tkS, k_4, nO_le (wd_B _ _ (by omega)) c_108]
      have hw : wS D A (wX cy a σ kept nxt cnt T len pos (nI ((tkN (pp, lc, on, ov) ch).2.1)) (nI ((tkN (pp, lc, on, ov) ch).2.2.1)) (nO ((tkN (pp, lc, on, ov) ch).2.2.2.1)) (nO ((tkN (pp, lc, on, ov) ch).2.2.2.2)) ++ Z) s H locs := by rw [e_w]; exact hw
      exact q_zretW hx hb hr hlocks hw dX2_takes_116 (by rw [e_w]; rfl)
    · refine lv_iconst (v := nI 1) hx hb dX2_takes_111 rfl ?_
      refine lv_goto (tgt := 116) hx hb dX2_takes_112 (by decide) ?_
      have e_w : tkN (pp, lc, on, ov) ch = (true, (5, lc, wd none ch 9, ov)) := by simp [tkN, tkD, tkS, k_4, nO_gt (wd_B _ _ (by omega)) c_108]
      have hw : wS D A (wX cy a σ kept nxt cnt T len pos (nI ((tkN (pp, lc, on, ov) ch).2.1)) (nI ((tkN (pp, lc, on, ov) ch).2.2.1)) (nO ((tkN (pp, lc, on, ov) ch).2.2.2.1)) (nO ((tkN (pp, lc, on, ov) ch).2.2.2.2)) ++ Z) s H locs := by rw [e_w]; exact hw
      exact q_zretW hx hb hr hlocks hw dX2_takes_116 (by rw [e_w]; rfl)
  · refine lv_tableOut (tgt := 117) hx hb dX2_takes_4 (Or.inr (by rw [nI_toInt (by omega)]; omega)) (by decide) ?_
    refine lv_aload_n hx hb dX2_takes_117 rfl (lv_at hl 0 rfl) ?_
    refine lv_iconst (v := nI 0) hx hb dX2_takes_118 rfl ?_
    refine va_put (D := D) (ci := 2) (v := .int (nI (0))) (ty := .int) (C := RX2) (T := TX2) (N := 4) hx hb hts (fun _ h => List.mem_cons_of_mem _ (List.mem_append_right _ h)) tyX2 tyX2_ok nmX2 hown hK hw.1 hw.2.1 hw.2.2 17 rfl rfl 0 (by decide) (hts (.fieldLink RX2 11 "SpreadParity$OrderReader" "phase" "I") (List.mem_of_getElem? (i := 1) rfl)) (fun _ h9 => h9) rfl (tyX2_ok 0 (by decide)) rfl rfl (Nat.le_of_ble_eq_true rfl) dX2_takes_119 (fun H locs hP hD hS => ?_)
    have hw : wS D A (wX cy a σ kept nxt cnt T len pos (nI (0)) (nI (lc)) (nO (on)) (nO (ov)) ++ Z) s H locs := ⟨hP, hD, hS⟩
    refine lv_iload_n hx hb dX2_takes_122 rfl (lv_at hl 1 rfl) ?_
    refine lv_bipush (v := nI 59) hx hb dX2_takes_123 rfl ?_
    refine q_neN (tgt := 132) hx hb dX2_takes_125 (by decide) (by omega) (by omega) (fun c_125 => ?_) (fun c_125 => ?_)
    · refine lv_iconst (v := nI 0) hx hb dX2_takes_132 rfl ?_
      have e_w : tkN (pp, lc, on, ov) ch = (false, (0, lc, on, ov)) := by obtain ⟨k0, k1, k2, k3, k4⟩ := k_4; simp [tkN, tkD, tkS, k0, k1, k2, k3, k4, c_125]
      have hw : wS D A (wX cy a σ kept nxt cnt T len pos (nI ((tkN (pp, lc, on, ov) ch).2.1)) (nI ((tkN (pp, lc, on, ov) ch).2.2.1)) (nO ((tkN (pp, lc, on, ov) ch).2.2.2.1)) (nO ((tkN (pp, lc, on, ov) ch).2.2.2.2)) ++ Z) s H locs := by rw [e_w]; exact hw
      exact q_zretW hx hb hr hlocks hw dX2_takes_133 (by rw [e_w]; rfl)
    · refine lv_iconst (v := nI 1) hx hb dX2_takes_128 rfl ?_
      refine lv_goto (tgt := 133) hx hb dX2_takes_129 (by decide) ?_
      have e_w : tkN (pp, lc, on, ov) ch = (true, (0, lc, on, ov)) := by obtain ⟨k0, k1, k2, k3, k4⟩ := k_4; simp [tkN, tkD, tkS, k0, k1, k2, k3, k4, c_125]
      have hw : wS D A (wX cy a σ kept nxt cnt T len pos (nI ((tkN (pp, lc, on, ov) ch).2.1)) (nI ((tkN (pp, lc, on, ov) ch).2.2.1)) (nO ((tkN (pp, lc, on, ov) ch).2.2.2.1)) (nO ((tkN (pp, lc, on, ov) ch).2.2.2.2)) ++ Z) s H locs := by rw [e_w]; exact hw
      exact q_zretW hx hb hr hlocks hw dX2_takes_133 (by rw [e_w]; rfl)
set_option maxHeartbeats 1000000 in
set_option maxRecDepth 100000 in
theorem c_X3_signCount {l : Launch} (D : va_G) (cy : ClassId) (a : Nat → Nat) (σ kept : Nat → Int32) (nxt cnt : Nat) (T : Nat → Int32) (len pos : Nat) (ph le nu va : Int32) (Z : va_W) : Met l yX3_signCount wsX3_signCount (k2_rm 0 0) (gR D cy [.ref (a 14)] (wX cy a σ kept nxt cnt T len pos ph le nu va ++ Z)) (k2_QcV (.int (nI (len)))) 0 0 (fun _ => False) := by
  refine q_pure (cc := cX3_signCount) (maxL := 1) (ret := (some .int)) pl_X3 rfl (Nat.le_of_ble_eq_true rfl) ?_
  intro p e s m below meth c ls hx hb hr hml hts hown hlocks hP hK hl
  have hl : lv_has ls 1 [(0, .ref (a 14))] := hl
  refine lv_aload_n hx hb dX3_signCount_0 rfl (lv_at hl 0 rfl) ?_
  refine va_get (D := D) (ci := 3) (v := .int (nI (len))) (C := RX3) (T := TX3) (N := 4) hx hb hts (fun _ h => List.mem_cons_of_mem _ (List.mem_append_right _ h)) hown hK hP 14 rfl rfl 2 (by decide) (hts (.fieldLink RX3 25 "SpreadParity$OrderText" "length" "I") (List.mem_of_getElem? (i := 1) rfl)) (fun _ h9 => h9) rfl dX3_signCount_1 ?_
  exact q_iret hx hb hr hlocks dX3_signCount_4 (rfl)
set_option maxHeartbeats 1000000 in
set_option maxRecDepth 100000 in
theorem c_X3_isFull {l : Launch} (D : va_G) (cy : ClassId) (a : Nat → Nat) (σ kept : Nat → Int32) (nxt cnt : Nat) (T : Nat → Int32) (len pos : Nat) (ph le nu va : Int32) (Z : va_W) (h_0 : len ≤ 60) : Met l yX3_isFull wsX3_isFull (k2_rm 0 0) (gR D cy [.ref (a 14)] (wX cy a σ kept nxt cnt T len pos ph le nu va ++ Z)) (k2_QcV (.int (bI (decide (60 ≤ len))))) 0 0 (fun _ => False) := by
  refine q_pure (cc := cX3_isFull) (maxL := 1) (ret := (some .boolean)) pl_X3 rfl (Nat.le_of_ble_eq_true rfl) ?_
  intro p e s m below meth c ls hx hb hr hml hts hown hlocks hP hK hl
  have hl : lv_has ls 1 [(0, .ref (a 14))] := hl
  refine lv_aload_n hx hb dX3_isFull_0 rfl (lv_at hl 0 rfl) ?_
  refine va_get (D := D) (ci := 3) (v := .int (nI (len))) (C := RX3) (T := TX3) (N := 4) hx hb hts (fun _ h => List.mem_cons_of_mem _ (List.mem_append_right _ h)) hown hK hP 14 rfl rfl 2 (by decide) (hts (.fieldLink RX3 25 "SpreadParity$OrderText" "length" "I") (List.mem_of_getElem? (i := 1) rfl)) (fun _ h9 => h9) rfl dX3_isFull_1 ?_
  refine lv_bipush (v := nI 60) hx hb dX3_isFull_4 rfl ?_
  refine q_ltN (tgt := 13) hx hb dX3_isFull_6 (by decide) (by omega) (by omega) (fun c_6 => ?_) (fun c_6 => ?_)
  · refine lv_iconst (v := nI 0) hx hb dX3_isFull_13 rfl ?_
    exact q_zret hx hb hr hlocks dX3_isFull_14 (by rw [decide_eq_false (by omega)]; rfl)
  · refine lv_iconst (v := nI 1) hx hb dX3_isFull_9 rfl ?_
    refine lv_goto (tgt := 14) hx hb dX3_isFull_10 (by decide) ?_
    exact q_zret hx hb hr hlocks dX3_isFull_14 (by rw [decide_eq_true (by omega)]; rfl)
set_option maxHeartbeats 1000000 in
set_option maxRecDepth 100000 in
theorem c_X3_addSign {l : Launch} (D : va_G) (cy : ClassId) (A : Nat → Prop) (a : Nat → Nat) (σ kept : Nat → Int32) (nxt cnt : Nat) (T : Nat → Int32) (len pos : Nat) (ph le nu va : Int32) (Z : va_W) (ch : Int32) (h_0 : len < 60) : Met l yX3_addSign wsX3_addSign (k2_rm 1 22) (gP D cy [.ref (a 14), .int (ch)] A (wX cy a σ kept nxt cnt T len pos ph le nu va ++ Z)) (gQ D A (none) (wX cy a σ kept nxt cnt (upd T len ch) (len + 1) pos ph le nu va ++ Z)) 0 0 A := by
  refine q_imp (cc := cX3_addSign) (maxL := 2) (ret := none) pl_X3 rfl (Nat.le_of_ble_eq_true rfl) ?_
  intro p e s m below meth c ls hx hb hr hml hts hown hlocks hw hK hA hl
  have hP := hw.1
  have hl : lv_has ls 2 [(0, .ref (a 14)), (1, .int (ch))] := hl
  refine lv_aload_n hx hb dX3_addSign_0 rfl (lv_at hl 0 rfl) ?_
  refine va_get (D := D) (ci := 3) (v := .ref (a 15)) (C := RX3) (T := TX3) (N := 4) hx hb hts (fun _ h => List.mem_cons_of_mem _ (List.mem_append_left _ (List.mem_append_right _ h))) hown hK hP 14 rfl rfl 0 (by decide) (hts (.fieldLink RX3 14 "SpreadParity$OrderText" "signs" "LSpreadParity$Row;") (List.mem_of_getElem? (i := 1) rfl)) (fun _ h9 => h9) rfl dX3_addSign_1 ?_
  refine lv_aload_n hx hb dX3_addSign_4 rfl (lv_at hl 0 rfl) ?_
  refine va_get (D := D) (ci := 3) (v := .int (nI (len))) (C := RX3) (T := TX3) (N := 4) hx hb hts (fun _ h => List.mem_cons_of_mem _ (List.mem_append_left _ (List.mem_append_right _ h))) hown hK hP 14 rfl rfl 2 (by decide) (hts (.fieldLink RX3 25 "SpreadParity$OrderText" "length" "I") (List.mem_of_getElem? (i := 2) rfl)) (fun _ h9 => h9) rfl dX3_addSign_5 ?_
  refine lv_iload_n hx hb dX3_addSign_8 rfl (lv_at hl 1 rfl) ?_
  refine q_wV0 (As := [.int (nI (len)), .int (ch)]) (rest := []) (st1 := []) ⟨hx, hb, hml, hown, hts⟩ (c_X4_put D cy A (wX cy a σ kept nxt cnt T len pos ph le nu va ++ Z) 15 16 (a 15) (a 16) 60 T rfl rfl (len) (ch) (by omega) (by omega)) (cwV 2 hts gX3_addSign_X4_put rfl rfl rfl hd_X4_put ⟨Nat.le_of_ble_eq_true rfl, Nat.le_of_ble_eq_true rfl⟩) hK hA hw 15 rfl rfl rfl hl.1 rfl rfl (Nat.le_of_ble_eq_true rfl) ⟨Nat.zero_le _, Nat.zero_le _⟩ dX3_addSign_9 (fun H locs hw => ?_)
  have hw : wS D A (wX cy a σ kept nxt cnt (upd T len ch) len pos ph le nu va ++ Z) s H locs := hw
  have hP := hw.1
  refine lv_aload_n hx hb dX3_addSign_12 rfl (lv_at hl 0 rfl) ?_
  refine lv_dup hx hb dX3_addSign_13 rfl ?_
  refine va_get (D := D) (ci := 3) (v := .int (nI (len))) (C := RX3) (T := TX3) (N := 4) hx hb hts (fun _ h => List.mem_cons_of_mem _ (List.mem_append_left _ (List.mem_append_right _ h))) hown hK hP 14 rfl rfl 2 (by decide) (hts (.fieldLink RX3 25 "SpreadParity$OrderText" "length" "I") (List.mem_of_getElem? (i := 2) rfl)) (fun _ h9 => h9) rfl dX3_addSign_14 ?_
  refine lv_iconst (v := nI 1) hx hb dX3_addSign_17 rfl ?_
  refine q_addN hx hb dX3_addSign_18 ?_
  refine va_put (D := D) (ci := 3) (v := .int (nI (len + 1))) (ty := .int) (C := RX3) (T := TX3) (N := 4) hx hb hts (fun _ h => List.mem_cons_of_mem _ (List.mem_append_left _ (List.mem_append_right _ h))) tyX3 tyX3_ok nmX3 hown hK hw.1 hw.2.1 hw.2.2 14 rfl rfl 2 (by decide) (hts (.fieldLink RX3 25 "SpreadParity$OrderText" "length" "I") (List.mem_of_getElem? (i := 2) rfl)) (fun _ h9 => h9) rfl (tyX3_ok 2 (by decide)) rfl rfl (Nat.le_of_ble_eq_true rfl) dX3_addSign_19 (fun H locs hP hD hS => ?_)
  have hw : wS D A (wX cy a σ kept nxt cnt (upd T len ch) (len + 1) pos ph le nu va ++ Z) s H locs := ⟨hP, hD, hS⟩
  exact q_vretW hx hb hr hlocks hw dX3_addSign_22
set_option maxHeartbeats 1000000 in
set_option maxRecDepth 100000 in
theorem c_X3_empty {l : Launch} (D : va_G) (cy : ClassId) (A : Nat → Prop) (a : Nat → Nat) (σ kept : Nat → Int32) (nxt cnt : Nat) (T : Nat → Int32) (len pos : Nat) (ph le nu va : Int32) (Z : va_W) : Met l yX3_empty wsX3_empty (k2_rm 0 0) (gP D cy [.ref (a 14)] A (wX cy a σ kept nxt cnt T len pos ph le nu va ++ Z)) (gQ D A (none) (wX cy a σ kept nxt cnt T 0 pos ph le nu va ++ Z)) 0 0 A := by
  refine q_imp (cc := cX3_empty) (maxL := 1) (ret := none) pl_X3 rfl (Nat.le_of_ble_eq_true rfl) ?_
  intro p e s m below meth c ls hx hb hr hml hts hown hlocks hw hK hA hl
  have hP := hw.1
  have hl : lv_has ls 1 [(0, .ref (a 14))] := hl
  refine lv_aload_n hx hb dX3_empty_0 rfl (lv_at hl 0 rfl) ?_
  refine lv_iconst (v := nI 0) hx hb dX3_empty_1 rfl ?_
  refine va_put (D := D) (ci := 3) (v := .int (nI (0))) (ty := .int) (C := RX3) (T := TX3) (N := 4) hx hb hts (fun _ h => List.mem_cons_of_mem _ (List.mem_append_right _ h)) tyX3 tyX3_ok nmX3 hown hK hw.1 hw.2.1 hw.2.2 14 rfl rfl 2 (by decide) (hts (.fieldLink RX3 25 "SpreadParity$OrderText" "length" "I") (List.mem_of_getElem? (i := 1) rfl)) (fun _ h9 => h9) rfl (tyX3_ok 2 (by decide)) rfl rfl (Nat.le_of_ble_eq_true rfl) dX3_empty_2 (fun H locs hP hD hS => ?_)
  have hw : wS D A (wX cy a σ kept nxt cnt T 0 pos ph le nu va ++ Z) s H locs := ⟨hP, hD, hS⟩
  exact q_vretW hx hb hr hlocks hw dX3_empty_5
set_option maxHeartbeats 1000000 in
set_option maxRecDepth 100000 in
theorem c_X3_rewind {l : Launch} (D : va_G) (cy : ClassId) (A : Nat → Prop) (a : Nat → Nat) (σ kept : Nat → Int32) (nxt cnt : Nat) (T : Nat → Int32) (len pos : Nat) (ph le nu va : Int32) (Z : va_W) : Met l yX3_rewind wsX3_rewind (k2_rm 0 0) (gP D cy [.ref (a 14)] A (wX cy a σ kept nxt cnt T len pos ph le nu va ++ Z)) (gQ D A (none) (wX cy a σ kept nxt cnt T len 0 ph le nu va ++ Z)) 0 0 A := by
  refine q_imp (cc := cX3_rewind) (maxL := 1) (ret := none) pl_X3 rfl (Nat.le_of_ble_eq_true rfl) ?_
  intro p e s m below meth c ls hx hb hr hml hts hown hlocks hw hK hA hl
  have hP := hw.1
  have hl : lv_has ls 1 [(0, .ref (a 14))] := hl
  refine lv_aload_n hx hb dX3_rewind_0 rfl (lv_at hl 0 rfl) ?_
  refine lv_iconst (v := nI 0) hx hb dX3_rewind_1 rfl ?_
  refine va_put (D := D) (ci := 3) (v := .int (nI (0))) (ty := .int) (C := RX3) (T := TX3) (N := 4) hx hb hts (fun _ h => List.mem_cons_of_mem _ (List.mem_append_right _ h)) tyX3 tyX3_ok nmX3 hown hK hw.1 hw.2.1 hw.2.2 14 rfl rfl 3 (by decide) (hts (.fieldLink RX3 52 "SpreadParity$OrderText" "position" "I") (List.mem_of_getElem? (i := 1) rfl)) (fun _ h9 => h9) rfl (tyX3_ok 3 (by decide)) rfl rfl (Nat.le_of_ble_eq_true rfl) dX3_rewind_2 (fun H locs hP hD hS => ?_)
  have hw : wS D A (wX cy a σ kept nxt cnt T len 0 ph le nu va ++ Z) s H locs := ⟨hP, hD, hS⟩
  exact q_vretW hx hb hr hlocks hw dX3_rewind_5
set_option maxHeartbeats 1000000 in
set_option maxRecDepth 100000 in
theorem c_X3_order {l : Launch} (D : va_G) (cy : ClassId) (a : Nat → Nat) (σ kept : Nat → Int32) (nxt cnt : Nat) (T : Nat → Int32) (len pos : Nat) (ph le nu va : Int32) (Z : va_W) : Met l yX3_order wsX3_order (k2_rm 0 0) (gR D cy [.ref (a 14)] (wX cy a σ kept nxt cnt T len pos ph le nu va ++ Z)) (k2_QcV (.ref (a 17))) 0 0 (fun _ => False) := by
  refine q_pure (cc := cX3_order) (maxL := 1) (ret := (some (.object "SpreadParity$OrderReader"))) pl_X3 rfl (Nat.le_of_ble_eq_true rfl) ?_
  intro p e s m below meth c ls hx hb hr hml hts hown hlocks hP hK hl
  have hl : lv_has ls 1 [(0, .ref (a 14))] := hl
  refine lv_aload_n hx hb dX3_order_0 rfl (lv_at hl 0 rfl) ?_
  refine va_get (D := D) (ci := 3) (v := .ref (a 17)) (C := RX3) (T := TX3) (N := 4) hx hb hts (fun _ h => List.mem_cons_of_mem _ (List.mem_append_right _ h)) hown hK hP 14 rfl rfl 1 (by decide) (hts (.fieldLink RX3 21 "SpreadParity$OrderText" "reader" "LSpreadParity$OrderReader;") (List.mem_of_getElem? (i := 1) rfl)) (fun _ h9 => h9) rfl dX3_order_1 ?_
  exact q_aret hx hb hr hlocks dX3_order_4
set_option maxHeartbeats 1000000 in
set_option maxRecDepth 100000 in
theorem c_X3_firstRefused {l : Launch} (D : va_G) (cy : ClassId) (A : Nat → Prop) (a : Nat → Nat) (σ kept : Nat → Int32) (nxt cnt : Nat) (T : Nat → Int32) (len pos : Nat) (ph le nu va : Int32) (Z : va_W) (tx : Nat → Nat) (pp lc : Nat) (on ov : Option Nat) (h_0 : oB on) (h_1 : oB ov) (h_2 : ∀ i, tx i ≤ 126) (h_3 : len ≤ 60) : Met l yX3_firstRefused wsX3_firstRefused (k2_rm 3 66) (gP D cy [.ref (a 14)] A (wX cy a σ kept nxt cnt (tI tx) len pos (nI (pp)) (nI (lc)) (nO (on)) (nO (ov)) ++ Z)) (gQ D A (some (.int (nI ((scan tx len 0 (0, lc, on, ov)).1)))) (wX cy a σ kept nxt cnt (tI tx) len pos (nI ((scan tx len 0 (0, lc, on, ov)).2.1)) (nI ((scan tx len 0 (0, lc, on, ov)).2.2.1)) (nO ((scan tx len 0 (0, lc, on, ov)).2.2.2.1)) (nO ((scan tx len 0 (0, lc, on, ov)).2.2.2.2)) ++ Z)) 0 0 A := by
  refine q_imp (cc := cX3_firstRefused) (maxL := 2) (ret := (some .int)) pl_X3 rfl (Nat.le_of_ble_eq_true rfl) ?_
  intro p e s m below meth c ls hx hb hr hml hts hown hlocks hw hK hA hl
  have hP := hw.1
  have hl : lv_has ls 2 [(0, .ref (a 14))] := hl
  refine lv_aload_n hx hb dX3_firstRefused_0 rfl (lv_at hl 0 rfl) ?_
  refine va_get (D := D) (ci := 3) (v := .ref (a 17)) (C := RX3) (T := TX3) (N := 4) hx hb hts (fun _ h => List.mem_cons_of_mem _ (List.mem_append_left _ (List.mem_append_left _ (List.mem_append_right _ h)))) hown hK hP 14 rfl rfl 1 (by decide) (hts (.fieldLink RX3 21 "SpreadParity$OrderText" "reader" "LSpreadParity$OrderReader;") (List.mem_of_getElem? (i := 1) rfl)) (fun _ h9 => h9) rfl dX3_firstRefused_1 ?_
  refine q_wV0 (As := []) (rest := []) (st1 := []) ⟨hx, hb, hml, hown, hts⟩ (c_X2_restart D cy A a σ kept nxt cnt (tI tx) len pos (nI (pp)) (nI (lc)) (nO (on)) (nO (ov)) Z (pp) (lc) (on) (ov) ) (cwV 0 hts gX3_firstRefused_X2_restart rfl rfl rfl hd_X2_restart ⟨Nat.le_of_ble_eq_true rfl, Nat.le_of_ble_eq_true rfl⟩) hK hA hw 17 rfl rfl rfl hl.1 rfl rfl (Nat.le_of_ble_eq_true rfl) ⟨Nat.zero_le _, Nat.zero_le _⟩ dX3_firstRefused_4 (fun H locs hw => ?_)
  have hw : wS D A (wX cy a σ kept nxt cnt (tI tx) len pos (nI (0)) (nI (lc)) (nO (on)) (nO (ov)) ++ Z) s H locs := hw
  have hP := hw.1
  refine lv_iconst (v := nI 0) hx hb dX3_firstRefused_7 rfl ?_
  refine lv_istore_n (lv' := [(1, .int (nI (0))), (0, .ref (a 14))]) hx hb dX3_firstRefused_8 rfl hl (by decide) rfl (fun ls hl => ?_)
  have lp9 : ∀ (j_ i : Nat), i + j_ = len → ∀ (p1 : Nat) (l1 : Nat) (o1 : Option Nat) (v1 : Option Nat), scan tx len 0 (0, lc, on, ov) = scan tx j_ i (p1, l1, o1, v1) → rOK (p1, l1, o1, v1) → ∀ (H : Heap) (locs : List Loc) (ls : Array Slot), wS D A (wX cy a σ kept nxt cnt (tI tx) len pos (nI (p1)) (nI (l1)) (nO (o1)) (nO (v1)) ++ Z) s H locs → lv_has ls 2 [(0, .ref (a 14)), (1, .int (nI (i)))] → W p l e (k2_rm 3 66) s m ([.ref (a 14)] : List Value).toArray below meth c H locs 0 0 (MQ below (gQ D A (some (.int (nI ((scan tx len 0 (0, lc, on, ov)).1)))) (wX cy a σ kept nxt cnt (tI tx) len pos (nI ((scan tx len 0 (0, lc, on, ov)).2.1)) (nI ((scan tx len 0 (0, lc, on, ov)).2.2.1)) (nO ((scan tx len 0 (0, lc, on, ov)).2.2.2.1)) (nO ((scan tx len 0 (0, lc, on, ov)).2.2.2.2)) ++ Z)) ([.ref (a 14)] : List Value).toArray s 0 0 A) (F0 m 9 ls []) := by
    intro j_
    induction j_ with
    | zero =>
      intro i hn_i p1 l1 o1 v1 hy0 hy1 H locs ls hw hl
      have hP := hw.1
      refine lv_iload_n hx hb dX3_firstRefused_9 rfl (lv_at hl 1 rfl) ?_
      refine lv_aload_n hx hb dX3_firstRefused_10 rfl (lv_at hl 0 rfl) ?_
      refine va_get (D := D) (ci := 3) (v := .int (nI (len))) (C := RX3) (T := TX3) (N := 4) hx hb hts (fun _ h => List.mem_cons_of_mem _ (List.mem_append_left _ (List.mem_append_left _ (List.mem_append_right _ h)))) hown hK hP 14 rfl rfl 2 (by decide) (hts (.fieldLink RX3 25 "SpreadParity$OrderText" "length" "I") (List.mem_of_getElem? (i := 2) rfl)) (fun _ h9 => h9) rfl dX3_firstRefused_11 ?_
      refine q_geN (tgt := 43) hx hb dX3_firstRefused_14 (by decide) (by omega) (by omega) (fun c_14 => ?_) (fun c_14 => absurd c_14 (by omega))
      refine lv_aload_n hx hb dX3_firstRefused_43 rfl (lv_at hl 0 rfl) ?_
      refine va_get (D := D) (ci := 3) (v := .int (nI (len))) (C := RX3) (T := TX3) (N := 4) hx hb hts (fun _ h => List.mem_cons_of_mem _ (List.mem_append_left _ (List.mem_append_left _ (List.mem_append_right _ h)))) hown hK hP 14 rfl rfl 2 (by decide) (hts (.fieldLink RX3 25 "SpreadParity$OrderText" "length" "I") (List.mem_of_getElem? (i := 2) rfl)) (fun _ h9 => h9) rfl dX3_firstRefused_44 ?_
      have e_w : scan tx len 0 (0, lc, on, ov) = (i, (p1, l1, o1, v1)) := by rw [hy0]; simp only [scan]
      have hw : wS D A (wX cy a σ kept nxt cnt (tI tx) len pos (nI ((scan tx len 0 (0, lc, on, ov)).2.1)) (nI ((scan tx len 0 (0, lc, on, ov)).2.2.1)) (nO ((scan tx len 0 (0, lc, on, ov)).2.2.2.1)) (nO ((scan tx len 0 (0, lc, on, ov)).2.2.2.2)) ++ Z) s H locs := by rw [e_w]; exact hw
      exact q_iretW hx hb hr hlocks hw dX3_firstRefused_47 (by rw [e_w]; exact congrArg nI (by omega))
    | succ j_ ih_i =>
      intro i hn_i p1 l1 o1 v1 hy0 hy1 H locs ls hw hl
      have hP := hw.1
      refine lv_iload_n hx hb dX3_firstRefused_9 rfl (lv_at hl 1 rfl) ?_
      refine lv_aload_n hx hb dX3_firstRefused_10 rfl (lv_at hl 0 rfl) ?_
      refine va_get (D := D) (ci := 3) (v := .int (nI (len))) (C := RX3) (T := TX3) (N := 4) hx hb hts (fun _ h => List.mem_cons_of_mem _ (List.mem_append_left _ (List.mem_append_left _ (List.mem_append_right _ h)))) hown hK hP 14 rfl rfl 2 (by decide) (hts (.fieldLink RX3 25 "SpreadParity$OrderText" "length" "I") (List.mem_of_getElem? (i := 2) rfl)) (fun _ h9 => h9) rfl dX3_firstRefused_11 ?_
      refine q_geN (tgt := 43) hx hb dX3_firstRefused_14 (by decide) (by omega) (by omega) (fun c_14 => absurd c_14 (by omega)) (fun c_14 => ?_)
      refine lv_aload_n hx hb dX3_firstRefused_17 rfl (lv_at hl 0 rfl) ?_
      refine va_get (D := D) (ci := 3) (v := .ref (a 17)) (C := RX3) (T := TX3) (N := 4) hx hb hts (fun _ h => List.mem_cons_of_mem _ (List.mem_append_left _ (List.mem_append_left _ (List.mem_append_right _ h)))) hown hK hP 14 rfl rfl 1 (by decide) (hts (.fieldLink RX3 21 "SpreadParity$OrderText" "reader" "LSpreadParity$OrderReader;") (List.mem_of_getElem? (i := 1) rfl)) (fun _ h9 => h9) rfl dX3_firstRefused_18 ?_
      refine lv_aload_n hx hb dX3_firstRefused_21 rfl (lv_at hl 0 rfl) ?_
      refine va_get (D := D) (ci := 3) (v := .ref (a 15)) (C := RX3) (T := TX3) (N := 4) hx hb hts (fun _ h => List.mem_cons_of_mem _ (List.mem_append_left _ (List.mem_append_left _ (List.mem_append_right _ h)))) hown hK hP 14 rfl rfl 0 (by decide) (hts (.fieldLink RX3 14 "SpreadParity$OrderText" "signs" "LSpreadParity$Row;") (List.mem_of_getElem? (i := 3) rfl)) (fun _ h9 => h9) rfl dX3_firstRefused_22 ?_
      refine lv_iload_n hx hb dX3_firstRefused_25 rfl (lv_at hl 1 rfl) ?_
      refine q_cV (As := [.int (nI (i))]) (rest := [.ref (a 17)]) ⟨hx, hb, hml, hown, hts⟩ (c_X4_at D cy (wX cy a σ kept nxt cnt (tI tx) len pos (nI (p1)) (nI (l1)) (nO (o1)) (nO (v1)) ++ Z) 15 16 (a 15) (a 16) 60 (tI tx) rfl rfl (i) (by omega) (by omega)) (cwV 1 hts gX3_firstRefused_X4_at rfl rfl rfl hd_X4_at ⟨Nat.le_of_ble_eq_true rfl, Nat.le_of_ble_eq_true rfl⟩) hK hP 15 rfl rfl rfl hl.1 rfl (Nat.le_of_ble_eq_true rfl) ⟨Nat.zero_le _, Nat.zero_le _⟩ dX3_firstRefused_26 ?_
      refine q_top (show ((tI tx) i) = nI (tx i) from rfl) ?_
      refine q_wV0 (As := [.int (nI (tx i))]) (rest := []) (st1 := [.int (bI ((tkN (p1, l1, o1, v1) (tx i)).1))]) ⟨hx, hb, hml, hown, hts⟩ (c_X2_takes D cy A a σ kept nxt cnt (tI tx) len pos (nI (p1)) (nI (l1)) (nO (o1)) (nO (v1)) Z (p1) (l1) (o1) (v1) (tx i) (h_2 i) hy1.2.1 hy1.2.2 hy1.1) (cwV 1 hts gX3_firstRefused_X2_takes rfl rfl rfl hd_X2_takes ⟨Nat.le_of_ble_eq_true rfl, Nat.le_of_ble_eq_true rfl⟩) hK hA hw 17 rfl rfl rfl hl.1 rfl rfl (Nat.le_of_ble_eq_true rfl) ⟨Nat.zero_le _, Nat.zero_le _⟩ dX3_firstRefused_29 (fun H locs hw => ?_)
      have hw : wS D A (wX cy a σ kept nxt cnt (tI tx) len pos (nI ((tkN (p1, l1, o1, v1) (tx i)).2.1)) (nI ((tkN (p1, l1, o1, v1) (tx i)).2.2.1)) (nO ((tkN (p1, l1, o1, v1) (tx i)).2.2.2.1)) (nO ((tkN (p1, l1, o1, v1) (tx i)).2.2.2.2)) ++ Z) s H locs := hw
      have hP := hw.1
      refine q_ifneB (tgt := 37) hx hb dX3_firstRefused_32 (by decide) (fun c_32 => ?_) (fun c_32 => ?_)
      · refine lv_iinc (v := nI (i + 1)) (lv' := [(1, .int (nI (i + 1))), (0, .ref (a 14))]) hx hb dX3_firstRefused_37 hl (k := 1) rfl (show nI (i) + nI 1 = nI (i + 1) from nI_add _ _) (by decide) rfl (fun ls hl => ?_)
        refine lv_goto (tgt := 9) hx hb dX3_firstRefused_40 (by decide) ?_
        exact ih_i (i + 1) (by omega) (_) (_) (_) (_) (by rw [hy0]; simp only [scan, c_32, if_true]) (tkN_OK hy1 (h_2 i)) _ _ _ hw (lv_sub hl [1, 0] rfl)
      · refine lv_iload_n hx hb dX3_firstRefused_35 rfl (lv_at hl 1 rfl) ?_
        have e_w : scan tx len 0 (0, lc, on, ov) = (i, (tkN (p1, l1, o1, v1) (tx i)).2) := by rw [hy0]; simp only [scan, c_32, if_false, Bool.false_eq_true]
        have hw : wS D A (wX cy a σ kept nxt cnt (tI tx) len pos (nI ((scan tx len 0 (0, lc, on, ov)).2.1)) (nI ((scan tx len 0 (0, lc, on, ov)).2.2.1)) (nO ((scan tx len 0 (0, lc, on, ov)).2.2.2.1)) (nO ((scan tx len 0 (0, lc, on, ov)).2.2.2.2)) ++ Z) s H locs := by rw [e_w]; exact hw
        exact q_iretW hx hb hr hlocks hw dX3_firstRefused_36 (by rw [e_w])
  exact lp9 (len - 0) 0 (by omega) (0) (lc) (on) (ov) (rfl) (⟨by omega, h_0, h_1⟩) _ _ _ hw (lv_sub hl [1, 0] rfl)
set_option maxHeartbeats 1000000 in
set_option maxRecDepth 100000 in
theorem c_X3_isOrderText {l : Launch} (D : va_G) (cy : ClassId) (A : Nat → Prop) (a : Nat → Nat) (σ kept : Nat → Int32) (nxt cnt : Nat) (T : Nat → Int32) (len pos : Nat) (ph le nu va : Int32) (Z : va_W) (tx : Nat → Nat) (pp lc : Nat) (on ov : Option Nat) (h_0 : oB on) (h_1 : oB ov) (h_2 : ∀ i, tx i ≤ 126) (h_3 : len ≤ 60) : Met l yX3_isOrderText wsX3_isOrderText (k2_rm 4 87) (gP D cy [.ref (a 14)] A (wX cy a σ kept nxt cnt (tI tx) len pos (nI (pp)) (nI (lc)) (nO (on)) (nO (ov)) ++ Z)) (gQ D A (some (.int (bI (decide ((scan tx len 0 (0, lc, on, ov)).1 = len) && mE (scan tx len 0 (0, lc, on, ov)).2)))) (wX cy a σ kept nxt cnt (tI tx) len pos (nI ((scan tx len 0 (0, lc, on, ov)).2.1)) (nI ((scan tx len 0 (0, lc, on, ov)).2.2.1)) (nO ((scan tx len 0 (0, lc, on, ov)).2.2.2.1)) (nO ((scan tx len 0 (0, lc, on, ov)).2.2.2.2)) ++ Z)) 0 0 A := by
  refine q_imp (cc := cX3_isOrderText) (maxL := 1) (ret := (some .boolean)) pl_X3 rfl (Nat.le_of_ble_eq_true rfl) ?_
  intro p e s m below meth c ls hx hb hr hml hts hown hlocks hw hK hA hl
  have hP := hw.1
  have hl : lv_has ls 1 [(0, .ref (a 14))] := hl
  refine lv_aload_n hx hb dX3_isOrderText_0 rfl (lv_at hl 0 rfl) ?_
  refine q_wV0 (As := []) (rest := []) (st1 := [.int (nI ((scan tx len 0 (0, lc, on, ov)).1))]) ⟨hx, hb, hml, hown, hts⟩ (c_X3_firstRefused D cy A a σ kept nxt cnt (tI tx) len pos (nI (pp)) (nI (lc)) (nO (on)) (nO (ov)) Z (tx) (pp) (lc) (on) (ov) h_0 h_1 h_2 h_3) (cwV 0 hts gX3_isOrderText_X3_firstRefused rfl rfl rfl hd_X3_firstRefused ⟨Nat.le_of_ble_eq_true rfl, Nat.le_of_ble_eq_true rfl⟩) hK hA hw 14 rfl rfl rfl hl.1 rfl rfl (Nat.le_of_ble_eq_true rfl) ⟨Nat.zero_le _, Nat.zero_le _⟩ dX3_isOrderText_1 (fun H locs hw => ?_)
  have hw : wS D A (wX cy a σ kept nxt cnt (tI tx) len pos (nI ((scan tx len 0 (0, lc, on, ov)).2.1)) (nI ((scan tx len 0 (0, lc, on, ov)).2.2.1)) (nO ((scan tx len 0 (0, lc, on, ov)).2.2.2.1)) (nO ((scan tx len 0 (0, lc, on, ov)).2.2.2.2)) ++ Z) s H locs := hw
  have hP := hw.1
  refine lv_aload_n hx hb dX3_isOrderText_4 rfl (lv_at hl 0 rfl) ?_
  refine va_get (D := D) (ci := 3) (v := .int (nI (len))) (C := RX3) (T := TX3) (N := 4) hx hb hts (fun _ h => List.mem_cons_of_mem _ (List.mem_append_left _ (List.mem_append_left _ (List.mem_append_right _ h)))) hown hK hP 14 rfl rfl 2 (by decide) (hts (.fieldLink RX3 25 "SpreadParity$OrderText" "length" "I") (List.mem_of_getElem? (i := 1) rfl)) (fun _ h9 => h9) rfl dX3_isOrderText_5 ?_
  refine q_neN (tgt := 25) hx hb dX3_isOrderText_8 (by decide) (by have := scan_le tx len 0 (0, lc, on, ov); omega) (by omega) (fun c_8 => ?_) (fun c_8 => ?_)
  · refine lv_iconst (v := nI 0) hx hb dX3_isOrderText_25 rfl ?_
    exact q_zretW hx hb hr hlocks hw dX3_isOrderText_26 (by simp [c_8, bI, nI_0])
  · refine lv_aload_n hx hb dX3_isOrderText_11 rfl (lv_at hl 0 rfl) ?_
    refine va_get (D := D) (ci := 3) (v := .ref (a 17)) (C := RX3) (T := TX3) (N := 4) hx hb hts (fun _ h => List.mem_cons_of_mem _ (List.mem_append_left _ (List.mem_append_left _ (List.mem_append_right _ h)))) hown hK hP 14 rfl rfl 1 (by decide) (hts (.fieldLink RX3 21 "SpreadParity$OrderText" "reader" "LSpreadParity$OrderReader;") (List.mem_of_getElem? (i := 2) rfl)) (fun _ h9 => h9) rfl dX3_isOrderText_12 ?_
    refine q_cV (As := []) (rest := []) ⟨hx, hb, hml, hown, hts⟩ (c_X2_mayEnd D cy a σ kept nxt cnt (tI tx) len pos (nI ((scan tx len 0 (0, lc, on, ov)).2.1)) (nI ((scan tx len 0 (0, lc, on, ov)).2.2.1)) (nO ((scan tx len 0 (0, lc, on, ov)).2.2.2.1)) (nO ((scan tx len 0 (0, lc, on, ov)).2.2.2.2)) Z ((scan tx len 0 (0, lc, on, ov)).2.1) ((scan tx len 0 (0, lc, on, ov)).2.2.1) ((scan tx len 0 (0, lc, on, ov)).2.2.2.1) ((scan tx len 0 (0, lc, on, ov)).2.2.2.2) (scan_OK tx h_2 len 0 ⟨by omega, h_0, h_1⟩).2.1 (scan_OK tx h_2 len 0 ⟨by omega, h_0, h_1⟩).2.2 (scan_OK tx h_2 len 0 ⟨by omega, h_0, h_1⟩).1) (cwV 0 hts gX3_isOrderText_X2_mayEnd rfl rfl rfl hd_X2_mayEnd ⟨Nat.le_of_ble_eq_true rfl, Nat.le_of_ble_eq_true rfl⟩) hK hP 17 rfl rfl rfl hl.1 rfl (Nat.le_of_ble_eq_true rfl) ⟨Nat.zero_le _, Nat.zero_le _⟩ dX3_isOrderText_15 ?_
    refine q_ifeqB (tgt := 25) hx hb dX3_isOrderText_18 (by decide) (fun c_18 => ?_) (fun c_18 => ?_)
    · refine lv_iconst (v := nI 0) hx hb dX3_isOrderText_25 rfl ?_
      exact q_zretW hx hb hr hlocks hw dX3_isOrderText_26 (by simp [c_8, c_18, bI, nI_0, nI1])
    · refine lv_iconst (v := nI 1) hx hb dX3_isOrderText_21 rfl ?_
      refine lv_goto (tgt := 26) hx hb dX3_isOrderText_22 (by decide) ?_
      exact q_zretW hx hb hr hlocks hw dX3_isOrderText_26 (by simp [c_8, c_18, bI, nI_0, nI1])
set_option maxHeartbeats 1000000 in
set_option maxRecDepth 100000 in
theorem c_X3_nextOrder {l : Launch} (D : va_G) (cy : ClassId) (A : Nat → Prop) (a : Nat → Nat) (σ kept : Nat → Int32) (nxt cnt : Nat) (T : Nat → Int32) (len pos : Nat) (ph le nu va : Int32) (Z : va_W) (tx : Nat → Nat) (pp lc : Nat) (on ov : Option Nat) (h_0 : oB on) (h_1 : oB ov) (h_2 : ∀ i, tx i ≤ 126) (h_3 : len ≤ 60) (h_4 : pos ≤ 61) : Met l yX3_nextOrder wsX3_nextOrder (k2_rm 3 66) (gP D cy [.ref (a 14)] A (wX cy a σ kept nxt cnt (tI tx) len pos (nI (pp)) (nI (lc)) (nO (on)) (nO (ov)) ++ Z)) (gQ D A (some (.int (bI ((nxO tx len pos (pp, lc, on, ov)).1)))) (wX cy a σ kept nxt cnt (tI tx) len ((nxO tx len pos (pp, lc, on, ov)).2.1) (nI ((nxO tx len pos (pp, lc, on, ov)).2.2.1)) (nI ((nxO tx len pos (pp, lc, on, ov)).2.2.2.1)) (nO ((nxO tx len pos (pp, lc, on, ov)).2.2.2.2.1)) (nO ((nxO tx len pos (pp, lc, on, ov)).2.2.2.2.2)) ++ Z)) 0 0 A := by
  refine q_imp (cc := cX3_nextOrder) (maxL := 1) (ret := (some .boolean)) pl_X3 rfl (Nat.le_of_ble_eq_true rfl) ?_
  intro p e s m below meth c ls hx hb hr hml hts hown hlocks hw hK hA hl
  have hP := hw.1
  have hl : lv_has ls 1 [(0, .ref (a 14))] := hl
  refine lv_aload_n hx hb dX3_nextOrder_0 rfl (lv_at hl 0 rfl) ?_
  refine va_get (D := D) (ci := 3) (v := .int (nI (pos))) (C := RX3) (T := TX3) (N := 4) hx hb hts (fun _ h => List.mem_cons_of_mem _ (List.mem_append_left _ (List.mem_append_left _ (List.mem_append_right _ h)))) hown hK hP 14 rfl rfl 3 (by decide) (hts (.fieldLink RX3 52 "SpreadParity$OrderText" "position" "I") (List.mem_of_getElem? (i := 1) rfl)) (fun _ h9 => h9) rfl dX3_nextOrder_1 ?_
  refine lv_aload_n hx hb dX3_nextOrder_4 rfl (lv_at hl 0 rfl) ?_
  refine va_get (D := D) (ci := 3) (v := .int (nI (len))) (C := RX3) (T := TX3) (N := 4) hx hb hts (fun _ h => List.mem_cons_of_mem _ (List.mem_append_left _ (List.mem_append_left _ (List.mem_append_right _ h)))) hown hK hP 14 rfl rfl 2 (by decide) (hts (.fieldLink RX3 25 "SpreadParity$OrderText" "length" "I") (List.mem_of_getElem? (i := 2) rfl)) (fun _ h9 => h9) rfl dX3_nextOrder_5 ?_
  refine q_ltN (tgt := 13) hx hb dX3_nextOrder_8 (by decide) (by omega) (by omega) (fun c_8 => ?_) (fun c_8 => ?_)
  · refine lv_aload_n hx hb dX3_nextOrder_13 rfl (lv_at hl 0 rfl) ?_
    refine va_get (D := D) (ci := 3) (v := .ref (a 17)) (C := RX3) (T := TX3) (N := 4) hx hb hts (fun _ h => List.mem_cons_of_mem _ (List.mem_append_left _ (List.mem_append_left _ (List.mem_append_right _ h)))) hown hK hP 14 rfl rfl 1 (by decide) (hts (.fieldLink RX3 21 "SpreadParity$OrderText" "reader" "LSpreadParity$OrderReader;") (List.mem_of_getElem? (i := 3) rfl)) (fun _ h9 => h9) rfl dX3_nextOrder_14 ?_
    refine q_wV0 (As := []) (rest := []) (st1 := []) ⟨hx, hb, hml, hown, hts⟩ (c_X2_restart D cy A a σ kept nxt cnt (tI tx) len pos (nI (pp)) (nI (lc)) (nO (on)) (nO (ov)) Z (pp) (lc) (on) (ov) ) (cwV 0 hts gX3_nextOrder_X2_restart rfl rfl rfl hd_X2_restart ⟨Nat.le_of_ble_eq_true rfl, Nat.le_of_ble_eq_true rfl⟩) hK hA hw 17 rfl rfl rfl hl.1 rfl rfl (Nat.le_of_ble_eq_true rfl) ⟨Nat.zero_le _, Nat.zero_le _⟩ dX3_nextOrder_17 (fun H locs hw => ?_)
    have hw : wS D A (wX cy a σ kept nxt cnt (tI tx) len pos (nI (0)) (nI (lc)) (nO (on)) (nO (ov)) ++ Z) s H locs := hw
    have hP := hw.1
    have lp20 : ∀ (j_ i : Nat), i + j_ = len → ∀ (p1 : Nat) (l1 : Nat) (o1 : Option Nat) (v1 : Option Nat), nxA tx len (len - pos) pos (0, lc, on, ov) = nxA tx len j_ i (p1, l1, o1, v1) → rOK (p1, l1, o1, v1) → ∀ (H : Heap) (locs : List Loc) (ls : Array Slot), wS D A (wX cy a σ kept nxt cnt (tI tx) len i (nI (p1)) (nI (l1)) (nO (o1)) (nO (v1)) ++ Z) s H locs → lv_has ls 1 [(0, .ref (a 14))] → W p l e (k2_rm 3 66) s m ([.ref (a 14)] : List Value).toArray below meth c H locs 0 0 (MQ below (gQ D A (some (.int (bI ((nxO tx len pos (pp, lc, on, ov)).1)))) (wX cy a σ kept nxt cnt (tI tx) len ((nxO tx len pos (pp, lc, on, ov)).2.1) (nI ((nxO tx len pos (pp, lc, on, ov)).2.2.1)) (nI ((nxO tx len pos (pp, lc, on, ov)).2.2.2.1)) (nO ((nxO tx len pos (pp, lc, on, ov)).2.2.2.2.1)) (nO ((nxO tx len pos (pp, lc, on, ov)).2.2.2.2.2)) ++ Z)) ([.ref (a 14)] : List Value).toArray s 0 0 A) (F0 m 20 ls []) := by
      intro j_
      induction j_ with
      | zero =>
        intro i hn_i p1 l1 o1 v1 hy0 hy1 H locs ls hw hl
        have hP := hw.1
        refine lv_aload_n hx hb dX3_nextOrder_20 rfl (lv_at hl 0 rfl) ?_
        refine va_get (D := D) (ci := 3) (v := .int (nI (i))) (C := RX3) (T := TX3) (N := 4) hx hb hts (fun _ h => List.mem_cons_of_mem _ (List.mem_append_left _ (List.mem_append_left _ (List.mem_append_right _ h)))) hown hK hP 14 rfl rfl 3 (by decide) (hts (.fieldLink RX3 52 "SpreadParity$OrderText" "position" "I") (List.mem_of_getElem? (i := 1) rfl)) (fun _ h9 => h9) rfl dX3_nextOrder_21 ?_
        refine lv_aload_n hx hb dX3_nextOrder_24 rfl (lv_at hl 0 rfl) ?_
        refine va_get (D := D) (ci := 3) (v := .int (nI (len))) (C := RX3) (T := TX3) (N := 4) hx hb hts (fun _ h => List.mem_cons_of_mem _ (List.mem_append_left _ (List.mem_append_left _ (List.mem_append_right _ h)))) hown hK hP 14 rfl rfl 2 (by decide) (hts (.fieldLink RX3 25 "SpreadParity$OrderText" "length" "I") (List.mem_of_getElem? (i := 2) rfl)) (fun _ h9 => h9) rfl dX3_nextOrder_25 ?_
        refine q_geN (tgt := 79) hx hb dX3_nextOrder_28 (by decide) (by omega) (by omega) (fun c_28 => ?_) (fun c_28 => absurd c_28 (by omega))
        refine lv_aload_n hx hb dX3_nextOrder_79 rfl (lv_at hl 0 rfl) ?_
        refine lv_dup hx hb dX3_nextOrder_80 rfl ?_
        refine va_get (D := D) (ci := 3) (v := .int (nI (i))) (C := RX3) (T := TX3) (N := 4) hx hb hts (fun _ h => List.mem_cons_of_mem _ (List.mem_append_left _ (List.mem_append_left _ (List.mem_append_right _ h)))) hown hK hP 14 rfl rfl 3 (by decide) (hts (.fieldLink RX3 52 "SpreadParity$OrderText" "position" "I") (List.mem_of_getElem? (i := 1) rfl)) (fun _ h9 => h9) rfl dX3_nextOrder_81 ?_
        refine lv_iconst (v := nI 1) hx hb dX3_nextOrder_84 rfl ?_
        refine q_addN hx hb dX3_nextOrder_85 ?_
        refine va_put (D := D) (ci := 3) (v := .int (nI (i + 1))) (ty := .int) (C := RX3) (T := TX3) (N := 4) hx hb hts (fun _ h => List.mem_cons_of_mem _ (List.mem_append_left _ (List.mem_append_left _ (List.mem_append_right _ h)))) tyX3 tyX3_ok nmX3 hown hK hw.1 hw.2.1 hw.2.2 14 rfl rfl 3 (by decide) (hts (.fieldLink RX3 52 "SpreadParity$OrderText" "position" "I") (List.mem_of_getElem? (i := 1) rfl)) (fun _ h9 => h9) rfl (tyX3_ok 3 (by decide)) rfl rfl (Nat.le_of_ble_eq_true rfl) dX3_nextOrder_86 (fun H locs hP hD hS => ?_)
        have hw : wS D A (wX cy a σ kept nxt cnt (tI tx) len (i + 1) (nI (p1)) (nI (l1)) (nO (o1)) (nO (v1)) ++ Z) s H locs := ⟨hP, hD, hS⟩
        refine lv_iconst (v := nI 1) hx hb dX3_nextOrder_89 rfl ?_
        have e_n : nxA tx len (len - pos) pos (0, lc, on, ov) = (i, (p1, l1, o1, v1)) := by rw [hy0]; simp only [nxA]
        have e_w : nxO tx len pos (pp, lc, on, ov) = (true, i + 1, (p1, l1, o1, v1)) := by rw [nxO, if_pos (by omega), e_n]
        have hw : wS D A (wX cy a σ kept nxt cnt (tI tx) len ((nxO tx len pos (pp, lc, on, ov)).2.1) (nI ((nxO tx len pos (pp, lc, on, ov)).2.2.1)) (nI ((nxO tx len pos (pp, lc, on, ov)).2.2.2.1)) (nO ((nxO tx len pos (pp, lc, on, ov)).2.2.2.2.1)) (nO ((nxO tx len pos (pp, lc, on, ov)).2.2.2.2.2)) ++ Z) s H locs := by rw [e_w]; exact hw
        exact q_zretW hx hb hr hlocks hw dX3_nextOrder_90 (by rw [e_w]; rfl)
      | succ j_ ih_i =>
        intro i hn_i p1 l1 o1 v1 hy0 hy1 H locs ls hw hl
        have hP := hw.1
        refine lv_aload_n hx hb dX3_nextOrder_20 rfl (lv_at hl 0 rfl) ?_
        refine va_get (D := D) (ci := 3) (v := .int (nI (i))) (C := RX3) (T := TX3) (N := 4) hx hb hts (fun _ h => List.mem_cons_of_mem _ (List.mem_append_left _ (List.mem_append_left _ (List.mem_append_right _ h)))) hown hK hP 14 rfl rfl 3 (by decide) (hts (.fieldLink RX3 52 "SpreadParity$OrderText" "position" "I") (List.mem_of_getElem? (i := 1) rfl)) (fun _ h9 => h9) rfl dX3_nextOrder_21 ?_
        refine lv_aload_n hx hb dX3_nextOrder_24 rfl (lv_at hl 0 rfl) ?_
        refine va_get (D := D) (ci := 3) (v := .int (nI (len))) (C := RX3) (T := TX3) (N := 4) hx hb hts (fun _ h => List.mem_cons_of_mem _ (List.mem_append_left _ (List.mem_append_left _ (List.mem_append_right _ h)))) hown hK hP 14 rfl rfl 2 (by decide) (hts (.fieldLink RX3 25 "SpreadParity$OrderText" "length" "I") (List.mem_of_getElem? (i := 2) rfl)) (fun _ h9 => h9) rfl dX3_nextOrder_25 ?_
        refine q_geN (tgt := 79) hx hb dX3_nextOrder_28 (by decide) (by omega) (by omega) (fun c_28 => absurd c_28 (by omega)) (fun c_28 => ?_)
        refine lv_aload_n hx hb dX3_nextOrder_31 rfl (lv_at hl 0 rfl) ?_
        refine va_get (D := D) (ci := 3) (v := .ref (a 15)) (C := RX3) (T := TX3) (N := 4) hx hb hts (fun _ h => List.mem_cons_of_mem _ (List.mem_append_left _ (List.mem_append_left _ (List.mem_append_right _ h)))) hown hK hP 14 rfl rfl 0 (by decide) (hts (.fieldLink RX3 14 "SpreadParity$OrderText" "signs" "LSpreadParity$Row;") (List.mem_of_getElem? (i := 4) rfl)) (fun _ h9 => h9) rfl dX3_nextOrder_32 ?_
        refine lv_aload_n hx hb dX3_nextOrder_35 rfl (lv_at hl 0 rfl) ?_
        refine va_get (D := D) (ci := 3) (v := .int (nI (i))) (C := RX3) (T := TX3) (N := 4) hx hb hts (fun _ h => List.mem_cons_of_mem _ (List.mem_append_left _ (List.mem_append_left _ (List.mem_append_right _ h)))) hown hK hP 14 rfl rfl 3 (by decide) (hts (.fieldLink RX3 52 "SpreadParity$OrderText" "position" "I") (List.mem_of_getElem? (i := 1) rfl)) (fun _ h9 => h9) rfl dX3_nextOrder_36 ?_
        refine q_cV (As := [.int (nI (i))]) (rest := []) ⟨hx, hb, hml, hown, hts⟩ (c_X4_at D cy (wX cy a σ kept nxt cnt (tI tx) len i (nI (p1)) (nI (l1)) (nO (o1)) (nO (v1)) ++ Z) 15 16 (a 15) (a 16) 60 (tI tx) rfl rfl (i) (by omega) (by omega)) (cwV 1 hts gX3_nextOrder_X4_at rfl rfl rfl hd_X4_at ⟨Nat.le_of_ble_eq_true rfl, Nat.le_of_ble_eq_true rfl⟩) hK hP 15 rfl rfl rfl hl.1 rfl (Nat.le_of_ble_eq_true rfl) ⟨Nat.zero_le _, Nat.zero_le _⟩ dX3_nextOrder_39 ?_
        refine q_top (show ((tI tx) i) = nI (tx i) from rfl) ?_
        refine lv_bipush (v := nI 59) hx hb dX3_nextOrder_42 rfl ?_
        refine q_eqN (tgt := 79) hx hb dX3_nextOrder_44 (by decide) (by have := h_2 i; omega) (by omega) (fun c_44 => ?_) (fun c_44 => ?_)
        · refine lv_aload_n hx hb dX3_nextOrder_79 rfl (lv_at hl 0 rfl) ?_
          refine lv_dup hx hb dX3_nextOrder_80 rfl ?_
          refine va_get (D := D) (ci := 3) (v := .int (nI (i))) (C := RX3) (T := TX3) (N := 4) hx hb hts (fun _ h => List.mem_cons_of_mem _ (List.mem_append_left _ (List.mem_append_left _ (List.mem_append_right _ h)))) hown hK hP 14 rfl rfl 3 (by decide) (hts (.fieldLink RX3 52 "SpreadParity$OrderText" "position" "I") (List.mem_of_getElem? (i := 1) rfl)) (fun _ h9 => h9) rfl dX3_nextOrder_81 ?_
          refine lv_iconst (v := nI 1) hx hb dX3_nextOrder_84 rfl ?_
          refine q_addN hx hb dX3_nextOrder_85 ?_
          refine va_put (D := D) (ci := 3) (v := .int (nI (i + 1))) (ty := .int) (C := RX3) (T := TX3) (N := 4) hx hb hts (fun _ h => List.mem_cons_of_mem _ (List.mem_append_left _ (List.mem_append_left _ (List.mem_append_right _ h)))) tyX3 tyX3_ok nmX3 hown hK hw.1 hw.2.1 hw.2.2 14 rfl rfl 3 (by decide) (hts (.fieldLink RX3 52 "SpreadParity$OrderText" "position" "I") (List.mem_of_getElem? (i := 1) rfl)) (fun _ h9 => h9) rfl (tyX3_ok 3 (by decide)) rfl rfl (Nat.le_of_ble_eq_true rfl) dX3_nextOrder_86 (fun H locs hP hD hS => ?_)
          have hw : wS D A (wX cy a σ kept nxt cnt (tI tx) len (i + 1) (nI (p1)) (nI (l1)) (nO (o1)) (nO (v1)) ++ Z) s H locs := ⟨hP, hD, hS⟩
          refine lv_iconst (v := nI 1) hx hb dX3_nextOrder_89 rfl ?_
          have e_n : nxA tx len (len - pos) pos (0, lc, on, ov) = (i, (p1, l1, o1, v1)) := by rw [hy0]; simp only [nxA]; rw [if_neg (fun h => h.2 c_44)]
          have e_w : nxO tx len pos (pp, lc, on, ov) = (true, i + 1, (p1, l1, o1, v1)) := by rw [nxO, if_pos (by omega), e_n]
          have hw : wS D A (wX cy a σ kept nxt cnt (tI tx) len ((nxO tx len pos (pp, lc, on, ov)).2.1) (nI ((nxO tx len pos (pp, lc, on, ov)).2.2.1)) (nI ((nxO tx len pos (pp, lc, on, ov)).2.2.2.1)) (nO ((nxO tx len pos (pp, lc, on, ov)).2.2.2.2.1)) (nO ((nxO tx len pos (pp, lc, on, ov)).2.2.2.2.2)) ++ Z) s H locs := by rw [e_w]; exact hw
          exact q_zretW hx hb hr hlocks hw dX3_nextOrder_90 (by rw [e_w]; rfl)
        · refine lv_aload_n hx hb dX3_nextOrder_47 rfl (lv_at hl 0 rfl) ?_
          refine va_get (D := D) (ci := 3) (v := .ref (a 17)) (C := RX3) (T := TX3) (N := 4) hx hb hts (fun _ h => List.mem_cons_of_mem _ (List.mem_append_left _ (List.mem_append_left _ (List.mem_append_right _ h)))) hown hK hP 14 rfl rfl 1 (by decide) (hts (.fieldLink RX3 21 "SpreadParity$OrderText" "reader" "LSpreadParity$OrderReader;") (List.mem_of_getElem? (i := 3) rfl)) (fun _ h9 => h9) rfl dX3_nextOrder_48 ?_
          refine lv_aload_n hx hb dX3_nextOrder_51 rfl (lv_at hl 0 rfl) ?_
          refine va_get (D := D) (ci := 3) (v := .ref (a 15)) (C := RX3) (T := TX3) (N := 4) hx hb hts (fun _ h => List.mem_cons_of_mem _ (List.mem_append_left _ (List.mem_append_left _ (List.mem_append_right _ h)))) hown hK hP 14 rfl rfl 0 (by decide) (hts (.fieldLink RX3 14 "SpreadParity$OrderText" "signs" "LSpreadParity$Row;") (List.mem_of_getElem? (i := 4) rfl)) (fun _ h9 => h9) rfl dX3_nextOrder_52 ?_
          refine lv_aload_n hx hb dX3_nextOrder_55 rfl (lv_at hl 0 rfl) ?_
          refine va_get (D := D) (ci := 3) (v := .int (nI (i))) (C := RX3) (T := TX3) (N := 4) hx hb hts (fun _ h => List.mem_cons_of_mem _ (List.mem_append_left _ (List.mem_append_left _ (List.mem_append_right _ h)))) hown hK hP 14 rfl rfl 3 (by decide) (hts (.fieldLink RX3 52 "SpreadParity$OrderText" "position" "I") (List.mem_of_getElem? (i := 1) rfl)) (fun _ h9 => h9) rfl dX3_nextOrder_56 ?_
          refine q_cV (As := [.int (nI (i))]) (rest := [.ref (a 17)]) ⟨hx, hb, hml, hown, hts⟩ (c_X4_at D cy (wX cy a σ kept nxt cnt (tI tx) len i (nI (p1)) (nI (l1)) (nO (o1)) (nO (v1)) ++ Z) 15 16 (a 15) (a 16) 60 (tI tx) rfl rfl (i) (by omega) (by omega)) (cwV 1 hts gX3_nextOrder_X4_at rfl rfl rfl hd_X4_at ⟨Nat.le_of_ble_eq_true rfl, Nat.le_of_ble_eq_true rfl⟩) hK hP 15 rfl rfl rfl hl.1 rfl (Nat.le_of_ble_eq_true rfl) ⟨Nat.zero_le _, Nat.zero_le _⟩ dX3_nextOrder_59 ?_
          refine q_top (show ((tI tx) i) = nI (tx i) from rfl) ?_
          refine q_wV0 (As := [.int (nI (tx i))]) (rest := []) (st1 := [.int (bI ((tkN (p1, l1, o1, v1) (tx i)).1))]) ⟨hx, hb, hml, hown, hts⟩ (c_X2_takes D cy A a σ kept nxt cnt (tI tx) len i (nI (p1)) (nI (l1)) (nO (o1)) (nO (v1)) Z (p1) (l1) (o1) (v1) (tx i) (h_2 i) hy1.2.1 hy1.2.2 hy1.1) (cwV 1 hts gX3_nextOrder_X2_takes rfl rfl rfl hd_X2_takes ⟨Nat.le_of_ble_eq_true rfl, Nat.le_of_ble_eq_true rfl⟩) hK hA hw 17 rfl rfl rfl hl.1 rfl rfl (Nat.le_of_ble_eq_true rfl) ⟨Nat.zero_le _, Nat.zero_le _⟩ dX3_nextOrder_62 (fun H locs hw => ?_)
          have hw : wS D A (wX cy a σ kept nxt cnt (tI tx) len i (nI ((tkN (p1, l1, o1, v1) (tx i)).2.1)) (nI ((tkN (p1, l1, o1, v1) (tx i)).2.2.1)) (nO ((tkN (p1, l1, o1, v1) (tx i)).2.2.2.1)) (nO ((tkN (p1, l1, o1, v1) (tx i)).2.2.2.2)) ++ Z) s H locs := hw
          have hP := hw.1
          refine lv_pop hx hb dX3_nextOrder_65 rfl ?_
          refine lv_aload_n hx hb dX3_nextOrder_66 rfl (lv_at hl 0 rfl) ?_
          refine lv_dup hx hb dX3_nextOrder_67 rfl ?_
          refine va_get (D := D) (ci := 3) (v := .int (nI (i))) (C := RX3) (T := TX3) (N := 4) hx hb hts (fun _ h => List.mem_cons_of_mem _ (List.mem_append_left _ (List.mem_append_left _ (List.mem_append_right _ h)))) hown hK hP 14 rfl rfl 3 (by decide) (hts (.fieldLink RX3 52 "SpreadParity$OrderText" "position" "I") (List.mem_of_getElem? (i := 1) rfl)) (fun _ h9 => h9) rfl dX3_nextOrder_68 ?_
          refine lv_iconst (v := nI 1) hx hb dX3_nextOrder_71 rfl ?_
          refine q_addN hx hb dX3_nextOrder_72 ?_
          refine va_put (D := D) (ci := 3) (v := .int (nI (i + 1))) (ty := .int) (C := RX3) (T := TX3) (N := 4) hx hb hts (fun _ h => List.mem_cons_of_mem _ (List.mem_append_left _ (List.mem_append_left _ (List.mem_append_right _ h)))) tyX3 tyX3_ok nmX3 hown hK hw.1 hw.2.1 hw.2.2 14 rfl rfl 3 (by decide) (hts (.fieldLink RX3 52 "SpreadParity$OrderText" "position" "I") (List.mem_of_getElem? (i := 1) rfl)) (fun _ h9 => h9) rfl (tyX3_ok 3 (by decide)) rfl rfl (Nat.le_of_ble_eq_true rfl) dX3_nextOrder_73 (fun H locs hP hD hS => ?_)
          have hw : wS D A (wX cy a σ kept nxt cnt (tI tx) len (i + 1) (nI ((tkN (p1, l1, o1, v1) (tx i)).2.1)) (nI ((tkN (p1, l1, o1, v1) (tx i)).2.2.1)) (nO ((tkN (p1, l1, o1, v1) (tx i)).2.2.2.1)) (nO ((tkN (p1, l1, o1, v1) (tx i)).2.2.2.2)) ++ Z) s H locs := ⟨hP, hD, hS⟩
          refine lv_goto (tgt := 20) hx hb dX3_nextOrder_76 (by decide) ?_
          exact ih_i (i + 1) (by omega) (_) (_) (_) (_) (by rw [hy0]; simp only [nxA]; rw [if_pos ⟨by omega, c_44⟩]) (tkN_OK hy1 (h_2 i)) _ _ _ hw (lv_sub hl [0] rfl)
    exact lp20 (len - pos) pos (by omega) (0) (lc) (on) (ov) (rfl) (⟨by omega, h_0, h_1⟩) _ _ _ hw (lv_sub hl [0] rfl)
  · refine lv_iconst (v := nI 0) hx hb dX3_nextOrder_11 rfl ?_
    have e_w : nxO tx len pos (pp, lc, on, ov) = (false, pos, (pp, lc, on, ov)) := by rw [nxO, if_neg (by omega)]
    have hw : wS D A (wX cy a σ kept nxt cnt (tI tx) len ((nxO tx len pos (pp, lc, on, ov)).2.1) (nI ((nxO tx len pos (pp, lc, on, ov)).2.2.1)) (nI ((nxO tx len pos (pp, lc, on, ov)).2.2.2.1)) (nO ((nxO tx len pos (pp, lc, on, ov)).2.2.2.2.1)) (nO ((nxO tx len pos (pp, lc, on, ov)).2.2.2.2.2)) ++ Z) s s.heap [] := by rw [e_w]; exact hw
    exact q_zretW hx hb hr hlocks hw dX3_nextOrder_12 (by rw [e_w]; rfl)
