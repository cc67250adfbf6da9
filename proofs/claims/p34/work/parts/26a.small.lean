/-! The law's small methods, and the layout. -/
/-- a number without its sign bit -/
def lw (v : Int32) : Nat := (v &&& nI 2147483647).toNatClampNeg
theorem lw_R (v : Int32) : inR (v &&& nI 2147483647) (2 ^ 31) = true := by
  have h1 : (v &&& nI 2147483647).toBitVec.toNat ≤ 2147483647 := by
    rw [Int32.toBitVec_and, BitVec.toNat_and]
    refine Nat.le_trans Nat.and_le_right ?_
    decide
  have h2 : (v &&& nI 2147483647).toInt = ((v &&& nI 2147483647).toBitVec.toNat : Int) := by
    show (v &&& nI 2147483647).toBitVec.toInt = _
    exact BitVec.toInt_eq_toNat_of_lt (by omega)
  simp only [inR, Bool.and_eq_true, decide_eq_true_eq]
  omega
theorem lw_eq (v : Int32) : v &&& nI 2147483647 = nI (lw v) := by
  obtain ⟨j, hj, e⟩ := inR_nI (lw_R v)
  unfold lw
  rw [e, nI_clamp hj]
theorem lw_lt (v : Int32) : lw v < 2 ^ 31 := by
  obtain ⟨j, hj, e⟩ := inR_nI (lw_R v)
  unfold lw
  rw [e, nI_clamp hj]
  exact hj
/-- how many of the first n discs are not sound -/
def unS (σ : Nat → Int32) (n : Nat) : Nat := cntB (fun d => !decide (σ (63 + d) = 9)) n
theorem unS_0 {σ : Nat → Int32} {n : Nat} (h : σ (63 + n) = 9) : unS σ n + 0 = unS σ (n + 1) := by
  unfold unS
  simp only [cntB, h, decide_true, Bool.not_true, Bool.false_eq_true, if_false]
theorem unS_1 {σ : Nat → Int32} {n : Nat} (h : ¬ σ (63 + n) = 9) : unS σ n + 1 = unS σ (n + 1) := by
  unfold unS
  simp only [cntB, h, decide_false, Bool.not_false, if_true]
theorem unS_le (σ : Nat → Int32) (n : Nat) : unS σ n ≤ n := cntB_le _ _
/-- the stripe ahead of a place -/
def laS (d : Nat) : Nat → Int32
  | 0 => -1
  | p + 1 => nI (stT (9 * d + p))
theorem la_lt {d p : Nat} (hd : d < 7) (hp : p < 9) : ¬ nI (stT (9 * d + p)) ≤ laS d p := (show ∀ d, d < 7 → ∀ p, p < 9 → ¬ nI (stT (9 * d + p)) ≤ laS d p by decide +kernel) d hd p hp
theorem la_mem {d p : Nat} (hd : d < 7) (hp : p < 9) (h0 : ¬ mem (stT (9 * d + p)) 0 = d) (h1 : ¬ mem (stT (9 * d + p)) 1 = d) : ¬ ¬ mem (stT (9 * d + p)) 2 = d := (show ∀ d, d < 7 → ∀ p, p < 9 → ¬ mem (stT (9 * d + p)) 0 = d → ¬ mem (stT (9 * d + p)) 1 = d → ¬ ¬ mem (stT (9 * d + p)) 2 = d by decide +kernel) d hd p hp h0 h1
def plN (d p u : Nat) : Nat := 10 * (spT (3 * stT (9 * d + p) + u) / 9) + spT (3 * stT (9 * d + p) + u) % 9
theorem la_pl {d p : Nat} (hd : d < 7) (hp : p < 9) (h0 : ¬ plN d p 0 = 10 * d + p) (h1 : ¬ plN d p 1 = 10 * d + p) : ¬ ¬ plN d p 2 = 10 * d + p := (show ∀ d, d < 7 → ∀ p, p < 9 → ¬ plN d p 0 = 10 * d + p → ¬ plN d p 1 = 10 * d + p → ¬ ¬ plN d p 2 = 10 * d + p by decide +kernel) d hd p hp h0 h1
/-- common stripes of two discs among the first n -/
def boS (d q n : Nat) : Nat := cntB (fun s => lies s d && lies s q && !decide (d = q)) n
theorem boS_s (d q n : Nat) : boS d q (n + 1) = boS d q n + (if (lies n d && lies n q && !decide (d = q)) = true then 1 else 0) := rfl
theorem boS_le (d q n : Nat) : boS d q n ≤ n := cntB_le _ _
theorem bo_21 {d q : Nat} (hd : d < 7) (hq : q < 7) : boS d q 21 = if d = q then 0 else 3 := (show ∀ d, d < 7 → ∀ q, q < 7 → boS d q 21 = if d = q then 0 else 3 by decide +kernel) d hd q hq
theorem bo_i {d q : Nat} (hd : d < 7) (hq : q < 7) : (if d = q then 0 else both d q) = boS d q 21 := (show ∀ d, d < 7 → ∀ q, q < 7 → (if d = q then 0 else both d q) = boS d q 21 by decide +kernel) d hd q hq
theorem pl_par {s : Nat} (hs : s < 21) : (10 * (spT (3 * s + 2) / 9) + spT (3 * s + 2) % 9) / 10 = mem s (s / 7) := (show ∀ s, s < 21 → (10 * (spT (3 * s + 2) / 9) + spT (3 * s + 2) % 9) / 10 = mem s (s / 7) by decide +kernel) s hs
set_option maxHeartbeats 1000000 in
set_option maxRecDepth 100000 in
theorem c_L_low {l : Launch} (D : va_G) (cy : ClassId)  (v : Int32) (n : Nat) (h_0 : 0 < n) (h_1 : n < 2 ^ 31) : Met l yL_low wsL_low (k2_rm 0 0) (gR D cy [.int (v), .int (nI (n))] []) (k2_QcV (.int (nI (lw v % n)))) 0 0 (fun _ => False) := by
  refine q_pure (cc := cL_low) (maxL := 2) (ret := (some .int)) pl_L rfl (Nat.le_of_ble_eq_true rfl) ?_
  intro p e s m below meth c ls hx hb hr hml hts hown hlocks hP hK hl
  have hl : lv_has ls 2 [(0, .int (v)), (1, .int (nI (n)))] := hl
  refine lv_iload_n hx hb dL_low_0 rfl (lv_at hl 0 rfl) ?_
  refine lv_ldc (v  := nI 2147483647) hx hb hown (hts (.constant RL 9 (2147483647)) (List.mem_of_getElem? (i := 1) rfl)) dL_low_1 ?_
  refine lv_iand hx hb dL_low_3 ?_
  refine q_top (show (v &&& 2147483647) = nI (lw v) from lw_eq v) ?_
  refine lv_iload_n hx hb dL_low_4 rfl (lv_at hl 1 rfl) ?_
  refine q_remN hx hb dL_low_5 (by omega) (lw_lt v) (by omega) ?_
  exact q_iret hx hb hr hlocks dL_low_6 (rfl)
set_option maxHeartbeats 1000000 in
set_option maxRecDepth 100000 in
theorem c_L_counted {l : Launch} (D : va_G) (cy : ClassId) (a : Nat → Nat) (σ kept : Nat → Int32) (nxt cnt : Nat) (T : Nat → Int32) (len pos : Nat) (ph le nu va : Int32) (Z : va_W) : Met l yL_counted wsL_counted (k2_rm 7 103) (gR D cy [.ref (a 0)] (wX cy a σ kept nxt cnt T len pos ph le nu va ++ Z)) (k2_QcV (.int (cnS σ 7))) 0 0 (fun _ => False) := by
  refine q_pure (cc := cL_counted) (maxL := 3) (ret := (some .int)) pl_L rfl (Nat.le_of_ble_eq_true rfl) ?_
  intro p e s m below meth c ls hx hb hr hml hts hown hlocks hP hK hl
  have hl : lv_has ls 3 [(0, .ref (a 0))] := hl
  refine lv_iconst (v := nI 0) hx hb dL_counted_0 rfl ?_
  refine lv_istore_n (lv' := [(1, .int (nI (0))), (0, .ref (a 0))]) hx hb dL_counted_1 rfl hl (by decide) rfl (fun ls hl => ?_)
  refine lv_iconst (v := nI 0) hx hb dL_counted_2 rfl ?_
  refine lv_istore_n (lv' := [(2, .int (nI (0))), (1, .int (nI (0))), (0, .ref (a 0))]) hx hb dL_counted_3 rfl hl (by decide) rfl (fun ls hl => ?_)
  have lp4 : ∀ (j_ i : Nat), i + j_ = 7 → ∀ (ls : Array Slot), lv_has ls 3 [(0, .ref (a 0)), (1, .int (cnS σ i)), (2, .int (nI (i)))] → W p l e (k2_rm 7 103) s m ([.ref (a 0)] : List Value).toArray below meth c s.heap [] 0 0 (MQ below (k2_QcV (.int (cnS σ 7))) ([.ref (a 0)] : List Value).toArray s 0 0 (fun _ => False)) (F0 m 4 ls []) := by
    intro j_
    induction j_ with
    | zero =>
      intro i hn_i ls hl
      refine lv_iload_n hx hb dL_counted_4 rfl (lv_at hl 2 rfl) ?_
      refine lv_bipush (v := nI 7) hx hb dL_counted_5 rfl ?_
      refine q_geN (tgt := 30) hx hb dL_counted_7 (by decide) (by omega) (by omega) (fun c_7 => ?_) (fun c_7 => absurd c_7 (by omega))
      refine lv_iload_n hx hb dL_counted_30 rfl (lv_at hl 1 rfl) ?_
      exact q_iret hx hb hr hlocks dL_counted_31 (by have e9 : i = 7 := (by omega); subst e9; rfl)
    | succ j_ ih_i =>
      intro i hn_i ls hl
      refine lv_iload_n hx hb dL_counted_4 rfl (lv_at hl 2 rfl) ?_
      refine lv_bipush (v := nI 7) hx hb dL_counted_5 rfl ?_
      refine q_geN (tgt := 30) hx hb dL_counted_7 (by decide) (by omega) (by omega) (fun c_7 => absurd c_7 (by omega)) (fun c_7 => ?_)
      refine lv_iload_n hx hb dL_counted_10 rfl (lv_at hl 1 rfl) ?_
      refine lv_aload_n hx hb dL_counted_11 rfl (lv_at hl 0 rfl) ?_
      refine lv_iload_n hx hb dL_counted_12 rfl (lv_at hl 2 rfl) ?_
      refine q_cV (As := [.int (nI (i))]) (rest := [.int (cnS σ i)]) ⟨hx, hb, hml, hown, hts⟩ (k_X6_reads D cy a σ kept nxt cnt T len pos ph le nu va Z (i) (by omega)) (cwV 1 hts gL_counted_X6_reads rfl rfl rfl hd_X6_reads ⟨Nat.le_of_ble_eq_true rfl, Nat.le_of_ble_eq_true rfl⟩) hK hP 0 rfl rfl rfl hl.1 rfl (Nat.le_of_ble_eq_true rfl) ⟨Nat.zero_le _, Nat.zero_le _⟩ dL_counted_13 ?_
      refine lv_aload_n hx hb dL_counted_16 rfl (lv_at hl 0 rfl) ?_
      refine lv_iload_n hx hb dL_counted_17 rfl (lv_at hl 2 rfl) ?_
      refine q_cV (As := [.int (nI (i))]) (rest := [.int (σ (70 + i)), .int (cnS σ i)]) ⟨hx, hb, hml, hown, hts⟩ (k_X6_writes D cy a σ kept nxt cnt T len pos ph le nu va Z (i) (by omega)) (cwV 1 hts gL_counted_X6_writes rfl rfl rfl hd_X6_writes ⟨Nat.le_of_ble_eq_true rfl, Nat.le_of_ble_eq_true rfl⟩) hK hP 0 rfl rfl rfl hl.1 rfl (Nat.le_of_ble_eq_true rfl) ⟨Nat.zero_le _, Nat.zero_le _⟩ dL_counted_18 ?_
      refine lv_iadd hx hb dL_counted_21 ?_
      refine lv_iadd hx hb dL_counted_22 ?_
      refine lv_istore_n (lv' := [(1, .int ((cnS σ i) + ((σ (70 + i)) + (σ (77 + i))))), (0, .ref (a 0)), (2, .int (nI (i)))]) hx hb dL_counted_23 rfl hl (by decide) rfl (fun ls hl => ?_)
      have hl : lv_has ls 3 [(1, .int (cnS σ (i + 1))), (0, .ref (a 0)), (2, .int (nI (i)))] := by
        rw [show cnS σ (i + 1) = cnS σ i + (σ (70 + i) + σ (77 + i)) from rfl]
        exact hl
      refine lv_iinc (v := nI (i + 1)) (lv' := [(2, .int (nI (i + 1))), (1, .int (cnS σ (i + 1))), (0, .ref (a 0))]) hx hb dL_counted_24 hl (k := 2) rfl (show nI (i) + nI 1 = nI (i + 1) from nI_add _ _) (by decide) rfl (fun ls hl => ?_)
      refine lv_goto (tgt := 4) hx hb dL_counted_27 (by decide) ?_
      exact ih_i (i + 1) (by omega) _ (lv_sub hl [2, 1, 0] rfl)
  exact lp4 (7 - 0) 0 (by omega) _ (lv_sub hl [2, 1, 0] rfl)
set_option maxHeartbeats 1000000 in
set_option maxRecDepth 100000 in
theorem c_L_unsound {l : Launch} (D : va_G) (cy : ClassId) (a : Nat → Nat) (σ kept : Nat → Int32) (nxt cnt : Nat) (T : Nat → Int32) (len pos : Nat) (ph le nu va : Int32) (Z : va_W) : Met l yL_unsound wsL_unsound (k2_rm 7 103) (gR D cy [.ref (a 0)] (wX cy a σ kept nxt cnt T len pos ph le nu va ++ Z)) (k2_QcV (.int (nI (unS σ 7)))) 0 0 (fun _ => False) := by
  refine q_pure (cc := cL_unsound) (maxL := 3) (ret := (some .int)) pl_L rfl (Nat.le_of_ble_eq_true rfl) ?_
  intro p e s m below meth c ls hx hb hr hml hts hown hlocks hP hK hl
  have hl : lv_has ls 3 [(0, .ref (a 0))] := hl
  refine lv_iconst (v := nI 0) hx hb dL_unsound_0 rfl ?_
  refine lv_istore_n (lv' := [(1, .int (nI (0))), (0, .ref (a 0))]) hx hb dL_unsound_1 rfl hl (by decide) rfl (fun ls hl => ?_)
  refine lv_iconst (v := nI 0) hx hb dL_unsound_2 rfl ?_
  refine lv_istore_n (lv' := [(2, .int (nI (0))), (1, .int (nI (0))), (0, .ref (a 0))]) hx hb dL_unsound_3 rfl hl (by decide) rfl (fun ls hl => ?_)
  have lp4 : ∀ (j_ i : Nat), i + j_ = 7 → ∀ (ls : Array Slot), lv_has ls 3 [(0, .ref (a 0)), (1, .int (nI (unS σ i))), (2, .int (nI (i)))] → W p l e (k2_rm 7 103) s m ([.ref (a 0)] : List Value).toArray below meth c s.heap [] 0 0 (MQ below (k2_QcV (.int (nI (unS σ 7)))) ([.ref (a 0)] : List Value).toArray s 0 0 (fun _ => False)) (F0 m 4 ls []) := by
    intro j_
    induction j_ with
    | zero =>
      intro i hn_i ls hl
      refine lv_iload_n hx hb dL_unsound_4 rfl (lv_at hl 2 rfl) ?_
      refine lv_bipush (v := nI 7) hx hb dL_unsound_5 rfl ?_
      refine q_geN (tgt := 34) hx hb dL_unsound_7 (by decide) (by omega) (by omega) (fun c_7 => ?_) (fun c_7 => absurd c_7 (by omega))
      refine lv_iload_n hx hb dL_unsound_34 rfl (lv_at hl 1 rfl) ?_
      exact q_iret hx hb hr hlocks dL_unsound_35 (by have e9 : i = 7 := (by omega); subst e9; rfl)
    | succ j_ ih_i =>
      intro i hn_i ls hl
      refine lv_iload_n hx hb dL_unsound_4 rfl (lv_at hl 2 rfl) ?_
      refine lv_bipush (v := nI 7) hx hb dL_unsound_5 rfl ?_
      refine q_geN (tgt := 34) hx hb dL_unsound_7 (by decide) (by omega) (by omega) (fun c_7 => absurd c_7 (by omega)) (fun c_7 => ?_)
      refine lv_iload_n hx hb dL_unsound_10 rfl (lv_at hl 1 rfl) ?_
      refine lv_aload_n hx hb dL_unsound_11 rfl (lv_at hl 0 rfl) ?_
      refine lv_iload_n hx hb dL_unsound_12 rfl (lv_at hl 2 rfl) ?_
      refine q_cV (As := [.int (nI (i))]) (rest := [.int (nI (unS σ i))]) ⟨hx, hb, hml, hown, hts⟩ (k_X6_state D cy a σ kept nxt cnt T len pos ph le nu va Z (i) (by omega)) (cwV 1 hts gL_unsound_X6_state rfl rfl rfl hd_X6_state ⟨Nat.le_of_ble_eq_true rfl, Nat.le_of_ble_eq_true rfl⟩) hK hP 0 rfl rfl rfl hl.1 rfl (Nat.le_of_ble_eq_true rfl) ⟨Nat.zero_le _, Nat.zero_le _⟩ dL_unsound_13 ?_
      refine lv_bipush (v := nI 9) hx hb dL_unsound_16 rfl ?_
      refine lv_icmp_ne (tgt := 25) hx hb dL_unsound_18 (by decide) (fun (c_18 : ¬ (σ (63 + i)) = (9)) => ?_) (fun (c_18 : (σ (63 + i)) = (9)) => ?_)
      · refine lv_iconst (v := nI 1) hx hb dL_unsound_25 rfl ?_
        refine q_addN hx hb dL_unsound_26 ?_
        refine lv_istore_n (lv' := [(1, .int (nI ((unS σ i) + 1))), (0, .ref (a 0)), (2, .int (nI (i)))]) hx hb dL_unsound_27 rfl hl (by decide) rfl (fun ls hl => ?_)
        have e_c : nI ((unS σ i) + 1) = nI (unS σ (i + 1)) := congrArg nI (by exact unS_1 c_18)
        have hl : lv_has ls 3 [(1, .int (nI (unS σ (i + 1)))), (0, .ref (a 0)), (2, .int (nI (i)))] := by rw [← e_c]; exact hl
        refine lv_iinc (v := nI (i + 1)) (lv' := [(2, .int (nI (i + 1))), (1, .int (nI (unS σ (i + 1)))), (0, .ref (a 0))]) hx hb dL_unsound_28 hl (k := 2) rfl (show nI (i) + nI 1 = nI (i + 1) from nI_add _ _) (by decide) rfl (fun ls hl => ?_)
        refine lv_goto (tgt := 4) hx hb dL_unsound_31 (by decide) ?_
        exact ih_i (i + 1) (by omega) _ (lv_sub hl [2, 1, 0] rfl)
      · refine lv_iconst (v := nI 0) hx hb dL_unsound_21 rfl ?_
        refine lv_goto (tgt := 26) hx hb dL_unsound_22 (by decide) ?_
        refine q_addN hx hb dL_unsound_26 ?_
        refine lv_istore_n (lv' := [(1, .int (nI ((unS σ i) + 0))), (0, .ref (a 0)), (2, .int (nI (i)))]) hx hb dL_unsound_27 rfl hl (by decide) rfl (fun ls hl => ?_)
        have e_c : nI ((unS σ i) + 0) = nI (unS σ (i + 1)) := congrArg nI (by exact unS_0 c_18)
        have hl : lv_has ls 3 [(1, .int (nI (unS σ (i + 1)))), (0, .ref (a 0)), (2, .int (nI (i)))] := by rw [← e_c]; exact hl
        refine lv_iinc (v := nI (i + 1)) (lv' := [(2, .int (nI (i + 1))), (1, .int (nI (unS σ (i + 1)))), (0, .ref (a 0))]) hx hb dL_unsound_28 hl (k := 2) rfl (show nI (i) + nI 1 = nI (i + 1) from nI_add _ _) (by decide) rfl (fun ls hl => ?_)
        refine lv_goto (tgt := 4) hx hb dL_unsound_31 (by decide) ?_
        exact ih_i (i + 1) (by omega) _ (lv_sub hl [2, 1, 0] rfl)
  exact lp4 (7 - 0) 0 (by omega) _ (lv_sub hl [2, 1, 0] rfl)
