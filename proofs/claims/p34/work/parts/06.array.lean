/-- a number in the range 0 to n - 1 -/
def inR (x : Int32) (n : Nat) : Bool := decide (0 ≤ x.toInt) && decide (x.toInt < n)
theorem i32_lt0 {x : Int32} : x < 0 ↔ x.toInt < 0 := Int32.lt_iff_toInt_lt
theorem inR_lt {x : Int32} {n : Nat} (h : x < 0) : inR x n = false := by
  have h2 := i32_lt0.mp h
  have h3 : ¬ (0 ≤ x.toInt) := by omega
  simp [inR, h3]
theorem inR_ge {x : Int32} {n : Nat} (hn : n < 2 ^ 31) (h : nI n ≤ x) : inR x n = false := by
  have h2 := Int32.le_iff_toInt_le.mp h
  rw [nI_toInt hn] at h2
  have h3 : ¬ (x.toInt < n) := by omega
  simp [inR, h3]
theorem inR_gt {x : Int32} {n : Nat} (hn : n + 1 < 2 ^ 31) (h : nI n < x) : inR x (n + 1) = false := by
  have h2 := Int32.lt_iff_toInt_lt.mp h
  rw [nI_toInt (by omega)] at h2
  have h3 : ¬ (x.toInt < ((n + 1 : Nat) : Int)) := by omega
  simp only [inR, h3, decide_false, Bool.and_false]
theorem inR_in {x : Int32} {n : Nat} (hn : n < 2 ^ 31) (h0 : ¬ x < 0) (h : ¬ nI n ≤ x) : inR x n = true := by
  have h2 : ¬ x.toInt < 0 := fun q => h0 (i32_lt0.mpr q)
  have h3 : ¬ ((n : Int) ≤ x.toInt) := fun q => h (Int32.le_iff_toInt_le.mpr (by rw [nI_toInt hn]; exact q))
  have h4 : 0 ≤ x.toInt := by omega
  have h5 : x.toInt < n := by omega
  simp [inR, h4, h5]
theorem inR_in2 {x : Int32} {n : Nat} (hn : n + 1 < 2 ^ 31) (h0 : ¬ x < 0) (h : ¬ nI n < x) : inR x (n + 1) = true := by
  have h2 : ¬ x.toInt < 0 := fun q => h0 (i32_lt0.mpr q)
  have h3 : ¬ ((n : Int) < x.toInt) := fun q => h (Int32.lt_iff_toInt_lt.mpr (by rw [nI_toInt (by omega)]; exact q))
  have h4 : 0 ≤ x.toInt := by omega
  have h5 : x.toInt < ((n + 1 : Nat) : Int) := by omega
  simp only [inR, h4, h5, decide_true, Bool.and_self]
theorem inR_nI {x : Int32} {n : Nat} (h : inR x n = true) : ∃ j : Nat, j < n ∧ x = nI j := by
  simp only [inR, Bool.and_eq_true, decide_eq_true_eq] at h
  refine ⟨x.toInt.toNat, by omega, ?_⟩
  apply Int32.toInt_inj.mp
  have h2 := Int32.toInt_lt x
  rw [nI_toInt (by omega)]
  omega
theorem nI_ne_m1 {j : Nat} (h : j < 2 ^ 31) : nI j ≠ -1 := by
  intro h2
  have h3 := congrArg Int32.toInt h2
  rw [nI_toInt h] at h3
  have h4 : (-1 : Int32).toInt = -1 := by decide
  rw [h4] at h3
  omega
theorem Wo_none (σ : Nat → Int32) : Wo σ (-1) σ := fun k hk => by
  have h : nI (k / 9) ≠ -1 := nI_ne_m1 (by omega)
  simp [h]
theorem Wo_fail (σ : Nat → Int32) {d : Nat} (hd : d < 7) : Wo σ (nI d) (failS σ d) := fun k hk => by
  by_cases h : k / 9 = d
  · have h2 : ¬ (nI (k % 9) < (-1 : Int32)) := by
      intro q
      have q2 := Int32.lt_iff_toInt_lt.mp q
      rw [nI_toInt (by omega)] at q2
      have h4 : (-1 : Int32).toInt = -1 := by decide
      omega
    simp [th, failS, h, h2]
  · have h2 : nI (k / 9) ≠ nI d := fun q => h ((nI_eq (by omega) (by omega)).mp q)
    have h3 : ¬ (63 + k / 9 = 63 + d) := by omega
    have h4 : ¬ (9 * d ≤ 63 + k / 9 ∧ 63 + k / 9 < 9 * d + 9) := by omega
    simp only [th, failS, h2, h3, h4, if_false, ne_eq, not_false_eq_true, decide_true, Bool.true_and]
theorem rd_lt (σ : Nat → Int32) (k : Nat) {j : Nat} (h : j < 70) : rdS σ k j = σ j := by
  have h2 : ¬ j = 70 + k / 9 := by omega
  simp only [rdS, upd, h2, if_false]
theorem f2_lt (σ : Nat → Int32) (k : Nat) {j : Nat} (h : j < 70) : f2S σ k j = σ j := by
  simp only [f2S, rd_lt _ _ h]
theorem nx_par {s : Nat} (h : s < 21) : nx (spT (3 * s + 2)) 1 = spT (3 * s) ∧ nx (spT (3 * s + 2)) 2 = spT (3 * s + 1) := (show ∀ s, s < 21 → (nx (spT (3 * s + 2)) 1 = spT (3 * s) ∧ nx (spT (3 * s + 2)) 2 = spT (3 * s + 1)) by decide +kernel) s h
theorem fd_p (σ : Nat → Int32) {s : Nat} (h : s < 21) : fd σ (spT (3 * s + 2)) = σ (spT (3 * s)) ^^^ σ (spT (3 * s + 1)) := by
  simp only [fd, (nx_par h).1, (nx_par h).2]
theorem whl_p {σ : Nat → Int32} {s : Nat} (h : s < 21) : whl σ s = (th σ (spT (3 * s + 2)) && cf σ (spT (3 * s + 2))) := by
  simp only [whl, cf, (nx_par h).1, (nx_par h).2]
  rw [Bool.and_comm]
theorem wrg_f {σ : Nat → Int32} {s : Nat} (h : s < 21) (h2 : σ (spT (3 * s + 2)) = fd σ (spT (3 * s + 2))) : wrg σ s = false := by
  rw [fd_p _ h] at h2
  simp [wrg, h2]
theorem wrg_t {σ : Nat → Int32} {s : Nat} (h : s < 21) (h1 : whl σ s = true) (h2 : ¬ σ (spT (3 * s + 2)) = fd σ (spT (3 * s + 2))) : wrg σ s = true := by
  rw [fd_p _ h] at h2
  have h3 : (σ (spT (3 * s)) ^^^ σ (spT (3 * s + 1))) ≠ σ (spT (3 * s + 2)) := fun q => h2 q.symm
  simp [wrg, h1, h3]
theorem scR_p (σ : Nat → Int32) {s : Nat} (h : s < 21) : rdS (f2S σ (spT (3 * s + 2))) (spT (3 * s + 2)) = scR σ s := by
  simp only [f2S, scR, (nx_par h).1, (nx_par h).2]
theorem lm_ne {σ : Nat → Int32} (h : (if lm σ < 7 then nI (lm σ) else -1) = -1) (h2 : lm σ < 7) : False := by
  rw [if_pos h2] at h
  exact nI_ne_m1 (by omega) h
theorem lmA_isM (σ : Nat → Int32) : ∀ (n d : Nat), lmA σ d n < d + n → isM σ (lmA σ d n) = true := by
  intro n
  induction n with
  | zero => intro d h; simp only [lmA] at h; omega
  | succ n ih =>
    intro d h
    simp only [lmA] at h ⊢
    by_cases hm : isM σ d = true
    · rw [if_pos hm]; exact hm
    · rw [if_neg hm] at h ⊢
      exact ih (d + 1) (by omega)
theorem Val_lm {σ : Nat → Int32} (hv : Val σ) (h : lm σ < 7) : ∃ g : Nat, g < 9 ∧ σ (63 + lm σ) = nI g := by
  have h1 := lmA_isM σ 7 0 (by unfold lm at h; omega)
  have h1 : isM σ (lm σ) = true := h1
  simp only [isM, Bool.and_eq_true, decide_eq_true_eq] at h1
  rcases hv.2.1 (lm σ) h with q | ⟨n, hn, q⟩
  · exact absurd q h1.1
  · refine ⟨n, ?_, q⟩
    have h3 : n ≠ 9 := fun e => h1.2 (by rw [q, e]; rfl)
    omega
theorem nI_xor {a b : Nat} (ha : a < 65536) (hb : b < 65536) : ∃ c : Nat, c < 65536 ∧ nI a ^^^ nI b = nI c := by
  refine ⟨a ^^^ b, Nat.xor_lt_two_pow (n := 16) ha hb, ?_⟩
  apply Int32.toBitVec_inj.mp
  apply BitVec.eq_of_toNat_eq
  have hc : a ^^^ b < 2 ^ 16 := Nat.xor_lt_two_pow (n := 16) ha hb
  rw [Int32.toBitVec_xor, BitVec.toNat_xor, pk_tn (by omega), pk_tn (by omega), pk_tn (by omega)]
theorem upd_eq (f : Nat → Int32) (k : Nat) (x : Int32) : upd f k x k = x := pk_us
theorem upd_ne {f : Nat → Int32} {k j : Nat} {x : Int32} (h : j ≠ k) : upd f k x j = f j := pk_un h
theorem Val_rd {σ : Nat → Int32} (hv : Val σ) {k : Nat} (hk : k < 63) : Val (rdS σ k) :=
  ⟨fun j hj => by rw [rd_lt _ _ (by omega)]; exact hv.1 j hj, fun d hd => by rw [rd_lt _ _ (by omega)]; exact hv.2.1 d hd, by
    have h : rdS σ k 84 = σ 84 := by unfold rdS; exact upd_ne (by omega)
    rw [h]; exact hv.2.2⟩
theorem Val_wr {σ : Nat → Int32} (hv : Val σ) {k : Nat} (hk : k < 63) {v : Int32} (hx : ∃ n : Nat, n < 65536 ∧ v = nI n) : Val (wrS σ k v) := by
  refine ⟨fun j hj => ?_, fun d hd => ?_, ?_⟩
  · unfold wrS
    by_cases h : j = k
    · rw [h, upd_eq]; exact hx
    · rw [upd_ne h, upd_ne (by omega)]; exact hv.1 j hj
  · unfold wrS
    rw [upd_ne (by omega), upd_ne (by omega)]; exact hv.2.1 d hd
  · unfold wrS
    rw [upd_ne (by omega), upd_ne (by omega)]; exact hv.2.2
theorem Val_f2 {σ : Nat → Int32} (hv : Val σ) {k : Nat} (hk : k < 63) : Val (f2S σ k) := Val_rd (Val_rd hv (nx_lt hk 1)) (nx_lt hk 2)
theorem Val_xor {σ : Nat → Int32} (hv : Val σ) {i j : Nat} (hi : i < 63) (hj : j < 63) : ∃ n : Nat, n < 65536 ∧ σ i ^^^ σ j = nI n := by
  obtain ⟨a, ha, ea⟩ := hv.1 i hi
  obtain ⟨b, hb, eb⟩ := hv.1 j hj
  rw [ea, eb]
  exact nI_xor ha hb
theorem Val_mend {σ : Nat → Int32} (hv : Val σ) (h : lm σ < 7) : Val (mendS σ (lm σ)) := by
  obtain ⟨g, hg, e⟩ := Val_lm hv h
  have hk : mkS σ (lm σ) < 63 := by unfold mkS; rw [e, nI_clamp (by omega)]; omega
  have hA : Val (mendA σ (lm σ)) ∧ mendA σ (lm σ) (63 + lm σ) = nI g := by
    unfold mendA
    split
    · refine ⟨Val_wr (Val_f2 hv hk) hk (Val_xor hv (nx_lt hk 1) (nx_lt hk 2)), ?_⟩
      unfold wrS
      rw [upd_ne (by omega), upd_ne (by omega), f2_lt _ _ (by omega), e]
    · refine ⟨⟨fun j hj => by rw [upd_ne (by omega)]; exact hv.1 j hj, fun d hd => by rw [upd_ne (by omega)]; exact hv.2.1 d hd, by rw [upd_ne (by omega)]; exact hv.2.2⟩, ?_⟩
      rw [upd_ne (by omega), e]
  obtain ⟨hV, hE⟩ := hA
  refine ⟨fun j hj => ?_, fun d hd => ?_, ?_⟩
  · unfold mendS; rw [upd_ne (by omega)]; exact hV.1 j hj
  · unfold mendS
    by_cases q : d = lm σ
    · rw [q, upd_eq, hE, nI_1]
      exact Or.inr ⟨g + 1, by omega, rfl⟩
    · rw [upd_ne (by omega)]; exact hV.2.1 d hd
  · unfold mendS; rw [upd_ne (by omega)]; exact hV.2.2

set_option maxHeartbeats 1000000 in
set_option maxRecDepth 100000 in
theorem c_X6_isDisc {l : Launch} (D : va_G) (cy : ClassId)  (x : Int32) : Met l yX6_isDisc wsX6_isDisc (k2_rm 0 0) (gR D cy [.int (x)] []) (k2_QcV (.int (bI (inR x 7)))) 0 0 (fun _ => False) := by
  refine q_pure (cc := cX6_isDisc) (maxL := 1) (ret := (some .boolean)) pl_X6 rfl (Nat.le_of_ble_eq_true rfl) ?_
  intro p e s m below meth c ls hx hb hr hml hts hown hlocks hP hK hl
  have hl : lv_has ls 1 [(0, .int (x))] := hl
  refine lv_iload_n hx hb dX6_isDisc_0 rfl (lv_at hl 0 rfl) ?_
  refine lv_if_lt (tgt := 14) hx hb dX6_isDisc_1 (by decide) (fun (c_1 : (x) < 0) => ?_) (fun (c_1 : ¬ (x) < 0) => ?_)
  · refine lv_iconst (v := nI 0) hx hb dX6_isDisc_14 rfl ?_
    exact q_zret hx hb hr hlocks dX6_isDisc_15 (by rw [inR_lt c_1]; rfl)
  · refine lv_iload_n hx hb dX6_isDisc_4 rfl (lv_at hl 0 rfl) ?_
    refine lv_bipush (v := nI 7) hx hb dX6_isDisc_5 rfl ?_
    refine lv_icmp_ge (tgt := 14) hx hb dX6_isDisc_7 (by decide) (fun (c_7 : (7) ≤ (x)) => ?_) (fun (c_7 : ¬ (7) ≤ (x)) => ?_)
    · refine lv_iconst (v := nI 0) hx hb dX6_isDisc_14 rfl ?_
      exact q_zret hx hb hr hlocks dX6_isDisc_15 (by rw [inR_ge (by decide) c_7]; rfl)
    · refine lv_iconst (v := nI 1) hx hb dX6_isDisc_10 rfl ?_
      refine lv_goto (tgt := 15) hx hb dX6_isDisc_11 (by decide) ?_
      exact q_zret hx hb hr hlocks dX6_isDisc_15 (by rw [inR_in (by decide) c_1 c_7]; rfl)
set_option maxHeartbeats 1000000 in
set_option maxRecDepth 100000 in
theorem c_X6_isPlace {l : Launch} (D : va_G) (cy : ClassId)  (x : Int32) : Met l yX6_isPlace wsX6_isPlace (k2_rm 0 0) (gR D cy [.int (x)] []) (k2_QcV (.int (bI (inR x 9)))) 0 0 (fun _ => False) := by
  refine q_pure (cc := cX6_isPlace) (maxL := 1) (ret := (some .boolean)) pl_X6 rfl (Nat.le_of_ble_eq_true rfl) ?_
  intro p e s m below meth c ls hx hb hr hml hts hown hlocks hP hK hl
  have hl : lv_has ls 1 [(0, .int (x))] := hl
  refine lv_iload_n hx hb dX6_isPlace_0 rfl (lv_at hl 0 rfl) ?_
  refine lv_if_lt (tgt := 14) hx hb dX6_isPlace_1 (by decide) (fun (c_1 : (x) < 0) => ?_) (fun (c_1 : ¬ (x) < 0) => ?_)
  · refine lv_iconst (v := nI 0) hx hb dX6_isPlace_14 rfl ?_
    exact q_zret hx hb hr hlocks dX6_isPlace_15 (by rw [inR_lt c_1]; rfl)
  · refine lv_iload_n hx hb dX6_isPlace_4 rfl (lv_at hl 0 rfl) ?_
    refine lv_bipush (v := nI 9) hx hb dX6_isPlace_5 rfl ?_
    refine lv_icmp_ge (tgt := 14) hx hb dX6_isPlace_7 (by decide) (fun (c_7 : (9) ≤ (x)) => ?_) (fun (c_7 : ¬ (9) ≤ (x)) => ?_)
    · refine lv_iconst (v := nI 0) hx hb dX6_isPlace_14 rfl ?_
      exact q_zret hx hb hr hlocks dX6_isPlace_15 (by rw [inR_ge (by decide) c_7]; rfl)
    · refine lv_iconst (v := nI 1) hx hb dX6_isPlace_10 rfl ?_
      refine lv_goto (tgt := 15) hx hb dX6_isPlace_11 (by decide) ?_
      exact q_zret hx hb hr hlocks dX6_isPlace_15 (by rw [inR_in (by decide) c_1 c_7]; rfl)
set_option maxHeartbeats 1000000 in
set_option maxRecDepth 100000 in
theorem c_X6_isStripe {l : Launch} (D : va_G) (cy : ClassId)  (x : Int32) : Met l yX6_isStripe wsX6_isStripe (k2_rm 0 0) (gR D cy [.int (x)] []) (k2_QcV (.int (bI (inR x 21)))) 0 0 (fun _ => False) := by
  refine q_pure (cc := cX6_isStripe) (maxL := 1) (ret := (some .boolean)) pl_X6 rfl (Nat.le_of_ble_eq_true rfl) ?_
  intro p e s m below meth c ls hx hb hr hml hts hown hlocks hP hK hl
  have hl : lv_has ls 1 [(0, .int (x))] := hl
  refine lv_iload_n hx hb dX6_isStripe_0 rfl (lv_at hl 0 rfl) ?_
  refine lv_if_lt (tgt := 14) hx hb dX6_isStripe_1 (by decide) (fun (c_1 : (x) < 0) => ?_) (fun (c_1 : ¬ (x) < 0) => ?_)
  · refine lv_iconst (v := nI 0) hx hb dX6_isStripe_14 rfl ?_
    exact q_zret hx hb hr hlocks dX6_isStripe_15 (by rw [inR_lt c_1]; rfl)
  · refine lv_iload_n hx hb dX6_isStripe_4 rfl (lv_at hl 0 rfl) ?_
    refine lv_bipush (v := nI 21) hx hb dX6_isStripe_5 rfl ?_
    refine lv_icmp_ge (tgt := 14) hx hb dX6_isStripe_7 (by decide) (fun (c_7 : (21) ≤ (x)) => ?_) (fun (c_7 : ¬ (21) ≤ (x)) => ?_)
    · refine lv_iconst (v := nI 0) hx hb dX6_isStripe_14 rfl ?_
      exact q_zret hx hb hr hlocks dX6_isStripe_15 (by rw [inR_ge (by decide) c_7]; rfl)
    · refine lv_iconst (v := nI 1) hx hb dX6_isStripe_10 rfl ?_
      refine lv_goto (tgt := 15) hx hb dX6_isStripe_11 (by decide) ?_
      exact q_zret hx hb hr hlocks dX6_isStripe_15 (by rw [inR_in (by decide) c_1 c_7]; rfl)
set_option maxHeartbeats 1000000 in
set_option maxRecDepth 100000 in
theorem c_X6_isWithinStripe {l : Launch} (D : va_G) (cy : ClassId)  (x : Int32) : Met l yX6_isWithinStripe wsX6_isWithinStripe (k2_rm 0 0) (gR D cy [.int (x)] []) (k2_QcV (.int (bI (inR x 3)))) 0 0 (fun _ => False) := by
  refine q_pure (cc := cX6_isWithinStripe) (maxL := 1) (ret := (some .boolean)) pl_X6 rfl (Nat.le_of_ble_eq_true rfl) ?_
  intro p e s m below meth c ls hx hb hr hml hts hown hlocks hP hK hl
  have hl : lv_has ls 1 [(0, .int (x))] := hl
  refine lv_iload_n hx hb dX6_isWithinStripe_0 rfl (lv_at hl 0 rfl) ?_
  refine lv_if_lt (tgt := 13) hx hb dX6_isWithinStripe_1 (by decide) (fun (c_1 : (x) < 0) => ?_) (fun (c_1 : ¬ (x) < 0) => ?_)
  · refine lv_iconst (v := nI 0) hx hb dX6_isWithinStripe_13 rfl ?_
    exact q_zret hx hb hr hlocks dX6_isWithinStripe_14 (by rw [inR_lt c_1]; rfl)
  · refine lv_iload_n hx hb dX6_isWithinStripe_4 rfl (lv_at hl 0 rfl) ?_
    refine lv_iconst (v := nI 3) hx hb dX6_isWithinStripe_5 rfl ?_
    refine lv_icmp_ge (tgt := 13) hx hb dX6_isWithinStripe_6 (by decide) (fun (c_6 : (3) ≤ (x)) => ?_) (fun (c_6 : ¬ (3) ≤ (x)) => ?_)
    · refine lv_iconst (v := nI 0) hx hb dX6_isWithinStripe_13 rfl ?_
      exact q_zret hx hb hr hlocks dX6_isWithinStripe_14 (by rw [inR_ge (by decide) c_6]; rfl)
    · refine lv_iconst (v := nI 1) hx hb dX6_isWithinStripe_9 rfl ?_
      refine lv_goto (tgt := 14) hx hb dX6_isWithinStripe_10 (by decide) ?_
      exact q_zret hx hb hr hlocks dX6_isWithinStripe_14 (by rw [inR_in (by decide) c_1 c_6]; rfl)
set_option maxHeartbeats 1000000 in
set_option maxRecDepth 100000 in
theorem c_X6_isAddress {l : Launch} (D : va_G) (cy : ClassId)  (x : Int32) : Met l yX6_isAddress wsX6_isAddress (k2_rm 0 0) (gR D cy [.int (x)] []) (k2_QcV (.int (bI (inR x 42)))) 0 0 (fun _ => False) := by
  refine q_pure (cc := cX6_isAddress) (maxL := 1) (ret := (some .boolean)) pl_X6 rfl (Nat.le_of_ble_eq_true rfl) ?_
  intro p e s m below meth c ls hx hb hr hml hts hown hlocks hP hK hl
  have hl : lv_has ls 1 [(0, .int (x))] := hl
  refine lv_iload_n hx hb dX6_isAddress_0 rfl (lv_at hl 0 rfl) ?_
  refine lv_if_lt (tgt := 14) hx hb dX6_isAddress_1 (by decide) (fun (c_1 : (x) < 0) => ?_) (fun (c_1 : ¬ (x) < 0) => ?_)
  · refine lv_iconst (v := nI 0) hx hb dX6_isAddress_14 rfl ?_
    exact q_zret hx hb hr hlocks dX6_isAddress_15 (by rw [inR_lt c_1]; rfl)
  · refine lv_iload_n hx hb dX6_isAddress_4 rfl (lv_at hl 0 rfl) ?_
    refine lv_bipush (v := nI 42) hx hb dX6_isAddress_5 rfl ?_
    refine lv_icmp_ge (tgt := 14) hx hb dX6_isAddress_7 (by decide) (fun (c_7 : (42) ≤ (x)) => ?_) (fun (c_7 : ¬ (42) ≤ (x)) => ?_)
    · refine lv_iconst (v := nI 0) hx hb dX6_isAddress_14 rfl ?_
      exact q_zret hx hb hr hlocks dX6_isAddress_15 (by rw [inR_ge (by decide) c_7]; rfl)
    · refine lv_iconst (v := nI 1) hx hb dX6_isAddress_10 rfl ?_
      refine lv_goto (tgt := 15) hx hb dX6_isAddress_11 (by decide) ?_
      exact q_zret hx hb hr hlocks dX6_isAddress_15 (by rw [inR_in (by decide) c_1 c_7]; rfl)
set_option maxHeartbeats 1000000 in
set_option maxRecDepth 100000 in
theorem c_X6_isValue {l : Launch} (D : va_G) (cy : ClassId)  (x : Int32) : Met l yX6_isValue wsX6_isValue (k2_rm 0 0) (gR D cy [.int (x)] []) (k2_QcV (.int (bI (inR x 65536)))) 0 0 (fun _ => False) := by
  refine q_pure (cc := cX6_isValue) (maxL := 1) (ret := (some .boolean)) pl_X6 rfl (Nat.le_of_ble_eq_true rfl) ?_
  intro p e s m below meth c ls hx hb hr hml hts hown hlocks hP hK hl
  have hl : lv_has ls 1 [(0, .int (x))] := hl
  refine lv_iload_n hx hb dX6_isValue_0 rfl (lv_at hl 0 rfl) ?_
  refine lv_if_lt (tgt := 15) hx hb dX6_isValue_1 (by decide) (fun (c_1 : (x) < 0) => ?_) (fun (c_1 : ¬ (x) < 0) => ?_)
  · refine lv_iconst (v := nI 0) hx hb dX6_isValue_15 rfl ?_
    exact q_zret hx hb hr hlocks dX6_isValue_16 (by rw [inR_lt c_1]; rfl)
  · refine lv_iload_n hx hb dX6_isValue_4 rfl (lv_at hl 0 rfl) ?_
    refine lv_ldcw (v  := nI 65535) hx hb hown (hts (.constant RX6 277 (65535)) (List.mem_of_getElem? (i := 1) rfl)) dX6_isValue_5 ?_
    refine lv_icmp_gt (tgt := 15) hx hb dX6_isValue_8 (by decide) (fun (c_8 : (65535) < (x)) => ?_) (fun (c_8 : ¬ (65535) < (x)) => ?_)
    · refine lv_iconst (v := nI 0) hx hb dX6_isValue_15 rfl ?_
      exact q_zret hx hb hr hlocks dX6_isValue_16 (by rw [inR_gt (by decide) c_8]; rfl)
    · refine lv_iconst (v := nI 1) hx hb dX6_isValue_11 rfl ?_
      refine lv_goto (tgt := 16) hx hb dX6_isValue_12 (by decide) ?_
      exact q_zret hx hb hr hlocks dX6_isValue_16 (by rw [inR_in2 (by decide) c_1 c_8]; rfl)
set_option maxHeartbeats 1000000 in
set_option maxRecDepth 100000 in
theorem c_X6_canBeFound {l : Launch} (D : va_G) (cy : ClassId) (a : Nat → Nat) (σ kept : Nat → Int32) (nxt cnt : Nat) (T : Nat → Int32) (len pos : Nat) (ph le nu va : Int32) (Z : va_W) (τ : Nat → Int32) (k : Nat) (wo : Int32) (h_0 : k < 63) (h_1 : Wo σ wo τ) : Met l yX6_canBeFound wsX6_canBeFound (k2_rm 2 44) (gR D cy [.ref (a 0), .int (nI (k)), .int (wo)] (wX cy a σ kept nxt cnt T len pos ph le nu va ++ Z)) (k2_QcV (.int (bI (cf τ k)))) 0 0 (fun _ => False) := by
  refine q_pure (cc := cX6_canBeFound) (maxL := 3) (ret := (some .boolean)) pl_X6 rfl (Nat.le_of_ble_eq_true rfl) ?_
  intro p e s m below meth c ls hx hb hr hml hts hown hlocks hP hK hl
  have hl : lv_has ls 3 [(0, .ref (a 0)), (1, .int (nI (k))), (2, .int (wo))] := hl
  refine lv_aload_n hx hb dX6_canBeFound_0 rfl (lv_at hl 0 rfl) ?_
  refine va_get (D := D) (ci := 6) (v := .ref (a 8)) (C := RX6) (T := TX6) (N := 4) hx hb hts (fun _ h => List.mem_cons_of_mem _ (List.mem_append_left _ (List.mem_append_left _ (List.mem_append_left _ (List.mem_append_right _ h))))) hown hK hP 0 rfl rfl 1 (by decide) (hts (.fieldLink RX6 19 "SpreadParity" "now" "LSpreadParity$State;") (List.mem_of_getElem? (i := 1) rfl)) (fun _ h9 => h9) rfl dX6_canBeFound_1 ?_
  refine lv_aload_n hx hb dX6_canBeFound_4 rfl (lv_at hl 0 rfl) ?_
  refine va_get (D := D) (ci := 6) (v := .ref (a 1)) (C := RX6) (T := TX6) (N := 4) hx hb hts (fun _ h => List.mem_cons_of_mem _ (List.mem_append_left _ (List.mem_append_left _ (List.mem_append_left _ (List.mem_append_right _ h))))) hown hK hP 0 rfl rfl 0 (by decide) (hts (.fieldLink RX6 10 "SpreadParity" "layout" "LSpreadParity$Layout;") (List.mem_of_getElem? (i := 2) rfl)) (fun _ h9 => h9) rfl dX6_canBeFound_5 ?_
  refine lv_iload_n hx hb dX6_canBeFound_8 rfl (lv_at hl 1 rfl) ?_
  refine lv_iconst (v := nI 1) hx hb dX6_canBeFound_9 rfl ?_
  refine q_cV (As := [.int (nI (k)), .int (nI (1))]) (rest := [.ref (a 8)]) ⟨hx, hb, hml, hown, hts⟩ (c_X1_nextInStripe D cy a σ kept nxt cnt T len pos ph le nu va Z (k) (1) (by omega) (by omega)) (cwV 2 hts gX6_canBeFound_X1_nextInStripe rfl rfl rfl hd_X1_nextInStripe ⟨Nat.le_of_ble_eq_true rfl, Nat.le_of_ble_eq_true rfl⟩) hK hP 1 rfl rfl rfl hl.1 rfl (Nat.le_of_ble_eq_true rfl) ⟨Nat.zero_le _, Nat.zero_le _⟩ dX6_canBeFound_10 ?_
  refine lv_iload_n hx hb dX6_canBeFound_13 rfl (lv_at hl 2 rfl) ?_
  refine q_cV (As := [.int (nI (nx k 1)), .int (wo)]) (rest := []) ⟨hx, hb, hml, hown, hts⟩ (c_X5_hasUnit D cy a σ kept nxt cnt T len pos ph le nu va Z (τ) (nx k 1) (wo) (nx_lt (by omega) _) h_1) (cwV 2 hts gX6_canBeFound_X5_hasUnit rfl rfl rfl hd_X5_hasUnit ⟨Nat.le_of_ble_eq_true rfl, Nat.le_of_ble_eq_true rfl⟩) hK hP 8 rfl rfl rfl hl.1 rfl (Nat.le_of_ble_eq_true rfl) ⟨Nat.zero_le _, Nat.zero_le _⟩ dX6_canBeFound_14 ?_
  refine q_ifeqB (tgt := 44) hx hb dX6_canBeFound_17 (by decide) (fun c_17 => ?_) (fun c_17 => ?_)
  · refine lv_iconst (v := nI 0) hx hb dX6_canBeFound_44 rfl ?_
    exact q_zret hx hb hr hlocks dX6_canBeFound_45 (by simp only [cf, c_17, Bool.false_and]; rfl)
  · refine lv_aload_n hx hb dX6_canBeFound_20 rfl (lv_at hl 0 rfl) ?_
    refine va_get (D := D) (ci := 6) (v := .ref (a 8)) (C := RX6) (T := TX6) (N := 4) hx hb hts (fun _ h => List.mem_cons_of_mem _ (List.mem_append_left _ (List.mem_append_left _ (List.mem_append_left _ (List.mem_append_right _ h))))) hown hK hP 0 rfl rfl 1 (by decide) (hts (.fieldLink RX6 19 "SpreadParity" "now" "LSpreadParity$State;") (List.mem_of_getElem? (i := 1) rfl)) (fun _ h9 => h9) rfl dX6_canBeFound_21 ?_
    refine lv_aload_n hx hb dX6_canBeFound_24 rfl (lv_at hl 0 rfl) ?_
    refine va_get (D := D) (ci := 6) (v := .ref (a 1)) (C := RX6) (T := TX6) (N := 4) hx hb hts (fun _ h => List.mem_cons_of_mem _ (List.mem_append_left _ (List.mem_append_left _ (List.mem_append_left _ (List.mem_append_right _ h))))) hown hK hP 0 rfl rfl 0 (by decide) (hts (.fieldLink RX6 10 "SpreadParity" "layout" "LSpreadParity$Layout;") (List.mem_of_getElem? (i := 2) rfl)) (fun _ h9 => h9) rfl dX6_canBeFound_25 ?_
    refine lv_iload_n hx hb dX6_canBeFound_28 rfl (lv_at hl 1 rfl) ?_
    refine lv_iconst (v := nI 2) hx hb dX6_canBeFound_29 rfl ?_
    refine q_cV (As := [.int (nI (k)), .int (nI (2))]) (rest := [.ref (a 8)]) ⟨hx, hb, hml, hown, hts⟩ (c_X1_nextInStripe D cy a σ kept nxt cnt T len pos ph le nu va Z (k) (2) (by omega) (by omega)) (cwV 2 hts gX6_canBeFound_X1_nextInStripe rfl rfl rfl hd_X1_nextInStripe ⟨Nat.le_of_ble_eq_true rfl, Nat.le_of_ble_eq_true rfl⟩) hK hP 1 rfl rfl rfl hl.1 rfl (Nat.le_of_ble_eq_true rfl) ⟨Nat.zero_le _, Nat.zero_le _⟩ dX6_canBeFound_30 ?_
    refine lv_iload_n hx hb dX6_canBeFound_33 rfl (lv_at hl 2 rfl) ?_
    refine q_cV (As := [.int (nI (nx k 2)), .int (wo)]) (rest := []) ⟨hx, hb, hml, hown, hts⟩ (c_X5_hasUnit D cy a σ kept nxt cnt T len pos ph le nu va Z (τ) (nx k 2) (wo) (nx_lt (by omega) _) h_1) (cwV 2 hts gX6_canBeFound_X5_hasUnit rfl rfl rfl hd_X5_hasUnit ⟨Nat.le_of_ble_eq_true rfl, Nat.le_of_ble_eq_true rfl⟩) hK hP 8 rfl rfl rfl hl.1 rfl (Nat.le_of_ble_eq_true rfl) ⟨Nat.zero_le _, Nat.zero_le _⟩ dX6_canBeFound_34 ?_
    refine q_ifeqB (tgt := 44) hx hb dX6_canBeFound_37 (by decide) (fun c_37 => ?_) (fun c_37 => ?_)
    · refine lv_iconst (v := nI 0) hx hb dX6_canBeFound_44 rfl ?_
      exact q_zret hx hb hr hlocks dX6_canBeFound_45 (by simp only [cf, c_37, Bool.and_false]; rfl)
    · refine lv_iconst (v := nI 1) hx hb dX6_canBeFound_40 rfl ?_
      refine lv_goto (tgt := 45) hx hb dX6_canBeFound_41 (by decide) ?_
      exact q_zret hx hb hr hlocks dX6_canBeFound_45 (by simp only [cf, c_17, c_37, Bool.and_self]; rfl)
set_option maxHeartbeats 1000000 in
set_option maxRecDepth 100000 in
theorem c_X6_isLost {l : Launch} (D : va_G) (cy : ClassId) (a : Nat → Nat) (σ kept : Nat → Int32) (nxt cnt : Nat) (T : Nat → Int32) (len pos : Nat) (ph le nu va : Int32) (Z : va_W) (τ : Nat → Int32) (k : Nat) (wo : Int32) (h_0 : k < 63) (h_1 : Wo σ wo τ) : Met l yX6_isLost wsX6_isLost (k2_rm 3 66) (gR D cy [.ref (a 0), .int (nI (k)), .int (wo)] (wX cy a σ kept nxt cnt T len pos ph le nu va ++ Z)) (k2_QcV (.int (bI (lo τ k)))) 0 0 (fun _ => False) := by
  refine q_pure (cc := cX6_isLost) (maxL := 3) (ret := (some .boolean)) pl_X6 rfl (Nat.le_of_ble_eq_true rfl) ?_
  intro p e s m below meth c ls hx hb hr hml hts hown hlocks hP hK hl
  have hl : lv_has ls 3 [(0, .ref (a 0)), (1, .int (nI (k))), (2, .int (wo))] := hl
  refine lv_aload_n hx hb dX6_isLost_0 rfl (lv_at hl 0 rfl) ?_
  refine va_get (D := D) (ci := 6) (v := .ref (a 8)) (C := RX6) (T := TX6) (N := 4) hx hb hts (fun _ h => List.mem_cons_of_mem _ (List.mem_append_left _ (List.mem_append_left _ (List.mem_append_left _ (List.mem_append_right _ h))))) hown hK hP 0 rfl rfl 1 (by decide) (hts (.fieldLink RX6 19 "SpreadParity" "now" "LSpreadParity$State;") (List.mem_of_getElem? (i := 1) rfl)) (fun _ h9 => h9) rfl dX6_isLost_1 ?_
  refine lv_iload_n hx hb dX6_isLost_4 rfl (lv_at hl 1 rfl) ?_
  refine lv_iload_n hx hb dX6_isLost_5 rfl (lv_at hl 2 rfl) ?_
  refine q_cV (As := [.int (nI (k)), .int (wo)]) (rest := []) ⟨hx, hb, hml, hown, hts⟩ (c_X5_hasUnit D cy a σ kept nxt cnt T len pos ph le nu va Z (τ) (k) (wo) (by omega) h_1) (cwV 2 hts gX6_isLost_X5_hasUnit rfl rfl rfl hd_X5_hasUnit ⟨Nat.le_of_ble_eq_true rfl, Nat.le_of_ble_eq_true rfl⟩) hK hP 8 rfl rfl rfl hl.1 rfl (Nat.le_of_ble_eq_true rfl) ⟨Nat.zero_le _, Nat.zero_le _⟩ dX6_isLost_6 ?_
  refine q_ifneB (tgt := 25) hx hb dX6_isLost_9 (by decide) (fun c_9 => ?_) (fun c_9 => ?_)
  · refine lv_iconst (v := nI 0) hx hb dX6_isLost_25 rfl ?_
    exact q_zret hx hb hr hlocks dX6_isLost_26 (by simp only [lo, c_9, Bool.not_true, Bool.false_and]; rfl)
  · refine lv_aload_n hx hb dX6_isLost_12 rfl (lv_at hl 0 rfl) ?_
    refine lv_iload_n hx hb dX6_isLost_13 rfl (lv_at hl 1 rfl) ?_
    refine lv_iload_n hx hb dX6_isLost_14 rfl (lv_at hl 2 rfl) ?_
    refine q_cV (As := [.int (nI (k)), .int (wo)]) (rest := []) ⟨hx, hb, hml, hown, hts⟩ (c_X6_canBeFound D cy a σ kept nxt cnt T len pos ph le nu va Z (τ) (k) (wo) (by omega) h_1) (cwV 2 hts gX6_isLost_X6_canBeFound rfl rfl rfl hd_X6_canBeFound ⟨Nat.le_of_ble_eq_true rfl, Nat.le_of_ble_eq_true rfl⟩) hK hP 0 rfl rfl rfl hl.1 rfl (Nat.le_of_ble_eq_true rfl) ⟨Nat.zero_le _, Nat.zero_le _⟩ dX6_isLost_15 ?_
    refine q_ifneB (tgt := 25) hx hb dX6_isLost_18 (by decide) (fun c_18 => ?_) (fun c_18 => ?_)
    · refine lv_iconst (v := nI 0) hx hb dX6_isLost_25 rfl ?_
      exact q_zret hx hb hr hlocks dX6_isLost_26 (by simp only [lo, c_18, Bool.not_true, Bool.and_false]; rfl)
    · refine lv_iconst (v := nI 1) hx hb dX6_isLost_21 rfl ?_
      refine lv_goto (tgt := 26) hx hb dX6_isLost_22 (by decide) ?_
      exact q_zret hx hb hr hlocks dX6_isLost_26 (by simp only [lo, c_9, c_18, Bool.not_false, Bool.and_self]; rfl)
set_option maxHeartbeats 1000000 in
set_option maxRecDepth 100000 in
theorem c_X6_countLost {l : Launch} (D : va_G) (cy : ClassId) (a : Nat → Nat) (σ kept : Nat → Int32) (nxt cnt : Nat) (T : Nat → Int32) (len pos : Nat) (ph le nu va : Int32) (Z : va_W) (τ : Nat → Int32) (wo : Int32) (h_0 : Wo σ wo τ) : Met l yX6_countLost wsX6_countLost (k2_rm 4 88) (gR D cy [.ref (a 0), .int (wo)] (wX cy a σ kept nxt cnt T len pos ph le nu va ++ Z)) (k2_QcV (.int (nI (cl τ)))) 0 0 (fun _ => False) := by
  refine q_pure (cc := cX6_countLost) (maxL := 4) (ret := (some .int)) pl_X6 rfl (Nat.le_of_ble_eq_true rfl) ?_
  intro p e s m below meth c ls hx hb hr hml hts hown hlocks hP hK hl
  have hl : lv_has ls 4 [(0, .ref (a 0)), (1, .int (wo))] := hl
  refine lv_iconst (v := nI 0) hx hb dX6_countLost_0 rfl ?_
  refine lv_istore_n (lv' := [(2, .int (nI (0))), (0, .ref (a 0)), (1, .int (wo))]) hx hb dX6_countLost_1 rfl hl (by decide) rfl (fun ls hl => ?_)
  refine lv_iconst (v := nI 0) hx hb dX6_countLost_2 rfl ?_
  refine lv_istore_n (lv' := [(3, .int (nI (0))), (2, .int (nI (0))), (0, .ref (a 0)), (1, .int (wo))]) hx hb dX6_countLost_3 rfl hl (by decide) rfl (fun ls hl => ?_)
  have lp4 : ∀ (j_ i : Nat), i + j_ = 42 → ∀ (ls : Array Slot), lv_has ls 4 [(0, .ref (a 0)), (1, .int (wo)), (2, .int (nI (cntB (fun q => lo τ (ad q)) i))), (3, .int (nI (i)))] → W p l e (k2_rm 4 88) s m ([.ref (a 0), .int (wo)] : List Value).toArray below meth c s.heap [] 0 0 (MQ below (k2_QcV (.int (nI (cl τ)))) ([.ref (a 0), .int (wo)] : List Value).toArray s 0 0 (fun _ => False)) (F0 m 4 ls []) := by
    intro j_
    induction j_ with
    | zero =>
      intro i hn_i ls hl
      refine lv_iload_n hx hb dX6_countLost_4 rfl (lv_at hl 3 rfl) ?_
      refine lv_bipush (v := nI 42) hx hb dX6_countLost_5 rfl ?_
      refine q_geN (tgt := 35) hx hb dX6_countLost_7 (by decide) (by omega) (by omega) (fun c_7 => ?_) (fun c_7 => absurd c_7 (by omega))
      refine lv_iload_n hx hb dX6_countLost_35 rfl (lv_at hl 2 rfl) ?_
      exact q_iret hx hb hr hlocks dX6_countLost_36 (by have e9 : i = 42 := (by omega); subst e9; rfl)
    | succ j_ ih_i =>
      intro i hn_i ls hl
      refine lv_iload_n hx hb dX6_countLost_4 rfl (lv_at hl 3 rfl) ?_
      refine lv_bipush (v := nI 42) hx hb dX6_countLost_5 rfl ?_
      refine q_geN (tgt := 35) hx hb dX6_countLost_7 (by decide) (by omega) (by omega) (fun c_7 => absurd c_7 (by omega)) (fun c_7 => ?_)
      refine lv_aload_n hx hb dX6_countLost_10 rfl (lv_at hl 0 rfl) ?_
      refine lv_aload_n hx hb dX6_countLost_11 rfl (lv_at hl 0 rfl) ?_
      refine va_get (D := D) (ci := 6) (v := .ref (a 1)) (C := RX6) (T := TX6) (N := 4) hx hb hts (fun _ h => List.mem_cons_of_mem _ (List.mem_append_left _ (List.mem_append_left _ (List.mem_append_left _ (List.mem_append_right _ h))))) hown hK hP 0 rfl rfl 0 (by decide) (hts (.fieldLink RX6 10 "SpreadParity" "layout" "LSpreadParity$Layout;") (List.mem_of_getElem? (i := 1) rfl)) (fun _ h9 => h9) rfl dX6_countLost_12 ?_
      refine lv_iload_n hx hb dX6_countLost_15 rfl (lv_at hl 3 rfl) ?_
      refine q_cV (As := [.int (nI (i))]) (rest := [.ref (a 0)]) ⟨hx, hb, hml, hown, hts⟩ (c_X1_spotOfAddress D cy a σ kept nxt cnt T len pos ph le nu va Z (i) (by omega)) (cwV 1 hts gX6_countLost_X1_spotOfAddress rfl rfl rfl hd_X1_spotOfAddress ⟨Nat.le_of_ble_eq_true rfl, Nat.le_of_ble_eq_true rfl⟩) hK hP 1 rfl rfl rfl hl.1 rfl (Nat.le_of_ble_eq_true rfl) ⟨Nat.zero_le _, Nat.zero_le _⟩ dX6_countLost_16 ?_
      refine lv_iload_n hx hb dX6_countLost_19 rfl (lv_at hl 1 rfl) ?_
      refine q_cV (As := [.int (nI (ad i)), .int (wo)]) (rest := []) ⟨hx, hb, hml, hown, hts⟩ (c_X6_isLost D cy a σ kept nxt cnt T len pos ph le nu va Z (τ) (ad i) (wo) (ad_lt (by omega)) h_0) (cwV 2 hts gX6_countLost_X6_isLost rfl rfl rfl hd_X6_isLost ⟨Nat.le_of_ble_eq_true rfl, Nat.le_of_ble_eq_true rfl⟩) hK hP 0 rfl rfl rfl hl.1 rfl (Nat.le_of_ble_eq_true rfl) ⟨Nat.zero_le _, Nat.zero_le _⟩ dX6_countLost_20 ?_
      refine q_ifeqB (tgt := 29) hx hb dX6_countLost_23 (by decide) (fun c_23 => ?_) (fun c_23 => ?_)
      · have e_c : nI (cntB (fun q => lo τ (ad q)) i) = nI (cntB (fun q => lo τ (ad q)) (i + 1)) := congrArg nI (by show cntB (fun q => lo τ (ad q)) i = cntB (fun q => lo τ (ad q)) (i + 1); simp only [cntB, c_23, if_true, if_false, Bool.false_eq_true, Nat.add_zero])
        rw [e_c] at hl
        refine lv_iinc (v := nI (i + 1)) (lv' := [(3, .int (nI (i + 1))), (0, .ref (a 0)), (1, .int (wo)), (2, .int (nI (cntB (fun q => lo τ (ad q)) (i + 1))))]) hx hb dX6_countLost_29 hl (k := 3) rfl (show nI (i) + nI 1 = nI (i + 1) from nI_add _ _) (by decide) rfl (fun ls hl => ?_)
        refine lv_goto (tgt := 4) hx hb dX6_countLost_32 (by decide) ?_
        exact ih_i (i + 1) (by omega) _ (lv_sub hl [1, 2, 3, 0] rfl)
      · refine lv_iinc (v := nI (cntB (fun q => lo τ (ad q)) i + 1)) (lv' := [(2, .int (nI (cntB (fun q => lo τ (ad q)) i + 1))), (0, .ref (a 0)), (1, .int (wo)), (3, .int (nI (i)))]) hx hb dX6_countLost_26 hl (k := 2) rfl (show nI (cntB (fun q => lo τ (ad q)) i) + nI 1 = nI (cntB (fun q => lo τ (ad q)) i + 1) from nI_add _ _) (by decide) rfl (fun ls hl => ?_)
        have e_c : nI (cntB (fun q => lo τ (ad q)) i + 1) = nI (cntB (fun q => lo τ (ad q)) (i + 1)) := congrArg nI (by show cntB (fun q => lo τ (ad q)) i + 1 = cntB (fun q => lo τ (ad q)) (i + 1); simp only [cntB, c_23, if_true, if_false, Bool.false_eq_true, Nat.add_zero])
        rw [e_c] at hl
        refine lv_iinc (v := nI (i + 1)) (lv' := [(3, .int (nI (i + 1))), (2, .int (nI (cntB (fun q => lo τ (ad q)) (i + 1)))), (0, .ref (a 0)), (1, .int (wo))]) hx hb dX6_countLost_29 hl (k := 3) rfl (show nI (i) + nI 1 = nI (i + 1) from nI_add _ _) (by decide) rfl (fun ls hl => ?_)
        refine lv_goto (tgt := 4) hx hb dX6_countLost_32 (by decide) ?_
        exact ih_i (i + 1) (by omega) _ (lv_sub hl [2, 3, 1, 0] rfl)
  exact lp4 (42 - 0) 0 (by omega) _ (lv_sub hl [2, 3, 1, 0] rfl)
set_option maxHeartbeats 1000000 in
set_option maxRecDepth 100000 in
theorem c_X6_findWorst {l : Launch} (D : va_G) (cy : ClassId) (a : Nat → Nat) (σ kept : Nat → Int32) (nxt cnt : Nat) (T : Nat → Int32) (len pos : Nat) (ph le nu va : Int32) (Z : va_W) : Met l yX6_findWorst wsX6_findWorst (k2_rm 5 111) (gR D cy [.ref (a 0)] (wX cy a σ kept nxt cnt T len pos ph le nu va ++ Z)) (k2_QcV (.int ((wst σ 7).1))) 0 0 (fun _ => False) := by
  refine q_pure (cc := cX6_findWorst) (maxL := 5) (ret := (some .int)) pl_X6 rfl (Nat.le_of_ble_eq_true rfl) ?_
  intro p e s m below meth c ls hx hb hr hml hts hown hlocks hP hK hl
  have hl : lv_has ls 5 [(0, .ref (a 0))] := hl
  refine lv_iconst (v := -1) hx hb dX6_findWorst_0 rfl ?_
  refine lv_istore_n (lv' := [(1, .int (-1)), (0, .ref (a 0))]) hx hb dX6_findWorst_1 rfl hl (by decide) rfl (fun ls hl => ?_)
  refine lv_iconst (v := -1) hx hb dX6_findWorst_2 rfl ?_
  refine lv_istore_n (lv' := [(2, .int (-1)), (1, .int (-1)), (0, .ref (a 0))]) hx hb dX6_findWorst_3 rfl hl (by decide) rfl (fun ls hl => ?_)
  refine lv_iconst (v := nI 0) hx hb dX6_findWorst_4 rfl ?_
  refine lv_istore_n (lv' := [(3, .int (nI (0))), (2, .int (-1)), (1, .int (-1)), (0, .ref (a 0))]) hx hb dX6_findWorst_5 rfl hl (by decide) rfl (fun ls hl => ?_)
  have lp6 : ∀ (j_ i : Nat), i + j_ = 7 → ∀ (ls : Array Slot), lv_has ls 5 [(0, .ref (a 0)), (1, .int ((wst σ i).1)), (2, .int ((wst σ i).2)), (3, .int (nI (i)))] → W p l e (k2_rm 5 111) s m ([.ref (a 0)] : List Value).toArray below meth c s.heap [] 0 0 (MQ below (k2_QcV (.int ((wst σ 7).1))) ([.ref (a 0)] : List Value).toArray s 0 0 (fun _ => False)) (F0 m 6 ls []) := by
    intro j_
    induction j_ with
    | zero =>
      intro i hn_i ls hl
      refine lv_iload_n hx hb dX6_findWorst_6 rfl (lv_at hl 3 rfl) ?_
      refine lv_bipush (v := nI 7) hx hb dX6_findWorst_7 rfl ?_
      refine q_geN (tgt := 49) hx hb dX6_findWorst_9 (by decide) (by omega) (by omega) (fun c_9 => ?_) (fun c_9 => absurd c_9 (by omega))
      refine lv_iload_n hx hb dX6_findWorst_49 rfl (lv_at hl 1 rfl) ?_
      exact q_iret hx hb hr hlocks dX6_findWorst_50 (by have e9 : i = 7 := (by omega); subst e9; rfl)
    | succ j_ ih_i =>
      intro i hn_i ls hl
      refine lv_iload_n hx hb dX6_findWorst_6 rfl (lv_at hl 3 rfl) ?_
      refine lv_bipush (v := nI 7) hx hb dX6_findWorst_7 rfl ?_
      refine q_geN (tgt := 49) hx hb dX6_findWorst_9 (by decide) (by omega) (by omega) (fun c_9 => absurd c_9 (by omega)) (fun c_9 => ?_)
      refine lv_aload_n hx hb dX6_findWorst_12 rfl (lv_at hl 0 rfl) ?_
      refine lv_iload_n hx hb dX6_findWorst_13 rfl (lv_at hl 3 rfl) ?_
      refine q_cV (As := [.int (nI (i))]) (rest := []) ⟨hx, hb, hml, hown, hts⟩ (c_X6_countLost D cy a σ kept nxt cnt T len pos ph le nu va Z (failS σ i) (nI (i)) (Wo_fail σ (by omega))) (cwV 1 hts gX6_findWorst_X6_countLost rfl rfl rfl hd_X6_countLost ⟨Nat.le_of_ble_eq_true rfl, Nat.le_of_ble_eq_true rfl⟩) hK hP 0 rfl rfl rfl hl.1 rfl (Nat.le_of_ble_eq_true rfl) ⟨Nat.zero_le _, Nat.zero_le _⟩ dX6_findWorst_14 ?_
      refine lv_istore (lv' := [(4, .int (nI (cl (failS σ i)))), (0, .ref (a 0)), (1, .int ((wst σ i).1)), (2, .int ((wst σ i).2)), (3, .int (nI (i)))]) hx hb dX6_findWorst_17 hl (by decide) rfl (fun ls hl => ?_)
      refine lv_aload_n hx hb dX6_findWorst_19 rfl (lv_at hl 1 rfl) ?_
      refine va_get (D := D) (ci := 6) (v := .ref (a 8)) (C := RX6) (T := TX6) (N := 4) hx hb hts (fun _ h => List.mem_cons_of_mem _ (List.mem_append_left _ (List.mem_append_left _ (List.mem_append_left _ (List.mem_append_right _ h))))) hown hK hP 0 rfl rfl 1 (by decide) (hts (.fieldLink RX6 19 "SpreadParity" "now" "LSpreadParity$State;") (List.mem_of_getElem? (i := 1) rfl)) (fun _ h9 => h9) rfl dX6_findWorst_20 ?_
      refine lv_iload_n hx hb dX6_findWorst_23 rfl (lv_at hl 4 rfl) ?_
      refine q_cV (As := [.int (nI (i))]) (rest := []) ⟨hx, hb, hml, hown, hts⟩ (c_X5_progressOf D cy a σ kept nxt cnt T len pos ph le nu va Z (i) (by omega)) (cwV 1 hts gX6_findWorst_X5_progressOf rfl rfl rfl hd_X5_progressOf ⟨Nat.le_of_ble_eq_true rfl, Nat.le_of_ble_eq_true rfl⟩) hK hP 8 rfl rfl rfl hl.1 rfl (Nat.le_of_ble_eq_true rfl) ⟨Nat.zero_le _, Nat.zero_le _⟩ dX6_findWorst_24 ?_
      refine lv_bipush (v := nI 9) hx hb dX6_findWorst_27 rfl ?_
      refine lv_icmp_ne (tgt := 43) hx hb dX6_findWorst_29 (by decide) (fun (c_29 : ¬ (σ (63 + i)) = (9)) => ?_) (fun (c_29 : (σ (63 + i)) = (9)) => ?_)
      · have e_w : wst σ (i + 1) = wst σ i := by simp only [wst]; rw [if_neg (fun h => c_29 h.1)]
        have hl : lv_has ls 5 [(4, .int (nI (cl (failS σ i)))), (0, .ref (a 0)), (1, .int ((wst σ (i + 1)).1)), (2, .int ((wst σ (i + 1)).2)), (3, .int (nI (i)))] := by
          rw [e_w]
          exact hl
        refine lv_iinc (v := nI (i + 1)) (lv' := [(3, .int (nI (i + 1))), (4, .int (nI (cl (failS σ i)))), (0, .ref (a 0)), (1, .int ((wst σ (i + 1)).1)), (2, .int ((wst σ (i + 1)).2))]) hx hb dX6_findWorst_43 hl (k := 4) rfl (show nI (i) + nI 1 = nI (i + 1) from nI_add _ _) (by decide) rfl (fun ls hl => ?_)
        refine lv_goto (tgt := 6) hx hb dX6_findWorst_46 (by decide) ?_
        exact ih_i (i + 1) (by omega) _ (lv_sub hl [2, 3, 4, 0] rfl)
      · refine lv_iload hx hb dX6_findWorst_32 (lv_at hl 0 rfl) ?_
        refine lv_iload_n hx hb dX6_findWorst_34 rfl (lv_at hl 3 rfl) ?_
        refine lv_icmp_le (tgt := 43) hx hb dX6_findWorst_35 (by decide) (fun (c_35 : (nI (cl (failS σ i))) ≤ ((wst σ i).2)) => ?_) (fun (c_35 : ¬ (nI (cl (failS σ i))) ≤ ((wst σ i).2)) => ?_)
        · have e_w : wst σ (i + 1) = wst σ i := by simp only [wst]; rw [if_neg (fun h => Int32.not_le.mpr h.2 c_35)]
          have hl : lv_has ls 5 [(4, .int (nI (cl (failS σ i)))), (0, .ref (a 0)), (1, .int ((wst σ (i + 1)).1)), (2, .int ((wst σ (i + 1)).2)), (3, .int (nI (i)))] := by
            rw [e_w]
            exact hl
          refine lv_iinc (v := nI (i + 1)) (lv' := [(3, .int (nI (i + 1))), (4, .int (nI (cl (failS σ i)))), (0, .ref (a 0)), (1, .int ((wst σ (i + 1)).1)), (2, .int ((wst σ (i + 1)).2))]) hx hb dX6_findWorst_43 hl (k := 4) rfl (show nI (i) + nI 1 = nI (i + 1) from nI_add _ _) (by decide) rfl (fun ls hl => ?_)
          refine lv_goto (tgt := 6) hx hb dX6_findWorst_46 (by decide) ?_
          exact ih_i (i + 1) (by omega) _ (lv_sub hl [2, 3, 4, 0] rfl)
        · refine lv_iload_n hx hb dX6_findWorst_38 rfl (lv_at hl 4 rfl) ?_
          refine lv_istore_n (lv' := [(1, .int (nI (i))), (4, .int (nI (cl (failS σ i)))), (0, .ref (a 0)), (2, .int ((wst σ i).2)), (3, .int (nI (i)))]) hx hb dX6_findWorst_39 rfl hl (by decide) rfl (fun ls hl => ?_)
          refine lv_iload hx hb dX6_findWorst_40 (lv_at hl 1 rfl) ?_
          refine lv_istore_n (lv' := [(2, .int (nI (cl (failS σ i)))), (1, .int (nI (i))), (4, .int (nI (cl (failS σ i)))), (0, .ref (a 0)), (3, .int (nI (i)))]) hx hb dX6_findWorst_42 rfl hl (by decide) rfl (fun ls hl => ?_)
          have e_w : wst σ (i + 1) = (nI i, nI (cl (failS σ i))) := by simp only [wst]; rw [if_pos ⟨c_29, Int32.not_le.mp c_35⟩]
          have hl : lv_has ls 5 [(2, .int ((wst σ (i + 1)).2)), (1, .int ((wst σ (i + 1)).1)), (4, .int (nI (cl (failS σ i)))), (0, .ref (a 0)), (3, .int (nI (i)))] := by
            rw [e_w]
            exact hl
          refine lv_iinc (v := nI (i + 1)) (lv' := [(3, .int (nI (i + 1))), (2, .int ((wst σ (i + 1)).2)), (1, .int ((wst σ (i + 1)).1)), (4, .int (nI (cl (failS σ i)))), (0, .ref (a 0))]) hx hb dX6_findWorst_43 hl (k := 4) rfl (show nI (i) + nI 1 = nI (i + 1) from nI_add _ _) (by decide) rfl (fun ls hl => ?_)
          refine lv_goto (tgt := 6) hx hb dX6_findWorst_46 (by decide) ?_
          exact ih_i (i + 1) (by omega) _ (lv_sub hl [4, 2, 1, 0] rfl)
  exact lp6 (7 - 0) 0 (by omega) _ (lv_sub hl [3, 2, 1, 0] rfl)
set_option maxHeartbeats 1000000 in
set_option maxRecDepth 100000 in
theorem c_X6_visibleValue {l : Launch} (D : va_G) (cy : ClassId) (a : Nat → Nat) (σ kept : Nat → Int32) (nxt cnt : Nat) (T : Nat → Int32) (len pos : Nat) (ph le nu va : Int32) (Z : va_W) (k : Nat) (h_0 : k < 63) : Met l yX6_visibleValue wsX6_visibleValue (k2_rm 2 44) (gR D cy [.ref (a 0), .int (nI (k))] (wX cy a σ kept nxt cnt T len pos ph le nu va ++ Z)) (k2_QcV (.int (vis σ k))) 0 0 (fun _ => False) := by
  refine q_pure (cc := cX6_visibleValue) (maxL := 2) (ret := (some .int)) pl_X6 rfl (Nat.le_of_ble_eq_true rfl) ?_
  intro p e s m below meth c ls hx hb hr hml hts hown hlocks hP hK hl
  have hl : lv_has ls 2 [(0, .ref (a 0)), (1, .int (nI (k)))] := hl
  refine lv_aload_n hx hb dX6_visibleValue_0 rfl (lv_at hl 0 rfl) ?_
  refine va_get (D := D) (ci := 6) (v := .ref (a 8)) (C := RX6) (T := TX6) (N := 4) hx hb hts (fun _ h => List.mem_cons_of_mem _ (List.mem_append_left _ (List.mem_append_left _ (List.mem_append_right _ h)))) hown hK hP 0 rfl rfl 1 (by decide) (hts (.fieldLink RX6 19 "SpreadParity" "now" "LSpreadParity$State;") (List.mem_of_getElem? (i := 1) rfl)) (fun _ h9 => h9) rfl dX6_visibleValue_1 ?_
  refine lv_iload_n hx hb dX6_visibleValue_4 rfl (lv_at hl 1 rfl) ?_
  refine lv_iconst (v := -1) hx hb dX6_visibleValue_5 rfl ?_
  refine q_cV (As := [.int (nI (k)), .int (-1)]) (rest := []) ⟨hx, hb, hml, hown, hts⟩ (c_X5_hasUnit D cy a σ kept nxt cnt T len pos ph le nu va Z (σ) (k) (-1) (by omega) (Wo_none _)) (cwV 2 hts gX6_visibleValue_X5_hasUnit rfl rfl rfl hd_X5_hasUnit ⟨Nat.le_of_ble_eq_true rfl, Nat.le_of_ble_eq_true rfl⟩) hK hP 8 rfl rfl rfl hl.1 rfl (Nat.le_of_ble_eq_true rfl) ⟨Nat.zero_le _, Nat.zero_le _⟩ dX6_visibleValue_6 ?_
  refine q_ifeqB (tgt := 23) hx hb dX6_visibleValue_9 (by decide) (fun c_9 => ?_) (fun c_9 => ?_)
  · refine lv_iconst (v := -1) hx hb dX6_visibleValue_23 rfl ?_
    exact q_iret hx hb hr hlocks dX6_visibleValue_24 (by simp [vis, c_9])
  · refine lv_aload_n hx hb dX6_visibleValue_12 rfl (lv_at hl 0 rfl) ?_
    refine va_get (D := D) (ci := 6) (v := .ref (a 8)) (C := RX6) (T := TX6) (N := 4) hx hb hts (fun _ h => List.mem_cons_of_mem _ (List.mem_append_left _ (List.mem_append_left _ (List.mem_append_right _ h)))) hown hK hP 0 rfl rfl 1 (by decide) (hts (.fieldLink RX6 19 "SpreadParity" "now" "LSpreadParity$State;") (List.mem_of_getElem? (i := 1) rfl)) (fun _ h9 => h9) rfl dX6_visibleValue_13 ?_
    refine lv_iload_n hx hb dX6_visibleValue_16 rfl (lv_at hl 1 rfl) ?_
    refine q_cV (As := [.int (nI (k))]) (rest := []) ⟨hx, hb, hml, hown, hts⟩ (c_X5_valueAt D cy a σ kept nxt cnt T len pos ph le nu va Z (k) (by omega)) (cwV 1 hts gX6_visibleValue_X5_valueAt rfl rfl rfl hd_X5_valueAt ⟨Nat.le_of_ble_eq_true rfl, Nat.le_of_ble_eq_true rfl⟩) hK hP 8 rfl rfl rfl hl.1 rfl (Nat.le_of_ble_eq_true rfl) ⟨Nat.zero_le _, Nat.zero_le _⟩ dX6_visibleValue_17 ?_
    refine lv_goto (tgt := 24) hx hb dX6_visibleValue_20 (by decide) ?_
    exact q_iret hx hb hr hlocks dX6_visibleValue_24 (by simp [vis, c_9])
set_option maxHeartbeats 1000000 in
set_option maxRecDepth 100000 in
theorem c_X6_valueFromOthers {l : Launch} (D : va_G) (cy : ClassId) (a : Nat → Nat) (σ kept : Nat → Int32) (nxt cnt : Nat) (T : Nat → Int32) (len pos : Nat) (ph le nu va : Int32) (Z : va_W) (k : Nat) (h_0 : k < 63) : Met l yX6_valueFromOthers wsX6_valueFromOthers (k2_rm 2 44) (gR D cy [.ref (a 0), .int (nI (k))] (wX cy a σ kept nxt cnt T len pos ph le nu va ++ Z)) (k2_QcV (.int (fd σ k))) 0 0 (fun _ => False) := by
  refine q_pure (cc := cX6_valueFromOthers) (maxL := 2) (ret := (some .int)) pl_X6 rfl (Nat.le_of_ble_eq_true rfl) ?_
  intro p e s m below meth c ls hx hb hr hml hts hown hlocks hP hK hl
  have hl : lv_has ls 2 [(0, .ref (a 0)), (1, .int (nI (k)))] := hl
  refine lv_aload_n hx hb dX6_valueFromOthers_0 rfl (lv_at hl 0 rfl) ?_
  refine va_get (D := D) (ci := 6) (v := .ref (a 8)) (C := RX6) (T := TX6) (N := 4) hx hb hts (fun _ h => List.mem_cons_of_mem _ (List.mem_append_left _ (List.mem_append_left _ (List.mem_append_left _ (List.mem_append_right _ h))))) hown hK hP 0 rfl rfl 1 (by decide) (hts (.fieldLink RX6 19 "SpreadParity" "now" "LSpreadParity$State;") (List.mem_of_getElem? (i := 1) rfl)) (fun _ h9 => h9) rfl dX6_valueFromOthers_1 ?_
  refine lv_aload_n hx hb dX6_valueFromOthers_4 rfl (lv_at hl 0 rfl) ?_
  refine va_get (D := D) (ci := 6) (v := .ref (a 1)) (C := RX6) (T := TX6) (N := 4) hx hb hts (fun _ h => List.mem_cons_of_mem _ (List.mem_append_left _ (List.mem_append_left _ (List.mem_append_left _ (List.mem_append_right _ h))))) hown hK hP 0 rfl rfl 0 (by decide) (hts (.fieldLink RX6 10 "SpreadParity" "layout" "LSpreadParity$Layout;") (List.mem_of_getElem? (i := 2) rfl)) (fun _ h9 => h9) rfl dX6_valueFromOthers_5 ?_
  refine lv_iload_n hx hb dX6_valueFromOthers_8 rfl (lv_at hl 1 rfl) ?_
  refine lv_iconst (v := nI 1) hx hb dX6_valueFromOthers_9 rfl ?_
  refine q_cV (As := [.int (nI (k)), .int (nI (1))]) (rest := [.ref (a 8)]) ⟨hx, hb, hml, hown, hts⟩ (c_X1_nextInStripe D cy a σ kept nxt cnt T len pos ph le nu va Z (k) (1) (by omega) (by omega)) (cwV 2 hts gX6_valueFromOthers_X1_nextInStripe rfl rfl rfl hd_X1_nextInStripe ⟨Nat.le_of_ble_eq_true rfl, Nat.le_of_ble_eq_true rfl⟩) hK hP 1 rfl rfl rfl hl.1 rfl (Nat.le_of_ble_eq_true rfl) ⟨Nat.zero_le _, Nat.zero_le _⟩ dX6_valueFromOthers_10 ?_
  refine q_cV (As := [.int (nI (nx k 1))]) (rest := []) ⟨hx, hb, hml, hown, hts⟩ (c_X5_valueAt D cy a σ kept nxt cnt T len pos ph le nu va Z (nx k 1) (by have := nx_lt h_0 1; omega)) (cwV 1 hts gX6_valueFromOthers_X5_valueAt rfl rfl rfl hd_X5_valueAt ⟨Nat.le_of_ble_eq_true rfl, Nat.le_of_ble_eq_true rfl⟩) hK hP 8 rfl rfl rfl hl.1 rfl (Nat.le_of_ble_eq_true rfl) ⟨Nat.zero_le _, Nat.zero_le _⟩ dX6_valueFromOthers_13 ?_
  refine lv_aload_n hx hb dX6_valueFromOthers_16 rfl (lv_at hl 0 rfl) ?_
  refine va_get (D := D) (ci := 6) (v := .ref (a 8)) (C := RX6) (T := TX6) (N := 4) hx hb hts (fun _ h => List.mem_cons_of_mem _ (List.mem_append_left _ (List.mem_append_left _ (List.mem_append_left _ (List.mem_append_right _ h))))) hown hK hP 0 rfl rfl 1 (by decide) (hts (.fieldLink RX6 19 "SpreadParity" "now" "LSpreadParity$State;") (List.mem_of_getElem? (i := 1) rfl)) (fun _ h9 => h9) rfl dX6_valueFromOthers_17 ?_
  refine lv_aload_n hx hb dX6_valueFromOthers_20 rfl (lv_at hl 0 rfl) ?_
  refine va_get (D := D) (ci := 6) (v := .ref (a 1)) (C := RX6) (T := TX6) (N := 4) hx hb hts (fun _ h => List.mem_cons_of_mem _ (List.mem_append_left _ (List.mem_append_left _ (List.mem_append_left _ (List.mem_append_right _ h))))) hown hK hP 0 rfl rfl 0 (by decide) (hts (.fieldLink RX6 10 "SpreadParity" "layout" "LSpreadParity$Layout;") (List.mem_of_getElem? (i := 2) rfl)) (fun _ h9 => h9) rfl dX6_valueFromOthers_21 ?_
  refine lv_iload_n hx hb dX6_valueFromOthers_24 rfl (lv_at hl 1 rfl) ?_
  refine lv_iconst (v := nI 2) hx hb dX6_valueFromOthers_25 rfl ?_
  refine q_cV (As := [.int (nI (k)), .int (nI (2))]) (rest := [.ref (a 8), .int (σ (nx k 1))]) ⟨hx, hb, hml, hown, hts⟩ (c_X1_nextInStripe D cy a σ kept nxt cnt T len pos ph le nu va Z (k) (2) (by omega) (by omega)) (cwV 2 hts gX6_valueFromOthers_X1_nextInStripe rfl rfl rfl hd_X1_nextInStripe ⟨Nat.le_of_ble_eq_true rfl, Nat.le_of_ble_eq_true rfl⟩) hK hP 1 rfl rfl rfl hl.1 rfl (Nat.le_of_ble_eq_true rfl) ⟨Nat.zero_le _, Nat.zero_le _⟩ dX6_valueFromOthers_26 ?_
  refine q_cV (As := [.int (nI (nx k 2))]) (rest := [.int (σ (nx k 1))]) ⟨hx, hb, hml, hown, hts⟩ (c_X5_valueAt D cy a σ kept nxt cnt T len pos ph le nu va Z (nx k 2) (by have := nx_lt h_0 2; omega)) (cwV 1 hts gX6_valueFromOthers_X5_valueAt rfl rfl rfl hd_X5_valueAt ⟨Nat.le_of_ble_eq_true rfl, Nat.le_of_ble_eq_true rfl⟩) hK hP 8 rfl rfl rfl hl.1 rfl (Nat.le_of_ble_eq_true rfl) ⟨Nat.zero_le _, Nat.zero_le _⟩ dX6_valueFromOthers_29 ?_
  refine lv_ixor hx hb dX6_valueFromOthers_32 ?_
  exact q_iret hx hb hr hlocks dX6_valueFromOthers_33 (rfl)
set_option maxHeartbeats 1000000 in
set_option maxRecDepth 100000 in
theorem c_X6_knownValue {l : Launch} (D : va_G) (cy : ClassId) (a : Nat → Nat) (σ kept : Nat → Int32) (nxt cnt : Nat) (T : Nat → Int32) (len pos : Nat) (ph le nu va : Int32) (Z : va_W) (k : Nat) (h_0 : k < 63) : Met l yX6_knownValue wsX6_knownValue (k2_rm 4 88) (gR D cy [.ref (a 0), .int (nI (k))] (wX cy a σ kept nxt cnt T len pos ph le nu va ++ Z)) (k2_QcV (.int (kn σ k))) 0 0 (fun _ => False) := by
  refine q_pure (cc := cX6_knownValue) (maxL := 2) (ret := (some .int)) pl_X6 rfl (Nat.le_of_ble_eq_true rfl) ?_
  intro p e s m below meth c ls hx hb hr hml hts hown hlocks hP hK hl
  have hl : lv_has ls 2 [(0, .ref (a 0)), (1, .int (nI (k)))] := hl
  refine lv_aload_n hx hb dX6_knownValue_0 rfl (lv_at hl 0 rfl) ?_
  refine lv_iload_n hx hb dX6_knownValue_1 rfl (lv_at hl 1 rfl) ?_
  refine lv_iconst (v := -1) hx hb dX6_knownValue_2 rfl ?_
  refine q_cV (As := [.int (nI (k)), .int (-1)]) (rest := []) ⟨hx, hb, hml, hown, hts⟩ (c_X6_isLost D cy a σ kept nxt cnt T len pos ph le nu va Z (σ) (k) (-1) (by omega) (Wo_none _)) (cwV 2 hts gX6_knownValue_X6_isLost rfl rfl rfl hd_X6_isLost ⟨Nat.le_of_ble_eq_true rfl, Nat.le_of_ble_eq_true rfl⟩) hK hP 0 rfl rfl rfl hl.1 rfl (Nat.le_of_ble_eq_true rfl) ⟨Nat.zero_le _, Nat.zero_le _⟩ dX6_knownValue_3 ?_
  refine q_ifeqB (tgt := 11) hx hb dX6_knownValue_6 (by decide) (fun c_6 => ?_) (fun c_6 => ?_)
  · refine lv_aload_n hx hb dX6_knownValue_11 rfl (lv_at hl 0 rfl) ?_
    refine va_get (D := D) (ci := 6) (v := .ref (a 8)) (C := RX6) (T := TX6) (N := 4) hx hb hts (fun _ h => List.mem_cons_of_mem _ (List.mem_append_left _ (List.mem_append_left _ (List.mem_append_left _ (List.mem_append_right _ h))))) hown hK hP 0 rfl rfl 1 (by decide) (hts (.fieldLink RX6 19 "SpreadParity" "now" "LSpreadParity$State;") (List.mem_of_getElem? (i := 1) rfl)) (fun _ h9 => h9) rfl dX6_knownValue_12 ?_
    refine lv_iload_n hx hb dX6_knownValue_15 rfl (lv_at hl 1 rfl) ?_
    refine lv_iconst (v := -1) hx hb dX6_knownValue_16 rfl ?_
    refine q_cV (As := [.int (nI (k)), .int (-1)]) (rest := []) ⟨hx, hb, hml, hown, hts⟩ (c_X5_hasUnit D cy a σ kept nxt cnt T len pos ph le nu va Z (σ) (k) (-1) (by omega) (Wo_none _)) (cwV 2 hts gX6_knownValue_X5_hasUnit rfl rfl rfl hd_X5_hasUnit ⟨Nat.le_of_ble_eq_true rfl, Nat.le_of_ble_eq_true rfl⟩) hK hP 8 rfl rfl rfl hl.1 rfl (Nat.le_of_ble_eq_true rfl) ⟨Nat.zero_le _, Nat.zero_le _⟩ dX6_knownValue_17 ?_
    refine q_ifeqB (tgt := 34) hx hb dX6_knownValue_20 (by decide) (fun c_20 => ?_) (fun c_20 => ?_)
    · refine lv_aload_n hx hb dX6_knownValue_34 rfl (lv_at hl 0 rfl) ?_
      refine lv_iload_n hx hb dX6_knownValue_35 rfl (lv_at hl 1 rfl) ?_
      refine q_cV (As := [.int (nI (k))]) (rest := []) ⟨hx, hb, hml, hown, hts⟩ (c_X6_valueFromOthers D cy a σ kept nxt cnt T len pos ph le nu va Z (k) (by omega)) (cwV 1 hts gX6_knownValue_X6_valueFromOthers rfl rfl rfl hd_X6_valueFromOthers ⟨Nat.le_of_ble_eq_true rfl, Nat.le_of_ble_eq_true rfl⟩) hK hP 0 rfl rfl rfl hl.1 rfl (Nat.le_of_ble_eq_true rfl) ⟨Nat.zero_le _, Nat.zero_le _⟩ dX6_knownValue_36 ?_
      exact q_iret hx hb hr hlocks dX6_knownValue_39 (by simp [kn, c_6, c_20])
    · refine lv_aload_n hx hb dX6_knownValue_23 rfl (lv_at hl 0 rfl) ?_
      refine va_get (D := D) (ci := 6) (v := .ref (a 8)) (C := RX6) (T := TX6) (N := 4) hx hb hts (fun _ h => List.mem_cons_of_mem _ (List.mem_append_left _ (List.mem_append_left _ (List.mem_append_left _ (List.mem_append_right _ h))))) hown hK hP 0 rfl rfl 1 (by decide) (hts (.fieldLink RX6 19 "SpreadParity" "now" "LSpreadParity$State;") (List.mem_of_getElem? (i := 1) rfl)) (fun _ h9 => h9) rfl dX6_knownValue_24 ?_
      refine lv_iload_n hx hb dX6_knownValue_27 rfl (lv_at hl 1 rfl) ?_
      refine q_cV (As := [.int (nI (k))]) (rest := []) ⟨hx, hb, hml, hown, hts⟩ (c_X5_valueAt D cy a σ kept nxt cnt T len pos ph le nu va Z (k) (by omega)) (cwV 1 hts gX6_knownValue_X5_valueAt rfl rfl rfl hd_X5_valueAt ⟨Nat.le_of_ble_eq_true rfl, Nat.le_of_ble_eq_true rfl⟩) hK hP 8 rfl rfl rfl hl.1 rfl (Nat.le_of_ble_eq_true rfl) ⟨Nat.zero_le _, Nat.zero_le _⟩ dX6_knownValue_28 ?_
      refine lv_goto (tgt := 39) hx hb dX6_knownValue_31 (by decide) ?_
      exact q_iret hx hb hr hlocks dX6_knownValue_39 (by simp [kn, c_6, c_20])
  · refine lv_iconst (v := -1) hx hb dX6_knownValue_9 rfl ?_
    exact q_iret hx hb hr hlocks dX6_knownValue_10 (by simp [kn, c_6])
set_option maxHeartbeats 1000000 in
set_option maxRecDepth 100000 in
theorem c_X6_fetchOthers {l : Launch} (D : va_G) (cy : ClassId) (A : Nat → Prop) (a : Nat → Nat) (σ kept : Nat → Int32) (nxt cnt : Nat) (T : Nat → Int32) (len pos : Nat) (ph le nu va : Int32) (Z : va_W) (k : Nat) (h_0 : k < 63) : Met l yX6_fetchOthers wsX6_fetchOthers (k2_rm 2 44) (gP D cy [.ref (a 0), .int (nI (k))] A (wX cy a σ kept nxt cnt T len pos ph le nu va ++ Z)) (gQ D A (some (.int (fd σ k))) (wX cy a (f2S σ k) kept nxt cnt T len pos ph le nu va ++ Z)) 0 0 A := by
  refine q_imp (cc := cX6_fetchOthers) (maxL := 2) (ret := (some .int)) pl_X6 rfl (Nat.le_of_ble_eq_true rfl) ?_
  intro p e s m below meth c ls hx hb hr hml hts hown hlocks hw hK hA hl
  have hP := hw.1
  have hl : lv_has ls 2 [(0, .ref (a 0)), (1, .int (nI (k)))] := hl
  refine lv_aload_n hx hb dX6_fetchOthers_0 rfl (lv_at hl 0 rfl) ?_
  refine va_get (D := D) (ci := 6) (v := .ref (a 8)) (C := RX6) (T := TX6) (N := 4) hx hb hts (fun _ h => List.mem_cons_of_mem _ (List.mem_append_left _ (List.mem_append_left _ (List.mem_append_left _ (List.mem_append_right _ h))))) hown hK hP 0 rfl rfl 1 (by decide) (hts (.fieldLink RX6 19 "SpreadParity" "now" "LSpreadParity$State;") (List.mem_of_getElem? (i := 1) rfl)) (fun _ h9 => h9) rfl dX6_fetchOthers_1 ?_
  refine lv_aload_n hx hb dX6_fetchOthers_4 rfl (lv_at hl 0 rfl) ?_
  refine va_get (D := D) (ci := 6) (v := .ref (a 1)) (C := RX6) (T := TX6) (N := 4) hx hb hts (fun _ h => List.mem_cons_of_mem _ (List.mem_append_left _ (List.mem_append_left _ (List.mem_append_left _ (List.mem_append_right _ h))))) hown hK hP 0 rfl rfl 0 (by decide) (hts (.fieldLink RX6 10 "SpreadParity" "layout" "LSpreadParity$Layout;") (List.mem_of_getElem? (i := 2) rfl)) (fun _ h9 => h9) rfl dX6_fetchOthers_5 ?_
  refine lv_iload_n hx hb dX6_fetchOthers_8 rfl (lv_at hl 1 rfl) ?_
  refine lv_iconst (v := nI 1) hx hb dX6_fetchOthers_9 rfl ?_
  refine q_cV (As := [.int (nI (k)), .int (nI (1))]) (rest := [.ref (a 8)]) ⟨hx, hb, hml, hown, hts⟩ (c_X1_nextInStripe D cy a σ kept nxt cnt T len pos ph le nu va Z (k) (1) (by omega) (by omega)) (cwV 2 hts gX6_fetchOthers_X1_nextInStripe rfl rfl rfl hd_X1_nextInStripe ⟨Nat.le_of_ble_eq_true rfl, Nat.le_of_ble_eq_true rfl⟩) hK hP 1 rfl rfl rfl hl.1 rfl (Nat.le_of_ble_eq_true rfl) ⟨Nat.zero_le _, Nat.zero_le _⟩ dX6_fetchOthers_10 ?_
  refine q_wV0 (As := [.int (nI (nx k 1))]) (rest := []) (st1 := [.int (σ (nx k 1))]) ⟨hx, hb, hml, hown, hts⟩ (c_X5_fetch D cy A a σ kept nxt cnt T len pos ph le nu va Z (nx k 1) (nx_lt h_0 1)) (cwV 1 hts gX6_fetchOthers_X5_fetch rfl rfl rfl hd_X5_fetch ⟨Nat.le_of_ble_eq_true rfl, Nat.le_of_ble_eq_true rfl⟩) hK hA hw 8 rfl rfl rfl hl.1 rfl rfl (Nat.le_of_ble_eq_true rfl) ⟨Nat.zero_le _, Nat.zero_le _⟩ dX6_fetchOthers_13 (fun H locs hw => ?_)
  have hw : wS D A (wX cy a (rdS σ (nx k 1)) kept nxt cnt T len pos ph le nu va ++ Z) s H locs := hw
  have hP := hw.1
  refine lv_aload_n hx hb dX6_fetchOthers_16 rfl (lv_at hl 0 rfl) ?_
  refine va_get (D := D) (ci := 6) (v := .ref (a 8)) (C := RX6) (T := TX6) (N := 4) hx hb hts (fun _ h => List.mem_cons_of_mem _ (List.mem_append_left _ (List.mem_append_left _ (List.mem_append_left _ (List.mem_append_right _ h))))) hown hK hP 0 rfl rfl 1 (by decide) (hts (.fieldLink RX6 19 "SpreadParity" "now" "LSpreadParity$State;") (List.mem_of_getElem? (i := 1) rfl)) (fun _ h9 => h9) rfl dX6_fetchOthers_17 ?_
  refine lv_aload_n hx hb dX6_fetchOthers_20 rfl (lv_at hl 0 rfl) ?_
  refine va_get (D := D) (ci := 6) (v := .ref (a 1)) (C := RX6) (T := TX6) (N := 4) hx hb hts (fun _ h => List.mem_cons_of_mem _ (List.mem_append_left _ (List.mem_append_left _ (List.mem_append_left _ (List.mem_append_right _ h))))) hown hK hP 0 rfl rfl 0 (by decide) (hts (.fieldLink RX6 10 "SpreadParity" "layout" "LSpreadParity$Layout;") (List.mem_of_getElem? (i := 2) rfl)) (fun _ h9 => h9) rfl dX6_fetchOthers_21 ?_
  refine lv_iload_n hx hb dX6_fetchOthers_24 rfl (lv_at hl 1 rfl) ?_
  refine lv_iconst (v := nI 2) hx hb dX6_fetchOthers_25 rfl ?_
  refine q_cV (As := [.int (nI (k)), .int (nI (2))]) (rest := [.ref (a 8), .int (σ (nx k 1))]) ⟨hx, hb, hml, hown, hts⟩ (c_X1_nextInStripe D cy a (rdS σ (nx k 1)) kept nxt cnt T len pos ph le nu va Z (k) (2) (by omega) (by omega)) (cwV 2 hts gX6_fetchOthers_X1_nextInStripe rfl rfl rfl hd_X1_nextInStripe ⟨Nat.le_of_ble_eq_true rfl, Nat.le_of_ble_eq_true rfl⟩) hK hP 1 rfl rfl rfl hl.1 rfl (Nat.le_of_ble_eq_true rfl) ⟨Nat.zero_le _, Nat.zero_le _⟩ dX6_fetchOthers_26 ?_
  refine q_wV0 (As := [.int (nI (nx k 2))]) (rest := [.int (σ (nx k 1))]) (st1 := [.int ((rdS σ (nx k 1)) (nx k 2)), .int (σ (nx k 1))]) ⟨hx, hb, hml, hown, hts⟩ (c_X5_fetch D cy A a (rdS σ (nx k 1)) kept nxt cnt T len pos ph le nu va Z (nx k 2) (nx_lt h_0 2)) (cwV 1 hts gX6_fetchOthers_X5_fetch rfl rfl rfl hd_X5_fetch ⟨Nat.le_of_ble_eq_true rfl, Nat.le_of_ble_eq_true rfl⟩) hK hA hw 8 rfl rfl rfl hl.1 rfl rfl (Nat.le_of_ble_eq_true rfl) ⟨Nat.zero_le _, Nat.zero_le _⟩ dX6_fetchOthers_29 (fun H locs hw => ?_)
  have hw : wS D A (wX cy a (rdS (rdS σ (nx k 1)) (nx k 2)) kept nxt cnt T len pos ph le nu va ++ Z) s H locs := hw
  have hP := hw.1
  refine q_top (show ((rdS σ (nx k 1)) (nx k 2)) = σ (nx (k) (2)) from rd_lt _ _ (by have := nx_lt h_0 2; omega)) ?_
  refine lv_ixor hx hb dX6_fetchOthers_32 ?_
  exact q_iretW hx hb hr hlocks hw dX6_fetchOthers_33 (rfl)
set_option maxHeartbeats 1000000 in
set_option maxRecDepth 100000 in
theorem c_X6_canStore {l : Launch} (D : va_G) (cy : ClassId) (a : Nat → Nat) (σ kept : Nat → Int32) (nxt cnt : Nat) (T : Nat → Int32) (len pos : Nat) (ph le nu va : Int32) (Z : va_W) (q : Nat) (h_0 : q < 42) : Met l yX6_canStore wsX6_canStore (k2_rm 4 88) (gR D cy [.ref (a 0), .int (nI (q))] (wX cy a σ kept nxt cnt T len pos ph le nu va ++ Z)) (k2_QcV (.int (bI (canW σ q)))) 0 0 (fun _ => False) := by
  refine q_pure (cc := cX6_canStore) (maxL := 2) (ret := (some .boolean)) pl_X6 rfl (Nat.le_of_ble_eq_true rfl) ?_
  intro p e s m below meth c ls hx hb hr hml hts hown hlocks hP hK hl
  have hl : lv_has ls 2 [(0, .ref (a 0)), (1, .int (nI (q)))] := hl
  refine lv_aload_n hx hb dX6_canStore_0 rfl (lv_at hl 0 rfl) ?_
  refine lv_aload_n hx hb dX6_canStore_1 rfl (lv_at hl 0 rfl) ?_
  refine va_get (D := D) (ci := 6) (v := .ref (a 1)) (C := RX6) (T := TX6) (N := 4) hx hb hts (fun _ h => List.mem_cons_of_mem _ (List.mem_append_left _ (List.mem_append_left _ (List.mem_append_left _ (List.mem_append_right _ h))))) hown hK hP 0 rfl rfl 0 (by decide) (hts (.fieldLink RX6 10 "SpreadParity" "layout" "LSpreadParity$Layout;") (List.mem_of_getElem? (i := 1) rfl)) (fun _ h9 => h9) rfl dX6_canStore_2 ?_
  refine lv_iload_n hx hb dX6_canStore_5 rfl (lv_at hl 1 rfl) ?_
  refine q_cV (As := [.int (nI (q))]) (rest := [.ref (a 0)]) ⟨hx, hb, hml, hown, hts⟩ (c_X1_spotOfAddress D cy a σ kept nxt cnt T len pos ph le nu va Z (q) (by omega)) (cwV 1 hts gX6_canStore_X1_spotOfAddress rfl rfl rfl hd_X1_spotOfAddress ⟨Nat.le_of_ble_eq_true rfl, Nat.le_of_ble_eq_true rfl⟩) hK hP 1 rfl rfl rfl hl.1 rfl (Nat.le_of_ble_eq_true rfl) ⟨Nat.zero_le _, Nat.zero_le _⟩ dX6_canStore_6 ?_
  refine lv_iconst (v := -1) hx hb dX6_canStore_9 rfl ?_
  refine q_cV (As := [.int (nI (ad q)), .int (-1)]) (rest := []) ⟨hx, hb, hml, hown, hts⟩ (c_X6_isLost D cy a σ kept nxt cnt T len pos ph le nu va Z (σ) (ad q) (-1) (ad_lt (by omega)) (Wo_none _)) (cwV 2 hts gX6_canStore_X6_isLost rfl rfl rfl hd_X6_isLost ⟨Nat.le_of_ble_eq_true rfl, Nat.le_of_ble_eq_true rfl⟩) hK hP 0 rfl rfl rfl hl.1 rfl (Nat.le_of_ble_eq_true rfl) ⟨Nat.zero_le _, Nat.zero_le _⟩ dX6_canStore_10 ?_
  refine q_ifneB (tgt := 20) hx hb dX6_canStore_13 (by decide) (fun c_13 => ?_) (fun c_13 => ?_)
  · refine lv_iconst (v := nI 0) hx hb dX6_canStore_20 rfl ?_
    exact q_zret hx hb hr hlocks dX6_canStore_21 (by simp only [canW, c_13]; rfl)
  · refine lv_iconst (v := nI 1) hx hb dX6_canStore_16 rfl ?_
    refine lv_goto (tgt := 21) hx hb dX6_canStore_17 (by decide) ?_
    exact q_zret hx hb hr hlocks dX6_canStore_21 (by simp only [canW, c_13]; rfl)
set_option maxHeartbeats 1000000 in
set_option maxRecDepth 100000 in
theorem c_X6_storeData {l : Launch} (D : va_G) (cy : ClassId) (A : Nat → Prop) (a : Nat → Nat) (σ kept : Nat → Int32) (nxt cnt : Nat) (T : Nat → Int32) (len pos : Nat) (ph le nu va : Int32) (Z : va_W) (q : Nat) (v : Int32) (h_0 : q < 42) : Met l yX6_storeData wsX6_storeData (k2_rm 3 64) (gP D cy [.ref (a 0), .int (nI (q)), .int (v)] A (wX cy a σ kept nxt cnt T len pos ph le nu va ++ Z)) (gQ D A (some (.int (nI (wC σ q)))) (wX cy a (wD σ q v) kept nxt cnt T len pos ph le nu va ++ Z)) 0 0 A := by
  refine q_imp (cc := cX6_storeData) (maxL := 7) (ret := (some .int)) pl_X6 rfl (Nat.le_of_ble_eq_true rfl) ?_
  intro p e s m below meth c ls hx hb hr hml hts hown hlocks hw hK hA hl
  have hP := hw.1
  have hl : lv_has ls 7 [(0, .ref (a 0)), (1, .int (nI (q))), (2, .int (v))] := hl
  refine lv_aload_n hx hb dX6_storeData_0 rfl (lv_at hl 0 rfl) ?_
  refine va_get (D := D) (ci := 6) (v := .ref (a 1)) (C := RX6) (T := TX6) (N := 4) hx hb hts (fun _ h => List.mem_cons_of_mem _ (List.mem_append_left _ (List.mem_append_left _ (List.mem_append_left _ (List.mem_append_right _ h))))) hown hK hP 0 rfl rfl 0 (by decide) (hts (.fieldLink RX6 10 "SpreadParity" "layout" "LSpreadParity$Layout;") (List.mem_of_getElem? (i := 1) rfl)) (fun _ h9 => h9) rfl dX6_storeData_1 ?_
  refine lv_iload_n hx hb dX6_storeData_4 rfl (lv_at hl 1 rfl) ?_
  refine q_cV (As := [.int (nI (q))]) (rest := []) ⟨hx, hb, hml, hown, hts⟩ (c_X1_spotOfAddress D cy a σ kept nxt cnt T len pos ph le nu va Z (q) (by omega)) (cwV 1 hts gX6_storeData_X1_spotOfAddress rfl rfl rfl hd_X1_spotOfAddress ⟨Nat.le_of_ble_eq_true rfl, Nat.le_of_ble_eq_true rfl⟩) hK hP 1 rfl rfl rfl hl.1 rfl (Nat.le_of_ble_eq_true rfl) ⟨Nat.zero_le _, Nat.zero_le _⟩ dX6_storeData_5 ?_
  refine lv_istore_n (lv' := [(3, .int (nI (ad q))), (0, .ref (a 0)), (1, .int (nI (q))), (2, .int (v))]) hx hb dX6_storeData_8 rfl hl (by decide) rfl (fun ls hl => ?_)
  refine lv_aload_n hx hb dX6_storeData_9 rfl (lv_at hl 1 rfl) ?_
  refine va_get (D := D) (ci := 6) (v := .ref (a 1)) (C := RX6) (T := TX6) (N := 4) hx hb hts (fun _ h => List.mem_cons_of_mem _ (List.mem_append_left _ (List.mem_append_left _ (List.mem_append_left _ (List.mem_append_right _ h))))) hown hK hP 0 rfl rfl 0 (by decide) (hts (.fieldLink RX6 10 "SpreadParity" "layout" "LSpreadParity$Layout;") (List.mem_of_getElem? (i := 1) rfl)) (fun _ h9 => h9) rfl dX6_storeData_10 ?_
  refine lv_iload_n hx hb dX6_storeData_13 rfl (lv_at hl 2 rfl) ?_
  refine q_cV (As := [.int (nI (q))]) (rest := []) ⟨hx, hb, hml, hown, hts⟩ (c_X1_parityOfAddress D cy a σ kept nxt cnt T len pos ph le nu va Z (q) (by omega)) (cwV 1 hts gX6_storeData_X1_parityOfAddress rfl rfl rfl hd_X1_parityOfAddress ⟨Nat.le_of_ble_eq_true rfl, Nat.le_of_ble_eq_true rfl⟩) hK hP 1 rfl rfl rfl hl.1 rfl (Nat.le_of_ble_eq_true rfl) ⟨Nat.zero_le _, Nat.zero_le _⟩ dX6_storeData_14 ?_
  refine lv_istore (lv' := [(4, .int (nI (adP q))), (3, .int (nI (ad q))), (0, .ref (a 0)), (1, .int (nI (q))), (2, .int (v))]) hx hb dX6_storeData_17 hl (by decide) rfl (fun ls hl => ?_)
  refine lv_aload_n hx hb dX6_storeData_19 rfl (lv_at hl 2 rfl) ?_
  refine va_get (D := D) (ci := 6) (v := .ref (a 8)) (C := RX6) (T := TX6) (N := 4) hx hb hts (fun _ h => List.mem_cons_of_mem _ (List.mem_append_left _ (List.mem_append_left _ (List.mem_append_left _ (List.mem_append_right _ h))))) hown hK hP 0 rfl rfl 1 (by decide) (hts (.fieldLink RX6 19 "SpreadParity" "now" "LSpreadParity$State;") (List.mem_of_getElem? (i := 2) rfl)) (fun _ h9 => h9) rfl dX6_storeData_20 ?_
  refine lv_iload_n hx hb dX6_storeData_23 rfl (lv_at hl 1 rfl) ?_
  refine lv_iconst (v := -1) hx hb dX6_storeData_24 rfl ?_
  refine q_cV (As := [.int (nI (ad q)), .int (-1)]) (rest := []) ⟨hx, hb, hml, hown, hts⟩ (c_X5_hasUnit D cy a σ kept nxt cnt T len pos ph le nu va Z (σ) (ad q) (-1) (ad_lt h_0) (Wo_none _)) (cwV 2 hts gX6_storeData_X5_hasUnit rfl rfl rfl hd_X5_hasUnit ⟨Nat.le_of_ble_eq_true rfl, Nat.le_of_ble_eq_true rfl⟩) hK hP 8 rfl rfl rfl hl.1 rfl (Nat.le_of_ble_eq_true rfl) ⟨Nat.zero_le _, Nat.zero_le _⟩ dX6_storeData_25 ?_
  refine q_ifneB (tgt := 63) hx hb dX6_storeData_28 (by decide) (fun c_28 => ?_) (fun c_28 => ?_)
  · refine lv_aload_n hx hb dX6_storeData_63 rfl (lv_at hl 2 rfl) ?_
    refine va_get (D := D) (ci := 6) (v := .ref (a 8)) (C := RX6) (T := TX6) (N := 4) hx hb hts (fun _ h => List.mem_cons_of_mem _ (List.mem_append_left _ (List.mem_append_left _ (List.mem_append_left _ (List.mem_append_right _ h))))) hown hK hP 0 rfl rfl 1 (by decide) (hts (.fieldLink RX6 19 "SpreadParity" "now" "LSpreadParity$State;") (List.mem_of_getElem? (i := 2) rfl)) (fun _ h9 => h9) rfl dX6_storeData_64 ?_
    refine lv_iload hx hb dX6_storeData_67 (lv_at hl 0 rfl) ?_
    refine lv_iconst (v := -1) hx hb dX6_storeData_69 rfl ?_
    refine q_cV (As := [.int (nI (adP q)), .int (-1)]) (rest := []) ⟨hx, hb, hml, hown, hts⟩ (c_X5_hasUnit D cy a σ kept nxt cnt T len pos ph le nu va Z (σ) (adP q) (-1) (adP_lt h_0) (Wo_none _)) (cwV 2 hts gX6_storeData_X5_hasUnit rfl rfl rfl hd_X5_hasUnit ⟨Nat.le_of_ble_eq_true rfl, Nat.le_of_ble_eq_true rfl⟩) hK hP 8 rfl rfl rfl hl.1 rfl (Nat.le_of_ble_eq_true rfl) ⟨Nat.zero_le _, Nat.zero_le _⟩ dX6_storeData_70 ?_
    refine q_ifneB (tgt := 87) hx hb dX6_storeData_73 (by decide) (fun c_73 => ?_) (fun c_73 => ?_)
    · refine lv_aload_n hx hb dX6_storeData_87 rfl (lv_at hl 2 rfl) ?_
      refine va_get (D := D) (ci := 6) (v := .ref (a 8)) (C := RX6) (T := TX6) (N := 4) hx hb hts (fun _ h => List.mem_cons_of_mem _ (List.mem_append_left _ (List.mem_append_left _ (List.mem_append_left _ (List.mem_append_right _ h))))) hown hK hP 0 rfl rfl 1 (by decide) (hts (.fieldLink RX6 19 "SpreadParity" "now" "LSpreadParity$State;") (List.mem_of_getElem? (i := 2) rfl)) (fun _ h9 => h9) rfl dX6_storeData_88 ?_
      refine lv_iload_n hx hb dX6_storeData_91 rfl (lv_at hl 1 rfl) ?_
      refine q_wV0 (As := [.int (nI (ad q))]) (rest := []) (st1 := [.int (σ (ad q))]) ⟨hx, hb, hml, hown, hts⟩ (c_X5_fetch D cy A a σ kept nxt cnt T len pos ph le nu va Z (ad q) (ad_lt h_0)) (cwV 1 hts gX6_storeData_X5_fetch rfl rfl rfl hd_X5_fetch ⟨Nat.le_of_ble_eq_true rfl, Nat.le_of_ble_eq_true rfl⟩) hK hA hw 8 rfl rfl rfl hl.1 rfl rfl (Nat.le_of_ble_eq_true rfl) ⟨Nat.zero_le _, Nat.zero_le _⟩ dX6_storeData_92 (fun H locs hw => ?_)
      have hw : wS D A (wX cy a (rdS σ (ad q)) kept nxt cnt T len pos ph le nu va ++ Z) s H locs := hw
      have hP := hw.1
      refine lv_iload_n hx hb dX6_storeData_95 rfl (lv_at hl 4 rfl) ?_
      refine lv_ixor hx hb dX6_storeData_96 ?_
      refine lv_istore (lv' := [(5, .int ((σ (ad q)) ^^^ v)), (4, .int (nI (adP q))), (3, .int (nI (ad q))), (0, .ref (a 0)), (1, .int (nI (q))), (2, .int (v))]) hx hb dX6_storeData_97 hl (by decide) rfl (fun ls hl => ?_)
      refine lv_aload_n hx hb dX6_storeData_99 rfl (lv_at hl 3 rfl) ?_
      refine va_get (D := D) (ci := 6) (v := .ref (a 8)) (C := RX6) (T := TX6) (N := 4) hx hb hts (fun _ h => List.mem_cons_of_mem _ (List.mem_append_left _ (List.mem_append_left _ (List.mem_append_left _ (List.mem_append_right _ h))))) hown hK hP 0 rfl rfl 1 (by decide) (hts (.fieldLink RX6 19 "SpreadParity" "now" "LSpreadParity$State;") (List.mem_of_getElem? (i := 2) rfl)) (fun _ h9 => h9) rfl dX6_storeData_100 ?_
      refine lv_iload hx hb dX6_storeData_103 (lv_at hl 1 rfl) ?_
      refine q_wV0 (As := [.int (nI (adP q))]) (rest := []) (st1 := [.int ((rdS σ (ad q)) (adP q))]) ⟨hx, hb, hml, hown, hts⟩ (c_X5_fetch D cy A a (rdS σ (ad q)) kept nxt cnt T len pos ph le nu va Z (adP q) (adP_lt h_0)) (cwV 1 hts gX6_storeData_X5_fetch rfl rfl rfl hd_X5_fetch ⟨Nat.le_of_ble_eq_true rfl, Nat.le_of_ble_eq_true rfl⟩) hK hA hw 8 rfl rfl rfl hl.1 rfl rfl (Nat.le_of_ble_eq_true rfl) ⟨Nat.zero_le _, Nat.zero_le _⟩ dX6_storeData_105 (fun H locs hw => ?_)
      have hw : wS D A (wX cy a (rdS (rdS σ (ad q)) (adP q)) kept nxt cnt T len pos ph le nu va ++ Z) s H locs := hw
      have hP := hw.1
      refine q_top (show ((rdS σ (ad q)) (adP q)) = σ (adP q) from rd_lt _ _ (by have := adP_lt h_0; omega)) ?_
      refine lv_istore (lv' := [(6, .int (σ (adP q))), (5, .int ((σ (ad q)) ^^^ v)), (4, .int (nI (adP q))), (3, .int (nI (ad q))), (0, .ref (a 0)), (1, .int (nI (q))), (2, .int (v))]) hx hb dX6_storeData_108 hl (by decide) rfl (fun ls hl => ?_)
      refine lv_aload_n hx hb dX6_storeData_110 rfl (lv_at hl 4 rfl) ?_
      refine va_get (D := D) (ci := 6) (v := .ref (a 8)) (C := RX6) (T := TX6) (N := 4) hx hb hts (fun _ h => List.mem_cons_of_mem _ (List.mem_append_left _ (List.mem_append_left _ (List.mem_append_left _ (List.mem_append_right _ h))))) hown hK hP 0 rfl rfl 1 (by decide) (hts (.fieldLink RX6 19 "SpreadParity" "now" "LSpreadParity$State;") (List.mem_of_getElem? (i := 2) rfl)) (fun _ h9 => h9) rfl dX6_storeData_111 ?_
      refine lv_iload_n hx hb dX6_storeData_114 rfl (lv_at hl 3 rfl) ?_
      refine lv_iload_n hx hb dX6_storeData_115 rfl (lv_at hl 6 rfl) ?_
      refine q_wV0 (As := [.int (nI (ad q)), .int (v)]) (rest := []) (st1 := []) ⟨hx, hb, hml, hown, hts⟩ (c_X5_store D cy A a (rdS (rdS σ (ad q)) (adP q)) kept nxt cnt T len pos ph le nu va Z (ad q) (v) (ad_lt h_0)) (cwV 2 hts gX6_storeData_X5_store rfl rfl rfl hd_X5_store ⟨Nat.le_of_ble_eq_true rfl, Nat.le_of_ble_eq_true rfl⟩) hK hA hw 8 rfl rfl rfl hl.1 rfl rfl (Nat.le_of_ble_eq_true rfl) ⟨Nat.zero_le _, Nat.zero_le _⟩ dX6_storeData_116 (fun H locs hw => ?_)
      have hw : wS D A (wX cy a (wrS (rdS (rdS σ (ad q)) (adP q)) (ad q) v) kept nxt cnt T len pos ph le nu va ++ Z) s H locs := hw
      have hP := hw.1
      refine lv_aload_n hx hb dX6_storeData_119 rfl (lv_at hl 4 rfl) ?_
      refine va_get (D := D) (ci := 6) (v := .ref (a 8)) (C := RX6) (T := TX6) (N := 4) hx hb hts (fun _ h => List.mem_cons_of_mem _ (List.mem_append_left _ (List.mem_append_left _ (List.mem_append_left _ (List.mem_append_right _ h))))) hown hK hP 0 rfl rfl 1 (by decide) (hts (.fieldLink RX6 19 "SpreadParity" "now" "LSpreadParity$State;") (List.mem_of_getElem? (i := 2) rfl)) (fun _ h9 => h9) rfl dX6_storeData_120 ?_
      refine lv_iload hx hb dX6_storeData_123 (lv_at hl 2 rfl) ?_
      refine lv_iload hx hb dX6_storeData_125 (lv_at hl 0 rfl) ?_
      refine lv_iload hx hb dX6_storeData_127 (lv_at hl 1 rfl) ?_
      refine lv_ixor hx hb dX6_storeData_129 ?_
      refine q_wV0 (As := [.int (nI (adP q)), .int ((σ (adP q)) ^^^ ((σ (ad q)) ^^^ v))]) (rest := []) (st1 := []) ⟨hx, hb, hml, hown, hts⟩ (c_X5_store D cy A a (wrS (rdS (rdS σ (ad q)) (adP q)) (ad q) v) kept nxt cnt T len pos ph le nu va Z (adP q) ((σ (adP q)) ^^^ ((σ (ad q)) ^^^ v)) (adP_lt h_0)) (cwV 2 hts gX6_storeData_X5_store rfl rfl rfl hd_X5_store ⟨Nat.le_of_ble_eq_true rfl, Nat.le_of_ble_eq_true rfl⟩) hK hA hw 8 rfl rfl rfl hl.1 rfl rfl (Nat.le_of_ble_eq_true rfl) ⟨Nat.zero_le _, Nat.zero_le _⟩ dX6_storeData_130 (fun H locs hw => ?_)
      have hw : wS D A (wX cy a (wrS (wrS (rdS (rdS σ (ad q)) (adP q)) (ad q) v) (adP q) ((σ (adP q)) ^^^ ((σ (ad q)) ^^^ v))) kept nxt cnt T len pos ph le nu va ++ Z) s H locs := hw
      have hP := hw.1
      refine lv_iconst (v := nI 4) hx hb dX6_storeData_133 rfl ?_
      have e_w : wrS (wrS (rdS (rdS σ (ad q)) (adP q)) (ad q) v) (adP q) ((σ (adP q)) ^^^ ((σ (ad q)) ^^^ v)) = wD σ q v := by
        simp only [wD, c_28, c_73, if_true, if_false, Bool.false_eq_true]
      rw [e_w] at hw
      exact q_iretW hx hb hr hlocks hw dX6_storeData_134 (by simp only [wC, c_28, c_73, if_true, if_false, Bool.false_eq_true])
    · refine lv_aload_n hx hb dX6_storeData_76 rfl (lv_at hl 2 rfl) ?_
      refine va_get (D := D) (ci := 6) (v := .ref (a 8)) (C := RX6) (T := TX6) (N := 4) hx hb hts (fun _ h => List.mem_cons_of_mem _ (List.mem_append_left _ (List.mem_append_left _ (List.mem_append_left _ (List.mem_append_right _ h))))) hown hK hP 0 rfl rfl 1 (by decide) (hts (.fieldLink RX6 19 "SpreadParity" "now" "LSpreadParity$State;") (List.mem_of_getElem? (i := 2) rfl)) (fun _ h9 => h9) rfl dX6_storeData_77 ?_
      refine lv_iload_n hx hb dX6_storeData_80 rfl (lv_at hl 1 rfl) ?_
      refine lv_iload_n hx hb dX6_storeData_81 rfl (lv_at hl 4 rfl) ?_
      refine q_wV0 (As := [.int (nI (ad q)), .int (v)]) (rest := []) (st1 := []) ⟨hx, hb, hml, hown, hts⟩ (c_X5_store D cy A a σ kept nxt cnt T len pos ph le nu va Z (ad q) (v) (ad_lt h_0)) (cwV 2 hts gX6_storeData_X5_store rfl rfl rfl hd_X5_store ⟨Nat.le_of_ble_eq_true rfl, Nat.le_of_ble_eq_true rfl⟩) hK hA hw 8 rfl rfl rfl hl.1 rfl rfl (Nat.le_of_ble_eq_true rfl) ⟨Nat.zero_le _, Nat.zero_le _⟩ dX6_storeData_82 (fun H locs hw => ?_)
      have hw : wS D A (wX cy a (wrS σ (ad q) v) kept nxt cnt T len pos ph le nu va ++ Z) s H locs := hw
      have hP := hw.1
      refine lv_iconst (v := nI 1) hx hb dX6_storeData_85 rfl ?_
      have e_w : wrS σ (ad q) v = wD σ q v := by
        simp only [wD, c_28, c_73, if_true, if_false, Bool.false_eq_true]
      rw [e_w] at hw
      exact q_iretW hx hb hr hlocks hw dX6_storeData_86 (by simp only [wC, c_28, c_73, if_true, if_false, Bool.false_eq_true])
  · refine lv_aload_n hx hb dX6_storeData_31 rfl (lv_at hl 2 rfl) ?_
    refine va_get (D := D) (ci := 6) (v := .ref (a 8)) (C := RX6) (T := TX6) (N := 4) hx hb hts (fun _ h => List.mem_cons_of_mem _ (List.mem_append_left _ (List.mem_append_left _ (List.mem_append_left _ (List.mem_append_right _ h))))) hown hK hP 0 rfl rfl 1 (by decide) (hts (.fieldLink RX6 19 "SpreadParity" "now" "LSpreadParity$State;") (List.mem_of_getElem? (i := 2) rfl)) (fun _ h9 => h9) rfl dX6_storeData_32 ?_
    refine lv_aload_n hx hb dX6_storeData_35 rfl (lv_at hl 2 rfl) ?_
    refine va_get (D := D) (ci := 6) (v := .ref (a 1)) (C := RX6) (T := TX6) (N := 4) hx hb hts (fun _ h => List.mem_cons_of_mem _ (List.mem_append_left _ (List.mem_append_left _ (List.mem_append_left _ (List.mem_append_right _ h))))) hown hK hP 0 rfl rfl 0 (by decide) (hts (.fieldLink RX6 10 "SpreadParity" "layout" "LSpreadParity$Layout;") (List.mem_of_getElem? (i := 1) rfl)) (fun _ h9 => h9) rfl dX6_storeData_36 ?_
    refine lv_iload_n hx hb dX6_storeData_39 rfl (lv_at hl 3 rfl) ?_
    refine q_cV (As := [.int (nI (q))]) (rest := [.ref (a 8)]) ⟨hx, hb, hml, hown, hts⟩ (c_X1_otherDataOfAddress D cy a σ kept nxt cnt T len pos ph le nu va Z (q) (by omega)) (cwV 1 hts gX6_storeData_X1_otherDataOfAddress rfl rfl rfl hd_X1_otherDataOfAddress ⟨Nat.le_of_ble_eq_true rfl, Nat.le_of_ble_eq_true rfl⟩) hK hP 1 rfl rfl rfl hl.1 rfl (Nat.le_of_ble_eq_true rfl) ⟨Nat.zero_le _, Nat.zero_le _⟩ dX6_storeData_40 ?_
    refine q_wV0 (As := [.int (nI (adO q))]) (rest := []) (st1 := [.int (σ (adO q))]) ⟨hx, hb, hml, hown, hts⟩ (c_X5_fetch D cy A a σ kept nxt cnt T len pos ph le nu va Z (adO q) (adO_lt h_0)) (cwV 1 hts gX6_storeData_X5_fetch rfl rfl rfl hd_X5_fetch ⟨Nat.le_of_ble_eq_true rfl, Nat.le_of_ble_eq_true rfl⟩) hK hA hw 8 rfl rfl rfl hl.1 rfl rfl (Nat.le_of_ble_eq_true rfl) ⟨Nat.zero_le _, Nat.zero_le _⟩ dX6_storeData_43 (fun H locs hw => ?_)
    have hw : wS D A (wX cy a (rdS σ (adO q)) kept nxt cnt T len pos ph le nu va ++ Z) s H locs := hw
    have hP := hw.1
    refine lv_istore (lv' := [(5, .int (σ (adO q))), (4, .int (nI (adP q))), (3, .int (nI (ad q))), (0, .ref (a 0)), (1, .int (nI (q))), (2, .int (v))]) hx hb dX6_storeData_46 hl (by decide) rfl (fun ls hl => ?_)
    refine lv_aload_n hx hb dX6_storeData_48 rfl (lv_at hl 3 rfl) ?_
    refine va_get (D := D) (ci := 6) (v := .ref (a 8)) (C := RX6) (T := TX6) (N := 4) hx hb hts (fun _ h => List.mem_cons_of_mem _ (List.mem_append_left _ (List.mem_append_left _ (List.mem_append_left _ (List.mem_append_right _ h))))) hown hK hP 0 rfl rfl 1 (by decide) (hts (.fieldLink RX6 19 "SpreadParity" "now" "LSpreadParity$State;") (List.mem_of_getElem? (i := 2) rfl)) (fun _ h9 => h9) rfl dX6_storeData_49 ?_
    refine lv_iload hx hb dX6_storeData_52 (lv_at hl 1 rfl) ?_
    refine lv_iload hx hb dX6_storeData_54 (lv_at hl 0 rfl) ?_
    refine lv_iload_n hx hb dX6_storeData_56 rfl (lv_at hl 5 rfl) ?_
    refine lv_ixor hx hb dX6_storeData_57 ?_
    refine q_wV0 (As := [.int (nI (adP q)), .int ((σ (adO q)) ^^^ v)]) (rest := []) (st1 := []) ⟨hx, hb, hml, hown, hts⟩ (c_X5_store D cy A a (rdS σ (adO q)) kept nxt cnt T len pos ph le nu va Z (adP q) ((σ (adO q)) ^^^ v) (adP_lt h_0)) (cwV 2 hts gX6_storeData_X5_store rfl rfl rfl hd_X5_store ⟨Nat.le_of_ble_eq_true rfl, Nat.le_of_ble_eq_true rfl⟩) hK hA hw 8 rfl rfl rfl hl.1 rfl rfl (Nat.le_of_ble_eq_true rfl) ⟨Nat.zero_le _, Nat.zero_le _⟩ dX6_storeData_58 (fun H locs hw => ?_)
    have hw : wS D A (wX cy a (wrS (rdS σ (adO q)) (adP q) ((σ (adO q)) ^^^ v)) kept nxt cnt T len pos ph le nu va ++ Z) s H locs := hw
    have hP := hw.1
    refine lv_iconst (v := nI 2) hx hb dX6_storeData_61 rfl ?_
    have e_w : wrS (rdS σ (adO q)) (adP q) ((σ (adO q)) ^^^ v) = wD σ q v := by
      simp only [wD, c_28, if_true, if_false, Bool.false_eq_true]
    rw [e_w] at hw
    exact q_iretW hx hb hr hlocks hw dX6_storeData_62 (by simp only [wC, c_28, if_true, if_false, Bool.false_eq_true])
set_option maxHeartbeats 1000000 in
set_option maxRecDepth 100000 in
theorem c_X6_canDrop {l : Launch} (D : va_G) (cy : ClassId) (a : Nat → Nat) (σ kept : Nat → Int32) (nxt cnt : Nat) (T : Nat → Int32) (len pos : Nat) (ph le nu va : Int32) (Z : va_W) (d : Nat) (h_0 : d < 7) : Met l yX6_canDrop wsX6_canDrop (k2_rm 2 42) (gR D cy [.ref (a 0), .int (nI (d))] (wX cy a σ kept nxt cnt T len pos ph le nu va ++ Z)) (k2_QcV (.int (bI (decide (σ (63 + d) ≠ -1))))) 0 0 (fun _ => False) := by
  refine q_pure (cc := cX6_canDrop) (maxL := 2) (ret := (some .boolean)) pl_X6 rfl (Nat.le_of_ble_eq_true rfl) ?_
  intro p e s m below meth c ls hx hb hr hml hts hown hlocks hP hK hl
  have hl : lv_has ls 2 [(0, .ref (a 0)), (1, .int (nI (d)))] := hl
  refine lv_aload_n hx hb dX6_canDrop_0 rfl (lv_at hl 0 rfl) ?_
  refine va_get (D := D) (ci := 6) (v := .ref (a 8)) (C := RX6) (T := TX6) (N := 4) hx hb hts (fun _ h => List.mem_cons_of_mem _ (List.mem_append_left _ (List.mem_append_left _ (List.mem_append_right _ h)))) hown hK hP 0 rfl rfl 1 (by decide) (hts (.fieldLink RX6 19 "SpreadParity" "now" "LSpreadParity$State;") (List.mem_of_getElem? (i := 1) rfl)) (fun _ h9 => h9) rfl dX6_canDrop_1 ?_
  refine lv_iload_n hx hb dX6_canDrop_4 rfl (lv_at hl 1 rfl) ?_
  refine q_cV (As := [.int (nI (d))]) (rest := []) ⟨hx, hb, hml, hown, hts⟩ (c_X5_progressOf D cy a σ kept nxt cnt T len pos ph le nu va Z (d) (by omega)) (cwV 1 hts gX6_canDrop_X5_progressOf rfl rfl rfl hd_X5_progressOf ⟨Nat.le_of_ble_eq_true rfl, Nat.le_of_ble_eq_true rfl⟩) hK hP 8 rfl rfl rfl hl.1 rfl (Nat.le_of_ble_eq_true rfl) ⟨Nat.zero_le _, Nat.zero_le _⟩ dX6_canDrop_5 ?_
  refine lv_iconst (v := -1) hx hb dX6_canDrop_8 rfl ?_
  refine lv_icmp_eq (tgt := 16) hx hb dX6_canDrop_9 (by decide) (fun (c_9 : (σ (63 + d)) = (-1)) => ?_) (fun (c_9 : ¬ (σ (63 + d)) = (-1)) => ?_)
  · refine lv_iconst (v := nI 0) hx hb dX6_canDrop_16 rfl ?_
    exact q_zret hx hb hr hlocks dX6_canDrop_17 (by simp [c_9, bI, nI])
  · refine lv_iconst (v := nI 1) hx hb dX6_canDrop_12 rfl ?_
    refine lv_goto (tgt := 17) hx hb dX6_canDrop_13 (by decide) ?_
    exact q_zret hx hb hr hlocks dX6_canDrop_17 (by simp [c_9, bI, nI])
set_option maxHeartbeats 1000000 in
set_option maxRecDepth 100000 in
theorem c_X6_canReplace {l : Launch} (D : va_G) (cy : ClassId) (a : Nat → Nat) (σ kept : Nat → Int32) (nxt cnt : Nat) (T : Nat → Int32) (len pos : Nat) (ph le nu va : Int32) (Z : va_W) (d : Nat) (h_0 : d < 7) : Met l yX6_canReplace wsX6_canReplace (k2_rm 2 42) (gR D cy [.ref (a 0), .int (nI (d))] (wX cy a σ kept nxt cnt T len pos ph le nu va ++ Z)) (k2_QcV (.int (bI (decide (σ (63 + d) = -1) && decide (0 < σ 84))))) 0 0 (fun _ => False) := by
  refine q_pure (cc := cX6_canReplace) (maxL := 2) (ret := (some .boolean)) pl_X6 rfl (Nat.le_of_ble_eq_true rfl) ?_
  intro p e s m below meth c ls hx hb hr hml hts hown hlocks hP hK hl
  have hl : lv_has ls 2 [(0, .ref (a 0)), (1, .int (nI (d)))] := hl
  refine lv_aload_n hx hb dX6_canReplace_0 rfl (lv_at hl 0 rfl) ?_
  refine va_get (D := D) (ci := 6) (v := .ref (a 8)) (C := RX6) (T := TX6) (N := 4) hx hb hts (fun _ h => List.mem_cons_of_mem _ (List.mem_append_left _ (List.mem_append_left _ (List.mem_append_right _ h)))) hown hK hP 0 rfl rfl 1 (by decide) (hts (.fieldLink RX6 19 "SpreadParity" "now" "LSpreadParity$State;") (List.mem_of_getElem? (i := 1) rfl)) (fun _ h9 => h9) rfl dX6_canReplace_1 ?_
  refine lv_iload_n hx hb dX6_canReplace_4 rfl (lv_at hl 1 rfl) ?_
  refine q_cV (As := [.int (nI (d))]) (rest := []) ⟨hx, hb, hml, hown, hts⟩ (c_X5_progressOf D cy a σ kept nxt cnt T len pos ph le nu va Z (d) (by omega)) (cwV 1 hts gX6_canReplace_X5_progressOf rfl rfl rfl hd_X5_progressOf ⟨Nat.le_of_ble_eq_true rfl, Nat.le_of_ble_eq_true rfl⟩) hK hP 8 rfl rfl rfl hl.1 rfl (Nat.le_of_ble_eq_true rfl) ⟨Nat.zero_le _, Nat.zero_le _⟩ dX6_canReplace_5 ?_
  refine lv_iconst (v := -1) hx hb dX6_canReplace_8 rfl ?_
  refine lv_icmp_ne (tgt := 26) hx hb dX6_canReplace_9 (by decide) (fun (c_9 : ¬ (σ (63 + d)) = (-1)) => ?_) (fun (c_9 : (σ (63 + d)) = (-1)) => ?_)
  · refine lv_iconst (v := nI 0) hx hb dX6_canReplace_26 rfl ?_
    exact q_zret hx hb hr hlocks dX6_canReplace_27 (by simp [c_9, bI, nI])
  · refine lv_aload_n hx hb dX6_canReplace_12 rfl (lv_at hl 0 rfl) ?_
    refine va_get (D := D) (ci := 6) (v := .ref (a 8)) (C := RX6) (T := TX6) (N := 4) hx hb hts (fun _ h => List.mem_cons_of_mem _ (List.mem_append_left _ (List.mem_append_left _ (List.mem_append_right _ h)))) hown hK hP 0 rfl rfl 1 (by decide) (hts (.fieldLink RX6 19 "SpreadParity" "now" "LSpreadParity$State;") (List.mem_of_getElem? (i := 1) rfl)) (fun _ h9 => h9) rfl dX6_canReplace_13 ?_
    refine q_cV (As := []) (rest := []) ⟨hx, hb, hml, hown, hts⟩ (c_X5_spareDiscs D cy a σ kept nxt cnt T len pos ph le nu va Z ) (cwV 0 hts gX6_canReplace_X5_spareDiscs rfl rfl rfl hd_X5_spareDiscs ⟨Nat.le_of_ble_eq_true rfl, Nat.le_of_ble_eq_true rfl⟩) hK hP 8 rfl rfl rfl hl.1 rfl (Nat.le_of_ble_eq_true rfl) ⟨Nat.zero_le _, Nat.zero_le _⟩ dX6_canReplace_16 ?_
    refine lv_if_le (tgt := 26) hx hb dX6_canReplace_19 (by decide) (fun (c_19 : (σ 84) ≤ 0) => ?_) (fun (c_19 : ¬ (σ 84) ≤ 0) => ?_)
    · refine lv_iconst (v := nI 0) hx hb dX6_canReplace_26 rfl ?_
      exact q_zret hx hb hr hlocks dX6_canReplace_27 (by simp [c_9, bI, nI, Int32.not_lt.mpr c_19])
    · refine lv_iconst (v := nI 1) hx hb dX6_canReplace_22 rfl ?_
      refine lv_goto (tgt := 27) hx hb dX6_canReplace_23 (by decide) ?_
      exact q_zret hx hb hr hlocks dX6_canReplace_27 (by simp [c_9, bI, nI, Int32.not_le.mp c_19])
set_option maxHeartbeats 1000000 in
set_option maxRecDepth 100000 in
theorem c_X6_leastBeingMended {l : Launch} (D : va_G) (cy : ClassId) (a : Nat → Nat) (σ kept : Nat → Int32) (nxt cnt : Nat) (T : Nat → Int32) (len pos : Nat) (ph le nu va : Int32) (Z : va_W) : Met l yX6_leastBeingMended wsX6_leastBeingMended (k2_rm 2 42) (gR D cy [.ref (a 0)] (wX cy a σ kept nxt cnt T len pos ph le nu va ++ Z)) (k2_QcV (.int (if lm σ < 7 then nI (lm σ) else -1))) 0 0 (fun _ => False) := by
  refine q_pure (cc := cX6_leastBeingMended) (maxL := 3) (ret := (some .int)) pl_X6 rfl (Nat.le_of_ble_eq_true rfl) ?_
  intro p e s m below meth c ls hx hb hr hml hts hown hlocks hP hK hl
  have hl : lv_has ls 3 [(0, .ref (a 0))] := hl
  refine lv_iconst (v := nI 0) hx hb dX6_leastBeingMended_0 rfl ?_
  refine lv_istore_n (lv' := [(1, .int (nI (0))), (0, .ref (a 0))]) hx hb dX6_leastBeingMended_1 rfl hl (by decide) rfl (fun ls hl => ?_)
  have lp2 : ∀ (j_ i : Nat), i + j_ = 7 → lm σ = lmA σ i (7 - i) → ∀ (ls : Array Slot), lv_has ls 3 [(0, .ref (a 0)), (1, .int (nI (i)))] → W p l e (k2_rm 2 42) s m ([.ref (a 0)] : List Value).toArray below meth c s.heap [] 0 0 (MQ below (k2_QcV (.int (if lm σ < 7 then nI (lm σ) else -1))) ([.ref (a 0)] : List Value).toArray s 0 0 (fun _ => False)) (F0 m 2 ls []) := by
    intro j_
    induction j_ with
    | zero =>
      intro i hn_i hy0 ls hl
      refine lv_iload_n hx hb dX6_leastBeingMended_2 rfl (lv_at hl 1 rfl) ?_
      refine lv_bipush (v := nI 7) hx hb dX6_leastBeingMended_3 rfl ?_
      refine q_geN (tgt := 36) hx hb dX6_leastBeingMended_5 (by decide) (by omega) (by omega) (fun c_5 => ?_) (fun c_5 => absurd c_5 (by omega))
      refine lv_iconst (v := -1) hx hb dX6_leastBeingMended_36 rfl ?_
      exact q_iret hx hb hr hlocks dX6_leastBeingMended_37 (by have e9 : i = 7 := (by omega); subst e9; have e8 : lm σ = 7 := (by rw [hy0]; rfl); rw [e8]; rfl)
    | succ j_ ih_i =>
      intro i hn_i hy0 ls hl
      refine lv_iload_n hx hb dX6_leastBeingMended_2 rfl (lv_at hl 1 rfl) ?_
      refine lv_bipush (v := nI 7) hx hb dX6_leastBeingMended_3 rfl ?_
      refine q_geN (tgt := 36) hx hb dX6_leastBeingMended_5 (by decide) (by omega) (by omega) (fun c_5 => absurd c_5 (by omega)) (fun c_5 => ?_)
      refine lv_aload_n hx hb dX6_leastBeingMended_8 rfl (lv_at hl 0 rfl) ?_
      refine va_get (D := D) (ci := 6) (v := .ref (a 8)) (C := RX6) (T := TX6) (N := 4) hx hb hts (fun _ h => List.mem_cons_of_mem _ (List.mem_append_left _ (List.mem_append_left _ (List.mem_append_right _ h)))) hown hK hP 0 rfl rfl 1 (by decide) (hts (.fieldLink RX6 19 "SpreadParity" "now" "LSpreadParity$State;") (List.mem_of_getElem? (i := 1) rfl)) (fun _ h9 => h9) rfl dX6_leastBeingMended_9 ?_
      refine lv_iload_n hx hb dX6_leastBeingMended_12 rfl (lv_at hl 1 rfl) ?_
      refine q_cV (As := [.int (nI (i))]) (rest := []) ⟨hx, hb, hml, hown, hts⟩ (c_X5_progressOf D cy a σ kept nxt cnt T len pos ph le nu va Z (i) (by omega)) (cwV 1 hts gX6_leastBeingMended_X5_progressOf rfl rfl rfl hd_X5_progressOf ⟨Nat.le_of_ble_eq_true rfl, Nat.le_of_ble_eq_true rfl⟩) hK hP 8 rfl rfl rfl hl.1 rfl (Nat.le_of_ble_eq_true rfl) ⟨Nat.zero_le _, Nat.zero_le _⟩ dX6_leastBeingMended_13 ?_
      refine lv_istore_n (lv' := [(2, .int (σ (63 + i))), (0, .ref (a 0)), (1, .int (nI (i)))]) hx hb dX6_leastBeingMended_16 rfl hl (by decide) rfl (fun ls hl => ?_)
      refine lv_iload_n hx hb dX6_leastBeingMended_17 rfl (lv_at hl 0 rfl) ?_
      refine lv_iconst (v := -1) hx hb dX6_leastBeingMended_18 rfl ?_
      refine lv_icmp_eq (tgt := 30) hx hb dX6_leastBeingMended_19 (by decide) (fun (c_19 : (σ (63 + i)) = (-1)) => ?_) (fun (c_19 : ¬ (σ (63 + i)) = (-1)) => ?_)
      · refine lv_iinc (v := nI (i + 1)) (lv' := [(1, .int (nI (i + 1))), (2, .int (σ (63 + i))), (0, .ref (a 0))]) hx hb dX6_leastBeingMended_30 hl (k := 2) rfl (show nI (i) + nI 1 = nI (i + 1) from nI_add _ _) (by decide) rfl (fun ls hl => ?_)
        refine lv_goto (tgt := 2) hx hb dX6_leastBeingMended_33 (by decide) ?_
        exact ih_i (i + 1) (by omega) (by rw [hy0, show 7 - i = (7 - (i + 1)) + 1 by omega]; simp only [lmA]; rw [if_neg (by simp [isM, c_19])]) _ (lv_sub hl [2, 0] rfl)
      · refine lv_iload_n hx hb dX6_leastBeingMended_22 rfl (lv_at hl 0 rfl) ?_
        refine lv_bipush (v := nI 9) hx hb dX6_leastBeingMended_23 rfl ?_
        refine lv_icmp_eq (tgt := 30) hx hb dX6_leastBeingMended_25 (by decide) (fun (c_25 : (σ (63 + i)) = (9)) => ?_) (fun (c_25 : ¬ (σ (63 + i)) = (9)) => ?_)
        · refine lv_iinc (v := nI (i + 1)) (lv' := [(1, .int (nI (i + 1))), (2, .int (σ (63 + i))), (0, .ref (a 0))]) hx hb dX6_leastBeingMended_30 hl (k := 2) rfl (show nI (i) + nI 1 = nI (i + 1) from nI_add _ _) (by decide) rfl (fun ls hl => ?_)
          refine lv_goto (tgt := 2) hx hb dX6_leastBeingMended_33 (by decide) ?_
          exact ih_i (i + 1) (by omega) (by rw [hy0, show 7 - i = (7 - (i + 1)) + 1 by omega]; simp only [lmA]; rw [if_neg (by simp [isM, c_19, c_25])]) _ (lv_sub hl [2, 0] rfl)
        · refine lv_iload_n hx hb dX6_leastBeingMended_28 rfl (lv_at hl 2 rfl) ?_
          exact q_iret hx hb hr hlocks dX6_leastBeingMended_29 (by have e9 : lm σ = i := by { rw [hy0, show 7 - i = (7 - (i + 1)) + 1 by omega]; simp only [lmA]; rw [if_pos (by simp [isM, c_19, c_25])] }; rw [e9, if_pos (by omega)])
  exact lp2 (7 - 0) 0 (by omega) (rfl) _ (lv_sub hl [1, 0] rfl)
set_option maxHeartbeats 1000000 in
set_option maxRecDepth 100000 in
theorem c_X6_makeStep {l : Launch} (D : va_G) (cy : ClassId) (A : Nat → Prop) (a : Nat → Nat) (σ kept : Nat → Int32) (nxt cnt : Nat) (T : Nat → Int32) (len pos : Nat) (ph le nu va : Int32) (Z : va_W) (g : Nat) (d : Nat) (h_0 : d < 7) (h_1 : σ (63 + d) = nI g) (h_2 : g < 9) : Met l yX6_makeStep wsX6_makeStep (k2_rm 3 66) (gP D cy [.ref (a 0), .int (nI (d))] A (wX cy a σ kept nxt cnt T len pos ph le nu va ++ Z)) (gQ D A (none) (wX cy a (mendS σ d) kept nxt cnt T len pos ph le nu va ++ Z)) 0 0 A := by
  refine q_imp (cc := cX6_makeStep) (maxL := 3) (ret := none) pl_X6 rfl (Nat.le_of_ble_eq_true rfl) ?_
  intro p e s m below meth c ls hx hb hr hml hts hown hlocks hw hK hA hl
  have hP := hw.1
  have hl : lv_has ls 3 [(0, .ref (a 0)), (1, .int (nI (d)))] := hl
  refine lv_iload_n hx hb dX6_makeStep_0 rfl (lv_at hl 1 rfl) ?_
  refine lv_aload_n hx hb dX6_makeStep_1 rfl (lv_at hl 0 rfl) ?_
  refine va_get (D := D) (ci := 6) (v := .ref (a 8)) (C := RX6) (T := TX6) (N := 4) hx hb hts (fun _ h => List.mem_cons_of_mem _ (List.mem_append_left _ (List.mem_append_left _ (List.mem_append_left _ (List.mem_append_right _ h))))) hown hK hP 0 rfl rfl 1 (by decide) (hts (.fieldLink RX6 19 "SpreadParity" "now" "LSpreadParity$State;") (List.mem_of_getElem? (i := 1) rfl)) (fun _ h9 => h9) rfl dX6_makeStep_2 ?_
  refine lv_iload_n hx hb dX6_makeStep_5 rfl (lv_at hl 1 rfl) ?_
  refine q_cV (As := [.int (nI (d))]) (rest := [.int (nI (d))]) ⟨hx, hb, hml, hown, hts⟩ (c_X5_progressOf D cy a σ kept nxt cnt T len pos ph le nu va Z (d) (by omega)) (cwV 1 hts gX6_makeStep_X5_progressOf rfl rfl rfl hd_X5_progressOf ⟨Nat.le_of_ble_eq_true rfl, Nat.le_of_ble_eq_true rfl⟩) hK hP 8 rfl rfl rfl hl.1 rfl (Nat.le_of_ble_eq_true rfl) ⟨Nat.zero_le _, Nat.zero_le _⟩ dX6_makeStep_6 ?_
  refine q_top (show (σ (63 + d)) = nI (g) from h_1) ?_
  refine q_cS (As := [.int (nI (d)), .int (nI (g))]) (rest := []) (w := []) ⟨hx, hb, hml, hown, hts⟩ (c_X1_spotAt D cy (d) (g)) (va_cwS 2 hts gX6_makeStep_X1_spotAt rfl rfl rfl hd_X1_spotAt ⟨Nat.le_of_ble_eq_true rfl, Nat.le_of_ble_eq_true rfl⟩) hK q_Pnil rfl hl.1 rfl (Nat.le_of_ble_eq_true rfl) ⟨Nat.zero_le _, Nat.zero_le _⟩ dX6_makeStep_9 ?_
  refine lv_istore_n (lv' := [(2, .int (nI (9 * d + g))), (0, .ref (a 0)), (1, .int (nI (d)))]) hx hb dX6_makeStep_12 rfl hl (by decide) rfl (fun ls hl => ?_)
  refine lv_aload_n hx hb dX6_makeStep_13 rfl (lv_at hl 1 rfl) ?_
  refine lv_iload_n hx hb dX6_makeStep_14 rfl (lv_at hl 0 rfl) ?_
  refine lv_iconst (v := -1) hx hb dX6_makeStep_15 rfl ?_
  refine q_cV (As := [.int (nI (9 * d + g)), .int (-1)]) (rest := []) ⟨hx, hb, hml, hown, hts⟩ (c_X6_canBeFound D cy a σ kept nxt cnt T len pos ph le nu va Z (σ) (9 * d + g) (-1) (by omega) (Wo_none _)) (cwV 2 hts gX6_makeStep_X6_canBeFound rfl rfl rfl hd_X6_canBeFound ⟨Nat.le_of_ble_eq_true rfl, Nat.le_of_ble_eq_true rfl⟩) hK hP 0 rfl rfl rfl hl.1 rfl (Nat.le_of_ble_eq_true rfl) ⟨Nat.zero_le _, Nat.zero_le _⟩ dX6_makeStep_16 ?_
  refine q_ifeqB (tgt := 38) hx hb dX6_makeStep_19 (by decide) (fun c_19 => ?_) (fun c_19 => ?_)
  · refine lv_aload_n hx hb dX6_makeStep_38 rfl (lv_at hl 1 rfl) ?_
    refine va_get (D := D) (ci := 6) (v := .ref (a 8)) (C := RX6) (T := TX6) (N := 4) hx hb hts (fun _ h => List.mem_cons_of_mem _ (List.mem_append_left _ (List.mem_append_left _ (List.mem_append_left _ (List.mem_append_right _ h))))) hown hK hP 0 rfl rfl 1 (by decide) (hts (.fieldLink RX6 19 "SpreadParity" "now" "LSpreadParity$State;") (List.mem_of_getElem? (i := 1) rfl)) (fun _ h9 => h9) rfl dX6_makeStep_39 ?_
    refine q_wV0 (As := []) (rest := []) (st1 := []) ⟨hx, hb, hml, hown, hts⟩ (c_X5_addLoss D cy A a σ kept nxt cnt T len pos ph le nu va Z ) (cwV 0 hts gX6_makeStep_X5_addLoss rfl rfl rfl hd_X5_addLoss ⟨Nat.le_of_ble_eq_true rfl, Nat.le_of_ble_eq_true rfl⟩) hK hA hw 8 rfl rfl rfl hl.1 rfl rfl (Nat.le_of_ble_eq_true rfl) ⟨Nat.zero_le _, Nat.zero_le _⟩ dX6_makeStep_42 (fun H locs hw => ?_)
    have hw : wS D A (wX cy a (upd σ 85 (σ 85 + 1)) kept nxt cnt T len pos ph le nu va ++ Z) s H locs := hw
    have hP := hw.1
    refine lv_aload_n hx hb dX6_makeStep_45 rfl (lv_at hl 1 rfl) ?_
    refine va_get (D := D) (ci := 6) (v := .ref (a 8)) (C := RX6) (T := TX6) (N := 4) hx hb hts (fun _ h => List.mem_cons_of_mem _ (List.mem_append_left _ (List.mem_append_left _ (List.mem_append_left _ (List.mem_append_right _ h))))) hown hK hP 0 rfl rfl 1 (by decide) (hts (.fieldLink RX6 19 "SpreadParity" "now" "LSpreadParity$State;") (List.mem_of_getElem? (i := 1) rfl)) (fun _ h9 => h9) rfl dX6_makeStep_46 ?_
    refine lv_iload_n hx hb dX6_makeStep_49 rfl (lv_at hl 2 rfl) ?_
    refine q_wV0 (As := [.int (nI (d))]) (rest := []) (st1 := []) ⟨hx, hb, hml, hown, hts⟩ (c_X5_advance D cy A a (upd σ 85 (σ 85 + 1)) kept nxt cnt T len pos ph le nu va Z (d) (by omega)) (cwV 1 hts gX6_makeStep_X5_advance rfl rfl rfl hd_X5_advance ⟨Nat.le_of_ble_eq_true rfl, Nat.le_of_ble_eq_true rfl⟩) hK hA hw 8 rfl rfl rfl hl.1 rfl rfl (Nat.le_of_ble_eq_true rfl) ⟨Nat.zero_le _, Nat.zero_le _⟩ dX6_makeStep_50 (fun H locs hw => ?_)
    have hw : wS D A (wX cy a (upd (upd σ 85 (σ 85 + 1)) (63 + d) ((upd σ 85 (σ 85 + 1)) (63 + d) + 1)) kept nxt cnt T len pos ph le nu va ++ Z) s H locs := hw
    have hP := hw.1
    have e_w : upd (upd σ 85 (σ 85 + 1)) (63 + d) ((upd σ 85 (σ 85 + 1)) (63 + d) + 1) = mendS σ d := by
      simp only [mendS, mendA, mkS, h_1, nI_clamp (show g < 2 ^ 31 by omega), c_19, if_true, if_false, Bool.false_eq_true]
    rw [e_w] at hw
    exact q_vretW hx hb hr hlocks hw dX6_makeStep_53
  · refine lv_aload_n hx hb dX6_makeStep_22 rfl (lv_at hl 1 rfl) ?_
    refine va_get (D := D) (ci := 6) (v := .ref (a 8)) (C := RX6) (T := TX6) (N := 4) hx hb hts (fun _ h => List.mem_cons_of_mem _ (List.mem_append_left _ (List.mem_append_left _ (List.mem_append_left _ (List.mem_append_right _ h))))) hown hK hP 0 rfl rfl 1 (by decide) (hts (.fieldLink RX6 19 "SpreadParity" "now" "LSpreadParity$State;") (List.mem_of_getElem? (i := 1) rfl)) (fun _ h9 => h9) rfl dX6_makeStep_23 ?_
    refine lv_iload_n hx hb dX6_makeStep_26 rfl (lv_at hl 0 rfl) ?_
    refine lv_aload_n hx hb dX6_makeStep_27 rfl (lv_at hl 1 rfl) ?_
    refine lv_iload_n hx hb dX6_makeStep_28 rfl (lv_at hl 0 rfl) ?_
    refine q_wV0 (As := [.int (nI (9 * d + g))]) (rest := [.int (nI (9 * d + g)), .ref (a 8)]) (st1 := [.int (fd σ (9 * d + g)), .int (nI (9 * d + g)), .ref (a 8)]) ⟨hx, hb, hml, hown, hts⟩ (c_X6_fetchOthers D cy A a σ kept nxt cnt T len pos ph le nu va Z (9 * d + g) (by omega)) (cwV 1 hts gX6_makeStep_X6_fetchOthers rfl rfl rfl hd_X6_fetchOthers ⟨Nat.le_of_ble_eq_true rfl, Nat.le_of_ble_eq_true rfl⟩) hK hA hw 0 rfl rfl rfl hl.1 rfl rfl (Nat.le_of_ble_eq_true rfl) ⟨Nat.zero_le _, Nat.zero_le _⟩ dX6_makeStep_29 (fun H locs hw => ?_)
    have hw : wS D A (wX cy a (f2S σ (9 * d + g)) kept nxt cnt T len pos ph le nu va ++ Z) s H locs := hw
    have hP := hw.1
    refine q_wV0 (As := [.int (nI (9 * d + g)), .int (fd σ (9 * d + g))]) (rest := []) (st1 := []) ⟨hx, hb, hml, hown, hts⟩ (c_X5_store D cy A a (f2S σ (9 * d + g)) kept nxt cnt T len pos ph le nu va Z (9 * d + g) (fd σ (9 * d + g)) (by omega)) (cwV 2 hts gX6_makeStep_X5_store rfl rfl rfl hd_X5_store ⟨Nat.le_of_ble_eq_true rfl, Nat.le_of_ble_eq_true rfl⟩) hK hA hw 8 rfl rfl rfl hl.1 rfl rfl (Nat.le_of_ble_eq_true rfl) ⟨Nat.zero_le _, Nat.zero_le _⟩ dX6_makeStep_32 (fun H locs hw => ?_)
    have hw : wS D A (wX cy a (wrS (f2S σ (9 * d + g)) (9 * d + g) (fd σ (9 * d + g))) kept nxt cnt T len pos ph le nu va ++ Z) s H locs := hw
    have hP := hw.1
    refine lv_goto (tgt := 45) hx hb dX6_makeStep_35 (by decide) ?_
    refine lv_aload_n hx hb dX6_makeStep_45 rfl (lv_at hl 1 rfl) ?_
    refine va_get (D := D) (ci := 6) (v := .ref (a 8)) (C := RX6) (T := TX6) (N := 4) hx hb hts (fun _ h => List.mem_cons_of_mem _ (List.mem_append_left _ (List.mem_append_left _ (List.mem_append_left _ (List.mem_append_right _ h))))) hown hK hP 0 rfl rfl 1 (by decide) (hts (.fieldLink RX6 19 "SpreadParity" "now" "LSpreadParity$State;") (List.mem_of_getElem? (i := 1) rfl)) (fun _ h9 => h9) rfl dX6_makeStep_46 ?_
    refine lv_iload_n hx hb dX6_makeStep_49 rfl (lv_at hl 2 rfl) ?_
    refine q_wV0 (As := [.int (nI (d))]) (rest := []) (st1 := []) ⟨hx, hb, hml, hown, hts⟩ (c_X5_advance D cy A a (wrS (f2S σ (9 * d + g)) (9 * d + g) (fd σ (9 * d + g))) kept nxt cnt T len pos ph le nu va Z (d) (by omega)) (cwV 1 hts gX6_makeStep_X5_advance rfl rfl rfl hd_X5_advance ⟨Nat.le_of_ble_eq_true rfl, Nat.le_of_ble_eq_true rfl⟩) hK hA hw 8 rfl rfl rfl hl.1 rfl rfl (Nat.le_of_ble_eq_true rfl) ⟨Nat.zero_le _, Nat.zero_le _⟩ dX6_makeStep_50 (fun H locs hw => ?_)
    have hw : wS D A (wX cy a (upd (wrS (f2S σ (9 * d + g)) (9 * d + g) (fd σ (9 * d + g))) (63 + d) ((wrS (f2S σ (9 * d + g)) (9 * d + g) (fd σ (9 * d + g))) (63 + d) + 1)) kept nxt cnt T len pos ph le nu va ++ Z) s H locs := hw
    have hP := hw.1
    have e_w : upd (wrS (f2S σ (9 * d + g)) (9 * d + g) (fd σ (9 * d + g))) (63 + d) ((wrS (f2S σ (9 * d + g)) (9 * d + g) (fd σ (9 * d + g))) (63 + d) + 1) = mendS σ d := by
      simp only [mendS, mendA, mkS, h_1, nI_clamp (show g < 2 ^ 31 by omega), c_19, if_true, if_false, Bool.false_eq_true]
    rw [e_w] at hw
    exact q_vretW hx hb hr hlocks hw dX6_makeStep_53
set_option maxHeartbeats 1000000 in
set_option maxRecDepth 100000 in
theorem c_X6_makeSteps {l : Launch} (D : va_G) (cy : ClassId) (A : Nat → Prop) (a : Nat → Nat) (σ kept : Nat → Int32) (nxt cnt : Nat) (T : Nat → Int32) (len pos : Nat) (ph le nu va : Int32) (Z : va_W) (n : Nat) (h_0 : n < 2 ^ 31) (h_1 : Val σ) : Met l yX6_makeSteps wsX6_makeSteps (k2_rm 4 88) (gP D cy [.ref (a 0), .int (nI (n))] A (wX cy a σ kept nxt cnt T len pos ph le nu va ++ Z)) (gQ D A (some (.int (nI ((mnS n σ).2)))) (wX cy a ((mnS n σ).1) kept nxt cnt T len pos ph le nu va ++ Z)) 0 0 A := by
  refine q_imp (cc := cX6_makeSteps) (maxL := 4) (ret := (some .int)) pl_X6 rfl (Nat.le_of_ble_eq_true rfl) ?_
  intro p e s m below meth c ls hx hb hr hml hts hown hlocks hw hK hA hl
  have hP := hw.1
  have hl : lv_has ls 4 [(0, .ref (a 0)), (1, .int (nI (n)))] := hl
  refine lv_iconst (v := nI 0) hx hb dX6_makeSteps_0 rfl ?_
  refine lv_istore_n (lv' := [(2, .int (nI (0))), (0, .ref (a 0)), (1, .int (nI (n)))]) hx hb dX6_makeSteps_1 rfl hl (by decide) rfl (fun ls hl => ?_)
  have lp2 : ∀ (j_ i : Nat), i + j_ = n → ∀ (τ : Nat → Int32), Val τ → mnS n σ = ((mnS j_ τ).1, (mnS j_ τ).2 + i) → ∀ (H : Heap) (locs : List Loc) (ls : Array Slot), wS D A (wX cy a τ kept nxt cnt T len pos ph le nu va ++ Z) s H locs → lv_has ls 4 [(0, .ref (a 0)), (1, .int (nI (n))), (2, .int (nI (i)))] → W p l e (k2_rm 4 88) s m ([.ref (a 0), .int (nI (n))] : List Value).toArray below meth c H locs 0 0 (MQ below (gQ D A (some (.int (nI ((mnS n σ).2)))) (wX cy a ((mnS n σ).1) kept nxt cnt T len pos ph le nu va ++ Z)) ([.ref (a 0), .int (nI (n))] : List Value).toArray s 0 0 A) (F0 m 2 ls []) := by
    intro j_
    induction j_ with
    | zero =>
      intro i hn_i τ hy0 hy1 H locs ls hw hl
      have hP := hw.1
      refine lv_iload_n hx hb dX6_makeSteps_2 rfl (lv_at hl 2 rfl) ?_
      refine lv_iload_n hx hb dX6_makeSteps_3 rfl (lv_at hl 1 rfl) ?_
      refine q_geN (tgt := 30) hx hb dX6_makeSteps_4 (by decide) (by omega) (by omega) (fun c_4 => ?_) (fun c_4 => absurd c_4 (by omega))
      refine lv_iload_n hx hb dX6_makeSteps_30 rfl (lv_at hl 1 rfl) ?_
      have e_w : mnS n σ = (τ, i) := by rw [hy1]; simp only [mnS, Nat.zero_add]
      rw [show τ = (mnS n σ).1 by rw [e_w]] at hw
      exact q_iretW hx hb hr hlocks hw dX6_makeSteps_31 (by rw [e_w]; exact congrArg nI (by omega))
    | succ j_ ih_i =>
      intro i hn_i τ hy0 hy1 H locs ls hw hl
      have hP := hw.1
      refine lv_iload_n hx hb dX6_makeSteps_2 rfl (lv_at hl 2 rfl) ?_
      refine lv_iload_n hx hb dX6_makeSteps_3 rfl (lv_at hl 1 rfl) ?_
      refine q_geN (tgt := 30) hx hb dX6_makeSteps_4 (by decide) (by omega) (by omega) (fun c_4 => absurd c_4 (by omega)) (fun c_4 => ?_)
      refine lv_aload_n hx hb dX6_makeSteps_7 rfl (lv_at hl 0 rfl) ?_
      refine q_cV (As := []) (rest := []) ⟨hx, hb, hml, hown, hts⟩ (c_X6_leastBeingMended D cy a τ kept nxt cnt T len pos ph le nu va Z ) (cwV 0 hts gX6_makeSteps_X6_leastBeingMended rfl rfl rfl hd_X6_leastBeingMended ⟨Nat.le_of_ble_eq_true rfl, Nat.le_of_ble_eq_true rfl⟩) hK hP 0 rfl rfl rfl hl.1 rfl (Nat.le_of_ble_eq_true rfl) ⟨Nat.zero_le _, Nat.zero_le _⟩ dX6_makeSteps_8 ?_
      refine lv_istore_n (lv' := [(3, .int (if lm τ < 7 then nI (lm τ) else -1)), (0, .ref (a 0)), (1, .int (nI (n))), (2, .int (nI (i)))]) hx hb dX6_makeSteps_11 rfl hl (by decide) rfl (fun ls hl => ?_)
      refine lv_iload_n hx hb dX6_makeSteps_12 rfl (lv_at hl 0 rfl) ?_
      refine lv_iconst (v := -1) hx hb dX6_makeSteps_13 rfl ?_
      refine lv_icmp_ne (tgt := 19) hx hb dX6_makeSteps_14 (by decide) (fun (c_14 : ¬ (if lm τ < 7 then nI (lm τ) else -1) = (-1)) => ?_) (fun (c_14 : (if lm τ < 7 then nI (lm τ) else -1) = (-1)) => ?_)
      · have e_l : lm τ < 7 := by by_cases h : lm τ < 7; exact h; exact absurd (if_neg h) c_14
        obtain ⟨g, hg, hgs⟩ := Val_lm hy0 e_l
        rw [if_pos e_l] at hl
        refine lv_aload_n hx hb dX6_makeSteps_19 rfl (lv_at hl 1 rfl) ?_
        refine lv_iload_n hx hb dX6_makeSteps_20 rfl (lv_at hl 0 rfl) ?_
        refine q_wV0 (As := [.int (nI (lm τ))]) (rest := []) (st1 := []) ⟨hx, hb, hml, hown, hts⟩ (c_X6_makeStep D cy A a τ kept nxt cnt T len pos ph le nu va Z (g) (lm τ) e_l hgs hg) (cwV 1 hts gX6_makeSteps_X6_makeStep rfl rfl rfl hd_X6_makeStep ⟨Nat.le_of_ble_eq_true rfl, Nat.le_of_ble_eq_true rfl⟩) hK hA hw 0 rfl rfl rfl hl.1 rfl rfl (Nat.le_of_ble_eq_true rfl) ⟨Nat.zero_le _, Nat.zero_le _⟩ dX6_makeSteps_21 (fun H locs hw => ?_)
        have hw : wS D A (wX cy a (mendS τ (lm τ)) kept nxt cnt T len pos ph le nu va ++ Z) s H locs := hw
        have hP := hw.1
        refine lv_iinc (v := nI (i + 1)) (lv' := [(2, .int (nI (i + 1))), (3, .int (nI (lm τ))), (0, .ref (a 0)), (1, .int (nI (n)))]) hx hb dX6_makeSteps_24 hl (k := 3) rfl (show nI (i) + nI 1 = nI (i + 1) from nI_add _ _) (by decide) rfl (fun ls hl => ?_)
        refine lv_goto (tgt := 2) hx hb dX6_makeSteps_27 (by decide) ?_
        exact ih_i (i + 1) (by omega) (mendS τ (lm τ)) (Val_mend hy0 e_l) (by rw [hy1]; simp only [mnS, if_pos e_l]; rw [show i + 1 = 1 + i by omega, Nat.add_assoc]) _ _ _ hw (lv_sub hl [2, 3, 0] rfl)
      · refine lv_iload_n hx hb dX6_makeSteps_17 rfl (lv_at hl 3 rfl) ?_
        have e_l : ¬ lm τ < 7 := fun h => lm_ne c_14 h
        have e_w : mnS n σ = (τ, i) := by rw [hy1]; simp only [mnS, if_neg e_l, Nat.zero_add]
        rw [show τ = (mnS n σ).1 by rw [e_w]] at hw
        exact q_iretW hx hb hr hlocks hw dX6_makeSteps_18 (by rw [e_w])
  exact lp2 (n - 0) 0 (by omega) (σ) (h_1) (rfl) _ _ _ hw (lv_sub hl [1, 2, 0] rfl)
set_option maxHeartbeats 1000000 in
set_option maxRecDepth 100000 in
theorem c_X6_isWhole {l : Launch} (D : va_G) (cy : ClassId) (a : Nat → Nat) (σ kept : Nat → Int32) (nxt cnt : Nat) (T : Nat → Int32) (len pos : Nat) (ph le nu va : Int32) (Z : va_W) (s_ : Nat) (h_0 : s_ < 21) : Met l yX6_isWhole wsX6_isWhole (k2_rm 3 66) (gR D cy [.ref (a 0), .int (nI (s_))] (wX cy a σ kept nxt cnt T len pos ph le nu va ++ Z)) (k2_QcV (.int (bI (whl σ s_)))) 0 0 (fun _ => False) := by
  refine q_pure (cc := cX6_isWhole) (maxL := 3) (ret := (some .boolean)) pl_X6 rfl (Nat.le_of_ble_eq_true rfl) ?_
  intro p e s m below meth c ls hx hb hr hml hts hown hlocks hP hK hl
  have hl : lv_has ls 3 [(0, .ref (a 0)), (1, .int (nI (s_)))] := hl
  refine lv_aload_n hx hb dX6_isWhole_0 rfl (lv_at hl 0 rfl) ?_
  refine va_get (D := D) (ci := 6) (v := .ref (a 1)) (C := RX6) (T := TX6) (N := 4) hx hb hts (fun _ h => List.mem_cons_of_mem _ (List.mem_append_left _ (List.mem_append_left _ (List.mem_append_left _ (List.mem_append_right _ h))))) hown hK hP 0 rfl rfl 0 (by decide) (hts (.fieldLink RX6 10 "SpreadParity" "layout" "LSpreadParity$Layout;") (List.mem_of_getElem? (i := 1) rfl)) (fun _ h9 => h9) rfl dX6_isWhole_1 ?_
  refine lv_iload_n hx hb dX6_isWhole_4 rfl (lv_at hl 1 rfl) ?_
  refine lv_iconst (v := nI 2) hx hb dX6_isWhole_5 rfl ?_
  refine q_cV (As := [.int (nI (s_)), .int (nI (2))]) (rest := []) ⟨hx, hb, hml, hown, hts⟩ (c_X1_spotOf D cy a σ kept nxt cnt T len pos ph le nu va Z (s_) (2) (by omega) (by omega)) (cwV 2 hts gX6_isWhole_X1_spotOf rfl rfl rfl hd_X1_spotOf ⟨Nat.le_of_ble_eq_true rfl, Nat.le_of_ble_eq_true rfl⟩) hK hP 1 rfl rfl rfl hl.1 rfl (Nat.le_of_ble_eq_true rfl) ⟨Nat.zero_le _, Nat.zero_le _⟩ dX6_isWhole_6 ?_
  refine lv_istore_n (lv' := [(2, .int (nI (spT (3 * s_ + 2)))), (0, .ref (a 0)), (1, .int (nI (s_)))]) hx hb dX6_isWhole_9 rfl hl (by decide) rfl (fun ls hl => ?_)
  refine lv_aload_n hx hb dX6_isWhole_10 rfl (lv_at hl 1 rfl) ?_
  refine va_get (D := D) (ci := 6) (v := .ref (a 8)) (C := RX6) (T := TX6) (N := 4) hx hb hts (fun _ h => List.mem_cons_of_mem _ (List.mem_append_left _ (List.mem_append_left _ (List.mem_append_left _ (List.mem_append_right _ h))))) hown hK hP 0 rfl rfl 1 (by decide) (hts (.fieldLink RX6 19 "SpreadParity" "now" "LSpreadParity$State;") (List.mem_of_getElem? (i := 2) rfl)) (fun _ h9 => h9) rfl dX6_isWhole_11 ?_
  refine lv_iload_n hx hb dX6_isWhole_14 rfl (lv_at hl 0 rfl) ?_
  refine lv_iconst (v := -1) hx hb dX6_isWhole_15 rfl ?_
  refine q_cV (As := [.int (nI (spT (3 * s_ + 2))), .int (-1)]) (rest := []) ⟨hx, hb, hml, hown, hts⟩ (c_X5_hasUnit D cy a σ kept nxt cnt T len pos ph le nu va Z (σ) (spT (3 * s_ + 2)) (-1) (sp_lt (by omega) (by omega)) (Wo_none _)) (cwV 2 hts gX6_isWhole_X5_hasUnit rfl rfl rfl hd_X5_hasUnit ⟨Nat.le_of_ble_eq_true rfl, Nat.le_of_ble_eq_true rfl⟩) hK hP 8 rfl rfl rfl hl.1 rfl (Nat.le_of_ble_eq_true rfl) ⟨Nat.zero_le _, Nat.zero_le _⟩ dX6_isWhole_16 ?_
  refine q_ifeqB (tgt := 35) hx hb dX6_isWhole_19 (by decide) (fun c_19 => ?_) (fun c_19 => ?_)
  · refine lv_iconst (v := nI 0) hx hb dX6_isWhole_35 rfl ?_
    exact q_zret hx hb hr hlocks dX6_isWhole_36 (by rw [whl_p h_0]; simp only [c_19, Bool.false_and, Bool.and_false, Bool.and_self]; rfl)
  · refine lv_aload_n hx hb dX6_isWhole_22 rfl (lv_at hl 1 rfl) ?_
    refine lv_iload_n hx hb dX6_isWhole_23 rfl (lv_at hl 0 rfl) ?_
    refine lv_iconst (v := -1) hx hb dX6_isWhole_24 rfl ?_
    refine q_cV (As := [.int (nI (spT (3 * s_ + 2))), .int (-1)]) (rest := []) ⟨hx, hb, hml, hown, hts⟩ (c_X6_canBeFound D cy a σ kept nxt cnt T len pos ph le nu va Z (σ) (spT (3 * s_ + 2)) (-1) (sp_lt (by omega) (by omega)) (Wo_none _)) (cwV 2 hts gX6_isWhole_X6_canBeFound rfl rfl rfl hd_X6_canBeFound ⟨Nat.le_of_ble_eq_true rfl, Nat.le_of_ble_eq_true rfl⟩) hK hP 0 rfl rfl rfl hl.1 rfl (Nat.le_of_ble_eq_true rfl) ⟨Nat.zero_le _, Nat.zero_le _⟩ dX6_isWhole_25 ?_
    refine q_ifeqB (tgt := 35) hx hb dX6_isWhole_28 (by decide) (fun c_28 => ?_) (fun c_28 => ?_)
    · refine lv_iconst (v := nI 0) hx hb dX6_isWhole_35 rfl ?_
      exact q_zret hx hb hr hlocks dX6_isWhole_36 (by rw [whl_p h_0]; simp only [c_19, c_28, Bool.false_and, Bool.and_false, Bool.and_self]; rfl)
    · refine lv_iconst (v := nI 1) hx hb dX6_isWhole_31 rfl ?_
      refine lv_goto (tgt := 36) hx hb dX6_isWhole_32 (by decide) ?_
      exact q_zret hx hb hr hlocks dX6_isWhole_36 (by rw [whl_p h_0]; simp only [c_19, c_28, Bool.false_and, Bool.and_false, Bool.and_self]; rfl)
set_option maxHeartbeats 1000000 in
set_option maxRecDepth 100000 in
theorem c_X6_countWrong {l : Launch} (D : va_G) (cy : ClassId) (a : Nat → Nat) (σ kept : Nat → Int32) (nxt cnt : Nat) (T : Nat → Int32) (len pos : Nat) (ph le nu va : Int32) (Z : va_W) : Met l yX6_countWrong wsX6_countWrong (k2_rm 4 88) (gR D cy [.ref (a 0)] (wX cy a σ kept nxt cnt T len pos ph le nu va ++ Z)) (k2_QcV (.int (nI (cw σ)))) 0 0 (fun _ => False) := by
  refine q_pure (cc := cX6_countWrong) (maxL := 4) (ret := (some .int)) pl_X6 rfl (Nat.le_of_ble_eq_true rfl) ?_
  intro p e s m below meth c ls hx hb hr hml hts hown hlocks hP hK hl
  have hl : lv_has ls 4 [(0, .ref (a 0))] := hl
  refine lv_iconst (v := nI 0) hx hb dX6_countWrong_0 rfl ?_
  refine lv_istore_n (lv' := [(1, .int (nI (0))), (0, .ref (a 0))]) hx hb dX6_countWrong_1 rfl hl (by decide) rfl (fun ls hl => ?_)
  refine lv_iconst (v := nI 0) hx hb dX6_countWrong_2 rfl ?_
  refine lv_istore_n (lv' := [(2, .int (nI (0))), (1, .int (nI (0))), (0, .ref (a 0))]) hx hb dX6_countWrong_3 rfl hl (by decide) rfl (fun ls hl => ?_)
  have lp4 : ∀ (j_ i : Nat), i + j_ = 21 → ∀ (ls : Array Slot), lv_has ls 4 [(0, .ref (a 0)), (1, .int (nI (cntB (wrg σ) i))), (2, .int (nI (i)))] → W p l e (k2_rm 4 88) s m ([.ref (a 0)] : List Value).toArray below meth c s.heap [] 0 0 (MQ below (k2_QcV (.int (nI (cw σ)))) ([.ref (a 0)] : List Value).toArray s 0 0 (fun _ => False)) (F0 m 4 ls []) := by
    intro j_
    induction j_ with
    | zero =>
      intro i hn_i ls hl
      refine lv_iload_n hx hb dX6_countWrong_4 rfl (lv_at hl 2 rfl) ?_
      refine lv_bipush (v := nI 21) hx hb dX6_countWrong_5 rfl ?_
      refine q_geN (tgt := 53) hx hb dX6_countWrong_7 (by decide) (by omega) (by omega) (fun c_7 => ?_) (fun c_7 => absurd c_7 (by omega))
      refine lv_iload_n hx hb dX6_countWrong_53 rfl (lv_at hl 1 rfl) ?_
      exact q_iret hx hb hr hlocks dX6_countWrong_54 (by have e9 : i = 21 := (by omega); subst e9; rfl)
    | succ j_ ih_i =>
      intro i hn_i ls hl
      refine lv_iload_n hx hb dX6_countWrong_4 rfl (lv_at hl 2 rfl) ?_
      refine lv_bipush (v := nI 21) hx hb dX6_countWrong_5 rfl ?_
      refine q_geN (tgt := 53) hx hb dX6_countWrong_7 (by decide) (by omega) (by omega) (fun c_7 => absurd c_7 (by omega)) (fun c_7 => ?_)
      refine lv_aload_n hx hb dX6_countWrong_10 rfl (lv_at hl 0 rfl) ?_
      refine va_get (D := D) (ci := 6) (v := .ref (a 1)) (C := RX6) (T := TX6) (N := 4) hx hb hts (fun _ h => List.mem_cons_of_mem _ (List.mem_append_left _ (List.mem_append_left _ (List.mem_append_left _ (List.mem_append_right _ h))))) hown hK hP 0 rfl rfl 0 (by decide) (hts (.fieldLink RX6 10 "SpreadParity" "layout" "LSpreadParity$Layout;") (List.mem_of_getElem? (i := 1) rfl)) (fun _ h9 => h9) rfl dX6_countWrong_11 ?_
      refine lv_iload_n hx hb dX6_countWrong_14 rfl (lv_at hl 2 rfl) ?_
      refine lv_iconst (v := nI 2) hx hb dX6_countWrong_15 rfl ?_
      refine q_cV (As := [.int (nI (i)), .int (nI (2))]) (rest := []) ⟨hx, hb, hml, hown, hts⟩ (c_X1_spotOf D cy a σ kept nxt cnt T len pos ph le nu va Z (i) (2) (by omega) (by omega)) (cwV 2 hts gX6_countWrong_X1_spotOf rfl rfl rfl hd_X1_spotOf ⟨Nat.le_of_ble_eq_true rfl, Nat.le_of_ble_eq_true rfl⟩) hK hP 1 rfl rfl rfl hl.1 rfl (Nat.le_of_ble_eq_true rfl) ⟨Nat.zero_le _, Nat.zero_le _⟩ dX6_countWrong_16 ?_
      refine lv_istore_n (lv' := [(3, .int (nI (spT (3 * i + 2)))), (0, .ref (a 0)), (1, .int (nI (cntB (wrg σ) i))), (2, .int (nI (i)))]) hx hb dX6_countWrong_19 rfl hl (by decide) rfl (fun ls hl => ?_)
      refine lv_aload_n hx hb dX6_countWrong_20 rfl (lv_at hl 1 rfl) ?_
      refine lv_iload_n hx hb dX6_countWrong_21 rfl (lv_at hl 3 rfl) ?_
      refine q_cV (As := [.int (nI (i))]) (rest := []) ⟨hx, hb, hml, hown, hts⟩ (c_X6_isWhole D cy a σ kept nxt cnt T len pos ph le nu va Z (i) (by omega)) (cwV 1 hts gX6_countWrong_X6_isWhole rfl rfl rfl hd_X6_isWhole ⟨Nat.le_of_ble_eq_true rfl, Nat.le_of_ble_eq_true rfl⟩) hK hP 0 rfl rfl rfl hl.1 rfl (Nat.le_of_ble_eq_true rfl) ⟨Nat.zero_le _, Nat.zero_le _⟩ dX6_countWrong_22 ?_
      refine q_ifeqB (tgt := 47) hx hb dX6_countWrong_25 (by decide) (fun c_25 => ?_) (fun c_25 => ?_)
      · have e_g : wrg σ i = false := by simp only [wrg, c_25, Bool.false_and]
        have e_c : nI (cntB (wrg σ) i) = nI (cntB (wrg σ) (i + 1)) := congrArg nI (by show cntB (wrg σ) i = cntB (wrg σ) (i + 1); simp only [cntB, e_g, if_true, if_false, Bool.false_eq_true, Nat.add_zero])
        rw [e_c] at hl
        refine lv_iinc (v := nI (i + 1)) (lv' := [(2, .int (nI (i + 1))), (3, .int (nI (spT (3 * i + 2)))), (0, .ref (a 0)), (1, .int (nI (cntB (wrg σ) (i + 1))))]) hx hb dX6_countWrong_47 hl (k := 3) rfl (show nI (i) + nI 1 = nI (i + 1) from nI_add _ _) (by decide) rfl (fun ls hl => ?_)
        refine lv_goto (tgt := 4) hx hb dX6_countWrong_50 (by decide) ?_
        exact ih_i (i + 1) (by omega) _ (lv_sub hl [2, 3, 0] rfl)
      · refine lv_aload_n hx hb dX6_countWrong_28 rfl (lv_at hl 1 rfl) ?_
        refine va_get (D := D) (ci := 6) (v := .ref (a 8)) (C := RX6) (T := TX6) (N := 4) hx hb hts (fun _ h => List.mem_cons_of_mem _ (List.mem_append_left _ (List.mem_append_left _ (List.mem_append_left _ (List.mem_append_right _ h))))) hown hK hP 0 rfl rfl 1 (by decide) (hts (.fieldLink RX6 19 "SpreadParity" "now" "LSpreadParity$State;") (List.mem_of_getElem? (i := 2) rfl)) (fun _ h9 => h9) rfl dX6_countWrong_29 ?_
        refine lv_iload_n hx hb dX6_countWrong_32 rfl (lv_at hl 0 rfl) ?_
        refine q_cV (As := [.int (nI (spT (3 * i + 2)))]) (rest := []) ⟨hx, hb, hml, hown, hts⟩ (c_X5_valueAt D cy a σ kept nxt cnt T len pos ph le nu va Z (spT (3 * i + 2)) (by have := @sp_lt i 2 (by omega) (by omega); omega)) (cwV 1 hts gX6_countWrong_X5_valueAt rfl rfl rfl hd_X5_valueAt ⟨Nat.le_of_ble_eq_true rfl, Nat.le_of_ble_eq_true rfl⟩) hK hP 8 rfl rfl rfl hl.1 rfl (Nat.le_of_ble_eq_true rfl) ⟨Nat.zero_le _, Nat.zero_le _⟩ dX6_countWrong_33 ?_
        refine lv_aload_n hx hb dX6_countWrong_36 rfl (lv_at hl 1 rfl) ?_
        refine lv_iload_n hx hb dX6_countWrong_37 rfl (lv_at hl 0 rfl) ?_
        refine q_cV (As := [.int (nI (spT (3 * i + 2)))]) (rest := [.int (σ (spT (3 * i + 2)))]) ⟨hx, hb, hml, hown, hts⟩ (c_X6_valueFromOthers D cy a σ kept nxt cnt T len pos ph le nu va Z (spT (3 * i + 2)) (sp_lt (by omega) (by omega))) (cwV 1 hts gX6_countWrong_X6_valueFromOthers rfl rfl rfl hd_X6_valueFromOthers ⟨Nat.le_of_ble_eq_true rfl, Nat.le_of_ble_eq_true rfl⟩) hK hP 0 rfl rfl rfl hl.1 rfl (Nat.le_of_ble_eq_true rfl) ⟨Nat.zero_le _, Nat.zero_le _⟩ dX6_countWrong_38 ?_
        refine lv_icmp_eq (tgt := 47) hx hb dX6_countWrong_41 (by decide) (fun (c_41 : (σ (spT (3 * i + 2))) = (fd σ (spT (3 * i + 2)))) => ?_) (fun (c_41 : ¬ (σ (spT (3 * i + 2))) = (fd σ (spT (3 * i + 2)))) => ?_)
        · have e_g : wrg σ i = false := wrg_f (by omega) c_41
          have e_c : nI (cntB (wrg σ) i) = nI (cntB (wrg σ) (i + 1)) := congrArg nI (by show cntB (wrg σ) i = cntB (wrg σ) (i + 1); simp only [cntB, e_g, if_true, if_false, Bool.false_eq_true, Nat.add_zero])
          rw [e_c] at hl
          refine lv_iinc (v := nI (i + 1)) (lv' := [(2, .int (nI (i + 1))), (3, .int (nI (spT (3 * i + 2)))), (0, .ref (a 0)), (1, .int (nI (cntB (wrg σ) (i + 1))))]) hx hb dX6_countWrong_47 hl (k := 3) rfl (show nI (i) + nI 1 = nI (i + 1) from nI_add _ _) (by decide) rfl (fun ls hl => ?_)
          refine lv_goto (tgt := 4) hx hb dX6_countWrong_50 (by decide) ?_
          exact ih_i (i + 1) (by omega) _ (lv_sub hl [2, 3, 0] rfl)
        · refine lv_iinc (v := nI (cntB (wrg σ) i + 1)) (lv' := [(1, .int (nI (cntB (wrg σ) i + 1))), (3, .int (nI (spT (3 * i + 2)))), (0, .ref (a 0)), (2, .int (nI (i)))]) hx hb dX6_countWrong_44 hl (k := 2) rfl (show nI (cntB (wrg σ) i) + nI 1 = nI (cntB (wrg σ) i + 1) from nI_add _ _) (by decide) rfl (fun ls hl => ?_)
          have e_g : wrg σ i = true := wrg_t (by omega) c_25 c_41
          have e_c : nI (cntB (wrg σ) i + 1) = nI (cntB (wrg σ) (i + 1)) := congrArg nI (by show cntB (wrg σ) i + 1 = cntB (wrg σ) (i + 1); simp only [cntB, e_g, if_true, if_false, Bool.false_eq_true, Nat.add_zero])
          rw [e_c] at hl
          refine lv_iinc (v := nI (i + 1)) (lv' := [(2, .int (nI (i + 1))), (1, .int (nI (cntB (wrg σ) (i + 1)))), (3, .int (nI (spT (3 * i + 2)))), (0, .ref (a 0))]) hx hb dX6_countWrong_47 hl (k := 3) rfl (show nI (i) + nI 1 = nI (i + 1) from nI_add _ _) (by decide) rfl (fun ls hl => ?_)
          refine lv_goto (tgt := 4) hx hb dX6_countWrong_50 (by decide) ?_
          exact ih_i (i + 1) (by omega) _ (lv_sub hl [3, 1, 0] rfl)
  exact lp4 (21 - 0) 0 (by omega) _ (lv_sub hl [2, 1, 0] rfl)
set_option maxHeartbeats 1000000 in
set_option maxRecDepth 100000 in
theorem c_X6_scrubbedRight {l : Launch} (D : va_G) (cy : ClassId) (A : Nat → Prop) (a : Nat → Nat) (σ kept : Nat → Int32) (nxt cnt : Nat) (T : Nat → Int32) (len pos : Nat) (ph le nu va : Int32) (Z : va_W) (k : Nat) (h_0 : k < 63) : Met l yX6_scrubbedRight wsX6_scrubbedRight (k2_rm 3 65) (gP D cy [.ref (a 0), .int (nI (k))] A (wX cy a σ kept nxt cnt T len pos ph le nu va ++ Z)) (gQ D A (some (.int (bI (decide (σ k = fd σ k))))) (wX cy a (if σ k = fd σ k then rdS (f2S σ k) k else wrS (rdS (f2S σ k) k) k (fd σ k)) kept nxt cnt T len pos ph le nu va ++ Z)) 0 0 A := by
  refine q_imp (cc := cX6_scrubbedRight) (maxL := 3) (ret := (some .boolean)) pl_X6 rfl (Nat.le_of_ble_eq_true rfl) ?_
  intro p e s m below meth c ls hx hb hr hml hts hown hlocks hw hK hA hl
  have hP := hw.1
  have hl : lv_has ls 3 [(0, .ref (a 0)), (1, .int (nI (k)))] := hl
  refine lv_aload_n hx hb dX6_scrubbedRight_0 rfl (lv_at hl 0 rfl) ?_
  refine lv_iload_n hx hb dX6_scrubbedRight_1 rfl (lv_at hl 1 rfl) ?_
  refine q_wV0 (As := [.int (nI (k))]) (rest := []) (st1 := [.int (fd σ k)]) ⟨hx, hb, hml, hown, hts⟩ (c_X6_fetchOthers D cy A a σ kept nxt cnt T len pos ph le nu va Z (k) (by omega)) (cwV 1 hts gX6_scrubbedRight_X6_fetchOthers rfl rfl rfl hd_X6_fetchOthers ⟨Nat.le_of_ble_eq_true rfl, Nat.le_of_ble_eq_true rfl⟩) hK hA hw 0 rfl rfl rfl hl.1 rfl rfl (Nat.le_of_ble_eq_true rfl) ⟨Nat.zero_le _, Nat.zero_le _⟩ dX6_scrubbedRight_2 (fun H locs hw => ?_)
  have hw : wS D A (wX cy a (f2S σ k) kept nxt cnt T len pos ph le nu va ++ Z) s H locs := hw
  have hP := hw.1
  refine lv_istore_n (lv' := [(2, .int (fd σ k)), (0, .ref (a 0)), (1, .int (nI (k)))]) hx hb dX6_scrubbedRight_5 rfl hl (by decide) rfl (fun ls hl => ?_)
  refine lv_aload_n hx hb dX6_scrubbedRight_6 rfl (lv_at hl 1 rfl) ?_
  refine va_get (D := D) (ci := 6) (v := .ref (a 8)) (C := RX6) (T := TX6) (N := 4) hx hb hts (fun _ h => List.mem_cons_of_mem _ (List.mem_append_left _ (List.mem_append_left _ (List.mem_append_left _ (List.mem_append_right _ h))))) hown hK hP 0 rfl rfl 1 (by decide) (hts (.fieldLink RX6 19 "SpreadParity" "now" "LSpreadParity$State;") (List.mem_of_getElem? (i := 1) rfl)) (fun _ h9 => h9) rfl dX6_scrubbedRight_7 ?_
  refine lv_iload_n hx hb dX6_scrubbedRight_10 rfl (lv_at hl 2 rfl) ?_
  refine q_wV0 (As := [.int (nI (k))]) (rest := []) (st1 := [.int ((f2S σ k) k)]) ⟨hx, hb, hml, hown, hts⟩ (c_X5_fetch D cy A a (f2S σ k) kept nxt cnt T len pos ph le nu va Z (k) (by omega)) (cwV 1 hts gX6_scrubbedRight_X5_fetch rfl rfl rfl hd_X5_fetch ⟨Nat.le_of_ble_eq_true rfl, Nat.le_of_ble_eq_true rfl⟩) hK hA hw 8 rfl rfl rfl hl.1 rfl rfl (Nat.le_of_ble_eq_true rfl) ⟨Nat.zero_le _, Nat.zero_le _⟩ dX6_scrubbedRight_11 (fun H locs hw => ?_)
  have hw : wS D A (wX cy a (rdS (f2S σ k) k) kept nxt cnt T len pos ph le nu va ++ Z) s H locs := hw
  have hP := hw.1
  refine q_top (show ((f2S σ k) k) = σ k from f2_lt _ _ (by omega)) ?_
  refine lv_iload_n hx hb dX6_scrubbedRight_14 rfl (lv_at hl 0 rfl) ?_
  refine lv_icmp_ne (tgt := 20) hx hb dX6_scrubbedRight_15 (by decide) (fun (c_15 : ¬ (σ k) = (fd σ k)) => ?_) (fun (c_15 : (σ k) = (fd σ k)) => ?_)
  · refine lv_aload_n hx hb dX6_scrubbedRight_20 rfl (lv_at hl 1 rfl) ?_
    refine va_get (D := D) (ci := 6) (v := .ref (a 8)) (C := RX6) (T := TX6) (N := 4) hx hb hts (fun _ h => List.mem_cons_of_mem _ (List.mem_append_left _ (List.mem_append_left _ (List.mem_append_left _ (List.mem_append_right _ h))))) hown hK hP 0 rfl rfl 1 (by decide) (hts (.fieldLink RX6 19 "SpreadParity" "now" "LSpreadParity$State;") (List.mem_of_getElem? (i := 1) rfl)) (fun _ h9 => h9) rfl dX6_scrubbedRight_21 ?_
    refine lv_iload_n hx hb dX6_scrubbedRight_24 rfl (lv_at hl 2 rfl) ?_
    refine lv_iload_n hx hb dX6_scrubbedRight_25 rfl (lv_at hl 0 rfl) ?_
    refine q_wV0 (As := [.int (nI (k)), .int (fd σ k)]) (rest := []) (st1 := []) ⟨hx, hb, hml, hown, hts⟩ (c_X5_store D cy A a (rdS (f2S σ k) k) kept nxt cnt T len pos ph le nu va Z (k) (fd σ k) (by omega)) (cwV 2 hts gX6_scrubbedRight_X5_store rfl rfl rfl hd_X5_store ⟨Nat.le_of_ble_eq_true rfl, Nat.le_of_ble_eq_true rfl⟩) hK hA hw 8 rfl rfl rfl hl.1 rfl rfl (Nat.le_of_ble_eq_true rfl) ⟨Nat.zero_le _, Nat.zero_le _⟩ dX6_scrubbedRight_26 (fun H locs hw => ?_)
    have hw : wS D A (wX cy a (wrS (rdS (f2S σ k) k) k (fd σ k)) kept nxt cnt T len pos ph le nu va ++ Z) s H locs := hw
    have hP := hw.1
    refine lv_iconst (v := nI 0) hx hb dX6_scrubbedRight_29 rfl ?_
    have e_w : (wrS (rdS (f2S σ k) k) k (fd σ k)) = (if σ k = fd σ k then rdS (f2S σ k) k else wrS (rdS (f2S σ k) k) k (fd σ k)) := by rw [if_neg c_15]
    rw [e_w] at hw
    exact q_zretW hx hb hr hlocks hw dX6_scrubbedRight_30 (by simp [c_15, bI, nI])
  · refine lv_iconst (v := nI 1) hx hb dX6_scrubbedRight_18 rfl ?_
    have e_w : (rdS (f2S σ k) k) = (if σ k = fd σ k then rdS (f2S σ k) k else wrS (rdS (f2S σ k) k) k (fd σ k)) := by rw [if_pos c_15]
    rw [e_w] at hw
    exact q_zretW hx hb hr hlocks hw dX6_scrubbedRight_19 (by simp [c_15, bI, nI])
set_option maxHeartbeats 1000000 in
set_option maxRecDepth 100000 in
theorem c_X6_scrubStripes {l : Launch} (D : va_G) (cy : ClassId) (A : Nat → Prop) (a : Nat → Nat) (σ kept : Nat → Int32) (nxt cnt : Nat) (T : Nat → Int32) (len pos : Nat) (ph le nu va : Int32) (Z : va_W) : Met l yX6_scrubStripes wsX6_scrubStripes (k2_rm 4 88) (gP D cy [.ref (a 0)] A (wX cy a σ kept nxt cnt T len pos ph le nu va ++ Z)) (gQ D A (some (.int (nI (scC σ 21)))) (wX cy a (scS σ 21) kept nxt cnt T len pos ph le nu va ++ Z)) 0 0 A := by
  refine q_imp (cc := cX6_scrubStripes) (maxL := 3) (ret := (some .int)) pl_X6 rfl (Nat.le_of_ble_eq_true rfl) ?_
  intro p e s m below meth c ls hx hb hr hml hts hown hlocks hw hK hA hl
  have hP := hw.1
  have hl : lv_has ls 3 [(0, .ref (a 0))] := hl
  refine lv_iconst (v := nI 0) hx hb dX6_scrubStripes_0 rfl ?_
  refine lv_istore_n (lv' := [(1, .int (nI (0))), (0, .ref (a 0))]) hx hb dX6_scrubStripes_1 rfl hl (by decide) rfl (fun ls hl => ?_)
  refine lv_iconst (v := nI 0) hx hb dX6_scrubStripes_2 rfl ?_
  refine lv_istore_n (lv' := [(2, .int (nI (0))), (1, .int (nI (0))), (0, .ref (a 0))]) hx hb dX6_scrubStripes_3 rfl hl (by decide) rfl (fun ls hl => ?_)
  have lp4 : ∀ (j_ i : Nat), i + j_ = 21 → ∀ (H : Heap) (locs : List Loc) (ls : Array Slot), wS D A (wX cy a (scS σ i) kept nxt cnt T len pos ph le nu va ++ Z) s H locs → lv_has ls 3 [(0, .ref (a 0)), (1, .int (nI (scC σ i))), (2, .int (nI (i)))] → W p l e (k2_rm 4 88) s m ([.ref (a 0)] : List Value).toArray below meth c H locs 0 0 (MQ below (gQ D A (some (.int (nI (scC σ 21)))) (wX cy a (scS σ 21) kept nxt cnt T len pos ph le nu va ++ Z)) ([.ref (a 0)] : List Value).toArray s 0 0 A) (F0 m 4 ls []) := by
    intro j_
    induction j_ with
    | zero =>
      intro i hn_i H locs ls hw hl
      have hP := hw.1
      refine lv_iload_n hx hb dX6_scrubStripes_4 rfl (lv_at hl 2 rfl) ?_
      refine lv_bipush (v := nI 21) hx hb dX6_scrubStripes_5 rfl ?_
      refine q_geN (tgt := 43) hx hb dX6_scrubStripes_7 (by decide) (by omega) (by omega) (fun c_7 => ?_) (fun c_7 => absurd c_7 (by omega))
      refine lv_iload_n hx hb dX6_scrubStripes_43 rfl (lv_at hl 1 rfl) ?_
      have e9 : i = 21 := by omega
      subst e9
      exact q_iretW hx hb hr hlocks hw dX6_scrubStripes_44 (rfl)
    | succ j_ ih_i =>
      intro i hn_i H locs ls hw hl
      have hP := hw.1
      refine lv_iload_n hx hb dX6_scrubStripes_4 rfl (lv_at hl 2 rfl) ?_
      refine lv_bipush (v := nI 21) hx hb dX6_scrubStripes_5 rfl ?_
      refine q_geN (tgt := 43) hx hb dX6_scrubStripes_7 (by decide) (by omega) (by omega) (fun c_7 => absurd c_7 (by omega)) (fun c_7 => ?_)
      refine lv_aload_n hx hb dX6_scrubStripes_10 rfl (lv_at hl 0 rfl) ?_
      refine lv_iload_n hx hb dX6_scrubStripes_11 rfl (lv_at hl 2 rfl) ?_
      refine q_cV (As := [.int (nI (i))]) (rest := []) ⟨hx, hb, hml, hown, hts⟩ (c_X6_isWhole D cy a (scS σ i) kept nxt cnt T len pos ph le nu va Z (i) (by omega)) (cwV 1 hts gX6_scrubStripes_X6_isWhole rfl rfl rfl hd_X6_isWhole ⟨Nat.le_of_ble_eq_true rfl, Nat.le_of_ble_eq_true rfl⟩) hK hP 0 rfl rfl rfl hl.1 rfl (Nat.le_of_ble_eq_true rfl) ⟨Nat.zero_le _, Nat.zero_le _⟩ dX6_scrubStripes_12 ?_
      refine q_ifeqB (tgt := 37) hx hb dX6_scrubStripes_15 (by decide) (fun c_15 => ?_) (fun c_15 => ?_)
      · have e_g : wrg (scS σ i) i = false := by simp only [wrg, c_15, Bool.false_and]
        have e_s : scS σ i = scS σ (i + 1) := by simp only [scS, scA, c_15, if_false, Bool.false_eq_true]
        rw [e_s] at hw
        have e_c : nI (scC σ i) = nI (scC σ (i + 1)) := congrArg nI (by simp only [scC, e_g, if_true, if_false, Bool.false_eq_true, Nat.add_zero])
        rw [e_c] at hl
        have hP := hw.1
        refine lv_iinc (v := nI (i + 1)) (lv' := [(2, .int (nI (i + 1))), (0, .ref (a 0)), (1, .int (nI (scC σ (i + 1))))]) hx hb dX6_scrubStripes_37 hl (k := 2) rfl (show nI (i) + nI 1 = nI (i + 1) from nI_add _ _) (by decide) rfl (fun ls hl => ?_)
        refine lv_goto (tgt := 4) hx hb dX6_scrubStripes_40 (by decide) ?_
        exact ih_i (i + 1) (by omega) _ _ _ hw (lv_sub hl [1, 2, 0] rfl)
      · refine lv_aload_n hx hb dX6_scrubStripes_18 rfl (lv_at hl 0 rfl) ?_
        refine lv_aload_n hx hb dX6_scrubStripes_19 rfl (lv_at hl 0 rfl) ?_
        refine va_get (D := D) (ci := 6) (v := .ref (a 1)) (C := RX6) (T := TX6) (N := 4) hx hb hts (fun _ h => List.mem_cons_of_mem _ (List.mem_append_left _ (List.mem_append_left _ (List.mem_append_left _ (List.mem_append_right _ h))))) hown hK hP 0 rfl rfl 0 (by decide) (hts (.fieldLink RX6 10 "SpreadParity" "layout" "LSpreadParity$Layout;") (List.mem_of_getElem? (i := 1) rfl)) (fun _ h9 => h9) rfl dX6_scrubStripes_20 ?_
        refine lv_iload_n hx hb dX6_scrubStripes_23 rfl (lv_at hl 2 rfl) ?_
        refine lv_iconst (v := nI 2) hx hb dX6_scrubStripes_24 rfl ?_
        refine q_cV (As := [.int (nI (i)), .int (nI (2))]) (rest := [.ref (a 0)]) ⟨hx, hb, hml, hown, hts⟩ (c_X1_spotOf D cy a (scS σ i) kept nxt cnt T len pos ph le nu va Z (i) (2) (by omega) (by omega)) (cwV 2 hts gX6_scrubStripes_X1_spotOf rfl rfl rfl hd_X1_spotOf ⟨Nat.le_of_ble_eq_true rfl, Nat.le_of_ble_eq_true rfl⟩) hK hP 1 rfl rfl rfl hl.1 rfl (Nat.le_of_ble_eq_true rfl) ⟨Nat.zero_le _, Nat.zero_le _⟩ dX6_scrubStripes_25 ?_
        refine q_wV0 (As := [.int (nI (spT (3 * i + 2)))]) (rest := []) (st1 := [.int (bI (decide ((scS σ i) (spT (3 * i + 2)) = fd (scS σ i) (spT (3 * i + 2)))))]) ⟨hx, hb, hml, hown, hts⟩ (c_X6_scrubbedRight D cy A a (scS σ i) kept nxt cnt T len pos ph le nu va Z (spT (3 * i + 2)) (sp_lt (by omega) (by omega))) (cwV 1 hts gX6_scrubStripes_X6_scrubbedRight rfl rfl rfl hd_X6_scrubbedRight ⟨Nat.le_of_ble_eq_true rfl, Nat.le_of_ble_eq_true rfl⟩) hK hA hw 0 rfl rfl rfl hl.1 rfl rfl (Nat.le_of_ble_eq_true rfl) ⟨Nat.zero_le _, Nat.zero_le _⟩ dX6_scrubStripes_28 (fun H locs hw => ?_)
        have hw : wS D A (wX cy a (if (scS σ i) (spT (3 * i + 2)) = fd (scS σ i) (spT (3 * i + 2)) then rdS (f2S (scS σ i) (spT (3 * i + 2))) (spT (3 * i + 2)) else wrS (rdS (f2S (scS σ i) (spT (3 * i + 2))) (spT (3 * i + 2))) (spT (3 * i + 2)) (fd (scS σ i) (spT (3 * i + 2)))) kept nxt cnt T len pos ph le nu va ++ Z) s H locs := hw
        have hP := hw.1
        refine q_ifneB (tgt := 37) hx hb dX6_scrubStripes_31 (by decide) (fun c_31 => ?_) (fun c_31 => ?_)
        · have e_g : wrg (scS σ i) i = false := wrg_f (by omega) (of_decide_eq_true c_31)
          have e_s : (if (scS σ i) (spT (3 * i + 2)) = fd (scS σ i) (spT (3 * i + 2)) then rdS (f2S (scS σ i) (spT (3 * i + 2))) (spT (3 * i + 2)) else wrS (rdS (f2S (scS σ i) (spT (3 * i + 2))) (spT (3 * i + 2))) (spT (3 * i + 2)) (fd (scS σ i) (spT (3 * i + 2)))) = scS σ (i + 1) := by rw [if_pos (of_decide_eq_true c_31)]; simp only [scS, scA, c_15, e_g, if_true, if_false, Bool.false_eq_true]; exact scR_p _ (by omega)
          rw [e_s] at hw
          have e_c : nI (scC σ i) = nI (scC σ (i + 1)) := congrArg nI (by simp only [scC, e_g, if_true, if_false, Bool.false_eq_true, Nat.add_zero])
          rw [e_c] at hl
          have hP := hw.1
          refine lv_iinc (v := nI (i + 1)) (lv' := [(2, .int (nI (i + 1))), (0, .ref (a 0)), (1, .int (nI (scC σ (i + 1))))]) hx hb dX6_scrubStripes_37 hl (k := 2) rfl (show nI (i) + nI 1 = nI (i + 1) from nI_add _ _) (by decide) rfl (fun ls hl => ?_)
          refine lv_goto (tgt := 4) hx hb dX6_scrubStripes_40 (by decide) ?_
          exact ih_i (i + 1) (by omega) _ _ _ hw (lv_sub hl [1, 2, 0] rfl)
        · refine lv_iinc (v := nI (scC σ i + 1)) (lv' := [(1, .int (nI (scC σ i + 1))), (0, .ref (a 0)), (2, .int (nI (i)))]) hx hb dX6_scrubStripes_34 hl (k := 1) rfl (show nI (scC σ i) + nI 1 = nI (scC σ i + 1) from nI_add _ _) (by decide) rfl (fun ls hl => ?_)
          have e_g : wrg (scS σ i) i = true := wrg_t (by omega) c_15 (of_decide_eq_false c_31)
          have e_s : (if (scS σ i) (spT (3 * i + 2)) = fd (scS σ i) (spT (3 * i + 2)) then rdS (f2S (scS σ i) (spT (3 * i + 2))) (spT (3 * i + 2)) else wrS (rdS (f2S (scS σ i) (spT (3 * i + 2))) (spT (3 * i + 2))) (spT (3 * i + 2)) (fd (scS σ i) (spT (3 * i + 2)))) = scS σ (i + 1) := by rw [if_neg (of_decide_eq_false c_31)]; simp only [scS, scA, c_15, e_g, if_true]; rw [fd_p _ (by omega), scR_p _ (by omega)]
          rw [e_s] at hw
          have e_c : nI (scC σ i + 1) = nI (scC σ (i + 1)) := congrArg nI (by simp only [scC, e_g, if_true, if_false, Bool.false_eq_true, Nat.add_zero])
          rw [e_c] at hl
          have hP := hw.1
          refine lv_iinc (v := nI (i + 1)) (lv' := [(2, .int (nI (i + 1))), (1, .int (nI (scC σ (i + 1)))), (0, .ref (a 0))]) hx hb dX6_scrubStripes_37 hl (k := 2) rfl (show nI (i) + nI 1 = nI (i + 1) from nI_add _ _) (by decide) rfl (fun ls hl => ?_)
          refine lv_goto (tgt := 4) hx hb dX6_scrubStripes_40 (by decide) ?_
          exact ih_i (i + 1) (by omega) _ _ _ hw (lv_sub hl [2, 1, 0] rfl)
  exact lp4 (21 - 0) 0 (by omega) _ _ _ hw (lv_sub hl [2, 1, 0] rfl)
