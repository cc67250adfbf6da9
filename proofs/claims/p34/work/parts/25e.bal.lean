/-! The balance lies between 0 and 1. -/
theorem mn_N {σ : Nat → Int32} {B : Nat} (hB : B < 2 ^ 31) (h : Cn σ B) : ∀ n, n ≤ 6 → ∃ a b : Nat, a ≤ b ∧ b ≤ B ∧ mnR σ n = nI a ∧ mxR σ n = nI b := by
  intro n
  induction n with
  | zero =>
    intro _
    obtain ⟨k, hk, e⟩ := h.1 0 (by omega)
    exact ⟨k, k, Nat.le_refl _, hk, e, e⟩
  | succ n ih =>
    intro hn
    obtain ⟨a, b, hab, hbB, ea, eb⟩ := ih (by omega)
    obtain ⟨k, hk, e⟩ := h.1 (n + 1) (by omega)
    have i1 : (nI k < nI a) ↔ k < a := nI_ltI (by omega) (by omega)
    have i2 : (nI b < nI k) ↔ b < k := nI_ltI (by omega) (by omega)
    simp only [mnR, mxR, e, ea, eb, i1, i2]
    by_cases c1 : k < a
    · refine ⟨k, b, by omega, hbB, by rw [if_pos c1], by rw [if_neg (by omega)]⟩
    · by_cases c2 : b < k
      · exact ⟨a, k, by omega, hk, by rw [if_neg c1], by rw [if_pos c2]⟩
      · exact ⟨a, b, hab, hbB, by rw [if_neg c1], by rw [if_neg c2]⟩
theorem bl_pow {c d a b : Nat} {q r : Int} (h1 : c * 2 ^ q.toNat = a * 2 ^ (-q).toNat) (h2 : d * 2 ^ r.toNat = b * 2 ^ (-r).toNat) : c * b * 2 ^ (q - r - 0).toNat = a * d * 2 ^ (0 - (q - r)).toNat := by
  have e1 : ∃ m, q.toNat + (-r).toNat = (q - r - 0).toNat + m ∧ (-q).toNat + r.toNat = (0 - (q - r)).toNat + m := ⟨q.toNat + (-r).toNat - (q - r - 0).toNat, by omega, by omega⟩
  obtain ⟨m, m1, m2⟩ := e1
  have h3 : c * b * 2 ^ (q.toNat + (-r).toNat) = a * d * 2 ^ ((-q).toNat + r.toNat) := by
    rw [Nat.pow_add, Nat.pow_add]
    calc c * b * (2 ^ q.toNat * 2 ^ (-r).toNat) = (c * 2 ^ q.toNat) * (b * 2 ^ (-r).toNat) := by ac_rfl
      _ = (a * 2 ^ (-q).toNat) * (d * 2 ^ r.toNat) := by rw [h1, h2]
      _ = a * d * (2 ^ (-q).toNat * 2 ^ r.toNat) := by ac_rfl
  rw [m1, m2, Nat.pow_add, Nat.pow_add, ← Nat.mul_assoc, ← Nat.mul_assoc] at h3
  exact Nat.eq_of_mul_eq_mul_right (Nat.two_pow_pos m) h3
theorem bl_one : FP.Core.val64 FP.Core.dconst1 = .fin false (2 ^ 52) (-52) := by decide +kernel
theorem bl_qmin : FP.Core.b64.qmin = -1074 := by decide
theorem bl_z1 : FP.Core.zmag FP.Core.b64 (.fin false (2 ^ 52) (-52)) = 2 ^ 1074 := by
  show FP.Core.inUnits (2 ^ 52) (-52) FP.Core.b64.qmin = 2 ^ 1074
  unfold FP.Core.inUnits
  rw [bl_qmin, show ((-52 : Int) - -1074).toNat = 1022 by decide, ← Nat.pow_add]
theorem bl_div {a b : Nat} (hab : a ≤ b) (hb : 0 < b) (hB : b < 2 ^ 31) : FP.Core.val64 (FP.Core.ddiv (FP.Core.i2d (nI a)) (FP.Core.i2d (nI b))) ≠ .nan ∧ 0 ≤ FP.Core.zval FP.Core.b64 (FP.Core.val64 (FP.Core.ddiv (FP.Core.i2d (nI a)) (FP.Core.i2d (nI b)))) ∧ FP.Core.zval FP.Core.b64 (FP.Core.val64 (FP.Core.ddiv (FP.Core.i2d (nI a)) (FP.Core.i2d (nI b)))) ≤ FP.Core.zval FP.Core.b64 (FP.Core.val64 FP.Core.dconst1) := by
  have hA := FP.Core.i2d_int (nI a)
  have hC := FP.Core.i2d_int (nI b)
  rw [nI_toInt (by omega)] at hA hC
  unfold FP.Core.DInt at hA hC
  rw [FP.Core.val64_ddiv, bl_one]
  generalize FP.Core.val64 (FP.Core.i2d (nI a)) = x at *
  generalize FP.Core.val64 (FP.Core.i2d (nI b)) = y at *
  cases x with
  | nan => exact hA.elim
  | inf => exact hA.elim
  | fin s c q =>
    cases y with
    | nan => exact hC.elim
    | inf => exact hC.elim
    | fin t d r =>
      have n1 := FP.Core.whole_natAbs hA
      have n2 := FP.Core.whole_natAbs hC
      have n3 : c * 2 ^ q.toNat = a * 2 ^ (-q).toNat := n1
      have n4 : d * 2 ^ r.toNat = b * 2 ^ (-r).toNat := n2
      have hd : ¬ d = 0 := fun z => by
        rw [z, Nat.zero_mul] at n4
        have h9 := Nat.mul_pos hb (Nat.two_pow_pos (-r).toNat)
        omega
      have e1 : FP.Core.quotient FP.Core.b64 (.fin s c q) (.fin t d r) = FP.Core.roundRatio FP.Core.b64 (s != t) a b 0 := by
        show (if d = 0 then _ else _) = _
        rw [if_neg hd]
        exact FP.Core.roundRatio_congr (by omega) hb (bl_pow n3 n4)
      rw [e1]
      refine ⟨FP.Core.roundRatio_ne_nan _ _ _ _ _, ?_⟩
      have hV : FP.Core.fits FP.Core.b64 (.fin false (2 ^ 52) (-52)) := by rw [← bl_one]; exact FP.Core.val64_fits _
      have hz : FP.Core.zmag FP.Core.b64 (FP.Core.roundRatio FP.Core.b64 (s != t) a b 0) ≤ 2 ^ 1074 := by
        have h := FP.Core.zmag_roundRatio_le FP.Core.good_b64 (s := (s != t)) (A := a) (B := b) (e := 0) (e0 := FP.Core.b64.qmin) hb hV (by intro z; cases z) (Int.le_refl _) (by rw [bl_qmin]; decide) (by
          rw [bl_z1]
          unfold FP.Core.inUnits
          rw [bl_qmin, show ((0 : Int) - -1074).toNat = 1074 by decide, show ((-1074 : Int) - -1074).toNat = 0 by decide, Nat.pow_zero, Nat.mul_one, Nat.mul_comm]
          exact Nat.mul_le_mul_left _ hab)
        rw [bl_z1] at h
        exact h
      have e2 : FP.Core.zval FP.Core.b64 (.fin false (2 ^ 52) (-52)) = ((2 ^ 1074 : Nat) : Int) := by
        unfold FP.Core.zval
        rw [bl_z1]
        rfl
      rw [e2]
      unfold FP.Core.zval
      rw [FP.Core.sgn_roundRatio]
      by_cases h0 : a = 0
      · subst h0
        have e3 : FP.Core.zmag FP.Core.b64 (FP.Core.roundRatio FP.Core.b64 (s != t) 0 b 0) = 0 := by
          show FP.Core.zmag FP.Core.b64 (if 0 = 0 then _ else _) = 0
          rw [if_pos rfl]
          show FP.Core.inUnits 0 _ _ = 0
          unfold FP.Core.inUnits
          rw [Nat.zero_mul]
        rw [e3]
        have e4 : ∀ w : Bool, FP.Core.signed w 0 = 0 := by intro w; cases w <;> rfl
        rw [e4]
        exact ⟨Int.le_refl _, Int.natCast_nonneg _⟩
      · have s1 := FP.Core.whole_sign hA (by omega)
        have s2 := FP.Core.whole_sign hC (by omega)
        have s3 : (s != t) = false := by
          rw [s1, s2, decide_eq_false (by omega), decide_eq_false (by omega)]; rfl
        rw [s3] at hz ⊢
        exact ⟨Int.natCast_nonneg _, Int.ofNat_le.mpr hz⟩
theorem bl_all {σ : Nat → Int32} {B : Nat} (hB : B < 2 ^ 31) (h : Cn σ B) : FP.Core.val64 (bal σ) ≠ .nan ∧ 0 ≤ FP.Core.zval FP.Core.b64 (FP.Core.val64 (bal σ)) ∧ FP.Core.zval FP.Core.b64 (FP.Core.val64 (bal σ)) ≤ FP.Core.zval FP.Core.b64 (FP.Core.val64 FP.Core.dconst1) := by
  obtain ⟨a, b, hab, hbB, ea, eb⟩ := mn_N hB h 6 (by omega)
  unfold bal
  rw [ea, eb]
  by_cases h0 : nI b = 0
  · rw [if_pos h0]
    show FP.Core.val64 FP.Core.dconst1 ≠ .nan ∧ 0 ≤ FP.Core.zval FP.Core.b64 (FP.Core.val64 FP.Core.dconst1) ∧ _
    refine ⟨?_, ?_, Int.le_refl _⟩
    · rw [bl_one]; intro z; cases z
    · rw [bl_one]
      unfold FP.Core.zval
      exact Int.natCast_nonneg _
  · rw [if_neg h0]
    have hb : 0 < b := by
      rcases Nat.eq_zero_or_pos b with z | z
      · rw [z] at h0; exact absurd rfl h0
      · exact z
    exact bl_div hab hb (by omega)
theorem bl_c0 (o : Option Ordering) (h : o = some .gt ∨ o = some .eq) : ¬ Op.cmpValue o .l < 0 := by rcases h with h | h <;> rw [h] <;> decide
theorem bl_c1 (o : Option Ordering) (h : o = some .lt ∨ o = some .eq) : ¬ 0 < Op.cmpValue o .g := by rcases h with h | h <;> rw [h] <;> decide
theorem bal_0 {σ : Nat → Int32} {B : Nat} (hB : B < 2 ^ 31) (h : Cn σ B) : ¬ Op.cmpValue (FP.dcmp (bal σ) FP.dconst0) .l < 0 := by
  obtain ⟨h1, h2, h3⟩ := bl_all hB h
  refine bl_c0 _ (FP.Core.dcmp_ge.mpr ⟨h1, ?_, ?_⟩)
  · show FP.Core.val64 0 ≠ .nan
    rw [FP.Core.val64_zero]; intro z; cases z
  · show FP.Core.zval FP.Core.b64 (FP.Core.val64 0) ≤ _
    rw [FP.Core.zval64_zero]
    exact h2
theorem bal_1 {σ : Nat → Int32} {B : Nat} (hB : B < 2 ^ 31) (h : Cn σ B) : ¬ 0 < Op.cmpValue (FP.dcmp (bal σ) FP.dconst1) .g := by
  obtain ⟨h1, h2, h3⟩ := bl_all hB h
  refine bl_c1 _ (FP.Core.dcmp_le.mpr ⟨h1, ?_, h3⟩)
  show FP.Core.val64 FP.Core.dconst1 ≠ .nan
  rw [bl_one]; intro z; cases z
theorem bal_ini : Op.cmpValue (FP.dcmp (bal iniS) FP.dconst1) .l = 0 := by
  have e : bal iniS = FP.dconst1 := by
    unfold bal
    rw [if_pos (by decide)]
  rw [e]
  decide +kernel
