/-- low ≤ v ≤ high -/
def inB (v : Int32) (lo hi : Nat) : Bool := decide (nI lo ≤ v) && decide (v ≤ nI hi)
theorem inB_R {x : Int32} {n : Nat} (hn : n + 1 < 2 ^ 31) : inB x 0 n = inR x (n + 1) := by
  have h1 : (nI 0 ≤ x) ↔ 0 ≤ x.toInt := by rw [Int32.le_iff_toInt_le, nI_toInt (by omega)]; rfl
  have h2 : (x ≤ nI n) ↔ x.toInt < ((n + 1 : Nat) : Int) := by rw [Int32.le_iff_toInt_le, nI_toInt (by omega)]; omega
  simp only [inB, inR, h1, h2]
theorem Val_kn {σ : Nat → Int32} (hv : Val σ) {k : Nat} (hk : k < 63) (h : lo σ k = false) : ∃ n : Nat, n < 65536 ∧ kn σ k = nI n := by
  unfold kn
  rw [h]
  simp only [Bool.false_eq_true, if_false]
  split
  · exact hv.1 k hk
  · exact Val_xor hv (nx_lt hk 1) (nx_lt hk 2)
theorem Val_fail {σ : Nat → Int32} (hv : Val σ) {d : Nat} (hd : d < 7) : Val (failS σ d) := by
  refine ⟨fun j hj => ?_, fun x hx => ?_, ?_⟩
  · have h1 : ¬ j = 63 + d := by omega
    simp only [failS, h1, if_false]
    split
    · exact ⟨0, by omega, rfl⟩
    · exact hv.1 j hj
  · simp only [failS]
    split
    · exact Or.inl rfl
    · have h1 : ¬ (9 * d ≤ 63 + x ∧ 63 + x < 9 * d + 9) := by omega
      simp only [h1, if_false]
      exact hv.2.1 x hx
  · have h1 : ¬ 84 = 63 + d := by omega
    have h2 : ¬ (9 * d ≤ 84 ∧ 84 < 9 * d + 9) := by omega
    simp only [failS, h1, h2, if_false]
    exact hv.2.2
