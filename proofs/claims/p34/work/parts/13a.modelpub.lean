def cRd (σ : Nat → Int32) (x : Int32) : Nat := if inR x 42 = true then (if lo σ (ad (ix x)) = true then 2 else 0) else 1
def sRd (σ : Nat → Int32) (x : Int32) : Nat → Int32 := if th σ (ad (ix x)) = true then rdS σ (ad (ix x)) else f2S σ (ad (ix x))
def cMe (x : Int32) : Nat := if inB x 1 9 = true then 0 else 1
def cAs (σ : Nat → Int32) : Nat := if σ 84 = 5 then 1 else 0
def cCo (σ : Nat → Int32) (d q v : Int32) : Nat := if (inR d 7 && inR q 9) = true then (if inR v 65536 = true then (if th σ (9 * ix d + ix q) = true then 0 else 3) else 2) else 1
def c1 (x : Int32) (n : Nat) : Nat := if inR x n = true then 0 else 1
def c2 (x : Int32) (n : Nat) (y : Int32) (k : Nat) : Nat := if (inR x n && inR y k) = true then 0 else 1
theorem cWr_le (σ : Nat → Int32) (x v : Int32) : cWr σ x v ≤ 3 := by unfold cWr; repeat' split
                                                                     all_goals omega
theorem cFl_le (σ : Nat → Int32) (x : Int32) : cFl σ x ≤ 2 := by unfold cFl; repeat' split
                                                                 all_goals omega
theorem cBg_le (σ : Nat → Int32) (x : Int32) : cBg σ x ≤ 2 := by unfold cBg; repeat' split
                                                                 all_goals omega
theorem cFl_R {σ : Nat → Int32} {x : Int32} (h : cFl σ x = 0) : inR x 7 = true := by
  unfold cFl at h
  split at h
  · assumption
  · cases h
theorem cBg_R {σ : Nat → Int32} {x : Int32} (h : cBg σ x = 0) : inR x 7 = true := by
  unfold cBg at h
  split at h
  · assumption
  · cases h
theorem inB_nI {x : Int32} (h : inB x 1 9 = true) : ∃ j : Nat, j ≤ 9 ∧ x = nI j := by
  have h2 : inR x 10 = true := by
    rw [← inB_R (show 9 + 1 < 2 ^ 31 by omega)]
    simp only [inB, Bool.and_eq_true, decide_eq_true_eq] at h ⊢
    refine ⟨?_, h.2⟩
    have h3 := Int32.le_iff_toInt_le.mp h.1
    rw [Int32.le_iff_toInt_le, nI_toInt (by omega)]
    rw [nI_toInt (by omega)] at h3
    omega
  obtain ⟨j, hj, e⟩ := inR_nI h2
  exact ⟨j, by omega, e⟩
