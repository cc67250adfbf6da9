theorem Val_wD {σ : Nat → Int32} (hv : Val σ) {q v : Nat} (hq : q < 42) (hv2 : v < 65536) : Val (wD σ q (nI v)) := by
  have h1 := ad_lt hq
  have h2 := adP_lt hq
  have h3 := adO_lt hq
  have hx : ∀ k, k < 63 → ∃ c : Nat, c < 65536 ∧ σ k ^^^ nI v = nI c := fun k hk => by
    obtain ⟨a, ha, e⟩ := hv.1 k hk
    rw [e]; exact nI_xor ha hv2
  unfold wD
  split
  · split
    · refine Val_wr (Val_wr (Val_rd (Val_rd hv h1) h2) h1 ⟨v, hv2, rfl⟩) h2 ?_
      obtain ⟨a, ha, e⟩ := hv.1 _ h2
      obtain ⟨c, hc, e2⟩ := hx _ h1
      rw [e, e2]; exact nI_xor ha hc
    · exact Val_wr hv h1 ⟨v, hv2, rfl⟩
  · exact Val_wr (Val_rd hv h3) h2 (hx _ h3)
theorem Val_beg {σ : Nat → Int32} (hv : Val σ) {d : Nat} (hd : d < 7) (h : ¬ σ 84 = 0) : Val (begS σ d) := by
  obtain ⟨n, hn, e⟩ := hv.2.2
  have hn0 : n ≠ 0 := fun q => h (by rw [e, q]; rfl)
  refine ⟨fun j hj => ?_, fun x hx => ?_, ?_⟩
  · unfold begS; rw [upd_ne (by omega), upd_ne (by omega)]; exact hv.1 j hj
  · unfold begS
    by_cases q : x = d
    · rw [q, upd_eq]; exact Or.inr ⟨0, by omega, rfl⟩
    · rw [upd_ne (by omega), upd_ne (by omega)]; exact hv.2.1 x hx
  · unfold begS
    rw [upd_ne (by omega), upd_eq, e]
    exact ⟨n - 1, by omega, by rw [show (1 : Int32) = nI 1 from rfl, pk_sub (by omega)]⟩
theorem Val_mn : ∀ (n : Nat) {σ : Nat → Int32}, Val σ → Val (mnS n σ).1 := by
  intro n
  induction n with
  | zero => intro σ hv; exact hv
  | succ n ih =>
    intro σ hv
    simp only [mnS]
    split
    · rename_i h; exact ih (Val_mend hv h)
    · exact hv
theorem Val_sc {σ : Nat → Int32} (hv : Val σ) : ∀ n, n ≤ 21 → Val (scS σ n) := by
  intro n
  induction n with
  | zero => intro _; exact hv
  | succ n ih =>
    intro hn
    have h := ih (by omega)
    have h0 : spT (3 * n) < 63 := sp_lt (u := 0) (by omega) (by omega)
    have h1 : spT (3 * n + 1) < 63 := sp_lt (by omega) (by omega)
    have h2 : spT (3 * n + 2) < 63 := sp_lt (by omega) (by omega)
    have hR : Val (scR (scS σ n) n) := Val_rd (Val_rd (Val_rd h h0) h1) h2
    simp only [scS]
    unfold scA
    split
    · split
      · exact Val_wr hR h2 (Val_xor h h0 h1)
      · exact hR
    · exact h
