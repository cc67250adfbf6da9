def hK (kept : Nat → Int32) (st : Nat) : Nat → Int32 := fun i => kept (st * 86 + i)
theorem Val_congr {f g : Nat → Int32} (h : ∀ i, i < 86 → f i = g i) (hv : Val f) : Val g :=
  ⟨fun k hk => by rw [← h k (by omega)]; exact hv.1 k hk, fun d hd => by rw [← h (63 + d) (by omega)]; exact hv.2.1 d hd, by rw [← h 84 (by omega)]; exact hv.2.2⟩
theorem Val_sRd {σ : Nat → Int32} (hv : Val σ) {x : Int32} (h : cRd σ x = 0) : Val (sRd σ x) := by
  unfold cRd at h
  by_cases q : inR x 42 = true
  · obtain ⟨j, hj, e⟩ := inR_nI q
    have hx : ix x = j := by rw [e]; exact nI_clamp (by omega)
    unfold sRd
    rw [hx]
    split
    · exact Val_rd hv (ad_lt hj)
    · exact Val_f2 hv (ad_lt hj)
  · rw [if_neg q] at h; omega
theorem Val_cWr {σ : Nat → Int32} (hv : Val σ) {x v : Int32} (h : cWr σ x v = 0) : Val (wD σ (ix x) v) := by
  unfold cWr at h
  by_cases q : inR x 42 = true
  · rw [if_pos q] at h
    by_cases q2 : inR v 65536 = true
    · obtain ⟨j, hj, e⟩ := inR_nI q
      obtain ⟨u, hu, e2⟩ := inR_nI q2
      have hx : ix x = j := by rw [e]; exact nI_clamp (by omega)
      rw [hx, e2]
      exact Val_wD hv hj hu
    · rw [if_neg q2] at h; omega
  · rw [if_neg q] at h; omega
theorem Val_cFl {σ : Nat → Int32} (hv : Val σ) {x : Int32} (h : cFl σ x = 0) : Val (failS σ (ix x)) := by
  obtain ⟨j, hj, e⟩ := inR_nI (cFl_R h)
  have hx : ix x = j := by rw [e]; exact nI_clamp (by omega)
  rw [hx]
  exact Val_fail hv hj
theorem Val_cBg {σ : Nat → Int32} (hv : Val σ) {x : Int32} (h : cBg σ x = 0) : Val (begS σ (ix x)) := by
  have hR := cBg_R h
  obtain ⟨j, hj, e⟩ := inR_nI hR
  have hx : ix x = j := by rw [e]; exact nI_clamp (by omega)
  unfold cBg at h
  rw [if_pos hR] at h
  rw [hx]
  refine Val_beg hv hj (fun q => ?_)
  rw [if_pos (Or.inr q)] at h
  omega
theorem Val_cAs {σ : Nat → Int32} (hv : Val σ) (h : cAs σ = 0) : Val (upd σ 84 (σ 84 + 1)) := by
  obtain ⟨n, hn, e⟩ := hv.2.2
  have hn5 : n ≠ 5 := fun q => by
    unfold cAs at h
    rw [if_pos (by rw [e, q]; rfl)] at h
    omega
  refine ⟨fun k hk => by rw [upd_ne (by omega)]; exact hv.1 k hk, fun d hd => by rw [upd_ne (by omega)]; exact hv.2.1 d hd, n + 1, by omega, ?_⟩
  rw [upd_eq, e, nI_1]
theorem Val_cCo {σ : Nat → Int32} (hv : Val σ) {d q v : Int32} (h : cCo σ d q v = 0) : Val (upd σ (9 * ix d + ix q) v) := by
  unfold cCo at h
  by_cases c : (inR d 7 && inR q 9) = true
  · rw [if_pos c] at h
    have c' := c
    rw [Bool.and_eq_true] at c'
    obtain ⟨i, hi, e1⟩ := inR_nI c'.1
    obtain ⟨j, hj, e2⟩ := inR_nI c'.2
    have hx1 : ix d = i := by rw [e1]; exact nI_clamp (by omega)
    have hx2 : ix q = j := by rw [e2]; exact nI_clamp (by omega)
    by_cases c2 : inR v 65536 = true
    · obtain ⟨u, hu, e3⟩ := inR_nI c2
      rw [hx1, hx2]
      refine ⟨fun k hk => ?_, fun x hx => by rw [upd_ne (by omega)]; exact hv.2.1 x hx, by rw [upd_ne (by omega)]; exact hv.2.2⟩
      by_cases qk : k = 9 * i + j
      · rw [qk, upd_eq]; exact ⟨u, hu, e3⟩
      · rw [upd_ne qk]; exact hv.1 k hk
    · rw [if_neg c2] at h; omega
  · rw [if_neg c] at h; omega
