/-! The saved states: the ring of the array, the row of the reference. -/
def sl (nxt many j : Nat) : Nat := (nxt + 6 - many + j) % 6
def hK (kept : Nat → Int32) (st : Nat) : Nat → Int32 := fun i => kept (st * 86 + i)
def HI (kept : Nat → Int32) (nxt many : Nat) (saved : Nat → Int32) : Prop := nxt < 6 ∧ many ≤ 6 ∧ ∀ j, j < many → Val (hK kept (sl nxt many j)) ∧ ∀ i, i < 86 → saved (86 * j + i) = mS (hK kept (sl nxt many j)) i
theorem Val_congr {f g : Nat → Int32} (h : ∀ i, i < 86 → f i = g i) (hv : Val f) : Val g :=
  ⟨fun k hk => by rw [← h k (by omega)]; exact hv.1 k hk, fun d hd => by rw [← h (63 + d) (by omega)]; exact hv.2.1 d hd, by rw [← h 84 (by omega)]; exact hv.2.2⟩
theorem mS_congr {f g : Nat → Int32} (h : ∀ i, i < 86 → f i = g i) {i : Nat} (hi : i < 86) : mS f i = mS g i := by
  unfold mS
  split
  · exact h _ (by omega)
  · split
    · exact h _ (by omega)
    · exact h _ hi
theorem hK_other {kept σ : Nat → Int32} {nxt st : Nat} (h : st ≠ nxt) {i : Nat} (hi : i < 86) : hK (cpK kept σ (nxt * 86) 86) st i = hK kept st i := by
  unfold hK cpK
  rw [if_neg (by omega)]
theorem hK_same {kept σ : Nat → Int32} {nxt : Nat} {i : Nat} (hi : i < 86) : hK (cpK kept σ (nxt * 86) 86) nxt i = σ i := by
  unfold hK cpK
  rw [if_pos (by omega)]
  congr 1
  omega
theorem HI.pop {kept saved : Nat → Int32} {nxt many : Nat} (h : HI kept nxt many saved) (h0 : 0 < many) : HI kept ((nxt + 6 - 1) % 6) (many - 1) saved ∧ Val (hK kept ((nxt + 6 - 1) % 6)) ∧ ∀ i, i < 86 → saved (86 * (many - 1) + i) = mS (hK kept ((nxt + 6 - 1) % 6)) i := by
  obtain ⟨h1, h2, h3⟩ := h
  refine ⟨⟨Nat.mod_lt _ (by omega), by omega, fun j hj => ?_⟩, ?_⟩
  · have e : sl ((nxt + 6 - 1) % 6) (many - 1) j = sl nxt many j := by unfold sl; omega
    rw [e]
    exact h3 j (by omega)
  · have e : sl nxt many (many - 1) = (nxt + 6 - 1) % 6 := by unfold sl; omega
    rw [← e]
    exact h3 (many - 1) (by omega)
theorem HI.push {kept saved σ : Nat → Int32} {nxt many : Nat} (h : HI kept nxt many saved) (hv : Val σ) : HI (cpK kept σ (nxt * 86) 86) ((nxt + 1) % 6) (min (many + 1) 6) (svS saved many (mS σ)) := by
  obtain ⟨h1, h2, h3⟩ := h
  refine ⟨Nat.mod_lt _ (by omega), by omega, fun j hj => ?_⟩
  by_cases q : many = 6
  · by_cases qj : j = 5
    · have e : sl ((nxt + 1) % 6) (min (many + 1) 6) j = nxt := by unfold sl; omega
      rw [e]
      refine ⟨Val_congr (fun i hi => (hK_same hi).symm) hv, fun i hi => ?_⟩
      rw [mS_congr (fun k hk => hK_same hk) hi]
      unfold svS cpG
      rw [if_pos q, if_pos (by omega)]
      exact congrArg (mS σ) (by omega)
    · have e : sl ((nxt + 1) % 6) (min (many + 1) 6) j = sl nxt many (j + 1) := by unfold sl; omega
      have hn : sl nxt many (j + 1) ≠ nxt := by unfold sl; omega
      rw [e]
      obtain ⟨a1, a2⟩ := h3 (j + 1) (by omega)
      refine ⟨Val_congr (fun i hi => (hK_other hn hi).symm) a1, fun i hi => ?_⟩
      rw [mS_congr (fun k hk => hK_other hn hk) hi, ← a2 i hi]
      unfold svS cpG cpF
      rw [if_pos q, if_neg (by omega), if_pos (by omega)]
      congr 1
      omega
  · by_cases qj : j = many
    · have e : sl ((nxt + 1) % 6) (min (many + 1) 6) j = nxt := by unfold sl; omega
      rw [e]
      refine ⟨Val_congr (fun i hi => (hK_same hi).symm) hv, fun i hi => ?_⟩
      rw [mS_congr (fun k hk => hK_same hk) hi]
      unfold svS cpG
      rw [if_neg q, if_pos (by omega)]
      congr 1
      omega
    · have e : sl ((nxt + 1) % 6) (min (many + 1) 6) j = sl nxt many j := by unfold sl; omega
      have hn : sl nxt many j ≠ nxt := by unfold sl; omega
      rw [e]
      obtain ⟨a1, a2⟩ := h3 j (by omega)
      refine ⟨Val_congr (fun i hi => (hK_other hn hi).symm) a1, fun i hi => ?_⟩
      rw [mS_congr (fun k hk => hK_other hn hk) hi, ← a2 i hi]
      unfold svS cpG
      rw [if_neg q, if_neg (by omega)]
/-- a state given back -/
theorem cpF_hK (σ kept : Nat → Int32) (st : Nat) : (∀ i, i < 86 → cpF σ kept (st * 86) 86 i = hK kept st i) ∧ ∀ i, 86 ≤ i → σ i = cpF σ kept (st * 86) 86 i := by
  refine ⟨fun i hi => ?_, fun i hi => ?_⟩
  · unfold cpF hK; rw [if_pos hi]
  · unfold cpF; rw [if_neg (by omega)]
theorem HI.undo {kept saved σ : Nat → Int32} {nxt many : Nat} (h : HI kept nxt many saved) (h0 : 0 < many) : Val (cpF σ kept ((nxt + 6 - 1) % 6 * 86) 86) ∧ (∀ i, i < 86 → saved (86 * (many - 1) + i) = mS (cpF σ kept ((nxt + 6 - 1) % 6 * 86) 86) i) ∧ ∀ i, 86 ≤ i → σ i = cpF σ kept ((nxt + 6 - 1) % 6 * 86) 86 i := by
  obtain ⟨-, h2, h3⟩ := h.pop h0
  obtain ⟨c1, c2⟩ := cpF_hK σ kept ((nxt + 6 - 1) % 6)
  exact ⟨Val_congr (fun i hi => (c1 i hi).symm) h2, fun i hi => by rw [h3 i hi, mS_congr c1 hi], c2⟩
-- ---- what every change keeps
theorem Val_sRd {σ : Nat → Int32} (hv : Val σ) {x : Int32} (h : cRd σ x = 0) : Val (sRd σ x) := by
  unfold cRd at h
  by_cases q : inR x 42 = true
  · obtain ⟨j, hj, e⟩ := inR_nI q
    have hx : ix x = j := by rw [e]; exact nI_clamp (by omega)
    unfold sRd
    rw [hx]
    split
    · exact Val_rd hv (ad_lt hj)
    · exact Val_f2 hv (ad_lt hj)
  · rw [if_neg q] at h; omega
theorem Val_cWr {σ : Nat → Int32} (hv : Val σ) {x v : Int32} (h : cWr σ x v = 0) : Val (wD σ (ix x) v) := by
  unfold cWr at h
  by_cases q : inR x 42 = true
  · rw [if_pos q] at h
    by_cases q2 : inR v 65536 = true
    · obtain ⟨j, hj, e⟩ := inR_nI q
      obtain ⟨u, hu, e2⟩ := inR_nI q2
      have hx : ix x = j := by rw [e]; exact nI_clamp (by omega)
      rw [hx, e2]
      exact Val_wD hv hj hu
    · rw [if_neg q2] at h; omega
  · rw [if_neg q] at h; omega
theorem Val_cFl {σ : Nat → Int32} (hv : Val σ) {x : Int32} (h : cFl σ x = 0) : Val (failS σ (ix x)) := by
  obtain ⟨j, hj, e⟩ := inR_nI (cFl_R h)
  have hx : ix x = j := by rw [e]; exact nI_clamp (by omega)
  rw [hx]
  exact Val_fail hv hj
theorem Val_cBg {σ : Nat → Int32} (hv : Val σ) {x : Int32} (h : cBg σ x = 0) : Val (begS σ (ix x)) := by
  have hR := cBg_R h
  obtain ⟨j, hj, e⟩ := inR_nI hR
  have hx : ix x = j := by rw [e]; exact nI_clamp (by omega)
  unfold cBg at h
  rw [if_pos hR] at h
  rw [hx]
  refine Val_beg hv hj (fun q => ?_)
  rw [if_pos (Or.inr q)] at h
  omega
theorem Val_cAs {σ : Nat → Int32} (hv : Val σ) (h : cAs σ = 0) : Val (upd σ 84 (σ 84 + 1)) := by
  obtain ⟨n, hn, e⟩ := hv.2.2
  have hn5 : n ≠ 5 := fun q => by
    unfold cAs at h
    rw [if_pos (by rw [e, q]; rfl)] at h
    omega
  refine ⟨fun k hk => by rw [upd_ne (by omega)]; exact hv.1 k hk, fun d hd => by rw [upd_ne (by omega)]; exact hv.2.1 d hd, n + 1, by omega, ?_⟩
  rw [upd_eq, e, nI_1]
theorem Val_cCo {σ : Nat → Int32} (hv : Val σ) {d q v : Int32} (h : cCo σ d q v = 0) : Val (upd σ (9 * ix d + ix q) v) := by
  unfold cCo at h
  by_cases c : (inR d 7 && inR q 9) = true
  · rw [if_pos c] at h
    have c' := c
    rw [Bool.and_eq_true] at c'
    obtain ⟨i, hi, e1⟩ := inR_nI c'.1
    obtain ⟨j, hj, e2⟩ := inR_nI c'.2
    have hx1 : ix d = i := by rw [e1]; exact nI_clamp (by omega)
    have hx2 : ix q = j := by rw [e2]; exact nI_clamp (by omega)
    by_cases c2 : inR v 65536 = true
    · obtain ⟨u, hu, e3⟩ := inR_nI c2
      rw [hx1, hx2]
      refine ⟨fun k hk => ?_, fun x hx => by rw [upd_ne (by omega)]; exact hv.2.1 x hx, by rw [upd_ne (by omega)]; exact hv.2.2⟩
      by_cases qk : k = 9 * i + j
      · rw [qk, upd_eq]; exact ⟨u, hu, e3⟩
      · rw [upd_ne qk]; exact hv.1 k hk
    · rw [if_neg c2] at h; omega
  · rw [if_neg c] at h; omega
theorem Val_exT {tx : Nat → Nat} {n : Nat} (ht : ∀ i, tx i ≤ 126) : ∀ (k i : Nat) {σ : Nat → Int32}, Val σ → (pv tx n k i).1 = true → Val (exT tx n k i σ).1 := by
  intro k
  induction k with
  | zero => intro i σ hv _; exact hv
  | succ k ih =>
    intro i σ hv hp
    have hok : (pO tx n i).1 = true := by
      by_cases h : (pO tx n i).1 = true
      · exact h
      · rw [pv_f (by simpa using h)] at hp; cases hp
    by_cases h0 : 0 < errO σ (pO tx n i).2.2.1 (pO tx n i).2.2.2.1
    · rw [exT_0 h0]; exact hv
    · have hd : Val (doO σ (pO tx n i).2.2.1 (pO tx n i).2.2.2.1 (pO tx n i).2.2.2.2) := Val_do hv (po_OK ht hok) (by omega)
      by_cases h1 : (pO tx n i).2.1 = n
      · rw [exT_1 h0 h1]; exact hd
      · rw [exT_s h0 h1]
        rw [pv_s hok h1] at hp
        refine ih _ hd ?_
        by_cases h2 : nxt tx n (pO tx n i).2.1 59 59 = true
        · rw [if_pos h2] at hp; exact hp
        · rw [if_neg h2] at hp; cases hp
