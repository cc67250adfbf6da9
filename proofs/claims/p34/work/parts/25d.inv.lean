/-! What each act keeps: fl the law's two marks (a fault was made; two discs were not sound at once), vf the values given last. -/
def Inv (σ fl vf : Nat → Int32) (B : Nat) : Prop := Val σ ∧ Cn σ B ∧ (fl 0 = 0 ∨ fl 0 = 1) ∧ (fl 1 = 0 ∨ fl 1 = 1) ∧ (fl 1 = 0 → One σ ∧ σ 85 = 0) ∧ (fl 0 = 0 → σ 85 = 0 → Rt σ) ∧ (fl 0 = 0 → fl 1 = 0 → ∀ q, q < 42 → kn σ (ad q) = vf q)
theorem Inv_mono {σ fl vf : Nat → Int32} {B C : Nat} (h : Inv σ fl vf B) (hB : B ≤ C) : Inv σ fl vf C := ⟨h.1, Cn_mono h.2.1 hB, h.2.2⟩
theorem One_E {σ τ : Nat → Int32} (h : ∀ d, d < 7 → τ (63 + d) = σ (63 + d)) (g : One σ) : One τ := fun a b ha hb qa qb => by
  rw [h a ha] at qa
  rw [h b hb] at qb
  exact g a b ha hb qa qb
/-- an act that shows the same units, discs and losses -/
theorem Inv_same {σ τ fl vf : Nat → Int32} {B C : Nat} (h : Inv σ fl vf B) (hv : Val τ) (hc : Cn τ C) (hT : ThE τ σ) (hp : ∀ d, d < 7 → τ (63 + d) = σ (63 + d)) (h85 : τ 85 = σ 85) : Inv τ fl vf C := by
  obtain ⟨i1, i2, i3, i4, i5, i6, i7⟩ := h
  refine ⟨hv, hc, i3, i4, fun c => ⟨One_E hp (i5 c).1, by rw [h85]; exact (i5 c).2⟩, fun c l => T_rt hT.symm (i6 c (by rw [← h85]; exact l)), fun c d q hq => ?_⟩
  rw [T_kn hT (ad_lt hq)]
  exact i7 c d q hq
theorem rS_85 (σ : Nat → Int32) {q : Nat} (hq : q < 42) {j : Nat} (hj : 77 ≤ j) : rS σ q j = σ j := by
  have h := ad_lt hq
  unfold rS
  split
  · exact rd_h _ h hj
  · unfold f2S
    rw [rd_h _ (nx_lt h 2) hj, rd_h _ (nx_lt h 1) hj]
theorem Val_rS {σ : Nat → Int32} (hv : Val σ) {q : Nat} (hq : q < 42) : Val (rS σ q) := by
  unfold rS
  split
  · exact Val_rd hv (ad_lt hq)
  · exact Val_f2 hv (ad_lt hq)
theorem Inv_read {σ fl vf : Nat → Int32} {B : Nat} (h : Inv σ fl vf B) {q : Nat} (hq : q < 42) : Inv (rS σ q) fl vf (B + 2) :=
  Inv_same h (Val_rS h.1 hq) (Cn_rS hq h.2.1) (rS_T σ q) (fun d hd => rS_70 σ q (by omega)) (rS_85 σ hq (by omega))
theorem wD_85 {σ : Nat → Int32} {q : Nat} (hq : q < 42) (v : Int32) {j : Nat} (hj : 84 ≤ j) : wD σ q v j = σ j := by
  have h1 := ad_lt hq
  have h2 := adP_lt hq
  have h3 := adO_lt hq
  unfold wD
  split
  · split
    · rw [wr_h _ _ h2 (by omega) (by omega), wr_h _ _ h1 (by omega) (by omega), rd_h _ h2 (by omega), rd_h _ h1 (by omega)]
    · rw [wr_h _ _ h1 (by omega) (by omega)]
  · rw [wr_h _ _ h2 (by omega) (by omega), rd_h _ h3 (by omega)]
theorem Inv_write {σ fl vf : Nat → Int32} {B : Nat} (h : Inv σ fl vf B) {q v : Nat} (hq : q < 42) (hv : v < 65536) (hc : canW σ q = true) : Inv (wD σ q (nI v)) fl (upd vf q (nI v)) (B + 2) := by
  obtain ⟨i1, i2, i3, i4, i5, i6, i7⟩ := h
  refine ⟨Val_wD i1 hq hv, Cn_wD hq _ i2, i3, i4, fun c => ⟨One_E (fun d hd => wD_pr σ hq _ (by omega) (by omega)) (i5 c).1, by rw [wD_85 hq _ (by omega)]; exact (i5 c).2⟩, fun c l => Rt_wD hq _ (i6 c (by rw [wD_85 hq _ (by omega)] at l; exact l)), fun c d r hr => ?_⟩
  rw [kn_wD hq hr _ hc]
  by_cases e : r = q
  · rw [if_pos e, e, upd_eq]
  · rw [if_neg e, upd_ne e]
    exact i7 c d r hr
theorem canW_One {σ : Nat → Int32} (h : One σ) {q : Nat} (hq : q < 42) : canW σ q = true := by
  unfold canW
  rw [lo_One h (ad_lt hq)]
  rfl
theorem Inv_nowrite {σ fl vf : Nat → Int32} {B : Nat} (h : Inv σ fl vf B) {q : Nat} (v : Int32) (hq : q < 42) (hc : canW σ q = false) : Inv σ fl (upd vf q v) B := by
  obtain ⟨i1, i2, i3, i4, i5, i6, i7⟩ := h
  refine ⟨i1, i2, i3, i4, i5, i6, fun c d r hr => ?_⟩
  rw [canW_One (i5 d).1 hq] at hc
  cases hc
theorem Inv_mark1 {σ fl vf : Nat → Int32} {B : Nat} (h : Inv σ fl vf B) : Inv σ (upd fl 1 1) vf B := by
  obtain ⟨i1, i2, i3, i4, i5, i6, i7⟩ := h
  have e0 : upd fl 1 1 0 = fl 0 := upd_ne (by omega)
  have e1 : upd fl 1 1 1 = 1 := upd_eq _ _ _
  refine ⟨i1, i2, by rw [e0]; exact i3, Or.inr e1, fun c => ?_, fun c => i6 (by rw [← e0]; exact c), fun _ c => ?_⟩
  · rw [e1] at c; exact absurd c (by decide)
  · rw [e1] at c; exact absurd c (by decide)
theorem Inv_mark0 {σ fl vf : Nat → Int32} {B : Nat} (h : Inv σ fl vf B) : Inv σ (upd fl 0 1) vf B := by
  obtain ⟨i1, i2, i3, i4, i5, i6, i7⟩ := h
  have e0 : upd fl 0 1 1 = fl 1 := upd_ne (by omega)
  have e1 : upd fl 0 1 0 = 1 := upd_eq _ _ _
  refine ⟨i1, i2, Or.inr e1, by rw [e0]; exact i4, fun c => i5 (by rw [← e0]; exact c), fun c => ?_, fun c => ?_⟩
  · rw [e1] at c; exact absurd c (by decide)
  · rw [e1] at c; exact absurd c (by decide)
theorem upd_self (f : Nat → Int32) (k : Nat) : upd f k (f k) = f := by
  funext j
  by_cases h : j = k
  · rw [h, upd_eq]
  · rw [upd_ne h]
theorem Inv_fail {σ fl vf : Nat → Int32} {B : Nat} (h : Inv σ fl vf B) {d : Nat} (hd : d < 7) (ho : fl 1 = 0 → ∀ e, e < 7 → e ≠ d → σ (63 + e) = 9) : Inv (failS σ d) fl vf B := by
  obtain ⟨i1, i2, i3, i4, i5, i6, i7⟩ := h
  refine ⟨Val_fail i1 hd, Cn_fail hd i2, i3, i4, fun c => ⟨One_fail hd (ho c), by rw [fail_h hd (by omega)]; exact (i5 c).2⟩, fun c l => Rt_fail hd (i6 c (by rw [fail_h hd (by omega)] at l; exact l)), fun c e q hq => ?_⟩
  rw [kn_fail hd (ho e) (i6 c (i5 e).2) (ad_lt hq)]
  exact i7 c e q hq
theorem Inv_fail1 {σ fl vf : Nat → Int32} {B : Nat} (h : Inv σ fl vf B) {d : Nat} (hd : d < 7) : Inv (failS σ d) (upd fl 1 1) vf B :=
  Inv_fail (Inv_mark1 h) hd (fun c => by rw [upd_eq] at c; exact absurd c (by decide))
theorem Inv_beg {σ fl vf : Nat → Int32} {B : Nat} (h : Inv σ fl vf B) {d : Nat} (hd : d < 7) (h1 : σ (63 + d) = -1) (h2 : ¬ σ 84 = 0) : Inv (begS σ d) fl vf B := by
  have hT := beg_T hd h1
  obtain ⟨i1, i2, i3, i4, i5, i6, i7⟩ := h
  have e85 : begS σ d 85 = σ 85 := beg_h hd (by omega) (by omega)
  refine ⟨Val_beg i1 hd h2, Cn_beg hd i2, i3, i4, fun c => ⟨One_beg hd h1 (i5 c).1, by rw [e85]; exact (i5 c).2⟩, fun c l => T_rt hT.symm (i6 c (by rw [← e85]; exact l)), fun c e q hq => ?_⟩
  rw [T_kn hT (ad_lt hq)]
  exact i7 c e q hq
theorem nI_s0 {n : Nat} (h : n + 1 < 2 ^ 31) : ¬ nI n + 1 = 0 := by
  rw [nI_1, ← nI_0, nI_eq h (by omega)]
  omega
theorem Inv_mend {σ fl vf : Nat → Int32} {B : Nat} (hB : B < 100000) (h : Inv σ fl vf B) (hm : lm σ < 7) : Inv (mendS σ (lm σ)) fl vf (B + 2) := by
  obtain ⟨i1, i2, i3, i4, i5, i6, i7⟩ := h
  obtain ⟨g, hg, e, hk, hp, hu, h84, h85⟩ := mend_p i1 hm
  refine ⟨Val_mend i1 hm, Cn_mend i1 hm i2, i3, i4, fun c => ⟨One_mend i1 hm (i5 c).1, by rw [h85, if_pos (cf_mend i1 hm (i5 c).1)]; exact (i5 c).2⟩, fun c l => ?_, fun c d q hq => ?_⟩
  · rw [h85] at l
    by_cases hc : cf σ (mkS σ (lm σ)) = true
    · rw [if_pos hc] at l
      exact Rt_mend i1 hm hc (i6 c l)
    · rw [if_neg hc] at l
      obtain ⟨n, a, b⟩ := i2.2
      rw [b] at l
      exact absurd l (nI_s0 (by omega))
  · rw [kn_mend i1 hm (i5 d).1 (ad_lt hq)]
    exact i7 c d q hq
theorem Inv_mn : ∀ (n : Nat) {σ fl vf : Nat → Int32} {B : Nat}, B + 2 * n < 100000 → Inv σ fl vf B → Inv (mnS n σ).1 fl vf (B + 2 * n) := by
  intro n
  induction n with
  | zero => exact fun _ h => h
  | succ n ih =>
    intro σ fl vf B hB h
    simp only [mnS]
    by_cases hm : lm σ < 7
    · rw [if_pos hm]
      have h2 := ih (by omega) (Inv_mend (by omega) h hm)
      exact Inv_mono h2 (by omega)
    · rw [if_neg hm]
      exact Inv_mono h (by omega)
theorem Inv_spare {σ fl vf : Nat → Int32} {B : Nat} (h : Inv σ fl vf B) (h5 : ¬ σ 84 = 5) : Inv (upd σ 84 (σ 84 + 1)) fl vf B := by
  refine Inv_same h ?_ (Cn_E (fun j _ _ => upd_ne (by omega)) (upd_ne (by omega)) h.2.1) (.of70 fun k hk => upd_ne (by omega)) (fun d hd => upd_ne (by omega)) (upd_ne (by omega))
  obtain ⟨a, b, n, hn, e⟩ := h.1
  refine ⟨fun k hk => by rw [upd_ne (by omega)]; exact a k hk, fun d hd => by rw [upd_ne (by omega)]; exact b d hd, n + 1, ?_, by rw [upd_eq, e, nI_1]⟩
  have : n ≠ 5 := fun q => h5 (by rw [e, q]; rfl)
  omega
theorem corr_th {σ : Nat → Int32} {k : Nat} (hk : k < 63) (v : Int32) : ∀ j, j < 63 → th (upd σ k v) j = th σ j := fun j hj => by
  unfold th
  rw [upd_ne (by omega)]
theorem Inv_corrupt {σ fl vf : Nat → Int32} {B : Nat} (h : Inv σ fl vf B) {k v : Nat} (hk : k < 63) (hv : v < 65536) : Inv (upd σ k (nI v)) (upd fl 0 1) vf B := by
  obtain ⟨i1, i2, i3, i4, i5, i6, i7⟩ := Inv_mark0 h
  have hz : ¬ upd fl 0 1 0 = 0 := by rw [upd_eq]; decide
  refine ⟨⟨fun j hj => ?_, fun d hd => by rw [upd_ne (by omega)]; exact i1.2.1 d hd, by rw [upd_ne (by omega)]; exact i1.2.2⟩, Cn_E (fun j _ _ => upd_ne (by omega)) (upd_ne (by omega)) i2, i3, i4, fun c => ⟨One_E (fun d hd => upd_ne (by omega)) (i5 c).1, by rw [upd_ne (by omega)]; exact (i5 c).2⟩, fun c => absurd c hz, fun c => absurd c hz⟩
  by_cases q : j = k
  · rw [q, upd_eq]; exact ⟨v, hv, rfl⟩
  · rw [upd_ne q]; exact i1.1 j hj
theorem Inv_scrub {σ fl vf : Nat → Int32} {B : Nat} (h : Inv σ fl vf B) : Inv (scS σ 21) fl vf (B + 63) := by
  obtain ⟨i1, i2, i3, i4, i5, i6, i7⟩ := h
  have hp := (sc_all σ 21 (Nat.le_refl _)).1
  have e85 := sc_h σ 21 (Nat.le_refl _) 85 (by omega)
  refine ⟨Val_sc i1 21 (Nat.le_refl _), Cn_sc i2 21 (Nat.le_refl _), i3, i4, fun c => ⟨One_E (fun d hd => hp _ (by omega) (by omega)) (i5 c).1, by rw [e85]; exact (i5 c).2⟩, fun _ _ => Rt_sc σ, fun c d q hq => ?_⟩
  rw [T_kn (sc_T (i6 c (i5 d).2)) (ad_lt hq)]
  exact i7 c d q hq
/-- at the start -/
theorem One_ini : One iniS := fun a b ha hb qa _ => absurd (show iniS (63 + a) = 9 by unfold iniS; rw [if_pos (by omega)]) qa
theorem Inv_ini : Inv iniS (fun _ => 0) (fun _ => 0) 0 := by
  have h0 : ∀ k, k < 63 → iniS k = 0 := fun k hk => by unfold iniS; rw [if_neg (by omega), if_neg (by omega)]
  have ht : ∀ k, k < 63 → th iniS k = true := fun k hk => th_9 (by unfold iniS; rw [if_pos (by omega)])
  refine ⟨Val_ini, ⟨fun d hd => ⟨0, Nat.le_refl _, ?_⟩, 0, Nat.le_refl _, rfl⟩, Or.inl rfl, Or.inl rfl, fun _ => ⟨One_ini, rfl⟩, fun _ _ s hs => ?_, fun _ _ q hq => ?_⟩
  · unfold iniS; rw [if_neg (by omega), if_neg (by omega)]; rfl
  · rw [wrg_Ri]
    intro _
    unfold Ri
    rw [h0 _ (spT_lt (by omega)), h0 _ (spT_lt (by omega)), h0 _ (spT_lt (by omega))]
    rfl
  · rw [kn_th (ht _ (ad_lt hq)), h0 _ (ad_lt hq)]
