/-! Failing, mending, scrubbing. -/
theorem fail_k {σ : Nat → Int32} {d k : Nat} (hk : k < 63) : failS σ d k = if k / 9 = d then 0 else σ k := by
  unfold failS
  have h1 : ¬ k = 63 + d := by omega
  have h2 : (9 * d ≤ k ∧ k < 9 * d + 9) ↔ k / 9 = d := by omega
  rw [if_neg h1]
  simp only [h2]
theorem fail_p {σ : Nat → Int32} {d e : Nat} (hd : d < 7) (he : e < 7) : failS σ d (63 + e) = if e = d then -1 else σ (63 + e) := by
  unfold failS
  have h1 : (63 + e = 63 + d) ↔ e = d := by omega
  have h2 : ¬ (9 * d ≤ 63 + e ∧ 63 + e < 9 * d + 9) := by omega
  simp only [h1, h2, if_false]
theorem fail_h {σ : Nat → Int32} {d k : Nat} (hd : d < 7) (hk : 70 ≤ k) : failS σ d k = σ k := by
  unfold failS
  rw [if_neg (by omega), if_neg (by omega)]
theorem not_lt_m1 {p : Nat} (h : p < 9) : ¬ nI p < -1 := (show ∀ p, p < 9 → ¬ nI p < -1 by decide +kernel) p h
theorem th_fail {σ : Nat → Int32} {d k : Nat} (hd : d < 7) (hk : k < 63) : th (failS σ d) k = (!decide (k / 9 = d) && th σ k) := by
  unfold th
  rw [fail_p hd (by omega)]
  by_cases h : k / 9 = d
  · rw [if_pos h, decide_eq_true h, decide_eq_false (not_lt_m1 (Nat.mod_lt _ (by omega)))]; rfl
  · rw [if_neg h, decide_eq_false h]; rfl
theorem th_fail_le {σ : Nat → Int32} {d k : Nat} (hd : d < 7) (hk : k < 63) (h : th (failS σ d) k = true) : th σ k = true := by
  rw [th_fail hd hk, Bool.and_eq_true] at h
  exact h.2
theorem lo_fail_le {σ : Nat → Int32} {d k : Nat} (hd : d < 7) (hk : k < 63) (h : lo σ k = true) : lo (failS σ d) k = true := by
  cases h2 : lo (failS σ d) k
  · exfalso
    cases h3 : th (failS σ d) k
    · have h4 := lo_cf h3 h2
      unfold cf at h4
      rw [Bool.and_eq_true] at h4
      have h5 : cf σ k = true := by
        unfold cf
        rw [th_fail_le hd (nx_lt hk 1) h4.1, th_fail_le hd (nx_lt hk 2) h4.2]
        rfl
      unfold lo at h
      rw [h5] at h
      simp at h
    · rw [lo_f (th_fail_le hd hk h3)] at h
      cases h
  · rfl
theorem cntB_mono {f g : Nat → Bool} {n : Nat} (h : ∀ i, i < n → f i = true → g i = true) : cntB f n ≤ cntB g n := by
  induction n with
  | zero => exact Nat.le_refl 0
  | succ n ih =>
    have h1 := ih (fun i hi => h i (by omega))
    have h2 := h n (by omega)
    simp only [cntB]
    cases hf : f n
    · simp only [Bool.false_eq_true, if_false]; omega
    · rw [h2 hf]; simp only [if_true]; omega
theorem cl_le (σ : Nat → Int32) {d : Nat} (hd : d < 7) : cl σ ≤ cl (failS σ d) := cntB_mono fun i hi h => lo_fail_le hd (ad_lt hi) h
theorem cl_T {σ τ : Nat → Int32} (h : ∀ k, k < 63 → th σ k = th τ k) : cl σ = cl τ := cntB_congr fun i hi => lo_T h (ad_lt hi)
theorem cl_42 (σ : Nat → Int32) : cl σ ≤ 42 := cntB_le _ _
theorem cw_21 (σ : Nat → Int32) : cw σ ≤ 21 := cntB_le _ _
theorem cntB_0 {f : Nat → Bool} {n : Nat} (h : ∀ i, i < n → f i = false) : cntB f n = 0 := by
  induction n with
  | zero => rfl
  | succ n ih =>
    simp only [cntB]
    rw [ih (fun i hi => h i (by omega)), h n (by omega)]
    rfl
/-- a failed disc fails: nothing more is lost -/
theorem cl_same {σ : Nat → Int32} {d : Nat} (hd : d < 7) (h : σ (63 + d) = -1) : cl (failS σ d) = cl σ := cl_T fun k hk => by
  rw [th_fail hd hk]
  by_cases e : k / 9 = d
  · rw [decide_eq_true e]
    unfold th
    rw [e, h, decide_eq_false (not_lt_m1 (Nat.mod_lt _ (by omega)))]; rfl
  · rw [decide_eq_false e]; rfl
theorem cl_One {σ : Nat → Int32} (h : One σ) : cl σ = 0 := cntB_0 fun i hi => lo_One h (ad_lt hi)
theorem Rt_fail {σ : Nat → Int32} {d : Nat} (hd : d < 7) (h : Rt σ) : Rt (failS σ d) := fun s hs => by
  rw [wrg_Ri]
  intro hw
  have hw2 := whl_th.mp hw
  have l0 := spT_lt (show 3 * s < 63 by omega)
  have l1 := spT_lt (show 3 * s + 1 < 63 by omega)
  have l2 := spT_lt (show 3 * s + 2 < 63 by omega)
  rw [th_fail hd l0, th_fail hd l1, th_fail hd l2] at hw2
  simp only [Bool.and_eq_true, Bool.not_eq_true', decide_eq_false_iff_not] at hw2
  have h2 := wrg_Ri.mp (h s hs) (whl_th.mpr ⟨hw2.1.2, hw2.2.1.2, hw2.2.2.2⟩)
  unfold Ri at h2 ⊢
  rw [fail_k l0, fail_k l1, fail_k l2, if_neg hw2.1.1, if_neg hw2.2.1.1, if_neg hw2.2.2.1]
  exact h2
theorem One_fail {σ : Nat → Int32} {d : Nat} (hd : d < 7) (ho : ∀ e, e < 7 → e ≠ d → σ (63 + e) = 9) : One (failS σ d) := by
  have h : ∀ e, e < 7 → ¬ failS σ d (63 + e) = 9 → e = d := fun e he q => by
    rw [fail_p hd he] at q
    refine Decidable.byContradiction fun n => ?_
    rw [if_neg n] at q
    exact q (ho e he n)
  intro a b ha hb qa qb
  rw [h a ha qa, h b hb qb]
theorem kn_fail {σ : Nat → Int32} {d : Nat} (hd : d < 7) (ho : ∀ e, e < 7 → e ≠ d → σ (63 + e) = 9) (h : Rt σ) {k : Nat} (hk : k < 63) : kn (failS σ d) k = kn σ k := by
  by_cases e : k / 9 = d
  · have h1 := nx_discs hk
    have t1 : th (failS σ d) k = false := by rw [th_fail hd hk, decide_eq_true e]; rfl
    have ho2 : ∀ e, e < 7 → e ≠ d → failS σ d (63 + e) = 9 := fun x hx n => by rw [fail_p hd hx, if_neg n]; exact ho x hx n
    have f1 : fd (failS σ d) k = fd σ k := by
      unfold fd
      rw [fail_k (nx_lt hk 1), fail_k (nx_lt hk 2), if_neg (fun q => h1.2.1 (by omega)), if_neg (fun q => h1.2.2 (by omega))]
    rw [kn_fd t1 (cf_oth ho2 hk e), f1]
    have c1 := cf_oth ho hk e
    cases t2 : th σ k
    · rw [kn_fd t2 c1]
    · rw [kn_th t2]
      exact (Ri_fd hk).mp (wrg_Ri.mp (h _ (stT_lt hk)) ((whl_k hk).mpr ⟨t2, c1⟩))
  · have t1 := th_oth ho hk e
    have t2 : th (failS σ d) k = true := by rw [th_fail hd hk, decide_eq_false e, t1]; rfl
    rw [kn_th t1, kn_th t2, fail_k hk, if_neg e]
-- ---- mending begins
theorem beg_k {σ : Nat → Int32} {d k : Nat} (hk : k < 63) : begS σ d k = σ k := by
  unfold begS
  rw [upd_ne (by omega), upd_ne (by omega)]
theorem beg_p {σ : Nat → Int32} {d e : Nat} (hd : d < 7) (he : e < 7) : begS σ d (63 + e) = if e = d then 0 else σ (63 + e) := by
  unfold begS
  by_cases h : e = d
  · rw [if_pos h, h, upd_eq]
  · rw [if_neg h, upd_ne (by omega), upd_ne (by omega)]
theorem beg_h {σ : Nat → Int32} {d k : Nat} (hd : d < 7) (hk : 70 ≤ k) (h : k ≠ 84) : begS σ d k = σ k := by
  unfold begS
  rw [upd_ne (by omega), upd_ne h]
theorem not_lt_0 {p : Nat} (h : p < 9) : ¬ nI p < 0 := (show ∀ p, p < 9 → ¬ nI p < 0 by decide +kernel) p h
theorem beg_T {σ : Nat → Int32} {d : Nat} (hd : d < 7) (h : σ (63 + d) = -1) : ThE (begS σ d) σ := ⟨fun k hk => by
  unfold th
  rw [beg_p hd (by omega)]
  by_cases e : k / 9 = d
  · rw [if_pos e, e, h, decide_eq_false (not_lt_0 (Nat.mod_lt _ (by omega))), decide_eq_false (not_lt_m1 (Nat.mod_lt _ (by omega)))]
  · rw [if_neg e], fun k hk => beg_k hk⟩
theorem One_beg {σ : Nat → Int32} {d : Nat} (hd : d < 7) (h : σ (63 + d) = -1) (h1 : One σ) : One (begS σ d) := by
  have g : ∀ e, e < 7 → ¬ begS σ d (63 + e) = 9 → ¬ σ (63 + e) = 9 := fun e he q => by
    rw [beg_p hd he] at q
    by_cases n : e = d
    · rw [n, h]; decide
    · rw [if_neg n] at q; exact q
  exact fun a b ha hb qa qb => h1 a b ha hb (g a ha qa) (g b hb qb)
-- ---- a step of mending: the unit k of the disc d, whose progress is g
theorem mend_p {σ : Nat → Int32} (hv : Val σ) (h : lm σ < 7) : ∃ g : Nat, g < 9 ∧ σ (63 + lm σ) = nI g ∧ mkS σ (lm σ) = 9 * lm σ + g ∧ (∀ e, e < 7 → mendS σ (lm σ) (63 + e) = if e = lm σ then nI (g + 1) else σ (63 + e)) ∧ (∀ k, k < 63 → mendS σ (lm σ) k = if cf σ (mkS σ (lm σ)) = true ∧ k = mkS σ (lm σ) then fd σ k else σ k) ∧ mendS σ (lm σ) 84 = σ 84 ∧ mendS σ (lm σ) 85 = if cf σ (mkS σ (lm σ)) = true then σ 85 else σ 85 + 1 := by
  obtain ⟨g, hg, e⟩ := Val_lm hv h
  have hk : mkS σ (lm σ) = 9 * lm σ + g := by unfold mkS; rw [e, nI_clamp (by omega)]
  have hA : ∀ j, 63 ≤ j → j < 70 → mendA σ (lm σ) j = σ j := fun j h1 h2 => by
    unfold mendA
    split
    · rw [wrS_k _ _ h2, if_neg (by omega), f2_lt _ _ h2]
    · rw [upd_ne (by omega)]
  refine ⟨g, hg, e, hk, fun x hx => ?_, fun k hk2 => ?_, ?_, ?_⟩
  · unfold mendS
    by_cases q : x = lm σ
    · rw [if_pos q, q, upd_eq, hA _ (by omega) (by omega), e, nI_1]
    · rw [if_neg q, upd_ne (by omega), hA _ (by omega) (by omega)]
  · unfold mendS
    rw [upd_ne (by omega)]
    unfold mendA
    by_cases c : cf σ (mkS σ (lm σ)) = true
    · rw [if_pos c, wrS_k _ _ (by omega), f2_lt _ _ (by omega)]
      by_cases q : k = mkS σ (lm σ)
      · rw [if_pos q, if_pos ⟨c, q⟩, q]
      · rw [if_neg q, if_neg (fun z => q z.2)]
    · rw [if_neg c, if_neg (fun z => c z.1), upd_ne (by omega)]
  · unfold mendS
    rw [upd_ne (by omega)]
    unfold mendA
    split
    · unfold wrS f2S rdS
      have h1 := nx_lt (show mkS σ (lm σ) < 63 by omega) 1
      have h2 := nx_lt (show mkS σ (lm σ) < 63 by omega) 2
      rw [upd_ne (by omega), upd_ne (by omega), upd_ne (by omega), upd_ne (by omega)]
    · rw [upd_ne (by omega)]
  · unfold mendS
    rw [upd_ne (by omega)]
    unfold mendA
    split
    · unfold wrS f2S rdS
      have h1 := nx_lt (show mkS σ (lm σ) < 63 by omega) 1
      have h2 := nx_lt (show mkS σ (lm σ) < 63 by omega) 2
      rw [upd_ne (by omega), upd_ne (by omega), upd_ne (by omega), upd_ne (by omega)]
    · rw [upd_eq]
theorem th_mend {σ : Nat → Int32} (hv : Val σ) (h : lm σ < 7) {k : Nat} (hk : k < 63) : th (mendS σ (lm σ)) k = (decide (k = mkS σ (lm σ)) || th σ k) := by
  obtain ⟨g, hg, e, hm, hp, -⟩ := mend_p hv h
  unfold th
  rw [hp _ (by omega)]
  by_cases q : k / 9 = lm σ
  · rw [if_pos q, q, e]
    have hl : k % 9 < 9 := Nat.mod_lt _ (by omega)
    have i1 : (nI (k % 9) < nI (g + 1)) ↔ k % 9 < g + 1 := nI_ltI (by omega) (by omega)
    have i2 : (nI (k % 9) < nI g) ↔ k % 9 < g := nI_ltI (by omega) (by omega)
    have i3 : (k = mkS σ (lm σ)) ↔ k % 9 = g := by rw [hm]; omega
    rw [← Bool.decide_or]
    simp only [i1, i2, i3]
    exact decide_eq_decide.mpr (by omega)
  · have n1 : ¬ k = mkS σ (lm σ) := by rw [hm]; omega
    rw [if_neg q, decide_eq_false n1, Bool.false_or]
theorem th_mk {σ : Nat → Int32} (hv : Val σ) (h : lm σ < 7) : th σ (mkS σ (lm σ)) = false := by
  obtain ⟨g, hg, e, hm, -⟩ := mend_p hv h
  unfold th
  rw [hm, show (9 * lm σ + g) / 9 = lm σ by omega, show (9 * lm σ + g) % 9 = g by omega, e]
  exact decide_eq_false (fun z => Int32.lt_irrefl z)
theorem mk_lt {σ : Nat → Int32} (hv : Val σ) (h : lm σ < 7) : mkS σ (lm σ) < 63 ∧ mkS σ (lm σ) / 9 = lm σ := by
  obtain ⟨g, hg, e, hm, -⟩ := mend_p hv h
  rw [hm]
  omega
theorem lm_n9 {σ : Nat → Int32} (hv : Val σ) (h : lm σ < 7) : ¬ σ (63 + lm σ) = 9 := by
  obtain ⟨g, hg, e, -⟩ := mend_p hv h
  rw [e]
  intro q
  have : g = 9 := (nI_eq (show g < 2 ^ 31 by omega) (show 9 < 2 ^ 31 by omega)).mp q
  omega
theorem fd_mend {σ : Nat → Int32} (hv : Val σ) (h : lm σ < 7) {k : Nat} (hk : k < 63) (h1 : nx k 1 ≠ mkS σ (lm σ)) (h2 : nx k 2 ≠ mkS σ (lm σ)) : fd (mendS σ (lm σ)) k = fd σ k := by
  obtain ⟨g, hg, e, hm, hp, hu, -⟩ := mend_p hv h
  unfold fd
  rw [hu _ (nx_lt hk 1), hu _ (nx_lt hk 2), if_neg (fun z => h1 z.2), if_neg (fun z => h2 z.2)]
theorem Rt_mend {σ : Nat → Int32} (hv : Val σ) (h : lm σ < 7) (hc : cf σ (mkS σ (lm σ)) = true) (hR : Rt σ) : Rt (mendS σ (lm σ)) := fun s hs => by
  obtain ⟨g, hg, e, hm, hp, hu, -⟩ := mend_p hv h
  obtain ⟨hk, -⟩ := mk_lt hv h
  rw [wrg_Ri]
  intro hw
  by_cases q : stT (mkS σ (lm σ)) = s
  · have hn := nx_st hk
    rw [← q, Ri_fd hk, fd_mend hv h hk hn.2.2.1 hn.2.2.2, hu _ hk, if_pos ⟨hc, rfl⟩]
  · have hn : ∀ u, u < 3 → spT (3 * s + u) ≠ mkS σ (lm σ) := fun u hu2 z => q (by rw [← z, st_spT (by omega)]; omega)
    have n0 := hn 0 (by omega)
    have n1 := hn 1 (by omega)
    have n2 := hn 2 (by omega)
    have l0 := spT_lt (show 3 * s < 63 by omega)
    have l1 := spT_lt (show 3 * s + 1 < 63 by omega)
    have l2 := spT_lt (show 3 * s + 2 < 63 by omega)
    rw [Nat.add_zero] at n0
    have hw2 := whl_th.mp hw
    rw [th_mend hv h l0, th_mend hv h l1, th_mend hv h l2, decide_eq_false n0, decide_eq_false n1, decide_eq_false n2, Bool.false_or, Bool.false_or, Bool.false_or] at hw2
    have h3 := wrg_Ri.mp (hR s hs) (whl_th.mpr hw2)
    unfold Ri at h3 ⊢
    rw [hu _ l0, hu _ l1, hu _ l2, if_neg (fun z => n0 z.2), if_neg (fun z => n1 z.2), if_neg (fun z => n2 z.2)]
    exact h3
theorem One_mend {σ : Nat → Int32} (hv : Val σ) (h : lm σ < 7) (h1 : One σ) : One (mendS σ (lm σ)) := by
  obtain ⟨g, hg, e, hm, hp, -⟩ := mend_p hv h
  have g2 : ∀ x, x < 7 → ¬ mendS σ (lm σ) (63 + x) = 9 → ¬ σ (63 + x) = 9 := fun x hx q => by
    rw [hp x hx] at q
    by_cases n : x = lm σ
    · rw [n]; exact lm_n9 hv h
    · rw [if_neg n] at q; exact q
  exact fun a b ha hb qa qb => h1 a b ha hb (g2 a ha qa) (g2 b hb qb)
theorem cf_mend {σ : Nat → Int32} (hv : Val σ) (h : lm σ < 7) (h1 : One σ) : cf σ (mkS σ (lm σ)) = true := by
  obtain ⟨hk, hd⟩ := mk_lt hv h
  exact cf_oth (h1.oth h (lm_n9 hv h)) hk hd
theorem kn_mend {σ : Nat → Int32} (hv : Val σ) (h : lm σ < 7) (h1 : One σ) {k : Nat} (hk : k < 63) : kn (mendS σ (lm σ)) k = kn σ k := by
  obtain ⟨g, hg, e, hm, hp, hu, -⟩ := mend_p hv h
  obtain ⟨hk0, hd0⟩ := mk_lt hv h
  have hc := cf_mend hv h h1
  have ho := h1.oth h (lm_n9 hv h)
  by_cases q : k = mkS σ (lm σ)
  · rw [kn_th (by rw [th_mend hv h hk, decide_eq_true q, Bool.true_or]), hu _ hk, if_pos ⟨hc, q⟩, q, kn_fd (th_mk hv h) hc]
  · have t2 : th (mendS σ (lm σ)) k = th σ k := by rw [th_mend hv h hk, decide_eq_false q, Bool.false_or]
    cases t : th σ k
    · have hd : k / 9 = lm σ := Decidable.byContradiction fun z => by rw [th_oth ho hk z] at t; cases t
      have hn := nx_discs hk
      have n1 : nx k 1 ≠ mkS σ (lm σ) := fun z => hn.2.1 (by omega)
      have n2 : nx k 2 ≠ mkS σ (lm σ) := fun z => hn.2.2 (by omega)
      have c2 : cf (mendS σ (lm σ)) k = true := by
        unfold cf
        rw [th_mend hv h (nx_lt hk 1), th_mend hv h (nx_lt hk 2), th_oth ho (nx_lt hk 1) (fun z => hn.2.1 (by omega)), th_oth ho (nx_lt hk 2) (fun z => hn.2.2 (by omega)), Bool.or_true, Bool.or_true]
        rfl
      rw [kn_fd (by rw [t2]; exact t) c2, fd_mend hv h hk n1 n2, kn_fd t (cf_oth ho hk hd)]
    · rw [kn_th t, kn_th (by rw [t2]; exact t), hu _ hk, if_neg (fun z => q z.2)]
