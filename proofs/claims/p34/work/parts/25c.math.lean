/-! Scrubbing; the counts. -/
theorem scR_k (σ : Nat → Int32) (s : Nat) {j : Nat} (hj : j < 70) : scR σ s j = σ j := by
  unfold scR
  rw [rd_lt _ _ hj, rd_lt _ _ hj, rd_lt _ _ hj]
theorem wrg_whl {σ : Nat → Int32} {s : Nat} (h : wrg σ s = true) : whl σ s = true := by
  unfold wrg at h
  rw [Bool.and_eq_true] at h
  exact h.1
theorem scA_k (σ : Nat → Int32) (s : Nat) {j : Nat} (hj : j < 70) : scA σ s j = if wrg σ s = true ∧ j = spT (3 * s + 2) then σ (spT (3 * s)) ^^^ σ (spT (3 * s + 1)) else σ j := by
  unfold scA
  by_cases hw : wrg σ s = true
  · rw [if_pos (wrg_whl hw), if_pos hw, wrS_k _ _ hj]
    by_cases q : j = spT (3 * s + 2)
    · rw [if_pos q, if_pos ⟨hw, q⟩]
    · rw [if_neg q, if_neg (fun z => q z.2), scR_k _ _ hj]
  · have e9 : ¬ (wrg σ s = true ∧ j = spT (3 * s + 2)) := fun z => hw z.1
    rw [if_neg e9]
    by_cases h2 : whl σ s = true
    · rw [if_pos h2, if_neg hw, scR_k _ _ hj]
    · rw [if_neg h2]
theorem sc_all (σ : Nat → Int32) : ∀ n, n ≤ 21 → (∀ j, 63 ≤ j → j < 70 → scS σ n j = σ j) ∧ (∀ s u, s < 21 → u < 2 → scS σ n (spT (3 * s + u)) = σ (spT (3 * s + u))) ∧ (∀ s, s < 21 → scS σ n (spT (3 * s + 2)) = if s < n ∧ wrg σ s = true then σ (spT (3 * s)) ^^^ σ (spT (3 * s + 1)) else σ (spT (3 * s + 2))) ∧ (∀ s, n ≤ s → s < 21 → wrg (scS σ n) s = wrg σ s) := by
  intro n
  induction n with
  | zero => exact fun _ => ⟨fun _ _ _ => rfl, fun _ _ _ _ => rfl, fun s _ => by rw [if_neg (by omega)]; rfl, fun _ _ _ => rfl⟩
  | succ n ih =>
    intro hn
    obtain ⟨h1, h2, h3, h4⟩ := ih (by omega)
    have hq := h4 n (Nat.le_refl n) (by omega)
    have a1 : ∀ j, 63 ≤ j → j < 70 → scS σ (n + 1) j = σ j := fun j l1 l2 => by
      show scA (scS σ n) n j = σ j
      have := spT_lt (show 3 * n + 2 < 63 by omega)
      rw [scA_k _ _ l2, if_neg (fun z => by omega), h1 j l1 l2]
    have a2 : ∀ s u, s < 21 → u < 2 → scS σ (n + 1) (spT (3 * s + u)) = σ (spT (3 * s + u)) := fun s u hs hu => by
      show scA (scS σ n) n (spT (3 * s + u)) = σ (spT (3 * s + u))
      rw [scA_k _ _ (Nat.lt_trans (spT_lt (by omega)) (by omega)), if_neg (fun z => sp_ne (by omega) (by omega) (by omega) z.2), h2 s u hs hu]
    have a3 : ∀ s, s < 21 → scS σ (n + 1) (spT (3 * s + 2)) = if s < n + 1 ∧ wrg σ s = true then σ (spT (3 * s)) ^^^ σ (spT (3 * s + 1)) else σ (spT (3 * s + 2)) := fun s hs => by
      show scA (scS σ n) n (spT (3 * s + 2)) = _
      rw [scA_k _ _ (Nat.lt_trans (spT_lt (by omega)) (by omega)), hq, h3 s hs]
      have d0 : scS σ n (spT (3 * n)) = σ (spT (3 * n)) := h2 n 0 (by omega) (by omega)
      have d1 := h2 n 1 (by omega) (by omega)
      rw [d0, d1]
      by_cases q : s = n
      · subst q
        by_cases w : wrg σ s = true
        · rw [if_pos ⟨w, rfl⟩, if_pos ⟨by omega, w⟩]
        · rw [if_neg (fun z => w z.1), if_neg (fun z => w z.2), if_neg (fun z => w z.2)]
      · rw [if_neg (fun z => sp_ne (by omega) (by omega) (by omega) z.2)]
        have e : (s < n + 1 ∧ wrg σ s = true) ↔ (s < n ∧ wrg σ s = true) := ⟨fun z => ⟨by omega, z.2⟩, fun z => ⟨by omega, z.2⟩⟩
        simp only [e]
    refine ⟨a1, a2, a3, fun s l1 l2 => ?_⟩
    have d0 : scS σ (n + 1) (spT (3 * s)) = σ (spT (3 * s)) := a2 s 0 l2 (by omega)
    have d1 := a2 s 1 l2 (by omega)
    have d2 := a3 s l2
    rw [if_neg (by omega)] at d2
    unfold wrg
    rw [whl_T (σ := scS σ (n + 1)) (τ := σ) (fun k hk => by unfold th; rw [a1 _ (by omega) (by omega)]) l2, d0, d1, d2]
theorem sc_th (σ : Nat → Int32) {n : Nat} (hn : n ≤ 21) : ∀ k, k < 63 → th (scS σ n) k = th σ k := fun k hk => by
  unfold th
  rw [(sc_all σ n hn).1 _ (by omega) (by omega)]
theorem sc_C (σ : Nat → Int32) : ∀ n, n ≤ 21 → scC σ n = cntB (wrg σ) n := by
  intro n
  induction n with
  | zero => exact fun _ => rfl
  | succ n ih =>
    intro hn
    simp only [scC, cntB]
    rw [ih (by omega), (sc_all σ n (by omega)).2.2.2 n (Nat.le_refl n) (by omega)]
theorem sc_cw (σ : Nat → Int32) : scC σ 21 = cw σ := sc_C σ 21 (Nat.le_refl _)
theorem Rt_sc (σ : Nat → Int32) : Rt (scS σ 21) := fun s hs => by
  obtain ⟨h1, h2, h3, h4⟩ := sc_all σ 21 (Nat.le_refl _)
  rw [wrg_Ri, whl_T (sc_th σ (Nat.le_refl _)) hs]
  intro hw
  have d0 : scS σ 21 (spT (3 * s)) = σ (spT (3 * s)) := h2 s 0 hs (by omega)
  have d1 := h2 s 1 hs (by omega)
  unfold Ri
  rw [d0, d1, h3 s hs]
  by_cases w : wrg σ s = true
  · rw [if_pos ⟨hs, w⟩]
  · rw [if_neg (fun z => w z.2)]
    exact wrg_Ri.mp (by simpa using w) hw
theorem cw_Rt {σ : Nat → Int32} (h : Rt σ) : cw σ = 0 := cntB_0 h
theorem sc_T {σ : Nat → Int32} (h : Rt σ) : ThE (scS σ 21) σ := by
  obtain ⟨h1, h2, h3, h4⟩ := sc_all σ 21 (Nat.le_refl _)
  refine ⟨sc_th σ (Nat.le_refl _), fun k hk => ?_⟩
  obtain ⟨s, hs, e, hc⟩ := k_cases hk
  rcases hc with rfl | rfl | rfl
  · exact h2 s 0 hs (by omega)
  · exact h2 s 1 hs (by omega)
  · rw [h3 s hs, if_neg (fun z => by rw [h s hs] at z; exact absurd z.2 (by decide))]
theorem rd_h (σ : Nat → Int32) {k j : Nat} (hk : k < 63) (hj : 77 ≤ j) : rdS σ k j = σ j := by
  unfold rdS
  rw [upd_ne (by omega)]
theorem wr_h (σ : Nat → Int32) {k j : Nat} (v : Int32) (hk : k < 63) (hj : 70 ≤ j) (h : j < 77 ∨ 84 ≤ j) : wrS σ k v j = σ j := by
  unfold wrS
  rw [upd_ne (by omega), upd_ne (by omega)]
theorem sc_h (σ : Nat → Int32) : ∀ n, n ≤ 21 → ∀ j, 84 ≤ j → scS σ n j = σ j := by
  intro n
  induction n with
  | zero => exact fun _ _ _ => rfl
  | succ n ih =>
    intro hn j hj
    have i := ih (by omega) j hj
    have l0 := spT_lt (show 3 * n < 63 by omega)
    have l1 := spT_lt (show 3 * n + 1 < 63 by omega)
    have l2 := spT_lt (show 3 * n + 2 < 63 by omega)
    show scA (scS σ n) n j = σ j
    unfold scA scR
    split
    · split
      · rw [wr_h _ _ l2 (by omega) (by omega), rd_h _ l2 (by omega), rd_h _ l1 (by omega), rd_h _ l0 (by omega), i]
      · rw [rd_h _ l2 (by omega), rd_h _ l1 (by omega), rd_h _ l0 (by omega), i]
    · exact i
-- ---- reads and losses are small
def Cn (σ : Nat → Int32) (B : Nat) : Prop := (∀ d, d < 7 → ∃ n : Nat, n ≤ B ∧ σ (70 + d) = nI n) ∧ ∃ n : Nat, n ≤ B ∧ σ 85 = nI n
theorem Cn_mono {σ : Nat → Int32} {B C : Nat} (h : Cn σ B) (hB : B ≤ C) : Cn σ C :=
  ⟨fun d hd => by obtain ⟨n, a, b⟩ := h.1 d hd; exact ⟨n, by omega, b⟩, by obtain ⟨n, a, b⟩ := h.2; exact ⟨n, by omega, b⟩⟩
theorem Cn_E {σ τ : Nat → Int32} {B : Nat} (h1 : ∀ j, 70 ≤ j → j < 77 → τ j = σ j) (h2 : τ 85 = σ 85) (h : Cn σ B) : Cn τ B :=
  ⟨fun d hd => by rw [h1 _ (by omega) (by omega)]; exact h.1 d hd, by rw [h2]; exact h.2⟩
theorem Cn_rd {σ : Nat → Int32} {B k : Nat} (hk : k < 63) (h : Cn σ B) : Cn (rdS σ k) (B + 1) := by
  refine ⟨fun d hd => ?_, by rw [rd_h _ hk (by omega)]; exact (Cn_mono h (by omega)).2⟩
  obtain ⟨n, a, b⟩ := h.1 d hd
  unfold rdS
  by_cases q : d = k / 9
  · rw [← q, upd_eq, b, nI_1]
    exact ⟨n + 1, by omega, rfl⟩
  · rw [upd_ne (by omega), b]
    exact ⟨n, by omega, rfl⟩
theorem Cn_wr {σ : Nat → Int32} {B k : Nat} (v : Int32) (hk : k < 63) (h : Cn σ B) : Cn (wrS σ k v) B :=
  Cn_E (fun j l1 l2 => wr_h _ _ hk l1 (Or.inl l2)) (wr_h _ _ hk (by omega) (by omega)) h
theorem Cn_f2 {σ : Nat → Int32} {B k : Nat} (hk : k < 63) (h : Cn σ B) : Cn (f2S σ k) (B + 2) := Cn_rd (nx_lt hk 2) (Cn_rd (nx_lt hk 1) h)
theorem Cn_rS {σ : Nat → Int32} {B q : Nat} (hq : q < 42) (h : Cn σ B) : Cn (rS σ q) (B + 2) := by
  unfold rS
  split
  · exact Cn_mono (Cn_rd (ad_lt hq) h) (by omega)
  · exact Cn_f2 (ad_lt hq) h
theorem Cn_wD {σ : Nat → Int32} {B q : Nat} (hq : q < 42) (v : Int32) (h : Cn σ B) : Cn (wD σ q v) (B + 2) := by
  unfold wD
  split
  · split
    · exact Cn_wr _ (adP_lt hq) (Cn_wr _ (ad_lt hq) (Cn_rd (adP_lt hq) (Cn_rd (ad_lt hq) h)))
    · exact Cn_mono (Cn_wr _ (ad_lt hq) h) (by omega)
  · exact Cn_mono (Cn_wr _ (adP_lt hq) (Cn_rd (adO_lt hq) h)) (by omega)
theorem Cn_fail {σ : Nat → Int32} {B d : Nat} (hd : d < 7) (h : Cn σ B) : Cn (failS σ d) B := Cn_E (fun j l1 _ => fail_h hd l1) (fail_h hd (by omega)) h
theorem Cn_beg {σ : Nat → Int32} {B d : Nat} (hd : d < 7) (h : Cn σ B) : Cn (begS σ d) B := Cn_E (fun j l1 l2 => beg_h hd l1 (by omega)) (beg_h hd (by omega) (by omega)) h
theorem Cn_mend {σ : Nat → Int32} {B : Nat} (hv : Val σ) (hm : lm σ < 7) (h : Cn σ B) : Cn (mendS σ (lm σ)) (B + 2) := by
  have hk := (mk_lt hv hm).1
  refine Cn_E (σ := mendA σ (lm σ)) (fun j l1 l2 => by unfold mendS; rw [upd_ne (by omega)]) (by unfold mendS; rw [upd_ne (by omega)]) ?_
  unfold mendA
  split
  · exact Cn_wr _ hk (Cn_f2 hk h)
  · refine ⟨fun d hd => ?_, ?_⟩
    · rw [upd_ne (by omega)]
      exact (Cn_mono h (by omega)).1 d hd
    · obtain ⟨n, a, b⟩ := h.2
      rw [upd_eq, b, nI_1]
      exact ⟨n + 1, by omega, rfl⟩
theorem Cn_sc {σ : Nat → Int32} {B : Nat} (h : Cn σ B) : ∀ n, n ≤ 21 → Cn (scS σ n) (B + 3 * n) := by
  intro n
  induction n with
  | zero => exact fun _ => h
  | succ n ih =>
    intro hn
    have i := ih (by omega)
    have l0 := spT_lt (show 3 * n < 63 by omega)
    have l1 := spT_lt (show 3 * n + 1 < 63 by omega)
    have l2 := spT_lt (show 3 * n + 2 < 63 by omega)
    have hR : Cn (scR (scS σ n) n) (B + 3 * (n + 1)) := Cn_mono (Cn_rd l2 (Cn_rd l1 (Cn_rd l0 i))) (by omega)
    show Cn (scA (scS σ n) n) (B + 3 * (n + 1))
    unfold scA
    split
    · split
      · exact Cn_wr _ l2 hR
      · exact hR
    · exact Cn_mono i (by omega)
-- ---- all reads and writes together
def cnS (σ : Nat → Int32) : Nat → Int32
  | 0 => 0
  | n + 1 => cnS σ n + (σ (70 + n) + σ (77 + n))
theorem a_assoc (a b c : Int32) : a + b + c = a + (b + c) := by
  apply Int32.toBitVec_inj.mp
  rw [Int32.toBitVec_add, Int32.toBitVec_add, Int32.toBitVec_add, Int32.toBitVec_add, BitVec.add_assoc]
theorem a_comm (a b : Int32) : a + b = b + a := by
  apply Int32.toBitVec_inj.mp
  rw [Int32.toBitVec_add, Int32.toBitVec_add, BitVec.add_comm]
theorem cnS_E {σ τ : Nat → Int32} (h : ∀ j, 70 ≤ j → j < 84 → τ j = σ j) : ∀ n, n ≤ 7 → cnS τ n = cnS σ n := by
  intro n
  induction n with
  | zero => exact fun _ => rfl
  | succ n ih =>
    intro hn
    simp only [cnS]
    rw [ih (by omega), h _ (by omega) (by omega), h _ (by omega) (by omega)]
theorem cnS_up {σ : Nat → Int32} {i x : Nat} (hx : x < 7) (hi : i = 70 + x ∨ i = 77 + x) : ∀ n, n ≤ 7 → cnS (upd σ i (σ i + 1)) n = if x < n then cnS σ n + 1 else cnS σ n := by
  intro n
  induction n with
  | zero => exact fun _ => rfl
  | succ n ih =>
    intro hn
    simp only [cnS]
    rw [ih (by omega)]
    by_cases q : x = n
    · rw [if_neg (by omega), if_pos (by omega), ← q]
      rcases hi with rfl | rfl
      · rw [upd_eq, upd_ne (by omega), a_assoc, a_assoc, a_comm 1, a_assoc (σ (70 + x)) (σ (77 + x)) 1]
      · rw [upd_eq, upd_ne (by omega), a_assoc, a_assoc]
    · rw [upd_ne (by omega), upd_ne (by omega)]
      by_cases q2 : x < n
      · rw [if_pos q2, if_pos (by omega), a_assoc, a_comm 1, ← a_assoc]
      · rw [if_neg q2, if_neg (by omega)]
theorem cnS_rd {σ : Nat → Int32} {k : Nat} (hk : k < 63) : cnS (rdS σ k) 7 = cnS σ 7 + 1 := by
  unfold rdS
  rw [cnS_up (x := k / 9) (by omega) (Or.inl rfl) 7 (by omega), if_pos (by omega)]
theorem cnS_wr {σ : Nat → Int32} {k : Nat} (v : Int32) (hk : k < 63) : cnS (wrS σ k v) 7 = cnS σ 7 + 1 := by
  unfold wrS
  rw [cnS_E (σ := upd σ (77 + k / 9) (σ (77 + k / 9) + 1)) (fun j _ _ => upd_ne (by omega)) 7 (by omega), cnS_up (x := k / 9) (by omega) (Or.inr rfl) 7 (by omega), if_pos (by omega)]
theorem cnS_rS {σ : Nat → Int32} {q : Nat} (hq : q < 42) : cnS (rS σ q) 7 = cnS σ 7 + 1 ∨ cnS (rS σ q) 7 = cnS σ 7 + 2 := by
  have h := ad_lt hq
  unfold rS
  split
  · exact Or.inl (cnS_rd h)
  · refine Or.inr ?_
    unfold f2S
    rw [cnS_rd (nx_lt h 2), cnS_rd (nx_lt h 1), a_assoc]
    rfl
theorem cnS_wD {σ : Nat → Int32} {q : Nat} (hq : q < 42) (v : Int32) : cnS (wD σ q v) 7 = cnS σ 7 + nI (wC σ q) := by
  have h1 := ad_lt hq
  have h2 := adP_lt hq
  have h3 := adO_lt hq
  unfold wD wC
  cases th σ (ad q)
  · simp only [Bool.false_eq_true, if_false]
    rw [cnS_wr _ h2, cnS_rd h3, a_assoc]
    rfl
  · cases th σ (adP q)
    · simp only [Bool.false_eq_true, if_false, if_true]
      rw [cnS_wr _ h1]
      rfl
    · simp only [if_true]
      rw [cnS_wr _ h2, cnS_wr _ h1, cnS_rd h2, cnS_rd h1, a_assoc, a_assoc, a_assoc]
      rfl
theorem a_sub (a b : Int32) : a + b - a = b := by
  apply Int32.toBitVec_inj.mp
  rw [Int32.toBitVec_sub, Int32.toBitVec_add, BitVec.add_comm, BitVec.add_sub_cancel]
theorem wC_c (σ : Nat → Int32) (q : Nat) : wC σ q = 1 ∨ wC σ q = 2 ∨ wC σ q = 4 := by
  unfold wC
  split
  · split
    · exact Or.inr (Or.inr rfl)
    · exact Or.inl rfl
  · exact Or.inr (Or.inl rfl)
