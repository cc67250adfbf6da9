/-- low ≤ v ≤ high -/
def inB (v : Int32) (lo hi : Nat) : Bool := decide (nI lo ≤ v) && decide (v ≤ nI hi)
theorem inB_R {x : Int32} {n : Nat} (hn : n + 1 < 2 ^ 31) : inB x 0 n = inR x (n + 1) := by
  have h1 : (nI 0 ≤ x) ↔ 0 ≤ x.toInt := by rw [Int32.le_iff_toInt_le, nI_toInt (by omega)]; rfl
  have h2 : (x ≤ nI n) ↔ x.toInt < ((n + 1 : Nat) : Int) := by rw [Int32.le_iff_toInt_le, nI_toInt (by omega)]; omega
  simp only [inB, inR, h1, h2]
theorem mS_p (σ : Nat → Int32) {d : Nat} (h : d < 7) : mS σ (0 + d) = σ (63 + d) := by
  rw [Nat.zero_add]
  simp only [mS, h, if_true]
theorem mS_u (σ : Nat → Int32) {k : Nat} (h : k < 63) : mS σ (7 + k) = σ k := by
  have h1 : ¬ 7 + k < 7 := by omega
  have h2 : 7 + k < 70 := by omega
  have h3 : 7 + k - 7 = k := by omega
  simp only [mS, h1, h2, h3, if_true, if_false]
theorem mS_c (σ : Nat → Int32) {i : Nat} (h : 70 ≤ i) : mS σ i = σ i := by
  have h1 : ¬ i < 7 := by omega
  have h2 : ¬ i < 70 := by omega
  simp only [mS, h1, h2, if_false]
theorem mS_wp (σ : Nat → Int32) (v : Int32) {d : Nat} (h : d < 7) : upd (mS σ) (0 + d) v = mS (upd σ (63 + d) v) := by
  funext j
  simp only [upd, mS]
  by_cases h1 : j = 0 + d
  · have h2 : j < 7 := by omega
    have h3 : 63 + j = 63 + d := by omega
    rw [if_pos h1, if_pos h2, if_pos h3]
  · rw [if_neg h1]
    by_cases h2 : j < 7
    · have h3 : ¬ 63 + j = 63 + d := by omega
      rw [if_pos h2, if_pos h2, if_neg h3]
    · rw [if_neg h2, if_neg h2]
      by_cases h3 : j < 70
      · have h4 : ¬ j - 7 = 63 + d := by omega
        rw [if_pos h3, if_pos h3, if_neg h4]
      · have h4 : ¬ j = 63 + d := by omega
        rw [if_neg h3, if_neg h3, if_neg h4]
theorem mS_wu (σ : Nat → Int32) (v : Int32) {k : Nat} (h : k < 63) : upd (mS σ) (7 + k) v = mS (upd σ k v) := by
  funext j
  simp only [upd, mS]
  by_cases h1 : j = 7 + k
  · have h2 : ¬ j < 7 := by omega
    have h3 : j < 70 := by omega
    have h4 : j - 7 = k := by omega
    rw [if_pos h1, if_neg h2, if_pos h3, if_pos h4]
  · rw [if_neg h1]
    by_cases h2 : j < 7
    · have h3 : ¬ 63 + j = k := by omega
      rw [if_pos h2, if_pos h2, if_neg h3]
    · rw [if_neg h2, if_neg h2]
      by_cases h3 : j < 70
      · have h4 : ¬ j - 7 = k := by omega
        rw [if_pos h3, if_pos h3, if_neg h4]
      · have h4 : ¬ j = k := by omega
        rw [if_neg h3, if_neg h3, if_neg h4]
theorem mS_wc (σ : Nat → Int32) (v : Int32) {i : Nat} (h : 70 ≤ i) : upd (mS σ) i v = mS (upd σ i v) := by
  funext j
  simp only [upd, mS]
  by_cases h1 : j = i
  · have h2 : ¬ j < 7 := by omega
    have h3 : ¬ j < 70 := by omega
    rw [if_pos h1, if_neg h2, if_neg h3, if_pos h1]
  · rw [if_neg h1]
    by_cases h2 : j < 7
    · have h3 : ¬ 63 + j = i := by omega
      rw [if_pos h2, if_pos h2, if_neg h3]
    · rw [if_neg h2, if_neg h2]
      by_cases h3 : j < 70
      · have h4 : ¬ j - 7 = i := by omega
        rw [if_pos h3, if_pos h3, if_neg h4]
      · rw [if_neg h3, if_neg h3, if_neg h1]
/-- n numbers copied, to the place st on, from the place ft on -/
def cpG (g f : Nat → Int32) (st ft n : Nat) : Nat → Int32 := fun i => if st ≤ i ∧ i < st + n then f (ft + (i - st)) else g i
theorem cpG_0 (g f : Nat → Int32) (st ft : Nat) : cpG g f st ft 0 = g := by
  funext j
  have h : ¬ (st ≤ j ∧ j < st + 0) := by omega
  simp only [cpG, h, if_false]
theorem cpG_s (g f : Nat → Int32) (st ft n : Nat) : upd (cpG g f st ft n) (st + n) (f (ft + n)) = cpG g f st ft (n + 1) := by
  funext j
  simp only [upd, cpG]
  by_cases h : j = st + n
  · have h2 : st ≤ j ∧ j < st + (n + 1) := by omega
    have h3 : j - st = n := by omega
    rw [if_pos h, if_pos h2, h3]
  · have h3 : (st ≤ j ∧ j < st + (n + 1)) ↔ (st ≤ j ∧ j < st + n) := by omega
    simp only [h, h3, if_false]
theorem cpF_ge (g f : Nat → Int32) (st : Nat) {n j : Nat} (h : n ≤ j) : cpF g f st n j = g j := by
  have h2 : ¬ j < n := by omega
  simp only [cpF, h2, if_false]
/-- a state is saved: the oldest one goes when six stand -/
def svS (saved : Nat → Int32) (many : Nat) (f : Nat → Int32) : Nat → Int32 := if many = 6 then cpG (cpF saved saved 86 430) f 430 0 86 else cpG saved f (many * 86) 0 86
-- ---- the layout as the reference works it out
def mbr (s u : Nat) : Nat := if u = 2 then s / 7 else if u = 0 then (if s / 7 = 0 then 1 else 0) else if s / 7 = 2 then 1 else 2
def plc (d k : Nat) : Nat := cntB (fun x => lies x d) k
def uf (k : Nat) : Nat → Nat
  | 0 => 0
  | n + 1 => if 1 ≤ n ∧ spT (3 * stT k + n) = k then n else uf k n
def on1 (u : Nat) : Nat := if u = 0 then 1 else 0
def tw2 (u : Nat) : Nat := if u = 2 then 1 else 2
theorem on1_lt (u : Nat) : on1 u < 3 := by unfold on1; split <;> omega
theorem tw2_lt (u : Nat) : tw2 u < 3 := by unfold tw2; split <;> omega
theorem mbr_lt {s u : Nat} (hs : s < 21) (_ : u < 3) : mbr s u < 3 := by unfold mbr; repeat' split
                                                                         all_goals omega
theorem wh_tab {s u : Nat} (hs : s < 21) (hu : u < 3) : 9 * mem s (mbr s u) + plc (mem s (mbr s u)) s = spT (3 * s + u) := (show ∀ s, s < 21 → ∀ u, u < 3 → 9 * mem s (mbr s u) + plc (mem s (mbr s u)) s = spT (3 * s + u) by decide +kernel) s hs u hu
theorem st_end {d q : Nat} (hd : d < 7) (hq : q < 9) : q - plc d (stT (9 * d + q)) = 0 ∧ lies (stT (9 * d + q)) d = true := (show ∀ d, d < 7 → ∀ q, q < 9 → (q - plc d (stT (9 * d + q)) = 0 ∧ lies (stT (9 * d + q)) d = true) by decide +kernel) d hd q hq
theorem st_mid {d q i : Nat} (hd : d < 7) (hq : q < 9) (hi : i < stT (9 * d + q)) : ¬ (q - plc d i = 0 ∧ lies i d = true) := (show ∀ d, d < 7 → ∀ q, q < 9 → ∀ i, i < stT (9 * d + q) → ¬ (q - plc d i = 0 ∧ lies i d = true) by decide +kernel) d hd q hq i hi
theorem uf_tab {k : Nat} (hk : k < 63) : uf k 3 = unT k := (show ∀ k, k < 63 → uf k 3 = unT k by decide +kernel) k hk
theorem nx_12 {s u : Nat} (hs : s < 21) (hu : u < 3) : (nx (spT (3 * s + u)) 1 = spT (3 * s + on1 u) ∧ nx (spT (3 * s + u)) 2 = spT (3 * s + tw2 u)) ∨ (nx (spT (3 * s + u)) 2 = spT (3 * s + on1 u) ∧ nx (spT (3 * s + u)) 1 = spT (3 * s + tw2 u)) := (show ∀ s, s < 21 → ∀ u, u < 3 → ((nx (spT (3 * s + u)) 1 = spT (3 * s + on1 u) ∧ nx (spT (3 * s + u)) 2 = spT (3 * s + tw2 u)) ∨ (nx (spT (3 * s + u)) 2 = spT (3 * s + on1 u) ∧ nx (spT (3 * s + u)) 1 = spT (3 * s + tw2 u))) by decide +kernel) s hs u hu
theorem nx_ad {q : Nat} (hq : q < 42) : (nx (ad q) 1 = adO q ∧ nx (ad q) 2 = adP q) ∨ (nx (ad q) 2 = adO q ∧ nx (ad q) 1 = adP q) := (show ∀ q, q < 42 → ((nx (ad q) 1 = adO q ∧ nx (ad q) 2 = adP q) ∨ (nx (ad q) 2 = adO q ∧ nx (ad q) 1 = adP q)) by decide +kernel) q hq
theorem ad_discs {q : Nat} (hq : q < 42) : ad q / 9 ≠ adP q / 9 ∧ ad q ≠ adP q := (show ∀ q, q < 42 → (ad q / 9 ≠ adP q / 9 ∧ ad q ≠ adP q) by decide +kernel) q hq
theorem cf_12 {σ : Nat → Int32} {s u : Nat} (hs : s < 21) (hu : u < 3) : cf σ (spT (3 * s + u)) = (th σ (spT (3 * s + on1 u)) && th σ (spT (3 * s + tw2 u))) := by
  unfold cf
  rcases nx_12 hs hu with ⟨h1, h2⟩ | ⟨h1, h2⟩
  · rw [h1, h2]
  · rw [h1, h2, Bool.and_comm]
theorem fd_12 (σ : Nat → Int32) {s u : Nat} (hs : s < 21) (hu : u < 3) : fd σ (spT (3 * s + u)) = σ (spT (3 * s + on1 u)) ^^^ σ (spT (3 * s + tw2 u)) := by
  unfold fd
  rcases nx_12 hs hu with ⟨h1, h2⟩ | ⟨h1, h2⟩
  · rw [h1, h2]
  · rw [h1, h2, Int32.xor_comm]
theorem cf_ad {σ : Nat → Int32} {q : Nat} (hq : q < 42) : cf σ (ad q) = (th σ (adO q) && th σ (adP q)) := by
  unfold cf
  rcases nx_ad hq with ⟨h1, h2⟩ | ⟨h1, h2⟩
  · rw [h1, h2]
  · rw [h1, h2, Bool.and_comm]
theorem upd_comm (f : Nat → Int32) {i j : Nat} (x y : Int32) (h : i ≠ j) : upd (upd f i x) j y = upd (upd f j y) i x := by
  funext k
  simp only [upd]
  by_cases h1 : k = j
  · have h2 : ¬ k = i := by omega
    rw [if_pos h1, if_neg h2, if_pos h1]
  · rw [if_neg h1]
    by_cases h2 : k = i
    · rw [if_pos h2, if_pos h2]
    · rw [if_neg h2, if_neg h2, if_neg h1]
theorem rd_comm (σ : Nat → Int32) {i j : Nat} (h : i / 9 ≠ j / 9) : rdS (rdS σ i) j = rdS (rdS σ j) i := by
  have h1 : rdS σ i (70 + j / 9) = σ (70 + j / 9) := by unfold rdS; exact upd_ne (by omega)
  have h2 : rdS σ j (70 + i / 9) = σ (70 + i / 9) := by unfold rdS; exact upd_ne (by omega)
  have e1 : rdS (rdS σ i) j = upd (rdS σ i) (70 + j / 9) (rdS σ i (70 + j / 9) + 1) := rfl
  have e2 : rdS (rdS σ j) i = upd (rdS σ j) (70 + i / 9) (rdS σ j (70 + i / 9) + 1) := rfl
  rw [e1, e2, h1, h2]
  unfold rdS
  exact upd_comm _ _ _ (by omega)
theorem f2_12 (σ : Nat → Int32) {s u : Nat} (hs : s < 21) (hu : u < 3) : rdS (rdS σ (spT (3 * s + on1 u))) (spT (3 * s + tw2 u)) = f2S σ (spT (3 * s + u)) := by
  have hd := nx_discs (spT_lt (show 3 * s + u < 63 by omega))
  unfold f2S
  rcases nx_12 hs hu with ⟨h1, h2⟩ | ⟨h1, h2⟩
  · rw [h1, h2]
  · rw [← h1, ← h2, rd_comm _ (Ne.symm hd.1)]
theorem lay_wr (σ : Nat → Int32) (v : Int32) {k : Nat} (h : k < 63) : upd (upd σ k v) (77 + k / 9) (upd σ k v (77 + k / 9) + 1) = wrS σ k v := by
  rw [upd_ne (show 77 + k / 9 ≠ k by omega), upd_comm _ _ _ (by omega)]
  rfl
theorem wr_lt (σ : Nat → Int32) (k : Nat) (v : Int32) {j : Nat} (h : j < 77) (h2 : j ≠ k) : wrS σ k v j = σ j := by
  unfold wrS
  rw [upd_ne h2, upd_ne (by omega)]
theorem wr_comm (σ : Nat → Int32) {i j : Nat} (x y : Int32) (hi : i < 63) (hj : j < 63) (h : i / 9 ≠ j / 9) : wrS (wrS σ i x) j y = wrS (wrS σ j y) i x := by
  have hij : i ≠ j := fun q => h (by rw [q])
  have h1 : wrS σ i x (77 + j / 9) = σ (77 + j / 9) := by unfold wrS; rw [upd_ne (by omega), upd_ne (by omega)]
  have h2 : wrS σ j y (77 + i / 9) = σ (77 + i / 9) := by unfold wrS; rw [upd_ne (by omega), upd_ne (by omega)]
  have e1 : wrS (wrS σ i x) j y = upd (upd (wrS σ i x) (77 + j / 9) (wrS σ i x (77 + j / 9) + 1)) j y := rfl
  have e2 : wrS (wrS σ j y) i x = upd (upd (wrS σ j y) (77 + i / 9) (wrS σ j y (77 + i / 9) + 1)) i x := rfl
  rw [e1, e2, h1, h2]
  unfold wrS
  rw [upd_comm _ x _ (show i ≠ 77 + j / 9 by omega), upd_comm _ _ _ (show 77 + i / 9 ≠ 77 + j / 9 by omega), upd_comm _ x y hij, upd_comm _ _ y (show 77 + i / 9 ≠ j by omega)]
theorem dw_2 {σ : Nat → Int32} {q : Nat} {v : Int32} (hq : q < 42) : wrS (rdS σ (adO q)) (adP q) (rdS σ (adO q) (adO q) ^^^ v) = wrS (rdS σ (adO q)) (adP q) (σ (adO q) ^^^ v) := by
  rw [rd_lt _ _ (by have := adO_lt hq; omega)]
theorem dw_4 {σ : Nat → Int32} {q : Nat} {v : Int32} (hq : q < 42) (h1 : th σ (ad q) = true) (h2 : th σ (adP q) = true) : wrS (wrS (rdS (rdS σ (ad q)) (adP q)) (adP q) ((rdS (rdS σ (ad q)) (adP q) (adP q) ^^^ rdS (rdS σ (ad q)) (adP q) (ad q)) ^^^ v)) (ad q) v = wD σ q v := by
  have a1 := ad_lt hq
  have a2 := adP_lt hq
  unfold wD
  rw [if_pos h1, if_pos h2, rd_lt _ _ (by omega), rd_lt _ _ (by omega), rd_lt _ _ (by omega), rd_lt _ _ (by omega), wr_comm _ _ _ a2 a1 (Ne.symm (ad_discs hq).1), Int32.xor_assoc]
theorem begS_c (σ : Nat → Int32) {d : Nat} (h : d < 7) : upd (upd σ (63 + d) 0) 84 (upd σ (63 + d) 0 84 - 1) = begS σ d := by
  rw [upd_ne (show (84 : Nat) ≠ 63 + d by omega), upd_comm _ _ _ (by omega)]
  rfl
theorem th_s {σ : Nat → Int32} {k : Nat} (h : σ (63 + k / 9) = 9) : th σ k = true := by
  have h2 : nI (k % 9) < nI 9 := (nI_ltI (by omega) (by omega)).mpr (by omega)
  unfold th
  rw [h]
  exact decide_eq_true h2
theorem Val_kn {σ : Nat → Int32} (hv : Val σ) {k : Nat} (hk : k < 63) (h : lo σ k = false) : ∃ n : Nat, n < 65536 ∧ kn σ k = nI n := by
  unfold kn
  rw [h]
  simp only [Bool.false_eq_true, if_false]
  split
  · exact hv.1 k hk
  · exact Val_xor hv (nx_lt hk 1) (nx_lt hk 2)
theorem kn_f {σ : Nat → Int32} (_ : Val σ) {k : Nat} (_ : k < 63) (h : ¬ kn σ k = -1) : lo σ k = false := by
  cases h2 : lo σ k with
  | false => rfl
  | true => exact absurd (by unfold kn; rw [h2]; rfl) h
theorem kn_t {σ : Nat → Int32} (hv : Val σ) {k : Nat} (hk : k < 63) (h : kn σ k = -1) : lo σ k = true := by
  cases h2 : lo σ k with
  | true => rfl
  | false =>
    obtain ⟨n, hn, e⟩ := Val_kn hv hk h2
    rw [e] at h
    exact absurd h (nI_ne_m1 (by omega))
theorem Val_fail {σ : Nat → Int32} (hv : Val σ) {d : Nat} (hd : d < 7) : Val (failS σ d) := by
  refine ⟨fun j hj => ?_, fun x hx => ?_, ?_⟩
  · have h1 : ¬ j = 63 + d := by omega
    simp only [failS, h1, if_false]
    split
    · exact ⟨0, by omega, rfl⟩
    · exact hv.1 j hj
  · simp only [failS]
    split
    · exact Or.inl rfl
    · have h1 : ¬ (9 * d ≤ 63 + x ∧ 63 + x < 9 * d + 9) := by omega
      simp only [h1, if_false]
      exact hv.2.1 x hx
  · have h1 : ¬ 84 = 63 + d := by omega
    have h2 : ¬ (9 * d ≤ 84 ∧ 84 < 9 * d + 9) := by omega
    simp only [failS, h1, h2, if_false]
    exact hv.2.2
theorem isM_in {σ : Nat → Int32} (hv : Val σ) {d : Nat} (hd : d < 7) : inB (σ (63 + d)) 0 8 = isM σ d := by
  rcases hv.2.1 d hd with h | ⟨n, hn, h⟩
  · simp only [inB, isM, h]; decide
  · have h0 : nI n ≠ -1 := nI_ne_m1 (by omega)
    have h1 : nI 0 ≤ nI n := (nI_leI (by omega) (by omega)).mpr (by omega)
    have h9 : (nI n ≠ 9) ↔ n ≠ 9 := not_congr (show nI n = nI 9 ↔ n = 9 from nI_eq (by omega) (by omega))
    have h8 : (nI n ≤ nI 8) ↔ n ≤ 8 := nI_leI (by omega) (by omega)
    simp only [inB, isM, h, h0, h1, h9, h8, ne_eq, not_false_eq_true, decide_true, Bool.true_and]
    by_cases q : n = 9
    · simp [q]
    · have q2 : n ≤ 8 := by omega
      simp [q, q2]
theorem mo_1 {σ : Nat → Int32} {k d : Nat} (hk : k < 63) : upd (wrS (rdS (rdS σ (spT (3 * stT k + on1 (unT k)))) (spT (3 * stT k + tw2 (unT k)))) k (rdS (rdS σ (spT (3 * stT k + on1 (unT k)))) (spT (3 * stT k + tw2 (unT k))) (spT (3 * stT k + on1 (unT k))) ^^^ rdS (rdS σ (spT (3 * stT k + on1 (unT k)))) (spT (3 * stT k + tw2 (unT k))) (spT (3 * stT k + tw2 (unT k))))) (63 + d) (wrS (rdS (rdS σ (spT (3 * stT k + on1 (unT k)))) (spT (3 * stT k + tw2 (unT k)))) k (rdS (rdS σ (spT (3 * stT k + on1 (unT k)))) (spT (3 * stT k + tw2 (unT k))) (spT (3 * stT k + on1 (unT k))) ^^^ rdS (rdS σ (spT (3 * stT k + on1 (unT k)))) (spT (3 * stT k + tw2 (unT k))) (spT (3 * stT k + tw2 (unT k)))) (63 + d) + 1) = upd (wrS (f2S σ k) k (fd σ k)) (63 + d) (wrS (f2S σ k) k (fd σ k) (63 + d) + 1) := by
  have hs := stT_lt hk
  have hu := unT_lt hk
  have b1 : spT (3 * stT k + on1 (unT k)) < 63 := sp_lt hs (on1_lt _)
  have b2 : spT (3 * stT k + tw2 (unT k)) < 63 := sp_lt hs (tw2_lt _)
  have e1 := f2_12 σ hs hu
  have e2 := fd_12 σ hs hu
  rw [sp_stun hk] at e1 e2
  rw [e1, f2_lt _ _ (by omega), f2_lt _ _ (by omega), ← e2]
theorem lmA_skip (σ : Nat → Int32) : ∀ (n d x : Nat), d ≤ x → x < d + n → (∀ y, d ≤ y → y < x → isM σ y = false) → isM σ x = true → lmA σ d n = x := by
  intro n
  induction n with
  | zero => intro d x h1 h2; omega
  | succ n ih =>
    intro d x h1 h2 h3 h4
    simp only [lmA]
    by_cases q : d = x
    · rw [q, if_pos h4]
    · rw [h3 d (Nat.le_refl d) (by omega)]
      simp only [Bool.false_eq_true, if_false]
      exact ih (d + 1) x (by omega) (by omega) (fun y a b => h3 y (by omega) b) h4
theorem lm_first {σ : Nat → Int32} {x : Nat} (hx : x < 7) (h : ∀ y, y < x → isM σ y = false) (h2 : isM σ x = true) : lm σ = x := lmA_skip σ 7 0 x (by omega) (by omega) (fun y _ b => h y b) h2
theorem lmA_none (σ : Nat → Int32) : ∀ (n d : Nat), (∀ y, d ≤ y → y < d + n → isM σ y = false) → lmA σ d n = d + n := by
  intro n
  induction n with
  | zero => intro d _; rfl
  | succ n ih =>
    intro d h
    simp only [lmA]
    rw [h d (Nat.le_refl d) (by omega)]
    simp only [Bool.false_eq_true, if_false]
    rw [ih (d + 1) (fun y a b => h y (by omega) (by omega))]
    omega
theorem lm_none {σ : Nat → Int32} {x : Nat} (hx : 7 ≤ x) (h : ∀ y, y < x → isM σ y = false) : ¬ lm σ < 7 := by
  have := lmA_none σ 7 0 (fun y _ b => h y (by omega))
  unfold lm
  omega
theorem mnS_0 {σ : Nat → Int32} (h : ¬ lm σ < 7) {n : Nat} : mnS n σ = (σ, 0) := by
  cases n with
  | zero => rfl
  | succ n => simp only [mnS, if_neg h]
theorem isM_mend {σ : Nat → Int32} (hv : Val σ) {x : Nat} (hl : lm σ = x) (hx : x < 7) {y : Nat} (hy : y < x) : isM (mendS σ x) y = isM σ y := by
  obtain ⟨g, hg, e⟩ := Val_lm hv (show lm σ < 7 by omega)
  rw [hl] at e
  have hk : mkS σ x < 63 := by unfold mkS; rw [e, nI_clamp (by omega)]; omega
  have h1 : mendS σ x (63 + y) = σ (63 + y) := by
    unfold mendS
    rw [upd_ne (by omega)]
    unfold mendA
    split
    · rw [wr_lt _ _ _ (by omega) (by omega), f2_lt _ _ (by omega)]
    · rw [upd_ne (by omega)]
  unfold isM
  rw [h1]
theorem th_rd (σ : Nat → Int32) (k j : Nat) (hj : j < 63) : th (rdS σ k) j = th σ j := by
  unfold th
  rw [rd_lt _ _ (by omega)]
theorem wrg_R (σ : Nat → Int32) {s : Nat} (hs : s < 21) : wrg (scR σ s) s = wrg σ s := by
  have h0 : spT (3 * s) < 63 := sp_lt (u := 0) hs (by omega)
  have h1 : spT (3 * s + 1) < 63 := sp_lt hs (by omega)
  have h2 : spT (3 * s + 2) < 63 := sp_lt hs (by omega)
  simp only [wrg, whl, scR, th_rd _ _ _ h0, th_rd _ _ _ h1, th_rd _ _ _ h2, rd_lt _ _ (show spT (3 * s) < 70 by omega), rd_lt _ _ (show spT (3 * s + 1) < 70 by omega), rd_lt _ _ (show spT (3 * s + 2) < 70 by omega)]
theorem sc_x (σ : Nat → Int32) {s : Nat} (hs : s < 21) : wrS (scR σ s) (spT (3 * s + 2)) (scR σ s (spT (3 * s + 0)) ^^^ scR σ s (spT (3 * s + 1))) = wrS (scR σ s) (spT (3 * s + 2)) (σ (spT (3 * s)) ^^^ σ (spT (3 * s + 1))) := by
  have h0 : spT (3 * s) < 63 := sp_lt (u := 0) hs (by omega)
  have h1 : spT (3 * s + 1) < 63 := sp_lt hs (by omega)
  have e : ∀ j, j < 63 → scR σ s j = σ j := fun j hj => by simp only [scR, rd_lt _ _ (show j < 70 by omega)]
  rw [e _ h1, show 3 * s + 0 = 3 * s from rfl, e _ h0]

