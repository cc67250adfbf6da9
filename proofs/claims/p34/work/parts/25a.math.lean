/-! What the law's property stands on: how the units are seen, and what keeps them. -/
theorem x_inv (a b : Int32) : a ^^^ (a ^^^ b) = b := by
  apply Int32.toBitVec_inj.mp
  rw [Int32.toBitVec_xor, Int32.toBitVec_xor, ← BitVec.xor_assoc, BitVec.xor_self, BitVec.zero_xor]
theorem x_comm (a b : Int32) : a ^^^ b = b ^^^ a := by
  apply Int32.toBitVec_inj.mp
  rw [Int32.toBitVec_xor, Int32.toBitVec_xor, BitVec.xor_comm]
theorem x_assoc (a b c : Int32) : a ^^^ b ^^^ c = a ^^^ (b ^^^ c) := by
  apply Int32.toBitVec_inj.mp
  rw [Int32.toBitVec_xor, Int32.toBitVec_xor, Int32.toBitVec_xor, Int32.toBitVec_xor, BitVec.xor_assoc]
/-- v ^ (p ^ (d ^ v)) = d ^ p -/
theorem x_wr (v p d : Int32) : v ^^^ (p ^^^ (d ^^^ v)) = d ^^^ p := by
  rw [x_comm d v, ← x_assoc p v d, x_comm p v, x_assoc v p d, x_inv, x_comm]
theorem spT_inj {j k : Nat} (hj : j < 63) (hk : k < 63) (h : spT j = spT k) : j = k := by
  have h1 := st_spT hj
  have h2 := st_spT hk
  have h3 := un_spT hj
  have h4 := un_spT hk
  rw [h] at h1 h3
  omega
theorem nx_tab {s : Nat} (h : s < 21) : (nx (spT (3 * s)) 1 = spT (3 * s + 1) ∧ nx (spT (3 * s)) 2 = spT (3 * s + 2)) ∧ (nx (spT (3 * s + 1)) 1 = spT (3 * s + 2) ∧ nx (spT (3 * s + 1)) 2 = spT (3 * s)) := (show ∀ s, s < 21 → ((nx (spT (3 * s)) 1 = spT (3 * s + 1) ∧ nx (spT (3 * s)) 2 = spT (3 * s + 2)) ∧ (nx (spT (3 * s + 1)) 1 = spT (3 * s + 2) ∧ nx (spT (3 * s + 1)) 2 = spT (3 * s))) by decide +kernel) s h
theorem nx_st {k : Nat} (h : k < 63) : stT (nx k 1) = stT k ∧ stT (nx k 2) = stT k ∧ nx k 1 ≠ k ∧ nx k 2 ≠ k := (show ∀ k, k < 63 → (stT (nx k 1) = stT k ∧ stT (nx k 2) = stT k ∧ nx k 1 ≠ k ∧ nx k 2 ≠ k) by decide +kernel) k h
/-- right: the parity is that of the two data units -/
def Ri (σ : Nat → Int32) (s : Nat) : Prop := σ (spT (3 * s)) ^^^ σ (spT (3 * s + 1)) = σ (spT (3 * s + 2))
theorem k_cases {k : Nat} (hk : k < 63) : ∃ s, s < 21 ∧ stT k = s ∧ (k = spT (3 * s) ∨ k = spT (3 * s + 1) ∨ k = spT (3 * s + 2)) := by
  refine ⟨stT k, stT_lt hk, rfl, ?_⟩
  have h := sp_stun hk
  have hu := unT_lt hk
  rcases (show unT k = 0 ∨ unT k = 1 ∨ unT k = 2 by omega) with q | q | q
  · rw [q] at h; exact Or.inl h.symm
  · rw [q] at h; exact Or.inr (Or.inl h.symm)
  · rw [q] at h; exact Or.inr (Or.inr h.symm)
theorem Ri_fd {σ : Nat → Int32} {k : Nat} (hk : k < 63) : Ri σ (stT k) ↔ fd σ k = σ k := by
  obtain ⟨s, hs, e, h⟩ := k_cases hk
  rw [e]
  have t1 := nx_tab hs
  have t2 := nx_par hs
  unfold Ri fd
  rcases h with rfl | rfl | rfl
  · rw [t1.1.1, t1.1.2]
    constructor
    · intro h; rw [← h, x_comm (σ (spT (3 * s))), x_inv]
    · intro h; rw [← h, x_comm, x_inv]
  · rw [t1.2.1, t1.2.2]
    constructor
    · intro h; rw [← h, x_comm, x_inv]
    · intro h; rw [← h, x_comm (σ (spT (3 * s + 2))), x_inv]
  · rw [t2.1, t2.2]
theorem whl_th {σ : Nat → Int32} {s : Nat} : whl σ s = true ↔ th σ (spT (3 * s)) = true ∧ th σ (spT (3 * s + 1)) = true ∧ th σ (spT (3 * s + 2)) = true := by
  unfold whl
  rw [Bool.and_eq_true, Bool.and_eq_true, and_assoc]
theorem wrg_Ri {σ : Nat → Int32} {s : Nat} : wrg σ s = false ↔ (whl σ s = true → Ri σ s) := by
  unfold wrg Ri
  cases h : whl σ s
  · simp
  · simp
/-- a whole stripe, told by one of its units -/
theorem whl_k {σ : Nat → Int32} {k : Nat} (hk : k < 63) : whl σ (stT k) = true ↔ th σ k = true ∧ cf σ k = true := by
  obtain ⟨s, hs, e, h⟩ := k_cases hk
  rw [e, whl_th]
  have t1 := nx_tab hs
  have t2 := nx_par hs
  unfold cf
  rw [Bool.and_eq_true]
  rcases h with rfl | rfl | rfl
  · rw [t1.1.1, t1.1.2]
  · rw [t1.2.1, t1.2.2]
    exact ⟨fun ⟨a, b, c⟩ => ⟨b, c, a⟩, fun ⟨b, c, a⟩ => ⟨a, b, c⟩⟩
  · rw [t2.1, t2.2]
    exact ⟨fun ⟨a, b, c⟩ => ⟨c, a, b⟩, fun ⟨c, a, b⟩ => ⟨a, b, c⟩⟩
/-- the same units are there, with the same values -/
def ThE (σ τ : Nat → Int32) : Prop := (∀ k, k < 63 → th σ k = th τ k) ∧ ∀ k, k < 63 → σ k = τ k
theorem ThE.symm {σ τ : Nat → Int32} (h : ThE σ τ) : ThE τ σ := ⟨fun k hk => (h.1 k hk).symm, fun k hk => (h.2 k hk).symm⟩
theorem ThE.trans {σ τ υ : Nat → Int32} (h : ThE σ τ) (g : ThE τ υ) : ThE σ υ := ⟨fun k hk => (h.1 k hk).trans (g.1 k hk), fun k hk => (h.2 k hk).trans (g.2 k hk)⟩
theorem ThE.of70 {σ τ : Nat → Int32} (h : ∀ k, k < 70 → σ k = τ k) : ThE σ τ := ⟨fun k hk => by unfold th; rw [h _ (by omega)], fun k hk => h k (by omega)⟩
theorem cf_T {σ τ : Nat → Int32} (h : ∀ k, k < 63 → th σ k = th τ k) {k : Nat} (hk : k < 63) : cf σ k = cf τ k := by
  unfold cf
  rw [h _ (nx_lt hk 1), h _ (nx_lt hk 2)]
theorem lo_T {σ τ : Nat → Int32} (h : ∀ k, k < 63 → th σ k = th τ k) {k : Nat} (hk : k < 63) : lo σ k = lo τ k := by
  unfold lo
  rw [h _ hk, cf_T h hk]
theorem whl_T {σ τ : Nat → Int32} (h : ∀ k, k < 63 → th σ k = th τ k) {s : Nat} (hs : s < 21) : whl σ s = whl τ s := by
  unfold whl
  rw [h _ (spT_lt (by omega)), h _ (spT_lt (by omega)), h _ (spT_lt (by omega))]
theorem T_fd {σ τ : Nat → Int32} (h : ThE σ τ) {k : Nat} (hk : k < 63) : fd σ k = fd τ k := by
  unfold fd
  rw [h.2 _ (nx_lt hk 1), h.2 _ (nx_lt hk 2)]
theorem T_kn {σ τ : Nat → Int32} (h : ThE σ τ) {k : Nat} (hk : k < 63) : kn σ k = kn τ k := by
  unfold kn
  rw [lo_T h.1 hk, h.1 _ hk, h.2 _ hk, T_fd h hk]
theorem T_vis {σ τ : Nat → Int32} (h : ThE σ τ) {k : Nat} (hk : k < 63) : vis σ k = vis τ k := by
  unfold vis
  rw [h.1 _ hk, h.2 _ hk]
theorem T_wrg {σ τ : Nat → Int32} (h : ThE σ τ) {s : Nat} (hs : s < 21) : wrg σ s = wrg τ s := by
  unfold wrg
  rw [whl_T h.1 hs, h.2 _ (spT_lt (by omega)), h.2 _ (spT_lt (by omega)), h.2 _ (spT_lt (by omega))]
/-- no stripe is wrong -/
def Rt (σ : Nat → Int32) : Prop := ∀ s, s < 21 → wrg σ s = false
theorem T_rt {σ τ : Nat → Int32} (h : ThE σ τ) (g : Rt σ) : Rt τ := fun s hs => by rw [← T_wrg h hs]; exact g s hs
/-- at most one disc is not sound -/
def One (σ : Nat → Int32) : Prop := ∀ d e, d < 7 → e < 7 → ¬ σ (63 + d) = 9 → ¬ σ (63 + e) = 9 → d = e
theorem nI_lt9 {p : Nat} (h : p < 9) : nI p < 9 := (show ∀ p, p < 9 → nI p < 9 by decide +kernel) p h
theorem th_9 {σ : Nat → Int32} {k : Nat} (h : σ (63 + k / 9) = 9) : th σ k = true := by
  unfold th
  rw [h]
  exact decide_eq_true (nI_lt9 (Nat.mod_lt _ (by omega)))
/-- with all others sound, the units of the other discs are there -/
theorem th_oth {σ : Nat → Int32} {d k : Nat} (ho : ∀ e, e < 7 → e ≠ d → σ (63 + e) = 9) (hk : k < 63) (h : k / 9 ≠ d) : th σ k = true := th_9 (ho _ (by omega) h)
theorem One.oth {σ : Nat → Int32} (h : One σ) {d : Nat} (hd : d < 7) (h9 : ¬ σ (63 + d) = 9) : ∀ e, e < 7 → e ≠ d → σ (63 + e) = 9 := fun e he hn => Decidable.byContradiction fun q => hn (h e d he hd q h9)
theorem cf_oth {σ : Nat → Int32} {d k : Nat} (ho : ∀ e, e < 7 → e ≠ d → σ (63 + e) = 9) (hk : k < 63) (h : k / 9 = d) : cf σ k = true := by
  have h1 := nx_discs hk
  unfold cf
  rw [th_oth ho (nx_lt hk 1) (fun q => h1.2.1 (by omega)), th_oth ho (nx_lt hk 2) (fun q => h1.2.2 (by omega))]
  rfl
/-- nothing is lost -/
theorem lo_One {σ : Nat → Int32} (h : One σ) {k : Nat} (hk : k < 63) : lo σ k = false := by
  unfold lo
  by_cases h9 : σ (63 + k / 9) = 9
  · rw [th_9 h9]; rfl
  · rw [cf_oth (h.oth (show k / 9 < 7 by omega) h9) hk rfl, Bool.not_true, Bool.and_false]
theorem kn_th {σ : Nat → Int32} {k : Nat} (h : th σ k = true) : kn σ k = σ k := by
  unfold kn lo
  rw [h]
  rfl
theorem kn_fd {σ : Nat → Int32} {k : Nat} (h : th σ k = false) (h2 : cf σ k = true) : kn σ k = fd σ k := by
  unfold kn lo
  rw [h, h2]
  rfl
theorem kn_lo {σ : Nat → Int32} {k : Nat} (h : lo σ k = true) : kn σ k = -1 := by
  unfold kn
  rw [h]
  rfl
theorem lo_f {σ : Nat → Int32} {k : Nat} (h : th σ k = true) : lo σ k = false := by
  unfold lo
  rw [h]
  rfl
theorem lo_cf {σ : Nat → Int32} {k : Nat} (h : th σ k = false) (h2 : lo σ k = false) : cf σ k = true := by
  unfold lo at h2
  rw [h] at h2
  simpa using h2
-- ---- reading
theorem rS_70 (σ : Nat → Int32) (q : Nat) {k : Nat} (hk : k < 70) : rS σ q k = σ k := by
  unfold rS
  split
  · exact rd_lt _ _ hk
  · exact f2_lt _ _ hk
theorem rS_T (σ : Nat → Int32) (q : Nat) : ThE (rS σ q) σ := .of70 fun _ hk => rS_70 σ q hk
-- ---- writing
theorem sp_ne {i j : Nat} (hi : i < 63) (hj : j < 63) (h : i ≠ j) : spT i ≠ spT j := fun q => h (spT_inj hi hj q)
theorem ad_P {q : Nat} (h : q < 42) : ad q ≠ adP q := sp_ne (by omega) (by omega) (by omega)
theorem ad_O {q : Nat} (h : q < 42) : ad q ≠ adO q := sp_ne (by omega) (by omega) (by omega)
theorem adO_P {q : Nat} (h : q < 42) : adO q ≠ adP q := sp_ne (by omega) (by omega) (by omega)
theorem fd_ad {σ : Nat → Int32} {q : Nat} (h : q < 42) : fd σ (ad q) = σ (adO q) ^^^ σ (adP q) := by
  have t := nx_tab (show q / 2 < 21 by omega)
  unfold fd ad adO adP
  rcases (show q % 2 = 0 ∨ q % 2 = 1 by omega) with e | e
  · rw [e, Nat.add_zero, t.1.1, t.1.2]
  · rw [e, t.2.1, t.2.2, x_comm]; rfl
theorem cf_ad {σ : Nat → Int32} {q : Nat} (h : q < 42) : cf σ (ad q) = (th σ (adO q) && th σ (adP q)) := by
  have t := nx_tab (show q / 2 < 21 by omega)
  unfold cf ad adO adP
  rcases (show q % 2 = 0 ∨ q % 2 = 1 by omega) with e | e
  · rw [e, Nat.add_zero, t.1.1, t.1.2]
  · rw [e, t.2.1, t.2.2, Bool.and_comm]; rfl
theorem wrS_k (σ : Nat → Int32) {k j : Nat} (v : Int32) (hj : j < 70) : wrS σ k v j = if j = k then v else σ j := by
  unfold wrS
  by_cases h : j = k
  · rw [if_pos h, h, upd_eq]
  · rw [if_neg h, upd_ne h, upd_ne (by omega)]
theorem wD_tt {σ : Nat → Int32} {q : Nat} {v : Int32} (h1 : th σ (ad q) = true) (h2 : th σ (adP q) = true) {j : Nat} (hj : j < 70) : wD σ q v j = if j = adP q then σ (adP q) ^^^ (σ (ad q) ^^^ v) else if j = ad q then v else σ j := by
  unfold wD
  rw [if_pos h1, if_pos h2, wrS_k _ _ hj, wrS_k _ _ hj, rd_lt _ _ hj, rd_lt _ _ hj]
theorem wD_tf {σ : Nat → Int32} {q : Nat} {v : Int32} (h1 : th σ (ad q) = true) (h2 : th σ (adP q) = false) {j : Nat} (hj : j < 70) : wD σ q v j = if j = ad q then v else σ j := by
  unfold wD
  rw [if_pos h1, if_neg (by rw [h2]; decide), wrS_k _ _ hj]
theorem wD_f {σ : Nat → Int32} {q : Nat} {v : Int32} (h1 : th σ (ad q) = false) {j : Nat} (hj : j < 70) : wD σ q v j = if j = adP q then σ (adO q) ^^^ v else σ j := by
  unfold wD
  rw [if_neg (by rw [h1]; decide), wrS_k _ _ hj, rd_lt _ _ hj]
theorem wD_ne {σ : Nat → Int32} {q : Nat} {v : Int32} {j : Nat} (hj : j < 70) (h1 : j ≠ ad q) (h2 : j ≠ adP q) : wD σ q v j = σ j := by
  cases ht : th σ (ad q)
  · rw [wD_f ht hj, if_neg h2]
  · cases hp : th σ (adP q)
    · rw [wD_tf ht hp hj, if_neg h1]
    · rw [wD_tt ht hp hj, if_neg h2, if_neg h1]
theorem wD_pr (σ : Nat → Int32) {q : Nat} (hq : q < 42) (v : Int32) {j : Nat} (hj : j < 70) (h : 63 ≤ j) : wD σ q v j = σ j :=
  wD_ne hj (by have := ad_lt hq; omega) (by have := adP_lt hq; omega)
theorem wD_th (σ : Nat → Int32) {q : Nat} (hq : q < 42) (v : Int32) : ∀ k, k < 63 → th (wD σ q v) k = th σ k := fun k hk => by
  unfold th
  rw [wD_pr σ hq v (by omega) (by omega)]
/-- what a write does to what can be read: its own address alone -/
theorem kn_wD {σ : Nat → Int32} {q r : Nat} (hq : q < 42) (hr : r < 42) (v : Int32) (hc : canW σ q = true) : kn (wD σ q v) (ad r) = if r = q then v else kn σ (ad r) := by
  have hT := wD_th σ hq v
  have a1 := ad_lt hq
  have a2 := adO_lt hq
  have a3 := adP_lt hq
  have r1 := ad_lt hr
  by_cases e : r = q
  · rw [if_pos e, e]
    cases ht : th σ (ad q)
    · have hlo : lo σ (ad q) = false := by unfold canW at hc; simpa using hc
      have hcf := lo_cf ht hlo
      rw [kn_fd (by rw [hT _ a1]; exact ht) (by rw [cf_T hT a1]; exact hcf), fd_ad hq, wD_f ht (by omega), wD_f ht (by omega), if_neg (adO_P hq), if_pos rfl, x_inv]
    · rw [kn_th (by rw [hT _ a1]; exact ht)]
      cases hp : th σ (adP q)
      · rw [wD_tf ht hp (by omega), if_pos rfl]
      · rw [wD_tt ht hp (by omega), if_neg (ad_P hq), if_pos rfl]
  · rw [if_neg e]
    have n1 : ad r ≠ ad q := sp_ne (by omega) (by omega) (by omega)
    have n2 : ad r ≠ adP q := sp_ne (by omega) (by omega) (by omega)
    have hv : wD σ q v (ad r) = σ (ad r) := wD_ne (by omega) n1 n2
    cases hl : lo σ (ad r)
    · have hl2 : lo (wD σ q v) (ad r) = false := by rw [lo_T hT r1]; exact hl
      cases ht : th σ (ad r)
      · have hcf := lo_cf ht hl
        rw [kn_fd ht hcf, kn_fd (by rw [hT _ r1]; exact ht) (by rw [cf_T hT r1]; exact hcf), fd_ad hr, fd_ad hr]
        by_cases s : r / 2 = q / 2
        · have e1 : adO r = ad q := by
            unfold adO ad
            rw [s, show 1 - r % 2 = q % 2 by omega]
          have e2 : adP r = adP q := by
            unfold adP
            rw [s]
          rw [cf_ad hr, e1, e2, Bool.and_eq_true] at hcf
          rw [e1, e2, wD_tt hcf.1 hcf.2 (by omega), wD_tt hcf.1 hcf.2 (by omega), if_neg (ad_P hq), if_pos rfl, if_pos rfl, x_wr]
        · rw [wD_ne (j := adO r) (by have := adO_lt hr; omega) (sp_ne (by omega) (by omega) (by omega)) (sp_ne (by omega) (by omega) (by omega)), wD_ne (j := adP r) (by have := adP_lt hr; omega) (sp_ne (by omega) (by omega) (by omega)) (sp_ne (by omega) (by omega) (by omega))]
      · rw [kn_th ht, kn_th (by rw [hT _ r1]; exact ht), hv]
    · rw [kn_lo hl, kn_lo (by rw [lo_T hT r1]; exact hl)]
theorem Rt_wD {σ : Nat → Int32} {q : Nat} (hq : q < 42) (v : Int32) (h : Rt σ) : Rt (wD σ q v) := fun s hs => by
  have hT := wD_th σ hq v
  have h1 := wrg_Ri.mp (h s hs)
  rw [wrg_Ri, whl_T hT hs]
  intro hw
  have h2 := h1 hw
  by_cases e : s = q / 2
  · have w3 := whl_th.mp hw
    have a1 := ad_lt hq
    have hst : stT (ad q) = s := by
      unfold ad
      rw [st_spT (by omega)]
      omega
    have hk := (whl_k a1).mp (by rw [hst]; exact hw)
    have hcf := hk.2
    rw [cf_ad hq, Bool.and_eq_true] at hcf
    have h3 := (Ri_fd a1).mp (by rw [hst]; exact h2)
    rw [← hst, Ri_fd a1, fd_ad hq]
    rw [fd_ad hq] at h3
    have a2 := adO_lt hq
    have a3 := adP_lt hq
    rw [wD_tt hk.1 hcf.2 (by omega), wD_tt hk.1 hcf.2 (by omega), wD_tt hk.1 hcf.2 (by omega), if_neg (adO_P hq), if_neg (ad_O hq).symm, if_pos rfl, if_neg (ad_P hq), if_pos rfl, ← h3, ← x_assoc (σ (adO q)), x_inv]
  · unfold Ri
    rw [wD_ne (j := spT (3 * s)) (by have := spT_lt (show 3 * s < 63 by omega); omega) (sp_ne (by omega) (by omega) (by omega)) (sp_ne (by omega) (by omega) (by omega)), wD_ne (j := spT (3 * s + 1)) (by have := spT_lt (show 3 * s + 1 < 63 by omega); omega) (sp_ne (by omega) (by omega) (by omega)) (sp_ne (by omega) (by omega) (by omega)), wD_ne (j := spT (3 * s + 2)) (by have := spT_lt (show 3 * s + 2 < 63 by omega); omega) (sp_ne (by omega) (by omega) (by omega)) (sp_ne (by omega) (by omega) (by omega))]
    exact h2
