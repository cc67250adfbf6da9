/-! The two readers of a text tell the same: sign by sign, order by order. -/
/-- the signs from i to j are all taken, no ';' among them: from the reader r to the reader r' -/
def goR (tx : Nat → Nat) (n : Nat) : Nat → Nat → RSt → RSt → Prop
  | 0, _, r, r' => r = r'
  | k + 1, i, r, r' => i < n ∧ ¬ tx i = 59 ∧ (tkN r (tx i)).1 = true ∧ goR tx n k (i + 1) (tkN r (tx i)).2 r'
def Rd (tx : Nat → Nat) (n i : Nat) (r : RSt) (j : Nat) (r' : RSt) : Prop := ∃ k, j = i + k ∧ goR tx n k i r r'
theorem Rd.nil {tx : Nat → Nat} {n : Nat} (i : Nat) (r : RSt) : Rd tx n i r i r := ⟨0, rfl, rfl⟩
theorem goR.scan {tx : Nat → Nat} {n : Nat} : ∀ (k i : Nat) {r r' : RSt}, goR tx n k i r r' → (i ≤ n → i + k ≤ n) ∧ scan tx (n - i) i r = scan tx (n - (i + k)) (i + k) r' ∧ nxA tx n (n - i) i r = nxA tx n (n - (i + k)) (i + k) r' := by
  intro k
  induction k with
  | zero => intro i r r' h; cases h; exact ⟨fun h => h, rfl, rfl⟩
  | succ k ih =>
    intro i r r' h
    obtain ⟨hi, h59, h1, h2⟩ := h
    obtain ⟨a1, a2, a3⟩ := ih (i + 1) h2
    rw [show i + (k + 1) = i + 1 + k by omega, ← a2, ← a3, show n - i = (n - (i + 1)) + 1 by omega]
    refine ⟨fun _ => a1 (by omega), ?_, ?_⟩
    · show (if (tkN r (tx i)).1 = true then _ else _) = _
      rw [if_pos h1]
    · show (if i < n ∧ ¬ tx i = 59 then _ else _) = _
      rw [if_pos ⟨hi, h59⟩]
theorem goR.trans {tx : Nat → Nat} {n : Nat} {m : Nat} : ∀ (k i : Nat) {r r' r2 : RSt}, goR tx n k i r r' → goR tx n m (i + k) r' r2 → goR tx n (k + m) i r r2 := by
  intro k
  induction k with
  | zero => intro i r r' r2 h h2; cases h; rw [Nat.zero_add]; exact h2
  | succ k ih =>
    intro i r r' r2 h h2
    rw [show k + 1 + m = (k + m) + 1 by omega]
    exact ⟨h.1, h.2.1, h.2.2.1, ih (i + 1) h.2.2.2 (by rw [show i + 1 + k = i + (k + 1) by omega]; exact h2)⟩
theorem Rd.le {tx : Nat → Nat} {n i j : Nat} {r r' : RSt} (h : Rd tx n i r j r') : i ≤ j ∧ (i ≤ n → j ≤ n) := by
  obtain ⟨k, rfl, h⟩ := h
  exact ⟨by omega, (goR.scan k i h).1⟩
theorem Rd.scan {tx : Nat → Nat} {n i j : Nat} {r r' : RSt} (h : Rd tx n i r j r') : scan tx (n - i) i r = scan tx (n - j) j r' := by
  obtain ⟨k, rfl, h⟩ := h
  exact (goR.scan k i h).2.1
theorem Rd.nxA {tx : Nat → Nat} {n i j : Nat} {r r' : RSt} (h : Rd tx n i r j r') : nxA tx n (n - i) i r = nxA tx n (n - j) j r' := by
  obtain ⟨k, rfl, h⟩ := h
  exact (goR.scan k i h).2.2
theorem Rd.trans {tx : Nat → Nat} {n i j k : Nat} {r r' r2 : RSt} (h : Rd tx n i r j r') (h2 : Rd tx n j r' k r2) : Rd tx n i r k r2 := by
  obtain ⟨a, rfl, h⟩ := h
  obtain ⟨b, rfl, h2⟩ := h2
  exact ⟨a + b, by omega, goR.trans a i h h2⟩
theorem Rd.one {tx : Nat → Nat} {n i : Nat} {r r' : RSt} (hi : i < n) (h59 : ¬ tx i = 59) (h : tkN r (tx i) = (true, r')) : Rd tx n i r (i + 1) r' :=
  ⟨1, rfl, hi, h59, by rw [h], by rw [h]; rfl⟩
theorem wd_d {o : Option Nat} {c top : Nat} (h0 : ¬ o = some 0) (h1 : 48 ≤ c) (h2 : c ≤ 57) (h3 : wdv o c ≤ top) : wd o c top = some (wdv o c) := by
  unfold wd
  rw [if_neg (by intro h; rcases h with h | h | h; omega; omega; exact h0 h), if_pos h3]
theorem wd_x {o : Option Nat} {c top : Nat} (h : c < 48 ∨ 57 < c) : wd o c top = none := by
  unfold wd
  rw [if_pos (by rcases h with h | h; exact Or.inl h; exact Or.inr (Or.inl h))]
theorem wd_0 {c top : Nat} : wd (some 0) c top = none := by
  unfold wd
  rw [if_pos (Or.inr (Or.inr rfl))]
theorem wd_g {o : Option Nat} {c top : Nat} (h3 : ¬ wdv o c ≤ top) : wd o c top = none := by
  unfold wd
  split
  · rfl
  · first | rfl | rw [if_neg h3]
theorem nxt_f {tx : Nat → Nat} {n i lo hi : Nat} (h : nxt tx n i lo hi = false) (hi2 : i < n) : tx i < lo ∨ hi < tx i := by
  by_cases h1 : lo ≤ tx i
  · by_cases h2 : tx i ≤ hi
    · rw [nxt, decide_eq_true hi2, decide_eq_true h1, decide_eq_true h2] at h; cases h
    · omega
  · omega
/-- a phase in which a number is read -/
def isNum (st : Option Nat → RSt) (top : Nat) : Prop := ∀ (o : Option Nat) (c : Nat), ¬ c = 61 → ¬ c = 59 → tkN (st o) c = ((wd o c top).isSome, st (wd o c top))
theorem isNum1 (lc : Nat) (ov : Option Nat) : isNum (fun o => (1, lc, o, ov)) 41 := fun o c h _ => by
  show tkA 1 lc o ov c = _
  unfold tkA
  rw [if_neg (fun q => h q.1)]
theorem isNum2 (lc : Nat) (on : Option Nat) : isNum (fun o => (2, lc, on, o)) 65535 := fun o c _ h => by
  show tkV 2 lc on o c = _
  unfold tkV
  rw [if_neg (fun q => h q.1)]
theorem Rd_num {tx : Nat → Nat} {n top : Nat} {st : Option Nat → RSt} (hst : isNum st top) : ∀ (k v i : Nat), i + k = n → ∃ w, (rnA tx n top k v i).1 = some w ∧ Rd tx n i (st (some v)) (rnA tx n top k v i).2 (st (some w)) ∧ ((rnA tx n top k v i).2 < n → wd (some w) (tx (rnA tx n top k v i).2) top = none) := by
  intro k
  induction k with
  | zero => intro v i h; exact ⟨v, rfl, Rd.nil _ _, fun h2 => absurd h2 (by simp only [rnA]; omega)⟩
  | succ k ih =>
    intro v i h
    simp only [rnA]
    by_cases c : 0 < v ∧ nxt tx n i 48 57 = true ∧ 10 * v + tx i - 48 ≤ top
    · rw [if_pos c]
      obtain ⟨w, h1, h2, h3⟩ := ih (10 * v + tx i - 48) (i + 1) (by omega)
      have hd := nxt_ge c.2.1
      refine ⟨w, h1, ?_, h3⟩
      refine Rd.trans (Rd.one (by omega) (by omega) ?_) h2
      have e : wd (some v) (tx i) top = some (10 * v + tx i - 48) := by
        rw [wd_d (by intro q; cases q; omega) hd.1 hd.2 (by simp only [wdv]; omega)]
        simp only [wdv]
        congr 1
        omega
      rw [hst (some v) (tx i) (by omega) (by omega), e]
      rfl
    · rw [if_neg c]
      refine ⟨v, rfl, Rd.nil _ _, fun h2 => ?_⟩
      by_cases hv : 0 < v
      · by_cases hd : nxt tx n i 48 57 = true
        · refine wd_g (fun q => c ⟨hv, hd, ?_⟩)
          have := nxt_ge hd
          simp only [wdv] at q
          omega
        · exact wd_x (nxt_f (by simpa using hd) h2)
      · rw [show v = 0 by omega]; exact wd_0
theorem Rd_rn {tx : Nat → Nat} {n i top : Nat} {st : Option Nat → RSt} (hst : isNum st top) (ht : 9 ≤ top) : ((rn tx n i top).1 = none ∧ (rn tx n i top).2 = i ∧ (i < n → wd none (tx i) top = none)) ∨ ∃ w, (rn tx n i top).1 = some w ∧ Rd tx n i (st none) (rn tx n i top).2 (st (some w)) ∧ ((rn tx n i top).2 < n → wd (some w) (tx (rn tx n i top).2) top = none) := by
  unfold rn
  by_cases h : nxt tx n i 48 57 = true
  · rw [if_pos h]
    have h1 := nxt_lt h
    have h2 := nxt_ge h
    obtain ⟨w, a1, a2, a3⟩ := Rd_num (tx := tx) (n := n) hst (n - (i + 1)) (tx i - 48) (i + 1) (by omega)
    refine Or.inr ⟨w, a1, Rd.trans (Rd.one h1 (by omega) ?_) a2, a3⟩
    have e : wd none (tx i) top = some (tx i - 48) := by rw [wd_d (by intro q; cases q) h2.1 h2.2 (by simp only [wdv]; omega)]; rfl
    rw [hst none (tx i) (by omega) (by omega), e]
    rfl
  · rw [if_neg h]
    exact Or.inl ⟨rfl, rfl, fun h1 => wd_x (nxt_f (by simpa using h) h1)⟩
/-- the reader at an order's end -/
def OKst (E : RSt) (q : Nat × Option Nat × Option Nat) : Prop := mE E = true ∧ E.2.1 = q.1 ∧ (¬ q.1 = 99 → E.2.2.1 = q.2.1) ∧ (q.1 = 119 → E.2.2.2 = q.2.2)
def OneP (tx : Nat → Nat) (n i : Nat) (r : RSt) (q : Bool × Nat × Nat × Option Nat × Option Nat) : Prop := ∃ E : RSt, Rd tx n i r q.2.1 E ∧ (q.1 = true → OKst E q.2.2 ∧ (q.2.1 < n → (tkN E (tx q.2.1)).1 = decide (tx q.2.1 = 59) ∧ (tx q.2.1 = 59 → (tkN E 59).2.1 = 0))) ∧ (q.1 = false → mE E = false ∧ (q.2.1 < n → (tkN E (tx q.2.1)).1 = false))

theorem ltr_e {tx : Nat → Nat} {n i x : Nat} (h : ltr tx n i = x) (hx : 0 < x) : i < n ∧ tx i = x := by
  unfold ltr at h
  by_cases q : i < n
  · rw [if_pos q] at h; exact ⟨q, h⟩
  · rw [if_neg q] at h; omega
theorem one_w {tx : Nat → Nat} {n i : Nat} (l : Nat) (o v : Option Nat) (hl : ltr tx n i = 119) : OneP tx n i (0, l, o, v) (po tx n i none none) := by
  obtain ⟨hi, hc⟩ := ltr_e hl (by omega)
  have s1 : Rd tx n i (0, l, o, v) (i + 1) (1, 119, none, none) := Rd.one hi (by omega) (by rw [hc]; rfl)
  unfold po
  rw [if_pos hl, hl]
  rcases Rd_rn (tx := tx) (n := n) (i := i + 1) (isNum1 119 none) (by omega) with ⟨h1, h2, h3⟩ | ⟨w, h1, h2, h3⟩
  · rw [if_pos h1]
    refine ⟨(1, 119, none, none), by simp only [h2]; exact s1, (fun h => by cases h), fun _ => ⟨rfl, fun hn => ?_⟩⟩
    simp only [h2] at hn ⊢
    show (tkA 1 119 none none (tx (i + 1))).1 = false
    unfold tkA
    rw [if_neg (fun q => q.2 rfl), h3 hn]
    rfl
  · rw [if_neg (by rw [h1]; intro q; cases q)]
    have s2 := s1.trans h2
    by_cases h4 : nxt tx n (rn tx n (i + 1) 41).2 61 61 = false
    · rw [if_pos h4]
      have ht : tkM tx n (rn tx n (i + 1) 41).2 61 = (rn tx n (i + 1) 41).2 := by rw [tkM, h4]; rfl
      refine ⟨(1, 119, some w, none), by simp only [ht]; exact s2, (fun h => by cases h), fun _ => ⟨rfl, fun hn => ?_⟩⟩
      simp only [ht] at hn ⊢
      have hx := nxt_f h4 hn
      show (tkA 1 119 (some w) none (tx (rn tx n (i + 1) 41).2)).1 = false
      unfold tkA
      rw [if_neg (fun q => by omega), h3 hn]
      rfl
    · rw [if_neg h4]
      have h5 : nxt tx n (rn tx n (i + 1) 41).2 61 61 = true := by simpa using h4
      have hn := nxt_lt h5
      have hx := nxt_ge h5
      have ht : tkM tx n (rn tx n (i + 1) 41).2 61 = (rn tx n (i + 1) 41).2 + 1 := by rw [tkM, h5]; rfl
      have s3 : Rd tx n (rn tx n (i + 1) 41).2 (1, 119, some w, none) ((rn tx n (i + 1) 41).2 + 1) (2, 119, some w, none) := Rd.one hn (by omega) (by
        rw [show tx (rn tx n (i + 1) 41).2 = 61 by omega]
        show tkA 1 119 (some w) none 61 = _
        unfold tkA
        rw [if_pos ⟨rfl, fun q => by cases q⟩])
      have s4 := s2.trans s3
      rw [ht]
      rcases Rd_rn (tx := tx) (n := n) (i := (rn tx n (i + 1) 41).2 + 1) (isNum2 119 (some w)) (by omega) with ⟨g1, g2, g3⟩ | ⟨u, g1, g2, g3⟩
      · refine ⟨(2, 119, some w, none), by simp only [g2]; exact s4, (fun h => by simp only [g1] at h; cases h), fun _ => ⟨rfl, fun hn2 => ?_⟩⟩
        simp only [g2] at hn2 ⊢
        show (tkV 2 119 (some w) none (tx ((rn tx n (i + 1) 41).2 + 1))).1 = false
        unfold tkV
        rw [if_neg (fun q => q.2 rfl), g3 hn2]
        rfl
      · refine ⟨(2, 119, some w, some u), s4.trans g2, fun _ => ⟨⟨rfl, rfl, fun _ => h1.symm, fun _ => g1.symm⟩, fun hn2 => ⟨?_, fun _ => ?_⟩⟩, fun h => by simp only [g1] at h; cases h⟩
        · show (tkV 2 119 (some w) (some u) (tx (rn tx n ((rn tx n (i + 1) 41).2 + 1) 65535).2)).1 = _
          unfold tkV
          by_cases q : tx (rn tx n ((rn tx n (i + 1) 41).2 + 1) 65535).2 = 59
          · rw [if_pos ⟨q, fun q => by cases q⟩, decide_eq_true q]
          · rw [if_neg (fun h => q h.1), g3 hn2, decide_eq_false q]; rfl
        · show (tkV 2 119 (some w) (some u) 59).2.1 = 0
          rfl
theorem p5_P (lc c : Nat) (a v : Option Nat) : (tkN (5, lc, a, v) c).1 = decide (c = 59) ∧ (c = 59 → (tkN (5, lc, a, v) 59).2.1 = 0) := ⟨rfl, fun _ => rfl⟩
theorem one_d {tx : Nat → Nat} {n i x : Nat} (l : Nat) (o v : Option Nat) (hl : ltr tx n i = x) (hx : x = 102 ∨ x = 109) : OneP tx n i (0, l, o, v) (po tx n i none none) := by
  obtain ⟨hi, hc⟩ := ltr_e hl (by omega)
  have s1 : Rd tx n i (0, l, o, v) (i + 1) (3, x, none, none) := Rd.one hi (by omega) (by rw [hc]; rcases hx with rfl | rfl <;> rfl)
  unfold po
  rw [hl, if_neg (by omega), if_pos hx]
  unfold rdg
  by_cases h : nxt tx n (i + 1) (48 + 0) (48 + 6) = true
  · rw [if_pos h]
    have h1 := nxt_lt h
    have h2 := nxt_ge h
    have e : wd none (tx (i + 1)) 6 = some (tx (i + 1) - 48) := by rw [wd_d (by intro q; cases q) (by omega) (by omega) (by simp only [wdv]; omega)]; rfl
    refine ⟨(5, x, some (tx (i + 1) - 48), none), s1.trans (Rd.one h1 (by omega) ?_), fun _ => ⟨⟨rfl, rfl, fun _ => rfl, fun q => absurd q (by simp only; omega)⟩, fun _ => p5_P _ _ _ _⟩, fun q => by cases q⟩
    show tkD x none (tx (i + 1)) = _
    unfold tkD
    rw [e]
    rfl
  · rw [if_neg h]
    refine ⟨(3, x, none, none), s1, (fun q => by cases q), fun _ => ⟨rfl, fun hn => ?_⟩⟩
    have hn : i + 1 < n := hn
    have hd := nxt_f (by simpa using h) hn
    show (wd none (tx (i + 1)) 6).isSome = false
    by_cases q : tx (i + 1) < 48 ∨ 57 < tx (i + 1)
    · rw [wd_x q]; rfl
    · rw [wd_g (by simp only [wdv]; omega)]; rfl
theorem one_s {tx : Nat → Nat} {n i : Nat} (l : Nat) (o v : Option Nat) (hl : ltr tx n i = 115) : OneP tx n i (0, l, o, v) (po tx n i none none) := by
  obtain ⟨hi, hc⟩ := ltr_e hl (by omega)
  have s1 : Rd tx n i (0, l, o, v) (i + 1) (4, 115, none, none) := Rd.one hi (by omega) (by rw [hc]; rfl)
  unfold po
  rw [hl, if_neg (by omega), if_neg (by omega), if_pos rfl]
  unfold rdg
  by_cases h : nxt tx n (i + 1) (48 + 1) (48 + 9) = true
  · rw [if_pos h]
    have h1 := nxt_lt h
    have h2 := nxt_ge h
    have e : wd none (tx (i + 1)) 9 = some (tx (i + 1) - 48) := by rw [wd_d (by intro q; cases q) (by omega) (by omega) (by simp only [wdv]; omega)]; rfl
    refine ⟨(5, 115, some (tx (i + 1) - 48), none), s1.trans (Rd.one h1 (by omega) ?_), fun _ => ⟨⟨rfl, rfl, fun _ => rfl, fun q => absurd q (by simp only; omega)⟩, fun _ => p5_P _ _ _ _⟩, fun q => by cases q⟩
    show tkS 115 none (tx (i + 1)) = _
    unfold tkS
    rw [e]
    simp only [oP]
    rw [decide_eq_true (by omega)]
  · rw [if_neg h]
    refine ⟨(4, 115, none, none), s1, (fun q => by cases q), fun _ => ⟨rfl, fun hn => ?_⟩⟩
    have hn : i + 1 < n := hn
    have hd := nxt_f (by simpa using h) hn
    show oP (wd none (tx (i + 1)) 9) = false
    by_cases q : tx (i + 1) < 48 ∨ 57 < tx (i + 1)
    · rw [wd_x q]; rfl
    · rw [show tx (i + 1) = 48 by omega]; rfl
theorem one_c {tx : Nat → Nat} {n i : Nat} (l : Nat) (o v : Option Nat) (hl : ltr tx n i = 99) : OneP tx n i (0, l, o, v) (po tx n i none none) := by
  obtain ⟨hi, hc⟩ := ltr_e hl (by omega)
  have s1 : Rd tx n i (0, l, o, v) (i + 1) (5, 99, none, none) := Rd.one hi (by omega) (by rw [hc]; rfl)
  unfold po
  rw [hl, if_neg (by omega), if_neg (by omega), if_neg (by omega), if_pos rfl]
  exact ⟨(5, 99, none, none), s1, fun _ => ⟨⟨rfl, rfl, fun _ => rfl, fun q => absurd q (by simp only; omega)⟩, fun _ => p5_P _ _ _ _⟩, fun q => by cases q⟩
theorem one {tx : Nat → Nat} {n i : Nat} (l : Nat) (o v : Option Nat) : OneP tx n i (0, l, o, v) (po tx n i none none) := by
  by_cases h1 : ltr tx n i = 119
  · exact one_w l o v h1
  · by_cases h2 : ltr tx n i = 102 ∨ ltr tx n i = 109
    · exact one_d l o v rfl h2
    · by_cases h3 : ltr tx n i = 115
      · exact one_s l o v h3
      · by_cases h4 : ltr tx n i = 99
        · exact one_c l o v h4
        · unfold po
          rw [if_neg h1, if_neg h2, if_neg h3, if_neg h4]
          refine ⟨(0, l, o, v), Rd.nil _ _, (fun h => by cases h), fun _ => ⟨rfl, fun hn => ?_⟩⟩
          simp only at hn ⊢
          unfold ltr at h1 h2 h3 h4
          rw [if_pos hn] at h1 h2 h3 h4
          show (tkL 0 (tx i)).1 = false
          unfold tkL
          rw [if_neg h1, if_neg h2, if_neg h3, if_neg h4]

theorem sc_stop {tx : Nat → Nat} {n e : Nat} {E : RSt} (he : e < n) (h : (tkN E (tx e)).1 = false) : (scan tx (n - e) e E).1 = e := by
  rw [show n - e = (n - (e + 1)) + 1 by omega]
  simp only [scan]
  rw [if_neg (by rw [h]; decide)]
theorem sc_go {tx : Nat → Nat} {n e : Nat} {E : RSt} (he : e < n) (h : (tkN E (tx e)).1 = true) : scan tx (n - e) e E = scan tx (n - (e + 1)) (e + 1) (tkN E (tx e)).2 := by
  rw [show n - e = (n - (e + 1)) + 1 by omega]
  simp only [scan]
  rw [if_pos h]
theorem nxt59 {tx : Nat → Nat} {n e : Nat} (he : e < n) : nxt tx n e 59 59 = decide (tx e = 59) := by
  unfold nxt
  rw [decide_eq_true he, Bool.true_and]
  by_cases q : tx e = 59
  · rw [q]; rfl
  · rw [decide_eq_false q]
    by_cases q2 : 59 ≤ tx e
    · rw [decide_eq_false (show ¬ tx e ≤ 59 by omega), Bool.and_false]
    · rw [decide_eq_false q2, Bool.false_and]
theorem sc_pv {tx : Nat → Nat} {n : Nat} : ∀ (k i : Nat) (l : Nat) (o v : Option Nat), n - i < k → i ≤ n →
    ((pv tx n k i).1 = true → (scan tx (n - i) i (0, l, o, v)).1 = n ∧ mE (scan tx (n - i) i (0, l, o, v)).2 = true) ∧ ((pv tx n k i).1 = false → (scan tx (n - i) i (0, l, o, v)).1 = (pv tx n k i).2 ∧ ((scan tx (n - i) i (0, l, o, v)).1 = n → mE (scan tx (n - i) i (0, l, o, v)).2 = false)) := by
  intro k
  induction k with
  | zero => intro i l o v h _; omega
  | succ k ih =>
    intro i l o v hk hi
    obtain ⟨E, hR, ht, hf⟩ := one (tx := tx) (n := n) (i := i) l o v
    have hle := hR.le
    have hen := hle.2 hi
    rw [hR.scan]
    by_cases hok : (pO tx n i).1 = true
    · obtain ⟨hO, hc⟩ := ht hok
      by_cases hn : (pO tx n i).2.1 = n
      · rw [pv_e hok hn]
        have e : scan tx (n - (po tx n i none none).2.1) (po tx n i none none).2.1 E = (n, E) := by
          rw [show (po tx n i none none).2.1 = n from hn, Nat.sub_self]; rfl
        rw [e]
        exact ⟨fun _ => ⟨rfl, hO.1⟩, fun h => by cases h⟩
      · have hlt : (po tx n i none none).2.1 < n := by
          have : (pO tx n i).2.1 = (po tx n i none none).2.1 := rfl
          omega
        obtain ⟨hc1, hc2⟩ := hc hlt
        rw [pv_s hok hn, show (pO tx n i).2.1 = (po tx n i none none).2.1 from rfl, nxt59 hlt]
        by_cases h59 : tx (po tx n i none none).2.1 = 59
        · rw [decide_eq_true h59, if_pos rfl, sc_go hlt (by rw [hc1, decide_eq_true h59])]
          have hr := hc2 h59
          rw [h59]
          generalize (tkN E 59).2 = r at hr ⊢
          obtain ⟨p0, l0, o0, v0⟩ := r
          simp only at hr
          subst hr
          exact ih _ l0 o0 v0 (by omega) (by omega)
        · rw [decide_eq_false h59, if_neg (by decide)]
          have e := sc_stop hlt (by rw [hc1, decide_eq_false h59])
          exact ⟨fun h => (by cases h), fun _ => ⟨e, fun h => absurd h (by rw [e]; omega)⟩⟩
    · have hok2 : (pO tx n i).1 = false := by simpa using hok
      obtain ⟨hm, hc⟩ := hf hok2
      rw [pv_f hok2]
      refine ⟨fun h => (by cases h), fun _ => ?_⟩
      by_cases hn : (po tx n i none none).2.1 = n
      · have e : scan tx (n - (po tx n i none none).2.1) (po tx n i none none).2.1 E = ((po tx n i none none).2.1, E) := by
          rw [hn, Nat.sub_self]; rfl
        rw [e]
        exact ⟨rfl, fun _ => hm⟩
      · have e := sc_stop (show (po tx n i none none).2.1 < n by omega) (hc (by omega))
        exact ⟨e, fun h => absurd h (by rw [e]; omega)⟩
/-- the whole text -/
theorem sc_valid {tx : Nat → Nat} {n : Nat} (l : Nat) (o v : Option Nat) : (decide ((scan tx n 0 (0, l, o, v)).1 = n) && mE (scan tx n 0 (0, l, o, v)).2) = (pv tx n (n + 1) 0).1 := by
  have h := sc_pv (tx := tx) (n := n) (n + 1) 0 l o v (by omega) (by omega)
  rw [Nat.sub_zero] at h
  cases hb : (pv tx n (n + 1) 0).1 with
  | true => rw [decide_eq_true (h.1 hb).1, (h.1 hb).2]; rfl
  | false =>
    by_cases q : (scan tx n 0 (0, l, o, v)).1 = n
    · rw [(h.2 hb).2 q, Bool.and_false]
    · rw [decide_eq_false q, Bool.false_and]
theorem sc_first {tx : Nat → Nat} {n : Nat} (l : Nat) (o v : Option Nat) : (scan tx n 0 (0, l, o, v)).1 = if (pv tx n (n + 1) 0).1 = true then n else (pv tx n (n + 1) 0).2 := by
  have h := sc_pv (tx := tx) (n := n) (n + 1) 0 l o v (by omega) (by omega)
  rw [Nat.sub_zero] at h
  split
  · rename_i hb; exact (h.1 hb).1
  · rename_i hb; exact (h.2 (by simpa using hb)).1
/-- the next order of a whole text -/
theorem nx_ord {tx : Nat → Nat} {n k i : Nat} (l : Nat) (o v : Option Nat) (pp : Nat) (hi : i ≤ n) (hv : (pv tx n (k + 1) i).1 = true) : i < n ∧ (pO tx n i).1 = true ∧ ∃ E : RSt, nxO tx n i (pp, l, o, v) = (true, (pO tx n i).2.1 + 1, E) ∧ OKst E (pO tx n i).2.2 ∧ (pO tx n i).2.1 ≤ n ∧ (¬ (pO tx n i).2.1 = n → (pv tx n k ((pO tx n i).2.1 + 1)).1 = true ∧ (pO tx n i).2.1 < n) := by
  have hok : (pO tx n i).1 = true := by
    by_cases h : (pO tx n i).1 = true
    · exact h
    · rw [pv_f (by simpa using h)] at hv; cases hv
  obtain ⟨E, hR, ht, -⟩ := one (tx := tx) (n := n) (i := i) l o v
  have hle := hR.le
  have hen : (pO tx n i).2.1 ≤ n := hle.2 hi
  obtain ⟨hO, hc⟩ := ht hok
  have hin : i < n := by
    by_cases q : i < n
    · exact q
    · have h0 : ltr tx n i = 0 := by unfold ltr; rw [if_neg q]
      unfold pO po at hok
      rw [h0] at hok
      simp at hok
  have hA : nxA tx n (n - i) i (0, l, o, v) = ((pO tx n i).2.1, E) := by
    rw [hR.nxA]
    by_cases q : (pO tx n i).2.1 = n
    · rw [show (po tx n i none none).2.1 = n from q, Nat.sub_self]
      rfl
    · rw [pv_s hok q] at hv
      have hlt : (pO tx n i).2.1 < n := by omega
      rw [nxt59 hlt] at hv
      have h59 : tx (pO tx n i).2.1 = 59 := by
        by_cases q2 : tx (pO tx n i).2.1 = 59
        · exact q2
        · rw [decide_eq_false q2, if_neg (by decide)] at hv; cases hv
      show nxA tx n (n - (pO tx n i).2.1) (pO tx n i).2.1 E = _
      rw [show n - (pO tx n i).2.1 = (n - ((pO tx n i).2.1 + 1)) + 1 by omega]
      simp only [nxA]
      rw [if_neg (fun h => h.2 h59)]
  refine ⟨hin, hok, E, ?_, hO, hen, fun q => ?_⟩
  · unfold nxO
    rw [if_pos hin]
    show (true, (nxA tx n (n - i) i (0, l, o, v)).1 + 1, (nxA tx n (n - i) i (0, l, o, v)).2) = _
    rw [hA]
  · rw [pv_s hok q] at hv
    have hlt : (pO tx n i).2.1 < n := by omega
    rw [nxt59 hlt] at hv
    by_cases q2 : tx (pO tx n i).2.1 = 59
    · rw [decide_eq_true q2, if_pos rfl] at hv; exact ⟨hv, hlt⟩
    · rw [decide_eq_false q2, if_neg (by decide)] at hv; cases hv
set_option maxRecDepth 10000 in
theorem E_ok {E : RSt} {q : Nat × Option Nat × Option Nat} (h : OKst E q) (hq : oOK q) : oOK (E.2.1, E.2.2.1, E.2.2.2) := by
  obtain ⟨-, h1, h2, h3⟩ := h
  rcases hq with ⟨a, q1, v1, b, hq1, c, hv1⟩ | ⟨a, d, b, hd⟩ | ⟨a, d, b, hd⟩ | a
  · exact Or.inl ⟨by rw [← a]; exact h1, q1, v1, by rw [← b]; exact h2 (by omega), hq1, by rw [← c]; exact h3 a, hv1⟩
  · exact Or.inr (Or.inl ⟨by simp only; rw [h1]; exact a, d, by rw [← b]; exact h2 (by omega), hd⟩)
  · exact Or.inr (Or.inr (Or.inl ⟨by rw [← a]; exact h1, d, by rw [← b]; exact h2 (by omega), hd⟩))
  · exact Or.inr (Or.inr (Or.inr (by rw [← a]; exact h1)))
set_option maxRecDepth 10000 in
theorem E_err {E : RSt} {q : Nat × Option Nat × Option Nat} {σ : Nat → Int32} (h : OKst E q) : errO σ E.2.1 E.2.2.1 = errO σ q.1 q.2.1 := by
  obtain ⟨-, h1, h2, -⟩ := h
  by_cases c : q.1 = 99
  · rw [h1, c]; simp [errO]
  · rw [h1, h2 c]
set_option maxRecDepth 10000 in
theorem E_do {E : RSt} {q : Nat × Option Nat × Option Nat} {σ : Nat → Int32} (h : OKst E q) : doO σ E.2.1 E.2.2.1 E.2.2.2 = doO σ q.1 q.2.1 q.2.2 := by
  obtain ⟨-, h1, h2, h3⟩ := h
  by_cases c : q.1 = 99
  · rw [h1, c]; simp [doO]
  · by_cases c2 : q.1 = 119
    · rw [h1, h2 c, h3 c2]
    · rw [h1, h2 c]
      unfold doO
      rw [if_neg c2, if_neg c2]
theorem okO_err {σ : Nat → Int32} (hv : Val σ) (lc : Nat) (o : Option Nat) : okO σ lc o = true ↔ ¬ 0 < errO σ lc o := by
  unfold okO errO
  by_cases h1 : lc = 119
  · rw [if_pos h1, if_pos h1]
    by_cases c : canW σ (gD o) = true
    · rw [if_pos c]; simp [c]
    · rw [if_neg c]; simp [c]
  · rw [if_neg h1, if_neg h1]
    by_cases h2 : lc = 102
    · rw [if_pos h2, if_pos h2]
      by_cases c : σ (63 + gD o) = -1
      · rw [if_pos c]; simp [c]
      · rw [if_neg c]; simp [c]
    · rw [if_neg h2, if_neg h2]
      by_cases h3 : lc = 109
      · rw [if_pos h3, if_pos h3]
        cases hb : (decide (σ (63 + gD o) = -1) && decide (0 < σ 84)) with
        | true => rw [if_neg (bg_t hv hb)]; simp
        | false => rw [if_pos (bg_f hv hb)]; simp
      · rw [if_neg h3, if_neg h3]; simp
