/-! What the law's loop keeps. -/
theorem loD_both {d o : Nat} : loD d o = if d = o then 0 else both d o := by
  unfold loD both
  by_cases h : d = o
  · rw [if_pos h]
    have e : ∀ n, cntB (fun q => decide (¬ d = o) && lies q d && lies q o) n = 0 := by
      intro n
      induction n with
      | zero => rfl
      | succ n ih => simp only [cntB, ih]; simp [h]
    exact e 21
  · rw [if_neg h]
    exact cntB_congr (fun i _ => by rw [decide_eq_true h, Bool.true_and])
theorem inB_ix {x : Int32} {lo hi : Nat} (hh : hi < 2 ^ 31) (h : inB x lo hi = true) (hl : lo < 2 ^ 31) : x = nI (ix x) ∧ ix x ≤ hi := by
  simp only [inB, Bool.and_eq_true, decide_eq_true_eq] at h
  have h1 := Int32.le_iff_toInt_le.mp h.1
  have h2 := Int32.le_iff_toInt_le.mp h.2
  rw [nI_toInt hl] at h1
  rw [nI_toInt hh] at h2
  have e : x = nI x.toInt.toNat := by
    apply Int32.toInt_inj.mp
    rw [nI_toInt (by omega)]
    omega
  have e2 : ix x = x.toInt.toNat := by rw [e, ix_N (by omega), nI_toInt (by omega)]; omega
  rw [e2]
  exact ⟨e, by omega⟩
theorem tx_app {tx : Nat → Nat} {len : Nat} {x : Int32} (ht : ∀ i, tx i ≤ 126) (h : cAp len x = 0) : ∃ tx' : Nat → Nat, tI tx' = upd (tI tx) len x ∧ (∀ i, tx' i ≤ 126) := by
  unfold cAp at h
  by_cases c : inB x 33 126 = true
  · obtain ⟨e, hx⟩ := inB_ix (by omega) c (by omega)
    refine ⟨fun i => if i = len then ix x else tx i, ?_, fun i => ?_⟩
    · funext i
      by_cases q : i = len
      · rw [q, upd_eq]; show nI (if len = len then ix x else tx len) = x; rw [if_pos rfl]; exact e.symm
      · rw [upd_ne q]; show nI (if i = len then ix x else tx i) = nI (tx i); rw [if_neg q]
    · show (if i = len then ix x else tx i) ≤ 126
      split
      · exact hx
      · exact ht i
  · rw [if_neg c] at h; omega
theorem cAp_lt {len : Nat} {x : Int32} (hl : len ≤ 60) (h : cAp len x = 0) : len + 1 ≤ 60 := by
  unfold cAp at h
  by_cases c : inB x 33 126 = true
  · rw [if_pos c] at h
    by_cases q : len = 60
    · rw [if_pos q] at h; omega
    · omega
  · rw [if_neg c] at h; omega
theorem pmA {D : va_G} {A : Nat → Prop} {x y : va_W} {o : Nat × va_E} {s : State} {H : Heap} {locs : List Loc} (h : wS D A (x ++ (o :: y)) s H locs) : wS D A (y ++ (x ++ [o])) s H locs :=
  wS_perm (by rw [show x ++ (o :: y) = (x ++ [o]) ++ y by simp]; exact List.perm_append_comm) h
theorem pmB {D : va_G} {A : Nat → Prop} {x y : va_W} {o : Nat × va_E} {s : State} {H : Heap} {locs : List Loc} (h : wS D A (y ++ (x ++ [o])) s H locs) : wS D A (x ++ (o :: y)) s H locs :=
  wS_perm (by rw [show x ++ (o :: y) = (x ++ [o]) ++ y by simp]; exact List.perm_append_comm) h
/-- the whole world of the law -/
def lawW (cy cJ : ClassId) (a b : Nat → Nat) (o : Nat) (σ kept : Nat → Int32) (nxt cnt : Nat) (tx : Nat → Nat) (len pos pp lc : Nat) (on ov : Option Nat) (saved bef : Nat → Int32) (thr t9 l9 : Nat) (x9 y9 : Option Nat) (d9 : Nat) (hs : Int64) (out : Nat → Int64) : va_W :=
  wX cy a σ kept nxt cnt (tI tx) len pos (nI pp) (nI lc) (nO on) (nO ov) ++ ((o, .inl (cJ, 1, .inr (.inl out))) :: wM cy b (mS σ) saved cnt bef (tI tx) len thr t9 (nI l9) (nO x9) (nO y9) d9 hs)
/-- what holds at the loop's head -/
def lawS (D : va_G) (cy cJ : ClassId) (A : Nat → Prop) (a b : Nat → Nat) (o : Nat) (s : State) (H : Heap) (locs : List Loc) : Prop :=
  ∃ (σ kept : Nat → Int32) (nxt cnt : Nat) (tx : Nat → Nat) (len pos pp lc : Nat) (on ov : Option Nat) (saved bef : Nat → Int32) (thr t9 l9 : Nat) (x9 y9 : Option Nat) (d9 : Nat) (hs : Int64) (out : Nat → Int64),
    wS D A (lawW cy cJ a b o σ kept nxt cnt tx len pos pp lc on ov saved bef thr t9 l9 x9 y9 d9 hs out) s H locs ∧ HI kept nxt cnt saved ∧ Val σ ∧ (∀ i, tx i ≤ 126) ∧ len ≤ 60 ∧ oB on ∧ oB ov
