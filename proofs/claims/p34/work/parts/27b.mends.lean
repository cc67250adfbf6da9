/-! Mending as the law asks for it. -/
def buS (σ : Nat → Int32) (n : Nat) : Nat := cntB (isM σ) n
theorem buS_le (σ : Nat → Int32) (n : Nat) : buS σ n ≤ n := cntB_le _ _
theorem st_c {σ fl vf : Nat → Int32} {B : Nat} (h : Inv σ fl vf B) {d : Nat} (hd : d < 7) : σ (63 + d) = -1 ∨ σ (63 + d) = 9 ∨ ∃ g : Nat, g < 9 ∧ σ (63 + d) = nI g := by
  rcases h.1.2.1 d hd with e | ⟨n, hn, e⟩
  · exact Or.inl e
  · by_cases q : n = 9
    · exact Or.inr (Or.inl (by rw [e, q]; rfl))
    · exact Or.inr (Or.inr ⟨n, by omega, e⟩)
theorem g_ne {g : Nat} (h : g < 9) : ¬ nI g = -1 ∧ ¬ nI g = 9 ∧ ¬ nI g < 0 ∧ ¬ 9 ≤ nI g := (show ∀ g, g < 9 → (¬ nI g = -1 ∧ ¬ nI g = 9 ∧ ¬ nI g < 0 ∧ ¬ 9 ≤ nI g) by decide +kernel) g h
theorem isM_g {σ : Nat → Int32} {d g : Nat} (h : g < 9) (e : σ (63 + d) = nI g) : isM σ d = true := by
  unfold isM
  rw [e, decide_eq_true (g_ne h).1, decide_eq_true (g_ne h).2.1]
  rfl
theorem isM_m1 {σ : Nat → Int32} {d : Nat} (e : σ (63 + d) = -1) : isM σ d = false := by
  unfold isM
  rw [e]
  rfl
theorem isM_9 {σ : Nat → Int32} {d : Nat} (e : σ (63 + d) = 9) : isM σ d = false := by
  unfold isM
  rw [e]
  rfl
theorem bu_lt {σ fl vf : Nat → Int32} {B : Nat} (h : Inv σ fl vf B) {i : Nat} (hi : i < 7) (c : σ (63 + i) < 0) : buS σ i + 0 = buS σ (i + 1) := by
  have h2 : isM σ i = false := by
    rcases st_c h hi with e | e | ⟨g, hg, e⟩
    · exact isM_m1 e
    · exact isM_9 e
    · rw [e] at c; exact absurd c (g_ne hg).2.2.1
  unfold buS
  simp only [cntB, h2, Bool.false_eq_true, if_false]
theorem bu_ge {σ fl vf : Nat → Int32} {B : Nat} (h : Inv σ fl vf B) {i : Nat} (hi : i < 7) (c : 9 ≤ σ (63 + i)) : buS σ i + 0 = buS σ (i + 1) := by
  have h2 : isM σ i = false := by
    rcases st_c h hi with e | e | ⟨g, hg, e⟩
    · exact isM_m1 e
    · exact isM_9 e
    · rw [e] at c; exact absurd c (g_ne hg).2.2.2
  unfold buS
  simp only [cntB, h2, Bool.false_eq_true, if_false]
theorem bu_in {σ fl vf : Nat → Int32} {B : Nat} (h : Inv σ fl vf B) {i : Nat} (hi : i < 7) (c1 : ¬ σ (63 + i) < 0) (c2 : ¬ 9 ≤ σ (63 + i)) : buS σ i + 1 = buS σ (i + 1) := by
  have h2 : isM σ i = true := by
    rcases st_c h hi with e | e | ⟨g, hg, e⟩
    · rw [e] at c1; exact absurd (by decide) c1
    · rw [e] at c2; exact absurd (by decide) c2
    · exact isM_g hg e
  unfold buS
  simp only [cntB, h2, if_true]
theorem cntB_z {f : Nat → Bool} : ∀ n, cntB f n = 0 → ∀ i, i < n → f i = false := by
  intro n
  induction n with
  | zero => exact fun _ i hi => absurd hi (by omega)
  | succ n ih =>
    intro h i hi
    simp only [cntB] at h
    by_cases q : i = n
    · rw [q]
      cases hf : f n
      · rfl
      · rw [hf] at h; simp at h
    · exact ih (by omega) i (by omega)
theorem bu_oth {σ : Nat → Int32} {d : Nat} (hd : d < 7) (hm : σ (63 + d) = -1) (h : buS σ 7 = 0) : ∀ e, e < 7 → e ≠ d → isM (begS σ d) e = false := fun e he n => by
  have h2 := cntB_z 7 h e he
  unfold isM at h2 ⊢
  rw [beg_p hd he, if_neg n]
  exact h2
theorem beg_63 {σ : Nat → Int32} {d : Nat} (hd : d < 7) : begS σ d (63 + d) = 0 := by
  rw [beg_p hd hd, if_pos rfl]
theorem bg_84 {σ : Nat → Int32} {d : Nat} (hd : d < 7) : begS σ d 84 = σ 84 - 1 := by
  unfold begS
  rw [upd_ne (by omega), upd_eq]
theorem sp_z {σ fl vf : Nat → Int32} {B : Nat} (h : Inv σ fl vf B) (c : σ 84 ≤ 0) : σ 84 = 0 := by
  obtain ⟨n, hn, e⟩ := h.1.2.2
  rw [e] at c ⊢
  have := (show ∀ n, n < 6 → nI n ≤ 0 → nI n = 0 by decide +kernel) n (by omega) c
  exact this
/-- the least disc that is being mended, if there is one -/
theorem lmA_le {σ : Nat → Int32} : ∀ (n d x : Nat), d ≤ x → x < d + n → isM σ x = true → lmA σ d n ≤ x := by
  intro n
  induction n with
  | zero => intro d x h1 h2; omega
  | succ n ih =>
    intro d x h1 h2 h3
    simp only [lmA]
    by_cases q : isM σ d = true
    · rw [if_pos q]; exact h1
    · rw [if_neg q]
      refine ih (d + 1) x ?_ (by omega) h3
      rcases Nat.lt_or_ge d x with l | l
      · omega
      · have : d = x := by omega
        rw [this] at q; exact absurd h3 q
theorem lm_le {σ : Nat → Int32} {x : Nat} (hx : x < 7) (h : isM σ x = true) : lm σ ≤ x := lmA_le 7 0 x (by omega) (by omega) h
theorem lm_isM {σ : Nat → Int32} (h : lm σ < 7) : isM σ (lm σ) = true := lmA_isM σ 7 0 (by unfold lm at h; omega)
theorem lm_beg {σ : Nat → Int32} {d : Nat} (hd : d < 7) : lm (begS σ d) < 7 := Nat.lt_of_le_of_lt (lm_le hd (isM_g (g := 0) (by omega) (beg_63 hd))) hd
theorem mn_le : ∀ (n : Nat) (σ : Nat → Int32), (mnS n σ).2 ≤ n := by
  intro n
  induction n with
  | zero => exact fun _ => Nat.le_refl _
  | succ n ih =>
    intro σ
    simp only [mnS]
    split
    · have := ih (mendS σ (lm σ)); show _ + 1 ≤ _; omega
    · exact Nat.zero_le _
theorem mn_1 {σ : Nat → Int32} (h : lm σ < 7) : (mnS 1 σ).2 = 1 := by
  simp only [mnS]
  rw [if_pos h]
/-- one disc alone is being mended -/
theorem ru_n {σ : Nat → Int32} (hv : Val σ) {d : Nat} (hd : d < 7) {g : Nat} (hg : σ (63 + d) = nI g) (h9 : g ≤ 9) (ho : ∀ e, e < 7 → e ≠ d → isM σ e = false) (n : Nat) : (mnS n σ).2 = min n (9 - g) ∧ (mnS n σ).1 (63 + d) = nI (g + min n (9 - g)) ∧ (∀ e, e < 7 → e ≠ d → isM (mnS n σ).1 e = false) ∧ Val (mnS n σ).1 := by
  induction n generalizing σ g with
  | zero => exact ⟨by simp [mnS], by simp only [mnS]; rw [Nat.zero_min, Nat.add_zero]; exact hg, ho, hv⟩
  | succ n ih =>
    simp only [mnS]
    by_cases q : g = 9
    · have h1 : ¬ lm σ < 7 := fun z => by
        have h2 := lm_isM z
        by_cases c : lm σ = d
        · rw [c, isM_9 (by rw [hg, q]; rfl)] at h2; cases h2
        · rw [ho _ z c] at h2; cases h2
      rw [if_neg h1]
      have e0 : min (n + 1) (9 - g) = 0 := by omega
      exact ⟨by rw [e0], by rw [e0, Nat.add_zero]; exact hg, ho, hv⟩
    · have hM : isM σ d = true := isM_g (by omega) hg
      have h1 : lm σ < 7 := Nat.lt_of_le_of_lt (lm_le hd hM) hd
      have hl : lm σ = d := Decidable.byContradiction fun c => by
        have h2 := lm_isM h1
        rw [ho _ h1 c] at h2; cases h2
      rw [if_pos h1]
      obtain ⟨g2, hg2, e2, -, hp, -⟩ := mend_p hv h1
      have eg : g2 = g := by
        rw [hl, hg] at e2
        exact ((nI_eq (by omega) (by omega)).mp e2).symm
      have hp2 : mendS σ (lm σ) (63 + d) = nI (g + 1) := by rw [hp d hd, if_pos hl.symm, eg]
      have ho2 : ∀ e, e < 7 → e ≠ d → isM (mendS σ (lm σ)) e = false := fun e he c => by
        have h3 := ho e he c
        unfold isM at h3 ⊢
        rw [hp e he, if_neg (fun z => c (z.trans hl))]
        exact h3
      obtain ⟨a1, a2, a3, a4⟩ := ih (Val_mend hv h1) hp2 (by omega) ho2
      have em : min (n + 1) (9 - g) = min n (9 - (g + 1)) + 1 := by omega
      refine ⟨?_, ?_, a3, a4⟩
      · show (mnS n (mendS σ (lm σ))).2 + 1 = _
        rw [a1, em]
      · rw [a2, em]
        exact congrArg nI (by omega)
set_option maxHeartbeats 1000000 in
set_option maxRecDepth 100000 in
theorem c_L_mends {l : Launch} (hst : l.stackTraces = false) (D : va_G) (cy : ClassId) (A : Nat → Prop) (a : Nat → Nat) (σ kept : Nat → Int32) (nxt cnt : Nat) (T : Nat → Int32) (len pos : Nat) (ph le nu va : Int32) (rc rv : Nat) (fl vf : Nat → Int32) (Z : va_W) (B : Nat) (d : Nat) (h_0 : d < 7) (h_1 : nxt < 6) (h_2 : cnt ≤ 6) (h_3 : Inv σ fl vf B) (h_4 : B < 90000) : Met l yL_mends wsL_mends ({ frames := 8, cells := 1, slots := 6, locals := 132 } : Room) (gY D cy [.ref (a 0), .int (nI (d)), .ref (rc)] A (wX cy a σ kept nxt cnt T len pos ph le nu va ++ ((rc, .inl (cy, 2, .inl fl)) :: (rv, .inl (cy, 42, .inl vf)) :: Z))) (gE D A (actP cy a T len pos ph le nu va rc rv Z (B + 64))) 1 6 A := by
  refine q_ymi (cc := cL_mends) (maxL := 8) (ret := (some .boolean)) pl_L rfl (Nat.le_of_ble_eq_true rfl) ?_
  intro p e s m below meth c ls hx hb hr hml hts hown hlocks hw hK hA hl hN hC
  have hP := hw.1
  have hl : lv_has ls 8 [(0, .ref (a 0)), (1, .int (nI (d))), (2, .ref (rc))] := hl
  refine lv_iconst (v := nI 0) hx hb dL_mends_0 rfl ?_
  refine lv_istore_n (lv' := [(3, .int (nI (0))), (0, .ref (a 0)), (1, .int (nI (d))), (2, .ref (rc))]) hx hb dL_mends_1 rfl hl (by decide) rfl (fun ls hl => ?_)
  refine lv_iconst (v := nI 0) hx hb dL_mends_2 rfl ?_
  refine lv_istore (lv' := [(4, .int (nI (0))), (3, .int (nI (0))), (0, .ref (a 0)), (1, .int (nI (d))), (2, .ref (rc))]) hx hb dL_mends_3 hl (by decide) rfl (fun ls hl => ?_)
  have lp5 : ∀ (j_ i : Nat), i + j_ = 7 → ∀ (H : Heap) (locs : List Loc) (ls : Array Slot), wS D A (wX cy a σ kept nxt cnt T len pos ph le nu va ++ ((rc, .inl (cy, 2, .inl fl)) :: (rv, .inl (cy, 42, .inl vf)) :: Z)) s H locs → lv_has ls 8 [(0, .ref (a 0)), (1, .int (nI (d))), (2, .ref (rc)), (3, .int (nI (buS σ i))), (4, .int (nI (i)))] → W p l e ({ frames := 8, cells := 1, slots := 6, locals := 132 } : Room) s m ([.ref (a 0), .int (nI (d)), .ref (rc)] : List Value).toArray below meth c H locs 0 0 (MQ below (gE D A (actP cy a T len pos ph le nu va rc rv Z (B + 64))) ([.ref (a 0), .int (nI (d)), .ref (rc)] : List Value).toArray s 1 6 A) (F0 m 5 ls []) := by
    intro j_
    induction j_ with
    | zero =>
      intro i hn_i H locs ls hw hl
      have hP := hw.1
      refine lv_iload hx hb dL_mends_5 (lv_at hl 4 rfl) ?_
      refine lv_bipush (v := nI 7) hx hb dL_mends_7 rfl ?_
      refine q_geN (tgt := 46) hx hb dL_mends_9 (by decide) (by omega) (by omega) (fun c_9 => ?_) (fun c_9 => absurd c_9 (by omega))
      have e9 : i = 7 := by omega
      subst e9
      have hl : lv_has ls 8 [(0, .ref (a 0)), (1, .int (nI (d))), (2, .ref (rc)), (3, .int (nI (buS σ 7)))] := lv_sub hl [0, 1, 2, 3] rfl
      refine lv_aload_n hx hb dL_mends_46 rfl (lv_at hl 0 rfl) ?_
      refine q_cV (As := []) (rest := []) ⟨hx, hb, hml, hown, hts⟩ (c_X6_spares D cy a σ kept nxt cnt T len pos ph le nu va ((rc, .inl (cy, 2, .inl fl)) :: (rv, .inl (cy, 42, .inl vf)) :: Z) ) (cwV 0 hts gL_mends_X6_spares rfl rfl rfl hd_X6_spares ⟨Nat.le_of_ble_eq_true rfl, Nat.le_of_ble_eq_true rfl⟩) hK hP 0 rfl rfl rfl hl.1 rfl (Nat.le_of_ble_eq_true rfl) ⟨Nat.zero_le _, Nat.zero_le _⟩ dL_mends_47 ?_
      refine lv_istore (lv' := [(4, .int (σ 84)), (0, .ref (a 0)), (1, .int (nI (d))), (2, .ref (rc)), (3, .int (nI (buS σ 7)))]) hx hb dL_mends_50 hl (by decide) rfl (fun ls hl => ?_)
      refine lv_aload_n hx hb dL_mends_52 rfl (lv_at hl 1 rfl) ?_
      refine lv_iload_n hx hb dL_mends_53 rfl (lv_at hl 2 rfl) ?_
      refine q_cV (As := [.int (nI (d))]) (rest := []) ⟨hx, hb, hml, hown, hts⟩ (k_X6_state D cy a σ kept nxt cnt T len pos ph le nu va ((rc, .inl (cy, 2, .inl fl)) :: (rv, .inl (cy, 42, .inl vf)) :: Z) (d) (by omega)) (cwV 1 hts gL_mends_X6_state rfl rfl rfl hd_X6_state ⟨Nat.le_of_ble_eq_true rfl, Nat.le_of_ble_eq_true rfl⟩) hK hP 0 rfl rfl rfl hl.1 rfl (Nat.le_of_ble_eq_true rfl) ⟨Nat.zero_le _, Nat.zero_le _⟩ dL_mends_54 ?_
      refine lv_iconst (v := -1) hx hb dL_mends_57 rfl ?_
      refine lv_icmp_ne (tgt := 70) hx hb dL_mends_58 (by decide) (fun (c_58 : ¬ (σ (63 + d)) = (-1)) => ?_) (fun (c_58 : (σ (63 + d)) = (-1)) => ?_)
      · refine lv_iconst (v := nI 0) hx hb dL_mends_70 rfl ?_
        refine lv_istore (lv' := [(5, .int (nI (0))), (4, .int (σ 84)), (0, .ref (a 0)), (1, .int (nI (d))), (2, .ref (rc)), (3, .int (nI (buS σ 7)))]) hx hb dL_mends_71 hl (by decide) rfl (fun ls hl => ?_)
        refine lv_aload_n hx hb dL_mends_73 rfl (lv_at hl 2 rfl) ?_
        refine lv_iload_n hx hb dL_mends_74 rfl (lv_at hl 3 rfl) ?_
        refine q_yS (As := [.ref (a 0), .int (nI (d))]) (rest := []) ⟨hx, hb, hml, hown, hts⟩ (c_L_tryBegin hst D cy A a σ kept nxt cnt T len pos ph le nu va ((rc, .inl (cy, 2, .inl fl)) :: (rv, .inl (cy, 42, .inl vf)) :: Z) h_1 h_2 h_3.1 (d) h_0) (vx_cwSW 2 hts gL_mends_L_tryBegin rfl rfl rfl hd_L_tryBegin ⟨Nat.le_of_ble_eq_true rfl, Nat.le_of_ble_eq_true rfl⟩) hK hC hA hN hw rfl hl.1 rfl (Nat.le_of_ble_eq_true rfl) ⟨Nat.le_of_ble_eq_true rfl, Nat.le_of_ble_eq_true rfl⟩ dL_mends_75 (fun H locs v9 w9 hp9 hw => ?_)
        refine W.widen (k := 1) (n := 6) (Nat.le_of_ble_eq_true rfl) (Nat.le_of_ble_eq_true rfl) ?_
        rcases hp9 with ⟨h_ok, rfl, rfl⟩ | ⟨h_ok, rfl, rfl⟩
        · exact absurd h_ok.1 c_58
        · refine q_stk (show _ = ([.int (-7002)] : List Value) from rfl) ?_
          have hw : wS D A (wX cy a σ kept nxt cnt T len pos ph le nu va ++ ((rc, .inl (cy, 2, .inl fl)) :: (rv, .inl (cy, 42, .inl vf)) :: Z)) s H locs := hw
          have hP := hw.1
          refine lv_istore (lv' := [(6, .int (-7002)), (5, .int (nI (0))), (4, .int (σ 84)), (0, .ref (a 0)), (1, .int (nI (d))), (2, .ref (rc)), (3, .int (nI (buS σ 7)))]) hx hb dL_mends_78 hl (by decide) rfl (fun ls hl => ?_)
          refine lv_iload hx hb dL_mends_80 (lv_at hl 1 rfl) ?_
          refine q_ifneN (tgt := 99) hx hb dL_mends_82 (by decide) (by omega) (fun c_82 => absurd c_82 (by omega)) (fun c_82 => ?_)
          refine lv_iload hx hb dL_mends_85 (lv_at hl 0 rfl) ?_
          refine lv_sipush (v := -7002) hx hb dL_mends_87 rfl ?_
          refine lv_icmp_ne (tgt := 97) hx hb dL_mends_90 (by decide) (fun (c_90 : ¬ (-7002) = (-7002)) => absurd rfl c_90) (fun (c_90 : (-7002) = (-7002)) => ?_)
          refine lv_iconst (v := nI 1) hx hb dL_mends_93 rfl ?_
          refine lv_goto (tgt := 98) hx hb dL_mends_94 (by decide) ?_
          exact q_zretE true hx hb hr hlocks hw dL_mends_98 rfl ⟨rfl, _, _, _, _, _, _, rfl, by omega, by omega, Inv_mono h_3 (by omega)⟩
      · refine lv_iload hx hb dL_mends_61 (lv_at hl 0 rfl) ?_
        refine lv_if_le (tgt := 70) hx hb dL_mends_63 (by decide) (fun (c_63 : (σ 84) ≤ 0) => ?_) (fun (c_63 : ¬ (σ 84) ≤ 0) => ?_)
        · refine lv_iconst (v := nI 0) hx hb dL_mends_70 rfl ?_
          refine lv_istore (lv' := [(5, .int (nI (0))), (4, .int (σ 84)), (0, .ref (a 0)), (1, .int (nI (d))), (2, .ref (rc)), (3, .int (nI (buS σ 7)))]) hx hb dL_mends_71 hl (by decide) rfl (fun ls hl => ?_)
          refine lv_aload_n hx hb dL_mends_73 rfl (lv_at hl 2 rfl) ?_
          refine lv_iload_n hx hb dL_mends_74 rfl (lv_at hl 3 rfl) ?_
          refine q_yS (As := [.ref (a 0), .int (nI (d))]) (rest := []) ⟨hx, hb, hml, hown, hts⟩ (c_L_tryBegin hst D cy A a σ kept nxt cnt T len pos ph le nu va ((rc, .inl (cy, 2, .inl fl)) :: (rv, .inl (cy, 42, .inl vf)) :: Z) h_1 h_2 h_3.1 (d) h_0) (vx_cwSW 2 hts gL_mends_L_tryBegin rfl rfl rfl hd_L_tryBegin ⟨Nat.le_of_ble_eq_true rfl, Nat.le_of_ble_eq_true rfl⟩) hK hC hA hN hw rfl hl.1 rfl (Nat.le_of_ble_eq_true rfl) ⟨Nat.le_of_ble_eq_true rfl, Nat.le_of_ble_eq_true rfl⟩ dL_mends_75 (fun H locs v9 w9 hp9 hw => ?_)
          refine W.widen (k := 1) (n := 6) (Nat.le_of_ble_eq_true rfl) (Nat.le_of_ble_eq_true rfl) ?_
          rcases hp9 with ⟨h_ok, rfl, rfl⟩ | ⟨h_ok, rfl, rfl⟩
          · exact absurd (sp_z h_3 c_63) h_ok.2
          · refine q_stk (show _ = ([.int (-7002)] : List Value) from rfl) ?_
            have hw : wS D A (wX cy a σ kept nxt cnt T len pos ph le nu va ++ ((rc, .inl (cy, 2, .inl fl)) :: (rv, .inl (cy, 42, .inl vf)) :: Z)) s H locs := hw
            have hP := hw.1
            refine lv_istore (lv' := [(6, .int (-7002)), (5, .int (nI (0))), (4, .int (σ 84)), (0, .ref (a 0)), (1, .int (nI (d))), (2, .ref (rc)), (3, .int (nI (buS σ 7)))]) hx hb dL_mends_78 hl (by decide) rfl (fun ls hl => ?_)
            refine lv_iload hx hb dL_mends_80 (lv_at hl 1 rfl) ?_
            refine q_ifneN (tgt := 99) hx hb dL_mends_82 (by decide) (by omega) (fun c_82 => absurd c_82 (by omega)) (fun c_82 => ?_)
            refine lv_iload hx hb dL_mends_85 (lv_at hl 0 rfl) ?_
            refine lv_sipush (v := -7002) hx hb dL_mends_87 rfl ?_
            refine lv_icmp_ne (tgt := 97) hx hb dL_mends_90 (by decide) (fun (c_90 : ¬ (-7002) = (-7002)) => absurd rfl c_90) (fun (c_90 : (-7002) = (-7002)) => ?_)
            refine lv_iconst (v := nI 1) hx hb dL_mends_93 rfl ?_
            refine lv_goto (tgt := 98) hx hb dL_mends_94 (by decide) ?_
            exact q_zretE true hx hb hr hlocks hw dL_mends_98 rfl ⟨rfl, _, _, _, _, _, _, rfl, by omega, by omega, Inv_mono h_3 (by omega)⟩
        · refine lv_iconst (v := nI 1) hx hb dL_mends_66 rfl ?_
          refine lv_goto (tgt := 71) hx hb dL_mends_67 (by decide) ?_
          refine lv_istore (lv' := [(5, .int (nI (1))), (4, .int (σ 84)), (0, .ref (a 0)), (1, .int (nI (d))), (2, .ref (rc)), (3, .int (nI (buS σ 7)))]) hx hb dL_mends_71 hl (by decide) rfl (fun ls hl => ?_)
          refine lv_aload_n hx hb dL_mends_73 rfl (lv_at hl 2 rfl) ?_
          refine lv_iload_n hx hb dL_mends_74 rfl (lv_at hl 3 rfl) ?_
          refine q_yS (As := [.ref (a 0), .int (nI (d))]) (rest := []) ⟨hx, hb, hml, hown, hts⟩ (c_L_tryBegin hst D cy A a σ kept nxt cnt T len pos ph le nu va ((rc, .inl (cy, 2, .inl fl)) :: (rv, .inl (cy, 42, .inl vf)) :: Z) h_1 h_2 h_3.1 (d) h_0) (vx_cwSW 2 hts gL_mends_L_tryBegin rfl rfl rfl hd_L_tryBegin ⟨Nat.le_of_ble_eq_true rfl, Nat.le_of_ble_eq_true rfl⟩) hK hC hA hN hw rfl hl.1 rfl (Nat.le_of_ble_eq_true rfl) ⟨Nat.le_of_ble_eq_true rfl, Nat.le_of_ble_eq_true rfl⟩ dL_mends_75 (fun H locs v9 w9 hp9 hw => ?_)
          refine W.widen (k := 1) (n := 6) (Nat.le_of_ble_eq_true rfl) (Nat.le_of_ble_eq_true rfl) ?_
          rcases hp9 with ⟨h_ok, rfl, rfl⟩ | ⟨h_ok, rfl, rfl⟩
          · refine q_stk (show _ = ([.int (begS σ d 84)] : List Value) from rfl) ?_
            have hw : wS D A (wX cy a (begS σ d) (cpK kept σ (nxt * 86) 86) ((nxt + 1) % 6) (min (cnt + 1) 6) T len pos ph le nu va ++ ((rc, .inl (cy, 2, .inl fl)) :: (rv, .inl (cy, 42, .inl vf)) :: Z)) s H locs := hw
            have hP := hw.1
            refine lv_istore (lv' := [(6, .int (begS σ d 84)), (5, .int (nI (1))), (4, .int (σ 84)), (0, .ref (a 0)), (1, .int (nI (d))), (2, .ref (rc)), (3, .int (nI (buS σ 7)))]) hx hb dL_mends_78 hl (by decide) rfl (fun ls hl => ?_)
            refine lv_iload hx hb dL_mends_80 (lv_at hl 1 rfl) ?_
            refine q_ifneN (tgt := 99) hx hb dL_mends_82 (by decide) (by omega) (fun c_82 => ?_) (fun c_82 => absurd c_82 (by omega))
            refine lv_iload hx hb dL_mends_99 (lv_at hl 0 rfl) ?_
            refine lv_iload hx hb dL_mends_101 (lv_at hl 2 rfl) ?_
            refine lv_iconst (v := nI 1) hx hb dL_mends_103 rfl ?_
            refine lv_isub hx hb dL_mends_104 ?_
            refine lv_icmp_ne (tgt := 129) hx hb dL_mends_105 (by decide) (fun (c_105 : ¬ (begS σ d 84) = ((σ 84) - 1)) => absurd (bg_84 h_0) c_105) (fun (c_105 : (begS σ d 84) = ((σ 84) - 1)) => ?_)
            refine lv_aload_n hx hb dL_mends_108 rfl (lv_at hl 3 rfl) ?_
            refine q_cV (As := []) (rest := []) ⟨hx, hb, hml, hown, hts⟩ (c_X6_spares D cy a (begS σ d) (cpK kept σ (nxt * 86) 86) ((nxt + 1) % 6) (min (cnt + 1) 6) T len pos ph le nu va ((rc, .inl (cy, 2, .inl fl)) :: (rv, .inl (cy, 42, .inl vf)) :: Z) ) (cwV 0 hts gL_mends_X6_spares rfl rfl rfl hd_X6_spares ⟨Nat.le_of_ble_eq_true rfl, Nat.le_of_ble_eq_true rfl⟩) hK hP 0 rfl rfl rfl hl.1 rfl (Nat.le_of_ble_eq_true rfl) ⟨Nat.le_of_ble_eq_true rfl, Nat.le_of_ble_eq_true rfl⟩ dL_mends_109 ?_
            refine lv_iload hx hb dL_mends_112 (lv_at hl 0 rfl) ?_
            refine lv_icmp_ne (tgt := 129) hx hb dL_mends_114 (by decide) (fun (c_114 : ¬ ((begS σ d) 84) = (begS σ d 84)) => absurd rfl c_114) (fun (c_114 : ((begS σ d) 84) = (begS σ d 84)) => ?_)
            refine lv_aload_n hx hb dL_mends_117 rfl (lv_at hl 3 rfl) ?_
            refine lv_iload_n hx hb dL_mends_118 rfl (lv_at hl 4 rfl) ?_
            refine q_cV (As := [.int (nI (d))]) (rest := []) ⟨hx, hb, hml, hown, hts⟩ (k_X6_state D cy a (begS σ d) (cpK kept σ (nxt * 86) 86) ((nxt + 1) % 6) (min (cnt + 1) 6) T len pos ph le nu va ((rc, .inl (cy, 2, .inl fl)) :: (rv, .inl (cy, 42, .inl vf)) :: Z) (d) (by omega)) (cwV 1 hts gL_mends_X6_state rfl rfl rfl hd_X6_state ⟨Nat.le_of_ble_eq_true rfl, Nat.le_of_ble_eq_true rfl⟩) hK hP 0 rfl rfl rfl hl.1 rfl (Nat.le_of_ble_eq_true rfl) ⟨Nat.le_of_ble_eq_true rfl, Nat.le_of_ble_eq_true rfl⟩ dL_mends_119 ?_
            refine lv_if_ne (tgt := 129) hx hb dL_mends_122 (by decide) (fun (c_122 : ¬ ((begS σ d) (63 + d)) = 0) => absurd (beg_63 h_0) c_122) (fun (c_122 : ((begS σ d) (63 + d)) = 0) => ?_)
            refine lv_iconst (v := nI 1) hx hb dL_mends_125 rfl ?_
            refine lv_goto (tgt := 130) hx hb dL_mends_126 (by decide) ?_
            refine lv_istore (lv' := [(7, .int (nI (1))), (6, .int (begS σ d 84)), (5, .int (nI (1))), (4, .int (σ 84)), (0, .ref (a 0)), (1, .int (nI (d))), (2, .ref (rc)), (3, .int (nI (buS σ 7)))]) hx hb dL_mends_130 hl (by decide) rfl (fun ls hl => ?_)
            refine lv_iload_n hx hb dL_mends_132 rfl (lv_at hl 7 rfl) ?_
            refine q_ifleN (tgt := 156) hx hb dL_mends_133 (by decide) (by have := buS_le σ 7; omega) (fun c_133 => ?_) (fun c_133 => ?_)
            · refine lv_iload hx hb dL_mends_156 (lv_at hl 0 rfl) ?_
              refine q_ifeqN (tgt := 211) hx hb dL_mends_158 (by decide) (by omega) (fun c_158 => absurd c_158 (by omega)) (fun c_158 => ?_)
              have r4 := ru_n (Val_beg h_3.1 h_0 h_ok.2) h_0 (g := 0) (beg_63 h_0) (by omega) (bu_oth h_0 h_ok.1 c_133) 4
              have r9 := ru_n r4.2.2.2 h_0 (g := 4) r4.2.1 (by omega) r4.2.2.1 9
              have r1 := ru_n r9.2.2.2 h_0 (g := 9) r9.2.1 (by omega) r9.2.2.1 1
              refine lv_aload_n hx hb dL_mends_161 rfl (lv_at hl 4 rfl) ?_
              refine lv_iconst (v := nI 4) hx hb dL_mends_162 rfl ?_
              refine q_wV0 (As := [.int (nI (4))]) (rest := []) (st1 := [.int (nI ((mnS 4 (begS σ d)).2))]) ⟨hx, hb, hml, hown, hts⟩ (k_X6_mend D cy A a (begS σ d) (cpK kept σ (nxt * 86) 86) ((nxt + 1) % 6) (min (cnt + 1) 6) T len pos ph le nu va ((rc, .inl (cy, 2, .inl fl)) :: (rv, .inl (cy, 42, .inl vf)) :: Z) (4) (by omega) (by omega) (by omega) (by omega) (Val_beg h_3.1 h_0 h_ok.2)) (cwV 1 hts gL_mends_X6_mend rfl rfl rfl hd_X6_mend ⟨Nat.le_of_ble_eq_true rfl, Nat.le_of_ble_eq_true rfl⟩) hK hA hw 0 rfl rfl rfl hl.1 rfl rfl (Nat.le_of_ble_eq_true rfl) ⟨Nat.le_of_ble_eq_true rfl, Nat.le_of_ble_eq_true rfl⟩ dL_mends_163 (fun H locs hw => ?_)
              have hw : wS D A (wX cy a ((mnS 4 (begS σ d)).1) (cpK (cpK kept σ (nxt * 86) 86) (begS σ d) (((nxt + 1) % 6) * 86) 86) ((((nxt + 1) % 6) + 1) % 6) (min ((min (cnt + 1) 6) + 1) 6) T len pos ph le nu va ++ ((rc, .inl (cy, 2, .inl fl)) :: (rv, .inl (cy, 42, .inl vf)) :: Z)) s H locs := hw
              have hP := hw.1
              refine lv_iconst (v := nI 4) hx hb dL_mends_166 rfl ?_
              refine q_neN (tgt := 211) hx hb dL_mends_167 (by decide) (by have := mn_le 4 (begS σ d); omega) (by omega) (fun c_167 => absurd r4.1 c_167) (fun c_167 => ?_)
              refine lv_aload_n hx hb dL_mends_170 rfl (lv_at hl 4 rfl) ?_
              refine lv_iload_n hx hb dL_mends_171 rfl (lv_at hl 5 rfl) ?_
              refine q_cV (As := [.int (nI (d))]) (rest := []) ⟨hx, hb, hml, hown, hts⟩ (k_X6_state D cy a ((mnS 4 (begS σ d)).1) (cpK (cpK kept σ (nxt * 86) 86) (begS σ d) (((nxt + 1) % 6) * 86) 86) ((((nxt + 1) % 6) + 1) % 6) (min ((min (cnt + 1) 6) + 1) 6) T len pos ph le nu va ((rc, .inl (cy, 2, .inl fl)) :: (rv, .inl (cy, 42, .inl vf)) :: Z) (d) (by omega)) (cwV 1 hts gL_mends_X6_state rfl rfl rfl hd_X6_state ⟨Nat.le_of_ble_eq_true rfl, Nat.le_of_ble_eq_true rfl⟩) hK hP 0 rfl rfl rfl hl.1 rfl (Nat.le_of_ble_eq_true rfl) ⟨Nat.le_of_ble_eq_true rfl, Nat.le_of_ble_eq_true rfl⟩ dL_mends_172 ?_
              refine lv_iconst (v := nI 4) hx hb dL_mends_175 rfl ?_
              refine lv_icmp_ne (tgt := 211) hx hb dL_mends_176 (by decide) (fun (c_176 : ¬ (((mnS 4 (begS σ d)).1) (63 + d)) = (4)) => absurd r4.2.1 c_176) (fun (c_176 : (((mnS 4 (begS σ d)).1) (63 + d)) = (4)) => ?_)
              refine lv_aload_n hx hb dL_mends_179 rfl (lv_at hl 4 rfl) ?_
              refine lv_bipush (v := nI 9) hx hb dL_mends_180 rfl ?_
              refine q_wV0 (As := [.int (nI (9))]) (rest := []) (st1 := [.int (nI ((mnS 9 ((mnS 4 (begS σ d)).1)).2))]) ⟨hx, hb, hml, hown, hts⟩ (k_X6_mend D cy A a ((mnS 4 (begS σ d)).1) (cpK (cpK kept σ (nxt * 86) 86) (begS σ d) (((nxt + 1) % 6) * 86) 86) ((((nxt + 1) % 6) + 1) % 6) (min ((min (cnt + 1) 6) + 1) 6) T len pos ph le nu va ((rc, .inl (cy, 2, .inl fl)) :: (rv, .inl (cy, 42, .inl vf)) :: Z) (9) (by omega) (by omega) (by omega) (by omega) r4.2.2.2) (cwV 1 hts gL_mends_X6_mend rfl rfl rfl hd_X6_mend ⟨Nat.le_of_ble_eq_true rfl, Nat.le_of_ble_eq_true rfl⟩) hK hA hw 0 rfl rfl rfl hl.1 rfl rfl (Nat.le_of_ble_eq_true rfl) ⟨Nat.le_of_ble_eq_true rfl, Nat.le_of_ble_eq_true rfl⟩ dL_mends_182 (fun H locs hw => ?_)
              have hw : wS D A (wX cy a ((mnS 9 ((mnS 4 (begS σ d)).1)).1) (cpK (cpK (cpK kept σ (nxt * 86) 86) (begS σ d) (((nxt + 1) % 6) * 86) 86) ((mnS 4 (begS σ d)).1) (((((nxt + 1) % 6) + 1) % 6) * 86) 86) ((((((nxt + 1) % 6) + 1) % 6) + 1) % 6) (min ((min ((min (cnt + 1) 6) + 1) 6) + 1) 6) T len pos ph le nu va ++ ((rc, .inl (cy, 2, .inl fl)) :: (rv, .inl (cy, 42, .inl vf)) :: Z)) s H locs := hw
              have hP := hw.1
              refine lv_iconst (v := nI 5) hx hb dL_mends_185 rfl ?_
              refine q_neN (tgt := 211) hx hb dL_mends_186 (by decide) (by have := r9.1; omega) (by omega) (fun c_186 => absurd r9.1 c_186) (fun c_186 => ?_)
              refine lv_aload_n hx hb dL_mends_189 rfl (lv_at hl 4 rfl) ?_
              refine lv_iload_n hx hb dL_mends_190 rfl (lv_at hl 5 rfl) ?_
              refine q_cV (As := [.int (nI (d))]) (rest := []) ⟨hx, hb, hml, hown, hts⟩ (k_X6_state D cy a ((mnS 9 ((mnS 4 (begS σ d)).1)).1) (cpK (cpK (cpK kept σ (nxt * 86) 86) (begS σ d) (((nxt + 1) % 6) * 86) 86) ((mnS 4 (begS σ d)).1) (((((nxt + 1) % 6) + 1) % 6) * 86) 86) ((((((nxt + 1) % 6) + 1) % 6) + 1) % 6) (min ((min ((min (cnt + 1) 6) + 1) 6) + 1) 6) T len pos ph le nu va ((rc, .inl (cy, 2, .inl fl)) :: (rv, .inl (cy, 42, .inl vf)) :: Z) (d) (by omega)) (cwV 1 hts gL_mends_X6_state rfl rfl rfl hd_X6_state ⟨Nat.le_of_ble_eq_true rfl, Nat.le_of_ble_eq_true rfl⟩) hK hP 0 rfl rfl rfl hl.1 rfl (Nat.le_of_ble_eq_true rfl) ⟨Nat.le_of_ble_eq_true rfl, Nat.le_of_ble_eq_true rfl⟩ dL_mends_191 ?_
              refine lv_bipush (v := nI 9) hx hb dL_mends_194 rfl ?_
              refine lv_icmp_ne (tgt := 211) hx hb dL_mends_196 (by decide) (fun (c_196 : ¬ (((mnS 9 ((mnS 4 (begS σ d)).1)).1) (63 + d)) = (9)) => absurd r9.2.1 c_196) (fun (c_196 : (((mnS 9 ((mnS 4 (begS σ d)).1)).1) (63 + d)) = (9)) => ?_)
              refine lv_aload_n hx hb dL_mends_199 rfl (lv_at hl 4 rfl) ?_
              refine lv_iconst (v := nI 1) hx hb dL_mends_200 rfl ?_
              refine q_wV0 (As := [.int (nI (1))]) (rest := []) (st1 := [.int (nI ((mnS 1 ((mnS 9 ((mnS 4 (begS σ d)).1)).1)).2))]) ⟨hx, hb, hml, hown, hts⟩ (k_X6_mend D cy A a ((mnS 9 ((mnS 4 (begS σ d)).1)).1) (cpK (cpK (cpK kept σ (nxt * 86) 86) (begS σ d) (((nxt + 1) % 6) * 86) 86) ((mnS 4 (begS σ d)).1) (((((nxt + 1) % 6) + 1) % 6) * 86) 86) ((((((nxt + 1) % 6) + 1) % 6) + 1) % 6) (min ((min ((min (cnt + 1) 6) + 1) 6) + 1) 6) T len pos ph le nu va ((rc, .inl (cy, 2, .inl fl)) :: (rv, .inl (cy, 42, .inl vf)) :: Z) (1) (by omega) (by omega) (by omega) (by omega) r9.2.2.2) (cwV 1 hts gL_mends_X6_mend rfl rfl rfl hd_X6_mend ⟨Nat.le_of_ble_eq_true rfl, Nat.le_of_ble_eq_true rfl⟩) hK hA hw 0 rfl rfl rfl hl.1 rfl rfl (Nat.le_of_ble_eq_true rfl) ⟨Nat.le_of_ble_eq_true rfl, Nat.le_of_ble_eq_true rfl⟩ dL_mends_201 (fun H locs hw => ?_)
              have hw : wS D A (wX cy a ((mnS 1 ((mnS 9 ((mnS 4 (begS σ d)).1)).1)).1) (cpK (cpK (cpK (cpK kept σ (nxt * 86) 86) (begS σ d) (((nxt + 1) % 6) * 86) 86) ((mnS 4 (begS σ d)).1) (((((nxt + 1) % 6) + 1) % 6) * 86) 86) ((mnS 9 ((mnS 4 (begS σ d)).1)).1) (((((((nxt + 1) % 6) + 1) % 6) + 1) % 6) * 86) 86) ((((((((nxt + 1) % 6) + 1) % 6) + 1) % 6) + 1) % 6) (min ((min ((min ((min (cnt + 1) 6) + 1) 6) + 1) 6) + 1) 6) T len pos ph le nu va ++ ((rc, .inl (cy, 2, .inl fl)) :: (rv, .inl (cy, 42, .inl vf)) :: Z)) s H locs := hw
              have hP := hw.1
              refine q_ifneN (tgt := 211) hx hb dL_mends_204 (by decide) (by have := r1.1; omega) (fun c_204 => absurd c_204 (by have := r1.1; omega)) (fun c_204 => ?_)
              refine lv_iconst (v := nI 1) hx hb dL_mends_207 rfl ?_
              refine lv_goto (tgt := 212) hx hb dL_mends_208 (by decide) ?_
              exact q_zretE true hx hb hr hlocks hw dL_mends_212 rfl ⟨rfl, _, _, _, _, _, _, rfl, by omega, by omega, Inv_mono (Inv_mn 1 (by omega) (Inv_mn 9 (by omega) (Inv_mn 4 (by omega) (Inv_beg h_3 h_0 h_ok.1 h_ok.2)))) (by omega)⟩
            · refine lv_iload hx hb dL_mends_136 (lv_at hl 0 rfl) ?_
              refine q_ifeqN (tgt := 154) hx hb dL_mends_138 (by decide) (by omega) (fun c_138 => absurd c_138 (by omega)) (fun c_138 => ?_)
              refine lv_aload_n hx hb dL_mends_141 rfl (lv_at hl 4 rfl) ?_
              refine lv_iconst (v := nI 1) hx hb dL_mends_142 rfl ?_
              refine q_wV0 (As := [.int (nI (1))]) (rest := []) (st1 := [.int (nI ((mnS 1 (begS σ d)).2))]) ⟨hx, hb, hml, hown, hts⟩ (k_X6_mend D cy A a (begS σ d) (cpK kept σ (nxt * 86) 86) ((nxt + 1) % 6) (min (cnt + 1) 6) T len pos ph le nu va ((rc, .inl (cy, 2, .inl fl)) :: (rv, .inl (cy, 42, .inl vf)) :: Z) (1) (by omega) (by omega) (by omega) (by omega) (Val_beg h_3.1 h_0 h_ok.2)) (cwV 1 hts gL_mends_X6_mend rfl rfl rfl hd_X6_mend ⟨Nat.le_of_ble_eq_true rfl, Nat.le_of_ble_eq_true rfl⟩) hK hA hw 0 rfl rfl rfl hl.1 rfl rfl (Nat.le_of_ble_eq_true rfl) ⟨Nat.le_of_ble_eq_true rfl, Nat.le_of_ble_eq_true rfl⟩ dL_mends_143 (fun H locs hw => ?_)
              have hw : wS D A (wX cy a ((mnS 1 (begS σ d)).1) (cpK (cpK kept σ (nxt * 86) 86) (begS σ d) (((nxt + 1) % 6) * 86) 86) ((((nxt + 1) % 6) + 1) % 6) (min ((min (cnt + 1) 6) + 1) 6) T len pos ph le nu va ++ ((rc, .inl (cy, 2, .inl fl)) :: (rv, .inl (cy, 42, .inl vf)) :: Z)) s H locs := hw
              have hP := hw.1
              refine lv_iconst (v := nI 1) hx hb dL_mends_146 rfl ?_
              refine q_neN (tgt := 154) hx hb dL_mends_147 (by decide) (by have := mn_le 1 (begS σ d); omega) (by omega) (fun c_147 => absurd (mn_1 (lm_beg h_0)) c_147) (fun c_147 => ?_)
              refine lv_iconst (v := nI 1) hx hb dL_mends_150 rfl ?_
              refine lv_goto (tgt := 155) hx hb dL_mends_151 (by decide) ?_
              exact q_zretE true hx hb hr hlocks hw dL_mends_155 rfl ⟨rfl, _, _, _, _, _, _, rfl, by omega, by omega, Inv_mono (Inv_mn 1 (by omega) (Inv_beg h_3 h_0 h_ok.1 h_ok.2)) (by omega)⟩
          · exact absurd h_ok (fun z => z.elim (fun y => y c_58) (fun y => c_63 (by rw [y]; decide)))
    | succ j_ ih_i =>
      intro i hn_i H locs ls hw hl
      have hP := hw.1
      refine lv_iload hx hb dL_mends_5 (lv_at hl 4 rfl) ?_
      refine lv_bipush (v := nI 7) hx hb dL_mends_7 rfl ?_
      refine q_geN (tgt := 46) hx hb dL_mends_9 (by decide) (by omega) (by omega) (fun c_9 => absurd c_9 (by omega)) (fun c_9 => ?_)
      refine lv_iload_n hx hb dL_mends_12 rfl (lv_at hl 3 rfl) ?_
      refine lv_aload_n hx hb dL_mends_13 rfl (lv_at hl 0 rfl) ?_
      refine lv_iload hx hb dL_mends_14 (lv_at hl 4 rfl) ?_
      refine q_cV (As := [.int (nI (i))]) (rest := [.int (nI (buS σ i))]) ⟨hx, hb, hml, hown, hts⟩ (k_X6_state D cy a σ kept nxt cnt T len pos ph le nu va ((rc, .inl (cy, 2, .inl fl)) :: (rv, .inl (cy, 42, .inl vf)) :: Z) (i) (by omega)) (cwV 1 hts gL_mends_X6_state rfl rfl rfl hd_X6_state ⟨Nat.le_of_ble_eq_true rfl, Nat.le_of_ble_eq_true rfl⟩) hK hP 0 rfl rfl rfl hl.1 rfl (Nat.le_of_ble_eq_true rfl) ⟨Nat.zero_le _, Nat.zero_le _⟩ dL_mends_16 ?_
      refine lv_if_lt (tgt := 37) hx hb dL_mends_19 (by decide) (fun (c_19 : (σ (63 + i)) < 0) => ?_) (fun (c_19 : ¬ (σ (63 + i)) < 0) => ?_)
      · refine lv_iconst (v := nI 0) hx hb dL_mends_37 rfl ?_
        refine q_addN hx hb dL_mends_38 ?_
        refine lv_istore_n (lv' := [(3, .int (nI ((buS σ i) + 0))), (0, .ref (a 0)), (1, .int (nI (d))), (2, .ref (rc)), (4, .int (nI (i)))]) hx hb dL_mends_39 rfl hl (by decide) rfl (fun ls hl => ?_)
        have e_c : nI ((buS σ i) + 0) = nI (buS σ (i + 1)) := congrArg nI (bu_lt h_3 (by omega) c_19)
        have hl : lv_has ls 8 [(3, .int (nI (buS σ (i + 1)))), (0, .ref (a 0)), (1, .int (nI (d))), (2, .ref (rc)), (4, .int (nI (i)))] := by rw [← e_c]; exact hl
        refine lv_iinc (v := nI (i + 1)) (lv' := [(4, .int (nI (i + 1))), (3, .int (nI (buS σ (i + 1)))), (0, .ref (a 0)), (1, .int (nI (d))), (2, .ref (rc))]) hx hb dL_mends_40 hl (k := 4) rfl (show nI (i) + nI 1 = nI (i + 1) from nI_add _ _) (by decide) rfl (fun ls hl => ?_)
        refine lv_goto (tgt := 5) hx hb dL_mends_43 (by decide) ?_
        exact ih_i (i + 1) (by omega) _ _ _ hw (lv_sub hl [2, 3, 4, 1, 0] rfl)
      · refine lv_aload_n hx hb dL_mends_22 rfl (lv_at hl 0 rfl) ?_
        refine lv_iload hx hb dL_mends_23 (lv_at hl 4 rfl) ?_
        refine q_cV (As := [.int (nI (i))]) (rest := [.int (nI (buS σ i))]) ⟨hx, hb, hml, hown, hts⟩ (k_X6_state D cy a σ kept nxt cnt T len pos ph le nu va ((rc, .inl (cy, 2, .inl fl)) :: (rv, .inl (cy, 42, .inl vf)) :: Z) (i) (by omega)) (cwV 1 hts gL_mends_X6_state rfl rfl rfl hd_X6_state ⟨Nat.le_of_ble_eq_true rfl, Nat.le_of_ble_eq_true rfl⟩) hK hP 0 rfl rfl rfl hl.1 rfl (Nat.le_of_ble_eq_true rfl) ⟨Nat.zero_le _, Nat.zero_le _⟩ dL_mends_25 ?_
        refine lv_bipush (v := nI 9) hx hb dL_mends_28 rfl ?_
        refine lv_icmp_ge (tgt := 37) hx hb dL_mends_30 (by decide) (fun (c_30 : (9) ≤ (σ (63 + i))) => ?_) (fun (c_30 : ¬ (9) ≤ (σ (63 + i))) => ?_)
        · refine lv_iconst (v := nI 0) hx hb dL_mends_37 rfl ?_
          refine q_addN hx hb dL_mends_38 ?_
          refine lv_istore_n (lv' := [(3, .int (nI ((buS σ i) + 0))), (0, .ref (a 0)), (1, .int (nI (d))), (2, .ref (rc)), (4, .int (nI (i)))]) hx hb dL_mends_39 rfl hl (by decide) rfl (fun ls hl => ?_)
          have e_c : nI ((buS σ i) + 0) = nI (buS σ (i + 1)) := congrArg nI (bu_ge h_3 (by omega) c_30)
          have hl : lv_has ls 8 [(3, .int (nI (buS σ (i + 1)))), (0, .ref (a 0)), (1, .int (nI (d))), (2, .ref (rc)), (4, .int (nI (i)))] := by rw [← e_c]; exact hl
          refine lv_iinc (v := nI (i + 1)) (lv' := [(4, .int (nI (i + 1))), (3, .int (nI (buS σ (i + 1)))), (0, .ref (a 0)), (1, .int (nI (d))), (2, .ref (rc))]) hx hb dL_mends_40 hl (k := 4) rfl (show nI (i) + nI 1 = nI (i + 1) from nI_add _ _) (by decide) rfl (fun ls hl => ?_)
          refine lv_goto (tgt := 5) hx hb dL_mends_43 (by decide) ?_
          exact ih_i (i + 1) (by omega) _ _ _ hw (lv_sub hl [2, 3, 4, 1, 0] rfl)
        · refine lv_iconst (v := nI 1) hx hb dL_mends_33 rfl ?_
          refine lv_goto (tgt := 38) hx hb dL_mends_34 (by decide) ?_
          refine q_addN hx hb dL_mends_38 ?_
          refine lv_istore_n (lv' := [(3, .int (nI ((buS σ i) + 1))), (0, .ref (a 0)), (1, .int (nI (d))), (2, .ref (rc)), (4, .int (nI (i)))]) hx hb dL_mends_39 rfl hl (by decide) rfl (fun ls hl => ?_)
          have e_c : nI ((buS σ i) + 1) = nI (buS σ (i + 1)) := congrArg nI (bu_in h_3 (by omega) c_19 c_30)
          have hl : lv_has ls 8 [(3, .int (nI (buS σ (i + 1)))), (0, .ref (a 0)), (1, .int (nI (d))), (2, .ref (rc)), (4, .int (nI (i)))] := by rw [← e_c]; exact hl
          refine lv_iinc (v := nI (i + 1)) (lv' := [(4, .int (nI (i + 1))), (3, .int (nI (buS σ (i + 1)))), (0, .ref (a 0)), (1, .int (nI (d))), (2, .ref (rc))]) hx hb dL_mends_40 hl (k := 4) rfl (show nI (i) + nI 1 = nI (i + 1) from nI_add _ _) (by decide) rfl (fun ls hl => ?_)
          refine lv_goto (tgt := 5) hx hb dL_mends_43 (by decide) ?_
          exact ih_i (i + 1) (by omega) _ _ _ hw (lv_sub hl [2, 3, 4, 1, 0] rfl)
  exact lp5 (7 - 0) 0 (by omega) _ _ _ hw (lv_sub hl [2, 3, 4, 1, 0] rfl)
