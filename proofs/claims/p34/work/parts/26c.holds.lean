/-! What the law looks at after each act. -/
theorem th_dg {σ : Nat → Int32} {d g : Nat} (hg : g < 9) : th σ (9 * d + g) = decide (nI g < σ (63 + d)) := by
  unfold th
  rw [show (9 * d + g) % 9 = g by omega, show (9 * d + g) / 9 = d by omega]
theorem vs_1 {σ : Nat → Int32} (hv : Val σ) {d g : Nat} (hd : d < 7) (hg : g < 9) (h : nI g < σ (63 + d)) : ¬ vis σ (9 * d + g) = -1 := by
  unfold vis
  rw [th_dg hg, decide_eq_true h, if_pos rfl]
  obtain ⟨n, hn, e⟩ := hv.1 (9 * d + g) (by omega)
  rw [e]
  exact nI_ne_m1 (by omega)
theorem vs_2 {σ : Nat → Int32} {d g : Nat} (_hd : d < 7) (hg : g < 9) (h : ¬ nI g < σ (63 + d)) : vis σ (9 * d + g) = -1 := by
  unfold vis
  rw [th_dg hg, decide_eq_false h, if_neg (by decide)]
theorem vs_3 {σ : Nat → Int32} (hv : Val σ) {d g : Nat} (hd : d < 7) (hg : g < 9) : vis σ (9 * d + g) ≤ nI 65535 := by
  unfold vis
  split
  · obtain ⟨n, hn, e⟩ := hv.1 (9 * d + g) (by omega)
    rw [e]
    exact (nI_leI (by omega) (by omega)).mpr (by omega)
  · decide
theorem st_lo {σ : Nat → Int32} (hv : Val σ) {d : Nat} (hd : d < 7) : ¬ σ (63 + d) < -1 := by
  rcases hv.2.1 d hd with e | ⟨n, hn, e⟩
  · rw [e]; decide
  · rw [e]
    exact (show ∀ n, n < 10 → ¬ nI n < -1 by decide +kernel) n (by omega)
theorem st_hi {σ : Nat → Int32} (hv : Val σ) {d : Nat} (hd : d < 7) : ¬ 9 < σ (63 + d) := by
  rcases hv.2.1 d hd with e | ⟨n, hn, e⟩
  · rw [e]; decide
  · rw [e]
    exact (show ∀ n, n < 10 → ¬ 9 < nI n by decide +kernel) n (by omega)
theorem sp_lo {σ : Nat → Int32} (hv : Val σ) : ¬ σ 84 < 0 := by
  obtain ⟨n, hn, e⟩ := hv.2.2
  rw [e]
  exact (show ∀ n, n < 6 → ¬ nI n < 0 by decide +kernel) n (by omega)
theorem sp_hi {σ : Nat → Int32} (hv : Val σ) : ¬ 5 < σ 84 := by
  obtain ⟨n, hn, e⟩ := hv.2.2
  rw [e]
  exact (show ∀ n, n < 6 → ¬ 5 < nI n by decide +kernel) n (by omega)
/-- the most that the law has seen among the first n discs -/
def wmS (σ : Nat → Int32) : Nat → Int32
  | 0 => nI 0
  | n + 1 => if σ (63 + n) = 9 ∧ (wst σ n).2 < nI (cl (failS σ n)) then nI (cl (failS σ n)) else wmS σ n
theorem wm_rel (σ : Nat → Int32) : ∀ n, n ≤ 7 → ((wst σ n).1 = -1 ∧ (wst σ n).2 = -1) ∨ ((∃ j, j < 7 ∧ (wst σ n).1 = nI j) ∧ (wst σ n).2 = wmS σ n) := by
  intro n
  induction n with
  | zero => exact fun _ => Or.inl ⟨rfl, rfl⟩
  | succ n ih =>
    intro hn
    simp only [wst, wmS]
    by_cases h : σ (63 + n) = 9 ∧ (wst σ n).2 < nI (cl (failS σ n))
    · rw [if_pos h, if_pos h]
      exact Or.inr ⟨⟨n, by omega, rfl⟩, rfl⟩
    · rw [if_neg h, if_neg h]
      exact ih (by omega)
theorem wm_no {σ : Nat → Int32} {d : Nat} (h : ¬ σ (63 + d) = 9) : wmS σ (d + 1) = wmS σ d ∧ (wst σ (d + 1)).1 = (wst σ d).1 := by
  have h2 : ¬ (σ (63 + d) = 9 ∧ (wst σ d).2 < nI (cl (failS σ d))) := fun z => h z.1
  constructor
  · show (if _ then _ else _) = _
    rw [if_neg h2]
  · show (if _ then _ else _ : Int32 × Int32).1 = _
    rw [if_neg h2]
theorem m1_lt {n : Nat} (h : n ≤ 42) : -1 < nI n := (show ∀ n, n < 43 → -1 < nI n by decide +kernel) n (by omega)
theorem wm_new {σ : Nat → Int32} {d : Nat} (hd : d < 7) (h9 : σ (63 + d) = 9) (h : (wst σ d).1 < 0 ∨ ¬ nI (cl (failS σ d)) ≤ wmS σ d) : wmS σ (d + 1) = nI (cl (failS σ d)) ∧ (wst σ (d + 1)).1 = nI d := by
  have h2 : (wst σ d).2 < nI (cl (failS σ d)) := by
    rcases wm_rel σ d (by omega) with ⟨a, b⟩ | ⟨⟨j, hj, a⟩, b⟩
    · rw [b]; exact m1_lt (cl_42 _)
    · rcases h with h | h
      · rw [a] at h; exact absurd h (nI_pos (by omega))
      · rw [b]; exact Int32.not_le.mp h
  constructor
  · show (if _ then _ else _) = _
    rw [if_pos ⟨h9, h2⟩]
  · show (if _ then _ else _ : Int32 × Int32).1 = _
    rw [if_pos ⟨h9, h2⟩]
theorem wm_old {σ : Nat → Int32} {d : Nat} (hd : d < 7) (h9 : σ (63 + d) = 9) (h1 : ¬ (wst σ d).1 < 0) (h : nI (cl (failS σ d)) ≤ wmS σ d) : wmS σ (d + 1) = wmS σ d ∧ (wst σ (d + 1)).1 = (wst σ d).1 := by
  have h2 : ¬ (σ (63 + d) = 9 ∧ (wst σ d).2 < nI (cl (failS σ d))) := by
    rcases wm_rel σ d (by omega) with ⟨a, b⟩ | ⟨⟨j, hj, a⟩, b⟩
    · rw [a] at h1; exact absurd (by decide) h1
    · rw [b]; exact fun z => Int32.not_lt.mpr h z.2
  constructor
  · show (if _ then _ else _) = _
    rw [if_neg h2]
  · show (if _ then _ else _ : Int32 × Int32).1 = _
    rw [if_neg h2]
/-- how many of the first n addresses are lost -/
def loS (σ : Nat → Int32) (n : Nat) : Nat := cntB (fun q => lo σ (ad q)) n
theorem kn_m1 {σ : Nat → Int32} (hv : Val σ) {k : Nat} (hk : k < 63) (h : kn σ k = -1) : lo σ k = true := by
  cases hl : lo σ k
  · obtain ⟨n, hn, e⟩ := Val_kn hv hk hl
    rw [e] at h
    exact absurd h (nI_ne_m1 (by omega))
  · rfl
theorem lo_1 {σ : Nat → Int32} (hv : Val σ) {i : Nat} (hi : i < 42) (h : kn σ (ad i) = -1) : loS σ i + 1 = loS σ (i + 1) := by
  unfold loS
  simp only [cntB, kn_m1 hv (ad_lt hi) h, if_true]
theorem lo_0 {σ : Nat → Int32} {i : Nat} (_hi : i < 42) (h : ¬ kn σ (ad i) = -1) : loS σ i + 0 = loS σ (i + 1) := by
  have h2 : lo σ (ad i) = false := by
    cases hl : lo σ (ad i)
    · rfl
    · exact absurd (kn_lo hl) h
  unfold loS
  simp only [cntB, h2, Bool.false_eq_true, if_false]
theorem iv_c {σ fl vf : Nat → Int32} {B : Nat} (h : Inv σ fl vf B) (h1 : ¬ fl 1 = 1) : cl σ = 0 ∧ σ 85 = 0 := by
  have h2 := h.2.2.2.2.1 (h.2.2.2.1.resolve_right h1)
  exact ⟨cl_One h2.1, h2.2⟩
theorem iv_w {σ fl vf : Nat → Int32} {B : Nat} (hB : B < 100000) (h : Inv σ fl vf B) (h1 : ¬ fl 0 = 1) (h2 : ¬ 0 < σ 85) : cw σ = 0 := by
  obtain ⟨n, hn, e⟩ := h.2.1.2
  have h3 : σ 85 = 0 := by
    rw [e] at h2 ⊢
    rw [← nI_0, nI_ltI (by omega) (by omega)] at h2
    rw [show n = 0 by omega]
    exact nI_0
  exact cw_Rt (h.2.2.2.2.2.1 (h.2.2.1.resolve_right h1) h3)
set_option maxHeartbeats 1000000 in
set_option maxRecDepth 100000 in
theorem c_L_holds {l : Launch} (D : va_G) (cy : ClassId) (a : Nat → Nat) (σ kept : Nat → Int32) (nxt cnt : Nat) (T : Nat → Int32) (len pos : Nat) (ph le nu va : Int32) (rc rv : Nat) (fl vf : Nat → Int32) (Z : va_W) (B : Nat) (h_0 : Inv σ fl vf B) (h_1 : B < 100000) : Met l yL_holds wsL_holds (k2_rm 7 155) (gR D cy [.ref (a 0), .ref (rc), .ref (rv)] (wX cy a σ kept nxt cnt T len pos ph le nu va ++ ((rc, .inl (cy, 2, .inl fl)) :: (rv, .inl (cy, 42, .inl vf)) :: Z))) (k2_QcV (.int (bI (true)))) 0 0 (fun _ => False) := by
  refine q_pure (cc := cL_holds) (maxL := 9) (ret := (some .boolean)) pl_L rfl (Nat.le_of_ble_eq_true rfl) ?_
  intro p e s m below meth c ls hx hb hr hml hts hown hlocks hP hK hl
  have hl : lv_has ls 9 [(0, .ref (a 0)), (1, .ref (rc)), (2, .ref (rv))] := hl
  refine lv_iconst (v := nI 0) hx hb dL_holds_0 rfl ?_
  refine lv_istore_n (lv' := [(3, .int (nI (0))), (0, .ref (a 0)), (1, .ref (rc)), (2, .ref (rv))]) hx hb dL_holds_1 rfl hl (by decide) rfl (fun ls hl => ?_)
  refine lv_iconst (v := nI 0) hx hb dL_holds_2 rfl ?_
  refine lv_istore (lv' := [(4, .int (nI (0))), (3, .int (nI (0))), (0, .ref (a 0)), (1, .ref (rc)), (2, .ref (rv))]) hx hb dL_holds_3 hl (by decide) rfl (fun ls hl => ?_)
  refine lv_iconst (v := -1) hx hb dL_holds_5 rfl ?_
  refine lv_istore (lv' := [(5, .int (-1)), (4, .int (nI (0))), (3, .int (nI (0))), (0, .ref (a 0)), (1, .ref (rc)), (2, .ref (rv))]) hx hb dL_holds_6 hl (by decide) rfl (fun ls hl => ?_)
  refine lv_iconst (v := nI 0) hx hb dL_holds_8 rfl ?_
  refine lv_istore (lv' := [(6, .int (nI (0))), (5, .int (-1)), (4, .int (nI (0))), (3, .int (nI (0))), (0, .ref (a 0)), (1, .ref (rc)), (2, .ref (rv))]) hx hb dL_holds_9 hl (by decide) rfl (fun ls hl => ?_)
  have lp11 : ∀ (j_ d : Nat), d + j_ = 7 → ∀ (ls : Array Slot), lv_has ls 9 [(0, .ref (a 0)), (1, .ref (rc)), (2, .ref (rv)), (3, .int (nI (0))), (4, .int (wmS σ d)), (5, .int ((wst σ d).1)), (6, .int (nI (d)))] → W p l e (k2_rm 7 155) s m ([.ref (a 0), .ref (rc), .ref (rv)] : List Value).toArray below meth c s.heap [] 0 0 (MQ below (k2_QcV (.int (bI (true)))) ([.ref (a 0), .ref (rc), .ref (rv)] : List Value).toArray s 0 0 (fun _ => False)) (F0 m 11 ls []) := by
    intro j_
    induction j_ with
    | zero =>
      intro d hn_d ls hl
      refine lv_iload hx hb dL_holds_11 (lv_at hl 6 rfl) ?_
      refine lv_bipush (v := nI 7) hx hb dL_holds_13 rfl ?_
      refine q_geN (tgt := 177) hx hb dL_holds_15 (by decide) (by omega) (by omega) (fun c_15 => ?_) (fun c_15 => absurd c_15 (by omega))
      have e9 : d = 7 := by omega
      subst e9
      have hl : lv_has ls 9 [(0, .ref (a 0)), (1, .ref (rc)), (2, .ref (rv)), (3, .int (nI (0))), (5, .int ((wst σ 7).1))] := lv_sub hl [0, 1, 2, 3, 5] rfl
      refine lv_iconst (v := nI 0) hx hb dL_holds_177 rfl ?_
      refine lv_istore (lv' := [(6, .int (nI (0))), (0, .ref (a 0)), (1, .ref (rc)), (2, .ref (rv)), (3, .int (nI (0))), (5, .int ((wst σ 7).1))]) hx hb dL_holds_178 hl (by decide) rfl (fun ls hl => ?_)
      have lp180 : ∀ (j_ i : Nat), i + j_ = 42 → ∀ (ls : Array Slot), lv_has ls 9 [(0, .ref (a 0)), (1, .ref (rc)), (2, .ref (rv)), (3, .int (nI (loS σ i))), (5, .int ((wst σ 7).1)), (6, .int (nI (i)))] → W p l e (k2_rm 7 155) s m ([.ref (a 0), .ref (rc), .ref (rv)] : List Value).toArray below meth c s.heap [] 0 0 (MQ below (k2_QcV (.int (bI (true)))) ([.ref (a 0), .ref (rc), .ref (rv)] : List Value).toArray s 0 0 (fun _ => False)) (F0 m 180 ls []) := by
        intro j_
        induction j_ with
        | zero =>
          intro i hn_i ls hl
          refine lv_iload hx hb dL_holds_180 (lv_at hl 5 rfl) ?_
          refine lv_bipush (v := nI 42) hx hb dL_holds_182 rfl ?_
          refine q_geN (tgt := 238) hx hb dL_holds_184 (by decide) (by omega) (by omega) (fun c_184 => ?_) (fun c_184 => absurd c_184 (by omega))
          have e9 : i = 42 := by omega
          subst e9
          have hl : lv_has ls 9 [(0, .ref (a 0)), (1, .ref (rc)), (2, .ref (rv)), (3, .int (nI (loS σ 42))), (5, .int ((wst σ 7).1))] := lv_sub hl [0, 1, 2, 3, 4] rfl
          refine lv_aload_n hx hb dL_holds_238 rfl (lv_at hl 0 rfl) ?_
          refine q_cV (As := []) (rest := []) ⟨hx, hb, hml, hown, hts⟩ (c_X6_lost D cy a σ kept nxt cnt T len pos ph le nu va ((rc, .inl (cy, 2, .inl fl)) :: (rv, .inl (cy, 42, .inl vf)) :: Z) ) (cwV 0 hts gL_holds_X6_lost rfl rfl rfl hd_X6_lost ⟨Nat.le_of_ble_eq_true rfl, Nat.le_of_ble_eq_true rfl⟩) hK hP 0 rfl rfl rfl hl.1 rfl (Nat.le_of_ble_eq_true rfl) ⟨Nat.zero_le _, Nat.zero_le _⟩ dL_holds_239 ?_
          refine lv_iload_n hx hb dL_holds_242 rfl (lv_at hl 3 rfl) ?_
          refine q_neN (tgt := 331) hx hb dL_holds_243 (by decide) (by have := cl_42 σ; omega) (by have : loS σ 42 = cl σ := rfl; have := cl_42 σ; omega) (fun c_243 => absurd (show cl σ = loS σ 42 from rfl) c_243) (fun c_243 => ?_)
          refine lv_aload_n hx hb dL_holds_246 rfl (lv_at hl 1 rfl) ?_
          refine lv_iconst (v := nI 1) hx hb dL_holds_247 rfl ?_
          refine q_iald hx hb hK hP 18 rfl (by omega) (by omega) dL_holds_248 ?_
          refine lv_iconst (v := nI 1) hx hb dL_holds_249 rfl ?_
          refine lv_icmp_eq (tgt := 264) hx hb dL_holds_250 (by decide) (fun (c_250 : (fl (1)) = (1)) => ?_) (fun (c_250 : ¬ (fl (1)) = (1)) => ?_)
          · refine lv_aload_n hx hb dL_holds_264 rfl (lv_at hl 1 rfl) ?_
            refine lv_iconst (v := nI 0) hx hb dL_holds_265 rfl ?_
            refine q_iald hx hb hK hP 18 rfl (by omega) (by omega) dL_holds_266 ?_
            refine lv_iconst (v := nI 1) hx hb dL_holds_267 rfl ?_
            refine lv_icmp_eq (tgt := 285) hx hb dL_holds_268 (by decide) (fun (c_268 : (fl (0)) = (1)) => ?_) (fun (c_268 : ¬ (fl (0)) = (1)) => ?_)
            · refine lv_aload_n hx hb dL_holds_285 rfl (lv_at hl 0 rfl) ?_
              refine q_cV (As := []) (rest := []) ⟨hx, hb, hml, hown, hts⟩ (c_X6_spares D cy a σ kept nxt cnt T len pos ph le nu va ((rc, .inl (cy, 2, .inl fl)) :: (rv, .inl (cy, 42, .inl vf)) :: Z) ) (cwV 0 hts gL_holds_X6_spares rfl rfl rfl hd_X6_spares ⟨Nat.le_of_ble_eq_true rfl, Nat.le_of_ble_eq_true rfl⟩) hK hP 0 rfl rfl rfl hl.1 rfl (Nat.le_of_ble_eq_true rfl) ⟨Nat.zero_le _, Nat.zero_le _⟩ dL_holds_286 ?_
              refine lv_if_lt (tgt := 331) hx hb dL_holds_289 (by decide) (fun (c_289 : (σ 84) < 0) => absurd c_289 (sp_lo h_0.1)) (fun (c_289 : ¬ (σ 84) < 0) => ?_)
              refine lv_aload_n hx hb dL_holds_292 rfl (lv_at hl 0 rfl) ?_
              refine q_cV (As := []) (rest := []) ⟨hx, hb, hml, hown, hts⟩ (c_X6_spares D cy a σ kept nxt cnt T len pos ph le nu va ((rc, .inl (cy, 2, .inl fl)) :: (rv, .inl (cy, 42, .inl vf)) :: Z) ) (cwV 0 hts gL_holds_X6_spares rfl rfl rfl hd_X6_spares ⟨Nat.le_of_ble_eq_true rfl, Nat.le_of_ble_eq_true rfl⟩) hK hP 0 rfl rfl rfl hl.1 rfl (Nat.le_of_ble_eq_true rfl) ⟨Nat.zero_le _, Nat.zero_le _⟩ dL_holds_293 ?_
              refine lv_iconst (v := nI 5) hx hb dL_holds_296 rfl ?_
              refine lv_icmp_gt (tgt := 331) hx hb dL_holds_297 (by decide) (fun (c_297 : (5) < (σ 84)) => absurd c_297 (sp_hi h_0.1)) (fun (c_297 : ¬ (5) < (σ 84)) => ?_)
              refine lv_aload_n hx hb dL_holds_300 rfl (lv_at hl 0 rfl) ?_
              refine q_cV (As := []) (rest := []) ⟨hx, hb, hml, hown, hts⟩ (c_X6_balance D cy a σ kept nxt cnt T len pos ph le nu va ((rc, .inl (cy, 2, .inl fl)) :: (rv, .inl (cy, 42, .inl vf)) :: Z) ) (cwV 0 hts gL_holds_X6_balance rfl rfl rfl hd_X6_balance ⟨Nat.le_of_ble_eq_true rfl, Nat.le_of_ble_eq_true rfl⟩) hK hP 0 rfl rfl rfl hl.1 rfl (Nat.le_of_ble_eq_true rfl) ⟨Nat.zero_le _, Nat.zero_le _⟩ dL_holds_301 ?_
              refine lv_dconst0 hx hb dL_holds_304 ?_
              refine lv_dcmp hx hb dL_holds_305 ?_
              refine lv_if_lt (tgt := 331) hx hb dL_holds_306 (by decide) (fun (c_306 : (Op.cmpValue (FP.dcmp (bal σ) (FP.dconst0)) .l) < 0) => absurd c_306 (bal_0 (by omega) h_0.2.1)) (fun (c_306 : ¬ (Op.cmpValue (FP.dcmp (bal σ) (FP.dconst0)) .l) < 0) => ?_)
              refine lv_aload_n hx hb dL_holds_309 rfl (lv_at hl 0 rfl) ?_
              refine q_cV (As := []) (rest := []) ⟨hx, hb, hml, hown, hts⟩ (c_X6_balance D cy a σ kept nxt cnt T len pos ph le nu va ((rc, .inl (cy, 2, .inl fl)) :: (rv, .inl (cy, 42, .inl vf)) :: Z) ) (cwV 0 hts gL_holds_X6_balance rfl rfl rfl hd_X6_balance ⟨Nat.le_of_ble_eq_true rfl, Nat.le_of_ble_eq_true rfl⟩) hK hP 0 rfl rfl rfl hl.1 rfl (Nat.le_of_ble_eq_true rfl) ⟨Nat.zero_le _, Nat.zero_le _⟩ dL_holds_310 ?_
              refine lv_dconst1 hx hb dL_holds_313 ?_
              refine lv_dcmp hx hb dL_holds_314 ?_
              refine lv_if_gt (tgt := 331) hx hb dL_holds_315 (by decide) (fun (c_315 : 0 < (Op.cmpValue (FP.dcmp (bal σ) (FP.dconst1)) .g)) => absurd c_315 (bal_1 (by omega) h_0.2.1)) (fun (c_315 : ¬ 0 < (Op.cmpValue (FP.dcmp (bal σ) (FP.dconst1)) .g)) => ?_)
              refine lv_aload_n hx hb dL_holds_318 rfl (lv_at hl 0 rfl) ?_
              refine q_cV (As := []) (rest := []) ⟨hx, hb, hml, hown, hts⟩ (c_X6_worst D cy a σ kept nxt cnt T len pos ph le nu va ((rc, .inl (cy, 2, .inl fl)) :: (rv, .inl (cy, 42, .inl vf)) :: Z) ) (cwV 0 hts gL_holds_X6_worst rfl rfl rfl hd_X6_worst ⟨Nat.le_of_ble_eq_true rfl, Nat.le_of_ble_eq_true rfl⟩) hK hP 0 rfl rfl rfl hl.1 rfl (Nat.le_of_ble_eq_true rfl) ⟨Nat.zero_le _, Nat.zero_le _⟩ dL_holds_319 ?_
              refine lv_iload hx hb dL_holds_322 (lv_at hl 4 rfl) ?_
              refine lv_icmp_ne (tgt := 331) hx hb dL_holds_324 (by decide) (fun (c_324 : ¬ ((wst σ 7).1) = ((wst σ 7).1)) => absurd rfl c_324) (fun (c_324 : ((wst σ 7).1) = ((wst σ 7).1)) => ?_)
              refine lv_iconst (v := nI 1) hx hb dL_holds_327 rfl ?_
              refine lv_goto (tgt := 332) hx hb dL_holds_328 (by decide) ?_
              exact q_zret hx hb hr hlocks dL_holds_332 (rfl)
            · refine lv_aload_n hx hb dL_holds_271 rfl (lv_at hl 0 rfl) ?_
              refine q_cV (As := []) (rest := []) ⟨hx, hb, hml, hown, hts⟩ (c_X6_losses D cy a σ kept nxt cnt T len pos ph le nu va ((rc, .inl (cy, 2, .inl fl)) :: (rv, .inl (cy, 42, .inl vf)) :: Z) ) (cwV 0 hts gL_holds_X6_losses rfl rfl rfl hd_X6_losses ⟨Nat.le_of_ble_eq_true rfl, Nat.le_of_ble_eq_true rfl⟩) hK hP 0 rfl rfl rfl hl.1 rfl (Nat.le_of_ble_eq_true rfl) ⟨Nat.zero_le _, Nat.zero_le _⟩ dL_holds_272 ?_
              refine lv_if_gt (tgt := 285) hx hb dL_holds_275 (by decide) (fun (c_275 : 0 < (σ 85)) => ?_) (fun (c_275 : ¬ 0 < (σ 85)) => ?_)
              · refine lv_aload_n hx hb dL_holds_285 rfl (lv_at hl 0 rfl) ?_
                refine q_cV (As := []) (rest := []) ⟨hx, hb, hml, hown, hts⟩ (c_X6_spares D cy a σ kept nxt cnt T len pos ph le nu va ((rc, .inl (cy, 2, .inl fl)) :: (rv, .inl (cy, 42, .inl vf)) :: Z) ) (cwV 0 hts gL_holds_X6_spares rfl rfl rfl hd_X6_spares ⟨Nat.le_of_ble_eq_true rfl, Nat.le_of_ble_eq_true rfl⟩) hK hP 0 rfl rfl rfl hl.1 rfl (Nat.le_of_ble_eq_true rfl) ⟨Nat.zero_le _, Nat.zero_le _⟩ dL_holds_286 ?_
                refine lv_if_lt (tgt := 331) hx hb dL_holds_289 (by decide) (fun (c_289 : (σ 84) < 0) => absurd c_289 (sp_lo h_0.1)) (fun (c_289 : ¬ (σ 84) < 0) => ?_)
                refine lv_aload_n hx hb dL_holds_292 rfl (lv_at hl 0 rfl) ?_
                refine q_cV (As := []) (rest := []) ⟨hx, hb, hml, hown, hts⟩ (c_X6_spares D cy a σ kept nxt cnt T len pos ph le nu va ((rc, .inl (cy, 2, .inl fl)) :: (rv, .inl (cy, 42, .inl vf)) :: Z) ) (cwV 0 hts gL_holds_X6_spares rfl rfl rfl hd_X6_spares ⟨Nat.le_of_ble_eq_true rfl, Nat.le_of_ble_eq_true rfl⟩) hK hP 0 rfl rfl rfl hl.1 rfl (Nat.le_of_ble_eq_true rfl) ⟨Nat.zero_le _, Nat.zero_le _⟩ dL_holds_293 ?_
                refine lv_iconst (v := nI 5) hx hb dL_holds_296 rfl ?_
                refine lv_icmp_gt (tgt := 331) hx hb dL_holds_297 (by decide) (fun (c_297 : (5) < (σ 84)) => absurd c_297 (sp_hi h_0.1)) (fun (c_297 : ¬ (5) < (σ 84)) => ?_)
                refine lv_aload_n hx hb dL_holds_300 rfl (lv_at hl 0 rfl) ?_
                refine q_cV (As := []) (rest := []) ⟨hx, hb, hml, hown, hts⟩ (c_X6_balance D cy a σ kept nxt cnt T len pos ph le nu va ((rc, .inl (cy, 2, .inl fl)) :: (rv, .inl (cy, 42, .inl vf)) :: Z) ) (cwV 0 hts gL_holds_X6_balance rfl rfl rfl hd_X6_balance ⟨Nat.le_of_ble_eq_true rfl, Nat.le_of_ble_eq_true rfl⟩) hK hP 0 rfl rfl rfl hl.1 rfl (Nat.le_of_ble_eq_true rfl) ⟨Nat.zero_le _, Nat.zero_le _⟩ dL_holds_301 ?_
                refine lv_dconst0 hx hb dL_holds_304 ?_
                refine lv_dcmp hx hb dL_holds_305 ?_
                refine lv_if_lt (tgt := 331) hx hb dL_holds_306 (by decide) (fun (c_306 : (Op.cmpValue (FP.dcmp (bal σ) (FP.dconst0)) .l) < 0) => absurd c_306 (bal_0 (by omega) h_0.2.1)) (fun (c_306 : ¬ (Op.cmpValue (FP.dcmp (bal σ) (FP.dconst0)) .l) < 0) => ?_)
                refine lv_aload_n hx hb dL_holds_309 rfl (lv_at hl 0 rfl) ?_
                refine q_cV (As := []) (rest := []) ⟨hx, hb, hml, hown, hts⟩ (c_X6_balance D cy a σ kept nxt cnt T len pos ph le nu va ((rc, .inl (cy, 2, .inl fl)) :: (rv, .inl (cy, 42, .inl vf)) :: Z) ) (cwV 0 hts gL_holds_X6_balance rfl rfl rfl hd_X6_balance ⟨Nat.le_of_ble_eq_true rfl, Nat.le_of_ble_eq_true rfl⟩) hK hP 0 rfl rfl rfl hl.1 rfl (Nat.le_of_ble_eq_true rfl) ⟨Nat.zero_le _, Nat.zero_le _⟩ dL_holds_310 ?_
                refine lv_dconst1 hx hb dL_holds_313 ?_
                refine lv_dcmp hx hb dL_holds_314 ?_
                refine lv_if_gt (tgt := 331) hx hb dL_holds_315 (by decide) (fun (c_315 : 0 < (Op.cmpValue (FP.dcmp (bal σ) (FP.dconst1)) .g)) => absurd c_315 (bal_1 (by omega) h_0.2.1)) (fun (c_315 : ¬ 0 < (Op.cmpValue (FP.dcmp (bal σ) (FP.dconst1)) .g)) => ?_)
                refine lv_aload_n hx hb dL_holds_318 rfl (lv_at hl 0 rfl) ?_
                refine q_cV (As := []) (rest := []) ⟨hx, hb, hml, hown, hts⟩ (c_X6_worst D cy a σ kept nxt cnt T len pos ph le nu va ((rc, .inl (cy, 2, .inl fl)) :: (rv, .inl (cy, 42, .inl vf)) :: Z) ) (cwV 0 hts gL_holds_X6_worst rfl rfl rfl hd_X6_worst ⟨Nat.le_of_ble_eq_true rfl, Nat.le_of_ble_eq_true rfl⟩) hK hP 0 rfl rfl rfl hl.1 rfl (Nat.le_of_ble_eq_true rfl) ⟨Nat.zero_le _, Nat.zero_le _⟩ dL_holds_319 ?_
                refine lv_iload hx hb dL_holds_322 (lv_at hl 4 rfl) ?_
                refine lv_icmp_ne (tgt := 331) hx hb dL_holds_324 (by decide) (fun (c_324 : ¬ ((wst σ 7).1) = ((wst σ 7).1)) => absurd rfl c_324) (fun (c_324 : ((wst σ 7).1) = ((wst σ 7).1)) => ?_)
                refine lv_iconst (v := nI 1) hx hb dL_holds_327 rfl ?_
                refine lv_goto (tgt := 332) hx hb dL_holds_328 (by decide) ?_
                exact q_zret hx hb hr hlocks dL_holds_332 (rfl)
              · refine lv_aload_n hx hb dL_holds_278 rfl (lv_at hl 0 rfl) ?_
                refine q_cV (As := []) (rest := []) ⟨hx, hb, hml, hown, hts⟩ (c_X6_wrong D cy a σ kept nxt cnt T len pos ph le nu va ((rc, .inl (cy, 2, .inl fl)) :: (rv, .inl (cy, 42, .inl vf)) :: Z) ) (cwV 0 hts gL_holds_X6_wrong rfl rfl rfl hd_X6_wrong ⟨Nat.le_of_ble_eq_true rfl, Nat.le_of_ble_eq_true rfl⟩) hK hP 0 rfl rfl rfl hl.1 rfl (Nat.le_of_ble_eq_true rfl) ⟨Nat.zero_le _, Nat.zero_le _⟩ dL_holds_279 ?_
                refine q_ifneN (tgt := 331) hx hb dL_holds_282 (by decide) (by have := cw_21 σ; omega) (fun c_282 => absurd c_282 (by have := iv_w h_1 h_0 c_268 c_275; omega)) (fun c_282 => ?_)
                refine lv_aload_n hx hb dL_holds_285 rfl (lv_at hl 0 rfl) ?_
                refine q_cV (As := []) (rest := []) ⟨hx, hb, hml, hown, hts⟩ (c_X6_spares D cy a σ kept nxt cnt T len pos ph le nu va ((rc, .inl (cy, 2, .inl fl)) :: (rv, .inl (cy, 42, .inl vf)) :: Z) ) (cwV 0 hts gL_holds_X6_spares rfl rfl rfl hd_X6_spares ⟨Nat.le_of_ble_eq_true rfl, Nat.le_of_ble_eq_true rfl⟩) hK hP 0 rfl rfl rfl hl.1 rfl (Nat.le_of_ble_eq_true rfl) ⟨Nat.zero_le _, Nat.zero_le _⟩ dL_holds_286 ?_
                refine lv_if_lt (tgt := 331) hx hb dL_holds_289 (by decide) (fun (c_289 : (σ 84) < 0) => absurd c_289 (sp_lo h_0.1)) (fun (c_289 : ¬ (σ 84) < 0) => ?_)
                refine lv_aload_n hx hb dL_holds_292 rfl (lv_at hl 0 rfl) ?_
                refine q_cV (As := []) (rest := []) ⟨hx, hb, hml, hown, hts⟩ (c_X6_spares D cy a σ kept nxt cnt T len pos ph le nu va ((rc, .inl (cy, 2, .inl fl)) :: (rv, .inl (cy, 42, .inl vf)) :: Z) ) (cwV 0 hts gL_holds_X6_spares rfl rfl rfl hd_X6_spares ⟨Nat.le_of_ble_eq_true rfl, Nat.le_of_ble_eq_true rfl⟩) hK hP 0 rfl rfl rfl hl.1 rfl (Nat.le_of_ble_eq_true rfl) ⟨Nat.zero_le _, Nat.zero_le _⟩ dL_holds_293 ?_
                refine lv_iconst (v := nI 5) hx hb dL_holds_296 rfl ?_
                refine lv_icmp_gt (tgt := 331) hx hb dL_holds_297 (by decide) (fun (c_297 : (5) < (σ 84)) => absurd c_297 (sp_hi h_0.1)) (fun (c_297 : ¬ (5) < (σ 84)) => ?_)
                refine lv_aload_n hx hb dL_holds_300 rfl (lv_at hl 0 rfl) ?_
                refine q_cV (As := []) (rest := []) ⟨hx, hb, hml, hown, hts⟩ (c_X6_balance D cy a σ kept nxt cnt T len pos ph le nu va ((rc, .inl (cy, 2, .inl fl)) :: (rv, .inl (cy, 42, .inl vf)) :: Z) ) (cwV 0 hts gL_holds_X6_balance rfl rfl rfl hd_X6_balance ⟨Nat.le_of_ble_eq_true rfl, Nat.le_of_ble_eq_true rfl⟩) hK hP 0 rfl rfl rfl hl.1 rfl (Nat.le_of_ble_eq_true rfl) ⟨Nat.zero_le _, Nat.zero_le _⟩ dL_holds_301 ?_
                refine lv_dconst0 hx hb dL_holds_304 ?_
                refine lv_dcmp hx hb dL_holds_305 ?_
                refine lv_if_lt (tgt := 331) hx hb dL_holds_306 (by decide) (fun (c_306 : (Op.cmpValue (FP.dcmp (bal σ) (FP.dconst0)) .l) < 0) => absurd c_306 (bal_0 (by omega) h_0.2.1)) (fun (c_306 : ¬ (Op.cmpValue (FP.dcmp (bal σ) (FP.dconst0)) .l) < 0) => ?_)
                refine lv_aload_n hx hb dL_holds_309 rfl (lv_at hl 0 rfl) ?_
                refine q_cV (As := []) (rest := []) ⟨hx, hb, hml, hown, hts⟩ (c_X6_balance D cy a σ kept nxt cnt T len pos ph le nu va ((rc, .inl (cy, 2, .inl fl)) :: (rv, .inl (cy, 42, .inl vf)) :: Z) ) (cwV 0 hts gL_holds_X6_balance rfl rfl rfl hd_X6_balance ⟨Nat.le_of_ble_eq_true rfl, Nat.le_of_ble_eq_true rfl⟩) hK hP 0 rfl rfl rfl hl.1 rfl (Nat.le_of_ble_eq_true rfl) ⟨Nat.zero_le _, Nat.zero_le _⟩ dL_holds_310 ?_
                refine lv_dconst1 hx hb dL_holds_313 ?_
                refine lv_dcmp hx hb dL_holds_314 ?_
                refine lv_if_gt (tgt := 331) hx hb dL_holds_315 (by decide) (fun (c_315 : 0 < (Op.cmpValue (FP.dcmp (bal σ) (FP.dconst1)) .g)) => absurd c_315 (bal_1 (by omega) h_0.2.1)) (fun (c_315 : ¬ 0 < (Op.cmpValue (FP.dcmp (bal σ) (FP.dconst1)) .g)) => ?_)
                refine lv_aload_n hx hb dL_holds_318 rfl (lv_at hl 0 rfl) ?_
                refine q_cV (As := []) (rest := []) ⟨hx, hb, hml, hown, hts⟩ (c_X6_worst D cy a σ kept nxt cnt T len pos ph le nu va ((rc, .inl (cy, 2, .inl fl)) :: (rv, .inl (cy, 42, .inl vf)) :: Z) ) (cwV 0 hts gL_holds_X6_worst rfl rfl rfl hd_X6_worst ⟨Nat.le_of_ble_eq_true rfl, Nat.le_of_ble_eq_true rfl⟩) hK hP 0 rfl rfl rfl hl.1 rfl (Nat.le_of_ble_eq_true rfl) ⟨Nat.zero_le _, Nat.zero_le _⟩ dL_holds_319 ?_
                refine lv_iload hx hb dL_holds_322 (lv_at hl 4 rfl) ?_
                refine lv_icmp_ne (tgt := 331) hx hb dL_holds_324 (by decide) (fun (c_324 : ¬ ((wst σ 7).1) = ((wst σ 7).1)) => absurd rfl c_324) (fun (c_324 : ((wst σ 7).1) = ((wst σ 7).1)) => ?_)
                refine lv_iconst (v := nI 1) hx hb dL_holds_327 rfl ?_
                refine lv_goto (tgt := 332) hx hb dL_holds_328 (by decide) ?_
                exact q_zret hx hb hr hlocks dL_holds_332 (rfl)
          · refine lv_iload_n hx hb dL_holds_253 rfl (lv_at hl 3 rfl) ?_
            refine q_ifneN (tgt := 331) hx hb dL_holds_254 (by decide) (by have : loS σ 42 = cl σ := rfl; have := cl_42 σ; omega) (fun c_254 => absurd c_254 (by have : loS σ 42 = cl σ := rfl; have := (iv_c h_0 c_250).1; omega)) (fun c_254 => ?_)
            refine lv_aload_n hx hb dL_holds_257 rfl (lv_at hl 0 rfl) ?_
            refine q_cV (As := []) (rest := []) ⟨hx, hb, hml, hown, hts⟩ (c_X6_losses D cy a σ kept nxt cnt T len pos ph le nu va ((rc, .inl (cy, 2, .inl fl)) :: (rv, .inl (cy, 42, .inl vf)) :: Z) ) (cwV 0 hts gL_holds_X6_losses rfl rfl rfl hd_X6_losses ⟨Nat.le_of_ble_eq_true rfl, Nat.le_of_ble_eq_true rfl⟩) hK hP 0 rfl rfl rfl hl.1 rfl (Nat.le_of_ble_eq_true rfl) ⟨Nat.zero_le _, Nat.zero_le _⟩ dL_holds_258 ?_
            refine lv_if_ne (tgt := 331) hx hb dL_holds_261 (by decide) (fun (c_261 : ¬ (σ 85) = 0) => absurd (iv_c h_0 c_250).2 c_261) (fun (c_261 : (σ 85) = 0) => ?_)
            refine lv_aload_n hx hb dL_holds_264 rfl (lv_at hl 1 rfl) ?_
            refine lv_iconst (v := nI 0) hx hb dL_holds_265 rfl ?_
            refine q_iald hx hb hK hP 18 rfl (by omega) (by omega) dL_holds_266 ?_
            refine lv_iconst (v := nI 1) hx hb dL_holds_267 rfl ?_
            refine lv_icmp_eq (tgt := 285) hx hb dL_holds_268 (by decide) (fun (c_268 : (fl (0)) = (1)) => ?_) (fun (c_268 : ¬ (fl (0)) = (1)) => ?_)
            · refine lv_aload_n hx hb dL_holds_285 rfl (lv_at hl 0 rfl) ?_
              refine q_cV (As := []) (rest := []) ⟨hx, hb, hml, hown, hts⟩ (c_X6_spares D cy a σ kept nxt cnt T len pos ph le nu va ((rc, .inl (cy, 2, .inl fl)) :: (rv, .inl (cy, 42, .inl vf)) :: Z) ) (cwV 0 hts gL_holds_X6_spares rfl rfl rfl hd_X6_spares ⟨Nat.le_of_ble_eq_true rfl, Nat.le_of_ble_eq_true rfl⟩) hK hP 0 rfl rfl rfl hl.1 rfl (Nat.le_of_ble_eq_true rfl) ⟨Nat.zero_le _, Nat.zero_le _⟩ dL_holds_286 ?_
              refine lv_if_lt (tgt := 331) hx hb dL_holds_289 (by decide) (fun (c_289 : (σ 84) < 0) => absurd c_289 (sp_lo h_0.1)) (fun (c_289 : ¬ (σ 84) < 0) => ?_)
              refine lv_aload_n hx hb dL_holds_292 rfl (lv_at hl 0 rfl) ?_
              refine q_cV (As := []) (rest := []) ⟨hx, hb, hml, hown, hts⟩ (c_X6_spares D cy a σ kept nxt cnt T len pos ph le nu va ((rc, .inl (cy, 2, .inl fl)) :: (rv, .inl (cy, 42, .inl vf)) :: Z) ) (cwV 0 hts gL_holds_X6_spares rfl rfl rfl hd_X6_spares ⟨Nat.le_of_ble_eq_true rfl, Nat.le_of_ble_eq_true rfl⟩) hK hP 0 rfl rfl rfl hl.1 rfl (Nat.le_of_ble_eq_true rfl) ⟨Nat.zero_le _, Nat.zero_le _⟩ dL_holds_293 ?_
              refine lv_iconst (v := nI 5) hx hb dL_holds_296 rfl ?_
              refine lv_icmp_gt (tgt := 331) hx hb dL_holds_297 (by decide) (fun (c_297 : (5) < (σ 84)) => absurd c_297 (sp_hi h_0.1)) (fun (c_297 : ¬ (5) < (σ 84)) => ?_)
              refine lv_aload_n hx hb dL_holds_300 rfl (lv_at hl 0 rfl) ?_
              refine q_cV (As := []) (rest := []) ⟨hx, hb, hml, hown, hts⟩ (c_X6_balance D cy a σ kept nxt cnt T len pos ph le nu va ((rc, .inl (cy, 2, .inl fl)) :: (rv, .inl (cy, 42, .inl vf)) :: Z) ) (cwV 0 hts gL_holds_X6_balance rfl rfl rfl hd_X6_balance ⟨Nat.le_of_ble_eq_true rfl, Nat.le_of_ble_eq_true rfl⟩) hK hP 0 rfl rfl rfl hl.1 rfl (Nat.le_of_ble_eq_true rfl) ⟨Nat.zero_le _, Nat.zero_le _⟩ dL_holds_301 ?_
              refine lv_dconst0 hx hb dL_holds_304 ?_
              refine lv_dcmp hx hb dL_holds_305 ?_
              refine lv_if_lt (tgt := 331) hx hb dL_holds_306 (by decide) (fun (c_306 : (Op.cmpValue (FP.dcmp (bal σ) (FP.dconst0)) .l) < 0) => absurd c_306 (bal_0 (by omega) h_0.2.1)) (fun (c_306 : ¬ (Op.cmpValue (FP.dcmp (bal σ) (FP.dconst0)) .l) < 0) => ?_)
              refine lv_aload_n hx hb dL_holds_309 rfl (lv_at hl 0 rfl) ?_
              refine q_cV (As := []) (rest := []) ⟨hx, hb, hml, hown, hts⟩ (c_X6_balance D cy a σ kept nxt cnt T len pos ph le nu va ((rc, .inl (cy, 2, .inl fl)) :: (rv, .inl (cy, 42, .inl vf)) :: Z) ) (cwV 0 hts gL_holds_X6_balance rfl rfl rfl hd_X6_balance ⟨Nat.le_of_ble_eq_true rfl, Nat.le_of_ble_eq_true rfl⟩) hK hP 0 rfl rfl rfl hl.1 rfl (Nat.le_of_ble_eq_true rfl) ⟨Nat.zero_le _, Nat.zero_le _⟩ dL_holds_310 ?_
              refine lv_dconst1 hx hb dL_holds_313 ?_
              refine lv_dcmp hx hb dL_holds_314 ?_
              refine lv_if_gt (tgt := 331) hx hb dL_holds_315 (by decide) (fun (c_315 : 0 < (Op.cmpValue (FP.dcmp (bal σ) (FP.dconst1)) .g)) => absurd c_315 (bal_1 (by omega) h_0.2.1)) (fun (c_315 : ¬ 0 < (Op.cmpValue (FP.dcmp (bal σ) (FP.dconst1)) .g)) => ?_)
              refine lv_aload_n hx hb dL_holds_318 rfl (lv_at hl 0 rfl) ?_
              refine q_cV (As := []) (rest := []) ⟨hx, hb, hml, hown, hts⟩ (c_X6_worst D cy a σ kept nxt cnt T len pos ph le nu va ((rc, .inl (cy, 2, .inl fl)) :: (rv, .inl (cy, 42, .inl vf)) :: Z) ) (cwV 0 hts gL_holds_X6_worst rfl rfl rfl hd_X6_worst ⟨Nat.le_of_ble_eq_true rfl, Nat.le_of_ble_eq_true rfl⟩) hK hP 0 rfl rfl rfl hl.1 rfl (Nat.le_of_ble_eq_true rfl) ⟨Nat.zero_le _, Nat.zero_le _⟩ dL_holds_319 ?_
              refine lv_iload hx hb dL_holds_322 (lv_at hl 4 rfl) ?_
              refine lv_icmp_ne (tgt := 331) hx hb dL_holds_324 (by decide) (fun (c_324 : ¬ ((wst σ 7).1) = ((wst σ 7).1)) => absurd rfl c_324) (fun (c_324 : ((wst σ 7).1) = ((wst σ 7).1)) => ?_)
              refine lv_iconst (v := nI 1) hx hb dL_holds_327 rfl ?_
              refine lv_goto (tgt := 332) hx hb dL_holds_328 (by decide) ?_
              exact q_zret hx hb hr hlocks dL_holds_332 (rfl)
            · refine lv_aload_n hx hb dL_holds_271 rfl (lv_at hl 0 rfl) ?_
              refine q_cV (As := []) (rest := []) ⟨hx, hb, hml, hown, hts⟩ (c_X6_losses D cy a σ kept nxt cnt T len pos ph le nu va ((rc, .inl (cy, 2, .inl fl)) :: (rv, .inl (cy, 42, .inl vf)) :: Z) ) (cwV 0 hts gL_holds_X6_losses rfl rfl rfl hd_X6_losses ⟨Nat.le_of_ble_eq_true rfl, Nat.le_of_ble_eq_true rfl⟩) hK hP 0 rfl rfl rfl hl.1 rfl (Nat.le_of_ble_eq_true rfl) ⟨Nat.zero_le _, Nat.zero_le _⟩ dL_holds_272 ?_
              refine lv_if_gt (tgt := 285) hx hb dL_holds_275 (by decide) (fun (c_275 : 0 < (σ 85)) => ?_) (fun (c_275 : ¬ 0 < (σ 85)) => ?_)
              · refine lv_aload_n hx hb dL_holds_285 rfl (lv_at hl 0 rfl) ?_
                refine q_cV (As := []) (rest := []) ⟨hx, hb, hml, hown, hts⟩ (c_X6_spares D cy a σ kept nxt cnt T len pos ph le nu va ((rc, .inl (cy, 2, .inl fl)) :: (rv, .inl (cy, 42, .inl vf)) :: Z) ) (cwV 0 hts gL_holds_X6_spares rfl rfl rfl hd_X6_spares ⟨Nat.le_of_ble_eq_true rfl, Nat.le_of_ble_eq_true rfl⟩) hK hP 0 rfl rfl rfl hl.1 rfl (Nat.le_of_ble_eq_true rfl) ⟨Nat.zero_le _, Nat.zero_le _⟩ dL_holds_286 ?_
                refine lv_if_lt (tgt := 331) hx hb dL_holds_289 (by decide) (fun (c_289 : (σ 84) < 0) => absurd c_289 (sp_lo h_0.1)) (fun (c_289 : ¬ (σ 84) < 0) => ?_)
                refine lv_aload_n hx hb dL_holds_292 rfl (lv_at hl 0 rfl) ?_
                refine q_cV (As := []) (rest := []) ⟨hx, hb, hml, hown, hts⟩ (c_X6_spares D cy a σ kept nxt cnt T len pos ph le nu va ((rc, .inl (cy, 2, .inl fl)) :: (rv, .inl (cy, 42, .inl vf)) :: Z) ) (cwV 0 hts gL_holds_X6_spares rfl rfl rfl hd_X6_spares ⟨Nat.le_of_ble_eq_true rfl, Nat.le_of_ble_eq_true rfl⟩) hK hP 0 rfl rfl rfl hl.1 rfl (Nat.le_of_ble_eq_true rfl) ⟨Nat.zero_le _, Nat.zero_le _⟩ dL_holds_293 ?_
                refine lv_iconst (v := nI 5) hx hb dL_holds_296 rfl ?_
                refine lv_icmp_gt (tgt := 331) hx hb dL_holds_297 (by decide) (fun (c_297 : (5) < (σ 84)) => absurd c_297 (sp_hi h_0.1)) (fun (c_297 : ¬ (5) < (σ 84)) => ?_)
                refine lv_aload_n hx hb dL_holds_300 rfl (lv_at hl 0 rfl) ?_
                refine q_cV (As := []) (rest := []) ⟨hx, hb, hml, hown, hts⟩ (c_X6_balance D cy a σ kept nxt cnt T len pos ph le nu va ((rc, .inl (cy, 2, .inl fl)) :: (rv, .inl (cy, 42, .inl vf)) :: Z) ) (cwV 0 hts gL_holds_X6_balance rfl rfl rfl hd_X6_balance ⟨Nat.le_of_ble_eq_true rfl, Nat.le_of_ble_eq_true rfl⟩) hK hP 0 rfl rfl rfl hl.1 rfl (Nat.le_of_ble_eq_true rfl) ⟨Nat.zero_le _, Nat.zero_le _⟩ dL_holds_301 ?_
                refine lv_dconst0 hx hb dL_holds_304 ?_
                refine lv_dcmp hx hb dL_holds_305 ?_
                refine lv_if_lt (tgt := 331) hx hb dL_holds_306 (by decide) (fun (c_306 : (Op.cmpValue (FP.dcmp (bal σ) (FP.dconst0)) .l) < 0) => absurd c_306 (bal_0 (by omega) h_0.2.1)) (fun (c_306 : ¬ (Op.cmpValue (FP.dcmp (bal σ) (FP.dconst0)) .l) < 0) => ?_)
                refine lv_aload_n hx hb dL_holds_309 rfl (lv_at hl 0 rfl) ?_
                refine q_cV (As := []) (rest := []) ⟨hx, hb, hml, hown, hts⟩ (c_X6_balance D cy a σ kept nxt cnt T len pos ph le nu va ((rc, .inl (cy, 2, .inl fl)) :: (rv, .inl (cy, 42, .inl vf)) :: Z) ) (cwV 0 hts gL_holds_X6_balance rfl rfl rfl hd_X6_balance ⟨Nat.le_of_ble_eq_true rfl, Nat.le_of_ble_eq_true rfl⟩) hK hP 0 rfl rfl rfl hl.1 rfl (Nat.le_of_ble_eq_true rfl) ⟨Nat.zero_le _, Nat.zero_le _⟩ dL_holds_310 ?_
                refine lv_dconst1 hx hb dL_holds_313 ?_
                refine lv_dcmp hx hb dL_holds_314 ?_
                refine lv_if_gt (tgt := 331) hx hb dL_holds_315 (by decide) (fun (c_315 : 0 < (Op.cmpValue (FP.dcmp (bal σ) (FP.dconst1)) .g)) => absurd c_315 (bal_1 (by omega) h_0.2.1)) (fun (c_315 : ¬ 0 < (Op.cmpValue (FP.dcmp (bal σ) (FP.dconst1)) .g)) => ?_)
                refine lv_aload_n hx hb dL_holds_318 rfl (lv_at hl 0 rfl) ?_
                refine q_cV (As := []) (rest := []) ⟨hx, hb, hml, hown, hts⟩ (c_X6_worst D cy a σ kept nxt cnt T len pos ph le nu va ((rc, .inl (cy, 2, .inl fl)) :: (rv, .inl (cy, 42, .inl vf)) :: Z) ) (cwV 0 hts gL_holds_X6_worst rfl rfl rfl hd_X6_worst ⟨Nat.le_of_ble_eq_true rfl, Nat.le_of_ble_eq_true rfl⟩) hK hP 0 rfl rfl rfl hl.1 rfl (Nat.le_of_ble_eq_true rfl) ⟨Nat.zero_le _, Nat.zero_le _⟩ dL_holds_319 ?_
                refine lv_iload hx hb dL_holds_322 (lv_at hl 4 rfl) ?_
                refine lv_icmp_ne (tgt := 331) hx hb dL_holds_324 (by decide) (fun (c_324 : ¬ ((wst σ 7).1) = ((wst σ 7).1)) => absurd rfl c_324) (fun (c_324 : ((wst σ 7).1) = ((wst σ 7).1)) => ?_)
                refine lv_iconst (v := nI 1) hx hb dL_holds_327 rfl ?_
                refine lv_goto (tgt := 332) hx hb dL_holds_328 (by decide) ?_
                exact q_zret hx hb hr hlocks dL_holds_332 (rfl)
              · refine lv_aload_n hx hb dL_holds_278 rfl (lv_at hl 0 rfl) ?_
                refine q_cV (As := []) (rest := []) ⟨hx, hb, hml, hown, hts⟩ (c_X6_wrong D cy a σ kept nxt cnt T len pos ph le nu va ((rc, .inl (cy, 2, .inl fl)) :: (rv, .inl (cy, 42, .inl vf)) :: Z) ) (cwV 0 hts gL_holds_X6_wrong rfl rfl rfl hd_X6_wrong ⟨Nat.le_of_ble_eq_true rfl, Nat.le_of_ble_eq_true rfl⟩) hK hP 0 rfl rfl rfl hl.1 rfl (Nat.le_of_ble_eq_true rfl) ⟨Nat.zero_le _, Nat.zero_le _⟩ dL_holds_279 ?_
                refine q_ifneN (tgt := 331) hx hb dL_holds_282 (by decide) (by have := cw_21 σ; omega) (fun c_282 => absurd c_282 (by have := iv_w h_1 h_0 c_268 c_275; omega)) (fun c_282 => ?_)
                refine lv_aload_n hx hb dL_holds_285 rfl (lv_at hl 0 rfl) ?_
                refine q_cV (As := []) (rest := []) ⟨hx, hb, hml, hown, hts⟩ (c_X6_spares D cy a σ kept nxt cnt T len pos ph le nu va ((rc, .inl (cy, 2, .inl fl)) :: (rv, .inl (cy, 42, .inl vf)) :: Z) ) (cwV 0 hts gL_holds_X6_spares rfl rfl rfl hd_X6_spares ⟨Nat.le_of_ble_eq_true rfl, Nat.le_of_ble_eq_true rfl⟩) hK hP 0 rfl rfl rfl hl.1 rfl (Nat.le_of_ble_eq_true rfl) ⟨Nat.zero_le _, Nat.zero_le _⟩ dL_holds_286 ?_
                refine lv_if_lt (tgt := 331) hx hb dL_holds_289 (by decide) (fun (c_289 : (σ 84) < 0) => absurd c_289 (sp_lo h_0.1)) (fun (c_289 : ¬ (σ 84) < 0) => ?_)
                refine lv_aload_n hx hb dL_holds_292 rfl (lv_at hl 0 rfl) ?_
                refine q_cV (As := []) (rest := []) ⟨hx, hb, hml, hown, hts⟩ (c_X6_spares D cy a σ kept nxt cnt T len pos ph le nu va ((rc, .inl (cy, 2, .inl fl)) :: (rv, .inl (cy, 42, .inl vf)) :: Z) ) (cwV 0 hts gL_holds_X6_spares rfl rfl rfl hd_X6_spares ⟨Nat.le_of_ble_eq_true rfl, Nat.le_of_ble_eq_true rfl⟩) hK hP 0 rfl rfl rfl hl.1 rfl (Nat.le_of_ble_eq_true rfl) ⟨Nat.zero_le _, Nat.zero_le _⟩ dL_holds_293 ?_
                refine lv_iconst (v := nI 5) hx hb dL_holds_296 rfl ?_
                refine lv_icmp_gt (tgt := 331) hx hb dL_holds_297 (by decide) (fun (c_297 : (5) < (σ 84)) => absurd c_297 (sp_hi h_0.1)) (fun (c_297 : ¬ (5) < (σ 84)) => ?_)
                refine lv_aload_n hx hb dL_holds_300 rfl (lv_at hl 0 rfl) ?_
                refine q_cV (As := []) (rest := []) ⟨hx, hb, hml, hown, hts⟩ (c_X6_balance D cy a σ kept nxt cnt T len pos ph le nu va ((rc, .inl (cy, 2, .inl fl)) :: (rv, .inl (cy, 42, .inl vf)) :: Z) ) (cwV 0 hts gL_holds_X6_balance rfl rfl rfl hd_X6_balance ⟨Nat.le_of_ble_eq_true rfl, Nat.le_of_ble_eq_true rfl⟩) hK hP 0 rfl rfl rfl hl.1 rfl (Nat.le_of_ble_eq_true rfl) ⟨Nat.zero_le _, Nat.zero_le _⟩ dL_holds_301 ?_
                refine lv_dconst0 hx hb dL_holds_304 ?_
                refine lv_dcmp hx hb dL_holds_305 ?_
                refine lv_if_lt (tgt := 331) hx hb dL_holds_306 (by decide) (fun (c_306 : (Op.cmpValue (FP.dcmp (bal σ) (FP.dconst0)) .l) < 0) => absurd c_306 (bal_0 (by omega) h_0.2.1)) (fun (c_306 : ¬ (Op.cmpValue (FP.dcmp (bal σ) (FP.dconst0)) .l) < 0) => ?_)
                refine lv_aload_n hx hb dL_holds_309 rfl (lv_at hl 0 rfl) ?_
                refine q_cV (As := []) (rest := []) ⟨hx, hb, hml, hown, hts⟩ (c_X6_balance D cy a σ kept nxt cnt T len pos ph le nu va ((rc, .inl (cy, 2, .inl fl)) :: (rv, .inl (cy, 42, .inl vf)) :: Z) ) (cwV 0 hts gL_holds_X6_balance rfl rfl rfl hd_X6_balance ⟨Nat.le_of_ble_eq_true rfl, Nat.le_of_ble_eq_true rfl⟩) hK hP 0 rfl rfl rfl hl.1 rfl (Nat.le_of_ble_eq_true rfl) ⟨Nat.zero_le _, Nat.zero_le _⟩ dL_holds_310 ?_
                refine lv_dconst1 hx hb dL_holds_313 ?_
                refine lv_dcmp hx hb dL_holds_314 ?_
                refine lv_if_gt (tgt := 331) hx hb dL_holds_315 (by decide) (fun (c_315 : 0 < (Op.cmpValue (FP.dcmp (bal σ) (FP.dconst1)) .g)) => absurd c_315 (bal_1 (by omega) h_0.2.1)) (fun (c_315 : ¬ 0 < (Op.cmpValue (FP.dcmp (bal σ) (FP.dconst1)) .g)) => ?_)
                refine lv_aload_n hx hb dL_holds_318 rfl (lv_at hl 0 rfl) ?_
                refine q_cV (As := []) (rest := []) ⟨hx, hb, hml, hown, hts⟩ (c_X6_worst D cy a σ kept nxt cnt T len pos ph le nu va ((rc, .inl (cy, 2, .inl fl)) :: (rv, .inl (cy, 42, .inl vf)) :: Z) ) (cwV 0 hts gL_holds_X6_worst rfl rfl rfl hd_X6_worst ⟨Nat.le_of_ble_eq_true rfl, Nat.le_of_ble_eq_true rfl⟩) hK hP 0 rfl rfl rfl hl.1 rfl (Nat.le_of_ble_eq_true rfl) ⟨Nat.zero_le _, Nat.zero_le _⟩ dL_holds_319 ?_
                refine lv_iload hx hb dL_holds_322 (lv_at hl 4 rfl) ?_
                refine lv_icmp_ne (tgt := 331) hx hb dL_holds_324 (by decide) (fun (c_324 : ¬ ((wst σ 7).1) = ((wst σ 7).1)) => absurd rfl c_324) (fun (c_324 : ((wst σ 7).1) = ((wst σ 7).1)) => ?_)
                refine lv_iconst (v := nI 1) hx hb dL_holds_327 rfl ?_
                refine lv_goto (tgt := 332) hx hb dL_holds_328 (by decide) ?_
                exact q_zret hx hb hr hlocks dL_holds_332 (rfl)
        | succ j_ ih_i =>
          intro i hn_i ls hl
          refine lv_iload hx hb dL_holds_180 (lv_at hl 5 rfl) ?_
          refine lv_bipush (v := nI 42) hx hb dL_holds_182 rfl ?_
          refine q_geN (tgt := 238) hx hb dL_holds_184 (by decide) (by omega) (by omega) (fun c_184 => absurd c_184 (by omega)) (fun c_184 => ?_)
          refine lv_iload_n hx hb dL_holds_187 rfl (lv_at hl 3 rfl) ?_
          refine lv_aload_n hx hb dL_holds_188 rfl (lv_at hl 0 rfl) ?_
          refine lv_iload hx hb dL_holds_189 (lv_at hl 5 rfl) ?_
          refine q_cV (As := [.int (nI (i))]) (rest := [.int (nI (loS σ i))]) ⟨hx, hb, hml, hown, hts⟩ (k_X6_peek D cy a σ kept nxt cnt T len pos ph le nu va ((rc, .inl (cy, 2, .inl fl)) :: (rv, .inl (cy, 42, .inl vf)) :: Z) (i) (by omega)) (cwV 1 hts gL_holds_X6_peek rfl rfl rfl hd_X6_peek ⟨Nat.le_of_ble_eq_true rfl, Nat.le_of_ble_eq_true rfl⟩) hK hP 0 rfl rfl rfl hl.1 rfl (Nat.le_of_ble_eq_true rfl) ⟨Nat.zero_le _, Nat.zero_le _⟩ dL_holds_191 ?_
          refine lv_iconst (v := -1) hx hb dL_holds_194 rfl ?_
          refine lv_icmp_ne (tgt := 202) hx hb dL_holds_195 (by decide) (fun (c_195 : ¬ (kn σ (ad i)) = (-1)) => ?_) (fun (c_195 : (kn σ (ad i)) = (-1)) => ?_)
          · refine lv_iconst (v := nI 0) hx hb dL_holds_202 rfl ?_
            refine q_addN hx hb dL_holds_203 ?_
            refine lv_istore_n (lv' := [(3, .int (nI ((loS σ i) + 0))), (0, .ref (a 0)), (1, .ref (rc)), (2, .ref (rv)), (5, .int ((wst σ 7).1)), (6, .int (nI (i)))]) hx hb dL_holds_204 rfl hl (by decide) rfl (fun ls hl => ?_)
            have e_c : nI ((loS σ i) + 0) = nI (loS σ (i + 1)) := congrArg nI (lo_0 (by omega) c_195)
            have hl : lv_has ls 9 [(3, .int (nI (loS σ (i + 1)))), (0, .ref (a 0)), (1, .ref (rc)), (2, .ref (rv)), (5, .int ((wst σ 7).1)), (6, .int (nI (i)))] := by rw [← e_c]; exact hl
            refine lv_aload_n hx hb dL_holds_205 rfl (lv_at hl 2 rfl) ?_
            refine lv_iconst (v := nI 0) hx hb dL_holds_206 rfl ?_
            refine q_iald hx hb hK hP 18 rfl (by omega) (by omega) dL_holds_207 ?_
            refine lv_if_ne (tgt := 232) hx hb dL_holds_208 (by decide) (fun (c_208 : ¬ (fl (0)) = 0) => ?_) (fun (c_208 : (fl (0)) = 0) => ?_)
            · refine lv_iinc (v := nI (i + 1)) (lv' := [(6, .int (nI (i + 1))), (3, .int (nI (loS σ (i + 1)))), (0, .ref (a 0)), (1, .ref (rc)), (2, .ref (rv)), (5, .int ((wst σ 7).1))]) hx hb dL_holds_232 hl (k := 5) rfl (show nI (i) + nI 1 = nI (i + 1) from nI_add _ _) (by decide) rfl (fun ls hl => ?_)
              refine lv_goto (tgt := 180) hx hb dL_holds_235 (by decide) ?_
              exact ih_i (i + 1) (by omega) _ (lv_sub hl [2, 3, 4, 1, 5, 0] rfl)
            · refine lv_aload_n hx hb dL_holds_211 rfl (lv_at hl 2 rfl) ?_
              refine lv_iconst (v := nI 1) hx hb dL_holds_212 rfl ?_
              refine q_iald hx hb hK hP 18 rfl (by omega) (by omega) dL_holds_213 ?_
              refine lv_if_ne (tgt := 232) hx hb dL_holds_214 (by decide) (fun (c_214 : ¬ (fl (1)) = 0) => ?_) (fun (c_214 : (fl (1)) = 0) => ?_)
              · refine lv_iinc (v := nI (i + 1)) (lv' := [(6, .int (nI (i + 1))), (3, .int (nI (loS σ (i + 1)))), (0, .ref (a 0)), (1, .ref (rc)), (2, .ref (rv)), (5, .int ((wst σ 7).1))]) hx hb dL_holds_232 hl (k := 5) rfl (show nI (i) + nI 1 = nI (i + 1) from nI_add _ _) (by decide) rfl (fun ls hl => ?_)
                refine lv_goto (tgt := 180) hx hb dL_holds_235 (by decide) ?_
                exact ih_i (i + 1) (by omega) _ (lv_sub hl [2, 3, 4, 1, 5, 0] rfl)
              · refine lv_aload_n hx hb dL_holds_217 rfl (lv_at hl 1 rfl) ?_
                refine lv_iload hx hb dL_holds_218 (lv_at hl 5 rfl) ?_
                refine q_cV (As := [.int (nI (i))]) (rest := []) ⟨hx, hb, hml, hown, hts⟩ (k_X6_peek D cy a σ kept nxt cnt T len pos ph le nu va ((rc, .inl (cy, 2, .inl fl)) :: (rv, .inl (cy, 42, .inl vf)) :: Z) (i) (by omega)) (cwV 1 hts gL_holds_X6_peek rfl rfl rfl hd_X6_peek ⟨Nat.le_of_ble_eq_true rfl, Nat.le_of_ble_eq_true rfl⟩) hK hP 0 rfl rfl rfl hl.1 rfl (Nat.le_of_ble_eq_true rfl) ⟨Nat.zero_le _, Nat.zero_le _⟩ dL_holds_220 ?_
                refine lv_aload_n hx hb dL_holds_223 rfl (lv_at hl 3 rfl) ?_
                refine lv_iload hx hb dL_holds_224 (lv_at hl 5 rfl) ?_
                refine q_iald hx hb hK hP 19 rfl (by omega) (by omega) dL_holds_226 ?_
                refine lv_icmp_eq (tgt := 232) hx hb dL_holds_227 (by decide) (fun (c_227 : (kn σ (ad i)) = (vf (i))) => ?_) (fun (c_227 : ¬ (kn σ (ad i)) = (vf (i))) => absurd (h_0.2.2.2.2.2.2 c_208 c_214 i (by omega)) c_227)
                refine lv_iinc (v := nI (i + 1)) (lv' := [(6, .int (nI (i + 1))), (3, .int (nI (loS σ (i + 1)))), (0, .ref (a 0)), (1, .ref (rc)), (2, .ref (rv)), (5, .int ((wst σ 7).1))]) hx hb dL_holds_232 hl (k := 5) rfl (show nI (i) + nI 1 = nI (i + 1) from nI_add _ _) (by decide) rfl (fun ls hl => ?_)
                refine lv_goto (tgt := 180) hx hb dL_holds_235 (by decide) ?_
                exact ih_i (i + 1) (by omega) _ (lv_sub hl [2, 3, 4, 1, 5, 0] rfl)
          · refine lv_iconst (v := nI 1) hx hb dL_holds_198 rfl ?_
            refine lv_goto (tgt := 203) hx hb dL_holds_199 (by decide) ?_
            refine q_addN hx hb dL_holds_203 ?_
            refine lv_istore_n (lv' := [(3, .int (nI ((loS σ i) + 1))), (0, .ref (a 0)), (1, .ref (rc)), (2, .ref (rv)), (5, .int ((wst σ 7).1)), (6, .int (nI (i)))]) hx hb dL_holds_204 rfl hl (by decide) rfl (fun ls hl => ?_)
            have e_c : nI ((loS σ i) + 1) = nI (loS σ (i + 1)) := congrArg nI (lo_1 h_0.1 (by omega) c_195)
            have hl : lv_has ls 9 [(3, .int (nI (loS σ (i + 1)))), (0, .ref (a 0)), (1, .ref (rc)), (2, .ref (rv)), (5, .int ((wst σ 7).1)), (6, .int (nI (i)))] := by rw [← e_c]; exact hl
            refine lv_aload_n hx hb dL_holds_205 rfl (lv_at hl 2 rfl) ?_
            refine lv_iconst (v := nI 0) hx hb dL_holds_206 rfl ?_
            refine q_iald hx hb hK hP 18 rfl (by omega) (by omega) dL_holds_207 ?_
            refine lv_if_ne (tgt := 232) hx hb dL_holds_208 (by decide) (fun (c_208 : ¬ (fl (0)) = 0) => ?_) (fun (c_208 : (fl (0)) = 0) => ?_)
            · refine lv_iinc (v := nI (i + 1)) (lv' := [(6, .int (nI (i + 1))), (3, .int (nI (loS σ (i + 1)))), (0, .ref (a 0)), (1, .ref (rc)), (2, .ref (rv)), (5, .int ((wst σ 7).1))]) hx hb dL_holds_232 hl (k := 5) rfl (show nI (i) + nI 1 = nI (i + 1) from nI_add _ _) (by decide) rfl (fun ls hl => ?_)
              refine lv_goto (tgt := 180) hx hb dL_holds_235 (by decide) ?_
              exact ih_i (i + 1) (by omega) _ (lv_sub hl [2, 3, 4, 1, 5, 0] rfl)
            · refine lv_aload_n hx hb dL_holds_211 rfl (lv_at hl 2 rfl) ?_
              refine lv_iconst (v := nI 1) hx hb dL_holds_212 rfl ?_
              refine q_iald hx hb hK hP 18 rfl (by omega) (by omega) dL_holds_213 ?_
              refine lv_if_ne (tgt := 232) hx hb dL_holds_214 (by decide) (fun (c_214 : ¬ (fl (1)) = 0) => ?_) (fun (c_214 : (fl (1)) = 0) => ?_)
              · refine lv_iinc (v := nI (i + 1)) (lv' := [(6, .int (nI (i + 1))), (3, .int (nI (loS σ (i + 1)))), (0, .ref (a 0)), (1, .ref (rc)), (2, .ref (rv)), (5, .int ((wst σ 7).1))]) hx hb dL_holds_232 hl (k := 5) rfl (show nI (i) + nI 1 = nI (i + 1) from nI_add _ _) (by decide) rfl (fun ls hl => ?_)
                refine lv_goto (tgt := 180) hx hb dL_holds_235 (by decide) ?_
                exact ih_i (i + 1) (by omega) _ (lv_sub hl [2, 3, 4, 1, 5, 0] rfl)
              · refine lv_aload_n hx hb dL_holds_217 rfl (lv_at hl 1 rfl) ?_
                refine lv_iload hx hb dL_holds_218 (lv_at hl 5 rfl) ?_
                refine q_cV (As := [.int (nI (i))]) (rest := []) ⟨hx, hb, hml, hown, hts⟩ (k_X6_peek D cy a σ kept nxt cnt T len pos ph le nu va ((rc, .inl (cy, 2, .inl fl)) :: (rv, .inl (cy, 42, .inl vf)) :: Z) (i) (by omega)) (cwV 1 hts gL_holds_X6_peek rfl rfl rfl hd_X6_peek ⟨Nat.le_of_ble_eq_true rfl, Nat.le_of_ble_eq_true rfl⟩) hK hP 0 rfl rfl rfl hl.1 rfl (Nat.le_of_ble_eq_true rfl) ⟨Nat.zero_le _, Nat.zero_le _⟩ dL_holds_220 ?_
                refine lv_aload_n hx hb dL_holds_223 rfl (lv_at hl 3 rfl) ?_
                refine lv_iload hx hb dL_holds_224 (lv_at hl 5 rfl) ?_
                refine q_iald hx hb hK hP 19 rfl (by omega) (by omega) dL_holds_226 ?_
                refine lv_icmp_eq (tgt := 232) hx hb dL_holds_227 (by decide) (fun (c_227 : (kn σ (ad i)) = (vf (i))) => ?_) (fun (c_227 : ¬ (kn σ (ad i)) = (vf (i))) => absurd (h_0.2.2.2.2.2.2 c_208 c_214 i (by omega)) c_227)
                refine lv_iinc (v := nI (i + 1)) (lv' := [(6, .int (nI (i + 1))), (3, .int (nI (loS σ (i + 1)))), (0, .ref (a 0)), (1, .ref (rc)), (2, .ref (rv)), (5, .int ((wst σ 7).1))]) hx hb dL_holds_232 hl (k := 5) rfl (show nI (i) + nI 1 = nI (i + 1) from nI_add _ _) (by decide) rfl (fun ls hl => ?_)
                refine lv_goto (tgt := 180) hx hb dL_holds_235 (by decide) ?_
                exact ih_i (i + 1) (by omega) _ (lv_sub hl [2, 3, 4, 1, 5, 0] rfl)
      exact lp180 (42 - 0) 0 (by omega) _ (lv_sub hl [1, 2, 3, 4, 5, 0] rfl)
    | succ j_ ih_d =>
      intro d hn_d ls hl
      refine lv_iload hx hb dL_holds_11 (lv_at hl 6 rfl) ?_
      refine lv_bipush (v := nI 7) hx hb dL_holds_13 rfl ?_
      refine q_geN (tgt := 177) hx hb dL_holds_15 (by decide) (by omega) (by omega) (fun c_15 => absurd c_15 (by omega)) (fun c_15 => ?_)
      refine lv_aload_n hx hb dL_holds_18 rfl (lv_at hl 0 rfl) ?_
      refine lv_iload hx hb dL_holds_19 (lv_at hl 6 rfl) ?_
      refine q_cV (As := [.int (nI (d))]) (rest := []) ⟨hx, hb, hml, hown, hts⟩ (k_X6_state D cy a σ kept nxt cnt T len pos ph le nu va ((rc, .inl (cy, 2, .inl fl)) :: (rv, .inl (cy, 42, .inl vf)) :: Z) (d) (by omega)) (cwV 1 hts gL_holds_X6_state rfl rfl rfl hd_X6_state ⟨Nat.le_of_ble_eq_true rfl, Nat.le_of_ble_eq_true rfl⟩) hK hP 0 rfl rfl rfl hl.1 rfl (Nat.le_of_ble_eq_true rfl) ⟨Nat.zero_le _, Nat.zero_le _⟩ dL_holds_21 ?_
      refine lv_istore (lv' := [(7, .int (σ (63 + d))), (0, .ref (a 0)), (1, .ref (rc)), (2, .ref (rv)), (3, .int (nI (0))), (4, .int (wmS σ d)), (5, .int ((wst σ d).1)), (6, .int (nI (d)))]) hx hb dL_holds_24 hl (by decide) rfl (fun ls hl => ?_)
      refine lv_iconst (v := nI 0) hx hb dL_holds_26 rfl ?_
      refine lv_istore (lv' := [(8, .int (nI (0))), (7, .int (σ (63 + d))), (0, .ref (a 0)), (1, .ref (rc)), (2, .ref (rv)), (3, .int (nI (0))), (4, .int (wmS σ d)), (5, .int ((wst σ d).1)), (6, .int (nI (d)))]) hx hb dL_holds_27 hl (by decide) rfl (fun ls hl => ?_)
      have lp29 : ∀ (j_ g : Nat), g + j_ = 9 → ∀ (ls : Array Slot), lv_has ls 9 [(0, .ref (a 0)), (1, .ref (rc)), (2, .ref (rv)), (3, .int (nI (0))), (4, .int (wmS σ d)), (5, .int ((wst σ d).1)), (6, .int (nI (d))), (7, .int (σ (63 + d))), (8, .int (nI (g)))] → W p l e (k2_rm 7 155) s m ([.ref (a 0), .ref (rc), .ref (rv)] : List Value).toArray below meth c s.heap [] 0 0 (MQ below (k2_QcV (.int (bI (true)))) ([.ref (a 0), .ref (rc), .ref (rv)] : List Value).toArray s 0 0 (fun _ => False)) (F0 m 29 ls []) := by
        intro j_
        induction j_ with
        | zero =>
          intro g hn_g ls hl
          refine lv_iload hx hb dL_holds_29 (lv_at hl 8 rfl) ?_
          refine lv_bipush (v := nI 9) hx hb dL_holds_31 rfl ?_
          refine q_geN (tgt := 89) hx hb dL_holds_33 (by decide) (by omega) (by omega) (fun c_33 => ?_) (fun c_33 => absurd c_33 (by omega))
          refine lv_iload hx hb dL_holds_89 (lv_at hl 7 rfl) ?_
          refine lv_bipush (v := nI 9) hx hb dL_holds_91 rfl ?_
          refine lv_icmp_ne (tgt := 124) hx hb dL_holds_93 (by decide) (fun (c_93 : ¬ (σ (63 + d)) = (9)) => ?_) (fun (c_93 : (σ (63 + d)) = (9)) => ?_)
          · have e_w := wm_no c_93
            have hl : lv_has ls 9 [(0, .ref (a 0)), (1, .ref (rc)), (2, .ref (rv)), (3, .int (nI (0))), (4, .int (wmS σ (d + 1))), (5, .int ((wst σ (d + 1)).1)), (6, .int (nI (d))), (7, .int (σ (63 + d))), (8, .int (nI (g)))] := by
              rw [e_w.1, e_w.2]
              exact hl
            refine lv_iload hx hb dL_holds_124 (lv_at hl 7 rfl) ?_
            refine lv_iconst (v := -1) hx hb dL_holds_126 rfl ?_
            refine lv_icmp_lt (tgt := 169) hx hb dL_holds_127 (by decide) (fun (c_127 : (σ (63 + d)) < (-1)) => absurd c_127 (st_lo h_0.1 (by omega))) (fun (c_127 : ¬ (σ (63 + d)) < (-1)) => ?_)
            refine lv_iload hx hb dL_holds_130 (lv_at hl 7 rfl) ?_
            refine lv_bipush (v := nI 9) hx hb dL_holds_132 rfl ?_
            refine lv_icmp_gt (tgt := 169) hx hb dL_holds_134 (by decide) (fun (c_134 : (9) < (σ (63 + d))) => absurd c_134 (st_hi h_0.1 (by omega))) (fun (c_134 : ¬ (9) < (σ (63 + d))) => ?_)
            refine lv_iload hx hb dL_holds_137 (lv_at hl 7 rfl) ?_
            refine lv_iconst (v := -1) hx hb dL_holds_139 rfl ?_
            refine lv_icmp_ne (tgt := 156) hx hb dL_holds_140 (by decide) (fun (c_140 : ¬ (σ (63 + d)) = (-1)) => ?_) (fun (c_140 : (σ (63 + d)) = (-1)) => ?_)
            · refine lv_aload_n hx hb dL_holds_156 rfl (lv_at hl 0 rfl) ?_
              refine lv_iload hx hb dL_holds_157 (lv_at hl 6 rfl) ?_
              refine q_cV (As := [.int (nI (d))]) (rest := []) ⟨hx, hb, hml, hown, hts⟩ (k_X6_lostIfFailed D cy a σ kept nxt cnt T len pos ph le nu va ((rc, .inl (cy, 2, .inl fl)) :: (rv, .inl (cy, 42, .inl vf)) :: Z) (d) (by omega)) (cwV 1 hts gL_holds_X6_lostIfFailed rfl rfl rfl hd_X6_lostIfFailed ⟨Nat.le_of_ble_eq_true rfl, Nat.le_of_ble_eq_true rfl⟩) hK hP 0 rfl rfl rfl hl.1 rfl (Nat.le_of_ble_eq_true rfl) ⟨Nat.zero_le _, Nat.zero_le _⟩ dL_holds_159 ?_
              refine lv_aload_n hx hb dL_holds_162 rfl (lv_at hl 0 rfl) ?_
              refine q_cV (As := []) (rest := [.int (nI (cl (failS σ d)))]) ⟨hx, hb, hml, hown, hts⟩ (c_X6_lost D cy a σ kept nxt cnt T len pos ph le nu va ((rc, .inl (cy, 2, .inl fl)) :: (rv, .inl (cy, 42, .inl vf)) :: Z) ) (cwV 0 hts gL_holds_X6_lost rfl rfl rfl hd_X6_lost ⟨Nat.le_of_ble_eq_true rfl, Nat.le_of_ble_eq_true rfl⟩) hK hP 0 rfl rfl rfl hl.1 rfl (Nat.le_of_ble_eq_true rfl) ⟨Nat.zero_le _, Nat.zero_le _⟩ dL_holds_163 ?_
              refine q_geN (tgt := 171) hx hb dL_holds_166 (by decide) (by have := cl_42 (failS σ d); omega) (by have := cl_42 σ; omega) (fun c_166 => ?_) (fun c_166 => absurd c_166 (by have := cl_le σ (d := d) (by omega); omega))
              refine lv_iinc (v := nI (d + 1)) (lv' := [(6, .int (nI (d + 1))), (0, .ref (a 0)), (1, .ref (rc)), (2, .ref (rv)), (3, .int (nI (0))), (4, .int (wmS σ (d + 1))), (5, .int ((wst σ (d + 1)).1)), (7, .int (σ (63 + d))), (8, .int (nI (g)))]) hx hb dL_holds_171 hl (k := 6) rfl (show nI (d) + nI 1 = nI (d + 1) from nI_add _ _) (by decide) rfl (fun ls hl => ?_)
              refine lv_goto (tgt := 11) hx hb dL_holds_174 (by decide) ?_
              exact ih_d (d + 1) (by omega) _ (lv_sub hl [1, 2, 3, 4, 5, 6, 0] rfl)
            · refine lv_aload_n hx hb dL_holds_143 rfl (lv_at hl 0 rfl) ?_
              refine lv_iload hx hb dL_holds_144 (lv_at hl 6 rfl) ?_
              refine q_cV (As := [.int (nI (d))]) (rest := []) ⟨hx, hb, hml, hown, hts⟩ (k_X6_lostIfFailed D cy a σ kept nxt cnt T len pos ph le nu va ((rc, .inl (cy, 2, .inl fl)) :: (rv, .inl (cy, 42, .inl vf)) :: Z) (d) (by omega)) (cwV 1 hts gL_holds_X6_lostIfFailed rfl rfl rfl hd_X6_lostIfFailed ⟨Nat.le_of_ble_eq_true rfl, Nat.le_of_ble_eq_true rfl⟩) hK hP 0 rfl rfl rfl hl.1 rfl (Nat.le_of_ble_eq_true rfl) ⟨Nat.zero_le _, Nat.zero_le _⟩ dL_holds_146 ?_
              refine lv_aload_n hx hb dL_holds_149 rfl (lv_at hl 0 rfl) ?_
              refine q_cV (As := []) (rest := [.int (nI (cl (failS σ d)))]) ⟨hx, hb, hml, hown, hts⟩ (c_X6_lost D cy a σ kept nxt cnt T len pos ph le nu va ((rc, .inl (cy, 2, .inl fl)) :: (rv, .inl (cy, 42, .inl vf)) :: Z) ) (cwV 0 hts gL_holds_X6_lost rfl rfl rfl hd_X6_lost ⟨Nat.le_of_ble_eq_true rfl, Nat.le_of_ble_eq_true rfl⟩) hK hP 0 rfl rfl rfl hl.1 rfl (Nat.le_of_ble_eq_true rfl) ⟨Nat.zero_le _, Nat.zero_le _⟩ dL_holds_150 ?_
              refine q_neN (tgt := 169) hx hb dL_holds_153 (by decide) (by have := cl_42 (failS σ d); omega) (by have := cl_42 σ; omega) (fun c_153 => absurd (cl_same (by omega) c_140) c_153) (fun c_153 => ?_)
              refine lv_aload_n hx hb dL_holds_156 rfl (lv_at hl 0 rfl) ?_
              refine lv_iload hx hb dL_holds_157 (lv_at hl 6 rfl) ?_
              refine q_cV (As := [.int (nI (d))]) (rest := []) ⟨hx, hb, hml, hown, hts⟩ (k_X6_lostIfFailed D cy a σ kept nxt cnt T len pos ph le nu va ((rc, .inl (cy, 2, .inl fl)) :: (rv, .inl (cy, 42, .inl vf)) :: Z) (d) (by omega)) (cwV 1 hts gL_holds_X6_lostIfFailed rfl rfl rfl hd_X6_lostIfFailed ⟨Nat.le_of_ble_eq_true rfl, Nat.le_of_ble_eq_true rfl⟩) hK hP 0 rfl rfl rfl hl.1 rfl (Nat.le_of_ble_eq_true rfl) ⟨Nat.zero_le _, Nat.zero_le _⟩ dL_holds_159 ?_
              refine lv_aload_n hx hb dL_holds_162 rfl (lv_at hl 0 rfl) ?_
              refine q_cV (As := []) (rest := [.int (nI (cl (failS σ d)))]) ⟨hx, hb, hml, hown, hts⟩ (c_X6_lost D cy a σ kept nxt cnt T len pos ph le nu va ((rc, .inl (cy, 2, .inl fl)) :: (rv, .inl (cy, 42, .inl vf)) :: Z) ) (cwV 0 hts gL_holds_X6_lost rfl rfl rfl hd_X6_lost ⟨Nat.le_of_ble_eq_true rfl, Nat.le_of_ble_eq_true rfl⟩) hK hP 0 rfl rfl rfl hl.1 rfl (Nat.le_of_ble_eq_true rfl) ⟨Nat.zero_le _, Nat.zero_le _⟩ dL_holds_163 ?_
              refine q_geN (tgt := 171) hx hb dL_holds_166 (by decide) (by have := cl_42 (failS σ d); omega) (by have := cl_42 σ; omega) (fun c_166 => ?_) (fun c_166 => absurd c_166 (by have := cl_le σ (d := d) (by omega); omega))
              refine lv_iinc (v := nI (d + 1)) (lv' := [(6, .int (nI (d + 1))), (0, .ref (a 0)), (1, .ref (rc)), (2, .ref (rv)), (3, .int (nI (0))), (4, .int (wmS σ (d + 1))), (5, .int ((wst σ (d + 1)).1)), (7, .int (σ (63 + d))), (8, .int (nI (g)))]) hx hb dL_holds_171 hl (k := 6) rfl (show nI (d) + nI 1 = nI (d + 1) from nI_add _ _) (by decide) rfl (fun ls hl => ?_)
              refine lv_goto (tgt := 11) hx hb dL_holds_174 (by decide) ?_
              exact ih_d (d + 1) (by omega) _ (lv_sub hl [1, 2, 3, 4, 5, 6, 0] rfl)
          · refine lv_iload hx hb dL_holds_96 (lv_at hl 5 rfl) ?_
            refine lv_if_lt (tgt := 112) hx hb dL_holds_98 (by decide) (fun (c_98 : ((wst σ d).1) < 0) => ?_) (fun (c_98 : ¬ ((wst σ d).1) < 0) => ?_)
            · refine lv_iload hx hb dL_holds_112 (lv_at hl 6 rfl) ?_
              refine lv_istore (lv' := [(5, .int (nI (d))), (0, .ref (a 0)), (1, .ref (rc)), (2, .ref (rv)), (3, .int (nI (0))), (4, .int (wmS σ d)), (6, .int (nI (d))), (7, .int (σ (63 + d))), (8, .int (nI (g)))]) hx hb dL_holds_114 hl (by decide) rfl (fun ls hl => ?_)
              refine lv_aload_n hx hb dL_holds_116 rfl (lv_at hl 1 rfl) ?_
              refine lv_iload hx hb dL_holds_117 (lv_at hl 6 rfl) ?_
              refine q_cV (As := [.int (nI (d))]) (rest := []) ⟨hx, hb, hml, hown, hts⟩ (k_X6_lostIfFailed D cy a σ kept nxt cnt T len pos ph le nu va ((rc, .inl (cy, 2, .inl fl)) :: (rv, .inl (cy, 42, .inl vf)) :: Z) (d) (by omega)) (cwV 1 hts gL_holds_X6_lostIfFailed rfl rfl rfl hd_X6_lostIfFailed ⟨Nat.le_of_ble_eq_true rfl, Nat.le_of_ble_eq_true rfl⟩) hK hP 0 rfl rfl rfl hl.1 rfl (Nat.le_of_ble_eq_true rfl) ⟨Nat.zero_le _, Nat.zero_le _⟩ dL_holds_119 ?_
              refine lv_istore (lv' := [(4, .int (nI (cl (failS σ d)))), (5, .int (nI (d))), (0, .ref (a 0)), (1, .ref (rc)), (2, .ref (rv)), (3, .int (nI (0))), (6, .int (nI (d))), (7, .int (σ (63 + d))), (8, .int (nI (g)))]) hx hb dL_holds_122 hl (by decide) rfl (fun ls hl => ?_)
              have e_w := wm_new (by omega) c_93 (Or.inl c_98)
              have hl : lv_has ls 9 [(4, .int (wmS σ (d + 1))), (5, .int ((wst σ (d + 1)).1)), (0, .ref (a 0)), (1, .ref (rc)), (2, .ref (rv)), (3, .int (nI (0))), (6, .int (nI (d))), (7, .int (σ (63 + d))), (8, .int (nI (g)))] := by
                rw [e_w.1, e_w.2]
                exact hl
              refine lv_iload hx hb dL_holds_124 (lv_at hl 7 rfl) ?_
              refine lv_iconst (v := -1) hx hb dL_holds_126 rfl ?_
              refine lv_icmp_lt (tgt := 169) hx hb dL_holds_127 (by decide) (fun (c_127 : (σ (63 + d)) < (-1)) => absurd c_127 (st_lo h_0.1 (by omega))) (fun (c_127 : ¬ (σ (63 + d)) < (-1)) => ?_)
              refine lv_iload hx hb dL_holds_130 (lv_at hl 7 rfl) ?_
              refine lv_bipush (v := nI 9) hx hb dL_holds_132 rfl ?_
              refine lv_icmp_gt (tgt := 169) hx hb dL_holds_134 (by decide) (fun (c_134 : (9) < (σ (63 + d))) => absurd c_134 (st_hi h_0.1 (by omega))) (fun (c_134 : ¬ (9) < (σ (63 + d))) => ?_)
              refine lv_iload hx hb dL_holds_137 (lv_at hl 7 rfl) ?_
              refine lv_iconst (v := -1) hx hb dL_holds_139 rfl ?_
              refine lv_icmp_ne (tgt := 156) hx hb dL_holds_140 (by decide) (fun (c_140 : ¬ (σ (63 + d)) = (-1)) => ?_) (fun (c_140 : (σ (63 + d)) = (-1)) => ?_)
              · refine lv_aload_n hx hb dL_holds_156 rfl (lv_at hl 2 rfl) ?_
                refine lv_iload hx hb dL_holds_157 (lv_at hl 6 rfl) ?_
                refine q_cV (As := [.int (nI (d))]) (rest := []) ⟨hx, hb, hml, hown, hts⟩ (k_X6_lostIfFailed D cy a σ kept nxt cnt T len pos ph le nu va ((rc, .inl (cy, 2, .inl fl)) :: (rv, .inl (cy, 42, .inl vf)) :: Z) (d) (by omega)) (cwV 1 hts gL_holds_X6_lostIfFailed rfl rfl rfl hd_X6_lostIfFailed ⟨Nat.le_of_ble_eq_true rfl, Nat.le_of_ble_eq_true rfl⟩) hK hP 0 rfl rfl rfl hl.1 rfl (Nat.le_of_ble_eq_true rfl) ⟨Nat.zero_le _, Nat.zero_le _⟩ dL_holds_159 ?_
                refine lv_aload_n hx hb dL_holds_162 rfl (lv_at hl 2 rfl) ?_
                refine q_cV (As := []) (rest := [.int (nI (cl (failS σ d)))]) ⟨hx, hb, hml, hown, hts⟩ (c_X6_lost D cy a σ kept nxt cnt T len pos ph le nu va ((rc, .inl (cy, 2, .inl fl)) :: (rv, .inl (cy, 42, .inl vf)) :: Z) ) (cwV 0 hts gL_holds_X6_lost rfl rfl rfl hd_X6_lost ⟨Nat.le_of_ble_eq_true rfl, Nat.le_of_ble_eq_true rfl⟩) hK hP 0 rfl rfl rfl hl.1 rfl (Nat.le_of_ble_eq_true rfl) ⟨Nat.zero_le _, Nat.zero_le _⟩ dL_holds_163 ?_
                refine q_geN (tgt := 171) hx hb dL_holds_166 (by decide) (by have := cl_42 (failS σ d); omega) (by have := cl_42 σ; omega) (fun c_166 => ?_) (fun c_166 => absurd c_166 (by have := cl_le σ (d := d) (by omega); omega))
                refine lv_iinc (v := nI (d + 1)) (lv' := [(6, .int (nI (d + 1))), (4, .int (wmS σ (d + 1))), (5, .int ((wst σ (d + 1)).1)), (0, .ref (a 0)), (1, .ref (rc)), (2, .ref (rv)), (3, .int (nI (0))), (7, .int (σ (63 + d))), (8, .int (nI (g)))]) hx hb dL_holds_171 hl (k := 6) rfl (show nI (d) + nI 1 = nI (d + 1) from nI_add _ _) (by decide) rfl (fun ls hl => ?_)
                refine lv_goto (tgt := 11) hx hb dL_holds_174 (by decide) ?_
                exact ih_d (d + 1) (by omega) _ (lv_sub hl [3, 4, 5, 6, 1, 2, 0] rfl)
              · refine lv_aload_n hx hb dL_holds_143 rfl (lv_at hl 2 rfl) ?_
                refine lv_iload hx hb dL_holds_144 (lv_at hl 6 rfl) ?_
                refine q_cV (As := [.int (nI (d))]) (rest := []) ⟨hx, hb, hml, hown, hts⟩ (k_X6_lostIfFailed D cy a σ kept nxt cnt T len pos ph le nu va ((rc, .inl (cy, 2, .inl fl)) :: (rv, .inl (cy, 42, .inl vf)) :: Z) (d) (by omega)) (cwV 1 hts gL_holds_X6_lostIfFailed rfl rfl rfl hd_X6_lostIfFailed ⟨Nat.le_of_ble_eq_true rfl, Nat.le_of_ble_eq_true rfl⟩) hK hP 0 rfl rfl rfl hl.1 rfl (Nat.le_of_ble_eq_true rfl) ⟨Nat.zero_le _, Nat.zero_le _⟩ dL_holds_146 ?_
                refine lv_aload_n hx hb dL_holds_149 rfl (lv_at hl 2 rfl) ?_
                refine q_cV (As := []) (rest := [.int (nI (cl (failS σ d)))]) ⟨hx, hb, hml, hown, hts⟩ (c_X6_lost D cy a σ kept nxt cnt T len pos ph le nu va ((rc, .inl (cy, 2, .inl fl)) :: (rv, .inl (cy, 42, .inl vf)) :: Z) ) (cwV 0 hts gL_holds_X6_lost rfl rfl rfl hd_X6_lost ⟨Nat.le_of_ble_eq_true rfl, Nat.le_of_ble_eq_true rfl⟩) hK hP 0 rfl rfl rfl hl.1 rfl (Nat.le_of_ble_eq_true rfl) ⟨Nat.zero_le _, Nat.zero_le _⟩ dL_holds_150 ?_
                refine q_neN (tgt := 169) hx hb dL_holds_153 (by decide) (by have := cl_42 (failS σ d); omega) (by have := cl_42 σ; omega) (fun c_153 => absurd (cl_same (by omega) c_140) c_153) (fun c_153 => ?_)
                refine lv_aload_n hx hb dL_holds_156 rfl (lv_at hl 2 rfl) ?_
                refine lv_iload hx hb dL_holds_157 (lv_at hl 6 rfl) ?_
                refine q_cV (As := [.int (nI (d))]) (rest := []) ⟨hx, hb, hml, hown, hts⟩ (k_X6_lostIfFailed D cy a σ kept nxt cnt T len pos ph le nu va ((rc, .inl (cy, 2, .inl fl)) :: (rv, .inl (cy, 42, .inl vf)) :: Z) (d) (by omega)) (cwV 1 hts gL_holds_X6_lostIfFailed rfl rfl rfl hd_X6_lostIfFailed ⟨Nat.le_of_ble_eq_true rfl, Nat.le_of_ble_eq_true rfl⟩) hK hP 0 rfl rfl rfl hl.1 rfl (Nat.le_of_ble_eq_true rfl) ⟨Nat.zero_le _, Nat.zero_le _⟩ dL_holds_159 ?_
                refine lv_aload_n hx hb dL_holds_162 rfl (lv_at hl 2 rfl) ?_
                refine q_cV (As := []) (rest := [.int (nI (cl (failS σ d)))]) ⟨hx, hb, hml, hown, hts⟩ (c_X6_lost D cy a σ kept nxt cnt T len pos ph le nu va ((rc, .inl (cy, 2, .inl fl)) :: (rv, .inl (cy, 42, .inl vf)) :: Z) ) (cwV 0 hts gL_holds_X6_lost rfl rfl rfl hd_X6_lost ⟨Nat.le_of_ble_eq_true rfl, Nat.le_of_ble_eq_true rfl⟩) hK hP 0 rfl rfl rfl hl.1 rfl (Nat.le_of_ble_eq_true rfl) ⟨Nat.zero_le _, Nat.zero_le _⟩ dL_holds_163 ?_
                refine q_geN (tgt := 171) hx hb dL_holds_166 (by decide) (by have := cl_42 (failS σ d); omega) (by have := cl_42 σ; omega) (fun c_166 => ?_) (fun c_166 => absurd c_166 (by have := cl_le σ (d := d) (by omega); omega))
                refine lv_iinc (v := nI (d + 1)) (lv' := [(6, .int (nI (d + 1))), (4, .int (wmS σ (d + 1))), (5, .int ((wst σ (d + 1)).1)), (0, .ref (a 0)), (1, .ref (rc)), (2, .ref (rv)), (3, .int (nI (0))), (7, .int (σ (63 + d))), (8, .int (nI (g)))]) hx hb dL_holds_171 hl (k := 6) rfl (show nI (d) + nI 1 = nI (d + 1) from nI_add _ _) (by decide) rfl (fun ls hl => ?_)
                refine lv_goto (tgt := 11) hx hb dL_holds_174 (by decide) ?_
                exact ih_d (d + 1) (by omega) _ (lv_sub hl [3, 4, 5, 6, 1, 2, 0] rfl)
            · refine lv_aload_n hx hb dL_holds_101 rfl (lv_at hl 0 rfl) ?_
              refine lv_iload hx hb dL_holds_102 (lv_at hl 6 rfl) ?_
              refine q_cV (As := [.int (nI (d))]) (rest := []) ⟨hx, hb, hml, hown, hts⟩ (k_X6_lostIfFailed D cy a σ kept nxt cnt T len pos ph le nu va ((rc, .inl (cy, 2, .inl fl)) :: (rv, .inl (cy, 42, .inl vf)) :: Z) (d) (by omega)) (cwV 1 hts gL_holds_X6_lostIfFailed rfl rfl rfl hd_X6_lostIfFailed ⟨Nat.le_of_ble_eq_true rfl, Nat.le_of_ble_eq_true rfl⟩) hK hP 0 rfl rfl rfl hl.1 rfl (Nat.le_of_ble_eq_true rfl) ⟨Nat.zero_le _, Nat.zero_le _⟩ dL_holds_104 ?_
              refine lv_iload hx hb dL_holds_107 (lv_at hl 4 rfl) ?_
              refine lv_icmp_le (tgt := 124) hx hb dL_holds_109 (by decide) (fun (c_109 : (nI (cl (failS σ d))) ≤ (wmS σ d)) => ?_) (fun (c_109 : ¬ (nI (cl (failS σ d))) ≤ (wmS σ d)) => ?_)
              · have e_w := wm_old (by omega) c_93 c_98 c_109
                have hl : lv_has ls 9 [(0, .ref (a 0)), (1, .ref (rc)), (2, .ref (rv)), (3, .int (nI (0))), (4, .int (wmS σ (d + 1))), (5, .int ((wst σ (d + 1)).1)), (6, .int (nI (d))), (7, .int (σ (63 + d))), (8, .int (nI (g)))] := by
                  rw [e_w.1, e_w.2]
                  exact hl
                refine lv_iload hx hb dL_holds_124 (lv_at hl 7 rfl) ?_
                refine lv_iconst (v := -1) hx hb dL_holds_126 rfl ?_
                refine lv_icmp_lt (tgt := 169) hx hb dL_holds_127 (by decide) (fun (c_127 : (σ (63 + d)) < (-1)) => absurd c_127 (st_lo h_0.1 (by omega))) (fun (c_127 : ¬ (σ (63 + d)) < (-1)) => ?_)
                refine lv_iload hx hb dL_holds_130 (lv_at hl 7 rfl) ?_
                refine lv_bipush (v := nI 9) hx hb dL_holds_132 rfl ?_
                refine lv_icmp_gt (tgt := 169) hx hb dL_holds_134 (by decide) (fun (c_134 : (9) < (σ (63 + d))) => absurd c_134 (st_hi h_0.1 (by omega))) (fun (c_134 : ¬ (9) < (σ (63 + d))) => ?_)
                refine lv_iload hx hb dL_holds_137 (lv_at hl 7 rfl) ?_
                refine lv_iconst (v := -1) hx hb dL_holds_139 rfl ?_
                refine lv_icmp_ne (tgt := 156) hx hb dL_holds_140 (by decide) (fun (c_140 : ¬ (σ (63 + d)) = (-1)) => ?_) (fun (c_140 : (σ (63 + d)) = (-1)) => ?_)
                · refine lv_aload_n hx hb dL_holds_156 rfl (lv_at hl 0 rfl) ?_
                  refine lv_iload hx hb dL_holds_157 (lv_at hl 6 rfl) ?_
                  refine q_cV (As := [.int (nI (d))]) (rest := []) ⟨hx, hb, hml, hown, hts⟩ (k_X6_lostIfFailed D cy a σ kept nxt cnt T len pos ph le nu va ((rc, .inl (cy, 2, .inl fl)) :: (rv, .inl (cy, 42, .inl vf)) :: Z) (d) (by omega)) (cwV 1 hts gL_holds_X6_lostIfFailed rfl rfl rfl hd_X6_lostIfFailed ⟨Nat.le_of_ble_eq_true rfl, Nat.le_of_ble_eq_true rfl⟩) hK hP 0 rfl rfl rfl hl.1 rfl (Nat.le_of_ble_eq_true rfl) ⟨Nat.zero_le _, Nat.zero_le _⟩ dL_holds_159 ?_
                  refine lv_aload_n hx hb dL_holds_162 rfl (lv_at hl 0 rfl) ?_
                  refine q_cV (As := []) (rest := [.int (nI (cl (failS σ d)))]) ⟨hx, hb, hml, hown, hts⟩ (c_X6_lost D cy a σ kept nxt cnt T len pos ph le nu va ((rc, .inl (cy, 2, .inl fl)) :: (rv, .inl (cy, 42, .inl vf)) :: Z) ) (cwV 0 hts gL_holds_X6_lost rfl rfl rfl hd_X6_lost ⟨Nat.le_of_ble_eq_true rfl, Nat.le_of_ble_eq_true rfl⟩) hK hP 0 rfl rfl rfl hl.1 rfl (Nat.le_of_ble_eq_true rfl) ⟨Nat.zero_le _, Nat.zero_le _⟩ dL_holds_163 ?_
                  refine q_geN (tgt := 171) hx hb dL_holds_166 (by decide) (by have := cl_42 (failS σ d); omega) (by have := cl_42 σ; omega) (fun c_166 => ?_) (fun c_166 => absurd c_166 (by have := cl_le σ (d := d) (by omega); omega))
                  refine lv_iinc (v := nI (d + 1)) (lv' := [(6, .int (nI (d + 1))), (0, .ref (a 0)), (1, .ref (rc)), (2, .ref (rv)), (3, .int (nI (0))), (4, .int (wmS σ (d + 1))), (5, .int ((wst σ (d + 1)).1)), (7, .int (σ (63 + d))), (8, .int (nI (g)))]) hx hb dL_holds_171 hl (k := 6) rfl (show nI (d) + nI 1 = nI (d + 1) from nI_add _ _) (by decide) rfl (fun ls hl => ?_)
                  refine lv_goto (tgt := 11) hx hb dL_holds_174 (by decide) ?_
                  exact ih_d (d + 1) (by omega) _ (lv_sub hl [1, 2, 3, 4, 5, 6, 0] rfl)
                · refine lv_aload_n hx hb dL_holds_143 rfl (lv_at hl 0 rfl) ?_
                  refine lv_iload hx hb dL_holds_144 (lv_at hl 6 rfl) ?_
                  refine q_cV (As := [.int (nI (d))]) (rest := []) ⟨hx, hb, hml, hown, hts⟩ (k_X6_lostIfFailed D cy a σ kept nxt cnt T len pos ph le nu va ((rc, .inl (cy, 2, .inl fl)) :: (rv, .inl (cy, 42, .inl vf)) :: Z) (d) (by omega)) (cwV 1 hts gL_holds_X6_lostIfFailed rfl rfl rfl hd_X6_lostIfFailed ⟨Nat.le_of_ble_eq_true rfl, Nat.le_of_ble_eq_true rfl⟩) hK hP 0 rfl rfl rfl hl.1 rfl (Nat.le_of_ble_eq_true rfl) ⟨Nat.zero_le _, Nat.zero_le _⟩ dL_holds_146 ?_
                  refine lv_aload_n hx hb dL_holds_149 rfl (lv_at hl 0 rfl) ?_
                  refine q_cV (As := []) (rest := [.int (nI (cl (failS σ d)))]) ⟨hx, hb, hml, hown, hts⟩ (c_X6_lost D cy a σ kept nxt cnt T len pos ph le nu va ((rc, .inl (cy, 2, .inl fl)) :: (rv, .inl (cy, 42, .inl vf)) :: Z) ) (cwV 0 hts gL_holds_X6_lost rfl rfl rfl hd_X6_lost ⟨Nat.le_of_ble_eq_true rfl, Nat.le_of_ble_eq_true rfl⟩) hK hP 0 rfl rfl rfl hl.1 rfl (Nat.le_of_ble_eq_true rfl) ⟨Nat.zero_le _, Nat.zero_le _⟩ dL_holds_150 ?_
                  refine q_neN (tgt := 169) hx hb dL_holds_153 (by decide) (by have := cl_42 (failS σ d); omega) (by have := cl_42 σ; omega) (fun c_153 => absurd (cl_same (by omega) c_140) c_153) (fun c_153 => ?_)
                  refine lv_aload_n hx hb dL_holds_156 rfl (lv_at hl 0 rfl) ?_
                  refine lv_iload hx hb dL_holds_157 (lv_at hl 6 rfl) ?_
                  refine q_cV (As := [.int (nI (d))]) (rest := []) ⟨hx, hb, hml, hown, hts⟩ (k_X6_lostIfFailed D cy a σ kept nxt cnt T len pos ph le nu va ((rc, .inl (cy, 2, .inl fl)) :: (rv, .inl (cy, 42, .inl vf)) :: Z) (d) (by omega)) (cwV 1 hts gL_holds_X6_lostIfFailed rfl rfl rfl hd_X6_lostIfFailed ⟨Nat.le_of_ble_eq_true rfl, Nat.le_of_ble_eq_true rfl⟩) hK hP 0 rfl rfl rfl hl.1 rfl (Nat.le_of_ble_eq_true rfl) ⟨Nat.zero_le _, Nat.zero_le _⟩ dL_holds_159 ?_
                  refine lv_aload_n hx hb dL_holds_162 rfl (lv_at hl 0 rfl) ?_
                  refine q_cV (As := []) (rest := [.int (nI (cl (failS σ d)))]) ⟨hx, hb, hml, hown, hts⟩ (c_X6_lost D cy a σ kept nxt cnt T len pos ph le nu va ((rc, .inl (cy, 2, .inl fl)) :: (rv, .inl (cy, 42, .inl vf)) :: Z) ) (cwV 0 hts gL_holds_X6_lost rfl rfl rfl hd_X6_lost ⟨Nat.le_of_ble_eq_true rfl, Nat.le_of_ble_eq_true rfl⟩) hK hP 0 rfl rfl rfl hl.1 rfl (Nat.le_of_ble_eq_true rfl) ⟨Nat.zero_le _, Nat.zero_le _⟩ dL_holds_163 ?_
                  refine q_geN (tgt := 171) hx hb dL_holds_166 (by decide) (by have := cl_42 (failS σ d); omega) (by have := cl_42 σ; omega) (fun c_166 => ?_) (fun c_166 => absurd c_166 (by have := cl_le σ (d := d) (by omega); omega))
                  refine lv_iinc (v := nI (d + 1)) (lv' := [(6, .int (nI (d + 1))), (0, .ref (a 0)), (1, .ref (rc)), (2, .ref (rv)), (3, .int (nI (0))), (4, .int (wmS σ (d + 1))), (5, .int ((wst σ (d + 1)).1)), (7, .int (σ (63 + d))), (8, .int (nI (g)))]) hx hb dL_holds_171 hl (k := 6) rfl (show nI (d) + nI 1 = nI (d + 1) from nI_add _ _) (by decide) rfl (fun ls hl => ?_)
                  refine lv_goto (tgt := 11) hx hb dL_holds_174 (by decide) ?_
                  exact ih_d (d + 1) (by omega) _ (lv_sub hl [1, 2, 3, 4, 5, 6, 0] rfl)
              · refine lv_iload hx hb dL_holds_112 (lv_at hl 6 rfl) ?_
                refine lv_istore (lv' := [(5, .int (nI (d))), (0, .ref (a 0)), (1, .ref (rc)), (2, .ref (rv)), (3, .int (nI (0))), (4, .int (wmS σ d)), (6, .int (nI (d))), (7, .int (σ (63 + d))), (8, .int (nI (g)))]) hx hb dL_holds_114 hl (by decide) rfl (fun ls hl => ?_)
                refine lv_aload_n hx hb dL_holds_116 rfl (lv_at hl 1 rfl) ?_
                refine lv_iload hx hb dL_holds_117 (lv_at hl 6 rfl) ?_
                refine q_cV (As := [.int (nI (d))]) (rest := []) ⟨hx, hb, hml, hown, hts⟩ (k_X6_lostIfFailed D cy a σ kept nxt cnt T len pos ph le nu va ((rc, .inl (cy, 2, .inl fl)) :: (rv, .inl (cy, 42, .inl vf)) :: Z) (d) (by omega)) (cwV 1 hts gL_holds_X6_lostIfFailed rfl rfl rfl hd_X6_lostIfFailed ⟨Nat.le_of_ble_eq_true rfl, Nat.le_of_ble_eq_true rfl⟩) hK hP 0 rfl rfl rfl hl.1 rfl (Nat.le_of_ble_eq_true rfl) ⟨Nat.zero_le _, Nat.zero_le _⟩ dL_holds_119 ?_
                refine lv_istore (lv' := [(4, .int (nI (cl (failS σ d)))), (5, .int (nI (d))), (0, .ref (a 0)), (1, .ref (rc)), (2, .ref (rv)), (3, .int (nI (0))), (6, .int (nI (d))), (7, .int (σ (63 + d))), (8, .int (nI (g)))]) hx hb dL_holds_122 hl (by decide) rfl (fun ls hl => ?_)
                have e_w := wm_new (by omega) c_93 (Or.inr c_109)
                have hl : lv_has ls 9 [(4, .int (wmS σ (d + 1))), (5, .int ((wst σ (d + 1)).1)), (0, .ref (a 0)), (1, .ref (rc)), (2, .ref (rv)), (3, .int (nI (0))), (6, .int (nI (d))), (7, .int (σ (63 + d))), (8, .int (nI (g)))] := by
                  rw [e_w.1, e_w.2]
                  exact hl
                refine lv_iload hx hb dL_holds_124 (lv_at hl 7 rfl) ?_
                refine lv_iconst (v := -1) hx hb dL_holds_126 rfl ?_
                refine lv_icmp_lt (tgt := 169) hx hb dL_holds_127 (by decide) (fun (c_127 : (σ (63 + d)) < (-1)) => absurd c_127 (st_lo h_0.1 (by omega))) (fun (c_127 : ¬ (σ (63 + d)) < (-1)) => ?_)
                refine lv_iload hx hb dL_holds_130 (lv_at hl 7 rfl) ?_
                refine lv_bipush (v := nI 9) hx hb dL_holds_132 rfl ?_
                refine lv_icmp_gt (tgt := 169) hx hb dL_holds_134 (by decide) (fun (c_134 : (9) < (σ (63 + d))) => absurd c_134 (st_hi h_0.1 (by omega))) (fun (c_134 : ¬ (9) < (σ (63 + d))) => ?_)
                refine lv_iload hx hb dL_holds_137 (lv_at hl 7 rfl) ?_
                refine lv_iconst (v := -1) hx hb dL_holds_139 rfl ?_
                refine lv_icmp_ne (tgt := 156) hx hb dL_holds_140 (by decide) (fun (c_140 : ¬ (σ (63 + d)) = (-1)) => ?_) (fun (c_140 : (σ (63 + d)) = (-1)) => ?_)
                · refine lv_aload_n hx hb dL_holds_156 rfl (lv_at hl 2 rfl) ?_
                  refine lv_iload hx hb dL_holds_157 (lv_at hl 6 rfl) ?_
                  refine q_cV (As := [.int (nI (d))]) (rest := []) ⟨hx, hb, hml, hown, hts⟩ (k_X6_lostIfFailed D cy a σ kept nxt cnt T len pos ph le nu va ((rc, .inl (cy, 2, .inl fl)) :: (rv, .inl (cy, 42, .inl vf)) :: Z) (d) (by omega)) (cwV 1 hts gL_holds_X6_lostIfFailed rfl rfl rfl hd_X6_lostIfFailed ⟨Nat.le_of_ble_eq_true rfl, Nat.le_of_ble_eq_true rfl⟩) hK hP 0 rfl rfl rfl hl.1 rfl (Nat.le_of_ble_eq_true rfl) ⟨Nat.zero_le _, Nat.zero_le _⟩ dL_holds_159 ?_
                  refine lv_aload_n hx hb dL_holds_162 rfl (lv_at hl 2 rfl) ?_
                  refine q_cV (As := []) (rest := [.int (nI (cl (failS σ d)))]) ⟨hx, hb, hml, hown, hts⟩ (c_X6_lost D cy a σ kept nxt cnt T len pos ph le nu va ((rc, .inl (cy, 2, .inl fl)) :: (rv, .inl (cy, 42, .inl vf)) :: Z) ) (cwV 0 hts gL_holds_X6_lost rfl rfl rfl hd_X6_lost ⟨Nat.le_of_ble_eq_true rfl, Nat.le_of_ble_eq_true rfl⟩) hK hP 0 rfl rfl rfl hl.1 rfl (Nat.le_of_ble_eq_true rfl) ⟨Nat.zero_le _, Nat.zero_le _⟩ dL_holds_163 ?_
                  refine q_geN (tgt := 171) hx hb dL_holds_166 (by decide) (by have := cl_42 (failS σ d); omega) (by have := cl_42 σ; omega) (fun c_166 => ?_) (fun c_166 => absurd c_166 (by have := cl_le σ (d := d) (by omega); omega))
                  refine lv_iinc (v := nI (d + 1)) (lv' := [(6, .int (nI (d + 1))), (4, .int (wmS σ (d + 1))), (5, .int ((wst σ (d + 1)).1)), (0, .ref (a 0)), (1, .ref (rc)), (2, .ref (rv)), (3, .int (nI (0))), (7, .int (σ (63 + d))), (8, .int (nI (g)))]) hx hb dL_holds_171 hl (k := 6) rfl (show nI (d) + nI 1 = nI (d + 1) from nI_add _ _) (by decide) rfl (fun ls hl => ?_)
                  refine lv_goto (tgt := 11) hx hb dL_holds_174 (by decide) ?_
                  exact ih_d (d + 1) (by omega) _ (lv_sub hl [3, 4, 5, 6, 1, 2, 0] rfl)
                · refine lv_aload_n hx hb dL_holds_143 rfl (lv_at hl 2 rfl) ?_
                  refine lv_iload hx hb dL_holds_144 (lv_at hl 6 rfl) ?_
                  refine q_cV (As := [.int (nI (d))]) (rest := []) ⟨hx, hb, hml, hown, hts⟩ (k_X6_lostIfFailed D cy a σ kept nxt cnt T len pos ph le nu va ((rc, .inl (cy, 2, .inl fl)) :: (rv, .inl (cy, 42, .inl vf)) :: Z) (d) (by omega)) (cwV 1 hts gL_holds_X6_lostIfFailed rfl rfl rfl hd_X6_lostIfFailed ⟨Nat.le_of_ble_eq_true rfl, Nat.le_of_ble_eq_true rfl⟩) hK hP 0 rfl rfl rfl hl.1 rfl (Nat.le_of_ble_eq_true rfl) ⟨Nat.zero_le _, Nat.zero_le _⟩ dL_holds_146 ?_
                  refine lv_aload_n hx hb dL_holds_149 rfl (lv_at hl 2 rfl) ?_
                  refine q_cV (As := []) (rest := [.int (nI (cl (failS σ d)))]) ⟨hx, hb, hml, hown, hts⟩ (c_X6_lost D cy a σ kept nxt cnt T len pos ph le nu va ((rc, .inl (cy, 2, .inl fl)) :: (rv, .inl (cy, 42, .inl vf)) :: Z) ) (cwV 0 hts gL_holds_X6_lost rfl rfl rfl hd_X6_lost ⟨Nat.le_of_ble_eq_true rfl, Nat.le_of_ble_eq_true rfl⟩) hK hP 0 rfl rfl rfl hl.1 rfl (Nat.le_of_ble_eq_true rfl) ⟨Nat.zero_le _, Nat.zero_le _⟩ dL_holds_150 ?_
                  refine q_neN (tgt := 169) hx hb dL_holds_153 (by decide) (by have := cl_42 (failS σ d); omega) (by have := cl_42 σ; omega) (fun c_153 => absurd (cl_same (by omega) c_140) c_153) (fun c_153 => ?_)
                  refine lv_aload_n hx hb dL_holds_156 rfl (lv_at hl 2 rfl) ?_
                  refine lv_iload hx hb dL_holds_157 (lv_at hl 6 rfl) ?_
                  refine q_cV (As := [.int (nI (d))]) (rest := []) ⟨hx, hb, hml, hown, hts⟩ (k_X6_lostIfFailed D cy a σ kept nxt cnt T len pos ph le nu va ((rc, .inl (cy, 2, .inl fl)) :: (rv, .inl (cy, 42, .inl vf)) :: Z) (d) (by omega)) (cwV 1 hts gL_holds_X6_lostIfFailed rfl rfl rfl hd_X6_lostIfFailed ⟨Nat.le_of_ble_eq_true rfl, Nat.le_of_ble_eq_true rfl⟩) hK hP 0 rfl rfl rfl hl.1 rfl (Nat.le_of_ble_eq_true rfl) ⟨Nat.zero_le _, Nat.zero_le _⟩ dL_holds_159 ?_
                  refine lv_aload_n hx hb dL_holds_162 rfl (lv_at hl 2 rfl) ?_
                  refine q_cV (As := []) (rest := [.int (nI (cl (failS σ d)))]) ⟨hx, hb, hml, hown, hts⟩ (c_X6_lost D cy a σ kept nxt cnt T len pos ph le nu va ((rc, .inl (cy, 2, .inl fl)) :: (rv, .inl (cy, 42, .inl vf)) :: Z) ) (cwV 0 hts gL_holds_X6_lost rfl rfl rfl hd_X6_lost ⟨Nat.le_of_ble_eq_true rfl, Nat.le_of_ble_eq_true rfl⟩) hK hP 0 rfl rfl rfl hl.1 rfl (Nat.le_of_ble_eq_true rfl) ⟨Nat.zero_le _, Nat.zero_le _⟩ dL_holds_163 ?_
                  refine q_geN (tgt := 171) hx hb dL_holds_166 (by decide) (by have := cl_42 (failS σ d); omega) (by have := cl_42 σ; omega) (fun c_166 => ?_) (fun c_166 => absurd c_166 (by have := cl_le σ (d := d) (by omega); omega))
                  refine lv_iinc (v := nI (d + 1)) (lv' := [(6, .int (nI (d + 1))), (4, .int (wmS σ (d + 1))), (5, .int ((wst σ (d + 1)).1)), (0, .ref (a 0)), (1, .ref (rc)), (2, .ref (rv)), (3, .int (nI (0))), (7, .int (σ (63 + d))), (8, .int (nI (g)))]) hx hb dL_holds_171 hl (k := 6) rfl (show nI (d) + nI 1 = nI (d + 1) from nI_add _ _) (by decide) rfl (fun ls hl => ?_)
                  refine lv_goto (tgt := 11) hx hb dL_holds_174 (by decide) ?_
                  exact ih_d (d + 1) (by omega) _ (lv_sub hl [3, 4, 5, 6, 1, 2, 0] rfl)
        | succ j_ ih_g =>
          intro g hn_g ls hl
          refine lv_iload hx hb dL_holds_29 (lv_at hl 8 rfl) ?_
          refine lv_bipush (v := nI 9) hx hb dL_holds_31 rfl ?_
          refine q_geN (tgt := 89) hx hb dL_holds_33 (by decide) (by omega) (by omega) (fun c_33 => absurd c_33 (by omega)) (fun c_33 => ?_)
          refine lv_aload_n hx hb dL_holds_36 rfl (lv_at hl 0 rfl) ?_
          refine lv_iload hx hb dL_holds_37 (lv_at hl 6 rfl) ?_
          refine lv_iload hx hb dL_holds_39 (lv_at hl 8 rfl) ?_
          refine q_cV (As := [.int (nI (d)), .int (nI (g))]) (rest := []) ⟨hx, hb, hml, hown, hts⟩ (k_X6_unit D cy a σ kept nxt cnt T len pos ph le nu va ((rc, .inl (cy, 2, .inl fl)) :: (rv, .inl (cy, 42, .inl vf)) :: Z) (d) (g) (by omega) (by omega)) (cwV 2 hts gL_holds_X6_unit rfl rfl rfl hd_X6_unit ⟨Nat.le_of_ble_eq_true rfl, Nat.le_of_ble_eq_true rfl⟩) hK hP 0 rfl rfl rfl hl.1 rfl (Nat.le_of_ble_eq_true rfl) ⟨Nat.zero_le _, Nat.zero_le _⟩ dL_holds_41 ?_
          refine lv_iconst (v := -1) hx hb dL_holds_44 rfl ?_
          refine lv_icmp_ne (tgt := 52) hx hb dL_holds_45 (by decide) (fun (c_45 : ¬ (vis σ (9 * d + g)) = (-1)) => ?_) (fun (c_45 : (vis σ (9 * d + g)) = (-1)) => ?_)
          · refine lv_iconst (v := nI 0) hx hb dL_holds_52 rfl ?_
            refine lv_iload hx hb dL_holds_53 (lv_at hl 8 rfl) ?_
            refine lv_iload hx hb dL_holds_55 (lv_at hl 7 rfl) ?_
            refine lv_icmp_lt (tgt := 64) hx hb dL_holds_57 (by decide) (fun (c_57 : (nI (g)) < (σ (63 + d))) => ?_) (fun (c_57 : ¬ (nI (g)) < (σ (63 + d))) => ?_)
            · refine lv_iconst (v := nI 0) hx hb dL_holds_64 rfl ?_
              refine q_neN (tgt := 81) hx hb dL_holds_65 (by decide) (by omega) (by omega) (fun c_65 => absurd c_65 (by omega)) (fun c_65 => ?_)
              refine lv_aload_n hx hb dL_holds_68 rfl (lv_at hl 0 rfl) ?_
              refine lv_iload hx hb dL_holds_69 (lv_at hl 6 rfl) ?_
              refine lv_iload hx hb dL_holds_71 (lv_at hl 8 rfl) ?_
              refine q_cV (As := [.int (nI (d)), .int (nI (g))]) (rest := []) ⟨hx, hb, hml, hown, hts⟩ (k_X6_unit D cy a σ kept nxt cnt T len pos ph le nu va ((rc, .inl (cy, 2, .inl fl)) :: (rv, .inl (cy, 42, .inl vf)) :: Z) (d) (g) (by omega) (by omega)) (cwV 2 hts gL_holds_X6_unit rfl rfl rfl hd_X6_unit ⟨Nat.le_of_ble_eq_true rfl, Nat.le_of_ble_eq_true rfl⟩) hK hP 0 rfl rfl rfl hl.1 rfl (Nat.le_of_ble_eq_true rfl) ⟨Nat.zero_le _, Nat.zero_le _⟩ dL_holds_73 ?_
              refine lv_ldc (v  := nI 65535) hx hb hown (hts (.constant RL 60 (65535)) (List.mem_of_getElem? (i := 1) rfl)) dL_holds_76 ?_
              refine lv_icmp_le (tgt := 83) hx hb dL_holds_78 (by decide) (fun (c_78 : (vis σ (9 * d + g)) ≤ (65535)) => ?_) (fun (c_78 : ¬ (vis σ (9 * d + g)) ≤ (65535)) => absurd (vs_3 h_0.1 (by omega) (by omega)) c_78)
              refine lv_iinc (v := nI (g + 1)) (lv' := [(8, .int (nI (g + 1))), (0, .ref (a 0)), (1, .ref (rc)), (2, .ref (rv)), (3, .int (nI (0))), (4, .int (wmS σ d)), (5, .int ((wst σ d).1)), (6, .int (nI (d))), (7, .int (σ (63 + d)))]) hx hb dL_holds_83 hl (k := 8) rfl (show nI (g) + nI 1 = nI (g + 1) from nI_add _ _) (by decide) rfl (fun ls hl => ?_)
              refine lv_goto (tgt := 29) hx hb dL_holds_86 (by decide) ?_
              exact ih_g (g + 1) (by omega) _ (lv_sub hl [1, 2, 3, 4, 5, 6, 7, 8, 0] rfl)
            · refine lv_iconst (v := nI 1) hx hb dL_holds_60 rfl ?_
              refine lv_goto (tgt := 65) hx hb dL_holds_61 (by decide) ?_
              refine q_neN (tgt := 81) hx hb dL_holds_65 (by decide) (by omega) (by omega) (fun c_65 => ?_) (fun c_65 => absurd c_65 (by omega))
              exact absurd (vs_2 (by omega) (by omega) c_57) c_45
          · refine lv_iconst (v := nI 1) hx hb dL_holds_48 rfl ?_
            refine lv_goto (tgt := 53) hx hb dL_holds_49 (by decide) ?_
            refine lv_iload hx hb dL_holds_53 (lv_at hl 8 rfl) ?_
            refine lv_iload hx hb dL_holds_55 (lv_at hl 7 rfl) ?_
            refine lv_icmp_lt (tgt := 64) hx hb dL_holds_57 (by decide) (fun (c_57 : (nI (g)) < (σ (63 + d))) => ?_) (fun (c_57 : ¬ (nI (g)) < (σ (63 + d))) => ?_)
            · refine lv_iconst (v := nI 0) hx hb dL_holds_64 rfl ?_
              refine q_neN (tgt := 81) hx hb dL_holds_65 (by decide) (by omega) (by omega) (fun c_65 => ?_) (fun c_65 => absurd c_65 (by omega))
              exact absurd c_45 (vs_1 h_0.1 (by omega) (by omega) c_57)
            · refine lv_iconst (v := nI 1) hx hb dL_holds_60 rfl ?_
              refine lv_goto (tgt := 65) hx hb dL_holds_61 (by decide) ?_
              refine q_neN (tgt := 81) hx hb dL_holds_65 (by decide) (by omega) (by omega) (fun c_65 => absurd c_65 (by omega)) (fun c_65 => ?_)
              refine lv_aload_n hx hb dL_holds_68 rfl (lv_at hl 0 rfl) ?_
              refine lv_iload hx hb dL_holds_69 (lv_at hl 6 rfl) ?_
              refine lv_iload hx hb dL_holds_71 (lv_at hl 8 rfl) ?_
              refine q_cV (As := [.int (nI (d)), .int (nI (g))]) (rest := []) ⟨hx, hb, hml, hown, hts⟩ (k_X6_unit D cy a σ kept nxt cnt T len pos ph le nu va ((rc, .inl (cy, 2, .inl fl)) :: (rv, .inl (cy, 42, .inl vf)) :: Z) (d) (g) (by omega) (by omega)) (cwV 2 hts gL_holds_X6_unit rfl rfl rfl hd_X6_unit ⟨Nat.le_of_ble_eq_true rfl, Nat.le_of_ble_eq_true rfl⟩) hK hP 0 rfl rfl rfl hl.1 rfl (Nat.le_of_ble_eq_true rfl) ⟨Nat.zero_le _, Nat.zero_le _⟩ dL_holds_73 ?_
              refine lv_ldc (v  := nI 65535) hx hb hown (hts (.constant RL 60 (65535)) (List.mem_of_getElem? (i := 1) rfl)) dL_holds_76 ?_
              refine lv_icmp_le (tgt := 83) hx hb dL_holds_78 (by decide) (fun (c_78 : (vis σ (9 * d + g)) ≤ (65535)) => ?_) (fun (c_78 : ¬ (vis σ (9 * d + g)) ≤ (65535)) => absurd (vs_3 h_0.1 (by omega) (by omega)) c_78)
              refine lv_iinc (v := nI (g + 1)) (lv' := [(8, .int (nI (g + 1))), (0, .ref (a 0)), (1, .ref (rc)), (2, .ref (rv)), (3, .int (nI (0))), (4, .int (wmS σ d)), (5, .int ((wst σ d).1)), (6, .int (nI (d))), (7, .int (σ (63 + d)))]) hx hb dL_holds_83 hl (k := 8) rfl (show nI (g) + nI 1 = nI (g + 1) from nI_add _ _) (by decide) rfl (fun ls hl => ?_)
              refine lv_goto (tgt := 29) hx hb dL_holds_86 (by decide) ?_
              exact ih_g (g + 1) (by omega) _ (lv_sub hl [1, 2, 3, 4, 5, 6, 7, 8, 0] rfl)
      exact lp29 (9 - 0) 0 (by omega) _ (lv_sub hl [2, 3, 4, 5, 6, 7, 8, 1, 0] rfl)
  exact lp11 (7 - 0) 0 (by omega) _ (lv_sub hl [4, 5, 6, 3, 2, 1, 0] rfl)
