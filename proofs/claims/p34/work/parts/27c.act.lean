/-! One act of the law. -/
theorem a_self (x : Int32) : x - x = 0 := by
  apply Int32.toBitVec_inj.mp
  rw [Int32.toBitVec_sub, BitVec.sub_self]
  rfl
theorem by_1 {σ : Nat → Int32} {q : Nat} (hq : q < 42) : ¬ cnS (rS σ q) 7 - cnS σ 7 ≤ 0 ∧ ¬ 3 ≤ cnS (rS σ q) 7 - cnS σ 7 := by
  rcases cnS_rS (σ := σ) hq with h | h
  · rw [h, a_sub]; decide
  · rw [h, a_sub]; decide
theorem un_pos {σ : Nat → Int32} {d : Nat} (hd : d < 7) (h : ¬ σ (63 + d) = 9) : 1 ≤ unS σ 7 := by
  rcases Nat.eq_zero_or_pos (unS σ 7) with z | z
  · have h2 := cntB_z 7 z d hd
    simp [h] at h2
  · exact z
theorem cntB_one {f : Nat → Bool} : ∀ n, cntB f n ≤ 1 → ∀ i j, i < n → j < n → f i = true → f j = true → i = j := by
  intro n
  induction n with
  | zero => exact fun _ i j hi => absurd hi (by omega)
  | succ n ih =>
    intro h i j hi hj fi fj
    simp only [cntB] at h
    by_cases q : f n = true
    · rw [if_pos q] at h
      have hz := cntB_z (f := f) n (by omega)
      by_cases a : i = n
      · by_cases b : j = n
        · rw [a, b]
        · rw [hz j (by omega)] at fj; cases fj
      · rw [hz i (by omega)] at fi; cases fi
    · rw [if_neg q] at h
      by_cases a : i = n
      · rw [a] at fi; exact absurd fi q
      · by_cases b : j = n
        · rw [b] at fj; exact absurd fj q
        · exact ih (by omega) i j (by omega) (by omega) fi fj
theorem un_oth0 {σ : Nat → Int32} {d : Nat} (_hd : d < 7) (h : σ (63 + d) = 9) (h0 : unS σ 7 - 0 = 0) : ∀ e, e < 7 → e ≠ d → σ (63 + e) = 9 := fun e he _ => by
  have h2 := cntB_z 7 (show unS σ 7 = 0 by omega) e he
  simpa using h2
theorem un_oth1 {σ : Nat → Int32} {d : Nat} (hd : d < 7) (h : ¬ σ (63 + d) = 9) (h0 : unS σ 7 - 1 = 0) : ∀ e, e < 7 → e ≠ d → σ (63 + e) = 9 := fun e he n => Decidable.byContradiction fun c =>
  n (cntB_one 7 (show unS σ 7 ≤ 1 by omega) e d he hd (by simp [c]) (by simp [h]))
theorem fail_63 {σ : Nat → Int32} {d : Nat} (hd : d < 7) : failS σ d (63 + d) = -1 := by rw [fail_p hd hd, if_pos rfl]
theorem vi_1 {σ : Nat → Int32} (hv : Val σ) {k : Nat} (hk : k < 63) (h : th σ k = true) : ¬ vis σ k = -1 := by
  unfold vis
  rw [h, if_pos rfl]
  obtain ⟨n, hn, e⟩ := hv.1 k hk
  rw [e]
  exact nI_ne_m1 (by omega)
theorem vi_0 {σ : Nat → Int32} {k : Nat} (h : th σ k = false) : vis σ k = -1 := by
  unfold vis
  rw [h]
  rfl
theorem vi_t {σ : Nat → Int32} {k : Nat} (h : th σ k = true) : vis σ k = σ k := by
  unfold vis
  rw [h]
  rfl
theorem co_vis {σ : Nat → Int32} {k : Nat} (hk : k < 63) (h : th σ k = true) (v : Int32) : vis (upd σ k v) k = v := by
  rw [vi_t (by rw [corr_th hk v k hk]; exact h), upd_eq]
set_option maxHeartbeats 1000000 in
set_option maxRecDepth 100000 in
theorem c_L_act {l : Launch} (hst : l.stackTraces = false) (D : va_G) (cy : ClassId) (A : Nat → Prop) (a : Nat → Nat) (σ kept : Nat → Int32) (nxt cnt : Nat) (T : Nat → Int32) (len pos : Nat) (ph le nu va : Int32) (rc rv : Nat) (fl vf : Nat → Int32) (Z : va_W) (B : Nat) (x : Int32) (w : Int32) (h_0 : nxt < 6) (h_1 : cnt ≤ 6) (h_2 : Inv σ fl vf B) (h_3 : B < 90000) : Met l yL_act wsL_act ({ frames := 9, cells := 2, slots := 48, locals := 182 } : Room) (gY D cy [.ref (a 0), .int (x), .int (w), .ref (rc), .ref (rv)] A (wX cy a σ kept nxt cnt T len pos ph le nu va ++ ((rc, .inl (cy, 2, .inl fl)) :: (rv, .inl (cy, 42, .inl vf)) :: Z))) (gE D A (actP cy a T len pos ph le nu va rc rv Z (B + 64))) 2 48 A := by
  refine q_ymi (cc := cL_act) (maxL := 12) (ret := (some .boolean)) pl_L rfl (Nat.le_of_ble_eq_true rfl) ?_
  intro p e s m below meth c ls hx hb hr hml hts hown hlocks hw hK hA hl hN hC
  have hP := hw.1
  have hl : lv_has ls 12 [(0, .ref (a 0)), (1, .int (x)), (2, .int (w)), (3, .ref (rc)), (4, .ref (rv))] := hl
  refine lv_iload_n hx hb dL_act_0 rfl (lv_at hl 1 rfl) ?_
  refine lv_bipush (v := nI 20) hx hb dL_act_1 rfl ?_
  refine q_cS (As := [.int (x), .int (nI (20))]) (rest := []) (w := []) ⟨hx, hb, hml, hown, hts⟩ (c_L_low D cy (x) (20) (by omega) (by omega)) (va_cwS 2 hts gL_act_L_low rfl rfl rfl hd_L_low ⟨Nat.le_of_ble_eq_true rfl, Nat.le_of_ble_eq_true rfl⟩) hK q_Pnil rfl hl.1 rfl (Nat.le_of_ble_eq_true rfl) ⟨Nat.zero_le _, Nat.zero_le _⟩ dL_act_3 ?_
  refine lv_istore (lv' := [(5, .int (nI (lw x % 20))), (0, .ref (a 0)), (1, .int (x)), (2, .int (w)), (3, .ref (rc)), (4, .ref (rv))]) hx hb dL_act_6 hl (by decide) rfl (fun ls hl => ?_)
  refine lv_iload_n hx hb dL_act_8 rfl (lv_at hl 3 rfl) ?_
  refine lv_bipush (v := nI 42) hx hb dL_act_9 rfl ?_
  refine q_cS (As := [.int (w), .int (nI (42))]) (rest := []) (w := []) ⟨hx, hb, hml, hown, hts⟩ (c_L_low D cy (w) (42) (by omega) (by omega)) (va_cwS 2 hts gL_act_L_low rfl rfl rfl hd_L_low ⟨Nat.le_of_ble_eq_true rfl, Nat.le_of_ble_eq_true rfl⟩) hK q_Pnil rfl hl.1 rfl (Nat.le_of_ble_eq_true rfl) ⟨Nat.zero_le _, Nat.zero_le _⟩ dL_act_11 ?_
  refine lv_istore (lv' := [(6, .int (nI (lw w % 42))), (5, .int (nI (lw x % 20))), (0, .ref (a 0)), (1, .int (x)), (2, .int (w)), (3, .ref (rc)), (4, .ref (rv))]) hx hb dL_act_14 hl (by decide) rfl (fun ls hl => ?_)
  refine lv_iload_n hx hb dL_act_16 rfl (lv_at hl 4 rfl) ?_
  refine lv_bipush (v := nI 7) hx hb dL_act_17 rfl ?_
  refine q_cS (As := [.int (w), .int (nI (7))]) (rest := []) (w := []) ⟨hx, hb, hml, hown, hts⟩ (c_L_low D cy (w) (7) (by omega) (by omega)) (va_cwS 2 hts gL_act_L_low rfl rfl rfl hd_L_low ⟨Nat.le_of_ble_eq_true rfl, Nat.le_of_ble_eq_true rfl⟩) hK q_Pnil rfl hl.1 rfl (Nat.le_of_ble_eq_true rfl) ⟨Nat.zero_le _, Nat.zero_le _⟩ dL_act_19 ?_
  refine lv_istore (lv' := [(7, .int (nI (lw w % 7))), (6, .int (nI (lw w % 42))), (5, .int (nI (lw x % 20))), (0, .ref (a 0)), (1, .int (x)), (2, .int (w)), (3, .ref (rc)), (4, .ref (rv))]) hx hb dL_act_22 hl (by decide) rfl (fun ls hl => ?_)
  obtain ⟨so, h_so, e_so⟩ : ∃ k : Nat, k < 20 ∧ lw x % 20 = k := ⟨_, Nat.mod_lt _ (by omega), rfl⟩
  rw [e_so] at hl
  obtain ⟨q, h_q, e_q⟩ : ∃ k : Nat, k < 42 ∧ lw w % 42 = k := ⟨_, Nat.mod_lt _ (by omega), rfl⟩
  rw [e_q] at hl
  obtain ⟨d, h_d, e_d⟩ : ∃ k : Nat, k < 7 ∧ lw w % 7 = k := ⟨_, Nat.mod_lt _ (by omega), rfl⟩
  rw [e_d] at hl
  have hl : lv_has ls 12 [(7, .int (nI (d))), (6, .int (nI (q))), (5, .int (nI (so))), (0, .ref (a 0)), (1, .int (x)), (2, .int (w)), (3, .ref (rc)), (4, .ref (rv))] := hl
  refine lv_iload hx hb dL_act_24 (lv_at hl 2 rfl) ?_
  refine lv_bipush (v := nI 8) hx hb dL_act_26 rfl ?_
  refine q_geN (tgt := 50) hx hb dL_act_28 (by decide) (by omega) (by omega) (fun c_28 => ?_) (fun c_28 => ?_)
  · refine lv_iload hx hb dL_act_50 (lv_at hl 2 rfl) ?_
    refine lv_bipush (v := nI 8) hx hb dL_act_52 rfl ?_
    refine q_neN (tgt := 150) hx hb dL_act_54 (by decide) (by omega) (by omega) (fun c_54 => ?_) (fun c_54 => ?_)
    · refine lv_iload hx hb dL_act_150 (lv_at hl 2 rfl) ?_
      refine lv_bipush (v := nI 11) hx hb dL_act_152 rfl ?_
      refine q_geN (tgt := 286) hx hb dL_act_154 (by decide) (by omega) (by omega) (fun c_154 => ?_) (fun c_154 => ?_)
      · refine lv_iload hx hb dL_act_286 (lv_at hl 2 rfl) ?_
        refine lv_bipush (v := nI 14) hx hb dL_act_288 rfl ?_
        refine q_geN (tgt := 301) hx hb dL_act_290 (by decide) (by omega) (by omega) (fun c_290 => ?_) (fun c_290 => ?_)
        · refine lv_iload hx hb dL_act_301 (lv_at hl 2 rfl) ?_
          refine lv_bipush (v := nI 14) hx hb dL_act_303 rfl ?_
          refine q_neN (tgt := 329) hx hb dL_act_305 (by decide) (by omega) (by omega) (fun c_305 => ?_) (fun c_305 => ?_)
          · refine lv_iload hx hb dL_act_329 (lv_at hl 2 rfl) ?_
            refine lv_bipush (v := nI 15) hx hb dL_act_331 rfl ?_
            refine q_neN (tgt := 376) hx hb dL_act_333 (by decide) (by omega) (by omega) (fun c_333 => ?_) (fun c_333 => ?_)
            · refine lv_iload hx hb dL_act_376 (lv_at hl 2 rfl) ?_
              refine lv_bipush (v := nI 16) hx hb dL_act_378 rfl ?_
              refine q_neN (tgt := 504) hx hb dL_act_380 (by decide) (by omega) (by omega) (fun c_380 => ?_) (fun c_380 => ?_)
              · refine lv_aload_n hx hb dL_act_504 rfl (lv_at hl 3 rfl) ?_
                refine q_cV (As := []) (rest := []) ⟨hx, hb, hml, hown, hts⟩ (c_X6_wrong D cy a σ kept nxt cnt T len pos ph le nu va ((rc, .inl (cy, 2, .inl fl)) :: (rv, .inl (cy, 42, .inl vf)) :: Z) ) (cwV 0 hts gL_act_X6_wrong rfl rfl rfl hd_X6_wrong ⟨Nat.le_of_ble_eq_true rfl, Nat.le_of_ble_eq_true rfl⟩) hK hP 0 rfl rfl rfl hl.1 rfl (Nat.le_of_ble_eq_true rfl) ⟨Nat.zero_le _, Nat.zero_le _⟩ dL_act_505 ?_
                refine lv_istore (lv' := [(8, .int (nI (cw σ))), (7, .int (nI (d))), (6, .int (nI (q))), (5, .int (nI (so))), (0, .ref (a 0)), (1, .int (x)), (2, .int (w)), (3, .ref (rc)), (4, .ref (rv))]) hx hb dL_act_508 hl (by decide) rfl (fun ls hl => ?_)
                refine lv_aload_n hx hb dL_act_510 rfl (lv_at hl 4 rfl) ?_
                refine q_wV0 (As := []) (rest := []) (st1 := [.int (nI (scC σ 21))]) ⟨hx, hb, hml, hown, hts⟩ (c_X6_scrub D cy A a σ kept nxt cnt T len pos ph le nu va ((rc, .inl (cy, 2, .inl fl)) :: (rv, .inl (cy, 42, .inl vf)) :: Z) (by omega) (by omega)) (cwV 0 hts gL_act_X6_scrub rfl rfl rfl hd_X6_scrub ⟨Nat.le_of_ble_eq_true rfl, Nat.le_of_ble_eq_true rfl⟩) hK hA hw 0 rfl rfl rfl hl.1 rfl rfl (Nat.le_of_ble_eq_true rfl) ⟨Nat.zero_le _, Nat.zero_le _⟩ dL_act_511 (fun H locs hw => ?_)
                have hw : wS D A (wX cy a (scS σ 21) (cpK kept σ (nxt * 86) 86) ((nxt + 1) % 6) (min (cnt + 1) 6) T len pos ph le nu va ++ ((rc, .inl (cy, 2, .inl fl)) :: (rv, .inl (cy, 42, .inl vf)) :: Z)) s H locs := hw
                have hP := hw.1
                refine lv_iload hx hb dL_act_514 (lv_at hl 0 rfl) ?_
                refine q_neN (tgt := 530) hx hb dL_act_516 (by decide) (by rw [sc_cw]; have := cw_21 σ; omega) (by have := cw_21 σ; omega) (fun c_516 => absurd (sc_cw σ) c_516) (fun c_516 => ?_)
                refine lv_aload_n hx hb dL_act_519 rfl (lv_at hl 4 rfl) ?_
                refine q_cV (As := []) (rest := []) ⟨hx, hb, hml, hown, hts⟩ (c_X6_wrong D cy a (scS σ 21) (cpK kept σ (nxt * 86) 86) ((nxt + 1) % 6) (min (cnt + 1) 6) T len pos ph le nu va ((rc, .inl (cy, 2, .inl fl)) :: (rv, .inl (cy, 42, .inl vf)) :: Z) ) (cwV 0 hts gL_act_X6_wrong rfl rfl rfl hd_X6_wrong ⟨Nat.le_of_ble_eq_true rfl, Nat.le_of_ble_eq_true rfl⟩) hK hP 0 rfl rfl rfl hl.1 rfl (Nat.le_of_ble_eq_true rfl) ⟨Nat.zero_le _, Nat.zero_le _⟩ dL_act_520 ?_
                refine q_ifneN (tgt := 530) hx hb dL_act_523 (by decide) (by have := cw_21 (scS σ 21); omega) (fun c_523 => absurd c_523 (by have := cw_Rt (Rt_sc σ); omega)) (fun c_523 => ?_)
                refine lv_iconst (v := nI 1) hx hb dL_act_526 rfl ?_
                refine lv_goto (tgt := 531) hx hb dL_act_527 (by decide) ?_
                refine W.widen (k := 2) (n := 48) (Nat.le_of_ble_eq_true rfl) (Nat.le_of_ble_eq_true rfl) ?_
                exact q_zretE true hx hb hr hlocks hw dL_act_531 rfl ⟨rfl, _, _, _, _, _, _, rfl, by omega, by omega, Inv_mono (Inv_scrub h_2) (by omega)⟩
              · refine lv_iload_n hx hb dL_act_383 rfl (lv_at hl 5 rfl) ?_
                refine lv_bipush (v := nI 12) hx hb dL_act_384 rfl ?_
                refine lv_ishr hx hb dL_act_386 ?_
                refine lv_iconst (v := nI 4) hx hb dL_act_387 rfl ?_
                refine q_cS (As := [.int ((w) >>> ((12) &&& 31)), .int (nI (4))]) (rest := []) (w := []) ⟨hx, hb, hml, hown, hts⟩ (c_L_low D cy ((w) >>> ((12) &&& 31)) (4) (by omega) (by omega)) (va_cwS 2 hts gL_act_L_low rfl rfl rfl hd_L_low ⟨Nat.le_of_ble_eq_true rfl, Nat.le_of_ble_eq_true rfl⟩) hK q_Pnil rfl hl.1 rfl (Nat.le_of_ble_eq_true rfl) ⟨Nat.zero_le _, Nat.zero_le _⟩ dL_act_388 ?_
                refine q_ifneN (tgt := 504) hx hb dL_act_391 (by decide) (by omega) (fun c_391 => ?_) (fun c_391 => ?_)
                · refine lv_aload_n hx hb dL_act_504 rfl (lv_at hl 3 rfl) ?_
                  refine q_cV (As := []) (rest := []) ⟨hx, hb, hml, hown, hts⟩ (c_X6_wrong D cy a σ kept nxt cnt T len pos ph le nu va ((rc, .inl (cy, 2, .inl fl)) :: (rv, .inl (cy, 42, .inl vf)) :: Z) ) (cwV 0 hts gL_act_X6_wrong rfl rfl rfl hd_X6_wrong ⟨Nat.le_of_ble_eq_true rfl, Nat.le_of_ble_eq_true rfl⟩) hK hP 0 rfl rfl rfl hl.1 rfl (Nat.le_of_ble_eq_true rfl) ⟨Nat.zero_le _, Nat.zero_le _⟩ dL_act_505 ?_
                  refine lv_istore (lv' := [(8, .int (nI (cw σ))), (7, .int (nI (d))), (6, .int (nI (q))), (5, .int (nI (so))), (0, .ref (a 0)), (1, .int (x)), (2, .int (w)), (3, .ref (rc)), (4, .ref (rv))]) hx hb dL_act_508 hl (by decide) rfl (fun ls hl => ?_)
                  refine lv_aload_n hx hb dL_act_510 rfl (lv_at hl 4 rfl) ?_
                  refine q_wV0 (As := []) (rest := []) (st1 := [.int (nI (scC σ 21))]) ⟨hx, hb, hml, hown, hts⟩ (c_X6_scrub D cy A a σ kept nxt cnt T len pos ph le nu va ((rc, .inl (cy, 2, .inl fl)) :: (rv, .inl (cy, 42, .inl vf)) :: Z) (by omega) (by omega)) (cwV 0 hts gL_act_X6_scrub rfl rfl rfl hd_X6_scrub ⟨Nat.le_of_ble_eq_true rfl, Nat.le_of_ble_eq_true rfl⟩) hK hA hw 0 rfl rfl rfl hl.1 rfl rfl (Nat.le_of_ble_eq_true rfl) ⟨Nat.zero_le _, Nat.zero_le _⟩ dL_act_511 (fun H locs hw => ?_)
                  have hw : wS D A (wX cy a (scS σ 21) (cpK kept σ (nxt * 86) 86) ((nxt + 1) % 6) (min (cnt + 1) 6) T len pos ph le nu va ++ ((rc, .inl (cy, 2, .inl fl)) :: (rv, .inl (cy, 42, .inl vf)) :: Z)) s H locs := hw
                  have hP := hw.1
                  refine lv_iload hx hb dL_act_514 (lv_at hl 0 rfl) ?_
                  refine q_neN (tgt := 530) hx hb dL_act_516 (by decide) (by rw [sc_cw]; have := cw_21 σ; omega) (by have := cw_21 σ; omega) (fun c_516 => absurd (sc_cw σ) c_516) (fun c_516 => ?_)
                  refine lv_aload_n hx hb dL_act_519 rfl (lv_at hl 4 rfl) ?_
                  refine q_cV (As := []) (rest := []) ⟨hx, hb, hml, hown, hts⟩ (c_X6_wrong D cy a (scS σ 21) (cpK kept σ (nxt * 86) 86) ((nxt + 1) % 6) (min (cnt + 1) 6) T len pos ph le nu va ((rc, .inl (cy, 2, .inl fl)) :: (rv, .inl (cy, 42, .inl vf)) :: Z) ) (cwV 0 hts gL_act_X6_wrong rfl rfl rfl hd_X6_wrong ⟨Nat.le_of_ble_eq_true rfl, Nat.le_of_ble_eq_true rfl⟩) hK hP 0 rfl rfl rfl hl.1 rfl (Nat.le_of_ble_eq_true rfl) ⟨Nat.zero_le _, Nat.zero_le _⟩ dL_act_520 ?_
                  refine q_ifneN (tgt := 530) hx hb dL_act_523 (by decide) (by have := cw_21 (scS σ 21); omega) (fun c_523 => absurd c_523 (by have := cw_Rt (Rt_sc σ); omega)) (fun c_523 => ?_)
                  refine lv_iconst (v := nI 1) hx hb dL_act_526 rfl ?_
                  refine lv_goto (tgt := 531) hx hb dL_act_527 (by decide) ?_
                  refine W.widen (k := 2) (n := 48) (Nat.le_of_ble_eq_true rfl) (Nat.le_of_ble_eq_true rfl) ?_
                  exact q_zretE true hx hb hr hlocks hw dL_act_531 rfl ⟨rfl, _, _, _, _, _, _, rfl, by omega, by omega, Inv_mono (Inv_scrub h_2) (by omega)⟩
                · refine lv_iload_n hx hb dL_act_394 rfl (lv_at hl 5 rfl) ?_
                  refine lv_iconst (v := nI 3) hx hb dL_act_395 rfl ?_
                  refine lv_ishr hx hb dL_act_396 ?_
                  refine lv_bipush (v := nI 9) hx hb dL_act_397 rfl ?_
                  refine q_cS (As := [.int ((w) >>> ((3) &&& 31)), .int (nI (9))]) (rest := []) (w := []) ⟨hx, hb, hml, hown, hts⟩ (c_L_low D cy ((w) >>> ((3) &&& 31)) (9) (by omega) (by omega)) (va_cwS 2 hts gL_act_L_low rfl rfl rfl hd_L_low ⟨Nat.le_of_ble_eq_true rfl, Nat.le_of_ble_eq_true rfl⟩) hK q_Pnil rfl hl.1 rfl (Nat.le_of_ble_eq_true rfl) ⟨Nat.zero_le _, Nat.zero_le _⟩ dL_act_399 ?_
                  refine lv_istore (lv' := [(8, .int (nI (lw ((w) >>> ((3) &&& 31)) % 9))), (7, .int (nI (d))), (6, .int (nI (q))), (5, .int (nI (so))), (0, .ref (a 0)), (1, .int (x)), (2, .int (w)), (3, .ref (rc)), (4, .ref (rv))]) hx hb dL_act_402 hl (by decide) rfl (fun ls hl => ?_)
                  obtain ⟨g, h_g, e_g⟩ : ∃ k : Nat, k < 9 ∧ lw ((w) >>> ((3) &&& 31)) % 9 = k := ⟨_, Nat.mod_lt _ (by omega), rfl⟩
                  rw [e_g] at hl
                  have hl : lv_has ls 12 [(8, .int (nI (g))), (7, .int (nI (d))), (6, .int (nI (q))), (5, .int (nI (so))), (0, .ref (a 0)), (1, .int (x)), (2, .int (w)), (3, .ref (rc)), (4, .ref (rv))] := hl
                  refine lv_aload_n hx hb dL_act_404 rfl (lv_at hl 4 rfl) ?_
                  refine lv_iload hx hb dL_act_405 (lv_at hl 1 rfl) ?_
                  refine lv_iload hx hb dL_act_407 (lv_at hl 0 rfl) ?_
                  refine q_cV (As := [.int (nI (d)), .int (nI (g))]) (rest := []) ⟨hx, hb, hml, hown, hts⟩ (k_X6_unit D cy a σ kept nxt cnt T len pos ph le nu va ((rc, .inl (cy, 2, .inl fl)) :: (rv, .inl (cy, 42, .inl vf)) :: Z) (d) (g) (by omega) (by omega)) (cwV 2 hts gL_act_X6_unit rfl rfl rfl hd_X6_unit ⟨Nat.le_of_ble_eq_true rfl, Nat.le_of_ble_eq_true rfl⟩) hK hP 0 rfl rfl rfl hl.1 rfl (Nat.le_of_ble_eq_true rfl) ⟨Nat.zero_le _, Nat.zero_le _⟩ dL_act_409 ?_
                  refine lv_istore (lv' := [(9, .int (vis σ (9 * d + g))), (8, .int (nI (g))), (7, .int (nI (d))), (6, .int (nI (q))), (5, .int (nI (so))), (0, .ref (a 0)), (1, .int (x)), (2, .int (w)), (3, .ref (rc)), (4, .ref (rv))]) hx hb dL_act_412 hl (by decide) rfl (fun ls hl => ?_)
                  refine lv_aload_n hx hb dL_act_414 rfl (lv_at hl 5 rfl) ?_
                  refine lv_iload hx hb dL_act_415 (lv_at hl 2 rfl) ?_
                  refine lv_iload hx hb dL_act_417 (lv_at hl 1 rfl) ?_
                  refine lv_iload_n hx hb dL_act_419 rfl (lv_at hl 7 rfl) ?_
                  refine lv_bipush (v := nI 6) hx hb dL_act_420 rfl ?_
                  refine lv_ishr hx hb dL_act_422 ?_
                  refine lv_ldc (v  := nI 65536) hx hb hown (hts (.constant RL 107 (65536)) (List.mem_of_getElem? (i := 1) rfl)) dL_act_423 ?_
                  refine q_cS (As := [.int ((w) >>> ((6) &&& 31)), .int (nI (65536))]) (rest := [.int (nI (g)), .int (nI (d)), .ref (a 0)]) (w := []) ⟨hx, hb, hml, hown, hts⟩ (c_L_low D cy ((w) >>> ((6) &&& 31)) (65536) (by omega) (by omega)) (va_cwS 2 hts gL_act_L_low rfl rfl rfl hd_L_low ⟨Nat.le_of_ble_eq_true rfl, Nat.le_of_ble_eq_true rfl⟩) hK q_Pnil rfl hl.1 rfl (Nat.le_of_ble_eq_true rfl) ⟨Nat.zero_le _, Nat.zero_le _⟩ dL_act_425 ?_
                  refine q_yS (As := [.ref (a 0), .int (nI (d)), .int (nI (g)), .int (nI (lw ((w) >>> ((6) &&& 31)) % 65536))]) (rest := []) ⟨hx, hb, hml, hown, hts⟩ (c_L_tryCorrupt hst D cy A a σ kept nxt cnt T len pos ph le nu va ((rc, .inl (cy, 2, .inl fl)) :: (rv, .inl (cy, 42, .inl vf)) :: Z) h_0 h_1 (d) (g) (lw ((w) >>> ((6) &&& 31)) % 65536) h_d h_g (Nat.mod_lt _ (by omega))) (vx_cwSW 4 hts gL_act_L_tryCorrupt rfl rfl rfl hd_L_tryCorrupt ⟨Nat.le_of_ble_eq_true rfl, Nat.le_of_ble_eq_true rfl⟩) hK hC hA hN hw rfl hl.1 rfl (Nat.le_of_ble_eq_true rfl) ⟨Nat.le_of_ble_eq_true rfl, Nat.le_of_ble_eq_true rfl⟩ dL_act_428 (fun H locs v9 w9 hp9 hw => ?_)
                  refine W.widen (k := 1) (n := 6) (Nat.le_of_ble_eq_true rfl) (Nat.le_of_ble_eq_true rfl) ?_
                  rcases hp9 with ⟨h_ok, rfl, rfl⟩ | ⟨h_ok, rfl, rfl⟩
                  · refine q_stk (show _ = ([.int (σ (9 * d + g))] : List Value) from rfl) ?_
                    have hw : wS D A (wX cy a (upd σ (9 * d + g) (nI (lw ((w) >>> ((6) &&& 31)) % 65536))) (cpK kept σ (nxt * 86) 86) ((nxt + 1) % 6) (min (cnt + 1) 6) T len pos ph le nu va ++ ((rc, .inl (cy, 2, .inl fl)) :: (rv, .inl (cy, 42, .inl vf)) :: Z)) s H locs := hw
                    have hP := hw.1
                    refine lv_istore (lv' := [(10, .int (σ (9 * d + g))), (9, .int (vis σ (9 * d + g))), (8, .int (nI (g))), (7, .int (nI (d))), (6, .int (nI (q))), (5, .int (nI (so))), (0, .ref (a 0)), (1, .int (x)), (2, .int (w)), (3, .ref (rc)), (4, .ref (rv))]) hx hb dL_act_431 hl (by decide) rfl (fun ls hl => ?_)
                    refine lv_aload_n hx hb dL_act_433 rfl (lv_at hl 9 rfl) ?_
                    refine lv_iconst (v := nI 0) hx hb dL_act_434 rfl ?_
                    refine lv_iload hx hb dL_act_435 (lv_at hl 1 rfl) ?_
                    refine lv_iconst (v := -1) hx hb dL_act_437 rfl ?_
                    refine lv_icmp_ne (tgt := 447) hx hb dL_act_438 (by decide) (fun (c_438 : ¬ (vis σ (9 * d + g)) = (-1)) => ?_) (fun (c_438 : (vis σ (9 * d + g)) = (-1)) => absurd c_438 (vi_1 h_2.1 (by omega) h_ok))
                    refine lv_iconst (v := nI 1) hx hb dL_act_447 rfl ?_
                    refine q_iast hx hb hK hw 18 rfl (by omega) (by omega) dL_act_448 (fun H locs hw => ?_)
                    have hw : wS D A (wX cy a (upd σ (9 * d + g) (nI (lw ((w) >>> ((6) &&& 31)) % 65536))) (cpK kept σ (nxt * 86) 86) ((nxt + 1) % 6) (min (cnt + 1) 6) T len pos ph le nu va ++ ((rc, .inl (cy, 2, .inl (upd fl (0) (1)))) :: (rv, .inl (cy, 42, .inl vf)) :: Z)) s H locs := hw
                    have hP := hw.1
                    refine lv_iload hx hb dL_act_449 (lv_at hl 1 rfl) ?_
                    refine lv_iconst (v := -1) hx hb dL_act_451 rfl ?_
                    refine lv_icmp_ne (tgt := 471) hx hb dL_act_452 (by decide) (fun (c_452 : ¬ (vis σ (9 * d + g)) = (-1)) => ?_) (fun (c_452 : (vis σ (9 * d + g)) = (-1)) => absurd c_452 (vi_1 h_2.1 (by omega) h_ok))
                    refine lv_iload hx hb dL_act_471 (lv_at hl 0 rfl) ?_
                    refine lv_iload hx hb dL_act_473 (lv_at hl 1 rfl) ?_
                    refine lv_icmp_ne (tgt := 502) hx hb dL_act_475 (by decide) (fun (c_475 : ¬ (σ (9 * d + g)) = (vis σ (9 * d + g))) => absurd (vi_t h_ok).symm c_475) (fun (c_475 : (σ (9 * d + g)) = (vis σ (9 * d + g))) => ?_)
                    refine lv_aload_n hx hb dL_act_478 rfl (lv_at hl 6 rfl) ?_
                    refine lv_iload hx hb dL_act_479 (lv_at hl 3 rfl) ?_
                    refine lv_iload hx hb dL_act_481 (lv_at hl 2 rfl) ?_
                    refine q_cV (As := [.int (nI (d)), .int (nI (g))]) (rest := []) ⟨hx, hb, hml, hown, hts⟩ (k_X6_unit D cy a (upd σ (9 * d + g) (nI (lw ((w) >>> ((6) &&& 31)) % 65536))) (cpK kept σ (nxt * 86) 86) ((nxt + 1) % 6) (min (cnt + 1) 6) T len pos ph le nu va ((rc, .inl (cy, 2, .inl (upd fl (0) (1)))) :: (rv, .inl (cy, 42, .inl vf)) :: Z) (d) (g) (by omega) (by omega)) (cwV 2 hts gL_act_X6_unit rfl rfl rfl hd_X6_unit ⟨Nat.le_of_ble_eq_true rfl, Nat.le_of_ble_eq_true rfl⟩) hK hP 0 rfl rfl rfl hl.1 rfl (Nat.le_of_ble_eq_true rfl) ⟨Nat.le_of_ble_eq_true rfl, Nat.le_of_ble_eq_true rfl⟩ dL_act_483 ?_
                    refine lv_iload_n hx hb dL_act_486 rfl (lv_at hl 8 rfl) ?_
                    refine lv_bipush (v := nI 6) hx hb dL_act_487 rfl ?_
                    refine lv_ishr hx hb dL_act_489 ?_
                    refine lv_ldc (v  := nI 65536) hx hb hown (hts (.constant RL 107 (65536)) (List.mem_of_getElem? (i := 1) rfl)) dL_act_490 ?_
                    refine q_cS (As := [.int ((w) >>> ((6) &&& 31)), .int (nI (65536))]) (rest := [.int (vis (upd σ (9 * d + g) (nI (lw ((w) >>> ((6) &&& 31)) % 65536))) (9 * d + g))]) (w := []) ⟨hx, hb, hml, hown, hts⟩ (c_L_low D cy ((w) >>> ((6) &&& 31)) (65536) (by omega) (by omega)) (va_cwS 2 hts gL_act_L_low rfl rfl rfl hd_L_low ⟨Nat.le_of_ble_eq_true rfl, Nat.le_of_ble_eq_true rfl⟩) hK q_Pnil rfl hl.1 rfl (Nat.le_of_ble_eq_true rfl) ⟨Nat.le_of_ble_eq_true rfl, Nat.le_of_ble_eq_true rfl⟩ dL_act_492 ?_
                    refine lv_icmp_ne (tgt := 502) hx hb dL_act_495 (by decide) (fun (c_495 : ¬ (vis (upd σ (9 * d + g) (nI (lw ((w) >>> ((6) &&& 31)) % 65536))) (9 * d + g)) = (nI (lw ((w) >>> ((6) &&& 31)) % 65536))) => absurd (co_vis (by omega) h_ok _) c_495) (fun (c_495 : (vis (upd σ (9 * d + g) (nI (lw ((w) >>> ((6) &&& 31)) % 65536))) (9 * d + g)) = (nI (lw ((w) >>> ((6) &&& 31)) % 65536))) => ?_)
                    refine lv_iconst (v := nI 1) hx hb dL_act_498 rfl ?_
                    refine lv_goto (tgt := 503) hx hb dL_act_499 (by decide) ?_
                    refine W.widen (k := 2) (n := 48) (Nat.le_of_ble_eq_true rfl) (Nat.le_of_ble_eq_true rfl) ?_
                    exact q_zretE true hx hb hr hlocks hw dL_act_503 rfl ⟨rfl, _, _, _, _, _, _, rfl, by omega, by omega, Inv_mono (Inv_corrupt h_2 (by omega) (Nat.mod_lt _ (by omega))) (by omega)⟩
                  · refine q_stk (show _ = ([.int (-7002)] : List Value) from rfl) ?_
                    have hw : wS D A (wX cy a σ kept nxt cnt T len pos ph le nu va ++ ((rc, .inl (cy, 2, .inl fl)) :: (rv, .inl (cy, 42, .inl vf)) :: Z)) s H locs := hw
                    have hP := hw.1
                    refine lv_istore (lv' := [(10, .int (-7002)), (9, .int (vis σ (9 * d + g))), (8, .int (nI (g))), (7, .int (nI (d))), (6, .int (nI (q))), (5, .int (nI (so))), (0, .ref (a 0)), (1, .int (x)), (2, .int (w)), (3, .ref (rc)), (4, .ref (rv))]) hx hb dL_act_431 hl (by decide) rfl (fun ls hl => ?_)
                    refine lv_aload_n hx hb dL_act_433 rfl (lv_at hl 9 rfl) ?_
                    refine lv_iconst (v := nI 0) hx hb dL_act_434 rfl ?_
                    refine lv_iload hx hb dL_act_435 (lv_at hl 1 rfl) ?_
                    refine lv_iconst (v := -1) hx hb dL_act_437 rfl ?_
                    refine lv_icmp_ne (tgt := 447) hx hb dL_act_438 (by decide) (fun (c_438 : ¬ (vis σ (9 * d + g)) = (-1)) => absurd (vi_0 h_ok) c_438) (fun (c_438 : (vis σ (9 * d + g)) = (-1)) => ?_)
                    refine lv_aload_n hx hb dL_act_441 rfl (lv_at hl 9 rfl) ?_
                    refine lv_iconst (v := nI 0) hx hb dL_act_442 rfl ?_
                    refine q_iald hx hb hK hP 18 rfl (by omega) (by omega) dL_act_443 ?_
                    refine lv_goto (tgt := 448) hx hb dL_act_444 (by decide) ?_
                    refine q_iast hx hb hK hw 18 rfl (by omega) (by omega) dL_act_448 (fun H locs hw => ?_)
                    have hw : wS D A (wX cy a σ kept nxt cnt T len pos ph le nu va ++ ((rc, .inl (cy, 2, .inl (upd fl (0) (fl (0))))) :: (rv, .inl (cy, 42, .inl vf)) :: Z)) s H locs := hw
                    have hP := hw.1
                    refine lv_iload hx hb dL_act_449 (lv_at hl 1 rfl) ?_
                    refine lv_iconst (v := -1) hx hb dL_act_451 rfl ?_
                    refine lv_icmp_ne (tgt := 471) hx hb dL_act_452 (by decide) (fun (c_452 : ¬ (vis σ (9 * d + g)) = (-1)) => absurd (vi_0 h_ok) c_452) (fun (c_452 : (vis σ (9 * d + g)) = (-1)) => ?_)
                    refine lv_iload hx hb dL_act_455 (lv_at hl 0 rfl) ?_
                    refine lv_sipush (v := -7002) hx hb dL_act_457 rfl ?_
                    refine lv_icmp_ne (tgt := 467) hx hb dL_act_460 (by decide) (fun (c_460 : ¬ (-7002) = (-7002)) => absurd rfl c_460) (fun (c_460 : (-7002) = (-7002)) => ?_)
                    refine lv_iconst (v := nI 1) hx hb dL_act_463 rfl ?_
                    refine lv_goto (tgt := 503) hx hb dL_act_464 (by decide) ?_
                    refine W.widen (k := 2) (n := 48) (Nat.le_of_ble_eq_true rfl) (Nat.le_of_ble_eq_true rfl) ?_
                    exact q_zretE true hx hb hr hlocks hw dL_act_503 rfl ⟨rfl, _, _, _, _, _, _, rfl, by omega, by omega, Inv_mono (by rw [upd_self]; exact h_2) (by omega)⟩
            · refine lv_aload_n hx hb dL_act_336 rfl (lv_at hl 3 rfl) ?_
              refine q_cV (As := []) (rest := []) ⟨hx, hb, hml, hown, hts⟩ (c_X6_spares D cy a σ kept nxt cnt T len pos ph le nu va ((rc, .inl (cy, 2, .inl fl)) :: (rv, .inl (cy, 42, .inl vf)) :: Z) ) (cwV 0 hts gL_act_X6_spares rfl rfl rfl hd_X6_spares ⟨Nat.le_of_ble_eq_true rfl, Nat.le_of_ble_eq_true rfl⟩) hK hP 0 rfl rfl rfl hl.1 rfl (Nat.le_of_ble_eq_true rfl) ⟨Nat.zero_le _, Nat.zero_le _⟩ dL_act_337 ?_
              refine lv_istore (lv' := [(8, .int (σ 84)), (7, .int (nI (d))), (6, .int (nI (q))), (5, .int (nI (so))), (0, .ref (a 0)), (1, .int (x)), (2, .int (w)), (3, .ref (rc)), (4, .ref (rv))]) hx hb dL_act_340 hl (by decide) rfl (fun ls hl => ?_)
              refine lv_iload hx hb dL_act_342 (lv_at hl 0 rfl) ?_
              refine lv_iconst (v := nI 5) hx hb dL_act_344 rfl ?_
              refine lv_icmp_eq (tgt := 370) hx hb dL_act_345 (by decide) (fun (c_345 : (σ 84) = (5)) => ?_) (fun (c_345 : ¬ (σ 84) = (5)) => ?_)
              · refine lv_iconst (v := nI 1) hx hb dL_act_370 rfl ?_
                refine lv_goto (tgt := 375) hx hb dL_act_371 (by decide) ?_
                refine W.widen (k := 2) (n := 48) (Nat.le_of_ble_eq_true rfl) (Nat.le_of_ble_eq_true rfl) ?_
                exact q_zretE true hx hb hr hlocks hw dL_act_375 rfl ⟨rfl, _, _, _, _, _, _, rfl, by omega, by omega, Inv_mono h_2 (by omega)⟩
              · refine lv_aload_n hx hb dL_act_348 rfl (lv_at hl 4 rfl) ?_
                refine q_wV0 (As := []) (rest := []) (st1 := [.int (σ 84 + 1)]) ⟨hx, hb, hml, hown, hts⟩ (k_X6_addSpare D cy A a σ kept nxt cnt T len pos ph le nu va ((rc, .inl (cy, 2, .inl fl)) :: (rv, .inl (cy, 42, .inl vf)) :: Z) (by omega) (by omega) h_2.1 c_345) (cwV 0 hts gL_act_X6_addSpare rfl rfl rfl hd_X6_addSpare ⟨Nat.le_of_ble_eq_true rfl, Nat.le_of_ble_eq_true rfl⟩) hK hA hw 0 rfl rfl rfl hl.1 rfl rfl (Nat.le_of_ble_eq_true rfl) ⟨Nat.zero_le _, Nat.zero_le _⟩ dL_act_349 (fun H locs hw => ?_)
                have hw : wS D A (wX cy a (upd σ 84 (σ 84 + 1)) (cpK kept σ (nxt * 86) 86) ((nxt + 1) % 6) (min (cnt + 1) 6) T len pos ph le nu va ++ ((rc, .inl (cy, 2, .inl fl)) :: (rv, .inl (cy, 42, .inl vf)) :: Z)) s H locs := hw
                have hP := hw.1
                refine lv_iload hx hb dL_act_352 (lv_at hl 0 rfl) ?_
                refine lv_iconst (v := nI 1) hx hb dL_act_354 rfl ?_
                refine lv_iadd hx hb dL_act_355 ?_
                refine lv_icmp_ne (tgt := 374) hx hb dL_act_356 (by decide) (fun (c_356 : ¬ (σ 84 + 1) = ((σ 84) + 1)) => absurd rfl c_356) (fun (c_356 : (σ 84 + 1) = ((σ 84) + 1)) => ?_)
                refine lv_aload_n hx hb dL_act_359 rfl (lv_at hl 4 rfl) ?_
                refine q_cV (As := []) (rest := []) ⟨hx, hb, hml, hown, hts⟩ (c_X6_spares D cy a (upd σ 84 (σ 84 + 1)) (cpK kept σ (nxt * 86) 86) ((nxt + 1) % 6) (min (cnt + 1) 6) T len pos ph le nu va ((rc, .inl (cy, 2, .inl fl)) :: (rv, .inl (cy, 42, .inl vf)) :: Z) ) (cwV 0 hts gL_act_X6_spares rfl rfl rfl hd_X6_spares ⟨Nat.le_of_ble_eq_true rfl, Nat.le_of_ble_eq_true rfl⟩) hK hP 0 rfl rfl rfl hl.1 rfl (Nat.le_of_ble_eq_true rfl) ⟨Nat.zero_le _, Nat.zero_le _⟩ dL_act_360 ?_
                refine lv_iload hx hb dL_act_363 (lv_at hl 0 rfl) ?_
                refine lv_iconst (v := nI 1) hx hb dL_act_365 rfl ?_
                refine lv_iadd hx hb dL_act_366 ?_
                refine lv_icmp_ne (tgt := 374) hx hb dL_act_367 (by decide) (fun (c_367 : ¬ ((upd σ 84 (σ 84 + 1)) 84) = ((σ 84) + 1)) => absurd (upd_eq _ _ _) c_367) (fun (c_367 : ((upd σ 84 (σ 84 + 1)) 84) = ((σ 84) + 1)) => ?_)
                refine lv_iconst (v := nI 1) hx hb dL_act_370 rfl ?_
                refine lv_goto (tgt := 375) hx hb dL_act_371 (by decide) ?_
                refine W.widen (k := 2) (n := 48) (Nat.le_of_ble_eq_true rfl) (Nat.le_of_ble_eq_true rfl) ?_
                exact q_zretE true hx hb hr hlocks hw dL_act_375 rfl ⟨rfl, _, _, _, _, _, _, rfl, by omega, by omega, Inv_mono (Inv_spare h_2 c_345) (by omega)⟩
          · refine lv_aload_n hx hb dL_act_308 rfl (lv_at hl 3 rfl) ?_
            refine lv_iconst (v := nI 1) hx hb dL_act_309 rfl ?_
            refine lv_iload_n hx hb dL_act_310 rfl (lv_at hl 5 rfl) ?_
            refine lv_bipush (v := nI 9) hx hb dL_act_311 rfl ?_
            refine q_cS (As := [.int (w), .int (nI (9))]) (rest := [.int (nI (1)), .ref (a 0)]) (w := []) ⟨hx, hb, hml, hown, hts⟩ (c_L_low D cy (w) (9) (by omega) (by omega)) (va_cwS 2 hts gL_act_L_low rfl rfl rfl hd_L_low ⟨Nat.le_of_ble_eq_true rfl, Nat.le_of_ble_eq_true rfl⟩) hK q_Pnil rfl hl.1 rfl (Nat.le_of_ble_eq_true rfl) ⟨Nat.zero_le _, Nat.zero_le _⟩ dL_act_313 ?_
            refine q_addN hx hb dL_act_316 ?_
            refine q_wV0 (As := [.int (nI (1 + (lw w % 9)))]) (rest := []) (st1 := [.int (nI ((mnS (1 + (lw w % 9)) σ).2))]) ⟨hx, hb, hml, hown, hts⟩ (k_X6_mend D cy A a σ kept nxt cnt T len pos ph le nu va ((rc, .inl (cy, 2, .inl fl)) :: (rv, .inl (cy, 42, .inl vf)) :: Z) (1 + (lw w % 9)) (by omega) (by omega) (by omega) (by omega) h_2.1) (cwV 1 hts gL_act_X6_mend rfl rfl rfl hd_X6_mend ⟨Nat.le_of_ble_eq_true rfl, Nat.le_of_ble_eq_true rfl⟩) hK hA hw 0 rfl rfl rfl hl.1 rfl rfl (Nat.le_of_ble_eq_true rfl) ⟨Nat.zero_le _, Nat.zero_le _⟩ dL_act_317 (fun H locs hw => ?_)
            have hw : wS D A (wX cy a ((mnS (1 + (lw w % 9)) σ).1) (cpK kept σ (nxt * 86) 86) ((nxt + 1) % 6) (min (cnt + 1) 6) T len pos ph le nu va ++ ((rc, .inl (cy, 2, .inl fl)) :: (rv, .inl (cy, 42, .inl vf)) :: Z)) s H locs := hw
            have hP := hw.1
            refine q_iflt_N (tgt := 327) hx hb dL_act_320 (by decide) (by have := mn_le (1 + lw w % 9) σ; omega) ?_
            refine lv_iconst (v := nI 1) hx hb dL_act_323 rfl ?_
            refine lv_goto (tgt := 328) hx hb dL_act_324 (by decide) ?_
            refine W.widen (k := 2) (n := 48) (Nat.le_of_ble_eq_true rfl) (Nat.le_of_ble_eq_true rfl) ?_
            exact q_zretE true hx hb hr hlocks hw dL_act_328 rfl ⟨rfl, _, _, _, _, _, _, rfl, by omega, by omega, Inv_mono (Inv_mn (1 + lw w % 9) (by omega) h_2) (by omega)⟩
        · refine lv_aload_n hx hb dL_act_293 rfl (lv_at hl 3 rfl) ?_
          refine lv_iload hx hb dL_act_294 (lv_at hl 0 rfl) ?_
          refine lv_aload_n hx hb dL_act_296 rfl (lv_at hl 6 rfl) ?_
          refine q_yM (As := [.ref (a 0), .int (nI (d)), .ref (rc)]) (rest := []) ⟨hx, hb, hml, hown, hts⟩ (c_L_mends hst D cy A a σ kept nxt cnt T len pos ph le nu va rc rv fl vf Z B (d) h_d h_0 h_1 h_2 h_3) (va_cwS 3 hts gL_act_L_mends rfl rfl rfl hd_L_mends ⟨Nat.le_of_ble_eq_true rfl, Nat.le_of_ble_eq_true rfl⟩) hK hC hA hN hw rfl hl.1 rfl (Nat.le_of_ble_eq_true rfl) ⟨Nat.le_of_ble_eq_true rfl, Nat.le_of_ble_eq_true rfl⟩ dL_act_297 (fun H locs v9 w9 hp9 hw => ?_)
          refine W.widen (k := 2) (n := 48) (Nat.le_of_ble_eq_true rfl) (Nat.le_of_ble_eq_true rfl) ?_
          obtain ⟨rfl, σ1, kept1, n1, c1, fl1, vf1, rfl, h1, h2, h3⟩ := hp9
          refine q_stk (show _ = ([.int (bI true)] : List Value) from rfl) ?_
          exact q_zretE true hx hb hr hlocks hw dL_act_300 rfl ⟨rfl, _, _, _, _, _, _, rfl, h1, h2, h3⟩
      · refine lv_aload_n hx hb dL_act_157 rfl (lv_at hl 3 rfl) ?_
        refine lv_iload hx hb dL_act_158 (lv_at hl 0 rfl) ?_
        refine q_cV (As := [.int (nI (d))]) (rest := []) ⟨hx, hb, hml, hown, hts⟩ (k_X6_lostIfFailed D cy a σ kept nxt cnt T len pos ph le nu va ((rc, .inl (cy, 2, .inl fl)) :: (rv, .inl (cy, 42, .inl vf)) :: Z) (d) (by omega)) (cwV 1 hts gL_act_X6_lostIfFailed rfl rfl rfl hd_X6_lostIfFailed ⟨Nat.le_of_ble_eq_true rfl, Nat.le_of_ble_eq_true rfl⟩) hK hP 0 rfl rfl rfl hl.1 rfl (Nat.le_of_ble_eq_true rfl) ⟨Nat.zero_le _, Nat.zero_le _⟩ dL_act_160 ?_
        refine lv_istore (lv' := [(8, .int (nI (cl (failS σ d)))), (7, .int (nI (d))), (6, .int (nI (q))), (5, .int (nI (so))), (0, .ref (a 0)), (1, .int (x)), (2, .int (w)), (3, .ref (rc)), (4, .ref (rv))]) hx hb dL_act_163 hl (by decide) rfl (fun ls hl => ?_)
        refine lv_aload_n hx hb dL_act_165 rfl (lv_at hl 4 rfl) ?_
        refine lv_iload hx hb dL_act_166 (lv_at hl 1 rfl) ?_
        refine q_cV (As := [.int (nI (d))]) (rest := []) ⟨hx, hb, hml, hown, hts⟩ (k_X6_state D cy a σ kept nxt cnt T len pos ph le nu va ((rc, .inl (cy, 2, .inl fl)) :: (rv, .inl (cy, 42, .inl vf)) :: Z) (d) (by omega)) (cwV 1 hts gL_act_X6_state rfl rfl rfl hd_X6_state ⟨Nat.le_of_ble_eq_true rfl, Nat.le_of_ble_eq_true rfl⟩) hK hP 0 rfl rfl rfl hl.1 rfl (Nat.le_of_ble_eq_true rfl) ⟨Nat.zero_le _, Nat.zero_le _⟩ dL_act_168 ?_
        refine lv_istore (lv' := [(9, .int (σ (63 + d))), (8, .int (nI (cl (failS σ d)))), (7, .int (nI (d))), (6, .int (nI (q))), (5, .int (nI (so))), (0, .ref (a 0)), (1, .int (x)), (2, .int (w)), (3, .ref (rc)), (4, .ref (rv))]) hx hb dL_act_171 hl (by decide) rfl (fun ls hl => ?_)
        refine lv_aload_n hx hb dL_act_173 rfl (lv_at hl 5 rfl) ?_
        refine q_cS (As := [.ref (a 0)]) (rest := []) (w := []) ⟨hx, hb, hml, hown, hts⟩ (c_L_unsound D cy a σ kept nxt cnt T len pos ph le nu va ((rc, .inl (cy, 2, .inl fl)) :: (rv, .inl (cy, 42, .inl vf)) :: Z) ) (va_cwS 1 hts gL_act_L_unsound rfl rfl rfl hd_L_unsound ⟨Nat.le_of_ble_eq_true rfl, Nat.le_of_ble_eq_true rfl⟩) hK hP rfl hl.1 rfl (Nat.le_of_ble_eq_true rfl) ⟨Nat.zero_le _, Nat.zero_le _⟩ dL_act_174 ?_
        refine lv_iload hx hb dL_act_177 (lv_at hl 0 rfl) ?_
        refine lv_bipush (v := nI 9) hx hb dL_act_179 rfl ?_
        refine lv_icmp_ne (tgt := 188) hx hb dL_act_181 (by decide) (fun (c_181 : ¬ (σ (63 + d)) = (9)) => ?_) (fun (c_181 : (σ (63 + d)) = (9)) => ?_)
        · refine lv_iconst (v := nI 1) hx hb dL_act_188 rfl ?_
          refine q_subN hx hb dL_act_189 (by first | omega | exact un_pos h_d c_181) ?_
          refine lv_istore (lv' := [(10, .int (nI ((unS σ 7) - 1))), (9, .int (σ (63 + d))), (8, .int (nI (cl (failS σ d)))), (7, .int (nI (d))), (6, .int (nI (q))), (5, .int (nI (so))), (0, .ref (a 0)), (1, .int (x)), (2, .int (w)), (3, .ref (rc)), (4, .ref (rv))]) hx hb dL_act_190 hl (by decide) rfl (fun ls hl => ?_)
          refine lv_iload hx hb dL_act_192 (lv_at hl 0 rfl) ?_
          refine q_ifleN (tgt := 209) hx hb dL_act_194 (by decide) (by have := unS_le σ 7; omega) (fun c_194 => ?_) (fun c_194 => ?_)
          · refine lv_aload_n hx hb dL_act_209 rfl (lv_at hl 6 rfl) ?_
            refine lv_iload hx hb dL_act_210 (lv_at hl 3 rfl) ?_
            refine q_yS (As := [.ref (a 0), .int (nI (d))]) (rest := []) ⟨hx, hb, hml, hown, hts⟩ (c_L_tryFail hst D cy A a σ kept nxt cnt T len pos ph le nu va ((rc, .inl (cy, 2, .inl fl)) :: (rv, .inl (cy, 42, .inl vf)) :: Z) h_0 h_1 (d) h_d) (vx_cwSW 2 hts gL_act_L_tryFail rfl rfl rfl hd_L_tryFail ⟨Nat.le_of_ble_eq_true rfl, Nat.le_of_ble_eq_true rfl⟩) hK hC hA hN hw rfl hl.1 rfl (Nat.le_of_ble_eq_true rfl) ⟨Nat.le_of_ble_eq_true rfl, Nat.le_of_ble_eq_true rfl⟩ dL_act_212 (fun H locs v9 w9 hp9 hw => ?_)
            refine W.widen (k := 1) (n := 6) (Nat.le_of_ble_eq_true rfl) (Nat.le_of_ble_eq_true rfl) ?_
            rcases hp9 with ⟨h_ok, rfl, rfl⟩ | ⟨h_ok, rfl, rfl⟩
            · refine q_stk (show _ = ([.int (nI (cl (failS σ d)))] : List Value) from rfl) ?_
              have hw : wS D A (wX cy a (failS σ d) (cpK kept σ (nxt * 86) 86) ((nxt + 1) % 6) (min (cnt + 1) 6) T len pos ph le nu va ++ ((rc, .inl (cy, 2, .inl fl)) :: (rv, .inl (cy, 42, .inl vf)) :: Z)) s H locs := hw
              have hP := hw.1
              refine lv_istore (lv' := [(11, .int (nI (cl (failS σ d)))), (10, .int (nI ((unS σ 7) - 1))), (9, .int (σ (63 + d))), (8, .int (nI (cl (failS σ d)))), (7, .int (nI (d))), (6, .int (nI (q))), (5, .int (nI (so))), (0, .ref (a 0)), (1, .int (x)), (2, .int (w)), (3, .ref (rc)), (4, .ref (rv))]) hx hb dL_act_215 hl (by decide) rfl (fun ls hl => ?_)
              refine lv_aload_n hx hb dL_act_217 rfl (lv_at hl 10 rfl) ?_
              refine lv_iconst (v := nI 1) hx hb dL_act_218 rfl ?_
              refine lv_iload hx hb dL_act_219 (lv_at hl 1 rfl) ?_
              refine q_ifleN (tgt := 228) hx hb dL_act_221 (by decide) (by have := unS_le σ 7; omega) (fun c_221 => ?_) (fun c_221 => absurd c_221 (by omega))
              refine lv_aload_n hx hb dL_act_228 rfl (lv_at hl 10 rfl) ?_
              refine lv_iconst (v := nI 1) hx hb dL_act_229 rfl ?_
              refine q_iald hx hb hK hP 18 rfl (by omega) (by omega) dL_act_230 ?_
              refine q_iast hx hb hK hw 18 rfl (by omega) (by omega) dL_act_231 (fun H locs hw => ?_)
              have hw : wS D A (wX cy a (failS σ d) (cpK kept σ (nxt * 86) 86) ((nxt + 1) % 6) (min (cnt + 1) 6) T len pos ph le nu va ++ ((rc, .inl (cy, 2, .inl (upd fl (1) (fl (1))))) :: (rv, .inl (cy, 42, .inl vf)) :: Z)) s H locs := hw
              have hP := hw.1
              refine lv_iload hx hb dL_act_232 (lv_at hl 2 rfl) ?_
              refine lv_iconst (v := -1) hx hb dL_act_234 rfl ?_
              refine lv_icmp_ne (tgt := 254) hx hb dL_act_235 (by decide) (fun (c_235 : ¬ (σ (63 + d)) = (-1)) => ?_) (fun (c_235 : (σ (63 + d)) = (-1)) => absurd c_235 h_ok)
              refine lv_iload hx hb dL_act_254 (lv_at hl 0 rfl) ?_
              refine lv_iload hx hb dL_act_256 (lv_at hl 3 rfl) ?_
              refine q_neN (tgt := 284) hx hb dL_act_258 (by decide) (by have := cl_42 (failS σ d); omega) (by have := cl_42 (failS σ d); omega) (fun c_258 => absurd rfl c_258) (fun c_258 => ?_)
              refine lv_aload_n hx hb dL_act_261 rfl (lv_at hl 7 rfl) ?_
              refine q_cV (As := []) (rest := []) ⟨hx, hb, hml, hown, hts⟩ (c_X6_lost D cy a (failS σ d) (cpK kept σ (nxt * 86) 86) ((nxt + 1) % 6) (min (cnt + 1) 6) T len pos ph le nu va ((rc, .inl (cy, 2, .inl (upd fl (1) (fl (1))))) :: (rv, .inl (cy, 42, .inl vf)) :: Z) ) (cwV 0 hts gL_act_X6_lost rfl rfl rfl hd_X6_lost ⟨Nat.le_of_ble_eq_true rfl, Nat.le_of_ble_eq_true rfl⟩) hK hP 0 rfl rfl rfl hl.1 rfl (Nat.le_of_ble_eq_true rfl) ⟨Nat.le_of_ble_eq_true rfl, Nat.le_of_ble_eq_true rfl⟩ dL_act_262 ?_
              refine lv_iload hx hb dL_act_265 (lv_at hl 3 rfl) ?_
              refine q_neN (tgt := 284) hx hb dL_act_267 (by decide) (by have := cl_42 (failS σ d); omega) (by have := cl_42 (failS σ d); omega) (fun c_267 => absurd rfl c_267) (fun c_267 => ?_)
              refine lv_aload_n hx hb dL_act_270 rfl (lv_at hl 7 rfl) ?_
              refine lv_iload hx hb dL_act_271 (lv_at hl 4 rfl) ?_
              refine q_cV (As := [.int (nI (d))]) (rest := []) ⟨hx, hb, hml, hown, hts⟩ (k_X6_state D cy a (failS σ d) (cpK kept σ (nxt * 86) 86) ((nxt + 1) % 6) (min (cnt + 1) 6) T len pos ph le nu va ((rc, .inl (cy, 2, .inl (upd fl (1) (fl (1))))) :: (rv, .inl (cy, 42, .inl vf)) :: Z) (d) (by omega)) (cwV 1 hts gL_act_X6_state rfl rfl rfl hd_X6_state ⟨Nat.le_of_ble_eq_true rfl, Nat.le_of_ble_eq_true rfl⟩) hK hP 0 rfl rfl rfl hl.1 rfl (Nat.le_of_ble_eq_true rfl) ⟨Nat.le_of_ble_eq_true rfl, Nat.le_of_ble_eq_true rfl⟩ dL_act_273 ?_
              refine lv_iconst (v := -1) hx hb dL_act_276 rfl ?_
              refine lv_icmp_ne (tgt := 284) hx hb dL_act_277 (by decide) (fun (c_277 : ¬ ((failS σ d) (63 + d)) = (-1)) => absurd (fail_63 h_d) c_277) (fun (c_277 : ((failS σ d) (63 + d)) = (-1)) => ?_)
              refine lv_iconst (v := nI 1) hx hb dL_act_280 rfl ?_
              refine lv_goto (tgt := 285) hx hb dL_act_281 (by decide) ?_
              refine W.widen (k := 2) (n := 48) (Nat.le_of_ble_eq_true rfl) (Nat.le_of_ble_eq_true rfl) ?_
              exact q_zretE true hx hb hr hlocks hw dL_act_285 rfl ⟨rfl, _, _, _, _, _, _, rfl, by omega, by omega, Inv_mono (by rw [upd_self]; exact Inv_fail h_2 h_d (fun _ => un_oth1 h_d c_181 c_194)) (by omega)⟩
            · refine q_stk (show _ = ([.int (-7002)] : List Value) from rfl) ?_
              have hw : wS D A (wX cy a σ kept nxt cnt T len pos ph le nu va ++ ((rc, .inl (cy, 2, .inl fl)) :: (rv, .inl (cy, 42, .inl vf)) :: Z)) s H locs := hw
              have hP := hw.1
              refine lv_istore (lv' := [(11, .int (-7002)), (10, .int (nI ((unS σ 7) - 1))), (9, .int (σ (63 + d))), (8, .int (nI (cl (failS σ d)))), (7, .int (nI (d))), (6, .int (nI (q))), (5, .int (nI (so))), (0, .ref (a 0)), (1, .int (x)), (2, .int (w)), (3, .ref (rc)), (4, .ref (rv))]) hx hb dL_act_215 hl (by decide) rfl (fun ls hl => ?_)
              refine lv_aload_n hx hb dL_act_217 rfl (lv_at hl 10 rfl) ?_
              refine lv_iconst (v := nI 1) hx hb dL_act_218 rfl ?_
              refine lv_iload hx hb dL_act_219 (lv_at hl 1 rfl) ?_
              refine q_ifleN (tgt := 228) hx hb dL_act_221 (by decide) (by have := unS_le σ 7; omega) (fun c_221 => ?_) (fun c_221 => absurd c_221 (by omega))
              refine lv_aload_n hx hb dL_act_228 rfl (lv_at hl 10 rfl) ?_
              refine lv_iconst (v := nI 1) hx hb dL_act_229 rfl ?_
              refine q_iald hx hb hK hP 18 rfl (by omega) (by omega) dL_act_230 ?_
              refine q_iast hx hb hK hw 18 rfl (by omega) (by omega) dL_act_231 (fun H locs hw => ?_)
              have hw : wS D A (wX cy a σ kept nxt cnt T len pos ph le nu va ++ ((rc, .inl (cy, 2, .inl (upd fl (1) (fl (1))))) :: (rv, .inl (cy, 42, .inl vf)) :: Z)) s H locs := hw
              have hP := hw.1
              refine lv_iload hx hb dL_act_232 (lv_at hl 2 rfl) ?_
              refine lv_iconst (v := -1) hx hb dL_act_234 rfl ?_
              refine lv_icmp_ne (tgt := 254) hx hb dL_act_235 (by decide) (fun (c_235 : ¬ (σ (63 + d)) = (-1)) => absurd h_ok c_235) (fun (c_235 : (σ (63 + d)) = (-1)) => ?_)
              refine lv_iload hx hb dL_act_238 (lv_at hl 0 rfl) ?_
              refine lv_sipush (v := -7002) hx hb dL_act_240 rfl ?_
              refine lv_icmp_ne (tgt := 250) hx hb dL_act_243 (by decide) (fun (c_243 : ¬ (-7002) = (-7002)) => absurd rfl c_243) (fun (c_243 : (-7002) = (-7002)) => ?_)
              refine lv_iconst (v := nI 1) hx hb dL_act_246 rfl ?_
              refine lv_goto (tgt := 285) hx hb dL_act_247 (by decide) ?_
              refine W.widen (k := 2) (n := 48) (Nat.le_of_ble_eq_true rfl) (Nat.le_of_ble_eq_true rfl) ?_
              exact q_zretE true hx hb hr hlocks hw dL_act_285 rfl ⟨rfl, _, _, _, _, _, _, rfl, by omega, by omega, Inv_mono (by rw [upd_self]; exact h_2) (by omega)⟩
          · refine lv_iload_n hx hb dL_act_197 rfl (lv_at hl 8 rfl) ?_
            refine lv_iconst (v := nI 4) hx hb dL_act_198 rfl ?_
            refine lv_ishr hx hb dL_act_199 ?_
            refine lv_iconst (v := nI 3) hx hb dL_act_200 rfl ?_
            refine q_cS (As := [.int ((w) >>> ((4) &&& 31)), .int (nI (3))]) (rest := []) (w := []) ⟨hx, hb, hml, hown, hts⟩ (c_L_low D cy ((w) >>> ((4) &&& 31)) (3) (by omega) (by omega)) (va_cwS 2 hts gL_act_L_low rfl rfl rfl hd_L_low ⟨Nat.le_of_ble_eq_true rfl, Nat.le_of_ble_eq_true rfl⟩) hK q_Pnil rfl hl.1 rfl (Nat.le_of_ble_eq_true rfl) ⟨Nat.zero_le _, Nat.zero_le _⟩ dL_act_201 ?_
            refine q_ifleN (tgt := 209) hx hb dL_act_204 (by decide) (by omega) (fun c_204 => ?_) (fun c_204 => ?_)
            · refine lv_aload_n hx hb dL_act_209 rfl (lv_at hl 6 rfl) ?_
              refine lv_iload hx hb dL_act_210 (lv_at hl 3 rfl) ?_
              refine q_yS (As := [.ref (a 0), .int (nI (d))]) (rest := []) ⟨hx, hb, hml, hown, hts⟩ (c_L_tryFail hst D cy A a σ kept nxt cnt T len pos ph le nu va ((rc, .inl (cy, 2, .inl fl)) :: (rv, .inl (cy, 42, .inl vf)) :: Z) h_0 h_1 (d) h_d) (vx_cwSW 2 hts gL_act_L_tryFail rfl rfl rfl hd_L_tryFail ⟨Nat.le_of_ble_eq_true rfl, Nat.le_of_ble_eq_true rfl⟩) hK hC hA hN hw rfl hl.1 rfl (Nat.le_of_ble_eq_true rfl) ⟨Nat.le_of_ble_eq_true rfl, Nat.le_of_ble_eq_true rfl⟩ dL_act_212 (fun H locs v9 w9 hp9 hw => ?_)
              refine W.widen (k := 1) (n := 6) (Nat.le_of_ble_eq_true rfl) (Nat.le_of_ble_eq_true rfl) ?_
              rcases hp9 with ⟨h_ok, rfl, rfl⟩ | ⟨h_ok, rfl, rfl⟩
              · refine q_stk (show _ = ([.int (nI (cl (failS σ d)))] : List Value) from rfl) ?_
                have hw : wS D A (wX cy a (failS σ d) (cpK kept σ (nxt * 86) 86) ((nxt + 1) % 6) (min (cnt + 1) 6) T len pos ph le nu va ++ ((rc, .inl (cy, 2, .inl fl)) :: (rv, .inl (cy, 42, .inl vf)) :: Z)) s H locs := hw
                have hP := hw.1
                refine lv_istore (lv' := [(11, .int (nI (cl (failS σ d)))), (10, .int (nI ((unS σ 7) - 1))), (9, .int (σ (63 + d))), (8, .int (nI (cl (failS σ d)))), (7, .int (nI (d))), (6, .int (nI (q))), (5, .int (nI (so))), (0, .ref (a 0)), (1, .int (x)), (2, .int (w)), (3, .ref (rc)), (4, .ref (rv))]) hx hb dL_act_215 hl (by decide) rfl (fun ls hl => ?_)
                refine lv_aload_n hx hb dL_act_217 rfl (lv_at hl 10 rfl) ?_
                refine lv_iconst (v := nI 1) hx hb dL_act_218 rfl ?_
                refine lv_iload hx hb dL_act_219 (lv_at hl 1 rfl) ?_
                refine q_ifleN (tgt := 228) hx hb dL_act_221 (by decide) (by have := unS_le σ 7; omega) (fun c_221 => absurd c_221 (by omega)) (fun c_221 => ?_)
                refine lv_iconst (v := nI 1) hx hb dL_act_224 rfl ?_
                refine lv_goto (tgt := 231) hx hb dL_act_225 (by decide) ?_
                refine q_iast hx hb hK hw 18 rfl (by omega) (by omega) dL_act_231 (fun H locs hw => ?_)
                have hw : wS D A (wX cy a (failS σ d) (cpK kept σ (nxt * 86) 86) ((nxt + 1) % 6) (min (cnt + 1) 6) T len pos ph le nu va ++ ((rc, .inl (cy, 2, .inl (upd fl (1) (1)))) :: (rv, .inl (cy, 42, .inl vf)) :: Z)) s H locs := hw
                have hP := hw.1
                refine lv_iload hx hb dL_act_232 (lv_at hl 2 rfl) ?_
                refine lv_iconst (v := -1) hx hb dL_act_234 rfl ?_
                refine lv_icmp_ne (tgt := 254) hx hb dL_act_235 (by decide) (fun (c_235 : ¬ (σ (63 + d)) = (-1)) => ?_) (fun (c_235 : (σ (63 + d)) = (-1)) => absurd c_235 h_ok)
                refine lv_iload hx hb dL_act_254 (lv_at hl 0 rfl) ?_
                refine lv_iload hx hb dL_act_256 (lv_at hl 3 rfl) ?_
                refine q_neN (tgt := 284) hx hb dL_act_258 (by decide) (by have := cl_42 (failS σ d); omega) (by have := cl_42 (failS σ d); omega) (fun c_258 => absurd rfl c_258) (fun c_258 => ?_)
                refine lv_aload_n hx hb dL_act_261 rfl (lv_at hl 7 rfl) ?_
                refine q_cV (As := []) (rest := []) ⟨hx, hb, hml, hown, hts⟩ (c_X6_lost D cy a (failS σ d) (cpK kept σ (nxt * 86) 86) ((nxt + 1) % 6) (min (cnt + 1) 6) T len pos ph le nu va ((rc, .inl (cy, 2, .inl (upd fl (1) (1)))) :: (rv, .inl (cy, 42, .inl vf)) :: Z) ) (cwV 0 hts gL_act_X6_lost rfl rfl rfl hd_X6_lost ⟨Nat.le_of_ble_eq_true rfl, Nat.le_of_ble_eq_true rfl⟩) hK hP 0 rfl rfl rfl hl.1 rfl (Nat.le_of_ble_eq_true rfl) ⟨Nat.le_of_ble_eq_true rfl, Nat.le_of_ble_eq_true rfl⟩ dL_act_262 ?_
                refine lv_iload hx hb dL_act_265 (lv_at hl 3 rfl) ?_
                refine q_neN (tgt := 284) hx hb dL_act_267 (by decide) (by have := cl_42 (failS σ d); omega) (by have := cl_42 (failS σ d); omega) (fun c_267 => absurd rfl c_267) (fun c_267 => ?_)
                refine lv_aload_n hx hb dL_act_270 rfl (lv_at hl 7 rfl) ?_
                refine lv_iload hx hb dL_act_271 (lv_at hl 4 rfl) ?_
                refine q_cV (As := [.int (nI (d))]) (rest := []) ⟨hx, hb, hml, hown, hts⟩ (k_X6_state D cy a (failS σ d) (cpK kept σ (nxt * 86) 86) ((nxt + 1) % 6) (min (cnt + 1) 6) T len pos ph le nu va ((rc, .inl (cy, 2, .inl (upd fl (1) (1)))) :: (rv, .inl (cy, 42, .inl vf)) :: Z) (d) (by omega)) (cwV 1 hts gL_act_X6_state rfl rfl rfl hd_X6_state ⟨Nat.le_of_ble_eq_true rfl, Nat.le_of_ble_eq_true rfl⟩) hK hP 0 rfl rfl rfl hl.1 rfl (Nat.le_of_ble_eq_true rfl) ⟨Nat.le_of_ble_eq_true rfl, Nat.le_of_ble_eq_true rfl⟩ dL_act_273 ?_
                refine lv_iconst (v := -1) hx hb dL_act_276 rfl ?_
                refine lv_icmp_ne (tgt := 284) hx hb dL_act_277 (by decide) (fun (c_277 : ¬ ((failS σ d) (63 + d)) = (-1)) => absurd (fail_63 h_d) c_277) (fun (c_277 : ((failS σ d) (63 + d)) = (-1)) => ?_)
                refine lv_iconst (v := nI 1) hx hb dL_act_280 rfl ?_
                refine lv_goto (tgt := 285) hx hb dL_act_281 (by decide) ?_
                refine W.widen (k := 2) (n := 48) (Nat.le_of_ble_eq_true rfl) (Nat.le_of_ble_eq_true rfl) ?_
                exact q_zretE true hx hb hr hlocks hw dL_act_285 rfl ⟨rfl, _, _, _, _, _, _, rfl, by omega, by omega, Inv_mono (Inv_fail1 h_2 h_d) (by omega)⟩
              · refine q_stk (show _ = ([.int (-7002)] : List Value) from rfl) ?_
                have hw : wS D A (wX cy a σ kept nxt cnt T len pos ph le nu va ++ ((rc, .inl (cy, 2, .inl fl)) :: (rv, .inl (cy, 42, .inl vf)) :: Z)) s H locs := hw
                have hP := hw.1
                refine lv_istore (lv' := [(11, .int (-7002)), (10, .int (nI ((unS σ 7) - 1))), (9, .int (σ (63 + d))), (8, .int (nI (cl (failS σ d)))), (7, .int (nI (d))), (6, .int (nI (q))), (5, .int (nI (so))), (0, .ref (a 0)), (1, .int (x)), (2, .int (w)), (3, .ref (rc)), (4, .ref (rv))]) hx hb dL_act_215 hl (by decide) rfl (fun ls hl => ?_)
                refine lv_aload_n hx hb dL_act_217 rfl (lv_at hl 10 rfl) ?_
                refine lv_iconst (v := nI 1) hx hb dL_act_218 rfl ?_
                refine lv_iload hx hb dL_act_219 (lv_at hl 1 rfl) ?_
                refine q_ifleN (tgt := 228) hx hb dL_act_221 (by decide) (by have := unS_le σ 7; omega) (fun c_221 => absurd c_221 (by omega)) (fun c_221 => ?_)
                refine lv_iconst (v := nI 1) hx hb dL_act_224 rfl ?_
                refine lv_goto (tgt := 231) hx hb dL_act_225 (by decide) ?_
                refine q_iast hx hb hK hw 18 rfl (by omega) (by omega) dL_act_231 (fun H locs hw => ?_)
                have hw : wS D A (wX cy a σ kept nxt cnt T len pos ph le nu va ++ ((rc, .inl (cy, 2, .inl (upd fl (1) (1)))) :: (rv, .inl (cy, 42, .inl vf)) :: Z)) s H locs := hw
                have hP := hw.1
                refine lv_iload hx hb dL_act_232 (lv_at hl 2 rfl) ?_
                refine lv_iconst (v := -1) hx hb dL_act_234 rfl ?_
                refine lv_icmp_ne (tgt := 254) hx hb dL_act_235 (by decide) (fun (c_235 : ¬ (σ (63 + d)) = (-1)) => absurd h_ok c_235) (fun (c_235 : (σ (63 + d)) = (-1)) => ?_)
                refine lv_iload hx hb dL_act_238 (lv_at hl 0 rfl) ?_
                refine lv_sipush (v := -7002) hx hb dL_act_240 rfl ?_
                refine lv_icmp_ne (tgt := 250) hx hb dL_act_243 (by decide) (fun (c_243 : ¬ (-7002) = (-7002)) => absurd rfl c_243) (fun (c_243 : (-7002) = (-7002)) => ?_)
                refine lv_iconst (v := nI 1) hx hb dL_act_246 rfl ?_
                refine lv_goto (tgt := 285) hx hb dL_act_247 (by decide) ?_
                refine W.widen (k := 2) (n := 48) (Nat.le_of_ble_eq_true rfl) (Nat.le_of_ble_eq_true rfl) ?_
                exact q_zretE true hx hb hr hlocks hw dL_act_285 rfl ⟨rfl, _, _, _, _, _, _, rfl, by omega, by omega, Inv_mono (Inv_mark1 h_2) (by omega)⟩
            · refine lv_iconst (v := nI 1) hx hb dL_act_207 rfl ?_
              refine W.widen (k := 2) (n := 48) (Nat.le_of_ble_eq_true rfl) (Nat.le_of_ble_eq_true rfl) ?_
              exact q_zretE true hx hb hr hlocks hw dL_act_208 rfl ⟨rfl, _, _, _, _, _, _, rfl, by omega, by omega, Inv_mono h_2 (by omega)⟩
        · refine lv_iconst (v := nI 0) hx hb dL_act_184 rfl ?_
          refine lv_goto (tgt := 189) hx hb dL_act_185 (by decide) ?_
          refine q_subN hx hb dL_act_189 (by first | omega | exact un_pos h_d c_181) ?_
          refine lv_istore (lv' := [(10, .int (nI ((unS σ 7) - 0))), (9, .int (σ (63 + d))), (8, .int (nI (cl (failS σ d)))), (7, .int (nI (d))), (6, .int (nI (q))), (5, .int (nI (so))), (0, .ref (a 0)), (1, .int (x)), (2, .int (w)), (3, .ref (rc)), (4, .ref (rv))]) hx hb dL_act_190 hl (by decide) rfl (fun ls hl => ?_)
          refine lv_iload hx hb dL_act_192 (lv_at hl 0 rfl) ?_
          refine q_ifleN (tgt := 209) hx hb dL_act_194 (by decide) (by have := unS_le σ 7; omega) (fun c_194 => ?_) (fun c_194 => ?_)
          · refine lv_aload_n hx hb dL_act_209 rfl (lv_at hl 6 rfl) ?_
            refine lv_iload hx hb dL_act_210 (lv_at hl 3 rfl) ?_
            refine q_yS (As := [.ref (a 0), .int (nI (d))]) (rest := []) ⟨hx, hb, hml, hown, hts⟩ (c_L_tryFail hst D cy A a σ kept nxt cnt T len pos ph le nu va ((rc, .inl (cy, 2, .inl fl)) :: (rv, .inl (cy, 42, .inl vf)) :: Z) h_0 h_1 (d) h_d) (vx_cwSW 2 hts gL_act_L_tryFail rfl rfl rfl hd_L_tryFail ⟨Nat.le_of_ble_eq_true rfl, Nat.le_of_ble_eq_true rfl⟩) hK hC hA hN hw rfl hl.1 rfl (Nat.le_of_ble_eq_true rfl) ⟨Nat.le_of_ble_eq_true rfl, Nat.le_of_ble_eq_true rfl⟩ dL_act_212 (fun H locs v9 w9 hp9 hw => ?_)
            refine W.widen (k := 1) (n := 6) (Nat.le_of_ble_eq_true rfl) (Nat.le_of_ble_eq_true rfl) ?_
            rcases hp9 with ⟨h_ok, rfl, rfl⟩ | ⟨h_ok, rfl, rfl⟩
            · refine q_stk (show _ = ([.int (nI (cl (failS σ d)))] : List Value) from rfl) ?_
              have hw : wS D A (wX cy a (failS σ d) (cpK kept σ (nxt * 86) 86) ((nxt + 1) % 6) (min (cnt + 1) 6) T len pos ph le nu va ++ ((rc, .inl (cy, 2, .inl fl)) :: (rv, .inl (cy, 42, .inl vf)) :: Z)) s H locs := hw
              have hP := hw.1
              refine lv_istore (lv' := [(11, .int (nI (cl (failS σ d)))), (10, .int (nI ((unS σ 7) - 0))), (9, .int (σ (63 + d))), (8, .int (nI (cl (failS σ d)))), (7, .int (nI (d))), (6, .int (nI (q))), (5, .int (nI (so))), (0, .ref (a 0)), (1, .int (x)), (2, .int (w)), (3, .ref (rc)), (4, .ref (rv))]) hx hb dL_act_215 hl (by decide) rfl (fun ls hl => ?_)
              refine lv_aload_n hx hb dL_act_217 rfl (lv_at hl 10 rfl) ?_
              refine lv_iconst (v := nI 1) hx hb dL_act_218 rfl ?_
              refine lv_iload hx hb dL_act_219 (lv_at hl 1 rfl) ?_
              refine q_ifleN (tgt := 228) hx hb dL_act_221 (by decide) (by have := unS_le σ 7; omega) (fun c_221 => ?_) (fun c_221 => absurd c_221 (by omega))
              refine lv_aload_n hx hb dL_act_228 rfl (lv_at hl 10 rfl) ?_
              refine lv_iconst (v := nI 1) hx hb dL_act_229 rfl ?_
              refine q_iald hx hb hK hP 18 rfl (by omega) (by omega) dL_act_230 ?_
              refine q_iast hx hb hK hw 18 rfl (by omega) (by omega) dL_act_231 (fun H locs hw => ?_)
              have hw : wS D A (wX cy a (failS σ d) (cpK kept σ (nxt * 86) 86) ((nxt + 1) % 6) (min (cnt + 1) 6) T len pos ph le nu va ++ ((rc, .inl (cy, 2, .inl (upd fl (1) (fl (1))))) :: (rv, .inl (cy, 42, .inl vf)) :: Z)) s H locs := hw
              have hP := hw.1
              refine lv_iload hx hb dL_act_232 (lv_at hl 2 rfl) ?_
              refine lv_iconst (v := -1) hx hb dL_act_234 rfl ?_
              refine lv_icmp_ne (tgt := 254) hx hb dL_act_235 (by decide) (fun (c_235 : ¬ (σ (63 + d)) = (-1)) => ?_) (fun (c_235 : (σ (63 + d)) = (-1)) => absurd c_235 h_ok)
              refine lv_iload hx hb dL_act_254 (lv_at hl 0 rfl) ?_
              refine lv_iload hx hb dL_act_256 (lv_at hl 3 rfl) ?_
              refine q_neN (tgt := 284) hx hb dL_act_258 (by decide) (by have := cl_42 (failS σ d); omega) (by have := cl_42 (failS σ d); omega) (fun c_258 => absurd rfl c_258) (fun c_258 => ?_)
              refine lv_aload_n hx hb dL_act_261 rfl (lv_at hl 7 rfl) ?_
              refine q_cV (As := []) (rest := []) ⟨hx, hb, hml, hown, hts⟩ (c_X6_lost D cy a (failS σ d) (cpK kept σ (nxt * 86) 86) ((nxt + 1) % 6) (min (cnt + 1) 6) T len pos ph le nu va ((rc, .inl (cy, 2, .inl (upd fl (1) (fl (1))))) :: (rv, .inl (cy, 42, .inl vf)) :: Z) ) (cwV 0 hts gL_act_X6_lost rfl rfl rfl hd_X6_lost ⟨Nat.le_of_ble_eq_true rfl, Nat.le_of_ble_eq_true rfl⟩) hK hP 0 rfl rfl rfl hl.1 rfl (Nat.le_of_ble_eq_true rfl) ⟨Nat.le_of_ble_eq_true rfl, Nat.le_of_ble_eq_true rfl⟩ dL_act_262 ?_
              refine lv_iload hx hb dL_act_265 (lv_at hl 3 rfl) ?_
              refine q_neN (tgt := 284) hx hb dL_act_267 (by decide) (by have := cl_42 (failS σ d); omega) (by have := cl_42 (failS σ d); omega) (fun c_267 => absurd rfl c_267) (fun c_267 => ?_)
              refine lv_aload_n hx hb dL_act_270 rfl (lv_at hl 7 rfl) ?_
              refine lv_iload hx hb dL_act_271 (lv_at hl 4 rfl) ?_
              refine q_cV (As := [.int (nI (d))]) (rest := []) ⟨hx, hb, hml, hown, hts⟩ (k_X6_state D cy a (failS σ d) (cpK kept σ (nxt * 86) 86) ((nxt + 1) % 6) (min (cnt + 1) 6) T len pos ph le nu va ((rc, .inl (cy, 2, .inl (upd fl (1) (fl (1))))) :: (rv, .inl (cy, 42, .inl vf)) :: Z) (d) (by omega)) (cwV 1 hts gL_act_X6_state rfl rfl rfl hd_X6_state ⟨Nat.le_of_ble_eq_true rfl, Nat.le_of_ble_eq_true rfl⟩) hK hP 0 rfl rfl rfl hl.1 rfl (Nat.le_of_ble_eq_true rfl) ⟨Nat.le_of_ble_eq_true rfl, Nat.le_of_ble_eq_true rfl⟩ dL_act_273 ?_
              refine lv_iconst (v := -1) hx hb dL_act_276 rfl ?_
              refine lv_icmp_ne (tgt := 284) hx hb dL_act_277 (by decide) (fun (c_277 : ¬ ((failS σ d) (63 + d)) = (-1)) => absurd (fail_63 h_d) c_277) (fun (c_277 : ((failS σ d) (63 + d)) = (-1)) => ?_)
              refine lv_iconst (v := nI 1) hx hb dL_act_280 rfl ?_
              refine lv_goto (tgt := 285) hx hb dL_act_281 (by decide) ?_
              refine W.widen (k := 2) (n := 48) (Nat.le_of_ble_eq_true rfl) (Nat.le_of_ble_eq_true rfl) ?_
              exact q_zretE true hx hb hr hlocks hw dL_act_285 rfl ⟨rfl, _, _, _, _, _, _, rfl, by omega, by omega, Inv_mono (by rw [upd_self]; exact Inv_fail h_2 h_d (fun _ => un_oth0 h_d c_181 c_194)) (by omega)⟩
            · refine q_stk (show _ = ([.int (-7002)] : List Value) from rfl) ?_
              have hw : wS D A (wX cy a σ kept nxt cnt T len pos ph le nu va ++ ((rc, .inl (cy, 2, .inl fl)) :: (rv, .inl (cy, 42, .inl vf)) :: Z)) s H locs := hw
              have hP := hw.1
              refine lv_istore (lv' := [(11, .int (-7002)), (10, .int (nI ((unS σ 7) - 0))), (9, .int (σ (63 + d))), (8, .int (nI (cl (failS σ d)))), (7, .int (nI (d))), (6, .int (nI (q))), (5, .int (nI (so))), (0, .ref (a 0)), (1, .int (x)), (2, .int (w)), (3, .ref (rc)), (4, .ref (rv))]) hx hb dL_act_215 hl (by decide) rfl (fun ls hl => ?_)
              refine lv_aload_n hx hb dL_act_217 rfl (lv_at hl 10 rfl) ?_
              refine lv_iconst (v := nI 1) hx hb dL_act_218 rfl ?_
              refine lv_iload hx hb dL_act_219 (lv_at hl 1 rfl) ?_
              refine q_ifleN (tgt := 228) hx hb dL_act_221 (by decide) (by have := unS_le σ 7; omega) (fun c_221 => ?_) (fun c_221 => absurd c_221 (by omega))
              refine lv_aload_n hx hb dL_act_228 rfl (lv_at hl 10 rfl) ?_
              refine lv_iconst (v := nI 1) hx hb dL_act_229 rfl ?_
              refine q_iald hx hb hK hP 18 rfl (by omega) (by omega) dL_act_230 ?_
              refine q_iast hx hb hK hw 18 rfl (by omega) (by omega) dL_act_231 (fun H locs hw => ?_)
              have hw : wS D A (wX cy a σ kept nxt cnt T len pos ph le nu va ++ ((rc, .inl (cy, 2, .inl (upd fl (1) (fl (1))))) :: (rv, .inl (cy, 42, .inl vf)) :: Z)) s H locs := hw
              have hP := hw.1
              refine lv_iload hx hb dL_act_232 (lv_at hl 2 rfl) ?_
              refine lv_iconst (v := -1) hx hb dL_act_234 rfl ?_
              refine lv_icmp_ne (tgt := 254) hx hb dL_act_235 (by decide) (fun (c_235 : ¬ (σ (63 + d)) = (-1)) => absurd h_ok c_235) (fun (c_235 : (σ (63 + d)) = (-1)) => ?_)
              refine lv_iload hx hb dL_act_238 (lv_at hl 0 rfl) ?_
              refine lv_sipush (v := -7002) hx hb dL_act_240 rfl ?_
              refine lv_icmp_ne (tgt := 250) hx hb dL_act_243 (by decide) (fun (c_243 : ¬ (-7002) = (-7002)) => absurd rfl c_243) (fun (c_243 : (-7002) = (-7002)) => ?_)
              refine lv_iconst (v := nI 1) hx hb dL_act_246 rfl ?_
              refine lv_goto (tgt := 285) hx hb dL_act_247 (by decide) ?_
              refine W.widen (k := 2) (n := 48) (Nat.le_of_ble_eq_true rfl) (Nat.le_of_ble_eq_true rfl) ?_
              exact q_zretE true hx hb hr hlocks hw dL_act_285 rfl ⟨rfl, _, _, _, _, _, _, rfl, by omega, by omega, Inv_mono (by rw [upd_self]; exact h_2) (by omega)⟩
          · refine lv_iload_n hx hb dL_act_197 rfl (lv_at hl 8 rfl) ?_
            refine lv_iconst (v := nI 4) hx hb dL_act_198 rfl ?_
            refine lv_ishr hx hb dL_act_199 ?_
            refine lv_iconst (v := nI 3) hx hb dL_act_200 rfl ?_
            refine q_cS (As := [.int ((w) >>> ((4) &&& 31)), .int (nI (3))]) (rest := []) (w := []) ⟨hx, hb, hml, hown, hts⟩ (c_L_low D cy ((w) >>> ((4) &&& 31)) (3) (by omega) (by omega)) (va_cwS 2 hts gL_act_L_low rfl rfl rfl hd_L_low ⟨Nat.le_of_ble_eq_true rfl, Nat.le_of_ble_eq_true rfl⟩) hK q_Pnil rfl hl.1 rfl (Nat.le_of_ble_eq_true rfl) ⟨Nat.zero_le _, Nat.zero_le _⟩ dL_act_201 ?_
            refine q_ifleN (tgt := 209) hx hb dL_act_204 (by decide) (by omega) (fun c_204 => ?_) (fun c_204 => ?_)
            · refine lv_aload_n hx hb dL_act_209 rfl (lv_at hl 6 rfl) ?_
              refine lv_iload hx hb dL_act_210 (lv_at hl 3 rfl) ?_
              refine q_yS (As := [.ref (a 0), .int (nI (d))]) (rest := []) ⟨hx, hb, hml, hown, hts⟩ (c_L_tryFail hst D cy A a σ kept nxt cnt T len pos ph le nu va ((rc, .inl (cy, 2, .inl fl)) :: (rv, .inl (cy, 42, .inl vf)) :: Z) h_0 h_1 (d) h_d) (vx_cwSW 2 hts gL_act_L_tryFail rfl rfl rfl hd_L_tryFail ⟨Nat.le_of_ble_eq_true rfl, Nat.le_of_ble_eq_true rfl⟩) hK hC hA hN hw rfl hl.1 rfl (Nat.le_of_ble_eq_true rfl) ⟨Nat.le_of_ble_eq_true rfl, Nat.le_of_ble_eq_true rfl⟩ dL_act_212 (fun H locs v9 w9 hp9 hw => ?_)
              refine W.widen (k := 1) (n := 6) (Nat.le_of_ble_eq_true rfl) (Nat.le_of_ble_eq_true rfl) ?_
              rcases hp9 with ⟨h_ok, rfl, rfl⟩ | ⟨h_ok, rfl, rfl⟩
              · refine q_stk (show _ = ([.int (nI (cl (failS σ d)))] : List Value) from rfl) ?_
                have hw : wS D A (wX cy a (failS σ d) (cpK kept σ (nxt * 86) 86) ((nxt + 1) % 6) (min (cnt + 1) 6) T len pos ph le nu va ++ ((rc, .inl (cy, 2, .inl fl)) :: (rv, .inl (cy, 42, .inl vf)) :: Z)) s H locs := hw
                have hP := hw.1
                refine lv_istore (lv' := [(11, .int (nI (cl (failS σ d)))), (10, .int (nI ((unS σ 7) - 0))), (9, .int (σ (63 + d))), (8, .int (nI (cl (failS σ d)))), (7, .int (nI (d))), (6, .int (nI (q))), (5, .int (nI (so))), (0, .ref (a 0)), (1, .int (x)), (2, .int (w)), (3, .ref (rc)), (4, .ref (rv))]) hx hb dL_act_215 hl (by decide) rfl (fun ls hl => ?_)
                refine lv_aload_n hx hb dL_act_217 rfl (lv_at hl 10 rfl) ?_
                refine lv_iconst (v := nI 1) hx hb dL_act_218 rfl ?_
                refine lv_iload hx hb dL_act_219 (lv_at hl 1 rfl) ?_
                refine q_ifleN (tgt := 228) hx hb dL_act_221 (by decide) (by have := unS_le σ 7; omega) (fun c_221 => absurd c_221 (by omega)) (fun c_221 => ?_)
                refine lv_iconst (v := nI 1) hx hb dL_act_224 rfl ?_
                refine lv_goto (tgt := 231) hx hb dL_act_225 (by decide) ?_
                refine q_iast hx hb hK hw 18 rfl (by omega) (by omega) dL_act_231 (fun H locs hw => ?_)
                have hw : wS D A (wX cy a (failS σ d) (cpK kept σ (nxt * 86) 86) ((nxt + 1) % 6) (min (cnt + 1) 6) T len pos ph le nu va ++ ((rc, .inl (cy, 2, .inl (upd fl (1) (1)))) :: (rv, .inl (cy, 42, .inl vf)) :: Z)) s H locs := hw
                have hP := hw.1
                refine lv_iload hx hb dL_act_232 (lv_at hl 2 rfl) ?_
                refine lv_iconst (v := -1) hx hb dL_act_234 rfl ?_
                refine lv_icmp_ne (tgt := 254) hx hb dL_act_235 (by decide) (fun (c_235 : ¬ (σ (63 + d)) = (-1)) => ?_) (fun (c_235 : (σ (63 + d)) = (-1)) => absurd c_235 h_ok)
                refine lv_iload hx hb dL_act_254 (lv_at hl 0 rfl) ?_
                refine lv_iload hx hb dL_act_256 (lv_at hl 3 rfl) ?_
                refine q_neN (tgt := 284) hx hb dL_act_258 (by decide) (by have := cl_42 (failS σ d); omega) (by have := cl_42 (failS σ d); omega) (fun c_258 => absurd rfl c_258) (fun c_258 => ?_)
                refine lv_aload_n hx hb dL_act_261 rfl (lv_at hl 7 rfl) ?_
                refine q_cV (As := []) (rest := []) ⟨hx, hb, hml, hown, hts⟩ (c_X6_lost D cy a (failS σ d) (cpK kept σ (nxt * 86) 86) ((nxt + 1) % 6) (min (cnt + 1) 6) T len pos ph le nu va ((rc, .inl (cy, 2, .inl (upd fl (1) (1)))) :: (rv, .inl (cy, 42, .inl vf)) :: Z) ) (cwV 0 hts gL_act_X6_lost rfl rfl rfl hd_X6_lost ⟨Nat.le_of_ble_eq_true rfl, Nat.le_of_ble_eq_true rfl⟩) hK hP 0 rfl rfl rfl hl.1 rfl (Nat.le_of_ble_eq_true rfl) ⟨Nat.le_of_ble_eq_true rfl, Nat.le_of_ble_eq_true rfl⟩ dL_act_262 ?_
                refine lv_iload hx hb dL_act_265 (lv_at hl 3 rfl) ?_
                refine q_neN (tgt := 284) hx hb dL_act_267 (by decide) (by have := cl_42 (failS σ d); omega) (by have := cl_42 (failS σ d); omega) (fun c_267 => absurd rfl c_267) (fun c_267 => ?_)
                refine lv_aload_n hx hb dL_act_270 rfl (lv_at hl 7 rfl) ?_
                refine lv_iload hx hb dL_act_271 (lv_at hl 4 rfl) ?_
                refine q_cV (As := [.int (nI (d))]) (rest := []) ⟨hx, hb, hml, hown, hts⟩ (k_X6_state D cy a (failS σ d) (cpK kept σ (nxt * 86) 86) ((nxt + 1) % 6) (min (cnt + 1) 6) T len pos ph le nu va ((rc, .inl (cy, 2, .inl (upd fl (1) (1)))) :: (rv, .inl (cy, 42, .inl vf)) :: Z) (d) (by omega)) (cwV 1 hts gL_act_X6_state rfl rfl rfl hd_X6_state ⟨Nat.le_of_ble_eq_true rfl, Nat.le_of_ble_eq_true rfl⟩) hK hP 0 rfl rfl rfl hl.1 rfl (Nat.le_of_ble_eq_true rfl) ⟨Nat.le_of_ble_eq_true rfl, Nat.le_of_ble_eq_true rfl⟩ dL_act_273 ?_
                refine lv_iconst (v := -1) hx hb dL_act_276 rfl ?_
                refine lv_icmp_ne (tgt := 284) hx hb dL_act_277 (by decide) (fun (c_277 : ¬ ((failS σ d) (63 + d)) = (-1)) => absurd (fail_63 h_d) c_277) (fun (c_277 : ((failS σ d) (63 + d)) = (-1)) => ?_)
                refine lv_iconst (v := nI 1) hx hb dL_act_280 rfl ?_
                refine lv_goto (tgt := 285) hx hb dL_act_281 (by decide) ?_
                refine W.widen (k := 2) (n := 48) (Nat.le_of_ble_eq_true rfl) (Nat.le_of_ble_eq_true rfl) ?_
                exact q_zretE true hx hb hr hlocks hw dL_act_285 rfl ⟨rfl, _, _, _, _, _, _, rfl, by omega, by omega, Inv_mono (Inv_fail1 h_2 h_d) (by omega)⟩
              · refine q_stk (show _ = ([.int (-7002)] : List Value) from rfl) ?_
                have hw : wS D A (wX cy a σ kept nxt cnt T len pos ph le nu va ++ ((rc, .inl (cy, 2, .inl fl)) :: (rv, .inl (cy, 42, .inl vf)) :: Z)) s H locs := hw
                have hP := hw.1
                refine lv_istore (lv' := [(11, .int (-7002)), (10, .int (nI ((unS σ 7) - 0))), (9, .int (σ (63 + d))), (8, .int (nI (cl (failS σ d)))), (7, .int (nI (d))), (6, .int (nI (q))), (5, .int (nI (so))), (0, .ref (a 0)), (1, .int (x)), (2, .int (w)), (3, .ref (rc)), (4, .ref (rv))]) hx hb dL_act_215 hl (by decide) rfl (fun ls hl => ?_)
                refine lv_aload_n hx hb dL_act_217 rfl (lv_at hl 10 rfl) ?_
                refine lv_iconst (v := nI 1) hx hb dL_act_218 rfl ?_
                refine lv_iload hx hb dL_act_219 (lv_at hl 1 rfl) ?_
                refine q_ifleN (tgt := 228) hx hb dL_act_221 (by decide) (by have := unS_le σ 7; omega) (fun c_221 => absurd c_221 (by omega)) (fun c_221 => ?_)
                refine lv_iconst (v := nI 1) hx hb dL_act_224 rfl ?_
                refine lv_goto (tgt := 231) hx hb dL_act_225 (by decide) ?_
                refine q_iast hx hb hK hw 18 rfl (by omega) (by omega) dL_act_231 (fun H locs hw => ?_)
                have hw : wS D A (wX cy a σ kept nxt cnt T len pos ph le nu va ++ ((rc, .inl (cy, 2, .inl (upd fl (1) (1)))) :: (rv, .inl (cy, 42, .inl vf)) :: Z)) s H locs := hw
                have hP := hw.1
                refine lv_iload hx hb dL_act_232 (lv_at hl 2 rfl) ?_
                refine lv_iconst (v := -1) hx hb dL_act_234 rfl ?_
                refine lv_icmp_ne (tgt := 254) hx hb dL_act_235 (by decide) (fun (c_235 : ¬ (σ (63 + d)) = (-1)) => absurd h_ok c_235) (fun (c_235 : (σ (63 + d)) = (-1)) => ?_)
                refine lv_iload hx hb dL_act_238 (lv_at hl 0 rfl) ?_
                refine lv_sipush (v := -7002) hx hb dL_act_240 rfl ?_
                refine lv_icmp_ne (tgt := 250) hx hb dL_act_243 (by decide) (fun (c_243 : ¬ (-7002) = (-7002)) => absurd rfl c_243) (fun (c_243 : (-7002) = (-7002)) => ?_)
                refine lv_iconst (v := nI 1) hx hb dL_act_246 rfl ?_
                refine lv_goto (tgt := 285) hx hb dL_act_247 (by decide) ?_
                refine W.widen (k := 2) (n := 48) (Nat.le_of_ble_eq_true rfl) (Nat.le_of_ble_eq_true rfl) ?_
                exact q_zretE true hx hb hr hlocks hw dL_act_285 rfl ⟨rfl, _, _, _, _, _, _, rfl, by omega, by omega, Inv_mono (Inv_mark1 h_2) (by omega)⟩
            · refine lv_iconst (v := nI 1) hx hb dL_act_207 rfl ?_
              refine W.widen (k := 2) (n := 48) (Nat.le_of_ble_eq_true rfl) (Nat.le_of_ble_eq_true rfl) ?_
              exact q_zretE true hx hb hr hlocks hw dL_act_208 rfl ⟨rfl, _, _, _, _, _, _, rfl, by omega, by omega, Inv_mono h_2 (by omega)⟩
    · refine lv_aload_n hx hb dL_act_57 rfl (lv_at hl 3 rfl) ?_
      refine lv_iload hx hb dL_act_58 (lv_at hl 1 rfl) ?_
      refine q_cV (As := [.int (nI (q))]) (rest := []) ⟨hx, hb, hml, hown, hts⟩ (k_X6_peek D cy a σ kept nxt cnt T len pos ph le nu va ((rc, .inl (cy, 2, .inl fl)) :: (rv, .inl (cy, 42, .inl vf)) :: Z) (q) (by omega)) (cwV 1 hts gL_act_X6_peek rfl rfl rfl hd_X6_peek ⟨Nat.le_of_ble_eq_true rfl, Nat.le_of_ble_eq_true rfl⟩) hK hP 0 rfl rfl rfl hl.1 rfl (Nat.le_of_ble_eq_true rfl) ⟨Nat.zero_le _, Nat.zero_le _⟩ dL_act_60 ?_
      refine lv_istore (lv' := [(8, .int (kn σ (ad q))), (7, .int (nI (d))), (6, .int (nI (q))), (5, .int (nI (so))), (0, .ref (a 0)), (1, .int (x)), (2, .int (w)), (3, .ref (rc)), (4, .ref (rv))]) hx hb dL_act_63 hl (by decide) rfl (fun ls hl => ?_)
      refine lv_aload_n hx hb dL_act_65 rfl (lv_at hl 4 rfl) ?_
      refine q_cS (As := [.ref (a 0)]) (rest := []) (w := []) ⟨hx, hb, hml, hown, hts⟩ (c_L_counted D cy a σ kept nxt cnt T len pos ph le nu va ((rc, .inl (cy, 2, .inl fl)) :: (rv, .inl (cy, 42, .inl vf)) :: Z) ) (va_cwS 1 hts gL_act_L_counted rfl rfl rfl hd_L_counted ⟨Nat.le_of_ble_eq_true rfl, Nat.le_of_ble_eq_true rfl⟩) hK hP rfl hl.1 rfl (Nat.le_of_ble_eq_true rfl) ⟨Nat.zero_le _, Nat.zero_le _⟩ dL_act_66 ?_
      refine lv_istore (lv' := [(9, .int (cnS σ 7)), (8, .int (kn σ (ad q))), (7, .int (nI (d))), (6, .int (nI (q))), (5, .int (nI (so))), (0, .ref (a 0)), (1, .int (x)), (2, .int (w)), (3, .ref (rc)), (4, .ref (rv))]) hx hb dL_act_69 hl (by decide) rfl (fun ls hl => ?_)
      refine lv_aload_n hx hb dL_act_71 rfl (lv_at hl 5 rfl) ?_
      refine lv_iload hx hb dL_act_72 (lv_at hl 3 rfl) ?_
      refine q_yS (As := [.ref (a 0), .int (nI (q))]) (rest := []) ⟨hx, hb, hml, hown, hts⟩ (c_L_tryRead hst D cy A a σ kept nxt cnt T len pos ph le nu va ((rc, .inl (cy, 2, .inl fl)) :: (rv, .inl (cy, 42, .inl vf)) :: Z) h_0 h_1 (q) h_q) (vx_cwSW 2 hts gL_act_L_tryRead rfl rfl rfl hd_L_tryRead ⟨Nat.le_of_ble_eq_true rfl, Nat.le_of_ble_eq_true rfl⟩) hK hC hA hN hw rfl hl.1 rfl (Nat.le_of_ble_eq_true rfl) ⟨Nat.le_of_ble_eq_true rfl, Nat.le_of_ble_eq_true rfl⟩ dL_act_74 (fun H locs v9 w9 hp9 hw => ?_)
      refine W.widen (k := 1) (n := 6) (Nat.le_of_ble_eq_true rfl) (Nat.le_of_ble_eq_true rfl) ?_
      rcases hp9 with ⟨h_ok, rfl, rfl⟩ | ⟨h_ok, rfl, rfl⟩
      · refine q_stk (show _ = ([.int (kn σ (ad q))] : List Value) from rfl) ?_
        have hw : wS D A (wX cy a (rS σ q) (cpK kept σ (nxt * 86) 86) ((nxt + 1) % 6) (min (cnt + 1) 6) T len pos ph le nu va ++ ((rc, .inl (cy, 2, .inl fl)) :: (rv, .inl (cy, 42, .inl vf)) :: Z)) s H locs := hw
        have hP := hw.1
        refine lv_istore (lv' := [(10, .int (kn σ (ad q))), (9, .int (cnS σ 7)), (8, .int (kn σ (ad q))), (7, .int (nI (d))), (6, .int (nI (q))), (5, .int (nI (so))), (0, .ref (a 0)), (1, .int (x)), (2, .int (w)), (3, .ref (rc)), (4, .ref (rv))]) hx hb dL_act_77 hl (by decide) rfl (fun ls hl => ?_)
        refine lv_aload_n hx hb dL_act_79 rfl (lv_at hl 6 rfl) ?_
        refine q_cS (As := [.ref (a 0)]) (rest := []) (w := []) ⟨hx, hb, hml, hown, hts⟩ (c_L_counted D cy a (rS σ q) (cpK kept σ (nxt * 86) 86) ((nxt + 1) % 6) (min (cnt + 1) 6) T len pos ph le nu va ((rc, .inl (cy, 2, .inl fl)) :: (rv, .inl (cy, 42, .inl vf)) :: Z) ) (va_cwS 1 hts gL_act_L_counted rfl rfl rfl hd_L_counted ⟨Nat.le_of_ble_eq_true rfl, Nat.le_of_ble_eq_true rfl⟩) hK hP rfl hl.1 rfl (Nat.le_of_ble_eq_true rfl) ⟨Nat.le_of_ble_eq_true rfl, Nat.le_of_ble_eq_true rfl⟩ dL_act_80 ?_
        refine lv_iload hx hb dL_act_83 (lv_at hl 1 rfl) ?_
        refine lv_isub hx hb dL_act_85 ?_
        refine lv_istore (lv' := [(11, .int ((cnS (rS σ q) 7) - (cnS σ 7))), (10, .int (kn σ (ad q))), (9, .int (cnS σ 7)), (8, .int (kn σ (ad q))), (7, .int (nI (d))), (6, .int (nI (q))), (5, .int (nI (so))), (0, .ref (a 0)), (1, .int (x)), (2, .int (w)), (3, .ref (rc)), (4, .ref (rv))]) hx hb dL_act_86 hl (by decide) rfl (fun ls hl => ?_)
        refine lv_iload hx hb dL_act_88 (lv_at hl 3 rfl) ?_
        refine lv_iconst (v := -1) hx hb dL_act_90 rfl ?_
        refine lv_icmp_ne (tgt := 115) hx hb dL_act_91 (by decide) (fun (c_91 : ¬ (kn σ (ad q)) = (-1)) => ?_) (fun (c_91 : (kn σ (ad q)) = (-1)) => absurd (kn_m1 h_2.1 (ad_lt h_q) c_91) (by rw [h_ok]; decide))
        refine lv_iload hx hb dL_act_115 (lv_at hl 1 rfl) ?_
        refine lv_iload hx hb dL_act_117 (lv_at hl 3 rfl) ?_
        refine lv_icmp_ne (tgt := 148) hx hb dL_act_119 (by decide) (fun (c_119 : ¬ (kn σ (ad q)) = (kn σ (ad q))) => absurd rfl c_119) (fun (c_119 : (kn σ (ad q)) = (kn σ (ad q))) => ?_)
        refine lv_aload_n hx hb dL_act_122 rfl (lv_at hl 7 rfl) ?_
        refine lv_iload hx hb dL_act_123 (lv_at hl 5 rfl) ?_
        refine q_cV (As := [.int (nI (q))]) (rest := []) ⟨hx, hb, hml, hown, hts⟩ (k_X6_peek D cy a (rS σ q) (cpK kept σ (nxt * 86) 86) ((nxt + 1) % 6) (min (cnt + 1) 6) T len pos ph le nu va ((rc, .inl (cy, 2, .inl fl)) :: (rv, .inl (cy, 42, .inl vf)) :: Z) (q) (by omega)) (cwV 1 hts gL_act_X6_peek rfl rfl rfl hd_X6_peek ⟨Nat.le_of_ble_eq_true rfl, Nat.le_of_ble_eq_true rfl⟩) hK hP 0 rfl rfl rfl hl.1 rfl (Nat.le_of_ble_eq_true rfl) ⟨Nat.le_of_ble_eq_true rfl, Nat.le_of_ble_eq_true rfl⟩ dL_act_125 ?_
        refine lv_iload hx hb dL_act_128 (lv_at hl 3 rfl) ?_
        refine lv_icmp_ne (tgt := 148) hx hb dL_act_130 (by decide) (fun (c_130 : ¬ (kn (rS σ q) (ad q)) = (kn σ (ad q))) => absurd (T_kn (rS_T σ q) (ad_lt h_q)) c_130) (fun (c_130 : (kn (rS σ q) (ad q)) = (kn σ (ad q))) => ?_)
        refine lv_iload hx hb dL_act_133 (lv_at hl 0 rfl) ?_
        refine lv_if_le (tgt := 148) hx hb dL_act_135 (by decide) (fun (c_135 : ((cnS (rS σ q) 7) - (cnS σ 7)) ≤ 0) => absurd c_135 (by_1 h_q).1) (fun (c_135 : ¬ ((cnS (rS σ q) 7) - (cnS σ 7)) ≤ 0) => ?_)
        refine lv_iload hx hb dL_act_138 (lv_at hl 0 rfl) ?_
        refine lv_iconst (v := nI 3) hx hb dL_act_140 rfl ?_
        refine lv_icmp_ge (tgt := 148) hx hb dL_act_141 (by decide) (fun (c_141 : (3) ≤ ((cnS (rS σ q) 7) - (cnS σ 7))) => absurd c_141 (by_1 h_q).2) (fun (c_141 : ¬ (3) ≤ ((cnS (rS σ q) 7) - (cnS σ 7))) => ?_)
        refine lv_iconst (v := nI 1) hx hb dL_act_144 rfl ?_
        refine lv_goto (tgt := 149) hx hb dL_act_145 (by decide) ?_
        refine W.widen (k := 2) (n := 48) (Nat.le_of_ble_eq_true rfl) (Nat.le_of_ble_eq_true rfl) ?_
        exact q_zretE true hx hb hr hlocks hw dL_act_149 rfl ⟨rfl, _, _, _, _, _, _, rfl, by omega, by omega, Inv_mono (Inv_read h_2 h_q) (by omega)⟩
      · refine q_stk (show _ = ([.int (-7002)] : List Value) from rfl) ?_
        have hw : wS D A (wX cy a σ kept nxt cnt T len pos ph le nu va ++ ((rc, .inl (cy, 2, .inl fl)) :: (rv, .inl (cy, 42, .inl vf)) :: Z)) s H locs := hw
        have hP := hw.1
        refine lv_istore (lv' := [(10, .int (-7002)), (9, .int (cnS σ 7)), (8, .int (kn σ (ad q))), (7, .int (nI (d))), (6, .int (nI (q))), (5, .int (nI (so))), (0, .ref (a 0)), (1, .int (x)), (2, .int (w)), (3, .ref (rc)), (4, .ref (rv))]) hx hb dL_act_77 hl (by decide) rfl (fun ls hl => ?_)
        refine lv_aload_n hx hb dL_act_79 rfl (lv_at hl 6 rfl) ?_
        refine q_cS (As := [.ref (a 0)]) (rest := []) (w := []) ⟨hx, hb, hml, hown, hts⟩ (c_L_counted D cy a σ kept nxt cnt T len pos ph le nu va ((rc, .inl (cy, 2, .inl fl)) :: (rv, .inl (cy, 42, .inl vf)) :: Z) ) (va_cwS 1 hts gL_act_L_counted rfl rfl rfl hd_L_counted ⟨Nat.le_of_ble_eq_true rfl, Nat.le_of_ble_eq_true rfl⟩) hK hP rfl hl.1 rfl (Nat.le_of_ble_eq_true rfl) ⟨Nat.le_of_ble_eq_true rfl, Nat.le_of_ble_eq_true rfl⟩ dL_act_80 ?_
        refine lv_iload hx hb dL_act_83 (lv_at hl 1 rfl) ?_
        refine lv_isub hx hb dL_act_85 ?_
        refine lv_istore (lv' := [(11, .int ((cnS σ 7) - (cnS σ 7))), (10, .int (-7002)), (9, .int (cnS σ 7)), (8, .int (kn σ (ad q))), (7, .int (nI (d))), (6, .int (nI (q))), (5, .int (nI (so))), (0, .ref (a 0)), (1, .int (x)), (2, .int (w)), (3, .ref (rc)), (4, .ref (rv))]) hx hb dL_act_86 hl (by decide) rfl (fun ls hl => ?_)
        refine lv_iload hx hb dL_act_88 (lv_at hl 3 rfl) ?_
        refine lv_iconst (v := -1) hx hb dL_act_90 rfl ?_
        refine lv_icmp_ne (tgt := 115) hx hb dL_act_91 (by decide) (fun (c_91 : ¬ (kn σ (ad q)) = (-1)) => absurd (kn_lo h_ok) c_91) (fun (c_91 : (kn σ (ad q)) = (-1)) => ?_)
        refine lv_iload hx hb dL_act_94 (lv_at hl 1 rfl) ?_
        refine lv_sipush (v := -7002) hx hb dL_act_96 rfl ?_
        refine lv_icmp_ne (tgt := 111) hx hb dL_act_99 (by decide) (fun (c_99 : ¬ (-7002) = (-7002)) => absurd rfl c_99) (fun (c_99 : (-7002) = (-7002)) => ?_)
        refine lv_iload hx hb dL_act_102 (lv_at hl 0 rfl) ?_
        refine lv_if_ne (tgt := 111) hx hb dL_act_104 (by decide) (fun (c_104 : ¬ ((cnS σ 7) - (cnS σ 7)) = 0) => absurd (a_self _) c_104) (fun (c_104 : ((cnS σ 7) - (cnS σ 7)) = 0) => ?_)
        refine lv_iconst (v := nI 1) hx hb dL_act_107 rfl ?_
        refine lv_goto (tgt := 149) hx hb dL_act_108 (by decide) ?_
        refine W.widen (k := 2) (n := 48) (Nat.le_of_ble_eq_true rfl) (Nat.le_of_ble_eq_true rfl) ?_
        exact q_zretE true hx hb hr hlocks hw dL_act_149 rfl ⟨rfl, _, _, _, _, _, _, rfl, by omega, by omega, Inv_mono h_2 (by omega)⟩
  · refine lv_aload_n hx hb dL_act_31 rfl (lv_at hl 3 rfl) ?_
    refine lv_iload hx hb dL_act_32 (lv_at hl 1 rfl) ?_
    refine lv_iload_n hx hb dL_act_34 rfl (lv_at hl 5 rfl) ?_
    refine lv_bipush (v := nI 6) hx hb dL_act_35 rfl ?_
    refine lv_ishr hx hb dL_act_37 ?_
    refine lv_ldc (v  := nI 65536) hx hb hown (hts (.constant RL 107 (65536)) (List.mem_of_getElem? (i := 1) rfl)) dL_act_38 ?_
    refine q_cS (As := [.int ((w) >>> ((6) &&& 31)), .int (nI (65536))]) (rest := [.int (nI (q)), .ref (a 0)]) (w := []) ⟨hx, hb, hml, hown, hts⟩ (c_L_low D cy ((w) >>> ((6) &&& 31)) (65536) (by omega) (by omega)) (va_cwS 2 hts gL_act_L_low rfl rfl rfl hd_L_low ⟨Nat.le_of_ble_eq_true rfl, Nat.le_of_ble_eq_true rfl⟩) hK q_Pnil rfl hl.1 rfl (Nat.le_of_ble_eq_true rfl) ⟨Nat.zero_le _, Nat.zero_le _⟩ dL_act_40 ?_
    refine lv_aload_n hx hb dL_act_43 rfl (lv_at hl 6 rfl) ?_
    refine lv_aload hx hb dL_act_44 (lv_at hl 7 rfl) ?_
    refine q_yM (As := [.ref (a 0), .int (nI (q)), .int (nI (lw ((w) >>> ((6) &&& 31)) % 65536)), .ref (rc), .ref (rv)]) (rest := []) ⟨hx, hb, hml, hown, hts⟩ (c_L_writes hst D cy A a σ kept nxt cnt T len pos ph le nu va rc rv fl vf Z B (q) (lw ((w) >>> ((6) &&& 31)) % 65536) h_q (Nat.mod_lt _ (by omega)) h_0 h_1 h_2) (va_cwS 5 hts gL_act_L_writes rfl rfl rfl hd_L_writes ⟨Nat.le_of_ble_eq_true rfl, Nat.le_of_ble_eq_true rfl⟩) hK hC hA hN hw rfl hl.1 rfl (Nat.le_of_ble_eq_true rfl) ⟨Nat.le_of_ble_eq_true rfl, Nat.le_of_ble_eq_true rfl⟩ dL_act_46 (fun H locs v9 w9 hp9 hw => ?_)
    refine W.widen (k := 2) (n := 48) (Nat.le_of_ble_eq_true rfl) (Nat.le_of_ble_eq_true rfl) ?_
    obtain ⟨rfl, σ1, kept1, n1, c1, fl1, vf1, rfl, h1, h2, h3⟩ := hp9
    refine q_stk (show _ = ([.int (bI true)] : List Value) from rfl) ?_
    exact q_zretE true hx hb hr hlocks hw dL_act_49 rfl ⟨rfl, _, _, _, _, _, _, rfl, h1, h2, h3⟩
