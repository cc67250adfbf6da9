/-! The law's methods that change the array. -/
/-- the end of an act: true; the array and the law's arrays as the invariant has them -/
abbrev actP (cy : ClassId) (a : Nat → Nat) (T : Nat → Int32) (len pos : Nat) (ph le nu va : Int32) (rc rv : Nat) (Z : va_W) (B : Nat) : Option Value → va_W → Prop := fun v w => v = some (.int (bI true)) ∧ ∃ (σ kept : Nat → Int32) (nxt cnt : Nat) (fl vf : Nat → Int32), w = (wX cy a σ kept nxt cnt T len pos ph le nu va ++ ((rc, .inl (cy, 2, .inl fl)) :: (rv, .inl (cy, 42, .inl vf)) :: Z)) ∧ nxt < 6 ∧ cnt ≤ 6 ∧ Inv σ fl vf B
/-- what was read at the first n addresses -/
def haS (σ : Nat → Int32) (n : Nat) : Nat → Int32 := fun k => if k < n then kn σ (ad k) else 0
theorem haS_0 (σ : Nat → Int32) : (fun _ => (0 : Int32)) = haS σ 0 := by
  funext k
  unfold haS
  rw [if_neg (by omega)]
theorem haS_s (σ : Nat → Int32) (i : Nat) : upd (haS σ i) i (kn σ (ad i)) = haS σ (i + 1) := by
  funext k
  by_cases h : k = i
  · rw [h, upd_eq]
    unfold haS
    rw [if_pos (by omega)]
  · rw [upd_ne h]
    unfold haS
    have e : (k < i + 1) ↔ (k < i) := by omega
    simp only [e]
theorem haS_lt {σ : Nat → Int32} {n k : Nat} (h : k < n) : haS σ n k = kn σ (ad k) := by
  unfold haS
  rw [if_pos h]
theorem nI_ne_7002 {n : Nat} (h : n < 2 ^ 31) : ¬ nI n = -7002 := by
  intro h2
  have h3 := congrArg Int32.toInt h2
  rw [nI_toInt h] at h3
  have h4 : (-7002 : Int32).toInt = -7002 := by decide
  rw [h4] at h3
  omega
theorem canW_f {σ : Nat → Int32} {q : Nat} (h : canW σ q = false) : lo σ (ad q) = true := by
  unfold canW at h
  simpa using h
set_option maxHeartbeats 1000000 in
set_option maxRecDepth 100000 in
theorem c_L_writes {l : Launch} (hst : l.stackTraces = false) (D : va_G) (cy : ClassId) (A : Nat → Prop) (a : Nat → Nat) (σ kept : Nat → Int32) (nxt cnt : Nat) (T : Nat → Int32) (len pos : Nat) (ph le nu va : Int32) (rc rv : Nat) (fl vf : Nat → Int32) (Z : va_W) (B : Nat) (q : Nat) (u : Nat) (h_0 : q < 42) (h_1 : u < 65536) (h_2 : nxt < 6) (h_3 : cnt ≤ 6) (h_4 : Inv σ fl vf B) : Met l yL_writes wsL_writes ({ frames := 8, cells := 2, slots := 48, locals := 154 } : Room) (gY D cy [.ref (a 0), .int (nI (q)), .int (nI (u)), .ref (rc), .ref (rv)] A (wX cy a σ kept nxt cnt T len pos ph le nu va ++ ((rc, .inl (cy, 2, .inl fl)) :: (rv, .inl (cy, 42, .inl vf)) :: Z))) (gE D A (actP cy a T len pos ph le nu va rc rv Z (B + 64))) 2 48 A := by
  refine q_ymi (cc := cL_writes) (maxL := 9) (ret := (some .boolean)) pl_L rfl (Nat.le_of_ble_eq_true rfl) ?_
  intro p e s m below meth c ls hx hb hr hml hts hown hlocks hw hK hA hl hN hC
  have hP := hw.1
  have hl : lv_has ls 9 [(0, .ref (a 0)), (1, .int (nI (q))), (2, .int (nI (u))), (3, .ref (rc)), (4, .ref (rv))] := hl
  refine lv_bipush (v := nI 42) hx hb dL_writes_0 rfl ?_
  refine va_newa (atype := .int) (ty := .int) (n := nI 42) (N' := 42) (a0 := (42, .inl (fun _ => 0))) hx hb (hts (.arrayClass .int) (List.mem_of_getElem? (i := 1) rfl)) rfl hK hw.1 hw.2.1 hw.2.2 hA (fun _ => rfl) (fun h => absurd h (nI_pos (by decide))) (nI_clamp (by decide)) (Nat.le_of_ble_eq_true rfl) (Nat.le_of_ble_eq_true rfl) (Nat.le_of_ble_eq_true rfl) dL_writes_2 (fun hq cA H hK2 hP hD hS => ?_)
  have hcA := (cA_cy hK hK2).symm
  subst hcA
  have hw := wS_rot (show wS D A ((wX cy a σ kept nxt cnt T len pos ph le nu va ++ ((rc, .inl (cy, 2, .inl fl)) :: (rv, .inl (cy, 42, .inl vf)) :: Z)) ++ [(hq, .inl (cy, 42, .inl (fun _ => 0)))]) s H [] from ⟨hP, hD, hS⟩)
  have hw := wS_part (X := (hq, .inl (cy, 42, .inl (fun _ => 0))) :: (wX cy a σ kept nxt cnt T len pos ph le nu va ++ [(rc, .inl (cy, 2, .inl fl)), (rv, .inl (cy, 42, .inl vf))])) (pl := Z) (cx := wX cy a σ kept nxt cnt T len pos ph le nu va ++ [(rc, .inl (cy, 2, .inl fl)), (rv, .inl (cy, 42, .inl vf)), (hq, .inl (cy, 42, .inl (fun _ => 0)))]) hw [1, 2, 3, 4, 5, 6, 7, 8, 9, 10, 11, 12, 13, 14, 15, 16, 17, 18, 19, 20, 0] (by decide) rfl
  have hw : wS D A (wX cy a σ kept nxt cnt T len pos ph le nu va ++ ((rc, .inl (cy, 2, .inl fl)) :: (rv, .inl (cy, 42, .inl vf)) :: (hq, .inl (cy, 42, .inl (fun _ => 0))) :: Z)) s H [] := hw
  have hP := hw.1
  refine W.widen (k := 1) (n := 42) (Nat.le_of_ble_eq_true rfl) (Nat.le_of_ble_eq_true rfl) ?_
  refine lv_astore (lv' := [(5, .ref (hq)), (0, .ref (a 0)), (1, .int (nI (q))), (2, .int (nI (u))), (3, .ref (rc)), (4, .ref (rv))]) hx hb dL_writes_4 hl (by decide) rfl (fun ls hl => ?_)
  refine lv_aload_n hx hb dL_writes_6 rfl (lv_at hl 1 rfl) ?_
  refine q_cS (As := [.ref (a 0)]) (rest := []) (w := []) ⟨hx, hb, hml, hown, hts⟩ (c_L_counted D cy a σ kept nxt cnt T len pos ph le nu va ((rc, .inl (cy, 2, .inl fl)) :: (rv, .inl (cy, 42, .inl vf)) :: (hq, .inl (cy, 42, .inl (fun _ => 0))) :: Z) ) (va_cwS 1 hts gL_writes_L_counted rfl rfl rfl hd_L_counted ⟨Nat.le_of_ble_eq_true rfl, Nat.le_of_ble_eq_true rfl⟩) hK hP rfl hl.1 rfl (Nat.le_of_ble_eq_true rfl) ⟨Nat.le_of_ble_eq_true rfl, Nat.le_of_ble_eq_true rfl⟩ dL_writes_7 ?_
  refine lv_istore (lv' := [(6, .int (cnS σ 7)), (5, .ref (hq)), (0, .ref (a 0)), (1, .int (nI (q))), (2, .int (nI (u))), (3, .ref (rc)), (4, .ref (rv))]) hx hb dL_writes_10 hl (by decide) rfl (fun ls hl => ?_)
  have e_1 : (fun _ => 0) = haS σ 0 := haS_0 σ
  rw [e_1] at hw
  have hP := hw.1
  refine lv_iconst (v := nI 0) hx hb dL_writes_12 rfl ?_
  refine lv_istore (lv' := [(7, .int (nI (0))), (6, .int (cnS σ 7)), (5, .ref (hq)), (0, .ref (a 0)), (1, .int (nI (q))), (2, .int (nI (u))), (3, .ref (rc)), (4, .ref (rv))]) hx hb dL_writes_13 hl (by decide) rfl (fun ls hl => ?_)
  have lp15 : ∀ (j_ i : Nat), i + j_ = 42 → ∀ (H : Heap) (locs : List Loc) (ls : Array Slot), wS D A (wX cy a σ kept nxt cnt T len pos ph le nu va ++ ((rc, .inl (cy, 2, .inl fl)) :: (rv, .inl (cy, 42, .inl vf)) :: (hq, .inl (cy, 42, .inl (haS σ i))) :: Z)) s H locs → lv_has ls 9 [(0, .ref (a 0)), (1, .int (nI (q))), (2, .int (nI (u))), (3, .ref (rc)), (4, .ref (rv)), (5, .ref (hq)), (6, .int (cnS σ 7)), (7, .int (nI (i)))] → W p l e ({ frames := 8, cells := 2, slots := 48, locals := 154 } : Room) s m ([.ref (a 0), .int (nI (q)), .int (nI (u)), .ref (rc), .ref (rv)] : List Value).toArray below meth c H locs 1 42 (MQ below (gE D A (actP cy a T len pos ph le nu va rc rv Z (B + 64))) ([.ref (a 0), .int (nI (q)), .int (nI (u)), .ref (rc), .ref (rv)] : List Value).toArray s 2 48 A) (F0 m 15 ls []) := by
    intro j_
    induction j_ with
    | zero =>
      intro i hn_i H locs ls hw hl
      have hP := hw.1
      refine lv_iload hx hb dL_writes_15 (lv_at hl 7 rfl) ?_
      refine lv_bipush (v := nI 42) hx hb dL_writes_17 rfl ?_
      refine q_geN (tgt := 39) hx hb dL_writes_19 (by decide) (by omega) (by omega) (fun c_19 => ?_) (fun c_19 => absurd c_19 (by omega))
      have e9 : i = 42 := by omega
      subst e9
      have hl : lv_has ls 9 [(0, .ref (a 0)), (1, .int (nI (q))), (2, .int (nI (u))), (3, .ref (rc)), (4, .ref (rv)), (5, .ref (hq)), (6, .int (cnS σ 7))] := lv_sub hl [0, 1, 2, 3, 4, 5, 6] rfl
      refine lv_aload_n hx hb dL_writes_39 rfl (lv_at hl 0 rfl) ?_
      refine lv_iload_n hx hb dL_writes_40 rfl (lv_at hl 1 rfl) ?_
      refine lv_iload_n hx hb dL_writes_41 rfl (lv_at hl 2 rfl) ?_
      refine q_yS (As := [.ref (a 0), .int (nI (q)), .int (nI (u))]) (rest := []) ⟨hx, hb, hml, hown, hts⟩ (c_L_tryWrite hst D cy A a σ kept nxt cnt T len pos ph le nu va ((rc, .inl (cy, 2, .inl fl)) :: (rv, .inl (cy, 42, .inl vf)) :: (hq, .inl (cy, 42, .inl (haS σ 42))) :: Z) h_2 h_3 (q) (u) h_0 h_1) (vx_cwSW 3 hts gL_writes_L_tryWrite rfl rfl rfl hd_L_tryWrite ⟨Nat.le_of_ble_eq_true rfl, Nat.le_of_ble_eq_true rfl⟩) hK hC hA hN hw rfl hl.1 rfl (Nat.le_of_ble_eq_true rfl) ⟨Nat.le_of_ble_eq_true rfl, Nat.le_of_ble_eq_true rfl⟩ dL_writes_42 (fun H locs v9 w9 hp9 hw => ?_)
      refine W.widen (k := 2) (n := 48) (Nat.le_of_ble_eq_true rfl) (Nat.le_of_ble_eq_true rfl) ?_
      rcases hp9 with ⟨h_ok, rfl, rfl⟩ | ⟨h_ok, rfl, rfl⟩
      · refine q_stk (show _ = ([.int (nI (wC σ q))] : List Value) from rfl) ?_
        have hw : wS D A (wX cy a (wD σ q (nI u)) (cpK kept σ (nxt * 86) 86) ((nxt + 1) % 6) (min (cnt + 1) 6) T len pos ph le nu va ++ ((rc, .inl (cy, 2, .inl fl)) :: (rv, .inl (cy, 42, .inl vf)) :: (hq, .inl (cy, 42, .inl (haS σ 42))) :: Z)) s H locs := hw
        have hP := hw.1
        refine lv_istore (lv' := [(7, .int (nI (wC σ q))), (0, .ref (a 0)), (1, .int (nI (q))), (2, .int (nI (u))), (3, .ref (rc)), (4, .ref (rv)), (5, .ref (hq)), (6, .int (cnS σ 7))]) hx hb dL_writes_45 hl (by decide) rfl (fun ls hl => ?_)
        refine lv_iconst (v := nI 0) hx hb dL_writes_47 rfl ?_
        refine lv_istore (lv' := [(8, .int (nI (0))), (7, .int (nI (wC σ q))), (0, .ref (a 0)), (1, .int (nI (q))), (2, .int (nI (u))), (3, .ref (rc)), (4, .ref (rv)), (5, .ref (hq)), (6, .int (cnS σ 7))]) hx hb dL_writes_48 hl (by decide) rfl (fun ls hl => ?_)
        have lp50 : ∀ (j_ k : Nat), k + j_ = 42 → ∀ (H : Heap) (locs : List Loc) (ls : Array Slot), wS D A (wX cy a (wD σ q (nI u)) (cpK kept σ (nxt * 86) 86) ((nxt + 1) % 6) (min (cnt + 1) 6) T len pos ph le nu va ++ ((rc, .inl (cy, 2, .inl fl)) :: (rv, .inl (cy, 42, .inl vf)) :: (hq, .inl (cy, 42, .inl (haS σ 42))) :: Z)) s H locs → lv_has ls 9 [(0, .ref (a 0)), (1, .int (nI (q))), (2, .int (nI (u))), (3, .ref (rc)), (4, .ref (rv)), (5, .ref (hq)), (6, .int (cnS σ 7)), (7, .int (nI (wC σ q))), (8, .int (nI (k)))] → W p l e ({ frames := 8, cells := 2, slots := 48, locals := 154 } : Room) s m ([.ref (a 0), .int (nI (q)), .int (nI (u)), .ref (rc), .ref (rv)] : List Value).toArray below meth c H locs 2 48 (MQ below (gE D A (actP cy a T len pos ph le nu va rc rv Z (B + 64))) ([.ref (a 0), .int (nI (q)), .int (nI (u)), .ref (rc), .ref (rv)] : List Value).toArray s 2 48 A) (F0 m 50 ls []) := by
          intro j_
          induction j_ with
          | zero =>
            intro k hn_k H locs ls hw hl
            have hP := hw.1
            refine lv_iload hx hb dL_writes_50 (lv_at hl 8 rfl) ?_
            refine lv_bipush (v := nI 42) hx hb dL_writes_52 rfl ?_
            refine q_geN (tgt := 94) hx hb dL_writes_54 (by decide) (by omega) (by omega) (fun c_54 => ?_) (fun c_54 => absurd c_54 (by omega))
            refine lv_aload hx hb dL_writes_94 (lv_at hl 4 rfl) ?_
            refine lv_iload_n hx hb dL_writes_96 rfl (lv_at hl 1 rfl) ?_
            refine lv_iload_n hx hb dL_writes_97 rfl (lv_at hl 2 rfl) ?_
            refine q_iast hx hb hK hw 19 rfl (by omega) (by omega) dL_writes_98 (fun H locs hw => ?_)
            have hw : wS D A (wX cy a (wD σ q (nI u)) (cpK kept σ (nxt * 86) 86) ((nxt + 1) % 6) (min (cnt + 1) 6) T len pos ph le nu va ++ ((rc, .inl (cy, 2, .inl fl)) :: (rv, .inl (cy, 42, .inl (upd vf (q) (nI (u))))) :: (hq, .inl (cy, 42, .inl (haS σ 42))) :: Z)) s H locs := hw
            have hP := hw.1
            refine lv_iload hx hb dL_writes_99 (lv_at hl 7 rfl) ?_
            refine lv_sipush (v := -7002) hx hb dL_writes_101 rfl ?_
            refine lv_icmp_ne (tgt := 132) hx hb dL_writes_104 (by decide) (fun (c_104 : ¬ (nI (wC σ q)) = (-7002)) => ?_) (fun (c_104 : (nI (wC σ q)) = (-7002)) => absurd c_104 (nI_ne_7002 (by have := wC_c σ q; omega)))
            refine lv_iload hx hb dL_writes_132 (lv_at hl 7 rfl) ?_
            refine lv_iconst (v := nI 1) hx hb dL_writes_134 rfl ?_
            refine q_eqN (tgt := 150) hx hb dL_writes_135 (by decide) (by have := wC_c σ q; omega) (by omega) (fun c_135 => ?_) (fun c_135 => ?_)
            · refine lv_aload_n hx hb dL_writes_150 rfl (lv_at hl 0 rfl) ?_
              refine q_cS (As := [.ref (a 0)]) (rest := []) (w := []) ⟨hx, hb, hml, hown, hts⟩ (c_L_counted D cy a (wD σ q (nI u)) (cpK kept σ (nxt * 86) 86) ((nxt + 1) % 6) (min (cnt + 1) 6) T len pos ph le nu va ((rc, .inl (cy, 2, .inl fl)) :: (rv, .inl (cy, 42, .inl (upd vf (q) (nI (u))))) :: (hq, .inl (cy, 42, .inl (haS σ 42))) :: Z) ) (va_cwS 1 hts gL_writes_L_counted rfl rfl rfl hd_L_counted ⟨Nat.le_of_ble_eq_true rfl, Nat.le_of_ble_eq_true rfl⟩) hK hP rfl hl.1 rfl (Nat.le_of_ble_eq_true rfl) ⟨Nat.le_of_ble_eq_true rfl, Nat.le_of_ble_eq_true rfl⟩ dL_writes_151 ?_
              refine lv_iload hx hb dL_writes_154 (lv_at hl 6 rfl) ?_
              refine lv_iload hx hb dL_writes_156 (lv_at hl 7 rfl) ?_
              refine lv_iadd hx hb dL_writes_158 ?_
              refine lv_icmp_ne (tgt := 166) hx hb dL_writes_159 (by decide) (fun (c_159 : ¬ (cnS (wD σ q (nI u)) 7) = ((cnS σ 7) + (nI (wC σ q)))) => absurd (cnS_wD h_0 _) c_159) (fun (c_159 : (cnS (wD σ q (nI u)) 7) = ((cnS σ 7) + (nI (wC σ q)))) => ?_)
              refine lv_iconst (v := nI 1) hx hb dL_writes_162 rfl ?_
              refine lv_goto (tgt := 167) hx hb dL_writes_163 (by decide) ?_
              have hw := wS_part (X := wX cy a (wD σ q (nI u)) (cpK kept σ (nxt * 86) 86) ((nxt + 1) % 6) (min (cnt + 1) 6) T len pos ph le nu va ++ [(rc, .inl (cy, 2, .inl fl)), (rv, .inl (cy, 42, .inl (upd vf (q) (nI (u))))), (hq, .inl (cy, 42, .inl (haS σ 42)))]) (pl := Z) (cx := wX cy a (wD σ q (nI u)) (cpK kept σ (nxt * 86) 86) ((nxt + 1) % 6) (min (cnt + 1) 6) T len pos ph le nu va ++ [(rc, .inl (cy, 2, .inl fl)), (rv, .inl (cy, 42, .inl (upd vf (q) (nI (u)))))]) hw [0, 1, 2, 3, 4, 5, 6, 7, 8, 9, 10, 11, 12, 13, 14, 15, 16, 17, 18, 19] (by decide) rfl
              have hw : wS D A (wX cy a (wD σ q (nI u)) (cpK kept σ (nxt * 86) 86) ((nxt + 1) % 6) (min (cnt + 1) 6) T len pos ph le nu va ++ ((rc, .inl (cy, 2, .inl fl)) :: (rv, .inl (cy, 42, .inl (upd vf (q) (nI (u))))) :: Z)) s H locs := hw
              exact q_zretE true hx hb hr hlocks hw dL_writes_167 rfl ⟨rfl, _, _, _, _, _, _, rfl, by omega, by omega, Inv_mono (Inv_write h_4 h_0 h_1 h_ok) (by omega)⟩
            · refine lv_iload hx hb dL_writes_138 (lv_at hl 7 rfl) ?_
              refine lv_iconst (v := nI 2) hx hb dL_writes_140 rfl ?_
              refine q_eqN (tgt := 150) hx hb dL_writes_141 (by decide) (by have := wC_c σ q; omega) (by omega) (fun c_141 => ?_) (fun c_141 => ?_)
              · refine lv_aload_n hx hb dL_writes_150 rfl (lv_at hl 0 rfl) ?_
                refine q_cS (As := [.ref (a 0)]) (rest := []) (w := []) ⟨hx, hb, hml, hown, hts⟩ (c_L_counted D cy a (wD σ q (nI u)) (cpK kept σ (nxt * 86) 86) ((nxt + 1) % 6) (min (cnt + 1) 6) T len pos ph le nu va ((rc, .inl (cy, 2, .inl fl)) :: (rv, .inl (cy, 42, .inl (upd vf (q) (nI (u))))) :: (hq, .inl (cy, 42, .inl (haS σ 42))) :: Z) ) (va_cwS 1 hts gL_writes_L_counted rfl rfl rfl hd_L_counted ⟨Nat.le_of_ble_eq_true rfl, Nat.le_of_ble_eq_true rfl⟩) hK hP rfl hl.1 rfl (Nat.le_of_ble_eq_true rfl) ⟨Nat.le_of_ble_eq_true rfl, Nat.le_of_ble_eq_true rfl⟩ dL_writes_151 ?_
                refine lv_iload hx hb dL_writes_154 (lv_at hl 6 rfl) ?_
                refine lv_iload hx hb dL_writes_156 (lv_at hl 7 rfl) ?_
                refine lv_iadd hx hb dL_writes_158 ?_
                refine lv_icmp_ne (tgt := 166) hx hb dL_writes_159 (by decide) (fun (c_159 : ¬ (cnS (wD σ q (nI u)) 7) = ((cnS σ 7) + (nI (wC σ q)))) => absurd (cnS_wD h_0 _) c_159) (fun (c_159 : (cnS (wD σ q (nI u)) 7) = ((cnS σ 7) + (nI (wC σ q)))) => ?_)
                refine lv_iconst (v := nI 1) hx hb dL_writes_162 rfl ?_
                refine lv_goto (tgt := 167) hx hb dL_writes_163 (by decide) ?_
                have hw := wS_part (X := wX cy a (wD σ q (nI u)) (cpK kept σ (nxt * 86) 86) ((nxt + 1) % 6) (min (cnt + 1) 6) T len pos ph le nu va ++ [(rc, .inl (cy, 2, .inl fl)), (rv, .inl (cy, 42, .inl (upd vf (q) (nI (u))))), (hq, .inl (cy, 42, .inl (haS σ 42)))]) (pl := Z) (cx := wX cy a (wD σ q (nI u)) (cpK kept σ (nxt * 86) 86) ((nxt + 1) % 6) (min (cnt + 1) 6) T len pos ph le nu va ++ [(rc, .inl (cy, 2, .inl fl)), (rv, .inl (cy, 42, .inl (upd vf (q) (nI (u)))))]) hw [0, 1, 2, 3, 4, 5, 6, 7, 8, 9, 10, 11, 12, 13, 14, 15, 16, 17, 18, 19] (by decide) rfl
                have hw : wS D A (wX cy a (wD σ q (nI u)) (cpK kept σ (nxt * 86) 86) ((nxt + 1) % 6) (min (cnt + 1) 6) T len pos ph le nu va ++ ((rc, .inl (cy, 2, .inl fl)) :: (rv, .inl (cy, 42, .inl (upd vf (q) (nI (u))))) :: Z)) s H locs := hw
                exact q_zretE true hx hb hr hlocks hw dL_writes_167 rfl ⟨rfl, _, _, _, _, _, _, rfl, by omega, by omega, Inv_mono (Inv_write h_4 h_0 h_1 h_ok) (by omega)⟩
              · refine lv_iload hx hb dL_writes_144 (lv_at hl 7 rfl) ?_
                refine lv_iconst (v := nI 4) hx hb dL_writes_146 rfl ?_
                refine q_neN (tgt := 166) hx hb dL_writes_147 (by decide) (by have := wC_c σ q; omega) (by omega) (fun c_147 => absurd c_147 (by have := wC_c σ q; omega)) (fun c_147 => ?_)
                refine lv_aload_n hx hb dL_writes_150 rfl (lv_at hl 0 rfl) ?_
                refine q_cS (As := [.ref (a 0)]) (rest := []) (w := []) ⟨hx, hb, hml, hown, hts⟩ (c_L_counted D cy a (wD σ q (nI u)) (cpK kept σ (nxt * 86) 86) ((nxt + 1) % 6) (min (cnt + 1) 6) T len pos ph le nu va ((rc, .inl (cy, 2, .inl fl)) :: (rv, .inl (cy, 42, .inl (upd vf (q) (nI (u))))) :: (hq, .inl (cy, 42, .inl (haS σ 42))) :: Z) ) (va_cwS 1 hts gL_writes_L_counted rfl rfl rfl hd_L_counted ⟨Nat.le_of_ble_eq_true rfl, Nat.le_of_ble_eq_true rfl⟩) hK hP rfl hl.1 rfl (Nat.le_of_ble_eq_true rfl) ⟨Nat.le_of_ble_eq_true rfl, Nat.le_of_ble_eq_true rfl⟩ dL_writes_151 ?_
                refine lv_iload hx hb dL_writes_154 (lv_at hl 6 rfl) ?_
                refine lv_iload hx hb dL_writes_156 (lv_at hl 7 rfl) ?_
                refine lv_iadd hx hb dL_writes_158 ?_
                refine lv_icmp_ne (tgt := 166) hx hb dL_writes_159 (by decide) (fun (c_159 : ¬ (cnS (wD σ q (nI u)) 7) = ((cnS σ 7) + (nI (wC σ q)))) => absurd (cnS_wD h_0 _) c_159) (fun (c_159 : (cnS (wD σ q (nI u)) 7) = ((cnS σ 7) + (nI (wC σ q)))) => ?_)
                refine lv_iconst (v := nI 1) hx hb dL_writes_162 rfl ?_
                refine lv_goto (tgt := 167) hx hb dL_writes_163 (by decide) ?_
                have hw := wS_part (X := wX cy a (wD σ q (nI u)) (cpK kept σ (nxt * 86) 86) ((nxt + 1) % 6) (min (cnt + 1) 6) T len pos ph le nu va ++ [(rc, .inl (cy, 2, .inl fl)), (rv, .inl (cy, 42, .inl (upd vf (q) (nI (u))))), (hq, .inl (cy, 42, .inl (haS σ 42)))]) (pl := Z) (cx := wX cy a (wD σ q (nI u)) (cpK kept σ (nxt * 86) 86) ((nxt + 1) % 6) (min (cnt + 1) 6) T len pos ph le nu va ++ [(rc, .inl (cy, 2, .inl fl)), (rv, .inl (cy, 42, .inl (upd vf (q) (nI (u)))))]) hw [0, 1, 2, 3, 4, 5, 6, 7, 8, 9, 10, 11, 12, 13, 14, 15, 16, 17, 18, 19] (by decide) rfl
                have hw : wS D A (wX cy a (wD σ q (nI u)) (cpK kept σ (nxt * 86) 86) ((nxt + 1) % 6) (min (cnt + 1) 6) T len pos ph le nu va ++ ((rc, .inl (cy, 2, .inl fl)) :: (rv, .inl (cy, 42, .inl (upd vf (q) (nI (u))))) :: Z)) s H locs := hw
                exact q_zretE true hx hb hr hlocks hw dL_writes_167 rfl ⟨rfl, _, _, _, _, _, _, rfl, by omega, by omega, Inv_mono (Inv_write h_4 h_0 h_1 h_ok) (by omega)⟩
          | succ j_ ih_k =>
            intro k hn_k H locs ls hw hl
            have hP := hw.1
            refine lv_iload hx hb dL_writes_50 (lv_at hl 8 rfl) ?_
            refine lv_bipush (v := nI 42) hx hb dL_writes_52 rfl ?_
            refine q_geN (tgt := 94) hx hb dL_writes_54 (by decide) (by omega) (by omega) (fun c_54 => absurd c_54 (by omega)) (fun c_54 => ?_)
            refine lv_aload_n hx hb dL_writes_57 rfl (lv_at hl 0 rfl) ?_
            refine lv_iload hx hb dL_writes_58 (lv_at hl 8 rfl) ?_
            refine q_cV (As := [.int (nI (k))]) (rest := []) ⟨hx, hb, hml, hown, hts⟩ (k_X6_peek D cy a (wD σ q (nI u)) (cpK kept σ (nxt * 86) 86) ((nxt + 1) % 6) (min (cnt + 1) 6) T len pos ph le nu va ((rc, .inl (cy, 2, .inl fl)) :: (rv, .inl (cy, 42, .inl vf)) :: (hq, .inl (cy, 42, .inl (haS σ 42))) :: Z) (k) (by omega)) (cwV 1 hts gL_writes_X6_peek rfl rfl rfl hd_X6_peek ⟨Nat.le_of_ble_eq_true rfl, Nat.le_of_ble_eq_true rfl⟩) hK hP 0 rfl rfl rfl hl.1 rfl (Nat.le_of_ble_eq_true rfl) ⟨Nat.le_of_ble_eq_true rfl, Nat.le_of_ble_eq_true rfl⟩ dL_writes_60 ?_
            refine lv_iload hx hb dL_writes_63 (lv_at hl 8 rfl) ?_
            refine lv_iload_n hx hb dL_writes_65 rfl (lv_at hl 1 rfl) ?_
            refine q_neN (tgt := 78) hx hb dL_writes_66 (by decide) (by omega) (by omega) (fun c_66 => ?_) (fun c_66 => ?_)
            · refine lv_aload hx hb dL_writes_78 (lv_at hl 5 rfl) ?_
              refine lv_iload hx hb dL_writes_80 (lv_at hl 8 rfl) ?_
              refine q_iald hx hb hK hP 20 rfl (by omega) (by omega) dL_writes_82 ?_
              refine lv_icmp_eq (tgt := 88) hx hb dL_writes_83 (by decide) (fun (c_83 : (kn (wD σ q (nI u)) (ad k)) = ((haS σ 42) (k))) => ?_) (fun (c_83 : ¬ (kn (wD σ q (nI u)) (ad k)) = ((haS σ 42) (k))) => absurd (by rw [kn_wD h_0 (by omega) _ h_ok, if_neg c_66, haS_lt (by omega)]) c_83)
              refine lv_iinc (v := nI (k + 1)) (lv' := [(8, .int (nI (k + 1))), (0, .ref (a 0)), (1, .int (nI (q))), (2, .int (nI (u))), (3, .ref (rc)), (4, .ref (rv)), (5, .ref (hq)), (6, .int (cnS σ 7)), (7, .int (nI (wC σ q)))]) hx hb dL_writes_88 hl (k := 8) rfl (show nI (k) + nI 1 = nI (k + 1) from nI_add _ _) (by decide) rfl (fun ls hl => ?_)
              refine lv_goto (tgt := 50) hx hb dL_writes_91 (by decide) ?_
              exact ih_k (k + 1) (by omega) _ _ _ hw (lv_sub hl [1, 2, 3, 4, 5, 6, 7, 8, 0] rfl)
            · refine lv_iload hx hb dL_writes_69 (lv_at hl 7 rfl) ?_
              refine q_ifleN (tgt := 78) hx hb dL_writes_71 (by decide) (by have := wC_c σ q; omega) (fun c_71 => absurd c_71 (by have := wC_c σ q; omega)) (fun c_71 => ?_)
              refine lv_iload_n hx hb dL_writes_74 rfl (lv_at hl 2 rfl) ?_
              refine lv_goto (tgt := 83) hx hb dL_writes_75 (by decide) ?_
              refine lv_icmp_eq (tgt := 88) hx hb dL_writes_83 (by decide) (fun (c_83 : (kn (wD σ q (nI u)) (ad k)) = (nI (u))) => ?_) (fun (c_83 : ¬ (kn (wD σ q (nI u)) (ad k)) = (nI (u))) => absurd (by rw [kn_wD h_0 (by omega) _ h_ok, if_pos c_66]) c_83)
              refine lv_iinc (v := nI (k + 1)) (lv' := [(8, .int (nI (k + 1))), (0, .ref (a 0)), (1, .int (nI (q))), (2, .int (nI (u))), (3, .ref (rc)), (4, .ref (rv)), (5, .ref (hq)), (6, .int (cnS σ 7)), (7, .int (nI (wC σ q)))]) hx hb dL_writes_88 hl (k := 8) rfl (show nI (k) + nI 1 = nI (k + 1) from nI_add _ _) (by decide) rfl (fun ls hl => ?_)
              refine lv_goto (tgt := 50) hx hb dL_writes_91 (by decide) ?_
              exact ih_k (k + 1) (by omega) _ _ _ hw (lv_sub hl [1, 2, 3, 4, 5, 6, 7, 8, 0] rfl)
        exact lp50 (42 - 0) 0 (by omega) _ _ _ hw (lv_sub hl [2, 3, 4, 5, 6, 7, 8, 1, 0] rfl)
      · refine q_stk (show _ = ([.int (-7002)] : List Value) from rfl) ?_
        have hw : wS D A (wX cy a σ kept nxt cnt T len pos ph le nu va ++ ((rc, .inl (cy, 2, .inl fl)) :: (rv, .inl (cy, 42, .inl vf)) :: (hq, .inl (cy, 42, .inl (haS σ 42))) :: Z)) s H locs := hw
        have hP := hw.1
        refine lv_istore (lv' := [(7, .int (-7002)), (0, .ref (a 0)), (1, .int (nI (q))), (2, .int (nI (u))), (3, .ref (rc)), (4, .ref (rv)), (5, .ref (hq)), (6, .int (cnS σ 7))]) hx hb dL_writes_45 hl (by decide) rfl (fun ls hl => ?_)
        refine lv_iconst (v := nI 0) hx hb dL_writes_47 rfl ?_
        refine lv_istore (lv' := [(8, .int (nI (0))), (7, .int (-7002)), (0, .ref (a 0)), (1, .int (nI (q))), (2, .int (nI (u))), (3, .ref (rc)), (4, .ref (rv)), (5, .ref (hq)), (6, .int (cnS σ 7))]) hx hb dL_writes_48 hl (by decide) rfl (fun ls hl => ?_)
        have lp50 : ∀ (j_ k : Nat), k + j_ = 42 → ∀ (H : Heap) (locs : List Loc) (ls : Array Slot), wS D A (wX cy a σ kept nxt cnt T len pos ph le nu va ++ ((rc, .inl (cy, 2, .inl fl)) :: (rv, .inl (cy, 42, .inl vf)) :: (hq, .inl (cy, 42, .inl (haS σ 42))) :: Z)) s H locs → lv_has ls 9 [(0, .ref (a 0)), (1, .int (nI (q))), (2, .int (nI (u))), (3, .ref (rc)), (4, .ref (rv)), (5, .ref (hq)), (6, .int (cnS σ 7)), (7, .int (-7002)), (8, .int (nI (k)))] → W p l e ({ frames := 8, cells := 2, slots := 48, locals := 154 } : Room) s m ([.ref (a 0), .int (nI (q)), .int (nI (u)), .ref (rc), .ref (rv)] : List Value).toArray below meth c H locs 2 48 (MQ below (gE D A (actP cy a T len pos ph le nu va rc rv Z (B + 64))) ([.ref (a 0), .int (nI (q)), .int (nI (u)), .ref (rc), .ref (rv)] : List Value).toArray s 2 48 A) (F0 m 50 ls []) := by
          intro j_
          induction j_ with
          | zero =>
            intro k hn_k H locs ls hw hl
            have hP := hw.1
            refine lv_iload hx hb dL_writes_50 (lv_at hl 8 rfl) ?_
            refine lv_bipush (v := nI 42) hx hb dL_writes_52 rfl ?_
            refine q_geN (tgt := 94) hx hb dL_writes_54 (by decide) (by omega) (by omega) (fun c_54 => ?_) (fun c_54 => absurd c_54 (by omega))
            refine lv_aload hx hb dL_writes_94 (lv_at hl 4 rfl) ?_
            refine lv_iload_n hx hb dL_writes_96 rfl (lv_at hl 1 rfl) ?_
            refine lv_iload_n hx hb dL_writes_97 rfl (lv_at hl 2 rfl) ?_
            refine q_iast hx hb hK hw 19 rfl (by omega) (by omega) dL_writes_98 (fun H locs hw => ?_)
            have hw : wS D A (wX cy a σ kept nxt cnt T len pos ph le nu va ++ ((rc, .inl (cy, 2, .inl fl)) :: (rv, .inl (cy, 42, .inl (upd vf (q) (nI (u))))) :: (hq, .inl (cy, 42, .inl (haS σ 42))) :: Z)) s H locs := hw
            have hP := hw.1
            refine lv_iload hx hb dL_writes_99 (lv_at hl 7 rfl) ?_
            refine lv_sipush (v := -7002) hx hb dL_writes_101 rfl ?_
            refine lv_icmp_ne (tgt := 132) hx hb dL_writes_104 (by decide) (fun (c_104 : ¬ (-7002) = (-7002)) => absurd rfl c_104) (fun (c_104 : (-7002) = (-7002)) => ?_)
            refine lv_aload_n hx hb dL_writes_107 rfl (lv_at hl 0 rfl) ?_
            refine q_cS (As := [.ref (a 0)]) (rest := []) (w := []) ⟨hx, hb, hml, hown, hts⟩ (c_L_counted D cy a σ kept nxt cnt T len pos ph le nu va ((rc, .inl (cy, 2, .inl fl)) :: (rv, .inl (cy, 42, .inl (upd vf (q) (nI (u))))) :: (hq, .inl (cy, 42, .inl (haS σ 42))) :: Z) ) (va_cwS 1 hts gL_writes_L_counted rfl rfl rfl hd_L_counted ⟨Nat.le_of_ble_eq_true rfl, Nat.le_of_ble_eq_true rfl⟩) hK hP rfl hl.1 rfl (Nat.le_of_ble_eq_true rfl) ⟨Nat.le_of_ble_eq_true rfl, Nat.le_of_ble_eq_true rfl⟩ dL_writes_108 ?_
            refine lv_iload hx hb dL_writes_111 (lv_at hl 6 rfl) ?_
            refine lv_icmp_ne (tgt := 128) hx hb dL_writes_113 (by decide) (fun (c_113 : ¬ (cnS σ 7) = (cnS σ 7)) => absurd rfl c_113) (fun (c_113 : (cnS σ 7) = (cnS σ 7)) => ?_)
            refine lv_aload hx hb dL_writes_116 (lv_at hl 5 rfl) ?_
            refine lv_iload_n hx hb dL_writes_118 rfl (lv_at hl 1 rfl) ?_
            refine q_iald hx hb hK hP 20 rfl (by omega) (by omega) dL_writes_119 ?_
            refine lv_iconst (v := -1) hx hb dL_writes_120 rfl ?_
            refine lv_icmp_ne (tgt := 128) hx hb dL_writes_121 (by decide) (fun (c_121 : ¬ ((haS σ 42) (q)) = (-1)) => absurd (by rw [haS_lt (by omega)]; exact kn_lo (canW_f h_ok)) c_121) (fun (c_121 : ((haS σ 42) (q)) = (-1)) => ?_)
            refine lv_iconst (v := nI 1) hx hb dL_writes_124 rfl ?_
            refine lv_goto (tgt := 167) hx hb dL_writes_125 (by decide) ?_
            have hw := wS_part (X := wX cy a σ kept nxt cnt T len pos ph le nu va ++ [(rc, .inl (cy, 2, .inl fl)), (rv, .inl (cy, 42, .inl (upd vf (q) (nI (u))))), (hq, .inl (cy, 42, .inl (haS σ 42)))]) (pl := Z) (cx := wX cy a σ kept nxt cnt T len pos ph le nu va ++ [(rc, .inl (cy, 2, .inl fl)), (rv, .inl (cy, 42, .inl (upd vf (q) (nI (u)))))]) hw [0, 1, 2, 3, 4, 5, 6, 7, 8, 9, 10, 11, 12, 13, 14, 15, 16, 17, 18, 19] (by decide) rfl
            have hw : wS D A (wX cy a σ kept nxt cnt T len pos ph le nu va ++ ((rc, .inl (cy, 2, .inl fl)) :: (rv, .inl (cy, 42, .inl (upd vf (q) (nI (u))))) :: Z)) s H locs := hw
            exact q_zretE true hx hb hr hlocks hw dL_writes_167 rfl ⟨rfl, _, _, _, _, _, _, rfl, by omega, by omega, Inv_mono (Inv_nowrite h_4 _ h_0 h_ok) (by omega)⟩
          | succ j_ ih_k =>
            intro k hn_k H locs ls hw hl
            have hP := hw.1
            refine lv_iload hx hb dL_writes_50 (lv_at hl 8 rfl) ?_
            refine lv_bipush (v := nI 42) hx hb dL_writes_52 rfl ?_
            refine q_geN (tgt := 94) hx hb dL_writes_54 (by decide) (by omega) (by omega) (fun c_54 => absurd c_54 (by omega)) (fun c_54 => ?_)
            refine lv_aload_n hx hb dL_writes_57 rfl (lv_at hl 0 rfl) ?_
            refine lv_iload hx hb dL_writes_58 (lv_at hl 8 rfl) ?_
            refine q_cV (As := [.int (nI (k))]) (rest := []) ⟨hx, hb, hml, hown, hts⟩ (k_X6_peek D cy a σ kept nxt cnt T len pos ph le nu va ((rc, .inl (cy, 2, .inl fl)) :: (rv, .inl (cy, 42, .inl vf)) :: (hq, .inl (cy, 42, .inl (haS σ 42))) :: Z) (k) (by omega)) (cwV 1 hts gL_writes_X6_peek rfl rfl rfl hd_X6_peek ⟨Nat.le_of_ble_eq_true rfl, Nat.le_of_ble_eq_true rfl⟩) hK hP 0 rfl rfl rfl hl.1 rfl (Nat.le_of_ble_eq_true rfl) ⟨Nat.le_of_ble_eq_true rfl, Nat.le_of_ble_eq_true rfl⟩ dL_writes_60 ?_
            refine lv_iload hx hb dL_writes_63 (lv_at hl 8 rfl) ?_
            refine lv_iload_n hx hb dL_writes_65 rfl (lv_at hl 1 rfl) ?_
            refine q_neN (tgt := 78) hx hb dL_writes_66 (by decide) (by omega) (by omega) (fun c_66 => ?_) (fun c_66 => ?_)
            · refine lv_aload hx hb dL_writes_78 (lv_at hl 5 rfl) ?_
              refine lv_iload hx hb dL_writes_80 (lv_at hl 8 rfl) ?_
              refine q_iald hx hb hK hP 20 rfl (by omega) (by omega) dL_writes_82 ?_
              refine lv_icmp_eq (tgt := 88) hx hb dL_writes_83 (by decide) (fun (c_83 : (kn σ (ad k)) = ((haS σ 42) (k))) => ?_) (fun (c_83 : ¬ (kn σ (ad k)) = ((haS σ 42) (k))) => absurd (by rw [haS_lt (by omega)]) c_83)
              refine lv_iinc (v := nI (k + 1)) (lv' := [(8, .int (nI (k + 1))), (0, .ref (a 0)), (1, .int (nI (q))), (2, .int (nI (u))), (3, .ref (rc)), (4, .ref (rv)), (5, .ref (hq)), (6, .int (cnS σ 7)), (7, .int (-7002))]) hx hb dL_writes_88 hl (k := 8) rfl (show nI (k) + nI 1 = nI (k + 1) from nI_add _ _) (by decide) rfl (fun ls hl => ?_)
              refine lv_goto (tgt := 50) hx hb dL_writes_91 (by decide) ?_
              exact ih_k (k + 1) (by omega) _ _ _ hw (lv_sub hl [1, 2, 3, 4, 5, 6, 7, 8, 0] rfl)
            · refine lv_iload hx hb dL_writes_69 (lv_at hl 7 rfl) ?_
              refine lv_if_le (tgt := 78) hx hb dL_writes_71 (by decide) (fun (c_71 : (-7002) ≤ 0) => ?_) (fun (c_71 : ¬ (-7002) ≤ 0) => absurd (show (-7002 : Int32) ≤ 0 by decide) c_71)
              refine lv_aload hx hb dL_writes_78 (lv_at hl 5 rfl) ?_
              refine lv_iload hx hb dL_writes_80 (lv_at hl 8 rfl) ?_
              refine q_iald hx hb hK hP 20 rfl (by omega) (by omega) dL_writes_82 ?_
              refine lv_icmp_eq (tgt := 88) hx hb dL_writes_83 (by decide) (fun (c_83 : (kn σ (ad k)) = ((haS σ 42) (k))) => ?_) (fun (c_83 : ¬ (kn σ (ad k)) = ((haS σ 42) (k))) => absurd (by rw [haS_lt (by omega)]) c_83)
              refine lv_iinc (v := nI (k + 1)) (lv' := [(8, .int (nI (k + 1))), (0, .ref (a 0)), (1, .int (nI (q))), (2, .int (nI (u))), (3, .ref (rc)), (4, .ref (rv)), (5, .ref (hq)), (6, .int (cnS σ 7)), (7, .int (-7002))]) hx hb dL_writes_88 hl (k := 8) rfl (show nI (k) + nI 1 = nI (k + 1) from nI_add _ _) (by decide) rfl (fun ls hl => ?_)
              refine lv_goto (tgt := 50) hx hb dL_writes_91 (by decide) ?_
              exact ih_k (k + 1) (by omega) _ _ _ hw (lv_sub hl [1, 2, 3, 4, 5, 6, 7, 8, 0] rfl)
        exact lp50 (42 - 0) 0 (by omega) _ _ _ hw (lv_sub hl [2, 3, 4, 5, 6, 7, 8, 1, 0] rfl)
    | succ j_ ih_i =>
      intro i hn_i H locs ls hw hl
      have hP := hw.1
      refine lv_iload hx hb dL_writes_15 (lv_at hl 7 rfl) ?_
      refine lv_bipush (v := nI 42) hx hb dL_writes_17 rfl ?_
      refine q_geN (tgt := 39) hx hb dL_writes_19 (by decide) (by omega) (by omega) (fun c_19 => absurd c_19 (by omega)) (fun c_19 => ?_)
      refine lv_aload hx hb dL_writes_22 (lv_at hl 5 rfl) ?_
      refine lv_iload hx hb dL_writes_24 (lv_at hl 7 rfl) ?_
      refine lv_aload_n hx hb dL_writes_26 rfl (lv_at hl 0 rfl) ?_
      refine lv_iload hx hb dL_writes_27 (lv_at hl 7 rfl) ?_
      refine q_cV (As := [.int (nI (i))]) (rest := [.int (nI (i)), .ref (hq)]) ⟨hx, hb, hml, hown, hts⟩ (k_X6_peek D cy a σ kept nxt cnt T len pos ph le nu va ((rc, .inl (cy, 2, .inl fl)) :: (rv, .inl (cy, 42, .inl vf)) :: (hq, .inl (cy, 42, .inl (haS σ i))) :: Z) (i) (by omega)) (cwV 1 hts gL_writes_X6_peek rfl rfl rfl hd_X6_peek ⟨Nat.le_of_ble_eq_true rfl, Nat.le_of_ble_eq_true rfl⟩) hK hP 0 rfl rfl rfl hl.1 rfl (Nat.le_of_ble_eq_true rfl) ⟨Nat.le_of_ble_eq_true rfl, Nat.le_of_ble_eq_true rfl⟩ dL_writes_29 ?_
      refine q_iast hx hb hK hw 20 rfl (by omega) (by omega) dL_writes_32 (fun H locs hw => ?_)
      have hw : wS D A (wX cy a σ kept nxt cnt T len pos ph le nu va ++ ((rc, .inl (cy, 2, .inl fl)) :: (rv, .inl (cy, 42, .inl vf)) :: (hq, .inl (cy, 42, .inl (upd (haS σ i) (i) (kn σ (ad i))))) :: Z)) s H locs := hw
      have hP := hw.1
      have e_2 : (upd (haS σ i) (i) (kn σ (ad i))) = haS σ (i + 1) := haS_s σ i
      rw [e_2] at hw
      have hP := hw.1
      refine lv_iinc (v := nI (i + 1)) (lv' := [(7, .int (nI (i + 1))), (0, .ref (a 0)), (1, .int (nI (q))), (2, .int (nI (u))), (3, .ref (rc)), (4, .ref (rv)), (5, .ref (hq)), (6, .int (cnS σ 7))]) hx hb dL_writes_33 hl (k := 7) rfl (show nI (i) + nI 1 = nI (i + 1) from nI_add _ _) (by decide) rfl (fun ls hl => ?_)
      refine lv_goto (tgt := 15) hx hb dL_writes_36 (by decide) ?_
      exact ih_i (i + 1) (by omega) _ _ _ hw (lv_sub hl [1, 2, 3, 4, 5, 6, 7, 0] rfl)
  exact lp15 (42 - 0) 0 (by omega) _ _ _ hw (lv_sub hl [3, 4, 5, 6, 7, 2, 1, 0] rfl)
