set_option maxHeartbeats 1000000 in
set_option maxRecDepth 100000 in
theorem c_L_isLaidOut {l : Launch} (D : va_G) (cy : ClassId) (a : Nat → Nat) (σ kept : Nat → Int32) (nxt cnt : Nat) (T : Nat → Int32) (len pos : Nat) (ph le nu va : Int32) (Z : va_W) : Met l yL_isLaidOut wsL_isLaidOut (k2_rm 7 105) (gR D cy [.ref (a 0)] (wX cy a σ kept nxt cnt T len pos ph le nu va ++ Z)) (k2_QcV (.int (bI (true)))) 0 0 (fun _ => False) := by
  refine q_pure (cc := cL_isLaidOut) (maxL := 8) (ret := (some .boolean)) pl_L rfl (Nat.le_of_ble_eq_true rfl) ?_
  intro p e s m below meth c ls hx hb hr hml hts hown hlocks hP hK hl
  have hl : lv_has ls 8 [(0, .ref (a 0))] := hl
  refine lv_iconst (v := nI 0) hx hb dL_isLaidOut_0 rfl ?_
  refine lv_istore_n (lv' := [(1, .int (nI (0))), (0, .ref (a 0))]) hx hb dL_isLaidOut_1 rfl hl (by decide) rfl (fun ls hl => ?_)
  have lp2 : ∀ (j_ d : Nat), d + j_ = 7 → ∀ (ls : Array Slot), lv_has ls 8 [(0, .ref (a 0)), (1, .int (nI (d)))] → W p l e (k2_rm 7 105) s m ([.ref (a 0)] : List Value).toArray below meth c s.heap [] 0 0 (MQ below (k2_QcV (.int (bI (true)))) ([.ref (a 0)] : List Value).toArray s 0 0 (fun _ => False)) (F0 m 2 ls []) := by
    intro j_
    induction j_ with
    | zero =>
      intro d hn_d ls hl
      refine lv_iload_n hx hb dL_isLaidOut_2 rfl (lv_at hl 1 rfl) ?_
      refine lv_bipush (v := nI 7) hx hb dL_isLaidOut_3 rfl ?_
      refine q_geN (tgt := 308) hx hb dL_isLaidOut_5 (by decide) (by omega) (by omega) (fun c_5 => ?_) (fun c_5 => absurd c_5 (by omega))
      refine lv_iconst (v := nI 0) hx hb dL_isLaidOut_308 rfl ?_
      refine lv_istore_n (lv' := [(1, .int (nI (0))), (0, .ref (a 0))]) hx hb dL_isLaidOut_309 rfl hl (by decide) rfl (fun ls hl => ?_)
      have lp310 : ∀ (j_ i : Nat), i + j_ = 21 → ∀ (ls : Array Slot), lv_has ls 8 [(0, .ref (a 0)), (1, .int (nI (i)))] → W p l e (k2_rm 7 105) s m ([.ref (a 0)] : List Value).toArray below meth c s.heap [] 0 0 (MQ below (k2_QcV (.int (bI (true)))) ([.ref (a 0)] : List Value).toArray s 0 0 (fun _ => False)) (F0 m 310 ls []) := by
        intro j_
        induction j_ with
        | zero =>
          intro i hn_i ls hl
          refine lv_iload_n hx hb dL_isLaidOut_310 rfl (lv_at hl 1 rfl) ?_
          refine lv_bipush (v := nI 21) hx hb dL_isLaidOut_311 rfl ?_
          refine q_geN (tgt := 345) hx hb dL_isLaidOut_313 (by decide) (by omega) (by omega) (fun c_313 => ?_) (fun c_313 => absurd c_313 (by omega))
          refine lv_iconst (v := nI 1) hx hb dL_isLaidOut_345 rfl ?_
          exact q_zret hx hb hr hlocks dL_isLaidOut_346 (rfl)
        | succ j_ ih_i =>
          intro i hn_i ls hl
          refine lv_iload_n hx hb dL_isLaidOut_310 rfl (lv_at hl 1 rfl) ?_
          refine lv_bipush (v := nI 21) hx hb dL_isLaidOut_311 rfl ?_
          refine q_geN (tgt := 345) hx hb dL_isLaidOut_313 (by decide) (by omega) (by omega) (fun c_313 => absurd c_313 (by omega)) (fun c_313 => ?_)
          refine lv_aload_n hx hb dL_isLaidOut_316 rfl (lv_at hl 0 rfl) ?_
          refine lv_iload_n hx hb dL_isLaidOut_317 rfl (lv_at hl 1 rfl) ?_
          refine lv_iconst (v := nI 2) hx hb dL_isLaidOut_318 rfl ?_
          refine q_cV (As := [.int (nI (i)), .int (nI (2))]) (rest := []) ⟨hx, hb, hml, hown, hts⟩ (k_X6_place D cy a σ kept nxt cnt T len pos ph le nu va Z (i) (2) (by omega) (by omega)) (cwV 2 hts gL_isLaidOut_X6_place rfl rfl rfl hd_X6_place ⟨Nat.le_of_ble_eq_true rfl, Nat.le_of_ble_eq_true rfl⟩) hK hP 0 rfl rfl rfl hl.1 rfl (Nat.le_of_ble_eq_true rfl) ⟨Nat.zero_le _, Nat.zero_le _⟩ dL_isLaidOut_319 ?_
          refine lv_bipush (v := nI 10) hx hb dL_isLaidOut_322 rfl ?_
          refine q_divN hx hb dL_isLaidOut_324 (by omega) (by have := @sp_lt i 2 (by omega) (by omega); omega) (by omega) ?_
          refine lv_aload_n hx hb dL_isLaidOut_325 rfl (lv_at hl 0 rfl) ?_
          refine lv_iload_n hx hb dL_isLaidOut_326 rfl (lv_at hl 1 rfl) ?_
          refine lv_iload_n hx hb dL_isLaidOut_327 rfl (lv_at hl 1 rfl) ?_
          refine lv_bipush (v := nI 7) hx hb dL_isLaidOut_328 rfl ?_
          refine q_divN hx hb dL_isLaidOut_330 (by omega) (by omega) (by omega) ?_
          refine q_cV (As := [.int (nI (i)), .int (nI (i / 7))]) (rest := [.int (nI ((10 * (spT (3 * i + 2) / 9) + spT (3 * i + 2) % 9) / 10))]) ⟨hx, hb, hml, hown, hts⟩ (k_X6_member D cy a σ kept nxt cnt T len pos ph le nu va Z (i) (i / 7) (by omega) (by omega)) (cwV 2 hts gL_isLaidOut_X6_member rfl rfl rfl hd_X6_member ⟨Nat.le_of_ble_eq_true rfl, Nat.le_of_ble_eq_true rfl⟩) hK hP 0 rfl rfl rfl hl.1 rfl (Nat.le_of_ble_eq_true rfl) ⟨Nat.zero_le _, Nat.zero_le _⟩ dL_isLaidOut_331 ?_
          refine q_eqN (tgt := 339) hx hb dL_isLaidOut_334 (by decide) (by have := @sp_lt i 2 (by omega) (by omega); omega) (by have := mem_lt i (i / 7); omega) (fun c_334 => ?_) (fun c_334 => absurd c_334 (by intro z; exact z (pl_par (by omega))))
          refine lv_iinc (v := nI (i + 1)) (lv' := [(1, .int (nI (i + 1))), (0, .ref (a 0))]) hx hb dL_isLaidOut_339 hl (k := 1) rfl (show nI (i) + nI 1 = nI (i + 1) from nI_add _ _) (by decide) rfl (fun ls hl => ?_)
          refine lv_goto (tgt := 310) hx hb dL_isLaidOut_342 (by decide) ?_
          exact ih_i (i + 1) (by omega) _ (lv_sub hl [1, 0] rfl)
      exact lp310 (21 - 0) 0 (by omega) _ (lv_sub hl [1, 0] rfl)
    | succ j_ ih_d =>
      intro d hn_d ls hl
      refine lv_iload_n hx hb dL_isLaidOut_2 rfl (lv_at hl 1 rfl) ?_
      refine lv_bipush (v := nI 7) hx hb dL_isLaidOut_3 rfl ?_
      refine q_geN (tgt := 308) hx hb dL_isLaidOut_5 (by decide) (by omega) (by omega) (fun c_5 => absurd c_5 (by omega)) (fun c_5 => ?_)
      refine lv_iconst (v := -1) hx hb dL_isLaidOut_8 rfl ?_
      refine lv_istore_n (lv' := [(2, .int (-1)), (0, .ref (a 0)), (1, .int (nI (d)))]) hx hb dL_isLaidOut_9 rfl hl (by decide) rfl (fun ls hl => ?_)
      refine lv_iconst (v := nI 0) hx hb dL_isLaidOut_10 rfl ?_
      refine lv_istore_n (lv' := [(3, .int (nI (0))), (2, .int (-1)), (0, .ref (a 0)), (1, .int (nI (d)))]) hx hb dL_isLaidOut_11 rfl hl (by decide) rfl (fun ls hl => ?_)
      have lp12 : ∀ (j_ g : Nat), g + j_ = 9 → ∀ (ls : Array Slot), lv_has ls 8 [(0, .ref (a 0)), (1, .int (nI (d))), (2, .int (laS d g)), (3, .int (nI (g)))] → W p l e (k2_rm 7 105) s m ([.ref (a 0)] : List Value).toArray below meth c s.heap [] 0 0 (MQ below (k2_QcV (.int (bI (true)))) ([.ref (a 0)] : List Value).toArray s 0 0 (fun _ => False)) (F0 m 12 ls []) := by
        intro j_
        induction j_ with
        | zero =>
          intro g hn_g ls hl
          refine lv_iload_n hx hb dL_isLaidOut_12 rfl (lv_at hl 3 rfl) ?_
          refine lv_bipush (v := nI 9) hx hb dL_isLaidOut_13 rfl ?_
          refine q_geN (tgt := 136) hx hb dL_isLaidOut_15 (by decide) (by omega) (by omega) (fun c_15 => ?_) (fun c_15 => absurd c_15 (by omega))
          refine lv_iconst (v := nI 0) hx hb dL_isLaidOut_136 rfl ?_
          refine lv_istore_n (lv' := [(3, .int (nI (0))), (0, .ref (a 0)), (1, .int (nI (d))), (2, .int (laS d g))]) hx hb dL_isLaidOut_137 rfl hl (by decide) rfl (fun ls hl => ?_)
          have lp138 : ∀ (j_ q : Nat), q + j_ = 7 → ∀ (ls : Array Slot), lv_has ls 8 [(0, .ref (a 0)), (1, .int (nI (d))), (3, .int (nI (q)))] → W p l e (k2_rm 7 105) s m ([.ref (a 0)] : List Value).toArray below meth c s.heap [] 0 0 (MQ below (k2_QcV (.int (bI (true)))) ([.ref (a 0)] : List Value).toArray s 0 0 (fun _ => False)) (F0 m 138 ls []) := by
            intro j_
            induction j_ with
            | zero =>
              intro q hn_q ls hl
              refine lv_iload_n hx hb dL_isLaidOut_138 rfl (lv_at hl 2 rfl) ?_
              refine lv_bipush (v := nI 7) hx hb dL_isLaidOut_139 rfl ?_
              refine q_geN (tgt := 302) hx hb dL_isLaidOut_141 (by decide) (by omega) (by omega) (fun c_141 => ?_) (fun c_141 => absurd c_141 (by omega))
              refine lv_iinc (v := nI (d + 1)) (lv' := [(1, .int (nI (d + 1))), (0, .ref (a 0)), (3, .int (nI (q)))]) hx hb dL_isLaidOut_302 hl (k := 1) rfl (show nI (d) + nI 1 = nI (d + 1) from nI_add _ _) (by decide) rfl (fun ls hl => ?_)
              refine lv_goto (tgt := 2) hx hb dL_isLaidOut_305 (by decide) ?_
              exact ih_d (d + 1) (by omega) _ (lv_sub hl [1, 0] rfl)
            | succ j_ ih_q =>
              intro q hn_q ls hl
              refine lv_iload_n hx hb dL_isLaidOut_138 rfl (lv_at hl 2 rfl) ?_
              refine lv_bipush (v := nI 7) hx hb dL_isLaidOut_139 rfl ?_
              refine q_geN (tgt := 302) hx hb dL_isLaidOut_141 (by decide) (by omega) (by omega) (fun c_141 => absurd c_141 (by omega)) (fun c_141 => ?_)
              refine lv_iconst (v := nI 0) hx hb dL_isLaidOut_144 rfl ?_
              refine lv_istore (lv' := [(4, .int (nI (0))), (0, .ref (a 0)), (1, .int (nI (d))), (3, .int (nI (q)))]) hx hb dL_isLaidOut_145 hl (by decide) rfl (fun ls hl => ?_)
              refine lv_iconst (v := nI 0) hx hb dL_isLaidOut_147 rfl ?_
              refine lv_istore (lv' := [(5, .int (nI (0))), (4, .int (nI (0))), (0, .ref (a 0)), (1, .int (nI (d))), (3, .int (nI (q)))]) hx hb dL_isLaidOut_148 hl (by decide) rfl (fun ls hl => ?_)
              have lp150 : ∀ (j_ i : Nat), i + j_ = 21 → ∀ (ls : Array Slot), lv_has ls 8 [(0, .ref (a 0)), (1, .int (nI (d))), (3, .int (nI (q))), (4, .int (nI (boS d q i))), (5, .int (nI (i)))] → W p l e (k2_rm 7 105) s m ([.ref (a 0)] : List Value).toArray below meth c s.heap [] 0 0 (MQ below (k2_QcV (.int (bI (true)))) ([.ref (a 0)] : List Value).toArray s 0 0 (fun _ => False)) (F0 m 150 ls []) := by
                intro j_
                induction j_ with
                | zero =>
                  intro i hn_i ls hl
                  refine lv_iload hx hb dL_isLaidOut_150 (lv_at hl 4 rfl) ?_
                  refine lv_bipush (v := nI 21) hx hb dL_isLaidOut_152 rfl ?_
                  refine q_geN (tgt := 268) hx hb dL_isLaidOut_154 (by decide) (by omega) (by omega) (fun c_154 => ?_) (fun c_154 => absurd c_154 (by omega))
                  have e9 : i = 21 := by omega
                  subst e9
                  have hl : lv_has ls 8 [(0, .ref (a 0)), (1, .int (nI (d))), (3, .int (nI (q))), (4, .int (nI (boS d q 21)))] := lv_sub hl [0, 1, 2, 3] rfl
                  refine lv_iload hx hb dL_isLaidOut_268 (lv_at hl 3 rfl) ?_
                  refine lv_iload_n hx hb dL_isLaidOut_270 rfl (lv_at hl 1 rfl) ?_
                  refine lv_iload_n hx hb dL_isLaidOut_271 rfl (lv_at hl 2 rfl) ?_
                  refine q_neN (tgt := 279) hx hb dL_isLaidOut_272 (by decide) (by omega) (by omega) (fun c_272 => ?_) (fun c_272 => ?_)
                  · refine lv_iconst (v := nI 3) hx hb dL_isLaidOut_279 rfl ?_
                    refine q_neN (tgt := 294) hx hb dL_isLaidOut_280 (by decide) (by have := boS_le d q 21; omega) (by omega) (fun c_280 => absurd c_280 (fun z => z (by rw [bo_21 (by omega) (by omega), if_neg c_272]))) (fun c_280 => ?_)
                    refine lv_aload_n hx hb dL_isLaidOut_283 rfl (lv_at hl 0 rfl) ?_
                    refine lv_iload_n hx hb dL_isLaidOut_284 rfl (lv_at hl 1 rfl) ?_
                    refine lv_iload_n hx hb dL_isLaidOut_285 rfl (lv_at hl 2 rfl) ?_
                    refine q_cV (As := [.int (nI (d)), .int (nI (q))]) (rest := []) ⟨hx, hb, hml, hown, hts⟩ (k_X6_loadOf D cy a σ kept nxt cnt T len pos ph le nu va Z (d) (q) (by omega) (by omega)) (cwV 2 hts gL_isLaidOut_X6_loadOf rfl rfl rfl hd_X6_loadOf ⟨Nat.le_of_ble_eq_true rfl, Nat.le_of_ble_eq_true rfl⟩) hK hP 0 rfl rfl rfl hl.1 rfl (Nat.le_of_ble_eq_true rfl) ⟨Nat.zero_le _, Nat.zero_le _⟩ dL_isLaidOut_286 ?_
                    refine lv_iload hx hb dL_isLaidOut_289 (lv_at hl 3 rfl) ?_
                    refine q_eqN (tgt := 296) hx hb dL_isLaidOut_291 (by decide) (by rw [bo_i (by omega) (by omega)]; have := boS_le d q 21; omega) (by have := boS_le d q 21; omega) (fun c_291 => ?_) (fun c_291 => absurd c_291 (fun z => z (bo_i (by omega) (by omega))))
                    refine lv_iinc (v := nI (q + 1)) (lv' := [(3, .int (nI (q + 1))), (0, .ref (a 0)), (1, .int (nI (d))), (4, .int (nI (boS d q 21)))]) hx hb dL_isLaidOut_296 hl (k := 2) rfl (show nI (q) + nI 1 = nI (q + 1) from nI_add _ _) (by decide) rfl (fun ls hl => ?_)
                    refine lv_goto (tgt := 138) hx hb dL_isLaidOut_299 (by decide) ?_
                    exact ih_q (q + 1) (by omega) _ (lv_sub hl [1, 2, 0] rfl)
                  · refine lv_iconst (v := nI 0) hx hb dL_isLaidOut_275 rfl ?_
                    refine lv_goto (tgt := 280) hx hb dL_isLaidOut_276 (by decide) ?_
                    refine q_neN (tgt := 294) hx hb dL_isLaidOut_280 (by decide) (by have := boS_le d q 21; omega) (by omega) (fun c_280 => absurd c_280 (fun z => z (by rw [bo_21 (by omega) (by omega), if_pos c_272]))) (fun c_280 => ?_)
                    refine lv_aload_n hx hb dL_isLaidOut_283 rfl (lv_at hl 0 rfl) ?_
                    refine lv_iload_n hx hb dL_isLaidOut_284 rfl (lv_at hl 1 rfl) ?_
                    refine lv_iload_n hx hb dL_isLaidOut_285 rfl (lv_at hl 2 rfl) ?_
                    refine q_cV (As := [.int (nI (d)), .int (nI (q))]) (rest := []) ⟨hx, hb, hml, hown, hts⟩ (k_X6_loadOf D cy a σ kept nxt cnt T len pos ph le nu va Z (d) (q) (by omega) (by omega)) (cwV 2 hts gL_isLaidOut_X6_loadOf rfl rfl rfl hd_X6_loadOf ⟨Nat.le_of_ble_eq_true rfl, Nat.le_of_ble_eq_true rfl⟩) hK hP 0 rfl rfl rfl hl.1 rfl (Nat.le_of_ble_eq_true rfl) ⟨Nat.zero_le _, Nat.zero_le _⟩ dL_isLaidOut_286 ?_
                    refine lv_iload hx hb dL_isLaidOut_289 (lv_at hl 3 rfl) ?_
                    refine q_eqN (tgt := 296) hx hb dL_isLaidOut_291 (by decide) (by rw [bo_i (by omega) (by omega)]; have := boS_le d q 21; omega) (by have := boS_le d q 21; omega) (fun c_291 => ?_) (fun c_291 => absurd c_291 (fun z => z (bo_i (by omega) (by omega))))
                    refine lv_iinc (v := nI (q + 1)) (lv' := [(3, .int (nI (q + 1))), (0, .ref (a 0)), (1, .int (nI (d))), (4, .int (nI (boS d q 21)))]) hx hb dL_isLaidOut_296 hl (k := 2) rfl (show nI (q) + nI 1 = nI (q + 1) from nI_add _ _) (by decide) rfl (fun ls hl => ?_)
                    refine lv_goto (tgt := 138) hx hb dL_isLaidOut_299 (by decide) ?_
                    exact ih_q (q + 1) (by omega) _ (lv_sub hl [1, 2, 0] rfl)
                | succ j_ ih_i =>
                  intro i hn_i ls hl
                  refine lv_iload hx hb dL_isLaidOut_150 (lv_at hl 4 rfl) ?_
                  refine lv_bipush (v := nI 21) hx hb dL_isLaidOut_152 rfl ?_
                  refine q_geN (tgt := 268) hx hb dL_isLaidOut_154 (by decide) (by omega) (by omega) (fun c_154 => absurd c_154 (by omega)) (fun c_154 => ?_)
                  have jn195 : ∀ (ls : Array Slot), lv_has ls 8 [(0, .ref (a 0)), (1, .int (nI (d))), (3, .int (nI (q))), (4, .int (nI (boS d q i))), (5, .int (nI (i)))] → W p l e (k2_rm 7 105) s m ([.ref (a 0)] : List Value).toArray below meth c s.heap [] 0 0 (MQ below (k2_QcV (.int (bI (true)))) ([.ref (a 0)] : List Value).toArray s 0 0 (fun _ => False)) (F0 m 195 ls [.int (bI (lies i d))]) := by
                    intro ls hl
                    refine lv_istore (lv' := [(6, .int (bI (lies i d))), (0, .ref (a 0)), (1, .int (nI (d))), (3, .int (nI (q))), (4, .int (nI (boS d q i))), (5, .int (nI (i)))]) hx hb dL_isLaidOut_195 hl (by decide) rfl (fun ls hl => ?_)
                    have jn235 : ∀ (ls : Array Slot), lv_has ls 8 [(6, .int (bI (lies i d))), (0, .ref (a 0)), (1, .int (nI (d))), (3, .int (nI (q))), (4, .int (nI (boS d q i))), (5, .int (nI (i)))] → W p l e (k2_rm 7 105) s m ([.ref (a 0)] : List Value).toArray below meth c s.heap [] 0 0 (MQ below (k2_QcV (.int (bI (true)))) ([.ref (a 0)] : List Value).toArray s 0 0 (fun _ => False)) (F0 m 235 ls [.int (bI (lies i q))]) := by
                      intro ls hl
                      refine lv_istore (lv' := [(7, .int (bI (lies i q))), (6, .int (bI (lies i d))), (0, .ref (a 0)), (1, .int (nI (d))), (3, .int (nI (q))), (4, .int (nI (boS d q i))), (5, .int (nI (i)))]) hx hb dL_isLaidOut_235 hl (by decide) rfl (fun ls hl => ?_)
                      refine lv_iload hx hb dL_isLaidOut_237 (lv_at hl 5 rfl) ?_
                      refine lv_iload hx hb dL_isLaidOut_239 (lv_at hl 1 rfl) ?_
                      refine q_ifeqB (tgt := 258) hx hb dL_isLaidOut_241 (by decide) (fun c_241 => ?_) (fun c_241 => ?_)
                      · refine lv_iconst (v := nI 0) hx hb dL_isLaidOut_258 rfl ?_
                        refine q_addN hx hb dL_isLaidOut_259 ?_
                        refine lv_istore (lv' := [(4, .int (nI ((boS d q i) + 0))), (7, .int (bI (lies i q))), (6, .int (bI (lies i d))), (0, .ref (a 0)), (1, .int (nI (d))), (3, .int (nI (q))), (5, .int (nI (i)))]) hx hb dL_isLaidOut_260 hl (by decide) rfl (fun ls hl => ?_)
                        have e_c : nI ((boS d q i) + 0) = nI (boS d q (i + 1)) := congrArg nI (by rw [boS_s, c_241, Bool.false_and, Bool.false_and]; rfl)
                        have hl : lv_has ls 8 [(4, .int (nI (boS d q (i + 1)))), (7, .int (bI (lies i q))), (6, .int (bI (lies i d))), (0, .ref (a 0)), (1, .int (nI (d))), (3, .int (nI (q))), (5, .int (nI (i)))] := by rw [← e_c]; exact hl
                        refine lv_iinc (v := nI (i + 1)) (lv' := [(5, .int (nI (i + 1))), (4, .int (nI (boS d q (i + 1)))), (7, .int (bI (lies i q))), (6, .int (bI (lies i d))), (0, .ref (a 0)), (1, .int (nI (d))), (3, .int (nI (q)))]) hx hb dL_isLaidOut_262 hl (k := 6) rfl (show nI (i) + nI 1 = nI (i + 1) from nI_add _ _) (by decide) rfl (fun ls hl => ?_)
                        refine lv_goto (tgt := 150) hx hb dL_isLaidOut_265 (by decide) ?_
                        exact ih_i (i + 1) (by omega) _ (lv_sub hl [4, 5, 6, 1, 0] rfl)
                      · refine lv_iload hx hb dL_isLaidOut_244 (lv_at hl 0 rfl) ?_
                        refine q_ifeqB (tgt := 258) hx hb dL_isLaidOut_246 (by decide) (fun c_246 => ?_) (fun c_246 => ?_)
                        · refine lv_iconst (v := nI 0) hx hb dL_isLaidOut_258 rfl ?_
                          refine q_addN hx hb dL_isLaidOut_259 ?_
                          refine lv_istore (lv' := [(4, .int (nI ((boS d q i) + 0))), (7, .int (bI (lies i q))), (6, .int (bI (lies i d))), (0, .ref (a 0)), (1, .int (nI (d))), (3, .int (nI (q))), (5, .int (nI (i)))]) hx hb dL_isLaidOut_260 hl (by decide) rfl (fun ls hl => ?_)
                          have e_c : nI ((boS d q i) + 0) = nI (boS d q (i + 1)) := congrArg nI (by rw [boS_s, c_246, Bool.and_false, Bool.false_and]; rfl)
                          have hl : lv_has ls 8 [(4, .int (nI (boS d q (i + 1)))), (7, .int (bI (lies i q))), (6, .int (bI (lies i d))), (0, .ref (a 0)), (1, .int (nI (d))), (3, .int (nI (q))), (5, .int (nI (i)))] := by rw [← e_c]; exact hl
                          refine lv_iinc (v := nI (i + 1)) (lv' := [(5, .int (nI (i + 1))), (4, .int (nI (boS d q (i + 1)))), (7, .int (bI (lies i q))), (6, .int (bI (lies i d))), (0, .ref (a 0)), (1, .int (nI (d))), (3, .int (nI (q)))]) hx hb dL_isLaidOut_262 hl (k := 6) rfl (show nI (i) + nI 1 = nI (i + 1) from nI_add _ _) (by decide) rfl (fun ls hl => ?_)
                          refine lv_goto (tgt := 150) hx hb dL_isLaidOut_265 (by decide) ?_
                          exact ih_i (i + 1) (by omega) _ (lv_sub hl [4, 5, 6, 1, 0] rfl)
                        · refine lv_iload_n hx hb dL_isLaidOut_249 rfl (lv_at hl 3 rfl) ?_
                          refine lv_iload_n hx hb dL_isLaidOut_250 rfl (lv_at hl 4 rfl) ?_
                          refine q_eqN (tgt := 258) hx hb dL_isLaidOut_251 (by decide) (by omega) (by omega) (fun c_251 => ?_) (fun c_251 => ?_)
                          · refine lv_iconst (v := nI 0) hx hb dL_isLaidOut_258 rfl ?_
                            refine q_addN hx hb dL_isLaidOut_259 ?_
                            refine lv_istore (lv' := [(4, .int (nI ((boS d q i) + 0))), (7, .int (bI (lies i q))), (6, .int (bI (lies i d))), (0, .ref (a 0)), (1, .int (nI (d))), (3, .int (nI (q))), (5, .int (nI (i)))]) hx hb dL_isLaidOut_260 hl (by decide) rfl (fun ls hl => ?_)
                            have e_c : nI ((boS d q i) + 0) = nI (boS d q (i + 1)) := congrArg nI (by rw [boS_s, decide_eq_true c_251, Bool.not_true, Bool.and_false]; rfl)
                            have hl : lv_has ls 8 [(4, .int (nI (boS d q (i + 1)))), (7, .int (bI (lies i q))), (6, .int (bI (lies i d))), (0, .ref (a 0)), (1, .int (nI (d))), (3, .int (nI (q))), (5, .int (nI (i)))] := by rw [← e_c]; exact hl
                            refine lv_iinc (v := nI (i + 1)) (lv' := [(5, .int (nI (i + 1))), (4, .int (nI (boS d q (i + 1)))), (7, .int (bI (lies i q))), (6, .int (bI (lies i d))), (0, .ref (a 0)), (1, .int (nI (d))), (3, .int (nI (q)))]) hx hb dL_isLaidOut_262 hl (k := 6) rfl (show nI (i) + nI 1 = nI (i + 1) from nI_add _ _) (by decide) rfl (fun ls hl => ?_)
                            refine lv_goto (tgt := 150) hx hb dL_isLaidOut_265 (by decide) ?_
                            exact ih_i (i + 1) (by omega) _ (lv_sub hl [4, 5, 6, 1, 0] rfl)
                          · refine lv_iconst (v := nI 1) hx hb dL_isLaidOut_254 rfl ?_
                            refine lv_goto (tgt := 259) hx hb dL_isLaidOut_255 (by decide) ?_
                            refine q_addN hx hb dL_isLaidOut_259 ?_
                            refine lv_istore (lv' := [(4, .int (nI ((boS d q i) + 1))), (7, .int (bI (lies i q))), (6, .int (bI (lies i d))), (0, .ref (a 0)), (1, .int (nI (d))), (3, .int (nI (q))), (5, .int (nI (i)))]) hx hb dL_isLaidOut_260 hl (by decide) rfl (fun ls hl => ?_)
                            have e_c : nI ((boS d q i) + 1) = nI (boS d q (i + 1)) := congrArg nI (by rw [boS_s, c_241, c_246, decide_eq_false c_251]; rfl)
                            have hl : lv_has ls 8 [(4, .int (nI (boS d q (i + 1)))), (7, .int (bI (lies i q))), (6, .int (bI (lies i d))), (0, .ref (a 0)), (1, .int (nI (d))), (3, .int (nI (q))), (5, .int (nI (i)))] := by rw [← e_c]; exact hl
                            refine lv_iinc (v := nI (i + 1)) (lv' := [(5, .int (nI (i + 1))), (4, .int (nI (boS d q (i + 1)))), (7, .int (bI (lies i q))), (6, .int (bI (lies i d))), (0, .ref (a 0)), (1, .int (nI (d))), (3, .int (nI (q)))]) hx hb dL_isLaidOut_262 hl (k := 6) rfl (show nI (i) + nI 1 = nI (i + 1) from nI_add _ _) (by decide) rfl (fun ls hl => ?_)
                            refine lv_goto (tgt := 150) hx hb dL_isLaidOut_265 (by decide) ?_
                            exact ih_i (i + 1) (by omega) _ (lv_sub hl [4, 5, 6, 1, 0] rfl)
                    refine lv_aload_n hx hb dL_isLaidOut_197 rfl (lv_at hl 1 rfl) ?_
                    refine lv_iload hx hb dL_isLaidOut_198 (lv_at hl 5 rfl) ?_
                    refine lv_iconst (v := nI 0) hx hb dL_isLaidOut_200 rfl ?_
                    refine q_cV (As := [.int (nI (i)), .int (nI (0))]) (rest := []) ⟨hx, hb, hml, hown, hts⟩ (k_X6_member D cy a σ kept nxt cnt T len pos ph le nu va Z (i) (0) (by omega) (by omega)) (cwV 2 hts gL_isLaidOut_X6_member rfl rfl rfl hd_X6_member ⟨Nat.le_of_ble_eq_true rfl, Nat.le_of_ble_eq_true rfl⟩) hK hP 0 rfl rfl rfl hl.1 rfl (Nat.le_of_ble_eq_true rfl) ⟨Nat.zero_le _, Nat.zero_le _⟩ dL_isLaidOut_201 ?_
                    refine lv_iload_n hx hb dL_isLaidOut_204 rfl (lv_at hl 3 rfl) ?_
                    refine q_eqN (tgt := 230) hx hb dL_isLaidOut_205 (by decide) (by have := mem_lt i 0; omega) (by omega) (fun c_205 => ?_) (fun c_205 => ?_)
                    · refine lv_iconst (v := nI 1) hx hb dL_isLaidOut_230 rfl ?_
                      refine lv_goto (tgt := 235) hx hb dL_isLaidOut_231 (by decide) ?_
                      refine q_stk (show ([.int (nI (1))] : List Value) = [.int (bI (lies i q))] from by rw [lies_t (i := 0) (by omega) c_205]; rfl) ?_
                      exact jn235 _ (lv_sub hl [0, 1, 2, 3, 4, 5] rfl)
                    · refine lv_aload_n hx hb dL_isLaidOut_208 rfl (lv_at hl 1 rfl) ?_
                      refine lv_iload hx hb dL_isLaidOut_209 (lv_at hl 5 rfl) ?_
                      refine lv_iconst (v := nI 1) hx hb dL_isLaidOut_211 rfl ?_
                      refine q_cV (As := [.int (nI (i)), .int (nI (1))]) (rest := []) ⟨hx, hb, hml, hown, hts⟩ (k_X6_member D cy a σ kept nxt cnt T len pos ph le nu va Z (i) (1) (by omega) (by omega)) (cwV 2 hts gL_isLaidOut_X6_member rfl rfl rfl hd_X6_member ⟨Nat.le_of_ble_eq_true rfl, Nat.le_of_ble_eq_true rfl⟩) hK hP 0 rfl rfl rfl hl.1 rfl (Nat.le_of_ble_eq_true rfl) ⟨Nat.zero_le _, Nat.zero_le _⟩ dL_isLaidOut_212 ?_
                      refine lv_iload_n hx hb dL_isLaidOut_215 rfl (lv_at hl 3 rfl) ?_
                      refine q_eqN (tgt := 230) hx hb dL_isLaidOut_216 (by decide) (by have := mem_lt i 1; omega) (by omega) (fun c_216 => ?_) (fun c_216 => ?_)
                      · refine lv_iconst (v := nI 1) hx hb dL_isLaidOut_230 rfl ?_
                        refine lv_goto (tgt := 235) hx hb dL_isLaidOut_231 (by decide) ?_
                        refine q_stk (show ([.int (nI (1))] : List Value) = [.int (bI (lies i q))] from by rw [lies_t (i := 1) (by omega) c_216]; rfl) ?_
                        exact jn235 _ (lv_sub hl [0, 1, 2, 3, 4, 5] rfl)
                      · refine lv_aload_n hx hb dL_isLaidOut_219 rfl (lv_at hl 1 rfl) ?_
                        refine lv_iload hx hb dL_isLaidOut_220 (lv_at hl 5 rfl) ?_
                        refine lv_iconst (v := nI 2) hx hb dL_isLaidOut_222 rfl ?_
                        refine q_cV (As := [.int (nI (i)), .int (nI (2))]) (rest := []) ⟨hx, hb, hml, hown, hts⟩ (k_X6_member D cy a σ kept nxt cnt T len pos ph le nu va Z (i) (2) (by omega) (by omega)) (cwV 2 hts gL_isLaidOut_X6_member rfl rfl rfl hd_X6_member ⟨Nat.le_of_ble_eq_true rfl, Nat.le_of_ble_eq_true rfl⟩) hK hP 0 rfl rfl rfl hl.1 rfl (Nat.le_of_ble_eq_true rfl) ⟨Nat.zero_le _, Nat.zero_le _⟩ dL_isLaidOut_223 ?_
                        refine lv_iload_n hx hb dL_isLaidOut_226 rfl (lv_at hl 3 rfl) ?_
                        refine q_neN (tgt := 234) hx hb dL_isLaidOut_227 (by decide) (by have := mem_lt i 2; omega) (by omega) (fun c_227 => ?_) (fun c_227 => ?_)
                        · refine lv_iconst (v := nI 0) hx hb dL_isLaidOut_234 rfl ?_
                          refine q_stk (show ([.int (nI (0))] : List Value) = [.int (bI (lies i q))] from by rw [lies_f (fun x hx => by rcases (show x = 0 ∨ x = 1 ∨ x = 2 by omega) with rfl | rfl | rfl; exact c_205; exact c_216; exact c_227)]; rfl) ?_
                          exact jn235 _ (lv_sub hl [0, 1, 2, 3, 4, 5] rfl)
                        · refine lv_iconst (v := nI 1) hx hb dL_isLaidOut_230 rfl ?_
                          refine lv_goto (tgt := 235) hx hb dL_isLaidOut_231 (by decide) ?_
                          refine q_stk (show ([.int (nI (1))] : List Value) = [.int (bI (lies i q))] from by rw [lies_t (i := 2) (by omega) c_227]; rfl) ?_
                          exact jn235 _ (lv_sub hl [0, 1, 2, 3, 4, 5] rfl)
                  refine lv_aload_n hx hb dL_isLaidOut_157 rfl (lv_at hl 0 rfl) ?_
                  refine lv_iload hx hb dL_isLaidOut_158 (lv_at hl 4 rfl) ?_
                  refine lv_iconst (v := nI 0) hx hb dL_isLaidOut_160 rfl ?_
                  refine q_cV (As := [.int (nI (i)), .int (nI (0))]) (rest := []) ⟨hx, hb, hml, hown, hts⟩ (k_X6_member D cy a σ kept nxt cnt T len pos ph le nu va Z (i) (0) (by omega) (by omega)) (cwV 2 hts gL_isLaidOut_X6_member rfl rfl rfl hd_X6_member ⟨Nat.le_of_ble_eq_true rfl, Nat.le_of_ble_eq_true rfl⟩) hK hP 0 rfl rfl rfl hl.1 rfl (Nat.le_of_ble_eq_true rfl) ⟨Nat.zero_le _, Nat.zero_le _⟩ dL_isLaidOut_161 ?_
                  refine lv_iload_n hx hb dL_isLaidOut_164 rfl (lv_at hl 1 rfl) ?_
                  refine q_eqN (tgt := 190) hx hb dL_isLaidOut_165 (by decide) (by have := mem_lt i 0; omega) (by omega) (fun c_165 => ?_) (fun c_165 => ?_)
                  · refine lv_iconst (v := nI 1) hx hb dL_isLaidOut_190 rfl ?_
                    refine lv_goto (tgt := 195) hx hb dL_isLaidOut_191 (by decide) ?_
                    refine q_stk (show ([.int (nI (1))] : List Value) = [.int (bI (lies i d))] from by rw [lies_t (i := 0) (by omega) c_165]; rfl) ?_
                    exact jn195 _ (lv_sub hl [0, 1, 2, 3, 4] rfl)
                  · refine lv_aload_n hx hb dL_isLaidOut_168 rfl (lv_at hl 0 rfl) ?_
                    refine lv_iload hx hb dL_isLaidOut_169 (lv_at hl 4 rfl) ?_
                    refine lv_iconst (v := nI 1) hx hb dL_isLaidOut_171 rfl ?_
                    refine q_cV (As := [.int (nI (i)), .int (nI (1))]) (rest := []) ⟨hx, hb, hml, hown, hts⟩ (k_X6_member D cy a σ kept nxt cnt T len pos ph le nu va Z (i) (1) (by omega) (by omega)) (cwV 2 hts gL_isLaidOut_X6_member rfl rfl rfl hd_X6_member ⟨Nat.le_of_ble_eq_true rfl, Nat.le_of_ble_eq_true rfl⟩) hK hP 0 rfl rfl rfl hl.1 rfl (Nat.le_of_ble_eq_true rfl) ⟨Nat.zero_le _, Nat.zero_le _⟩ dL_isLaidOut_172 ?_
                    refine lv_iload_n hx hb dL_isLaidOut_175 rfl (lv_at hl 1 rfl) ?_
                    refine q_eqN (tgt := 190) hx hb dL_isLaidOut_176 (by decide) (by have := mem_lt i 1; omega) (by omega) (fun c_176 => ?_) (fun c_176 => ?_)
                    · refine lv_iconst (v := nI 1) hx hb dL_isLaidOut_190 rfl ?_
                      refine lv_goto (tgt := 195) hx hb dL_isLaidOut_191 (by decide) ?_
                      refine q_stk (show ([.int (nI (1))] : List Value) = [.int (bI (lies i d))] from by rw [lies_t (i := 1) (by omega) c_176]; rfl) ?_
                      exact jn195 _ (lv_sub hl [0, 1, 2, 3, 4] rfl)
                    · refine lv_aload_n hx hb dL_isLaidOut_179 rfl (lv_at hl 0 rfl) ?_
                      refine lv_iload hx hb dL_isLaidOut_180 (lv_at hl 4 rfl) ?_
                      refine lv_iconst (v := nI 2) hx hb dL_isLaidOut_182 rfl ?_
                      refine q_cV (As := [.int (nI (i)), .int (nI (2))]) (rest := []) ⟨hx, hb, hml, hown, hts⟩ (k_X6_member D cy a σ kept nxt cnt T len pos ph le nu va Z (i) (2) (by omega) (by omega)) (cwV 2 hts gL_isLaidOut_X6_member rfl rfl rfl hd_X6_member ⟨Nat.le_of_ble_eq_true rfl, Nat.le_of_ble_eq_true rfl⟩) hK hP 0 rfl rfl rfl hl.1 rfl (Nat.le_of_ble_eq_true rfl) ⟨Nat.zero_le _, Nat.zero_le _⟩ dL_isLaidOut_183 ?_
                      refine lv_iload_n hx hb dL_isLaidOut_186 rfl (lv_at hl 1 rfl) ?_
                      refine q_neN (tgt := 194) hx hb dL_isLaidOut_187 (by decide) (by have := mem_lt i 2; omega) (by omega) (fun c_187 => ?_) (fun c_187 => ?_)
                      · refine lv_iconst (v := nI 0) hx hb dL_isLaidOut_194 rfl ?_
                        refine q_stk (show ([.int (nI (0))] : List Value) = [.int (bI (lies i d))] from by rw [lies_f (fun x hx => by rcases (show x = 0 ∨ x = 1 ∨ x = 2 by omega) with rfl | rfl | rfl; exact c_165; exact c_176; exact c_187)]; rfl) ?_
                        exact jn195 _ (lv_sub hl [0, 1, 2, 3, 4] rfl)
                      · refine lv_iconst (v := nI 1) hx hb dL_isLaidOut_190 rfl ?_
                        refine lv_goto (tgt := 195) hx hb dL_isLaidOut_191 (by decide) ?_
                        refine q_stk (show ([.int (nI (1))] : List Value) = [.int (bI (lies i d))] from by rw [lies_t (i := 2) (by omega) c_187]; rfl) ?_
                        exact jn195 _ (lv_sub hl [0, 1, 2, 3, 4] rfl)
              exact lp150 (21 - 0) 0 (by omega) _ (lv_sub hl [2, 3, 4, 1, 0] rfl)
          exact lp138 (7 - 0) 0 (by omega) _ (lv_sub hl [1, 2, 0] rfl)
        | succ j_ ih_g =>
          intro g hn_g ls hl
          refine lv_iload_n hx hb dL_isLaidOut_12 rfl (lv_at hl 3 rfl) ?_
          refine lv_bipush (v := nI 9) hx hb dL_isLaidOut_13 rfl ?_
          refine q_geN (tgt := 136) hx hb dL_isLaidOut_15 (by decide) (by omega) (by omega) (fun c_15 => absurd c_15 (by omega)) (fun c_15 => ?_)
          refine lv_aload_n hx hb dL_isLaidOut_18 rfl (lv_at hl 0 rfl) ?_
          refine lv_iload_n hx hb dL_isLaidOut_19 rfl (lv_at hl 1 rfl) ?_
          refine lv_iload_n hx hb dL_isLaidOut_20 rfl (lv_at hl 3 rfl) ?_
          refine q_cV (As := [.int (nI (d)), .int (nI (g))]) (rest := []) ⟨hx, hb, hml, hown, hts⟩ (k_X6_stripeAt D cy a σ kept nxt cnt T len pos ph le nu va Z (d) (g) (by omega) (by omega)) (cwV 2 hts gL_isLaidOut_X6_stripeAt rfl rfl rfl hd_X6_stripeAt ⟨Nat.le_of_ble_eq_true rfl, Nat.le_of_ble_eq_true rfl⟩) hK hP 0 rfl rfl rfl hl.1 rfl (Nat.le_of_ble_eq_true rfl) ⟨Nat.zero_le _, Nat.zero_le _⟩ dL_isLaidOut_21 ?_
          refine lv_istore (lv' := [(4, .int (nI (stT (9 * d + g)))), (0, .ref (a 0)), (1, .int (nI (d))), (2, .int (laS d g)), (3, .int (nI (g)))]) hx hb dL_isLaidOut_24 hl (by decide) rfl (fun ls hl => ?_)
          refine lv_iload hx hb dL_isLaidOut_26 (lv_at hl 0 rfl) ?_
          refine lv_iload_n hx hb dL_isLaidOut_28 rfl (lv_at hl 3 rfl) ?_
          refine lv_icmp_le (tgt := 117) hx hb dL_isLaidOut_29 (by decide) (fun (c_29 : (nI (stT (9 * d + g))) ≤ (laS d g)) => absurd c_29 (la_lt (by omega) (by omega))) (fun (c_29 : ¬ (nI (stT (9 * d + g))) ≤ (laS d g)) => ?_)
          have jn65 : ∀ (ls : Array Slot), lv_has ls 8 [(0, .ref (a 0)), (1, .int (nI (d))), (2, .int (laS d g)), (3, .int (nI (g))), (4, .int (nI (stT (9 * d + g))))] → W p l e (k2_rm 7 105) s m ([.ref (a 0)] : List Value).toArray below meth c s.heap [] 0 0 (MQ below (k2_QcV (.int (bI (true)))) ([.ref (a 0)] : List Value).toArray s 0 0 (fun _ => False)) (F0 m 65 ls []) := by
            intro ls hl
            have jn113 : ∀ (ls : Array Slot), lv_has ls 8 [(0, .ref (a 0)), (1, .int (nI (d))), (2, .int (laS d g)), (3, .int (nI (g))), (4, .int (nI (stT (9 * d + g))))] → W p l e (k2_rm 7 105) s m ([.ref (a 0)] : List Value).toArray below meth c s.heap [] 0 0 (MQ below (k2_QcV (.int (bI (true)))) ([.ref (a 0)] : List Value).toArray s 0 0 (fun _ => False)) (F0 m 113 ls []) := by
              intro ls hl
              refine lv_iconst (v := nI 1) hx hb dL_isLaidOut_113 rfl ?_
              refine lv_goto (tgt := 118) hx hb dL_isLaidOut_114 (by decide) ?_
              refine lv_istore (lv' := [(5, .int (nI (1))), (0, .ref (a 0)), (1, .int (nI (d))), (2, .int (laS d g)), (3, .int (nI (g))), (4, .int (nI (stT (9 * d + g))))]) hx hb dL_isLaidOut_118 hl (by decide) rfl (fun ls hl => ?_)
              refine lv_iload hx hb dL_isLaidOut_120 (lv_at hl 0 rfl) ?_
              refine q_ifneN (tgt := 127) hx hb dL_isLaidOut_122 (by decide) (by omega) (fun c_122 => ?_) (fun c_122 => absurd c_122 (by omega))
              refine lv_iload hx hb dL_isLaidOut_127 (lv_at hl 5 rfl) ?_
              refine lv_istore_n (lv' := [(2, .int (nI (stT (9 * d + g)))), (5, .int (nI (1))), (0, .ref (a 0)), (1, .int (nI (d))), (3, .int (nI (g))), (4, .int (nI (stT (9 * d + g))))]) hx hb dL_isLaidOut_129 rfl hl (by decide) rfl (fun ls hl => ?_)
              refine lv_iinc (v := nI (g + 1)) (lv' := [(3, .int (nI (g + 1))), (2, .int (nI (stT (9 * d + g)))), (5, .int (nI (1))), (0, .ref (a 0)), (1, .int (nI (d))), (4, .int (nI (stT (9 * d + g))))]) hx hb dL_isLaidOut_130 hl (k := 4) rfl (show nI (g) + nI 1 = nI (g + 1) from nI_add _ _) (by decide) rfl (fun ls hl => ?_)
              refine lv_goto (tgt := 12) hx hb dL_isLaidOut_133 (by decide) ?_
              exact ih_g (g + 1) (by omega) _ (lv_sub hl [3, 4, 1, 0] rfl)
            refine lv_aload_n hx hb dL_isLaidOut_65 rfl (lv_at hl 0 rfl) ?_
            refine lv_iload hx hb dL_isLaidOut_66 (lv_at hl 4 rfl) ?_
            refine lv_iconst (v := nI 0) hx hb dL_isLaidOut_68 rfl ?_
            refine q_cV (As := [.int (nI (stT (9 * d + g))), .int (nI (0))]) (rest := []) ⟨hx, hb, hml, hown, hts⟩ (k_X6_place D cy a σ kept nxt cnt T len pos ph le nu va Z (stT (9 * d + g)) (0) (stT_lt (by omega)) (by omega)) (cwV 2 hts gL_isLaidOut_X6_place rfl rfl rfl hd_X6_place ⟨Nat.le_of_ble_eq_true rfl, Nat.le_of_ble_eq_true rfl⟩) hK hP 0 rfl rfl rfl hl.1 rfl (Nat.le_of_ble_eq_true rfl) ⟨Nat.zero_le _, Nat.zero_le _⟩ dL_isLaidOut_69 ?_
            refine lv_bipush (v := nI 10) hx hb dL_isLaidOut_72 rfl ?_
            refine lv_iload_n hx hb dL_isLaidOut_74 rfl (lv_at hl 1 rfl) ?_
            refine q_mulN hx hb dL_isLaidOut_75 ?_
            refine lv_iload_n hx hb dL_isLaidOut_76 rfl (lv_at hl 3 rfl) ?_
            refine q_addN hx hb dL_isLaidOut_77 ?_
            refine q_eqN (tgt := 113) hx hb dL_isLaidOut_78 (by decide) (by have := @sp_lt (stT (9 * d + g)) 0 (stT_lt (by omega)) (by omega); omega) (by omega) (fun c_78 => ?_) (fun c_78 => ?_)
            · refine q_stk (show ([] : List Value) = [] from rfl) ?_
              exact jn113 _ (lv_sub hl [0, 1, 2, 3, 4] rfl)
            · refine lv_aload_n hx hb dL_isLaidOut_81 rfl (lv_at hl 0 rfl) ?_
              refine lv_iload hx hb dL_isLaidOut_82 (lv_at hl 4 rfl) ?_
              refine lv_iconst (v := nI 1) hx hb dL_isLaidOut_84 rfl ?_
              refine q_cV (As := [.int (nI (stT (9 * d + g))), .int (nI (1))]) (rest := []) ⟨hx, hb, hml, hown, hts⟩ (k_X6_place D cy a σ kept nxt cnt T len pos ph le nu va Z (stT (9 * d + g)) (1) (stT_lt (by omega)) (by omega)) (cwV 2 hts gL_isLaidOut_X6_place rfl rfl rfl hd_X6_place ⟨Nat.le_of_ble_eq_true rfl, Nat.le_of_ble_eq_true rfl⟩) hK hP 0 rfl rfl rfl hl.1 rfl (Nat.le_of_ble_eq_true rfl) ⟨Nat.zero_le _, Nat.zero_le _⟩ dL_isLaidOut_85 ?_
              refine lv_bipush (v := nI 10) hx hb dL_isLaidOut_88 rfl ?_
              refine lv_iload_n hx hb dL_isLaidOut_90 rfl (lv_at hl 1 rfl) ?_
              refine q_mulN hx hb dL_isLaidOut_91 ?_
              refine lv_iload_n hx hb dL_isLaidOut_92 rfl (lv_at hl 3 rfl) ?_
              refine q_addN hx hb dL_isLaidOut_93 ?_
              refine q_eqN (tgt := 113) hx hb dL_isLaidOut_94 (by decide) (by have := @sp_lt (stT (9 * d + g)) 1 (stT_lt (by omega)) (by omega); omega) (by omega) (fun c_94 => ?_) (fun c_94 => ?_)
              · refine q_stk (show ([] : List Value) = [] from rfl) ?_
                exact jn113 _ (lv_sub hl [0, 1, 2, 3, 4] rfl)
              · refine lv_aload_n hx hb dL_isLaidOut_97 rfl (lv_at hl 0 rfl) ?_
                refine lv_iload hx hb dL_isLaidOut_98 (lv_at hl 4 rfl) ?_
                refine lv_iconst (v := nI 2) hx hb dL_isLaidOut_100 rfl ?_
                refine q_cV (As := [.int (nI (stT (9 * d + g))), .int (nI (2))]) (rest := []) ⟨hx, hb, hml, hown, hts⟩ (k_X6_place D cy a σ kept nxt cnt T len pos ph le nu va Z (stT (9 * d + g)) (2) (stT_lt (by omega)) (by omega)) (cwV 2 hts gL_isLaidOut_X6_place rfl rfl rfl hd_X6_place ⟨Nat.le_of_ble_eq_true rfl, Nat.le_of_ble_eq_true rfl⟩) hK hP 0 rfl rfl rfl hl.1 rfl (Nat.le_of_ble_eq_true rfl) ⟨Nat.zero_le _, Nat.zero_le _⟩ dL_isLaidOut_101 ?_
                refine lv_bipush (v := nI 10) hx hb dL_isLaidOut_104 rfl ?_
                refine lv_iload_n hx hb dL_isLaidOut_106 rfl (lv_at hl 1 rfl) ?_
                refine q_mulN hx hb dL_isLaidOut_107 ?_
                refine lv_iload_n hx hb dL_isLaidOut_108 rfl (lv_at hl 3 rfl) ?_
                refine q_addN hx hb dL_isLaidOut_109 ?_
                refine q_neN (tgt := 117) hx hb dL_isLaidOut_110 (by decide) (by have := @sp_lt (stT (9 * d + g)) 2 (stT_lt (by omega)) (by omega); omega) (by omega) (fun c_110 => absurd c_110 (la_pl (by omega) (by omega) c_78 c_94)) (fun c_110 => ?_)
                refine q_stk (show ([] : List Value) = [] from rfl) ?_
                exact jn113 _ (lv_sub hl [0, 1, 2, 3, 4] rfl)
          refine lv_aload_n hx hb dL_isLaidOut_32 rfl (lv_at hl 1 rfl) ?_
          refine lv_iload hx hb dL_isLaidOut_33 (lv_at hl 0 rfl) ?_
          refine lv_iconst (v := nI 0) hx hb dL_isLaidOut_35 rfl ?_
          refine q_cV (As := [.int (nI (stT (9 * d + g))), .int (nI (0))]) (rest := []) ⟨hx, hb, hml, hown, hts⟩ (k_X6_member D cy a σ kept nxt cnt T len pos ph le nu va Z (stT (9 * d + g)) (0) (stT_lt (by omega)) (by omega)) (cwV 2 hts gL_isLaidOut_X6_member rfl rfl rfl hd_X6_member ⟨Nat.le_of_ble_eq_true rfl, Nat.le_of_ble_eq_true rfl⟩) hK hP 0 rfl rfl rfl hl.1 rfl (Nat.le_of_ble_eq_true rfl) ⟨Nat.zero_le _, Nat.zero_le _⟩ dL_isLaidOut_36 ?_
          refine lv_iload_n hx hb dL_isLaidOut_39 rfl (lv_at hl 2 rfl) ?_
          refine q_eqN (tgt := 65) hx hb dL_isLaidOut_40 (by decide) (by have := mem_lt (stT (9 * d + g)) 0; omega) (by omega) (fun c_40 => ?_) (fun c_40 => ?_)
          · refine q_stk (show ([] : List Value) = [] from rfl) ?_
            exact jn65 _ (lv_sub hl [1, 2, 3, 4, 0] rfl)
          · refine lv_aload_n hx hb dL_isLaidOut_43 rfl (lv_at hl 1 rfl) ?_
            refine lv_iload hx hb dL_isLaidOut_44 (lv_at hl 0 rfl) ?_
            refine lv_iconst (v := nI 1) hx hb dL_isLaidOut_46 rfl ?_
            refine q_cV (As := [.int (nI (stT (9 * d + g))), .int (nI (1))]) (rest := []) ⟨hx, hb, hml, hown, hts⟩ (k_X6_member D cy a σ kept nxt cnt T len pos ph le nu va Z (stT (9 * d + g)) (1) (stT_lt (by omega)) (by omega)) (cwV 2 hts gL_isLaidOut_X6_member rfl rfl rfl hd_X6_member ⟨Nat.le_of_ble_eq_true rfl, Nat.le_of_ble_eq_true rfl⟩) hK hP 0 rfl rfl rfl hl.1 rfl (Nat.le_of_ble_eq_true rfl) ⟨Nat.zero_le _, Nat.zero_le _⟩ dL_isLaidOut_47 ?_
            refine lv_iload_n hx hb dL_isLaidOut_50 rfl (lv_at hl 2 rfl) ?_
            refine q_eqN (tgt := 65) hx hb dL_isLaidOut_51 (by decide) (by have := mem_lt (stT (9 * d + g)) 1; omega) (by omega) (fun c_51 => ?_) (fun c_51 => ?_)
            · refine q_stk (show ([] : List Value) = [] from rfl) ?_
              exact jn65 _ (lv_sub hl [1, 2, 3, 4, 0] rfl)
            · refine lv_aload_n hx hb dL_isLaidOut_54 rfl (lv_at hl 1 rfl) ?_
              refine lv_iload hx hb dL_isLaidOut_55 (lv_at hl 0 rfl) ?_
              refine lv_iconst (v := nI 2) hx hb dL_isLaidOut_57 rfl ?_
              refine q_cV (As := [.int (nI (stT (9 * d + g))), .int (nI (2))]) (rest := []) ⟨hx, hb, hml, hown, hts⟩ (k_X6_member D cy a σ kept nxt cnt T len pos ph le nu va Z (stT (9 * d + g)) (2) (stT_lt (by omega)) (by omega)) (cwV 2 hts gL_isLaidOut_X6_member rfl rfl rfl hd_X6_member ⟨Nat.le_of_ble_eq_true rfl, Nat.le_of_ble_eq_true rfl⟩) hK hP 0 rfl rfl rfl hl.1 rfl (Nat.le_of_ble_eq_true rfl) ⟨Nat.zero_le _, Nat.zero_le _⟩ dL_isLaidOut_58 ?_
              refine lv_iload_n hx hb dL_isLaidOut_61 rfl (lv_at hl 2 rfl) ?_
              refine q_neN (tgt := 117) hx hb dL_isLaidOut_62 (by decide) (by have := mem_lt (stT (9 * d + g)) 2; omega) (by omega) (fun c_62 => absurd c_62 (la_mem (by omega) (by omega) c_40 c_51)) (fun c_62 => ?_)
              refine q_stk (show ([] : List Value) = [] from rfl) ?_
              exact jn65 _ (lv_sub hl [1, 2, 3, 4, 0] rfl)
      exact lp12 (9 - 0) 0 (by omega) _ (lv_sub hl [2, 3, 1, 0] rfl)
  exact lp2 (7 - 0) 0 (by omega) _ (lv_sub hl [1, 0] rfl)
