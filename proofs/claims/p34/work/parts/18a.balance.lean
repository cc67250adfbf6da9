/-- least by greatest -/
def bal (σ : Nat → Int32) : UInt64 := if mxR σ 6 = 0 then FP.dconst1 else FP.ddiv (FP.i2d (mnR σ 6)) (FP.i2d (mxR σ 6))
theorem n64_div {x y : Int32} (h : ¬ y = 0) : vf_n64 (FP.ddiv (FP.i2d x) (FP.i2d y)) := by
  have h0 : FP.Core.dIsNaN (FP.Core.i2d x) = false := (FP.Core.notNaN_iff _).mpr (FP.Core.i2d_fin x).ne_nan
  have h1 : FP.Core.dIsNaN (FP.Core.ddiv (FP.Core.i2d x) (FP.Core.i2d y)) = false := FP.Core.ddiv_out h0 (FP.Core.i2d_fin y) (fun z => FP.Core.i2d_ne_zero h ((FP.Core.zero_bits2 _).mp z))
  have h2 := (FP.Core.ne_nan _).mp ((FP.Core.notNaN_iff _).mp h1)
  show FP.Core.ddiv (FP.Core.i2d x) (FP.Core.i2d y) &&& 0x7fffffffffffffff ≤ 0x7ff0000000000000
  rw [UInt64.le_iff_toNat_le, UInt64.toNat_and, show (0x7fffffffffffffff : UInt64).toNat = 2 ^ 63 - 1 from rfl, Nat.and_two_pow_sub_one_eq_mod]
  exact h2
section QD
variable {p : Program} {l : Launch} {e : Env} {R : Room} {s : State} {m : MethodId} {args : Array Value} {below : List Frame} {meth : Method} {c : Code} {H : Heap} {locs : List Loc} {cells slots : Nat} {Q : State → Prop} {cc : ByteArray} {pc : Nat} {ls : Array Slot} {rest : List Value}
theorem q_dret {v r : UInt64} (hx : p.tables.exec = Jvm.exec) (hb : c.code = cc) (hr : meth.sig.returnType = some .double) (hlocks : meth.locks = false) (hdg : decode cc pc = .ok (.dreturn, 1)) (hv : v = r) : W p l e R s m args below meth c s.heap [] cells slots (MQ below (k2_QcV (.double r)) args s cells slots (fun _ => False)) (F0 m pc ls [.double v]) := by
  subst hv
  exact W.dret hx hb hr (fun t ht _ => ⟨rfl, ht⟩) (fun q h => absurd h List.not_mem_nil) hdg hlocks
end QD
set_option maxHeartbeats 1000000 in
set_option maxRecDepth 100000 in
theorem c_X6_balance {l : Launch} (D : va_G) (cy : ClassId) (a : Nat → Nat) (σ kept : Nat → Int32) (nxt cnt : Nat) (T : Nat → Int32) (len pos : Nat) (ph le nu va : Int32) (Z : va_W) : Met l yX6_balance wsX6_balance (k2_rm 2 42) (gR D cy [.ref (a 0)] (wX cy a σ kept nxt cnt T len pos ph le nu va ++ Z)) (k2_QcV (.double (bal σ))) 0 0 (fun _ => False) := by
  refine q_pure (cc := cX6_balance) (maxL := 4) (ret := (some .double)) pl_X6 rfl (Nat.le_of_ble_eq_true rfl) ?_
  intro p e s m below meth c ls hx hb hr hml hts hown hlocks hP hK hl
  have hl : lv_has ls 4 [(0, .ref (a 0))] := hl
  refine lv_aload_n hx hb dX6_balance_0 rfl (lv_at hl 0 rfl) ?_
  refine va_get (D := D) (ci := 6) (v := .ref (a 8)) (C := RX6) (T := TX6) (N := 4) hx hb hts (fun _ h => List.mem_cons_of_mem _ (List.mem_append_left _ (List.mem_append_left _ (List.mem_append_right _ h)))) hown hK hP 0 rfl rfl 1 (by decide) (hts (.fieldLink RX6 19 "SpreadParity" "now" "LSpreadParity$State;") (List.mem_of_getElem? (i := 1) rfl)) (fun _ h9 => h9) rfl dX6_balance_1 ?_
  refine lv_iconst (v := nI 0) hx hb dX6_balance_4 rfl ?_
  refine q_cV (As := [.int (nI (0))]) (rest := []) ⟨hx, hb, hml, hown, hts⟩ (c_X5_readCount D cy a σ kept nxt cnt T len pos ph le nu va Z (0) (by omega)) (cwV 1 hts gX6_balance_X5_readCount rfl rfl rfl hd_X5_readCount ⟨Nat.le_of_ble_eq_true rfl, Nat.le_of_ble_eq_true rfl⟩) hK hP 8 rfl rfl rfl hl.1 rfl (Nat.le_of_ble_eq_true rfl) ⟨Nat.zero_le _, Nat.zero_le _⟩ dX6_balance_5 ?_
  refine lv_istore_n (lv' := [(1, .int (σ (70 + 0))), (0, .ref (a 0))]) hx hb dX6_balance_8 rfl hl (by decide) rfl (fun ls hl => ?_)
  refine lv_iload_n hx hb dX6_balance_9 rfl (lv_at hl 0 rfl) ?_
  refine lv_istore_n (lv' := [(2, .int (σ (70 + 0))), (1, .int (σ (70 + 0))), (0, .ref (a 0))]) hx hb dX6_balance_10 rfl hl (by decide) rfl (fun ls hl => ?_)
  refine lv_iconst (v := nI 1) hx hb dX6_balance_11 rfl ?_
  refine lv_istore_n (lv' := [(3, .int (nI (1))), (2, .int (σ (70 + 0))), (1, .int (σ (70 + 0))), (0, .ref (a 0))]) hx hb dX6_balance_12 rfl hl (by decide) rfl (fun ls hl => ?_)
  have lp13 : ∀ (j_ k : Nat), k + j_ = 6 → ∀ (ls : Array Slot), lv_has ls 4 [(0, .ref (a 0)), (1, .int (mnR σ k)), (2, .int (mxR σ k)), (3, .int (nI (k + 1)))] → W p l e (k2_rm 2 42) s m ([.ref (a 0)] : List Value).toArray below meth c s.heap [] 0 0 (MQ below (k2_QcV (.double (bal σ))) ([.ref (a 0)] : List Value).toArray s 0 0 (fun _ => False)) (F0 m 13 ls []) := by
    intro j_
    induction j_ with
    | zero =>
      intro k hn_k ls hl
      refine lv_iload_n hx hb dX6_balance_13 rfl (lv_at hl 3 rfl) ?_
      refine lv_bipush (v := nI 7) hx hb dX6_balance_14 rfl ?_
      refine q_geN (tgt := 51) hx hb dX6_balance_16 (by decide) (by omega) (by omega) (fun c_16 => ?_) (fun c_16 => absurd c_16 (by omega))
      refine lv_iload_n hx hb dX6_balance_51 rfl (lv_at hl 2 rfl) ?_
      refine lv_if_ne (tgt := 59) hx hb dX6_balance_52 (by decide) (fun (c_52 : ¬ (mxR σ k) = 0) => ?_) (fun (c_52 : (mxR σ k) = 0) => ?_)
      · refine lv_iload_n hx hb dX6_balance_59 rfl (lv_at hl 1 rfl) ?_
        refine lv_i2d hx hb dX6_balance_60 ?_
        refine lv_iload_n hx hb dX6_balance_61 rfl (lv_at hl 2 rfl) ?_
        refine lv_i2d hx hb dX6_balance_62 ?_
        refine lv_ddiv hx hb dX6_balance_63 (n64_div c_52) ?_
        exact q_dret hx hb hr hlocks dX6_balance_64 (by have e9 : k = 6 := (by omega); subst e9; rw [bal, if_neg c_52])
      · refine lv_dconst1 hx hb dX6_balance_55 ?_
        refine lv_goto (tgt := 64) hx hb dX6_balance_56 (by decide) ?_
        exact q_dret hx hb hr hlocks dX6_balance_64 (by have e9 : k = 6 := (by omega); subst e9; rw [bal, if_pos c_52])
    | succ j_ ih_k =>
      intro k hn_k ls hl
      refine lv_iload_n hx hb dX6_balance_13 rfl (lv_at hl 3 rfl) ?_
      refine lv_bipush (v := nI 7) hx hb dX6_balance_14 rfl ?_
      refine q_geN (tgt := 51) hx hb dX6_balance_16 (by decide) (by omega) (by omega) (fun c_16 => absurd c_16 (by omega)) (fun c_16 => ?_)
      refine lv_iload_n hx hb dX6_balance_19 rfl (lv_at hl 1 rfl) ?_
      refine lv_aload_n hx hb dX6_balance_20 rfl (lv_at hl 0 rfl) ?_
      refine va_get (D := D) (ci := 6) (v := .ref (a 8)) (C := RX6) (T := TX6) (N := 4) hx hb hts (fun _ h => List.mem_cons_of_mem _ (List.mem_append_left _ (List.mem_append_left _ (List.mem_append_right _ h)))) hown hK hP 0 rfl rfl 1 (by decide) (hts (.fieldLink RX6 19 "SpreadParity" "now" "LSpreadParity$State;") (List.mem_of_getElem? (i := 1) rfl)) (fun _ h9 => h9) rfl dX6_balance_21 ?_
      refine lv_iload_n hx hb dX6_balance_24 rfl (lv_at hl 3 rfl) ?_
      refine q_cV (As := [.int (nI (k + 1))]) (rest := [.int (mnR σ k)]) ⟨hx, hb, hml, hown, hts⟩ (c_X5_readCount D cy a σ kept nxt cnt T len pos ph le nu va Z (k + 1) (by omega)) (cwV 1 hts gX6_balance_X5_readCount rfl rfl rfl hd_X5_readCount ⟨Nat.le_of_ble_eq_true rfl, Nat.le_of_ble_eq_true rfl⟩) hK hP 8 rfl rfl rfl hl.1 rfl (Nat.le_of_ble_eq_true rfl) ⟨Nat.zero_le _, Nat.zero_le _⟩ dX6_balance_25 ?_
      refine va_mmin hx hb (hml.trans hl.1.symm) hown (hts (.methodLink RX6 196 Lib.Math.min.name) (List.mem_of_getElem? (i := 2) rfl)) (hts (.static Lib.Math.min.name) (List.mem_of_getElem? (i := 3) rfl)) (hts (.initialized "java/lang/Math") (List.mem_of_getElem? (i := 4) rfl)) (hts (.code Lib.Math.min.name Lib.Math.min.code 2 (some .int)) (List.mem_of_getElem? (i := 5) rfl)) (Nat.le_of_ble_eq_true rfl) (Nat.le_of_ble_eq_true rfl) (Nat.zero_le _) (Nat.zero_le _) dX6_balance_28 ?_
      refine q_top (show (if σ (70 + (k + 1)) < mnR σ k then σ (70 + (k + 1)) else mnR σ k) = mnR σ (k + 1) from rfl) ?_
      refine lv_istore_n (lv' := [(1, .int (mnR σ (k + 1))), (0, .ref (a 0)), (2, .int (mxR σ k)), (3, .int (nI (k + 1)))]) hx hb dX6_balance_31 rfl hl (by decide) rfl (fun ls hl => ?_)
      refine lv_iload_n hx hb dX6_balance_32 rfl (lv_at hl 2 rfl) ?_
      refine lv_aload_n hx hb dX6_balance_33 rfl (lv_at hl 1 rfl) ?_
      refine va_get (D := D) (ci := 6) (v := .ref (a 8)) (C := RX6) (T := TX6) (N := 4) hx hb hts (fun _ h => List.mem_cons_of_mem _ (List.mem_append_left _ (List.mem_append_left _ (List.mem_append_right _ h)))) hown hK hP 0 rfl rfl 1 (by decide) (hts (.fieldLink RX6 19 "SpreadParity" "now" "LSpreadParity$State;") (List.mem_of_getElem? (i := 1) rfl)) (fun _ h9 => h9) rfl dX6_balance_34 ?_
      refine lv_iload_n hx hb dX6_balance_37 rfl (lv_at hl 3 rfl) ?_
      refine q_cV (As := [.int (nI (k + 1))]) (rest := [.int (mxR σ k)]) ⟨hx, hb, hml, hown, hts⟩ (c_X5_readCount D cy a σ kept nxt cnt T len pos ph le nu va Z (k + 1) (by omega)) (cwV 1 hts gX6_balance_X5_readCount rfl rfl rfl hd_X5_readCount ⟨Nat.le_of_ble_eq_true rfl, Nat.le_of_ble_eq_true rfl⟩) hK hP 8 rfl rfl rfl hl.1 rfl (Nat.le_of_ble_eq_true rfl) ⟨Nat.zero_le _, Nat.zero_le _⟩ dX6_balance_38 ?_
      refine va_mmax hx hb (hml.trans hl.1.symm) hown (hts (.methodLink RX6 201 Lib.Math.max.name) (List.mem_of_getElem? (i := 6) rfl)) (hts (.static Lib.Math.max.name) (List.mem_of_getElem? (i := 7) rfl)) (hts (.initialized "java/lang/Math") (List.mem_of_getElem? (i := 4) rfl)) (hts (.code Lib.Math.max.name Lib.Math.max.code 2 (some .int)) (List.mem_of_getElem? (i := 8) rfl)) (Nat.le_of_ble_eq_true rfl) (Nat.le_of_ble_eq_true rfl) (Nat.zero_le _) (Nat.zero_le _) dX6_balance_41 ?_
      refine q_top (show (if mxR σ k < σ (70 + (k + 1)) then σ (70 + (k + 1)) else mxR σ k) = mxR σ (k + 1) from rfl) ?_
      refine lv_istore_n (lv' := [(2, .int (mxR σ (k + 1))), (1, .int (mnR σ (k + 1))), (0, .ref (a 0)), (3, .int (nI (k + 1)))]) hx hb dX6_balance_44 rfl hl (by decide) rfl (fun ls hl => ?_)
      refine lv_iinc (v := nI (k + 1 + 1)) (lv' := [(3, .int (nI (k + 1 + 1))), (2, .int (mxR σ (k + 1))), (1, .int (mnR σ (k + 1))), (0, .ref (a 0))]) hx hb dX6_balance_45 hl (k := 3) rfl (show nI (k + 1) + nI 1 = nI (k + 1 + 1) from nI_add _ _) (by decide) rfl (fun ls hl => ?_)
      refine lv_goto (tgt := 13) hx hb dX6_balance_48 (by decide) ?_
      exact ih_k (k + 1) (by omega) _ (lv_sub hl [3, 2, 1, 0] rfl)
  exact lp13 (6 - 0) 0 (by omega) _ (lv_sub hl [3, 2, 1, 0] rfl)
