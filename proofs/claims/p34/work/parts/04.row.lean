set_option maxHeartbeats 4000000 in
set_option maxRecDepth 100000 in
theorem c_X4_at {l : Launch} (D : va_G) (cy : ClassId) (w : va_W) (k0 k1 h r n : Nat) (f : Nat → Int32) (h0 : w[k0]? = some (h, .inr (4, [.ref r]))) (h1 : w[k1]? = some (r, .inl (cy, n, .inl f))) (i : Nat) (h_0 : i < n) (h_1 : n < 2 ^ 31) : Met l yX4_at wsX4_at (k2_rm 0 0) (gR D cy [.ref (h), .int (nI (i))] w) (k2_QcV (.int (f i))) 0 0 (fun _ => False) := by
  refine q_pure (cc := cX4_at) (maxL := 2) (ret := (some .int)) pl_X4 rfl (Nat.le_of_ble_eq_true rfl) ?_
  intro p e s m below meth c ls hx hb hr hml hts hown hlocks hP hK hl
  have hl : lv_has ls 2 [(0, .ref (h)), (1, .int (nI (i)))] := hl
  refine lv_iload_n hx hb dX4_at_0 rfl (lv_at hl 1 rfl) ?_
  refine q_iflt_N (tgt := 22) hx hb dX4_at_1 (by decide) (by omega) ?_
  refine lv_iload_n hx hb dX4_at_4 rfl (lv_at hl 1 rfl) ?_
  refine lv_aload_n hx hb dX4_at_5 rfl (lv_at hl 0 rfl) ?_
  refine va_get (D := D) (ci := 4) (v := .ref (r)) (C := RX4) (T := TX4) (N := 1) hx hb hts (fun _ h => List.mem_cons_of_mem _ (List.mem_append_right _ h)) hown hK hP k0 h0 rfl 0 (by decide) (hts (.fieldLink RX4 13 "SpreadParity$Row" "cells" "[I") (List.mem_of_getElem? (i := 1) rfl)) (fun _ h9 => h9) rfl dX4_at_6 ?_
  refine va_alen (D := D) hx hb hK hP k1 0 h1 rfl (v := nI n) rfl dX4_at_9 ?_
  refine q_geN (tgt := 22) hx hb dX4_at_10 (by decide) (by omega) (by omega) (fun c_10 => absurd c_10 (by omega)) (fun c_10 => ?_)
  refine lv_aload_n hx hb dX4_at_13 rfl (lv_at hl 0 rfl) ?_
  refine va_get (D := D) (ci := 4) (v := .ref (r)) (C := RX4) (T := TX4) (N := 1) hx hb hts (fun _ h => List.mem_cons_of_mem _ (List.mem_append_right _ h)) hown hK hP k0 h0 rfl 0 (by decide) (hts (.fieldLink RX4 13 "SpreadParity$Row" "cells" "[I") (List.mem_of_getElem? (i := 1) rfl)) (fun _ h9 => h9) rfl dX4_at_14 ?_
  refine lv_iload_n hx hb dX4_at_17 rfl (lv_at hl 1 rfl) ?_
  refine q_iald hx hb hK hP k1 h1 (by omega) (by omega) dX4_at_18 ?_
  refine lv_goto (tgt := 23) hx hb dX4_at_19 (by decide) ?_
  exact q_iret hx hb hr hlocks dX4_at_23 (rfl)
set_option maxHeartbeats 4000000 in
set_option maxRecDepth 100000 in
theorem c_X4_put {l : Launch} (D : va_G) (cy : ClassId) (A : Nat → Prop) (w : va_W) (k0 k1 h r n : Nat) (f : Nat → Int32) (h0 : w[k0]? = some (h, .inr (4, [.ref r]))) (h1 : w[k1]? = some (r, .inl (cy, n, .inl f))) (i : Nat) (x : Int32) (h_0 : i < n) (h_1 : n < 2 ^ 31) : Met l yX4_put wsX4_put (k2_rm 0 0) (gP D cy [.ref (h), .int (nI (i)), .int (x)] A w) (gQ D A (none) (w.set k1 (r, .inl (cy, n, .inl (upd f i x))))) 0 0 A := by
  refine q_imp (cc := cX4_put) (maxL := 3) (ret := none) pl_X4 rfl (Nat.le_of_ble_eq_true rfl) ?_
  intro p e s m below meth c ls hx hb hr hml hts hown hlocks hw hK hA hl
  have hP := hw.1
  have hl : lv_has ls 3 [(0, .ref (h)), (1, .int (nI (i))), (2, .int (x))] := hl
  refine lv_iload_n hx hb dX4_put_0 rfl (lv_at hl 1 rfl) ?_
  refine q_iflt_N (tgt := 20) hx hb dX4_put_1 (by decide) (by omega) ?_
  refine lv_iload_n hx hb dX4_put_4 rfl (lv_at hl 1 rfl) ?_
  refine lv_aload_n hx hb dX4_put_5 rfl (lv_at hl 0 rfl) ?_
  refine va_get (D := D) (ci := 4) (v := .ref (r)) (C := RX4) (T := TX4) (N := 1) hx hb hts (fun _ h => List.mem_cons_of_mem _ (List.mem_append_right _ h)) hown hK hP k0 h0 rfl 0 (by decide) (hts (.fieldLink RX4 13 "SpreadParity$Row" "cells" "[I") (List.mem_of_getElem? (i := 1) rfl)) (fun _ h9 => h9) rfl dX4_put_6 ?_
  refine va_alen (D := D) hx hb hK hP k1 0 h1 rfl (v := nI n) rfl dX4_put_9 ?_
  refine q_geN (tgt := 20) hx hb dX4_put_10 (by decide) (by omega) (by omega) (fun c_10 => absurd c_10 (by omega)) (fun c_10 => ?_)
  refine lv_aload_n hx hb dX4_put_13 rfl (lv_at hl 0 rfl) ?_
  refine va_get (D := D) (ci := 4) (v := .ref (r)) (C := RX4) (T := TX4) (N := 1) hx hb hts (fun _ h => List.mem_cons_of_mem _ (List.mem_append_right _ h)) hown hK hP k0 h0 rfl 0 (by decide) (hts (.fieldLink RX4 13 "SpreadParity$Row" "cells" "[I") (List.mem_of_getElem? (i := 1) rfl)) (fun _ h9 => h9) rfl dX4_put_14 ?_
  refine lv_iload_n hx hb dX4_put_17 rfl (lv_at hl 1 rfl) ?_
  refine lv_iload_n hx hb dX4_put_18 rfl (lv_at hl 2 rfl) ?_
  refine q_iast hx hb hK hw k1 h1 (by omega) (by omega) dX4_put_19 (fun H locs hw => ?_)
  have hw : wS D A (w.set k1 (r, .inl (cy, n, .inl (upd f (i) (x))))) s H locs := hw
  have hP := hw.1
  exact q_vretW hx hb hr hlocks hw dX4_put_20
set_option maxHeartbeats 4000000 in
set_option maxRecDepth 100000 in
theorem c_X4_increase {l : Launch} (D : va_G) (cy : ClassId) (A : Nat → Prop) (w : va_W) (k0 k1 h r n : Nat) (f : Nat → Int32) (h0 : w[k0]? = some (h, .inr (4, [.ref r]))) (h1 : w[k1]? = some (r, .inl (cy, n, .inl f))) (i : Nat) (h_0 : i < n) (h_1 : n < 2 ^ 31) : Met l yX4_increase wsX4_increase (k2_rm 0 0) (gP D cy [.ref (h), .int (nI (i))] A w) (gQ D A (none) (w.set k1 (r, .inl (cy, n, .inl (upd f i (f i + 1)))))) 0 0 A := by
  refine q_imp (cc := cX4_increase) (maxL := 2) (ret := none) pl_X4 rfl (Nat.le_of_ble_eq_true rfl) ?_
  intro p e s m below meth c ls hx hb hr hml hts hown hlocks hw hK hA hl
  have hP := hw.1
  have hl : lv_has ls 2 [(0, .ref (h)), (1, .int (nI (i)))] := hl
  refine lv_iload_n hx hb dX4_increase_0 rfl (lv_at hl 1 rfl) ?_
  refine q_iflt_N (tgt := 23) hx hb dX4_increase_1 (by decide) (by omega) ?_
  refine lv_iload_n hx hb dX4_increase_4 rfl (lv_at hl 1 rfl) ?_
  refine lv_aload_n hx hb dX4_increase_5 rfl (lv_at hl 0 rfl) ?_
  refine va_get (D := D) (ci := 4) (v := .ref (r)) (C := RX4) (T := TX4) (N := 1) hx hb hts (fun _ h => List.mem_cons_of_mem _ (List.mem_append_right _ h)) hown hK hP k0 h0 rfl 0 (by decide) (hts (.fieldLink RX4 13 "SpreadParity$Row" "cells" "[I") (List.mem_of_getElem? (i := 1) rfl)) (fun _ h9 => h9) rfl dX4_increase_6 ?_
  refine va_alen (D := D) hx hb hK hP k1 0 h1 rfl (v := nI n) rfl dX4_increase_9 ?_
  refine q_geN (tgt := 23) hx hb dX4_increase_10 (by decide) (by omega) (by omega) (fun c_10 => absurd c_10 (by omega)) (fun c_10 => ?_)
  refine lv_aload_n hx hb dX4_increase_13 rfl (lv_at hl 0 rfl) ?_
  refine va_get (D := D) (ci := 4) (v := .ref (r)) (C := RX4) (T := TX4) (N := 1) hx hb hts (fun _ h => List.mem_cons_of_mem _ (List.mem_append_right _ h)) hown hK hP k0 h0 rfl 0 (by decide) (hts (.fieldLink RX4 13 "SpreadParity$Row" "cells" "[I") (List.mem_of_getElem? (i := 1) rfl)) (fun _ h9 => h9) rfl dX4_increase_14 ?_
  refine lv_iload_n hx hb dX4_increase_17 rfl (lv_at hl 1 rfl) ?_
  refine lv_dup2_11 hx hb dX4_increase_18 rfl rfl ?_
  refine q_iald hx hb hK hP k1 h1 (by omega) (by omega) dX4_increase_19 ?_
  refine lv_iconst (v := nI 1) hx hb dX4_increase_20 rfl ?_
  refine lv_iadd hx hb dX4_increase_21 ?_
  refine q_iast hx hb hK hw k1 h1 (by omega) (by omega) dX4_increase_22 (fun H locs hw => ?_)
  have hw : wS D A (w.set k1 (r, .inl (cy, n, .inl (upd f (i) ((f (i)) + 1))))) s H locs := hw
  have hP := hw.1
  exact q_vretW hx hb hr hlocks hw dX4_increase_23

