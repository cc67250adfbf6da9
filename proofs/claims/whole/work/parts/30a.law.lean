/-- the law's surroundings, the same at every call -/
def lC (p : Program) (l : Launch) (s : State) (args : Array Value) (m : MethodId) (meth : Method) (c : Code) (D : va_G) (cy cJ : ClassId) (A : Nat → Prop) (bs L : Nat) (xs : Nat → Int32) : Prop :=
  p.tables.exec = Jvm.exec ∧ c.code = cL_law ∧ c.maxLocals = 9 ∧ s.vm.findClass RL = some m.cls ∧ (∀ w ∈ wsL_law, w.before args s = true) ∧ va_X bs L xs s s.heap ∧ bs < s.heap.size ∧ ¬ A bs ∧ va_K D vwCl [(cy, .int)] s ∧ va_K D vwCl [(cJ, .long)] s ∧ (∀ q, s.heap.size ≤ q → A q) ∧ xN A s ∧ xC s ∧ l.stackTraces = false
set_option maxHeartbeats 1000000 in
set_option maxRecDepth 100000 in
theorem la_lost {p : Program} {l : Launch} {e : Env} {s : State} {m : MethodId} {args : Array Value} {below : List Frame} {meth : Method} {c : Code} {H : Heap} {locs : List Loc} {n1 n2 : Nat} {Q : State → Prop} {ls : Array Slot} {D : va_G} {cy cJ : ClassId} {A : Nat → Prop} {a b : Nat → Nat} {o bs L i : Nat} {xs : Nat → Int32} (C : lC p l s args m meth c D cy cJ A bs L xs) (hw : lawS D cy cJ A a b o s H locs) (hl : lv_has ls 9 [(0, .ref bs), (1, .ref (a 0)), (2, .ref (b 0)), (3, .ref o), (4, .int (nI i))]) (hi : i + 4 ≤ L) (hL : L ≤ 2048) (hn1 : n1 + 1 ≤ 601024) (hn2 : n2 + 6 ≤ 7293034)
    (k : ∀ (H : Heap) (locs : List Loc) (ls : Array Slot), lawS D cy cJ A a b o s H locs → lv_has ls 9 [(0, .ref bs), (1, .ref (a 0)), (2, .ref (b 0)), (3, .ref o), (4, .int (nI i))] → W p l e room_1 s m args below meth c H locs (n1 + 1) (n2 + 6) Q (F0 m 1528 ls [])) : W p l e room_1 s m args below meth c H locs n1 n2 Q (F0 m 989 ls []) := by
  obtain ⟨hx, hb, hml, hown, hts, hX, hbl, hbA, hK, hJ, hA, hN, hC, hst⟩ := C
  obtain ⟨σ, kept, nxt, cnt, tx, len, pos, pp, lc, on, ov, saved, bef, thr, t9, l9, x9, y9, d9, hs, out, hw, hI, hv, ht, hlen, ob1, ob2⟩ := hw
  have hw : wS D A (wX cy a σ kept nxt cnt (tI tx) len pos (nI pp) (nI lc) (nO on) (nO ov) ++ ((o, .inl (cJ, 1, .inr (.inl out))) :: wM cy b (mS σ) saved cnt bef (tI tx) len thr t9 (nI l9) (nO x9) (nO y9) d9 hs)) s H locs := hw
  refine lv_aload_n hx hb dL_law_989 rfl (lv_at hl 1 rfl) ?_
  refine q_cV (As := []) (rest := []) ⟨hx, hb, hml, hown, hts⟩ (c_X6_lost D cy a σ kept nxt cnt (tI tx) len pos (nI pp) (nI lc) (nO on) (nO ov) ((o, .inl (cJ, 1, .inr (.inl out))) :: wM cy b (mS σ) saved cnt bef (tI tx) len thr t9 (nI l9) (nO x9) (nO y9) d9 hs)) (cwV 0 hts gL_law_X6_lost rfl rfl rfl hd_X6_lost ⟨Nat.le_of_ble_eq_true rfl, Nat.le_of_ble_eq_true rfl⟩) hK hw.1 0 rfl rfl rfl hl.1 rfl (Nat.le_of_ble_eq_true rfl) ⟨show n1 + 0 ≤ 601024 by omega, show n2 + 0 ≤ 7293034 by omega⟩ dL_law_990 ?_
  refine lv_aload_n hx hb dL_law_993 rfl (lv_at hl 2 rfl) ?_
  have hw := pmA hw
  refine q_wV0 (As := []) (rest := [.int (nI (cl σ))]) (st1 := [.int (nI (cl σ)), .int (nI (cl σ))]) ⟨hx, hb, hml, hown, hts⟩ (c_X7_lost D cy A b σ saved cnt bef (tI tx) len thr t9 (nI l9) (nO x9) (nO y9) d9 hs (wX cy a σ kept nxt cnt (tI tx) len pos (nI pp) (nI lc) (nO on) (nO ov) ++ [(o, .inl (cJ, 1, .inr (.inl out)))]) hv) (cwV 0 hts gL_law_X7_lost rfl rfl rfl hd_X7_lost ⟨Nat.le_of_ble_eq_true rfl, Nat.le_of_ble_eq_true rfl⟩) hK hA hw 0 rfl rfl rfl hl.1 rfl rfl (Nat.le_of_ble_eq_true rfl) ⟨show n1 + 0 ≤ 601024 by omega, show n2 + 0 ≤ 7293034 by omega⟩ dL_law_994 (fun H locs hw => ?_)
  have hw := pmB hw
  refine lv_icmp_eq (tgt := 1528) hx hb dL_law_997 (by decide) (fun _ => ?_) (fun h => absurd rfl h)
  refine W.widen (k := n1 + 1) (n := n2 + 6) (by omega) (by omega) ?_
  exact k _ _ _ ⟨σ, kept, nxt, cnt, tx, len, pos, pp, lc, on, ov, saved, bef, 0, t9, l9, x9, y9, d9, hs, out, hw, hI, hv, ht, hlen, ob1, ob2⟩ (lv_sub hl [0, 1, 2, 3, 4] rfl)
