/-! The words that the law starts with. -/
theorem lw_in1 {w : Cond} (i : Nat) (h : tables_1[i]? = some w) : w ∈ lw_tbl := List.mem_append_right _ (List.mem_of_getElem? h)
theorem xWd_in : ∀ x ∈ xWd, x ∈ lw_tbl := List.forall_mem_cons.mpr ⟨lw_in1 235 (by decide +kernel), List.forall_mem_cons.mpr ⟨lw_in1 472 (by decide +kernel), List.forall_mem_cons.mpr ⟨lw_in1 452 (by decide +kernel), List.forall_mem_cons.mpr ⟨lw_in1 237 (by decide +kernel), List.forall_mem_cons.mpr ⟨lw_in1 239 (by decide +kernel), List.forall_mem_cons.mpr ⟨lw_in1 241 (by decide +kernel), fun _ h => absurd h List.not_mem_nil⟩⟩⟩⟩⟩⟩
theorem xNest_in : ∀ x ∈ xNest, x ∈ lw_tbl := List.forall_mem_cons.mpr ⟨lw_in1 116 (by decide +kernel), List.forall_mem_cons.mpr ⟨lw_in1 90 (by decide +kernel), List.forall_mem_cons.mpr ⟨lw_in1 108 (by decide +kernel), fun _ h => absurd h List.not_mem_nil⟩⟩⟩
def xStrW : List Cond := xStr.map (fun q => Cond.stringRef RX6 q.1 q.2)
theorem xStr_in : ∀ x ∈ xStrW, x ∈ lw_tbl := List.forall_mem_cons.mpr ⟨lw_in1 373 (by decide +kernel), List.forall_mem_cons.mpr ⟨lw_in1 523 (by decide +kernel), List.forall_mem_cons.mpr ⟨lw_in1 459 (by decide +kernel), List.forall_mem_cons.mpr ⟨lw_in1 479 (by decide +kernel), List.forall_mem_cons.mpr ⟨lw_in1 330 (by decide +kernel), List.forall_mem_cons.mpr ⟨lw_in1 542 (by decide +kernel), List.forall_mem_cons.mpr ⟨lw_in1 566 (by decide +kernel), List.forall_mem_cons.mpr ⟨lw_in1 576 (by decide +kernel), List.forall_mem_cons.mpr ⟨lw_in1 601 (by decide +kernel), List.forall_mem_cons.mpr ⟨lw_in1 274 (by decide +kernel), List.forall_mem_cons.mpr ⟨lw_in1 613 (by decide +kernel), List.forall_mem_cons.mpr ⟨lw_in1 316 (by decide +kernel), List.forall_mem_cons.mpr ⟨lw_in1 322 (by decide +kernel), fun _ h => absurd h List.not_mem_nil⟩⟩⟩⟩⟩⟩⟩⟩⟩⟩⟩⟩⟩
/-- the numbers and places of the classes -/
def lawU (s : State) : Prop := ∃ (dC : Nat → ClassId) (dI : Nat → Nat → Nat), ∀ (k : Nat) (q : vw_C), vwCl[k]? = some q → u_Kn s q.1 q.2.1 q.2.2 (dC k) (dI k)
theorem law_U {args : Array Value} {s : State} (h : ∀ w ∈ lw_tbl, w.before args s = true) : lawU s := by
  obtain ⟨c0, i0, k0⟩ := u_known (C := RX0) (T := TX0) (N := 3) (n := 3) h inX0 (h (.instantiable RX0 3) (lw_in1 89 (by decide +kernel)))
  obtain ⟨c1, i1, k1⟩ := u_known (C := RX1) (T := TX1) (N := 3) (n := 3) h inX1 (h (.instantiable RX1 3) (lw_in1 24 (by decide +kernel)))
  obtain ⟨c2, i2, k2⟩ := u_known (C := RX2) (T := TX2) (N := 4) (n := 4) h inX2 (h (.instantiable RX2 4) (lw_in1 115 (by decide +kernel)))
  obtain ⟨c3, i3, k3⟩ := u_known (C := RX3) (T := TX3) (N := 4) (n := 4) h inX3 (h (.instantiable RX3 4) (lw_in1 107 (by decide +kernel)))
  obtain ⟨c4, i4, k4⟩ := u_known (C := RX4) (T := TX4) (N := 1) (n := 1) h inX4 (h (.instantiable RX4 1) (lw_in1 30 (by decide +kernel)))
  obtain ⟨c5, i5, k5⟩ := u_known (C := RX5) (T := TX5) (N := 1) (n := 1) h inX5 (h (.instantiable RX5 1) (lw_in1 76 (by decide +kernel)))
  obtain ⟨c6, i6, k6⟩ := u_known (C := RX6) (T := TX6) (N := 4) (n := 4) h inX6 (h (.instantiable RX6 4) (lw_in1 16 (by decide +kernel)))
  refine ⟨fun k => if k = 0 then c0 else if k = 1 then c1 else if k = 2 then c2 else if k = 3 then c3 else if k = 4 then c4 else if k = 5 then c5 else c6, fun k => if k = 0 then i0 else if k = 1 then i1 else if k = 2 then i2 else if k = 3 then i3 else if k = 4 then i4 else if k = 5 then i5 else i6, ?_⟩
  intro k q hq
  match k, hq with
  | 0, hq => cases hq; exact k0
  | 1, hq => cases hq; exact k1
  | 2, hq => cases hq; exact k2
  | 3, hq => cases hq; exact k3
  | 4, hq => cases hq; exact k4
  | 5, hq => cases hq; exact k5
  | 6, hq => cases hq; exact k6
  | k + 7, hq => simp at hq
theorem law_K {args : Array Value} {s : State} (h : ∀ w ∈ lw_tbl, w.before args s = true) : ∃ (D : va_G) (cy : ClassId), va_K D vwCl [(cy, .int)] s := by
  obtain ⟨dC, dI, hk⟩ := law_U h
  obtain ⟨cA, kA, comp, h1, h2, h3⟩ := Cond.arrayClass_spec (type := .int) (h (.arrayClass .int) (lw_in1 42 (by decide +kernel)))
  refine ⟨(dC, dI), cA, hk, fun k q hq => ?_⟩
  match k, hq with
  | 0, hq => cases hq; exact ⟨fun n z => ⟨fun k h => (by cases h), kA, h2, comp, h3⟩, h1⟩
  | k + 1, hq => simp at hq
theorem law_xNest {args : Array Value} {s : State} (h : ∀ w ∈ lw_tbl, w.before args s = true) : ∀ x ∈ xNest, va_Nw x s := fun x hx => va_Nw.of (xNest_on x hx) (h x (xNest_in x hx))
theorem law_xN {args : Array Value} {s : State} {A : Nat → Prop} {cur : ClassId} (h : ∀ w ∈ lw_tbl, w.before args s = true) (hg : (Jvm.Cond.and given_1 narrow_1).before args s = true) (hA : ∀ a : Nat, a < s.heap.size → ¬ A a) (hc : s.vm.findClass RX6 = some cur) : xN A s := by
  have hs := flat_of_before _ hg
  refine ⟨vx_Zqof (h _ (lw_in1 260 (by decide +kernel))) (h _ (lw_in1 9 (by decide +kernel))) (hs _ (by decide +kernel)) hA, vx_Zqof (h _ (lw_in1 262 (by decide +kernel))) (h _ (lw_in1 9 (by decide +kernel))) (hs _ (by decide +kernel)) hA, fun x hx => va_Nw.of (xWd_on x hx) (h x (xWd_in x hx)), fun q hq => ?_⟩
  have hw := h (Cond.stringRef RX6 q.1 q.2) (xStr_in _ (List.mem_map.mpr ⟨q, hq, rfl⟩))
  obtain ⟨k, cf, i, a, h1, h2, h3, h4, h5, h6⟩ := Cond.stringRef_spec hc hw
  exact ⟨a, vk_R.of hw h6⟩
theorem law_xC {args : Array Value} {s : State} (hg : (Jvm.Cond.and given_1 narrow_1).before args s = true) : xC s := by
  have hs := flat_of_before _ hg
  exact ⟨va_Nc.of (hs (Cond.not (.castable eS eI)) (by decide +kernel)), va_Nc.of (hs (Cond.not (.castable eA eI)) (by decide +kernel)), va_Nc.of (hs (Cond.not (.castable eS eA)) (by decide +kernel))⟩
