theorem va_D_nd {A : Nat → Prop} {ws : va_W} : va_D A ws ↔ (ws.map Prod.fst).Nodup ∧ ∀ q ∈ ws, A q.1 := by
  constructor
  · intro h
    refine ⟨?_, fun q hq => ?_⟩
    · rw [List.Nodup, List.pairwise_iff_getElem]
      intro i j hi hj hij e
      rw [List.length_map] at hi hj
      rw [List.getElem_map, List.getElem_map] at e
      have := h.1 i j ws[i] ws[j] (List.getElem?_eq_getElem hi) (List.getElem?_eq_getElem hj) e
      omega
    · obtain ⟨k, hk, e⟩ := List.getElem_of_mem hq
      exact h.2 k q (by rw [List.getElem?_eq_getElem hk, e])
  · intro ⟨h1, h2⟩
    refine ⟨fun i j p q hi hj e => ?_, fun k q hk => h2 q (List.mem_of_getElem? hk)⟩
    obtain ⟨li, ei⟩ := List.getElem?_eq_some_iff.mp hi
    obtain ⟨lj, ej⟩ := List.getElem?_eq_some_iff.mp hj
    rw [List.Nodup, List.pairwise_iff_getElem] at h1
    by_cases c : i < j
    · refine absurd ?_ (h1 i j (by rw [List.length_map]; exact li) (by rw [List.length_map]; exact lj) c)
      rw [List.getElem_map, List.getElem_map, ei, ej, e]
    · by_cases c2 : j < i
      · refine absurd ?_ (h1 j i (by rw [List.length_map]; exact lj) (by rw [List.length_map]; exact li) c2)
        rw [List.getElem_map, List.getElem_map, ei, ej, e]
      · omega
theorem wS_perm {D : va_G} {A : Nat → Prop} {w w' : va_W} {s : State} {H : Heap} {locs : List Loc} (hp : w.Perm w') (h : wS D A w s H locs) : wS D A w' s H locs := by
  obtain ⟨h1, h2, h3⟩ := h
  rw [va_D_nd] at h2
  refine ⟨fun k q hk => ?_, va_D_nd.mpr ⟨(hp.map Prod.fst).nodup_iff.mp h2.1, fun q hq => h2.2 q (hp.mem_iff.mpr hq)⟩, h3⟩
  have hm : q ∈ w := hp.mem_iff.mpr (List.mem_of_getElem? hk)
  obtain ⟨j, hj, e⟩ := List.getElem_of_mem hm
  exact h1 j q (by rw [List.getElem?_eq_getElem hj, e])
theorem wS_new {D : va_G} {A : Nat → Prop} {w : va_W} {x y : Nat × va_E} {s : State} {H : Heap} {locs : List Loc} (h : wS D A (x :: w ++ [y]) s H locs) : wS D A (x :: y :: w) s H locs :=
  wS_perm ((List.perm_append_singleton y w).cons x) h
theorem wS_rot {D : va_G} {A : Nat → Prop} {w : va_W} {y : Nat × va_E} {s : State} {H : Heap} {locs : List Loc} (h : wS D A (w ++ [y]) s H locs) : wS D A (y :: w) s H locs :=
  wS_perm (List.perm_append_singleton y w) h
/-- the cells of the first part in another order, some of them let go -/
theorem wS_part {D : va_G} {A : Nat → Prop} {X cx pl : va_W} {s : State} {H : Heap} {locs : List Loc} (h : wS D A (X ++ pl) s H locs) (is : List Nat) (hn : va_nd is = true) (hs : is.map (fun i => X[i]?) = cx.map some) : wS D A (cx ++ pl) s H locs :=
  ⟨h.1.part is hs, h.2.1.part is hn hs, h.2.2⟩
theorem cA_cy {D : va_G} {cy cA : ClassId} {s : State} {tys : List (ClassId × FieldType)} (h1 : va_K D vwCl [(cy, .int)] s) (h2 : va_K D vwCl (tys ++ [(cA, .int)]) s) : cA = cy := by
  have a1 : s.vm.findClass ("[" ++ FieldType.int.toString) = some cy := (h1.2 0 (cy, .int) rfl).2
  have a2 : s.vm.findClass ("[" ++ FieldType.int.toString) = some cA := (h2.2 tys.length (cA, .int) (by simp)).2
  rw [a1] at a2
  exact (Option.some.inj a2).symm
section QI
theorem q_ini {l : Launch} {D : va_G} {cy : ClassId} {y : MethodName} {ws ws' : List Cond} {rm : Room} {cc : ByteArray} {maxL : Nat} {ret : Option FieldType} {av : List Value} {A : Nat → Prop} {w : va_W} {Qc : Array Value → State → Outcome → State → Prop} {mc ms : Nat} (hy : plainName y.cls = true) (hy2 : y.name = "<init>") (hw : ws = Cond.code y cc maxL ret :: ws') (hlen : (lg_sl av).length ≤ maxL)
    (body : ∀ (p : Program) (e : Env) (s : State) (m : MethodId) (below : List Frame) (meth : Method) (c : Code) (ls : Array Slot), p.tables.exec = Jvm.exec → c.code = cc → meth.sig.returnType = ret → c.maxLocals = maxL → (∀ x ∈ ws, x.before av.toArray s = true) → s.vm.findClass y.cls = some m.cls → meth.locks = false → wS D A w s s.heap [] → va_K D vwCl [(cy, .int)] s → (∀ q, s.heap.size ≤ q → A q) → lv_has ls maxL (lv_args 0 av) → meth.name = "<init>" →
      W p l e rm s m av.toArray below meth c s.heap [] 0 0 (MQ below Qc av.toArray s mc ms A) (F0 m 0 ls [])) : Met l y ws rm (gP D cy av A w) Qc mc ms A := by
  refine Met.ofW (cc := cc) (maxL := maxL) (ret := ret) hy hw ?_
  intro p e s m args below meth c s₁ B hml hv
  obtain ⟨rfl, hP, hK, hD, hA⟩ := hv
  rw [lg_entry_eq]
  exact body p e s m below meth c _ B.exec B.bytes B.returns hml (atoms_spec (ws := ws) B.pre) (findClass_of_methodNamed B.named) B.notSynchronized ⟨hP, hD, va_S.rf⟩ hK hA (lv_entry av hlen) ((name_of_methodNamed B.named B.method).1.trans hy2)
end QI
set_option maxHeartbeats 1000000 in
set_option maxRecDepth 100000 in
theorem c_X4_init {l : Launch} (D : va_G) (cy : ClassId) (A : Nat → Prop) (b n : Nat) (Z : va_W) (h_0 : n ≤ 600) : Met l yX4_init wsX4_init ({ frames := 1, cells := 1, slots := n, locals := 21 } : Room) (gP D cy [.ref b, .int (nI n)] A ((b, .inr (4, [.null])) :: Z)) (gE D A (fun v9 w9 => v9 = none ∧ ∃ q : Nat, w9 = (b, .inr (4, [.ref q])) :: (q, .inl (cy, n, .inl (fun _ => 0))) :: Z)) 1 n A := by
  refine q_ini (cc := cX4_init) (maxL := 2) (ret := none) pl_X4 rfl rfl (Nat.le_of_ble_eq_true rfl) ?_
  intro p e s m below meth c ls hx hb hr hml hts hown hlocks hw hK hA hl hin
  have hl : lv_has ls 2 [(0, .ref b), (1, .int (nI n))] := hl
  refine lv_aload_n hx hb dX4_init_0 rfl (lv_at hl 0 rfl) ?_
  refine W.objInit hx hb hown (hts (.methodLink RX4 1 objectInit) (List.mem_of_getElem? (i := 1) rfl)) (hts (.instanceMethod objectInit) (List.mem_of_getElem? (i := 2) rfl)) (hts (.code objectInit ⟨#[0xb1]⟩ 1 none) (List.mem_of_getElem? (i := 3) rfl)) rfl (by rw [hml]; exact hl.1) rfl dX4_init_1 (Nat.le_of_ble_eq_true rfl) (Nat.le_of_ble_eq_true rfl) ?_
  refine W.eq (g2 := F0 m 4 ls []) rfl ?_
  refine lv_aload_n hx hb dX4_init_4 rfl (lv_at hl 0 rfl) ?_
  refine lv_iload_n hx hb dX4_init_5 rfl (lv_at hl 1 rfl) ?_
  refine lv_iconst (v := nI 0) hx hb dX4_init_6 rfl ?_
  refine va_mmax hx hb (hml.trans hl.1.symm) hown (hts (.methodLink RX4 7 Lib.Math.max.name) (List.mem_of_getElem? (i := 4) rfl)) (hts (.static Lib.Math.max.name) (List.mem_of_getElem? (i := 5) rfl)) (hts (.initialized "java/lang/Math") (List.mem_of_getElem? (i := 6) rfl)) (hts (.code Lib.Math.max.name Lib.Math.max.code 2 (some .int)) (List.mem_of_getElem? (i := 7) rfl)) (Nat.le_of_ble_eq_true rfl) (Nat.le_of_ble_eq_true rfl) (Nat.zero_le _) (Nat.zero_le _) dX4_init_7 ?_
  refine q_top (show (if nI n < nI 0 then nI 0 else nI n) = nI n from if_neg (by rw [nI_ltI (by omega) (by omega)]; omega)) ?_
  have hbt : n * componentBytes .int ≤ 536870912 := by
    have e : componentBytes .int = 4 := rfl
    rw [e]; omega
  have hn0 : ¬ nI n < 0 := fun h => absurd h (nI_pos (by omega))
  have hnN : (nI n).toNatClampNeg = n := nI_clamp (by omega)
  have hva : ∀ cA : ClassId, vp_cell cA ((n, .inl (fun _ => 0)) : vp_A) = arrV cA n (fun _ => defaultValue .int) := fun _ => rfl
  have hc1 : 0 + 1 ≤ ({ frames := 1, cells := 1, slots := n, locals := 21 } : Room).cells := Nat.le_refl _
  have hs1 : 0 + n ≤ ({ frames := 1, cells := 1, slots := n, locals := 21 } : Room).slots := by show 0 + n ≤ n; omega
  refine va_newa (atype := .int) (ty := .int) (n := nI n) (N' := n) (a0 := (n, .inl (fun _ => 0))) hx hb (hts (.arrayClass .int) (List.mem_of_getElem? (i := 8) rfl)) rfl hK hw.1 hw.2.1 hw.2.2 hA hva hn0 hnN hbt hc1 hs1 dX4_init_10 (fun q cA H hK2 hP hD hS => ?_)
  obtain rfl := cA_cy hK hK2
  have hw := wS_new (show wS D A ((b, .inr (4, [.null])) :: Z ++ [(q, .inl (cA, n, .inl (fun _ => 0)))]) s H [] from ⟨hP, hD, hS⟩)
  refine va_putF (D := D) (ci := 4) (v := .ref q) (ty := .array .int) (C := RX4) (T := TX4) (N := 1) hx hb hts (fun _ h => List.mem_cons_of_mem _ (List.mem_append_right _ h)) tyX4 tyX4_ok nmX4 hown hK hw.1 hw.2.1 hw.2.2 0 rfl rfl 0 (by decide) (hts (.fieldLink RX4 13 "SpreadParity$Row" "cells" "[I") (List.mem_of_getElem? (i := 9) rfl)) (fun _ h9 => h9) rfl hin rfl (by decide +kernel) rfl rfl (Nat.le_of_ble_eq_true rfl) dX4_init_12 (fun H locs hP hD hS => ?_)
  refine W.widen (k := 1) (n := n) (by omega) (by omega) ?_
  exact q_vretE hx hb hr hlocks (w := (b, .inr (4, [.ref q])) :: (q, .inl (cA, n, .inl (fun _ => 0))) :: Z) ⟨hP, hD, hS⟩ dX4_init_15 ⟨rfl, q, rfl⟩

