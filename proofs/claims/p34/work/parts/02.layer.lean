/-- a boolean as an int -/
def bI (b : Bool) : Int32 := if b then 1 else 0
theorem bI_t : bI true = 1 := rfl
theorem bI_f : bI false = 0 := rfl
theorem bI_n (b : Bool) : narrow .boolean (.int (bI b)) = .int (bI b) := by cases b <;> rfl
theorem bI_eq0 {b : Bool} : bI b = 0 ↔ b = false := by cases b <;> decide
/-- a pure method's start: the arguments, the world w, the tables -/
def gR (D : va_G) (cy : ClassId) (av : List Value) (w : va_W) : Array Value → State → Prop := fun v U => v = av.toArray ∧ va_P D vwCl w U.heap ∧ va_K D vwCl [(cy, .int)] U
/-- a writing method's start -/
def gP (D : va_G) (cy : ClassId) (av : List Value) (A : Nat → Prop) (w : va_W) : Array Value → State → Prop := fun v U => v = av.toArray ∧ va_P D vwCl w U.heap ∧ va_K D vwCl [(cy, .int)] U ∧ va_D A w ∧ ∀ q, U.heap.size ≤ q → A q
/-- a writing method's end: the answer and the world, exactly -/
def gQ (D : va_G) (A : Nat → Prop) (v : Option Value) (w : va_W) : Array Value → State → Outcome → State → Prop := fun _ st o t => o = .returned v ∧ va_P D vwCl w t.heap ∧ va_D A w ∧ va_F A st t
/-- a writing method's end, of which only a relation is said -/
def gE (D : va_G) (A : Nat → Prop) (post : Option Value → va_W → Prop) : Array Value → State → Outcome → State → Prop := fun _ st o t => ∃ (v : Option Value) (w : va_W), o = .returned v ∧ post v w ∧ va_P D vwCl w t.heap ∧ va_D A w ∧ va_F A st t
/-- the world at a point of a writing method's walk -/
def wS (D : va_G) (A : Nat → Prop) (w : va_W) (s : State) (H : Heap) (locs : List Loc) : Prop := va_P D vwCl w H ∧ va_D A w ∧ va_S A s.heap H locs
theorem gR_blind {D : va_G} {cy : ClassId} {av : List Value} {w : va_W} : FrameBlind (gR D cy av w) := fun _ U _ _ q => ⟨q.1, q.2.1, va_K.moved (Vm.Alike.refl U.vm) q.2.2⟩
theorem gP_blind {D : va_G} {cy : ClassId} {av : List Value} {A : Nat → Prop} {w : va_W} : FrameBlind (gP D cy av A w) := fun _ U _ _ q => ⟨q.1, q.2.1, va_K.moved (Vm.Alike.refl U.vm) q.2.2.1, q.2.2.2.1, q.2.2.2.2⟩
section QL
variable {p : Program} {l : Launch} {e : Env} {R : Room} {s : State} {m : MethodId} {args : Array Value} {below : List Frame} {meth : Method} {c : Code} {H : Heap} {locs : List Loc} {cells slots : Nat} {Q : State → Prop} {cc : ByteArray} {pc : Nat} {ls : Array Slot} {rest : List Value}

theorem q_addN (hexec : p.tables.exec = Jvm.exec) (hb : c.code = cc) {a b : Nat} (hdg : decode cc pc = .ok (.iadd, 1)) 
    (k : W p l e R s m args below meth c H locs cells slots Q (F0 m (pc + 1) ls (.int (nI (a + b)) :: rest))) : W p l e R s m args below meth c H locs cells slots Q (F0 m pc ls (.int (nI b) :: .int (nI a) :: rest)) := by
  refine lv_iadd hexec hb hdg ?_
  rw [nI_add]
  exact k
theorem q_subN (hexec : p.tables.exec = Jvm.exec) (hb : c.code = cc) {a b : Nat} (hdg : decode cc pc = .ok (.isub, 1)) (h : b ≤ a)
    (k : W p l e R s m args below meth c H locs cells slots Q (F0 m (pc + 1) ls (.int (nI (a - b)) :: rest))) : W p l e R s m args below meth c H locs cells slots Q (F0 m pc ls (.int (nI b) :: .int (nI a) :: rest)) := by
  refine lv_isub hexec hb hdg ?_
  rw [pk_sub h]
  exact k
theorem q_mulN (hexec : p.tables.exec = Jvm.exec) (hb : c.code = cc) {a b : Nat} (hdg : decode cc pc = .ok (.imul, 1)) 
    (k : W p l e R s m args below meth c H locs cells slots Q (F0 m (pc + 1) ls (.int (nI (a * b)) :: rest))) : W p l e R s m args below meth c H locs cells slots Q (F0 m pc ls (.int (nI b) :: .int (nI a) :: rest)) := by
  refine lv_imul hexec hb hdg ?_
  rw [pk_mul]
  exact k
theorem q_divN (hexec : p.tables.exec = Jvm.exec) (hb : c.code = cc) {a b : Nat} (hdg : decode cc pc = .ok (.idiv, 1)) (h0 : 0 < b) (h1 : a < 2 ^ 31) (h2 : b < 2 ^ 31)
    (k : W p l e R s m args below meth c H locs cells slots Q (F0 m (pc + 1) ls (.int (nI (a / b)) :: rest))) : W p l e R s m args below meth c H locs cells slots Q (F0 m pc ls (.int (nI b) :: .int (nI a) :: rest)) := by
  refine lv_idiv hexec hb hdg (by intro h; have := congrArg Int32.toInt h; rw [nI_toInt h2] at this; have h5 : (0 : Int32).toInt = 0 := rfl; rw [h5] at this; omega) ?_
  rw [pk_div h1 h0 h2]
  exact k
theorem q_remN (hexec : p.tables.exec = Jvm.exec) (hb : c.code = cc) {a b : Nat} (hdg : decode cc pc = .ok (.irem, 1)) (h0 : 0 < b) (h1 : a < 2 ^ 31) (h2 : b < 2 ^ 31)
    (k : W p l e R s m args below meth c H locs cells slots Q (F0 m (pc + 1) ls (.int (nI (a % b)) :: rest))) : W p l e R s m args below meth c H locs cells slots Q (F0 m pc ls (.int (nI b) :: .int (nI a) :: rest)) := by
  refine lv_irem hexec hb hdg (by intro h; have := congrArg Int32.toInt h; rw [nI_toInt h2] at this; have h5 : (0 : Int32).toInt = 0 := rfl; rw [h5] at this; omega) ?_
  rw [pk_rem h1 h0 h2]
  exact k
theorem q_eqN (hexec : p.tables.exec = Jvm.exec) (hb : c.code = cc) {a b : Nat} {off : Int} {tgt : Nat} (hdg : decode cc pc = .ok (.if_icmp .eq off, 3)) (ht : (pc : Int) + off = (tgt : Int)) (h1 : a < 2 ^ 31) (h2 : b < 2 ^ 31)
    (kt : a = b → W p l e R s m args below meth c H locs cells slots Q (F0 m tgt ls rest)) (kf : ¬ a = b → W p l e R s m args below meth c H locs cells slots Q (F0 m (pc + 3) ls rest)) : W p l e R s m args below meth c H locs cells slots Q (F0 m pc ls (.int (nI b) :: .int (nI a) :: rest)) := by
  exact lv_icmp_eq hexec hb hdg ht (fun h => kt ((nI_eq h1 h2).mp h)) (fun h => kf (fun h3 => h ((nI_eq h1 h2).mpr h3)))
theorem q_neN (hexec : p.tables.exec = Jvm.exec) (hb : c.code = cc) {a b : Nat} {off : Int} {tgt : Nat} (hdg : decode cc pc = .ok (.if_icmp .ne off, 3)) (ht : (pc : Int) + off = (tgt : Int)) (h1 : a < 2 ^ 31) (h2 : b < 2 ^ 31)
    (kt : ¬ a = b → W p l e R s m args below meth c H locs cells slots Q (F0 m tgt ls rest)) (kf : a = b → W p l e R s m args below meth c H locs cells slots Q (F0 m (pc + 3) ls rest)) : W p l e R s m args below meth c H locs cells slots Q (F0 m pc ls (.int (nI b) :: .int (nI a) :: rest)) := by
  exact lv_icmp_ne hexec hb hdg ht (fun h => kt (fun h3 => h ((nI_eq h1 h2).mpr h3))) (fun h => kf ((nI_eq h1 h2).mp h))
theorem q_ltN (hexec : p.tables.exec = Jvm.exec) (hb : c.code = cc) {a b : Nat} {off : Int} {tgt : Nat} (hdg : decode cc pc = .ok (.if_icmp .lt off, 3)) (ht : (pc : Int) + off = (tgt : Int)) (h1 : a < 2 ^ 31) (h2 : b < 2 ^ 31)
    (kt : a < b → W p l e R s m args below meth c H locs cells slots Q (F0 m tgt ls rest)) (kf : b ≤ a → W p l e R s m args below meth c H locs cells slots Q (F0 m (pc + 3) ls rest)) : W p l e R s m args below meth c H locs cells slots Q (F0 m pc ls (.int (nI b) :: .int (nI a) :: rest)) := by
  exact lv_icmp_lt hexec hb hdg ht (fun h => kt ((nI_ltI h1 h2).mp h)) (fun h => kf (by have h3 : ¬ (a < b) := fun h4 => h ((nI_ltI h1 h2).mpr h4); omega))
theorem q_geN (hexec : p.tables.exec = Jvm.exec) (hb : c.code = cc) {a b : Nat} {off : Int} {tgt : Nat} (hdg : decode cc pc = .ok (.if_icmp .ge off, 3)) (ht : (pc : Int) + off = (tgt : Int)) (h1 : a < 2 ^ 31) (h2 : b < 2 ^ 31)
    (kt : b ≤ a → W p l e R s m args below meth c H locs cells slots Q (F0 m tgt ls rest)) (kf : a < b → W p l e R s m args below meth c H locs cells slots Q (F0 m (pc + 3) ls rest)) : W p l e R s m args below meth c H locs cells slots Q (F0 m pc ls (.int (nI b) :: .int (nI a) :: rest)) := by
  exact lv_icmp_ge hexec hb hdg ht (fun h => kt ((nI_leI h2 h1).mp h)) (fun h => kf (by have h3 : ¬ (b ≤ a) := fun h4 => h ((nI_leI h2 h1).mpr h4); omega))
theorem q_gtN (hexec : p.tables.exec = Jvm.exec) (hb : c.code = cc) {a b : Nat} {off : Int} {tgt : Nat} (hdg : decode cc pc = .ok (.if_icmp .gt off, 3)) (ht : (pc : Int) + off = (tgt : Int)) (h1 : a < 2 ^ 31) (h2 : b < 2 ^ 31)
    (kt : b < a → W p l e R s m args below meth c H locs cells slots Q (F0 m tgt ls rest)) (kf : a ≤ b → W p l e R s m args below meth c H locs cells slots Q (F0 m (pc + 3) ls rest)) : W p l e R s m args below meth c H locs cells slots Q (F0 m pc ls (.int (nI b) :: .int (nI a) :: rest)) := by
  exact lv_icmp_gt hexec hb hdg ht (fun h => kt ((nI_ltI h2 h1).mp h)) (fun h => kf (by have h3 : ¬ (b < a) := fun h4 => h ((nI_ltI h2 h1).mpr h4); omega))
theorem q_leN (hexec : p.tables.exec = Jvm.exec) (hb : c.code = cc) {a b : Nat} {off : Int} {tgt : Nat} (hdg : decode cc pc = .ok (.if_icmp .le off, 3)) (ht : (pc : Int) + off = (tgt : Int)) (h1 : a < 2 ^ 31) (h2 : b < 2 ^ 31)
    (kt : a ≤ b → W p l e R s m args below meth c H locs cells slots Q (F0 m tgt ls rest)) (kf : b < a → W p l e R s m args below meth c H locs cells slots Q (F0 m (pc + 3) ls rest)) : W p l e R s m args below meth c H locs cells slots Q (F0 m pc ls (.int (nI b) :: .int (nI a) :: rest)) := by
  exact lv_icmp_le hexec hb hdg ht (fun h => kt ((nI_leI h1 h2).mp h)) (fun h => kf (by have h3 : ¬ (a ≤ b) := fun h4 => h ((nI_leI h1 h2).mpr h4); omega))
theorem q_ifeqN (hexec : p.tables.exec = Jvm.exec) (hb : c.code = cc) {a : Nat} {off : Int} {tgt : Nat} (hdg : decode cc pc = .ok (.ifCond .eq off, 3)) (ht : (pc : Int) + off = (tgt : Int)) (h1 : a < 2 ^ 31)
    (kt : a = 0 → W p l e R s m args below meth c H locs cells slots Q (F0 m tgt ls rest)) (kf : 0 < a → W p l e R s m args below meth c H locs cells slots Q (F0 m (pc + 3) ls rest)) : W p l e R s m args below meth c H locs cells slots Q (F0 m pc ls (.int (nI a) :: rest)) := by
  have h9 : nI a = 0 ↔ a = 0 := by rw [← nI_0]; exact nI_eq h1 (by omega)
  have h8 : (0 < nI a) ↔ 0 < a := by rw [← nI_0]; exact nI_ltI (by omega) h1
  have h7 : (nI a ≤ 0) ↔ a ≤ 0 := by rw [← nI_0]; exact nI_leI h1 (by omega)
  exact lv_if_eq hexec hb hdg ht (fun h => kt (by have h3 := h9.mp h; omega)) (fun h => kf (by have h3 := fun h4 => h (h9.mpr h4); simp only [imp_false] at h3; omega))
theorem q_ifneN (hexec : p.tables.exec = Jvm.exec) (hb : c.code = cc) {a : Nat} {off : Int} {tgt : Nat} (hdg : decode cc pc = .ok (.ifCond .ne off, 3)) (ht : (pc : Int) + off = (tgt : Int)) (h1 : a < 2 ^ 31)
    (kt : 0 < a → W p l e R s m args below meth c H locs cells slots Q (F0 m tgt ls rest)) (kf : a = 0 → W p l e R s m args below meth c H locs cells slots Q (F0 m (pc + 3) ls rest)) : W p l e R s m args below meth c H locs cells slots Q (F0 m pc ls (.int (nI a) :: rest)) := by
  have h9 : nI a = 0 ↔ a = 0 := by rw [← nI_0]; exact nI_eq h1 (by omega)
  have h8 : (0 < nI a) ↔ 0 < a := by rw [← nI_0]; exact nI_ltI (by omega) h1
  have h7 : (nI a ≤ 0) ↔ a ≤ 0 := by rw [← nI_0]; exact nI_leI h1 (by omega)
  exact lv_if_ne hexec hb hdg ht (fun h => kt (by have h3 : ¬ a = 0 := fun h4 => h (h9.mpr h4); omega)) (fun h => kf (h9.mp h))
theorem q_ifgtN (hexec : p.tables.exec = Jvm.exec) (hb : c.code = cc) {a : Nat} {off : Int} {tgt : Nat} (hdg : decode cc pc = .ok (.ifCond .gt off, 3)) (ht : (pc : Int) + off = (tgt : Int)) (h1 : a < 2 ^ 31)
    (kt : 0 < a → W p l e R s m args below meth c H locs cells slots Q (F0 m tgt ls rest)) (kf : a = 0 → W p l e R s m args below meth c H locs cells slots Q (F0 m (pc + 3) ls rest)) : W p l e R s m args below meth c H locs cells slots Q (F0 m pc ls (.int (nI a) :: rest)) := by
  have h9 : nI a = 0 ↔ a = 0 := by rw [← nI_0]; exact nI_eq h1 (by omega)
  have h8 : (0 < nI a) ↔ 0 < a := by rw [← nI_0]; exact nI_ltI (by omega) h1
  have h7 : (nI a ≤ 0) ↔ a ≤ 0 := by rw [← nI_0]; exact nI_leI h1 (by omega)
  exact lv_if_gt hexec hb hdg ht (fun h => kt (by have h3 := h8.mp h; omega)) (fun h => kf (by have h3 := fun h4 => h (h8.mpr h4); simp only [imp_false] at h3; omega))
theorem q_ifleN (hexec : p.tables.exec = Jvm.exec) (hb : c.code = cc) {a : Nat} {off : Int} {tgt : Nat} (hdg : decode cc pc = .ok (.ifCond .le off, 3)) (ht : (pc : Int) + off = (tgt : Int)) (h1 : a < 2 ^ 31)
    (kt : a = 0 → W p l e R s m args below meth c H locs cells slots Q (F0 m tgt ls rest)) (kf : 0 < a → W p l e R s m args below meth c H locs cells slots Q (F0 m (pc + 3) ls rest)) : W p l e R s m args below meth c H locs cells slots Q (F0 m pc ls (.int (nI a) :: rest)) := by
  have h9 : nI a = 0 ↔ a = 0 := by rw [← nI_0]; exact nI_eq h1 (by omega)
  have h8 : (0 < nI a) ↔ 0 < a := by rw [← nI_0]; exact nI_ltI (by omega) h1
  have h7 : (nI a ≤ 0) ↔ a ≤ 0 := by rw [← nI_0]; exact nI_leI h1 (by omega)
  exact lv_if_le hexec hb hdg ht (fun h => kt (by have h3 := h7.mp h; omega)) (fun h => kf (by have h3 := fun h4 => h (h7.mpr h4); simp only [imp_false] at h3; omega))
theorem q_iflt_N (hexec : p.tables.exec = Jvm.exec) (hb : c.code = cc) {a : Nat} {off : Int} {tgt : Nat} (hdg : decode cc pc = .ok (.ifCond .lt off, 3)) (ht : (pc : Int) + off = (tgt : Int)) (h1 : a < 2 ^ 31)
    (kf : W p l e R s m args below meth c H locs cells slots Q (F0 m (pc + 3) ls rest)) : W p l e R s m args below meth c H locs cells slots Q (F0 m pc ls (.int (nI a) :: rest)) := by
  exact lv_if_lt hexec hb hdg ht (fun h => absurd h (nI_pos h1)) (fun _ => kf)
theorem q_ifge_N (hexec : p.tables.exec = Jvm.exec) (hb : c.code = cc) {a : Nat} {off : Int} {tgt : Nat} (hdg : decode cc pc = .ok (.ifCond .ge off, 3)) (ht : (pc : Int) + off = (tgt : Int)) (h1 : a < 2 ^ 31)
    (kt : W p l e R s m args below meth c H locs cells slots Q (F0 m tgt ls rest)) : W p l e R s m args below meth c H locs cells slots Q (F0 m pc ls (.int (nI a) :: rest)) := by
  exact lv_if_ge hexec hb hdg ht (fun _ => kt) (fun h => absurd (nI_pos' h1) h)
theorem q_ifeqB (hexec : p.tables.exec = Jvm.exec) (hb : c.code = cc) {b : Bool} {off : Int} {tgt : Nat} (hdg : decode cc pc = .ok (.ifCond .eq off, 3)) (ht : (pc : Int) + off = (tgt : Int))
    (kt : b = false → W p l e R s m args below meth c H locs cells slots Q (F0 m tgt ls rest)) (kf : b = true → W p l e R s m args below meth c H locs cells slots Q (F0 m (pc + 3) ls rest)) : W p l e R s m args below meth c H locs cells slots Q (F0 m pc ls (.int (bI b) :: rest)) := by
  exact lv_if_eq hexec hb hdg ht (fun h => kt (bI_eq0.mp h)) (fun h => kf (by cases b; exact absurd rfl h; rfl))
theorem q_ifneB (hexec : p.tables.exec = Jvm.exec) (hb : c.code = cc) {b : Bool} {off : Int} {tgt : Nat} (hdg : decode cc pc = .ok (.ifCond .ne off, 3)) (ht : (pc : Int) + off = (tgt : Int))
    (kt : b = true → W p l e R s m args below meth c H locs cells slots Q (F0 m tgt ls rest)) (kf : b = false → W p l e R s m args below meth c H locs cells slots Q (F0 m (pc + 3) ls rest)) : W p l e R s m args below meth c H locs cells slots Q (F0 m pc ls (.int (bI b) :: rest)) := by
  exact lv_if_ne hexec hb hdg ht (fun h => kt (by cases b; exact absurd rfl h; rfl)) (fun h => kf (bI_eq0.mp h))
theorem q_top {x y : Int32} (h : x = y) (k : W p l e R s m args below meth c H locs cells slots Q (F0 m pc ls (.int y :: rest))) : W p l e R s m args below meth c H locs cells slots Q (F0 m pc ls (.int x :: rest)) := by
  subst h
  exact k
theorem q_stk {st st' : List Value} (h : st = st') (k : W p l e R s m args below meth c H locs cells slots Q (F0 m pc ls st')) : W p l e R s m args below meth c H locs cells slots Q (F0 m pc ls st) := by
  subst h
  exact k
theorem q_iald (hexec : p.tables.exec = Jvm.exec) (hb : c.code = cc) {D : va_G} {cy : ClassId} {w : va_W} {ar n : Nat} {f : Nat → Int32} (hK : va_K D vwCl [(cy, .int)] s) (hP : va_P D vwCl w H) (q0 : Nat) (ha : w[q0]? = some (ar, .inl (cy, n, .inl f))) {i : Nat} (hi : i < n) (hn : n < 2 ^ 31) (hdg : decode cc pc = .ok (.iaload, 1))
    (k : W p l e R s m args below meth c H locs cells slots Q (F0 m (pc + 1) ls (.int (f i) :: rest))) : W p l e R s m args below meth c H locs cells slots Q (F0 m pc ls (.int (nI i) :: .ref ar :: rest)) := by
  refine va_iald hexec hb hK hP q0 0 ha rfl (vp_in_nI hi hn) hdg ?_
  rw [nI_clamp (Nat.lt_trans hi hn)]
  exact k
theorem q_iast (hexec : p.tables.exec = Jvm.exec) (hb : c.code = cc) {D : va_G} {A : Nat → Prop} {cy : ClassId} {w : va_W} {ar n : Nat} {f : Nat → Int32} (hK : va_K D vwCl [(cy, .int)] s) (hw : wS D A w s H locs) (q0 : Nat) (ha : w[q0]? = some (ar, .inl (cy, n, .inl f))) {i : Nat} {x : Int32} (hi : i < n) (hn : n < 2 ^ 31) (hdg : decode cc pc = .ok (.iastore, 1))
    (k : ∀ (H : Heap) (locs : List Loc), wS D A (w.set q0 (ar, .inl (cy, n, .inl (upd f i x)))) s H locs → W p l e R s m args below meth c H locs cells slots Q (F0 m (pc + 1) ls rest)) : W p l e R s m args below meth c H locs cells slots Q (F0 m pc ls (.int x :: .int (nI i) :: .ref ar :: rest)) := by
  refine va_iast hexec hb hK hw.1 hw.2.1 hw.2.2 q0 0 ha rfl (vp_in_nI hi hn) hdg (fun H1 locs1 h1 h2 h3 => ?_)
  rw [nI_clamp (Nat.lt_trans hi hn)] at h1 h2
  exact k H1 locs1 ⟨h1, h2, h3⟩
theorem q_iret {v r : Int32} (hx : p.tables.exec = Jvm.exec) (hb : c.code = cc) (hr : meth.sig.returnType = some .int) (hlocks : meth.locks = false) (hdg : decode cc pc = .ok (.ireturn, 1)) (hv : v = r) : W p l e R s m args below meth c s.heap [] cells slots (MQ below (k2_QcV (.int r)) args s cells slots (fun _ => False)) (F0 m pc ls [.int v]) := by
  subst hv
  exact W.iret hx hb hr (fun t ht _ => ⟨rfl, ht⟩) (fun q h => absurd h List.not_mem_nil) hdg hlocks
theorem q_iretW {D : va_G} {A : Nat → Prop} {w : va_W} {v r : Int32} (hx : p.tables.exec = Jvm.exec) (hb : c.code = cc) (hr : meth.sig.returnType = some .int) (hlocks : meth.locks = false) (hw : wS D A w s H locs) (hdg : decode cc pc = .ok (.ireturn, 1)) (hv : v = r) : W p l e R s m args below meth c H locs cells slots (MQ below (gQ D A (some (.int r)) w) args s cells slots A) (F0 m pc ls [.int v]) := by
  subst hv
  exact W.iret hx hb hr (fun t ht _ => ⟨rfl, by rw [ht]; exact hw.1, hw.2.1, hw.2.2.F ht⟩) hw.2.2.2.2 hdg hlocks
theorem q_iretE {D : va_G} {A : Nat → Prop} {w : va_W} {v : Int32} {post : Option Value → va_W → Prop} (hx : p.tables.exec = Jvm.exec) (hb : c.code = cc) (hr : meth.sig.returnType = some .int) (hlocks : meth.locks = false) (hw : wS D A w s H locs) (hdg : decode cc pc = .ok (.ireturn, 1)) (hv : post (some (.int v)) w) : W p l e R s m args below meth c H locs cells slots (MQ below (gE D A post) args s cells slots A) (F0 m pc ls [.int v]) :=
  W.iret hx hb hr (fun t ht _ => ⟨_, w, rfl, hv, by rw [ht]; exact hw.1, hw.2.1, hw.2.2.F ht⟩) hw.2.2.2.2 hdg hlocks
theorem q_lret {v r : Int64} (hx : p.tables.exec = Jvm.exec) (hb : c.code = cc) (hr : meth.sig.returnType = some .long) (hlocks : meth.locks = false) (hdg : decode cc pc = .ok (.lreturn, 1)) (hv : v = r) : W p l e R s m args below meth c s.heap [] cells slots (MQ below (k2_QcV (.long r)) args s cells slots (fun _ => False)) (F0 m pc ls [.long v]) := by
  subst hv
  exact W.lret hx hb hr (fun t ht _ => ⟨rfl, ht⟩) (fun q h => absurd h List.not_mem_nil) hdg hlocks
theorem q_lretW {D : va_G} {A : Nat → Prop} {w : va_W} {v r : Int64} (hx : p.tables.exec = Jvm.exec) (hb : c.code = cc) (hr : meth.sig.returnType = some .long) (hlocks : meth.locks = false) (hw : wS D A w s H locs) (hdg : decode cc pc = .ok (.lreturn, 1)) (hv : v = r) : W p l e R s m args below meth c H locs cells slots (MQ below (gQ D A (some (.long r)) w) args s cells slots A) (F0 m pc ls [.long v]) := by
  subst hv
  exact W.lret hx hb hr (fun t ht _ => ⟨rfl, by rw [ht]; exact hw.1, hw.2.1, hw.2.2.F ht⟩) hw.2.2.2.2 hdg hlocks
theorem q_lretE {D : va_G} {A : Nat → Prop} {w : va_W} {v : Int64} {post : Option Value → va_W → Prop} (hx : p.tables.exec = Jvm.exec) (hb : c.code = cc) (hr : meth.sig.returnType = some .long) (hlocks : meth.locks = false) (hw : wS D A w s H locs) (hdg : decode cc pc = .ok (.lreturn, 1)) (hv : post (some (.long v)) w) : W p l e R s m args below meth c H locs cells slots (MQ below (gE D A post) args s cells slots A) (F0 m pc ls [.long v]) :=
  W.lret hx hb hr (fun t ht _ => ⟨_, w, rfl, hv, by rw [ht]; exact hw.1, hw.2.1, hw.2.2.F ht⟩) hw.2.2.2.2 hdg hlocks
theorem q_zret {v : Int32} {b : Bool} (hx : p.tables.exec = Jvm.exec) (hb : c.code = cc) (hr : meth.sig.returnType = some .boolean) (hlocks : meth.locks = false) (hdg : decode cc pc = .ok (.ireturn, 1)) (hv : v = bI b) : W p l e R s m args below meth c s.heap [] cells slots (MQ below (k2_QcV (.int (bI b))) args s cells slots (fun _ => False)) (F0 m pc ls [.int v]) := by
  subst hv
  exact W.zret hx hb hr (bI_n b) (fun t ht _ => ⟨rfl, ht⟩) (fun q h => absurd h List.not_mem_nil) hdg hlocks
theorem q_zretW {D : va_G} {A : Nat → Prop} {w : va_W} {v : Int32} {b : Bool} (hx : p.tables.exec = Jvm.exec) (hb : c.code = cc) (hr : meth.sig.returnType = some .boolean) (hlocks : meth.locks = false) (hw : wS D A w s H locs) (hdg : decode cc pc = .ok (.ireturn, 1)) (hv : v = bI b) : W p l e R s m args below meth c H locs cells slots (MQ below (gQ D A (some (.int (bI b))) w) args s cells slots A) (F0 m pc ls [.int v]) := by
  subst hv
  exact W.zret hx hb hr (bI_n b) (fun t ht _ => ⟨rfl, by rw [ht]; exact hw.1, hw.2.1, hw.2.2.F ht⟩) hw.2.2.2.2 hdg hlocks
theorem q_zretE {D : va_G} {A : Nat → Prop} {w : va_W} {v : Int32} (b : Bool) {post : Option Value → va_W → Prop} (hx : p.tables.exec = Jvm.exec) (hb : c.code = cc) (hr : meth.sig.returnType = some .boolean) (hlocks : meth.locks = false) (hw : wS D A w s H locs) (hdg : decode cc pc = .ok (.ireturn, 1)) (hb2 : v = bI b) (hv : post (some (.int (bI b))) w) : W p l e R s m args below meth c H locs cells slots (MQ below (gE D A post) args s cells slots A) (F0 m pc ls [.int v]) := by
  subst hb2
  exact W.zret hx hb hr (bI_n b) (fun t ht _ => ⟨_, w, rfl, hv, by rw [ht]; exact hw.1, hw.2.1, hw.2.2.F ht⟩) hw.2.2.2.2 hdg hlocks
theorem q_vretW {D : va_G} {A : Nat → Prop} {w : va_W} (hx : p.tables.exec = Jvm.exec) (hb : c.code = cc) (hr : meth.sig.returnType = none) (hlocks : meth.locks = false) (hw : wS D A w s H locs) (hdg : decode cc pc = .ok (.return_, 1)) : W p l e R s m args below meth c H locs cells slots (MQ below (gQ D A none w) args s cells slots A) (F0 m pc ls []) :=
  W.vret hx hb hr (fun t ht _ => ⟨rfl, by rw [ht]; exact hw.1, hw.2.1, hw.2.2.F ht⟩) hw.2.2.2.2 hdg hlocks
theorem q_vretE {D : va_G} {A : Nat → Prop} {w : va_W} {post : Option Value → va_W → Prop} (hx : p.tables.exec = Jvm.exec) (hb : c.code = cc) (hr : meth.sig.returnType = none) (hlocks : meth.locks = false) (hw : wS D A w s H locs) (hdg : decode cc pc = .ok (.return_, 1)) (hv : post none w) : W p l e R s m args below meth c H locs cells slots (MQ below (gE D A post) args s cells slots A) (F0 m pc ls []) :=
  W.vret hx hb hr (fun t ht _ => ⟨_, w, rfl, hv, by rw [ht]; exact hw.1, hw.2.1, hw.2.2.F ht⟩) hw.2.2.2.2 hdg hlocks
theorem q_aret {nm : String} {b : Addr} (hx : p.tables.exec = Jvm.exec) (hb : c.code = cc) (hr : meth.sig.returnType = some (.object nm)) (hlocks : meth.locks = false) (hdg : decode cc pc = .ok (.areturn, 1)) : W p l e R s m args below meth c s.heap [] cells slots (MQ below (k2_QcV (.ref b)) args s cells slots (fun _ => False)) (F0 m pc ls [.ref b]) :=
  W.aret hx hb hr (Or.inl ⟨_, rfl⟩) (Or.inr ⟨_, rfl⟩) (fun t ht _ => ⟨rfl, ht⟩) (fun q h => absurd h List.not_mem_nil) hdg hlocks

theorem q_cV {D : va_G} {cy : ClassId} {y : MethodName} {bytes : ByteArray} {maxL nL n index : Nat} {ret : Option FieldType} {ws : List Cond} {rm : Room} {Ts : List Cond} {own : String} {As st : List Value} {w : va_W} {C : String} {T : u_T} {N ci : Nat} {fs : List Value} {b : Addr} {r : Value}
    (S : CallFix p m c cc nL s args Ts own) (hM : Met l y ws rm (gR D cy (.ref b :: As) w) (k2_QcV r) 0 0 (fun _ => False)) (cw : CallW R s args own C index y bytes maxL ret ws rm 0 0 n) (hK : va_K D vwCl [(cy, .int)] s) (hP : va_P D vwCl w H) (q0 : Nat) (he : w[q0]? = some (b, .inr (ci, fs))) (hc : vwCl[ci]? = some (C, T, N))
    (hn : As.length = n) (hsize : ls.size = nL) (hst : st = As.reverse ++ .ref b :: rest) (hW : (rest.map fun v => v.category).sum ≤ 8) (hf : cells ≤ R.cells ∧ slots ≤ R.slots) (hdg : decode cc pc = .ok (.invokevirtual index, 3))
    (k : W p l e R s m args below meth c H locs cells slots Q (F0 m (pc + 3) ls (r :: rest))) : W p l e R s m args below meth c H locs cells slots Q (F0 m pc ls st) := by
  subst hst
  exact W.callV (W.runV S hM cw ⟨gR_blind, va_recv hK hP hc he, fun U hU hW => ⟨rfl, by rw [hU]; exact hP, va_K.moved hW.alike hK⟩⟩ rfl hn hsize rfl (lv_room hW) hdg hf) k
theorem q_cS {D : va_G} {cy : ClassId} {y : MethodName} {bytes : ByteArray} {maxL nL n index : Nat} {ret : Option FieldType} {ws : List Cond} {rm : Room} {Ts : List Cond} {own : String} {As st : List Value} {r : Value} {w w2 : va_W}
    (S : CallFix p m c cc nL s args Ts own) (hM : Met l y ws rm (gR D cy As w2) (k2_QcV r) 0 0 (fun _ => False)) (cw : CallB R s args own index y bytes maxL ret ws rm 0 0 n ∧ (Cond.static y).before args s = true) (hK : va_K D vwCl [(cy, .int)] s) (hP : va_P D vwCl w2 H)
    (hn : As.length = n) (hsize : ls.size = nL) (hst : st = As.reverse ++ rest) (hW : (rest.map fun v => v.category).sum ≤ 8) (hf : cells ≤ R.cells ∧ slots ≤ R.slots) (hdg : decode cc pc = .ok (.invokestatic index, 3))
    (k : W p l e R s m args below meth c H locs cells slots Q (F0 m (pc + 3) ls (r :: rest))) : W p l e R s m args below meth c H locs cells slots Q (F0 m pc ls st) := by
  subst hst
  exact W.callV (W.runS S hM cw ⟨gR_blind, fun U hU hW => ⟨rfl, by rw [hU]; exact hP, va_K.moved hW.alike hK⟩⟩ rfl hn hsize rfl (lv_room hW) hdg hf) k
theorem q_Pnil {D : va_G} : va_P D vwCl [] H := fun k q h => by simp at h
theorem q_wV {D : va_G} {cy : ClassId} {y : MethodName} {bytes : ByteArray} {maxL nL n index : Nat} {ret : Option FieldType} {ws : List Cond} {rm : Room} {Ts : List Cond} {own : String} {As st : List Value} {C : String} {T : u_T} {N ci : Nat} {fs : List Value} {b : Addr} {A : Nat → Prop} {w w1 : va_W} {v : Option Value} {st1 : List Value} {mc ms : Nat}
    (S : CallFix p m c cc nL s args Ts own) (hM : Met l y ws rm (gP D cy (.ref b :: As) A w) (gQ D A v w1) mc ms A) (cw : CallW R s args own C index y bytes maxL ret ws rm mc ms n) (hK : va_K D vwCl [(cy, .int)] s) (hA : ∀ q, s.heap.size ≤ q → A q) (hw : wS D A w s H locs) (q0 : Nat) (he : w[q0]? = some (b, .inr (ci, fs))) (hc : vwCl[ci]? = some (C, T, N)) (hn : As.length = n) (hsize : ls.size = nL) (hst : st = As.reverse ++ .ref b :: rest) (hst1 : v.toList ++ rest = st1) (hW : (rest.map fun v => v.category).sum ≤ 8) (hf : cells + mc ≤ R.cells ∧ slots + ms ≤ R.slots) (hdg : decode cc pc = .ok (.invokevirtual index, 3))
    (k : ∀ (H : Heap) (locs : List Loc), wS D A w1 s H locs → W p l e R s m args below meth c H locs (cells + mc) (slots + ms) Q (F0 m (pc + 3) ls st1)) : W p l e R s m args below meth c H locs cells slots Q (F0 m pc ls st) := by
  subst hst
  intro T hT X
  obtain ⟨v', st₀, t, T', L, h0, X', hL, e1, e2, hQ, stp⟩ := (va_runV S hM cw ⟨gP_blind, va_recv hK hw.1 hc he, fun U hU hW => ⟨rfl, by rw [hU]; exact hw.1, va_K.moved hW.alike hK, hw.2.1, fun q hq => hA q (Nat.le_trans (by rw [hU] at hq; exact hw.2.2.1) (by rw [hU] at hq; exact hq))⟩⟩ rfl hn hsize rfl (lv_room hW) hdg hf) T hT X
  obtain ⟨hv, hP1, hD1, hz, hk⟩ := hQ
  cases hv
  subst hst1
  rw [h0] at hz hk
  obtain ⟨t2, a1, b1⟩ := k T'.heap (locs ++ L) ⟨by rw [e1]; exact hP1, hD1, Nat.le_trans hw.2.2.1 (by rw [e1]; exact hz), fun q h1 h2 => by rw [e1, hk q (Nat.lt_of_lt_of_le h1 hw.2.2.1) h2]; exact hw.2.2.2.1 q h1 h2, fun q hq => by
      rcases List.mem_append.mp hq with h | h
      · exact hw.2.2.2.2 q h
      · exact hL q h⟩ T' rfl X'
  exact ⟨t2, stp t2 a1, b1⟩
theorem q_wVE {D : va_G} {cy : ClassId} {y : MethodName} {bytes : ByteArray} {maxL nL n index : Nat} {ret : Option FieldType} {ws : List Cond} {rm : Room} {Ts : List Cond} {own : String} {As st : List Value} {C : String} {T : u_T} {N ci : Nat} {fs : List Value} {b : Addr} {A : Nat → Prop} {w : va_W} {post : Option Value → va_W → Prop} {mc ms : Nat}
    (S : CallFix p m c cc nL s args Ts own) (hM : Met l y ws rm (gP D cy (.ref b :: As) A w) (gE D A post) mc ms A) (cw : CallW R s args own C index y bytes maxL ret ws rm mc ms n) (hK : va_K D vwCl [(cy, .int)] s) (hA : ∀ q, s.heap.size ≤ q → A q) (hw : wS D A w s H locs) (q0 : Nat) (he : w[q0]? = some (b, .inr (ci, fs))) (hc : vwCl[ci]? = some (C, T, N)) (hn : As.length = n) (hsize : ls.size = nL) (hst : st = As.reverse ++ .ref b :: rest) (hW : (rest.map fun v => v.category).sum ≤ 8) (hf : cells + mc ≤ R.cells ∧ slots + ms ≤ R.slots) (hdg : decode cc pc = .ok (.invokevirtual index, 3))
    (k : ∀ (H : Heap) (locs : List Loc) (v : Option Value) (w1 : va_W), post v w1 → wS D A w1 s H locs → W p l e R s m args below meth c H locs (cells + mc) (slots + ms) Q (F0 m (pc + 3) ls (v.toList ++ rest))) : W p l e R s m args below meth c H locs cells slots Q (F0 m pc ls st) := by
  subst hst
  intro T hT X
  obtain ⟨v', st₀, t, T', L, h0, X', hL, e1, e2, hQ, stp⟩ := (va_runV S hM cw ⟨gP_blind, va_recv hK hw.1 hc he, fun U hU hW => ⟨rfl, by rw [hU]; exact hw.1, va_K.moved hW.alike hK, hw.2.1, fun q hq => hA q (Nat.le_trans (by rw [hU] at hq; exact hw.2.2.1) (by rw [hU] at hq; exact hq))⟩⟩ rfl hn hsize rfl (lv_room hW) hdg hf) T hT X
  obtain ⟨v2, w1, hv, hpost, hP1, hD1, hz, hk⟩ := hQ
  cases hv
  rw [h0] at hz hk
  obtain ⟨t2, a1, b1⟩ := k T'.heap (locs ++ L) _ w1 hpost ⟨by rw [e1]; exact hP1, hD1, Nat.le_trans hw.2.2.1 (by rw [e1]; exact hz), fun q h1 h2 => by rw [e1, hk q (Nat.lt_of_lt_of_le h1 hw.2.2.1) h2]; exact hw.2.2.2.1 q h1 h2, fun q hq => by
      rcases List.mem_append.mp hq with h | h
      · exact hw.2.2.2.2 q h
      · exact hL q h⟩ T' rfl X'
  exact ⟨t2, stp t2 a1, b1⟩
theorem q_wV0 {D : va_G} {cy : ClassId} {y : MethodName} {bytes : ByteArray} {maxL nL n index : Nat} {ret : Option FieldType} {ws : List Cond} {rm : Room} {Ts : List Cond} {own : String} {As st : List Value} {C : String} {T : u_T} {N ci : Nat} {fs : List Value} {b : Addr} {A : Nat → Prop} {w w1 : va_W} {v : Option Value} {st1 : List Value} 
    (S : CallFix p m c cc nL s args Ts own) (hM : Met l y ws rm (gP D cy (.ref b :: As) A w) (gQ D A v w1) 0 0 A) (cw : CallW R s args own C index y bytes maxL ret ws rm 0 0 n) (hK : va_K D vwCl [(cy, .int)] s) (hA : ∀ q, s.heap.size ≤ q → A q) (hw : wS D A w s H locs) (q0 : Nat) (he : w[q0]? = some (b, .inr (ci, fs))) (hc : vwCl[ci]? = some (C, T, N)) (hn : As.length = n) (hsize : ls.size = nL) (hst : st = As.reverse ++ .ref b :: rest) (hst1 : v.toList ++ rest = st1) (hW : (rest.map fun v => v.category).sum ≤ 8) (hf : cells + 0 ≤ R.cells ∧ slots + 0 ≤ R.slots) (hdg : decode cc pc = .ok (.invokevirtual index, 3))
    (k : ∀ (H : Heap) (locs : List Loc), wS D A w1 s H locs → W p l e R s m args below meth c H locs cells slots Q (F0 m (pc + 3) ls st1)) : W p l e R s m args below meth c H locs cells slots Q (F0 m pc ls st) := by
  subst hst
  intro T hT X
  obtain ⟨v', st₀, t, T', L, h0, X', hL, e1, e2, hQ, stp⟩ := (va_runV S hM cw ⟨gP_blind, va_recv hK hw.1 hc he, fun U hU hW => ⟨rfl, by rw [hU]; exact hw.1, va_K.moved hW.alike hK, hw.2.1, fun q hq => hA q (Nat.le_trans (by rw [hU] at hq; exact hw.2.2.1) (by rw [hU] at hq; exact hq))⟩⟩ rfl hn hsize rfl (lv_room hW) hdg hf) T hT X
  obtain ⟨hv, hP1, hD1, hz, hk⟩ := hQ
  cases hv
  subst hst1
  rw [h0] at hz hk
  obtain ⟨t2, a1, b1⟩ := k T'.heap (locs ++ L) ⟨by rw [e1]; exact hP1, hD1, Nat.le_trans hw.2.2.1 (by rw [e1]; exact hz), fun q h1 h2 => by rw [e1, hk q (Nat.lt_of_lt_of_le h1 hw.2.2.1) h2]; exact hw.2.2.2.1 q h1 h2, fun q hq => by
      rcases List.mem_append.mp hq with h | h
      · exact hw.2.2.2.2 q h
      · exact hL q h⟩ T' rfl X'
  exact ⟨t2, stp t2 a1, b1⟩
theorem q_wVE0 {D : va_G} {cy : ClassId} {y : MethodName} {bytes : ByteArray} {maxL nL n index : Nat} {ret : Option FieldType} {ws : List Cond} {rm : Room} {Ts : List Cond} {own : String} {As st : List Value} {C : String} {T : u_T} {N ci : Nat} {fs : List Value} {b : Addr} {A : Nat → Prop} {w : va_W} {post : Option Value → va_W → Prop} 
    (S : CallFix p m c cc nL s args Ts own) (hM : Met l y ws rm (gP D cy (.ref b :: As) A w) (gE D A post) 0 0 A) (cw : CallW R s args own C index y bytes maxL ret ws rm 0 0 n) (hK : va_K D vwCl [(cy, .int)] s) (hA : ∀ q, s.heap.size ≤ q → A q) (hw : wS D A w s H locs) (q0 : Nat) (he : w[q0]? = some (b, .inr (ci, fs))) (hc : vwCl[ci]? = some (C, T, N)) (hn : As.length = n) (hsize : ls.size = nL) (hst : st = As.reverse ++ .ref b :: rest) (hW : (rest.map fun v => v.category).sum ≤ 8) (hf : cells + 0 ≤ R.cells ∧ slots + 0 ≤ R.slots) (hdg : decode cc pc = .ok (.invokevirtual index, 3))
    (k : ∀ (H : Heap) (locs : List Loc) (v : Option Value) (w1 : va_W), post v w1 → wS D A w1 s H locs → W p l e R s m args below meth c H locs cells slots Q (F0 m (pc + 3) ls (v.toList ++ rest))) : W p l e R s m args below meth c H locs cells slots Q (F0 m pc ls st) := by
  subst hst
  intro T hT X
  obtain ⟨v', st₀, t, T', L, h0, X', hL, e1, e2, hQ, stp⟩ := (va_runV S hM cw ⟨gP_blind, va_recv hK hw.1 hc he, fun U hU hW => ⟨rfl, by rw [hU]; exact hw.1, va_K.moved hW.alike hK, hw.2.1, fun q hq => hA q (Nat.le_trans (by rw [hU] at hq; exact hw.2.2.1) (by rw [hU] at hq; exact hq))⟩⟩ rfl hn hsize rfl (lv_room hW) hdg hf) T hT X
  obtain ⟨v2, w1, hv, hpost, hP1, hD1, hz, hk⟩ := hQ
  cases hv
  rw [h0] at hz hk
  obtain ⟨t2, a1, b1⟩ := k T'.heap (locs ++ L) _ w1 hpost ⟨by rw [e1]; exact hP1, hD1, Nat.le_trans hw.2.2.1 (by rw [e1]; exact hz), fun q h1 h2 => by rw [e1, hk q (Nat.lt_of_lt_of_le h1 hw.2.2.1) h2]; exact hw.2.2.2.1 q h1 h2, fun q hq => by
      rcases List.mem_append.mp hq with h | h
      · exact hw.2.2.2.2 q h
      · exact hL q h⟩ T' rfl X'
  exact ⟨t2, stp t2 a1, b1⟩
theorem q_wS {D : va_G} {cy : ClassId} {y : MethodName} {bytes : ByteArray} {maxL nL n index : Nat} {ret : Option FieldType} {ws : List Cond} {rm : Room} {Ts : List Cond} {own : String} {As st : List Value}  {A : Nat → Prop} {w w1 : va_W} {v : Option Value} {st1 : List Value} {mc ms : Nat}
    (S : CallFix p m c cc nL s args Ts own) (hM : Met l y ws rm (gP D cy As A w) (gQ D A v w1) mc ms A) (cw : CallB R s args own index y bytes maxL ret ws rm mc ms n ∧ (Cond.static y).before args s = true) (hK : va_K D vwCl [(cy, .int)] s) (hA : ∀ q, s.heap.size ≤ q → A q) (hw : wS D A w s H locs) (hn : As.length = n) (hsize : ls.size = nL) (hst : st = As.reverse ++ rest) (hst1 : v.toList ++ rest = st1) (hW : (rest.map fun v => v.category).sum ≤ 8) (hf : cells + mc ≤ R.cells ∧ slots + ms ≤ R.slots) (hdg : decode cc pc = .ok (.invokestatic index, 3))
    (k : ∀ (H : Heap) (locs : List Loc), wS D A w1 s H locs → W p l e R s m args below meth c H locs (cells + mc) (slots + ms) Q (F0 m (pc + 3) ls st1)) : W p l e R s m args below meth c H locs cells slots Q (F0 m pc ls st) := by
  subst hst
  intro T hT X
  obtain ⟨v', st₀, t, T', L, h0, X', hL, e1, e2, hQ, stp⟩ := (va_runS S hM cw ⟨gP_blind, fun U hU hW => ⟨rfl, by rw [hU]; exact hw.1, va_K.moved hW.alike hK, hw.2.1, fun q hq => hA q (Nat.le_trans (by rw [hU] at hq; exact hw.2.2.1) (by rw [hU] at hq; exact hq))⟩⟩ rfl hn hsize rfl (lv_room hW) hdg hf) T hT X
  obtain ⟨hv, hP1, hD1, hz, hk⟩ := hQ
  cases hv
  subst hst1
  rw [h0] at hz hk
  obtain ⟨t2, a1, b1⟩ := k T'.heap (locs ++ L) ⟨by rw [e1]; exact hP1, hD1, Nat.le_trans hw.2.2.1 (by rw [e1]; exact hz), fun q h1 h2 => by rw [e1, hk q (Nat.lt_of_lt_of_le h1 hw.2.2.1) h2]; exact hw.2.2.2.1 q h1 h2, fun q hq => by
      rcases List.mem_append.mp hq with h | h
      · exact hw.2.2.2.2 q h
      · exact hL q h⟩ T' rfl X'
  exact ⟨t2, stp t2 a1, b1⟩
theorem q_wSE {D : va_G} {cy : ClassId} {y : MethodName} {bytes : ByteArray} {maxL nL n index : Nat} {ret : Option FieldType} {ws : List Cond} {rm : Room} {Ts : List Cond} {own : String} {As st : List Value}  {A : Nat → Prop} {w : va_W} {post : Option Value → va_W → Prop} {mc ms : Nat}
    (S : CallFix p m c cc nL s args Ts own) (hM : Met l y ws rm (gP D cy As A w) (gE D A post) mc ms A) (cw : CallB R s args own index y bytes maxL ret ws rm mc ms n ∧ (Cond.static y).before args s = true) (hK : va_K D vwCl [(cy, .int)] s) (hA : ∀ q, s.heap.size ≤ q → A q) (hw : wS D A w s H locs) (hn : As.length = n) (hsize : ls.size = nL) (hst : st = As.reverse ++ rest) (hW : (rest.map fun v => v.category).sum ≤ 8) (hf : cells + mc ≤ R.cells ∧ slots + ms ≤ R.slots) (hdg : decode cc pc = .ok (.invokestatic index, 3))
    (k : ∀ (H : Heap) (locs : List Loc) (v : Option Value) (w1 : va_W), post v w1 → wS D A w1 s H locs → W p l e R s m args below meth c H locs (cells + mc) (slots + ms) Q (F0 m (pc + 3) ls (v.toList ++ rest))) : W p l e R s m args below meth c H locs cells slots Q (F0 m pc ls st) := by
  subst hst
  intro T hT X
  obtain ⟨v', st₀, t, T', L, h0, X', hL, e1, e2, hQ, stp⟩ := (va_runS S hM cw ⟨gP_blind, fun U hU hW => ⟨rfl, by rw [hU]; exact hw.1, va_K.moved hW.alike hK, hw.2.1, fun q hq => hA q (Nat.le_trans (by rw [hU] at hq; exact hw.2.2.1) (by rw [hU] at hq; exact hq))⟩⟩ rfl hn hsize rfl (lv_room hW) hdg hf) T hT X
  obtain ⟨v2, w1, hv, hpost, hP1, hD1, hz, hk⟩ := hQ
  cases hv
  rw [h0] at hz hk
  obtain ⟨t2, a1, b1⟩ := k T'.heap (locs ++ L) _ w1 hpost ⟨by rw [e1]; exact hP1, hD1, Nat.le_trans hw.2.2.1 (by rw [e1]; exact hz), fun q h1 h2 => by rw [e1, hk q (Nat.lt_of_lt_of_le h1 hw.2.2.1) h2]; exact hw.2.2.2.1 q h1 h2, fun q hq => by
      rcases List.mem_append.mp hq with h | h
      · exact hw.2.2.2.2 q h
      · exact hL q h⟩ T' rfl X'
  exact ⟨t2, stp t2 a1, b1⟩
theorem q_wS0 {D : va_G} {cy : ClassId} {y : MethodName} {bytes : ByteArray} {maxL nL n index : Nat} {ret : Option FieldType} {ws : List Cond} {rm : Room} {Ts : List Cond} {own : String} {As st : List Value}  {A : Nat → Prop} {w w1 : va_W} {v : Option Value} {st1 : List Value} 
    (S : CallFix p m c cc nL s args Ts own) (hM : Met l y ws rm (gP D cy As A w) (gQ D A v w1) 0 0 A) (cw : CallB R s args own index y bytes maxL ret ws rm 0 0 n ∧ (Cond.static y).before args s = true) (hK : va_K D vwCl [(cy, .int)] s) (hA : ∀ q, s.heap.size ≤ q → A q) (hw : wS D A w s H locs) (hn : As.length = n) (hsize : ls.size = nL) (hst : st = As.reverse ++ rest) (hst1 : v.toList ++ rest = st1) (hW : (rest.map fun v => v.category).sum ≤ 8) (hf : cells + 0 ≤ R.cells ∧ slots + 0 ≤ R.slots) (hdg : decode cc pc = .ok (.invokestatic index, 3))
    (k : ∀ (H : Heap) (locs : List Loc), wS D A w1 s H locs → W p l e R s m args below meth c H locs cells slots Q (F0 m (pc + 3) ls st1)) : W p l e R s m args below meth c H locs cells slots Q (F0 m pc ls st) := by
  subst hst
  intro T hT X
  obtain ⟨v', st₀, t, T', L, h0, X', hL, e1, e2, hQ, stp⟩ := (va_runS S hM cw ⟨gP_blind, fun U hU hW => ⟨rfl, by rw [hU]; exact hw.1, va_K.moved hW.alike hK, hw.2.1, fun q hq => hA q (Nat.le_trans (by rw [hU] at hq; exact hw.2.2.1) (by rw [hU] at hq; exact hq))⟩⟩ rfl hn hsize rfl (lv_room hW) hdg hf) T hT X
  obtain ⟨hv, hP1, hD1, hz, hk⟩ := hQ
  cases hv
  subst hst1
  rw [h0] at hz hk
  obtain ⟨t2, a1, b1⟩ := k T'.heap (locs ++ L) ⟨by rw [e1]; exact hP1, hD1, Nat.le_trans hw.2.2.1 (by rw [e1]; exact hz), fun q h1 h2 => by rw [e1, hk q (Nat.lt_of_lt_of_le h1 hw.2.2.1) h2]; exact hw.2.2.2.1 q h1 h2, fun q hq => by
      rcases List.mem_append.mp hq with h | h
      · exact hw.2.2.2.2 q h
      · exact hL q h⟩ T' rfl X'
  exact ⟨t2, stp t2 a1, b1⟩
theorem q_wSE0 {D : va_G} {cy : ClassId} {y : MethodName} {bytes : ByteArray} {maxL nL n index : Nat} {ret : Option FieldType} {ws : List Cond} {rm : Room} {Ts : List Cond} {own : String} {As st : List Value}  {A : Nat → Prop} {w : va_W} {post : Option Value → va_W → Prop} 
    (S : CallFix p m c cc nL s args Ts own) (hM : Met l y ws rm (gP D cy As A w) (gE D A post) 0 0 A) (cw : CallB R s args own index y bytes maxL ret ws rm 0 0 n ∧ (Cond.static y).before args s = true) (hK : va_K D vwCl [(cy, .int)] s) (hA : ∀ q, s.heap.size ≤ q → A q) (hw : wS D A w s H locs) (hn : As.length = n) (hsize : ls.size = nL) (hst : st = As.reverse ++ rest) (hW : (rest.map fun v => v.category).sum ≤ 8) (hf : cells + 0 ≤ R.cells ∧ slots + 0 ≤ R.slots) (hdg : decode cc pc = .ok (.invokestatic index, 3))
    (k : ∀ (H : Heap) (locs : List Loc) (v : Option Value) (w1 : va_W), post v w1 → wS D A w1 s H locs → W p l e R s m args below meth c H locs cells slots Q (F0 m (pc + 3) ls (v.toList ++ rest))) : W p l e R s m args below meth c H locs cells slots Q (F0 m pc ls st) := by
  subst hst
  intro T hT X
  obtain ⟨v', st₀, t, T', L, h0, X', hL, e1, e2, hQ, stp⟩ := (va_runS S hM cw ⟨gP_blind, fun U hU hW => ⟨rfl, by rw [hU]; exact hw.1, va_K.moved hW.alike hK, hw.2.1, fun q hq => hA q (Nat.le_trans (by rw [hU] at hq; exact hw.2.2.1) (by rw [hU] at hq; exact hq))⟩⟩ rfl hn hsize rfl (lv_room hW) hdg hf) T hT X
  obtain ⟨v2, w1, hv, hpost, hP1, hD1, hz, hk⟩ := hQ
  cases hv
  rw [h0] at hz hk
  obtain ⟨t2, a1, b1⟩ := k T'.heap (locs ++ L) _ w1 hpost ⟨by rw [e1]; exact hP1, hD1, Nat.le_trans hw.2.2.1 (by rw [e1]; exact hz), fun q h1 h2 => by rw [e1, hk q (Nat.lt_of_lt_of_le h1 hw.2.2.1) h2]; exact hw.2.2.2.1 q h1 h2, fun q hq => by
      rcases List.mem_append.mp hq with h | h
      · exact hw.2.2.2.2 q h
      · exact hL q h⟩ T' rfl X'
  exact ⟨t2, stp t2 a1, b1⟩
theorem q_wI {D : va_G} {cy : ClassId} {y : MethodName} {bytes : ByteArray} {maxL nL n index : Nat} {ret : Option FieldType} {ws : List Cond} {rm : Room} {Ts : List Cond} {own : String} {As st : List Value} {b : Addr} {A : Nat → Prop} {w w1 : va_W} {v : Option Value} {st1 : List Value} {mc ms : Nat}
    (S : CallFix p m c cc nL s args Ts own) (hM : Met l y ws rm (gP D cy (.ref b :: As) A w) (gQ D A v w1) mc ms A) (cw : CallB R s args own index y bytes maxL none ws rm mc ms n ∧ y.name = "<init>" ∧ (Cond.instanceMethod y).before args s = true) (hK : va_K D vwCl [(cy, .int)] s) (hA : ∀ q, s.heap.size ≤ q → A q) (hw : wS D A w s H locs) (hn : As.length = n) (hsize : ls.size = nL) (hst : st = As.reverse ++ .ref b :: rest) (hst1 : v.toList ++ rest = st1) (hW : (rest.map fun v => v.category).sum ≤ 8) (hf : cells + mc ≤ R.cells ∧ slots + ms ≤ R.slots) (hdg : decode cc pc = .ok (.invokespecial index, 3))
    (k : ∀ (H : Heap) (locs : List Loc), wS D A w1 s H locs → W p l e R s m args below meth c H locs (cells + mc) (slots + ms) Q (F0 m (pc + 3) ls st1)) : W p l e R s m args below meth c H locs cells slots Q (F0 m pc ls st) := by
  subst hst
  intro T hT X
  obtain ⟨v', st₀, t, T', L, h0, X', hL, e1, e2, hQ, stp⟩ := (va_runI S hM cw ⟨gP_blind, fun U hU hW => ⟨rfl, by rw [hU]; exact hw.1, va_K.moved hW.alike hK, hw.2.1, fun q hq => hA q (Nat.le_trans (by rw [hU] at hq; exact hw.2.2.1) (by rw [hU] at hq; exact hq))⟩⟩ rfl hn hsize rfl (lv_room hW) hdg hf) T hT X
  obtain ⟨hv, hP1, hD1, hz, hk⟩ := hQ
  cases hv
  subst hst1
  rw [h0] at hz hk
  obtain ⟨t2, a1, b1⟩ := k T'.heap (locs ++ L) ⟨by rw [e1]; exact hP1, hD1, Nat.le_trans hw.2.2.1 (by rw [e1]; exact hz), fun q h1 h2 => by rw [e1, hk q (Nat.lt_of_lt_of_le h1 hw.2.2.1) h2]; exact hw.2.2.2.1 q h1 h2, fun q hq => by
      rcases List.mem_append.mp hq with h | h
      · exact hw.2.2.2.2 q h
      · exact hL q h⟩ T' rfl X'
  exact ⟨t2, stp t2 a1, b1⟩
theorem q_wIE {D : va_G} {cy : ClassId} {y : MethodName} {bytes : ByteArray} {maxL nL n index : Nat} {ret : Option FieldType} {ws : List Cond} {rm : Room} {Ts : List Cond} {own : String} {As st : List Value} {b : Addr} {A : Nat → Prop} {w : va_W} {post : Option Value → va_W → Prop} {mc ms : Nat}
    (S : CallFix p m c cc nL s args Ts own) (hM : Met l y ws rm (gP D cy (.ref b :: As) A w) (gE D A post) mc ms A) (cw : CallB R s args own index y bytes maxL none ws rm mc ms n ∧ y.name = "<init>" ∧ (Cond.instanceMethod y).before args s = true) (hK : va_K D vwCl [(cy, .int)] s) (hA : ∀ q, s.heap.size ≤ q → A q) (hw : wS D A w s H locs) (hn : As.length = n) (hsize : ls.size = nL) (hst : st = As.reverse ++ .ref b :: rest) (hW : (rest.map fun v => v.category).sum ≤ 8) (hf : cells + mc ≤ R.cells ∧ slots + ms ≤ R.slots) (hdg : decode cc pc = .ok (.invokespecial index, 3))
    (k : ∀ (H : Heap) (locs : List Loc) (v : Option Value) (w1 : va_W), post v w1 → wS D A w1 s H locs → W p l e R s m args below meth c H locs (cells + mc) (slots + ms) Q (F0 m (pc + 3) ls (v.toList ++ rest))) : W p l e R s m args below meth c H locs cells slots Q (F0 m pc ls st) := by
  subst hst
  intro T hT X
  obtain ⟨v', st₀, t, T', L, h0, X', hL, e1, e2, hQ, stp⟩ := (va_runI S hM cw ⟨gP_blind, fun U hU hW => ⟨rfl, by rw [hU]; exact hw.1, va_K.moved hW.alike hK, hw.2.1, fun q hq => hA q (Nat.le_trans (by rw [hU] at hq; exact hw.2.2.1) (by rw [hU] at hq; exact hq))⟩⟩ rfl hn hsize rfl (lv_room hW) hdg hf) T hT X
  obtain ⟨v2, w1, hv, hpost, hP1, hD1, hz, hk⟩ := hQ
  cases hv
  rw [h0] at hz hk
  obtain ⟨t2, a1, b1⟩ := k T'.heap (locs ++ L) _ w1 hpost ⟨by rw [e1]; exact hP1, hD1, Nat.le_trans hw.2.2.1 (by rw [e1]; exact hz), fun q h1 h2 => by rw [e1, hk q (Nat.lt_of_lt_of_le h1 hw.2.2.1) h2]; exact hw.2.2.2.1 q h1 h2, fun q hq => by
      rcases List.mem_append.mp hq with h | h
      · exact hw.2.2.2.2 q h
      · exact hL q h⟩ T' rfl X'
  exact ⟨t2, stp t2 a1, b1⟩
theorem q_wI0 {D : va_G} {cy : ClassId} {y : MethodName} {bytes : ByteArray} {maxL nL n index : Nat} {ret : Option FieldType} {ws : List Cond} {rm : Room} {Ts : List Cond} {own : String} {As st : List Value} {b : Addr} {A : Nat → Prop} {w w1 : va_W} {v : Option Value} {st1 : List Value} 
    (S : CallFix p m c cc nL s args Ts own) (hM : Met l y ws rm (gP D cy (.ref b :: As) A w) (gQ D A v w1) 0 0 A) (cw : CallB R s args own index y bytes maxL none ws rm 0 0 n ∧ y.name = "<init>" ∧ (Cond.instanceMethod y).before args s = true) (hK : va_K D vwCl [(cy, .int)] s) (hA : ∀ q, s.heap.size ≤ q → A q) (hw : wS D A w s H locs) (hn : As.length = n) (hsize : ls.size = nL) (hst : st = As.reverse ++ .ref b :: rest) (hst1 : v.toList ++ rest = st1) (hW : (rest.map fun v => v.category).sum ≤ 8) (hf : cells + 0 ≤ R.cells ∧ slots + 0 ≤ R.slots) (hdg : decode cc pc = .ok (.invokespecial index, 3))
    (k : ∀ (H : Heap) (locs : List Loc), wS D A w1 s H locs → W p l e R s m args below meth c H locs cells slots Q (F0 m (pc + 3) ls st1)) : W p l e R s m args below meth c H locs cells slots Q (F0 m pc ls st) := by
  subst hst
  intro T hT X
  obtain ⟨v', st₀, t, T', L, h0, X', hL, e1, e2, hQ, stp⟩ := (va_runI S hM cw ⟨gP_blind, fun U hU hW => ⟨rfl, by rw [hU]; exact hw.1, va_K.moved hW.alike hK, hw.2.1, fun q hq => hA q (Nat.le_trans (by rw [hU] at hq; exact hw.2.2.1) (by rw [hU] at hq; exact hq))⟩⟩ rfl hn hsize rfl (lv_room hW) hdg hf) T hT X
  obtain ⟨hv, hP1, hD1, hz, hk⟩ := hQ
  cases hv
  subst hst1
  rw [h0] at hz hk
  obtain ⟨t2, a1, b1⟩ := k T'.heap (locs ++ L) ⟨by rw [e1]; exact hP1, hD1, Nat.le_trans hw.2.2.1 (by rw [e1]; exact hz), fun q h1 h2 => by rw [e1, hk q (Nat.lt_of_lt_of_le h1 hw.2.2.1) h2]; exact hw.2.2.2.1 q h1 h2, fun q hq => by
      rcases List.mem_append.mp hq with h | h
      · exact hw.2.2.2.2 q h
      · exact hL q h⟩ T' rfl X'
  exact ⟨t2, stp t2 a1, b1⟩
theorem q_wIE0 {D : va_G} {cy : ClassId} {y : MethodName} {bytes : ByteArray} {maxL nL n index : Nat} {ret : Option FieldType} {ws : List Cond} {rm : Room} {Ts : List Cond} {own : String} {As st : List Value} {b : Addr} {A : Nat → Prop} {w : va_W} {post : Option Value → va_W → Prop} 
    (S : CallFix p m c cc nL s args Ts own) (hM : Met l y ws rm (gP D cy (.ref b :: As) A w) (gE D A post) 0 0 A) (cw : CallB R s args own index y bytes maxL none ws rm 0 0 n ∧ y.name = "<init>" ∧ (Cond.instanceMethod y).before args s = true) (hK : va_K D vwCl [(cy, .int)] s) (hA : ∀ q, s.heap.size ≤ q → A q) (hw : wS D A w s H locs) (hn : As.length = n) (hsize : ls.size = nL) (hst : st = As.reverse ++ .ref b :: rest) (hW : (rest.map fun v => v.category).sum ≤ 8) (hf : cells + 0 ≤ R.cells ∧ slots + 0 ≤ R.slots) (hdg : decode cc pc = .ok (.invokespecial index, 3))
    (k : ∀ (H : Heap) (locs : List Loc) (v : Option Value) (w1 : va_W), post v w1 → wS D A w1 s H locs → W p l e R s m args below meth c H locs cells slots Q (F0 m (pc + 3) ls (v.toList ++ rest))) : W p l e R s m args below meth c H locs cells slots Q (F0 m pc ls st) := by
  subst hst
  intro T hT X
  obtain ⟨v', st₀, t, T', L, h0, X', hL, e1, e2, hQ, stp⟩ := (va_runI S hM cw ⟨gP_blind, fun U hU hW => ⟨rfl, by rw [hU]; exact hw.1, va_K.moved hW.alike hK, hw.2.1, fun q hq => hA q (Nat.le_trans (by rw [hU] at hq; exact hw.2.2.1) (by rw [hU] at hq; exact hq))⟩⟩ rfl hn hsize rfl (lv_room hW) hdg hf) T hT X
  obtain ⟨v2, w1, hv, hpost, hP1, hD1, hz, hk⟩ := hQ
  cases hv
  rw [h0] at hz hk
  obtain ⟨t2, a1, b1⟩ := k T'.heap (locs ++ L) _ w1 hpost ⟨by rw [e1]; exact hP1, hD1, Nat.le_trans hw.2.2.1 (by rw [e1]; exact hz), fun q h1 h2 => by rw [e1, hk q (Nat.lt_of_lt_of_le h1 hw.2.2.1) h2]; exact hw.2.2.2.1 q h1 h2, fun q hq => by
      rcases List.mem_append.mp hq with h | h
      · exact hw.2.2.2.2 q h
      · exact hL q h⟩ T' rfl X'
  exact ⟨t2, stp t2 a1, b1⟩
end QL
theorem q_pure {l : Launch} {D : va_G} {cy : ClassId} {y : MethodName} {ws ws' : List Cond} {rm : Room} {cc : ByteArray} {maxL : Nat} {ret : Option FieldType} {av : List Value} {w : va_W} {r : Value} (hy : plainName y.cls = true) (hw : ws = Cond.code y cc maxL ret :: ws') (hlen : (lg_sl av).length ≤ maxL)
    (body : ∀ (p : Program) (e : Env) (s : State) (m : MethodId) (below : List Frame) (meth : Method) (c : Code) (ls : Array Slot), p.tables.exec = Jvm.exec → c.code = cc → meth.sig.returnType = ret → c.maxLocals = maxL → (∀ x ∈ ws, x.before av.toArray s = true) → s.vm.findClass y.cls = some m.cls → meth.locks = false → va_P D vwCl w s.heap → va_K D vwCl [(cy, .int)] s → lv_has ls maxL (lv_args 0 av) →
      W p l e rm s m av.toArray below meth c s.heap [] 0 0 (MQ below (k2_QcV r) av.toArray s 0 0 (fun _ => False)) (F0 m 0 ls [])) : Met l y ws rm (gR D cy av w) (k2_QcV r) 0 0 (fun _ => False) := by
  refine Met.ofW (cc := cc) (maxL := maxL) (ret := ret) hy hw ?_
  intro p e s m args below meth c s₁ B hml hv
  obtain ⟨rfl, hP, hK⟩ := hv
  rw [lg_entry_eq]
  exact body p e s m below meth c _ B.exec B.bytes B.returns hml (atoms_spec (ws := ws) B.pre) (findClass_of_methodNamed B.named) B.notSynchronized hP hK (lv_entry av hlen)
theorem q_imp {l : Launch} {D : va_G} {cy : ClassId} {y : MethodName} {ws ws' : List Cond} {rm : Room} {cc : ByteArray} {maxL : Nat} {ret : Option FieldType} {av : List Value} {A : Nat → Prop} {w : va_W} {Qc : Array Value → State → Outcome → State → Prop} {mc ms : Nat} (hy : plainName y.cls = true) (hw : ws = Cond.code y cc maxL ret :: ws') (hlen : (lg_sl av).length ≤ maxL)
    (body : ∀ (p : Program) (e : Env) (s : State) (m : MethodId) (below : List Frame) (meth : Method) (c : Code) (ls : Array Slot), p.tables.exec = Jvm.exec → c.code = cc → meth.sig.returnType = ret → c.maxLocals = maxL → (∀ x ∈ ws, x.before av.toArray s = true) → s.vm.findClass y.cls = some m.cls → meth.locks = false → wS D A w s s.heap [] → va_K D vwCl [(cy, .int)] s → (∀ q, s.heap.size ≤ q → A q) → lv_has ls maxL (lv_args 0 av) →
      W p l e rm s m av.toArray below meth c s.heap [] 0 0 (MQ below Qc av.toArray s mc ms A) (F0 m 0 ls [])) : Met l y ws rm (gP D cy av A w) Qc mc ms A := by
  refine Met.ofW (cc := cc) (maxL := maxL) (ret := ret) hy hw ?_
  intro p e s m args below meth c s₁ B hml hv
  obtain ⟨rfl, hP, hK, hD, hA⟩ := hv
  rw [lg_entry_eq]
  exact body p e s m below meth c _ B.exec B.bytes B.returns hml (atoms_spec (ws := ws) B.pre) (findClass_of_methodNamed B.named) B.notSynchronized ⟨hP, hD, va_S.rf⟩ hK hA (lv_entry av hlen)


