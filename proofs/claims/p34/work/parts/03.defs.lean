def spL : List Nat := [9, 27, 0, 18, 36, 10, 28, 45, 19, 37, 54, 29, 46, 1, 38, 55, 11, 47, 2, 20, 56, 3, 30, 12, 13, 39, 21, 22, 48, 31, 32, 57, 40, 41, 4, 49, 50, 14, 58, 59, 23, 5, 6, 15, 33, 16, 24, 42, 25, 34, 51, 35, 43, 60, 44, 52, 7, 53, 61, 17, 62, 8, 26]
def stL : List Nat := [0, 4, 6, 7, 11, 13, 14, 18, 20, 0, 1, 5, 7, 8, 12, 14, 15, 19, 1, 2, 6, 8, 9, 13, 15, 16, 20, 0, 2, 3, 7, 9, 10, 14, 16, 17, 1, 3, 4, 8, 10, 11, 15, 17, 18, 2, 4, 5, 9, 11, 12, 16, 18, 19, 3, 5, 6, 10, 12, 13, 17, 19, 20]
def unL : List Nat := [2, 1, 0, 0, 1, 2, 0, 2, 1, 0, 2, 1, 2, 0, 1, 1, 0, 2, 0, 2, 1, 2, 0, 1, 1, 0, 2, 1, 0, 2, 1, 2, 0, 2, 1, 0, 1, 0, 2, 1, 2, 0, 2, 1, 0, 1, 0, 2, 1, 2, 0, 2, 1, 0, 1, 0, 2, 1, 2, 0, 2, 1, 0]
/-- where the unit u of the stripe s lies: spT (3 s + u), 9 times the disc, and the place -/
def spT (k : Nat) : Nat := spL.getD k 0
def stT (k : Nat) : Nat := stL.getD k 0
def unT (k : Nat) : Nat := unL.getD k 0
/-- the other units of a unit's stripe -/
def nx (k st : Nat) : Nat := spT (3 * stT k + (unT k + st) % 3)
/-- an address' unit, its stripe's parity, the other data unit -/
def ad (a : Nat) : Nat := spT (3 * (a / 2) + a % 2)
def adP (a : Nat) : Nat := spT (3 * (a / 2) + 2)
def adO (a : Nat) : Nat := spT (3 * (a / 2) + (1 - a % 2))
/-- the disc of the member mm of a stripe -/
def mem (s mm : Nat) : Nat := (s + (if mm = 2 then 3 else mm)) % 7
def lies (s d : Nat) : Bool := decide (mem s 0 = d) || decide (mem s 1 = d) || decide (mem s 2 = d)
theorem spT_lt {k : Nat} (h : k < 63) : spT k < 63 := (show ∀ k, k < 63 → spT k < 63 by decide +kernel) k h
theorem stT_lt {k : Nat} (h : k < 63) : stT k < 21 := (show ∀ k, k < 63 → stT k < 21 by decide +kernel) k h
theorem unT_lt {k : Nat} (h : k < 63) : unT k < 3 := (show ∀ k, k < 63 → unT k < 3 by decide +kernel) k h
theorem st_spT {k : Nat} (h : k < 63) : stT (spT k) = k / 3 := (show ∀ k, k < 63 → stT (spT k) = k / 3 by decide +kernel) k h
theorem un_spT {k : Nat} (h : k < 63) : unT (spT k) = k % 3 := (show ∀ k, k < 63 → unT (spT k) = k % 3 by decide +kernel) k h
theorem sp_stun {k : Nat} (h : k < 63) : spT (3 * stT k + unT k) = k := (show ∀ k, k < 63 → spT (3 * stT k + unT k) = k by decide +kernel) k h
theorem nx_lt {k : Nat} (h : k < 63) (st : Nat) : nx k st < 63 := spT_lt (by have := stT_lt h; omega)
theorem ad_lt {a : Nat} (h : a < 42) : ad a < 63 := spT_lt (by omega)
theorem adP_lt {a : Nat} (h : a < 42) : adP a < 63 := spT_lt (by omega)
theorem adO_lt {a : Nat} (h : a < 42) : adO a < 63 := spT_lt (by omega)
theorem mem_lt (s mm : Nat) : mem s mm < 7 := Nat.mod_lt _ (by omega)
theorem sp_lt {s u : Nat} (hs : s < 21) (hu : u < 3) : spT (3 * s + u) < 63 := spT_lt (by omega)
/-- the units of a stripe lie on three discs -/
theorem nx_discs {k : Nat} (h : k < 63) : nx k 1 / 9 ≠ nx k 2 / 9 ∧ nx k 1 / 9 ≠ k / 9 ∧ nx k 2 / 9 ≠ k / 9 := (show ∀ k, k < 63 → (nx k 1 / 9 ≠ nx k 2 / 9 ∧ nx k 1 / 9 ≠ k / 9 ∧ nx k 2 / 9 ≠ k / 9) by decide +kernel) k h
/-- a unit is there -/
def th (σ : Nat → Int32) (k : Nat) : Bool := decide (nI (k % 9) < σ (63 + k / 9))
/-- it can be found by the others -/
def cf (σ : Nat → Int32) (k : Nat) : Bool := th σ (nx k 1) && th σ (nx k 2)
def lo (σ : Nat → Int32) (k : Nat) : Bool := !th σ k && !cf σ k
def fd (σ : Nat → Int32) (k : Nat) : Int32 := σ (nx k 1) ^^^ σ (nx k 2)
/-- what read would return -/
def kn (σ : Nat → Int32) (k : Nat) : Int32 := if lo σ k then -1 else if th σ k then σ k else fd σ k
def vis (σ : Nat → Int32) (k : Nat) : Int32 := if th σ k then σ k else -1
/-- a unit is read, is written: counts -/
def rdS (σ : Nat → Int32) (k : Nat) : Nat → Int32 := upd σ (70 + k / 9) (σ (70 + k / 9) + 1)
def wrS (σ : Nat → Int32) (k : Nat) (v : Int32) : Nat → Int32 := upd (upd σ (77 + k / 9) (σ (77 + k / 9) + 1)) k v
def f2S (σ : Nat → Int32) (k : Nat) : Nat → Int32 := rdS (rdS σ (nx k 1)) (nx k 2)
/-- how many below n -/
def cntB (f : Nat → Bool) : Nat → Nat
  | 0 => 0
  | n + 1 => cntB f n + (if f n then 1 else 0)
theorem cntB_le (f : Nat → Bool) (n : Nat) : cntB f n ≤ n := by
  induction n with
  | zero => exact Nat.le_refl 0
  | succ n ih => simp only [cntB]; split <;> omega
theorem cntB_congr {f g : Nat → Bool} {n : Nat} (h : ∀ i, i < n → f i = g i) : cntB f n = cntB g n := by
  induction n with
  | zero => rfl
  | succ n ih => simp only [cntB, ih (fun i hi => h i (by omega)), h n (by omega)]
/-- lost addresses -/
def cl (σ : Nat → Int32) : Nat := cntB (fun a => lo σ (ad a)) 42
/-- a disc fails -/
def failS (σ : Nat → Int32) (d : Nat) : Nat → Int32 := fun i => if i = 63 + d then -1 else if 9 * d ≤ i ∧ i < 9 * d + 9 then 0 else σ i
/-- on the way: n of its units are zero -/
def failN (σ : Nat → Int32) (d n : Nat) : Nat → Int32 := fun i => if i = 63 + d then -1 else if 9 * d ≤ i ∧ i < 9 * d + n then 0 else σ i
theorem failN_0 (σ : Nat → Int32) (d : Nat) : upd σ (63 + d) (-1) = failN σ d 0 := by
  funext j
  simp only [upd, failN]
  by_cases h : j = 63 + d
  · simp [h]
  · have h2 : ¬ (9 * d ≤ j ∧ j < 9 * d + 0) := by omega
    simp only [h, h2, if_false]
theorem failN_s (σ : Nat → Int32) {d n : Nat} (hd : d < 7) (hn : n < 9) : upd (failN σ d n) (9 * d + n) 0 = failN σ d (n + 1) := by
  funext j
  simp only [upd, failN]
  by_cases h : j = 9 * d + n
  · have h1 : ¬ j = 63 + d := by omega
    have h2 : 9 * d ≤ j ∧ j < 9 * d + (n + 1) := by omega
    rw [if_pos h, if_neg h1, if_pos h2]
  · have h3 : (9 * d ≤ j ∧ j < 9 * d + (n + 1)) ↔ (9 * d ≤ j ∧ j < 9 * d + n) := by omega
    simp only [h, h3, if_false]
/-- a row copied into another one: n of its numbers, from the place st on -/
def cpK (g f : Nat → Int32) (st n : Nat) : Nat → Int32 := fun i => if st ≤ i ∧ i < st + n then f (i - st) else g i
theorem cpK_0 (g f : Nat → Int32) (st : Nat) : cpK g f st 0 = g := by
  funext j
  have h : ¬ (st ≤ j ∧ j < st + 0) := by omega
  simp only [cpK, h, if_false]
theorem cpK_s (g f : Nat → Int32) (st n : Nat) : upd (cpK g f st n) (st + n) (f n) = cpK g f st (n + 1) := by
  funext j
  simp only [upd, cpK]
  by_cases h : j = st + n
  · have h2 : st ≤ j ∧ j < st + (n + 1) := by omega
    have h3 : j - st = n := by omega
    simp only [if_pos h, if_pos h2, h3]
  · have h3 : (st ≤ j ∧ j < st + (n + 1)) ↔ (st ≤ j ∧ j < st + n) := by omega
    simp only [h, h3, if_false]
/-- a row filled out of another one, from its place st on -/
def cpF (g f : Nat → Int32) (st n : Nat) : Nat → Int32 := fun i => if i < n then f (st + i) else g i
theorem cpF_0 (g f : Nat → Int32) (st : Nat) : cpF g f st 0 = g := by
  funext j
  simp only [cpF, Nat.not_lt_zero, if_false]
theorem cpF_s (g f : Nat → Int32) (st n : Nat) : upd (cpF g f st n) n (f (st + n)) = cpF g f st (n + 1) := by
  funext j
  simp only [upd, cpF]
  by_cases h : j = n
  · have h2 : j < n + 1 := by omega
    rw [if_pos h, if_pos h2, h]
  · have h3 : (j < n + 1) ↔ (j < n) := by omega
    simp only [h, h3, if_false]
/-- mending begins -/
def begS (σ : Nat → Int32) (d : Nat) : Nat → Int32 := upd (upd σ 84 (σ 84 - 1)) (63 + d) 0
/-- a step of mending of the disc d -/
def mkS (σ : Nat → Int32) (d : Nat) : Nat := 9 * d + (σ (63 + d)).toNatClampNeg
def mendA (σ : Nat → Int32) (d : Nat) : Nat → Int32 := if cf σ (mkS σ d) then wrS (f2S σ (mkS σ d)) (mkS σ d) (fd σ (mkS σ d)) else upd σ 85 (σ 85 + 1)
def mendS (σ : Nat → Int32) (d : Nat) : Nat → Int32 := upd (mendA σ d) (63 + d) (mendA σ d (63 + d) + 1)
/-- it is being mended -/
def isM (σ : Nat → Int32) (d : Nat) : Bool := decide (σ (63 + d) ≠ -1) && decide (σ (63 + d) ≠ 9)
/-- the least one from d on, of n -/
def lmA (σ : Nat → Int32) : Nat → Nat → Nat
  | d, 0 => d
  | d, n + 1 => if isM σ d then d else lmA σ (d + 1) n
def lm (σ : Nat → Int32) : Nat := lmA σ 0 7
/-- steps of mending: the state, and how many were made -/
def mnS : Nat → (Nat → Int32) → (Nat → Int32) × Nat
  | 0, σ => (σ, 0)
  | n + 1, σ => if lm σ < 7 then ((mnS n (mendS σ (lm σ))).1, (mnS n (mendS σ (lm σ))).2 + 1) else (σ, 0)
/-- a stripe is whole, is wrong -/
def whl (σ : Nat → Int32) (s : Nat) : Bool := th σ (spT (3 * s)) && th σ (spT (3 * s + 1)) && th σ (spT (3 * s + 2))
def wrg (σ : Nat → Int32) (s : Nat) : Bool := whl σ s && decide ((σ (spT (3 * s)) ^^^ σ (spT (3 * s + 1))) ≠ σ (spT (3 * s + 2)))
def cw (σ : Nat → Int32) : Nat := cntB (wrg σ) 21
/-- scrubbing the stripe s: the three reads; the write if it is wrong -/
def scR (σ : Nat → Int32) (s : Nat) : Nat → Int32 := rdS (rdS (rdS σ (spT (3 * s))) (spT (3 * s + 1))) (spT (3 * s + 2))
def scA (σ : Nat → Int32) (s : Nat) : Nat → Int32 := if whl σ s then (if wrg σ s then wrS (scR σ s) (spT (3 * s + 2)) (σ (spT (3 * s)) ^^^ σ (spT (3 * s + 1))) else scR σ s) else σ
def scS (σ : Nat → Int32) : Nat → (Nat → Int32)
  | 0 => σ
  | n + 1 => scA (scS σ n) n
def scC (σ : Nat → Int32) : Nat → Nat
  | 0 => 0
  | n + 1 => scC σ n + (if wrg (scS σ n) n then 1 else 0)
/-- a write to an address: possible; the state; the units read and written -/
def canW (σ : Nat → Int32) (a : Nat) : Bool := !lo σ (ad a)
def wD (σ : Nat → Int32) (a : Nat) (v : Int32) : Nat → Int32 := if th σ (ad a) then (if th σ (adP a) then wrS (wrS (rdS (rdS σ (ad a)) (adP a)) (ad a) v) (adP a) (σ (adP a) ^^^ (σ (ad a) ^^^ v)) else wrS σ (ad a) v) else wrS (rdS σ (adO a)) (adP a) (σ (adO a) ^^^ v)
def wC (σ : Nat → Int32) (a : Nat) : Nat := if th σ (ad a) then (if th σ (adP a) then 4 else 1) else 2
/-- the worst sound disc among the first n: its number and its count -/
def wst (σ : Nat → Int32) : Nat → Int32 × Int32
  | 0 => (-1, -1)
  | n + 1 => if σ (63 + n) = 9 ∧ (wst σ n).2 < nI (cl (failS σ n)) then (nI n, nI (cl (failS σ n))) else wst σ n
/-- least and greatest reads of the first n + 1 discs -/
def mnR (σ : Nat → Int32) : Nat → Int32
  | 0 => σ 70
  | n + 1 => if σ (70 + (n + 1)) < mnR σ n then σ (70 + (n + 1)) else mnR σ n
def mxR (σ : Nat → Int32) : Nat → Int32
  | 0 => σ 70
  | n + 1 => if mxR σ n < σ (70 + (n + 1)) then σ (70 + (n + 1)) else mxR σ n
/-- stripes on both of two discs -/
def both (d o : Nat) : Nat := cntB (fun s => lies s d && lies s o) 21
/-- hash -/
def hx1 (h : Int64) (v : Int32) : Int64 := 31 * h + v.toInt64
def hxD (σ : Nat → Int32) (h : Int64) : Nat → Int64
  | 0 => h
  | n + 1 => hx1 (hx1 (hx1 (hx1 (hxD σ h n) (σ (63 + n))) (σ (70 + n))) (σ (77 + n))) (nI (cl (failS σ n)))
def hxA (σ : Nat → Int32) (h : Int64) : Nat → Int64
  | 0 => h
  | n + 1 => hx1 (hxA σ h n) (kn σ (ad n))
def hxU (σ : Nat → Int32) (h : Int64) : Nat → Int64
  | 0 => h
  | n + 1 => hx1 (hxU σ h n) (vis σ n)
def dig (σ : Nat → Int32) : Int64 := hxU σ (hxA σ (hxD σ (hx1 (hx1 (hx1 (hx1 (hx1 4184 (nI (cl σ))) (nI (cw σ))) (σ 84)) (σ 85)) (wst σ 7).1) 7) 42) 63
def lyS : Nat → Int32 := fun k => nI (spT k)
def lyT : Nat → Int32 := fun k => nI (stT k)
def lyU : Nat → Int32 := fun k => nI (unT k)
/-- the array's cells: a their addresses, σ the state, kept nxt cnt the saved states, T len pos the buffer, ph le nu va the reader -/
def wX (cy : ClassId) (a : Nat → Nat) (σ kept : Nat → Int32) (nxt cnt : Nat) (T : Nat → Int32) (len pos : Nat) (ph le nu va : Int32) : va_W :=
  [(a 0, .inr (6, [.ref (a 1), .ref (a 8), .ref (a 11), .ref (a 14)])),
   (a 1, .inr (1, [.ref (a 2), .ref (a 4), .ref (a 6)])),
   (a 2, .inr (4, [.ref (a 3)])), (a 3, .inl (cy, 63, .inl lyS)),
   (a 4, .inr (4, [.ref (a 5)])), (a 5, .inl (cy, 63, .inl lyT)),
   (a 6, .inr (4, [.ref (a 7)])), (a 7, .inl (cy, 63, .inl lyU)),
   (a 8, .inr (5, [.ref (a 9)])), (a 9, .inr (4, [.ref (a 10)])), (a 10, .inl (cy, 86, .inl σ)),
   (a 11, .inr (0, [.ref (a 12), .int (nI nxt), .int (nI cnt)])), (a 12, .inr (4, [.ref (a 13)])), (a 13, .inl (cy, 516, .inl kept)),
   (a 14, .inr (3, [.ref (a 15), .ref (a 17), .int (nI len), .int (nI pos)])), (a 15, .inr (4, [.ref (a 16)])), (a 16, .inl (cy, 60, .inl T)),
   (a 17, .inr (2, [.int ph, .int le, .int nu, .int va]))]
/-- the reference's row: the same state, the discs' progress first -/
def mS (σ : Nat → Int32) : Nat → Int32 := fun k => if k < 7 then σ (63 + k) else if k < 70 then σ (k - 7) else σ k
/-- the reference's cells -/
def wM (cy : ClassId) (b : Nat → Nat) (s saved : Nat → Int32) (many : Nat) (bef T : Nat → Int32) (len thr at_ : Nat) (le f1 f2 : Int32) (dn : Nat) (hs : Int64) : va_W :=
  [(b 0, .inr (7, [.ref (b 1), .ref (b 2), .int (nI many), .ref (b 3), .ref (b 4), .int (nI len), .int (nI thr), .int (nI at_), .int le, .int f1, .int f2, .int (nI dn), .long hs])),
   (b 1, .inl (cy, 86, .inl s)), (b 2, .inl (cy, 516, .inl saved)), (b 3, .inl (cy, 86, .inl bef)), (b 4, .inl (cy, 60, .inl T))]
/-- progress from -1 to 9, units from 0 to 65535, spares from 0 to 5 -/
def Val (σ : Nat → Int32) : Prop := (∀ k, k < 63 → ∃ n : Nat, n < 65536 ∧ σ k = nI n) ∧ (∀ d, d < 7 → σ (63 + d) = -1 ∨ ∃ n : Nat, n ≤ 9 ∧ σ (63 + d) = nI n) ∧ ∃ n : Nat, n ≤ 5 ∧ σ 84 = nI n
/-- σ, with the disc wo taken as failed, has τ's units -/
def Wo (σ : Nat → Int32) (wo : Int32) (τ : Nat → Int32) : Prop := ∀ k, k < 63 → (decide (nI (k / 9) ≠ wo) && th σ k) = th τ k


