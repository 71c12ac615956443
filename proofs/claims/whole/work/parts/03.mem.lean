/-! The memory as the proof sees it: kinds, lengths, whole numbers, references, how many cells. Kinds 0 to 4: objects of vwCl; 5 int[], 6 boolean[], 7 Segment[], 8 int[][], 9 long[] (of numbers that fit an int); from 10 on: not ours -/
abbrev Mem : Type := (Nat → Nat) × (Nat → Nat) × (Nat → Nat → Int32) × (Nat → Nat → Option Nat) × Nat
def mK (m : Mem) : Nat → Nat := m.1
def mN (m : Mem) : Nat → Nat := m.2.1
def mI (m : Mem) : Nat → Nat → Int32 := m.2.2.1
def mR (m : Mem) : Nat → Nat → Option Nat := m.2.2.2.1
def mS (m : Mem) : Nat := m.2.2.2.2
def up2 {α : Type} (f : Nat → Nat → α) (a k : Nat) (v : α) : Nat → Nat → α := fun b j => if b = a ∧ j = k then v else f b j
def setI (m : Mem) (a k : Nat) (v : Int32) : Mem := (m.1, m.2.1, up2 m.2.2.1 a k v, m.2.2.2.1, m.2.2.2.2)
def setR (m : Mem) (a k : Nat) (v : Option Nat) : Mem := (m.1, m.2.1, m.2.2.1, up2 m.2.2.2.1 a k v, m.2.2.2.2)
def allo (m : Mem) (t n : Nat) : Mem := (fun b => if b = m.2.2.2.2 then t else m.1 b, fun b => if b = m.2.2.2.2 then n else m.2.1 b, fun b j => if b = m.2.2.2.2 then 0 else m.2.2.1 b j, fun b j => if b = m.2.2.2.2 then none else m.2.2.2.1 b j, m.2.2.2.2 + 1)
theorem mK_setI (m : Mem) (a k : Nat) (v : Int32) : mK (setI m a k v) = mK m := rfl
theorem mN_setI (m : Mem) (a k : Nat) (v : Int32) : mN (setI m a k v) = mN m := rfl
theorem mR_setI (m : Mem) (a k : Nat) (v : Int32) : mR (setI m a k v) = mR m := rfl
theorem mS_setI (m : Mem) (a k : Nat) (v : Int32) : mS (setI m a k v) = mS m := rfl
theorem mI_setI (m : Mem) (a k : Nat) (v : Int32) (b j : Nat) : mI (setI m a k v) b j = if b = a ∧ j = k then v else mI m b j := rfl
theorem mK_setR (m : Mem) (a k : Nat) (v : Option Nat) : mK (setR m a k v) = mK m := rfl
theorem mN_setR (m : Mem) (a k : Nat) (v : Option Nat) : mN (setR m a k v) = mN m := rfl
theorem mI_setR (m : Mem) (a k : Nat) (v : Option Nat) : mI (setR m a k v) = mI m := rfl
theorem mS_setR (m : Mem) (a k : Nat) (v : Option Nat) : mS (setR m a k v) = mS m := rfl
theorem mR_setR (m : Mem) (a k : Nat) (v : Option Nat) (b j : Nat) : mR (setR m a k v) b j = if b = a ∧ j = k then v else mR m b j := rfl
theorem mK_allo (m : Mem) (t n b : Nat) : mK (allo m t n) b = if b = mS m then t else mK m b := rfl
theorem mN_allo (m : Mem) (t n b : Nat) : mN (allo m t n) b = if b = mS m then n else mN m b := rfl
theorem mI_allo (m : Mem) (t n b j : Nat) : mI (allo m t n) b j = if b = mS m then 0 else mI m b j := rfl
theorem mR_allo (m : Mem) (t n b j : Nat) : mR (allo m t n) b j = if b = mS m then none else mR m b j := rfl
theorem mS_allo (m : Mem) (t n : Nat) : mS (allo m t n) = mS m + 1 := rfl
/-! A step of a program over that memory: an answer and the memory behind it, or none where the machine would throw or the proof's own bounds would be passed -/
abbrev HM (α : Type) : Type := Mem → Option (α × Mem)
def bnd {α β : Type} (x : HM α) (f : α → HM β) : HM β := fun m => match x m with
  | none => none
  | some (a, m') => f a m'
def rt {α : Type} (a : α) : HM α := fun m => some (a, m)
def rz (a : Int32) : HM Int32 := fun m => if a = 0 ∨ a = 1 then some (a, m) else none
def fl {α : Type} : HM α := fun _ => none
def ifc {α : Type} (c : Prop) [Decidable c] (x y : HM α) : HM α := fun m => if c then x m else y m
def ifn {α : Type} (r : Option Nat) (x : HM α) (y : Nat → HM α) : HM α := match r with
  | none => x
  | some a => y a
def gI (t a k : Nat) : HM Int32 := fun m => if mK m a = t then some (mI m a k, m) else none
def gR (t a k : Nat) : HM (Option Nat) := fun m => if mK m a = t then some (mR m a k, m) else none
def gN (t a k : Nat) : HM Nat := fun m => if mK m a = t then (match mR m a k with
  | none => none
  | some b => some (b, m)) else none
def pI (t a k : Nat) (v : Int32) : HM Unit := fun m => if mK m a = t then some ((), setI m a k v) else none
def pR (t a k : Nat) (v : Option Nat) : HM Unit := fun m => if mK m a = t then some ((), setR m a k v) else none
def lI (t a : Nat) (i : Int32) : HM Int32 := fun m => if mK m a = t ∧ ¬ (i < 0 ∨ mN m a ≤ i.toNatClampNeg) then some (mI m a i.toNatClampNeg, m) else none
def sI (t a : Nat) (i v : Int32) : HM Unit := fun m => if mK m a = t ∧ ¬ (i < 0 ∨ mN m a ≤ i.toNatClampNeg) then some ((), setI m a i.toNatClampNeg v) else none
def sZ (a : Nat) (i v : Int32) : HM Unit := fun m => if (mK m a = 6 ∧ ¬ (i < 0 ∨ mN m a ≤ i.toNatClampNeg)) ∧ (v = 0 ∨ v = 1) then some ((), setI m a i.toNatClampNeg v) else none
def lR (t a : Nat) (i : Int32) : HM Nat := fun m => if mK m a = t ∧ ¬ (i < 0 ∨ mN m a ≤ i.toNatClampNeg) then (match mR m a i.toNatClampNeg with
  | none => none
  | some b => some (b, m)) else none
def sR (a : Nat) (i : Int32) (x : Nat) : HM Unit := fun m => if (mK m a = 7 ∧ ¬ (i < 0 ∨ mN m a ≤ i.toNatClampNeg)) ∧ mK m x = 2 then some ((), setR m a i.toNatClampNeg (some x)) else none
def ln (t a : Nat) : HM Int32 := fun m => if mK m a = t then some (Int32.ofNat (mN m a), m) else none
def nO (t : Nat) : HM Nat := fun m => some (mS m, allo m t 0)
def nA (t B : Nat) (n : Int32) : HM Nat := fun m => if ¬ n < 0 ∧ n.toNatClampNeg ≤ B then some (mS m, allo m t n.toNatClampNeg) else none
def dv (x y : Int32) : HM Int32 := fun m => if y = 0 then none else some (x / y, m)
/-- new int[4][100] -/
def allo4 (m : Mem) : Mem := (fun b => if b = m.2.2.2.2 then 8 else if m.2.2.2.2 < b ∧ b ≤ m.2.2.2.2 + 4 then 5 else m.1 b, fun b => if b = m.2.2.2.2 then 4 else if m.2.2.2.2 < b ∧ b ≤ m.2.2.2.2 + 4 then 100 else m.2.1 b, fun b j => if m.2.2.2.2 ≤ b ∧ b ≤ m.2.2.2.2 + 4 then 0 else m.2.2.1 b j, fun b j => if b = m.2.2.2.2 then (if j < 4 then some (m.2.2.2.2 + 1 + j) else none) else if m.2.2.2.2 < b ∧ b ≤ m.2.2.2.2 + 4 then none else m.2.2.2.1 b j, m.2.2.2.2 + 5)
def n4 : HM Nat := fun m => some (mS m, allo4 m)
theorem mK_allo4 (m : Mem) (b : Nat) : mK (allo4 m) b = if b = mS m then 8 else if mS m < b ∧ b ≤ mS m + 4 then 5 else mK m b := rfl
theorem mN_allo4 (m : Mem) (b : Nat) : mN (allo4 m) b = if b = mS m then 4 else if mS m < b ∧ b ≤ mS m + 4 then 100 else mN m b := rfl
theorem mI_allo4 (m : Mem) (b j : Nat) : mI (allo4 m) b j = if mS m ≤ b ∧ b ≤ mS m + 4 then 0 else mI m b j := rfl
theorem mR_allo4 (m : Mem) (b j : Nat) : mR (allo4 m) b j = if b = mS m then (if j < 4 then some (mS m + 1 + j) else none) else if mS m < b ∧ b ≤ mS m + 4 then none else mR m b j := rfl
theorem mS_allo4 (m : Mem) : mS (allo4 m) = mS m + 5 := rfl
/-- System.arraycopy of whole int rows of 100 -/
def cpyI (m : Mem) (a b : Nat) : Mem := (m.1, m.2.1, fun c j => if c = b ∧ j < 100 then m.2.2.1 a j else m.2.2.1 c j, m.2.2.2.1, m.2.2.2.2)
def cp (a : Nat) (sp : Int32) (b : Nat) (dp n : Int32) : HM Unit := fun m => if (mK m a = 5 ∧ mK m b = 5 ∧ a ≠ b) ∧ (mN m a = 100 ∧ mN m b = 100) ∧ (sp = 0 ∧ dp = 0 ∧ n = 100) then some ((), cpyI m a b) else none
theorem mK_cpyI (m : Mem) (a b : Nat) : mK (cpyI m a b) = mK m := rfl
theorem mN_cpyI (m : Mem) (a b : Nat) : mN (cpyI m a b) = mN m := rfl
theorem mR_cpyI (m : Mem) (a b : Nat) : mR (cpyI m a b) = mR m := rfl
theorem mS_cpyI (m : Mem) (a b : Nat) : mS (cpyI m a b) = mS m := rfl
theorem mI_cpyI (m : Mem) (a b c j : Nat) : mI (cpyI m a b) c j = if c = b ∧ j < 100 then mI m a j else mI m c j := rfl
/-! what an equation 'program = some z' says -/
theorem bnd_inv {α β : Type} {x : HM α} {f : α → HM β} {m : Mem} {z : β × Mem} (h : bnd x f m = some z) : ∃ (a : α) (m' : Mem), x m = some (a, m') ∧ f a m' = some z := by
  unfold bnd at h
  cases hx : x m with
  | none => rw [hx] at h; cases h
  | some q => rw [hx] at h; exact ⟨q.1, q.2, rfl, h⟩
theorem ifc_t {α : Type} {c : Prop} {dc : Decidable c} {x y : HM α} {m : Mem} {z : α × Mem} (hc : c) (h : @ifc α c dc x y m = some z) : x m = some z := by
  unfold ifc at h
  rw [if_pos hc] at h
  exact h
theorem ifc_f {α : Type} {c : Prop} {dc : Decidable c} {x y : HM α} {m : Mem} {z : α × Mem} (hc : ¬ c) (h : @ifc α c dc x y m = some z) : y m = some z := by
  unfold ifc at h
  rw [if_neg hc] at h
  exact h
theorem ite_inv {α : Type} {c : Prop} {dc : Decidable c} {x : α} {z : α} (h : (@ite _ c dc (some x) none) = some z) : c ∧ x = z := by
  by_cases hc : c
  · rw [if_pos hc] at h; exact ⟨hc, Option.some.inj h⟩
  · rw [if_neg hc] at h; cases h
