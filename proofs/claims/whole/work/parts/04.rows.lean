/-! The heap as that memory has it, and a row for each kind of instruction that reads or writes it -/
def isIL : List (List Bool) := [[false, false, true], [true, false, false, true, true, true], [true, true, true, false, false, false, false, true], [false, false, false, true, true, true, true, false, false, false, false], [true, false, false, false, false, true, false, true, false, false, false, false, false, false, false, false, true, true, true, true, true, true, true, false, false, false, false, false, true, false, false, false, false, false]]
def isI (t k : Nat) : Bool := (isIL.getD t []).getD k false
def oV (t : Nat) (I : Nat → Int32) (Rf : Nat → Option Nat) (k : Nat) : Value := if isI t k = true then .int (I k) else va_rf (Rf k)
def aV (t : Nat) (I : Nat → Int32) (Rf : Nat → Option Nat) (j : Nat) : Value := if t = 5 ∨ t = 6 then .int (I j) else if t = 9 then .long (I j).toInt64 else va_rf (Rf j)
def tyA (t : Nat) : FieldType := if t = 5 then .int else if t = 6 then .boolean else if t = 7 then .object "SegmentMerges$Segment" else if t = 8 then .array .int else .long
def mC (D : va_G) (cA : Nat → ClassId) (m : Mem) (a : Nat) (H : Heap) : Prop :=
  (mK m a < 5 → ∃ r : vw_C, vwCl[mK m a]? = some r ∧ t_OB a (D.1 (mK m a)) r.2.2 (D.2 (mK m a)) H (oV (mK m a) (mI m a) (mR m a))) ∧
  (5 ≤ mK m a → mK m a < 10 → H[a]? = some (arrV (cA (mK m a)) (mN m a) (aV (mK m a) (mI m a) (mR m a))))
def mH (D : va_G) (cA : Nat → ClassId) (base : Nat) (m : Mem) (H : Heap) : Prop := H.size = mS m ∧ base ≤ mS m ∧ (∀ a, mK m a < 10 → base ≤ a ∧ a < mS m) ∧ ∀ a, mC D cA m a H
def mT (D : va_G) (cA : Nat → ClassId) (U : State) : Prop := (∀ (k : Nat) (q : vw_C), vwCl[k]? = some q → u_Kn U q.1 q.2.1 q.2.2 (D.1 k) (D.2 k)) ∧ (∀ t, 5 ≤ t → t < 10 → ArrOfT U (cA t) (tyA t) ∧ va_RA U (cA t) (tyA t)) ∧ va_AO "SegmentMerges$Segment" U ∧ (Cond.arrayOver (.array .int)).before #[] U = true ∧ va_Nw (.methodLinkNest RX3 15 yX0_init RX3) U
def mU (D : va_G) (cA : Nat → ClassId) (base : Nat) (m : Mem) (U : State) : Prop := mH D cA base m U.heap ∧ mT D cA U
def mA (base : Nat) : Nat → Prop := fun q => base ≤ q
theorem AOA_moved {u U : State} (hvm : u.vm.Alike U.vm) (h : (Cond.arrayOver (.array .int)).before #[] u = true) : (Cond.arrayOver (.array .int)).before #[] U = true := by
  obtain ⟨comp, c, k, h1, h2, h3, h4, h5⟩ := arrayOverA_spec h
  obtain ⟨k', hk', he⟩ := hvm.2.2 _ _ h3
  have hi : (U.vm.classes.findIdx? fun (x : Class) => match x.kind with | .array component _ => component == comp | _ => false) = some c := by
    rw [hvm.findIdx?_eq _ (fun _ => rfl)]; exact h2
  have hkind : k'.kind = .array comp (.array .int) := by rw [he]; exact h4
  have f1 : U.vm.findClass (FieldType.array .int).toString = some comp := by rw [hvm.findClass]; exact h1
  have f2 : U.vm.findClass ("[" ++ (FieldType.array .int).toString) = some c := by rw [hvm.findClass]; exact h5
  unfold Cond.before Cond.holds
  simp only [Cond.value]
  rw [f1, Option.bind_some]
  refine (congrArg (fun o : Option Nat => (o.bind (fun c => (U.vm.classes[c]?).map fun (k : Class) => match k.kind with | .array _ ty => decide (ty = FieldType.array .int) && decide (U.vm.findClass ("[" ++ (FieldType.array .int).toString) = some c) | _ => false) == some true)) hi).trans ?_
  simp [hk', hkind, f2]
theorem mT.moved {D : va_G} {cA : Nat → ClassId} {u U : State} (hW : u.WarmedH U.vm) (h : mT D cA u) : mT D cA U := ⟨fun c q hq => u_Kn_moved hW.alike (h.1 c q hq), fun t h1 h2 => ⟨arrOfT_moved hW.alike (h.2.1 t h1 h2).1, (h.2.1 t h1 h2).2.moved hW.alike⟩, va_AO.moved hW.alike h.2.2.1, AOA_moved hW.alike h.2.2.2.1, va_Nw.warmM hW h.2.2.2.2⟩
theorem mT.same {D : va_G} {cA : Nat → ClassId} {u U : State} (hvm : u.vm = U.vm) (h : mT D cA u) : mT D cA U := by
  have ha : u.vm.Alike U.vm := by rw [← hvm]; exact Vm.Alike.refl u.vm
  exact ⟨fun c q hq => u_Kn_moved ha (h.1 c q hq), fun t h1 h2 => ⟨arrOfT_moved ha (h.2.1 t h1 h2).1, (h.2.1 t h1 h2).2.moved ha⟩, va_AO.moved ha h.2.2.1, AOA_moved ha h.2.2.2.1, va_Nw.same rfl hvm h.2.2.2.2⟩
theorem mC_keep {D : va_G} {cA : Nat → ClassId} {m m' : Mem} {b : Nat} {H H' : Heap} (hK : mK m' b = mK m b) (hN : mN m' b = mN m b) (hI : mI m' b = mI m b) (hR : mR m' b = mR m b) (hh : mK m b < 10 → H'[b]? = H[b]?) (h : mC D cA m b H) : mC D cA m' b H' := by
  unfold mC at h ⊢
  rw [hK, hN, hI, hR]
  refine ⟨fun q => ?_, fun q1 q2 => (hh q2).trans (h.2 q1 q2)⟩
  obtain ⟨r, h1, h2⟩ := h.1 q
  exact ⟨r, h1, h2.kept (hh (by omega))⟩
theorem mH_set {D : va_G} {cA : Nat → ClassId} {base : Nat} {m m' : Mem} {a : Nat} {H H' : Heap} (h : mH D cA base m H) (hK : mK m' = mK m) (hN : mN m' = mN m) (hS : mS m' = mS m) (hI : ∀ b, b ≠ a → mI m' b = mI m b) (hR : ∀ b, b ≠ a → mR m' b = mR m b) (hz : H'.size = H.size) (ho : ∀ q, q ≠ a → H'[q]? = H[q]?) (ha : mC D cA m' a H') : mH D cA base m' H' := by
  obtain ⟨h1, h2, h3, h4⟩ := h
  refine ⟨by rw [hz, hS]; exact h1, by rw [hS]; exact h2, by rw [hK, hS]; exact h3, fun b => ?_⟩
  by_cases hb : b = a
  · subst hb; exact ha
  · exact mC_keep (by rw [hK]) (by rw [hN]) (hI b hb) (hR b hb) (fun _ => ho b hb) (h4 b)
theorem up2_ne {α : Type} {f : Nat → Nat → α} {a k : Nat} {v : α} {b : Nat} (h : b ≠ a) : up2 f a k v b = f b := by
  funext j
  simp [up2, h]
theorem mI_setI_ne {m : Mem} {a k : Nat} {v : Int32} {b : Nat} (h : b ≠ a) : mI (setI m a k v) b = mI m b := up2_ne h
theorem mR_setR_ne {m : Mem} {a k : Nat} {v : Option Nat} {b : Nat} (h : b ≠ a) : mR (setR m a k v) b = mR m b := up2_ne h
section MR
variable {p : Program} {l : Launch} {e : Env} {R : Room} {s : State} {m : MethodId} {args : Array Value} {below : List Frame} {meth : Method} {c : Code} {H : Heap} {locs : List Loc} {cells slots : Nat} {Q : State → Prop}
variable {cc : ByteArray} {nL pc : Nat} {ls : Array Slot} {rest : List Value} {D : va_G} {cA : Nat → ClassId} {base : Nat} {H0 : Heap} {Ts : List Cond} {own : String} {β : Type} {mm : Mem} {z : β × Mem}
theorem r_obj (hT : mT D cA s) (hH : mH D cA base mm H) {t a : Nat} {Cn : String} {T : u_T} {N : Nat} (hc : vwCl[t]? = some (Cn, T, N)) (ht : t < 5) (hk : mK mm a = t) : t_OB a (D.1 t) N (D.2 t) H (oV t (mI mm a) (mR mm a)) := by
  obtain ⟨r, hr, hq⟩ := (hH.2.2.2 a).1 (by rw [hk]; exact ht)
  rw [hk] at hr hq
  rw [Option.some.inj (hr.symm.trans hc)] at hq
  exact hq
theorem r_getf {t k a index : Nat} {Cn : String} {T : u_T} {N : Nat} (C : CallFix p m c cc nL s args Ts own) (hT : mT D cA s) (hH : mH D cA base mm H) (hc : vwCl[t]? = some (Cn, T, N)) (hin : ∀ w ∈ u_ws Cn T N, w ∈ Ts) (hk : k < N) (ht : t < 5) (hlink : Cond.fieldLink own index (T k).1 (T k).2.1 (T k).2.2.1 ∈ Ts) (hdg : decode cc pc = .ok (.getfield index, 3)) (hK : mK mm a = t)
    (kk : W p l e R s m args below meth c H locs cells slots Q (F0 m (pc + 3) ls (oV t (mI mm a) (mR mm a) k :: rest))) : W p l e R s m args below meth c H locs cells slots Q (F0 m pc ls (.ref a :: rest)) := by
  obtain ⟨cell, q1, q2, q3, q4⟩ := r_obj hT hH hc ht hK
  obtain ⟨hS, hfc, kC, hkC, hkind⟩ := hT.1 t _ hc
  obtain ⟨cf, kf, fi, f, hi, hsl⟩ := hS k hk
  refine W.getf C.1 C.2.1 C.2.2.2.1 (C.2.2.2.2 _ hlink) hi (u_facts hfc hkC (u_lays C.2.2.2.2 hin hk) hi).1 q1 (by rw [q3]; exact fun h => by cases h) ?_ rfl rfl hdg kk
  rw [hsl, q4 k hk]
theorem r_gI {K : Int32 → HM β} {t k a index : Nat} {Cn : String} {T : u_T} {N : Nat} (C : CallFix p m c cc nL s args Ts own) (hT : mT D cA s) (hH : mH D cA base mm H) (hc : vwCl[t]? = some (Cn, T, N)) (hin : ∀ w ∈ u_ws Cn T N, w ∈ Ts) (hk : k < N) (ht : t < 5) (hi : isI t k = true) (hlink : Cond.fieldLink own index (T k).1 (T k).2.1 (T k).2.2.1 ∈ Ts) (hdg : decode cc pc = .ok (.getfield index, 3)) (h : bnd (gI t a k) K mm = some z)
    (kk : ∀ v, K v mm = some z → W p l e R s m args below meth c H locs cells slots Q (F0 m (pc + 3) ls (.int v :: rest))) : W p l e R s m args below meth c H locs cells slots Q (F0 m pc ls (.ref a :: rest)) := by
  obtain ⟨v, m', h1, h2⟩ := bnd_inv h
  obtain ⟨hK, e1⟩ := ite_inv h1
  cases e1
  refine r_getf C hT hH hc hin hk ht hlink hdg hK ?_
  rw [show oV t (mI mm a) (mR mm a) k = .int (mI mm a k) by simp [oV, hi]]
  exact kk _ h2
theorem r_gR {K : Option Nat → HM β} {t k a index : Nat} {Cn : String} {T : u_T} {N : Nat} (C : CallFix p m c cc nL s args Ts own) (hT : mT D cA s) (hH : mH D cA base mm H) (hc : vwCl[t]? = some (Cn, T, N)) (hin : ∀ w ∈ u_ws Cn T N, w ∈ Ts) (hk : k < N) (ht : t < 5) (hi : isI t k = false) (hlink : Cond.fieldLink own index (T k).1 (T k).2.1 (T k).2.2.1 ∈ Ts) (hdg : decode cc pc = .ok (.getfield index, 3)) (h : bnd (gR t a k) K mm = some z)
    (kk : ∀ v, K v mm = some z → W p l e R s m args below meth c H locs cells slots Q (F0 m (pc + 3) ls (va_rf v :: rest))) : W p l e R s m args below meth c H locs cells slots Q (F0 m pc ls (.ref a :: rest)) := by
  obtain ⟨v, m', h1, h2⟩ := bnd_inv h
  obtain ⟨hK, e1⟩ := ite_inv h1
  cases e1
  refine r_getf C hT hH hc hin hk ht hlink hdg hK ?_
  rw [show oV t (mI mm a) (mR mm a) k = va_rf (mR mm a k) by simp [oV, hi]]
  exact kk _ h2
theorem gN_inv {t a k : Nat} {b : Nat} {m' : Mem} (h : gN t a k mm = some (b, m')) : mK mm a = t ∧ mR mm a k = some b ∧ m' = mm := by
  unfold gN at h
  by_cases hc : mK mm a = t
  · rw [if_pos hc] at h
    cases hr : mR mm a k with
    | none => rw [hr] at h; cases h
    | some q => rw [hr] at h; cases h; exact ⟨hc, rfl, rfl⟩
  · rw [if_neg hc] at h; cases h
theorem r_gN {K : Nat → HM β} {t k a index : Nat} {Cn : String} {T : u_T} {N : Nat} (C : CallFix p m c cc nL s args Ts own) (hT : mT D cA s) (hH : mH D cA base mm H) (hc : vwCl[t]? = some (Cn, T, N)) (hin : ∀ w ∈ u_ws Cn T N, w ∈ Ts) (hk : k < N) (ht : t < 5) (hi : isI t k = false) (hlink : Cond.fieldLink own index (T k).1 (T k).2.1 (T k).2.2.1 ∈ Ts) (hdg : decode cc pc = .ok (.getfield index, 3)) (h : bnd (gN t a k) K mm = some z)
    (kk : ∀ v, K v mm = some z → W p l e R s m args below meth c H locs cells slots Q (F0 m (pc + 3) ls (.ref v :: rest))) : W p l e R s m args below meth c H locs cells slots Q (F0 m pc ls (.ref a :: rest)) := by
  obtain ⟨v, m', h1, h2⟩ := bnd_inv h
  obtain ⟨hK, e1, rfl⟩ := gN_inv h1
  refine r_getf C hT hH hc hin hk ht hlink hdg hK ?_
  rw [show oV t (mI m' a) (mR m' a) k = .ref v by simp [oV, hi, e1, va_rf]]
  exact kk _ h2
/-- what a store into a field leaves -/
theorem r_putf {t k a index : Nat} {Cn : String} {T : u_T} {N : Nat} {ty0 : Nat → FieldType} {m2 : Mem} {v : Value} (C : CallFix p m c cc nL s args Ts own) (hT : mT D cA s) (hH : mH D cA base mm H) (hS0 : va_S (mA base) H0 H locs) (hc : vwCl[t]? = some (Cn, T, N)) (hin : ∀ w ∈ u_ws Cn T N, w ∈ Ts) (hty : ∀ k, k < N → parseFieldDescriptor (T k).2.2.1 = some (ty0 k)) (hnm : ∀ a, a < N → ∀ b, b < N → a ≠ b → (T a).2.1 ≠ (T b).2.1) (hk : k < N) (ht : t < 5) (hlink : Cond.fieldLink own index (T k).1 (T k).2.1 (T k).2.2.1 ∈ Ts) (hfin : (T k).2.2.2 = false ∨ ((T k).2.2.2 = true ∧ meth.name = "<init>" ∧ (T k).1 = own)) (hdg : decode cc pc = .ok (.putfield index, 3)) (hK : mK mm a = t)
    (hn : narrow (ty0 k) v = v) (hfit : fits (ty0 k) v = true) (e1 : mK m2 = mK mm) (e2 : mN m2 = mN mm) (e3 : mS m2 = mS mm) (e4 : ∀ b, b ≠ a → mI m2 b = mI mm b) (e5 : ∀ b, b ≠ a → mR m2 b = mR mm b) (e6 : ∀ j, j < N → updV (oV t (mI mm a) (mR mm a)) k v j = oV t (mI m2 a) (mR m2 a) j)
    (kk : ∀ (H1 : Heap) (locs1 : List Loc), mH D cA base m2 H1 → va_S (mA base) H0 H1 locs1 → W p l e R s m args below meth c H1 locs1 cells slots Q (F0 m (pc + 3) ls rest)) : W p l e R s m args below meth c H locs cells slots Q (F0 m pc ls (v :: .ref a :: rest)) := by
  obtain ⟨cell, q1, q2, q3, q4⟩ := r_obj hT hH hc ht hK
  obtain ⟨hS, hfc, kC, hkC, hkind⟩ := hT.1 t _ hc
  obtain ⟨cf, kf, fi, f, hi, hsl⟩ := hS k hk
  have hap : ∀ x y, x < N → y < N → x ≠ y → D.2 t x ≠ D.2 t y := by
    intro x y hx hy hne
    obtain ⟨_, _, _, fa, hia, ea⟩ := hS x hx
    obtain ⟨_, _, _, fb, hib, eb⟩ := hS y hy
    rw [← ea, ← eb]
    refine u_apart (u_lays C.2.2.2.2 hin hx) (u_lays C.2.2.2.2 hin hy) hia hib ?_
    rw [(State.fieldFound?_type hia (hty x hx)).1, (State.fieldFound?_type hib (hty y hy)).1]
    exact hnm x hx y hy hne
  have hst := (u_facts hfc hkC (u_lays C.2.2.2.2 hin hk) hi).1
  have hd := hty k hk
  have hb : base ≤ a := (hH.2.2.1 a (by rw [hK]; omega)).1
  have fin : ∀ H' : Heap, H'[a]? = some (cell.setSlot f.slot v) → H'.size = H.size → (∀ q, q ≠ a → H'[q]? = H[q]?) → W p l e R s m args below meth c H' (locs ++ [⟨a, f.slot⟩]) cells slots Q (F0 m (pc + 3) ls rest) := by
    intro H' g1 g2 g3
    refine kk H' _ (mH_set hH e1 e2 e3 e4 e5 g2 g3 ?_) (hS0.put g2 g3 hb)
    have ek : mK m2 a = t := by rw [e1]; exact hK
    unfold mC
    rw [ek]
    refine ⟨fun _ => ⟨_, hc, ?_⟩, fun q => absurd ht (by omega)⟩
    rw [hsl] at g1
    exact t_OB.to (V := updV (oV t (mI mm a) (mR mm a)) k v) ⟨_, g1, q2, q3, t_set q4 hap hk v⟩ e6
  have hlay := C.2.2.2.2 _ (hin _ (u_in_lay hk))
  unfold u_lay at hlay
  rcases hfin with hfin | ⟨hfin, hin2, hdecl⟩
  · rw [if_neg (by rw [hfin]; decide)] at hlay
    have h6 := u_store hfc hkC hkind hlay hi hd hn hfit
    exact W.putK C.1 C.2.1 (f := f) ⟨C.2.2.2.1, C.2.2.2.2 _ hlink, ⟨_, _, _, hi⟩, hst⟩ (by rw [q2]; exact h6) q1 q3 (by rw [hsl]; exact k2_hasslot (q4 k hk)) rfl rfl hdg fin
  · rw [if_pos hfin] at hlay
    have hcf : m.cls = cf := by
      obtain ⟨_, _, c', _, _, _, -, -, hf', -, -, -, hown2, -⟩ := Cond.laysFinal_spec hlay
      have e9 : c' = cf := by have := hi.symm.trans hf'; simp at this; exact this.1.symm
      rw [hdecl] at hown2
      rw [← e9]; exact Option.some.inj (C.2.2.2.1.symm.trans hown2)
    have h6 := u_fits hfc hkC hkind (Or.inr hlay) hi hd hn hfit
    exact W.putFinK C.1 C.2.1 C.2.2.2.1 (C.2.2.2.2 _ hlink) hi hst hcf hin2 (by rw [q2]; exact h6) q1 q3 (by rw [hsl]; exact k2_hasslot (q4 k hk)) rfl rfl hdg fin
theorem r_pI {K : Unit → HM β} {t k a index : Nat} {Cn : String} {T : u_T} {N : Nat} {ty0 : Nat → FieldType} {v : Int32} (C : CallFix p m c cc nL s args Ts own) (hT : mT D cA s) (hH : mH D cA base mm H) (hS0 : va_S (mA base) H0 H locs) (hc : vwCl[t]? = some (Cn, T, N)) (hin : ∀ w ∈ u_ws Cn T N, w ∈ Ts) (hty : ∀ k, k < N → parseFieldDescriptor (T k).2.2.1 = some (ty0 k)) (hnm : ∀ a, a < N → ∀ b, b < N → a ≠ b → (T a).2.1 ≠ (T b).2.1) (hk : k < N) (ht : t < 5) (hi : isI t k = true) (hyk : ty0 k = .int) (hlink : Cond.fieldLink own index (T k).1 (T k).2.1 (T k).2.2.1 ∈ Ts) (hfin : (T k).2.2.2 = false ∨ ((T k).2.2.2 = true ∧ meth.name = "<init>" ∧ (T k).1 = own)) (hdg : decode cc pc = .ok (.putfield index, 3)) (h : bnd (pI t a k v) K mm = some z)
    (kk : ∀ (m2 : Mem) (H1 : Heap) (locs1 : List Loc), mH D cA base m2 H1 → va_S (mA base) H0 H1 locs1 → K () m2 = some z → W p l e R s m args below meth c H1 locs1 cells slots Q (F0 m (pc + 3) ls rest)) : W p l e R s m args below meth c H locs cells slots Q (F0 m pc ls (.int v :: .ref a :: rest)) := by
  obtain ⟨u, m', h1, h2⟩ := bnd_inv h
  obtain ⟨hK, e1⟩ := ite_inv h1
  cases e1
  refine r_putf (m2 := setI mm a k v) C hT hH hS0 hc hin hty hnm hk ht hlink hfin hdg hK (by rw [hyk]; rfl) (by rw [hyk]; rfl) rfl rfl rfl (fun b hb => mI_setI_ne hb) (fun b hb => rfl) (fun j _ => ?_) (fun H1 locs1 a1 a2 => kk _ H1 locs1 a1 a2 h2)
  by_cases hj : j = k
  · subst hj; simp [updV, oV, hi, mI_setI]
  · simp [updV, oV, hj, mI_setI, mR_setI]
theorem r_pR {K : Unit → HM β} {t k a b index : Nat} {Cn : String} {T : u_T} {N : Nat} {ty0 : Nat → FieldType} (C : CallFix p m c cc nL s args Ts own) (hT : mT D cA s) (hH : mH D cA base mm H) (hS0 : va_S (mA base) H0 H locs) (hc : vwCl[t]? = some (Cn, T, N)) (hin : ∀ w ∈ u_ws Cn T N, w ∈ Ts) (hty : ∀ k, k < N → parseFieldDescriptor (T k).2.2.1 = some (ty0 k)) (hnm : ∀ a, a < N → ∀ b, b < N → a ≠ b → (T a).2.1 ≠ (T b).2.1) (hk : k < N) (ht : t < 5) (hi : isI t k = false) (hn : narrow (ty0 k) (.ref b) = .ref b) (hfit : fits (ty0 k) (.ref b) = true) (hlink : Cond.fieldLink own index (T k).1 (T k).2.1 (T k).2.2.1 ∈ Ts) (hfin : (T k).2.2.2 = false ∨ ((T k).2.2.2 = true ∧ meth.name = "<init>" ∧ (T k).1 = own)) (hdg : decode cc pc = .ok (.putfield index, 3)) (h : bnd (pR t a k (some b)) K mm = some z)
    (kk : ∀ (m2 : Mem) (H1 : Heap) (locs1 : List Loc), mH D cA base m2 H1 → va_S (mA base) H0 H1 locs1 → K () m2 = some z → W p l e R s m args below meth c H1 locs1 cells slots Q (F0 m (pc + 3) ls rest)) : W p l e R s m args below meth c H locs cells slots Q (F0 m pc ls (.ref b :: .ref a :: rest)) := by
  obtain ⟨u, m', h1, h2⟩ := bnd_inv h
  obtain ⟨hK, e1⟩ := ite_inv h1
  cases e1
  refine r_putf (m2 := setR mm a k (some b)) C hT hH hS0 hc hin hty hnm hk ht hlink hfin hdg hK hn hfit rfl rfl rfl (fun b hb => rfl) (fun b hb => mR_setR_ne hb) (fun j _ => ?_) (fun H1 locs1 a1 a2 => kk _ H1 locs1 a1 a2 h2)
  by_cases hj : j = k
  · subst hj; simp [updV, oV, hi, mR_setR, va_rf]
  · simp [updV, oV, hj, mR_setR, mI_setR]
theorem r_pRN {K : Unit → HM β} {t k a index : Nat} {Cn : String} {T : u_T} {N : Nat} {ty0 : Nat → FieldType} (C : CallFix p m c cc nL s args Ts own) (hT : mT D cA s) (hH : mH D cA base mm H) (hS0 : va_S (mA base) H0 H locs) (hc : vwCl[t]? = some (Cn, T, N)) (hin : ∀ w ∈ u_ws Cn T N, w ∈ Ts) (hty : ∀ k, k < N → parseFieldDescriptor (T k).2.2.1 = some (ty0 k)) (hnm : ∀ a, a < N → ∀ b, b < N → a ≠ b → (T a).2.1 ≠ (T b).2.1) (hk : k < N) (ht : t < 5) (hi : isI t k = false) (hn : narrow (ty0 k) .null = .null) (hfit : fits (ty0 k) .null = true) (hlink : Cond.fieldLink own index (T k).1 (T k).2.1 (T k).2.2.1 ∈ Ts) (hfin : (T k).2.2.2 = false ∨ ((T k).2.2.2 = true ∧ meth.name = "<init>" ∧ (T k).1 = own)) (hdg : decode cc pc = .ok (.putfield index, 3)) (h : bnd (pR t a k none) K mm = some z)
    (kk : ∀ (m2 : Mem) (H1 : Heap) (locs1 : List Loc), mH D cA base m2 H1 → va_S (mA base) H0 H1 locs1 → K () m2 = some z → W p l e R s m args below meth c H1 locs1 cells slots Q (F0 m (pc + 3) ls rest)) : W p l e R s m args below meth c H locs cells slots Q (F0 m pc ls (.null :: .ref a :: rest)) := by
  obtain ⟨u, m', h1, h2⟩ := bnd_inv h
  obtain ⟨hK, e1⟩ := ite_inv h1
  cases e1
  refine r_putf (m2 := setR mm a k none) C hT hH hS0 hc hin hty hnm hk ht hlink hfin hdg hK hn hfit rfl rfl rfl (fun b hb => rfl) (fun b hb => mR_setR_ne hb) (fun j _ => ?_) (fun H1 locs1 a1 a2 => kk _ H1 locs1 a1 a2 h2)
  by_cases hj : j = k
  · subst hj; simp [updV, oV, hi, mR_setR, va_rf]
  · simp [updV, oV, hj, mR_setR, mI_setR]
/-! arrays -/
theorem r_arr (hH : mH D cA base mm H) {t a : Nat} (hk : mK mm a = t) (h5 : 5 ≤ t) (h10 : t < 10) : H[a]? = some (arrV (cA t) (mN mm a) (aV t (mI mm a) (mR mm a))) := by
  have h := (hH.2.2.2 a).2 (by rw [hk]; exact h5) (by rw [hk]; exact h10)
  rw [hk] at h
  exact h
theorem r_lI {K : Int32 → HM β} {a : Nat} {i : Int32} (C : CallFix p m c cc nL s args Ts own) (hT : mT D cA s) (hH : mH D cA base mm H) (hdg : decode cc pc = .ok (.iaload, 1)) (h : bnd (lI 5 a i) K mm = some z)
    (kk : ∀ v, K v mm = some z → W p l e R s m args below meth c H locs cells slots Q (F0 m (pc + 1) ls (.int v :: rest))) : W p l e R s m args below meth c H locs cells slots Q (F0 m pc ls (.int i :: .ref a :: rest)) := by
  obtain ⟨v, m', h1, h2⟩ := bnd_inv h
  obtain ⟨⟨hK, hin⟩, e1⟩ := ite_inv h1
  cases e1
  have hlt : i.toNatClampNeg < mN mm a := Nat.not_le.mp fun q => hin (Or.inr q)
  exact W.iald (v := .int (mI mm a i.toNatClampNeg)) C.1 C.2.1 (r_arr hH hK (by decide) (by decide)) ((hT.2.1 5 (by decide) (by decide)).1 _ _) (fun q => by cases q) (by rw [arrV_size]; exact hin) (by rw [arrV_read _ _ hlt]; simp [aV]) rfl rfl hdg (kk _ h2)
theorem r_lZ {K : Int32 → HM β} {a : Nat} {i : Int32} (C : CallFix p m c cc nL s args Ts own) (hT : mT D cA s) (hH : mH D cA base mm H) (hdg : decode cc pc = .ok (.baload, 1)) (h : bnd (lI 6 a i) K mm = some z)
    (kk : ∀ v, K v mm = some z → W p l e R s m args below meth c H locs cells slots Q (F0 m (pc + 1) ls (.int v :: rest))) : W p l e R s m args below meth c H locs cells slots Q (F0 m pc ls (.int i :: .ref a :: rest)) := by
  obtain ⟨v, m', h1, h2⟩ := bnd_inv h
  obtain ⟨⟨hK, hin⟩, e1⟩ := ite_inv h1
  cases e1
  have hlt : i.toNatClampNeg < mN mm a := Nat.not_le.mp fun q => hin (Or.inr q)
  exact W.zald (v := .int (mI mm a i.toNatClampNeg)) C.1 C.2.1 (r_arr hH hK (by decide) (by decide)) ((hT.2.1 6 (by decide) (by decide)).1 _ _) (fun q => by cases q) (by rw [arrV_size]; exact hin) (by rw [arrV_read _ _ hlt]; simp [aV]) rfl rfl hdg (kk _ h2)
theorem lR_inv {t a : Nat} {i : Int32} {b : Nat} {m' : Mem} (h : lR t a i mm = some (b, m')) : (mK mm a = t ∧ ¬ (i < 0 ∨ mN mm a ≤ i.toNatClampNeg)) ∧ mR mm a i.toNatClampNeg = some b ∧ m' = mm := by
  unfold lR at h
  by_cases hc : mK mm a = t ∧ ¬ (i < 0 ∨ mN mm a ≤ i.toNatClampNeg)
  · rw [if_pos hc] at h
    cases hr : mR mm a i.toNatClampNeg with
    | none => rw [hr] at h; cases h
    | some q => rw [hr] at h; cases h; exact ⟨hc, rfl, rfl⟩
  · rw [if_neg hc] at h; cases h
theorem r_lR {K : Nat → HM β} {t a : Nat} {i : Int32} (C : CallFix p m c cc nL s args Ts own) (hT : mT D cA s) (hH : mH D cA base mm H) (ht : t = 7 ∨ t = 8) (hdg : decode cc pc = .ok (.aaload, 1)) (h : bnd (lR t a i) K mm = some z)
    (kk : ∀ v, K v mm = some z → W p l e R s m args below meth c H locs cells slots Q (F0 m (pc + 1) ls (.ref v :: rest))) : W p l e R s m args below meth c H locs cells slots Q (F0 m pc ls (.int i :: .ref a :: rest)) := by
  obtain ⟨v, m', h1, h2⟩ := bnd_inv h
  obtain ⟨⟨hK, hin⟩, e1, rfl⟩ := lR_inv h1
  have hlt : i.toNatClampNeg < mN m' a := Nat.not_le.mp fun q => hin (Or.inr q)
  exact W.aald (v := .ref v) (ty := tyA t) C.1 C.2.1 (r_arr hH hK (by omega) (by omega)) ((hT.2.1 t (by omega) (by omega)).1 _ _) (by rcases ht with rfl | rfl <;> rfl) (fun q => by cases q) (by rw [arrV_size]; exact hin) (by rw [arrV_read _ _ hlt]; rcases ht with rfl | rfl <;> simp [aV, e1, va_rf]) rfl rfl hdg (kk _ h2)
theorem r_ln {K : Int32 → HM β} {t a : Nat} (C : CallFix p m c cc nL s args Ts own) (hT : mT D cA s) (hH : mH D cA base mm H) (h5 : 5 ≤ t) (h10 : t < 10) (hdg : decode cc pc = .ok (.arraylength, 1)) (h : bnd (ln t a) K mm = some z)
    (kk : ∀ v, K v mm = some z → W p l e R s m args below meth c H locs cells slots Q (F0 m (pc + 1) ls (.int v :: rest))) : W p l e R s m args below meth c H locs cells slots Q (F0 m pc ls (.ref a :: rest)) := by
  obtain ⟨v, m', h1, h2⟩ := bnd_inv h
  obtain ⟨hK, e1⟩ := ite_inv h1
  cases e1
  exact W.alen (n := Int32.ofNat (mN mm a)) C.1 C.2.1 (r_arr hH hK h5 h10) ((hT.2.1 t h5 h10).1 _ _) (by rw [arrV_size] <;> rfl) rfl rfl hdg (kk _ h2)
theorem r_arrset {t a k : Nat} {v : Value} {m2 : Mem} (hH : mH D cA base mm H) (hS0 : va_S (mA base) H0 H locs) (hK : mK mm a = t) (h5 : 5 ≤ t) (h10 : t < 10) (e1 : mK m2 = mK mm) (e2 : mN m2 = mN mm) (e3 : mS m2 = mS mm) (e4 : ∀ b, b ≠ a → mI m2 b = mI mm b) (e5 : ∀ b, b ≠ a → mR m2 b = mR mm b) (e6 : updV (aV t (mI mm a) (mR mm a)) k v = aV t (mI m2 a) (mR m2 a))
    {H1 : Heap} (g1 : H1[a]? = some ((arrV (cA t) (mN mm a) (aV t (mI mm a) (mR mm a))).setSlot k v)) (g2 : H1.size = H.size) (g3 : ∀ q, q ≠ a → H1[q]? = H[q]?) : mH D cA base m2 H1 ∧ va_S (mA base) H0 H1 (locs ++ [⟨a, k⟩]) := by
  refine ⟨mH_set hH e1 e2 e3 e4 e5 g2 g3 ?_, hS0.put g2 g3 (hH.2.2.1 a (by rw [hK]; exact h10)).1⟩
  have ek : mK m2 a = t := by rw [e1]; exact hK
  unfold mC
  rw [ek, e2]
  refine ⟨fun q => absurd h5 (by omega), fun _ _ => ?_⟩
  rw [g1, arrV_store, e6]
theorem r_sI {K : Unit → HM β} {a : Nat} {i v : Int32} (C : CallFix p m c cc nL s args Ts own) (hT : mT D cA s) (hH : mH D cA base mm H) (hS0 : va_S (mA base) H0 H locs) (hdg : decode cc pc = .ok (.iastore, 1)) (h : bnd (sI 5 a i v) K mm = some z)
    (kk : ∀ (m2 : Mem) (H1 : Heap) (locs1 : List Loc), mH D cA base m2 H1 → va_S (mA base) H0 H1 locs1 → K () m2 = some z → W p l e R s m args below meth c H1 locs1 cells slots Q (F0 m (pc + 1) ls rest)) : W p l e R s m args below meth c H locs cells slots Q (F0 m pc ls (.int v :: .int i :: .ref a :: rest)) := by
  obtain ⟨u, m', h1, h2⟩ := bnd_inv h
  obtain ⟨⟨hK, hin⟩, e1⟩ := ite_inv h1
  cases e1
  refine W.iast C.1 C.2.1 (r_arr hH hK (by decide) (by decide)) ((hT.2.1 5 (by decide) (by decide)).1 _ _) (fun q => by cases q) (by rw [arrV_size]; exact hin) rfl rfl hdg fun H1 g1 g2 g3 => ?_
  obtain ⟨a1, a2⟩ := r_arrset (m2 := setI mm a i.toNatClampNeg v) hH hS0 hK (by decide) (by decide) rfl rfl rfl (fun b hb => mI_setI_ne hb) (fun b hb => rfl) (by
    funext j
    by_cases hj : j = i.toNatClampNeg <;> simp [updV, aV, hj, mI_setI]) g1 g2 g3
  exact kk _ H1 _ a1 a2 h2
theorem r_sZ {K : Unit → HM β} {a : Nat} {i v : Int32} (C : CallFix p m c cc nL s args Ts own) (hT : mT D cA s) (hH : mH D cA base mm H) (hS0 : va_S (mA base) H0 H locs) (hdg : decode cc pc = .ok (.bastore, 1)) (h : bnd (sZ a i v) K mm = some z)
    (kk : ∀ (m2 : Mem) (H1 : Heap) (locs1 : List Loc), mH D cA base m2 H1 → va_S (mA base) H0 H1 locs1 → K () m2 = some z → W p l e R s m args below meth c H1 locs1 cells slots Q (F0 m (pc + 1) ls rest)) : W p l e R s m args below meth c H locs cells slots Q (F0 m pc ls (.int v :: .int i :: .ref a :: rest)) := by
  obtain ⟨u, m', h1, h2⟩ := bnd_inv h
  obtain ⟨⟨⟨hK, hin⟩, hv⟩, e1⟩ := ite_inv h1
  cases e1
  have hnr : narrow .boolean (.int v) = .int v := by rcases hv with rfl | rfl <;> rfl
  refine W.zast C.1 C.2.1 (r_arr hH hK (by decide) (by decide)) ((hT.2.1 6 (by decide) (by decide)).1 _ _) (fun q => by cases q) (by rw [arrV_size]; exact hin) rfl rfl hdg fun H1 g1 g2 g3 => ?_
  rw [hnr] at g1
  obtain ⟨a1, a2⟩ := r_arrset (m2 := setI mm a i.toNatClampNeg v) hH hS0 hK (by decide) (by decide) rfl rfl rfl (fun b hb => mI_setI_ne hb) (fun b hb => rfl) (by
    funext j
    by_cases hj : j = i.toNatClampNeg <;> simp [updV, aV, hj, mI_setI]) g1 g2 g3
  exact kk _ H1 _ a1 a2 h2
theorem r_sJ {K : Unit → HM β} {a : Nat} {i v : Int32} (C : CallFix p m c cc nL s args Ts own) (hT : mT D cA s) (hH : mH D cA base mm H) (hS0 : va_S (mA base) H0 H locs) (hdg : decode cc pc = .ok (.lastore, 1)) (h : bnd (sI 9 a i v) K mm = some z)
    (kk : ∀ (m2 : Mem) (H1 : Heap) (locs1 : List Loc), mH D cA base m2 H1 → va_S (mA base) H0 H1 locs1 → K () m2 = some z → W p l e R s m args below meth c H1 locs1 cells slots Q (F0 m (pc + 1) ls rest)) : W p l e R s m args below meth c H locs cells slots Q (F0 m pc ls (.long v.toInt64 :: .int i :: .ref a :: rest)) := by
  obtain ⟨u, m', h1, h2⟩ := bnd_inv h
  obtain ⟨⟨hK, hin⟩, e1⟩ := ite_inv h1
  cases e1
  refine W.last C.1 C.2.1 (r_arr hH hK (by decide) (by decide)) ((hT.2.1 9 (by decide) (by decide)).1 _ _) (fun q => by cases q) (by rw [arrV_size]; exact hin) rfl rfl hdg fun H1 g1 g2 g3 => ?_
  obtain ⟨a1, a2⟩ := r_arrset (m2 := setI mm a i.toNatClampNeg v) hH hS0 hK (by decide) (by decide) rfl rfl rfl (fun b hb => mI_setI_ne hb) (fun b hb => rfl) (by
    funext j
    by_cases hj : j = i.toNatClampNeg <;> simp [updV, aV, hj, mI_setI]) g1 g2 g3
  exact kk _ H1 _ a1 a2 h2
theorem r_lJ {K : Int32 → HM β} {a : Nat} {i : Int32} (C : CallFix p m c cc nL s args Ts own) (hT : mT D cA s) (hH : mH D cA base mm H) (hdg : decode cc pc = .ok (.laload, 1)) (h : bnd (lI 9 a i) K mm = some z)
    (kk : ∀ v : Int32, K v mm = some z → W p l e R s m args below meth c H locs cells slots Q (F0 m (pc + 1) ls (.long v.toInt64 :: rest))) : W p l e R s m args below meth c H locs cells slots Q (F0 m pc ls (.int i :: .ref a :: rest)) := by
  obtain ⟨v, m', h1, h2⟩ := bnd_inv h
  obtain ⟨⟨hK, hin⟩, e1⟩ := ite_inv h1
  cases e1
  have hlt : i.toNatClampNeg < mN mm a := Nat.not_le.mp fun q => hin (Or.inr q)
  exact W.lald (v := .long (mI mm a i.toNatClampNeg).toInt64) C.1 C.2.1 (r_arr hH hK (by decide) (by decide)) ((hT.2.1 9 (by decide) (by decide)).1 _ _) (fun q => by cases q) (by rw [arrV_size]; exact hin) (by rw [arrV_read _ _ hlt]; simp [aV]) rfl rfl hdg (kk _ h2)
theorem r_sR {K : Unit → HM β} {a x : Nat} {i : Int32} (C : CallFix p m c cc nL s args Ts own) (hT : mT D cA s) (hH : mH D cA base mm H) (hS0 : va_S (mA base) H0 H locs) (hdg : decode cc pc = .ok (.aastore, 1)) (h : bnd (sR a i x) K mm = some z)
    (kk : ∀ (m2 : Mem) (H1 : Heap) (locs1 : List Loc), mH D cA base m2 H1 → va_S (mA base) H0 H1 locs1 → K () m2 = some z → W p l e R s m args below meth c H1 locs1 cells slots Q (F0 m (pc + 1) ls rest)) : W p l e R s m args below meth c H locs cells slots Q (F0 m pc ls (.ref x :: .int i :: .ref a :: rest)) := by
  obtain ⟨u, m', h1, h2⟩ := bnd_inv h
  obtain ⟨⟨⟨hK, hin⟩, hv⟩, e1⟩ := ite_inv h1
  cases e1
  have hlt : i.toNatClampNeg < mN mm a := Nat.not_le.mp fun q => hin (Or.inr q)
  have h0 : ¬ i < 0 := fun q => hin (Or.inl q)
  obtain ⟨cellV, g1, g2, g3, -⟩ := r_obj (t := 2) hT hH rfl (by decide) hv
  have hcls := (hT.1 2 _ rfl).2
  obtain ⟨kA, comp, k1, k2, k3, -⟩ := (hT.2.1 7 (by decide) (by decide)).2
  have hcomp : comp = D.1 2 := Option.some.inj (k3.symm.trans hcls.1)
  subst hcomp
  obtain ⟨kC, hkC, -⟩ := hcls.2
  refine W.aast C.1 C.2.1 (r_arr hH hK (by decide) (by decide)) (fun q h => by cases h) (fun h => by cases h) k1 k2 rfl hkC ⟨h0, by rw [arrV_size]; exact hlt⟩ g1 (fun q h => by rw [g3] at h; cases h) (by rw [g2]; exact hkC) (by rw [g2]; exact va_assign hcls) rfl rfl hdg fun H1 g1 g2 g3 => ?_
  obtain ⟨a1, a2⟩ := r_arrset (m2 := setR mm a i.toNatClampNeg (some x)) hH hS0 hK (by decide) (by decide) rfl rfl rfl (fun b hb => rfl) (fun b hb => mR_setR_ne hb) (by
    funext j
    by_cases hj : j = i.toNatClampNeg <;> simp [updV, aV, hj, mR_setR, va_rf]) g1 g2 g3
  exact kk _ H1 _ a1 a2 h2
/-! new cells -/
theorem mH_allo {t n : Nat} {H1 : Heap} (hH : mH D cA base mm H) (ht : t < 10) (g2 : H1.size = mS mm + 1) (g3 : ∀ q, q < mS mm → H1[q]? = H[q]?) (g1 : mC D cA (allo mm t n) (mS mm) H1) : mH D cA base (allo mm t n) H1 := by
  obtain ⟨h1, h2, h3, h4⟩ := hH
  refine ⟨by rw [g2, mS_allo], by rw [mS_allo]; omega, fun a ha => ?_, fun b => ?_⟩
  · rw [mK_allo] at ha
    rw [mS_allo]
    by_cases q : a = mS mm
    · subst q; omega
    · rw [if_neg q] at ha
      have := h3 a ha
      omega
  · by_cases q : b = mS mm
    · subst q; exact g1
    · refine mC_keep (m := mm) (H := H) (by rw [mK_allo, if_neg q]) (by rw [mN_allo, if_neg q]) (funext fun j => by rw [mI_allo, if_neg q]) (funext fun j => by rw [mR_allo, if_neg q]) (fun hb => g3 b (h3 b hb).2) (h4 b)
theorem va_S_new {H1 : Heap} (hH : mH D cA base mm H) (hS0 : va_S (mA base) H0 H locs) (g2 : mS mm ≤ H1.size) (g3 : ∀ q, q < mS mm → H1[q]? = H[q]?) : va_S (mA base) H0 H1 locs := by
  have h1 := hH.1
  obtain ⟨a1, a2, a3⟩ := hS0
  exact ⟨by omega, fun q b1 b2 => by rw [g3 q (by omega)]; exact a2 q b1 b2, a3⟩
theorem r_nO {K : Nat → HM β} {t index : Nat} {Cn : String} {T : u_T} {N : Nat} {ty0 : Nat → FieldType} (C : CallFix p m c cc nL s args Ts own) (hT : mT D cA s) (hH : mH D cA base mm H) (hS0 : va_S (mA base) H0 H locs) (hc : vwCl[t]? = some (Cn, T, N)) (hin : ∀ w ∈ u_ws Cn T N, w ∈ Ts) (hty : ∀ k, k < N → parseFieldDescriptor (T k).2.2.1 = some (ty0 k)) (ht : t < 5) (hdf : ∀ k, k < N → defaultValue (ty0 k) = oV t (fun _ => 0) (fun _ => none) k) (hl : Cond.classLink own index Cn ∈ Ts) (hinst : Cond.instantiable Cn N ∈ Ts) (hini : Cond.initialized Cn ∈ Ts) (hcells : cells + 1 ≤ R.cells) (hslots : slots + N ≤ R.slots) (hdg : decode cc pc = .ok (.new index, 3)) (h : bnd (nO t) K mm = some z)
    (kk : ∀ (q : Nat) (m2 : Mem) (H1 : Heap), mH D cA base m2 H1 → va_S (mA base) H0 H1 locs → K q m2 = some z → W p l e R s m args below meth c H1 locs (cells + 1) (slots + N) Q (F0 m (pc + 3) ls (.ref q :: rest))) : W p l e R s m args below meth c H locs cells slots Q (F0 m pc ls rest) := by
  obtain ⟨u, m', h1, h2⟩ := bnd_inv h
  cases h1
  have hKn := hT.1 t _ hc
  refine W.newcK C.1 C.2.1 C.2.2.2.1 (C.2.2.2.2 _ hl) (C.2.2.2.2 _ hinst) (C.2.2.2.2 _ hini) rfl hdg hcells hslots hKn.2.1 hH.1 fun H1 kC hkC e1 z1 o1 => ?_
  refine kk (mS mm) _ H1 (mH_allo hH (by omega) z1 o1 ?_) (va_S_new hH hS0 (by omega) o1) h2
  unfold mC
  have ek : mK (allo mm t 0) (mS mm) = t := by rw [mK_allo, if_pos rfl]
  rw [ek]
  refine ⟨fun _ => ⟨_, hc, ?_⟩, fun q => absurd ht (by omega)⟩
  refine (u_born ty0 C.2.2.2.2 hin hKn hkC e1 hty).to (fun j hj => ?_)
  rw [hdf j hj, show mI (allo mm t 0) (mS mm) = fun _ => 0 from funext fun j => by rw [mI_allo, if_pos rfl], show mR (allo mm t 0) (mS mm) = fun _ => none from funext fun j => by rw [mR_allo, if_pos rfl]]
theorem r_nA {K : Nat → HM β} {t B : Nat} {n : Int32} {atype : ArrayType} (C : CallFix p m c cc nL s args Ts own) (hT : mT D cA s) (hH : mH D cA base mm H) (hS0 : va_S (mA base) H0 H locs) (ht : t = 5 ∨ t = 6 ∨ t = 9) (hat : newarray.typeOf atype = tyA t) (harr : Cond.arrayClass (newarray.typeOf atype) ∈ Ts) (hB : B ≤ 65536) (hcells : cells + 1 ≤ R.cells) (hslots : slots + B ≤ R.slots) (hdg : decode cc pc = .ok (.newarray atype, 2)) (h : bnd (nA t B n) K mm = some z)
    (kk : ∀ (q : Nat) (m2 : Mem) (H1 : Heap), mH D cA base m2 H1 → va_S (mA base) H0 H1 locs → K q m2 = some z → W p l e R s m args below meth c H1 locs (cells + 1) (slots + B) Q (F0 m (pc + 2) ls (.ref q :: rest))) : W p l e R s m args below meth c H locs cells slots Q (F0 m pc ls (.int n :: rest)) := by
  obtain ⟨u, m', h1, h2⟩ := bnd_inv h
  obtain ⟨⟨hn, hle⟩, e1⟩ := ite_inv h1
  cases e1
  have hby : componentBytes (newarray.typeOf atype) ≤ 8 := by rw [hat]; rcases ht with rfl | rfl | rfl <;> decide
  refine va_newaK C.1 C.2.1 (C.2.2.2.2 _ harr) rfl hdg rfl hn rfl (Nat.le_trans (Nat.mul_le_mul hle hby) (by omega)) hcells (by omega) hH.1 fun H1 cA' e1 z1 o1 hAr hNm => ?_
  refine W.widen (k := cells + 1) (n := slots + B) (Nat.le_refl _) (by omega) ?_
  have hcA : cA' = cA t := by
    have h9 := (hT.2.1 t (by omega) (by omega)).2
    rw [← hat] at h9
    have h8 : s.vm.findClass ("[" ++ (newarray.typeOf atype).toString) = some (cA t) := by
      rw [hat] at h9 ⊢
      rcases ht with rfl | rfl | rfl <;> exact h9
    exact Option.some.inj (hNm.symm.trans h8)
  subst hcA
  refine kk (mS mm) _ H1 (mH_allo hH (by omega) z1 o1 ?_) (va_S_new hH hS0 (by omega) o1) h2
  unfold mC
  have ek : mK (allo mm t n.toNatClampNeg) (mS mm) = t := by rw [mK_allo, if_pos rfl]
  rw [ek]
  refine ⟨fun q => absurd q (by omega), fun _ _ => ?_⟩
  rw [e1, hat, mN_allo, if_pos rfl, show mI (allo mm t n.toNatClampNeg) (mS mm) = fun _ => 0 from funext fun j => by rw [mI_allo, if_pos rfl], show mR (allo mm t n.toNatClampNeg) (mS mm) = fun _ => none from funext fun j => by rw [mR_allo, if_pos rfl]]
  rcases ht with rfl | rfl | rfl <;> rfl
theorem r_nS {K : Nat → HM β} {B index : Nat} {n : Int32} (C : CallFix p m c cc nL s args Ts own) (hT : mT D cA s) (hH : mH D cA base mm H) (hS0 : va_S (mA base) H0 H locs) (hl : Cond.classLink own index "SegmentMerges$Segment" ∈ Ts) (hB : B ≤ 65536) (hcells : cells + 1 ≤ R.cells) (hslots : slots + B ≤ R.slots) (hdg : decode cc pc = .ok (.anewarray index, 3)) (h : bnd (nA 7 B n) K mm = some z)
    (kk : ∀ (q : Nat) (m2 : Mem) (H1 : Heap), mH D cA base m2 H1 → va_S (mA base) H0 H1 locs → K q m2 = some z → W p l e R s m args below meth c H1 locs (cells + 1) (slots + B) Q (F0 m (pc + 3) ls (.ref q :: rest))) : W p l e R s m args below meth c H locs cells slots Q (F0 m pc ls (.int n :: rest)) := by
  obtain ⟨u, m', h1, h2⟩ := bnd_inv h
  obtain ⟨⟨hn, hle⟩, e1⟩ := ite_inv h1
  cases e1
  refine W.anew C.1 C.2.1 C.2.2.2.1 (C.2.2.2.2 _ hl) (va_AO.use hT.2.2.1) rfl hdg rfl hn (by omega) hcells (by omega) fun cA' kA comp k1 k2 k3 k4 => ?_
  refine W.widen (k := cells + 1) (n := slots + B) (Nat.le_refl _) (by omega) ?_
  obtain ⟨kA9, comp9, -, -, -, hnm⟩ := (hT.2.1 7 (by decide) (by decide)).2
  have hcA : cA' = cA 7 := Option.some.inj (k1.symm.trans hnm)
  subst hcA
  rw [arrV_new]
  have o1 : ∀ q, q < mS mm → (H.push (arrV (cA 7) n.toNatClampNeg (fun _ => .null)))[q]? = H[q]? := fun q hq => by
    rw [Array.getElem?_push, if_neg (by rw [hH.1]; omega)]
  have z1 : (H.push (arrV (cA 7) n.toNatClampNeg (fun _ => .null))).size = mS mm + 1 := by rw [Array.size_push, hH.1]
  have hz : H.size = mS mm := hH.1
  rw [hz]
  refine kk (mS mm) _ _ (mH_allo hH (by omega) z1 o1 ?_) (va_S_new hH hS0 (by omega) o1) h2
  unfold mC
  have ek : mK (allo mm 7 n.toNatClampNeg) (mS mm) = 7 := by rw [mK_allo, if_pos rfl]
  rw [ek]
  refine ⟨fun q => absurd q (by omega), fun _ _ => ?_⟩
  rw [Array.getElem?_push, if_pos hz.symm, mN_allo, if_pos rfl, show mI (allo mm 7 n.toNatClampNeg) (mS mm) = fun _ => 0 from funext fun j => by rw [mI_allo, if_pos rfl], show mR (allo mm 7 n.toNatClampNeg) (mS mm) = fun _ => none from funext fun j => by rw [mR_allo, if_pos rfl]]
  rfl
end MR
