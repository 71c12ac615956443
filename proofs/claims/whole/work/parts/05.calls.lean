/-! Calls, returns and the other rows of the generated proofs -/
def cl {α : Type} (t b : Nat) (f : HM α) : HM α := fun m => if mK m b = t then f m else none
theorem cl_inv {α : Type} {t b : Nat} {f : HM α} {m : Mem} {z : α × Mem} (h : cl t b f m = some z) : mK m b = t ∧ f m = some z := by
  unfold cl at h
  by_cases hc : mK m b = t
  · rw [if_pos hc] at h; exact ⟨hc, h⟩
  · rw [if_neg hc] at h; cases h
theorem fl_inv {α : Type} {m : Mem} {z : α × Mem} (h : fl m = some z) : False := by
  unfold fl at h
  cases h
theorem rt_inv {α : Type} {a : α} {m : Mem} {z : α × Mem} (h : rt a m = some z) : z = (a, m) := (Option.some.inj h).symm
theorem ifn_n {α : Type} {x : HM α} {y : Nat → HM α} {m : Mem} {z : α × Mem} (h : ifn none x y m = some z) : x m = some z := h
theorem ifn_s {α : Type} {x : HM α} {y : Nat → HM α} {m : Mem} {z : α × Mem} {a : Nat} (h : ifn (some a) x y m = some z) : y a m = some z := h
theorem dv_inv {x y : Int32} {m m' : Mem} {r : Int32} (h : dv x y m = some (r, m')) : ¬ y = 0 ∧ r = x / y ∧ m' = m := by
  unfold dv at h
  by_cases hc : y = 0
  · rw [if_pos hc] at h; cases h
  · rw [if_neg hc] at h; cases h; exact ⟨hc, rfl, rfl⟩
def eI (r : Int32) : Option Value := some (.int r)
def eV (_ : Unit) : Option Value := none
def eN (r : Nat) : Option Value := some (.ref r)
def eQ (r : Option Nat) : Option Value := some (va_rf r)
def mQ {α : Type} (enc : α → Option Value) (D : va_G) (cA : Nat → ClassId) (base : Nat) (z : α × Mem) : Array Value → State → Outcome → State → Prop := fun _ st oc t => oc = .returned (enc z.1) ∧ mU D cA base z.2 t ∧ va_F (mA base) st t
theorem mU_blind {D : va_G} {cA : Nat → ClassId} {base : Nat} {m : Mem} {av : List Value} : FrameBlind (va_Pc av (mU D cA base m)) := fun a U g mk q => ⟨q.1, q.2.1, mT.same (u := U) (U := U.calling g mk a) rfl q.2.2⟩
section MCL
variable {p : Program} {l : Launch} {e : Env} {R : Room} {s : State} {m : MethodId} {args : Array Value} {below : List Frame} {meth : Method} {c : Code} {H : Heap} {locs : List Loc} {cells slots : Nat} {Q : State → Prop}
variable {cc : ByteArray} {nL pc : Nat} {ls : Array Slot} {rest st0 : List Value} {D : va_G} {cA : Nat → ClassId} {base : Nat} {H0 : Heap} {Ts : List Cond} {own : String} {β : Type} {mm : Mem} {z : β × Mem}
theorem r_after {α : Type} {enc : α → Option Value} {f : HM α} {K : α → HM β} {mc ms : Nat} {a : Array Value} (hS : va_S (mA base) H0 H locs) (hr : ∀ z1, f mm = some z1 → va_Run p l e R s m args below meth c H locs cells slots mc ms (F0 m pc ls st0) rest (mQ enc D cA base z1 a) (mA base)) (h : bnd f K mm = some z)
    (kk : ∀ (r : α) (m2 : Mem) (H1 : Heap) (locs1 : List Loc), mH D cA base m2 H1 → va_S (mA base) H0 H1 locs1 → K r m2 = some z → W p l e R s m args below meth c H1 locs1 (cells + mc) (slots + ms) Q (F0 m (pc + 3) ls ((enc r).toList ++ rest))) : W p l e R s m args below meth c H locs cells slots Q (F0 m pc ls st0) := by
  obtain ⟨r, m2, h1, h2⟩ := bnd_inv h
  intro T hT X
  obtain ⟨v, st₀, t, T', L, h0, X', hL, e1, e2, ⟨hv, hu, hz, hk⟩, st⟩ := hr (r, m2) h1 T hT X
  cases hv
  rw [h0] at hz hk
  have hH2 : mH D cA base m2 T'.heap := by rw [e1]; exact hu.1
  have hz2 : H.size ≤ T'.heap.size := by rw [e1]; exact hz
  obtain ⟨t2, a1, b1⟩ := kk r m2 T'.heap (locs ++ L) hH2
    ⟨Nat.le_trans hS.1 hz2, fun q g1 g2 => by rw [e1, hk q (Nat.lt_of_lt_of_le g1 hS.1) g2]; exact hS.2.1 q g1 g2, fun q hq => by
      rcases List.mem_append.mp hq with h | h
      · exact hS.2.2 q h
      · exact hL q h⟩ h2 T' rfl X'
  exact ⟨t2, st t2 a1, b1⟩
theorem r_callV {α : Type} {enc : α → Option Value} {f : HM α} {K : α → HM β} {y : MethodName} {bytes : ByteArray} {maxL mc ms n index t b N : Nat} {ret : Option FieldType} {ws : List Cond} {rm : Room} {As : List Value} {Cn : String} {T : u_T} (C : CallFix p m c cc nL s args Ts own) (hT : mT D cA s) (hH : mH D cA base mm H) (hS : va_S (mA base) H0 H locs)
    (hM : ∀ z1, f mm = some z1 → Met l y ws rm (va_Pc (.ref b :: As) (mU D cA base mm)) (mQ enc D cA base z1) mc ms (mA base)) (cw : CallW R s args own Cn index y bytes maxL ret ws rm mc ms n) (hc : vwCl[t]? = some (Cn, T, N)) (ht : t < 5) (hn : As.length = n) (hsize : ls.size = nL) (hstack : st0 = As.reverse ++ .ref b :: rest) (hW : (rest.map fun v => v.category).sum ≤ 8) (hdg : decode cc pc = .ok (.invokevirtual index, 3)) (hf : cells + mc ≤ R.cells ∧ slots + ms ≤ R.slots) (h : bnd (cl t b f) K mm = some z)
    (kk : ∀ (r : α) (m2 : Mem) (H1 : Heap) (locs1 : List Loc), mH D cA base m2 H1 → va_S (mA base) H0 H1 locs1 → K r m2 = some z → W p l e R s m args below meth c H1 locs1 (cells + mc) (slots + ms) Q (F0 m (pc + 3) ls ((enc r).toList ++ rest))) : W p l e R s m args below meth c H locs cells slots Q (F0 m pc ls st0) := by
  obtain ⟨r, m2, h1, h2⟩ := bnd_inv h
  obtain ⟨hb, h1⟩ := cl_inv h1
  have h9 : bnd f K mm = some z := by unfold bnd; rw [h1]; exact h2
  refine r_after (a := (Value.ref b :: As).toArray) hS (fun z1 hz1 => ?_) h9 kk
  refine va_runV C (hM z1 hz1) cw ⟨mU_blind, ?_, fun U hU hW => ⟨rfl, by rw [hU]; exact hH, mT.moved hW hT⟩⟩ rfl hn hsize hstack (lv_room hW) hdg hf
  obtain ⟨cell, q1, q2, q3, q4⟩ := r_obj hT hH hc ht hb
  exact ⟨cell, q1, by rw [q3]; rfl, by rw [q2]; exact (hT.1 t _ hc).2.1⟩
theorem r_callS {α : Type} {enc : α → Option Value} {f : HM α} {K : α → HM β} {y : MethodName} {bytes : ByteArray} {maxL mc ms n index : Nat} {ret : Option FieldType} {ws : List Cond} {rm : Room} {As : List Value} (C : CallFix p m c cc nL s args Ts own) (hT : mT D cA s) (hH : mH D cA base mm H) (hS : va_S (mA base) H0 H locs)
    (hM : ∀ z1, f mm = some z1 → Met l y ws rm (va_Pc As (mU D cA base mm)) (mQ enc D cA base z1) mc ms (mA base)) (cw : CallB R s args own index y bytes maxL ret ws rm mc ms n ∧ (Cond.static y).before args s = true) (hn : As.length = n) (hsize : ls.size = nL) (hstack : st0 = As.reverse ++ rest) (hW : (rest.map fun v => v.category).sum ≤ 8) (hdg : decode cc pc = .ok (.invokestatic index, 3)) (hf : cells + mc ≤ R.cells ∧ slots + ms ≤ R.slots) (h : bnd f K mm = some z)
    (kk : ∀ (r : α) (m2 : Mem) (H1 : Heap) (locs1 : List Loc), mH D cA base m2 H1 → va_S (mA base) H0 H1 locs1 → K r m2 = some z → W p l e R s m args below meth c H1 locs1 (cells + mc) (slots + ms) Q (F0 m (pc + 3) ls ((enc r).toList ++ rest))) : W p l e R s m args below meth c H locs cells slots Q (F0 m pc ls st0) := by
  refine r_after (a := As.toArray) hS (fun z1 hz1 => ?_) h kk
  exact va_runS C (hM z1 hz1) cw ⟨mU_blind, fun U hU hW => ⟨rfl, by rw [hU]; exact hH, mT.moved hW hT⟩⟩ rfl hn hsize hstack (lv_room hW) hdg hf
theorem r_callI {f : HM Unit} {K : Unit → HM β} {y : MethodName} {bytes : ByteArray} {maxL mc ms n index b : Nat} {ws : List Cond} {rm : Room} {As : List Value} (C : CallFix p m c cc nL s args Ts own) (hT : mT D cA s) (hH : mH D cA base mm H) (hS : va_S (mA base) H0 H locs)
    (hM : ∀ z1, f mm = some z1 → Met l y ws rm (va_Pc (.ref b :: As) (mU D cA base mm)) (mQ eV D cA base z1) mc ms (mA base)) (cw : CallB R s args own index y bytes maxL none ws rm mc ms n ∧ y.name = "<init>" ∧ (Cond.instanceMethod y).before args s = true) (hn : As.length = n) (hsize : ls.size = nL) (hstack : st0 = As.reverse ++ .ref b :: rest) (hW : (rest.map fun v => v.category).sum ≤ 8) (hdg : decode cc pc = .ok (.invokespecial index, 3)) (hf : cells + mc ≤ R.cells ∧ slots + ms ≤ R.slots) (h : bnd f K mm = some z)
    (kk : ∀ (r : Unit) (m2 : Mem) (H1 : Heap) (locs1 : List Loc), mH D cA base m2 H1 → va_S (mA base) H0 H1 locs1 → K r m2 = some z → W p l e R s m args below meth c H1 locs1 (cells + mc) (slots + ms) Q (F0 m (pc + 3) ls rest)) : W p l e R s m args below meth c H locs cells slots Q (F0 m pc ls st0) := by
  refine r_after (enc := eV) (rest := rest) (mc := mc) (ms := ms) (D := D) (cA := cA) (a := (Value.ref b :: As).toArray) hS (fun z1 hz1 => ?_) h kk
  exact va_runI C (hM z1 hz1) cw ⟨mU_blind, fun U hU hW => ⟨rfl, by rw [hU]; exact hH, mT.moved hW hT⟩⟩ rfl hn hsize hstack (lv_room hW) hdg hf
theorem r_callIN {f : HM Unit} {K : Unit → HM β} {y : MethodName} {bytes : ByteArray} {maxL mc ms n index b : Nat} {ws : List Cond} {rm : Room} {As : List Value} {host : String} (C : CallFix p m c cc nL s args Ts own) (hT : mT D cA s) (hH : mH D cA base mm H) (hS : va_S (mA base) H0 H locs)
    (hM : ∀ z1, f mm = some z1 → Met l y ws rm (va_Pc (.ref b :: As) (mU D cA base mm)) (mQ eV D cA base z1) mc ms (mA base)) (cw : va_CN R s args own index y host bytes maxL none ws rm mc ms n ∧ y.name = "<init>" ∧ (Cond.instanceMethod y).before args s = true) (hn : As.length = n) (hsize : ls.size = nL) (hstack : st0 = As.reverse ++ .ref b :: rest) (hW : (rest.map fun v => v.category).sum ≤ 8) (hdg : decode cc pc = .ok (.invokespecial index, 3)) (hf : cells + mc ≤ R.cells ∧ slots + ms ≤ R.slots) (h : bnd f K mm = some z)
    (kk : ∀ (r : Unit) (m2 : Mem) (H1 : Heap) (locs1 : List Loc), mH D cA base m2 H1 → va_S (mA base) H0 H1 locs1 → K r m2 = some z → W p l e R s m args below meth c H1 locs1 (cells + mc) (slots + ms) Q (F0 m (pc + 3) ls rest)) : W p l e R s m args below meth c H locs cells slots Q (F0 m pc ls st0) := by
  refine r_after (enc := eV) (rest := rest) (mc := mc) (ms := ms) (D := D) (cA := cA) (a := (Value.ref b :: As).toArray) hS (fun z1 hz1 => ?_) h kk
  exact va_runIN C (hM z1 hz1) cw ⟨mU_blind, fun U hU hW => ⟨rfl, by rw [hU]; exact hH, mT.moved hW hT⟩⟩ rfl hn hsize hstack (lv_room hW) hdg hf
theorem r_callVI {f : HM Int32} {K : Int32 → HM β} {y : MethodName} {bytes : ByteArray} {maxL mc ms n index t b N : Nat} {ret : Option FieldType} {ws : List Cond} {rm : Room} {As : List Value} {Cn : String} {T : u_T} (C : CallFix p m c cc nL s args Ts own) (hT : mT D cA s) (hH : mH D cA base mm H) (hS : va_S (mA base) H0 H locs)
    (hM : ∀ z1, f mm = some z1 → Met l y ws rm (va_Pc (.ref b :: As) (mU D cA base mm)) (mQ eI D cA base z1) mc ms (mA base)) (cw : CallW R s args own Cn index y bytes maxL ret ws rm mc ms n) (hc : vwCl[t]? = some (Cn, T, N)) (ht : t < 5) (hn : As.length = n) (hsize : ls.size = nL) (hstack : st0 = As.reverse ++ .ref b :: rest) (hW : (rest.map fun v => v.category).sum ≤ 8) (hdg : decode cc pc = .ok (.invokevirtual index, 3)) (hf : cells + mc ≤ R.cells ∧ slots + ms ≤ R.slots) (h : bnd (cl t b f) K mm = some z)
    (kk : ∀ (r : Int32) (m2 : Mem) (H1 : Heap) (locs1 : List Loc), mH D cA base m2 H1 → va_S (mA base) H0 H1 locs1 → K r m2 = some z → W p l e R s m args below meth c H1 locs1 (cells + mc) (slots + ms) Q (F0 m (pc + 3) ls (.int r :: rest))) : W p l e R s m args below meth c H locs cells slots Q (F0 m pc ls st0) := r_callV C hT hH hS hM cw hc ht hn hsize hstack hW hdg hf h kk
theorem r_callVV {f : HM Unit} {K : Unit → HM β} {y : MethodName} {bytes : ByteArray} {maxL mc ms n index t b N : Nat} {ret : Option FieldType} {ws : List Cond} {rm : Room} {As : List Value} {Cn : String} {T : u_T} (C : CallFix p m c cc nL s args Ts own) (hT : mT D cA s) (hH : mH D cA base mm H) (hS : va_S (mA base) H0 H locs)
    (hM : ∀ z1, f mm = some z1 → Met l y ws rm (va_Pc (.ref b :: As) (mU D cA base mm)) (mQ eV D cA base z1) mc ms (mA base)) (cw : CallW R s args own Cn index y bytes maxL ret ws rm mc ms n) (hc : vwCl[t]? = some (Cn, T, N)) (ht : t < 5) (hn : As.length = n) (hsize : ls.size = nL) (hstack : st0 = As.reverse ++ .ref b :: rest) (hW : (rest.map fun v => v.category).sum ≤ 8) (hdg : decode cc pc = .ok (.invokevirtual index, 3)) (hf : cells + mc ≤ R.cells ∧ slots + ms ≤ R.slots) (h : bnd (cl t b f) K mm = some z)
    (kk : ∀ (r : Unit) (m2 : Mem) (H1 : Heap) (locs1 : List Loc), mH D cA base m2 H1 → va_S (mA base) H0 H1 locs1 → K r m2 = some z → W p l e R s m args below meth c H1 locs1 (cells + mc) (slots + ms) Q (F0 m (pc + 3) ls rest)) : W p l e R s m args below meth c H locs cells slots Q (F0 m pc ls st0) := r_callV C hT hH hS hM cw hc ht hn hsize hstack hW hdg hf h kk
theorem r_callVN {f : HM Nat} {K : Nat → HM β} {y : MethodName} {bytes : ByteArray} {maxL mc ms n index t b N : Nat} {ret : Option FieldType} {ws : List Cond} {rm : Room} {As : List Value} {Cn : String} {T : u_T} (C : CallFix p m c cc nL s args Ts own) (hT : mT D cA s) (hH : mH D cA base mm H) (hS : va_S (mA base) H0 H locs)
    (hM : ∀ z1, f mm = some z1 → Met l y ws rm (va_Pc (.ref b :: As) (mU D cA base mm)) (mQ eN D cA base z1) mc ms (mA base)) (cw : CallW R s args own Cn index y bytes maxL ret ws rm mc ms n) (hc : vwCl[t]? = some (Cn, T, N)) (ht : t < 5) (hn : As.length = n) (hsize : ls.size = nL) (hstack : st0 = As.reverse ++ .ref b :: rest) (hW : (rest.map fun v => v.category).sum ≤ 8) (hdg : decode cc pc = .ok (.invokevirtual index, 3)) (hf : cells + mc ≤ R.cells ∧ slots + ms ≤ R.slots) (h : bnd (cl t b f) K mm = some z)
    (kk : ∀ (r : Nat) (m2 : Mem) (H1 : Heap) (locs1 : List Loc), mH D cA base m2 H1 → va_S (mA base) H0 H1 locs1 → K r m2 = some z → W p l e R s m args below meth c H1 locs1 (cells + mc) (slots + ms) Q (F0 m (pc + 3) ls (.ref r :: rest))) : W p l e R s m args below meth c H locs cells slots Q (F0 m pc ls st0) := r_callV C hT hH hS hM cw hc ht hn hsize hstack hW hdg hf h kk
theorem r_callVQ {f : HM (Option Nat)} {K : Option Nat → HM β} {y : MethodName} {bytes : ByteArray} {maxL mc ms n index t b N : Nat} {ret : Option FieldType} {ws : List Cond} {rm : Room} {As : List Value} {Cn : String} {T : u_T} (C : CallFix p m c cc nL s args Ts own) (hT : mT D cA s) (hH : mH D cA base mm H) (hS : va_S (mA base) H0 H locs)
    (hM : ∀ z1, f mm = some z1 → Met l y ws rm (va_Pc (.ref b :: As) (mU D cA base mm)) (mQ eQ D cA base z1) mc ms (mA base)) (cw : CallW R s args own Cn index y bytes maxL ret ws rm mc ms n) (hc : vwCl[t]? = some (Cn, T, N)) (ht : t < 5) (hn : As.length = n) (hsize : ls.size = nL) (hstack : st0 = As.reverse ++ .ref b :: rest) (hW : (rest.map fun v => v.category).sum ≤ 8) (hdg : decode cc pc = .ok (.invokevirtual index, 3)) (hf : cells + mc ≤ R.cells ∧ slots + ms ≤ R.slots) (h : bnd (cl t b f) K mm = some z)
    (kk : ∀ (r : Option Nat) (m2 : Mem) (H1 : Heap) (locs1 : List Loc), mH D cA base m2 H1 → va_S (mA base) H0 H1 locs1 → K r m2 = some z → W p l e R s m args below meth c H1 locs1 (cells + mc) (slots + ms) Q (F0 m (pc + 3) ls (va_rf r :: rest))) : W p l e R s m args below meth c H locs cells slots Q (F0 m pc ls st0) := r_callV C hT hH hS hM cw hc ht hn hsize hstack hW hdg hf h kk
theorem r_callSI {f : HM Int32} {K : Int32 → HM β} {y : MethodName} {bytes : ByteArray} {maxL mc ms n index : Nat} {ret : Option FieldType} {ws : List Cond} {rm : Room} {As : List Value} (C : CallFix p m c cc nL s args Ts own) (hT : mT D cA s) (hH : mH D cA base mm H) (hS : va_S (mA base) H0 H locs)
    (hM : ∀ z1, f mm = some z1 → Met l y ws rm (va_Pc As (mU D cA base mm)) (mQ eI D cA base z1) mc ms (mA base)) (cw : CallB R s args own index y bytes maxL ret ws rm mc ms n ∧ (Cond.static y).before args s = true) (hn : As.length = n) (hsize : ls.size = nL) (hstack : st0 = As.reverse ++ rest) (hW : (rest.map fun v => v.category).sum ≤ 8) (hdg : decode cc pc = .ok (.invokestatic index, 3)) (hf : cells + mc ≤ R.cells ∧ slots + ms ≤ R.slots) (h : bnd f K mm = some z)
    (kk : ∀ (r : Int32) (m2 : Mem) (H1 : Heap) (locs1 : List Loc), mH D cA base m2 H1 → va_S (mA base) H0 H1 locs1 → K r m2 = some z → W p l e R s m args below meth c H1 locs1 (cells + mc) (slots + ms) Q (F0 m (pc + 3) ls (.int r :: rest))) : W p l e R s m args below meth c H locs cells slots Q (F0 m pc ls st0) := r_callS C hT hH hS hM cw hn hsize hstack hW hdg hf h kk
theorem r_callSV {f : HM Unit} {K : Unit → HM β} {y : MethodName} {bytes : ByteArray} {maxL mc ms n index : Nat} {ret : Option FieldType} {ws : List Cond} {rm : Room} {As : List Value} (C : CallFix p m c cc nL s args Ts own) (hT : mT D cA s) (hH : mH D cA base mm H) (hS : va_S (mA base) H0 H locs)
    (hM : ∀ z1, f mm = some z1 → Met l y ws rm (va_Pc As (mU D cA base mm)) (mQ eV D cA base z1) mc ms (mA base)) (cw : CallB R s args own index y bytes maxL ret ws rm mc ms n ∧ (Cond.static y).before args s = true) (hn : As.length = n) (hsize : ls.size = nL) (hstack : st0 = As.reverse ++ rest) (hW : (rest.map fun v => v.category).sum ≤ 8) (hdg : decode cc pc = .ok (.invokestatic index, 3)) (hf : cells + mc ≤ R.cells ∧ slots + ms ≤ R.slots) (h : bnd f K mm = some z)
    (kk : ∀ (r : Unit) (m2 : Mem) (H1 : Heap) (locs1 : List Loc), mH D cA base m2 H1 → va_S (mA base) H0 H1 locs1 → K r m2 = some z → W p l e R s m args below meth c H1 locs1 (cells + mc) (slots + ms) Q (F0 m (pc + 3) ls rest)) : W p l e R s m args below meth c H locs cells slots Q (F0 m pc ls st0) := r_callS C hT hH hS hM cw hn hsize hstack hW hdg hf h kk
theorem r_dv {K : Int32 → HM β} {x y : Int32} (C : CallFix p m c cc nL s args Ts own) (hdg : decode cc pc = .ok (.idiv, 1)) (h : bnd (dv x y) K mm = some z)
    (kk : ∀ v, K v mm = some z → W p l e R s m args below meth c H locs cells slots Q (F0 m (pc + 1) ls (.int v :: rest))) : W p l e R s m args below meth c H locs cells slots Q (F0 m pc ls (.int y :: .int x :: rest)) := by
  obtain ⟨v, m', h1, h2⟩ := bnd_inv h
  obtain ⟨hy, rfl, rfl⟩ := dv_inv h1
  exact lv_idiv C.1 C.2.1 hdg hy (kk _ h2)
/-! returns -/
theorem r_iret {z : Int32 × Mem} {v : Int32} {mc ms : Nat} (C : CallFix p m c cc nL s args Ts own) (hT : mT D cA s) (hH : mH D cA base mm H) (hS : va_S (mA base) s.heap H locs) (hr : meth.sig.returnType = some .int) (hlocks : meth.locks = false) (hc : cells ≤ mc) (hs : slots ≤ ms) (hdg : decode cc pc = .ok (.ireturn, 1)) (h : rt v mm = some z) : W p l e R s m args below meth c H locs cells slots (MQ below (mQ eI D cA base z) args s mc ms (mA base)) (F0 m pc ls [.int v]) := by
  obtain rfl := rt_inv h
  refine W.widen hc hs ?_
  exact W.iret C.1 C.2.1 hr (fun t ht hW => ⟨rfl, ⟨by rw [ht]; exact hH, hT.moved hW⟩, hS.F ht⟩) hS.2.2 hdg hlocks
theorem r_zret {z : Int32 × Mem} {v : Int32} {mc ms : Nat} (C : CallFix p m c cc nL s args Ts own) (hT : mT D cA s) (hH : mH D cA base mm H) (hS : va_S (mA base) s.heap H locs) (hr : meth.sig.returnType = some .boolean) (hlocks : meth.locks = false) (hc : cells ≤ mc) (hs : slots ≤ ms) (hdg : decode cc pc = .ok (.ireturn, 1)) (h : rz v mm = some z) : W p l e R s m args below meth c H locs cells slots (MQ below (mQ eI D cA base z) args s mc ms (mA base)) (F0 m pc ls [.int v]) := by
  obtain ⟨hv, e1⟩ := ite_inv h
  subst e1
  refine W.widen hc hs ?_
  exact W.zret C.1 C.2.1 hr (by rcases hv with rfl | rfl <;> rfl) (fun t ht hW => ⟨rfl, ⟨by rw [ht]; exact hH, hT.moved hW⟩, hS.F ht⟩) hS.2.2 hdg hlocks
theorem r_vret {z : Unit × Mem} {mc ms : Nat} (C : CallFix p m c cc nL s args Ts own) (hT : mT D cA s) (hH : mH D cA base mm H) (hS : va_S (mA base) s.heap H locs) (hr : meth.sig.returnType = none) (hlocks : meth.locks = false) (hc : cells ≤ mc) (hs : slots ≤ ms) (hdg : decode cc pc = .ok (.return_, 1)) (h : rt () mm = some z) : W p l e R s m args below meth c H locs cells slots (MQ below (mQ eV D cA base z) args s mc ms (mA base)) (F0 m pc ls []) := by
  obtain rfl := rt_inv h
  refine W.widen hc hs ?_
  exact W.vret C.1 C.2.1 hr (fun t ht hW => ⟨rfl, ⟨by rw [ht]; exact hH, hT.moved hW⟩, hS.F ht⟩) hS.2.2 hdg hlocks
theorem r_aretN {z : Nat × Mem} {v : Nat} {mc ms : Nat} {Cs : String} (C : CallFix p m c cc nL s args Ts own) (hT : mT D cA s) (hH : mH D cA base mm H) (hS : va_S (mA base) s.heap H locs) (hr : meth.sig.returnType = some (.object Cs)) (hlocks : meth.locks = false) (hc : cells ≤ mc) (hs : slots ≤ ms) (hdg : decode cc pc = .ok (.areturn, 1)) (h : rt v mm = some z) : W p l e R s m args below meth c H locs cells slots (MQ below (mQ eN D cA base z) args s mc ms (mA base)) (F0 m pc ls [.ref v]) := by
  obtain rfl := rt_inv h
  refine W.widen hc hs ?_
  exact W.aret C.1 C.2.1 hr (Or.inl ⟨_, rfl⟩) (Or.inr ⟨_, rfl⟩) (fun t ht hW => ⟨rfl, ⟨by rw [ht]; exact hH, hT.moved hW⟩, hS.F ht⟩) hS.2.2 hdg hlocks
theorem r_aretQ {z : Option Nat × Mem} {v : Option Nat} {mc ms : Nat} {Cs : String} (C : CallFix p m c cc nL s args Ts own) (hT : mT D cA s) (hH : mH D cA base mm H) (hS : va_S (mA base) s.heap H locs) (hr : meth.sig.returnType = some (.object Cs)) (hlocks : meth.locks = false) (hc : cells ≤ mc) (hs : slots ≤ ms) (hdg : decode cc pc = .ok (.areturn, 1)) (h : rt v mm = some z) : W p l e R s m args below meth c H locs cells slots (MQ below (mQ eQ D cA base z) args s mc ms (mA base)) (F0 m pc ls [va_rf v]) := by
  obtain rfl := rt_inv h
  refine W.widen hc hs ?_
  exact W.aret C.1 C.2.1 hr (Or.inl ⟨_, rfl⟩) (by cases v with
    | none => exact Or.inl rfl
    | some a => exact Or.inr ⟨a, rfl⟩) (fun t ht hW => ⟨rfl, ⟨by rw [ht]; exact hH, hT.moved hW⟩, hS.F ht⟩) hS.2.2 hdg hlocks
end MCL
theorem dfX0 : ∀ k, k < 3 → defaultValue (tyX0 k) = oV 0 (fun _ => 0) (fun _ => none) k := by decide +kernel
theorem dfX1 : ∀ k, k < 6 → defaultValue (tyX1 k) = oV 1 (fun _ => 0) (fun _ => none) k := by decide +kernel
theorem dfX2 : ∀ k, k < 8 → defaultValue (tyX2 k) = oV 2 (fun _ => 0) (fun _ => none) k := by decide +kernel
theorem dfX3 : ∀ k, k < 11 → defaultValue (tyX3 k) = oV 3 (fun _ => 0) (fun _ => none) k := by decide +kernel
theorem dfX4 : ∀ k, k < 34 → defaultValue (tyX4 k) = oV 4 (fun _ => 0) (fun _ => none) k := by decide +kernel
theorem r_outer (c : ClassId) (N h0 : Nat) : ∀ i : Nat, Jvm.Free.Multi.outerC c N h0 i = arrV c N (fun j => va_rf (if j < i then some (h0 + 1 + j) else none)) := by
  intro i
  induction i with
  | zero =>
    show ({ cls := c, slots := Array.replicate N .null, vm := .none } : Cell) = _
    rw [arrV_new]
    refine congrArg (arrV c N) (funext fun j => ?_)
    simp [va_rf]
  | succ i ih =>
    show (Jvm.Free.Multi.outerC c N h0 i).setSlot i (.ref (h0 + 1 + i)) = _
    rw [ih, arrV_store]
    refine congrArg (arrV c N) (funext fun j => ?_)
    by_cases e : j = i
    · subst e
      simp [updV, va_rf]
    · by_cases h : j < i
      · simp [updV, e, h, Nat.lt_succ_of_lt h]
      · simp [updV, e, h, show ¬ j < i + 1 by omega]
section MN4
variable {p : Program} {l : Launch} {e : Env} {R : Room} {s : State} {m : MethodId} {args : Array Value} {below : List Frame} {meth : Method} {c : Code} {H : Heap} {locs : List Loc} {cells slots : Nat} {Q : State → Prop}
variable {cc : ByteArray} {nL pc : Nat} {ls : Array Slot} {rest st0 : List Value} {D : va_G} {cA : Nat → ClassId} {base : Nat} {H0 : Heap} {Ts : List Cond} {own : String} {β : Type} {mm : Mem} {z : β × Mem}
/-- new int[4][100] -/
theorem r_n4 {K : Nat → HM β} {index : Nat} (C : CallFix p m c cc nL s args Ts own) (hT : mT D cA s) (hH : mH D cA base mm H) (hS0 : va_S (mA base) H0 H locs) (hl : Cond.classLink own index ("[" ++ (FieldType.array .int).toString) ∈ Ts) (harr : Cond.arrayClass .int ∈ Ts) (hcells : cells + 5 ≤ R.cells) (hslots : slots + 404 ≤ R.slots) (hdg : decode cc pc = .ok (.multianewarray index 2, 4)) (h : bnd n4 K mm = some z)
    (kk : ∀ (q : Nat) (m2 : Mem) (H1 : Heap), mH D cA base m2 H1 → va_S (mA base) H0 H1 locs → K q m2 = some z → W p l e R s m args below meth c H1 locs (cells + 5) (slots + 404) Q (F0 m (pc + 4) ls (.ref q :: rest))) : W p l e R s m args below meth c H locs cells slots Q (F0 m pc ls (.int 100 :: .int 4 :: rest)) := by
  obtain ⟨u, m', h1, h2⟩ := bnd_inv h
  cases h1
  intro T hTh X
  have n4' : (4 : Int32).toNatClampNeg = 4 := by decide
  have n1' : (100 : Int32).toNatClampNeg = 100 := by decide
  have hov : (Cond.arrayOver (.array .int)).before args s = true := hT.2.2.2.1
  obtain ⟨vm₁, c1, comp, -, fA, fC, hO, -, X', step⟩ := Jvm.Stand.multianewarray2F X C.1 C.2.2.2.1 (C.2.2.2.2 _ hl) hov (C.2.2.2.2 _ harr) (g := F0 m pc ls (.int 100 :: .int 4 :: rest)) rfl (by rw [C.2.1]; exact hdg) rfl (by decide) (by decide) (by decide) (by decide) (by decide) (by decide) (by decide) (by rw [n4']; omega) (by rw [n4', n1']; omega)
  rw [n4', n1'] at X' step
  have e8 : c1 = cA 8 := Option.some.inj (fA.symm.trans (hT.2.1 8 (by decide) (by decide)).2)
  have e5 : comp = cA 5 := Option.some.inj (fC.symm.trans (hT.2.1 5 (by decide) (by decide)).2)
  subst e8
  subst e5
  generalize hF : Jvm.Free.Multi.fill (T.setVm vm₁) (cA 8) (cA 5) 4 100 (defaultValue .int) 4 = F at X' step
  have hTh2 : (T.setVm vm₁).heap = H := hTh
  obtain ⟨f1, f2, -, -⟩ := Jvm.Free.Multi.fill_facts (T.setVm vm₁) (cA 8) (cA 5) 4 100 (defaultValue .int) 4
  rw [hF, hTh2] at f1 f2
  have hold : ∀ x : Nat, x < H.size → F.heap[x]? = H[x]? := fun x hx => by
    have := Jvm.Free.Multi.fill_old (T.setVm vm₁) (cA 8) (cA 5) 4 100 (defaultValue .int) (a := x) (by rw [hTh2]; exact hx) 4
    rw [hF, hTh2] at this
    exact this
  have hrow : ∀ j : Nat, j < 4 → F.heap[H.size + 1 + j]? = some (arrV (cA 5) 100 (fun _ => defaultValue .int)) := fun j hj => by
    have := Jvm.Free.Multi.fill_inner (T.setVm vm₁) (cA 8) (cA 5) 4 100 (defaultValue .int) 4 j hj
    rw [hF, hTh2] at this
    rw [this, ← arrV_new]
    rfl
  rw [r_outer] at f2
  obtain ⟨q1, q2, q3, q4⟩ := id hH
  have hm : mH D cA base (allo4 mm) F.heap := by
    refine ⟨by rw [f1, mS_allo4]; omega, by rw [mS_allo4]; omega, fun a ha => ?_, fun b => ?_⟩
    · rw [mK_allo4] at ha
      rw [mS_allo4]
      by_cases g1 : a = mS mm
      · omega
      · rw [if_neg g1] at ha
        by_cases g2 : mS mm < a ∧ a ≤ mS mm + 4
        · omega
        · rw [if_neg g2] at ha
          have := q3 a ha
          omega
    · by_cases g1 : b = mS mm
      · subst g1
        unfold mC
        rw [mK_allo4, if_pos rfl]
        refine ⟨fun q => absurd q (by omega), fun _ _ => ?_⟩
        rw [← q1, f2, q1, mN_allo4, if_pos rfl]
        refine congrArg (fun f => some (arrV (cA 8) 4 f)) (funext fun j => ?_)
        have e : mR (allo4 mm) (mS mm) j = if j < 4 then some (mS mm + 1 + j) else none := by rw [mR_allo4, if_pos rfl]
        simp [aV, e]
      · by_cases g2 : mS mm < b ∧ b ≤ mS mm + 4
        · obtain ⟨j, hj, rfl⟩ : ∃ j, j < 4 ∧ b = mS mm + 1 + j := ⟨b - (mS mm + 1), by omega, by omega⟩
          unfold mC
          rw [mK_allo4, if_neg g1, if_pos g2]
          refine ⟨fun q => absurd q (by omega), fun _ _ => ?_⟩
          rw [← q1, hrow j hj, q1, mN_allo4, if_neg g1, if_pos g2]
          refine congrArg (fun f => some (arrV (cA 5) 100 f)) (funext fun k => ?_)
          have e : mI (allo4 mm) (mS mm + 1 + j) k = 0 := by rw [mI_allo4, if_pos (by omega)]
          simp [aV, e]
          rfl
        · refine mC_keep (m := mm) (H := H) (by rw [mK_allo4, if_neg g1, if_neg g2]) (by rw [mN_allo4, if_neg g1, if_neg g2]) (funext fun j => by rw [mI_allo4, if_neg (by omega)]) (funext fun j => by rw [mR_allo4, if_neg g1, if_neg g2]) (fun hb => hold b (by rw [q1]; exact (q3 b hb).2)) (q4 b)
  obtain ⟨t, a1, b1⟩ := kk (mS mm) _ F.heap hm (va_S_new hH hS0 (by rw [f1, q1]; omega) (fun q hq => hold q (by rw [q1]; exact hq))) h2 F rfl X'
  refine ⟨t, step t ?_, b1⟩
  have e : T.heap.size = mS mm := by rw [hTh, q1]
  rw [e]
  exact a1
/-- System.arraycopy of a whole int row -/
theorem r_cp {K : Unit → HM β} {index a b : Nat} {sp dp n : Int32} (C : CallFix p m c cc nL s args Ts own) (hT : mT D cA s) (hH : mH D cA base mm H) (hS0 : va_S (mA base) H0 H locs) (hsz : ls.size = nL) (hlink : Cond.methodLink own index arraycopyName ∈ Ts) (hnat : Cond.native arraycopyName ∈ Ts) (hstat : Cond.static arraycopyName ∈ Ts) (hini : Cond.initialized "java/lang/System" ∈ Ts) (hframes : 1 ≤ R.frames) (hlocals : (rest.map fun v => v.category).sum + (nativeFrameWords "java/lang/System" "arraycopy" 5 + 11) ≤ R.locals) (hdg : decode cc pc = .ok (.invokestatic index, 3)) (h : bnd (cp a sp b dp n) K mm = some z)
    (kk : ∀ (m2 : Mem) (H1 : Heap) (locs1 : List Loc), mH D cA base m2 H1 → va_S (mA base) H0 H1 locs1 → K () m2 = some z → W p l e R s m args below meth c H1 locs1 cells slots Q (F0 m (pc + 3) ls rest)) : W p l e R s m args below meth c H locs cells slots Q (F0 m pc ls (.int n :: .int dp :: .ref b :: .int sp :: .ref a :: rest)) := by
  obtain ⟨u, m', h1, h2⟩ := bnd_inv h
  obtain ⟨⟨⟨hKa, hKb, hab⟩, ⟨hNa, hNb⟩, rfl, rfl, rfl⟩, e1⟩ := ite_inv h1
  cases e1
  have hc0 := r_arr hH hKa (by decide) (by decide)
  have hc1 := r_arr hH hKb (by decide) (by decide)
  rw [hNa] at hc0
  rw [hNb] at hc1
  intro T hTh X
  obtain ⟨-, k0, hk0, cm0, hkk0⟩ := (hT.2.1 5 (by decide) (by decide)).1 100 (fun j => .int (mI mm a j))
  have n0 : (0 : Int32).toNatClampNeg = 0 := by decide
  have n1 : (100 : Int32).toNatClampNeg = 100 := by decide
  obtain ⟨vm', X', step⟩ := X.arraycopy C.1 C.2.2.2.1 (C.2.2.2.2 _ hlink) (C.2.2.2.2 _ hnat) (C.2.2.2.2 _ hstat) (C.2.2.2.2 _ hini) (src := a) (dst := b) (cs := vp_cell (cA 5) (100, .inl (mI mm a))) (cd := vp_cell (cA 5) (100, .inl (mI mm b))) (srcPos := 0) (destPos := 0) (n := 100) (by rw [hTh, hc0]; rfl) (by rw [hTh, hc1]; rfl)
    (fun _ h => by cases h) (fun _ h => by cases h) (fun h => by cases h) (fun h => by cases h) hk0 hk0 hkk0 hkk0 (by simp [tyA, refKind]) (by decide) (by decide) (by decide)
    (by have h9 : (vp_cell (cA 5) (100, .inl (mI mm a))).slots.size = 100 := arrV_size (cA 5) 100 (fun j => .int (mI mm a j)); rw [h9]; decide)
    (by have h9 : (vp_cell (cA 5) (100, .inl (mI mm b))).slots.size = 100 := arrV_size (cA 5) 100 (fun j => .int (mI mm b j)); rw [h9]; decide)
    (fun vm₁ _ i hi => by
      rw [n1] at hi
      have e : (vp_cell (cA 5) (100, .inl (mI mm a))).slots.getD ((0 : Int32).toNatClampNeg + i) .null = .int (mI mm a i) := by
        show (arrV (cA 5) 100 (fun j => .int (mI mm a j))).slots.getD _ _ = _
        rw [Array.getD_eq_getD_getElem?, n0, Nat.zero_add, arrV_read _ _ hi]
        rfl
      refine ⟨?_, ?_⟩
      · rw [e]
        rfl
      · rw [e]
        exact trivial)
    (g := F0 m pc ls (.int 100 :: .int 0 :: .ref b :: .int 0 :: .ref a :: rest)) rfl (by rw [C.2.2.1]; exact hsz) (rest := rest) rfl (by rw [C.2.1]; exact hdg) hframes (by show 2 * 0 + _ + _ ≤ _; omega)
  have e1 : copied (vp_cell (cA 5) (100, .inl (mI mm a))) (vp_cell (cA 5) (100, .inl (mI mm b))) 0 0 100 = vp_cell (cA 5) (100, .inl (va_cpy (mI mm a) (mI mm b) 0 0 100)) := by
    have := va_copied (fun z => .int z) (cA 5) (cA 5) (mI mm a) (mI mm b) (n0 := 100) (n1 := 100) (sp := 0) (dp := 0) (n := 100) (by decide)
    exact this
  rw [e1] at X' step
  have hbs : b < H.size := (Array.getElem?_eq_some_iff.mp hc1).1
  generalize hcell : vp_cell (cA 5) (100, .inl (va_cpy (mI mm a) (mI mm b) 0 0 100)) = cell at X' step
  have hheap : ((T.setVm vm').setCell b cell).heap = H.setIfInBounds b cell := by rw [← hTh]; rfl
  have oq : ∀ q : Nat, q ≠ b → (H.setIfInBounds b cell)[q]? = H[q]? := fun q hq => by simp [Array.getElem?_setIfInBounds, Ne.symm hq]
  have zq : (H.setIfInBounds b cell).size = H.size := by simp
  have hm : mH D cA base (cpyI mm a b) (H.setIfInBounds b cell) := by
    refine mH_set (a := b) hH rfl rfl rfl (fun c hc => funext fun j => ?_) (fun c hc => rfl) zq oq ?_
    · rw [mI_cpyI, if_neg (fun q => hc q.1)]
    · unfold mC
      rw [mK_cpyI, hKb]
      refine ⟨fun q => absurd q (by omega), fun _ _ => ?_⟩
      rw [Array.getElem?_setIfInBounds, if_pos rfl, if_pos hbs, mN_cpyI, hNb, ← hcell]
      refine congrArg some ?_
      show arrV (cA 5) 100 (fun j => .int (va_cpy (mI mm a) (mI mm b) 0 0 100 j)) = _
      refine congrArg (arrV (cA 5) 100) (funext fun j => ?_)
      by_cases hj : j < 100
      · simp [aV, va_cpy, mI_cpyI, hj]
      · simp [aV, va_cpy, mI_cpyI, hj]
  have hba : base ≤ b := (hH.2.2.1 b (by rw [hKb]; decide)).1
  obtain ⟨t, a1, b1⟩ := kk _ _ _ hm ⟨by rw [zq]; exact hS0.1, fun q g1 g2 => by
      rw [oq q (fun e => g2 (by rw [e]; exact hba))]
      exact hS0.2.1 q g1 g2, fun q hq => by
      rcases List.mem_append.mp hq with h | h
      · exact hS0.2.2 q h
      · obtain ⟨z, -, hz⟩ := List.mem_map.mp h
        rw [← hz]
        exact hba⟩ h2 _ hheap X'
  exact ⟨t, step t a1, b1⟩
end MN4
