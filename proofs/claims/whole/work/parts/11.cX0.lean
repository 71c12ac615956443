/-! The bytecode computes the functions of 05f: written by wip/tools/gen.py -/
abbrev rm_X0_init : Room := { frames := 1, cells := 2, slots := 12, locals := 12 }
set_option maxHeartbeats 4000000 in
set_option maxRecDepth 100000 in
theorem c_X0_init (l : Launch) (D : va_G) (cA : Nat → ClassId) (base : Nat) (a0 : Nat) (mm : Mem) (z : (Unit) × Mem) (h : f_X0_init a0 mm = some z) : Met l yX0_init wsX0_init rm_X0_init (va_Pc [.ref a0] (mU D cA base mm)) (mQ eV D cA base z) 2 12 (mA base) := by
  refine Met.ofW (cc := cX0_init) (maxL := 1) (ret := none) (by decide) rfl ?_
  intro p e s m args below meth c s₁ B hml hv
  obtain ⟨rfl, hH, hT⟩ := hv
  have C : CallFix p m c cX0_init 1 s ([.ref a0]).toArray wsX0_init RX0 := ⟨B.exec, B.bytes, hml, findClass_of_methodNamed B.named, atoms_spec (ws := wsX0_init) B.pre⟩
  have hr := B.returns
  have hlocks := B.notSynchronized
  have hin : meth.name = "<init>" := (name_of_methodNamed B.named B.method).1
  have w0 : ∀ w ∈ u_ws RX0 TX0 3, w ∈ wsX0_init := by decide +kernel
  have k9 : Cond.fieldLink RX0 9 "SegmentMerges$Memory" "keys" "[I" ∈ wsX0_init := by decide +kernel
  have k15 : Cond.fieldLink RX0 15 "SegmentMerges$Memory" "values" "[I" ∈ wsX0_init := by decide +kernel
  have k18 : Cond.fieldLink RX0 18 "SegmentMerges$Memory" "size" "I" ∈ wsX0_init := by decide +kernel
  have hS : va_S (mA base) s.heap s.heap [] := va_S.rf
  have hl := lv_entry ([.ref a0]) (n := 1) (Nat.le_of_ble_eq_true rfl)
  rw [lg_entry_eq]
  generalize (lg_sl ([.ref a0]) ++ List.replicate (1 - (lg_sl ([.ref a0])).length) Slot.unset).toArray = ls at hl ⊢
  have hl : lv_has ls 1 [(0, .ref a0)] := hl
  unfold f_X0_init at h
  refine lv_aload_n C.1 C.2.1 dX0_init_0 rfl (lv_at hl 0 rfl) ?_
  refine W.objInit C.1 C.2.1 C.2.2.2.1 (C.2.2.2.2 _ (by decide +kernel)) (C.2.2.2.2 _ (by decide +kernel)) (C.2.2.2.2 _ (by decide +kernel)) rfl (by rw [C.2.2.1]; exact hl.1) rfl dX0_init_1 (Nat.le_of_ble_eq_true rfl) (Nat.le_of_ble_eq_true rfl) ?_
  refine lv_aload_n C.1 C.2.1 dX0_init_4 rfl (lv_at hl 0 rfl) ?_
  refine lv_bipush (v := 6) C.1 C.2.1 dX0_init_5 (by decide) ?_
  refine r_nA C hT hH hS (t := 5) (B := 6) (by decide) rfl (by decide +kernel) (by decide) (by decide) (by decide) dX0_init_7 h (fun b1 mm H hH hS h => ?_)
  refine r_pR C hT hH hS (t := 0) (k := 0) (T := TX0) rfl w0 tyX0_ok nmX0 (by decide) (by decide) rfl rfl rfl k9 (Or.inr ⟨rfl, hin, rfl⟩) dX0_init_9 h (fun mm H locs hH hS h => ?_)
  refine lv_aload_n C.1 C.2.1 dX0_init_12 rfl (lv_at hl 0 rfl) ?_
  refine lv_bipush (v := 6) C.1 C.2.1 dX0_init_13 (by decide) ?_
  refine r_nA C hT hH hS (t := 5) (B := 6) (by decide) rfl (by decide +kernel) (by decide) (by decide) (by decide) dX0_init_15 h (fun b2 mm H hH hS h => ?_)
  refine r_pR C hT hH hS (t := 0) (k := 1) (T := TX0) rfl w0 tyX0_ok nmX0 (by decide) (by decide) rfl rfl rfl k15 (Or.inr ⟨rfl, hin, rfl⟩) dX0_init_17 h (fun mm H locs hH hS h => ?_)
  refine lv_aload_n C.1 C.2.1 dX0_init_20 rfl (lv_at hl 0 rfl) ?_
  refine lv_iconst (v := 0) C.1 C.2.1 dX0_init_21 (by decide) ?_
  refine r_pI C hT hH hS (t := 0) (k := 2) (T := TX0) rfl w0 tyX0_ok nmX0 (by decide) (by decide) rfl rfl k18 (Or.inl rfl) dX0_init_22 h (fun mm H locs hH hS h => ?_)
  exact r_vret C hT hH hS hr hlocks (by decide) (by decide) dX0_init_25 h
abbrev rm_X0_find : Room := { frames := 0, cells := 0, slots := 0, locals := 0 }
set_option maxHeartbeats 4000000 in
set_option maxRecDepth 100000 in
theorem c_X0_find (l : Launch) (D : va_G) (cA : Nat → ClassId) (base : Nat) (a0 : Nat) (a1 : Int32) (mm : Mem) (z : (Int32) × Mem) (h : f_X0_find a0 a1 mm = some z) : Met l yX0_find wsX0_find rm_X0_find (va_Pc [.ref a0, .int a1] (mU D cA base mm)) (mQ eI D cA base z) 0 0 (mA base) := by
  refine Met.ofW (cc := cX0_find) (maxL := 3) (ret := (some .int)) (by decide) rfl ?_
  intro p e s m args below meth c s₁ B hml hv
  obtain ⟨rfl, hH, hT⟩ := hv
  have C : CallFix p m c cX0_find 3 s ([.ref a0, .int a1]).toArray wsX0_find RX0 := ⟨B.exec, B.bytes, hml, findClass_of_methodNamed B.named, atoms_spec (ws := wsX0_find) B.pre⟩
  have hr := B.returns
  have hlocks := B.notSynchronized
  have w0 : ∀ w ∈ u_ws RX0 TX0 3, w ∈ wsX0_find := by decide +kernel
  have k9 : Cond.fieldLink RX0 9 "SegmentMerges$Memory" "keys" "[I" ∈ wsX0_find := by decide +kernel
  have k18 : Cond.fieldLink RX0 18 "SegmentMerges$Memory" "size" "I" ∈ wsX0_find := by decide +kernel
  have L2 : ∀ (n : Nat) (x0 : Nat) (x1 : Int32) (x2 : Int32) (mm : Mem) (H : Heap) (locs : List Loc) (ls : Array Slot), mH D cA base mm H → va_S (mA base) s.heap H locs → lv_has ls 3 [(0, .ref x0), (1, .int x1), (2, .int x2)] → f_X0_find_L2 n x0 x1 x2 mm = some z → W p l e rm_X0_find s m [.ref a0, .int a1].toArray below meth c H locs 0 0 (MQ below (mQ eI D cA base z) [.ref a0, .int a1].toArray s 0 0 (mA base)) (F0 m 2 ls []) := by
    intro n
    induction n with
    | zero =>
      intro x0 x1 x2 mm H locs ls hH hS hl h
      exact (fl_inv h).elim
    | succ n ih =>
      intro x0 x1 x2 mm H locs ls hH hS hl h
      unfold f_X0_find_L2 at h
      refine lv_iload_n C.1 C.2.1 dX0_find_2 rfl (lv_at hl 2 rfl) ?_
      refine lv_aload_n C.1 C.2.1 dX0_find_3 rfl (lv_at hl 0 rfl) ?_
      refine r_gI C hT hH (t := 0) (k := 2) (T := TX0) rfl w0 (by decide) (by decide) rfl k18 dX0_find_4 h (fun v1 h => ?_)
      refine lv_icmp_ge (tgt := 28) C.1 C.2.1 dX0_find_7 (by decide) (fun hc => ?_) (fun hc => ?_)
      · have h := ifc_t hc h
        refine lv_iconst (v := (-1)) C.1 C.2.1 dX0_find_28 (by decide) ?_
        exact r_iret C hT hH hS hr hlocks (by decide) (by decide) dX0_find_29 h
      · have h := ifc_f hc h
        refine lv_aload_n C.1 C.2.1 dX0_find_10 rfl (lv_at hl 0 rfl) ?_
        refine r_gN C hT hH (t := 0) (k := 0) (T := TX0) rfl w0 (by decide) (by decide) rfl k9 dX0_find_11 h (fun b2 h => ?_)
        refine lv_iload_n C.1 C.2.1 dX0_find_14 rfl (lv_at hl 2 rfl) ?_
        refine r_lI C hT hH dX0_find_15 h (fun v3 h => ?_)
        refine lv_iload_n C.1 C.2.1 dX0_find_16 rfl (lv_at hl 1 rfl) ?_
        refine lv_icmp_ne (tgt := 22) C.1 C.2.1 dX0_find_17 (by decide) (fun hc => ?_) (fun hc => ?_)
        · have h := ifc_f hc h
          refine lv_iinc (v := (x2 + 1)) (lv' := [(2, .int (x2 + 1)), (0, .ref x0), (1, .int x1)]) C.1 C.2.1 dX0_find_22 hl (k := 2) rfl rfl (by decide) rfl (fun ls hl => ?_)
          refine lv_goto (tgt := 2) C.1 C.2.1 dX0_find_25 (by decide) ?_
          exact ih x0 x1 (x2 + 1) _ _ _ _ hH hS (lv_sub hl [1, 2, 0] rfl) h
        · have h := ifc_t hc h
          refine lv_iload_n C.1 C.2.1 dX0_find_20 rfl (lv_at hl 2 rfl) ?_
          exact r_iret C hT hH hS hr hlocks (by decide) (by decide) dX0_find_21 h
  have hS : va_S (mA base) s.heap s.heap [] := va_S.rf
  have hl := lv_entry ([.ref a0, .int a1]) (n := 3) (Nat.le_of_ble_eq_true rfl)
  rw [lg_entry_eq]
  generalize (lg_sl ([.ref a0, .int a1]) ++ List.replicate (3 - (lg_sl ([.ref a0, .int a1])).length) Slot.unset).toArray = ls at hl ⊢
  have hl : lv_has ls 3 [(0, .ref a0), (1, .int a1)] := hl
  unfold f_X0_find at h
  refine lv_iconst (v := 0) C.1 C.2.1 dX0_find_0 (by decide) ?_
  refine lv_istore_n (lv' := [(2, .int 0), (0, .ref a0), (1, .int a1)]) C.1 C.2.1 dX0_find_1 rfl hl (by decide) rfl (fun ls hl => ?_)
  exact L2 2100 a0 a1 0 _ _ _ _ hH hS (lv_sub hl [1, 2, 0] rfl) h
abbrev rm_X0_append : Room := { frames := 0, cells := 0, slots := 0, locals := 0 }
set_option maxHeartbeats 4000000 in
set_option maxRecDepth 100000 in
theorem c_X0_append (l : Launch) (D : va_G) (cA : Nat → ClassId) (base : Nat) (a0 : Nat) (a1 : Int32) (a2 : Int32) (mm : Mem) (z : (Unit) × Mem) (h : f_X0_append a0 a1 a2 mm = some z) : Met l yX0_append wsX0_append rm_X0_append (va_Pc [.ref a0, .int a1, .int a2] (mU D cA base mm)) (mQ eV D cA base z) 0 0 (mA base) := by
  refine Met.ofW (cc := cX0_append) (maxL := 3) (ret := none) (by decide) rfl ?_
  intro p e s m args below meth c s₁ B hml hv
  obtain ⟨rfl, hH, hT⟩ := hv
  have C : CallFix p m c cX0_append 3 s ([.ref a0, .int a1, .int a2]).toArray wsX0_append RX0 := ⟨B.exec, B.bytes, hml, findClass_of_methodNamed B.named, atoms_spec (ws := wsX0_append) B.pre⟩
  have hr := B.returns
  have hlocks := B.notSynchronized
  have w0 : ∀ w ∈ u_ws RX0 TX0 3, w ∈ wsX0_append := by decide +kernel
  have k9 : Cond.fieldLink RX0 9 "SegmentMerges$Memory" "keys" "[I" ∈ wsX0_append := by decide +kernel
  have k15 : Cond.fieldLink RX0 15 "SegmentMerges$Memory" "values" "[I" ∈ wsX0_append := by decide +kernel
  have k18 : Cond.fieldLink RX0 18 "SegmentMerges$Memory" "size" "I" ∈ wsX0_append := by decide +kernel
  have hS : va_S (mA base) s.heap s.heap [] := va_S.rf
  have hl := lv_entry ([.ref a0, .int a1, .int a2]) (n := 3) (Nat.le_of_ble_eq_true rfl)
  rw [lg_entry_eq]
  generalize (lg_sl ([.ref a0, .int a1, .int a2]) ++ List.replicate (3 - (lg_sl ([.ref a0, .int a1, .int a2])).length) Slot.unset).toArray = ls at hl ⊢
  have hl : lv_has ls 3 [(0, .ref a0), (1, .int a1), (2, .int a2)] := hl
  unfold f_X0_append at h
  refine lv_aload_n C.1 C.2.1 dX0_append_0 rfl (lv_at hl 0 rfl) ?_
  refine r_gN C hT hH (t := 0) (k := 0) (T := TX0) rfl w0 (by decide) (by decide) rfl k9 dX0_append_1 h (fun b1 h => ?_)
  refine lv_aload_n C.1 C.2.1 dX0_append_4 rfl (lv_at hl 0 rfl) ?_
  refine r_gI C hT hH (t := 0) (k := 2) (T := TX0) rfl w0 (by decide) (by decide) rfl k18 dX0_append_5 h (fun v2 h => ?_)
  refine lv_iload_n C.1 C.2.1 dX0_append_8 rfl (lv_at hl 1 rfl) ?_
  refine r_sI C hT hH hS dX0_append_9 h (fun mm H locs hH hS h => ?_)
  refine lv_aload_n C.1 C.2.1 dX0_append_10 rfl (lv_at hl 0 rfl) ?_
  refine r_gN C hT hH (t := 0) (k := 1) (T := TX0) rfl w0 (by decide) (by decide) rfl k15 dX0_append_11 h (fun b3 h => ?_)
  refine lv_aload_n C.1 C.2.1 dX0_append_14 rfl (lv_at hl 0 rfl) ?_
  refine r_gI C hT hH (t := 0) (k := 2) (T := TX0) rfl w0 (by decide) (by decide) rfl k18 dX0_append_15 h (fun v4 h => ?_)
  refine lv_iload_n C.1 C.2.1 dX0_append_18 rfl (lv_at hl 2 rfl) ?_
  refine r_sI C hT hH hS dX0_append_19 h (fun mm H locs hH hS h => ?_)
  refine lv_aload_n C.1 C.2.1 dX0_append_20 rfl (lv_at hl 0 rfl) ?_
  refine lv_dup C.1 C.2.1 dX0_append_21 rfl ?_
  refine r_gI C hT hH (t := 0) (k := 2) (T := TX0) rfl w0 (by decide) (by decide) rfl k18 dX0_append_22 h (fun v5 h => ?_)
  refine lv_iconst (v := 1) C.1 C.2.1 dX0_append_25 (by decide) ?_
  refine lv_iadd C.1 C.2.1 dX0_append_26 ?_
  refine r_pI C hT hH hS (t := 0) (k := 2) (T := TX0) rfl w0 tyX0_ok nmX0 (by decide) (by decide) rfl rfl k18 (Or.inl rfl) dX0_append_27 h (fun mm H locs hH hS h => ?_)
  exact r_vret C hT hH hS hr hlocks (by decide) (by decide) dX0_append_30 h
abbrev rm_X0_removeAt : Room := { frames := 0, cells := 0, slots := 0, locals := 0 }
set_option maxHeartbeats 4000000 in
set_option maxRecDepth 100000 in
theorem c_X0_removeAt (l : Launch) (D : va_G) (cA : Nat → ClassId) (base : Nat) (a0 : Nat) (a1 : Int32) (mm : Mem) (z : (Unit) × Mem) (h : f_X0_removeAt a0 a1 mm = some z) : Met l yX0_removeAt wsX0_removeAt rm_X0_removeAt (va_Pc [.ref a0, .int a1] (mU D cA base mm)) (mQ eV D cA base z) 0 0 (mA base) := by
  refine Met.ofW (cc := cX0_removeAt) (maxL := 3) (ret := none) (by decide) rfl ?_
  intro p e s m args below meth c s₁ B hml hv
  obtain ⟨rfl, hH, hT⟩ := hv
  have C : CallFix p m c cX0_removeAt 3 s ([.ref a0, .int a1]).toArray wsX0_removeAt RX0 := ⟨B.exec, B.bytes, hml, findClass_of_methodNamed B.named, atoms_spec (ws := wsX0_removeAt) B.pre⟩
  have hr := B.returns
  have hlocks := B.notSynchronized
  have w0 : ∀ w ∈ u_ws RX0 TX0 3, w ∈ wsX0_removeAt := by decide +kernel
  have k9 : Cond.fieldLink RX0 9 "SegmentMerges$Memory" "keys" "[I" ∈ wsX0_removeAt := by decide +kernel
  have k15 : Cond.fieldLink RX0 15 "SegmentMerges$Memory" "values" "[I" ∈ wsX0_removeAt := by decide +kernel
  have k18 : Cond.fieldLink RX0 18 "SegmentMerges$Memory" "size" "I" ∈ wsX0_removeAt := by decide +kernel
  have L2 : ∀ (n : Nat) (x0 : Nat) (x1 : Int32) (x2 : Int32) (mm : Mem) (H : Heap) (locs : List Loc) (ls : Array Slot) (zz : (Int32) × Mem), mH D cA base mm H → va_S (mA base) s.heap H locs → lv_has ls 3 [(0, .ref x0), (1, .int x1), (2, .int x2)] → f_X0_removeAt_L2 n x0 x1 x2 mm = some zz → (∀ (H : Heap) (locs : List Loc) (ls : Array Slot), mH D cA base zz.2 H → va_S (mA base) s.heap H locs → lv_has ls 3 [(0, .ref x0), (1, .int x1), (2, .int zz.1)] → W p l e rm_X0_removeAt s m [.ref a0, .int a1].toArray below meth c H locs 0 0 (MQ below (mQ eV D cA base z) [.ref a0, .int a1].toArray s 0 0 (mA base)) (F0 m 46 ls [])) → W p l e rm_X0_removeAt s m [.ref a0, .int a1].toArray below meth c H locs 0 0 (MQ below (mQ eV D cA base z) [.ref a0, .int a1].toArray s 0 0 (mA base)) (F0 m 2 ls []) := by
    intro n
    induction n with
    | zero =>
      intro x0 x1 x2 mm H locs ls zz hH hS hl h kk
      exact (fl_inv h).elim
    | succ n ih =>
      intro x0 x1 x2 mm H locs ls zz hH hS hl h kk
      unfold f_X0_removeAt_L2 at h
      refine lv_iload_n C.1 C.2.1 dX0_removeAt_2 rfl (lv_at hl 2 rfl) ?_
      refine lv_iconst (v := 1) C.1 C.2.1 dX0_removeAt_3 (by decide) ?_
      refine lv_iadd C.1 C.2.1 dX0_removeAt_4 ?_
      refine lv_aload_n C.1 C.2.1 dX0_removeAt_5 rfl (lv_at hl 0 rfl) ?_
      refine r_gI C hT hH (t := 0) (k := 2) (T := TX0) rfl w0 (by decide) (by decide) rfl k18 dX0_removeAt_6 h (fun v1 h => ?_)
      refine lv_icmp_ge (tgt := 46) C.1 C.2.1 dX0_removeAt_9 (by decide) (fun hc => ?_) (fun hc => ?_)
      · have h := ifc_t hc h
        obtain rfl := rt_inv h
        exact kk _ _ _ hH hS (lv_sub hl [0, 1, 2] rfl)
      · have h := ifc_f hc h
        refine lv_aload_n C.1 C.2.1 dX0_removeAt_12 rfl (lv_at hl 0 rfl) ?_
        refine r_gN C hT hH (t := 0) (k := 0) (T := TX0) rfl w0 (by decide) (by decide) rfl k9 dX0_removeAt_13 h (fun b2 h => ?_)
        refine lv_iload_n C.1 C.2.1 dX0_removeAt_16 rfl (lv_at hl 2 rfl) ?_
        refine lv_aload_n C.1 C.2.1 dX0_removeAt_17 rfl (lv_at hl 0 rfl) ?_
        refine r_gN C hT hH (t := 0) (k := 0) (T := TX0) rfl w0 (by decide) (by decide) rfl k9 dX0_removeAt_18 h (fun b3 h => ?_)
        refine lv_iload_n C.1 C.2.1 dX0_removeAt_21 rfl (lv_at hl 2 rfl) ?_
        refine lv_iconst (v := 1) C.1 C.2.1 dX0_removeAt_22 (by decide) ?_
        refine lv_iadd C.1 C.2.1 dX0_removeAt_23 ?_
        refine r_lI C hT hH dX0_removeAt_24 h (fun v4 h => ?_)
        refine r_sI C hT hH hS dX0_removeAt_25 h (fun mm H locs hH hS h => ?_)
        refine lv_aload_n C.1 C.2.1 dX0_removeAt_26 rfl (lv_at hl 0 rfl) ?_
        refine r_gN C hT hH (t := 0) (k := 1) (T := TX0) rfl w0 (by decide) (by decide) rfl k15 dX0_removeAt_27 h (fun b5 h => ?_)
        refine lv_iload_n C.1 C.2.1 dX0_removeAt_30 rfl (lv_at hl 2 rfl) ?_
        refine lv_aload_n C.1 C.2.1 dX0_removeAt_31 rfl (lv_at hl 0 rfl) ?_
        refine r_gN C hT hH (t := 0) (k := 1) (T := TX0) rfl w0 (by decide) (by decide) rfl k15 dX0_removeAt_32 h (fun b6 h => ?_)
        refine lv_iload_n C.1 C.2.1 dX0_removeAt_35 rfl (lv_at hl 2 rfl) ?_
        refine lv_iconst (v := 1) C.1 C.2.1 dX0_removeAt_36 (by decide) ?_
        refine lv_iadd C.1 C.2.1 dX0_removeAt_37 ?_
        refine r_lI C hT hH dX0_removeAt_38 h (fun v7 h => ?_)
        refine r_sI C hT hH hS dX0_removeAt_39 h (fun mm H locs hH hS h => ?_)
        refine lv_iinc (v := (x2 + 1)) (lv' := [(2, .int (x2 + 1)), (0, .ref x0), (1, .int x1)]) C.1 C.2.1 dX0_removeAt_40 hl (k := 2) rfl rfl (by decide) rfl (fun ls hl => ?_)
        refine lv_goto (tgt := 2) C.1 C.2.1 dX0_removeAt_43 (by decide) ?_
        exact ih x0 x1 (x2 + 1) _ _ _ _ _ hH hS (lv_sub hl [1, 2, 0] rfl) h kk
  have hS : va_S (mA base) s.heap s.heap [] := va_S.rf
  have hl := lv_entry ([.ref a0, .int a1]) (n := 3) (Nat.le_of_ble_eq_true rfl)
  rw [lg_entry_eq]
  generalize (lg_sl ([.ref a0, .int a1]) ++ List.replicate (3 - (lg_sl ([.ref a0, .int a1])).length) Slot.unset).toArray = ls at hl ⊢
  have hl : lv_has ls 3 [(0, .ref a0), (1, .int a1)] := hl
  unfold f_X0_removeAt at h
  refine lv_iload_n C.1 C.2.1 dX0_removeAt_0 rfl (lv_at hl 1 rfl) ?_
  refine lv_istore_n (lv' := [(2, .int a1), (0, .ref a0), (1, .int a1)]) C.1 C.2.1 dX0_removeAt_1 rfl hl (by decide) rfl (fun ls hl => ?_)
  obtain ⟨x8, mx8, hq, h⟩ := bnd_inv h
  refine L2 2100 a0 a1 a1 _ _ _ _ (x8, mx8) hH hS (lv_sub hl [1, 2, 0] rfl) hq (fun H locs ls hH hS hl => ?_)
  refine lv_aload_n C.1 C.2.1 dX0_removeAt_46 rfl (lv_at hl 0 rfl) ?_
  refine lv_dup C.1 C.2.1 dX0_removeAt_47 rfl ?_
  refine r_gI C hT hH (t := 0) (k := 2) (T := TX0) rfl w0 (by decide) (by decide) rfl k18 dX0_removeAt_48 h (fun v9 h => ?_)
  refine lv_iconst (v := 1) C.1 C.2.1 dX0_removeAt_51 (by decide) ?_
  refine lv_isub C.1 C.2.1 dX0_removeAt_52 ?_
  refine r_pI C hT hH hS (t := 0) (k := 2) (T := TX0) rfl w0 tyX0_ok nmX0 (by decide) (by decide) rfl rfl k18 (Or.inl rfl) dX0_removeAt_53 h (fun mm H locs hH hS h => ?_)
  exact r_vret C hT hH hS hr hlocks (by decide) (by decide) dX0_removeAt_56 h
abbrev rm_X0_rankOf : Room := { frames := 0, cells := 0, slots := 0, locals := 0 }
set_option maxHeartbeats 4000000 in
set_option maxRecDepth 100000 in
theorem c_X0_rankOf (l : Launch) (D : va_G) (cA : Nat → ClassId) (base : Nat) (a0 : Nat) (a1 : Int32) (mm : Mem) (z : (Int32) × Mem) (h : f_X0_rankOf a0 a1 mm = some z) : Met l yX0_rankOf wsX0_rankOf rm_X0_rankOf (va_Pc [.ref a0, .int a1] (mU D cA base mm)) (mQ eI D cA base z) 0 0 (mA base) := by
  refine Met.ofW (cc := cX0_rankOf) (maxL := 4) (ret := (some .int)) (by decide) rfl ?_
  intro p e s m args below meth c s₁ B hml hv
  obtain ⟨rfl, hH, hT⟩ := hv
  have C : CallFix p m c cX0_rankOf 4 s ([.ref a0, .int a1]).toArray wsX0_rankOf RX0 := ⟨B.exec, B.bytes, hml, findClass_of_methodNamed B.named, atoms_spec (ws := wsX0_rankOf) B.pre⟩
  have hr := B.returns
  have hlocks := B.notSynchronized
  have w0 : ∀ w ∈ u_ws RX0 TX0 3, w ∈ wsX0_rankOf := by decide +kernel
  have k9 : Cond.fieldLink RX0 9 "SegmentMerges$Memory" "keys" "[I" ∈ wsX0_rankOf := by decide +kernel
  have k18 : Cond.fieldLink RX0 18 "SegmentMerges$Memory" "size" "I" ∈ wsX0_rankOf := by decide +kernel
  have L4 : ∀ (n : Nat) (x0 : Nat) (x1 : Int32) (x2 : Int32) (x3 : Int32) (mm : Mem) (H : Heap) (locs : List Loc) (ls : Array Slot) (zz : (Int32 × Int32) × Mem), mH D cA base mm H → va_S (mA base) s.heap H locs → lv_has ls 4 [(0, .ref x0), (1, .int x1), (2, .int x2), (3, .int x3)] → f_X0_rankOf_L4 n x0 x1 x2 x3 mm = some zz → (∀ (H : Heap) (locs : List Loc) (ls : Array Slot), mH D cA base zz.2 H → va_S (mA base) s.heap H locs → lv_has ls 4 [(0, .ref x0), (1, .int x1), (2, .int zz.1.1), (3, .int zz.1.2)] → W p l e rm_X0_rankOf s m [.ref a0, .int a1].toArray below meth c H locs 0 0 (MQ below (mQ eI D cA base z) [.ref a0, .int a1].toArray s 0 0 (mA base)) (F0 m 31 ls [])) → W p l e rm_X0_rankOf s m [.ref a0, .int a1].toArray below meth c H locs 0 0 (MQ below (mQ eI D cA base z) [.ref a0, .int a1].toArray s 0 0 (mA base)) (F0 m 4 ls []) := by
    intro n
    induction n with
    | zero =>
      intro x0 x1 x2 x3 mm H locs ls zz hH hS hl h kk
      exact (fl_inv h).elim
    | succ n ih =>
      intro x0 x1 x2 x3 mm H locs ls zz hH hS hl h kk
      unfold f_X0_rankOf_L4 at h
      refine lv_iload_n C.1 C.2.1 dX0_rankOf_4 rfl (lv_at hl 3 rfl) ?_
      refine lv_aload_n C.1 C.2.1 dX0_rankOf_5 rfl (lv_at hl 0 rfl) ?_
      refine r_gI C hT hH (t := 0) (k := 2) (T := TX0) rfl w0 (by decide) (by decide) rfl k18 dX0_rankOf_6 h (fun v1 h => ?_)
      refine lv_icmp_ge (tgt := 31) C.1 C.2.1 dX0_rankOf_9 (by decide) (fun hc => ?_) (fun hc => ?_)
      · have h := ifc_t hc h
        obtain rfl := rt_inv h
        exact kk _ _ _ hH hS (lv_sub hl [0, 1, 2, 3] rfl)
      · have h := ifc_f hc h
        refine lv_aload_n C.1 C.2.1 dX0_rankOf_12 rfl (lv_at hl 0 rfl) ?_
        refine r_gN C hT hH (t := 0) (k := 0) (T := TX0) rfl w0 (by decide) (by decide) rfl k9 dX0_rankOf_13 h (fun b2 h => ?_)
        refine lv_iload_n C.1 C.2.1 dX0_rankOf_16 rfl (lv_at hl 3 rfl) ?_
        refine r_lI C hT hH dX0_rankOf_17 h (fun v3 h => ?_)
        refine lv_iload_n C.1 C.2.1 dX0_rankOf_18 rfl (lv_at hl 1 rfl) ?_
        refine lv_icmp_ge (tgt := 25) C.1 C.2.1 dX0_rankOf_19 (by decide) (fun hc => ?_) (fun hc => ?_)
        · have h := ifc_t hc h
          refine lv_iinc (v := (x3 + 1)) (lv' := [(3, .int (x3 + 1)), (0, .ref x0), (1, .int x1), (2, .int x2)]) C.1 C.2.1 dX0_rankOf_25 hl (k := 3) rfl rfl (by decide) rfl (fun ls hl => ?_)
          refine lv_goto (tgt := 4) C.1 C.2.1 dX0_rankOf_28 (by decide) ?_
          exact ih x0 x1 x2 (x3 + 1) _ _ _ _ _ hH hS (lv_sub hl [1, 2, 3, 0] rfl) h kk
        · have h := ifc_f hc h
          refine lv_iinc (v := (x2 + 1)) (lv' := [(2, .int (x2 + 1)), (0, .ref x0), (1, .int x1), (3, .int x3)]) C.1 C.2.1 dX0_rankOf_22 hl (k := 2) rfl rfl (by decide) rfl (fun ls hl => ?_)
          refine lv_iinc (v := (x3 + 1)) (lv' := [(3, .int (x3 + 1)), (2, .int (x2 + 1)), (0, .ref x0), (1, .int x1)]) C.1 C.2.1 dX0_rankOf_25 hl (k := 3) rfl rfl (by decide) rfl (fun ls hl => ?_)
          refine lv_goto (tgt := 4) C.1 C.2.1 dX0_rankOf_28 (by decide) ?_
          exact ih x0 x1 (x2 + 1) (x3 + 1) _ _ _ _ _ hH hS (lv_sub hl [2, 3, 1, 0] rfl) h kk
  have hS : va_S (mA base) s.heap s.heap [] := va_S.rf
  have hl := lv_entry ([.ref a0, .int a1]) (n := 4) (Nat.le_of_ble_eq_true rfl)
  rw [lg_entry_eq]
  generalize (lg_sl ([.ref a0, .int a1]) ++ List.replicate (4 - (lg_sl ([.ref a0, .int a1])).length) Slot.unset).toArray = ls at hl ⊢
  have hl : lv_has ls 4 [(0, .ref a0), (1, .int a1)] := hl
  unfold f_X0_rankOf at h
  refine lv_iconst (v := 0) C.1 C.2.1 dX0_rankOf_0 (by decide) ?_
  refine lv_istore_n (lv' := [(2, .int 0), (0, .ref a0), (1, .int a1)]) C.1 C.2.1 dX0_rankOf_1 rfl hl (by decide) rfl (fun ls hl => ?_)
  refine lv_iconst (v := 0) C.1 C.2.1 dX0_rankOf_2 (by decide) ?_
  refine lv_istore_n (lv' := [(3, .int 0), (2, .int 0), (0, .ref a0), (1, .int a1)]) C.1 C.2.1 dX0_rankOf_3 rfl hl (by decide) rfl (fun ls hl => ?_)
  obtain ⟨x4, mx4, hq, h⟩ := bnd_inv h
  refine L4 2100 a0 a1 0 0 _ _ _ _ (x4, mx4) hH hS (lv_sub hl [2, 3, 1, 0] rfl) hq (fun H locs ls hH hS hl => ?_)
  refine lv_iload_n C.1 C.2.1 dX0_rankOf_31 rfl (lv_at hl 2 rfl) ?_
  exact r_iret C hT hH hS hr hlocks (by decide) (by decide) dX0_rankOf_32 h
abbrev rm_X0_asSegment : Room := { frames := 2, cells := 5, slots := 408, locals := 35 }
set_option maxHeartbeats 4000000 in
set_option maxRecDepth 100000 in
theorem c_X0_asSegment (l : Launch) (D : va_G) (cA : Nat → ClassId) (base : Nat) (a0 : Nat) (a1 : Int32) (mm : Mem) (z : (Nat) × Mem) (h : f_X0_asSegment a0 a1 mm = some z) : Met l yX0_asSegment wsX0_asSegment rm_X0_asSegment (va_Pc [.ref a0, .int a1] (mU D cA base mm)) (mQ eN D cA base z) 5 408 (mA base) := by
  refine Met.ofW (cc := cX0_asSegment) (maxL := 4) (ret := (some (.object "SegmentMerges$Segment"))) (by decide) rfl ?_
  intro p e s m args below meth c s₁ B hml hv
  obtain ⟨rfl, hH, hT⟩ := hv
  have C : CallFix p m c cX0_asSegment 4 s ([.ref a0, .int a1]).toArray wsX0_asSegment RX0 := ⟨B.exec, B.bytes, hml, findClass_of_methodNamed B.named, atoms_spec (ws := wsX0_asSegment) B.pre⟩
  have hr := B.returns
  have hlocks := B.notSynchronized
  have w0 : ∀ w ∈ u_ws RX0 TX0 3, w ∈ wsX0_asSegment := by decide +kernel
  have w2 : ∀ w ∈ u_ws RX2 TX2 8, w ∈ wsX0_asSegment := by decide +kernel
  have k9 : Cond.fieldLink RX0 9 "SegmentMerges$Memory" "keys" "[I" ∈ wsX0_asSegment := by decide +kernel
  have k15 : Cond.fieldLink RX0 15 "SegmentMerges$Memory" "values" "[I" ∈ wsX0_asSegment := by decide +kernel
  have k18 : Cond.fieldLink RX0 18 "SegmentMerges$Memory" "size" "I" ∈ wsX0_asSegment := by decide +kernel
  have L16 : ∀ (n : Nat) (x0 : Nat) (x1 : Int32) (x2 : Nat) (x3 : Int32) (mm : Mem) (H : Heap) (locs : List Loc) (ls : Array Slot) (zz : (Int32) × Mem), mH D cA base mm H → va_S (mA base) s.heap H locs → lv_has ls 4 [(0, .ref x0), (1, .int x1), (2, .ref x2), (3, .int x3)] → f_X0_asSegment_L16 n x0 x1 x2 x3 mm = some zz → (∀ (H : Heap) (locs : List Loc) (ls : Array Slot), mH D cA base zz.2 H → va_S (mA base) s.heap H locs → lv_has ls 4 [(0, .ref x0), (1, .int x1), (2, .ref x2), (3, .int zz.1)] → W p l e rm_X0_asSegment s m [.ref a0, .int a1].toArray below meth c H locs 5 408 (MQ below (mQ eN D cA base z) [.ref a0, .int a1].toArray s 5 408 (mA base)) (F0 m 57 ls [])) → W p l e rm_X0_asSegment s m [.ref a0, .int a1].toArray below meth c H locs 5 408 (MQ below (mQ eN D cA base z) [.ref a0, .int a1].toArray s 5 408 (mA base)) (F0 m 16 ls []) := by
    intro n
    induction n with
    | zero =>
      intro x0 x1 x2 x3 mm H locs ls zz hH hS hl h kk
      exact (fl_inv h).elim
    | succ n ih =>
      intro x0 x1 x2 x3 mm H locs ls zz hH hS hl h kk
      unfold f_X0_asSegment_L16 at h
      refine lv_iload_n C.1 C.2.1 dX0_asSegment_16 rfl (lv_at hl 3 rfl) ?_
      refine lv_aload_n C.1 C.2.1 dX0_asSegment_17 rfl (lv_at hl 0 rfl) ?_
      refine r_gI C hT hH (t := 0) (k := 2) (T := TX0) rfl w0 (by decide) (by decide) rfl k18 dX0_asSegment_18 h (fun v3 h => ?_)
      refine lv_icmp_ge (tgt := 57) C.1 C.2.1 dX0_asSegment_21 (by decide) (fun hc => ?_) (fun hc => ?_)
      · have h := ifc_t hc h
        obtain rfl := rt_inv h
        exact kk _ _ _ hH hS (lv_sub hl [0, 1, 2, 3] rfl)
      · have h := ifc_f hc h
        refine lv_aload_n C.1 C.2.1 dX0_asSegment_24 rfl (lv_at hl 2 rfl) ?_
        refine lv_aload_n C.1 C.2.1 dX0_asSegment_25 rfl (lv_at hl 0 rfl) ?_
        refine lv_aload_n C.1 C.2.1 dX0_asSegment_26 rfl (lv_at hl 0 rfl) ?_
        refine r_gN C hT hH (t := 0) (k := 0) (T := TX0) rfl w0 (by decide) (by decide) rfl k9 dX0_asSegment_27 h (fun b4 h => ?_)
        refine lv_iload_n C.1 C.2.1 dX0_asSegment_30 rfl (lv_at hl 3 rfl) ?_
        refine r_lI C hT hH dX0_asSegment_31 h (fun v5 h => ?_)
        refine r_callVI C hT hH hS (t := 0) (As := [.int v5]) (fun z1 hz => c_X0_rankOf l D cA base x0 v5 _ z1 hz) (cwV 1 C.2.2.2.2 gX0_asSegment_X0_rankOf rfl rfl rfl (by decide +kernel) ⟨Nat.le_of_ble_eq_true rfl, Nat.le_of_ble_eq_true rfl⟩) rfl (by decide) rfl hl.1 rfl (Nat.le_of_ble_eq_true rfl) dX0_asSegment_32 ⟨by decide, by decide⟩ h (fun v6 mm H locs hH hS h => ?_)
        refine lv_aload_n C.1 C.2.1 dX0_asSegment_35 rfl (lv_at hl 0 rfl) ?_
        refine r_gN C hT hH (t := 0) (k := 0) (T := TX0) rfl w0 (by decide) (by decide) rfl k9 dX0_asSegment_36 h (fun b7 h => ?_)
        refine lv_iload_n C.1 C.2.1 dX0_asSegment_39 rfl (lv_at hl 3 rfl) ?_
        refine r_lI C hT hH dX0_asSegment_40 h (fun v8 h => ?_)
        refine lv_aload_n C.1 C.2.1 dX0_asSegment_41 rfl (lv_at hl 0 rfl) ?_
        refine r_gN C hT hH (t := 0) (k := 1) (T := TX0) rfl w0 (by decide) (by decide) rfl k15 dX0_asSegment_42 h (fun b9 h => ?_)
        refine lv_iload_n C.1 C.2.1 dX0_asSegment_45 rfl (lv_at hl 3 rfl) ?_
        refine r_lI C hT hH dX0_asSegment_46 h (fun v10 h => ?_)
        refine lv_iconst (v := 1) C.1 C.2.1 dX0_asSegment_47 (by decide) ?_
        refine r_callVV C hT hH hS (t := 2) (As := [.int v6, .int v8, .int v10, .int 1]) (fun z1 hz => c_X2_write l D cA base x2 v6 v8 v10 1 _ z1 hz) (cwV 4 C.2.2.2.2 gX0_asSegment_X2_write rfl rfl rfl (by decide +kernel) ⟨Nat.le_of_ble_eq_true rfl, Nat.le_of_ble_eq_true rfl⟩) rfl (by decide) rfl hl.1 rfl (Nat.le_of_ble_eq_true rfl) dX0_asSegment_48 ⟨by decide, by decide⟩ h (fun _ mm H locs hH hS h => ?_)
        refine lv_iinc (v := (x3 + 1)) (lv' := [(3, .int (x3 + 1)), (0, .ref x0), (1, .int x1), (2, .ref x2)]) C.1 C.2.1 dX0_asSegment_51 hl (k := 3) rfl rfl (by decide) rfl (fun ls hl => ?_)
        refine lv_goto (tgt := 16) C.1 C.2.1 dX0_asSegment_54 (by decide) ?_
        exact ih x0 x1 x2 (x3 + 1) _ _ _ _ _ hH hS (lv_sub hl [1, 2, 3, 0] rfl) h kk
  have hS : va_S (mA base) s.heap s.heap [] := va_S.rf
  have hl := lv_entry ([.ref a0, .int a1]) (n := 4) (Nat.le_of_ble_eq_true rfl)
  rw [lg_entry_eq]
  generalize (lg_sl ([.ref a0, .int a1]) ++ List.replicate (4 - (lg_sl ([.ref a0, .int a1])).length) Slot.unset).toArray = ls at hl ⊢
  have hl : lv_has ls 4 [(0, .ref a0), (1, .int a1)] := hl
  unfold f_X0_asSegment at h
  refine r_nO C hT hH hS (t := 2) (T := TX2) rfl w2 tyX2_ok (by decide) dfX2 (by decide +kernel) (by decide +kernel) (by decide +kernel) (by decide) (by decide) dX0_asSegment_0 h (fun b1 mm H hH hS h => ?_)
  refine lv_dup C.1 C.2.1 dX0_asSegment_3 rfl ?_
  refine lv_iload_n C.1 C.2.1 dX0_asSegment_4 rfl (lv_at hl 1 rfl) ?_
  refine lv_iconst (v := 0) C.1 C.2.1 dX0_asSegment_5 (by decide) ?_
  refine lv_aload_n C.1 C.2.1 dX0_asSegment_6 rfl (lv_at hl 0 rfl) ?_
  refine r_gI C hT hH (t := 0) (k := 2) (T := TX0) rfl w0 (by decide) (by decide) rfl k18 dX0_asSegment_7 h (fun v2 h => ?_)
  refine r_callI C hT hH hS (b := b1) (As := [.int a1, .int 0, .int v2]) (fun z1 hz => c_X2_init l D cA base b1 a1 0 v2 _ z1 hz) (cwI 3 C.2.2.2.2 gX0_asSegment_X2_init rfl rfl rfl (C.2.2.2.2 _ (by decide +kernel)) (C.2.2.2.2 _ (by decide +kernel)) (C.2.2.2.2 _ (by decide +kernel)) rfl (by decide +kernel) ⟨Nat.le_of_ble_eq_true rfl, Nat.le_of_ble_eq_true rfl⟩) rfl hl.1 rfl (Nat.le_of_ble_eq_true rfl) dX0_asSegment_10 ⟨by decide, by decide⟩ h (fun _ mm H locs hH hS h => ?_)
  refine lv_astore_n (lv' := [(2, .ref b1), (0, .ref a0), (1, .int a1)]) C.1 C.2.1 dX0_asSegment_13 rfl hl (by decide) rfl (fun ls hl => ?_)
  refine lv_iconst (v := 0) C.1 C.2.1 dX0_asSegment_14 (by decide) ?_
  refine lv_istore_n (lv' := [(3, .int 0), (2, .ref b1), (0, .ref a0), (1, .int a1)]) C.1 C.2.1 dX0_asSegment_15 rfl hl (by decide) rfl (fun ls hl => ?_)
  obtain ⟨x11, mx11, hq, h⟩ := bnd_inv h
  refine L16 2100 a0 a1 b1 0 _ _ _ _ (x11, mx11) hH hS (lv_sub hl [2, 3, 1, 0] rfl) hq (fun H locs ls hH hS hl => ?_)
  refine lv_aload_n C.1 C.2.1 dX0_asSegment_57 rfl (lv_at hl 2 rfl) ?_
  exact r_aretN C hT hH hS hr hlocks (by decide) (by decide) dX0_asSegment_58 h
