/-! The bytecode computes the functions of 05f: written by wip/tools/gen.py -/
abbrev rm_X3_isKey : Room := { frames := 0, cells := 0, slots := 0, locals := 0 }
set_option maxHeartbeats 4000000 in
set_option maxRecDepth 100000 in
theorem c_X3_isKey (l : Launch) (D : va_G) (cA : Nat → ClassId) (base : Nat) (a0 : Int32) (mm : Mem) (z : (Int32) × Mem) (h : f_X3_isKey a0 mm = some z) : Met l yX3_isKey wsX3_isKey rm_X3_isKey (va_Pc [.int a0] (mU D cA base mm)) (mQ eI D cA base z) 0 0 (mA base) := by
  refine Met.ofW (cc := cX3_isKey) (maxL := 1) (ret := (some .boolean)) (by decide) rfl ?_
  intro p e s m args below meth c s₁ B hml hv
  obtain ⟨rfl, hH, hT⟩ := hv
  have C : CallFix p m c cX3_isKey 1 s ([.int a0]).toArray wsX3_isKey RX3 := ⟨B.exec, B.bytes, hml, findClass_of_methodNamed B.named, atoms_spec (ws := wsX3_isKey) B.pre⟩
  have hr := B.returns
  have hlocks := B.notSynchronized
  have hS : va_S (mA base) s.heap s.heap [] := va_S.rf
  have hl := lv_entry ([.int a0]) (n := 1) (Nat.le_of_ble_eq_true rfl)
  rw [lg_entry_eq]
  generalize (lg_sl ([.int a0]) ++ List.replicate (1 - (lg_sl ([.int a0])).length) Slot.unset).toArray = ls at hl ⊢
  have hl : lv_has ls 1 [(0, .int a0)] := hl
  unfold f_X3_isKey at h
  refine lv_iload_n C.1 C.2.1 dX3_isKey_0 rfl (lv_at hl 0 rfl) ?_
  refine lv_if_lt (tgt := 14) C.1 C.2.1 dX3_isKey_1 (by decide) (fun hc => ?_) (fun hc => ?_)
  · have h := ifc_t hc h
    refine lv_iconst (v := 0) C.1 C.2.1 dX3_isKey_14 (by decide) ?_
    exact r_zret C hT hH hS hr hlocks (by decide) (by decide) dX3_isKey_15 h
  · have h := ifc_f hc h
    refine lv_iload_n C.1 C.2.1 dX3_isKey_4 rfl (lv_at hl 0 rfl) ?_
    refine lv_bipush (v := 100) C.1 C.2.1 dX3_isKey_5 (by decide) ?_
    refine lv_icmp_ge (tgt := 14) C.1 C.2.1 dX3_isKey_7 (by decide) (fun hc => ?_) (fun hc => ?_)
    · have h := ifc_t hc h
      refine lv_iconst (v := 0) C.1 C.2.1 dX3_isKey_14 (by decide) ?_
      exact r_zret C hT hH hS hr hlocks (by decide) (by decide) dX3_isKey_15 h
    · have h := ifc_f hc h
      refine lv_iconst (v := 1) C.1 C.2.1 dX3_isKey_10 (by decide) ?_
      refine lv_goto (tgt := 15) C.1 C.2.1 dX3_isKey_11 (by decide) ?_
      exact r_zret C hT hH hS hr hlocks (by decide) (by decide) dX3_isKey_15 h
abbrev rm_X3_canBeMerged : Room := { frames := 0, cells := 0, slots := 0, locals := 0 }
set_option maxHeartbeats 4000000 in
set_option maxRecDepth 100000 in
theorem c_X3_canBeMerged (l : Launch) (D : va_G) (cA : Nat → ClassId) (base : Nat) (a0 : Int32) (mm : Mem) (z : (Int32) × Mem) (h : f_X3_canBeMerged a0 mm = some z) : Met l yX3_canBeMerged wsX3_canBeMerged rm_X3_canBeMerged (va_Pc [.int a0] (mU D cA base mm)) (mQ eI D cA base z) 0 0 (mA base) := by
  refine Met.ofW (cc := cX3_canBeMerged) (maxL := 1) (ret := (some .boolean)) (by decide) rfl ?_
  intro p e s m args below meth c s₁ B hml hv
  obtain ⟨rfl, hH, hT⟩ := hv
  have C : CallFix p m c cX3_canBeMerged 1 s ([.int a0]).toArray wsX3_canBeMerged RX3 := ⟨B.exec, B.bytes, hml, findClass_of_methodNamed B.named, atoms_spec (ws := wsX3_canBeMerged) B.pre⟩
  have hr := B.returns
  have hlocks := B.notSynchronized
  have hS : va_S (mA base) s.heap s.heap [] := va_S.rf
  have hl := lv_entry ([.int a0]) (n := 1) (Nat.le_of_ble_eq_true rfl)
  rw [lg_entry_eq]
  generalize (lg_sl ([.int a0]) ++ List.replicate (1 - (lg_sl ([.int a0])).length) Slot.unset).toArray = ls at hl ⊢
  have hl : lv_has ls 1 [(0, .int a0)] := hl
  unfold f_X3_canBeMerged at h
  refine lv_iload_n C.1 C.2.1 dX3_canBeMerged_0 rfl (lv_at hl 0 rfl) ?_
  refine lv_iconst (v := 2) C.1 C.2.1 dX3_canBeMerged_1 (by decide) ?_
  refine lv_icmp_lt (tgt := 15) C.1 C.2.1 dX3_canBeMerged_2 (by decide) (fun hc => ?_) (fun hc => ?_)
  · have h := ifc_t hc h
    refine lv_iconst (v := 0) C.1 C.2.1 dX3_canBeMerged_15 (by decide) ?_
    exact r_zret C hT hH hS hr hlocks (by decide) (by decide) dX3_canBeMerged_16 h
  · have h := ifc_f hc h
    refine lv_iload_n C.1 C.2.1 dX3_canBeMerged_5 rfl (lv_at hl 0 rfl) ?_
    refine lv_bipush (v := 6) C.1 C.2.1 dX3_canBeMerged_6 (by decide) ?_
    refine lv_icmp_gt (tgt := 15) C.1 C.2.1 dX3_canBeMerged_8 (by decide) (fun hc => ?_) (fun hc => ?_)
    · have h := ifc_t hc h
      refine lv_iconst (v := 0) C.1 C.2.1 dX3_canBeMerged_15 (by decide) ?_
      exact r_zret C hT hH hS hr hlocks (by decide) (by decide) dX3_canBeMerged_16 h
    · have h := ifc_f hc h
      refine lv_iconst (v := 1) C.1 C.2.1 dX3_canBeMerged_11 (by decide) ?_
      refine lv_goto (tgt := 16) C.1 C.2.1 dX3_canBeMerged_12 (by decide) ?_
      exact r_zret C hT hH hS hr hlocks (by decide) (by decide) dX3_canBeMerged_16 h
abbrev rm_X3_isPlace : Room := { frames := 0, cells := 0, slots := 0, locals := 0 }
set_option maxHeartbeats 4000000 in
set_option maxRecDepth 100000 in
theorem c_X3_isPlace (l : Launch) (D : va_G) (cA : Nat → ClassId) (base : Nat) (a0 : Nat) (a1 : Int32) (mm : Mem) (z : (Int32) × Mem) (h : f_X3_isPlace a0 a1 mm = some z) : Met l yX3_isPlace wsX3_isPlace rm_X3_isPlace (va_Pc [.ref a0, .int a1] (mU D cA base mm)) (mQ eI D cA base z) 0 0 (mA base) := by
  refine Met.ofW (cc := cX3_isPlace) (maxL := 2) (ret := (some .boolean)) (by decide) rfl ?_
  intro p e s m args below meth c s₁ B hml hv
  obtain ⟨rfl, hH, hT⟩ := hv
  have C : CallFix p m c cX3_isPlace 2 s ([.ref a0, .int a1]).toArray wsX3_isPlace RX3 := ⟨B.exec, B.bytes, hml, findClass_of_methodNamed B.named, atoms_spec (ws := wsX3_isPlace) B.pre⟩
  have hr := B.returns
  have hlocks := B.notSynchronized
  have w3 : ∀ w ∈ u_ws RX3 TX3 11, w ∈ wsX3_isPlace := by decide +kernel
  have k26 : Cond.fieldLink RX3 26 "SegmentMerges" "segmentCount" "I" ∈ wsX3_isPlace := by decide +kernel
  have hS : va_S (mA base) s.heap s.heap [] := va_S.rf
  have hl := lv_entry ([.ref a0, .int a1]) (n := 2) (Nat.le_of_ble_eq_true rfl)
  rw [lg_entry_eq]
  generalize (lg_sl ([.ref a0, .int a1]) ++ List.replicate (2 - (lg_sl ([.ref a0, .int a1])).length) Slot.unset).toArray = ls at hl ⊢
  have hl : lv_has ls 2 [(0, .ref a0), (1, .int a1)] := hl
  unfold f_X3_isPlace at h
  refine lv_iload_n C.1 C.2.1 dX3_isPlace_0 rfl (lv_at hl 1 rfl) ?_
  refine lv_if_lt (tgt := 16) C.1 C.2.1 dX3_isPlace_1 (by decide) (fun hc => ?_) (fun hc => ?_)
  · have h := ifc_t hc h
    refine lv_iconst (v := 0) C.1 C.2.1 dX3_isPlace_16 (by decide) ?_
    exact r_zret C hT hH hS hr hlocks (by decide) (by decide) dX3_isPlace_17 h
  · have h := ifc_f hc h
    refine lv_iload_n C.1 C.2.1 dX3_isPlace_4 rfl (lv_at hl 1 rfl) ?_
    refine lv_aload_n C.1 C.2.1 dX3_isPlace_5 rfl (lv_at hl 0 rfl) ?_
    refine r_gI C hT hH (t := 3) (k := 3) (T := TX3) rfl w3 (by decide) (by decide) rfl k26 dX3_isPlace_6 h (fun v1 h => ?_)
    refine lv_icmp_ge (tgt := 16) C.1 C.2.1 dX3_isPlace_9 (by decide) (fun hc => ?_) (fun hc => ?_)
    · have h := ifc_t hc h
      refine lv_iconst (v := 0) C.1 C.2.1 dX3_isPlace_16 (by decide) ?_
      exact r_zret C hT hH hS hr hlocks (by decide) (by decide) dX3_isPlace_17 h
    · have h := ifc_f hc h
      refine lv_iconst (v := 1) C.1 C.2.1 dX3_isPlace_12 (by decide) ?_
      refine lv_goto (tgt := 17) C.1 C.2.1 dX3_isPlace_13 (by decide) ?_
      exact r_zret C hT hH hS hr hlocks (by decide) (by decide) dX3_isPlace_17 h
abbrev rm_X3_isOpenView : Room := { frames := 0, cells := 0, slots := 0, locals := 0 }
set_option maxHeartbeats 4000000 in
set_option maxRecDepth 100000 in
theorem c_X3_isOpenView (l : Launch) (D : va_G) (cA : Nat → ClassId) (base : Nat) (a0 : Nat) (a1 : Int32) (mm : Mem) (z : (Int32) × Mem) (h : f_X3_isOpenView a0 a1 mm = some z) : Met l yX3_isOpenView wsX3_isOpenView rm_X3_isOpenView (va_Pc [.ref a0, .int a1] (mU D cA base mm)) (mQ eI D cA base z) 0 0 (mA base) := by
  refine Met.ofW (cc := cX3_isOpenView) (maxL := 2) (ret := (some .boolean)) (by decide) rfl ?_
  intro p e s m args below meth c s₁ B hml hv
  obtain ⟨rfl, hH, hT⟩ := hv
  have C : CallFix p m c cX3_isOpenView 2 s ([.ref a0, .int a1]).toArray wsX3_isOpenView RX3 := ⟨B.exec, B.bytes, hml, findClass_of_methodNamed B.named, atoms_spec (ws := wsX3_isOpenView) B.pre⟩
  have hr := B.returns
  have hlocks := B.notSynchronized
  have w3 : ∀ w ∈ u_ws RX3 TX3 11, w ∈ wsX3_isOpenView := by decide +kernel
  have k51 : Cond.fieldLink RX3 51 "SegmentMerges" "viewOpen" "[Z" ∈ wsX3_isOpenView := by decide +kernel
  have hS : va_S (mA base) s.heap s.heap [] := va_S.rf
  have hl := lv_entry ([.ref a0, .int a1]) (n := 2) (Nat.le_of_ble_eq_true rfl)
  rw [lg_entry_eq]
  generalize (lg_sl ([.ref a0, .int a1]) ++ List.replicate (2 - (lg_sl ([.ref a0, .int a1])).length) Slot.unset).toArray = ls at hl ⊢
  have hl : lv_has ls 2 [(0, .ref a0), (1, .int a1)] := hl
  unfold f_X3_isOpenView at h
  refine lv_iload_n C.1 C.2.1 dX3_isOpenView_0 rfl (lv_at hl 1 rfl) ?_
  refine lv_if_lt (tgt := 22) C.1 C.2.1 dX3_isOpenView_1 (by decide) (fun hc => ?_) (fun hc => ?_)
  · have h := ifc_t hc h
    refine lv_iconst (v := 0) C.1 C.2.1 dX3_isOpenView_22 (by decide) ?_
    exact r_zret C hT hH hS hr hlocks (by decide) (by decide) dX3_isOpenView_23 h
  · have h := ifc_f hc h
    refine lv_iload_n C.1 C.2.1 dX3_isOpenView_4 rfl (lv_at hl 1 rfl) ?_
    refine lv_iconst (v := 4) C.1 C.2.1 dX3_isOpenView_5 (by decide) ?_
    refine lv_icmp_ge (tgt := 22) C.1 C.2.1 dX3_isOpenView_6 (by decide) (fun hc => ?_) (fun hc => ?_)
    · have h := ifc_t hc h
      refine lv_iconst (v := 0) C.1 C.2.1 dX3_isOpenView_22 (by decide) ?_
      exact r_zret C hT hH hS hr hlocks (by decide) (by decide) dX3_isOpenView_23 h
    · have h := ifc_f hc h
      refine lv_aload_n C.1 C.2.1 dX3_isOpenView_9 rfl (lv_at hl 0 rfl) ?_
      refine r_gN C hT hH (t := 3) (k := 10) (T := TX3) rfl w3 (by decide) (by decide) rfl k51 dX3_isOpenView_10 h (fun b1 h => ?_)
      refine lv_iload_n C.1 C.2.1 dX3_isOpenView_13 rfl (lv_at hl 1 rfl) ?_
      refine r_lZ C hT hH dX3_isOpenView_14 h (fun v2 h => ?_)
      refine lv_if_eq (tgt := 22) C.1 C.2.1 dX3_isOpenView_15 (by decide) (fun hc => ?_) (fun hc => ?_)
      · have h := ifc_t hc h
        refine lv_iconst (v := 0) C.1 C.2.1 dX3_isOpenView_22 (by decide) ?_
        exact r_zret C hT hH hS hr hlocks (by decide) (by decide) dX3_isOpenView_23 h
      · have h := ifc_f hc h
        refine lv_iconst (v := 1) C.1 C.2.1 dX3_isOpenView_18 (by decide) ?_
        refine lv_goto (tgt := 23) C.1 C.2.1 dX3_isOpenView_19 (by decide) ?_
        exact r_zret C hT hH hS hr hlocks (by decide) (by decide) dX3_isOpenView_23 h
abbrev rm_X3_killRowOf : Room := { frames := 1, cells := 0, slots := 0, locals := 22 }
set_option maxHeartbeats 4000000 in
set_option maxRecDepth 100000 in
theorem c_X3_killRowOf (l : Launch) (D : va_G) (cA : Nat → ClassId) (base : Nat) (a0 : Nat) (a1 : Int32) (mm : Mem) (z : (Unit) × Mem) (h : f_X3_killRowOf a0 a1 mm = some z) : Met l yX3_killRowOf wsX3_killRowOf rm_X3_killRowOf (va_Pc [.ref a0, .int a1] (mU D cA base mm)) (mQ eV D cA base z) 0 0 (mA base) := by
  refine Met.ofW (cc := cX3_killRowOf) (maxL := 3) (ret := none) (by decide) rfl ?_
  intro p e s m args below meth c s₁ B hml hv
  obtain ⟨rfl, hH, hT⟩ := hv
  have C : CallFix p m c cX3_killRowOf 3 s ([.ref a0, .int a1]).toArray wsX3_killRowOf RX3 := ⟨B.exec, B.bytes, hml, findClass_of_methodNamed B.named, atoms_spec (ws := wsX3_killRowOf) B.pre⟩
  have hr := B.returns
  have hlocks := B.notSynchronized
  have w3 : ∀ w ∈ u_ws RX3 TX3 11, w ∈ wsX3_killRowOf := by decide +kernel
  have k22 : Cond.fieldLink RX3 22 "SegmentMerges" "segments" "[LSegmentMerges$Segment;" ∈ wsX3_killRowOf := by decide +kernel
  have k26 : Cond.fieldLink RX3 26 "SegmentMerges" "segmentCount" "I" ∈ wsX3_killRowOf := by decide +kernel
  have L2 : ∀ (n : Nat) (x0 : Nat) (x1 : Int32) (x2 : Int32) (mm : Mem) (H : Heap) (locs : List Loc) (ls : Array Slot) (zz : (Int32) × Mem), mH D cA base mm H → va_S (mA base) s.heap H locs → lv_has ls 3 [(0, .ref x0), (1, .int x1), (2, .int x2)] → f_X3_killRowOf_L2 n x0 x1 x2 mm = some zz → (∀ (H : Heap) (locs : List Loc) (ls : Array Slot), mH D cA base zz.2 H → va_S (mA base) s.heap H locs → lv_has ls 3 [(0, .ref x0), (1, .int x1), (2, .int zz.1)] → W p l e rm_X3_killRowOf s m [.ref a0, .int a1].toArray below meth c H locs 0 0 (MQ below (mQ eV D cA base z) [.ref a0, .int a1].toArray s 0 0 (mA base)) (F0 m 26 ls [])) → W p l e rm_X3_killRowOf s m [.ref a0, .int a1].toArray below meth c H locs 0 0 (MQ below (mQ eV D cA base z) [.ref a0, .int a1].toArray s 0 0 (mA base)) (F0 m 2 ls []) := by
    intro n
    induction n with
    | zero =>
      intro x0 x1 x2 mm H locs ls zz hH hS hl h kk
      exact (fl_inv h).elim
    | succ n ih =>
      intro x0 x1 x2 mm H locs ls zz hH hS hl h kk
      unfold f_X3_killRowOf_L2 at h
      refine lv_iload_n C.1 C.2.1 dX3_killRowOf_2 rfl (lv_at hl 2 rfl) ?_
      refine lv_aload_n C.1 C.2.1 dX3_killRowOf_3 rfl (lv_at hl 0 rfl) ?_
      refine r_gI C hT hH (t := 3) (k := 3) (T := TX3) rfl w3 (by decide) (by decide) rfl k26 dX3_killRowOf_4 h (fun v1 h => ?_)
      refine lv_icmp_ge (tgt := 26) C.1 C.2.1 dX3_killRowOf_7 (by decide) (fun hc => ?_) (fun hc => ?_)
      · have h := ifc_t hc h
        obtain rfl := rt_inv h
        exact kk _ _ _ hH hS (lv_sub hl [0, 1, 2] rfl)
      · have h := ifc_f hc h
        refine lv_aload_n C.1 C.2.1 dX3_killRowOf_10 rfl (lv_at hl 0 rfl) ?_
        refine r_gN C hT hH (t := 3) (k := 2) (T := TX3) rfl w3 (by decide) (by decide) rfl k22 dX3_killRowOf_11 h (fun b2 h => ?_)
        refine lv_iload_n C.1 C.2.1 dX3_killRowOf_14 rfl (lv_at hl 2 rfl) ?_
        refine r_lR C hT hH (t := 7) (by decide) dX3_killRowOf_15 h (fun b3 h => ?_)
        refine lv_iload_n C.1 C.2.1 dX3_killRowOf_16 rfl (lv_at hl 1 rfl) ?_
        refine r_callVV C hT hH hS (t := 2) (As := [.int x1]) (fun z1 hz => c_X2_kill l D cA base b3 x1 _ z1 hz) (cwV 1 C.2.2.2.2 gX3_killRowOf_X2_kill rfl rfl rfl (by decide +kernel) ⟨Nat.le_of_ble_eq_true rfl, Nat.le_of_ble_eq_true rfl⟩) rfl (by decide) rfl hl.1 rfl (Nat.le_of_ble_eq_true rfl) dX3_killRowOf_17 ⟨by decide, by decide⟩ h (fun _ mm H locs hH hS h => ?_)
        refine lv_iinc (v := (x2 + 1)) (lv' := [(2, .int (x2 + 1)), (0, .ref x0), (1, .int x1)]) C.1 C.2.1 dX3_killRowOf_20 hl (k := 2) rfl rfl (by decide) rfl (fun ls hl => ?_)
        refine lv_goto (tgt := 2) C.1 C.2.1 dX3_killRowOf_23 (by decide) ?_
        exact ih x0 x1 (x2 + 1) _ _ _ _ _ hH hS (lv_sub hl [1, 2, 0] rfl) h kk
  have hS : va_S (mA base) s.heap s.heap [] := va_S.rf
  have hl := lv_entry ([.ref a0, .int a1]) (n := 3) (Nat.le_of_ble_eq_true rfl)
  rw [lg_entry_eq]
  generalize (lg_sl ([.ref a0, .int a1]) ++ List.replicate (3 - (lg_sl ([.ref a0, .int a1])).length) Slot.unset).toArray = ls at hl ⊢
  have hl : lv_has ls 3 [(0, .ref a0), (1, .int a1)] := hl
  unfold f_X3_killRowOf at h
  refine lv_iconst (v := 0) C.1 C.2.1 dX3_killRowOf_0 (by decide) ?_
  refine lv_istore_n (lv' := [(2, .int 0), (0, .ref a0), (1, .int a1)]) C.1 C.2.1 dX3_killRowOf_1 rfl hl (by decide) rfl (fun ls hl => ?_)
  obtain ⟨x4, mx4, hq, h⟩ := bnd_inv h
  refine L2 2100 a0 a1 0 _ _ _ _ (x4, mx4) hH hS (lv_sub hl [1, 2, 0] rfl) hq (fun H locs ls hH hS hl => ?_)
  exact r_vret C hT hH hS hr hlocks (by decide) (by decide) dX3_killRowOf_26 h
abbrev rm_X3_rowsInSegments : Room := { frames := 0, cells := 0, slots := 0, locals := 0 }
set_option maxHeartbeats 4000000 in
set_option maxRecDepth 100000 in
theorem c_X3_rowsInSegments (l : Launch) (D : va_G) (cA : Nat → ClassId) (base : Nat) (a0 : Nat) (mm : Mem) (z : (Int32) × Mem) (h : f_X3_rowsInSegments a0 mm = some z) : Met l yX3_rowsInSegments wsX3_rowsInSegments rm_X3_rowsInSegments (va_Pc [.ref a0] (mU D cA base mm)) (mQ eI D cA base z) 0 0 (mA base) := by
  refine Met.ofW (cc := cX3_rowsInSegments) (maxL := 3) (ret := (some .int)) (by decide) rfl ?_
  intro p e s m args below meth c s₁ B hml hv
  obtain ⟨rfl, hH, hT⟩ := hv
  have C : CallFix p m c cX3_rowsInSegments 3 s ([.ref a0]).toArray wsX3_rowsInSegments RX3 := ⟨B.exec, B.bytes, hml, findClass_of_methodNamed B.named, atoms_spec (ws := wsX3_rowsInSegments) B.pre⟩
  have hr := B.returns
  have hlocks := B.notSynchronized
  have w2 : ∀ w ∈ u_ws RX2 TX2 8, w ∈ wsX3_rowsInSegments := by decide +kernel
  have w3 : ∀ w ∈ u_ws RX3 TX3 11, w ∈ wsX3_rowsInSegments := by decide +kernel
  have k22 : Cond.fieldLink RX3 22 "SegmentMerges" "segments" "[LSegmentMerges$Segment;" ∈ wsX3_rowsInSegments := by decide +kernel
  have k26 : Cond.fieldLink RX3 26 "SegmentMerges" "segmentCount" "I" ∈ wsX3_rowsInSegments := by decide +kernel
  have k90 : Cond.fieldLink RX3 90 "SegmentMerges$Segment" "size" "I" ∈ wsX3_rowsInSegments := by decide +kernel
  have L4 : ∀ (n : Nat) (x0 : Nat) (x1 : Int32) (x2 : Int32) (mm : Mem) (H : Heap) (locs : List Loc) (ls : Array Slot) (zz : (Int32 × Int32) × Mem), mH D cA base mm H → va_S (mA base) s.heap H locs → lv_has ls 3 [(0, .ref x0), (1, .int x1), (2, .int x2)] → f_X3_rowsInSegments_L4 n x0 x1 x2 mm = some zz → (∀ (H : Heap) (locs : List Loc) (ls : Array Slot), mH D cA base zz.2 H → va_S (mA base) s.heap H locs → lv_has ls 3 [(0, .ref x0), (1, .int zz.1.1), (2, .int zz.1.2)] → W p l e rm_X3_rowsInSegments s m [.ref a0].toArray below meth c H locs 0 0 (MQ below (mQ eI D cA base z) [.ref a0].toArray s 0 0 (mA base)) (F0 m 30 ls [])) → W p l e rm_X3_rowsInSegments s m [.ref a0].toArray below meth c H locs 0 0 (MQ below (mQ eI D cA base z) [.ref a0].toArray s 0 0 (mA base)) (F0 m 4 ls []) := by
    intro n
    induction n with
    | zero =>
      intro x0 x1 x2 mm H locs ls zz hH hS hl h kk
      exact (fl_inv h).elim
    | succ n ih =>
      intro x0 x1 x2 mm H locs ls zz hH hS hl h kk
      unfold f_X3_rowsInSegments_L4 at h
      refine lv_iload_n C.1 C.2.1 dX3_rowsInSegments_4 rfl (lv_at hl 2 rfl) ?_
      refine lv_aload_n C.1 C.2.1 dX3_rowsInSegments_5 rfl (lv_at hl 0 rfl) ?_
      refine r_gI C hT hH (t := 3) (k := 3) (T := TX3) rfl w3 (by decide) (by decide) rfl k26 dX3_rowsInSegments_6 h (fun v1 h => ?_)
      refine lv_icmp_ge (tgt := 30) C.1 C.2.1 dX3_rowsInSegments_9 (by decide) (fun hc => ?_) (fun hc => ?_)
      · have h := ifc_t hc h
        obtain rfl := rt_inv h
        exact kk _ _ _ hH hS (lv_sub hl [0, 1, 2] rfl)
      · have h := ifc_f hc h
        refine lv_iload_n C.1 C.2.1 dX3_rowsInSegments_12 rfl (lv_at hl 1 rfl) ?_
        refine lv_aload_n C.1 C.2.1 dX3_rowsInSegments_13 rfl (lv_at hl 0 rfl) ?_
        refine r_gN C hT hH (t := 3) (k := 2) (T := TX3) rfl w3 (by decide) (by decide) rfl k22 dX3_rowsInSegments_14 h (fun b2 h => ?_)
        refine lv_iload_n C.1 C.2.1 dX3_rowsInSegments_17 rfl (lv_at hl 2 rfl) ?_
        refine r_lR C hT hH (t := 7) (by decide) dX3_rowsInSegments_18 h (fun b3 h => ?_)
        refine r_gI C hT hH (t := 2) (k := 2) (T := TX2) rfl w2 (by decide) (by decide) rfl k90 dX3_rowsInSegments_19 h (fun v4 h => ?_)
        refine lv_iadd C.1 C.2.1 dX3_rowsInSegments_22 ?_
        refine lv_istore_n (lv' := [(1, .int (x1 + v4)), (0, .ref x0), (2, .int x2)]) C.1 C.2.1 dX3_rowsInSegments_23 rfl hl (by decide) rfl (fun ls hl => ?_)
        refine lv_iinc (v := (x2 + 1)) (lv' := [(2, .int (x2 + 1)), (1, .int (x1 + v4)), (0, .ref x0)]) C.1 C.2.1 dX3_rowsInSegments_24 hl (k := 2) rfl rfl (by decide) rfl (fun ls hl => ?_)
        refine lv_goto (tgt := 4) C.1 C.2.1 dX3_rowsInSegments_27 (by decide) ?_
        exact ih x0 (x1 + v4) (x2 + 1) _ _ _ _ _ hH hS (lv_sub hl [2, 1, 0] rfl) h kk
  have hS : va_S (mA base) s.heap s.heap [] := va_S.rf
  have hl := lv_entry ([.ref a0]) (n := 3) (Nat.le_of_ble_eq_true rfl)
  rw [lg_entry_eq]
  generalize (lg_sl ([.ref a0]) ++ List.replicate (3 - (lg_sl ([.ref a0])).length) Slot.unset).toArray = ls at hl ⊢
  have hl : lv_has ls 3 [(0, .ref a0)] := hl
  unfold f_X3_rowsInSegments at h
  refine lv_iconst (v := 0) C.1 C.2.1 dX3_rowsInSegments_0 (by decide) ?_
  refine lv_istore_n (lv' := [(1, .int 0), (0, .ref a0)]) C.1 C.2.1 dX3_rowsInSegments_1 rfl hl (by decide) rfl (fun ls hl => ?_)
  refine lv_iconst (v := 0) C.1 C.2.1 dX3_rowsInSegments_2 (by decide) ?_
  refine lv_istore_n (lv' := [(2, .int 0), (1, .int 0), (0, .ref a0)]) C.1 C.2.1 dX3_rowsInSegments_3 rfl hl (by decide) rfl (fun ls hl => ?_)
  obtain ⟨x5, mx5, hq, h⟩ := bnd_inv h
  refine L4 2100 a0 0 0 _ _ _ _ (x5, mx5) hH hS (lv_sub hl [2, 1, 0] rfl) hq (fun H locs ls hH hS hl => ?_)
  refine lv_iload_n C.1 C.2.1 dX3_rowsInSegments_30 rfl (lv_at hl 1 rfl) ?_
  exact r_iret C hT hH hS hr hlocks (by decide) (by decide) dX3_rowsInSegments_31 h
abbrev rm_X3_livingFrom : Room := { frames := 0, cells := 0, slots := 0, locals := 0 }
set_option maxHeartbeats 4000000 in
set_option maxRecDepth 100000 in
theorem c_X3_livingFrom (l : Launch) (D : va_G) (cA : Nat → ClassId) (base : Nat) (a0 : Nat) (a1 : Int32) (a2 : Int32) (mm : Mem) (z : (Int32) × Mem) (h : f_X3_livingFrom a0 a1 a2 mm = some z) : Met l yX3_livingFrom wsX3_livingFrom rm_X3_livingFrom (va_Pc [.ref a0, .int a1, .int a2] (mU D cA base mm)) (mQ eI D cA base z) 0 0 (mA base) := by
  refine Met.ofW (cc := cX3_livingFrom) (maxL := 5) (ret := (some .int)) (by decide) rfl ?_
  intro p e s m args below meth c s₁ B hml hv
  obtain ⟨rfl, hH, hT⟩ := hv
  have C : CallFix p m c cX3_livingFrom 5 s ([.ref a0, .int a1, .int a2]).toArray wsX3_livingFrom RX3 := ⟨B.exec, B.bytes, hml, findClass_of_methodNamed B.named, atoms_spec (ws := wsX3_livingFrom) B.pre⟩
  have hr := B.returns
  have hlocks := B.notSynchronized
  have w2 : ∀ w ∈ u_ws RX2 TX2 8, w ∈ wsX3_livingFrom := by decide +kernel
  have w3 : ∀ w ∈ u_ws RX3 TX3 11, w ∈ wsX3_livingFrom := by decide +kernel
  have k22 : Cond.fieldLink RX3 22 "SegmentMerges" "segments" "[LSegmentMerges$Segment;" ∈ wsX3_livingFrom := by decide +kernel
  have k108 : Cond.fieldLink RX3 108 "SegmentMerges$Segment" "living" "I" ∈ wsX3_livingFrom := by decide +kernel
  have L5 : ∀ (n : Nat) (x0 : Nat) (x1 : Int32) (x2 : Int32) (x3 : Int32) (x4 : Int32) (mm : Mem) (H : Heap) (locs : List Loc) (ls : Array Slot) (zz : (Int32 × Int32) × Mem), mH D cA base mm H → va_S (mA base) s.heap H locs → lv_has ls 5 [(0, .ref x0), (1, .int x1), (2, .int x2), (3, .int x3), (4, .int x4)] → f_X3_livingFrom_L5 n x0 x1 x2 x3 x4 mm = some zz → (∀ (H : Heap) (locs : List Loc) (ls : Array Slot), mH D cA base zz.2 H → va_S (mA base) s.heap H locs → lv_has ls 5 [(0, .ref x0), (1, .int x1), (2, .int x2), (3, .int zz.1.1), (4, .int zz.1.2)] → W p l e rm_X3_livingFrom s m [.ref a0, .int a1, .int a2].toArray below meth c H locs 0 0 (MQ below (mQ eI D cA base z) [.ref a0, .int a1, .int a2].toArray s 0 0 (mA base)) (F0 m 32 ls [])) → W p l e rm_X3_livingFrom s m [.ref a0, .int a1, .int a2].toArray below meth c H locs 0 0 (MQ below (mQ eI D cA base z) [.ref a0, .int a1, .int a2].toArray s 0 0 (mA base)) (F0 m 5 ls []) := by
    intro n
    induction n with
    | zero =>
      intro x0 x1 x2 x3 x4 mm H locs ls zz hH hS hl h kk
      exact (fl_inv h).elim
    | succ n ih =>
      intro x0 x1 x2 x3 x4 mm H locs ls zz hH hS hl h kk
      unfold f_X3_livingFrom_L5 at h
      refine lv_iload C.1 C.2.1 dX3_livingFrom_5 (lv_at hl 4 rfl) ?_
      refine lv_iload_n C.1 C.2.1 dX3_livingFrom_7 rfl (lv_at hl 1 rfl) ?_
      refine lv_iload_n C.1 C.2.1 dX3_livingFrom_8 rfl (lv_at hl 2 rfl) ?_
      refine lv_iadd C.1 C.2.1 dX3_livingFrom_9 ?_
      refine lv_icmp_ge (tgt := 32) C.1 C.2.1 dX3_livingFrom_10 (by decide) (fun hc => ?_) (fun hc => ?_)
      · have h := ifc_t hc h
        obtain rfl := rt_inv h
        exact kk _ _ _ hH hS (lv_sub hl [0, 1, 2, 3, 4] rfl)
      · have h := ifc_f hc h
        refine lv_iload_n C.1 C.2.1 dX3_livingFrom_13 rfl (lv_at hl 3 rfl) ?_
        refine lv_aload_n C.1 C.2.1 dX3_livingFrom_14 rfl (lv_at hl 0 rfl) ?_
        refine r_gN C hT hH (t := 3) (k := 2) (T := TX3) rfl w3 (by decide) (by decide) rfl k22 dX3_livingFrom_15 h (fun b1 h => ?_)
        refine lv_iload C.1 C.2.1 dX3_livingFrom_18 (lv_at hl 4 rfl) ?_
        refine r_lR C hT hH (t := 7) (by decide) dX3_livingFrom_20 h (fun b2 h => ?_)
        refine r_gI C hT hH (t := 2) (k := 7) (T := TX2) rfl w2 (by decide) (by decide) rfl k108 dX3_livingFrom_21 h (fun v3 h => ?_)
        refine lv_iadd C.1 C.2.1 dX3_livingFrom_24 ?_
        refine lv_istore_n (lv' := [(3, .int (x3 + v3)), (0, .ref x0), (1, .int x1), (2, .int x2), (4, .int x4)]) C.1 C.2.1 dX3_livingFrom_25 rfl hl (by decide) rfl (fun ls hl => ?_)
        refine lv_iinc (v := (x4 + 1)) (lv' := [(4, .int (x4 + 1)), (3, .int (x3 + v3)), (0, .ref x0), (1, .int x1), (2, .int x2)]) C.1 C.2.1 dX3_livingFrom_26 hl (k := 4) rfl rfl (by decide) rfl (fun ls hl => ?_)
        refine lv_goto (tgt := 5) C.1 C.2.1 dX3_livingFrom_29 (by decide) ?_
        exact ih x0 x1 x2 (x3 + v3) (x4 + 1) _ _ _ _ _ hH hS (lv_sub hl [2, 3, 4, 1, 0] rfl) h kk
  have hS : va_S (mA base) s.heap s.heap [] := va_S.rf
  have hl := lv_entry ([.ref a0, .int a1, .int a2]) (n := 5) (Nat.le_of_ble_eq_true rfl)
  rw [lg_entry_eq]
  generalize (lg_sl ([.ref a0, .int a1, .int a2]) ++ List.replicate (5 - (lg_sl ([.ref a0, .int a1, .int a2])).length) Slot.unset).toArray = ls at hl ⊢
  have hl : lv_has ls 5 [(0, .ref a0), (1, .int a1), (2, .int a2)] := hl
  unfold f_X3_livingFrom at h
  refine lv_iconst (v := 0) C.1 C.2.1 dX3_livingFrom_0 (by decide) ?_
  refine lv_istore_n (lv' := [(3, .int 0), (0, .ref a0), (1, .int a1), (2, .int a2)]) C.1 C.2.1 dX3_livingFrom_1 rfl hl (by decide) rfl (fun ls hl => ?_)
  refine lv_iload_n C.1 C.2.1 dX3_livingFrom_2 rfl (lv_at hl 2 rfl) ?_
  refine lv_istore (lv' := [(4, .int a1), (3, .int 0), (0, .ref a0), (1, .int a1), (2, .int a2)]) C.1 C.2.1 dX3_livingFrom_3 hl (by decide) rfl (fun ls hl => ?_)
  obtain ⟨x4, mx4, hq, h⟩ := bnd_inv h
  refine L5 2100 a0 a1 a2 0 a1 _ _ _ _ (x4, mx4) hH hS (lv_sub hl [2, 3, 4, 1, 0] rfl) hq (fun H locs ls hH hS hl => ?_)
  refine lv_iload_n C.1 C.2.1 dX3_livingFrom_32 rfl (lv_at hl 3 rfl) ?_
  exact r_iret C hT hH hS hr hlocks (by decide) (by decide) dX3_livingFrom_33 h
abbrev rm_X3_isOfOneTier : Room := { frames := 0, cells := 0, slots := 0, locals := 0 }
set_option maxHeartbeats 4000000 in
set_option maxRecDepth 100000 in
theorem c_X3_isOfOneTier (l : Launch) (D : va_G) (cA : Nat → ClassId) (base : Nat) (a0 : Nat) (a1 : Int32) (a2 : Int32) (mm : Mem) (z : (Int32) × Mem) (h : f_X3_isOfOneTier a0 a1 a2 mm = some z) : Met l yX3_isOfOneTier wsX3_isOfOneTier rm_X3_isOfOneTier (va_Pc [.ref a0, .int a1, .int a2] (mU D cA base mm)) (mQ eI D cA base z) 0 0 (mA base) := by
  refine Met.ofW (cc := cX3_isOfOneTier) (maxL := 4) (ret := (some .boolean)) (by decide) rfl ?_
  intro p e s m args below meth c s₁ B hml hv
  obtain ⟨rfl, hH, hT⟩ := hv
  have C : CallFix p m c cX3_isOfOneTier 4 s ([.ref a0, .int a1, .int a2]).toArray wsX3_isOfOneTier RX3 := ⟨B.exec, B.bytes, hml, findClass_of_methodNamed B.named, atoms_spec (ws := wsX3_isOfOneTier) B.pre⟩
  have hr := B.returns
  have hlocks := B.notSynchronized
  have w2 : ∀ w ∈ u_ws RX2 TX2 8, w ∈ wsX3_isOfOneTier := by decide +kernel
  have w3 : ∀ w ∈ u_ws RX3 TX3 11, w ∈ wsX3_isOfOneTier := by decide +kernel
  have k22 : Cond.fieldLink RX3 22 "SegmentMerges" "segments" "[LSegmentMerges$Segment;" ∈ wsX3_isOfOneTier := by decide +kernel
  have k105 : Cond.fieldLink RX3 105 "SegmentMerges$Segment" "tier" "I" ∈ wsX3_isOfOneTier := by decide +kernel
  have L4 : ∀ (n : Nat) (x0 : Nat) (x1 : Int32) (x2 : Int32) (x3 : Int32) (mm : Mem) (H : Heap) (locs : List Loc) (ls : Array Slot), mH D cA base mm H → va_S (mA base) s.heap H locs → lv_has ls 4 [(0, .ref x0), (1, .int x1), (2, .int x2), (3, .int x3)] → f_X3_isOfOneTier_L4 n x0 x1 x2 x3 mm = some z → W p l e rm_X3_isOfOneTier s m [.ref a0, .int a1, .int a2].toArray below meth c H locs 0 0 (MQ below (mQ eI D cA base z) [.ref a0, .int a1, .int a2].toArray s 0 0 (mA base)) (F0 m 4 ls []) := by
    intro n
    induction n with
    | zero =>
      intro x0 x1 x2 x3 mm H locs ls hH hS hl h
      exact (fl_inv h).elim
    | succ n ih =>
      intro x0 x1 x2 x3 mm H locs ls hH hS hl h
      unfold f_X3_isOfOneTier_L4 at h
      refine lv_iload_n C.1 C.2.1 dX3_isOfOneTier_4 rfl (lv_at hl 3 rfl) ?_
      refine lv_iload_n C.1 C.2.1 dX3_isOfOneTier_5 rfl (lv_at hl 1 rfl) ?_
      refine lv_iload_n C.1 C.2.1 dX3_isOfOneTier_6 rfl (lv_at hl 2 rfl) ?_
      refine lv_iadd C.1 C.2.1 dX3_isOfOneTier_7 ?_
      refine lv_icmp_ge (tgt := 40) C.1 C.2.1 dX3_isOfOneTier_8 (by decide) (fun hc => ?_) (fun hc => ?_)
      · have h := ifc_t hc h
        refine lv_iconst (v := 1) C.1 C.2.1 dX3_isOfOneTier_40 (by decide) ?_
        exact r_zret C hT hH hS hr hlocks (by decide) (by decide) dX3_isOfOneTier_41 h
      · have h := ifc_f hc h
        refine lv_aload_n C.1 C.2.1 dX3_isOfOneTier_11 rfl (lv_at hl 0 rfl) ?_
        refine r_gN C hT hH (t := 3) (k := 2) (T := TX3) rfl w3 (by decide) (by decide) rfl k22 dX3_isOfOneTier_12 h (fun b1 h => ?_)
        refine lv_iload_n C.1 C.2.1 dX3_isOfOneTier_15 rfl (lv_at hl 3 rfl) ?_
        refine r_lR C hT hH (t := 7) (by decide) dX3_isOfOneTier_16 h (fun b2 h => ?_)
        refine r_gI C hT hH (t := 2) (k := 1) (T := TX2) rfl w2 (by decide) (by decide) rfl k105 dX3_isOfOneTier_17 h (fun v3 h => ?_)
        refine lv_aload_n C.1 C.2.1 dX3_isOfOneTier_20 rfl (lv_at hl 0 rfl) ?_
        refine r_gN C hT hH (t := 3) (k := 2) (T := TX3) rfl w3 (by decide) (by decide) rfl k22 dX3_isOfOneTier_21 h (fun b4 h => ?_)
        refine lv_iload_n C.1 C.2.1 dX3_isOfOneTier_24 rfl (lv_at hl 1 rfl) ?_
        refine r_lR C hT hH (t := 7) (by decide) dX3_isOfOneTier_25 h (fun b5 h => ?_)
        refine r_gI C hT hH (t := 2) (k := 1) (T := TX2) rfl w2 (by decide) (by decide) rfl k105 dX3_isOfOneTier_26 h (fun v6 h => ?_)
        refine lv_icmp_eq (tgt := 34) C.1 C.2.1 dX3_isOfOneTier_29 (by decide) (fun hc => ?_) (fun hc => ?_)
        · have h := ifc_t hc h
          refine lv_iinc (v := (x3 + 1)) (lv' := [(3, .int (x3 + 1)), (0, .ref x0), (1, .int x1), (2, .int x2)]) C.1 C.2.1 dX3_isOfOneTier_34 hl (k := 3) rfl rfl (by decide) rfl (fun ls hl => ?_)
          refine lv_goto (tgt := 4) C.1 C.2.1 dX3_isOfOneTier_37 (by decide) ?_
          exact ih x0 x1 x2 (x3 + 1) _ _ _ _ hH hS (lv_sub hl [1, 2, 3, 0] rfl) h
        · have h := ifc_f hc h
          refine lv_iconst (v := 0) C.1 C.2.1 dX3_isOfOneTier_32 (by decide) ?_
          exact r_zret C hT hH hS hr hlocks (by decide) (by decide) dX3_isOfOneTier_33 h
  have hS : va_S (mA base) s.heap s.heap [] := va_S.rf
  have hl := lv_entry ([.ref a0, .int a1, .int a2]) (n := 4) (Nat.le_of_ble_eq_true rfl)
  rw [lg_entry_eq]
  generalize (lg_sl ([.ref a0, .int a1, .int a2]) ++ List.replicate (4 - (lg_sl ([.ref a0, .int a1, .int a2])).length) Slot.unset).toArray = ls at hl ⊢
  have hl : lv_has ls 4 [(0, .ref a0), (1, .int a1), (2, .int a2)] := hl
  unfold f_X3_isOfOneTier at h
  refine lv_iload_n C.1 C.2.1 dX3_isOfOneTier_0 rfl (lv_at hl 1 rfl) ?_
  refine lv_iconst (v := 1) C.1 C.2.1 dX3_isOfOneTier_1 (by decide) ?_
  refine lv_iadd C.1 C.2.1 dX3_isOfOneTier_2 ?_
  refine lv_istore_n (lv' := [(3, .int (a1 + 1)), (0, .ref a0), (1, .int a1), (2, .int a2)]) C.1 C.2.1 dX3_isOfOneTier_3 rfl hl (by decide) rfl (fun ls hl => ?_)
  exact L4 2100 a0 a1 a2 (a1 + 1) _ _ _ _ hH hS (lv_sub hl [1, 2, 3, 0] rfl) h
abbrev rm_X3_closeGap : Room := { frames := 0, cells := 0, slots := 0, locals := 0 }
set_option maxHeartbeats 4000000 in
set_option maxRecDepth 100000 in
theorem c_X3_closeGap (l : Launch) (D : va_G) (cA : Nat → ClassId) (base : Nat) (a0 : Nat) (a1 : Int32) (a2 : Int32) (mm : Mem) (z : (Unit) × Mem) (h : f_X3_closeGap a0 a1 a2 mm = some z) : Met l yX3_closeGap wsX3_closeGap rm_X3_closeGap (va_Pc [.ref a0, .int a1, .int a2] (mU D cA base mm)) (mQ eV D cA base z) 0 0 (mA base) := by
  refine Met.ofW (cc := cX3_closeGap) (maxL := 4) (ret := none) (by decide) rfl ?_
  intro p e s m args below meth c s₁ B hml hv
  obtain ⟨rfl, hH, hT⟩ := hv
  have C : CallFix p m c cX3_closeGap 4 s ([.ref a0, .int a1, .int a2]).toArray wsX3_closeGap RX3 := ⟨B.exec, B.bytes, hml, findClass_of_methodNamed B.named, atoms_spec (ws := wsX3_closeGap) B.pre⟩
  have hr := B.returns
  have hlocks := B.notSynchronized
  have w3 : ∀ w ∈ u_ws RX3 TX3 11, w ∈ wsX3_closeGap := by decide +kernel
  have k22 : Cond.fieldLink RX3 22 "SegmentMerges" "segments" "[LSegmentMerges$Segment;" ∈ wsX3_closeGap := by decide +kernel
  have k26 : Cond.fieldLink RX3 26 "SegmentMerges" "segmentCount" "I" ∈ wsX3_closeGap := by decide +kernel
  have L2 : ∀ (n : Nat) (x0 : Nat) (x1 : Int32) (x2 : Int32) (x3 : Int32) (mm : Mem) (H : Heap) (locs : List Loc) (ls : Array Slot) (zz : (Int32) × Mem), mH D cA base mm H → va_S (mA base) s.heap H locs → lv_has ls 4 [(0, .ref x0), (1, .int x1), (2, .int x2), (3, .int x3)] → f_X3_closeGap_L2 n x0 x1 x2 x3 mm = some zz → (∀ (H : Heap) (locs : List Loc) (ls : Array Slot), mH D cA base zz.2 H → va_S (mA base) s.heap H locs → lv_has ls 4 [(0, .ref x0), (1, .int x1), (2, .int x2), (3, .int zz.1)] → W p l e rm_X3_closeGap s m [.ref a0, .int a1, .int a2].toArray below meth c H locs 0 0 (MQ below (mQ eV D cA base z) [.ref a0, .int a1, .int a2].toArray s 0 0 (mA base)) (F0 m 32 ls [])) → W p l e rm_X3_closeGap s m [.ref a0, .int a1, .int a2].toArray below meth c H locs 0 0 (MQ below (mQ eV D cA base z) [.ref a0, .int a1, .int a2].toArray s 0 0 (mA base)) (F0 m 2 ls []) := by
    intro n
    induction n with
    | zero =>
      intro x0 x1 x2 x3 mm H locs ls zz hH hS hl h kk
      exact (fl_inv h).elim
    | succ n ih =>
      intro x0 x1 x2 x3 mm H locs ls zz hH hS hl h kk
      unfold f_X3_closeGap_L2 at h
      refine lv_iload_n C.1 C.2.1 dX3_closeGap_2 rfl (lv_at hl 3 rfl) ?_
      refine lv_iload_n C.1 C.2.1 dX3_closeGap_3 rfl (lv_at hl 2 rfl) ?_
      refine lv_iadd C.1 C.2.1 dX3_closeGap_4 ?_
      refine lv_aload_n C.1 C.2.1 dX3_closeGap_5 rfl (lv_at hl 0 rfl) ?_
      refine r_gI C hT hH (t := 3) (k := 3) (T := TX3) rfl w3 (by decide) (by decide) rfl k26 dX3_closeGap_6 h (fun v1 h => ?_)
      refine lv_icmp_ge (tgt := 32) C.1 C.2.1 dX3_closeGap_9 (by decide) (fun hc => ?_) (fun hc => ?_)
      · have h := ifc_t hc h
        obtain rfl := rt_inv h
        exact kk _ _ _ hH hS (lv_sub hl [0, 1, 2, 3] rfl)
      · have h := ifc_f hc h
        refine lv_aload_n C.1 C.2.1 dX3_closeGap_12 rfl (lv_at hl 0 rfl) ?_
        refine r_gN C hT hH (t := 3) (k := 2) (T := TX3) rfl w3 (by decide) (by decide) rfl k22 dX3_closeGap_13 h (fun b2 h => ?_)
        refine lv_iload_n C.1 C.2.1 dX3_closeGap_16 rfl (lv_at hl 3 rfl) ?_
        refine lv_aload_n C.1 C.2.1 dX3_closeGap_17 rfl (lv_at hl 0 rfl) ?_
        refine r_gN C hT hH (t := 3) (k := 2) (T := TX3) rfl w3 (by decide) (by decide) rfl k22 dX3_closeGap_18 h (fun b3 h => ?_)
        refine lv_iload_n C.1 C.2.1 dX3_closeGap_21 rfl (lv_at hl 3 rfl) ?_
        refine lv_iload_n C.1 C.2.1 dX3_closeGap_22 rfl (lv_at hl 2 rfl) ?_
        refine lv_iadd C.1 C.2.1 dX3_closeGap_23 ?_
        refine r_lR C hT hH (t := 7) (by decide) dX3_closeGap_24 h (fun b4 h => ?_)
        refine r_sR C hT hH hS dX3_closeGap_25 h (fun mm H locs hH hS h => ?_)
        refine lv_iinc (v := (x3 + 1)) (lv' := [(3, .int (x3 + 1)), (0, .ref x0), (1, .int x1), (2, .int x2)]) C.1 C.2.1 dX3_closeGap_26 hl (k := 3) rfl rfl (by decide) rfl (fun ls hl => ?_)
        refine lv_goto (tgt := 2) C.1 C.2.1 dX3_closeGap_29 (by decide) ?_
        exact ih x0 x1 x2 (x3 + 1) _ _ _ _ _ hH hS (lv_sub hl [1, 2, 3, 0] rfl) h kk
  have hS : va_S (mA base) s.heap s.heap [] := va_S.rf
  have hl := lv_entry ([.ref a0, .int a1, .int a2]) (n := 4) (Nat.le_of_ble_eq_true rfl)
  rw [lg_entry_eq]
  generalize (lg_sl ([.ref a0, .int a1, .int a2]) ++ List.replicate (4 - (lg_sl ([.ref a0, .int a1, .int a2])).length) Slot.unset).toArray = ls at hl ⊢
  have hl : lv_has ls 4 [(0, .ref a0), (1, .int a1), (2, .int a2)] := hl
  unfold f_X3_closeGap at h
  refine lv_iload_n C.1 C.2.1 dX3_closeGap_0 rfl (lv_at hl 1 rfl) ?_
  refine lv_istore_n (lv' := [(3, .int a1), (0, .ref a0), (1, .int a1), (2, .int a2)]) C.1 C.2.1 dX3_closeGap_1 rfl hl (by decide) rfl (fun ls hl => ?_)
  obtain ⟨x5, mx5, hq, h⟩ := bnd_inv h
  refine L2 2100 a0 a1 a2 a1 _ _ _ _ (x5, mx5) hH hS (lv_sub hl [1, 2, 3, 0] rfl) hq (fun H locs ls hH hS hl => ?_)
  refine lv_aload_n C.1 C.2.1 dX3_closeGap_32 rfl (lv_at hl 0 rfl) ?_
  refine lv_dup C.1 C.2.1 dX3_closeGap_33 rfl ?_
  refine r_gI C hT hH (t := 3) (k := 3) (T := TX3) rfl w3 (by decide) (by decide) rfl k26 dX3_closeGap_34 h (fun v6 h => ?_)
  refine lv_iload_n C.1 C.2.1 dX3_closeGap_37 rfl (lv_at hl 2 rfl) ?_
  refine lv_isub C.1 C.2.1 dX3_closeGap_38 ?_
  refine r_pI C hT hH hS (t := 3) (k := 3) (T := TX3) rfl w3 tyX3_ok nmX3 (by decide) (by decide) rfl rfl k26 (Or.inl rfl) dX3_closeGap_39 h (fun mm H locs hH hS h => ?_)
  exact r_vret C hT hH hS hr hlocks (by decide) (by decide) dX3_closeGap_42 h
abbrev rm_X3_endMerge : Room := { frames := 3, cells := 5, slots := 408, locals := 60 }
set_option maxHeartbeats 4000000 in
set_option maxRecDepth 100000 in
theorem c_X3_endMerge (l : Launch) (D : va_G) (cA : Nat → ClassId) (base : Nat) (a0 : Nat) (a1 : Nat) (mm : Mem) (z : (Unit) × Mem) (h : f_X3_endMerge a0 a1 mm = some z) : Met l yX3_endMerge wsX3_endMerge rm_X3_endMerge (va_Pc [.ref a0, .ref a1] (mU D cA base mm)) (mQ eV D cA base z) 5 408 (mA base) := by
  refine Met.ofW (cc := cX3_endMerge) (maxL := 3) (ret := none) (by decide) rfl ?_
  intro p e s m args below meth c s₁ B hml hv
  obtain ⟨rfl, hH, hT⟩ := hv
  have C : CallFix p m c cX3_endMerge 3 s ([.ref a0, .ref a1]).toArray wsX3_endMerge RX3 := ⟨B.exec, B.bytes, hml, findClass_of_methodNamed B.named, atoms_spec (ws := wsX3_endMerge) B.pre⟩
  have hr := B.returns
  have hlocks := B.notSynchronized
  have w1 : ∀ w ∈ u_ws RX1 TX1 6, w ∈ wsX3_endMerge := by decide +kernel
  have w3 : ∀ w ∈ u_ws RX3 TX3 11, w ∈ wsX3_endMerge := by decide +kernel
  have k22 : Cond.fieldLink RX3 22 "SegmentMerges" "segments" "[LSegmentMerges$Segment;" ∈ wsX3_endMerge := by decide +kernel
  have k30 : Cond.fieldLink RX3 30 "SegmentMerges" "nextNumber" "I" ∈ wsX3_endMerge := by decide +kernel
  have k33 : Cond.fieldLink RX3 33 "SegmentMerges" "writtenRows" "I" ∈ wsX3_endMerge := by decide +kernel
  have k39 : Cond.fieldLink RX3 39 "SegmentMerges" "current" "LSegmentMerges$Merge;" ∈ wsX3_endMerge := by decide +kernel
  have k43 : Cond.fieldLink RX3 43 "SegmentMerges" "ended" "LSegmentMerges$Merge;" ∈ wsX3_endMerge := by decide +kernel
  have k153 : Cond.fieldLink RX3 153 "SegmentMerges$Merge" "written" "I" ∈ wsX3_endMerge := by decide +kernel
  have k156 : Cond.fieldLink RX3 156 "SegmentMerges$Merge" "place" "I" ∈ wsX3_endMerge := by decide +kernel
  have k185 : Cond.fieldLink RX3 185 "SegmentMerges$Merge" "sources" "[LSegmentMerges$Segment;" ∈ wsX3_endMerge := by decide +kernel
  have hS : va_S (mA base) s.heap s.heap [] := va_S.rf
  have hl := lv_entry ([.ref a0, .ref a1]) (n := 3) (Nat.le_of_ble_eq_true rfl)
  rw [lg_entry_eq]
  generalize (lg_sl ([.ref a0, .ref a1]) ++ List.replicate (3 - (lg_sl ([.ref a0, .ref a1])).length) Slot.unset).toArray = ls at hl ⊢
  have hl : lv_has ls 3 [(0, .ref a0), (1, .ref a1)] := hl
  unfold f_X3_endMerge at h
  refine lv_iconst (v := 0) C.1 C.2.1 dX3_endMerge_0 (by decide) ?_
  refine lv_istore_n (lv' := [(2, .int 0), (0, .ref a0), (1, .ref a1)]) C.1 C.2.1 dX3_endMerge_1 rfl hl (by decide) rfl (fun ls hl => ?_)
  refine lv_aload_n C.1 C.2.1 dX3_endMerge_2 rfl (lv_at hl 2 rfl) ?_
  refine r_gI C hT hH (t := 1) (k := 4) (T := TX1) rfl w1 (by decide) (by decide) rfl k153 dX3_endMerge_3 h (fun v1 h => ?_)
  refine lv_if_le (tgt := 38) C.1 C.2.1 dX3_endMerge_6 (by decide) (fun hc => ?_) (fun hc => ?_)
  · have h := ifc_t hc h
    refine lv_aload_n C.1 C.2.1 dX3_endMerge_38 rfl (lv_at hl 1 rfl) ?_
    refine lv_aload_n C.1 C.2.1 dX3_endMerge_39 rfl (lv_at hl 2 rfl) ?_
    refine r_gI C hT hH (t := 1) (k := 0) (T := TX1) rfl w1 (by decide) (by decide) rfl k156 dX3_endMerge_40 h (fun v2 h => ?_)
    refine lv_iload_n C.1 C.2.1 dX3_endMerge_43 rfl (lv_at hl 0 rfl) ?_
    refine lv_iadd C.1 C.2.1 dX3_endMerge_44 ?_
    refine lv_aload_n C.1 C.2.1 dX3_endMerge_45 rfl (lv_at hl 2 rfl) ?_
    refine r_gN C hT hH (t := 1) (k := 1) (T := TX1) rfl w1 (by decide) (by decide) rfl k185 dX3_endMerge_46 h (fun b3 h => ?_)
    refine r_ln C hT hH (t := 7) (by decide) (by decide) dX3_endMerge_49 h (fun v4 h => ?_)
    refine lv_iload_n C.1 C.2.1 dX3_endMerge_50 rfl (lv_at hl 0 rfl) ?_
    refine lv_isub C.1 C.2.1 dX3_endMerge_51 ?_
    refine r_callVV C hT hH hS (t := 3) (As := [.int (v2 + 0), .int (v4 - 0)]) (fun z1 hz => c_X3_closeGap l D cA base a0 (v2 + 0) (v4 - 0) _ z1 hz) (cwV 2 C.2.2.2.2 gX3_endMerge_X3_closeGap rfl rfl rfl (by decide +kernel) ⟨Nat.le_of_ble_eq_true rfl, Nat.le_of_ble_eq_true rfl⟩) rfl (by decide) rfl hl.1 rfl (Nat.le_of_ble_eq_true rfl) dX3_endMerge_52 ⟨by decide, by decide⟩ h (fun _ mm H locs hH hS h => ?_)
    refine lv_aload_n C.1 C.2.1 dX3_endMerge_55 rfl (lv_at hl 1 rfl) ?_
    refine lv_dup C.1 C.2.1 dX3_endMerge_56 rfl ?_
    refine r_gI C hT hH (t := 3) (k := 5) (T := TX3) rfl w3 (by decide) (by decide) rfl k33 dX3_endMerge_57 h (fun v5 h => ?_)
    refine lv_aload_n C.1 C.2.1 dX3_endMerge_60 rfl (lv_at hl 2 rfl) ?_
    refine r_gI C hT hH (t := 1) (k := 4) (T := TX1) rfl w1 (by decide) (by decide) rfl k153 dX3_endMerge_61 h (fun v6 h => ?_)
    refine lv_iadd C.1 C.2.1 dX3_endMerge_64 ?_
    refine r_pI C hT hH hS (t := 3) (k := 5) (T := TX3) rfl w3 tyX3_ok nmX3 (by decide) (by decide) rfl rfl k33 (Or.inl rfl) dX3_endMerge_65 h (fun mm H locs hH hS h => ?_)
    refine lv_aload_n C.1 C.2.1 dX3_endMerge_68 rfl (lv_at hl 1 rfl) ?_
    refine lv_aload_n C.1 C.2.1 dX3_endMerge_69 rfl (lv_at hl 2 rfl) ?_
    refine r_pR C hT hH hS (t := 3) (k := 8) (T := TX3) rfl w3 tyX3_ok nmX3 (by decide) (by decide) rfl rfl rfl k43 (Or.inl rfl) dX3_endMerge_70 h (fun mm H locs hH hS h => ?_)
    refine lv_aload_n C.1 C.2.1 dX3_endMerge_73 rfl (lv_at hl 1 rfl) ?_
    refine lv_null C.1 C.2.1 dX3_endMerge_74 ?_
    refine r_pRN C hT hH hS (t := 3) (k := 7) (T := TX3) rfl w3 tyX3_ok nmX3 (by decide) (by decide) rfl rfl rfl k39 (Or.inl rfl) dX3_endMerge_75 h (fun mm H locs hH hS h => ?_)
    exact r_vret C hT hH hS hr hlocks (by decide) (by decide) dX3_endMerge_78 h
  · have h := ifc_f hc h
    refine lv_aload_n C.1 C.2.1 dX3_endMerge_9 rfl (lv_at hl 1 rfl) ?_
    refine r_gN C hT hH (t := 3) (k := 2) (T := TX3) rfl w3 (by decide) (by decide) rfl k22 dX3_endMerge_10 h (fun b7 h => ?_)
    refine lv_aload_n C.1 C.2.1 dX3_endMerge_13 rfl (lv_at hl 2 rfl) ?_
    refine r_gI C hT hH (t := 1) (k := 0) (T := TX1) rfl w1 (by decide) (by decide) rfl k156 dX3_endMerge_14 h (fun v8 h => ?_)
    refine lv_aload_n C.1 C.2.1 dX3_endMerge_17 rfl (lv_at hl 2 rfl) ?_
    refine lv_aload_n C.1 C.2.1 dX3_endMerge_18 rfl (lv_at hl 1 rfl) ?_
    refine r_gI C hT hH (t := 3) (k := 4) (T := TX3) rfl w3 (by decide) (by decide) rfl k30 dX3_endMerge_19 h (fun v9 h => ?_)
    refine r_callVN C hT hH hS (t := 1) (As := [.int v9]) (fun z1 hz => c_X1_asSegment l D cA base a1 v9 _ z1 hz) (cwV 1 C.2.2.2.2 gX3_endMerge_X1_asSegment rfl rfl rfl (by decide +kernel) ⟨Nat.le_of_ble_eq_true rfl, Nat.le_of_ble_eq_true rfl⟩) rfl (by decide) rfl hl.1 rfl (Nat.le_of_ble_eq_true rfl) dX3_endMerge_22 ⟨by decide, by decide⟩ h (fun b10 mm H locs hH hS h => ?_)
    refine r_sR C hT hH hS dX3_endMerge_25 h (fun mm H locs hH hS h => ?_)
    refine lv_aload_n C.1 C.2.1 dX3_endMerge_26 rfl (lv_at hl 1 rfl) ?_
    refine lv_dup C.1 C.2.1 dX3_endMerge_27 rfl ?_
    refine r_gI C hT hH (t := 3) (k := 4) (T := TX3) rfl w3 (by decide) (by decide) rfl k30 dX3_endMerge_28 h (fun v11 h => ?_)
    refine lv_iconst (v := 1) C.1 C.2.1 dX3_endMerge_31 (by decide) ?_
    refine lv_iadd C.1 C.2.1 dX3_endMerge_32 ?_
    refine r_pI C hT hH hS (t := 3) (k := 4) (T := TX3) rfl w3 tyX3_ok nmX3 (by decide) (by decide) rfl rfl k30 (Or.inl rfl) dX3_endMerge_33 h (fun mm H locs hH hS h => ?_)
    refine lv_iconst (v := 1) C.1 C.2.1 dX3_endMerge_36 (by decide) ?_
    refine lv_istore_n (lv' := [(2, .int 1), (0, .ref a0), (1, .ref a1)]) C.1 C.2.1 dX3_endMerge_37 rfl hl (by decide) rfl (fun ls hl => ?_)
    refine lv_aload_n C.1 C.2.1 dX3_endMerge_38 rfl (lv_at hl 1 rfl) ?_
    refine lv_aload_n C.1 C.2.1 dX3_endMerge_39 rfl (lv_at hl 2 rfl) ?_
    refine r_gI C hT hH (t := 1) (k := 0) (T := TX1) rfl w1 (by decide) (by decide) rfl k156 dX3_endMerge_40 h (fun v12 h => ?_)
    refine lv_iload_n C.1 C.2.1 dX3_endMerge_43 rfl (lv_at hl 0 rfl) ?_
    refine lv_iadd C.1 C.2.1 dX3_endMerge_44 ?_
    refine lv_aload_n C.1 C.2.1 dX3_endMerge_45 rfl (lv_at hl 2 rfl) ?_
    refine r_gN C hT hH (t := 1) (k := 1) (T := TX1) rfl w1 (by decide) (by decide) rfl k185 dX3_endMerge_46 h (fun b13 h => ?_)
    refine r_ln C hT hH (t := 7) (by decide) (by decide) dX3_endMerge_49 h (fun v14 h => ?_)
    refine lv_iload_n C.1 C.2.1 dX3_endMerge_50 rfl (lv_at hl 0 rfl) ?_
    refine lv_isub C.1 C.2.1 dX3_endMerge_51 ?_
    refine r_callVV C hT hH hS (t := 3) (As := [.int (v12 + 1), .int (v14 - 1)]) (fun z1 hz => c_X3_closeGap l D cA base a0 (v12 + 1) (v14 - 1) _ z1 hz) (cwV 2 C.2.2.2.2 gX3_endMerge_X3_closeGap rfl rfl rfl (by decide +kernel) ⟨Nat.le_of_ble_eq_true rfl, Nat.le_of_ble_eq_true rfl⟩) rfl (by decide) rfl hl.1 rfl (Nat.le_of_ble_eq_true rfl) dX3_endMerge_52 ⟨by decide, by decide⟩ h (fun _ mm H locs hH hS h => ?_)
    refine lv_aload_n C.1 C.2.1 dX3_endMerge_55 rfl (lv_at hl 1 rfl) ?_
    refine lv_dup C.1 C.2.1 dX3_endMerge_56 rfl ?_
    refine r_gI C hT hH (t := 3) (k := 5) (T := TX3) rfl w3 (by decide) (by decide) rfl k33 dX3_endMerge_57 h (fun v15 h => ?_)
    refine lv_aload_n C.1 C.2.1 dX3_endMerge_60 rfl (lv_at hl 2 rfl) ?_
    refine r_gI C hT hH (t := 1) (k := 4) (T := TX1) rfl w1 (by decide) (by decide) rfl k153 dX3_endMerge_61 h (fun v16 h => ?_)
    refine lv_iadd C.1 C.2.1 dX3_endMerge_64 ?_
    refine r_pI C hT hH hS (t := 3) (k := 5) (T := TX3) rfl w3 tyX3_ok nmX3 (by decide) (by decide) rfl rfl k33 (Or.inl rfl) dX3_endMerge_65 h (fun mm H locs hH hS h => ?_)
    refine lv_aload_n C.1 C.2.1 dX3_endMerge_68 rfl (lv_at hl 1 rfl) ?_
    refine lv_aload_n C.1 C.2.1 dX3_endMerge_69 rfl (lv_at hl 2 rfl) ?_
    refine r_pR C hT hH hS (t := 3) (k := 8) (T := TX3) rfl w3 tyX3_ok nmX3 (by decide) (by decide) rfl rfl rfl k43 (Or.inl rfl) dX3_endMerge_70 h (fun mm H locs hH hS h => ?_)
    refine lv_aload_n C.1 C.2.1 dX3_endMerge_73 rfl (lv_at hl 1 rfl) ?_
    refine lv_null C.1 C.2.1 dX3_endMerge_74 ?_
    refine r_pRN C hT hH hS (t := 3) (k := 7) (T := TX3) rfl w3 tyX3_ok nmX3 (by decide) (by decide) rfl rfl rfl k39 (Or.inl rfl) dX3_endMerge_75 h (fun mm H locs hH hS h => ?_)
    exact r_vret C hT hH hS hr hlocks (by decide) (by decide) dX3_endMerge_78 h
abbrev rm_X3_init : Room := { frames := 2, cells := 11, slots := 543, locals := 32 }
set_option maxHeartbeats 4000000 in
set_option maxRecDepth 100000 in
theorem c_X3_init (l : Launch) (D : va_G) (cA : Nat → ClassId) (base : Nat) (a0 : Nat) (mm : Mem) (z : (Unit) × Mem) (h : f_X3_init a0 mm = some z) : Met l yX3_init wsX3_init rm_X3_init (va_Pc [.ref a0] (mU D cA base mm)) (mQ eV D cA base z) 11 543 (mA base) := by
  refine Met.ofW (cc := cX3_init) (maxL := 1) (ret := none) (by decide) rfl ?_
  intro p e s m args below meth c s₁ B hml hv
  obtain ⟨rfl, hH, hT⟩ := hv
  have C : CallFix p m c cX3_init 1 s ([.ref a0]).toArray wsX3_init RX3 := ⟨B.exec, B.bytes, hml, findClass_of_methodNamed B.named, atoms_spec (ws := wsX3_init) B.pre⟩
  have hr := B.returns
  have hlocks := B.notSynchronized
  have hin : meth.name = "<init>" := (name_of_methodNamed B.named B.method).1
  have w0 : ∀ w ∈ u_ws RX0 TX0 3, w ∈ wsX3_init := by decide +kernel
  have w3 : ∀ w ∈ u_ws RX3 TX3 11, w ∈ wsX3_init := by decide +kernel
  have k9 : Cond.fieldLink RX3 9 "SegmentMerges" "valueOf" "[I" ∈ wsX3_init := by decide +kernel
  have k16 : Cond.fieldLink RX3 16 "SegmentMerges" "memory" "LSegmentMerges$Memory;" ∈ wsX3_init := by decide +kernel
  have k22 : Cond.fieldLink RX3 22 "SegmentMerges" "segments" "[LSegmentMerges$Segment;" ∈ wsX3_init := by decide +kernel
  have k26 : Cond.fieldLink RX3 26 "SegmentMerges" "segmentCount" "I" ∈ wsX3_init := by decide +kernel
  have k30 : Cond.fieldLink RX3 30 "SegmentMerges" "nextNumber" "I" ∈ wsX3_init := by decide +kernel
  have k33 : Cond.fieldLink RX3 33 "SegmentMerges" "writtenRows" "I" ∈ wsX3_init := by decide +kernel
  have k36 : Cond.fieldLink RX3 36 "SegmentMerges" "fullSize" "I" ∈ wsX3_init := by decide +kernel
  have k39 : Cond.fieldLink RX3 39 "SegmentMerges" "current" "LSegmentMerges$Merge;" ∈ wsX3_init := by decide +kernel
  have k43 : Cond.fieldLink RX3 43 "SegmentMerges" "ended" "LSegmentMerges$Merge;" ∈ wsX3_init := by decide +kernel
  have k48 : Cond.fieldLink RX3 48 "SegmentMerges" "viewed" "[[I" ∈ wsX3_init := by decide +kernel
  have k51 : Cond.fieldLink RX3 51 "SegmentMerges" "viewOpen" "[Z" ∈ wsX3_init := by decide +kernel
  have hS : va_S (mA base) s.heap s.heap [] := va_S.rf
  have hl := lv_entry ([.ref a0]) (n := 1) (Nat.le_of_ble_eq_true rfl)
  rw [lg_entry_eq]
  generalize (lg_sl ([.ref a0]) ++ List.replicate (1 - (lg_sl ([.ref a0])).length) Slot.unset).toArray = ls at hl ⊢
  have hl : lv_has ls 1 [(0, .ref a0)] := hl
  unfold f_X3_init at h
  refine lv_aload_n C.1 C.2.1 dX3_init_0 rfl (lv_at hl 0 rfl) ?_
  refine W.objInit C.1 C.2.1 C.2.2.2.1 (C.2.2.2.2 _ (by decide +kernel)) (C.2.2.2.2 _ (by decide +kernel)) (C.2.2.2.2 _ (by decide +kernel)) rfl (by rw [C.2.2.1]; exact hl.1) rfl dX3_init_1 (Nat.le_of_ble_eq_true rfl) (Nat.le_of_ble_eq_true rfl) ?_
  refine lv_aload_n C.1 C.2.1 dX3_init_4 rfl (lv_at hl 0 rfl) ?_
  refine lv_bipush (v := 100) C.1 C.2.1 dX3_init_5 (by decide) ?_
  refine r_nA C hT hH hS (t := 5) (B := 100) (by decide) rfl (by decide +kernel) (by decide) (by decide) (by decide) dX3_init_7 h (fun b1 mm H hH hS h => ?_)
  refine r_pR C hT hH hS (t := 3) (k := 0) (T := TX3) rfl w3 tyX3_ok nmX3 (by decide) (by decide) rfl rfl rfl k9 (Or.inr ⟨rfl, hin, rfl⟩) dX3_init_9 h (fun mm H locs hH hS h => ?_)
  refine lv_aload_n C.1 C.2.1 dX3_init_12 rfl (lv_at hl 0 rfl) ?_
  refine r_nO C hT hH hS (t := 0) (T := TX0) rfl w0 tyX0_ok (by decide) dfX0 (by decide +kernel) (by decide +kernel) (by decide +kernel) (by decide) (by decide) dX3_init_13 h (fun b2 mm H hH hS h => ?_)
  refine lv_dup C.1 C.2.1 dX3_init_16 rfl ?_
  refine r_callIN C hT hH hS (b := b2) (As := []) (fun z1 hz => c_X0_init l D cA base b2 _ z1 hz) ⟨va_cnB 0 C.2.2.2.2 ggX3_init_X0_init rfl rfl rfl hT.2.2.2.2 (C.2.2.2.2 _ (by decide +kernel)) (by decide +kernel) ⟨Nat.le_of_ble_eq_true rfl, Nat.le_of_ble_eq_true rfl⟩, rfl, C.2.2.2.2 _ (by decide +kernel)⟩ rfl hl.1 rfl (Nat.le_of_ble_eq_true rfl) dX3_init_17 ⟨by decide, by decide⟩ h (fun _ mm H locs hH hS h => ?_)
  refine r_pR C hT hH hS (t := 3) (k := 1) (T := TX3) rfl w3 tyX3_ok nmX3 (by decide) (by decide) rfl rfl rfl k16 (Or.inr ⟨rfl, hin, rfl⟩) dX3_init_20 h (fun mm H locs hH hS h => ?_)
  refine lv_aload_n C.1 C.2.1 dX3_init_23 rfl (lv_at hl 0 rfl) ?_
  refine lv_bipush (v := 20) C.1 C.2.1 dX3_init_24 (by decide) ?_
  refine r_nS C hT hH hS (B := 20) (by decide +kernel) (by decide) (by decide) (by decide) dX3_init_26 h (fun b3 mm H hH hS h => ?_)
  refine r_pR C hT hH hS (t := 3) (k := 2) (T := TX3) rfl w3 tyX3_ok nmX3 (by decide) (by decide) rfl rfl rfl k22 (Or.inr ⟨rfl, hin, rfl⟩) dX3_init_29 h (fun mm H locs hH hS h => ?_)
  refine lv_aload_n C.1 C.2.1 dX3_init_32 rfl (lv_at hl 0 rfl) ?_
  refine lv_iconst (v := 0) C.1 C.2.1 dX3_init_33 (by decide) ?_
  refine r_pI C hT hH hS (t := 3) (k := 3) (T := TX3) rfl w3 tyX3_ok nmX3 (by decide) (by decide) rfl rfl k26 (Or.inl rfl) dX3_init_34 h (fun mm H locs hH hS h => ?_)
  refine lv_aload_n C.1 C.2.1 dX3_init_37 rfl (lv_at hl 0 rfl) ?_
  refine lv_iconst (v := 0) C.1 C.2.1 dX3_init_38 (by decide) ?_
  refine r_pI C hT hH hS (t := 3) (k := 4) (T := TX3) rfl w3 tyX3_ok nmX3 (by decide) (by decide) rfl rfl k30 (Or.inl rfl) dX3_init_39 h (fun mm H locs hH hS h => ?_)
  refine lv_aload_n C.1 C.2.1 dX3_init_42 rfl (lv_at hl 0 rfl) ?_
  refine lv_iconst (v := 0) C.1 C.2.1 dX3_init_43 (by decide) ?_
  refine r_pI C hT hH hS (t := 3) (k := 5) (T := TX3) rfl w3 tyX3_ok nmX3 (by decide) (by decide) rfl rfl k33 (Or.inl rfl) dX3_init_44 h (fun mm H locs hH hS h => ?_)
  refine lv_aload_n C.1 C.2.1 dX3_init_47 rfl (lv_at hl 0 rfl) ?_
  refine lv_iconst (v := 3) C.1 C.2.1 dX3_init_48 (by decide) ?_
  refine r_pI C hT hH hS (t := 3) (k := 6) (T := TX3) rfl w3 tyX3_ok nmX3 (by decide) (by decide) rfl rfl k36 (Or.inl rfl) dX3_init_49 h (fun mm H locs hH hS h => ?_)
  refine lv_aload_n C.1 C.2.1 dX3_init_52 rfl (lv_at hl 0 rfl) ?_
  refine lv_null C.1 C.2.1 dX3_init_53 ?_
  refine r_pRN C hT hH hS (t := 3) (k := 7) (T := TX3) rfl w3 tyX3_ok nmX3 (by decide) (by decide) rfl rfl rfl k39 (Or.inl rfl) dX3_init_54 h (fun mm H locs hH hS h => ?_)
  refine lv_aload_n C.1 C.2.1 dX3_init_57 rfl (lv_at hl 0 rfl) ?_
  refine lv_null C.1 C.2.1 dX3_init_58 ?_
  refine r_pRN C hT hH hS (t := 3) (k := 8) (T := TX3) rfl w3 tyX3_ok nmX3 (by decide) (by decide) rfl rfl rfl k43 (Or.inl rfl) dX3_init_59 h (fun mm H locs hH hS h => ?_)
  refine lv_aload_n C.1 C.2.1 dX3_init_62 rfl (lv_at hl 0 rfl) ?_
  refine lv_iconst (v := 4) C.1 C.2.1 dX3_init_63 (by decide) ?_
  refine lv_bipush (v := 100) C.1 C.2.1 dX3_init_64 (by decide) ?_
  refine r_n4 C hT hH hS (by decide +kernel) (by decide +kernel) (by decide) (by decide) dX3_init_66 h (fun b4 mm H hH hS h => ?_)
  refine r_pR C hT hH hS (t := 3) (k := 9) (T := TX3) rfl w3 tyX3_ok nmX3 (by decide) (by decide) rfl rfl rfl k48 (Or.inr ⟨rfl, hin, rfl⟩) dX3_init_70 h (fun mm H locs hH hS h => ?_)
  refine lv_aload_n C.1 C.2.1 dX3_init_73 rfl (lv_at hl 0 rfl) ?_
  refine lv_iconst (v := 4) C.1 C.2.1 dX3_init_74 (by decide) ?_
  refine r_nA C hT hH hS (t := 6) (B := 4) (by decide) rfl (by decide +kernel) (by decide) (by decide) (by decide) dX3_init_75 h (fun b5 mm H hH hS h => ?_)
  refine r_pR C hT hH hS (t := 3) (k := 10) (T := TX3) rfl w3 tyX3_ok nmX3 (by decide) (by decide) rfl rfl rfl k51 (Or.inr ⟨rfl, hin, rfl⟩) dX3_init_77 h (fun mm H locs hH hS h => ?_)
  refine lv_aload_n C.1 C.2.1 dX3_init_80 rfl (lv_at hl 0 rfl) ?_
  refine r_gN C hT hH (t := 3) (k := 0) (T := TX3) rfl w3 (by decide) (by decide) rfl k9 dX3_init_81 h (fun b6 h => ?_)
  refine lv_iconst (v := (-1)) C.1 C.2.1 dX3_init_84 (by decide) ?_
  refine r_callSV C hT hH hS (As := [.ref b6, .int (-1)]) (fun z1 hz => c_J7_fill_53178 l D cA base b6 (-1) _ z1 hz) (va_cwS 2 C.2.2.2.2 gX3_init_J7_fill_53178 rfl rfl rfl (by decide +kernel) ⟨Nat.le_of_ble_eq_true rfl, Nat.le_of_ble_eq_true rfl⟩) rfl hl.1 rfl (Nat.le_of_ble_eq_true rfl) dX3_init_85 ⟨by decide, by decide⟩ h (fun _ mm H locs hH hS h => ?_)
  exact r_vret C hT hH hS hr hlocks (by decide) (by decide) dX3_init_88 h
