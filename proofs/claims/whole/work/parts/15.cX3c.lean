/-! The bytecode computes the functions of 05f: written by wip/tools/gen.py -/
abbrev rm_X3_begin : Room := { frames := 2, cells := 3, slots := 18, locals := 36 }
set_option maxHeartbeats 4000000 in
set_option maxRecDepth 100000 in
theorem c_X3_begin (l : Launch) (D : va_G) (cA : Nat → ClassId) (base : Nat) (a0 : Nat) (a1 : Int32) (a2 : Int32) (mm : Mem) (z : (Int32) × Mem) (h : f_X3_begin a0 a1 a2 mm = some z) : Met l yX3_begin wsX3_begin rm_X3_begin (va_Pc [.ref a0, .int a1, .int a2] (mU D cA base mm)) (mQ eI D cA base z) 3 18 (mA base) := by
  refine Met.ofW (cc := cX3_begin) (maxL := 3) (ret := (some .int)) (by decide) rfl ?_
  intro p e s m args below meth c s₁ B hml hv
  obtain ⟨rfl, hH, hT⟩ := hv
  have C : CallFix p m c cX3_begin 3 s ([.ref a0, .int a1, .int a2]).toArray wsX3_begin RX3 := ⟨B.exec, B.bytes, hml, findClass_of_methodNamed B.named, atoms_spec (ws := wsX3_begin) B.pre⟩
  have hr := B.returns
  have hlocks := B.notSynchronized
  have w1 : ∀ w ∈ u_ws RX1 TX1 6, w ∈ wsX3_begin := by decide +kernel
  have w3 : ∀ w ∈ u_ws RX3 TX3 11, w ∈ wsX3_begin := by decide +kernel
  have k22 : Cond.fieldLink RX3 22 "SegmentMerges" "segments" "[LSegmentMerges$Segment;" ∈ wsX3_begin := by decide +kernel
  have k39 : Cond.fieldLink RX3 39 "SegmentMerges" "current" "LSegmentMerges$Merge;" ∈ wsX3_begin := by decide +kernel
  have k140 : Cond.fieldLink RX3 140 "SegmentMerges$Merge" "left" "I" ∈ wsX3_begin := by decide +kernel
  have hS : va_S (mA base) s.heap s.heap [] := va_S.rf
  have hl := lv_entry ([.ref a0, .int a1, .int a2]) (n := 3) (Nat.le_of_ble_eq_true rfl)
  rw [lg_entry_eq]
  generalize (lg_sl ([.ref a0, .int a1, .int a2]) ++ List.replicate (3 - (lg_sl ([.ref a0, .int a1, .int a2])).length) Slot.unset).toArray = ls at hl ⊢
  have hl : lv_has ls 3 [(0, .ref a0), (1, .int a1), (2, .int a2)] := hl
  unfold f_X3_begin at h
  refine lv_aload_n C.1 C.2.1 dX3_begin_0 rfl (lv_at hl 0 rfl) ?_
  refine lv_iload_n C.1 C.2.1 dX3_begin_1 rfl (lv_at hl 1 rfl) ?_
  refine r_callVI C hT hH hS (t := 3) (As := [.int a1]) (fun z1 hz => c_X3_isPlace l D cA base a0 a1 _ z1 hz) (cwV 1 C.2.2.2.2 gX3_begin_X3_isPlace rfl rfl rfl (by decide +kernel) ⟨Nat.le_of_ble_eq_true rfl, Nat.le_of_ble_eq_true rfl⟩) rfl (by decide) rfl hl.1 rfl (Nat.le_of_ble_eq_true rfl) dX3_begin_2 ⟨by decide, by decide⟩ h (fun v1 mm H locs hH hS h => ?_)
  refine lv_if_ne (tgt := 10) C.1 C.2.1 dX3_begin_5 (by decide) (fun hc => ?_) (fun hc => ?_)
  · have h := ifc_f hc h
    refine lv_iload_n C.1 C.2.1 dX3_begin_10 rfl (lv_at hl 2 rfl) ?_
    refine r_callSI C hT hH hS (As := [.int a2]) (fun z1 hz => c_X3_canBeMerged l D cA base a2 _ z1 hz) (va_cwS 1 C.2.2.2.2 gX3_begin_X3_canBeMerged rfl rfl rfl (by decide +kernel) ⟨Nat.le_of_ble_eq_true rfl, Nat.le_of_ble_eq_true rfl⟩) rfl hl.1 rfl (Nat.le_of_ble_eq_true rfl) dX3_begin_11 ⟨by decide, by decide⟩ h (fun v2 mm H locs hH hS h => ?_)
    refine lv_if_ne (tgt := 20) C.1 C.2.1 dX3_begin_14 (by decide) (fun hc => ?_) (fun hc => ?_)
    · have h := ifc_f hc h
      refine lv_aload_n C.1 C.2.1 dX3_begin_20 rfl (lv_at hl 0 rfl) ?_
      refine lv_iload_n C.1 C.2.1 dX3_begin_21 rfl (lv_at hl 1 rfl) ?_
      refine lv_iload_n C.1 C.2.1 dX3_begin_22 rfl (lv_at hl 2 rfl) ?_
      refine lv_iadd C.1 C.2.1 dX3_begin_23 ?_
      refine lv_iconst (v := 1) C.1 C.2.1 dX3_begin_24 (by decide) ?_
      refine lv_isub C.1 C.2.1 dX3_begin_25 ?_
      refine r_callVI C hT hH hS (t := 3) (As := [.int ((a1 + a2) - 1)]) (fun z1 hz => c_X3_isPlace l D cA base a0 ((a1 + a2) - 1) _ z1 hz) (cwV 1 C.2.2.2.2 gX3_begin_X3_isPlace rfl rfl rfl (by decide +kernel) ⟨Nat.le_of_ble_eq_true rfl, Nat.le_of_ble_eq_true rfl⟩) rfl (by decide) rfl hl.1 rfl (Nat.le_of_ble_eq_true rfl) dX3_begin_26 ⟨by decide, by decide⟩ h (fun v3 mm H locs hH hS h => ?_)
      refine lv_if_ne (tgt := 34) C.1 C.2.1 dX3_begin_29 (by decide) (fun hc => ?_) (fun hc => ?_)
      · have h := ifc_f hc h
        refine lv_aload_n C.1 C.2.1 dX3_begin_34 rfl (lv_at hl 0 rfl) ?_
        refine r_gR C hT hH (t := 3) (k := 7) (T := TX3) rfl w3 (by decide) (by decide) rfl k39 dX3_begin_35 h (fun r4 h => ?_)
        rcases r4 with _ | b5
        · have h := ifn_n h
          refine lv_ifnullN (tgt := 44) C.1 C.2.1 dX3_begin_38 (by decide) ?_
          refine lv_aload_n C.1 C.2.1 dX3_begin_44 rfl (lv_at hl 0 rfl) ?_
          refine r_nO C hT hH hS (t := 1) (T := TX1) rfl w1 tyX1_ok (by decide) dfX1 (by decide +kernel) (by decide +kernel) (by decide +kernel) (by decide) (by decide) dX3_begin_45 h (fun b6 mm H hH hS h => ?_)
          refine lv_dup C.1 C.2.1 dX3_begin_48 rfl ?_
          refine lv_aload_n C.1 C.2.1 dX3_begin_49 rfl (lv_at hl 0 rfl) ?_
          refine r_gN C hT hH (t := 3) (k := 2) (T := TX3) rfl w3 (by decide) (by decide) rfl k22 dX3_begin_50 h (fun b7 h => ?_)
          refine lv_iload_n C.1 C.2.1 dX3_begin_53 rfl (lv_at hl 1 rfl) ?_
          refine lv_iload_n C.1 C.2.1 dX3_begin_54 rfl (lv_at hl 2 rfl) ?_
          refine r_callI C hT hH hS (b := b6) (As := [.ref b7, .int a1, .int a2]) (fun z1 hz => c_X1_init l D cA base b6 b7 a1 a2 _ z1 hz) (cwI 3 C.2.2.2.2 gX3_begin_X1_init rfl rfl rfl (C.2.2.2.2 _ (by decide +kernel)) (C.2.2.2.2 _ (by decide +kernel)) (C.2.2.2.2 _ (by decide +kernel)) rfl (by decide +kernel) ⟨Nat.le_of_ble_eq_true rfl, Nat.le_of_ble_eq_true rfl⟩) rfl hl.1 rfl (Nat.le_of_ble_eq_true rfl) dX3_begin_55 ⟨by decide, by decide⟩ h (fun _ mm H locs hH hS h => ?_)
          refine r_pR C hT hH hS (t := 3) (k := 7) (T := TX3) rfl w3 tyX3_ok nmX3 (by decide) (by decide) rfl rfl rfl k39 (Or.inl rfl) dX3_begin_58 h (fun mm H locs hH hS h => ?_)
          refine lv_aload_n C.1 C.2.1 dX3_begin_61 rfl (lv_at hl 0 rfl) ?_
          refine r_gR C hT hH (t := 3) (k := 7) (T := TX3) rfl w3 (by decide) (by decide) rfl k39 dX3_begin_62 h (fun r8 h => ?_)
          rcases r8 with _ | b9
          · have h := ifn_n h
            exact (fl_inv h).elim
          · have h := ifn_s h
            refine r_gI C hT hH (t := 1) (k := 5) (T := TX1) rfl w1 (by decide) (by decide) rfl k140 dX3_begin_65 h (fun v10 h => ?_)
            exact r_iret C hT hH hS hr hlocks (by decide) (by decide) dX3_begin_68 h
        · have h := ifn_s h
          refine lv_ifnull C.1 C.2.1 dX3_begin_38  ?_
          refine lv_bipush (v := (-3)) C.1 C.2.1 dX3_begin_41 (by decide) ?_
          exact r_iret C hT hH hS hr hlocks (by decide) (by decide) dX3_begin_43 h
      · have h := ifc_t hc h
        refine lv_iconst (v := (-1)) C.1 C.2.1 dX3_begin_32 (by decide) ?_
        exact r_iret C hT hH hS hr hlocks (by decide) (by decide) dX3_begin_33 h
    · have h := ifc_t hc h
      refine lv_bipush (v := (-2)) C.1 C.2.1 dX3_begin_17 (by decide) ?_
      exact r_iret C hT hH hS hr hlocks (by decide) (by decide) dX3_begin_19 h
  · have h := ifc_t hc h
    refine lv_iconst (v := (-1)) C.1 C.2.1 dX3_begin_8 (by decide) ?_
    exact r_iret C hT hH hS hr hlocks (by decide) (by decide) dX3_begin_9 h
abbrev rm_X3_step : Room := { frames := 4, cells := 5, slots := 408, locals := 82 }
set_option maxHeartbeats 4000000 in
set_option maxRecDepth 100000 in
theorem c_X3_step (l : Launch) (D : va_G) (cA : Nat → ClassId) (base : Nat) (a0 : Nat) (a1 : Int32) (mm : Mem) (z : (Int32) × Mem) (h : f_X3_step a0 a1 mm = some z) : Met l yX3_step wsX3_step rm_X3_step (va_Pc [.ref a0, .int a1] (mU D cA base mm)) (mQ eI D cA base z) 5 408 (mA base) := by
  refine Met.ofW (cc := cX3_step) (maxL := 3) (ret := (some .int)) (by decide) rfl ?_
  intro p e s m args below meth c s₁ B hml hv
  obtain ⟨rfl, hH, hT⟩ := hv
  have C : CallFix p m c cX3_step 3 s ([.ref a0, .int a1]).toArray wsX3_step RX3 := ⟨B.exec, B.bytes, hml, findClass_of_methodNamed B.named, atoms_spec (ws := wsX3_step) B.pre⟩
  have hr := B.returns
  have hlocks := B.notSynchronized
  have w1 : ∀ w ∈ u_ws RX1 TX1 6, w ∈ wsX3_step := by decide +kernel
  have w3 : ∀ w ∈ u_ws RX3 TX3 11, w ∈ wsX3_step := by decide +kernel
  have k39 : Cond.fieldLink RX3 39 "SegmentMerges" "current" "LSegmentMerges$Merge;" ∈ wsX3_step := by decide +kernel
  have k140 : Cond.fieldLink RX3 140 "SegmentMerges$Merge" "left" "I" ∈ wsX3_step := by decide +kernel
  have L26 : ∀ (n : Nat) (x0 : Nat) (x1 : Int32) (x2 : Int32) (mm : Mem) (H : Heap) (locs : List Loc) (ls : Array Slot) (zz : (Int32) × Mem), mH D cA base mm H → va_S (mA base) s.heap H locs → lv_has ls 3 [(0, .ref x0), (1, .int x1), (2, .int x2)] → f_X3_step_L26 n x0 x1 x2 mm = some zz → (∀ (H : Heap) (locs : List Loc) (ls : Array Slot), mH D cA base zz.2 H → va_S (mA base) s.heap H locs → lv_has ls 3 [(0, .ref x0), (1, .int x1), (2, .int zz.1)] → W p l e rm_X3_step s m [.ref a0, .int a1].toArray below meth c H locs 0 0 (MQ below (mQ eI D cA base z) [.ref a0, .int a1].toArray s 5 408 (mA base)) (F0 m 54 ls [])) → W p l e rm_X3_step s m [.ref a0, .int a1].toArray below meth c H locs 0 0 (MQ below (mQ eI D cA base z) [.ref a0, .int a1].toArray s 5 408 (mA base)) (F0 m 26 ls []) := by
    intro n
    induction n with
    | zero =>
      intro x0 x1 x2 mm H locs ls zz hH hS hl h kk
      exact (fl_inv h).elim
    | succ n ih =>
      intro x0 x1 x2 mm H locs ls zz hH hS hl h kk
      unfold f_X3_step_L26 at h
      refine lv_iload_n C.1 C.2.1 dX3_step_26 rfl (lv_at hl 2 rfl) ?_
      refine lv_iload_n C.1 C.2.1 dX3_step_27 rfl (lv_at hl 1 rfl) ?_
      refine lv_icmp_ge (tgt := 54) C.1 C.2.1 dX3_step_28 (by decide) (fun hc => ?_) (fun hc => ?_)
      · have h := ifc_t hc h
        obtain rfl := rt_inv h
        exact kk _ _ _ hH hS (lv_sub hl [0, 1, 2] rfl)
      · have h := ifc_f hc h
        refine lv_aload_n C.1 C.2.1 dX3_step_31 rfl (lv_at hl 0 rfl) ?_
        refine r_gR C hT hH (t := 3) (k := 7) (T := TX3) rfl w3 (by decide) (by decide) rfl k39 dX3_step_32 h (fun r3 h => ?_)
        rcases r3 with _ | b4
        · have h := ifn_n h
          exact (fl_inv h).elim
        · have h := ifn_s h
          refine r_gI C hT hH (t := 1) (k := 5) (T := TX1) rfl w1 (by decide) (by decide) rfl k140 dX3_step_35 h (fun v5 h => ?_)
          refine lv_if_le (tgt := 54) C.1 C.2.1 dX3_step_38 (by decide) (fun hc => ?_) (fun hc => ?_)
          · have h := ifc_t hc h
            obtain rfl := rt_inv h
            exact kk _ _ _ hH hS (lv_sub hl [0, 1, 2] rfl)
          · have h := ifc_f hc h
            refine lv_aload_n C.1 C.2.1 dX3_step_41 rfl (lv_at hl 0 rfl) ?_
            refine r_gR C hT hH (t := 3) (k := 7) (T := TX3) rfl w3 (by decide) (by decide) rfl k39 dX3_step_42 h (fun r6 h => ?_)
            rcases r6 with _ | b7
            · have h := ifn_n h
              exact (fl_inv h).elim
            · have h := ifn_s h
              refine r_callVV C hT hH hS (t := 1) (As := []) (fun z1 hz => c_X1_takeOne l D cA base b7 _ z1 hz) (cwV 0 C.2.2.2.2 gX3_step_X1_takeOne rfl rfl rfl (by decide +kernel) ⟨Nat.le_of_ble_eq_true rfl, Nat.le_of_ble_eq_true rfl⟩) rfl (by decide) rfl hl.1 rfl (Nat.le_of_ble_eq_true rfl) dX3_step_45 ⟨by decide, by decide⟩ h (fun _ mm H locs hH hS h => ?_)
              refine lv_iinc (v := (x2 + 1)) (lv' := [(2, .int (x2 + 1)), (0, .ref x0), (1, .int x1)]) C.1 C.2.1 dX3_step_48 hl (k := 2) rfl rfl (by decide) rfl (fun ls hl => ?_)
              refine lv_goto (tgt := 26) C.1 C.2.1 dX3_step_51 (by decide) ?_
              exact ih x0 x1 (x2 + 1) _ _ _ _ _ hH hS (lv_sub hl [1, 2, 0] rfl) h kk
  have hS : va_S (mA base) s.heap s.heap [] := va_S.rf
  have hl := lv_entry ([.ref a0, .int a1]) (n := 3) (Nat.le_of_ble_eq_true rfl)
  rw [lg_entry_eq]
  generalize (lg_sl ([.ref a0, .int a1]) ++ List.replicate (3 - (lg_sl ([.ref a0, .int a1])).length) Slot.unset).toArray = ls at hl ⊢
  have hl : lv_has ls 3 [(0, .ref a0), (1, .int a1)] := hl
  unfold f_X3_step at h
  refine lv_iload_n C.1 C.2.1 dX3_step_0 rfl (lv_at hl 1 rfl) ?_
  refine lv_if_lt (tgt := 11) C.1 C.2.1 dX3_step_1 (by decide) (fun hc => ?_) (fun hc => ?_)
  · have h := ifc_t hc h
    refine lv_bipush (v := (-2)) C.1 C.2.1 dX3_step_11 (by decide) ?_
    exact r_iret C hT hH hS hr hlocks (by decide) (by decide) dX3_step_13 h
  · have h := ifc_f hc h
    refine lv_iload_n C.1 C.2.1 dX3_step_4 rfl (lv_at hl 1 rfl) ?_
    refine lv_sipush (v := 1000) C.1 C.2.1 dX3_step_5 (by decide) ?_
    refine lv_icmp_le (tgt := 14) C.1 C.2.1 dX3_step_8 (by decide) (fun hc => ?_) (fun hc => ?_)
    · have h := ifc_t hc h
      refine lv_aload_n C.1 C.2.1 dX3_step_14 rfl (lv_at hl 0 rfl) ?_
      refine r_gR C hT hH (t := 3) (k := 7) (T := TX3) rfl w3 (by decide) (by decide) rfl k39 dX3_step_15 h (fun r1 h => ?_)
      rcases r1 with _ | b2
      · have h := ifn_n h
        refine lv_ifnonnullN C.1 C.2.1 dX3_step_18  ?_
        refine lv_bipush (v := (-3)) C.1 C.2.1 dX3_step_21 (by decide) ?_
        exact r_iret C hT hH hS hr hlocks (by decide) (by decide) dX3_step_23 h
      · have h := ifn_s h
        refine lv_ifnonnull (tgt := 24) C.1 C.2.1 dX3_step_18 (by decide) ?_
        refine lv_iconst (v := 0) C.1 C.2.1 dX3_step_24 (by decide) ?_
        refine lv_istore_n (lv' := [(2, .int 0), (0, .ref a0), (1, .int a1)]) C.1 C.2.1 dX3_step_25 rfl hl (by decide) rfl (fun ls hl => ?_)
        obtain ⟨x8, mx8, hq, h⟩ := bnd_inv h
        refine L26 2100 a0 a1 0 _ _ _ _ (x8, mx8) hH hS (lv_sub hl [1, 2, 0] rfl) hq (fun H locs ls hH hS hl => ?_)
        refine lv_aload_n C.1 C.2.1 dX3_step_54 rfl (lv_at hl 0 rfl) ?_
        refine r_gR C hT hH (t := 3) (k := 7) (T := TX3) rfl w3 (by decide) (by decide) rfl k39 dX3_step_55 h (fun r9 h => ?_)
        rcases r9 with _ | b10
        · have h := ifn_n h
          exact (fl_inv h).elim
        · have h := ifn_s h
          refine r_gI C hT hH (t := 1) (k := 5) (T := TX1) rfl w1 (by decide) (by decide) rfl k140 dX3_step_58 h (fun v11 h => ?_)
          refine lv_if_ne (tgt := 72) C.1 C.2.1 dX3_step_61 (by decide) (fun hc => ?_) (fun hc => ?_)
          · have h := ifc_f hc h
            refine lv_iload_n C.1 C.2.1 dX3_step_72 rfl (lv_at hl 2 rfl) ?_
            exact r_iret C hT hH hS hr hlocks (by decide) (by decide) dX3_step_73 h
          · have h := ifc_t hc h
            refine lv_aload_n C.1 C.2.1 dX3_step_64 rfl (lv_at hl 0 rfl) ?_
            refine lv_aload_n C.1 C.2.1 dX3_step_65 rfl (lv_at hl 0 rfl) ?_
            refine r_gR C hT hH (t := 3) (k := 7) (T := TX3) rfl w3 (by decide) (by decide) rfl k39 dX3_step_66 h (fun r12 h => ?_)
            rcases r12 with _ | b13
            · have h := ifn_n h
              exact (fl_inv h).elim
            · have h := ifn_s h
              refine r_callVV C hT hH hS (t := 3) (As := [.ref b13]) (fun z1 hz => c_X3_endMerge l D cA base a0 b13 _ z1 hz) (cwV 1 C.2.2.2.2 gX3_step_X3_endMerge rfl rfl rfl (by decide +kernel) ⟨Nat.le_of_ble_eq_true rfl, Nat.le_of_ble_eq_true rfl⟩) rfl (by decide) rfl hl.1 rfl (Nat.le_of_ble_eq_true rfl) dX3_step_69 ⟨by decide, by decide⟩ h (fun _ mm H locs hH hS h => ?_)
              refine lv_iload_n C.1 C.2.1 dX3_step_72 rfl (lv_at hl 2 rfl) ?_
              exact r_iret C hT hH hS hr hlocks (by decide) (by decide) dX3_step_73 h
    · have h := ifc_f hc h
      refine lv_bipush (v := (-2)) C.1 C.2.1 dX3_step_11 (by decide) ?_
      exact r_iret C hT hH hS hr hlocks (by decide) (by decide) dX3_step_13 h
abbrev rm_X3_stop : Room := { frames := 0, cells := 0, slots := 0, locals := 0 }
set_option maxHeartbeats 4000000 in
set_option maxRecDepth 100000 in
theorem c_X3_stop (l : Launch) (D : va_G) (cA : Nat → ClassId) (base : Nat) (a0 : Nat) (mm : Mem) (z : (Int32) × Mem) (h : f_X3_stop a0 mm = some z) : Met l yX3_stop wsX3_stop rm_X3_stop (va_Pc [.ref a0] (mU D cA base mm)) (mQ eI D cA base z) 0 0 (mA base) := by
  refine Met.ofW (cc := cX3_stop) (maxL := 2) (ret := (some .int)) (by decide) rfl ?_
  intro p e s m args below meth c s₁ B hml hv
  obtain ⟨rfl, hH, hT⟩ := hv
  have C : CallFix p m c cX3_stop 2 s ([.ref a0]).toArray wsX3_stop RX3 := ⟨B.exec, B.bytes, hml, findClass_of_methodNamed B.named, atoms_spec (ws := wsX3_stop) B.pre⟩
  have hr := B.returns
  have hlocks := B.notSynchronized
  have w1 : ∀ w ∈ u_ws RX1 TX1 6, w ∈ wsX3_stop := by decide +kernel
  have w3 : ∀ w ∈ u_ws RX3 TX3 11, w ∈ wsX3_stop := by decide +kernel
  have k33 : Cond.fieldLink RX3 33 "SegmentMerges" "writtenRows" "I" ∈ wsX3_stop := by decide +kernel
  have k39 : Cond.fieldLink RX3 39 "SegmentMerges" "current" "LSegmentMerges$Merge;" ∈ wsX3_stop := by decide +kernel
  have k150 : Cond.fieldLink RX3 150 "SegmentMerges$Merge" "taken" "I" ∈ wsX3_stop := by decide +kernel
  have k153 : Cond.fieldLink RX3 153 "SegmentMerges$Merge" "written" "I" ∈ wsX3_stop := by decide +kernel
  have hS : va_S (mA base) s.heap s.heap [] := va_S.rf
  have hl := lv_entry ([.ref a0]) (n := 2) (Nat.le_of_ble_eq_true rfl)
  rw [lg_entry_eq]
  generalize (lg_sl ([.ref a0]) ++ List.replicate (2 - (lg_sl ([.ref a0])).length) Slot.unset).toArray = ls at hl ⊢
  have hl : lv_has ls 2 [(0, .ref a0)] := hl
  unfold f_X3_stop at h
  refine lv_aload_n C.1 C.2.1 dX3_stop_0 rfl (lv_at hl 0 rfl) ?_
  refine r_gR C hT hH (t := 3) (k := 7) (T := TX3) rfl w3 (by decide) (by decide) rfl k39 dX3_stop_1 h (fun r1 h => ?_)
  rcases r1 with _ | b2
  · have h := ifn_n h
    refine lv_ifnonnullN C.1 C.2.1 dX3_stop_4  ?_
    refine lv_bipush (v := (-3)) C.1 C.2.1 dX3_stop_7 (by decide) ?_
    exact r_iret C hT hH hS hr hlocks (by decide) (by decide) dX3_stop_9 h
  · have h := ifn_s h
    refine lv_ifnonnull (tgt := 10) C.1 C.2.1 dX3_stop_4 (by decide) ?_
    refine lv_aload_n C.1 C.2.1 dX3_stop_10 rfl (lv_at hl 0 rfl) ?_
    refine r_gR C hT hH (t := 3) (k := 7) (T := TX3) rfl w3 (by decide) (by decide) rfl k39 dX3_stop_11 h (fun r3 h => ?_)
    rcases r3 with _ | b4
    · have h := ifn_n h
      exact (fl_inv h).elim
    · have h := ifn_s h
      refine r_gI C hT hH (t := 1) (k := 3) (T := TX1) rfl w1 (by decide) (by decide) rfl k150 dX3_stop_14 h (fun v5 h => ?_)
      refine lv_istore_n (lv' := [(1, .int v5), (0, .ref a0)]) C.1 C.2.1 dX3_stop_17 rfl hl (by decide) rfl (fun ls hl => ?_)
      refine lv_aload_n C.1 C.2.1 dX3_stop_18 rfl (lv_at hl 1 rfl) ?_
      refine lv_dup C.1 C.2.1 dX3_stop_19 rfl ?_
      refine r_gI C hT hH (t := 3) (k := 5) (T := TX3) rfl w3 (by decide) (by decide) rfl k33 dX3_stop_20 h (fun v6 h => ?_)
      refine lv_aload_n C.1 C.2.1 dX3_stop_23 rfl (lv_at hl 1 rfl) ?_
      refine r_gR C hT hH (t := 3) (k := 7) (T := TX3) rfl w3 (by decide) (by decide) rfl k39 dX3_stop_24 h (fun r7 h => ?_)
      rcases r7 with _ | b8
      · have h := ifn_n h
        exact (fl_inv h).elim
      · have h := ifn_s h
        refine r_gI C hT hH (t := 1) (k := 4) (T := TX1) rfl w1 (by decide) (by decide) rfl k153 dX3_stop_27 h (fun v9 h => ?_)
        refine lv_iadd C.1 C.2.1 dX3_stop_30 ?_
        refine r_pI C hT hH hS (t := 3) (k := 5) (T := TX3) rfl w3 tyX3_ok nmX3 (by decide) (by decide) rfl rfl k33 (Or.inl rfl) dX3_stop_31 h (fun mm H locs hH hS h => ?_)
        refine lv_aload_n C.1 C.2.1 dX3_stop_34 rfl (lv_at hl 1 rfl) ?_
        refine lv_null C.1 C.2.1 dX3_stop_35 ?_
        refine r_pRN C hT hH hS (t := 3) (k := 7) (T := TX3) rfl w3 tyX3_ok nmX3 (by decide) (by decide) rfl rfl rfl k39 (Or.inl rfl) dX3_stop_36 h (fun mm H locs hH hS h => ?_)
        refine lv_iload_n C.1 C.2.1 dX3_stop_39 rfl (lv_at hl 0 rfl) ?_
        exact r_iret C hT hH hS hr hlocks (by decide) (by decide) dX3_stop_40 h
abbrev rm_X3_merging : Room := { frames := 0, cells := 0, slots := 0, locals := 0 }
set_option maxHeartbeats 4000000 in
set_option maxRecDepth 100000 in
theorem c_X3_merging (l : Launch) (D : va_G) (cA : Nat → ClassId) (base : Nat) (a0 : Nat) (a1 : Int32) (mm : Mem) (z : (Int32) × Mem) (h : f_X3_merging a0 a1 mm = some z) : Met l yX3_merging wsX3_merging rm_X3_merging (va_Pc [.ref a0, .int a1] (mU D cA base mm)) (mQ eI D cA base z) 0 0 (mA base) := by
  refine Met.ofW (cc := cX3_merging) (maxL := 2) (ret := (some .int)) (by decide) rfl ?_
  intro p e s m args below meth c s₁ B hml hv
  obtain ⟨rfl, hH, hT⟩ := hv
  have C : CallFix p m c cX3_merging 2 s ([.ref a0, .int a1]).toArray wsX3_merging RX3 := ⟨B.exec, B.bytes, hml, findClass_of_methodNamed B.named, atoms_spec (ws := wsX3_merging) B.pre⟩
  have hr := B.returns
  have hlocks := B.notSynchronized
  have w1 : ∀ w ∈ u_ws RX1 TX1 6, w ∈ wsX3_merging := by decide +kernel
  have w3 : ∀ w ∈ u_ws RX3 TX3 11, w ∈ wsX3_merging := by decide +kernel
  have k39 : Cond.fieldLink RX3 39 "SegmentMerges" "current" "LSegmentMerges$Merge;" ∈ wsX3_merging := by decide +kernel
  have k140 : Cond.fieldLink RX3 140 "SegmentMerges$Merge" "left" "I" ∈ wsX3_merging := by decide +kernel
  have k150 : Cond.fieldLink RX3 150 "SegmentMerges$Merge" "taken" "I" ∈ wsX3_merging := by decide +kernel
  have k153 : Cond.fieldLink RX3 153 "SegmentMerges$Merge" "written" "I" ∈ wsX3_merging := by decide +kernel
  have k156 : Cond.fieldLink RX3 156 "SegmentMerges$Merge" "place" "I" ∈ wsX3_merging := by decide +kernel
  have hS : va_S (mA base) s.heap s.heap [] := va_S.rf
  have hl := lv_entry ([.ref a0, .int a1]) (n := 2) (Nat.le_of_ble_eq_true rfl)
  rw [lg_entry_eq]
  generalize (lg_sl ([.ref a0, .int a1]) ++ List.replicate (2 - (lg_sl ([.ref a0, .int a1])).length) Slot.unset).toArray = ls at hl ⊢
  have hl : lv_has ls 2 [(0, .ref a0), (1, .int a1)] := hl
  unfold f_X3_merging at h
  refine lv_iload_n C.1 C.2.1 dX3_merging_0 rfl (lv_at hl 1 rfl) ?_
  refine lv_if_lt (tgt := 9) C.1 C.2.1 dX3_merging_1 (by decide) (fun hc => ?_) (fun hc => ?_)
  · have h := ifc_t hc h
    refine lv_bipush (v := (-2)) C.1 C.2.1 dX3_merging_9 (by decide) ?_
    exact r_iret C hT hH hS hr hlocks (by decide) (by decide) dX3_merging_11 h
  · have h := ifc_f hc h
    refine lv_iload_n C.1 C.2.1 dX3_merging_4 rfl (lv_at hl 1 rfl) ?_
    refine lv_iconst (v := 3) C.1 C.2.1 dX3_merging_5 (by decide) ?_
    refine lv_icmp_le (tgt := 12) C.1 C.2.1 dX3_merging_6 (by decide) (fun hc => ?_) (fun hc => ?_)
    · have h := ifc_t hc h
      refine lv_aload_n C.1 C.2.1 dX3_merging_12 rfl (lv_at hl 0 rfl) ?_
      refine r_gR C hT hH (t := 3) (k := 7) (T := TX3) rfl w3 (by decide) (by decide) rfl k39 dX3_merging_13 h (fun r1 h => ?_)
      rcases r1 with _ | b2
      · have h := ifn_n h
        refine lv_ifnonnullN C.1 C.2.1 dX3_merging_16  ?_
        refine lv_bipush (v := (-3)) C.1 C.2.1 dX3_merging_19 (by decide) ?_
        exact r_iret C hT hH hS hr hlocks (by decide) (by decide) dX3_merging_21 h
      · have h := ifn_s h
        refine lv_ifnonnull (tgt := 22) C.1 C.2.1 dX3_merging_16 (by decide) ?_
        refine lv_iload_n C.1 C.2.1 dX3_merging_22 rfl (lv_at hl 1 rfl) ?_
        by_cases n0 : a1 = 0
        · have h := ifc_t n0 h
          refine lv_tableIn (tgt := 48) C.1 C.2.1 dX3_merging_23 (by rw [n0]; decide) (by rw [n0]; decide) (by rw [n0]; rfl) (by decide) ?_
          refine lv_aload_n C.1 C.2.1 dX3_merging_48 rfl (lv_at hl 0 rfl) ?_
          refine r_gR C hT hH (t := 3) (k := 7) (T := TX3) rfl w3 (by decide) (by decide) rfl k39 dX3_merging_49 h (fun r3 h => ?_)
          rcases r3 with _ | b4
          · have h := ifn_n h
            exact (fl_inv h).elim
          · have h := ifn_s h
            refine r_gI C hT hH (t := 1) (k := 3) (T := TX1) rfl w1 (by decide) (by decide) rfl k150 dX3_merging_52 h (fun v5 h => ?_)
            exact r_iret C hT hH hS hr hlocks (by decide) (by decide) dX3_merging_55 h
        · have h := ifc_f n0 h
          by_cases n1 : a1 = 1
          · have h := ifc_t n1 h
            refine lv_tableIn (tgt := 56) C.1 C.2.1 dX3_merging_23 (by rw [n1]; decide) (by rw [n1]; decide) (by rw [n1]; rfl) (by decide) ?_
            refine lv_aload_n C.1 C.2.1 dX3_merging_56 rfl (lv_at hl 0 rfl) ?_
            refine r_gR C hT hH (t := 3) (k := 7) (T := TX3) rfl w3 (by decide) (by decide) rfl k39 dX3_merging_57 h (fun r6 h => ?_)
            rcases r6 with _ | b7
            · have h := ifn_n h
              exact (fl_inv h).elim
            · have h := ifn_s h
              refine r_gI C hT hH (t := 1) (k := 4) (T := TX1) rfl w1 (by decide) (by decide) rfl k153 dX3_merging_60 h (fun v8 h => ?_)
              exact r_iret C hT hH hS hr hlocks (by decide) (by decide) dX3_merging_63 h
          · have h := ifc_f n1 h
            by_cases n2 : a1 = 2
            · have h := ifc_t n2 h
              refine lv_tableIn (tgt := 64) C.1 C.2.1 dX3_merging_23 (by rw [n2]; decide) (by rw [n2]; decide) (by rw [n2]; rfl) (by decide) ?_
              refine lv_aload_n C.1 C.2.1 dX3_merging_64 rfl (lv_at hl 0 rfl) ?_
              refine r_gR C hT hH (t := 3) (k := 7) (T := TX3) rfl w3 (by decide) (by decide) rfl k39 dX3_merging_65 h (fun r9 h => ?_)
              rcases r9 with _ | b10
              · have h := ifn_n h
                exact (fl_inv h).elim
              · have h := ifn_s h
                refine r_gI C hT hH (t := 1) (k := 5) (T := TX1) rfl w1 (by decide) (by decide) rfl k140 dX3_merging_68 h (fun v11 h => ?_)
                exact r_iret C hT hH hS hr hlocks (by decide) (by decide) dX3_merging_71 h
            · have h := ifc_f n2 h
              have g0 := lv_neT n0 (a := 0) rfl
              have g1 := lv_neT n1 (a := 1) rfl
              have g2 := lv_neT n2 (a := 2) rfl
              refine lv_tableOut (tgt := 72) C.1 C.2.1 dX3_merging_23 (by omega) (by decide) ?_
              refine lv_aload_n C.1 C.2.1 dX3_merging_72 rfl (lv_at hl 0 rfl) ?_
              refine r_gR C hT hH (t := 3) (k := 7) (T := TX3) rfl w3 (by decide) (by decide) rfl k39 dX3_merging_73 h (fun r12 h => ?_)
              rcases r12 with _ | b13
              · have h := ifn_n h
                exact (fl_inv h).elim
              · have h := ifn_s h
                refine r_gI C hT hH (t := 1) (k := 0) (T := TX1) rfl w1 (by decide) (by decide) rfl k156 dX3_merging_76 h (fun v14 h => ?_)
                exact r_iret C hT hH hS hr hlocks (by decide) (by decide) dX3_merging_79 h
    · have h := ifc_f hc h
      refine lv_bipush (v := (-2)) C.1 C.2.1 dX3_merging_9 (by decide) ?_
      exact r_iret C hT hH hS hr hlocks (by decide) (by decide) dX3_merging_11 h
abbrev rm_X3_moved : Room := { frames := 1, cells := 0, slots := 0, locals := 22 }
set_option maxHeartbeats 4000000 in
set_option maxRecDepth 100000 in
theorem c_X3_moved (l : Launch) (D : va_G) (cA : Nat → ClassId) (base : Nat) (a0 : Nat) (a1 : Int32) (a2 : Int32) (mm : Mem) (z : (Int32) × Mem) (h : f_X3_moved a0 a1 a2 mm = some z) : Met l yX3_moved wsX3_moved rm_X3_moved (va_Pc [.ref a0, .int a1, .int a2] (mU D cA base mm)) (mQ eI D cA base z) 0 0 (mA base) := by
  refine Met.ofW (cc := cX3_moved) (maxL := 4) (ret := (some .int)) (by decide) rfl ?_
  intro p e s m args below meth c s₁ B hml hv
  obtain ⟨rfl, hH, hT⟩ := hv
  have C : CallFix p m c cX3_moved 4 s ([.ref a0, .int a1, .int a2]).toArray wsX3_moved RX3 := ⟨B.exec, B.bytes, hml, findClass_of_methodNamed B.named, atoms_spec (ws := wsX3_moved) B.pre⟩
  have hr := B.returns
  have hlocks := B.notSynchronized
  have w2 : ∀ w ∈ u_ws RX2 TX2 8, w ∈ wsX3_moved := by decide +kernel
  have w3 : ∀ w ∈ u_ws RX3 TX3 11, w ∈ wsX3_moved := by decide +kernel
  have k43 : Cond.fieldLink RX3 43 "SegmentMerges" "ended" "LSegmentMerges$Merge;" ∈ wsX3_moved := by decide +kernel
  have k162 : Cond.fieldLink RX3 162 "SegmentMerges$Segment" "wentTo" "[I" ∈ wsX3_moved := by decide +kernel
  have hS : va_S (mA base) s.heap s.heap [] := va_S.rf
  have hl := lv_entry ([.ref a0, .int a1, .int a2]) (n := 4) (Nat.le_of_ble_eq_true rfl)
  rw [lg_entry_eq]
  generalize (lg_sl ([.ref a0, .int a1, .int a2]) ++ List.replicate (4 - (lg_sl ([.ref a0, .int a1, .int a2])).length) Slot.unset).toArray = ls at hl ⊢
  have hl : lv_has ls 4 [(0, .ref a0), (1, .int a1), (2, .int a2)] := hl
  unfold f_X3_moved at h
  refine lv_aload_n C.1 C.2.1 dX3_moved_0 rfl (lv_at hl 0 rfl) ?_
  refine r_gR C hT hH (t := 3) (k := 8) (T := TX3) rfl w3 (by decide) (by decide) rfl k43 dX3_moved_1 h (fun r1 h => ?_)
  rcases r1 with _ | b2
  · have h := ifn_n h
    refine lv_ifnonnullN C.1 C.2.1 dX3_moved_4  ?_
    refine lv_null C.1 C.2.1 dX3_moved_7 ?_
    refine lv_goto (tgt := 19) C.1 C.2.1 dX3_moved_8 (by decide) ?_
    refine lv_astore_nN (lv' := [(3, .null), (0, .ref a0), (1, .int a1), (2, .int a2)]) C.1 C.2.1 dX3_moved_19 rfl hl (by decide) rfl (fun ls hl => ?_)
    refine lv_aload_nN C.1 C.2.1 dX3_moved_20 rfl (lv_at hl 0 rfl) ?_
    refine lv_ifnullN (tgt := 32) C.1 C.2.1 dX3_moved_21 (by decide) ?_
    refine lv_iconst (v := (-1)) C.1 C.2.1 dX3_moved_32 (by decide) ?_
    exact r_iret C hT hH hS hr hlocks (by decide) (by decide) dX3_moved_33 h
  · have h := ifn_s h
    refine lv_ifnonnull (tgt := 11) C.1 C.2.1 dX3_moved_4 (by decide) ?_
    refine lv_aload_n C.1 C.2.1 dX3_moved_11 rfl (lv_at hl 0 rfl) ?_
    refine r_gR C hT hH (t := 3) (k := 8) (T := TX3) rfl w3 (by decide) (by decide) rfl k43 dX3_moved_12 h (fun r3 h => ?_)
    rcases r3 with _ | b4
    · have h := ifn_n h
      refine lv_iload_n C.1 C.2.1 dX3_moved_15 rfl (lv_at hl 1 rfl) ?_
      exact (fl_inv h).elim
    · have h := ifn_s h
      refine lv_iload_n C.1 C.2.1 dX3_moved_15 rfl (lv_at hl 1 rfl) ?_
      refine r_callVQ C hT hH hS (t := 1) (As := [.int a1]) (fun z1 hz => c_X1_sourceOf l D cA base b4 a1 _ z1 hz) (cwV 1 C.2.2.2.2 gX3_moved_X1_sourceOf rfl rfl rfl (by decide +kernel) ⟨Nat.le_of_ble_eq_true rfl, Nat.le_of_ble_eq_true rfl⟩) rfl (by decide) rfl hl.1 rfl (Nat.le_of_ble_eq_true rfl) dX3_moved_16 ⟨by decide, by decide⟩ h (fun r5 mm H locs hH hS h => ?_)
      rcases r5 with _ | b6
      · have h := ifn_n h
        refine lv_astore_nN (lv' := [(3, .null), (0, .ref a0), (1, .int a1), (2, .int a2)]) C.1 C.2.1 dX3_moved_19 rfl hl (by decide) rfl (fun ls hl => ?_)
        refine lv_aload_nN C.1 C.2.1 dX3_moved_20 rfl (lv_at hl 0 rfl) ?_
        refine lv_ifnullN (tgt := 32) C.1 C.2.1 dX3_moved_21 (by decide) ?_
        refine lv_iconst (v := (-1)) C.1 C.2.1 dX3_moved_32 (by decide) ?_
        exact r_iret C hT hH hS hr hlocks (by decide) (by decide) dX3_moved_33 h
      · have h := ifn_s h
        refine lv_astore_n (lv' := [(3, .ref b6), (0, .ref a0), (1, .int a1), (2, .int a2)]) C.1 C.2.1 dX3_moved_19 rfl hl (by decide) rfl (fun ls hl => ?_)
        refine lv_aload_n C.1 C.2.1 dX3_moved_20 rfl (lv_at hl 0 rfl) ?_
        refine lv_ifnull C.1 C.2.1 dX3_moved_21  ?_
        refine lv_aload_n C.1 C.2.1 dX3_moved_24 rfl (lv_at hl 0 rfl) ?_
        refine lv_iload_n C.1 C.2.1 dX3_moved_25 rfl (lv_at hl 3 rfl) ?_
        refine r_callVI C hT hH hS (t := 2) (As := [.int a2]) (fun z1 hz => c_X2_hasRow l D cA base b6 a2 _ z1 hz) (cwV 1 C.2.2.2.2 gX3_moved_X2_hasRow rfl rfl rfl (by decide +kernel) ⟨Nat.le_of_ble_eq_true rfl, Nat.le_of_ble_eq_true rfl⟩) rfl (by decide) rfl hl.1 rfl (Nat.le_of_ble_eq_true rfl) dX3_moved_26 ⟨by decide, by decide⟩ h (fun v7 mm H locs hH hS h => ?_)
        refine lv_if_ne (tgt := 34) C.1 C.2.1 dX3_moved_29 (by decide) (fun hc => ?_) (fun hc => ?_)
        · have h := ifc_f hc h
          refine lv_aload_n C.1 C.2.1 dX3_moved_34 rfl (lv_at hl 0 rfl) ?_
          refine r_gN C hT hH (t := 2) (k := 6) (T := TX2) rfl w2 (by decide) (by decide) rfl k162 dX3_moved_35 h (fun b8 h => ?_)
          refine lv_iload_n C.1 C.2.1 dX3_moved_38 rfl (lv_at hl 3 rfl) ?_
          refine r_lI C hT hH dX3_moved_39 h (fun v9 h => ?_)
          refine lv_iconst (v := (-1)) C.1 C.2.1 dX3_moved_40 (by decide) ?_
          refine lv_icmp_ne (tgt := 49) C.1 C.2.1 dX3_moved_41 (by decide) (fun hc => ?_) (fun hc => ?_)
          · have h := ifc_f hc h
            refine lv_aload_n C.1 C.2.1 dX3_moved_49 rfl (lv_at hl 0 rfl) ?_
            refine r_gN C hT hH (t := 2) (k := 6) (T := TX2) rfl w2 (by decide) (by decide) rfl k162 dX3_moved_50 h (fun b10 h => ?_)
            refine lv_iload_n C.1 C.2.1 dX3_moved_53 rfl (lv_at hl 3 rfl) ?_
            refine r_lI C hT hH dX3_moved_54 h (fun v11 h => ?_)
            exact r_iret C hT hH hS hr hlocks (by decide) (by decide) dX3_moved_55 h
          · have h := ifc_t hc h
            refine lv_bipush (v := (-3)) C.1 C.2.1 dX3_moved_44 (by decide) ?_
            refine lv_goto (tgt := 55) C.1 C.2.1 dX3_moved_46 (by decide) ?_
            exact r_iret C hT hH hS hr hlocks (by decide) (by decide) dX3_moved_55 h
        · have h := ifc_t hc h
          refine lv_iconst (v := (-1)) C.1 C.2.1 dX3_moved_32 (by decide) ?_
          exact r_iret C hT hH hS hr hlocks (by decide) (by decide) dX3_moved_33 h
abbrev rm_X3_view : Room := { frames := 1, cells := 0, slots := 0, locals := 80 }
set_option maxHeartbeats 4000000 in
set_option maxRecDepth 100000 in
theorem c_X3_view (l : Launch) (D : va_G) (cA : Nat → ClassId) (base : Nat) (a0 : Nat) (mm : Mem) (z : (Int32) × Mem) (h : f_X3_view a0 mm = some z) : Met l yX3_view wsX3_view rm_X3_view (va_Pc [.ref a0] (mU D cA base mm)) (mQ eI D cA base z) 0 0 (mA base) := by
  refine Met.ofW (cc := cX3_view) (maxL := 2) (ret := (some .int)) (by decide) rfl ?_
  intro p e s m args below meth c s₁ B hml hv
  obtain ⟨rfl, hH, hT⟩ := hv
  have C : CallFix p m c cX3_view 2 s ([.ref a0]).toArray wsX3_view RX3 := ⟨B.exec, B.bytes, hml, findClass_of_methodNamed B.named, atoms_spec (ws := wsX3_view) B.pre⟩
  have hr := B.returns
  have hlocks := B.notSynchronized
  have w3 : ∀ w ∈ u_ws RX3 TX3 11, w ∈ wsX3_view := by decide +kernel
  have k9 : Cond.fieldLink RX3 9 "SegmentMerges" "valueOf" "[I" ∈ wsX3_view := by decide +kernel
  have k48 : Cond.fieldLink RX3 48 "SegmentMerges" "viewed" "[[I" ∈ wsX3_view := by decide +kernel
  have k51 : Cond.fieldLink RX3 51 "SegmentMerges" "viewOpen" "[Z" ∈ wsX3_view := by decide +kernel
  have L2 : ∀ (n : Nat) (x0 : Nat) (x1 : Int32) (mm : Mem) (H : Heap) (locs : List Loc) (ls : Array Slot), mH D cA base mm H → va_S (mA base) s.heap H locs → lv_has ls 2 [(0, .ref x0), (1, .int x1)] → f_X3_view_L2 n x0 x1 mm = some z → W p l e rm_X3_view s m [.ref a0].toArray below meth c H locs 0 0 (MQ below (mQ eI D cA base z) [.ref a0].toArray s 0 0 (mA base)) (F0 m 2 ls []) := by
    intro n
    induction n with
    | zero =>
      intro x0 x1 mm H locs ls hH hS hl h
      exact (fl_inv h).elim
    | succ n ih =>
      intro x0 x1 mm H locs ls hH hS hl h
      unfold f_X3_view_L2 at h
      refine lv_iload_n C.1 C.2.1 dX3_view_2 rfl (lv_at hl 1 rfl) ?_
      refine lv_iconst (v := 4) C.1 C.2.1 dX3_view_3 (by decide) ?_
      refine lv_icmp_ge (tgt := 48) C.1 C.2.1 dX3_view_4 (by decide) (fun hc => ?_) (fun hc => ?_)
      · have h := ifc_t hc h
        refine lv_bipush (v := (-4)) C.1 C.2.1 dX3_view_48 (by decide) ?_
        exact r_iret C hT hH hS hr hlocks (by decide) (by decide) dX3_view_50 h
      · have h := ifc_f hc h
        refine lv_aload_n C.1 C.2.1 dX3_view_7 rfl (lv_at hl 0 rfl) ?_
        refine r_gN C hT hH (t := 3) (k := 10) (T := TX3) rfl w3 (by decide) (by decide) rfl k51 dX3_view_8 h (fun b1 h => ?_)
        refine lv_iload_n C.1 C.2.1 dX3_view_11 rfl (lv_at hl 1 rfl) ?_
        refine r_lZ C hT hH dX3_view_12 h (fun v2 h => ?_)
        refine lv_if_ne (tgt := 42) C.1 C.2.1 dX3_view_13 (by decide) (fun hc => ?_) (fun hc => ?_)
        · have h := ifc_f hc h
          refine lv_iinc (v := (x1 + 1)) (lv' := [(1, .int (x1 + 1)), (0, .ref x0)]) C.1 C.2.1 dX3_view_42 hl (k := 1) rfl rfl (by decide) rfl (fun ls hl => ?_)
          refine lv_goto (tgt := 2) C.1 C.2.1 dX3_view_45 (by decide) ?_
          exact ih x0 (x1 + 1) _ _ _ _ hH hS (lv_sub hl [1, 0] rfl) h
        · have h := ifc_t hc h
          refine lv_aload_n C.1 C.2.1 dX3_view_16 rfl (lv_at hl 0 rfl) ?_
          refine r_gN C hT hH (t := 3) (k := 10) (T := TX3) rfl w3 (by decide) (by decide) rfl k51 dX3_view_17 h (fun b3 h => ?_)
          refine lv_iload_n C.1 C.2.1 dX3_view_20 rfl (lv_at hl 1 rfl) ?_
          refine lv_iconst (v := 1) C.1 C.2.1 dX3_view_21 (by decide) ?_
          refine r_sZ C hT hH hS dX3_view_22 h (fun mm H locs hH hS h => ?_)
          refine lv_aload_n C.1 C.2.1 dX3_view_23 rfl (lv_at hl 0 rfl) ?_
          refine r_gN C hT hH (t := 3) (k := 0) (T := TX3) rfl w3 (by decide) (by decide) rfl k9 dX3_view_24 h (fun b4 h => ?_)
          refine lv_iconst (v := 0) C.1 C.2.1 dX3_view_27 (by decide) ?_
          refine lv_aload_n C.1 C.2.1 dX3_view_28 rfl (lv_at hl 0 rfl) ?_
          refine r_gN C hT hH (t := 3) (k := 9) (T := TX3) rfl w3 (by decide) (by decide) rfl k48 dX3_view_29 h (fun b5 h => ?_)
          refine lv_iload_n C.1 C.2.1 dX3_view_32 rfl (lv_at hl 1 rfl) ?_
          refine r_lR C hT hH (t := 8) (by decide) dX3_view_33 h (fun b6 h => ?_)
          refine lv_iconst (v := 0) C.1 C.2.1 dX3_view_34 (by decide) ?_
          refine lv_bipush (v := 100) C.1 C.2.1 dX3_view_35 (by decide) ?_
          refine r_cp C hT hH hS (by exact hl.1) (by decide +kernel) (by decide +kernel) (by decide +kernel) (by decide +kernel) (by decide) (by decide) dX3_view_37 h (fun mm H locs hH hS h => ?_)
          refine lv_iload_n C.1 C.2.1 dX3_view_40 rfl (lv_at hl 1 rfl) ?_
          exact r_iret C hT hH hS hr hlocks (by decide) (by decide) dX3_view_41 h
  have hS : va_S (mA base) s.heap s.heap [] := va_S.rf
  have hl := lv_entry ([.ref a0]) (n := 2) (Nat.le_of_ble_eq_true rfl)
  rw [lg_entry_eq]
  generalize (lg_sl ([.ref a0]) ++ List.replicate (2 - (lg_sl ([.ref a0])).length) Slot.unset).toArray = ls at hl ⊢
  have hl : lv_has ls 2 [(0, .ref a0)] := hl
  unfold f_X3_view at h
  refine lv_iconst (v := 0) C.1 C.2.1 dX3_view_0 (by decide) ?_
  refine lv_istore_n (lv' := [(1, .int 0), (0, .ref a0)]) C.1 C.2.1 dX3_view_1 rfl hl (by decide) rfl (fun ls hl => ?_)
  exact L2 2100 a0 0 _ _ _ _ hH hS (lv_sub hl [1, 0] rfl) h
abbrev rm_X3_seen : Room := { frames := 1, cells := 0, slots := 0, locals := 21 }
set_option maxHeartbeats 4000000 in
set_option maxRecDepth 100000 in
theorem c_X3_seen (l : Launch) (D : va_G) (cA : Nat → ClassId) (base : Nat) (a0 : Nat) (a1 : Int32) (a2 : Int32) (mm : Mem) (z : (Int32) × Mem) (h : f_X3_seen a0 a1 a2 mm = some z) : Met l yX3_seen wsX3_seen rm_X3_seen (va_Pc [.ref a0, .int a1, .int a2] (mU D cA base mm)) (mQ eI D cA base z) 0 0 (mA base) := by
  refine Met.ofW (cc := cX3_seen) (maxL := 4) (ret := (some .int)) (by decide) rfl ?_
  intro p e s m args below meth c s₁ B hml hv
  obtain ⟨rfl, hH, hT⟩ := hv
  have C : CallFix p m c cX3_seen 4 s ([.ref a0, .int a1, .int a2]).toArray wsX3_seen RX3 := ⟨B.exec, B.bytes, hml, findClass_of_methodNamed B.named, atoms_spec (ws := wsX3_seen) B.pre⟩
  have hr := B.returns
  have hlocks := B.notSynchronized
  have w3 : ∀ w ∈ u_ws RX3 TX3 11, w ∈ wsX3_seen := by decide +kernel
  have k48 : Cond.fieldLink RX3 48 "SegmentMerges" "viewed" "[[I" ∈ wsX3_seen := by decide +kernel
  have hS : va_S (mA base) s.heap s.heap [] := va_S.rf
  have hl := lv_entry ([.ref a0, .int a1, .int a2]) (n := 4) (Nat.le_of_ble_eq_true rfl)
  rw [lg_entry_eq]
  generalize (lg_sl ([.ref a0, .int a1, .int a2]) ++ List.replicate (4 - (lg_sl ([.ref a0, .int a1, .int a2])).length) Slot.unset).toArray = ls at hl ⊢
  have hl : lv_has ls 4 [(0, .ref a0), (1, .int a1), (2, .int a2)] := hl
  unfold f_X3_seen at h
  refine lv_aload_n C.1 C.2.1 dX3_seen_0 rfl (lv_at hl 0 rfl) ?_
  refine lv_iload_n C.1 C.2.1 dX3_seen_1 rfl (lv_at hl 1 rfl) ?_
  refine r_callVI C hT hH hS (t := 3) (As := [.int a1]) (fun z1 hz => c_X3_isOpenView l D cA base a0 a1 _ z1 hz) (cwV 1 C.2.2.2.2 gX3_seen_X3_isOpenView rfl rfl rfl (by decide +kernel) ⟨Nat.le_of_ble_eq_true rfl, Nat.le_of_ble_eq_true rfl⟩) rfl (by decide) rfl hl.1 rfl (Nat.le_of_ble_eq_true rfl) dX3_seen_2 ⟨by decide, by decide⟩ h (fun v1 mm H locs hH hS h => ?_)
  refine lv_if_eq (tgt := 15) C.1 C.2.1 dX3_seen_5 (by decide) (fun hc => ?_) (fun hc => ?_)
  · have h := ifc_t hc h
    refine lv_iconst (v := (-1)) C.1 C.2.1 dX3_seen_15 (by decide) ?_
    exact r_iret C hT hH hS hr hlocks (by decide) (by decide) dX3_seen_16 h
  · have h := ifc_f hc h
    refine lv_iload_n C.1 C.2.1 dX3_seen_8 rfl (lv_at hl 2 rfl) ?_
    refine r_callSI C hT hH hS (As := [.int a2]) (fun z1 hz => c_X3_isKey l D cA base a2 _ z1 hz) (va_cwS 1 C.2.2.2.2 gX3_seen_X3_isKey rfl rfl rfl (by decide +kernel) ⟨Nat.le_of_ble_eq_true rfl, Nat.le_of_ble_eq_true rfl⟩) rfl hl.1 rfl (Nat.le_of_ble_eq_true rfl) dX3_seen_9 ⟨by decide, by decide⟩ h (fun v2 mm H locs hH hS h => ?_)
    refine lv_if_ne (tgt := 17) C.1 C.2.1 dX3_seen_12 (by decide) (fun hc => ?_) (fun hc => ?_)
    · have h := ifc_f hc h
      refine lv_aload_n C.1 C.2.1 dX3_seen_17 rfl (lv_at hl 0 rfl) ?_
      refine r_gN C hT hH (t := 3) (k := 9) (T := TX3) rfl w3 (by decide) (by decide) rfl k48 dX3_seen_18 h (fun b3 h => ?_)
      refine lv_iload_n C.1 C.2.1 dX3_seen_21 rfl (lv_at hl 1 rfl) ?_
      refine r_lR C hT hH (t := 8) (by decide) dX3_seen_22 h (fun b4 h => ?_)
      refine lv_iload_n C.1 C.2.1 dX3_seen_23 rfl (lv_at hl 2 rfl) ?_
      refine r_lI C hT hH dX3_seen_24 h (fun v5 h => ?_)
      refine lv_istore_n (lv' := [(3, .int v5), (0, .ref a0), (1, .int a1), (2, .int a2)]) C.1 C.2.1 dX3_seen_25 rfl hl (by decide) rfl (fun ls hl => ?_)
      refine lv_iload_n C.1 C.2.1 dX3_seen_26 rfl (lv_at hl 0 rfl) ?_
      refine lv_iconst (v := (-1)) C.1 C.2.1 dX3_seen_27 (by decide) ?_
      refine lv_icmp_ne (tgt := 36) C.1 C.2.1 dX3_seen_28 (by decide) (fun hc => ?_) (fun hc => ?_)
      · have h := ifc_f hc h
        refine lv_iload_n C.1 C.2.1 dX3_seen_36 rfl (lv_at hl 0 rfl) ?_
        exact r_iret C hT hH hS hr hlocks (by decide) (by decide) dX3_seen_37 h
      · have h := ifc_t hc h
        refine lv_bipush (v := (-3)) C.1 C.2.1 dX3_seen_31 (by decide) ?_
        refine lv_goto (tgt := 37) C.1 C.2.1 dX3_seen_33 (by decide) ?_
        exact r_iret C hT hH hS hr hlocks (by decide) (by decide) dX3_seen_37 h
    · have h := ifc_t hc h
      refine lv_iconst (v := (-1)) C.1 C.2.1 dX3_seen_15 (by decide) ?_
      exact r_iret C hT hH hS hr hlocks (by decide) (by decide) dX3_seen_16 h
abbrev rm_X3_shut : Room := { frames := 1, cells := 0, slots := 0, locals := 21 }
set_option maxHeartbeats 4000000 in
set_option maxRecDepth 100000 in
theorem c_X3_shut (l : Launch) (D : va_G) (cA : Nat → ClassId) (base : Nat) (a0 : Nat) (a1 : Int32) (mm : Mem) (z : (Int32) × Mem) (h : f_X3_shut a0 a1 mm = some z) : Met l yX3_shut wsX3_shut rm_X3_shut (va_Pc [.ref a0, .int a1] (mU D cA base mm)) (mQ eI D cA base z) 0 0 (mA base) := by
  refine Met.ofW (cc := cX3_shut) (maxL := 4) (ret := (some .int)) (by decide) rfl ?_
  intro p e s m args below meth c s₁ B hml hv
  obtain ⟨rfl, hH, hT⟩ := hv
  have C : CallFix p m c cX3_shut 4 s ([.ref a0, .int a1]).toArray wsX3_shut RX3 := ⟨B.exec, B.bytes, hml, findClass_of_methodNamed B.named, atoms_spec (ws := wsX3_shut) B.pre⟩
  have hr := B.returns
  have hlocks := B.notSynchronized
  have w3 : ∀ w ∈ u_ws RX3 TX3 11, w ∈ wsX3_shut := by decide +kernel
  have k9 : Cond.fieldLink RX3 9 "SegmentMerges" "valueOf" "[I" ∈ wsX3_shut := by decide +kernel
  have k48 : Cond.fieldLink RX3 48 "SegmentMerges" "viewed" "[[I" ∈ wsX3_shut := by decide +kernel
  have k51 : Cond.fieldLink RX3 51 "SegmentMerges" "viewOpen" "[Z" ∈ wsX3_shut := by decide +kernel
  have L14 : ∀ (n : Nat) (x0 : Nat) (x1 : Int32) (x2 : Int32) (x3 : Int32) (mm : Mem) (H : Heap) (locs : List Loc) (ls : Array Slot) (zz : (Int32 × Int32) × Mem), mH D cA base mm H → va_S (mA base) s.heap H locs → lv_has ls 4 [(0, .ref x0), (1, .int x1), (2, .int x2), (3, .int x3)] → f_X3_shut_L14 n x0 x1 x2 x3 mm = some zz → (∀ (H : Heap) (locs : List Loc) (ls : Array Slot), mH D cA base zz.2 H → va_S (mA base) s.heap H locs → lv_has ls 4 [(0, .ref x0), (1, .int x1), (2, .int zz.1.1), (3, .int zz.1.2)] → W p l e rm_X3_shut s m [.ref a0, .int a1].toArray below meth c H locs 0 0 (MQ below (mQ eI D cA base z) [.ref a0, .int a1].toArray s 0 0 (mA base)) (F0 m 46 ls [])) → W p l e rm_X3_shut s m [.ref a0, .int a1].toArray below meth c H locs 0 0 (MQ below (mQ eI D cA base z) [.ref a0, .int a1].toArray s 0 0 (mA base)) (F0 m 14 ls []) := by
    intro n
    induction n with
    | zero =>
      intro x0 x1 x2 x3 mm H locs ls zz hH hS hl h kk
      exact (fl_inv h).elim
    | succ n ih =>
      intro x0 x1 x2 x3 mm H locs ls zz hH hS hl h kk
      unfold f_X3_shut_L14 at h
      refine lv_iload_n C.1 C.2.1 dX3_shut_14 rfl (lv_at hl 3 rfl) ?_
      refine lv_bipush (v := 100) C.1 C.2.1 dX3_shut_15 (by decide) ?_
      refine lv_icmp_ge (tgt := 46) C.1 C.2.1 dX3_shut_17 (by decide) (fun hc => ?_) (fun hc => ?_)
      · have h := ifc_t hc h
        obtain rfl := rt_inv h
        exact kk _ _ _ hH hS (lv_sub hl [0, 1, 2, 3] rfl)
      · have h := ifc_f hc h
        refine lv_aload_n C.1 C.2.1 dX3_shut_20 rfl (lv_at hl 0 rfl) ?_
        refine r_gN C hT hH (t := 3) (k := 9) (T := TX3) rfl w3 (by decide) (by decide) rfl k48 dX3_shut_21 h (fun b2 h => ?_)
        refine lv_iload_n C.1 C.2.1 dX3_shut_24 rfl (lv_at hl 1 rfl) ?_
        refine r_lR C hT hH (t := 8) (by decide) dX3_shut_25 h (fun b3 h => ?_)
        refine lv_iload_n C.1 C.2.1 dX3_shut_26 rfl (lv_at hl 3 rfl) ?_
        refine r_lI C hT hH dX3_shut_27 h (fun v4 h => ?_)
        refine lv_aload_n C.1 C.2.1 dX3_shut_28 rfl (lv_at hl 0 rfl) ?_
        refine r_gN C hT hH (t := 3) (k := 0) (T := TX3) rfl w3 (by decide) (by decide) rfl k9 dX3_shut_29 h (fun b5 h => ?_)
        refine lv_iload_n C.1 C.2.1 dX3_shut_32 rfl (lv_at hl 3 rfl) ?_
        refine r_lI C hT hH dX3_shut_33 h (fun v6 h => ?_)
        refine lv_icmp_eq (tgt := 40) C.1 C.2.1 dX3_shut_34 (by decide) (fun hc => ?_) (fun hc => ?_)
        · have h := ifc_t hc h
          refine lv_iinc (v := (x3 + 1)) (lv' := [(3, .int (x3 + 1)), (0, .ref x0), (1, .int x1), (2, .int x2)]) C.1 C.2.1 dX3_shut_40 hl (k := 3) rfl rfl (by decide) rfl (fun ls hl => ?_)
          refine lv_goto (tgt := 14) C.1 C.2.1 dX3_shut_43 (by decide) ?_
          exact ih x0 x1 x2 (x3 + 1) _ _ _ _ _ hH hS (lv_sub hl [1, 2, 3, 0] rfl) h kk
        · have h := ifc_f hc h
          refine lv_iinc (v := (x2 + 1)) (lv' := [(2, .int (x2 + 1)), (0, .ref x0), (1, .int x1), (3, .int x3)]) C.1 C.2.1 dX3_shut_37 hl (k := 2) rfl rfl (by decide) rfl (fun ls hl => ?_)
          refine lv_iinc (v := (x3 + 1)) (lv' := [(3, .int (x3 + 1)), (2, .int (x2 + 1)), (0, .ref x0), (1, .int x1)]) C.1 C.2.1 dX3_shut_40 hl (k := 3) rfl rfl (by decide) rfl (fun ls hl => ?_)
          refine lv_goto (tgt := 14) C.1 C.2.1 dX3_shut_43 (by decide) ?_
          exact ih x0 x1 (x2 + 1) (x3 + 1) _ _ _ _ _ hH hS (lv_sub hl [2, 3, 1, 0] rfl) h kk
  have hS : va_S (mA base) s.heap s.heap [] := va_S.rf
  have hl := lv_entry ([.ref a0, .int a1]) (n := 4) (Nat.le_of_ble_eq_true rfl)
  rw [lg_entry_eq]
  generalize (lg_sl ([.ref a0, .int a1]) ++ List.replicate (4 - (lg_sl ([.ref a0, .int a1])).length) Slot.unset).toArray = ls at hl ⊢
  have hl : lv_has ls 4 [(0, .ref a0), (1, .int a1)] := hl
  unfold f_X3_shut at h
  refine lv_aload_n C.1 C.2.1 dX3_shut_0 rfl (lv_at hl 0 rfl) ?_
  refine lv_iload_n C.1 C.2.1 dX3_shut_1 rfl (lv_at hl 1 rfl) ?_
  refine r_callVI C hT hH hS (t := 3) (As := [.int a1]) (fun z1 hz => c_X3_isOpenView l D cA base a0 a1 _ z1 hz) (cwV 1 C.2.2.2.2 gX3_shut_X3_isOpenView rfl rfl rfl (by decide +kernel) ⟨Nat.le_of_ble_eq_true rfl, Nat.le_of_ble_eq_true rfl⟩) rfl (by decide) rfl hl.1 rfl (Nat.le_of_ble_eq_true rfl) dX3_shut_2 ⟨by decide, by decide⟩ h (fun v1 mm H locs hH hS h => ?_)
  refine lv_if_ne (tgt := 10) C.1 C.2.1 dX3_shut_5 (by decide) (fun hc => ?_) (fun hc => ?_)
  · have h := ifc_f hc h
    refine lv_iconst (v := 0) C.1 C.2.1 dX3_shut_10 (by decide) ?_
    refine lv_istore_n (lv' := [(2, .int 0), (0, .ref a0), (1, .int a1)]) C.1 C.2.1 dX3_shut_11 rfl hl (by decide) rfl (fun ls hl => ?_)
    refine lv_iconst (v := 0) C.1 C.2.1 dX3_shut_12 (by decide) ?_
    refine lv_istore_n (lv' := [(3, .int 0), (2, .int 0), (0, .ref a0), (1, .int a1)]) C.1 C.2.1 dX3_shut_13 rfl hl (by decide) rfl (fun ls hl => ?_)
    obtain ⟨x7, mx7, hq, h⟩ := bnd_inv h
    refine L14 2100 a0 a1 0 0 _ _ _ _ (x7, mx7) hH hS (lv_sub hl [2, 3, 1, 0] rfl) hq (fun H locs ls hH hS hl => ?_)
    refine lv_aload_n C.1 C.2.1 dX3_shut_46 rfl (lv_at hl 0 rfl) ?_
    refine r_gN C hT hH (t := 3) (k := 10) (T := TX3) rfl w3 (by decide) (by decide) rfl k51 dX3_shut_47 h (fun b8 h => ?_)
    refine lv_iload_n C.1 C.2.1 dX3_shut_50 rfl (lv_at hl 1 rfl) ?_
    refine lv_iconst (v := 0) C.1 C.2.1 dX3_shut_51 (by decide) ?_
    refine r_sZ C hT hH hS dX3_shut_52 h (fun mm H locs hH hS h => ?_)
    refine lv_iload_n C.1 C.2.1 dX3_shut_53 rfl (lv_at hl 2 rfl) ?_
    exact r_iret C hT hH hS hr hlocks (by decide) (by decide) dX3_shut_54 h
  · have h := ifc_t hc h
    refine lv_iconst (v := (-1)) C.1 C.2.1 dX3_shut_8 (by decide) ?_
    exact r_iret C hT hH hS hr hlocks (by decide) (by decide) dX3_shut_9 h
