/-! The bytecode computes the functions of 05f: written by wip/tools/gen.py -/
abbrev rm_X3_put : Room := { frames := 2, cells := 0, slots := 0, locals := 44 }
set_option maxHeartbeats 4000000 in
set_option maxRecDepth 100000 in
theorem c_X3_put (l : Launch) (D : va_G) (cA : Nat → ClassId) (base : Nat) (a0 : Nat) (a1 : Int32) (a2 : Int32) (mm : Mem) (z : (Int32) × Mem) (h : f_X3_put a0 a1 a2 mm = some z) : Met l yX3_put wsX3_put rm_X3_put (va_Pc [.ref a0, .int a1, .int a2] (mU D cA base mm)) (mQ eI D cA base z) 0 0 (mA base) := by
  refine Met.ofW (cc := cX3_put) (maxL := 4) (ret := (some .int)) (by decide) rfl ?_
  intro p e s m args below meth c s₁ B hml hv
  obtain ⟨rfl, hH, hT⟩ := hv
  have C : CallFix p m c cX3_put 4 s ([.ref a0, .int a1, .int a2]).toArray wsX3_put RX3 := ⟨B.exec, B.bytes, hml, findClass_of_methodNamed B.named, atoms_spec (ws := wsX3_put) B.pre⟩
  have hr := B.returns
  have hlocks := B.notSynchronized
  have w0 : ∀ w ∈ u_ws RX0 TX0 3, w ∈ wsX3_put := by decide +kernel
  have w3 : ∀ w ∈ u_ws RX3 TX3 11, w ∈ wsX3_put := by decide +kernel
  have k9 : Cond.fieldLink RX3 9 "SegmentMerges" "valueOf" "[I" ∈ wsX3_put := by decide +kernel
  have k16 : Cond.fieldLink RX3 16 "SegmentMerges" "memory" "LSegmentMerges$Memory;" ∈ wsX3_put := by decide +kernel
  have k69 : Cond.fieldLink RX3 69 "SegmentMerges$Memory" "size" "I" ∈ wsX3_put := by decide +kernel
  have k80 : Cond.fieldLink RX3 80 "SegmentMerges$Memory" "values" "[I" ∈ wsX3_put := by decide +kernel
  have hS : va_S (mA base) s.heap s.heap [] := va_S.rf
  have hl := lv_entry ([.ref a0, .int a1, .int a2]) (n := 4) (Nat.le_of_ble_eq_true rfl)
  rw [lg_entry_eq]
  generalize (lg_sl ([.ref a0, .int a1, .int a2]) ++ List.replicate (4 - (lg_sl ([.ref a0, .int a1, .int a2])).length) Slot.unset).toArray = ls at hl ⊢
  have hl : lv_has ls 4 [(0, .ref a0), (1, .int a1), (2, .int a2)] := hl
  unfold f_X3_put at h
  refine lv_iload_n C.1 C.2.1 dX3_put_0 rfl (lv_at hl 1 rfl) ?_
  refine r_callSI C hT hH hS (As := [.int a1]) (fun z1 hz => c_X3_isKey l D cA base a1 _ z1 hz) (va_cwS 1 C.2.2.2.2 gX3_put_X3_isKey rfl rfl rfl (by decide +kernel) ⟨Nat.le_of_ble_eq_true rfl, Nat.le_of_ble_eq_true rfl⟩) rfl hl.1 rfl (Nat.le_of_ble_eq_true rfl) dX3_put_1 ⟨by decide, by decide⟩ h (fun v1 mm H locs hH hS h => ?_)
  refine lv_if_ne (tgt := 9) C.1 C.2.1 dX3_put_4 (by decide) (fun hc => ?_) (fun hc => ?_)
  · have h := ifc_f hc h
    refine lv_iload_n C.1 C.2.1 dX3_put_9 rfl (lv_at hl 2 rfl) ?_
    refine lv_if_lt (tgt := 20) C.1 C.2.1 dX3_put_10 (by decide) (fun hc => ?_) (fun hc => ?_)
    · have h := ifc_t hc h
      refine lv_bipush (v := (-2)) C.1 C.2.1 dX3_put_20 (by decide) ?_
      exact r_iret C hT hH hS hr hlocks (by decide) (by decide) dX3_put_22 h
    · have h := ifc_f hc h
      refine lv_iload_n C.1 C.2.1 dX3_put_13 rfl (lv_at hl 2 rfl) ?_
      refine lv_sipush (v := 1000) C.1 C.2.1 dX3_put_14 (by decide) ?_
      refine lv_icmp_lt (tgt := 23) C.1 C.2.1 dX3_put_17 (by decide) (fun hc => ?_) (fun hc => ?_)
      · have h := ifc_t hc h
        refine lv_aload_n C.1 C.2.1 dX3_put_23 rfl (lv_at hl 0 rfl) ?_
        refine r_gN C hT hH (t := 3) (k := 1) (T := TX3) rfl w3 (by decide) (by decide) rfl k16 dX3_put_24 h (fun b2 h => ?_)
        refine lv_iload_n C.1 C.2.1 dX3_put_27 rfl (lv_at hl 1 rfl) ?_
        refine r_callVI C hT hH hS (t := 0) (As := [.int a1]) (fun z1 hz => c_X0_find l D cA base b2 a1 _ z1 hz) (cwV 1 C.2.2.2.2 gX3_put_X0_find rfl rfl rfl (by decide +kernel) ⟨Nat.le_of_ble_eq_true rfl, Nat.le_of_ble_eq_true rfl⟩) rfl (by decide) rfl hl.1 rfl (Nat.le_of_ble_eq_true rfl) dX3_put_28 ⟨by decide, by decide⟩ h (fun v3 mm H locs hH hS h => ?_)
        refine lv_istore_n (lv' := [(3, .int v3), (0, .ref a0), (1, .int a1), (2, .int a2)]) C.1 C.2.1 dX3_put_31 rfl hl (by decide) rfl (fun ls hl => ?_)
        refine lv_iload_n C.1 C.2.1 dX3_put_32 rfl (lv_at hl 0 rfl) ?_
        refine lv_iconst (v := (-1)) C.1 C.2.1 dX3_put_33 (by decide) ?_
        refine lv_icmp_ne (tgt := 52) C.1 C.2.1 dX3_put_34 (by decide) (fun hc => ?_) (fun hc => ?_)
        · have h := ifc_f hc h
          refine lv_iload_n C.1 C.2.1 dX3_put_52 rfl (lv_at hl 0 rfl) ?_
          refine lv_iconst (v := (-1)) C.1 C.2.1 dX3_put_53 (by decide) ?_
          refine lv_icmp_ne (tgt := 74) C.1 C.2.1 dX3_put_54 (by decide) (fun hc => ?_) (fun hc => ?_)
          · have h := ifc_f hc h
            refine lv_aload_n C.1 C.2.1 dX3_put_74 rfl (lv_at hl 1 rfl) ?_
            refine r_gN C hT hH (t := 3) (k := 1) (T := TX3) rfl w3 (by decide) (by decide) rfl k16 dX3_put_75 h (fun b4 h => ?_)
            refine r_gN C hT hH (t := 0) (k := 1) (T := TX0) rfl w0 (by decide) (by decide) rfl k80 dX3_put_78 h (fun b5 h => ?_)
            refine lv_iload_n C.1 C.2.1 dX3_put_81 rfl (lv_at hl 0 rfl) ?_
            refine lv_iload_n C.1 C.2.1 dX3_put_82 rfl (lv_at hl 3 rfl) ?_
            refine r_sI C hT hH hS dX3_put_83 h (fun mm H locs hH hS h => ?_)
            refine lv_aload_n C.1 C.2.1 dX3_put_84 rfl (lv_at hl 1 rfl) ?_
            refine r_gN C hT hH (t := 3) (k := 0) (T := TX3) rfl w3 (by decide) (by decide) rfl k9 dX3_put_85 h (fun b6 h => ?_)
            refine lv_iload_n C.1 C.2.1 dX3_put_88 rfl (lv_at hl 2 rfl) ?_
            refine lv_iload_n C.1 C.2.1 dX3_put_89 rfl (lv_at hl 3 rfl) ?_
            refine r_sI C hT hH hS dX3_put_90 h (fun mm H locs hH hS h => ?_)
            refine lv_aload_n C.1 C.2.1 dX3_put_91 rfl (lv_at hl 1 rfl) ?_
            refine r_gN C hT hH (t := 3) (k := 1) (T := TX3) rfl w3 (by decide) (by decide) rfl k16 dX3_put_92 h (fun b7 h => ?_)
            refine r_gI C hT hH (t := 0) (k := 2) (T := TX0) rfl w0 (by decide) (by decide) rfl k69 dX3_put_95 h (fun v8 h => ?_)
            exact r_iret C hT hH hS hr hlocks (by decide) (by decide) dX3_put_98 h
          · have h := ifc_t hc h
            refine lv_aload_n C.1 C.2.1 dX3_put_57 rfl (lv_at hl 1 rfl) ?_
            refine lv_iload_n C.1 C.2.1 dX3_put_58 rfl (lv_at hl 2 rfl) ?_
            refine r_callVV C hT hH hS (t := 3) (As := [.int a1]) (fun z1 hz => c_X3_killRowOf l D cA base a0 a1 _ z1 hz) (cwV 1 C.2.2.2.2 gX3_put_X3_killRowOf rfl rfl rfl (by decide +kernel) ⟨Nat.le_of_ble_eq_true rfl, Nat.le_of_ble_eq_true rfl⟩) rfl (by decide) rfl hl.1 rfl (Nat.le_of_ble_eq_true rfl) dX3_put_59 ⟨by decide, by decide⟩ h (fun _ mm H locs hH hS h => ?_)
            refine lv_aload_n C.1 C.2.1 dX3_put_62 rfl (lv_at hl 1 rfl) ?_
            refine r_gN C hT hH (t := 3) (k := 1) (T := TX3) rfl w3 (by decide) (by decide) rfl k16 dX3_put_63 h (fun b9 h => ?_)
            refine lv_iload_n C.1 C.2.1 dX3_put_66 rfl (lv_at hl 2 rfl) ?_
            refine lv_iload_n C.1 C.2.1 dX3_put_67 rfl (lv_at hl 3 rfl) ?_
            refine r_callVV C hT hH hS (t := 0) (As := [.int a1, .int a2]) (fun z1 hz => c_X0_append l D cA base b9 a1 a2 _ z1 hz) (cwV 2 C.2.2.2.2 gX3_put_X0_append rfl rfl rfl (by decide +kernel) ⟨Nat.le_of_ble_eq_true rfl, Nat.le_of_ble_eq_true rfl⟩) rfl (by decide) rfl hl.1 rfl (Nat.le_of_ble_eq_true rfl) dX3_put_68 ⟨by decide, by decide⟩ h (fun _ mm H locs hH hS h => ?_)
            refine lv_goto (tgt := 84) C.1 C.2.1 dX3_put_71 (by decide) ?_
            refine lv_aload_n C.1 C.2.1 dX3_put_84 rfl (lv_at hl 1 rfl) ?_
            refine r_gN C hT hH (t := 3) (k := 0) (T := TX3) rfl w3 (by decide) (by decide) rfl k9 dX3_put_85 h (fun b10 h => ?_)
            refine lv_iload_n C.1 C.2.1 dX3_put_88 rfl (lv_at hl 2 rfl) ?_
            refine lv_iload_n C.1 C.2.1 dX3_put_89 rfl (lv_at hl 3 rfl) ?_
            refine r_sI C hT hH hS dX3_put_90 h (fun mm H locs hH hS h => ?_)
            refine lv_aload_n C.1 C.2.1 dX3_put_91 rfl (lv_at hl 1 rfl) ?_
            refine r_gN C hT hH (t := 3) (k := 1) (T := TX3) rfl w3 (by decide) (by decide) rfl k16 dX3_put_92 h (fun b11 h => ?_)
            refine r_gI C hT hH (t := 0) (k := 2) (T := TX0) rfl w0 (by decide) (by decide) rfl k69 dX3_put_95 h (fun v12 h => ?_)
            exact r_iret C hT hH hS hr hlocks (by decide) (by decide) dX3_put_98 h
        · have h := ifc_t hc h
          refine lv_aload_n C.1 C.2.1 dX3_put_37 rfl (lv_at hl 1 rfl) ?_
          refine r_gN C hT hH (t := 3) (k := 1) (T := TX3) rfl w3 (by decide) (by decide) rfl k16 dX3_put_38 h (fun b13 h => ?_)
          refine r_gI C hT hH (t := 0) (k := 2) (T := TX0) rfl w0 (by decide) (by decide) rfl k69 dX3_put_41 h (fun v14 h => ?_)
          refine lv_bipush (v := 6) C.1 C.2.1 dX3_put_44 (by decide) ?_
          refine lv_icmp_ne (tgt := 52) C.1 C.2.1 dX3_put_46 (by decide) (fun hc => ?_) (fun hc => ?_)
          · have h := ifc_f hc h
            refine lv_iload_n C.1 C.2.1 dX3_put_52 rfl (lv_at hl 0 rfl) ?_
            refine lv_iconst (v := (-1)) C.1 C.2.1 dX3_put_53 (by decide) ?_
            refine lv_icmp_ne (tgt := 74) C.1 C.2.1 dX3_put_54 (by decide) (fun hc => ?_) (fun hc => ?_)
            · have h := ifc_f hc h
              refine lv_aload_n C.1 C.2.1 dX3_put_74 rfl (lv_at hl 1 rfl) ?_
              refine r_gN C hT hH (t := 3) (k := 1) (T := TX3) rfl w3 (by decide) (by decide) rfl k16 dX3_put_75 h (fun b15 h => ?_)
              refine r_gN C hT hH (t := 0) (k := 1) (T := TX0) rfl w0 (by decide) (by decide) rfl k80 dX3_put_78 h (fun b16 h => ?_)
              refine lv_iload_n C.1 C.2.1 dX3_put_81 rfl (lv_at hl 0 rfl) ?_
              refine lv_iload_n C.1 C.2.1 dX3_put_82 rfl (lv_at hl 3 rfl) ?_
              refine r_sI C hT hH hS dX3_put_83 h (fun mm H locs hH hS h => ?_)
              refine lv_aload_n C.1 C.2.1 dX3_put_84 rfl (lv_at hl 1 rfl) ?_
              refine r_gN C hT hH (t := 3) (k := 0) (T := TX3) rfl w3 (by decide) (by decide) rfl k9 dX3_put_85 h (fun b17 h => ?_)
              refine lv_iload_n C.1 C.2.1 dX3_put_88 rfl (lv_at hl 2 rfl) ?_
              refine lv_iload_n C.1 C.2.1 dX3_put_89 rfl (lv_at hl 3 rfl) ?_
              refine r_sI C hT hH hS dX3_put_90 h (fun mm H locs hH hS h => ?_)
              refine lv_aload_n C.1 C.2.1 dX3_put_91 rfl (lv_at hl 1 rfl) ?_
              refine r_gN C hT hH (t := 3) (k := 1) (T := TX3) rfl w3 (by decide) (by decide) rfl k16 dX3_put_92 h (fun b18 h => ?_)
              refine r_gI C hT hH (t := 0) (k := 2) (T := TX0) rfl w0 (by decide) (by decide) rfl k69 dX3_put_95 h (fun v19 h => ?_)
              exact r_iret C hT hH hS hr hlocks (by decide) (by decide) dX3_put_98 h
            · have h := ifc_t hc h
              refine lv_aload_n C.1 C.2.1 dX3_put_57 rfl (lv_at hl 1 rfl) ?_
              refine lv_iload_n C.1 C.2.1 dX3_put_58 rfl (lv_at hl 2 rfl) ?_
              refine r_callVV C hT hH hS (t := 3) (As := [.int a1]) (fun z1 hz => c_X3_killRowOf l D cA base a0 a1 _ z1 hz) (cwV 1 C.2.2.2.2 gX3_put_X3_killRowOf rfl rfl rfl (by decide +kernel) ⟨Nat.le_of_ble_eq_true rfl, Nat.le_of_ble_eq_true rfl⟩) rfl (by decide) rfl hl.1 rfl (Nat.le_of_ble_eq_true rfl) dX3_put_59 ⟨by decide, by decide⟩ h (fun _ mm H locs hH hS h => ?_)
              refine lv_aload_n C.1 C.2.1 dX3_put_62 rfl (lv_at hl 1 rfl) ?_
              refine r_gN C hT hH (t := 3) (k := 1) (T := TX3) rfl w3 (by decide) (by decide) rfl k16 dX3_put_63 h (fun b20 h => ?_)
              refine lv_iload_n C.1 C.2.1 dX3_put_66 rfl (lv_at hl 2 rfl) ?_
              refine lv_iload_n C.1 C.2.1 dX3_put_67 rfl (lv_at hl 3 rfl) ?_
              refine r_callVV C hT hH hS (t := 0) (As := [.int a1, .int a2]) (fun z1 hz => c_X0_append l D cA base b20 a1 a2 _ z1 hz) (cwV 2 C.2.2.2.2 gX3_put_X0_append rfl rfl rfl (by decide +kernel) ⟨Nat.le_of_ble_eq_true rfl, Nat.le_of_ble_eq_true rfl⟩) rfl (by decide) rfl hl.1 rfl (Nat.le_of_ble_eq_true rfl) dX3_put_68 ⟨by decide, by decide⟩ h (fun _ mm H locs hH hS h => ?_)
              refine lv_goto (tgt := 84) C.1 C.2.1 dX3_put_71 (by decide) ?_
              refine lv_aload_n C.1 C.2.1 dX3_put_84 rfl (lv_at hl 1 rfl) ?_
              refine r_gN C hT hH (t := 3) (k := 0) (T := TX3) rfl w3 (by decide) (by decide) rfl k9 dX3_put_85 h (fun b21 h => ?_)
              refine lv_iload_n C.1 C.2.1 dX3_put_88 rfl (lv_at hl 2 rfl) ?_
              refine lv_iload_n C.1 C.2.1 dX3_put_89 rfl (lv_at hl 3 rfl) ?_
              refine r_sI C hT hH hS dX3_put_90 h (fun mm H locs hH hS h => ?_)
              refine lv_aload_n C.1 C.2.1 dX3_put_91 rfl (lv_at hl 1 rfl) ?_
              refine r_gN C hT hH (t := 3) (k := 1) (T := TX3) rfl w3 (by decide) (by decide) rfl k16 dX3_put_92 h (fun b22 h => ?_)
              refine r_gI C hT hH (t := 0) (k := 2) (T := TX0) rfl w0 (by decide) (by decide) rfl k69 dX3_put_95 h (fun v23 h => ?_)
              exact r_iret C hT hH hS hr hlocks (by decide) (by decide) dX3_put_98 h
          · have h := ifc_t hc h
            refine lv_bipush (v := (-4)) C.1 C.2.1 dX3_put_49 (by decide) ?_
            exact r_iret C hT hH hS hr hlocks (by decide) (by decide) dX3_put_51 h
      · have h := ifc_f hc h
        refine lv_bipush (v := (-2)) C.1 C.2.1 dX3_put_20 (by decide) ?_
        exact r_iret C hT hH hS hr hlocks (by decide) (by decide) dX3_put_22 h
  · have h := ifc_t hc h
    refine lv_iconst (v := (-1)) C.1 C.2.1 dX3_put_7 (by decide) ?_
    exact r_iret C hT hH hS hr hlocks (by decide) (by decide) dX3_put_8 h
abbrev rm_X3_drop : Room := { frames := 2, cells := 0, slots := 0, locals := 44 }
set_option maxHeartbeats 4000000 in
set_option maxRecDepth 100000 in
theorem c_X3_drop (l : Launch) (D : va_G) (cA : Nat → ClassId) (base : Nat) (a0 : Nat) (a1 : Int32) (mm : Mem) (z : (Int32) × Mem) (h : f_X3_drop a0 a1 mm = some z) : Met l yX3_drop wsX3_drop rm_X3_drop (va_Pc [.ref a0, .int a1] (mU D cA base mm)) (mQ eI D cA base z) 0 0 (mA base) := by
  refine Met.ofW (cc := cX3_drop) (maxL := 3) (ret := (some .int)) (by decide) rfl ?_
  intro p e s m args below meth c s₁ B hml hv
  obtain ⟨rfl, hH, hT⟩ := hv
  have C : CallFix p m c cX3_drop 3 s ([.ref a0, .int a1]).toArray wsX3_drop RX3 := ⟨B.exec, B.bytes, hml, findClass_of_methodNamed B.named, atoms_spec (ws := wsX3_drop) B.pre⟩
  have hr := B.returns
  have hlocks := B.notSynchronized
  have w3 : ∀ w ∈ u_ws RX3 TX3 11, w ∈ wsX3_drop := by decide +kernel
  have k9 : Cond.fieldLink RX3 9 "SegmentMerges" "valueOf" "[I" ∈ wsX3_drop := by decide +kernel
  have k16 : Cond.fieldLink RX3 16 "SegmentMerges" "memory" "LSegmentMerges$Memory;" ∈ wsX3_drop := by decide +kernel
  have hS : va_S (mA base) s.heap s.heap [] := va_S.rf
  have hl := lv_entry ([.ref a0, .int a1]) (n := 3) (Nat.le_of_ble_eq_true rfl)
  rw [lg_entry_eq]
  generalize (lg_sl ([.ref a0, .int a1]) ++ List.replicate (3 - (lg_sl ([.ref a0, .int a1])).length) Slot.unset).toArray = ls at hl ⊢
  have hl : lv_has ls 3 [(0, .ref a0), (1, .int a1)] := hl
  unfold f_X3_drop at h
  refine lv_iload_n C.1 C.2.1 dX3_drop_0 rfl (lv_at hl 1 rfl) ?_
  refine r_callSI C hT hH hS (As := [.int a1]) (fun z1 hz => c_X3_isKey l D cA base a1 _ z1 hz) (va_cwS 1 C.2.2.2.2 gX3_drop_X3_isKey rfl rfl rfl (by decide +kernel) ⟨Nat.le_of_ble_eq_true rfl, Nat.le_of_ble_eq_true rfl⟩) rfl hl.1 rfl (Nat.le_of_ble_eq_true rfl) dX3_drop_1 ⟨by decide, by decide⟩ h (fun v1 mm H locs hH hS h => ?_)
  refine lv_if_ne (tgt := 9) C.1 C.2.1 dX3_drop_4 (by decide) (fun hc => ?_) (fun hc => ?_)
  · have h := ifc_f hc h
    refine lv_aload_n C.1 C.2.1 dX3_drop_9 rfl (lv_at hl 0 rfl) ?_
    refine r_gN C hT hH (t := 3) (k := 0) (T := TX3) rfl w3 (by decide) (by decide) rfl k9 dX3_drop_10 h (fun b2 h => ?_)
    refine lv_iload_n C.1 C.2.1 dX3_drop_13 rfl (lv_at hl 1 rfl) ?_
    refine r_lI C hT hH dX3_drop_14 h (fun v3 h => ?_)
    refine lv_iconst (v := (-1)) C.1 C.2.1 dX3_drop_15 (by decide) ?_
    refine lv_icmp_ne (tgt := 21) C.1 C.2.1 dX3_drop_16 (by decide) (fun hc => ?_) (fun hc => ?_)
    · have h := ifc_f hc h
      refine lv_aload_n C.1 C.2.1 dX3_drop_21 rfl (lv_at hl 0 rfl) ?_
      refine r_gN C hT hH (t := 3) (k := 1) (T := TX3) rfl w3 (by decide) (by decide) rfl k16 dX3_drop_22 h (fun b4 h => ?_)
      refine lv_iload_n C.1 C.2.1 dX3_drop_25 rfl (lv_at hl 1 rfl) ?_
      refine r_callVI C hT hH hS (t := 0) (As := [.int a1]) (fun z1 hz => c_X0_find l D cA base b4 a1 _ z1 hz) (cwV 1 C.2.2.2.2 gX3_drop_X0_find rfl rfl rfl (by decide +kernel) ⟨Nat.le_of_ble_eq_true rfl, Nat.le_of_ble_eq_true rfl⟩) rfl (by decide) rfl hl.1 rfl (Nat.le_of_ble_eq_true rfl) dX3_drop_26 ⟨by decide, by decide⟩ h (fun v5 mm H locs hH hS h => ?_)
      refine lv_istore_n (lv' := [(2, .int v5), (0, .ref a0), (1, .int a1)]) C.1 C.2.1 dX3_drop_29 rfl hl (by decide) rfl (fun ls hl => ?_)
      refine lv_iload_n C.1 C.2.1 dX3_drop_30 rfl (lv_at hl 0 rfl) ?_
      refine lv_iconst (v := (-1)) C.1 C.2.1 dX3_drop_31 (by decide) ?_
      refine lv_icmp_ne (tgt := 43) C.1 C.2.1 dX3_drop_32 (by decide) (fun hc => ?_) (fun hc => ?_)
      · have h := ifc_f hc h
        refine lv_aload_n C.1 C.2.1 dX3_drop_43 rfl (lv_at hl 1 rfl) ?_
        refine r_gN C hT hH (t := 3) (k := 1) (T := TX3) rfl w3 (by decide) (by decide) rfl k16 dX3_drop_44 h (fun b6 h => ?_)
        refine lv_iload_n C.1 C.2.1 dX3_drop_47 rfl (lv_at hl 0 rfl) ?_
        refine r_callVV C hT hH hS (t := 0) (As := [.int v5]) (fun z1 hz => c_X0_removeAt l D cA base b6 v5 _ z1 hz) (cwV 1 C.2.2.2.2 gX3_drop_X0_removeAt rfl rfl rfl (by decide +kernel) ⟨Nat.le_of_ble_eq_true rfl, Nat.le_of_ble_eq_true rfl⟩) rfl (by decide) rfl hl.1 rfl (Nat.le_of_ble_eq_true rfl) dX3_drop_48 ⟨by decide, by decide⟩ h (fun _ mm H locs hH hS h => ?_)
        refine lv_aload_n C.1 C.2.1 dX3_drop_51 rfl (lv_at hl 1 rfl) ?_
        refine r_gN C hT hH (t := 3) (k := 0) (T := TX3) rfl w3 (by decide) (by decide) rfl k9 dX3_drop_52 h (fun b7 h => ?_)
        refine lv_iload_n C.1 C.2.1 dX3_drop_55 rfl (lv_at hl 2 rfl) ?_
        refine lv_iconst (v := (-1)) C.1 C.2.1 dX3_drop_56 (by decide) ?_
        refine r_sI C hT hH hS dX3_drop_57 h (fun mm H locs hH hS h => ?_)
        refine lv_iconst (v := 1) C.1 C.2.1 dX3_drop_58 (by decide) ?_
        exact r_iret C hT hH hS hr hlocks (by decide) (by decide) dX3_drop_59 h
      · have h := ifc_t hc h
        refine lv_aload_n C.1 C.2.1 dX3_drop_35 rfl (lv_at hl 1 rfl) ?_
        refine lv_iload_n C.1 C.2.1 dX3_drop_36 rfl (lv_at hl 2 rfl) ?_
        refine r_callVV C hT hH hS (t := 3) (As := [.int a1]) (fun z1 hz => c_X3_killRowOf l D cA base a0 a1 _ z1 hz) (cwV 1 C.2.2.2.2 gX3_drop_X3_killRowOf rfl rfl rfl (by decide +kernel) ⟨Nat.le_of_ble_eq_true rfl, Nat.le_of_ble_eq_true rfl⟩) rfl (by decide) rfl hl.1 rfl (Nat.le_of_ble_eq_true rfl) dX3_drop_37 ⟨by decide, by decide⟩ h (fun _ mm H locs hH hS h => ?_)
        refine lv_goto (tgt := 51) C.1 C.2.1 dX3_drop_40 (by decide) ?_
        refine lv_aload_n C.1 C.2.1 dX3_drop_51 rfl (lv_at hl 1 rfl) ?_
        refine r_gN C hT hH (t := 3) (k := 0) (T := TX3) rfl w3 (by decide) (by decide) rfl k9 dX3_drop_52 h (fun b8 h => ?_)
        refine lv_iload_n C.1 C.2.1 dX3_drop_55 rfl (lv_at hl 2 rfl) ?_
        refine lv_iconst (v := (-1)) C.1 C.2.1 dX3_drop_56 (by decide) ?_
        refine r_sI C hT hH hS dX3_drop_57 h (fun mm H locs hH hS h => ?_)
        refine lv_iconst (v := 1) C.1 C.2.1 dX3_drop_58 (by decide) ?_
        exact r_iret C hT hH hS hr hlocks (by decide) (by decide) dX3_drop_59 h
    · have h := ifc_t hc h
      refine lv_iconst (v := 0) C.1 C.2.1 dX3_drop_19 (by decide) ?_
      exact r_iret C hT hH hS hr hlocks (by decide) (by decide) dX3_drop_20 h
  · have h := ifc_t hc h
    refine lv_iconst (v := (-1)) C.1 C.2.1 dX3_drop_7 (by decide) ?_
    exact r_iret C hT hH hS hr hlocks (by decide) (by decide) dX3_drop_8 h
abbrev rm_X3_get : Room := { frames := 1, cells := 0, slots := 0, locals := 20 }
set_option maxHeartbeats 4000000 in
set_option maxRecDepth 100000 in
theorem c_X3_get (l : Launch) (D : va_G) (cA : Nat → ClassId) (base : Nat) (a0 : Nat) (a1 : Int32) (mm : Mem) (z : (Int32) × Mem) (h : f_X3_get a0 a1 mm = some z) : Met l yX3_get wsX3_get rm_X3_get (va_Pc [.ref a0, .int a1] (mU D cA base mm)) (mQ eI D cA base z) 0 0 (mA base) := by
  refine Met.ofW (cc := cX3_get) (maxL := 2) (ret := (some .int)) (by decide) rfl ?_
  intro p e s m args below meth c s₁ B hml hv
  obtain ⟨rfl, hH, hT⟩ := hv
  have C : CallFix p m c cX3_get 2 s ([.ref a0, .int a1]).toArray wsX3_get RX3 := ⟨B.exec, B.bytes, hml, findClass_of_methodNamed B.named, atoms_spec (ws := wsX3_get) B.pre⟩
  have hr := B.returns
  have hlocks := B.notSynchronized
  have w3 : ∀ w ∈ u_ws RX3 TX3 11, w ∈ wsX3_get := by decide +kernel
  have k9 : Cond.fieldLink RX3 9 "SegmentMerges" "valueOf" "[I" ∈ wsX3_get := by decide +kernel
  have hS : va_S (mA base) s.heap s.heap [] := va_S.rf
  have hl := lv_entry ([.ref a0, .int a1]) (n := 2) (Nat.le_of_ble_eq_true rfl)
  rw [lg_entry_eq]
  generalize (lg_sl ([.ref a0, .int a1]) ++ List.replicate (2 - (lg_sl ([.ref a0, .int a1])).length) Slot.unset).toArray = ls at hl ⊢
  have hl : lv_has ls 2 [(0, .ref a0), (1, .int a1)] := hl
  unfold f_X3_get at h
  refine lv_iload_n C.1 C.2.1 dX3_get_0 rfl (lv_at hl 1 rfl) ?_
  refine r_callSI C hT hH hS (As := [.int a1]) (fun z1 hz => c_X3_isKey l D cA base a1 _ z1 hz) (va_cwS 1 C.2.2.2.2 gX3_get_X3_isKey rfl rfl rfl (by decide +kernel) ⟨Nat.le_of_ble_eq_true rfl, Nat.le_of_ble_eq_true rfl⟩) rfl hl.1 rfl (Nat.le_of_ble_eq_true rfl) dX3_get_1 ⟨by decide, by decide⟩ h (fun v1 mm H locs hH hS h => ?_)
  refine lv_if_ne (tgt := 9) C.1 C.2.1 dX3_get_4 (by decide) (fun hc => ?_) (fun hc => ?_)
  · have h := ifc_f hc h
    refine lv_aload_n C.1 C.2.1 dX3_get_9 rfl (lv_at hl 0 rfl) ?_
    refine r_gN C hT hH (t := 3) (k := 0) (T := TX3) rfl w3 (by decide) (by decide) rfl k9 dX3_get_10 h (fun b2 h => ?_)
    refine lv_iload_n C.1 C.2.1 dX3_get_13 rfl (lv_at hl 1 rfl) ?_
    refine r_lI C hT hH dX3_get_14 h (fun v3 h => ?_)
    refine lv_iconst (v := (-1)) C.1 C.2.1 dX3_get_15 (by decide) ?_
    refine lv_icmp_ne (tgt := 24) C.1 C.2.1 dX3_get_16 (by decide) (fun hc => ?_) (fun hc => ?_)
    · have h := ifc_f hc h
      refine lv_aload_n C.1 C.2.1 dX3_get_24 rfl (lv_at hl 0 rfl) ?_
      refine r_gN C hT hH (t := 3) (k := 0) (T := TX3) rfl w3 (by decide) (by decide) rfl k9 dX3_get_25 h (fun b4 h => ?_)
      refine lv_iload_n C.1 C.2.1 dX3_get_28 rfl (lv_at hl 1 rfl) ?_
      refine r_lI C hT hH dX3_get_29 h (fun v5 h => ?_)
      exact r_iret C hT hH hS hr hlocks (by decide) (by decide) dX3_get_30 h
    · have h := ifc_t hc h
      refine lv_bipush (v := (-3)) C.1 C.2.1 dX3_get_19 (by decide) ?_
      refine lv_goto (tgt := 30) C.1 C.2.1 dX3_get_21 (by decide) ?_
      exact r_iret C hT hH hS hr hlocks (by decide) (by decide) dX3_get_30 h
  · have h := ifc_t hc h
    refine lv_iconst (v := (-1)) C.1 C.2.1 dX3_get_7 (by decide) ?_
    exact r_iret C hT hH hS hr hlocks (by decide) (by decide) dX3_get_8 h
abbrev rm_X3_next : Room := { frames := 1, cells := 0, slots := 0, locals := 20 }
set_option maxHeartbeats 4000000 in
set_option maxRecDepth 100000 in
theorem c_X3_next (l : Launch) (D : va_G) (cA : Nat → ClassId) (base : Nat) (a0 : Nat) (a1 : Int32) (mm : Mem) (z : (Int32) × Mem) (h : f_X3_next a0 a1 mm = some z) : Met l yX3_next wsX3_next rm_X3_next (va_Pc [.ref a0, .int a1] (mU D cA base mm)) (mQ eI D cA base z) 0 0 (mA base) := by
  refine Met.ofW (cc := cX3_next) (maxL := 3) (ret := (some .int)) (by decide) rfl ?_
  intro p e s m args below meth c s₁ B hml hv
  obtain ⟨rfl, hH, hT⟩ := hv
  have C : CallFix p m c cX3_next 3 s ([.ref a0, .int a1]).toArray wsX3_next RX3 := ⟨B.exec, B.bytes, hml, findClass_of_methodNamed B.named, atoms_spec (ws := wsX3_next) B.pre⟩
  have hr := B.returns
  have hlocks := B.notSynchronized
  have w3 : ∀ w ∈ u_ws RX3 TX3 11, w ∈ wsX3_next := by decide +kernel
  have k9 : Cond.fieldLink RX3 9 "SegmentMerges" "valueOf" "[I" ∈ wsX3_next := by decide +kernel
  have L11 : ∀ (n : Nat) (x0 : Nat) (x1 : Int32) (x2 : Int32) (mm : Mem) (H : Heap) (locs : List Loc) (ls : Array Slot), mH D cA base mm H → va_S (mA base) s.heap H locs → lv_has ls 3 [(0, .ref x0), (1, .int x1), (2, .int x2)] → f_X3_next_L11 n x0 x1 x2 mm = some z → W p l e rm_X3_next s m [.ref a0, .int a1].toArray below meth c H locs 0 0 (MQ below (mQ eI D cA base z) [.ref a0, .int a1].toArray s 0 0 (mA base)) (F0 m 11 ls []) := by
    intro n
    induction n with
    | zero =>
      intro x0 x1 x2 mm H locs ls hH hS hl h
      exact (fl_inv h).elim
    | succ n ih =>
      intro x0 x1 x2 mm H locs ls hH hS hl h
      unfold f_X3_next_L11 at h
      refine lv_iload_n C.1 C.2.1 dX3_next_11 rfl (lv_at hl 2 rfl) ?_
      refine lv_bipush (v := 100) C.1 C.2.1 dX3_next_12 (by decide) ?_
      refine lv_icmp_ge (tgt := 35) C.1 C.2.1 dX3_next_14 (by decide) (fun hc => ?_) (fun hc => ?_)
      · have h := ifc_t hc h
        refine lv_bipush (v := (-3)) C.1 C.2.1 dX3_next_35 (by decide) ?_
        exact r_iret C hT hH hS hr hlocks (by decide) (by decide) dX3_next_37 h
      · have h := ifc_f hc h
        refine lv_aload_n C.1 C.2.1 dX3_next_17 rfl (lv_at hl 0 rfl) ?_
        refine r_gN C hT hH (t := 3) (k := 0) (T := TX3) rfl w3 (by decide) (by decide) rfl k9 dX3_next_18 h (fun b2 h => ?_)
        refine lv_iload_n C.1 C.2.1 dX3_next_21 rfl (lv_at hl 2 rfl) ?_
        refine r_lI C hT hH dX3_next_22 h (fun v3 h => ?_)
        refine lv_iconst (v := (-1)) C.1 C.2.1 dX3_next_23 (by decide) ?_
        refine lv_icmp_eq (tgt := 29) C.1 C.2.1 dX3_next_24 (by decide) (fun hc => ?_) (fun hc => ?_)
        · have h := ifc_t hc h
          refine lv_iinc (v := (x2 + 1)) (lv' := [(2, .int (x2 + 1)), (0, .ref x0), (1, .int x1)]) C.1 C.2.1 dX3_next_29 hl (k := 2) rfl rfl (by decide) rfl (fun ls hl => ?_)
          refine lv_goto (tgt := 11) C.1 C.2.1 dX3_next_32 (by decide) ?_
          exact ih x0 x1 (x2 + 1) _ _ _ _ hH hS (lv_sub hl [1, 2, 0] rfl) h
        · have h := ifc_f hc h
          refine lv_iload_n C.1 C.2.1 dX3_next_27 rfl (lv_at hl 2 rfl) ?_
          exact r_iret C hT hH hS hr hlocks (by decide) (by decide) dX3_next_28 h
  have hS : va_S (mA base) s.heap s.heap [] := va_S.rf
  have hl := lv_entry ([.ref a0, .int a1]) (n := 3) (Nat.le_of_ble_eq_true rfl)
  rw [lg_entry_eq]
  generalize (lg_sl ([.ref a0, .int a1]) ++ List.replicate (3 - (lg_sl ([.ref a0, .int a1])).length) Slot.unset).toArray = ls at hl ⊢
  have hl : lv_has ls 3 [(0, .ref a0), (1, .int a1)] := hl
  unfold f_X3_next at h
  refine lv_iload_n C.1 C.2.1 dX3_next_0 rfl (lv_at hl 1 rfl) ?_
  refine r_callSI C hT hH hS (As := [.int a1]) (fun z1 hz => c_X3_isKey l D cA base a1 _ z1 hz) (va_cwS 1 C.2.2.2.2 gX3_next_X3_isKey rfl rfl rfl (by decide +kernel) ⟨Nat.le_of_ble_eq_true rfl, Nat.le_of_ble_eq_true rfl⟩) rfl hl.1 rfl (Nat.le_of_ble_eq_true rfl) dX3_next_1 ⟨by decide, by decide⟩ h (fun v1 mm H locs hH hS h => ?_)
  refine lv_if_ne (tgt := 9) C.1 C.2.1 dX3_next_4 (by decide) (fun hc => ?_) (fun hc => ?_)
  · have h := ifc_f hc h
    refine lv_iload_n C.1 C.2.1 dX3_next_9 rfl (lv_at hl 1 rfl) ?_
    refine lv_istore_n (lv' := [(2, .int a1), (0, .ref a0), (1, .int a1)]) C.1 C.2.1 dX3_next_10 rfl hl (by decide) rfl (fun ls hl => ?_)
    exact L11 2100 a0 a1 a1 _ _ _ _ hH hS (lv_sub hl [1, 2, 0] rfl) h
  · have h := ifc_t hc h
    refine lv_iconst (v := (-1)) C.1 C.2.1 dX3_next_7 (by decide) ?_
    exact r_iret C hT hH hS hr hlocks (by decide) (by decide) dX3_next_8 h
abbrev rm_X3_flush : Room := { frames := 3, cells := 5, slots := 408, locals := 58 }
set_option maxHeartbeats 4000000 in
set_option maxRecDepth 100000 in
theorem c_X3_flush (l : Launch) (D : va_G) (cA : Nat → ClassId) (base : Nat) (a0 : Nat) (mm : Mem) (z : (Int32) × Mem) (h : f_X3_flush a0 mm = some z) : Met l yX3_flush wsX3_flush rm_X3_flush (va_Pc [.ref a0] (mU D cA base mm)) (mQ eI D cA base z) 5 408 (mA base) := by
  refine Met.ofW (cc := cX3_flush) (maxL := 2) (ret := (some .int)) (by decide) rfl ?_
  intro p e s m args below meth c s₁ B hml hv
  obtain ⟨rfl, hH, hT⟩ := hv
  have C : CallFix p m c cX3_flush 2 s ([.ref a0]).toArray wsX3_flush RX3 := ⟨B.exec, B.bytes, hml, findClass_of_methodNamed B.named, atoms_spec (ws := wsX3_flush) B.pre⟩
  have hr := B.returns
  have hlocks := B.notSynchronized
  have w0 : ∀ w ∈ u_ws RX0 TX0 3, w ∈ wsX3_flush := by decide +kernel
  have w2 : ∀ w ∈ u_ws RX2 TX2 8, w ∈ wsX3_flush := by decide +kernel
  have w3 : ∀ w ∈ u_ws RX3 TX3 11, w ∈ wsX3_flush := by decide +kernel
  have k16 : Cond.fieldLink RX3 16 "SegmentMerges" "memory" "LSegmentMerges$Memory;" ∈ wsX3_flush := by decide +kernel
  have k22 : Cond.fieldLink RX3 22 "SegmentMerges" "segments" "[LSegmentMerges$Segment;" ∈ wsX3_flush := by decide +kernel
  have k26 : Cond.fieldLink RX3 26 "SegmentMerges" "segmentCount" "I" ∈ wsX3_flush := by decide +kernel
  have k30 : Cond.fieldLink RX3 30 "SegmentMerges" "nextNumber" "I" ∈ wsX3_flush := by decide +kernel
  have k33 : Cond.fieldLink RX3 33 "SegmentMerges" "writtenRows" "I" ∈ wsX3_flush := by decide +kernel
  have k69 : Cond.fieldLink RX3 69 "SegmentMerges$Memory" "size" "I" ∈ wsX3_flush := by decide +kernel
  have k90 : Cond.fieldLink RX3 90 "SegmentMerges$Segment" "size" "I" ∈ wsX3_flush := by decide +kernel
  have k91 : Cond.fieldLink RX3 91 "SegmentMerges$Segment" "number" "I" ∈ wsX3_flush := by decide +kernel
  have hS : va_S (mA base) s.heap s.heap [] := va_S.rf
  have hl := lv_entry ([.ref a0]) (n := 2) (Nat.le_of_ble_eq_true rfl)
  rw [lg_entry_eq]
  generalize (lg_sl ([.ref a0]) ++ List.replicate (2 - (lg_sl ([.ref a0])).length) Slot.unset).toArray = ls at hl ⊢
  have hl : lv_has ls 2 [(0, .ref a0)] := hl
  unfold f_X3_flush at h
  refine lv_aload_n C.1 C.2.1 dX3_flush_0 rfl (lv_at hl 0 rfl) ?_
  refine r_gN C hT hH (t := 3) (k := 1) (T := TX3) rfl w3 (by decide) (by decide) rfl k16 dX3_flush_1 h (fun b1 h => ?_)
  refine r_gI C hT hH (t := 0) (k := 2) (T := TX0) rfl w0 (by decide) (by decide) rfl k69 dX3_flush_4 h (fun v2 h => ?_)
  refine lv_if_ne (tgt := 13) C.1 C.2.1 dX3_flush_7 (by decide) (fun hc => ?_) (fun hc => ?_)
  · have h := ifc_f hc h
    refine lv_aload_n C.1 C.2.1 dX3_flush_13 rfl (lv_at hl 0 rfl) ?_
    refine r_gI C hT hH (t := 3) (k := 3) (T := TX3) rfl w3 (by decide) (by decide) rfl k26 dX3_flush_14 h (fun v3 h => ?_)
    refine lv_bipush (v := 20) C.1 C.2.1 dX3_flush_17 (by decide) ?_
    refine lv_icmp_ne (tgt := 25) C.1 C.2.1 dX3_flush_19 (by decide) (fun hc => ?_) (fun hc => ?_)
    · have h := ifc_f hc h
      refine lv_aload_n C.1 C.2.1 dX3_flush_25 rfl (lv_at hl 0 rfl) ?_
      refine r_gN C hT hH (t := 3) (k := 1) (T := TX3) rfl w3 (by decide) (by decide) rfl k16 dX3_flush_26 h (fun b4 h => ?_)
      refine lv_aload_n C.1 C.2.1 dX3_flush_29 rfl (lv_at hl 0 rfl) ?_
      refine r_gI C hT hH (t := 3) (k := 4) (T := TX3) rfl w3 (by decide) (by decide) rfl k30 dX3_flush_30 h (fun v5 h => ?_)
      refine r_callVN C hT hH hS (t := 0) (As := [.int v5]) (fun z1 hz => c_X0_asSegment l D cA base b4 v5 _ z1 hz) (cwV 1 C.2.2.2.2 gX3_flush_X0_asSegment rfl rfl rfl (by decide +kernel) ⟨Nat.le_of_ble_eq_true rfl, Nat.le_of_ble_eq_true rfl⟩) rfl (by decide) rfl hl.1 rfl (Nat.le_of_ble_eq_true rfl) dX3_flush_33 ⟨by decide, by decide⟩ h (fun b6 mm H locs hH hS h => ?_)
      refine lv_astore_n (lv' := [(1, .ref b6), (0, .ref a0)]) C.1 C.2.1 dX3_flush_36 rfl hl (by decide) rfl (fun ls hl => ?_)
      refine lv_aload_n C.1 C.2.1 dX3_flush_37 rfl (lv_at hl 1 rfl) ?_
      refine r_gN C hT hH (t := 3) (k := 2) (T := TX3) rfl w3 (by decide) (by decide) rfl k22 dX3_flush_38 h (fun b7 h => ?_)
      refine lv_aload_n C.1 C.2.1 dX3_flush_41 rfl (lv_at hl 1 rfl) ?_
      refine r_gI C hT hH (t := 3) (k := 3) (T := TX3) rfl w3 (by decide) (by decide) rfl k26 dX3_flush_42 h (fun v8 h => ?_)
      refine lv_aload_n C.1 C.2.1 dX3_flush_45 rfl (lv_at hl 0 rfl) ?_
      refine r_sR C hT hH hS dX3_flush_46 h (fun mm H locs hH hS h => ?_)
      refine lv_aload_n C.1 C.2.1 dX3_flush_47 rfl (lv_at hl 1 rfl) ?_
      refine lv_dup C.1 C.2.1 dX3_flush_48 rfl ?_
      refine r_gI C hT hH (t := 3) (k := 3) (T := TX3) rfl w3 (by decide) (by decide) rfl k26 dX3_flush_49 h (fun v9 h => ?_)
      refine lv_iconst (v := 1) C.1 C.2.1 dX3_flush_52 (by decide) ?_
      refine lv_iadd C.1 C.2.1 dX3_flush_53 ?_
      refine r_pI C hT hH hS (t := 3) (k := 3) (T := TX3) rfl w3 tyX3_ok nmX3 (by decide) (by decide) rfl rfl k26 (Or.inl rfl) dX3_flush_54 h (fun mm H locs hH hS h => ?_)
      refine lv_aload_n C.1 C.2.1 dX3_flush_57 rfl (lv_at hl 1 rfl) ?_
      refine lv_dup C.1 C.2.1 dX3_flush_58 rfl ?_
      refine r_gI C hT hH (t := 3) (k := 4) (T := TX3) rfl w3 (by decide) (by decide) rfl k30 dX3_flush_59 h (fun v10 h => ?_)
      refine lv_iconst (v := 1) C.1 C.2.1 dX3_flush_62 (by decide) ?_
      refine lv_iadd C.1 C.2.1 dX3_flush_63 ?_
      refine r_pI C hT hH hS (t := 3) (k := 4) (T := TX3) rfl w3 tyX3_ok nmX3 (by decide) (by decide) rfl rfl k30 (Or.inl rfl) dX3_flush_64 h (fun mm H locs hH hS h => ?_)
      refine lv_aload_n C.1 C.2.1 dX3_flush_67 rfl (lv_at hl 1 rfl) ?_
      refine lv_dup C.1 C.2.1 dX3_flush_68 rfl ?_
      refine r_gI C hT hH (t := 3) (k := 5) (T := TX3) rfl w3 (by decide) (by decide) rfl k33 dX3_flush_69 h (fun v11 h => ?_)
      refine lv_aload_n C.1 C.2.1 dX3_flush_72 rfl (lv_at hl 0 rfl) ?_
      refine r_gI C hT hH (t := 2) (k := 2) (T := TX2) rfl w2 (by decide) (by decide) rfl k90 dX3_flush_73 h (fun v12 h => ?_)
      refine lv_iadd C.1 C.2.1 dX3_flush_76 ?_
      refine r_pI C hT hH hS (t := 3) (k := 5) (T := TX3) rfl w3 tyX3_ok nmX3 (by decide) (by decide) rfl rfl k33 (Or.inl rfl) dX3_flush_77 h (fun mm H locs hH hS h => ?_)
      refine lv_aload_n C.1 C.2.1 dX3_flush_80 rfl (lv_at hl 1 rfl) ?_
      refine r_gN C hT hH (t := 3) (k := 1) (T := TX3) rfl w3 (by decide) (by decide) rfl k16 dX3_flush_81 h (fun b13 h => ?_)
      refine lv_iconst (v := 0) C.1 C.2.1 dX3_flush_84 (by decide) ?_
      refine r_pI C hT hH hS (t := 0) (k := 2) (T := TX0) rfl w0 tyX0_ok nmX0 (by decide) (by decide) rfl rfl k69 (Or.inl rfl) dX3_flush_85 h (fun mm H locs hH hS h => ?_)
      refine lv_aload_n C.1 C.2.1 dX3_flush_88 rfl (lv_at hl 0 rfl) ?_
      refine r_gI C hT hH (t := 2) (k := 0) (T := TX2) rfl w2 (by decide) (by decide) rfl k91 dX3_flush_89 h (fun v14 h => ?_)
      exact r_iret C hT hH hS hr hlocks (by decide) (by decide) dX3_flush_92 h
    · have h := ifc_t hc h
      refine lv_bipush (v := (-4)) C.1 C.2.1 dX3_flush_22 (by decide) ?_
      exact r_iret C hT hH hS hr hlocks (by decide) (by decide) dX3_flush_24 h
  · have h := ifc_t hc h
    refine lv_bipush (v := (-3)) C.1 C.2.1 dX3_flush_10 (by decide) ?_
    exact r_iret C hT hH hS hr hlocks (by decide) (by decide) dX3_flush_12 h
abbrev rm_X3_count : Room := { frames := 1, cells := 0, slots := 0, locals := 24 }
set_option maxHeartbeats 4000000 in
set_option maxRecDepth 100000 in
theorem c_X3_count (l : Launch) (D : va_G) (cA : Nat → ClassId) (base : Nat) (a0 : Nat) (a1 : Int32) (mm : Mem) (z : (Int32) × Mem) (h : f_X3_count a0 a1 mm = some z) : Met l yX3_count wsX3_count rm_X3_count (va_Pc [.ref a0, .int a1] (mU D cA base mm)) (mQ eI D cA base z) 0 0 (mA base) := by
  refine Met.ofW (cc := cX3_count) (maxL := 2) (ret := (some .int)) (by decide) rfl ?_
  intro p e s m args below meth c s₁ B hml hv
  obtain ⟨rfl, hH, hT⟩ := hv
  have C : CallFix p m c cX3_count 2 s ([.ref a0, .int a1]).toArray wsX3_count RX3 := ⟨B.exec, B.bytes, hml, findClass_of_methodNamed B.named, atoms_spec (ws := wsX3_count) B.pre⟩
  have hr := B.returns
  have hlocks := B.notSynchronized
  have w0 : ∀ w ∈ u_ws RX0 TX0 3, w ∈ wsX3_count := by decide +kernel
  have w3 : ∀ w ∈ u_ws RX3 TX3 11, w ∈ wsX3_count := by decide +kernel
  have k16 : Cond.fieldLink RX3 16 "SegmentMerges" "memory" "LSegmentMerges$Memory;" ∈ wsX3_count := by decide +kernel
  have k26 : Cond.fieldLink RX3 26 "SegmentMerges" "segmentCount" "I" ∈ wsX3_count := by decide +kernel
  have k33 : Cond.fieldLink RX3 33 "SegmentMerges" "writtenRows" "I" ∈ wsX3_count := by decide +kernel
  have k69 : Cond.fieldLink RX3 69 "SegmentMerges$Memory" "size" "I" ∈ wsX3_count := by decide +kernel
  have hS : va_S (mA base) s.heap s.heap [] := va_S.rf
  have hl := lv_entry ([.ref a0, .int a1]) (n := 2) (Nat.le_of_ble_eq_true rfl)
  rw [lg_entry_eq]
  generalize (lg_sl ([.ref a0, .int a1]) ++ List.replicate (2 - (lg_sl ([.ref a0, .int a1])).length) Slot.unset).toArray = ls at hl ⊢
  have hl : lv_has ls 2 [(0, .ref a0), (1, .int a1)] := hl
  unfold f_X3_count at h
  refine lv_iload_n C.1 C.2.1 dX3_count_0 rfl (lv_at hl 1 rfl) ?_
  by_cases n0 : a1 = 0
  · have h := ifc_t n0 h
    refine lv_tableIn (tgt := 40) C.1 C.2.1 dX3_count_1 (by rw [n0]; decide) (by rw [n0]; decide) (by rw [n0]; rfl) (by decide) ?_
    refine lv_aload_n C.1 C.2.1 dX3_count_40 rfl (lv_at hl 0 rfl) ?_
    refine r_gN C hT hH (t := 3) (k := 1) (T := TX3) rfl w3 (by decide) (by decide) rfl k16 dX3_count_41 h (fun b1 h => ?_)
    refine r_gI C hT hH (t := 0) (k := 2) (T := TX0) rfl w0 (by decide) (by decide) rfl k69 dX3_count_44 h (fun v2 h => ?_)
    exact r_iret C hT hH hS hr hlocks (by decide) (by decide) dX3_count_47 h
  · have h := ifc_f n0 h
    by_cases n1 : a1 = 1
    · have h := ifc_t n1 h
      refine lv_tableIn (tgt := 48) C.1 C.2.1 dX3_count_1 (by rw [n1]; decide) (by rw [n1]; decide) (by rw [n1]; rfl) (by decide) ?_
      refine lv_aload_n C.1 C.2.1 dX3_count_48 rfl (lv_at hl 0 rfl) ?_
      refine r_gI C hT hH (t := 3) (k := 3) (T := TX3) rfl w3 (by decide) (by decide) rfl k26 dX3_count_49 h (fun v3 h => ?_)
      exact r_iret C hT hH hS hr hlocks (by decide) (by decide) dX3_count_52 h
    · have h := ifc_f n1 h
      by_cases n2 : a1 = 2
      · have h := ifc_t n2 h
        refine lv_tableIn (tgt := 53) C.1 C.2.1 dX3_count_1 (by rw [n2]; decide) (by rw [n2]; decide) (by rw [n2]; rfl) (by decide) ?_
        refine lv_aload_n C.1 C.2.1 dX3_count_53 rfl (lv_at hl 0 rfl) ?_
        refine r_callVI C hT hH hS (t := 3) (As := []) (fun z1 hz => c_X3_rowsInSegments l D cA base a0 _ z1 hz) (cwV 0 C.2.2.2.2 gX3_count_X3_rowsInSegments rfl rfl rfl (by decide +kernel) ⟨Nat.le_of_ble_eq_true rfl, Nat.le_of_ble_eq_true rfl⟩) rfl (by decide) rfl hl.1 rfl (Nat.le_of_ble_eq_true rfl) dX3_count_54 ⟨by decide, by decide⟩ h (fun v4 mm H locs hH hS h => ?_)
        exact r_iret C hT hH hS hr hlocks (by decide) (by decide) dX3_count_57 h
      · have h := ifc_f n2 h
        by_cases n3 : a1 = 3
        · have h := ifc_t n3 h
          refine lv_tableIn (tgt := 58) C.1 C.2.1 dX3_count_1 (by rw [n3]; decide) (by rw [n3]; decide) (by rw [n3]; rfl) (by decide) ?_
          refine lv_aload_n C.1 C.2.1 dX3_count_58 rfl (lv_at hl 0 rfl) ?_
          refine lv_iconst (v := 0) C.1 C.2.1 dX3_count_59 (by decide) ?_
          refine lv_aload_n C.1 C.2.1 dX3_count_60 rfl (lv_at hl 0 rfl) ?_
          refine r_gI C hT hH (t := 3) (k := 3) (T := TX3) rfl w3 (by decide) (by decide) rfl k26 dX3_count_61 h (fun v5 h => ?_)
          refine r_callVI C hT hH hS (t := 3) (As := [.int 0, .int v5]) (fun z1 hz => c_X3_livingFrom l D cA base a0 0 v5 _ z1 hz) (cwV 2 C.2.2.2.2 gX3_count_X3_livingFrom rfl rfl rfl (by decide +kernel) ⟨Nat.le_of_ble_eq_true rfl, Nat.le_of_ble_eq_true rfl⟩) rfl (by decide) rfl hl.1 rfl (Nat.le_of_ble_eq_true rfl) dX3_count_64 ⟨by decide, by decide⟩ h (fun v6 mm H locs hH hS h => ?_)
          exact r_iret C hT hH hS hr hlocks (by decide) (by decide) dX3_count_67 h
        · have h := ifc_f n3 h
          by_cases n4 : a1 = 4
          · have h := ifc_t n4 h
            refine lv_tableIn (tgt := 68) C.1 C.2.1 dX3_count_1 (by rw [n4]; decide) (by rw [n4]; decide) (by rw [n4]; rfl) (by decide) ?_
            refine lv_aload_n C.1 C.2.1 dX3_count_68 rfl (lv_at hl 0 rfl) ?_
            refine r_gI C hT hH (t := 3) (k := 5) (T := TX3) rfl w3 (by decide) (by decide) rfl k33 dX3_count_69 h (fun v7 h => ?_)
            exact r_iret C hT hH hS hr hlocks (by decide) (by decide) dX3_count_72 h
          · have h := ifc_f n4 h
            by_cases n5 : a1 = 5
            · have h := ifc_t n5 h
              refine lv_tableIn (tgt := 73) C.1 C.2.1 dX3_count_1 (by rw [n5]; decide) (by rw [n5]; decide) (by rw [n5]; rfl) (by decide) ?_
              refine lv_aload_n C.1 C.2.1 dX3_count_73 rfl (lv_at hl 0 rfl) ?_
              refine r_gN C hT hH (t := 3) (k := 1) (T := TX3) rfl w3 (by decide) (by decide) rfl k16 dX3_count_74 h (fun b8 h => ?_)
              refine r_gI C hT hH (t := 0) (k := 2) (T := TX0) rfl w0 (by decide) (by decide) rfl k69 dX3_count_77 h (fun v9 h => ?_)
              refine lv_aload_n C.1 C.2.1 dX3_count_80 rfl (lv_at hl 0 rfl) ?_
              refine lv_iconst (v := 0) C.1 C.2.1 dX3_count_81 (by decide) ?_
              refine lv_aload_n C.1 C.2.1 dX3_count_82 rfl (lv_at hl 0 rfl) ?_
              refine r_gI C hT hH (t := 3) (k := 3) (T := TX3) rfl w3 (by decide) (by decide) rfl k26 dX3_count_83 h (fun v10 h => ?_)
              refine r_callVI C hT hH hS (t := 3) (As := [.int 0, .int v10]) (fun z1 hz => c_X3_livingFrom l D cA base a0 0 v10 _ z1 hz) (cwV 2 C.2.2.2.2 gX3_count_X3_livingFrom rfl rfl rfl (by decide +kernel) ⟨Nat.le_of_ble_eq_true rfl, Nat.le_of_ble_eq_true rfl⟩) rfl (by decide) rfl hl.1 rfl (Nat.le_of_ble_eq_true rfl) dX3_count_86 ⟨by decide, by decide⟩ h (fun v11 mm H locs hH hS h => ?_)
              refine lv_iadd C.1 C.2.1 dX3_count_89 ?_
              exact r_iret C hT hH hS hr hlocks (by decide) (by decide) dX3_count_90 h
            · have h := ifc_f n5 h
              have g0 := lv_neT n0 (a := 0) rfl
              have g1 := lv_neT n1 (a := 1) rfl
              have g2 := lv_neT n2 (a := 2) rfl
              have g3 := lv_neT n3 (a := 3) rfl
              have g4 := lv_neT n4 (a := 4) rfl
              have g5 := lv_neT n5 (a := 5) rfl
              refine lv_tableOut (tgt := 91) C.1 C.2.1 dX3_count_1 (by omega) (by decide) ?_
              refine lv_bipush (v := (-2)) C.1 C.2.1 dX3_count_91 (by decide) ?_
              exact r_iret C hT hH hS hr hlocks (by decide) (by decide) dX3_count_93 h
abbrev rm_X3_segment : Room := { frames := 1, cells := 0, slots := 0, locals := 21 }
set_option maxHeartbeats 4000000 in
set_option maxRecDepth 100000 in
theorem c_X3_segment (l : Launch) (D : va_G) (cA : Nat → ClassId) (base : Nat) (a0 : Nat) (a1 : Int32) (a2 : Int32) (mm : Mem) (z : (Int32) × Mem) (h : f_X3_segment a0 a1 a2 mm = some z) : Met l yX3_segment wsX3_segment rm_X3_segment (va_Pc [.ref a0, .int a1, .int a2] (mU D cA base mm)) (mQ eI D cA base z) 0 0 (mA base) := by
  refine Met.ofW (cc := cX3_segment) (maxL := 4) (ret := (some .int)) (by decide) rfl ?_
  intro p e s m args below meth c s₁ B hml hv
  obtain ⟨rfl, hH, hT⟩ := hv
  have C : CallFix p m c cX3_segment 4 s ([.ref a0, .int a1, .int a2]).toArray wsX3_segment RX3 := ⟨B.exec, B.bytes, hml, findClass_of_methodNamed B.named, atoms_spec (ws := wsX3_segment) B.pre⟩
  have hr := B.returns
  have hlocks := B.notSynchronized
  have w2 : ∀ w ∈ u_ws RX2 TX2 8, w ∈ wsX3_segment := by decide +kernel
  have w3 : ∀ w ∈ u_ws RX3 TX3 11, w ∈ wsX3_segment := by decide +kernel
  have k22 : Cond.fieldLink RX3 22 "SegmentMerges" "segments" "[LSegmentMerges$Segment;" ∈ wsX3_segment := by decide +kernel
  have k39 : Cond.fieldLink RX3 39 "SegmentMerges" "current" "LSegmentMerges$Merge;" ∈ wsX3_segment := by decide +kernel
  have k90 : Cond.fieldLink RX3 90 "SegmentMerges$Segment" "size" "I" ∈ wsX3_segment := by decide +kernel
  have k91 : Cond.fieldLink RX3 91 "SegmentMerges$Segment" "number" "I" ∈ wsX3_segment := by decide +kernel
  have k105 : Cond.fieldLink RX3 105 "SegmentMerges$Segment" "tier" "I" ∈ wsX3_segment := by decide +kernel
  have k108 : Cond.fieldLink RX3 108 "SegmentMerges$Segment" "living" "I" ∈ wsX3_segment := by decide +kernel
  have hS : va_S (mA base) s.heap s.heap [] := va_S.rf
  have hl := lv_entry ([.ref a0, .int a1, .int a2]) (n := 4) (Nat.le_of_ble_eq_true rfl)
  rw [lg_entry_eq]
  generalize (lg_sl ([.ref a0, .int a1, .int a2]) ++ List.replicate (4 - (lg_sl ([.ref a0, .int a1, .int a2])).length) Slot.unset).toArray = ls at hl ⊢
  have hl : lv_has ls 4 [(0, .ref a0), (1, .int a1), (2, .int a2)] := hl
  unfold f_X3_segment at h
  refine lv_aload_n C.1 C.2.1 dX3_segment_0 rfl (lv_at hl 0 rfl) ?_
  refine lv_iload_n C.1 C.2.1 dX3_segment_1 rfl (lv_at hl 1 rfl) ?_
  refine r_callVI C hT hH hS (t := 3) (As := [.int a1]) (fun z1 hz => c_X3_isPlace l D cA base a0 a1 _ z1 hz) (cwV 1 C.2.2.2.2 gX3_segment_X3_isPlace rfl rfl rfl (by decide +kernel) ⟨Nat.le_of_ble_eq_true rfl, Nat.le_of_ble_eq_true rfl⟩) rfl (by decide) rfl hl.1 rfl (Nat.le_of_ble_eq_true rfl) dX3_segment_2 ⟨by decide, by decide⟩ h (fun v1 mm H locs hH hS h => ?_)
  refine lv_if_ne (tgt := 10) C.1 C.2.1 dX3_segment_5 (by decide) (fun hc => ?_) (fun hc => ?_)
  · have h := ifc_f hc h
    refine lv_aload_n C.1 C.2.1 dX3_segment_10 rfl (lv_at hl 0 rfl) ?_
    refine r_gN C hT hH (t := 3) (k := 2) (T := TX3) rfl w3 (by decide) (by decide) rfl k22 dX3_segment_11 h (fun b2 h => ?_)
    refine lv_iload_n C.1 C.2.1 dX3_segment_14 rfl (lv_at hl 1 rfl) ?_
    refine r_lR C hT hH (t := 7) (by decide) dX3_segment_15 h (fun b3 h => ?_)
    refine lv_astore_n (lv' := [(3, .ref b3), (0, .ref a0), (1, .int a1), (2, .int a2)]) C.1 C.2.1 dX3_segment_16 rfl hl (by decide) rfl (fun ls hl => ?_)
    refine lv_iload_n C.1 C.2.1 dX3_segment_17 rfl (lv_at hl 3 rfl) ?_
    by_cases n0 : a2 = 0
    · have h := ifc_t n0 h
      refine lv_tableIn (tgt := 52) C.1 C.2.1 dX3_segment_18 (by rw [n0]; decide) (by rw [n0]; decide) (by rw [n0]; rfl) (by decide) ?_
      refine lv_aload_n C.1 C.2.1 dX3_segment_52 rfl (lv_at hl 0 rfl) ?_
      refine r_gI C hT hH (t := 2) (k := 0) (T := TX2) rfl w2 (by decide) (by decide) rfl k91 dX3_segment_53 h (fun v4 h => ?_)
      exact r_iret C hT hH hS hr hlocks (by decide) (by decide) dX3_segment_56 h
    · have h := ifc_f n0 h
      by_cases n1 : a2 = 1
      · have h := ifc_t n1 h
        refine lv_tableIn (tgt := 57) C.1 C.2.1 dX3_segment_18 (by rw [n1]; decide) (by rw [n1]; decide) (by rw [n1]; rfl) (by decide) ?_
        refine lv_aload_n C.1 C.2.1 dX3_segment_57 rfl (lv_at hl 0 rfl) ?_
        refine r_gI C hT hH (t := 2) (k := 1) (T := TX2) rfl w2 (by decide) (by decide) rfl k105 dX3_segment_58 h (fun v5 h => ?_)
        exact r_iret C hT hH hS hr hlocks (by decide) (by decide) dX3_segment_61 h
      · have h := ifc_f n1 h
        by_cases n2 : a2 = 2
        · have h := ifc_t n2 h
          refine lv_tableIn (tgt := 62) C.1 C.2.1 dX3_segment_18 (by rw [n2]; decide) (by rw [n2]; decide) (by rw [n2]; rfl) (by decide) ?_
          refine lv_aload_n C.1 C.2.1 dX3_segment_62 rfl (lv_at hl 0 rfl) ?_
          refine r_gI C hT hH (t := 2) (k := 2) (T := TX2) rfl w2 (by decide) (by decide) rfl k90 dX3_segment_63 h (fun v6 h => ?_)
          exact r_iret C hT hH hS hr hlocks (by decide) (by decide) dX3_segment_66 h
        · have h := ifc_f n2 h
          by_cases n3 : a2 = 3
          · have h := ifc_t n3 h
            refine lv_tableIn (tgt := 67) C.1 C.2.1 dX3_segment_18 (by rw [n3]; decide) (by rw [n3]; decide) (by rw [n3]; rfl) (by decide) ?_
            refine lv_aload_n C.1 C.2.1 dX3_segment_67 rfl (lv_at hl 0 rfl) ?_
            refine r_gI C hT hH (t := 2) (k := 7) (T := TX2) rfl w2 (by decide) (by decide) rfl k108 dX3_segment_68 h (fun v7 h => ?_)
            exact r_iret C hT hH hS hr hlocks (by decide) (by decide) dX3_segment_71 h
          · have h := ifc_f n3 h
            by_cases n4 : a2 = 4
            · have h := ifc_t n4 h
              refine lv_tableIn (tgt := 72) C.1 C.2.1 dX3_segment_18 (by rw [n4]; decide) (by rw [n4]; decide) (by rw [n4]; rfl) (by decide) ?_
              refine lv_aload_n C.1 C.2.1 dX3_segment_72 rfl (lv_at hl 1 rfl) ?_
              refine r_gR C hT hH (t := 3) (k := 7) (T := TX3) rfl w3 (by decide) (by decide) rfl k39 dX3_segment_73 h (fun r8 h => ?_)
              rcases r8 with _ | b9
              · have h := ifn_n h
                refine lv_ifnullN (tgt := 94) C.1 C.2.1 dX3_segment_76 (by decide) ?_
                refine lv_iconst (v := 0) C.1 C.2.1 dX3_segment_94 (by decide) ?_
                exact r_iret C hT hH hS hr hlocks (by decide) (by decide) dX3_segment_95 h
              · have h := ifn_s h
                refine lv_ifnull C.1 C.2.1 dX3_segment_76  ?_
                refine lv_aload_n C.1 C.2.1 dX3_segment_79 rfl (lv_at hl 1 rfl) ?_
                refine r_gR C hT hH (t := 3) (k := 7) (T := TX3) rfl w3 (by decide) (by decide) rfl k39 dX3_segment_80 h (fun r10 h => ?_)
                rcases r10 with _ | b11
                · have h := ifn_n h
                  refine lv_iload_n C.1 C.2.1 dX3_segment_83 rfl (lv_at hl 2 rfl) ?_
                  exact (fl_inv h).elim
                · have h := ifn_s h
                  refine lv_iload_n C.1 C.2.1 dX3_segment_83 rfl (lv_at hl 2 rfl) ?_
                  refine r_callVI C hT hH hS (t := 1) (As := [.int a1]) (fun z1 hz => c_X1_isOf l D cA base b11 a1 _ z1 hz) (cwV 1 C.2.2.2.2 gX3_segment_X1_isOf rfl rfl rfl (by decide +kernel) ⟨Nat.le_of_ble_eq_true rfl, Nat.le_of_ble_eq_true rfl⟩) rfl (by decide) rfl hl.1 rfl (Nat.le_of_ble_eq_true rfl) dX3_segment_84 ⟨by decide, by decide⟩ h (fun v12 mm H locs hH hS h => ?_)
                  refine lv_if_eq (tgt := 94) C.1 C.2.1 dX3_segment_87 (by decide) (fun hc => ?_) (fun hc => ?_)
                  · have h := ifc_t hc h
                    refine lv_iconst (v := 0) C.1 C.2.1 dX3_segment_94 (by decide) ?_
                    exact r_iret C hT hH hS hr hlocks (by decide) (by decide) dX3_segment_95 h
                  · have h := ifc_f hc h
                    refine lv_iconst (v := 1) C.1 C.2.1 dX3_segment_90 (by decide) ?_
                    refine lv_goto (tgt := 95) C.1 C.2.1 dX3_segment_91 (by decide) ?_
                    exact r_iret C hT hH hS hr hlocks (by decide) (by decide) dX3_segment_95 h
            · have h := ifc_f n4 h
              have g0 := lv_neT n0 (a := 0) rfl
              have g1 := lv_neT n1 (a := 1) rfl
              have g2 := lv_neT n2 (a := 2) rfl
              have g3 := lv_neT n3 (a := 3) rfl
              have g4 := lv_neT n4 (a := 4) rfl
              refine lv_tableOut (tgt := 96) C.1 C.2.1 dX3_segment_18 (by omega) (by decide) ?_
              refine lv_bipush (v := (-2)) C.1 C.2.1 dX3_segment_96 (by decide) ?_
              exact r_iret C hT hH hS hr hlocks (by decide) (by decide) dX3_segment_98 h
  · have h := ifc_t hc h
    refine lv_iconst (v := (-1)) C.1 C.2.1 dX3_segment_8 (by decide) ?_
    exact r_iret C hT hH hS hr hlocks (by decide) (by decide) dX3_segment_9 h
abbrev rm_X3_row : Room := { frames := 1, cells := 0, slots := 0, locals := 21 }
set_option maxHeartbeats 4000000 in
set_option maxRecDepth 100000 in
theorem c_X3_row (l : Launch) (D : va_G) (cA : Nat → ClassId) (base : Nat) (a0 : Nat) (a1 : Int32) (a2 : Int32) (a3 : Int32) (mm : Mem) (z : (Int32) × Mem) (h : f_X3_row a0 a1 a2 a3 mm = some z) : Met l yX3_row wsX3_row rm_X3_row (va_Pc [.ref a0, .int a1, .int a2, .int a3] (mU D cA base mm)) (mQ eI D cA base z) 0 0 (mA base) := by
  refine Met.ofW (cc := cX3_row) (maxL := 5) (ret := (some .int)) (by decide) rfl ?_
  intro p e s m args below meth c s₁ B hml hv
  obtain ⟨rfl, hH, hT⟩ := hv
  have C : CallFix p m c cX3_row 5 s ([.ref a0, .int a1, .int a2, .int a3]).toArray wsX3_row RX3 := ⟨B.exec, B.bytes, hml, findClass_of_methodNamed B.named, atoms_spec (ws := wsX3_row) B.pre⟩
  have hr := B.returns
  have hlocks := B.notSynchronized
  have w2 : ∀ w ∈ u_ws RX2 TX2 8, w ∈ wsX3_row := by decide +kernel
  have w3 : ∀ w ∈ u_ws RX3 TX3 11, w ∈ wsX3_row := by decide +kernel
  have k22 : Cond.fieldLink RX3 22 "SegmentMerges" "segments" "[LSegmentMerges$Segment;" ∈ wsX3_row := by decide +kernel
  have k119 : Cond.fieldLink RX3 119 "SegmentMerges$Segment" "keys" "[I" ∈ wsX3_row := by decide +kernel
  have k122 : Cond.fieldLink RX3 122 "SegmentMerges$Segment" "values" "[I" ∈ wsX3_row := by decide +kernel
  have k123 : Cond.fieldLink RX3 123 "SegmentMerges$Segment" "lives" "[Z" ∈ wsX3_row := by decide +kernel
  have hS : va_S (mA base) s.heap s.heap [] := va_S.rf
  have hl := lv_entry ([.ref a0, .int a1, .int a2, .int a3]) (n := 5) (Nat.le_of_ble_eq_true rfl)
  rw [lg_entry_eq]
  generalize (lg_sl ([.ref a0, .int a1, .int a2, .int a3]) ++ List.replicate (5 - (lg_sl ([.ref a0, .int a1, .int a2, .int a3])).length) Slot.unset).toArray = ls at hl ⊢
  have hl : lv_has ls 5 [(0, .ref a0), (1, .int a1), (2, .int a2), (3, .int a3)] := hl
  unfold f_X3_row at h
  refine lv_aload_n C.1 C.2.1 dX3_row_0 rfl (lv_at hl 0 rfl) ?_
  refine lv_iload_n C.1 C.2.1 dX3_row_1 rfl (lv_at hl 1 rfl) ?_
  refine r_callVI C hT hH hS (t := 3) (As := [.int a1]) (fun z1 hz => c_X3_isPlace l D cA base a0 a1 _ z1 hz) (cwV 1 C.2.2.2.2 gX3_row_X3_isPlace rfl rfl rfl (by decide +kernel) ⟨Nat.le_of_ble_eq_true rfl, Nat.le_of_ble_eq_true rfl⟩) rfl (by decide) rfl hl.1 rfl (Nat.le_of_ble_eq_true rfl) dX3_row_2 ⟨by decide, by decide⟩ h (fun v1 mm H locs hH hS h => ?_)
  refine lv_if_eq (tgt := 21) C.1 C.2.1 dX3_row_5 (by decide) (fun hc => ?_) (fun hc => ?_)
  · have h := ifc_t hc h
    refine lv_iconst (v := (-1)) C.1 C.2.1 dX3_row_21 (by decide) ?_
    exact r_iret C hT hH hS hr hlocks (by decide) (by decide) dX3_row_22 h
  · have h := ifc_f hc h
    refine lv_aload_n C.1 C.2.1 dX3_row_8 rfl (lv_at hl 0 rfl) ?_
    refine r_gN C hT hH (t := 3) (k := 2) (T := TX3) rfl w3 (by decide) (by decide) rfl k22 dX3_row_9 h (fun b2 h => ?_)
    refine lv_iload_n C.1 C.2.1 dX3_row_12 rfl (lv_at hl 1 rfl) ?_
    refine r_lR C hT hH (t := 7) (by decide) dX3_row_13 h (fun b3 h => ?_)
    refine lv_iload_n C.1 C.2.1 dX3_row_14 rfl (lv_at hl 2 rfl) ?_
    refine r_callVI C hT hH hS (t := 2) (As := [.int a2]) (fun z1 hz => c_X2_hasRow l D cA base b3 a2 _ z1 hz) (cwV 1 C.2.2.2.2 gX3_row_X2_hasRow rfl rfl rfl (by decide +kernel) ⟨Nat.le_of_ble_eq_true rfl, Nat.le_of_ble_eq_true rfl⟩) rfl (by decide) rfl hl.1 rfl (Nat.le_of_ble_eq_true rfl) dX3_row_15 ⟨by decide, by decide⟩ h (fun v4 mm H locs hH hS h => ?_)
    refine lv_if_ne (tgt := 23) C.1 C.2.1 dX3_row_18 (by decide) (fun hc => ?_) (fun hc => ?_)
    · have h := ifc_f hc h
      refine lv_aload_n C.1 C.2.1 dX3_row_23 rfl (lv_at hl 0 rfl) ?_
      refine r_gN C hT hH (t := 3) (k := 2) (T := TX3) rfl w3 (by decide) (by decide) rfl k22 dX3_row_24 h (fun b5 h => ?_)
      refine lv_iload_n C.1 C.2.1 dX3_row_27 rfl (lv_at hl 1 rfl) ?_
      refine r_lR C hT hH (t := 7) (by decide) dX3_row_28 h (fun b6 h => ?_)
      refine lv_astore (lv' := [(4, .ref b6), (0, .ref a0), (1, .int a1), (2, .int a2), (3, .int a3)]) C.1 C.2.1 dX3_row_29 hl (by decide) rfl (fun ls hl => ?_)
      refine lv_iload_n C.1 C.2.1 dX3_row_31 rfl (lv_at hl 4 rfl) ?_
      by_cases n0 : a3 = 0
      · have h := ifc_t n0 h
        refine lv_tableIn (tgt := 60) C.1 C.2.1 dX3_row_32 (by rw [n0]; decide) (by rw [n0]; decide) (by rw [n0]; rfl) (by decide) ?_
        refine lv_aload C.1 C.2.1 dX3_row_60 (lv_at hl 0 rfl) ?_
        refine r_gN C hT hH (t := 2) (k := 3) (T := TX2) rfl w2 (by decide) (by decide) rfl k119 dX3_row_62 h (fun b7 h => ?_)
        refine lv_iload_n C.1 C.2.1 dX3_row_65 rfl (lv_at hl 3 rfl) ?_
        refine r_lI C hT hH dX3_row_66 h (fun v8 h => ?_)
        exact r_iret C hT hH hS hr hlocks (by decide) (by decide) dX3_row_67 h
      · have h := ifc_f n0 h
        by_cases n1 : a3 = 1
        · have h := ifc_t n1 h
          refine lv_tableIn (tgt := 68) C.1 C.2.1 dX3_row_32 (by rw [n1]; decide) (by rw [n1]; decide) (by rw [n1]; rfl) (by decide) ?_
          refine lv_aload C.1 C.2.1 dX3_row_68 (lv_at hl 0 rfl) ?_
          refine r_gN C hT hH (t := 2) (k := 4) (T := TX2) rfl w2 (by decide) (by decide) rfl k122 dX3_row_70 h (fun b9 h => ?_)
          refine lv_iload_n C.1 C.2.1 dX3_row_73 rfl (lv_at hl 3 rfl) ?_
          refine r_lI C hT hH dX3_row_74 h (fun v10 h => ?_)
          exact r_iret C hT hH hS hr hlocks (by decide) (by decide) dX3_row_75 h
        · have h := ifc_f n1 h
          by_cases n2 : a3 = 2
          · have h := ifc_t n2 h
            refine lv_tableIn (tgt := 76) C.1 C.2.1 dX3_row_32 (by rw [n2]; decide) (by rw [n2]; decide) (by rw [n2]; rfl) (by decide) ?_
            refine lv_aload C.1 C.2.1 dX3_row_76 (lv_at hl 0 rfl) ?_
            refine r_gN C hT hH (t := 2) (k := 5) (T := TX2) rfl w2 (by decide) (by decide) rfl k123 dX3_row_78 h (fun b11 h => ?_)
            refine lv_iload_n C.1 C.2.1 dX3_row_81 rfl (lv_at hl 3 rfl) ?_
            refine r_lZ C hT hH dX3_row_82 h (fun v12 h => ?_)
            refine lv_if_eq (tgt := 90) C.1 C.2.1 dX3_row_83 (by decide) (fun hc => ?_) (fun hc => ?_)
            · have h := ifc_t hc h
              refine lv_iconst (v := 0) C.1 C.2.1 dX3_row_90 (by decide) ?_
              exact r_iret C hT hH hS hr hlocks (by decide) (by decide) dX3_row_91 h
            · have h := ifc_f hc h
              refine lv_iconst (v := 1) C.1 C.2.1 dX3_row_86 (by decide) ?_
              refine lv_goto (tgt := 91) C.1 C.2.1 dX3_row_87 (by decide) ?_
              exact r_iret C hT hH hS hr hlocks (by decide) (by decide) dX3_row_91 h
          · have h := ifc_f n2 h
            have g0 := lv_neT n0 (a := 0) rfl
            have g1 := lv_neT n1 (a := 1) rfl
            have g2 := lv_neT n2 (a := 2) rfl
            refine lv_tableOut (tgt := 92) C.1 C.2.1 dX3_row_32 (by omega) (by decide) ?_
            refine lv_bipush (v := (-2)) C.1 C.2.1 dX3_row_92 (by decide) ?_
            exact r_iret C hT hH hS hr hlocks (by decide) (by decide) dX3_row_94 h
    · have h := ifc_t hc h
      refine lv_iconst (v := (-1)) C.1 C.2.1 dX3_row_21 (by decide) ?_
      exact r_iret C hT hH hS hr hlocks (by decide) (by decide) dX3_row_22 h
abbrev rm_X3_full : Room := { frames := 0, cells := 0, slots := 0, locals := 0 }
set_option maxHeartbeats 4000000 in
set_option maxRecDepth 100000 in
theorem c_X3_full (l : Launch) (D : va_G) (cA : Nat → ClassId) (base : Nat) (a0 : Nat) (a1 : Int32) (mm : Mem) (z : (Int32) × Mem) (h : f_X3_full a0 a1 mm = some z) : Met l yX3_full wsX3_full rm_X3_full (va_Pc [.ref a0, .int a1] (mU D cA base mm)) (mQ eI D cA base z) 0 0 (mA base) := by
  refine Met.ofW (cc := cX3_full) (maxL := 3) (ret := (some .int)) (by decide) rfl ?_
  intro p e s m args below meth c s₁ B hml hv
  obtain ⟨rfl, hH, hT⟩ := hv
  have C : CallFix p m c cX3_full 3 s ([.ref a0, .int a1]).toArray wsX3_full RX3 := ⟨B.exec, B.bytes, hml, findClass_of_methodNamed B.named, atoms_spec (ws := wsX3_full) B.pre⟩
  have hr := B.returns
  have hlocks := B.notSynchronized
  have w3 : ∀ w ∈ u_ws RX3 TX3 11, w ∈ wsX3_full := by decide +kernel
  have k36 : Cond.fieldLink RX3 36 "SegmentMerges" "fullSize" "I" ∈ wsX3_full := by decide +kernel
  have hS : va_S (mA base) s.heap s.heap [] := va_S.rf
  have hl := lv_entry ([.ref a0, .int a1]) (n := 3) (Nat.le_of_ble_eq_true rfl)
  rw [lg_entry_eq]
  generalize (lg_sl ([.ref a0, .int a1]) ++ List.replicate (3 - (lg_sl ([.ref a0, .int a1])).length) Slot.unset).toArray = ls at hl ⊢
  have hl : lv_has ls 3 [(0, .ref a0), (1, .int a1)] := hl
  unfold f_X3_full at h
  refine lv_iload_n C.1 C.2.1 dX3_full_0 rfl (lv_at hl 1 rfl) ?_
  refine lv_iconst (v := 2) C.1 C.2.1 dX3_full_1 (by decide) ?_
  refine lv_icmp_lt (tgt := 10) C.1 C.2.1 dX3_full_2 (by decide) (fun hc => ?_) (fun hc => ?_)
  · have h := ifc_t hc h
    refine lv_bipush (v := (-2)) C.1 C.2.1 dX3_full_10 (by decide) ?_
    exact r_iret C hT hH hS hr hlocks (by decide) (by decide) dX3_full_12 h
  · have h := ifc_f hc h
    refine lv_iload_n C.1 C.2.1 dX3_full_5 rfl (lv_at hl 1 rfl) ?_
    refine lv_iconst (v := 5) C.1 C.2.1 dX3_full_6 (by decide) ?_
    refine lv_icmp_le (tgt := 13) C.1 C.2.1 dX3_full_7 (by decide) (fun hc => ?_) (fun hc => ?_)
    · have h := ifc_t hc h
      refine lv_aload_n C.1 C.2.1 dX3_full_13 rfl (lv_at hl 0 rfl) ?_
      refine r_gI C hT hH (t := 3) (k := 6) (T := TX3) rfl w3 (by decide) (by decide) rfl k36 dX3_full_14 h (fun v1 h => ?_)
      refine lv_istore_n (lv' := [(2, .int v1), (0, .ref a0), (1, .int a1)]) C.1 C.2.1 dX3_full_17 rfl hl (by decide) rfl (fun ls hl => ?_)
      refine lv_aload_n C.1 C.2.1 dX3_full_18 rfl (lv_at hl 1 rfl) ?_
      refine lv_iload_n C.1 C.2.1 dX3_full_19 rfl (lv_at hl 2 rfl) ?_
      refine r_pI C hT hH hS (t := 3) (k := 6) (T := TX3) rfl w3 tyX3_ok nmX3 (by decide) (by decide) rfl rfl k36 (Or.inl rfl) dX3_full_20 h (fun mm H locs hH hS h => ?_)
      refine lv_iload_n C.1 C.2.1 dX3_full_23 rfl (lv_at hl 0 rfl) ?_
      exact r_iret C hT hH hS hr hlocks (by decide) (by decide) dX3_full_24 h
    · have h := ifc_f hc h
      refine lv_bipush (v := (-2)) C.1 C.2.1 dX3_full_10 (by decide) ?_
      exact r_iret C hT hH hS hr hlocks (by decide) (by decide) dX3_full_12 h
abbrev rm_X3_due : Room := { frames := 1, cells := 0, slots := 0, locals := 23 }
set_option maxHeartbeats 4000000 in
set_option maxRecDepth 100000 in
theorem c_X3_due (l : Launch) (D : va_G) (cA : Nat → ClassId) (base : Nat) (a0 : Nat) (mm : Mem) (z : (Int32) × Mem) (h : f_X3_due a0 mm = some z) : Met l yX3_due wsX3_due rm_X3_due (va_Pc [.ref a0] (mU D cA base mm)) (mQ eI D cA base z) 0 0 (mA base) := by
  refine Met.ofW (cc := cX3_due) (maxL := 3) (ret := (some .int)) (by decide) rfl ?_
  intro p e s m args below meth c s₁ B hml hv
  obtain ⟨rfl, hH, hT⟩ := hv
  have C : CallFix p m c cX3_due 3 s ([.ref a0]).toArray wsX3_due RX3 := ⟨B.exec, B.bytes, hml, findClass_of_methodNamed B.named, atoms_spec (ws := wsX3_due) B.pre⟩
  have hr := B.returns
  have hlocks := B.notSynchronized
  have w2 : ∀ w ∈ u_ws RX2 TX2 8, w ∈ wsX3_due := by decide +kernel
  have w3 : ∀ w ∈ u_ws RX3 TX3 11, w ∈ wsX3_due := by decide +kernel
  have k22 : Cond.fieldLink RX3 22 "SegmentMerges" "segments" "[LSegmentMerges$Segment;" ∈ wsX3_due := by decide +kernel
  have k26 : Cond.fieldLink RX3 26 "SegmentMerges" "segmentCount" "I" ∈ wsX3_due := by decide +kernel
  have k36 : Cond.fieldLink RX3 36 "SegmentMerges" "fullSize" "I" ∈ wsX3_due := by decide +kernel
  have k105 : Cond.fieldLink RX3 105 "SegmentMerges$Segment" "tier" "I" ∈ wsX3_due := by decide +kernel
  have L4 : ∀ (n : Nat) (x0 : Nat) (x1 : Int32) (x2 : Int32) (mm : Mem) (H : Heap) (locs : List Loc) (ls : Array Slot) (zz : (Int32 × Int32) × Mem), mH D cA base mm H → va_S (mA base) s.heap H locs → lv_has ls 3 [(0, .ref x0), (1, .int x1), (2, .int x2)] → f_X3_due_L4 n x0 x1 x2 mm = some zz → (∀ (H : Heap) (locs : List Loc) (ls : Array Slot), mH D cA base zz.2 H → va_S (mA base) s.heap H locs → lv_has ls 3 [(0, .ref x0), (1, .int zz.1.1), (2, .int zz.1.2)] → W p l e rm_X3_due s m [.ref a0].toArray below meth c H locs 0 0 (MQ below (mQ eI D cA base z) [.ref a0].toArray s 0 0 (mA base)) (F0 m 63 ls [])) → W p l e rm_X3_due s m [.ref a0].toArray below meth c H locs 0 0 (MQ below (mQ eI D cA base z) [.ref a0].toArray s 0 0 (mA base)) (F0 m 4 ls []) := by
    intro n
    induction n with
    | zero =>
      intro x0 x1 x2 mm H locs ls zz hH hS hl h kk
      exact (fl_inv h).elim
    | succ n ih =>
      intro x0 x1 x2 mm H locs ls zz hH hS hl h kk
      unfold f_X3_due_L4 at h
      refine lv_iload_n C.1 C.2.1 dX3_due_4 rfl (lv_at hl 2 rfl) ?_
      refine lv_aload_n C.1 C.2.1 dX3_due_5 rfl (lv_at hl 0 rfl) ?_
      refine r_gI C hT hH (t := 3) (k := 6) (T := TX3) rfl w3 (by decide) (by decide) rfl k36 dX3_due_6 h (fun v1 h => ?_)
      refine lv_iadd C.1 C.2.1 dX3_due_9 ?_
      refine lv_aload_n C.1 C.2.1 dX3_due_10 rfl (lv_at hl 0 rfl) ?_
      refine r_gI C hT hH (t := 3) (k := 3) (T := TX3) rfl w3 (by decide) (by decide) rfl k26 dX3_due_11 h (fun v2 h => ?_)
      refine lv_icmp_gt (tgt := 63) C.1 C.2.1 dX3_due_14 (by decide) (fun hc => ?_) (fun hc => ?_)
      · have h := ifc_t hc h
        obtain rfl := rt_inv h
        exact kk _ _ _ hH hS (lv_sub hl [0, 1, 2] rfl)
      · have h := ifc_f hc h
        refine lv_aload_n C.1 C.2.1 dX3_due_17 rfl (lv_at hl 0 rfl) ?_
        refine lv_iload_n C.1 C.2.1 dX3_due_18 rfl (lv_at hl 2 rfl) ?_
        refine lv_aload_n C.1 C.2.1 dX3_due_19 rfl (lv_at hl 0 rfl) ?_
        refine r_gI C hT hH (t := 3) (k := 6) (T := TX3) rfl w3 (by decide) (by decide) rfl k36 dX3_due_20 h (fun v3 h => ?_)
        refine r_callVI C hT hH hS (t := 3) (As := [.int x2, .int v3]) (fun z1 hz => c_X3_isOfOneTier l D cA base x0 x2 v3 _ z1 hz) (cwV 2 C.2.2.2.2 gX3_due_X3_isOfOneTier rfl rfl rfl (by decide +kernel) ⟨Nat.le_of_ble_eq_true rfl, Nat.le_of_ble_eq_true rfl⟩) rfl (by decide) rfl hl.1 rfl (Nat.le_of_ble_eq_true rfl) dX3_due_23 ⟨by decide, by decide⟩ h (fun v4 mm H locs hH hS h => ?_)
        refine lv_if_eq (tgt := 57) C.1 C.2.1 dX3_due_26 (by decide) (fun hc => ?_) (fun hc => ?_)
        · have h := ifc_t hc h
          refine lv_iinc (v := (x2 + 1)) (lv' := [(2, .int (x2 + 1)), (0, .ref x0), (1, .int x1)]) C.1 C.2.1 dX3_due_57 hl (k := 2) rfl rfl (by decide) rfl (fun ls hl => ?_)
          refine lv_goto (tgt := 4) C.1 C.2.1 dX3_due_60 (by decide) ?_
          exact ih x0 x1 (x2 + 1) _ _ _ _ _ hH hS (lv_sub hl [1, 2, 0] rfl) h kk
        · have h := ifc_f hc h
          refine lv_iload_n C.1 C.2.1 dX3_due_29 rfl (lv_at hl 1 rfl) ?_
          refine lv_iconst (v := (-1)) C.1 C.2.1 dX3_due_30 (by decide) ?_
          refine lv_icmp_eq (tgt := 55) C.1 C.2.1 dX3_due_31 (by decide) (fun hc => ?_) (fun hc => ?_)
          · have h := ifc_t hc h
            refine lv_iload_n C.1 C.2.1 dX3_due_55 rfl (lv_at hl 2 rfl) ?_
            refine lv_istore_n (lv' := [(1, .int x2), (0, .ref x0), (2, .int x2)]) C.1 C.2.1 dX3_due_56 rfl hl (by decide) rfl (fun ls hl => ?_)
            refine lv_iinc (v := (x2 + 1)) (lv' := [(2, .int (x2 + 1)), (1, .int x2), (0, .ref x0)]) C.1 C.2.1 dX3_due_57 hl (k := 2) rfl rfl (by decide) rfl (fun ls hl => ?_)
            refine lv_goto (tgt := 4) C.1 C.2.1 dX3_due_60 (by decide) ?_
            exact ih x0 x2 (x2 + 1) _ _ _ _ _ hH hS (lv_sub hl [2, 1, 0] rfl) h kk
          · have h := ifc_f hc h
            refine lv_aload_n C.1 C.2.1 dX3_due_34 rfl (lv_at hl 0 rfl) ?_
            refine r_gN C hT hH (t := 3) (k := 2) (T := TX3) rfl w3 (by decide) (by decide) rfl k22 dX3_due_35 h (fun b5 h => ?_)
            refine lv_iload_n C.1 C.2.1 dX3_due_38 rfl (lv_at hl 2 rfl) ?_
            refine r_lR C hT hH (t := 7) (by decide) dX3_due_39 h (fun b6 h => ?_)
            refine r_gI C hT hH (t := 2) (k := 1) (T := TX2) rfl w2 (by decide) (by decide) rfl k105 dX3_due_40 h (fun v7 h => ?_)
            refine lv_aload_n C.1 C.2.1 dX3_due_43 rfl (lv_at hl 0 rfl) ?_
            refine r_gN C hT hH (t := 3) (k := 2) (T := TX3) rfl w3 (by decide) (by decide) rfl k22 dX3_due_44 h (fun b8 h => ?_)
            refine lv_iload_n C.1 C.2.1 dX3_due_47 rfl (lv_at hl 1 rfl) ?_
            refine r_lR C hT hH (t := 7) (by decide) dX3_due_48 h (fun b9 h => ?_)
            refine r_gI C hT hH (t := 2) (k := 1) (T := TX2) rfl w2 (by decide) (by decide) rfl k105 dX3_due_49 h (fun v10 h => ?_)
            refine lv_icmp_ge (tgt := 57) C.1 C.2.1 dX3_due_52 (by decide) (fun hc => ?_) (fun hc => ?_)
            · have h := ifc_t hc h
              refine lv_iinc (v := (x2 + 1)) (lv' := [(2, .int (x2 + 1)), (0, .ref x0), (1, .int x1)]) C.1 C.2.1 dX3_due_57 hl (k := 2) rfl rfl (by decide) rfl (fun ls hl => ?_)
              refine lv_goto (tgt := 4) C.1 C.2.1 dX3_due_60 (by decide) ?_
              exact ih x0 x1 (x2 + 1) _ _ _ _ _ hH hS (lv_sub hl [1, 2, 0] rfl) h kk
            · have h := ifc_f hc h
              refine lv_iload_n C.1 C.2.1 dX3_due_55 rfl (lv_at hl 2 rfl) ?_
              refine lv_istore_n (lv' := [(1, .int x2), (0, .ref x0), (2, .int x2)]) C.1 C.2.1 dX3_due_56 rfl hl (by decide) rfl (fun ls hl => ?_)
              refine lv_iinc (v := (x2 + 1)) (lv' := [(2, .int (x2 + 1)), (1, .int x2), (0, .ref x0)]) C.1 C.2.1 dX3_due_57 hl (k := 2) rfl rfl (by decide) rfl (fun ls hl => ?_)
              refine lv_goto (tgt := 4) C.1 C.2.1 dX3_due_60 (by decide) ?_
              exact ih x0 x2 (x2 + 1) _ _ _ _ _ hH hS (lv_sub hl [2, 1, 0] rfl) h kk
  have hS : va_S (mA base) s.heap s.heap [] := va_S.rf
  have hl := lv_entry ([.ref a0]) (n := 3) (Nat.le_of_ble_eq_true rfl)
  rw [lg_entry_eq]
  generalize (lg_sl ([.ref a0]) ++ List.replicate (3 - (lg_sl ([.ref a0])).length) Slot.unset).toArray = ls at hl ⊢
  have hl : lv_has ls 3 [(0, .ref a0)] := hl
  unfold f_X3_due at h
  refine lv_iconst (v := (-1)) C.1 C.2.1 dX3_due_0 (by decide) ?_
  refine lv_istore_n (lv' := [(1, .int (-1)), (0, .ref a0)]) C.1 C.2.1 dX3_due_1 rfl hl (by decide) rfl (fun ls hl => ?_)
  refine lv_iconst (v := 0) C.1 C.2.1 dX3_due_2 (by decide) ?_
  refine lv_istore_n (lv' := [(2, .int 0), (1, .int (-1)), (0, .ref a0)]) C.1 C.2.1 dX3_due_3 rfl hl (by decide) rfl (fun ls hl => ?_)
  obtain ⟨x11, mx11, hq, h⟩ := bnd_inv h
  refine L4 2100 a0 (-1) 0 _ _ _ _ (x11, mx11) hH hS (lv_sub hl [2, 1, 0] rfl) hq (fun H locs ls hH hS hl => ?_)
  refine lv_iload_n C.1 C.2.1 dX3_due_63 rfl (lv_at hl 1 rfl) ?_
  refine lv_iconst (v := (-1)) C.1 C.2.1 dX3_due_64 (by decide) ?_
  refine lv_icmp_ne (tgt := 73) C.1 C.2.1 dX3_due_65 (by decide) (fun hc => ?_) (fun hc => ?_)
  · have h := ifc_f hc h
    refine lv_iload_n C.1 C.2.1 dX3_due_73 rfl (lv_at hl 1 rfl) ?_
    exact r_iret C hT hH hS hr hlocks (by decide) (by decide) dX3_due_74 h
  · have h := ifc_t hc h
    refine lv_bipush (v := (-3)) C.1 C.2.1 dX3_due_68 (by decide) ?_
    refine lv_goto (tgt := 74) C.1 C.2.1 dX3_due_70 (by decide) ?_
    exact r_iret C hT hH hS hr hlocks (by decide) (by decide) dX3_due_74 h
abbrev rm_X3_cheapest : Room := { frames := 1, cells := 0, slots := 0, locals := 24 }
set_option maxHeartbeats 4000000 in
set_option maxRecDepth 100000 in
theorem c_X3_cheapest (l : Launch) (D : va_G) (cA : Nat → ClassId) (base : Nat) (a0 : Nat) (a1 : Int32) (mm : Mem) (z : (Int32) × Mem) (h : f_X3_cheapest a0 a1 mm = some z) : Met l yX3_cheapest wsX3_cheapest rm_X3_cheapest (va_Pc [.ref a0, .int a1] (mU D cA base mm)) (mQ eI D cA base z) 0 0 (mA base) := by
  refine Met.ofW (cc := cX3_cheapest) (maxL := 6) (ret := (some .int)) (by decide) rfl ?_
  intro p e s m args below meth c s₁ B hml hv
  obtain ⟨rfl, hH, hT⟩ := hv
  have C : CallFix p m c cX3_cheapest 6 s ([.ref a0, .int a1]).toArray wsX3_cheapest RX3 := ⟨B.exec, B.bytes, hml, findClass_of_methodNamed B.named, atoms_spec (ws := wsX3_cheapest) B.pre⟩
  have hr := B.returns
  have hlocks := B.notSynchronized
  have w3 : ∀ w ∈ u_ws RX3 TX3 11, w ∈ wsX3_cheapest := by decide +kernel
  have k26 : Cond.fieldLink RX3 26 "SegmentMerges" "segmentCount" "I" ∈ wsX3_cheapest := by decide +kernel
  have L33 : ∀ (n : Nat) (x0 : Nat) (x1 : Int32) (x2 : Int32) (x3 : Int32) (x4 : Int32) (mm : Mem) (H : Heap) (locs : List Loc) (ls : Array Slot) (zz : (Int32 × Int32 × Int32) × Mem), mH D cA base mm H → va_S (mA base) s.heap H locs → lv_has ls 6 [(0, .ref x0), (1, .int x1), (2, .int x2), (3, .int x3), (4, .int x4)] → f_X3_cheapest_L33 n x0 x1 x2 x3 x4 mm = some zz → (∀ (H : Heap) (locs : List Loc) (ls : Array Slot), mH D cA base zz.2 H → va_S (mA base) s.heap H locs → lv_has ls 6 [(0, .ref x0), (1, .int x1), (2, .int zz.1.1), (3, .int zz.1.2.1), (4, .int zz.1.2.2)] → W p l e rm_X3_cheapest s m [.ref a0, .int a1].toArray below meth c H locs 0 0 (MQ below (mQ eI D cA base z) [.ref a0, .int a1].toArray s 0 0 (mA base)) (F0 m 71 ls [])) → W p l e rm_X3_cheapest s m [.ref a0, .int a1].toArray below meth c H locs 0 0 (MQ below (mQ eI D cA base z) [.ref a0, .int a1].toArray s 0 0 (mA base)) (F0 m 33 ls []) := by
    intro n
    induction n with
    | zero =>
      intro x0 x1 x2 x3 x4 mm H locs ls zz hH hS hl h kk
      exact (fl_inv h).elim
    | succ n ih =>
      intro x0 x1 x2 x3 x4 mm H locs ls zz hH hS hl h kk
      unfold f_X3_cheapest_L33 at h
      refine lv_iload C.1 C.2.1 dX3_cheapest_33 (lv_at hl 4 rfl) ?_
      refine lv_iload_n C.1 C.2.1 dX3_cheapest_35 rfl (lv_at hl 1 rfl) ?_
      refine lv_iadd C.1 C.2.1 dX3_cheapest_36 ?_
      refine lv_aload_n C.1 C.2.1 dX3_cheapest_37 rfl (lv_at hl 0 rfl) ?_
      refine r_gI C hT hH (t := 3) (k := 3) (T := TX3) rfl w3 (by decide) (by decide) rfl k26 dX3_cheapest_38 h (fun v4 h => ?_)
      refine lv_icmp_gt (tgt := 71) C.1 C.2.1 dX3_cheapest_41 (by decide) (fun hc => ?_) (fun hc => ?_)
      · have h := ifc_t hc h
        obtain rfl := rt_inv h
        exact kk _ _ _ hH hS (lv_sub hl [0, 1, 2, 3, 4] rfl)
      · have h := ifc_f hc h
        refine lv_aload_n C.1 C.2.1 dX3_cheapest_44 rfl (lv_at hl 0 rfl) ?_
        refine lv_iload C.1 C.2.1 dX3_cheapest_45 (lv_at hl 4 rfl) ?_
        refine lv_iload_n C.1 C.2.1 dX3_cheapest_47 rfl (lv_at hl 1 rfl) ?_
        refine r_callVI C hT hH hS (t := 3) (As := [.int x4, .int x1]) (fun z1 hz => c_X3_livingFrom l D cA base x0 x4 x1 _ z1 hz) (cwV 2 C.2.2.2.2 gX3_cheapest_X3_livingFrom rfl rfl rfl (by decide +kernel) ⟨Nat.le_of_ble_eq_true rfl, Nat.le_of_ble_eq_true rfl⟩) rfl (by decide) rfl hl.1 rfl (Nat.le_of_ble_eq_true rfl) dX3_cheapest_48 ⟨by decide, by decide⟩ h (fun v5 mm H locs hH hS h => ?_)
        refine lv_istore (lv' := [(5, .int v5), (0, .ref x0), (1, .int x1), (2, .int x2), (3, .int x3), (4, .int x4)]) C.1 C.2.1 dX3_cheapest_51 hl (by decide) rfl (fun ls hl => ?_)
        refine lv_iload C.1 C.2.1 dX3_cheapest_53 (lv_at hl 0 rfl) ?_
        refine lv_iload_n C.1 C.2.1 dX3_cheapest_55 rfl (lv_at hl 4 rfl) ?_
        refine lv_icmp_ge (tgt := 65) C.1 C.2.1 dX3_cheapest_56 (by decide) (fun hc => ?_) (fun hc => ?_)
        · have h := ifc_t hc h
          refine lv_iinc (v := (x4 + 1)) (lv' := [(4, .int (x4 + 1)), (5, .int v5), (0, .ref x0), (1, .int x1), (2, .int x2), (3, .int x3)]) C.1 C.2.1 dX3_cheapest_65 hl (k := 5) rfl rfl (by decide) rfl (fun ls hl => ?_)
          refine lv_goto (tgt := 33) C.1 C.2.1 dX3_cheapest_68 (by decide) ?_
          exact ih x0 x1 x2 x3 (x4 + 1) _ _ _ _ _ hH hS (lv_sub hl [2, 3, 4, 5, 0] rfl) h kk
        · have h := ifc_f hc h
          refine lv_iload C.1 C.2.1 dX3_cheapest_59 (lv_at hl 5 rfl) ?_
          refine lv_istore_n (lv' := [(2, .int x4), (5, .int v5), (0, .ref x0), (1, .int x1), (3, .int x3), (4, .int x4)]) C.1 C.2.1 dX3_cheapest_61 rfl hl (by decide) rfl (fun ls hl => ?_)
          refine lv_iload C.1 C.2.1 dX3_cheapest_62 (lv_at hl 1 rfl) ?_
          refine lv_istore_n (lv' := [(3, .int v5), (2, .int x4), (5, .int v5), (0, .ref x0), (1, .int x1), (4, .int x4)]) C.1 C.2.1 dX3_cheapest_64 rfl hl (by decide) rfl (fun ls hl => ?_)
          refine lv_iinc (v := (x4 + 1)) (lv' := [(4, .int (x4 + 1)), (3, .int v5), (2, .int x4), (5, .int v5), (0, .ref x0), (1, .int x1)]) C.1 C.2.1 dX3_cheapest_65 hl (k := 5) rfl rfl (by decide) rfl (fun ls hl => ?_)
          refine lv_goto (tgt := 33) C.1 C.2.1 dX3_cheapest_68 (by decide) ?_
          exact ih x0 x1 x4 v5 (x4 + 1) _ _ _ _ _ hH hS (lv_sub hl [4, 5, 2, 1, 0] rfl) h kk
  have hS : va_S (mA base) s.heap s.heap [] := va_S.rf
  have hl := lv_entry ([.ref a0, .int a1]) (n := 6) (Nat.le_of_ble_eq_true rfl)
  rw [lg_entry_eq]
  generalize (lg_sl ([.ref a0, .int a1]) ++ List.replicate (6 - (lg_sl ([.ref a0, .int a1])).length) Slot.unset).toArray = ls at hl ⊢
  have hl : lv_has ls 6 [(0, .ref a0), (1, .int a1)] := hl
  unfold f_X3_cheapest at h
  refine lv_iload_n C.1 C.2.1 dX3_cheapest_0 rfl (lv_at hl 1 rfl) ?_
  refine r_callSI C hT hH hS (As := [.int a1]) (fun z1 hz => c_X3_canBeMerged l D cA base a1 _ z1 hz) (va_cwS 1 C.2.2.2.2 gX3_cheapest_X3_canBeMerged rfl rfl rfl (by decide +kernel) ⟨Nat.le_of_ble_eq_true rfl, Nat.le_of_ble_eq_true rfl⟩) rfl hl.1 rfl (Nat.le_of_ble_eq_true rfl) dX3_cheapest_1 ⟨by decide, by decide⟩ h (fun v1 mm H locs hH hS h => ?_)
  refine lv_if_ne (tgt := 10) C.1 C.2.1 dX3_cheapest_4 (by decide) (fun hc => ?_) (fun hc => ?_)
  · have h := ifc_f hc h
    refine lv_aload_n C.1 C.2.1 dX3_cheapest_10 rfl (lv_at hl 0 rfl) ?_
    refine r_gI C hT hH (t := 3) (k := 3) (T := TX3) rfl w3 (by decide) (by decide) rfl k26 dX3_cheapest_11 h (fun v2 h => ?_)
    refine lv_iload_n C.1 C.2.1 dX3_cheapest_14 rfl (lv_at hl 1 rfl) ?_
    refine lv_icmp_ge (tgt := 21) C.1 C.2.1 dX3_cheapest_15 (by decide) (fun hc => ?_) (fun hc => ?_)
    · have h := ifc_t hc h
      refine lv_iconst (v := 0) C.1 C.2.1 dX3_cheapest_21 (by decide) ?_
      refine lv_istore_n (lv' := [(2, .int 0), (0, .ref a0), (1, .int a1)]) C.1 C.2.1 dX3_cheapest_22 rfl hl (by decide) rfl (fun ls hl => ?_)
      refine lv_aload_n C.1 C.2.1 dX3_cheapest_23 rfl (lv_at hl 1 rfl) ?_
      refine lv_iconst (v := 0) C.1 C.2.1 dX3_cheapest_24 (by decide) ?_
      refine lv_iload_n C.1 C.2.1 dX3_cheapest_25 rfl (lv_at hl 2 rfl) ?_
      refine r_callVI C hT hH hS (t := 3) (As := [.int 0, .int a1]) (fun z1 hz => c_X3_livingFrom l D cA base a0 0 a1 _ z1 hz) (cwV 2 C.2.2.2.2 gX3_cheapest_X3_livingFrom rfl rfl rfl (by decide +kernel) ⟨Nat.le_of_ble_eq_true rfl, Nat.le_of_ble_eq_true rfl⟩) rfl (by decide) rfl hl.1 rfl (Nat.le_of_ble_eq_true rfl) dX3_cheapest_26 ⟨by decide, by decide⟩ h (fun v3 mm H locs hH hS h => ?_)
      refine lv_istore_n (lv' := [(3, .int v3), (2, .int 0), (0, .ref a0), (1, .int a1)]) C.1 C.2.1 dX3_cheapest_29 rfl hl (by decide) rfl (fun ls hl => ?_)
      refine lv_iconst (v := 1) C.1 C.2.1 dX3_cheapest_30 (by decide) ?_
      refine lv_istore (lv' := [(4, .int 1), (3, .int v3), (2, .int 0), (0, .ref a0), (1, .int a1)]) C.1 C.2.1 dX3_cheapest_31 hl (by decide) rfl (fun ls hl => ?_)
      obtain ⟨x6, mx6, hq, h⟩ := bnd_inv h
      refine L33 2100 a0 a1 0 v3 1 _ _ _ _ (x6, mx6) hH hS (lv_sub hl [3, 4, 2, 1, 0] rfl) hq (fun H locs ls hH hS hl => ?_)
      refine lv_iload_n C.1 C.2.1 dX3_cheapest_71 rfl (lv_at hl 2 rfl) ?_
      exact r_iret C hT hH hS hr hlocks (by decide) (by decide) dX3_cheapest_72 h
    · have h := ifc_f hc h
      refine lv_bipush (v := (-3)) C.1 C.2.1 dX3_cheapest_18 (by decide) ?_
      exact r_iret C hT hH hS hr hlocks (by decide) (by decide) dX3_cheapest_20 h
  · have h := ifc_t hc h
    refine lv_bipush (v := (-2)) C.1 C.2.1 dX3_cheapest_7 (by decide) ?_
    exact r_iret C hT hH hS hr hlocks (by decide) (by decide) dX3_cheapest_9 h
abbrev rm_X3_worst : Room := { frames := 1, cells := 0, slots := 0, locals := 21 }
set_option maxHeartbeats 4000000 in
set_option maxRecDepth 100000 in
theorem c_X3_worst (l : Launch) (D : va_G) (cA : Nat → ClassId) (base : Nat) (a0 : Nat) (mm : Mem) (z : (Int32) × Mem) (h : f_X3_worst a0 mm = some z) : Met l yX3_worst wsX3_worst rm_X3_worst (va_Pc [.ref a0] (mU D cA base mm)) (mQ eI D cA base z) 0 0 (mA base) := by
  refine Met.ofW (cc := cX3_worst) (maxL := 3) (ret := (some .int)) (by decide) rfl ?_
  intro p e s m args below meth c s₁ B hml hv
  obtain ⟨rfl, hH, hT⟩ := hv
  have C : CallFix p m c cX3_worst 3 s ([.ref a0]).toArray wsX3_worst RX3 := ⟨B.exec, B.bytes, hml, findClass_of_methodNamed B.named, atoms_spec (ws := wsX3_worst) B.pre⟩
  have hr := B.returns
  have hlocks := B.notSynchronized
  have w3 : ∀ w ∈ u_ws RX3 TX3 11, w ∈ wsX3_worst := by decide +kernel
  have k22 : Cond.fieldLink RX3 22 "SegmentMerges" "segments" "[LSegmentMerges$Segment;" ∈ wsX3_worst := by decide +kernel
  have k26 : Cond.fieldLink RX3 26 "SegmentMerges" "segmentCount" "I" ∈ wsX3_worst := by decide +kernel
  have L14 : ∀ (n : Nat) (x0 : Nat) (x1 : Int32) (x2 : Int32) (mm : Mem) (H : Heap) (locs : List Loc) (ls : Array Slot) (zz : (Int32 × Int32) × Mem), mH D cA base mm H → va_S (mA base) s.heap H locs → lv_has ls 3 [(0, .ref x0), (1, .int x1), (2, .int x2)] → f_X3_worst_L14 n x0 x1 x2 mm = some zz → (∀ (H : Heap) (locs : List Loc) (ls : Array Slot), mH D cA base zz.2 H → va_S (mA base) s.heap H locs → lv_has ls 3 [(0, .ref x0), (1, .int zz.1.1), (2, .int zz.1.2)] → W p l e rm_X3_worst s m [.ref a0].toArray below meth c H locs 0 0 (MQ below (mQ eI D cA base z) [.ref a0].toArray s 0 0 (mA base)) (F0 m 48 ls [])) → W p l e rm_X3_worst s m [.ref a0].toArray below meth c H locs 0 0 (MQ below (mQ eI D cA base z) [.ref a0].toArray s 0 0 (mA base)) (F0 m 14 ls []) := by
    intro n
    induction n with
    | zero =>
      intro x0 x1 x2 mm H locs ls zz hH hS hl h kk
      exact (fl_inv h).elim
    | succ n ih =>
      intro x0 x1 x2 mm H locs ls zz hH hS hl h kk
      unfold f_X3_worst_L14 at h
      refine lv_iload_n C.1 C.2.1 dX3_worst_14 rfl (lv_at hl 2 rfl) ?_
      refine lv_aload_n C.1 C.2.1 dX3_worst_15 rfl (lv_at hl 0 rfl) ?_
      refine r_gI C hT hH (t := 3) (k := 3) (T := TX3) rfl w3 (by decide) (by decide) rfl k26 dX3_worst_16 h (fun v2 h => ?_)
      refine lv_icmp_ge (tgt := 48) C.1 C.2.1 dX3_worst_19 (by decide) (fun hc => ?_) (fun hc => ?_)
      · have h := ifc_t hc h
        obtain rfl := rt_inv h
        exact kk _ _ _ hH hS (lv_sub hl [0, 1, 2] rfl)
      · have h := ifc_f hc h
        refine lv_aload_n C.1 C.2.1 dX3_worst_22 rfl (lv_at hl 0 rfl) ?_
        refine r_gN C hT hH (t := 3) (k := 2) (T := TX3) rfl w3 (by decide) (by decide) rfl k22 dX3_worst_23 h (fun b3 h => ?_)
        refine lv_iload_n C.1 C.2.1 dX3_worst_26 rfl (lv_at hl 2 rfl) ?_
        refine r_lR C hT hH (t := 7) (by decide) dX3_worst_27 h (fun b4 h => ?_)
        refine lv_aload_n C.1 C.2.1 dX3_worst_28 rfl (lv_at hl 0 rfl) ?_
        refine r_gN C hT hH (t := 3) (k := 2) (T := TX3) rfl w3 (by decide) (by decide) rfl k22 dX3_worst_29 h (fun b5 h => ?_)
        refine lv_iload_n C.1 C.2.1 dX3_worst_32 rfl (lv_at hl 1 rfl) ?_
        refine r_lR C hT hH (t := 7) (by decide) dX3_worst_33 h (fun b6 h => ?_)
        refine r_callVI C hT hH hS (t := 2) (As := [.ref b6]) (fun z1 hz => c_X2_isDeaderThan l D cA base b4 b6 _ z1 hz) (cwV 1 C.2.2.2.2 gX3_worst_X2_isDeaderThan rfl rfl rfl (by decide +kernel) ⟨Nat.le_of_ble_eq_true rfl, Nat.le_of_ble_eq_true rfl⟩) rfl (by decide) rfl hl.1 rfl (Nat.le_of_ble_eq_true rfl) dX3_worst_34 ⟨by decide, by decide⟩ h (fun v7 mm H locs hH hS h => ?_)
        refine lv_if_eq (tgt := 42) C.1 C.2.1 dX3_worst_37 (by decide) (fun hc => ?_) (fun hc => ?_)
        · have h := ifc_t hc h
          refine lv_iinc (v := (x2 + 1)) (lv' := [(2, .int (x2 + 1)), (0, .ref x0), (1, .int x1)]) C.1 C.2.1 dX3_worst_42 hl (k := 2) rfl rfl (by decide) rfl (fun ls hl => ?_)
          refine lv_goto (tgt := 14) C.1 C.2.1 dX3_worst_45 (by decide) ?_
          exact ih x0 x1 (x2 + 1) _ _ _ _ _ hH hS (lv_sub hl [1, 2, 0] rfl) h kk
        · have h := ifc_f hc h
          refine lv_iload_n C.1 C.2.1 dX3_worst_40 rfl (lv_at hl 2 rfl) ?_
          refine lv_istore_n (lv' := [(1, .int x2), (0, .ref x0), (2, .int x2)]) C.1 C.2.1 dX3_worst_41 rfl hl (by decide) rfl (fun ls hl => ?_)
          refine lv_iinc (v := (x2 + 1)) (lv' := [(2, .int (x2 + 1)), (1, .int x2), (0, .ref x0)]) C.1 C.2.1 dX3_worst_42 hl (k := 2) rfl rfl (by decide) rfl (fun ls hl => ?_)
          refine lv_goto (tgt := 14) C.1 C.2.1 dX3_worst_45 (by decide) ?_
          exact ih x0 x2 (x2 + 1) _ _ _ _ _ hH hS (lv_sub hl [2, 1, 0] rfl) h kk
  have hS : va_S (mA base) s.heap s.heap [] := va_S.rf
  have hl := lv_entry ([.ref a0]) (n := 3) (Nat.le_of_ble_eq_true rfl)
  rw [lg_entry_eq]
  generalize (lg_sl ([.ref a0]) ++ List.replicate (3 - (lg_sl ([.ref a0])).length) Slot.unset).toArray = ls at hl ⊢
  have hl : lv_has ls 3 [(0, .ref a0)] := hl
  unfold f_X3_worst at h
  refine lv_aload_n C.1 C.2.1 dX3_worst_0 rfl (lv_at hl 0 rfl) ?_
  refine r_gI C hT hH (t := 3) (k := 3) (T := TX3) rfl w3 (by decide) (by decide) rfl k26 dX3_worst_1 h (fun v1 h => ?_)
  refine lv_if_ne (tgt := 10) C.1 C.2.1 dX3_worst_4 (by decide) (fun hc => ?_) (fun hc => ?_)
  · have h := ifc_f hc h
    refine lv_iconst (v := 0) C.1 C.2.1 dX3_worst_10 (by decide) ?_
    refine lv_istore_n (lv' := [(1, .int 0), (0, .ref a0)]) C.1 C.2.1 dX3_worst_11 rfl hl (by decide) rfl (fun ls hl => ?_)
    refine lv_iconst (v := 1) C.1 C.2.1 dX3_worst_12 (by decide) ?_
    refine lv_istore_n (lv' := [(2, .int 1), (1, .int 0), (0, .ref a0)]) C.1 C.2.1 dX3_worst_13 rfl hl (by decide) rfl (fun ls hl => ?_)
    obtain ⟨x8, mx8, hq, h⟩ := bnd_inv h
    refine L14 2100 a0 0 1 _ _ _ _ (x8, mx8) hH hS (lv_sub hl [2, 1, 0] rfl) hq (fun H locs ls hH hS hl => ?_)
    refine lv_iload_n C.1 C.2.1 dX3_worst_48 rfl (lv_at hl 1 rfl) ?_
    exact r_iret C hT hH hS hr hlocks (by decide) (by decide) dX3_worst_49 h
  · have h := ifc_t hc h
    refine lv_bipush (v := (-3)) C.1 C.2.1 dX3_worst_7 (by decide) ?_
    exact r_iret C hT hH hS hr hlocks (by decide) (by decide) dX3_worst_9 h
