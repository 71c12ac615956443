/-! The bytecode computes the functions of 05f: written by wip/tools/gen.py -/
abbrev rm_X4_segment : Room := { frames := 2, cells := 0, slots := 0, locals := 43 }
set_option maxHeartbeats 4000000 in
set_option maxRecDepth 100000 in
theorem c_X4_segment (l : Launch) (D : va_G) (cA : Nat → ClassId) (base : Nat) (a0 : Nat) (a1 : Int32) (a2 : Int32) (mm : Mem) (z : (Int32) × Mem) (h : f_X4_segment a0 a1 a2 mm = some z) : Met l yX4_segment wsX4_segment rm_X4_segment (va_Pc [.ref a0, .int a1, .int a2] (mU D cA base mm)) (mQ eI D cA base z) 0 0 (mA base) := by
  refine Met.ofW (cc := cX4_segment) (maxL := 4) (ret := (some .int)) (by decide) rfl ?_
  intro p e s m args below meth c s₁ B hml hv
  obtain ⟨rfl, hH, hT⟩ := hv
  have C : CallFix p m c cX4_segment 4 s ([.ref a0, .int a1, .int a2]).toArray wsX4_segment RX4 := ⟨B.exec, B.bytes, hml, findClass_of_methodNamed B.named, atoms_spec (ws := wsX4_segment) B.pre⟩
  have hr := B.returns
  have hlocks := B.notSynchronized
  have w4 : ∀ w ∈ u_ws RX4 TX4 34, w ∈ wsX4_segment := by decide +kernel
  have k25 : Cond.fieldLink RX4 25 "SegmentMergesModel" "order" "[I" ∈ wsX4_segment := by decide +kernel
  have k32 : Cond.fieldLink RX4 32 "SegmentMergesModel" "number" "[I" ∈ wsX4_segment := by decide +kernel
  have k35 : Cond.fieldLink RX4 35 "SegmentMergesModel" "tier" "[I" ∈ wsX4_segment := by decide +kernel
  have k38 : Cond.fieldLink RX4 38 "SegmentMergesModel" "rows" "[I" ∈ wsX4_segment := by decide +kernel
  have k84 : Cond.fieldLink RX4 84 "SegmentMergesModel" "thrown" "I" ∈ wsX4_segment := by decide +kernel
  have k130 : Cond.fieldLink RX4 130 "SegmentMergesModel" "merged" "I" ∈ wsX4_segment := by decide +kernel
  have k133 : Cond.fieldLink RX4 133 "SegmentMergesModel" "mergePlace" "I" ∈ wsX4_segment := by decide +kernel
  have hS : va_S (mA base) s.heap s.heap [] := va_S.rf
  have hl := lv_entry ([.ref a0, .int a1, .int a2]) (n := 4) (Nat.le_of_ble_eq_true rfl)
  rw [lg_entry_eq]
  generalize (lg_sl ([.ref a0, .int a1, .int a2]) ++ List.replicate (4 - (lg_sl ([.ref a0, .int a1, .int a2])).length) Slot.unset).toArray = ls at hl ⊢
  have hl : lv_has ls 4 [(0, .ref a0), (1, .int a1), (2, .int a2)] := hl
  unfold f_X4_segment at h
  refine lv_aload_n C.1 C.2.1 dX4_segment_0 rfl (lv_at hl 0 rfl) ?_
  refine lv_iconst (v := 0) C.1 C.2.1 dX4_segment_1 (by decide) ?_
  refine r_pI C hT hH hS (t := 4) (k := 0) (T := TX4) rfl w4 tyX4_ok nmX4 (by decide) (by decide) rfl rfl k84 (Or.inl rfl) dX4_segment_2 h (fun mm H locs hH hS h => ?_)
  refine lv_aload_n C.1 C.2.1 dX4_segment_5 rfl (lv_at hl 0 rfl) ?_
  refine lv_iload_n C.1 C.2.1 dX4_segment_6 rfl (lv_at hl 1 rfl) ?_
  refine r_callVI C hT hH hS (t := 4) (As := [.int a1]) (fun z1 hz => c_X4_isPlace l D cA base a0 a1 _ z1 hz) (cwV 1 C.2.2.2.2 gX4_segment_X4_isPlace rfl rfl rfl (by decide +kernel) ⟨Nat.le_of_ble_eq_true rfl, Nat.le_of_ble_eq_true rfl⟩) rfl (by decide) rfl hl.1 rfl (Nat.le_of_ble_eq_true rfl) dX4_segment_7 ⟨by decide, by decide⟩ h (fun v1 mm H locs hH hS h => ?_)
  refine lv_if_ne (tgt := 15) C.1 C.2.1 dX4_segment_10 (by decide) (fun hc => ?_) (fun hc => ?_)
  · have h := ifc_f hc h
    refine lv_aload_n C.1 C.2.1 dX4_segment_15 rfl (lv_at hl 0 rfl) ?_
    refine r_gN C hT hH (t := 4) (k := 8) (T := TX4) rfl w4 (by decide) (by decide) rfl k25 dX4_segment_16 h (fun b2 h => ?_)
    refine lv_iload_n C.1 C.2.1 dX4_segment_19 rfl (lv_at hl 1 rfl) ?_
    refine r_lI C hT hH dX4_segment_20 h (fun v3 h => ?_)
    refine lv_istore_n (lv' := [(3, .int v3), (0, .ref a0), (1, .int a1), (2, .int a2)]) C.1 C.2.1 dX4_segment_21 rfl hl (by decide) rfl (fun ls hl => ?_)
    refine lv_iload_n C.1 C.2.1 dX4_segment_22 rfl (lv_at hl 3 rfl) ?_
    by_cases n0 : a2 = 0
    · have h := ifc_t n0 h
      refine lv_tableIn (tgt := 56) C.1 C.2.1 dX4_segment_23 (by rw [n0]; decide) (by rw [n0]; decide) (by rw [n0]; rfl) (by decide) ?_
      refine lv_aload_n C.1 C.2.1 dX4_segment_56 rfl (lv_at hl 1 rfl) ?_
      refine r_gN C hT hH (t := 4) (k := 10) (T := TX4) rfl w4 (by decide) (by decide) rfl k32 dX4_segment_57 h (fun b4 h => ?_)
      refine lv_iload_n C.1 C.2.1 dX4_segment_60 rfl (lv_at hl 0 rfl) ?_
      refine r_lI C hT hH dX4_segment_61 h (fun v5 h => ?_)
      exact r_iret C hT hH hS hr hlocks (by decide) (by decide) dX4_segment_62 h
    · have h := ifc_f n0 h
      by_cases n1 : a2 = 1
      · have h := ifc_t n1 h
        refine lv_tableIn (tgt := 63) C.1 C.2.1 dX4_segment_23 (by rw [n1]; decide) (by rw [n1]; decide) (by rw [n1]; rfl) (by decide) ?_
        refine lv_aload_n C.1 C.2.1 dX4_segment_63 rfl (lv_at hl 1 rfl) ?_
        refine r_gN C hT hH (t := 4) (k := 11) (T := TX4) rfl w4 (by decide) (by decide) rfl k35 dX4_segment_64 h (fun b6 h => ?_)
        refine lv_iload_n C.1 C.2.1 dX4_segment_67 rfl (lv_at hl 0 rfl) ?_
        refine r_lI C hT hH dX4_segment_68 h (fun v7 h => ?_)
        exact r_iret C hT hH hS hr hlocks (by decide) (by decide) dX4_segment_69 h
      · have h := ifc_f n1 h
        by_cases n2 : a2 = 2
        · have h := ifc_t n2 h
          refine lv_tableIn (tgt := 70) C.1 C.2.1 dX4_segment_23 (by rw [n2]; decide) (by rw [n2]; decide) (by rw [n2]; rfl) (by decide) ?_
          refine lv_aload_n C.1 C.2.1 dX4_segment_70 rfl (lv_at hl 1 rfl) ?_
          refine r_gN C hT hH (t := 4) (k := 12) (T := TX4) rfl w4 (by decide) (by decide) rfl k38 dX4_segment_71 h (fun b8 h => ?_)
          refine lv_iload_n C.1 C.2.1 dX4_segment_74 rfl (lv_at hl 0 rfl) ?_
          refine r_lI C hT hH dX4_segment_75 h (fun v9 h => ?_)
          exact r_iret C hT hH hS hr hlocks (by decide) (by decide) dX4_segment_76 h
        · have h := ifc_f n2 h
          by_cases n3 : a2 = 3
          · have h := ifc_t n3 h
            refine lv_tableIn (tgt := 77) C.1 C.2.1 dX4_segment_23 (by rw [n3]; decide) (by rw [n3]; decide) (by rw [n3]; rfl) (by decide) ?_
            refine lv_aload_n C.1 C.2.1 dX4_segment_77 rfl (lv_at hl 1 rfl) ?_
            refine lv_iload_n C.1 C.2.1 dX4_segment_78 rfl (lv_at hl 0 rfl) ?_
            refine r_callVI C hT hH hS (t := 4) (As := [.int v3]) (fun z1 hz => c_X4_livingOf l D cA base a0 v3 _ z1 hz) (cwV 1 C.2.2.2.2 gX4_segment_X4_livingOf rfl rfl rfl (by decide +kernel) ⟨Nat.le_of_ble_eq_true rfl, Nat.le_of_ble_eq_true rfl⟩) rfl (by decide) rfl hl.1 rfl (Nat.le_of_ble_eq_true rfl) dX4_segment_79 ⟨by decide, by decide⟩ h (fun v10 mm H locs hH hS h => ?_)
            exact r_iret C hT hH hS hr hlocks (by decide) (by decide) dX4_segment_82 h
          · have h := ifc_f n3 h
            by_cases n4 : a2 = 4
            · have h := ifc_t n4 h
              refine lv_tableIn (tgt := 83) C.1 C.2.1 dX4_segment_23 (by rw [n4]; decide) (by rw [n4]; decide) (by rw [n4]; rfl) (by decide) ?_
              refine lv_aload_n C.1 C.2.1 dX4_segment_83 rfl (lv_at hl 1 rfl) ?_
              refine r_gI C hT hH (t := 4) (k := 19) (T := TX4) rfl w4 (by decide) (by decide) rfl k130 dX4_segment_84 h (fun v11 h => ?_)
              refine lv_if_le (tgt := 116) C.1 C.2.1 dX4_segment_87 (by decide) (fun hc => ?_) (fun hc => ?_)
              · have h := ifc_t hc h
                refine lv_iconst (v := 0) C.1 C.2.1 dX4_segment_116 (by decide) ?_
                exact r_iret C hT hH hS hr hlocks (by decide) (by decide) dX4_segment_117 h
              · have h := ifc_f hc h
                refine lv_iload_n C.1 C.2.1 dX4_segment_90 rfl (lv_at hl 2 rfl) ?_
                refine lv_aload_n C.1 C.2.1 dX4_segment_91 rfl (lv_at hl 1 rfl) ?_
                refine r_gI C hT hH (t := 4) (k := 20) (T := TX4) rfl w4 (by decide) (by decide) rfl k133 dX4_segment_92 h (fun v12 h => ?_)
                refine lv_aload_n C.1 C.2.1 dX4_segment_95 rfl (lv_at hl 1 rfl) ?_
                refine r_gI C hT hH (t := 4) (k := 20) (T := TX4) rfl w4 (by decide) (by decide) rfl k133 dX4_segment_96 h (fun v13 h => ?_)
                refine lv_aload_n C.1 C.2.1 dX4_segment_99 rfl (lv_at hl 1 rfl) ?_
                refine r_gI C hT hH (t := 4) (k := 19) (T := TX4) rfl w4 (by decide) (by decide) rfl k130 dX4_segment_100 h (fun v14 h => ?_)
                refine lv_iadd C.1 C.2.1 dX4_segment_103 ?_
                refine lv_iconst (v := 1) C.1 C.2.1 dX4_segment_104 (by decide) ?_
                refine lv_isub C.1 C.2.1 dX4_segment_105 ?_
                refine r_callSI C hT hH hS (As := [.int a1, .int v12, .int ((v13 + v14) - 1)]) (fun z1 hz => c_X4_in l D cA base a1 v12 ((v13 + v14) - 1) _ z1 hz) (va_cwS 3 C.2.2.2.2 gX4_segment_X4_in rfl rfl rfl (by decide +kernel) ⟨Nat.le_of_ble_eq_true rfl, Nat.le_of_ble_eq_true rfl⟩) rfl hl.1 rfl (Nat.le_of_ble_eq_true rfl) dX4_segment_106 ⟨by decide, by decide⟩ h (fun v15 mm H locs hH hS h => ?_)
                refine lv_if_eq (tgt := 116) C.1 C.2.1 dX4_segment_109 (by decide) (fun hc => ?_) (fun hc => ?_)
                · have h := ifc_t hc h
                  refine lv_iconst (v := 0) C.1 C.2.1 dX4_segment_116 (by decide) ?_
                  exact r_iret C hT hH hS hr hlocks (by decide) (by decide) dX4_segment_117 h
                · have h := ifc_f hc h
                  refine lv_iconst (v := 1) C.1 C.2.1 dX4_segment_112 (by decide) ?_
                  refine lv_goto (tgt := 117) C.1 C.2.1 dX4_segment_113 (by decide) ?_
                  exact r_iret C hT hH hS hr hlocks (by decide) (by decide) dX4_segment_117 h
            · have h := ifc_f n4 h
              have g0 := lv_neT n0 (a := 0) rfl
              have g1 := lv_neT n1 (a := 1) rfl
              have g2 := lv_neT n2 (a := 2) rfl
              have g3 := lv_neT n3 (a := 3) rfl
              have g4 := lv_neT n4 (a := 4) rfl
              refine lv_tableOut (tgt := 118) C.1 C.2.1 dX4_segment_23 (by omega) (by decide) ?_
              refine lv_bipush (v := (-2)) C.1 C.2.1 dX4_segment_118 (by decide) ?_
              exact r_iret C hT hH hS hr hlocks (by decide) (by decide) dX4_segment_120 h
  · have h := ifc_t hc h
    refine lv_iconst (v := (-1)) C.1 C.2.1 dX4_segment_13 (by decide) ?_
    exact r_iret C hT hH hS hr hlocks (by decide) (by decide) dX4_segment_14 h
abbrev rm_X4_row : Room := { frames := 2, cells := 0, slots := 0, locals := 43 }
set_option maxHeartbeats 4000000 in
set_option maxRecDepth 100000 in
theorem c_X4_row (l : Launch) (D : va_G) (cA : Nat → ClassId) (base : Nat) (a0 : Nat) (a1 : Int32) (a2 : Int32) (a3 : Int32) (mm : Mem) (z : (Int32) × Mem) (h : f_X4_row a0 a1 a2 a3 mm = some z) : Met l yX4_row wsX4_row rm_X4_row (va_Pc [.ref a0, .int a1, .int a2, .int a3] (mU D cA base mm)) (mQ eI D cA base z) 0 0 (mA base) := by
  refine Met.ofW (cc := cX4_row) (maxL := 5) (ret := (some .int)) (by decide) rfl ?_
  intro p e s m args below meth c s₁ B hml hv
  obtain ⟨rfl, hH, hT⟩ := hv
  have C : CallFix p m c cX4_row 5 s ([.ref a0, .int a1, .int a2, .int a3]).toArray wsX4_row RX4 := ⟨B.exec, B.bytes, hml, findClass_of_methodNamed B.named, atoms_spec (ws := wsX4_row) B.pre⟩
  have hr := B.returns
  have hlocks := B.notSynchronized
  have w4 : ∀ w ∈ u_ws RX4 TX4 34, w ∈ wsX4_row := by decide +kernel
  have k25 : Cond.fieldLink RX4 25 "SegmentMergesModel" "order" "[I" ∈ wsX4_row := by decide +kernel
  have k38 : Cond.fieldLink RX4 38 "SegmentMergesModel" "rows" "[I" ∈ wsX4_row := by decide +kernel
  have k41 : Cond.fieldLink RX4 41 "SegmentMergesModel" "rowKey" "[I" ∈ wsX4_row := by decide +kernel
  have k44 : Cond.fieldLink RX4 44 "SegmentMergesModel" "rowValue" "[I" ∈ wsX4_row := by decide +kernel
  have k47 : Cond.fieldLink RX4 47 "SegmentMergesModel" "lives" "[Z" ∈ wsX4_row := by decide +kernel
  have k84 : Cond.fieldLink RX4 84 "SegmentMergesModel" "thrown" "I" ∈ wsX4_row := by decide +kernel
  have hS : va_S (mA base) s.heap s.heap [] := va_S.rf
  have hl := lv_entry ([.ref a0, .int a1, .int a2, .int a3]) (n := 5) (Nat.le_of_ble_eq_true rfl)
  rw [lg_entry_eq]
  generalize (lg_sl ([.ref a0, .int a1, .int a2, .int a3]) ++ List.replicate (5 - (lg_sl ([.ref a0, .int a1, .int a2, .int a3])).length) Slot.unset).toArray = ls at hl ⊢
  have hl : lv_has ls 5 [(0, .ref a0), (1, .int a1), (2, .int a2), (3, .int a3)] := hl
  unfold f_X4_row at h
  refine lv_aload_n C.1 C.2.1 dX4_row_0 rfl (lv_at hl 0 rfl) ?_
  refine lv_iconst (v := 0) C.1 C.2.1 dX4_row_1 (by decide) ?_
  refine r_pI C hT hH hS (t := 4) (k := 0) (T := TX4) rfl w4 tyX4_ok nmX4 (by decide) (by decide) rfl rfl k84 (Or.inl rfl) dX4_row_2 h (fun mm H locs hH hS h => ?_)
  refine lv_aload_n C.1 C.2.1 dX4_row_5 rfl (lv_at hl 0 rfl) ?_
  refine lv_iload_n C.1 C.2.1 dX4_row_6 rfl (lv_at hl 1 rfl) ?_
  refine r_callVI C hT hH hS (t := 4) (As := [.int a1]) (fun z1 hz => c_X4_isPlace l D cA base a0 a1 _ z1 hz) (cwV 1 C.2.2.2.2 gX4_row_X4_isPlace rfl rfl rfl (by decide +kernel) ⟨Nat.le_of_ble_eq_true rfl, Nat.le_of_ble_eq_true rfl⟩) rfl (by decide) rfl hl.1 rfl (Nat.le_of_ble_eq_true rfl) dX4_row_7 ⟨by decide, by decide⟩ h (fun v1 mm H locs hH hS h => ?_)
  refine lv_if_eq (tgt := 34) C.1 C.2.1 dX4_row_10 (by decide) (fun hc => ?_) (fun hc => ?_)
  · have h := ifc_t hc h
    refine lv_iconst (v := (-1)) C.1 C.2.1 dX4_row_34 (by decide) ?_
    exact r_iret C hT hH hS hr hlocks (by decide) (by decide) dX4_row_35 h
  · have h := ifc_f hc h
    refine lv_iload_n C.1 C.2.1 dX4_row_13 rfl (lv_at hl 2 rfl) ?_
    refine lv_iconst (v := 0) C.1 C.2.1 dX4_row_14 (by decide) ?_
    refine lv_aload_n C.1 C.2.1 dX4_row_15 rfl (lv_at hl 0 rfl) ?_
    refine r_gN C hT hH (t := 4) (k := 12) (T := TX4) rfl w4 (by decide) (by decide) rfl k38 dX4_row_16 h (fun b2 h => ?_)
    refine lv_aload_n C.1 C.2.1 dX4_row_19 rfl (lv_at hl 0 rfl) ?_
    refine r_gN C hT hH (t := 4) (k := 8) (T := TX4) rfl w4 (by decide) (by decide) rfl k25 dX4_row_20 h (fun b3 h => ?_)
    refine lv_iload_n C.1 C.2.1 dX4_row_23 rfl (lv_at hl 1 rfl) ?_
    refine r_lI C hT hH dX4_row_24 h (fun v4 h => ?_)
    refine r_lI C hT hH dX4_row_25 h (fun v5 h => ?_)
    refine lv_iconst (v := 1) C.1 C.2.1 dX4_row_26 (by decide) ?_
    refine lv_isub C.1 C.2.1 dX4_row_27 ?_
    refine r_callSI C hT hH hS (As := [.int a2, .int 0, .int (v5 - 1)]) (fun z1 hz => c_X4_in l D cA base a2 0 (v5 - 1) _ z1 hz) (va_cwS 3 C.2.2.2.2 gX4_row_X4_in rfl rfl rfl (by decide +kernel) ⟨Nat.le_of_ble_eq_true rfl, Nat.le_of_ble_eq_true rfl⟩) rfl hl.1 rfl (Nat.le_of_ble_eq_true rfl) dX4_row_28 ⟨by decide, by decide⟩ h (fun v6 mm H locs hH hS h => ?_)
    refine lv_if_ne (tgt := 36) C.1 C.2.1 dX4_row_31 (by decide) (fun hc => ?_) (fun hc => ?_)
    · have h := ifc_f hc h
      refine lv_bipush (v := 100) C.1 C.2.1 dX4_row_36 (by decide) ?_
      refine lv_aload_n C.1 C.2.1 dX4_row_38 rfl (lv_at hl 0 rfl) ?_
      refine r_gN C hT hH (t := 4) (k := 8) (T := TX4) rfl w4 (by decide) (by decide) rfl k25 dX4_row_39 h (fun b7 h => ?_)
      refine lv_iload_n C.1 C.2.1 dX4_row_42 rfl (lv_at hl 1 rfl) ?_
      refine r_lI C hT hH dX4_row_43 h (fun v8 h => ?_)
      refine lv_imul C.1 C.2.1 dX4_row_44 ?_
      refine lv_iload_n C.1 C.2.1 dX4_row_45 rfl (lv_at hl 2 rfl) ?_
      refine lv_iadd C.1 C.2.1 dX4_row_46 ?_
      refine lv_istore (lv' := [(4, .int ((100 * v8) + a2)), (0, .ref a0), (1, .int a1), (2, .int a2), (3, .int a3)]) C.1 C.2.1 dX4_row_47 hl (by decide) rfl (fun ls hl => ?_)
      refine lv_iload_n C.1 C.2.1 dX4_row_49 rfl (lv_at hl 4 rfl) ?_
      refine lv_if_ne (tgt := 63) C.1 C.2.1 dX4_row_50 (by decide) (fun hc => ?_) (fun hc => ?_)
      · have h := ifc_f hc h
        refine lv_iload_n C.1 C.2.1 dX4_row_63 rfl (lv_at hl 4 rfl) ?_
        refine lv_iconst (v := 1) C.1 C.2.1 dX4_row_64 (by decide) ?_
        refine lv_icmp_ne (tgt := 78) C.1 C.2.1 dX4_row_65 (by decide) (fun hc => ?_) (fun hc => ?_)
        · have h := ifc_f hc h
          refine lv_iload_n C.1 C.2.1 dX4_row_78 rfl (lv_at hl 4 rfl) ?_
          refine lv_iconst (v := 2) C.1 C.2.1 dX4_row_79 (by decide) ?_
          refine lv_icmp_ne (tgt := 101) C.1 C.2.1 dX4_row_80 (by decide) (fun hc => ?_) (fun hc => ?_)
          · have h := ifc_f hc h
            refine lv_bipush (v := (-2)) C.1 C.2.1 dX4_row_101 (by decide) ?_
            exact r_iret C hT hH hS hr hlocks (by decide) (by decide) dX4_row_103 h
          · have h := ifc_t hc h
            refine lv_aload_n C.1 C.2.1 dX4_row_83 rfl (lv_at hl 1 rfl) ?_
            refine r_gN C hT hH (t := 4) (k := 15) (T := TX4) rfl w4 (by decide) (by decide) rfl k47 dX4_row_84 h (fun b9 h => ?_)
            refine lv_iload C.1 C.2.1 dX4_row_87 (lv_at hl 0 rfl) ?_
            refine r_lZ C hT hH dX4_row_89 h (fun v10 h => ?_)
            refine lv_if_eq (tgt := 97) C.1 C.2.1 dX4_row_90 (by decide) (fun hc => ?_) (fun hc => ?_)
            · have h := ifc_t hc h
              refine lv_iconst (v := 0) C.1 C.2.1 dX4_row_97 (by decide) ?_
              refine lv_goto (tgt := 103) C.1 C.2.1 dX4_row_98 (by decide) ?_
              exact r_iret C hT hH hS hr hlocks (by decide) (by decide) dX4_row_103 h
            · have h := ifc_f hc h
              refine lv_iconst (v := 1) C.1 C.2.1 dX4_row_93 (by decide) ?_
              refine lv_goto (tgt := 103) C.1 C.2.1 dX4_row_94 (by decide) ?_
              exact r_iret C hT hH hS hr hlocks (by decide) (by decide) dX4_row_103 h
        · have h := ifc_t hc h
          refine lv_aload_n C.1 C.2.1 dX4_row_68 rfl (lv_at hl 1 rfl) ?_
          refine r_gN C hT hH (t := 4) (k := 14) (T := TX4) rfl w4 (by decide) (by decide) rfl k44 dX4_row_69 h (fun b11 h => ?_)
          refine lv_iload C.1 C.2.1 dX4_row_72 (lv_at hl 0 rfl) ?_
          refine r_lI C hT hH dX4_row_74 h (fun v12 h => ?_)
          refine lv_goto (tgt := 103) C.1 C.2.1 dX4_row_75 (by decide) ?_
          exact r_iret C hT hH hS hr hlocks (by decide) (by decide) dX4_row_103 h
      · have h := ifc_t hc h
        refine lv_aload_n C.1 C.2.1 dX4_row_53 rfl (lv_at hl 1 rfl) ?_
        refine r_gN C hT hH (t := 4) (k := 13) (T := TX4) rfl w4 (by decide) (by decide) rfl k41 dX4_row_54 h (fun b13 h => ?_)
        refine lv_iload C.1 C.2.1 dX4_row_57 (lv_at hl 0 rfl) ?_
        refine r_lI C hT hH dX4_row_59 h (fun v14 h => ?_)
        refine lv_goto (tgt := 103) C.1 C.2.1 dX4_row_60 (by decide) ?_
        exact r_iret C hT hH hS hr hlocks (by decide) (by decide) dX4_row_103 h
    · have h := ifc_t hc h
      refine lv_iconst (v := (-1)) C.1 C.2.1 dX4_row_34 (by decide) ?_
      exact r_iret C hT hH hS hr hlocks (by decide) (by decide) dX4_row_35 h
abbrev rm_X4_full : Room := { frames := 1, cells := 0, slots := 0, locals := 22 }
set_option maxHeartbeats 4000000 in
set_option maxRecDepth 100000 in
theorem c_X4_full (l : Launch) (D : va_G) (cA : Nat → ClassId) (base : Nat) (a0 : Nat) (a1 : Int32) (mm : Mem) (z : (Int32) × Mem) (h : f_X4_full a0 a1 mm = some z) : Met l yX4_full wsX4_full rm_X4_full (va_Pc [.ref a0, .int a1] (mU D cA base mm)) (mQ eI D cA base z) 0 0 (mA base) := by
  refine Met.ofW (cc := cX4_full) (maxL := 3) (ret := (some .int)) (by decide) rfl ?_
  intro p e s m args below meth c s₁ B hml hv
  obtain ⟨rfl, hH, hT⟩ := hv
  have C : CallFix p m c cX4_full 3 s ([.ref a0, .int a1]).toArray wsX4_full RX4 := ⟨B.exec, B.bytes, hml, findClass_of_methodNamed B.named, atoms_spec (ws := wsX4_full) B.pre⟩
  have hr := B.returns
  have hlocks := B.notSynchronized
  have w4 : ∀ w ∈ u_ws RX4 TX4 34, w ∈ wsX4_full := by decide +kernel
  have k50 : Cond.fieldLink RX4 50 "SegmentMergesModel" "full" "I" ∈ wsX4_full := by decide +kernel
  have k84 : Cond.fieldLink RX4 84 "SegmentMergesModel" "thrown" "I" ∈ wsX4_full := by decide +kernel
  have hS : va_S (mA base) s.heap s.heap [] := va_S.rf
  have hl := lv_entry ([.ref a0, .int a1]) (n := 3) (Nat.le_of_ble_eq_true rfl)
  rw [lg_entry_eq]
  generalize (lg_sl ([.ref a0, .int a1]) ++ List.replicate (3 - (lg_sl ([.ref a0, .int a1])).length) Slot.unset).toArray = ls at hl ⊢
  have hl : lv_has ls 3 [(0, .ref a0), (1, .int a1)] := hl
  unfold f_X4_full at h
  refine lv_aload_n C.1 C.2.1 dX4_full_0 rfl (lv_at hl 0 rfl) ?_
  refine lv_iconst (v := 0) C.1 C.2.1 dX4_full_1 (by decide) ?_
  refine r_pI C hT hH hS (t := 4) (k := 0) (T := TX4) rfl w4 tyX4_ok nmX4 (by decide) (by decide) rfl rfl k84 (Or.inl rfl) dX4_full_2 h (fun mm H locs hH hS h => ?_)
  refine lv_iload_n C.1 C.2.1 dX4_full_5 rfl (lv_at hl 1 rfl) ?_
  refine lv_iconst (v := 2) C.1 C.2.1 dX4_full_6 (by decide) ?_
  refine lv_iconst (v := 5) C.1 C.2.1 dX4_full_7 (by decide) ?_
  refine r_callSI C hT hH hS (As := [.int a1, .int 2, .int 5]) (fun z1 hz => c_X4_in l D cA base a1 2 5 _ z1 hz) (va_cwS 3 C.2.2.2.2 gX4_full_X4_in rfl rfl rfl (by decide +kernel) ⟨Nat.le_of_ble_eq_true rfl, Nat.le_of_ble_eq_true rfl⟩) rfl hl.1 rfl (Nat.le_of_ble_eq_true rfl) dX4_full_8 ⟨by decide, by decide⟩ h (fun v1 mm H locs hH hS h => ?_)
  refine lv_if_ne (tgt := 17) C.1 C.2.1 dX4_full_11 (by decide) (fun hc => ?_) (fun hc => ?_)
  · have h := ifc_f hc h
    refine lv_aload_n C.1 C.2.1 dX4_full_17 rfl (lv_at hl 0 rfl) ?_
    refine r_gI C hT hH (t := 4) (k := 18) (T := TX4) rfl w4 (by decide) (by decide) rfl k50 dX4_full_18 h (fun v2 h => ?_)
    refine lv_istore_n (lv' := [(2, .int v2), (0, .ref a0), (1, .int a1)]) C.1 C.2.1 dX4_full_21 rfl hl (by decide) rfl (fun ls hl => ?_)
    refine lv_aload_n C.1 C.2.1 dX4_full_22 rfl (lv_at hl 1 rfl) ?_
    refine lv_iload_n C.1 C.2.1 dX4_full_23 rfl (lv_at hl 2 rfl) ?_
    refine r_pI C hT hH hS (t := 4) (k := 18) (T := TX4) rfl w4 tyX4_ok nmX4 (by decide) (by decide) rfl rfl k50 (Or.inl rfl) dX4_full_24 h (fun mm H locs hH hS h => ?_)
    refine lv_iload_n C.1 C.2.1 dX4_full_27 rfl (lv_at hl 0 rfl) ?_
    exact r_iret C hT hH hS hr hlocks (by decide) (by decide) dX4_full_28 h
  · have h := ifc_t hc h
    refine lv_bipush (v := (-2)) C.1 C.2.1 dX4_full_14 (by decide) ?_
    exact r_iret C hT hH hS hr hlocks (by decide) (by decide) dX4_full_16 h
abbrev rm_X4_due : Room := { frames := 0, cells := 0, slots := 0, locals := 0 }
set_option maxHeartbeats 4000000 in
set_option maxRecDepth 100000 in
theorem c_X4_due (l : Launch) (D : va_G) (cA : Nat → ClassId) (base : Nat) (a0 : Nat) (mm : Mem) (z : (Int32) × Mem) (h : f_X4_due a0 mm = some z) : Met l yX4_due wsX4_due rm_X4_due (va_Pc [.ref a0] (mU D cA base mm)) (mQ eI D cA base z) 0 0 (mA base) := by
  refine Met.ofW (cc := cX4_due) (maxL := 5) (ret := (some .int)) (by decide) rfl ?_
  intro p e s m args below meth c s₁ B hml hv
  obtain ⟨rfl, hH, hT⟩ := hv
  have C : CallFix p m c cX4_due 5 s ([.ref a0]).toArray wsX4_due RX4 := ⟨B.exec, B.bytes, hml, findClass_of_methodNamed B.named, atoms_spec (ws := wsX4_due) B.pre⟩
  have hr := B.returns
  have hlocks := B.notSynchronized
  have w4 : ∀ w ∈ u_ws RX4 TX4 34, w ∈ wsX4_due := by decide +kernel
  have k25 : Cond.fieldLink RX4 25 "SegmentMergesModel" "order" "[I" ∈ wsX4_due := by decide +kernel
  have k35 : Cond.fieldLink RX4 35 "SegmentMergesModel" "tier" "[I" ∈ wsX4_due := by decide +kernel
  have k50 : Cond.fieldLink RX4 50 "SegmentMergesModel" "full" "I" ∈ wsX4_due := by decide +kernel
  have k84 : Cond.fieldLink RX4 84 "SegmentMergesModel" "thrown" "I" ∈ wsX4_due := by decide +kernel
  have k102 : Cond.fieldLink RX4 102 "SegmentMergesModel" "segments" "I" ∈ wsX4_due := by decide +kernel
  have L28 : ∀ (n : Nat) (x0 : Nat) (x1 : Int32) (x2 : Int32) (x3 : Int32) (x4 : Int32) (mm : Mem) (H : Heap) (locs : List Loc) (ls : Array Slot) (zz : (Int32 × Int32) × Mem), mH D cA base mm H → va_S (mA base) s.heap H locs → lv_has ls 5 [(0, .ref x0), (1, .int x1), (2, .int x2), (3, .int x3), (4, .int x4)] → f_X4_due_L28 n x0 x1 x2 x3 x4 mm = some zz → (∀ (H : Heap) (locs : List Loc) (ls : Array Slot), mH D cA base zz.2 H → va_S (mA base) s.heap H locs → lv_has ls 5 [(0, .ref x0), (1, .int x1), (2, .int x2), (3, .int zz.1.1), (4, .int zz.1.2)] → W p l e rm_X4_due s m [.ref a0].toArray below meth c H locs 0 0 (MQ below (mQ eI D cA base z) [.ref a0].toArray s 0 0 (mA base)) (F0 m 81 ls [])) → W p l e rm_X4_due s m [.ref a0].toArray below meth c H locs 0 0 (MQ below (mQ eI D cA base z) [.ref a0].toArray s 0 0 (mA base)) (F0 m 28 ls []) := by
    intro n
    induction n with
    | zero =>
      intro x0 x1 x2 x3 x4 mm H locs ls zz hH hS hl h kk
      exact (fl_inv h).elim
    | succ n ih =>
      intro x0 x1 x2 x3 x4 mm H locs ls zz hH hS hl h kk
      unfold f_X4_due_L28 at h
      refine lv_iload C.1 C.2.1 dX4_due_28 (lv_at hl 4 rfl) ?_
      refine lv_aload_n C.1 C.2.1 dX4_due_30 rfl (lv_at hl 0 rfl) ?_
      refine r_gI C hT hH (t := 4) (k := 18) (T := TX4) rfl w4 (by decide) (by decide) rfl k50 dX4_due_31 h (fun v3 h => ?_)
      refine lv_icmp_ge (tgt := 81) C.1 C.2.1 dX4_due_34 (by decide) (fun hc => ?_) (fun hc => ?_)
      · have h := ifc_t hc h
        obtain rfl := rt_inv h
        exact kk _ _ _ hH hS (lv_sub hl [0, 1, 2, 3, 4] rfl)
      · have h := ifc_f hc h
        refine lv_iload_n C.1 C.2.1 dX4_due_37 rfl (lv_at hl 3 rfl) ?_
        refine lv_if_eq (tgt := 73) C.1 C.2.1 dX4_due_38 (by decide) (fun hc => ?_) (fun hc => ?_)
        · have h := ifc_t hc h
          refine lv_iconst (v := 0) C.1 C.2.1 dX4_due_73 (by decide) ?_
          refine lv_istore_n (lv' := [(3, .int 0), (0, .ref x0), (1, .int x1), (2, .int x2), (4, .int x4)]) C.1 C.2.1 dX4_due_74 rfl hl (by decide) rfl (fun ls hl => ?_)
          refine lv_iinc (v := (x4 + 1)) (lv' := [(4, .int (x4 + 1)), (3, .int 0), (0, .ref x0), (1, .int x1), (2, .int x2)]) C.1 C.2.1 dX4_due_75 hl (k := 4) rfl rfl (by decide) rfl (fun ls hl => ?_)
          refine lv_goto (tgt := 28) C.1 C.2.1 dX4_due_78 (by decide) ?_
          exact ih x0 x1 x2 0 (x4 + 1) _ _ _ _ _ hH hS (lv_sub hl [2, 3, 4, 1, 0] rfl) h kk
        · have h := ifc_f hc h
          refine lv_aload_n C.1 C.2.1 dX4_due_41 rfl (lv_at hl 0 rfl) ?_
          refine r_gN C hT hH (t := 4) (k := 11) (T := TX4) rfl w4 (by decide) (by decide) rfl k35 dX4_due_42 h (fun b4 h => ?_)
          refine lv_aload_n C.1 C.2.1 dX4_due_45 rfl (lv_at hl 0 rfl) ?_
          refine r_gN C hT hH (t := 4) (k := 8) (T := TX4) rfl w4 (by decide) (by decide) rfl k25 dX4_due_46 h (fun b5 h => ?_)
          refine lv_iload_n C.1 C.2.1 dX4_due_49 rfl (lv_at hl 2 rfl) ?_
          refine lv_iload C.1 C.2.1 dX4_due_50 (lv_at hl 4 rfl) ?_
          refine lv_iadd C.1 C.2.1 dX4_due_52 ?_
          refine r_lI C hT hH dX4_due_53 h (fun v6 h => ?_)
          refine r_lI C hT hH dX4_due_54 h (fun v7 h => ?_)
          refine lv_aload_n C.1 C.2.1 dX4_due_55 rfl (lv_at hl 0 rfl) ?_
          refine r_gN C hT hH (t := 4) (k := 11) (T := TX4) rfl w4 (by decide) (by decide) rfl k35 dX4_due_56 h (fun b8 h => ?_)
          refine lv_aload_n C.1 C.2.1 dX4_due_59 rfl (lv_at hl 0 rfl) ?_
          refine r_gN C hT hH (t := 4) (k := 8) (T := TX4) rfl w4 (by decide) (by decide) rfl k25 dX4_due_60 h (fun b9 h => ?_)
          refine lv_iload_n C.1 C.2.1 dX4_due_63 rfl (lv_at hl 2 rfl) ?_
          refine r_lI C hT hH dX4_due_64 h (fun v10 h => ?_)
          refine r_lI C hT hH dX4_due_65 h (fun v11 h => ?_)
          refine lv_icmp_ne (tgt := 73) C.1 C.2.1 dX4_due_66 (by decide) (fun hc => ?_) (fun hc => ?_)
          · have h := ifc_f hc h
            refine lv_iconst (v := 0) C.1 C.2.1 dX4_due_73 (by decide) ?_
            refine lv_istore_n (lv' := [(3, .int 0), (0, .ref x0), (1, .int x1), (2, .int x2), (4, .int x4)]) C.1 C.2.1 dX4_due_74 rfl hl (by decide) rfl (fun ls hl => ?_)
            refine lv_iinc (v := (x4 + 1)) (lv' := [(4, .int (x4 + 1)), (3, .int 0), (0, .ref x0), (1, .int x1), (2, .int x2)]) C.1 C.2.1 dX4_due_75 hl (k := 4) rfl rfl (by decide) rfl (fun ls hl => ?_)
            refine lv_goto (tgt := 28) C.1 C.2.1 dX4_due_78 (by decide) ?_
            exact ih x0 x1 x2 0 (x4 + 1) _ _ _ _ _ hH hS (lv_sub hl [2, 3, 4, 1, 0] rfl) h kk
          · have h := ifc_t hc h
            refine lv_iconst (v := 1) C.1 C.2.1 dX4_due_69 (by decide) ?_
            refine lv_goto (tgt := 74) C.1 C.2.1 dX4_due_70 (by decide) ?_
            refine lv_istore_n (lv' := [(3, .int 1), (0, .ref x0), (1, .int x1), (2, .int x2), (4, .int x4)]) C.1 C.2.1 dX4_due_74 rfl hl (by decide) rfl (fun ls hl => ?_)
            refine lv_iinc (v := (x4 + 1)) (lv' := [(4, .int (x4 + 1)), (3, .int 1), (0, .ref x0), (1, .int x1), (2, .int x2)]) C.1 C.2.1 dX4_due_75 hl (k := 4) rfl rfl (by decide) rfl (fun ls hl => ?_)
            refine lv_goto (tgt := 28) C.1 C.2.1 dX4_due_78 (by decide) ?_
            exact ih x0 x1 x2 1 (x4 + 1) _ _ _ _ _ hH hS (lv_sub hl [2, 3, 4, 1, 0] rfl) h kk
  have L10 : ∀ (n : Nat) (x0 : Nat) (x1 : Int32) (x2 : Int32) (mm : Mem) (H : Heap) (locs : List Loc) (ls : Array Slot) (zz : (Int32 × Int32) × Mem), mH D cA base mm H → va_S (mA base) s.heap H locs → lv_has ls 5 [(0, .ref x0), (1, .int x1), (2, .int x2)] → f_X4_due_L10 n x0 x1 x2 mm = some zz → (∀ (H : Heap) (locs : List Loc) (ls : Array Slot), mH D cA base zz.2 H → va_S (mA base) s.heap H locs → lv_has ls 5 [(0, .ref x0), (1, .int zz.1.1), (2, .int zz.1.2)] → W p l e rm_X4_due s m [.ref a0].toArray below meth c H locs 0 0 (MQ below (mQ eI D cA base z) [.ref a0].toArray s 0 0 (mA base)) (F0 m 126 ls [])) → W p l e rm_X4_due s m [.ref a0].toArray below meth c H locs 0 0 (MQ below (mQ eI D cA base z) [.ref a0].toArray s 0 0 (mA base)) (F0 m 10 ls []) := by
    intro n
    induction n with
    | zero =>
      intro x0 x1 x2 mm H locs ls zz hH hS hl h kk
      exact (fl_inv h).elim
    | succ n ih =>
      intro x0 x1 x2 mm H locs ls zz hH hS hl h kk
      unfold f_X4_due_L10 at h
      refine lv_iload_n C.1 C.2.1 dX4_due_10 rfl (lv_at hl 2 rfl) ?_
      refine lv_aload_n C.1 C.2.1 dX4_due_11 rfl (lv_at hl 0 rfl) ?_
      refine r_gI C hT hH (t := 4) (k := 18) (T := TX4) rfl w4 (by decide) (by decide) rfl k50 dX4_due_12 h (fun v1 h => ?_)
      refine lv_iadd C.1 C.2.1 dX4_due_15 ?_
      refine lv_aload_n C.1 C.2.1 dX4_due_16 rfl (lv_at hl 0 rfl) ?_
      refine r_gI C hT hH (t := 4) (k := 7) (T := TX4) rfl w4 (by decide) (by decide) rfl k102 dX4_due_17 h (fun v2 h => ?_)
      refine lv_icmp_gt (tgt := 126) C.1 C.2.1 dX4_due_20 (by decide) (fun hc => ?_) (fun hc => ?_)
      · have h := ifc_t hc h
        obtain rfl := rt_inv h
        exact kk _ _ _ hH hS (lv_sub hl [0, 1, 2] rfl)
      · have h := ifc_f hc h
        refine lv_iconst (v := 1) C.1 C.2.1 dX4_due_23 (by decide) ?_
        refine lv_istore_n (lv' := [(3, .int 1), (0, .ref x0), (1, .int x1), (2, .int x2)]) C.1 C.2.1 dX4_due_24 rfl hl (by decide) rfl (fun ls hl => ?_)
        refine lv_iconst (v := 1) C.1 C.2.1 dX4_due_25 (by decide) ?_
        refine lv_istore (lv' := [(4, .int 1), (3, .int 1), (0, .ref x0), (1, .int x1), (2, .int x2)]) C.1 C.2.1 dX4_due_26 hl (by decide) rfl (fun ls hl => ?_)
        obtain ⟨x12, mx12, hq, h⟩ := bnd_inv h
        refine L28 2100 x0 x1 x2 1 1 _ _ _ _ (x12, mx12) hH hS (lv_sub hl [2, 3, 4, 1, 0] rfl) hq (fun H locs ls hH hS hl => ?_)
        refine lv_iload_n C.1 C.2.1 dX4_due_81 rfl (lv_at hl 3 rfl) ?_
        refine lv_if_eq (tgt := 118) C.1 C.2.1 dX4_due_82 (by decide) (fun hc => ?_) (fun hc => ?_)
        · have h := ifc_t hc h
          refine lv_iload_n C.1 C.2.1 dX4_due_118 rfl (lv_at hl 1 rfl) ?_
          refine lv_istore_n (lv' := [(1, .int x1), (0, .ref x0), (2, .int x2), (3, .int x12.1), (4, .int x12.2)]) C.1 C.2.1 dX4_due_119 rfl hl (by decide) rfl (fun ls hl => ?_)
          refine lv_iinc (v := (x2 + 1)) (lv' := [(2, .int (x2 + 1)), (1, .int x1), (0, .ref x0), (3, .int x12.1), (4, .int x12.2)]) C.1 C.2.1 dX4_due_120 hl (k := 2) rfl rfl (by decide) rfl (fun ls hl => ?_)
          refine lv_goto (tgt := 10) C.1 C.2.1 dX4_due_123 (by decide) ?_
          exact ih x0 x1 (x2 + 1) _ _ _ _ _ hH hS (lv_sub hl [2, 1, 0] rfl) h kk
        · have h := ifc_f hc h
          refine lv_iload_n C.1 C.2.1 dX4_due_85 rfl (lv_at hl 1 rfl) ?_
          refine lv_if_lt (tgt := 114) C.1 C.2.1 dX4_due_86 (by decide) (fun hc => ?_) (fun hc => ?_)
          · have h := ifc_t hc h
            refine lv_iload_n C.1 C.2.1 dX4_due_114 rfl (lv_at hl 2 rfl) ?_
            refine lv_goto (tgt := 119) C.1 C.2.1 dX4_due_115 (by decide) ?_
            refine lv_istore_n (lv' := [(1, .int x2), (0, .ref x0), (2, .int x2), (3, .int x12.1), (4, .int x12.2)]) C.1 C.2.1 dX4_due_119 rfl hl (by decide) rfl (fun ls hl => ?_)
            refine lv_iinc (v := (x2 + 1)) (lv' := [(2, .int (x2 + 1)), (1, .int x2), (0, .ref x0), (3, .int x12.1), (4, .int x12.2)]) C.1 C.2.1 dX4_due_120 hl (k := 2) rfl rfl (by decide) rfl (fun ls hl => ?_)
            refine lv_goto (tgt := 10) C.1 C.2.1 dX4_due_123 (by decide) ?_
            exact ih x0 x2 (x2 + 1) _ _ _ _ _ hH hS (lv_sub hl [2, 1, 0] rfl) h kk
          · have h := ifc_f hc h
            refine lv_aload_n C.1 C.2.1 dX4_due_89 rfl (lv_at hl 0 rfl) ?_
            refine r_gN C hT hH (t := 4) (k := 11) (T := TX4) rfl w4 (by decide) (by decide) rfl k35 dX4_due_90 h (fun b13 h => ?_)
            refine lv_aload_n C.1 C.2.1 dX4_due_93 rfl (lv_at hl 0 rfl) ?_
            refine r_gN C hT hH (t := 4) (k := 8) (T := TX4) rfl w4 (by decide) (by decide) rfl k25 dX4_due_94 h (fun b14 h => ?_)
            refine lv_iload_n C.1 C.2.1 dX4_due_97 rfl (lv_at hl 2 rfl) ?_
            refine r_lI C hT hH dX4_due_98 h (fun v15 h => ?_)
            refine r_lI C hT hH dX4_due_99 h (fun v16 h => ?_)
            refine lv_aload_n C.1 C.2.1 dX4_due_100 rfl (lv_at hl 0 rfl) ?_
            refine r_gN C hT hH (t := 4) (k := 11) (T := TX4) rfl w4 (by decide) (by decide) rfl k35 dX4_due_101 h (fun b17 h => ?_)
            refine lv_aload_n C.1 C.2.1 dX4_due_104 rfl (lv_at hl 0 rfl) ?_
            refine r_gN C hT hH (t := 4) (k := 8) (T := TX4) rfl w4 (by decide) (by decide) rfl k25 dX4_due_105 h (fun b18 h => ?_)
            refine lv_iload_n C.1 C.2.1 dX4_due_108 rfl (lv_at hl 1 rfl) ?_
            refine r_lI C hT hH dX4_due_109 h (fun v19 h => ?_)
            refine r_lI C hT hH dX4_due_110 h (fun v20 h => ?_)
            refine lv_icmp_ge (tgt := 118) C.1 C.2.1 dX4_due_111 (by decide) (fun hc => ?_) (fun hc => ?_)
            · have h := ifc_t hc h
              refine lv_iload_n C.1 C.2.1 dX4_due_118 rfl (lv_at hl 1 rfl) ?_
              refine lv_istore_n (lv' := [(1, .int x1), (0, .ref x0), (2, .int x2), (3, .int x12.1), (4, .int x12.2)]) C.1 C.2.1 dX4_due_119 rfl hl (by decide) rfl (fun ls hl => ?_)
              refine lv_iinc (v := (x2 + 1)) (lv' := [(2, .int (x2 + 1)), (1, .int x1), (0, .ref x0), (3, .int x12.1), (4, .int x12.2)]) C.1 C.2.1 dX4_due_120 hl (k := 2) rfl rfl (by decide) rfl (fun ls hl => ?_)
              refine lv_goto (tgt := 10) C.1 C.2.1 dX4_due_123 (by decide) ?_
              exact ih x0 x1 (x2 + 1) _ _ _ _ _ hH hS (lv_sub hl [2, 1, 0] rfl) h kk
            · have h := ifc_f hc h
              refine lv_iload_n C.1 C.2.1 dX4_due_114 rfl (lv_at hl 2 rfl) ?_
              refine lv_goto (tgt := 119) C.1 C.2.1 dX4_due_115 (by decide) ?_
              refine lv_istore_n (lv' := [(1, .int x2), (0, .ref x0), (2, .int x2), (3, .int x12.1), (4, .int x12.2)]) C.1 C.2.1 dX4_due_119 rfl hl (by decide) rfl (fun ls hl => ?_)
              refine lv_iinc (v := (x2 + 1)) (lv' := [(2, .int (x2 + 1)), (1, .int x2), (0, .ref x0), (3, .int x12.1), (4, .int x12.2)]) C.1 C.2.1 dX4_due_120 hl (k := 2) rfl rfl (by decide) rfl (fun ls hl => ?_)
              refine lv_goto (tgt := 10) C.1 C.2.1 dX4_due_123 (by decide) ?_
              exact ih x0 x2 (x2 + 1) _ _ _ _ _ hH hS (lv_sub hl [2, 1, 0] rfl) h kk
  have hS : va_S (mA base) s.heap s.heap [] := va_S.rf
  have hl := lv_entry ([.ref a0]) (n := 5) (Nat.le_of_ble_eq_true rfl)
  rw [lg_entry_eq]
  generalize (lg_sl ([.ref a0]) ++ List.replicate (5 - (lg_sl ([.ref a0])).length) Slot.unset).toArray = ls at hl ⊢
  have hl : lv_has ls 5 [(0, .ref a0)] := hl
  unfold f_X4_due at h
  refine lv_aload_n C.1 C.2.1 dX4_due_0 rfl (lv_at hl 0 rfl) ?_
  refine lv_iconst (v := 0) C.1 C.2.1 dX4_due_1 (by decide) ?_
  refine r_pI C hT hH hS (t := 4) (k := 0) (T := TX4) rfl w4 tyX4_ok nmX4 (by decide) (by decide) rfl rfl k84 (Or.inl rfl) dX4_due_2 h (fun mm H locs hH hS h => ?_)
  refine lv_bipush (v := (-3)) C.1 C.2.1 dX4_due_5 (by decide) ?_
  refine lv_istore_n (lv' := [(1, .int (-3)), (0, .ref a0)]) C.1 C.2.1 dX4_due_7 rfl hl (by decide) rfl (fun ls hl => ?_)
  refine lv_iconst (v := 0) C.1 C.2.1 dX4_due_8 (by decide) ?_
  refine lv_istore_n (lv' := [(2, .int 0), (1, .int (-3)), (0, .ref a0)]) C.1 C.2.1 dX4_due_9 rfl hl (by decide) rfl (fun ls hl => ?_)
  obtain ⟨x21, mx21, hq, h⟩ := bnd_inv h
  refine L10 2100 a0 (-3) 0 _ _ _ _ (x21, mx21) hH hS (lv_sub hl [2, 1, 0] rfl) hq (fun H locs ls hH hS hl => ?_)
  refine lv_iload_n C.1 C.2.1 dX4_due_126 rfl (lv_at hl 1 rfl) ?_
  exact r_iret C hT hH hS hr hlocks (by decide) (by decide) dX4_due_127 h
abbrev rm_X4_cheapest : Room := { frames := 1, cells := 0, slots := 0, locals := 23 }
set_option maxHeartbeats 4000000 in
set_option maxRecDepth 100000 in
theorem c_X4_cheapest (l : Launch) (D : va_G) (cA : Nat → ClassId) (base : Nat) (a0 : Nat) (a1 : Int32) (mm : Mem) (z : (Int32) × Mem) (h : f_X4_cheapest a0 a1 mm = some z) : Met l yX4_cheapest wsX4_cheapest rm_X4_cheapest (va_Pc [.ref a0, .int a1] (mU D cA base mm)) (mQ eI D cA base z) 0 0 (mA base) := by
  refine Met.ofW (cc := cX4_cheapest) (maxL := 7) (ret := (some .int)) (by decide) rfl ?_
  intro p e s m args below meth c s₁ B hml hv
  obtain ⟨rfl, hH, hT⟩ := hv
  have C : CallFix p m c cX4_cheapest 7 s ([.ref a0, .int a1]).toArray wsX4_cheapest RX4 := ⟨B.exec, B.bytes, hml, findClass_of_methodNamed B.named, atoms_spec (ws := wsX4_cheapest) B.pre⟩
  have hr := B.returns
  have hlocks := B.notSynchronized
  have w4 : ∀ w ∈ u_ws RX4 TX4 34, w ∈ wsX4_cheapest := by decide +kernel
  have k25 : Cond.fieldLink RX4 25 "SegmentMergesModel" "order" "[I" ∈ wsX4_cheapest := by decide +kernel
  have k84 : Cond.fieldLink RX4 84 "SegmentMergesModel" "thrown" "I" ∈ wsX4_cheapest := by decide +kernel
  have k102 : Cond.fieldLink RX4 102 "SegmentMergesModel" "segments" "I" ∈ wsX4_cheapest := by decide +kernel
  have L43 : ∀ (n : Nat) (x0 : Nat) (x1 : Int32) (x2 : Int32) (x3 : Int32) (x4 : Int32) (x5 : Int32) (x6 : Int32) (mm : Mem) (H : Heap) (locs : List Loc) (ls : Array Slot) (zz : (Int32 × Int32) × Mem), mH D cA base mm H → va_S (mA base) s.heap H locs → lv_has ls 7 [(0, .ref x0), (1, .int x1), (2, .int x2), (3, .int x3), (4, .int x4), (5, .int x5), (6, .int x6)] → f_X4_cheapest_L43 n x0 x1 x2 x3 x4 x5 x6 mm = some zz → (∀ (H : Heap) (locs : List Loc) (ls : Array Slot), mH D cA base zz.2 H → va_S (mA base) s.heap H locs → lv_has ls 7 [(0, .ref x0), (1, .int x1), (2, .int x2), (3, .int x3), (4, .int x4), (5, .int zz.1.1), (6, .int zz.1.2)] → W p l e rm_X4_cheapest s m [.ref a0, .int a1].toArray below meth c H locs 0 0 (MQ below (mQ eI D cA base z) [.ref a0, .int a1].toArray s 0 0 (mA base)) (F0 m 74 ls [])) → W p l e rm_X4_cheapest s m [.ref a0, .int a1].toArray below meth c H locs 0 0 (MQ below (mQ eI D cA base z) [.ref a0, .int a1].toArray s 0 0 (mA base)) (F0 m 43 ls []) := by
    intro n
    induction n with
    | zero =>
      intro x0 x1 x2 x3 x4 x5 x6 mm H locs ls zz hH hS hl h kk
      exact (fl_inv h).elim
    | succ n ih =>
      intro x0 x1 x2 x3 x4 x5 x6 mm H locs ls zz hH hS hl h kk
      unfold f_X4_cheapest_L43 at h
      refine lv_iload C.1 C.2.1 dX4_cheapest_43 (lv_at hl 6 rfl) ?_
      refine lv_iload_n C.1 C.2.1 dX4_cheapest_45 rfl (lv_at hl 1 rfl) ?_
      refine lv_icmp_ge (tgt := 74) C.1 C.2.1 dX4_cheapest_46 (by decide) (fun hc => ?_) (fun hc => ?_)
      · have h := ifc_t hc h
        obtain rfl := rt_inv h
        exact kk _ _ _ hH hS (lv_sub hl [0, 1, 2, 3, 4, 5, 6] rfl)
      · have h := ifc_f hc h
        refine lv_iload C.1 C.2.1 dX4_cheapest_49 (lv_at hl 5 rfl) ?_
        refine lv_aload_n C.1 C.2.1 dX4_cheapest_51 rfl (lv_at hl 0 rfl) ?_
        refine lv_aload_n C.1 C.2.1 dX4_cheapest_52 rfl (lv_at hl 0 rfl) ?_
        refine r_gN C hT hH (t := 4) (k := 8) (T := TX4) rfl w4 (by decide) (by decide) rfl k25 dX4_cheapest_53 h (fun b3 h => ?_)
        refine lv_iload C.1 C.2.1 dX4_cheapest_56 (lv_at hl 4 rfl) ?_
        refine lv_iload C.1 C.2.1 dX4_cheapest_58 (lv_at hl 6 rfl) ?_
        refine lv_iadd C.1 C.2.1 dX4_cheapest_60 ?_
        refine r_lI C hT hH dX4_cheapest_61 h (fun v4 h => ?_)
        refine r_callVI C hT hH hS (t := 4) (As := [.int v4]) (fun z1 hz => c_X4_livingOf l D cA base x0 v4 _ z1 hz) (cwV 1 C.2.2.2.2 gX4_cheapest_X4_livingOf rfl rfl rfl (by decide +kernel) ⟨Nat.le_of_ble_eq_true rfl, Nat.le_of_ble_eq_true rfl⟩) rfl (by decide) rfl hl.1 rfl (Nat.le_of_ble_eq_true rfl) dX4_cheapest_62 ⟨by decide, by decide⟩ h (fun v5 mm H locs hH hS h => ?_)
        refine lv_iadd C.1 C.2.1 dX4_cheapest_65 ?_
        refine lv_istore (lv' := [(5, .int (x5 + v5)), (0, .ref x0), (1, .int x1), (2, .int x2), (3, .int x3), (4, .int x4), (6, .int x6)]) C.1 C.2.1 dX4_cheapest_66 hl (by decide) rfl (fun ls hl => ?_)
        refine lv_iinc (v := (x6 + 1)) (lv' := [(6, .int (x6 + 1)), (5, .int (x5 + v5)), (0, .ref x0), (1, .int x1), (2, .int x2), (3, .int x3), (4, .int x4)]) C.1 C.2.1 dX4_cheapest_68 hl (k := 6) rfl rfl (by decide) rfl (fun ls hl => ?_)
        refine lv_goto (tgt := 43) C.1 C.2.1 dX4_cheapest_71 (by decide) ?_
        exact ih x0 x1 x2 x3 x4 (x5 + v5) (x6 + 1) _ _ _ _ _ hH hS (lv_sub hl [2, 3, 4, 5, 6, 1, 0] rfl) h kk
  have L26 : ∀ (n : Nat) (x0 : Nat) (x1 : Int32) (x2 : Int32) (x3 : Int32) (x4 : Int32) (mm : Mem) (H : Heap) (locs : List Loc) (ls : Array Slot) (zz : (Int32 × Int32 × Int32) × Mem), mH D cA base mm H → va_S (mA base) s.heap H locs → lv_has ls 7 [(0, .ref x0), (1, .int x1), (2, .int x2), (3, .int x3), (4, .int x4)] → f_X4_cheapest_L26 n x0 x1 x2 x3 x4 mm = some zz → (∀ (H : Heap) (locs : List Loc) (ls : Array Slot), mH D cA base zz.2 H → va_S (mA base) s.heap H locs → lv_has ls 7 [(0, .ref x0), (1, .int x1), (2, .int zz.1.1), (3, .int zz.1.2.1), (4, .int zz.1.2.2)] → W p l e rm_X4_cheapest s m [.ref a0, .int a1].toArray below meth c H locs 0 0 (MQ below (mQ eI D cA base z) [.ref a0, .int a1].toArray s 0 0 (mA base)) (F0 m 96 ls [])) → W p l e rm_X4_cheapest s m [.ref a0, .int a1].toArray below meth c H locs 0 0 (MQ below (mQ eI D cA base z) [.ref a0, .int a1].toArray s 0 0 (mA base)) (F0 m 26 ls []) := by
    intro n
    induction n with
    | zero =>
      intro x0 x1 x2 x3 x4 mm H locs ls zz hH hS hl h kk
      exact (fl_inv h).elim
    | succ n ih =>
      intro x0 x1 x2 x3 x4 mm H locs ls zz hH hS hl h kk
      unfold f_X4_cheapest_L26 at h
      refine lv_iload C.1 C.2.1 dX4_cheapest_26 (lv_at hl 4 rfl) ?_
      refine lv_iload_n C.1 C.2.1 dX4_cheapest_28 rfl (lv_at hl 1 rfl) ?_
      refine lv_iadd C.1 C.2.1 dX4_cheapest_29 ?_
      refine lv_aload_n C.1 C.2.1 dX4_cheapest_30 rfl (lv_at hl 0 rfl) ?_
      refine r_gI C hT hH (t := 4) (k := 7) (T := TX4) rfl w4 (by decide) (by decide) rfl k102 dX4_cheapest_31 h (fun v2 h => ?_)
      refine lv_icmp_gt (tgt := 96) C.1 C.2.1 dX4_cheapest_34 (by decide) (fun hc => ?_) (fun hc => ?_)
      · have h := ifc_t hc h
        obtain rfl := rt_inv h
        exact kk _ _ _ hH hS (lv_sub hl [0, 1, 2, 3, 4] rfl)
      · have h := ifc_f hc h
        refine lv_iconst (v := 0) C.1 C.2.1 dX4_cheapest_37 (by decide) ?_
        refine lv_istore (lv' := [(5, .int 0), (0, .ref x0), (1, .int x1), (2, .int x2), (3, .int x3), (4, .int x4)]) C.1 C.2.1 dX4_cheapest_38 hl (by decide) rfl (fun ls hl => ?_)
        refine lv_iconst (v := 0) C.1 C.2.1 dX4_cheapest_40 (by decide) ?_
        refine lv_istore (lv' := [(6, .int 0), (5, .int 0), (0, .ref x0), (1, .int x1), (2, .int x2), (3, .int x3), (4, .int x4)]) C.1 C.2.1 dX4_cheapest_41 hl (by decide) rfl (fun ls hl => ?_)
        obtain ⟨x6, mx6, hq, h⟩ := bnd_inv h
        refine L43 2100 x0 x1 x2 x3 x4 0 0 _ _ _ _ (x6, mx6) hH hS (lv_sub hl [2, 3, 4, 5, 6, 1, 0] rfl) hq (fun H locs ls hH hS hl => ?_)
        refine lv_iload_n C.1 C.2.1 dX4_cheapest_74 rfl (lv_at hl 2 rfl) ?_
        refine lv_if_lt (tgt := 84) C.1 C.2.1 dX4_cheapest_75 (by decide) (fun hc => ?_) (fun hc => ?_)
        · have h := ifc_t hc h
          refine lv_iload C.1 C.2.1 dX4_cheapest_84 (lv_at hl 4 rfl) ?_
          refine lv_istore_n (lv' := [(2, .int x4), (0, .ref x0), (1, .int x1), (3, .int x3), (4, .int x4), (5, .int x6.1), (6, .int x6.2)]) C.1 C.2.1 dX4_cheapest_86 rfl hl (by decide) rfl (fun ls hl => ?_)
          refine lv_iload C.1 C.2.1 dX4_cheapest_87 (lv_at hl 5 rfl) ?_
          refine lv_istore_n (lv' := [(3, .int x6.1), (2, .int x4), (0, .ref x0), (1, .int x1), (4, .int x4), (5, .int x6.1), (6, .int x6.2)]) C.1 C.2.1 dX4_cheapest_89 rfl hl (by decide) rfl (fun ls hl => ?_)
          refine lv_iinc (v := (x4 + 1)) (lv' := [(4, .int (x4 + 1)), (3, .int x6.1), (2, .int x4), (0, .ref x0), (1, .int x1), (5, .int x6.1), (6, .int x6.2)]) C.1 C.2.1 dX4_cheapest_90 hl (k := 4) rfl rfl (by decide) rfl (fun ls hl => ?_)
          refine lv_goto (tgt := 26) C.1 C.2.1 dX4_cheapest_93 (by decide) ?_
          exact ih x0 x1 x4 x6.1 (x4 + 1) _ _ _ _ _ hH hS (lv_sub hl [3, 4, 2, 1, 0] rfl) h kk
        · have h := ifc_f hc h
          refine lv_iload C.1 C.2.1 dX4_cheapest_78 (lv_at hl 5 rfl) ?_
          refine lv_iload_n C.1 C.2.1 dX4_cheapest_80 rfl (lv_at hl 3 rfl) ?_
          refine lv_icmp_ge (tgt := 90) C.1 C.2.1 dX4_cheapest_81 (by decide) (fun hc => ?_) (fun hc => ?_)
          · have h := ifc_t hc h
            refine lv_iinc (v := (x4 + 1)) (lv' := [(4, .int (x4 + 1)), (0, .ref x0), (1, .int x1), (2, .int x2), (3, .int x3), (5, .int x6.1), (6, .int x6.2)]) C.1 C.2.1 dX4_cheapest_90 hl (k := 4) rfl rfl (by decide) rfl (fun ls hl => ?_)
            refine lv_goto (tgt := 26) C.1 C.2.1 dX4_cheapest_93 (by decide) ?_
            exact ih x0 x1 x2 x3 (x4 + 1) _ _ _ _ _ hH hS (lv_sub hl [1, 2, 3, 4, 0] rfl) h kk
          · have h := ifc_f hc h
            refine lv_iload C.1 C.2.1 dX4_cheapest_84 (lv_at hl 4 rfl) ?_
            refine lv_istore_n (lv' := [(2, .int x4), (0, .ref x0), (1, .int x1), (3, .int x3), (4, .int x4), (5, .int x6.1), (6, .int x6.2)]) C.1 C.2.1 dX4_cheapest_86 rfl hl (by decide) rfl (fun ls hl => ?_)
            refine lv_iload C.1 C.2.1 dX4_cheapest_87 (lv_at hl 5 rfl) ?_
            refine lv_istore_n (lv' := [(3, .int x6.1), (2, .int x4), (0, .ref x0), (1, .int x1), (4, .int x4), (5, .int x6.1), (6, .int x6.2)]) C.1 C.2.1 dX4_cheapest_89 rfl hl (by decide) rfl (fun ls hl => ?_)
            refine lv_iinc (v := (x4 + 1)) (lv' := [(4, .int (x4 + 1)), (3, .int x6.1), (2, .int x4), (0, .ref x0), (1, .int x1), (5, .int x6.1), (6, .int x6.2)]) C.1 C.2.1 dX4_cheapest_90 hl (k := 4) rfl rfl (by decide) rfl (fun ls hl => ?_)
            refine lv_goto (tgt := 26) C.1 C.2.1 dX4_cheapest_93 (by decide) ?_
            exact ih x0 x1 x4 x6.1 (x4 + 1) _ _ _ _ _ hH hS (lv_sub hl [3, 4, 2, 1, 0] rfl) h kk
  have hS : va_S (mA base) s.heap s.heap [] := va_S.rf
  have hl := lv_entry ([.ref a0, .int a1]) (n := 7) (Nat.le_of_ble_eq_true rfl)
  rw [lg_entry_eq]
  generalize (lg_sl ([.ref a0, .int a1]) ++ List.replicate (7 - (lg_sl ([.ref a0, .int a1])).length) Slot.unset).toArray = ls at hl ⊢
  have hl : lv_has ls 7 [(0, .ref a0), (1, .int a1)] := hl
  unfold f_X4_cheapest at h
  refine lv_aload_n C.1 C.2.1 dX4_cheapest_0 rfl (lv_at hl 0 rfl) ?_
  refine lv_iconst (v := 0) C.1 C.2.1 dX4_cheapest_1 (by decide) ?_
  refine r_pI C hT hH hS (t := 4) (k := 0) (T := TX4) rfl w4 tyX4_ok nmX4 (by decide) (by decide) rfl rfl k84 (Or.inl rfl) dX4_cheapest_2 h (fun mm H locs hH hS h => ?_)
  refine lv_iload_n C.1 C.2.1 dX4_cheapest_5 rfl (lv_at hl 1 rfl) ?_
  refine lv_iconst (v := 2) C.1 C.2.1 dX4_cheapest_6 (by decide) ?_
  refine lv_bipush (v := 6) C.1 C.2.1 dX4_cheapest_7 (by decide) ?_
  refine r_callSI C hT hH hS (As := [.int a1, .int 2, .int 6]) (fun z1 hz => c_X4_in l D cA base a1 2 6 _ z1 hz) (va_cwS 3 C.2.2.2.2 gX4_cheapest_X4_in rfl rfl rfl (by decide +kernel) ⟨Nat.le_of_ble_eq_true rfl, Nat.le_of_ble_eq_true rfl⟩) rfl hl.1 rfl (Nat.le_of_ble_eq_true rfl) dX4_cheapest_9 ⟨by decide, by decide⟩ h (fun v1 mm H locs hH hS h => ?_)
  refine lv_if_ne (tgt := 18) C.1 C.2.1 dX4_cheapest_12 (by decide) (fun hc => ?_) (fun hc => ?_)
  · have h := ifc_f hc h
    refine lv_bipush (v := (-3)) C.1 C.2.1 dX4_cheapest_18 (by decide) ?_
    refine lv_istore_n (lv' := [(2, .int (-3)), (0, .ref a0), (1, .int a1)]) C.1 C.2.1 dX4_cheapest_20 rfl hl (by decide) rfl (fun ls hl => ?_)
    refine lv_iconst (v := 0) C.1 C.2.1 dX4_cheapest_21 (by decide) ?_
    refine lv_istore_n (lv' := [(3, .int 0), (2, .int (-3)), (0, .ref a0), (1, .int a1)]) C.1 C.2.1 dX4_cheapest_22 rfl hl (by decide) rfl (fun ls hl => ?_)
    refine lv_iconst (v := 0) C.1 C.2.1 dX4_cheapest_23 (by decide) ?_
    refine lv_istore (lv' := [(4, .int 0), (3, .int 0), (2, .int (-3)), (0, .ref a0), (1, .int a1)]) C.1 C.2.1 dX4_cheapest_24 hl (by decide) rfl (fun ls hl => ?_)
    obtain ⟨x7, mx7, hq, h⟩ := bnd_inv h
    refine L26 2100 a0 a1 (-3) 0 0 _ _ _ _ (x7, mx7) hH hS (lv_sub hl [3, 4, 2, 1, 0] rfl) hq (fun H locs ls hH hS hl => ?_)
    refine lv_iload_n C.1 C.2.1 dX4_cheapest_96 rfl (lv_at hl 2 rfl) ?_
    exact r_iret C hT hH hS hr hlocks (by decide) (by decide) dX4_cheapest_97 h
  · have h := ifc_t hc h
    refine lv_bipush (v := (-2)) C.1 C.2.1 dX4_cheapest_15 (by decide) ?_
    exact r_iret C hT hH hS hr hlocks (by decide) (by decide) dX4_cheapest_17 h
abbrev rm_X4_worst : Room := { frames := 1, cells := 0, slots := 0, locals := 23 }
set_option maxHeartbeats 4000000 in
set_option maxRecDepth 100000 in
theorem c_X4_worst (l : Launch) (D : va_G) (cA : Nat → ClassId) (base : Nat) (a0 : Nat) (mm : Mem) (z : (Int32) × Mem) (h : f_X4_worst a0 mm = some z) : Met l yX4_worst wsX4_worst rm_X4_worst (va_Pc [.ref a0] (mU D cA base mm)) (mQ eI D cA base z) 0 0 (mA base) := by
  refine Met.ofW (cc := cX4_worst) (maxL := 7) (ret := (some .int)) (by decide) rfl ?_
  intro p e s m args below meth c s₁ B hml hv
  obtain ⟨rfl, hH, hT⟩ := hv
  have C : CallFix p m c cX4_worst 7 s ([.ref a0]).toArray wsX4_worst RX4 := ⟨B.exec, B.bytes, hml, findClass_of_methodNamed B.named, atoms_spec (ws := wsX4_worst) B.pre⟩
  have hr := B.returns
  have hlocks := B.notSynchronized
  have w4 : ∀ w ∈ u_ws RX4 TX4 34, w ∈ wsX4_worst := by decide +kernel
  have k25 : Cond.fieldLink RX4 25 "SegmentMergesModel" "order" "[I" ∈ wsX4_worst := by decide +kernel
  have k38 : Cond.fieldLink RX4 38 "SegmentMergesModel" "rows" "[I" ∈ wsX4_worst := by decide +kernel
  have k84 : Cond.fieldLink RX4 84 "SegmentMergesModel" "thrown" "I" ∈ wsX4_worst := by decide +kernel
  have k102 : Cond.fieldLink RX4 102 "SegmentMergesModel" "segments" "I" ∈ wsX4_worst := by decide +kernel
  have L10 : ∀ (n : Nat) (x0 : Nat) (x1 : Int32) (x2 : Int32) (mm : Mem) (H : Heap) (locs : List Loc) (ls : Array Slot) (zz : (Int32 × Int32) × Mem), mH D cA base mm H → va_S (mA base) s.heap H locs → lv_has ls 7 [(0, .ref x0), (1, .int x1), (2, .int x2)] → f_X4_worst_L10 n x0 x1 x2 mm = some zz → (∀ (H : Heap) (locs : List Loc) (ls : Array Slot), mH D cA base zz.2 H → va_S (mA base) s.heap H locs → lv_has ls 7 [(0, .ref x0), (1, .int zz.1.1), (2, .int zz.1.2)] → W p l e rm_X4_worst s m [.ref a0].toArray below meth c H locs 0 0 (MQ below (mQ eI D cA base z) [.ref a0].toArray s 0 0 (mA base)) (F0 m 109 ls [])) → W p l e rm_X4_worst s m [.ref a0].toArray below meth c H locs 0 0 (MQ below (mQ eI D cA base z) [.ref a0].toArray s 0 0 (mA base)) (F0 m 10 ls []) := by
    intro n
    induction n with
    | zero =>
      intro x0 x1 x2 mm H locs ls zz hH hS hl h kk
      exact (fl_inv h).elim
    | succ n ih =>
      intro x0 x1 x2 mm H locs ls zz hH hS hl h kk
      unfold f_X4_worst_L10 at h
      refine lv_iload_n C.1 C.2.1 dX4_worst_10 rfl (lv_at hl 2 rfl) ?_
      refine lv_aload_n C.1 C.2.1 dX4_worst_11 rfl (lv_at hl 0 rfl) ?_
      refine r_gI C hT hH (t := 4) (k := 7) (T := TX4) rfl w4 (by decide) (by decide) rfl k102 dX4_worst_12 h (fun v1 h => ?_)
      refine lv_icmp_ge (tgt := 109) C.1 C.2.1 dX4_worst_15 (by decide) (fun hc => ?_) (fun hc => ?_)
      · have h := ifc_t hc h
        obtain rfl := rt_inv h
        exact kk _ _ _ hH hS (lv_sub hl [0, 1, 2] rfl)
      · have h := ifc_f hc h
        refine lv_aload_n C.1 C.2.1 dX4_worst_18 rfl (lv_at hl 0 rfl) ?_
        refine r_gN C hT hH (t := 4) (k := 8) (T := TX4) rfl w4 (by decide) (by decide) rfl k25 dX4_worst_19 h (fun b2 h => ?_)
        refine lv_iload_n C.1 C.2.1 dX4_worst_22 rfl (lv_at hl 2 rfl) ?_
        refine r_lI C hT hH dX4_worst_23 h (fun v3 h => ?_)
        refine lv_istore_n (lv' := [(3, .int v3), (0, .ref x0), (1, .int x1), (2, .int x2)]) C.1 C.2.1 dX4_worst_24 rfl hl (by decide) rfl (fun ls hl => ?_)
        refine lv_iload_n C.1 C.2.1 dX4_worst_25 rfl (lv_at hl 2 rfl) ?_
        refine lv_if_ge (tgt := 33) C.1 C.2.1 dX4_worst_26 (by decide) (fun hc => ?_) (fun hc => ?_)
        · have h := ifc_t hc h
          refine lv_aload_n C.1 C.2.1 dX4_worst_33 rfl (lv_at hl 1 rfl) ?_
          refine r_gN C hT hH (t := 4) (k := 8) (T := TX4) rfl w4 (by decide) (by decide) rfl k25 dX4_worst_34 h (fun b4 h => ?_)
          refine lv_iload_n C.1 C.2.1 dX4_worst_37 rfl (lv_at hl 2 rfl) ?_
          refine r_lI C hT hH dX4_worst_38 h (fun v5 h => ?_)
          refine lv_istore (lv' := [(4, .int v5), (3, .int v3), (0, .ref x0), (1, .int x1), (2, .int x2)]) C.1 C.2.1 dX4_worst_39 hl (by decide) rfl (fun ls hl => ?_)
          refine lv_aload_n C.1 C.2.1 dX4_worst_41 rfl (lv_at hl 2 rfl) ?_
          refine r_gN C hT hH (t := 4) (k := 12) (T := TX4) rfl w4 (by decide) (by decide) rfl k38 dX4_worst_42 h (fun b6 h => ?_)
          refine lv_iload_n C.1 C.2.1 dX4_worst_45 rfl (lv_at hl 1 rfl) ?_
          refine r_lI C hT hH dX4_worst_46 h (fun v7 h => ?_)
          refine lv_aload_n C.1 C.2.1 dX4_worst_47 rfl (lv_at hl 2 rfl) ?_
          refine lv_iload_n C.1 C.2.1 dX4_worst_48 rfl (lv_at hl 1 rfl) ?_
          refine r_callVI C hT hH hS (t := 4) (As := [.int v3]) (fun z1 hz => c_X4_livingOf l D cA base x0 v3 _ z1 hz) (cwV 1 C.2.2.2.2 gX4_worst_X4_livingOf rfl rfl rfl (by decide +kernel) ⟨Nat.le_of_ble_eq_true rfl, Nat.le_of_ble_eq_true rfl⟩) rfl (by decide) rfl hl.1 rfl (Nat.le_of_ble_eq_true rfl) dX4_worst_49 ⟨by decide, by decide⟩ h (fun v8 mm H locs hH hS h => ?_)
          refine lv_isub C.1 C.2.1 dX4_worst_52 ?_
          refine lv_istore (lv' := [(5, .int (v7 - v8)), (4, .int v5), (3, .int v3), (0, .ref x0), (1, .int x1), (2, .int x2)]) C.1 C.2.1 dX4_worst_53 hl (by decide) rfl (fun ls hl => ?_)
          refine lv_aload_n C.1 C.2.1 dX4_worst_55 rfl (lv_at hl 3 rfl) ?_
          refine r_gN C hT hH (t := 4) (k := 12) (T := TX4) rfl w4 (by decide) (by decide) rfl k38 dX4_worst_56 h (fun b9 h => ?_)
          refine lv_iload C.1 C.2.1 dX4_worst_59 (lv_at hl 1 rfl) ?_
          refine r_lI C hT hH dX4_worst_61 h (fun v10 h => ?_)
          refine lv_aload_n C.1 C.2.1 dX4_worst_62 rfl (lv_at hl 3 rfl) ?_
          refine lv_iload C.1 C.2.1 dX4_worst_63 (lv_at hl 1 rfl) ?_
          refine r_callVI C hT hH hS (t := 4) (As := [.int v5]) (fun z1 hz => c_X4_livingOf l D cA base x0 v5 _ z1 hz) (cwV 1 C.2.2.2.2 gX4_worst_X4_livingOf rfl rfl rfl (by decide +kernel) ⟨Nat.le_of_ble_eq_true rfl, Nat.le_of_ble_eq_true rfl⟩) rfl (by decide) rfl hl.1 rfl (Nat.le_of_ble_eq_true rfl) dX4_worst_65 ⟨by decide, by decide⟩ h (fun v11 mm H locs hH hS h => ?_)
          refine lv_isub C.1 C.2.1 dX4_worst_68 ?_
          refine lv_istore (lv' := [(6, .int (v10 - v11)), (5, .int (v7 - v8)), (4, .int v5), (3, .int v3), (0, .ref x0), (1, .int x1), (2, .int x2)]) C.1 C.2.1 dX4_worst_69 hl (by decide) rfl (fun ls hl => ?_)
          refine lv_iload_n C.1 C.2.1 dX4_worst_71 rfl (lv_at hl 5 rfl) ?_
          refine lv_if_lt (tgt := 97) C.1 C.2.1 dX4_worst_72 (by decide) (fun hc => ?_) (fun hc => ?_)
          · have h := ifc_t hc h
            refine lv_iload_n C.1 C.2.1 dX4_worst_97 rfl (lv_at hl 6 rfl) ?_
            refine lv_goto (tgt := 102) C.1 C.2.1 dX4_worst_98 (by decide) ?_
            refine lv_istore_n (lv' := [(1, .int x2), (6, .int (v10 - v11)), (5, .int (v7 - v8)), (4, .int v5), (3, .int v3), (0, .ref x0), (2, .int x2)]) C.1 C.2.1 dX4_worst_102 rfl hl (by decide) rfl (fun ls hl => ?_)
            refine lv_iinc (v := (x2 + 1)) (lv' := [(2, .int (x2 + 1)), (1, .int x2), (6, .int (v10 - v11)), (5, .int (v7 - v8)), (4, .int v5), (3, .int v3), (0, .ref x0)]) C.1 C.2.1 dX4_worst_103 hl (k := 6) rfl rfl (by decide) rfl (fun ls hl => ?_)
            refine lv_goto (tgt := 10) C.1 C.2.1 dX4_worst_106 (by decide) ?_
            exact ih x0 x2 (x2 + 1) _ _ _ _ _ hH hS (lv_sub hl [6, 1, 0] rfl) h kk
          · have h := ifc_f hc h
            refine lv_iload C.1 C.2.1 dX4_worst_75 (lv_at hl 1 rfl) ?_
            refine lv_aload_n C.1 C.2.1 dX4_worst_77 rfl (lv_at hl 4 rfl) ?_
            refine r_gN C hT hH (t := 4) (k := 12) (T := TX4) rfl w4 (by decide) (by decide) rfl k38 dX4_worst_78 h (fun b12 h => ?_)
            refine lv_iload C.1 C.2.1 dX4_worst_81 (lv_at hl 2 rfl) ?_
            refine r_lI C hT hH dX4_worst_83 h (fun v13 h => ?_)
            refine lv_imul C.1 C.2.1 dX4_worst_84 ?_
            refine lv_iload C.1 C.2.1 dX4_worst_85 (lv_at hl 0 rfl) ?_
            refine lv_aload_n C.1 C.2.1 dX4_worst_87 rfl (lv_at hl 4 rfl) ?_
            refine r_gN C hT hH (t := 4) (k := 12) (T := TX4) rfl w4 (by decide) (by decide) rfl k38 dX4_worst_88 h (fun b14 h => ?_)
            refine lv_iload_n C.1 C.2.1 dX4_worst_91 rfl (lv_at hl 3 rfl) ?_
            refine r_lI C hT hH dX4_worst_92 h (fun v15 h => ?_)
            refine lv_imul C.1 C.2.1 dX4_worst_93 ?_
            refine lv_icmp_le (tgt := 101) C.1 C.2.1 dX4_worst_94 (by decide) (fun hc => ?_) (fun hc => ?_)
            · have h := ifc_t hc h
              refine lv_iload_n C.1 C.2.1 dX4_worst_101 rfl (lv_at hl 5 rfl) ?_
              refine lv_istore_n (lv' := [(1, .int x1), (6, .int (v10 - v11)), (5, .int (v7 - v8)), (4, .int v5), (3, .int v3), (0, .ref x0), (2, .int x2)]) C.1 C.2.1 dX4_worst_102 rfl hl (by decide) rfl (fun ls hl => ?_)
              refine lv_iinc (v := (x2 + 1)) (lv' := [(2, .int (x2 + 1)), (1, .int x1), (6, .int (v10 - v11)), (5, .int (v7 - v8)), (4, .int v5), (3, .int v3), (0, .ref x0)]) C.1 C.2.1 dX4_worst_103 hl (k := 6) rfl rfl (by decide) rfl (fun ls hl => ?_)
              refine lv_goto (tgt := 10) C.1 C.2.1 dX4_worst_106 (by decide) ?_
              exact ih x0 x1 (x2 + 1) _ _ _ _ _ hH hS (lv_sub hl [6, 1, 0] rfl) h kk
            · have h := ifc_f hc h
              refine lv_iload_n C.1 C.2.1 dX4_worst_97 rfl (lv_at hl 6 rfl) ?_
              refine lv_goto (tgt := 102) C.1 C.2.1 dX4_worst_98 (by decide) ?_
              refine lv_istore_n (lv' := [(1, .int x2), (6, .int (v10 - v11)), (5, .int (v7 - v8)), (4, .int v5), (3, .int v3), (0, .ref x0), (2, .int x2)]) C.1 C.2.1 dX4_worst_102 rfl hl (by decide) rfl (fun ls hl => ?_)
              refine lv_iinc (v := (x2 + 1)) (lv' := [(2, .int (x2 + 1)), (1, .int x2), (6, .int (v10 - v11)), (5, .int (v7 - v8)), (4, .int v5), (3, .int v3), (0, .ref x0)]) C.1 C.2.1 dX4_worst_103 hl (k := 6) rfl rfl (by decide) rfl (fun ls hl => ?_)
              refine lv_goto (tgt := 10) C.1 C.2.1 dX4_worst_106 (by decide) ?_
              exact ih x0 x2 (x2 + 1) _ _ _ _ _ hH hS (lv_sub hl [6, 1, 0] rfl) h kk
        · have h := ifc_f hc h
          refine lv_iload_n C.1 C.2.1 dX4_worst_29 rfl (lv_at hl 0 rfl) ?_
          refine lv_goto (tgt := 39) C.1 C.2.1 dX4_worst_30 (by decide) ?_
          refine lv_istore (lv' := [(4, .int v3), (3, .int v3), (0, .ref x0), (1, .int x1), (2, .int x2)]) C.1 C.2.1 dX4_worst_39 hl (by decide) rfl (fun ls hl => ?_)
          refine lv_aload_n C.1 C.2.1 dX4_worst_41 rfl (lv_at hl 2 rfl) ?_
          refine r_gN C hT hH (t := 4) (k := 12) (T := TX4) rfl w4 (by decide) (by decide) rfl k38 dX4_worst_42 h (fun b16 h => ?_)
          refine lv_iload_n C.1 C.2.1 dX4_worst_45 rfl (lv_at hl 1 rfl) ?_
          refine r_lI C hT hH dX4_worst_46 h (fun v17 h => ?_)
          refine lv_aload_n C.1 C.2.1 dX4_worst_47 rfl (lv_at hl 2 rfl) ?_
          refine lv_iload_n C.1 C.2.1 dX4_worst_48 rfl (lv_at hl 1 rfl) ?_
          refine r_callVI C hT hH hS (t := 4) (As := [.int v3]) (fun z1 hz => c_X4_livingOf l D cA base x0 v3 _ z1 hz) (cwV 1 C.2.2.2.2 gX4_worst_X4_livingOf rfl rfl rfl (by decide +kernel) ⟨Nat.le_of_ble_eq_true rfl, Nat.le_of_ble_eq_true rfl⟩) rfl (by decide) rfl hl.1 rfl (Nat.le_of_ble_eq_true rfl) dX4_worst_49 ⟨by decide, by decide⟩ h (fun v18 mm H locs hH hS h => ?_)
          refine lv_isub C.1 C.2.1 dX4_worst_52 ?_
          refine lv_istore (lv' := [(5, .int (v17 - v18)), (4, .int v3), (3, .int v3), (0, .ref x0), (1, .int x1), (2, .int x2)]) C.1 C.2.1 dX4_worst_53 hl (by decide) rfl (fun ls hl => ?_)
          refine lv_aload_n C.1 C.2.1 dX4_worst_55 rfl (lv_at hl 3 rfl) ?_
          refine r_gN C hT hH (t := 4) (k := 12) (T := TX4) rfl w4 (by decide) (by decide) rfl k38 dX4_worst_56 h (fun b19 h => ?_)
          refine lv_iload C.1 C.2.1 dX4_worst_59 (lv_at hl 1 rfl) ?_
          refine r_lI C hT hH dX4_worst_61 h (fun v20 h => ?_)
          refine lv_aload_n C.1 C.2.1 dX4_worst_62 rfl (lv_at hl 3 rfl) ?_
          refine lv_iload C.1 C.2.1 dX4_worst_63 (lv_at hl 1 rfl) ?_
          refine r_callVI C hT hH hS (t := 4) (As := [.int v3]) (fun z1 hz => c_X4_livingOf l D cA base x0 v3 _ z1 hz) (cwV 1 C.2.2.2.2 gX4_worst_X4_livingOf rfl rfl rfl (by decide +kernel) ⟨Nat.le_of_ble_eq_true rfl, Nat.le_of_ble_eq_true rfl⟩) rfl (by decide) rfl hl.1 rfl (Nat.le_of_ble_eq_true rfl) dX4_worst_65 ⟨by decide, by decide⟩ h (fun v21 mm H locs hH hS h => ?_)
          refine lv_isub C.1 C.2.1 dX4_worst_68 ?_
          refine lv_istore (lv' := [(6, .int (v20 - v21)), (5, .int (v17 - v18)), (4, .int v3), (3, .int v3), (0, .ref x0), (1, .int x1), (2, .int x2)]) C.1 C.2.1 dX4_worst_69 hl (by decide) rfl (fun ls hl => ?_)
          refine lv_iload_n C.1 C.2.1 dX4_worst_71 rfl (lv_at hl 5 rfl) ?_
          refine lv_if_lt (tgt := 97) C.1 C.2.1 dX4_worst_72 (by decide) (fun hc => ?_) (fun hc => ?_)
          · have h := ifc_t hc h
            refine lv_iload_n C.1 C.2.1 dX4_worst_97 rfl (lv_at hl 6 rfl) ?_
            refine lv_goto (tgt := 102) C.1 C.2.1 dX4_worst_98 (by decide) ?_
            refine lv_istore_n (lv' := [(1, .int x2), (6, .int (v20 - v21)), (5, .int (v17 - v18)), (4, .int v3), (3, .int v3), (0, .ref x0), (2, .int x2)]) C.1 C.2.1 dX4_worst_102 rfl hl (by decide) rfl (fun ls hl => ?_)
            refine lv_iinc (v := (x2 + 1)) (lv' := [(2, .int (x2 + 1)), (1, .int x2), (6, .int (v20 - v21)), (5, .int (v17 - v18)), (4, .int v3), (3, .int v3), (0, .ref x0)]) C.1 C.2.1 dX4_worst_103 hl (k := 6) rfl rfl (by decide) rfl (fun ls hl => ?_)
            refine lv_goto (tgt := 10) C.1 C.2.1 dX4_worst_106 (by decide) ?_
            exact ih x0 x2 (x2 + 1) _ _ _ _ _ hH hS (lv_sub hl [6, 1, 0] rfl) h kk
          · have h := ifc_f hc h
            refine lv_iload C.1 C.2.1 dX4_worst_75 (lv_at hl 1 rfl) ?_
            refine lv_aload_n C.1 C.2.1 dX4_worst_77 rfl (lv_at hl 4 rfl) ?_
            refine r_gN C hT hH (t := 4) (k := 12) (T := TX4) rfl w4 (by decide) (by decide) rfl k38 dX4_worst_78 h (fun b22 h => ?_)
            refine lv_iload C.1 C.2.1 dX4_worst_81 (lv_at hl 2 rfl) ?_
            refine r_lI C hT hH dX4_worst_83 h (fun v23 h => ?_)
            refine lv_imul C.1 C.2.1 dX4_worst_84 ?_
            refine lv_iload C.1 C.2.1 dX4_worst_85 (lv_at hl 0 rfl) ?_
            refine lv_aload_n C.1 C.2.1 dX4_worst_87 rfl (lv_at hl 4 rfl) ?_
            refine r_gN C hT hH (t := 4) (k := 12) (T := TX4) rfl w4 (by decide) (by decide) rfl k38 dX4_worst_88 h (fun b24 h => ?_)
            refine lv_iload_n C.1 C.2.1 dX4_worst_91 rfl (lv_at hl 3 rfl) ?_
            refine r_lI C hT hH dX4_worst_92 h (fun v25 h => ?_)
            refine lv_imul C.1 C.2.1 dX4_worst_93 ?_
            refine lv_icmp_le (tgt := 101) C.1 C.2.1 dX4_worst_94 (by decide) (fun hc => ?_) (fun hc => ?_)
            · have h := ifc_t hc h
              refine lv_iload_n C.1 C.2.1 dX4_worst_101 rfl (lv_at hl 5 rfl) ?_
              refine lv_istore_n (lv' := [(1, .int x1), (6, .int (v20 - v21)), (5, .int (v17 - v18)), (4, .int v3), (3, .int v3), (0, .ref x0), (2, .int x2)]) C.1 C.2.1 dX4_worst_102 rfl hl (by decide) rfl (fun ls hl => ?_)
              refine lv_iinc (v := (x2 + 1)) (lv' := [(2, .int (x2 + 1)), (1, .int x1), (6, .int (v20 - v21)), (5, .int (v17 - v18)), (4, .int v3), (3, .int v3), (0, .ref x0)]) C.1 C.2.1 dX4_worst_103 hl (k := 6) rfl rfl (by decide) rfl (fun ls hl => ?_)
              refine lv_goto (tgt := 10) C.1 C.2.1 dX4_worst_106 (by decide) ?_
              exact ih x0 x1 (x2 + 1) _ _ _ _ _ hH hS (lv_sub hl [6, 1, 0] rfl) h kk
            · have h := ifc_f hc h
              refine lv_iload_n C.1 C.2.1 dX4_worst_97 rfl (lv_at hl 6 rfl) ?_
              refine lv_goto (tgt := 102) C.1 C.2.1 dX4_worst_98 (by decide) ?_
              refine lv_istore_n (lv' := [(1, .int x2), (6, .int (v20 - v21)), (5, .int (v17 - v18)), (4, .int v3), (3, .int v3), (0, .ref x0), (2, .int x2)]) C.1 C.2.1 dX4_worst_102 rfl hl (by decide) rfl (fun ls hl => ?_)
              refine lv_iinc (v := (x2 + 1)) (lv' := [(2, .int (x2 + 1)), (1, .int x2), (6, .int (v20 - v21)), (5, .int (v17 - v18)), (4, .int v3), (3, .int v3), (0, .ref x0)]) C.1 C.2.1 dX4_worst_103 hl (k := 6) rfl rfl (by decide) rfl (fun ls hl => ?_)
              refine lv_goto (tgt := 10) C.1 C.2.1 dX4_worst_106 (by decide) ?_
              exact ih x0 x2 (x2 + 1) _ _ _ _ _ hH hS (lv_sub hl [6, 1, 0] rfl) h kk
  have hS : va_S (mA base) s.heap s.heap [] := va_S.rf
  have hl := lv_entry ([.ref a0]) (n := 7) (Nat.le_of_ble_eq_true rfl)
  rw [lg_entry_eq]
  generalize (lg_sl ([.ref a0]) ++ List.replicate (7 - (lg_sl ([.ref a0])).length) Slot.unset).toArray = ls at hl ⊢
  have hl : lv_has ls 7 [(0, .ref a0)] := hl
  unfold f_X4_worst at h
  refine lv_aload_n C.1 C.2.1 dX4_worst_0 rfl (lv_at hl 0 rfl) ?_
  refine lv_iconst (v := 0) C.1 C.2.1 dX4_worst_1 (by decide) ?_
  refine r_pI C hT hH hS (t := 4) (k := 0) (T := TX4) rfl w4 tyX4_ok nmX4 (by decide) (by decide) rfl rfl k84 (Or.inl rfl) dX4_worst_2 h (fun mm H locs hH hS h => ?_)
  refine lv_bipush (v := (-3)) C.1 C.2.1 dX4_worst_5 (by decide) ?_
  refine lv_istore_n (lv' := [(1, .int (-3)), (0, .ref a0)]) C.1 C.2.1 dX4_worst_7 rfl hl (by decide) rfl (fun ls hl => ?_)
  refine lv_iconst (v := 0) C.1 C.2.1 dX4_worst_8 (by decide) ?_
  refine lv_istore_n (lv' := [(2, .int 0), (1, .int (-3)), (0, .ref a0)]) C.1 C.2.1 dX4_worst_9 rfl hl (by decide) rfl (fun ls hl => ?_)
  obtain ⟨x26, mx26, hq, h⟩ := bnd_inv h
  refine L10 2100 a0 (-3) 0 _ _ _ _ (x26, mx26) hH hS (lv_sub hl [2, 1, 0] rfl) hq (fun H locs ls hH hS hl => ?_)
  refine lv_iload_n C.1 C.2.1 dX4_worst_109 rfl (lv_at hl 1 rfl) ?_
  exact r_iret C hT hH hS hr hlocks (by decide) (by decide) dX4_worst_110 h
abbrev rm_X4_slotOf : Room := { frames := 0, cells := 0, slots := 0, locals := 0 }
set_option maxHeartbeats 4000000 in
set_option maxRecDepth 100000 in
theorem c_X4_slotOf (l : Launch) (D : va_G) (cA : Nat → ClassId) (base : Nat) (a0 : Nat) (a1 : Int32) (mm : Mem) (z : (Int32) × Mem) (h : f_X4_slotOf a0 a1 mm = some z) : Met l yX4_slotOf wsX4_slotOf rm_X4_slotOf (va_Pc [.ref a0, .int a1] (mU D cA base mm)) (mQ eI D cA base z) 0 0 (mA base) := by
  refine Met.ofW (cc := cX4_slotOf) (maxL := 2) (ret := (some .int)) (by decide) rfl ?_
  intro p e s m args below meth c s₁ B hml hv
  obtain ⟨rfl, hH, hT⟩ := hv
  have C : CallFix p m c cX4_slotOf 2 s ([.ref a0, .int a1]).toArray wsX4_slotOf RX4 := ⟨B.exec, B.bytes, hml, findClass_of_methodNamed B.named, atoms_spec (ws := wsX4_slotOf) B.pre⟩
  have hr := B.returns
  have hlocks := B.notSynchronized
  have w4 : ∀ w ∈ u_ws RX4 TX4 34, w ∈ wsX4_slotOf := by decide +kernel
  have k25 : Cond.fieldLink RX4 25 "SegmentMergesModel" "order" "[I" ∈ wsX4_slotOf := by decide +kernel
  have k133 : Cond.fieldLink RX4 133 "SegmentMergesModel" "mergePlace" "I" ∈ wsX4_slotOf := by decide +kernel
  have hS : va_S (mA base) s.heap s.heap [] := va_S.rf
  have hl := lv_entry ([.ref a0, .int a1]) (n := 2) (Nat.le_of_ble_eq_true rfl)
  rw [lg_entry_eq]
  generalize (lg_sl ([.ref a0, .int a1]) ++ List.replicate (2 - (lg_sl ([.ref a0, .int a1])).length) Slot.unset).toArray = ls at hl ⊢
  have hl : lv_has ls 2 [(0, .ref a0), (1, .int a1)] := hl
  unfold f_X4_slotOf at h
  refine lv_aload_n C.1 C.2.1 dX4_slotOf_0 rfl (lv_at hl 0 rfl) ?_
  refine r_gN C hT hH (t := 4) (k := 8) (T := TX4) rfl w4 (by decide) (by decide) rfl k25 dX4_slotOf_1 h (fun b1 h => ?_)
  refine lv_aload_n C.1 C.2.1 dX4_slotOf_4 rfl (lv_at hl 0 rfl) ?_
  refine r_gI C hT hH (t := 4) (k := 20) (T := TX4) rfl w4 (by decide) (by decide) rfl k133 dX4_slotOf_5 h (fun v2 h => ?_)
  refine lv_iload_n C.1 C.2.1 dX4_slotOf_8 rfl (lv_at hl 1 rfl) ?_
  refine lv_iadd C.1 C.2.1 dX4_slotOf_9 ?_
  refine r_lI C hT hH dX4_slotOf_10 h (fun v3 h => ?_)
  exact r_iret C hT hH hS hr hlocks (by decide) (by decide) dX4_slotOf_11 h
abbrev rm_X4_left : Room := { frames := 1, cells := 0, slots := 0, locals := 21 }
set_option maxHeartbeats 4000000 in
set_option maxRecDepth 100000 in
theorem c_X4_left (l : Launch) (D : va_G) (cA : Nat → ClassId) (base : Nat) (a0 : Nat) (mm : Mem) (z : (Int32) × Mem) (h : f_X4_left a0 mm = some z) : Met l yX4_left wsX4_left rm_X4_left (va_Pc [.ref a0] (mU D cA base mm)) (mQ eI D cA base z) 0 0 (mA base) := by
  refine Met.ofW (cc := cX4_left) (maxL := 3) (ret := (some .int)) (by decide) rfl ?_
  intro p e s m args below meth c s₁ B hml hv
  obtain ⟨rfl, hH, hT⟩ := hv
  have C : CallFix p m c cX4_left 3 s ([.ref a0]).toArray wsX4_left RX4 := ⟨B.exec, B.bytes, hml, findClass_of_methodNamed B.named, atoms_spec (ws := wsX4_left) B.pre⟩
  have hr := B.returns
  have hlocks := B.notSynchronized
  have w4 : ∀ w ∈ u_ws RX4 TX4 34, w ∈ wsX4_left := by decide +kernel
  have k38 : Cond.fieldLink RX4 38 "SegmentMergesModel" "rows" "[I" ∈ wsX4_left := by decide +kernel
  have k54 : Cond.fieldLink RX4 54 "SegmentMergesModel" "at" "[I" ∈ wsX4_left := by decide +kernel
  have k130 : Cond.fieldLink RX4 130 "SegmentMergesModel" "merged" "I" ∈ wsX4_left := by decide +kernel
  have L4 : ∀ (n : Nat) (x0 : Nat) (x1 : Int32) (x2 : Int32) (mm : Mem) (H : Heap) (locs : List Loc) (ls : Array Slot) (zz : (Int32 × Int32) × Mem), mH D cA base mm H → va_S (mA base) s.heap H locs → lv_has ls 3 [(0, .ref x0), (1, .int x1), (2, .int x2)] → f_X4_left_L4 n x0 x1 x2 mm = some zz → (∀ (H : Heap) (locs : List Loc) (ls : Array Slot), mH D cA base zz.2 H → va_S (mA base) s.heap H locs → lv_has ls 3 [(0, .ref x0), (1, .int zz.1.1), (2, .int zz.1.2)] → W p l e rm_X4_left s m [.ref a0].toArray below meth c H locs 0 0 (MQ below (mQ eI D cA base z) [.ref a0].toArray s 0 0 (mA base)) (F0 m 38 ls [])) → W p l e rm_X4_left s m [.ref a0].toArray below meth c H locs 0 0 (MQ below (mQ eI D cA base z) [.ref a0].toArray s 0 0 (mA base)) (F0 m 4 ls []) := by
    intro n
    induction n with
    | zero =>
      intro x0 x1 x2 mm H locs ls zz hH hS hl h kk
      exact (fl_inv h).elim
    | succ n ih =>
      intro x0 x1 x2 mm H locs ls zz hH hS hl h kk
      unfold f_X4_left_L4 at h
      refine lv_iload_n C.1 C.2.1 dX4_left_4 rfl (lv_at hl 2 rfl) ?_
      refine lv_aload_n C.1 C.2.1 dX4_left_5 rfl (lv_at hl 0 rfl) ?_
      refine r_gI C hT hH (t := 4) (k := 19) (T := TX4) rfl w4 (by decide) (by decide) rfl k130 dX4_left_6 h (fun v1 h => ?_)
      refine lv_icmp_ge (tgt := 38) C.1 C.2.1 dX4_left_9 (by decide) (fun hc => ?_) (fun hc => ?_)
      · have h := ifc_t hc h
        obtain rfl := rt_inv h
        exact kk _ _ _ hH hS (lv_sub hl [0, 1, 2] rfl)
      · have h := ifc_f hc h
        refine lv_iload_n C.1 C.2.1 dX4_left_12 rfl (lv_at hl 1 rfl) ?_
        refine lv_aload_n C.1 C.2.1 dX4_left_13 rfl (lv_at hl 0 rfl) ?_
        refine r_gN C hT hH (t := 4) (k := 12) (T := TX4) rfl w4 (by decide) (by decide) rfl k38 dX4_left_14 h (fun b2 h => ?_)
        refine lv_aload_n C.1 C.2.1 dX4_left_17 rfl (lv_at hl 0 rfl) ?_
        refine lv_iload_n C.1 C.2.1 dX4_left_18 rfl (lv_at hl 2 rfl) ?_
        refine r_callVI C hT hH hS (t := 4) (As := [.int x2]) (fun z1 hz => c_X4_slotOf l D cA base x0 x2 _ z1 hz) (cwV 1 C.2.2.2.2 gX4_left_X4_slotOf rfl rfl rfl (by decide +kernel) ⟨Nat.le_of_ble_eq_true rfl, Nat.le_of_ble_eq_true rfl⟩) rfl (by decide) rfl hl.1 rfl (Nat.le_of_ble_eq_true rfl) dX4_left_19 ⟨by decide, by decide⟩ h (fun v3 mm H locs hH hS h => ?_)
        refine r_lI C hT hH dX4_left_22 h (fun v4 h => ?_)
        refine lv_aload_n C.1 C.2.1 dX4_left_23 rfl (lv_at hl 0 rfl) ?_
        refine r_gN C hT hH (t := 4) (k := 23) (T := TX4) rfl w4 (by decide) (by decide) rfl k54 dX4_left_24 h (fun b5 h => ?_)
        refine lv_iload_n C.1 C.2.1 dX4_left_27 rfl (lv_at hl 2 rfl) ?_
        refine r_lI C hT hH dX4_left_28 h (fun v6 h => ?_)
        refine lv_isub C.1 C.2.1 dX4_left_29 ?_
        refine lv_iadd C.1 C.2.1 dX4_left_30 ?_
        refine lv_istore_n (lv' := [(1, .int (x1 + (v4 - v6))), (0, .ref x0), (2, .int x2)]) C.1 C.2.1 dX4_left_31 rfl hl (by decide) rfl (fun ls hl => ?_)
        refine lv_iinc (v := (x2 + 1)) (lv' := [(2, .int (x2 + 1)), (1, .int (x1 + (v4 - v6))), (0, .ref x0)]) C.1 C.2.1 dX4_left_32 hl (k := 2) rfl rfl (by decide) rfl (fun ls hl => ?_)
        refine lv_goto (tgt := 4) C.1 C.2.1 dX4_left_35 (by decide) ?_
        exact ih x0 (x1 + (v4 - v6)) (x2 + 1) _ _ _ _ _ hH hS (lv_sub hl [2, 1, 0] rfl) h kk
  have hS : va_S (mA base) s.heap s.heap [] := va_S.rf
  have hl := lv_entry ([.ref a0]) (n := 3) (Nat.le_of_ble_eq_true rfl)
  rw [lg_entry_eq]
  generalize (lg_sl ([.ref a0]) ++ List.replicate (3 - (lg_sl ([.ref a0])).length) Slot.unset).toArray = ls at hl ⊢
  have hl : lv_has ls 3 [(0, .ref a0)] := hl
  unfold f_X4_left at h
  refine lv_iconst (v := 0) C.1 C.2.1 dX4_left_0 (by decide) ?_
  refine lv_istore_n (lv' := [(1, .int 0), (0, .ref a0)]) C.1 C.2.1 dX4_left_1 rfl hl (by decide) rfl (fun ls hl => ?_)
  refine lv_iconst (v := 0) C.1 C.2.1 dX4_left_2 (by decide) ?_
  refine lv_istore_n (lv' := [(2, .int 0), (1, .int 0), (0, .ref a0)]) C.1 C.2.1 dX4_left_3 rfl hl (by decide) rfl (fun ls hl => ?_)
  obtain ⟨x7, mx7, hq, h⟩ := bnd_inv h
  refine L4 2100 a0 0 0 _ _ _ _ (x7, mx7) hH hS (lv_sub hl [2, 1, 0] rfl) hq (fun H locs ls hH hS hl => ?_)
  refine lv_iload_n C.1 C.2.1 dX4_left_38 rfl (lv_at hl 1 rfl) ?_
  exact r_iret C hT hH hS hr hlocks (by decide) (by decide) dX4_left_39 h
abbrev rm_X4_begin : Room := { frames := 2, cells := 0, slots := 0, locals := 43 }
set_option maxHeartbeats 4000000 in
set_option maxRecDepth 100000 in
theorem c_X4_begin (l : Launch) (D : va_G) (cA : Nat → ClassId) (base : Nat) (a0 : Nat) (a1 : Int32) (a2 : Int32) (mm : Mem) (z : (Int32) × Mem) (h : f_X4_begin a0 a1 a2 mm = some z) : Met l yX4_begin wsX4_begin rm_X4_begin (va_Pc [.ref a0, .int a1, .int a2] (mU D cA base mm)) (mQ eI D cA base z) 0 0 (mA base) := by
  refine Met.ofW (cc := cX4_begin) (maxL := 4) (ret := (some .int)) (by decide) rfl ?_
  intro p e s m args below meth c s₁ B hml hv
  obtain ⟨rfl, hH, hT⟩ := hv
  have C : CallFix p m c cX4_begin 4 s ([.ref a0, .int a1, .int a2]).toArray wsX4_begin RX4 := ⟨B.exec, B.bytes, hml, findClass_of_methodNamed B.named, atoms_spec (ws := wsX4_begin) B.pre⟩
  have hr := B.returns
  have hlocks := B.notSynchronized
  have w4 : ∀ w ∈ u_ws RX4 TX4 34, w ∈ wsX4_begin := by decide +kernel
  have k54 : Cond.fieldLink RX4 54 "SegmentMergesModel" "at" "[I" ∈ wsX4_begin := by decide +kernel
  have k84 : Cond.fieldLink RX4 84 "SegmentMergesModel" "thrown" "I" ∈ wsX4_begin := by decide +kernel
  have k102 : Cond.fieldLink RX4 102 "SegmentMergesModel" "segments" "I" ∈ wsX4_begin := by decide +kernel
  have k130 : Cond.fieldLink RX4 130 "SegmentMergesModel" "merged" "I" ∈ wsX4_begin := by decide +kernel
  have k133 : Cond.fieldLink RX4 133 "SegmentMergesModel" "mergePlace" "I" ∈ wsX4_begin := by decide +kernel
  have k136 : Cond.fieldLink RX4 136 "SegmentMergesModel" "taken" "I" ∈ wsX4_begin := by decide +kernel
  have k139 : Cond.fieldLink RX4 139 "SegmentMergesModel" "wrote" "I" ∈ wsX4_begin := by decide +kernel
  have L72 : ∀ (n : Nat) (x0 : Nat) (x1 : Int32) (x2 : Int32) (x3 : Int32) (mm : Mem) (H : Heap) (locs : List Loc) (ls : Array Slot) (zz : (Int32) × Mem), mH D cA base mm H → va_S (mA base) s.heap H locs → lv_has ls 4 [(0, .ref x0), (1, .int x1), (2, .int x2), (3, .int x3)] → f_X4_begin_L72 n x0 x1 x2 x3 mm = some zz → (∀ (H : Heap) (locs : List Loc) (ls : Array Slot), mH D cA base zz.2 H → va_S (mA base) s.heap H locs → lv_has ls 4 [(0, .ref x0), (1, .int x1), (2, .int x2), (3, .int zz.1)] → W p l e rm_X4_begin s m [.ref a0, .int a1, .int a2].toArray below meth c H locs 0 0 (MQ below (mQ eI D cA base z) [.ref a0, .int a1, .int a2].toArray s 0 0 (mA base)) (F0 m 90 ls [])) → W p l e rm_X4_begin s m [.ref a0, .int a1, .int a2].toArray below meth c H locs 0 0 (MQ below (mQ eI D cA base z) [.ref a0, .int a1, .int a2].toArray s 0 0 (mA base)) (F0 m 72 ls []) := by
    intro n
    induction n with
    | zero =>
      intro x0 x1 x2 x3 mm H locs ls zz hH hS hl h kk
      exact (fl_inv h).elim
    | succ n ih =>
      intro x0 x1 x2 x3 mm H locs ls zz hH hS hl h kk
      unfold f_X4_begin_L72 at h
      refine lv_iload_n C.1 C.2.1 dX4_begin_72 rfl (lv_at hl 3 rfl) ?_
      refine lv_iload_n C.1 C.2.1 dX4_begin_73 rfl (lv_at hl 2 rfl) ?_
      refine lv_icmp_ge (tgt := 90) C.1 C.2.1 dX4_begin_74 (by decide) (fun hc => ?_) (fun hc => ?_)
      · have h := ifc_t hc h
        obtain rfl := rt_inv h
        exact kk _ _ _ hH hS (lv_sub hl [0, 1, 2, 3] rfl)
      · have h := ifc_f hc h
        refine lv_aload_n C.1 C.2.1 dX4_begin_77 rfl (lv_at hl 0 rfl) ?_
        refine r_gN C hT hH (t := 4) (k := 23) (T := TX4) rfl w4 (by decide) (by decide) rfl k54 dX4_begin_78 h (fun b5 h => ?_)
        refine lv_iload_n C.1 C.2.1 dX4_begin_81 rfl (lv_at hl 3 rfl) ?_
        refine lv_iconst (v := 0) C.1 C.2.1 dX4_begin_82 (by decide) ?_
        refine r_sI C hT hH hS dX4_begin_83 h (fun mm H locs hH hS h => ?_)
        refine lv_iinc (v := (x3 + 1)) (lv' := [(3, .int (x3 + 1)), (0, .ref x0), (1, .int x1), (2, .int x2)]) C.1 C.2.1 dX4_begin_84 hl (k := 3) rfl rfl (by decide) rfl (fun ls hl => ?_)
        refine lv_goto (tgt := 72) C.1 C.2.1 dX4_begin_87 (by decide) ?_
        exact ih x0 x1 x2 (x3 + 1) _ _ _ _ _ hH hS (lv_sub hl [1, 2, 3, 0] rfl) h kk
  have hS : va_S (mA base) s.heap s.heap [] := va_S.rf
  have hl := lv_entry ([.ref a0, .int a1, .int a2]) (n := 4) (Nat.le_of_ble_eq_true rfl)
  rw [lg_entry_eq]
  generalize (lg_sl ([.ref a0, .int a1, .int a2]) ++ List.replicate (4 - (lg_sl ([.ref a0, .int a1, .int a2])).length) Slot.unset).toArray = ls at hl ⊢
  have hl : lv_has ls 4 [(0, .ref a0), (1, .int a1), (2, .int a2)] := hl
  unfold f_X4_begin at h
  refine lv_aload_n C.1 C.2.1 dX4_begin_0 rfl (lv_at hl 0 rfl) ?_
  refine lv_iconst (v := 0) C.1 C.2.1 dX4_begin_1 (by decide) ?_
  refine r_pI C hT hH hS (t := 4) (k := 0) (T := TX4) rfl w4 tyX4_ok nmX4 (by decide) (by decide) rfl rfl k84 (Or.inl rfl) dX4_begin_2 h (fun mm H locs hH hS h => ?_)
  refine lv_aload_n C.1 C.2.1 dX4_begin_5 rfl (lv_at hl 0 rfl) ?_
  refine lv_iload_n C.1 C.2.1 dX4_begin_6 rfl (lv_at hl 1 rfl) ?_
  refine r_callVI C hT hH hS (t := 4) (As := [.int a1]) (fun z1 hz => c_X4_isPlace l D cA base a0 a1 _ z1 hz) (cwV 1 C.2.2.2.2 gX4_begin_X4_isPlace rfl rfl rfl (by decide +kernel) ⟨Nat.le_of_ble_eq_true rfl, Nat.le_of_ble_eq_true rfl⟩) rfl (by decide) rfl hl.1 rfl (Nat.le_of_ble_eq_true rfl) dX4_begin_7 ⟨by decide, by decide⟩ h (fun v1 mm H locs hH hS h => ?_)
  refine lv_if_ne (tgt := 15) C.1 C.2.1 dX4_begin_10 (by decide) (fun hc => ?_) (fun hc => ?_)
  · have h := ifc_f hc h
    refine lv_iload_n C.1 C.2.1 dX4_begin_15 rfl (lv_at hl 2 rfl) ?_
    refine lv_iconst (v := 2) C.1 C.2.1 dX4_begin_16 (by decide) ?_
    refine lv_bipush (v := 6) C.1 C.2.1 dX4_begin_17 (by decide) ?_
    refine r_callSI C hT hH hS (As := [.int a2, .int 2, .int 6]) (fun z1 hz => c_X4_in l D cA base a2 2 6 _ z1 hz) (va_cwS 3 C.2.2.2.2 gX4_begin_X4_in rfl rfl rfl (by decide +kernel) ⟨Nat.le_of_ble_eq_true rfl, Nat.le_of_ble_eq_true rfl⟩) rfl hl.1 rfl (Nat.le_of_ble_eq_true rfl) dX4_begin_19 ⟨by decide, by decide⟩ h (fun v2 mm H locs hH hS h => ?_)
    refine lv_if_ne (tgt := 28) C.1 C.2.1 dX4_begin_22 (by decide) (fun hc => ?_) (fun hc => ?_)
    · have h := ifc_f hc h
      refine lv_iload_n C.1 C.2.1 dX4_begin_28 rfl (lv_at hl 1 rfl) ?_
      refine lv_iload_n C.1 C.2.1 dX4_begin_29 rfl (lv_at hl 2 rfl) ?_
      refine lv_iadd C.1 C.2.1 dX4_begin_30 ?_
      refine lv_aload_n C.1 C.2.1 dX4_begin_31 rfl (lv_at hl 0 rfl) ?_
      refine r_gI C hT hH (t := 4) (k := 7) (T := TX4) rfl w4 (by decide) (by decide) rfl k102 dX4_begin_32 h (fun v3 h => ?_)
      refine lv_icmp_le (tgt := 40) C.1 C.2.1 dX4_begin_35 (by decide) (fun hc => ?_) (fun hc => ?_)
      · have h := ifc_t hc h
        refine lv_aload_n C.1 C.2.1 dX4_begin_40 rfl (lv_at hl 0 rfl) ?_
        refine r_gI C hT hH (t := 4) (k := 19) (T := TX4) rfl w4 (by decide) (by decide) rfl k130 dX4_begin_41 h (fun v4 h => ?_)
        refine lv_if_le (tgt := 50) C.1 C.2.1 dX4_begin_44 (by decide) (fun hc => ?_) (fun hc => ?_)
        · have h := ifc_t hc h
          refine lv_aload_n C.1 C.2.1 dX4_begin_50 rfl (lv_at hl 0 rfl) ?_
          refine lv_iload_n C.1 C.2.1 dX4_begin_51 rfl (lv_at hl 2 rfl) ?_
          refine r_pI C hT hH hS (t := 4) (k := 19) (T := TX4) rfl w4 tyX4_ok nmX4 (by decide) (by decide) rfl rfl k130 (Or.inl rfl) dX4_begin_52 h (fun mm H locs hH hS h => ?_)
          refine lv_aload_n C.1 C.2.1 dX4_begin_55 rfl (lv_at hl 0 rfl) ?_
          refine lv_iload_n C.1 C.2.1 dX4_begin_56 rfl (lv_at hl 1 rfl) ?_
          refine r_pI C hT hH hS (t := 4) (k := 20) (T := TX4) rfl w4 tyX4_ok nmX4 (by decide) (by decide) rfl rfl k133 (Or.inl rfl) dX4_begin_57 h (fun mm H locs hH hS h => ?_)
          refine lv_aload_n C.1 C.2.1 dX4_begin_60 rfl (lv_at hl 0 rfl) ?_
          refine lv_iconst (v := 0) C.1 C.2.1 dX4_begin_61 (by decide) ?_
          refine r_pI C hT hH hS (t := 4) (k := 21) (T := TX4) rfl w4 tyX4_ok nmX4 (by decide) (by decide) rfl rfl k136 (Or.inl rfl) dX4_begin_62 h (fun mm H locs hH hS h => ?_)
          refine lv_aload_n C.1 C.2.1 dX4_begin_65 rfl (lv_at hl 0 rfl) ?_
          refine lv_iconst (v := 0) C.1 C.2.1 dX4_begin_66 (by decide) ?_
          refine r_pI C hT hH hS (t := 4) (k := 22) (T := TX4) rfl w4 tyX4_ok nmX4 (by decide) (by decide) rfl rfl k139 (Or.inl rfl) dX4_begin_67 h (fun mm H locs hH hS h => ?_)
          refine lv_iconst (v := 0) C.1 C.2.1 dX4_begin_70 (by decide) ?_
          refine lv_istore_n (lv' := [(3, .int 0), (0, .ref a0), (1, .int a1), (2, .int a2)]) C.1 C.2.1 dX4_begin_71 rfl hl (by decide) rfl (fun ls hl => ?_)
          obtain ⟨x6, mx6, hq, h⟩ := bnd_inv h
          refine L72 2100 a0 a1 a2 0 _ _ _ _ (x6, mx6) hH hS (lv_sub hl [1, 2, 3, 0] rfl) hq (fun H locs ls hH hS hl => ?_)
          refine lv_aload_n C.1 C.2.1 dX4_begin_90 rfl (lv_at hl 0 rfl) ?_
          refine r_callVI C hT hH hS (t := 4) (As := []) (fun z1 hz => c_X4_left l D cA base a0 _ z1 hz) (cwV 0 C.2.2.2.2 gX4_begin_X4_left rfl rfl rfl (by decide +kernel) ⟨Nat.le_of_ble_eq_true rfl, Nat.le_of_ble_eq_true rfl⟩) rfl (by decide) rfl hl.1 rfl (Nat.le_of_ble_eq_true rfl) dX4_begin_91 ⟨by decide, by decide⟩ h (fun v7 mm H locs hH hS h => ?_)
          exact r_iret C hT hH hS hr hlocks (by decide) (by decide) dX4_begin_94 h
        · have h := ifc_f hc h
          refine lv_bipush (v := (-3)) C.1 C.2.1 dX4_begin_47 (by decide) ?_
          exact r_iret C hT hH hS hr hlocks (by decide) (by decide) dX4_begin_49 h
      · have h := ifc_f hc h
        refine lv_iconst (v := (-1)) C.1 C.2.1 dX4_begin_38 (by decide) ?_
        exact r_iret C hT hH hS hr hlocks (by decide) (by decide) dX4_begin_39 h
    · have h := ifc_t hc h
      refine lv_bipush (v := (-2)) C.1 C.2.1 dX4_begin_25 (by decide) ?_
      exact r_iret C hT hH hS hr hlocks (by decide) (by decide) dX4_begin_27 h
  · have h := ifc_t hc h
    refine lv_iconst (v := (-1)) C.1 C.2.1 dX4_begin_13 (by decide) ?_
    exact r_iret C hT hH hS hr hlocks (by decide) (by decide) dX4_begin_14 h
abbrev rm_X4_keyAt : Room := { frames := 1, cells := 0, slots := 0, locals := 21 }
set_option maxHeartbeats 4000000 in
set_option maxRecDepth 100000 in
theorem c_X4_keyAt (l : Launch) (D : va_G) (cA : Nat → ClassId) (base : Nat) (a0 : Nat) (a1 : Int32) (mm : Mem) (z : (Int32) × Mem) (h : f_X4_keyAt a0 a1 mm = some z) : Met l yX4_keyAt wsX4_keyAt rm_X4_keyAt (va_Pc [.ref a0, .int a1] (mU D cA base mm)) (mQ eI D cA base z) 0 0 (mA base) := by
  refine Met.ofW (cc := cX4_keyAt) (maxL := 2) (ret := (some .int)) (by decide) rfl ?_
  intro p e s m args below meth c s₁ B hml hv
  obtain ⟨rfl, hH, hT⟩ := hv
  have C : CallFix p m c cX4_keyAt 2 s ([.ref a0, .int a1]).toArray wsX4_keyAt RX4 := ⟨B.exec, B.bytes, hml, findClass_of_methodNamed B.named, atoms_spec (ws := wsX4_keyAt) B.pre⟩
  have hr := B.returns
  have hlocks := B.notSynchronized
  have w4 : ∀ w ∈ u_ws RX4 TX4 34, w ∈ wsX4_keyAt := by decide +kernel
  have k41 : Cond.fieldLink RX4 41 "SegmentMergesModel" "rowKey" "[I" ∈ wsX4_keyAt := by decide +kernel
  have k54 : Cond.fieldLink RX4 54 "SegmentMergesModel" "at" "[I" ∈ wsX4_keyAt := by decide +kernel
  have hS : va_S (mA base) s.heap s.heap [] := va_S.rf
  have hl := lv_entry ([.ref a0, .int a1]) (n := 2) (Nat.le_of_ble_eq_true rfl)
  rw [lg_entry_eq]
  generalize (lg_sl ([.ref a0, .int a1]) ++ List.replicate (2 - (lg_sl ([.ref a0, .int a1])).length) Slot.unset).toArray = ls at hl ⊢
  have hl : lv_has ls 2 [(0, .ref a0), (1, .int a1)] := hl
  unfold f_X4_keyAt at h
  refine lv_aload_n C.1 C.2.1 dX4_keyAt_0 rfl (lv_at hl 0 rfl) ?_
  refine r_gN C hT hH (t := 4) (k := 13) (T := TX4) rfl w4 (by decide) (by decide) rfl k41 dX4_keyAt_1 h (fun b1 h => ?_)
  refine lv_bipush (v := 100) C.1 C.2.1 dX4_keyAt_4 (by decide) ?_
  refine lv_aload_n C.1 C.2.1 dX4_keyAt_6 rfl (lv_at hl 0 rfl) ?_
  refine lv_iload_n C.1 C.2.1 dX4_keyAt_7 rfl (lv_at hl 1 rfl) ?_
  refine r_callVI C hT hH hS (t := 4) (As := [.int a1]) (fun z1 hz => c_X4_slotOf l D cA base a0 a1 _ z1 hz) (cwV 1 C.2.2.2.2 gX4_keyAt_X4_slotOf rfl rfl rfl (by decide +kernel) ⟨Nat.le_of_ble_eq_true rfl, Nat.le_of_ble_eq_true rfl⟩) rfl (by decide) rfl hl.1 rfl (Nat.le_of_ble_eq_true rfl) dX4_keyAt_8 ⟨by decide, by decide⟩ h (fun v2 mm H locs hH hS h => ?_)
  refine lv_imul C.1 C.2.1 dX4_keyAt_11 ?_
  refine lv_aload_n C.1 C.2.1 dX4_keyAt_12 rfl (lv_at hl 0 rfl) ?_
  refine r_gN C hT hH (t := 4) (k := 23) (T := TX4) rfl w4 (by decide) (by decide) rfl k54 dX4_keyAt_13 h (fun b3 h => ?_)
  refine lv_iload_n C.1 C.2.1 dX4_keyAt_16 rfl (lv_at hl 1 rfl) ?_
  refine r_lI C hT hH dX4_keyAt_17 h (fun v4 h => ?_)
  refine lv_iadd C.1 C.2.1 dX4_keyAt_18 ?_
  refine r_lI C hT hH dX4_keyAt_19 h (fun v5 h => ?_)
  exact r_iret C hT hH hS hr hlocks (by decide) (by decide) dX4_keyAt_20 h
abbrev rm_X4_takeOne : Room := { frames := 2, cells := 0, slots := 0, locals := 42 }
set_option maxHeartbeats 4000000 in
set_option maxRecDepth 100000 in
theorem c_X4_takeOne (l : Launch) (D : va_G) (cA : Nat → ClassId) (base : Nat) (a0 : Nat) (mm : Mem) (z : (Unit) × Mem) (h : f_X4_takeOne a0 mm = some z) : Met l yX4_takeOne wsX4_takeOne rm_X4_takeOne (va_Pc [.ref a0] (mU D cA base mm)) (mQ eV D cA base z) 0 0 (mA base) := by
  refine Met.ofW (cc := cX4_takeOne) (maxL := 3) (ret := none) (by decide) rfl ?_
  intro p e s m args below meth c s₁ B hml hv
  obtain ⟨rfl, hH, hT⟩ := hv
  have C : CallFix p m c cX4_takeOne 3 s ([.ref a0]).toArray wsX4_takeOne RX4 := ⟨B.exec, B.bytes, hml, findClass_of_methodNamed B.named, atoms_spec (ws := wsX4_takeOne) B.pre⟩
  have hr := B.returns
  have hlocks := B.notSynchronized
  have w4 : ∀ w ∈ u_ws RX4 TX4 34, w ∈ wsX4_takeOne := by decide +kernel
  have k13 : Cond.fieldLink RX4 13 "SegmentMergesModel" "turn" "[I" ∈ wsX4_takeOne := by decide +kernel
  have k38 : Cond.fieldLink RX4 38 "SegmentMergesModel" "rows" "[I" ∈ wsX4_takeOne := by decide +kernel
  have k41 : Cond.fieldLink RX4 41 "SegmentMergesModel" "rowKey" "[I" ∈ wsX4_takeOne := by decide +kernel
  have k44 : Cond.fieldLink RX4 44 "SegmentMergesModel" "rowValue" "[I" ∈ wsX4_takeOne := by decide +kernel
  have k47 : Cond.fieldLink RX4 47 "SegmentMergesModel" "lives" "[Z" ∈ wsX4_takeOne := by decide +kernel
  have k54 : Cond.fieldLink RX4 54 "SegmentMergesModel" "at" "[I" ∈ wsX4_takeOne := by decide +kernel
  have k57 : Cond.fieldLink RX4 57 "SegmentMergesModel" "newKey" "[I" ∈ wsX4_takeOne := by decide +kernel
  have k60 : Cond.fieldLink RX4 60 "SegmentMergesModel" "newValue" "[I" ∈ wsX4_takeOne := by decide +kernel
  have k63 : Cond.fieldLink RX4 63 "SegmentMergesModel" "newTurn" "[I" ∈ wsX4_takeOne := by decide +kernel
  have k66 : Cond.fieldLink RX4 66 "SegmentMergesModel" "goes" "[I" ∈ wsX4_takeOne := by decide +kernel
  have k130 : Cond.fieldLink RX4 130 "SegmentMergesModel" "merged" "I" ∈ wsX4_takeOne := by decide +kernel
  have k136 : Cond.fieldLink RX4 136 "SegmentMergesModel" "taken" "I" ∈ wsX4_takeOne := by decide +kernel
  have k139 : Cond.fieldLink RX4 139 "SegmentMergesModel" "wrote" "I" ∈ wsX4_takeOne := by decide +kernel
  have L4 : ∀ (n : Nat) (x0 : Nat) (x1 : Int32) (x2 : Int32) (mm : Mem) (H : Heap) (locs : List Loc) (ls : Array Slot) (zz : (Int32 × Int32) × Mem), mH D cA base mm H → va_S (mA base) s.heap H locs → lv_has ls 3 [(0, .ref x0), (1, .int x1), (2, .int x2)] → f_X4_takeOne_L4 n x0 x1 x2 mm = some zz → (∀ (H : Heap) (locs : List Loc) (ls : Array Slot), mH D cA base zz.2 H → va_S (mA base) s.heap H locs → lv_has ls 3 [(0, .ref x0), (1, .int zz.1.1), (2, .int zz.1.2)] → W p l e rm_X4_takeOne s m [.ref a0].toArray below meth c H locs 0 0 (MQ below (mQ eV D cA base z) [.ref a0].toArray s 0 0 (mA base)) (F0 m 56 ls [])) → W p l e rm_X4_takeOne s m [.ref a0].toArray below meth c H locs 0 0 (MQ below (mQ eV D cA base z) [.ref a0].toArray s 0 0 (mA base)) (F0 m 4 ls []) := by
    intro n
    induction n with
    | zero =>
      intro x0 x1 x2 mm H locs ls zz hH hS hl h kk
      exact (fl_inv h).elim
    | succ n ih =>
      intro x0 x1 x2 mm H locs ls zz hH hS hl h kk
      unfold f_X4_takeOne_L4 at h
      refine lv_iload_n C.1 C.2.1 dX4_takeOne_4 rfl (lv_at hl 2 rfl) ?_
      refine lv_aload_n C.1 C.2.1 dX4_takeOne_5 rfl (lv_at hl 0 rfl) ?_
      refine r_gI C hT hH (t := 4) (k := 19) (T := TX4) rfl w4 (by decide) (by decide) rfl k130 dX4_takeOne_6 h (fun v1 h => ?_)
      refine lv_icmp_ge (tgt := 56) C.1 C.2.1 dX4_takeOne_9 (by decide) (fun hc => ?_) (fun hc => ?_)
      · have h := ifc_t hc h
        obtain rfl := rt_inv h
        exact kk _ _ _ hH hS (lv_sub hl [0, 1, 2] rfl)
      · have h := ifc_f hc h
        refine lv_aload_n C.1 C.2.1 dX4_takeOne_12 rfl (lv_at hl 0 rfl) ?_
        refine r_gN C hT hH (t := 4) (k := 23) (T := TX4) rfl w4 (by decide) (by decide) rfl k54 dX4_takeOne_13 h (fun b2 h => ?_)
        refine lv_iload_n C.1 C.2.1 dX4_takeOne_16 rfl (lv_at hl 2 rfl) ?_
        refine r_lI C hT hH dX4_takeOne_17 h (fun v3 h => ?_)
        refine lv_aload_n C.1 C.2.1 dX4_takeOne_18 rfl (lv_at hl 0 rfl) ?_
        refine r_gN C hT hH (t := 4) (k := 12) (T := TX4) rfl w4 (by decide) (by decide) rfl k38 dX4_takeOne_19 h (fun b4 h => ?_)
        refine lv_aload_n C.1 C.2.1 dX4_takeOne_22 rfl (lv_at hl 0 rfl) ?_
        refine lv_iload_n C.1 C.2.1 dX4_takeOne_23 rfl (lv_at hl 2 rfl) ?_
        refine r_callVI C hT hH hS (t := 4) (As := [.int x2]) (fun z1 hz => c_X4_slotOf l D cA base x0 x2 _ z1 hz) (cwV 1 C.2.2.2.2 gX4_takeOne_X4_slotOf rfl rfl rfl (by decide +kernel) ⟨Nat.le_of_ble_eq_true rfl, Nat.le_of_ble_eq_true rfl⟩) rfl (by decide) rfl hl.1 rfl (Nat.le_of_ble_eq_true rfl) dX4_takeOne_24 ⟨by decide, by decide⟩ h (fun v5 mm H locs hH hS h => ?_)
        refine r_lI C hT hH dX4_takeOne_27 h (fun v6 h => ?_)
        refine lv_icmp_ge (tgt := 50) C.1 C.2.1 dX4_takeOne_28 (by decide) (fun hc => ?_) (fun hc => ?_)
        · have h := ifc_t hc h
          refine lv_iinc (v := (x2 + 1)) (lv' := [(2, .int (x2 + 1)), (0, .ref x0), (1, .int x1)]) C.1 C.2.1 dX4_takeOne_50 hl (k := 2) rfl rfl (by decide) rfl (fun ls hl => ?_)
          refine lv_goto (tgt := 4) C.1 C.2.1 dX4_takeOne_53 (by decide) ?_
          exact ih x0 x1 (x2 + 1) _ _ _ _ _ hH hS (lv_sub hl [1, 2, 0] rfl) h kk
        · have h := ifc_f hc h
          refine lv_iload_n C.1 C.2.1 dX4_takeOne_31 rfl (lv_at hl 1 rfl) ?_
          refine lv_if_lt (tgt := 48) C.1 C.2.1 dX4_takeOne_32 (by decide) (fun hc => ?_) (fun hc => ?_)
          · have h := ifc_t hc h
            refine lv_iload_n C.1 C.2.1 dX4_takeOne_48 rfl (lv_at hl 2 rfl) ?_
            refine lv_istore_n (lv' := [(1, .int x2), (0, .ref x0), (2, .int x2)]) C.1 C.2.1 dX4_takeOne_49 rfl hl (by decide) rfl (fun ls hl => ?_)
            refine lv_iinc (v := (x2 + 1)) (lv' := [(2, .int (x2 + 1)), (1, .int x2), (0, .ref x0)]) C.1 C.2.1 dX4_takeOne_50 hl (k := 2) rfl rfl (by decide) rfl (fun ls hl => ?_)
            refine lv_goto (tgt := 4) C.1 C.2.1 dX4_takeOne_53 (by decide) ?_
            exact ih x0 x2 (x2 + 1) _ _ _ _ _ hH hS (lv_sub hl [2, 1, 0] rfl) h kk
          · have h := ifc_f hc h
            refine lv_aload_n C.1 C.2.1 dX4_takeOne_35 rfl (lv_at hl 0 rfl) ?_
            refine lv_iload_n C.1 C.2.1 dX4_takeOne_36 rfl (lv_at hl 2 rfl) ?_
            refine r_callVI C hT hH hS (t := 4) (As := [.int x2]) (fun z1 hz => c_X4_keyAt l D cA base x0 x2 _ z1 hz) (cwV 1 C.2.2.2.2 gX4_takeOne_X4_keyAt rfl rfl rfl (by decide +kernel) ⟨Nat.le_of_ble_eq_true rfl, Nat.le_of_ble_eq_true rfl⟩) rfl (by decide) rfl hl.1 rfl (Nat.le_of_ble_eq_true rfl) dX4_takeOne_37 ⟨by decide, by decide⟩ h (fun v7 mm H locs hH hS h => ?_)
            refine lv_aload_n C.1 C.2.1 dX4_takeOne_40 rfl (lv_at hl 0 rfl) ?_
            refine lv_iload_n C.1 C.2.1 dX4_takeOne_41 rfl (lv_at hl 1 rfl) ?_
            refine r_callVI C hT hH hS (t := 4) (As := [.int x1]) (fun z1 hz => c_X4_keyAt l D cA base x0 x1 _ z1 hz) (cwV 1 C.2.2.2.2 gX4_takeOne_X4_keyAt rfl rfl rfl (by decide +kernel) ⟨Nat.le_of_ble_eq_true rfl, Nat.le_of_ble_eq_true rfl⟩) rfl (by decide) rfl hl.1 rfl (Nat.le_of_ble_eq_true rfl) dX4_takeOne_42 ⟨by decide, by decide⟩ h (fun v8 mm H locs hH hS h => ?_)
            refine lv_icmp_ge (tgt := 50) C.1 C.2.1 dX4_takeOne_45 (by decide) (fun hc => ?_) (fun hc => ?_)
            · have h := ifc_t hc h
              refine lv_iinc (v := (x2 + 1)) (lv' := [(2, .int (x2 + 1)), (0, .ref x0), (1, .int x1)]) C.1 C.2.1 dX4_takeOne_50 hl (k := 2) rfl rfl (by decide) rfl (fun ls hl => ?_)
              refine lv_goto (tgt := 4) C.1 C.2.1 dX4_takeOne_53 (by decide) ?_
              exact ih x0 x1 (x2 + 1) _ _ _ _ _ hH hS (lv_sub hl [1, 2, 0] rfl) h kk
            · have h := ifc_f hc h
              refine lv_iload_n C.1 C.2.1 dX4_takeOne_48 rfl (lv_at hl 2 rfl) ?_
              refine lv_istore_n (lv' := [(1, .int x2), (0, .ref x0), (2, .int x2)]) C.1 C.2.1 dX4_takeOne_49 rfl hl (by decide) rfl (fun ls hl => ?_)
              refine lv_iinc (v := (x2 + 1)) (lv' := [(2, .int (x2 + 1)), (1, .int x2), (0, .ref x0)]) C.1 C.2.1 dX4_takeOne_50 hl (k := 2) rfl rfl (by decide) rfl (fun ls hl => ?_)
              refine lv_goto (tgt := 4) C.1 C.2.1 dX4_takeOne_53 (by decide) ?_
              exact ih x0 x2 (x2 + 1) _ _ _ _ _ hH hS (lv_sub hl [2, 1, 0] rfl) h kk
  have hS : va_S (mA base) s.heap s.heap [] := va_S.rf
  have hl := lv_entry ([.ref a0]) (n := 3) (Nat.le_of_ble_eq_true rfl)
  rw [lg_entry_eq]
  generalize (lg_sl ([.ref a0]) ++ List.replicate (3 - (lg_sl ([.ref a0])).length) Slot.unset).toArray = ls at hl ⊢
  have hl : lv_has ls 3 [(0, .ref a0)] := hl
  unfold f_X4_takeOne at h
  refine lv_iconst (v := (-1)) C.1 C.2.1 dX4_takeOne_0 (by decide) ?_
  refine lv_istore_n (lv' := [(1, .int (-1)), (0, .ref a0)]) C.1 C.2.1 dX4_takeOne_1 rfl hl (by decide) rfl (fun ls hl => ?_)
  refine lv_iconst (v := 0) C.1 C.2.1 dX4_takeOne_2 (by decide) ?_
  refine lv_istore_n (lv' := [(2, .int 0), (1, .int (-1)), (0, .ref a0)]) C.1 C.2.1 dX4_takeOne_3 rfl hl (by decide) rfl (fun ls hl => ?_)
  obtain ⟨x9, mx9, hq, h⟩ := bnd_inv h
  refine L4 2100 a0 (-1) 0 _ _ _ _ (x9, mx9) hH hS (lv_sub hl [2, 1, 0] rfl) hq (fun H locs ls hH hS hl => ?_)
  refine lv_bipush (v := 100) C.1 C.2.1 dX4_takeOne_56 (by decide) ?_
  refine lv_aload_n C.1 C.2.1 dX4_takeOne_58 rfl (lv_at hl 0 rfl) ?_
  refine lv_iload_n C.1 C.2.1 dX4_takeOne_59 rfl (lv_at hl 1 rfl) ?_
  refine r_callVI C hT hH hS (t := 4) (As := [.int x9.1]) (fun z1 hz => c_X4_slotOf l D cA base a0 x9.1 _ z1 hz) (cwV 1 C.2.2.2.2 gX4_takeOne_X4_slotOf rfl rfl rfl (by decide +kernel) ⟨Nat.le_of_ble_eq_true rfl, Nat.le_of_ble_eq_true rfl⟩) rfl (by decide) rfl hl.1 rfl (Nat.le_of_ble_eq_true rfl) dX4_takeOne_60 ⟨by decide, by decide⟩ h (fun v10 mm H locs hH hS h => ?_)
  refine lv_imul C.1 C.2.1 dX4_takeOne_63 ?_
  refine lv_aload_n C.1 C.2.1 dX4_takeOne_64 rfl (lv_at hl 0 rfl) ?_
  refine r_gN C hT hH (t := 4) (k := 23) (T := TX4) rfl w4 (by decide) (by decide) rfl k54 dX4_takeOne_65 h (fun b11 h => ?_)
  refine lv_iload_n C.1 C.2.1 dX4_takeOne_68 rfl (lv_at hl 1 rfl) ?_
  refine r_lI C hT hH dX4_takeOne_69 h (fun v12 h => ?_)
  refine lv_iadd C.1 C.2.1 dX4_takeOne_70 ?_
  refine lv_istore_n (lv' := [(2, .int ((100 * v10) + v12)), (0, .ref a0), (1, .int x9.1)]) C.1 C.2.1 dX4_takeOne_71 rfl hl (by decide) rfl (fun ls hl => ?_)
  refine lv_aload_n C.1 C.2.1 dX4_takeOne_72 rfl (lv_at hl 1 rfl) ?_
  refine r_gN C hT hH (t := 4) (k := 27) (T := TX4) rfl w4 (by decide) (by decide) rfl k66 dX4_takeOne_73 h (fun b13 h => ?_)
  refine lv_bipush (v := 100) C.1 C.2.1 dX4_takeOne_76 (by decide) ?_
  refine lv_iload_n C.1 C.2.1 dX4_takeOne_78 rfl (lv_at hl 2 rfl) ?_
  refine lv_imul C.1 C.2.1 dX4_takeOne_79 ?_
  refine lv_aload_n C.1 C.2.1 dX4_takeOne_80 rfl (lv_at hl 1 rfl) ?_
  refine r_gN C hT hH (t := 4) (k := 23) (T := TX4) rfl w4 (by decide) (by decide) rfl k54 dX4_takeOne_81 h (fun b14 h => ?_)
  refine lv_iload_n C.1 C.2.1 dX4_takeOne_84 rfl (lv_at hl 2 rfl) ?_
  refine r_lI C hT hH dX4_takeOne_85 h (fun v15 h => ?_)
  refine lv_iadd C.1 C.2.1 dX4_takeOne_86 ?_
  refine lv_iconst (v := (-1)) C.1 C.2.1 dX4_takeOne_87 (by decide) ?_
  refine r_sI C hT hH hS dX4_takeOne_88 h (fun mm H locs hH hS h => ?_)
  refine lv_aload_n C.1 C.2.1 dX4_takeOne_89 rfl (lv_at hl 1 rfl) ?_
  refine r_gN C hT hH (t := 4) (k := 15) (T := TX4) rfl w4 (by decide) (by decide) rfl k47 dX4_takeOne_90 h (fun b16 h => ?_)
  refine lv_iload_n C.1 C.2.1 dX4_takeOne_93 rfl (lv_at hl 0 rfl) ?_
  refine r_lZ C hT hH dX4_takeOne_94 h (fun v17 h => ?_)
  refine lv_if_eq (tgt := 178) C.1 C.2.1 dX4_takeOne_95 (by decide) (fun hc => ?_) (fun hc => ?_)
  · have h := ifc_t hc h
    refine lv_aload_n C.1 C.2.1 dX4_takeOne_178 rfl (lv_at hl 1 rfl) ?_
    refine r_gN C hT hH (t := 4) (k := 23) (T := TX4) rfl w4 (by decide) (by decide) rfl k54 dX4_takeOne_179 h (fun b18 h => ?_)
    refine lv_iload_n C.1 C.2.1 dX4_takeOne_182 rfl (lv_at hl 2 rfl) ?_
    refine lv_dup2_11 C.1 C.2.1 dX4_takeOne_183 rfl rfl ?_
    refine r_lI C hT hH dX4_takeOne_184 h (fun v19 h => ?_)
    refine lv_iconst (v := 1) C.1 C.2.1 dX4_takeOne_185 (by decide) ?_
    refine lv_iadd C.1 C.2.1 dX4_takeOne_186 ?_
    refine r_sI C hT hH hS dX4_takeOne_187 h (fun mm H locs hH hS h => ?_)
    refine lv_aload_n C.1 C.2.1 dX4_takeOne_188 rfl (lv_at hl 1 rfl) ?_
    refine lv_dup C.1 C.2.1 dX4_takeOne_189 rfl ?_
    refine r_gI C hT hH (t := 4) (k := 21) (T := TX4) rfl w4 (by decide) (by decide) rfl k136 dX4_takeOne_190 h (fun v20 h => ?_)
    refine lv_iconst (v := 1) C.1 C.2.1 dX4_takeOne_193 (by decide) ?_
    refine lv_iadd C.1 C.2.1 dX4_takeOne_194 ?_
    refine r_pI C hT hH hS (t := 4) (k := 21) (T := TX4) rfl w4 tyX4_ok nmX4 (by decide) (by decide) rfl rfl k136 (Or.inl rfl) dX4_takeOne_195 h (fun mm H locs hH hS h => ?_)
    exact r_vret C hT hH hS hr hlocks (by decide) (by decide) dX4_takeOne_198 h
  · have h := ifc_f hc h
    refine lv_aload_n C.1 C.2.1 dX4_takeOne_98 rfl (lv_at hl 1 rfl) ?_
    refine r_gN C hT hH (t := 4) (k := 27) (T := TX4) rfl w4 (by decide) (by decide) rfl k66 dX4_takeOne_99 h (fun b21 h => ?_)
    refine lv_bipush (v := 100) C.1 C.2.1 dX4_takeOne_102 (by decide) ?_
    refine lv_iload_n C.1 C.2.1 dX4_takeOne_104 rfl (lv_at hl 2 rfl) ?_
    refine lv_imul C.1 C.2.1 dX4_takeOne_105 ?_
    refine lv_aload_n C.1 C.2.1 dX4_takeOne_106 rfl (lv_at hl 1 rfl) ?_
    refine r_gN C hT hH (t := 4) (k := 23) (T := TX4) rfl w4 (by decide) (by decide) rfl k54 dX4_takeOne_107 h (fun b22 h => ?_)
    refine lv_iload_n C.1 C.2.1 dX4_takeOne_110 rfl (lv_at hl 2 rfl) ?_
    refine r_lI C hT hH dX4_takeOne_111 h (fun v23 h => ?_)
    refine lv_iadd C.1 C.2.1 dX4_takeOne_112 ?_
    refine lv_aload_n C.1 C.2.1 dX4_takeOne_113 rfl (lv_at hl 1 rfl) ?_
    refine r_gI C hT hH (t := 4) (k := 22) (T := TX4) rfl w4 (by decide) (by decide) rfl k139 dX4_takeOne_114 h (fun v24 h => ?_)
    refine r_sI C hT hH hS dX4_takeOne_117 h (fun mm H locs hH hS h => ?_)
    refine lv_aload_n C.1 C.2.1 dX4_takeOne_118 rfl (lv_at hl 1 rfl) ?_
    refine r_gN C hT hH (t := 4) (k := 24) (T := TX4) rfl w4 (by decide) (by decide) rfl k57 dX4_takeOne_119 h (fun b25 h => ?_)
    refine lv_aload_n C.1 C.2.1 dX4_takeOne_122 rfl (lv_at hl 1 rfl) ?_
    refine r_gI C hT hH (t := 4) (k := 22) (T := TX4) rfl w4 (by decide) (by decide) rfl k139 dX4_takeOne_123 h (fun v26 h => ?_)
    refine lv_aload_n C.1 C.2.1 dX4_takeOne_126 rfl (lv_at hl 1 rfl) ?_
    refine r_gN C hT hH (t := 4) (k := 13) (T := TX4) rfl w4 (by decide) (by decide) rfl k41 dX4_takeOne_127 h (fun b27 h => ?_)
    refine lv_iload_n C.1 C.2.1 dX4_takeOne_130 rfl (lv_at hl 0 rfl) ?_
    refine r_lI C hT hH dX4_takeOne_131 h (fun v28 h => ?_)
    refine r_sI C hT hH hS dX4_takeOne_132 h (fun mm H locs hH hS h => ?_)
    refine lv_aload_n C.1 C.2.1 dX4_takeOne_133 rfl (lv_at hl 1 rfl) ?_
    refine r_gN C hT hH (t := 4) (k := 25) (T := TX4) rfl w4 (by decide) (by decide) rfl k60 dX4_takeOne_134 h (fun b29 h => ?_)
    refine lv_aload_n C.1 C.2.1 dX4_takeOne_137 rfl (lv_at hl 1 rfl) ?_
    refine r_gI C hT hH (t := 4) (k := 22) (T := TX4) rfl w4 (by decide) (by decide) rfl k139 dX4_takeOne_138 h (fun v30 h => ?_)
    refine lv_aload_n C.1 C.2.1 dX4_takeOne_141 rfl (lv_at hl 1 rfl) ?_
    refine r_gN C hT hH (t := 4) (k := 14) (T := TX4) rfl w4 (by decide) (by decide) rfl k44 dX4_takeOne_142 h (fun b31 h => ?_)
    refine lv_iload_n C.1 C.2.1 dX4_takeOne_145 rfl (lv_at hl 0 rfl) ?_
    refine r_lI C hT hH dX4_takeOne_146 h (fun v32 h => ?_)
    refine r_sI C hT hH hS dX4_takeOne_147 h (fun mm H locs hH hS h => ?_)
    refine lv_aload_n C.1 C.2.1 dX4_takeOne_148 rfl (lv_at hl 1 rfl) ?_
    refine r_gN C hT hH (t := 4) (k := 26) (T := TX4) rfl w4 (by decide) (by decide) rfl k63 dX4_takeOne_149 h (fun b33 h => ?_)
    refine lv_aload_n C.1 C.2.1 dX4_takeOne_152 rfl (lv_at hl 1 rfl) ?_
    refine r_gI C hT hH (t := 4) (k := 22) (T := TX4) rfl w4 (by decide) (by decide) rfl k139 dX4_takeOne_153 h (fun v34 h => ?_)
    refine lv_aload_n C.1 C.2.1 dX4_takeOne_156 rfl (lv_at hl 1 rfl) ?_
    refine r_gN C hT hH (t := 4) (k := 2) (T := TX4) rfl w4 (by decide) (by decide) rfl k13 dX4_takeOne_157 h (fun b35 h => ?_)
    refine lv_aload_n C.1 C.2.1 dX4_takeOne_160 rfl (lv_at hl 1 rfl) ?_
    refine r_gN C hT hH (t := 4) (k := 13) (T := TX4) rfl w4 (by decide) (by decide) rfl k41 dX4_takeOne_161 h (fun b36 h => ?_)
    refine lv_iload_n C.1 C.2.1 dX4_takeOne_164 rfl (lv_at hl 0 rfl) ?_
    refine r_lI C hT hH dX4_takeOne_165 h (fun v37 h => ?_)
    refine r_lI C hT hH dX4_takeOne_166 h (fun v38 h => ?_)
    refine r_sI C hT hH hS dX4_takeOne_167 h (fun mm H locs hH hS h => ?_)
    refine lv_aload_n C.1 C.2.1 dX4_takeOne_168 rfl (lv_at hl 1 rfl) ?_
    refine lv_dup C.1 C.2.1 dX4_takeOne_169 rfl ?_
    refine r_gI C hT hH (t := 4) (k := 22) (T := TX4) rfl w4 (by decide) (by decide) rfl k139 dX4_takeOne_170 h (fun v39 h => ?_)
    refine lv_iconst (v := 1) C.1 C.2.1 dX4_takeOne_173 (by decide) ?_
    refine lv_iadd C.1 C.2.1 dX4_takeOne_174 ?_
    refine r_pI C hT hH hS (t := 4) (k := 22) (T := TX4) rfl w4 tyX4_ok nmX4 (by decide) (by decide) rfl rfl k139 (Or.inl rfl) dX4_takeOne_175 h (fun mm H locs hH hS h => ?_)
    refine lv_aload_n C.1 C.2.1 dX4_takeOne_178 rfl (lv_at hl 1 rfl) ?_
    refine r_gN C hT hH (t := 4) (k := 23) (T := TX4) rfl w4 (by decide) (by decide) rfl k54 dX4_takeOne_179 h (fun b40 h => ?_)
    refine lv_iload_n C.1 C.2.1 dX4_takeOne_182 rfl (lv_at hl 2 rfl) ?_
    refine lv_dup2_11 C.1 C.2.1 dX4_takeOne_183 rfl rfl ?_
    refine r_lI C hT hH dX4_takeOne_184 h (fun v41 h => ?_)
    refine lv_iconst (v := 1) C.1 C.2.1 dX4_takeOne_185 (by decide) ?_
    refine lv_iadd C.1 C.2.1 dX4_takeOne_186 ?_
    refine r_sI C hT hH hS dX4_takeOne_187 h (fun mm H locs hH hS h => ?_)
    refine lv_aload_n C.1 C.2.1 dX4_takeOne_188 rfl (lv_at hl 1 rfl) ?_
    refine lv_dup C.1 C.2.1 dX4_takeOne_189 rfl ?_
    refine r_gI C hT hH (t := 4) (k := 21) (T := TX4) rfl w4 (by decide) (by decide) rfl k136 dX4_takeOne_190 h (fun v42 h => ?_)
    refine lv_iconst (v := 1) C.1 C.2.1 dX4_takeOne_193 (by decide) ?_
    refine lv_iadd C.1 C.2.1 dX4_takeOne_194 ?_
    refine r_pI C hT hH hS (t := 4) (k := 21) (T := TX4) rfl w4 tyX4_ok nmX4 (by decide) (by decide) rfl rfl k136 (Or.inl rfl) dX4_takeOne_195 h (fun mm H locs hH hS h => ?_)
    exact r_vret C hT hH hS hr hlocks (by decide) (by decide) dX4_takeOne_198 h
