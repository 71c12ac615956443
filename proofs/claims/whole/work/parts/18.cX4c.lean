/-! The bytecode computes the functions of 05f: written by wip/tools/gen.py -/
abbrev rm_X4_end : Room := { frames := 1, cells := 0, slots := 0, locals := 25 }
set_option maxHeartbeats 4000000 in
set_option maxRecDepth 100000 in
theorem c_X4_end (l : Launch) (D : va_G) (cA : Nat → ClassId) (base : Nat) (a0 : Nat) (mm : Mem) (z : (Unit) × Mem) (h : f_X4_end a0 mm = some z) : Met l yX4_end wsX4_end rm_X4_end (va_Pc [.ref a0] (mU D cA base mm)) (mQ eV D cA base z) 0 0 (mA base) := by
  refine Met.ofW (cc := cX4_end) (maxL := 7) (ret := none) (by decide) rfl ?_
  intro p e s m args below meth c s₁ B hml hv
  obtain ⟨rfl, hH, hT⟩ := hv
  have C : CallFix p m c cX4_end 7 s ([.ref a0]).toArray wsX4_end RX4 := ⟨B.exec, B.bytes, hml, findClass_of_methodNamed B.named, atoms_spec (ws := wsX4_end) B.pre⟩
  have hr := B.returns
  have hlocks := B.notSynchronized
  have w4 : ∀ w ∈ u_ws RX4 TX4 34, w ∈ wsX4_end := by decide +kernel
  have k13 : Cond.fieldLink RX4 13 "SegmentMergesModel" "turn" "[I" ∈ wsX4_end := by decide +kernel
  have k25 : Cond.fieldLink RX4 25 "SegmentMergesModel" "order" "[I" ∈ wsX4_end := by decide +kernel
  have k28 : Cond.fieldLink RX4 28 "SegmentMergesModel" "isUsed" "[Z" ∈ wsX4_end := by decide +kernel
  have k32 : Cond.fieldLink RX4 32 "SegmentMergesModel" "number" "[I" ∈ wsX4_end := by decide +kernel
  have k35 : Cond.fieldLink RX4 35 "SegmentMergesModel" "tier" "[I" ∈ wsX4_end := by decide +kernel
  have k38 : Cond.fieldLink RX4 38 "SegmentMergesModel" "rows" "[I" ∈ wsX4_end := by decide +kernel
  have k57 : Cond.fieldLink RX4 57 "SegmentMergesModel" "newKey" "[I" ∈ wsX4_end := by decide +kernel
  have k60 : Cond.fieldLink RX4 60 "SegmentMergesModel" "newValue" "[I" ∈ wsX4_end := by decide +kernel
  have k63 : Cond.fieldLink RX4 63 "SegmentMergesModel" "newTurn" "[I" ∈ wsX4_end := by decide +kernel
  have k66 : Cond.fieldLink RX4 66 "SegmentMergesModel" "goes" "[I" ∈ wsX4_end := by decide +kernel
  have k69 : Cond.fieldLink RX4 69 "SegmentMergesModel" "movedNumber" "[I" ∈ wsX4_end := by decide +kernel
  have k72 : Cond.fieldLink RX4 72 "SegmentMergesModel" "movedRows" "[I" ∈ wsX4_end := by decide +kernel
  have k75 : Cond.fieldLink RX4 75 "SegmentMergesModel" "movedTo" "[I" ∈ wsX4_end := by decide +kernel
  have k102 : Cond.fieldLink RX4 102 "SegmentMergesModel" "segments" "I" ∈ wsX4_end := by decide +kernel
  have k109 : Cond.fieldLink RX4 109 "SegmentMergesModel" "numbers" "I" ∈ wsX4_end := by decide +kernel
  have k116 : Cond.fieldLink RX4 116 "SegmentMergesModel" "written" "I" ∈ wsX4_end := by decide +kernel
  have k130 : Cond.fieldLink RX4 130 "SegmentMergesModel" "merged" "I" ∈ wsX4_end := by decide +kernel
  have k133 : Cond.fieldLink RX4 133 "SegmentMergesModel" "mergePlace" "I" ∈ wsX4_end := by decide +kernel
  have k139 : Cond.fieldLink RX4 139 "SegmentMergesModel" "wrote" "I" ∈ wsX4_end := by decide +kernel
  have k157 : Cond.fieldLink RX4 157 "SegmentMergesModel" "movedMany" "I" ∈ wsX4_end := by decide +kernel
  have L66 : ∀ (n : Nat) (x0 : Nat) (x1 : Int32) (x2 : Int32) (x3 : Int32) (x4 : Int32) (mm : Mem) (H : Heap) (locs : List Loc) (ls : Array Slot) (zz : (Int32) × Mem), mH D cA base mm H → va_S (mA base) s.heap H locs → lv_has ls 7 [(0, .ref x0), (1, .int x1), (2, .int x2), (3, .int x3), (4, .int x4)] → f_X4_end_L66 n x0 x1 x2 x3 x4 mm = some zz → (∀ (H : Heap) (locs : List Loc) (ls : Array Slot), mH D cA base zz.2 H → va_S (mA base) s.heap H locs → lv_has ls 7 [(0, .ref x0), (1, .int x1), (2, .int x2), (3, .int x3), (4, .int zz.1)] → W p l e rm_X4_end s m [.ref a0].toArray below meth c H locs 0 0 (MQ below (mQ eV D cA base z) [.ref a0].toArray s 0 0 (mA base)) (F0 m 107 ls [])) → W p l e rm_X4_end s m [.ref a0].toArray below meth c H locs 0 0 (MQ below (mQ eV D cA base z) [.ref a0].toArray s 0 0 (mA base)) (F0 m 66 ls []) := by
    intro n
    induction n with
    | zero =>
      intro x0 x1 x2 x3 x4 mm H locs ls zz hH hS hl h kk
      exact (fl_inv h).elim
    | succ n ih =>
      intro x0 x1 x2 x3 x4 mm H locs ls zz hH hS hl h kk
      unfold f_X4_end_L66 at h
      refine lv_iload C.1 C.2.1 dX4_end_66 (lv_at hl 4 rfl) ?_
      refine lv_aload_n C.1 C.2.1 dX4_end_68 rfl (lv_at hl 0 rfl) ?_
      refine r_gN C hT hH (t := 4) (k := 12) (T := TX4) rfl w4 (by decide) (by decide) rfl k38 dX4_end_69 h (fun b12 h => ?_)
      refine lv_iload_n C.1 C.2.1 dX4_end_72 rfl (lv_at hl 3 rfl) ?_
      refine r_lI C hT hH dX4_end_73 h (fun v13 h => ?_)
      refine lv_icmp_ge (tgt := 107) C.1 C.2.1 dX4_end_74 (by decide) (fun hc => ?_) (fun hc => ?_)
      · have h := ifc_t hc h
        obtain rfl := rt_inv h
        exact kk _ _ _ hH hS (lv_sub hl [0, 1, 2, 3, 4] rfl)
      · have h := ifc_f hc h
        refine lv_aload_n C.1 C.2.1 dX4_end_77 rfl (lv_at hl 0 rfl) ?_
        refine r_gN C hT hH (t := 4) (k := 31) (T := TX4) rfl w4 (by decide) (by decide) rfl k75 dX4_end_78 h (fun b14 h => ?_)
        refine lv_bipush (v := 100) C.1 C.2.1 dX4_end_81 (by decide) ?_
        refine lv_iload_n C.1 C.2.1 dX4_end_83 rfl (lv_at hl 2 rfl) ?_
        refine lv_imul C.1 C.2.1 dX4_end_84 ?_
        refine lv_iload C.1 C.2.1 dX4_end_85 (lv_at hl 4 rfl) ?_
        refine lv_iadd C.1 C.2.1 dX4_end_87 ?_
        refine lv_aload_n C.1 C.2.1 dX4_end_88 rfl (lv_at hl 0 rfl) ?_
        refine r_gN C hT hH (t := 4) (k := 27) (T := TX4) rfl w4 (by decide) (by decide) rfl k66 dX4_end_89 h (fun b15 h => ?_)
        refine lv_bipush (v := 100) C.1 C.2.1 dX4_end_92 (by decide) ?_
        refine lv_iload_n C.1 C.2.1 dX4_end_94 rfl (lv_at hl 2 rfl) ?_
        refine lv_imul C.1 C.2.1 dX4_end_95 ?_
        refine lv_iload C.1 C.2.1 dX4_end_96 (lv_at hl 4 rfl) ?_
        refine lv_iadd C.1 C.2.1 dX4_end_98 ?_
        refine r_lI C hT hH dX4_end_99 h (fun v16 h => ?_)
        refine r_sI C hT hH hS dX4_end_100 h (fun mm H locs hH hS h => ?_)
        refine lv_iinc (v := (x4 + 1)) (lv' := [(4, .int (x4 + 1)), (0, .ref x0), (1, .int x1), (2, .int x2), (3, .int x3)]) C.1 C.2.1 dX4_end_101 hl (k := 4) rfl rfl (by decide) rfl (fun ls hl => ?_)
        refine lv_goto (tgt := 66) C.1 C.2.1 dX4_end_104 (by decide) ?_
        exact ih x0 x1 x2 x3 (x4 + 1) _ _ _ _ _ hH hS (lv_sub hl [1, 2, 3, 4, 0] rfl) h kk
  have L25 : ∀ (n : Nat) (x0 : Nat) (x1 : Int32) (x2 : Int32) (mm : Mem) (H : Heap) (locs : List Loc) (ls : Array Slot) (zz : (Int32 × Int32) × Mem), mH D cA base mm H → va_S (mA base) s.heap H locs → lv_has ls 7 [(0, .ref x0), (1, .int x1), (2, .int x2)] → f_X4_end_L25 n x0 x1 x2 mm = some zz → (∀ (H : Heap) (locs : List Loc) (ls : Array Slot), mH D cA base zz.2 H → va_S (mA base) s.heap H locs → lv_has ls 7 [(0, .ref x0), (1, .int zz.1.1), (2, .int zz.1.2)] → W p l e rm_X4_end s m [.ref a0].toArray below meth c H locs 0 0 (MQ below (mQ eV D cA base z) [.ref a0].toArray s 0 0 (mA base)) (F0 m 141 ls [])) → W p l e rm_X4_end s m [.ref a0].toArray below meth c H locs 0 0 (MQ below (mQ eV D cA base z) [.ref a0].toArray s 0 0 (mA base)) (F0 m 25 ls []) := by
    intro n
    induction n with
    | zero =>
      intro x0 x1 x2 mm H locs ls zz hH hS hl h kk
      exact (fl_inv h).elim
    | succ n ih =>
      intro x0 x1 x2 mm H locs ls zz hH hS hl h kk
      unfold f_X4_end_L25 at h
      refine lv_iload_n C.1 C.2.1 dX4_end_25 rfl (lv_at hl 2 rfl) ?_
      refine lv_aload_n C.1 C.2.1 dX4_end_26 rfl (lv_at hl 0 rfl) ?_
      refine r_gI C hT hH (t := 4) (k := 19) (T := TX4) rfl w4 (by decide) (by decide) rfl k130 dX4_end_27 h (fun v4 h => ?_)
      refine lv_icmp_ge (tgt := 141) C.1 C.2.1 dX4_end_30 (by decide) (fun hc => ?_) (fun hc => ?_)
      · have h := ifc_t hc h
        obtain rfl := rt_inv h
        exact kk _ _ _ hH hS (lv_sub hl [0, 1, 2] rfl)
      · have h := ifc_f hc h
        refine lv_aload_n C.1 C.2.1 dX4_end_33 rfl (lv_at hl 0 rfl) ?_
        refine lv_iload_n C.1 C.2.1 dX4_end_34 rfl (lv_at hl 2 rfl) ?_
        refine r_callVI C hT hH hS (t := 4) (As := [.int x2]) (fun z1 hz => c_X4_slotOf l D cA base x0 x2 _ z1 hz) (cwV 1 C.2.2.2.2 gX4_end_X4_slotOf rfl rfl rfl (by decide +kernel) ⟨Nat.le_of_ble_eq_true rfl, Nat.le_of_ble_eq_true rfl⟩) rfl (by decide) rfl hl.1 rfl (Nat.le_of_ble_eq_true rfl) dX4_end_35 ⟨by decide, by decide⟩ h (fun v5 mm H locs hH hS h => ?_)
        refine lv_istore_n (lv' := [(3, .int v5), (0, .ref x0), (1, .int x1), (2, .int x2)]) C.1 C.2.1 dX4_end_38 rfl hl (by decide) rfl (fun ls hl => ?_)
        refine lv_aload_n C.1 C.2.1 dX4_end_39 rfl (lv_at hl 1 rfl) ?_
        refine r_gN C hT hH (t := 4) (k := 29) (T := TX4) rfl w4 (by decide) (by decide) rfl k69 dX4_end_40 h (fun b6 h => ?_)
        refine lv_iload_n C.1 C.2.1 dX4_end_43 rfl (lv_at hl 3 rfl) ?_
        refine lv_aload_n C.1 C.2.1 dX4_end_44 rfl (lv_at hl 1 rfl) ?_
        refine r_gN C hT hH (t := 4) (k := 10) (T := TX4) rfl w4 (by decide) (by decide) rfl k32 dX4_end_45 h (fun b7 h => ?_)
        refine lv_iload_n C.1 C.2.1 dX4_end_48 rfl (lv_at hl 0 rfl) ?_
        refine r_lI C hT hH dX4_end_49 h (fun v8 h => ?_)
        refine r_sI C hT hH hS dX4_end_50 h (fun mm H locs hH hS h => ?_)
        refine lv_aload_n C.1 C.2.1 dX4_end_51 rfl (lv_at hl 1 rfl) ?_
        refine r_gN C hT hH (t := 4) (k := 30) (T := TX4) rfl w4 (by decide) (by decide) rfl k72 dX4_end_52 h (fun b9 h => ?_)
        refine lv_iload_n C.1 C.2.1 dX4_end_55 rfl (lv_at hl 3 rfl) ?_
        refine lv_aload_n C.1 C.2.1 dX4_end_56 rfl (lv_at hl 1 rfl) ?_
        refine r_gN C hT hH (t := 4) (k := 12) (T := TX4) rfl w4 (by decide) (by decide) rfl k38 dX4_end_57 h (fun b10 h => ?_)
        refine lv_iload_n C.1 C.2.1 dX4_end_60 rfl (lv_at hl 0 rfl) ?_
        refine r_lI C hT hH dX4_end_61 h (fun v11 h => ?_)
        refine r_sI C hT hH hS dX4_end_62 h (fun mm H locs hH hS h => ?_)
        refine lv_iconst (v := 0) C.1 C.2.1 dX4_end_63 (by decide) ?_
        refine lv_istore (lv' := [(4, .int 0), (3, .int v5), (0, .ref x0), (1, .int x1), (2, .int x2)]) C.1 C.2.1 dX4_end_64 hl (by decide) rfl (fun ls hl => ?_)
        obtain ⟨x17, mx17, hq, h⟩ := bnd_inv h
        refine L66 2100 x0 x1 x2 v5 0 _ _ _ _ (x17, mx17) hH hS (lv_sub hl [2, 3, 4, 1, 0] rfl) hq (fun H locs ls hH hS hl => ?_)
        refine lv_aload_n C.1 C.2.1 dX4_end_107 rfl (lv_at hl 0 rfl) ?_
        refine r_gN C hT hH (t := 4) (k := 11) (T := TX4) rfl w4 (by decide) (by decide) rfl k35 dX4_end_108 h (fun b18 h => ?_)
        refine lv_iload_n C.1 C.2.1 dX4_end_111 rfl (lv_at hl 3 rfl) ?_
        refine r_lI C hT hH dX4_end_112 h (fun v19 h => ?_)
        refine lv_iload_n C.1 C.2.1 dX4_end_113 rfl (lv_at hl 1 rfl) ?_
        refine lv_icmp_le (tgt := 126) C.1 C.2.1 dX4_end_114 (by decide) (fun hc => ?_) (fun hc => ?_)
        · have h := ifc_t hc h
          refine lv_iload_n C.1 C.2.1 dX4_end_126 rfl (lv_at hl 1 rfl) ?_
          refine lv_istore_n (lv' := [(1, .int x1), (0, .ref x0), (2, .int x2), (3, .int v5), (4, .int x17)]) C.1 C.2.1 dX4_end_127 rfl hl (by decide) rfl (fun ls hl => ?_)
          refine lv_aload_n C.1 C.2.1 dX4_end_128 rfl (lv_at hl 1 rfl) ?_
          refine r_gN C hT hH (t := 4) (k := 9) (T := TX4) rfl w4 (by decide) (by decide) rfl k28 dX4_end_129 h (fun b20 h => ?_)
          refine lv_iload_n C.1 C.2.1 dX4_end_132 rfl (lv_at hl 3 rfl) ?_
          refine lv_iconst (v := 0) C.1 C.2.1 dX4_end_133 (by decide) ?_
          refine r_sZ C hT hH hS dX4_end_134 h (fun mm H locs hH hS h => ?_)
          refine lv_iinc (v := (x2 + 1)) (lv' := [(2, .int (x2 + 1)), (1, .int x1), (0, .ref x0), (3, .int v5), (4, .int x17)]) C.1 C.2.1 dX4_end_135 hl (k := 2) rfl rfl (by decide) rfl (fun ls hl => ?_)
          refine lv_goto (tgt := 25) C.1 C.2.1 dX4_end_138 (by decide) ?_
          exact ih x0 x1 (x2 + 1) _ _ _ _ _ hH hS (lv_sub hl [2, 1, 0] rfl) h kk
        · have h := ifc_f hc h
          refine lv_aload_n C.1 C.2.1 dX4_end_117 rfl (lv_at hl 0 rfl) ?_
          refine r_gN C hT hH (t := 4) (k := 11) (T := TX4) rfl w4 (by decide) (by decide) rfl k35 dX4_end_118 h (fun b21 h => ?_)
          refine lv_iload_n C.1 C.2.1 dX4_end_121 rfl (lv_at hl 3 rfl) ?_
          refine r_lI C hT hH dX4_end_122 h (fun v22 h => ?_)
          refine lv_goto (tgt := 127) C.1 C.2.1 dX4_end_123 (by decide) ?_
          refine lv_istore_n (lv' := [(1, .int v22), (0, .ref x0), (2, .int x2), (3, .int v5), (4, .int x17)]) C.1 C.2.1 dX4_end_127 rfl hl (by decide) rfl (fun ls hl => ?_)
          refine lv_aload_n C.1 C.2.1 dX4_end_128 rfl (lv_at hl 1 rfl) ?_
          refine r_gN C hT hH (t := 4) (k := 9) (T := TX4) rfl w4 (by decide) (by decide) rfl k28 dX4_end_129 h (fun b23 h => ?_)
          refine lv_iload_n C.1 C.2.1 dX4_end_132 rfl (lv_at hl 3 rfl) ?_
          refine lv_iconst (v := 0) C.1 C.2.1 dX4_end_133 (by decide) ?_
          refine r_sZ C hT hH hS dX4_end_134 h (fun mm H locs hH hS h => ?_)
          refine lv_iinc (v := (x2 + 1)) (lv' := [(2, .int (x2 + 1)), (1, .int v22), (0, .ref x0), (3, .int v5), (4, .int x17)]) C.1 C.2.1 dX4_end_135 hl (k := 2) rfl rfl (by decide) rfl (fun ls hl => ?_)
          refine lv_goto (tgt := 25) C.1 C.2.1 dX4_end_138 (by decide) ?_
          exact ih x0 v22 (x2 + 1) _ _ _ _ _ hH hS (lv_sub hl [2, 1, 0] rfl) h kk
  have L219 : ∀ (n : Nat) (x0 : Nat) (x1 : Int32) (x2 : Int32) (x3 : Int32) (x4 : Int32) (x5 : Int32) (x6 : Int32) (mm : Mem) (H : Heap) (locs : List Loc) (ls : Array Slot) (zz : (Int32) × Mem), mH D cA base mm H → va_S (mA base) s.heap H locs → lv_has ls 7 [(0, .ref x0), (1, .int x1), (2, .int x2), (3, .int x3), (4, .int x4), (5, .int x5), (6, .int x6)] → f_X4_end_L219 n x0 x1 x2 x3 x4 x5 x6 mm = some zz → (∀ (H : Heap) (locs : List Loc) (ls : Array Slot), mH D cA base zz.2 H → va_S (mA base) s.heap H locs → lv_has ls 7 [(0, .ref x0), (1, .int x1), (2, .int x2), (3, .int x3), (4, .int x4), (5, .int x5), (6, .int zz.1)] → W p l e rm_X4_end s m [.ref a0].toArray below meth c H locs 0 0 (MQ below (mQ eV D cA base z) [.ref a0].toArray s 0 0 (mA base)) (F0 m 250 ls [])) → W p l e rm_X4_end s m [.ref a0].toArray below meth c H locs 0 0 (MQ below (mQ eV D cA base z) [.ref a0].toArray s 0 0 (mA base)) (F0 m 219 ls []) := by
    intro n
    induction n with
    | zero =>
      intro x0 x1 x2 x3 x4 x5 x6 mm H locs ls zz hH hS hl h kk
      exact (fl_inv h).elim
    | succ n ih =>
      intro x0 x1 x2 x3 x4 x5 x6 mm H locs ls zz hH hS hl h kk
      unfold f_X4_end_L219 at h
      refine lv_iload C.1 C.2.1 dX4_end_219 (lv_at hl 6 rfl) ?_
      refine lv_aload_n C.1 C.2.1 dX4_end_221 rfl (lv_at hl 0 rfl) ?_
      refine r_gI C hT hH (t := 4) (k := 7) (T := TX4) rfl w4 (by decide) (by decide) rfl k102 dX4_end_222 h (fun v34 h => ?_)
      refine lv_icmp_ge (tgt := 250) C.1 C.2.1 dX4_end_225 (by decide) (fun hc => ?_) (fun hc => ?_)
      · have h := ifc_t hc h
        obtain rfl := rt_inv h
        exact kk _ _ _ hH hS (lv_sub hl [0, 1, 2, 3, 4, 5, 6] rfl)
      · have h := ifc_f hc h
        refine lv_aload_n C.1 C.2.1 dX4_end_228 rfl (lv_at hl 0 rfl) ?_
        refine r_gN C hT hH (t := 4) (k := 8) (T := TX4) rfl w4 (by decide) (by decide) rfl k25 dX4_end_229 h (fun b35 h => ?_)
        refine lv_iload C.1 C.2.1 dX4_end_232 (lv_at hl 6 rfl) ?_
        refine lv_iload_n C.1 C.2.1 dX4_end_234 rfl (lv_at hl 3 rfl) ?_
        refine lv_isub C.1 C.2.1 dX4_end_235 ?_
        refine lv_aload_n C.1 C.2.1 dX4_end_236 rfl (lv_at hl 0 rfl) ?_
        refine r_gN C hT hH (t := 4) (k := 8) (T := TX4) rfl w4 (by decide) (by decide) rfl k25 dX4_end_237 h (fun b36 h => ?_)
        refine lv_iload C.1 C.2.1 dX4_end_240 (lv_at hl 6 rfl) ?_
        refine r_lI C hT hH dX4_end_242 h (fun v37 h => ?_)
        refine r_sI C hT hH hS dX4_end_243 h (fun mm H locs hH hS h => ?_)
        refine lv_iinc (v := (x6 + 1)) (lv' := [(6, .int (x6 + 1)), (0, .ref x0), (1, .int x1), (2, .int x2), (3, .int x3), (4, .int x4), (5, .int x5)]) C.1 C.2.1 dX4_end_244 hl (k := 6) rfl rfl (by decide) rfl (fun ls hl => ?_)
        refine lv_goto (tgt := 219) C.1 C.2.1 dX4_end_247 (by decide) ?_
        exact ih x0 x1 x2 x3 x4 x5 (x6 + 1) _ _ _ _ _ hH hS (lv_sub hl [1, 2, 3, 4, 5, 6, 0] rfl) h kk
  have L299 : ∀ (n : Nat) (x0 : Nat) (x1 : Int32) (x2 : Int32) (x3 : Int32) (x4 : Int32) (x5 : Int32) (x6 : Int32) (mm : Mem) (H : Heap) (locs : List Loc) (ls : Array Slot) (zz : (Int32) × Mem), mH D cA base mm H → va_S (mA base) s.heap H locs → lv_has ls 7 [(0, .ref x0), (1, .int x1), (2, .int x2), (3, .int x3), (4, .int x4), (5, .int x5), (6, .int x6)] → f_X4_end_L299 n x0 x1 x2 x3 x4 x5 x6 mm = some zz → (∀ (H : Heap) (locs : List Loc) (ls : Array Slot), mH D cA base zz.2 H → va_S (mA base) s.heap H locs → lv_has ls 7 [(0, .ref x0), (1, .int x1), (2, .int x2), (3, .int x3), (4, .int x4), (5, .int x5), (6, .int zz.1)] → W p l e rm_X4_end s m [.ref a0].toArray below meth c H locs 0 0 (MQ below (mQ eV D cA base z) [.ref a0].toArray s 0 0 (mA base)) (F0 m 361 ls [])) → W p l e rm_X4_end s m [.ref a0].toArray below meth c H locs 0 0 (MQ below (mQ eV D cA base z) [.ref a0].toArray s 0 0 (mA base)) (F0 m 299 ls []) := by
    intro n
    induction n with
    | zero =>
      intro x0 x1 x2 x3 x4 x5 x6 mm H locs ls zz hH hS hl h kk
      exact (fl_inv h).elim
    | succ n ih =>
      intro x0 x1 x2 x3 x4 x5 x6 mm H locs ls zz hH hS hl h kk
      unfold f_X4_end_L299 at h
      refine lv_iload C.1 C.2.1 dX4_end_299 (lv_at hl 6 rfl) ?_
      refine lv_aload_n C.1 C.2.1 dX4_end_301 rfl (lv_at hl 0 rfl) ?_
      refine r_gI C hT hH (t := 4) (k := 22) (T := TX4) rfl w4 (by decide) (by decide) rfl k139 dX4_end_302 h (fun v52 h => ?_)
      refine lv_icmp_ge (tgt := 361) C.1 C.2.1 dX4_end_305 (by decide) (fun hc => ?_) (fun hc => ?_)
      · have h := ifc_t hc h
        obtain rfl := rt_inv h
        exact kk _ _ _ hH hS (lv_sub hl [0, 1, 2, 3, 4, 5, 6] rfl)
      · have h := ifc_f hc h
        refine lv_aload_n C.1 C.2.1 dX4_end_308 rfl (lv_at hl 0 rfl) ?_
        refine lv_iload C.1 C.2.1 dX4_end_309 (lv_at hl 5 rfl) ?_
        refine lv_aload_n C.1 C.2.1 dX4_end_311 rfl (lv_at hl 0 rfl) ?_
        refine r_gN C hT hH (t := 4) (k := 24) (T := TX4) rfl w4 (by decide) (by decide) rfl k57 dX4_end_312 h (fun b53 h => ?_)
        refine lv_iload C.1 C.2.1 dX4_end_315 (lv_at hl 6 rfl) ?_
        refine r_lI C hT hH dX4_end_317 h (fun v54 h => ?_)
        refine lv_aload_n C.1 C.2.1 dX4_end_318 rfl (lv_at hl 0 rfl) ?_
        refine r_gN C hT hH (t := 4) (k := 25) (T := TX4) rfl w4 (by decide) (by decide) rfl k60 dX4_end_319 h (fun b55 h => ?_)
        refine lv_iload C.1 C.2.1 dX4_end_322 (lv_at hl 6 rfl) ?_
        refine r_lI C hT hH dX4_end_324 h (fun v56 h => ?_)
        refine lv_aload_n C.1 C.2.1 dX4_end_325 rfl (lv_at hl 0 rfl) ?_
        refine r_gN C hT hH (t := 4) (k := 2) (T := TX4) rfl w4 (by decide) (by decide) rfl k13 dX4_end_326 h (fun b57 h => ?_)
        refine lv_aload_n C.1 C.2.1 dX4_end_329 rfl (lv_at hl 0 rfl) ?_
        refine r_gN C hT hH (t := 4) (k := 24) (T := TX4) rfl w4 (by decide) (by decide) rfl k57 dX4_end_330 h (fun b58 h => ?_)
        refine lv_iload C.1 C.2.1 dX4_end_333 (lv_at hl 6 rfl) ?_
        refine r_lI C hT hH dX4_end_335 h (fun v59 h => ?_)
        refine r_lI C hT hH dX4_end_336 h (fun v60 h => ?_)
        refine lv_aload_n C.1 C.2.1 dX4_end_337 rfl (lv_at hl 0 rfl) ?_
        refine r_gN C hT hH (t := 4) (k := 26) (T := TX4) rfl w4 (by decide) (by decide) rfl k63 dX4_end_338 h (fun b61 h => ?_)
        refine lv_iload C.1 C.2.1 dX4_end_341 (lv_at hl 6 rfl) ?_
        refine r_lI C hT hH dX4_end_343 h (fun v62 h => ?_)
        refine lv_icmp_ne (tgt := 351) C.1 C.2.1 dX4_end_344 (by decide) (fun hc => ?_) (fun hc => ?_)
        · have h := ifc_f hc h
          refine lv_iconst (v := 0) C.1 C.2.1 dX4_end_351 (by decide) ?_
          refine r_callVV C hT hH hS (t := 4) (As := [.int x5, .int v54, .int v56, .int 0]) (fun z1 hz => c_X4_lay l D cA base x0 x5 v54 v56 0 _ z1 hz) (cwV 4 C.2.2.2.2 gX4_end_X4_lay rfl rfl rfl (by decide +kernel) ⟨Nat.le_of_ble_eq_true rfl, Nat.le_of_ble_eq_true rfl⟩) rfl (by decide) rfl hl.1 rfl (Nat.le_of_ble_eq_true rfl) dX4_end_352 ⟨by decide, by decide⟩ h (fun _ mm H locs hH hS h => ?_)
          refine lv_iinc (v := (x6 + 1)) (lv' := [(6, .int (x6 + 1)), (0, .ref x0), (1, .int x1), (2, .int x2), (3, .int x3), (4, .int x4), (5, .int x5)]) C.1 C.2.1 dX4_end_355 hl (k := 6) rfl rfl (by decide) rfl (fun ls hl => ?_)
          refine lv_goto (tgt := 299) C.1 C.2.1 dX4_end_358 (by decide) ?_
          exact ih x0 x1 x2 x3 x4 x5 (x6 + 1) _ _ _ _ _ hH hS (lv_sub hl [1, 2, 3, 4, 5, 6, 0] rfl) h kk
        · have h := ifc_t hc h
          refine lv_iconst (v := 1) C.1 C.2.1 dX4_end_347 (by decide) ?_
          refine lv_goto (tgt := 352) C.1 C.2.1 dX4_end_348 (by decide) ?_
          refine r_callVV C hT hH hS (t := 4) (As := [.int x5, .int v54, .int v56, .int 1]) (fun z1 hz => c_X4_lay l D cA base x0 x5 v54 v56 1 _ z1 hz) (cwV 4 C.2.2.2.2 gX4_end_X4_lay rfl rfl rfl (by decide +kernel) ⟨Nat.le_of_ble_eq_true rfl, Nat.le_of_ble_eq_true rfl⟩) rfl (by decide) rfl hl.1 rfl (Nat.le_of_ble_eq_true rfl) dX4_end_352 ⟨by decide, by decide⟩ h (fun _ mm H locs hH hS h => ?_)
          refine lv_iinc (v := (x6 + 1)) (lv' := [(6, .int (x6 + 1)), (0, .ref x0), (1, .int x1), (2, .int x2), (3, .int x3), (4, .int x4), (5, .int x5)]) C.1 C.2.1 dX4_end_355 hl (k := 6) rfl rfl (by decide) rfl (fun ls hl => ?_)
          refine lv_goto (tgt := 299) C.1 C.2.1 dX4_end_358 (by decide) ?_
          exact ih x0 x1 x2 x3 x4 x5 (x6 + 1) _ _ _ _ _ hH hS (lv_sub hl [1, 2, 3, 4, 5, 6, 0] rfl) h kk
  have hS : va_S (mA base) s.heap s.heap [] := va_S.rf
  have hl := lv_entry ([.ref a0]) (n := 7) (Nat.le_of_ble_eq_true rfl)
  rw [lg_entry_eq]
  generalize (lg_sl ([.ref a0]) ++ List.replicate (7 - (lg_sl ([.ref a0])).length) Slot.unset).toArray = ls at hl ⊢
  have hl : lv_has ls 7 [(0, .ref a0)] := hl
  unfold f_X4_end at h
  refine lv_aload_n C.1 C.2.1 dX4_end_0 rfl (lv_at hl 0 rfl) ?_
  refine lv_aload_n C.1 C.2.1 dX4_end_1 rfl (lv_at hl 0 rfl) ?_
  refine r_gI C hT hH (t := 4) (k := 19) (T := TX4) rfl w4 (by decide) (by decide) rfl k130 dX4_end_2 h (fun v1 h => ?_)
  refine r_pI C hT hH hS (t := 4) (k := 28) (T := TX4) rfl w4 tyX4_ok nmX4 (by decide) (by decide) rfl rfl k157 (Or.inl rfl) dX4_end_5 h (fun mm H locs hH hS h => ?_)
  refine lv_aload_n C.1 C.2.1 dX4_end_8 rfl (lv_at hl 0 rfl) ?_
  refine lv_dup C.1 C.2.1 dX4_end_9 rfl ?_
  refine r_gI C hT hH (t := 4) (k := 17) (T := TX4) rfl w4 (by decide) (by decide) rfl k116 dX4_end_10 h (fun v2 h => ?_)
  refine lv_aload_n C.1 C.2.1 dX4_end_13 rfl (lv_at hl 0 rfl) ?_
  refine r_gI C hT hH (t := 4) (k := 22) (T := TX4) rfl w4 (by decide) (by decide) rfl k139 dX4_end_14 h (fun v3 h => ?_)
  refine lv_iadd C.1 C.2.1 dX4_end_17 ?_
  refine r_pI C hT hH hS (t := 4) (k := 17) (T := TX4) rfl w4 tyX4_ok nmX4 (by decide) (by decide) rfl rfl k116 (Or.inl rfl) dX4_end_18 h (fun mm H locs hH hS h => ?_)
  refine lv_iconst (v := 0) C.1 C.2.1 dX4_end_21 (by decide) ?_
  refine lv_istore_n (lv' := [(1, .int 0), (0, .ref a0)]) C.1 C.2.1 dX4_end_22 rfl hl (by decide) rfl (fun ls hl => ?_)
  refine lv_iconst (v := 0) C.1 C.2.1 dX4_end_23 (by decide) ?_
  refine lv_istore_n (lv' := [(2, .int 0), (1, .int 0), (0, .ref a0)]) C.1 C.2.1 dX4_end_24 rfl hl (by decide) rfl (fun ls hl => ?_)
  obtain ⟨x24, mx24, hq, h⟩ := bnd_inv h
  refine L25 2100 a0 0 0 _ _ _ _ (x24, mx24) hH hS (lv_sub hl [2, 1, 0] rfl) hq (fun H locs ls hH hS hl => ?_)
  refine lv_aload_n C.1 C.2.1 dX4_end_141 rfl (lv_at hl 0 rfl) ?_
  refine r_gI C hT hH (t := 4) (k := 22) (T := TX4) rfl w4 (by decide) (by decide) rfl k139 dX4_end_142 h (fun v25 h => ?_)
  refine lv_if_le (tgt := 152) C.1 C.2.1 dX4_end_145 (by decide) (fun hc => ?_) (fun hc => ?_)
  · have h := ifc_t hc h
    refine lv_iconst (v := 0) C.1 C.2.1 dX4_end_152 (by decide) ?_
    refine lv_istore_n (lv' := [(2, .int 0), (0, .ref a0), (1, .int x24.1)]) C.1 C.2.1 dX4_end_153 rfl hl (by decide) rfl (fun ls hl => ?_)
    refine lv_aload_n C.1 C.2.1 dX4_end_154 rfl (lv_at hl 1 rfl) ?_
    refine r_gI C hT hH (t := 4) (k := 19) (T := TX4) rfl w4 (by decide) (by decide) rfl k130 dX4_end_155 h (fun v26 h => ?_)
    refine lv_iload_n C.1 C.2.1 dX4_end_158 rfl (lv_at hl 0 rfl) ?_
    refine lv_isub C.1 C.2.1 dX4_end_159 ?_
    refine lv_istore_n (lv' := [(3, .int (v26 - 0)), (2, .int 0), (0, .ref a0), (1, .int x24.1)]) C.1 C.2.1 dX4_end_160 rfl hl (by decide) rfl (fun ls hl => ?_)
    refine lv_aload_n C.1 C.2.1 dX4_end_161 rfl (lv_at hl 2 rfl) ?_
    refine r_gI C hT hH (t := 4) (k := 20) (T := TX4) rfl w4 (by decide) (by decide) rfl k133 dX4_end_162 h (fun v27 h => ?_)
    refine lv_aload_n C.1 C.2.1 dX4_end_165 rfl (lv_at hl 2 rfl) ?_
    refine r_gI C hT hH (t := 4) (k := 19) (T := TX4) rfl w4 (by decide) (by decide) rfl k130 dX4_end_166 h (fun v28 h => ?_)
    refine lv_iadd C.1 C.2.1 dX4_end_169 ?_
    refine lv_istore (lv' := [(4, .int (v27 + v28)), (3, .int (v26 - 0)), (2, .int 0), (0, .ref a0), (1, .int x24.1)]) C.1 C.2.1 dX4_end_170 hl (by decide) rfl (fun ls hl => ?_)
    refine lv_iload_n C.1 C.2.1 dX4_end_172 rfl (lv_at hl 2 rfl) ?_
    refine lv_iconst (v := 1) C.1 C.2.1 dX4_end_173 (by decide) ?_
    refine lv_icmp_ne (tgt := 184) C.1 C.2.1 dX4_end_174 (by decide) (fun hc => ?_) (fun hc => ?_)
    · refine lv_iconst (v := 0) C.1 C.2.1 dX4_end_184 (by decide) ?_
      refine lv_istore (lv' := [(5, .int 0), (4, .int (v27 + v28)), (3, .int (v26 - 0)), (2, .int 0), (0, .ref a0), (1, .int x24.1)]) C.1 C.2.1 dX4_end_185 hl (by decide) rfl (fun ls hl => ?_)
      refine lv_aload_n C.1 C.2.1 dX4_end_187 rfl (lv_at hl 4 rfl) ?_
      refine r_gN C hT hH (t := 4) (k := 8) (T := TX4) rfl w4 (by decide) (by decide) rfl k25 dX4_end_188 h (fun b29 h => ?_)
      refine lv_aload_n C.1 C.2.1 dX4_end_191 rfl (lv_at hl 4 rfl) ?_
      refine r_gI C hT hH (t := 4) (k := 20) (T := TX4) rfl w4 (by decide) (by decide) rfl k133 dX4_end_192 h (fun v30 h => ?_)
      refine lv_iload_n C.1 C.2.1 dX4_end_195 rfl (lv_at hl 3 rfl) ?_
      refine lv_iconst (v := 1) C.1 C.2.1 dX4_end_196 (by decide) ?_
      refine lv_icmp_ne (tgt := 205) C.1 C.2.1 dX4_end_197 (by decide) (fun hc => ?_) (fun hc => ?_)
      · refine lv_aload_n C.1 C.2.1 dX4_end_205 rfl (lv_at hl 4 rfl) ?_
        refine r_gN C hT hH (t := 4) (k := 8) (T := TX4) rfl w4 (by decide) (by decide) rfl k25 dX4_end_206 h (fun b31 h => ?_)
        refine lv_aload_n C.1 C.2.1 dX4_end_209 rfl (lv_at hl 4 rfl) ?_
        refine r_gI C hT hH (t := 4) (k := 20) (T := TX4) rfl w4 (by decide) (by decide) rfl k133 dX4_end_210 h (fun v32 h => ?_)
        refine r_lI C hT hH dX4_end_213 h (fun v33 h => ?_)
        refine r_sI C hT hH hS dX4_end_214 h (fun mm H locs hH hS h => ?_)
        refine lv_iload C.1 C.2.1 dX4_end_215 (lv_at hl 1 rfl) ?_
        refine lv_istore (lv' := [(6, .int (v27 + v28)), (5, .int 0), (4, .int (v27 + v28)), (3, .int (v26 - 0)), (2, .int 0), (0, .ref a0), (1, .int x24.1)]) C.1 C.2.1 dX4_end_217 hl (by decide) rfl (fun ls hl => ?_)
        obtain ⟨x38, mx38, hq, h⟩ := bnd_inv h
        refine L219 2100 a0 x24.1 0 (v26 - 0) (v27 + v28) 0 (v27 + v28) _ _ _ _ (x38, mx38) hH hS (lv_sub hl [5, 6, 4, 3, 2, 1, 0] rfl) hq (fun H locs ls hH hS hl => ?_)
        refine lv_aload_n C.1 C.2.1 dX4_end_250 rfl (lv_at hl 0 rfl) ?_
        refine lv_dup C.1 C.2.1 dX4_end_251 rfl ?_
        refine r_gI C hT hH (t := 4) (k := 7) (T := TX4) rfl w4 (by decide) (by decide) rfl k102 dX4_end_252 h (fun v39 h => ?_)
        refine lv_iload_n C.1 C.2.1 dX4_end_255 rfl (lv_at hl 3 rfl) ?_
        refine lv_isub C.1 C.2.1 dX4_end_256 ?_
        refine r_pI C hT hH hS (t := 4) (k := 7) (T := TX4) rfl w4 tyX4_ok nmX4 (by decide) (by decide) rfl rfl k102 (Or.inl rfl) dX4_end_257 h (fun mm H locs hH hS h => ?_)
        refine lv_iload_n C.1 C.2.1 dX4_end_260 rfl (lv_at hl 2 rfl) ?_
        refine lv_iconst (v := 1) C.1 C.2.1 dX4_end_261 (by decide) ?_
        refine lv_icmp_ne (tgt := 361) C.1 C.2.1 dX4_end_262 (by decide) (fun hc => ?_) (fun hc => ?_)
        · refine lv_aload_n C.1 C.2.1 dX4_end_361 rfl (lv_at hl 0 rfl) ?_
          refine lv_iconst (v := 0) C.1 C.2.1 dX4_end_362 (by decide) ?_
          refine r_pI C hT hH hS (t := 4) (k := 19) (T := TX4) rfl w4 tyX4_ok nmX4 (by decide) (by decide) rfl rfl k130 (Or.inl rfl) dX4_end_363 h (fun mm H locs hH hS h => ?_)
          exact r_vret C hT hH hS hr hlocks (by decide) (by decide) dX4_end_366 h
        · exact absurd hc (by decide)
      · exact absurd hc (by decide)
    · exact absurd hc (by decide)
  · have h := ifc_f hc h
    refine lv_iconst (v := 1) C.1 C.2.1 dX4_end_148 (by decide) ?_
    refine lv_goto (tgt := 153) C.1 C.2.1 dX4_end_149 (by decide) ?_
    refine lv_istore_n (lv' := [(2, .int 1), (0, .ref a0), (1, .int x24.1)]) C.1 C.2.1 dX4_end_153 rfl hl (by decide) rfl (fun ls hl => ?_)
    refine lv_aload_n C.1 C.2.1 dX4_end_154 rfl (lv_at hl 1 rfl) ?_
    refine r_gI C hT hH (t := 4) (k := 19) (T := TX4) rfl w4 (by decide) (by decide) rfl k130 dX4_end_155 h (fun v40 h => ?_)
    refine lv_iload_n C.1 C.2.1 dX4_end_158 rfl (lv_at hl 0 rfl) ?_
    refine lv_isub C.1 C.2.1 dX4_end_159 ?_
    refine lv_istore_n (lv' := [(3, .int (v40 - 1)), (2, .int 1), (0, .ref a0), (1, .int x24.1)]) C.1 C.2.1 dX4_end_160 rfl hl (by decide) rfl (fun ls hl => ?_)
    refine lv_aload_n C.1 C.2.1 dX4_end_161 rfl (lv_at hl 2 rfl) ?_
    refine r_gI C hT hH (t := 4) (k := 20) (T := TX4) rfl w4 (by decide) (by decide) rfl k133 dX4_end_162 h (fun v41 h => ?_)
    refine lv_aload_n C.1 C.2.1 dX4_end_165 rfl (lv_at hl 2 rfl) ?_
    refine r_gI C hT hH (t := 4) (k := 19) (T := TX4) rfl w4 (by decide) (by decide) rfl k130 dX4_end_166 h (fun v42 h => ?_)
    refine lv_iadd C.1 C.2.1 dX4_end_169 ?_
    refine lv_istore (lv' := [(4, .int (v41 + v42)), (3, .int (v40 - 1)), (2, .int 1), (0, .ref a0), (1, .int x24.1)]) C.1 C.2.1 dX4_end_170 hl (by decide) rfl (fun ls hl => ?_)
    refine lv_iload_n C.1 C.2.1 dX4_end_172 rfl (lv_at hl 2 rfl) ?_
    refine lv_iconst (v := 1) C.1 C.2.1 dX4_end_173 (by decide) ?_
    refine lv_icmp_ne (tgt := 184) C.1 C.2.1 dX4_end_174 (by decide) (fun hc => ?_) (fun hc => ?_)
    · exact absurd hc (by decide)
    · refine lv_aload_n C.1 C.2.1 dX4_end_177 rfl (lv_at hl 3 rfl) ?_
      refine r_callVI C hT hH hS (t := 4) (As := []) (fun z1 hz => c_X4_freeSlot l D cA base a0 _ z1 hz) (cwV 0 C.2.2.2.2 gX4_end_X4_freeSlot rfl rfl rfl (by decide +kernel) ⟨Nat.le_of_ble_eq_true rfl, Nat.le_of_ble_eq_true rfl⟩) rfl (by decide) rfl hl.1 rfl (Nat.le_of_ble_eq_true rfl) dX4_end_178 ⟨by decide, by decide⟩ h (fun v43 mm H locs hH hS h => ?_)
      refine lv_goto (tgt := 185) C.1 C.2.1 dX4_end_181 (by decide) ?_
      refine lv_istore (lv' := [(5, .int v43), (4, .int (v41 + v42)), (3, .int (v40 - 1)), (2, .int 1), (0, .ref a0), (1, .int x24.1)]) C.1 C.2.1 dX4_end_185 hl (by decide) rfl (fun ls hl => ?_)
      refine lv_aload_n C.1 C.2.1 dX4_end_187 rfl (lv_at hl 4 rfl) ?_
      refine r_gN C hT hH (t := 4) (k := 8) (T := TX4) rfl w4 (by decide) (by decide) rfl k25 dX4_end_188 h (fun b44 h => ?_)
      refine lv_aload_n C.1 C.2.1 dX4_end_191 rfl (lv_at hl 4 rfl) ?_
      refine r_gI C hT hH (t := 4) (k := 20) (T := TX4) rfl w4 (by decide) (by decide) rfl k133 dX4_end_192 h (fun v45 h => ?_)
      refine lv_iload_n C.1 C.2.1 dX4_end_195 rfl (lv_at hl 3 rfl) ?_
      refine lv_iconst (v := 1) C.1 C.2.1 dX4_end_196 (by decide) ?_
      refine lv_icmp_ne (tgt := 205) C.1 C.2.1 dX4_end_197 (by decide) (fun hc => ?_) (fun hc => ?_)
      · exact absurd hc (by decide)
      · refine lv_iload C.1 C.2.1 dX4_end_200 (lv_at hl 0 rfl) ?_
        refine lv_goto (tgt := 214) C.1 C.2.1 dX4_end_202 (by decide) ?_
        refine r_sI C hT hH hS dX4_end_214 h (fun mm H locs hH hS h => ?_)
        refine lv_iload C.1 C.2.1 dX4_end_215 (lv_at hl 1 rfl) ?_
        refine lv_istore (lv' := [(6, .int (v41 + v42)), (5, .int v43), (4, .int (v41 + v42)), (3, .int (v40 - 1)), (2, .int 1), (0, .ref a0), (1, .int x24.1)]) C.1 C.2.1 dX4_end_217 hl (by decide) rfl (fun ls hl => ?_)
        obtain ⟨x46, mx46, hq, h⟩ := bnd_inv h
        refine L219 2100 a0 x24.1 1 (v40 - 1) (v41 + v42) v43 (v41 + v42) _ _ _ _ (x46, mx46) hH hS (lv_sub hl [5, 6, 4, 3, 2, 1, 0] rfl) hq (fun H locs ls hH hS hl => ?_)
        refine lv_aload_n C.1 C.2.1 dX4_end_250 rfl (lv_at hl 0 rfl) ?_
        refine lv_dup C.1 C.2.1 dX4_end_251 rfl ?_
        refine r_gI C hT hH (t := 4) (k := 7) (T := TX4) rfl w4 (by decide) (by decide) rfl k102 dX4_end_252 h (fun v47 h => ?_)
        refine lv_iload_n C.1 C.2.1 dX4_end_255 rfl (lv_at hl 3 rfl) ?_
        refine lv_isub C.1 C.2.1 dX4_end_256 ?_
        refine r_pI C hT hH hS (t := 4) (k := 7) (T := TX4) rfl w4 tyX4_ok nmX4 (by decide) (by decide) rfl rfl k102 (Or.inl rfl) dX4_end_257 h (fun mm H locs hH hS h => ?_)
        refine lv_iload_n C.1 C.2.1 dX4_end_260 rfl (lv_at hl 2 rfl) ?_
        refine lv_iconst (v := 1) C.1 C.2.1 dX4_end_261 (by decide) ?_
        refine lv_icmp_ne (tgt := 361) C.1 C.2.1 dX4_end_262 (by decide) (fun hc => ?_) (fun hc => ?_)
        · exact absurd hc (by decide)
        · refine lv_aload_n C.1 C.2.1 dX4_end_265 rfl (lv_at hl 0 rfl) ?_
          refine r_gN C hT hH (t := 4) (k := 11) (T := TX4) rfl w4 (by decide) (by decide) rfl k35 dX4_end_266 h (fun b48 h => ?_)
          refine lv_iload C.1 C.2.1 dX4_end_269 (lv_at hl 5 rfl) ?_
          refine lv_iload_n C.1 C.2.1 dX4_end_271 rfl (lv_at hl 1 rfl) ?_
          refine lv_iconst (v := 1) C.1 C.2.1 dX4_end_272 (by decide) ?_
          refine lv_iadd C.1 C.2.1 dX4_end_273 ?_
          refine r_sI C hT hH hS dX4_end_274 h (fun mm H locs hH hS h => ?_)
          refine lv_aload_n C.1 C.2.1 dX4_end_275 rfl (lv_at hl 0 rfl) ?_
          refine r_gN C hT hH (t := 4) (k := 10) (T := TX4) rfl w4 (by decide) (by decide) rfl k32 dX4_end_276 h (fun b49 h => ?_)
          refine lv_iload C.1 C.2.1 dX4_end_279 (lv_at hl 5 rfl) ?_
          refine lv_aload_n C.1 C.2.1 dX4_end_281 rfl (lv_at hl 0 rfl) ?_
          refine r_gI C hT hH (t := 4) (k := 16) (T := TX4) rfl w4 (by decide) (by decide) rfl k109 dX4_end_282 h (fun v50 h => ?_)
          refine r_sI C hT hH hS dX4_end_285 h (fun mm H locs hH hS h => ?_)
          refine lv_aload_n C.1 C.2.1 dX4_end_286 rfl (lv_at hl 0 rfl) ?_
          refine lv_dup C.1 C.2.1 dX4_end_287 rfl ?_
          refine r_gI C hT hH (t := 4) (k := 16) (T := TX4) rfl w4 (by decide) (by decide) rfl k109 dX4_end_288 h (fun v51 h => ?_)
          refine lv_iconst (v := 1) C.1 C.2.1 dX4_end_291 (by decide) ?_
          refine lv_iadd C.1 C.2.1 dX4_end_292 ?_
          refine r_pI C hT hH hS (t := 4) (k := 16) (T := TX4) rfl w4 tyX4_ok nmX4 (by decide) (by decide) rfl rfl k109 (Or.inl rfl) dX4_end_293 h (fun mm H locs hH hS h => ?_)
          refine lv_iconst (v := 0) C.1 C.2.1 dX4_end_296 (by decide) ?_
          refine lv_istore (lv' := [(6, .int 0), (0, .ref a0), (1, .int x24.1), (2, .int 1), (3, .int (v40 - 1)), (4, .int (v41 + v42)), (5, .int v43)]) C.1 C.2.1 dX4_end_297 hl (by decide) rfl (fun ls hl => ?_)
          obtain ⟨x63, mx63, hq, h⟩ := bnd_inv h
          refine L299 2100 a0 x24.1 1 (v40 - 1) (v41 + v42) v43 0 _ _ _ _ (x63, mx63) hH hS (lv_sub hl [1, 2, 3, 4, 5, 6, 0] rfl) hq (fun H locs ls hH hS hl => ?_)
          refine lv_aload_n C.1 C.2.1 dX4_end_361 rfl (lv_at hl 0 rfl) ?_
          refine lv_iconst (v := 0) C.1 C.2.1 dX4_end_362 (by decide) ?_
          refine r_pI C hT hH hS (t := 4) (k := 19) (T := TX4) rfl w4 tyX4_ok nmX4 (by decide) (by decide) rfl rfl k130 (Or.inl rfl) dX4_end_363 h (fun mm H locs hH hS h => ?_)
          exact r_vret C hT hH hS hr hlocks (by decide) (by decide) dX4_end_366 h
abbrev rm_X4_step : Room := { frames := 3, cells := 0, slots := 0, locals := 64 }
set_option maxHeartbeats 4000000 in
set_option maxRecDepth 100000 in
theorem c_X4_step (l : Launch) (D : va_G) (cA : Nat → ClassId) (base : Nat) (a0 : Nat) (a1 : Int32) (mm : Mem) (z : (Int32) × Mem) (h : f_X4_step a0 a1 mm = some z) : Met l yX4_step wsX4_step rm_X4_step (va_Pc [.ref a0, .int a1] (mU D cA base mm)) (mQ eI D cA base z) 0 0 (mA base) := by
  refine Met.ofW (cc := cX4_step) (maxL := 3) (ret := (some .int)) (by decide) rfl ?_
  intro p e s m args below meth c s₁ B hml hv
  obtain ⟨rfl, hH, hT⟩ := hv
  have C : CallFix p m c cX4_step 3 s ([.ref a0, .int a1]).toArray wsX4_step RX4 := ⟨B.exec, B.bytes, hml, findClass_of_methodNamed B.named, atoms_spec (ws := wsX4_step) B.pre⟩
  have hr := B.returns
  have hlocks := B.notSynchronized
  have w4 : ∀ w ∈ u_ws RX4 TX4 34, w ∈ wsX4_step := by decide +kernel
  have k84 : Cond.fieldLink RX4 84 "SegmentMergesModel" "thrown" "I" ∈ wsX4_step := by decide +kernel
  have k130 : Cond.fieldLink RX4 130 "SegmentMergesModel" "merged" "I" ∈ wsX4_step := by decide +kernel
  have L31 : ∀ (n : Nat) (x0 : Nat) (x1 : Int32) (x2 : Int32) (mm : Mem) (H : Heap) (locs : List Loc) (ls : Array Slot) (zz : (Int32) × Mem), mH D cA base mm H → va_S (mA base) s.heap H locs → lv_has ls 3 [(0, .ref x0), (1, .int x1), (2, .int x2)] → f_X4_step_L31 n x0 x1 x2 mm = some zz → (∀ (H : Heap) (locs : List Loc) (ls : Array Slot), mH D cA base zz.2 H → va_S (mA base) s.heap H locs → lv_has ls 3 [(0, .ref x0), (1, .int x1), (2, .int zz.1)] → W p l e rm_X4_step s m [.ref a0, .int a1].toArray below meth c H locs 0 0 (MQ below (mQ eI D cA base z) [.ref a0, .int a1].toArray s 0 0 (mA base)) (F0 m 53 ls [])) → W p l e rm_X4_step s m [.ref a0, .int a1].toArray below meth c H locs 0 0 (MQ below (mQ eI D cA base z) [.ref a0, .int a1].toArray s 0 0 (mA base)) (F0 m 31 ls []) := by
    intro n
    induction n with
    | zero =>
      intro x0 x1 x2 mm H locs ls zz hH hS hl h kk
      exact (fl_inv h).elim
    | succ n ih =>
      intro x0 x1 x2 mm H locs ls zz hH hS hl h kk
      unfold f_X4_step_L31 at h
      refine lv_iload_n C.1 C.2.1 dX4_step_31 rfl (lv_at hl 2 rfl) ?_
      refine lv_iload_n C.1 C.2.1 dX4_step_32 rfl (lv_at hl 1 rfl) ?_
      refine lv_icmp_ge (tgt := 53) C.1 C.2.1 dX4_step_33 (by decide) (fun hc => ?_) (fun hc => ?_)
      · have h := ifc_t hc h
        obtain rfl := rt_inv h
        exact kk _ _ _ hH hS (lv_sub hl [0, 1, 2] rfl)
      · have h := ifc_f hc h
        refine lv_aload_n C.1 C.2.1 dX4_step_36 rfl (lv_at hl 0 rfl) ?_
        refine r_callVI C hT hH hS (t := 4) (As := []) (fun z1 hz => c_X4_left l D cA base x0 _ z1 hz) (cwV 0 C.2.2.2.2 gX4_step_X4_left rfl rfl rfl (by decide +kernel) ⟨Nat.le_of_ble_eq_true rfl, Nat.le_of_ble_eq_true rfl⟩) rfl (by decide) rfl hl.1 rfl (Nat.le_of_ble_eq_true rfl) dX4_step_37 ⟨by decide, by decide⟩ h (fun v3 mm H locs hH hS h => ?_)
        refine lv_if_le (tgt := 53) C.1 C.2.1 dX4_step_40 (by decide) (fun hc => ?_) (fun hc => ?_)
        · have h := ifc_t hc h
          obtain rfl := rt_inv h
          exact kk _ _ _ hH hS (lv_sub hl [0, 1, 2] rfl)
        · have h := ifc_f hc h
          refine lv_aload_n C.1 C.2.1 dX4_step_43 rfl (lv_at hl 0 rfl) ?_
          refine r_callVV C hT hH hS (t := 4) (As := []) (fun z1 hz => c_X4_takeOne l D cA base x0 _ z1 hz) (cwV 0 C.2.2.2.2 gX4_step_X4_takeOne rfl rfl rfl (by decide +kernel) ⟨Nat.le_of_ble_eq_true rfl, Nat.le_of_ble_eq_true rfl⟩) rfl (by decide) rfl hl.1 rfl (Nat.le_of_ble_eq_true rfl) dX4_step_44 ⟨by decide, by decide⟩ h (fun _ mm H locs hH hS h => ?_)
          refine lv_iinc (v := (x2 + 1)) (lv' := [(2, .int (x2 + 1)), (0, .ref x0), (1, .int x1)]) C.1 C.2.1 dX4_step_47 hl (k := 2) rfl rfl (by decide) rfl (fun ls hl => ?_)
          refine lv_goto (tgt := 31) C.1 C.2.1 dX4_step_50 (by decide) ?_
          exact ih x0 x1 (x2 + 1) _ _ _ _ _ hH hS (lv_sub hl [1, 2, 0] rfl) h kk
  have hS : va_S (mA base) s.heap s.heap [] := va_S.rf
  have hl := lv_entry ([.ref a0, .int a1]) (n := 3) (Nat.le_of_ble_eq_true rfl)
  rw [lg_entry_eq]
  generalize (lg_sl ([.ref a0, .int a1]) ++ List.replicate (3 - (lg_sl ([.ref a0, .int a1])).length) Slot.unset).toArray = ls at hl ⊢
  have hl : lv_has ls 3 [(0, .ref a0), (1, .int a1)] := hl
  unfold f_X4_step at h
  refine lv_aload_n C.1 C.2.1 dX4_step_0 rfl (lv_at hl 0 rfl) ?_
  refine lv_iconst (v := 0) C.1 C.2.1 dX4_step_1 (by decide) ?_
  refine r_pI C hT hH hS (t := 4) (k := 0) (T := TX4) rfl w4 tyX4_ok nmX4 (by decide) (by decide) rfl rfl k84 (Or.inl rfl) dX4_step_2 h (fun mm H locs hH hS h => ?_)
  refine lv_iload_n C.1 C.2.1 dX4_step_5 rfl (lv_at hl 1 rfl) ?_
  refine lv_iconst (v := 0) C.1 C.2.1 dX4_step_6 (by decide) ?_
  refine lv_sipush (v := 1000) C.1 C.2.1 dX4_step_7 (by decide) ?_
  refine r_callSI C hT hH hS (As := [.int a1, .int 0, .int 1000]) (fun z1 hz => c_X4_in l D cA base a1 0 1000 _ z1 hz) (va_cwS 3 C.2.2.2.2 gX4_step_X4_in rfl rfl rfl (by decide +kernel) ⟨Nat.le_of_ble_eq_true rfl, Nat.le_of_ble_eq_true rfl⟩) rfl hl.1 rfl (Nat.le_of_ble_eq_true rfl) dX4_step_10 ⟨by decide, by decide⟩ h (fun v1 mm H locs hH hS h => ?_)
  refine lv_if_ne (tgt := 19) C.1 C.2.1 dX4_step_13 (by decide) (fun hc => ?_) (fun hc => ?_)
  · have h := ifc_f hc h
    refine lv_aload_n C.1 C.2.1 dX4_step_19 rfl (lv_at hl 0 rfl) ?_
    refine r_gI C hT hH (t := 4) (k := 19) (T := TX4) rfl w4 (by decide) (by decide) rfl k130 dX4_step_20 h (fun v2 h => ?_)
    refine lv_if_ne (tgt := 29) C.1 C.2.1 dX4_step_23 (by decide) (fun hc => ?_) (fun hc => ?_)
    · have h := ifc_f hc h
      refine lv_iconst (v := 0) C.1 C.2.1 dX4_step_29 (by decide) ?_
      refine lv_istore_n (lv' := [(2, .int 0), (0, .ref a0), (1, .int a1)]) C.1 C.2.1 dX4_step_30 rfl hl (by decide) rfl (fun ls hl => ?_)
      obtain ⟨x4, mx4, hq, h⟩ := bnd_inv h
      refine L31 2100 a0 a1 0 _ _ _ _ (x4, mx4) hH hS (lv_sub hl [1, 2, 0] rfl) hq (fun H locs ls hH hS hl => ?_)
      refine lv_aload_n C.1 C.2.1 dX4_step_53 rfl (lv_at hl 0 rfl) ?_
      refine r_callVI C hT hH hS (t := 4) (As := []) (fun z1 hz => c_X4_left l D cA base a0 _ z1 hz) (cwV 0 C.2.2.2.2 gX4_step_X4_left rfl rfl rfl (by decide +kernel) ⟨Nat.le_of_ble_eq_true rfl, Nat.le_of_ble_eq_true rfl⟩) rfl (by decide) rfl hl.1 rfl (Nat.le_of_ble_eq_true rfl) dX4_step_54 ⟨by decide, by decide⟩ h (fun v5 mm H locs hH hS h => ?_)
      refine lv_if_ne (tgt := 64) C.1 C.2.1 dX4_step_57 (by decide) (fun hc => ?_) (fun hc => ?_)
      · have h := ifc_f hc h
        refine lv_iload_n C.1 C.2.1 dX4_step_64 rfl (lv_at hl 2 rfl) ?_
        exact r_iret C hT hH hS hr hlocks (by decide) (by decide) dX4_step_65 h
      · have h := ifc_t hc h
        refine lv_aload_n C.1 C.2.1 dX4_step_60 rfl (lv_at hl 0 rfl) ?_
        refine r_callVV C hT hH hS (t := 4) (As := []) (fun z1 hz => c_X4_end l D cA base a0 _ z1 hz) (cwV 0 C.2.2.2.2 gX4_step_X4_end rfl rfl rfl (by decide +kernel) ⟨Nat.le_of_ble_eq_true rfl, Nat.le_of_ble_eq_true rfl⟩) rfl (by decide) rfl hl.1 rfl (Nat.le_of_ble_eq_true rfl) dX4_step_61 ⟨by decide, by decide⟩ h (fun _ mm H locs hH hS h => ?_)
        refine lv_iload_n C.1 C.2.1 dX4_step_64 rfl (lv_at hl 2 rfl) ?_
        exact r_iret C hT hH hS hr hlocks (by decide) (by decide) dX4_step_65 h
    · have h := ifc_t hc h
      refine lv_bipush (v := (-3)) C.1 C.2.1 dX4_step_26 (by decide) ?_
      exact r_iret C hT hH hS hr hlocks (by decide) (by decide) dX4_step_28 h
  · have h := ifc_t hc h
    refine lv_bipush (v := (-2)) C.1 C.2.1 dX4_step_16 (by decide) ?_
    exact r_iret C hT hH hS hr hlocks (by decide) (by decide) dX4_step_18 h
abbrev rm_X4_stop : Room := { frames := 0, cells := 0, slots := 0, locals := 0 }
set_option maxHeartbeats 4000000 in
set_option maxRecDepth 100000 in
theorem c_X4_stop (l : Launch) (D : va_G) (cA : Nat → ClassId) (base : Nat) (a0 : Nat) (mm : Mem) (z : (Int32) × Mem) (h : f_X4_stop a0 mm = some z) : Met l yX4_stop wsX4_stop rm_X4_stop (va_Pc [.ref a0] (mU D cA base mm)) (mQ eI D cA base z) 0 0 (mA base) := by
  refine Met.ofW (cc := cX4_stop) (maxL := 1) (ret := (some .int)) (by decide) rfl ?_
  intro p e s m args below meth c s₁ B hml hv
  obtain ⟨rfl, hH, hT⟩ := hv
  have C : CallFix p m c cX4_stop 1 s ([.ref a0]).toArray wsX4_stop RX4 := ⟨B.exec, B.bytes, hml, findClass_of_methodNamed B.named, atoms_spec (ws := wsX4_stop) B.pre⟩
  have hr := B.returns
  have hlocks := B.notSynchronized
  have w4 : ∀ w ∈ u_ws RX4 TX4 34, w ∈ wsX4_stop := by decide +kernel
  have k84 : Cond.fieldLink RX4 84 "SegmentMergesModel" "thrown" "I" ∈ wsX4_stop := by decide +kernel
  have k116 : Cond.fieldLink RX4 116 "SegmentMergesModel" "written" "I" ∈ wsX4_stop := by decide +kernel
  have k130 : Cond.fieldLink RX4 130 "SegmentMergesModel" "merged" "I" ∈ wsX4_stop := by decide +kernel
  have k136 : Cond.fieldLink RX4 136 "SegmentMergesModel" "taken" "I" ∈ wsX4_stop := by decide +kernel
  have k139 : Cond.fieldLink RX4 139 "SegmentMergesModel" "wrote" "I" ∈ wsX4_stop := by decide +kernel
  have hS : va_S (mA base) s.heap s.heap [] := va_S.rf
  have hl := lv_entry ([.ref a0]) (n := 1) (Nat.le_of_ble_eq_true rfl)
  rw [lg_entry_eq]
  generalize (lg_sl ([.ref a0]) ++ List.replicate (1 - (lg_sl ([.ref a0])).length) Slot.unset).toArray = ls at hl ⊢
  have hl : lv_has ls 1 [(0, .ref a0)] := hl
  unfold f_X4_stop at h
  refine lv_aload_n C.1 C.2.1 dX4_stop_0 rfl (lv_at hl 0 rfl) ?_
  refine lv_iconst (v := 0) C.1 C.2.1 dX4_stop_1 (by decide) ?_
  refine r_pI C hT hH hS (t := 4) (k := 0) (T := TX4) rfl w4 tyX4_ok nmX4 (by decide) (by decide) rfl rfl k84 (Or.inl rfl) dX4_stop_2 h (fun mm H locs hH hS h => ?_)
  refine lv_aload_n C.1 C.2.1 dX4_stop_5 rfl (lv_at hl 0 rfl) ?_
  refine r_gI C hT hH (t := 4) (k := 19) (T := TX4) rfl w4 (by decide) (by decide) rfl k130 dX4_stop_6 h (fun v1 h => ?_)
  refine lv_if_ne (tgt := 15) C.1 C.2.1 dX4_stop_9 (by decide) (fun hc => ?_) (fun hc => ?_)
  · have h := ifc_f hc h
    refine lv_aload_n C.1 C.2.1 dX4_stop_15 rfl (lv_at hl 0 rfl) ?_
    refine lv_iconst (v := 0) C.1 C.2.1 dX4_stop_16 (by decide) ?_
    refine r_pI C hT hH hS (t := 4) (k := 19) (T := TX4) rfl w4 tyX4_ok nmX4 (by decide) (by decide) rfl rfl k130 (Or.inl rfl) dX4_stop_17 h (fun mm H locs hH hS h => ?_)
    refine lv_aload_n C.1 C.2.1 dX4_stop_20 rfl (lv_at hl 0 rfl) ?_
    refine lv_dup C.1 C.2.1 dX4_stop_21 rfl ?_
    refine r_gI C hT hH (t := 4) (k := 17) (T := TX4) rfl w4 (by decide) (by decide) rfl k116 dX4_stop_22 h (fun v2 h => ?_)
    refine lv_aload_n C.1 C.2.1 dX4_stop_25 rfl (lv_at hl 0 rfl) ?_
    refine r_gI C hT hH (t := 4) (k := 22) (T := TX4) rfl w4 (by decide) (by decide) rfl k139 dX4_stop_26 h (fun v3 h => ?_)
    refine lv_iadd C.1 C.2.1 dX4_stop_29 ?_
    refine r_pI C hT hH hS (t := 4) (k := 17) (T := TX4) rfl w4 tyX4_ok nmX4 (by decide) (by decide) rfl rfl k116 (Or.inl rfl) dX4_stop_30 h (fun mm H locs hH hS h => ?_)
    refine lv_aload_n C.1 C.2.1 dX4_stop_33 rfl (lv_at hl 0 rfl) ?_
    refine r_gI C hT hH (t := 4) (k := 21) (T := TX4) rfl w4 (by decide) (by decide) rfl k136 dX4_stop_34 h (fun v4 h => ?_)
    exact r_iret C hT hH hS hr hlocks (by decide) (by decide) dX4_stop_37 h
  · have h := ifc_t hc h
    refine lv_bipush (v := (-3)) C.1 C.2.1 dX4_stop_12 (by decide) ?_
    exact r_iret C hT hH hS hr hlocks (by decide) (by decide) dX4_stop_14 h
abbrev rm_X4_merging : Room := { frames := 2, cells := 0, slots := 0, locals := 43 }
set_option maxHeartbeats 4000000 in
set_option maxRecDepth 100000 in
theorem c_X4_merging (l : Launch) (D : va_G) (cA : Nat → ClassId) (base : Nat) (a0 : Nat) (a1 : Int32) (mm : Mem) (z : (Int32) × Mem) (h : f_X4_merging a0 a1 mm = some z) : Met l yX4_merging wsX4_merging rm_X4_merging (va_Pc [.ref a0, .int a1] (mU D cA base mm)) (mQ eI D cA base z) 0 0 (mA base) := by
  refine Met.ofW (cc := cX4_merging) (maxL := 2) (ret := (some .int)) (by decide) rfl ?_
  intro p e s m args below meth c s₁ B hml hv
  obtain ⟨rfl, hH, hT⟩ := hv
  have C : CallFix p m c cX4_merging 2 s ([.ref a0, .int a1]).toArray wsX4_merging RX4 := ⟨B.exec, B.bytes, hml, findClass_of_methodNamed B.named, atoms_spec (ws := wsX4_merging) B.pre⟩
  have hr := B.returns
  have hlocks := B.notSynchronized
  have w4 : ∀ w ∈ u_ws RX4 TX4 34, w ∈ wsX4_merging := by decide +kernel
  have k84 : Cond.fieldLink RX4 84 "SegmentMergesModel" "thrown" "I" ∈ wsX4_merging := by decide +kernel
  have k130 : Cond.fieldLink RX4 130 "SegmentMergesModel" "merged" "I" ∈ wsX4_merging := by decide +kernel
  have k133 : Cond.fieldLink RX4 133 "SegmentMergesModel" "mergePlace" "I" ∈ wsX4_merging := by decide +kernel
  have k136 : Cond.fieldLink RX4 136 "SegmentMergesModel" "taken" "I" ∈ wsX4_merging := by decide +kernel
  have k139 : Cond.fieldLink RX4 139 "SegmentMergesModel" "wrote" "I" ∈ wsX4_merging := by decide +kernel
  have hS : va_S (mA base) s.heap s.heap [] := va_S.rf
  have hl := lv_entry ([.ref a0, .int a1]) (n := 2) (Nat.le_of_ble_eq_true rfl)
  rw [lg_entry_eq]
  generalize (lg_sl ([.ref a0, .int a1]) ++ List.replicate (2 - (lg_sl ([.ref a0, .int a1])).length) Slot.unset).toArray = ls at hl ⊢
  have hl : lv_has ls 2 [(0, .ref a0), (1, .int a1)] := hl
  unfold f_X4_merging at h
  refine lv_aload_n C.1 C.2.1 dX4_merging_0 rfl (lv_at hl 0 rfl) ?_
  refine lv_iconst (v := 0) C.1 C.2.1 dX4_merging_1 (by decide) ?_
  refine r_pI C hT hH hS (t := 4) (k := 0) (T := TX4) rfl w4 tyX4_ok nmX4 (by decide) (by decide) rfl rfl k84 (Or.inl rfl) dX4_merging_2 h (fun mm H locs hH hS h => ?_)
  refine lv_iload_n C.1 C.2.1 dX4_merging_5 rfl (lv_at hl 1 rfl) ?_
  refine lv_iconst (v := 0) C.1 C.2.1 dX4_merging_6 (by decide) ?_
  refine lv_iconst (v := 3) C.1 C.2.1 dX4_merging_7 (by decide) ?_
  refine r_callSI C hT hH hS (As := [.int a1, .int 0, .int 3]) (fun z1 hz => c_X4_in l D cA base a1 0 3 _ z1 hz) (va_cwS 3 C.2.2.2.2 gX4_merging_X4_in rfl rfl rfl (by decide +kernel) ⟨Nat.le_of_ble_eq_true rfl, Nat.le_of_ble_eq_true rfl⟩) rfl hl.1 rfl (Nat.le_of_ble_eq_true rfl) dX4_merging_8 ⟨by decide, by decide⟩ h (fun v1 mm H locs hH hS h => ?_)
  refine lv_if_ne (tgt := 17) C.1 C.2.1 dX4_merging_11 (by decide) (fun hc => ?_) (fun hc => ?_)
  · have h := ifc_f hc h
    refine lv_aload_n C.1 C.2.1 dX4_merging_17 rfl (lv_at hl 0 rfl) ?_
    refine r_gI C hT hH (t := 4) (k := 19) (T := TX4) rfl w4 (by decide) (by decide) rfl k130 dX4_merging_18 h (fun v2 h => ?_)
    refine lv_if_ne (tgt := 29) C.1 C.2.1 dX4_merging_21 (by decide) (fun hc => ?_) (fun hc => ?_)
    · have h := ifc_f hc h
      refine lv_iload_n C.1 C.2.1 dX4_merging_29 rfl (lv_at hl 1 rfl) ?_
      refine lv_if_ne (tgt := 40) C.1 C.2.1 dX4_merging_30 (by decide) (fun hc => ?_) (fun hc => ?_)
      · have h := ifc_f hc h
        refine lv_iload_n C.1 C.2.1 dX4_merging_40 rfl (lv_at hl 1 rfl) ?_
        refine lv_iconst (v := 1) C.1 C.2.1 dX4_merging_41 (by decide) ?_
        refine lv_icmp_ne (tgt := 52) C.1 C.2.1 dX4_merging_42 (by decide) (fun hc => ?_) (fun hc => ?_)
        · have h := ifc_f hc h
          refine lv_iload_n C.1 C.2.1 dX4_merging_52 rfl (lv_at hl 1 rfl) ?_
          refine lv_iconst (v := 2) C.1 C.2.1 dX4_merging_53 (by decide) ?_
          refine lv_icmp_ne (tgt := 64) C.1 C.2.1 dX4_merging_54 (by decide) (fun hc => ?_) (fun hc => ?_)
          · have h := ifc_f hc h
            refine lv_aload_n C.1 C.2.1 dX4_merging_64 rfl (lv_at hl 0 rfl) ?_
            refine r_gI C hT hH (t := 4) (k := 20) (T := TX4) rfl w4 (by decide) (by decide) rfl k133 dX4_merging_65 h (fun v3 h => ?_)
            exact r_iret C hT hH hS hr hlocks (by decide) (by decide) dX4_merging_68 h
          · have h := ifc_t hc h
            refine lv_aload_n C.1 C.2.1 dX4_merging_57 rfl (lv_at hl 0 rfl) ?_
            refine r_callVI C hT hH hS (t := 4) (As := []) (fun z1 hz => c_X4_left l D cA base a0 _ z1 hz) (cwV 0 C.2.2.2.2 gX4_merging_X4_left rfl rfl rfl (by decide +kernel) ⟨Nat.le_of_ble_eq_true rfl, Nat.le_of_ble_eq_true rfl⟩) rfl (by decide) rfl hl.1 rfl (Nat.le_of_ble_eq_true rfl) dX4_merging_58 ⟨by decide, by decide⟩ h (fun v4 mm H locs hH hS h => ?_)
            refine lv_goto (tgt := 68) C.1 C.2.1 dX4_merging_61 (by decide) ?_
            exact r_iret C hT hH hS hr hlocks (by decide) (by decide) dX4_merging_68 h
        · have h := ifc_t hc h
          refine lv_aload_n C.1 C.2.1 dX4_merging_45 rfl (lv_at hl 0 rfl) ?_
          refine r_gI C hT hH (t := 4) (k := 22) (T := TX4) rfl w4 (by decide) (by decide) rfl k139 dX4_merging_46 h (fun v5 h => ?_)
          refine lv_goto (tgt := 68) C.1 C.2.1 dX4_merging_49 (by decide) ?_
          exact r_iret C hT hH hS hr hlocks (by decide) (by decide) dX4_merging_68 h
      · have h := ifc_t hc h
        refine lv_aload_n C.1 C.2.1 dX4_merging_33 rfl (lv_at hl 0 rfl) ?_
        refine r_gI C hT hH (t := 4) (k := 21) (T := TX4) rfl w4 (by decide) (by decide) rfl k136 dX4_merging_34 h (fun v6 h => ?_)
        refine lv_goto (tgt := 68) C.1 C.2.1 dX4_merging_37 (by decide) ?_
        exact r_iret C hT hH hS hr hlocks (by decide) (by decide) dX4_merging_68 h
    · have h := ifc_t hc h
      refine lv_bipush (v := (-3)) C.1 C.2.1 dX4_merging_24 (by decide) ?_
      refine lv_goto (tgt := 68) C.1 C.2.1 dX4_merging_26 (by decide) ?_
      exact r_iret C hT hH hS hr hlocks (by decide) (by decide) dX4_merging_68 h
  · have h := ifc_t hc h
    refine lv_bipush (v := (-2)) C.1 C.2.1 dX4_merging_14 (by decide) ?_
    exact r_iret C hT hH hS hr hlocks (by decide) (by decide) dX4_merging_16 h
abbrev rm_X4_moved : Room := { frames := 1, cells := 0, slots := 0, locals := 22 }
set_option maxHeartbeats 4000000 in
set_option maxRecDepth 100000 in
theorem c_X4_moved (l : Launch) (D : va_G) (cA : Nat → ClassId) (base : Nat) (a0 : Nat) (a1 : Int32) (a2 : Int32) (mm : Mem) (z : (Int32) × Mem) (h : f_X4_moved a0 a1 a2 mm = some z) : Met l yX4_moved wsX4_moved rm_X4_moved (va_Pc [.ref a0, .int a1, .int a2] (mU D cA base mm)) (mQ eI D cA base z) 0 0 (mA base) := by
  refine Met.ofW (cc := cX4_moved) (maxL := 4) (ret := (some .int)) (by decide) rfl ?_
  intro p e s m args below meth c s₁ B hml hv
  obtain ⟨rfl, hH, hT⟩ := hv
  have C : CallFix p m c cX4_moved 4 s ([.ref a0, .int a1, .int a2]).toArray wsX4_moved RX4 := ⟨B.exec, B.bytes, hml, findClass_of_methodNamed B.named, atoms_spec (ws := wsX4_moved) B.pre⟩
  have hr := B.returns
  have hlocks := B.notSynchronized
  have w4 : ∀ w ∈ u_ws RX4 TX4 34, w ∈ wsX4_moved := by decide +kernel
  have k69 : Cond.fieldLink RX4 69 "SegmentMergesModel" "movedNumber" "[I" ∈ wsX4_moved := by decide +kernel
  have k72 : Cond.fieldLink RX4 72 "SegmentMergesModel" "movedRows" "[I" ∈ wsX4_moved := by decide +kernel
  have k75 : Cond.fieldLink RX4 75 "SegmentMergesModel" "movedTo" "[I" ∈ wsX4_moved := by decide +kernel
  have k84 : Cond.fieldLink RX4 84 "SegmentMergesModel" "thrown" "I" ∈ wsX4_moved := by decide +kernel
  have k157 : Cond.fieldLink RX4 157 "SegmentMergesModel" "movedMany" "I" ∈ wsX4_moved := by decide +kernel
  have L7 : ∀ (n : Nat) (x0 : Nat) (x1 : Int32) (x2 : Int32) (x3 : Int32) (mm : Mem) (H : Heap) (locs : List Loc) (ls : Array Slot), mH D cA base mm H → va_S (mA base) s.heap H locs → lv_has ls 4 [(0, .ref x0), (1, .int x1), (2, .int x2), (3, .int x3)] → f_X4_moved_L7 n x0 x1 x2 x3 mm = some z → W p l e rm_X4_moved s m [.ref a0, .int a1, .int a2].toArray below meth c H locs 0 0 (MQ below (mQ eI D cA base z) [.ref a0, .int a1, .int a2].toArray s 0 0 (mA base)) (F0 m 7 ls []) := by
    intro n
    induction n with
    | zero =>
      intro x0 x1 x2 x3 mm H locs ls hH hS hl h
      exact (fl_inv h).elim
    | succ n ih =>
      intro x0 x1 x2 x3 mm H locs ls hH hS hl h
      unfold f_X4_moved_L7 at h
      refine lv_iload_n C.1 C.2.1 dX4_moved_7 rfl (lv_at hl 3 rfl) ?_
      refine lv_aload_n C.1 C.2.1 dX4_moved_8 rfl (lv_at hl 0 rfl) ?_
      refine r_gI C hT hH (t := 4) (k := 28) (T := TX4) rfl w4 (by decide) (by decide) rfl k157 dX4_moved_9 h (fun v1 h => ?_)
      refine lv_icmp_ge (tgt := 78) C.1 C.2.1 dX4_moved_12 (by decide) (fun hc => ?_) (fun hc => ?_)
      · have h := ifc_t hc h
        refine lv_iconst (v := (-1)) C.1 C.2.1 dX4_moved_78 (by decide) ?_
        exact r_iret C hT hH hS hr hlocks (by decide) (by decide) dX4_moved_79 h
      · have h := ifc_f hc h
        refine lv_aload_n C.1 C.2.1 dX4_moved_15 rfl (lv_at hl 0 rfl) ?_
        refine r_gN C hT hH (t := 4) (k := 29) (T := TX4) rfl w4 (by decide) (by decide) rfl k69 dX4_moved_16 h (fun b2 h => ?_)
        refine lv_iload_n C.1 C.2.1 dX4_moved_19 rfl (lv_at hl 3 rfl) ?_
        refine r_lI C hT hH dX4_moved_20 h (fun v3 h => ?_)
        refine lv_iload_n C.1 C.2.1 dX4_moved_21 rfl (lv_at hl 1 rfl) ?_
        refine lv_icmp_ne (tgt := 72) C.1 C.2.1 dX4_moved_22 (by decide) (fun hc => ?_) (fun hc => ?_)
        · have h := ifc_f hc h
          refine lv_iinc (v := (x3 + 1)) (lv' := [(3, .int (x3 + 1)), (0, .ref x0), (1, .int x1), (2, .int x2)]) C.1 C.2.1 dX4_moved_72 hl (k := 3) rfl rfl (by decide) rfl (fun ls hl => ?_)
          refine lv_goto (tgt := 7) C.1 C.2.1 dX4_moved_75 (by decide) ?_
          exact ih x0 x1 x2 (x3 + 1) _ _ _ _ hH hS (lv_sub hl [1, 2, 3, 0] rfl) h
        · have h := ifc_t hc h
          refine lv_iload_n C.1 C.2.1 dX4_moved_25 rfl (lv_at hl 2 rfl) ?_
          refine lv_iconst (v := 0) C.1 C.2.1 dX4_moved_26 (by decide) ?_
          refine lv_aload_n C.1 C.2.1 dX4_moved_27 rfl (lv_at hl 0 rfl) ?_
          refine r_gN C hT hH (t := 4) (k := 30) (T := TX4) rfl w4 (by decide) (by decide) rfl k72 dX4_moved_28 h (fun b4 h => ?_)
          refine lv_iload_n C.1 C.2.1 dX4_moved_31 rfl (lv_at hl 3 rfl) ?_
          refine r_lI C hT hH dX4_moved_32 h (fun v5 h => ?_)
          refine lv_iconst (v := 1) C.1 C.2.1 dX4_moved_33 (by decide) ?_
          refine lv_isub C.1 C.2.1 dX4_moved_34 ?_
          refine r_callSI C hT hH hS (As := [.int x2, .int 0, .int (v5 - 1)]) (fun z1 hz => c_X4_in l D cA base x2 0 (v5 - 1) _ z1 hz) (va_cwS 3 C.2.2.2.2 gX4_moved_X4_in rfl rfl rfl (by decide +kernel) ⟨Nat.le_of_ble_eq_true rfl, Nat.le_of_ble_eq_true rfl⟩) rfl hl.1 rfl (Nat.le_of_ble_eq_true rfl) dX4_moved_35 ⟨by decide, by decide⟩ h (fun v6 mm H locs hH hS h => ?_)
          refine lv_if_eq (tgt := 72) C.1 C.2.1 dX4_moved_38 (by decide) (fun hc => ?_) (fun hc => ?_)
          · have h := ifc_t hc h
            refine lv_iinc (v := (x3 + 1)) (lv' := [(3, .int (x3 + 1)), (0, .ref x0), (1, .int x1), (2, .int x2)]) C.1 C.2.1 dX4_moved_72 hl (k := 3) rfl rfl (by decide) rfl (fun ls hl => ?_)
            refine lv_goto (tgt := 7) C.1 C.2.1 dX4_moved_75 (by decide) ?_
            exact ih x0 x1 x2 (x3 + 1) _ _ _ _ hH hS (lv_sub hl [1, 2, 3, 0] rfl) h
          · have h := ifc_f hc h
            refine lv_aload_n C.1 C.2.1 dX4_moved_41 rfl (lv_at hl 0 rfl) ?_
            refine r_gN C hT hH (t := 4) (k := 31) (T := TX4) rfl w4 (by decide) (by decide) rfl k75 dX4_moved_42 h (fun b7 h => ?_)
            refine lv_bipush (v := 100) C.1 C.2.1 dX4_moved_45 (by decide) ?_
            refine lv_iload_n C.1 C.2.1 dX4_moved_47 rfl (lv_at hl 3 rfl) ?_
            refine lv_imul C.1 C.2.1 dX4_moved_48 ?_
            refine lv_iload_n C.1 C.2.1 dX4_moved_49 rfl (lv_at hl 2 rfl) ?_
            refine lv_iadd C.1 C.2.1 dX4_moved_50 ?_
            refine r_lI C hT hH dX4_moved_51 h (fun v8 h => ?_)
            refine lv_if_ge (tgt := 60) C.1 C.2.1 dX4_moved_52 (by decide) (fun hc => ?_) (fun hc => ?_)
            · have h := ifc_t hc h
              refine lv_aload_n C.1 C.2.1 dX4_moved_60 rfl (lv_at hl 0 rfl) ?_
              refine r_gN C hT hH (t := 4) (k := 31) (T := TX4) rfl w4 (by decide) (by decide) rfl k75 dX4_moved_61 h (fun b9 h => ?_)
              refine lv_bipush (v := 100) C.1 C.2.1 dX4_moved_64 (by decide) ?_
              refine lv_iload_n C.1 C.2.1 dX4_moved_66 rfl (lv_at hl 3 rfl) ?_
              refine lv_imul C.1 C.2.1 dX4_moved_67 ?_
              refine lv_iload_n C.1 C.2.1 dX4_moved_68 rfl (lv_at hl 2 rfl) ?_
              refine lv_iadd C.1 C.2.1 dX4_moved_69 ?_
              refine r_lI C hT hH dX4_moved_70 h (fun v10 h => ?_)
              exact r_iret C hT hH hS hr hlocks (by decide) (by decide) dX4_moved_71 h
            · have h := ifc_f hc h
              refine lv_bipush (v := (-3)) C.1 C.2.1 dX4_moved_55 (by decide) ?_
              refine lv_goto (tgt := 71) C.1 C.2.1 dX4_moved_57 (by decide) ?_
              exact r_iret C hT hH hS hr hlocks (by decide) (by decide) dX4_moved_71 h
  have hS : va_S (mA base) s.heap s.heap [] := va_S.rf
  have hl := lv_entry ([.ref a0, .int a1, .int a2]) (n := 4) (Nat.le_of_ble_eq_true rfl)
  rw [lg_entry_eq]
  generalize (lg_sl ([.ref a0, .int a1, .int a2]) ++ List.replicate (4 - (lg_sl ([.ref a0, .int a1, .int a2])).length) Slot.unset).toArray = ls at hl ⊢
  have hl : lv_has ls 4 [(0, .ref a0), (1, .int a1), (2, .int a2)] := hl
  unfold f_X4_moved at h
  refine lv_aload_n C.1 C.2.1 dX4_moved_0 rfl (lv_at hl 0 rfl) ?_
  refine lv_iconst (v := 0) C.1 C.2.1 dX4_moved_1 (by decide) ?_
  refine r_pI C hT hH hS (t := 4) (k := 0) (T := TX4) rfl w4 tyX4_ok nmX4 (by decide) (by decide) rfl rfl k84 (Or.inl rfl) dX4_moved_2 h (fun mm H locs hH hS h => ?_)
  refine lv_iconst (v := 0) C.1 C.2.1 dX4_moved_5 (by decide) ?_
  refine lv_istore_n (lv' := [(3, .int 0), (0, .ref a0), (1, .int a1), (2, .int a2)]) C.1 C.2.1 dX4_moved_6 rfl hl (by decide) rfl (fun ls hl => ?_)
  exact L7 2100 a0 a1 a2 0 _ _ _ _ hH hS (lv_sub hl [1, 2, 3, 0] rfl) h
abbrev rm_X4_view : Room := { frames := 0, cells := 0, slots := 0, locals := 0 }
set_option maxHeartbeats 4000000 in
set_option maxRecDepth 100000 in
theorem c_X4_view (l : Launch) (D : va_G) (cA : Nat → ClassId) (base : Nat) (a0 : Nat) (mm : Mem) (z : (Int32) × Mem) (h : f_X4_view a0 mm = some z) : Met l yX4_view wsX4_view rm_X4_view (va_Pc [.ref a0] (mU D cA base mm)) (mQ eI D cA base z) 0 0 (mA base) := by
  refine Met.ofW (cc := cX4_view) (maxL := 3) (ret := (some .int)) (by decide) rfl ?_
  intro p e s m args below meth c s₁ B hml hv
  obtain ⟨rfl, hH, hT⟩ := hv
  have C : CallFix p m c cX4_view 3 s ([.ref a0]).toArray wsX4_view RX4 := ⟨B.exec, B.bytes, hml, findClass_of_methodNamed B.named, atoms_spec (ws := wsX4_view) B.pre⟩
  have hr := B.returns
  have hlocks := B.notSynchronized
  have w4 : ∀ w ∈ u_ws RX4 TX4 34, w ∈ wsX4_view := by decide +kernel
  have k7 : Cond.fieldLink RX4 7 "SegmentMergesModel" "value" "[I" ∈ wsX4_view := by decide +kernel
  have k78 : Cond.fieldLink RX4 78 "SegmentMergesModel" "isView" "[Z" ∈ wsX4_view := by decide +kernel
  have k81 : Cond.fieldLink RX4 81 "SegmentMergesModel" "viewed" "[I" ∈ wsX4_view := by decide +kernel
  have k84 : Cond.fieldLink RX4 84 "SegmentMergesModel" "thrown" "I" ∈ wsX4_view := by decide +kernel
  have L7 : ∀ (n : Nat) (x0 : Nat) (x1 : Int32) (mm : Mem) (H : Heap) (locs : List Loc) (ls : Array Slot) (zz : (Int32) × Mem), mH D cA base mm H → va_S (mA base) s.heap H locs → lv_has ls 3 [(0, .ref x0), (1, .int x1)] → f_X4_view_L7 n x0 x1 mm = some zz → (∀ (H : Heap) (locs : List Loc) (ls : Array Slot), mH D cA base zz.2 H → va_S (mA base) s.heap H locs → lv_has ls 3 [(0, .ref x0), (1, .int zz.1)] → W p l e rm_X4_view s m [.ref a0].toArray below meth c H locs 0 0 (MQ below (mQ eI D cA base z) [.ref a0].toArray s 0 0 (mA base)) (F0 m 27 ls [])) → W p l e rm_X4_view s m [.ref a0].toArray below meth c H locs 0 0 (MQ below (mQ eI D cA base z) [.ref a0].toArray s 0 0 (mA base)) (F0 m 7 ls []) := by
    intro n
    induction n with
    | zero =>
      intro x0 x1 mm H locs ls zz hH hS hl h kk
      exact (fl_inv h).elim
    | succ n ih =>
      intro x0 x1 mm H locs ls zz hH hS hl h kk
      unfold f_X4_view_L7 at h
      refine lv_iload_n C.1 C.2.1 dX4_view_7 rfl (lv_at hl 1 rfl) ?_
      refine lv_iconst (v := 4) C.1 C.2.1 dX4_view_8 (by decide) ?_
      refine lv_icmp_ge (tgt := 27) C.1 C.2.1 dX4_view_9 (by decide) (fun hc => ?_) (fun hc => ?_)
      · have h := ifc_t hc h
        obtain rfl := rt_inv h
        exact kk _ _ _ hH hS (lv_sub hl [0, 1] rfl)
      · have h := ifc_f hc h
        refine lv_aload_n C.1 C.2.1 dX4_view_12 rfl (lv_at hl 0 rfl) ?_
        refine r_gN C hT hH (t := 4) (k := 32) (T := TX4) rfl w4 (by decide) (by decide) rfl k78 dX4_view_13 h (fun b1 h => ?_)
        refine lv_iload_n C.1 C.2.1 dX4_view_16 rfl (lv_at hl 1 rfl) ?_
        refine r_lZ C hT hH dX4_view_17 h (fun v2 h => ?_)
        refine lv_if_eq (tgt := 27) C.1 C.2.1 dX4_view_18 (by decide) (fun hc => ?_) (fun hc => ?_)
        · have h := ifc_t hc h
          obtain rfl := rt_inv h
          exact kk _ _ _ hH hS (lv_sub hl [0, 1] rfl)
        · have h := ifc_f hc h
          refine lv_iinc (v := (x1 + 1)) (lv' := [(1, .int (x1 + 1)), (0, .ref x0)]) C.1 C.2.1 dX4_view_21 hl (k := 1) rfl rfl (by decide) rfl (fun ls hl => ?_)
          refine lv_goto (tgt := 7) C.1 C.2.1 dX4_view_24 (by decide) ?_
          exact ih x0 (x1 + 1) _ _ _ _ _ hH hS (lv_sub hl [1, 0] rfl) h kk
  have L44 : ∀ (n : Nat) (x0 : Nat) (x1 : Int32) (x2 : Int32) (mm : Mem) (H : Heap) (locs : List Loc) (ls : Array Slot) (zz : (Int32) × Mem), mH D cA base mm H → va_S (mA base) s.heap H locs → lv_has ls 3 [(0, .ref x0), (1, .int x1), (2, .int x2)] → f_X4_view_L44 n x0 x1 x2 mm = some zz → (∀ (H : Heap) (locs : List Loc) (ls : Array Slot), mH D cA base zz.2 H → va_S (mA base) s.heap H locs → lv_has ls 3 [(0, .ref x0), (1, .int x1), (2, .int zz.1)] → W p l e rm_X4_view s m [.ref a0].toArray below meth c H locs 0 0 (MQ below (mQ eI D cA base z) [.ref a0].toArray s 0 0 (mA base)) (F0 m 73 ls [])) → W p l e rm_X4_view s m [.ref a0].toArray below meth c H locs 0 0 (MQ below (mQ eI D cA base z) [.ref a0].toArray s 0 0 (mA base)) (F0 m 44 ls []) := by
    intro n
    induction n with
    | zero =>
      intro x0 x1 x2 mm H locs ls zz hH hS hl h kk
      exact (fl_inv h).elim
    | succ n ih =>
      intro x0 x1 x2 mm H locs ls zz hH hS hl h kk
      unfold f_X4_view_L44 at h
      refine lv_iload_n C.1 C.2.1 dX4_view_44 rfl (lv_at hl 2 rfl) ?_
      refine lv_bipush (v := 100) C.1 C.2.1 dX4_view_45 (by decide) ?_
      refine lv_icmp_ge (tgt := 73) C.1 C.2.1 dX4_view_47 (by decide) (fun hc => ?_) (fun hc => ?_)
      · have h := ifc_t hc h
        obtain rfl := rt_inv h
        exact kk _ _ _ hH hS (lv_sub hl [0, 1, 2] rfl)
      · have h := ifc_f hc h
        refine lv_aload_n C.1 C.2.1 dX4_view_50 rfl (lv_at hl 0 rfl) ?_
        refine r_gN C hT hH (t := 4) (k := 33) (T := TX4) rfl w4 (by decide) (by decide) rfl k81 dX4_view_51 h (fun b5 h => ?_)
        refine lv_bipush (v := 100) C.1 C.2.1 dX4_view_54 (by decide) ?_
        refine lv_iload_n C.1 C.2.1 dX4_view_56 rfl (lv_at hl 1 rfl) ?_
        refine lv_imul C.1 C.2.1 dX4_view_57 ?_
        refine lv_iload_n C.1 C.2.1 dX4_view_58 rfl (lv_at hl 2 rfl) ?_
        refine lv_iadd C.1 C.2.1 dX4_view_59 ?_
        refine lv_aload_n C.1 C.2.1 dX4_view_60 rfl (lv_at hl 0 rfl) ?_
        refine r_gN C hT hH (t := 4) (k := 1) (T := TX4) rfl w4 (by decide) (by decide) rfl k7 dX4_view_61 h (fun b6 h => ?_)
        refine lv_iload_n C.1 C.2.1 dX4_view_64 rfl (lv_at hl 2 rfl) ?_
        refine r_lI C hT hH dX4_view_65 h (fun v7 h => ?_)
        refine r_sI C hT hH hS dX4_view_66 h (fun mm H locs hH hS h => ?_)
        refine lv_iinc (v := (x2 + 1)) (lv' := [(2, .int (x2 + 1)), (0, .ref x0), (1, .int x1)]) C.1 C.2.1 dX4_view_67 hl (k := 2) rfl rfl (by decide) rfl (fun ls hl => ?_)
        refine lv_goto (tgt := 44) C.1 C.2.1 dX4_view_70 (by decide) ?_
        exact ih x0 x1 (x2 + 1) _ _ _ _ _ hH hS (lv_sub hl [1, 2, 0] rfl) h kk
  have hS : va_S (mA base) s.heap s.heap [] := va_S.rf
  have hl := lv_entry ([.ref a0]) (n := 3) (Nat.le_of_ble_eq_true rfl)
  rw [lg_entry_eq]
  generalize (lg_sl ([.ref a0]) ++ List.replicate (3 - (lg_sl ([.ref a0])).length) Slot.unset).toArray = ls at hl ⊢
  have hl : lv_has ls 3 [(0, .ref a0)] := hl
  unfold f_X4_view at h
  refine lv_aload_n C.1 C.2.1 dX4_view_0 rfl (lv_at hl 0 rfl) ?_
  refine lv_iconst (v := 0) C.1 C.2.1 dX4_view_1 (by decide) ?_
  refine r_pI C hT hH hS (t := 4) (k := 0) (T := TX4) rfl w4 tyX4_ok nmX4 (by decide) (by decide) rfl rfl k84 (Or.inl rfl) dX4_view_2 h (fun mm H locs hH hS h => ?_)
  refine lv_iconst (v := 0) C.1 C.2.1 dX4_view_5 (by decide) ?_
  refine lv_istore_n (lv' := [(1, .int 0), (0, .ref a0)]) C.1 C.2.1 dX4_view_6 rfl hl (by decide) rfl (fun ls hl => ?_)
  obtain ⟨x3, mx3, hq, h⟩ := bnd_inv h
  refine L7 2100 a0 0 _ _ _ _ (x3, mx3) hH hS (lv_sub hl [1, 0] rfl) hq (fun H locs ls hH hS hl => ?_)
  refine lv_iload_n C.1 C.2.1 dX4_view_27 rfl (lv_at hl 1 rfl) ?_
  refine lv_iconst (v := 4) C.1 C.2.1 dX4_view_28 (by decide) ?_
  refine lv_icmp_ne (tgt := 35) C.1 C.2.1 dX4_view_29 (by decide) (fun hc => ?_) (fun hc => ?_)
  · have h := ifc_f hc h
    refine lv_aload_n C.1 C.2.1 dX4_view_35 rfl (lv_at hl 0 rfl) ?_
    refine r_gN C hT hH (t := 4) (k := 32) (T := TX4) rfl w4 (by decide) (by decide) rfl k78 dX4_view_36 h (fun b4 h => ?_)
    refine lv_iload_n C.1 C.2.1 dX4_view_39 rfl (lv_at hl 1 rfl) ?_
    refine lv_iconst (v := 1) C.1 C.2.1 dX4_view_40 (by decide) ?_
    refine r_sZ C hT hH hS dX4_view_41 h (fun mm H locs hH hS h => ?_)
    refine lv_iconst (v := 0) C.1 C.2.1 dX4_view_42 (by decide) ?_
    refine lv_istore_n (lv' := [(2, .int 0), (0, .ref a0), (1, .int x3)]) C.1 C.2.1 dX4_view_43 rfl hl (by decide) rfl (fun ls hl => ?_)
    obtain ⟨x8, mx8, hq, h⟩ := bnd_inv h
    refine L44 2100 a0 x3 0 _ _ _ _ (x8, mx8) hH hS (lv_sub hl [1, 2, 0] rfl) hq (fun H locs ls hH hS hl => ?_)
    refine lv_iload_n C.1 C.2.1 dX4_view_73 rfl (lv_at hl 1 rfl) ?_
    exact r_iret C hT hH hS hr hlocks (by decide) (by decide) dX4_view_74 h
  · have h := ifc_t hc h
    refine lv_bipush (v := (-4)) C.1 C.2.1 dX4_view_32 (by decide) ?_
    exact r_iret C hT hH hS hr hlocks (by decide) (by decide) dX4_view_34 h
abbrev rm_X4_isOpen : Room := { frames := 1, cells := 0, slots := 0, locals := 22 }
set_option maxHeartbeats 4000000 in
set_option maxRecDepth 100000 in
theorem c_X4_isOpen (l : Launch) (D : va_G) (cA : Nat → ClassId) (base : Nat) (a0 : Nat) (a1 : Int32) (mm : Mem) (z : (Int32) × Mem) (h : f_X4_isOpen a0 a1 mm = some z) : Met l yX4_isOpen wsX4_isOpen rm_X4_isOpen (va_Pc [.ref a0, .int a1] (mU D cA base mm)) (mQ eI D cA base z) 0 0 (mA base) := by
  refine Met.ofW (cc := cX4_isOpen) (maxL := 2) (ret := (some .boolean)) (by decide) rfl ?_
  intro p e s m args below meth c s₁ B hml hv
  obtain ⟨rfl, hH, hT⟩ := hv
  have C : CallFix p m c cX4_isOpen 2 s ([.ref a0, .int a1]).toArray wsX4_isOpen RX4 := ⟨B.exec, B.bytes, hml, findClass_of_methodNamed B.named, atoms_spec (ws := wsX4_isOpen) B.pre⟩
  have hr := B.returns
  have hlocks := B.notSynchronized
  have w4 : ∀ w ∈ u_ws RX4 TX4 34, w ∈ wsX4_isOpen := by decide +kernel
  have k78 : Cond.fieldLink RX4 78 "SegmentMergesModel" "isView" "[Z" ∈ wsX4_isOpen := by decide +kernel
  have hS : va_S (mA base) s.heap s.heap [] := va_S.rf
  have hl := lv_entry ([.ref a0, .int a1]) (n := 2) (Nat.le_of_ble_eq_true rfl)
  rw [lg_entry_eq]
  generalize (lg_sl ([.ref a0, .int a1]) ++ List.replicate (2 - (lg_sl ([.ref a0, .int a1])).length) Slot.unset).toArray = ls at hl ⊢
  have hl : lv_has ls 2 [(0, .ref a0), (1, .int a1)] := hl
  unfold f_X4_isOpen at h
  refine lv_iload_n C.1 C.2.1 dX4_isOpen_0 rfl (lv_at hl 1 rfl) ?_
  refine lv_iconst (v := 0) C.1 C.2.1 dX4_isOpen_1 (by decide) ?_
  refine lv_iconst (v := 3) C.1 C.2.1 dX4_isOpen_2 (by decide) ?_
  refine r_callSI C hT hH hS (As := [.int a1, .int 0, .int 3]) (fun z1 hz => c_X4_in l D cA base a1 0 3 _ z1 hz) (va_cwS 3 C.2.2.2.2 gX4_isOpen_X4_in rfl rfl rfl (by decide +kernel) ⟨Nat.le_of_ble_eq_true rfl, Nat.le_of_ble_eq_true rfl⟩) rfl hl.1 rfl (Nat.le_of_ble_eq_true rfl) dX4_isOpen_3 ⟨by decide, by decide⟩ h (fun v1 mm H locs hH hS h => ?_)
  refine lv_if_eq (tgt := 22) C.1 C.2.1 dX4_isOpen_6 (by decide) (fun hc => ?_) (fun hc => ?_)
  · have h := ifc_t hc h
    refine lv_iconst (v := 0) C.1 C.2.1 dX4_isOpen_22 (by decide) ?_
    exact r_zret C hT hH hS hr hlocks (by decide) (by decide) dX4_isOpen_23 h
  · have h := ifc_f hc h
    refine lv_aload_n C.1 C.2.1 dX4_isOpen_9 rfl (lv_at hl 0 rfl) ?_
    refine r_gN C hT hH (t := 4) (k := 32) (T := TX4) rfl w4 (by decide) (by decide) rfl k78 dX4_isOpen_10 h (fun b2 h => ?_)
    refine lv_iload_n C.1 C.2.1 dX4_isOpen_13 rfl (lv_at hl 1 rfl) ?_
    refine r_lZ C hT hH dX4_isOpen_14 h (fun v3 h => ?_)
    refine lv_if_eq (tgt := 22) C.1 C.2.1 dX4_isOpen_15 (by decide) (fun hc => ?_) (fun hc => ?_)
    · have h := ifc_t hc h
      refine lv_iconst (v := 0) C.1 C.2.1 dX4_isOpen_22 (by decide) ?_
      exact r_zret C hT hH hS hr hlocks (by decide) (by decide) dX4_isOpen_23 h
    · have h := ifc_f hc h
      refine lv_iconst (v := 1) C.1 C.2.1 dX4_isOpen_18 (by decide) ?_
      refine lv_goto (tgt := 23) C.1 C.2.1 dX4_isOpen_19 (by decide) ?_
      exact r_zret C hT hH hS hr hlocks (by decide) (by decide) dX4_isOpen_23 h
abbrev rm_X4_seen : Room := { frames := 2, cells := 0, slots := 0, locals := 43 }
set_option maxHeartbeats 4000000 in
set_option maxRecDepth 100000 in
theorem c_X4_seen (l : Launch) (D : va_G) (cA : Nat → ClassId) (base : Nat) (a0 : Nat) (a1 : Int32) (a2 : Int32) (mm : Mem) (z : (Int32) × Mem) (h : f_X4_seen a0 a1 a2 mm = some z) : Met l yX4_seen wsX4_seen rm_X4_seen (va_Pc [.ref a0, .int a1, .int a2] (mU D cA base mm)) (mQ eI D cA base z) 0 0 (mA base) := by
  refine Met.ofW (cc := cX4_seen) (maxL := 3) (ret := (some .int)) (by decide) rfl ?_
  intro p e s m args below meth c s₁ B hml hv
  obtain ⟨rfl, hH, hT⟩ := hv
  have C : CallFix p m c cX4_seen 3 s ([.ref a0, .int a1, .int a2]).toArray wsX4_seen RX4 := ⟨B.exec, B.bytes, hml, findClass_of_methodNamed B.named, atoms_spec (ws := wsX4_seen) B.pre⟩
  have hr := B.returns
  have hlocks := B.notSynchronized
  have w4 : ∀ w ∈ u_ws RX4 TX4 34, w ∈ wsX4_seen := by decide +kernel
  have k81 : Cond.fieldLink RX4 81 "SegmentMergesModel" "viewed" "[I" ∈ wsX4_seen := by decide +kernel
  have k84 : Cond.fieldLink RX4 84 "SegmentMergesModel" "thrown" "I" ∈ wsX4_seen := by decide +kernel
  have hS : va_S (mA base) s.heap s.heap [] := va_S.rf
  have hl := lv_entry ([.ref a0, .int a1, .int a2]) (n := 3) (Nat.le_of_ble_eq_true rfl)
  rw [lg_entry_eq]
  generalize (lg_sl ([.ref a0, .int a1, .int a2]) ++ List.replicate (3 - (lg_sl ([.ref a0, .int a1, .int a2])).length) Slot.unset).toArray = ls at hl ⊢
  have hl : lv_has ls 3 [(0, .ref a0), (1, .int a1), (2, .int a2)] := hl
  unfold f_X4_seen at h
  refine lv_aload_n C.1 C.2.1 dX4_seen_0 rfl (lv_at hl 0 rfl) ?_
  refine lv_iconst (v := 0) C.1 C.2.1 dX4_seen_1 (by decide) ?_
  refine r_pI C hT hH hS (t := 4) (k := 0) (T := TX4) rfl w4 tyX4_ok nmX4 (by decide) (by decide) rfl rfl k84 (Or.inl rfl) dX4_seen_2 h (fun mm H locs hH hS h => ?_)
  refine lv_aload_n C.1 C.2.1 dX4_seen_5 rfl (lv_at hl 0 rfl) ?_
  refine lv_iload_n C.1 C.2.1 dX4_seen_6 rfl (lv_at hl 1 rfl) ?_
  refine r_callVI C hT hH hS (t := 4) (As := [.int a1]) (fun z1 hz => c_X4_isOpen l D cA base a0 a1 _ z1 hz) (cwV 1 C.2.2.2.2 gX4_seen_X4_isOpen rfl rfl rfl (by decide +kernel) ⟨Nat.le_of_ble_eq_true rfl, Nat.le_of_ble_eq_true rfl⟩) rfl (by decide) rfl hl.1 rfl (Nat.le_of_ble_eq_true rfl) dX4_seen_7 ⟨by decide, by decide⟩ h (fun v1 mm H locs hH hS h => ?_)
  refine lv_if_eq (tgt := 23) C.1 C.2.1 dX4_seen_10 (by decide) (fun hc => ?_) (fun hc => ?_)
  · have h := ifc_t hc h
    refine lv_iconst (v := (-1)) C.1 C.2.1 dX4_seen_23 (by decide) ?_
    exact r_iret C hT hH hS hr hlocks (by decide) (by decide) dX4_seen_24 h
  · have h := ifc_f hc h
    refine lv_iload_n C.1 C.2.1 dX4_seen_13 rfl (lv_at hl 2 rfl) ?_
    refine lv_iconst (v := 0) C.1 C.2.1 dX4_seen_14 (by decide) ?_
    refine lv_bipush (v := 99) C.1 C.2.1 dX4_seen_15 (by decide) ?_
    refine r_callSI C hT hH hS (As := [.int a2, .int 0, .int 99]) (fun z1 hz => c_X4_in l D cA base a2 0 99 _ z1 hz) (va_cwS 3 C.2.2.2.2 gX4_seen_X4_in rfl rfl rfl (by decide +kernel) ⟨Nat.le_of_ble_eq_true rfl, Nat.le_of_ble_eq_true rfl⟩) rfl hl.1 rfl (Nat.le_of_ble_eq_true rfl) dX4_seen_17 ⟨by decide, by decide⟩ h (fun v2 mm H locs hH hS h => ?_)
    refine lv_if_ne (tgt := 25) C.1 C.2.1 dX4_seen_20 (by decide) (fun hc => ?_) (fun hc => ?_)
    · have h := ifc_f hc h
      refine lv_aload_n C.1 C.2.1 dX4_seen_25 rfl (lv_at hl 0 rfl) ?_
      refine r_gN C hT hH (t := 4) (k := 33) (T := TX4) rfl w4 (by decide) (by decide) rfl k81 dX4_seen_26 h (fun b3 h => ?_)
      refine lv_bipush (v := 100) C.1 C.2.1 dX4_seen_29 (by decide) ?_
      refine lv_iload_n C.1 C.2.1 dX4_seen_31 rfl (lv_at hl 1 rfl) ?_
      refine lv_imul C.1 C.2.1 dX4_seen_32 ?_
      refine lv_iload_n C.1 C.2.1 dX4_seen_33 rfl (lv_at hl 2 rfl) ?_
      refine lv_iadd C.1 C.2.1 dX4_seen_34 ?_
      refine r_lI C hT hH dX4_seen_35 h (fun v4 h => ?_)
      refine lv_if_ge (tgt := 44) C.1 C.2.1 dX4_seen_36 (by decide) (fun hc => ?_) (fun hc => ?_)
      · have h := ifc_t hc h
        refine lv_aload_n C.1 C.2.1 dX4_seen_44 rfl (lv_at hl 0 rfl) ?_
        refine r_gN C hT hH (t := 4) (k := 33) (T := TX4) rfl w4 (by decide) (by decide) rfl k81 dX4_seen_45 h (fun b5 h => ?_)
        refine lv_bipush (v := 100) C.1 C.2.1 dX4_seen_48 (by decide) ?_
        refine lv_iload_n C.1 C.2.1 dX4_seen_50 rfl (lv_at hl 1 rfl) ?_
        refine lv_imul C.1 C.2.1 dX4_seen_51 ?_
        refine lv_iload_n C.1 C.2.1 dX4_seen_52 rfl (lv_at hl 2 rfl) ?_
        refine lv_iadd C.1 C.2.1 dX4_seen_53 ?_
        refine r_lI C hT hH dX4_seen_54 h (fun v6 h => ?_)
        exact r_iret C hT hH hS hr hlocks (by decide) (by decide) dX4_seen_55 h
      · have h := ifc_f hc h
        refine lv_bipush (v := (-3)) C.1 C.2.1 dX4_seen_39 (by decide) ?_
        refine lv_goto (tgt := 55) C.1 C.2.1 dX4_seen_41 (by decide) ?_
        exact r_iret C hT hH hS hr hlocks (by decide) (by decide) dX4_seen_55 h
    · have h := ifc_t hc h
      refine lv_iconst (v := (-1)) C.1 C.2.1 dX4_seen_23 (by decide) ?_
      exact r_iret C hT hH hS hr hlocks (by decide) (by decide) dX4_seen_24 h
abbrev rm_X4_shut : Room := { frames := 2, cells := 0, slots := 0, locals := 43 }
set_option maxHeartbeats 4000000 in
set_option maxRecDepth 100000 in
theorem c_X4_shut (l : Launch) (D : va_G) (cA : Nat → ClassId) (base : Nat) (a0 : Nat) (a1 : Int32) (mm : Mem) (z : (Int32) × Mem) (h : f_X4_shut a0 a1 mm = some z) : Met l yX4_shut wsX4_shut rm_X4_shut (va_Pc [.ref a0, .int a1] (mU D cA base mm)) (mQ eI D cA base z) 0 0 (mA base) := by
  refine Met.ofW (cc := cX4_shut) (maxL := 4) (ret := (some .int)) (by decide) rfl ?_
  intro p e s m args below meth c s₁ B hml hv
  obtain ⟨rfl, hH, hT⟩ := hv
  have C : CallFix p m c cX4_shut 4 s ([.ref a0, .int a1]).toArray wsX4_shut RX4 := ⟨B.exec, B.bytes, hml, findClass_of_methodNamed B.named, atoms_spec (ws := wsX4_shut) B.pre⟩
  have hr := B.returns
  have hlocks := B.notSynchronized
  have w4 : ∀ w ∈ u_ws RX4 TX4 34, w ∈ wsX4_shut := by decide +kernel
  have k7 : Cond.fieldLink RX4 7 "SegmentMergesModel" "value" "[I" ∈ wsX4_shut := by decide +kernel
  have k78 : Cond.fieldLink RX4 78 "SegmentMergesModel" "isView" "[Z" ∈ wsX4_shut := by decide +kernel
  have k81 : Cond.fieldLink RX4 81 "SegmentMergesModel" "viewed" "[I" ∈ wsX4_shut := by decide +kernel
  have k84 : Cond.fieldLink RX4 84 "SegmentMergesModel" "thrown" "I" ∈ wsX4_shut := by decide +kernel
  have L26 : ∀ (n : Nat) (x0 : Nat) (x1 : Int32) (x2 : Int32) (x3 : Int32) (mm : Mem) (H : Heap) (locs : List Loc) (ls : Array Slot) (zz : (Int32 × Int32) × Mem), mH D cA base mm H → va_S (mA base) s.heap H locs → lv_has ls 4 [(0, .ref x0), (1, .int x1), (2, .int x2), (3, .int x3)] → f_X4_shut_L26 n x0 x1 x2 x3 mm = some zz → (∀ (H : Heap) (locs : List Loc) (ls : Array Slot), mH D cA base zz.2 H → va_S (mA base) s.heap H locs → lv_has ls 4 [(0, .ref x0), (1, .int x1), (2, .int zz.1.1), (3, .int zz.1.2)] → W p l e rm_X4_shut s m [.ref a0, .int a1].toArray below meth c H locs 0 0 (MQ below (mQ eI D cA base z) [.ref a0, .int a1].toArray s 0 0 (mA base)) (F0 m 66 ls [])) → W p l e rm_X4_shut s m [.ref a0, .int a1].toArray below meth c H locs 0 0 (MQ below (mQ eI D cA base z) [.ref a0, .int a1].toArray s 0 0 (mA base)) (F0 m 26 ls []) := by
    intro n
    induction n with
    | zero =>
      intro x0 x1 x2 x3 mm H locs ls zz hH hS hl h kk
      exact (fl_inv h).elim
    | succ n ih =>
      intro x0 x1 x2 x3 mm H locs ls zz hH hS hl h kk
      unfold f_X4_shut_L26 at h
      refine lv_iload_n C.1 C.2.1 dX4_shut_26 rfl (lv_at hl 3 rfl) ?_
      refine lv_bipush (v := 100) C.1 C.2.1 dX4_shut_27 (by decide) ?_
      refine lv_icmp_ge (tgt := 66) C.1 C.2.1 dX4_shut_29 (by decide) (fun hc => ?_) (fun hc => ?_)
      · have h := ifc_t hc h
        obtain rfl := rt_inv h
        exact kk _ _ _ hH hS (lv_sub hl [0, 1, 2, 3] rfl)
      · have h := ifc_f hc h
        refine lv_iload_n C.1 C.2.1 dX4_shut_32 rfl (lv_at hl 2 rfl) ?_
        refine lv_aload_n C.1 C.2.1 dX4_shut_33 rfl (lv_at hl 0 rfl) ?_
        refine r_gN C hT hH (t := 4) (k := 33) (T := TX4) rfl w4 (by decide) (by decide) rfl k81 dX4_shut_34 h (fun b3 h => ?_)
        refine lv_bipush (v := 100) C.1 C.2.1 dX4_shut_37 (by decide) ?_
        refine lv_iload_n C.1 C.2.1 dX4_shut_39 rfl (lv_at hl 1 rfl) ?_
        refine lv_imul C.1 C.2.1 dX4_shut_40 ?_
        refine lv_iload_n C.1 C.2.1 dX4_shut_41 rfl (lv_at hl 3 rfl) ?_
        refine lv_iadd C.1 C.2.1 dX4_shut_42 ?_
        refine r_lI C hT hH dX4_shut_43 h (fun v4 h => ?_)
        refine lv_aload_n C.1 C.2.1 dX4_shut_44 rfl (lv_at hl 0 rfl) ?_
        refine r_gN C hT hH (t := 4) (k := 1) (T := TX4) rfl w4 (by decide) (by decide) rfl k7 dX4_shut_45 h (fun b5 h => ?_)
        refine lv_iload_n C.1 C.2.1 dX4_shut_48 rfl (lv_at hl 3 rfl) ?_
        refine r_lI C hT hH dX4_shut_49 h (fun v6 h => ?_)
        refine lv_icmp_eq (tgt := 57) C.1 C.2.1 dX4_shut_50 (by decide) (fun hc => ?_) (fun hc => ?_)
        · have h := ifc_t hc h
          refine lv_iconst (v := 0) C.1 C.2.1 dX4_shut_57 (by decide) ?_
          refine lv_iadd C.1 C.2.1 dX4_shut_58 ?_
          refine lv_istore_n (lv' := [(2, .int (x2 + 0)), (0, .ref x0), (1, .int x1), (3, .int x3)]) C.1 C.2.1 dX4_shut_59 rfl hl (by decide) rfl (fun ls hl => ?_)
          refine lv_iinc (v := (x3 + 1)) (lv' := [(3, .int (x3 + 1)), (2, .int (x2 + 0)), (0, .ref x0), (1, .int x1)]) C.1 C.2.1 dX4_shut_60 hl (k := 3) rfl rfl (by decide) rfl (fun ls hl => ?_)
          refine lv_goto (tgt := 26) C.1 C.2.1 dX4_shut_63 (by decide) ?_
          exact ih x0 x1 (x2 + 0) (x3 + 1) _ _ _ _ _ hH hS (lv_sub hl [2, 3, 1, 0] rfl) h kk
        · have h := ifc_f hc h
          refine lv_iconst (v := 1) C.1 C.2.1 dX4_shut_53 (by decide) ?_
          refine lv_goto (tgt := 58) C.1 C.2.1 dX4_shut_54 (by decide) ?_
          refine lv_iadd C.1 C.2.1 dX4_shut_58 ?_
          refine lv_istore_n (lv' := [(2, .int (x2 + 1)), (0, .ref x0), (1, .int x1), (3, .int x3)]) C.1 C.2.1 dX4_shut_59 rfl hl (by decide) rfl (fun ls hl => ?_)
          refine lv_iinc (v := (x3 + 1)) (lv' := [(3, .int (x3 + 1)), (2, .int (x2 + 1)), (0, .ref x0), (1, .int x1)]) C.1 C.2.1 dX4_shut_60 hl (k := 3) rfl rfl (by decide) rfl (fun ls hl => ?_)
          refine lv_goto (tgt := 26) C.1 C.2.1 dX4_shut_63 (by decide) ?_
          exact ih x0 x1 (x2 + 1) (x3 + 1) _ _ _ _ _ hH hS (lv_sub hl [2, 3, 1, 0] rfl) h kk
  have hS : va_S (mA base) s.heap s.heap [] := va_S.rf
  have hl := lv_entry ([.ref a0, .int a1]) (n := 4) (Nat.le_of_ble_eq_true rfl)
  rw [lg_entry_eq]
  generalize (lg_sl ([.ref a0, .int a1]) ++ List.replicate (4 - (lg_sl ([.ref a0, .int a1])).length) Slot.unset).toArray = ls at hl ⊢
  have hl : lv_has ls 4 [(0, .ref a0), (1, .int a1)] := hl
  unfold f_X4_shut at h
  refine lv_aload_n C.1 C.2.1 dX4_shut_0 rfl (lv_at hl 0 rfl) ?_
  refine lv_iconst (v := 0) C.1 C.2.1 dX4_shut_1 (by decide) ?_
  refine r_pI C hT hH hS (t := 4) (k := 0) (T := TX4) rfl w4 tyX4_ok nmX4 (by decide) (by decide) rfl rfl k84 (Or.inl rfl) dX4_shut_2 h (fun mm H locs hH hS h => ?_)
  refine lv_aload_n C.1 C.2.1 dX4_shut_5 rfl (lv_at hl 0 rfl) ?_
  refine lv_iload_n C.1 C.2.1 dX4_shut_6 rfl (lv_at hl 1 rfl) ?_
  refine r_callVI C hT hH hS (t := 4) (As := [.int a1]) (fun z1 hz => c_X4_isOpen l D cA base a0 a1 _ z1 hz) (cwV 1 C.2.2.2.2 gX4_shut_X4_isOpen rfl rfl rfl (by decide +kernel) ⟨Nat.le_of_ble_eq_true rfl, Nat.le_of_ble_eq_true rfl⟩) rfl (by decide) rfl hl.1 rfl (Nat.le_of_ble_eq_true rfl) dX4_shut_7 ⟨by decide, by decide⟩ h (fun v1 mm H locs hH hS h => ?_)
  refine lv_if_ne (tgt := 15) C.1 C.2.1 dX4_shut_10 (by decide) (fun hc => ?_) (fun hc => ?_)
  · have h := ifc_f hc h
    refine lv_aload_n C.1 C.2.1 dX4_shut_15 rfl (lv_at hl 0 rfl) ?_
    refine r_gN C hT hH (t := 4) (k := 32) (T := TX4) rfl w4 (by decide) (by decide) rfl k78 dX4_shut_16 h (fun b2 h => ?_)
    refine lv_iload_n C.1 C.2.1 dX4_shut_19 rfl (lv_at hl 1 rfl) ?_
    refine lv_iconst (v := 0) C.1 C.2.1 dX4_shut_20 (by decide) ?_
    refine r_sZ C hT hH hS dX4_shut_21 h (fun mm H locs hH hS h => ?_)
    refine lv_iconst (v := 0) C.1 C.2.1 dX4_shut_22 (by decide) ?_
    refine lv_istore_n (lv' := [(2, .int 0), (0, .ref a0), (1, .int a1)]) C.1 C.2.1 dX4_shut_23 rfl hl (by decide) rfl (fun ls hl => ?_)
    refine lv_iconst (v := 0) C.1 C.2.1 dX4_shut_24 (by decide) ?_
    refine lv_istore_n (lv' := [(3, .int 0), (2, .int 0), (0, .ref a0), (1, .int a1)]) C.1 C.2.1 dX4_shut_25 rfl hl (by decide) rfl (fun ls hl => ?_)
    obtain ⟨x7, mx7, hq, h⟩ := bnd_inv h
    refine L26 2100 a0 a1 0 0 _ _ _ _ (x7, mx7) hH hS (lv_sub hl [2, 3, 1, 0] rfl) hq (fun H locs ls hH hS hl => ?_)
    refine lv_iload_n C.1 C.2.1 dX4_shut_66 rfl (lv_at hl 2 rfl) ?_
    exact r_iret C hT hH hS hr hlocks (by decide) (by decide) dX4_shut_67 h
  · have h := ifc_t hc h
    refine lv_iconst (v := (-1)) C.1 C.2.1 dX4_shut_13 (by decide) ?_
    exact r_iret C hT hH hS hr hlocks (by decide) (by decide) dX4_shut_14 h
abbrev rm_X4_share : Room := { frames := 2, cells := 0, slots := 0, locals := 46 }
set_option maxHeartbeats 4000000 in
set_option maxRecDepth 100000 in
theorem c_X4_share (l : Launch) (D : va_G) (cA : Nat → ClassId) (base : Nat) (a0 : Nat) (mm : Mem) (z : (Int32) × Mem) (h : f_X4_share a0 mm = some z) : Met l yX4_share wsX4_share rm_X4_share (va_Pc [.ref a0] (mU D cA base mm)) (mQ eI D cA base z) 0 0 (mA base) := by
  refine Met.ofW (cc := cX4_share) (maxL := 2) (ret := (some .int)) (by decide) rfl ?_
  intro p e s m args below meth c s₁ B hml hv
  obtain ⟨rfl, hH, hT⟩ := hv
  have C : CallFix p m c cX4_share 2 s ([.ref a0]).toArray wsX4_share RX4 := ⟨B.exec, B.bytes, hml, findClass_of_methodNamed B.named, atoms_spec (ws := wsX4_share) B.pre⟩
  have hr := B.returns
  have hlocks := B.notSynchronized
  have w4 : ∀ w ∈ u_ws RX4 TX4 34, w ∈ wsX4_share := by decide +kernel
  have k84 : Cond.fieldLink RX4 84 "SegmentMergesModel" "thrown" "I" ∈ wsX4_share := by decide +kernel
  have hS : va_S (mA base) s.heap s.heap [] := va_S.rf
  have hl := lv_entry ([.ref a0]) (n := 2) (Nat.le_of_ble_eq_true rfl)
  rw [lg_entry_eq]
  generalize (lg_sl ([.ref a0]) ++ List.replicate (2 - (lg_sl ([.ref a0])).length) Slot.unset).toArray = ls at hl ⊢
  have hl : lv_has ls 2 [(0, .ref a0)] := hl
  unfold f_X4_share at h
  refine lv_aload_n C.1 C.2.1 dX4_share_0 rfl (lv_at hl 0 rfl) ?_
  refine lv_iconst (v := 0) C.1 C.2.1 dX4_share_1 (by decide) ?_
  refine r_pI C hT hH hS (t := 4) (k := 0) (T := TX4) rfl w4 tyX4_ok nmX4 (by decide) (by decide) rfl rfl k84 (Or.inl rfl) dX4_share_2 h (fun mm H locs hH hS h => ?_)
  refine lv_aload_n C.1 C.2.1 dX4_share_5 rfl (lv_at hl 0 rfl) ?_
  refine lv_iconst (v := 0) C.1 C.2.1 dX4_share_6 (by decide) ?_
  refine r_callVI C hT hH hS (t := 4) (As := [.int 0]) (fun z1 hz => c_X4_all l D cA base a0 0 _ z1 hz) (cwV 1 C.2.2.2.2 gX4_share_X4_all rfl rfl rfl (by decide +kernel) ⟨Nat.le_of_ble_eq_true rfl, Nat.le_of_ble_eq_true rfl⟩) rfl (by decide) rfl hl.1 rfl (Nat.le_of_ble_eq_true rfl) dX4_share_7 ⟨by decide, by decide⟩ h (fun v1 mm H locs hH hS h => ?_)
  refine lv_istore_n (lv' := [(1, .int v1), (0, .ref a0)]) C.1 C.2.1 dX4_share_10 rfl hl (by decide) rfl (fun ls hl => ?_)
  refine lv_iload_n C.1 C.2.1 dX4_share_11 rfl (lv_at hl 0 rfl) ?_
  refine lv_if_ne (tgt := 22) C.1 C.2.1 dX4_share_12 (by decide) (fun hc => ?_) (fun hc => ?_)
  · have h := ifc_f hc h
    refine lv_sipush (v := 1000) C.1 C.2.1 dX4_share_22 (by decide) ?_
    refine lv_aload_n C.1 C.2.1 dX4_share_25 rfl (lv_at hl 1 rfl) ?_
    refine lv_iconst (v := 1) C.1 C.2.1 dX4_share_26 (by decide) ?_
    refine r_callVI C hT hH hS (t := 4) (As := [.int 1]) (fun z1 hz => c_X4_all l D cA base a0 1 _ z1 hz) (cwV 1 C.2.2.2.2 gX4_share_X4_all rfl rfl rfl (by decide +kernel) ⟨Nat.le_of_ble_eq_true rfl, Nat.le_of_ble_eq_true rfl⟩) rfl (by decide) rfl hl.1 rfl (Nat.le_of_ble_eq_true rfl) dX4_share_27 ⟨by decide, by decide⟩ h (fun v2 mm H locs hH hS h => ?_)
    refine lv_imul C.1 C.2.1 dX4_share_30 ?_
    refine lv_iload_n C.1 C.2.1 dX4_share_31 rfl (lv_at hl 0 rfl) ?_
    refine r_dv C dX4_share_32 h (fun v3 h => ?_)
    exact r_iret C hT hH hS hr hlocks (by decide) (by decide) dX4_share_33 h
  · have h := ifc_t hc h
    refine lv_aload_n C.1 C.2.1 dX4_share_15 rfl (lv_at hl 1 rfl) ?_
    refine lv_iconst (v := 1) C.1 C.2.1 dX4_share_16 (by decide) ?_
    refine r_pI C hT hH hS (t := 4) (k := 0) (T := TX4) rfl w4 tyX4_ok nmX4 (by decide) (by decide) rfl rfl k84 (Or.inl rfl) dX4_share_17 h (fun mm H locs hH hS h => ?_)
    refine lv_iconst (v := 0) C.1 C.2.1 dX4_share_20 (by decide) ?_
    exact r_iret C hT hH hS hr hlocks (by decide) (by decide) dX4_share_21 h
