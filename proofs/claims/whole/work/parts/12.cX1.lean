/-! The bytecode computes the functions of 05f: written by wip/tools/gen.py -/
abbrev rm_X1_init : Room := { frames := 1, cells := 2, slots := 12, locals := 12 }
set_option maxHeartbeats 4000000 in
set_option maxRecDepth 100000 in
theorem c_X1_init (l : Launch) (D : va_G) (cA : Nat → ClassId) (base : Nat) (a0 : Nat) (a1 : Nat) (a2 : Int32) (a3 : Int32) (mm : Mem) (z : (Unit) × Mem) (h : f_X1_init a0 a1 a2 a3 mm = some z) : Met l yX1_init wsX1_init rm_X1_init (va_Pc [.ref a0, .ref a1, .int a2, .int a3] (mU D cA base mm)) (mQ eV D cA base z) 2 12 (mA base) := by
  refine Met.ofW (cc := cX1_init) (maxL := 5) (ret := none) (by decide) rfl ?_
  intro p e s m args below meth c s₁ B hml hv
  obtain ⟨rfl, hH, hT⟩ := hv
  have C : CallFix p m c cX1_init 5 s ([.ref a0, .ref a1, .int a2, .int a3]).toArray wsX1_init RX1 := ⟨B.exec, B.bytes, hml, findClass_of_methodNamed B.named, atoms_spec (ws := wsX1_init) B.pre⟩
  have hr := B.returns
  have hlocks := B.notSynchronized
  have hin : meth.name = "<init>" := (name_of_methodNamed B.named B.method).1
  have w1 : ∀ w ∈ u_ws RX1 TX1 6, w ∈ wsX1_init := by decide +kernel
  have w2 : ∀ w ∈ u_ws RX2 TX2 8, w ∈ wsX1_init := by decide +kernel
  have k9 : Cond.fieldLink RX1 9 "SegmentMerges$Merge" "taken" "I" ∈ wsX1_init := by decide +kernel
  have k15 : Cond.fieldLink RX1 15 "SegmentMerges$Merge" "written" "I" ∈ wsX1_init := by decide +kernel
  have k18 : Cond.fieldLink RX1 18 "SegmentMerges$Merge" "left" "I" ∈ wsX1_init := by decide +kernel
  have k21 : Cond.fieldLink RX1 21 "SegmentMerges$Merge" "place" "I" ∈ wsX1_init := by decide +kernel
  have k26 : Cond.fieldLink RX1 26 "SegmentMerges$Merge" "sources" "[LSegmentMerges$Segment;" ∈ wsX1_init := by decide +kernel
  have k30 : Cond.fieldLink RX1 30 "SegmentMerges$Merge" "takenOf" "[I" ∈ wsX1_init := by decide +kernel
  have k34 : Cond.fieldLink RX1 34 "SegmentMerges$Segment" "size" "I" ∈ wsX1_init := by decide +kernel
  have L42 : ∀ (n : Nat) (x0 : Nat) (x1 : Nat) (x2 : Int32) (x3 : Int32) (x4 : Int32) (mm : Mem) (H : Heap) (locs : List Loc) (ls : Array Slot) (zz : (Int32) × Mem), mH D cA base mm H → va_S (mA base) s.heap H locs → lv_has ls 5 [(0, .ref x0), (1, .ref x1), (2, .int x2), (3, .int x3), (4, .int x4)] → f_X1_init_L42 n x0 x1 x2 x3 x4 mm = some zz → (∀ (H : Heap) (locs : List Loc) (ls : Array Slot), mH D cA base zz.2 H → va_S (mA base) s.heap H locs → lv_has ls 5 [(0, .ref x0), (1, .ref x1), (2, .int x2), (3, .int x3), (4, .int zz.1)] → W p l e rm_X1_init s m [.ref a0, .ref a1, .int a2, .int a3].toArray below meth c H locs 2 12 (MQ below (mQ eV D cA base z) [.ref a0, .ref a1, .int a2, .int a3].toArray s 2 12 (mA base)) (F0 m 86 ls [])) → W p l e rm_X1_init s m [.ref a0, .ref a1, .int a2, .int a3].toArray below meth c H locs 2 12 (MQ below (mQ eV D cA base z) [.ref a0, .ref a1, .int a2, .int a3].toArray s 2 12 (mA base)) (F0 m 42 ls []) := by
    intro n
    induction n with
    | zero =>
      intro x0 x1 x2 x3 x4 mm H locs ls zz hH hS hl h kk
      exact (fl_inv h).elim
    | succ n ih =>
      intro x0 x1 x2 x3 x4 mm H locs ls zz hH hS hl h kk
      unfold f_X1_init_L42 at h
      refine lv_iload C.1 C.2.1 dX1_init_42 (lv_at hl 4 rfl) ?_
      refine lv_iload_n C.1 C.2.1 dX1_init_44 rfl (lv_at hl 3 rfl) ?_
      refine lv_icmp_ge (tgt := 86) C.1 C.2.1 dX1_init_45 (by decide) (fun hc => ?_) (fun hc => ?_)
      · have h := ifc_t hc h
        obtain rfl := rt_inv h
        exact kk _ _ _ hH hS (lv_sub hl [0, 1, 2, 3, 4] rfl)
      · have h := ifc_f hc h
        refine lv_aload_n C.1 C.2.1 dX1_init_48 rfl (lv_at hl 0 rfl) ?_
        refine r_gN C hT hH (t := 1) (k := 1) (T := TX1) rfl w1 (by decide) (by decide) rfl k26 dX1_init_49 h (fun b3 h => ?_)
        refine lv_iload C.1 C.2.1 dX1_init_52 (lv_at hl 4 rfl) ?_
        refine lv_aload_n C.1 C.2.1 dX1_init_54 rfl (lv_at hl 1 rfl) ?_
        refine lv_iload_n C.1 C.2.1 dX1_init_55 rfl (lv_at hl 2 rfl) ?_
        refine lv_iload C.1 C.2.1 dX1_init_56 (lv_at hl 4 rfl) ?_
        refine lv_iadd C.1 C.2.1 dX1_init_58 ?_
        refine r_lR C hT hH (t := 7) (by decide) dX1_init_59 h (fun b4 h => ?_)
        refine r_sR C hT hH hS dX1_init_60 h (fun mm H locs hH hS h => ?_)
        refine lv_aload_n C.1 C.2.1 dX1_init_61 rfl (lv_at hl 0 rfl) ?_
        refine lv_dup C.1 C.2.1 dX1_init_62 rfl ?_
        refine r_gI C hT hH (t := 1) (k := 5) (T := TX1) rfl w1 (by decide) (by decide) rfl k18 dX1_init_63 h (fun v5 h => ?_)
        refine lv_aload_n C.1 C.2.1 dX1_init_66 rfl (lv_at hl 0 rfl) ?_
        refine r_gN C hT hH (t := 1) (k := 1) (T := TX1) rfl w1 (by decide) (by decide) rfl k26 dX1_init_67 h (fun b6 h => ?_)
        refine lv_iload C.1 C.2.1 dX1_init_70 (lv_at hl 4 rfl) ?_
        refine r_lR C hT hH (t := 7) (by decide) dX1_init_72 h (fun b7 h => ?_)
        refine r_gI C hT hH (t := 2) (k := 2) (T := TX2) rfl w2 (by decide) (by decide) rfl k34 dX1_init_73 h (fun v8 h => ?_)
        refine lv_iadd C.1 C.2.1 dX1_init_76 ?_
        refine r_pI C hT hH hS (t := 1) (k := 5) (T := TX1) rfl w1 tyX1_ok nmX1 (by decide) (by decide) rfl rfl k18 (Or.inl rfl) dX1_init_77 h (fun mm H locs hH hS h => ?_)
        refine lv_iinc (v := (x4 + 1)) (lv' := [(4, .int (x4 + 1)), (0, .ref x0), (1, .ref x1), (2, .int x2), (3, .int x3)]) C.1 C.2.1 dX1_init_80 hl (k := 4) rfl rfl (by decide) rfl (fun ls hl => ?_)
        refine lv_goto (tgt := 42) C.1 C.2.1 dX1_init_83 (by decide) ?_
        exact ih x0 x1 x2 x3 (x4 + 1) _ _ _ _ _ hH hS (lv_sub hl [1, 2, 3, 4, 0] rfl) h kk
  have hS : va_S (mA base) s.heap s.heap [] := va_S.rf
  have hl := lv_entry ([.ref a0, .ref a1, .int a2, .int a3]) (n := 5) (Nat.le_of_ble_eq_true rfl)
  rw [lg_entry_eq]
  generalize (lg_sl ([.ref a0, .ref a1, .int a2, .int a3]) ++ List.replicate (5 - (lg_sl ([.ref a0, .ref a1, .int a2, .int a3])).length) Slot.unset).toArray = ls at hl ⊢
  have hl : lv_has ls 5 [(0, .ref a0), (1, .ref a1), (2, .int a2), (3, .int a3)] := hl
  unfold f_X1_init at h
  refine lv_aload_n C.1 C.2.1 dX1_init_0 rfl (lv_at hl 0 rfl) ?_
  refine W.objInit C.1 C.2.1 C.2.2.2.1 (C.2.2.2.2 _ (by decide +kernel)) (C.2.2.2.2 _ (by decide +kernel)) (C.2.2.2.2 _ (by decide +kernel)) rfl (by rw [C.2.2.1]; exact hl.1) rfl dX1_init_1 (Nat.le_of_ble_eq_true rfl) (Nat.le_of_ble_eq_true rfl) ?_
  refine lv_aload_n C.1 C.2.1 dX1_init_4 rfl (lv_at hl 0 rfl) ?_
  refine lv_iconst (v := 0) C.1 C.2.1 dX1_init_5 (by decide) ?_
  refine r_pI C hT hH hS (t := 1) (k := 3) (T := TX1) rfl w1 tyX1_ok nmX1 (by decide) (by decide) rfl rfl k9 (Or.inl rfl) dX1_init_6 h (fun mm H locs hH hS h => ?_)
  refine lv_aload_n C.1 C.2.1 dX1_init_9 rfl (lv_at hl 0 rfl) ?_
  refine lv_iconst (v := 0) C.1 C.2.1 dX1_init_10 (by decide) ?_
  refine r_pI C hT hH hS (t := 1) (k := 4) (T := TX1) rfl w1 tyX1_ok nmX1 (by decide) (by decide) rfl rfl k15 (Or.inl rfl) dX1_init_11 h (fun mm H locs hH hS h => ?_)
  refine lv_aload_n C.1 C.2.1 dX1_init_14 rfl (lv_at hl 0 rfl) ?_
  refine lv_iconst (v := 0) C.1 C.2.1 dX1_init_15 (by decide) ?_
  refine r_pI C hT hH hS (t := 1) (k := 5) (T := TX1) rfl w1 tyX1_ok nmX1 (by decide) (by decide) rfl rfl k18 (Or.inl rfl) dX1_init_16 h (fun mm H locs hH hS h => ?_)
  refine lv_aload_n C.1 C.2.1 dX1_init_19 rfl (lv_at hl 0 rfl) ?_
  refine lv_iload_n C.1 C.2.1 dX1_init_20 rfl (lv_at hl 2 rfl) ?_
  refine r_pI C hT hH hS (t := 1) (k := 0) (T := TX1) rfl w1 tyX1_ok nmX1 (by decide) (by decide) rfl rfl k21 (Or.inr ⟨rfl, hin, rfl⟩) dX1_init_21 h (fun mm H locs hH hS h => ?_)
  refine lv_aload_n C.1 C.2.1 dX1_init_24 rfl (lv_at hl 0 rfl) ?_
  refine lv_iload_n C.1 C.2.1 dX1_init_25 rfl (lv_at hl 3 rfl) ?_
  refine r_nS C hT hH hS (B := 6) (by decide +kernel) (by decide) (by decide) (by decide) dX1_init_26 h (fun b1 mm H hH hS h => ?_)
  refine r_pR C hT hH hS (t := 1) (k := 1) (T := TX1) rfl w1 tyX1_ok nmX1 (by decide) (by decide) rfl rfl rfl k26 (Or.inr ⟨rfl, hin, rfl⟩) dX1_init_29 h (fun mm H locs hH hS h => ?_)
  refine lv_aload_n C.1 C.2.1 dX1_init_32 rfl (lv_at hl 0 rfl) ?_
  refine lv_iload_n C.1 C.2.1 dX1_init_33 rfl (lv_at hl 3 rfl) ?_
  refine r_nA C hT hH hS (t := 5) (B := 6) (by decide) rfl (by decide +kernel) (by decide) (by decide) (by decide) dX1_init_34 h (fun b2 mm H hH hS h => ?_)
  refine r_pR C hT hH hS (t := 1) (k := 2) (T := TX1) rfl w1 tyX1_ok nmX1 (by decide) (by decide) rfl rfl rfl k30 (Or.inr ⟨rfl, hin, rfl⟩) dX1_init_36 h (fun mm H locs hH hS h => ?_)
  refine lv_iconst (v := 0) C.1 C.2.1 dX1_init_39 (by decide) ?_
  refine lv_istore (lv' := [(4, .int 0), (0, .ref a0), (1, .ref a1), (2, .int a2), (3, .int a3)]) C.1 C.2.1 dX1_init_40 hl (by decide) rfl (fun ls hl => ?_)
  obtain ⟨x9, mx9, hq, h⟩ := bnd_inv h
  refine L42 2100 a0 a1 a2 a3 0 _ _ _ _ (x9, mx9) hH hS (lv_sub hl [1, 2, 3, 4, 0] rfl) hq (fun H locs ls hH hS hl => ?_)
  exact r_vret C hT hH hS hr hlocks (by decide) (by decide) dX1_init_86 h
abbrev rm_X1_isOf : Room := { frames := 0, cells := 0, slots := 0, locals := 0 }
set_option maxHeartbeats 4000000 in
set_option maxRecDepth 100000 in
theorem c_X1_isOf (l : Launch) (D : va_G) (cA : Nat → ClassId) (base : Nat) (a0 : Nat) (a1 : Int32) (mm : Mem) (z : (Int32) × Mem) (h : f_X1_isOf a0 a1 mm = some z) : Met l yX1_isOf wsX1_isOf rm_X1_isOf (va_Pc [.ref a0, .int a1] (mU D cA base mm)) (mQ eI D cA base z) 0 0 (mA base) := by
  refine Met.ofW (cc := cX1_isOf) (maxL := 2) (ret := (some .boolean)) (by decide) rfl ?_
  intro p e s m args below meth c s₁ B hml hv
  obtain ⟨rfl, hH, hT⟩ := hv
  have C : CallFix p m c cX1_isOf 2 s ([.ref a0, .int a1]).toArray wsX1_isOf RX1 := ⟨B.exec, B.bytes, hml, findClass_of_methodNamed B.named, atoms_spec (ws := wsX1_isOf) B.pre⟩
  have hr := B.returns
  have hlocks := B.notSynchronized
  have w1 : ∀ w ∈ u_ws RX1 TX1 6, w ∈ wsX1_isOf := by decide +kernel
  have k21 : Cond.fieldLink RX1 21 "SegmentMerges$Merge" "place" "I" ∈ wsX1_isOf := by decide +kernel
  have k26 : Cond.fieldLink RX1 26 "SegmentMerges$Merge" "sources" "[LSegmentMerges$Segment;" ∈ wsX1_isOf := by decide +kernel
  have hS : va_S (mA base) s.heap s.heap [] := va_S.rf
  have hl := lv_entry ([.ref a0, .int a1]) (n := 2) (Nat.le_of_ble_eq_true rfl)
  rw [lg_entry_eq]
  generalize (lg_sl ([.ref a0, .int a1]) ++ List.replicate (2 - (lg_sl ([.ref a0, .int a1])).length) Slot.unset).toArray = ls at hl ⊢
  have hl : lv_has ls 2 [(0, .ref a0), (1, .int a1)] := hl
  unfold f_X1_isOf at h
  refine lv_iload_n C.1 C.2.1 dX1_isOf_0 rfl (lv_at hl 1 rfl) ?_
  refine lv_aload_n C.1 C.2.1 dX1_isOf_1 rfl (lv_at hl 0 rfl) ?_
  refine r_gI C hT hH (t := 1) (k := 0) (T := TX1) rfl w1 (by decide) (by decide) rfl k21 dX1_isOf_2 h (fun v1 h => ?_)
  refine lv_icmp_lt (tgt := 26) C.1 C.2.1 dX1_isOf_5 (by decide) (fun hc => ?_) (fun hc => ?_)
  · have h := ifc_t hc h
    refine lv_iconst (v := 0) C.1 C.2.1 dX1_isOf_26 (by decide) ?_
    exact r_zret C hT hH hS hr hlocks (by decide) (by decide) dX1_isOf_27 h
  · have h := ifc_f hc h
    refine lv_iload_n C.1 C.2.1 dX1_isOf_8 rfl (lv_at hl 1 rfl) ?_
    refine lv_aload_n C.1 C.2.1 dX1_isOf_9 rfl (lv_at hl 0 rfl) ?_
    refine r_gI C hT hH (t := 1) (k := 0) (T := TX1) rfl w1 (by decide) (by decide) rfl k21 dX1_isOf_10 h (fun v2 h => ?_)
    refine lv_aload_n C.1 C.2.1 dX1_isOf_13 rfl (lv_at hl 0 rfl) ?_
    refine r_gN C hT hH (t := 1) (k := 1) (T := TX1) rfl w1 (by decide) (by decide) rfl k26 dX1_isOf_14 h (fun b3 h => ?_)
    refine r_ln C hT hH (t := 7) (by decide) (by decide) dX1_isOf_17 h (fun v4 h => ?_)
    refine lv_iadd C.1 C.2.1 dX1_isOf_18 ?_
    refine lv_icmp_ge (tgt := 26) C.1 C.2.1 dX1_isOf_19 (by decide) (fun hc => ?_) (fun hc => ?_)
    · have h := ifc_t hc h
      refine lv_iconst (v := 0) C.1 C.2.1 dX1_isOf_26 (by decide) ?_
      exact r_zret C hT hH hS hr hlocks (by decide) (by decide) dX1_isOf_27 h
    · have h := ifc_f hc h
      refine lv_iconst (v := 1) C.1 C.2.1 dX1_isOf_22 (by decide) ?_
      refine lv_goto (tgt := 27) C.1 C.2.1 dX1_isOf_23 (by decide) ?_
      exact r_zret C hT hH hS hr hlocks (by decide) (by decide) dX1_isOf_27 h
abbrev rm_X1_sourceOf : Room := { frames := 0, cells := 0, slots := 0, locals := 0 }
set_option maxHeartbeats 4000000 in
set_option maxRecDepth 100000 in
theorem c_X1_sourceOf (l : Launch) (D : va_G) (cA : Nat → ClassId) (base : Nat) (a0 : Nat) (a1 : Int32) (mm : Mem) (z : (Option Nat) × Mem) (h : f_X1_sourceOf a0 a1 mm = some z) : Met l yX1_sourceOf wsX1_sourceOf rm_X1_sourceOf (va_Pc [.ref a0, .int a1] (mU D cA base mm)) (mQ eQ D cA base z) 0 0 (mA base) := by
  refine Met.ofW (cc := cX1_sourceOf) (maxL := 3) (ret := (some (.object "SegmentMerges$Segment"))) (by decide) rfl ?_
  intro p e s m args below meth c s₁ B hml hv
  obtain ⟨rfl, hH, hT⟩ := hv
  have C : CallFix p m c cX1_sourceOf 3 s ([.ref a0, .int a1]).toArray wsX1_sourceOf RX1 := ⟨B.exec, B.bytes, hml, findClass_of_methodNamed B.named, atoms_spec (ws := wsX1_sourceOf) B.pre⟩
  have hr := B.returns
  have hlocks := B.notSynchronized
  have w1 : ∀ w ∈ u_ws RX1 TX1 6, w ∈ wsX1_sourceOf := by decide +kernel
  have w2 : ∀ w ∈ u_ws RX2 TX2 8, w ∈ wsX1_sourceOf := by decide +kernel
  have k26 : Cond.fieldLink RX1 26 "SegmentMerges$Merge" "sources" "[LSegmentMerges$Segment;" ∈ wsX1_sourceOf := by decide +kernel
  have k37 : Cond.fieldLink RX1 37 "SegmentMerges$Segment" "number" "I" ∈ wsX1_sourceOf := by decide +kernel
  have L2 : ∀ (n : Nat) (x0 : Nat) (x1 : Int32) (x2 : Int32) (mm : Mem) (H : Heap) (locs : List Loc) (ls : Array Slot), mH D cA base mm H → va_S (mA base) s.heap H locs → lv_has ls 3 [(0, .ref x0), (1, .int x1), (2, .int x2)] → f_X1_sourceOf_L2 n x0 x1 x2 mm = some z → W p l e rm_X1_sourceOf s m [.ref a0, .int a1].toArray below meth c H locs 0 0 (MQ below (mQ eQ D cA base z) [.ref a0, .int a1].toArray s 0 0 (mA base)) (F0 m 2 ls []) := by
    intro n
    induction n with
    | zero =>
      intro x0 x1 x2 mm H locs ls hH hS hl h
      exact (fl_inv h).elim
    | succ n ih =>
      intro x0 x1 x2 mm H locs ls hH hS hl h
      unfold f_X1_sourceOf_L2 at h
      refine lv_iload_n C.1 C.2.1 dX1_sourceOf_2 rfl (lv_at hl 2 rfl) ?_
      refine lv_aload_n C.1 C.2.1 dX1_sourceOf_3 rfl (lv_at hl 0 rfl) ?_
      refine r_gN C hT hH (t := 1) (k := 1) (T := TX1) rfl w1 (by decide) (by decide) rfl k26 dX1_sourceOf_4 h (fun b1 h => ?_)
      refine r_ln C hT hH (t := 7) (by decide) (by decide) dX1_sourceOf_7 h (fun v2 h => ?_)
      refine lv_icmp_ge (tgt := 37) C.1 C.2.1 dX1_sourceOf_8 (by decide) (fun hc => ?_) (fun hc => ?_)
      · have h := ifc_t hc h
        refine lv_null C.1 C.2.1 dX1_sourceOf_37 ?_
        exact r_aretQ (v := none) C hT hH hS hr hlocks (by decide) (by decide) dX1_sourceOf_38 h
      · have h := ifc_f hc h
        refine lv_aload_n C.1 C.2.1 dX1_sourceOf_11 rfl (lv_at hl 0 rfl) ?_
        refine r_gN C hT hH (t := 1) (k := 1) (T := TX1) rfl w1 (by decide) (by decide) rfl k26 dX1_sourceOf_12 h (fun b3 h => ?_)
        refine lv_iload_n C.1 C.2.1 dX1_sourceOf_15 rfl (lv_at hl 2 rfl) ?_
        refine r_lR C hT hH (t := 7) (by decide) dX1_sourceOf_16 h (fun b4 h => ?_)
        refine r_gI C hT hH (t := 2) (k := 0) (T := TX2) rfl w2 (by decide) (by decide) rfl k37 dX1_sourceOf_17 h (fun v5 h => ?_)
        refine lv_iload_n C.1 C.2.1 dX1_sourceOf_20 rfl (lv_at hl 1 rfl) ?_
        refine lv_icmp_ne (tgt := 31) C.1 C.2.1 dX1_sourceOf_21 (by decide) (fun hc => ?_) (fun hc => ?_)
        · have h := ifc_f hc h
          refine lv_iinc (v := (x2 + 1)) (lv' := [(2, .int (x2 + 1)), (0, .ref x0), (1, .int x1)]) C.1 C.2.1 dX1_sourceOf_31 hl (k := 2) rfl rfl (by decide) rfl (fun ls hl => ?_)
          refine lv_goto (tgt := 2) C.1 C.2.1 dX1_sourceOf_34 (by decide) ?_
          exact ih x0 x1 (x2 + 1) _ _ _ _ hH hS (lv_sub hl [1, 2, 0] rfl) h
        · have h := ifc_t hc h
          refine lv_aload_n C.1 C.2.1 dX1_sourceOf_24 rfl (lv_at hl 0 rfl) ?_
          refine r_gN C hT hH (t := 1) (k := 1) (T := TX1) rfl w1 (by decide) (by decide) rfl k26 dX1_sourceOf_25 h (fun b6 h => ?_)
          refine lv_iload_n C.1 C.2.1 dX1_sourceOf_28 rfl (lv_at hl 2 rfl) ?_
          refine r_lR C hT hH (t := 7) (by decide) dX1_sourceOf_29 h (fun b7 h => ?_)
          exact r_aretQ (v := some b7) C hT hH hS hr hlocks (by decide) (by decide) dX1_sourceOf_30 h
  have hS : va_S (mA base) s.heap s.heap [] := va_S.rf
  have hl := lv_entry ([.ref a0, .int a1]) (n := 3) (Nat.le_of_ble_eq_true rfl)
  rw [lg_entry_eq]
  generalize (lg_sl ([.ref a0, .int a1]) ++ List.replicate (3 - (lg_sl ([.ref a0, .int a1])).length) Slot.unset).toArray = ls at hl ⊢
  have hl : lv_has ls 3 [(0, .ref a0), (1, .int a1)] := hl
  unfold f_X1_sourceOf at h
  refine lv_iconst (v := 0) C.1 C.2.1 dX1_sourceOf_0 (by decide) ?_
  refine lv_istore_n (lv' := [(2, .int 0), (0, .ref a0), (1, .int a1)]) C.1 C.2.1 dX1_sourceOf_1 rfl hl (by decide) rfl (fun ls hl => ?_)
  exact L2 2100 a0 a1 0 _ _ _ _ hH hS (lv_sub hl [1, 2, 0] rfl) h
abbrev rm_X1_sourceOfLeastKey : Room := { frames := 0, cells := 0, slots := 0, locals := 0 }
set_option maxHeartbeats 4000000 in
set_option maxRecDepth 100000 in
theorem c_X1_sourceOfLeastKey (l : Launch) (D : va_G) (cA : Nat → ClassId) (base : Nat) (a0 : Nat) (mm : Mem) (z : (Int32) × Mem) (h : f_X1_sourceOfLeastKey a0 mm = some z) : Met l yX1_sourceOfLeastKey wsX1_sourceOfLeastKey rm_X1_sourceOfLeastKey (va_Pc [.ref a0] (mU D cA base mm)) (mQ eI D cA base z) 0 0 (mA base) := by
  refine Met.ofW (cc := cX1_sourceOfLeastKey) (maxL := 4) (ret := (some .int)) (by decide) rfl ?_
  intro p e s m args below meth c s₁ B hml hv
  obtain ⟨rfl, hH, hT⟩ := hv
  have C : CallFix p m c cX1_sourceOfLeastKey 4 s ([.ref a0]).toArray wsX1_sourceOfLeastKey RX1 := ⟨B.exec, B.bytes, hml, findClass_of_methodNamed B.named, atoms_spec (ws := wsX1_sourceOfLeastKey) B.pre⟩
  have hr := B.returns
  have hlocks := B.notSynchronized
  have w1 : ∀ w ∈ u_ws RX1 TX1 6, w ∈ wsX1_sourceOfLeastKey := by decide +kernel
  have w2 : ∀ w ∈ u_ws RX2 TX2 8, w ∈ wsX1_sourceOfLeastKey := by decide +kernel
  have k26 : Cond.fieldLink RX1 26 "SegmentMerges$Merge" "sources" "[LSegmentMerges$Segment;" ∈ wsX1_sourceOfLeastKey := by decide +kernel
  have k30 : Cond.fieldLink RX1 30 "SegmentMerges$Merge" "takenOf" "[I" ∈ wsX1_sourceOfLeastKey := by decide +kernel
  have k34 : Cond.fieldLink RX1 34 "SegmentMerges$Segment" "size" "I" ∈ wsX1_sourceOfLeastKey := by decide +kernel
  have k51 : Cond.fieldLink RX1 51 "SegmentMerges$Segment" "keys" "[I" ∈ wsX1_sourceOfLeastKey := by decide +kernel
  have L7 : ∀ (n : Nat) (x0 : Nat) (x1 : Int32) (x2 : Int32) (x3 : Int32) (mm : Mem) (H : Heap) (locs : List Loc) (ls : Array Slot) (zz : (Int32 × Int32 × Int32) × Mem), mH D cA base mm H → va_S (mA base) s.heap H locs → lv_has ls 4 [(0, .ref x0), (1, .int x1), (2, .int x2), (3, .int x3)] → f_X1_sourceOfLeastKey_L7 n x0 x1 x2 x3 mm = some zz → (∀ (H : Heap) (locs : List Loc) (ls : Array Slot), mH D cA base zz.2 H → va_S (mA base) s.heap H locs → lv_has ls 4 [(0, .ref x0), (1, .int zz.1.1), (2, .int zz.1.2.1), (3, .int zz.1.2.2)] → W p l e rm_X1_sourceOfLeastKey s m [.ref a0].toArray below meth c H locs 0 0 (MQ below (mQ eI D cA base z) [.ref a0].toArray s 0 0 (mA base)) (F0 m 79 ls [])) → W p l e rm_X1_sourceOfLeastKey s m [.ref a0].toArray below meth c H locs 0 0 (MQ below (mQ eI D cA base z) [.ref a0].toArray s 0 0 (mA base)) (F0 m 7 ls []) := by
    intro n
    induction n with
    | zero =>
      intro x0 x1 x2 x3 mm H locs ls zz hH hS hl h kk
      exact (fl_inv h).elim
    | succ n ih =>
      intro x0 x1 x2 x3 mm H locs ls zz hH hS hl h kk
      unfold f_X1_sourceOfLeastKey_L7 at h
      refine lv_iload_n C.1 C.2.1 dX1_sourceOfLeastKey_7 rfl (lv_at hl 3 rfl) ?_
      refine lv_aload_n C.1 C.2.1 dX1_sourceOfLeastKey_8 rfl (lv_at hl 0 rfl) ?_
      refine r_gN C hT hH (t := 1) (k := 1) (T := TX1) rfl w1 (by decide) (by decide) rfl k26 dX1_sourceOfLeastKey_9 h (fun b1 h => ?_)
      refine r_ln C hT hH (t := 7) (by decide) (by decide) dX1_sourceOfLeastKey_12 h (fun v2 h => ?_)
      refine lv_icmp_ge (tgt := 79) C.1 C.2.1 dX1_sourceOfLeastKey_13 (by decide) (fun hc => ?_) (fun hc => ?_)
      · have h := ifc_t hc h
        obtain rfl := rt_inv h
        exact kk _ _ _ hH hS (lv_sub hl [0, 1, 2, 3] rfl)
      · have h := ifc_f hc h
        refine lv_aload_n C.1 C.2.1 dX1_sourceOfLeastKey_16 rfl (lv_at hl 0 rfl) ?_
        refine r_gN C hT hH (t := 1) (k := 2) (T := TX1) rfl w1 (by decide) (by decide) rfl k30 dX1_sourceOfLeastKey_17 h (fun b3 h => ?_)
        refine lv_iload_n C.1 C.2.1 dX1_sourceOfLeastKey_20 rfl (lv_at hl 3 rfl) ?_
        refine r_lI C hT hH dX1_sourceOfLeastKey_21 h (fun v4 h => ?_)
        refine lv_aload_n C.1 C.2.1 dX1_sourceOfLeastKey_22 rfl (lv_at hl 0 rfl) ?_
        refine r_gN C hT hH (t := 1) (k := 1) (T := TX1) rfl w1 (by decide) (by decide) rfl k26 dX1_sourceOfLeastKey_23 h (fun b5 h => ?_)
        refine lv_iload_n C.1 C.2.1 dX1_sourceOfLeastKey_26 rfl (lv_at hl 3 rfl) ?_
        refine r_lR C hT hH (t := 7) (by decide) dX1_sourceOfLeastKey_27 h (fun b6 h => ?_)
        refine r_gI C hT hH (t := 2) (k := 2) (T := TX2) rfl w2 (by decide) (by decide) rfl k34 dX1_sourceOfLeastKey_28 h (fun v7 h => ?_)
        refine lv_icmp_ge (tgt := 73) C.1 C.2.1 dX1_sourceOfLeastKey_31 (by decide) (fun hc => ?_) (fun hc => ?_)
        · have h := ifc_t hc h
          refine lv_iinc (v := (x3 + 1)) (lv' := [(3, .int (x3 + 1)), (0, .ref x0), (1, .int x1), (2, .int x2)]) C.1 C.2.1 dX1_sourceOfLeastKey_73 hl (k := 3) rfl rfl (by decide) rfl (fun ls hl => ?_)
          refine lv_goto (tgt := 7) C.1 C.2.1 dX1_sourceOfLeastKey_76 (by decide) ?_
          exact ih x0 x1 x2 (x3 + 1) _ _ _ _ _ hH hS (lv_sub hl [1, 2, 3, 0] rfl) h kk
        · have h := ifc_f hc h
          refine lv_aload_n C.1 C.2.1 dX1_sourceOfLeastKey_34 rfl (lv_at hl 0 rfl) ?_
          refine r_gN C hT hH (t := 1) (k := 1) (T := TX1) rfl w1 (by decide) (by decide) rfl k26 dX1_sourceOfLeastKey_35 h (fun b8 h => ?_)
          refine lv_iload_n C.1 C.2.1 dX1_sourceOfLeastKey_38 rfl (lv_at hl 3 rfl) ?_
          refine r_lR C hT hH (t := 7) (by decide) dX1_sourceOfLeastKey_39 h (fun b9 h => ?_)
          refine r_gN C hT hH (t := 2) (k := 3) (T := TX2) rfl w2 (by decide) (by decide) rfl k51 dX1_sourceOfLeastKey_40 h (fun b10 h => ?_)
          refine lv_aload_n C.1 C.2.1 dX1_sourceOfLeastKey_43 rfl (lv_at hl 0 rfl) ?_
          refine r_gN C hT hH (t := 1) (k := 2) (T := TX1) rfl w1 (by decide) (by decide) rfl k30 dX1_sourceOfLeastKey_44 h (fun b11 h => ?_)
          refine lv_iload_n C.1 C.2.1 dX1_sourceOfLeastKey_47 rfl (lv_at hl 3 rfl) ?_
          refine r_lI C hT hH dX1_sourceOfLeastKey_48 h (fun v12 h => ?_)
          refine r_lI C hT hH dX1_sourceOfLeastKey_49 h (fun v13 h => ?_)
          refine lv_iload_n C.1 C.2.1 dX1_sourceOfLeastKey_50 rfl (lv_at hl 2 rfl) ?_
          refine lv_icmp_ge (tgt := 73) C.1 C.2.1 dX1_sourceOfLeastKey_51 (by decide) (fun hc => ?_) (fun hc => ?_)
          · have h := ifc_t hc h
            refine lv_iinc (v := (x3 + 1)) (lv' := [(3, .int (x3 + 1)), (0, .ref x0), (1, .int x1), (2, .int x2)]) C.1 C.2.1 dX1_sourceOfLeastKey_73 hl (k := 3) rfl rfl (by decide) rfl (fun ls hl => ?_)
            refine lv_goto (tgt := 7) C.1 C.2.1 dX1_sourceOfLeastKey_76 (by decide) ?_
            exact ih x0 x1 x2 (x3 + 1) _ _ _ _ _ hH hS (lv_sub hl [1, 2, 3, 0] rfl) h kk
          · have h := ifc_f hc h
            refine lv_iload_n C.1 C.2.1 dX1_sourceOfLeastKey_54 rfl (lv_at hl 3 rfl) ?_
            refine lv_istore_n (lv' := [(1, .int x3), (0, .ref x0), (2, .int x2), (3, .int x3)]) C.1 C.2.1 dX1_sourceOfLeastKey_55 rfl hl (by decide) rfl (fun ls hl => ?_)
            refine lv_aload_n C.1 C.2.1 dX1_sourceOfLeastKey_56 rfl (lv_at hl 1 rfl) ?_
            refine r_gN C hT hH (t := 1) (k := 1) (T := TX1) rfl w1 (by decide) (by decide) rfl k26 dX1_sourceOfLeastKey_57 h (fun b14 h => ?_)
            refine lv_iload_n C.1 C.2.1 dX1_sourceOfLeastKey_60 rfl (lv_at hl 3 rfl) ?_
            refine r_lR C hT hH (t := 7) (by decide) dX1_sourceOfLeastKey_61 h (fun b15 h => ?_)
            refine r_gN C hT hH (t := 2) (k := 3) (T := TX2) rfl w2 (by decide) (by decide) rfl k51 dX1_sourceOfLeastKey_62 h (fun b16 h => ?_)
            refine lv_aload_n C.1 C.2.1 dX1_sourceOfLeastKey_65 rfl (lv_at hl 1 rfl) ?_
            refine r_gN C hT hH (t := 1) (k := 2) (T := TX1) rfl w1 (by decide) (by decide) rfl k30 dX1_sourceOfLeastKey_66 h (fun b17 h => ?_)
            refine lv_iload_n C.1 C.2.1 dX1_sourceOfLeastKey_69 rfl (lv_at hl 3 rfl) ?_
            refine r_lI C hT hH dX1_sourceOfLeastKey_70 h (fun v18 h => ?_)
            refine r_lI C hT hH dX1_sourceOfLeastKey_71 h (fun v19 h => ?_)
            refine lv_istore_n (lv' := [(2, .int v19), (1, .int x3), (0, .ref x0), (3, .int x3)]) C.1 C.2.1 dX1_sourceOfLeastKey_72 rfl hl (by decide) rfl (fun ls hl => ?_)
            refine lv_iinc (v := (x3 + 1)) (lv' := [(3, .int (x3 + 1)), (2, .int v19), (1, .int x3), (0, .ref x0)]) C.1 C.2.1 dX1_sourceOfLeastKey_73 hl (k := 3) rfl rfl (by decide) rfl (fun ls hl => ?_)
            refine lv_goto (tgt := 7) C.1 C.2.1 dX1_sourceOfLeastKey_76 (by decide) ?_
            exact ih x0 x3 v19 (x3 + 1) _ _ _ _ _ hH hS (lv_sub hl [3, 2, 1, 0] rfl) h kk
  have hS : va_S (mA base) s.heap s.heap [] := va_S.rf
  have hl := lv_entry ([.ref a0]) (n := 4) (Nat.le_of_ble_eq_true rfl)
  rw [lg_entry_eq]
  generalize (lg_sl ([.ref a0]) ++ List.replicate (4 - (lg_sl ([.ref a0])).length) Slot.unset).toArray = ls at hl ⊢
  have hl : lv_has ls 4 [(0, .ref a0)] := hl
  unfold f_X1_sourceOfLeastKey at h
  refine lv_iconst (v := (-1)) C.1 C.2.1 dX1_sourceOfLeastKey_0 (by decide) ?_
  refine lv_istore_n (lv' := [(1, .int (-1)), (0, .ref a0)]) C.1 C.2.1 dX1_sourceOfLeastKey_1 rfl hl (by decide) rfl (fun ls hl => ?_)
  refine lv_bipush (v := 100) C.1 C.2.1 dX1_sourceOfLeastKey_2 (by decide) ?_
  refine lv_istore_n (lv' := [(2, .int 100), (1, .int (-1)), (0, .ref a0)]) C.1 C.2.1 dX1_sourceOfLeastKey_4 rfl hl (by decide) rfl (fun ls hl => ?_)
  refine lv_iconst (v := 0) C.1 C.2.1 dX1_sourceOfLeastKey_5 (by decide) ?_
  refine lv_istore_n (lv' := [(3, .int 0), (2, .int 100), (1, .int (-1)), (0, .ref a0)]) C.1 C.2.1 dX1_sourceOfLeastKey_6 rfl hl (by decide) rfl (fun ls hl => ?_)
  obtain ⟨x20, mx20, hq, h⟩ := bnd_inv h
  refine L7 2100 a0 (-1) 100 0 _ _ _ _ (x20, mx20) hH hS (lv_sub hl [3, 2, 1, 0] rfl) hq (fun H locs ls hH hS hl => ?_)
  refine lv_iload_n C.1 C.2.1 dX1_sourceOfLeastKey_79 rfl (lv_at hl 1 rfl) ?_
  exact r_iret C hT hH hS hr hlocks (by decide) (by decide) dX1_sourceOfLeastKey_80 h
abbrev rm_X1_takeOne : Room := { frames := 1, cells := 0, slots := 0, locals := 23 }
set_option maxHeartbeats 4000000 in
set_option maxRecDepth 100000 in
theorem c_X1_takeOne (l : Launch) (D : va_G) (cA : Nat → ClassId) (base : Nat) (a0 : Nat) (mm : Mem) (z : (Unit) × Mem) (h : f_X1_takeOne a0 mm = some z) : Met l yX1_takeOne wsX1_takeOne rm_X1_takeOne (va_Pc [.ref a0] (mU D cA base mm)) (mQ eV D cA base z) 0 0 (mA base) := by
  refine Met.ofW (cc := cX1_takeOne) (maxL := 4) (ret := none) (by decide) rfl ?_
  intro p e s m args below meth c s₁ B hml hv
  obtain ⟨rfl, hH, hT⟩ := hv
  have C : CallFix p m c cX1_takeOne 4 s ([.ref a0]).toArray wsX1_takeOne RX1 := ⟨B.exec, B.bytes, hml, findClass_of_methodNamed B.named, atoms_spec (ws := wsX1_takeOne) B.pre⟩
  have hr := B.returns
  have hlocks := B.notSynchronized
  have w1 : ∀ w ∈ u_ws RX1 TX1 6, w ∈ wsX1_takeOne := by decide +kernel
  have w2 : ∀ w ∈ u_ws RX2 TX2 8, w ∈ wsX1_takeOne := by decide +kernel
  have k9 : Cond.fieldLink RX1 9 "SegmentMerges$Merge" "taken" "I" ∈ wsX1_takeOne := by decide +kernel
  have k15 : Cond.fieldLink RX1 15 "SegmentMerges$Merge" "written" "I" ∈ wsX1_takeOne := by decide +kernel
  have k18 : Cond.fieldLink RX1 18 "SegmentMerges$Merge" "left" "I" ∈ wsX1_takeOne := by decide +kernel
  have k26 : Cond.fieldLink RX1 26 "SegmentMerges$Merge" "sources" "[LSegmentMerges$Segment;" ∈ wsX1_takeOne := by decide +kernel
  have k30 : Cond.fieldLink RX1 30 "SegmentMerges$Merge" "takenOf" "[I" ∈ wsX1_takeOne := by decide +kernel
  have k44 : Cond.fieldLink RX1 44 "SegmentMerges$Segment" "lives" "[Z" ∈ wsX1_takeOne := by decide +kernel
  have k48 : Cond.fieldLink RX1 48 "SegmentMerges$Segment" "wentTo" "[I" ∈ wsX1_takeOne := by decide +kernel
  have hS : va_S (mA base) s.heap s.heap [] := va_S.rf
  have hl := lv_entry ([.ref a0]) (n := 4) (Nat.le_of_ble_eq_true rfl)
  rw [lg_entry_eq]
  generalize (lg_sl ([.ref a0]) ++ List.replicate (4 - (lg_sl ([.ref a0])).length) Slot.unset).toArray = ls at hl ⊢
  have hl : lv_has ls 4 [(0, .ref a0)] := hl
  unfold f_X1_takeOne at h
  refine lv_aload_n C.1 C.2.1 dX1_takeOne_0 rfl (lv_at hl 0 rfl) ?_
  refine r_callVI C hT hH hS (t := 1) (As := []) (fun z1 hz => c_X1_sourceOfLeastKey l D cA base a0 _ z1 hz) (cwV 0 C.2.2.2.2 gX1_takeOne_X1_sourceOfLeastKey rfl rfl rfl (by decide +kernel) ⟨Nat.le_of_ble_eq_true rfl, Nat.le_of_ble_eq_true rfl⟩) rfl (by decide) rfl hl.1 rfl (Nat.le_of_ble_eq_true rfl) dX1_takeOne_1 ⟨by decide, by decide⟩ h (fun v1 mm H locs hH hS h => ?_)
  refine lv_istore_n (lv' := [(1, .int v1), (0, .ref a0)]) C.1 C.2.1 dX1_takeOne_4 rfl hl (by decide) rfl (fun ls hl => ?_)
  refine lv_iload_n C.1 C.2.1 dX1_takeOne_5 rfl (lv_at hl 0 rfl) ?_
  refine lv_iconst (v := (-1)) C.1 C.2.1 dX1_takeOne_6 (by decide) ?_
  refine lv_icmp_ne (tgt := 11) C.1 C.2.1 dX1_takeOne_7 (by decide) (fun hc => ?_) (fun hc => ?_)
  · have h := ifc_f hc h
    refine lv_aload_n C.1 C.2.1 dX1_takeOne_11 rfl (lv_at hl 1 rfl) ?_
    refine r_gN C hT hH (t := 1) (k := 1) (T := TX1) rfl w1 (by decide) (by decide) rfl k26 dX1_takeOne_12 h (fun b2 h => ?_)
    refine lv_iload_n C.1 C.2.1 dX1_takeOne_15 rfl (lv_at hl 0 rfl) ?_
    refine r_lR C hT hH (t := 7) (by decide) dX1_takeOne_16 h (fun b3 h => ?_)
    refine lv_astore_n (lv' := [(2, .ref b3), (1, .int v1), (0, .ref a0)]) C.1 C.2.1 dX1_takeOne_17 rfl hl (by decide) rfl (fun ls hl => ?_)
    refine lv_aload_n C.1 C.2.1 dX1_takeOne_18 rfl (lv_at hl 2 rfl) ?_
    refine r_gN C hT hH (t := 1) (k := 2) (T := TX1) rfl w1 (by decide) (by decide) rfl k30 dX1_takeOne_19 h (fun b4 h => ?_)
    refine lv_iload_n C.1 C.2.1 dX1_takeOne_22 rfl (lv_at hl 1 rfl) ?_
    refine r_lI C hT hH dX1_takeOne_23 h (fun v5 h => ?_)
    refine lv_istore_n (lv' := [(3, .int v5), (2, .ref b3), (1, .int v1), (0, .ref a0)]) C.1 C.2.1 dX1_takeOne_24 rfl hl (by decide) rfl (fun ls hl => ?_)
    refine lv_aload_n C.1 C.2.1 dX1_takeOne_25 rfl (lv_at hl 1 rfl) ?_
    refine r_gN C hT hH (t := 2) (k := 5) (T := TX2) rfl w2 (by decide) (by decide) rfl k44 dX1_takeOne_26 h (fun b6 h => ?_)
    refine lv_iload_n C.1 C.2.1 dX1_takeOne_29 rfl (lv_at hl 0 rfl) ?_
    refine r_lZ C hT hH dX1_takeOne_30 h (fun v7 h => ?_)
    refine lv_if_eq (tgt := 57) C.1 C.2.1 dX1_takeOne_31 (by decide) (fun hc => ?_) (fun hc => ?_)
    · have h := ifc_t hc h
      refine lv_aload_n C.1 C.2.1 dX1_takeOne_57 rfl (lv_at hl 1 rfl) ?_
      refine r_gN C hT hH (t := 2) (k := 6) (T := TX2) rfl w2 (by decide) (by decide) rfl k48 dX1_takeOne_58 h (fun b8 h => ?_)
      refine lv_iload_n C.1 C.2.1 dX1_takeOne_61 rfl (lv_at hl 0 rfl) ?_
      refine lv_iconst (v := (-1)) C.1 C.2.1 dX1_takeOne_62 (by decide) ?_
      refine r_sI C hT hH hS dX1_takeOne_63 h (fun mm H locs hH hS h => ?_)
      refine lv_aload_n C.1 C.2.1 dX1_takeOne_64 rfl (lv_at hl 3 rfl) ?_
      refine r_gN C hT hH (t := 1) (k := 2) (T := TX1) rfl w1 (by decide) (by decide) rfl k30 dX1_takeOne_65 h (fun b9 h => ?_)
      refine lv_iload_n C.1 C.2.1 dX1_takeOne_68 rfl (lv_at hl 2 rfl) ?_
      refine lv_dup2_11 C.1 C.2.1 dX1_takeOne_69 rfl rfl ?_
      refine r_lI C hT hH dX1_takeOne_70 h (fun v10 h => ?_)
      refine lv_iconst (v := 1) C.1 C.2.1 dX1_takeOne_71 (by decide) ?_
      refine lv_iadd C.1 C.2.1 dX1_takeOne_72 ?_
      refine r_sI C hT hH hS dX1_takeOne_73 h (fun mm H locs hH hS h => ?_)
      refine lv_aload_n C.1 C.2.1 dX1_takeOne_74 rfl (lv_at hl 3 rfl) ?_
      refine lv_dup C.1 C.2.1 dX1_takeOne_75 rfl ?_
      refine r_gI C hT hH (t := 1) (k := 3) (T := TX1) rfl w1 (by decide) (by decide) rfl k9 dX1_takeOne_76 h (fun v11 h => ?_)
      refine lv_iconst (v := 1) C.1 C.2.1 dX1_takeOne_79 (by decide) ?_
      refine lv_iadd C.1 C.2.1 dX1_takeOne_80 ?_
      refine r_pI C hT hH hS (t := 1) (k := 3) (T := TX1) rfl w1 tyX1_ok nmX1 (by decide) (by decide) rfl rfl k9 (Or.inl rfl) dX1_takeOne_81 h (fun mm H locs hH hS h => ?_)
      refine lv_aload_n C.1 C.2.1 dX1_takeOne_84 rfl (lv_at hl 3 rfl) ?_
      refine lv_dup C.1 C.2.1 dX1_takeOne_85 rfl ?_
      refine r_gI C hT hH (t := 1) (k := 5) (T := TX1) rfl w1 (by decide) (by decide) rfl k18 dX1_takeOne_86 h (fun v12 h => ?_)
      refine lv_iconst (v := 1) C.1 C.2.1 dX1_takeOne_89 (by decide) ?_
      refine lv_isub C.1 C.2.1 dX1_takeOne_90 ?_
      refine r_pI C hT hH hS (t := 1) (k := 5) (T := TX1) rfl w1 tyX1_ok nmX1 (by decide) (by decide) rfl rfl k18 (Or.inl rfl) dX1_takeOne_91 h (fun mm H locs hH hS h => ?_)
      exact r_vret C hT hH hS hr hlocks (by decide) (by decide) dX1_takeOne_94 h
    · have h := ifc_f hc h
      refine lv_aload_n C.1 C.2.1 dX1_takeOne_34 rfl (lv_at hl 1 rfl) ?_
      refine r_gN C hT hH (t := 2) (k := 6) (T := TX2) rfl w2 (by decide) (by decide) rfl k48 dX1_takeOne_35 h (fun b13 h => ?_)
      refine lv_iload_n C.1 C.2.1 dX1_takeOne_38 rfl (lv_at hl 0 rfl) ?_
      refine lv_aload_n C.1 C.2.1 dX1_takeOne_39 rfl (lv_at hl 3 rfl) ?_
      refine r_gI C hT hH (t := 1) (k := 4) (T := TX1) rfl w1 (by decide) (by decide) rfl k15 dX1_takeOne_40 h (fun v14 h => ?_)
      refine r_sI C hT hH hS dX1_takeOne_43 h (fun mm H locs hH hS h => ?_)
      refine lv_aload_n C.1 C.2.1 dX1_takeOne_44 rfl (lv_at hl 3 rfl) ?_
      refine lv_dup C.1 C.2.1 dX1_takeOne_45 rfl ?_
      refine r_gI C hT hH (t := 1) (k := 4) (T := TX1) rfl w1 (by decide) (by decide) rfl k15 dX1_takeOne_46 h (fun v15 h => ?_)
      refine lv_iconst (v := 1) C.1 C.2.1 dX1_takeOne_49 (by decide) ?_
      refine lv_iadd C.1 C.2.1 dX1_takeOne_50 ?_
      refine r_pI C hT hH hS (t := 1) (k := 4) (T := TX1) rfl w1 tyX1_ok nmX1 (by decide) (by decide) rfl rfl k15 (Or.inl rfl) dX1_takeOne_51 h (fun mm H locs hH hS h => ?_)
      refine lv_goto (tgt := 64) C.1 C.2.1 dX1_takeOne_54 (by decide) ?_
      refine lv_aload_n C.1 C.2.1 dX1_takeOne_64 rfl (lv_at hl 3 rfl) ?_
      refine r_gN C hT hH (t := 1) (k := 2) (T := TX1) rfl w1 (by decide) (by decide) rfl k30 dX1_takeOne_65 h (fun b16 h => ?_)
      refine lv_iload_n C.1 C.2.1 dX1_takeOne_68 rfl (lv_at hl 2 rfl) ?_
      refine lv_dup2_11 C.1 C.2.1 dX1_takeOne_69 rfl rfl ?_
      refine r_lI C hT hH dX1_takeOne_70 h (fun v17 h => ?_)
      refine lv_iconst (v := 1) C.1 C.2.1 dX1_takeOne_71 (by decide) ?_
      refine lv_iadd C.1 C.2.1 dX1_takeOne_72 ?_
      refine r_sI C hT hH hS dX1_takeOne_73 h (fun mm H locs hH hS h => ?_)
      refine lv_aload_n C.1 C.2.1 dX1_takeOne_74 rfl (lv_at hl 3 rfl) ?_
      refine lv_dup C.1 C.2.1 dX1_takeOne_75 rfl ?_
      refine r_gI C hT hH (t := 1) (k := 3) (T := TX1) rfl w1 (by decide) (by decide) rfl k9 dX1_takeOne_76 h (fun v18 h => ?_)
      refine lv_iconst (v := 1) C.1 C.2.1 dX1_takeOne_79 (by decide) ?_
      refine lv_iadd C.1 C.2.1 dX1_takeOne_80 ?_
      refine r_pI C hT hH hS (t := 1) (k := 3) (T := TX1) rfl w1 tyX1_ok nmX1 (by decide) (by decide) rfl rfl k9 (Or.inl rfl) dX1_takeOne_81 h (fun mm H locs hH hS h => ?_)
      refine lv_aload_n C.1 C.2.1 dX1_takeOne_84 rfl (lv_at hl 3 rfl) ?_
      refine lv_dup C.1 C.2.1 dX1_takeOne_85 rfl ?_
      refine r_gI C hT hH (t := 1) (k := 5) (T := TX1) rfl w1 (by decide) (by decide) rfl k18 dX1_takeOne_86 h (fun v19 h => ?_)
      refine lv_iconst (v := 1) C.1 C.2.1 dX1_takeOne_89 (by decide) ?_
      refine lv_isub C.1 C.2.1 dX1_takeOne_90 ?_
      refine r_pI C hT hH hS (t := 1) (k := 5) (T := TX1) rfl w1 tyX1_ok nmX1 (by decide) (by decide) rfl rfl k18 (Or.inl rfl) dX1_takeOne_91 h (fun mm H locs hH hS h => ?_)
      exact r_vret C hT hH hS hr hlocks (by decide) (by decide) dX1_takeOne_94 h
  · have h := ifc_t hc h
    exact r_vret C hT hH hS hr hlocks (by decide) (by decide) dX1_takeOne_10 h
abbrev rm_X1_greatestTier : Room := { frames := 1, cells := 0, slots := 0, locals := 13 }
set_option maxHeartbeats 4000000 in
set_option maxRecDepth 100000 in
theorem c_X1_greatestTier (l : Launch) (D : va_G) (cA : Nat → ClassId) (base : Nat) (a0 : Nat) (mm : Mem) (z : (Int32) × Mem) (h : f_X1_greatestTier a0 mm = some z) : Met l yX1_greatestTier wsX1_greatestTier rm_X1_greatestTier (va_Pc [.ref a0] (mU D cA base mm)) (mQ eI D cA base z) 0 0 (mA base) := by
  refine Met.ofW (cc := cX1_greatestTier) (maxL := 3) (ret := (some .int)) (by decide) rfl ?_
  intro p e s m args below meth c s₁ B hml hv
  obtain ⟨rfl, hH, hT⟩ := hv
  have C : CallFix p m c cX1_greatestTier 3 s ([.ref a0]).toArray wsX1_greatestTier RX1 := ⟨B.exec, B.bytes, hml, findClass_of_methodNamed B.named, atoms_spec (ws := wsX1_greatestTier) B.pre⟩
  have hr := B.returns
  have hlocks := B.notSynchronized
  have w1 : ∀ w ∈ u_ws RX1 TX1 6, w ∈ wsX1_greatestTier := by decide +kernel
  have w2 : ∀ w ∈ u_ws RX2 TX2 8, w ∈ wsX1_greatestTier := by decide +kernel
  have k26 : Cond.fieldLink RX1 26 "SegmentMerges$Merge" "sources" "[LSegmentMerges$Segment;" ∈ wsX1_greatestTier := by decide +kernel
  have k67 : Cond.fieldLink RX1 67 "SegmentMerges$Segment" "tier" "I" ∈ wsX1_greatestTier := by decide +kernel
  have L4 : ∀ (n : Nat) (x0 : Nat) (x1 : Int32) (x2 : Int32) (mm : Mem) (H : Heap) (locs : List Loc) (ls : Array Slot) (zz : (Int32 × Int32) × Mem), mH D cA base mm H → va_S (mA base) s.heap H locs → lv_has ls 3 [(0, .ref x0), (1, .int x1), (2, .int x2)] → f_X1_greatestTier_L4 n x0 x1 x2 mm = some zz → (∀ (H : Heap) (locs : List Loc) (ls : Array Slot), mH D cA base zz.2 H → va_S (mA base) s.heap H locs → lv_has ls 3 [(0, .ref x0), (1, .int zz.1.1), (2, .int zz.1.2)] → W p l e rm_X1_greatestTier s m [.ref a0].toArray below meth c H locs 0 0 (MQ below (mQ eI D cA base z) [.ref a0].toArray s 0 0 (mA base)) (F0 m 33 ls [])) → W p l e rm_X1_greatestTier s m [.ref a0].toArray below meth c H locs 0 0 (MQ below (mQ eI D cA base z) [.ref a0].toArray s 0 0 (mA base)) (F0 m 4 ls []) := by
    intro n
    induction n with
    | zero =>
      intro x0 x1 x2 mm H locs ls zz hH hS hl h kk
      exact (fl_inv h).elim
    | succ n ih =>
      intro x0 x1 x2 mm H locs ls zz hH hS hl h kk
      unfold f_X1_greatestTier_L4 at h
      refine lv_iload_n C.1 C.2.1 dX1_greatestTier_4 rfl (lv_at hl 2 rfl) ?_
      refine lv_aload_n C.1 C.2.1 dX1_greatestTier_5 rfl (lv_at hl 0 rfl) ?_
      refine r_gN C hT hH (t := 1) (k := 1) (T := TX1) rfl w1 (by decide) (by decide) rfl k26 dX1_greatestTier_6 h (fun b1 h => ?_)
      refine r_ln C hT hH (t := 7) (by decide) (by decide) dX1_greatestTier_9 h (fun v2 h => ?_)
      refine lv_icmp_ge (tgt := 33) C.1 C.2.1 dX1_greatestTier_10 (by decide) (fun hc => ?_) (fun hc => ?_)
      · have h := ifc_t hc h
        obtain rfl := rt_inv h
        exact kk _ _ _ hH hS (lv_sub hl [0, 1, 2] rfl)
      · have h := ifc_f hc h
        refine lv_iload_n C.1 C.2.1 dX1_greatestTier_13 rfl (lv_at hl 1 rfl) ?_
        refine lv_aload_n C.1 C.2.1 dX1_greatestTier_14 rfl (lv_at hl 0 rfl) ?_
        refine r_gN C hT hH (t := 1) (k := 1) (T := TX1) rfl w1 (by decide) (by decide) rfl k26 dX1_greatestTier_15 h (fun b3 h => ?_)
        refine lv_iload_n C.1 C.2.1 dX1_greatestTier_18 rfl (lv_at hl 2 rfl) ?_
        refine r_lR C hT hH (t := 7) (by decide) dX1_greatestTier_19 h (fun b4 h => ?_)
        refine r_gI C hT hH (t := 2) (k := 1) (T := TX2) rfl w2 (by decide) (by decide) rfl k67 dX1_greatestTier_20 h (fun v5 h => ?_)
        refine va_mmax C.1 C.2.1 (by rw [C.2.2.1]; exact hl.1.symm) C.2.2.2.1 (C.2.2.2.2 _ (by decide +kernel)) (C.2.2.2.2 _ (by decide +kernel)) (C.2.2.2.2 _ (by decide +kernel)) (C.2.2.2.2 _ (by decide +kernel)) (by decide) (by decide) (by decide) (by decide) dX1_greatestTier_23 ?_
        refine lv_istore_n (lv' := [(1, .int (if x1 < v5 then v5 else x1)), (0, .ref x0), (2, .int x2)]) C.1 C.2.1 dX1_greatestTier_26 rfl hl (by decide) rfl (fun ls hl => ?_)
        refine lv_iinc (v := (x2 + 1)) (lv' := [(2, .int (x2 + 1)), (1, .int (if x1 < v5 then v5 else x1)), (0, .ref x0)]) C.1 C.2.1 dX1_greatestTier_27 hl (k := 2) rfl rfl (by decide) rfl (fun ls hl => ?_)
        refine lv_goto (tgt := 4) C.1 C.2.1 dX1_greatestTier_30 (by decide) ?_
        exact ih x0 (if x1 < v5 then v5 else x1) (x2 + 1) _ _ _ _ _ hH hS (lv_sub hl [2, 1, 0] rfl) h kk
  have hS : va_S (mA base) s.heap s.heap [] := va_S.rf
  have hl := lv_entry ([.ref a0]) (n := 3) (Nat.le_of_ble_eq_true rfl)
  rw [lg_entry_eq]
  generalize (lg_sl ([.ref a0]) ++ List.replicate (3 - (lg_sl ([.ref a0])).length) Slot.unset).toArray = ls at hl ⊢
  have hl : lv_has ls 3 [(0, .ref a0)] := hl
  unfold f_X1_greatestTier at h
  refine lv_iconst (v := 0) C.1 C.2.1 dX1_greatestTier_0 (by decide) ?_
  refine lv_istore_n (lv' := [(1, .int 0), (0, .ref a0)]) C.1 C.2.1 dX1_greatestTier_1 rfl hl (by decide) rfl (fun ls hl => ?_)
  refine lv_iconst (v := 0) C.1 C.2.1 dX1_greatestTier_2 (by decide) ?_
  refine lv_istore_n (lv' := [(2, .int 0), (1, .int 0), (0, .ref a0)]) C.1 C.2.1 dX1_greatestTier_3 rfl hl (by decide) rfl (fun ls hl => ?_)
  obtain ⟨x6, mx6, hq, h⟩ := bnd_inv h
  refine L4 2100 a0 0 0 _ _ _ _ (x6, mx6) hH hS (lv_sub hl [2, 1, 0] rfl) hq (fun H locs ls hH hS hl => ?_)
  refine lv_iload_n C.1 C.2.1 dX1_greatestTier_33 rfl (lv_at hl 1 rfl) ?_
  exact r_iret C hT hH hS hr hlocks (by decide) (by decide) dX1_greatestTier_34 h
abbrev rm_X1_asSegment : Room := { frames := 2, cells := 5, slots := 408, locals := 35 }
set_option maxHeartbeats 4000000 in
set_option maxRecDepth 100000 in
theorem c_X1_asSegment (l : Launch) (D : va_G) (cA : Nat → ClassId) (base : Nat) (a0 : Nat) (a1 : Int32) (mm : Mem) (z : (Nat) × Mem) (h : f_X1_asSegment a0 a1 mm = some z) : Met l yX1_asSegment wsX1_asSegment rm_X1_asSegment (va_Pc [.ref a0, .int a1] (mU D cA base mm)) (mQ eN D cA base z) 5 408 (mA base) := by
  refine Met.ofW (cc := cX1_asSegment) (maxL := 6) (ret := (some (.object "SegmentMerges$Segment"))) (by decide) rfl ?_
  intro p e s m args below meth c s₁ B hml hv
  obtain ⟨rfl, hH, hT⟩ := hv
  have C : CallFix p m c cX1_asSegment 6 s ([.ref a0, .int a1]).toArray wsX1_asSegment RX1 := ⟨B.exec, B.bytes, hml, findClass_of_methodNamed B.named, atoms_spec (ws := wsX1_asSegment) B.pre⟩
  have hr := B.returns
  have hlocks := B.notSynchronized
  have w1 : ∀ w ∈ u_ws RX1 TX1 6, w ∈ wsX1_asSegment := by decide +kernel
  have w2 : ∀ w ∈ u_ws RX2 TX2 8, w ∈ wsX1_asSegment := by decide +kernel
  have k15 : Cond.fieldLink RX1 15 "SegmentMerges$Merge" "written" "I" ∈ wsX1_asSegment := by decide +kernel
  have k26 : Cond.fieldLink RX1 26 "SegmentMerges$Merge" "sources" "[LSegmentMerges$Segment;" ∈ wsX1_asSegment := by decide +kernel
  have k34 : Cond.fieldLink RX1 34 "SegmentMerges$Segment" "size" "I" ∈ wsX1_asSegment := by decide +kernel
  have k44 : Cond.fieldLink RX1 44 "SegmentMerges$Segment" "lives" "[Z" ∈ wsX1_asSegment := by decide +kernel
  have k48 : Cond.fieldLink RX1 48 "SegmentMerges$Segment" "wentTo" "[I" ∈ wsX1_asSegment := by decide +kernel
  have k51 : Cond.fieldLink RX1 51 "SegmentMerges$Segment" "keys" "[I" ∈ wsX1_asSegment := by decide +kernel
  have k60 : Cond.fieldLink RX1 60 "SegmentMerges$Segment" "values" "[I" ∈ wsX1_asSegment := by decide +kernel
  have L41 : ∀ (n : Nat) (x0 : Nat) (x1 : Int32) (x2 : Nat) (x3 : Int32) (x4 : Nat) (x5 : Int32) (mm : Mem) (H : Heap) (locs : List Loc) (ls : Array Slot) (zz : (Int32) × Mem), mH D cA base mm H → va_S (mA base) s.heap H locs → lv_has ls 6 [(0, .ref x0), (1, .int x1), (2, .ref x2), (3, .int x3), (4, .ref x4), (5, .int x5)] → f_X1_asSegment_L41 n x0 x1 x2 x3 x4 x5 mm = some zz → (∀ (H : Heap) (locs : List Loc) (ls : Array Slot), mH D cA base zz.2 H → va_S (mA base) s.heap H locs → lv_has ls 6 [(0, .ref x0), (1, .int x1), (2, .ref x2), (3, .int x3), (4, .ref x4), (5, .int zz.1)] → W p l e rm_X1_asSegment s m [.ref a0, .int a1].toArray below meth c H locs 5 408 (MQ below (mQ eN D cA base z) [.ref a0, .int a1].toArray s 5 408 (mA base)) (F0 m 105 ls [])) → W p l e rm_X1_asSegment s m [.ref a0, .int a1].toArray below meth c H locs 5 408 (MQ below (mQ eN D cA base z) [.ref a0, .int a1].toArray s 5 408 (mA base)) (F0 m 41 ls []) := by
    intro n
    induction n with
    | zero =>
      intro x0 x1 x2 x3 x4 x5 mm H locs ls zz hH hS hl h kk
      exact (fl_inv h).elim
    | succ n ih =>
      intro x0 x1 x2 x3 x4 x5 mm H locs ls zz hH hS hl h kk
      unfold f_X1_asSegment_L41 at h
      refine lv_iload C.1 C.2.1 dX1_asSegment_41 (lv_at hl 5 rfl) ?_
      refine lv_aload C.1 C.2.1 dX1_asSegment_43 (lv_at hl 4 rfl) ?_
      refine r_gI C hT hH (t := 2) (k := 2) (T := TX2) rfl w2 (by decide) (by decide) rfl k34 dX1_asSegment_45 h (fun v8 h => ?_)
      refine lv_icmp_ge (tgt := 105) C.1 C.2.1 dX1_asSegment_48 (by decide) (fun hc => ?_) (fun hc => ?_)
      · have h := ifc_t hc h
        obtain rfl := rt_inv h
        exact kk _ _ _ hH hS (lv_sub hl [0, 1, 2, 3, 4, 5] rfl)
      · have h := ifc_f hc h
        refine lv_aload C.1 C.2.1 dX1_asSegment_51 (lv_at hl 4 rfl) ?_
        refine r_gN C hT hH (t := 2) (k := 6) (T := TX2) rfl w2 (by decide) (by decide) rfl k48 dX1_asSegment_53 h (fun b9 h => ?_)
        refine lv_iload C.1 C.2.1 dX1_asSegment_56 (lv_at hl 5 rfl) ?_
        refine r_lI C hT hH dX1_asSegment_58 h (fun v10 h => ?_)
        refine lv_iconst (v := (-1)) C.1 C.2.1 dX1_asSegment_59 (by decide) ?_
        refine lv_icmp_eq (tgt := 99) C.1 C.2.1 dX1_asSegment_60 (by decide) (fun hc => ?_) (fun hc => ?_)
        · have h := ifc_t hc h
          refine lv_iinc (v := (x5 + 1)) (lv' := [(5, .int (x5 + 1)), (0, .ref x0), (1, .int x1), (2, .ref x2), (3, .int x3), (4, .ref x4)]) C.1 C.2.1 dX1_asSegment_99 hl (k := 5) rfl rfl (by decide) rfl (fun ls hl => ?_)
          refine lv_goto (tgt := 41) C.1 C.2.1 dX1_asSegment_102 (by decide) ?_
          exact ih x0 x1 x2 x3 x4 (x5 + 1) _ _ _ _ _ hH hS (lv_sub hl [1, 2, 3, 4, 5, 0] rfl) h kk
        · have h := ifc_f hc h
          refine lv_aload_n C.1 C.2.1 dX1_asSegment_63 rfl (lv_at hl 2 rfl) ?_
          refine lv_aload C.1 C.2.1 dX1_asSegment_64 (lv_at hl 4 rfl) ?_
          refine r_gN C hT hH (t := 2) (k := 6) (T := TX2) rfl w2 (by decide) (by decide) rfl k48 dX1_asSegment_66 h (fun b11 h => ?_)
          refine lv_iload C.1 C.2.1 dX1_asSegment_69 (lv_at hl 5 rfl) ?_
          refine r_lI C hT hH dX1_asSegment_71 h (fun v12 h => ?_)
          refine lv_aload C.1 C.2.1 dX1_asSegment_72 (lv_at hl 4 rfl) ?_
          refine r_gN C hT hH (t := 2) (k := 3) (T := TX2) rfl w2 (by decide) (by decide) rfl k51 dX1_asSegment_74 h (fun b13 h => ?_)
          refine lv_iload C.1 C.2.1 dX1_asSegment_77 (lv_at hl 5 rfl) ?_
          refine r_lI C hT hH dX1_asSegment_79 h (fun v14 h => ?_)
          refine lv_aload C.1 C.2.1 dX1_asSegment_80 (lv_at hl 4 rfl) ?_
          refine r_gN C hT hH (t := 2) (k := 4) (T := TX2) rfl w2 (by decide) (by decide) rfl k60 dX1_asSegment_82 h (fun b15 h => ?_)
          refine lv_iload C.1 C.2.1 dX1_asSegment_85 (lv_at hl 5 rfl) ?_
          refine r_lI C hT hH dX1_asSegment_87 h (fun v16 h => ?_)
          refine lv_aload C.1 C.2.1 dX1_asSegment_88 (lv_at hl 4 rfl) ?_
          refine r_gN C hT hH (t := 2) (k := 5) (T := TX2) rfl w2 (by decide) (by decide) rfl k44 dX1_asSegment_90 h (fun b17 h => ?_)
          refine lv_iload C.1 C.2.1 dX1_asSegment_93 (lv_at hl 5 rfl) ?_
          refine r_lZ C hT hH dX1_asSegment_95 h (fun v18 h => ?_)
          refine r_callVV C hT hH hS (t := 2) (As := [.int v12, .int v14, .int v16, .int v18]) (fun z1 hz => c_X2_write l D cA base x2 v12 v14 v16 v18 _ z1 hz) (cwV 4 C.2.2.2.2 gX1_asSegment_X2_write rfl rfl rfl (by decide +kernel) ⟨Nat.le_of_ble_eq_true rfl, Nat.le_of_ble_eq_true rfl⟩) rfl (by decide) rfl hl.1 rfl (Nat.le_of_ble_eq_true rfl) dX1_asSegment_96 ⟨by decide, by decide⟩ h (fun _ mm H locs hH hS h => ?_)
          refine lv_iinc (v := (x5 + 1)) (lv' := [(5, .int (x5 + 1)), (0, .ref x0), (1, .int x1), (2, .ref x2), (3, .int x3), (4, .ref x4)]) C.1 C.2.1 dX1_asSegment_99 hl (k := 5) rfl rfl (by decide) rfl (fun ls hl => ?_)
          refine lv_goto (tgt := 41) C.1 C.2.1 dX1_asSegment_102 (by decide) ?_
          exact ih x0 x1 x2 x3 x4 (x5 + 1) _ _ _ _ _ hH hS (lv_sub hl [1, 2, 3, 4, 5, 0] rfl) h kk
  have L21 : ∀ (n : Nat) (x0 : Nat) (x1 : Int32) (x2 : Nat) (x3 : Int32) (mm : Mem) (H : Heap) (locs : List Loc) (ls : Array Slot) (zz : (Int32) × Mem), mH D cA base mm H → va_S (mA base) s.heap H locs → lv_has ls 6 [(0, .ref x0), (1, .int x1), (2, .ref x2), (3, .int x3)] → f_X1_asSegment_L21 n x0 x1 x2 x3 mm = some zz → (∀ (H : Heap) (locs : List Loc) (ls : Array Slot), mH D cA base zz.2 H → va_S (mA base) s.heap H locs → lv_has ls 6 [(0, .ref x0), (1, .int x1), (2, .ref x2), (3, .int zz.1)] → W p l e rm_X1_asSegment s m [.ref a0, .int a1].toArray below meth c H locs 5 408 (MQ below (mQ eN D cA base z) [.ref a0, .int a1].toArray s 5 408 (mA base)) (F0 m 111 ls [])) → W p l e rm_X1_asSegment s m [.ref a0, .int a1].toArray below meth c H locs 5 408 (MQ below (mQ eN D cA base z) [.ref a0, .int a1].toArray s 5 408 (mA base)) (F0 m 21 ls []) := by
    intro n
    induction n with
    | zero =>
      intro x0 x1 x2 x3 mm H locs ls zz hH hS hl h kk
      exact (fl_inv h).elim
    | succ n ih =>
      intro x0 x1 x2 x3 mm H locs ls zz hH hS hl h kk
      unfold f_X1_asSegment_L21 at h
      refine lv_iload_n C.1 C.2.1 dX1_asSegment_21 rfl (lv_at hl 3 rfl) ?_
      refine lv_aload_n C.1 C.2.1 dX1_asSegment_22 rfl (lv_at hl 0 rfl) ?_
      refine r_gN C hT hH (t := 1) (k := 1) (T := TX1) rfl w1 (by decide) (by decide) rfl k26 dX1_asSegment_23 h (fun b4 h => ?_)
      refine r_ln C hT hH (t := 7) (by decide) (by decide) dX1_asSegment_26 h (fun v5 h => ?_)
      refine lv_icmp_ge (tgt := 111) C.1 C.2.1 dX1_asSegment_27 (by decide) (fun hc => ?_) (fun hc => ?_)
      · have h := ifc_t hc h
        obtain rfl := rt_inv h
        exact kk _ _ _ hH hS (lv_sub hl [0, 1, 2, 3] rfl)
      · have h := ifc_f hc h
        refine lv_aload_n C.1 C.2.1 dX1_asSegment_30 rfl (lv_at hl 0 rfl) ?_
        refine r_gN C hT hH (t := 1) (k := 1) (T := TX1) rfl w1 (by decide) (by decide) rfl k26 dX1_asSegment_31 h (fun b6 h => ?_)
        refine lv_iload_n C.1 C.2.1 dX1_asSegment_34 rfl (lv_at hl 3 rfl) ?_
        refine r_lR C hT hH (t := 7) (by decide) dX1_asSegment_35 h (fun b7 h => ?_)
        refine lv_astore (lv' := [(4, .ref b7), (0, .ref x0), (1, .int x1), (2, .ref x2), (3, .int x3)]) C.1 C.2.1 dX1_asSegment_36 hl (by decide) rfl (fun ls hl => ?_)
        refine lv_iconst (v := 0) C.1 C.2.1 dX1_asSegment_38 (by decide) ?_
        refine lv_istore (lv' := [(5, .int 0), (4, .ref b7), (0, .ref x0), (1, .int x1), (2, .ref x2), (3, .int x3)]) C.1 C.2.1 dX1_asSegment_39 hl (by decide) rfl (fun ls hl => ?_)
        obtain ⟨x19, mx19, hq, h⟩ := bnd_inv h
        refine L41 2100 x0 x1 x2 x3 b7 0 _ _ _ _ (x19, mx19) hH hS (lv_sub hl [2, 3, 4, 5, 1, 0] rfl) hq (fun H locs ls hH hS hl => ?_)
        refine lv_iinc (v := (x3 + 1)) (lv' := [(3, .int (x3 + 1)), (0, .ref x0), (1, .int x1), (2, .ref x2), (4, .ref b7), (5, .int x19)]) C.1 C.2.1 dX1_asSegment_105 hl (k := 3) rfl rfl (by decide) rfl (fun ls hl => ?_)
        refine lv_goto (tgt := 21) C.1 C.2.1 dX1_asSegment_108 (by decide) ?_
        exact ih x0 x1 x2 (x3 + 1) _ _ _ _ _ hH hS (lv_sub hl [1, 2, 3, 0] rfl) h kk
  have hS : va_S (mA base) s.heap s.heap [] := va_S.rf
  have hl := lv_entry ([.ref a0, .int a1]) (n := 6) (Nat.le_of_ble_eq_true rfl)
  rw [lg_entry_eq]
  generalize (lg_sl ([.ref a0, .int a1]) ++ List.replicate (6 - (lg_sl ([.ref a0, .int a1])).length) Slot.unset).toArray = ls at hl ⊢
  have hl : lv_has ls 6 [(0, .ref a0), (1, .int a1)] := hl
  unfold f_X1_asSegment at h
  refine r_nO C hT hH hS (t := 2) (T := TX2) rfl w2 tyX2_ok (by decide) dfX2 (by decide +kernel) (by decide +kernel) (by decide +kernel) (by decide) (by decide) dX1_asSegment_0 h (fun b1 mm H hH hS h => ?_)
  refine lv_dup C.1 C.2.1 dX1_asSegment_3 rfl ?_
  refine lv_iload_n C.1 C.2.1 dX1_asSegment_4 rfl (lv_at hl 1 rfl) ?_
  refine lv_aload_n C.1 C.2.1 dX1_asSegment_5 rfl (lv_at hl 0 rfl) ?_
  refine r_callVI C hT hH hS (t := 1) (As := []) (fun z1 hz => c_X1_greatestTier l D cA base a0 _ z1 hz) (cwV 0 C.2.2.2.2 gX1_asSegment_X1_greatestTier rfl rfl rfl (by decide +kernel) ⟨Nat.le_of_ble_eq_true rfl, Nat.le_of_ble_eq_true rfl⟩) rfl (by decide) rfl hl.1 rfl (Nat.le_of_ble_eq_true rfl) dX1_asSegment_6 ⟨by decide, by decide⟩ h (fun v2 mm H locs hH hS h => ?_)
  refine lv_iconst (v := 1) C.1 C.2.1 dX1_asSegment_9 (by decide) ?_
  refine lv_iadd C.1 C.2.1 dX1_asSegment_10 ?_
  refine lv_aload_n C.1 C.2.1 dX1_asSegment_11 rfl (lv_at hl 0 rfl) ?_
  refine r_gI C hT hH (t := 1) (k := 4) (T := TX1) rfl w1 (by decide) (by decide) rfl k15 dX1_asSegment_12 h (fun v3 h => ?_)
  refine r_callI C hT hH hS (b := b1) (As := [.int a1, .int (v2 + 1), .int v3]) (fun z1 hz => c_X2_init l D cA base b1 a1 (v2 + 1) v3 _ z1 hz) (cwI 3 C.2.2.2.2 gX1_asSegment_X2_init rfl rfl rfl (C.2.2.2.2 _ (by decide +kernel)) (C.2.2.2.2 _ (by decide +kernel)) (C.2.2.2.2 _ (by decide +kernel)) rfl (by decide +kernel) ⟨Nat.le_of_ble_eq_true rfl, Nat.le_of_ble_eq_true rfl⟩) rfl hl.1 rfl (Nat.le_of_ble_eq_true rfl) dX1_asSegment_15 ⟨by decide, by decide⟩ h (fun _ mm H locs hH hS h => ?_)
  refine lv_astore_n (lv' := [(2, .ref b1), (0, .ref a0), (1, .int a1)]) C.1 C.2.1 dX1_asSegment_18 rfl hl (by decide) rfl (fun ls hl => ?_)
  refine lv_iconst (v := 0) C.1 C.2.1 dX1_asSegment_19 (by decide) ?_
  refine lv_istore_n (lv' := [(3, .int 0), (2, .ref b1), (0, .ref a0), (1, .int a1)]) C.1 C.2.1 dX1_asSegment_20 rfl hl (by decide) rfl (fun ls hl => ?_)
  obtain ⟨x20, mx20, hq, h⟩ := bnd_inv h
  refine L21 2100 a0 a1 b1 0 _ _ _ _ (x20, mx20) hH hS (lv_sub hl [2, 3, 1, 0] rfl) hq (fun H locs ls hH hS hl => ?_)
  refine lv_aload_n C.1 C.2.1 dX1_asSegment_111 rfl (lv_at hl 2 rfl) ?_
  exact r_aretN C hT hH hS hr hlocks (by decide) (by decide) dX1_asSegment_112 h
