/-! The bytecode computes the functions of 05f: written by wip/tools/gen.py -/
abbrev rm_J7_fill_53178 : Room := { frames := 0, cells := 0, slots := 0, locals := 0 }
set_option maxHeartbeats 4000000 in
set_option maxRecDepth 100000 in
theorem c_J7_fill_53178 (l : Launch) (D : va_G) (cA : Nat → ClassId) (base : Nat) (a0 : Nat) (a1 : Int32) (mm : Mem) (z : (Unit) × Mem) (h : f_J7_fill_53178 a0 a1 mm = some z) : Met l yJ7_fill_53178 wsJ7_fill_53178 rm_J7_fill_53178 (va_Pc [.ref a0, .int a1] (mU D cA base mm)) (mQ eV D cA base z) 0 0 (mA base) := by
  refine Met.ofW (cc := cJ7_fill_53178) (maxL := 4) (ret := none) (by decide) rfl ?_
  intro p e s m args below meth c s₁ B hml hv
  obtain ⟨rfl, hH, hT⟩ := hv
  have C : CallFix p m c cJ7_fill_53178 4 s ([.ref a0, .int a1]).toArray wsJ7_fill_53178 RJ7 := ⟨B.exec, B.bytes, hml, findClass_of_methodNamed B.named, atoms_spec (ws := wsJ7_fill_53178) B.pre⟩
  have hr := B.returns
  have hlocks := B.notSynchronized
  have L5 : ∀ (n : Nat) (x0 : Nat) (x1 : Int32) (x2 : Int32) (x3 : Int32) (mm : Mem) (H : Heap) (locs : List Loc) (ls : Array Slot) (zz : (Int32) × Mem), mH D cA base mm H → va_S (mA base) s.heap H locs → lv_has ls 4 [(0, .ref x0), (1, .int x1), (2, .int x2), (3, .int x3)] → f_J7_fill_53178_L5 n x0 x1 x2 x3 mm = some zz → (∀ (H : Heap) (locs : List Loc) (ls : Array Slot), mH D cA base zz.2 H → va_S (mA base) s.heap H locs → lv_has ls 4 [(0, .ref x0), (1, .int x1), (2, .int zz.1), (3, .int x3)] → W p l e rm_J7_fill_53178 s m [.ref a0, .int a1].toArray below meth c H locs 0 0 (MQ below (mQ eV D cA base z) [.ref a0, .int a1].toArray s 0 0 (mA base)) (F0 m 20 ls [])) → W p l e rm_J7_fill_53178 s m [.ref a0, .int a1].toArray below meth c H locs 0 0 (MQ below (mQ eV D cA base z) [.ref a0, .int a1].toArray s 0 0 (mA base)) (F0 m 5 ls []) := by
    intro n
    induction n with
    | zero =>
      intro x0 x1 x2 x3 mm H locs ls zz hH hS hl h kk
      exact (fl_inv h).elim
    | succ n ih =>
      intro x0 x1 x2 x3 mm H locs ls zz hH hS hl h kk
      unfold f_J7_fill_53178_L5 at h
      refine lv_iload_n C.1 C.2.1 dJ7_fill_53178_5 rfl (lv_at hl 2 rfl) ?_
      refine lv_iload_n C.1 C.2.1 dJ7_fill_53178_6 rfl (lv_at hl 3 rfl) ?_
      refine lv_icmp_ge (tgt := 20) C.1 C.2.1 dJ7_fill_53178_7 (by decide) (fun hc => ?_) (fun hc => ?_)
      · have h := ifc_t hc h
        obtain rfl := rt_inv h
        exact kk _ _ _ hH hS (lv_sub hl [0, 1, 2, 3] rfl)
      · have h := ifc_f hc h
        refine lv_aload_n C.1 C.2.1 dJ7_fill_53178_10 rfl (lv_at hl 0 rfl) ?_
        refine lv_iload_n C.1 C.2.1 dJ7_fill_53178_11 rfl (lv_at hl 2 rfl) ?_
        refine lv_iload_n C.1 C.2.1 dJ7_fill_53178_12 rfl (lv_at hl 1 rfl) ?_
        refine r_sI C hT hH hS dJ7_fill_53178_13 h (fun mm H locs hH hS h => ?_)
        refine lv_iinc (v := (x2 + 1)) (lv' := [(2, .int (x2 + 1)), (0, .ref x0), (1, .int x1), (3, .int x3)]) C.1 C.2.1 dJ7_fill_53178_14 hl (k := 2) rfl rfl (by decide) rfl (fun ls hl => ?_)
        refine lv_goto (tgt := 5) C.1 C.2.1 dJ7_fill_53178_17 (by decide) ?_
        exact ih x0 x1 (x2 + 1) x3 _ _ _ _ _ hH hS (lv_sub hl [1, 2, 0, 3] rfl) h kk
  have hS : va_S (mA base) s.heap s.heap [] := va_S.rf
  have hl := lv_entry ([.ref a0, .int a1]) (n := 4) (Nat.le_of_ble_eq_true rfl)
  rw [lg_entry_eq]
  generalize (lg_sl ([.ref a0, .int a1]) ++ List.replicate (4 - (lg_sl ([.ref a0, .int a1])).length) Slot.unset).toArray = ls at hl ⊢
  have hl : lv_has ls 4 [(0, .ref a0), (1, .int a1)] := hl
  unfold f_J7_fill_53178 at h
  refine lv_iconst (v := 0) C.1 C.2.1 dJ7_fill_53178_0 (by decide) ?_
  refine lv_istore_n (lv' := [(2, .int 0), (0, .ref a0), (1, .int a1)]) C.1 C.2.1 dJ7_fill_53178_1 rfl hl (by decide) rfl (fun ls hl => ?_)
  refine lv_aload_n C.1 C.2.1 dJ7_fill_53178_2 rfl (lv_at hl 1 rfl) ?_
  refine r_ln C hT hH (t := 5) (by decide) (by decide) dJ7_fill_53178_3 h (fun v1 h => ?_)
  refine lv_istore_n (lv' := [(3, .int v1), (2, .int 0), (0, .ref a0), (1, .int a1)]) C.1 C.2.1 dJ7_fill_53178_4 rfl hl (by decide) rfl (fun ls hl => ?_)
  obtain ⟨x2, mx2, hq, h⟩ := bnd_inv h
  refine L5 2100 a0 a1 0 v1 _ _ _ _ (x2, mx2) hH hS (lv_sub hl [2, 3, 1, 0] rfl) hq (fun H locs ls hH hS hl => ?_)
  exact r_vret C hT hH hS hr hlocks (by decide) (by decide) dJ7_fill_53178_20 h
abbrev rm_X2_init : Room := { frames := 1, cells := 4, slots := 400, locals := 12 }
set_option maxHeartbeats 4000000 in
set_option maxRecDepth 100000 in
theorem c_X2_init (l : Launch) (D : va_G) (cA : Nat → ClassId) (base : Nat) (a0 : Nat) (a1 : Int32) (a2 : Int32) (a3 : Int32) (mm : Mem) (z : (Unit) × Mem) (h : f_X2_init a0 a1 a2 a3 mm = some z) : Met l yX2_init wsX2_init rm_X2_init (va_Pc [.ref a0, .int a1, .int a2, .int a3] (mU D cA base mm)) (mQ eV D cA base z) 4 400 (mA base) := by
  refine Met.ofW (cc := cX2_init) (maxL := 4) (ret := none) (by decide) rfl ?_
  intro p e s m args below meth c s₁ B hml hv
  obtain ⟨rfl, hH, hT⟩ := hv
  have C : CallFix p m c cX2_init 4 s ([.ref a0, .int a1, .int a2, .int a3]).toArray wsX2_init RX2 := ⟨B.exec, B.bytes, hml, findClass_of_methodNamed B.named, atoms_spec (ws := wsX2_init) B.pre⟩
  have hr := B.returns
  have hlocks := B.notSynchronized
  have hin : meth.name = "<init>" := (name_of_methodNamed B.named B.method).1
  have w2 : ∀ w ∈ u_ws RX2 TX2 8, w ∈ wsX2_init := by decide +kernel
  have k7 : Cond.fieldLink RX2 7 "SegmentMerges$Segment" "living" "I" ∈ wsX2_init := by decide +kernel
  have k13 : Cond.fieldLink RX2 13 "SegmentMerges$Segment" "number" "I" ∈ wsX2_init := by decide +kernel
  have k16 : Cond.fieldLink RX2 16 "SegmentMerges$Segment" "tier" "I" ∈ wsX2_init := by decide +kernel
  have k19 : Cond.fieldLink RX2 19 "SegmentMerges$Segment" "size" "I" ∈ wsX2_init := by decide +kernel
  have k22 : Cond.fieldLink RX2 22 "SegmentMerges$Segment" "keys" "[I" ∈ wsX2_init := by decide +kernel
  have k26 : Cond.fieldLink RX2 26 "SegmentMerges$Segment" "values" "[I" ∈ wsX2_init := by decide +kernel
  have k29 : Cond.fieldLink RX2 29 "SegmentMerges$Segment" "lives" "[Z" ∈ wsX2_init := by decide +kernel
  have k33 : Cond.fieldLink RX2 33 "SegmentMerges$Segment" "wentTo" "[I" ∈ wsX2_init := by decide +kernel
  have hS : va_S (mA base) s.heap s.heap [] := va_S.rf
  have hl := lv_entry ([.ref a0, .int a1, .int a2, .int a3]) (n := 4) (Nat.le_of_ble_eq_true rfl)
  rw [lg_entry_eq]
  generalize (lg_sl ([.ref a0, .int a1, .int a2, .int a3]) ++ List.replicate (4 - (lg_sl ([.ref a0, .int a1, .int a2, .int a3])).length) Slot.unset).toArray = ls at hl ⊢
  have hl : lv_has ls 4 [(0, .ref a0), (1, .int a1), (2, .int a2), (3, .int a3)] := hl
  unfold f_X2_init at h
  refine lv_aload_n C.1 C.2.1 dX2_init_0 rfl (lv_at hl 0 rfl) ?_
  refine W.objInit C.1 C.2.1 C.2.2.2.1 (C.2.2.2.2 _ (by decide +kernel)) (C.2.2.2.2 _ (by decide +kernel)) (C.2.2.2.2 _ (by decide +kernel)) rfl (by rw [C.2.2.1]; exact hl.1) rfl dX2_init_1 (Nat.le_of_ble_eq_true rfl) (Nat.le_of_ble_eq_true rfl) ?_
  refine lv_aload_n C.1 C.2.1 dX2_init_4 rfl (lv_at hl 0 rfl) ?_
  refine lv_iconst (v := 0) C.1 C.2.1 dX2_init_5 (by decide) ?_
  refine r_pI C hT hH hS (t := 2) (k := 7) (T := TX2) rfl w2 tyX2_ok nmX2 (by decide) (by decide) rfl rfl k7 (Or.inl rfl) dX2_init_6 h (fun mm H locs hH hS h => ?_)
  refine lv_aload_n C.1 C.2.1 dX2_init_9 rfl (lv_at hl 0 rfl) ?_
  refine lv_iload_n C.1 C.2.1 dX2_init_10 rfl (lv_at hl 1 rfl) ?_
  refine r_pI C hT hH hS (t := 2) (k := 0) (T := TX2) rfl w2 tyX2_ok nmX2 (by decide) (by decide) rfl rfl k13 (Or.inr ⟨rfl, hin, rfl⟩) dX2_init_11 h (fun mm H locs hH hS h => ?_)
  refine lv_aload_n C.1 C.2.1 dX2_init_14 rfl (lv_at hl 0 rfl) ?_
  refine lv_iload_n C.1 C.2.1 dX2_init_15 rfl (lv_at hl 2 rfl) ?_
  refine r_pI C hT hH hS (t := 2) (k := 1) (T := TX2) rfl w2 tyX2_ok nmX2 (by decide) (by decide) rfl rfl k16 (Or.inr ⟨rfl, hin, rfl⟩) dX2_init_16 h (fun mm H locs hH hS h => ?_)
  refine lv_aload_n C.1 C.2.1 dX2_init_19 rfl (lv_at hl 0 rfl) ?_
  refine lv_iload_n C.1 C.2.1 dX2_init_20 rfl (lv_at hl 3 rfl) ?_
  refine r_pI C hT hH hS (t := 2) (k := 2) (T := TX2) rfl w2 tyX2_ok nmX2 (by decide) (by decide) rfl rfl k19 (Or.inr ⟨rfl, hin, rfl⟩) dX2_init_21 h (fun mm H locs hH hS h => ?_)
  refine lv_aload_n C.1 C.2.1 dX2_init_24 rfl (lv_at hl 0 rfl) ?_
  refine lv_iload_n C.1 C.2.1 dX2_init_25 rfl (lv_at hl 3 rfl) ?_
  refine r_nA C hT hH hS (t := 5) (B := 100) (by decide) rfl (by decide +kernel) (by decide) (by decide) (by decide) dX2_init_26 h (fun b1 mm H hH hS h => ?_)
  refine r_pR C hT hH hS (t := 2) (k := 3) (T := TX2) rfl w2 tyX2_ok nmX2 (by decide) (by decide) rfl rfl rfl k22 (Or.inr ⟨rfl, hin, rfl⟩) dX2_init_28 h (fun mm H locs hH hS h => ?_)
  refine lv_aload_n C.1 C.2.1 dX2_init_31 rfl (lv_at hl 0 rfl) ?_
  refine lv_iload_n C.1 C.2.1 dX2_init_32 rfl (lv_at hl 3 rfl) ?_
  refine r_nA C hT hH hS (t := 5) (B := 100) (by decide) rfl (by decide +kernel) (by decide) (by decide) (by decide) dX2_init_33 h (fun b2 mm H hH hS h => ?_)
  refine r_pR C hT hH hS (t := 2) (k := 4) (T := TX2) rfl w2 tyX2_ok nmX2 (by decide) (by decide) rfl rfl rfl k26 (Or.inr ⟨rfl, hin, rfl⟩) dX2_init_35 h (fun mm H locs hH hS h => ?_)
  refine lv_aload_n C.1 C.2.1 dX2_init_38 rfl (lv_at hl 0 rfl) ?_
  refine lv_iload_n C.1 C.2.1 dX2_init_39 rfl (lv_at hl 3 rfl) ?_
  refine r_nA C hT hH hS (t := 6) (B := 100) (by decide) rfl (by decide +kernel) (by decide) (by decide) (by decide) dX2_init_40 h (fun b3 mm H hH hS h => ?_)
  refine r_pR C hT hH hS (t := 2) (k := 5) (T := TX2) rfl w2 tyX2_ok nmX2 (by decide) (by decide) rfl rfl rfl k29 (Or.inr ⟨rfl, hin, rfl⟩) dX2_init_42 h (fun mm H locs hH hS h => ?_)
  refine lv_aload_n C.1 C.2.1 dX2_init_45 rfl (lv_at hl 0 rfl) ?_
  refine lv_iload_n C.1 C.2.1 dX2_init_46 rfl (lv_at hl 3 rfl) ?_
  refine r_nA C hT hH hS (t := 5) (B := 100) (by decide) rfl (by decide +kernel) (by decide) (by decide) (by decide) dX2_init_47 h (fun b4 mm H hH hS h => ?_)
  refine r_pR C hT hH hS (t := 2) (k := 6) (T := TX2) rfl w2 tyX2_ok nmX2 (by decide) (by decide) rfl rfl rfl k33 (Or.inr ⟨rfl, hin, rfl⟩) dX2_init_49 h (fun mm H locs hH hS h => ?_)
  exact r_vret C hT hH hS hr hlocks (by decide) (by decide) dX2_init_52 h
abbrev rm_X2_write : Room := { frames := 0, cells := 0, slots := 0, locals := 0 }
set_option maxHeartbeats 4000000 in
set_option maxRecDepth 100000 in
theorem c_X2_write (l : Launch) (D : va_G) (cA : Nat → ClassId) (base : Nat) (a0 : Nat) (a1 : Int32) (a2 : Int32) (a3 : Int32) (a4 : Int32) (mm : Mem) (z : (Unit) × Mem) (h : f_X2_write a0 a1 a2 a3 a4 mm = some z) : Met l yX2_write wsX2_write rm_X2_write (va_Pc [.ref a0, .int a1, .int a2, .int a3, .int a4] (mU D cA base mm)) (mQ eV D cA base z) 0 0 (mA base) := by
  refine Met.ofW (cc := cX2_write) (maxL := 5) (ret := none) (by decide) rfl ?_
  intro p e s m args below meth c s₁ B hml hv
  obtain ⟨rfl, hH, hT⟩ := hv
  have C : CallFix p m c cX2_write 5 s ([.ref a0, .int a1, .int a2, .int a3, .int a4]).toArray wsX2_write RX2 := ⟨B.exec, B.bytes, hml, findClass_of_methodNamed B.named, atoms_spec (ws := wsX2_write) B.pre⟩
  have hr := B.returns
  have hlocks := B.notSynchronized
  have w2 : ∀ w ∈ u_ws RX2 TX2 8, w ∈ wsX2_write := by decide +kernel
  have k7 : Cond.fieldLink RX2 7 "SegmentMerges$Segment" "living" "I" ∈ wsX2_write := by decide +kernel
  have k22 : Cond.fieldLink RX2 22 "SegmentMerges$Segment" "keys" "[I" ∈ wsX2_write := by decide +kernel
  have k26 : Cond.fieldLink RX2 26 "SegmentMerges$Segment" "values" "[I" ∈ wsX2_write := by decide +kernel
  have k29 : Cond.fieldLink RX2 29 "SegmentMerges$Segment" "lives" "[Z" ∈ wsX2_write := by decide +kernel
  have hS : va_S (mA base) s.heap s.heap [] := va_S.rf
  have hl := lv_entry ([.ref a0, .int a1, .int a2, .int a3, .int a4]) (n := 5) (Nat.le_of_ble_eq_true rfl)
  rw [lg_entry_eq]
  generalize (lg_sl ([.ref a0, .int a1, .int a2, .int a3, .int a4]) ++ List.replicate (5 - (lg_sl ([.ref a0, .int a1, .int a2, .int a3, .int a4])).length) Slot.unset).toArray = ls at hl ⊢
  have hl : lv_has ls 5 [(0, .ref a0), (1, .int a1), (2, .int a2), (3, .int a3), (4, .int a4)] := hl
  unfold f_X2_write at h
  refine lv_aload_n C.1 C.2.1 dX2_write_0 rfl (lv_at hl 0 rfl) ?_
  refine r_gN C hT hH (t := 2) (k := 3) (T := TX2) rfl w2 (by decide) (by decide) rfl k22 dX2_write_1 h (fun b1 h => ?_)
  refine lv_iload_n C.1 C.2.1 dX2_write_4 rfl (lv_at hl 1 rfl) ?_
  refine lv_iload_n C.1 C.2.1 dX2_write_5 rfl (lv_at hl 2 rfl) ?_
  refine r_sI C hT hH hS dX2_write_6 h (fun mm H locs hH hS h => ?_)
  refine lv_aload_n C.1 C.2.1 dX2_write_7 rfl (lv_at hl 0 rfl) ?_
  refine r_gN C hT hH (t := 2) (k := 4) (T := TX2) rfl w2 (by decide) (by decide) rfl k26 dX2_write_8 h (fun b2 h => ?_)
  refine lv_iload_n C.1 C.2.1 dX2_write_11 rfl (lv_at hl 1 rfl) ?_
  refine lv_iload_n C.1 C.2.1 dX2_write_12 rfl (lv_at hl 3 rfl) ?_
  refine r_sI C hT hH hS dX2_write_13 h (fun mm H locs hH hS h => ?_)
  refine lv_aload_n C.1 C.2.1 dX2_write_14 rfl (lv_at hl 0 rfl) ?_
  refine r_gN C hT hH (t := 2) (k := 5) (T := TX2) rfl w2 (by decide) (by decide) rfl k29 dX2_write_15 h (fun b3 h => ?_)
  refine lv_iload_n C.1 C.2.1 dX2_write_18 rfl (lv_at hl 1 rfl) ?_
  refine lv_iload C.1 C.2.1 dX2_write_19 (lv_at hl 4 rfl) ?_
  refine r_sZ C hT hH hS dX2_write_21 h (fun mm H locs hH hS h => ?_)
  refine lv_iload C.1 C.2.1 dX2_write_22 (lv_at hl 4 rfl) ?_
  refine lv_if_eq (tgt := 37) C.1 C.2.1 dX2_write_24 (by decide) (fun hc => ?_) (fun hc => ?_)
  · have h := ifc_t hc h
    exact r_vret C hT hH hS hr hlocks (by decide) (by decide) dX2_write_37 h
  · have h := ifc_f hc h
    refine lv_aload_n C.1 C.2.1 dX2_write_27 rfl (lv_at hl 0 rfl) ?_
    refine lv_dup C.1 C.2.1 dX2_write_28 rfl ?_
    refine r_gI C hT hH (t := 2) (k := 7) (T := TX2) rfl w2 (by decide) (by decide) rfl k7 dX2_write_29 h (fun v4 h => ?_)
    refine lv_iconst (v := 1) C.1 C.2.1 dX2_write_32 (by decide) ?_
    refine lv_iadd C.1 C.2.1 dX2_write_33 ?_
    refine r_pI C hT hH hS (t := 2) (k := 7) (T := TX2) rfl w2 tyX2_ok nmX2 (by decide) (by decide) rfl rfl k7 (Or.inl rfl) dX2_write_34 h (fun mm H locs hH hS h => ?_)
    exact r_vret C hT hH hS hr hlocks (by decide) (by decide) dX2_write_37 h
abbrev rm_X2_hasRow : Room := { frames := 0, cells := 0, slots := 0, locals := 0 }
set_option maxHeartbeats 4000000 in
set_option maxRecDepth 100000 in
theorem c_X2_hasRow (l : Launch) (D : va_G) (cA : Nat → ClassId) (base : Nat) (a0 : Nat) (a1 : Int32) (mm : Mem) (z : (Int32) × Mem) (h : f_X2_hasRow a0 a1 mm = some z) : Met l yX2_hasRow wsX2_hasRow rm_X2_hasRow (va_Pc [.ref a0, .int a1] (mU D cA base mm)) (mQ eI D cA base z) 0 0 (mA base) := by
  refine Met.ofW (cc := cX2_hasRow) (maxL := 2) (ret := (some .boolean)) (by decide) rfl ?_
  intro p e s m args below meth c s₁ B hml hv
  obtain ⟨rfl, hH, hT⟩ := hv
  have C : CallFix p m c cX2_hasRow 2 s ([.ref a0, .int a1]).toArray wsX2_hasRow RX2 := ⟨B.exec, B.bytes, hml, findClass_of_methodNamed B.named, atoms_spec (ws := wsX2_hasRow) B.pre⟩
  have hr := B.returns
  have hlocks := B.notSynchronized
  have w2 : ∀ w ∈ u_ws RX2 TX2 8, w ∈ wsX2_hasRow := by decide +kernel
  have k19 : Cond.fieldLink RX2 19 "SegmentMerges$Segment" "size" "I" ∈ wsX2_hasRow := by decide +kernel
  have hS : va_S (mA base) s.heap s.heap [] := va_S.rf
  have hl := lv_entry ([.ref a0, .int a1]) (n := 2) (Nat.le_of_ble_eq_true rfl)
  rw [lg_entry_eq]
  generalize (lg_sl ([.ref a0, .int a1]) ++ List.replicate (2 - (lg_sl ([.ref a0, .int a1])).length) Slot.unset).toArray = ls at hl ⊢
  have hl : lv_has ls 2 [(0, .ref a0), (1, .int a1)] := hl
  unfold f_X2_hasRow at h
  refine lv_iload_n C.1 C.2.1 dX2_hasRow_0 rfl (lv_at hl 1 rfl) ?_
  refine lv_if_lt (tgt := 16) C.1 C.2.1 dX2_hasRow_1 (by decide) (fun hc => ?_) (fun hc => ?_)
  · have h := ifc_t hc h
    refine lv_iconst (v := 0) C.1 C.2.1 dX2_hasRow_16 (by decide) ?_
    exact r_zret C hT hH hS hr hlocks (by decide) (by decide) dX2_hasRow_17 h
  · have h := ifc_f hc h
    refine lv_iload_n C.1 C.2.1 dX2_hasRow_4 rfl (lv_at hl 1 rfl) ?_
    refine lv_aload_n C.1 C.2.1 dX2_hasRow_5 rfl (lv_at hl 0 rfl) ?_
    refine r_gI C hT hH (t := 2) (k := 2) (T := TX2) rfl w2 (by decide) (by decide) rfl k19 dX2_hasRow_6 h (fun v1 h => ?_)
    refine lv_icmp_ge (tgt := 16) C.1 C.2.1 dX2_hasRow_9 (by decide) (fun hc => ?_) (fun hc => ?_)
    · have h := ifc_t hc h
      refine lv_iconst (v := 0) C.1 C.2.1 dX2_hasRow_16 (by decide) ?_
      exact r_zret C hT hH hS hr hlocks (by decide) (by decide) dX2_hasRow_17 h
    · have h := ifc_f hc h
      refine lv_iconst (v := 1) C.1 C.2.1 dX2_hasRow_12 (by decide) ?_
      refine lv_goto (tgt := 17) C.1 C.2.1 dX2_hasRow_13 (by decide) ?_
      exact r_zret C hT hH hS hr hlocks (by decide) (by decide) dX2_hasRow_17 h
abbrev rm_X2_kill : Room := { frames := 0, cells := 0, slots := 0, locals := 0 }
set_option maxHeartbeats 4000000 in
set_option maxRecDepth 100000 in
theorem c_X2_kill (l : Launch) (D : va_G) (cA : Nat → ClassId) (base : Nat) (a0 : Nat) (a1 : Int32) (mm : Mem) (z : (Unit) × Mem) (h : f_X2_kill a0 a1 mm = some z) : Met l yX2_kill wsX2_kill rm_X2_kill (va_Pc [.ref a0, .int a1] (mU D cA base mm)) (mQ eV D cA base z) 0 0 (mA base) := by
  refine Met.ofW (cc := cX2_kill) (maxL := 3) (ret := none) (by decide) rfl ?_
  intro p e s m args below meth c s₁ B hml hv
  obtain ⟨rfl, hH, hT⟩ := hv
  have C : CallFix p m c cX2_kill 3 s ([.ref a0, .int a1]).toArray wsX2_kill RX2 := ⟨B.exec, B.bytes, hml, findClass_of_methodNamed B.named, atoms_spec (ws := wsX2_kill) B.pre⟩
  have hr := B.returns
  have hlocks := B.notSynchronized
  have w2 : ∀ w ∈ u_ws RX2 TX2 8, w ∈ wsX2_kill := by decide +kernel
  have k7 : Cond.fieldLink RX2 7 "SegmentMerges$Segment" "living" "I" ∈ wsX2_kill := by decide +kernel
  have k19 : Cond.fieldLink RX2 19 "SegmentMerges$Segment" "size" "I" ∈ wsX2_kill := by decide +kernel
  have k22 : Cond.fieldLink RX2 22 "SegmentMerges$Segment" "keys" "[I" ∈ wsX2_kill := by decide +kernel
  have k29 : Cond.fieldLink RX2 29 "SegmentMerges$Segment" "lives" "[Z" ∈ wsX2_kill := by decide +kernel
  have L2 : ∀ (n : Nat) (x0 : Nat) (x1 : Int32) (x2 : Int32) (mm : Mem) (H : Heap) (locs : List Loc) (ls : Array Slot) (zz : (Int32) × Mem), mH D cA base mm H → va_S (mA base) s.heap H locs → lv_has ls 3 [(0, .ref x0), (1, .int x1), (2, .int x2)] → f_X2_kill_L2 n x0 x1 x2 mm = some zz → (∀ (H : Heap) (locs : List Loc) (ls : Array Slot), mH D cA base zz.2 H → va_S (mA base) s.heap H locs → lv_has ls 3 [(0, .ref x0), (1, .int x1), (2, .int zz.1)] → W p l e rm_X2_kill s m [.ref a0, .int a1].toArray below meth c H locs 0 0 (MQ below (mQ eV D cA base z) [.ref a0, .int a1].toArray s 0 0 (mA base)) (F0 m 62 ls [])) → W p l e rm_X2_kill s m [.ref a0, .int a1].toArray below meth c H locs 0 0 (MQ below (mQ eV D cA base z) [.ref a0, .int a1].toArray s 0 0 (mA base)) (F0 m 2 ls []) := by
    intro n
    induction n with
    | zero =>
      intro x0 x1 x2 mm H locs ls zz hH hS hl h kk
      exact (fl_inv h).elim
    | succ n ih =>
      intro x0 x1 x2 mm H locs ls zz hH hS hl h kk
      unfold f_X2_kill_L2 at h
      refine lv_iload_n C.1 C.2.1 dX2_kill_2 rfl (lv_at hl 2 rfl) ?_
      refine lv_aload_n C.1 C.2.1 dX2_kill_3 rfl (lv_at hl 0 rfl) ?_
      refine r_gI C hT hH (t := 2) (k := 2) (T := TX2) rfl w2 (by decide) (by decide) rfl k19 dX2_kill_4 h (fun v1 h => ?_)
      refine lv_icmp_ge (tgt := 62) C.1 C.2.1 dX2_kill_7 (by decide) (fun hc => ?_) (fun hc => ?_)
      · have h := ifc_t hc h
        obtain rfl := rt_inv h
        exact kk _ _ _ hH hS (lv_sub hl [0, 1, 2] rfl)
      · have h := ifc_f hc h
        refine lv_aload_n C.1 C.2.1 dX2_kill_10 rfl (lv_at hl 0 rfl) ?_
        refine r_gN C hT hH (t := 2) (k := 3) (T := TX2) rfl w2 (by decide) (by decide) rfl k22 dX2_kill_11 h (fun b2 h => ?_)
        refine lv_iload_n C.1 C.2.1 dX2_kill_14 rfl (lv_at hl 2 rfl) ?_
        refine r_lI C hT hH dX2_kill_15 h (fun v3 h => ?_)
        refine lv_iload_n C.1 C.2.1 dX2_kill_16 rfl (lv_at hl 1 rfl) ?_
        refine lv_icmp_gt (tgt := 62) C.1 C.2.1 dX2_kill_17 (by decide) (fun hc => ?_) (fun hc => ?_)
        · have h := ifc_t hc h
          obtain rfl := rt_inv h
          exact kk _ _ _ hH hS (lv_sub hl [0, 1, 2] rfl)
        · have h := ifc_f hc h
          refine lv_aload_n C.1 C.2.1 dX2_kill_20 rfl (lv_at hl 0 rfl) ?_
          refine r_gN C hT hH (t := 2) (k := 3) (T := TX2) rfl w2 (by decide) (by decide) rfl k22 dX2_kill_21 h (fun b4 h => ?_)
          refine lv_iload_n C.1 C.2.1 dX2_kill_24 rfl (lv_at hl 2 rfl) ?_
          refine r_lI C hT hH dX2_kill_25 h (fun v5 h => ?_)
          refine lv_iload_n C.1 C.2.1 dX2_kill_26 rfl (lv_at hl 1 rfl) ?_
          refine lv_icmp_ne (tgt := 56) C.1 C.2.1 dX2_kill_27 (by decide) (fun hc => ?_) (fun hc => ?_)
          · have h := ifc_f hc h
            refine lv_iinc (v := (x2 + 1)) (lv' := [(2, .int (x2 + 1)), (0, .ref x0), (1, .int x1)]) C.1 C.2.1 dX2_kill_56 hl (k := 2) rfl rfl (by decide) rfl (fun ls hl => ?_)
            refine lv_goto (tgt := 2) C.1 C.2.1 dX2_kill_59 (by decide) ?_
            exact ih x0 x1 (x2 + 1) _ _ _ _ _ hH hS (lv_sub hl [1, 2, 0] rfl) h kk
          · have h := ifc_t hc h
            refine lv_aload_n C.1 C.2.1 dX2_kill_30 rfl (lv_at hl 0 rfl) ?_
            refine r_gN C hT hH (t := 2) (k := 5) (T := TX2) rfl w2 (by decide) (by decide) rfl k29 dX2_kill_31 h (fun b6 h => ?_)
            refine lv_iload_n C.1 C.2.1 dX2_kill_34 rfl (lv_at hl 2 rfl) ?_
            refine r_lZ C hT hH dX2_kill_35 h (fun v7 h => ?_)
            refine lv_if_eq (tgt := 56) C.1 C.2.1 dX2_kill_36 (by decide) (fun hc => ?_) (fun hc => ?_)
            · have h := ifc_t hc h
              refine lv_iinc (v := (x2 + 1)) (lv' := [(2, .int (x2 + 1)), (0, .ref x0), (1, .int x1)]) C.1 C.2.1 dX2_kill_56 hl (k := 2) rfl rfl (by decide) rfl (fun ls hl => ?_)
              refine lv_goto (tgt := 2) C.1 C.2.1 dX2_kill_59 (by decide) ?_
              exact ih x0 x1 (x2 + 1) _ _ _ _ _ hH hS (lv_sub hl [1, 2, 0] rfl) h kk
            · have h := ifc_f hc h
              refine lv_aload_n C.1 C.2.1 dX2_kill_39 rfl (lv_at hl 0 rfl) ?_
              refine r_gN C hT hH (t := 2) (k := 5) (T := TX2) rfl w2 (by decide) (by decide) rfl k29 dX2_kill_40 h (fun b8 h => ?_)
              refine lv_iload_n C.1 C.2.1 dX2_kill_43 rfl (lv_at hl 2 rfl) ?_
              refine lv_iconst (v := 0) C.1 C.2.1 dX2_kill_44 (by decide) ?_
              refine r_sZ C hT hH hS dX2_kill_45 h (fun mm H locs hH hS h => ?_)
              refine lv_aload_n C.1 C.2.1 dX2_kill_46 rfl (lv_at hl 0 rfl) ?_
              refine lv_dup C.1 C.2.1 dX2_kill_47 rfl ?_
              refine r_gI C hT hH (t := 2) (k := 7) (T := TX2) rfl w2 (by decide) (by decide) rfl k7 dX2_kill_48 h (fun v9 h => ?_)
              refine lv_iconst (v := 1) C.1 C.2.1 dX2_kill_51 (by decide) ?_
              refine lv_isub C.1 C.2.1 dX2_kill_52 ?_
              refine r_pI C hT hH hS (t := 2) (k := 7) (T := TX2) rfl w2 tyX2_ok nmX2 (by decide) (by decide) rfl rfl k7 (Or.inl rfl) dX2_kill_53 h (fun mm H locs hH hS h => ?_)
              refine lv_iinc (v := (x2 + 1)) (lv' := [(2, .int (x2 + 1)), (0, .ref x0), (1, .int x1)]) C.1 C.2.1 dX2_kill_56 hl (k := 2) rfl rfl (by decide) rfl (fun ls hl => ?_)
              refine lv_goto (tgt := 2) C.1 C.2.1 dX2_kill_59 (by decide) ?_
              exact ih x0 x1 (x2 + 1) _ _ _ _ _ hH hS (lv_sub hl [1, 2, 0] rfl) h kk
  have hS : va_S (mA base) s.heap s.heap [] := va_S.rf
  have hl := lv_entry ([.ref a0, .int a1]) (n := 3) (Nat.le_of_ble_eq_true rfl)
  rw [lg_entry_eq]
  generalize (lg_sl ([.ref a0, .int a1]) ++ List.replicate (3 - (lg_sl ([.ref a0, .int a1])).length) Slot.unset).toArray = ls at hl ⊢
  have hl : lv_has ls 3 [(0, .ref a0), (1, .int a1)] := hl
  unfold f_X2_kill at h
  refine lv_iconst (v := 0) C.1 C.2.1 dX2_kill_0 (by decide) ?_
  refine lv_istore_n (lv' := [(2, .int 0), (0, .ref a0), (1, .int a1)]) C.1 C.2.1 dX2_kill_1 rfl hl (by decide) rfl (fun ls hl => ?_)
  obtain ⟨x10, mx10, hq, h⟩ := bnd_inv h
  refine L2 2100 a0 a1 0 _ _ _ _ (x10, mx10) hH hS (lv_sub hl [1, 2, 0] rfl) hq (fun H locs ls hH hS hl => ?_)
  exact r_vret C hT hH hS hr hlocks (by decide) (by decide) dX2_kill_62 h
abbrev rm_X2_isDeaderThan : Room := { frames := 0, cells := 0, slots := 0, locals := 0 }
set_option maxHeartbeats 4000000 in
set_option maxRecDepth 100000 in
theorem c_X2_isDeaderThan (l : Launch) (D : va_G) (cA : Nat → ClassId) (base : Nat) (a0 : Nat) (a1 : Nat) (mm : Mem) (z : (Int32) × Mem) (h : f_X2_isDeaderThan a0 a1 mm = some z) : Met l yX2_isDeaderThan wsX2_isDeaderThan rm_X2_isDeaderThan (va_Pc [.ref a0, .ref a1] (mU D cA base mm)) (mQ eI D cA base z) 0 0 (mA base) := by
  refine Met.ofW (cc := cX2_isDeaderThan) (maxL := 2) (ret := (some .boolean)) (by decide) rfl ?_
  intro p e s m args below meth c s₁ B hml hv
  obtain ⟨rfl, hH, hT⟩ := hv
  have C : CallFix p m c cX2_isDeaderThan 2 s ([.ref a0, .ref a1]).toArray wsX2_isDeaderThan RX2 := ⟨B.exec, B.bytes, hml, findClass_of_methodNamed B.named, atoms_spec (ws := wsX2_isDeaderThan) B.pre⟩
  have hr := B.returns
  have hlocks := B.notSynchronized
  have w2 : ∀ w ∈ u_ws RX2 TX2 8, w ∈ wsX2_isDeaderThan := by decide +kernel
  have k7 : Cond.fieldLink RX2 7 "SegmentMerges$Segment" "living" "I" ∈ wsX2_isDeaderThan := by decide +kernel
  have k19 : Cond.fieldLink RX2 19 "SegmentMerges$Segment" "size" "I" ∈ wsX2_isDeaderThan := by decide +kernel
  have hS : va_S (mA base) s.heap s.heap [] := va_S.rf
  have hl := lv_entry ([.ref a0, .ref a1]) (n := 2) (Nat.le_of_ble_eq_true rfl)
  rw [lg_entry_eq]
  generalize (lg_sl ([.ref a0, .ref a1]) ++ List.replicate (2 - (lg_sl ([.ref a0, .ref a1])).length) Slot.unset).toArray = ls at hl ⊢
  have hl : lv_has ls 2 [(0, .ref a0), (1, .ref a1)] := hl
  unfold f_X2_isDeaderThan at h
  refine lv_aload_n C.1 C.2.1 dX2_isDeaderThan_0 rfl (lv_at hl 0 rfl) ?_
  refine r_gI C hT hH (t := 2) (k := 2) (T := TX2) rfl w2 (by decide) (by decide) rfl k19 dX2_isDeaderThan_1 h (fun v1 h => ?_)
  refine lv_aload_n C.1 C.2.1 dX2_isDeaderThan_4 rfl (lv_at hl 0 rfl) ?_
  refine r_gI C hT hH (t := 2) (k := 7) (T := TX2) rfl w2 (by decide) (by decide) rfl k7 dX2_isDeaderThan_5 h (fun v2 h => ?_)
  refine lv_isub C.1 C.2.1 dX2_isDeaderThan_8 ?_
  refine lv_aload_n C.1 C.2.1 dX2_isDeaderThan_9 rfl (lv_at hl 1 rfl) ?_
  refine r_gI C hT hH (t := 2) (k := 2) (T := TX2) rfl w2 (by decide) (by decide) rfl k19 dX2_isDeaderThan_10 h (fun v3 h => ?_)
  refine lv_imul C.1 C.2.1 dX2_isDeaderThan_13 ?_
  refine lv_aload_n C.1 C.2.1 dX2_isDeaderThan_14 rfl (lv_at hl 1 rfl) ?_
  refine r_gI C hT hH (t := 2) (k := 2) (T := TX2) rfl w2 (by decide) (by decide) rfl k19 dX2_isDeaderThan_15 h (fun v4 h => ?_)
  refine lv_aload_n C.1 C.2.1 dX2_isDeaderThan_18 rfl (lv_at hl 1 rfl) ?_
  refine r_gI C hT hH (t := 2) (k := 7) (T := TX2) rfl w2 (by decide) (by decide) rfl k7 dX2_isDeaderThan_19 h (fun v5 h => ?_)
  refine lv_isub C.1 C.2.1 dX2_isDeaderThan_22 ?_
  refine lv_aload_n C.1 C.2.1 dX2_isDeaderThan_23 rfl (lv_at hl 0 rfl) ?_
  refine r_gI C hT hH (t := 2) (k := 2) (T := TX2) rfl w2 (by decide) (by decide) rfl k19 dX2_isDeaderThan_24 h (fun v6 h => ?_)
  refine lv_imul C.1 C.2.1 dX2_isDeaderThan_27 ?_
  refine lv_icmp_le (tgt := 35) C.1 C.2.1 dX2_isDeaderThan_28 (by decide) (fun hc => ?_) (fun hc => ?_)
  · have h := ifc_t hc h
    refine lv_iconst (v := 0) C.1 C.2.1 dX2_isDeaderThan_35 (by decide) ?_
    exact r_zret C hT hH hS hr hlocks (by decide) (by decide) dX2_isDeaderThan_36 h
  · have h := ifc_f hc h
    refine lv_iconst (v := 1) C.1 C.2.1 dX2_isDeaderThan_31 (by decide) ?_
    refine lv_goto (tgt := 36) C.1 C.2.1 dX2_isDeaderThan_32 (by decide) ?_
    exact r_zret C hT hH hS hr hlocks (by decide) (by decide) dX2_isDeaderThan_36 h
