/-! The bytecode computes the functions of 05f: written by wip/tools/gen.py -/
abbrev rm_X4_init : Room := { frames := 1, cells := 23, slots := 8732, locals := 12 }
set_option maxHeartbeats 4000000 in
set_option maxRecDepth 100000 in
theorem c_X4_init (l : Launch) (D : va_G) (cA : Nat → ClassId) (base : Nat) (a0 : Nat) (mm : Mem) (z : (Unit) × Mem) (h : f_X4_init a0 mm = some z) : Met l yX4_init wsX4_init rm_X4_init (va_Pc [.ref a0] (mU D cA base mm)) (mQ eV D cA base z) 23 8732 (mA base) := by
  refine Met.ofW (cc := cX4_init) (maxL := 2) (ret := none) (by decide) rfl ?_
  intro p e s m args below meth c s₁ B hml hv
  obtain ⟨rfl, hH, hT⟩ := hv
  have C : CallFix p m c cX4_init 2 s ([.ref a0]).toArray wsX4_init RX4 := ⟨B.exec, B.bytes, hml, findClass_of_methodNamed B.named, atoms_spec (ws := wsX4_init) B.pre⟩
  have hr := B.returns
  have hlocks := B.notSynchronized
  have hin : meth.name = "<init>" := (name_of_methodNamed B.named B.method).1
  have w4 : ∀ w ∈ u_ws RX4 TX4 34, w ∈ wsX4_init := by decide +kernel
  have k7 : Cond.fieldLink RX4 7 "SegmentMergesModel" "value" "[I" ∈ wsX4_init := by decide +kernel
  have k13 : Cond.fieldLink RX4 13 "SegmentMergesModel" "turn" "[I" ∈ wsX4_init := by decide +kernel
  have k16 : Cond.fieldLink RX4 16 "SegmentMergesModel" "inSlot" "[I" ∈ wsX4_init := by decide +kernel
  have k19 : Cond.fieldLink RX4 19 "SegmentMergesModel" "inRow" "[I" ∈ wsX4_init := by decide +kernel
  have k22 : Cond.fieldLink RX4 22 "SegmentMergesModel" "memory" "[I" ∈ wsX4_init := by decide +kernel
  have k25 : Cond.fieldLink RX4 25 "SegmentMergesModel" "order" "[I" ∈ wsX4_init := by decide +kernel
  have k28 : Cond.fieldLink RX4 28 "SegmentMergesModel" "isUsed" "[Z" ∈ wsX4_init := by decide +kernel
  have k32 : Cond.fieldLink RX4 32 "SegmentMergesModel" "number" "[I" ∈ wsX4_init := by decide +kernel
  have k35 : Cond.fieldLink RX4 35 "SegmentMergesModel" "tier" "[I" ∈ wsX4_init := by decide +kernel
  have k38 : Cond.fieldLink RX4 38 "SegmentMergesModel" "rows" "[I" ∈ wsX4_init := by decide +kernel
  have k41 : Cond.fieldLink RX4 41 "SegmentMergesModel" "rowKey" "[I" ∈ wsX4_init := by decide +kernel
  have k44 : Cond.fieldLink RX4 44 "SegmentMergesModel" "rowValue" "[I" ∈ wsX4_init := by decide +kernel
  have k47 : Cond.fieldLink RX4 47 "SegmentMergesModel" "lives" "[Z" ∈ wsX4_init := by decide +kernel
  have k50 : Cond.fieldLink RX4 50 "SegmentMergesModel" "full" "I" ∈ wsX4_init := by decide +kernel
  have k54 : Cond.fieldLink RX4 54 "SegmentMergesModel" "at" "[I" ∈ wsX4_init := by decide +kernel
  have k57 : Cond.fieldLink RX4 57 "SegmentMergesModel" "newKey" "[I" ∈ wsX4_init := by decide +kernel
  have k60 : Cond.fieldLink RX4 60 "SegmentMergesModel" "newValue" "[I" ∈ wsX4_init := by decide +kernel
  have k63 : Cond.fieldLink RX4 63 "SegmentMergesModel" "newTurn" "[I" ∈ wsX4_init := by decide +kernel
  have k66 : Cond.fieldLink RX4 66 "SegmentMergesModel" "goes" "[I" ∈ wsX4_init := by decide +kernel
  have k69 : Cond.fieldLink RX4 69 "SegmentMergesModel" "movedNumber" "[I" ∈ wsX4_init := by decide +kernel
  have k72 : Cond.fieldLink RX4 72 "SegmentMergesModel" "movedRows" "[I" ∈ wsX4_init := by decide +kernel
  have k75 : Cond.fieldLink RX4 75 "SegmentMergesModel" "movedTo" "[I" ∈ wsX4_init := by decide +kernel
  have k78 : Cond.fieldLink RX4 78 "SegmentMergesModel" "isView" "[Z" ∈ wsX4_init := by decide +kernel
  have k81 : Cond.fieldLink RX4 81 "SegmentMergesModel" "viewed" "[I" ∈ wsX4_init := by decide +kernel
  have L200 : ∀ (n : Nat) (x0 : Nat) (x1 : Int32) (mm : Mem) (H : Heap) (locs : List Loc) (ls : Array Slot) (zz : (Int32) × Mem), mH D cA base mm H → va_S (mA base) s.heap H locs → lv_has ls 2 [(0, .ref x0), (1, .int x1)] → f_X4_init_L200 n x0 x1 mm = some zz → (∀ (H : Heap) (locs : List Loc) (ls : Array Slot), mH D cA base zz.2 H → va_S (mA base) s.heap H locs → lv_has ls 2 [(0, .ref x0), (1, .int zz.1)] → W p l e rm_X4_init s m [.ref a0].toArray below meth c H locs 23 8732 (MQ below (mQ eV D cA base z) [.ref a0].toArray s 23 8732 (mA base)) (F0 m 226 ls [])) → W p l e rm_X4_init s m [.ref a0].toArray below meth c H locs 23 8732 (MQ below (mQ eV D cA base z) [.ref a0].toArray s 23 8732 (mA base)) (F0 m 200 ls []) := by
    intro n
    induction n with
    | zero =>
      intro x0 x1 mm H locs ls zz hH hS hl h kk
      exact (fl_inv h).elim
    | succ n ih =>
      intro x0 x1 mm H locs ls zz hH hS hl h kk
      unfold f_X4_init_L200 at h
      refine lv_iload_n C.1 C.2.1 dX4_init_200 rfl (lv_at hl 1 rfl) ?_
      refine lv_bipush (v := 100) C.1 C.2.1 dX4_init_201 (by decide) ?_
      refine lv_icmp_ge (tgt := 226) C.1 C.2.1 dX4_init_203 (by decide) (fun hc => ?_) (fun hc => ?_)
      · have h := ifc_t hc h
        obtain rfl := rt_inv h
        exact kk _ _ _ hH hS (lv_sub hl [0, 1] rfl)
      · have h := ifc_f hc h
        refine lv_aload_n C.1 C.2.1 dX4_init_206 rfl (lv_at hl 0 rfl) ?_
        refine r_gN C hT hH (t := 4) (k := 1) (T := TX4) rfl w4 (by decide) (by decide) rfl k7 dX4_init_207 h (fun b24 h => ?_)
        refine lv_iload_n C.1 C.2.1 dX4_init_210 rfl (lv_at hl 1 rfl) ?_
        refine lv_iconst (v := (-1)) C.1 C.2.1 dX4_init_211 (by decide) ?_
        refine r_sI C hT hH hS dX4_init_212 h (fun mm H locs hH hS h => ?_)
        refine lv_aload_n C.1 C.2.1 dX4_init_213 rfl (lv_at hl 0 rfl) ?_
        refine r_gN C hT hH (t := 4) (k := 3) (T := TX4) rfl w4 (by decide) (by decide) rfl k16 dX4_init_214 h (fun b25 h => ?_)
        refine lv_iload_n C.1 C.2.1 dX4_init_217 rfl (lv_at hl 1 rfl) ?_
        refine lv_iconst (v := (-1)) C.1 C.2.1 dX4_init_218 (by decide) ?_
        refine r_sI C hT hH hS dX4_init_219 h (fun mm H locs hH hS h => ?_)
        refine lv_iinc (v := (x1 + 1)) (lv' := [(1, .int (x1 + 1)), (0, .ref x0)]) C.1 C.2.1 dX4_init_220 hl (k := 1) rfl rfl (by decide) rfl (fun ls hl => ?_)
        refine lv_goto (tgt := 200) C.1 C.2.1 dX4_init_223 (by decide) ?_
        exact ih x0 (x1 + 1) _ _ _ _ _ hH hS (lv_sub hl [1, 0] rfl) h kk
  have hS : va_S (mA base) s.heap s.heap [] := va_S.rf
  have hl := lv_entry ([.ref a0]) (n := 2) (Nat.le_of_ble_eq_true rfl)
  rw [lg_entry_eq]
  generalize (lg_sl ([.ref a0]) ++ List.replicate (2 - (lg_sl ([.ref a0])).length) Slot.unset).toArray = ls at hl ⊢
  have hl : lv_has ls 2 [(0, .ref a0)] := hl
  unfold f_X4_init at h
  refine lv_aload_n C.1 C.2.1 dX4_init_0 rfl (lv_at hl 0 rfl) ?_
  refine W.objInit C.1 C.2.1 C.2.2.2.1 (C.2.2.2.2 _ (by decide +kernel)) (C.2.2.2.2 _ (by decide +kernel)) (C.2.2.2.2 _ (by decide +kernel)) rfl (by rw [C.2.2.1]; exact hl.1) rfl dX4_init_1 (Nat.le_of_ble_eq_true rfl) (Nat.le_of_ble_eq_true rfl) ?_
  refine lv_aload_n C.1 C.2.1 dX4_init_4 rfl (lv_at hl 0 rfl) ?_
  refine lv_bipush (v := 100) C.1 C.2.1 dX4_init_5 (by decide) ?_
  refine r_nA C hT hH hS (t := 5) (B := 100) (by decide) rfl (by decide +kernel) (by decide) (by decide) (by decide) dX4_init_7 h (fun b1 mm H hH hS h => ?_)
  refine r_pR C hT hH hS (t := 4) (k := 1) (T := TX4) rfl w4 tyX4_ok nmX4 (by decide) (by decide) rfl rfl rfl k7 (Or.inr ⟨rfl, hin, rfl⟩) dX4_init_9 h (fun mm H locs hH hS h => ?_)
  refine lv_aload_n C.1 C.2.1 dX4_init_12 rfl (lv_at hl 0 rfl) ?_
  refine lv_bipush (v := 100) C.1 C.2.1 dX4_init_13 (by decide) ?_
  refine r_nA C hT hH hS (t := 5) (B := 100) (by decide) rfl (by decide +kernel) (by decide) (by decide) (by decide) dX4_init_15 h (fun b2 mm H hH hS h => ?_)
  refine r_pR C hT hH hS (t := 4) (k := 2) (T := TX4) rfl w4 tyX4_ok nmX4 (by decide) (by decide) rfl rfl rfl k13 (Or.inr ⟨rfl, hin, rfl⟩) dX4_init_17 h (fun mm H locs hH hS h => ?_)
  refine lv_aload_n C.1 C.2.1 dX4_init_20 rfl (lv_at hl 0 rfl) ?_
  refine lv_bipush (v := 100) C.1 C.2.1 dX4_init_21 (by decide) ?_
  refine r_nA C hT hH hS (t := 5) (B := 100) (by decide) rfl (by decide +kernel) (by decide) (by decide) (by decide) dX4_init_23 h (fun b3 mm H hH hS h => ?_)
  refine r_pR C hT hH hS (t := 4) (k := 3) (T := TX4) rfl w4 tyX4_ok nmX4 (by decide) (by decide) rfl rfl rfl k16 (Or.inr ⟨rfl, hin, rfl⟩) dX4_init_25 h (fun mm H locs hH hS h => ?_)
  refine lv_aload_n C.1 C.2.1 dX4_init_28 rfl (lv_at hl 0 rfl) ?_
  refine lv_bipush (v := 100) C.1 C.2.1 dX4_init_29 (by decide) ?_
  refine r_nA C hT hH hS (t := 5) (B := 100) (by decide) rfl (by decide +kernel) (by decide) (by decide) (by decide) dX4_init_31 h (fun b4 mm H hH hS h => ?_)
  refine r_pR C hT hH hS (t := 4) (k := 4) (T := TX4) rfl w4 tyX4_ok nmX4 (by decide) (by decide) rfl rfl rfl k19 (Or.inr ⟨rfl, hin, rfl⟩) dX4_init_33 h (fun mm H locs hH hS h => ?_)
  refine lv_aload_n C.1 C.2.1 dX4_init_36 rfl (lv_at hl 0 rfl) ?_
  refine lv_bipush (v := 6) C.1 C.2.1 dX4_init_37 (by decide) ?_
  refine r_nA C hT hH hS (t := 5) (B := 6) (by decide) rfl (by decide +kernel) (by decide) (by decide) (by decide) dX4_init_39 h (fun b5 mm H hH hS h => ?_)
  refine r_pR C hT hH hS (t := 4) (k := 6) (T := TX4) rfl w4 tyX4_ok nmX4 (by decide) (by decide) rfl rfl rfl k22 (Or.inr ⟨rfl, hin, rfl⟩) dX4_init_41 h (fun mm H locs hH hS h => ?_)
  refine lv_aload_n C.1 C.2.1 dX4_init_44 rfl (lv_at hl 0 rfl) ?_
  refine lv_bipush (v := 20) C.1 C.2.1 dX4_init_45 (by decide) ?_
  refine r_nA C hT hH hS (t := 5) (B := 20) (by decide) rfl (by decide +kernel) (by decide) (by decide) (by decide) dX4_init_47 h (fun b6 mm H hH hS h => ?_)
  refine r_pR C hT hH hS (t := 4) (k := 8) (T := TX4) rfl w4 tyX4_ok nmX4 (by decide) (by decide) rfl rfl rfl k25 (Or.inr ⟨rfl, hin, rfl⟩) dX4_init_49 h (fun mm H locs hH hS h => ?_)
  refine lv_aload_n C.1 C.2.1 dX4_init_52 rfl (lv_at hl 0 rfl) ?_
  refine lv_bipush (v := 21) C.1 C.2.1 dX4_init_53 (by decide) ?_
  refine r_nA C hT hH hS (t := 6) (B := 21) (by decide) rfl (by decide +kernel) (by decide) (by decide) (by decide) dX4_init_55 h (fun b7 mm H hH hS h => ?_)
  refine r_pR C hT hH hS (t := 4) (k := 9) (T := TX4) rfl w4 tyX4_ok nmX4 (by decide) (by decide) rfl rfl rfl k28 (Or.inr ⟨rfl, hin, rfl⟩) dX4_init_57 h (fun mm H locs hH hS h => ?_)
  refine lv_aload_n C.1 C.2.1 dX4_init_60 rfl (lv_at hl 0 rfl) ?_
  refine lv_bipush (v := 21) C.1 C.2.1 dX4_init_61 (by decide) ?_
  refine r_nA C hT hH hS (t := 5) (B := 21) (by decide) rfl (by decide +kernel) (by decide) (by decide) (by decide) dX4_init_63 h (fun b8 mm H hH hS h => ?_)
  refine r_pR C hT hH hS (t := 4) (k := 10) (T := TX4) rfl w4 tyX4_ok nmX4 (by decide) (by decide) rfl rfl rfl k32 (Or.inr ⟨rfl, hin, rfl⟩) dX4_init_65 h (fun mm H locs hH hS h => ?_)
  refine lv_aload_n C.1 C.2.1 dX4_init_68 rfl (lv_at hl 0 rfl) ?_
  refine lv_bipush (v := 21) C.1 C.2.1 dX4_init_69 (by decide) ?_
  refine r_nA C hT hH hS (t := 5) (B := 21) (by decide) rfl (by decide +kernel) (by decide) (by decide) (by decide) dX4_init_71 h (fun b9 mm H hH hS h => ?_)
  refine r_pR C hT hH hS (t := 4) (k := 11) (T := TX4) rfl w4 tyX4_ok nmX4 (by decide) (by decide) rfl rfl rfl k35 (Or.inr ⟨rfl, hin, rfl⟩) dX4_init_73 h (fun mm H locs hH hS h => ?_)
  refine lv_aload_n C.1 C.2.1 dX4_init_76 rfl (lv_at hl 0 rfl) ?_
  refine lv_bipush (v := 21) C.1 C.2.1 dX4_init_77 (by decide) ?_
  refine r_nA C hT hH hS (t := 5) (B := 21) (by decide) rfl (by decide +kernel) (by decide) (by decide) (by decide) dX4_init_79 h (fun b10 mm H hH hS h => ?_)
  refine r_pR C hT hH hS (t := 4) (k := 12) (T := TX4) rfl w4 tyX4_ok nmX4 (by decide) (by decide) rfl rfl rfl k38 (Or.inr ⟨rfl, hin, rfl⟩) dX4_init_81 h (fun mm H locs hH hS h => ?_)
  refine lv_aload_n C.1 C.2.1 dX4_init_84 rfl (lv_at hl 0 rfl) ?_
  refine lv_sipush (v := 2100) C.1 C.2.1 dX4_init_85 (by decide) ?_
  refine r_nA C hT hH hS (t := 5) (B := 2100) (by decide) rfl (by decide +kernel) (by decide) (by decide) (by decide) dX4_init_88 h (fun b11 mm H hH hS h => ?_)
  refine r_pR C hT hH hS (t := 4) (k := 13) (T := TX4) rfl w4 tyX4_ok nmX4 (by decide) (by decide) rfl rfl rfl k41 (Or.inr ⟨rfl, hin, rfl⟩) dX4_init_90 h (fun mm H locs hH hS h => ?_)
  refine lv_aload_n C.1 C.2.1 dX4_init_93 rfl (lv_at hl 0 rfl) ?_
  refine lv_sipush (v := 2100) C.1 C.2.1 dX4_init_94 (by decide) ?_
  refine r_nA C hT hH hS (t := 5) (B := 2100) (by decide) rfl (by decide +kernel) (by decide) (by decide) (by decide) dX4_init_97 h (fun b12 mm H hH hS h => ?_)
  refine r_pR C hT hH hS (t := 4) (k := 14) (T := TX4) rfl w4 tyX4_ok nmX4 (by decide) (by decide) rfl rfl rfl k44 (Or.inr ⟨rfl, hin, rfl⟩) dX4_init_99 h (fun mm H locs hH hS h => ?_)
  refine lv_aload_n C.1 C.2.1 dX4_init_102 rfl (lv_at hl 0 rfl) ?_
  refine lv_sipush (v := 2100) C.1 C.2.1 dX4_init_103 (by decide) ?_
  refine r_nA C hT hH hS (t := 6) (B := 2100) (by decide) rfl (by decide +kernel) (by decide) (by decide) (by decide) dX4_init_106 h (fun b13 mm H hH hS h => ?_)
  refine r_pR C hT hH hS (t := 4) (k := 15) (T := TX4) rfl w4 tyX4_ok nmX4 (by decide) (by decide) rfl rfl rfl k47 (Or.inr ⟨rfl, hin, rfl⟩) dX4_init_108 h (fun mm H locs hH hS h => ?_)
  refine lv_aload_n C.1 C.2.1 dX4_init_111 rfl (lv_at hl 0 rfl) ?_
  refine lv_iconst (v := 3) C.1 C.2.1 dX4_init_112 (by decide) ?_
  refine r_pI C hT hH hS (t := 4) (k := 18) (T := TX4) rfl w4 tyX4_ok nmX4 (by decide) (by decide) rfl rfl k50 (Or.inl rfl) dX4_init_113 h (fun mm H locs hH hS h => ?_)
  refine lv_aload_n C.1 C.2.1 dX4_init_116 rfl (lv_at hl 0 rfl) ?_
  refine lv_bipush (v := 6) C.1 C.2.1 dX4_init_117 (by decide) ?_
  refine r_nA C hT hH hS (t := 5) (B := 6) (by decide) rfl (by decide +kernel) (by decide) (by decide) (by decide) dX4_init_119 h (fun b14 mm H hH hS h => ?_)
  refine r_pR C hT hH hS (t := 4) (k := 23) (T := TX4) rfl w4 tyX4_ok nmX4 (by decide) (by decide) rfl rfl rfl k54 (Or.inr ⟨rfl, hin, rfl⟩) dX4_init_121 h (fun mm H locs hH hS h => ?_)
  refine lv_aload_n C.1 C.2.1 dX4_init_124 rfl (lv_at hl 0 rfl) ?_
  refine lv_bipush (v := 100) C.1 C.2.1 dX4_init_125 (by decide) ?_
  refine r_nA C hT hH hS (t := 5) (B := 100) (by decide) rfl (by decide +kernel) (by decide) (by decide) (by decide) dX4_init_127 h (fun b15 mm H hH hS h => ?_)
  refine r_pR C hT hH hS (t := 4) (k := 24) (T := TX4) rfl w4 tyX4_ok nmX4 (by decide) (by decide) rfl rfl rfl k57 (Or.inr ⟨rfl, hin, rfl⟩) dX4_init_129 h (fun mm H locs hH hS h => ?_)
  refine lv_aload_n C.1 C.2.1 dX4_init_132 rfl (lv_at hl 0 rfl) ?_
  refine lv_bipush (v := 100) C.1 C.2.1 dX4_init_133 (by decide) ?_
  refine r_nA C hT hH hS (t := 5) (B := 100) (by decide) rfl (by decide +kernel) (by decide) (by decide) (by decide) dX4_init_135 h (fun b16 mm H hH hS h => ?_)
  refine r_pR C hT hH hS (t := 4) (k := 25) (T := TX4) rfl w4 tyX4_ok nmX4 (by decide) (by decide) rfl rfl rfl k60 (Or.inr ⟨rfl, hin, rfl⟩) dX4_init_137 h (fun mm H locs hH hS h => ?_)
  refine lv_aload_n C.1 C.2.1 dX4_init_140 rfl (lv_at hl 0 rfl) ?_
  refine lv_bipush (v := 100) C.1 C.2.1 dX4_init_141 (by decide) ?_
  refine r_nA C hT hH hS (t := 5) (B := 100) (by decide) rfl (by decide +kernel) (by decide) (by decide) (by decide) dX4_init_143 h (fun b17 mm H hH hS h => ?_)
  refine r_pR C hT hH hS (t := 4) (k := 26) (T := TX4) rfl w4 tyX4_ok nmX4 (by decide) (by decide) rfl rfl rfl k63 (Or.inr ⟨rfl, hin, rfl⟩) dX4_init_145 h (fun mm H locs hH hS h => ?_)
  refine lv_aload_n C.1 C.2.1 dX4_init_148 rfl (lv_at hl 0 rfl) ?_
  refine lv_sipush (v := 600) C.1 C.2.1 dX4_init_149 (by decide) ?_
  refine r_nA C hT hH hS (t := 5) (B := 600) (by decide) rfl (by decide +kernel) (by decide) (by decide) (by decide) dX4_init_152 h (fun b18 mm H hH hS h => ?_)
  refine r_pR C hT hH hS (t := 4) (k := 27) (T := TX4) rfl w4 tyX4_ok nmX4 (by decide) (by decide) rfl rfl rfl k66 (Or.inr ⟨rfl, hin, rfl⟩) dX4_init_154 h (fun mm H locs hH hS h => ?_)
  refine lv_aload_n C.1 C.2.1 dX4_init_157 rfl (lv_at hl 0 rfl) ?_
  refine lv_bipush (v := 6) C.1 C.2.1 dX4_init_158 (by decide) ?_
  refine r_nA C hT hH hS (t := 5) (B := 6) (by decide) rfl (by decide +kernel) (by decide) (by decide) (by decide) dX4_init_160 h (fun b19 mm H hH hS h => ?_)
  refine r_pR C hT hH hS (t := 4) (k := 29) (T := TX4) rfl w4 tyX4_ok nmX4 (by decide) (by decide) rfl rfl rfl k69 (Or.inr ⟨rfl, hin, rfl⟩) dX4_init_162 h (fun mm H locs hH hS h => ?_)
  refine lv_aload_n C.1 C.2.1 dX4_init_165 rfl (lv_at hl 0 rfl) ?_
  refine lv_bipush (v := 6) C.1 C.2.1 dX4_init_166 (by decide) ?_
  refine r_nA C hT hH hS (t := 5) (B := 6) (by decide) rfl (by decide +kernel) (by decide) (by decide) (by decide) dX4_init_168 h (fun b20 mm H hH hS h => ?_)
  refine r_pR C hT hH hS (t := 4) (k := 30) (T := TX4) rfl w4 tyX4_ok nmX4 (by decide) (by decide) rfl rfl rfl k72 (Or.inr ⟨rfl, hin, rfl⟩) dX4_init_170 h (fun mm H locs hH hS h => ?_)
  refine lv_aload_n C.1 C.2.1 dX4_init_173 rfl (lv_at hl 0 rfl) ?_
  refine lv_sipush (v := 600) C.1 C.2.1 dX4_init_174 (by decide) ?_
  refine r_nA C hT hH hS (t := 5) (B := 600) (by decide) rfl (by decide +kernel) (by decide) (by decide) (by decide) dX4_init_177 h (fun b21 mm H hH hS h => ?_)
  refine r_pR C hT hH hS (t := 4) (k := 31) (T := TX4) rfl w4 tyX4_ok nmX4 (by decide) (by decide) rfl rfl rfl k75 (Or.inr ⟨rfl, hin, rfl⟩) dX4_init_179 h (fun mm H locs hH hS h => ?_)
  refine lv_aload_n C.1 C.2.1 dX4_init_182 rfl (lv_at hl 0 rfl) ?_
  refine lv_iconst (v := 4) C.1 C.2.1 dX4_init_183 (by decide) ?_
  refine r_nA C hT hH hS (t := 6) (B := 4) (by decide) rfl (by decide +kernel) (by decide) (by decide) (by decide) dX4_init_184 h (fun b22 mm H hH hS h => ?_)
  refine r_pR C hT hH hS (t := 4) (k := 32) (T := TX4) rfl w4 tyX4_ok nmX4 (by decide) (by decide) rfl rfl rfl k78 (Or.inr ⟨rfl, hin, rfl⟩) dX4_init_186 h (fun mm H locs hH hS h => ?_)
  refine lv_aload_n C.1 C.2.1 dX4_init_189 rfl (lv_at hl 0 rfl) ?_
  refine lv_sipush (v := 400) C.1 C.2.1 dX4_init_190 (by decide) ?_
  refine r_nA C hT hH hS (t := 5) (B := 400) (by decide) rfl (by decide +kernel) (by decide) (by decide) (by decide) dX4_init_193 h (fun b23 mm H hH hS h => ?_)
  refine r_pR C hT hH hS (t := 4) (k := 33) (T := TX4) rfl w4 tyX4_ok nmX4 (by decide) (by decide) rfl rfl rfl k81 (Or.inr ⟨rfl, hin, rfl⟩) dX4_init_195 h (fun mm H locs hH hS h => ?_)
  refine lv_iconst (v := 0) C.1 C.2.1 dX4_init_198 (by decide) ?_
  refine lv_istore_n (lv' := [(1, .int 0), (0, .ref a0)]) C.1 C.2.1 dX4_init_199 rfl hl (by decide) rfl (fun ls hl => ?_)
  obtain ⟨x26, mx26, hq, h⟩ := bnd_inv h
  refine L200 2100 a0 0 _ _ _ _ (x26, mx26) hH hS (lv_sub hl [1, 0] rfl) hq (fun H locs ls hH hS hl => ?_)
  exact r_vret C hT hH hS hr hlocks (by decide) (by decide) dX4_init_226 h
abbrev rm_X4_thrown : Room := { frames := 0, cells := 0, slots := 0, locals := 0 }
set_option maxHeartbeats 4000000 in
set_option maxRecDepth 100000 in
theorem c_X4_thrown (l : Launch) (D : va_G) (cA : Nat → ClassId) (base : Nat) (a0 : Nat) (mm : Mem) (z : (Int32) × Mem) (h : f_X4_thrown a0 mm = some z) : Met l yX4_thrown wsX4_thrown rm_X4_thrown (va_Pc [.ref a0] (mU D cA base mm)) (mQ eI D cA base z) 0 0 (mA base) := by
  refine Met.ofW (cc := cX4_thrown) (maxL := 1) (ret := (some .int)) (by decide) rfl ?_
  intro p e s m args below meth c s₁ B hml hv
  obtain ⟨rfl, hH, hT⟩ := hv
  have C : CallFix p m c cX4_thrown 1 s ([.ref a0]).toArray wsX4_thrown RX4 := ⟨B.exec, B.bytes, hml, findClass_of_methodNamed B.named, atoms_spec (ws := wsX4_thrown) B.pre⟩
  have hr := B.returns
  have hlocks := B.notSynchronized
  have w4 : ∀ w ∈ u_ws RX4 TX4 34, w ∈ wsX4_thrown := by decide +kernel
  have k84 : Cond.fieldLink RX4 84 "SegmentMergesModel" "thrown" "I" ∈ wsX4_thrown := by decide +kernel
  have hS : va_S (mA base) s.heap s.heap [] := va_S.rf
  have hl := lv_entry ([.ref a0]) (n := 1) (Nat.le_of_ble_eq_true rfl)
  rw [lg_entry_eq]
  generalize (lg_sl ([.ref a0]) ++ List.replicate (1 - (lg_sl ([.ref a0])).length) Slot.unset).toArray = ls at hl ⊢
  have hl : lv_has ls 1 [(0, .ref a0)] := hl
  unfold f_X4_thrown at h
  refine lv_aload_n C.1 C.2.1 dX4_thrown_0 rfl (lv_at hl 0 rfl) ?_
  refine r_gI C hT hH (t := 4) (k := 0) (T := TX4) rfl w4 (by decide) (by decide) rfl k84 dX4_thrown_1 h (fun v1 h => ?_)
  exact r_iret C hT hH hS hr hlocks (by decide) (by decide) dX4_thrown_4 h
abbrev rm_X4_in : Room := { frames := 0, cells := 0, slots := 0, locals := 0 }
set_option maxHeartbeats 4000000 in
set_option maxRecDepth 100000 in
theorem c_X4_in (l : Launch) (D : va_G) (cA : Nat → ClassId) (base : Nat) (a0 : Int32) (a1 : Int32) (a2 : Int32) (mm : Mem) (z : (Int32) × Mem) (h : f_X4_in a0 a1 a2 mm = some z) : Met l yX4_in wsX4_in rm_X4_in (va_Pc [.int a0, .int a1, .int a2] (mU D cA base mm)) (mQ eI D cA base z) 0 0 (mA base) := by
  refine Met.ofW (cc := cX4_in) (maxL := 3) (ret := (some .boolean)) (by decide) rfl ?_
  intro p e s m args below meth c s₁ B hml hv
  obtain ⟨rfl, hH, hT⟩ := hv
  have C : CallFix p m c cX4_in 3 s ([.int a0, .int a1, .int a2]).toArray wsX4_in RX4 := ⟨B.exec, B.bytes, hml, findClass_of_methodNamed B.named, atoms_spec (ws := wsX4_in) B.pre⟩
  have hr := B.returns
  have hlocks := B.notSynchronized
  have hS : va_S (mA base) s.heap s.heap [] := va_S.rf
  have hl := lv_entry ([.int a0, .int a1, .int a2]) (n := 3) (Nat.le_of_ble_eq_true rfl)
  rw [lg_entry_eq]
  generalize (lg_sl ([.int a0, .int a1, .int a2]) ++ List.replicate (3 - (lg_sl ([.int a0, .int a1, .int a2])).length) Slot.unset).toArray = ls at hl ⊢
  have hl : lv_has ls 3 [(0, .int a0), (1, .int a1), (2, .int a2)] := hl
  unfold f_X4_in at h
  refine lv_iload_n C.1 C.2.1 dX4_in_0 rfl (lv_at hl 0 rfl) ?_
  refine lv_iload_n C.1 C.2.1 dX4_in_1 rfl (lv_at hl 1 rfl) ?_
  refine lv_icmp_lt (tgt := 14) C.1 C.2.1 dX4_in_2 (by decide) (fun hc => ?_) (fun hc => ?_)
  · have h := ifc_t hc h
    refine lv_iconst (v := 0) C.1 C.2.1 dX4_in_14 (by decide) ?_
    exact r_zret C hT hH hS hr hlocks (by decide) (by decide) dX4_in_15 h
  · have h := ifc_f hc h
    refine lv_iload_n C.1 C.2.1 dX4_in_5 rfl (lv_at hl 0 rfl) ?_
    refine lv_iload_n C.1 C.2.1 dX4_in_6 rfl (lv_at hl 2 rfl) ?_
    refine lv_icmp_gt (tgt := 14) C.1 C.2.1 dX4_in_7 (by decide) (fun hc => ?_) (fun hc => ?_)
    · have h := ifc_t hc h
      refine lv_iconst (v := 0) C.1 C.2.1 dX4_in_14 (by decide) ?_
      exact r_zret C hT hH hS hr hlocks (by decide) (by decide) dX4_in_15 h
    · have h := ifc_f hc h
      refine lv_iconst (v := 1) C.1 C.2.1 dX4_in_10 (by decide) ?_
      refine lv_goto (tgt := 15) C.1 C.2.1 dX4_in_11 (by decide) ?_
      exact r_zret C hT hH hS hr hlocks (by decide) (by decide) dX4_in_15 h
abbrev rm_X4_memoryAt : Room := { frames := 0, cells := 0, slots := 0, locals := 0 }
set_option maxHeartbeats 4000000 in
set_option maxRecDepth 100000 in
theorem c_X4_memoryAt (l : Launch) (D : va_G) (cA : Nat → ClassId) (base : Nat) (a0 : Nat) (a1 : Int32) (mm : Mem) (z : (Int32) × Mem) (h : f_X4_memoryAt a0 a1 mm = some z) : Met l yX4_memoryAt wsX4_memoryAt rm_X4_memoryAt (va_Pc [.ref a0, .int a1] (mU D cA base mm)) (mQ eI D cA base z) 0 0 (mA base) := by
  refine Met.ofW (cc := cX4_memoryAt) (maxL := 4) (ret := (some .int)) (by decide) rfl ?_
  intro p e s m args below meth c s₁ B hml hv
  obtain ⟨rfl, hH, hT⟩ := hv
  have C : CallFix p m c cX4_memoryAt 4 s ([.ref a0, .int a1]).toArray wsX4_memoryAt RX4 := ⟨B.exec, B.bytes, hml, findClass_of_methodNamed B.named, atoms_spec (ws := wsX4_memoryAt) B.pre⟩
  have hr := B.returns
  have hlocks := B.notSynchronized
  have w4 : ∀ w ∈ u_ws RX4 TX4 34, w ∈ wsX4_memoryAt := by decide +kernel
  have k22 : Cond.fieldLink RX4 22 "SegmentMergesModel" "memory" "[I" ∈ wsX4_memoryAt := by decide +kernel
  have k87 : Cond.fieldLink RX4 87 "SegmentMergesModel" "remembered" "I" ∈ wsX4_memoryAt := by decide +kernel
  have L4 : ∀ (n : Nat) (x0 : Nat) (x1 : Int32) (x2 : Int32) (x3 : Int32) (mm : Mem) (H : Heap) (locs : List Loc) (ls : Array Slot) (zz : (Int32 × Int32) × Mem), mH D cA base mm H → va_S (mA base) s.heap H locs → lv_has ls 4 [(0, .ref x0), (1, .int x1), (2, .int x2), (3, .int x3)] → f_X4_memoryAt_L4 n x0 x1 x2 x3 mm = some zz → (∀ (H : Heap) (locs : List Loc) (ls : Array Slot), mH D cA base zz.2 H → va_S (mA base) s.heap H locs → lv_has ls 4 [(0, .ref x0), (1, .int x1), (2, .int zz.1.1), (3, .int zz.1.2)] → W p l e rm_X4_memoryAt s m [.ref a0, .int a1].toArray below meth c H locs 0 0 (MQ below (mQ eI D cA base z) [.ref a0, .int a1].toArray s 0 0 (mA base)) (F0 m 34 ls [])) → W p l e rm_X4_memoryAt s m [.ref a0, .int a1].toArray below meth c H locs 0 0 (MQ below (mQ eI D cA base z) [.ref a0, .int a1].toArray s 0 0 (mA base)) (F0 m 4 ls []) := by
    intro n
    induction n with
    | zero =>
      intro x0 x1 x2 x3 mm H locs ls zz hH hS hl h kk
      exact (fl_inv h).elim
    | succ n ih =>
      intro x0 x1 x2 x3 mm H locs ls zz hH hS hl h kk
      unfold f_X4_memoryAt_L4 at h
      refine lv_iload_n C.1 C.2.1 dX4_memoryAt_4 rfl (lv_at hl 3 rfl) ?_
      refine lv_aload_n C.1 C.2.1 dX4_memoryAt_5 rfl (lv_at hl 0 rfl) ?_
      refine r_gI C hT hH (t := 4) (k := 5) (T := TX4) rfl w4 (by decide) (by decide) rfl k87 dX4_memoryAt_6 h (fun v1 h => ?_)
      refine lv_icmp_ge (tgt := 34) C.1 C.2.1 dX4_memoryAt_9 (by decide) (fun hc => ?_) (fun hc => ?_)
      · have h := ifc_t hc h
        obtain rfl := rt_inv h
        exact kk _ _ _ hH hS (lv_sub hl [0, 1, 2, 3] rfl)
      · have h := ifc_f hc h
        refine lv_aload_n C.1 C.2.1 dX4_memoryAt_12 rfl (lv_at hl 0 rfl) ?_
        refine r_gN C hT hH (t := 4) (k := 6) (T := TX4) rfl w4 (by decide) (by decide) rfl k22 dX4_memoryAt_13 h (fun b2 h => ?_)
        refine lv_iload_n C.1 C.2.1 dX4_memoryAt_16 rfl (lv_at hl 3 rfl) ?_
        refine r_lI C hT hH dX4_memoryAt_17 h (fun v3 h => ?_)
        refine lv_iload_n C.1 C.2.1 dX4_memoryAt_18 rfl (lv_at hl 1 rfl) ?_
        refine lv_icmp_ne (tgt := 26) C.1 C.2.1 dX4_memoryAt_19 (by decide) (fun hc => ?_) (fun hc => ?_)
        · have h := ifc_f hc h
          refine lv_iload_n C.1 C.2.1 dX4_memoryAt_26 rfl (lv_at hl 2 rfl) ?_
          refine lv_istore_n (lv' := [(2, .int x2), (0, .ref x0), (1, .int x1), (3, .int x3)]) C.1 C.2.1 dX4_memoryAt_27 rfl hl (by decide) rfl (fun ls hl => ?_)
          refine lv_iinc (v := (x3 + 1)) (lv' := [(3, .int (x3 + 1)), (2, .int x2), (0, .ref x0), (1, .int x1)]) C.1 C.2.1 dX4_memoryAt_28 hl (k := 3) rfl rfl (by decide) rfl (fun ls hl => ?_)
          refine lv_goto (tgt := 4) C.1 C.2.1 dX4_memoryAt_31 (by decide) ?_
          exact ih x0 x1 x2 (x3 + 1) _ _ _ _ _ hH hS (lv_sub hl [2, 3, 1, 0] rfl) h kk
        · have h := ifc_t hc h
          refine lv_iload_n C.1 C.2.1 dX4_memoryAt_22 rfl (lv_at hl 3 rfl) ?_
          refine lv_goto (tgt := 27) C.1 C.2.1 dX4_memoryAt_23 (by decide) ?_
          refine lv_istore_n (lv' := [(2, .int x3), (0, .ref x0), (1, .int x1), (3, .int x3)]) C.1 C.2.1 dX4_memoryAt_27 rfl hl (by decide) rfl (fun ls hl => ?_)
          refine lv_iinc (v := (x3 + 1)) (lv' := [(3, .int (x3 + 1)), (2, .int x3), (0, .ref x0), (1, .int x1)]) C.1 C.2.1 dX4_memoryAt_28 hl (k := 3) rfl rfl (by decide) rfl (fun ls hl => ?_)
          refine lv_goto (tgt := 4) C.1 C.2.1 dX4_memoryAt_31 (by decide) ?_
          exact ih x0 x1 x3 (x3 + 1) _ _ _ _ _ hH hS (lv_sub hl [2, 3, 1, 0] rfl) h kk
  have hS : va_S (mA base) s.heap s.heap [] := va_S.rf
  have hl := lv_entry ([.ref a0, .int a1]) (n := 4) (Nat.le_of_ble_eq_true rfl)
  rw [lg_entry_eq]
  generalize (lg_sl ([.ref a0, .int a1]) ++ List.replicate (4 - (lg_sl ([.ref a0, .int a1])).length) Slot.unset).toArray = ls at hl ⊢
  have hl : lv_has ls 4 [(0, .ref a0), (1, .int a1)] := hl
  unfold f_X4_memoryAt at h
  refine lv_iconst (v := (-1)) C.1 C.2.1 dX4_memoryAt_0 (by decide) ?_
  refine lv_istore_n (lv' := [(2, .int (-1)), (0, .ref a0), (1, .int a1)]) C.1 C.2.1 dX4_memoryAt_1 rfl hl (by decide) rfl (fun ls hl => ?_)
  refine lv_iconst (v := 0) C.1 C.2.1 dX4_memoryAt_2 (by decide) ?_
  refine lv_istore_n (lv' := [(3, .int 0), (2, .int (-1)), (0, .ref a0), (1, .int a1)]) C.1 C.2.1 dX4_memoryAt_3 rfl hl (by decide) rfl (fun ls hl => ?_)
  obtain ⟨x4, mx4, hq, h⟩ := bnd_inv h
  refine L4 2100 a0 a1 (-1) 0 _ _ _ _ (x4, mx4) hH hS (lv_sub hl [2, 3, 1, 0] rfl) hq (fun H locs ls hH hS hl => ?_)
  refine lv_iload_n C.1 C.2.1 dX4_memoryAt_34 rfl (lv_at hl 2 rfl) ?_
  exact r_iret C hT hH hS hr hlocks (by decide) (by decide) dX4_memoryAt_35 h
abbrev rm_X4_die : Room := { frames := 0, cells := 0, slots := 0, locals := 0 }
set_option maxHeartbeats 4000000 in
set_option maxRecDepth 100000 in
theorem c_X4_die (l : Launch) (D : va_G) (cA : Nat → ClassId) (base : Nat) (a0 : Nat) (a1 : Int32) (mm : Mem) (z : (Unit) × Mem) (h : f_X4_die a0 a1 mm = some z) : Met l yX4_die wsX4_die rm_X4_die (va_Pc [.ref a0, .int a1] (mU D cA base mm)) (mQ eV D cA base z) 0 0 (mA base) := by
  refine Met.ofW (cc := cX4_die) (maxL := 2) (ret := none) (by decide) rfl ?_
  intro p e s m args below meth c s₁ B hml hv
  obtain ⟨rfl, hH, hT⟩ := hv
  have C : CallFix p m c cX4_die 2 s ([.ref a0, .int a1]).toArray wsX4_die RX4 := ⟨B.exec, B.bytes, hml, findClass_of_methodNamed B.named, atoms_spec (ws := wsX4_die) B.pre⟩
  have hr := B.returns
  have hlocks := B.notSynchronized
  have w4 : ∀ w ∈ u_ws RX4 TX4 34, w ∈ wsX4_die := by decide +kernel
  have k16 : Cond.fieldLink RX4 16 "SegmentMergesModel" "inSlot" "[I" ∈ wsX4_die := by decide +kernel
  have k19 : Cond.fieldLink RX4 19 "SegmentMergesModel" "inRow" "[I" ∈ wsX4_die := by decide +kernel
  have k47 : Cond.fieldLink RX4 47 "SegmentMergesModel" "lives" "[Z" ∈ wsX4_die := by decide +kernel
  have hS : va_S (mA base) s.heap s.heap [] := va_S.rf
  have hl := lv_entry ([.ref a0, .int a1]) (n := 2) (Nat.le_of_ble_eq_true rfl)
  rw [lg_entry_eq]
  generalize (lg_sl ([.ref a0, .int a1]) ++ List.replicate (2 - (lg_sl ([.ref a0, .int a1])).length) Slot.unset).toArray = ls at hl ⊢
  have hl : lv_has ls 2 [(0, .ref a0), (1, .int a1)] := hl
  unfold f_X4_die at h
  refine lv_aload_n C.1 C.2.1 dX4_die_0 rfl (lv_at hl 0 rfl) ?_
  refine r_gN C hT hH (t := 4) (k := 3) (T := TX4) rfl w4 (by decide) (by decide) rfl k16 dX4_die_1 h (fun b1 h => ?_)
  refine lv_iload_n C.1 C.2.1 dX4_die_4 rfl (lv_at hl 1 rfl) ?_
  refine r_lI C hT hH dX4_die_5 h (fun v2 h => ?_)
  refine lv_if_lt (tgt := 38) C.1 C.2.1 dX4_die_6 (by decide) (fun hc => ?_) (fun hc => ?_)
  · have h := ifc_t hc h
    exact r_vret C hT hH hS hr hlocks (by decide) (by decide) dX4_die_38 h
  · have h := ifc_f hc h
    refine lv_aload_n C.1 C.2.1 dX4_die_9 rfl (lv_at hl 0 rfl) ?_
    refine r_gN C hT hH (t := 4) (k := 15) (T := TX4) rfl w4 (by decide) (by decide) rfl k47 dX4_die_10 h (fun b3 h => ?_)
    refine lv_bipush (v := 100) C.1 C.2.1 dX4_die_13 (by decide) ?_
    refine lv_aload_n C.1 C.2.1 dX4_die_15 rfl (lv_at hl 0 rfl) ?_
    refine r_gN C hT hH (t := 4) (k := 3) (T := TX4) rfl w4 (by decide) (by decide) rfl k16 dX4_die_16 h (fun b4 h => ?_)
    refine lv_iload_n C.1 C.2.1 dX4_die_19 rfl (lv_at hl 1 rfl) ?_
    refine r_lI C hT hH dX4_die_20 h (fun v5 h => ?_)
    refine lv_imul C.1 C.2.1 dX4_die_21 ?_
    refine lv_aload_n C.1 C.2.1 dX4_die_22 rfl (lv_at hl 0 rfl) ?_
    refine r_gN C hT hH (t := 4) (k := 4) (T := TX4) rfl w4 (by decide) (by decide) rfl k19 dX4_die_23 h (fun b6 h => ?_)
    refine lv_iload_n C.1 C.2.1 dX4_die_26 rfl (lv_at hl 1 rfl) ?_
    refine r_lI C hT hH dX4_die_27 h (fun v7 h => ?_)
    refine lv_iadd C.1 C.2.1 dX4_die_28 ?_
    refine lv_iconst (v := 0) C.1 C.2.1 dX4_die_29 (by decide) ?_
    refine r_sZ C hT hH hS dX4_die_30 h (fun mm H locs hH hS h => ?_)
    refine lv_aload_n C.1 C.2.1 dX4_die_31 rfl (lv_at hl 0 rfl) ?_
    refine r_gN C hT hH (t := 4) (k := 3) (T := TX4) rfl w4 (by decide) (by decide) rfl k16 dX4_die_32 h (fun b8 h => ?_)
    refine lv_iload_n C.1 C.2.1 dX4_die_35 rfl (lv_at hl 1 rfl) ?_
    refine lv_iconst (v := (-1)) C.1 C.2.1 dX4_die_36 (by decide) ?_
    refine r_sI C hT hH hS dX4_die_37 h (fun mm H locs hH hS h => ?_)
    exact r_vret C hT hH hS hr hlocks (by decide) (by decide) dX4_die_38 h
abbrev rm_X4_put : Room := { frames := 1, cells := 0, slots := 0, locals := 23 }
set_option maxHeartbeats 4000000 in
set_option maxRecDepth 100000 in
theorem c_X4_put (l : Launch) (D : va_G) (cA : Nat → ClassId) (base : Nat) (a0 : Nat) (a1 : Int32) (a2 : Int32) (mm : Mem) (z : (Int32) × Mem) (h : f_X4_put a0 a1 a2 mm = some z) : Met l yX4_put wsX4_put rm_X4_put (va_Pc [.ref a0, .int a1, .int a2] (mU D cA base mm)) (mQ eI D cA base z) 0 0 (mA base) := by
  refine Met.ofW (cc := cX4_put) (maxL := 3) (ret := (some .int)) (by decide) rfl ?_
  intro p e s m args below meth c s₁ B hml hv
  obtain ⟨rfl, hH, hT⟩ := hv
  have C : CallFix p m c cX4_put 3 s ([.ref a0, .int a1, .int a2]).toArray wsX4_put RX4 := ⟨B.exec, B.bytes, hml, findClass_of_methodNamed B.named, atoms_spec (ws := wsX4_put) B.pre⟩
  have hr := B.returns
  have hlocks := B.notSynchronized
  have w4 : ∀ w ∈ u_ws RX4 TX4 34, w ∈ wsX4_put := by decide +kernel
  have k7 : Cond.fieldLink RX4 7 "SegmentMergesModel" "value" "[I" ∈ wsX4_put := by decide +kernel
  have k13 : Cond.fieldLink RX4 13 "SegmentMergesModel" "turn" "[I" ∈ wsX4_put := by decide +kernel
  have k22 : Cond.fieldLink RX4 22 "SegmentMergesModel" "memory" "[I" ∈ wsX4_put := by decide +kernel
  have k84 : Cond.fieldLink RX4 84 "SegmentMergesModel" "thrown" "I" ∈ wsX4_put := by decide +kernel
  have k87 : Cond.fieldLink RX4 87 "SegmentMergesModel" "remembered" "I" ∈ wsX4_put := by decide +kernel
  have hS : va_S (mA base) s.heap s.heap [] := va_S.rf
  have hl := lv_entry ([.ref a0, .int a1, .int a2]) (n := 3) (Nat.le_of_ble_eq_true rfl)
  rw [lg_entry_eq]
  generalize (lg_sl ([.ref a0, .int a1, .int a2]) ++ List.replicate (3 - (lg_sl ([.ref a0, .int a1, .int a2])).length) Slot.unset).toArray = ls at hl ⊢
  have hl : lv_has ls 3 [(0, .ref a0), (1, .int a1), (2, .int a2)] := hl
  unfold f_X4_put at h
  refine lv_aload_n C.1 C.2.1 dX4_put_0 rfl (lv_at hl 0 rfl) ?_
  refine lv_iconst (v := 0) C.1 C.2.1 dX4_put_1 (by decide) ?_
  refine r_pI C hT hH hS (t := 4) (k := 0) (T := TX4) rfl w4 tyX4_ok nmX4 (by decide) (by decide) rfl rfl k84 (Or.inl rfl) dX4_put_2 h (fun mm H locs hH hS h => ?_)
  refine lv_iload_n C.1 C.2.1 dX4_put_5 rfl (lv_at hl 1 rfl) ?_
  refine lv_iconst (v := 0) C.1 C.2.1 dX4_put_6 (by decide) ?_
  refine lv_bipush (v := 99) C.1 C.2.1 dX4_put_7 (by decide) ?_
  refine r_callSI C hT hH hS (As := [.int a1, .int 0, .int 99]) (fun z1 hz => c_X4_in l D cA base a1 0 99 _ z1 hz) (va_cwS 3 C.2.2.2.2 gX4_put_X4_in rfl rfl rfl (by decide +kernel) ⟨Nat.le_of_ble_eq_true rfl, Nat.le_of_ble_eq_true rfl⟩) rfl hl.1 rfl (Nat.le_of_ble_eq_true rfl) dX4_put_9 ⟨by decide, by decide⟩ h (fun v1 mm H locs hH hS h => ?_)
  refine lv_if_ne (tgt := 17) C.1 C.2.1 dX4_put_12 (by decide) (fun hc => ?_) (fun hc => ?_)
  · have h := ifc_f hc h
    refine lv_iload_n C.1 C.2.1 dX4_put_17 rfl (lv_at hl 2 rfl) ?_
    refine lv_iconst (v := 0) C.1 C.2.1 dX4_put_18 (by decide) ?_
    refine lv_sipush (v := 999) C.1 C.2.1 dX4_put_19 (by decide) ?_
    refine r_callSI C hT hH hS (As := [.int a2, .int 0, .int 999]) (fun z1 hz => c_X4_in l D cA base a2 0 999 _ z1 hz) (va_cwS 3 C.2.2.2.2 gX4_put_X4_in rfl rfl rfl (by decide +kernel) ⟨Nat.le_of_ble_eq_true rfl, Nat.le_of_ble_eq_true rfl⟩) rfl hl.1 rfl (Nat.le_of_ble_eq_true rfl) dX4_put_22 ⟨by decide, by decide⟩ h (fun v2 mm H locs hH hS h => ?_)
    refine lv_if_ne (tgt := 31) C.1 C.2.1 dX4_put_25 (by decide) (fun hc => ?_) (fun hc => ?_)
    · have h := ifc_f hc h
      refine lv_aload_n C.1 C.2.1 dX4_put_31 rfl (lv_at hl 0 rfl) ?_
      refine lv_iload_n C.1 C.2.1 dX4_put_32 rfl (lv_at hl 1 rfl) ?_
      refine r_callVI C hT hH hS (t := 4) (As := [.int a1]) (fun z1 hz => c_X4_memoryAt l D cA base a0 a1 _ z1 hz) (cwV 1 C.2.2.2.2 gX4_put_X4_memoryAt rfl rfl rfl (by decide +kernel) ⟨Nat.le_of_ble_eq_true rfl, Nat.le_of_ble_eq_true rfl⟩) rfl (by decide) rfl hl.1 rfl (Nat.le_of_ble_eq_true rfl) dX4_put_33 ⟨by decide, by decide⟩ h (fun v3 mm H locs hH hS h => ?_)
      refine lv_if_ge (tgt := 71) C.1 C.2.1 dX4_put_36 (by decide) (fun hc => ?_) (fun hc => ?_)
      · have h := ifc_t hc h
        refine lv_aload_n C.1 C.2.1 dX4_put_71 rfl (lv_at hl 0 rfl) ?_
        refine lv_iload_n C.1 C.2.1 dX4_put_72 rfl (lv_at hl 1 rfl) ?_
        refine r_callVV C hT hH hS (t := 4) (As := [.int a1]) (fun z1 hz => c_X4_die l D cA base a0 a1 _ z1 hz) (cwV 1 C.2.2.2.2 gX4_put_X4_die rfl rfl rfl (by decide +kernel) ⟨Nat.le_of_ble_eq_true rfl, Nat.le_of_ble_eq_true rfl⟩) rfl (by decide) rfl hl.1 rfl (Nat.le_of_ble_eq_true rfl) dX4_put_73 ⟨by decide, by decide⟩ h (fun _ mm H locs hH hS h => ?_)
        refine lv_aload_n C.1 C.2.1 dX4_put_76 rfl (lv_at hl 0 rfl) ?_
        refine r_gN C hT hH (t := 4) (k := 1) (T := TX4) rfl w4 (by decide) (by decide) rfl k7 dX4_put_77 h (fun b4 h => ?_)
        refine lv_iload_n C.1 C.2.1 dX4_put_80 rfl (lv_at hl 1 rfl) ?_
        refine lv_iload_n C.1 C.2.1 dX4_put_81 rfl (lv_at hl 2 rfl) ?_
        refine r_sI C hT hH hS dX4_put_82 h (fun mm H locs hH hS h => ?_)
        refine lv_aload_n C.1 C.2.1 dX4_put_83 rfl (lv_at hl 0 rfl) ?_
        refine r_gN C hT hH (t := 4) (k := 2) (T := TX4) rfl w4 (by decide) (by decide) rfl k13 dX4_put_84 h (fun b5 h => ?_)
        refine lv_iload_n C.1 C.2.1 dX4_put_87 rfl (lv_at hl 1 rfl) ?_
        refine lv_dup2_11 C.1 C.2.1 dX4_put_88 rfl rfl ?_
        refine r_lI C hT hH dX4_put_89 h (fun v6 h => ?_)
        refine lv_iconst (v := 1) C.1 C.2.1 dX4_put_90 (by decide) ?_
        refine lv_iadd C.1 C.2.1 dX4_put_91 ?_
        refine r_sI C hT hH hS dX4_put_92 h (fun mm H locs hH hS h => ?_)
        refine lv_aload_n C.1 C.2.1 dX4_put_93 rfl (lv_at hl 0 rfl) ?_
        refine r_gI C hT hH (t := 4) (k := 5) (T := TX4) rfl w4 (by decide) (by decide) rfl k87 dX4_put_94 h (fun v7 h => ?_)
        exact r_iret C hT hH hS hr hlocks (by decide) (by decide) dX4_put_97 h
      · have h := ifc_f hc h
        refine lv_aload_n C.1 C.2.1 dX4_put_39 rfl (lv_at hl 0 rfl) ?_
        refine r_gI C hT hH (t := 4) (k := 5) (T := TX4) rfl w4 (by decide) (by decide) rfl k87 dX4_put_40 h (fun v8 h => ?_)
        refine lv_bipush (v := 6) C.1 C.2.1 dX4_put_43 (by decide) ?_
        refine lv_icmp_ne (tgt := 51) C.1 C.2.1 dX4_put_45 (by decide) (fun hc => ?_) (fun hc => ?_)
        · have h := ifc_f hc h
          refine lv_aload_n C.1 C.2.1 dX4_put_51 rfl (lv_at hl 0 rfl) ?_
          refine r_gN C hT hH (t := 4) (k := 6) (T := TX4) rfl w4 (by decide) (by decide) rfl k22 dX4_put_52 h (fun b9 h => ?_)
          refine lv_aload_n C.1 C.2.1 dX4_put_55 rfl (lv_at hl 0 rfl) ?_
          refine r_gI C hT hH (t := 4) (k := 5) (T := TX4) rfl w4 (by decide) (by decide) rfl k87 dX4_put_56 h (fun v10 h => ?_)
          refine lv_iload_n C.1 C.2.1 dX4_put_59 rfl (lv_at hl 1 rfl) ?_
          refine r_sI C hT hH hS dX4_put_60 h (fun mm H locs hH hS h => ?_)
          refine lv_aload_n C.1 C.2.1 dX4_put_61 rfl (lv_at hl 0 rfl) ?_
          refine lv_dup C.1 C.2.1 dX4_put_62 rfl ?_
          refine r_gI C hT hH (t := 4) (k := 5) (T := TX4) rfl w4 (by decide) (by decide) rfl k87 dX4_put_63 h (fun v11 h => ?_)
          refine lv_iconst (v := 1) C.1 C.2.1 dX4_put_66 (by decide) ?_
          refine lv_iadd C.1 C.2.1 dX4_put_67 ?_
          refine r_pI C hT hH hS (t := 4) (k := 5) (T := TX4) rfl w4 tyX4_ok nmX4 (by decide) (by decide) rfl rfl k87 (Or.inl rfl) dX4_put_68 h (fun mm H locs hH hS h => ?_)
          refine lv_aload_n C.1 C.2.1 dX4_put_71 rfl (lv_at hl 0 rfl) ?_
          refine lv_iload_n C.1 C.2.1 dX4_put_72 rfl (lv_at hl 1 rfl) ?_
          refine r_callVV C hT hH hS (t := 4) (As := [.int a1]) (fun z1 hz => c_X4_die l D cA base a0 a1 _ z1 hz) (cwV 1 C.2.2.2.2 gX4_put_X4_die rfl rfl rfl (by decide +kernel) ⟨Nat.le_of_ble_eq_true rfl, Nat.le_of_ble_eq_true rfl⟩) rfl (by decide) rfl hl.1 rfl (Nat.le_of_ble_eq_true rfl) dX4_put_73 ⟨by decide, by decide⟩ h (fun _ mm H locs hH hS h => ?_)
          refine lv_aload_n C.1 C.2.1 dX4_put_76 rfl (lv_at hl 0 rfl) ?_
          refine r_gN C hT hH (t := 4) (k := 1) (T := TX4) rfl w4 (by decide) (by decide) rfl k7 dX4_put_77 h (fun b12 h => ?_)
          refine lv_iload_n C.1 C.2.1 dX4_put_80 rfl (lv_at hl 1 rfl) ?_
          refine lv_iload_n C.1 C.2.1 dX4_put_81 rfl (lv_at hl 2 rfl) ?_
          refine r_sI C hT hH hS dX4_put_82 h (fun mm H locs hH hS h => ?_)
          refine lv_aload_n C.1 C.2.1 dX4_put_83 rfl (lv_at hl 0 rfl) ?_
          refine r_gN C hT hH (t := 4) (k := 2) (T := TX4) rfl w4 (by decide) (by decide) rfl k13 dX4_put_84 h (fun b13 h => ?_)
          refine lv_iload_n C.1 C.2.1 dX4_put_87 rfl (lv_at hl 1 rfl) ?_
          refine lv_dup2_11 C.1 C.2.1 dX4_put_88 rfl rfl ?_
          refine r_lI C hT hH dX4_put_89 h (fun v14 h => ?_)
          refine lv_iconst (v := 1) C.1 C.2.1 dX4_put_90 (by decide) ?_
          refine lv_iadd C.1 C.2.1 dX4_put_91 ?_
          refine r_sI C hT hH hS dX4_put_92 h (fun mm H locs hH hS h => ?_)
          refine lv_aload_n C.1 C.2.1 dX4_put_93 rfl (lv_at hl 0 rfl) ?_
          refine r_gI C hT hH (t := 4) (k := 5) (T := TX4) rfl w4 (by decide) (by decide) rfl k87 dX4_put_94 h (fun v15 h => ?_)
          exact r_iret C hT hH hS hr hlocks (by decide) (by decide) dX4_put_97 h
        · have h := ifc_t hc h
          refine lv_bipush (v := (-4)) C.1 C.2.1 dX4_put_48 (by decide) ?_
          exact r_iret C hT hH hS hr hlocks (by decide) (by decide) dX4_put_50 h
    · have h := ifc_t hc h
      refine lv_bipush (v := (-2)) C.1 C.2.1 dX4_put_28 (by decide) ?_
      exact r_iret C hT hH hS hr hlocks (by decide) (by decide) dX4_put_30 h
  · have h := ifc_t hc h
    refine lv_iconst (v := (-1)) C.1 C.2.1 dX4_put_15 (by decide) ?_
    exact r_iret C hT hH hS hr hlocks (by decide) (by decide) dX4_put_16 h
abbrev rm_X4_drop : Room := { frames := 1, cells := 0, slots := 0, locals := 23 }
set_option maxHeartbeats 4000000 in
set_option maxRecDepth 100000 in
theorem c_X4_drop (l : Launch) (D : va_G) (cA : Nat → ClassId) (base : Nat) (a0 : Nat) (a1 : Int32) (mm : Mem) (z : (Int32) × Mem) (h : f_X4_drop a0 a1 mm = some z) : Met l yX4_drop wsX4_drop rm_X4_drop (va_Pc [.ref a0, .int a1] (mU D cA base mm)) (mQ eI D cA base z) 0 0 (mA base) := by
  refine Met.ofW (cc := cX4_drop) (maxL := 4) (ret := (some .int)) (by decide) rfl ?_
  intro p e s m args below meth c s₁ B hml hv
  obtain ⟨rfl, hH, hT⟩ := hv
  have C : CallFix p m c cX4_drop 4 s ([.ref a0, .int a1]).toArray wsX4_drop RX4 := ⟨B.exec, B.bytes, hml, findClass_of_methodNamed B.named, atoms_spec (ws := wsX4_drop) B.pre⟩
  have hr := B.returns
  have hlocks := B.notSynchronized
  have w4 : ∀ w ∈ u_ws RX4 TX4 34, w ∈ wsX4_drop := by decide +kernel
  have k7 : Cond.fieldLink RX4 7 "SegmentMergesModel" "value" "[I" ∈ wsX4_drop := by decide +kernel
  have k13 : Cond.fieldLink RX4 13 "SegmentMergesModel" "turn" "[I" ∈ wsX4_drop := by decide +kernel
  have k22 : Cond.fieldLink RX4 22 "SegmentMergesModel" "memory" "[I" ∈ wsX4_drop := by decide +kernel
  have k84 : Cond.fieldLink RX4 84 "SegmentMergesModel" "thrown" "I" ∈ wsX4_drop := by decide +kernel
  have k87 : Cond.fieldLink RX4 87 "SegmentMergesModel" "remembered" "I" ∈ wsX4_drop := by decide +kernel
  have L50 : ∀ (n : Nat) (x0 : Nat) (x1 : Int32) (x2 : Int32) (x3 : Int32) (mm : Mem) (H : Heap) (locs : List Loc) (ls : Array Slot) (zz : (Int32) × Mem), mH D cA base mm H → va_S (mA base) s.heap H locs → lv_has ls 4 [(0, .ref x0), (1, .int x1), (2, .int x2), (3, .int x3)] → f_X4_drop_L50 n x0 x1 x2 x3 mm = some zz → (∀ (H : Heap) (locs : List Loc) (ls : Array Slot), mH D cA base zz.2 H → va_S (mA base) s.heap H locs → lv_has ls 4 [(0, .ref x0), (1, .int x1), (2, .int x2), (3, .int zz.1)] → W p l e rm_X4_drop s m [.ref a0, .int a1].toArray below meth c H locs 0 0 (MQ below (mQ eI D cA base z) [.ref a0, .int a1].toArray s 0 0 (mA base)) (F0 m 78 ls [])) → W p l e rm_X4_drop s m [.ref a0, .int a1].toArray below meth c H locs 0 0 (MQ below (mQ eI D cA base z) [.ref a0, .int a1].toArray s 0 0 (mA base)) (F0 m 50 ls []) := by
    intro n
    induction n with
    | zero =>
      intro x0 x1 x2 x3 mm H locs ls zz hH hS hl h kk
      exact (fl_inv h).elim
    | succ n ih =>
      intro x0 x1 x2 x3 mm H locs ls zz hH hS hl h kk
      unfold f_X4_drop_L50 at h
      refine lv_iload_n C.1 C.2.1 dX4_drop_50 rfl (lv_at hl 3 rfl) ?_
      refine lv_aload_n C.1 C.2.1 dX4_drop_51 rfl (lv_at hl 0 rfl) ?_
      refine r_gI C hT hH (t := 4) (k := 5) (T := TX4) rfl w4 (by decide) (by decide) rfl k87 dX4_drop_52 h (fun v9 h => ?_)
      refine lv_icmp_ge (tgt := 78) C.1 C.2.1 dX4_drop_55 (by decide) (fun hc => ?_) (fun hc => ?_)
      · have h := ifc_t hc h
        obtain rfl := rt_inv h
        exact kk _ _ _ hH hS (lv_sub hl [0, 1, 2, 3] rfl)
      · have h := ifc_f hc h
        refine lv_aload_n C.1 C.2.1 dX4_drop_58 rfl (lv_at hl 0 rfl) ?_
        refine r_gN C hT hH (t := 4) (k := 6) (T := TX4) rfl w4 (by decide) (by decide) rfl k22 dX4_drop_59 h (fun b10 h => ?_)
        refine lv_iload_n C.1 C.2.1 dX4_drop_62 rfl (lv_at hl 3 rfl) ?_
        refine lv_aload_n C.1 C.2.1 dX4_drop_63 rfl (lv_at hl 0 rfl) ?_
        refine r_gN C hT hH (t := 4) (k := 6) (T := TX4) rfl w4 (by decide) (by decide) rfl k22 dX4_drop_64 h (fun b11 h => ?_)
        refine lv_iload_n C.1 C.2.1 dX4_drop_67 rfl (lv_at hl 3 rfl) ?_
        refine lv_iconst (v := 1) C.1 C.2.1 dX4_drop_68 (by decide) ?_
        refine lv_iadd C.1 C.2.1 dX4_drop_69 ?_
        refine r_lI C hT hH dX4_drop_70 h (fun v12 h => ?_)
        refine r_sI C hT hH hS dX4_drop_71 h (fun mm H locs hH hS h => ?_)
        refine lv_iinc (v := (x3 + 1)) (lv' := [(3, .int (x3 + 1)), (0, .ref x0), (1, .int x1), (2, .int x2)]) C.1 C.2.1 dX4_drop_72 hl (k := 3) rfl rfl (by decide) rfl (fun ls hl => ?_)
        refine lv_goto (tgt := 50) C.1 C.2.1 dX4_drop_75 (by decide) ?_
        exact ih x0 x1 x2 (x3 + 1) _ _ _ _ _ hH hS (lv_sub hl [1, 2, 3, 0] rfl) h kk
  have hS : va_S (mA base) s.heap s.heap [] := va_S.rf
  have hl := lv_entry ([.ref a0, .int a1]) (n := 4) (Nat.le_of_ble_eq_true rfl)
  rw [lg_entry_eq]
  generalize (lg_sl ([.ref a0, .int a1]) ++ List.replicate (4 - (lg_sl ([.ref a0, .int a1])).length) Slot.unset).toArray = ls at hl ⊢
  have hl : lv_has ls 4 [(0, .ref a0), (1, .int a1)] := hl
  unfold f_X4_drop at h
  refine lv_aload_n C.1 C.2.1 dX4_drop_0 rfl (lv_at hl 0 rfl) ?_
  refine lv_iconst (v := 0) C.1 C.2.1 dX4_drop_1 (by decide) ?_
  refine r_pI C hT hH hS (t := 4) (k := 0) (T := TX4) rfl w4 tyX4_ok nmX4 (by decide) (by decide) rfl rfl k84 (Or.inl rfl) dX4_drop_2 h (fun mm H locs hH hS h => ?_)
  refine lv_iload_n C.1 C.2.1 dX4_drop_5 rfl (lv_at hl 1 rfl) ?_
  refine lv_iconst (v := 0) C.1 C.2.1 dX4_drop_6 (by decide) ?_
  refine lv_bipush (v := 99) C.1 C.2.1 dX4_drop_7 (by decide) ?_
  refine r_callSI C hT hH hS (As := [.int a1, .int 0, .int 99]) (fun z1 hz => c_X4_in l D cA base a1 0 99 _ z1 hz) (va_cwS 3 C.2.2.2.2 gX4_drop_X4_in rfl rfl rfl (by decide +kernel) ⟨Nat.le_of_ble_eq_true rfl, Nat.le_of_ble_eq_true rfl⟩) rfl hl.1 rfl (Nat.le_of_ble_eq_true rfl) dX4_drop_9 ⟨by decide, by decide⟩ h (fun v1 mm H locs hH hS h => ?_)
  refine lv_if_ne (tgt := 17) C.1 C.2.1 dX4_drop_12 (by decide) (fun hc => ?_) (fun hc => ?_)
  · have h := ifc_f hc h
    refine lv_aload_n C.1 C.2.1 dX4_drop_17 rfl (lv_at hl 0 rfl) ?_
    refine r_gN C hT hH (t := 4) (k := 1) (T := TX4) rfl w4 (by decide) (by decide) rfl k7 dX4_drop_18 h (fun b2 h => ?_)
    refine lv_iload_n C.1 C.2.1 dX4_drop_21 rfl (lv_at hl 1 rfl) ?_
    refine r_lI C hT hH dX4_drop_22 h (fun v3 h => ?_)
    refine lv_if_ge (tgt := 28) C.1 C.2.1 dX4_drop_23 (by decide) (fun hc => ?_) (fun hc => ?_)
    · have h := ifc_t hc h
      refine lv_aload_n C.1 C.2.1 dX4_drop_28 rfl (lv_at hl 0 rfl) ?_
      refine lv_iload_n C.1 C.2.1 dX4_drop_29 rfl (lv_at hl 1 rfl) ?_
      refine r_callVI C hT hH hS (t := 4) (As := [.int a1]) (fun z1 hz => c_X4_memoryAt l D cA base a0 a1 _ z1 hz) (cwV 1 C.2.2.2.2 gX4_drop_X4_memoryAt rfl rfl rfl (by decide +kernel) ⟨Nat.le_of_ble_eq_true rfl, Nat.le_of_ble_eq_true rfl⟩) rfl (by decide) rfl hl.1 rfl (Nat.le_of_ble_eq_true rfl) dX4_drop_30 ⟨by decide, by decide⟩ h (fun v4 mm H locs hH hS h => ?_)
      refine lv_istore_n (lv' := [(2, .int v4), (0, .ref a0), (1, .int a1)]) C.1 C.2.1 dX4_drop_33 rfl hl (by decide) rfl (fun ls hl => ?_)
      refine lv_iload_n C.1 C.2.1 dX4_drop_34 rfl (lv_at hl 0 rfl) ?_
      refine lv_if_lt (tgt := 78) C.1 C.2.1 dX4_drop_35 (by decide) (fun hc => ?_) (fun hc => ?_)
      · have h := ifc_t hc h
        refine lv_aload_n C.1 C.2.1 dX4_drop_78 rfl (lv_at hl 1 rfl) ?_
        refine lv_iload_n C.1 C.2.1 dX4_drop_79 rfl (lv_at hl 2 rfl) ?_
        refine r_callVV C hT hH hS (t := 4) (As := [.int a1]) (fun z1 hz => c_X4_die l D cA base a0 a1 _ z1 hz) (cwV 1 C.2.2.2.2 gX4_drop_X4_die rfl rfl rfl (by decide +kernel) ⟨Nat.le_of_ble_eq_true rfl, Nat.le_of_ble_eq_true rfl⟩) rfl (by decide) rfl hl.1 rfl (Nat.le_of_ble_eq_true rfl) dX4_drop_80 ⟨by decide, by decide⟩ h (fun _ mm H locs hH hS h => ?_)
        refine lv_aload_n C.1 C.2.1 dX4_drop_83 rfl (lv_at hl 1 rfl) ?_
        refine r_gN C hT hH (t := 4) (k := 1) (T := TX4) rfl w4 (by decide) (by decide) rfl k7 dX4_drop_84 h (fun b5 h => ?_)
        refine lv_iload_n C.1 C.2.1 dX4_drop_87 rfl (lv_at hl 2 rfl) ?_
        refine lv_iconst (v := (-1)) C.1 C.2.1 dX4_drop_88 (by decide) ?_
        refine r_sI C hT hH hS dX4_drop_89 h (fun mm H locs hH hS h => ?_)
        refine lv_aload_n C.1 C.2.1 dX4_drop_90 rfl (lv_at hl 1 rfl) ?_
        refine r_gN C hT hH (t := 4) (k := 2) (T := TX4) rfl w4 (by decide) (by decide) rfl k13 dX4_drop_91 h (fun b6 h => ?_)
        refine lv_iload_n C.1 C.2.1 dX4_drop_94 rfl (lv_at hl 2 rfl) ?_
        refine lv_dup2_11 C.1 C.2.1 dX4_drop_95 rfl rfl ?_
        refine r_lI C hT hH dX4_drop_96 h (fun v7 h => ?_)
        refine lv_iconst (v := 1) C.1 C.2.1 dX4_drop_97 (by decide) ?_
        refine lv_iadd C.1 C.2.1 dX4_drop_98 ?_
        refine r_sI C hT hH hS dX4_drop_99 h (fun mm H locs hH hS h => ?_)
        refine lv_iconst (v := 1) C.1 C.2.1 dX4_drop_100 (by decide) ?_
        exact r_iret C hT hH hS hr hlocks (by decide) (by decide) dX4_drop_101 h
      · have h := ifc_f hc h
        refine lv_aload_n C.1 C.2.1 dX4_drop_38 rfl (lv_at hl 1 rfl) ?_
        refine lv_dup C.1 C.2.1 dX4_drop_39 rfl ?_
        refine r_gI C hT hH (t := 4) (k := 5) (T := TX4) rfl w4 (by decide) (by decide) rfl k87 dX4_drop_40 h (fun v8 h => ?_)
        refine lv_iconst (v := 1) C.1 C.2.1 dX4_drop_43 (by decide) ?_
        refine lv_isub C.1 C.2.1 dX4_drop_44 ?_
        refine r_pI C hT hH hS (t := 4) (k := 5) (T := TX4) rfl w4 tyX4_ok nmX4 (by decide) (by decide) rfl rfl k87 (Or.inl rfl) dX4_drop_45 h (fun mm H locs hH hS h => ?_)
        refine lv_iload_n C.1 C.2.1 dX4_drop_48 rfl (lv_at hl 0 rfl) ?_
        refine lv_istore_n (lv' := [(3, .int v4), (2, .int v4), (0, .ref a0), (1, .int a1)]) C.1 C.2.1 dX4_drop_49 rfl hl (by decide) rfl (fun ls hl => ?_)
        obtain ⟨x13, mx13, hq, h⟩ := bnd_inv h
        refine L50 2100 a0 a1 v4 v4 _ _ _ _ (x13, mx13) hH hS (lv_sub hl [2, 3, 1, 0] rfl) hq (fun H locs ls hH hS hl => ?_)
        refine lv_aload_n C.1 C.2.1 dX4_drop_78 rfl (lv_at hl 0 rfl) ?_
        refine lv_iload_n C.1 C.2.1 dX4_drop_79 rfl (lv_at hl 1 rfl) ?_
        refine r_callVV C hT hH hS (t := 4) (As := [.int a1]) (fun z1 hz => c_X4_die l D cA base a0 a1 _ z1 hz) (cwV 1 C.2.2.2.2 gX4_drop_X4_die rfl rfl rfl (by decide +kernel) ⟨Nat.le_of_ble_eq_true rfl, Nat.le_of_ble_eq_true rfl⟩) rfl (by decide) rfl hl.1 rfl (Nat.le_of_ble_eq_true rfl) dX4_drop_80 ⟨by decide, by decide⟩ h (fun _ mm H locs hH hS h => ?_)
        refine lv_aload_n C.1 C.2.1 dX4_drop_83 rfl (lv_at hl 0 rfl) ?_
        refine r_gN C hT hH (t := 4) (k := 1) (T := TX4) rfl w4 (by decide) (by decide) rfl k7 dX4_drop_84 h (fun b14 h => ?_)
        refine lv_iload_n C.1 C.2.1 dX4_drop_87 rfl (lv_at hl 1 rfl) ?_
        refine lv_iconst (v := (-1)) C.1 C.2.1 dX4_drop_88 (by decide) ?_
        refine r_sI C hT hH hS dX4_drop_89 h (fun mm H locs hH hS h => ?_)
        refine lv_aload_n C.1 C.2.1 dX4_drop_90 rfl (lv_at hl 0 rfl) ?_
        refine r_gN C hT hH (t := 4) (k := 2) (T := TX4) rfl w4 (by decide) (by decide) rfl k13 dX4_drop_91 h (fun b15 h => ?_)
        refine lv_iload_n C.1 C.2.1 dX4_drop_94 rfl (lv_at hl 1 rfl) ?_
        refine lv_dup2_11 C.1 C.2.1 dX4_drop_95 rfl rfl ?_
        refine r_lI C hT hH dX4_drop_96 h (fun v16 h => ?_)
        refine lv_iconst (v := 1) C.1 C.2.1 dX4_drop_97 (by decide) ?_
        refine lv_iadd C.1 C.2.1 dX4_drop_98 ?_
        refine r_sI C hT hH hS dX4_drop_99 h (fun mm H locs hH hS h => ?_)
        refine lv_iconst (v := 1) C.1 C.2.1 dX4_drop_100 (by decide) ?_
        exact r_iret C hT hH hS hr hlocks (by decide) (by decide) dX4_drop_101 h
    · have h := ifc_f hc h
      refine lv_iconst (v := 0) C.1 C.2.1 dX4_drop_26 (by decide) ?_
      exact r_iret C hT hH hS hr hlocks (by decide) (by decide) dX4_drop_27 h
  · have h := ifc_t hc h
    refine lv_iconst (v := (-1)) C.1 C.2.1 dX4_drop_15 (by decide) ?_
    exact r_iret C hT hH hS hr hlocks (by decide) (by decide) dX4_drop_16 h
abbrev rm_X4_get : Room := { frames := 1, cells := 0, slots := 0, locals := 22 }
set_option maxHeartbeats 4000000 in
set_option maxRecDepth 100000 in
theorem c_X4_get (l : Launch) (D : va_G) (cA : Nat → ClassId) (base : Nat) (a0 : Nat) (a1 : Int32) (mm : Mem) (z : (Int32) × Mem) (h : f_X4_get a0 a1 mm = some z) : Met l yX4_get wsX4_get rm_X4_get (va_Pc [.ref a0, .int a1] (mU D cA base mm)) (mQ eI D cA base z) 0 0 (mA base) := by
  refine Met.ofW (cc := cX4_get) (maxL := 2) (ret := (some .int)) (by decide) rfl ?_
  intro p e s m args below meth c s₁ B hml hv
  obtain ⟨rfl, hH, hT⟩ := hv
  have C : CallFix p m c cX4_get 2 s ([.ref a0, .int a1]).toArray wsX4_get RX4 := ⟨B.exec, B.bytes, hml, findClass_of_methodNamed B.named, atoms_spec (ws := wsX4_get) B.pre⟩
  have hr := B.returns
  have hlocks := B.notSynchronized
  have w4 : ∀ w ∈ u_ws RX4 TX4 34, w ∈ wsX4_get := by decide +kernel
  have k7 : Cond.fieldLink RX4 7 "SegmentMergesModel" "value" "[I" ∈ wsX4_get := by decide +kernel
  have k84 : Cond.fieldLink RX4 84 "SegmentMergesModel" "thrown" "I" ∈ wsX4_get := by decide +kernel
  have hS : va_S (mA base) s.heap s.heap [] := va_S.rf
  have hl := lv_entry ([.ref a0, .int a1]) (n := 2) (Nat.le_of_ble_eq_true rfl)
  rw [lg_entry_eq]
  generalize (lg_sl ([.ref a0, .int a1]) ++ List.replicate (2 - (lg_sl ([.ref a0, .int a1])).length) Slot.unset).toArray = ls at hl ⊢
  have hl : lv_has ls 2 [(0, .ref a0), (1, .int a1)] := hl
  unfold f_X4_get at h
  refine lv_aload_n C.1 C.2.1 dX4_get_0 rfl (lv_at hl 0 rfl) ?_
  refine lv_iconst (v := 0) C.1 C.2.1 dX4_get_1 (by decide) ?_
  refine r_pI C hT hH hS (t := 4) (k := 0) (T := TX4) rfl w4 tyX4_ok nmX4 (by decide) (by decide) rfl rfl k84 (Or.inl rfl) dX4_get_2 h (fun mm H locs hH hS h => ?_)
  refine lv_iload_n C.1 C.2.1 dX4_get_5 rfl (lv_at hl 1 rfl) ?_
  refine lv_iconst (v := 0) C.1 C.2.1 dX4_get_6 (by decide) ?_
  refine lv_bipush (v := 99) C.1 C.2.1 dX4_get_7 (by decide) ?_
  refine r_callSI C hT hH hS (As := [.int a1, .int 0, .int 99]) (fun z1 hz => c_X4_in l D cA base a1 0 99 _ z1 hz) (va_cwS 3 C.2.2.2.2 gX4_get_X4_in rfl rfl rfl (by decide +kernel) ⟨Nat.le_of_ble_eq_true rfl, Nat.le_of_ble_eq_true rfl⟩) rfl hl.1 rfl (Nat.le_of_ble_eq_true rfl) dX4_get_9 ⟨by decide, by decide⟩ h (fun v1 mm H locs hH hS h => ?_)
  refine lv_if_ne (tgt := 19) C.1 C.2.1 dX4_get_12 (by decide) (fun hc => ?_) (fun hc => ?_)
  · have h := ifc_f hc h
    refine lv_aload_n C.1 C.2.1 dX4_get_19 rfl (lv_at hl 0 rfl) ?_
    refine r_gN C hT hH (t := 4) (k := 1) (T := TX4) rfl w4 (by decide) (by decide) rfl k7 dX4_get_20 h (fun b2 h => ?_)
    refine lv_iload_n C.1 C.2.1 dX4_get_23 rfl (lv_at hl 1 rfl) ?_
    refine r_lI C hT hH dX4_get_24 h (fun v3 h => ?_)
    refine lv_if_ge (tgt := 33) C.1 C.2.1 dX4_get_25 (by decide) (fun hc => ?_) (fun hc => ?_)
    · have h := ifc_t hc h
      refine lv_aload_n C.1 C.2.1 dX4_get_33 rfl (lv_at hl 0 rfl) ?_
      refine r_gN C hT hH (t := 4) (k := 1) (T := TX4) rfl w4 (by decide) (by decide) rfl k7 dX4_get_34 h (fun b4 h => ?_)
      refine lv_iload_n C.1 C.2.1 dX4_get_37 rfl (lv_at hl 1 rfl) ?_
      refine r_lI C hT hH dX4_get_38 h (fun v5 h => ?_)
      exact r_iret C hT hH hS hr hlocks (by decide) (by decide) dX4_get_39 h
    · have h := ifc_f hc h
      refine lv_bipush (v := (-3)) C.1 C.2.1 dX4_get_28 (by decide) ?_
      refine lv_goto (tgt := 39) C.1 C.2.1 dX4_get_30 (by decide) ?_
      exact r_iret C hT hH hS hr hlocks (by decide) (by decide) dX4_get_39 h
  · have h := ifc_t hc h
    refine lv_iconst (v := (-1)) C.1 C.2.1 dX4_get_15 (by decide) ?_
    refine lv_goto (tgt := 39) C.1 C.2.1 dX4_get_16 (by decide) ?_
    exact r_iret C hT hH hS hr hlocks (by decide) (by decide) dX4_get_39 h
abbrev rm_X4_next : Room := { frames := 1, cells := 0, slots := 0, locals := 22 }
set_option maxHeartbeats 4000000 in
set_option maxRecDepth 100000 in
theorem c_X4_next (l : Launch) (D : va_G) (cA : Nat → ClassId) (base : Nat) (a0 : Nat) (a1 : Int32) (mm : Mem) (z : (Int32) × Mem) (h : f_X4_next a0 a1 mm = some z) : Met l yX4_next wsX4_next rm_X4_next (va_Pc [.ref a0, .int a1] (mU D cA base mm)) (mQ eI D cA base z) 0 0 (mA base) := by
  refine Met.ofW (cc := cX4_next) (maxL := 3) (ret := (some .int)) (by decide) rfl ?_
  intro p e s m args below meth c s₁ B hml hv
  obtain ⟨rfl, hH, hT⟩ := hv
  have C : CallFix p m c cX4_next 3 s ([.ref a0, .int a1]).toArray wsX4_next RX4 := ⟨B.exec, B.bytes, hml, findClass_of_methodNamed B.named, atoms_spec (ws := wsX4_next) B.pre⟩
  have hr := B.returns
  have hlocks := B.notSynchronized
  have w4 : ∀ w ∈ u_ws RX4 TX4 34, w ∈ wsX4_next := by decide +kernel
  have k7 : Cond.fieldLink RX4 7 "SegmentMergesModel" "value" "[I" ∈ wsX4_next := by decide +kernel
  have k84 : Cond.fieldLink RX4 84 "SegmentMergesModel" "thrown" "I" ∈ wsX4_next := by decide +kernel
  have L19 : ∀ (n : Nat) (x0 : Nat) (x1 : Int32) (x2 : Int32) (mm : Mem) (H : Heap) (locs : List Loc) (ls : Array Slot), mH D cA base mm H → va_S (mA base) s.heap H locs → lv_has ls 3 [(0, .ref x0), (1, .int x1), (2, .int x2)] → f_X4_next_L19 n x0 x1 x2 mm = some z → W p l e rm_X4_next s m [.ref a0, .int a1].toArray below meth c H locs 0 0 (MQ below (mQ eI D cA base z) [.ref a0, .int a1].toArray s 0 0 (mA base)) (F0 m 19 ls []) := by
    intro n
    induction n with
    | zero =>
      intro x0 x1 x2 mm H locs ls hH hS hl h
      exact (fl_inv h).elim
    | succ n ih =>
      intro x0 x1 x2 mm H locs ls hH hS hl h
      unfold f_X4_next_L19 at h
      refine lv_iload_n C.1 C.2.1 dX4_next_19 rfl (lv_at hl 2 rfl) ?_
      refine lv_bipush (v := 100) C.1 C.2.1 dX4_next_20 (by decide) ?_
      refine lv_icmp_ge (tgt := 42) C.1 C.2.1 dX4_next_22 (by decide) (fun hc => ?_) (fun hc => ?_)
      · have h := ifc_t hc h
        refine lv_bipush (v := (-3)) C.1 C.2.1 dX4_next_42 (by decide) ?_
        exact r_iret C hT hH hS hr hlocks (by decide) (by decide) dX4_next_44 h
      · have h := ifc_f hc h
        refine lv_aload_n C.1 C.2.1 dX4_next_25 rfl (lv_at hl 0 rfl) ?_
        refine r_gN C hT hH (t := 4) (k := 1) (T := TX4) rfl w4 (by decide) (by decide) rfl k7 dX4_next_26 h (fun b2 h => ?_)
        refine lv_iload_n C.1 C.2.1 dX4_next_29 rfl (lv_at hl 2 rfl) ?_
        refine r_lI C hT hH dX4_next_30 h (fun v3 h => ?_)
        refine lv_if_lt (tgt := 36) C.1 C.2.1 dX4_next_31 (by decide) (fun hc => ?_) (fun hc => ?_)
        · have h := ifc_t hc h
          refine lv_iinc (v := (x2 + 1)) (lv' := [(2, .int (x2 + 1)), (0, .ref x0), (1, .int x1)]) C.1 C.2.1 dX4_next_36 hl (k := 2) rfl rfl (by decide) rfl (fun ls hl => ?_)
          refine lv_goto (tgt := 19) C.1 C.2.1 dX4_next_39 (by decide) ?_
          exact ih x0 x1 (x2 + 1) _ _ _ _ hH hS (lv_sub hl [1, 2, 0] rfl) h
        · have h := ifc_f hc h
          refine lv_iload_n C.1 C.2.1 dX4_next_34 rfl (lv_at hl 2 rfl) ?_
          exact r_iret C hT hH hS hr hlocks (by decide) (by decide) dX4_next_35 h
  have hS : va_S (mA base) s.heap s.heap [] := va_S.rf
  have hl := lv_entry ([.ref a0, .int a1]) (n := 3) (Nat.le_of_ble_eq_true rfl)
  rw [lg_entry_eq]
  generalize (lg_sl ([.ref a0, .int a1]) ++ List.replicate (3 - (lg_sl ([.ref a0, .int a1])).length) Slot.unset).toArray = ls at hl ⊢
  have hl : lv_has ls 3 [(0, .ref a0), (1, .int a1)] := hl
  unfold f_X4_next at h
  refine lv_aload_n C.1 C.2.1 dX4_next_0 rfl (lv_at hl 0 rfl) ?_
  refine lv_iconst (v := 0) C.1 C.2.1 dX4_next_1 (by decide) ?_
  refine r_pI C hT hH hS (t := 4) (k := 0) (T := TX4) rfl w4 tyX4_ok nmX4 (by decide) (by decide) rfl rfl k84 (Or.inl rfl) dX4_next_2 h (fun mm H locs hH hS h => ?_)
  refine lv_iload_n C.1 C.2.1 dX4_next_5 rfl (lv_at hl 1 rfl) ?_
  refine lv_iconst (v := 0) C.1 C.2.1 dX4_next_6 (by decide) ?_
  refine lv_bipush (v := 99) C.1 C.2.1 dX4_next_7 (by decide) ?_
  refine r_callSI C hT hH hS (As := [.int a1, .int 0, .int 99]) (fun z1 hz => c_X4_in l D cA base a1 0 99 _ z1 hz) (va_cwS 3 C.2.2.2.2 gX4_next_X4_in rfl rfl rfl (by decide +kernel) ⟨Nat.le_of_ble_eq_true rfl, Nat.le_of_ble_eq_true rfl⟩) rfl hl.1 rfl (Nat.le_of_ble_eq_true rfl) dX4_next_9 ⟨by decide, by decide⟩ h (fun v1 mm H locs hH hS h => ?_)
  refine lv_if_ne (tgt := 17) C.1 C.2.1 dX4_next_12 (by decide) (fun hc => ?_) (fun hc => ?_)
  · have h := ifc_f hc h
    refine lv_iload_n C.1 C.2.1 dX4_next_17 rfl (lv_at hl 1 rfl) ?_
    refine lv_istore_n (lv' := [(2, .int a1), (0, .ref a0), (1, .int a1)]) C.1 C.2.1 dX4_next_18 rfl hl (by decide) rfl (fun ls hl => ?_)
    exact L19 2100 a0 a1 a1 _ _ _ _ hH hS (lv_sub hl [1, 2, 0] rfl) h
  · have h := ifc_t hc h
    refine lv_iconst (v := (-1)) C.1 C.2.1 dX4_next_15 (by decide) ?_
    exact r_iret C hT hH hS hr hlocks (by decide) (by decide) dX4_next_16 h
abbrev rm_X4_freeSlot : Room := { frames := 0, cells := 0, slots := 0, locals := 0 }
set_option maxHeartbeats 4000000 in
set_option maxRecDepth 100000 in
theorem c_X4_freeSlot (l : Launch) (D : va_G) (cA : Nat → ClassId) (base : Nat) (a0 : Nat) (mm : Mem) (z : (Int32) × Mem) (h : f_X4_freeSlot a0 mm = some z) : Met l yX4_freeSlot wsX4_freeSlot rm_X4_freeSlot (va_Pc [.ref a0] (mU D cA base mm)) (mQ eI D cA base z) 0 0 (mA base) := by
  refine Met.ofW (cc := cX4_freeSlot) (maxL := 2) (ret := (some .int)) (by decide) rfl ?_
  intro p e s m args below meth c s₁ B hml hv
  obtain ⟨rfl, hH, hT⟩ := hv
  have C : CallFix p m c cX4_freeSlot 2 s ([.ref a0]).toArray wsX4_freeSlot RX4 := ⟨B.exec, B.bytes, hml, findClass_of_methodNamed B.named, atoms_spec (ws := wsX4_freeSlot) B.pre⟩
  have hr := B.returns
  have hlocks := B.notSynchronized
  have w4 : ∀ w ∈ u_ws RX4 TX4 34, w ∈ wsX4_freeSlot := by decide +kernel
  have k28 : Cond.fieldLink RX4 28 "SegmentMergesModel" "isUsed" "[Z" ∈ wsX4_freeSlot := by decide +kernel
  have k38 : Cond.fieldLink RX4 38 "SegmentMergesModel" "rows" "[I" ∈ wsX4_freeSlot := by decide +kernel
  have L2 : ∀ (n : Nat) (x0 : Nat) (x1 : Int32) (mm : Mem) (H : Heap) (locs : List Loc) (ls : Array Slot) (zz : (Int32) × Mem), mH D cA base mm H → va_S (mA base) s.heap H locs → lv_has ls 2 [(0, .ref x0), (1, .int x1)] → f_X4_freeSlot_L2 n x0 x1 mm = some zz → (∀ (H : Heap) (locs : List Loc) (ls : Array Slot), mH D cA base zz.2 H → va_S (mA base) s.heap H locs → lv_has ls 2 [(0, .ref x0), (1, .int zz.1)] → W p l e rm_X4_freeSlot s m [.ref a0].toArray below meth c H locs 0 0 (MQ below (mQ eI D cA base z) [.ref a0].toArray s 0 0 (mA base)) (F0 m 17 ls [])) → W p l e rm_X4_freeSlot s m [.ref a0].toArray below meth c H locs 0 0 (MQ below (mQ eI D cA base z) [.ref a0].toArray s 0 0 (mA base)) (F0 m 2 ls []) := by
    intro n
    induction n with
    | zero =>
      intro x0 x1 mm H locs ls zz hH hS hl h kk
      exact (fl_inv h).elim
    | succ n ih =>
      intro x0 x1 mm H locs ls zz hH hS hl h kk
      unfold f_X4_freeSlot_L2 at h
      refine lv_aload_n C.1 C.2.1 dX4_freeSlot_2 rfl (lv_at hl 0 rfl) ?_
      refine r_gN C hT hH (t := 4) (k := 9) (T := TX4) rfl w4 (by decide) (by decide) rfl k28 dX4_freeSlot_3 h (fun b1 h => ?_)
      refine lv_iload_n C.1 C.2.1 dX4_freeSlot_6 rfl (lv_at hl 1 rfl) ?_
      refine r_lZ C hT hH dX4_freeSlot_7 h (fun v2 h => ?_)
      refine lv_if_eq (tgt := 17) C.1 C.2.1 dX4_freeSlot_8 (by decide) (fun hc => ?_) (fun hc => ?_)
      · have h := ifc_t hc h
        obtain rfl := rt_inv h
        exact kk _ _ _ hH hS (lv_sub hl [0, 1] rfl)
      · have h := ifc_f hc h
        refine lv_iinc (v := (x1 + 1)) (lv' := [(1, .int (x1 + 1)), (0, .ref x0)]) C.1 C.2.1 dX4_freeSlot_11 hl (k := 1) rfl rfl (by decide) rfl (fun ls hl => ?_)
        refine lv_goto (tgt := 2) C.1 C.2.1 dX4_freeSlot_14 (by decide) ?_
        exact ih x0 (x1 + 1) _ _ _ _ _ hH hS (lv_sub hl [1, 0] rfl) h kk
  have hS : va_S (mA base) s.heap s.heap [] := va_S.rf
  have hl := lv_entry ([.ref a0]) (n := 2) (Nat.le_of_ble_eq_true rfl)
  rw [lg_entry_eq]
  generalize (lg_sl ([.ref a0]) ++ List.replicate (2 - (lg_sl ([.ref a0])).length) Slot.unset).toArray = ls at hl ⊢
  have hl : lv_has ls 2 [(0, .ref a0)] := hl
  unfold f_X4_freeSlot at h
  refine lv_iconst (v := 0) C.1 C.2.1 dX4_freeSlot_0 (by decide) ?_
  refine lv_istore_n (lv' := [(1, .int 0), (0, .ref a0)]) C.1 C.2.1 dX4_freeSlot_1 rfl hl (by decide) rfl (fun ls hl => ?_)
  obtain ⟨x3, mx3, hq, h⟩ := bnd_inv h
  refine L2 2100 a0 0 _ _ _ _ (x3, mx3) hH hS (lv_sub hl [1, 0] rfl) hq (fun H locs ls hH hS hl => ?_)
  refine lv_aload_n C.1 C.2.1 dX4_freeSlot_17 rfl (lv_at hl 0 rfl) ?_
  refine r_gN C hT hH (t := 4) (k := 9) (T := TX4) rfl w4 (by decide) (by decide) rfl k28 dX4_freeSlot_18 h (fun b4 h => ?_)
  refine lv_iload_n C.1 C.2.1 dX4_freeSlot_21 rfl (lv_at hl 1 rfl) ?_
  refine lv_iconst (v := 1) C.1 C.2.1 dX4_freeSlot_22 (by decide) ?_
  refine r_sZ C hT hH hS dX4_freeSlot_23 h (fun mm H locs hH hS h => ?_)
  refine lv_aload_n C.1 C.2.1 dX4_freeSlot_24 rfl (lv_at hl 0 rfl) ?_
  refine r_gN C hT hH (t := 4) (k := 12) (T := TX4) rfl w4 (by decide) (by decide) rfl k38 dX4_freeSlot_25 h (fun b5 h => ?_)
  refine lv_iload_n C.1 C.2.1 dX4_freeSlot_28 rfl (lv_at hl 1 rfl) ?_
  refine lv_iconst (v := 0) C.1 C.2.1 dX4_freeSlot_29 (by decide) ?_
  refine r_sI C hT hH hS dX4_freeSlot_30 h (fun mm H locs hH hS h => ?_)
  refine lv_iload_n C.1 C.2.1 dX4_freeSlot_31 rfl (lv_at hl 1 rfl) ?_
  exact r_iret C hT hH hS hr hlocks (by decide) (by decide) dX4_freeSlot_32 h
abbrev rm_X4_lay : Room := { frames := 0, cells := 0, slots := 0, locals := 0 }
set_option maxHeartbeats 4000000 in
set_option maxRecDepth 100000 in
theorem c_X4_lay (l : Launch) (D : va_G) (cA : Nat → ClassId) (base : Nat) (a0 : Nat) (a1 : Int32) (a2 : Int32) (a3 : Int32) (a4 : Int32) (mm : Mem) (z : (Unit) × Mem) (h : f_X4_lay a0 a1 a2 a3 a4 mm = some z) : Met l yX4_lay wsX4_lay rm_X4_lay (va_Pc [.ref a0, .int a1, .int a2, .int a3, .int a4] (mU D cA base mm)) (mQ eV D cA base z) 0 0 (mA base) := by
  refine Met.ofW (cc := cX4_lay) (maxL := 6) (ret := none) (by decide) rfl ?_
  intro p e s m args below meth c s₁ B hml hv
  obtain ⟨rfl, hH, hT⟩ := hv
  have C : CallFix p m c cX4_lay 6 s ([.ref a0, .int a1, .int a2, .int a3, .int a4]).toArray wsX4_lay RX4 := ⟨B.exec, B.bytes, hml, findClass_of_methodNamed B.named, atoms_spec (ws := wsX4_lay) B.pre⟩
  have hr := B.returns
  have hlocks := B.notSynchronized
  have w4 : ∀ w ∈ u_ws RX4 TX4 34, w ∈ wsX4_lay := by decide +kernel
  have k16 : Cond.fieldLink RX4 16 "SegmentMergesModel" "inSlot" "[I" ∈ wsX4_lay := by decide +kernel
  have k19 : Cond.fieldLink RX4 19 "SegmentMergesModel" "inRow" "[I" ∈ wsX4_lay := by decide +kernel
  have k38 : Cond.fieldLink RX4 38 "SegmentMergesModel" "rows" "[I" ∈ wsX4_lay := by decide +kernel
  have k41 : Cond.fieldLink RX4 41 "SegmentMergesModel" "rowKey" "[I" ∈ wsX4_lay := by decide +kernel
  have k44 : Cond.fieldLink RX4 44 "SegmentMergesModel" "rowValue" "[I" ∈ wsX4_lay := by decide +kernel
  have k47 : Cond.fieldLink RX4 47 "SegmentMergesModel" "lives" "[Z" ∈ wsX4_lay := by decide +kernel
  have hS : va_S (mA base) s.heap s.heap [] := va_S.rf
  have hl := lv_entry ([.ref a0, .int a1, .int a2, .int a3, .int a4]) (n := 6) (Nat.le_of_ble_eq_true rfl)
  rw [lg_entry_eq]
  generalize (lg_sl ([.ref a0, .int a1, .int a2, .int a3, .int a4]) ++ List.replicate (6 - (lg_sl ([.ref a0, .int a1, .int a2, .int a3, .int a4])).length) Slot.unset).toArray = ls at hl ⊢
  have hl : lv_has ls 6 [(0, .ref a0), (1, .int a1), (2, .int a2), (3, .int a3), (4, .int a4)] := hl
  unfold f_X4_lay at h
  refine lv_bipush (v := 100) C.1 C.2.1 dX4_lay_0 (by decide) ?_
  refine lv_iload_n C.1 C.2.1 dX4_lay_2 rfl (lv_at hl 1 rfl) ?_
  refine lv_imul C.1 C.2.1 dX4_lay_3 ?_
  refine lv_aload_n C.1 C.2.1 dX4_lay_4 rfl (lv_at hl 0 rfl) ?_
  refine r_gN C hT hH (t := 4) (k := 12) (T := TX4) rfl w4 (by decide) (by decide) rfl k38 dX4_lay_5 h (fun b1 h => ?_)
  refine lv_iload_n C.1 C.2.1 dX4_lay_8 rfl (lv_at hl 1 rfl) ?_
  refine r_lI C hT hH dX4_lay_9 h (fun v2 h => ?_)
  refine lv_iadd C.1 C.2.1 dX4_lay_10 ?_
  refine lv_istore (lv' := [(5, .int ((100 * a1) + v2)), (0, .ref a0), (1, .int a1), (2, .int a2), (3, .int a3), (4, .int a4)]) C.1 C.2.1 dX4_lay_11 hl (by decide) rfl (fun ls hl => ?_)
  refine lv_aload_n C.1 C.2.1 dX4_lay_13 rfl (lv_at hl 1 rfl) ?_
  refine r_gN C hT hH (t := 4) (k := 13) (T := TX4) rfl w4 (by decide) (by decide) rfl k41 dX4_lay_14 h (fun b3 h => ?_)
  refine lv_iload C.1 C.2.1 dX4_lay_17 (lv_at hl 0 rfl) ?_
  refine lv_iload_n C.1 C.2.1 dX4_lay_19 rfl (lv_at hl 3 rfl) ?_
  refine r_sI C hT hH hS dX4_lay_20 h (fun mm H locs hH hS h => ?_)
  refine lv_aload_n C.1 C.2.1 dX4_lay_21 rfl (lv_at hl 1 rfl) ?_
  refine r_gN C hT hH (t := 4) (k := 14) (T := TX4) rfl w4 (by decide) (by decide) rfl k44 dX4_lay_22 h (fun b4 h => ?_)
  refine lv_iload C.1 C.2.1 dX4_lay_25 (lv_at hl 0 rfl) ?_
  refine lv_iload_n C.1 C.2.1 dX4_lay_27 rfl (lv_at hl 4 rfl) ?_
  refine r_sI C hT hH hS dX4_lay_28 h (fun mm H locs hH hS h => ?_)
  refine lv_aload_n C.1 C.2.1 dX4_lay_29 rfl (lv_at hl 1 rfl) ?_
  refine r_gN C hT hH (t := 4) (k := 15) (T := TX4) rfl w4 (by decide) (by decide) rfl k47 dX4_lay_30 h (fun b5 h => ?_)
  refine lv_iload C.1 C.2.1 dX4_lay_33 (lv_at hl 0 rfl) ?_
  refine lv_iload C.1 C.2.1 dX4_lay_35 (lv_at hl 5 rfl) ?_
  refine r_sZ C hT hH hS dX4_lay_37 h (fun mm H locs hH hS h => ?_)
  refine lv_iload C.1 C.2.1 dX4_lay_38 (lv_at hl 5 rfl) ?_
  refine lv_if_eq (tgt := 62) C.1 C.2.1 dX4_lay_40 (by decide) (fun hc => ?_) (fun hc => ?_)
  · have h := ifc_t hc h
    refine lv_aload_n C.1 C.2.1 dX4_lay_62 rfl (lv_at hl 1 rfl) ?_
    refine r_gN C hT hH (t := 4) (k := 12) (T := TX4) rfl w4 (by decide) (by decide) rfl k38 dX4_lay_63 h (fun b6 h => ?_)
    refine lv_iload_n C.1 C.2.1 dX4_lay_66 rfl (lv_at hl 2 rfl) ?_
    refine lv_dup2_11 C.1 C.2.1 dX4_lay_67 rfl rfl ?_
    refine r_lI C hT hH dX4_lay_68 h (fun v7 h => ?_)
    refine lv_iconst (v := 1) C.1 C.2.1 dX4_lay_69 (by decide) ?_
    refine lv_iadd C.1 C.2.1 dX4_lay_70 ?_
    refine r_sI C hT hH hS dX4_lay_71 h (fun mm H locs hH hS h => ?_)
    exact r_vret C hT hH hS hr hlocks (by decide) (by decide) dX4_lay_72 h
  · have h := ifc_f hc h
    refine lv_aload_n C.1 C.2.1 dX4_lay_43 rfl (lv_at hl 1 rfl) ?_
    refine r_gN C hT hH (t := 4) (k := 3) (T := TX4) rfl w4 (by decide) (by decide) rfl k16 dX4_lay_44 h (fun b8 h => ?_)
    refine lv_iload_n C.1 C.2.1 dX4_lay_47 rfl (lv_at hl 3 rfl) ?_
    refine lv_iload_n C.1 C.2.1 dX4_lay_48 rfl (lv_at hl 2 rfl) ?_
    refine r_sI C hT hH hS dX4_lay_49 h (fun mm H locs hH hS h => ?_)
    refine lv_aload_n C.1 C.2.1 dX4_lay_50 rfl (lv_at hl 1 rfl) ?_
    refine r_gN C hT hH (t := 4) (k := 4) (T := TX4) rfl w4 (by decide) (by decide) rfl k19 dX4_lay_51 h (fun b9 h => ?_)
    refine lv_iload_n C.1 C.2.1 dX4_lay_54 rfl (lv_at hl 3 rfl) ?_
    refine lv_aload_n C.1 C.2.1 dX4_lay_55 rfl (lv_at hl 1 rfl) ?_
    refine r_gN C hT hH (t := 4) (k := 12) (T := TX4) rfl w4 (by decide) (by decide) rfl k38 dX4_lay_56 h (fun b10 h => ?_)
    refine lv_iload_n C.1 C.2.1 dX4_lay_59 rfl (lv_at hl 2 rfl) ?_
    refine r_lI C hT hH dX4_lay_60 h (fun v11 h => ?_)
    refine r_sI C hT hH hS dX4_lay_61 h (fun mm H locs hH hS h => ?_)
    refine lv_aload_n C.1 C.2.1 dX4_lay_62 rfl (lv_at hl 1 rfl) ?_
    refine r_gN C hT hH (t := 4) (k := 12) (T := TX4) rfl w4 (by decide) (by decide) rfl k38 dX4_lay_63 h (fun b12 h => ?_)
    refine lv_iload_n C.1 C.2.1 dX4_lay_66 rfl (lv_at hl 2 rfl) ?_
    refine lv_dup2_11 C.1 C.2.1 dX4_lay_67 rfl rfl ?_
    refine r_lI C hT hH dX4_lay_68 h (fun v13 h => ?_)
    refine lv_iconst (v := 1) C.1 C.2.1 dX4_lay_69 (by decide) ?_
    refine lv_iadd C.1 C.2.1 dX4_lay_70 ?_
    refine r_sI C hT hH hS dX4_lay_71 h (fun mm H locs hH hS h => ?_)
    exact r_vret C hT hH hS hr hlocks (by decide) (by decide) dX4_lay_72 h
abbrev rm_X4_flush : Room := { frames := 1, cells := 0, slots := 0, locals := 25 }
set_option maxHeartbeats 4000000 in
set_option maxRecDepth 100000 in
theorem c_X4_flush (l : Launch) (D : va_G) (cA : Nat → ClassId) (base : Nat) (a0 : Nat) (mm : Mem) (z : (Int32) × Mem) (h : f_X4_flush a0 mm = some z) : Met l yX4_flush wsX4_flush rm_X4_flush (va_Pc [.ref a0] (mU D cA base mm)) (mQ eI D cA base z) 0 0 (mA base) := by
  refine Met.ofW (cc := cX4_flush) (maxL := 3) (ret := (some .int)) (by decide) rfl ?_
  intro p e s m args below meth c s₁ B hml hv
  obtain ⟨rfl, hH, hT⟩ := hv
  have C : CallFix p m c cX4_flush 3 s ([.ref a0]).toArray wsX4_flush RX4 := ⟨B.exec, B.bytes, hml, findClass_of_methodNamed B.named, atoms_spec (ws := wsX4_flush) B.pre⟩
  have hr := B.returns
  have hlocks := B.notSynchronized
  have w4 : ∀ w ∈ u_ws RX4 TX4 34, w ∈ wsX4_flush := by decide +kernel
  have k7 : Cond.fieldLink RX4 7 "SegmentMergesModel" "value" "[I" ∈ wsX4_flush := by decide +kernel
  have k25 : Cond.fieldLink RX4 25 "SegmentMergesModel" "order" "[I" ∈ wsX4_flush := by decide +kernel
  have k32 : Cond.fieldLink RX4 32 "SegmentMergesModel" "number" "[I" ∈ wsX4_flush := by decide +kernel
  have k35 : Cond.fieldLink RX4 35 "SegmentMergesModel" "tier" "[I" ∈ wsX4_flush := by decide +kernel
  have k84 : Cond.fieldLink RX4 84 "SegmentMergesModel" "thrown" "I" ∈ wsX4_flush := by decide +kernel
  have k87 : Cond.fieldLink RX4 87 "SegmentMergesModel" "remembered" "I" ∈ wsX4_flush := by decide +kernel
  have k102 : Cond.fieldLink RX4 102 "SegmentMergesModel" "segments" "I" ∈ wsX4_flush := by decide +kernel
  have k109 : Cond.fieldLink RX4 109 "SegmentMergesModel" "numbers" "I" ∈ wsX4_flush := by decide +kernel
  have k116 : Cond.fieldLink RX4 116 "SegmentMergesModel" "written" "I" ∈ wsX4_flush := by decide +kernel
  have L61 : ∀ (n : Nat) (x0 : Nat) (x1 : Int32) (x2 : Int32) (mm : Mem) (H : Heap) (locs : List Loc) (ls : Array Slot) (zz : (Int32) × Mem), mH D cA base mm H → va_S (mA base) s.heap H locs → lv_has ls 3 [(0, .ref x0), (1, .int x1), (2, .int x2)] → f_X4_flush_L61 n x0 x1 x2 mm = some zz → (∀ (H : Heap) (locs : List Loc) (ls : Array Slot), mH D cA base zz.2 H → va_S (mA base) s.heap H locs → lv_has ls 3 [(0, .ref x0), (1, .int x1), (2, .int zz.1)] → W p l e rm_X4_flush s m [.ref a0].toArray below meth c H locs 0 0 (MQ below (mQ eI D cA base z) [.ref a0].toArray s 0 0 (mA base)) (F0 m 104 ls [])) → W p l e rm_X4_flush s m [.ref a0].toArray below meth c H locs 0 0 (MQ below (mQ eI D cA base z) [.ref a0].toArray s 0 0 (mA base)) (F0 m 61 ls []) := by
    intro n
    induction n with
    | zero =>
      intro x0 x1 x2 mm H locs ls zz hH hS hl h kk
      exact (fl_inv h).elim
    | succ n ih =>
      intro x0 x1 x2 mm H locs ls zz hH hS hl h kk
      unfold f_X4_flush_L61 at h
      refine lv_iload_n C.1 C.2.1 dX4_flush_61 rfl (lv_at hl 2 rfl) ?_
      refine lv_bipush (v := 100) C.1 C.2.1 dX4_flush_62 (by decide) ?_
      refine lv_icmp_ge (tgt := 104) C.1 C.2.1 dX4_flush_64 (by decide) (fun hc => ?_) (fun hc => ?_)
      · have h := ifc_t hc h
        obtain rfl := rt_inv h
        exact kk _ _ _ hH hS (lv_sub hl [0, 1, 2] rfl)
      · have h := ifc_f hc h
        refine lv_aload_n C.1 C.2.1 dX4_flush_67 rfl (lv_at hl 0 rfl) ?_
        refine lv_iload_n C.1 C.2.1 dX4_flush_68 rfl (lv_at hl 2 rfl) ?_
        refine r_callVI C hT hH hS (t := 4) (As := [.int x2]) (fun z1 hz => c_X4_memoryAt l D cA base x0 x2 _ z1 hz) (cwV 1 C.2.2.2.2 gX4_flush_X4_memoryAt rfl rfl rfl (by decide +kernel) ⟨Nat.le_of_ble_eq_true rfl, Nat.le_of_ble_eq_true rfl⟩) rfl (by decide) rfl hl.1 rfl (Nat.le_of_ble_eq_true rfl) dX4_flush_69 ⟨by decide, by decide⟩ h (fun v8 mm H locs hH hS h => ?_)
        refine lv_if_lt (tgt := 98) C.1 C.2.1 dX4_flush_72 (by decide) (fun hc => ?_) (fun hc => ?_)
        · have h := ifc_t hc h
          refine lv_iinc (v := (x2 + 1)) (lv' := [(2, .int (x2 + 1)), (0, .ref x0), (1, .int x1)]) C.1 C.2.1 dX4_flush_98 hl (k := 2) rfl rfl (by decide) rfl (fun ls hl => ?_)
          refine lv_goto (tgt := 61) C.1 C.2.1 dX4_flush_101 (by decide) ?_
          exact ih x0 x1 (x2 + 1) _ _ _ _ _ hH hS (lv_sub hl [1, 2, 0] rfl) h kk
        · have h := ifc_f hc h
          refine lv_aload_n C.1 C.2.1 dX4_flush_75 rfl (lv_at hl 0 rfl) ?_
          refine lv_iload_n C.1 C.2.1 dX4_flush_76 rfl (lv_at hl 1 rfl) ?_
          refine lv_iload_n C.1 C.2.1 dX4_flush_77 rfl (lv_at hl 2 rfl) ?_
          refine lv_aload_n C.1 C.2.1 dX4_flush_78 rfl (lv_at hl 0 rfl) ?_
          refine r_gN C hT hH (t := 4) (k := 1) (T := TX4) rfl w4 (by decide) (by decide) rfl k7 dX4_flush_79 h (fun b9 h => ?_)
          refine lv_iload_n C.1 C.2.1 dX4_flush_82 rfl (lv_at hl 2 rfl) ?_
          refine r_lI C hT hH dX4_flush_83 h (fun v10 h => ?_)
          refine lv_iconst (v := 1) C.1 C.2.1 dX4_flush_84 (by decide) ?_
          refine r_callVV C hT hH hS (t := 4) (As := [.int x1, .int x2, .int v10, .int 1]) (fun z1 hz => c_X4_lay l D cA base x0 x1 x2 v10 1 _ z1 hz) (cwV 4 C.2.2.2.2 gX4_flush_X4_lay rfl rfl rfl (by decide +kernel) ⟨Nat.le_of_ble_eq_true rfl, Nat.le_of_ble_eq_true rfl⟩) rfl (by decide) rfl hl.1 rfl (Nat.le_of_ble_eq_true rfl) dX4_flush_85 ⟨by decide, by decide⟩ h (fun _ mm H locs hH hS h => ?_)
          refine lv_aload_n C.1 C.2.1 dX4_flush_88 rfl (lv_at hl 0 rfl) ?_
          refine lv_dup C.1 C.2.1 dX4_flush_89 rfl ?_
          refine r_gI C hT hH (t := 4) (k := 17) (T := TX4) rfl w4 (by decide) (by decide) rfl k116 dX4_flush_90 h (fun v11 h => ?_)
          refine lv_iconst (v := 1) C.1 C.2.1 dX4_flush_93 (by decide) ?_
          refine lv_iadd C.1 C.2.1 dX4_flush_94 ?_
          refine r_pI C hT hH hS (t := 4) (k := 17) (T := TX4) rfl w4 tyX4_ok nmX4 (by decide) (by decide) rfl rfl k116 (Or.inl rfl) dX4_flush_95 h (fun mm H locs hH hS h => ?_)
          refine lv_iinc (v := (x2 + 1)) (lv' := [(2, .int (x2 + 1)), (0, .ref x0), (1, .int x1)]) C.1 C.2.1 dX4_flush_98 hl (k := 2) rfl rfl (by decide) rfl (fun ls hl => ?_)
          refine lv_goto (tgt := 61) C.1 C.2.1 dX4_flush_101 (by decide) ?_
          exact ih x0 x1 (x2 + 1) _ _ _ _ _ hH hS (lv_sub hl [1, 2, 0] rfl) h kk
  have hS : va_S (mA base) s.heap s.heap [] := va_S.rf
  have hl := lv_entry ([.ref a0]) (n := 3) (Nat.le_of_ble_eq_true rfl)
  rw [lg_entry_eq]
  generalize (lg_sl ([.ref a0]) ++ List.replicate (3 - (lg_sl ([.ref a0])).length) Slot.unset).toArray = ls at hl ⊢
  have hl : lv_has ls 3 [(0, .ref a0)] := hl
  unfold f_X4_flush at h
  refine lv_aload_n C.1 C.2.1 dX4_flush_0 rfl (lv_at hl 0 rfl) ?_
  refine lv_iconst (v := 0) C.1 C.2.1 dX4_flush_1 (by decide) ?_
  refine r_pI C hT hH hS (t := 4) (k := 0) (T := TX4) rfl w4 tyX4_ok nmX4 (by decide) (by decide) rfl rfl k84 (Or.inl rfl) dX4_flush_2 h (fun mm H locs hH hS h => ?_)
  refine lv_aload_n C.1 C.2.1 dX4_flush_5 rfl (lv_at hl 0 rfl) ?_
  refine r_gI C hT hH (t := 4) (k := 5) (T := TX4) rfl w4 (by decide) (by decide) rfl k87 dX4_flush_6 h (fun v1 h => ?_)
  refine lv_if_ne (tgt := 15) C.1 C.2.1 dX4_flush_9 (by decide) (fun hc => ?_) (fun hc => ?_)
  · have h := ifc_f hc h
    refine lv_aload_n C.1 C.2.1 dX4_flush_15 rfl (lv_at hl 0 rfl) ?_
    refine r_gI C hT hH (t := 4) (k := 7) (T := TX4) rfl w4 (by decide) (by decide) rfl k102 dX4_flush_16 h (fun v2 h => ?_)
    refine lv_bipush (v := 20) C.1 C.2.1 dX4_flush_19 (by decide) ?_
    refine lv_icmp_ne (tgt := 27) C.1 C.2.1 dX4_flush_21 (by decide) (fun hc => ?_) (fun hc => ?_)
    · have h := ifc_f hc h
      refine lv_aload_n C.1 C.2.1 dX4_flush_27 rfl (lv_at hl 0 rfl) ?_
      refine r_callVI C hT hH hS (t := 4) (As := []) (fun z1 hz => c_X4_freeSlot l D cA base a0 _ z1 hz) (cwV 0 C.2.2.2.2 gX4_flush_X4_freeSlot rfl rfl rfl (by decide +kernel) ⟨Nat.le_of_ble_eq_true rfl, Nat.le_of_ble_eq_true rfl⟩) rfl (by decide) rfl hl.1 rfl (Nat.le_of_ble_eq_true rfl) dX4_flush_28 ⟨by decide, by decide⟩ h (fun v3 mm H locs hH hS h => ?_)
      refine lv_istore_n (lv' := [(1, .int v3), (0, .ref a0)]) C.1 C.2.1 dX4_flush_31 rfl hl (by decide) rfl (fun ls hl => ?_)
      refine lv_aload_n C.1 C.2.1 dX4_flush_32 rfl (lv_at hl 1 rfl) ?_
      refine r_gN C hT hH (t := 4) (k := 11) (T := TX4) rfl w4 (by decide) (by decide) rfl k35 dX4_flush_33 h (fun b4 h => ?_)
      refine lv_iload_n C.1 C.2.1 dX4_flush_36 rfl (lv_at hl 0 rfl) ?_
      refine lv_iconst (v := 0) C.1 C.2.1 dX4_flush_37 (by decide) ?_
      refine r_sI C hT hH hS dX4_flush_38 h (fun mm H locs hH hS h => ?_)
      refine lv_aload_n C.1 C.2.1 dX4_flush_39 rfl (lv_at hl 1 rfl) ?_
      refine r_gN C hT hH (t := 4) (k := 10) (T := TX4) rfl w4 (by decide) (by decide) rfl k32 dX4_flush_40 h (fun b5 h => ?_)
      refine lv_iload_n C.1 C.2.1 dX4_flush_43 rfl (lv_at hl 0 rfl) ?_
      refine lv_aload_n C.1 C.2.1 dX4_flush_44 rfl (lv_at hl 1 rfl) ?_
      refine r_gI C hT hH (t := 4) (k := 16) (T := TX4) rfl w4 (by decide) (by decide) rfl k109 dX4_flush_45 h (fun v6 h => ?_)
      refine r_sI C hT hH hS dX4_flush_48 h (fun mm H locs hH hS h => ?_)
      refine lv_aload_n C.1 C.2.1 dX4_flush_49 rfl (lv_at hl 1 rfl) ?_
      refine lv_dup C.1 C.2.1 dX4_flush_50 rfl ?_
      refine r_gI C hT hH (t := 4) (k := 16) (T := TX4) rfl w4 (by decide) (by decide) rfl k109 dX4_flush_51 h (fun v7 h => ?_)
      refine lv_iconst (v := 1) C.1 C.2.1 dX4_flush_54 (by decide) ?_
      refine lv_iadd C.1 C.2.1 dX4_flush_55 ?_
      refine r_pI C hT hH hS (t := 4) (k := 16) (T := TX4) rfl w4 tyX4_ok nmX4 (by decide) (by decide) rfl rfl k109 (Or.inl rfl) dX4_flush_56 h (fun mm H locs hH hS h => ?_)
      refine lv_iconst (v := 0) C.1 C.2.1 dX4_flush_59 (by decide) ?_
      refine lv_istore_n (lv' := [(2, .int 0), (1, .int v3), (0, .ref a0)]) C.1 C.2.1 dX4_flush_60 rfl hl (by decide) rfl (fun ls hl => ?_)
      obtain ⟨x12, mx12, hq, h⟩ := bnd_inv h
      refine L61 2100 a0 v3 0 _ _ _ _ (x12, mx12) hH hS (lv_sub hl [2, 1, 0] rfl) hq (fun H locs ls hH hS hl => ?_)
      refine lv_aload_n C.1 C.2.1 dX4_flush_104 rfl (lv_at hl 0 rfl) ?_
      refine lv_iconst (v := 0) C.1 C.2.1 dX4_flush_105 (by decide) ?_
      refine r_pI C hT hH hS (t := 4) (k := 5) (T := TX4) rfl w4 tyX4_ok nmX4 (by decide) (by decide) rfl rfl k87 (Or.inl rfl) dX4_flush_106 h (fun mm H locs hH hS h => ?_)
      refine lv_aload_n C.1 C.2.1 dX4_flush_109 rfl (lv_at hl 0 rfl) ?_
      refine r_gN C hT hH (t := 4) (k := 8) (T := TX4) rfl w4 (by decide) (by decide) rfl k25 dX4_flush_110 h (fun b13 h => ?_)
      refine lv_aload_n C.1 C.2.1 dX4_flush_113 rfl (lv_at hl 0 rfl) ?_
      refine r_gI C hT hH (t := 4) (k := 7) (T := TX4) rfl w4 (by decide) (by decide) rfl k102 dX4_flush_114 h (fun v14 h => ?_)
      refine lv_iload_n C.1 C.2.1 dX4_flush_117 rfl (lv_at hl 1 rfl) ?_
      refine r_sI C hT hH hS dX4_flush_118 h (fun mm H locs hH hS h => ?_)
      refine lv_aload_n C.1 C.2.1 dX4_flush_119 rfl (lv_at hl 0 rfl) ?_
      refine lv_dup C.1 C.2.1 dX4_flush_120 rfl ?_
      refine r_gI C hT hH (t := 4) (k := 7) (T := TX4) rfl w4 (by decide) (by decide) rfl k102 dX4_flush_121 h (fun v15 h => ?_)
      refine lv_iconst (v := 1) C.1 C.2.1 dX4_flush_124 (by decide) ?_
      refine lv_iadd C.1 C.2.1 dX4_flush_125 ?_
      refine r_pI C hT hH hS (t := 4) (k := 7) (T := TX4) rfl w4 tyX4_ok nmX4 (by decide) (by decide) rfl rfl k102 (Or.inl rfl) dX4_flush_126 h (fun mm H locs hH hS h => ?_)
      refine lv_aload_n C.1 C.2.1 dX4_flush_129 rfl (lv_at hl 0 rfl) ?_
      refine r_gN C hT hH (t := 4) (k := 10) (T := TX4) rfl w4 (by decide) (by decide) rfl k32 dX4_flush_130 h (fun b16 h => ?_)
      refine lv_iload_n C.1 C.2.1 dX4_flush_133 rfl (lv_at hl 1 rfl) ?_
      refine r_lI C hT hH dX4_flush_134 h (fun v17 h => ?_)
      exact r_iret C hT hH hS hr hlocks (by decide) (by decide) dX4_flush_135 h
    · have h := ifc_t hc h
      refine lv_bipush (v := (-4)) C.1 C.2.1 dX4_flush_24 (by decide) ?_
      exact r_iret C hT hH hS hr hlocks (by decide) (by decide) dX4_flush_26 h
  · have h := ifc_t hc h
    refine lv_bipush (v := (-3)) C.1 C.2.1 dX4_flush_12 (by decide) ?_
    exact r_iret C hT hH hS hr hlocks (by decide) (by decide) dX4_flush_14 h
abbrev rm_X4_livingOf : Room := { frames := 0, cells := 0, slots := 0, locals := 0 }
set_option maxHeartbeats 4000000 in
set_option maxRecDepth 100000 in
theorem c_X4_livingOf (l : Launch) (D : va_G) (cA : Nat → ClassId) (base : Nat) (a0 : Nat) (a1 : Int32) (mm : Mem) (z : (Int32) × Mem) (h : f_X4_livingOf a0 a1 mm = some z) : Met l yX4_livingOf wsX4_livingOf rm_X4_livingOf (va_Pc [.ref a0, .int a1] (mU D cA base mm)) (mQ eI D cA base z) 0 0 (mA base) := by
  refine Met.ofW (cc := cX4_livingOf) (maxL := 4) (ret := (some .int)) (by decide) rfl ?_
  intro p e s m args below meth c s₁ B hml hv
  obtain ⟨rfl, hH, hT⟩ := hv
  have C : CallFix p m c cX4_livingOf 4 s ([.ref a0, .int a1]).toArray wsX4_livingOf RX4 := ⟨B.exec, B.bytes, hml, findClass_of_methodNamed B.named, atoms_spec (ws := wsX4_livingOf) B.pre⟩
  have hr := B.returns
  have hlocks := B.notSynchronized
  have w4 : ∀ w ∈ u_ws RX4 TX4 34, w ∈ wsX4_livingOf := by decide +kernel
  have k38 : Cond.fieldLink RX4 38 "SegmentMergesModel" "rows" "[I" ∈ wsX4_livingOf := by decide +kernel
  have k47 : Cond.fieldLink RX4 47 "SegmentMergesModel" "lives" "[Z" ∈ wsX4_livingOf := by decide +kernel
  have L4 : ∀ (n : Nat) (x0 : Nat) (x1 : Int32) (x2 : Int32) (x3 : Int32) (mm : Mem) (H : Heap) (locs : List Loc) (ls : Array Slot) (zz : (Int32 × Int32) × Mem), mH D cA base mm H → va_S (mA base) s.heap H locs → lv_has ls 4 [(0, .ref x0), (1, .int x1), (2, .int x2), (3, .int x3)] → f_X4_livingOf_L4 n x0 x1 x2 x3 mm = some zz → (∀ (H : Heap) (locs : List Loc) (ls : Array Slot), mH D cA base zz.2 H → va_S (mA base) s.heap H locs → lv_has ls 4 [(0, .ref x0), (1, .int x1), (2, .int zz.1.1), (3, .int zz.1.2)] → W p l e rm_X4_livingOf s m [.ref a0, .int a1].toArray below meth c H locs 0 0 (MQ below (mQ eI D cA base z) [.ref a0, .int a1].toArray s 0 0 (mA base)) (F0 m 42 ls [])) → W p l e rm_X4_livingOf s m [.ref a0, .int a1].toArray below meth c H locs 0 0 (MQ below (mQ eI D cA base z) [.ref a0, .int a1].toArray s 0 0 (mA base)) (F0 m 4 ls []) := by
    intro n
    induction n with
    | zero =>
      intro x0 x1 x2 x3 mm H locs ls zz hH hS hl h kk
      exact (fl_inv h).elim
    | succ n ih =>
      intro x0 x1 x2 x3 mm H locs ls zz hH hS hl h kk
      unfold f_X4_livingOf_L4 at h
      refine lv_iload_n C.1 C.2.1 dX4_livingOf_4 rfl (lv_at hl 3 rfl) ?_
      refine lv_aload_n C.1 C.2.1 dX4_livingOf_5 rfl (lv_at hl 0 rfl) ?_
      refine r_gN C hT hH (t := 4) (k := 12) (T := TX4) rfl w4 (by decide) (by decide) rfl k38 dX4_livingOf_6 h (fun b1 h => ?_)
      refine lv_iload_n C.1 C.2.1 dX4_livingOf_9 rfl (lv_at hl 1 rfl) ?_
      refine r_lI C hT hH dX4_livingOf_10 h (fun v2 h => ?_)
      refine lv_icmp_ge (tgt := 42) C.1 C.2.1 dX4_livingOf_11 (by decide) (fun hc => ?_) (fun hc => ?_)
      · have h := ifc_t hc h
        obtain rfl := rt_inv h
        exact kk _ _ _ hH hS (lv_sub hl [0, 1, 2, 3] rfl)
      · have h := ifc_f hc h
        refine lv_iload_n C.1 C.2.1 dX4_livingOf_14 rfl (lv_at hl 2 rfl) ?_
        refine lv_aload_n C.1 C.2.1 dX4_livingOf_15 rfl (lv_at hl 0 rfl) ?_
        refine r_gN C hT hH (t := 4) (k := 15) (T := TX4) rfl w4 (by decide) (by decide) rfl k47 dX4_livingOf_16 h (fun b3 h => ?_)
        refine lv_bipush (v := 100) C.1 C.2.1 dX4_livingOf_19 (by decide) ?_
        refine lv_iload_n C.1 C.2.1 dX4_livingOf_21 rfl (lv_at hl 1 rfl) ?_
        refine lv_imul C.1 C.2.1 dX4_livingOf_22 ?_
        refine lv_iload_n C.1 C.2.1 dX4_livingOf_23 rfl (lv_at hl 3 rfl) ?_
        refine lv_iadd C.1 C.2.1 dX4_livingOf_24 ?_
        refine r_lZ C hT hH dX4_livingOf_25 h (fun v4 h => ?_)
        refine lv_if_eq (tgt := 33) C.1 C.2.1 dX4_livingOf_26 (by decide) (fun hc => ?_) (fun hc => ?_)
        · have h := ifc_t hc h
          refine lv_iconst (v := 0) C.1 C.2.1 dX4_livingOf_33 (by decide) ?_
          refine lv_iadd C.1 C.2.1 dX4_livingOf_34 ?_
          refine lv_istore_n (lv' := [(2, .int (x2 + 0)), (0, .ref x0), (1, .int x1), (3, .int x3)]) C.1 C.2.1 dX4_livingOf_35 rfl hl (by decide) rfl (fun ls hl => ?_)
          refine lv_iinc (v := (x3 + 1)) (lv' := [(3, .int (x3 + 1)), (2, .int (x2 + 0)), (0, .ref x0), (1, .int x1)]) C.1 C.2.1 dX4_livingOf_36 hl (k := 3) rfl rfl (by decide) rfl (fun ls hl => ?_)
          refine lv_goto (tgt := 4) C.1 C.2.1 dX4_livingOf_39 (by decide) ?_
          exact ih x0 x1 (x2 + 0) (x3 + 1) _ _ _ _ _ hH hS (lv_sub hl [2, 3, 1, 0] rfl) h kk
        · have h := ifc_f hc h
          refine lv_iconst (v := 1) C.1 C.2.1 dX4_livingOf_29 (by decide) ?_
          refine lv_goto (tgt := 34) C.1 C.2.1 dX4_livingOf_30 (by decide) ?_
          refine lv_iadd C.1 C.2.1 dX4_livingOf_34 ?_
          refine lv_istore_n (lv' := [(2, .int (x2 + 1)), (0, .ref x0), (1, .int x1), (3, .int x3)]) C.1 C.2.1 dX4_livingOf_35 rfl hl (by decide) rfl (fun ls hl => ?_)
          refine lv_iinc (v := (x3 + 1)) (lv' := [(3, .int (x3 + 1)), (2, .int (x2 + 1)), (0, .ref x0), (1, .int x1)]) C.1 C.2.1 dX4_livingOf_36 hl (k := 3) rfl rfl (by decide) rfl (fun ls hl => ?_)
          refine lv_goto (tgt := 4) C.1 C.2.1 dX4_livingOf_39 (by decide) ?_
          exact ih x0 x1 (x2 + 1) (x3 + 1) _ _ _ _ _ hH hS (lv_sub hl [2, 3, 1, 0] rfl) h kk
  have hS : va_S (mA base) s.heap s.heap [] := va_S.rf
  have hl := lv_entry ([.ref a0, .int a1]) (n := 4) (Nat.le_of_ble_eq_true rfl)
  rw [lg_entry_eq]
  generalize (lg_sl ([.ref a0, .int a1]) ++ List.replicate (4 - (lg_sl ([.ref a0, .int a1])).length) Slot.unset).toArray = ls at hl ⊢
  have hl : lv_has ls 4 [(0, .ref a0), (1, .int a1)] := hl
  unfold f_X4_livingOf at h
  refine lv_iconst (v := 0) C.1 C.2.1 dX4_livingOf_0 (by decide) ?_
  refine lv_istore_n (lv' := [(2, .int 0), (0, .ref a0), (1, .int a1)]) C.1 C.2.1 dX4_livingOf_1 rfl hl (by decide) rfl (fun ls hl => ?_)
  refine lv_iconst (v := 0) C.1 C.2.1 dX4_livingOf_2 (by decide) ?_
  refine lv_istore_n (lv' := [(3, .int 0), (2, .int 0), (0, .ref a0), (1, .int a1)]) C.1 C.2.1 dX4_livingOf_3 rfl hl (by decide) rfl (fun ls hl => ?_)
  obtain ⟨x5, mx5, hq, h⟩ := bnd_inv h
  refine L4 2100 a0 a1 0 0 _ _ _ _ (x5, mx5) hH hS (lv_sub hl [2, 3, 1, 0] rfl) hq (fun H locs ls hH hS hl => ?_)
  refine lv_iload_n C.1 C.2.1 dX4_livingOf_42 rfl (lv_at hl 2 rfl) ?_
  exact r_iret C hT hH hS hr hlocks (by decide) (by decide) dX4_livingOf_43 h
abbrev rm_X4_all : Room := { frames := 1, cells := 0, slots := 0, locals := 23 }
set_option maxHeartbeats 4000000 in
set_option maxRecDepth 100000 in
theorem c_X4_all (l : Launch) (D : va_G) (cA : Nat → ClassId) (base : Nat) (a0 : Nat) (a1 : Int32) (mm : Mem) (z : (Int32) × Mem) (h : f_X4_all a0 a1 mm = some z) : Met l yX4_all wsX4_all rm_X4_all (va_Pc [.ref a0, .int a1] (mU D cA base mm)) (mQ eI D cA base z) 0 0 (mA base) := by
  refine Met.ofW (cc := cX4_all) (maxL := 4) (ret := (some .int)) (by decide) rfl ?_
  intro p e s m args below meth c s₁ B hml hv
  obtain ⟨rfl, hH, hT⟩ := hv
  have C : CallFix p m c cX4_all 4 s ([.ref a0, .int a1]).toArray wsX4_all RX4 := ⟨B.exec, B.bytes, hml, findClass_of_methodNamed B.named, atoms_spec (ws := wsX4_all) B.pre⟩
  have hr := B.returns
  have hlocks := B.notSynchronized
  have w4 : ∀ w ∈ u_ws RX4 TX4 34, w ∈ wsX4_all := by decide +kernel
  have k25 : Cond.fieldLink RX4 25 "SegmentMergesModel" "order" "[I" ∈ wsX4_all := by decide +kernel
  have k38 : Cond.fieldLink RX4 38 "SegmentMergesModel" "rows" "[I" ∈ wsX4_all := by decide +kernel
  have k102 : Cond.fieldLink RX4 102 "SegmentMergesModel" "segments" "I" ∈ wsX4_all := by decide +kernel
  have L4 : ∀ (n : Nat) (x0 : Nat) (x1 : Int32) (x2 : Int32) (x3 : Int32) (mm : Mem) (H : Heap) (locs : List Loc) (ls : Array Slot) (zz : (Int32 × Int32) × Mem), mH D cA base mm H → va_S (mA base) s.heap H locs → lv_has ls 4 [(0, .ref x0), (1, .int x1), (2, .int x2), (3, .int x3)] → f_X4_all_L4 n x0 x1 x2 x3 mm = some zz → (∀ (H : Heap) (locs : List Loc) (ls : Array Slot), mH D cA base zz.2 H → va_S (mA base) s.heap H locs → lv_has ls 4 [(0, .ref x0), (1, .int x1), (2, .int zz.1.1), (3, .int zz.1.2)] → W p l e rm_X4_all s m [.ref a0, .int a1].toArray below meth c H locs 0 0 (MQ below (mQ eI D cA base z) [.ref a0, .int a1].toArray s 0 0 (mA base)) (F0 m 49 ls [])) → W p l e rm_X4_all s m [.ref a0, .int a1].toArray below meth c H locs 0 0 (MQ below (mQ eI D cA base z) [.ref a0, .int a1].toArray s 0 0 (mA base)) (F0 m 4 ls []) := by
    intro n
    induction n with
    | zero =>
      intro x0 x1 x2 x3 mm H locs ls zz hH hS hl h kk
      exact (fl_inv h).elim
    | succ n ih =>
      intro x0 x1 x2 x3 mm H locs ls zz hH hS hl h kk
      unfold f_X4_all_L4 at h
      refine lv_iload_n C.1 C.2.1 dX4_all_4 rfl (lv_at hl 3 rfl) ?_
      refine lv_aload_n C.1 C.2.1 dX4_all_5 rfl (lv_at hl 0 rfl) ?_
      refine r_gI C hT hH (t := 4) (k := 7) (T := TX4) rfl w4 (by decide) (by decide) rfl k102 dX4_all_6 h (fun v1 h => ?_)
      refine lv_icmp_ge (tgt := 49) C.1 C.2.1 dX4_all_9 (by decide) (fun hc => ?_) (fun hc => ?_)
      · have h := ifc_t hc h
        obtain rfl := rt_inv h
        exact kk _ _ _ hH hS (lv_sub hl [0, 1, 2, 3] rfl)
      · have h := ifc_f hc h
        refine lv_iload_n C.1 C.2.1 dX4_all_12 rfl (lv_at hl 2 rfl) ?_
        refine lv_iload_n C.1 C.2.1 dX4_all_13 rfl (lv_at hl 1 rfl) ?_
        refine lv_if_eq (tgt := 30) C.1 C.2.1 dX4_all_14 (by decide) (fun hc => ?_) (fun hc => ?_)
        · have h := ifc_t hc h
          refine lv_aload_n C.1 C.2.1 dX4_all_30 rfl (lv_at hl 0 rfl) ?_
          refine r_gN C hT hH (t := 4) (k := 12) (T := TX4) rfl w4 (by decide) (by decide) rfl k38 dX4_all_31 h (fun b2 h => ?_)
          refine lv_aload_n C.1 C.2.1 dX4_all_34 rfl (lv_at hl 0 rfl) ?_
          refine r_gN C hT hH (t := 4) (k := 8) (T := TX4) rfl w4 (by decide) (by decide) rfl k25 dX4_all_35 h (fun b3 h => ?_)
          refine lv_iload_n C.1 C.2.1 dX4_all_38 rfl (lv_at hl 3 rfl) ?_
          refine r_lI C hT hH dX4_all_39 h (fun v4 h => ?_)
          refine r_lI C hT hH dX4_all_40 h (fun v5 h => ?_)
          refine lv_iadd C.1 C.2.1 dX4_all_41 ?_
          refine lv_istore_n (lv' := [(2, .int (x2 + v5)), (0, .ref x0), (1, .int x1), (3, .int x3)]) C.1 C.2.1 dX4_all_42 rfl hl (by decide) rfl (fun ls hl => ?_)
          refine lv_iinc (v := (x3 + 1)) (lv' := [(3, .int (x3 + 1)), (2, .int (x2 + v5)), (0, .ref x0), (1, .int x1)]) C.1 C.2.1 dX4_all_43 hl (k := 3) rfl rfl (by decide) rfl (fun ls hl => ?_)
          refine lv_goto (tgt := 4) C.1 C.2.1 dX4_all_46 (by decide) ?_
          exact ih x0 x1 (x2 + v5) (x3 + 1) _ _ _ _ _ hH hS (lv_sub hl [2, 3, 1, 0] rfl) h kk
        · have h := ifc_f hc h
          refine lv_aload_n C.1 C.2.1 dX4_all_17 rfl (lv_at hl 0 rfl) ?_
          refine lv_aload_n C.1 C.2.1 dX4_all_18 rfl (lv_at hl 0 rfl) ?_
          refine r_gN C hT hH (t := 4) (k := 8) (T := TX4) rfl w4 (by decide) (by decide) rfl k25 dX4_all_19 h (fun b6 h => ?_)
          refine lv_iload_n C.1 C.2.1 dX4_all_22 rfl (lv_at hl 3 rfl) ?_
          refine r_lI C hT hH dX4_all_23 h (fun v7 h => ?_)
          refine r_callVI C hT hH hS (t := 4) (As := [.int v7]) (fun z1 hz => c_X4_livingOf l D cA base x0 v7 _ z1 hz) (cwV 1 C.2.2.2.2 gX4_all_X4_livingOf rfl rfl rfl (by decide +kernel) ⟨Nat.le_of_ble_eq_true rfl, Nat.le_of_ble_eq_true rfl⟩) rfl (by decide) rfl hl.1 rfl (Nat.le_of_ble_eq_true rfl) dX4_all_24 ⟨by decide, by decide⟩ h (fun v8 mm H locs hH hS h => ?_)
          refine lv_goto (tgt := 41) C.1 C.2.1 dX4_all_27 (by decide) ?_
          refine lv_iadd C.1 C.2.1 dX4_all_41 ?_
          refine lv_istore_n (lv' := [(2, .int (x2 + v8)), (0, .ref x0), (1, .int x1), (3, .int x3)]) C.1 C.2.1 dX4_all_42 rfl hl (by decide) rfl (fun ls hl => ?_)
          refine lv_iinc (v := (x3 + 1)) (lv' := [(3, .int (x3 + 1)), (2, .int (x2 + v8)), (0, .ref x0), (1, .int x1)]) C.1 C.2.1 dX4_all_43 hl (k := 3) rfl rfl (by decide) rfl (fun ls hl => ?_)
          refine lv_goto (tgt := 4) C.1 C.2.1 dX4_all_46 (by decide) ?_
          exact ih x0 x1 (x2 + v8) (x3 + 1) _ _ _ _ _ hH hS (lv_sub hl [2, 3, 1, 0] rfl) h kk
  have hS : va_S (mA base) s.heap s.heap [] := va_S.rf
  have hl := lv_entry ([.ref a0, .int a1]) (n := 4) (Nat.le_of_ble_eq_true rfl)
  rw [lg_entry_eq]
  generalize (lg_sl ([.ref a0, .int a1]) ++ List.replicate (4 - (lg_sl ([.ref a0, .int a1])).length) Slot.unset).toArray = ls at hl ⊢
  have hl : lv_has ls 4 [(0, .ref a0), (1, .int a1)] := hl
  unfold f_X4_all at h
  refine lv_iconst (v := 0) C.1 C.2.1 dX4_all_0 (by decide) ?_
  refine lv_istore_n (lv' := [(2, .int 0), (0, .ref a0), (1, .int a1)]) C.1 C.2.1 dX4_all_1 rfl hl (by decide) rfl (fun ls hl => ?_)
  refine lv_iconst (v := 0) C.1 C.2.1 dX4_all_2 (by decide) ?_
  refine lv_istore_n (lv' := [(3, .int 0), (2, .int 0), (0, .ref a0), (1, .int a1)]) C.1 C.2.1 dX4_all_3 rfl hl (by decide) rfl (fun ls hl => ?_)
  obtain ⟨x9, mx9, hq, h⟩ := bnd_inv h
  refine L4 2100 a0 a1 0 0 _ _ _ _ (x9, mx9) hH hS (lv_sub hl [2, 3, 1, 0] rfl) hq (fun H locs ls hH hS hl => ?_)
  refine lv_iload_n C.1 C.2.1 dX4_all_49 rfl (lv_at hl 2 rfl) ?_
  exact r_iret C hT hH hS hr hlocks (by decide) (by decide) dX4_all_50 h
abbrev rm_X4_count : Room := { frames := 2, cells := 0, slots := 0, locals := 46 }
set_option maxHeartbeats 4000000 in
set_option maxRecDepth 100000 in
theorem c_X4_count (l : Launch) (D : va_G) (cA : Nat → ClassId) (base : Nat) (a0 : Nat) (a1 : Int32) (mm : Mem) (z : (Int32) × Mem) (h : f_X4_count a0 a1 mm = some z) : Met l yX4_count wsX4_count rm_X4_count (va_Pc [.ref a0, .int a1] (mU D cA base mm)) (mQ eI D cA base z) 0 0 (mA base) := by
  refine Met.ofW (cc := cX4_count) (maxL := 4) (ret := (some .int)) (by decide) rfl ?_
  intro p e s m args below meth c s₁ B hml hv
  obtain ⟨rfl, hH, hT⟩ := hv
  have C : CallFix p m c cX4_count 4 s ([.ref a0, .int a1]).toArray wsX4_count RX4 := ⟨B.exec, B.bytes, hml, findClass_of_methodNamed B.named, atoms_spec (ws := wsX4_count) B.pre⟩
  have hr := B.returns
  have hlocks := B.notSynchronized
  have w4 : ∀ w ∈ u_ws RX4 TX4 34, w ∈ wsX4_count := by decide +kernel
  have k7 : Cond.fieldLink RX4 7 "SegmentMergesModel" "value" "[I" ∈ wsX4_count := by decide +kernel
  have k84 : Cond.fieldLink RX4 84 "SegmentMergesModel" "thrown" "I" ∈ wsX4_count := by decide +kernel
  have k87 : Cond.fieldLink RX4 87 "SegmentMergesModel" "remembered" "I" ∈ wsX4_count := by decide +kernel
  have k102 : Cond.fieldLink RX4 102 "SegmentMergesModel" "segments" "I" ∈ wsX4_count := by decide +kernel
  have k116 : Cond.fieldLink RX4 116 "SegmentMergesModel" "written" "I" ∈ wsX4_count := by decide +kernel
  have L9 : ∀ (n : Nat) (x0 : Nat) (x1 : Int32) (x2 : Int32) (x3 : Int32) (mm : Mem) (H : Heap) (locs : List Loc) (ls : Array Slot) (zz : (Int32 × Int32) × Mem), mH D cA base mm H → va_S (mA base) s.heap H locs → lv_has ls 4 [(0, .ref x0), (1, .int x1), (2, .int x2), (3, .int x3)] → f_X4_count_L9 n x0 x1 x2 x3 mm = some zz → (∀ (H : Heap) (locs : List Loc) (ls : Array Slot), mH D cA base zz.2 H → va_S (mA base) s.heap H locs → lv_has ls 4 [(0, .ref x0), (1, .int x1), (2, .int zz.1.1), (3, .int zz.1.2)] → W p l e rm_X4_count s m [.ref a0, .int a1].toArray below meth c H locs 0 0 (MQ below (mQ eI D cA base z) [.ref a0, .int a1].toArray s 0 0 (mA base)) (F0 m 38 ls [])) → W p l e rm_X4_count s m [.ref a0, .int a1].toArray below meth c H locs 0 0 (MQ below (mQ eI D cA base z) [.ref a0, .int a1].toArray s 0 0 (mA base)) (F0 m 9 ls []) := by
    intro n
    induction n with
    | zero =>
      intro x0 x1 x2 x3 mm H locs ls zz hH hS hl h kk
      exact (fl_inv h).elim
    | succ n ih =>
      intro x0 x1 x2 x3 mm H locs ls zz hH hS hl h kk
      unfold f_X4_count_L9 at h
      refine lv_iload_n C.1 C.2.1 dX4_count_9 rfl (lv_at hl 3 rfl) ?_
      refine lv_bipush (v := 100) C.1 C.2.1 dX4_count_10 (by decide) ?_
      refine lv_icmp_ge (tgt := 38) C.1 C.2.1 dX4_count_12 (by decide) (fun hc => ?_) (fun hc => ?_)
      · have h := ifc_t hc h
        obtain rfl := rt_inv h
        exact kk _ _ _ hH hS (lv_sub hl [0, 1, 2, 3] rfl)
      · have h := ifc_f hc h
        refine lv_iload_n C.1 C.2.1 dX4_count_15 rfl (lv_at hl 2 rfl) ?_
        refine lv_aload_n C.1 C.2.1 dX4_count_16 rfl (lv_at hl 0 rfl) ?_
        refine r_gN C hT hH (t := 4) (k := 1) (T := TX4) rfl w4 (by decide) (by decide) rfl k7 dX4_count_17 h (fun b1 h => ?_)
        refine lv_iload_n C.1 C.2.1 dX4_count_20 rfl (lv_at hl 3 rfl) ?_
        refine r_lI C hT hH dX4_count_21 h (fun v2 h => ?_)
        refine lv_if_lt (tgt := 29) C.1 C.2.1 dX4_count_22 (by decide) (fun hc => ?_) (fun hc => ?_)
        · have h := ifc_t hc h
          refine lv_iconst (v := 0) C.1 C.2.1 dX4_count_29 (by decide) ?_
          refine lv_iadd C.1 C.2.1 dX4_count_30 ?_
          refine lv_istore_n (lv' := [(2, .int (x2 + 0)), (0, .ref x0), (1, .int x1), (3, .int x3)]) C.1 C.2.1 dX4_count_31 rfl hl (by decide) rfl (fun ls hl => ?_)
          refine lv_iinc (v := (x3 + 1)) (lv' := [(3, .int (x3 + 1)), (2, .int (x2 + 0)), (0, .ref x0), (1, .int x1)]) C.1 C.2.1 dX4_count_32 hl (k := 3) rfl rfl (by decide) rfl (fun ls hl => ?_)
          refine lv_goto (tgt := 9) C.1 C.2.1 dX4_count_35 (by decide) ?_
          exact ih x0 x1 (x2 + 0) (x3 + 1) _ _ _ _ _ hH hS (lv_sub hl [2, 3, 1, 0] rfl) h kk
        · have h := ifc_f hc h
          refine lv_iconst (v := 1) C.1 C.2.1 dX4_count_25 (by decide) ?_
          refine lv_goto (tgt := 30) C.1 C.2.1 dX4_count_26 (by decide) ?_
          refine lv_iadd C.1 C.2.1 dX4_count_30 ?_
          refine lv_istore_n (lv' := [(2, .int (x2 + 1)), (0, .ref x0), (1, .int x1), (3, .int x3)]) C.1 C.2.1 dX4_count_31 rfl hl (by decide) rfl (fun ls hl => ?_)
          refine lv_iinc (v := (x3 + 1)) (lv' := [(3, .int (x3 + 1)), (2, .int (x2 + 1)), (0, .ref x0), (1, .int x1)]) C.1 C.2.1 dX4_count_32 hl (k := 3) rfl rfl (by decide) rfl (fun ls hl => ?_)
          refine lv_goto (tgt := 9) C.1 C.2.1 dX4_count_35 (by decide) ?_
          exact ih x0 x1 (x2 + 1) (x3 + 1) _ _ _ _ _ hH hS (lv_sub hl [2, 3, 1, 0] rfl) h kk
  have hS : va_S (mA base) s.heap s.heap [] := va_S.rf
  have hl := lv_entry ([.ref a0, .int a1]) (n := 4) (Nat.le_of_ble_eq_true rfl)
  rw [lg_entry_eq]
  generalize (lg_sl ([.ref a0, .int a1]) ++ List.replicate (4 - (lg_sl ([.ref a0, .int a1])).length) Slot.unset).toArray = ls at hl ⊢
  have hl : lv_has ls 4 [(0, .ref a0), (1, .int a1)] := hl
  unfold f_X4_count at h
  refine lv_aload_n C.1 C.2.1 dX4_count_0 rfl (lv_at hl 0 rfl) ?_
  refine lv_iconst (v := 0) C.1 C.2.1 dX4_count_1 (by decide) ?_
  refine r_pI C hT hH hS (t := 4) (k := 0) (T := TX4) rfl w4 tyX4_ok nmX4 (by decide) (by decide) rfl rfl k84 (Or.inl rfl) dX4_count_2 h (fun mm H locs hH hS h => ?_)
  refine lv_iconst (v := 0) C.1 C.2.1 dX4_count_5 (by decide) ?_
  refine lv_istore_n (lv' := [(2, .int 0), (0, .ref a0), (1, .int a1)]) C.1 C.2.1 dX4_count_6 rfl hl (by decide) rfl (fun ls hl => ?_)
  refine lv_iconst (v := 0) C.1 C.2.1 dX4_count_7 (by decide) ?_
  refine lv_istore_n (lv' := [(3, .int 0), (2, .int 0), (0, .ref a0), (1, .int a1)]) C.1 C.2.1 dX4_count_8 rfl hl (by decide) rfl (fun ls hl => ?_)
  obtain ⟨x3, mx3, hq, h⟩ := bnd_inv h
  refine L9 2100 a0 a1 0 0 _ _ _ _ (x3, mx3) hH hS (lv_sub hl [2, 3, 1, 0] rfl) hq (fun H locs ls hH hS hl => ?_)
  refine lv_iload_n C.1 C.2.1 dX4_count_38 rfl (lv_at hl 1 rfl) ?_
  refine lv_if_ne (tgt := 49) C.1 C.2.1 dX4_count_39 (by decide) (fun hc => ?_) (fun hc => ?_)
  · have h := ifc_f hc h
    refine lv_iload_n C.1 C.2.1 dX4_count_49 rfl (lv_at hl 1 rfl) ?_
    refine lv_iconst (v := 1) C.1 C.2.1 dX4_count_50 (by decide) ?_
    refine lv_icmp_ne (tgt := 61) C.1 C.2.1 dX4_count_51 (by decide) (fun hc => ?_) (fun hc => ?_)
    · have h := ifc_f hc h
      refine lv_iload_n C.1 C.2.1 dX4_count_61 rfl (lv_at hl 1 rfl) ?_
      refine lv_iconst (v := 2) C.1 C.2.1 dX4_count_62 (by decide) ?_
      refine lv_icmp_ne (tgt := 74) C.1 C.2.1 dX4_count_63 (by decide) (fun hc => ?_) (fun hc => ?_)
      · have h := ifc_f hc h
        refine lv_iload_n C.1 C.2.1 dX4_count_74 rfl (lv_at hl 1 rfl) ?_
        refine lv_iconst (v := 3) C.1 C.2.1 dX4_count_75 (by decide) ?_
        refine lv_icmp_ne (tgt := 87) C.1 C.2.1 dX4_count_76 (by decide) (fun hc => ?_) (fun hc => ?_)
        · have h := ifc_f hc h
          refine lv_iload_n C.1 C.2.1 dX4_count_87 rfl (lv_at hl 1 rfl) ?_
          refine lv_iconst (v := 4) C.1 C.2.1 dX4_count_88 (by decide) ?_
          refine lv_icmp_ne (tgt := 99) C.1 C.2.1 dX4_count_89 (by decide) (fun hc => ?_) (fun hc => ?_)
          · have h := ifc_f hc h
            refine lv_iload_n C.1 C.2.1 dX4_count_99 rfl (lv_at hl 1 rfl) ?_
            refine lv_iconst (v := 5) C.1 C.2.1 dX4_count_100 (by decide) ?_
            refine lv_icmp_ne (tgt := 108) C.1 C.2.1 dX4_count_101 (by decide) (fun hc => ?_) (fun hc => ?_)
            · have h := ifc_f hc h
              refine lv_bipush (v := (-2)) C.1 C.2.1 dX4_count_108 (by decide) ?_
              exact r_iret C hT hH hS hr hlocks (by decide) (by decide) dX4_count_110 h
            · have h := ifc_t hc h
              refine lv_iload_n C.1 C.2.1 dX4_count_104 rfl (lv_at hl 2 rfl) ?_
              refine lv_goto (tgt := 110) C.1 C.2.1 dX4_count_105 (by decide) ?_
              exact r_iret C hT hH hS hr hlocks (by decide) (by decide) dX4_count_110 h
          · have h := ifc_t hc h
            refine lv_aload_n C.1 C.2.1 dX4_count_92 rfl (lv_at hl 0 rfl) ?_
            refine r_gI C hT hH (t := 4) (k := 17) (T := TX4) rfl w4 (by decide) (by decide) rfl k116 dX4_count_93 h (fun v4 h => ?_)
            refine lv_goto (tgt := 110) C.1 C.2.1 dX4_count_96 (by decide) ?_
            exact r_iret C hT hH hS hr hlocks (by decide) (by decide) dX4_count_110 h
        · have h := ifc_t hc h
          refine lv_aload_n C.1 C.2.1 dX4_count_79 rfl (lv_at hl 0 rfl) ?_
          refine lv_iconst (v := 1) C.1 C.2.1 dX4_count_80 (by decide) ?_
          refine r_callVI C hT hH hS (t := 4) (As := [.int 1]) (fun z1 hz => c_X4_all l D cA base a0 1 _ z1 hz) (cwV 1 C.2.2.2.2 gX4_count_X4_all rfl rfl rfl (by decide +kernel) ⟨Nat.le_of_ble_eq_true rfl, Nat.le_of_ble_eq_true rfl⟩) rfl (by decide) rfl hl.1 rfl (Nat.le_of_ble_eq_true rfl) dX4_count_81 ⟨by decide, by decide⟩ h (fun v5 mm H locs hH hS h => ?_)
          refine lv_goto (tgt := 110) C.1 C.2.1 dX4_count_84 (by decide) ?_
          exact r_iret C hT hH hS hr hlocks (by decide) (by decide) dX4_count_110 h
      · have h := ifc_t hc h
        refine lv_aload_n C.1 C.2.1 dX4_count_66 rfl (lv_at hl 0 rfl) ?_
        refine lv_iconst (v := 0) C.1 C.2.1 dX4_count_67 (by decide) ?_
        refine r_callVI C hT hH hS (t := 4) (As := [.int 0]) (fun z1 hz => c_X4_all l D cA base a0 0 _ z1 hz) (cwV 1 C.2.2.2.2 gX4_count_X4_all rfl rfl rfl (by decide +kernel) ⟨Nat.le_of_ble_eq_true rfl, Nat.le_of_ble_eq_true rfl⟩) rfl (by decide) rfl hl.1 rfl (Nat.le_of_ble_eq_true rfl) dX4_count_68 ⟨by decide, by decide⟩ h (fun v6 mm H locs hH hS h => ?_)
        refine lv_goto (tgt := 110) C.1 C.2.1 dX4_count_71 (by decide) ?_
        exact r_iret C hT hH hS hr hlocks (by decide) (by decide) dX4_count_110 h
    · have h := ifc_t hc h
      refine lv_aload_n C.1 C.2.1 dX4_count_54 rfl (lv_at hl 0 rfl) ?_
      refine r_gI C hT hH (t := 4) (k := 7) (T := TX4) rfl w4 (by decide) (by decide) rfl k102 dX4_count_55 h (fun v7 h => ?_)
      refine lv_goto (tgt := 110) C.1 C.2.1 dX4_count_58 (by decide) ?_
      exact r_iret C hT hH hS hr hlocks (by decide) (by decide) dX4_count_110 h
  · have h := ifc_t hc h
    refine lv_aload_n C.1 C.2.1 dX4_count_42 rfl (lv_at hl 0 rfl) ?_
    refine r_gI C hT hH (t := 4) (k := 5) (T := TX4) rfl w4 (by decide) (by decide) rfl k87 dX4_count_43 h (fun v8 h => ?_)
    refine lv_goto (tgt := 110) C.1 C.2.1 dX4_count_46 (by decide) ?_
    exact r_iret C hT hH hS hr hlocks (by decide) (by decide) dX4_count_110 h
abbrev rm_X4_isPlace : Room := { frames := 1, cells := 0, slots := 0, locals := 22 }
set_option maxHeartbeats 4000000 in
set_option maxRecDepth 100000 in
theorem c_X4_isPlace (l : Launch) (D : va_G) (cA : Nat → ClassId) (base : Nat) (a0 : Nat) (a1 : Int32) (mm : Mem) (z : (Int32) × Mem) (h : f_X4_isPlace a0 a1 mm = some z) : Met l yX4_isPlace wsX4_isPlace rm_X4_isPlace (va_Pc [.ref a0, .int a1] (mU D cA base mm)) (mQ eI D cA base z) 0 0 (mA base) := by
  refine Met.ofW (cc := cX4_isPlace) (maxL := 2) (ret := (some .boolean)) (by decide) rfl ?_
  intro p e s m args below meth c s₁ B hml hv
  obtain ⟨rfl, hH, hT⟩ := hv
  have C : CallFix p m c cX4_isPlace 2 s ([.ref a0, .int a1]).toArray wsX4_isPlace RX4 := ⟨B.exec, B.bytes, hml, findClass_of_methodNamed B.named, atoms_spec (ws := wsX4_isPlace) B.pre⟩
  have hr := B.returns
  have hlocks := B.notSynchronized
  have w4 : ∀ w ∈ u_ws RX4 TX4 34, w ∈ wsX4_isPlace := by decide +kernel
  have k102 : Cond.fieldLink RX4 102 "SegmentMergesModel" "segments" "I" ∈ wsX4_isPlace := by decide +kernel
  have hS : va_S (mA base) s.heap s.heap [] := va_S.rf
  have hl := lv_entry ([.ref a0, .int a1]) (n := 2) (Nat.le_of_ble_eq_true rfl)
  rw [lg_entry_eq]
  generalize (lg_sl ([.ref a0, .int a1]) ++ List.replicate (2 - (lg_sl ([.ref a0, .int a1])).length) Slot.unset).toArray = ls at hl ⊢
  have hl : lv_has ls 2 [(0, .ref a0), (1, .int a1)] := hl
  unfold f_X4_isPlace at h
  refine lv_iload_n C.1 C.2.1 dX4_isPlace_0 rfl (lv_at hl 1 rfl) ?_
  refine lv_iconst (v := 0) C.1 C.2.1 dX4_isPlace_1 (by decide) ?_
  refine lv_aload_n C.1 C.2.1 dX4_isPlace_2 rfl (lv_at hl 0 rfl) ?_
  refine r_gI C hT hH (t := 4) (k := 7) (T := TX4) rfl w4 (by decide) (by decide) rfl k102 dX4_isPlace_3 h (fun v1 h => ?_)
  refine lv_iconst (v := 1) C.1 C.2.1 dX4_isPlace_6 (by decide) ?_
  refine lv_isub C.1 C.2.1 dX4_isPlace_7 ?_
  refine r_callSI C hT hH hS (As := [.int a1, .int 0, .int (v1 - 1)]) (fun z1 hz => c_X4_in l D cA base a1 0 (v1 - 1) _ z1 hz) (va_cwS 3 C.2.2.2.2 gX4_isPlace_X4_in rfl rfl rfl (by decide +kernel) ⟨Nat.le_of_ble_eq_true rfl, Nat.le_of_ble_eq_true rfl⟩) rfl hl.1 rfl (Nat.le_of_ble_eq_true rfl) dX4_isPlace_8 ⟨by decide, by decide⟩ h (fun v2 mm H locs hH hS h => ?_)
  exact r_zret C hT hH hS hr hlocks (by decide) (by decide) dX4_isPlace_11 h
