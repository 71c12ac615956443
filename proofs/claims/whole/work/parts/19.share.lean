/-! share(): it answers or throws; the law's own share() catches it -/
def reS (m : Mem) (n : Nat) : Mem := (m.1, m.2.1, m.2.2.1, m.2.2.2.1, n)
def AE : String := "java/lang/ArithmeticException"
abbrev AEn : List String := ["java/lang/RuntimeException", "java/lang/Exception"]
abbrev AEb : List Cond := [.declares (Bundle.initS "java/lang/RuntimeException"), .declares (Bundle.initS "java/lang/Exception"), .declares (Bundle.initS Bundle.tN), .castable AE AE]
def mX (base sa : Nat) (U : State) : Prop := va_Nw (.declares (Bundle.initS "java/lang/RuntimeException")) U ∧ va_Nw (.declares (Bundle.initS "java/lang/Exception")) U ∧ va_Nw (.declares (Bundle.initS Bundle.tN)) U ∧ va_Nw (.castable AE AE) U ∧ vk_R RX3 176 "there are no rows in segments" sa U ∧ vx_Zq Bundle.tN "UNASSIGNED_STACK" Bundle.steD (mA base) U U.heap ∧ vx_Zq Bundle.tN "SUPPRESSED_SENTINEL" Bundle.listD (mA base) U U.heap
theorem mX.moved {base sa : Nat} {s U : State} (hW : s.WarmedH U.vm) (hk : ∀ a : Nat, a < s.heap.size → ¬ mA base a → U.heap[a]? = s.heap[a]?) (h : mX base sa s) : mX base sa U := by
  obtain ⟨h1, h2, h3, h4, h5, h6, h7⟩ := h
  exact ⟨h1.warmD hW, h2.warmD hW, h3.warmD hW, h4.warmC hW, h5.warm hW, (h6.moved hW.alike).kept hk, (h7.moved hW.alike).kept hk⟩
theorem mX.same {base sa : Nat} {s U : State} (hvm : s.vm = U.vm) (hh : U.heap = s.heap) (h : mX base sa s) : mX base sa U := by
  obtain ⟨h1, h2, h3, h4, h5, h6, h7⟩ := h
  have ha : s.vm.Alike U.vm := by rw [← hvm]; exact Vm.Alike.refl s.vm
  exact ⟨h1.same rfl hvm, h2.same rfl hvm, h3.same rfl hvm, h4.same rfl hvm, h5.same hvm.symm, by rw [hh]; exact h6.moved ha, by rw [hh]; exact h7.moved ha⟩
def f_X3_share (a0 : Nat) : HM (Option Int32) := bnd (cl 3 a0 (f_X3_rowsInSegments a0)) fun v1 => ifc (v1 = 0) (rt none) (bnd (gI 3 a0 3) fun v2 => bnd (cl 3 a0 (f_X3_livingFrom a0 0 v2)) fun v3 => bnd (dv (1000 * v3) v1) fun v4 => rt (some v4))
def f_L_share (a0 a1 : Nat) : HM Int32 := bnd (cl 3 a0 (f_X3_share a0)) fun r => match r with
  | none => rt 1
  | some v => bnd (sI 9 a1 0 v) fun _ => rt 0
theorem mH_grow {D : va_G} {cA : Nat → ClassId} {base : Nat} {m : Mem} {H H1 : Heap} (h : mH D cA base m H) (hz : H.size ≤ H1.size) (hk : ∀ q : Nat, q < H.size → H1[q]? = H[q]?) : mS m ≤ H1.size ∧ mH D cA base (reS m H1.size) H1 := by
  obtain ⟨h1, h2, h3, h4⟩ := h
  refine ⟨by omega, rfl, by show base ≤ H1.size; omega, fun a ha => ?_, fun a => mC_keep rfl rfl rfl rfl (fun hb => hk a (by rw [h1]; exact (h3 a hb).2)) (h4 a)⟩
  have := h3 a ha
  show base ≤ a ∧ a < H1.size
  omega
abbrev rm_X3_share : Room := { frames := 6, cells := 1, slots := 6, locals := 90 }
set_option maxHeartbeats 4000000 in
set_option maxRecDepth 100000 in
theorem c_X3_share (l : Launch) (hl0 : l.stackTraces = false) (D : va_G) (cA : Nat → ClassId) (base sa : Nat) (a0 : Nat) (mm : Mem) (z : Option Int32 × Mem) (h : f_X3_share a0 mm = some z) : vx_Met l yX3_share wsX3_share rm_X3_share (va_Pc [.ref a0] (fun U => mU D cA base mm U ∧ mX base sa U)) (fun _ st oc t => ∃ r, z.1 = some r ∧ oc = .returned (some (.int r)) ∧ mH D cA base z.2 t.heap ∧ va_F (mA base) st t) (fun E st t => z.1 = none ∧ E = AE ∧ (∃ n, mS z.2 ≤ n ∧ mH D cA base (reS z.2 n) t.heap) ∧ va_F (mA base) st t) 1 6 (mA base) := by
  refine vx_ofW (cc := cX3_share) (maxL := 2) (ret := some .int) (by decide) rfl ?_
  intro p e s m args below meth c s₁ B hml hnt hv
  obtain ⟨rfl, ⟨hH, hT⟩, hXX⟩ := hv
  have C : CallFix p m c cX3_share 2 s ([.ref a0]).toArray wsX3_share RX3 := ⟨B.exec, B.bytes, hml, findClass_of_methodNamed B.named, atoms_spec (ws := wsX3_share) B.pre⟩
  have hr := B.returns
  have hlocks := B.notSynchronized
  have w3 : ∀ w ∈ u_ws RX3 TX3 11, w ∈ wsX3_share := by decide +kernel
  have k26 : Cond.fieldLink RX3 26 "SegmentMerges" "segmentCount" "I" ∈ wsX3_share := by decide +kernel
  have hS : va_S (mA base) s.heap s.heap [] := va_S.rf
  have hl := lv_entry ([.ref a0]) (n := 2) (Nat.le_of_ble_eq_true rfl)
  rw [lg_entry_eq]
  generalize (lg_sl ([.ref a0]) ++ List.replicate (2 - (lg_sl ([.ref a0])).length) Slot.unset).toArray = ls at hl ⊢
  have hl : lv_has ls 2 [(0, .ref a0)] := hl
  unfold f_X3_share at h
  refine lv_aload_n C.1 C.2.1 dX3_share_0 rfl (lv_at hl 0 rfl) ?_
  refine r_callVI C hT hH hS (t := 3) (As := []) (fun z1 hz => c_X3_rowsInSegments l D cA base a0 _ z1 hz) (cwV 0 C.2.2.2.2 gX3_share_X3_rowsInSegments rfl rfl rfl (by decide +kernel) ⟨Nat.le_of_ble_eq_true rfl, Nat.le_of_ble_eq_true rfl⟩) rfl (by decide) rfl hl.1 rfl (Nat.le_of_ble_eq_true rfl) dX3_share_1 ⟨by decide, by decide⟩ h (fun v1 mm H locs hH hS h => ?_)
  refine lv_istore_n (lv' := [(1, .int v1), (0, .ref a0)]) C.1 C.2.1 dX3_share_4 rfl hl (by decide) rfl (fun ls hl => ?_)
  refine lv_iload_n C.1 C.2.1 dX3_share_5 rfl (lv_at hl 0 rfl) ?_
  refine lv_if_ne (tgt := 19) C.1 C.2.1 dX3_share_6 (by decide) (fun hc => ?_) (fun hc => ?_)
  · have h := ifc_f hc h
    refine lv_sipush (v := 1000) C.1 C.2.1 dX3_share_19 (by decide) ?_
    refine lv_aload_n C.1 C.2.1 dX3_share_22 rfl (lv_at hl 1 rfl) ?_
    refine lv_iconst (v := 0) C.1 C.2.1 dX3_share_23 (by decide) ?_
    refine lv_aload_n C.1 C.2.1 dX3_share_24 rfl (lv_at hl 1 rfl) ?_
    refine r_gI C hT hH (t := 3) (k := 3) (T := TX3) rfl w3 (by decide) (by decide) rfl k26 dX3_share_25 h (fun v2 h => ?_)
    refine r_callVI C hT hH hS (t := 3) (As := [.int 0, .int v2]) (fun z1 hz => c_X3_livingFrom l D cA base a0 0 v2 _ z1 hz) (cwV 2 C.2.2.2.2 gX3_share_X3_livingFrom rfl rfl rfl (by decide +kernel) ⟨Nat.le_of_ble_eq_true rfl, Nat.le_of_ble_eq_true rfl⟩) rfl (by decide) rfl hl.1 rfl (Nat.le_of_ble_eq_true rfl) dX3_share_28 ⟨by decide, by decide⟩ h (fun v3 mm H locs hH hS h => ?_)
    refine lv_imul C.1 C.2.1 dX3_share_31 ?_
    refine lv_iload_n C.1 C.2.1 dX3_share_32 rfl (lv_at hl 0 rfl) ?_
    refine r_dv C dX3_share_33 h (fun v4 h => ?_)
    obtain rfl := rt_inv h
    refine vx_ret ?_
    refine W.widen (k := 1) (n := 6) (by decide) (by decide) ?_
    exact W.iret C.1 C.2.1 hr (fun t ht hW => ⟨v4, rfl, rfl, by rw [ht]; exact hH, hS.F ht⟩) hS.2.2 dX3_share_34 hlocks
  · have h := ifc_t hc h
    obtain rfl := rt_inv h
    have hat : ∀ w ∈ vx_atS RX3 178 AE AEn, w.before ([.ref a0] : List Value).toArray s = true := vx_hat (fun w hw => C.2.2.2.2 w (List.mem_cons_of_mem _ (List.mem_append_right _ hw))) (B := AEb) (by decide +kernel) (vx_c (va_Nw.use rfl hXX.1) (vx_c (va_Nw.use rfl hXX.2.1) (vx_c (va_Nw.use rfl hXX.2.2.1) (vx_c (va_Nw.use rfl hXX.2.2.2.1) vx_n))))
    refine vx_throwS C.1 C.2.1 hl0 (own := RX3) (cls := AE) (text := "there are no rows in segments") (names := AEn) (ik := 174) (is := 176) (ic := 178) (sa := sa) (A := mA base) C.2.2.2.1 (by decide) (by decide) (C.2.2.2.2 _ (by decide +kernel)) (C.2.2.2.2 _ (by decide +kernel)) hXX.2.2.2.2.1 hat (by decide +kernel) hXX.2.2.2.2.2.1 hXX.2.2.2.2.2.2 hS (by rw [C.2.2.1]; exact hl.1) dX3_share_9 dX3_share_12 dX3_share_13 dX3_share_15 dX3_share_18 (fun x hx => (hnt x hx).elim) (by decide) (Nat.le_of_ble_eq_true rfl) (by decide) (by decide) hlocks (fun t hvm g1 g2 => ?_) hS.2.2 (by decide) (by decide)
    obtain ⟨q1, q2⟩ := mH_grow hH g1 g2
    exact ⟨rfl, rfl, ⟨_, q1, q2⟩, ⟨Nat.le_trans hS.1 g1, fun q b1 b2 => by rw [g2 q (Nat.lt_of_lt_of_le b1 hS.1)]; exact hS.2.1 q b1 b2⟩⟩
theorem Met_of_vx {l : Launch} {y : MethodName} {ws : List Cond} {rm : Room} {Pc : Array Value → State → Prop} {Qc : Array Value → State → Outcome → State → Prop} {mc ms : Nat} {free : Addr → Prop} (h : vx_Met l y ws rm Pc Qc (fun _ _ _ => False) mc ms free) : Met l y ws rm Pc Qc mc ms free := by
  intro p e ha hc hk s m args below hf happ hP ht
  obtain ⟨k, o, h1, h2, h3, hQ⟩ := h p e ha hc hk s m args below hf happ hP ht
  refine ⟨k, o, h1, h2, h3, ?_⟩
  rcases hQ with hQ | ⟨q, -, E, ce, L, hx, -⟩
  · exact hQ
  · exact hx.elim
def mQS (D : va_G) (cA : Nat → ClassId) (base : Nat) (z : Int32 × Mem) : Array Value → State → Outcome → State → Prop := fun _ st oc t => oc = .returned (some (.int z.1)) ∧ (∃ n, mS z.2 ≤ n ∧ mH D cA base (reS z.2 n) t.heap) ∧ va_F (mA base) st t
abbrev rm_L_share : Room := { frames := 7, cells := 1, slots := 6, locals := 120 }
set_option maxHeartbeats 4000000 in
set_option maxRecDepth 100000 in
theorem c_L_share (l : Launch) (hl0 : l.stackTraces = false) (D : va_G) (cA : Nat → ClassId) (base sa : Nat) (a0 a1 : Nat) (mm : Mem) (z : Int32 × Mem) (h : f_L_share a0 a1 mm = some z) : Met l yL_share wsL_share rm_L_share (va_Pc [.ref a0, .ref a1] (fun U => mU D cA base mm U ∧ mX base sa U)) (mQS D cA base z) 1 6 (mA base) := by
  refine Met_of_vx ?_
  refine vx_ofWH (cc := cL_share) (maxL := 3) (ret := some .int) (hh := [(0, 8, 11, 13)]) (by decide) rfl ?_
  intro p e s m args below meth c s₁ B hml hv
  obtain ⟨rfl, ⟨hH, hT⟩, hXX⟩ := hv
  have C : CallFix p m c cL_share 3 s ([.ref a0, .ref a1]).toArray wsL_share RL := ⟨B.exec, B.bytes, hml, findClass_of_methodNamed B.named, atoms_spec (ws := wsL_share) B.pre⟩
  have hr := B.returns
  have hlocks := B.notSynchronized
  have htab := vx_table (x := yL_share) B (C.2.2.2.2 (.codeWith yL_share cL_share 3 (some .int) [(0, 8, 11, 13)]) List.mem_cons_self)
  have hS : va_S (mA base) s.heap s.heap [] := va_S.rf
  have hl := lv_entry ([.ref a0, .ref a1]) (n := 3) (Nat.le_of_ble_eq_true rfl)
  rw [lg_entry_eq]
  generalize (lg_sl ([.ref a0, .ref a1]) ++ List.replicate (3 - (lg_sl ([.ref a0, .ref a1])).length) Slot.unset).toArray = ls at hl ⊢
  have hl : lv_has ls 3 [(0, .ref a0), (1, .ref a1)] := hl
  unfold f_L_share at h
  refine lv_aload_n C.1 C.2.1 dL_share_0 rfl (lv_at hl 1 rfl) ?_
  refine lv_iconst (v := 0) C.1 C.2.1 dL_share_1 (by decide) ?_
  refine lv_aload_n C.1 C.2.1 dL_share_2 rfl (lv_at hl 0 rfl) ?_
  obtain ⟨r, m1, hq, h⟩ := bnd_inv h
  obtain ⟨hkb, hq⟩ := cl_inv hq
  have run := vx_runV (R := (headSpec wsL_share rm_L_share).room) (H := s.heap) (locs := []) (cells := 0) (slots := 0) (g := F0 m (0 + 1 + 1 + 1) ls [.ref a0, .int 0, .ref a1]) (rest := [.int 0, .ref a1]) (As := []) (b := a0) C (c_X3_share l hl0 D cA base sa a0 mm (r, m1) hq) (cwV 0 C.2.2.2.2 gL_share_X3_share rfl rfl rfl (by decide +kernel) ⟨Nat.le_of_ble_eq_true rfl, Nat.le_of_ble_eq_true rfl⟩)
    (e := e) (below := below) (meth := meth)
    ⟨fun a U g mk q => ⟨q.1, ⟨q.2.1.1, mT.same (u := U) (U := U.calling g mk a) rfl q.2.1.2⟩, mX.same (s := U) (U := U.calling g mk a) rfl rfl q.2.2⟩, by
      obtain ⟨cell, q1, q2, q3, q4⟩ := r_obj (t := 3) hT hH rfl (by decide) hkb
      exact ⟨cell, q1, by rw [q3]; rfl, by rw [q2]; exact (hT.1 3 _ rfl).2.1⟩, fun U hU hW => ⟨rfl, ⟨by rw [hU]; exact hH, mT.moved hW hT⟩, hXX.moved hW (fun a _ _ => by rw [hU])⟩⟩
    rfl rfl hl.1 rfl (lv_room (Nat.le_of_ble_eq_true rfl)) dL_share_3 ⟨by decide, by decide⟩
  intro T hTh X
  rcases run T hTh X with ⟨v, st₀, t, T', L, h0, X', hL, e1, e2, ⟨r9, hz9, hv9, hH9, hF9⟩, st⟩ | ⟨q, st₀, t, T', L, E, ce, h0, X', hL, e1, e2, ⟨hz9, hE, ⟨n9, hn9, hH9⟩, hF9⟩, hce, hcv, hcl, st⟩
  · cases hv9
    dsimp only at hz9 hH9
    subst hz9
    rw [← e1] at hH9
    obtain ⟨k1, k2, k3⟩ := vx_keep (A0 := mA base) (free := mA base) h0 e1 hS (fun q _ h => h) (fun q h => h) hL hF9
    have K : W p l e (headSpec wsL_share rm_L_share).room s m ([.ref a0, .ref a1] : List Value).toArray below meth c T'.heap ([] ++ L) 1 6 (vx_MQ below (mQS D cA base z) (fun _ _ _ => False) ([.ref a0, .ref a1] : List Value).toArray s 1 6 (mA base)) (F0 m 6 ls [.int r9, .int 0, .ref a1]) := by
      refine lv_i2l (v := Int32.toInt64 r9) C.1 C.2.1 dL_share_6 rfl ?_
      refine r_sJ C hT hH9 k3 dL_share_7 h (fun mm H locs hH hS h => ?_)
      refine lv_goto (tgt := 14) C.1 C.2.1 dL_share_8 (by decide) ?_
      refine lv_iconst (v := 0) C.1 C.2.1 dL_share_14 (by decide) ?_
      obtain rfl := rt_inv h
      refine vx_ret ?_
      exact W.iret C.1 C.2.1 hr (fun t ht hW => ⟨rfl, ⟨mS mm, Nat.le_refl _, by rw [ht]; exact hH⟩, hS.F ht⟩) hS.2.2 dL_share_15 hlocks
    obtain ⟨t2, a1, b1⟩ := K T' rfl X'
    exact ⟨t2, st t2 a1, b1⟩
  · subst hE
    dsimp only at hz9 hH9 hn9
    subst hz9
    rw [← e1] at hH9
    obtain ⟨k1, k2, k3⟩ := vx_keep (A0 := mA base) (free := mA base) h0 e1 hS (fun q _ h => h) (fun q h => h) hL hF9
    have K : vx_W p l e (headSpec wsL_share rm_L_share).room s m ([.ref a0, .ref a1] : List Value).toArray below meth c T'.heap ([] ++ L) 1 6 (vx_MQ below (mQS D cA base z) (fun _ _ _ => False) ([.ref a0, .ref a1] : List Value).toArray s 1 6 (mA base)) (F0 m (0 + 1 + 1 + 1) ls [.int 0, .ref a1]) q := by
      refine vx_catch (own := RL) (name := AE) (E := AE) C.2.2.2.1 [] { startPc := 0, endPc := 8, handlerPc := 11, catchType := 13 } [] (by rw [htab]; rfl) (fun z hz => by cases hz) (by decide) (by decide) (C.2.2.2.2 _ (by decide +kernel)) (va_Nw.use rfl hXX.2.2.2.1) (by rw [e1]; exact hce) hcv hcl ?_
      refine lv_astore_n (lv' := [(2, .ref q), (0, .ref a0), (1, .ref a1)]) C.1 C.2.1 dL_share_11 rfl hl (by decide) rfl (fun ls hl => ?_)
      refine lv_iconst (v := 1) C.1 C.2.1 dL_share_12 (by decide) ?_
      obtain rfl := rt_inv h
      refine vx_ret ?_
      exact W.iret C.1 C.2.1 hr (fun t ht hW => ⟨rfl, ⟨n9, hn9, by rw [ht]; exact hH9⟩, k3.F ht⟩) k3.2.2 dL_share_13 hlocks
    obtain ⟨t2, a1, b1⟩ := K T' rfl X'
    exact ⟨t2, st.trans a1, b1⟩
