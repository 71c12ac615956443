section
-- ===== PART A: goes FIRST, ahead of the names: the tables' words, and 'selects' of the private methods out of them =====
/-- a private method of a class that the tables say can be made, by its rows of tables_1 -/
def lw_okq (q : MethodName × Nat) : Prop := (q.1.cls ≠ "java/lang/invoke/MethodHandle" ∧ q.1.cls ≠ "java/lang/invoke/VarHandle") ∧ Cond.instantiable q.1.cls q.2 ∈ tables_1 ∧ Cond.privateMethod q.1 ∈ tables_1 ∧ Cond.instanceMethod q.1 ∈ tables_1
theorem lw_p0 : lw_okq (⟨"SegmentMerges", "killRowOf", "(I)V"⟩, 11) := ⟨⟨by decide +kernel, by decide +kernel⟩, List.mem_of_getElem? (i := 14) (by decide +kernel), List.mem_of_getElem? (i := 94) (by decide +kernel), List.mem_of_getElem? (i := 95) (by decide +kernel)⟩
theorem lw_p1 : lw_okq (⟨"SegmentMerges$Memory", "rankOf", "(I)I"⟩, 3) := ⟨⟨by decide +kernel, by decide +kernel⟩, List.mem_of_getElem? (i := 22) (by decide +kernel), List.mem_of_getElem? (i := 176) (by decide +kernel), List.mem_of_getElem? (i := 177) (by decide +kernel)⟩
theorem lw_p2 : lw_okq (⟨"SegmentMerges", "rowsInSegments", "()I"⟩, 11) := ⟨⟨by decide +kernel, by decide +kernel⟩, List.mem_of_getElem? (i := 14) (by decide +kernel), List.mem_of_getElem? (i := 188) (by decide +kernel), List.mem_of_getElem? (i := 189) (by decide +kernel)⟩
theorem lw_p3 : lw_okq (⟨"SegmentMerges", "livingFrom", "(II)I"⟩, 11) := ⟨⟨by decide +kernel, by decide +kernel⟩, List.mem_of_getElem? (i := 14) (by decide +kernel), List.mem_of_getElem? (i := 192) (by decide +kernel), List.mem_of_getElem? (i := 193) (by decide +kernel)⟩
theorem lw_p4 : lw_okq (⟨"SegmentMerges", "isPlace", "(I)Z"⟩, 11) := ⟨⟨by decide +kernel, by decide +kernel⟩, List.mem_of_getElem? (i := 14) (by decide +kernel), List.mem_of_getElem? (i := 200) (by decide +kernel), List.mem_of_getElem? (i := 201) (by decide +kernel)⟩
theorem lw_p5 : lw_okq (⟨"SegmentMerges", "isOfOneTier", "(II)Z"⟩, 11) := ⟨⟨by decide +kernel, by decide +kernel⟩, List.mem_of_getElem? (i := 14) (by decide +kernel), List.mem_of_getElem? (i := 224) (by decide +kernel), List.mem_of_getElem? (i := 225) (by decide +kernel)⟩
theorem lw_p6 : lw_okq (⟨"SegmentMerges$Merge", "sourceOfLeastKey", "()I"⟩, 6) := ⟨⟨by decide +kernel, by decide +kernel⟩, List.mem_of_getElem? (i := 247) (by decide +kernel), List.mem_of_getElem? (i := 286) (by decide +kernel), List.mem_of_getElem? (i := 287) (by decide +kernel)⟩
theorem lw_p7 : lw_okq (⟨"SegmentMerges", "endMerge", "(LSegmentMerges$Merge;)V"⟩, 11) := ⟨⟨by decide +kernel, by decide +kernel⟩, List.mem_of_getElem? (i := 14) (by decide +kernel), List.mem_of_getElem? (i := 290) (by decide +kernel), List.mem_of_getElem? (i := 291) (by decide +kernel)⟩
theorem lw_p8 : lw_okq (⟨"SegmentMerges$Merge", "greatestTier", "()I"⟩, 6) := ⟨⟨by decide +kernel, by decide +kernel⟩, List.mem_of_getElem? (i := 247) (by decide +kernel), List.mem_of_getElem? (i := 298) (by decide +kernel), List.mem_of_getElem? (i := 299) (by decide +kernel)⟩
theorem lw_p9 : lw_okq (⟨"SegmentMerges", "closeGap", "(II)V"⟩, 11) := ⟨⟨by decide +kernel, by decide +kernel⟩, List.mem_of_getElem? (i := 14) (by decide +kernel), List.mem_of_getElem? (i := 307) (by decide +kernel), List.mem_of_getElem? (i := 308) (by decide +kernel)⟩
theorem lw_p10 : lw_okq (⟨"SegmentMerges", "isOpenView", "(I)Z"⟩, 11) := ⟨⟨by decide +kernel, by decide +kernel⟩, List.mem_of_getElem? (i := 14) (by decide +kernel), List.mem_of_getElem? (i := 338) (by decide +kernel), List.mem_of_getElem? (i := 339) (by decide +kernel)⟩
theorem lw_p11 : lw_okq (⟨"java/lang/Throwable", "fillInStackTrace", "(I)Ljava/lang/Throwable;"⟩, 6) := ⟨⟨by decide +kernel, by decide +kernel⟩, List.mem_of_getElem? (i := 390) (by decide +kernel), List.mem_of_getElem? (i := 388) (by decide +kernel), List.mem_of_getElem? (i := 389) (by decide +kernel)⟩
theorem lw_p12 : lw_okq (⟨"SegmentMergesModel", "memoryAt", "(I)I"⟩, 34) := ⟨⟨by decide +kernel, by decide +kernel⟩, List.mem_of_getElem? (i := 420) (by decide +kernel), List.mem_of_getElem? (i := 540) (by decide +kernel), List.mem_of_getElem? (i := 541) (by decide +kernel)⟩
theorem lw_p13 : lw_okq (⟨"SegmentMergesModel", "die", "(I)V"⟩, 34) := ⟨⟨by decide +kernel, by decide +kernel⟩, List.mem_of_getElem? (i := 420) (by decide +kernel), List.mem_of_getElem? (i := 544) (by decide +kernel), List.mem_of_getElem? (i := 545) (by decide +kernel)⟩
theorem lw_p14 : lw_okq (⟨"SegmentMergesModel", "freeSlot", "()I"⟩, 34) := ⟨⟨by decide +kernel, by decide +kernel⟩, List.mem_of_getElem? (i := 420) (by decide +kernel), List.mem_of_getElem? (i := 564) (by decide +kernel), List.mem_of_getElem? (i := 565) (by decide +kernel)⟩
theorem lw_p15 : lw_okq (⟨"SegmentMergesModel", "lay", "(IIIZ)V"⟩, 34) := ⟨⟨by decide +kernel, by decide +kernel⟩, List.mem_of_getElem? (i := 420) (by decide +kernel), List.mem_of_getElem? (i := 568) (by decide +kernel), List.mem_of_getElem? (i := 569) (by decide +kernel)⟩
def lw_privs_1 : List (MethodName × Nat) := [(⟨"SegmentMerges", "killRowOf", "(I)V"⟩, 11), (⟨"SegmentMerges$Memory", "rankOf", "(I)I"⟩, 3), (⟨"SegmentMerges", "rowsInSegments", "()I"⟩, 11), (⟨"SegmentMerges", "livingFrom", "(II)I"⟩, 11), (⟨"SegmentMerges", "isPlace", "(I)Z"⟩, 11), (⟨"SegmentMerges", "isOfOneTier", "(II)Z"⟩, 11), (⟨"SegmentMerges$Merge", "sourceOfLeastKey", "()I"⟩, 6), (⟨"SegmentMerges", "endMerge", "(LSegmentMerges$Merge;)V"⟩, 11), (⟨"SegmentMerges$Merge", "greatestTier", "()I"⟩, 6), (⟨"SegmentMerges", "closeGap", "(II)V"⟩, 11), (⟨"SegmentMerges", "isOpenView", "(I)Z"⟩, 11), (⟨"java/lang/Throwable", "fillInStackTrace", "(I)Ljava/lang/Throwable;"⟩, 6), (⟨"SegmentMergesModel", "memoryAt", "(I)I"⟩, 34), (⟨"SegmentMergesModel", "die", "(I)V"⟩, 34), (⟨"SegmentMergesModel", "freeSlot", "()I"⟩, 34), (⟨"SegmentMergesModel", "lay", "(IIIZ)V"⟩, 34)]
theorem lw_r1 : ∀ q ∈ lw_privs_1, lw_okq q := List.forall_mem_cons.mpr ⟨lw_p0, List.forall_mem_cons.mpr ⟨lw_p1, List.forall_mem_cons.mpr ⟨lw_p2, List.forall_mem_cons.mpr ⟨lw_p3, List.forall_mem_cons.mpr ⟨lw_p4, List.forall_mem_cons.mpr ⟨lw_p5, List.forall_mem_cons.mpr ⟨lw_p6, List.forall_mem_cons.mpr ⟨lw_p7, List.forall_mem_cons.mpr ⟨lw_p8, List.forall_mem_cons.mpr ⟨lw_p9, List.forall_mem_cons.mpr ⟨lw_p10, List.forall_mem_cons.mpr ⟨lw_p11, List.forall_mem_cons.mpr ⟨lw_p12, List.forall_mem_cons.mpr ⟨lw_p13, List.forall_mem_cons.mpr ⟨lw_p14, List.forall_mem_cons.mpr ⟨lw_p15, fun _ h => absurd h List.not_mem_nil⟩⟩⟩⟩⟩⟩⟩⟩⟩⟩⟩⟩⟩⟩⟩⟩
theorem lw_p16 : lw_okq (⟨"SegmentMergesModel", "all", "(Z)I"⟩, 34) := ⟨⟨by decide +kernel, by decide +kernel⟩, List.mem_of_getElem? (i := 420) (by decide +kernel), List.mem_of_getElem? (i := 576) (by decide +kernel), List.mem_of_getElem? (i := 577) (by decide +kernel)⟩
theorem lw_p17 : lw_okq (⟨"SegmentMergesModel", "livingOf", "(I)I"⟩, 34) := ⟨⟨by decide +kernel, by decide +kernel⟩, List.mem_of_getElem? (i := 420) (by decide +kernel), List.mem_of_getElem? (i := 580) (by decide +kernel), List.mem_of_getElem? (i := 581) (by decide +kernel)⟩
theorem lw_p18 : lw_okq (⟨"SegmentMergesModel", "isPlace", "(I)Z"⟩, 34) := ⟨⟨by decide +kernel, by decide +kernel⟩, List.mem_of_getElem? (i := 420) (by decide +kernel), List.mem_of_getElem? (i := 588) (by decide +kernel), List.mem_of_getElem? (i := 589) (by decide +kernel)⟩
theorem lw_p19 : lw_okq (⟨"SegmentMergesModel", "left", "()I"⟩, 34) := ⟨⟨by decide +kernel, by decide +kernel⟩, List.mem_of_getElem? (i := 420) (by decide +kernel), List.mem_of_getElem? (i := 616) (by decide +kernel), List.mem_of_getElem? (i := 617) (by decide +kernel)⟩
theorem lw_p20 : lw_okq (⟨"SegmentMergesModel", "slotOf", "(I)I"⟩, 34) := ⟨⟨by decide +kernel, by decide +kernel⟩, List.mem_of_getElem? (i := 420) (by decide +kernel), List.mem_of_getElem? (i := 620) (by decide +kernel), List.mem_of_getElem? (i := 621) (by decide +kernel)⟩
theorem lw_p21 : lw_okq (⟨"SegmentMergesModel", "takeOne", "()V"⟩, 34) := ⟨⟨by decide +kernel, by decide +kernel⟩, List.mem_of_getElem? (i := 420) (by decide +kernel), List.mem_of_getElem? (i := 628) (by decide +kernel), List.mem_of_getElem? (i := 629) (by decide +kernel)⟩
theorem lw_p22 : lw_okq (⟨"SegmentMergesModel", "keyAt", "(I)I"⟩, 34) := ⟨⟨by decide +kernel, by decide +kernel⟩, List.mem_of_getElem? (i := 420) (by decide +kernel), List.mem_of_getElem? (i := 632) (by decide +kernel), List.mem_of_getElem? (i := 633) (by decide +kernel)⟩
theorem lw_p23 : lw_okq (⟨"SegmentMergesModel", "end", "()V"⟩, 34) := ⟨⟨by decide +kernel, by decide +kernel⟩, List.mem_of_getElem? (i := 420) (by decide +kernel), List.mem_of_getElem? (i := 636) (by decide +kernel), List.mem_of_getElem? (i := 637) (by decide +kernel)⟩
theorem lw_p24 : lw_okq (⟨"SegmentMergesModel", "isOpen", "(I)Z"⟩, 34) := ⟨⟨by decide +kernel, by decide +kernel⟩, List.mem_of_getElem? (i := 420) (by decide +kernel), List.mem_of_getElem? (i := 660) (by decide +kernel), List.mem_of_getElem? (i := 661) (by decide +kernel)⟩
def lw_privs_2 : List (MethodName × Nat) := [(⟨"SegmentMergesModel", "all", "(Z)I"⟩, 34), (⟨"SegmentMergesModel", "livingOf", "(I)I"⟩, 34), (⟨"SegmentMergesModel", "isPlace", "(I)Z"⟩, 34), (⟨"SegmentMergesModel", "left", "()I"⟩, 34), (⟨"SegmentMergesModel", "slotOf", "(I)I"⟩, 34), (⟨"SegmentMergesModel", "takeOne", "()V"⟩, 34), (⟨"SegmentMergesModel", "keyAt", "(I)I"⟩, 34), (⟨"SegmentMergesModel", "end", "()V"⟩, 34), (⟨"SegmentMergesModel", "isOpen", "(I)Z"⟩, 34)]
theorem lw_r2 : ∀ q ∈ lw_privs_2, lw_okq q := List.forall_mem_cons.mpr ⟨lw_p16, List.forall_mem_cons.mpr ⟨lw_p17, List.forall_mem_cons.mpr ⟨lw_p18, List.forall_mem_cons.mpr ⟨lw_p19, List.forall_mem_cons.mpr ⟨lw_p20, List.forall_mem_cons.mpr ⟨lw_p21, List.forall_mem_cons.mpr ⟨lw_p22, List.forall_mem_cons.mpr ⟨lw_p23, List.forall_mem_cons.mpr ⟨lw_p24, fun _ h => absurd h List.not_mem_nil⟩⟩⟩⟩⟩⟩⟩⟩⟩
def lw_privs : List (MethodName × Nat) := lw_privs_1 ++ (lw_privs_2)
def lw_tbl : List Cond := k2_sels lw_privs ++ tables_1
theorem lw_privs_ok : ∀ q ∈ lw_privs, lw_okq q := by
  show ∀ q ∈ lw_privs_1 ++ (lw_privs_2), lw_okq q
  exact List.forall_mem_append.mpr ⟨lw_r1, lw_r2⟩
end
section
/-! ===== BEGIN words of one list among another's, by their places ===== -/
theorem goodIn_r {big : List Cond} (ws : List Cond) (ps : List Nat) (hp : ws = ps.filterMap (fun i => big[i]?)) (h : ws.all goodWord = true) : GoodIn big ws := by
  intro w hw
  have h1 := List.all_eq_true.mp h w hw
  rw [hp] at hw
  obtain ⟨i, -, hi⟩ := List.mem_filterMap.mp hw
  have hm : w ∈ big := by first | exact List.mem_of_getElem? hi | exact List.getElem?_mem hi
  exact ⟨hm, good_of_word h1⟩
theorem goodIn_app {big a b : List Cond} (ha : GoodIn big a) (hb : GoodIn big b) : GoodIn big (a ++ b) := fun w h => (List.mem_append.mp h).elim (ha w) (hb w)
theorem goodIn_ca {big a b : List Cond} {c : Cond} (ha : GoodIn big (c :: a)) (hb : GoodIn big b) : GoodIn big (c :: (a ++ b)) := fun w h => (List.mem_cons.mp h).elim (fun e => ha w (List.mem_cons.mpr (Or.inl e))) (fun h => (List.mem_append.mp h).elim (fun h => ha w (List.mem_cons.mpr (Or.inr h))) (hb w))
theorem goodIn_sub {big ws : List Cond} (hm : ∀ w ∈ ws, w ∈ big) (h : ws.all goodWord = true) : GoodIn big ws := fun w hw => ⟨hm w hw, good_of_word (List.all_eq_true.mp h w hw)⟩
/-! ===== END ===== -/

/-! ===== BEGIN exceptions that leave a method, and their catching by the caller (launches without stack traces) ===== -/
section VXA
/-! The laws vx_back, vx_callV, vx_callS, vx_callSW, vx_throw0, vx_throwS follow proofs of the library, with one case more: JvmDerived/Free/Laws.lean (Back.of_free), Shelf42/LK1.lean (callV, callS), Shelf/KitTraced.lean (throwNew0V, throwNewS). -/
/-- where a method has thrown q: the class by its name, the cell, what was written, the world -/
def vx_T (XC : String → State → State → Prop) (st : State) (q : Addr) (t : State) (mc ms : Nat) (free : Addr → Prop) : Prop :=
  ∃ (E : String) (ce : Cell) (L : List Loc), XC E st t ∧ t.heap[q]? = some ce ∧ ce.vm = .none ∧ st.vm.findClass E = some ce.cls ∧ st.WarmedH t.vm ∧ st.sameButNew ({ t with vm := st.vm } : State) L mc ms ∧ ∀ z ∈ L, free z.base
def vx_Q (Qc : Array Value → State → Outcome → State → Prop) (XC : String → State → State → Prop) (mc ms : Nat) (free : Addr → Prop) : Array Value → State → Outcome → State → Prop := fun a st o t =>
  (Qc a st o t ∧ ∃ L, FrameEnd st o t L mc ms ∧ ∀ q ∈ L, free q.base) ∨ ∃ q, o = .threw q ∧ vx_T XC st q t mc ms free
/-- a callee that returns or throws -/
def vx_Met (l : Launch) (y : MethodName) (ws : List Cond) (rm : Room) (Pc : Array Value → State → Prop) (Qc : Array Value → State → Outcome → State → Prop) (XC : String → State → State → Prop) (mc ms : Nat) (free : Addr → Prop) : Prop :=
  MetFree l y (headSpec ws rm) Pc (fun _ _ _ _ _ => True) (vx_Q Qc XC mc ms free)
def vx_Post (XC : String → State → State → Prop) (mc ms : Nat) (free : Addr → Prop) : Pt → Array Value → Addr → Pt → Prop := fun A a q B =>
  ∃ (g : JFrame) (mk : MethodId) (t : State) (L : List Loc) (E : String) (ce : Cell), B.U.heap = t.heap ∧ B.U.vm = t.vm ∧ XC E (A.U.calling g mk a) t ∧ t.heap[q]? = some ce ∧ ce.vm = .none ∧ A.U.vm.findClass E = some ce.cls ∧ B.locs = A.locs ++ L ∧ (∀ z ∈ L, free z.base) ∧ B.cells = A.cells + mc ∧ B.slots = A.slots + ms
def vx_Back (l : Launch) (R : Room) (p : Program) (e : Env) (below : List Frame) (s : State) (sargs : Array Value) (y : MethodName) (len W9 : Nat)
    (Pre : Pt → Array Value → Prop) (Post : Pt → Array Value → Option Value → Pt → Prop) (PostX : Pt → Array Value → Addr → Pt → Prop) : Prop :=
  ∀ (m : MethodId) (meth : Method) (c : Code) (A : Pt) (g : JFrame) (ig : Instr) (mk : MethodId) (a : Array Value),
    Stand p l e R s m sargs below meth c A.U A.locs A.cells A.slots → g.method = m → g.locals.size = c.maxLocals → decode c.code g.pc = .ok (ig, len) →
    2 * g.monitorRoom + (g.stack.map fun v => v.category).sum ≤ W9 → A.U.methodNamed? y = some mk → Pre A a →
    (∃ (v : Option Value) (B : Pt), Stand p l e R s m sargs below meth c B.U B.locs B.cells B.slots ∧ Post A a v B ∧
      Steps p.tables e below (doInvoke e (A.U.setTop g) [] mk a).1 (B.U.setTop { g with pc := g.pc + len, stack := v.toList ++ g.stack })) ∨
    (∃ (q : Addr) (B : Pt), Stand p l e R s m sargs below meth c B.U B.locs B.cells B.slots ∧ PostX A a q B ∧
      Steps p.tables e below (doInvoke e (A.U.setTop g) [] mk a).1 ((B.U.setTop g).pushFrame (.throwing q)))
section Payer
variable {l : Launch} {R : Room} {p : Program} {e : Env} {below : List Frame} {s : State} {sargs : Array Value} {y : MethodName} {len W9 : Nat}
theorem vx_back {ws : List Cond} {rm : Room} {Pc : Array Value → State → Prop} {Qc : Array Value → State → Outcome → State → Prop} {XC : String → State → State → Prop} {mc ms : Nat} {free : Addr → Prop} {bytes : ByteArray} {maxL : Nat} {ret : Option FieldType}
    (hM : vx_Met l y ws rm Pc Qc XC mc ms free) (hblind : FrameBlind Pc) (hrc : rm.cells = mc) (hrs : rm.slots = ms)
    (hframes : rm.frames + 1 ≤ R.frames) (hlocals : W9 + (maxL + 11) + rm.locals ≤ R.locals)
    (hws : ∀ w ∈ ws, ∀ a' U, s.WarmedH U.vm → w.before a' U = true) (hcode : Cond.code y bytes maxL ret ∈ ws) (hinit : ∀ a' U, s.WarmedH U.vm → (Cond.initialized y.cls).before a' U = true) :
    vx_Back l R p e below s sargs y len W9 (PreOf R mc ms Pc) (PostOf Qc mc ms free) (vx_Post XC mc ms free) := by
  intro m meth c A g ig mk a X hg hsize hdg hW hn hp
  have h1 : (headSpec ws rm).pre.before a A.U = true := atoms_intro fun w hw => hws w hw _ _ X.warmed
  have h2 : (Cond.code y bytes maxL ret).before a A.U = true := hws _ hcode _ _ X.warmed
  have h3 : (Cond.initialized y.cls).before a A.U = true := hinit _ _ X.warmed
  have h4 : A.cells + (headSpec ws rm).room.cells ≤ R.cells := by rw [show (headSpec ws rm).room.cells = mc from hrc]; exact hp.1
  have h5 : A.slots + (headSpec ws rm).room.slots ≤ R.slots := by rw [show (headSpec ws rm).room.slots = ms from hrs]; exact hp.2.1
  have hPc : Pc a (A.U.calling g mk a) := hblind _ _ _ _ hp.2.2
  obtain ⟨U, Ls, c0, s0⟩ := A
  dsimp only [Pt.U, Pt.locs, Pt.cells, Pt.slots] at h1 h2 h3 h4 h5 X hn hPc ⊢
  obtain ⟨methY, cY, hmY, hcY, -, hlY, -, -, -, -⟩ := Cond.code_spec hn h2
  obtain ⟨kY, hkY, -⟩ := className_of_methodNamed hn
  have hinitY : kY.init = .initialized := Cond.initialized_spec (findClass_of_methodNamed hn) hkY h3
  have h : At U g.method c below := by rw [hg]; exact X.here
  have hlocals9 : W9 + (maxL + 11) + (headSpec ws rm).room.locals ≤ R.locals := hlocals
  have happ : (headSpec ws rm).appliesLoose y e.platform (U.calling g mk a) = true :=
    Spec.appliesLoose_calling (g := g) h hdg hn hkY hinitY
      (X.room_calling (g := g) (R' := (headSpec ws rm).room) hsize hmY hcY hframes (by rw [hlY]; omega) h4 h5) h1
  obtain ⟨mid, hmid⟩ := h.above
  have hfr : (U.setTop g).frames = (.java g :: mid) ++ below := by rw [State.frames_setTop' g h.top, hmid]; rfl
  obtain ⟨o, s₂, hsteps, -, hend, hq⟩ := Steps.callFree hM p X.admits X.cas X.clock (acts := []) hfr happ hPc trivial
  have hq' : vx_Q Qc XC mc ms free a (U.calling g mk a) o s₂ := hq
  rw [State.frames_setTop' g h.top] at hend
  obtain ⟨g₀, hg0⟩ := Option.isSome_iff_exists.mp h.top
  obtain ⟨r, hr⟩ := State.topJava?_eq_some.mp hg0
  have hr' : (({ U with heap := s₂.heap, slotsUsed := s₂.slotsUsed } : State).setVm s₂.vm).frames = .java g₀ :: r := hr
  rcases hq' with ⟨hqc, L, hfe, hL⟩ | ⟨q, rfl, E, ce, L, hx, hce, hcv, hcl, hW₂, hsm, hL⟩
  · obtain ⟨⟨v, rfl⟩, hW₂, e2, q2, q3, q4, q5, q6⟩ := id hfe
    have e3 : s₂ = ({ (U.calling g mk a).setFrames s₂.frames with heap := s₂.heap, slotsUsed := s₂.slotsUsed } : State).setVm s₂.vm := by
      have : s₂ = ({ s₂ with vm := (U.calling g mk a).vm } : State).setVm s₂.vm := rfl
      rw [e2] at this
      exact this
    obtain ⟨c₂, i₂, len₂, hc₂, hd₂, hf₂⟩ := hend
    have hW' : U.WarmedH s₂.vm := hW₂
    have hcc : c₂ = c := by
      have h1 : s₂.code? g.method = U.code? g.method := by
        rw [State.code?_eq, State.code?_eq, hW'.alike.method?]
      exact Option.some.inj (hc₂.symm.trans (h1.trans h.code))
    subst hcc
    have hlen : len₂ = len := by rw [hdg] at hd₂; cases hd₂; rfl
    subst hlen
    have hs₂ : s₂ = (({ U with heap := s₂.heap, slotsUsed := s₂.slotsUsed } : State).setVm s₂.vm).setTop { g with pc := g.pc + len₂, stack := v.toList ++ g.stack } := by
      refine e3.trans ?_
      rw [hf₂, State.calling_eq h.top, State.setFrames_setFrames, State.setTop_of_frames _ hr', hr]
      rfl
    have hsame : U.sameButNew ({ U with heap := s₂.heap, slotsUsed := s₂.slotsUsed } : State) L mc ms := by
      refine ⟨?_, q2, q3, q4, q5, q6⟩
      obtain ⟨t, ht, -⟩ := State.frames_cons hr
      show ({ U with heap := s₂.heap, slotsUsed := s₂.slotsUsed } : State) = { U.setFrames U.frames with heap := s₂.heap, slotsUsed := s₂.slotsUsed }
      rw [State.setFrames_self ht]
    subst hg
    refine Or.inl ⟨v, ⟨(({ U with heap := s₂.heap, slotsUsed := s₂.slotsUsed } : State).setVm s₂.vm), Ls ++ L, c0 + mc, s0 + ms⟩,
      ⟨X.admits, X.cas, X.clock, X.frames, X.room, X.hears, X.method, X.code, (X.here.setHeapUsed s₂.heap s₂.slotsUsed).setVm hW'.alike, X.tail, State.WarmedH.trans X.warmed hW', X.limits, X.bytes, X.same.trans (hsame.setVm s.vm)⟩,
      ⟨g, mk, s₂, L, rfl, rfl, hqc, rfl, hL, rfl, rfl⟩, ?_⟩
    show Steps p.tables e below _ ((({ U with heap := s₂.heap, slotsUsed := s₂.slotsUsed } : State).setVm s₂.vm).setTop { g with pc := g.pc + len₂, stack := v.toList ++ g.stack })
    rw [← hs₂]
    exact hsteps
  · obtain ⟨e2, q2, q3, q4, q5, q6⟩ := id hsm
    have e3 : s₂ = ({ (U.calling g mk a).setFrames s₂.frames with heap := s₂.heap, slotsUsed := s₂.slotsUsed } : State).setVm s₂.vm := by
      have : s₂ = ({ s₂ with vm := (U.calling g mk a).vm } : State).setVm s₂.vm := rfl
      rw [e2] at this
      exact this
    have hf₂ : s₂.frames = .throwing q :: .java g :: U.frames.tail := hend
    have hW' : U.WarmedH s₂.vm := hW₂
    have hs₂ : s₂ = ((({ U with heap := s₂.heap, slotsUsed := s₂.slotsUsed } : State).setVm s₂.vm).setTop g).pushFrame (.throwing q) := by
      refine e3.trans ?_
      rw [hf₂, State.calling_eq h.top, State.setFrames_setFrames, State.pushFrame, State.frames_setTop _ hr', State.setTop_of_frames _ hr', State.setFrames_setFrames, hr]
      rfl
    have hsame : U.sameButNew ({ U with heap := s₂.heap, slotsUsed := s₂.slotsUsed } : State) L mc ms := by
      refine ⟨?_, q2, q3, q4, q5, q6⟩
      obtain ⟨t, ht, -⟩ := State.frames_cons hr
      show ({ U with heap := s₂.heap, slotsUsed := s₂.slotsUsed } : State) = { U.setFrames U.frames with heap := s₂.heap, slotsUsed := s₂.slotsUsed }
      rw [State.setFrames_self ht]
    subst hg
    refine Or.inr ⟨q, ⟨(({ U with heap := s₂.heap, slotsUsed := s₂.slotsUsed } : State).setVm s₂.vm), Ls ++ L, c0 + mc, s0 + ms⟩,
      ⟨X.admits, X.cas, X.clock, X.frames, X.room, X.hears, X.method, X.code, (X.here.setHeapUsed s₂.heap s₂.slotsUsed).setVm hW'.alike, X.tail, State.WarmedH.trans X.warmed hW', X.limits, X.bytes, X.same.trans (hsame.setVm s.vm)⟩,
      ⟨g, mk, s₂, L, E, ce, rfl, rfl, hx, hce, hcv, hcl, rfl, hL, rfl, rfl⟩, ?_⟩
    show Steps p.tables e below _ (((({ U with heap := s₂.heap, slotsUsed := s₂.slotsUsed } : State).setVm s₂.vm).setTop g).pushFrame (.throwing q))
    rw [← hs₂]
    exact hsteps
end Payer
section Calls
variable {p : Program} {l : Launch} {e : Env} {R : Room} {s : State} {m : MethodId} {args : Array Value} {below : List Frame} {meth : Method} {c : Code} {T : State} {locs : List Loc} {cells slots : Nat}
theorem vx_callV (X : Stand p l e R s m args below meth c T locs cells slots) (hexec : p.tables.exec = Jvm.exec) {own C : String} {index : Nat} {y : MethodName} {bytes : ByteArray} {maxL : Nat} {ret : Option FieldType}
    (hown : s.vm.findClass own = some m.cls) (hlink : (Cond.methodLink own index y).before args s = true) (hinst : (Cond.instanceMethod y).before args s = true) (hsel : (Cond.selects C y y).before args s = true)
    (hcode : (Cond.code y bytes maxL ret).before args s = true) (hy : y.cls ≠ "java/lang/invoke/MethodHandle" ∧ y.cls ≠ "java/lang/invoke/VarHandle")
    {W9 : Nat} {Pre : Pt → Array Value → Prop} {Post : Pt → Array Value → Option Value → Pt → Prop} {PostX : Pt → Array Value → Addr → Pt → Prop} (hK : vx_Back l R p e below s args y 3 W9 Pre Post PostX)
    {b : Addr} {cellB : Cell} (hcell : T.heap[b]? = some cellB) (hobj : cellB.vm.isStatics = false) (hcls : s.vm.findClass C = some cellB.cls)
    {g : JFrame} (hg : g.method = m) (hsize : g.locals.size = c.maxLocals) {argsL rest : List Value} (hlen : ∀ sig, parseMethodDescriptor y.desc = some sig → argsL.length = sig.parameters.length)
    (hstack : g.stack = argsL.reverse ++ .ref b :: rest) (hW : 2 * g.monitorRoom + (rest.map fun v => v.category).sum ≤ W9) (hdg : decode c.code g.pc = .ok (.invokevirtual index, 3))
    (hpre : ∀ vm₁, s.WarmedH vm₁ → Pre ⟨T.setVm vm₁, locs, cells, slots⟩ (Value.ref b :: argsL).toArray) :
    (∃ (v : Option Value) (vm₁ : Vm) (B : Pt), s.WarmedH vm₁ ∧ Stand p l e R s m args below meth c B.U B.locs B.cells B.slots ∧ Post ⟨T.setVm vm₁, locs, cells, slots⟩ (Value.ref b :: argsL).toArray v B ∧
      ∀ target, Steps p.tables e below (B.U.setTop { g with pc := g.pc + 3, stack := v.toList ++ rest }) target → Steps p.tables e below (T.setTop g) target) ∨
    (∃ (q : Addr) (vm₁ : Vm) (B : Pt), s.WarmedH vm₁ ∧ Stand p l e R s m args below meth c B.U B.locs B.cells B.slots ∧ PostX ⟨T.setVm vm₁, locs, cells, slots⟩ (Value.ref b :: argsL).toArray q B ∧
      Steps p.tables e below (T.setTop g) ((B.U.setTop { g with stack := rest }).pushFrame (.throwing q))) := by
  obtain ⟨mk, methM, hnamed, hmethM, hstM, habM⟩ := Cond.instanceMethod_spec hinst
  obtain ⟨methM', cM, hmethM', -, -, -, -, -, -, hsigM⟩ := Cond.code_spec hnamed hcode
  cases hmethM.symm.trans hmethM'
  obtain ⟨c2, r2, m2, q1, q2, q3, q4, kP, hkP, hkPi⟩ := Cond.selects_spec hsel
  cases hcls.symm.trans q1
  cases (State.methodFound?_of_named hnamed hy).symm.trans q2
  cases hnamed.symm.trans q3
  have hselP : selectMethod e.platform s.vm cellB.cls mk = .method mk := by rw [Launch.admits_selectMethod X.admits]; exact q4
  obtain ⟨vm₁, X₁, hstep₁⟩ := X.invokevirtual hexec hown hlink hnamed hmethM hstM hkP hkPi hy (a := b) (cell := cellB) hcell
    (fun z h => by rw [h] at hobj; cases hobj) hselP hmethM habM hkP hkPi (g := g) hg (argsL := argsL) (rest := rest) (hlen _ hsigM) hstack hdg
  rcases hK m meth c ⟨T.setVm vm₁, locs, cells, slots⟩ { g with stack := rest } (.invokevirtual index) mk (Value.ref b :: argsL).toArray X₁ hg hsize hdg hW (X₁.named hnamed) (hpre vm₁ X₁.warmed) with ⟨v, B, X', hpost, hsteps⟩ | ⟨q, B, X', hpost, hsteps⟩
  · exact Or.inl ⟨v, vm₁, B, X₁.warmed, X', hpost, fun target h => hstep₁ _ fun acts => by rw [doInvoke_state]; exact hsteps.trans h⟩
  · exact Or.inr ⟨q, vm₁, B, X₁.warmed, X', hpost, hstep₁ _ fun acts => by rw [doInvoke_state]; exact hsteps⟩
theorem vx_callS (X : Stand p l e R s m args below meth c T locs cells slots) (hexec : p.tables.exec = Jvm.exec) {own : String} {index : Nat} {y : MethodName} {bytes : ByteArray} {maxL : Nat} {ret : Option FieldType}
    (hown : s.vm.findClass own = some m.cls) (hlink : (Cond.methodLink own index y).before args s = true) (hstat : (Cond.static y).before args s = true) (hinit : (Cond.initialized y.cls).before args s = true)
    (hcode : (Cond.code y bytes maxL ret).before args s = true) (hy : y.cls ≠ "java/lang/invoke/MethodHandle" ∧ y.cls ≠ "java/lang/invoke/VarHandle")
    {W9 : Nat} {Pre : Pt → Array Value → Prop} {Post : Pt → Array Value → Option Value → Pt → Prop} {PostX : Pt → Array Value → Addr → Pt → Prop} (hK : vx_Back l R p e below s args y 3 W9 Pre Post PostX)
    {g : JFrame} (hg : g.method = m) (hsize : g.locals.size = c.maxLocals) {argsL rest : List Value} (hlen : ∀ sig, parseMethodDescriptor y.desc = some sig → argsL.length = sig.parameters.length)
    (hstack : g.stack = argsL.reverse ++ rest) (hW : 2 * g.monitorRoom + (rest.map fun v => v.category).sum ≤ W9) (hdg : decode c.code g.pc = .ok (.invokestatic index, 3))
    (hpre : ∀ vm₁, s.WarmedH vm₁ → Pre ⟨T.setVm vm₁, locs, cells, slots⟩ argsL.toArray) :
    (∃ (v : Option Value) (vm₁ : Vm) (B : Pt), s.WarmedH vm₁ ∧ Stand p l e R s m args below meth c B.U B.locs B.cells B.slots ∧ Post ⟨T.setVm vm₁, locs, cells, slots⟩ argsL.toArray v B ∧
      ∀ target, Steps p.tables e below (B.U.setTop { g with pc := g.pc + 3, stack := v.toList ++ rest }) target → Steps p.tables e below (T.setTop g) target) ∨
    (∃ (q : Addr) (vm₁ : Vm) (B : Pt), s.WarmedH vm₁ ∧ Stand p l e R s m args below meth c B.U B.locs B.cells B.slots ∧ PostX ⟨T.setVm vm₁, locs, cells, slots⟩ argsL.toArray q B ∧
      Steps p.tables e below (T.setTop g) ((B.U.setTop { g with stack := rest }).pushFrame (.throwing q))) := by
  obtain ⟨mk, hnamed⟩ := Cond.code_named hcode
  obtain ⟨methM, cM, hmethM, -, -, -, -, -, -, hsigM⟩ := Cond.code_spec hnamed hcode
  have hstatic : methM.isStatic = true := Cond.static_spec hnamed hmethM hstat
  obtain ⟨kP, hkP, -⟩ := className_of_methodNamed hnamed
  have hinitP : kP.init = .initialized := Cond.initialized_spec (findClass_of_methodNamed hnamed) hkP hinit
  obtain ⟨vm₁, X₁, hstep₁⟩ := X.invokestatic hexec hown hlink hnamed hmethM hstatic hkP hinitP hy (g := g) hg (argsL := argsL) (rest := rest) (hlen _ hsigM) hstack hdg
  rcases hK m meth c ⟨T.setVm vm₁, locs, cells, slots⟩ { g with stack := rest } (.invokestatic index) mk argsL.toArray X₁ hg hsize hdg hW (X₁.named hnamed) (hpre vm₁ X₁.warmed) with ⟨v, B, X', hpost, hsteps⟩ | ⟨q, B, X', hpost, hsteps⟩
  · exact Or.inl ⟨v, vm₁, B, X₁.warmed, X', hpost, fun target h => hstep₁ _ fun acts => by rw [doInvoke_state]; exact hsteps.trans h⟩
  · exact Or.inr ⟨q, vm₁, B, X₁.warmed, X', hpost, hstep₁ _ fun acts => by rw [doInvoke_state]; exact hsteps⟩
end Calls
theorem vx_cls {s : State} {T : State} {vm₁ : Vm} {E : String} {k : ClassId} (hW : s.WarmedH vm₁) (h : (T.setVm vm₁).vm.findClass E = some k) : s.vm.findClass E = some k := by
  have h1 : vm₁.findClass E = some k := h
  rw [hW.alike.findClass] at h1
  exact h1
/-- the method's frame g, with q thrown over it -/
def vx_W (p : Program) (l : Launch) (e : Env) (R : Room) (s : State) (m : MethodId) (args : Array Value) (below : List Frame) (meth : Method) (c : Code) (H : Heap) (locs : List Loc) (cells slots : Nat) (Q : State → Prop) (g : JFrame) (q : Addr) : Prop :=
  ∀ T : State, T.heap = H → Stand p l e R s m args below meth c T locs cells slots → ∃ t, Steps p.tables e below ((T.setTop g).pushFrame (.throwing q)) t ∧ Q t
def vx_Run (p : Program) (l : Launch) (e : Env) (R : Room) (s : State) (m : MethodId) (args : Array Value) (below : List Frame) (meth : Method) (c : Code) (H : Heap) (locs : List Loc) (cells slots mc ms : Nat) (g : JFrame) (rest : List Value) (Qa : State → Outcome → State → Prop) (XC : String → State → State → Prop) (free : Addr → Prop) : Prop :=
  ∀ T : State, T.heap = H → Stand p l e R s m args below meth c T locs cells slots →
    (∃ (v : Option Value) (st₀ t T' : State) (L : List Loc), st₀.heap = H ∧ Stand p l e R s m args below meth c T' (locs ++ L) (cells + mc) (slots + ms) ∧ (∀ q ∈ L, free q.base) ∧ T'.heap = t.heap ∧ T'.vm = t.vm ∧ Qa st₀ (.returned v) t ∧
      Goes p e below T g T' { g with pc := g.pc + 3, stack := v.toList ++ rest }) ∨
    (∃ (q : Addr) (st₀ t T' : State) (L : List Loc) (E : String) (ce : Cell), st₀.heap = H ∧ Stand p l e R s m args below meth c T' (locs ++ L) (cells + mc) (slots + ms) ∧ (∀ z ∈ L, free z.base) ∧ T'.heap = t.heap ∧ T'.vm = t.vm ∧ XC E st₀ t ∧ t.heap[q]? = some ce ∧ ce.vm = .none ∧ s.vm.findClass E = some ce.cls ∧
      Steps p.tables e below (T.setTop g) ((T'.setTop { g with stack := rest }).pushFrame (.throwing q)))
def vx_X {S : Type} (px : S → Prop) (B : String → S → State → Prop) (A : Nat → Prop) : String → State → State → Prop := fun E st t => ∃ u : S, px u ∧ B E u t ∧ va_F A st t
section Runs
variable {p : Program} {l : Launch} {e : Env} {R : Room} {s : State} {m : MethodId} {args : Array Value} {below : List Frame} {meth : Method} {c : Code} {H : Heap} {locs : List Loc} {cells slots : Nat}
variable {y : MethodName} {bytes cc : ByteArray} {maxL nL mc ms n index : Nat} {ret : Option FieldType} {ws : List Cond} {rm : Room} {Pc : Array Value → State → Prop} {Qc : Array Value → State → Outcome → State → Prop} {XC : String → State → State → Prop} {free : Addr → Prop} {Ts : List Cond} {own C : String} {b : Addr} {As rest : List Value} {g : JFrame}
theorem vx_callBack (cb : CallB R s args own index y bytes maxL ret ws rm mc ms n) (hM : vx_Met l y ws rm Pc Qc XC mc ms free) (hbl : FrameBlind Pc) : vx_Back l R p e below s args y 3 8 (PreOf R mc ms Pc) (PostOf Qc mc ms free) (vx_Post XC mc ms free) := by
  obtain ⟨hrc, hrs, hfr, hlo, hws, hcw, -, hini, -⟩ := cb
  exact vx_back (bytes := bytes) (maxL := maxL) (ret := ret) hM hbl hrc hrs hfr hlo hws hcw (fun a' U hW => word_at hW (Or.inl (by first | rfl | simp [Cond.onTables, Cond.keeps, Cond.steady])) hini)
theorem vx_runV (S : CallFix p m c cc nL s args Ts own) (hM : vx_Met l y ws rm Pc Qc XC mc ms free) (cw : CallW R s args own C index y bytes maxL ret ws rm mc ms n) (hp : PreV s H C b Pc As)
    (hg : g.method = m) (hn : As.length = n) (hsize : g.locals.size = nL) (hstack : g.stack = As.reverse ++ .ref b :: rest) (hW : 2 * g.monitorRoom + (rest.map fun v => v.category).sum ≤ 8) (hdg : decode cc g.pc = .ok (.invokevirtual index, 3)) (hf : cells + mc ≤ R.cells ∧ slots + ms ≤ R.slots) :
    vx_Run p l e R s m args below meth c H locs cells slots mc ms g rest (Qc (Value.ref b :: As).toArray) XC free := by
  have hK : vx_Back l R p e below s args y 3 8 (PreOf R mc ms Pc) (PostOf Qc mc ms free) (vx_Post XC mc ms free) := vx_callBack cw.1 hM hp.1
  obtain ⟨⟨-, -, -, -, -, -, hcode, -, hy, hlen, hl⟩, hin, hse⟩ := cw
  obtain ⟨hx, hb, hml, ho, -⟩ := S
  obtain ⟨-, ⟨cellB, hcB, hoB, hclB⟩, hPc⟩ := hp
  intro T hT X
  rcases vx_callV X hx (C := C) (bytes := bytes) (maxL := maxL) (ret := ret) ho hl hin hse hcode hy hK (by rw [hT]; exact hcB) hoB hclB hg (hsize.trans hml.symm) (argsL := As) (rest := rest) (fun sig h => hn.trans (hlen sig h)) hstack hW (by rw [hb]; exact hdg)
    (fun vm₁ hW₁ => ⟨hf.1, hf.2, hPc (T.setVm vm₁) hT hW₁⟩) with ⟨v, vm₁, ⟨U', l2, c2, s2⟩, hW₁, X', ⟨g', mk, t, L, e1, e2, hq, h1, hL, h2, h3⟩, st⟩ | ⟨q, vm₁, ⟨U', l2, c2, s2⟩, hW₁, X', ⟨g', mk, t, L, E, ce, e1, e2, hq, hce, hcv, hcl, h1, hL, h2, h3⟩, st⟩
  · dsimp only [Pt.U, Pt.locs, Pt.cells, Pt.slots] at X' e1 e2 h1 h2 h3 st
    subst h1; subst h2; subst h3
    exact Or.inl ⟨v, (T.setVm vm₁).calling g' mk (Value.ref b :: As).toArray, t, U', L, hT, X', hL, e1, e2, hq, st⟩
  · dsimp only [Pt.U, Pt.locs, Pt.cells, Pt.slots] at X' e1 e2 h1 h2 h3 st hcl
    subst h1; subst h2; subst h3
    exact Or.inr ⟨q, (T.setVm vm₁).calling g' mk (Value.ref b :: As).toArray, t, U', L, E, ce, hT, X', hL, e1, e2, hq, hce, hcv, vx_cls hW₁ hcl, st⟩
theorem vx_runS (S : CallFix p m c cc nL s args Ts own) (hM : vx_Met l y ws rm Pc Qc XC mc ms free) (cw : CallB R s args own index y bytes maxL ret ws rm mc ms n ∧ (Cond.static y).before args s = true) (hp : PreS s H Pc As)
    (hg : g.method = m) (hn : As.length = n) (hsize : g.locals.size = nL) (hstack : g.stack = As.reverse ++ rest) (hW : 2 * g.monitorRoom + (rest.map fun v => v.category).sum ≤ 8) (hdg : decode cc g.pc = .ok (.invokestatic index, 3)) (hf : cells + mc ≤ R.cells ∧ slots + ms ≤ R.slots) :
    vx_Run p l e R s m args below meth c H locs cells slots mc ms g rest (Qc As.toArray) XC free := by
  have hK : vx_Back l R p e below s args y 3 8 (PreOf R mc ms Pc) (PostOf Qc mc ms free) (vx_Post XC mc ms free) := vx_callBack cw.1 hM hp.1
  obtain ⟨⟨-, -, -, -, -, -, hcode, hini, hy, hlen, hl⟩, hstt⟩ := cw
  obtain ⟨hx, hb, hml, ho, -⟩ := S
  intro T hT X
  rcases vx_callS X hx (bytes := bytes) (maxL := maxL) (ret := ret) ho hl hstt hini hcode hy hK hg (hsize.trans hml.symm) (argsL := As) (rest := rest) (fun sig h => hn.trans (hlen sig h)) hstack hW (by rw [hb]; exact hdg)
    (fun vm₁ hW₁ => ⟨hf.1, hf.2, hp.2 (T.setVm vm₁) hT hW₁⟩) with ⟨v, vm₁, ⟨U', l2, c2, s2⟩, hW₁, X', ⟨g', mk, t, L, e1, e2, hq, h1, hL, h2, h3⟩, st⟩ | ⟨q, vm₁, ⟨U', l2, c2, s2⟩, hW₁, X', ⟨g', mk, t, L, E, ce, e1, e2, hq, hce, hcv, hcl, h1, hL, h2, h3⟩, st⟩
  · dsimp only [Pt.U, Pt.locs, Pt.cells, Pt.slots] at X' e1 e2 h1 h2 h3 st
    subst h1; subst h2; subst h3
    exact Or.inl ⟨v, (T.setVm vm₁).calling g' mk As.toArray, t, U', L, hT, X', hL, e1, e2, hq, st⟩
  · dsimp only [Pt.U, Pt.locs, Pt.cells, Pt.slots] at X' e1 e2 h1 h2 h3 st hcl
    subst h1; subst h2; subst h3
    exact Or.inr ⟨q, (T.setVm vm₁).calling g' mk As.toArray, t, U', L, E, ce, hT, X', hL, e1, e2, hq, hce, hcv, vx_cls hW₁ hcl, st⟩
end Runs
section Rows
variable {p : Program} {l : Launch} {e : Env} {R : Room} {s : State} {m : MethodId} {args : Array Value} {below : List Frame} {meth : Method} {c : Code} {H : Heap} {locs : List Loc} {cells slots : Nat} {Q : State → Prop}
variable {mc ms : Nat} {free : Addr → Prop} {A0 A1 : Nat → Prop} {H0 : Heap} {a : Array Value} {pc : Nat} {ls : Array Slot} {st0 rest : List Value}
theorem vx_keep {st₀ t T' : State} {L : List Loc} (h0 : st₀.heap = H) (e1 : T'.heap = t.heap) (hS : va_S A0 H0 H locs) (hA : ∀ q, q < H.size → A1 q → A0 q) (hf : ∀ q, free q → A0 q) (hL : ∀ q ∈ L, free q.base) (hF : va_F A1 st₀ t) :
    H.size ≤ T'.heap.size ∧ (∀ q : Nat, q < H.size → ¬ A1 q → T'.heap[q]? = H[q]?) ∧ va_S A0 H0 T'.heap (locs ++ L) := by
  obtain ⟨hz, hk⟩ := hF
  rw [h0] at hz hk
  exact ⟨by rw [e1]; exact hz, fun q h1 h2 => by rw [e1]; exact hk q h1 h2,
    ⟨Nat.le_trans hS.1 (by rw [e1]; exact hz), fun q h1 h2 => by rw [e1, hk q (Nat.lt_of_lt_of_le h1 hS.1) (fun z => h2 (hA q (Nat.lt_of_lt_of_le h1 hS.1) z))]; exact hS.2.1 q h1 h2, fun q hq => by
      rcases List.mem_append.mp hq with h | h
      · exact hS.2.2 q h
      · exact hf _ (hL q h)⟩⟩
theorem vx_calli {S SX : Type} {post : Int32 → S → Prop} {px : SX → Prop} {B : S → State → Prop} {BX : String → SX → State → Prop} {AX : Nat → Prop} (hr : vx_Run p l e R s m args below meth c H locs cells slots mc ms (F0 m pc ls st0) rest (va_Qi post B A1 a) (vx_X px BX AX) free) (hS : va_S A0 H0 H locs) (hA : ∀ q, q < H.size → A1 q → A0 q) (hf : ∀ q, free q → A0 q) (hAX : ∀ q, q < H.size → AX q → A0 q)
    (kx : ∀ (E : String) (ce : Cell) (q9 : Addr) (u : SX) (t : State) (H1 : Heap) (locs1 : List Loc), t.heap = H1 → s.vm.Alike t.vm → px u → BX E u t → H.size ≤ H1.size → (∀ q : Nat, q < H.size → ¬ AX q → H1[q]? = H[q]?) → va_S A0 H0 H1 locs1 → H1[q9]? = some ce → ce.vm = .none → s.vm.findClass E = some ce.cls → vx_W p l e R s m args below meth c H1 locs1 (cells + mc) (slots + ms) Q (F0 m pc ls rest) q9)
    (kk : ∀ (r : Int32) (u : S) (t : State) (H1 : Heap) (locs1 : List Loc), t.heap = H1 → s.vm.Alike t.vm → post r u → B u t → H.size ≤ H1.size → (∀ q : Nat, q < H.size → ¬ A1 q → H1[q]? = H[q]?) → va_S A0 H0 H1 locs1 → W p l e R s m args below meth c H1 locs1 (cells + mc) (slots + ms) Q (F0 m (pc + 3) ls (.int r :: rest))) : W p l e R s m args below meth c H locs cells slots Q (F0 m pc ls st0) := by
  intro T hT X
  rcases hr T hT X with ⟨v, st₀, t, T', L, h0, X', hL, e1, e2, ⟨⟨r, u, hv, hp, hb⟩, hF⟩, st⟩ | ⟨q, st₀, t, T', L, E, ce, h0, X', hL, e1, e2, ⟨u, hp, hb, hF⟩, hce, hcv, hcl, st⟩
  · cases hv
    obtain ⟨k1, k2, k3⟩ := vx_keep h0 e1 hS hA hf hL hF
    obtain ⟨t2, a1, b1⟩ := kk r u t T'.heap (locs ++ L) e1.symm (by rw [← e2]; exact X'.warmed.alike) hp hb k1 k2 k3 T' rfl X'
    exact ⟨t2, st t2 a1, b1⟩
  · obtain ⟨k1, k2, k3⟩ := vx_keep h0 e1 hS hAX hf hL hF
    obtain ⟨t2, a1, b1⟩ := kx E ce q u t T'.heap (locs ++ L) e1.symm (by rw [← e2]; exact X'.warmed.alike) hp hb k1 k2 k3 (by rw [e1]; exact hce) hcv hcl T' rfl X'
    exact ⟨t2, st.trans a1, b1⟩
theorem vx_calll {S SX : Type} {post : Int64 → S → Prop} {px : SX → Prop} {B : S → State → Prop} {BX : String → SX → State → Prop} {AX : Nat → Prop} (hr : vx_Run p l e R s m args below meth c H locs cells slots mc ms (F0 m pc ls st0) rest (va_Ql post B A1 a) (vx_X px BX AX) free) (hS : va_S A0 H0 H locs) (hA : ∀ q, q < H.size → A1 q → A0 q) (hf : ∀ q, free q → A0 q) (hAX : ∀ q, q < H.size → AX q → A0 q)
    (kx : ∀ (E : String) (ce : Cell) (q9 : Addr) (u : SX) (t : State) (H1 : Heap) (locs1 : List Loc), t.heap = H1 → s.vm.Alike t.vm → px u → BX E u t → H.size ≤ H1.size → (∀ q : Nat, q < H.size → ¬ AX q → H1[q]? = H[q]?) → va_S A0 H0 H1 locs1 → H1[q9]? = some ce → ce.vm = .none → s.vm.findClass E = some ce.cls → vx_W p l e R s m args below meth c H1 locs1 (cells + mc) (slots + ms) Q (F0 m pc ls rest) q9)
    (kk : ∀ (r : Int64) (u : S) (t : State) (H1 : Heap) (locs1 : List Loc), t.heap = H1 → s.vm.Alike t.vm → post r u → B u t → H.size ≤ H1.size → (∀ q : Nat, q < H.size → ¬ A1 q → H1[q]? = H[q]?) → va_S A0 H0 H1 locs1 → W p l e R s m args below meth c H1 locs1 (cells + mc) (slots + ms) Q (F0 m (pc + 3) ls (.long r :: rest))) : W p l e R s m args below meth c H locs cells slots Q (F0 m pc ls st0) := by
  intro T hT X
  rcases hr T hT X with ⟨v, st₀, t, T', L, h0, X', hL, e1, e2, ⟨⟨r, u, hv, hp, hb⟩, hF⟩, st⟩ | ⟨q, st₀, t, T', L, E, ce, h0, X', hL, e1, e2, ⟨u, hp, hb, hF⟩, hce, hcv, hcl, st⟩
  · cases hv
    obtain ⟨k1, k2, k3⟩ := vx_keep h0 e1 hS hA hf hL hF
    obtain ⟨t2, a1, b1⟩ := kk r u t T'.heap (locs ++ L) e1.symm (by rw [← e2]; exact X'.warmed.alike) hp hb k1 k2 k3 T' rfl X'
    exact ⟨t2, st t2 a1, b1⟩
  · obtain ⟨k1, k2, k3⟩ := vx_keep h0 e1 hS hAX hf hL hF
    obtain ⟨t2, a1, b1⟩ := kx E ce q u t T'.heap (locs ++ L) e1.symm (by rw [← e2]; exact X'.warmed.alike) hp hb k1 k2 k3 (by rw [e1]; exact hce) hcv hcl T' rfl X'
    exact ⟨t2, st.trans a1, b1⟩
theorem vx_callf {S SX : Type} {post : UInt32 → S → Prop} {px : SX → Prop} {B : S → State → Prop} {BX : String → SX → State → Prop} {AX : Nat → Prop} (hr : vx_Run p l e R s m args below meth c H locs cells slots mc ms (F0 m pc ls st0) rest (va_Qf post B A1 a) (vx_X px BX AX) free) (hS : va_S A0 H0 H locs) (hA : ∀ q, q < H.size → A1 q → A0 q) (hf : ∀ q, free q → A0 q) (hAX : ∀ q, q < H.size → AX q → A0 q)
    (kx : ∀ (E : String) (ce : Cell) (q9 : Addr) (u : SX) (t : State) (H1 : Heap) (locs1 : List Loc), t.heap = H1 → s.vm.Alike t.vm → px u → BX E u t → H.size ≤ H1.size → (∀ q : Nat, q < H.size → ¬ AX q → H1[q]? = H[q]?) → va_S A0 H0 H1 locs1 → H1[q9]? = some ce → ce.vm = .none → s.vm.findClass E = some ce.cls → vx_W p l e R s m args below meth c H1 locs1 (cells + mc) (slots + ms) Q (F0 m pc ls rest) q9)
    (kk : ∀ (r : UInt32) (u : S) (t : State) (H1 : Heap) (locs1 : List Loc), t.heap = H1 → s.vm.Alike t.vm → post r u → B u t → H.size ≤ H1.size → (∀ q : Nat, q < H.size → ¬ A1 q → H1[q]? = H[q]?) → va_S A0 H0 H1 locs1 → W p l e R s m args below meth c H1 locs1 (cells + mc) (slots + ms) Q (F0 m (pc + 3) ls (.float r :: rest))) : W p l e R s m args below meth c H locs cells slots Q (F0 m pc ls st0) := by
  intro T hT X
  rcases hr T hT X with ⟨v, st₀, t, T', L, h0, X', hL, e1, e2, ⟨⟨r, u, hv, hp, hb⟩, hF⟩, st⟩ | ⟨q, st₀, t, T', L, E, ce, h0, X', hL, e1, e2, ⟨u, hp, hb, hF⟩, hce, hcv, hcl, st⟩
  · cases hv
    obtain ⟨k1, k2, k3⟩ := vx_keep h0 e1 hS hA hf hL hF
    obtain ⟨t2, a1, b1⟩ := kk r u t T'.heap (locs ++ L) e1.symm (by rw [← e2]; exact X'.warmed.alike) hp hb k1 k2 k3 T' rfl X'
    exact ⟨t2, st t2 a1, b1⟩
  · obtain ⟨k1, k2, k3⟩ := vx_keep h0 e1 hS hAX hf hL hF
    obtain ⟨t2, a1, b1⟩ := kx E ce q u t T'.heap (locs ++ L) e1.symm (by rw [← e2]; exact X'.warmed.alike) hp hb k1 k2 k3 (by rw [e1]; exact hce) hcv hcl T' rfl X'
    exact ⟨t2, st.trans a1, b1⟩
theorem vx_calld {S SX : Type} {post : UInt64 → S → Prop} {px : SX → Prop} {B : S → State → Prop} {BX : String → SX → State → Prop} {AX : Nat → Prop} (hr : vx_Run p l e R s m args below meth c H locs cells slots mc ms (F0 m pc ls st0) rest (va_Qd post B A1 a) (vx_X px BX AX) free) (hS : va_S A0 H0 H locs) (hA : ∀ q, q < H.size → A1 q → A0 q) (hf : ∀ q, free q → A0 q) (hAX : ∀ q, q < H.size → AX q → A0 q)
    (kx : ∀ (E : String) (ce : Cell) (q9 : Addr) (u : SX) (t : State) (H1 : Heap) (locs1 : List Loc), t.heap = H1 → s.vm.Alike t.vm → px u → BX E u t → H.size ≤ H1.size → (∀ q : Nat, q < H.size → ¬ AX q → H1[q]? = H[q]?) → va_S A0 H0 H1 locs1 → H1[q9]? = some ce → ce.vm = .none → s.vm.findClass E = some ce.cls → vx_W p l e R s m args below meth c H1 locs1 (cells + mc) (slots + ms) Q (F0 m pc ls rest) q9)
    (kk : ∀ (r : UInt64) (u : S) (t : State) (H1 : Heap) (locs1 : List Loc), t.heap = H1 → s.vm.Alike t.vm → post r u → B u t → H.size ≤ H1.size → (∀ q : Nat, q < H.size → ¬ A1 q → H1[q]? = H[q]?) → va_S A0 H0 H1 locs1 → W p l e R s m args below meth c H1 locs1 (cells + mc) (slots + ms) Q (F0 m (pc + 3) ls (.double r :: rest))) : W p l e R s m args below meth c H locs cells slots Q (F0 m pc ls st0) := by
  intro T hT X
  rcases hr T hT X with ⟨v, st₀, t, T', L, h0, X', hL, e1, e2, ⟨⟨r, u, hv, hp, hb⟩, hF⟩, st⟩ | ⟨q, st₀, t, T', L, E, ce, h0, X', hL, e1, e2, ⟨u, hp, hb, hF⟩, hce, hcv, hcl, st⟩
  · cases hv
    obtain ⟨k1, k2, k3⟩ := vx_keep h0 e1 hS hA hf hL hF
    obtain ⟨t2, a1, b1⟩ := kk r u t T'.heap (locs ++ L) e1.symm (by rw [← e2]; exact X'.warmed.alike) hp hb k1 k2 k3 T' rfl X'
    exact ⟨t2, st t2 a1, b1⟩
  · obtain ⟨k1, k2, k3⟩ := vx_keep h0 e1 hS hAX hf hL hF
    obtain ⟨t2, a1, b1⟩ := kx E ce q u t T'.heap (locs ++ L) e1.symm (by rw [← e2]; exact X'.warmed.alike) hp hb k1 k2 k3 (by rw [e1]; exact hce) hcv hcl T' rfl X'
    exact ⟨t2, st.trans a1, b1⟩
theorem vx_callv {S SX : Type} {post : S → Prop} {px : SX → Prop} {B : S → State → Prop} {BX : String → SX → State → Prop} {AX : Nat → Prop} (hr : vx_Run p l e R s m args below meth c H locs cells slots mc ms (F0 m pc ls st0) rest (va_Qv post B A1 a) (vx_X px BX AX) free) (hS : va_S A0 H0 H locs) (hA : ∀ q, q < H.size → A1 q → A0 q) (hf : ∀ q, free q → A0 q) (hAX : ∀ q, q < H.size → AX q → A0 q)
    (kx : ∀ (E : String) (ce : Cell) (q9 : Addr) (u : SX) (t : State) (H1 : Heap) (locs1 : List Loc), t.heap = H1 → s.vm.Alike t.vm → px u → BX E u t → H.size ≤ H1.size → (∀ q : Nat, q < H.size → ¬ AX q → H1[q]? = H[q]?) → va_S A0 H0 H1 locs1 → H1[q9]? = some ce → ce.vm = .none → s.vm.findClass E = some ce.cls → vx_W p l e R s m args below meth c H1 locs1 (cells + mc) (slots + ms) Q (F0 m pc ls rest) q9)
    (kk : ∀ (u : S) (t : State) (H1 : Heap) (locs1 : List Loc), t.heap = H1 → s.vm.Alike t.vm → post u → B u t → H.size ≤ H1.size → (∀ q : Nat, q < H.size → ¬ A1 q → H1[q]? = H[q]?) → va_S A0 H0 H1 locs1 → W p l e R s m args below meth c H1 locs1 (cells + mc) (slots + ms) Q (F0 m (pc + 3) ls (rest))) : W p l e R s m args below meth c H locs cells slots Q (F0 m pc ls st0) := by
  intro T hT X
  rcases hr T hT X with ⟨v, st₀, t, T', L, h0, X', hL, e1, e2, ⟨⟨u, hv, hp, hb⟩, hF⟩, st⟩ | ⟨q, st₀, t, T', L, E, ce, h0, X', hL, e1, e2, ⟨u, hp, hb, hF⟩, hce, hcv, hcl, st⟩
  · cases hv
    obtain ⟨k1, k2, k3⟩ := vx_keep h0 e1 hS hA hf hL hF
    obtain ⟨t2, a1, b1⟩ := kk u t T'.heap (locs ++ L) e1.symm (by rw [← e2]; exact X'.warmed.alike) hp hb k1 k2 k3 T' rfl X'
    exact ⟨t2, st t2 a1, b1⟩
  · obtain ⟨k1, k2, k3⟩ := vx_keep h0 e1 hS hAX hf hL hF
    obtain ⟨t2, a1, b1⟩ := kx E ce q u t T'.heap (locs ++ L) e1.symm (by rw [← e2]; exact X'.warmed.alike) hp hb k1 k2 k3 (by rw [e1]; exact hce) hcv hcl T' rfl X'
    exact ⟨t2, st.trans a1, b1⟩
/-- caught by the row x of this method's table; the rows ahead don't take it -/
theorem vx_catch {own name : String} {E : String} {ce : Cell} {q : Addr} (hown : s.vm.findClass own = some m.cls) (pre : List ExceptionTableEntry) (x : ExceptionTableEntry) (suf : List ExceptionTableEntry) (hsplit : c.exceptionTable.toList = pre ++ x :: suf)
    (hpass : ∀ z ∈ pre, covers z pc = false ∨ (z.catchType ≠ 0 ∧ ∃ nm : String, (Cond.classLink own z.catchType nm).before args s = true ∧ va_Nc E nm s)) (hx : covers x pc = true) (h0 : x.catchType ≠ 0)
    (hlink : (Cond.classLink own x.catchType name).before args s = true) (hcast : (Cond.castable E name).before args s = true) (hcell : H[q]? = some ce) (hv : ce.vm = .none) (hcl : s.vm.findClass E = some ce.cls)
    (kk : W p l e R s m args below meth c H locs cells slots Q (F0 m x.handlerPc ls [.ref q])) : vx_W p l e R s m args below meth c H locs cells slots Q (F0 m pc ls rest) q := by
  intro T hT X
  have hpl : e.platform.magicAccessors = ({} : Platform).magicAccessors := by rw [X.admits.platform]
  obtain ⟨c3, c4, hc3, hc4, hasg⟩ := Cond.castable_spec hcast
  cases Option.some.inj (hc3.symm.trans hcl)
  obtain ⟨c5, hc5, hcl5⟩ := Cond.classLink_spec hown hlink e.platform hpl
  cases Option.some.inj (hc4.symm.trans hc5)
  obtain ⟨vm', X', st⟩ := Jvm.Stand.thenCaughtThrough X q (g := F0 m pc ls rest) rfl (Steps.refl _) (by rw [hT]; exact hcell) (by rw [hv]; rfl) (by obtain ⟨k9, h9, -⟩ := Vm.findClass_spec hcl; exact ⟨k9, h9⟩) pre x suf hsplit
    (fun z hz => by
      rcases hpass z hz with h | ⟨hz0, nm, hl1, hn1⟩
      · exact Or.inl h
      · obtain ⟨c6, hc6, hcl6⟩ := Cond.classLink_spec hown hl1 e.platform hpl
        obtain ⟨a8, b8, h1, h2, h3⟩ := hn1
        cases Option.some.inj (h1.symm.trans hcl)
        cases Option.some.inj (h2.symm.trans hc6)
        exact Or.inr ⟨hz0, _, hcl6, h3⟩) hx (Or.inr ⟨h0, c4, hcl5, hasg⟩)
  obtain ⟨t, a1, b1⟩ := kk (T.setVm vm') hT X'
  exact ⟨t, st.trans a1, b1⟩
end Rows
section Ends
variable {p : Program} {l : Launch} {e : Env} {R : Room} {s : State} {m : MethodId} {args : Array Value} {below : List Frame} {meth : Method} {c : Code} {H : Heap} {locs : List Loc} {cells slots : Nat} {Q : State → Prop}
variable {mc ms : Nat} {free : Addr → Prop} {A0 A1 : Nat → Prop} {H0 : Heap} {a : Array Value} {ls : Array Slot} {st0 rest : List Value}
variable {Qc : Array Value → State → Outcome → State → Prop} {XC : String → State → State → Prop}
/-- what a body that may throw owes at its end -/
def vx_MQ (below : List Frame) (Qc : Array Value → State → Outcome → State → Prop) (XC : String → State → State → Prop) (a : Array Value) (s : State) (mc ms : Nat) (free : Addr → Prop) : State → Prop := fun t =>
  ∃ o, t.status = .running ∧ Ended t below o ∧ vx_Q Qc XC mc ms free a s o t
theorem vx_ret {g : JFrame} {mc ms : Nat} (k : W p l e R s m args below meth c H locs cells slots (MQ below Qc args s mc ms free) g) : W p l e R s m args below meth c H locs cells slots (vx_MQ below Qc XC args s mc ms free) g := by
  intro T hT X
  obtain ⟨t, a1, o, b1, b2, b3, b4⟩ := k T hT X
  exact ⟨t, a1, o, b1, b2, Or.inl ⟨b3, b4⟩⟩
/-- not caught here: it goes on to the caller -/
theorem vx_widen {g : JFrame} {q : Addr} {k n : Nat} (h1 : cells ≤ k) (h2 : slots ≤ n) (kk : vx_W p l e R s m args below meth c H locs k n Q g q) : vx_W p l e R s m args below meth c H locs cells slots Q g q := fun T hT X => kk T hT (stand_widen X h1 h2)
theorem vx_out {pc : Nat} {E : String} {ce : Cell} {q : Addr} {mc ms : Nat} (hout : ∀ x ∈ c.exceptionTable.toList, covers x pc = false) (hlocks : meth.locks = false) (hcell : H[q]? = some ce) (hv : ce.vm = .none) (hcl : s.vm.findClass E = some ce.cls)
    (hx : ∀ t : State, t.heap = H → s.vm.Alike t.vm → XC E s t) (hf : ∀ z ∈ locs, free z.base) (hc : cells ≤ mc) (hs : slots ≤ ms) :
    vx_W p l e R s m args below meth c H locs cells slots (vx_MQ below Qc XC args s mc ms free) (F0 m pc ls rest) q := by
  intro T hT X
  obtain ⟨st1, hrun, hend, hW, hsm⟩ := X.leaveThrown q (g := F0 m pc ls rest) rfl rfl rfl hout hlocks
  have hcell9 : (T.setFrames (.throwing q :: below)).heap[q]? = some ce := by
    show T.heap[q]? = some ce
    rw [hT]; exact hcell
  exact ⟨_, st1, .threw q, hrun, hend, Or.inr ⟨q, rfl, E, ce, locs, hx _ hT hW.alike, hcell9, hv, hcl, hW, hsm.mono hc hs, hf⟩⟩
theorem vx_frame {U : State} {k n : Nat} (h : s.sameButNew ({ U with vm := s.vm } : State) locs k n) : s.heap.size ≤ U.heap.size ∧ ∀ q : Nat, q < s.heap.size → (∀ z ∈ locs, z.base ≠ q) → U.heap[q]? = s.heap[q]? := by
  obtain ⟨-, h2, -, -, -, h6⟩ := h
  refine ⟨h2, fun q hq hz => ?_⟩
  obtain ⟨c9, e1, e2, e3, e4⟩ := h6 q _ (Array.getElem?_eq_getElem hq)
  have hs : c9.slots = (s.heap[q]).slots := Array.ext_getElem? fun i => e4 i fun hm => hz _ hm rfl
  have h9 : c9 = s.heap[q] := by
    rw [hs] at e2
    exact e2
  have e5 : U.heap[q]? = some c9 := e1
  rw [e5, h9, Array.getElem?_eq_getElem hq]
/-- the words of a throw but the four that speak of the heap -/
def vx_no (w : Cond) : Bool := decide (w ≠ .isRef (.static Bundle.tN "UNASSIGNED_STACK" Bundle.steD)) && decide (w ≠ .isRef (.static Bundle.tN "SUPPRESSED_SENTINEL" Bundle.listD)) && decide (w ≠ .laysStatic Bundle.tN "UNASSIGNED_STACK" Bundle.steD) && decide (w ≠ .laysStatic Bundle.tN "SUPPRESSED_SENTINEL" Bundle.listD)
def vx_at0 (own : String) (ic : Nat) (X : String) (names : List String) : List Cond := (Bundle.ownAtoms0 own ic X names).filter vx_no
def vx_atS (own : String) (ic : Nat) (X : String) (names : List String) : List Cond := (Bundle.ownAtoms own ic X names).filter vx_no
/-- a word that the tables alone decide, or a good one -/
def vx_ot (w : Cond) : Bool := w.onTables || goodWord w
theorem vx_ot_at {args a' : Array Value} {s U : State} {w : Cond} (hW : s.WarmedH U.vm) (hvm : s.vm = U.vm) (hg : vx_ot w = true) (h : w.before args s = true) : w.before a' U = true := by
  simp only [vx_ot, Bool.or_eq_true] at hg
  rcases hg with hg | hg
  · exact va_tabs hg hvm h
  · exact word_at hW (good_of_word hg) h
/-- a list's words: the good ones out of the method's own list, the others by premises of their own -/
theorem vx_hat {args : Array Value} {s : State} {L B : List Cond} (h1 : ∀ w ∈ L.filter goodWord, w.before args s = true) (h2 : ∀ w ∈ L.filter (fun w => !goodWord w), w ∈ B) (h3 : ∀ w ∈ B, w.before args s = true) : ∀ w ∈ L, w.before args s = true := by
  intro w hw
  by_cases g : goodWord w = true
  · exact h1 w (List.mem_filter.mpr ⟨hw, g⟩)
  · refine h3 w (h2 w (List.mem_filter.mpr ⟨hw, ?_⟩))
    show (!goodWord w) = true
    cases hgw : goodWord w
    · rfl
    · exact absurd hgw g
theorem vx_c {args : Array Value} {s : State} {w : Cond} {B : List Cond} (h : w.before args s = true) (t : ∀ w ∈ B, w.before args s = true) : ∀ w' ∈ w :: B, w'.before args s = true := fun w' h' => (List.mem_cons.mp h').elim (fun e => by rw [e]; exact h) (t w')
theorem vx_n {args : Array Value} {s : State} : ∀ w ∈ ([] : List Cond), w.before args s = true := fun _ h => nomatch h
theorem vx_own {args : Array Value} {s : State} {L : List Cond} (h1 : ∀ w ∈ L.filter vx_no, w.before args s = true)
    (hU : (Cond.isRef (.static Bundle.tN "UNASSIGNED_STACK" Bundle.steD)).before args s = true) (hN : (Cond.isRef (.static Bundle.tN "SUPPRESSED_SENTINEL" Bundle.listD)).before args s = true)
    (lU : (Cond.laysStatic Bundle.tN "UNASSIGNED_STACK" Bundle.steD).before args s = true) (lN : (Cond.laysStatic Bundle.tN "SUPPRESSED_SENTINEL" Bundle.listD).before args s = true) : ∀ w ∈ L, w.before args s = true := by
  intro w hw
  by_cases e1 : w = .isRef (.static Bundle.tN "UNASSIGNED_STACK" Bundle.steD)
  · rw [e1]; exact hU
  · by_cases e2 : w = .isRef (.static Bundle.tN "SUPPRESSED_SENTINEL" Bundle.listD)
    · rw [e2]; exact hN
    · by_cases e3 : w = .laysStatic Bundle.tN "UNASSIGNED_STACK" Bundle.steD
      · rw [e3]; exact lU
      · by_cases e4 : w = .laysStatic Bundle.tN "SUPPRESSED_SENTINEL" Bundle.listD
        · rw [e4]; exact lN
        · exact h1 w (List.mem_filter.mpr ⟨hw, by unfold vx_no; rw [decide_eq_true e1, decide_eq_true e2, decide_eq_true e3, decide_eq_true e4]; rfl⟩)
/-- where a static field lies, its class's statics cell in H -/
def vx_L (C n d : String) (A : Nat → Prop) (U : State) (H : Heap) : Prop := ∃ (c : ClassId) (k : Class) (i : Nat) (f : Field) (a : Nat) (cell : Cell), U.vm.findClass C = some c ∧ U.fieldFound? C n d = some (c, k, i, f) ∧ f.isStatic = true ∧ k.statics = some a ∧ H[a]? = some cell ∧ cell.vm.isStatics = true ∧ cell.cls = c ∧ f.slot < cell.slots.size ∧ k.staticTypes[f.slot]? = some f.type ∧ ¬ A a
theorem vx_L.moved {C n d : String} {A : Nat → Prop} {u U : State} {H : Heap} (hvm : u.vm.Alike U.vm) (h : vx_L C n d A u H) : vx_L C n d A U H := by
  obtain ⟨c, k, i, f, a, cell, h1, h2, h3, h4, h5, h6, h7, h8, h9, h10⟩ := h
  obtain ⟨k', hi', he⟩ := State.fieldFound?_setVm hvm h2
  exact ⟨c, k', i, f, a, cell, by rw [hvm.findClass]; exact h1, hi', h3, by rw [he]; exact h4, h5, h6, h7, h8, by rw [he]; exact h9, h10⟩
theorem vx_L.kept {C n d : String} {A : Nat → Prop} {U : State} {H H1 : Heap} (h : vx_L C n d A U H) (hq : ∀ a : Nat, a < H.size → ¬ A a → H1[a]? = H[a]?) : vx_L C n d A U H1 := by
  obtain ⟨c, k, i, f, a, cell, h1, h2, h3, h4, h5, h6, h7, h8, h9, h10⟩ := h
  exact ⟨c, k, i, f, a, cell, h1, h2, h3, h4, by rw [hq a (Array.getElem?_eq_some_iff.mp h5).1 h10]; exact h5, h6, h7, h8, h9, h10⟩
theorem vx_L.narrow {C n d : String} {A B : Nat → Prop} {U : State} {H : Heap} (h : vx_L C n d A U H) (hAB : ∀ q, B q → A q) : vx_L C n d B U H := by
  obtain ⟨c, k, i, f, a, cell, h1, h2, h3, h4, h5, h6, h7, h8, h9, h10⟩ := h
  exact ⟨c, k, i, f, a, cell, h1, h2, h3, h4, h5, h6, h7, h8, h9, fun z => h10 (hAB _ z)⟩
theorem vx_L.word {C n d : String} {A : Nat → Prop} {s : State} {args : Array Value} (h : vx_L C n d A s s.heap) : (Cond.laysStatic C n d).before args s = true := by
  obtain ⟨c, k, i, f, a, cell, h1, h2, h3, h4, h5, h6, h7, h8, h9, -⟩ := h
  show (Cond.laysStatic C n d).holds args s none s [] = true
  exact Cond.laysStatic_of h1 h2 h3 h4 h5 h6 h7 h8 h9
/-- .. and what it holds: null or some reference -/
def vx_Zq (C n d : String) (A : Nat → Prop) (U : State) (H : Heap) : Prop := va_Zq C n d A U H ∧ vx_L C n d A U H
theorem vx_Zq.moved {C n d : String} {A : Nat → Prop} {u U : State} {H : Heap} (hvm : u.vm.Alike U.vm) (h : vx_Zq C n d A u H) : vx_Zq C n d A U H := ⟨va_Zq.moved hvm h.1, vx_L.moved hvm h.2⟩
theorem vx_Zq.kept {C n d : String} {A : Nat → Prop} {U : State} {H H1 : Heap} (h : vx_Zq C n d A U H) (hq : ∀ a : Nat, a < H.size → ¬ A a → H1[a]? = H[a]?) : vx_Zq C n d A U H1 := ⟨va_Zq.kept h.1 hq, vx_L.kept h.2 hq⟩
theorem vx_Zq.narrow {C n d : String} {A B : Nat → Prop} {U : State} {H : Heap} (h : vx_Zq C n d A U H) (hAB : ∀ q, B q → A q) : vx_Zq C n d B U H := ⟨va_Zq.narrow h.1 hAB, vx_L.narrow h.2 hAB⟩
theorem vx_Zqof {args : Array Value} {s : State} {C n d : String} {A : Nat → Prop} (hl : (Cond.laysStatic C n d).before args s = true) (hini : (Cond.initialized C).before args s = true) (h : (Cond.isRef (.static C n d)).before args s = true) (hA : ∀ a : Nat, a < s.heap.size → ¬ A a) : vx_Zq C n d A s s.heap := by
  refine ⟨va_Zqof hl hini h hA, ?_⟩
  obtain ⟨c, k, i, f, a, cell, h1, h2, h3, h4, h5, h6, h7, h8, h9⟩ := Cond.laysStatic_spec hl
  exact ⟨c, k, i, f, a, cell, h1, h2, h3, h4, h5, h6, h7, h8, h9, hA a (Array.getElem?_eq_some_iff.mp h5).1⟩
theorem vx_isRef {C n d : String} {v : Value} {A : Nat → Prop} {s : State} {args : Array Value} (h : va_Z C n d v A s s.heap) (hv : v.isRef = true) : (Cond.isRef (.static C n d)).before args s = true := by
  obtain ⟨cf, kf, fi, f, a, cell, h1, h2, h3, h4, h5, h6, h7, -⟩ := h
  have he : (Term.static C n d).eval args s none [] s = some v := by
    simp [Term.eval, State.fieldNamed?, h1, h2, h4, h5, h6, h7]
  simp only [Cond.before, Cond.holds, Cond.value, he]
  cases v <;> simp_all [Value.isRef]
theorem vx_isRefq {C n d : String} {A : Nat → Prop} {s : State} {args : Array Value} (h : va_Zq C n d A s s.heap) : (Cond.isRef (.static C n d)).before args s = true := by
  rcases h with h | ⟨t, h⟩
  · exact vx_isRef h rfl
  · exact vx_isRef h rfl
/-- the same frame, seen from here: as if the method were called anew in this heap -/
theorem vx_rebase {T : State} (X : Stand p l e R s m args below meth c T locs cells slots) {R' : Room} (hf : R'.frames ≤ R.frames) (hl : R'.locals ≤ R.locals) (hc : cells + R'.cells ≤ R.cells) (hs : slots + R'.slots ≤ R.slots) :
    Stand p l e R' ((T.setVm s.vm).setFrames (.invoking m args :: below)) m args below meth c T [] 0 0 := by
  have htop : (T.setVm s.vm).topJava?.isSome := X.here.top
  have hF : ((T.setVm s.vm).setFrames (.invoking m args :: below)).frames = .invoking m args :: below := State.frames_setFrames _ (State.cur_lt_of_top htop)
  obtain ⟨g₀, hg0⟩ := Option.isSome_iff_exists.mp htop
  obtain ⟨r, hr⟩ := State.topJava?_eq_some.mp hg0
  have hl9 : e.platform.stackLimits (T.setVm s.vm).me = e.platform.stackLimits s.me := X.limits
  have hb9 : (T.setVm s.vm).me.stackBytes = s.me.stackBytes := X.bytes
  refine ⟨X.admits, X.cas, X.clock, hF, ?_, X.hears, X.method, X.code, X.here, X.tail, X.warmed, ?_, ?_, ?_⟩
  · have h := X.room
    have hU : ((T.setVm s.vm).setFrames (.invoking m args :: below)).localsInUse = s.localsInUse := by
      rw [State.localsInUse_invoking hF (meth := meth) (c := c) X.method X.code, State.localsInUse_invoking X.frames X.method X.code]
    simp only [State.hasRoom, Bool.and_eq_true, decide_eq_true_eq] at h ⊢
    obtain ⟨⟨⟨⟨h1, h2, h3, h4, h5, h6⟩, h7⟩, h8⟩, h9⟩ := h
    rw [X.frames, List.length_cons] at h2 h3
    have q1 := X.heapSize
    have q2 := X.used
    simp only [hF, hU, List.length_cons, State.stackLimits_setFrames, State.stackBytes_setFrames, hl9, hb9]
    refine ⟨⟨⟨⟨by omega, by omega, by omega, by omega, by omega, h6⟩, ?_⟩, ?_⟩, X.book⟩
    · show T.heap.size + R'.cells ≤ e.platform.maxCells
      omega
    · show T.slotsUsed + R'.slots ≤ e.platform.maxSlots
      omega
  · rw [State.stackLimits_setFrames]; rfl
  · rw [State.stackBytes_setFrames]; rfl
  · refine ⟨?_, Nat.le_refl _, Nat.le_refl _, ?_, ?_, fun a c9 h9 => ⟨c9, h9, rfl, rfl, fun _ _ => rfl⟩⟩
    · obtain ⟨t, ht, -⟩ := State.frames_cons hr
      show T.setVm s.vm = { ((T.setVm s.vm).setFrames (.invoking m args :: below)).setFrames (T.setVm s.vm).frames with heap := T.heap, slotsUsed := T.slotsUsed }
      rw [State.setFrames_setFrames, State.setFrames_self ht]
      rfl
    · show T.slotsUsed = T.slotsUsed + ((T.heap.toList.drop T.heap.size).map (·.slots.size)).sum
      rw [List.drop_eq_nil_of_le (Nat.le_of_eq Array.length_toList)]
      rfl
    · show ((T.heap.toList.drop T.heap.size).map (·.slots.size)).sum ≤ 0
      rw [List.drop_eq_nil_of_le (Nat.le_of_eq Array.length_toList)]
      exact Nat.le_refl _
/-- 'throw new E()': new; dup; invokespecial; athrow -/
theorem vx_throw0 {cc : ByteArray} {pc : Nat} (hexec : p.tables.exec = Jvm.exec) (hb : c.code = cc) (hl : l.stackTraces = false) {own cls : String} {names : List String} {ik ic mc ms : Nat} {A : Nat → Prop}
    (hown : s.vm.findClass own = some m.cls) (hcls : Bundle.fit cls = true) (hnames : ∀ n ∈ names, Bundle.fit n = true)
    (hk : (Cond.classLink own ik cls).before args s = true) (hini : (Cond.initialized cls).before args s = true) (hat : ∀ w ∈ vx_at0 own ic cls names, w.before args s = true)
    (hgood : ∀ w ∈ Cond.classLink own ik cls :: Cond.initialized cls :: vx_at0 own ic cls names, vx_ot w = true)
    (hU : vx_Zq Bundle.tN "UNASSIGNED_STACK" Bundle.steD A s s.heap) (hN : vx_Zq Bundle.tN "SUPPRESSED_SENTINEL" Bundle.listD A s s.heap) (hS : va_S A s.heap H locs) (hsize : ls.size = c.maxLocals)
    (d0 : decode cc pc = .ok (.new ik, 3)) (d3 : decode cc (pc + 3) = .ok (.dup, 1)) (d4 : decode cc (pc + 4) = .ok (.invokespecial ic, 3)) (d7 : decode cc (pc + 7) = .ok (.athrow, 1))
    (hout : ∀ x ∈ c.exceptionTable.toList, covers x (pc + 7) = false)
    (hRframes : names.length + 3 < R.frames) (hRlocals : (rest.map fun v => v.category).sum + (13 * (names.length + 1) + 42) ≤ R.locals) (hRcells : cells + 1 ≤ R.cells) (hRslots : slots + 6 ≤ R.slots) (hlocks : meth.locks = false)
    (hx : ∀ t : State, s.vm.Alike t.vm → H.size ≤ t.heap.size → (∀ q : Nat, q < H.size → t.heap[q]? = H[q]?) → XC cls s t)
    (hf : ∀ z ∈ locs, free z.base) (hc : cells + 1 ≤ mc) (hs : slots + 6 ≤ ms) :
    W p l e R s m args below meth c H locs cells slots (vx_MQ below Qc XC args s mc ms free) (F0 m pc ls rest) := by
  intro T hT X
  have htr : e.platform.stackTraces = false := (show e.platform.stackTraces = l.stackTraces by rw [X.admits.platform]).trans hl
  have Y := vx_rebase X (R' := { frames := R.frames, locals := R.locals, cells := 1, slots := 6 }) (Nat.le_refl _) (Nat.le_refl _) hRcells hRslots
  obtain ⟨s', hA⟩ : ∃ z, z = (T.setVm s.vm).setFrames (.invoking m args :: below) := ⟨_, rfl⟩
  rw [← hA] at Y
  have hvm : s'.vm = s.vm := by rw [hA]; rfl
  have hhp : s'.heap = H := by rw [hA]; exact hT
  have hW0 : s.WarmedH s'.vm := by rw [hvm]; exact State.WarmedH.refl s
  have hat' : ∀ w ∈ vx_at0 own ic cls names, w.before args s' = true := fun w hw => vx_ot_at hW0 hvm.symm (hgood w (List.mem_cons_of_mem _ (List.mem_cons_of_mem _ hw))) (hat w hw)
  have hk' : (Cond.classLink own ik cls).before args s' = true := vx_ot_at hW0 hvm.symm (hgood _ List.mem_cons_self) hk
  have hini' : (Cond.initialized cls).before args s' = true := vx_ot_at hW0 hvm.symm (hgood _ (List.mem_cons_of_mem _ List.mem_cons_self)) hini
  have hU' : vx_Zq Bundle.tN "UNASSIGNED_STACK" Bundle.steD A s' s'.heap := by rw [hhp]; exact vx_Zq.moved hW0.alike (hU.kept hS.2.1)
  have hN' : vx_Zq Bundle.tN "SUPPRESSED_SENTINEL" Bundle.listD A s' s'.heap := by rw [hhp]; exact vx_Zq.moved hW0.alike (hN.kept hS.2.1)
  have h : ∀ w ∈ Bundle.ownAtoms0 own ic cls names, w.before args s' = true := vx_own hat' (vx_isRefq hU'.1) (vx_isRefq hN'.1) hU'.2.word hN'.2.word
  have hown' : s'.vm.findClass own = some m.cls := by rw [hvm]; exact hown
  have hins : (Cond.instantiable cls 6).before args s' = true := h _ (by simp [Bundle.ownAtoms0])
  obtain ⟨vm₁, cX, kX, hfX, hkX, -, -, X₁, st1⟩ := Y.newCold hexec (own := own) (C := cls) (index := ik) (n := 6) hown' hk' hins hini'
    (g := F0 m pc ls rest) rfl (by rw [hb]; exact d0) (Nat.le_refl _) (Nat.le_refl _)
  generalize hT1 : (T.setVm vm₁).pushCell { cls := cX, slots := kX.instanceTypes.map defaultValue, vm := .none } = T1 at X₁ st1
  have hcat : (Value.ref T.heap.size).category = 1 := rfl
  have hcellA : T1.heap[T.heap.size]? = some (freshCell cX kX) := by rw [← hT1]; exact State.heap_pushCell_size _ _
  have d3' : decode c.code (pc + 3) = .ok (.dup, 1) := by rw [hb]; exact d3
  obtain ⟨U, hsteps, hrun, hend, hW, hsame, ce, hce, hO⟩ := X₁.ctorThrow0 hexec htr (own := own) (cls := cls) (names := names) (ic := ic) hown' hcls hnames h (fun x hx => nomatch hx) hfX hkX hcellA (by rw [hhp, hT]; exact Nat.le_refl _)
    (g := { method := m, pc := pc + 4, locals := ls, stack := .ref T.heap.size :: .ref T.heap.size :: rest, locked := none }) rfl hsize rfl rfl (rest := rest) rfl
    (by rw [hb]; exact d4) (by rw [hb]; exact d7) hout hRframes (by simp only [List.map_cons, List.sum_cons, hcat]; omega) hlocks
  obtain ⟨f1, f2⟩ := vx_frame hsame
  rw [hhp] at f1 f2
  have hWs : s.WarmedH U.vm := State.WarmedH.trans hW0 hW
  have hcl : s.vm.findClass cls = some ce.cls := by
    have h9 := hO.cls
    rw [hvm] at h9
    exact h9
  have hall : s.sameButNew ({ U with vm := s.vm } : State) locs mc ms := by
    subst hA
    obtain ⟨e1, e2⟩ := hsame
    rw [State.setFrames_setFrames] at e1
    have h2 : (T.setVm s.vm).sameButNew ({ U with vm := s.vm } : State) [] (0 + 1) (0 + 6) := ⟨e1, e2⟩
    have h3 := X.same.trans h2
    rw [List.append_nil] at h3
    exact h3.mono hc hs
  refine ⟨U, ?_, .threw T.heap.size, hrun, hend, Or.inr ⟨T.heap.size, rfl, cls, ce, locs, hx U hWs.alike f1 (fun q hq => f2 q hq (fun z hz => nomatch hz)), hce, hO.vm, hcl, hWs, hall, hf⟩⟩
  refine st1 _ ?_
  show Steps p.tables e below (T1.setTop { method := m, pc := pc + 3, locals := ls, stack := .ref T.heap.size :: rest, locked := none }) _
  jvm_step X₁.here [X₁.here.top, hexec, d3', Value.category]
  exact hsteps
/-- 'throw new E("text")': new; dup; ldc; invokespecial; athrow -/
theorem vx_throwS {cc : ByteArray} {pc : Nat} (hexec : p.tables.exec = Jvm.exec) (hb : c.code = cc) (hl : l.stackTraces = false) {own cls text : String} {names : List String} {ik is ic mc ms sa : Nat} {A : Nat → Prop}
    (hown : s.vm.findClass own = some m.cls) (hcls : Bundle.fit cls = true) (hnames : ∀ n ∈ names, Bundle.fit n = true)
    (hk : (Cond.classLink own ik cls).before args s = true) (hini : (Cond.initialized cls).before args s = true) (hstr : vk_R own is text sa s) (hat : ∀ w ∈ vx_atS own ic cls names, w.before args s = true)
    (hgood : ∀ w ∈ Cond.classLink own ik cls :: Cond.initialized cls :: vx_atS own ic cls names, vx_ot w = true)
    (hU : vx_Zq Bundle.tN "UNASSIGNED_STACK" Bundle.steD A s s.heap) (hN : vx_Zq Bundle.tN "SUPPRESSED_SENTINEL" Bundle.listD A s s.heap) (hS : va_S A s.heap H locs) (hsize : ls.size = c.maxLocals)
    (d0 : decode cc pc = .ok (.new ik, 3)) (d3 : decode cc (pc + 3) = .ok (.dup, 1)) (d4 : decode cc (pc + 4) = .ok (.ldc is, 2)) (d6 : decode cc (pc + 6) = .ok (.invokespecial ic, 3)) (d9 : decode cc (pc + 9) = .ok (.athrow, 1))
    (hout : ∀ x ∈ c.exceptionTable.toList, covers x (pc + 9) = false)
    (hRframes : names.length + 3 < R.frames) (hRlocals : (rest.map fun v => v.category).sum + (13 * (names.length + 1) + 43) ≤ R.locals) (hRcells : cells + 1 ≤ R.cells) (hRslots : slots + 6 ≤ R.slots) (hlocks : meth.locks = false)
    (hx : ∀ t : State, s.vm.Alike t.vm → H.size ≤ t.heap.size → (∀ q : Nat, q < H.size → t.heap[q]? = H[q]?) → XC cls s t)
    (hf : ∀ z ∈ locs, free z.base) (hc : cells + 1 ≤ mc) (hs : slots + 6 ≤ ms) :
    W p l e R s m args below meth c H locs cells slots (vx_MQ below Qc XC args s mc ms free) (F0 m pc ls rest) := by
  intro T hT X
  have htr : e.platform.stackTraces = false := (show e.platform.stackTraces = l.stackTraces by rw [X.admits.platform]).trans hl
  have Y := vx_rebase X (R' := { frames := R.frames, locals := R.locals, cells := 1, slots := 6 }) (Nat.le_refl _) (Nat.le_refl _) hRcells hRslots
  obtain ⟨s', hA⟩ : ∃ z, z = (T.setVm s.vm).setFrames (.invoking m args :: below) := ⟨_, rfl⟩
  rw [← hA] at Y
  have hvm : s'.vm = s.vm := by rw [hA]; rfl
  have hhp : s'.heap = H := by rw [hA]; exact hT
  have hW0 : s.WarmedH s'.vm := by rw [hvm]; exact State.WarmedH.refl s
  have hat' : ∀ w ∈ vx_atS own ic cls names, w.before args s' = true := fun w hw => vx_ot_at hW0 hvm.symm (hgood w (List.mem_cons_of_mem _ (List.mem_cons_of_mem _ hw))) (hat w hw)
  have hk' : (Cond.classLink own ik cls).before args s' = true := vx_ot_at hW0 hvm.symm (hgood _ List.mem_cons_self) hk
  have hini' : (Cond.initialized cls).before args s' = true := vx_ot_at hW0 hvm.symm (hgood _ (List.mem_cons_of_mem _ List.mem_cons_self)) hini
  have hU' : vx_Zq Bundle.tN "UNASSIGNED_STACK" Bundle.steD A s' s'.heap := by rw [hhp]; exact vx_Zq.moved hW0.alike (hU.kept hS.2.1)
  have hN' : vx_Zq Bundle.tN "SUPPRESSED_SENTINEL" Bundle.listD A s' s'.heap := by rw [hhp]; exact vx_Zq.moved hW0.alike (hN.kept hS.2.1)
  have h : ∀ w ∈ Bundle.ownAtoms own ic cls names, w.before args s' = true := vx_own hat' (vx_isRefq hU'.1) (vx_isRefq hN'.1) hU'.2.word hN'.2.word
  have hown' : s'.vm.findClass own = some m.cls := by rw [hvm]; exact hown
  have hins : (Cond.instantiable cls 6).before args s' = true := h _ (by simp [Bundle.ownAtoms])
  obtain ⟨vm₁, cX, kX, hfX, hkX, -, -, X₁, st1⟩ := Y.newCold hexec (own := own) (C := cls) (index := ik) (n := 6) hown' hk' hins hini'
    (g := F0 m pc ls rest) rfl (by rw [hb]; exact d0) (Nat.le_refl _) (Nat.le_refl _)
  generalize hT1 : (T.setVm vm₁).pushCell { cls := cX, slots := kX.instanceTypes.map defaultValue, vm := .none } = T1 at X₁ st1
  have hcat : (Value.ref T.heap.size).category = 1 := rfl
  have hcellA : T1.heap[T.heap.size]? = some (freshCell cX kX) := by rw [← hT1]; exact State.heap_pushCell_size _ _
  have d3' : decode c.code (pc + 3) = .ok (.dup, 1) := by rw [hb]; exact d3
  have d4' : decode c.code (pc + 4) = .ok (.ldc is, 2) := by rw [hb]; exact d4
  have hstr' : vk_R own is text sa s' := vk_R.warm hW0 hstr
  obtain ⟨U, hsteps, hrun, hend, hW, hsame, ce, hce, hO⟩ := X₁.ctorThrowS hexec htr (own := own) (cls := cls) (names := names) (ic := ic) hown' hcls hnames h (fun x hx => nomatch hx) hfX hkX hcellA (by rw [hhp, hT]; exact Nat.le_refl _) (msg := .ref sa) rfl
    (g := { method := m, pc := pc + 6, locals := ls, stack := .ref sa :: .ref T.heap.size :: .ref T.heap.size :: rest, locked := none }) rfl hsize rfl rfl (rest := rest) rfl
    (by rw [hb]; exact d6) (by rw [hb]; exact d9) hout hRframes (by simp only [List.map_cons, List.sum_cons, hcat]; omega) hlocks
  obtain ⟨f1, f2⟩ := vx_frame hsame
  rw [hhp] at f1 f2
  have hWs : s.WarmedH U.vm := State.WarmedH.trans hW0 hW
  have hcl : s.vm.findClass cls = some ce.cls := by
    have h9 := hO.cls
    rw [hvm] at h9
    exact h9
  have hall : s.sameButNew ({ U with vm := s.vm } : State) locs mc ms := by
    subst hA
    obtain ⟨e1, e2⟩ := hsame
    rw [State.setFrames_setFrames] at e1
    have h2 : (T.setVm s.vm).sameButNew ({ U with vm := s.vm } : State) [] (0 + 1) (0 + 6) := ⟨e1, e2⟩
    have h3 := X.same.trans h2
    rw [List.append_nil] at h3
    exact h3.mono hc hs
  refine ⟨U, ?_, .threw T.heap.size, hrun, hend, Or.inr ⟨T.heap.size, rfl, cls, ce, locs, hx U hWs.alike f1 (fun q hq => f2 q hq (fun z hz => nomatch hz)), hce, hO.vm, hcl, hWs, hall, hf⟩⟩
  refine st1 _ ?_
  show Steps p.tables e below (T1.setTop { method := m, pc := pc + 3, locals := ls, stack := .ref T.heap.size :: rest, locked := none }) _
  jvm_step X₁.here [X₁.here.top, hexec, d3', Value.category]
  exact X₁.ldcString hexec (own := own) (text := text) (index := is) (a := sa) hown' hstr'.1 hstr'.2
    (g := { method := m, pc := pc + 4, locals := ls, stack := .ref T.heap.size :: .ref T.heap.size :: rest, locked := none }) rfl d4' _ hsteps
/-- 'throw new E("text")', the text by a wide index -/
theorem vx_throwSW {cc : ByteArray} {pc : Nat} (hexec : p.tables.exec = Jvm.exec) (hb : c.code = cc) (hl : l.stackTraces = false) {own cls text : String} {names : List String} {ik is ic mc ms sa : Nat} {A : Nat → Prop}
    (hown : s.vm.findClass own = some m.cls) (hcls : Bundle.fit cls = true) (hnames : ∀ n ∈ names, Bundle.fit n = true)
    (hk : (Cond.classLink own ik cls).before args s = true) (hini : (Cond.initialized cls).before args s = true) (hstr : vk_R own is text sa s) (hat : ∀ w ∈ vx_atS own ic cls names, w.before args s = true)
    (hgood : ∀ w ∈ Cond.classLink own ik cls :: Cond.initialized cls :: vx_atS own ic cls names, vx_ot w = true)
    (hU : vx_Zq Bundle.tN "UNASSIGNED_STACK" Bundle.steD A s s.heap) (hN : vx_Zq Bundle.tN "SUPPRESSED_SENTINEL" Bundle.listD A s s.heap) (hS : va_S A s.heap H locs) (hsize : ls.size = c.maxLocals)
    (d0 : decode cc pc = .ok (.new ik, 3)) (d3 : decode cc (pc + 3) = .ok (.dup, 1)) (d4 : decode cc (pc + 4) = .ok (.ldc_w is, 3)) (d7 : decode cc (pc + 7) = .ok (.invokespecial ic, 3)) (d10 : decode cc (pc + 10) = .ok (.athrow, 1))
    (hout : ∀ x ∈ c.exceptionTable.toList, covers x (pc + 10) = false)
    (hRframes : names.length + 3 < R.frames) (hRlocals : (rest.map fun v => v.category).sum + (13 * (names.length + 1) + 43) ≤ R.locals) (hRcells : cells + 1 ≤ R.cells) (hRslots : slots + 6 ≤ R.slots) (hlocks : meth.locks = false)
    (hx : ∀ t : State, s.vm.Alike t.vm → H.size ≤ t.heap.size → (∀ q : Nat, q < H.size → t.heap[q]? = H[q]?) → XC cls s t)
    (hf : ∀ z ∈ locs, free z.base) (hc : cells + 1 ≤ mc) (hs : slots + 6 ≤ ms) :
    W p l e R s m args below meth c H locs cells slots (vx_MQ below Qc XC args s mc ms free) (F0 m pc ls rest) := by
  intro T hT X
  have htr : e.platform.stackTraces = false := (show e.platform.stackTraces = l.stackTraces by rw [X.admits.platform]).trans hl
  have Y := vx_rebase X (R' := { frames := R.frames, locals := R.locals, cells := 1, slots := 6 }) (Nat.le_refl _) (Nat.le_refl _) hRcells hRslots
  obtain ⟨s', hA⟩ : ∃ z, z = (T.setVm s.vm).setFrames (.invoking m args :: below) := ⟨_, rfl⟩
  rw [← hA] at Y
  have hvm : s'.vm = s.vm := by rw [hA]; rfl
  have hhp : s'.heap = H := by rw [hA]; exact hT
  have hW0 : s.WarmedH s'.vm := by rw [hvm]; exact State.WarmedH.refl s
  have hat' : ∀ w ∈ vx_atS own ic cls names, w.before args s' = true := fun w hw => vx_ot_at hW0 hvm.symm (hgood w (List.mem_cons_of_mem _ (List.mem_cons_of_mem _ hw))) (hat w hw)
  have hk' : (Cond.classLink own ik cls).before args s' = true := vx_ot_at hW0 hvm.symm (hgood _ List.mem_cons_self) hk
  have hini' : (Cond.initialized cls).before args s' = true := vx_ot_at hW0 hvm.symm (hgood _ (List.mem_cons_of_mem _ List.mem_cons_self)) hini
  have hU' : vx_Zq Bundle.tN "UNASSIGNED_STACK" Bundle.steD A s' s'.heap := by rw [hhp]; exact vx_Zq.moved hW0.alike (hU.kept hS.2.1)
  have hN' : vx_Zq Bundle.tN "SUPPRESSED_SENTINEL" Bundle.listD A s' s'.heap := by rw [hhp]; exact vx_Zq.moved hW0.alike (hN.kept hS.2.1)
  have h : ∀ w ∈ Bundle.ownAtoms own ic cls names, w.before args s' = true := vx_own hat' (vx_isRefq hU'.1) (vx_isRefq hN'.1) hU'.2.word hN'.2.word
  have hown' : s'.vm.findClass own = some m.cls := by rw [hvm]; exact hown
  have hins : (Cond.instantiable cls 6).before args s' = true := h _ (by simp [Bundle.ownAtoms])
  obtain ⟨vm₁, cX, kX, hfX, hkX, -, -, X₁, st1⟩ := Y.newCold hexec (own := own) (C := cls) (index := ik) (n := 6) hown' hk' hins hini'
    (g := F0 m pc ls rest) rfl (by rw [hb]; exact d0) (Nat.le_refl _) (Nat.le_refl _)
  generalize hT1 : (T.setVm vm₁).pushCell { cls := cX, slots := kX.instanceTypes.map defaultValue, vm := .none } = T1 at X₁ st1
  have hcat : (Value.ref T.heap.size).category = 1 := rfl
  have hcellA : T1.heap[T.heap.size]? = some (freshCell cX kX) := by rw [← hT1]; exact State.heap_pushCell_size _ _
  have d3' : decode c.code (pc + 3) = .ok (.dup, 1) := by rw [hb]; exact d3
  have d4' : decode c.code (pc + 4) = .ok (.ldc_w is, 3) := by rw [hb]; exact d4
  have hstr' : vk_R own is text sa s' := vk_R.warm hW0 hstr
  obtain ⟨U, hsteps, hrun, hend, hW, hsame, ce, hce, hO⟩ := X₁.ctorThrowS hexec htr (own := own) (cls := cls) (names := names) (ic := ic) hown' hcls hnames h (fun x hx => nomatch hx) hfX hkX hcellA (by rw [hhp, hT]; exact Nat.le_refl _) (msg := .ref sa) rfl
    (g := { method := m, pc := pc + 7, locals := ls, stack := .ref sa :: .ref T.heap.size :: .ref T.heap.size :: rest, locked := none }) rfl hsize rfl rfl (rest := rest) rfl
    (by rw [hb]; exact d7) (by rw [hb]; exact d10) hout hRframes (by simp only [List.map_cons, List.sum_cons, hcat]; omega) hlocks
  obtain ⟨f1, f2⟩ := vx_frame hsame
  rw [hhp] at f1 f2
  have hWs : s.WarmedH U.vm := State.WarmedH.trans hW0 hW
  have hcl : s.vm.findClass cls = some ce.cls := by
    have h9 := hO.cls
    rw [hvm] at h9
    exact h9
  have hall : s.sameButNew ({ U with vm := s.vm } : State) locs mc ms := by
    subst hA
    obtain ⟨e1, e2⟩ := hsame
    rw [State.setFrames_setFrames] at e1
    have h2 : (T.setVm s.vm).sameButNew ({ U with vm := s.vm } : State) [] (0 + 1) (0 + 6) := ⟨e1, e2⟩
    have h3 := X.same.trans h2
    rw [List.append_nil] at h3
    exact h3.mono hc hs
  refine ⟨U, ?_, .threw T.heap.size, hrun, hend, Or.inr ⟨T.heap.size, rfl, cls, ce, locs, hx U hWs.alike f1 (fun q hq => f2 q hq (fun z hz => nomatch hz)), hce, hO.vm, hcl, hWs, hall, hf⟩⟩
  refine st1 _ ?_
  show Steps p.tables e below (T1.setTop { method := m, pc := pc + 3, locals := ls, stack := .ref T.heap.size :: rest, locked := none }) _
  jvm_step X₁.here [X₁.here.top, hexec, d3', Value.category]
  exact X₁.ldcStringW hexec (own := own) (text := text) (index := is) (a := sa) hown' hstr'.1 hstr'.2
    (g := { method := m, pc := pc + 4, locals := ls, stack := .ref T.heap.size :: .ref T.heap.size :: rest, locked := none }) rfl d4' _ hsteps
end Ends
section Bodies
variable {l : Launch}
theorem vx_ofW {y : MethodName} {ws ws' : List Cond} {rm : Room} {Pc : Array Value → State → Prop} {Qc : Array Value → State → Outcome → State → Prop} {XC : String → State → State → Prop} {mc ms : Nat} {free : Addr → Prop} {cc : ByteArray} {maxL : Nat} {ret : Option FieldType}
    (hy : plainName y.cls = true) (hw : ws = Cond.code y cc maxL ret :: ws')
    (body : ∀ p e s m args below meth c s₁, BodyLoose p l y (headSpec ws rm) cc maxL ret e s m args below meth c s₁ → c.maxLocals = maxL → (∀ x ∈ c.exceptionTable.toList, False) → Pc args s →
      W p l e (headSpec ws rm).room s m args below meth c s.heap [] 0 0 (vx_MQ below Qc XC args s mc ms free) (entryFrame m args maxL)) : vx_Met l y ws rm Pc Qc XC mc ms free := by
  refine MetFree.of_bodyS (code := cc) (maxLocals := maxL) (ret := ret) hy ?_ ?_
  · intro args s m h hn
    obtain ⟨meth, c, h1, h2, h3, h4, h5, h6, -, -⟩ := Cond.code_spec hn (atoms_spec (ws := ws) h _ (by rw [hw]; exact List.mem_cons_self))
    exact ⟨meth, c, h1, h2, h3, h4, h5, h6⟩
  · intro p e s m args below meth c s₁ B hml hP _
    have hh0 : s₁.heap = s.heap := by rw [B.state]; rfl
    have ht : ∀ x ∈ c.exceptionTable.toList, False := by
      obtain ⟨meth9, c9, h1, h2, -, -, -, -, h7, -⟩ := Cond.code_spec B.named (atoms_spec (ws := ws) B.pre _ (by rw [hw]; exact List.mem_cons_self))
      cases Option.some.inj (h1.symm.trans B.method)
      cases Option.some.inj (h2.symm.trans (Stand.of_body B).code)
      intro x hx
      rw [Array.isEmpty_iff.mp h7] at hx
      cases hx
    obtain ⟨t, a1, o, b1, b2, b3⟩ := body p e s m args below meth c s₁ B hml ht hP s₁ hh0 (Stand.of_body B)
    exact ⟨t, o, a1, b1, b2, b3⟩
/-- the table of a body with handlers -/
theorem vx_table {p : Program} {x y : MethodName} {S : Spec} {cc bytes : ByteArray} {maxL maxL' : Nat} {ret ret' : Option FieldType} {e : Env} {s s₁ : State} {m : MethodId} {args : Array Value} {below : List Frame} {meth : Method} {c : Code} {hh : List (Nat × Nat × Nat × Nat)}
    (B : BodyLoose p l y S cc maxL ret e s m args below meth c s₁) (h : (Cond.codeWith y bytes maxL' ret' hh).before args s = true) : c.exceptionTable.toList = tableOf hh := by
  obtain ⟨m9, meth9, c9, hn9, h1, h2, -, -, h6, -⟩ := Cond.codeWith_spec h
  cases Option.some.inj (hn9.symm.trans B.named)
  cases Option.some.inj (h1.symm.trans B.method)
  cases Option.some.inj (h2.symm.trans (Stand.of_body B).code)
  rw [← h6, table_eq]
end Bodies
end VXA
/-! ===== END ===== -/
/-! ===== BEGIN a static call of a method with an exception table ===== -/
section VXS
variable {p : Program} {l : Launch} {e : Env} {R : Room} {s : State} {m : MethodId} {args : Array Value} {below : List Frame} {meth : Method} {c : Code} {T : State} {H : Heap} {locs : List Loc} {cells slots : Nat}
abbrev vx_CSW (R : Room) (s : State) (args : Array Value) (own : String) (index : Nat) (y : MethodName) (bytes : ByteArray) (maxL : Nat) (ret : Option FieldType) (hh : List (Nat × Nat × Nat × Nat)) (ws : List Cond) (rm : Room) (mc ms n : Nat) : Prop :=
  (rm.cells = mc ∧ rm.slots = ms ∧ rm.frames + 1 ≤ R.frames ∧ 8 + (maxL + 11) + rm.locals ≤ R.locals ∧ (∀ w ∈ ws, ∀ (a' : Array Value) (U : State), s.WarmedH U.vm → w.before a' U = true) ∧ Cond.codeWith y bytes maxL ret hh ∈ ws) ∧
  (Cond.codeWith y bytes maxL ret hh).before args s = true ∧ (Cond.initialized y.cls).before args s = true ∧ (y.cls ≠ "java/lang/invoke/MethodHandle" ∧ y.cls ≠ "java/lang/invoke/VarHandle") ∧
  (∀ sig, parseMethodDescriptor y.desc = some sig → n = sig.parameters.length) ∧ (Cond.methodLink own index y).before args s = true ∧ (Cond.static y).before args s = true
theorem vx_cwSW {own : String} {index maxL mc ms : Nat} {y : MethodName} {bytes : ByteArray} {ret : Option FieldType} {hh : List (Nat × Nat × Nat × Nat)} {Ts ws ws' : List Cond} {rm : Room} (n : Nat) (ht : ∀ w ∈ Ts, w.before args s = true) (hT : GoodIn Ts (va_wsS own index y ws)) (hw : ws = Cond.codeWith y bytes maxL ret hh :: ws') (hrc : rm.cells = mc) (hrs : rm.slots = ms)
    (hd : y.cls ≠ "java/lang/invoke/MethodHandle" ∧ y.cls ≠ "java/lang/invoke/VarHandle" ∧ (parseMethodDescriptor y.desc).map (fun d => d.parameters.length) = some n) (hR : rm.frames + 1 ≤ R.frames ∧ 8 + (maxL + 11) + rm.locals ≤ R.locals) :
    vx_CSW R s args own index y bytes maxL ret hh ws rm mc ms n := by
  have ok : ∀ w ∈ va_wsS own index y ws, w.before args s = true := fun w h => ht w (hT w h).1
  have hG : GoodIn Ts ws := fun w h => hT w (by unfold va_wsS; exact List.mem_append_right _ h)
  have hc : Cond.codeWith y bytes maxL ret hh ∈ ws := by rw [hw]; exact List.mem_cons_self
  refine ⟨⟨hrc, hrs, hR.1, hR.2, pay_in ht hG, hc⟩, ht _ (hG _ hc).1, ok _ (by simp [va_wsS]), ⟨hd.1, hd.2.1⟩, fun sig h => ?_, ok _ (by simp [va_wsS]), ok _ (by simp [va_wsS])⟩
  have h2 := hd.2.2
  rw [h] at h2
  exact (Option.some.inj h2).symm
theorem vx_callSW (X : Stand p l e R s m args below meth c T locs cells slots) (hexec : p.tables.exec = Jvm.exec) {own : String} {index : Nat} {y : MethodName} {bytes : ByteArray} {maxL : Nat} {ret : Option FieldType} {hh : List (Nat × Nat × Nat × Nat)}
    (hown : s.vm.findClass own = some m.cls) (hlink : (Cond.methodLink own index y).before args s = true) (hstat : (Cond.static y).before args s = true) (hinit : (Cond.initialized y.cls).before args s = true)
    (hcode : (Cond.codeWith y bytes maxL ret hh).before args s = true) (hy : y.cls ≠ "java/lang/invoke/MethodHandle" ∧ y.cls ≠ "java/lang/invoke/VarHandle")
    {W9 : Nat} {Pre : Pt → Array Value → Prop} {Post : Pt → Array Value → Option Value → Pt → Prop} (hK : Back l R p e below s args y 3 W9 Pre Post)
    {g : JFrame} (hg : g.method = m) (hsize : g.locals.size = c.maxLocals) {argsL rest : List Value} (hlen : ∀ sig, parseMethodDescriptor y.desc = some sig → argsL.length = sig.parameters.length)
    (hstack : g.stack = argsL.reverse ++ rest) (hW : 2 * g.monitorRoom + (rest.map fun v => v.category).sum ≤ W9) (hdg : decode c.code g.pc = .ok (.invokestatic index, 3))
    (hpre : ∀ vm₁, s.WarmedH vm₁ → Pre ⟨T.setVm vm₁, locs, cells, slots⟩ argsL.toArray) :
    ∃ (v : Option Value) (vm₁ : Vm) (B : Pt), s.WarmedH vm₁ ∧ Stand p l e R s m args below meth c B.U B.locs B.cells B.slots ∧ Post ⟨T.setVm vm₁, locs, cells, slots⟩ argsL.toArray v B ∧
      ∀ target, Steps p.tables e below (B.U.setTop { g with pc := g.pc + 3, stack := v.toList ++ rest }) target → Steps p.tables e below (T.setTop g) target := by
  obtain ⟨mk, methM, cM, hnamed, hmethM, -, -, -, -, -, -, hsigM⟩ := Cond.codeWith_spec hcode
  have hstatic : methM.isStatic = true := Cond.static_spec hnamed hmethM hstat
  obtain ⟨kP, hkP, -⟩ := className_of_methodNamed hnamed
  have hinitP : kP.init = .initialized := Cond.initialized_spec (findClass_of_methodNamed hnamed) hkP hinit
  obtain ⟨vm₁, X₁, hstep₁⟩ := X.invokestatic hexec hown hlink hnamed hmethM hstatic hkP hinitP hy (g := g) hg (argsL := argsL) (rest := rest) (hlen _ hsigM) hstack hdg
  obtain ⟨v, B, X', hpost, hsteps⟩ := hK m meth c ⟨T.setVm vm₁, locs, cells, slots⟩ { g with stack := rest } (.invokestatic index) mk argsL.toArray X₁ hg hsize hdg hW (X₁.named hnamed) (hpre vm₁ X₁.warmed)
  exact ⟨v, vm₁, B, X₁.warmed, X', hpost, fun target h => hstep₁ _ fun acts => by rw [doInvoke_state]; exact hsteps.trans h⟩
theorem vx_runSW {y : MethodName} {bytes cc : ByteArray} {maxL nL mc ms n index : Nat} {ret : Option FieldType} {hh : List (Nat × Nat × Nat × Nat)} {ws : List Cond} {rm : Room} {Pc : Array Value → State → Prop} {Qc : Array Value → State → Outcome → State → Prop} {free : Addr → Prop} {Ts : List Cond} {own : String} {As rest : List Value} {g : JFrame}
    (S : CallFix p m c cc nL s args Ts own) (hM : Met l y ws rm Pc Qc mc ms free) (cw : vx_CSW R s args own index y bytes maxL ret hh ws rm mc ms n) (hp : PreS s H Pc As)
    (hg : g.method = m) (hn : As.length = n) (hsize : g.locals.size = nL) (hstack : g.stack = As.reverse ++ rest) (hW : 2 * g.monitorRoom + (rest.map fun v => v.category).sum ≤ 8) (hdg : decode cc g.pc = .ok (.invokestatic index, 3)) (hf : cells + mc ≤ R.cells ∧ slots + ms ≤ R.slots) :
    va_Run p l e R s m args below meth c H locs cells slots mc ms g rest (Qc As.toArray) (free) := by
  obtain ⟨⟨hrc, hrs, hfr, hlo, hws, hcw⟩, hcode, hini, hy, hlen, hl, hstt⟩ := cw
  have hK : Back l R p e below s args y 3 8 (PreOf R mc ms Pc) (PostOf Qc mc ms free) := va_backW (hh := hh) (bytes := bytes) (maxL := maxL) (ret := ret) hM hp.1 hrc hrs hfr hlo hws hcw (fun a' U hW => word_at hW (Or.inl (by first | rfl | simp [Cond.onTables, Cond.keeps, Cond.steady])) hini)
  obtain ⟨hx, hb, hml, ho, -⟩ := S
  intro T hT X
  obtain ⟨v, vm₁, ⟨U', l2, c2, s2⟩, hW₁, X', ⟨g', mk, t, L, e1, e2, hq, h1, hL, h2, h3⟩, st⟩ := vx_callSW X hx (hh := hh) (bytes := bytes) (maxL := maxL) (ret := ret) ho hl hstt hini hcode hy hK hg (hsize.trans hml.symm) (argsL := As) (rest := rest) (fun sig h => hn.trans (hlen sig h)) hstack hW (by rw [hb]; exact hdg)
    (fun vm₁ hW₁ => ⟨hf.1, hf.2, hp.2 (T.setVm vm₁) hT hW₁⟩)
  dsimp only [Pt.U, Pt.locs, Pt.cells, Pt.slots] at X' e1 e2 h1 h2 h3 st
  subst h1; subst h2; subst h3
  exact ⟨v, (T.setVm vm₁).calling g' mk As.toArray, t, U', L, hT, X', hL, e1, e2, hq, st⟩
/-- not caught here, past rows that name other classes: it goes on to the caller -/
theorem vx_outP {p : Program} {l : Launch} {e : Env} {R : Room} {s : State} {m : MethodId} {args : Array Value} {below : List Frame} {meth : Method} {c : Code} {H : Heap} {locs : List Loc} {cells slots : Nat} {free : Addr → Prop} {ls : Array Slot} {rest : List Value} {Qc : Array Value → State → Outcome → State → Prop} {XC : String → State → State → Prop}
    {pc : Nat} {own E : String} {ce : Cell} {q : Addr} {mc ms : Nat} (hown : s.vm.findClass own = some m.cls) (hlocks : meth.locks = false)
    (hpass : ∀ z ∈ c.exceptionTable.toList, covers z pc = false ∨ (z.catchType ≠ 0 ∧ ∃ nm : String, (Cond.classLink own z.catchType nm).before args s = true ∧ va_Nc E nm s)) (hcell : H[q]? = some ce) (hv : ce.vm = .none) (hcl : s.vm.findClass E = some ce.cls)
    (hx : ∀ t : State, t.heap = H → s.vm.Alike t.vm → XC E s t) (hf : ∀ z ∈ locs, free z.base) (hc : cells ≤ mc) (hs : slots ≤ ms) :
    vx_W p l e R s m args below meth c H locs cells slots (vx_MQ below Qc XC args s mc ms free) (F0 m pc ls rest) q := by
  intro T hT X
  have hpl : e.platform.magicAccessors = ({} : Platform).magicAccessors := by rw [X.admits.platform]
  obtain ⟨vm', hW', X', st⟩ := Jvm.Stand.outThrough X hlocks q (g := F0 m pc ls rest) rfl rfl rfl (cell := ce) (by rw [hT]; exact hcell) (by rw [hv]; rfl)
    (by obtain ⟨k9, h9, -⟩ := Vm.findClass_spec hcl; exact ⟨k9, h9⟩) (fun z hz => by
      rcases hpass z hz with h | ⟨hz0, nm, hl1, hn1⟩
      · exact Or.inl h
      · obtain ⟨c6, hc6, hcl6⟩ := Cond.classLink_spec hown hl1 e.platform hpl
        obtain ⟨a8, b8, h1, h2, h3⟩ := hn1
        cases Option.some.inj (h1.symm.trans hcl)
        cases Option.some.inj (h2.symm.trans hc6)
        exact Or.inr ⟨hz0, _, hcl6, h3⟩)
  obtain ⟨g₀, hfr⟩ := X'.frames_eq
  have hcell9 : ((T.setVm vm').setFrames (.throwing q :: below)).heap[q]? = some ce := by
    show T.heap[q]? = some ce
    rw [hT]; exact hcell
  have hend : Ended ((T.setVm vm').setFrames (.throwing q :: below)) below (.threw q) := State.frames_setFrames _ (State.cur_lt_of_frames hfr)
  refine ⟨(T.setVm vm').setFrames (.throwing q :: below), ?_, .threw q, X'.here.running, hend, Or.inr ⟨q, rfl, E, ce, locs, hx _ hT (X'.ends _).1.alike, hcell9, hv, hcl, (X'.ends _).1, (X'.ends _).2.mono hc hs, hf⟩⟩
  rw [X.pushThrowing_eq]
  exact st
/-- a thing of a world lies in the heap -/
theorem vx_lt {D : va_G} {cl : List vw_C} {ws : va_W} {H1 : Heap} (h : va_P D cl ws H1) {k : Nat} {q : Nat × va_E} (hk : ws[k]? = some q) : q.1 < H1.size := (h k q hk).lt
end VXS
/-! ===== END ===== -/
/-! ===== BEGIN methods with a table of their own: called by a name, returning or throwing ===== -/
section VXH
/-! vx_backW, vx_callVX, vx_callSX, vx_callVW, vx_runVW, vx_runVX, vx_runSX, vx_ofWH follow the same proofs as their sisters above (Free/Laws.lean, Shelf42/LK1.lean); vx_outP calls Shelf42/NT130.lean (outThrough). -/
section
variable {l : Launch} {R : Room} {p : Program} {e : Env} {below : List Frame} {s : State} {sargs : Array Value} {y : MethodName} {len W9 : Nat}
theorem vx_backW {ws : List Cond} {rm : Room} {Pc : Array Value → State → Prop} {Qc : Array Value → State → Outcome → State → Prop} {XC : String → State → State → Prop} {mc ms : Nat} {free : Addr → Prop} {bytes : ByteArray} {maxL : Nat} {ret : Option FieldType} {hh : List (Nat × Nat × Nat × Nat)}
    (hM : vx_Met l y ws rm Pc Qc XC mc ms free) (hblind : FrameBlind Pc) (hrc : rm.cells = mc) (hrs : rm.slots = ms)
    (hframes : rm.frames + 1 ≤ R.frames) (hlocals : W9 + (maxL + 11) + rm.locals ≤ R.locals)
    (hws : ∀ w ∈ ws, ∀ a' U, s.WarmedH U.vm → w.before a' U = true) (hcode : Cond.codeWith y bytes maxL ret hh ∈ ws) (hinit : ∀ a' U, s.WarmedH U.vm → (Cond.initialized y.cls).before a' U = true) :
    vx_Back l R p e below s sargs y len W9 (PreOf R mc ms Pc) (PostOf Qc mc ms free) (vx_Post XC mc ms free) := by
  intro m meth c A g ig mk a X hg hsize hdg hW hn hp
  have h1 : (headSpec ws rm).pre.before a A.U = true := atoms_intro fun w hw => hws w hw _ _ X.warmed
  have h2 : (Cond.codeWith y bytes maxL ret hh).before a A.U = true := hws _ hcode _ _ X.warmed
  have h3 : (Cond.initialized y.cls).before a A.U = true := hinit _ _ X.warmed
  have h4 : A.cells + (headSpec ws rm).room.cells ≤ R.cells := by rw [show (headSpec ws rm).room.cells = mc from hrc]; exact hp.1
  have h5 : A.slots + (headSpec ws rm).room.slots ≤ R.slots := by rw [show (headSpec ws rm).room.slots = ms from hrs]; exact hp.2.1
  have hPc : Pc a (A.U.calling g mk a) := hblind _ _ _ _ hp.2.2
  obtain ⟨U, Ls, c0, s0⟩ := A
  dsimp only [Pt.U, Pt.locs, Pt.cells, Pt.slots] at h1 h2 h3 h4 h5 X hn hPc ⊢
  obtain ⟨m9, methY, cY, hn9, hmY, hcY, -, hlY, -⟩ := Cond.codeWith_spec h2
  cases Option.some.inj (hn9.symm.trans hn)
  obtain ⟨kY, hkY, -⟩ := className_of_methodNamed hn
  have hinitY : kY.init = .initialized := Cond.initialized_spec (findClass_of_methodNamed hn) hkY h3
  have h : At U g.method c below := by rw [hg]; exact X.here
  have hlocals9 : W9 + (maxL + 11) + (headSpec ws rm).room.locals ≤ R.locals := hlocals
  have happ : (headSpec ws rm).appliesLoose y e.platform (U.calling g mk a) = true :=
    Spec.appliesLoose_calling (g := g) h hdg hn hkY hinitY
      (X.room_calling (g := g) (R' := (headSpec ws rm).room) hsize hmY hcY hframes (by rw [hlY]; omega) h4 h5) h1
  obtain ⟨mid, hmid⟩ := h.above
  have hfr : (U.setTop g).frames = (.java g :: mid) ++ below := by rw [State.frames_setTop' g h.top, hmid]; rfl
  obtain ⟨o, s₂, hsteps, -, hend, hq⟩ := Steps.callFree hM p X.admits X.cas X.clock (acts := []) hfr happ hPc trivial
  have hq' : vx_Q Qc XC mc ms free a (U.calling g mk a) o s₂ := hq
  rw [State.frames_setTop' g h.top] at hend
  obtain ⟨g₀, hg0⟩ := Option.isSome_iff_exists.mp h.top
  obtain ⟨r, hr⟩ := State.topJava?_eq_some.mp hg0
  have hr' : (({ U with heap := s₂.heap, slotsUsed := s₂.slotsUsed } : State).setVm s₂.vm).frames = .java g₀ :: r := hr
  rcases hq' with ⟨hqc, L, hfe, hL⟩ | ⟨q, rfl, E, ce, L, hx, hce, hcv, hcl, hW₂, hsm, hL⟩
  · obtain ⟨⟨v, rfl⟩, hW₂, e2, q2, q3, q4, q5, q6⟩ := id hfe
    have e3 : s₂ = ({ (U.calling g mk a).setFrames s₂.frames with heap := s₂.heap, slotsUsed := s₂.slotsUsed } : State).setVm s₂.vm := by
      have : s₂ = ({ s₂ with vm := (U.calling g mk a).vm } : State).setVm s₂.vm := rfl
      rw [e2] at this
      exact this
    obtain ⟨c₂, i₂, len₂, hc₂, hd₂, hf₂⟩ := hend
    have hW' : U.WarmedH s₂.vm := hW₂
    have hcc : c₂ = c := by
      have h1 : s₂.code? g.method = U.code? g.method := by
        rw [State.code?_eq, State.code?_eq, hW'.alike.method?]
      exact Option.some.inj (hc₂.symm.trans (h1.trans h.code))
    subst hcc
    have hlen : len₂ = len := by rw [hdg] at hd₂; cases hd₂; rfl
    subst hlen
    have hs₂ : s₂ = (({ U with heap := s₂.heap, slotsUsed := s₂.slotsUsed } : State).setVm s₂.vm).setTop { g with pc := g.pc + len₂, stack := v.toList ++ g.stack } := by
      refine e3.trans ?_
      rw [hf₂, State.calling_eq h.top, State.setFrames_setFrames, State.setTop_of_frames _ hr', hr]
      rfl
    have hsame : U.sameButNew ({ U with heap := s₂.heap, slotsUsed := s₂.slotsUsed } : State) L mc ms := by
      refine ⟨?_, q2, q3, q4, q5, q6⟩
      obtain ⟨t, ht, -⟩ := State.frames_cons hr
      show ({ U with heap := s₂.heap, slotsUsed := s₂.slotsUsed } : State) = { U.setFrames U.frames with heap := s₂.heap, slotsUsed := s₂.slotsUsed }
      rw [State.setFrames_self ht]
    subst hg
    refine Or.inl ⟨v, ⟨(({ U with heap := s₂.heap, slotsUsed := s₂.slotsUsed } : State).setVm s₂.vm), Ls ++ L, c0 + mc, s0 + ms⟩,
      ⟨X.admits, X.cas, X.clock, X.frames, X.room, X.hears, X.method, X.code, (X.here.setHeapUsed s₂.heap s₂.slotsUsed).setVm hW'.alike, X.tail, State.WarmedH.trans X.warmed hW', X.limits, X.bytes, X.same.trans (hsame.setVm s.vm)⟩,
      ⟨g, mk, s₂, L, rfl, rfl, hqc, rfl, hL, rfl, rfl⟩, ?_⟩
    show Steps p.tables e below _ ((({ U with heap := s₂.heap, slotsUsed := s₂.slotsUsed } : State).setVm s₂.vm).setTop { g with pc := g.pc + len₂, stack := v.toList ++ g.stack })
    rw [← hs₂]
    exact hsteps
  · obtain ⟨e2, q2, q3, q4, q5, q6⟩ := id hsm
    have e3 : s₂ = ({ (U.calling g mk a).setFrames s₂.frames with heap := s₂.heap, slotsUsed := s₂.slotsUsed } : State).setVm s₂.vm := by
      have : s₂ = ({ s₂ with vm := (U.calling g mk a).vm } : State).setVm s₂.vm := rfl
      rw [e2] at this
      exact this
    have hf₂ : s₂.frames = .throwing q :: .java g :: U.frames.tail := hend
    have hW' : U.WarmedH s₂.vm := hW₂
    have hs₂ : s₂ = ((({ U with heap := s₂.heap, slotsUsed := s₂.slotsUsed } : State).setVm s₂.vm).setTop g).pushFrame (.throwing q) := by
      refine e3.trans ?_
      rw [hf₂, State.calling_eq h.top, State.setFrames_setFrames, State.pushFrame, State.frames_setTop _ hr', State.setTop_of_frames _ hr', State.setFrames_setFrames, hr]
      rfl
    have hsame : U.sameButNew ({ U with heap := s₂.heap, slotsUsed := s₂.slotsUsed } : State) L mc ms := by
      refine ⟨?_, q2, q3, q4, q5, q6⟩
      obtain ⟨t, ht, -⟩ := State.frames_cons hr
      show ({ U with heap := s₂.heap, slotsUsed := s₂.slotsUsed } : State) = { U.setFrames U.frames with heap := s₂.heap, slotsUsed := s₂.slotsUsed }
      rw [State.setFrames_self ht]
    subst hg
    refine Or.inr ⟨q, ⟨(({ U with heap := s₂.heap, slotsUsed := s₂.slotsUsed } : State).setVm s₂.vm), Ls ++ L, c0 + mc, s0 + ms⟩,
      ⟨X.admits, X.cas, X.clock, X.frames, X.room, X.hears, X.method, X.code, (X.here.setHeapUsed s₂.heap s₂.slotsUsed).setVm hW'.alike, X.tail, State.WarmedH.trans X.warmed hW', X.limits, X.bytes, X.same.trans (hsame.setVm s.vm)⟩,
      ⟨g, mk, s₂, L, E, ce, rfl, rfl, hx, hce, hcv, hcl, rfl, hL, rfl, rfl⟩, ?_⟩
    show Steps p.tables e below _ (((({ U with heap := s₂.heap, slotsUsed := s₂.slotsUsed } : State).setVm s₂.vm).setTop g).pushFrame (.throwing q))
    rw [← hs₂]
    exact hsteps
end
variable {p : Program} {l : Launch} {e : Env} {R : Room} {s : State} {m : MethodId} {args : Array Value} {below : List Frame} {meth : Method} {c : Code} {T : State} {H : Heap} {locs : List Loc} {cells slots : Nat}
theorem vx_callVX (X : Stand p l e R s m args below meth c T locs cells slots) (hexec : p.tables.exec = Jvm.exec) {own C : String} {index : Nat} {y : MethodName} {bytes : ByteArray} {maxL : Nat} {ret : Option FieldType} {hh : List (Nat × Nat × Nat × Nat)}
    (hown : s.vm.findClass own = some m.cls) (hlink : (Cond.methodLink own index y).before args s = true) (hinst : (Cond.instanceMethod y).before args s = true) (hsel : (Cond.selects C y y).before args s = true)
    (hcode : (Cond.codeWith y bytes maxL ret hh).before args s = true) (hy : y.cls ≠ "java/lang/invoke/MethodHandle" ∧ y.cls ≠ "java/lang/invoke/VarHandle")
    {W9 : Nat} {Pre : Pt → Array Value → Prop} {Post : Pt → Array Value → Option Value → Pt → Prop} {PostX : Pt → Array Value → Addr → Pt → Prop} (hK : vx_Back l R p e below s args y 3 W9 Pre Post PostX)
    {b : Addr} {cellB : Cell} (hcell : T.heap[b]? = some cellB) (hobj : cellB.vm.isStatics = false) (hcls : s.vm.findClass C = some cellB.cls)
    {g : JFrame} (hg : g.method = m) (hsize : g.locals.size = c.maxLocals) {argsL rest : List Value} (hlen : ∀ sig, parseMethodDescriptor y.desc = some sig → argsL.length = sig.parameters.length)
    (hstack : g.stack = argsL.reverse ++ .ref b :: rest) (hW : 2 * g.monitorRoom + (rest.map fun v => v.category).sum ≤ W9) (hdg : decode c.code g.pc = .ok (.invokevirtual index, 3))
    (hpre : ∀ vm₁, s.WarmedH vm₁ → Pre ⟨T.setVm vm₁, locs, cells, slots⟩ (Value.ref b :: argsL).toArray) :
    (∃ (v : Option Value) (vm₁ : Vm) (B : Pt), s.WarmedH vm₁ ∧ Stand p l e R s m args below meth c B.U B.locs B.cells B.slots ∧ Post ⟨T.setVm vm₁, locs, cells, slots⟩ (Value.ref b :: argsL).toArray v B ∧
      ∀ target, Steps p.tables e below (B.U.setTop { g with pc := g.pc + 3, stack := v.toList ++ rest }) target → Steps p.tables e below (T.setTop g) target) ∨
    (∃ (q : Addr) (vm₁ : Vm) (B : Pt), s.WarmedH vm₁ ∧ Stand p l e R s m args below meth c B.U B.locs B.cells B.slots ∧ PostX ⟨T.setVm vm₁, locs, cells, slots⟩ (Value.ref b :: argsL).toArray q B ∧
      Steps p.tables e below (T.setTop g) ((B.U.setTop { g with stack := rest }).pushFrame (.throwing q))) := by
  obtain ⟨mk, methM, hnamed, hmethM, hstM, habM⟩ := Cond.instanceMethod_spec hinst
  obtain ⟨m8, methM', cM, hn8, hmethM', -, -, -, -, -, -, hsigM⟩ := Cond.codeWith_spec hcode
  cases Option.some.inj (hn8.symm.trans hnamed)
  cases hmethM.symm.trans hmethM'
  obtain ⟨c2, r2, m2, q1, q2, q3, q4, kP, hkP, hkPi⟩ := Cond.selects_spec hsel
  cases hcls.symm.trans q1
  cases (State.methodFound?_of_named hnamed hy).symm.trans q2
  cases hnamed.symm.trans q3
  have hselP : selectMethod e.platform s.vm cellB.cls mk = .method mk := by rw [Launch.admits_selectMethod X.admits]; exact q4
  obtain ⟨vm₁, X₁, hstep₁⟩ := X.invokevirtual hexec hown hlink hnamed hmethM hstM hkP hkPi hy (a := b) (cell := cellB) hcell
    (fun z h => by rw [h] at hobj; cases hobj) hselP hmethM habM hkP hkPi (g := g) hg (argsL := argsL) (rest := rest) (hlen _ hsigM) hstack hdg
  rcases hK m meth c ⟨T.setVm vm₁, locs, cells, slots⟩ { g with stack := rest } (.invokevirtual index) mk (Value.ref b :: argsL).toArray X₁ hg hsize hdg hW (X₁.named hnamed) (hpre vm₁ X₁.warmed) with ⟨v, B, X', hpost, hsteps⟩ | ⟨q, B, X', hpost, hsteps⟩
  · exact Or.inl ⟨v, vm₁, B, X₁.warmed, X', hpost, fun target h => hstep₁ _ fun acts => by rw [doInvoke_state]; exact hsteps.trans h⟩
  · exact Or.inr ⟨q, vm₁, B, X₁.warmed, X', hpost, hstep₁ _ fun acts => by rw [doInvoke_state]; exact hsteps⟩
theorem vx_callSX (X : Stand p l e R s m args below meth c T locs cells slots) (hexec : p.tables.exec = Jvm.exec) {own : String} {index : Nat} {y : MethodName} {bytes : ByteArray} {maxL : Nat} {ret : Option FieldType} {hh : List (Nat × Nat × Nat × Nat)}
    (hown : s.vm.findClass own = some m.cls) (hlink : (Cond.methodLink own index y).before args s = true) (hstat : (Cond.static y).before args s = true) (hinit : (Cond.initialized y.cls).before args s = true)
    (hcode : (Cond.codeWith y bytes maxL ret hh).before args s = true) (hy : y.cls ≠ "java/lang/invoke/MethodHandle" ∧ y.cls ≠ "java/lang/invoke/VarHandle")
    {W9 : Nat} {Pre : Pt → Array Value → Prop} {Post : Pt → Array Value → Option Value → Pt → Prop} {PostX : Pt → Array Value → Addr → Pt → Prop} (hK : vx_Back l R p e below s args y 3 W9 Pre Post PostX)
    {g : JFrame} (hg : g.method = m) (hsize : g.locals.size = c.maxLocals) {argsL rest : List Value} (hlen : ∀ sig, parseMethodDescriptor y.desc = some sig → argsL.length = sig.parameters.length)
    (hstack : g.stack = argsL.reverse ++ rest) (hW : 2 * g.monitorRoom + (rest.map fun v => v.category).sum ≤ W9) (hdg : decode c.code g.pc = .ok (.invokestatic index, 3))
    (hpre : ∀ vm₁, s.WarmedH vm₁ → Pre ⟨T.setVm vm₁, locs, cells, slots⟩ argsL.toArray) :
    (∃ (v : Option Value) (vm₁ : Vm) (B : Pt), s.WarmedH vm₁ ∧ Stand p l e R s m args below meth c B.U B.locs B.cells B.slots ∧ Post ⟨T.setVm vm₁, locs, cells, slots⟩ argsL.toArray v B ∧
      ∀ target, Steps p.tables e below (B.U.setTop { g with pc := g.pc + 3, stack := v.toList ++ rest }) target → Steps p.tables e below (T.setTop g) target) ∨
    (∃ (q : Addr) (vm₁ : Vm) (B : Pt), s.WarmedH vm₁ ∧ Stand p l e R s m args below meth c B.U B.locs B.cells B.slots ∧ PostX ⟨T.setVm vm₁, locs, cells, slots⟩ argsL.toArray q B ∧
      Steps p.tables e below (T.setTop g) ((B.U.setTop { g with stack := rest }).pushFrame (.throwing q))) := by
  obtain ⟨mk, methM, cM, hnamed, hmethM, -, -, -, -, -, -, hsigM⟩ := Cond.codeWith_spec hcode
  have hstatic : methM.isStatic = true := Cond.static_spec hnamed hmethM hstat
  obtain ⟨kP, hkP, -⟩ := className_of_methodNamed hnamed
  have hinitP : kP.init = .initialized := Cond.initialized_spec (findClass_of_methodNamed hnamed) hkP hinit
  obtain ⟨vm₁, X₁, hstep₁⟩ := X.invokestatic hexec hown hlink hnamed hmethM hstatic hkP hinitP hy (g := g) hg (argsL := argsL) (rest := rest) (hlen _ hsigM) hstack hdg
  rcases hK m meth c ⟨T.setVm vm₁, locs, cells, slots⟩ { g with stack := rest } (.invokestatic index) mk argsL.toArray X₁ hg hsize hdg hW (X₁.named hnamed) (hpre vm₁ X₁.warmed) with ⟨v, B, X', hpost, hsteps⟩ | ⟨q, B, X', hpost, hsteps⟩
  · exact Or.inl ⟨v, vm₁, B, X₁.warmed, X', hpost, fun target h => hstep₁ _ fun acts => by rw [doInvoke_state]; exact hsteps.trans h⟩
  · exact Or.inr ⟨q, vm₁, B, X₁.warmed, X', hpost, hstep₁ _ fun acts => by rw [doInvoke_state]; exact hsteps⟩
theorem vx_callVW (X : Stand p l e R s m args below meth c T locs cells slots) (hexec : p.tables.exec = Jvm.exec) {own C : String} {index : Nat} {y : MethodName} {bytes : ByteArray} {maxL : Nat} {ret : Option FieldType} {hh : List (Nat × Nat × Nat × Nat)}
    (hown : s.vm.findClass own = some m.cls) (hlink : (Cond.methodLink own index y).before args s = true) (hinst : (Cond.instanceMethod y).before args s = true) (hsel : (Cond.selects C y y).before args s = true)
    (hcode : (Cond.codeWith y bytes maxL ret hh).before args s = true) (hy : y.cls ≠ "java/lang/invoke/MethodHandle" ∧ y.cls ≠ "java/lang/invoke/VarHandle")
    {W9 : Nat} {Pre : Pt → Array Value → Prop} {Post : Pt → Array Value → Option Value → Pt → Prop} (hK : Back l R p e below s args y 3 W9 Pre Post)
    {b : Addr} {cellB : Cell} (hcell : T.heap[b]? = some cellB) (hobj : cellB.vm.isStatics = false) (hcls : s.vm.findClass C = some cellB.cls)
    {g : JFrame} (hg : g.method = m) (hsize : g.locals.size = c.maxLocals) {argsL rest : List Value} (hlen : ∀ sig, parseMethodDescriptor y.desc = some sig → argsL.length = sig.parameters.length)
    (hstack : g.stack = argsL.reverse ++ .ref b :: rest) (hW : 2 * g.monitorRoom + (rest.map fun v => v.category).sum ≤ W9) (hdg : decode c.code g.pc = .ok (.invokevirtual index, 3))
    (hpre : ∀ vm₁, s.WarmedH vm₁ → Pre ⟨T.setVm vm₁, locs, cells, slots⟩ (Value.ref b :: argsL).toArray) :
    ∃ (v : Option Value) (vm₁ : Vm) (B : Pt), s.WarmedH vm₁ ∧ Stand p l e R s m args below meth c B.U B.locs B.cells B.slots ∧ Post ⟨T.setVm vm₁, locs, cells, slots⟩ (Value.ref b :: argsL).toArray v B ∧
      ∀ target, Steps p.tables e below (B.U.setTop { g with pc := g.pc + 3, stack := v.toList ++ rest }) target → Steps p.tables e below (T.setTop g) target := by
  obtain ⟨mk, methM, hnamed, hmethM, hstM, habM⟩ := Cond.instanceMethod_spec hinst
  obtain ⟨m8, methM', cM, hn8, hmethM', -, -, -, -, -, -, hsigM⟩ := Cond.codeWith_spec hcode
  cases Option.some.inj (hn8.symm.trans hnamed)
  cases hmethM.symm.trans hmethM'
  obtain ⟨c2, r2, m2, q1, q2, q3, q4, kP, hkP, hkPi⟩ := Cond.selects_spec hsel
  cases hcls.symm.trans q1
  cases (State.methodFound?_of_named hnamed hy).symm.trans q2
  cases hnamed.symm.trans q3
  have hselP : selectMethod e.platform s.vm cellB.cls mk = .method mk := by rw [Launch.admits_selectMethod X.admits]; exact q4
  obtain ⟨vm₁, X₁, hstep₁⟩ := X.invokevirtual hexec hown hlink hnamed hmethM hstM hkP hkPi hy (a := b) (cell := cellB) hcell
    (fun z h => by rw [h] at hobj; cases hobj) hselP hmethM habM hkP hkPi (g := g) hg (argsL := argsL) (rest := rest) (hlen _ hsigM) hstack hdg
  obtain ⟨v, B, X', hpost, hsteps⟩ := hK m meth c ⟨T.setVm vm₁, locs, cells, slots⟩ { g with stack := rest } (.invokevirtual index) mk (Value.ref b :: argsL).toArray X₁ hg hsize hdg hW (X₁.named hnamed) (hpre vm₁ X₁.warmed)
  exact ⟨v, vm₁, B, X₁.warmed, X', hpost, fun target h => hstep₁ _ fun acts => by rw [doInvoke_state]; exact hsteps.trans h⟩
abbrev vx_CVW (R : Room) (s : State) (args : Array Value) (own C : String) (index : Nat) (y : MethodName) (bytes : ByteArray) (maxL : Nat) (ret : Option FieldType) (hh : List (Nat × Nat × Nat × Nat)) (ws : List Cond) (rm : Room) (mc ms n : Nat) : Prop :=
  (rm.cells = mc ∧ rm.slots = ms ∧ rm.frames + 1 ≤ R.frames ∧ 8 + (maxL + 11) + rm.locals ≤ R.locals ∧ (∀ w ∈ ws, ∀ (a' : Array Value) (U : State), s.WarmedH U.vm → w.before a' U = true) ∧ Cond.codeWith y bytes maxL ret hh ∈ ws) ∧
  (Cond.codeWith y bytes maxL ret hh).before args s = true ∧ (Cond.initialized y.cls).before args s = true ∧ (y.cls ≠ "java/lang/invoke/MethodHandle" ∧ y.cls ≠ "java/lang/invoke/VarHandle") ∧
  (∀ sig, parseMethodDescriptor y.desc = some sig → n = sig.parameters.length) ∧ (Cond.methodLink own index y).before args s = true ∧ (Cond.instanceMethod y).before args s = true ∧ (Cond.selects C y y).before args s = true
theorem vx_cwVW {own C : String} {index maxL mc ms : Nat} {y : MethodName} {bytes : ByteArray} {ret : Option FieldType} {hh : List (Nat × Nat × Nat × Nat)} {Ts ws ws' : List Cond} {rm : Room} (n : Nat) (ht : ∀ w ∈ Ts, w.before args s = true) (hT : GoodIn Ts (wsV own index C y ws)) (hw : ws = Cond.codeWith y bytes maxL ret hh :: ws') (hrc : rm.cells = mc) (hrs : rm.slots = ms)
    (hd : y.cls = C ∧ y.cls ≠ "java/lang/invoke/MethodHandle" ∧ y.cls ≠ "java/lang/invoke/VarHandle" ∧ (parseMethodDescriptor y.desc).map (fun d => d.parameters.length) = some n) (hR : rm.frames + 1 ≤ R.frames ∧ 8 + (maxL + 11) + rm.locals ≤ R.locals) :
    vx_CVW R s args own C index y bytes maxL ret hh ws rm mc ms n := by
  obtain ⟨hC, hd⟩ := hd
  subst hC
  have ok : ∀ w ∈ wsV own index y.cls y ws, w.before args s = true := fun w h => ht w (hT w h).1
  have hG : GoodIn Ts ws := fun w h => hT w (by unfold wsV; exact List.mem_append_right _ h)
  have hc : Cond.codeWith y bytes maxL ret hh ∈ ws := by rw [hw]; exact List.mem_cons_self
  refine ⟨⟨hrc, hrs, hR.1, hR.2, pay_in ht hG, hc⟩, ht _ (hG _ hc).1, ok _ (by simp [wsV]), ⟨hd.1, hd.2.1⟩, fun sig h => ?_, ok _ (by simp [wsV]), ok _ (by simp [wsV]), ok _ (by simp [wsV])⟩
  have h2 := hd.2.2
  rw [h] at h2
  exact (Option.some.inj h2).symm
theorem vx_runVW {y : MethodName} {bytes cc : ByteArray} {maxL nL mc ms n index : Nat} {ret : Option FieldType} {hh : List (Nat × Nat × Nat × Nat)} {ws : List Cond} {rm : Room} {Pc : Array Value → State → Prop} {Qc : Array Value → State → Outcome → State → Prop} {free : Addr → Prop} {Ts : List Cond} {own C : String} {b : Addr} {As rest : List Value} {g : JFrame}
    (S : CallFix p m c cc nL s args Ts own) (hM : Met l y ws rm Pc Qc mc ms free) (cw : vx_CVW R s args own C index y bytes maxL ret hh ws rm mc ms n) (hp : PreV s H C b Pc As)
    (hg : g.method = m) (hn : As.length = n) (hsize : g.locals.size = nL) (hstack : g.stack = As.reverse ++ .ref b :: rest) (hW : 2 * g.monitorRoom + (rest.map fun v => v.category).sum ≤ 8) (hdg : decode cc g.pc = .ok (.invokevirtual index, 3)) (hf : cells + mc ≤ R.cells ∧ slots + ms ≤ R.slots) :
    va_Run p l e R s m args below meth c H locs cells slots mc ms g rest (Qc (Value.ref b :: As).toArray) free := by
  obtain ⟨⟨hrc, hrs, hfr, hlo, hws, hcw⟩, hcode, hini, hy, hlen, hl, hin, hse⟩ := cw
  have hK : Back l R p e below s args y 3 8 (PreOf R mc ms Pc) (PostOf Qc mc ms free) := va_backW (hh := hh) (bytes := bytes) (maxL := maxL) (ret := ret) hM hp.1 hrc hrs hfr hlo hws hcw (fun a' U hW => word_at hW (Or.inl (by first | rfl | simp [Cond.onTables, Cond.keeps, Cond.steady])) hini)
  obtain ⟨hx, hb, hml, ho, -⟩ := S
  obtain ⟨-, ⟨cellB, hcB, hoB, hclB⟩, hPc⟩ := hp
  intro T hT X
  obtain ⟨v, vm₁, ⟨U', l2, c2, s2⟩, hW₁, X', ⟨g', mk, t, L, e1, e2, hq, h1, hL, h2, h3⟩, st⟩ := vx_callVW X hx (C := C) (hh := hh) (bytes := bytes) (maxL := maxL) (ret := ret) ho hl hin hse hcode hy hK (by rw [hT]; exact hcB) hoB hclB hg (hsize.trans hml.symm) (argsL := As) (rest := rest) (fun sig h => hn.trans (hlen sig h)) hstack hW (by rw [hb]; exact hdg)
    (fun vm₁ hW₁ => ⟨hf.1, hf.2, hPc (T.setVm vm₁) hT hW₁⟩)
  dsimp only [Pt.U, Pt.locs, Pt.cells, Pt.slots] at X' e1 e2 h1 h2 h3 st
  subst h1; subst h2; subst h3
  exact ⟨v, (T.setVm vm₁).calling g' mk (Value.ref b :: As).toArray, t, U', L, hT, X', hL, e1, e2, hq, st⟩
section
variable {y : MethodName} {bytes cc : ByteArray} {maxL nL mc ms n index : Nat} {ret : Option FieldType} {ws : List Cond} {rm : Room} {Pc : Array Value → State → Prop} {Qc : Array Value → State → Outcome → State → Prop} {XC : String → State → State → Prop} {free : Addr → Prop} {Ts : List Cond} {own C : String} {b : Addr} {As rest : List Value} {g : JFrame}
theorem vx_runVX {hh : List (Nat × Nat × Nat × Nat)} (S : CallFix p m c cc nL s args Ts own) (hM : vx_Met l y ws rm Pc Qc XC mc ms free) (cw : vx_CVW R s args own C index y bytes maxL ret hh ws rm mc ms n) (hp : PreV s H C b Pc As)
    (hg : g.method = m) (hn : As.length = n) (hsize : g.locals.size = nL) (hstack : g.stack = As.reverse ++ .ref b :: rest) (hW : 2 * g.monitorRoom + (rest.map fun v => v.category).sum ≤ 8) (hdg : decode cc g.pc = .ok (.invokevirtual index, 3)) (hf : cells + mc ≤ R.cells ∧ slots + ms ≤ R.slots) :
    vx_Run p l e R s m args below meth c H locs cells slots mc ms g rest (Qc (Value.ref b :: As).toArray) XC free := by
  obtain ⟨⟨hrc, hrs, hfr, hlo, hws, hcw⟩, hcode, hini, hy, hlen, hl, hin, hse⟩ := cw
  have hK : vx_Back l R p e below s args y 3 8 (PreOf R mc ms Pc) (PostOf Qc mc ms free) (vx_Post XC mc ms free) := vx_backW (hh := hh) (bytes := bytes) (maxL := maxL) (ret := ret) hM hp.1 hrc hrs hfr hlo hws hcw (fun a' U hW => word_at hW (Or.inl (by first | rfl | simp [Cond.onTables, Cond.keeps, Cond.steady])) hini)
  obtain ⟨hx, hb, hml, ho, -⟩ := S
  obtain ⟨-, ⟨cellB, hcB, hoB, hclB⟩, hPc⟩ := hp
  intro T hT X
  rcases vx_callVX X hx (C := C) (hh := hh) (bytes := bytes) (maxL := maxL) (ret := ret) ho hl hin hse hcode hy hK (by rw [hT]; exact hcB) hoB hclB hg (hsize.trans hml.symm) (argsL := As) (rest := rest) (fun sig h => hn.trans (hlen sig h)) hstack hW (by rw [hb]; exact hdg)
    (fun vm₁ hW₁ => ⟨hf.1, hf.2, hPc (T.setVm vm₁) hT hW₁⟩) with ⟨v, vm₁, ⟨U', l2, c2, s2⟩, hW₁, X', ⟨g', mk, t, L, e1, e2, hq, h1, hL, h2, h3⟩, st⟩ | ⟨q, vm₁, ⟨U', l2, c2, s2⟩, hW₁, X', ⟨g', mk, t, L, E, ce, e1, e2, hq, hce, hcv, hcl, h1, hL, h2, h3⟩, st⟩
  · dsimp only [Pt.U, Pt.locs, Pt.cells, Pt.slots] at X' e1 e2 h1 h2 h3 st
    subst h1; subst h2; subst h3
    exact Or.inl ⟨v, (T.setVm vm₁).calling g' mk (Value.ref b :: As).toArray, t, U', L, hT, X', hL, e1, e2, hq, st⟩
  · dsimp only [Pt.U, Pt.locs, Pt.cells, Pt.slots] at X' e1 e2 h1 h2 h3 st hcl
    subst h1; subst h2; subst h3
    exact Or.inr ⟨q, (T.setVm vm₁).calling g' mk (Value.ref b :: As).toArray, t, U', L, E, ce, hT, X', hL, e1, e2, hq, hce, hcv, vx_cls hW₁ hcl, st⟩
theorem vx_runSX {hh : List (Nat × Nat × Nat × Nat)} (S : CallFix p m c cc nL s args Ts own) (hM : vx_Met l y ws rm Pc Qc XC mc ms free) (cw : vx_CSW R s args own index y bytes maxL ret hh ws rm mc ms n) (hp : PreS s H Pc As)
    (hg : g.method = m) (hn : As.length = n) (hsize : g.locals.size = nL) (hstack : g.stack = As.reverse ++ rest) (hW : 2 * g.monitorRoom + (rest.map fun v => v.category).sum ≤ 8) (hdg : decode cc g.pc = .ok (.invokestatic index, 3)) (hf : cells + mc ≤ R.cells ∧ slots + ms ≤ R.slots) :
    vx_Run p l e R s m args below meth c H locs cells slots mc ms g rest (Qc As.toArray) XC free := by
  obtain ⟨⟨hrc, hrs, hfr, hlo, hws, hcw⟩, hcode, hini, hy, hlen, hl, hstt⟩ := cw
  have hK : vx_Back l R p e below s args y 3 8 (PreOf R mc ms Pc) (PostOf Qc mc ms free) (vx_Post XC mc ms free) := vx_backW (hh := hh) (bytes := bytes) (maxL := maxL) (ret := ret) hM hp.1 hrc hrs hfr hlo hws hcw (fun a' U hW => word_at hW (Or.inl (by first | rfl | simp [Cond.onTables, Cond.keeps, Cond.steady])) hini)
  obtain ⟨hx, hb, hml, ho, -⟩ := S
  intro T hT X
  rcases vx_callSX X hx (hh := hh) (bytes := bytes) (maxL := maxL) (ret := ret) ho hl hstt hini hcode hy hK hg (hsize.trans hml.symm) (argsL := As) (rest := rest) (fun sig h => hn.trans (hlen sig h)) hstack hW (by rw [hb]; exact hdg)
    (fun vm₁ hW₁ => ⟨hf.1, hf.2, hp.2 (T.setVm vm₁) hT hW₁⟩) with ⟨v, vm₁, ⟨U', l2, c2, s2⟩, hW₁, X', ⟨g', mk, t, L, e1, e2, hq, h1, hL, h2, h3⟩, st⟩ | ⟨q, vm₁, ⟨U', l2, c2, s2⟩, hW₁, X', ⟨g', mk, t, L, E, ce, e1, e2, hq, hce, hcv, hcl, h1, hL, h2, h3⟩, st⟩
  · dsimp only [Pt.U, Pt.locs, Pt.cells, Pt.slots] at X' e1 e2 h1 h2 h3 st
    subst h1; subst h2; subst h3
    exact Or.inl ⟨v, (T.setVm vm₁).calling g' mk As.toArray, t, U', L, hT, X', hL, e1, e2, hq, st⟩
  · dsimp only [Pt.U, Pt.locs, Pt.cells, Pt.slots] at X' e1 e2 h1 h2 h3 st hcl
    subst h1; subst h2; subst h3
    exact Or.inr ⟨q, (T.setVm vm₁).calling g' mk As.toArray, t, U', L, E, ce, hT, X', hL, e1, e2, hq, hce, hcv, vx_cls hW₁ hcl, st⟩
end
end VXH
theorem vx_ofWH {l : Launch} {y : MethodName} {ws ws' : List Cond} {rm : Room} {Pc : Array Value → State → Prop} {Qc : Array Value → State → Outcome → State → Prop} {XC : String → State → State → Prop} {mc ms : Nat} {free : Addr → Prop} {cc : ByteArray} {maxL : Nat} {ret : Option FieldType} {hh : List (Nat × Nat × Nat × Nat)}
    (hy : plainName y.cls = true) (hw : ws = Cond.codeWith y cc maxL ret hh :: ws')
    (body : ∀ p e s m args below meth c s₁, BodyLoose p l y (headSpec ws rm) cc maxL ret e s m args below meth c s₁ → c.maxLocals = maxL → Pc args s →
      W p l e (headSpec ws rm).room s m args below meth c s.heap [] 0 0 (vx_MQ below Qc XC args s mc ms free) (entryFrame m args maxL)) : vx_Met l y ws rm Pc Qc XC mc ms free := by
  refine MetFree.of_bodyS (code := cc) (maxLocals := maxL) (ret := ret) hy ?_ ?_
  · intro args s m h hn
    obtain ⟨m9, meth, c, hn9, h1, h2, h3, h4, -, h5, h6, -⟩ := Cond.codeWith_spec (atoms_spec (ws := ws) h _ (by rw [hw]; exact List.mem_cons_self))
    cases hn.symm.trans hn9
    exact ⟨meth, c, h1, h2, h3, h4, h5, h6⟩
  · intro p e s m args below meth c s₁ B hml hP _
    have hh0 : s₁.heap = s.heap := by rw [B.state]; rfl
    obtain ⟨t, a1, o, b1, b2, b3⟩ := body p e s m args below meth c s₁ B hml hP s₁ hh0 (Stand.of_body B)
    exact ⟨t, o, a1, b1, b2, b3⟩
/-! ===== END ===== -/
end
section
/-! ===== BEGIN printed: names, fields, word lists, decode rows ===== -/
def RX0 : String := "SegmentMerges$Memory"
def TX0 : u_T := fun k => match k with
  | 0 => ("SegmentMerges$Memory", "keys", "[I", true)
  | 1 => ("SegmentMerges$Memory", "values", "[I", true)
  | _ => ("SegmentMerges$Memory", "size", "I", false)
def tyX0 : Nat → FieldType := fun k => match k with
  | 0 => .array .int
  | 1 => .array .int
  | _ => .int
abbrev wsX00 : List Cond := u_ws RX0 TX0 3
theorem nmX0 : ∀ a, a < 3 → ∀ b, b < 3 → a ≠ b → (TX0 a).2.1 ≠ (TX0 b).2.1 := by decide +kernel
theorem tyX0_ok : ∀ k, k < 3 → parseFieldDescriptor (TX0 k).2.2.1 = some (tyX0 k) := by decide +kernel
abbrev cX0_init : ByteArray := prog_2_method_1_code
def yX0_init : MethodName := ⟨RX0, "<init>", "()V"⟩
abbrev cX0_find : ByteArray := prog_2_method_2_code
def yX0_find : MethodName := ⟨RX0, "find", "(I)I"⟩
abbrev cX0_append : ByteArray := prog_2_method_3_code
def yX0_append : MethodName := ⟨RX0, "append", "(II)V"⟩
abbrev cX0_removeAt : ByteArray := prog_2_method_4_code
def yX0_removeAt : MethodName := ⟨RX0, "removeAt", "(I)V"⟩
abbrev cX0_asSegment : ByteArray := prog_2_method_5_code
def yX0_asSegment : MethodName := ⟨RX0, "asSegment", "(I)LSegmentMerges$Segment;"⟩
abbrev cX0_rankOf : ByteArray := prog_2_method_6_code
def yX0_rankOf : MethodName := ⟨RX0, "rankOf", "(I)I"⟩
def RX1 : String := "SegmentMerges$Merge"
def TX1 : u_T := fun k => match k with
  | 0 => ("SegmentMerges$Merge", "place", "I", true)
  | 1 => ("SegmentMerges$Merge", "sources", "[LSegmentMerges$Segment;", true)
  | 2 => ("SegmentMerges$Merge", "takenOf", "[I", true)
  | 3 => ("SegmentMerges$Merge", "taken", "I", false)
  | 4 => ("SegmentMerges$Merge", "written", "I", false)
  | _ => ("SegmentMerges$Merge", "left", "I", false)
def tyX1 : Nat → FieldType := fun k => match k with
  | 0 => .int
  | 1 => .array (.object "SegmentMerges$Segment")
  | 2 => .array .int
  | 3 => .int
  | 4 => .int
  | _ => .int
abbrev wsX10 : List Cond := u_ws RX1 TX1 6
theorem nmX1 : ∀ a, a < 6 → ∀ b, b < 6 → a ≠ b → (TX1 a).2.1 ≠ (TX1 b).2.1 := by decide +kernel
theorem tyX1_ok : ∀ k, k < 6 → parseFieldDescriptor (TX1 k).2.2.1 = some (tyX1 k) := by decide +kernel
abbrev cX1_init : ByteArray := prog_3_method_1_code
def yX1_init : MethodName := ⟨RX1, "<init>", "([LSegmentMerges$Segment;II)V"⟩
abbrev cX1_isOf : ByteArray := prog_3_method_2_code
def yX1_isOf : MethodName := ⟨RX1, "isOf", "(I)Z"⟩
abbrev cX1_sourceOf : ByteArray := prog_3_method_3_code
def yX1_sourceOf : MethodName := ⟨RX1, "sourceOf", "(I)LSegmentMerges$Segment;"⟩
abbrev cX1_takeOne : ByteArray := prog_3_method_4_code
def yX1_takeOne : MethodName := ⟨RX1, "takeOne", "()V"⟩
abbrev cX1_sourceOfLeastKey : ByteArray := prog_3_method_5_code
def yX1_sourceOfLeastKey : MethodName := ⟨RX1, "sourceOfLeastKey", "()I"⟩
abbrev cX1_asSegment : ByteArray := prog_3_method_6_code
def yX1_asSegment : MethodName := ⟨RX1, "asSegment", "(I)LSegmentMerges$Segment;"⟩
abbrev cX1_greatestTier : ByteArray := prog_3_method_7_code
def yX1_greatestTier : MethodName := ⟨RX1, "greatestTier", "()I"⟩
def RX2 : String := "SegmentMerges$Segment"
def TX2 : u_T := fun k => match k with
  | 0 => ("SegmentMerges$Segment", "number", "I", true)
  | 1 => ("SegmentMerges$Segment", "tier", "I", true)
  | 2 => ("SegmentMerges$Segment", "size", "I", true)
  | 3 => ("SegmentMerges$Segment", "keys", "[I", true)
  | 4 => ("SegmentMerges$Segment", "values", "[I", true)
  | 5 => ("SegmentMerges$Segment", "lives", "[Z", true)
  | 6 => ("SegmentMerges$Segment", "wentTo", "[I", true)
  | _ => ("SegmentMerges$Segment", "living", "I", false)
def tyX2 : Nat → FieldType := fun k => match k with
  | 0 => .int
  | 1 => .int
  | 2 => .int
  | 3 => .array .int
  | 4 => .array .int
  | 5 => .array .boolean
  | 6 => .array .int
  | _ => .int
abbrev wsX20 : List Cond := u_ws RX2 TX2 8
theorem nmX2 : ∀ a, a < 8 → ∀ b, b < 8 → a ≠ b → (TX2 a).2.1 ≠ (TX2 b).2.1 := by decide +kernel
theorem tyX2_ok : ∀ k, k < 8 → parseFieldDescriptor (TX2 k).2.2.1 = some (tyX2 k) := by decide +kernel
abbrev cX2_init : ByteArray := prog_4_method_1_code
def yX2_init : MethodName := ⟨RX2, "<init>", "(III)V"⟩
abbrev cX2_write : ByteArray := prog_4_method_2_code
def yX2_write : MethodName := ⟨RX2, "write", "(IIIZ)V"⟩
abbrev cX2_hasRow : ByteArray := prog_4_method_3_code
def yX2_hasRow : MethodName := ⟨RX2, "hasRow", "(I)Z"⟩
abbrev cX2_kill : ByteArray := prog_4_method_4_code
def yX2_kill : MethodName := ⟨RX2, "kill", "(I)V"⟩
abbrev cX2_isDeaderThan : ByteArray := prog_4_method_5_code
def yX2_isDeaderThan : MethodName := ⟨RX2, "isDeaderThan", "(LSegmentMerges$Segment;)Z"⟩
def RX3 : String := "SegmentMerges"
def TX3 : u_T := fun k => match k with
  | 0 => ("SegmentMerges", "valueOf", "[I", true)
  | 1 => ("SegmentMerges", "memory", "LSegmentMerges$Memory;", true)
  | 2 => ("SegmentMerges", "segments", "[LSegmentMerges$Segment;", true)
  | 3 => ("SegmentMerges", "segmentCount", "I", false)
  | 4 => ("SegmentMerges", "nextNumber", "I", false)
  | 5 => ("SegmentMerges", "writtenRows", "I", false)
  | 6 => ("SegmentMerges", "fullSize", "I", false)
  | 7 => ("SegmentMerges", "current", "LSegmentMerges$Merge;", false)
  | 8 => ("SegmentMerges", "ended", "LSegmentMerges$Merge;", false)
  | 9 => ("SegmentMerges", "viewed", "[[I", true)
  | _ => ("SegmentMerges", "viewOpen", "[Z", true)
def tyX3 : Nat → FieldType := fun k => match k with
  | 0 => .array .int
  | 1 => .object "SegmentMerges$Memory"
  | 2 => .array (.object "SegmentMerges$Segment")
  | 3 => .int
  | 4 => .int
  | 5 => .int
  | 6 => .int
  | 7 => .object "SegmentMerges$Merge"
  | 8 => .object "SegmentMerges$Merge"
  | 9 => .array (.array .int)
  | _ => .array .boolean
abbrev wsX30 : List Cond := u_ws RX3 TX3 11
theorem nmX3 : ∀ a, a < 11 → ∀ b, b < 11 → a ≠ b → (TX3 a).2.1 ≠ (TX3 b).2.1 := by decide +kernel
theorem tyX3_ok : ∀ k, k < 11 → parseFieldDescriptor (TX3 k).2.2.1 = some (tyX3 k) := by decide +kernel
abbrev cX3_init : ByteArray := prog_1_method_1_code
def yX3_init : MethodName := ⟨RX3, "<init>", "()V"⟩
abbrev cX3_put : ByteArray := prog_1_method_2_code
def yX3_put : MethodName := ⟨RX3, "put", "(II)I"⟩
abbrev cX3_drop : ByteArray := prog_1_method_3_code
def yX3_drop : MethodName := ⟨RX3, "drop", "(I)I"⟩
abbrev cX3_get : ByteArray := prog_1_method_4_code
def yX3_get : MethodName := ⟨RX3, "get", "(I)I"⟩
abbrev cX3_next : ByteArray := prog_1_method_5_code
def yX3_next : MethodName := ⟨RX3, "next", "(I)I"⟩
abbrev cX3_flush : ByteArray := prog_1_method_6_code
def yX3_flush : MethodName := ⟨RX3, "flush", "()I"⟩
abbrev cX3_count : ByteArray := prog_1_method_7_code
def yX3_count : MethodName := ⟨RX3, "count", "(I)I"⟩
abbrev cX3_segment : ByteArray := prog_1_method_8_code
def yX3_segment : MethodName := ⟨RX3, "segment", "(II)I"⟩
abbrev cX3_row : ByteArray := prog_1_method_9_code
def yX3_row : MethodName := ⟨RX3, "row", "(III)I"⟩
abbrev cX3_full : ByteArray := prog_1_method_10_code
def yX3_full : MethodName := ⟨RX3, "full", "(I)I"⟩
abbrev cX3_due : ByteArray := prog_1_method_11_code
def yX3_due : MethodName := ⟨RX3, "due", "()I"⟩
abbrev cX3_cheapest : ByteArray := prog_1_method_12_code
def yX3_cheapest : MethodName := ⟨RX3, "cheapest", "(I)I"⟩
abbrev cX3_worst : ByteArray := prog_1_method_13_code
def yX3_worst : MethodName := ⟨RX3, "worst", "()I"⟩
abbrev cX3_begin : ByteArray := prog_1_method_14_code
def yX3_begin : MethodName := ⟨RX3, "begin", "(II)I"⟩
abbrev cX3_step : ByteArray := prog_1_method_15_code
def yX3_step : MethodName := ⟨RX3, "step", "(I)I"⟩
abbrev cX3_stop : ByteArray := prog_1_method_16_code
def yX3_stop : MethodName := ⟨RX3, "stop", "()I"⟩
abbrev cX3_merging : ByteArray := prog_1_method_17_code
def yX3_merging : MethodName := ⟨RX3, "merging", "(I)I"⟩
abbrev cX3_moved : ByteArray := prog_1_method_18_code
def yX3_moved : MethodName := ⟨RX3, "moved", "(II)I"⟩
abbrev cX3_view : ByteArray := prog_1_method_19_code
def yX3_view : MethodName := ⟨RX3, "view", "()I"⟩
abbrev cX3_seen : ByteArray := prog_1_method_20_code
def yX3_seen : MethodName := ⟨RX3, "seen", "(II)I"⟩
abbrev cX3_shut : ByteArray := prog_1_method_21_code
def yX3_shut : MethodName := ⟨RX3, "shut", "(I)I"⟩
abbrev cX3_share : ByteArray := prog_1_method_22_code
def yX3_share : MethodName := ⟨RX3, "share", "()I"⟩
abbrev cX3_isKey : ByteArray := prog_1_method_23_code
def yX3_isKey : MethodName := ⟨RX3, "isKey", "(I)Z"⟩
abbrev cX3_canBeMerged : ByteArray := prog_1_method_24_code
def yX3_canBeMerged : MethodName := ⟨RX3, "canBeMerged", "(I)Z"⟩
abbrev cX3_isPlace : ByteArray := prog_1_method_25_code
def yX3_isPlace : MethodName := ⟨RX3, "isPlace", "(I)Z"⟩
abbrev cX3_isOpenView : ByteArray := prog_1_method_26_code
def yX3_isOpenView : MethodName := ⟨RX3, "isOpenView", "(I)Z"⟩
abbrev cX3_killRowOf : ByteArray := prog_1_method_27_code
def yX3_killRowOf : MethodName := ⟨RX3, "killRowOf", "(I)V"⟩
abbrev cX3_rowsInSegments : ByteArray := prog_1_method_28_code
def yX3_rowsInSegments : MethodName := ⟨RX3, "rowsInSegments", "()I"⟩
abbrev cX3_livingFrom : ByteArray := prog_1_method_29_code
def yX3_livingFrom : MethodName := ⟨RX3, "livingFrom", "(II)I"⟩
abbrev cX3_isOfOneTier : ByteArray := prog_1_method_30_code
def yX3_isOfOneTier : MethodName := ⟨RX3, "isOfOneTier", "(II)Z"⟩
abbrev cX3_endMerge : ByteArray := prog_1_method_31_code
def yX3_endMerge : MethodName := ⟨RX3, "endMerge", "(LSegmentMerges$Merge;)V"⟩
abbrev cX3_closeGap : ByteArray := prog_1_method_32_code
def yX3_closeGap : MethodName := ⟨RX3, "closeGap", "(II)V"⟩
def RX4 : String := "SegmentMergesModel"
def TX4 : u_T := fun k => match k with
  | 0 => ("SegmentMergesModel", "thrown", "I", false)
  | 1 => ("SegmentMergesModel", "value", "[I", true)
  | 2 => ("SegmentMergesModel", "turn", "[I", true)
  | 3 => ("SegmentMergesModel", "inSlot", "[I", true)
  | 4 => ("SegmentMergesModel", "inRow", "[I", true)
  | 5 => ("SegmentMergesModel", "remembered", "I", false)
  | 6 => ("SegmentMergesModel", "memory", "[I", true)
  | 7 => ("SegmentMergesModel", "segments", "I", false)
  | 8 => ("SegmentMergesModel", "order", "[I", true)
  | 9 => ("SegmentMergesModel", "isUsed", "[Z", true)
  | 10 => ("SegmentMergesModel", "number", "[I", true)
  | 11 => ("SegmentMergesModel", "tier", "[I", true)
  | 12 => ("SegmentMergesModel", "rows", "[I", true)
  | 13 => ("SegmentMergesModel", "rowKey", "[I", true)
  | 14 => ("SegmentMergesModel", "rowValue", "[I", true)
  | 15 => ("SegmentMergesModel", "lives", "[Z", true)
  | 16 => ("SegmentMergesModel", "numbers", "I", false)
  | 17 => ("SegmentMergesModel", "written", "I", false)
  | 18 => ("SegmentMergesModel", "full", "I", false)
  | 19 => ("SegmentMergesModel", "merged", "I", false)
  | 20 => ("SegmentMergesModel", "mergePlace", "I", false)
  | 21 => ("SegmentMergesModel", "taken", "I", false)
  | 22 => ("SegmentMergesModel", "wrote", "I", false)
  | 23 => ("SegmentMergesModel", "at", "[I", true)
  | 24 => ("SegmentMergesModel", "newKey", "[I", true)
  | 25 => ("SegmentMergesModel", "newValue", "[I", true)
  | 26 => ("SegmentMergesModel", "newTurn", "[I", true)
  | 27 => ("SegmentMergesModel", "goes", "[I", true)
  | 28 => ("SegmentMergesModel", "movedMany", "I", false)
  | 29 => ("SegmentMergesModel", "movedNumber", "[I", true)
  | 30 => ("SegmentMergesModel", "movedRows", "[I", true)
  | 31 => ("SegmentMergesModel", "movedTo", "[I", true)
  | 32 => ("SegmentMergesModel", "isView", "[Z", true)
  | _ => ("SegmentMergesModel", "viewed", "[I", true)
def tyX4 : Nat → FieldType := fun k => match k with
  | 0 => .int
  | 1 => .array .int
  | 2 => .array .int
  | 3 => .array .int
  | 4 => .array .int
  | 5 => .int
  | 6 => .array .int
  | 7 => .int
  | 8 => .array .int
  | 9 => .array .boolean
  | 10 => .array .int
  | 11 => .array .int
  | 12 => .array .int
  | 13 => .array .int
  | 14 => .array .int
  | 15 => .array .boolean
  | 16 => .int
  | 17 => .int
  | 18 => .int
  | 19 => .int
  | 20 => .int
  | 21 => .int
  | 22 => .int
  | 23 => .array .int
  | 24 => .array .int
  | 25 => .array .int
  | 26 => .array .int
  | 27 => .array .int
  | 28 => .int
  | 29 => .array .int
  | 30 => .array .int
  | 31 => .array .int
  | 32 => .array .boolean
  | _ => .array .int
abbrev wsX40 : List Cond := u_ws RX4 TX4 34
theorem nmX4 : ∀ a, a < 34 → ∀ b, b < 34 → a ≠ b → (TX4 a).2.1 ≠ (TX4 b).2.1 := by decide +kernel
theorem tyX4_ok : ∀ k, k < 34 → parseFieldDescriptor (TX4 k).2.2.1 = some (tyX4 k) := by decide +kernel
abbrev cX4_init : ByteArray := prog_6_method_1_code
def yX4_init : MethodName := ⟨RX4, "<init>", "()V"⟩
abbrev cX4_thrown : ByteArray := prog_6_method_2_code
def yX4_thrown : MethodName := ⟨RX4, "thrown", "()I"⟩
abbrev cX4_in : ByteArray := prog_6_method_3_code
def yX4_in : MethodName := ⟨RX4, "in", "(III)Z"⟩
abbrev cX4_memoryAt : ByteArray := prog_6_method_4_code
def yX4_memoryAt : MethodName := ⟨RX4, "memoryAt", "(I)I"⟩
abbrev cX4_die : ByteArray := prog_6_method_5_code
def yX4_die : MethodName := ⟨RX4, "die", "(I)V"⟩
abbrev cX4_put : ByteArray := prog_6_method_6_code
def yX4_put : MethodName := ⟨RX4, "put", "(II)I"⟩
abbrev cX4_drop : ByteArray := prog_6_method_7_code
def yX4_drop : MethodName := ⟨RX4, "drop", "(I)I"⟩
abbrev cX4_get : ByteArray := prog_6_method_8_code
def yX4_get : MethodName := ⟨RX4, "get", "(I)I"⟩
abbrev cX4_next : ByteArray := prog_6_method_9_code
def yX4_next : MethodName := ⟨RX4, "next", "(I)I"⟩
abbrev cX4_freeSlot : ByteArray := prog_6_method_10_code
def yX4_freeSlot : MethodName := ⟨RX4, "freeSlot", "()I"⟩
abbrev cX4_lay : ByteArray := prog_6_method_11_code
def yX4_lay : MethodName := ⟨RX4, "lay", "(IIIZ)V"⟩
abbrev cX4_flush : ByteArray := prog_6_method_12_code
def yX4_flush : MethodName := ⟨RX4, "flush", "()I"⟩
abbrev cX4_livingOf : ByteArray := prog_6_method_13_code
def yX4_livingOf : MethodName := ⟨RX4, "livingOf", "(I)I"⟩
abbrev cX4_all : ByteArray := prog_6_method_14_code
def yX4_all : MethodName := ⟨RX4, "all", "(Z)I"⟩
abbrev cX4_count : ByteArray := prog_6_method_15_code
def yX4_count : MethodName := ⟨RX4, "count", "(I)I"⟩
abbrev cX4_isPlace : ByteArray := prog_6_method_16_code
def yX4_isPlace : MethodName := ⟨RX4, "isPlace", "(I)Z"⟩
abbrev cX4_segment : ByteArray := prog_6_method_17_code
def yX4_segment : MethodName := ⟨RX4, "segment", "(II)I"⟩
abbrev cX4_row : ByteArray := prog_6_method_18_code
def yX4_row : MethodName := ⟨RX4, "row", "(III)I"⟩
abbrev cX4_full : ByteArray := prog_6_method_19_code
def yX4_full : MethodName := ⟨RX4, "full", "(I)I"⟩
abbrev cX4_due : ByteArray := prog_6_method_20_code
def yX4_due : MethodName := ⟨RX4, "due", "()I"⟩
abbrev cX4_cheapest : ByteArray := prog_6_method_21_code
def yX4_cheapest : MethodName := ⟨RX4, "cheapest", "(I)I"⟩
abbrev cX4_worst : ByteArray := prog_6_method_22_code
def yX4_worst : MethodName := ⟨RX4, "worst", "()I"⟩
abbrev cX4_begin : ByteArray := prog_6_method_23_code
def yX4_begin : MethodName := ⟨RX4, "begin", "(II)I"⟩
abbrev cX4_slotOf : ByteArray := prog_6_method_24_code
def yX4_slotOf : MethodName := ⟨RX4, "slotOf", "(I)I"⟩
abbrev cX4_left : ByteArray := prog_6_method_25_code
def yX4_left : MethodName := ⟨RX4, "left", "()I"⟩
abbrev cX4_takeOne : ByteArray := prog_6_method_26_code
def yX4_takeOne : MethodName := ⟨RX4, "takeOne", "()V"⟩
abbrev cX4_keyAt : ByteArray := prog_6_method_27_code
def yX4_keyAt : MethodName := ⟨RX4, "keyAt", "(I)I"⟩
abbrev cX4_step : ByteArray := prog_6_method_28_code
def yX4_step : MethodName := ⟨RX4, "step", "(I)I"⟩
abbrev cX4_end : ByteArray := prog_6_method_29_code
def yX4_end : MethodName := ⟨RX4, "end", "()V"⟩
abbrev cX4_stop : ByteArray := prog_6_method_30_code
def yX4_stop : MethodName := ⟨RX4, "stop", "()I"⟩
abbrev cX4_merging : ByteArray := prog_6_method_31_code
def yX4_merging : MethodName := ⟨RX4, "merging", "(I)I"⟩
abbrev cX4_moved : ByteArray := prog_6_method_32_code
def yX4_moved : MethodName := ⟨RX4, "moved", "(II)I"⟩
abbrev cX4_view : ByteArray := prog_6_method_33_code
def yX4_view : MethodName := ⟨RX4, "view", "()I"⟩
abbrev cX4_isOpen : ByteArray := prog_6_method_34_code
def yX4_isOpen : MethodName := ⟨RX4, "isOpen", "(I)Z"⟩
abbrev cX4_seen : ByteArray := prog_6_method_35_code
def yX4_seen : MethodName := ⟨RX4, "seen", "(II)I"⟩
abbrev cX4_shut : ByteArray := prog_6_method_36_code
def yX4_shut : MethodName := ⟨RX4, "shut", "(I)I"⟩
abbrev cX4_share : ByteArray := prog_6_method_37_code
def yX4_share : MethodName := ⟨RX4, "share", "()I"⟩
def RJ9 : String := "java/lang/Math"
def TJ9 : u_T := fun k => match k with
  | _ => ("", "", "", false)
def tyJ9 : Nat → FieldType := fun k => match k with
  | _ => .int
abbrev wsJ90 : List Cond := u_ws RJ9 TJ9 0
theorem nmJ9 : ∀ a, a < 0 → ∀ b, b < 0 → a ≠ b → (TJ9 a).2.1 ≠ (TJ9 b).2.1 := by decide +kernel
theorem tyJ9_ok : ∀ k, k < 0 → parseFieldDescriptor (TJ9 k).2.2.1 = some (tyJ9 k) := by decide +kernel
abbrev cJ9_max_7cf53 : ByteArray := prog_9_method_65_code
def yJ9_max_7cf53 : MethodName := ⟨RJ9, "max", "(II)I"⟩
def RJ0 : String := "java/lang/String"
def TJ0 : u_T := fun k => match k with
  | _ => ("", "", "", false)
def tyJ0 : Nat → FieldType := fun k => match k with
  | _ => .int
abbrev wsJ00 : List Cond := u_ws RJ0 TJ0 0
theorem nmJ0 : ∀ a, a < 0 → ∀ b, b < 0 → a ≠ b → (TJ0 a).2.1 ≠ (TJ0 b).2.1 := by decide +kernel
theorem tyJ0_ok : ∀ k, k < 0 → parseFieldDescriptor (TJ0 k).2.2.1 = some (tyJ0 k) := by decide +kernel
def RJ10 : String := "java/lang/System"
def TJ10 : u_T := fun k => match k with
  | _ => ("", "", "", false)
def tyJ10 : Nat → FieldType := fun k => match k with
  | _ => .int
abbrev wsJ100 : List Cond := u_ws RJ10 TJ10 0
theorem nmJ10 : ∀ a, a < 0 → ∀ b, b < 0 → a ≠ b → (TJ10 a).2.1 ≠ (TJ10 b).2.1 := by decide +kernel
theorem tyJ10_ok : ∀ k, k < 0 → parseFieldDescriptor (TJ10 k).2.2.1 = some (tyJ10 k) := by decide +kernel
def RJ7 : String := "java/util/Arrays"
def TJ7 : u_T := fun k => match k with
  | _ => ("", "", "", false)
def tyJ7 : Nat → FieldType := fun k => match k with
  | _ => .int
abbrev wsJ70 : List Cond := u_ws RJ7 TJ7 0
theorem nmJ7 : ∀ a, a < 0 → ∀ b, b < 0 → a ≠ b → (TJ7 a).2.1 ≠ (TJ7 b).2.1 := by decide +kernel
theorem tyJ7_ok : ∀ k, k < 0 → parseFieldDescriptor (TJ7 k).2.2.1 = some (tyJ7 k) := by decide +kernel
abbrev cJ7_fill_53178 : ByteArray := prog_14_method_103_code
def yJ7_fill_53178 : MethodName := ⟨RJ7, "fill", "([II)V"⟩
def RL : String := "SegmentMergesLaw"
abbrev cL_share : ByteArray := method_3_code
def yL_share : MethodName := ⟨RL, "share", "(LSegmentMerges;[J)I"⟩
abbrev cL_law : ByteArray := code
def yL_law : MethodName := ⟨RL, "law", "([I)Z"⟩
def wsX0_init : List Cond := .code yX0_init cX0_init 1 none :: ([.methodLink RX0 3 objectInit, .instanceMethod objectInit, .code objectInit ⟨#[0xb1]⟩ 1 none, .arrayClass .int, .fieldLink RX0 9 "SegmentMerges$Memory" "keys" "[I", .fieldLink RX0 15 "SegmentMerges$Memory" "values" "[I", .fieldLink RX0 18 "SegmentMerges$Memory" "size" "I"] ++ wsX00)
def wsX0_find : List Cond := .code yX0_find cX0_find 3 (some .int) :: ([.fieldLink RX0 18 "SegmentMerges$Memory" "size" "I", .fieldLink RX0 9 "SegmentMerges$Memory" "keys" "[I"] ++ wsX00)
def wsX0_append : List Cond := .code yX0_append cX0_append 3 none :: ([.fieldLink RX0 9 "SegmentMerges$Memory" "keys" "[I", .fieldLink RX0 18 "SegmentMerges$Memory" "size" "I", .fieldLink RX0 15 "SegmentMerges$Memory" "values" "[I"] ++ wsX00)
def wsX0_removeAt : List Cond := .code yX0_removeAt cX0_removeAt 3 none :: ([.fieldLink RX0 18 "SegmentMerges$Memory" "size" "I", .fieldLink RX0 9 "SegmentMerges$Memory" "keys" "[I", .fieldLink RX0 15 "SegmentMerges$Memory" "values" "[I"] ++ wsX00)
def wsX2_init : List Cond := .code yX2_init cX2_init 4 none :: ([.methodLink RX2 1 objectInit, .instanceMethod objectInit, .code objectInit ⟨#[0xb1]⟩ 1 none, .fieldLink RX2 7 "SegmentMerges$Segment" "living" "I", .fieldLink RX2 13 "SegmentMerges$Segment" "number" "I", .fieldLink RX2 16 "SegmentMerges$Segment" "tier" "I", .fieldLink RX2 19 "SegmentMerges$Segment" "size" "I", .arrayClass .int, .fieldLink RX2 22 "SegmentMerges$Segment" "keys" "[I", .fieldLink RX2 26 "SegmentMerges$Segment" "values" "[I", .arrayClass .boolean, .fieldLink RX2 29 "SegmentMerges$Segment" "lives" "[Z", .fieldLink RX2 33 "SegmentMerges$Segment" "wentTo" "[I"] ++ wsX20)
def wsX0_rankOf : List Cond := .code yX0_rankOf cX0_rankOf 4 (some .int) :: ([.fieldLink RX0 18 "SegmentMerges$Memory" "size" "I", .fieldLink RX0 9 "SegmentMerges$Memory" "keys" "[I"] ++ wsX00)
def wsX2_write : List Cond := .code yX2_write cX2_write 5 none :: ([.fieldLink RX2 22 "SegmentMerges$Segment" "keys" "[I", .fieldLink RX2 26 "SegmentMerges$Segment" "values" "[I", .fieldLink RX2 29 "SegmentMerges$Segment" "lives" "[Z", .fieldLink RX2 7 "SegmentMerges$Segment" "living" "I"] ++ wsX20)
def wsX0_asSegment_r1 : List Cond := [Cond.classLink RX0 22 RX2, Cond.instantiable RX2 8, Cond.initialized RX2, Cond.fieldLink RX0 18 "SegmentMerges$Memory" "size" "I", Cond.fieldLink RX0 9 "SegmentMerges$Memory" "keys" "[I", Cond.fieldLink RX0 15 "SegmentMerges$Memory" "values" "[I", Cond.methodLink RX0 24 yX2_init, Cond.instanceMethod yX2_init, Cond.code yX2_init cX2_init 4 none, Cond.methodLink RX2 1 objectInit, Cond.instanceMethod objectInit, Cond.code objectInit ⟨#[0xb1]⟩ 1 none, Cond.fieldLink RX2 7 "SegmentMerges$Segment" "living" "I", Cond.fieldLink RX2 13 "SegmentMerges$Segment" "number" "I", Cond.fieldLink RX2 16 "SegmentMerges$Segment" "tier" "I", Cond.fieldLink RX2 19 "SegmentMerges$Segment" "size" "I", Cond.arrayClass .int, Cond.fieldLink RX2 22 "SegmentMerges$Segment" "keys" "[I", Cond.fieldLink RX2 26 "SegmentMerges$Segment" "values" "[I", Cond.arrayClass .boolean, Cond.fieldLink RX2 29 "SegmentMerges$Segment" "lives" "[Z", Cond.fieldLink RX2 33 "SegmentMerges$Segment" "wentTo" "[I", Cond.methodLink RX0 27 yX0_rankOf, Cond.instanceMethod yX0_rankOf]
def wsX0_asSegment_r2 : List Cond := [Cond.selects RX0 yX0_rankOf yX0_rankOf, Cond.initialized RX0, Cond.code yX0_rankOf cX0_rankOf 4 (some .int), Cond.methodLink RX0 31 yX2_write, Cond.instanceMethod yX2_write, Cond.selects RX2 yX2_write yX2_write, Cond.code yX2_write cX2_write 5 none]
def wsX0_asSegment : List Cond := .code yX0_asSegment cX0_asSegment 4 (some (.object "SegmentMerges$Segment")) :: ((wsX0_asSegment_r1 ++ wsX0_asSegment_r2) ++ wsX20 ++ wsX00)
def wsX1_init : List Cond := .code yX1_init cX1_init 5 none :: ([.methodLink RX1 3 objectInit, .instanceMethod objectInit, .code objectInit ⟨#[0xb1]⟩ 1 none, .fieldLink RX1 9 "SegmentMerges$Merge" "taken" "I", .fieldLink RX1 15 "SegmentMerges$Merge" "written" "I", .fieldLink RX1 18 "SegmentMerges$Merge" "left" "I", .fieldLink RX1 21 "SegmentMerges$Merge" "place" "I", .classLink RX1 24 RX2, .fieldLink RX1 26 "SegmentMerges$Merge" "sources" "[LSegmentMerges$Segment;", .arrayClass .int, .fieldLink RX1 30 "SegmentMerges$Merge" "takenOf" "[I", .fieldLink RX1 34 "SegmentMerges$Segment" "size" "I"] ++ wsX10 ++ wsX20)
def wsX1_isOf : List Cond := .code yX1_isOf cX1_isOf 2 (some .boolean) :: ([.fieldLink RX1 21 "SegmentMerges$Merge" "place" "I", .fieldLink RX1 26 "SegmentMerges$Merge" "sources" "[LSegmentMerges$Segment;"] ++ wsX10)
def wsX1_sourceOf : List Cond := .code yX1_sourceOf cX1_sourceOf 3 (some (.object "SegmentMerges$Segment")) :: ([.fieldLink RX1 26 "SegmentMerges$Merge" "sources" "[LSegmentMerges$Segment;", .fieldLink RX1 37 "SegmentMerges$Segment" "number" "I"] ++ wsX10 ++ wsX20)
def wsX1_sourceOfLeastKey : List Cond := .code yX1_sourceOfLeastKey cX1_sourceOfLeastKey 4 (some .int) :: ([.fieldLink RX1 26 "SegmentMerges$Merge" "sources" "[LSegmentMerges$Segment;", .fieldLink RX1 30 "SegmentMerges$Merge" "takenOf" "[I", .fieldLink RX1 34 "SegmentMerges$Segment" "size" "I", .fieldLink RX1 51 "SegmentMerges$Segment" "keys" "[I"] ++ wsX10 ++ wsX20)
def wsX1_takeOne : List Cond := .code yX1_takeOne cX1_takeOne 4 none :: ([.fieldLink RX1 26 "SegmentMerges$Merge" "sources" "[LSegmentMerges$Segment;", .fieldLink RX1 30 "SegmentMerges$Merge" "takenOf" "[I", .fieldLink RX1 44 "SegmentMerges$Segment" "lives" "[Z", .fieldLink RX1 48 "SegmentMerges$Segment" "wentTo" "[I", .fieldLink RX1 15 "SegmentMerges$Merge" "written" "I", .fieldLink RX1 9 "SegmentMerges$Merge" "taken" "I", .fieldLink RX1 18 "SegmentMerges$Merge" "left" "I", .methodLink RX1 40 yX1_sourceOfLeastKey, .instanceMethod yX1_sourceOfLeastKey, .selects RX1 yX1_sourceOfLeastKey yX1_sourceOfLeastKey, .initialized RX1, .code yX1_sourceOfLeastKey cX1_sourceOfLeastKey 4 (some .int), .fieldLink RX1 34 "SegmentMerges$Segment" "size" "I", .fieldLink RX1 51 "SegmentMerges$Segment" "keys" "[I"] ++ wsX10 ++ wsX20)
def wsX1_greatestTier : List Cond := .code yX1_greatestTier cX1_greatestTier 3 (some .int) :: ([.fieldLink RX1 26 "SegmentMerges$Merge" "sources" "[LSegmentMerges$Segment;", .fieldLink RX1 67 "SegmentMerges$Segment" "tier" "I", .methodLink RX1 70 Lib.Math.max.name, .static Lib.Math.max.name, .initialized "java/lang/Math", .code Lib.Math.max.name Lib.Math.max.code 2 (some .int)] ++ wsX10 ++ wsX20)
def wsX1_asSegment_r1 : List Cond := [Cond.classLink RX1 24 RX2, Cond.instantiable RX2 8, Cond.initialized RX2, Cond.fieldLink RX1 15 "SegmentMerges$Merge" "written" "I", Cond.fieldLink RX1 26 "SegmentMerges$Merge" "sources" "[LSegmentMerges$Segment;", Cond.fieldLink RX1 34 "SegmentMerges$Segment" "size" "I", Cond.fieldLink RX1 48 "SegmentMerges$Segment" "wentTo" "[I", Cond.fieldLink RX1 51 "SegmentMerges$Segment" "keys" "[I", Cond.fieldLink RX1 60 "SegmentMerges$Segment" "values" "[I", Cond.fieldLink RX1 44 "SegmentMerges$Segment" "lives" "[Z", Cond.methodLink RX1 54 yX1_greatestTier, Cond.instanceMethod yX1_greatestTier, Cond.selects RX1 yX1_greatestTier yX1_greatestTier, Cond.initialized RX1, Cond.code yX1_greatestTier cX1_greatestTier 3 (some .int), Cond.fieldLink RX1 67 "SegmentMerges$Segment" "tier" "I", Cond.methodLink RX1 70 Lib.Math.max.name, Cond.static Lib.Math.max.name, Cond.initialized "java/lang/Math", Cond.code Lib.Math.max.name Lib.Math.max.code 2 (some .int), Cond.methodLink RX1 57 yX2_init, Cond.instanceMethod yX2_init, Cond.code yX2_init cX2_init 4 none, Cond.methodLink RX2 1 objectInit]
def wsX1_asSegment_r2 : List Cond := [Cond.instanceMethod objectInit, Cond.code objectInit ⟨#[0xb1]⟩ 1 none, Cond.fieldLink RX2 7 "SegmentMerges$Segment" "living" "I", Cond.fieldLink RX2 13 "SegmentMerges$Segment" "number" "I", Cond.fieldLink RX2 16 "SegmentMerges$Segment" "tier" "I", Cond.fieldLink RX2 19 "SegmentMerges$Segment" "size" "I", Cond.arrayClass .int, Cond.fieldLink RX2 22 "SegmentMerges$Segment" "keys" "[I", Cond.fieldLink RX2 26 "SegmentMerges$Segment" "values" "[I", Cond.arrayClass .boolean, Cond.fieldLink RX2 29 "SegmentMerges$Segment" "lives" "[Z", Cond.fieldLink RX2 33 "SegmentMerges$Segment" "wentTo" "[I", Cond.methodLink RX1 63 yX2_write, Cond.instanceMethod yX2_write, Cond.selects RX2 yX2_write yX2_write, Cond.code yX2_write cX2_write 5 none]
def wsX1_asSegment : List Cond := .code yX1_asSegment cX1_asSegment 6 (some (.object "SegmentMerges$Segment")) :: ((wsX1_asSegment_r1 ++ wsX1_asSegment_r2) ++ wsX20 ++ wsX10)
def wsX2_hasRow : List Cond := .code yX2_hasRow cX2_hasRow 2 (some .boolean) :: ([.fieldLink RX2 19 "SegmentMerges$Segment" "size" "I"] ++ wsX20)
def wsX2_kill : List Cond := .code yX2_kill cX2_kill 3 none :: ([.fieldLink RX2 19 "SegmentMerges$Segment" "size" "I", .fieldLink RX2 22 "SegmentMerges$Segment" "keys" "[I", .fieldLink RX2 29 "SegmentMerges$Segment" "lives" "[Z", .fieldLink RX2 7 "SegmentMerges$Segment" "living" "I"] ++ wsX20)
def wsX2_isDeaderThan : List Cond := .code yX2_isDeaderThan cX2_isDeaderThan 2 (some .boolean) :: ([.fieldLink RX2 19 "SegmentMerges$Segment" "size" "I", .fieldLink RX2 7 "SegmentMerges$Segment" "living" "I"] ++ wsX20)
def wsJ7_fill_53178 : List Cond := .code yJ7_fill_53178 cJ7_fill_53178 4 none :: ([])
def wsX3_init_r1 : List Cond := [Cond.methodLink RX3 1 objectInit, Cond.instanceMethod objectInit, Cond.code objectInit ⟨#[0xb1]⟩ 1 none, Cond.arrayClass .int, Cond.fieldLink RX3 9 "SegmentMerges" "valueOf" "[I", Cond.classLink RX3 13 RX0, Cond.instantiable RX0 3, Cond.initialized RX0, Cond.fieldLink RX3 16 "SegmentMerges" "memory" "LSegmentMerges$Memory;", Cond.classLink RX3 20 RX2, Cond.fieldLink RX3 22 "SegmentMerges" "segments" "[LSegmentMerges$Segment;", Cond.fieldLink RX3 26 "SegmentMerges" "segmentCount" "I", Cond.fieldLink RX3 30 "SegmentMerges" "nextNumber" "I", Cond.fieldLink RX3 33 "SegmentMerges" "writtenRows" "I", Cond.fieldLink RX3 36 "SegmentMerges" "fullSize" "I", Cond.fieldLink RX3 39 "SegmentMerges" "current" "LSegmentMerges$Merge;", Cond.fieldLink RX3 43 "SegmentMerges" "ended" "LSegmentMerges$Merge;", Cond.classLink RX3 46 "[[I", Cond.fieldLink RX3 48 "SegmentMerges" "viewed" "[[I", Cond.arrayClass .boolean, Cond.fieldLink RX3 51 "SegmentMerges" "viewOpen" "[Z", Cond.instanceMethod yX0_init, Cond.code yX0_init cX0_init 1 none, Cond.methodLink RX0 3 objectInit]
def wsX3_init_r2 : List Cond := [Cond.fieldLink RX0 9 "SegmentMerges$Memory" "keys" "[I", Cond.fieldLink RX0 15 "SegmentMerges$Memory" "values" "[I", Cond.fieldLink RX0 18 "SegmentMerges$Memory" "size" "I", Cond.methodLink RX3 55 yJ7_fill_53178, Cond.static yJ7_fill_53178, Cond.initialized RJ7, Cond.code yJ7_fill_53178 cJ7_fill_53178 4 none]
def wsX3_init : List Cond := .code yX3_init cX3_init 1 none :: ((wsX3_init_r1 ++ wsX3_init_r2) ++ wsX30 ++ wsX00)
def wsX3_isKey : List Cond := .code yX3_isKey cX3_isKey 1 (some .boolean) :: ([])
def wsX3_killRowOf : List Cond := .code yX3_killRowOf cX3_killRowOf 3 none :: ([.fieldLink RX3 26 "SegmentMerges" "segmentCount" "I", .fieldLink RX3 22 "SegmentMerges" "segments" "[LSegmentMerges$Segment;", .methodLink RX3 181 yX2_kill, .instanceMethod yX2_kill, .selects RX2 yX2_kill yX2_kill, .initialized RX2, .code yX2_kill cX2_kill 3 none, .fieldLink RX2 19 "SegmentMerges$Segment" "size" "I", .fieldLink RX2 22 "SegmentMerges$Segment" "keys" "[I", .fieldLink RX2 29 "SegmentMerges$Segment" "lives" "[Z", .fieldLink RX2 7 "SegmentMerges$Segment" "living" "I"] ++ wsX30 ++ wsX20)
def wsX3_put_r1 : List Cond := [Cond.fieldLink RX3 16 "SegmentMerges" "memory" "LSegmentMerges$Memory;", Cond.fieldLink RX3 69 "SegmentMerges$Memory" "size" "I", Cond.fieldLink RX3 80 "SegmentMerges$Memory" "values" "[I", Cond.fieldLink RX3 9 "SegmentMerges" "valueOf" "[I", Cond.methodLink RX3 61 yX3_isKey, Cond.static yX3_isKey, Cond.initialized RX3, Cond.code yX3_isKey cX3_isKey 1 (some .boolean), Cond.methodLink RX3 65 yX0_find, Cond.instanceMethod yX0_find, Cond.selects RX0 yX0_find yX0_find, Cond.initialized RX0, Cond.code yX0_find cX0_find 3 (some .int), Cond.fieldLink RX0 18 "SegmentMerges$Memory" "size" "I", Cond.fieldLink RX0 9 "SegmentMerges$Memory" "keys" "[I", Cond.methodLink RX3 72 yX3_killRowOf, Cond.instanceMethod yX3_killRowOf, Cond.selects RX3 yX3_killRowOf yX3_killRowOf, Cond.code yX3_killRowOf cX3_killRowOf 3 none, Cond.fieldLink RX3 26 "SegmentMerges" "segmentCount" "I", Cond.fieldLink RX3 22 "SegmentMerges" "segments" "[LSegmentMerges$Segment;", Cond.methodLink RX3 181 yX2_kill, Cond.instanceMethod yX2_kill, Cond.selects RX2 yX2_kill yX2_kill]
def wsX3_put_r2 : List Cond := [Cond.initialized RX2, Cond.code yX2_kill cX2_kill 3 none, Cond.fieldLink RX2 19 "SegmentMerges$Segment" "size" "I", Cond.fieldLink RX2 22 "SegmentMerges$Segment" "keys" "[I", Cond.fieldLink RX2 29 "SegmentMerges$Segment" "lives" "[Z", Cond.fieldLink RX2 7 "SegmentMerges$Segment" "living" "I", Cond.methodLink RX3 76 yX0_append, Cond.instanceMethod yX0_append, Cond.selects RX0 yX0_append yX0_append, Cond.code yX0_append cX0_append 3 none, Cond.fieldLink RX0 15 "SegmentMerges$Memory" "values" "[I"]
def wsX3_put : List Cond := .code yX3_put cX3_put 4 (some .int) :: ((wsX3_put_r1 ++ wsX3_put_r2) ++ wsX30 ++ wsX00 ++ wsX20)
def wsX3_drop_r1 : List Cond := [Cond.fieldLink RX3 9 "SegmentMerges" "valueOf" "[I", Cond.fieldLink RX3 16 "SegmentMerges" "memory" "LSegmentMerges$Memory;", Cond.methodLink RX3 61 yX3_isKey, Cond.static yX3_isKey, Cond.initialized RX3, Cond.code yX3_isKey cX3_isKey 1 (some .boolean), Cond.methodLink RX3 65 yX0_find, Cond.instanceMethod yX0_find, Cond.selects RX0 yX0_find yX0_find, Cond.initialized RX0, Cond.code yX0_find cX0_find 3 (some .int), Cond.fieldLink RX0 18 "SegmentMerges$Memory" "size" "I", Cond.fieldLink RX0 9 "SegmentMerges$Memory" "keys" "[I", Cond.methodLink RX3 72 yX3_killRowOf, Cond.instanceMethod yX3_killRowOf, Cond.selects RX3 yX3_killRowOf yX3_killRowOf, Cond.code yX3_killRowOf cX3_killRowOf 3 none, Cond.fieldLink RX3 26 "SegmentMerges" "segmentCount" "I", Cond.fieldLink RX3 22 "SegmentMerges" "segments" "[LSegmentMerges$Segment;", Cond.methodLink RX3 181 yX2_kill, Cond.instanceMethod yX2_kill, Cond.selects RX2 yX2_kill yX2_kill, Cond.initialized RX2, Cond.code yX2_kill cX2_kill 3 none]
def wsX3_drop_r2 : List Cond := [Cond.fieldLink RX2 19 "SegmentMerges$Segment" "size" "I", Cond.fieldLink RX2 22 "SegmentMerges$Segment" "keys" "[I", Cond.fieldLink RX2 29 "SegmentMerges$Segment" "lives" "[Z", Cond.fieldLink RX2 7 "SegmentMerges$Segment" "living" "I", Cond.methodLink RX3 83 yX0_removeAt, Cond.instanceMethod yX0_removeAt, Cond.selects RX0 yX0_removeAt yX0_removeAt, Cond.code yX0_removeAt cX0_removeAt 3 none, Cond.fieldLink RX0 15 "SegmentMerges$Memory" "values" "[I"]
def wsX3_drop : List Cond := .code yX3_drop cX3_drop 3 (some .int) :: ((wsX3_drop_r1 ++ wsX3_drop_r2) ++ wsX30 ++ wsX00 ++ wsX20)
def wsX3_get : List Cond := .code yX3_get cX3_get 2 (some .int) :: ([.fieldLink RX3 9 "SegmentMerges" "valueOf" "[I", .methodLink RX3 61 yX3_isKey, .static yX3_isKey, .initialized RX3, .code yX3_isKey cX3_isKey 1 (some .boolean)] ++ wsX30)
def wsX3_next : List Cond := .code yX3_next cX3_next 3 (some .int) :: ([.fieldLink RX3 9 "SegmentMerges" "valueOf" "[I", .methodLink RX3 61 yX3_isKey, .static yX3_isKey, .initialized RX3, .code yX3_isKey cX3_isKey 1 (some .boolean)] ++ wsX30)
def wsX3_flush_r1 : List Cond := [Cond.fieldLink RX3 16 "SegmentMerges" "memory" "LSegmentMerges$Memory;", Cond.fieldLink RX3 69 "SegmentMerges$Memory" "size" "I", Cond.fieldLink RX3 26 "SegmentMerges" "segmentCount" "I", Cond.fieldLink RX3 30 "SegmentMerges" "nextNumber" "I", Cond.fieldLink RX3 22 "SegmentMerges" "segments" "[LSegmentMerges$Segment;", Cond.fieldLink RX3 33 "SegmentMerges" "writtenRows" "I", Cond.fieldLink RX3 90 "SegmentMerges$Segment" "size" "I", Cond.fieldLink RX3 91 "SegmentMerges$Segment" "number" "I", Cond.methodLink RX3 86 yX0_asSegment, Cond.instanceMethod yX0_asSegment, Cond.selects RX0 yX0_asSegment yX0_asSegment, Cond.initialized RX0, Cond.code yX0_asSegment cX0_asSegment 4 (some (.object "SegmentMerges$Segment")), Cond.classLink RX0 22 RX2, Cond.instantiable RX2 8, Cond.initialized RX2, Cond.fieldLink RX0 18 "SegmentMerges$Memory" "size" "I", Cond.fieldLink RX0 9 "SegmentMerges$Memory" "keys" "[I", Cond.fieldLink RX0 15 "SegmentMerges$Memory" "values" "[I", Cond.methodLink RX0 24 yX2_init, Cond.instanceMethod yX2_init, Cond.code yX2_init cX2_init 4 none, Cond.methodLink RX2 1 objectInit, Cond.instanceMethod objectInit]
def wsX3_flush_r2 : List Cond := [Cond.code objectInit ⟨#[0xb1]⟩ 1 none, Cond.fieldLink RX2 7 "SegmentMerges$Segment" "living" "I", Cond.fieldLink RX2 13 "SegmentMerges$Segment" "number" "I", Cond.fieldLink RX2 16 "SegmentMerges$Segment" "tier" "I", Cond.fieldLink RX2 19 "SegmentMerges$Segment" "size" "I", Cond.arrayClass .int, Cond.fieldLink RX2 22 "SegmentMerges$Segment" "keys" "[I", Cond.fieldLink RX2 26 "SegmentMerges$Segment" "values" "[I", Cond.arrayClass .boolean, Cond.fieldLink RX2 29 "SegmentMerges$Segment" "lives" "[Z", Cond.fieldLink RX2 33 "SegmentMerges$Segment" "wentTo" "[I", Cond.methodLink RX0 27 yX0_rankOf, Cond.instanceMethod yX0_rankOf, Cond.selects RX0 yX0_rankOf yX0_rankOf, Cond.code yX0_rankOf cX0_rankOf 4 (some .int), Cond.methodLink RX0 31 yX2_write, Cond.instanceMethod yX2_write, Cond.selects RX2 yX2_write yX2_write, Cond.code yX2_write cX2_write 5 none]
def wsX3_flush : List Cond := .code yX3_flush cX3_flush 2 (some .int) :: ((wsX3_flush_r1 ++ wsX3_flush_r2) ++ wsX30 ++ wsX00 ++ wsX20)
def wsX3_rowsInSegments : List Cond := .code yX3_rowsInSegments cX3_rowsInSegments 3 (some .int) :: ([.fieldLink RX3 26 "SegmentMerges" "segmentCount" "I", .fieldLink RX3 22 "SegmentMerges" "segments" "[LSegmentMerges$Segment;", .fieldLink RX3 90 "SegmentMerges$Segment" "size" "I"] ++ wsX30 ++ wsX20)
def wsX3_livingFrom : List Cond := .code yX3_livingFrom cX3_livingFrom 5 (some .int) :: ([.fieldLink RX3 22 "SegmentMerges" "segments" "[LSegmentMerges$Segment;", .fieldLink RX3 108 "SegmentMerges$Segment" "living" "I"] ++ wsX30 ++ wsX20)
def wsX3_count : List Cond := .code yX3_count cX3_count 2 (some .int) :: ([.fieldLink RX3 16 "SegmentMerges" "memory" "LSegmentMerges$Memory;", .fieldLink RX3 69 "SegmentMerges$Memory" "size" "I", .fieldLink RX3 26 "SegmentMerges" "segmentCount" "I", .fieldLink RX3 33 "SegmentMerges" "writtenRows" "I", .methodLink RX3 94 yX3_rowsInSegments, .instanceMethod yX3_rowsInSegments, .selects RX3 yX3_rowsInSegments yX3_rowsInSegments, .initialized RX3, .code yX3_rowsInSegments cX3_rowsInSegments 3 (some .int), .fieldLink RX3 22 "SegmentMerges" "segments" "[LSegmentMerges$Segment;", .fieldLink RX3 90 "SegmentMerges$Segment" "size" "I", .methodLink RX3 98 yX3_livingFrom, .instanceMethod yX3_livingFrom, .selects RX3 yX3_livingFrom yX3_livingFrom, .code yX3_livingFrom cX3_livingFrom 5 (some .int), .fieldLink RX3 108 "SegmentMerges$Segment" "living" "I"] ++ wsX30 ++ wsX00 ++ wsX20)
def wsX3_isPlace : List Cond := .code yX3_isPlace cX3_isPlace 2 (some .boolean) :: ([.fieldLink RX3 26 "SegmentMerges" "segmentCount" "I"] ++ wsX30)
def wsX3_segment : List Cond := .code yX3_segment cX3_segment 4 (some .int) :: ([.fieldLink RX3 22 "SegmentMerges" "segments" "[LSegmentMerges$Segment;", .fieldLink RX3 91 "SegmentMerges$Segment" "number" "I", .fieldLink RX3 105 "SegmentMerges$Segment" "tier" "I", .fieldLink RX3 90 "SegmentMerges$Segment" "size" "I", .fieldLink RX3 108 "SegmentMerges$Segment" "living" "I", .fieldLink RX3 39 "SegmentMerges" "current" "LSegmentMerges$Merge;", .methodLink RX3 102 yX3_isPlace, .instanceMethod yX3_isPlace, .selects RX3 yX3_isPlace yX3_isPlace, .initialized RX3, .code yX3_isPlace cX3_isPlace 2 (some .boolean), .fieldLink RX3 26 "SegmentMerges" "segmentCount" "I", .methodLink RX3 111 yX1_isOf, .instanceMethod yX1_isOf, .selects RX1 yX1_isOf yX1_isOf, .initialized RX1, .code yX1_isOf cX1_isOf 2 (some .boolean), .fieldLink RX1 21 "SegmentMerges$Merge" "place" "I", .fieldLink RX1 26 "SegmentMerges$Merge" "sources" "[LSegmentMerges$Segment;"] ++ wsX30 ++ wsX20 ++ wsX10)
def wsX3_row : List Cond := .code yX3_row cX3_row 5 (some .int) :: ([.fieldLink RX3 22 "SegmentMerges" "segments" "[LSegmentMerges$Segment;", .fieldLink RX3 119 "SegmentMerges$Segment" "keys" "[I", .fieldLink RX3 122 "SegmentMerges$Segment" "values" "[I", .fieldLink RX3 123 "SegmentMerges$Segment" "lives" "[Z", .methodLink RX3 102 yX3_isPlace, .instanceMethod yX3_isPlace, .selects RX3 yX3_isPlace yX3_isPlace, .initialized RX3, .code yX3_isPlace cX3_isPlace 2 (some .boolean), .fieldLink RX3 26 "SegmentMerges" "segmentCount" "I", .methodLink RX3 116 yX2_hasRow, .instanceMethod yX2_hasRow, .selects RX2 yX2_hasRow yX2_hasRow, .initialized RX2, .code yX2_hasRow cX2_hasRow 2 (some .boolean), .fieldLink RX2 19 "SegmentMerges$Segment" "size" "I"] ++ wsX30 ++ wsX20)
def wsX3_full : List Cond := .code yX3_full cX3_full 3 (some .int) :: ([.fieldLink RX3 36 "SegmentMerges" "fullSize" "I"] ++ wsX30)
def wsX3_isOfOneTier : List Cond := .code yX3_isOfOneTier cX3_isOfOneTier 4 (some .boolean) :: ([.fieldLink RX3 22 "SegmentMerges" "segments" "[LSegmentMerges$Segment;", .fieldLink RX3 105 "SegmentMerges$Segment" "tier" "I"] ++ wsX30 ++ wsX20)
def wsX3_due : List Cond := .code yX3_due cX3_due 3 (some .int) :: ([.fieldLink RX3 36 "SegmentMerges" "fullSize" "I", .fieldLink RX3 26 "SegmentMerges" "segmentCount" "I", .fieldLink RX3 22 "SegmentMerges" "segments" "[LSegmentMerges$Segment;", .fieldLink RX3 105 "SegmentMerges$Segment" "tier" "I", .methodLink RX3 126 yX3_isOfOneTier, .instanceMethod yX3_isOfOneTier, .selects RX3 yX3_isOfOneTier yX3_isOfOneTier, .initialized RX3, .code yX3_isOfOneTier cX3_isOfOneTier 4 (some .boolean)] ++ wsX30 ++ wsX20)
def wsX3_canBeMerged : List Cond := .code yX3_canBeMerged cX3_canBeMerged 1 (some .boolean) :: ([])
def wsX3_cheapest : List Cond := .code yX3_cheapest cX3_cheapest 6 (some .int) :: ([.fieldLink RX3 26 "SegmentMerges" "segmentCount" "I", .methodLink RX3 130 yX3_canBeMerged, .static yX3_canBeMerged, .initialized RX3, .code yX3_canBeMerged cX3_canBeMerged 1 (some .boolean), .methodLink RX3 98 yX3_livingFrom, .instanceMethod yX3_livingFrom, .selects RX3 yX3_livingFrom yX3_livingFrom, .code yX3_livingFrom cX3_livingFrom 5 (some .int), .fieldLink RX3 22 "SegmentMerges" "segments" "[LSegmentMerges$Segment;", .fieldLink RX3 108 "SegmentMerges$Segment" "living" "I"] ++ wsX30 ++ wsX20)
def wsX3_worst : List Cond := .code yX3_worst cX3_worst 3 (some .int) :: ([.fieldLink RX3 26 "SegmentMerges" "segmentCount" "I", .fieldLink RX3 22 "SegmentMerges" "segments" "[LSegmentMerges$Segment;", .methodLink RX3 133 yX2_isDeaderThan, .instanceMethod yX2_isDeaderThan, .selects RX2 yX2_isDeaderThan yX2_isDeaderThan, .initialized RX2, .code yX2_isDeaderThan cX2_isDeaderThan 2 (some .boolean), .fieldLink RX2 19 "SegmentMerges$Segment" "size" "I", .fieldLink RX2 7 "SegmentMerges$Segment" "living" "I"] ++ wsX30 ++ wsX20)
def wsX3_begin_r1 : List Cond := [Cond.fieldLink RX3 39 "SegmentMerges" "current" "LSegmentMerges$Merge;", Cond.classLink RX3 112 RX1, Cond.instantiable RX1 6, Cond.initialized RX1, Cond.fieldLink RX3 22 "SegmentMerges" "segments" "[LSegmentMerges$Segment;", Cond.fieldLink RX3 140 "SegmentMerges$Merge" "left" "I", Cond.methodLink RX3 102 yX3_isPlace, Cond.instanceMethod yX3_isPlace, Cond.selects RX3 yX3_isPlace yX3_isPlace, Cond.initialized RX3, Cond.code yX3_isPlace cX3_isPlace 2 (some .boolean), Cond.fieldLink RX3 26 "SegmentMerges" "segmentCount" "I", Cond.methodLink RX3 130 yX3_canBeMerged, Cond.static yX3_canBeMerged, Cond.code yX3_canBeMerged cX3_canBeMerged 1 (some .boolean), Cond.methodLink RX3 137 yX1_init, Cond.instanceMethod yX1_init, Cond.code yX1_init cX1_init 5 none, Cond.methodLink RX1 3 objectInit, Cond.instanceMethod objectInit, Cond.code objectInit ⟨#[0xb1]⟩ 1 none, Cond.fieldLink RX1 9 "SegmentMerges$Merge" "taken" "I", Cond.fieldLink RX1 15 "SegmentMerges$Merge" "written" "I", Cond.fieldLink RX1 18 "SegmentMerges$Merge" "left" "I"]
def wsX3_begin_r2 : List Cond := [Cond.fieldLink RX1 21 "SegmentMerges$Merge" "place" "I", Cond.classLink RX1 24 RX2, Cond.fieldLink RX1 26 "SegmentMerges$Merge" "sources" "[LSegmentMerges$Segment;", Cond.arrayClass .int, Cond.fieldLink RX1 30 "SegmentMerges$Merge" "takenOf" "[I", Cond.fieldLink RX1 34 "SegmentMerges$Segment" "size" "I"]
def wsX3_begin : List Cond := .code yX3_begin cX3_begin 3 (some .int) :: ((wsX3_begin_r1 ++ wsX3_begin_r2) ++ wsX30 ++ wsX10 ++ wsX20)
def wsX3_closeGap : List Cond := .code yX3_closeGap cX3_closeGap 4 none :: ([.fieldLink RX3 26 "SegmentMerges" "segmentCount" "I", .fieldLink RX3 22 "SegmentMerges" "segments" "[LSegmentMerges$Segment;"] ++ wsX30)
def wsX3_endMerge_r1 : List Cond := [Cond.fieldLink RX3 153 "SegmentMerges$Merge" "written" "I", Cond.fieldLink RX3 22 "SegmentMerges" "segments" "[LSegmentMerges$Segment;", Cond.fieldLink RX3 156 "SegmentMerges$Merge" "place" "I", Cond.fieldLink RX3 30 "SegmentMerges" "nextNumber" "I", Cond.fieldLink RX3 185 "SegmentMerges$Merge" "sources" "[LSegmentMerges$Segment;", Cond.fieldLink RX3 33 "SegmentMerges" "writtenRows" "I", Cond.fieldLink RX3 43 "SegmentMerges" "ended" "LSegmentMerges$Merge;", Cond.fieldLink RX3 39 "SegmentMerges" "current" "LSegmentMerges$Merge;", Cond.methodLink RX3 184 yX1_asSegment, Cond.instanceMethod yX1_asSegment, Cond.selects RX1 yX1_asSegment yX1_asSegment, Cond.initialized RX1, Cond.code yX1_asSegment cX1_asSegment 6 (some (.object "SegmentMerges$Segment")), Cond.classLink RX1 24 RX2, Cond.instantiable RX2 8, Cond.initialized RX2, Cond.fieldLink RX1 15 "SegmentMerges$Merge" "written" "I", Cond.fieldLink RX1 26 "SegmentMerges$Merge" "sources" "[LSegmentMerges$Segment;", Cond.fieldLink RX1 34 "SegmentMerges$Segment" "size" "I", Cond.fieldLink RX1 48 "SegmentMerges$Segment" "wentTo" "[I", Cond.fieldLink RX1 51 "SegmentMerges$Segment" "keys" "[I", Cond.fieldLink RX1 60 "SegmentMerges$Segment" "values" "[I", Cond.fieldLink RX1 44 "SegmentMerges$Segment" "lives" "[Z", Cond.methodLink RX1 54 yX1_greatestTier]
def wsX3_endMerge_r2 : List Cond := [Cond.instanceMethod yX1_greatestTier, Cond.selects RX1 yX1_greatestTier yX1_greatestTier, Cond.code yX1_greatestTier cX1_greatestTier 3 (some .int), Cond.fieldLink RX1 67 "SegmentMerges$Segment" "tier" "I", Cond.methodLink RX1 70 Lib.Math.max.name, Cond.static Lib.Math.max.name, Cond.initialized "java/lang/Math", Cond.code Lib.Math.max.name Lib.Math.max.code 2 (some .int), Cond.methodLink RX1 57 yX2_init, Cond.instanceMethod yX2_init, Cond.code yX2_init cX2_init 4 none, Cond.methodLink RX2 1 objectInit, Cond.instanceMethod objectInit, Cond.code objectInit ⟨#[0xb1]⟩ 1 none, Cond.fieldLink RX2 7 "SegmentMerges$Segment" "living" "I", Cond.fieldLink RX2 13 "SegmentMerges$Segment" "number" "I", Cond.fieldLink RX2 16 "SegmentMerges$Segment" "tier" "I", Cond.fieldLink RX2 19 "SegmentMerges$Segment" "size" "I", Cond.arrayClass .int, Cond.fieldLink RX2 22 "SegmentMerges$Segment" "keys" "[I", Cond.fieldLink RX2 26 "SegmentMerges$Segment" "values" "[I", Cond.arrayClass .boolean, Cond.fieldLink RX2 29 "SegmentMerges$Segment" "lives" "[Z", Cond.fieldLink RX2 33 "SegmentMerges$Segment" "wentTo" "[I"]
def wsX3_endMerge_r3 : List Cond := [Cond.methodLink RX1 63 yX2_write, Cond.instanceMethod yX2_write, Cond.selects RX2 yX2_write yX2_write, Cond.code yX2_write cX2_write 5 none, Cond.methodLink RX3 188 yX3_closeGap, Cond.instanceMethod yX3_closeGap, Cond.selects RX3 yX3_closeGap yX3_closeGap, Cond.initialized RX3, Cond.code yX3_closeGap cX3_closeGap 4 none, Cond.fieldLink RX3 26 "SegmentMerges" "segmentCount" "I"]
def wsX3_endMerge : List Cond := .code yX3_endMerge cX3_endMerge 3 none :: ((wsX3_endMerge_r1 ++ (wsX3_endMerge_r2 ++ wsX3_endMerge_r3)) ++ wsX10 ++ wsX30 ++ wsX20)
def wsX3_step_r1 : List Cond := [Cond.fieldLink RX3 39 "SegmentMerges" "current" "LSegmentMerges$Merge;", Cond.fieldLink RX3 140 "SegmentMerges$Merge" "left" "I", Cond.methodLink RX3 143 yX1_takeOne, Cond.instanceMethod yX1_takeOne, Cond.selects RX1 yX1_takeOne yX1_takeOne, Cond.initialized RX1, Cond.code yX1_takeOne cX1_takeOne 4 none, Cond.fieldLink RX1 26 "SegmentMerges$Merge" "sources" "[LSegmentMerges$Segment;", Cond.fieldLink RX1 30 "SegmentMerges$Merge" "takenOf" "[I", Cond.fieldLink RX1 44 "SegmentMerges$Segment" "lives" "[Z", Cond.fieldLink RX1 48 "SegmentMerges$Segment" "wentTo" "[I", Cond.fieldLink RX1 15 "SegmentMerges$Merge" "written" "I", Cond.fieldLink RX1 9 "SegmentMerges$Merge" "taken" "I", Cond.fieldLink RX1 18 "SegmentMerges$Merge" "left" "I", Cond.methodLink RX1 40 yX1_sourceOfLeastKey, Cond.instanceMethod yX1_sourceOfLeastKey, Cond.selects RX1 yX1_sourceOfLeastKey yX1_sourceOfLeastKey, Cond.code yX1_sourceOfLeastKey cX1_sourceOfLeastKey 4 (some .int), Cond.fieldLink RX1 34 "SegmentMerges$Segment" "size" "I", Cond.fieldLink RX1 51 "SegmentMerges$Segment" "keys" "[I", Cond.methodLink RX3 146 yX3_endMerge, Cond.instanceMethod yX3_endMerge, Cond.selects RX3 yX3_endMerge yX3_endMerge, Cond.initialized RX3]
def wsX3_step_r2 : List Cond := [Cond.code yX3_endMerge cX3_endMerge 3 none, Cond.fieldLink RX3 153 "SegmentMerges$Merge" "written" "I", Cond.fieldLink RX3 22 "SegmentMerges" "segments" "[LSegmentMerges$Segment;", Cond.fieldLink RX3 156 "SegmentMerges$Merge" "place" "I", Cond.fieldLink RX3 30 "SegmentMerges" "nextNumber" "I", Cond.fieldLink RX3 185 "SegmentMerges$Merge" "sources" "[LSegmentMerges$Segment;", Cond.fieldLink RX3 33 "SegmentMerges" "writtenRows" "I", Cond.fieldLink RX3 43 "SegmentMerges" "ended" "LSegmentMerges$Merge;", Cond.methodLink RX3 184 yX1_asSegment, Cond.instanceMethod yX1_asSegment, Cond.selects RX1 yX1_asSegment yX1_asSegment, Cond.code yX1_asSegment cX1_asSegment 6 (some (.object "SegmentMerges$Segment")), Cond.classLink RX1 24 RX2, Cond.instantiable RX2 8, Cond.initialized RX2, Cond.fieldLink RX1 60 "SegmentMerges$Segment" "values" "[I", Cond.methodLink RX1 54 yX1_greatestTier, Cond.instanceMethod yX1_greatestTier, Cond.selects RX1 yX1_greatestTier yX1_greatestTier, Cond.code yX1_greatestTier cX1_greatestTier 3 (some .int), Cond.fieldLink RX1 67 "SegmentMerges$Segment" "tier" "I", Cond.methodLink RX1 70 Lib.Math.max.name, Cond.static Lib.Math.max.name, Cond.initialized "java/lang/Math"]
def wsX3_step_r3 : List Cond := [Cond.code Lib.Math.max.name Lib.Math.max.code 2 (some .int), Cond.methodLink RX1 57 yX2_init, Cond.instanceMethod yX2_init, Cond.code yX2_init cX2_init 4 none, Cond.methodLink RX2 1 objectInit, Cond.instanceMethod objectInit, Cond.code objectInit ⟨#[0xb1]⟩ 1 none, Cond.fieldLink RX2 7 "SegmentMerges$Segment" "living" "I", Cond.fieldLink RX2 13 "SegmentMerges$Segment" "number" "I", Cond.fieldLink RX2 16 "SegmentMerges$Segment" "tier" "I", Cond.fieldLink RX2 19 "SegmentMerges$Segment" "size" "I", Cond.arrayClass .int, Cond.fieldLink RX2 22 "SegmentMerges$Segment" "keys" "[I", Cond.fieldLink RX2 26 "SegmentMerges$Segment" "values" "[I", Cond.arrayClass .boolean, Cond.fieldLink RX2 29 "SegmentMerges$Segment" "lives" "[Z", Cond.fieldLink RX2 33 "SegmentMerges$Segment" "wentTo" "[I", Cond.methodLink RX1 63 yX2_write, Cond.instanceMethod yX2_write, Cond.selects RX2 yX2_write yX2_write, Cond.code yX2_write cX2_write 5 none, Cond.methodLink RX3 188 yX3_closeGap, Cond.instanceMethod yX3_closeGap, Cond.selects RX3 yX3_closeGap yX3_closeGap]
def wsX3_step_r4 : List Cond := [Cond.code yX3_closeGap cX3_closeGap 4 none, Cond.fieldLink RX3 26 "SegmentMerges" "segmentCount" "I"]
def wsX3_step : List Cond := .code yX3_step cX3_step 3 (some .int) :: ((wsX3_step_r1 ++ (wsX3_step_r2 ++ (wsX3_step_r3 ++ wsX3_step_r4))) ++ wsX30 ++ wsX10 ++ wsX20)
def wsX3_stop : List Cond := .code yX3_stop cX3_stop 2 (some .int) :: ([.fieldLink RX3 39 "SegmentMerges" "current" "LSegmentMerges$Merge;", .fieldLink RX3 150 "SegmentMerges$Merge" "taken" "I", .fieldLink RX3 33 "SegmentMerges" "writtenRows" "I", .fieldLink RX3 153 "SegmentMerges$Merge" "written" "I"] ++ wsX30 ++ wsX10)
def wsX3_merging : List Cond := .code yX3_merging cX3_merging 2 (some .int) :: ([.fieldLink RX3 39 "SegmentMerges" "current" "LSegmentMerges$Merge;", .fieldLink RX3 150 "SegmentMerges$Merge" "taken" "I", .fieldLink RX3 153 "SegmentMerges$Merge" "written" "I", .fieldLink RX3 140 "SegmentMerges$Merge" "left" "I", .fieldLink RX3 156 "SegmentMerges$Merge" "place" "I"] ++ wsX30 ++ wsX10)
def wsX3_moved : List Cond := .code yX3_moved cX3_moved 4 (some .int) :: ([.fieldLink RX3 43 "SegmentMerges" "ended" "LSegmentMerges$Merge;", .fieldLink RX3 162 "SegmentMerges$Segment" "wentTo" "[I", .methodLink RX3 159 yX1_sourceOf, .instanceMethod yX1_sourceOf, .selects RX1 yX1_sourceOf yX1_sourceOf, .initialized RX1, .code yX1_sourceOf cX1_sourceOf 3 (some (.object "SegmentMerges$Segment")), .fieldLink RX1 26 "SegmentMerges$Merge" "sources" "[LSegmentMerges$Segment;", .fieldLink RX1 37 "SegmentMerges$Segment" "number" "I", .methodLink RX3 116 yX2_hasRow, .instanceMethod yX2_hasRow, .selects RX2 yX2_hasRow yX2_hasRow, .initialized RX2, .code yX2_hasRow cX2_hasRow 2 (some .boolean), .fieldLink RX2 19 "SegmentMerges$Segment" "size" "I"] ++ wsX30 ++ wsX20 ++ wsX10)
def wsX3_view : List Cond := .code yX3_view cX3_view 2 (some .int) :: ([.fieldLink RX3 51 "SegmentMerges" "viewOpen" "[Z", .fieldLink RX3 9 "SegmentMerges" "valueOf" "[I", .fieldLink RX3 48 "SegmentMerges" "viewed" "[[I", .methodLink RX3 165 arraycopyName, .native arraycopyName, .static arraycopyName, .initialized "java/lang/System"] ++ wsX30)
def wsX3_isOpenView : List Cond := .code yX3_isOpenView cX3_isOpenView 2 (some .boolean) :: ([.fieldLink RX3 51 "SegmentMerges" "viewOpen" "[Z"] ++ wsX30)
def wsX3_seen : List Cond := .code yX3_seen cX3_seen 4 (some .int) :: ([.fieldLink RX3 48 "SegmentMerges" "viewed" "[[I", .methodLink RX3 171 yX3_isOpenView, .instanceMethod yX3_isOpenView, .selects RX3 yX3_isOpenView yX3_isOpenView, .initialized RX3, .code yX3_isOpenView cX3_isOpenView 2 (some .boolean), .fieldLink RX3 51 "SegmentMerges" "viewOpen" "[Z", .methodLink RX3 61 yX3_isKey, .static yX3_isKey, .code yX3_isKey cX3_isKey 1 (some .boolean)] ++ wsX30)
def wsX3_shut : List Cond := .code yX3_shut cX3_shut 4 (some .int) :: ([.fieldLink RX3 48 "SegmentMerges" "viewed" "[[I", .fieldLink RX3 9 "SegmentMerges" "valueOf" "[I", .fieldLink RX3 51 "SegmentMerges" "viewOpen" "[Z", .methodLink RX3 171 yX3_isOpenView, .instanceMethod yX3_isOpenView, .selects RX3 yX3_isOpenView yX3_isOpenView, .initialized RX3, .code yX3_isOpenView cX3_isOpenView 2 (some .boolean)] ++ wsX30)
def wsX3_share : List Cond := .code yX3_share cX3_share 2 (some .int) :: ([.classLink RX3 174 "java/lang/ArithmeticException", .initialized "java/lang/ArithmeticException", .fieldLink RX3 26 "SegmentMerges" "segmentCount" "I", .methodLink RX3 94 yX3_rowsInSegments, .instanceMethod yX3_rowsInSegments, .selects RX3 yX3_rowsInSegments yX3_rowsInSegments, .initialized RX3, .code yX3_rowsInSegments cX3_rowsInSegments 3 (some .int), .fieldLink RX3 22 "SegmentMerges" "segments" "[LSegmentMerges$Segment;", .fieldLink RX3 90 "SegmentMerges$Segment" "size" "I", .methodLink RX3 98 yX3_livingFrom, .instanceMethod yX3_livingFrom, .selects RX3 yX3_livingFrom yX3_livingFrom, .code yX3_livingFrom cX3_livingFrom 5 (some .int), .fieldLink RX3 108 "SegmentMerges$Segment" "living" "I"] ++ wsX30 ++ wsX20 ++ (vx_atS RX3 178 "java/lang/ArithmeticException" ["java/lang/RuntimeException", "java/lang/Exception"]).filter goodWord)
def wsX4_init_r1 : List Cond := [Cond.methodLink RX4 1 objectInit, Cond.instanceMethod objectInit, Cond.code objectInit ⟨#[0xb1]⟩ 1 none, Cond.arrayClass .int, Cond.fieldLink RX4 7 "SegmentMergesModel" "value" "[I", Cond.fieldLink RX4 13 "SegmentMergesModel" "turn" "[I", Cond.fieldLink RX4 16 "SegmentMergesModel" "inSlot" "[I", Cond.fieldLink RX4 19 "SegmentMergesModel" "inRow" "[I", Cond.fieldLink RX4 22 "SegmentMergesModel" "memory" "[I", Cond.fieldLink RX4 25 "SegmentMergesModel" "order" "[I", Cond.arrayClass .boolean, Cond.fieldLink RX4 28 "SegmentMergesModel" "isUsed" "[Z", Cond.fieldLink RX4 32 "SegmentMergesModel" "number" "[I", Cond.fieldLink RX4 35 "SegmentMergesModel" "tier" "[I", Cond.fieldLink RX4 38 "SegmentMergesModel" "rows" "[I", Cond.fieldLink RX4 41 "SegmentMergesModel" "rowKey" "[I", Cond.fieldLink RX4 44 "SegmentMergesModel" "rowValue" "[I", Cond.fieldLink RX4 47 "SegmentMergesModel" "lives" "[Z", Cond.fieldLink RX4 50 "SegmentMergesModel" "full" "I", Cond.fieldLink RX4 54 "SegmentMergesModel" "at" "[I", Cond.fieldLink RX4 57 "SegmentMergesModel" "newKey" "[I", Cond.fieldLink RX4 60 "SegmentMergesModel" "newValue" "[I", Cond.fieldLink RX4 63 "SegmentMergesModel" "newTurn" "[I", Cond.fieldLink RX4 66 "SegmentMergesModel" "goes" "[I"]
def wsX4_init_r2 : List Cond := [Cond.fieldLink RX4 69 "SegmentMergesModel" "movedNumber" "[I", Cond.fieldLink RX4 72 "SegmentMergesModel" "movedRows" "[I", Cond.fieldLink RX4 75 "SegmentMergesModel" "movedTo" "[I", Cond.fieldLink RX4 78 "SegmentMergesModel" "isView" "[Z", Cond.fieldLink RX4 81 "SegmentMergesModel" "viewed" "[I"]
def wsX4_init : List Cond := .code yX4_init cX4_init 2 none :: ((wsX4_init_r1 ++ wsX4_init_r2) ++ wsX40)
def wsX4_thrown : List Cond := .code yX4_thrown cX4_thrown 1 (some .int) :: ([.fieldLink RX4 84 "SegmentMergesModel" "thrown" "I"] ++ wsX40)
def wsX4_in : List Cond := .code yX4_in cX4_in 3 (some .boolean) :: ([])
def wsX4_memoryAt : List Cond := .code yX4_memoryAt cX4_memoryAt 4 (some .int) :: ([.fieldLink RX4 87 "SegmentMergesModel" "remembered" "I", .fieldLink RX4 22 "SegmentMergesModel" "memory" "[I"] ++ wsX40)
def wsX4_die : List Cond := .code yX4_die cX4_die 2 none :: ([.fieldLink RX4 16 "SegmentMergesModel" "inSlot" "[I", .fieldLink RX4 47 "SegmentMergesModel" "lives" "[Z", .fieldLink RX4 19 "SegmentMergesModel" "inRow" "[I"] ++ wsX40)
def wsX4_put : List Cond := .code yX4_put cX4_put 3 (some .int) :: ([.fieldLink RX4 84 "SegmentMergesModel" "thrown" "I", .fieldLink RX4 87 "SegmentMergesModel" "remembered" "I", .fieldLink RX4 22 "SegmentMergesModel" "memory" "[I", .fieldLink RX4 7 "SegmentMergesModel" "value" "[I", .fieldLink RX4 13 "SegmentMergesModel" "turn" "[I", .methodLink RX4 90 yX4_in, .static yX4_in, .initialized RX4, .code yX4_in cX4_in 3 (some .boolean), .methodLink RX4 94 yX4_memoryAt, .instanceMethod yX4_memoryAt, .selects RX4 yX4_memoryAt yX4_memoryAt, .code yX4_memoryAt cX4_memoryAt 4 (some .int), .methodLink RX4 98 yX4_die, .instanceMethod yX4_die, .selects RX4 yX4_die yX4_die, .code yX4_die cX4_die 2 none, .fieldLink RX4 16 "SegmentMergesModel" "inSlot" "[I", .fieldLink RX4 47 "SegmentMergesModel" "lives" "[Z", .fieldLink RX4 19 "SegmentMergesModel" "inRow" "[I"] ++ wsX40)
def wsX4_drop : List Cond := .code yX4_drop cX4_drop 4 (some .int) :: ([.fieldLink RX4 84 "SegmentMergesModel" "thrown" "I", .fieldLink RX4 7 "SegmentMergesModel" "value" "[I", .fieldLink RX4 87 "SegmentMergesModel" "remembered" "I", .fieldLink RX4 22 "SegmentMergesModel" "memory" "[I", .fieldLink RX4 13 "SegmentMergesModel" "turn" "[I", .methodLink RX4 90 yX4_in, .static yX4_in, .initialized RX4, .code yX4_in cX4_in 3 (some .boolean), .methodLink RX4 94 yX4_memoryAt, .instanceMethod yX4_memoryAt, .selects RX4 yX4_memoryAt yX4_memoryAt, .code yX4_memoryAt cX4_memoryAt 4 (some .int), .methodLink RX4 98 yX4_die, .instanceMethod yX4_die, .selects RX4 yX4_die yX4_die, .code yX4_die cX4_die 2 none, .fieldLink RX4 16 "SegmentMergesModel" "inSlot" "[I", .fieldLink RX4 47 "SegmentMergesModel" "lives" "[Z", .fieldLink RX4 19 "SegmentMergesModel" "inRow" "[I"] ++ wsX40)
def wsX4_get : List Cond := .code yX4_get cX4_get 2 (some .int) :: ([.fieldLink RX4 84 "SegmentMergesModel" "thrown" "I", .fieldLink RX4 7 "SegmentMergesModel" "value" "[I", .methodLink RX4 90 yX4_in, .static yX4_in, .initialized RX4, .code yX4_in cX4_in 3 (some .boolean)] ++ wsX40)
def wsX4_next : List Cond := .code yX4_next cX4_next 3 (some .int) :: ([.fieldLink RX4 84 "SegmentMergesModel" "thrown" "I", .fieldLink RX4 7 "SegmentMergesModel" "value" "[I", .methodLink RX4 90 yX4_in, .static yX4_in, .initialized RX4, .code yX4_in cX4_in 3 (some .boolean)] ++ wsX40)
def wsX4_freeSlot : List Cond := .code yX4_freeSlot cX4_freeSlot 2 (some .int) :: ([.fieldLink RX4 28 "SegmentMergesModel" "isUsed" "[Z", .fieldLink RX4 38 "SegmentMergesModel" "rows" "[I"] ++ wsX40)
def wsX4_lay : List Cond := .code yX4_lay cX4_lay 6 none :: ([.fieldLink RX4 38 "SegmentMergesModel" "rows" "[I", .fieldLink RX4 41 "SegmentMergesModel" "rowKey" "[I", .fieldLink RX4 44 "SegmentMergesModel" "rowValue" "[I", .fieldLink RX4 47 "SegmentMergesModel" "lives" "[Z", .fieldLink RX4 16 "SegmentMergesModel" "inSlot" "[I", .fieldLink RX4 19 "SegmentMergesModel" "inRow" "[I"] ++ wsX40)
def wsX4_flush_r1 : List Cond := [Cond.fieldLink RX4 84 "SegmentMergesModel" "thrown" "I", Cond.fieldLink RX4 87 "SegmentMergesModel" "remembered" "I", Cond.fieldLink RX4 102 "SegmentMergesModel" "segments" "I", Cond.fieldLink RX4 35 "SegmentMergesModel" "tier" "[I", Cond.fieldLink RX4 32 "SegmentMergesModel" "number" "[I", Cond.fieldLink RX4 109 "SegmentMergesModel" "numbers" "I", Cond.fieldLink RX4 7 "SegmentMergesModel" "value" "[I", Cond.fieldLink RX4 116 "SegmentMergesModel" "written" "I", Cond.fieldLink RX4 25 "SegmentMergesModel" "order" "[I", Cond.methodLink RX4 105 yX4_freeSlot, Cond.instanceMethod yX4_freeSlot, Cond.selects RX4 yX4_freeSlot yX4_freeSlot, Cond.initialized RX4, Cond.code yX4_freeSlot cX4_freeSlot 2 (some .int), Cond.fieldLink RX4 28 "SegmentMergesModel" "isUsed" "[Z", Cond.fieldLink RX4 38 "SegmentMergesModel" "rows" "[I", Cond.methodLink RX4 94 yX4_memoryAt, Cond.instanceMethod yX4_memoryAt, Cond.selects RX4 yX4_memoryAt yX4_memoryAt, Cond.code yX4_memoryAt cX4_memoryAt 4 (some .int), Cond.fieldLink RX4 22 "SegmentMergesModel" "memory" "[I", Cond.methodLink RX4 112 yX4_lay, Cond.instanceMethod yX4_lay, Cond.selects RX4 yX4_lay yX4_lay]
def wsX4_flush_r2 : List Cond := [Cond.code yX4_lay cX4_lay 6 none, Cond.fieldLink RX4 41 "SegmentMergesModel" "rowKey" "[I", Cond.fieldLink RX4 44 "SegmentMergesModel" "rowValue" "[I", Cond.fieldLink RX4 47 "SegmentMergesModel" "lives" "[Z", Cond.fieldLink RX4 16 "SegmentMergesModel" "inSlot" "[I", Cond.fieldLink RX4 19 "SegmentMergesModel" "inRow" "[I"]
def wsX4_flush : List Cond := .code yX4_flush cX4_flush 3 (some .int) :: ((wsX4_flush_r1 ++ wsX4_flush_r2) ++ wsX40)
def wsX4_livingOf : List Cond := .code yX4_livingOf cX4_livingOf 4 (some .int) :: ([.fieldLink RX4 38 "SegmentMergesModel" "rows" "[I", .fieldLink RX4 47 "SegmentMergesModel" "lives" "[Z"] ++ wsX40)
def wsX4_all : List Cond := .code yX4_all cX4_all 4 (some .int) :: ([.fieldLink RX4 102 "SegmentMergesModel" "segments" "I", .fieldLink RX4 25 "SegmentMergesModel" "order" "[I", .fieldLink RX4 38 "SegmentMergesModel" "rows" "[I", .methodLink RX4 119 yX4_livingOf, .instanceMethod yX4_livingOf, .selects RX4 yX4_livingOf yX4_livingOf, .initialized RX4, .code yX4_livingOf cX4_livingOf 4 (some .int), .fieldLink RX4 47 "SegmentMergesModel" "lives" "[Z"] ++ wsX40)
def wsX4_count : List Cond := .code yX4_count cX4_count 4 (some .int) :: ([.fieldLink RX4 84 "SegmentMergesModel" "thrown" "I", .fieldLink RX4 7 "SegmentMergesModel" "value" "[I", .fieldLink RX4 87 "SegmentMergesModel" "remembered" "I", .fieldLink RX4 102 "SegmentMergesModel" "segments" "I", .fieldLink RX4 116 "SegmentMergesModel" "written" "I", .methodLink RX4 122 yX4_all, .instanceMethod yX4_all, .selects RX4 yX4_all yX4_all, .initialized RX4, .code yX4_all cX4_all 4 (some .int), .fieldLink RX4 25 "SegmentMergesModel" "order" "[I", .fieldLink RX4 38 "SegmentMergesModel" "rows" "[I", .methodLink RX4 119 yX4_livingOf, .instanceMethod yX4_livingOf, .selects RX4 yX4_livingOf yX4_livingOf, .code yX4_livingOf cX4_livingOf 4 (some .int), .fieldLink RX4 47 "SegmentMergesModel" "lives" "[Z"] ++ wsX40)
def wsX4_isPlace : List Cond := .code yX4_isPlace cX4_isPlace 2 (some .boolean) :: ([.fieldLink RX4 102 "SegmentMergesModel" "segments" "I", .methodLink RX4 90 yX4_in, .static yX4_in, .initialized RX4, .code yX4_in cX4_in 3 (some .boolean)] ++ wsX40)
def wsX4_segment : List Cond := .code yX4_segment cX4_segment 4 (some .int) :: ([.fieldLink RX4 84 "SegmentMergesModel" "thrown" "I", .fieldLink RX4 25 "SegmentMergesModel" "order" "[I", .fieldLink RX4 32 "SegmentMergesModel" "number" "[I", .fieldLink RX4 35 "SegmentMergesModel" "tier" "[I", .fieldLink RX4 38 "SegmentMergesModel" "rows" "[I", .fieldLink RX4 130 "SegmentMergesModel" "merged" "I", .fieldLink RX4 133 "SegmentMergesModel" "mergePlace" "I", .methodLink RX4 126 yX4_isPlace, .instanceMethod yX4_isPlace, .selects RX4 yX4_isPlace yX4_isPlace, .initialized RX4, .code yX4_isPlace cX4_isPlace 2 (some .boolean), .fieldLink RX4 102 "SegmentMergesModel" "segments" "I", .methodLink RX4 90 yX4_in, .static yX4_in, .code yX4_in cX4_in 3 (some .boolean), .methodLink RX4 119 yX4_livingOf, .instanceMethod yX4_livingOf, .selects RX4 yX4_livingOf yX4_livingOf, .code yX4_livingOf cX4_livingOf 4 (some .int), .fieldLink RX4 47 "SegmentMergesModel" "lives" "[Z"] ++ wsX40)
def wsX4_row : List Cond := .code yX4_row cX4_row 5 (some .int) :: ([.fieldLink RX4 84 "SegmentMergesModel" "thrown" "I", .fieldLink RX4 38 "SegmentMergesModel" "rows" "[I", .fieldLink RX4 25 "SegmentMergesModel" "order" "[I", .fieldLink RX4 41 "SegmentMergesModel" "rowKey" "[I", .fieldLink RX4 44 "SegmentMergesModel" "rowValue" "[I", .fieldLink RX4 47 "SegmentMergesModel" "lives" "[Z", .methodLink RX4 126 yX4_isPlace, .instanceMethod yX4_isPlace, .selects RX4 yX4_isPlace yX4_isPlace, .initialized RX4, .code yX4_isPlace cX4_isPlace 2 (some .boolean), .fieldLink RX4 102 "SegmentMergesModel" "segments" "I", .methodLink RX4 90 yX4_in, .static yX4_in, .code yX4_in cX4_in 3 (some .boolean)] ++ wsX40)
def wsX4_full : List Cond := .code yX4_full cX4_full 3 (some .int) :: ([.fieldLink RX4 84 "SegmentMergesModel" "thrown" "I", .fieldLink RX4 50 "SegmentMergesModel" "full" "I", .methodLink RX4 90 yX4_in, .static yX4_in, .initialized RX4, .code yX4_in cX4_in 3 (some .boolean)] ++ wsX40)
def wsX4_due : List Cond := .code yX4_due cX4_due 5 (some .int) :: ([.fieldLink RX4 84 "SegmentMergesModel" "thrown" "I", .fieldLink RX4 50 "SegmentMergesModel" "full" "I", .fieldLink RX4 102 "SegmentMergesModel" "segments" "I", .fieldLink RX4 35 "SegmentMergesModel" "tier" "[I", .fieldLink RX4 25 "SegmentMergesModel" "order" "[I"] ++ wsX40)
def wsX4_cheapest : List Cond := .code yX4_cheapest cX4_cheapest 7 (some .int) :: ([.fieldLink RX4 84 "SegmentMergesModel" "thrown" "I", .fieldLink RX4 102 "SegmentMergesModel" "segments" "I", .fieldLink RX4 25 "SegmentMergesModel" "order" "[I", .methodLink RX4 90 yX4_in, .static yX4_in, .initialized RX4, .code yX4_in cX4_in 3 (some .boolean), .methodLink RX4 119 yX4_livingOf, .instanceMethod yX4_livingOf, .selects RX4 yX4_livingOf yX4_livingOf, .code yX4_livingOf cX4_livingOf 4 (some .int), .fieldLink RX4 38 "SegmentMergesModel" "rows" "[I", .fieldLink RX4 47 "SegmentMergesModel" "lives" "[Z"] ++ wsX40)
def wsX4_worst : List Cond := .code yX4_worst cX4_worst 7 (some .int) :: ([.fieldLink RX4 84 "SegmentMergesModel" "thrown" "I", .fieldLink RX4 102 "SegmentMergesModel" "segments" "I", .fieldLink RX4 25 "SegmentMergesModel" "order" "[I", .fieldLink RX4 38 "SegmentMergesModel" "rows" "[I", .methodLink RX4 119 yX4_livingOf, .instanceMethod yX4_livingOf, .selects RX4 yX4_livingOf yX4_livingOf, .initialized RX4, .code yX4_livingOf cX4_livingOf 4 (some .int), .fieldLink RX4 47 "SegmentMergesModel" "lives" "[Z"] ++ wsX40)
def wsX4_slotOf : List Cond := .code yX4_slotOf cX4_slotOf 2 (some .int) :: ([.fieldLink RX4 25 "SegmentMergesModel" "order" "[I", .fieldLink RX4 133 "SegmentMergesModel" "mergePlace" "I"] ++ wsX40)
def wsX4_left : List Cond := .code yX4_left cX4_left 3 (some .int) :: ([.fieldLink RX4 130 "SegmentMergesModel" "merged" "I", .fieldLink RX4 38 "SegmentMergesModel" "rows" "[I", .fieldLink RX4 54 "SegmentMergesModel" "at" "[I", .methodLink RX4 145 yX4_slotOf, .instanceMethod yX4_slotOf, .selects RX4 yX4_slotOf yX4_slotOf, .initialized RX4, .code yX4_slotOf cX4_slotOf 2 (some .int), .fieldLink RX4 25 "SegmentMergesModel" "order" "[I", .fieldLink RX4 133 "SegmentMergesModel" "mergePlace" "I"] ++ wsX40)
def wsX4_begin_r1 : List Cond := [Cond.fieldLink RX4 84 "SegmentMergesModel" "thrown" "I", Cond.fieldLink RX4 102 "SegmentMergesModel" "segments" "I", Cond.fieldLink RX4 130 "SegmentMergesModel" "merged" "I", Cond.fieldLink RX4 133 "SegmentMergesModel" "mergePlace" "I", Cond.fieldLink RX4 136 "SegmentMergesModel" "taken" "I", Cond.fieldLink RX4 139 "SegmentMergesModel" "wrote" "I", Cond.fieldLink RX4 54 "SegmentMergesModel" "at" "[I", Cond.methodLink RX4 126 yX4_isPlace, Cond.instanceMethod yX4_isPlace, Cond.selects RX4 yX4_isPlace yX4_isPlace, Cond.initialized RX4, Cond.code yX4_isPlace cX4_isPlace 2 (some .boolean), Cond.methodLink RX4 90 yX4_in, Cond.static yX4_in, Cond.code yX4_in cX4_in 3 (some .boolean), Cond.methodLink RX4 142 yX4_left, Cond.instanceMethod yX4_left, Cond.selects RX4 yX4_left yX4_left, Cond.code yX4_left cX4_left 3 (some .int), Cond.fieldLink RX4 38 "SegmentMergesModel" "rows" "[I", Cond.methodLink RX4 145 yX4_slotOf, Cond.instanceMethod yX4_slotOf, Cond.selects RX4 yX4_slotOf yX4_slotOf, Cond.code yX4_slotOf cX4_slotOf 2 (some .int)]
def wsX4_begin_r2 : List Cond := [Cond.fieldLink RX4 25 "SegmentMergesModel" "order" "[I"]
def wsX4_begin : List Cond := .code yX4_begin cX4_begin 4 (some .int) :: ((wsX4_begin_r1 ++ wsX4_begin_r2) ++ wsX40)
def wsX4_keyAt : List Cond := .code yX4_keyAt cX4_keyAt 2 (some .int) :: ([.fieldLink RX4 41 "SegmentMergesModel" "rowKey" "[I", .fieldLink RX4 54 "SegmentMergesModel" "at" "[I", .methodLink RX4 145 yX4_slotOf, .instanceMethod yX4_slotOf, .selects RX4 yX4_slotOf yX4_slotOf, .initialized RX4, .code yX4_slotOf cX4_slotOf 2 (some .int), .fieldLink RX4 25 "SegmentMergesModel" "order" "[I", .fieldLink RX4 133 "SegmentMergesModel" "mergePlace" "I"] ++ wsX40)
def wsX4_takeOne : List Cond := .code yX4_takeOne cX4_takeOne 3 none :: ([.fieldLink RX4 130 "SegmentMergesModel" "merged" "I", .fieldLink RX4 54 "SegmentMergesModel" "at" "[I", .fieldLink RX4 38 "SegmentMergesModel" "rows" "[I", .fieldLink RX4 66 "SegmentMergesModel" "goes" "[I", .fieldLink RX4 47 "SegmentMergesModel" "lives" "[Z", .fieldLink RX4 139 "SegmentMergesModel" "wrote" "I", .fieldLink RX4 57 "SegmentMergesModel" "newKey" "[I", .fieldLink RX4 41 "SegmentMergesModel" "rowKey" "[I", .fieldLink RX4 60 "SegmentMergesModel" "newValue" "[I", .fieldLink RX4 44 "SegmentMergesModel" "rowValue" "[I", .fieldLink RX4 63 "SegmentMergesModel" "newTurn" "[I", .fieldLink RX4 13 "SegmentMergesModel" "turn" "[I", .fieldLink RX4 136 "SegmentMergesModel" "taken" "I", .methodLink RX4 145 yX4_slotOf, .instanceMethod yX4_slotOf, .selects RX4 yX4_slotOf yX4_slotOf, .initialized RX4, .code yX4_slotOf cX4_slotOf 2 (some .int), .fieldLink RX4 25 "SegmentMergesModel" "order" "[I", .fieldLink RX4 133 "SegmentMergesModel" "mergePlace" "I", .methodLink RX4 148 yX4_keyAt, .instanceMethod yX4_keyAt, .selects RX4 yX4_keyAt yX4_keyAt, .code yX4_keyAt cX4_keyAt 2 (some .int)] ++ wsX40)
def wsX4_end_r1 : List Cond := [Cond.fieldLink RX4 130 "SegmentMergesModel" "merged" "I", Cond.fieldLink RX4 157 "SegmentMergesModel" "movedMany" "I", Cond.fieldLink RX4 116 "SegmentMergesModel" "written" "I", Cond.fieldLink RX4 139 "SegmentMergesModel" "wrote" "I", Cond.fieldLink RX4 69 "SegmentMergesModel" "movedNumber" "[I", Cond.fieldLink RX4 32 "SegmentMergesModel" "number" "[I", Cond.fieldLink RX4 72 "SegmentMergesModel" "movedRows" "[I", Cond.fieldLink RX4 38 "SegmentMergesModel" "rows" "[I", Cond.fieldLink RX4 75 "SegmentMergesModel" "movedTo" "[I", Cond.fieldLink RX4 66 "SegmentMergesModel" "goes" "[I", Cond.fieldLink RX4 35 "SegmentMergesModel" "tier" "[I", Cond.fieldLink RX4 28 "SegmentMergesModel" "isUsed" "[Z", Cond.fieldLink RX4 133 "SegmentMergesModel" "mergePlace" "I", Cond.fieldLink RX4 25 "SegmentMergesModel" "order" "[I", Cond.fieldLink RX4 102 "SegmentMergesModel" "segments" "I", Cond.fieldLink RX4 109 "SegmentMergesModel" "numbers" "I", Cond.fieldLink RX4 57 "SegmentMergesModel" "newKey" "[I", Cond.fieldLink RX4 60 "SegmentMergesModel" "newValue" "[I", Cond.fieldLink RX4 13 "SegmentMergesModel" "turn" "[I", Cond.fieldLink RX4 63 "SegmentMergesModel" "newTurn" "[I", Cond.methodLink RX4 145 yX4_slotOf, Cond.instanceMethod yX4_slotOf, Cond.selects RX4 yX4_slotOf yX4_slotOf, Cond.initialized RX4]
def wsX4_end_r2 : List Cond := [Cond.code yX4_slotOf cX4_slotOf 2 (some .int), Cond.methodLink RX4 105 yX4_freeSlot, Cond.instanceMethod yX4_freeSlot, Cond.selects RX4 yX4_freeSlot yX4_freeSlot, Cond.code yX4_freeSlot cX4_freeSlot 2 (some .int), Cond.methodLink RX4 112 yX4_lay, Cond.instanceMethod yX4_lay, Cond.selects RX4 yX4_lay yX4_lay, Cond.code yX4_lay cX4_lay 6 none, Cond.fieldLink RX4 41 "SegmentMergesModel" "rowKey" "[I", Cond.fieldLink RX4 44 "SegmentMergesModel" "rowValue" "[I", Cond.fieldLink RX4 47 "SegmentMergesModel" "lives" "[Z", Cond.fieldLink RX4 16 "SegmentMergesModel" "inSlot" "[I", Cond.fieldLink RX4 19 "SegmentMergesModel" "inRow" "[I"]
def wsX4_end : List Cond := .code yX4_end cX4_end 7 none :: ((wsX4_end_r1 ++ wsX4_end_r2) ++ wsX40)
def wsX4_step_r1 : List Cond := [Cond.fieldLink RX4 84 "SegmentMergesModel" "thrown" "I", Cond.fieldLink RX4 130 "SegmentMergesModel" "merged" "I", Cond.methodLink RX4 90 yX4_in, Cond.static yX4_in, Cond.initialized RX4, Cond.code yX4_in cX4_in 3 (some .boolean), Cond.methodLink RX4 142 yX4_left, Cond.instanceMethod yX4_left, Cond.selects RX4 yX4_left yX4_left, Cond.code yX4_left cX4_left 3 (some .int), Cond.fieldLink RX4 38 "SegmentMergesModel" "rows" "[I", Cond.fieldLink RX4 54 "SegmentMergesModel" "at" "[I", Cond.methodLink RX4 145 yX4_slotOf, Cond.instanceMethod yX4_slotOf, Cond.selects RX4 yX4_slotOf yX4_slotOf, Cond.code yX4_slotOf cX4_slotOf 2 (some .int), Cond.fieldLink RX4 25 "SegmentMergesModel" "order" "[I", Cond.fieldLink RX4 133 "SegmentMergesModel" "mergePlace" "I", Cond.methodLink RX4 151 yX4_takeOne, Cond.instanceMethod yX4_takeOne, Cond.selects RX4 yX4_takeOne yX4_takeOne, Cond.code yX4_takeOne cX4_takeOne 3 none, Cond.fieldLink RX4 66 "SegmentMergesModel" "goes" "[I", Cond.fieldLink RX4 47 "SegmentMergesModel" "lives" "[Z"]
def wsX4_step_r2 : List Cond := [Cond.fieldLink RX4 139 "SegmentMergesModel" "wrote" "I", Cond.fieldLink RX4 57 "SegmentMergesModel" "newKey" "[I", Cond.fieldLink RX4 41 "SegmentMergesModel" "rowKey" "[I", Cond.fieldLink RX4 60 "SegmentMergesModel" "newValue" "[I", Cond.fieldLink RX4 44 "SegmentMergesModel" "rowValue" "[I", Cond.fieldLink RX4 63 "SegmentMergesModel" "newTurn" "[I", Cond.fieldLink RX4 13 "SegmentMergesModel" "turn" "[I", Cond.fieldLink RX4 136 "SegmentMergesModel" "taken" "I", Cond.methodLink RX4 148 yX4_keyAt, Cond.instanceMethod yX4_keyAt, Cond.selects RX4 yX4_keyAt yX4_keyAt, Cond.code yX4_keyAt cX4_keyAt 2 (some .int), Cond.methodLink RX4 154 yX4_end, Cond.instanceMethod yX4_end, Cond.selects RX4 yX4_end yX4_end, Cond.code yX4_end cX4_end 7 none, Cond.fieldLink RX4 157 "SegmentMergesModel" "movedMany" "I", Cond.fieldLink RX4 116 "SegmentMergesModel" "written" "I", Cond.fieldLink RX4 69 "SegmentMergesModel" "movedNumber" "[I", Cond.fieldLink RX4 32 "SegmentMergesModel" "number" "[I", Cond.fieldLink RX4 72 "SegmentMergesModel" "movedRows" "[I", Cond.fieldLink RX4 75 "SegmentMergesModel" "movedTo" "[I", Cond.fieldLink RX4 35 "SegmentMergesModel" "tier" "[I", Cond.fieldLink RX4 28 "SegmentMergesModel" "isUsed" "[Z"]
def wsX4_step_r3 : List Cond := [Cond.fieldLink RX4 102 "SegmentMergesModel" "segments" "I", Cond.fieldLink RX4 109 "SegmentMergesModel" "numbers" "I", Cond.methodLink RX4 105 yX4_freeSlot, Cond.instanceMethod yX4_freeSlot, Cond.selects RX4 yX4_freeSlot yX4_freeSlot, Cond.code yX4_freeSlot cX4_freeSlot 2 (some .int), Cond.methodLink RX4 112 yX4_lay, Cond.instanceMethod yX4_lay, Cond.selects RX4 yX4_lay yX4_lay, Cond.code yX4_lay cX4_lay 6 none, Cond.fieldLink RX4 16 "SegmentMergesModel" "inSlot" "[I", Cond.fieldLink RX4 19 "SegmentMergesModel" "inRow" "[I"]
def wsX4_step : List Cond := .code yX4_step cX4_step 3 (some .int) :: ((wsX4_step_r1 ++ (wsX4_step_r2 ++ wsX4_step_r3)) ++ wsX40)
def wsX4_stop : List Cond := .code yX4_stop cX4_stop 1 (some .int) :: ([.fieldLink RX4 84 "SegmentMergesModel" "thrown" "I", .fieldLink RX4 130 "SegmentMergesModel" "merged" "I", .fieldLink RX4 116 "SegmentMergesModel" "written" "I", .fieldLink RX4 139 "SegmentMergesModel" "wrote" "I", .fieldLink RX4 136 "SegmentMergesModel" "taken" "I"] ++ wsX40)
def wsX4_merging : List Cond := .code yX4_merging cX4_merging 2 (some .int) :: ([.fieldLink RX4 84 "SegmentMergesModel" "thrown" "I", .fieldLink RX4 130 "SegmentMergesModel" "merged" "I", .fieldLink RX4 136 "SegmentMergesModel" "taken" "I", .fieldLink RX4 139 "SegmentMergesModel" "wrote" "I", .fieldLink RX4 133 "SegmentMergesModel" "mergePlace" "I", .methodLink RX4 90 yX4_in, .static yX4_in, .initialized RX4, .code yX4_in cX4_in 3 (some .boolean), .methodLink RX4 142 yX4_left, .instanceMethod yX4_left, .selects RX4 yX4_left yX4_left, .code yX4_left cX4_left 3 (some .int), .fieldLink RX4 38 "SegmentMergesModel" "rows" "[I", .fieldLink RX4 54 "SegmentMergesModel" "at" "[I", .methodLink RX4 145 yX4_slotOf, .instanceMethod yX4_slotOf, .selects RX4 yX4_slotOf yX4_slotOf, .code yX4_slotOf cX4_slotOf 2 (some .int), .fieldLink RX4 25 "SegmentMergesModel" "order" "[I"] ++ wsX40)
def wsX4_moved : List Cond := .code yX4_moved cX4_moved 4 (some .int) :: ([.fieldLink RX4 84 "SegmentMergesModel" "thrown" "I", .fieldLink RX4 157 "SegmentMergesModel" "movedMany" "I", .fieldLink RX4 69 "SegmentMergesModel" "movedNumber" "[I", .fieldLink RX4 72 "SegmentMergesModel" "movedRows" "[I", .fieldLink RX4 75 "SegmentMergesModel" "movedTo" "[I", .methodLink RX4 90 yX4_in, .static yX4_in, .initialized RX4, .code yX4_in cX4_in 3 (some .boolean)] ++ wsX40)
def wsX4_view : List Cond := .code yX4_view cX4_view 3 (some .int) :: ([.fieldLink RX4 84 "SegmentMergesModel" "thrown" "I", .fieldLink RX4 78 "SegmentMergesModel" "isView" "[Z", .fieldLink RX4 81 "SegmentMergesModel" "viewed" "[I", .fieldLink RX4 7 "SegmentMergesModel" "value" "[I"] ++ wsX40)
def wsX4_isOpen : List Cond := .code yX4_isOpen cX4_isOpen 2 (some .boolean) :: ([.fieldLink RX4 78 "SegmentMergesModel" "isView" "[Z", .methodLink RX4 90 yX4_in, .static yX4_in, .initialized RX4, .code yX4_in cX4_in 3 (some .boolean)] ++ wsX40)
def wsX4_seen : List Cond := .code yX4_seen cX4_seen 3 (some .int) :: ([.fieldLink RX4 84 "SegmentMergesModel" "thrown" "I", .fieldLink RX4 81 "SegmentMergesModel" "viewed" "[I", .methodLink RX4 160 yX4_isOpen, .instanceMethod yX4_isOpen, .selects RX4 yX4_isOpen yX4_isOpen, .initialized RX4, .code yX4_isOpen cX4_isOpen 2 (some .boolean), .fieldLink RX4 78 "SegmentMergesModel" "isView" "[Z", .methodLink RX4 90 yX4_in, .static yX4_in, .code yX4_in cX4_in 3 (some .boolean)] ++ wsX40)
def wsX4_shut : List Cond := .code yX4_shut cX4_shut 4 (some .int) :: ([.fieldLink RX4 84 "SegmentMergesModel" "thrown" "I", .fieldLink RX4 78 "SegmentMergesModel" "isView" "[Z", .fieldLink RX4 81 "SegmentMergesModel" "viewed" "[I", .fieldLink RX4 7 "SegmentMergesModel" "value" "[I", .methodLink RX4 160 yX4_isOpen, .instanceMethod yX4_isOpen, .selects RX4 yX4_isOpen yX4_isOpen, .initialized RX4, .code yX4_isOpen cX4_isOpen 2 (some .boolean), .methodLink RX4 90 yX4_in, .static yX4_in, .code yX4_in cX4_in 3 (some .boolean)] ++ wsX40)
def wsX4_share : List Cond := .code yX4_share cX4_share 2 (some .int) :: ([.fieldLink RX4 84 "SegmentMergesModel" "thrown" "I", .methodLink RX4 122 yX4_all, .instanceMethod yX4_all, .selects RX4 yX4_all yX4_all, .initialized RX4, .code yX4_all cX4_all 4 (some .int), .fieldLink RX4 102 "SegmentMergesModel" "segments" "I", .fieldLink RX4 25 "SegmentMergesModel" "order" "[I", .fieldLink RX4 38 "SegmentMergesModel" "rows" "[I", .methodLink RX4 119 yX4_livingOf, .instanceMethod yX4_livingOf, .selects RX4 yX4_livingOf yX4_livingOf, .code yX4_livingOf cX4_livingOf 4 (some .int), .fieldLink RX4 47 "SegmentMergesModel" "lives" "[Z"] ++ wsX40)
def wsJ9_max_7cf53 : List Cond := .code yJ9_max_7cf53 cJ9_max_7cf53 2 (some .int) :: ([])
def wsL_share : List Cond := .codeWith yL_share cL_share 3 (some .int) [(0, 8, 11, 13)] :: ([.classLink RL 13 "java/lang/ArithmeticException", .methodLink RL 7 yX3_share, .instanceMethod yX3_share, .selects RX3 yX3_share yX3_share, .initialized RX3, .code yX3_share cX3_share 2 (some .int), .classLink RX3 174 "java/lang/ArithmeticException", .initialized "java/lang/ArithmeticException", .fieldLink RX3 26 "SegmentMerges" "segmentCount" "I", .methodLink RX3 94 yX3_rowsInSegments, .instanceMethod yX3_rowsInSegments, .selects RX3 yX3_rowsInSegments yX3_rowsInSegments, .code yX3_rowsInSegments cX3_rowsInSegments 3 (some .int), .fieldLink RX3 22 "SegmentMerges" "segments" "[LSegmentMerges$Segment;", .fieldLink RX3 90 "SegmentMerges$Segment" "size" "I", .methodLink RX3 98 yX3_livingFrom, .instanceMethod yX3_livingFrom, .selects RX3 yX3_livingFrom yX3_livingFrom, .code yX3_livingFrom cX3_livingFrom 5 (some .int), .fieldLink RX3 108 "SegmentMerges$Segment" "living" "I"] ++ wsX30 ++ wsX20 ++ (vx_atS RX3 178 "java/lang/ArithmeticException" ["java/lang/RuntimeException", "java/lang/Exception"]).filter goodWord)
def wsL_law0_r1 : List Cond := [Cond.classLink RL 8 RX3, Cond.instantiable RX3 11, Cond.initialized RX3, Cond.classLink RL 16 RX4, Cond.instantiable RX4 34, Cond.initialized RX4, Cond.arrayClass .long, Cond.methodLink RL 15 yX3_init, Cond.instanceMethod yX3_init, Cond.code yX3_init cX3_init 1 none, Cond.methodLink RX3 1 objectInit, Cond.instanceMethod objectInit, Cond.code objectInit ⟨#[0xb1]⟩ 1 none, Cond.arrayClass .int, Cond.fieldLink RX3 9 "SegmentMerges" "valueOf" "[I", Cond.classLink RX3 13 RX0, Cond.instantiable RX0 3, Cond.initialized RX0, Cond.fieldLink RX3 16 "SegmentMerges" "memory" "LSegmentMerges$Memory;", Cond.classLink RX3 20 RX2, Cond.fieldLink RX3 22 "SegmentMerges" "segments" "[LSegmentMerges$Segment;", Cond.fieldLink RX3 26 "SegmentMerges" "segmentCount" "I", Cond.fieldLink RX3 30 "SegmentMerges" "nextNumber" "I", Cond.fieldLink RX3 33 "SegmentMerges" "writtenRows" "I"]
def wsL_law0_r2 : List Cond := [Cond.fieldLink RX3 36 "SegmentMerges" "fullSize" "I", Cond.fieldLink RX3 39 "SegmentMerges" "current" "LSegmentMerges$Merge;", Cond.fieldLink RX3 43 "SegmentMerges" "ended" "LSegmentMerges$Merge;", Cond.classLink RX3 46 "[[I", Cond.fieldLink RX3 48 "SegmentMerges" "viewed" "[[I", Cond.arrayClass .boolean, Cond.fieldLink RX3 51 "SegmentMerges" "viewOpen" "[Z", Cond.instanceMethod yX0_init, Cond.code yX0_init cX0_init 1 none, Cond.methodLink RX0 3 objectInit, Cond.fieldLink RX0 9 "SegmentMerges$Memory" "keys" "[I", Cond.fieldLink RX0 15 "SegmentMerges$Memory" "values" "[I", Cond.fieldLink RX0 18 "SegmentMerges$Memory" "size" "I", Cond.methodLink RX3 55 yJ7_fill_53178, Cond.static yJ7_fill_53178, Cond.initialized RJ7, Cond.code yJ7_fill_53178 cJ7_fill_53178 4 none, Cond.methodLink RL 18 yX4_init, Cond.instanceMethod yX4_init, Cond.code yX4_init cX4_init 2 none, Cond.methodLink RX4 1 objectInit, Cond.fieldLink RX4 7 "SegmentMergesModel" "value" "[I", Cond.fieldLink RX4 13 "SegmentMergesModel" "turn" "[I", Cond.fieldLink RX4 16 "SegmentMergesModel" "inSlot" "[I"]
def wsL_law0_r3 : List Cond := [Cond.fieldLink RX4 19 "SegmentMergesModel" "inRow" "[I", Cond.fieldLink RX4 22 "SegmentMergesModel" "memory" "[I", Cond.fieldLink RX4 25 "SegmentMergesModel" "order" "[I", Cond.fieldLink RX4 28 "SegmentMergesModel" "isUsed" "[Z", Cond.fieldLink RX4 32 "SegmentMergesModel" "number" "[I", Cond.fieldLink RX4 35 "SegmentMergesModel" "tier" "[I", Cond.fieldLink RX4 38 "SegmentMergesModel" "rows" "[I", Cond.fieldLink RX4 41 "SegmentMergesModel" "rowKey" "[I", Cond.fieldLink RX4 44 "SegmentMergesModel" "rowValue" "[I", Cond.fieldLink RX4 47 "SegmentMergesModel" "lives" "[Z", Cond.fieldLink RX4 50 "SegmentMergesModel" "full" "I", Cond.fieldLink RX4 54 "SegmentMergesModel" "at" "[I", Cond.fieldLink RX4 57 "SegmentMergesModel" "newKey" "[I", Cond.fieldLink RX4 60 "SegmentMergesModel" "newValue" "[I", Cond.fieldLink RX4 63 "SegmentMergesModel" "newTurn" "[I", Cond.fieldLink RX4 66 "SegmentMergesModel" "goes" "[I", Cond.fieldLink RX4 69 "SegmentMergesModel" "movedNumber" "[I", Cond.fieldLink RX4 72 "SegmentMergesModel" "movedRows" "[I", Cond.fieldLink RX4 75 "SegmentMergesModel" "movedTo" "[I", Cond.fieldLink RX4 78 "SegmentMergesModel" "isView" "[Z", Cond.fieldLink RX4 81 "SegmentMergesModel" "viewed" "[I", Cond.methodLink RL 19 yX3_put, Cond.instanceMethod yX3_put, Cond.selects RX3 yX3_put yX3_put]
def wsL_law0_r4 : List Cond := [Cond.code yX3_put cX3_put 4 (some .int), Cond.fieldLink RX3 69 "SegmentMerges$Memory" "size" "I", Cond.fieldLink RX3 80 "SegmentMerges$Memory" "values" "[I", Cond.methodLink RX3 61 yX3_isKey, Cond.static yX3_isKey, Cond.code yX3_isKey cX3_isKey 1 (some .boolean), Cond.methodLink RX3 65 yX0_find, Cond.instanceMethod yX0_find, Cond.selects RX0 yX0_find yX0_find, Cond.code yX0_find cX0_find 3 (some .int), Cond.methodLink RX3 72 yX3_killRowOf, Cond.instanceMethod yX3_killRowOf, Cond.selects RX3 yX3_killRowOf yX3_killRowOf, Cond.code yX3_killRowOf cX3_killRowOf 3 none, Cond.methodLink RX3 181 yX2_kill, Cond.instanceMethod yX2_kill, Cond.selects RX2 yX2_kill yX2_kill, Cond.initialized RX2, Cond.code yX2_kill cX2_kill 3 none, Cond.fieldLink RX2 19 "SegmentMerges$Segment" "size" "I", Cond.fieldLink RX2 22 "SegmentMerges$Segment" "keys" "[I", Cond.fieldLink RX2 29 "SegmentMerges$Segment" "lives" "[Z", Cond.fieldLink RX2 7 "SegmentMerges$Segment" "living" "I", Cond.methodLink RX3 76 yX0_append]
def wsL_law0_r5 : List Cond := [Cond.instanceMethod yX0_append, Cond.selects RX0 yX0_append yX0_append, Cond.code yX0_append cX0_append 3 none, Cond.methodLink RL 23 yX4_put, Cond.instanceMethod yX4_put, Cond.selects RX4 yX4_put yX4_put, Cond.code yX4_put cX4_put 3 (some .int), Cond.fieldLink RX4 84 "SegmentMergesModel" "thrown" "I", Cond.fieldLink RX4 87 "SegmentMergesModel" "remembered" "I", Cond.methodLink RX4 90 yX4_in, Cond.static yX4_in, Cond.code yX4_in cX4_in 3 (some .boolean), Cond.methodLink RX4 94 yX4_memoryAt, Cond.instanceMethod yX4_memoryAt, Cond.selects RX4 yX4_memoryAt yX4_memoryAt, Cond.code yX4_memoryAt cX4_memoryAt 4 (some .int), Cond.methodLink RX4 98 yX4_die, Cond.instanceMethod yX4_die, Cond.selects RX4 yX4_die yX4_die, Cond.code yX4_die cX4_die 2 none, Cond.methodLink RL 24 yX3_drop, Cond.instanceMethod yX3_drop, Cond.selects RX3 yX3_drop yX3_drop, Cond.code yX3_drop cX3_drop 3 (some .int)]
def wsL_law0_r6 : List Cond := [Cond.methodLink RX3 83 yX0_removeAt, Cond.instanceMethod yX0_removeAt, Cond.selects RX0 yX0_removeAt yX0_removeAt, Cond.code yX0_removeAt cX0_removeAt 3 none, Cond.methodLink RL 28 yX4_drop, Cond.instanceMethod yX4_drop, Cond.selects RX4 yX4_drop yX4_drop, Cond.code yX4_drop cX4_drop 4 (some .int), Cond.methodLink RL 29 yX3_get, Cond.instanceMethod yX3_get, Cond.selects RX3 yX3_get yX3_get, Cond.code yX3_get cX3_get 2 (some .int), Cond.methodLink RL 32 yX4_get, Cond.instanceMethod yX4_get, Cond.selects RX4 yX4_get yX4_get, Cond.code yX4_get cX4_get 2 (some .int), Cond.methodLink RL 33 yX3_next, Cond.instanceMethod yX3_next, Cond.selects RX3 yX3_next yX3_next, Cond.code yX3_next cX3_next 3 (some .int), Cond.methodLink RL 36 yX4_next, Cond.instanceMethod yX4_next, Cond.selects RX4 yX4_next yX4_next, Cond.code yX4_next cX4_next 3 (some .int)]
def wsL_law0_r7 : List Cond := [Cond.methodLink RL 37 yX3_flush, Cond.instanceMethod yX3_flush, Cond.selects RX3 yX3_flush yX3_flush, Cond.code yX3_flush cX3_flush 2 (some .int), Cond.fieldLink RX3 90 "SegmentMerges$Segment" "size" "I", Cond.fieldLink RX3 91 "SegmentMerges$Segment" "number" "I", Cond.methodLink RX3 86 yX0_asSegment, Cond.instanceMethod yX0_asSegment, Cond.selects RX0 yX0_asSegment yX0_asSegment, Cond.code yX0_asSegment cX0_asSegment 4 (some (.object "SegmentMerges$Segment")), Cond.classLink RX0 22 RX2, Cond.instantiable RX2 8, Cond.methodLink RX0 24 yX2_init, Cond.instanceMethod yX2_init, Cond.code yX2_init cX2_init 4 none, Cond.methodLink RX2 1 objectInit, Cond.fieldLink RX2 13 "SegmentMerges$Segment" "number" "I", Cond.fieldLink RX2 16 "SegmentMerges$Segment" "tier" "I", Cond.fieldLink RX2 26 "SegmentMerges$Segment" "values" "[I", Cond.fieldLink RX2 33 "SegmentMerges$Segment" "wentTo" "[I", Cond.methodLink RX0 27 yX0_rankOf, Cond.instanceMethod yX0_rankOf, Cond.selects RX0 yX0_rankOf yX0_rankOf, Cond.code yX0_rankOf cX0_rankOf 4 (some .int)]
def wsL_law0_r8 : List Cond := [Cond.methodLink RX0 31 yX2_write, Cond.instanceMethod yX2_write, Cond.selects RX2 yX2_write yX2_write, Cond.code yX2_write cX2_write 5 none, Cond.methodLink RL 40 yX4_flush, Cond.instanceMethod yX4_flush, Cond.selects RX4 yX4_flush yX4_flush, Cond.code yX4_flush cX4_flush 3 (some .int), Cond.fieldLink RX4 102 "SegmentMergesModel" "segments" "I", Cond.fieldLink RX4 109 "SegmentMergesModel" "numbers" "I", Cond.fieldLink RX4 116 "SegmentMergesModel" "written" "I", Cond.methodLink RX4 105 yX4_freeSlot, Cond.instanceMethod yX4_freeSlot, Cond.selects RX4 yX4_freeSlot yX4_freeSlot, Cond.code yX4_freeSlot cX4_freeSlot 2 (some .int), Cond.methodLink RX4 112 yX4_lay, Cond.instanceMethod yX4_lay, Cond.selects RX4 yX4_lay yX4_lay, Cond.code yX4_lay cX4_lay 6 none, Cond.methodLink RL 41 yX3_count, Cond.instanceMethod yX3_count, Cond.selects RX3 yX3_count yX3_count, Cond.code yX3_count cX3_count 2 (some .int), Cond.methodLink RX3 94 yX3_rowsInSegments]
def wsL_law0_r9 : List Cond := [Cond.instanceMethod yX3_rowsInSegments, Cond.selects RX3 yX3_rowsInSegments yX3_rowsInSegments, Cond.code yX3_rowsInSegments cX3_rowsInSegments 3 (some .int), Cond.methodLink RX3 98 yX3_livingFrom, Cond.instanceMethod yX3_livingFrom, Cond.selects RX3 yX3_livingFrom yX3_livingFrom, Cond.code yX3_livingFrom cX3_livingFrom 5 (some .int), Cond.fieldLink RX3 108 "SegmentMerges$Segment" "living" "I", Cond.methodLink RL 44 yX4_count, Cond.instanceMethod yX4_count, Cond.selects RX4 yX4_count yX4_count, Cond.code yX4_count cX4_count 4 (some .int), Cond.methodLink RX4 122 yX4_all, Cond.instanceMethod yX4_all, Cond.selects RX4 yX4_all yX4_all, Cond.code yX4_all cX4_all 4 (some .int), Cond.methodLink RX4 119 yX4_livingOf, Cond.instanceMethod yX4_livingOf, Cond.selects RX4 yX4_livingOf yX4_livingOf, Cond.code yX4_livingOf cX4_livingOf 4 (some .int), Cond.methodLink RL 45 yX3_segment, Cond.instanceMethod yX3_segment, Cond.selects RX3 yX3_segment yX3_segment, Cond.code yX3_segment cX3_segment 4 (some .int)]
def wsL_law0_r10 : List Cond := [Cond.fieldLink RX3 105 "SegmentMerges$Segment" "tier" "I", Cond.methodLink RX3 102 yX3_isPlace, Cond.instanceMethod yX3_isPlace, Cond.selects RX3 yX3_isPlace yX3_isPlace, Cond.code yX3_isPlace cX3_isPlace 2 (some .boolean), Cond.methodLink RX3 111 yX1_isOf, Cond.instanceMethod yX1_isOf, Cond.selects RX1 yX1_isOf yX1_isOf, Cond.initialized RX1, Cond.code yX1_isOf cX1_isOf 2 (some .boolean), Cond.fieldLink RX1 21 "SegmentMerges$Merge" "place" "I", Cond.fieldLink RX1 26 "SegmentMerges$Merge" "sources" "[LSegmentMerges$Segment;", Cond.methodLink RL 48 yX4_segment, Cond.instanceMethod yX4_segment, Cond.selects RX4 yX4_segment yX4_segment, Cond.code yX4_segment cX4_segment 4 (some .int), Cond.fieldLink RX4 130 "SegmentMergesModel" "merged" "I", Cond.fieldLink RX4 133 "SegmentMergesModel" "mergePlace" "I", Cond.methodLink RX4 126 yX4_isPlace, Cond.instanceMethod yX4_isPlace, Cond.selects RX4 yX4_isPlace yX4_isPlace, Cond.code yX4_isPlace cX4_isPlace 2 (some .boolean), Cond.methodLink RL 49 yX3_row, Cond.instanceMethod yX3_row]
def wsL_law0_r11 : List Cond := [Cond.selects RX3 yX3_row yX3_row, Cond.code yX3_row cX3_row 5 (some .int), Cond.fieldLink RX3 119 "SegmentMerges$Segment" "keys" "[I", Cond.fieldLink RX3 122 "SegmentMerges$Segment" "values" "[I", Cond.fieldLink RX3 123 "SegmentMerges$Segment" "lives" "[Z", Cond.methodLink RX3 116 yX2_hasRow, Cond.instanceMethod yX2_hasRow, Cond.selects RX2 yX2_hasRow yX2_hasRow, Cond.code yX2_hasRow cX2_hasRow 2 (some .boolean), Cond.methodLink RL 53 yX4_row, Cond.instanceMethod yX4_row, Cond.selects RX4 yX4_row yX4_row, Cond.code yX4_row cX4_row 5 (some .int), Cond.methodLink RL 54 yX3_full, Cond.instanceMethod yX3_full, Cond.selects RX3 yX3_full yX3_full, Cond.code yX3_full cX3_full 3 (some .int), Cond.methodLink RL 57 yX4_full, Cond.instanceMethod yX4_full, Cond.selects RX4 yX4_full yX4_full, Cond.code yX4_full cX4_full 3 (some .int), Cond.methodLink RL 58 yX3_due, Cond.instanceMethod yX3_due, Cond.selects RX3 yX3_due yX3_due]
def wsL_law0_r12 : List Cond := [Cond.code yX3_due cX3_due 3 (some .int), Cond.methodLink RX3 126 yX3_isOfOneTier, Cond.instanceMethod yX3_isOfOneTier, Cond.selects RX3 yX3_isOfOneTier yX3_isOfOneTier, Cond.code yX3_isOfOneTier cX3_isOfOneTier 4 (some .boolean), Cond.methodLink RL 61 yX4_due, Cond.instanceMethod yX4_due, Cond.selects RX4 yX4_due yX4_due, Cond.code yX4_due cX4_due 5 (some .int), Cond.methodLink RL 62 yX3_cheapest, Cond.instanceMethod yX3_cheapest, Cond.selects RX3 yX3_cheapest yX3_cheapest, Cond.code yX3_cheapest cX3_cheapest 6 (some .int), Cond.methodLink RX3 130 yX3_canBeMerged, Cond.static yX3_canBeMerged, Cond.code yX3_canBeMerged cX3_canBeMerged 1 (some .boolean), Cond.methodLink RL 65 yX4_cheapest, Cond.instanceMethod yX4_cheapest, Cond.selects RX4 yX4_cheapest yX4_cheapest, Cond.code yX4_cheapest cX4_cheapest 7 (some .int), Cond.methodLink RL 66 yX3_worst, Cond.instanceMethod yX3_worst, Cond.selects RX3 yX3_worst yX3_worst, Cond.code yX3_worst cX3_worst 3 (some .int)]
def wsL_law0_r13 : List Cond := [Cond.methodLink RX3 133 yX2_isDeaderThan, Cond.instanceMethod yX2_isDeaderThan, Cond.selects RX2 yX2_isDeaderThan yX2_isDeaderThan, Cond.code yX2_isDeaderThan cX2_isDeaderThan 2 (some .boolean), Cond.methodLink RL 69 yX4_worst, Cond.instanceMethod yX4_worst, Cond.selects RX4 yX4_worst yX4_worst, Cond.code yX4_worst cX4_worst 7 (some .int), Cond.methodLink RL 70 yX3_begin, Cond.instanceMethod yX3_begin, Cond.selects RX3 yX3_begin yX3_begin, Cond.code yX3_begin cX3_begin 3 (some .int), Cond.classLink RX3 112 RX1, Cond.instantiable RX1 6, Cond.fieldLink RX3 140 "SegmentMerges$Merge" "left" "I", Cond.methodLink RX3 137 yX1_init, Cond.instanceMethod yX1_init, Cond.code yX1_init cX1_init 5 none, Cond.methodLink RX1 3 objectInit, Cond.fieldLink RX1 9 "SegmentMerges$Merge" "taken" "I", Cond.fieldLink RX1 15 "SegmentMerges$Merge" "written" "I", Cond.fieldLink RX1 18 "SegmentMerges$Merge" "left" "I", Cond.classLink RX1 24 RX2, Cond.fieldLink RX1 30 "SegmentMerges$Merge" "takenOf" "[I"]
def wsL_law0_r14 : List Cond := [Cond.fieldLink RX1 34 "SegmentMerges$Segment" "size" "I", Cond.methodLink RL 73 yX4_begin, Cond.instanceMethod yX4_begin, Cond.selects RX4 yX4_begin yX4_begin, Cond.code yX4_begin cX4_begin 4 (some .int), Cond.fieldLink RX4 136 "SegmentMergesModel" "taken" "I", Cond.fieldLink RX4 139 "SegmentMergesModel" "wrote" "I", Cond.methodLink RX4 142 yX4_left, Cond.instanceMethod yX4_left, Cond.selects RX4 yX4_left yX4_left, Cond.code yX4_left cX4_left 3 (some .int), Cond.methodLink RX4 145 yX4_slotOf, Cond.instanceMethod yX4_slotOf, Cond.selects RX4 yX4_slotOf yX4_slotOf, Cond.code yX4_slotOf cX4_slotOf 2 (some .int), Cond.methodLink RL 74 yX3_step, Cond.instanceMethod yX3_step, Cond.selects RX3 yX3_step yX3_step, Cond.code yX3_step cX3_step 3 (some .int), Cond.methodLink RX3 143 yX1_takeOne, Cond.instanceMethod yX1_takeOne, Cond.selects RX1 yX1_takeOne yX1_takeOne, Cond.code yX1_takeOne cX1_takeOne 4 none, Cond.fieldLink RX1 44 "SegmentMerges$Segment" "lives" "[Z"]
def wsL_law0_r15 : List Cond := [Cond.fieldLink RX1 48 "SegmentMerges$Segment" "wentTo" "[I", Cond.methodLink RX1 40 yX1_sourceOfLeastKey, Cond.instanceMethod yX1_sourceOfLeastKey, Cond.selects RX1 yX1_sourceOfLeastKey yX1_sourceOfLeastKey, Cond.code yX1_sourceOfLeastKey cX1_sourceOfLeastKey 4 (some .int), Cond.fieldLink RX1 51 "SegmentMerges$Segment" "keys" "[I", Cond.methodLink RX3 146 yX3_endMerge, Cond.instanceMethod yX3_endMerge, Cond.selects RX3 yX3_endMerge yX3_endMerge, Cond.code yX3_endMerge cX3_endMerge 3 none, Cond.fieldLink RX3 153 "SegmentMerges$Merge" "written" "I", Cond.fieldLink RX3 156 "SegmentMerges$Merge" "place" "I", Cond.fieldLink RX3 185 "SegmentMerges$Merge" "sources" "[LSegmentMerges$Segment;", Cond.methodLink RX3 184 yX1_asSegment, Cond.instanceMethod yX1_asSegment, Cond.selects RX1 yX1_asSegment yX1_asSegment, Cond.code yX1_asSegment cX1_asSegment 6 (some (.object "SegmentMerges$Segment")), Cond.fieldLink RX1 60 "SegmentMerges$Segment" "values" "[I", Cond.methodLink RX1 54 yX1_greatestTier, Cond.instanceMethod yX1_greatestTier, Cond.selects RX1 yX1_greatestTier yX1_greatestTier, Cond.code yX1_greatestTier cX1_greatestTier 3 (some .int), Cond.fieldLink RX1 67 "SegmentMerges$Segment" "tier" "I", Cond.methodLink RX1 70 Lib.Math.max.name]
def wsL_law0_r16 : List Cond := [Cond.static Lib.Math.max.name, Cond.initialized "java/lang/Math", Cond.code Lib.Math.max.name Lib.Math.max.code 2 (some .int), Cond.methodLink RX1 57 yX2_init, Cond.methodLink RX1 63 yX2_write, Cond.methodLink RX3 188 yX3_closeGap, Cond.instanceMethod yX3_closeGap, Cond.selects RX3 yX3_closeGap yX3_closeGap, Cond.code yX3_closeGap cX3_closeGap 4 none, Cond.methodLink RL 77 yX4_step, Cond.instanceMethod yX4_step, Cond.selects RX4 yX4_step yX4_step, Cond.code yX4_step cX4_step 3 (some .int), Cond.methodLink RX4 151 yX4_takeOne, Cond.instanceMethod yX4_takeOne, Cond.selects RX4 yX4_takeOne yX4_takeOne, Cond.code yX4_takeOne cX4_takeOne 3 none, Cond.methodLink RX4 148 yX4_keyAt, Cond.instanceMethod yX4_keyAt, Cond.selects RX4 yX4_keyAt yX4_keyAt, Cond.code yX4_keyAt cX4_keyAt 2 (some .int), Cond.methodLink RX4 154 yX4_end, Cond.instanceMethod yX4_end, Cond.selects RX4 yX4_end yX4_end]
def wsL_law0_r17 : List Cond := [Cond.code yX4_end cX4_end 7 none, Cond.fieldLink RX4 157 "SegmentMergesModel" "movedMany" "I", Cond.methodLink RL 78 yX3_stop, Cond.instanceMethod yX3_stop, Cond.selects RX3 yX3_stop yX3_stop, Cond.code yX3_stop cX3_stop 2 (some .int), Cond.fieldLink RX3 150 "SegmentMerges$Merge" "taken" "I", Cond.methodLink RL 81 yX4_stop, Cond.instanceMethod yX4_stop, Cond.selects RX4 yX4_stop yX4_stop, Cond.code yX4_stop cX4_stop 1 (some .int), Cond.methodLink RL 82 yX3_merging, Cond.instanceMethod yX3_merging, Cond.selects RX3 yX3_merging yX3_merging, Cond.code yX3_merging cX3_merging 2 (some .int), Cond.methodLink RL 85 yX4_merging, Cond.instanceMethod yX4_merging, Cond.selects RX4 yX4_merging yX4_merging, Cond.code yX4_merging cX4_merging 2 (some .int), Cond.methodLink RL 86 yX3_moved, Cond.instanceMethod yX3_moved, Cond.selects RX3 yX3_moved yX3_moved, Cond.code yX3_moved cX3_moved 4 (some .int), Cond.fieldLink RX3 162 "SegmentMerges$Segment" "wentTo" "[I"]
def wsL_law0_r18 : List Cond := [Cond.methodLink RX3 159 yX1_sourceOf, Cond.instanceMethod yX1_sourceOf, Cond.selects RX1 yX1_sourceOf yX1_sourceOf, Cond.code yX1_sourceOf cX1_sourceOf 3 (some (.object "SegmentMerges$Segment")), Cond.fieldLink RX1 37 "SegmentMerges$Segment" "number" "I", Cond.methodLink RL 89 yX4_moved, Cond.instanceMethod yX4_moved, Cond.selects RX4 yX4_moved yX4_moved, Cond.code yX4_moved cX4_moved 4 (some .int), Cond.methodLink RL 90 yX3_view, Cond.instanceMethod yX3_view, Cond.selects RX3 yX3_view yX3_view, Cond.code yX3_view cX3_view 2 (some .int), Cond.methodLink RX3 165 arraycopyName, Cond.native arraycopyName, Cond.static arraycopyName, Cond.initialized "java/lang/System", Cond.methodLink RL 93 yX4_view, Cond.instanceMethod yX4_view, Cond.selects RX4 yX4_view yX4_view, Cond.code yX4_view cX4_view 3 (some .int), Cond.methodLink RL 94 yX3_seen, Cond.instanceMethod yX3_seen, Cond.selects RX3 yX3_seen yX3_seen]
def wsL_law0_r19 : List Cond := [Cond.code yX3_seen cX3_seen 4 (some .int), Cond.methodLink RX3 171 yX3_isOpenView, Cond.instanceMethod yX3_isOpenView, Cond.selects RX3 yX3_isOpenView yX3_isOpenView, Cond.code yX3_isOpenView cX3_isOpenView 2 (some .boolean), Cond.methodLink RL 97 yX4_seen, Cond.instanceMethod yX4_seen, Cond.selects RX4 yX4_seen yX4_seen, Cond.code yX4_seen cX4_seen 3 (some .int), Cond.methodLink RX4 160 yX4_isOpen, Cond.instanceMethod yX4_isOpen, Cond.selects RX4 yX4_isOpen yX4_isOpen, Cond.code yX4_isOpen cX4_isOpen 2 (some .boolean), Cond.methodLink RL 98 yX3_shut, Cond.instanceMethod yX3_shut, Cond.selects RX3 yX3_shut yX3_shut, Cond.code yX3_shut cX3_shut 4 (some .int), Cond.methodLink RL 101 yX4_shut, Cond.instanceMethod yX4_shut, Cond.selects RX4 yX4_shut yX4_shut, Cond.code yX4_shut cX4_shut 4 (some .int), Cond.methodLink RL 102 yL_share, Cond.static yL_share, Cond.initialized RL]
def wsL_law0_r20 : List Cond := [Cond.codeWith yL_share cL_share 3 (some .int) [(0, 8, 11, 13)], Cond.classLink RL 13 "java/lang/ArithmeticException", Cond.methodLink RL 7 yX3_share, Cond.instanceMethod yX3_share, Cond.selects RX3 yX3_share yX3_share, Cond.code yX3_share cX3_share 2 (some .int), Cond.classLink RX3 174 "java/lang/ArithmeticException", Cond.initialized "java/lang/ArithmeticException", Cond.methodLink RL 107 yX4_share, Cond.instanceMethod yX4_share, Cond.selects RX4 yX4_share yX4_share, Cond.code yX4_share cX4_share 2 (some .int), Cond.methodLink RL 108 yX4_thrown, Cond.instanceMethod yX4_thrown, Cond.selects RX4 yX4_thrown yX4_thrown, Cond.code yX4_thrown cX4_thrown 1 (some .int)]
def wsL_law0 : List Cond := (wsL_law0_r1 ++ (wsL_law0_r2 ++ (wsL_law0_r3 ++ (wsL_law0_r4 ++ (wsL_law0_r5 ++ (wsL_law0_r6 ++ (wsL_law0_r7 ++ (wsL_law0_r8 ++ (wsL_law0_r9 ++ (wsL_law0_r10 ++ (wsL_law0_r11 ++ (wsL_law0_r12 ++ (wsL_law0_r13 ++ (wsL_law0_r14 ++ (wsL_law0_r15 ++ (wsL_law0_r16 ++ (wsL_law0_r17 ++ (wsL_law0_r18 ++ (wsL_law0_r19 ++ wsL_law0_r20))))))))))))))))))) ++ wsX30 ++ wsX40 ++ wsX00 ++ wsX20 ++ wsX10 ++ ([] : List Cond)
def wsL_law : List Cond := wsL_law0 ++ (vx_atS RX3 178 "java/lang/ArithmeticException" ["java/lang/RuntimeException", "java/lang/Exception"]).filter goodWord
set_option maxRecDepth 20000 in
theorem wsL_law_in0 : ∀ w ∈ wsL_law0, w ∈ lw_tbl := fun w h => (goodIn_p wsL_law0 [42, 45, 50, 71, 448, 110, 113, 117, 121, 125, 129, 560, 563, 567, 571, 133, 137, 575, 141, 579, 145, 583, 149, 153, 158, 203, 207, 587, 591, 595, 211, 215, 219, 599, 603, 607, 223, 227, 231, 611, 615, 235, 239, 619, 243, 623, 247, 251, 627, 255, 258, 631, 262, 266, 635, 270, 275, 639, 643, 647, 305, 309, 313, 317, 321, 325, 328, 334, 651, 655, 659, 663, 338, 667, 342, 671, 346, 350, 675, 354, 679, 361, 365, 683, 687, 369, 691, 377, 695, 556] (by decide +kernel) (by decide +kernel) w h).1
theorem wsL_law_x0 : ∀ w ∈ (vx_atS RX3 178 "java/lang/ArithmeticException" ["java/lang/RuntimeException", "java/lang/Exception"]).filter goodWord, w ∈ lw_tbl := by decide +kernel
theorem wsL_law_in : ∀ w ∈ wsL_law, w ∈ lw_tbl := fun w h => (List.mem_append.mp h).elim (fun h => wsL_law_in0 w h) (fun h => wsL_law_x0 w h)
theorem inlX0 : ∀ w ∈ wsX00, w ∈ wsL_law := fun _ h => List.mem_append_left _ (List.mem_append_left _ (List.mem_append_left _ (List.mem_append_left _ (List.mem_append_right _ h))))
theorem inX0 : ∀ w ∈ wsX00, w ∈ lw_tbl := fun w h => wsL_law_in w (inlX0 w h)
theorem inlX1 : ∀ w ∈ wsX10, w ∈ wsL_law := fun _ h => List.mem_append_left _ (List.mem_append_left _ (List.mem_append_right _ h))
theorem inX1 : ∀ w ∈ wsX10, w ∈ lw_tbl := fun w h => wsL_law_in w (inlX1 w h)
theorem inlX2 : ∀ w ∈ wsX20, w ∈ wsL_law := fun _ h => List.mem_append_left _ (List.mem_append_left _ (List.mem_append_left _ (List.mem_append_right _ h)))
theorem inX2 : ∀ w ∈ wsX20, w ∈ lw_tbl := fun w h => wsL_law_in w (inlX2 w h)
theorem inlX3 : ∀ w ∈ wsX30, w ∈ wsL_law := fun _ h => List.mem_append_left _ (List.mem_append_left _ (List.mem_append_left _ (List.mem_append_left _ (List.mem_append_left _ (List.mem_append_left _ (List.mem_append_right _ h))))))
theorem inX3 : ∀ w ∈ wsX30, w ∈ lw_tbl := fun w h => wsL_law_in w (inlX3 w h)
theorem inlX4 : ∀ w ∈ wsX40, w ∈ wsL_law := fun _ h => List.mem_append_left _ (List.mem_append_left _ (List.mem_append_left _ (List.mem_append_left _ (List.mem_append_left _ (List.mem_append_right _ h)))))
theorem inX4 : ∀ w ∈ wsX40, w ∈ lw_tbl := fun w h => wsL_law_in w (inlX4 w h)
theorem inJ9 : ∀ w ∈ wsJ90, w ∈ lw_tbl := by decide +kernel
theorem inJ0 : ∀ w ∈ wsJ00, w ∈ lw_tbl := by decide +kernel
theorem inJ10 : ∀ w ∈ wsJ100, w ∈ lw_tbl := by decide +kernel
theorem inJ7 : ∀ w ∈ wsJ70, w ∈ lw_tbl := by decide +kernel
theorem dX0_init_0 : decode cX0_init 0 = .ok (.aload_n 0, 1) := by decide +kernel
theorem dX0_init_1 : decode cX0_init 1 = .ok (.invokespecial 3, 3) := by decide +kernel
theorem dX0_init_4 : decode cX0_init 4 = .ok (.aload_n 0, 1) := by decide +kernel
theorem dX0_init_5 : decode cX0_init 5 = .ok (.bipush 6, 2) := by decide +kernel
theorem dX0_init_7 : decode cX0_init 7 = .ok (.newarray .int, 2) := by decide +kernel
theorem dX0_init_9 : decode cX0_init 9 = .ok (.putfield 9, 3) := by decide +kernel
theorem dX0_init_12 : decode cX0_init 12 = .ok (.aload_n 0, 1) := by decide +kernel
theorem dX0_init_13 : decode cX0_init 13 = .ok (.bipush 6, 2) := by decide +kernel
theorem dX0_init_15 : decode cX0_init 15 = .ok (.newarray .int, 2) := by decide +kernel
theorem dX0_init_17 : decode cX0_init 17 = .ok (.putfield 15, 3) := by decide +kernel
theorem dX0_init_20 : decode cX0_init 20 = .ok (.aload_n 0, 1) := by decide +kernel
theorem dX0_init_21 : decode cX0_init 21 = .ok (.iconst 0, 1) := by decide +kernel
theorem dX0_init_22 : decode cX0_init 22 = .ok (.putfield 18, 3) := by decide +kernel
theorem dX0_init_25 : decode cX0_init 25 = .ok (.return_, 1) := by decide +kernel
theorem dX0_find_0 : decode cX0_find 0 = .ok (.iconst 0, 1) := by decide +kernel
theorem dX0_find_1 : decode cX0_find 1 = .ok (.istore_n 2, 1) := by decide +kernel
theorem dX0_find_2 : decode cX0_find 2 = .ok (.iload_n 2, 1) := by decide +kernel
theorem dX0_find_3 : decode cX0_find 3 = .ok (.aload_n 0, 1) := by decide +kernel
theorem dX0_find_4 : decode cX0_find 4 = .ok (.getfield 18, 3) := by decide +kernel
theorem dX0_find_7 : decode cX0_find 7 = .ok (.if_icmp .ge 21, 3) := by decide +kernel
theorem dX0_find_10 : decode cX0_find 10 = .ok (.aload_n 0, 1) := by decide +kernel
theorem dX0_find_11 : decode cX0_find 11 = .ok (.getfield 9, 3) := by decide +kernel
theorem dX0_find_14 : decode cX0_find 14 = .ok (.iload_n 2, 1) := by decide +kernel
theorem dX0_find_15 : decode cX0_find 15 = .ok (.iaload, 1) := by decide +kernel
theorem dX0_find_16 : decode cX0_find 16 = .ok (.iload_n 1, 1) := by decide +kernel
theorem dX0_find_17 : decode cX0_find 17 = .ok (.if_icmp .ne 5, 3) := by decide +kernel
theorem dX0_find_20 : decode cX0_find 20 = .ok (.iload_n 2, 1) := by decide +kernel
theorem dX0_find_21 : decode cX0_find 21 = .ok (.ireturn, 1) := by decide +kernel
theorem dX0_find_22 : decode cX0_find 22 = .ok (.iinc 2 1, 3) := by decide +kernel
theorem dX0_find_25 : decode cX0_find 25 = .ok (.goto (-23), 3) := by decide +kernel
theorem dX0_find_28 : decode cX0_find 28 = .ok (.iconst (-1), 1) := by decide +kernel
theorem dX0_find_29 : decode cX0_find 29 = .ok (.ireturn, 1) := by decide +kernel
theorem dX0_append_0 : decode cX0_append 0 = .ok (.aload_n 0, 1) := by decide +kernel
theorem dX0_append_1 : decode cX0_append 1 = .ok (.getfield 9, 3) := by decide +kernel
theorem dX0_append_4 : decode cX0_append 4 = .ok (.aload_n 0, 1) := by decide +kernel
theorem dX0_append_5 : decode cX0_append 5 = .ok (.getfield 18, 3) := by decide +kernel
theorem dX0_append_8 : decode cX0_append 8 = .ok (.iload_n 1, 1) := by decide +kernel
theorem dX0_append_9 : decode cX0_append 9 = .ok (.iastore, 1) := by decide +kernel
theorem dX0_append_10 : decode cX0_append 10 = .ok (.aload_n 0, 1) := by decide +kernel
theorem dX0_append_11 : decode cX0_append 11 = .ok (.getfield 15, 3) := by decide +kernel
theorem dX0_append_14 : decode cX0_append 14 = .ok (.aload_n 0, 1) := by decide +kernel
theorem dX0_append_15 : decode cX0_append 15 = .ok (.getfield 18, 3) := by decide +kernel
theorem dX0_append_18 : decode cX0_append 18 = .ok (.iload_n 2, 1) := by decide +kernel
theorem dX0_append_19 : decode cX0_append 19 = .ok (.iastore, 1) := by decide +kernel
theorem dX0_append_20 : decode cX0_append 20 = .ok (.aload_n 0, 1) := by decide +kernel
theorem dX0_append_21 : decode cX0_append 21 = .ok (.dup, 1) := by decide +kernel
theorem dX0_append_22 : decode cX0_append 22 = .ok (.getfield 18, 3) := by decide +kernel
theorem dX0_append_25 : decode cX0_append 25 = .ok (.iconst 1, 1) := by decide +kernel
theorem dX0_append_26 : decode cX0_append 26 = .ok (.iadd, 1) := by decide +kernel
theorem dX0_append_27 : decode cX0_append 27 = .ok (.putfield 18, 3) := by decide +kernel
theorem dX0_append_30 : decode cX0_append 30 = .ok (.return_, 1) := by decide +kernel
theorem dX0_removeAt_0 : decode cX0_removeAt 0 = .ok (.iload_n 1, 1) := by decide +kernel
theorem dX0_removeAt_1 : decode cX0_removeAt 1 = .ok (.istore_n 2, 1) := by decide +kernel
theorem dX0_removeAt_2 : decode cX0_removeAt 2 = .ok (.iload_n 2, 1) := by decide +kernel
theorem dX0_removeAt_3 : decode cX0_removeAt 3 = .ok (.iconst 1, 1) := by decide +kernel
theorem dX0_removeAt_4 : decode cX0_removeAt 4 = .ok (.iadd, 1) := by decide +kernel
theorem dX0_removeAt_5 : decode cX0_removeAt 5 = .ok (.aload_n 0, 1) := by decide +kernel
theorem dX0_removeAt_6 : decode cX0_removeAt 6 = .ok (.getfield 18, 3) := by decide +kernel
theorem dX0_removeAt_9 : decode cX0_removeAt 9 = .ok (.if_icmp .ge 37, 3) := by decide +kernel
theorem dX0_removeAt_12 : decode cX0_removeAt 12 = .ok (.aload_n 0, 1) := by decide +kernel
theorem dX0_removeAt_13 : decode cX0_removeAt 13 = .ok (.getfield 9, 3) := by decide +kernel
theorem dX0_removeAt_16 : decode cX0_removeAt 16 = .ok (.iload_n 2, 1) := by decide +kernel
theorem dX0_removeAt_17 : decode cX0_removeAt 17 = .ok (.aload_n 0, 1) := by decide +kernel
theorem dX0_removeAt_18 : decode cX0_removeAt 18 = .ok (.getfield 9, 3) := by decide +kernel
theorem dX0_removeAt_21 : decode cX0_removeAt 21 = .ok (.iload_n 2, 1) := by decide +kernel
theorem dX0_removeAt_22 : decode cX0_removeAt 22 = .ok (.iconst 1, 1) := by decide +kernel
theorem dX0_removeAt_23 : decode cX0_removeAt 23 = .ok (.iadd, 1) := by decide +kernel
theorem dX0_removeAt_24 : decode cX0_removeAt 24 = .ok (.iaload, 1) := by decide +kernel
theorem dX0_removeAt_25 : decode cX0_removeAt 25 = .ok (.iastore, 1) := by decide +kernel
theorem dX0_removeAt_26 : decode cX0_removeAt 26 = .ok (.aload_n 0, 1) := by decide +kernel
theorem dX0_removeAt_27 : decode cX0_removeAt 27 = .ok (.getfield 15, 3) := by decide +kernel
theorem dX0_removeAt_30 : decode cX0_removeAt 30 = .ok (.iload_n 2, 1) := by decide +kernel
theorem dX0_removeAt_31 : decode cX0_removeAt 31 = .ok (.aload_n 0, 1) := by decide +kernel
theorem dX0_removeAt_32 : decode cX0_removeAt 32 = .ok (.getfield 15, 3) := by decide +kernel
theorem dX0_removeAt_35 : decode cX0_removeAt 35 = .ok (.iload_n 2, 1) := by decide +kernel
theorem dX0_removeAt_36 : decode cX0_removeAt 36 = .ok (.iconst 1, 1) := by decide +kernel
theorem dX0_removeAt_37 : decode cX0_removeAt 37 = .ok (.iadd, 1) := by decide +kernel
theorem dX0_removeAt_38 : decode cX0_removeAt 38 = .ok (.iaload, 1) := by decide +kernel
theorem dX0_removeAt_39 : decode cX0_removeAt 39 = .ok (.iastore, 1) := by decide +kernel
theorem dX0_removeAt_40 : decode cX0_removeAt 40 = .ok (.iinc 2 1, 3) := by decide +kernel
theorem dX0_removeAt_43 : decode cX0_removeAt 43 = .ok (.goto (-41), 3) := by decide +kernel
theorem dX0_removeAt_46 : decode cX0_removeAt 46 = .ok (.aload_n 0, 1) := by decide +kernel
theorem dX0_removeAt_47 : decode cX0_removeAt 47 = .ok (.dup, 1) := by decide +kernel
theorem dX0_removeAt_48 : decode cX0_removeAt 48 = .ok (.getfield 18, 3) := by decide +kernel
theorem dX0_removeAt_51 : decode cX0_removeAt 51 = .ok (.iconst 1, 1) := by decide +kernel
theorem dX0_removeAt_52 : decode cX0_removeAt 52 = .ok (.isub, 1) := by decide +kernel
theorem dX0_removeAt_53 : decode cX0_removeAt 53 = .ok (.putfield 18, 3) := by decide +kernel
theorem dX0_removeAt_56 : decode cX0_removeAt 56 = .ok (.return_, 1) := by decide +kernel
set_option maxRecDepth 20000 in
theorem ggX0_asSegment_X2_init : GoodIn wsX0_asSegment wsX2_init := goodIn_r _ [9, 10, 11, 12, 13, 14, 15, 16, 17, 18, 19, 20, 21, 22, 32, 33, 34, 35, 36, 37, 38, 39] (by decide +kernel) (by decide +kernel)
set_option maxRecDepth 20000 in
theorem gX0_asSegment_X2_init : GoodIn wsX0_asSegment (wsX2_init) := ggX0_asSegment_X2_init
set_option maxRecDepth 20000 in
theorem ggX0_asSegment_X0_rankOf : GoodIn wsX0_asSegment wsX0_rankOf := goodIn_r _ [27, 4, 5, 40, 41, 42] (by decide +kernel) (by decide +kernel)
set_option maxRecDepth 20000 in
theorem gX0_asSegment_X0_rankOf : GoodIn wsX0_asSegment (wsV RX0 27 RX0 yX0_rankOf wsX0_rankOf) := goodIn_app (goodIn_of _ (by decide +kernel)) ggX0_asSegment_X0_rankOf
set_option maxRecDepth 20000 in
theorem ggX0_asSegment_X2_write : GoodIn wsX0_asSegment wsX2_write := goodIn_r _ [31, 18, 19, 21, 13, 32, 33, 34, 35, 36, 37, 38, 39] (by decide +kernel) (by decide +kernel)
set_option maxRecDepth 20000 in
theorem gX0_asSegment_X2_write : GoodIn wsX0_asSegment (wsV RX0 31 RX2 yX2_write wsX2_write) := goodIn_app (goodIn_of _ (by decide +kernel)) ggX0_asSegment_X2_write
theorem dX0_asSegment_0 : decode cX0_asSegment 0 = .ok (.new 22, 3) := by decide +kernel
theorem dX0_asSegment_3 : decode cX0_asSegment 3 = .ok (.dup, 1) := by decide +kernel
theorem dX0_asSegment_4 : decode cX0_asSegment 4 = .ok (.iload_n 1, 1) := by decide +kernel
theorem dX0_asSegment_5 : decode cX0_asSegment 5 = .ok (.iconst 0, 1) := by decide +kernel
theorem dX0_asSegment_6 : decode cX0_asSegment 6 = .ok (.aload_n 0, 1) := by decide +kernel
theorem dX0_asSegment_7 : decode cX0_asSegment 7 = .ok (.getfield 18, 3) := by decide +kernel
theorem dX0_asSegment_10 : decode cX0_asSegment 10 = .ok (.invokespecial 24, 3) := by decide +kernel
theorem dX0_asSegment_13 : decode cX0_asSegment 13 = .ok (.astore_n 2, 1) := by decide +kernel
theorem dX0_asSegment_14 : decode cX0_asSegment 14 = .ok (.iconst 0, 1) := by decide +kernel
theorem dX0_asSegment_15 : decode cX0_asSegment 15 = .ok (.istore_n 3, 1) := by decide +kernel
theorem dX0_asSegment_16 : decode cX0_asSegment 16 = .ok (.iload_n 3, 1) := by decide +kernel
theorem dX0_asSegment_17 : decode cX0_asSegment 17 = .ok (.aload_n 0, 1) := by decide +kernel
theorem dX0_asSegment_18 : decode cX0_asSegment 18 = .ok (.getfield 18, 3) := by decide +kernel
theorem dX0_asSegment_21 : decode cX0_asSegment 21 = .ok (.if_icmp .ge 36, 3) := by decide +kernel
theorem dX0_asSegment_24 : decode cX0_asSegment 24 = .ok (.aload_n 2, 1) := by decide +kernel
theorem dX0_asSegment_25 : decode cX0_asSegment 25 = .ok (.aload_n 0, 1) := by decide +kernel
theorem dX0_asSegment_26 : decode cX0_asSegment 26 = .ok (.aload_n 0, 1) := by decide +kernel
theorem dX0_asSegment_27 : decode cX0_asSegment 27 = .ok (.getfield 9, 3) := by decide +kernel
theorem dX0_asSegment_30 : decode cX0_asSegment 30 = .ok (.iload_n 3, 1) := by decide +kernel
theorem dX0_asSegment_31 : decode cX0_asSegment 31 = .ok (.iaload, 1) := by decide +kernel
theorem dX0_asSegment_32 : decode cX0_asSegment 32 = .ok (.invokevirtual 27, 3) := by decide +kernel
theorem dX0_asSegment_35 : decode cX0_asSegment 35 = .ok (.aload_n 0, 1) := by decide +kernel
theorem dX0_asSegment_36 : decode cX0_asSegment 36 = .ok (.getfield 9, 3) := by decide +kernel
theorem dX0_asSegment_39 : decode cX0_asSegment 39 = .ok (.iload_n 3, 1) := by decide +kernel
theorem dX0_asSegment_40 : decode cX0_asSegment 40 = .ok (.iaload, 1) := by decide +kernel
theorem dX0_asSegment_41 : decode cX0_asSegment 41 = .ok (.aload_n 0, 1) := by decide +kernel
theorem dX0_asSegment_42 : decode cX0_asSegment 42 = .ok (.getfield 15, 3) := by decide +kernel
theorem dX0_asSegment_45 : decode cX0_asSegment 45 = .ok (.iload_n 3, 1) := by decide +kernel
theorem dX0_asSegment_46 : decode cX0_asSegment 46 = .ok (.iaload, 1) := by decide +kernel
theorem dX0_asSegment_47 : decode cX0_asSegment 47 = .ok (.iconst 1, 1) := by decide +kernel
theorem dX0_asSegment_48 : decode cX0_asSegment 48 = .ok (.invokevirtual 31, 3) := by decide +kernel
theorem dX0_asSegment_51 : decode cX0_asSegment 51 = .ok (.iinc 3 1, 3) := by decide +kernel
theorem dX0_asSegment_54 : decode cX0_asSegment 54 = .ok (.goto (-38), 3) := by decide +kernel
theorem dX0_asSegment_57 : decode cX0_asSegment 57 = .ok (.aload_n 2, 1) := by decide +kernel
theorem dX0_asSegment_58 : decode cX0_asSegment 58 = .ok (.areturn, 1) := by decide +kernel
theorem dX0_rankOf_0 : decode cX0_rankOf 0 = .ok (.iconst 0, 1) := by decide +kernel
theorem dX0_rankOf_1 : decode cX0_rankOf 1 = .ok (.istore_n 2, 1) := by decide +kernel
theorem dX0_rankOf_2 : decode cX0_rankOf 2 = .ok (.iconst 0, 1) := by decide +kernel
theorem dX0_rankOf_3 : decode cX0_rankOf 3 = .ok (.istore_n 3, 1) := by decide +kernel
theorem dX0_rankOf_4 : decode cX0_rankOf 4 = .ok (.iload_n 3, 1) := by decide +kernel
theorem dX0_rankOf_5 : decode cX0_rankOf 5 = .ok (.aload_n 0, 1) := by decide +kernel
theorem dX0_rankOf_6 : decode cX0_rankOf 6 = .ok (.getfield 18, 3) := by decide +kernel
theorem dX0_rankOf_9 : decode cX0_rankOf 9 = .ok (.if_icmp .ge 22, 3) := by decide +kernel
theorem dX0_rankOf_12 : decode cX0_rankOf 12 = .ok (.aload_n 0, 1) := by decide +kernel
theorem dX0_rankOf_13 : decode cX0_rankOf 13 = .ok (.getfield 9, 3) := by decide +kernel
theorem dX0_rankOf_16 : decode cX0_rankOf 16 = .ok (.iload_n 3, 1) := by decide +kernel
theorem dX0_rankOf_17 : decode cX0_rankOf 17 = .ok (.iaload, 1) := by decide +kernel
theorem dX0_rankOf_18 : decode cX0_rankOf 18 = .ok (.iload_n 1, 1) := by decide +kernel
theorem dX0_rankOf_19 : decode cX0_rankOf 19 = .ok (.if_icmp .ge 6, 3) := by decide +kernel
theorem dX0_rankOf_22 : decode cX0_rankOf 22 = .ok (.iinc 2 1, 3) := by decide +kernel
theorem dX0_rankOf_25 : decode cX0_rankOf 25 = .ok (.iinc 3 1, 3) := by decide +kernel
theorem dX0_rankOf_28 : decode cX0_rankOf 28 = .ok (.goto (-24), 3) := by decide +kernel
theorem dX0_rankOf_31 : decode cX0_rankOf 31 = .ok (.iload_n 2, 1) := by decide +kernel
theorem dX0_rankOf_32 : decode cX0_rankOf 32 = .ok (.ireturn, 1) := by decide +kernel
theorem dX1_init_0 : decode cX1_init 0 = .ok (.aload_n 0, 1) := by decide +kernel
theorem dX1_init_1 : decode cX1_init 1 = .ok (.invokespecial 3, 3) := by decide +kernel
theorem dX1_init_4 : decode cX1_init 4 = .ok (.aload_n 0, 1) := by decide +kernel
theorem dX1_init_5 : decode cX1_init 5 = .ok (.iconst 0, 1) := by decide +kernel
theorem dX1_init_6 : decode cX1_init 6 = .ok (.putfield 9, 3) := by decide +kernel
theorem dX1_init_9 : decode cX1_init 9 = .ok (.aload_n 0, 1) := by decide +kernel
theorem dX1_init_10 : decode cX1_init 10 = .ok (.iconst 0, 1) := by decide +kernel
theorem dX1_init_11 : decode cX1_init 11 = .ok (.putfield 15, 3) := by decide +kernel
theorem dX1_init_14 : decode cX1_init 14 = .ok (.aload_n 0, 1) := by decide +kernel
theorem dX1_init_15 : decode cX1_init 15 = .ok (.iconst 0, 1) := by decide +kernel
theorem dX1_init_16 : decode cX1_init 16 = .ok (.putfield 18, 3) := by decide +kernel
theorem dX1_init_19 : decode cX1_init 19 = .ok (.aload_n 0, 1) := by decide +kernel
theorem dX1_init_20 : decode cX1_init 20 = .ok (.iload_n 2, 1) := by decide +kernel
theorem dX1_init_21 : decode cX1_init 21 = .ok (.putfield 21, 3) := by decide +kernel
theorem dX1_init_24 : decode cX1_init 24 = .ok (.aload_n 0, 1) := by decide +kernel
theorem dX1_init_25 : decode cX1_init 25 = .ok (.iload_n 3, 1) := by decide +kernel
theorem dX1_init_26 : decode cX1_init 26 = .ok (.anewarray 24, 3) := by decide +kernel
theorem dX1_init_29 : decode cX1_init 29 = .ok (.putfield 26, 3) := by decide +kernel
theorem dX1_init_32 : decode cX1_init 32 = .ok (.aload_n 0, 1) := by decide +kernel
theorem dX1_init_33 : decode cX1_init 33 = .ok (.iload_n 3, 1) := by decide +kernel
theorem dX1_init_34 : decode cX1_init 34 = .ok (.newarray .int, 2) := by decide +kernel
theorem dX1_init_36 : decode cX1_init 36 = .ok (.putfield 30, 3) := by decide +kernel
theorem dX1_init_39 : decode cX1_init 39 = .ok (.iconst 0, 1) := by decide +kernel
theorem dX1_init_40 : decode cX1_init 40 = .ok (.istore 4, 2) := by decide +kernel
theorem dX1_init_42 : decode cX1_init 42 = .ok (.iload 4, 2) := by decide +kernel
theorem dX1_init_44 : decode cX1_init 44 = .ok (.iload_n 3, 1) := by decide +kernel
theorem dX1_init_45 : decode cX1_init 45 = .ok (.if_icmp .ge 41, 3) := by decide +kernel
theorem dX1_init_48 : decode cX1_init 48 = .ok (.aload_n 0, 1) := by decide +kernel
theorem dX1_init_49 : decode cX1_init 49 = .ok (.getfield 26, 3) := by decide +kernel
theorem dX1_init_52 : decode cX1_init 52 = .ok (.iload 4, 2) := by decide +kernel
theorem dX1_init_54 : decode cX1_init 54 = .ok (.aload_n 1, 1) := by decide +kernel
theorem dX1_init_55 : decode cX1_init 55 = .ok (.iload_n 2, 1) := by decide +kernel
theorem dX1_init_56 : decode cX1_init 56 = .ok (.iload 4, 2) := by decide +kernel
theorem dX1_init_58 : decode cX1_init 58 = .ok (.iadd, 1) := by decide +kernel
theorem dX1_init_59 : decode cX1_init 59 = .ok (.aaload, 1) := by decide +kernel
theorem dX1_init_60 : decode cX1_init 60 = .ok (.aastore, 1) := by decide +kernel
theorem dX1_init_61 : decode cX1_init 61 = .ok (.aload_n 0, 1) := by decide +kernel
theorem dX1_init_62 : decode cX1_init 62 = .ok (.dup, 1) := by decide +kernel
theorem dX1_init_63 : decode cX1_init 63 = .ok (.getfield 18, 3) := by decide +kernel
theorem dX1_init_66 : decode cX1_init 66 = .ok (.aload_n 0, 1) := by decide +kernel
theorem dX1_init_67 : decode cX1_init 67 = .ok (.getfield 26, 3) := by decide +kernel
theorem dX1_init_70 : decode cX1_init 70 = .ok (.iload 4, 2) := by decide +kernel
theorem dX1_init_72 : decode cX1_init 72 = .ok (.aaload, 1) := by decide +kernel
theorem dX1_init_73 : decode cX1_init 73 = .ok (.getfield 34, 3) := by decide +kernel
theorem dX1_init_76 : decode cX1_init 76 = .ok (.iadd, 1) := by decide +kernel
theorem dX1_init_77 : decode cX1_init 77 = .ok (.putfield 18, 3) := by decide +kernel
theorem dX1_init_80 : decode cX1_init 80 = .ok (.iinc 4 1, 3) := by decide +kernel
theorem dX1_init_83 : decode cX1_init 83 = .ok (.goto (-41), 3) := by decide +kernel
theorem dX1_init_86 : decode cX1_init 86 = .ok (.return_, 1) := by decide +kernel
theorem dX1_isOf_0 : decode cX1_isOf 0 = .ok (.iload_n 1, 1) := by decide +kernel
theorem dX1_isOf_1 : decode cX1_isOf 1 = .ok (.aload_n 0, 1) := by decide +kernel
theorem dX1_isOf_2 : decode cX1_isOf 2 = .ok (.getfield 21, 3) := by decide +kernel
theorem dX1_isOf_5 : decode cX1_isOf 5 = .ok (.if_icmp .lt 21, 3) := by decide +kernel
theorem dX1_isOf_8 : decode cX1_isOf 8 = .ok (.iload_n 1, 1) := by decide +kernel
theorem dX1_isOf_9 : decode cX1_isOf 9 = .ok (.aload_n 0, 1) := by decide +kernel
theorem dX1_isOf_10 : decode cX1_isOf 10 = .ok (.getfield 21, 3) := by decide +kernel
theorem dX1_isOf_13 : decode cX1_isOf 13 = .ok (.aload_n 0, 1) := by decide +kernel
theorem dX1_isOf_14 : decode cX1_isOf 14 = .ok (.getfield 26, 3) := by decide +kernel
theorem dX1_isOf_17 : decode cX1_isOf 17 = .ok (.arraylength, 1) := by decide +kernel
theorem dX1_isOf_18 : decode cX1_isOf 18 = .ok (.iadd, 1) := by decide +kernel
theorem dX1_isOf_19 : decode cX1_isOf 19 = .ok (.if_icmp .ge 7, 3) := by decide +kernel
theorem dX1_isOf_22 : decode cX1_isOf 22 = .ok (.iconst 1, 1) := by decide +kernel
theorem dX1_isOf_23 : decode cX1_isOf 23 = .ok (.goto 4, 3) := by decide +kernel
theorem dX1_isOf_26 : decode cX1_isOf 26 = .ok (.iconst 0, 1) := by decide +kernel
theorem dX1_isOf_27 : decode cX1_isOf 27 = .ok (.ireturn, 1) := by decide +kernel
theorem dX1_sourceOf_0 : decode cX1_sourceOf 0 = .ok (.iconst 0, 1) := by decide +kernel
theorem dX1_sourceOf_1 : decode cX1_sourceOf 1 = .ok (.istore_n 2, 1) := by decide +kernel
theorem dX1_sourceOf_2 : decode cX1_sourceOf 2 = .ok (.iload_n 2, 1) := by decide +kernel
theorem dX1_sourceOf_3 : decode cX1_sourceOf 3 = .ok (.aload_n 0, 1) := by decide +kernel
theorem dX1_sourceOf_4 : decode cX1_sourceOf 4 = .ok (.getfield 26, 3) := by decide +kernel
theorem dX1_sourceOf_7 : decode cX1_sourceOf 7 = .ok (.arraylength, 1) := by decide +kernel
theorem dX1_sourceOf_8 : decode cX1_sourceOf 8 = .ok (.if_icmp .ge 29, 3) := by decide +kernel
theorem dX1_sourceOf_11 : decode cX1_sourceOf 11 = .ok (.aload_n 0, 1) := by decide +kernel
theorem dX1_sourceOf_12 : decode cX1_sourceOf 12 = .ok (.getfield 26, 3) := by decide +kernel
theorem dX1_sourceOf_15 : decode cX1_sourceOf 15 = .ok (.iload_n 2, 1) := by decide +kernel
theorem dX1_sourceOf_16 : decode cX1_sourceOf 16 = .ok (.aaload, 1) := by decide +kernel
theorem dX1_sourceOf_17 : decode cX1_sourceOf 17 = .ok (.getfield 37, 3) := by decide +kernel
theorem dX1_sourceOf_20 : decode cX1_sourceOf 20 = .ok (.iload_n 1, 1) := by decide +kernel
theorem dX1_sourceOf_21 : decode cX1_sourceOf 21 = .ok (.if_icmp .ne 10, 3) := by decide +kernel
theorem dX1_sourceOf_24 : decode cX1_sourceOf 24 = .ok (.aload_n 0, 1) := by decide +kernel
theorem dX1_sourceOf_25 : decode cX1_sourceOf 25 = .ok (.getfield 26, 3) := by decide +kernel
theorem dX1_sourceOf_28 : decode cX1_sourceOf 28 = .ok (.iload_n 2, 1) := by decide +kernel
theorem dX1_sourceOf_29 : decode cX1_sourceOf 29 = .ok (.aaload, 1) := by decide +kernel
theorem dX1_sourceOf_30 : decode cX1_sourceOf 30 = .ok (.areturn, 1) := by decide +kernel
theorem dX1_sourceOf_31 : decode cX1_sourceOf 31 = .ok (.iinc 2 1, 3) := by decide +kernel
theorem dX1_sourceOf_34 : decode cX1_sourceOf 34 = .ok (.goto (-32), 3) := by decide +kernel
theorem dX1_sourceOf_37 : decode cX1_sourceOf 37 = .ok (.aconst_null, 1) := by decide +kernel
theorem dX1_sourceOf_38 : decode cX1_sourceOf 38 = .ok (.areturn, 1) := by decide +kernel
set_option maxRecDepth 20000 in
theorem ggX1_takeOne_X1_sourceOfLeastKey : GoodIn wsX1_takeOne wsX1_sourceOfLeastKey := goodIn_r _ [12, 1, 2, 13, 14, 15, 16, 17, 18, 19, 20, 21, 22, 23, 24, 25, 26, 27, 28] (by decide +kernel) (by decide +kernel)
set_option maxRecDepth 20000 in
theorem gX1_takeOne_X1_sourceOfLeastKey : GoodIn wsX1_takeOne (wsV RX1 40 RX1 yX1_sourceOfLeastKey wsX1_sourceOfLeastKey) := goodIn_app (goodIn_of _ (by decide +kernel)) ggX1_takeOne_X1_sourceOfLeastKey
theorem dX1_takeOne_0 : decode cX1_takeOne 0 = .ok (.aload_n 0, 1) := by decide +kernel
theorem dX1_takeOne_1 : decode cX1_takeOne 1 = .ok (.invokevirtual 40, 3) := by decide +kernel
theorem dX1_takeOne_4 : decode cX1_takeOne 4 = .ok (.istore_n 1, 1) := by decide +kernel
theorem dX1_takeOne_5 : decode cX1_takeOne 5 = .ok (.iload_n 1, 1) := by decide +kernel
theorem dX1_takeOne_6 : decode cX1_takeOne 6 = .ok (.iconst (-1), 1) := by decide +kernel
theorem dX1_takeOne_7 : decode cX1_takeOne 7 = .ok (.if_icmp .ne 4, 3) := by decide +kernel
theorem dX1_takeOne_10 : decode cX1_takeOne 10 = .ok (.return_, 1) := by decide +kernel
theorem dX1_takeOne_11 : decode cX1_takeOne 11 = .ok (.aload_n 0, 1) := by decide +kernel
theorem dX1_takeOne_12 : decode cX1_takeOne 12 = .ok (.getfield 26, 3) := by decide +kernel
theorem dX1_takeOne_15 : decode cX1_takeOne 15 = .ok (.iload_n 1, 1) := by decide +kernel
theorem dX1_takeOne_16 : decode cX1_takeOne 16 = .ok (.aaload, 1) := by decide +kernel
theorem dX1_takeOne_17 : decode cX1_takeOne 17 = .ok (.astore_n 2, 1) := by decide +kernel
theorem dX1_takeOne_18 : decode cX1_takeOne 18 = .ok (.aload_n 0, 1) := by decide +kernel
theorem dX1_takeOne_19 : decode cX1_takeOne 19 = .ok (.getfield 30, 3) := by decide +kernel
theorem dX1_takeOne_22 : decode cX1_takeOne 22 = .ok (.iload_n 1, 1) := by decide +kernel
theorem dX1_takeOne_23 : decode cX1_takeOne 23 = .ok (.iaload, 1) := by decide +kernel
theorem dX1_takeOne_24 : decode cX1_takeOne 24 = .ok (.istore_n 3, 1) := by decide +kernel
theorem dX1_takeOne_25 : decode cX1_takeOne 25 = .ok (.aload_n 2, 1) := by decide +kernel
theorem dX1_takeOne_26 : decode cX1_takeOne 26 = .ok (.getfield 44, 3) := by decide +kernel
theorem dX1_takeOne_29 : decode cX1_takeOne 29 = .ok (.iload_n 3, 1) := by decide +kernel
theorem dX1_takeOne_30 : decode cX1_takeOne 30 = .ok (.baload, 1) := by decide +kernel
theorem dX1_takeOne_31 : decode cX1_takeOne 31 = .ok (.ifCond .eq 26, 3) := by decide +kernel
theorem dX1_takeOne_34 : decode cX1_takeOne 34 = .ok (.aload_n 2, 1) := by decide +kernel
theorem dX1_takeOne_35 : decode cX1_takeOne 35 = .ok (.getfield 48, 3) := by decide +kernel
theorem dX1_takeOne_38 : decode cX1_takeOne 38 = .ok (.iload_n 3, 1) := by decide +kernel
theorem dX1_takeOne_39 : decode cX1_takeOne 39 = .ok (.aload_n 0, 1) := by decide +kernel
theorem dX1_takeOne_40 : decode cX1_takeOne 40 = .ok (.getfield 15, 3) := by decide +kernel
theorem dX1_takeOne_43 : decode cX1_takeOne 43 = .ok (.iastore, 1) := by decide +kernel
theorem dX1_takeOne_44 : decode cX1_takeOne 44 = .ok (.aload_n 0, 1) := by decide +kernel
theorem dX1_takeOne_45 : decode cX1_takeOne 45 = .ok (.dup, 1) := by decide +kernel
theorem dX1_takeOne_46 : decode cX1_takeOne 46 = .ok (.getfield 15, 3) := by decide +kernel
theorem dX1_takeOne_49 : decode cX1_takeOne 49 = .ok (.iconst 1, 1) := by decide +kernel
theorem dX1_takeOne_50 : decode cX1_takeOne 50 = .ok (.iadd, 1) := by decide +kernel
theorem dX1_takeOne_51 : decode cX1_takeOne 51 = .ok (.putfield 15, 3) := by decide +kernel
theorem dX1_takeOne_54 : decode cX1_takeOne 54 = .ok (.goto 10, 3) := by decide +kernel
theorem dX1_takeOne_57 : decode cX1_takeOne 57 = .ok (.aload_n 2, 1) := by decide +kernel
theorem dX1_takeOne_58 : decode cX1_takeOne 58 = .ok (.getfield 48, 3) := by decide +kernel
theorem dX1_takeOne_61 : decode cX1_takeOne 61 = .ok (.iload_n 3, 1) := by decide +kernel
theorem dX1_takeOne_62 : decode cX1_takeOne 62 = .ok (.iconst (-1), 1) := by decide +kernel
theorem dX1_takeOne_63 : decode cX1_takeOne 63 = .ok (.iastore, 1) := by decide +kernel
theorem dX1_takeOne_64 : decode cX1_takeOne 64 = .ok (.aload_n 0, 1) := by decide +kernel
theorem dX1_takeOne_65 : decode cX1_takeOne 65 = .ok (.getfield 30, 3) := by decide +kernel
theorem dX1_takeOne_68 : decode cX1_takeOne 68 = .ok (.iload_n 1, 1) := by decide +kernel
theorem dX1_takeOne_69 : decode cX1_takeOne 69 = .ok (.dup2, 1) := by decide +kernel
theorem dX1_takeOne_70 : decode cX1_takeOne 70 = .ok (.iaload, 1) := by decide +kernel
theorem dX1_takeOne_71 : decode cX1_takeOne 71 = .ok (.iconst 1, 1) := by decide +kernel
theorem dX1_takeOne_72 : decode cX1_takeOne 72 = .ok (.iadd, 1) := by decide +kernel
theorem dX1_takeOne_73 : decode cX1_takeOne 73 = .ok (.iastore, 1) := by decide +kernel
theorem dX1_takeOne_74 : decode cX1_takeOne 74 = .ok (.aload_n 0, 1) := by decide +kernel
theorem dX1_takeOne_75 : decode cX1_takeOne 75 = .ok (.dup, 1) := by decide +kernel
theorem dX1_takeOne_76 : decode cX1_takeOne 76 = .ok (.getfield 9, 3) := by decide +kernel
theorem dX1_takeOne_79 : decode cX1_takeOne 79 = .ok (.iconst 1, 1) := by decide +kernel
theorem dX1_takeOne_80 : decode cX1_takeOne 80 = .ok (.iadd, 1) := by decide +kernel
theorem dX1_takeOne_81 : decode cX1_takeOne 81 = .ok (.putfield 9, 3) := by decide +kernel
theorem dX1_takeOne_84 : decode cX1_takeOne 84 = .ok (.aload_n 0, 1) := by decide +kernel
theorem dX1_takeOne_85 : decode cX1_takeOne 85 = .ok (.dup, 1) := by decide +kernel
theorem dX1_takeOne_86 : decode cX1_takeOne 86 = .ok (.getfield 18, 3) := by decide +kernel
theorem dX1_takeOne_89 : decode cX1_takeOne 89 = .ok (.iconst 1, 1) := by decide +kernel
theorem dX1_takeOne_90 : decode cX1_takeOne 90 = .ok (.isub, 1) := by decide +kernel
theorem dX1_takeOne_91 : decode cX1_takeOne 91 = .ok (.putfield 18, 3) := by decide +kernel
theorem dX1_takeOne_94 : decode cX1_takeOne 94 = .ok (.return_, 1) := by decide +kernel
theorem dX1_sourceOfLeastKey_0 : decode cX1_sourceOfLeastKey 0 = .ok (.iconst (-1), 1) := by decide +kernel
theorem dX1_sourceOfLeastKey_1 : decode cX1_sourceOfLeastKey 1 = .ok (.istore_n 1, 1) := by decide +kernel
theorem dX1_sourceOfLeastKey_2 : decode cX1_sourceOfLeastKey 2 = .ok (.bipush 100, 2) := by decide +kernel
theorem dX1_sourceOfLeastKey_4 : decode cX1_sourceOfLeastKey 4 = .ok (.istore_n 2, 1) := by decide +kernel
theorem dX1_sourceOfLeastKey_5 : decode cX1_sourceOfLeastKey 5 = .ok (.iconst 0, 1) := by decide +kernel
theorem dX1_sourceOfLeastKey_6 : decode cX1_sourceOfLeastKey 6 = .ok (.istore_n 3, 1) := by decide +kernel
theorem dX1_sourceOfLeastKey_7 : decode cX1_sourceOfLeastKey 7 = .ok (.iload_n 3, 1) := by decide +kernel
theorem dX1_sourceOfLeastKey_8 : decode cX1_sourceOfLeastKey 8 = .ok (.aload_n 0, 1) := by decide +kernel
theorem dX1_sourceOfLeastKey_9 : decode cX1_sourceOfLeastKey 9 = .ok (.getfield 26, 3) := by decide +kernel
theorem dX1_sourceOfLeastKey_12 : decode cX1_sourceOfLeastKey 12 = .ok (.arraylength, 1) := by decide +kernel
theorem dX1_sourceOfLeastKey_13 : decode cX1_sourceOfLeastKey 13 = .ok (.if_icmp .ge 66, 3) := by decide +kernel
theorem dX1_sourceOfLeastKey_16 : decode cX1_sourceOfLeastKey 16 = .ok (.aload_n 0, 1) := by decide +kernel
theorem dX1_sourceOfLeastKey_17 : decode cX1_sourceOfLeastKey 17 = .ok (.getfield 30, 3) := by decide +kernel
theorem dX1_sourceOfLeastKey_20 : decode cX1_sourceOfLeastKey 20 = .ok (.iload_n 3, 1) := by decide +kernel
theorem dX1_sourceOfLeastKey_21 : decode cX1_sourceOfLeastKey 21 = .ok (.iaload, 1) := by decide +kernel
theorem dX1_sourceOfLeastKey_22 : decode cX1_sourceOfLeastKey 22 = .ok (.aload_n 0, 1) := by decide +kernel
theorem dX1_sourceOfLeastKey_23 : decode cX1_sourceOfLeastKey 23 = .ok (.getfield 26, 3) := by decide +kernel
theorem dX1_sourceOfLeastKey_26 : decode cX1_sourceOfLeastKey 26 = .ok (.iload_n 3, 1) := by decide +kernel
theorem dX1_sourceOfLeastKey_27 : decode cX1_sourceOfLeastKey 27 = .ok (.aaload, 1) := by decide +kernel
theorem dX1_sourceOfLeastKey_28 : decode cX1_sourceOfLeastKey 28 = .ok (.getfield 34, 3) := by decide +kernel
theorem dX1_sourceOfLeastKey_31 : decode cX1_sourceOfLeastKey 31 = .ok (.if_icmp .ge 42, 3) := by decide +kernel
theorem dX1_sourceOfLeastKey_34 : decode cX1_sourceOfLeastKey 34 = .ok (.aload_n 0, 1) := by decide +kernel
theorem dX1_sourceOfLeastKey_35 : decode cX1_sourceOfLeastKey 35 = .ok (.getfield 26, 3) := by decide +kernel
theorem dX1_sourceOfLeastKey_38 : decode cX1_sourceOfLeastKey 38 = .ok (.iload_n 3, 1) := by decide +kernel
theorem dX1_sourceOfLeastKey_39 : decode cX1_sourceOfLeastKey 39 = .ok (.aaload, 1) := by decide +kernel
theorem dX1_sourceOfLeastKey_40 : decode cX1_sourceOfLeastKey 40 = .ok (.getfield 51, 3) := by decide +kernel
theorem dX1_sourceOfLeastKey_43 : decode cX1_sourceOfLeastKey 43 = .ok (.aload_n 0, 1) := by decide +kernel
theorem dX1_sourceOfLeastKey_44 : decode cX1_sourceOfLeastKey 44 = .ok (.getfield 30, 3) := by decide +kernel
theorem dX1_sourceOfLeastKey_47 : decode cX1_sourceOfLeastKey 47 = .ok (.iload_n 3, 1) := by decide +kernel
theorem dX1_sourceOfLeastKey_48 : decode cX1_sourceOfLeastKey 48 = .ok (.iaload, 1) := by decide +kernel
theorem dX1_sourceOfLeastKey_49 : decode cX1_sourceOfLeastKey 49 = .ok (.iaload, 1) := by decide +kernel
theorem dX1_sourceOfLeastKey_50 : decode cX1_sourceOfLeastKey 50 = .ok (.iload_n 2, 1) := by decide +kernel
theorem dX1_sourceOfLeastKey_51 : decode cX1_sourceOfLeastKey 51 = .ok (.if_icmp .ge 22, 3) := by decide +kernel
theorem dX1_sourceOfLeastKey_54 : decode cX1_sourceOfLeastKey 54 = .ok (.iload_n 3, 1) := by decide +kernel
theorem dX1_sourceOfLeastKey_55 : decode cX1_sourceOfLeastKey 55 = .ok (.istore_n 1, 1) := by decide +kernel
theorem dX1_sourceOfLeastKey_56 : decode cX1_sourceOfLeastKey 56 = .ok (.aload_n 0, 1) := by decide +kernel
theorem dX1_sourceOfLeastKey_57 : decode cX1_sourceOfLeastKey 57 = .ok (.getfield 26, 3) := by decide +kernel
theorem dX1_sourceOfLeastKey_60 : decode cX1_sourceOfLeastKey 60 = .ok (.iload_n 3, 1) := by decide +kernel
theorem dX1_sourceOfLeastKey_61 : decode cX1_sourceOfLeastKey 61 = .ok (.aaload, 1) := by decide +kernel
theorem dX1_sourceOfLeastKey_62 : decode cX1_sourceOfLeastKey 62 = .ok (.getfield 51, 3) := by decide +kernel
theorem dX1_sourceOfLeastKey_65 : decode cX1_sourceOfLeastKey 65 = .ok (.aload_n 0, 1) := by decide +kernel
theorem dX1_sourceOfLeastKey_66 : decode cX1_sourceOfLeastKey 66 = .ok (.getfield 30, 3) := by decide +kernel
theorem dX1_sourceOfLeastKey_69 : decode cX1_sourceOfLeastKey 69 = .ok (.iload_n 3, 1) := by decide +kernel
theorem dX1_sourceOfLeastKey_70 : decode cX1_sourceOfLeastKey 70 = .ok (.iaload, 1) := by decide +kernel
theorem dX1_sourceOfLeastKey_71 : decode cX1_sourceOfLeastKey 71 = .ok (.iaload, 1) := by decide +kernel
theorem dX1_sourceOfLeastKey_72 : decode cX1_sourceOfLeastKey 72 = .ok (.istore_n 2, 1) := by decide +kernel
theorem dX1_sourceOfLeastKey_73 : decode cX1_sourceOfLeastKey 73 = .ok (.iinc 3 1, 3) := by decide +kernel
theorem dX1_sourceOfLeastKey_76 : decode cX1_sourceOfLeastKey 76 = .ok (.goto (-69), 3) := by decide +kernel
theorem dX1_sourceOfLeastKey_79 : decode cX1_sourceOfLeastKey 79 = .ok (.iload_n 1, 1) := by decide +kernel
theorem dX1_sourceOfLeastKey_80 : decode cX1_sourceOfLeastKey 80 = .ok (.ireturn, 1) := by decide +kernel
set_option maxRecDepth 20000 in
theorem ggX1_asSegment_X1_greatestTier : GoodIn wsX1_asSegment wsX1_greatestTier := goodIn_r _ [15, 5, 16, 17, 18, 19, 20, 49, 50, 51, 52, 53, 54, 41, 42, 43, 44, 45, 46, 47, 48] (by decide +kernel) (by decide +kernel)
end
section
set_option maxRecDepth 20000 in
theorem gX1_asSegment_X1_greatestTier : GoodIn wsX1_asSegment (wsV RX1 54 RX1 yX1_greatestTier wsX1_greatestTier) := goodIn_app (goodIn_of _ (by decide +kernel)) ggX1_asSegment_X1_greatestTier
set_option maxRecDepth 20000 in
theorem ggX1_asSegment_X2_init : GoodIn wsX1_asSegment wsX2_init := goodIn_r _ [23, 24, 25, 26, 27, 28, 29, 30, 31, 32, 33, 34, 35, 36, 41, 42, 43, 44, 45, 46, 47, 48] (by decide +kernel) (by decide +kernel)
set_option maxRecDepth 20000 in
theorem gX1_asSegment_X2_init : GoodIn wsX1_asSegment (wsX2_init) := ggX1_asSegment_X2_init
set_option maxRecDepth 20000 in
theorem ggX1_asSegment_X2_write : GoodIn wsX1_asSegment wsX2_write := goodIn_r _ [40, 32, 33, 35, 27, 41, 42, 43, 44, 45, 46, 47, 48] (by decide +kernel) (by decide +kernel)
set_option maxRecDepth 20000 in
theorem gX1_asSegment_X2_write : GoodIn wsX1_asSegment (wsV RX1 63 RX2 yX2_write wsX2_write) := goodIn_app (goodIn_of _ (by decide +kernel)) ggX1_asSegment_X2_write
theorem dX1_asSegment_0 : decode cX1_asSegment 0 = .ok (.new 24, 3) := by decide +kernel
theorem dX1_asSegment_3 : decode cX1_asSegment 3 = .ok (.dup, 1) := by decide +kernel
theorem dX1_asSegment_4 : decode cX1_asSegment 4 = .ok (.iload_n 1, 1) := by decide +kernel
theorem dX1_asSegment_5 : decode cX1_asSegment 5 = .ok (.aload_n 0, 1) := by decide +kernel
theorem dX1_asSegment_6 : decode cX1_asSegment 6 = .ok (.invokevirtual 54, 3) := by decide +kernel
theorem dX1_asSegment_9 : decode cX1_asSegment 9 = .ok (.iconst 1, 1) := by decide +kernel
theorem dX1_asSegment_10 : decode cX1_asSegment 10 = .ok (.iadd, 1) := by decide +kernel
theorem dX1_asSegment_11 : decode cX1_asSegment 11 = .ok (.aload_n 0, 1) := by decide +kernel
theorem dX1_asSegment_12 : decode cX1_asSegment 12 = .ok (.getfield 15, 3) := by decide +kernel
theorem dX1_asSegment_15 : decode cX1_asSegment 15 = .ok (.invokespecial 57, 3) := by decide +kernel
theorem dX1_asSegment_18 : decode cX1_asSegment 18 = .ok (.astore_n 2, 1) := by decide +kernel
theorem dX1_asSegment_19 : decode cX1_asSegment 19 = .ok (.iconst 0, 1) := by decide +kernel
theorem dX1_asSegment_20 : decode cX1_asSegment 20 = .ok (.istore_n 3, 1) := by decide +kernel
theorem dX1_asSegment_21 : decode cX1_asSegment 21 = .ok (.iload_n 3, 1) := by decide +kernel
theorem dX1_asSegment_22 : decode cX1_asSegment 22 = .ok (.aload_n 0, 1) := by decide +kernel
theorem dX1_asSegment_23 : decode cX1_asSegment 23 = .ok (.getfield 26, 3) := by decide +kernel
theorem dX1_asSegment_26 : decode cX1_asSegment 26 = .ok (.arraylength, 1) := by decide +kernel
theorem dX1_asSegment_27 : decode cX1_asSegment 27 = .ok (.if_icmp .ge 84, 3) := by decide +kernel
theorem dX1_asSegment_30 : decode cX1_asSegment 30 = .ok (.aload_n 0, 1) := by decide +kernel
theorem dX1_asSegment_31 : decode cX1_asSegment 31 = .ok (.getfield 26, 3) := by decide +kernel
theorem dX1_asSegment_34 : decode cX1_asSegment 34 = .ok (.iload_n 3, 1) := by decide +kernel
theorem dX1_asSegment_35 : decode cX1_asSegment 35 = .ok (.aaload, 1) := by decide +kernel
theorem dX1_asSegment_36 : decode cX1_asSegment 36 = .ok (.astore 4, 2) := by decide +kernel
theorem dX1_asSegment_38 : decode cX1_asSegment 38 = .ok (.iconst 0, 1) := by decide +kernel
theorem dX1_asSegment_39 : decode cX1_asSegment 39 = .ok (.istore 5, 2) := by decide +kernel
theorem dX1_asSegment_41 : decode cX1_asSegment 41 = .ok (.iload 5, 2) := by decide +kernel
theorem dX1_asSegment_43 : decode cX1_asSegment 43 = .ok (.aload 4, 2) := by decide +kernel
theorem dX1_asSegment_45 : decode cX1_asSegment 45 = .ok (.getfield 34, 3) := by decide +kernel
theorem dX1_asSegment_48 : decode cX1_asSegment 48 = .ok (.if_icmp .ge 57, 3) := by decide +kernel
theorem dX1_asSegment_51 : decode cX1_asSegment 51 = .ok (.aload 4, 2) := by decide +kernel
theorem dX1_asSegment_53 : decode cX1_asSegment 53 = .ok (.getfield 48, 3) := by decide +kernel
theorem dX1_asSegment_56 : decode cX1_asSegment 56 = .ok (.iload 5, 2) := by decide +kernel
theorem dX1_asSegment_58 : decode cX1_asSegment 58 = .ok (.iaload, 1) := by decide +kernel
theorem dX1_asSegment_59 : decode cX1_asSegment 59 = .ok (.iconst (-1), 1) := by decide +kernel
theorem dX1_asSegment_60 : decode cX1_asSegment 60 = .ok (.if_icmp .eq 39, 3) := by decide +kernel
theorem dX1_asSegment_63 : decode cX1_asSegment 63 = .ok (.aload_n 2, 1) := by decide +kernel
theorem dX1_asSegment_64 : decode cX1_asSegment 64 = .ok (.aload 4, 2) := by decide +kernel
theorem dX1_asSegment_66 : decode cX1_asSegment 66 = .ok (.getfield 48, 3) := by decide +kernel
theorem dX1_asSegment_69 : decode cX1_asSegment 69 = .ok (.iload 5, 2) := by decide +kernel
theorem dX1_asSegment_71 : decode cX1_asSegment 71 = .ok (.iaload, 1) := by decide +kernel
theorem dX1_asSegment_72 : decode cX1_asSegment 72 = .ok (.aload 4, 2) := by decide +kernel
theorem dX1_asSegment_74 : decode cX1_asSegment 74 = .ok (.getfield 51, 3) := by decide +kernel
theorem dX1_asSegment_77 : decode cX1_asSegment 77 = .ok (.iload 5, 2) := by decide +kernel
theorem dX1_asSegment_79 : decode cX1_asSegment 79 = .ok (.iaload, 1) := by decide +kernel
theorem dX1_asSegment_80 : decode cX1_asSegment 80 = .ok (.aload 4, 2) := by decide +kernel
theorem dX1_asSegment_82 : decode cX1_asSegment 82 = .ok (.getfield 60, 3) := by decide +kernel
theorem dX1_asSegment_85 : decode cX1_asSegment 85 = .ok (.iload 5, 2) := by decide +kernel
theorem dX1_asSegment_87 : decode cX1_asSegment 87 = .ok (.iaload, 1) := by decide +kernel
theorem dX1_asSegment_88 : decode cX1_asSegment 88 = .ok (.aload 4, 2) := by decide +kernel
theorem dX1_asSegment_90 : decode cX1_asSegment 90 = .ok (.getfield 44, 3) := by decide +kernel
theorem dX1_asSegment_93 : decode cX1_asSegment 93 = .ok (.iload 5, 2) := by decide +kernel
theorem dX1_asSegment_95 : decode cX1_asSegment 95 = .ok (.baload, 1) := by decide +kernel
theorem dX1_asSegment_96 : decode cX1_asSegment 96 = .ok (.invokevirtual 63, 3) := by decide +kernel
theorem dX1_asSegment_99 : decode cX1_asSegment 99 = .ok (.iinc 5 1, 3) := by decide +kernel
theorem dX1_asSegment_102 : decode cX1_asSegment 102 = .ok (.goto (-61), 3) := by decide +kernel
theorem dX1_asSegment_105 : decode cX1_asSegment 105 = .ok (.iinc 3 1, 3) := by decide +kernel
theorem dX1_asSegment_108 : decode cX1_asSegment 108 = .ok (.goto (-87), 3) := by decide +kernel
theorem dX1_asSegment_111 : decode cX1_asSegment 111 = .ok (.aload_n 2, 1) := by decide +kernel
theorem dX1_asSegment_112 : decode cX1_asSegment 112 = .ok (.areturn, 1) := by decide +kernel
theorem dX1_greatestTier_0 : decode cX1_greatestTier 0 = .ok (.iconst 0, 1) := by decide +kernel
theorem dX1_greatestTier_1 : decode cX1_greatestTier 1 = .ok (.istore_n 1, 1) := by decide +kernel
theorem dX1_greatestTier_2 : decode cX1_greatestTier 2 = .ok (.iconst 0, 1) := by decide +kernel
theorem dX1_greatestTier_3 : decode cX1_greatestTier 3 = .ok (.istore_n 2, 1) := by decide +kernel
theorem dX1_greatestTier_4 : decode cX1_greatestTier 4 = .ok (.iload_n 2, 1) := by decide +kernel
theorem dX1_greatestTier_5 : decode cX1_greatestTier 5 = .ok (.aload_n 0, 1) := by decide +kernel
theorem dX1_greatestTier_6 : decode cX1_greatestTier 6 = .ok (.getfield 26, 3) := by decide +kernel
theorem dX1_greatestTier_9 : decode cX1_greatestTier 9 = .ok (.arraylength, 1) := by decide +kernel
theorem dX1_greatestTier_10 : decode cX1_greatestTier 10 = .ok (.if_icmp .ge 23, 3) := by decide +kernel
theorem dX1_greatestTier_13 : decode cX1_greatestTier 13 = .ok (.iload_n 1, 1) := by decide +kernel
theorem dX1_greatestTier_14 : decode cX1_greatestTier 14 = .ok (.aload_n 0, 1) := by decide +kernel
theorem dX1_greatestTier_15 : decode cX1_greatestTier 15 = .ok (.getfield 26, 3) := by decide +kernel
theorem dX1_greatestTier_18 : decode cX1_greatestTier 18 = .ok (.iload_n 2, 1) := by decide +kernel
theorem dX1_greatestTier_19 : decode cX1_greatestTier 19 = .ok (.aaload, 1) := by decide +kernel
theorem dX1_greatestTier_20 : decode cX1_greatestTier 20 = .ok (.getfield 67, 3) := by decide +kernel
theorem dX1_greatestTier_23 : decode cX1_greatestTier 23 = .ok (.invokestatic 70, 3) := by decide +kernel
theorem dX1_greatestTier_26 : decode cX1_greatestTier 26 = .ok (.istore_n 1, 1) := by decide +kernel
theorem dX1_greatestTier_27 : decode cX1_greatestTier 27 = .ok (.iinc 2 1, 3) := by decide +kernel
theorem dX1_greatestTier_30 : decode cX1_greatestTier 30 = .ok (.goto (-26), 3) := by decide +kernel
theorem dX1_greatestTier_33 : decode cX1_greatestTier 33 = .ok (.iload_n 1, 1) := by decide +kernel
theorem dX1_greatestTier_34 : decode cX1_greatestTier 34 = .ok (.ireturn, 1) := by decide +kernel
theorem dX2_init_0 : decode cX2_init 0 = .ok (.aload_n 0, 1) := by decide +kernel
theorem dX2_init_1 : decode cX2_init 1 = .ok (.invokespecial 1, 3) := by decide +kernel
theorem dX2_init_4 : decode cX2_init 4 = .ok (.aload_n 0, 1) := by decide +kernel
theorem dX2_init_5 : decode cX2_init 5 = .ok (.iconst 0, 1) := by decide +kernel
theorem dX2_init_6 : decode cX2_init 6 = .ok (.putfield 7, 3) := by decide +kernel
theorem dX2_init_9 : decode cX2_init 9 = .ok (.aload_n 0, 1) := by decide +kernel
theorem dX2_init_10 : decode cX2_init 10 = .ok (.iload_n 1, 1) := by decide +kernel
theorem dX2_init_11 : decode cX2_init 11 = .ok (.putfield 13, 3) := by decide +kernel
theorem dX2_init_14 : decode cX2_init 14 = .ok (.aload_n 0, 1) := by decide +kernel
theorem dX2_init_15 : decode cX2_init 15 = .ok (.iload_n 2, 1) := by decide +kernel
theorem dX2_init_16 : decode cX2_init 16 = .ok (.putfield 16, 3) := by decide +kernel
theorem dX2_init_19 : decode cX2_init 19 = .ok (.aload_n 0, 1) := by decide +kernel
theorem dX2_init_20 : decode cX2_init 20 = .ok (.iload_n 3, 1) := by decide +kernel
theorem dX2_init_21 : decode cX2_init 21 = .ok (.putfield 19, 3) := by decide +kernel
theorem dX2_init_24 : decode cX2_init 24 = .ok (.aload_n 0, 1) := by decide +kernel
theorem dX2_init_25 : decode cX2_init 25 = .ok (.iload_n 3, 1) := by decide +kernel
theorem dX2_init_26 : decode cX2_init 26 = .ok (.newarray .int, 2) := by decide +kernel
theorem dX2_init_28 : decode cX2_init 28 = .ok (.putfield 22, 3) := by decide +kernel
theorem dX2_init_31 : decode cX2_init 31 = .ok (.aload_n 0, 1) := by decide +kernel
theorem dX2_init_32 : decode cX2_init 32 = .ok (.iload_n 3, 1) := by decide +kernel
theorem dX2_init_33 : decode cX2_init 33 = .ok (.newarray .int, 2) := by decide +kernel
theorem dX2_init_35 : decode cX2_init 35 = .ok (.putfield 26, 3) := by decide +kernel
theorem dX2_init_38 : decode cX2_init 38 = .ok (.aload_n 0, 1) := by decide +kernel
theorem dX2_init_39 : decode cX2_init 39 = .ok (.iload_n 3, 1) := by decide +kernel
theorem dX2_init_40 : decode cX2_init 40 = .ok (.newarray .boolean, 2) := by decide +kernel
theorem dX2_init_42 : decode cX2_init 42 = .ok (.putfield 29, 3) := by decide +kernel
theorem dX2_init_45 : decode cX2_init 45 = .ok (.aload_n 0, 1) := by decide +kernel
theorem dX2_init_46 : decode cX2_init 46 = .ok (.iload_n 3, 1) := by decide +kernel
theorem dX2_init_47 : decode cX2_init 47 = .ok (.newarray .int, 2) := by decide +kernel
theorem dX2_init_49 : decode cX2_init 49 = .ok (.putfield 33, 3) := by decide +kernel
theorem dX2_init_52 : decode cX2_init 52 = .ok (.return_, 1) := by decide +kernel
theorem dX2_write_0 : decode cX2_write 0 = .ok (.aload_n 0, 1) := by decide +kernel
theorem dX2_write_1 : decode cX2_write 1 = .ok (.getfield 22, 3) := by decide +kernel
theorem dX2_write_4 : decode cX2_write 4 = .ok (.iload_n 1, 1) := by decide +kernel
theorem dX2_write_5 : decode cX2_write 5 = .ok (.iload_n 2, 1) := by decide +kernel
theorem dX2_write_6 : decode cX2_write 6 = .ok (.iastore, 1) := by decide +kernel
theorem dX2_write_7 : decode cX2_write 7 = .ok (.aload_n 0, 1) := by decide +kernel
theorem dX2_write_8 : decode cX2_write 8 = .ok (.getfield 26, 3) := by decide +kernel
theorem dX2_write_11 : decode cX2_write 11 = .ok (.iload_n 1, 1) := by decide +kernel
theorem dX2_write_12 : decode cX2_write 12 = .ok (.iload_n 3, 1) := by decide +kernel
theorem dX2_write_13 : decode cX2_write 13 = .ok (.iastore, 1) := by decide +kernel
theorem dX2_write_14 : decode cX2_write 14 = .ok (.aload_n 0, 1) := by decide +kernel
theorem dX2_write_15 : decode cX2_write 15 = .ok (.getfield 29, 3) := by decide +kernel
theorem dX2_write_18 : decode cX2_write 18 = .ok (.iload_n 1, 1) := by decide +kernel
theorem dX2_write_19 : decode cX2_write 19 = .ok (.iload 4, 2) := by decide +kernel
theorem dX2_write_21 : decode cX2_write 21 = .ok (.bastore, 1) := by decide +kernel
theorem dX2_write_22 : decode cX2_write 22 = .ok (.iload 4, 2) := by decide +kernel
theorem dX2_write_24 : decode cX2_write 24 = .ok (.ifCond .eq 13, 3) := by decide +kernel
theorem dX2_write_27 : decode cX2_write 27 = .ok (.aload_n 0, 1) := by decide +kernel
theorem dX2_write_28 : decode cX2_write 28 = .ok (.dup, 1) := by decide +kernel
theorem dX2_write_29 : decode cX2_write 29 = .ok (.getfield 7, 3) := by decide +kernel
theorem dX2_write_32 : decode cX2_write 32 = .ok (.iconst 1, 1) := by decide +kernel
theorem dX2_write_33 : decode cX2_write 33 = .ok (.iadd, 1) := by decide +kernel
theorem dX2_write_34 : decode cX2_write 34 = .ok (.putfield 7, 3) := by decide +kernel
theorem dX2_write_37 : decode cX2_write 37 = .ok (.return_, 1) := by decide +kernel
theorem dX2_hasRow_0 : decode cX2_hasRow 0 = .ok (.iload_n 1, 1) := by decide +kernel
theorem dX2_hasRow_1 : decode cX2_hasRow 1 = .ok (.ifCond .lt 15, 3) := by decide +kernel
theorem dX2_hasRow_4 : decode cX2_hasRow 4 = .ok (.iload_n 1, 1) := by decide +kernel
theorem dX2_hasRow_5 : decode cX2_hasRow 5 = .ok (.aload_n 0, 1) := by decide +kernel
theorem dX2_hasRow_6 : decode cX2_hasRow 6 = .ok (.getfield 19, 3) := by decide +kernel
theorem dX2_hasRow_9 : decode cX2_hasRow 9 = .ok (.if_icmp .ge 7, 3) := by decide +kernel
theorem dX2_hasRow_12 : decode cX2_hasRow 12 = .ok (.iconst 1, 1) := by decide +kernel
theorem dX2_hasRow_13 : decode cX2_hasRow 13 = .ok (.goto 4, 3) := by decide +kernel
theorem dX2_hasRow_16 : decode cX2_hasRow 16 = .ok (.iconst 0, 1) := by decide +kernel
theorem dX2_hasRow_17 : decode cX2_hasRow 17 = .ok (.ireturn, 1) := by decide +kernel
theorem dX2_kill_0 : decode cX2_kill 0 = .ok (.iconst 0, 1) := by decide +kernel
theorem dX2_kill_1 : decode cX2_kill 1 = .ok (.istore_n 2, 1) := by decide +kernel
theorem dX2_kill_2 : decode cX2_kill 2 = .ok (.iload_n 2, 1) := by decide +kernel
theorem dX2_kill_3 : decode cX2_kill 3 = .ok (.aload_n 0, 1) := by decide +kernel
theorem dX2_kill_4 : decode cX2_kill 4 = .ok (.getfield 19, 3) := by decide +kernel
theorem dX2_kill_7 : decode cX2_kill 7 = .ok (.if_icmp .ge 55, 3) := by decide +kernel
theorem dX2_kill_10 : decode cX2_kill 10 = .ok (.aload_n 0, 1) := by decide +kernel
theorem dX2_kill_11 : decode cX2_kill 11 = .ok (.getfield 22, 3) := by decide +kernel
theorem dX2_kill_14 : decode cX2_kill 14 = .ok (.iload_n 2, 1) := by decide +kernel
theorem dX2_kill_15 : decode cX2_kill 15 = .ok (.iaload, 1) := by decide +kernel
theorem dX2_kill_16 : decode cX2_kill 16 = .ok (.iload_n 1, 1) := by decide +kernel
theorem dX2_kill_17 : decode cX2_kill 17 = .ok (.if_icmp .gt 45, 3) := by decide +kernel
theorem dX2_kill_20 : decode cX2_kill 20 = .ok (.aload_n 0, 1) := by decide +kernel
theorem dX2_kill_21 : decode cX2_kill 21 = .ok (.getfield 22, 3) := by decide +kernel
theorem dX2_kill_24 : decode cX2_kill 24 = .ok (.iload_n 2, 1) := by decide +kernel
theorem dX2_kill_25 : decode cX2_kill 25 = .ok (.iaload, 1) := by decide +kernel
theorem dX2_kill_26 : decode cX2_kill 26 = .ok (.iload_n 1, 1) := by decide +kernel
theorem dX2_kill_27 : decode cX2_kill 27 = .ok (.if_icmp .ne 29, 3) := by decide +kernel
theorem dX2_kill_30 : decode cX2_kill 30 = .ok (.aload_n 0, 1) := by decide +kernel
theorem dX2_kill_31 : decode cX2_kill 31 = .ok (.getfield 29, 3) := by decide +kernel
theorem dX2_kill_34 : decode cX2_kill 34 = .ok (.iload_n 2, 1) := by decide +kernel
theorem dX2_kill_35 : decode cX2_kill 35 = .ok (.baload, 1) := by decide +kernel
theorem dX2_kill_36 : decode cX2_kill 36 = .ok (.ifCond .eq 20, 3) := by decide +kernel
theorem dX2_kill_39 : decode cX2_kill 39 = .ok (.aload_n 0, 1) := by decide +kernel
theorem dX2_kill_40 : decode cX2_kill 40 = .ok (.getfield 29, 3) := by decide +kernel
theorem dX2_kill_43 : decode cX2_kill 43 = .ok (.iload_n 2, 1) := by decide +kernel
theorem dX2_kill_44 : decode cX2_kill 44 = .ok (.iconst 0, 1) := by decide +kernel
theorem dX2_kill_45 : decode cX2_kill 45 = .ok (.bastore, 1) := by decide +kernel
theorem dX2_kill_46 : decode cX2_kill 46 = .ok (.aload_n 0, 1) := by decide +kernel
theorem dX2_kill_47 : decode cX2_kill 47 = .ok (.dup, 1) := by decide +kernel
theorem dX2_kill_48 : decode cX2_kill 48 = .ok (.getfield 7, 3) := by decide +kernel
theorem dX2_kill_51 : decode cX2_kill 51 = .ok (.iconst 1, 1) := by decide +kernel
theorem dX2_kill_52 : decode cX2_kill 52 = .ok (.isub, 1) := by decide +kernel
theorem dX2_kill_53 : decode cX2_kill 53 = .ok (.putfield 7, 3) := by decide +kernel
theorem dX2_kill_56 : decode cX2_kill 56 = .ok (.iinc 2 1, 3) := by decide +kernel
theorem dX2_kill_59 : decode cX2_kill 59 = .ok (.goto (-57), 3) := by decide +kernel
theorem dX2_kill_62 : decode cX2_kill 62 = .ok (.return_, 1) := by decide +kernel
theorem dX2_isDeaderThan_0 : decode cX2_isDeaderThan 0 = .ok (.aload_n 0, 1) := by decide +kernel
theorem dX2_isDeaderThan_1 : decode cX2_isDeaderThan 1 = .ok (.getfield 19, 3) := by decide +kernel
theorem dX2_isDeaderThan_4 : decode cX2_isDeaderThan 4 = .ok (.aload_n 0, 1) := by decide +kernel
theorem dX2_isDeaderThan_5 : decode cX2_isDeaderThan 5 = .ok (.getfield 7, 3) := by decide +kernel
theorem dX2_isDeaderThan_8 : decode cX2_isDeaderThan 8 = .ok (.isub, 1) := by decide +kernel
theorem dX2_isDeaderThan_9 : decode cX2_isDeaderThan 9 = .ok (.aload_n 1, 1) := by decide +kernel
theorem dX2_isDeaderThan_10 : decode cX2_isDeaderThan 10 = .ok (.getfield 19, 3) := by decide +kernel
theorem dX2_isDeaderThan_13 : decode cX2_isDeaderThan 13 = .ok (.imul, 1) := by decide +kernel
theorem dX2_isDeaderThan_14 : decode cX2_isDeaderThan 14 = .ok (.aload_n 1, 1) := by decide +kernel
theorem dX2_isDeaderThan_15 : decode cX2_isDeaderThan 15 = .ok (.getfield 19, 3) := by decide +kernel
theorem dX2_isDeaderThan_18 : decode cX2_isDeaderThan 18 = .ok (.aload_n 1, 1) := by decide +kernel
theorem dX2_isDeaderThan_19 : decode cX2_isDeaderThan 19 = .ok (.getfield 7, 3) := by decide +kernel
theorem dX2_isDeaderThan_22 : decode cX2_isDeaderThan 22 = .ok (.isub, 1) := by decide +kernel
theorem dX2_isDeaderThan_23 : decode cX2_isDeaderThan 23 = .ok (.aload_n 0, 1) := by decide +kernel
theorem dX2_isDeaderThan_24 : decode cX2_isDeaderThan 24 = .ok (.getfield 19, 3) := by decide +kernel
theorem dX2_isDeaderThan_27 : decode cX2_isDeaderThan 27 = .ok (.imul, 1) := by decide +kernel
theorem dX2_isDeaderThan_28 : decode cX2_isDeaderThan 28 = .ok (.if_icmp .le 7, 3) := by decide +kernel
theorem dX2_isDeaderThan_31 : decode cX2_isDeaderThan 31 = .ok (.iconst 1, 1) := by decide +kernel
theorem dX2_isDeaderThan_32 : decode cX2_isDeaderThan 32 = .ok (.goto 4, 3) := by decide +kernel
theorem dX2_isDeaderThan_35 : decode cX2_isDeaderThan 35 = .ok (.iconst 0, 1) := by decide +kernel
theorem dX2_isDeaderThan_36 : decode cX2_isDeaderThan 36 = .ok (.ireturn, 1) := by decide +kernel
set_option maxRecDepth 20000 in
theorem ggX3_init_X0_init : GoodIn wsX3_init wsX0_init := goodIn_r _ [23, 24, 2, 3, 4, 25, 26, 27, 43, 44, 45] (by decide +kernel) (by decide +kernel)
set_option maxRecDepth 20000 in
theorem gX3_init_X0_init_n15 : GoodIn wsX3_init (wsX0_init) := ggX3_init_X0_init
set_option maxRecDepth 20000 in
theorem ggX3_init_J7_fill_53178 : GoodIn wsX3_init wsJ7_fill_53178 := goodIn_r _ [31] (by decide +kernel) (by decide +kernel)
set_option maxRecDepth 20000 in
theorem gX3_init_J7_fill_53178 : GoodIn wsX3_init (va_wsS RX3 55 yJ7_fill_53178 wsJ7_fill_53178) := goodIn_app (goodIn_of _ (by decide +kernel)) ggX3_init_J7_fill_53178
theorem dX3_init_0 : decode cX3_init 0 = .ok (.aload_n 0, 1) := by decide +kernel
theorem dX3_init_1 : decode cX3_init 1 = .ok (.invokespecial 1, 3) := by decide +kernel
theorem dX3_init_4 : decode cX3_init 4 = .ok (.aload_n 0, 1) := by decide +kernel
theorem dX3_init_5 : decode cX3_init 5 = .ok (.bipush 100, 2) := by decide +kernel
theorem dX3_init_7 : decode cX3_init 7 = .ok (.newarray .int, 2) := by decide +kernel
theorem dX3_init_9 : decode cX3_init 9 = .ok (.putfield 9, 3) := by decide +kernel
theorem dX3_init_12 : decode cX3_init 12 = .ok (.aload_n 0, 1) := by decide +kernel
theorem dX3_init_13 : decode cX3_init 13 = .ok (.new 13, 3) := by decide +kernel
theorem dX3_init_16 : decode cX3_init 16 = .ok (.dup, 1) := by decide +kernel
theorem dX3_init_17 : decode cX3_init 17 = .ok (.invokespecial 15, 3) := by decide +kernel
theorem dX3_init_20 : decode cX3_init 20 = .ok (.putfield 16, 3) := by decide +kernel
theorem dX3_init_23 : decode cX3_init 23 = .ok (.aload_n 0, 1) := by decide +kernel
theorem dX3_init_24 : decode cX3_init 24 = .ok (.bipush 20, 2) := by decide +kernel
theorem dX3_init_26 : decode cX3_init 26 = .ok (.anewarray 20, 3) := by decide +kernel
theorem dX3_init_29 : decode cX3_init 29 = .ok (.putfield 22, 3) := by decide +kernel
theorem dX3_init_32 : decode cX3_init 32 = .ok (.aload_n 0, 1) := by decide +kernel
theorem dX3_init_33 : decode cX3_init 33 = .ok (.iconst 0, 1) := by decide +kernel
theorem dX3_init_34 : decode cX3_init 34 = .ok (.putfield 26, 3) := by decide +kernel
theorem dX3_init_37 : decode cX3_init 37 = .ok (.aload_n 0, 1) := by decide +kernel
theorem dX3_init_38 : decode cX3_init 38 = .ok (.iconst 0, 1) := by decide +kernel
theorem dX3_init_39 : decode cX3_init 39 = .ok (.putfield 30, 3) := by decide +kernel
theorem dX3_init_42 : decode cX3_init 42 = .ok (.aload_n 0, 1) := by decide +kernel
theorem dX3_init_43 : decode cX3_init 43 = .ok (.iconst 0, 1) := by decide +kernel
theorem dX3_init_44 : decode cX3_init 44 = .ok (.putfield 33, 3) := by decide +kernel
theorem dX3_init_47 : decode cX3_init 47 = .ok (.aload_n 0, 1) := by decide +kernel
theorem dX3_init_48 : decode cX3_init 48 = .ok (.iconst 3, 1) := by decide +kernel
theorem dX3_init_49 : decode cX3_init 49 = .ok (.putfield 36, 3) := by decide +kernel
theorem dX3_init_52 : decode cX3_init 52 = .ok (.aload_n 0, 1) := by decide +kernel
theorem dX3_init_53 : decode cX3_init 53 = .ok (.aconst_null, 1) := by decide +kernel
theorem dX3_init_54 : decode cX3_init 54 = .ok (.putfield 39, 3) := by decide +kernel
theorem dX3_init_57 : decode cX3_init 57 = .ok (.aload_n 0, 1) := by decide +kernel
theorem dX3_init_58 : decode cX3_init 58 = .ok (.aconst_null, 1) := by decide +kernel
theorem dX3_init_59 : decode cX3_init 59 = .ok (.putfield 43, 3) := by decide +kernel
theorem dX3_init_62 : decode cX3_init 62 = .ok (.aload_n 0, 1) := by decide +kernel
theorem dX3_init_63 : decode cX3_init 63 = .ok (.iconst 4, 1) := by decide +kernel
theorem dX3_init_64 : decode cX3_init 64 = .ok (.bipush 100, 2) := by decide +kernel
theorem dX3_init_66 : decode cX3_init 66 = .ok (.multianewarray 46 2, 4) := by decide +kernel
theorem dX3_init_70 : decode cX3_init 70 = .ok (.putfield 48, 3) := by decide +kernel
theorem dX3_init_73 : decode cX3_init 73 = .ok (.aload_n 0, 1) := by decide +kernel
theorem dX3_init_74 : decode cX3_init 74 = .ok (.iconst 4, 1) := by decide +kernel
theorem dX3_init_75 : decode cX3_init 75 = .ok (.newarray .boolean, 2) := by decide +kernel
theorem dX3_init_77 : decode cX3_init 77 = .ok (.putfield 51, 3) := by decide +kernel
theorem dX3_init_80 : decode cX3_init 80 = .ok (.aload_n 0, 1) := by decide +kernel
theorem dX3_init_81 : decode cX3_init 81 = .ok (.getfield 9, 3) := by decide +kernel
theorem dX3_init_84 : decode cX3_init 84 = .ok (.iconst (-1), 1) := by decide +kernel
theorem dX3_init_85 : decode cX3_init 85 = .ok (.invokestatic 55, 3) := by decide +kernel
theorem dX3_init_88 : decode cX3_init 88 = .ok (.return_, 1) := by decide +kernel
set_option maxRecDepth 20000 in
theorem ggX3_put_X3_isKey : GoodIn wsX3_put wsX3_isKey := goodIn_r _ [8] (by decide +kernel) (by decide +kernel)
set_option maxRecDepth 20000 in
theorem gX3_put_X3_isKey : GoodIn wsX3_put (va_wsS RX3 61 yX3_isKey wsX3_isKey) := goodIn_app (goodIn_of _ (by decide +kernel)) ggX3_put_X3_isKey
set_option maxRecDepth 20000 in
theorem ggX3_put_X0_find : GoodIn wsX3_put wsX0_find := goodIn_r _ [13, 14, 15, 47, 48, 49] (by decide +kernel) (by decide +kernel)
set_option maxRecDepth 20000 in
theorem gX3_put_X0_find : GoodIn wsX3_put (wsV RX3 65 RX0 yX0_find wsX0_find) := goodIn_app (goodIn_of _ (by decide +kernel)) ggX3_put_X0_find
set_option maxRecDepth 20000 in
theorem ggX3_put_X3_killRowOf : GoodIn wsX3_put wsX3_killRowOf := goodIn_r _ [19, 20, 21, 22, 23, 24, 25, 26, 27, 28, 29, 30, 36, 37, 38, 39, 40, 41, 42, 43, 44, 45, 46, 50, 51, 52, 53, 54, 55, 56, 57] (by decide +kernel) (by decide +kernel)
set_option maxRecDepth 20000 in
theorem gX3_put_X3_killRowOf : GoodIn wsX3_put (wsV RX3 72 RX3 yX3_killRowOf wsX3_killRowOf) := goodIn_app (goodIn_of _ (by decide +kernel)) ggX3_put_X3_killRowOf
set_option maxRecDepth 20000 in
theorem ggX3_put_X0_append : GoodIn wsX3_put wsX0_append := goodIn_r _ [34, 15, 14, 35, 47, 48, 49] (by decide +kernel) (by decide +kernel)
set_option maxRecDepth 20000 in
theorem gX3_put_X0_append : GoodIn wsX3_put (wsV RX3 76 RX0 yX0_append wsX0_append) := goodIn_app (goodIn_of _ (by decide +kernel)) ggX3_put_X0_append
theorem dX3_put_0 : decode cX3_put 0 = .ok (.iload_n 1, 1) := by decide +kernel
theorem dX3_put_1 : decode cX3_put 1 = .ok (.invokestatic 61, 3) := by decide +kernel
theorem dX3_put_4 : decode cX3_put 4 = .ok (.ifCond .ne 5, 3) := by decide +kernel
theorem dX3_put_7 : decode cX3_put 7 = .ok (.iconst (-1), 1) := by decide +kernel
theorem dX3_put_8 : decode cX3_put 8 = .ok (.ireturn, 1) := by decide +kernel
theorem dX3_put_9 : decode cX3_put 9 = .ok (.iload_n 2, 1) := by decide +kernel
theorem dX3_put_10 : decode cX3_put 10 = .ok (.ifCond .lt 10, 3) := by decide +kernel
theorem dX3_put_13 : decode cX3_put 13 = .ok (.iload_n 2, 1) := by decide +kernel
theorem dX3_put_14 : decode cX3_put 14 = .ok (.sipush 1000, 3) := by decide +kernel
theorem dX3_put_17 : decode cX3_put 17 = .ok (.if_icmp .lt 6, 3) := by decide +kernel
theorem dX3_put_20 : decode cX3_put 20 = .ok (.bipush (-2), 2) := by decide +kernel
theorem dX3_put_22 : decode cX3_put 22 = .ok (.ireturn, 1) := by decide +kernel
theorem dX3_put_23 : decode cX3_put 23 = .ok (.aload_n 0, 1) := by decide +kernel
theorem dX3_put_24 : decode cX3_put 24 = .ok (.getfield 16, 3) := by decide +kernel
theorem dX3_put_27 : decode cX3_put 27 = .ok (.iload_n 1, 1) := by decide +kernel
theorem dX3_put_28 : decode cX3_put 28 = .ok (.invokevirtual 65, 3) := by decide +kernel
theorem dX3_put_31 : decode cX3_put 31 = .ok (.istore_n 3, 1) := by decide +kernel
theorem dX3_put_32 : decode cX3_put 32 = .ok (.iload_n 3, 1) := by decide +kernel
theorem dX3_put_33 : decode cX3_put 33 = .ok (.iconst (-1), 1) := by decide +kernel
theorem dX3_put_34 : decode cX3_put 34 = .ok (.if_icmp .ne 18, 3) := by decide +kernel
theorem dX3_put_37 : decode cX3_put 37 = .ok (.aload_n 0, 1) := by decide +kernel
theorem dX3_put_38 : decode cX3_put 38 = .ok (.getfield 16, 3) := by decide +kernel
theorem dX3_put_41 : decode cX3_put 41 = .ok (.getfield 69, 3) := by decide +kernel
theorem dX3_put_44 : decode cX3_put 44 = .ok (.bipush 6, 2) := by decide +kernel
theorem dX3_put_46 : decode cX3_put 46 = .ok (.if_icmp .ne 6, 3) := by decide +kernel
theorem dX3_put_49 : decode cX3_put 49 = .ok (.bipush (-4), 2) := by decide +kernel
theorem dX3_put_51 : decode cX3_put 51 = .ok (.ireturn, 1) := by decide +kernel
theorem dX3_put_52 : decode cX3_put 52 = .ok (.iload_n 3, 1) := by decide +kernel
theorem dX3_put_53 : decode cX3_put 53 = .ok (.iconst (-1), 1) := by decide +kernel
theorem dX3_put_54 : decode cX3_put 54 = .ok (.if_icmp .ne 20, 3) := by decide +kernel
theorem dX3_put_57 : decode cX3_put 57 = .ok (.aload_n 0, 1) := by decide +kernel
theorem dX3_put_58 : decode cX3_put 58 = .ok (.iload_n 1, 1) := by decide +kernel
theorem dX3_put_59 : decode cX3_put 59 = .ok (.invokevirtual 72, 3) := by decide +kernel
theorem dX3_put_62 : decode cX3_put 62 = .ok (.aload_n 0, 1) := by decide +kernel
theorem dX3_put_63 : decode cX3_put 63 = .ok (.getfield 16, 3) := by decide +kernel
theorem dX3_put_66 : decode cX3_put 66 = .ok (.iload_n 1, 1) := by decide +kernel
theorem dX3_put_67 : decode cX3_put 67 = .ok (.iload_n 2, 1) := by decide +kernel
theorem dX3_put_68 : decode cX3_put 68 = .ok (.invokevirtual 76, 3) := by decide +kernel
theorem dX3_put_71 : decode cX3_put 71 = .ok (.goto 13, 3) := by decide +kernel
theorem dX3_put_74 : decode cX3_put 74 = .ok (.aload_n 0, 1) := by decide +kernel
theorem dX3_put_75 : decode cX3_put 75 = .ok (.getfield 16, 3) := by decide +kernel
theorem dX3_put_78 : decode cX3_put 78 = .ok (.getfield 80, 3) := by decide +kernel
theorem dX3_put_81 : decode cX3_put 81 = .ok (.iload_n 3, 1) := by decide +kernel
theorem dX3_put_82 : decode cX3_put 82 = .ok (.iload_n 2, 1) := by decide +kernel
theorem dX3_put_83 : decode cX3_put 83 = .ok (.iastore, 1) := by decide +kernel
theorem dX3_put_84 : decode cX3_put 84 = .ok (.aload_n 0, 1) := by decide +kernel
theorem dX3_put_85 : decode cX3_put 85 = .ok (.getfield 9, 3) := by decide +kernel
theorem dX3_put_88 : decode cX3_put 88 = .ok (.iload_n 1, 1) := by decide +kernel
theorem dX3_put_89 : decode cX3_put 89 = .ok (.iload_n 2, 1) := by decide +kernel
theorem dX3_put_90 : decode cX3_put 90 = .ok (.iastore, 1) := by decide +kernel
theorem dX3_put_91 : decode cX3_put 91 = .ok (.aload_n 0, 1) := by decide +kernel
theorem dX3_put_92 : decode cX3_put 92 = .ok (.getfield 16, 3) := by decide +kernel
theorem dX3_put_95 : decode cX3_put 95 = .ok (.getfield 69, 3) := by decide +kernel
theorem dX3_put_98 : decode cX3_put 98 = .ok (.ireturn, 1) := by decide +kernel
set_option maxRecDepth 20000 in
theorem ggX3_drop_X3_isKey : GoodIn wsX3_drop wsX3_isKey := goodIn_r _ [6] (by decide +kernel) (by decide +kernel)
set_option maxRecDepth 20000 in
theorem gX3_drop_X3_isKey : GoodIn wsX3_drop (va_wsS RX3 61 yX3_isKey wsX3_isKey) := goodIn_app (goodIn_of _ (by decide +kernel)) ggX3_drop_X3_isKey
set_option maxRecDepth 20000 in
theorem ggX3_drop_X0_find : GoodIn wsX3_drop wsX0_find := goodIn_r _ [11, 12, 13, 45, 46, 47] (by decide +kernel) (by decide +kernel)
set_option maxRecDepth 20000 in
theorem gX3_drop_X0_find : GoodIn wsX3_drop (wsV RX3 65 RX0 yX0_find wsX0_find) := goodIn_app (goodIn_of _ (by decide +kernel)) ggX3_drop_X0_find
set_option maxRecDepth 20000 in
theorem ggX3_drop_X3_killRowOf : GoodIn wsX3_drop wsX3_killRowOf := goodIn_r _ [17, 18, 19, 20, 21, 22, 23, 24, 25, 26, 27, 28, 34, 35, 36, 37, 38, 39, 40, 41, 42, 43, 44, 48, 49, 50, 51, 52, 53, 54, 55] (by decide +kernel) (by decide +kernel)
set_option maxRecDepth 20000 in
theorem gX3_drop_X3_killRowOf : GoodIn wsX3_drop (wsV RX3 72 RX3 yX3_killRowOf wsX3_killRowOf) := goodIn_app (goodIn_of _ (by decide +kernel)) ggX3_drop_X3_killRowOf
set_option maxRecDepth 20000 in
theorem ggX3_drop_X0_removeAt : GoodIn wsX3_drop wsX0_removeAt := goodIn_r _ [32, 12, 13, 33, 45, 46, 47] (by decide +kernel) (by decide +kernel)
set_option maxRecDepth 20000 in
theorem gX3_drop_X0_removeAt : GoodIn wsX3_drop (wsV RX3 83 RX0 yX0_removeAt wsX0_removeAt) := goodIn_app (goodIn_of _ (by decide +kernel)) ggX3_drop_X0_removeAt
theorem dX3_drop_0 : decode cX3_drop 0 = .ok (.iload_n 1, 1) := by decide +kernel
theorem dX3_drop_1 : decode cX3_drop 1 = .ok (.invokestatic 61, 3) := by decide +kernel
theorem dX3_drop_4 : decode cX3_drop 4 = .ok (.ifCond .ne 5, 3) := by decide +kernel
theorem dX3_drop_7 : decode cX3_drop 7 = .ok (.iconst (-1), 1) := by decide +kernel
theorem dX3_drop_8 : decode cX3_drop 8 = .ok (.ireturn, 1) := by decide +kernel
theorem dX3_drop_9 : decode cX3_drop 9 = .ok (.aload_n 0, 1) := by decide +kernel
theorem dX3_drop_10 : decode cX3_drop 10 = .ok (.getfield 9, 3) := by decide +kernel
theorem dX3_drop_13 : decode cX3_drop 13 = .ok (.iload_n 1, 1) := by decide +kernel
theorem dX3_drop_14 : decode cX3_drop 14 = .ok (.iaload, 1) := by decide +kernel
theorem dX3_drop_15 : decode cX3_drop 15 = .ok (.iconst (-1), 1) := by decide +kernel
theorem dX3_drop_16 : decode cX3_drop 16 = .ok (.if_icmp .ne 5, 3) := by decide +kernel
theorem dX3_drop_19 : decode cX3_drop 19 = .ok (.iconst 0, 1) := by decide +kernel
theorem dX3_drop_20 : decode cX3_drop 20 = .ok (.ireturn, 1) := by decide +kernel
theorem dX3_drop_21 : decode cX3_drop 21 = .ok (.aload_n 0, 1) := by decide +kernel
theorem dX3_drop_22 : decode cX3_drop 22 = .ok (.getfield 16, 3) := by decide +kernel
theorem dX3_drop_25 : decode cX3_drop 25 = .ok (.iload_n 1, 1) := by decide +kernel
theorem dX3_drop_26 : decode cX3_drop 26 = .ok (.invokevirtual 65, 3) := by decide +kernel
theorem dX3_drop_29 : decode cX3_drop 29 = .ok (.istore_n 2, 1) := by decide +kernel
theorem dX3_drop_30 : decode cX3_drop 30 = .ok (.iload_n 2, 1) := by decide +kernel
theorem dX3_drop_31 : decode cX3_drop 31 = .ok (.iconst (-1), 1) := by decide +kernel
theorem dX3_drop_32 : decode cX3_drop 32 = .ok (.if_icmp .ne 11, 3) := by decide +kernel
end
section
theorem dX3_drop_35 : decode cX3_drop 35 = .ok (.aload_n 0, 1) := by decide +kernel
theorem dX3_drop_36 : decode cX3_drop 36 = .ok (.iload_n 1, 1) := by decide +kernel
theorem dX3_drop_37 : decode cX3_drop 37 = .ok (.invokevirtual 72, 3) := by decide +kernel
theorem dX3_drop_40 : decode cX3_drop 40 = .ok (.goto 11, 3) := by decide +kernel
theorem dX3_drop_43 : decode cX3_drop 43 = .ok (.aload_n 0, 1) := by decide +kernel
theorem dX3_drop_44 : decode cX3_drop 44 = .ok (.getfield 16, 3) := by decide +kernel
theorem dX3_drop_47 : decode cX3_drop 47 = .ok (.iload_n 2, 1) := by decide +kernel
theorem dX3_drop_48 : decode cX3_drop 48 = .ok (.invokevirtual 83, 3) := by decide +kernel
theorem dX3_drop_51 : decode cX3_drop 51 = .ok (.aload_n 0, 1) := by decide +kernel
theorem dX3_drop_52 : decode cX3_drop 52 = .ok (.getfield 9, 3) := by decide +kernel
theorem dX3_drop_55 : decode cX3_drop 55 = .ok (.iload_n 1, 1) := by decide +kernel
theorem dX3_drop_56 : decode cX3_drop 56 = .ok (.iconst (-1), 1) := by decide +kernel
theorem dX3_drop_57 : decode cX3_drop 57 = .ok (.iastore, 1) := by decide +kernel
theorem dX3_drop_58 : decode cX3_drop 58 = .ok (.iconst 1, 1) := by decide +kernel
theorem dX3_drop_59 : decode cX3_drop 59 = .ok (.ireturn, 1) := by decide +kernel
set_option maxRecDepth 20000 in
theorem ggX3_get_X3_isKey : GoodIn wsX3_get wsX3_isKey := goodIn_r _ [5] (by decide +kernel) (by decide +kernel)
set_option maxRecDepth 20000 in
theorem gX3_get_X3_isKey : GoodIn wsX3_get (va_wsS RX3 61 yX3_isKey wsX3_isKey) := goodIn_app (goodIn_of _ (by decide +kernel)) ggX3_get_X3_isKey
theorem dX3_get_0 : decode cX3_get 0 = .ok (.iload_n 1, 1) := by decide +kernel
theorem dX3_get_1 : decode cX3_get 1 = .ok (.invokestatic 61, 3) := by decide +kernel
theorem dX3_get_4 : decode cX3_get 4 = .ok (.ifCond .ne 5, 3) := by decide +kernel
theorem dX3_get_7 : decode cX3_get 7 = .ok (.iconst (-1), 1) := by decide +kernel
theorem dX3_get_8 : decode cX3_get 8 = .ok (.ireturn, 1) := by decide +kernel
theorem dX3_get_9 : decode cX3_get 9 = .ok (.aload_n 0, 1) := by decide +kernel
theorem dX3_get_10 : decode cX3_get 10 = .ok (.getfield 9, 3) := by decide +kernel
theorem dX3_get_13 : decode cX3_get 13 = .ok (.iload_n 1, 1) := by decide +kernel
theorem dX3_get_14 : decode cX3_get 14 = .ok (.iaload, 1) := by decide +kernel
theorem dX3_get_15 : decode cX3_get 15 = .ok (.iconst (-1), 1) := by decide +kernel
theorem dX3_get_16 : decode cX3_get 16 = .ok (.if_icmp .ne 8, 3) := by decide +kernel
theorem dX3_get_19 : decode cX3_get 19 = .ok (.bipush (-3), 2) := by decide +kernel
theorem dX3_get_21 : decode cX3_get 21 = .ok (.goto 9, 3) := by decide +kernel
theorem dX3_get_24 : decode cX3_get 24 = .ok (.aload_n 0, 1) := by decide +kernel
theorem dX3_get_25 : decode cX3_get 25 = .ok (.getfield 9, 3) := by decide +kernel
theorem dX3_get_28 : decode cX3_get 28 = .ok (.iload_n 1, 1) := by decide +kernel
theorem dX3_get_29 : decode cX3_get 29 = .ok (.iaload, 1) := by decide +kernel
theorem dX3_get_30 : decode cX3_get 30 = .ok (.ireturn, 1) := by decide +kernel
set_option maxRecDepth 20000 in
theorem ggX3_next_X3_isKey : GoodIn wsX3_next wsX3_isKey := goodIn_r _ [5] (by decide +kernel) (by decide +kernel)
set_option maxRecDepth 20000 in
theorem gX3_next_X3_isKey : GoodIn wsX3_next (va_wsS RX3 61 yX3_isKey wsX3_isKey) := goodIn_app (goodIn_of _ (by decide +kernel)) ggX3_next_X3_isKey
theorem dX3_next_0 : decode cX3_next 0 = .ok (.iload_n 1, 1) := by decide +kernel
theorem dX3_next_1 : decode cX3_next 1 = .ok (.invokestatic 61, 3) := by decide +kernel
theorem dX3_next_4 : decode cX3_next 4 = .ok (.ifCond .ne 5, 3) := by decide +kernel
theorem dX3_next_7 : decode cX3_next 7 = .ok (.iconst (-1), 1) := by decide +kernel
theorem dX3_next_8 : decode cX3_next 8 = .ok (.ireturn, 1) := by decide +kernel
theorem dX3_next_9 : decode cX3_next 9 = .ok (.iload_n 1, 1) := by decide +kernel
theorem dX3_next_10 : decode cX3_next 10 = .ok (.istore_n 2, 1) := by decide +kernel
theorem dX3_next_11 : decode cX3_next 11 = .ok (.iload_n 2, 1) := by decide +kernel
theorem dX3_next_12 : decode cX3_next 12 = .ok (.bipush 100, 2) := by decide +kernel
theorem dX3_next_14 : decode cX3_next 14 = .ok (.if_icmp .ge 21, 3) := by decide +kernel
theorem dX3_next_17 : decode cX3_next 17 = .ok (.aload_n 0, 1) := by decide +kernel
theorem dX3_next_18 : decode cX3_next 18 = .ok (.getfield 9, 3) := by decide +kernel
theorem dX3_next_21 : decode cX3_next 21 = .ok (.iload_n 2, 1) := by decide +kernel
theorem dX3_next_22 : decode cX3_next 22 = .ok (.iaload, 1) := by decide +kernel
theorem dX3_next_23 : decode cX3_next 23 = .ok (.iconst (-1), 1) := by decide +kernel
theorem dX3_next_24 : decode cX3_next 24 = .ok (.if_icmp .eq 5, 3) := by decide +kernel
theorem dX3_next_27 : decode cX3_next 27 = .ok (.iload_n 2, 1) := by decide +kernel
theorem dX3_next_28 : decode cX3_next 28 = .ok (.ireturn, 1) := by decide +kernel
theorem dX3_next_29 : decode cX3_next 29 = .ok (.iinc 2 1, 3) := by decide +kernel
theorem dX3_next_32 : decode cX3_next 32 = .ok (.goto (-21), 3) := by decide +kernel
theorem dX3_next_35 : decode cX3_next 35 = .ok (.bipush (-3), 2) := by decide +kernel
theorem dX3_next_37 : decode cX3_next 37 = .ok (.ireturn, 1) := by decide +kernel
set_option maxRecDepth 20000 in
theorem ggX3_flush_X0_asSegment : GoodIn wsX3_flush wsX0_asSegment := goodIn_r _ [13, 14, 15, 16, 17, 18, 19, 20, 21, 22, 23, 24, 25, 26, 27, 28, 29, 30, 31, 32, 33, 34, 35, 36, 37, 38, 12, 39, 40, 41, 42, 43, 58, 59, 60, 61, 62, 63, 64, 65, 55, 56, 57] (by decide +kernel) (by decide +kernel)
set_option maxRecDepth 20000 in
theorem gX3_flush_X0_asSegment : GoodIn wsX3_flush (wsV RX3 86 RX0 yX0_asSegment wsX0_asSegment) := goodIn_app (goodIn_of _ (by decide +kernel)) ggX3_flush_X0_asSegment
theorem dX3_flush_0 : decode cX3_flush 0 = .ok (.aload_n 0, 1) := by decide +kernel
theorem dX3_flush_1 : decode cX3_flush 1 = .ok (.getfield 16, 3) := by decide +kernel
theorem dX3_flush_4 : decode cX3_flush 4 = .ok (.getfield 69, 3) := by decide +kernel
theorem dX3_flush_7 : decode cX3_flush 7 = .ok (.ifCond .ne 6, 3) := by decide +kernel
theorem dX3_flush_10 : decode cX3_flush 10 = .ok (.bipush (-3), 2) := by decide +kernel
theorem dX3_flush_12 : decode cX3_flush 12 = .ok (.ireturn, 1) := by decide +kernel
theorem dX3_flush_13 : decode cX3_flush 13 = .ok (.aload_n 0, 1) := by decide +kernel
theorem dX3_flush_14 : decode cX3_flush 14 = .ok (.getfield 26, 3) := by decide +kernel
theorem dX3_flush_17 : decode cX3_flush 17 = .ok (.bipush 20, 2) := by decide +kernel
theorem dX3_flush_19 : decode cX3_flush 19 = .ok (.if_icmp .ne 6, 3) := by decide +kernel
theorem dX3_flush_22 : decode cX3_flush 22 = .ok (.bipush (-4), 2) := by decide +kernel
theorem dX3_flush_24 : decode cX3_flush 24 = .ok (.ireturn, 1) := by decide +kernel
theorem dX3_flush_25 : decode cX3_flush 25 = .ok (.aload_n 0, 1) := by decide +kernel
theorem dX3_flush_26 : decode cX3_flush 26 = .ok (.getfield 16, 3) := by decide +kernel
theorem dX3_flush_29 : decode cX3_flush 29 = .ok (.aload_n 0, 1) := by decide +kernel
theorem dX3_flush_30 : decode cX3_flush 30 = .ok (.getfield 30, 3) := by decide +kernel
theorem dX3_flush_33 : decode cX3_flush 33 = .ok (.invokevirtual 86, 3) := by decide +kernel
theorem dX3_flush_36 : decode cX3_flush 36 = .ok (.astore_n 1, 1) := by decide +kernel
theorem dX3_flush_37 : decode cX3_flush 37 = .ok (.aload_n 0, 1) := by decide +kernel
theorem dX3_flush_38 : decode cX3_flush 38 = .ok (.getfield 22, 3) := by decide +kernel
theorem dX3_flush_41 : decode cX3_flush 41 = .ok (.aload_n 0, 1) := by decide +kernel
theorem dX3_flush_42 : decode cX3_flush 42 = .ok (.getfield 26, 3) := by decide +kernel
theorem dX3_flush_45 : decode cX3_flush 45 = .ok (.aload_n 1, 1) := by decide +kernel
theorem dX3_flush_46 : decode cX3_flush 46 = .ok (.aastore, 1) := by decide +kernel
theorem dX3_flush_47 : decode cX3_flush 47 = .ok (.aload_n 0, 1) := by decide +kernel
theorem dX3_flush_48 : decode cX3_flush 48 = .ok (.dup, 1) := by decide +kernel
theorem dX3_flush_49 : decode cX3_flush 49 = .ok (.getfield 26, 3) := by decide +kernel
theorem dX3_flush_52 : decode cX3_flush 52 = .ok (.iconst 1, 1) := by decide +kernel
theorem dX3_flush_53 : decode cX3_flush 53 = .ok (.iadd, 1) := by decide +kernel
theorem dX3_flush_54 : decode cX3_flush 54 = .ok (.putfield 26, 3) := by decide +kernel
theorem dX3_flush_57 : decode cX3_flush 57 = .ok (.aload_n 0, 1) := by decide +kernel
theorem dX3_flush_58 : decode cX3_flush 58 = .ok (.dup, 1) := by decide +kernel
theorem dX3_flush_59 : decode cX3_flush 59 = .ok (.getfield 30, 3) := by decide +kernel
theorem dX3_flush_62 : decode cX3_flush 62 = .ok (.iconst 1, 1) := by decide +kernel
theorem dX3_flush_63 : decode cX3_flush 63 = .ok (.iadd, 1) := by decide +kernel
theorem dX3_flush_64 : decode cX3_flush 64 = .ok (.putfield 30, 3) := by decide +kernel
theorem dX3_flush_67 : decode cX3_flush 67 = .ok (.aload_n 0, 1) := by decide +kernel
theorem dX3_flush_68 : decode cX3_flush 68 = .ok (.dup, 1) := by decide +kernel
theorem dX3_flush_69 : decode cX3_flush 69 = .ok (.getfield 33, 3) := by decide +kernel
theorem dX3_flush_72 : decode cX3_flush 72 = .ok (.aload_n 1, 1) := by decide +kernel
theorem dX3_flush_73 : decode cX3_flush 73 = .ok (.getfield 90, 3) := by decide +kernel
theorem dX3_flush_76 : decode cX3_flush 76 = .ok (.iadd, 1) := by decide +kernel
theorem dX3_flush_77 : decode cX3_flush 77 = .ok (.putfield 33, 3) := by decide +kernel
theorem dX3_flush_80 : decode cX3_flush 80 = .ok (.aload_n 0, 1) := by decide +kernel
theorem dX3_flush_81 : decode cX3_flush 81 = .ok (.getfield 16, 3) := by decide +kernel
theorem dX3_flush_84 : decode cX3_flush 84 = .ok (.iconst 0, 1) := by decide +kernel
theorem dX3_flush_85 : decode cX3_flush 85 = .ok (.putfield 69, 3) := by decide +kernel
theorem dX3_flush_88 : decode cX3_flush 88 = .ok (.aload_n 1, 1) := by decide +kernel
theorem dX3_flush_89 : decode cX3_flush 89 = .ok (.getfield 91, 3) := by decide +kernel
theorem dX3_flush_92 : decode cX3_flush 92 = .ok (.ireturn, 1) := by decide +kernel
set_option maxRecDepth 20000 in
theorem ggX3_count_X3_rowsInSegments : GoodIn wsX3_count wsX3_rowsInSegments := goodIn_r _ [9, 3, 10, 11, 17, 18, 19, 20, 21, 22, 23, 24, 25, 26, 27, 31, 32, 33, 34, 35, 36, 37, 38] (by decide +kernel) (by decide +kernel)
set_option maxRecDepth 20000 in
theorem gX3_count_X3_rowsInSegments : GoodIn wsX3_count (wsV RX3 94 RX3 yX3_rowsInSegments wsX3_rowsInSegments) := goodIn_app (goodIn_of _ (by decide +kernel)) ggX3_count_X3_rowsInSegments
set_option maxRecDepth 20000 in
theorem ggX3_count_X3_livingFrom : GoodIn wsX3_count wsX3_livingFrom := goodIn_r _ [15, 10, 16, 17, 18, 19, 20, 21, 22, 23, 24, 25, 26, 27, 31, 32, 33, 34, 35, 36, 37, 38] (by decide +kernel) (by decide +kernel)
set_option maxRecDepth 20000 in
theorem gX3_count_X3_livingFrom : GoodIn wsX3_count (wsV RX3 98 RX3 yX3_livingFrom wsX3_livingFrom) := goodIn_app (goodIn_of _ (by decide +kernel)) ggX3_count_X3_livingFrom
theorem dX3_count_0 : decode cX3_count 0 = .ok (.iload_n 1, 1) := by decide +kernel
theorem dX3_count_1 : decode cX3_count 1 = .ok (.tableswitch 90 0 5 #[39, 47, 52, 57, 67, 72], 39) := by decide +kernel
theorem dX3_count_40 : decode cX3_count 40 = .ok (.aload_n 0, 1) := by decide +kernel
theorem dX3_count_41 : decode cX3_count 41 = .ok (.getfield 16, 3) := by decide +kernel
theorem dX3_count_44 : decode cX3_count 44 = .ok (.getfield 69, 3) := by decide +kernel
theorem dX3_count_47 : decode cX3_count 47 = .ok (.ireturn, 1) := by decide +kernel
theorem dX3_count_48 : decode cX3_count 48 = .ok (.aload_n 0, 1) := by decide +kernel
theorem dX3_count_49 : decode cX3_count 49 = .ok (.getfield 26, 3) := by decide +kernel
theorem dX3_count_52 : decode cX3_count 52 = .ok (.ireturn, 1) := by decide +kernel
theorem dX3_count_53 : decode cX3_count 53 = .ok (.aload_n 0, 1) := by decide +kernel
theorem dX3_count_54 : decode cX3_count 54 = .ok (.invokevirtual 94, 3) := by decide +kernel
theorem dX3_count_57 : decode cX3_count 57 = .ok (.ireturn, 1) := by decide +kernel
theorem dX3_count_58 : decode cX3_count 58 = .ok (.aload_n 0, 1) := by decide +kernel
theorem dX3_count_59 : decode cX3_count 59 = .ok (.iconst 0, 1) := by decide +kernel
theorem dX3_count_60 : decode cX3_count 60 = .ok (.aload_n 0, 1) := by decide +kernel
theorem dX3_count_61 : decode cX3_count 61 = .ok (.getfield 26, 3) := by decide +kernel
theorem dX3_count_64 : decode cX3_count 64 = .ok (.invokevirtual 98, 3) := by decide +kernel
theorem dX3_count_67 : decode cX3_count 67 = .ok (.ireturn, 1) := by decide +kernel
theorem dX3_count_68 : decode cX3_count 68 = .ok (.aload_n 0, 1) := by decide +kernel
theorem dX3_count_69 : decode cX3_count 69 = .ok (.getfield 33, 3) := by decide +kernel
theorem dX3_count_72 : decode cX3_count 72 = .ok (.ireturn, 1) := by decide +kernel
theorem dX3_count_73 : decode cX3_count 73 = .ok (.aload_n 0, 1) := by decide +kernel
theorem dX3_count_74 : decode cX3_count 74 = .ok (.getfield 16, 3) := by decide +kernel
theorem dX3_count_77 : decode cX3_count 77 = .ok (.getfield 69, 3) := by decide +kernel
theorem dX3_count_80 : decode cX3_count 80 = .ok (.aload_n 0, 1) := by decide +kernel
theorem dX3_count_81 : decode cX3_count 81 = .ok (.iconst 0, 1) := by decide +kernel
theorem dX3_count_82 : decode cX3_count 82 = .ok (.aload_n 0, 1) := by decide +kernel
theorem dX3_count_83 : decode cX3_count 83 = .ok (.getfield 26, 3) := by decide +kernel
theorem dX3_count_86 : decode cX3_count 86 = .ok (.invokevirtual 98, 3) := by decide +kernel
theorem dX3_count_89 : decode cX3_count 89 = .ok (.iadd, 1) := by decide +kernel
theorem dX3_count_90 : decode cX3_count 90 = .ok (.ireturn, 1) := by decide +kernel
theorem dX3_count_91 : decode cX3_count 91 = .ok (.bipush (-2), 2) := by decide +kernel
theorem dX3_count_93 : decode cX3_count 93 = .ok (.ireturn, 1) := by decide +kernel
set_option maxRecDepth 20000 in
theorem ggX3_segment_X3_isPlace : GoodIn wsX3_segment wsX3_isPlace := goodIn_r _ [11, 12, 20, 21, 22, 23, 24, 25, 26, 27, 28, 29, 30] (by decide +kernel) (by decide +kernel)
set_option maxRecDepth 20000 in
theorem gX3_segment_X3_isPlace : GoodIn wsX3_segment (wsV RX3 102 RX3 yX3_isPlace wsX3_isPlace) := goodIn_app (goodIn_of _ (by decide +kernel)) ggX3_segment_X3_isPlace
set_option maxRecDepth 20000 in
theorem ggX3_segment_X1_isOf : GoodIn wsX3_segment wsX1_isOf := goodIn_r _ [17, 18, 19, 39, 40, 41, 42, 43, 44] (by decide +kernel) (by decide +kernel)
set_option maxRecDepth 20000 in
theorem gX3_segment_X1_isOf : GoodIn wsX3_segment (wsV RX3 111 RX1 yX1_isOf wsX1_isOf) := goodIn_app (goodIn_of _ (by decide +kernel)) ggX3_segment_X1_isOf
theorem dX3_segment_0 : decode cX3_segment 0 = .ok (.aload_n 0, 1) := by decide +kernel
theorem dX3_segment_1 : decode cX3_segment 1 = .ok (.iload_n 1, 1) := by decide +kernel
theorem dX3_segment_2 : decode cX3_segment 2 = .ok (.invokevirtual 102, 3) := by decide +kernel
theorem dX3_segment_5 : decode cX3_segment 5 = .ok (.ifCond .ne 5, 3) := by decide +kernel
theorem dX3_segment_8 : decode cX3_segment 8 = .ok (.iconst (-1), 1) := by decide +kernel
theorem dX3_segment_9 : decode cX3_segment 9 = .ok (.ireturn, 1) := by decide +kernel
theorem dX3_segment_10 : decode cX3_segment 10 = .ok (.aload_n 0, 1) := by decide +kernel
theorem dX3_segment_11 : decode cX3_segment 11 = .ok (.getfield 22, 3) := by decide +kernel
theorem dX3_segment_14 : decode cX3_segment 14 = .ok (.iload_n 1, 1) := by decide +kernel
theorem dX3_segment_15 : decode cX3_segment 15 = .ok (.aaload, 1) := by decide +kernel
theorem dX3_segment_16 : decode cX3_segment 16 = .ok (.astore_n 3, 1) := by decide +kernel
theorem dX3_segment_17 : decode cX3_segment 17 = .ok (.iload_n 2, 1) := by decide +kernel
theorem dX3_segment_18 : decode cX3_segment 18 = .ok (.tableswitch 78 0 4 #[34, 39, 44, 49, 54], 34) := by decide +kernel
theorem dX3_segment_52 : decode cX3_segment 52 = .ok (.aload_n 3, 1) := by decide +kernel
theorem dX3_segment_53 : decode cX3_segment 53 = .ok (.getfield 91, 3) := by decide +kernel
theorem dX3_segment_56 : decode cX3_segment 56 = .ok (.ireturn, 1) := by decide +kernel
theorem dX3_segment_57 : decode cX3_segment 57 = .ok (.aload_n 3, 1) := by decide +kernel
theorem dX3_segment_58 : decode cX3_segment 58 = .ok (.getfield 105, 3) := by decide +kernel
theorem dX3_segment_61 : decode cX3_segment 61 = .ok (.ireturn, 1) := by decide +kernel
theorem dX3_segment_62 : decode cX3_segment 62 = .ok (.aload_n 3, 1) := by decide +kernel
theorem dX3_segment_63 : decode cX3_segment 63 = .ok (.getfield 90, 3) := by decide +kernel
theorem dX3_segment_66 : decode cX3_segment 66 = .ok (.ireturn, 1) := by decide +kernel
theorem dX3_segment_67 : decode cX3_segment 67 = .ok (.aload_n 3, 1) := by decide +kernel
theorem dX3_segment_68 : decode cX3_segment 68 = .ok (.getfield 108, 3) := by decide +kernel
theorem dX3_segment_71 : decode cX3_segment 71 = .ok (.ireturn, 1) := by decide +kernel
theorem dX3_segment_72 : decode cX3_segment 72 = .ok (.aload_n 0, 1) := by decide +kernel
theorem dX3_segment_73 : decode cX3_segment 73 = .ok (.getfield 39, 3) := by decide +kernel
theorem dX3_segment_76 : decode cX3_segment 76 = .ok (.ifnull 18, 3) := by decide +kernel
theorem dX3_segment_79 : decode cX3_segment 79 = .ok (.aload_n 0, 1) := by decide +kernel
theorem dX3_segment_80 : decode cX3_segment 80 = .ok (.getfield 39, 3) := by decide +kernel
theorem dX3_segment_83 : decode cX3_segment 83 = .ok (.iload_n 1, 1) := by decide +kernel
theorem dX3_segment_84 : decode cX3_segment 84 = .ok (.invokevirtual 111, 3) := by decide +kernel
theorem dX3_segment_87 : decode cX3_segment 87 = .ok (.ifCond .eq 7, 3) := by decide +kernel
theorem dX3_segment_90 : decode cX3_segment 90 = .ok (.iconst 1, 1) := by decide +kernel
theorem dX3_segment_91 : decode cX3_segment 91 = .ok (.goto 4, 3) := by decide +kernel
theorem dX3_segment_94 : decode cX3_segment 94 = .ok (.iconst 0, 1) := by decide +kernel
theorem dX3_segment_95 : decode cX3_segment 95 = .ok (.ireturn, 1) := by decide +kernel
theorem dX3_segment_96 : decode cX3_segment 96 = .ok (.bipush (-2), 2) := by decide +kernel
theorem dX3_segment_98 : decode cX3_segment 98 = .ok (.ireturn, 1) := by decide +kernel
set_option maxRecDepth 20000 in
theorem ggX3_row_X3_isPlace : GoodIn wsX3_row wsX3_isPlace := goodIn_r _ [9, 10, 17, 18, 19, 20, 21, 22, 23, 24, 25, 26, 27] (by decide +kernel) (by decide +kernel)
set_option maxRecDepth 20000 in
theorem gX3_row_X3_isPlace : GoodIn wsX3_row (wsV RX3 102 RX3 yX3_isPlace wsX3_isPlace) := goodIn_app (goodIn_of _ (by decide +kernel)) ggX3_row_X3_isPlace
set_option maxRecDepth 20000 in
theorem ggX3_row_X2_hasRow : GoodIn wsX3_row wsX2_hasRow := goodIn_r _ [15, 16, 28, 29, 30, 31, 32, 33, 34, 35] (by decide +kernel) (by decide +kernel)
set_option maxRecDepth 20000 in
theorem gX3_row_X2_hasRow : GoodIn wsX3_row (wsV RX3 116 RX2 yX2_hasRow wsX2_hasRow) := goodIn_app (goodIn_of _ (by decide +kernel)) ggX3_row_X2_hasRow
theorem dX3_row_0 : decode cX3_row 0 = .ok (.aload_n 0, 1) := by decide +kernel
theorem dX3_row_1 : decode cX3_row 1 = .ok (.iload_n 1, 1) := by decide +kernel
theorem dX3_row_2 : decode cX3_row 2 = .ok (.invokevirtual 102, 3) := by decide +kernel
theorem dX3_row_5 : decode cX3_row 5 = .ok (.ifCond .eq 16, 3) := by decide +kernel
theorem dX3_row_8 : decode cX3_row 8 = .ok (.aload_n 0, 1) := by decide +kernel
theorem dX3_row_9 : decode cX3_row 9 = .ok (.getfield 22, 3) := by decide +kernel
theorem dX3_row_12 : decode cX3_row 12 = .ok (.iload_n 1, 1) := by decide +kernel
theorem dX3_row_13 : decode cX3_row 13 = .ok (.aaload, 1) := by decide +kernel
theorem dX3_row_14 : decode cX3_row 14 = .ok (.iload_n 2, 1) := by decide +kernel
theorem dX3_row_15 : decode cX3_row 15 = .ok (.invokevirtual 116, 3) := by decide +kernel
theorem dX3_row_18 : decode cX3_row 18 = .ok (.ifCond .ne 5, 3) := by decide +kernel
theorem dX3_row_21 : decode cX3_row 21 = .ok (.iconst (-1), 1) := by decide +kernel
theorem dX3_row_22 : decode cX3_row 22 = .ok (.ireturn, 1) := by decide +kernel
theorem dX3_row_23 : decode cX3_row 23 = .ok (.aload_n 0, 1) := by decide +kernel
theorem dX3_row_24 : decode cX3_row 24 = .ok (.getfield 22, 3) := by decide +kernel
theorem dX3_row_27 : decode cX3_row 27 = .ok (.iload_n 1, 1) := by decide +kernel
theorem dX3_row_28 : decode cX3_row 28 = .ok (.aaload, 1) := by decide +kernel
theorem dX3_row_29 : decode cX3_row 29 = .ok (.astore 4, 2) := by decide +kernel
theorem dX3_row_31 : decode cX3_row 31 = .ok (.iload_n 3, 1) := by decide +kernel
theorem dX3_row_32 : decode cX3_row 32 = .ok (.tableswitch 60 0 2 #[28, 36, 44], 28) := by decide +kernel
theorem dX3_row_60 : decode cX3_row 60 = .ok (.aload 4, 2) := by decide +kernel
theorem dX3_row_62 : decode cX3_row 62 = .ok (.getfield 119, 3) := by decide +kernel
theorem dX3_row_65 : decode cX3_row 65 = .ok (.iload_n 2, 1) := by decide +kernel
theorem dX3_row_66 : decode cX3_row 66 = .ok (.iaload, 1) := by decide +kernel
theorem dX3_row_67 : decode cX3_row 67 = .ok (.ireturn, 1) := by decide +kernel
theorem dX3_row_68 : decode cX3_row 68 = .ok (.aload 4, 2) := by decide +kernel
theorem dX3_row_70 : decode cX3_row 70 = .ok (.getfield 122, 3) := by decide +kernel
theorem dX3_row_73 : decode cX3_row 73 = .ok (.iload_n 2, 1) := by decide +kernel
theorem dX3_row_74 : decode cX3_row 74 = .ok (.iaload, 1) := by decide +kernel
theorem dX3_row_75 : decode cX3_row 75 = .ok (.ireturn, 1) := by decide +kernel
theorem dX3_row_76 : decode cX3_row 76 = .ok (.aload 4, 2) := by decide +kernel
theorem dX3_row_78 : decode cX3_row 78 = .ok (.getfield 123, 3) := by decide +kernel
theorem dX3_row_81 : decode cX3_row 81 = .ok (.iload_n 2, 1) := by decide +kernel
theorem dX3_row_82 : decode cX3_row 82 = .ok (.baload, 1) := by decide +kernel
theorem dX3_row_83 : decode cX3_row 83 = .ok (.ifCond .eq 7, 3) := by decide +kernel
theorem dX3_row_86 : decode cX3_row 86 = .ok (.iconst 1, 1) := by decide +kernel
theorem dX3_row_87 : decode cX3_row 87 = .ok (.goto 4, 3) := by decide +kernel
theorem dX3_row_90 : decode cX3_row 90 = .ok (.iconst 0, 1) := by decide +kernel
theorem dX3_row_91 : decode cX3_row 91 = .ok (.ireturn, 1) := by decide +kernel
theorem dX3_row_92 : decode cX3_row 92 = .ok (.bipush (-2), 2) := by decide +kernel
theorem dX3_row_94 : decode cX3_row 94 = .ok (.ireturn, 1) := by decide +kernel
theorem dX3_full_0 : decode cX3_full 0 = .ok (.iload_n 1, 1) := by decide +kernel
theorem dX3_full_1 : decode cX3_full 1 = .ok (.iconst 2, 1) := by decide +kernel
theorem dX3_full_2 : decode cX3_full 2 = .ok (.if_icmp .lt 8, 3) := by decide +kernel
theorem dX3_full_5 : decode cX3_full 5 = .ok (.iload_n 1, 1) := by decide +kernel
theorem dX3_full_6 : decode cX3_full 6 = .ok (.iconst 5, 1) := by decide +kernel
theorem dX3_full_7 : decode cX3_full 7 = .ok (.if_icmp .le 6, 3) := by decide +kernel
theorem dX3_full_10 : decode cX3_full 10 = .ok (.bipush (-2), 2) := by decide +kernel
theorem dX3_full_12 : decode cX3_full 12 = .ok (.ireturn, 1) := by decide +kernel
theorem dX3_full_13 : decode cX3_full 13 = .ok (.aload_n 0, 1) := by decide +kernel
theorem dX3_full_14 : decode cX3_full 14 = .ok (.getfield 36, 3) := by decide +kernel
theorem dX3_full_17 : decode cX3_full 17 = .ok (.istore_n 2, 1) := by decide +kernel
theorem dX3_full_18 : decode cX3_full 18 = .ok (.aload_n 0, 1) := by decide +kernel
theorem dX3_full_19 : decode cX3_full 19 = .ok (.iload_n 1, 1) := by decide +kernel
theorem dX3_full_20 : decode cX3_full 20 = .ok (.putfield 36, 3) := by decide +kernel
theorem dX3_full_23 : decode cX3_full 23 = .ok (.iload_n 2, 1) := by decide +kernel
theorem dX3_full_24 : decode cX3_full 24 = .ok (.ireturn, 1) := by decide +kernel
set_option maxRecDepth 20000 in
theorem ggX3_due_X3_isOfOneTier : GoodIn wsX3_due wsX3_isOfOneTier := goodIn_r _ [9, 3, 4, 10, 11, 12, 13, 14, 15, 16, 17, 18, 19, 20, 21, 22, 23, 24, 25, 26, 27, 28] (by decide +kernel) (by decide +kernel)
set_option maxRecDepth 20000 in
theorem gX3_due_X3_isOfOneTier : GoodIn wsX3_due (wsV RX3 126 RX3 yX3_isOfOneTier wsX3_isOfOneTier) := goodIn_app (goodIn_of _ (by decide +kernel)) ggX3_due_X3_isOfOneTier
theorem dX3_due_0 : decode cX3_due 0 = .ok (.iconst (-1), 1) := by decide +kernel
theorem dX3_due_1 : decode cX3_due 1 = .ok (.istore_n 1, 1) := by decide +kernel
theorem dX3_due_2 : decode cX3_due 2 = .ok (.iconst 0, 1) := by decide +kernel
theorem dX3_due_3 : decode cX3_due 3 = .ok (.istore_n 2, 1) := by decide +kernel
theorem dX3_due_4 : decode cX3_due 4 = .ok (.iload_n 2, 1) := by decide +kernel
theorem dX3_due_5 : decode cX3_due 5 = .ok (.aload_n 0, 1) := by decide +kernel
theorem dX3_due_6 : decode cX3_due 6 = .ok (.getfield 36, 3) := by decide +kernel
theorem dX3_due_9 : decode cX3_due 9 = .ok (.iadd, 1) := by decide +kernel
theorem dX3_due_10 : decode cX3_due 10 = .ok (.aload_n 0, 1) := by decide +kernel
theorem dX3_due_11 : decode cX3_due 11 = .ok (.getfield 26, 3) := by decide +kernel
theorem dX3_due_14 : decode cX3_due 14 = .ok (.if_icmp .gt 49, 3) := by decide +kernel
theorem dX3_due_17 : decode cX3_due 17 = .ok (.aload_n 0, 1) := by decide +kernel
theorem dX3_due_18 : decode cX3_due 18 = .ok (.iload_n 2, 1) := by decide +kernel
theorem dX3_due_19 : decode cX3_due 19 = .ok (.aload_n 0, 1) := by decide +kernel
theorem dX3_due_20 : decode cX3_due 20 = .ok (.getfield 36, 3) := by decide +kernel
theorem dX3_due_23 : decode cX3_due 23 = .ok (.invokevirtual 126, 3) := by decide +kernel
theorem dX3_due_26 : decode cX3_due 26 = .ok (.ifCond .eq 31, 3) := by decide +kernel
theorem dX3_due_29 : decode cX3_due 29 = .ok (.iload_n 1, 1) := by decide +kernel
theorem dX3_due_30 : decode cX3_due 30 = .ok (.iconst (-1), 1) := by decide +kernel
theorem dX3_due_31 : decode cX3_due 31 = .ok (.if_icmp .eq 24, 3) := by decide +kernel
theorem dX3_due_34 : decode cX3_due 34 = .ok (.aload_n 0, 1) := by decide +kernel
theorem dX3_due_35 : decode cX3_due 35 = .ok (.getfield 22, 3) := by decide +kernel
theorem dX3_due_38 : decode cX3_due 38 = .ok (.iload_n 2, 1) := by decide +kernel
theorem dX3_due_39 : decode cX3_due 39 = .ok (.aaload, 1) := by decide +kernel
theorem dX3_due_40 : decode cX3_due 40 = .ok (.getfield 105, 3) := by decide +kernel
theorem dX3_due_43 : decode cX3_due 43 = .ok (.aload_n 0, 1) := by decide +kernel
theorem dX3_due_44 : decode cX3_due 44 = .ok (.getfield 22, 3) := by decide +kernel
theorem dX3_due_47 : decode cX3_due 47 = .ok (.iload_n 1, 1) := by decide +kernel
theorem dX3_due_48 : decode cX3_due 48 = .ok (.aaload, 1) := by decide +kernel
theorem dX3_due_49 : decode cX3_due 49 = .ok (.getfield 105, 3) := by decide +kernel
theorem dX3_due_52 : decode cX3_due 52 = .ok (.if_icmp .ge 5, 3) := by decide +kernel
theorem dX3_due_55 : decode cX3_due 55 = .ok (.iload_n 2, 1) := by decide +kernel
theorem dX3_due_56 : decode cX3_due 56 = .ok (.istore_n 1, 1) := by decide +kernel
theorem dX3_due_57 : decode cX3_due 57 = .ok (.iinc 2 1, 3) := by decide +kernel
theorem dX3_due_60 : decode cX3_due 60 = .ok (.goto (-56), 3) := by decide +kernel
theorem dX3_due_63 : decode cX3_due 63 = .ok (.iload_n 1, 1) := by decide +kernel
theorem dX3_due_64 : decode cX3_due 64 = .ok (.iconst (-1), 1) := by decide +kernel
theorem dX3_due_65 : decode cX3_due 65 = .ok (.if_icmp .ne 8, 3) := by decide +kernel
theorem dX3_due_68 : decode cX3_due 68 = .ok (.bipush (-3), 2) := by decide +kernel
theorem dX3_due_70 : decode cX3_due 70 = .ok (.goto 4, 3) := by decide +kernel
theorem dX3_due_73 : decode cX3_due 73 = .ok (.iload_n 1, 1) := by decide +kernel
theorem dX3_due_74 : decode cX3_due 74 = .ok (.ireturn, 1) := by decide +kernel
set_option maxRecDepth 20000 in
theorem ggX3_cheapest_X3_canBeMerged : GoodIn wsX3_cheapest wsX3_canBeMerged := goodIn_r _ [5] (by decide +kernel) (by decide +kernel)
set_option maxRecDepth 20000 in
theorem gX3_cheapest_X3_canBeMerged : GoodIn wsX3_cheapest (va_wsS RX3 130 yX3_canBeMerged wsX3_canBeMerged) := goodIn_app (goodIn_of _ (by decide +kernel)) ggX3_cheapest_X3_canBeMerged
set_option maxRecDepth 20000 in
theorem ggX3_cheapest_X3_livingFrom : GoodIn wsX3_cheapest wsX3_livingFrom := goodIn_r _ [9, 10, 11, 12, 13, 14, 15, 16, 17, 18, 19, 20, 21, 22, 23, 24, 25, 26, 27, 28, 29, 30] (by decide +kernel) (by decide +kernel)
set_option maxRecDepth 20000 in
theorem gX3_cheapest_X3_livingFrom : GoodIn wsX3_cheapest (wsV RX3 98 RX3 yX3_livingFrom wsX3_livingFrom) := goodIn_app (goodIn_of _ (by decide +kernel)) ggX3_cheapest_X3_livingFrom
theorem dX3_cheapest_0 : decode cX3_cheapest 0 = .ok (.iload_n 1, 1) := by decide +kernel
theorem dX3_cheapest_1 : decode cX3_cheapest 1 = .ok (.invokestatic 130, 3) := by decide +kernel
theorem dX3_cheapest_4 : decode cX3_cheapest 4 = .ok (.ifCond .ne 6, 3) := by decide +kernel
theorem dX3_cheapest_7 : decode cX3_cheapest 7 = .ok (.bipush (-2), 2) := by decide +kernel
theorem dX3_cheapest_9 : decode cX3_cheapest 9 = .ok (.ireturn, 1) := by decide +kernel
theorem dX3_cheapest_10 : decode cX3_cheapest 10 = .ok (.aload_n 0, 1) := by decide +kernel
theorem dX3_cheapest_11 : decode cX3_cheapest 11 = .ok (.getfield 26, 3) := by decide +kernel
theorem dX3_cheapest_14 : decode cX3_cheapest 14 = .ok (.iload_n 1, 1) := by decide +kernel
theorem dX3_cheapest_15 : decode cX3_cheapest 15 = .ok (.if_icmp .ge 6, 3) := by decide +kernel
theorem dX3_cheapest_18 : decode cX3_cheapest 18 = .ok (.bipush (-3), 2) := by decide +kernel
theorem dX3_cheapest_20 : decode cX3_cheapest 20 = .ok (.ireturn, 1) := by decide +kernel
theorem dX3_cheapest_21 : decode cX3_cheapest 21 = .ok (.iconst 0, 1) := by decide +kernel
theorem dX3_cheapest_22 : decode cX3_cheapest 22 = .ok (.istore_n 2, 1) := by decide +kernel
theorem dX3_cheapest_23 : decode cX3_cheapest 23 = .ok (.aload_n 0, 1) := by decide +kernel
theorem dX3_cheapest_24 : decode cX3_cheapest 24 = .ok (.iconst 0, 1) := by decide +kernel
theorem dX3_cheapest_25 : decode cX3_cheapest 25 = .ok (.iload_n 1, 1) := by decide +kernel
theorem dX3_cheapest_26 : decode cX3_cheapest 26 = .ok (.invokevirtual 98, 3) := by decide +kernel
theorem dX3_cheapest_29 : decode cX3_cheapest 29 = .ok (.istore_n 3, 1) := by decide +kernel
theorem dX3_cheapest_30 : decode cX3_cheapest 30 = .ok (.iconst 1, 1) := by decide +kernel
theorem dX3_cheapest_31 : decode cX3_cheapest 31 = .ok (.istore 4, 2) := by decide +kernel
theorem dX3_cheapest_33 : decode cX3_cheapest 33 = .ok (.iload 4, 2) := by decide +kernel
theorem dX3_cheapest_35 : decode cX3_cheapest 35 = .ok (.iload_n 1, 1) := by decide +kernel
theorem dX3_cheapest_36 : decode cX3_cheapest 36 = .ok (.iadd, 1) := by decide +kernel
theorem dX3_cheapest_37 : decode cX3_cheapest 37 = .ok (.aload_n 0, 1) := by decide +kernel
theorem dX3_cheapest_38 : decode cX3_cheapest 38 = .ok (.getfield 26, 3) := by decide +kernel
theorem dX3_cheapest_41 : decode cX3_cheapest 41 = .ok (.if_icmp .gt 30, 3) := by decide +kernel
theorem dX3_cheapest_44 : decode cX3_cheapest 44 = .ok (.aload_n 0, 1) := by decide +kernel
theorem dX3_cheapest_45 : decode cX3_cheapest 45 = .ok (.iload 4, 2) := by decide +kernel
theorem dX3_cheapest_47 : decode cX3_cheapest 47 = .ok (.iload_n 1, 1) := by decide +kernel
theorem dX3_cheapest_48 : decode cX3_cheapest 48 = .ok (.invokevirtual 98, 3) := by decide +kernel
theorem dX3_cheapest_51 : decode cX3_cheapest 51 = .ok (.istore 5, 2) := by decide +kernel
theorem dX3_cheapest_53 : decode cX3_cheapest 53 = .ok (.iload 5, 2) := by decide +kernel
theorem dX3_cheapest_55 : decode cX3_cheapest 55 = .ok (.iload_n 3, 1) := by decide +kernel
theorem dX3_cheapest_56 : decode cX3_cheapest 56 = .ok (.if_icmp .ge 9, 3) := by decide +kernel
theorem dX3_cheapest_59 : decode cX3_cheapest 59 = .ok (.iload 4, 2) := by decide +kernel
theorem dX3_cheapest_61 : decode cX3_cheapest 61 = .ok (.istore_n 2, 1) := by decide +kernel
theorem dX3_cheapest_62 : decode cX3_cheapest 62 = .ok (.iload 5, 2) := by decide +kernel
theorem dX3_cheapest_64 : decode cX3_cheapest 64 = .ok (.istore_n 3, 1) := by decide +kernel
theorem dX3_cheapest_65 : decode cX3_cheapest 65 = .ok (.iinc 4 1, 3) := by decide +kernel
theorem dX3_cheapest_68 : decode cX3_cheapest 68 = .ok (.goto (-35), 3) := by decide +kernel
theorem dX3_cheapest_71 : decode cX3_cheapest 71 = .ok (.iload_n 2, 1) := by decide +kernel
theorem dX3_cheapest_72 : decode cX3_cheapest 72 = .ok (.ireturn, 1) := by decide +kernel
set_option maxRecDepth 20000 in
theorem ggX3_worst_X2_isDeaderThan : GoodIn wsX3_worst wsX2_isDeaderThan := goodIn_r _ [7, 8, 9, 21, 22, 23, 24, 25, 26, 27, 28] (by decide +kernel) (by decide +kernel)
set_option maxRecDepth 20000 in
theorem gX3_worst_X2_isDeaderThan : GoodIn wsX3_worst (wsV RX3 133 RX2 yX2_isDeaderThan wsX2_isDeaderThan) := goodIn_app (goodIn_of _ (by decide +kernel)) ggX3_worst_X2_isDeaderThan
theorem dX3_worst_0 : decode cX3_worst 0 = .ok (.aload_n 0, 1) := by decide +kernel
theorem dX3_worst_1 : decode cX3_worst 1 = .ok (.getfield 26, 3) := by decide +kernel
theorem dX3_worst_4 : decode cX3_worst 4 = .ok (.ifCond .ne 6, 3) := by decide +kernel
theorem dX3_worst_7 : decode cX3_worst 7 = .ok (.bipush (-3), 2) := by decide +kernel
theorem dX3_worst_9 : decode cX3_worst 9 = .ok (.ireturn, 1) := by decide +kernel
theorem dX3_worst_10 : decode cX3_worst 10 = .ok (.iconst 0, 1) := by decide +kernel
end
section
theorem dX3_worst_11 : decode cX3_worst 11 = .ok (.istore_n 1, 1) := by decide +kernel
theorem dX3_worst_12 : decode cX3_worst 12 = .ok (.iconst 1, 1) := by decide +kernel
theorem dX3_worst_13 : decode cX3_worst 13 = .ok (.istore_n 2, 1) := by decide +kernel
theorem dX3_worst_14 : decode cX3_worst 14 = .ok (.iload_n 2, 1) := by decide +kernel
theorem dX3_worst_15 : decode cX3_worst 15 = .ok (.aload_n 0, 1) := by decide +kernel
theorem dX3_worst_16 : decode cX3_worst 16 = .ok (.getfield 26, 3) := by decide +kernel
theorem dX3_worst_19 : decode cX3_worst 19 = .ok (.if_icmp .ge 29, 3) := by decide +kernel
theorem dX3_worst_22 : decode cX3_worst 22 = .ok (.aload_n 0, 1) := by decide +kernel
theorem dX3_worst_23 : decode cX3_worst 23 = .ok (.getfield 22, 3) := by decide +kernel
theorem dX3_worst_26 : decode cX3_worst 26 = .ok (.iload_n 2, 1) := by decide +kernel
theorem dX3_worst_27 : decode cX3_worst 27 = .ok (.aaload, 1) := by decide +kernel
theorem dX3_worst_28 : decode cX3_worst 28 = .ok (.aload_n 0, 1) := by decide +kernel
theorem dX3_worst_29 : decode cX3_worst 29 = .ok (.getfield 22, 3) := by decide +kernel
theorem dX3_worst_32 : decode cX3_worst 32 = .ok (.iload_n 1, 1) := by decide +kernel
theorem dX3_worst_33 : decode cX3_worst 33 = .ok (.aaload, 1) := by decide +kernel
theorem dX3_worst_34 : decode cX3_worst 34 = .ok (.invokevirtual 133, 3) := by decide +kernel
theorem dX3_worst_37 : decode cX3_worst 37 = .ok (.ifCond .eq 5, 3) := by decide +kernel
theorem dX3_worst_40 : decode cX3_worst 40 = .ok (.iload_n 2, 1) := by decide +kernel
theorem dX3_worst_41 : decode cX3_worst 41 = .ok (.istore_n 1, 1) := by decide +kernel
theorem dX3_worst_42 : decode cX3_worst 42 = .ok (.iinc 2 1, 3) := by decide +kernel
theorem dX3_worst_45 : decode cX3_worst 45 = .ok (.goto (-31), 3) := by decide +kernel
theorem dX3_worst_48 : decode cX3_worst 48 = .ok (.iload_n 1, 1) := by decide +kernel
theorem dX3_worst_49 : decode cX3_worst 49 = .ok (.ireturn, 1) := by decide +kernel
set_option maxRecDepth 20000 in
theorem ggX3_begin_X3_isPlace : GoodIn wsX3_begin wsX3_isPlace := goodIn_r _ [11, 12, 31, 32, 33, 34, 35, 36, 37, 38, 39, 40, 41] (by decide +kernel) (by decide +kernel)
set_option maxRecDepth 20000 in
theorem gX3_begin_X3_isPlace : GoodIn wsX3_begin (wsV RX3 102 RX3 yX3_isPlace wsX3_isPlace) := goodIn_app (goodIn_of _ (by decide +kernel)) ggX3_begin_X3_isPlace
set_option maxRecDepth 20000 in
theorem ggX3_begin_X3_canBeMerged : GoodIn wsX3_begin wsX3_canBeMerged := goodIn_r _ [15] (by decide +kernel) (by decide +kernel)
set_option maxRecDepth 20000 in
theorem gX3_begin_X3_canBeMerged : GoodIn wsX3_begin (va_wsS RX3 130 yX3_canBeMerged wsX3_canBeMerged) := goodIn_app (goodIn_of _ (by decide +kernel)) ggX3_begin_X3_canBeMerged
set_option maxRecDepth 20000 in
theorem ggX3_begin_X1_init : GoodIn wsX3_begin wsX1_init := goodIn_r _ [18, 19, 20, 21, 22, 23, 24, 25, 26, 27, 28, 29, 30, 42, 43, 44, 45, 46, 47, 48, 49, 50, 51, 52, 53, 54, 55] (by decide +kernel) (by decide +kernel)
set_option maxRecDepth 20000 in
theorem gX3_begin_X1_init : GoodIn wsX3_begin (wsX1_init) := ggX3_begin_X1_init
theorem dX3_begin_0 : decode cX3_begin 0 = .ok (.aload_n 0, 1) := by decide +kernel
theorem dX3_begin_1 : decode cX3_begin 1 = .ok (.iload_n 1, 1) := by decide +kernel
theorem dX3_begin_2 : decode cX3_begin 2 = .ok (.invokevirtual 102, 3) := by decide +kernel
theorem dX3_begin_5 : decode cX3_begin 5 = .ok (.ifCond .ne 5, 3) := by decide +kernel
theorem dX3_begin_8 : decode cX3_begin 8 = .ok (.iconst (-1), 1) := by decide +kernel
theorem dX3_begin_9 : decode cX3_begin 9 = .ok (.ireturn, 1) := by decide +kernel
theorem dX3_begin_10 : decode cX3_begin 10 = .ok (.iload_n 2, 1) := by decide +kernel
theorem dX3_begin_11 : decode cX3_begin 11 = .ok (.invokestatic 130, 3) := by decide +kernel
theorem dX3_begin_14 : decode cX3_begin 14 = .ok (.ifCond .ne 6, 3) := by decide +kernel
theorem dX3_begin_17 : decode cX3_begin 17 = .ok (.bipush (-2), 2) := by decide +kernel
theorem dX3_begin_19 : decode cX3_begin 19 = .ok (.ireturn, 1) := by decide +kernel
theorem dX3_begin_20 : decode cX3_begin 20 = .ok (.aload_n 0, 1) := by decide +kernel
theorem dX3_begin_21 : decode cX3_begin 21 = .ok (.iload_n 1, 1) := by decide +kernel
theorem dX3_begin_22 : decode cX3_begin 22 = .ok (.iload_n 2, 1) := by decide +kernel
theorem dX3_begin_23 : decode cX3_begin 23 = .ok (.iadd, 1) := by decide +kernel
theorem dX3_begin_24 : decode cX3_begin 24 = .ok (.iconst 1, 1) := by decide +kernel
theorem dX3_begin_25 : decode cX3_begin 25 = .ok (.isub, 1) := by decide +kernel
theorem dX3_begin_26 : decode cX3_begin 26 = .ok (.invokevirtual 102, 3) := by decide +kernel
theorem dX3_begin_29 : decode cX3_begin 29 = .ok (.ifCond .ne 5, 3) := by decide +kernel
theorem dX3_begin_32 : decode cX3_begin 32 = .ok (.iconst (-1), 1) := by decide +kernel
theorem dX3_begin_33 : decode cX3_begin 33 = .ok (.ireturn, 1) := by decide +kernel
theorem dX3_begin_34 : decode cX3_begin 34 = .ok (.aload_n 0, 1) := by decide +kernel
theorem dX3_begin_35 : decode cX3_begin 35 = .ok (.getfield 39, 3) := by decide +kernel
theorem dX3_begin_38 : decode cX3_begin 38 = .ok (.ifnull 6, 3) := by decide +kernel
theorem dX3_begin_41 : decode cX3_begin 41 = .ok (.bipush (-3), 2) := by decide +kernel
theorem dX3_begin_43 : decode cX3_begin 43 = .ok (.ireturn, 1) := by decide +kernel
theorem dX3_begin_44 : decode cX3_begin 44 = .ok (.aload_n 0, 1) := by decide +kernel
theorem dX3_begin_45 : decode cX3_begin 45 = .ok (.new 112, 3) := by decide +kernel
theorem dX3_begin_48 : decode cX3_begin 48 = .ok (.dup, 1) := by decide +kernel
theorem dX3_begin_49 : decode cX3_begin 49 = .ok (.aload_n 0, 1) := by decide +kernel
theorem dX3_begin_50 : decode cX3_begin 50 = .ok (.getfield 22, 3) := by decide +kernel
theorem dX3_begin_53 : decode cX3_begin 53 = .ok (.iload_n 1, 1) := by decide +kernel
theorem dX3_begin_54 : decode cX3_begin 54 = .ok (.iload_n 2, 1) := by decide +kernel
theorem dX3_begin_55 : decode cX3_begin 55 = .ok (.invokespecial 137, 3) := by decide +kernel
theorem dX3_begin_58 : decode cX3_begin 58 = .ok (.putfield 39, 3) := by decide +kernel
theorem dX3_begin_61 : decode cX3_begin 61 = .ok (.aload_n 0, 1) := by decide +kernel
theorem dX3_begin_62 : decode cX3_begin 62 = .ok (.getfield 39, 3) := by decide +kernel
theorem dX3_begin_65 : decode cX3_begin 65 = .ok (.getfield 140, 3) := by decide +kernel
theorem dX3_begin_68 : decode cX3_begin 68 = .ok (.ireturn, 1) := by decide +kernel
set_option maxRecDepth 20000 in
theorem ggX3_step_X1_takeOne : GoodIn wsX3_step wsX1_takeOne := goodIn_r _ [7, 8, 9, 10, 11, 12, 13, 14, 15, 16, 17, 6, 18, 19, 20, 86, 87, 88, 89, 90, 91, 92, 93, 94, 95, 96, 97, 98, 99] (by decide +kernel) (by decide +kernel)
set_option maxRecDepth 20000 in
theorem gX3_step_X1_takeOne : GoodIn wsX3_step (wsV RX3 143 RX1 yX1_takeOne wsX1_takeOne) := goodIn_app (goodIn_of _ (by decide +kernel)) ggX3_step_X1_takeOne
set_option maxRecDepth 20000 in
theorem ggX3_step_X3_endMerge : GoodIn wsX3_step wsX3_endMerge := goodIn_r _ [25, 26, 27, 28, 29, 30, 31, 32, 1, 33, 34, 35, 6, 36, 37, 38, 39, 12, 8, 19, 11, 20, 40, 10, 41, 42, 43, 44, 45, 46, 47, 48, 49, 50, 51, 52, 53, 54, 55, 56, 57, 58, 59, 60, 61, 62, 63, 64, 65, 66, 67, 68, 69, 70, 71, 72, 24, 73, 74, 86, 87, 88, 89, 90, 91, 75, 76, 77, 78, 79, 80, 81, 82, 83, 84, 85, 92, 93, 94, 95, 96, 97, 98, 99] (by decide +kernel) (by decide +kernel)
set_option maxRecDepth 20000 in
theorem gX3_step_X3_endMerge : GoodIn wsX3_step (wsV RX3 146 RX3 yX3_endMerge wsX3_endMerge) := goodIn_app (goodIn_of _ (by decide +kernel)) ggX3_step_X3_endMerge
theorem dX3_step_0 : decode cX3_step 0 = .ok (.iload_n 1, 1) := by decide +kernel
theorem dX3_step_1 : decode cX3_step 1 = .ok (.ifCond .lt 10, 3) := by decide +kernel
theorem dX3_step_4 : decode cX3_step 4 = .ok (.iload_n 1, 1) := by decide +kernel
theorem dX3_step_5 : decode cX3_step 5 = .ok (.sipush 1000, 3) := by decide +kernel
theorem dX3_step_8 : decode cX3_step 8 = .ok (.if_icmp .le 6, 3) := by decide +kernel
theorem dX3_step_11 : decode cX3_step 11 = .ok (.bipush (-2), 2) := by decide +kernel
theorem dX3_step_13 : decode cX3_step 13 = .ok (.ireturn, 1) := by decide +kernel
theorem dX3_step_14 : decode cX3_step 14 = .ok (.aload_n 0, 1) := by decide +kernel
theorem dX3_step_15 : decode cX3_step 15 = .ok (.getfield 39, 3) := by decide +kernel
theorem dX3_step_18 : decode cX3_step 18 = .ok (.ifnonnull 6, 3) := by decide +kernel
theorem dX3_step_21 : decode cX3_step 21 = .ok (.bipush (-3), 2) := by decide +kernel
theorem dX3_step_23 : decode cX3_step 23 = .ok (.ireturn, 1) := by decide +kernel
theorem dX3_step_24 : decode cX3_step 24 = .ok (.iconst 0, 1) := by decide +kernel
theorem dX3_step_25 : decode cX3_step 25 = .ok (.istore_n 2, 1) := by decide +kernel
theorem dX3_step_26 : decode cX3_step 26 = .ok (.iload_n 2, 1) := by decide +kernel
theorem dX3_step_27 : decode cX3_step 27 = .ok (.iload_n 1, 1) := by decide +kernel
theorem dX3_step_28 : decode cX3_step 28 = .ok (.if_icmp .ge 26, 3) := by decide +kernel
theorem dX3_step_31 : decode cX3_step 31 = .ok (.aload_n 0, 1) := by decide +kernel
theorem dX3_step_32 : decode cX3_step 32 = .ok (.getfield 39, 3) := by decide +kernel
theorem dX3_step_35 : decode cX3_step 35 = .ok (.getfield 140, 3) := by decide +kernel
theorem dX3_step_38 : decode cX3_step 38 = .ok (.ifCond .le 16, 3) := by decide +kernel
theorem dX3_step_41 : decode cX3_step 41 = .ok (.aload_n 0, 1) := by decide +kernel
theorem dX3_step_42 : decode cX3_step 42 = .ok (.getfield 39, 3) := by decide +kernel
theorem dX3_step_45 : decode cX3_step 45 = .ok (.invokevirtual 143, 3) := by decide +kernel
theorem dX3_step_48 : decode cX3_step 48 = .ok (.iinc 2 1, 3) := by decide +kernel
theorem dX3_step_51 : decode cX3_step 51 = .ok (.goto (-25), 3) := by decide +kernel
theorem dX3_step_54 : decode cX3_step 54 = .ok (.aload_n 0, 1) := by decide +kernel
theorem dX3_step_55 : decode cX3_step 55 = .ok (.getfield 39, 3) := by decide +kernel
theorem dX3_step_58 : decode cX3_step 58 = .ok (.getfield 140, 3) := by decide +kernel
theorem dX3_step_61 : decode cX3_step 61 = .ok (.ifCond .ne 11, 3) := by decide +kernel
theorem dX3_step_64 : decode cX3_step 64 = .ok (.aload_n 0, 1) := by decide +kernel
theorem dX3_step_65 : decode cX3_step 65 = .ok (.aload_n 0, 1) := by decide +kernel
theorem dX3_step_66 : decode cX3_step 66 = .ok (.getfield 39, 3) := by decide +kernel
theorem dX3_step_69 : decode cX3_step 69 = .ok (.invokevirtual 146, 3) := by decide +kernel
theorem dX3_step_72 : decode cX3_step 72 = .ok (.iload_n 2, 1) := by decide +kernel
theorem dX3_step_73 : decode cX3_step 73 = .ok (.ireturn, 1) := by decide +kernel
theorem dX3_stop_0 : decode cX3_stop 0 = .ok (.aload_n 0, 1) := by decide +kernel
theorem dX3_stop_1 : decode cX3_stop 1 = .ok (.getfield 39, 3) := by decide +kernel
theorem dX3_stop_4 : decode cX3_stop 4 = .ok (.ifnonnull 6, 3) := by decide +kernel
theorem dX3_stop_7 : decode cX3_stop 7 = .ok (.bipush (-3), 2) := by decide +kernel
theorem dX3_stop_9 : decode cX3_stop 9 = .ok (.ireturn, 1) := by decide +kernel
theorem dX3_stop_10 : decode cX3_stop 10 = .ok (.aload_n 0, 1) := by decide +kernel
theorem dX3_stop_11 : decode cX3_stop 11 = .ok (.getfield 39, 3) := by decide +kernel
theorem dX3_stop_14 : decode cX3_stop 14 = .ok (.getfield 150, 3) := by decide +kernel
theorem dX3_stop_17 : decode cX3_stop 17 = .ok (.istore_n 1, 1) := by decide +kernel
theorem dX3_stop_18 : decode cX3_stop 18 = .ok (.aload_n 0, 1) := by decide +kernel
theorem dX3_stop_19 : decode cX3_stop 19 = .ok (.dup, 1) := by decide +kernel
theorem dX3_stop_20 : decode cX3_stop 20 = .ok (.getfield 33, 3) := by decide +kernel
theorem dX3_stop_23 : decode cX3_stop 23 = .ok (.aload_n 0, 1) := by decide +kernel
theorem dX3_stop_24 : decode cX3_stop 24 = .ok (.getfield 39, 3) := by decide +kernel
theorem dX3_stop_27 : decode cX3_stop 27 = .ok (.getfield 153, 3) := by decide +kernel
theorem dX3_stop_30 : decode cX3_stop 30 = .ok (.iadd, 1) := by decide +kernel
theorem dX3_stop_31 : decode cX3_stop 31 = .ok (.putfield 33, 3) := by decide +kernel
theorem dX3_stop_34 : decode cX3_stop 34 = .ok (.aload_n 0, 1) := by decide +kernel
theorem dX3_stop_35 : decode cX3_stop 35 = .ok (.aconst_null, 1) := by decide +kernel
theorem dX3_stop_36 : decode cX3_stop 36 = .ok (.putfield 39, 3) := by decide +kernel
theorem dX3_stop_39 : decode cX3_stop 39 = .ok (.iload_n 1, 1) := by decide +kernel
theorem dX3_stop_40 : decode cX3_stop 40 = .ok (.ireturn, 1) := by decide +kernel
theorem dX3_merging_0 : decode cX3_merging 0 = .ok (.iload_n 1, 1) := by decide +kernel
theorem dX3_merging_1 : decode cX3_merging 1 = .ok (.ifCond .lt 8, 3) := by decide +kernel
theorem dX3_merging_4 : decode cX3_merging 4 = .ok (.iload_n 1, 1) := by decide +kernel
theorem dX3_merging_5 : decode cX3_merging 5 = .ok (.iconst 3, 1) := by decide +kernel
theorem dX3_merging_6 : decode cX3_merging 6 = .ok (.if_icmp .le 6, 3) := by decide +kernel
theorem dX3_merging_9 : decode cX3_merging 9 = .ok (.bipush (-2), 2) := by decide +kernel
theorem dX3_merging_11 : decode cX3_merging 11 = .ok (.ireturn, 1) := by decide +kernel
theorem dX3_merging_12 : decode cX3_merging 12 = .ok (.aload_n 0, 1) := by decide +kernel
theorem dX3_merging_13 : decode cX3_merging 13 = .ok (.getfield 39, 3) := by decide +kernel
theorem dX3_merging_16 : decode cX3_merging 16 = .ok (.ifnonnull 6, 3) := by decide +kernel
theorem dX3_merging_19 : decode cX3_merging 19 = .ok (.bipush (-3), 2) := by decide +kernel
theorem dX3_merging_21 : decode cX3_merging 21 = .ok (.ireturn, 1) := by decide +kernel
theorem dX3_merging_22 : decode cX3_merging 22 = .ok (.iload_n 1, 1) := by decide +kernel
theorem dX3_merging_23 : decode cX3_merging 23 = .ok (.tableswitch 49 0 2 #[25, 33, 41], 25) := by decide +kernel
theorem dX3_merging_48 : decode cX3_merging 48 = .ok (.aload_n 0, 1) := by decide +kernel
theorem dX3_merging_49 : decode cX3_merging 49 = .ok (.getfield 39, 3) := by decide +kernel
theorem dX3_merging_52 : decode cX3_merging 52 = .ok (.getfield 150, 3) := by decide +kernel
theorem dX3_merging_55 : decode cX3_merging 55 = .ok (.ireturn, 1) := by decide +kernel
theorem dX3_merging_56 : decode cX3_merging 56 = .ok (.aload_n 0, 1) := by decide +kernel
theorem dX3_merging_57 : decode cX3_merging 57 = .ok (.getfield 39, 3) := by decide +kernel
theorem dX3_merging_60 : decode cX3_merging 60 = .ok (.getfield 153, 3) := by decide +kernel
theorem dX3_merging_63 : decode cX3_merging 63 = .ok (.ireturn, 1) := by decide +kernel
theorem dX3_merging_64 : decode cX3_merging 64 = .ok (.aload_n 0, 1) := by decide +kernel
theorem dX3_merging_65 : decode cX3_merging 65 = .ok (.getfield 39, 3) := by decide +kernel
theorem dX3_merging_68 : decode cX3_merging 68 = .ok (.getfield 140, 3) := by decide +kernel
theorem dX3_merging_71 : decode cX3_merging 71 = .ok (.ireturn, 1) := by decide +kernel
theorem dX3_merging_72 : decode cX3_merging 72 = .ok (.aload_n 0, 1) := by decide +kernel
theorem dX3_merging_73 : decode cX3_merging 73 = .ok (.getfield 39, 3) := by decide +kernel
theorem dX3_merging_76 : decode cX3_merging 76 = .ok (.getfield 156, 3) := by decide +kernel
theorem dX3_merging_79 : decode cX3_merging 79 = .ok (.ireturn, 1) := by decide +kernel
set_option maxRecDepth 20000 in
theorem ggX3_moved_X1_sourceOf : GoodIn wsX3_moved wsX1_sourceOf := goodIn_r _ [7, 8, 9, 35, 36, 37, 38, 39, 40, 27, 28, 29, 30, 31, 32, 33, 34] (by decide +kernel) (by decide +kernel)
set_option maxRecDepth 20000 in
theorem gX3_moved_X1_sourceOf : GoodIn wsX3_moved (wsV RX3 159 RX1 yX1_sourceOf wsX1_sourceOf) := goodIn_app (goodIn_of _ (by decide +kernel)) ggX3_moved_X1_sourceOf
set_option maxRecDepth 20000 in
theorem ggX3_moved_X2_hasRow : GoodIn wsX3_moved wsX2_hasRow := goodIn_r _ [14, 15, 27, 28, 29, 30, 31, 32, 33, 34] (by decide +kernel) (by decide +kernel)
set_option maxRecDepth 20000 in
theorem gX3_moved_X2_hasRow : GoodIn wsX3_moved (wsV RX3 116 RX2 yX2_hasRow wsX2_hasRow) := goodIn_app (goodIn_of _ (by decide +kernel)) ggX3_moved_X2_hasRow
theorem dX3_moved_0 : decode cX3_moved 0 = .ok (.aload_n 0, 1) := by decide +kernel
theorem dX3_moved_1 : decode cX3_moved 1 = .ok (.getfield 43, 3) := by decide +kernel
theorem dX3_moved_4 : decode cX3_moved 4 = .ok (.ifnonnull 7, 3) := by decide +kernel
theorem dX3_moved_7 : decode cX3_moved 7 = .ok (.aconst_null, 1) := by decide +kernel
theorem dX3_moved_8 : decode cX3_moved 8 = .ok (.goto 11, 3) := by decide +kernel
theorem dX3_moved_11 : decode cX3_moved 11 = .ok (.aload_n 0, 1) := by decide +kernel
theorem dX3_moved_12 : decode cX3_moved 12 = .ok (.getfield 43, 3) := by decide +kernel
theorem dX3_moved_15 : decode cX3_moved 15 = .ok (.iload_n 1, 1) := by decide +kernel
theorem dX3_moved_16 : decode cX3_moved 16 = .ok (.invokevirtual 159, 3) := by decide +kernel
theorem dX3_moved_19 : decode cX3_moved 19 = .ok (.astore_n 3, 1) := by decide +kernel
theorem dX3_moved_20 : decode cX3_moved 20 = .ok (.aload_n 3, 1) := by decide +kernel
theorem dX3_moved_21 : decode cX3_moved 21 = .ok (.ifnull 11, 3) := by decide +kernel
theorem dX3_moved_24 : decode cX3_moved 24 = .ok (.aload_n 3, 1) := by decide +kernel
theorem dX3_moved_25 : decode cX3_moved 25 = .ok (.iload_n 2, 1) := by decide +kernel
theorem dX3_moved_26 : decode cX3_moved 26 = .ok (.invokevirtual 116, 3) := by decide +kernel
theorem dX3_moved_29 : decode cX3_moved 29 = .ok (.ifCond .ne 5, 3) := by decide +kernel
theorem dX3_moved_32 : decode cX3_moved 32 = .ok (.iconst (-1), 1) := by decide +kernel
theorem dX3_moved_33 : decode cX3_moved 33 = .ok (.ireturn, 1) := by decide +kernel
theorem dX3_moved_34 : decode cX3_moved 34 = .ok (.aload_n 3, 1) := by decide +kernel
theorem dX3_moved_35 : decode cX3_moved 35 = .ok (.getfield 162, 3) := by decide +kernel
theorem dX3_moved_38 : decode cX3_moved 38 = .ok (.iload_n 2, 1) := by decide +kernel
theorem dX3_moved_39 : decode cX3_moved 39 = .ok (.iaload, 1) := by decide +kernel
theorem dX3_moved_40 : decode cX3_moved 40 = .ok (.iconst (-1), 1) := by decide +kernel
theorem dX3_moved_41 : decode cX3_moved 41 = .ok (.if_icmp .ne 8, 3) := by decide +kernel
theorem dX3_moved_44 : decode cX3_moved 44 = .ok (.bipush (-3), 2) := by decide +kernel
theorem dX3_moved_46 : decode cX3_moved 46 = .ok (.goto 9, 3) := by decide +kernel
theorem dX3_moved_49 : decode cX3_moved 49 = .ok (.aload_n 3, 1) := by decide +kernel
theorem dX3_moved_50 : decode cX3_moved 50 = .ok (.getfield 162, 3) := by decide +kernel
theorem dX3_moved_53 : decode cX3_moved 53 = .ok (.iload_n 2, 1) := by decide +kernel
theorem dX3_moved_54 : decode cX3_moved 54 = .ok (.iaload, 1) := by decide +kernel
theorem dX3_moved_55 : decode cX3_moved 55 = .ok (.ireturn, 1) := by decide +kernel
theorem dX3_view_0 : decode cX3_view 0 = .ok (.iconst 0, 1) := by decide +kernel
theorem dX3_view_1 : decode cX3_view 1 = .ok (.istore_n 1, 1) := by decide +kernel
theorem dX3_view_2 : decode cX3_view 2 = .ok (.iload_n 1, 1) := by decide +kernel
theorem dX3_view_3 : decode cX3_view 3 = .ok (.iconst 4, 1) := by decide +kernel
theorem dX3_view_4 : decode cX3_view 4 = .ok (.if_icmp .ge 44, 3) := by decide +kernel
theorem dX3_view_7 : decode cX3_view 7 = .ok (.aload_n 0, 1) := by decide +kernel
theorem dX3_view_8 : decode cX3_view 8 = .ok (.getfield 51, 3) := by decide +kernel
theorem dX3_view_11 : decode cX3_view 11 = .ok (.iload_n 1, 1) := by decide +kernel
theorem dX3_view_12 : decode cX3_view 12 = .ok (.baload, 1) := by decide +kernel
theorem dX3_view_13 : decode cX3_view 13 = .ok (.ifCond .ne 29, 3) := by decide +kernel
theorem dX3_view_16 : decode cX3_view 16 = .ok (.aload_n 0, 1) := by decide +kernel
theorem dX3_view_17 : decode cX3_view 17 = .ok (.getfield 51, 3) := by decide +kernel
theorem dX3_view_20 : decode cX3_view 20 = .ok (.iload_n 1, 1) := by decide +kernel
theorem dX3_view_21 : decode cX3_view 21 = .ok (.iconst 1, 1) := by decide +kernel
theorem dX3_view_22 : decode cX3_view 22 = .ok (.bastore, 1) := by decide +kernel
theorem dX3_view_23 : decode cX3_view 23 = .ok (.aload_n 0, 1) := by decide +kernel
theorem dX3_view_24 : decode cX3_view 24 = .ok (.getfield 9, 3) := by decide +kernel
theorem dX3_view_27 : decode cX3_view 27 = .ok (.iconst 0, 1) := by decide +kernel
theorem dX3_view_28 : decode cX3_view 28 = .ok (.aload_n 0, 1) := by decide +kernel
theorem dX3_view_29 : decode cX3_view 29 = .ok (.getfield 48, 3) := by decide +kernel
theorem dX3_view_32 : decode cX3_view 32 = .ok (.iload_n 1, 1) := by decide +kernel
theorem dX3_view_33 : decode cX3_view 33 = .ok (.aaload, 1) := by decide +kernel
theorem dX3_view_34 : decode cX3_view 34 = .ok (.iconst 0, 1) := by decide +kernel
theorem dX3_view_35 : decode cX3_view 35 = .ok (.bipush 100, 2) := by decide +kernel
theorem dX3_view_37 : decode cX3_view 37 = .ok (.invokestatic 165, 3) := by decide +kernel
theorem dX3_view_40 : decode cX3_view 40 = .ok (.iload_n 1, 1) := by decide +kernel
theorem dX3_view_41 : decode cX3_view 41 = .ok (.ireturn, 1) := by decide +kernel
theorem dX3_view_42 : decode cX3_view 42 = .ok (.iinc 1 1, 3) := by decide +kernel
theorem dX3_view_45 : decode cX3_view 45 = .ok (.goto (-43), 3) := by decide +kernel
theorem dX3_view_48 : decode cX3_view 48 = .ok (.bipush (-4), 2) := by decide +kernel
theorem dX3_view_50 : decode cX3_view 50 = .ok (.ireturn, 1) := by decide +kernel
set_option maxRecDepth 20000 in
theorem ggX3_seen_X3_isOpenView : GoodIn wsX3_seen wsX3_isOpenView := goodIn_r _ [6, 7, 11, 12, 13, 14, 15, 16, 17, 18, 19, 20, 21] (by decide +kernel) (by decide +kernel)
set_option maxRecDepth 20000 in
theorem gX3_seen_X3_isOpenView : GoodIn wsX3_seen (wsV RX3 171 RX3 yX3_isOpenView wsX3_isOpenView) := goodIn_app (goodIn_of _ (by decide +kernel)) ggX3_seen_X3_isOpenView
set_option maxRecDepth 20000 in
theorem ggX3_seen_X3_isKey : GoodIn wsX3_seen wsX3_isKey := goodIn_r _ [10] (by decide +kernel) (by decide +kernel)
set_option maxRecDepth 20000 in
theorem gX3_seen_X3_isKey : GoodIn wsX3_seen (va_wsS RX3 61 yX3_isKey wsX3_isKey) := goodIn_app (goodIn_of _ (by decide +kernel)) ggX3_seen_X3_isKey
theorem dX3_seen_0 : decode cX3_seen 0 = .ok (.aload_n 0, 1) := by decide +kernel
theorem dX3_seen_1 : decode cX3_seen 1 = .ok (.iload_n 1, 1) := by decide +kernel
theorem dX3_seen_2 : decode cX3_seen 2 = .ok (.invokevirtual 171, 3) := by decide +kernel
theorem dX3_seen_5 : decode cX3_seen 5 = .ok (.ifCond .eq 10, 3) := by decide +kernel
theorem dX3_seen_8 : decode cX3_seen 8 = .ok (.iload_n 2, 1) := by decide +kernel
theorem dX3_seen_9 : decode cX3_seen 9 = .ok (.invokestatic 61, 3) := by decide +kernel
theorem dX3_seen_12 : decode cX3_seen 12 = .ok (.ifCond .ne 5, 3) := by decide +kernel
theorem dX3_seen_15 : decode cX3_seen 15 = .ok (.iconst (-1), 1) := by decide +kernel
theorem dX3_seen_16 : decode cX3_seen 16 = .ok (.ireturn, 1) := by decide +kernel
theorem dX3_seen_17 : decode cX3_seen 17 = .ok (.aload_n 0, 1) := by decide +kernel
theorem dX3_seen_18 : decode cX3_seen 18 = .ok (.getfield 48, 3) := by decide +kernel
theorem dX3_seen_21 : decode cX3_seen 21 = .ok (.iload_n 1, 1) := by decide +kernel
theorem dX3_seen_22 : decode cX3_seen 22 = .ok (.aaload, 1) := by decide +kernel
theorem dX3_seen_23 : decode cX3_seen 23 = .ok (.iload_n 2, 1) := by decide +kernel
theorem dX3_seen_24 : decode cX3_seen 24 = .ok (.iaload, 1) := by decide +kernel
theorem dX3_seen_25 : decode cX3_seen 25 = .ok (.istore_n 3, 1) := by decide +kernel
theorem dX3_seen_26 : decode cX3_seen 26 = .ok (.iload_n 3, 1) := by decide +kernel
theorem dX3_seen_27 : decode cX3_seen 27 = .ok (.iconst (-1), 1) := by decide +kernel
theorem dX3_seen_28 : decode cX3_seen 28 = .ok (.if_icmp .ne 8, 3) := by decide +kernel
theorem dX3_seen_31 : decode cX3_seen 31 = .ok (.bipush (-3), 2) := by decide +kernel
theorem dX3_seen_33 : decode cX3_seen 33 = .ok (.goto 4, 3) := by decide +kernel
theorem dX3_seen_36 : decode cX3_seen 36 = .ok (.iload_n 3, 1) := by decide +kernel
theorem dX3_seen_37 : decode cX3_seen 37 = .ok (.ireturn, 1) := by decide +kernel
set_option maxRecDepth 20000 in
theorem ggX3_shut_X3_isOpenView : GoodIn wsX3_shut wsX3_isOpenView := goodIn_r _ [8, 3, 9, 10, 11, 12, 13, 14, 15, 16, 17, 18, 19] (by decide +kernel) (by decide +kernel)
set_option maxRecDepth 20000 in
theorem gX3_shut_X3_isOpenView : GoodIn wsX3_shut (wsV RX3 171 RX3 yX3_isOpenView wsX3_isOpenView) := goodIn_app (goodIn_of _ (by decide +kernel)) ggX3_shut_X3_isOpenView
theorem dX3_shut_0 : decode cX3_shut 0 = .ok (.aload_n 0, 1) := by decide +kernel
theorem dX3_shut_1 : decode cX3_shut 1 = .ok (.iload_n 1, 1) := by decide +kernel
theorem dX3_shut_2 : decode cX3_shut 2 = .ok (.invokevirtual 171, 3) := by decide +kernel
theorem dX3_shut_5 : decode cX3_shut 5 = .ok (.ifCond .ne 5, 3) := by decide +kernel
theorem dX3_shut_8 : decode cX3_shut 8 = .ok (.iconst (-1), 1) := by decide +kernel
theorem dX3_shut_9 : decode cX3_shut 9 = .ok (.ireturn, 1) := by decide +kernel
theorem dX3_shut_10 : decode cX3_shut 10 = .ok (.iconst 0, 1) := by decide +kernel
theorem dX3_shut_11 : decode cX3_shut 11 = .ok (.istore_n 2, 1) := by decide +kernel
theorem dX3_shut_12 : decode cX3_shut 12 = .ok (.iconst 0, 1) := by decide +kernel
theorem dX3_shut_13 : decode cX3_shut 13 = .ok (.istore_n 3, 1) := by decide +kernel
theorem dX3_shut_14 : decode cX3_shut 14 = .ok (.iload_n 3, 1) := by decide +kernel
theorem dX3_shut_15 : decode cX3_shut 15 = .ok (.bipush 100, 2) := by decide +kernel
theorem dX3_shut_17 : decode cX3_shut 17 = .ok (.if_icmp .ge 29, 3) := by decide +kernel
theorem dX3_shut_20 : decode cX3_shut 20 = .ok (.aload_n 0, 1) := by decide +kernel
theorem dX3_shut_21 : decode cX3_shut 21 = .ok (.getfield 48, 3) := by decide +kernel
theorem dX3_shut_24 : decode cX3_shut 24 = .ok (.iload_n 1, 1) := by decide +kernel
theorem dX3_shut_25 : decode cX3_shut 25 = .ok (.aaload, 1) := by decide +kernel
theorem dX3_shut_26 : decode cX3_shut 26 = .ok (.iload_n 3, 1) := by decide +kernel
theorem dX3_shut_27 : decode cX3_shut 27 = .ok (.iaload, 1) := by decide +kernel
theorem dX3_shut_28 : decode cX3_shut 28 = .ok (.aload_n 0, 1) := by decide +kernel
theorem dX3_shut_29 : decode cX3_shut 29 = .ok (.getfield 9, 3) := by decide +kernel
theorem dX3_shut_32 : decode cX3_shut 32 = .ok (.iload_n 3, 1) := by decide +kernel
theorem dX3_shut_33 : decode cX3_shut 33 = .ok (.iaload, 1) := by decide +kernel
theorem dX3_shut_34 : decode cX3_shut 34 = .ok (.if_icmp .eq 6, 3) := by decide +kernel
theorem dX3_shut_37 : decode cX3_shut 37 = .ok (.iinc 2 1, 3) := by decide +kernel
theorem dX3_shut_40 : decode cX3_shut 40 = .ok (.iinc 3 1, 3) := by decide +kernel
theorem dX3_shut_43 : decode cX3_shut 43 = .ok (.goto (-29), 3) := by decide +kernel
theorem dX3_shut_46 : decode cX3_shut 46 = .ok (.aload_n 0, 1) := by decide +kernel
theorem dX3_shut_47 : decode cX3_shut 47 = .ok (.getfield 51, 3) := by decide +kernel
theorem dX3_shut_50 : decode cX3_shut 50 = .ok (.iload_n 1, 1) := by decide +kernel
theorem dX3_shut_51 : decode cX3_shut 51 = .ok (.iconst 0, 1) := by decide +kernel
theorem dX3_shut_52 : decode cX3_shut 52 = .ok (.bastore, 1) := by decide +kernel
theorem dX3_shut_53 : decode cX3_shut 53 = .ok (.iload_n 2, 1) := by decide +kernel
theorem dX3_shut_54 : decode cX3_shut 54 = .ok (.ireturn, 1) := by decide +kernel
set_option maxRecDepth 20000 in
theorem ggX3_share_X3_rowsInSegments : GoodIn wsX3_share wsX3_rowsInSegments := goodIn_r _ [8, 3, 9, 10, 16, 17, 18, 19, 20, 21, 22, 23, 24, 25, 26, 27, 28, 29, 30, 31, 32, 33, 34] (by decide +kernel) (by decide +kernel)
set_option maxRecDepth 20000 in
theorem gX3_share_X3_rowsInSegments : GoodIn wsX3_share (wsV RX3 94 RX3 yX3_rowsInSegments wsX3_rowsInSegments) := goodIn_app (goodIn_of _ (by decide +kernel)) ggX3_share_X3_rowsInSegments
set_option maxRecDepth 20000 in
theorem ggX3_share_X3_livingFrom : GoodIn wsX3_share wsX3_livingFrom := goodIn_r _ [14, 9, 15, 16, 17, 18, 19, 20, 21, 22, 23, 24, 25, 26, 27, 28, 29, 30, 31, 32, 33, 34] (by decide +kernel) (by decide +kernel)
set_option maxRecDepth 20000 in
theorem gX3_share_X3_livingFrom : GoodIn wsX3_share (wsV RX3 98 RX3 yX3_livingFrom wsX3_livingFrom) := goodIn_app (goodIn_of _ (by decide +kernel)) ggX3_share_X3_livingFrom
theorem dX3_share_0 : decode cX3_share 0 = .ok (.aload_n 0, 1) := by decide +kernel
theorem dX3_share_1 : decode cX3_share 1 = .ok (.invokevirtual 94, 3) := by decide +kernel
theorem dX3_share_4 : decode cX3_share 4 = .ok (.istore_n 1, 1) := by decide +kernel
theorem dX3_share_5 : decode cX3_share 5 = .ok (.iload_n 1, 1) := by decide +kernel
theorem dX3_share_6 : decode cX3_share 6 = .ok (.ifCond .ne 13, 3) := by decide +kernel
theorem dX3_share_9 : decode cX3_share 9 = .ok (.new 174, 3) := by decide +kernel
theorem dX3_share_12 : decode cX3_share 12 = .ok (.dup, 1) := by decide +kernel
theorem dX3_share_13 : decode cX3_share 13 = .ok (.ldc 176, 2) := by decide +kernel
theorem dX3_share_15 : decode cX3_share 15 = .ok (.invokespecial 178, 3) := by decide +kernel
theorem dX3_share_18 : decode cX3_share 18 = .ok (.athrow, 1) := by decide +kernel
theorem dX3_share_19 : decode cX3_share 19 = .ok (.sipush 1000, 3) := by decide +kernel
theorem dX3_share_22 : decode cX3_share 22 = .ok (.aload_n 0, 1) := by decide +kernel
theorem dX3_share_23 : decode cX3_share 23 = .ok (.iconst 0, 1) := by decide +kernel
theorem dX3_share_24 : decode cX3_share 24 = .ok (.aload_n 0, 1) := by decide +kernel
theorem dX3_share_25 : decode cX3_share 25 = .ok (.getfield 26, 3) := by decide +kernel
theorem dX3_share_28 : decode cX3_share 28 = .ok (.invokevirtual 98, 3) := by decide +kernel
theorem dX3_share_31 : decode cX3_share 31 = .ok (.imul, 1) := by decide +kernel
theorem dX3_share_32 : decode cX3_share 32 = .ok (.iload_n 1, 1) := by decide +kernel
theorem dX3_share_33 : decode cX3_share 33 = .ok (.idiv, 1) := by decide +kernel
theorem dX3_share_34 : decode cX3_share 34 = .ok (.ireturn, 1) := by decide +kernel
theorem dX3_isKey_0 : decode cX3_isKey 0 = .ok (.iload_n 0, 1) := by decide +kernel
theorem dX3_isKey_1 : decode cX3_isKey 1 = .ok (.ifCond .lt 13, 3) := by decide +kernel
theorem dX3_isKey_4 : decode cX3_isKey 4 = .ok (.iload_n 0, 1) := by decide +kernel
theorem dX3_isKey_5 : decode cX3_isKey 5 = .ok (.bipush 100, 2) := by decide +kernel
theorem dX3_isKey_7 : decode cX3_isKey 7 = .ok (.if_icmp .ge 7, 3) := by decide +kernel
theorem dX3_isKey_10 : decode cX3_isKey 10 = .ok (.iconst 1, 1) := by decide +kernel
theorem dX3_isKey_11 : decode cX3_isKey 11 = .ok (.goto 4, 3) := by decide +kernel
theorem dX3_isKey_14 : decode cX3_isKey 14 = .ok (.iconst 0, 1) := by decide +kernel
theorem dX3_isKey_15 : decode cX3_isKey 15 = .ok (.ireturn, 1) := by decide +kernel
theorem dX3_canBeMerged_0 : decode cX3_canBeMerged 0 = .ok (.iload_n 0, 1) := by decide +kernel
theorem dX3_canBeMerged_1 : decode cX3_canBeMerged 1 = .ok (.iconst 2, 1) := by decide +kernel
theorem dX3_canBeMerged_2 : decode cX3_canBeMerged 2 = .ok (.if_icmp .lt 13, 3) := by decide +kernel
theorem dX3_canBeMerged_5 : decode cX3_canBeMerged 5 = .ok (.iload_n 0, 1) := by decide +kernel
theorem dX3_canBeMerged_6 : decode cX3_canBeMerged 6 = .ok (.bipush 6, 2) := by decide +kernel
theorem dX3_canBeMerged_8 : decode cX3_canBeMerged 8 = .ok (.if_icmp .gt 7, 3) := by decide +kernel
theorem dX3_canBeMerged_11 : decode cX3_canBeMerged 11 = .ok (.iconst 1, 1) := by decide +kernel
theorem dX3_canBeMerged_12 : decode cX3_canBeMerged 12 = .ok (.goto 4, 3) := by decide +kernel
theorem dX3_canBeMerged_15 : decode cX3_canBeMerged 15 = .ok (.iconst 0, 1) := by decide +kernel
theorem dX3_canBeMerged_16 : decode cX3_canBeMerged 16 = .ok (.ireturn, 1) := by decide +kernel
theorem dX3_isPlace_0 : decode cX3_isPlace 0 = .ok (.iload_n 1, 1) := by decide +kernel
theorem dX3_isPlace_1 : decode cX3_isPlace 1 = .ok (.ifCond .lt 15, 3) := by decide +kernel
theorem dX3_isPlace_4 : decode cX3_isPlace 4 = .ok (.iload_n 1, 1) := by decide +kernel
theorem dX3_isPlace_5 : decode cX3_isPlace 5 = .ok (.aload_n 0, 1) := by decide +kernel
theorem dX3_isPlace_6 : decode cX3_isPlace 6 = .ok (.getfield 26, 3) := by decide +kernel
theorem dX3_isPlace_9 : decode cX3_isPlace 9 = .ok (.if_icmp .ge 7, 3) := by decide +kernel
theorem dX3_isPlace_12 : decode cX3_isPlace 12 = .ok (.iconst 1, 1) := by decide +kernel
theorem dX3_isPlace_13 : decode cX3_isPlace 13 = .ok (.goto 4, 3) := by decide +kernel
theorem dX3_isPlace_16 : decode cX3_isPlace 16 = .ok (.iconst 0, 1) := by decide +kernel
theorem dX3_isPlace_17 : decode cX3_isPlace 17 = .ok (.ireturn, 1) := by decide +kernel
theorem dX3_isOpenView_0 : decode cX3_isOpenView 0 = .ok (.iload_n 1, 1) := by decide +kernel
theorem dX3_isOpenView_1 : decode cX3_isOpenView 1 = .ok (.ifCond .lt 21, 3) := by decide +kernel
theorem dX3_isOpenView_4 : decode cX3_isOpenView 4 = .ok (.iload_n 1, 1) := by decide +kernel
theorem dX3_isOpenView_5 : decode cX3_isOpenView 5 = .ok (.iconst 4, 1) := by decide +kernel
theorem dX3_isOpenView_6 : decode cX3_isOpenView 6 = .ok (.if_icmp .ge 16, 3) := by decide +kernel
theorem dX3_isOpenView_9 : decode cX3_isOpenView 9 = .ok (.aload_n 0, 1) := by decide +kernel
theorem dX3_isOpenView_10 : decode cX3_isOpenView 10 = .ok (.getfield 51, 3) := by decide +kernel
theorem dX3_isOpenView_13 : decode cX3_isOpenView 13 = .ok (.iload_n 1, 1) := by decide +kernel
end
section
theorem dX3_isOpenView_14 : decode cX3_isOpenView 14 = .ok (.baload, 1) := by decide +kernel
theorem dX3_isOpenView_15 : decode cX3_isOpenView 15 = .ok (.ifCond .eq 7, 3) := by decide +kernel
theorem dX3_isOpenView_18 : decode cX3_isOpenView 18 = .ok (.iconst 1, 1) := by decide +kernel
theorem dX3_isOpenView_19 : decode cX3_isOpenView 19 = .ok (.goto 4, 3) := by decide +kernel
theorem dX3_isOpenView_22 : decode cX3_isOpenView 22 = .ok (.iconst 0, 1) := by decide +kernel
theorem dX3_isOpenView_23 : decode cX3_isOpenView 23 = .ok (.ireturn, 1) := by decide +kernel
set_option maxRecDepth 20000 in
theorem ggX3_killRowOf_X2_kill : GoodIn wsX3_killRowOf wsX2_kill := goodIn_r _ [7, 8, 9, 10, 11, 23, 24, 25, 26, 27, 28, 29, 30] (by decide +kernel) (by decide +kernel)
set_option maxRecDepth 20000 in
theorem gX3_killRowOf_X2_kill : GoodIn wsX3_killRowOf (wsV RX3 181 RX2 yX2_kill wsX2_kill) := goodIn_app (goodIn_of _ (by decide +kernel)) ggX3_killRowOf_X2_kill
theorem dX3_killRowOf_0 : decode cX3_killRowOf 0 = .ok (.iconst 0, 1) := by decide +kernel
theorem dX3_killRowOf_1 : decode cX3_killRowOf 1 = .ok (.istore_n 2, 1) := by decide +kernel
theorem dX3_killRowOf_2 : decode cX3_killRowOf 2 = .ok (.iload_n 2, 1) := by decide +kernel
theorem dX3_killRowOf_3 : decode cX3_killRowOf 3 = .ok (.aload_n 0, 1) := by decide +kernel
theorem dX3_killRowOf_4 : decode cX3_killRowOf 4 = .ok (.getfield 26, 3) := by decide +kernel
theorem dX3_killRowOf_7 : decode cX3_killRowOf 7 = .ok (.if_icmp .ge 19, 3) := by decide +kernel
theorem dX3_killRowOf_10 : decode cX3_killRowOf 10 = .ok (.aload_n 0, 1) := by decide +kernel
theorem dX3_killRowOf_11 : decode cX3_killRowOf 11 = .ok (.getfield 22, 3) := by decide +kernel
theorem dX3_killRowOf_14 : decode cX3_killRowOf 14 = .ok (.iload_n 2, 1) := by decide +kernel
theorem dX3_killRowOf_15 : decode cX3_killRowOf 15 = .ok (.aaload, 1) := by decide +kernel
theorem dX3_killRowOf_16 : decode cX3_killRowOf 16 = .ok (.iload_n 1, 1) := by decide +kernel
theorem dX3_killRowOf_17 : decode cX3_killRowOf 17 = .ok (.invokevirtual 181, 3) := by decide +kernel
theorem dX3_killRowOf_20 : decode cX3_killRowOf 20 = .ok (.iinc 2 1, 3) := by decide +kernel
theorem dX3_killRowOf_23 : decode cX3_killRowOf 23 = .ok (.goto (-21), 3) := by decide +kernel
theorem dX3_killRowOf_26 : decode cX3_killRowOf 26 = .ok (.return_, 1) := by decide +kernel
theorem dX3_rowsInSegments_0 : decode cX3_rowsInSegments 0 = .ok (.iconst 0, 1) := by decide +kernel
theorem dX3_rowsInSegments_1 : decode cX3_rowsInSegments 1 = .ok (.istore_n 1, 1) := by decide +kernel
theorem dX3_rowsInSegments_2 : decode cX3_rowsInSegments 2 = .ok (.iconst 0, 1) := by decide +kernel
theorem dX3_rowsInSegments_3 : decode cX3_rowsInSegments 3 = .ok (.istore_n 2, 1) := by decide +kernel
theorem dX3_rowsInSegments_4 : decode cX3_rowsInSegments 4 = .ok (.iload_n 2, 1) := by decide +kernel
theorem dX3_rowsInSegments_5 : decode cX3_rowsInSegments 5 = .ok (.aload_n 0, 1) := by decide +kernel
theorem dX3_rowsInSegments_6 : decode cX3_rowsInSegments 6 = .ok (.getfield 26, 3) := by decide +kernel
theorem dX3_rowsInSegments_9 : decode cX3_rowsInSegments 9 = .ok (.if_icmp .ge 21, 3) := by decide +kernel
theorem dX3_rowsInSegments_12 : decode cX3_rowsInSegments 12 = .ok (.iload_n 1, 1) := by decide +kernel
theorem dX3_rowsInSegments_13 : decode cX3_rowsInSegments 13 = .ok (.aload_n 0, 1) := by decide +kernel
theorem dX3_rowsInSegments_14 : decode cX3_rowsInSegments 14 = .ok (.getfield 22, 3) := by decide +kernel
theorem dX3_rowsInSegments_17 : decode cX3_rowsInSegments 17 = .ok (.iload_n 2, 1) := by decide +kernel
theorem dX3_rowsInSegments_18 : decode cX3_rowsInSegments 18 = .ok (.aaload, 1) := by decide +kernel
theorem dX3_rowsInSegments_19 : decode cX3_rowsInSegments 19 = .ok (.getfield 90, 3) := by decide +kernel
theorem dX3_rowsInSegments_22 : decode cX3_rowsInSegments 22 = .ok (.iadd, 1) := by decide +kernel
theorem dX3_rowsInSegments_23 : decode cX3_rowsInSegments 23 = .ok (.istore_n 1, 1) := by decide +kernel
theorem dX3_rowsInSegments_24 : decode cX3_rowsInSegments 24 = .ok (.iinc 2 1, 3) := by decide +kernel
theorem dX3_rowsInSegments_27 : decode cX3_rowsInSegments 27 = .ok (.goto (-23), 3) := by decide +kernel
theorem dX3_rowsInSegments_30 : decode cX3_rowsInSegments 30 = .ok (.iload_n 1, 1) := by decide +kernel
theorem dX3_rowsInSegments_31 : decode cX3_rowsInSegments 31 = .ok (.ireturn, 1) := by decide +kernel
theorem dX3_livingFrom_0 : decode cX3_livingFrom 0 = .ok (.iconst 0, 1) := by decide +kernel
theorem dX3_livingFrom_1 : decode cX3_livingFrom 1 = .ok (.istore_n 3, 1) := by decide +kernel
theorem dX3_livingFrom_2 : decode cX3_livingFrom 2 = .ok (.iload_n 1, 1) := by decide +kernel
theorem dX3_livingFrom_3 : decode cX3_livingFrom 3 = .ok (.istore 4, 2) := by decide +kernel
theorem dX3_livingFrom_5 : decode cX3_livingFrom 5 = .ok (.iload 4, 2) := by decide +kernel
theorem dX3_livingFrom_7 : decode cX3_livingFrom 7 = .ok (.iload_n 1, 1) := by decide +kernel
theorem dX3_livingFrom_8 : decode cX3_livingFrom 8 = .ok (.iload_n 2, 1) := by decide +kernel
theorem dX3_livingFrom_9 : decode cX3_livingFrom 9 = .ok (.iadd, 1) := by decide +kernel
theorem dX3_livingFrom_10 : decode cX3_livingFrom 10 = .ok (.if_icmp .ge 22, 3) := by decide +kernel
theorem dX3_livingFrom_13 : decode cX3_livingFrom 13 = .ok (.iload_n 3, 1) := by decide +kernel
theorem dX3_livingFrom_14 : decode cX3_livingFrom 14 = .ok (.aload_n 0, 1) := by decide +kernel
theorem dX3_livingFrom_15 : decode cX3_livingFrom 15 = .ok (.getfield 22, 3) := by decide +kernel
theorem dX3_livingFrom_18 : decode cX3_livingFrom 18 = .ok (.iload 4, 2) := by decide +kernel
theorem dX3_livingFrom_20 : decode cX3_livingFrom 20 = .ok (.aaload, 1) := by decide +kernel
theorem dX3_livingFrom_21 : decode cX3_livingFrom 21 = .ok (.getfield 108, 3) := by decide +kernel
theorem dX3_livingFrom_24 : decode cX3_livingFrom 24 = .ok (.iadd, 1) := by decide +kernel
theorem dX3_livingFrom_25 : decode cX3_livingFrom 25 = .ok (.istore_n 3, 1) := by decide +kernel
theorem dX3_livingFrom_26 : decode cX3_livingFrom 26 = .ok (.iinc 4 1, 3) := by decide +kernel
theorem dX3_livingFrom_29 : decode cX3_livingFrom 29 = .ok (.goto (-24), 3) := by decide +kernel
theorem dX3_livingFrom_32 : decode cX3_livingFrom 32 = .ok (.iload_n 3, 1) := by decide +kernel
theorem dX3_livingFrom_33 : decode cX3_livingFrom 33 = .ok (.ireturn, 1) := by decide +kernel
theorem dX3_isOfOneTier_0 : decode cX3_isOfOneTier 0 = .ok (.iload_n 1, 1) := by decide +kernel
theorem dX3_isOfOneTier_1 : decode cX3_isOfOneTier 1 = .ok (.iconst 1, 1) := by decide +kernel
theorem dX3_isOfOneTier_2 : decode cX3_isOfOneTier 2 = .ok (.iadd, 1) := by decide +kernel
theorem dX3_isOfOneTier_3 : decode cX3_isOfOneTier 3 = .ok (.istore_n 3, 1) := by decide +kernel
theorem dX3_isOfOneTier_4 : decode cX3_isOfOneTier 4 = .ok (.iload_n 3, 1) := by decide +kernel
theorem dX3_isOfOneTier_5 : decode cX3_isOfOneTier 5 = .ok (.iload_n 1, 1) := by decide +kernel
theorem dX3_isOfOneTier_6 : decode cX3_isOfOneTier 6 = .ok (.iload_n 2, 1) := by decide +kernel
theorem dX3_isOfOneTier_7 : decode cX3_isOfOneTier 7 = .ok (.iadd, 1) := by decide +kernel
theorem dX3_isOfOneTier_8 : decode cX3_isOfOneTier 8 = .ok (.if_icmp .ge 32, 3) := by decide +kernel
theorem dX3_isOfOneTier_11 : decode cX3_isOfOneTier 11 = .ok (.aload_n 0, 1) := by decide +kernel
theorem dX3_isOfOneTier_12 : decode cX3_isOfOneTier 12 = .ok (.getfield 22, 3) := by decide +kernel
theorem dX3_isOfOneTier_15 : decode cX3_isOfOneTier 15 = .ok (.iload_n 3, 1) := by decide +kernel
theorem dX3_isOfOneTier_16 : decode cX3_isOfOneTier 16 = .ok (.aaload, 1) := by decide +kernel
theorem dX3_isOfOneTier_17 : decode cX3_isOfOneTier 17 = .ok (.getfield 105, 3) := by decide +kernel
theorem dX3_isOfOneTier_20 : decode cX3_isOfOneTier 20 = .ok (.aload_n 0, 1) := by decide +kernel
theorem dX3_isOfOneTier_21 : decode cX3_isOfOneTier 21 = .ok (.getfield 22, 3) := by decide +kernel
theorem dX3_isOfOneTier_24 : decode cX3_isOfOneTier 24 = .ok (.iload_n 1, 1) := by decide +kernel
theorem dX3_isOfOneTier_25 : decode cX3_isOfOneTier 25 = .ok (.aaload, 1) := by decide +kernel
theorem dX3_isOfOneTier_26 : decode cX3_isOfOneTier 26 = .ok (.getfield 105, 3) := by decide +kernel
theorem dX3_isOfOneTier_29 : decode cX3_isOfOneTier 29 = .ok (.if_icmp .eq 5, 3) := by decide +kernel
theorem dX3_isOfOneTier_32 : decode cX3_isOfOneTier 32 = .ok (.iconst 0, 1) := by decide +kernel
theorem dX3_isOfOneTier_33 : decode cX3_isOfOneTier 33 = .ok (.ireturn, 1) := by decide +kernel
theorem dX3_isOfOneTier_34 : decode cX3_isOfOneTier 34 = .ok (.iinc 3 1, 3) := by decide +kernel
theorem dX3_isOfOneTier_37 : decode cX3_isOfOneTier 37 = .ok (.goto (-33), 3) := by decide +kernel
theorem dX3_isOfOneTier_40 : decode cX3_isOfOneTier 40 = .ok (.iconst 1, 1) := by decide +kernel
theorem dX3_isOfOneTier_41 : decode cX3_isOfOneTier 41 = .ok (.ireturn, 1) := by decide +kernel
set_option maxRecDepth 20000 in
theorem ggX3_endMerge_X1_asSegment : GoodIn wsX3_endMerge wsX1_asSegment := goodIn_r _ [13, 14, 15, 16, 17, 18, 19, 20, 21, 22, 23, 24, 25, 26, 12, 27, 28, 29, 30, 31, 32, 33, 34, 35, 36, 37, 38, 39, 40, 41, 42, 43, 44, 45, 46, 47, 48, 49, 50, 51, 52, 76, 77, 78, 79, 80, 81, 82, 83, 59, 60, 61, 62, 63, 64] (by decide +kernel) (by decide +kernel)
set_option maxRecDepth 20000 in
theorem gX3_endMerge_X1_asSegment : GoodIn wsX3_endMerge (wsV RX3 184 RX1 yX1_asSegment wsX1_asSegment) := goodIn_app (goodIn_of _ (by decide +kernel)) ggX3_endMerge_X1_asSegment
set_option maxRecDepth 20000 in
theorem ggX3_endMerge_X3_closeGap : GoodIn wsX3_endMerge wsX3_closeGap := goodIn_r _ [57, 58, 2, 65, 66, 67, 68, 69, 70, 71, 72, 73, 74, 75] (by decide +kernel) (by decide +kernel)
set_option maxRecDepth 20000 in
theorem gX3_endMerge_X3_closeGap : GoodIn wsX3_endMerge (wsV RX3 188 RX3 yX3_closeGap wsX3_closeGap) := goodIn_app (goodIn_of _ (by decide +kernel)) ggX3_endMerge_X3_closeGap
theorem dX3_endMerge_0 : decode cX3_endMerge 0 = .ok (.iconst 0, 1) := by decide +kernel
theorem dX3_endMerge_1 : decode cX3_endMerge 1 = .ok (.istore_n 2, 1) := by decide +kernel
theorem dX3_endMerge_2 : decode cX3_endMerge 2 = .ok (.aload_n 1, 1) := by decide +kernel
theorem dX3_endMerge_3 : decode cX3_endMerge 3 = .ok (.getfield 153, 3) := by decide +kernel
theorem dX3_endMerge_6 : decode cX3_endMerge 6 = .ok (.ifCond .le 32, 3) := by decide +kernel
theorem dX3_endMerge_9 : decode cX3_endMerge 9 = .ok (.aload_n 0, 1) := by decide +kernel
theorem dX3_endMerge_10 : decode cX3_endMerge 10 = .ok (.getfield 22, 3) := by decide +kernel
theorem dX3_endMerge_13 : decode cX3_endMerge 13 = .ok (.aload_n 1, 1) := by decide +kernel
theorem dX3_endMerge_14 : decode cX3_endMerge 14 = .ok (.getfield 156, 3) := by decide +kernel
theorem dX3_endMerge_17 : decode cX3_endMerge 17 = .ok (.aload_n 1, 1) := by decide +kernel
theorem dX3_endMerge_18 : decode cX3_endMerge 18 = .ok (.aload_n 0, 1) := by decide +kernel
theorem dX3_endMerge_19 : decode cX3_endMerge 19 = .ok (.getfield 30, 3) := by decide +kernel
theorem dX3_endMerge_22 : decode cX3_endMerge 22 = .ok (.invokevirtual 184, 3) := by decide +kernel
theorem dX3_endMerge_25 : decode cX3_endMerge 25 = .ok (.aastore, 1) := by decide +kernel
theorem dX3_endMerge_26 : decode cX3_endMerge 26 = .ok (.aload_n 0, 1) := by decide +kernel
theorem dX3_endMerge_27 : decode cX3_endMerge 27 = .ok (.dup, 1) := by decide +kernel
theorem dX3_endMerge_28 : decode cX3_endMerge 28 = .ok (.getfield 30, 3) := by decide +kernel
theorem dX3_endMerge_31 : decode cX3_endMerge 31 = .ok (.iconst 1, 1) := by decide +kernel
theorem dX3_endMerge_32 : decode cX3_endMerge 32 = .ok (.iadd, 1) := by decide +kernel
theorem dX3_endMerge_33 : decode cX3_endMerge 33 = .ok (.putfield 30, 3) := by decide +kernel
theorem dX3_endMerge_36 : decode cX3_endMerge 36 = .ok (.iconst 1, 1) := by decide +kernel
theorem dX3_endMerge_37 : decode cX3_endMerge 37 = .ok (.istore_n 2, 1) := by decide +kernel
theorem dX3_endMerge_38 : decode cX3_endMerge 38 = .ok (.aload_n 0, 1) := by decide +kernel
theorem dX3_endMerge_39 : decode cX3_endMerge 39 = .ok (.aload_n 1, 1) := by decide +kernel
theorem dX3_endMerge_40 : decode cX3_endMerge 40 = .ok (.getfield 156, 3) := by decide +kernel
theorem dX3_endMerge_43 : decode cX3_endMerge 43 = .ok (.iload_n 2, 1) := by decide +kernel
theorem dX3_endMerge_44 : decode cX3_endMerge 44 = .ok (.iadd, 1) := by decide +kernel
theorem dX3_endMerge_45 : decode cX3_endMerge 45 = .ok (.aload_n 1, 1) := by decide +kernel
theorem dX3_endMerge_46 : decode cX3_endMerge 46 = .ok (.getfield 185, 3) := by decide +kernel
theorem dX3_endMerge_49 : decode cX3_endMerge 49 = .ok (.arraylength, 1) := by decide +kernel
theorem dX3_endMerge_50 : decode cX3_endMerge 50 = .ok (.iload_n 2, 1) := by decide +kernel
theorem dX3_endMerge_51 : decode cX3_endMerge 51 = .ok (.isub, 1) := by decide +kernel
theorem dX3_endMerge_52 : decode cX3_endMerge 52 = .ok (.invokevirtual 188, 3) := by decide +kernel
theorem dX3_endMerge_55 : decode cX3_endMerge 55 = .ok (.aload_n 0, 1) := by decide +kernel
theorem dX3_endMerge_56 : decode cX3_endMerge 56 = .ok (.dup, 1) := by decide +kernel
theorem dX3_endMerge_57 : decode cX3_endMerge 57 = .ok (.getfield 33, 3) := by decide +kernel
theorem dX3_endMerge_60 : decode cX3_endMerge 60 = .ok (.aload_n 1, 1) := by decide +kernel
theorem dX3_endMerge_61 : decode cX3_endMerge 61 = .ok (.getfield 153, 3) := by decide +kernel
theorem dX3_endMerge_64 : decode cX3_endMerge 64 = .ok (.iadd, 1) := by decide +kernel
theorem dX3_endMerge_65 : decode cX3_endMerge 65 = .ok (.putfield 33, 3) := by decide +kernel
theorem dX3_endMerge_68 : decode cX3_endMerge 68 = .ok (.aload_n 0, 1) := by decide +kernel
theorem dX3_endMerge_69 : decode cX3_endMerge 69 = .ok (.aload_n 1, 1) := by decide +kernel
theorem dX3_endMerge_70 : decode cX3_endMerge 70 = .ok (.putfield 43, 3) := by decide +kernel
theorem dX3_endMerge_73 : decode cX3_endMerge 73 = .ok (.aload_n 0, 1) := by decide +kernel
theorem dX3_endMerge_74 : decode cX3_endMerge 74 = .ok (.aconst_null, 1) := by decide +kernel
theorem dX3_endMerge_75 : decode cX3_endMerge 75 = .ok (.putfield 39, 3) := by decide +kernel
theorem dX3_endMerge_78 : decode cX3_endMerge 78 = .ok (.return_, 1) := by decide +kernel
theorem dX3_closeGap_0 : decode cX3_closeGap 0 = .ok (.iload_n 1, 1) := by decide +kernel
theorem dX3_closeGap_1 : decode cX3_closeGap 1 = .ok (.istore_n 3, 1) := by decide +kernel
theorem dX3_closeGap_2 : decode cX3_closeGap 2 = .ok (.iload_n 3, 1) := by decide +kernel
theorem dX3_closeGap_3 : decode cX3_closeGap 3 = .ok (.iload_n 2, 1) := by decide +kernel
theorem dX3_closeGap_4 : decode cX3_closeGap 4 = .ok (.iadd, 1) := by decide +kernel
theorem dX3_closeGap_5 : decode cX3_closeGap 5 = .ok (.aload_n 0, 1) := by decide +kernel
theorem dX3_closeGap_6 : decode cX3_closeGap 6 = .ok (.getfield 26, 3) := by decide +kernel
theorem dX3_closeGap_9 : decode cX3_closeGap 9 = .ok (.if_icmp .ge 23, 3) := by decide +kernel
theorem dX3_closeGap_12 : decode cX3_closeGap 12 = .ok (.aload_n 0, 1) := by decide +kernel
theorem dX3_closeGap_13 : decode cX3_closeGap 13 = .ok (.getfield 22, 3) := by decide +kernel
theorem dX3_closeGap_16 : decode cX3_closeGap 16 = .ok (.iload_n 3, 1) := by decide +kernel
theorem dX3_closeGap_17 : decode cX3_closeGap 17 = .ok (.aload_n 0, 1) := by decide +kernel
theorem dX3_closeGap_18 : decode cX3_closeGap 18 = .ok (.getfield 22, 3) := by decide +kernel
theorem dX3_closeGap_21 : decode cX3_closeGap 21 = .ok (.iload_n 3, 1) := by decide +kernel
theorem dX3_closeGap_22 : decode cX3_closeGap 22 = .ok (.iload_n 2, 1) := by decide +kernel
theorem dX3_closeGap_23 : decode cX3_closeGap 23 = .ok (.iadd, 1) := by decide +kernel
theorem dX3_closeGap_24 : decode cX3_closeGap 24 = .ok (.aaload, 1) := by decide +kernel
theorem dX3_closeGap_25 : decode cX3_closeGap 25 = .ok (.aastore, 1) := by decide +kernel
theorem dX3_closeGap_26 : decode cX3_closeGap 26 = .ok (.iinc 3 1, 3) := by decide +kernel
theorem dX3_closeGap_29 : decode cX3_closeGap 29 = .ok (.goto (-27), 3) := by decide +kernel
theorem dX3_closeGap_32 : decode cX3_closeGap 32 = .ok (.aload_n 0, 1) := by decide +kernel
theorem dX3_closeGap_33 : decode cX3_closeGap 33 = .ok (.dup, 1) := by decide +kernel
theorem dX3_closeGap_34 : decode cX3_closeGap 34 = .ok (.getfield 26, 3) := by decide +kernel
theorem dX3_closeGap_37 : decode cX3_closeGap 37 = .ok (.iload_n 2, 1) := by decide +kernel
theorem dX3_closeGap_38 : decode cX3_closeGap 38 = .ok (.isub, 1) := by decide +kernel
theorem dX3_closeGap_39 : decode cX3_closeGap 39 = .ok (.putfield 26, 3) := by decide +kernel
theorem dX3_closeGap_42 : decode cX3_closeGap 42 = .ok (.return_, 1) := by decide +kernel
theorem dX4_init_0 : decode cX4_init 0 = .ok (.aload_n 0, 1) := by decide +kernel
theorem dX4_init_1 : decode cX4_init 1 = .ok (.invokespecial 1, 3) := by decide +kernel
theorem dX4_init_4 : decode cX4_init 4 = .ok (.aload_n 0, 1) := by decide +kernel
theorem dX4_init_5 : decode cX4_init 5 = .ok (.bipush 100, 2) := by decide +kernel
theorem dX4_init_7 : decode cX4_init 7 = .ok (.newarray .int, 2) := by decide +kernel
theorem dX4_init_9 : decode cX4_init 9 = .ok (.putfield 7, 3) := by decide +kernel
theorem dX4_init_12 : decode cX4_init 12 = .ok (.aload_n 0, 1) := by decide +kernel
theorem dX4_init_13 : decode cX4_init 13 = .ok (.bipush 100, 2) := by decide +kernel
theorem dX4_init_15 : decode cX4_init 15 = .ok (.newarray .int, 2) := by decide +kernel
theorem dX4_init_17 : decode cX4_init 17 = .ok (.putfield 13, 3) := by decide +kernel
theorem dX4_init_20 : decode cX4_init 20 = .ok (.aload_n 0, 1) := by decide +kernel
theorem dX4_init_21 : decode cX4_init 21 = .ok (.bipush 100, 2) := by decide +kernel
theorem dX4_init_23 : decode cX4_init 23 = .ok (.newarray .int, 2) := by decide +kernel
theorem dX4_init_25 : decode cX4_init 25 = .ok (.putfield 16, 3) := by decide +kernel
theorem dX4_init_28 : decode cX4_init 28 = .ok (.aload_n 0, 1) := by decide +kernel
theorem dX4_init_29 : decode cX4_init 29 = .ok (.bipush 100, 2) := by decide +kernel
theorem dX4_init_31 : decode cX4_init 31 = .ok (.newarray .int, 2) := by decide +kernel
theorem dX4_init_33 : decode cX4_init 33 = .ok (.putfield 19, 3) := by decide +kernel
theorem dX4_init_36 : decode cX4_init 36 = .ok (.aload_n 0, 1) := by decide +kernel
theorem dX4_init_37 : decode cX4_init 37 = .ok (.bipush 6, 2) := by decide +kernel
theorem dX4_init_39 : decode cX4_init 39 = .ok (.newarray .int, 2) := by decide +kernel
theorem dX4_init_41 : decode cX4_init 41 = .ok (.putfield 22, 3) := by decide +kernel
theorem dX4_init_44 : decode cX4_init 44 = .ok (.aload_n 0, 1) := by decide +kernel
theorem dX4_init_45 : decode cX4_init 45 = .ok (.bipush 20, 2) := by decide +kernel
theorem dX4_init_47 : decode cX4_init 47 = .ok (.newarray .int, 2) := by decide +kernel
theorem dX4_init_49 : decode cX4_init 49 = .ok (.putfield 25, 3) := by decide +kernel
theorem dX4_init_52 : decode cX4_init 52 = .ok (.aload_n 0, 1) := by decide +kernel
theorem dX4_init_53 : decode cX4_init 53 = .ok (.bipush 21, 2) := by decide +kernel
theorem dX4_init_55 : decode cX4_init 55 = .ok (.newarray .boolean, 2) := by decide +kernel
theorem dX4_init_57 : decode cX4_init 57 = .ok (.putfield 28, 3) := by decide +kernel
theorem dX4_init_60 : decode cX4_init 60 = .ok (.aload_n 0, 1) := by decide +kernel
theorem dX4_init_61 : decode cX4_init 61 = .ok (.bipush 21, 2) := by decide +kernel
theorem dX4_init_63 : decode cX4_init 63 = .ok (.newarray .int, 2) := by decide +kernel
theorem dX4_init_65 : decode cX4_init 65 = .ok (.putfield 32, 3) := by decide +kernel
theorem dX4_init_68 : decode cX4_init 68 = .ok (.aload_n 0, 1) := by decide +kernel
theorem dX4_init_69 : decode cX4_init 69 = .ok (.bipush 21, 2) := by decide +kernel
theorem dX4_init_71 : decode cX4_init 71 = .ok (.newarray .int, 2) := by decide +kernel
theorem dX4_init_73 : decode cX4_init 73 = .ok (.putfield 35, 3) := by decide +kernel
theorem dX4_init_76 : decode cX4_init 76 = .ok (.aload_n 0, 1) := by decide +kernel
theorem dX4_init_77 : decode cX4_init 77 = .ok (.bipush 21, 2) := by decide +kernel
theorem dX4_init_79 : decode cX4_init 79 = .ok (.newarray .int, 2) := by decide +kernel
theorem dX4_init_81 : decode cX4_init 81 = .ok (.putfield 38, 3) := by decide +kernel
theorem dX4_init_84 : decode cX4_init 84 = .ok (.aload_n 0, 1) := by decide +kernel
theorem dX4_init_85 : decode cX4_init 85 = .ok (.sipush 2100, 3) := by decide +kernel
theorem dX4_init_88 : decode cX4_init 88 = .ok (.newarray .int, 2) := by decide +kernel
theorem dX4_init_90 : decode cX4_init 90 = .ok (.putfield 41, 3) := by decide +kernel
theorem dX4_init_93 : decode cX4_init 93 = .ok (.aload_n 0, 1) := by decide +kernel
theorem dX4_init_94 : decode cX4_init 94 = .ok (.sipush 2100, 3) := by decide +kernel
theorem dX4_init_97 : decode cX4_init 97 = .ok (.newarray .int, 2) := by decide +kernel
theorem dX4_init_99 : decode cX4_init 99 = .ok (.putfield 44, 3) := by decide +kernel
theorem dX4_init_102 : decode cX4_init 102 = .ok (.aload_n 0, 1) := by decide +kernel
theorem dX4_init_103 : decode cX4_init 103 = .ok (.sipush 2100, 3) := by decide +kernel
theorem dX4_init_106 : decode cX4_init 106 = .ok (.newarray .boolean, 2) := by decide +kernel
theorem dX4_init_108 : decode cX4_init 108 = .ok (.putfield 47, 3) := by decide +kernel
theorem dX4_init_111 : decode cX4_init 111 = .ok (.aload_n 0, 1) := by decide +kernel
theorem dX4_init_112 : decode cX4_init 112 = .ok (.iconst 3, 1) := by decide +kernel
theorem dX4_init_113 : decode cX4_init 113 = .ok (.putfield 50, 3) := by decide +kernel
theorem dX4_init_116 : decode cX4_init 116 = .ok (.aload_n 0, 1) := by decide +kernel
theorem dX4_init_117 : decode cX4_init 117 = .ok (.bipush 6, 2) := by decide +kernel
theorem dX4_init_119 : decode cX4_init 119 = .ok (.newarray .int, 2) := by decide +kernel
theorem dX4_init_121 : decode cX4_init 121 = .ok (.putfield 54, 3) := by decide +kernel
theorem dX4_init_124 : decode cX4_init 124 = .ok (.aload_n 0, 1) := by decide +kernel
theorem dX4_init_125 : decode cX4_init 125 = .ok (.bipush 100, 2) := by decide +kernel
theorem dX4_init_127 : decode cX4_init 127 = .ok (.newarray .int, 2) := by decide +kernel
theorem dX4_init_129 : decode cX4_init 129 = .ok (.putfield 57, 3) := by decide +kernel
theorem dX4_init_132 : decode cX4_init 132 = .ok (.aload_n 0, 1) := by decide +kernel
theorem dX4_init_133 : decode cX4_init 133 = .ok (.bipush 100, 2) := by decide +kernel
theorem dX4_init_135 : decode cX4_init 135 = .ok (.newarray .int, 2) := by decide +kernel
theorem dX4_init_137 : decode cX4_init 137 = .ok (.putfield 60, 3) := by decide +kernel
theorem dX4_init_140 : decode cX4_init 140 = .ok (.aload_n 0, 1) := by decide +kernel
theorem dX4_init_141 : decode cX4_init 141 = .ok (.bipush 100, 2) := by decide +kernel
theorem dX4_init_143 : decode cX4_init 143 = .ok (.newarray .int, 2) := by decide +kernel
theorem dX4_init_145 : decode cX4_init 145 = .ok (.putfield 63, 3) := by decide +kernel
theorem dX4_init_148 : decode cX4_init 148 = .ok (.aload_n 0, 1) := by decide +kernel
theorem dX4_init_149 : decode cX4_init 149 = .ok (.sipush 600, 3) := by decide +kernel
theorem dX4_init_152 : decode cX4_init 152 = .ok (.newarray .int, 2) := by decide +kernel
theorem dX4_init_154 : decode cX4_init 154 = .ok (.putfield 66, 3) := by decide +kernel
theorem dX4_init_157 : decode cX4_init 157 = .ok (.aload_n 0, 1) := by decide +kernel
theorem dX4_init_158 : decode cX4_init 158 = .ok (.bipush 6, 2) := by decide +kernel
theorem dX4_init_160 : decode cX4_init 160 = .ok (.newarray .int, 2) := by decide +kernel
theorem dX4_init_162 : decode cX4_init 162 = .ok (.putfield 69, 3) := by decide +kernel
theorem dX4_init_165 : decode cX4_init 165 = .ok (.aload_n 0, 1) := by decide +kernel
theorem dX4_init_166 : decode cX4_init 166 = .ok (.bipush 6, 2) := by decide +kernel
theorem dX4_init_168 : decode cX4_init 168 = .ok (.newarray .int, 2) := by decide +kernel
theorem dX4_init_170 : decode cX4_init 170 = .ok (.putfield 72, 3) := by decide +kernel
theorem dX4_init_173 : decode cX4_init 173 = .ok (.aload_n 0, 1) := by decide +kernel
theorem dX4_init_174 : decode cX4_init 174 = .ok (.sipush 600, 3) := by decide +kernel
theorem dX4_init_177 : decode cX4_init 177 = .ok (.newarray .int, 2) := by decide +kernel
theorem dX4_init_179 : decode cX4_init 179 = .ok (.putfield 75, 3) := by decide +kernel
theorem dX4_init_182 : decode cX4_init 182 = .ok (.aload_n 0, 1) := by decide +kernel
theorem dX4_init_183 : decode cX4_init 183 = .ok (.iconst 4, 1) := by decide +kernel
theorem dX4_init_184 : decode cX4_init 184 = .ok (.newarray .boolean, 2) := by decide +kernel
theorem dX4_init_186 : decode cX4_init 186 = .ok (.putfield 78, 3) := by decide +kernel
theorem dX4_init_189 : decode cX4_init 189 = .ok (.aload_n 0, 1) := by decide +kernel
theorem dX4_init_190 : decode cX4_init 190 = .ok (.sipush 400, 3) := by decide +kernel
theorem dX4_init_193 : decode cX4_init 193 = .ok (.newarray .int, 2) := by decide +kernel
theorem dX4_init_195 : decode cX4_init 195 = .ok (.putfield 81, 3) := by decide +kernel
theorem dX4_init_198 : decode cX4_init 198 = .ok (.iconst 0, 1) := by decide +kernel
theorem dX4_init_199 : decode cX4_init 199 = .ok (.istore_n 1, 1) := by decide +kernel
theorem dX4_init_200 : decode cX4_init 200 = .ok (.iload_n 1, 1) := by decide +kernel
theorem dX4_init_201 : decode cX4_init 201 = .ok (.bipush 100, 2) := by decide +kernel
theorem dX4_init_203 : decode cX4_init 203 = .ok (.if_icmp .ge 23, 3) := by decide +kernel
theorem dX4_init_206 : decode cX4_init 206 = .ok (.aload_n 0, 1) := by decide +kernel
theorem dX4_init_207 : decode cX4_init 207 = .ok (.getfield 7, 3) := by decide +kernel
theorem dX4_init_210 : decode cX4_init 210 = .ok (.iload_n 1, 1) := by decide +kernel
theorem dX4_init_211 : decode cX4_init 211 = .ok (.iconst (-1), 1) := by decide +kernel
theorem dX4_init_212 : decode cX4_init 212 = .ok (.iastore, 1) := by decide +kernel
theorem dX4_init_213 : decode cX4_init 213 = .ok (.aload_n 0, 1) := by decide +kernel
theorem dX4_init_214 : decode cX4_init 214 = .ok (.getfield 16, 3) := by decide +kernel
theorem dX4_init_217 : decode cX4_init 217 = .ok (.iload_n 1, 1) := by decide +kernel
theorem dX4_init_218 : decode cX4_init 218 = .ok (.iconst (-1), 1) := by decide +kernel
theorem dX4_init_219 : decode cX4_init 219 = .ok (.iastore, 1) := by decide +kernel
theorem dX4_init_220 : decode cX4_init 220 = .ok (.iinc 1 1, 3) := by decide +kernel
theorem dX4_init_223 : decode cX4_init 223 = .ok (.goto (-23), 3) := by decide +kernel
theorem dX4_init_226 : decode cX4_init 226 = .ok (.return_, 1) := by decide +kernel
theorem dX4_thrown_0 : decode cX4_thrown 0 = .ok (.aload_n 0, 1) := by decide +kernel
theorem dX4_thrown_1 : decode cX4_thrown 1 = .ok (.getfield 84, 3) := by decide +kernel
theorem dX4_thrown_4 : decode cX4_thrown 4 = .ok (.ireturn, 1) := by decide +kernel
theorem dX4_in_0 : decode cX4_in 0 = .ok (.iload_n 0, 1) := by decide +kernel
theorem dX4_in_1 : decode cX4_in 1 = .ok (.iload_n 1, 1) := by decide +kernel
theorem dX4_in_2 : decode cX4_in 2 = .ok (.if_icmp .lt 12, 3) := by decide +kernel
theorem dX4_in_5 : decode cX4_in 5 = .ok (.iload_n 0, 1) := by decide +kernel
theorem dX4_in_6 : decode cX4_in 6 = .ok (.iload_n 2, 1) := by decide +kernel
theorem dX4_in_7 : decode cX4_in 7 = .ok (.if_icmp .gt 7, 3) := by decide +kernel
theorem dX4_in_10 : decode cX4_in 10 = .ok (.iconst 1, 1) := by decide +kernel
theorem dX4_in_11 : decode cX4_in 11 = .ok (.goto 4, 3) := by decide +kernel
theorem dX4_in_14 : decode cX4_in 14 = .ok (.iconst 0, 1) := by decide +kernel
theorem dX4_in_15 : decode cX4_in 15 = .ok (.ireturn, 1) := by decide +kernel
theorem dX4_memoryAt_0 : decode cX4_memoryAt 0 = .ok (.iconst (-1), 1) := by decide +kernel
theorem dX4_memoryAt_1 : decode cX4_memoryAt 1 = .ok (.istore_n 2, 1) := by decide +kernel
theorem dX4_memoryAt_2 : decode cX4_memoryAt 2 = .ok (.iconst 0, 1) := by decide +kernel
theorem dX4_memoryAt_3 : decode cX4_memoryAt 3 = .ok (.istore_n 3, 1) := by decide +kernel
theorem dX4_memoryAt_4 : decode cX4_memoryAt 4 = .ok (.iload_n 3, 1) := by decide +kernel
theorem dX4_memoryAt_5 : decode cX4_memoryAt 5 = .ok (.aload_n 0, 1) := by decide +kernel
theorem dX4_memoryAt_6 : decode cX4_memoryAt 6 = .ok (.getfield 87, 3) := by decide +kernel
theorem dX4_memoryAt_9 : decode cX4_memoryAt 9 = .ok (.if_icmp .ge 25, 3) := by decide +kernel
theorem dX4_memoryAt_12 : decode cX4_memoryAt 12 = .ok (.aload_n 0, 1) := by decide +kernel
theorem dX4_memoryAt_13 : decode cX4_memoryAt 13 = .ok (.getfield 22, 3) := by decide +kernel
theorem dX4_memoryAt_16 : decode cX4_memoryAt 16 = .ok (.iload_n 3, 1) := by decide +kernel
theorem dX4_memoryAt_17 : decode cX4_memoryAt 17 = .ok (.iaload, 1) := by decide +kernel
theorem dX4_memoryAt_18 : decode cX4_memoryAt 18 = .ok (.iload_n 1, 1) := by decide +kernel
theorem dX4_memoryAt_19 : decode cX4_memoryAt 19 = .ok (.if_icmp .ne 7, 3) := by decide +kernel
theorem dX4_memoryAt_22 : decode cX4_memoryAt 22 = .ok (.iload_n 3, 1) := by decide +kernel
theorem dX4_memoryAt_23 : decode cX4_memoryAt 23 = .ok (.goto 4, 3) := by decide +kernel
theorem dX4_memoryAt_26 : decode cX4_memoryAt 26 = .ok (.iload_n 2, 1) := by decide +kernel
theorem dX4_memoryAt_27 : decode cX4_memoryAt 27 = .ok (.istore_n 2, 1) := by decide +kernel
theorem dX4_memoryAt_28 : decode cX4_memoryAt 28 = .ok (.iinc 3 1, 3) := by decide +kernel
theorem dX4_memoryAt_31 : decode cX4_memoryAt 31 = .ok (.goto (-27), 3) := by decide +kernel
theorem dX4_memoryAt_34 : decode cX4_memoryAt 34 = .ok (.iload_n 2, 1) := by decide +kernel
theorem dX4_memoryAt_35 : decode cX4_memoryAt 35 = .ok (.ireturn, 1) := by decide +kernel
theorem dX4_die_0 : decode cX4_die 0 = .ok (.aload_n 0, 1) := by decide +kernel
theorem dX4_die_1 : decode cX4_die 1 = .ok (.getfield 16, 3) := by decide +kernel
theorem dX4_die_4 : decode cX4_die 4 = .ok (.iload_n 1, 1) := by decide +kernel
theorem dX4_die_5 : decode cX4_die 5 = .ok (.iaload, 1) := by decide +kernel
theorem dX4_die_6 : decode cX4_die 6 = .ok (.ifCond .lt 32, 3) := by decide +kernel
theorem dX4_die_9 : decode cX4_die 9 = .ok (.aload_n 0, 1) := by decide +kernel
theorem dX4_die_10 : decode cX4_die 10 = .ok (.getfield 47, 3) := by decide +kernel
theorem dX4_die_13 : decode cX4_die 13 = .ok (.bipush 100, 2) := by decide +kernel
theorem dX4_die_15 : decode cX4_die 15 = .ok (.aload_n 0, 1) := by decide +kernel
theorem dX4_die_16 : decode cX4_die 16 = .ok (.getfield 16, 3) := by decide +kernel
theorem dX4_die_19 : decode cX4_die 19 = .ok (.iload_n 1, 1) := by decide +kernel
theorem dX4_die_20 : decode cX4_die 20 = .ok (.iaload, 1) := by decide +kernel
theorem dX4_die_21 : decode cX4_die 21 = .ok (.imul, 1) := by decide +kernel
theorem dX4_die_22 : decode cX4_die 22 = .ok (.aload_n 0, 1) := by decide +kernel
theorem dX4_die_23 : decode cX4_die 23 = .ok (.getfield 19, 3) := by decide +kernel
theorem dX4_die_26 : decode cX4_die 26 = .ok (.iload_n 1, 1) := by decide +kernel
theorem dX4_die_27 : decode cX4_die 27 = .ok (.iaload, 1) := by decide +kernel
theorem dX4_die_28 : decode cX4_die 28 = .ok (.iadd, 1) := by decide +kernel
theorem dX4_die_29 : decode cX4_die 29 = .ok (.iconst 0, 1) := by decide +kernel
theorem dX4_die_30 : decode cX4_die 30 = .ok (.bastore, 1) := by decide +kernel
theorem dX4_die_31 : decode cX4_die 31 = .ok (.aload_n 0, 1) := by decide +kernel
theorem dX4_die_32 : decode cX4_die 32 = .ok (.getfield 16, 3) := by decide +kernel
theorem dX4_die_35 : decode cX4_die 35 = .ok (.iload_n 1, 1) := by decide +kernel
theorem dX4_die_36 : decode cX4_die 36 = .ok (.iconst (-1), 1) := by decide +kernel
theorem dX4_die_37 : decode cX4_die 37 = .ok (.iastore, 1) := by decide +kernel
theorem dX4_die_38 : decode cX4_die 38 = .ok (.return_, 1) := by decide +kernel
set_option maxRecDepth 20000 in
theorem ggX4_put_X4_in : GoodIn wsX4_put wsX4_in := goodIn_r _ [9] (by decide +kernel) (by decide +kernel)
set_option maxRecDepth 20000 in
theorem gX4_put_X4_in : GoodIn wsX4_put (va_wsS RX4 90 yX4_in wsX4_in) := goodIn_app (goodIn_of _ (by decide +kernel)) ggX4_put_X4_in
set_option maxRecDepth 20000 in
theorem ggX4_put_X4_memoryAt : GoodIn wsX4_put wsX4_memoryAt := goodIn_r _ [13, 2, 3, 21, 22, 23, 24, 25, 26, 27, 28, 29, 30, 31, 32, 33, 34, 35, 36, 37, 38, 39, 40, 41, 42, 43, 44, 45, 46, 47, 48, 49, 50, 51, 52, 53, 54] (by decide +kernel) (by decide +kernel)
set_option maxRecDepth 20000 in
theorem gX4_put_X4_memoryAt : GoodIn wsX4_put (wsV RX4 94 RX4 yX4_memoryAt wsX4_memoryAt) := goodIn_app (goodIn_of _ (by decide +kernel)) ggX4_put_X4_memoryAt
set_option maxRecDepth 20000 in
theorem ggX4_put_X4_die : GoodIn wsX4_put wsX4_die := goodIn_r _ [17, 18, 19, 20, 21, 22, 23, 24, 25, 26, 27, 28, 29, 30, 31, 32, 33, 34, 35, 36, 37, 38, 39, 40, 41, 42, 43, 44, 45, 46, 47, 48, 49, 50, 51, 52, 53, 54] (by decide +kernel) (by decide +kernel)
set_option maxRecDepth 20000 in
theorem gX4_put_X4_die : GoodIn wsX4_put (wsV RX4 98 RX4 yX4_die wsX4_die) := goodIn_app (goodIn_of _ (by decide +kernel)) ggX4_put_X4_die
end
section
theorem dX4_put_0 : decode cX4_put 0 = .ok (.aload_n 0, 1) := by decide +kernel
theorem dX4_put_1 : decode cX4_put 1 = .ok (.iconst 0, 1) := by decide +kernel
theorem dX4_put_2 : decode cX4_put 2 = .ok (.putfield 84, 3) := by decide +kernel
theorem dX4_put_5 : decode cX4_put 5 = .ok (.iload_n 1, 1) := by decide +kernel
theorem dX4_put_6 : decode cX4_put 6 = .ok (.iconst 0, 1) := by decide +kernel
theorem dX4_put_7 : decode cX4_put 7 = .ok (.bipush 99, 2) := by decide +kernel
theorem dX4_put_9 : decode cX4_put 9 = .ok (.invokestatic 90, 3) := by decide +kernel
theorem dX4_put_12 : decode cX4_put 12 = .ok (.ifCond .ne 5, 3) := by decide +kernel
theorem dX4_put_15 : decode cX4_put 15 = .ok (.iconst (-1), 1) := by decide +kernel
theorem dX4_put_16 : decode cX4_put 16 = .ok (.ireturn, 1) := by decide +kernel
theorem dX4_put_17 : decode cX4_put 17 = .ok (.iload_n 2, 1) := by decide +kernel
theorem dX4_put_18 : decode cX4_put 18 = .ok (.iconst 0, 1) := by decide +kernel
theorem dX4_put_19 : decode cX4_put 19 = .ok (.sipush 999, 3) := by decide +kernel
theorem dX4_put_22 : decode cX4_put 22 = .ok (.invokestatic 90, 3) := by decide +kernel
theorem dX4_put_25 : decode cX4_put 25 = .ok (.ifCond .ne 6, 3) := by decide +kernel
theorem dX4_put_28 : decode cX4_put 28 = .ok (.bipush (-2), 2) := by decide +kernel
theorem dX4_put_30 : decode cX4_put 30 = .ok (.ireturn, 1) := by decide +kernel
theorem dX4_put_31 : decode cX4_put 31 = .ok (.aload_n 0, 1) := by decide +kernel
theorem dX4_put_32 : decode cX4_put 32 = .ok (.iload_n 1, 1) := by decide +kernel
theorem dX4_put_33 : decode cX4_put 33 = .ok (.invokevirtual 94, 3) := by decide +kernel
theorem dX4_put_36 : decode cX4_put 36 = .ok (.ifCond .ge 35, 3) := by decide +kernel
theorem dX4_put_39 : decode cX4_put 39 = .ok (.aload_n 0, 1) := by decide +kernel
theorem dX4_put_40 : decode cX4_put 40 = .ok (.getfield 87, 3) := by decide +kernel
theorem dX4_put_43 : decode cX4_put 43 = .ok (.bipush 6, 2) := by decide +kernel
theorem dX4_put_45 : decode cX4_put 45 = .ok (.if_icmp .ne 6, 3) := by decide +kernel
theorem dX4_put_48 : decode cX4_put 48 = .ok (.bipush (-4), 2) := by decide +kernel
theorem dX4_put_50 : decode cX4_put 50 = .ok (.ireturn, 1) := by decide +kernel
theorem dX4_put_51 : decode cX4_put 51 = .ok (.aload_n 0, 1) := by decide +kernel
theorem dX4_put_52 : decode cX4_put 52 = .ok (.getfield 22, 3) := by decide +kernel
theorem dX4_put_55 : decode cX4_put 55 = .ok (.aload_n 0, 1) := by decide +kernel
theorem dX4_put_56 : decode cX4_put 56 = .ok (.getfield 87, 3) := by decide +kernel
theorem dX4_put_59 : decode cX4_put 59 = .ok (.iload_n 1, 1) := by decide +kernel
theorem dX4_put_60 : decode cX4_put 60 = .ok (.iastore, 1) := by decide +kernel
theorem dX4_put_61 : decode cX4_put 61 = .ok (.aload_n 0, 1) := by decide +kernel
theorem dX4_put_62 : decode cX4_put 62 = .ok (.dup, 1) := by decide +kernel
theorem dX4_put_63 : decode cX4_put 63 = .ok (.getfield 87, 3) := by decide +kernel
theorem dX4_put_66 : decode cX4_put 66 = .ok (.iconst 1, 1) := by decide +kernel
theorem dX4_put_67 : decode cX4_put 67 = .ok (.iadd, 1) := by decide +kernel
theorem dX4_put_68 : decode cX4_put 68 = .ok (.putfield 87, 3) := by decide +kernel
theorem dX4_put_71 : decode cX4_put 71 = .ok (.aload_n 0, 1) := by decide +kernel
theorem dX4_put_72 : decode cX4_put 72 = .ok (.iload_n 1, 1) := by decide +kernel
theorem dX4_put_73 : decode cX4_put 73 = .ok (.invokevirtual 98, 3) := by decide +kernel
theorem dX4_put_76 : decode cX4_put 76 = .ok (.aload_n 0, 1) := by decide +kernel
theorem dX4_put_77 : decode cX4_put 77 = .ok (.getfield 7, 3) := by decide +kernel
theorem dX4_put_80 : decode cX4_put 80 = .ok (.iload_n 1, 1) := by decide +kernel
theorem dX4_put_81 : decode cX4_put 81 = .ok (.iload_n 2, 1) := by decide +kernel
theorem dX4_put_82 : decode cX4_put 82 = .ok (.iastore, 1) := by decide +kernel
theorem dX4_put_83 : decode cX4_put 83 = .ok (.aload_n 0, 1) := by decide +kernel
theorem dX4_put_84 : decode cX4_put 84 = .ok (.getfield 13, 3) := by decide +kernel
theorem dX4_put_87 : decode cX4_put 87 = .ok (.iload_n 1, 1) := by decide +kernel
theorem dX4_put_88 : decode cX4_put 88 = .ok (.dup2, 1) := by decide +kernel
theorem dX4_put_89 : decode cX4_put 89 = .ok (.iaload, 1) := by decide +kernel
theorem dX4_put_90 : decode cX4_put 90 = .ok (.iconst 1, 1) := by decide +kernel
theorem dX4_put_91 : decode cX4_put 91 = .ok (.iadd, 1) := by decide +kernel
theorem dX4_put_92 : decode cX4_put 92 = .ok (.iastore, 1) := by decide +kernel
theorem dX4_put_93 : decode cX4_put 93 = .ok (.aload_n 0, 1) := by decide +kernel
theorem dX4_put_94 : decode cX4_put 94 = .ok (.getfield 87, 3) := by decide +kernel
theorem dX4_put_97 : decode cX4_put 97 = .ok (.ireturn, 1) := by decide +kernel
set_option maxRecDepth 20000 in
theorem ggX4_drop_X4_in : GoodIn wsX4_drop wsX4_in := goodIn_r _ [9] (by decide +kernel) (by decide +kernel)
set_option maxRecDepth 20000 in
theorem gX4_drop_X4_in : GoodIn wsX4_drop (va_wsS RX4 90 yX4_in wsX4_in) := goodIn_app (goodIn_of _ (by decide +kernel)) ggX4_drop_X4_in
set_option maxRecDepth 20000 in
theorem ggX4_drop_X4_memoryAt : GoodIn wsX4_drop wsX4_memoryAt := goodIn_r _ [13, 3, 4, 21, 22, 23, 24, 25, 26, 27, 28, 29, 30, 31, 32, 33, 34, 35, 36, 37, 38, 39, 40, 41, 42, 43, 44, 45, 46, 47, 48, 49, 50, 51, 52, 53, 54] (by decide +kernel) (by decide +kernel)
set_option maxRecDepth 20000 in
theorem gX4_drop_X4_memoryAt : GoodIn wsX4_drop (wsV RX4 94 RX4 yX4_memoryAt wsX4_memoryAt) := goodIn_app (goodIn_of _ (by decide +kernel)) ggX4_drop_X4_memoryAt
set_option maxRecDepth 20000 in
theorem ggX4_drop_X4_die : GoodIn wsX4_drop wsX4_die := goodIn_r _ [17, 18, 19, 20, 21, 22, 23, 24, 25, 26, 27, 28, 29, 30, 31, 32, 33, 34, 35, 36, 37, 38, 39, 40, 41, 42, 43, 44, 45, 46, 47, 48, 49, 50, 51, 52, 53, 54] (by decide +kernel) (by decide +kernel)
set_option maxRecDepth 20000 in
theorem gX4_drop_X4_die : GoodIn wsX4_drop (wsV RX4 98 RX4 yX4_die wsX4_die) := goodIn_app (goodIn_of _ (by decide +kernel)) ggX4_drop_X4_die
theorem dX4_drop_0 : decode cX4_drop 0 = .ok (.aload_n 0, 1) := by decide +kernel
theorem dX4_drop_1 : decode cX4_drop 1 = .ok (.iconst 0, 1) := by decide +kernel
theorem dX4_drop_2 : decode cX4_drop 2 = .ok (.putfield 84, 3) := by decide +kernel
theorem dX4_drop_5 : decode cX4_drop 5 = .ok (.iload_n 1, 1) := by decide +kernel
theorem dX4_drop_6 : decode cX4_drop 6 = .ok (.iconst 0, 1) := by decide +kernel
theorem dX4_drop_7 : decode cX4_drop 7 = .ok (.bipush 99, 2) := by decide +kernel
theorem dX4_drop_9 : decode cX4_drop 9 = .ok (.invokestatic 90, 3) := by decide +kernel
theorem dX4_drop_12 : decode cX4_drop 12 = .ok (.ifCond .ne 5, 3) := by decide +kernel
theorem dX4_drop_15 : decode cX4_drop 15 = .ok (.iconst (-1), 1) := by decide +kernel
theorem dX4_drop_16 : decode cX4_drop 16 = .ok (.ireturn, 1) := by decide +kernel
theorem dX4_drop_17 : decode cX4_drop 17 = .ok (.aload_n 0, 1) := by decide +kernel
theorem dX4_drop_18 : decode cX4_drop 18 = .ok (.getfield 7, 3) := by decide +kernel
theorem dX4_drop_21 : decode cX4_drop 21 = .ok (.iload_n 1, 1) := by decide +kernel
theorem dX4_drop_22 : decode cX4_drop 22 = .ok (.iaload, 1) := by decide +kernel
theorem dX4_drop_23 : decode cX4_drop 23 = .ok (.ifCond .ge 5, 3) := by decide +kernel
theorem dX4_drop_26 : decode cX4_drop 26 = .ok (.iconst 0, 1) := by decide +kernel
theorem dX4_drop_27 : decode cX4_drop 27 = .ok (.ireturn, 1) := by decide +kernel
theorem dX4_drop_28 : decode cX4_drop 28 = .ok (.aload_n 0, 1) := by decide +kernel
theorem dX4_drop_29 : decode cX4_drop 29 = .ok (.iload_n 1, 1) := by decide +kernel
theorem dX4_drop_30 : decode cX4_drop 30 = .ok (.invokevirtual 94, 3) := by decide +kernel
theorem dX4_drop_33 : decode cX4_drop 33 = .ok (.istore_n 2, 1) := by decide +kernel
theorem dX4_drop_34 : decode cX4_drop 34 = .ok (.iload_n 2, 1) := by decide +kernel
theorem dX4_drop_35 : decode cX4_drop 35 = .ok (.ifCond .lt 43, 3) := by decide +kernel
theorem dX4_drop_38 : decode cX4_drop 38 = .ok (.aload_n 0, 1) := by decide +kernel
theorem dX4_drop_39 : decode cX4_drop 39 = .ok (.dup, 1) := by decide +kernel
theorem dX4_drop_40 : decode cX4_drop 40 = .ok (.getfield 87, 3) := by decide +kernel
theorem dX4_drop_43 : decode cX4_drop 43 = .ok (.iconst 1, 1) := by decide +kernel
theorem dX4_drop_44 : decode cX4_drop 44 = .ok (.isub, 1) := by decide +kernel
theorem dX4_drop_45 : decode cX4_drop 45 = .ok (.putfield 87, 3) := by decide +kernel
theorem dX4_drop_48 : decode cX4_drop 48 = .ok (.iload_n 2, 1) := by decide +kernel
theorem dX4_drop_49 : decode cX4_drop 49 = .ok (.istore_n 3, 1) := by decide +kernel
theorem dX4_drop_50 : decode cX4_drop 50 = .ok (.iload_n 3, 1) := by decide +kernel
theorem dX4_drop_51 : decode cX4_drop 51 = .ok (.aload_n 0, 1) := by decide +kernel
theorem dX4_drop_52 : decode cX4_drop 52 = .ok (.getfield 87, 3) := by decide +kernel
theorem dX4_drop_55 : decode cX4_drop 55 = .ok (.if_icmp .ge 23, 3) := by decide +kernel
theorem dX4_drop_58 : decode cX4_drop 58 = .ok (.aload_n 0, 1) := by decide +kernel
theorem dX4_drop_59 : decode cX4_drop 59 = .ok (.getfield 22, 3) := by decide +kernel
theorem dX4_drop_62 : decode cX4_drop 62 = .ok (.iload_n 3, 1) := by decide +kernel
theorem dX4_drop_63 : decode cX4_drop 63 = .ok (.aload_n 0, 1) := by decide +kernel
theorem dX4_drop_64 : decode cX4_drop 64 = .ok (.getfield 22, 3) := by decide +kernel
theorem dX4_drop_67 : decode cX4_drop 67 = .ok (.iload_n 3, 1) := by decide +kernel
theorem dX4_drop_68 : decode cX4_drop 68 = .ok (.iconst 1, 1) := by decide +kernel
theorem dX4_drop_69 : decode cX4_drop 69 = .ok (.iadd, 1) := by decide +kernel
theorem dX4_drop_70 : decode cX4_drop 70 = .ok (.iaload, 1) := by decide +kernel
theorem dX4_drop_71 : decode cX4_drop 71 = .ok (.iastore, 1) := by decide +kernel
theorem dX4_drop_72 : decode cX4_drop 72 = .ok (.iinc 3 1, 3) := by decide +kernel
theorem dX4_drop_75 : decode cX4_drop 75 = .ok (.goto (-25), 3) := by decide +kernel
theorem dX4_drop_78 : decode cX4_drop 78 = .ok (.aload_n 0, 1) := by decide +kernel
theorem dX4_drop_79 : decode cX4_drop 79 = .ok (.iload_n 1, 1) := by decide +kernel
theorem dX4_drop_80 : decode cX4_drop 80 = .ok (.invokevirtual 98, 3) := by decide +kernel
theorem dX4_drop_83 : decode cX4_drop 83 = .ok (.aload_n 0, 1) := by decide +kernel
theorem dX4_drop_84 : decode cX4_drop 84 = .ok (.getfield 7, 3) := by decide +kernel
theorem dX4_drop_87 : decode cX4_drop 87 = .ok (.iload_n 1, 1) := by decide +kernel
theorem dX4_drop_88 : decode cX4_drop 88 = .ok (.iconst (-1), 1) := by decide +kernel
theorem dX4_drop_89 : decode cX4_drop 89 = .ok (.iastore, 1) := by decide +kernel
theorem dX4_drop_90 : decode cX4_drop 90 = .ok (.aload_n 0, 1) := by decide +kernel
theorem dX4_drop_91 : decode cX4_drop 91 = .ok (.getfield 13, 3) := by decide +kernel
theorem dX4_drop_94 : decode cX4_drop 94 = .ok (.iload_n 1, 1) := by decide +kernel
theorem dX4_drop_95 : decode cX4_drop 95 = .ok (.dup2, 1) := by decide +kernel
theorem dX4_drop_96 : decode cX4_drop 96 = .ok (.iaload, 1) := by decide +kernel
theorem dX4_drop_97 : decode cX4_drop 97 = .ok (.iconst 1, 1) := by decide +kernel
theorem dX4_drop_98 : decode cX4_drop 98 = .ok (.iadd, 1) := by decide +kernel
theorem dX4_drop_99 : decode cX4_drop 99 = .ok (.iastore, 1) := by decide +kernel
theorem dX4_drop_100 : decode cX4_drop 100 = .ok (.iconst 1, 1) := by decide +kernel
theorem dX4_drop_101 : decode cX4_drop 101 = .ok (.ireturn, 1) := by decide +kernel
set_option maxRecDepth 20000 in
theorem ggX4_get_X4_in : GoodIn wsX4_get wsX4_in := goodIn_r _ [6] (by decide +kernel) (by decide +kernel)
set_option maxRecDepth 20000 in
theorem gX4_get_X4_in : GoodIn wsX4_get (va_wsS RX4 90 yX4_in wsX4_in) := goodIn_app (goodIn_of _ (by decide +kernel)) ggX4_get_X4_in
theorem dX4_get_0 : decode cX4_get 0 = .ok (.aload_n 0, 1) := by decide +kernel
theorem dX4_get_1 : decode cX4_get 1 = .ok (.iconst 0, 1) := by decide +kernel
theorem dX4_get_2 : decode cX4_get 2 = .ok (.putfield 84, 3) := by decide +kernel
theorem dX4_get_5 : decode cX4_get 5 = .ok (.iload_n 1, 1) := by decide +kernel
theorem dX4_get_6 : decode cX4_get 6 = .ok (.iconst 0, 1) := by decide +kernel
theorem dX4_get_7 : decode cX4_get 7 = .ok (.bipush 99, 2) := by decide +kernel
theorem dX4_get_9 : decode cX4_get 9 = .ok (.invokestatic 90, 3) := by decide +kernel
theorem dX4_get_12 : decode cX4_get 12 = .ok (.ifCond .ne 7, 3) := by decide +kernel
theorem dX4_get_15 : decode cX4_get 15 = .ok (.iconst (-1), 1) := by decide +kernel
theorem dX4_get_16 : decode cX4_get 16 = .ok (.goto 23, 3) := by decide +kernel
theorem dX4_get_19 : decode cX4_get 19 = .ok (.aload_n 0, 1) := by decide +kernel
theorem dX4_get_20 : decode cX4_get 20 = .ok (.getfield 7, 3) := by decide +kernel
theorem dX4_get_23 : decode cX4_get 23 = .ok (.iload_n 1, 1) := by decide +kernel
theorem dX4_get_24 : decode cX4_get 24 = .ok (.iaload, 1) := by decide +kernel
theorem dX4_get_25 : decode cX4_get 25 = .ok (.ifCond .ge 8, 3) := by decide +kernel
theorem dX4_get_28 : decode cX4_get 28 = .ok (.bipush (-3), 2) := by decide +kernel
theorem dX4_get_30 : decode cX4_get 30 = .ok (.goto 9, 3) := by decide +kernel
theorem dX4_get_33 : decode cX4_get 33 = .ok (.aload_n 0, 1) := by decide +kernel
theorem dX4_get_34 : decode cX4_get 34 = .ok (.getfield 7, 3) := by decide +kernel
theorem dX4_get_37 : decode cX4_get 37 = .ok (.iload_n 1, 1) := by decide +kernel
theorem dX4_get_38 : decode cX4_get 38 = .ok (.iaload, 1) := by decide +kernel
theorem dX4_get_39 : decode cX4_get 39 = .ok (.ireturn, 1) := by decide +kernel
set_option maxRecDepth 20000 in
theorem ggX4_next_X4_in : GoodIn wsX4_next wsX4_in := goodIn_r _ [6] (by decide +kernel) (by decide +kernel)
set_option maxRecDepth 20000 in
theorem gX4_next_X4_in : GoodIn wsX4_next (va_wsS RX4 90 yX4_in wsX4_in) := goodIn_app (goodIn_of _ (by decide +kernel)) ggX4_next_X4_in
theorem dX4_next_0 : decode cX4_next 0 = .ok (.aload_n 0, 1) := by decide +kernel
theorem dX4_next_1 : decode cX4_next 1 = .ok (.iconst 0, 1) := by decide +kernel
theorem dX4_next_2 : decode cX4_next 2 = .ok (.putfield 84, 3) := by decide +kernel
theorem dX4_next_5 : decode cX4_next 5 = .ok (.iload_n 1, 1) := by decide +kernel
theorem dX4_next_6 : decode cX4_next 6 = .ok (.iconst 0, 1) := by decide +kernel
theorem dX4_next_7 : decode cX4_next 7 = .ok (.bipush 99, 2) := by decide +kernel
theorem dX4_next_9 : decode cX4_next 9 = .ok (.invokestatic 90, 3) := by decide +kernel
theorem dX4_next_12 : decode cX4_next 12 = .ok (.ifCond .ne 5, 3) := by decide +kernel
theorem dX4_next_15 : decode cX4_next 15 = .ok (.iconst (-1), 1) := by decide +kernel
theorem dX4_next_16 : decode cX4_next 16 = .ok (.ireturn, 1) := by decide +kernel
theorem dX4_next_17 : decode cX4_next 17 = .ok (.iload_n 1, 1) := by decide +kernel
theorem dX4_next_18 : decode cX4_next 18 = .ok (.istore_n 2, 1) := by decide +kernel
theorem dX4_next_19 : decode cX4_next 19 = .ok (.iload_n 2, 1) := by decide +kernel
theorem dX4_next_20 : decode cX4_next 20 = .ok (.bipush 100, 2) := by decide +kernel
theorem dX4_next_22 : decode cX4_next 22 = .ok (.if_icmp .ge 20, 3) := by decide +kernel
theorem dX4_next_25 : decode cX4_next 25 = .ok (.aload_n 0, 1) := by decide +kernel
theorem dX4_next_26 : decode cX4_next 26 = .ok (.getfield 7, 3) := by decide +kernel
theorem dX4_next_29 : decode cX4_next 29 = .ok (.iload_n 2, 1) := by decide +kernel
theorem dX4_next_30 : decode cX4_next 30 = .ok (.iaload, 1) := by decide +kernel
theorem dX4_next_31 : decode cX4_next 31 = .ok (.ifCond .lt 5, 3) := by decide +kernel
theorem dX4_next_34 : decode cX4_next 34 = .ok (.iload_n 2, 1) := by decide +kernel
theorem dX4_next_35 : decode cX4_next 35 = .ok (.ireturn, 1) := by decide +kernel
theorem dX4_next_36 : decode cX4_next 36 = .ok (.iinc 2 1, 3) := by decide +kernel
theorem dX4_next_39 : decode cX4_next 39 = .ok (.goto (-20), 3) := by decide +kernel
theorem dX4_next_42 : decode cX4_next 42 = .ok (.bipush (-3), 2) := by decide +kernel
theorem dX4_next_44 : decode cX4_next 44 = .ok (.ireturn, 1) := by decide +kernel
theorem dX4_freeSlot_0 : decode cX4_freeSlot 0 = .ok (.iconst 0, 1) := by decide +kernel
theorem dX4_freeSlot_1 : decode cX4_freeSlot 1 = .ok (.istore_n 1, 1) := by decide +kernel
theorem dX4_freeSlot_2 : decode cX4_freeSlot 2 = .ok (.aload_n 0, 1) := by decide +kernel
theorem dX4_freeSlot_3 : decode cX4_freeSlot 3 = .ok (.getfield 28, 3) := by decide +kernel
theorem dX4_freeSlot_6 : decode cX4_freeSlot 6 = .ok (.iload_n 1, 1) := by decide +kernel
theorem dX4_freeSlot_7 : decode cX4_freeSlot 7 = .ok (.baload, 1) := by decide +kernel
theorem dX4_freeSlot_8 : decode cX4_freeSlot 8 = .ok (.ifCond .eq 9, 3) := by decide +kernel
theorem dX4_freeSlot_11 : decode cX4_freeSlot 11 = .ok (.iinc 1 1, 3) := by decide +kernel
theorem dX4_freeSlot_14 : decode cX4_freeSlot 14 = .ok (.goto (-12), 3) := by decide +kernel
theorem dX4_freeSlot_17 : decode cX4_freeSlot 17 = .ok (.aload_n 0, 1) := by decide +kernel
theorem dX4_freeSlot_18 : decode cX4_freeSlot 18 = .ok (.getfield 28, 3) := by decide +kernel
theorem dX4_freeSlot_21 : decode cX4_freeSlot 21 = .ok (.iload_n 1, 1) := by decide +kernel
theorem dX4_freeSlot_22 : decode cX4_freeSlot 22 = .ok (.iconst 1, 1) := by decide +kernel
theorem dX4_freeSlot_23 : decode cX4_freeSlot 23 = .ok (.bastore, 1) := by decide +kernel
theorem dX4_freeSlot_24 : decode cX4_freeSlot 24 = .ok (.aload_n 0, 1) := by decide +kernel
theorem dX4_freeSlot_25 : decode cX4_freeSlot 25 = .ok (.getfield 38, 3) := by decide +kernel
theorem dX4_freeSlot_28 : decode cX4_freeSlot 28 = .ok (.iload_n 1, 1) := by decide +kernel
theorem dX4_freeSlot_29 : decode cX4_freeSlot 29 = .ok (.iconst 0, 1) := by decide +kernel
theorem dX4_freeSlot_30 : decode cX4_freeSlot 30 = .ok (.iastore, 1) := by decide +kernel
theorem dX4_freeSlot_31 : decode cX4_freeSlot 31 = .ok (.iload_n 1, 1) := by decide +kernel
theorem dX4_freeSlot_32 : decode cX4_freeSlot 32 = .ok (.ireturn, 1) := by decide +kernel
theorem dX4_lay_0 : decode cX4_lay 0 = .ok (.bipush 100, 2) := by decide +kernel
theorem dX4_lay_2 : decode cX4_lay 2 = .ok (.iload_n 1, 1) := by decide +kernel
theorem dX4_lay_3 : decode cX4_lay 3 = .ok (.imul, 1) := by decide +kernel
theorem dX4_lay_4 : decode cX4_lay 4 = .ok (.aload_n 0, 1) := by decide +kernel
theorem dX4_lay_5 : decode cX4_lay 5 = .ok (.getfield 38, 3) := by decide +kernel
theorem dX4_lay_8 : decode cX4_lay 8 = .ok (.iload_n 1, 1) := by decide +kernel
theorem dX4_lay_9 : decode cX4_lay 9 = .ok (.iaload, 1) := by decide +kernel
theorem dX4_lay_10 : decode cX4_lay 10 = .ok (.iadd, 1) := by decide +kernel
theorem dX4_lay_11 : decode cX4_lay 11 = .ok (.istore 5, 2) := by decide +kernel
theorem dX4_lay_13 : decode cX4_lay 13 = .ok (.aload_n 0, 1) := by decide +kernel
theorem dX4_lay_14 : decode cX4_lay 14 = .ok (.getfield 41, 3) := by decide +kernel
theorem dX4_lay_17 : decode cX4_lay 17 = .ok (.iload 5, 2) := by decide +kernel
theorem dX4_lay_19 : decode cX4_lay 19 = .ok (.iload_n 2, 1) := by decide +kernel
theorem dX4_lay_20 : decode cX4_lay 20 = .ok (.iastore, 1) := by decide +kernel
theorem dX4_lay_21 : decode cX4_lay 21 = .ok (.aload_n 0, 1) := by decide +kernel
theorem dX4_lay_22 : decode cX4_lay 22 = .ok (.getfield 44, 3) := by decide +kernel
theorem dX4_lay_25 : decode cX4_lay 25 = .ok (.iload 5, 2) := by decide +kernel
theorem dX4_lay_27 : decode cX4_lay 27 = .ok (.iload_n 3, 1) := by decide +kernel
theorem dX4_lay_28 : decode cX4_lay 28 = .ok (.iastore, 1) := by decide +kernel
theorem dX4_lay_29 : decode cX4_lay 29 = .ok (.aload_n 0, 1) := by decide +kernel
theorem dX4_lay_30 : decode cX4_lay 30 = .ok (.getfield 47, 3) := by decide +kernel
theorem dX4_lay_33 : decode cX4_lay 33 = .ok (.iload 5, 2) := by decide +kernel
theorem dX4_lay_35 : decode cX4_lay 35 = .ok (.iload 4, 2) := by decide +kernel
theorem dX4_lay_37 : decode cX4_lay 37 = .ok (.bastore, 1) := by decide +kernel
theorem dX4_lay_38 : decode cX4_lay 38 = .ok (.iload 4, 2) := by decide +kernel
theorem dX4_lay_40 : decode cX4_lay 40 = .ok (.ifCond .eq 22, 3) := by decide +kernel
theorem dX4_lay_43 : decode cX4_lay 43 = .ok (.aload_n 0, 1) := by decide +kernel
theorem dX4_lay_44 : decode cX4_lay 44 = .ok (.getfield 16, 3) := by decide +kernel
theorem dX4_lay_47 : decode cX4_lay 47 = .ok (.iload_n 2, 1) := by decide +kernel
theorem dX4_lay_48 : decode cX4_lay 48 = .ok (.iload_n 1, 1) := by decide +kernel
theorem dX4_lay_49 : decode cX4_lay 49 = .ok (.iastore, 1) := by decide +kernel
theorem dX4_lay_50 : decode cX4_lay 50 = .ok (.aload_n 0, 1) := by decide +kernel
theorem dX4_lay_51 : decode cX4_lay 51 = .ok (.getfield 19, 3) := by decide +kernel
theorem dX4_lay_54 : decode cX4_lay 54 = .ok (.iload_n 2, 1) := by decide +kernel
theorem dX4_lay_55 : decode cX4_lay 55 = .ok (.aload_n 0, 1) := by decide +kernel
theorem dX4_lay_56 : decode cX4_lay 56 = .ok (.getfield 38, 3) := by decide +kernel
theorem dX4_lay_59 : decode cX4_lay 59 = .ok (.iload_n 1, 1) := by decide +kernel
theorem dX4_lay_60 : decode cX4_lay 60 = .ok (.iaload, 1) := by decide +kernel
theorem dX4_lay_61 : decode cX4_lay 61 = .ok (.iastore, 1) := by decide +kernel
theorem dX4_lay_62 : decode cX4_lay 62 = .ok (.aload_n 0, 1) := by decide +kernel
theorem dX4_lay_63 : decode cX4_lay 63 = .ok (.getfield 38, 3) := by decide +kernel
theorem dX4_lay_66 : decode cX4_lay 66 = .ok (.iload_n 1, 1) := by decide +kernel
theorem dX4_lay_67 : decode cX4_lay 67 = .ok (.dup2, 1) := by decide +kernel
theorem dX4_lay_68 : decode cX4_lay 68 = .ok (.iaload, 1) := by decide +kernel
theorem dX4_lay_69 : decode cX4_lay 69 = .ok (.iconst 1, 1) := by decide +kernel
theorem dX4_lay_70 : decode cX4_lay 70 = .ok (.iadd, 1) := by decide +kernel
theorem dX4_lay_71 : decode cX4_lay 71 = .ok (.iastore, 1) := by decide +kernel
theorem dX4_lay_72 : decode cX4_lay 72 = .ok (.return_, 1) := by decide +kernel
set_option maxRecDepth 20000 in
theorem ggX4_flush_X4_freeSlot : GoodIn wsX4_flush wsX4_freeSlot := goodIn_r _ [14, 15, 16, 31, 32, 33, 34, 35, 36, 37, 38, 39, 40, 41, 42, 43, 44, 45, 46, 47, 48, 49, 50, 51, 52, 53, 54, 55, 56, 57, 58, 59, 60, 61, 62, 63, 64] (by decide +kernel) (by decide +kernel)
set_option maxRecDepth 20000 in
theorem gX4_flush_X4_freeSlot : GoodIn wsX4_flush (wsV RX4 105 RX4 yX4_freeSlot wsX4_freeSlot) := goodIn_app (goodIn_of _ (by decide +kernel)) ggX4_flush_X4_freeSlot
set_option maxRecDepth 20000 in
theorem ggX4_flush_X4_memoryAt : GoodIn wsX4_flush wsX4_memoryAt := goodIn_r _ [20, 2, 21, 31, 32, 33, 34, 35, 36, 37, 38, 39, 40, 41, 42, 43, 44, 45, 46, 47, 48, 49, 50, 51, 52, 53, 54, 55, 56, 57, 58, 59, 60, 61, 62, 63, 64] (by decide +kernel) (by decide +kernel)
set_option maxRecDepth 20000 in
theorem gX4_flush_X4_memoryAt : GoodIn wsX4_flush (wsV RX4 94 RX4 yX4_memoryAt wsX4_memoryAt) := goodIn_app (goodIn_of _ (by decide +kernel)) ggX4_flush_X4_memoryAt
set_option maxRecDepth 20000 in
theorem ggX4_flush_X4_lay : GoodIn wsX4_flush wsX4_lay := goodIn_r _ [25, 16, 26, 27, 28, 29, 30, 31, 32, 33, 34, 35, 36, 37, 38, 39, 40, 41, 42, 43, 44, 45, 46, 47, 48, 49, 50, 51, 52, 53, 54, 55, 56, 57, 58, 59, 60, 61, 62, 63, 64] (by decide +kernel) (by decide +kernel)
set_option maxRecDepth 20000 in
theorem gX4_flush_X4_lay : GoodIn wsX4_flush (wsV RX4 112 RX4 yX4_lay wsX4_lay) := goodIn_app (goodIn_of _ (by decide +kernel)) ggX4_flush_X4_lay
theorem dX4_flush_0 : decode cX4_flush 0 = .ok (.aload_n 0, 1) := by decide +kernel
theorem dX4_flush_1 : decode cX4_flush 1 = .ok (.iconst 0, 1) := by decide +kernel
theorem dX4_flush_2 : decode cX4_flush 2 = .ok (.putfield 84, 3) := by decide +kernel
theorem dX4_flush_5 : decode cX4_flush 5 = .ok (.aload_n 0, 1) := by decide +kernel
theorem dX4_flush_6 : decode cX4_flush 6 = .ok (.getfield 87, 3) := by decide +kernel
theorem dX4_flush_9 : decode cX4_flush 9 = .ok (.ifCond .ne 6, 3) := by decide +kernel
theorem dX4_flush_12 : decode cX4_flush 12 = .ok (.bipush (-3), 2) := by decide +kernel
theorem dX4_flush_14 : decode cX4_flush 14 = .ok (.ireturn, 1) := by decide +kernel
theorem dX4_flush_15 : decode cX4_flush 15 = .ok (.aload_n 0, 1) := by decide +kernel
theorem dX4_flush_16 : decode cX4_flush 16 = .ok (.getfield 102, 3) := by decide +kernel
theorem dX4_flush_19 : decode cX4_flush 19 = .ok (.bipush 20, 2) := by decide +kernel
theorem dX4_flush_21 : decode cX4_flush 21 = .ok (.if_icmp .ne 6, 3) := by decide +kernel
theorem dX4_flush_24 : decode cX4_flush 24 = .ok (.bipush (-4), 2) := by decide +kernel
theorem dX4_flush_26 : decode cX4_flush 26 = .ok (.ireturn, 1) := by decide +kernel
theorem dX4_flush_27 : decode cX4_flush 27 = .ok (.aload_n 0, 1) := by decide +kernel
theorem dX4_flush_28 : decode cX4_flush 28 = .ok (.invokevirtual 105, 3) := by decide +kernel
theorem dX4_flush_31 : decode cX4_flush 31 = .ok (.istore_n 1, 1) := by decide +kernel
theorem dX4_flush_32 : decode cX4_flush 32 = .ok (.aload_n 0, 1) := by decide +kernel
theorem dX4_flush_33 : decode cX4_flush 33 = .ok (.getfield 35, 3) := by decide +kernel
theorem dX4_flush_36 : decode cX4_flush 36 = .ok (.iload_n 1, 1) := by decide +kernel
theorem dX4_flush_37 : decode cX4_flush 37 = .ok (.iconst 0, 1) := by decide +kernel
theorem dX4_flush_38 : decode cX4_flush 38 = .ok (.iastore, 1) := by decide +kernel
theorem dX4_flush_39 : decode cX4_flush 39 = .ok (.aload_n 0, 1) := by decide +kernel
theorem dX4_flush_40 : decode cX4_flush 40 = .ok (.getfield 32, 3) := by decide +kernel
theorem dX4_flush_43 : decode cX4_flush 43 = .ok (.iload_n 1, 1) := by decide +kernel
theorem dX4_flush_44 : decode cX4_flush 44 = .ok (.aload_n 0, 1) := by decide +kernel
theorem dX4_flush_45 : decode cX4_flush 45 = .ok (.getfield 109, 3) := by decide +kernel
theorem dX4_flush_48 : decode cX4_flush 48 = .ok (.iastore, 1) := by decide +kernel
theorem dX4_flush_49 : decode cX4_flush 49 = .ok (.aload_n 0, 1) := by decide +kernel
theorem dX4_flush_50 : decode cX4_flush 50 = .ok (.dup, 1) := by decide +kernel
theorem dX4_flush_51 : decode cX4_flush 51 = .ok (.getfield 109, 3) := by decide +kernel
theorem dX4_flush_54 : decode cX4_flush 54 = .ok (.iconst 1, 1) := by decide +kernel
theorem dX4_flush_55 : decode cX4_flush 55 = .ok (.iadd, 1) := by decide +kernel
theorem dX4_flush_56 : decode cX4_flush 56 = .ok (.putfield 109, 3) := by decide +kernel
theorem dX4_flush_59 : decode cX4_flush 59 = .ok (.iconst 0, 1) := by decide +kernel
theorem dX4_flush_60 : decode cX4_flush 60 = .ok (.istore_n 2, 1) := by decide +kernel
theorem dX4_flush_61 : decode cX4_flush 61 = .ok (.iload_n 2, 1) := by decide +kernel
theorem dX4_flush_62 : decode cX4_flush 62 = .ok (.bipush 100, 2) := by decide +kernel
theorem dX4_flush_64 : decode cX4_flush 64 = .ok (.if_icmp .ge 40, 3) := by decide +kernel
theorem dX4_flush_67 : decode cX4_flush 67 = .ok (.aload_n 0, 1) := by decide +kernel
theorem dX4_flush_68 : decode cX4_flush 68 = .ok (.iload_n 2, 1) := by decide +kernel
theorem dX4_flush_69 : decode cX4_flush 69 = .ok (.invokevirtual 94, 3) := by decide +kernel
theorem dX4_flush_72 : decode cX4_flush 72 = .ok (.ifCond .lt 26, 3) := by decide +kernel
theorem dX4_flush_75 : decode cX4_flush 75 = .ok (.aload_n 0, 1) := by decide +kernel
theorem dX4_flush_76 : decode cX4_flush 76 = .ok (.iload_n 1, 1) := by decide +kernel
theorem dX4_flush_77 : decode cX4_flush 77 = .ok (.iload_n 2, 1) := by decide +kernel
theorem dX4_flush_78 : decode cX4_flush 78 = .ok (.aload_n 0, 1) := by decide +kernel
theorem dX4_flush_79 : decode cX4_flush 79 = .ok (.getfield 7, 3) := by decide +kernel
theorem dX4_flush_82 : decode cX4_flush 82 = .ok (.iload_n 2, 1) := by decide +kernel
theorem dX4_flush_83 : decode cX4_flush 83 = .ok (.iaload, 1) := by decide +kernel
theorem dX4_flush_84 : decode cX4_flush 84 = .ok (.iconst 1, 1) := by decide +kernel
theorem dX4_flush_85 : decode cX4_flush 85 = .ok (.invokevirtual 112, 3) := by decide +kernel
theorem dX4_flush_88 : decode cX4_flush 88 = .ok (.aload_n 0, 1) := by decide +kernel
theorem dX4_flush_89 : decode cX4_flush 89 = .ok (.dup, 1) := by decide +kernel
theorem dX4_flush_90 : decode cX4_flush 90 = .ok (.getfield 116, 3) := by decide +kernel
theorem dX4_flush_93 : decode cX4_flush 93 = .ok (.iconst 1, 1) := by decide +kernel
theorem dX4_flush_94 : decode cX4_flush 94 = .ok (.iadd, 1) := by decide +kernel
theorem dX4_flush_95 : decode cX4_flush 95 = .ok (.putfield 116, 3) := by decide +kernel
theorem dX4_flush_98 : decode cX4_flush 98 = .ok (.iinc 2 1, 3) := by decide +kernel
theorem dX4_flush_101 : decode cX4_flush 101 = .ok (.goto (-40), 3) := by decide +kernel
theorem dX4_flush_104 : decode cX4_flush 104 = .ok (.aload_n 0, 1) := by decide +kernel
theorem dX4_flush_105 : decode cX4_flush 105 = .ok (.iconst 0, 1) := by decide +kernel
theorem dX4_flush_106 : decode cX4_flush 106 = .ok (.putfield 87, 3) := by decide +kernel
theorem dX4_flush_109 : decode cX4_flush 109 = .ok (.aload_n 0, 1) := by decide +kernel
theorem dX4_flush_110 : decode cX4_flush 110 = .ok (.getfield 25, 3) := by decide +kernel
theorem dX4_flush_113 : decode cX4_flush 113 = .ok (.aload_n 0, 1) := by decide +kernel
theorem dX4_flush_114 : decode cX4_flush 114 = .ok (.getfield 102, 3) := by decide +kernel
theorem dX4_flush_117 : decode cX4_flush 117 = .ok (.iload_n 1, 1) := by decide +kernel
theorem dX4_flush_118 : decode cX4_flush 118 = .ok (.iastore, 1) := by decide +kernel
theorem dX4_flush_119 : decode cX4_flush 119 = .ok (.aload_n 0, 1) := by decide +kernel
theorem dX4_flush_120 : decode cX4_flush 120 = .ok (.dup, 1) := by decide +kernel
theorem dX4_flush_121 : decode cX4_flush 121 = .ok (.getfield 102, 3) := by decide +kernel
theorem dX4_flush_124 : decode cX4_flush 124 = .ok (.iconst 1, 1) := by decide +kernel
theorem dX4_flush_125 : decode cX4_flush 125 = .ok (.iadd, 1) := by decide +kernel
theorem dX4_flush_126 : decode cX4_flush 126 = .ok (.putfield 102, 3) := by decide +kernel
theorem dX4_flush_129 : decode cX4_flush 129 = .ok (.aload_n 0, 1) := by decide +kernel
theorem dX4_flush_130 : decode cX4_flush 130 = .ok (.getfield 32, 3) := by decide +kernel
theorem dX4_flush_133 : decode cX4_flush 133 = .ok (.iload_n 1, 1) := by decide +kernel
theorem dX4_flush_134 : decode cX4_flush 134 = .ok (.iaload, 1) := by decide +kernel
theorem dX4_flush_135 : decode cX4_flush 135 = .ok (.ireturn, 1) := by decide +kernel
theorem dX4_livingOf_0 : decode cX4_livingOf 0 = .ok (.iconst 0, 1) := by decide +kernel
theorem dX4_livingOf_1 : decode cX4_livingOf 1 = .ok (.istore_n 2, 1) := by decide +kernel
theorem dX4_livingOf_2 : decode cX4_livingOf 2 = .ok (.iconst 0, 1) := by decide +kernel
theorem dX4_livingOf_3 : decode cX4_livingOf 3 = .ok (.istore_n 3, 1) := by decide +kernel
theorem dX4_livingOf_4 : decode cX4_livingOf 4 = .ok (.iload_n 3, 1) := by decide +kernel
theorem dX4_livingOf_5 : decode cX4_livingOf 5 = .ok (.aload_n 0, 1) := by decide +kernel
theorem dX4_livingOf_6 : decode cX4_livingOf 6 = .ok (.getfield 38, 3) := by decide +kernel
theorem dX4_livingOf_9 : decode cX4_livingOf 9 = .ok (.iload_n 1, 1) := by decide +kernel
theorem dX4_livingOf_10 : decode cX4_livingOf 10 = .ok (.iaload, 1) := by decide +kernel
theorem dX4_livingOf_11 : decode cX4_livingOf 11 = .ok (.if_icmp .ge 31, 3) := by decide +kernel
theorem dX4_livingOf_14 : decode cX4_livingOf 14 = .ok (.iload_n 2, 1) := by decide +kernel
theorem dX4_livingOf_15 : decode cX4_livingOf 15 = .ok (.aload_n 0, 1) := by decide +kernel
theorem dX4_livingOf_16 : decode cX4_livingOf 16 = .ok (.getfield 47, 3) := by decide +kernel
theorem dX4_livingOf_19 : decode cX4_livingOf 19 = .ok (.bipush 100, 2) := by decide +kernel
end
section
theorem dX4_livingOf_21 : decode cX4_livingOf 21 = .ok (.iload_n 1, 1) := by decide +kernel
theorem dX4_livingOf_22 : decode cX4_livingOf 22 = .ok (.imul, 1) := by decide +kernel
theorem dX4_livingOf_23 : decode cX4_livingOf 23 = .ok (.iload_n 3, 1) := by decide +kernel
theorem dX4_livingOf_24 : decode cX4_livingOf 24 = .ok (.iadd, 1) := by decide +kernel
theorem dX4_livingOf_25 : decode cX4_livingOf 25 = .ok (.baload, 1) := by decide +kernel
theorem dX4_livingOf_26 : decode cX4_livingOf 26 = .ok (.ifCond .eq 7, 3) := by decide +kernel
theorem dX4_livingOf_29 : decode cX4_livingOf 29 = .ok (.iconst 1, 1) := by decide +kernel
theorem dX4_livingOf_30 : decode cX4_livingOf 30 = .ok (.goto 4, 3) := by decide +kernel
theorem dX4_livingOf_33 : decode cX4_livingOf 33 = .ok (.iconst 0, 1) := by decide +kernel
theorem dX4_livingOf_34 : decode cX4_livingOf 34 = .ok (.iadd, 1) := by decide +kernel
theorem dX4_livingOf_35 : decode cX4_livingOf 35 = .ok (.istore_n 2, 1) := by decide +kernel
theorem dX4_livingOf_36 : decode cX4_livingOf 36 = .ok (.iinc 3 1, 3) := by decide +kernel
theorem dX4_livingOf_39 : decode cX4_livingOf 39 = .ok (.goto (-35), 3) := by decide +kernel
theorem dX4_livingOf_42 : decode cX4_livingOf 42 = .ok (.iload_n 2, 1) := by decide +kernel
theorem dX4_livingOf_43 : decode cX4_livingOf 43 = .ok (.ireturn, 1) := by decide +kernel
set_option maxRecDepth 20000 in
theorem ggX4_all_X4_livingOf : GoodIn wsX4_all wsX4_livingOf := goodIn_r _ [8, 3, 9, 10, 11, 12, 13, 14, 15, 16, 17, 18, 19, 20, 21, 22, 23, 24, 25, 26, 27, 28, 29, 30, 31, 32, 33, 34, 35, 36, 37, 38, 39, 40, 41, 42, 43] (by decide +kernel) (by decide +kernel)
set_option maxRecDepth 20000 in
theorem gX4_all_X4_livingOf : GoodIn wsX4_all (wsV RX4 119 RX4 yX4_livingOf wsX4_livingOf) := goodIn_app (goodIn_of _ (by decide +kernel)) ggX4_all_X4_livingOf
theorem dX4_all_0 : decode cX4_all 0 = .ok (.iconst 0, 1) := by decide +kernel
theorem dX4_all_1 : decode cX4_all 1 = .ok (.istore_n 2, 1) := by decide +kernel
theorem dX4_all_2 : decode cX4_all 2 = .ok (.iconst 0, 1) := by decide +kernel
theorem dX4_all_3 : decode cX4_all 3 = .ok (.istore_n 3, 1) := by decide +kernel
theorem dX4_all_4 : decode cX4_all 4 = .ok (.iload_n 3, 1) := by decide +kernel
theorem dX4_all_5 : decode cX4_all 5 = .ok (.aload_n 0, 1) := by decide +kernel
theorem dX4_all_6 : decode cX4_all 6 = .ok (.getfield 102, 3) := by decide +kernel
theorem dX4_all_9 : decode cX4_all 9 = .ok (.if_icmp .ge 40, 3) := by decide +kernel
theorem dX4_all_12 : decode cX4_all 12 = .ok (.iload_n 2, 1) := by decide +kernel
theorem dX4_all_13 : decode cX4_all 13 = .ok (.iload_n 1, 1) := by decide +kernel
theorem dX4_all_14 : decode cX4_all 14 = .ok (.ifCond .eq 16, 3) := by decide +kernel
theorem dX4_all_17 : decode cX4_all 17 = .ok (.aload_n 0, 1) := by decide +kernel
theorem dX4_all_18 : decode cX4_all 18 = .ok (.aload_n 0, 1) := by decide +kernel
theorem dX4_all_19 : decode cX4_all 19 = .ok (.getfield 25, 3) := by decide +kernel
theorem dX4_all_22 : decode cX4_all 22 = .ok (.iload_n 3, 1) := by decide +kernel
theorem dX4_all_23 : decode cX4_all 23 = .ok (.iaload, 1) := by decide +kernel
theorem dX4_all_24 : decode cX4_all 24 = .ok (.invokevirtual 119, 3) := by decide +kernel
theorem dX4_all_27 : decode cX4_all 27 = .ok (.goto 14, 3) := by decide +kernel
theorem dX4_all_30 : decode cX4_all 30 = .ok (.aload_n 0, 1) := by decide +kernel
theorem dX4_all_31 : decode cX4_all 31 = .ok (.getfield 38, 3) := by decide +kernel
theorem dX4_all_34 : decode cX4_all 34 = .ok (.aload_n 0, 1) := by decide +kernel
theorem dX4_all_35 : decode cX4_all 35 = .ok (.getfield 25, 3) := by decide +kernel
theorem dX4_all_38 : decode cX4_all 38 = .ok (.iload_n 3, 1) := by decide +kernel
theorem dX4_all_39 : decode cX4_all 39 = .ok (.iaload, 1) := by decide +kernel
theorem dX4_all_40 : decode cX4_all 40 = .ok (.iaload, 1) := by decide +kernel
theorem dX4_all_41 : decode cX4_all 41 = .ok (.iadd, 1) := by decide +kernel
theorem dX4_all_42 : decode cX4_all 42 = .ok (.istore_n 2, 1) := by decide +kernel
theorem dX4_all_43 : decode cX4_all 43 = .ok (.iinc 3 1, 3) := by decide +kernel
theorem dX4_all_46 : decode cX4_all 46 = .ok (.goto (-42), 3) := by decide +kernel
theorem dX4_all_49 : decode cX4_all 49 = .ok (.iload_n 2, 1) := by decide +kernel
theorem dX4_all_50 : decode cX4_all 50 = .ok (.ireturn, 1) := by decide +kernel
set_option maxRecDepth 20000 in
theorem ggX4_count_X4_all : GoodIn wsX4_count wsX4_all := goodIn_r _ [10, 4, 11, 12, 13, 14, 15, 9, 16, 17, 18, 19, 20, 21, 22, 23, 24, 25, 26, 27, 28, 29, 30, 31, 32, 33, 34, 35, 36, 37, 38, 39, 40, 41, 42, 43, 44, 45, 46, 47, 48, 49, 50, 51] (by decide +kernel) (by decide +kernel)
set_option maxRecDepth 20000 in
theorem gX4_count_X4_all : GoodIn wsX4_count (wsV RX4 122 RX4 yX4_all wsX4_all) := goodIn_app (goodIn_of _ (by decide +kernel)) ggX4_count_X4_all
theorem dX4_count_0 : decode cX4_count 0 = .ok (.aload_n 0, 1) := by decide +kernel
theorem dX4_count_1 : decode cX4_count 1 = .ok (.iconst 0, 1) := by decide +kernel
theorem dX4_count_2 : decode cX4_count 2 = .ok (.putfield 84, 3) := by decide +kernel
theorem dX4_count_5 : decode cX4_count 5 = .ok (.iconst 0, 1) := by decide +kernel
theorem dX4_count_6 : decode cX4_count 6 = .ok (.istore_n 2, 1) := by decide +kernel
theorem dX4_count_7 : decode cX4_count 7 = .ok (.iconst 0, 1) := by decide +kernel
theorem dX4_count_8 : decode cX4_count 8 = .ok (.istore_n 3, 1) := by decide +kernel
theorem dX4_count_9 : decode cX4_count 9 = .ok (.iload_n 3, 1) := by decide +kernel
theorem dX4_count_10 : decode cX4_count 10 = .ok (.bipush 100, 2) := by decide +kernel
theorem dX4_count_12 : decode cX4_count 12 = .ok (.if_icmp .ge 26, 3) := by decide +kernel
theorem dX4_count_15 : decode cX4_count 15 = .ok (.iload_n 2, 1) := by decide +kernel
theorem dX4_count_16 : decode cX4_count 16 = .ok (.aload_n 0, 1) := by decide +kernel
theorem dX4_count_17 : decode cX4_count 17 = .ok (.getfield 7, 3) := by decide +kernel
theorem dX4_count_20 : decode cX4_count 20 = .ok (.iload_n 3, 1) := by decide +kernel
theorem dX4_count_21 : decode cX4_count 21 = .ok (.iaload, 1) := by decide +kernel
theorem dX4_count_22 : decode cX4_count 22 = .ok (.ifCond .lt 7, 3) := by decide +kernel
theorem dX4_count_25 : decode cX4_count 25 = .ok (.iconst 1, 1) := by decide +kernel
theorem dX4_count_26 : decode cX4_count 26 = .ok (.goto 4, 3) := by decide +kernel
theorem dX4_count_29 : decode cX4_count 29 = .ok (.iconst 0, 1) := by decide +kernel
theorem dX4_count_30 : decode cX4_count 30 = .ok (.iadd, 1) := by decide +kernel
theorem dX4_count_31 : decode cX4_count 31 = .ok (.istore_n 2, 1) := by decide +kernel
theorem dX4_count_32 : decode cX4_count 32 = .ok (.iinc 3 1, 3) := by decide +kernel
theorem dX4_count_35 : decode cX4_count 35 = .ok (.goto (-26), 3) := by decide +kernel
theorem dX4_count_38 : decode cX4_count 38 = .ok (.iload_n 1, 1) := by decide +kernel
theorem dX4_count_39 : decode cX4_count 39 = .ok (.ifCond .ne 10, 3) := by decide +kernel
theorem dX4_count_42 : decode cX4_count 42 = .ok (.aload_n 0, 1) := by decide +kernel
theorem dX4_count_43 : decode cX4_count 43 = .ok (.getfield 87, 3) := by decide +kernel
theorem dX4_count_46 : decode cX4_count 46 = .ok (.goto 64, 3) := by decide +kernel
theorem dX4_count_49 : decode cX4_count 49 = .ok (.iload_n 1, 1) := by decide +kernel
theorem dX4_count_50 : decode cX4_count 50 = .ok (.iconst 1, 1) := by decide +kernel
theorem dX4_count_51 : decode cX4_count 51 = .ok (.if_icmp .ne 10, 3) := by decide +kernel
theorem dX4_count_54 : decode cX4_count 54 = .ok (.aload_n 0, 1) := by decide +kernel
theorem dX4_count_55 : decode cX4_count 55 = .ok (.getfield 102, 3) := by decide +kernel
theorem dX4_count_58 : decode cX4_count 58 = .ok (.goto 52, 3) := by decide +kernel
theorem dX4_count_61 : decode cX4_count 61 = .ok (.iload_n 1, 1) := by decide +kernel
theorem dX4_count_62 : decode cX4_count 62 = .ok (.iconst 2, 1) := by decide +kernel
theorem dX4_count_63 : decode cX4_count 63 = .ok (.if_icmp .ne 11, 3) := by decide +kernel
theorem dX4_count_66 : decode cX4_count 66 = .ok (.aload_n 0, 1) := by decide +kernel
theorem dX4_count_67 : decode cX4_count 67 = .ok (.iconst 0, 1) := by decide +kernel
theorem dX4_count_68 : decode cX4_count 68 = .ok (.invokevirtual 122, 3) := by decide +kernel
theorem dX4_count_71 : decode cX4_count 71 = .ok (.goto 39, 3) := by decide +kernel
theorem dX4_count_74 : decode cX4_count 74 = .ok (.iload_n 1, 1) := by decide +kernel
theorem dX4_count_75 : decode cX4_count 75 = .ok (.iconst 3, 1) := by decide +kernel
theorem dX4_count_76 : decode cX4_count 76 = .ok (.if_icmp .ne 11, 3) := by decide +kernel
theorem dX4_count_79 : decode cX4_count 79 = .ok (.aload_n 0, 1) := by decide +kernel
theorem dX4_count_80 : decode cX4_count 80 = .ok (.iconst 1, 1) := by decide +kernel
theorem dX4_count_81 : decode cX4_count 81 = .ok (.invokevirtual 122, 3) := by decide +kernel
theorem dX4_count_84 : decode cX4_count 84 = .ok (.goto 26, 3) := by decide +kernel
theorem dX4_count_87 : decode cX4_count 87 = .ok (.iload_n 1, 1) := by decide +kernel
theorem dX4_count_88 : decode cX4_count 88 = .ok (.iconst 4, 1) := by decide +kernel
theorem dX4_count_89 : decode cX4_count 89 = .ok (.if_icmp .ne 10, 3) := by decide +kernel
theorem dX4_count_92 : decode cX4_count 92 = .ok (.aload_n 0, 1) := by decide +kernel
theorem dX4_count_93 : decode cX4_count 93 = .ok (.getfield 116, 3) := by decide +kernel
theorem dX4_count_96 : decode cX4_count 96 = .ok (.goto 14, 3) := by decide +kernel
theorem dX4_count_99 : decode cX4_count 99 = .ok (.iload_n 1, 1) := by decide +kernel
theorem dX4_count_100 : decode cX4_count 100 = .ok (.iconst 5, 1) := by decide +kernel
theorem dX4_count_101 : decode cX4_count 101 = .ok (.if_icmp .ne 7, 3) := by decide +kernel
theorem dX4_count_104 : decode cX4_count 104 = .ok (.iload_n 2, 1) := by decide +kernel
theorem dX4_count_105 : decode cX4_count 105 = .ok (.goto 5, 3) := by decide +kernel
theorem dX4_count_108 : decode cX4_count 108 = .ok (.bipush (-2), 2) := by decide +kernel
theorem dX4_count_110 : decode cX4_count 110 = .ok (.ireturn, 1) := by decide +kernel
set_option maxRecDepth 20000 in
theorem ggX4_isPlace_X4_in : GoodIn wsX4_isPlace wsX4_in := goodIn_r _ [5] (by decide +kernel) (by decide +kernel)
set_option maxRecDepth 20000 in
theorem gX4_isPlace_X4_in : GoodIn wsX4_isPlace (va_wsS RX4 90 yX4_in wsX4_in) := goodIn_app (goodIn_of _ (by decide +kernel)) ggX4_isPlace_X4_in
theorem dX4_isPlace_0 : decode cX4_isPlace 0 = .ok (.iload_n 1, 1) := by decide +kernel
theorem dX4_isPlace_1 : decode cX4_isPlace 1 = .ok (.iconst 0, 1) := by decide +kernel
theorem dX4_isPlace_2 : decode cX4_isPlace 2 = .ok (.aload_n 0, 1) := by decide +kernel
theorem dX4_isPlace_3 : decode cX4_isPlace 3 = .ok (.getfield 102, 3) := by decide +kernel
theorem dX4_isPlace_6 : decode cX4_isPlace 6 = .ok (.iconst 1, 1) := by decide +kernel
theorem dX4_isPlace_7 : decode cX4_isPlace 7 = .ok (.isub, 1) := by decide +kernel
theorem dX4_isPlace_8 : decode cX4_isPlace 8 = .ok (.invokestatic 90, 3) := by decide +kernel
theorem dX4_isPlace_11 : decode cX4_isPlace 11 = .ok (.ireturn, 1) := by decide +kernel
set_option maxRecDepth 20000 in
theorem ggX4_segment_X4_isPlace : GoodIn wsX4_segment wsX4_isPlace := goodIn_r _ [12, 13, 14, 15, 11, 16, 22, 23, 24, 25, 26, 27, 28, 29, 30, 31, 32, 33, 34, 35, 36, 37, 38, 39, 40, 41, 42, 43, 44, 45, 46, 47, 48, 49, 50, 51, 52, 53, 54, 55] (by decide +kernel) (by decide +kernel)
set_option maxRecDepth 20000 in
theorem gX4_segment_X4_isPlace : GoodIn wsX4_segment (wsV RX4 126 RX4 yX4_isPlace wsX4_isPlace) := goodIn_app (goodIn_of _ (by decide +kernel)) ggX4_segment_X4_isPlace
set_option maxRecDepth 20000 in
theorem ggX4_segment_X4_livingOf : GoodIn wsX4_segment wsX4_livingOf := goodIn_r _ [20, 5, 21, 22, 23, 24, 25, 26, 27, 28, 29, 30, 31, 32, 33, 34, 35, 36, 37, 38, 39, 40, 41, 42, 43, 44, 45, 46, 47, 48, 49, 50, 51, 52, 53, 54, 55] (by decide +kernel) (by decide +kernel)
set_option maxRecDepth 20000 in
theorem gX4_segment_X4_livingOf : GoodIn wsX4_segment (wsV RX4 119 RX4 yX4_livingOf wsX4_livingOf) := goodIn_app (goodIn_of _ (by decide +kernel)) ggX4_segment_X4_livingOf
set_option maxRecDepth 20000 in
theorem ggX4_segment_X4_in : GoodIn wsX4_segment wsX4_in := goodIn_r _ [16] (by decide +kernel) (by decide +kernel)
set_option maxRecDepth 20000 in
theorem gX4_segment_X4_in : GoodIn wsX4_segment (va_wsS RX4 90 yX4_in wsX4_in) := goodIn_app (goodIn_of _ (by decide +kernel)) ggX4_segment_X4_in
theorem dX4_segment_0 : decode cX4_segment 0 = .ok (.aload_n 0, 1) := by decide +kernel
theorem dX4_segment_1 : decode cX4_segment 1 = .ok (.iconst 0, 1) := by decide +kernel
theorem dX4_segment_2 : decode cX4_segment 2 = .ok (.putfield 84, 3) := by decide +kernel
theorem dX4_segment_5 : decode cX4_segment 5 = .ok (.aload_n 0, 1) := by decide +kernel
theorem dX4_segment_6 : decode cX4_segment 6 = .ok (.iload_n 1, 1) := by decide +kernel
theorem dX4_segment_7 : decode cX4_segment 7 = .ok (.invokevirtual 126, 3) := by decide +kernel
theorem dX4_segment_10 : decode cX4_segment 10 = .ok (.ifCond .ne 5, 3) := by decide +kernel
theorem dX4_segment_13 : decode cX4_segment 13 = .ok (.iconst (-1), 1) := by decide +kernel
theorem dX4_segment_14 : decode cX4_segment 14 = .ok (.ireturn, 1) := by decide +kernel
theorem dX4_segment_15 : decode cX4_segment 15 = .ok (.aload_n 0, 1) := by decide +kernel
theorem dX4_segment_16 : decode cX4_segment 16 = .ok (.getfield 25, 3) := by decide +kernel
theorem dX4_segment_19 : decode cX4_segment 19 = .ok (.iload_n 1, 1) := by decide +kernel
theorem dX4_segment_20 : decode cX4_segment 20 = .ok (.iaload, 1) := by decide +kernel
theorem dX4_segment_21 : decode cX4_segment 21 = .ok (.istore_n 3, 1) := by decide +kernel
theorem dX4_segment_22 : decode cX4_segment 22 = .ok (.iload_n 2, 1) := by decide +kernel
theorem dX4_segment_23 : decode cX4_segment 23 = .ok (.tableswitch 95 0 4 #[33, 40, 47, 54, 60], 33) := by decide +kernel
theorem dX4_segment_56 : decode cX4_segment 56 = .ok (.aload_n 0, 1) := by decide +kernel
theorem dX4_segment_57 : decode cX4_segment 57 = .ok (.getfield 32, 3) := by decide +kernel
theorem dX4_segment_60 : decode cX4_segment 60 = .ok (.iload_n 3, 1) := by decide +kernel
theorem dX4_segment_61 : decode cX4_segment 61 = .ok (.iaload, 1) := by decide +kernel
theorem dX4_segment_62 : decode cX4_segment 62 = .ok (.ireturn, 1) := by decide +kernel
theorem dX4_segment_63 : decode cX4_segment 63 = .ok (.aload_n 0, 1) := by decide +kernel
theorem dX4_segment_64 : decode cX4_segment 64 = .ok (.getfield 35, 3) := by decide +kernel
theorem dX4_segment_67 : decode cX4_segment 67 = .ok (.iload_n 3, 1) := by decide +kernel
theorem dX4_segment_68 : decode cX4_segment 68 = .ok (.iaload, 1) := by decide +kernel
theorem dX4_segment_69 : decode cX4_segment 69 = .ok (.ireturn, 1) := by decide +kernel
theorem dX4_segment_70 : decode cX4_segment 70 = .ok (.aload_n 0, 1) := by decide +kernel
theorem dX4_segment_71 : decode cX4_segment 71 = .ok (.getfield 38, 3) := by decide +kernel
theorem dX4_segment_74 : decode cX4_segment 74 = .ok (.iload_n 3, 1) := by decide +kernel
theorem dX4_segment_75 : decode cX4_segment 75 = .ok (.iaload, 1) := by decide +kernel
theorem dX4_segment_76 : decode cX4_segment 76 = .ok (.ireturn, 1) := by decide +kernel
theorem dX4_segment_77 : decode cX4_segment 77 = .ok (.aload_n 0, 1) := by decide +kernel
theorem dX4_segment_78 : decode cX4_segment 78 = .ok (.iload_n 3, 1) := by decide +kernel
theorem dX4_segment_79 : decode cX4_segment 79 = .ok (.invokevirtual 119, 3) := by decide +kernel
theorem dX4_segment_82 : decode cX4_segment 82 = .ok (.ireturn, 1) := by decide +kernel
theorem dX4_segment_83 : decode cX4_segment 83 = .ok (.aload_n 0, 1) := by decide +kernel
theorem dX4_segment_84 : decode cX4_segment 84 = .ok (.getfield 130, 3) := by decide +kernel
theorem dX4_segment_87 : decode cX4_segment 87 = .ok (.ifCond .le 29, 3) := by decide +kernel
theorem dX4_segment_90 : decode cX4_segment 90 = .ok (.iload_n 1, 1) := by decide +kernel
theorem dX4_segment_91 : decode cX4_segment 91 = .ok (.aload_n 0, 1) := by decide +kernel
theorem dX4_segment_92 : decode cX4_segment 92 = .ok (.getfield 133, 3) := by decide +kernel
theorem dX4_segment_95 : decode cX4_segment 95 = .ok (.aload_n 0, 1) := by decide +kernel
theorem dX4_segment_96 : decode cX4_segment 96 = .ok (.getfield 133, 3) := by decide +kernel
theorem dX4_segment_99 : decode cX4_segment 99 = .ok (.aload_n 0, 1) := by decide +kernel
theorem dX4_segment_100 : decode cX4_segment 100 = .ok (.getfield 130, 3) := by decide +kernel
theorem dX4_segment_103 : decode cX4_segment 103 = .ok (.iadd, 1) := by decide +kernel
theorem dX4_segment_104 : decode cX4_segment 104 = .ok (.iconst 1, 1) := by decide +kernel
theorem dX4_segment_105 : decode cX4_segment 105 = .ok (.isub, 1) := by decide +kernel
theorem dX4_segment_106 : decode cX4_segment 106 = .ok (.invokestatic 90, 3) := by decide +kernel
theorem dX4_segment_109 : decode cX4_segment 109 = .ok (.ifCond .eq 7, 3) := by decide +kernel
theorem dX4_segment_112 : decode cX4_segment 112 = .ok (.iconst 1, 1) := by decide +kernel
theorem dX4_segment_113 : decode cX4_segment 113 = .ok (.goto 4, 3) := by decide +kernel
theorem dX4_segment_116 : decode cX4_segment 116 = .ok (.iconst 0, 1) := by decide +kernel
theorem dX4_segment_117 : decode cX4_segment 117 = .ok (.ireturn, 1) := by decide +kernel
theorem dX4_segment_118 : decode cX4_segment 118 = .ok (.bipush (-2), 2) := by decide +kernel
theorem dX4_segment_120 : decode cX4_segment 120 = .ok (.ireturn, 1) := by decide +kernel
set_option maxRecDepth 20000 in
theorem ggX4_row_X4_isPlace : GoodIn wsX4_row wsX4_isPlace := goodIn_r _ [11, 12, 13, 14, 10, 15, 16, 17, 18, 19, 20, 21, 22, 23, 24, 25, 26, 27, 28, 29, 30, 31, 32, 33, 34, 35, 36, 37, 38, 39, 40, 41, 42, 43, 44, 45, 46, 47, 48, 49] (by decide +kernel) (by decide +kernel)
set_option maxRecDepth 20000 in
theorem gX4_row_X4_isPlace : GoodIn wsX4_row (wsV RX4 126 RX4 yX4_isPlace wsX4_isPlace) := goodIn_app (goodIn_of _ (by decide +kernel)) ggX4_row_X4_isPlace
set_option maxRecDepth 20000 in
theorem ggX4_row_X4_in : GoodIn wsX4_row wsX4_in := goodIn_r _ [15] (by decide +kernel) (by decide +kernel)
set_option maxRecDepth 20000 in
theorem gX4_row_X4_in : GoodIn wsX4_row (va_wsS RX4 90 yX4_in wsX4_in) := goodIn_app (goodIn_of _ (by decide +kernel)) ggX4_row_X4_in
theorem dX4_row_0 : decode cX4_row 0 = .ok (.aload_n 0, 1) := by decide +kernel
theorem dX4_row_1 : decode cX4_row 1 = .ok (.iconst 0, 1) := by decide +kernel
theorem dX4_row_2 : decode cX4_row 2 = .ok (.putfield 84, 3) := by decide +kernel
theorem dX4_row_5 : decode cX4_row 5 = .ok (.aload_n 0, 1) := by decide +kernel
theorem dX4_row_6 : decode cX4_row 6 = .ok (.iload_n 1, 1) := by decide +kernel
theorem dX4_row_7 : decode cX4_row 7 = .ok (.invokevirtual 126, 3) := by decide +kernel
theorem dX4_row_10 : decode cX4_row 10 = .ok (.ifCond .eq 24, 3) := by decide +kernel
theorem dX4_row_13 : decode cX4_row 13 = .ok (.iload_n 2, 1) := by decide +kernel
theorem dX4_row_14 : decode cX4_row 14 = .ok (.iconst 0, 1) := by decide +kernel
theorem dX4_row_15 : decode cX4_row 15 = .ok (.aload_n 0, 1) := by decide +kernel
theorem dX4_row_16 : decode cX4_row 16 = .ok (.getfield 38, 3) := by decide +kernel
theorem dX4_row_19 : decode cX4_row 19 = .ok (.aload_n 0, 1) := by decide +kernel
theorem dX4_row_20 : decode cX4_row 20 = .ok (.getfield 25, 3) := by decide +kernel
theorem dX4_row_23 : decode cX4_row 23 = .ok (.iload_n 1, 1) := by decide +kernel
theorem dX4_row_24 : decode cX4_row 24 = .ok (.iaload, 1) := by decide +kernel
theorem dX4_row_25 : decode cX4_row 25 = .ok (.iaload, 1) := by decide +kernel
theorem dX4_row_26 : decode cX4_row 26 = .ok (.iconst 1, 1) := by decide +kernel
theorem dX4_row_27 : decode cX4_row 27 = .ok (.isub, 1) := by decide +kernel
theorem dX4_row_28 : decode cX4_row 28 = .ok (.invokestatic 90, 3) := by decide +kernel
theorem dX4_row_31 : decode cX4_row 31 = .ok (.ifCond .ne 5, 3) := by decide +kernel
theorem dX4_row_34 : decode cX4_row 34 = .ok (.iconst (-1), 1) := by decide +kernel
theorem dX4_row_35 : decode cX4_row 35 = .ok (.ireturn, 1) := by decide +kernel
theorem dX4_row_36 : decode cX4_row 36 = .ok (.bipush 100, 2) := by decide +kernel
theorem dX4_row_38 : decode cX4_row 38 = .ok (.aload_n 0, 1) := by decide +kernel
theorem dX4_row_39 : decode cX4_row 39 = .ok (.getfield 25, 3) := by decide +kernel
theorem dX4_row_42 : decode cX4_row 42 = .ok (.iload_n 1, 1) := by decide +kernel
theorem dX4_row_43 : decode cX4_row 43 = .ok (.iaload, 1) := by decide +kernel
theorem dX4_row_44 : decode cX4_row 44 = .ok (.imul, 1) := by decide +kernel
theorem dX4_row_45 : decode cX4_row 45 = .ok (.iload_n 2, 1) := by decide +kernel
theorem dX4_row_46 : decode cX4_row 46 = .ok (.iadd, 1) := by decide +kernel
theorem dX4_row_47 : decode cX4_row 47 = .ok (.istore 4, 2) := by decide +kernel
theorem dX4_row_49 : decode cX4_row 49 = .ok (.iload_n 3, 1) := by decide +kernel
theorem dX4_row_50 : decode cX4_row 50 = .ok (.ifCond .ne 13, 3) := by decide +kernel
theorem dX4_row_53 : decode cX4_row 53 = .ok (.aload_n 0, 1) := by decide +kernel
theorem dX4_row_54 : decode cX4_row 54 = .ok (.getfield 41, 3) := by decide +kernel
theorem dX4_row_57 : decode cX4_row 57 = .ok (.iload 4, 2) := by decide +kernel
theorem dX4_row_59 : decode cX4_row 59 = .ok (.iaload, 1) := by decide +kernel
theorem dX4_row_60 : decode cX4_row 60 = .ok (.goto 43, 3) := by decide +kernel
theorem dX4_row_63 : decode cX4_row 63 = .ok (.iload_n 3, 1) := by decide +kernel
theorem dX4_row_64 : decode cX4_row 64 = .ok (.iconst 1, 1) := by decide +kernel
theorem dX4_row_65 : decode cX4_row 65 = .ok (.if_icmp .ne 13, 3) := by decide +kernel
theorem dX4_row_68 : decode cX4_row 68 = .ok (.aload_n 0, 1) := by decide +kernel
theorem dX4_row_69 : decode cX4_row 69 = .ok (.getfield 44, 3) := by decide +kernel
theorem dX4_row_72 : decode cX4_row 72 = .ok (.iload 4, 2) := by decide +kernel
theorem dX4_row_74 : decode cX4_row 74 = .ok (.iaload, 1) := by decide +kernel
theorem dX4_row_75 : decode cX4_row 75 = .ok (.goto 28, 3) := by decide +kernel
theorem dX4_row_78 : decode cX4_row 78 = .ok (.iload_n 3, 1) := by decide +kernel
theorem dX4_row_79 : decode cX4_row 79 = .ok (.iconst 2, 1) := by decide +kernel
theorem dX4_row_80 : decode cX4_row 80 = .ok (.if_icmp .ne 21, 3) := by decide +kernel
theorem dX4_row_83 : decode cX4_row 83 = .ok (.aload_n 0, 1) := by decide +kernel
theorem dX4_row_84 : decode cX4_row 84 = .ok (.getfield 47, 3) := by decide +kernel
theorem dX4_row_87 : decode cX4_row 87 = .ok (.iload 4, 2) := by decide +kernel
theorem dX4_row_89 : decode cX4_row 89 = .ok (.baload, 1) := by decide +kernel
theorem dX4_row_90 : decode cX4_row 90 = .ok (.ifCond .eq 7, 3) := by decide +kernel
theorem dX4_row_93 : decode cX4_row 93 = .ok (.iconst 1, 1) := by decide +kernel
theorem dX4_row_94 : decode cX4_row 94 = .ok (.goto 9, 3) := by decide +kernel
theorem dX4_row_97 : decode cX4_row 97 = .ok (.iconst 0, 1) := by decide +kernel
theorem dX4_row_98 : decode cX4_row 98 = .ok (.goto 5, 3) := by decide +kernel
theorem dX4_row_101 : decode cX4_row 101 = .ok (.bipush (-2), 2) := by decide +kernel
theorem dX4_row_103 : decode cX4_row 103 = .ok (.ireturn, 1) := by decide +kernel
set_option maxRecDepth 20000 in
theorem ggX4_full_X4_in : GoodIn wsX4_full wsX4_in := goodIn_r _ [6] (by decide +kernel) (by decide +kernel)
set_option maxRecDepth 20000 in
theorem gX4_full_X4_in : GoodIn wsX4_full (va_wsS RX4 90 yX4_in wsX4_in) := goodIn_app (goodIn_of _ (by decide +kernel)) ggX4_full_X4_in
theorem dX4_full_0 : decode cX4_full 0 = .ok (.aload_n 0, 1) := by decide +kernel
theorem dX4_full_1 : decode cX4_full 1 = .ok (.iconst 0, 1) := by decide +kernel
theorem dX4_full_2 : decode cX4_full 2 = .ok (.putfield 84, 3) := by decide +kernel
theorem dX4_full_5 : decode cX4_full 5 = .ok (.iload_n 1, 1) := by decide +kernel
theorem dX4_full_6 : decode cX4_full 6 = .ok (.iconst 2, 1) := by decide +kernel
theorem dX4_full_7 : decode cX4_full 7 = .ok (.iconst 5, 1) := by decide +kernel
theorem dX4_full_8 : decode cX4_full 8 = .ok (.invokestatic 90, 3) := by decide +kernel
theorem dX4_full_11 : decode cX4_full 11 = .ok (.ifCond .ne 6, 3) := by decide +kernel
theorem dX4_full_14 : decode cX4_full 14 = .ok (.bipush (-2), 2) := by decide +kernel
theorem dX4_full_16 : decode cX4_full 16 = .ok (.ireturn, 1) := by decide +kernel
theorem dX4_full_17 : decode cX4_full 17 = .ok (.aload_n 0, 1) := by decide +kernel
theorem dX4_full_18 : decode cX4_full 18 = .ok (.getfield 50, 3) := by decide +kernel
theorem dX4_full_21 : decode cX4_full 21 = .ok (.istore_n 2, 1) := by decide +kernel
theorem dX4_full_22 : decode cX4_full 22 = .ok (.aload_n 0, 1) := by decide +kernel
theorem dX4_full_23 : decode cX4_full 23 = .ok (.iload_n 1, 1) := by decide +kernel
theorem dX4_full_24 : decode cX4_full 24 = .ok (.putfield 50, 3) := by decide +kernel
theorem dX4_full_27 : decode cX4_full 27 = .ok (.iload_n 2, 1) := by decide +kernel
theorem dX4_full_28 : decode cX4_full 28 = .ok (.ireturn, 1) := by decide +kernel
theorem dX4_due_0 : decode cX4_due 0 = .ok (.aload_n 0, 1) := by decide +kernel
theorem dX4_due_1 : decode cX4_due 1 = .ok (.iconst 0, 1) := by decide +kernel
theorem dX4_due_2 : decode cX4_due 2 = .ok (.putfield 84, 3) := by decide +kernel
theorem dX4_due_5 : decode cX4_due 5 = .ok (.bipush (-3), 2) := by decide +kernel
theorem dX4_due_7 : decode cX4_due 7 = .ok (.istore_n 1, 1) := by decide +kernel
theorem dX4_due_8 : decode cX4_due 8 = .ok (.iconst 0, 1) := by decide +kernel
theorem dX4_due_9 : decode cX4_due 9 = .ok (.istore_n 2, 1) := by decide +kernel
theorem dX4_due_10 : decode cX4_due 10 = .ok (.iload_n 2, 1) := by decide +kernel
theorem dX4_due_11 : decode cX4_due 11 = .ok (.aload_n 0, 1) := by decide +kernel
theorem dX4_due_12 : decode cX4_due 12 = .ok (.getfield 50, 3) := by decide +kernel
theorem dX4_due_15 : decode cX4_due 15 = .ok (.iadd, 1) := by decide +kernel
theorem dX4_due_16 : decode cX4_due 16 = .ok (.aload_n 0, 1) := by decide +kernel
theorem dX4_due_17 : decode cX4_due 17 = .ok (.getfield 102, 3) := by decide +kernel
theorem dX4_due_20 : decode cX4_due 20 = .ok (.if_icmp .gt 106, 3) := by decide +kernel
theorem dX4_due_23 : decode cX4_due 23 = .ok (.iconst 1, 1) := by decide +kernel
theorem dX4_due_24 : decode cX4_due 24 = .ok (.istore_n 3, 1) := by decide +kernel
theorem dX4_due_25 : decode cX4_due 25 = .ok (.iconst 1, 1) := by decide +kernel
theorem dX4_due_26 : decode cX4_due 26 = .ok (.istore 4, 2) := by decide +kernel
theorem dX4_due_28 : decode cX4_due 28 = .ok (.iload 4, 2) := by decide +kernel
theorem dX4_due_30 : decode cX4_due 30 = .ok (.aload_n 0, 1) := by decide +kernel
theorem dX4_due_31 : decode cX4_due 31 = .ok (.getfield 50, 3) := by decide +kernel
theorem dX4_due_34 : decode cX4_due 34 = .ok (.if_icmp .ge 47, 3) := by decide +kernel
theorem dX4_due_37 : decode cX4_due 37 = .ok (.iload_n 3, 1) := by decide +kernel
theorem dX4_due_38 : decode cX4_due 38 = .ok (.ifCond .eq 35, 3) := by decide +kernel
theorem dX4_due_41 : decode cX4_due 41 = .ok (.aload_n 0, 1) := by decide +kernel
theorem dX4_due_42 : decode cX4_due 42 = .ok (.getfield 35, 3) := by decide +kernel
theorem dX4_due_45 : decode cX4_due 45 = .ok (.aload_n 0, 1) := by decide +kernel
theorem dX4_due_46 : decode cX4_due 46 = .ok (.getfield 25, 3) := by decide +kernel
theorem dX4_due_49 : decode cX4_due 49 = .ok (.iload_n 2, 1) := by decide +kernel
theorem dX4_due_50 : decode cX4_due 50 = .ok (.iload 4, 2) := by decide +kernel
theorem dX4_due_52 : decode cX4_due 52 = .ok (.iadd, 1) := by decide +kernel
theorem dX4_due_53 : decode cX4_due 53 = .ok (.iaload, 1) := by decide +kernel
theorem dX4_due_54 : decode cX4_due 54 = .ok (.iaload, 1) := by decide +kernel
theorem dX4_due_55 : decode cX4_due 55 = .ok (.aload_n 0, 1) := by decide +kernel
theorem dX4_due_56 : decode cX4_due 56 = .ok (.getfield 35, 3) := by decide +kernel
theorem dX4_due_59 : decode cX4_due 59 = .ok (.aload_n 0, 1) := by decide +kernel
theorem dX4_due_60 : decode cX4_due 60 = .ok (.getfield 25, 3) := by decide +kernel
theorem dX4_due_63 : decode cX4_due 63 = .ok (.iload_n 2, 1) := by decide +kernel
theorem dX4_due_64 : decode cX4_due 64 = .ok (.iaload, 1) := by decide +kernel
theorem dX4_due_65 : decode cX4_due 65 = .ok (.iaload, 1) := by decide +kernel
theorem dX4_due_66 : decode cX4_due 66 = .ok (.if_icmp .ne 7, 3) := by decide +kernel
theorem dX4_due_69 : decode cX4_due 69 = .ok (.iconst 1, 1) := by decide +kernel
theorem dX4_due_70 : decode cX4_due 70 = .ok (.goto 4, 3) := by decide +kernel
theorem dX4_due_73 : decode cX4_due 73 = .ok (.iconst 0, 1) := by decide +kernel
theorem dX4_due_74 : decode cX4_due 74 = .ok (.istore_n 3, 1) := by decide +kernel
theorem dX4_due_75 : decode cX4_due 75 = .ok (.iinc 4 1, 3) := by decide +kernel
theorem dX4_due_78 : decode cX4_due 78 = .ok (.goto (-50), 3) := by decide +kernel
theorem dX4_due_81 : decode cX4_due 81 = .ok (.iload_n 3, 1) := by decide +kernel
theorem dX4_due_82 : decode cX4_due 82 = .ok (.ifCond .eq 36, 3) := by decide +kernel
theorem dX4_due_85 : decode cX4_due 85 = .ok (.iload_n 1, 1) := by decide +kernel
theorem dX4_due_86 : decode cX4_due 86 = .ok (.ifCond .lt 28, 3) := by decide +kernel
theorem dX4_due_89 : decode cX4_due 89 = .ok (.aload_n 0, 1) := by decide +kernel
theorem dX4_due_90 : decode cX4_due 90 = .ok (.getfield 35, 3) := by decide +kernel
theorem dX4_due_93 : decode cX4_due 93 = .ok (.aload_n 0, 1) := by decide +kernel
theorem dX4_due_94 : decode cX4_due 94 = .ok (.getfield 25, 3) := by decide +kernel
theorem dX4_due_97 : decode cX4_due 97 = .ok (.iload_n 2, 1) := by decide +kernel
theorem dX4_due_98 : decode cX4_due 98 = .ok (.iaload, 1) := by decide +kernel
theorem dX4_due_99 : decode cX4_due 99 = .ok (.iaload, 1) := by decide +kernel
theorem dX4_due_100 : decode cX4_due 100 = .ok (.aload_n 0, 1) := by decide +kernel
theorem dX4_due_101 : decode cX4_due 101 = .ok (.getfield 35, 3) := by decide +kernel
theorem dX4_due_104 : decode cX4_due 104 = .ok (.aload_n 0, 1) := by decide +kernel
theorem dX4_due_105 : decode cX4_due 105 = .ok (.getfield 25, 3) := by decide +kernel
theorem dX4_due_108 : decode cX4_due 108 = .ok (.iload_n 1, 1) := by decide +kernel
theorem dX4_due_109 : decode cX4_due 109 = .ok (.iaload, 1) := by decide +kernel
theorem dX4_due_110 : decode cX4_due 110 = .ok (.iaload, 1) := by decide +kernel
theorem dX4_due_111 : decode cX4_due 111 = .ok (.if_icmp .ge 7, 3) := by decide +kernel
theorem dX4_due_114 : decode cX4_due 114 = .ok (.iload_n 2, 1) := by decide +kernel
theorem dX4_due_115 : decode cX4_due 115 = .ok (.goto 4, 3) := by decide +kernel
theorem dX4_due_118 : decode cX4_due 118 = .ok (.iload_n 1, 1) := by decide +kernel
theorem dX4_due_119 : decode cX4_due 119 = .ok (.istore_n 1, 1) := by decide +kernel
theorem dX4_due_120 : decode cX4_due 120 = .ok (.iinc 2 1, 3) := by decide +kernel
theorem dX4_due_123 : decode cX4_due 123 = .ok (.goto (-113), 3) := by decide +kernel
theorem dX4_due_126 : decode cX4_due 126 = .ok (.iload_n 1, 1) := by decide +kernel
theorem dX4_due_127 : decode cX4_due 127 = .ok (.ireturn, 1) := by decide +kernel
set_option maxRecDepth 20000 in
theorem ggX4_cheapest_X4_in : GoodIn wsX4_cheapest wsX4_in := goodIn_r _ [7] (by decide +kernel) (by decide +kernel)
set_option maxRecDepth 20000 in
theorem gX4_cheapest_X4_in : GoodIn wsX4_cheapest (va_wsS RX4 90 yX4_in wsX4_in) := goodIn_app (goodIn_of _ (by decide +kernel)) ggX4_cheapest_X4_in
set_option maxRecDepth 20000 in
theorem ggX4_cheapest_X4_livingOf : GoodIn wsX4_cheapest wsX4_livingOf := goodIn_r _ [11, 12, 13, 14, 15, 16, 17, 18, 19, 20, 21, 22, 23, 24, 25, 26, 27, 28, 29, 30, 31, 32, 33, 34, 35, 36, 37, 38, 39, 40, 41, 42, 43, 44, 45, 46, 47] (by decide +kernel) (by decide +kernel)
set_option maxRecDepth 20000 in
theorem gX4_cheapest_X4_livingOf : GoodIn wsX4_cheapest (wsV RX4 119 RX4 yX4_livingOf wsX4_livingOf) := goodIn_app (goodIn_of _ (by decide +kernel)) ggX4_cheapest_X4_livingOf
theorem dX4_cheapest_0 : decode cX4_cheapest 0 = .ok (.aload_n 0, 1) := by decide +kernel
theorem dX4_cheapest_1 : decode cX4_cheapest 1 = .ok (.iconst 0, 1) := by decide +kernel
theorem dX4_cheapest_2 : decode cX4_cheapest 2 = .ok (.putfield 84, 3) := by decide +kernel
theorem dX4_cheapest_5 : decode cX4_cheapest 5 = .ok (.iload_n 1, 1) := by decide +kernel
theorem dX4_cheapest_6 : decode cX4_cheapest 6 = .ok (.iconst 2, 1) := by decide +kernel
end
section
theorem dX4_cheapest_7 : decode cX4_cheapest 7 = .ok (.bipush 6, 2) := by decide +kernel
theorem dX4_cheapest_9 : decode cX4_cheapest 9 = .ok (.invokestatic 90, 3) := by decide +kernel
theorem dX4_cheapest_12 : decode cX4_cheapest 12 = .ok (.ifCond .ne 6, 3) := by decide +kernel
theorem dX4_cheapest_15 : decode cX4_cheapest 15 = .ok (.bipush (-2), 2) := by decide +kernel
theorem dX4_cheapest_17 : decode cX4_cheapest 17 = .ok (.ireturn, 1) := by decide +kernel
theorem dX4_cheapest_18 : decode cX4_cheapest 18 = .ok (.bipush (-3), 2) := by decide +kernel
theorem dX4_cheapest_20 : decode cX4_cheapest 20 = .ok (.istore_n 2, 1) := by decide +kernel
theorem dX4_cheapest_21 : decode cX4_cheapest 21 = .ok (.iconst 0, 1) := by decide +kernel
theorem dX4_cheapest_22 : decode cX4_cheapest 22 = .ok (.istore_n 3, 1) := by decide +kernel
theorem dX4_cheapest_23 : decode cX4_cheapest 23 = .ok (.iconst 0, 1) := by decide +kernel
theorem dX4_cheapest_24 : decode cX4_cheapest 24 = .ok (.istore 4, 2) := by decide +kernel
theorem dX4_cheapest_26 : decode cX4_cheapest 26 = .ok (.iload 4, 2) := by decide +kernel
theorem dX4_cheapest_28 : decode cX4_cheapest 28 = .ok (.iload_n 1, 1) := by decide +kernel
theorem dX4_cheapest_29 : decode cX4_cheapest 29 = .ok (.iadd, 1) := by decide +kernel
theorem dX4_cheapest_30 : decode cX4_cheapest 30 = .ok (.aload_n 0, 1) := by decide +kernel
theorem dX4_cheapest_31 : decode cX4_cheapest 31 = .ok (.getfield 102, 3) := by decide +kernel
theorem dX4_cheapest_34 : decode cX4_cheapest 34 = .ok (.if_icmp .gt 62, 3) := by decide +kernel
theorem dX4_cheapest_37 : decode cX4_cheapest 37 = .ok (.iconst 0, 1) := by decide +kernel
theorem dX4_cheapest_38 : decode cX4_cheapest 38 = .ok (.istore 5, 2) := by decide +kernel
theorem dX4_cheapest_40 : decode cX4_cheapest 40 = .ok (.iconst 0, 1) := by decide +kernel
theorem dX4_cheapest_41 : decode cX4_cheapest 41 = .ok (.istore 6, 2) := by decide +kernel
theorem dX4_cheapest_43 : decode cX4_cheapest 43 = .ok (.iload 6, 2) := by decide +kernel
theorem dX4_cheapest_45 : decode cX4_cheapest 45 = .ok (.iload_n 1, 1) := by decide +kernel
theorem dX4_cheapest_46 : decode cX4_cheapest 46 = .ok (.if_icmp .ge 28, 3) := by decide +kernel
theorem dX4_cheapest_49 : decode cX4_cheapest 49 = .ok (.iload 5, 2) := by decide +kernel
theorem dX4_cheapest_51 : decode cX4_cheapest 51 = .ok (.aload_n 0, 1) := by decide +kernel
theorem dX4_cheapest_52 : decode cX4_cheapest 52 = .ok (.aload_n 0, 1) := by decide +kernel
theorem dX4_cheapest_53 : decode cX4_cheapest 53 = .ok (.getfield 25, 3) := by decide +kernel
theorem dX4_cheapest_56 : decode cX4_cheapest 56 = .ok (.iload 4, 2) := by decide +kernel
theorem dX4_cheapest_58 : decode cX4_cheapest 58 = .ok (.iload 6, 2) := by decide +kernel
theorem dX4_cheapest_60 : decode cX4_cheapest 60 = .ok (.iadd, 1) := by decide +kernel
theorem dX4_cheapest_61 : decode cX4_cheapest 61 = .ok (.iaload, 1) := by decide +kernel
theorem dX4_cheapest_62 : decode cX4_cheapest 62 = .ok (.invokevirtual 119, 3) := by decide +kernel
theorem dX4_cheapest_65 : decode cX4_cheapest 65 = .ok (.iadd, 1) := by decide +kernel
theorem dX4_cheapest_66 : decode cX4_cheapest 66 = .ok (.istore 5, 2) := by decide +kernel
theorem dX4_cheapest_68 : decode cX4_cheapest 68 = .ok (.iinc 6 1, 3) := by decide +kernel
theorem dX4_cheapest_71 : decode cX4_cheapest 71 = .ok (.goto (-28), 3) := by decide +kernel
theorem dX4_cheapest_74 : decode cX4_cheapest 74 = .ok (.iload_n 2, 1) := by decide +kernel
theorem dX4_cheapest_75 : decode cX4_cheapest 75 = .ok (.ifCond .lt 9, 3) := by decide +kernel
theorem dX4_cheapest_78 : decode cX4_cheapest 78 = .ok (.iload 5, 2) := by decide +kernel
theorem dX4_cheapest_80 : decode cX4_cheapest 80 = .ok (.iload_n 3, 1) := by decide +kernel
theorem dX4_cheapest_81 : decode cX4_cheapest 81 = .ok (.if_icmp .ge 9, 3) := by decide +kernel
theorem dX4_cheapest_84 : decode cX4_cheapest 84 = .ok (.iload 4, 2) := by decide +kernel
theorem dX4_cheapest_86 : decode cX4_cheapest 86 = .ok (.istore_n 2, 1) := by decide +kernel
theorem dX4_cheapest_87 : decode cX4_cheapest 87 = .ok (.iload 5, 2) := by decide +kernel
theorem dX4_cheapest_89 : decode cX4_cheapest 89 = .ok (.istore_n 3, 1) := by decide +kernel
theorem dX4_cheapest_90 : decode cX4_cheapest 90 = .ok (.iinc 4 1, 3) := by decide +kernel
theorem dX4_cheapest_93 : decode cX4_cheapest 93 = .ok (.goto (-67), 3) := by decide +kernel
theorem dX4_cheapest_96 : decode cX4_cheapest 96 = .ok (.iload_n 2, 1) := by decide +kernel
theorem dX4_cheapest_97 : decode cX4_cheapest 97 = .ok (.ireturn, 1) := by decide +kernel
set_option maxRecDepth 20000 in
theorem ggX4_worst_X4_livingOf : GoodIn wsX4_worst wsX4_livingOf := goodIn_r _ [9, 4, 10, 11, 12, 13, 14, 15, 16, 17, 18, 19, 20, 21, 22, 23, 24, 25, 26, 27, 28, 29, 30, 31, 32, 33, 34, 35, 36, 37, 38, 39, 40, 41, 42, 43, 44] (by decide +kernel) (by decide +kernel)
set_option maxRecDepth 20000 in
theorem gX4_worst_X4_livingOf : GoodIn wsX4_worst (wsV RX4 119 RX4 yX4_livingOf wsX4_livingOf) := goodIn_app (goodIn_of _ (by decide +kernel)) ggX4_worst_X4_livingOf
theorem dX4_worst_0 : decode cX4_worst 0 = .ok (.aload_n 0, 1) := by decide +kernel
theorem dX4_worst_1 : decode cX4_worst 1 = .ok (.iconst 0, 1) := by decide +kernel
theorem dX4_worst_2 : decode cX4_worst 2 = .ok (.putfield 84, 3) := by decide +kernel
theorem dX4_worst_5 : decode cX4_worst 5 = .ok (.bipush (-3), 2) := by decide +kernel
theorem dX4_worst_7 : decode cX4_worst 7 = .ok (.istore_n 1, 1) := by decide +kernel
theorem dX4_worst_8 : decode cX4_worst 8 = .ok (.iconst 0, 1) := by decide +kernel
theorem dX4_worst_9 : decode cX4_worst 9 = .ok (.istore_n 2, 1) := by decide +kernel
theorem dX4_worst_10 : decode cX4_worst 10 = .ok (.iload_n 2, 1) := by decide +kernel
theorem dX4_worst_11 : decode cX4_worst 11 = .ok (.aload_n 0, 1) := by decide +kernel
theorem dX4_worst_12 : decode cX4_worst 12 = .ok (.getfield 102, 3) := by decide +kernel
theorem dX4_worst_15 : decode cX4_worst 15 = .ok (.if_icmp .ge 94, 3) := by decide +kernel
theorem dX4_worst_18 : decode cX4_worst 18 = .ok (.aload_n 0, 1) := by decide +kernel
theorem dX4_worst_19 : decode cX4_worst 19 = .ok (.getfield 25, 3) := by decide +kernel
theorem dX4_worst_22 : decode cX4_worst 22 = .ok (.iload_n 2, 1) := by decide +kernel
theorem dX4_worst_23 : decode cX4_worst 23 = .ok (.iaload, 1) := by decide +kernel
theorem dX4_worst_24 : decode cX4_worst 24 = .ok (.istore_n 3, 1) := by decide +kernel
theorem dX4_worst_25 : decode cX4_worst 25 = .ok (.iload_n 1, 1) := by decide +kernel
theorem dX4_worst_26 : decode cX4_worst 26 = .ok (.ifCond .ge 7, 3) := by decide +kernel
theorem dX4_worst_29 : decode cX4_worst 29 = .ok (.iload_n 3, 1) := by decide +kernel
theorem dX4_worst_30 : decode cX4_worst 30 = .ok (.goto 9, 3) := by decide +kernel
theorem dX4_worst_33 : decode cX4_worst 33 = .ok (.aload_n 0, 1) := by decide +kernel
theorem dX4_worst_34 : decode cX4_worst 34 = .ok (.getfield 25, 3) := by decide +kernel
theorem dX4_worst_37 : decode cX4_worst 37 = .ok (.iload_n 1, 1) := by decide +kernel
theorem dX4_worst_38 : decode cX4_worst 38 = .ok (.iaload, 1) := by decide +kernel
theorem dX4_worst_39 : decode cX4_worst 39 = .ok (.istore 4, 2) := by decide +kernel
theorem dX4_worst_41 : decode cX4_worst 41 = .ok (.aload_n 0, 1) := by decide +kernel
theorem dX4_worst_42 : decode cX4_worst 42 = .ok (.getfield 38, 3) := by decide +kernel
theorem dX4_worst_45 : decode cX4_worst 45 = .ok (.iload_n 3, 1) := by decide +kernel
theorem dX4_worst_46 : decode cX4_worst 46 = .ok (.iaload, 1) := by decide +kernel
theorem dX4_worst_47 : decode cX4_worst 47 = .ok (.aload_n 0, 1) := by decide +kernel
theorem dX4_worst_48 : decode cX4_worst 48 = .ok (.iload_n 3, 1) := by decide +kernel
theorem dX4_worst_49 : decode cX4_worst 49 = .ok (.invokevirtual 119, 3) := by decide +kernel
theorem dX4_worst_52 : decode cX4_worst 52 = .ok (.isub, 1) := by decide +kernel
theorem dX4_worst_53 : decode cX4_worst 53 = .ok (.istore 5, 2) := by decide +kernel
theorem dX4_worst_55 : decode cX4_worst 55 = .ok (.aload_n 0, 1) := by decide +kernel
theorem dX4_worst_56 : decode cX4_worst 56 = .ok (.getfield 38, 3) := by decide +kernel
theorem dX4_worst_59 : decode cX4_worst 59 = .ok (.iload 4, 2) := by decide +kernel
theorem dX4_worst_61 : decode cX4_worst 61 = .ok (.iaload, 1) := by decide +kernel
theorem dX4_worst_62 : decode cX4_worst 62 = .ok (.aload_n 0, 1) := by decide +kernel
theorem dX4_worst_63 : decode cX4_worst 63 = .ok (.iload 4, 2) := by decide +kernel
theorem dX4_worst_65 : decode cX4_worst 65 = .ok (.invokevirtual 119, 3) := by decide +kernel
theorem dX4_worst_68 : decode cX4_worst 68 = .ok (.isub, 1) := by decide +kernel
theorem dX4_worst_69 : decode cX4_worst 69 = .ok (.istore 6, 2) := by decide +kernel
theorem dX4_worst_71 : decode cX4_worst 71 = .ok (.iload_n 1, 1) := by decide +kernel
theorem dX4_worst_72 : decode cX4_worst 72 = .ok (.ifCond .lt 25, 3) := by decide +kernel
theorem dX4_worst_75 : decode cX4_worst 75 = .ok (.iload 5, 2) := by decide +kernel
theorem dX4_worst_77 : decode cX4_worst 77 = .ok (.aload_n 0, 1) := by decide +kernel
theorem dX4_worst_78 : decode cX4_worst 78 = .ok (.getfield 38, 3) := by decide +kernel
theorem dX4_worst_81 : decode cX4_worst 81 = .ok (.iload 4, 2) := by decide +kernel
theorem dX4_worst_83 : decode cX4_worst 83 = .ok (.iaload, 1) := by decide +kernel
theorem dX4_worst_84 : decode cX4_worst 84 = .ok (.imul, 1) := by decide +kernel
theorem dX4_worst_85 : decode cX4_worst 85 = .ok (.iload 6, 2) := by decide +kernel
theorem dX4_worst_87 : decode cX4_worst 87 = .ok (.aload_n 0, 1) := by decide +kernel
theorem dX4_worst_88 : decode cX4_worst 88 = .ok (.getfield 38, 3) := by decide +kernel
theorem dX4_worst_91 : decode cX4_worst 91 = .ok (.iload_n 3, 1) := by decide +kernel
theorem dX4_worst_92 : decode cX4_worst 92 = .ok (.iaload, 1) := by decide +kernel
theorem dX4_worst_93 : decode cX4_worst 93 = .ok (.imul, 1) := by decide +kernel
theorem dX4_worst_94 : decode cX4_worst 94 = .ok (.if_icmp .le 7, 3) := by decide +kernel
theorem dX4_worst_97 : decode cX4_worst 97 = .ok (.iload_n 2, 1) := by decide +kernel
theorem dX4_worst_98 : decode cX4_worst 98 = .ok (.goto 4, 3) := by decide +kernel
theorem dX4_worst_101 : decode cX4_worst 101 = .ok (.iload_n 1, 1) := by decide +kernel
theorem dX4_worst_102 : decode cX4_worst 102 = .ok (.istore_n 1, 1) := by decide +kernel
theorem dX4_worst_103 : decode cX4_worst 103 = .ok (.iinc 2 1, 3) := by decide +kernel
theorem dX4_worst_106 : decode cX4_worst 106 = .ok (.goto (-96), 3) := by decide +kernel
theorem dX4_worst_109 : decode cX4_worst 109 = .ok (.iload_n 1, 1) := by decide +kernel
theorem dX4_worst_110 : decode cX4_worst 110 = .ok (.ireturn, 1) := by decide +kernel
set_option maxRecDepth 20000 in
theorem ggX4_begin_X4_isPlace : GoodIn wsX4_begin wsX4_isPlace := goodIn_r _ [12, 2, 13, 14, 11, 15, 26, 27, 28, 29, 30, 31, 32, 33, 34, 35, 36, 37, 38, 39, 40, 41, 42, 43, 44, 45, 46, 47, 48, 49, 50, 51, 52, 53, 54, 55, 56, 57, 58, 59] (by decide +kernel) (by decide +kernel)
set_option maxRecDepth 20000 in
theorem gX4_begin_X4_isPlace : GoodIn wsX4_begin (wsV RX4 126 RX4 yX4_isPlace wsX4_isPlace) := goodIn_app (goodIn_of _ (by decide +kernel)) ggX4_begin_X4_isPlace
set_option maxRecDepth 20000 in
theorem ggX4_begin_X4_in : GoodIn wsX4_begin wsX4_in := goodIn_r _ [15] (by decide +kernel) (by decide +kernel)
set_option maxRecDepth 20000 in
theorem gX4_begin_X4_in : GoodIn wsX4_begin (va_wsS RX4 90 yX4_in wsX4_in) := goodIn_app (goodIn_of _ (by decide +kernel)) ggX4_begin_X4_in
set_option maxRecDepth 20000 in
theorem ggX4_begin_X4_left : GoodIn wsX4_begin wsX4_left := goodIn_r _ [19, 3, 20, 7, 21, 22, 23, 11, 24, 25, 4, 26, 27, 28, 29, 30, 31, 32, 33, 34, 35, 36, 37, 38, 39, 40, 41, 42, 43, 44, 45, 46, 47, 48, 49, 50, 51, 52, 53, 54, 55, 56, 57, 58, 59] (by decide +kernel) (by decide +kernel)
set_option maxRecDepth 20000 in
theorem gX4_begin_X4_left : GoodIn wsX4_begin (wsV RX4 142 RX4 yX4_left wsX4_left) := goodIn_app (goodIn_of _ (by decide +kernel)) ggX4_begin_X4_left
theorem dX4_begin_0 : decode cX4_begin 0 = .ok (.aload_n 0, 1) := by decide +kernel
theorem dX4_begin_1 : decode cX4_begin 1 = .ok (.iconst 0, 1) := by decide +kernel
theorem dX4_begin_2 : decode cX4_begin 2 = .ok (.putfield 84, 3) := by decide +kernel
theorem dX4_begin_5 : decode cX4_begin 5 = .ok (.aload_n 0, 1) := by decide +kernel
theorem dX4_begin_6 : decode cX4_begin 6 = .ok (.iload_n 1, 1) := by decide +kernel
theorem dX4_begin_7 : decode cX4_begin 7 = .ok (.invokevirtual 126, 3) := by decide +kernel
theorem dX4_begin_10 : decode cX4_begin 10 = .ok (.ifCond .ne 5, 3) := by decide +kernel
theorem dX4_begin_13 : decode cX4_begin 13 = .ok (.iconst (-1), 1) := by decide +kernel
theorem dX4_begin_14 : decode cX4_begin 14 = .ok (.ireturn, 1) := by decide +kernel
theorem dX4_begin_15 : decode cX4_begin 15 = .ok (.iload_n 2, 1) := by decide +kernel
theorem dX4_begin_16 : decode cX4_begin 16 = .ok (.iconst 2, 1) := by decide +kernel
theorem dX4_begin_17 : decode cX4_begin 17 = .ok (.bipush 6, 2) := by decide +kernel
theorem dX4_begin_19 : decode cX4_begin 19 = .ok (.invokestatic 90, 3) := by decide +kernel
theorem dX4_begin_22 : decode cX4_begin 22 = .ok (.ifCond .ne 6, 3) := by decide +kernel
theorem dX4_begin_25 : decode cX4_begin 25 = .ok (.bipush (-2), 2) := by decide +kernel
theorem dX4_begin_27 : decode cX4_begin 27 = .ok (.ireturn, 1) := by decide +kernel
theorem dX4_begin_28 : decode cX4_begin 28 = .ok (.iload_n 1, 1) := by decide +kernel
theorem dX4_begin_29 : decode cX4_begin 29 = .ok (.iload_n 2, 1) := by decide +kernel
theorem dX4_begin_30 : decode cX4_begin 30 = .ok (.iadd, 1) := by decide +kernel
theorem dX4_begin_31 : decode cX4_begin 31 = .ok (.aload_n 0, 1) := by decide +kernel
theorem dX4_begin_32 : decode cX4_begin 32 = .ok (.getfield 102, 3) := by decide +kernel
theorem dX4_begin_35 : decode cX4_begin 35 = .ok (.if_icmp .le 5, 3) := by decide +kernel
theorem dX4_begin_38 : decode cX4_begin 38 = .ok (.iconst (-1), 1) := by decide +kernel
theorem dX4_begin_39 : decode cX4_begin 39 = .ok (.ireturn, 1) := by decide +kernel
theorem dX4_begin_40 : decode cX4_begin 40 = .ok (.aload_n 0, 1) := by decide +kernel
theorem dX4_begin_41 : decode cX4_begin 41 = .ok (.getfield 130, 3) := by decide +kernel
theorem dX4_begin_44 : decode cX4_begin 44 = .ok (.ifCond .le 6, 3) := by decide +kernel
theorem dX4_begin_47 : decode cX4_begin 47 = .ok (.bipush (-3), 2) := by decide +kernel
theorem dX4_begin_49 : decode cX4_begin 49 = .ok (.ireturn, 1) := by decide +kernel
theorem dX4_begin_50 : decode cX4_begin 50 = .ok (.aload_n 0, 1) := by decide +kernel
theorem dX4_begin_51 : decode cX4_begin 51 = .ok (.iload_n 2, 1) := by decide +kernel
theorem dX4_begin_52 : decode cX4_begin 52 = .ok (.putfield 130, 3) := by decide +kernel
theorem dX4_begin_55 : decode cX4_begin 55 = .ok (.aload_n 0, 1) := by decide +kernel
theorem dX4_begin_56 : decode cX4_begin 56 = .ok (.iload_n 1, 1) := by decide +kernel
theorem dX4_begin_57 : decode cX4_begin 57 = .ok (.putfield 133, 3) := by decide +kernel
theorem dX4_begin_60 : decode cX4_begin 60 = .ok (.aload_n 0, 1) := by decide +kernel
theorem dX4_begin_61 : decode cX4_begin 61 = .ok (.iconst 0, 1) := by decide +kernel
theorem dX4_begin_62 : decode cX4_begin 62 = .ok (.putfield 136, 3) := by decide +kernel
theorem dX4_begin_65 : decode cX4_begin 65 = .ok (.aload_n 0, 1) := by decide +kernel
theorem dX4_begin_66 : decode cX4_begin 66 = .ok (.iconst 0, 1) := by decide +kernel
theorem dX4_begin_67 : decode cX4_begin 67 = .ok (.putfield 139, 3) := by decide +kernel
theorem dX4_begin_70 : decode cX4_begin 70 = .ok (.iconst 0, 1) := by decide +kernel
theorem dX4_begin_71 : decode cX4_begin 71 = .ok (.istore_n 3, 1) := by decide +kernel
theorem dX4_begin_72 : decode cX4_begin 72 = .ok (.iload_n 3, 1) := by decide +kernel
theorem dX4_begin_73 : decode cX4_begin 73 = .ok (.iload_n 2, 1) := by decide +kernel
theorem dX4_begin_74 : decode cX4_begin 74 = .ok (.if_icmp .ge 16, 3) := by decide +kernel
theorem dX4_begin_77 : decode cX4_begin 77 = .ok (.aload_n 0, 1) := by decide +kernel
theorem dX4_begin_78 : decode cX4_begin 78 = .ok (.getfield 54, 3) := by decide +kernel
theorem dX4_begin_81 : decode cX4_begin 81 = .ok (.iload_n 3, 1) := by decide +kernel
theorem dX4_begin_82 : decode cX4_begin 82 = .ok (.iconst 0, 1) := by decide +kernel
theorem dX4_begin_83 : decode cX4_begin 83 = .ok (.iastore, 1) := by decide +kernel
theorem dX4_begin_84 : decode cX4_begin 84 = .ok (.iinc 3 1, 3) := by decide +kernel
theorem dX4_begin_87 : decode cX4_begin 87 = .ok (.goto (-15), 3) := by decide +kernel
theorem dX4_begin_90 : decode cX4_begin 90 = .ok (.aload_n 0, 1) := by decide +kernel
theorem dX4_begin_91 : decode cX4_begin 91 = .ok (.invokevirtual 142, 3) := by decide +kernel
theorem dX4_begin_94 : decode cX4_begin 94 = .ok (.ireturn, 1) := by decide +kernel
theorem dX4_slotOf_0 : decode cX4_slotOf 0 = .ok (.aload_n 0, 1) := by decide +kernel
theorem dX4_slotOf_1 : decode cX4_slotOf 1 = .ok (.getfield 25, 3) := by decide +kernel
theorem dX4_slotOf_4 : decode cX4_slotOf 4 = .ok (.aload_n 0, 1) := by decide +kernel
theorem dX4_slotOf_5 : decode cX4_slotOf 5 = .ok (.getfield 133, 3) := by decide +kernel
theorem dX4_slotOf_8 : decode cX4_slotOf 8 = .ok (.iload_n 1, 1) := by decide +kernel
theorem dX4_slotOf_9 : decode cX4_slotOf 9 = .ok (.iadd, 1) := by decide +kernel
theorem dX4_slotOf_10 : decode cX4_slotOf 10 = .ok (.iaload, 1) := by decide +kernel
theorem dX4_slotOf_11 : decode cX4_slotOf 11 = .ok (.ireturn, 1) := by decide +kernel
set_option maxRecDepth 20000 in
theorem ggX4_left_X4_slotOf : GoodIn wsX4_left wsX4_slotOf := goodIn_r _ [8, 9, 10, 11, 12, 13, 14, 15, 16, 17, 18, 19, 20, 21, 22, 23, 24, 25, 26, 27, 28, 29, 30, 31, 32, 33, 34, 35, 36, 37, 38, 39, 40, 41, 42, 43, 44] (by decide +kernel) (by decide +kernel)
set_option maxRecDepth 20000 in
theorem gX4_left_X4_slotOf : GoodIn wsX4_left (wsV RX4 145 RX4 yX4_slotOf wsX4_slotOf) := goodIn_app (goodIn_of _ (by decide +kernel)) ggX4_left_X4_slotOf
theorem dX4_left_0 : decode cX4_left 0 = .ok (.iconst 0, 1) := by decide +kernel
theorem dX4_left_1 : decode cX4_left 1 = .ok (.istore_n 1, 1) := by decide +kernel
theorem dX4_left_2 : decode cX4_left 2 = .ok (.iconst 0, 1) := by decide +kernel
theorem dX4_left_3 : decode cX4_left 3 = .ok (.istore_n 2, 1) := by decide +kernel
theorem dX4_left_4 : decode cX4_left 4 = .ok (.iload_n 2, 1) := by decide +kernel
theorem dX4_left_5 : decode cX4_left 5 = .ok (.aload_n 0, 1) := by decide +kernel
theorem dX4_left_6 : decode cX4_left 6 = .ok (.getfield 130, 3) := by decide +kernel
theorem dX4_left_9 : decode cX4_left 9 = .ok (.if_icmp .ge 29, 3) := by decide +kernel
theorem dX4_left_12 : decode cX4_left 12 = .ok (.iload_n 1, 1) := by decide +kernel
theorem dX4_left_13 : decode cX4_left 13 = .ok (.aload_n 0, 1) := by decide +kernel
theorem dX4_left_14 : decode cX4_left 14 = .ok (.getfield 38, 3) := by decide +kernel
theorem dX4_left_17 : decode cX4_left 17 = .ok (.aload_n 0, 1) := by decide +kernel
theorem dX4_left_18 : decode cX4_left 18 = .ok (.iload_n 2, 1) := by decide +kernel
theorem dX4_left_19 : decode cX4_left 19 = .ok (.invokevirtual 145, 3) := by decide +kernel
theorem dX4_left_22 : decode cX4_left 22 = .ok (.iaload, 1) := by decide +kernel
theorem dX4_left_23 : decode cX4_left 23 = .ok (.aload_n 0, 1) := by decide +kernel
theorem dX4_left_24 : decode cX4_left 24 = .ok (.getfield 54, 3) := by decide +kernel
theorem dX4_left_27 : decode cX4_left 27 = .ok (.iload_n 2, 1) := by decide +kernel
theorem dX4_left_28 : decode cX4_left 28 = .ok (.iaload, 1) := by decide +kernel
theorem dX4_left_29 : decode cX4_left 29 = .ok (.isub, 1) := by decide +kernel
theorem dX4_left_30 : decode cX4_left 30 = .ok (.iadd, 1) := by decide +kernel
theorem dX4_left_31 : decode cX4_left 31 = .ok (.istore_n 1, 1) := by decide +kernel
theorem dX4_left_32 : decode cX4_left 32 = .ok (.iinc 2 1, 3) := by decide +kernel
theorem dX4_left_35 : decode cX4_left 35 = .ok (.goto (-31), 3) := by decide +kernel
theorem dX4_left_38 : decode cX4_left 38 = .ok (.iload_n 1, 1) := by decide +kernel
theorem dX4_left_39 : decode cX4_left 39 = .ok (.ireturn, 1) := by decide +kernel
set_option maxRecDepth 20000 in
theorem ggX4_takeOne_X4_slotOf : GoodIn wsX4_takeOne wsX4_slotOf := goodIn_r _ [18, 19, 20, 25, 26, 27, 28, 29, 30, 31, 32, 33, 34, 35, 36, 37, 38, 39, 40, 41, 42, 43, 44, 45, 46, 47, 48, 49, 50, 51, 52, 53, 54, 55, 56, 57, 58] (by decide +kernel) (by decide +kernel)
set_option maxRecDepth 20000 in
theorem gX4_takeOne_X4_slotOf : GoodIn wsX4_takeOne (wsV RX4 145 RX4 yX4_slotOf wsX4_slotOf) := goodIn_app (goodIn_of _ (by decide +kernel)) ggX4_takeOne_X4_slotOf
set_option maxRecDepth 20000 in
theorem ggX4_takeOne_X4_keyAt : GoodIn wsX4_takeOne wsX4_keyAt := goodIn_r _ [24, 8, 2, 14, 15, 16, 17, 18, 19, 20, 25, 26, 27, 28, 29, 30, 31, 32, 33, 34, 35, 36, 37, 38, 39, 40, 41, 42, 43, 44, 45, 46, 47, 48, 49, 50, 51, 52, 53, 54, 55, 56, 57, 58] (by decide +kernel) (by decide +kernel)
set_option maxRecDepth 20000 in
theorem gX4_takeOne_X4_keyAt : GoodIn wsX4_takeOne (wsV RX4 148 RX4 yX4_keyAt wsX4_keyAt) := goodIn_app (goodIn_of _ (by decide +kernel)) ggX4_takeOne_X4_keyAt
theorem dX4_takeOne_0 : decode cX4_takeOne 0 = .ok (.iconst (-1), 1) := by decide +kernel
theorem dX4_takeOne_1 : decode cX4_takeOne 1 = .ok (.istore_n 1, 1) := by decide +kernel
theorem dX4_takeOne_2 : decode cX4_takeOne 2 = .ok (.iconst 0, 1) := by decide +kernel
theorem dX4_takeOne_3 : decode cX4_takeOne 3 = .ok (.istore_n 2, 1) := by decide +kernel
theorem dX4_takeOne_4 : decode cX4_takeOne 4 = .ok (.iload_n 2, 1) := by decide +kernel
theorem dX4_takeOne_5 : decode cX4_takeOne 5 = .ok (.aload_n 0, 1) := by decide +kernel
theorem dX4_takeOne_6 : decode cX4_takeOne 6 = .ok (.getfield 130, 3) := by decide +kernel
theorem dX4_takeOne_9 : decode cX4_takeOne 9 = .ok (.if_icmp .ge 47, 3) := by decide +kernel
theorem dX4_takeOne_12 : decode cX4_takeOne 12 = .ok (.aload_n 0, 1) := by decide +kernel
theorem dX4_takeOne_13 : decode cX4_takeOne 13 = .ok (.getfield 54, 3) := by decide +kernel
theorem dX4_takeOne_16 : decode cX4_takeOne 16 = .ok (.iload_n 2, 1) := by decide +kernel
theorem dX4_takeOne_17 : decode cX4_takeOne 17 = .ok (.iaload, 1) := by decide +kernel
theorem dX4_takeOne_18 : decode cX4_takeOne 18 = .ok (.aload_n 0, 1) := by decide +kernel
theorem dX4_takeOne_19 : decode cX4_takeOne 19 = .ok (.getfield 38, 3) := by decide +kernel
theorem dX4_takeOne_22 : decode cX4_takeOne 22 = .ok (.aload_n 0, 1) := by decide +kernel
theorem dX4_takeOne_23 : decode cX4_takeOne 23 = .ok (.iload_n 2, 1) := by decide +kernel
theorem dX4_takeOne_24 : decode cX4_takeOne 24 = .ok (.invokevirtual 145, 3) := by decide +kernel
theorem dX4_takeOne_27 : decode cX4_takeOne 27 = .ok (.iaload, 1) := by decide +kernel
theorem dX4_takeOne_28 : decode cX4_takeOne 28 = .ok (.if_icmp .ge 22, 3) := by decide +kernel
theorem dX4_takeOne_31 : decode cX4_takeOne 31 = .ok (.iload_n 1, 1) := by decide +kernel
theorem dX4_takeOne_32 : decode cX4_takeOne 32 = .ok (.ifCond .lt 16, 3) := by decide +kernel
theorem dX4_takeOne_35 : decode cX4_takeOne 35 = .ok (.aload_n 0, 1) := by decide +kernel
theorem dX4_takeOne_36 : decode cX4_takeOne 36 = .ok (.iload_n 2, 1) := by decide +kernel
theorem dX4_takeOne_37 : decode cX4_takeOne 37 = .ok (.invokevirtual 148, 3) := by decide +kernel
theorem dX4_takeOne_40 : decode cX4_takeOne 40 = .ok (.aload_n 0, 1) := by decide +kernel
theorem dX4_takeOne_41 : decode cX4_takeOne 41 = .ok (.iload_n 1, 1) := by decide +kernel
theorem dX4_takeOne_42 : decode cX4_takeOne 42 = .ok (.invokevirtual 148, 3) := by decide +kernel
theorem dX4_takeOne_45 : decode cX4_takeOne 45 = .ok (.if_icmp .ge 5, 3) := by decide +kernel
theorem dX4_takeOne_48 : decode cX4_takeOne 48 = .ok (.iload_n 2, 1) := by decide +kernel
theorem dX4_takeOne_49 : decode cX4_takeOne 49 = .ok (.istore_n 1, 1) := by decide +kernel
theorem dX4_takeOne_50 : decode cX4_takeOne 50 = .ok (.iinc 2 1, 3) := by decide +kernel
theorem dX4_takeOne_53 : decode cX4_takeOne 53 = .ok (.goto (-49), 3) := by decide +kernel
theorem dX4_takeOne_56 : decode cX4_takeOne 56 = .ok (.bipush 100, 2) := by decide +kernel
theorem dX4_takeOne_58 : decode cX4_takeOne 58 = .ok (.aload_n 0, 1) := by decide +kernel
theorem dX4_takeOne_59 : decode cX4_takeOne 59 = .ok (.iload_n 1, 1) := by decide +kernel
theorem dX4_takeOne_60 : decode cX4_takeOne 60 = .ok (.invokevirtual 145, 3) := by decide +kernel
theorem dX4_takeOne_63 : decode cX4_takeOne 63 = .ok (.imul, 1) := by decide +kernel
theorem dX4_takeOne_64 : decode cX4_takeOne 64 = .ok (.aload_n 0, 1) := by decide +kernel
theorem dX4_takeOne_65 : decode cX4_takeOne 65 = .ok (.getfield 54, 3) := by decide +kernel
theorem dX4_takeOne_68 : decode cX4_takeOne 68 = .ok (.iload_n 1, 1) := by decide +kernel
theorem dX4_takeOne_69 : decode cX4_takeOne 69 = .ok (.iaload, 1) := by decide +kernel
theorem dX4_takeOne_70 : decode cX4_takeOne 70 = .ok (.iadd, 1) := by decide +kernel
theorem dX4_takeOne_71 : decode cX4_takeOne 71 = .ok (.istore_n 2, 1) := by decide +kernel
theorem dX4_takeOne_72 : decode cX4_takeOne 72 = .ok (.aload_n 0, 1) := by decide +kernel
theorem dX4_takeOne_73 : decode cX4_takeOne 73 = .ok (.getfield 66, 3) := by decide +kernel
theorem dX4_takeOne_76 : decode cX4_takeOne 76 = .ok (.bipush 100, 2) := by decide +kernel
theorem dX4_takeOne_78 : decode cX4_takeOne 78 = .ok (.iload_n 1, 1) := by decide +kernel
theorem dX4_takeOne_79 : decode cX4_takeOne 79 = .ok (.imul, 1) := by decide +kernel
theorem dX4_takeOne_80 : decode cX4_takeOne 80 = .ok (.aload_n 0, 1) := by decide +kernel
theorem dX4_takeOne_81 : decode cX4_takeOne 81 = .ok (.getfield 54, 3) := by decide +kernel
theorem dX4_takeOne_84 : decode cX4_takeOne 84 = .ok (.iload_n 1, 1) := by decide +kernel
theorem dX4_takeOne_85 : decode cX4_takeOne 85 = .ok (.iaload, 1) := by decide +kernel
theorem dX4_takeOne_86 : decode cX4_takeOne 86 = .ok (.iadd, 1) := by decide +kernel
theorem dX4_takeOne_87 : decode cX4_takeOne 87 = .ok (.iconst (-1), 1) := by decide +kernel
theorem dX4_takeOne_88 : decode cX4_takeOne 88 = .ok (.iastore, 1) := by decide +kernel
theorem dX4_takeOne_89 : decode cX4_takeOne 89 = .ok (.aload_n 0, 1) := by decide +kernel
theorem dX4_takeOne_90 : decode cX4_takeOne 90 = .ok (.getfield 47, 3) := by decide +kernel
theorem dX4_takeOne_93 : decode cX4_takeOne 93 = .ok (.iload_n 2, 1) := by decide +kernel
theorem dX4_takeOne_94 : decode cX4_takeOne 94 = .ok (.baload, 1) := by decide +kernel
theorem dX4_takeOne_95 : decode cX4_takeOne 95 = .ok (.ifCond .eq 83, 3) := by decide +kernel
theorem dX4_takeOne_98 : decode cX4_takeOne 98 = .ok (.aload_n 0, 1) := by decide +kernel
theorem dX4_takeOne_99 : decode cX4_takeOne 99 = .ok (.getfield 66, 3) := by decide +kernel
theorem dX4_takeOne_102 : decode cX4_takeOne 102 = .ok (.bipush 100, 2) := by decide +kernel
theorem dX4_takeOne_104 : decode cX4_takeOne 104 = .ok (.iload_n 1, 1) := by decide +kernel
theorem dX4_takeOne_105 : decode cX4_takeOne 105 = .ok (.imul, 1) := by decide +kernel
theorem dX4_takeOne_106 : decode cX4_takeOne 106 = .ok (.aload_n 0, 1) := by decide +kernel
theorem dX4_takeOne_107 : decode cX4_takeOne 107 = .ok (.getfield 54, 3) := by decide +kernel
theorem dX4_takeOne_110 : decode cX4_takeOne 110 = .ok (.iload_n 1, 1) := by decide +kernel
theorem dX4_takeOne_111 : decode cX4_takeOne 111 = .ok (.iaload, 1) := by decide +kernel
theorem dX4_takeOne_112 : decode cX4_takeOne 112 = .ok (.iadd, 1) := by decide +kernel
theorem dX4_takeOne_113 : decode cX4_takeOne 113 = .ok (.aload_n 0, 1) := by decide +kernel
theorem dX4_takeOne_114 : decode cX4_takeOne 114 = .ok (.getfield 139, 3) := by decide +kernel
theorem dX4_takeOne_117 : decode cX4_takeOne 117 = .ok (.iastore, 1) := by decide +kernel
theorem dX4_takeOne_118 : decode cX4_takeOne 118 = .ok (.aload_n 0, 1) := by decide +kernel
theorem dX4_takeOne_119 : decode cX4_takeOne 119 = .ok (.getfield 57, 3) := by decide +kernel
theorem dX4_takeOne_122 : decode cX4_takeOne 122 = .ok (.aload_n 0, 1) := by decide +kernel
theorem dX4_takeOne_123 : decode cX4_takeOne 123 = .ok (.getfield 139, 3) := by decide +kernel
theorem dX4_takeOne_126 : decode cX4_takeOne 126 = .ok (.aload_n 0, 1) := by decide +kernel
theorem dX4_takeOne_127 : decode cX4_takeOne 127 = .ok (.getfield 41, 3) := by decide +kernel
theorem dX4_takeOne_130 : decode cX4_takeOne 130 = .ok (.iload_n 2, 1) := by decide +kernel
theorem dX4_takeOne_131 : decode cX4_takeOne 131 = .ok (.iaload, 1) := by decide +kernel
theorem dX4_takeOne_132 : decode cX4_takeOne 132 = .ok (.iastore, 1) := by decide +kernel
theorem dX4_takeOne_133 : decode cX4_takeOne 133 = .ok (.aload_n 0, 1) := by decide +kernel
theorem dX4_takeOne_134 : decode cX4_takeOne 134 = .ok (.getfield 60, 3) := by decide +kernel
theorem dX4_takeOne_137 : decode cX4_takeOne 137 = .ok (.aload_n 0, 1) := by decide +kernel
theorem dX4_takeOne_138 : decode cX4_takeOne 138 = .ok (.getfield 139, 3) := by decide +kernel
theorem dX4_takeOne_141 : decode cX4_takeOne 141 = .ok (.aload_n 0, 1) := by decide +kernel
theorem dX4_takeOne_142 : decode cX4_takeOne 142 = .ok (.getfield 44, 3) := by decide +kernel
theorem dX4_takeOne_145 : decode cX4_takeOne 145 = .ok (.iload_n 2, 1) := by decide +kernel
theorem dX4_takeOne_146 : decode cX4_takeOne 146 = .ok (.iaload, 1) := by decide +kernel
theorem dX4_takeOne_147 : decode cX4_takeOne 147 = .ok (.iastore, 1) := by decide +kernel
theorem dX4_takeOne_148 : decode cX4_takeOne 148 = .ok (.aload_n 0, 1) := by decide +kernel
theorem dX4_takeOne_149 : decode cX4_takeOne 149 = .ok (.getfield 63, 3) := by decide +kernel
theorem dX4_takeOne_152 : decode cX4_takeOne 152 = .ok (.aload_n 0, 1) := by decide +kernel
theorem dX4_takeOne_153 : decode cX4_takeOne 153 = .ok (.getfield 139, 3) := by decide +kernel
theorem dX4_takeOne_156 : decode cX4_takeOne 156 = .ok (.aload_n 0, 1) := by decide +kernel
theorem dX4_takeOne_157 : decode cX4_takeOne 157 = .ok (.getfield 13, 3) := by decide +kernel
theorem dX4_takeOne_160 : decode cX4_takeOne 160 = .ok (.aload_n 0, 1) := by decide +kernel
theorem dX4_takeOne_161 : decode cX4_takeOne 161 = .ok (.getfield 41, 3) := by decide +kernel
theorem dX4_takeOne_164 : decode cX4_takeOne 164 = .ok (.iload_n 2, 1) := by decide +kernel
theorem dX4_takeOne_165 : decode cX4_takeOne 165 = .ok (.iaload, 1) := by decide +kernel
theorem dX4_takeOne_166 : decode cX4_takeOne 166 = .ok (.iaload, 1) := by decide +kernel
theorem dX4_takeOne_167 : decode cX4_takeOne 167 = .ok (.iastore, 1) := by decide +kernel
theorem dX4_takeOne_168 : decode cX4_takeOne 168 = .ok (.aload_n 0, 1) := by decide +kernel
theorem dX4_takeOne_169 : decode cX4_takeOne 169 = .ok (.dup, 1) := by decide +kernel
theorem dX4_takeOne_170 : decode cX4_takeOne 170 = .ok (.getfield 139, 3) := by decide +kernel
theorem dX4_takeOne_173 : decode cX4_takeOne 173 = .ok (.iconst 1, 1) := by decide +kernel
theorem dX4_takeOne_174 : decode cX4_takeOne 174 = .ok (.iadd, 1) := by decide +kernel
theorem dX4_takeOne_175 : decode cX4_takeOne 175 = .ok (.putfield 139, 3) := by decide +kernel
theorem dX4_takeOne_178 : decode cX4_takeOne 178 = .ok (.aload_n 0, 1) := by decide +kernel
theorem dX4_takeOne_179 : decode cX4_takeOne 179 = .ok (.getfield 54, 3) := by decide +kernel
theorem dX4_takeOne_182 : decode cX4_takeOne 182 = .ok (.iload_n 1, 1) := by decide +kernel
theorem dX4_takeOne_183 : decode cX4_takeOne 183 = .ok (.dup2, 1) := by decide +kernel
theorem dX4_takeOne_184 : decode cX4_takeOne 184 = .ok (.iaload, 1) := by decide +kernel
theorem dX4_takeOne_185 : decode cX4_takeOne 185 = .ok (.iconst 1, 1) := by decide +kernel
theorem dX4_takeOne_186 : decode cX4_takeOne 186 = .ok (.iadd, 1) := by decide +kernel
theorem dX4_takeOne_187 : decode cX4_takeOne 187 = .ok (.iastore, 1) := by decide +kernel
theorem dX4_takeOne_188 : decode cX4_takeOne 188 = .ok (.aload_n 0, 1) := by decide +kernel
theorem dX4_takeOne_189 : decode cX4_takeOne 189 = .ok (.dup, 1) := by decide +kernel
theorem dX4_takeOne_190 : decode cX4_takeOne 190 = .ok (.getfield 136, 3) := by decide +kernel
theorem dX4_takeOne_193 : decode cX4_takeOne 193 = .ok (.iconst 1, 1) := by decide +kernel
theorem dX4_takeOne_194 : decode cX4_takeOne 194 = .ok (.iadd, 1) := by decide +kernel
theorem dX4_takeOne_195 : decode cX4_takeOne 195 = .ok (.putfield 136, 3) := by decide +kernel
theorem dX4_takeOne_198 : decode cX4_takeOne 198 = .ok (.return_, 1) := by decide +kernel
set_option maxRecDepth 20000 in
theorem ggX4_keyAt_X4_slotOf : GoodIn wsX4_keyAt wsX4_slotOf := goodIn_r _ [7, 8, 9, 10, 11, 12, 13, 14, 15, 16, 17, 18, 19, 20, 21, 22, 23, 24, 25, 26, 27, 28, 29, 30, 31, 32, 33, 34, 35, 36, 37, 38, 39, 40, 41, 42, 43] (by decide +kernel) (by decide +kernel)
set_option maxRecDepth 20000 in
theorem gX4_keyAt_X4_slotOf : GoodIn wsX4_keyAt (wsV RX4 145 RX4 yX4_slotOf wsX4_slotOf) := goodIn_app (goodIn_of _ (by decide +kernel)) ggX4_keyAt_X4_slotOf
theorem dX4_keyAt_0 : decode cX4_keyAt 0 = .ok (.aload_n 0, 1) := by decide +kernel
theorem dX4_keyAt_1 : decode cX4_keyAt 1 = .ok (.getfield 41, 3) := by decide +kernel
theorem dX4_keyAt_4 : decode cX4_keyAt 4 = .ok (.bipush 100, 2) := by decide +kernel
theorem dX4_keyAt_6 : decode cX4_keyAt 6 = .ok (.aload_n 0, 1) := by decide +kernel
end
section
theorem dX4_keyAt_7 : decode cX4_keyAt 7 = .ok (.iload_n 1, 1) := by decide +kernel
theorem dX4_keyAt_8 : decode cX4_keyAt 8 = .ok (.invokevirtual 145, 3) := by decide +kernel
theorem dX4_keyAt_11 : decode cX4_keyAt 11 = .ok (.imul, 1) := by decide +kernel
theorem dX4_keyAt_12 : decode cX4_keyAt 12 = .ok (.aload_n 0, 1) := by decide +kernel
theorem dX4_keyAt_13 : decode cX4_keyAt 13 = .ok (.getfield 54, 3) := by decide +kernel
theorem dX4_keyAt_16 : decode cX4_keyAt 16 = .ok (.iload_n 1, 1) := by decide +kernel
theorem dX4_keyAt_17 : decode cX4_keyAt 17 = .ok (.iaload, 1) := by decide +kernel
theorem dX4_keyAt_18 : decode cX4_keyAt 18 = .ok (.iadd, 1) := by decide +kernel
theorem dX4_keyAt_19 : decode cX4_keyAt 19 = .ok (.iaload, 1) := by decide +kernel
theorem dX4_keyAt_20 : decode cX4_keyAt 20 = .ok (.ireturn, 1) := by decide +kernel
set_option maxRecDepth 20000 in
theorem ggX4_step_X4_in : GoodIn wsX4_step wsX4_in := goodIn_r _ [6] (by decide +kernel) (by decide +kernel)
set_option maxRecDepth 20000 in
theorem gX4_step_X4_in : GoodIn wsX4_step (va_wsS RX4 90 yX4_in wsX4_in) := goodIn_app (goodIn_of _ (by decide +kernel)) ggX4_step_X4_in
set_option maxRecDepth 20000 in
theorem ggX4_step_X4_left : GoodIn wsX4_step wsX4_left := goodIn_r _ [10, 2, 11, 12, 13, 14, 15, 5, 16, 17, 18, 61, 62, 63, 64, 65, 66, 67, 68, 69, 70, 71, 72, 73, 74, 75, 76, 77, 78, 79, 80, 81, 82, 83, 84, 85, 86, 87, 88, 89, 90, 91, 92, 93, 94] (by decide +kernel) (by decide +kernel)
set_option maxRecDepth 20000 in
theorem gX4_step_X4_left : GoodIn wsX4_step (wsV RX4 142 RX4 yX4_left wsX4_left) := goodIn_app (goodIn_of _ (by decide +kernel)) ggX4_step_X4_left
set_option maxRecDepth 20000 in
theorem ggX4_step_X4_takeOne : GoodIn wsX4_step wsX4_takeOne := goodIn_r _ [22, 2, 12, 11, 23, 24, 25, 26, 27, 28, 29, 30, 31, 32, 13, 14, 15, 5, 16, 17, 18, 33, 34, 35, 36, 61, 62, 63, 64, 65, 66, 67, 68, 69, 70, 71, 72, 73, 74, 75, 76, 77, 78, 79, 80, 81, 82, 83, 84, 85, 86, 87, 88, 89, 90, 91, 92, 93, 94] (by decide +kernel) (by decide +kernel)
set_option maxRecDepth 20000 in
theorem gX4_step_X4_takeOne : GoodIn wsX4_step (wsV RX4 151 RX4 yX4_takeOne wsX4_takeOne) := goodIn_app (goodIn_of _ (by decide +kernel)) ggX4_step_X4_takeOne
set_option maxRecDepth 20000 in
theorem ggX4_step_X4_end : GoodIn wsX4_step wsX4_end := goodIn_r _ [40, 2, 41, 42, 25, 43, 44, 45, 11, 46, 23, 47, 48, 18, 17, 49, 50, 26, 28, 31, 30, 13, 14, 15, 5, 16, 51, 52, 53, 54, 55, 56, 57, 58, 27, 29, 24, 59, 60, 61, 62, 63, 64, 65, 66, 67, 68, 69, 70, 71, 72, 73, 74, 75, 76, 77, 78, 79, 80, 81, 82, 83, 84, 85, 86, 87, 88, 89, 90, 91, 92, 93, 94] (by decide +kernel) (by decide +kernel)
set_option maxRecDepth 20000 in
theorem gX4_step_X4_end : GoodIn wsX4_step (wsV RX4 154 RX4 yX4_end wsX4_end) := goodIn_app (goodIn_of _ (by decide +kernel)) ggX4_step_X4_end
theorem dX4_step_0 : decode cX4_step 0 = .ok (.aload_n 0, 1) := by decide +kernel
theorem dX4_step_1 : decode cX4_step 1 = .ok (.iconst 0, 1) := by decide +kernel
theorem dX4_step_2 : decode cX4_step 2 = .ok (.putfield 84, 3) := by decide +kernel
theorem dX4_step_5 : decode cX4_step 5 = .ok (.iload_n 1, 1) := by decide +kernel
theorem dX4_step_6 : decode cX4_step 6 = .ok (.iconst 0, 1) := by decide +kernel
theorem dX4_step_7 : decode cX4_step 7 = .ok (.sipush 1000, 3) := by decide +kernel
theorem dX4_step_10 : decode cX4_step 10 = .ok (.invokestatic 90, 3) := by decide +kernel
theorem dX4_step_13 : decode cX4_step 13 = .ok (.ifCond .ne 6, 3) := by decide +kernel
theorem dX4_step_16 : decode cX4_step 16 = .ok (.bipush (-2), 2) := by decide +kernel
theorem dX4_step_18 : decode cX4_step 18 = .ok (.ireturn, 1) := by decide +kernel
theorem dX4_step_19 : decode cX4_step 19 = .ok (.aload_n 0, 1) := by decide +kernel
theorem dX4_step_20 : decode cX4_step 20 = .ok (.getfield 130, 3) := by decide +kernel
theorem dX4_step_23 : decode cX4_step 23 = .ok (.ifCond .ne 6, 3) := by decide +kernel
theorem dX4_step_26 : decode cX4_step 26 = .ok (.bipush (-3), 2) := by decide +kernel
theorem dX4_step_28 : decode cX4_step 28 = .ok (.ireturn, 1) := by decide +kernel
theorem dX4_step_29 : decode cX4_step 29 = .ok (.iconst 0, 1) := by decide +kernel
theorem dX4_step_30 : decode cX4_step 30 = .ok (.istore_n 2, 1) := by decide +kernel
theorem dX4_step_31 : decode cX4_step 31 = .ok (.iload_n 2, 1) := by decide +kernel
theorem dX4_step_32 : decode cX4_step 32 = .ok (.iload_n 1, 1) := by decide +kernel
theorem dX4_step_33 : decode cX4_step 33 = .ok (.if_icmp .ge 20, 3) := by decide +kernel
theorem dX4_step_36 : decode cX4_step 36 = .ok (.aload_n 0, 1) := by decide +kernel
theorem dX4_step_37 : decode cX4_step 37 = .ok (.invokevirtual 142, 3) := by decide +kernel
theorem dX4_step_40 : decode cX4_step 40 = .ok (.ifCond .le 13, 3) := by decide +kernel
theorem dX4_step_43 : decode cX4_step 43 = .ok (.aload_n 0, 1) := by decide +kernel
theorem dX4_step_44 : decode cX4_step 44 = .ok (.invokevirtual 151, 3) := by decide +kernel
theorem dX4_step_47 : decode cX4_step 47 = .ok (.iinc 2 1, 3) := by decide +kernel
theorem dX4_step_50 : decode cX4_step 50 = .ok (.goto (-19), 3) := by decide +kernel
theorem dX4_step_53 : decode cX4_step 53 = .ok (.aload_n 0, 1) := by decide +kernel
theorem dX4_step_54 : decode cX4_step 54 = .ok (.invokevirtual 142, 3) := by decide +kernel
theorem dX4_step_57 : decode cX4_step 57 = .ok (.ifCond .ne 7, 3) := by decide +kernel
theorem dX4_step_60 : decode cX4_step 60 = .ok (.aload_n 0, 1) := by decide +kernel
theorem dX4_step_61 : decode cX4_step 61 = .ok (.invokevirtual 154, 3) := by decide +kernel
theorem dX4_step_64 : decode cX4_step 64 = .ok (.iload_n 2, 1) := by decide +kernel
theorem dX4_step_65 : decode cX4_step 65 = .ok (.ireturn, 1) := by decide +kernel
set_option maxRecDepth 20000 in
theorem ggX4_end_X4_slotOf : GoodIn wsX4_end wsX4_slotOf := goodIn_r _ [25, 14, 13, 39, 40, 41, 42, 43, 44, 45, 46, 47, 48, 49, 50, 51, 52, 53, 54, 55, 56, 57, 58, 59, 60, 61, 62, 63, 64, 65, 66, 67, 68, 69, 70, 71, 72] (by decide +kernel) (by decide +kernel)
set_option maxRecDepth 20000 in
theorem gX4_end_X4_slotOf : GoodIn wsX4_end (wsV RX4 145 RX4 yX4_slotOf wsX4_slotOf) := goodIn_app (goodIn_of _ (by decide +kernel)) ggX4_end_X4_slotOf
set_option maxRecDepth 20000 in
theorem ggX4_end_X4_freeSlot : GoodIn wsX4_end wsX4_freeSlot := goodIn_r _ [29, 12, 8, 39, 40, 41, 42, 43, 44, 45, 46, 47, 48, 49, 50, 51, 52, 53, 54, 55, 56, 57, 58, 59, 60, 61, 62, 63, 64, 65, 66, 67, 68, 69, 70, 71, 72] (by decide +kernel) (by decide +kernel)
set_option maxRecDepth 20000 in
theorem gX4_end_X4_freeSlot : GoodIn wsX4_end (wsV RX4 105 RX4 yX4_freeSlot wsX4_freeSlot) := goodIn_app (goodIn_of _ (by decide +kernel)) ggX4_end_X4_freeSlot
set_option maxRecDepth 20000 in
theorem ggX4_end_X4_lay : GoodIn wsX4_end wsX4_lay := goodIn_r _ [33, 8, 34, 35, 36, 37, 38, 39, 40, 41, 42, 43, 44, 45, 46, 47, 48, 49, 50, 51, 52, 53, 54, 55, 56, 57, 58, 59, 60, 61, 62, 63, 64, 65, 66, 67, 68, 69, 70, 71, 72] (by decide +kernel) (by decide +kernel)
set_option maxRecDepth 20000 in
theorem gX4_end_X4_lay : GoodIn wsX4_end (wsV RX4 112 RX4 yX4_lay wsX4_lay) := goodIn_app (goodIn_of _ (by decide +kernel)) ggX4_end_X4_lay
theorem dX4_end_0 : decode cX4_end 0 = .ok (.aload_n 0, 1) := by decide +kernel
theorem dX4_end_1 : decode cX4_end 1 = .ok (.aload_n 0, 1) := by decide +kernel
theorem dX4_end_2 : decode cX4_end 2 = .ok (.getfield 130, 3) := by decide +kernel
theorem dX4_end_5 : decode cX4_end 5 = .ok (.putfield 157, 3) := by decide +kernel
theorem dX4_end_8 : decode cX4_end 8 = .ok (.aload_n 0, 1) := by decide +kernel
theorem dX4_end_9 : decode cX4_end 9 = .ok (.dup, 1) := by decide +kernel
theorem dX4_end_10 : decode cX4_end 10 = .ok (.getfield 116, 3) := by decide +kernel
theorem dX4_end_13 : decode cX4_end 13 = .ok (.aload_n 0, 1) := by decide +kernel
theorem dX4_end_14 : decode cX4_end 14 = .ok (.getfield 139, 3) := by decide +kernel
theorem dX4_end_17 : decode cX4_end 17 = .ok (.iadd, 1) := by decide +kernel
theorem dX4_end_18 : decode cX4_end 18 = .ok (.putfield 116, 3) := by decide +kernel
theorem dX4_end_21 : decode cX4_end 21 = .ok (.iconst 0, 1) := by decide +kernel
theorem dX4_end_22 : decode cX4_end 22 = .ok (.istore_n 1, 1) := by decide +kernel
theorem dX4_end_23 : decode cX4_end 23 = .ok (.iconst 0, 1) := by decide +kernel
theorem dX4_end_24 : decode cX4_end 24 = .ok (.istore_n 2, 1) := by decide +kernel
theorem dX4_end_25 : decode cX4_end 25 = .ok (.iload_n 2, 1) := by decide +kernel
theorem dX4_end_26 : decode cX4_end 26 = .ok (.aload_n 0, 1) := by decide +kernel
theorem dX4_end_27 : decode cX4_end 27 = .ok (.getfield 130, 3) := by decide +kernel
theorem dX4_end_30 : decode cX4_end 30 = .ok (.if_icmp .ge 111, 3) := by decide +kernel
theorem dX4_end_33 : decode cX4_end 33 = .ok (.aload_n 0, 1) := by decide +kernel
theorem dX4_end_34 : decode cX4_end 34 = .ok (.iload_n 2, 1) := by decide +kernel
theorem dX4_end_35 : decode cX4_end 35 = .ok (.invokevirtual 145, 3) := by decide +kernel
theorem dX4_end_38 : decode cX4_end 38 = .ok (.istore_n 3, 1) := by decide +kernel
theorem dX4_end_39 : decode cX4_end 39 = .ok (.aload_n 0, 1) := by decide +kernel
theorem dX4_end_40 : decode cX4_end 40 = .ok (.getfield 69, 3) := by decide +kernel
theorem dX4_end_43 : decode cX4_end 43 = .ok (.iload_n 2, 1) := by decide +kernel
theorem dX4_end_44 : decode cX4_end 44 = .ok (.aload_n 0, 1) := by decide +kernel
theorem dX4_end_45 : decode cX4_end 45 = .ok (.getfield 32, 3) := by decide +kernel
theorem dX4_end_48 : decode cX4_end 48 = .ok (.iload_n 3, 1) := by decide +kernel
theorem dX4_end_49 : decode cX4_end 49 = .ok (.iaload, 1) := by decide +kernel
theorem dX4_end_50 : decode cX4_end 50 = .ok (.iastore, 1) := by decide +kernel
theorem dX4_end_51 : decode cX4_end 51 = .ok (.aload_n 0, 1) := by decide +kernel
theorem dX4_end_52 : decode cX4_end 52 = .ok (.getfield 72, 3) := by decide +kernel
theorem dX4_end_55 : decode cX4_end 55 = .ok (.iload_n 2, 1) := by decide +kernel
theorem dX4_end_56 : decode cX4_end 56 = .ok (.aload_n 0, 1) := by decide +kernel
theorem dX4_end_57 : decode cX4_end 57 = .ok (.getfield 38, 3) := by decide +kernel
theorem dX4_end_60 : decode cX4_end 60 = .ok (.iload_n 3, 1) := by decide +kernel
theorem dX4_end_61 : decode cX4_end 61 = .ok (.iaload, 1) := by decide +kernel
theorem dX4_end_62 : decode cX4_end 62 = .ok (.iastore, 1) := by decide +kernel
theorem dX4_end_63 : decode cX4_end 63 = .ok (.iconst 0, 1) := by decide +kernel
theorem dX4_end_64 : decode cX4_end 64 = .ok (.istore 4, 2) := by decide +kernel
theorem dX4_end_66 : decode cX4_end 66 = .ok (.iload 4, 2) := by decide +kernel
theorem dX4_end_68 : decode cX4_end 68 = .ok (.aload_n 0, 1) := by decide +kernel
theorem dX4_end_69 : decode cX4_end 69 = .ok (.getfield 38, 3) := by decide +kernel
theorem dX4_end_72 : decode cX4_end 72 = .ok (.iload_n 3, 1) := by decide +kernel
theorem dX4_end_73 : decode cX4_end 73 = .ok (.iaload, 1) := by decide +kernel
theorem dX4_end_74 : decode cX4_end 74 = .ok (.if_icmp .ge 33, 3) := by decide +kernel
theorem dX4_end_77 : decode cX4_end 77 = .ok (.aload_n 0, 1) := by decide +kernel
theorem dX4_end_78 : decode cX4_end 78 = .ok (.getfield 75, 3) := by decide +kernel
theorem dX4_end_81 : decode cX4_end 81 = .ok (.bipush 100, 2) := by decide +kernel
theorem dX4_end_83 : decode cX4_end 83 = .ok (.iload_n 2, 1) := by decide +kernel
theorem dX4_end_84 : decode cX4_end 84 = .ok (.imul, 1) := by decide +kernel
theorem dX4_end_85 : decode cX4_end 85 = .ok (.iload 4, 2) := by decide +kernel
theorem dX4_end_87 : decode cX4_end 87 = .ok (.iadd, 1) := by decide +kernel
theorem dX4_end_88 : decode cX4_end 88 = .ok (.aload_n 0, 1) := by decide +kernel
theorem dX4_end_89 : decode cX4_end 89 = .ok (.getfield 66, 3) := by decide +kernel
theorem dX4_end_92 : decode cX4_end 92 = .ok (.bipush 100, 2) := by decide +kernel
theorem dX4_end_94 : decode cX4_end 94 = .ok (.iload_n 2, 1) := by decide +kernel
theorem dX4_end_95 : decode cX4_end 95 = .ok (.imul, 1) := by decide +kernel
theorem dX4_end_96 : decode cX4_end 96 = .ok (.iload 4, 2) := by decide +kernel
theorem dX4_end_98 : decode cX4_end 98 = .ok (.iadd, 1) := by decide +kernel
theorem dX4_end_99 : decode cX4_end 99 = .ok (.iaload, 1) := by decide +kernel
theorem dX4_end_100 : decode cX4_end 100 = .ok (.iastore, 1) := by decide +kernel
theorem dX4_end_101 : decode cX4_end 101 = .ok (.iinc 4 1, 3) := by decide +kernel
theorem dX4_end_104 : decode cX4_end 104 = .ok (.goto (-38), 3) := by decide +kernel
theorem dX4_end_107 : decode cX4_end 107 = .ok (.aload_n 0, 1) := by decide +kernel
theorem dX4_end_108 : decode cX4_end 108 = .ok (.getfield 35, 3) := by decide +kernel
theorem dX4_end_111 : decode cX4_end 111 = .ok (.iload_n 3, 1) := by decide +kernel
theorem dX4_end_112 : decode cX4_end 112 = .ok (.iaload, 1) := by decide +kernel
theorem dX4_end_113 : decode cX4_end 113 = .ok (.iload_n 1, 1) := by decide +kernel
theorem dX4_end_114 : decode cX4_end 114 = .ok (.if_icmp .le 12, 3) := by decide +kernel
theorem dX4_end_117 : decode cX4_end 117 = .ok (.aload_n 0, 1) := by decide +kernel
theorem dX4_end_118 : decode cX4_end 118 = .ok (.getfield 35, 3) := by decide +kernel
theorem dX4_end_121 : decode cX4_end 121 = .ok (.iload_n 3, 1) := by decide +kernel
theorem dX4_end_122 : decode cX4_end 122 = .ok (.iaload, 1) := by decide +kernel
theorem dX4_end_123 : decode cX4_end 123 = .ok (.goto 4, 3) := by decide +kernel
theorem dX4_end_126 : decode cX4_end 126 = .ok (.iload_n 1, 1) := by decide +kernel
theorem dX4_end_127 : decode cX4_end 127 = .ok (.istore_n 1, 1) := by decide +kernel
theorem dX4_end_128 : decode cX4_end 128 = .ok (.aload_n 0, 1) := by decide +kernel
theorem dX4_end_129 : decode cX4_end 129 = .ok (.getfield 28, 3) := by decide +kernel
theorem dX4_end_132 : decode cX4_end 132 = .ok (.iload_n 3, 1) := by decide +kernel
theorem dX4_end_133 : decode cX4_end 133 = .ok (.iconst 0, 1) := by decide +kernel
theorem dX4_end_134 : decode cX4_end 134 = .ok (.bastore, 1) := by decide +kernel
theorem dX4_end_135 : decode cX4_end 135 = .ok (.iinc 2 1, 3) := by decide +kernel
theorem dX4_end_138 : decode cX4_end 138 = .ok (.goto (-113), 3) := by decide +kernel
theorem dX4_end_141 : decode cX4_end 141 = .ok (.aload_n 0, 1) := by decide +kernel
theorem dX4_end_142 : decode cX4_end 142 = .ok (.getfield 139, 3) := by decide +kernel
theorem dX4_end_145 : decode cX4_end 145 = .ok (.ifCond .le 7, 3) := by decide +kernel
theorem dX4_end_148 : decode cX4_end 148 = .ok (.iconst 1, 1) := by decide +kernel
theorem dX4_end_149 : decode cX4_end 149 = .ok (.goto 4, 3) := by decide +kernel
theorem dX4_end_152 : decode cX4_end 152 = .ok (.iconst 0, 1) := by decide +kernel
theorem dX4_end_153 : decode cX4_end 153 = .ok (.istore_n 2, 1) := by decide +kernel
theorem dX4_end_154 : decode cX4_end 154 = .ok (.aload_n 0, 1) := by decide +kernel
theorem dX4_end_155 : decode cX4_end 155 = .ok (.getfield 130, 3) := by decide +kernel
theorem dX4_end_158 : decode cX4_end 158 = .ok (.iload_n 2, 1) := by decide +kernel
theorem dX4_end_159 : decode cX4_end 159 = .ok (.isub, 1) := by decide +kernel
theorem dX4_end_160 : decode cX4_end 160 = .ok (.istore_n 3, 1) := by decide +kernel
theorem dX4_end_161 : decode cX4_end 161 = .ok (.aload_n 0, 1) := by decide +kernel
theorem dX4_end_162 : decode cX4_end 162 = .ok (.getfield 133, 3) := by decide +kernel
theorem dX4_end_165 : decode cX4_end 165 = .ok (.aload_n 0, 1) := by decide +kernel
theorem dX4_end_166 : decode cX4_end 166 = .ok (.getfield 130, 3) := by decide +kernel
theorem dX4_end_169 : decode cX4_end 169 = .ok (.iadd, 1) := by decide +kernel
theorem dX4_end_170 : decode cX4_end 170 = .ok (.istore 4, 2) := by decide +kernel
theorem dX4_end_172 : decode cX4_end 172 = .ok (.iload_n 2, 1) := by decide +kernel
theorem dX4_end_173 : decode cX4_end 173 = .ok (.iconst 1, 1) := by decide +kernel
theorem dX4_end_174 : decode cX4_end 174 = .ok (.if_icmp .ne 10, 3) := by decide +kernel
theorem dX4_end_177 : decode cX4_end 177 = .ok (.aload_n 0, 1) := by decide +kernel
theorem dX4_end_178 : decode cX4_end 178 = .ok (.invokevirtual 105, 3) := by decide +kernel
theorem dX4_end_181 : decode cX4_end 181 = .ok (.goto 4, 3) := by decide +kernel
theorem dX4_end_184 : decode cX4_end 184 = .ok (.iconst 0, 1) := by decide +kernel
theorem dX4_end_185 : decode cX4_end 185 = .ok (.istore 5, 2) := by decide +kernel
theorem dX4_end_187 : decode cX4_end 187 = .ok (.aload_n 0, 1) := by decide +kernel
theorem dX4_end_188 : decode cX4_end 188 = .ok (.getfield 25, 3) := by decide +kernel
theorem dX4_end_191 : decode cX4_end 191 = .ok (.aload_n 0, 1) := by decide +kernel
theorem dX4_end_192 : decode cX4_end 192 = .ok (.getfield 133, 3) := by decide +kernel
theorem dX4_end_195 : decode cX4_end 195 = .ok (.iload_n 2, 1) := by decide +kernel
theorem dX4_end_196 : decode cX4_end 196 = .ok (.iconst 1, 1) := by decide +kernel
theorem dX4_end_197 : decode cX4_end 197 = .ok (.if_icmp .ne 8, 3) := by decide +kernel
theorem dX4_end_200 : decode cX4_end 200 = .ok (.iload 5, 2) := by decide +kernel
theorem dX4_end_202 : decode cX4_end 202 = .ok (.goto 12, 3) := by decide +kernel
theorem dX4_end_205 : decode cX4_end 205 = .ok (.aload_n 0, 1) := by decide +kernel
theorem dX4_end_206 : decode cX4_end 206 = .ok (.getfield 25, 3) := by decide +kernel
theorem dX4_end_209 : decode cX4_end 209 = .ok (.aload_n 0, 1) := by decide +kernel
theorem dX4_end_210 : decode cX4_end 210 = .ok (.getfield 133, 3) := by decide +kernel
theorem dX4_end_213 : decode cX4_end 213 = .ok (.iaload, 1) := by decide +kernel
theorem dX4_end_214 : decode cX4_end 214 = .ok (.iastore, 1) := by decide +kernel
theorem dX4_end_215 : decode cX4_end 215 = .ok (.iload 4, 2) := by decide +kernel
theorem dX4_end_217 : decode cX4_end 217 = .ok (.istore 6, 2) := by decide +kernel
theorem dX4_end_219 : decode cX4_end 219 = .ok (.iload 6, 2) := by decide +kernel
theorem dX4_end_221 : decode cX4_end 221 = .ok (.aload_n 0, 1) := by decide +kernel
theorem dX4_end_222 : decode cX4_end 222 = .ok (.getfield 102, 3) := by decide +kernel
theorem dX4_end_225 : decode cX4_end 225 = .ok (.if_icmp .ge 25, 3) := by decide +kernel
theorem dX4_end_228 : decode cX4_end 228 = .ok (.aload_n 0, 1) := by decide +kernel
theorem dX4_end_229 : decode cX4_end 229 = .ok (.getfield 25, 3) := by decide +kernel
theorem dX4_end_232 : decode cX4_end 232 = .ok (.iload 6, 2) := by decide +kernel
theorem dX4_end_234 : decode cX4_end 234 = .ok (.iload_n 3, 1) := by decide +kernel
theorem dX4_end_235 : decode cX4_end 235 = .ok (.isub, 1) := by decide +kernel
theorem dX4_end_236 : decode cX4_end 236 = .ok (.aload_n 0, 1) := by decide +kernel
theorem dX4_end_237 : decode cX4_end 237 = .ok (.getfield 25, 3) := by decide +kernel
theorem dX4_end_240 : decode cX4_end 240 = .ok (.iload 6, 2) := by decide +kernel
theorem dX4_end_242 : decode cX4_end 242 = .ok (.iaload, 1) := by decide +kernel
theorem dX4_end_243 : decode cX4_end 243 = .ok (.iastore, 1) := by decide +kernel
theorem dX4_end_244 : decode cX4_end 244 = .ok (.iinc 6 1, 3) := by decide +kernel
theorem dX4_end_247 : decode cX4_end 247 = .ok (.goto (-28), 3) := by decide +kernel
theorem dX4_end_250 : decode cX4_end 250 = .ok (.aload_n 0, 1) := by decide +kernel
theorem dX4_end_251 : decode cX4_end 251 = .ok (.dup, 1) := by decide +kernel
theorem dX4_end_252 : decode cX4_end 252 = .ok (.getfield 102, 3) := by decide +kernel
theorem dX4_end_255 : decode cX4_end 255 = .ok (.iload_n 3, 1) := by decide +kernel
theorem dX4_end_256 : decode cX4_end 256 = .ok (.isub, 1) := by decide +kernel
theorem dX4_end_257 : decode cX4_end 257 = .ok (.putfield 102, 3) := by decide +kernel
theorem dX4_end_260 : decode cX4_end 260 = .ok (.iload_n 2, 1) := by decide +kernel
theorem dX4_end_261 : decode cX4_end 261 = .ok (.iconst 1, 1) := by decide +kernel
theorem dX4_end_262 : decode cX4_end 262 = .ok (.if_icmp .ne 99, 3) := by decide +kernel
theorem dX4_end_265 : decode cX4_end 265 = .ok (.aload_n 0, 1) := by decide +kernel
theorem dX4_end_266 : decode cX4_end 266 = .ok (.getfield 35, 3) := by decide +kernel
theorem dX4_end_269 : decode cX4_end 269 = .ok (.iload 5, 2) := by decide +kernel
theorem dX4_end_271 : decode cX4_end 271 = .ok (.iload_n 1, 1) := by decide +kernel
theorem dX4_end_272 : decode cX4_end 272 = .ok (.iconst 1, 1) := by decide +kernel
theorem dX4_end_273 : decode cX4_end 273 = .ok (.iadd, 1) := by decide +kernel
theorem dX4_end_274 : decode cX4_end 274 = .ok (.iastore, 1) := by decide +kernel
theorem dX4_end_275 : decode cX4_end 275 = .ok (.aload_n 0, 1) := by decide +kernel
theorem dX4_end_276 : decode cX4_end 276 = .ok (.getfield 32, 3) := by decide +kernel
theorem dX4_end_279 : decode cX4_end 279 = .ok (.iload 5, 2) := by decide +kernel
theorem dX4_end_281 : decode cX4_end 281 = .ok (.aload_n 0, 1) := by decide +kernel
theorem dX4_end_282 : decode cX4_end 282 = .ok (.getfield 109, 3) := by decide +kernel
theorem dX4_end_285 : decode cX4_end 285 = .ok (.iastore, 1) := by decide +kernel
theorem dX4_end_286 : decode cX4_end 286 = .ok (.aload_n 0, 1) := by decide +kernel
theorem dX4_end_287 : decode cX4_end 287 = .ok (.dup, 1) := by decide +kernel
theorem dX4_end_288 : decode cX4_end 288 = .ok (.getfield 109, 3) := by decide +kernel
theorem dX4_end_291 : decode cX4_end 291 = .ok (.iconst 1, 1) := by decide +kernel
theorem dX4_end_292 : decode cX4_end 292 = .ok (.iadd, 1) := by decide +kernel
theorem dX4_end_293 : decode cX4_end 293 = .ok (.putfield 109, 3) := by decide +kernel
theorem dX4_end_296 : decode cX4_end 296 = .ok (.iconst 0, 1) := by decide +kernel
theorem dX4_end_297 : decode cX4_end 297 = .ok (.istore 6, 2) := by decide +kernel
theorem dX4_end_299 : decode cX4_end 299 = .ok (.iload 6, 2) := by decide +kernel
theorem dX4_end_301 : decode cX4_end 301 = .ok (.aload_n 0, 1) := by decide +kernel
theorem dX4_end_302 : decode cX4_end 302 = .ok (.getfield 139, 3) := by decide +kernel
theorem dX4_end_305 : decode cX4_end 305 = .ok (.if_icmp .ge 56, 3) := by decide +kernel
theorem dX4_end_308 : decode cX4_end 308 = .ok (.aload_n 0, 1) := by decide +kernel
theorem dX4_end_309 : decode cX4_end 309 = .ok (.iload 5, 2) := by decide +kernel
theorem dX4_end_311 : decode cX4_end 311 = .ok (.aload_n 0, 1) := by decide +kernel
theorem dX4_end_312 : decode cX4_end 312 = .ok (.getfield 57, 3) := by decide +kernel
theorem dX4_end_315 : decode cX4_end 315 = .ok (.iload 6, 2) := by decide +kernel
theorem dX4_end_317 : decode cX4_end 317 = .ok (.iaload, 1) := by decide +kernel
theorem dX4_end_318 : decode cX4_end 318 = .ok (.aload_n 0, 1) := by decide +kernel
theorem dX4_end_319 : decode cX4_end 319 = .ok (.getfield 60, 3) := by decide +kernel
theorem dX4_end_322 : decode cX4_end 322 = .ok (.iload 6, 2) := by decide +kernel
theorem dX4_end_324 : decode cX4_end 324 = .ok (.iaload, 1) := by decide +kernel
theorem dX4_end_325 : decode cX4_end 325 = .ok (.aload_n 0, 1) := by decide +kernel
theorem dX4_end_326 : decode cX4_end 326 = .ok (.getfield 13, 3) := by decide +kernel
theorem dX4_end_329 : decode cX4_end 329 = .ok (.aload_n 0, 1) := by decide +kernel
theorem dX4_end_330 : decode cX4_end 330 = .ok (.getfield 57, 3) := by decide +kernel
theorem dX4_end_333 : decode cX4_end 333 = .ok (.iload 6, 2) := by decide +kernel
theorem dX4_end_335 : decode cX4_end 335 = .ok (.iaload, 1) := by decide +kernel
theorem dX4_end_336 : decode cX4_end 336 = .ok (.iaload, 1) := by decide +kernel
theorem dX4_end_337 : decode cX4_end 337 = .ok (.aload_n 0, 1) := by decide +kernel
theorem dX4_end_338 : decode cX4_end 338 = .ok (.getfield 63, 3) := by decide +kernel
theorem dX4_end_341 : decode cX4_end 341 = .ok (.iload 6, 2) := by decide +kernel
theorem dX4_end_343 : decode cX4_end 343 = .ok (.iaload, 1) := by decide +kernel
theorem dX4_end_344 : decode cX4_end 344 = .ok (.if_icmp .ne 7, 3) := by decide +kernel
theorem dX4_end_347 : decode cX4_end 347 = .ok (.iconst 1, 1) := by decide +kernel
theorem dX4_end_348 : decode cX4_end 348 = .ok (.goto 4, 3) := by decide +kernel
theorem dX4_end_351 : decode cX4_end 351 = .ok (.iconst 0, 1) := by decide +kernel
theorem dX4_end_352 : decode cX4_end 352 = .ok (.invokevirtual 112, 3) := by decide +kernel
theorem dX4_end_355 : decode cX4_end 355 = .ok (.iinc 6 1, 3) := by decide +kernel
theorem dX4_end_358 : decode cX4_end 358 = .ok (.goto (-59), 3) := by decide +kernel
theorem dX4_end_361 : decode cX4_end 361 = .ok (.aload_n 0, 1) := by decide +kernel
theorem dX4_end_362 : decode cX4_end 362 = .ok (.iconst 0, 1) := by decide +kernel
theorem dX4_end_363 : decode cX4_end 363 = .ok (.putfield 130, 3) := by decide +kernel
theorem dX4_end_366 : decode cX4_end 366 = .ok (.return_, 1) := by decide +kernel
theorem dX4_stop_0 : decode cX4_stop 0 = .ok (.aload_n 0, 1) := by decide +kernel
theorem dX4_stop_1 : decode cX4_stop 1 = .ok (.iconst 0, 1) := by decide +kernel
theorem dX4_stop_2 : decode cX4_stop 2 = .ok (.putfield 84, 3) := by decide +kernel
theorem dX4_stop_5 : decode cX4_stop 5 = .ok (.aload_n 0, 1) := by decide +kernel
theorem dX4_stop_6 : decode cX4_stop 6 = .ok (.getfield 130, 3) := by decide +kernel
theorem dX4_stop_9 : decode cX4_stop 9 = .ok (.ifCond .ne 6, 3) := by decide +kernel
theorem dX4_stop_12 : decode cX4_stop 12 = .ok (.bipush (-3), 2) := by decide +kernel
theorem dX4_stop_14 : decode cX4_stop 14 = .ok (.ireturn, 1) := by decide +kernel
theorem dX4_stop_15 : decode cX4_stop 15 = .ok (.aload_n 0, 1) := by decide +kernel
theorem dX4_stop_16 : decode cX4_stop 16 = .ok (.iconst 0, 1) := by decide +kernel
theorem dX4_stop_17 : decode cX4_stop 17 = .ok (.putfield 130, 3) := by decide +kernel
theorem dX4_stop_20 : decode cX4_stop 20 = .ok (.aload_n 0, 1) := by decide +kernel
theorem dX4_stop_21 : decode cX4_stop 21 = .ok (.dup, 1) := by decide +kernel
theorem dX4_stop_22 : decode cX4_stop 22 = .ok (.getfield 116, 3) := by decide +kernel
theorem dX4_stop_25 : decode cX4_stop 25 = .ok (.aload_n 0, 1) := by decide +kernel
theorem dX4_stop_26 : decode cX4_stop 26 = .ok (.getfield 139, 3) := by decide +kernel
theorem dX4_stop_29 : decode cX4_stop 29 = .ok (.iadd, 1) := by decide +kernel
theorem dX4_stop_30 : decode cX4_stop 30 = .ok (.putfield 116, 3) := by decide +kernel
theorem dX4_stop_33 : decode cX4_stop 33 = .ok (.aload_n 0, 1) := by decide +kernel
theorem dX4_stop_34 : decode cX4_stop 34 = .ok (.getfield 136, 3) := by decide +kernel
theorem dX4_stop_37 : decode cX4_stop 37 = .ok (.ireturn, 1) := by decide +kernel
set_option maxRecDepth 20000 in
theorem ggX4_merging_X4_in : GoodIn wsX4_merging wsX4_in := goodIn_r _ [9] (by decide +kernel) (by decide +kernel)
set_option maxRecDepth 20000 in
theorem gX4_merging_X4_in : GoodIn wsX4_merging (va_wsS RX4 90 yX4_in wsX4_in) := goodIn_app (goodIn_of _ (by decide +kernel)) ggX4_merging_X4_in
set_option maxRecDepth 20000 in
theorem ggX4_merging_X4_left : GoodIn wsX4_merging wsX4_left := goodIn_r _ [13, 2, 14, 15, 16, 17, 18, 8, 19, 20, 5, 21, 22, 23, 24, 25, 26, 27, 28, 29, 30, 31, 32, 33, 34, 35, 36, 37, 38, 39, 40, 41, 42, 43, 44, 45, 46, 47, 48, 49, 50, 51, 52, 53, 54] (by decide +kernel) (by decide +kernel)
set_option maxRecDepth 20000 in
theorem gX4_merging_X4_left : GoodIn wsX4_merging (wsV RX4 142 RX4 yX4_left wsX4_left) := goodIn_app (goodIn_of _ (by decide +kernel)) ggX4_merging_X4_left
theorem dX4_merging_0 : decode cX4_merging 0 = .ok (.aload_n 0, 1) := by decide +kernel
theorem dX4_merging_1 : decode cX4_merging 1 = .ok (.iconst 0, 1) := by decide +kernel
theorem dX4_merging_2 : decode cX4_merging 2 = .ok (.putfield 84, 3) := by decide +kernel
theorem dX4_merging_5 : decode cX4_merging 5 = .ok (.iload_n 1, 1) := by decide +kernel
theorem dX4_merging_6 : decode cX4_merging 6 = .ok (.iconst 0, 1) := by decide +kernel
theorem dX4_merging_7 : decode cX4_merging 7 = .ok (.iconst 3, 1) := by decide +kernel
theorem dX4_merging_8 : decode cX4_merging 8 = .ok (.invokestatic 90, 3) := by decide +kernel
theorem dX4_merging_11 : decode cX4_merging 11 = .ok (.ifCond .ne 6, 3) := by decide +kernel
theorem dX4_merging_14 : decode cX4_merging 14 = .ok (.bipush (-2), 2) := by decide +kernel
theorem dX4_merging_16 : decode cX4_merging 16 = .ok (.ireturn, 1) := by decide +kernel
theorem dX4_merging_17 : decode cX4_merging 17 = .ok (.aload_n 0, 1) := by decide +kernel
theorem dX4_merging_18 : decode cX4_merging 18 = .ok (.getfield 130, 3) := by decide +kernel
theorem dX4_merging_21 : decode cX4_merging 21 = .ok (.ifCond .ne 8, 3) := by decide +kernel
theorem dX4_merging_24 : decode cX4_merging 24 = .ok (.bipush (-3), 2) := by decide +kernel
theorem dX4_merging_26 : decode cX4_merging 26 = .ok (.goto 42, 3) := by decide +kernel
theorem dX4_merging_29 : decode cX4_merging 29 = .ok (.iload_n 1, 1) := by decide +kernel
theorem dX4_merging_30 : decode cX4_merging 30 = .ok (.ifCond .ne 10, 3) := by decide +kernel
theorem dX4_merging_33 : decode cX4_merging 33 = .ok (.aload_n 0, 1) := by decide +kernel
theorem dX4_merging_34 : decode cX4_merging 34 = .ok (.getfield 136, 3) := by decide +kernel
theorem dX4_merging_37 : decode cX4_merging 37 = .ok (.goto 31, 3) := by decide +kernel
theorem dX4_merging_40 : decode cX4_merging 40 = .ok (.iload_n 1, 1) := by decide +kernel
theorem dX4_merging_41 : decode cX4_merging 41 = .ok (.iconst 1, 1) := by decide +kernel
theorem dX4_merging_42 : decode cX4_merging 42 = .ok (.if_icmp .ne 10, 3) := by decide +kernel
theorem dX4_merging_45 : decode cX4_merging 45 = .ok (.aload_n 0, 1) := by decide +kernel
theorem dX4_merging_46 : decode cX4_merging 46 = .ok (.getfield 139, 3) := by decide +kernel
theorem dX4_merging_49 : decode cX4_merging 49 = .ok (.goto 19, 3) := by decide +kernel
theorem dX4_merging_52 : decode cX4_merging 52 = .ok (.iload_n 1, 1) := by decide +kernel
theorem dX4_merging_53 : decode cX4_merging 53 = .ok (.iconst 2, 1) := by decide +kernel
theorem dX4_merging_54 : decode cX4_merging 54 = .ok (.if_icmp .ne 10, 3) := by decide +kernel
theorem dX4_merging_57 : decode cX4_merging 57 = .ok (.aload_n 0, 1) := by decide +kernel
theorem dX4_merging_58 : decode cX4_merging 58 = .ok (.invokevirtual 142, 3) := by decide +kernel
theorem dX4_merging_61 : decode cX4_merging 61 = .ok (.goto 7, 3) := by decide +kernel
theorem dX4_merging_64 : decode cX4_merging 64 = .ok (.aload_n 0, 1) := by decide +kernel
theorem dX4_merging_65 : decode cX4_merging 65 = .ok (.getfield 133, 3) := by decide +kernel
theorem dX4_merging_68 : decode cX4_merging 68 = .ok (.ireturn, 1) := by decide +kernel
set_option maxRecDepth 20000 in
theorem ggX4_moved_X4_in : GoodIn wsX4_moved wsX4_in := goodIn_r _ [9] (by decide +kernel) (by decide +kernel)
set_option maxRecDepth 20000 in
theorem gX4_moved_X4_in : GoodIn wsX4_moved (va_wsS RX4 90 yX4_in wsX4_in) := goodIn_app (goodIn_of _ (by decide +kernel)) ggX4_moved_X4_in
theorem dX4_moved_0 : decode cX4_moved 0 = .ok (.aload_n 0, 1) := by decide +kernel
theorem dX4_moved_1 : decode cX4_moved 1 = .ok (.iconst 0, 1) := by decide +kernel
theorem dX4_moved_2 : decode cX4_moved 2 = .ok (.putfield 84, 3) := by decide +kernel
theorem dX4_moved_5 : decode cX4_moved 5 = .ok (.iconst 0, 1) := by decide +kernel
theorem dX4_moved_6 : decode cX4_moved 6 = .ok (.istore_n 3, 1) := by decide +kernel
theorem dX4_moved_7 : decode cX4_moved 7 = .ok (.iload_n 3, 1) := by decide +kernel
theorem dX4_moved_8 : decode cX4_moved 8 = .ok (.aload_n 0, 1) := by decide +kernel
theorem dX4_moved_9 : decode cX4_moved 9 = .ok (.getfield 157, 3) := by decide +kernel
theorem dX4_moved_12 : decode cX4_moved 12 = .ok (.if_icmp .ge 66, 3) := by decide +kernel
theorem dX4_moved_15 : decode cX4_moved 15 = .ok (.aload_n 0, 1) := by decide +kernel
theorem dX4_moved_16 : decode cX4_moved 16 = .ok (.getfield 69, 3) := by decide +kernel
theorem dX4_moved_19 : decode cX4_moved 19 = .ok (.iload_n 3, 1) := by decide +kernel
theorem dX4_moved_20 : decode cX4_moved 20 = .ok (.iaload, 1) := by decide +kernel
theorem dX4_moved_21 : decode cX4_moved 21 = .ok (.iload_n 1, 1) := by decide +kernel
theorem dX4_moved_22 : decode cX4_moved 22 = .ok (.if_icmp .ne 50, 3) := by decide +kernel
theorem dX4_moved_25 : decode cX4_moved 25 = .ok (.iload_n 2, 1) := by decide +kernel
theorem dX4_moved_26 : decode cX4_moved 26 = .ok (.iconst 0, 1) := by decide +kernel
theorem dX4_moved_27 : decode cX4_moved 27 = .ok (.aload_n 0, 1) := by decide +kernel
theorem dX4_moved_28 : decode cX4_moved 28 = .ok (.getfield 72, 3) := by decide +kernel
theorem dX4_moved_31 : decode cX4_moved 31 = .ok (.iload_n 3, 1) := by decide +kernel
end
section
theorem dX4_moved_32 : decode cX4_moved 32 = .ok (.iaload, 1) := by decide +kernel
theorem dX4_moved_33 : decode cX4_moved 33 = .ok (.iconst 1, 1) := by decide +kernel
theorem dX4_moved_34 : decode cX4_moved 34 = .ok (.isub, 1) := by decide +kernel
theorem dX4_moved_35 : decode cX4_moved 35 = .ok (.invokestatic 90, 3) := by decide +kernel
theorem dX4_moved_38 : decode cX4_moved 38 = .ok (.ifCond .eq 34, 3) := by decide +kernel
theorem dX4_moved_41 : decode cX4_moved 41 = .ok (.aload_n 0, 1) := by decide +kernel
theorem dX4_moved_42 : decode cX4_moved 42 = .ok (.getfield 75, 3) := by decide +kernel
theorem dX4_moved_45 : decode cX4_moved 45 = .ok (.bipush 100, 2) := by decide +kernel
theorem dX4_moved_47 : decode cX4_moved 47 = .ok (.iload_n 3, 1) := by decide +kernel
theorem dX4_moved_48 : decode cX4_moved 48 = .ok (.imul, 1) := by decide +kernel
theorem dX4_moved_49 : decode cX4_moved 49 = .ok (.iload_n 2, 1) := by decide +kernel
theorem dX4_moved_50 : decode cX4_moved 50 = .ok (.iadd, 1) := by decide +kernel
theorem dX4_moved_51 : decode cX4_moved 51 = .ok (.iaload, 1) := by decide +kernel
theorem dX4_moved_52 : decode cX4_moved 52 = .ok (.ifCond .ge 8, 3) := by decide +kernel
theorem dX4_moved_55 : decode cX4_moved 55 = .ok (.bipush (-3), 2) := by decide +kernel
theorem dX4_moved_57 : decode cX4_moved 57 = .ok (.goto 14, 3) := by decide +kernel
theorem dX4_moved_60 : decode cX4_moved 60 = .ok (.aload_n 0, 1) := by decide +kernel
theorem dX4_moved_61 : decode cX4_moved 61 = .ok (.getfield 75, 3) := by decide +kernel
theorem dX4_moved_64 : decode cX4_moved 64 = .ok (.bipush 100, 2) := by decide +kernel
theorem dX4_moved_66 : decode cX4_moved 66 = .ok (.iload_n 3, 1) := by decide +kernel
theorem dX4_moved_67 : decode cX4_moved 67 = .ok (.imul, 1) := by decide +kernel
theorem dX4_moved_68 : decode cX4_moved 68 = .ok (.iload_n 2, 1) := by decide +kernel
theorem dX4_moved_69 : decode cX4_moved 69 = .ok (.iadd, 1) := by decide +kernel
theorem dX4_moved_70 : decode cX4_moved 70 = .ok (.iaload, 1) := by decide +kernel
theorem dX4_moved_71 : decode cX4_moved 71 = .ok (.ireturn, 1) := by decide +kernel
theorem dX4_moved_72 : decode cX4_moved 72 = .ok (.iinc 3 1, 3) := by decide +kernel
theorem dX4_moved_75 : decode cX4_moved 75 = .ok (.goto (-68), 3) := by decide +kernel
theorem dX4_moved_78 : decode cX4_moved 78 = .ok (.iconst (-1), 1) := by decide +kernel
theorem dX4_moved_79 : decode cX4_moved 79 = .ok (.ireturn, 1) := by decide +kernel
theorem dX4_view_0 : decode cX4_view 0 = .ok (.aload_n 0, 1) := by decide +kernel
theorem dX4_view_1 : decode cX4_view 1 = .ok (.iconst 0, 1) := by decide +kernel
theorem dX4_view_2 : decode cX4_view 2 = .ok (.putfield 84, 3) := by decide +kernel
theorem dX4_view_5 : decode cX4_view 5 = .ok (.iconst 0, 1) := by decide +kernel
theorem dX4_view_6 : decode cX4_view 6 = .ok (.istore_n 1, 1) := by decide +kernel
theorem dX4_view_7 : decode cX4_view 7 = .ok (.iload_n 1, 1) := by decide +kernel
theorem dX4_view_8 : decode cX4_view 8 = .ok (.iconst 4, 1) := by decide +kernel
theorem dX4_view_9 : decode cX4_view 9 = .ok (.if_icmp .ge 18, 3) := by decide +kernel
theorem dX4_view_12 : decode cX4_view 12 = .ok (.aload_n 0, 1) := by decide +kernel
theorem dX4_view_13 : decode cX4_view 13 = .ok (.getfield 78, 3) := by decide +kernel
theorem dX4_view_16 : decode cX4_view 16 = .ok (.iload_n 1, 1) := by decide +kernel
theorem dX4_view_17 : decode cX4_view 17 = .ok (.baload, 1) := by decide +kernel
theorem dX4_view_18 : decode cX4_view 18 = .ok (.ifCond .eq 9, 3) := by decide +kernel
theorem dX4_view_21 : decode cX4_view 21 = .ok (.iinc 1 1, 3) := by decide +kernel
theorem dX4_view_24 : decode cX4_view 24 = .ok (.goto (-17), 3) := by decide +kernel
theorem dX4_view_27 : decode cX4_view 27 = .ok (.iload_n 1, 1) := by decide +kernel
theorem dX4_view_28 : decode cX4_view 28 = .ok (.iconst 4, 1) := by decide +kernel
theorem dX4_view_29 : decode cX4_view 29 = .ok (.if_icmp .ne 6, 3) := by decide +kernel
theorem dX4_view_32 : decode cX4_view 32 = .ok (.bipush (-4), 2) := by decide +kernel
theorem dX4_view_34 : decode cX4_view 34 = .ok (.ireturn, 1) := by decide +kernel
theorem dX4_view_35 : decode cX4_view 35 = .ok (.aload_n 0, 1) := by decide +kernel
theorem dX4_view_36 : decode cX4_view 36 = .ok (.getfield 78, 3) := by decide +kernel
theorem dX4_view_39 : decode cX4_view 39 = .ok (.iload_n 1, 1) := by decide +kernel
theorem dX4_view_40 : decode cX4_view 40 = .ok (.iconst 1, 1) := by decide +kernel
theorem dX4_view_41 : decode cX4_view 41 = .ok (.bastore, 1) := by decide +kernel
theorem dX4_view_42 : decode cX4_view 42 = .ok (.iconst 0, 1) := by decide +kernel
theorem dX4_view_43 : decode cX4_view 43 = .ok (.istore_n 2, 1) := by decide +kernel
theorem dX4_view_44 : decode cX4_view 44 = .ok (.iload_n 2, 1) := by decide +kernel
theorem dX4_view_45 : decode cX4_view 45 = .ok (.bipush 100, 2) := by decide +kernel
theorem dX4_view_47 : decode cX4_view 47 = .ok (.if_icmp .ge 26, 3) := by decide +kernel
theorem dX4_view_50 : decode cX4_view 50 = .ok (.aload_n 0, 1) := by decide +kernel
theorem dX4_view_51 : decode cX4_view 51 = .ok (.getfield 81, 3) := by decide +kernel
theorem dX4_view_54 : decode cX4_view 54 = .ok (.bipush 100, 2) := by decide +kernel
theorem dX4_view_56 : decode cX4_view 56 = .ok (.iload_n 1, 1) := by decide +kernel
theorem dX4_view_57 : decode cX4_view 57 = .ok (.imul, 1) := by decide +kernel
theorem dX4_view_58 : decode cX4_view 58 = .ok (.iload_n 2, 1) := by decide +kernel
theorem dX4_view_59 : decode cX4_view 59 = .ok (.iadd, 1) := by decide +kernel
theorem dX4_view_60 : decode cX4_view 60 = .ok (.aload_n 0, 1) := by decide +kernel
theorem dX4_view_61 : decode cX4_view 61 = .ok (.getfield 7, 3) := by decide +kernel
theorem dX4_view_64 : decode cX4_view 64 = .ok (.iload_n 2, 1) := by decide +kernel
theorem dX4_view_65 : decode cX4_view 65 = .ok (.iaload, 1) := by decide +kernel
theorem dX4_view_66 : decode cX4_view 66 = .ok (.iastore, 1) := by decide +kernel
theorem dX4_view_67 : decode cX4_view 67 = .ok (.iinc 2 1, 3) := by decide +kernel
theorem dX4_view_70 : decode cX4_view 70 = .ok (.goto (-26), 3) := by decide +kernel
theorem dX4_view_73 : decode cX4_view 73 = .ok (.iload_n 1, 1) := by decide +kernel
theorem dX4_view_74 : decode cX4_view 74 = .ok (.ireturn, 1) := by decide +kernel
set_option maxRecDepth 20000 in
theorem ggX4_isOpen_X4_in : GoodIn wsX4_isOpen wsX4_in := goodIn_r _ [5] (by decide +kernel) (by decide +kernel)
set_option maxRecDepth 20000 in
theorem gX4_isOpen_X4_in : GoodIn wsX4_isOpen (va_wsS RX4 90 yX4_in wsX4_in) := goodIn_app (goodIn_of _ (by decide +kernel)) ggX4_isOpen_X4_in
theorem dX4_isOpen_0 : decode cX4_isOpen 0 = .ok (.iload_n 1, 1) := by decide +kernel
theorem dX4_isOpen_1 : decode cX4_isOpen 1 = .ok (.iconst 0, 1) := by decide +kernel
theorem dX4_isOpen_2 : decode cX4_isOpen 2 = .ok (.iconst 3, 1) := by decide +kernel
theorem dX4_isOpen_3 : decode cX4_isOpen 3 = .ok (.invokestatic 90, 3) := by decide +kernel
theorem dX4_isOpen_6 : decode cX4_isOpen 6 = .ok (.ifCond .eq 16, 3) := by decide +kernel
theorem dX4_isOpen_9 : decode cX4_isOpen 9 = .ok (.aload_n 0, 1) := by decide +kernel
theorem dX4_isOpen_10 : decode cX4_isOpen 10 = .ok (.getfield 78, 3) := by decide +kernel
theorem dX4_isOpen_13 : decode cX4_isOpen 13 = .ok (.iload_n 1, 1) := by decide +kernel
theorem dX4_isOpen_14 : decode cX4_isOpen 14 = .ok (.baload, 1) := by decide +kernel
theorem dX4_isOpen_15 : decode cX4_isOpen 15 = .ok (.ifCond .eq 7, 3) := by decide +kernel
theorem dX4_isOpen_18 : decode cX4_isOpen 18 = .ok (.iconst 1, 1) := by decide +kernel
theorem dX4_isOpen_19 : decode cX4_isOpen 19 = .ok (.goto 4, 3) := by decide +kernel
theorem dX4_isOpen_22 : decode cX4_isOpen 22 = .ok (.iconst 0, 1) := by decide +kernel
theorem dX4_isOpen_23 : decode cX4_isOpen 23 = .ok (.ireturn, 1) := by decide +kernel
set_option maxRecDepth 20000 in
theorem ggX4_seen_X4_isOpen : GoodIn wsX4_seen wsX4_isOpen := goodIn_r _ [7, 8, 9, 10, 6, 11, 12, 13, 14, 15, 16, 17, 18, 19, 20, 21, 22, 23, 24, 25, 26, 27, 28, 29, 30, 31, 32, 33, 34, 35, 36, 37, 38, 39, 40, 41, 42, 43, 44, 45] (by decide +kernel) (by decide +kernel)
set_option maxRecDepth 20000 in
theorem gX4_seen_X4_isOpen : GoodIn wsX4_seen (wsV RX4 160 RX4 yX4_isOpen wsX4_isOpen) := goodIn_app (goodIn_of _ (by decide +kernel)) ggX4_seen_X4_isOpen
set_option maxRecDepth 20000 in
theorem ggX4_seen_X4_in : GoodIn wsX4_seen wsX4_in := goodIn_r _ [11] (by decide +kernel) (by decide +kernel)
set_option maxRecDepth 20000 in
theorem gX4_seen_X4_in : GoodIn wsX4_seen (va_wsS RX4 90 yX4_in wsX4_in) := goodIn_app (goodIn_of _ (by decide +kernel)) ggX4_seen_X4_in
theorem dX4_seen_0 : decode cX4_seen 0 = .ok (.aload_n 0, 1) := by decide +kernel
theorem dX4_seen_1 : decode cX4_seen 1 = .ok (.iconst 0, 1) := by decide +kernel
theorem dX4_seen_2 : decode cX4_seen 2 = .ok (.putfield 84, 3) := by decide +kernel
theorem dX4_seen_5 : decode cX4_seen 5 = .ok (.aload_n 0, 1) := by decide +kernel
theorem dX4_seen_6 : decode cX4_seen 6 = .ok (.iload_n 1, 1) := by decide +kernel
theorem dX4_seen_7 : decode cX4_seen 7 = .ok (.invokevirtual 160, 3) := by decide +kernel
theorem dX4_seen_10 : decode cX4_seen 10 = .ok (.ifCond .eq 13, 3) := by decide +kernel
theorem dX4_seen_13 : decode cX4_seen 13 = .ok (.iload_n 2, 1) := by decide +kernel
theorem dX4_seen_14 : decode cX4_seen 14 = .ok (.iconst 0, 1) := by decide +kernel
theorem dX4_seen_15 : decode cX4_seen 15 = .ok (.bipush 99, 2) := by decide +kernel
theorem dX4_seen_17 : decode cX4_seen 17 = .ok (.invokestatic 90, 3) := by decide +kernel
theorem dX4_seen_20 : decode cX4_seen 20 = .ok (.ifCond .ne 5, 3) := by decide +kernel
theorem dX4_seen_23 : decode cX4_seen 23 = .ok (.iconst (-1), 1) := by decide +kernel
theorem dX4_seen_24 : decode cX4_seen 24 = .ok (.ireturn, 1) := by decide +kernel
theorem dX4_seen_25 : decode cX4_seen 25 = .ok (.aload_n 0, 1) := by decide +kernel
theorem dX4_seen_26 : decode cX4_seen 26 = .ok (.getfield 81, 3) := by decide +kernel
theorem dX4_seen_29 : decode cX4_seen 29 = .ok (.bipush 100, 2) := by decide +kernel
theorem dX4_seen_31 : decode cX4_seen 31 = .ok (.iload_n 1, 1) := by decide +kernel
theorem dX4_seen_32 : decode cX4_seen 32 = .ok (.imul, 1) := by decide +kernel
theorem dX4_seen_33 : decode cX4_seen 33 = .ok (.iload_n 2, 1) := by decide +kernel
theorem dX4_seen_34 : decode cX4_seen 34 = .ok (.iadd, 1) := by decide +kernel
theorem dX4_seen_35 : decode cX4_seen 35 = .ok (.iaload, 1) := by decide +kernel
theorem dX4_seen_36 : decode cX4_seen 36 = .ok (.ifCond .ge 8, 3) := by decide +kernel
theorem dX4_seen_39 : decode cX4_seen 39 = .ok (.bipush (-3), 2) := by decide +kernel
theorem dX4_seen_41 : decode cX4_seen 41 = .ok (.goto 14, 3) := by decide +kernel
theorem dX4_seen_44 : decode cX4_seen 44 = .ok (.aload_n 0, 1) := by decide +kernel
theorem dX4_seen_45 : decode cX4_seen 45 = .ok (.getfield 81, 3) := by decide +kernel
theorem dX4_seen_48 : decode cX4_seen 48 = .ok (.bipush 100, 2) := by decide +kernel
theorem dX4_seen_50 : decode cX4_seen 50 = .ok (.iload_n 1, 1) := by decide +kernel
theorem dX4_seen_51 : decode cX4_seen 51 = .ok (.imul, 1) := by decide +kernel
theorem dX4_seen_52 : decode cX4_seen 52 = .ok (.iload_n 2, 1) := by decide +kernel
theorem dX4_seen_53 : decode cX4_seen 53 = .ok (.iadd, 1) := by decide +kernel
theorem dX4_seen_54 : decode cX4_seen 54 = .ok (.iaload, 1) := by decide +kernel
theorem dX4_seen_55 : decode cX4_seen 55 = .ok (.ireturn, 1) := by decide +kernel
set_option maxRecDepth 20000 in
theorem ggX4_shut_X4_isOpen : GoodIn wsX4_shut wsX4_isOpen := goodIn_r _ [9, 2, 10, 11, 8, 12, 13, 14, 15, 16, 17, 18, 19, 20, 21, 22, 23, 24, 25, 26, 27, 28, 29, 30, 31, 32, 33, 34, 35, 36, 37, 38, 39, 40, 41, 42, 43, 44, 45, 46] (by decide +kernel) (by decide +kernel)
set_option maxRecDepth 20000 in
theorem gX4_shut_X4_isOpen : GoodIn wsX4_shut (wsV RX4 160 RX4 yX4_isOpen wsX4_isOpen) := goodIn_app (goodIn_of _ (by decide +kernel)) ggX4_shut_X4_isOpen
theorem dX4_shut_0 : decode cX4_shut 0 = .ok (.aload_n 0, 1) := by decide +kernel
theorem dX4_shut_1 : decode cX4_shut 1 = .ok (.iconst 0, 1) := by decide +kernel
theorem dX4_shut_2 : decode cX4_shut 2 = .ok (.putfield 84, 3) := by decide +kernel
theorem dX4_shut_5 : decode cX4_shut 5 = .ok (.aload_n 0, 1) := by decide +kernel
theorem dX4_shut_6 : decode cX4_shut 6 = .ok (.iload_n 1, 1) := by decide +kernel
theorem dX4_shut_7 : decode cX4_shut 7 = .ok (.invokevirtual 160, 3) := by decide +kernel
theorem dX4_shut_10 : decode cX4_shut 10 = .ok (.ifCond .ne 5, 3) := by decide +kernel
theorem dX4_shut_13 : decode cX4_shut 13 = .ok (.iconst (-1), 1) := by decide +kernel
theorem dX4_shut_14 : decode cX4_shut 14 = .ok (.ireturn, 1) := by decide +kernel
theorem dX4_shut_15 : decode cX4_shut 15 = .ok (.aload_n 0, 1) := by decide +kernel
theorem dX4_shut_16 : decode cX4_shut 16 = .ok (.getfield 78, 3) := by decide +kernel
theorem dX4_shut_19 : decode cX4_shut 19 = .ok (.iload_n 1, 1) := by decide +kernel
theorem dX4_shut_20 : decode cX4_shut 20 = .ok (.iconst 0, 1) := by decide +kernel
theorem dX4_shut_21 : decode cX4_shut 21 = .ok (.bastore, 1) := by decide +kernel
theorem dX4_shut_22 : decode cX4_shut 22 = .ok (.iconst 0, 1) := by decide +kernel
theorem dX4_shut_23 : decode cX4_shut 23 = .ok (.istore_n 2, 1) := by decide +kernel
theorem dX4_shut_24 : decode cX4_shut 24 = .ok (.iconst 0, 1) := by decide +kernel
theorem dX4_shut_25 : decode cX4_shut 25 = .ok (.istore_n 3, 1) := by decide +kernel
theorem dX4_shut_26 : decode cX4_shut 26 = .ok (.iload_n 3, 1) := by decide +kernel
theorem dX4_shut_27 : decode cX4_shut 27 = .ok (.bipush 100, 2) := by decide +kernel
theorem dX4_shut_29 : decode cX4_shut 29 = .ok (.if_icmp .ge 37, 3) := by decide +kernel
theorem dX4_shut_32 : decode cX4_shut 32 = .ok (.iload_n 2, 1) := by decide +kernel
theorem dX4_shut_33 : decode cX4_shut 33 = .ok (.aload_n 0, 1) := by decide +kernel
theorem dX4_shut_34 : decode cX4_shut 34 = .ok (.getfield 81, 3) := by decide +kernel
theorem dX4_shut_37 : decode cX4_shut 37 = .ok (.bipush 100, 2) := by decide +kernel
theorem dX4_shut_39 : decode cX4_shut 39 = .ok (.iload_n 1, 1) := by decide +kernel
theorem dX4_shut_40 : decode cX4_shut 40 = .ok (.imul, 1) := by decide +kernel
theorem dX4_shut_41 : decode cX4_shut 41 = .ok (.iload_n 3, 1) := by decide +kernel
theorem dX4_shut_42 : decode cX4_shut 42 = .ok (.iadd, 1) := by decide +kernel
theorem dX4_shut_43 : decode cX4_shut 43 = .ok (.iaload, 1) := by decide +kernel
theorem dX4_shut_44 : decode cX4_shut 44 = .ok (.aload_n 0, 1) := by decide +kernel
theorem dX4_shut_45 : decode cX4_shut 45 = .ok (.getfield 7, 3) := by decide +kernel
theorem dX4_shut_48 : decode cX4_shut 48 = .ok (.iload_n 3, 1) := by decide +kernel
theorem dX4_shut_49 : decode cX4_shut 49 = .ok (.iaload, 1) := by decide +kernel
theorem dX4_shut_50 : decode cX4_shut 50 = .ok (.if_icmp .eq 7, 3) := by decide +kernel
theorem dX4_shut_53 : decode cX4_shut 53 = .ok (.iconst 1, 1) := by decide +kernel
theorem dX4_shut_54 : decode cX4_shut 54 = .ok (.goto 4, 3) := by decide +kernel
theorem dX4_shut_57 : decode cX4_shut 57 = .ok (.iconst 0, 1) := by decide +kernel
theorem dX4_shut_58 : decode cX4_shut 58 = .ok (.iadd, 1) := by decide +kernel
theorem dX4_shut_59 : decode cX4_shut 59 = .ok (.istore_n 2, 1) := by decide +kernel
theorem dX4_shut_60 : decode cX4_shut 60 = .ok (.iinc 3 1, 3) := by decide +kernel
theorem dX4_shut_63 : decode cX4_shut 63 = .ok (.goto (-37), 3) := by decide +kernel
theorem dX4_shut_66 : decode cX4_shut 66 = .ok (.iload_n 2, 1) := by decide +kernel
theorem dX4_shut_67 : decode cX4_shut 67 = .ok (.ireturn, 1) := by decide +kernel
set_option maxRecDepth 20000 in
theorem ggX4_share_X4_all : GoodIn wsX4_share wsX4_all := goodIn_r _ [6, 7, 8, 9, 10, 11, 12, 5, 13, 14, 15, 16, 17, 18, 19, 20, 21, 22, 23, 24, 25, 26, 27, 28, 29, 30, 31, 32, 33, 34, 35, 36, 37, 38, 39, 40, 41, 42, 43, 44, 45, 46, 47, 48] (by decide +kernel) (by decide +kernel)
set_option maxRecDepth 20000 in
theorem gX4_share_X4_all : GoodIn wsX4_share (wsV RX4 122 RX4 yX4_all wsX4_all) := goodIn_app (goodIn_of _ (by decide +kernel)) ggX4_share_X4_all
theorem dX4_share_0 : decode cX4_share 0 = .ok (.aload_n 0, 1) := by decide +kernel
theorem dX4_share_1 : decode cX4_share 1 = .ok (.iconst 0, 1) := by decide +kernel
theorem dX4_share_2 : decode cX4_share 2 = .ok (.putfield 84, 3) := by decide +kernel
theorem dX4_share_5 : decode cX4_share 5 = .ok (.aload_n 0, 1) := by decide +kernel
theorem dX4_share_6 : decode cX4_share 6 = .ok (.iconst 0, 1) := by decide +kernel
theorem dX4_share_7 : decode cX4_share 7 = .ok (.invokevirtual 122, 3) := by decide +kernel
theorem dX4_share_10 : decode cX4_share 10 = .ok (.istore_n 1, 1) := by decide +kernel
theorem dX4_share_11 : decode cX4_share 11 = .ok (.iload_n 1, 1) := by decide +kernel
theorem dX4_share_12 : decode cX4_share 12 = .ok (.ifCond .ne 10, 3) := by decide +kernel
theorem dX4_share_15 : decode cX4_share 15 = .ok (.aload_n 0, 1) := by decide +kernel
theorem dX4_share_16 : decode cX4_share 16 = .ok (.iconst 1, 1) := by decide +kernel
theorem dX4_share_17 : decode cX4_share 17 = .ok (.putfield 84, 3) := by decide +kernel
theorem dX4_share_20 : decode cX4_share 20 = .ok (.iconst 0, 1) := by decide +kernel
theorem dX4_share_21 : decode cX4_share 21 = .ok (.ireturn, 1) := by decide +kernel
theorem dX4_share_22 : decode cX4_share 22 = .ok (.sipush 1000, 3) := by decide +kernel
theorem dX4_share_25 : decode cX4_share 25 = .ok (.aload_n 0, 1) := by decide +kernel
theorem dX4_share_26 : decode cX4_share 26 = .ok (.iconst 1, 1) := by decide +kernel
theorem dX4_share_27 : decode cX4_share 27 = .ok (.invokevirtual 122, 3) := by decide +kernel
theorem dX4_share_30 : decode cX4_share 30 = .ok (.imul, 1) := by decide +kernel
theorem dX4_share_31 : decode cX4_share 31 = .ok (.iload_n 1, 1) := by decide +kernel
theorem dX4_share_32 : decode cX4_share 32 = .ok (.idiv, 1) := by decide +kernel
theorem dX4_share_33 : decode cX4_share 33 = .ok (.ireturn, 1) := by decide +kernel
theorem dJ9_max_7cf53_0 : decode cJ9_max_7cf53 0 = .ok (.iload_n 0, 1) := by decide +kernel
theorem dJ9_max_7cf53_1 : decode cJ9_max_7cf53 1 = .ok (.iload_n 1, 1) := by decide +kernel
theorem dJ9_max_7cf53_2 : decode cJ9_max_7cf53 2 = .ok (.if_icmp .lt 7, 3) := by decide +kernel
theorem dJ9_max_7cf53_5 : decode cJ9_max_7cf53 5 = .ok (.iload_n 0, 1) := by decide +kernel
theorem dJ9_max_7cf53_6 : decode cJ9_max_7cf53 6 = .ok (.goto 4, 3) := by decide +kernel
theorem dJ9_max_7cf53_9 : decode cJ9_max_7cf53 9 = .ok (.iload_n 1, 1) := by decide +kernel
theorem dJ9_max_7cf53_10 : decode cJ9_max_7cf53 10 = .ok (.ireturn, 1) := by decide +kernel
theorem dJ7_fill_53178_0 : decode cJ7_fill_53178 0 = .ok (.iconst 0, 1) := by decide +kernel
theorem dJ7_fill_53178_1 : decode cJ7_fill_53178 1 = .ok (.istore_n 2, 1) := by decide +kernel
theorem dJ7_fill_53178_2 : decode cJ7_fill_53178 2 = .ok (.aload_n 0, 1) := by decide +kernel
theorem dJ7_fill_53178_3 : decode cJ7_fill_53178 3 = .ok (.arraylength, 1) := by decide +kernel
theorem dJ7_fill_53178_4 : decode cJ7_fill_53178 4 = .ok (.istore_n 3, 1) := by decide +kernel
theorem dJ7_fill_53178_5 : decode cJ7_fill_53178 5 = .ok (.iload_n 2, 1) := by decide +kernel
theorem dJ7_fill_53178_6 : decode cJ7_fill_53178 6 = .ok (.iload_n 3, 1) := by decide +kernel
theorem dJ7_fill_53178_7 : decode cJ7_fill_53178 7 = .ok (.if_icmp .ge 13, 3) := by decide +kernel
theorem dJ7_fill_53178_10 : decode cJ7_fill_53178 10 = .ok (.aload_n 0, 1) := by decide +kernel
theorem dJ7_fill_53178_11 : decode cJ7_fill_53178 11 = .ok (.iload_n 2, 1) := by decide +kernel
theorem dJ7_fill_53178_12 : decode cJ7_fill_53178 12 = .ok (.iload_n 1, 1) := by decide +kernel
theorem dJ7_fill_53178_13 : decode cJ7_fill_53178 13 = .ok (.iastore, 1) := by decide +kernel
theorem dJ7_fill_53178_14 : decode cJ7_fill_53178 14 = .ok (.iinc 2 1, 3) := by decide +kernel
theorem dJ7_fill_53178_17 : decode cJ7_fill_53178 17 = .ok (.goto (-12), 3) := by decide +kernel
theorem dJ7_fill_53178_20 : decode cJ7_fill_53178 20 = .ok (.return_, 1) := by decide +kernel
set_option maxRecDepth 20000 in
theorem ggL_share_X3_share : GoodIn wsL_share wsX3_share := goodIn_ca (goodIn_r _ [6, 7, 8, 9, 10, 11, 12, 5, 13, 14, 15, 16, 17, 18, 19, 20, 21, 22, 23, 24, 25, 26, 27, 28, 29, 30, 31, 32, 33, 34, 35, 36, 37, 38, 39] (by decide +kernel) (by decide +kernel)) (goodIn_sub (fun _ h => List.mem_cons_of_mem _ (List.mem_append_right _ h)) (by decide +kernel))
set_option maxRecDepth 20000 in
theorem gL_share_X3_share : GoodIn wsL_share (wsV RL 7 RX3 yX3_share wsX3_share) := goodIn_app (goodIn_of _ (by decide +kernel)) ggL_share_X3_share
theorem dL_share_0 : decode cL_share 0 = .ok (.aload_n 1, 1) := by decide +kernel
theorem dL_share_1 : decode cL_share 1 = .ok (.iconst 0, 1) := by decide +kernel
theorem dL_share_2 : decode cL_share 2 = .ok (.aload_n 0, 1) := by decide +kernel
theorem dL_share_3 : decode cL_share 3 = .ok (.invokevirtual 7, 3) := by decide +kernel
theorem dL_share_6 : decode cL_share 6 = .ok (.i2l, 1) := by decide +kernel
theorem dL_share_7 : decode cL_share 7 = .ok (.lastore, 1) := by decide +kernel
theorem dL_share_8 : decode cL_share 8 = .ok (.goto 6, 3) := by decide +kernel
theorem dL_share_11 : decode cL_share 11 = .ok (.astore_n 2, 1) := by decide +kernel
theorem dL_share_12 : decode cL_share 12 = .ok (.iconst 1, 1) := by decide +kernel
theorem dL_share_13 : decode cL_share 13 = .ok (.ireturn, 1) := by decide +kernel
theorem dL_share_14 : decode cL_share 14 = .ok (.iconst 0, 1) := by decide +kernel
theorem dL_share_15 : decode cL_share 15 = .ok (.ireturn, 1) := by decide +kernel
set_option maxRecDepth 20000 in
theorem ggL_law_X3_init : GoodIn wsL_law wsX3_init := goodIn_r _ [9, 10, 11, 12, 13, 14, 15, 16, 17, 18, 19, 20, 21, 22, 23, 24, 25, 26, 27, 28, 29, 30, 31, 32, 33, 34, 35, 36, 37, 38, 39, 40, 472, 473, 474, 475, 476, 477, 478, 479, 480, 481, 482, 517, 518, 519] (by decide +kernel) (by decide +kernel)
set_option maxRecDepth 20000 in
theorem gL_law_X3_init : GoodIn wsL_law (wsX3_init) := ggL_law_X3_init
set_option maxRecDepth 20000 in
theorem ggL_law_X4_init : GoodIn wsL_law wsX4_init := goodIn_r _ [43, 44, 11, 12, 13, 45, 46, 47, 48, 49, 50, 29, 51, 52, 53, 54, 55, 56, 57, 58, 59, 60, 61, 62, 63, 64, 65, 66, 67, 68, 483, 484, 485, 486, 487, 488, 489, 490, 491, 492, 493, 494, 495, 496, 497, 498, 499, 500, 501, 502, 503, 504, 505, 506, 507, 508, 509, 510, 511, 512, 513, 514, 515, 516] (by decide +kernel) (by decide +kernel)
set_option maxRecDepth 20000 in
theorem gL_law_X4_init : GoodIn wsL_law (wsX4_init) := ggL_law_X4_init
set_option maxRecDepth 20000 in
theorem ggL_law_X3_put : GoodIn wsL_law wsX3_put := goodIn_r _ [72, 18, 73, 74, 14, 75, 76, 2, 77, 78, 79, 80, 17, 81, 36, 34, 82, 83, 84, 85, 21, 20, 86, 87, 88, 89, 90, 91, 92, 93, 94, 95, 96, 97, 98, 35, 472, 473, 474, 475, 476, 477, 478, 479, 480, 481, 482, 517, 518, 519, 520, 521, 522, 523, 524, 525, 526, 527] (by decide +kernel) (by decide +kernel)
set_option maxRecDepth 20000 in
theorem gL_law_X3_put : GoodIn wsL_law (wsV RL 19 RX3 yX3_put wsX3_put) := goodIn_app (goodIn_of _ (by decide +kernel)) ggL_law_X3_put
set_option maxRecDepth 20000 in
theorem ggL_law_X4_put : GoodIn wsL_law wsX4_put := goodIn_r _ [102, 103, 104, 49, 45, 46, 105, 106, 5, 107, 108, 109, 110, 111, 112, 113, 114, 115, 47, 57, 48, 483, 484, 485, 486, 487, 488, 489, 490, 491, 492, 493, 494, 495, 496, 497, 498, 499, 500, 501, 502, 503, 504, 505, 506, 507, 508, 509, 510, 511, 512, 513, 514, 515, 516] (by decide +kernel) (by decide +kernel)
set_option maxRecDepth 20000 in
theorem gL_law_X4_put : GoodIn wsL_law (wsV RL 23 RX4 yX4_put wsX4_put) := goodIn_app (goodIn_of _ (by decide +kernel)) ggL_law_X4_put
set_option maxRecDepth 20000 in
theorem ggL_law_X3_drop : GoodIn wsL_law wsX3_drop := goodIn_r _ [119, 14, 18, 75, 76, 2, 77, 78, 79, 80, 17, 81, 36, 34, 82, 83, 84, 85, 21, 20, 86, 87, 88, 89, 90, 91, 92, 93, 94, 120, 121, 122, 123, 35, 472, 473, 474, 475, 476, 477, 478, 479, 480, 481, 482, 517, 518, 519, 520, 521, 522, 523, 524, 525, 526, 527] (by decide +kernel) (by decide +kernel)
set_option maxRecDepth 20000 in
theorem gL_law_X3_drop : GoodIn wsL_law (wsV RL 24 RX3 yX3_drop wsX3_drop) := goodIn_app (goodIn_of _ (by decide +kernel)) ggL_law_X3_drop
set_option maxRecDepth 20000 in
theorem ggL_law_X4_drop : GoodIn wsL_law wsX4_drop := goodIn_r _ [127, 103, 45, 104, 49, 46, 105, 106, 5, 107, 108, 109, 110, 111, 112, 113, 114, 115, 47, 57, 48, 483, 484, 485, 486, 487, 488, 489, 490, 491, 492, 493, 494, 495, 496, 497, 498, 499, 500, 501, 502, 503, 504, 505, 506, 507, 508, 509, 510, 511, 512, 513, 514, 515, 516] (by decide +kernel) (by decide +kernel)
set_option maxRecDepth 20000 in
theorem gL_law_X4_drop : GoodIn wsL_law (wsV RL 28 RX4 yX4_drop wsX4_drop) := goodIn_app (goodIn_of _ (by decide +kernel)) ggL_law_X4_drop
set_option maxRecDepth 20000 in
theorem ggL_law_X3_get : GoodIn wsL_law wsX3_get := goodIn_r _ [131, 14, 75, 76, 2, 77, 472, 473, 474, 475, 476, 477, 478, 479, 480, 481, 482] (by decide +kernel) (by decide +kernel)
set_option maxRecDepth 20000 in
theorem gL_law_X3_get : GoodIn wsL_law (wsV RL 29 RX3 yX3_get wsX3_get) := goodIn_app (goodIn_of _ (by decide +kernel)) ggL_law_X3_get
set_option maxRecDepth 20000 in
theorem ggL_law_X4_get : GoodIn wsL_law wsX4_get := goodIn_r _ [135, 103, 45, 105, 106, 5, 107, 483, 484, 485, 486, 487, 488, 489, 490, 491, 492, 493, 494, 495, 496, 497, 498, 499, 500, 501, 502, 503, 504, 505, 506, 507, 508, 509, 510, 511, 512, 513, 514, 515, 516] (by decide +kernel) (by decide +kernel)
set_option maxRecDepth 20000 in
theorem gL_law_X4_get : GoodIn wsL_law (wsV RL 32 RX4 yX4_get wsX4_get) := goodIn_app (goodIn_of _ (by decide +kernel)) ggL_law_X4_get
set_option maxRecDepth 20000 in
theorem ggL_law_X3_next : GoodIn wsL_law wsX3_next := goodIn_r _ [139, 14, 75, 76, 2, 77, 472, 473, 474, 475, 476, 477, 478, 479, 480, 481, 482] (by decide +kernel) (by decide +kernel)
set_option maxRecDepth 20000 in
theorem gL_law_X3_next : GoodIn wsL_law (wsV RL 33 RX3 yX3_next wsX3_next) := goodIn_app (goodIn_of _ (by decide +kernel)) ggL_law_X3_next
set_option maxRecDepth 20000 in
theorem ggL_law_X4_next : GoodIn wsL_law wsX4_next := goodIn_r _ [143, 103, 45, 105, 106, 5, 107, 483, 484, 485, 486, 487, 488, 489, 490, 491, 492, 493, 494, 495, 496, 497, 498, 499, 500, 501, 502, 503, 504, 505, 506, 507, 508, 509, 510, 511, 512, 513, 514, 515, 516] (by decide +kernel) (by decide +kernel)
set_option maxRecDepth 20000 in
theorem gL_law_X4_next : GoodIn wsL_law (wsV RL 36 RX4 yX4_next wsX4_next) := goodIn_app (goodIn_of _ (by decide +kernel)) ggL_law_X4_next
set_option maxRecDepth 20000 in
theorem ggL_law_X3_flush : GoodIn wsL_law wsX3_flush := goodIn_r _ [147, 18, 73, 21, 22, 20, 23, 148, 149, 150, 151, 152, 17, 153, 154, 155, 89, 36, 34, 35, 156, 157, 158, 159, 11, 12, 94, 160, 161, 91, 13, 92, 162, 29, 93, 163, 164, 165, 166, 167, 168, 169, 170, 171, 472, 473, 474, 475, 476, 477, 478, 479, 480, 481, 482, 517, 518, 519, 520, 521, 522, 523, 524, 525, 526, 527] (by decide +kernel) (by decide +kernel)
set_option maxRecDepth 20000 in
theorem gL_law_X3_flush : GoodIn wsL_law (wsV RL 37 RX3 yX3_flush wsX3_flush) := goodIn_app (goodIn_of _ (by decide +kernel)) ggL_law_X3_flush
set_option maxRecDepth 20000 in
theorem ggL_law_X4_flush : GoodIn wsL_law wsX4_flush := goodIn_r _ [175, 103, 104, 176, 53, 52, 177, 45, 178, 50, 179, 180, 181, 5, 182, 51, 54, 108, 109, 110, 111, 49, 183, 184, 185, 186, 55, 56, 57, 47, 48, 483, 484, 485, 486, 487, 488, 489, 490, 491, 492, 493, 494, 495, 496, 497, 498, 499, 500, 501, 502, 503, 504, 505, 506, 507, 508, 509, 510, 511, 512, 513, 514, 515, 516] (by decide +kernel) (by decide +kernel)
set_option maxRecDepth 20000 in
theorem gL_law_X4_flush : GoodIn wsL_law (wsV RL 40 RX4 yX4_flush wsX4_flush) := goodIn_app (goodIn_of _ (by decide +kernel)) ggL_law_X4_flush
set_option maxRecDepth 20000 in
theorem ggL_law_X3_count : GoodIn wsL_law wsX3_count := goodIn_r _ [190, 18, 73, 21, 23, 191, 192, 193, 2, 194, 20, 148, 195, 196, 197, 198, 199, 472, 473, 474, 475, 476, 477, 478, 479, 480, 481, 482, 517, 518, 519, 520, 521, 522, 523, 524, 525, 526, 527] (by decide +kernel) (by decide +kernel)
set_option maxRecDepth 20000 in
theorem gL_law_X3_count : GoodIn wsL_law (wsV RL 41 RX3 yX3_count wsX3_count) := goodIn_app (goodIn_of _ (by decide +kernel)) ggL_law_X3_count
set_option maxRecDepth 20000 in
theorem ggL_law_X4_count : GoodIn wsL_law wsX4_count := goodIn_r _ [203, 103, 45, 104, 176, 178, 204, 205, 206, 5, 207, 50, 54, 208, 209, 210, 211, 57, 483, 484, 485, 486, 487, 488, 489, 490, 491, 492, 493, 494, 495, 496, 497, 498, 499, 500, 501, 502, 503, 504, 505, 506, 507, 508, 509, 510, 511, 512, 513, 514, 515, 516] (by decide +kernel) (by decide +kernel)
set_option maxRecDepth 20000 in
theorem gL_law_X4_count : GoodIn wsL_law (wsV RL 44 RX4 yX4_count wsX4_count) := goodIn_app (goodIn_of _ (by decide +kernel)) ggL_law_X4_count
set_option maxRecDepth 20000 in
theorem ggL_law_X3_segment : GoodIn wsL_law wsX3_segment := goodIn_r _ [215, 20, 149, 216, 148, 199, 25, 217, 218, 219, 2, 220, 21, 221, 222, 223, 224, 225, 226, 227, 472, 473, 474, 475, 476, 477, 478, 479, 480, 481, 482, 520, 521, 522, 523, 524, 525, 526, 527, 528, 529, 530, 531, 532, 533] (by decide +kernel) (by decide +kernel)
set_option maxRecDepth 20000 in
theorem gL_law_X3_segment : GoodIn wsL_law (wsV RL 45 RX3 yX3_segment wsX3_segment) := goodIn_app (goodIn_of _ (by decide +kernel)) ggL_law_X3_segment
set_option maxRecDepth 20000 in
theorem ggL_law_X4_segment : GoodIn wsL_law wsX4_segment := goodIn_r _ [231, 103, 50, 52, 53, 54, 232, 233, 234, 235, 236, 5, 237, 176, 105, 106, 107, 208, 209, 210, 211, 57, 483, 484, 485, 486, 487, 488, 489, 490, 491, 492, 493, 494, 495, 496, 497, 498, 499, 500, 501, 502, 503, 504, 505, 506, 507, 508, 509, 510, 511, 512, 513, 514, 515, 516] (by decide +kernel) (by decide +kernel)
set_option maxRecDepth 20000 in
theorem gL_law_X4_segment : GoodIn wsL_law (wsV RL 48 RX4 yX4_segment wsX4_segment) := goodIn_app (goodIn_of _ (by decide +kernel)) ggL_law_X4_segment
set_option maxRecDepth 20000 in
theorem ggL_law_X3_row : GoodIn wsL_law wsX3_row := goodIn_r _ [241, 20, 242, 243, 244, 217, 218, 219, 2, 220, 21, 245, 246, 247, 89, 248, 91, 472, 473, 474, 475, 476, 477, 478, 479, 480, 481, 482, 520, 521, 522, 523, 524, 525, 526, 527] (by decide +kernel) (by decide +kernel)
set_option maxRecDepth 20000 in
theorem gL_law_X3_row : GoodIn wsL_law (wsV RL 49 RX3 yX3_row wsX3_row) := goodIn_app (goodIn_of _ (by decide +kernel)) ggL_law_X3_row
set_option maxRecDepth 20000 in
theorem ggL_law_X4_row : GoodIn wsL_law wsX4_row := goodIn_r _ [252, 103, 54, 50, 55, 56, 57, 234, 235, 236, 5, 237, 176, 105, 106, 107, 483, 484, 485, 486, 487, 488, 489, 490, 491, 492, 493, 494, 495, 496, 497, 498, 499, 500, 501, 502, 503, 504, 505, 506, 507, 508, 509, 510, 511, 512, 513, 514, 515, 516] (by decide +kernel) (by decide +kernel)
set_option maxRecDepth 20000 in
theorem gL_law_X4_row : GoodIn wsL_law (wsV RL 53 RX4 yX4_row wsX4_row) := goodIn_app (goodIn_of _ (by decide +kernel)) ggL_law_X4_row
set_option maxRecDepth 20000 in
theorem ggL_law_X3_full : GoodIn wsL_law wsX3_full := goodIn_r _ [256, 24, 472, 473, 474, 475, 476, 477, 478, 479, 480, 481, 482] (by decide +kernel) (by decide +kernel)
set_option maxRecDepth 20000 in
theorem gL_law_X3_full : GoodIn wsL_law (wsV RL 54 RX3 yX3_full wsX3_full) := goodIn_app (goodIn_of _ (by decide +kernel)) ggL_law_X3_full
set_option maxRecDepth 20000 in
theorem ggL_law_X4_full : GoodIn wsL_law wsX4_full := goodIn_r _ [260, 103, 58, 105, 106, 5, 107, 483, 484, 485, 486, 487, 488, 489, 490, 491, 492, 493, 494, 495, 496, 497, 498, 499, 500, 501, 502, 503, 504, 505, 506, 507, 508, 509, 510, 511, 512, 513, 514, 515, 516] (by decide +kernel) (by decide +kernel)
set_option maxRecDepth 20000 in
theorem gL_law_X4_full : GoodIn wsL_law (wsV RL 57 RX4 yX4_full wsX4_full) := goodIn_app (goodIn_of _ (by decide +kernel)) ggL_law_X4_full
set_option maxRecDepth 20000 in
theorem ggL_law_X3_due : GoodIn wsL_law wsX3_due := goodIn_r _ [264, 24, 21, 20, 216, 265, 266, 267, 2, 268, 472, 473, 474, 475, 476, 477, 478, 479, 480, 481, 482, 520, 521, 522, 523, 524, 525, 526, 527] (by decide +kernel) (by decide +kernel)
set_option maxRecDepth 20000 in
theorem gL_law_X3_due : GoodIn wsL_law (wsV RL 58 RX3 yX3_due wsX3_due) := goodIn_app (goodIn_of _ (by decide +kernel)) ggL_law_X3_due
set_option maxRecDepth 20000 in
theorem ggL_law_X4_due : GoodIn wsL_law wsX4_due := goodIn_r _ [272, 103, 58, 176, 53, 50, 483, 484, 485, 486, 487, 488, 489, 490, 491, 492, 493, 494, 495, 496, 497, 498, 499, 500, 501, 502, 503, 504, 505, 506, 507, 508, 509, 510, 511, 512, 513, 514, 515, 516] (by decide +kernel) (by decide +kernel)
set_option maxRecDepth 20000 in
theorem gL_law_X4_due : GoodIn wsL_law (wsV RL 61 RX4 yX4_due wsX4_due) := goodIn_app (goodIn_of _ (by decide +kernel)) ggL_law_X4_due
set_option maxRecDepth 20000 in
theorem ggL_law_X3_cheapest : GoodIn wsL_law wsX3_cheapest := goodIn_r _ [276, 21, 277, 278, 2, 279, 195, 196, 197, 198, 20, 199, 472, 473, 474, 475, 476, 477, 478, 479, 480, 481, 482, 520, 521, 522, 523, 524, 525, 526, 527] (by decide +kernel) (by decide +kernel)
set_option maxRecDepth 20000 in
theorem gL_law_X3_cheapest : GoodIn wsL_law (wsV RL 62 RX3 yX3_cheapest wsX3_cheapest) := goodIn_app (goodIn_of _ (by decide +kernel)) ggL_law_X3_cheapest
set_option maxRecDepth 20000 in
theorem ggL_law_X4_cheapest : GoodIn wsL_law wsX4_cheapest := goodIn_r _ [283, 103, 176, 50, 105, 106, 5, 107, 208, 209, 210, 211, 54, 57, 483, 484, 485, 486, 487, 488, 489, 490, 491, 492, 493, 494, 495, 496, 497, 498, 499, 500, 501, 502, 503, 504, 505, 506, 507, 508, 509, 510, 511, 512, 513, 514, 515, 516] (by decide +kernel) (by decide +kernel)
set_option maxRecDepth 20000 in
theorem gL_law_X4_cheapest : GoodIn wsL_law (wsV RL 65 RX4 yX4_cheapest wsX4_cheapest) := goodIn_app (goodIn_of _ (by decide +kernel)) ggL_law_X4_cheapest
set_option maxRecDepth 20000 in
theorem ggL_law_X3_worst : GoodIn wsL_law wsX3_worst := goodIn_r _ [287, 21, 20, 288, 289, 290, 89, 291, 91, 94, 472, 473, 474, 475, 476, 477, 478, 479, 480, 481, 482, 520, 521, 522, 523, 524, 525, 526, 527] (by decide +kernel) (by decide +kernel)
set_option maxRecDepth 20000 in
theorem gL_law_X3_worst : GoodIn wsL_law (wsV RL 66 RX3 yX3_worst wsX3_worst) := goodIn_app (goodIn_of _ (by decide +kernel)) ggL_law_X3_worst
set_option maxRecDepth 20000 in
theorem ggL_law_X4_worst : GoodIn wsL_law wsX4_worst := goodIn_r _ [295, 103, 176, 50, 54, 208, 209, 210, 5, 211, 57, 483, 484, 485, 486, 487, 488, 489, 490, 491, 492, 493, 494, 495, 496, 497, 498, 499, 500, 501, 502, 503, 504, 505, 506, 507, 508, 509, 510, 511, 512, 513, 514, 515, 516] (by decide +kernel) (by decide +kernel)
set_option maxRecDepth 20000 in
theorem gL_law_X4_worst : GoodIn wsL_law (wsV RL 69 RX4 yX4_worst wsX4_worst) := goodIn_app (goodIn_of _ (by decide +kernel)) ggL_law_X4_worst
set_option maxRecDepth 20000 in
theorem ggL_law_X3_begin : GoodIn wsL_law wsX3_begin := goodIn_r _ [299, 25, 300, 301, 224, 20, 302, 217, 218, 219, 2, 220, 21, 277, 278, 279, 303, 304, 305, 306, 11, 12, 307, 308, 309, 226, 310, 227, 13, 311, 312, 472, 473, 474, 475, 476, 477, 478, 479, 480, 481, 482, 528, 529, 530, 531, 532, 533, 520, 521, 522, 523, 524, 525, 526, 527] (by decide +kernel) (by decide +kernel)
set_option maxRecDepth 20000 in
theorem gL_law_X3_begin : GoodIn wsL_law (wsV RL 70 RX3 yX3_begin wsX3_begin) := goodIn_app (goodIn_of _ (by decide +kernel)) ggL_law_X3_begin
set_option maxRecDepth 20000 in
theorem ggL_law_X4_begin : GoodIn wsL_law wsX4_begin := goodIn_r _ [316, 103, 176, 232, 233, 317, 318, 59, 234, 235, 236, 5, 237, 105, 106, 107, 319, 320, 321, 322, 54, 323, 324, 325, 326, 50, 483, 484, 485, 486, 487, 488, 489, 490, 491, 492, 493, 494, 495, 496, 497, 498, 499, 500, 501, 502, 503, 504, 505, 506, 507, 508, 509, 510, 511, 512, 513, 514, 515, 516] (by decide +kernel) (by decide +kernel)
set_option maxRecDepth 20000 in
theorem gL_law_X4_begin : GoodIn wsL_law (wsV RL 73 RX4 yX4_begin wsX4_begin) := goodIn_app (goodIn_of _ (by decide +kernel)) ggL_law_X4_begin
set_option maxRecDepth 20000 in
theorem ggL_law_X3_step : GoodIn wsL_law wsX3_step := goodIn_r _ [330, 25, 302, 331, 332, 333, 224, 334, 227, 311, 335, 336, 308, 307, 309, 337, 338, 339, 340, 312, 341, 342, 343, 344, 2, 345, 346, 20, 347, 22, 348, 23, 26, 349, 350, 351, 352, 310, 155, 89, 353, 354, 355, 356, 357, 358, 359, 360, 361, 362, 363, 157, 158, 159, 11, 12, 94, 160, 161, 91, 13, 92, 162, 29, 93, 163, 364, 169, 170, 171, 365, 366, 367, 368, 21, 472, 473, 474, 475, 476, 477, 478, 479, 480, 481, 482, 528, 529, 530, 531, 532, 533, 520, 521, 522, 523, 524, 525, 526, 527] (by decide +kernel) (by decide +kernel)
set_option maxRecDepth 20000 in
theorem gL_law_X3_step : GoodIn wsL_law (wsV RL 74 RX3 yX3_step wsX3_step) := goodIn_app (goodIn_of _ (by decide +kernel)) ggL_law_X3_step
set_option maxRecDepth 20000 in
theorem ggL_law_X4_step : GoodIn wsL_law wsX4_step := goodIn_r _ [372, 103, 232, 105, 106, 5, 107, 319, 320, 321, 322, 54, 59, 323, 324, 325, 326, 50, 233, 373, 374, 375, 376, 63, 57, 318, 60, 55, 61, 56, 62, 46, 317, 377, 378, 379, 380, 381, 382, 383, 384, 385, 178, 64, 52, 65, 66, 53, 51, 176, 177, 179, 180, 181, 182, 183, 184, 185, 186, 47, 48, 483, 484, 485, 486, 487, 488, 489, 490, 491, 492, 493, 494, 495, 496, 497, 498, 499, 500, 501, 502, 503, 504, 505, 506, 507, 508, 509, 510, 511, 512, 513, 514, 515, 516] (by decide +kernel) (by decide +kernel)
set_option maxRecDepth 20000 in
theorem gL_law_X4_step : GoodIn wsL_law (wsV RL 77 RX4 yX4_step wsX4_step) := goodIn_app (goodIn_of _ (by decide +kernel)) ggL_law_X4_step
set_option maxRecDepth 20000 in
theorem ggL_law_X3_stop : GoodIn wsL_law wsX3_stop := goodIn_r _ [389, 25, 390, 23, 346, 472, 473, 474, 475, 476, 477, 478, 479, 480, 481, 482, 528, 529, 530, 531, 532, 533] (by decide +kernel) (by decide +kernel)
set_option maxRecDepth 20000 in
theorem gL_law_X3_stop : GoodIn wsL_law (wsV RL 78 RX3 yX3_stop wsX3_stop) := goodIn_app (goodIn_of _ (by decide +kernel)) ggL_law_X3_stop
set_option maxRecDepth 20000 in
theorem ggL_law_X4_stop : GoodIn wsL_law wsX4_stop := goodIn_r _ [394, 103, 232, 178, 318, 317, 483, 484, 485, 486, 487, 488, 489, 490, 491, 492, 493, 494, 495, 496, 497, 498, 499, 500, 501, 502, 503, 504, 505, 506, 507, 508, 509, 510, 511, 512, 513, 514, 515, 516] (by decide +kernel) (by decide +kernel)
set_option maxRecDepth 20000 in
theorem gL_law_X4_stop : GoodIn wsL_law (wsV RL 81 RX4 yX4_stop wsX4_stop) := goodIn_app (goodIn_of _ (by decide +kernel)) ggL_law_X4_stop
set_option maxRecDepth 20000 in
theorem ggL_law_X3_merging : GoodIn wsL_law wsX3_merging := goodIn_r _ [398, 25, 390, 346, 302, 347, 472, 473, 474, 475, 476, 477, 478, 479, 480, 481, 482, 528, 529, 530, 531, 532, 533] (by decide +kernel) (by decide +kernel)
set_option maxRecDepth 20000 in
theorem gL_law_X3_merging : GoodIn wsL_law (wsV RL 82 RX3 yX3_merging wsX3_merging) := goodIn_app (goodIn_of _ (by decide +kernel)) ggL_law_X3_merging
set_option maxRecDepth 20000 in
theorem ggL_law_X4_merging : GoodIn wsL_law wsX4_merging := goodIn_r _ [402, 103, 232, 317, 318, 233, 105, 106, 5, 107, 319, 320, 321, 322, 54, 59, 323, 324, 325, 326, 50, 483, 484, 485, 486, 487, 488, 489, 490, 491, 492, 493, 494, 495, 496, 497, 498, 499, 500, 501, 502, 503, 504, 505, 506, 507, 508, 509, 510, 511, 512, 513, 514, 515, 516] (by decide +kernel) (by decide +kernel)
set_option maxRecDepth 20000 in
theorem gL_law_X4_merging : GoodIn wsL_law (wsV RL 85 RX4 yX4_merging wsX4_merging) := goodIn_app (goodIn_of _ (by decide +kernel)) ggL_law_X4_merging
set_option maxRecDepth 20000 in
theorem ggL_law_X3_moved : GoodIn wsL_law wsX3_moved := goodIn_r _ [406, 26, 407, 408, 409, 410, 224, 411, 227, 412, 245, 246, 247, 89, 248, 91, 472, 473, 474, 475, 476, 477, 478, 479, 480, 481, 482, 520, 521, 522, 523, 524, 525, 526, 527, 528, 529, 530, 531, 532, 533] (by decide +kernel) (by decide +kernel)
set_option maxRecDepth 20000 in
theorem gL_law_X3_moved : GoodIn wsL_law (wsV RL 86 RX3 yX3_moved wsX3_moved) := goodIn_app (goodIn_of _ (by decide +kernel)) ggL_law_X3_moved
set_option maxRecDepth 20000 in
theorem ggL_law_X4_moved : GoodIn wsL_law wsX4_moved := goodIn_r _ [416, 103, 385, 64, 65, 66, 105, 106, 5, 107, 483, 484, 485, 486, 487, 488, 489, 490, 491, 492, 493, 494, 495, 496, 497, 498, 499, 500, 501, 502, 503, 504, 505, 506, 507, 508, 509, 510, 511, 512, 513, 514, 515, 516] (by decide +kernel) (by decide +kernel)
set_option maxRecDepth 20000 in
theorem gL_law_X4_moved : GoodIn wsL_law (wsV RL 89 RX4 yX4_moved wsX4_moved) := goodIn_app (goodIn_of _ (by decide +kernel)) ggL_law_X4_moved
set_option maxRecDepth 20000 in
theorem ggL_law_X3_view : GoodIn wsL_law wsX3_view := goodIn_r _ [420, 30, 14, 28, 421, 422, 423, 424, 472, 473, 474, 475, 476, 477, 478, 479, 480, 481, 482] (by decide +kernel) (by decide +kernel)
set_option maxRecDepth 20000 in
theorem gL_law_X3_view : GoodIn wsL_law (wsV RL 90 RX3 yX3_view wsX3_view) := goodIn_app (goodIn_of _ (by decide +kernel)) ggL_law_X3_view
set_option maxRecDepth 20000 in
theorem ggL_law_X4_view : GoodIn wsL_law wsX4_view := goodIn_r _ [428, 103, 67, 68, 45, 483, 484, 485, 486, 487, 488, 489, 490, 491, 492, 493, 494, 495, 496, 497, 498, 499, 500, 501, 502, 503, 504, 505, 506, 507, 508, 509, 510, 511, 512, 513, 514, 515, 516] (by decide +kernel) (by decide +kernel)
set_option maxRecDepth 20000 in
theorem gL_law_X4_view : GoodIn wsL_law (wsV RL 93 RX4 yX4_view wsX4_view) := goodIn_app (goodIn_of _ (by decide +kernel)) ggL_law_X4_view
set_option maxRecDepth 20000 in
theorem ggL_law_X3_seen : GoodIn wsL_law wsX3_seen := goodIn_r _ [432, 28, 433, 434, 435, 2, 436, 30, 75, 76, 77, 472, 473, 474, 475, 476, 477, 478, 479, 480, 481, 482] (by decide +kernel) (by decide +kernel)
set_option maxRecDepth 20000 in
theorem gL_law_X3_seen : GoodIn wsL_law (wsV RL 94 RX3 yX3_seen wsX3_seen) := goodIn_app (goodIn_of _ (by decide +kernel)) ggL_law_X3_seen
set_option maxRecDepth 20000 in
theorem ggL_law_X4_seen : GoodIn wsL_law wsX4_seen := goodIn_r _ [440, 103, 68, 441, 442, 443, 5, 444, 67, 105, 106, 107, 483, 484, 485, 486, 487, 488, 489, 490, 491, 492, 493, 494, 495, 496, 497, 498, 499, 500, 501, 502, 503, 504, 505, 506, 507, 508, 509, 510, 511, 512, 513, 514, 515, 516] (by decide +kernel) (by decide +kernel)
set_option maxRecDepth 20000 in
theorem gL_law_X4_seen : GoodIn wsL_law (wsV RL 97 RX4 yX4_seen wsX4_seen) := goodIn_app (goodIn_of _ (by decide +kernel)) ggL_law_X4_seen
set_option maxRecDepth 20000 in
theorem ggL_law_X3_shut : GoodIn wsL_law wsX3_shut := goodIn_r _ [448, 28, 14, 30, 433, 434, 435, 2, 436, 472, 473, 474, 475, 476, 477, 478, 479, 480, 481, 482] (by decide +kernel) (by decide +kernel)
set_option maxRecDepth 20000 in
theorem gL_law_X3_shut : GoodIn wsL_law (wsV RL 98 RX3 yX3_shut wsX3_shut) := goodIn_app (goodIn_of _ (by decide +kernel)) ggL_law_X3_shut
set_option maxRecDepth 20000 in
theorem ggL_law_X4_shut : GoodIn wsL_law wsX4_shut := goodIn_r _ [452, 103, 67, 68, 45, 441, 442, 443, 5, 444, 105, 106, 107, 483, 484, 485, 486, 487, 488, 489, 490, 491, 492, 493, 494, 495, 496, 497, 498, 499, 500, 501, 502, 503, 504, 505, 506, 507, 508, 509, 510, 511, 512, 513, 514, 515, 516] (by decide +kernel) (by decide +kernel)
set_option maxRecDepth 20000 in
theorem gL_law_X4_shut : GoodIn wsL_law (wsV RL 101 RX4 yX4_shut wsX4_shut) := goodIn_app (goodIn_of _ (by decide +kernel)) ggL_law_X4_shut
set_option maxRecDepth 20000 in
theorem ggL_law_L_share : GoodIn wsL_law wsL_share := goodIn_ca (goodIn_r _ [456, 457, 458, 459, 460, 2, 461, 462, 463, 21, 191, 192, 193, 194, 20, 148, 195, 196, 197, 198, 199, 472, 473, 474, 475, 476, 477, 478, 479, 480, 481, 482, 520, 521, 522, 523, 524, 525, 526, 527] (by decide +kernel) (by decide +kernel)) (goodIn_sub (fun _ h => List.mem_append_right _ h) (by decide +kernel))
set_option maxRecDepth 20000 in
theorem gL_law_L_share : GoodIn wsL_law (va_wsS RL 102 yL_share wsL_share) := goodIn_app (goodIn_of _ (by decide +kernel)) ggL_law_L_share
set_option maxRecDepth 20000 in
theorem ggL_law_X4_share : GoodIn wsL_law wsX4_share := goodIn_r _ [467, 103, 204, 205, 206, 5, 207, 176, 50, 54, 208, 209, 210, 211, 57, 483, 484, 485, 486, 487, 488, 489, 490, 491, 492, 493, 494, 495, 496, 497, 498, 499, 500, 501, 502, 503, 504, 505, 506, 507, 508, 509, 510, 511, 512, 513, 514, 515, 516] (by decide +kernel) (by decide +kernel)
set_option maxRecDepth 20000 in
theorem gL_law_X4_share : GoodIn wsL_law (wsV RL 107 RX4 yX4_share wsX4_share) := goodIn_app (goodIn_of _ (by decide +kernel)) ggL_law_X4_share
set_option maxRecDepth 20000 in
theorem ggL_law_X4_thrown : GoodIn wsL_law wsX4_thrown := goodIn_r _ [471, 103, 483, 484, 485, 486, 487, 488, 489, 490, 491, 492, 493, 494, 495, 496, 497, 498, 499, 500, 501, 502, 503, 504, 505, 506, 507, 508, 509, 510, 511, 512, 513, 514, 515, 516] (by decide +kernel) (by decide +kernel)
set_option maxRecDepth 20000 in
theorem gL_law_X4_thrown : GoodIn wsL_law (wsV RL 108 RX4 yX4_thrown wsX4_thrown) := goodIn_app (goodIn_of _ (by decide +kernel)) ggL_law_X4_thrown
theorem dL_law_0 : decode cL_law 0 = .ok (.new 8, 3) := by decide +kernel
theorem dL_law_3 : decode cL_law 3 = .ok (.dup, 1) := by decide +kernel
theorem dL_law_4 : decode cL_law 4 = .ok (.invokespecial 15, 3) := by decide +kernel
theorem dL_law_7 : decode cL_law 7 = .ok (.astore_n 1, 1) := by decide +kernel
theorem dL_law_8 : decode cL_law 8 = .ok (.new 16, 3) := by decide +kernel
theorem dL_law_11 : decode cL_law 11 = .ok (.dup, 1) := by decide +kernel
theorem dL_law_12 : decode cL_law 12 = .ok (.invokespecial 18, 3) := by decide +kernel
theorem dL_law_15 : decode cL_law 15 = .ok (.astore_n 2, 1) := by decide +kernel
theorem dL_law_16 : decode cL_law 16 = .ok (.iconst 1, 1) := by decide +kernel
theorem dL_law_17 : decode cL_law 17 = .ok (.newarray .long, 2) := by decide +kernel
theorem dL_law_19 : decode cL_law 19 = .ok (.astore_n 3, 1) := by decide +kernel
theorem dL_law_20 : decode cL_law 20 = .ok (.iconst 0, 1) := by decide +kernel
theorem dL_law_21 : decode cL_law 21 = .ok (.istore 4, 2) := by decide +kernel
theorem dL_law_23 : decode cL_law 23 = .ok (.iload 4, 2) := by decide +kernel
theorem dL_law_25 : decode cL_law 25 = .ok (.aload_n 0, 1) := by decide +kernel
theorem dL_law_26 : decode cL_law 26 = .ok (.arraylength, 1) := by decide +kernel
theorem dL_law_27 : decode cL_law 27 = .ok (.iconst 4, 1) := by decide +kernel
theorem dL_law_28 : decode cL_law 28 = .ok (.isub, 1) := by decide +kernel
theorem dL_law_29 : decode cL_law 29 = .ok (.if_icmp .gt 681, 3) := by decide +kernel
theorem dL_law_32 : decode cL_law 32 = .ok (.aload_n 0, 1) := by decide +kernel
theorem dL_law_33 : decode cL_law 33 = .ok (.iload 4, 2) := by decide +kernel
theorem dL_law_35 : decode cL_law 35 = .ok (.iaload, 1) := by decide +kernel
theorem dL_law_36 : decode cL_law 36 = .ok (.bipush 31, 2) := by decide +kernel
theorem dL_law_38 : decode cL_law 38 = .ok (.iand, 1) := by decide +kernel
theorem dL_law_39 : decode cL_law 39 = .ok (.tableswitch 665 0 20 #[97, 134, 159, 184, 209, 222, 247, 284, 333, 358, 371, 396, 409, 446, 471, 484, 509, 546, 559, 596, 621], 97) := by decide +kernel
end
section
theorem dL_law_136 : decode cL_law 136 = .ok (.aload_n 1, 1) := by decide +kernel
theorem dL_law_137 : decode cL_law 137 = .ok (.aload_n 0, 1) := by decide +kernel
theorem dL_law_138 : decode cL_law 138 = .ok (.iload 4, 2) := by decide +kernel
theorem dL_law_140 : decode cL_law 140 = .ok (.iconst 1, 1) := by decide +kernel
theorem dL_law_141 : decode cL_law 141 = .ok (.iadd, 1) := by decide +kernel
theorem dL_law_142 : decode cL_law 142 = .ok (.iaload, 1) := by decide +kernel
theorem dL_law_143 : decode cL_law 143 = .ok (.aload_n 0, 1) := by decide +kernel
theorem dL_law_144 : decode cL_law 144 = .ok (.iload 4, 2) := by decide +kernel
theorem dL_law_146 : decode cL_law 146 = .ok (.iconst 2, 1) := by decide +kernel
theorem dL_law_147 : decode cL_law 147 = .ok (.iadd, 1) := by decide +kernel
theorem dL_law_148 : decode cL_law 148 = .ok (.iaload, 1) := by decide +kernel
theorem dL_law_149 : decode cL_law 149 = .ok (.invokevirtual 19, 3) := by decide +kernel
theorem dL_law_152 : decode cL_law 152 = .ok (.aload_n 2, 1) := by decide +kernel
theorem dL_law_153 : decode cL_law 153 = .ok (.aload_n 0, 1) := by decide +kernel
theorem dL_law_154 : decode cL_law 154 = .ok (.iload 4, 2) := by decide +kernel
theorem dL_law_156 : decode cL_law 156 = .ok (.iconst 1, 1) := by decide +kernel
theorem dL_law_157 : decode cL_law 157 = .ok (.iadd, 1) := by decide +kernel
theorem dL_law_158 : decode cL_law 158 = .ok (.iaload, 1) := by decide +kernel
theorem dL_law_159 : decode cL_law 159 = .ok (.aload_n 0, 1) := by decide +kernel
theorem dL_law_160 : decode cL_law 160 = .ok (.iload 4, 2) := by decide +kernel
theorem dL_law_162 : decode cL_law 162 = .ok (.iconst 2, 1) := by decide +kernel
theorem dL_law_163 : decode cL_law 163 = .ok (.iadd, 1) := by decide +kernel
theorem dL_law_164 : decode cL_law 164 = .ok (.iaload, 1) := by decide +kernel
theorem dL_law_165 : decode cL_law 165 = .ok (.invokevirtual 23, 3) := by decide +kernel
theorem dL_law_168 : decode cL_law 168 = .ok (.if_icmp .eq 536, 3) := by decide +kernel
theorem dL_law_171 : decode cL_law 171 = .ok (.iconst 0, 1) := by decide +kernel
theorem dL_law_172 : decode cL_law 172 = .ok (.ireturn, 1) := by decide +kernel
theorem dL_law_173 : decode cL_law 173 = .ok (.aload_n 1, 1) := by decide +kernel
theorem dL_law_174 : decode cL_law 174 = .ok (.aload_n 0, 1) := by decide +kernel
theorem dL_law_175 : decode cL_law 175 = .ok (.iload 4, 2) := by decide +kernel
theorem dL_law_177 : decode cL_law 177 = .ok (.iconst 1, 1) := by decide +kernel
theorem dL_law_178 : decode cL_law 178 = .ok (.iadd, 1) := by decide +kernel
theorem dL_law_179 : decode cL_law 179 = .ok (.iaload, 1) := by decide +kernel
theorem dL_law_180 : decode cL_law 180 = .ok (.invokevirtual 24, 3) := by decide +kernel
theorem dL_law_183 : decode cL_law 183 = .ok (.aload_n 2, 1) := by decide +kernel
theorem dL_law_184 : decode cL_law 184 = .ok (.aload_n 0, 1) := by decide +kernel
theorem dL_law_185 : decode cL_law 185 = .ok (.iload 4, 2) := by decide +kernel
theorem dL_law_187 : decode cL_law 187 = .ok (.iconst 1, 1) := by decide +kernel
theorem dL_law_188 : decode cL_law 188 = .ok (.iadd, 1) := by decide +kernel
theorem dL_law_189 : decode cL_law 189 = .ok (.iaload, 1) := by decide +kernel
theorem dL_law_190 : decode cL_law 190 = .ok (.invokevirtual 28, 3) := by decide +kernel
theorem dL_law_193 : decode cL_law 193 = .ok (.if_icmp .eq 511, 3) := by decide +kernel
theorem dL_law_196 : decode cL_law 196 = .ok (.iconst 0, 1) := by decide +kernel
theorem dL_law_197 : decode cL_law 197 = .ok (.ireturn, 1) := by decide +kernel
theorem dL_law_198 : decode cL_law 198 = .ok (.aload_n 1, 1) := by decide +kernel
theorem dL_law_199 : decode cL_law 199 = .ok (.aload_n 0, 1) := by decide +kernel
theorem dL_law_200 : decode cL_law 200 = .ok (.iload 4, 2) := by decide +kernel
theorem dL_law_202 : decode cL_law 202 = .ok (.iconst 1, 1) := by decide +kernel
theorem dL_law_203 : decode cL_law 203 = .ok (.iadd, 1) := by decide +kernel
theorem dL_law_204 : decode cL_law 204 = .ok (.iaload, 1) := by decide +kernel
theorem dL_law_205 : decode cL_law 205 = .ok (.invokevirtual 29, 3) := by decide +kernel
theorem dL_law_208 : decode cL_law 208 = .ok (.aload_n 2, 1) := by decide +kernel
theorem dL_law_209 : decode cL_law 209 = .ok (.aload_n 0, 1) := by decide +kernel
theorem dL_law_210 : decode cL_law 210 = .ok (.iload 4, 2) := by decide +kernel
theorem dL_law_212 : decode cL_law 212 = .ok (.iconst 1, 1) := by decide +kernel
theorem dL_law_213 : decode cL_law 213 = .ok (.iadd, 1) := by decide +kernel
theorem dL_law_214 : decode cL_law 214 = .ok (.iaload, 1) := by decide +kernel
theorem dL_law_215 : decode cL_law 215 = .ok (.invokevirtual 32, 3) := by decide +kernel
theorem dL_law_218 : decode cL_law 218 = .ok (.if_icmp .eq 486, 3) := by decide +kernel
theorem dL_law_221 : decode cL_law 221 = .ok (.iconst 0, 1) := by decide +kernel
theorem dL_law_222 : decode cL_law 222 = .ok (.ireturn, 1) := by decide +kernel
theorem dL_law_223 : decode cL_law 223 = .ok (.aload_n 1, 1) := by decide +kernel
theorem dL_law_224 : decode cL_law 224 = .ok (.aload_n 0, 1) := by decide +kernel
theorem dL_law_225 : decode cL_law 225 = .ok (.iload 4, 2) := by decide +kernel
theorem dL_law_227 : decode cL_law 227 = .ok (.iconst 1, 1) := by decide +kernel
theorem dL_law_228 : decode cL_law 228 = .ok (.iadd, 1) := by decide +kernel
theorem dL_law_229 : decode cL_law 229 = .ok (.iaload, 1) := by decide +kernel
theorem dL_law_230 : decode cL_law 230 = .ok (.invokevirtual 33, 3) := by decide +kernel
theorem dL_law_233 : decode cL_law 233 = .ok (.aload_n 2, 1) := by decide +kernel
theorem dL_law_234 : decode cL_law 234 = .ok (.aload_n 0, 1) := by decide +kernel
theorem dL_law_235 : decode cL_law 235 = .ok (.iload 4, 2) := by decide +kernel
theorem dL_law_237 : decode cL_law 237 = .ok (.iconst 1, 1) := by decide +kernel
theorem dL_law_238 : decode cL_law 238 = .ok (.iadd, 1) := by decide +kernel
theorem dL_law_239 : decode cL_law 239 = .ok (.iaload, 1) := by decide +kernel
theorem dL_law_240 : decode cL_law 240 = .ok (.invokevirtual 36, 3) := by decide +kernel
theorem dL_law_243 : decode cL_law 243 = .ok (.if_icmp .eq 461, 3) := by decide +kernel
theorem dL_law_246 : decode cL_law 246 = .ok (.iconst 0, 1) := by decide +kernel
theorem dL_law_247 : decode cL_law 247 = .ok (.ireturn, 1) := by decide +kernel
theorem dL_law_248 : decode cL_law 248 = .ok (.aload_n 1, 1) := by decide +kernel
theorem dL_law_249 : decode cL_law 249 = .ok (.invokevirtual 37, 3) := by decide +kernel
theorem dL_law_252 : decode cL_law 252 = .ok (.aload_n 2, 1) := by decide +kernel
theorem dL_law_253 : decode cL_law 253 = .ok (.invokevirtual 40, 3) := by decide +kernel
theorem dL_law_256 : decode cL_law 256 = .ok (.if_icmp .eq 448, 3) := by decide +kernel
theorem dL_law_259 : decode cL_law 259 = .ok (.iconst 0, 1) := by decide +kernel
theorem dL_law_260 : decode cL_law 260 = .ok (.ireturn, 1) := by decide +kernel
theorem dL_law_261 : decode cL_law 261 = .ok (.aload_n 1, 1) := by decide +kernel
theorem dL_law_262 : decode cL_law 262 = .ok (.aload_n 0, 1) := by decide +kernel
theorem dL_law_263 : decode cL_law 263 = .ok (.iload 4, 2) := by decide +kernel
theorem dL_law_265 : decode cL_law 265 = .ok (.iconst 1, 1) := by decide +kernel
theorem dL_law_266 : decode cL_law 266 = .ok (.iadd, 1) := by decide +kernel
theorem dL_law_267 : decode cL_law 267 = .ok (.iaload, 1) := by decide +kernel
theorem dL_law_268 : decode cL_law 268 = .ok (.invokevirtual 41, 3) := by decide +kernel
theorem dL_law_271 : decode cL_law 271 = .ok (.aload_n 2, 1) := by decide +kernel
theorem dL_law_272 : decode cL_law 272 = .ok (.aload_n 0, 1) := by decide +kernel
theorem dL_law_273 : decode cL_law 273 = .ok (.iload 4, 2) := by decide +kernel
theorem dL_law_275 : decode cL_law 275 = .ok (.iconst 1, 1) := by decide +kernel
theorem dL_law_276 : decode cL_law 276 = .ok (.iadd, 1) := by decide +kernel
theorem dL_law_277 : decode cL_law 277 = .ok (.iaload, 1) := by decide +kernel
theorem dL_law_278 : decode cL_law 278 = .ok (.invokevirtual 44, 3) := by decide +kernel
theorem dL_law_281 : decode cL_law 281 = .ok (.if_icmp .eq 423, 3) := by decide +kernel
theorem dL_law_284 : decode cL_law 284 = .ok (.iconst 0, 1) := by decide +kernel
theorem dL_law_285 : decode cL_law 285 = .ok (.ireturn, 1) := by decide +kernel
theorem dL_law_286 : decode cL_law 286 = .ok (.aload_n 1, 1) := by decide +kernel
theorem dL_law_287 : decode cL_law 287 = .ok (.aload_n 0, 1) := by decide +kernel
theorem dL_law_288 : decode cL_law 288 = .ok (.iload 4, 2) := by decide +kernel
theorem dL_law_290 : decode cL_law 290 = .ok (.iconst 1, 1) := by decide +kernel
theorem dL_law_291 : decode cL_law 291 = .ok (.iadd, 1) := by decide +kernel
theorem dL_law_292 : decode cL_law 292 = .ok (.iaload, 1) := by decide +kernel
theorem dL_law_293 : decode cL_law 293 = .ok (.aload_n 0, 1) := by decide +kernel
theorem dL_law_294 : decode cL_law 294 = .ok (.iload 4, 2) := by decide +kernel
theorem dL_law_296 : decode cL_law 296 = .ok (.iconst 2, 1) := by decide +kernel
theorem dL_law_297 : decode cL_law 297 = .ok (.iadd, 1) := by decide +kernel
theorem dL_law_298 : decode cL_law 298 = .ok (.iaload, 1) := by decide +kernel
theorem dL_law_299 : decode cL_law 299 = .ok (.invokevirtual 45, 3) := by decide +kernel
theorem dL_law_302 : decode cL_law 302 = .ok (.aload_n 2, 1) := by decide +kernel
theorem dL_law_303 : decode cL_law 303 = .ok (.aload_n 0, 1) := by decide +kernel
theorem dL_law_304 : decode cL_law 304 = .ok (.iload 4, 2) := by decide +kernel
theorem dL_law_306 : decode cL_law 306 = .ok (.iconst 1, 1) := by decide +kernel
theorem dL_law_307 : decode cL_law 307 = .ok (.iadd, 1) := by decide +kernel
theorem dL_law_308 : decode cL_law 308 = .ok (.iaload, 1) := by decide +kernel
theorem dL_law_309 : decode cL_law 309 = .ok (.aload_n 0, 1) := by decide +kernel
theorem dL_law_310 : decode cL_law 310 = .ok (.iload 4, 2) := by decide +kernel
theorem dL_law_312 : decode cL_law 312 = .ok (.iconst 2, 1) := by decide +kernel
theorem dL_law_313 : decode cL_law 313 = .ok (.iadd, 1) := by decide +kernel
theorem dL_law_314 : decode cL_law 314 = .ok (.iaload, 1) := by decide +kernel
theorem dL_law_315 : decode cL_law 315 = .ok (.invokevirtual 48, 3) := by decide +kernel
theorem dL_law_318 : decode cL_law 318 = .ok (.if_icmp .eq 386, 3) := by decide +kernel
theorem dL_law_321 : decode cL_law 321 = .ok (.iconst 0, 1) := by decide +kernel
theorem dL_law_322 : decode cL_law 322 = .ok (.ireturn, 1) := by decide +kernel
theorem dL_law_323 : decode cL_law 323 = .ok (.aload_n 1, 1) := by decide +kernel
theorem dL_law_324 : decode cL_law 324 = .ok (.aload_n 0, 1) := by decide +kernel
theorem dL_law_325 : decode cL_law 325 = .ok (.iload 4, 2) := by decide +kernel
theorem dL_law_327 : decode cL_law 327 = .ok (.iconst 1, 1) := by decide +kernel
theorem dL_law_328 : decode cL_law 328 = .ok (.iadd, 1) := by decide +kernel
theorem dL_law_329 : decode cL_law 329 = .ok (.iaload, 1) := by decide +kernel
theorem dL_law_330 : decode cL_law 330 = .ok (.aload_n 0, 1) := by decide +kernel
theorem dL_law_331 : decode cL_law 331 = .ok (.iload 4, 2) := by decide +kernel
theorem dL_law_333 : decode cL_law 333 = .ok (.iconst 2, 1) := by decide +kernel
theorem dL_law_334 : decode cL_law 334 = .ok (.iadd, 1) := by decide +kernel
theorem dL_law_335 : decode cL_law 335 = .ok (.iaload, 1) := by decide +kernel
theorem dL_law_336 : decode cL_law 336 = .ok (.aload_n 0, 1) := by decide +kernel
theorem dL_law_337 : decode cL_law 337 = .ok (.iload 4, 2) := by decide +kernel
theorem dL_law_339 : decode cL_law 339 = .ok (.iconst 3, 1) := by decide +kernel
theorem dL_law_340 : decode cL_law 340 = .ok (.iadd, 1) := by decide +kernel
theorem dL_law_341 : decode cL_law 341 = .ok (.iaload, 1) := by decide +kernel
theorem dL_law_342 : decode cL_law 342 = .ok (.invokevirtual 49, 3) := by decide +kernel
theorem dL_law_345 : decode cL_law 345 = .ok (.aload_n 2, 1) := by decide +kernel
theorem dL_law_346 : decode cL_law 346 = .ok (.aload_n 0, 1) := by decide +kernel
theorem dL_law_347 : decode cL_law 347 = .ok (.iload 4, 2) := by decide +kernel
theorem dL_law_349 : decode cL_law 349 = .ok (.iconst 1, 1) := by decide +kernel
theorem dL_law_350 : decode cL_law 350 = .ok (.iadd, 1) := by decide +kernel
theorem dL_law_351 : decode cL_law 351 = .ok (.iaload, 1) := by decide +kernel
theorem dL_law_352 : decode cL_law 352 = .ok (.aload_n 0, 1) := by decide +kernel
theorem dL_law_353 : decode cL_law 353 = .ok (.iload 4, 2) := by decide +kernel
theorem dL_law_355 : decode cL_law 355 = .ok (.iconst 2, 1) := by decide +kernel
theorem dL_law_356 : decode cL_law 356 = .ok (.iadd, 1) := by decide +kernel
theorem dL_law_357 : decode cL_law 357 = .ok (.iaload, 1) := by decide +kernel
theorem dL_law_358 : decode cL_law 358 = .ok (.aload_n 0, 1) := by decide +kernel
theorem dL_law_359 : decode cL_law 359 = .ok (.iload 4, 2) := by decide +kernel
theorem dL_law_361 : decode cL_law 361 = .ok (.iconst 3, 1) := by decide +kernel
theorem dL_law_362 : decode cL_law 362 = .ok (.iadd, 1) := by decide +kernel
theorem dL_law_363 : decode cL_law 363 = .ok (.iaload, 1) := by decide +kernel
theorem dL_law_364 : decode cL_law 364 = .ok (.invokevirtual 53, 3) := by decide +kernel
theorem dL_law_367 : decode cL_law 367 = .ok (.if_icmp .eq 337, 3) := by decide +kernel
theorem dL_law_370 : decode cL_law 370 = .ok (.iconst 0, 1) := by decide +kernel
theorem dL_law_371 : decode cL_law 371 = .ok (.ireturn, 1) := by decide +kernel
theorem dL_law_372 : decode cL_law 372 = .ok (.aload_n 1, 1) := by decide +kernel
theorem dL_law_373 : decode cL_law 373 = .ok (.aload_n 0, 1) := by decide +kernel
theorem dL_law_374 : decode cL_law 374 = .ok (.iload 4, 2) := by decide +kernel
theorem dL_law_376 : decode cL_law 376 = .ok (.iconst 1, 1) := by decide +kernel
theorem dL_law_377 : decode cL_law 377 = .ok (.iadd, 1) := by decide +kernel
theorem dL_law_378 : decode cL_law 378 = .ok (.iaload, 1) := by decide +kernel
theorem dL_law_379 : decode cL_law 379 = .ok (.invokevirtual 54, 3) := by decide +kernel
theorem dL_law_382 : decode cL_law 382 = .ok (.aload_n 2, 1) := by decide +kernel
theorem dL_law_383 : decode cL_law 383 = .ok (.aload_n 0, 1) := by decide +kernel
theorem dL_law_384 : decode cL_law 384 = .ok (.iload 4, 2) := by decide +kernel
theorem dL_law_386 : decode cL_law 386 = .ok (.iconst 1, 1) := by decide +kernel
theorem dL_law_387 : decode cL_law 387 = .ok (.iadd, 1) := by decide +kernel
theorem dL_law_388 : decode cL_law 388 = .ok (.iaload, 1) := by decide +kernel
theorem dL_law_389 : decode cL_law 389 = .ok (.invokevirtual 57, 3) := by decide +kernel
theorem dL_law_392 : decode cL_law 392 = .ok (.if_icmp .eq 312, 3) := by decide +kernel
theorem dL_law_395 : decode cL_law 395 = .ok (.iconst 0, 1) := by decide +kernel
theorem dL_law_396 : decode cL_law 396 = .ok (.ireturn, 1) := by decide +kernel
theorem dL_law_397 : decode cL_law 397 = .ok (.aload_n 1, 1) := by decide +kernel
theorem dL_law_398 : decode cL_law 398 = .ok (.invokevirtual 58, 3) := by decide +kernel
theorem dL_law_401 : decode cL_law 401 = .ok (.aload_n 2, 1) := by decide +kernel
theorem dL_law_402 : decode cL_law 402 = .ok (.invokevirtual 61, 3) := by decide +kernel
theorem dL_law_405 : decode cL_law 405 = .ok (.if_icmp .eq 299, 3) := by decide +kernel
theorem dL_law_408 : decode cL_law 408 = .ok (.iconst 0, 1) := by decide +kernel
theorem dL_law_409 : decode cL_law 409 = .ok (.ireturn, 1) := by decide +kernel
theorem dL_law_410 : decode cL_law 410 = .ok (.aload_n 1, 1) := by decide +kernel
theorem dL_law_411 : decode cL_law 411 = .ok (.aload_n 0, 1) := by decide +kernel
theorem dL_law_412 : decode cL_law 412 = .ok (.iload 4, 2) := by decide +kernel
theorem dL_law_414 : decode cL_law 414 = .ok (.iconst 1, 1) := by decide +kernel
theorem dL_law_415 : decode cL_law 415 = .ok (.iadd, 1) := by decide +kernel
theorem dL_law_416 : decode cL_law 416 = .ok (.iaload, 1) := by decide +kernel
theorem dL_law_417 : decode cL_law 417 = .ok (.invokevirtual 62, 3) := by decide +kernel
theorem dL_law_420 : decode cL_law 420 = .ok (.aload_n 2, 1) := by decide +kernel
theorem dL_law_421 : decode cL_law 421 = .ok (.aload_n 0, 1) := by decide +kernel
theorem dL_law_422 : decode cL_law 422 = .ok (.iload 4, 2) := by decide +kernel
theorem dL_law_424 : decode cL_law 424 = .ok (.iconst 1, 1) := by decide +kernel
theorem dL_law_425 : decode cL_law 425 = .ok (.iadd, 1) := by decide +kernel
theorem dL_law_426 : decode cL_law 426 = .ok (.iaload, 1) := by decide +kernel
theorem dL_law_427 : decode cL_law 427 = .ok (.invokevirtual 65, 3) := by decide +kernel
theorem dL_law_430 : decode cL_law 430 = .ok (.if_icmp .eq 274, 3) := by decide +kernel
theorem dL_law_433 : decode cL_law 433 = .ok (.iconst 0, 1) := by decide +kernel
theorem dL_law_434 : decode cL_law 434 = .ok (.ireturn, 1) := by decide +kernel
theorem dL_law_435 : decode cL_law 435 = .ok (.aload_n 1, 1) := by decide +kernel
theorem dL_law_436 : decode cL_law 436 = .ok (.invokevirtual 66, 3) := by decide +kernel
theorem dL_law_439 : decode cL_law 439 = .ok (.aload_n 2, 1) := by decide +kernel
theorem dL_law_440 : decode cL_law 440 = .ok (.invokevirtual 69, 3) := by decide +kernel
theorem dL_law_443 : decode cL_law 443 = .ok (.if_icmp .eq 261, 3) := by decide +kernel
theorem dL_law_446 : decode cL_law 446 = .ok (.iconst 0, 1) := by decide +kernel
theorem dL_law_447 : decode cL_law 447 = .ok (.ireturn, 1) := by decide +kernel
theorem dL_law_448 : decode cL_law 448 = .ok (.aload_n 1, 1) := by decide +kernel
theorem dL_law_449 : decode cL_law 449 = .ok (.aload_n 0, 1) := by decide +kernel
theorem dL_law_450 : decode cL_law 450 = .ok (.iload 4, 2) := by decide +kernel
theorem dL_law_452 : decode cL_law 452 = .ok (.iconst 1, 1) := by decide +kernel
theorem dL_law_453 : decode cL_law 453 = .ok (.iadd, 1) := by decide +kernel
theorem dL_law_454 : decode cL_law 454 = .ok (.iaload, 1) := by decide +kernel
theorem dL_law_455 : decode cL_law 455 = .ok (.aload_n 0, 1) := by decide +kernel
theorem dL_law_456 : decode cL_law 456 = .ok (.iload 4, 2) := by decide +kernel
theorem dL_law_458 : decode cL_law 458 = .ok (.iconst 2, 1) := by decide +kernel
theorem dL_law_459 : decode cL_law 459 = .ok (.iadd, 1) := by decide +kernel
theorem dL_law_460 : decode cL_law 460 = .ok (.iaload, 1) := by decide +kernel
theorem dL_law_461 : decode cL_law 461 = .ok (.invokevirtual 70, 3) := by decide +kernel
theorem dL_law_464 : decode cL_law 464 = .ok (.aload_n 2, 1) := by decide +kernel
theorem dL_law_465 : decode cL_law 465 = .ok (.aload_n 0, 1) := by decide +kernel
theorem dL_law_466 : decode cL_law 466 = .ok (.iload 4, 2) := by decide +kernel
theorem dL_law_468 : decode cL_law 468 = .ok (.iconst 1, 1) := by decide +kernel
theorem dL_law_469 : decode cL_law 469 = .ok (.iadd, 1) := by decide +kernel
theorem dL_law_470 : decode cL_law 470 = .ok (.iaload, 1) := by decide +kernel
theorem dL_law_471 : decode cL_law 471 = .ok (.aload_n 0, 1) := by decide +kernel
theorem dL_law_472 : decode cL_law 472 = .ok (.iload 4, 2) := by decide +kernel
theorem dL_law_474 : decode cL_law 474 = .ok (.iconst 2, 1) := by decide +kernel
theorem dL_law_475 : decode cL_law 475 = .ok (.iadd, 1) := by decide +kernel
theorem dL_law_476 : decode cL_law 476 = .ok (.iaload, 1) := by decide +kernel
theorem dL_law_477 : decode cL_law 477 = .ok (.invokevirtual 73, 3) := by decide +kernel
theorem dL_law_480 : decode cL_law 480 = .ok (.if_icmp .eq 224, 3) := by decide +kernel
theorem dL_law_483 : decode cL_law 483 = .ok (.iconst 0, 1) := by decide +kernel
theorem dL_law_484 : decode cL_law 484 = .ok (.ireturn, 1) := by decide +kernel
theorem dL_law_485 : decode cL_law 485 = .ok (.aload_n 1, 1) := by decide +kernel
theorem dL_law_486 : decode cL_law 486 = .ok (.aload_n 0, 1) := by decide +kernel
theorem dL_law_487 : decode cL_law 487 = .ok (.iload 4, 2) := by decide +kernel
theorem dL_law_489 : decode cL_law 489 = .ok (.iconst 1, 1) := by decide +kernel
theorem dL_law_490 : decode cL_law 490 = .ok (.iadd, 1) := by decide +kernel
theorem dL_law_491 : decode cL_law 491 = .ok (.iaload, 1) := by decide +kernel
theorem dL_law_492 : decode cL_law 492 = .ok (.invokevirtual 74, 3) := by decide +kernel
theorem dL_law_495 : decode cL_law 495 = .ok (.aload_n 2, 1) := by decide +kernel
theorem dL_law_496 : decode cL_law 496 = .ok (.aload_n 0, 1) := by decide +kernel
theorem dL_law_497 : decode cL_law 497 = .ok (.iload 4, 2) := by decide +kernel
theorem dL_law_499 : decode cL_law 499 = .ok (.iconst 1, 1) := by decide +kernel
theorem dL_law_500 : decode cL_law 500 = .ok (.iadd, 1) := by decide +kernel
theorem dL_law_501 : decode cL_law 501 = .ok (.iaload, 1) := by decide +kernel
theorem dL_law_502 : decode cL_law 502 = .ok (.invokevirtual 77, 3) := by decide +kernel
theorem dL_law_505 : decode cL_law 505 = .ok (.if_icmp .eq 199, 3) := by decide +kernel
theorem dL_law_508 : decode cL_law 508 = .ok (.iconst 0, 1) := by decide +kernel
theorem dL_law_509 : decode cL_law 509 = .ok (.ireturn, 1) := by decide +kernel
theorem dL_law_510 : decode cL_law 510 = .ok (.aload_n 1, 1) := by decide +kernel
theorem dL_law_511 : decode cL_law 511 = .ok (.invokevirtual 78, 3) := by decide +kernel
theorem dL_law_514 : decode cL_law 514 = .ok (.aload_n 2, 1) := by decide +kernel
theorem dL_law_515 : decode cL_law 515 = .ok (.invokevirtual 81, 3) := by decide +kernel
theorem dL_law_518 : decode cL_law 518 = .ok (.if_icmp .eq 186, 3) := by decide +kernel
theorem dL_law_521 : decode cL_law 521 = .ok (.iconst 0, 1) := by decide +kernel
theorem dL_law_522 : decode cL_law 522 = .ok (.ireturn, 1) := by decide +kernel
theorem dL_law_523 : decode cL_law 523 = .ok (.aload_n 1, 1) := by decide +kernel
theorem dL_law_524 : decode cL_law 524 = .ok (.aload_n 0, 1) := by decide +kernel
theorem dL_law_525 : decode cL_law 525 = .ok (.iload 4, 2) := by decide +kernel
theorem dL_law_527 : decode cL_law 527 = .ok (.iconst 1, 1) := by decide +kernel
theorem dL_law_528 : decode cL_law 528 = .ok (.iadd, 1) := by decide +kernel
theorem dL_law_529 : decode cL_law 529 = .ok (.iaload, 1) := by decide +kernel
theorem dL_law_530 : decode cL_law 530 = .ok (.invokevirtual 82, 3) := by decide +kernel
theorem dL_law_533 : decode cL_law 533 = .ok (.aload_n 2, 1) := by decide +kernel
theorem dL_law_534 : decode cL_law 534 = .ok (.aload_n 0, 1) := by decide +kernel
theorem dL_law_535 : decode cL_law 535 = .ok (.iload 4, 2) := by decide +kernel
theorem dL_law_537 : decode cL_law 537 = .ok (.iconst 1, 1) := by decide +kernel
theorem dL_law_538 : decode cL_law 538 = .ok (.iadd, 1) := by decide +kernel
theorem dL_law_539 : decode cL_law 539 = .ok (.iaload, 1) := by decide +kernel
theorem dL_law_540 : decode cL_law 540 = .ok (.invokevirtual 85, 3) := by decide +kernel
theorem dL_law_543 : decode cL_law 543 = .ok (.if_icmp .eq 161, 3) := by decide +kernel
theorem dL_law_546 : decode cL_law 546 = .ok (.iconst 0, 1) := by decide +kernel
theorem dL_law_547 : decode cL_law 547 = .ok (.ireturn, 1) := by decide +kernel
theorem dL_law_548 : decode cL_law 548 = .ok (.aload_n 1, 1) := by decide +kernel
theorem dL_law_549 : decode cL_law 549 = .ok (.aload_n 0, 1) := by decide +kernel
theorem dL_law_550 : decode cL_law 550 = .ok (.iload 4, 2) := by decide +kernel
theorem dL_law_552 : decode cL_law 552 = .ok (.iconst 1, 1) := by decide +kernel
theorem dL_law_553 : decode cL_law 553 = .ok (.iadd, 1) := by decide +kernel
theorem dL_law_554 : decode cL_law 554 = .ok (.iaload, 1) := by decide +kernel
theorem dL_law_555 : decode cL_law 555 = .ok (.aload_n 0, 1) := by decide +kernel
theorem dL_law_556 : decode cL_law 556 = .ok (.iload 4, 2) := by decide +kernel
theorem dL_law_558 : decode cL_law 558 = .ok (.iconst 2, 1) := by decide +kernel
theorem dL_law_559 : decode cL_law 559 = .ok (.iadd, 1) := by decide +kernel
theorem dL_law_560 : decode cL_law 560 = .ok (.iaload, 1) := by decide +kernel
theorem dL_law_561 : decode cL_law 561 = .ok (.invokevirtual 86, 3) := by decide +kernel
theorem dL_law_564 : decode cL_law 564 = .ok (.aload_n 2, 1) := by decide +kernel
theorem dL_law_565 : decode cL_law 565 = .ok (.aload_n 0, 1) := by decide +kernel
theorem dL_law_566 : decode cL_law 566 = .ok (.iload 4, 2) := by decide +kernel
theorem dL_law_568 : decode cL_law 568 = .ok (.iconst 1, 1) := by decide +kernel
theorem dL_law_569 : decode cL_law 569 = .ok (.iadd, 1) := by decide +kernel
theorem dL_law_570 : decode cL_law 570 = .ok (.iaload, 1) := by decide +kernel
theorem dL_law_571 : decode cL_law 571 = .ok (.aload_n 0, 1) := by decide +kernel
theorem dL_law_572 : decode cL_law 572 = .ok (.iload 4, 2) := by decide +kernel
theorem dL_law_574 : decode cL_law 574 = .ok (.iconst 2, 1) := by decide +kernel
theorem dL_law_575 : decode cL_law 575 = .ok (.iadd, 1) := by decide +kernel
theorem dL_law_576 : decode cL_law 576 = .ok (.iaload, 1) := by decide +kernel
theorem dL_law_577 : decode cL_law 577 = .ok (.invokevirtual 89, 3) := by decide +kernel
theorem dL_law_580 : decode cL_law 580 = .ok (.if_icmp .eq 124, 3) := by decide +kernel
theorem dL_law_583 : decode cL_law 583 = .ok (.iconst 0, 1) := by decide +kernel
theorem dL_law_584 : decode cL_law 584 = .ok (.ireturn, 1) := by decide +kernel
theorem dL_law_585 : decode cL_law 585 = .ok (.aload_n 1, 1) := by decide +kernel
theorem dL_law_586 : decode cL_law 586 = .ok (.invokevirtual 90, 3) := by decide +kernel
theorem dL_law_589 : decode cL_law 589 = .ok (.aload_n 2, 1) := by decide +kernel
theorem dL_law_590 : decode cL_law 590 = .ok (.invokevirtual 93, 3) := by decide +kernel
theorem dL_law_593 : decode cL_law 593 = .ok (.if_icmp .eq 111, 3) := by decide +kernel
theorem dL_law_596 : decode cL_law 596 = .ok (.iconst 0, 1) := by decide +kernel
theorem dL_law_597 : decode cL_law 597 = .ok (.ireturn, 1) := by decide +kernel
theorem dL_law_598 : decode cL_law 598 = .ok (.aload_n 1, 1) := by decide +kernel
theorem dL_law_599 : decode cL_law 599 = .ok (.aload_n 0, 1) := by decide +kernel
theorem dL_law_600 : decode cL_law 600 = .ok (.iload 4, 2) := by decide +kernel
theorem dL_law_602 : decode cL_law 602 = .ok (.iconst 1, 1) := by decide +kernel
theorem dL_law_603 : decode cL_law 603 = .ok (.iadd, 1) := by decide +kernel
theorem dL_law_604 : decode cL_law 604 = .ok (.iaload, 1) := by decide +kernel
theorem dL_law_605 : decode cL_law 605 = .ok (.aload_n 0, 1) := by decide +kernel
theorem dL_law_606 : decode cL_law 606 = .ok (.iload 4, 2) := by decide +kernel
theorem dL_law_608 : decode cL_law 608 = .ok (.iconst 2, 1) := by decide +kernel
theorem dL_law_609 : decode cL_law 609 = .ok (.iadd, 1) := by decide +kernel
theorem dL_law_610 : decode cL_law 610 = .ok (.iaload, 1) := by decide +kernel
theorem dL_law_611 : decode cL_law 611 = .ok (.invokevirtual 94, 3) := by decide +kernel
theorem dL_law_614 : decode cL_law 614 = .ok (.aload_n 2, 1) := by decide +kernel
theorem dL_law_615 : decode cL_law 615 = .ok (.aload_n 0, 1) := by decide +kernel
theorem dL_law_616 : decode cL_law 616 = .ok (.iload 4, 2) := by decide +kernel
theorem dL_law_618 : decode cL_law 618 = .ok (.iconst 1, 1) := by decide +kernel
theorem dL_law_619 : decode cL_law 619 = .ok (.iadd, 1) := by decide +kernel
theorem dL_law_620 : decode cL_law 620 = .ok (.iaload, 1) := by decide +kernel
theorem dL_law_621 : decode cL_law 621 = .ok (.aload_n 0, 1) := by decide +kernel
theorem dL_law_622 : decode cL_law 622 = .ok (.iload 4, 2) := by decide +kernel
theorem dL_law_624 : decode cL_law 624 = .ok (.iconst 2, 1) := by decide +kernel
theorem dL_law_625 : decode cL_law 625 = .ok (.iadd, 1) := by decide +kernel
theorem dL_law_626 : decode cL_law 626 = .ok (.iaload, 1) := by decide +kernel
theorem dL_law_627 : decode cL_law 627 = .ok (.invokevirtual 97, 3) := by decide +kernel
theorem dL_law_630 : decode cL_law 630 = .ok (.if_icmp .eq 74, 3) := by decide +kernel
theorem dL_law_633 : decode cL_law 633 = .ok (.iconst 0, 1) := by decide +kernel
theorem dL_law_634 : decode cL_law 634 = .ok (.ireturn, 1) := by decide +kernel
theorem dL_law_635 : decode cL_law 635 = .ok (.aload_n 1, 1) := by decide +kernel
theorem dL_law_636 : decode cL_law 636 = .ok (.aload_n 0, 1) := by decide +kernel
theorem dL_law_637 : decode cL_law 637 = .ok (.iload 4, 2) := by decide +kernel
theorem dL_law_639 : decode cL_law 639 = .ok (.iconst 1, 1) := by decide +kernel
theorem dL_law_640 : decode cL_law 640 = .ok (.iadd, 1) := by decide +kernel
theorem dL_law_641 : decode cL_law 641 = .ok (.iaload, 1) := by decide +kernel
theorem dL_law_642 : decode cL_law 642 = .ok (.invokevirtual 98, 3) := by decide +kernel
end
section
theorem dL_law_645 : decode cL_law 645 = .ok (.aload_n 2, 1) := by decide +kernel
theorem dL_law_646 : decode cL_law 646 = .ok (.aload_n 0, 1) := by decide +kernel
theorem dL_law_647 : decode cL_law 647 = .ok (.iload 4, 2) := by decide +kernel
theorem dL_law_649 : decode cL_law 649 = .ok (.iconst 1, 1) := by decide +kernel
theorem dL_law_650 : decode cL_law 650 = .ok (.iadd, 1) := by decide +kernel
theorem dL_law_651 : decode cL_law 651 = .ok (.iaload, 1) := by decide +kernel
theorem dL_law_652 : decode cL_law 652 = .ok (.invokevirtual 101, 3) := by decide +kernel
theorem dL_law_655 : decode cL_law 655 = .ok (.if_icmp .eq 49, 3) := by decide +kernel
theorem dL_law_658 : decode cL_law 658 = .ok (.iconst 0, 1) := by decide +kernel
theorem dL_law_659 : decode cL_law 659 = .ok (.ireturn, 1) := by decide +kernel
theorem dL_law_660 : decode cL_law 660 = .ok (.aload_n 1, 1) := by decide +kernel
theorem dL_law_661 : decode cL_law 661 = .ok (.aload_n 3, 1) := by decide +kernel
theorem dL_law_662 : decode cL_law 662 = .ok (.invokestatic 102, 3) := by decide +kernel
theorem dL_law_665 : decode cL_law 665 = .ok (.istore 5, 2) := by decide +kernel
theorem dL_law_667 : decode cL_law 667 = .ok (.aload_n 2, 1) := by decide +kernel
theorem dL_law_668 : decode cL_law 668 = .ok (.invokevirtual 107, 3) := by decide +kernel
theorem dL_law_671 : decode cL_law 671 = .ok (.istore 6, 2) := by decide +kernel
theorem dL_law_673 : decode cL_law 673 = .ok (.aload_n 2, 1) := by decide +kernel
theorem dL_law_674 : decode cL_law 674 = .ok (.invokevirtual 108, 3) := by decide +kernel
theorem dL_law_677 : decode cL_law 677 = .ok (.iload 5, 2) := by decide +kernel
theorem dL_law_679 : decode cL_law 679 = .ok (.if_icmp .eq 5, 3) := by decide +kernel
theorem dL_law_682 : decode cL_law 682 = .ok (.iconst 0, 1) := by decide +kernel
theorem dL_law_683 : decode cL_law 683 = .ok (.ireturn, 1) := by decide +kernel
theorem dL_law_684 : decode cL_law 684 = .ok (.iload 5, 2) := by decide +kernel
theorem dL_law_686 : decode cL_law 686 = .ok (.ifCond .ne 15, 3) := by decide +kernel
theorem dL_law_689 : decode cL_law 689 = .ok (.aload_n 3, 1) := by decide +kernel
theorem dL_law_690 : decode cL_law 690 = .ok (.iconst 0, 1) := by decide +kernel
theorem dL_law_691 : decode cL_law 691 = .ok (.laload, 1) := by decide +kernel
theorem dL_law_692 : decode cL_law 692 = .ok (.iload 6, 2) := by decide +kernel
theorem dL_law_694 : decode cL_law 694 = .ok (.i2l, 1) := by decide +kernel
theorem dL_law_695 : decode cL_law 695 = .ok (.lcmp, 1) := by decide +kernel
theorem dL_law_696 : decode cL_law 696 = .ok (.ifCond .eq 5, 3) := by decide +kernel
theorem dL_law_699 : decode cL_law 699 = .ok (.iconst 0, 1) := by decide +kernel
theorem dL_law_700 : decode cL_law 700 = .ok (.ireturn, 1) := by decide +kernel
theorem dL_law_701 : decode cL_law 701 = .ok (.goto 3, 3) := by decide +kernel
theorem dL_law_704 : decode cL_law 704 = .ok (.iinc 4 4, 3) := by decide +kernel
theorem dL_law_707 : decode cL_law 707 = .ok (.goto (-684), 3) := by decide +kernel
theorem dL_law_710 : decode cL_law 710 = .ok (.iconst 1, 1) := by decide +kernel
theorem dL_law_711 : decode cL_law 711 = .ok (.ireturn, 1) := by decide +kernel
abbrev vwCl : List vw_C := [(RX0, TX0, 3), (RX1, TX1, 6), (RX2, TX2, 8), (RX3, TX3, 11), (RX4, TX4, 34)]
end
section
/-! The memory as the proof sees it: kinds, lengths, whole numbers, references, how many cells. Kinds 0 to 4: objects of vwCl; 5 int[], 6 boolean[], 7 Segment[], 8 int[][], 9 long[] (of numbers that fit an int); from 10 on: not ours -/
abbrev Mem : Type := (Nat → Nat) × (Nat → Nat) × (Nat → Nat → Int32) × (Nat → Nat → Option Nat) × Nat
def mK (m : Mem) : Nat → Nat := m.1
def mN (m : Mem) : Nat → Nat := m.2.1
def mI (m : Mem) : Nat → Nat → Int32 := m.2.2.1
def mR (m : Mem) : Nat → Nat → Option Nat := m.2.2.2.1
def mS (m : Mem) : Nat := m.2.2.2.2
def up2 {α : Type} (f : Nat → Nat → α) (a k : Nat) (v : α) : Nat → Nat → α := fun b j => if b = a ∧ j = k then v else f b j
def setI (m : Mem) (a k : Nat) (v : Int32) : Mem := (m.1, m.2.1, up2 m.2.2.1 a k v, m.2.2.2.1, m.2.2.2.2)
def setR (m : Mem) (a k : Nat) (v : Option Nat) : Mem := (m.1, m.2.1, m.2.2.1, up2 m.2.2.2.1 a k v, m.2.2.2.2)
def allo (m : Mem) (t n : Nat) : Mem := (fun b => if b = m.2.2.2.2 then t else m.1 b, fun b => if b = m.2.2.2.2 then n else m.2.1 b, fun b j => if b = m.2.2.2.2 then 0 else m.2.2.1 b j, fun b j => if b = m.2.2.2.2 then none else m.2.2.2.1 b j, m.2.2.2.2 + 1)
theorem mK_setI (m : Mem) (a k : Nat) (v : Int32) : mK (setI m a k v) = mK m := rfl
theorem mN_setI (m : Mem) (a k : Nat) (v : Int32) : mN (setI m a k v) = mN m := rfl
theorem mR_setI (m : Mem) (a k : Nat) (v : Int32) : mR (setI m a k v) = mR m := rfl
theorem mS_setI (m : Mem) (a k : Nat) (v : Int32) : mS (setI m a k v) = mS m := rfl
theorem mI_setI (m : Mem) (a k : Nat) (v : Int32) (b j : Nat) : mI (setI m a k v) b j = if b = a ∧ j = k then v else mI m b j := rfl
theorem mK_setR (m : Mem) (a k : Nat) (v : Option Nat) : mK (setR m a k v) = mK m := rfl
theorem mN_setR (m : Mem) (a k : Nat) (v : Option Nat) : mN (setR m a k v) = mN m := rfl
theorem mI_setR (m : Mem) (a k : Nat) (v : Option Nat) : mI (setR m a k v) = mI m := rfl
theorem mS_setR (m : Mem) (a k : Nat) (v : Option Nat) : mS (setR m a k v) = mS m := rfl
theorem mR_setR (m : Mem) (a k : Nat) (v : Option Nat) (b j : Nat) : mR (setR m a k v) b j = if b = a ∧ j = k then v else mR m b j := rfl
theorem mK_allo (m : Mem) (t n b : Nat) : mK (allo m t n) b = if b = mS m then t else mK m b := rfl
theorem mN_allo (m : Mem) (t n b : Nat) : mN (allo m t n) b = if b = mS m then n else mN m b := rfl
theorem mI_allo (m : Mem) (t n b j : Nat) : mI (allo m t n) b j = if b = mS m then 0 else mI m b j := rfl
theorem mR_allo (m : Mem) (t n b j : Nat) : mR (allo m t n) b j = if b = mS m then none else mR m b j := rfl
theorem mS_allo (m : Mem) (t n : Nat) : mS (allo m t n) = mS m + 1 := rfl
/-! A step of a program over that memory: an answer and the memory behind it, or none where the machine would throw or the proof's own bounds would be passed -/
abbrev HM (α : Type) : Type := Mem → Option (α × Mem)
def bnd {α β : Type} (x : HM α) (f : α → HM β) : HM β := fun m => match x m with
  | none => none
  | some (a, m') => f a m'
def rt {α : Type} (a : α) : HM α := fun m => some (a, m)
def rz (a : Int32) : HM Int32 := fun m => if a = 0 ∨ a = 1 then some (a, m) else none
def fl {α : Type} : HM α := fun _ => none
def ifc {α : Type} (c : Prop) [Decidable c] (x y : HM α) : HM α := fun m => if c then x m else y m
def ifn {α : Type} (r : Option Nat) (x : HM α) (y : Nat → HM α) : HM α := match r with
  | none => x
  | some a => y a
def gI (t a k : Nat) : HM Int32 := fun m => if mK m a = t then some (mI m a k, m) else none
def gR (t a k : Nat) : HM (Option Nat) := fun m => if mK m a = t then some (mR m a k, m) else none
def gN (t a k : Nat) : HM Nat := fun m => if mK m a = t then (match mR m a k with
  | none => none
  | some b => some (b, m)) else none
def pI (t a k : Nat) (v : Int32) : HM Unit := fun m => if mK m a = t then some ((), setI m a k v) else none
def pR (t a k : Nat) (v : Option Nat) : HM Unit := fun m => if mK m a = t then some ((), setR m a k v) else none
def lI (t a : Nat) (i : Int32) : HM Int32 := fun m => if mK m a = t ∧ ¬ (i < 0 ∨ mN m a ≤ i.toNatClampNeg) then some (mI m a i.toNatClampNeg, m) else none
def sI (t a : Nat) (i v : Int32) : HM Unit := fun m => if mK m a = t ∧ ¬ (i < 0 ∨ mN m a ≤ i.toNatClampNeg) then some ((), setI m a i.toNatClampNeg v) else none
def sZ (a : Nat) (i v : Int32) : HM Unit := fun m => if (mK m a = 6 ∧ ¬ (i < 0 ∨ mN m a ≤ i.toNatClampNeg)) ∧ (v = 0 ∨ v = 1) then some ((), setI m a i.toNatClampNeg v) else none
def lR (t a : Nat) (i : Int32) : HM Nat := fun m => if mK m a = t ∧ ¬ (i < 0 ∨ mN m a ≤ i.toNatClampNeg) then (match mR m a i.toNatClampNeg with
  | none => none
  | some b => some (b, m)) else none
def sR (a : Nat) (i : Int32) (x : Nat) : HM Unit := fun m => if (mK m a = 7 ∧ ¬ (i < 0 ∨ mN m a ≤ i.toNatClampNeg)) ∧ mK m x = 2 then some ((), setR m a i.toNatClampNeg (some x)) else none
def ln (t a : Nat) : HM Int32 := fun m => if mK m a = t then some (Int32.ofNat (mN m a), m) else none
def nO (t : Nat) : HM Nat := fun m => some (mS m, allo m t 0)
def nA (t B : Nat) (n : Int32) : HM Nat := fun m => if ¬ n < 0 ∧ n.toNatClampNeg ≤ B then some (mS m, allo m t n.toNatClampNeg) else none
def dv (x y : Int32) : HM Int32 := fun m => if y = 0 then none else some (x / y, m)
/-- new int[4][100] -/
def allo4 (m : Mem) : Mem := (fun b => if b = m.2.2.2.2 then 8 else if m.2.2.2.2 < b ∧ b ≤ m.2.2.2.2 + 4 then 5 else m.1 b, fun b => if b = m.2.2.2.2 then 4 else if m.2.2.2.2 < b ∧ b ≤ m.2.2.2.2 + 4 then 100 else m.2.1 b, fun b j => if m.2.2.2.2 ≤ b ∧ b ≤ m.2.2.2.2 + 4 then 0 else m.2.2.1 b j, fun b j => if b = m.2.2.2.2 then (if j < 4 then some (m.2.2.2.2 + 1 + j) else none) else if m.2.2.2.2 < b ∧ b ≤ m.2.2.2.2 + 4 then none else m.2.2.2.1 b j, m.2.2.2.2 + 5)
def n4 : HM Nat := fun m => some (mS m, allo4 m)
theorem mK_allo4 (m : Mem) (b : Nat) : mK (allo4 m) b = if b = mS m then 8 else if mS m < b ∧ b ≤ mS m + 4 then 5 else mK m b := rfl
theorem mN_allo4 (m : Mem) (b : Nat) : mN (allo4 m) b = if b = mS m then 4 else if mS m < b ∧ b ≤ mS m + 4 then 100 else mN m b := rfl
theorem mI_allo4 (m : Mem) (b j : Nat) : mI (allo4 m) b j = if mS m ≤ b ∧ b ≤ mS m + 4 then 0 else mI m b j := rfl
theorem mR_allo4 (m : Mem) (b j : Nat) : mR (allo4 m) b j = if b = mS m then (if j < 4 then some (mS m + 1 + j) else none) else if mS m < b ∧ b ≤ mS m + 4 then none else mR m b j := rfl
theorem mS_allo4 (m : Mem) : mS (allo4 m) = mS m + 5 := rfl
/-- System.arraycopy of whole int rows of 100 -/
def cpyI (m : Mem) (a b : Nat) : Mem := (m.1, m.2.1, fun c j => if c = b ∧ j < 100 then m.2.2.1 a j else m.2.2.1 c j, m.2.2.2.1, m.2.2.2.2)
def cp (a : Nat) (sp : Int32) (b : Nat) (dp n : Int32) : HM Unit := fun m => if (mK m a = 5 ∧ mK m b = 5 ∧ a ≠ b) ∧ (mN m a = 100 ∧ mN m b = 100) ∧ (sp = 0 ∧ dp = 0 ∧ n = 100) then some ((), cpyI m a b) else none
theorem mK_cpyI (m : Mem) (a b : Nat) : mK (cpyI m a b) = mK m := rfl
theorem mN_cpyI (m : Mem) (a b : Nat) : mN (cpyI m a b) = mN m := rfl
theorem mR_cpyI (m : Mem) (a b : Nat) : mR (cpyI m a b) = mR m := rfl
theorem mS_cpyI (m : Mem) (a b : Nat) : mS (cpyI m a b) = mS m := rfl
theorem mI_cpyI (m : Mem) (a b c j : Nat) : mI (cpyI m a b) c j = if c = b ∧ j < 100 then mI m a j else mI m c j := rfl
/-! what an equation 'program = some z' says -/
theorem bnd_inv {α β : Type} {x : HM α} {f : α → HM β} {m : Mem} {z : β × Mem} (h : bnd x f m = some z) : ∃ (a : α) (m' : Mem), x m = some (a, m') ∧ f a m' = some z := by
  unfold bnd at h
  cases hx : x m with
  | none => rw [hx] at h; cases h
  | some q => rw [hx] at h; exact ⟨q.1, q.2, rfl, h⟩
theorem ifc_t {α : Type} {c : Prop} {dc : Decidable c} {x y : HM α} {m : Mem} {z : α × Mem} (hc : c) (h : @ifc α c dc x y m = some z) : x m = some z := by
  unfold ifc at h
  rw [if_pos hc] at h
  exact h
theorem ifc_f {α : Type} {c : Prop} {dc : Decidable c} {x y : HM α} {m : Mem} {z : α × Mem} (hc : ¬ c) (h : @ifc α c dc x y m = some z) : y m = some z := by
  unfold ifc at h
  rw [if_neg hc] at h
  exact h
theorem ite_inv {α : Type} {c : Prop} {dc : Decidable c} {x : α} {z : α} (h : (@ite _ c dc (some x) none) = some z) : c ∧ x = z := by
  by_cases hc : c
  · rw [if_pos hc] at h; exact ⟨hc, Option.some.inj h⟩
  · rw [if_neg hc] at h; cases h
end
