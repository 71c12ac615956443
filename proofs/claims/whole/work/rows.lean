section
-- ===== PART A: goes FIRST, ahead of the names: the tables' words, and 'selects' of the private methods out of them =====
/-- a private method of a class that the tables say can be made, by its rows of tables_1 -/
def lw_okq (q : MethodName × Nat) : Prop := (q.1.cls ≠ "java/lang/invoke/MethodHandle" ∧ q.1.cls ≠ "java/lang/invoke/VarHandle") ∧ Cond.instantiable q.1.cls q.2 ∈ tables_1 ∧ Cond.privateMethod q.1 ∈ tables_1 ∧ Cond.instanceMethod q.1 ∈ tables_1
theorem lw_p0 : lw_okq (⟨"SegmentMerges", "killRowOf", "(I)V"⟩, 11) := ⟨⟨by decide +kernel, by decide +kernel⟩, List.mem_of_getElem? (i := 14) (by decide +kernel), List.mem_of_getElem? (i := 94) (by decide +kernel), List.mem_of_getElem? (i := 95) (by decide +kernel)⟩
theorem lw_p1 : lw_okq (⟨"SegmentMerges$Memory", "rankOf", "(I)I"⟩, 3) := ⟨⟨by decide +kernel, by decide +kernel⟩, List.mem_of_getElem? (i := 22) (by decide +kernel), List.mem_of_getElem? (i := 176) (by decide +kernel), List.mem_of_getElem? (i := 177) (by decide +kernel)⟩
theorem lw_p2 : lw_okq (⟨"SegmentMerges", "rowsInSegments", "()I"⟩, 11) := ⟨⟨by decide +kernel, by decide +kernel⟩, List.mem_of_getElem? (i := 14) (by decide +kernel), List.mem_of_getElem? (i := 188) (by decide +kernel), List.mem_of_getElem? (i := 189) (by decide +kernel)⟩
theorem lw_p3 : lw_okq (⟨"SegmentMerges", "livingFrom", "(II)I"⟩, 11) := ⟨⟨by decide +kernel, by decide +kernel⟩, List.mem_of_getElem? (i := 14) (by decide +kernel), List.mem_of_getElem? (i := 192) (by decide +kernel), List.mem_of_getElem? (i := 193) (by decide +kernel)⟩
theorem lw_p4 : lw_okq (⟨"SegmentMerges", "isPlace", "(I)Z"⟩, 11) := ⟨⟨by decide +kernel, by decide +kernel⟩, List.mem_of_getElem? (i := 14) (by decide +kernel), List.mem_of_getElem? (i := 200) (by decide +kernel), List.mem_of_getElem? (i := 201) (by decide +kernel)⟩
theorem lw_p5 : lw_okq (⟨"SegmentMerges", "isOfOneTier", "(II)Z"⟩, 11) := ⟨⟨by decide +kernel, by decide +kernel⟩, List.mem_of_getElem? (i := 14) (by decide +kernel), List.mem_of_getElem? (i := 224) (by decide +kernel), List.mem_of_getElem? (i := 225) (by decide +kernel)⟩
theorem lw_p6 : lw_okq (⟨"SegmentMerges$Merge", "sourceOfLeastKey", "()I"⟩, 6) := ⟨⟨by decide +kernel, by decide +kernel⟩, List.mem_of_getElem? (i := 247) (by decide +kernel), List.mem_of_getElem? (i := 286) (by decide +kernel), List.mem_of_getElem? (i := 287) (by decide +kernel)⟩
theorem lw_p7 : lw_okq (⟨"SegmentMerges", "endMerge", "(LSegmentMerges$Merge;)V"⟩, 11) := ⟨⟨by decide +kernel, by decide +kernel⟩, List.mem_of_getElem? (i := 14) (by decide +kernel), List.mem_of_getElem? (i := 290) (by decide +kernel), List.mem_of_getElem? (i := 291) (by decide +kernel)⟩
theorem lw_p8 : lw_okq (⟨"SegmentMerges$Merge", "greatestTier", "()I"⟩, 6) := ⟨⟨by decide +kernel, by decide +kernel⟩, List.mem_of_getElem? (i := 247) (by decide +kernel), List.mem_of_getElem? (i := 298) (by decide +kernel), List.mem_of_getElem? (i := 299) (by decide +kernel)⟩
theorem lw_p9 : lw_okq (⟨"SegmentMerges", "closeGap", "(II)V"⟩, 11) := ⟨⟨by decide +kernel, by decide +kernel⟩, List.mem_of_getElem? (i := 14) (by decide +kernel), List.mem_of_getElem? (i := 307) (by decide +kernel), List.mem_of_getElem? (i := 308) (by decide +kernel)⟩
theorem lw_p10 : lw_okq (⟨"SegmentMerges", "isOpenView", "(I)Z"⟩, 11) := ⟨⟨by decide +kernel, by decide +kernel⟩, List.mem_of_getElem? (i := 14) (by decide +kernel), List.mem_of_getElem? (i := 338) (by decide +kernel), List.mem_of_getElem? (i := 339) (by decide +kernel)⟩
theorem lw_p11 : lw_okq (⟨"java/lang/Throwable", "fillInStackTrace", "(I)Ljava/lang/Throwable;"⟩, 6) := ⟨⟨by decide +kernel, by decide +kernel⟩, List.mem_of_getElem? (i := 390) (by decide +kernel), List.mem_of_getElem? (i := 388) (by decide +kernel), List.mem_of_getElem? (i := 389) (by decide +kernel)⟩
theorem lw_p12 : lw_okq (⟨"SegmentMergesModel", "memoryAt", "(I)I"⟩, 34) := ⟨⟨by decide +kernel, by decide +kernel⟩, List.mem_of_getElem? (i := 420) (by decide +kernel), List.mem_of_getElem? (i := 540) (by decide +kernel), List.mem_of_getElem? (i := 541) (by decide +kernel)⟩
theorem lw_p13 : lw_okq (⟨"SegmentMergesModel", "die", "(I)V"⟩, 34) := ⟨⟨by decide +kernel, by decide +kernel⟩, List.mem_of_getElem? (i := 420) (by decide +kernel), List.mem_of_getElem? (i := 544) (by decide +kernel), List.mem_of_getElem? (i := 545) (by decide +kernel)⟩
theorem lw_p14 : lw_okq (⟨"SegmentMergesModel", "freeSlot", "()I"⟩, 34) := ⟨⟨by decide +kernel, by decide +kernel⟩, List.mem_of_getElem? (i := 420) (by decide +kernel), List.mem_of_getElem? (i := 564) (by decide +kernel), List.mem_of_getElem? (i := 565) (by decide +kernel)⟩
theorem lw_p15 : lw_okq (⟨"SegmentMergesModel", "lay", "(IIIZ)V"⟩, 34) := ⟨⟨by decide +kernel, by decide +kernel⟩, List.mem_of_getElem? (i := 420) (by decide +kernel), List.mem_of_getElem? (i := 568) (by decide +kernel), List.mem_of_getElem? (i := 569) (by decide +kernel)⟩
def lw_privs_1 : List (MethodName × Nat) := [(⟨"SegmentMerges", "killRowOf", "(I)V"⟩, 11), (⟨"SegmentMerges$Memory", "rankOf", "(I)I"⟩, 3), (⟨"SegmentMerges", "rowsInSegments", "()I"⟩, 11), (⟨"SegmentMerges", "livingFrom", "(II)I"⟩, 11), (⟨"SegmentMerges", "isPlace", "(I)Z"⟩, 11), (⟨"SegmentMerges", "isOfOneTier", "(II)Z"⟩, 11), (⟨"SegmentMerges$Merge", "sourceOfLeastKey", "()I"⟩, 6), (⟨"SegmentMerges", "endMerge", "(LSegmentMerges$Merge;)V"⟩, 11), (⟨"SegmentMerges$Merge", "greatestTier", "()I"⟩, 6), (⟨"SegmentMerges", "closeGap", "(II)V"⟩, 11), (⟨"SegmentMerges", "isOpenView", "(I)Z"⟩, 11), (⟨"java/lang/Throwable", "fillInStackTrace", "(I)Ljava/lang/Throwable;"⟩, 6), (⟨"SegmentMergesModel", "memoryAt", "(I)I"⟩, 34), (⟨"SegmentMergesModel", "die", "(I)V"⟩, 34), (⟨"SegmentMergesModel", "freeSlot", "()I"⟩, 34), (⟨"SegmentMergesModel", "lay", "(IIIZ)V"⟩, 34)]
theorem lw_r1 : ∀ q ∈ lw_privs_1, lw_okq q := List.forall_mem_cons.mpr ⟨lw_p0, List.forall_mem_cons.mpr ⟨lw_p1, List.forall_mem_cons.mpr ⟨lw_p2, List.forall_mem_cons.mpr ⟨lw_p3, List.forall_mem_cons.mpr ⟨lw_p4, List.forall_mem_cons.mpr ⟨lw_p5, List.forall_mem_cons.mpr ⟨lw_p6, List.forall_mem_cons.mpr ⟨lw_p7, List.forall_mem_cons.mpr ⟨lw_p8, List.forall_mem_cons.mpr ⟨lw_p9, List.forall_mem_cons.mpr ⟨lw_p10, List.forall_mem_cons.mpr ⟨lw_p11, List.forall_mem_cons.mpr ⟨lw_p12, List.forall_mem_cons.mpr ⟨lw_p13, List.forall_mem_cons.mpr ⟨lw_p14, List.forall_mem_cons.mpr ⟨lw_p15, fun _ h => absurd h List.not_mem_nil⟩⟩⟩⟩⟩⟩⟩⟩⟩⟩⟩⟩⟩⟩⟩⟩
theorem lw_p16 : lw_okq (⟨"SegmentMergesModel", "all", "(Z)I"⟩, 34) := ⟨⟨by decide +kernel, by decide +kernel⟩, List.mem_of_getElem? (i := 420) (by decide +kernel), List.mem_of_getElem? (i := 576) (by decide +kernel), List.mem_of_getElem? (i := 577) (by decide +kernel)⟩
theorem lw_p17 : lw_okq (⟨"SegmentMergesModel", "livingOf", "(I)I"⟩, 34) := ⟨⟨by decide +kernel, by decide +kernel⟩, List.mem_of_getElem? (i := 420) (by decide +kernel), List.mem_of_getElem? (i := 580) (by decide +kernel), List.mem_of_getElem? (i := 581) (by decide +kernel)⟩
theorem lw_p18 : lw_okq (⟨"SegmentMergesModel", "isPlace", "(I)Z"⟩, 34) := ⟨⟨by decide +kernel, by decide +kernel⟩, List.mem_of_getElem? (i := 420) (by decide +kernel), List.mem_of_getElem? (i := 588) (by decide +kernel), List.mem_of_getElem? (i := 589) (by decide +kernel)⟩
theorem lw_p19 : lw_okq (⟨"SegmentMergesModel", "left", "()I"⟩, 34) := ⟨⟨by decide +kernel, by decide +kernel⟩, List.mem_of_getElem? (i := 420) (by decide +kernel), List.mem_of_getElem? (i := 616) (by decide +kernel), List.mem_of_getElem? (i := 617) (by decide +kernel)⟩
theorem lw_p20 : lw_okq (⟨"SegmentMergesModel", "slotOf", "(I)I"⟩, 34) := ⟨⟨by decide +kernel, by decide +kernel⟩, List.mem_of_getElem? (i := 420) (by decide +kernel), List.mem_of_getElem? (i := 620) (by decide +kernel), List.mem_of_getElem? (i := 621) (by decide +kernel)⟩
theorem lw_p21 : lw_okq (⟨"SegmentMergesModel", "takeOne", "()V"⟩, 34) := ⟨⟨by decide +kernel, by decide +kernel⟩, List.mem_of_getElem? (i := 420) (by decide +kernel), List.mem_of_getElem? (i := 628) (by decide +kernel), List.mem_of_getElem? (i := 629) (by decide +kernel)⟩
theorem lw_p22 : lw_okq (⟨"SegmentMergesModel", "keyAt", "(I)I"⟩, 34) := ⟨⟨by decide +kernel, by decide +kernel⟩, List.mem_of_getElem? (i := 420) (by decide +kernel), List.mem_of_getElem? (i := 632) (by decide +kernel), List.mem_of_getElem? (i := 633) (by decide +kernel)⟩
theorem lw_p23 : lw_okq (⟨"SegmentMergesModel", "end", "()V"⟩, 34) := ⟨⟨by decide +kernel, by decide +kernel⟩, List.mem_of_getElem? (i := 420) (by decide +kernel), List.mem_of_getElem? (i := 636) (by decide +kernel), List.mem_of_getElem? (i := 637) (by decide +kernel)⟩
theorem lw_p24 : lw_okq (⟨"SegmentMergesModel", "isOpen", "(I)Z"⟩, 34) := ⟨⟨by decide +kernel, by decide +kernel⟩, List.mem_of_getElem? (i := 420) (by decide +kernel), List.mem_of_getElem? (i := 660) (by decide +kernel), List.mem_of_getElem? (i := 661) (by decide +kernel)⟩
def lw_privs_2 : List (MethodName × Nat) := [(⟨"SegmentMergesModel", "all", "(Z)I"⟩, 34), (⟨"SegmentMergesModel", "livingOf", "(I)I"⟩, 34), (⟨"SegmentMergesModel", "isPlace", "(I)Z"⟩, 34), (⟨"SegmentMergesModel", "left", "()I"⟩, 34), (⟨"SegmentMergesModel", "slotOf", "(I)I"⟩, 34), (⟨"SegmentMergesModel", "takeOne", "()V"⟩, 34), (⟨"SegmentMergesModel", "keyAt", "(I)I"⟩, 34), (⟨"SegmentMergesModel", "end", "()V"⟩, 34), (⟨"SegmentMergesModel", "isOpen", "(I)Z"⟩, 34)]
theorem lw_r2 : ∀ q ∈ lw_privs_2, lw_okq q := List.forall_mem_cons.mpr ⟨lw_p16, List.forall_mem_cons.mpr ⟨lw_p17, List.forall_mem_cons.mpr ⟨lw_p18, List.forall_mem_cons.mpr ⟨lw_p19, List.forall_mem_cons.mpr ⟨lw_p20, List.forall_mem_cons.mpr ⟨lw_p21, List.forall_mem_cons.mpr ⟨lw_p22, List.forall_mem_cons.mpr ⟨lw_p23, List.forall_mem_cons.mpr ⟨lw_p24, fun _ h => absurd h List.not_mem_nil⟩⟩⟩⟩⟩⟩⟩⟩⟩
def lw_privs : List (MethodName × Nat) := lw_privs_1 ++ (lw_privs_2)
def lw_tbl : List Cond := k2_sels lw_privs ++ tables_1
theorem lw_privs_ok : ∀ q ∈ lw_privs, lw_okq q := by
  show ∀ q ∈ lw_privs_1 ++ (lw_privs_2), lw_okq q
  exact List.forall_mem_append.mpr ⟨lw_r1, lw_r2⟩
end
section
/-! ===== BEGIN words of one list among another's, by their places ===== -/
theorem goodIn_r {big : List Cond} (ws : List Cond) (ps : List Nat) (hp : ws = ps.filterMap (fun i => big[i]?)) (h : ws.all goodWord = true) : GoodIn big ws := by
  intro w hw
  have h1 := List.all_eq_true.mp h w hw
  rw [hp] at hw
  obtain ⟨i, -, hi⟩ := List.mem_filterMap.mp hw
  have hm : w ∈ big := by first | exact List.mem_of_getElem? hi | exact List.getElem?_mem hi
  exact ⟨hm, good_of_word h1⟩
theorem goodIn_app {big a b : List Cond} (ha : GoodIn big a) (hb : GoodIn big b) : GoodIn big (a ++ b) := fun w h => (List.mem_append.mp h).elim (ha w) (hb w)
theorem goodIn_ca {big a b : List Cond} {c : Cond} (ha : GoodIn big (c :: a)) (hb : GoodIn big b) : GoodIn big (c :: (a ++ b)) := fun w h => (List.mem_cons.mp h).elim (fun e => ha w (List.mem_cons.mpr (Or.inl e))) (fun h => (List.mem_append.mp h).elim (fun h => ha w (List.mem_cons.mpr (Or.inr h))) (hb w))
theorem goodIn_sub {big ws : List Cond} (hm : ∀ w ∈ ws, w ∈ big) (h : ws.all goodWord = true) : GoodIn big ws := fun w hw => ⟨hm w hw, good_of_word (List.all_eq_true.mp h w hw)⟩
/-! ===== END ===== -/

/-! ===== BEGIN exceptions that leave a method, and their catching by the caller (launches without stack traces) ===== -/
section VXA
/-! The laws vx_back, vx_callV, vx_callS, vx_callSW, vx_throw0, vx_throwS follow proofs of the library, with one case more: JvmDerived/Free/Laws.lean (Back.of_free), Shelf42/LK1.lean (callV, callS), Shelf/KitTraced.lean (throwNew0V, throwNewS). -/
/-- where a method has thrown q: the class by its name, the cell, what was written, the world -/
def vx_T (XC : String → State → State → Prop) (st : State) (q : Addr) (t : State) (mc ms : Nat) (free : Addr → Prop) : Prop :=
  ∃ (E : String) (ce : Cell) (L : List Loc), XC E st t ∧ t.heap[q]? = some ce ∧ ce.vm = .none ∧ st.vm.findClass E = some ce.cls ∧ st.WarmedH t.vm ∧ st.sameButNew ({ t with vm := st.vm } : State) L mc ms ∧ ∀ z ∈ L, free z.base
def vx_Q (Qc : Array Value → State → Outcome → State → Prop) (XC : String → State → State → Prop) (mc ms : Nat) (free : Addr → Prop) : Array Value → State → Outcome → State → Prop := fun a st o t =>
  (Qc a st o t ∧ ∃ L, FrameEnd st o t L mc ms ∧ ∀ q ∈ L, free q.base) ∨ ∃ q, o = .threw q ∧ vx_T XC st q t mc ms free
/-- a callee that returns or throws -/
def vx_Met (l : Launch) (y : MethodName) (ws : List Cond) (rm : Room) (Pc : Array Value → State → Prop) (Qc : Array Value → State → Outcome → State → Prop) (XC : String → State → State → Prop) (mc ms : Nat) (free : Addr → Prop) : Prop :=
  MetFree l y (headSpec ws rm) Pc (fun _ _ _ _ _ => True) (vx_Q Qc XC mc ms free)
def vx_Post (XC : String → State → State → Prop) (mc ms : Nat) (free : Addr → Prop) : Pt → Array Value → Addr → Pt → Prop := fun A a q B =>
  ∃ (g : JFrame) (mk : MethodId) (t : State) (L : List Loc) (E : String) (ce : Cell), B.U.heap = t.heap ∧ B.U.vm = t.vm ∧ XC E (A.U.calling g mk a) t ∧ t.heap[q]? = some ce ∧ ce.vm = .none ∧ A.U.vm.findClass E = some ce.cls ∧ B.locs = A.locs ++ L ∧ (∀ z ∈ L, free z.base) ∧ B.cells = A.cells + mc ∧ B.slots = A.slots + ms
def vx_Back (l : Launch) (R : Room) (p : Program) (e : Env) (below : List Frame) (s : State) (sargs : Array Value) (y : MethodName) (len W9 : Nat)
    (Pre : Pt → Array Value → Prop) (Post : Pt → Array Value → Option Value → Pt → Prop) (PostX : Pt → Array Value → Addr → Pt → Prop) : Prop :=
  ∀ (m : MethodId) (meth : Method) (c : Code) (A : Pt) (g : JFrame) (ig : Instr) (mk : MethodId) (a : Array Value),
    Stand p l e R s m sargs below meth c A.U A.locs A.cells A.slots → g.method = m → g.locals.size = c.maxLocals → decode c.code g.pc = .ok (ig, len) →
    2 * g.monitorRoom + (g.stack.map fun v => v.category).sum ≤ W9 → A.U.methodNamed? y = some mk → Pre A a →
    (∃ (v : Option Value) (B : Pt), Stand p l e R s m sargs below meth c B.U B.locs B.cells B.slots ∧ Post A a v B ∧
      Steps p.tables e below (doInvoke e (A.U.setTop g) [] mk a).1 (B.U.setTop { g with pc := g.pc + len, stack := v.toList ++ g.stack })) ∨
    (∃ (q : Addr) (B : Pt), Stand p l e R s m sargs below meth c B.U B.locs B.cells B.slots ∧ PostX A a q B ∧
      Steps p.tables e below (doInvoke e (A.U.setTop g) [] mk a).1 ((B.U.setTop g).pushFrame (.throwing q)))
section Payer
variable {l : Launch} {R : Room} {p : Program} {e : Env} {below : List Frame} {s : State} {sargs : Array Value} {y : MethodName} {len W9 : Nat}
theorem vx_back {ws : List Cond} {rm : Room} {Pc : Array Value → State → Prop} {Qc : Array Value → State → Outcome → State → Prop} {XC : String → State → State → Prop} {mc ms : Nat} {free : Addr → Prop} {bytes : ByteArray} {maxL : Nat} {ret : Option FieldType}
    (hM : vx_Met l y ws rm Pc Qc XC mc ms free) (hblind : FrameBlind Pc) (hrc : rm.cells = mc) (hrs : rm.slots = ms)
    (hframes : rm.frames + 1 ≤ R.frames) (hlocals : W9 + (maxL + 11) + rm.locals ≤ R.locals)
    (hws : ∀ w ∈ ws, ∀ a' U, s.WarmedH U.vm → w.before a' U = true) (hcode : Cond.code y bytes maxL ret ∈ ws) (hinit : ∀ a' U, s.WarmedH U.vm → (Cond.initialized y.cls).before a' U = true) :
    vx_Back l R p e below s sargs y len W9 (PreOf R mc ms Pc) (PostOf Qc mc ms free) (vx_Post XC mc ms free) := by
  intro m meth c A g ig mk a X hg hsize hdg hW hn hp
  have h1 : (headSpec ws rm).pre.before a A.U = true := atoms_intro fun w hw => hws w hw _ _ X.warmed
  have h2 : (Cond.code y bytes maxL ret).before a A.U = true := hws _ hcode _ _ X.warmed
  have h3 : (Cond.initialized y.cls).before a A.U = true := hinit _ _ X.warmed
  have h4 : A.cells + (headSpec ws rm).room.cells ≤ R.cells := by rw [show (headSpec ws rm).room.cells = mc from hrc]; exact hp.1
  have h5 : A.slots + (headSpec ws rm).room.slots ≤ R.slots := by rw [show (headSpec ws rm).room.slots = ms from hrs]; exact hp.2.1
  have hPc : Pc a (A.U.calling g mk a) := hblind _ _ _ _ hp.2.2
  obtain ⟨U, Ls, c0, s0⟩ := A
  dsimp only [Pt.U, Pt.locs, Pt.cells, Pt.slots] at h1 h2 h3 h4 h5 X hn hPc ⊢
  obtain ⟨methY, cY, hmY, hcY, -, hlY, -, -, -, -⟩ := Cond.code_spec hn h2
  obtain ⟨kY, hkY, -⟩ := className_of_methodNamed hn
  have hinitY : kY.init = .initialized := Cond.initialized_spec (findClass_of_methodNamed hn) hkY h3
  have h : At U g.method c below := by rw [hg]; exact X.here
  have hlocals9 : W9 + (maxL + 11) + (headSpec ws rm).room.locals ≤ R.locals := hlocals
  have happ : (headSpec ws rm).appliesLoose y e.platform (U.calling g mk a) = true :=
    Spec.appliesLoose_calling (g := g) h hdg hn hkY hinitY
      (X.room_calling (g := g) (R' := (headSpec ws rm).room) hsize hmY hcY hframes (by rw [hlY]; omega) h4 h5) h1
  obtain ⟨mid, hmid⟩ := h.above
  have hfr : (U.setTop g).frames = (.java g :: mid) ++ below := by rw [State.frames_setTop' g h.top, hmid]; rfl
  obtain ⟨o, s₂, hsteps, -, hend, hq⟩ := Steps.callFree hM p X.admits X.cas X.clock (acts := []) hfr happ hPc trivial
  have hq' : vx_Q Qc XC mc ms free a (U.calling g mk a) o s₂ := hq
  rw [State.frames_setTop' g h.top] at hend
  obtain ⟨g₀, hg0⟩ := Option.isSome_iff_exists.mp h.top
  obtain ⟨r, hr⟩ := State.topJava?_eq_some.mp hg0
  have hr' : (({ U with heap := s₂.heap, slotsUsed := s₂.slotsUsed } : State).setVm s₂.vm).frames = .java g₀ :: r := hr
  rcases hq' with ⟨hqc, L, hfe, hL⟩ | ⟨q, rfl, E, ce, L, hx, hce, hcv, hcl, hW₂, hsm, hL⟩
  · obtain ⟨⟨v, rfl⟩, hW₂, e2, q2, q3, q4, q5, q6⟩ := id hfe
    have e3 : s₂ = ({ (U.calling g mk a).setFrames s₂.frames with heap := s₂.heap, slotsUsed := s₂.slotsUsed } : State).setVm s₂.vm := by
      have : s₂ = ({ s₂ with vm := (U.calling g mk a).vm } : State).setVm s₂.vm := rfl
      rw [e2] at this
      exact this
    obtain ⟨c₂, i₂, len₂, hc₂, hd₂, hf₂⟩ := hend
    have hW' : U.WarmedH s₂.vm := hW₂
    have hcc : c₂ = c := by
      have h1 : s₂.code? g.method = U.code? g.method := by
        rw [State.code?_eq, State.code?_eq, hW'.alike.method?]
      exact Option.some.inj (hc₂.symm.trans (h1.trans h.code))
    subst hcc
    have hlen : len₂ = len := by rw [hdg] at hd₂; cases hd₂; rfl
    subst hlen
    have hs₂ : s₂ = (({ U with heap := s₂.heap, slotsUsed := s₂.slotsUsed } : State).setVm s₂.vm).setTop { g with pc := g.pc + len₂, stack := v.toList ++ g.stack } := by
      refine e3.trans ?_
      rw [hf₂, State.calling_eq h.top, State.setFrames_setFrames, State.setTop_of_frames _ hr', hr]
      rfl
    have hsame : U.sameButNew ({ U with heap := s₂.heap, slotsUsed := s₂.slotsUsed } : State) L mc ms := by
      refine ⟨?_, q2, q3, q4, q5, q6⟩
      obtain ⟨t, ht, -⟩ := State.frames_cons hr
      show ({ U with heap := s₂.heap, slotsUsed := s₂.slotsUsed } : State) = { U.setFrames U.frames with heap := s₂.heap, slotsUsed := s₂.slotsUsed }
      rw [State.setFrames_self ht]
    subst hg
    refine Or.inl ⟨v, ⟨(({ U with heap := s₂.heap, slotsUsed := s₂.slotsUsed } : State).setVm s₂.vm), Ls ++ L, c0 + mc, s0 + ms⟩,
      ⟨X.admits, X.cas, X.clock, X.frames, X.room, X.hears, X.method, X.code, (X.here.setHeapUsed s₂.heap s₂.slotsUsed).setVm hW'.alike, X.tail, State.WarmedH.trans X.warmed hW', X.limits, X.bytes, X.same.trans (hsame.setVm s.vm)⟩,
      ⟨g, mk, s₂, L, rfl, rfl, hqc, rfl, hL, rfl, rfl⟩, ?_⟩
    show Steps p.tables e below _ ((({ U with heap := s₂.heap, slotsUsed := s₂.slotsUsed } : State).setVm s₂.vm).setTop { g with pc := g.pc + len₂, stack := v.toList ++ g.stack })
    rw [← hs₂]
    exact hsteps
  · obtain ⟨e2, q2, q3, q4, q5, q6⟩ := id hsm
    have e3 : s₂ = ({ (U.calling g mk a).setFrames s₂.frames with heap := s₂.heap, slotsUsed := s₂.slotsUsed } : State).setVm s₂.vm := by
      have : s₂ = ({ s₂ with vm := (U.calling g mk a).vm } : State).setVm s₂.vm := rfl
      rw [e2] at this
      exact this
    have hf₂ : s₂.frames = .throwing q :: .java g :: U.frames.tail := hend
    have hW' : U.WarmedH s₂.vm := hW₂
    have hs₂ : s₂ = ((({ U with heap := s₂.heap, slotsUsed := s₂.slotsUsed } : State).setVm s₂.vm).setTop g).pushFrame (.throwing q) := by
      refine e3.trans ?_
      rw [hf₂, State.calling_eq h.top, State.setFrames_setFrames, State.pushFrame, State.frames_setTop _ hr', State.setTop_of_frames _ hr', State.setFrames_setFrames, hr]
      rfl
    have hsame : U.sameButNew ({ U with heap := s₂.heap, slotsUsed := s₂.slotsUsed } : State) L mc ms := by
      refine ⟨?_, q2, q3, q4, q5, q6⟩
      obtain ⟨t, ht, -⟩ := State.frames_cons hr
      show ({ U with heap := s₂.heap, slotsUsed := s₂.slotsUsed } : State) = { U.setFrames U.frames with heap := s₂.heap, slotsUsed := s₂.slotsUsed }
      rw [State.setFrames_self ht]
    subst hg
    refine Or.inr ⟨q, ⟨(({ U with heap := s₂.heap, slotsUsed := s₂.slotsUsed } : State).setVm s₂.vm), Ls ++ L, c0 + mc, s0 + ms⟩,
      ⟨X.admits, X.cas, X.clock, X.frames, X.room, X.hears, X.method, X.code, (X.here.setHeapUsed s₂.heap s₂.slotsUsed).setVm hW'.alike, X.tail, State.WarmedH.trans X.warmed hW', X.limits, X.bytes, X.same.trans (hsame.setVm s.vm)⟩,
      ⟨g, mk, s₂, L, E, ce, rfl, rfl, hx, hce, hcv, hcl, rfl, hL, rfl, rfl⟩, ?_⟩
    show Steps p.tables e below _ (((({ U with heap := s₂.heap, slotsUsed := s₂.slotsUsed } : State).setVm s₂.vm).setTop g).pushFrame (.throwing q))
    rw [← hs₂]
    exact hsteps
end Payer
section Calls
variable {p : Program} {l : Launch} {e : Env} {R : Room} {s : State} {m : MethodId} {args : Array Value} {below : List Frame} {meth : Method} {c : Code} {T : State} {locs : List Loc} {cells slots : Nat}
theorem vx_callV (X : Stand p l e R s m args below meth c T locs cells slots) (hexec : p.tables.exec = Jvm.exec) {own C : String} {index : Nat} {y : MethodName} {bytes : ByteArray} {maxL : Nat} {ret : Option FieldType}
    (hown : s.vm.findClass own = some m.cls) (hlink : (Cond.methodLink own index y).before args s = true) (hinst : (Cond.instanceMethod y).before args s = true) (hsel : (Cond.selects C y y).before args s = true)
    (hcode : (Cond.code y bytes maxL ret).before args s = true) (hy : y.cls ≠ "java/lang/invoke/MethodHandle" ∧ y.cls ≠ "java/lang/invoke/VarHandle")
    {W9 : Nat} {Pre : Pt → Array Value → Prop} {Post : Pt → Array Value → Option Value → Pt → Prop} {PostX : Pt → Array Value → Addr → Pt → Prop} (hK : vx_Back l R p e below s args y 3 W9 Pre Post PostX)
    {b : Addr} {cellB : Cell} (hcell : T.heap[b]? = some cellB) (hobj : cellB.vm.isStatics = false) (hcls : s.vm.findClass C = some cellB.cls)
    {g : JFrame} (hg : g.method = m) (hsize : g.locals.size = c.maxLocals) {argsL rest : List Value} (hlen : ∀ sig, parseMethodDescriptor y.desc = some sig → argsL.length = sig.parameters.length)
    (hstack : g.stack = argsL.reverse ++ .ref b :: rest) (hW : 2 * g.monitorRoom + (rest.map fun v => v.category).sum ≤ W9) (hdg : decode c.code g.pc = .ok (.invokevirtual index, 3))
    (hpre : ∀ vm₁, s.WarmedH vm₁ → Pre ⟨T.setVm vm₁, locs, cells, slots⟩ (Value.ref b :: argsL).toArray) :
    (∃ (v : Option Value) (vm₁ : Vm) (B : Pt), s.WarmedH vm₁ ∧ Stand p l e R s m args below meth c B.U B.locs B.cells B.slots ∧ Post ⟨T.setVm vm₁, locs, cells, slots⟩ (Value.ref b :: argsL).toArray v B ∧
      ∀ target, Steps p.tables e below (B.U.setTop { g with pc := g.pc + 3, stack := v.toList ++ rest }) target → Steps p.tables e below (T.setTop g) target) ∨
    (∃ (q : Addr) (vm₁ : Vm) (B : Pt), s.WarmedH vm₁ ∧ Stand p l e R s m args below meth c B.U B.locs B.cells B.slots ∧ PostX ⟨T.setVm vm₁, locs, cells, slots⟩ (Value.ref b :: argsL).toArray q B ∧
      Steps p.tables e below (T.setTop g) ((B.U.setTop { g with stack := rest }).pushFrame (.throwing q))) := by
  obtain ⟨mk, methM, hnamed, hmethM, hstM, habM⟩ := Cond.instanceMethod_spec hinst
  obtain ⟨methM', cM, hmethM', -, -, -, -, -, -, hsigM⟩ := Cond.code_spec hnamed hcode
  cases hmethM.symm.trans hmethM'
  obtain ⟨c2, r2, m2, q1, q2, q3, q4, kP, hkP, hkPi⟩ := Cond.selects_spec hsel
  cases hcls.symm.trans q1
  cases (State.methodFound?_of_named hnamed hy).symm.trans q2
  cases hnamed.symm.trans q3
  have hselP : selectMethod e.platform s.vm cellB.cls mk = .method mk := by rw [Launch.admits_selectMethod X.admits]; exact q4
  obtain ⟨vm₁, X₁, hstep₁⟩ := X.invokevirtual hexec hown hlink hnamed hmethM hstM hkP hkPi hy (a := b) (cell := cellB) hcell
    (fun z h => by rw [h] at hobj; cases hobj) hselP hmethM habM hkP hkPi (g := g) hg (argsL := argsL) (rest := rest) (hlen _ hsigM) hstack hdg
  rcases hK m meth c ⟨T.setVm vm₁, locs, cells, slots⟩ { g with stack := rest } (.invokevirtual index) mk (Value.ref b :: argsL).toArray X₁ hg hsize hdg hW (X₁.named hnamed) (hpre vm₁ X₁.warmed) with ⟨v, B, X', hpost, hsteps⟩ | ⟨q, B, X', hpost, hsteps⟩
  · exact Or.inl ⟨v, vm₁, B, X₁.warmed, X', hpost, fun target h => hstep₁ _ fun acts => by rw [doInvoke_state]; exact hsteps.trans h⟩
  · exact Or.inr ⟨q, vm₁, B, X₁.warmed, X', hpost, hstep₁ _ fun acts => by rw [doInvoke_state]; exact hsteps⟩
theorem vx_callS (X : Stand p l e R s m args below meth c T locs cells slots) (hexec : p.tables.exec = Jvm.exec) {own : String} {index : Nat} {y : MethodName} {bytes : ByteArray} {maxL : Nat} {ret : Option FieldType}
    (hown : s.vm.findClass own = some m.cls) (hlink : (Cond.methodLink own index y).before args s = true) (hstat : (Cond.static y).before args s = true) (hinit : (Cond.initialized y.cls).before args s = true)
    (hcode : (Cond.code y bytes maxL ret).before args s = true) (hy : y.cls ≠ "java/lang/invoke/MethodHandle" ∧ y.cls ≠ "java/lang/invoke/VarHandle")
    {W9 : Nat} {Pre : Pt → Array Value → Prop} {Post : Pt → Array Value → Option Value → Pt → Prop} {PostX : Pt → Array Value → Addr → Pt → Prop} (hK : vx_Back l R p e below s args y 3 W9 Pre Post PostX)
    {g : JFrame} (hg : g.method = m) (hsize : g.locals.size = c.maxLocals) {argsL rest : List Value} (hlen : ∀ sig, parseMethodDescriptor y.desc = some sig → argsL.length = sig.parameters.length)
    (hstack : g.stack = argsL.reverse ++ rest) (hW : 2 * g.monitorRoom + (rest.map fun v => v.category).sum ≤ W9) (hdg : decode c.code g.pc = .ok (.invokestatic index, 3))
    (hpre : ∀ vm₁, s.WarmedH vm₁ → Pre ⟨T.setVm vm₁, locs, cells, slots⟩ argsL.toArray) :
    (∃ (v : Option Value) (vm₁ : Vm) (B : Pt), s.WarmedH vm₁ ∧ Stand p l e R s m args below meth c B.U B.locs B.cells B.slots ∧ Post ⟨T.setVm vm₁, locs, cells, slots⟩ argsL.toArray v B ∧
      ∀ target, Steps p.tables e below (B.U.setTop { g with pc := g.pc + 3, stack := v.toList ++ rest }) target → Steps p.tables e below (T.setTop g) target) ∨
    (∃ (q : Addr) (vm₁ : Vm) (B : Pt), s.WarmedH vm₁ ∧ Stand p l e R s m args below meth c B.U B.locs B.cells B.slots ∧ PostX ⟨T.setVm vm₁, locs, cells, slots⟩ argsL.toArray q B ∧
      Steps p.tables e below (T.setTop g) ((B.U.setTop { g with stack := rest }).pushFrame (.throwing q))) := by
  obtain ⟨mk, hnamed⟩ := Cond.code_named hcode
  obtain ⟨methM, cM, hmethM, -, -, -, -, -, -, hsigM⟩ := Cond.code_spec hnamed hcode
  have hstatic : methM.isStatic = true := Cond.static_spec hnamed hmethM hstat
  obtain ⟨kP, hkP, -⟩ := className_of_methodNamed hnamed
  have hinitP : kP.init = .initialized := Cond.initialized_spec (findClass_of_methodNamed hnamed) hkP hinit
  obtain ⟨vm₁, X₁, hstep₁⟩ := X.invokestatic hexec hown hlink hnamed hmethM hstatic hkP hinitP hy (g := g) hg (argsL := argsL) (rest := rest) (hlen _ hsigM) hstack hdg
  rcases hK m meth c ⟨T.setVm vm₁, locs, cells, slots⟩ { g with stack := rest } (.invokestatic index) mk argsL.toArray X₁ hg hsize hdg hW (X₁.named hnamed) (hpre vm₁ X₁.warmed) with ⟨v, B, X', hpost, hsteps⟩ | ⟨q, B, X', hpost, hsteps⟩
  · exact Or.inl ⟨v, vm₁, B, X₁.warmed, X', hpost, fun target h => hstep₁ _ fun acts => by rw [doInvoke_state]; exact hsteps.trans h⟩
  · exact Or.inr ⟨q, vm₁, B, X₁.warmed, X', hpost, hstep₁ _ fun acts => by rw [doInvoke_state]; exact hsteps⟩
end Calls
theorem vx_cls {s : State} {T : State} {vm₁ : Vm} {E : String} {k : ClassId} (hW : s.WarmedH vm₁) (h : (T.setVm vm₁).vm.findClass E = some k) : s.vm.findClass E = some k := by
  have h1 : vm₁.findClass E = some k := h
  rw [hW.alike.findClass] at h1
  exact h1
/-- the method's frame g, with q thrown over it -/
def vx_W (p : Program) (l : Launch) (e : Env) (R : Room) (s : State) (m : MethodId) (args : Array Value) (below : List Frame) (meth : Method) (c : Code) (H : Heap) (locs : List Loc) (cells slots : Nat) (Q : State → Prop) (g : JFrame) (q : Addr) : Prop :=
  ∀ T : State, T.heap = H → Stand p l e R s m args below meth c T locs cells slots → ∃ t, Steps p.tables e below ((T.setTop g).pushFrame (.throwing q)) t ∧ Q t
def vx_Run (p : Program) (l : Launch) (e : Env) (R : Room) (s : State) (m : MethodId) (args : Array Value) (below : List Frame) (meth : Method) (c : Code) (H : Heap) (locs : List Loc) (cells slots mc ms : Nat) (g : JFrame) (rest : List Value) (Qa : State → Outcome → State → Prop) (XC : String → State → State → Prop) (free : Addr → Prop) : Prop :=
  ∀ T : State, T.heap = H → Stand p l e R s m args below meth c T locs cells slots →
    (∃ (v : Option Value) (st₀ t T' : State) (L : List Loc), st₀.heap = H ∧ Stand p l e R s m args below meth c T' (locs ++ L) (cells + mc) (slots + ms) ∧ (∀ q ∈ L, free q.base) ∧ T'.heap = t.heap ∧ T'.vm = t.vm ∧ Qa st₀ (.returned v) t ∧
      Goes p e below T g T' { g with pc := g.pc + 3, stack := v.toList ++ rest }) ∨
    (∃ (q : Addr) (st₀ t T' : State) (L : List Loc) (E : String) (ce : Cell), st₀.heap = H ∧ Stand p l e R s m args below meth c T' (locs ++ L) (cells + mc) (slots + ms) ∧ (∀ z ∈ L, free z.base) ∧ T'.heap = t.heap ∧ T'.vm = t.vm ∧ XC E st₀ t ∧ t.heap[q]? = some ce ∧ ce.vm = .none ∧ s.vm.findClass E = some ce.cls ∧
      Steps p.tables e below (T.setTop g) ((T'.setTop { g with stack := rest }).pushFrame (.throwing q)))
def vx_X {S : Type} (px : S → Prop) (B : String → S → State → Prop) (A : Nat → Prop) : String → State → State → Prop := fun E st t => ∃ u : S, px u ∧ B E u t ∧ va_F A st t
section Runs
variable {p : Program} {l : Launch} {e : Env} {R : Room} {s : State} {m : MethodId} {args : Array Value} {below : List Frame} {meth : Method} {c : Code} {H : Heap} {locs : List Loc} {cells slots : Nat}
variable {y : MethodName} {bytes cc : ByteArray} {maxL nL mc ms n index : Nat} {ret : Option FieldType} {ws : List Cond} {rm : Room} {Pc : Array Value → State → Prop} {Qc : Array Value → State → Outcome → State → Prop} {XC : String → State → State → Prop} {free : Addr → Prop} {Ts : List Cond} {own C : String} {b : Addr} {As rest : List Value} {g : JFrame}
theorem vx_callBack (cb : CallB R s args own index y bytes maxL ret ws rm mc ms n) (hM : vx_Met l y ws rm Pc Qc XC mc ms free) (hbl : FrameBlind Pc) : vx_Back l R p e below s args y 3 8 (PreOf R mc ms Pc) (PostOf Qc mc ms free) (vx_Post XC mc ms free) := by
  obtain ⟨hrc, hrs, hfr, hlo, hws, hcw, -, hini, -⟩ := cb
  exact vx_back (bytes := bytes) (maxL := maxL) (ret := ret) hM hbl hrc hrs hfr hlo hws hcw (fun a' U hW => word_at hW (Or.inl (by first | rfl | simp [Cond.onTables, Cond.keeps, Cond.steady])) hini)
theorem vx_runV (S : CallFix p m c cc nL s args Ts own) (hM : vx_Met l y ws rm Pc Qc XC mc ms free) (cw : CallW R s args own C index y bytes maxL ret ws rm mc ms n) (hp : PreV s H C b Pc As)
    (hg : g.method = m) (hn : As.length = n) (hsize : g.locals.size = nL) (hstack : g.stack = As.reverse ++ .ref b :: rest) (hW : 2 * g.monitorRoom + (rest.map fun v => v.category).sum ≤ 8) (hdg : decode cc g.pc = .ok (.invokevirtual index, 3)) (hf : cells + mc ≤ R.cells ∧ slots + ms ≤ R.slots) :
    vx_Run p l e R s m args below meth c H locs cells slots mc ms g rest (Qc (Value.ref b :: As).toArray) XC free := by
  have hK : vx_Back l R p e below s args y 3 8 (PreOf R mc ms Pc) (PostOf Qc mc ms free) (vx_Post XC mc ms free) := vx_callBack cw.1 hM hp.1
  obtain ⟨⟨-, -, -, -, -, -, hcode, -, hy, hlen, hl⟩, hin, hse⟩ := cw
  obtain ⟨hx, hb, hml, ho, -⟩ := S
  obtain ⟨-, ⟨cellB, hcB, hoB, hclB⟩, hPc⟩ := hp
  intro T hT X
  rcases vx_callV X hx (C := C) (bytes := bytes) (maxL := maxL) (ret := ret) ho hl hin hse hcode hy hK (by rw [hT]; exact hcB) hoB hclB hg (hsize.trans hml.symm) (argsL := As) (rest := rest) (fun sig h => hn.trans (hlen sig h)) hstack hW (by rw [hb]; exact hdg)
    (fun vm₁ hW₁ => ⟨hf.1, hf.2, hPc (T.setVm vm₁) hT hW₁⟩) with ⟨v, vm₁, ⟨U', l2, c2, s2⟩, hW₁, X', ⟨g', mk, t, L, e1, e2, hq, h1, hL, h2, h3⟩, st⟩ | ⟨q, vm₁, ⟨U', l2, c2, s2⟩, hW₁, X', ⟨g', mk, t, L, E, ce, e1, e2, hq, hce, hcv, hcl, h1, hL, h2, h3⟩, st⟩
  · dsimp only [Pt.U, Pt.locs, Pt.cells, Pt.slots] at X' e1 e2 h1 h2 h3 st
    subst h1; subst h2; subst h3
    exact Or.inl ⟨v, (T.setVm vm₁).calling g' mk (Value.ref b :: As).toArray, t, U', L, hT, X', hL, e1, e2, hq, st⟩
  · dsimp only [Pt.U, Pt.locs, Pt.cells, Pt.slots] at X' e1 e2 h1 h2 h3 st hcl
    subst h1; subst h2; subst h3
    exact Or.inr ⟨q, (T.setVm vm₁).calling g' mk (Value.ref b :: As).toArray, t, U', L, E, ce, hT, X', hL, e1, e2, hq, hce, hcv, vx_cls hW₁ hcl, st⟩
theorem vx_runS (S : CallFix p m c cc nL s args Ts own) (hM : vx_Met l y ws rm Pc Qc XC mc ms free) (cw : CallB R s args own index y bytes maxL ret ws rm mc ms n ∧ (Cond.static y).before args s = true) (hp : PreS s H Pc As)
    (hg : g.method = m) (hn : As.length = n) (hsize : g.locals.size = nL) (hstack : g.stack = As.reverse ++ rest) (hW : 2 * g.monitorRoom + (rest.map fun v => v.category).sum ≤ 8) (hdg : decode cc g.pc = .ok (.invokestatic index, 3)) (hf : cells + mc ≤ R.cells ∧ slots + ms ≤ R.slots) :
    vx_Run p l e R s m args below meth c H locs cells slots mc ms g rest (Qc As.toArray) XC free := by
  have hK : vx_Back l R p e below s args y 3 8 (PreOf R mc ms Pc) (PostOf Qc mc ms free) (vx_Post XC mc ms free) := vx_callBack cw.1 hM hp.1
  obtain ⟨⟨-, -, -, -, -, -, hcode, hini, hy, hlen, hl⟩, hstt⟩ := cw
  obtain ⟨hx, hb, hml, ho, -⟩ := S
  intro T hT X
  rcases vx_callS X hx (bytes := bytes) (maxL := maxL) (ret := ret) ho hl hstt hini hcode hy hK hg (hsize.trans hml.symm) (argsL := As) (rest := rest) (fun sig h => hn.trans (hlen sig h)) hstack hW (by rw [hb]; exact hdg)
    (fun vm₁ hW₁ => ⟨hf.1, hf.2, hp.2 (T.setVm vm₁) hT hW₁⟩) with ⟨v, vm₁, ⟨U', l2, c2, s2⟩, hW₁, X', ⟨g', mk, t, L, e1, e2, hq, h1, hL, h2, h3⟩, st⟩ | ⟨q, vm₁, ⟨U', l2, c2, s2⟩, hW₁, X', ⟨g', mk, t, L, E, ce, e1, e2, hq, hce, hcv, hcl, h1, hL, h2, h3⟩, st⟩
  · dsimp only [Pt.U, Pt.locs, Pt.cells, Pt.slots] at X' e1 e2 h1 h2 h3 st
    subst h1; subst h2; subst h3
    exact Or.inl ⟨v, (T.setVm vm₁).calling g' mk As.toArray, t, U', L, hT, X', hL, e1, e2, hq, st⟩
  · dsimp only [Pt.U, Pt.locs, Pt.cells, Pt.slots] at X' e1 e2 h1 h2 h3 st hcl
    subst h1; subst h2; subst h3
    exact Or.inr ⟨q, (T.setVm vm₁).calling g' mk As.toArray, t, U', L, E, ce, hT, X', hL, e1, e2, hq, hce, hcv, vx_cls hW₁ hcl, st⟩
end Runs
section Rows
variable {p : Program} {l : Launch} {e : Env} {R : Room} {s : State} {m : MethodId} {args : Array Value} {below : List Frame} {meth : Method} {c : Code} {H : Heap} {locs : List Loc} {cells slots : Nat} {Q : State → Prop}
variable {mc ms : Nat} {free : Addr → Prop} {A0 A1 : Nat → Prop} {H0 : Heap} {a : Array Value} {pc : Nat} {ls : Array Slot} {st0 rest : List Value}
theorem vx_keep {st₀ t T' : State} {L : List Loc} (h0 : st₀.heap = H) (e1 : T'.heap = t.heap) (hS : va_S A0 H0 H locs) (hA : ∀ q, q < H.size → A1 q → A0 q) (hf : ∀ q, free q → A0 q) (hL : ∀ q ∈ L, free q.base) (hF : va_F A1 st₀ t) :
    H.size ≤ T'.heap.size ∧ (∀ q : Nat, q < H.size → ¬ A1 q → T'.heap[q]? = H[q]?) ∧ va_S A0 H0 T'.heap (locs ++ L) := by
  obtain ⟨hz, hk⟩ := hF
  rw [h0] at hz hk
  exact ⟨by rw [e1]; exact hz, fun q h1 h2 => by rw [e1]; exact hk q h1 h2,
    ⟨Nat.le_trans hS.1 (by rw [e1]; exact hz), fun q h1 h2 => by rw [e1, hk q (Nat.lt_of_lt_of_le h1 hS.1) (fun z => h2 (hA q (Nat.lt_of_lt_of_le h1 hS.1) z))]; exact hS.2.1 q h1 h2, fun q hq => by
      rcases List.mem_append.mp hq with h | h
      · exact hS.2.2 q h
      · exact hf _ (hL q h)⟩⟩
theorem vx_calli {S SX : Type} {post : Int32 → S → Prop} {px : SX → Prop} {B : S → State → Prop} {BX : String → SX → State → Prop} {AX : Nat → Prop} (hr : vx_Run p l e R s m args below meth c H locs cells slots mc ms (F0 m pc ls st0) rest (va_Qi post B A1 a) (vx_X px BX AX) free) (hS : va_S A0 H0 H locs) (hA : ∀ q, q < H.size → A1 q → A0 q) (hf : ∀ q, free q → A0 q) (hAX : ∀ q, q < H.size → AX q → A0 q)
    (kx : ∀ (E : String) (ce : Cell) (q9 : Addr) (u : SX) (t : State) (H1 : Heap) (locs1 : List Loc), t.heap = H1 → s.vm.Alike t.vm → px u → BX E u t → H.size ≤ H1.size → (∀ q : Nat, q < H.size → ¬ AX q → H1[q]? = H[q]?) → va_S A0 H0 H1 locs1 → H1[q9]? = some ce → ce.vm = .none → s.vm.findClass E = some ce.cls → vx_W p l e R s m args below meth c H1 locs1 (cells + mc) (slots + ms) Q (F0 m pc ls rest) q9)
    (kk : ∀ (r : Int32) (u : S) (t : State) (H1 : Heap) (locs1 : List Loc), t.heap = H1 → s.vm.Alike t.vm → post r u → B u t → H.size ≤ H1.size → (∀ q : Nat, q < H.size → ¬ A1 q → H1[q]? = H[q]?) → va_S A0 H0 H1 locs1 → W p l e R s m args below meth c H1 locs1 (cells + mc) (slots + ms) Q (F0 m (pc + 3) ls (.int r :: rest))) : W p l e R s m args below meth c H locs cells slots Q (F0 m pc ls st0) := by
  intro T hT X
  rcases hr T hT X with ⟨v, st₀, t, T', L, h0, X', hL, e1, e2, ⟨⟨r, u, hv, hp, hb⟩, hF⟩, st⟩ | ⟨q, st₀, t, T', L, E, ce, h0, X', hL, e1, e2, ⟨u, hp, hb, hF⟩, hce, hcv, hcl, st⟩
  · cases hv
    obtain ⟨k1, k2, k3⟩ := vx_keep h0 e1 hS hA hf hL hF
    obtain ⟨t2, a1, b1⟩ := kk r u t T'.heap (locs ++ L) e1.symm (by rw [← e2]; exact X'.warmed.alike) hp hb k1 k2 k3 T' rfl X'
    exact ⟨t2, st t2 a1, b1⟩
  · obtain ⟨k1, k2, k3⟩ := vx_keep h0 e1 hS hAX hf hL hF
    obtain ⟨t2, a1, b1⟩ := kx E ce q u t T'.heap (locs ++ L) e1.symm (by rw [← e2]; exact X'.warmed.alike) hp hb k1 k2 k3 (by rw [e1]; exact hce) hcv hcl T' rfl X'
    exact ⟨t2, st.trans a1, b1⟩
theorem vx_calll {S SX : Type} {post : Int64 → S → Prop} {px : SX → Prop} {B : S → State → Prop} {BX : String → SX → State → Prop} {AX : Nat → Prop} (hr : vx_Run p l e R s m args below meth c H locs cells slots mc ms (F0 m pc ls st0) rest (va_Ql post B A1 a) (vx_X px BX AX) free) (hS : va_S A0 H0 H locs) (hA : ∀ q, q < H.size → A1 q → A0 q) (hf : ∀ q, free q → A0 q) (hAX : ∀ q, q < H.size → AX q → A0 q)
    (kx : ∀ (E : String) (ce : Cell) (q9 : Addr) (u : SX) (t : State) (H1 : Heap) (locs1 : List Loc), t.heap = H1 → s.vm.Alike t.vm → px u → BX E u t → H.size ≤ H1.size → (∀ q : Nat, q < H.size → ¬ AX q → H1[q]? = H[q]?) → va_S A0 H0 H1 locs1 → H1[q9]? = some ce → ce.vm = .none → s.vm.findClass E = some ce.cls → vx_W p l e R s m args below meth c H1 locs1 (cells + mc) (slots + ms) Q (F0 m pc ls rest) q9)
    (kk : ∀ (r : Int64) (u : S) (t : State) (H1 : Heap) (locs1 : List Loc), t.heap = H1 → s.vm.Alike t.vm → post r u → B u t → H.size ≤ H1.size → (∀ q : Nat, q < H.size → ¬ A1 q → H1[q]? = H[q]?) → va_S A0 H0 H1 locs1 → W p l e R s m args below meth c H1 locs1 (cells + mc) (slots + ms) Q (F0 m (pc + 3) ls (.long r :: rest))) : W p l e R s m args below meth c H locs cells slots Q (F0 m pc ls st0) := by
  intro T hT X
  rcases hr T hT X with ⟨v, st₀, t, T', L, h0, X', hL, e1, e2, ⟨⟨r, u, hv, hp, hb⟩, hF⟩, st⟩ | ⟨q, st₀, t, T', L, E, ce, h0, X', hL, e1, e2, ⟨u, hp, hb, hF⟩, hce, hcv, hcl, st⟩
  · cases hv
    obtain ⟨k1, k2, k3⟩ := vx_keep h0 e1 hS hA hf hL hF
    obtain ⟨t2, a1, b1⟩ := kk r u t T'.heap (locs ++ L) e1.symm (by rw [← e2]; exact X'.warmed.alike) hp hb k1 k2 k3 T' rfl X'
    exact ⟨t2, st t2 a1, b1⟩
  · obtain ⟨k1, k2, k3⟩ := vx_keep h0 e1 hS hAX hf hL hF
    obtain ⟨t2, a1, b1⟩ := kx E ce q u t T'.heap (locs ++ L) e1.symm (by rw [← e2]; exact X'.warmed.alike) hp hb k1 k2 k3 (by rw [e1]; exact hce) hcv hcl T' rfl X'
    exact ⟨t2, st.trans a1, b1⟩
theorem vx_callf {S SX : Type} {post : UInt32 → S → Prop} {px : SX → Prop} {B : S → State → Prop} {BX : String → SX → State → Prop} {AX : Nat → Prop} (hr : vx_Run p l e R s m args below meth c H locs cells slots mc ms (F0 m pc ls st0) rest (va_Qf post B A1 a) (vx_X px BX AX) free) (hS : va_S A0 H0 H locs) (hA : ∀ q, q < H.size → A1 q → A0 q) (hf : ∀ q, free q → A0 q) (hAX : ∀ q, q < H.size → AX q → A0 q)
    (kx : ∀ (E : String) (ce : Cell) (q9 : Addr) (u : SX) (t : State) (H1 : Heap) (locs1 : List Loc), t.heap = H1 → s.vm.Alike t.vm → px u → BX E u t → H.size ≤ H1.size → (∀ q : Nat, q < H.size → ¬ AX q → H1[q]? = H[q]?) → va_S A0 H0 H1 locs1 → H1[q9]? = some ce → ce.vm = .none → s.vm.findClass E = some ce.cls → vx_W p l e R s m args below meth c H1 locs1 (cells + mc) (slots + ms) Q (F0 m pc ls rest) q9)
    (kk : ∀ (r : UInt32) (u : S) (t : State) (H1 : Heap) (locs1 : List Loc), t.heap = H1 → s.vm.Alike t.vm → post r u → B u t → H.size ≤ H1.size → (∀ q : Nat, q < H.size → ¬ A1 q → H1[q]? = H[q]?) → va_S A0 H0 H1 locs1 → W p l e R s m args below meth c H1 locs1 (cells + mc) (slots + ms) Q (F0 m (pc + 3) ls (.float r :: rest))) : W p l e R s m args below meth c H locs cells slots Q (F0 m pc ls st0) := by
  intro T hT X
  rcases hr T hT X with ⟨v, st₀, t, T', L, h0, X', hL, e1, e2, ⟨⟨r, u, hv, hp, hb⟩, hF⟩, st⟩ | ⟨q, st₀, t, T', L, E, ce, h0, X', hL, e1, e2, ⟨u, hp, hb, hF⟩, hce, hcv, hcl, st⟩
  · cases hv
    obtain ⟨k1, k2, k3⟩ := vx_keep h0 e1 hS hA hf hL hF
    obtain ⟨t2, a1, b1⟩ := kk r u t T'.heap (locs ++ L) e1.symm (by rw [← e2]; exact X'.warmed.alike) hp hb k1 k2 k3 T' rfl X'
    exact ⟨t2, st t2 a1, b1⟩
  · obtain ⟨k1, k2, k3⟩ := vx_keep h0 e1 hS hAX hf hL hF
    obtain ⟨t2, a1, b1⟩ := kx E ce q u t T'.heap (locs ++ L) e1.symm (by rw [← e2]; exact X'.warmed.alike) hp hb k1 k2 k3 (by rw [e1]; exact hce) hcv hcl T' rfl X'
    exact ⟨t2, st.trans a1, b1⟩
theorem vx_calld {S SX : Type} {post : UInt64 → S → Prop} {px : SX → Prop} {B : S → State → Prop} {BX : String → SX → State → Prop} {AX : Nat → Prop} (hr : vx_Run p l e R s m args below meth c H locs cells slots mc ms (F0 m pc ls st0) rest (va_Qd post B A1 a) (vx_X px BX AX) free) (hS : va_S A0 H0 H locs) (hA : ∀ q, q < H.size → A1 q → A0 q) (hf : ∀ q, free q → A0 q) (hAX : ∀ q, q < H.size → AX q → A0 q)
    (kx : ∀ (E : String) (ce : Cell) (q9 : Addr) (u : SX) (t : State) (H1 : Heap) (locs1 : List Loc), t.heap = H1 → s.vm.Alike t.vm → px u → BX E u t → H.size ≤ H1.size → (∀ q : Nat, q < H.size → ¬ AX q → H1[q]? = H[q]?) → va_S A0 H0 H1 locs1 → H1[q9]? = some ce → ce.vm = .none → s.vm.findClass E = some ce.cls → vx_W p l e R s m args below meth c H1 locs1 (cells + mc) (slots + ms) Q (F0 m pc ls rest) q9)
    (kk : ∀ (r : UInt64) (u : S) (t : State) (H1 : Heap) (locs1 : List Loc), t.heap = H1 → s.vm.Alike t.vm → post r u → B u t → H.size ≤ H1.size → (∀ q : Nat, q < H.size → ¬ A1 q → H1[q]? = H[q]?) → va_S A0 H0 H1 locs1 → W p l e R s m args below meth c H1 locs1 (cells + mc) (slots + ms) Q (F0 m (pc + 3) ls (.double r :: rest))) : W p l e R s m args below meth c H locs cells slots Q (F0 m pc ls st0) := by
  intro T hT X
  rcases hr T hT X with ⟨v, st₀, t, T', L, h0, X', hL, e1, e2, ⟨⟨r, u, hv, hp, hb⟩, hF⟩, st⟩ | ⟨q, st₀, t, T', L, E, ce, h0, X', hL, e1, e2, ⟨u, hp, hb, hF⟩, hce, hcv, hcl, st⟩
  · cases hv
    obtain ⟨k1, k2, k3⟩ := vx_keep h0 e1 hS hA hf hL hF
    obtain ⟨t2, a1, b1⟩ := kk r u t T'.heap (locs ++ L) e1.symm (by rw [← e2]; exact X'.warmed.alike) hp hb k1 k2 k3 T' rfl X'
    exact ⟨t2, st t2 a1, b1⟩
  · obtain ⟨k1, k2, k3⟩ := vx_keep h0 e1 hS hAX hf hL hF
    obtain ⟨t2, a1, b1⟩ := kx E ce q u t T'.heap (locs ++ L) e1.symm (by rw [← e2]; exact X'.warmed.alike) hp hb k1 k2 k3 (by rw [e1]; exact hce) hcv hcl T' rfl X'
    exact ⟨t2, st.trans a1, b1⟩
theorem vx_callv {S SX : Type} {post : S → Prop} {px : SX → Prop} {B : S → State → Prop} {BX : String → SX → State → Prop} {AX : Nat → Prop} (hr : vx_Run p l e R s m args below meth c H locs cells slots mc ms (F0 m pc ls st0) rest (va_Qv post B A1 a) (vx_X px BX AX) free) (hS : va_S A0 H0 H locs) (hA : ∀ q, q < H.size → A1 q → A0 q) (hf : ∀ q, free q → A0 q) (hAX : ∀ q, q < H.size → AX q → A0 q)
    (kx : ∀ (E : String) (ce : Cell) (q9 : Addr) (u : SX) (t : State) (H1 : Heap) (locs1 : List Loc), t.heap = H1 → s.vm.Alike t.vm → px u → BX E u t → H.size ≤ H1.size → (∀ q : Nat, q < H.size → ¬ AX q → H1[q]? = H[q]?) → va_S A0 H0 H1 locs1 → H1[q9]? = some ce → ce.vm = .none → s.vm.findClass E = some ce.cls → vx_W p l e R s m args below meth c H1 locs1 (cells + mc) (slots + ms) Q (F0 m pc ls rest) q9)
    (kk : ∀ (u : S) (t : State) (H1 : Heap) (locs1 : List Loc), t.heap = H1 → s.vm.Alike t.vm → post u → B u t → H.size ≤ H1.size → (∀ q : Nat, q < H.size → ¬ A1 q → H1[q]? = H[q]?) → va_S A0 H0 H1 locs1 → W p l e R s m args below meth c H1 locs1 (cells + mc) (slots + ms) Q (F0 m (pc + 3) ls (rest))) : W p l e R s m args below meth c H locs cells slots Q (F0 m pc ls st0) := by
  intro T hT X
  rcases hr T hT X with ⟨v, st₀, t, T', L, h0, X', hL, e1, e2, ⟨⟨u, hv, hp, hb⟩, hF⟩, st⟩ | ⟨q, st₀, t, T', L, E, ce, h0, X', hL, e1, e2, ⟨u, hp, hb, hF⟩, hce, hcv, hcl, st⟩
  · cases hv
    obtain ⟨k1, k2, k3⟩ := vx_keep h0 e1 hS hA hf hL hF
    obtain ⟨t2, a1, b1⟩ := kk u t T'.heap (locs ++ L) e1.symm (by rw [← e2]; exact X'.warmed.alike) hp hb k1 k2 k3 T' rfl X'
    exact ⟨t2, st t2 a1, b1⟩
  · obtain ⟨k1, k2, k3⟩ := vx_keep h0 e1 hS hAX hf hL hF
    obtain ⟨t2, a1, b1⟩ := kx E ce q u t T'.heap (locs ++ L) e1.symm (by rw [← e2]; exact X'.warmed.alike) hp hb k1 k2 k3 (by rw [e1]; exact hce) hcv hcl T' rfl X'
    exact ⟨t2, st.trans a1, b1⟩
/-- caught by the row x of this method's table; the rows ahead don't take it -/
theorem vx_catch {own name : String} {E : String} {ce : Cell} {q : Addr} (hown : s.vm.findClass own = some m.cls) (pre : List ExceptionTableEntry) (x : ExceptionTableEntry) (suf : List ExceptionTableEntry) (hsplit : c.exceptionTable.toList = pre ++ x :: suf)
    (hpass : ∀ z ∈ pre, covers z pc = false ∨ (z.catchType ≠ 0 ∧ ∃ nm : String, (Cond.classLink own z.catchType nm).before args s = true ∧ va_Nc E nm s)) (hx : covers x pc = true) (h0 : x.catchType ≠ 0)
    (hlink : (Cond.classLink own x.catchType name).before args s = true) (hcast : (Cond.castable E name).before args s = true) (hcell : H[q]? = some ce) (hv : ce.vm = .none) (hcl : s.vm.findClass E = some ce.cls)
    (kk : W p l e R s m args below meth c H locs cells slots Q (F0 m x.handlerPc ls [.ref q])) : vx_W p l e R s m args below meth c H locs cells slots Q (F0 m pc ls rest) q := by
  intro T hT X
  have hpl : e.platform.magicAccessors = ({} : Platform).magicAccessors := by rw [X.admits.platform]
  obtain ⟨c3, c4, hc3, hc4, hasg⟩ := Cond.castable_spec hcast
  cases Option.some.inj (hc3.symm.trans hcl)
  obtain ⟨c5, hc5, hcl5⟩ := Cond.classLink_spec hown hlink e.platform hpl
  cases Option.some.inj (hc4.symm.trans hc5)
  obtain ⟨vm', X', st⟩ := Jvm.Stand.thenCaughtThrough X q (g := F0 m pc ls rest) rfl (Steps.refl _) (by rw [hT]; exact hcell) (by rw [hv]; rfl) (by obtain ⟨k9, h9, -⟩ := Vm.findClass_spec hcl; exact ⟨k9, h9⟩) pre x suf hsplit
    (fun z hz => by
      rcases hpass z hz with h | ⟨hz0, nm, hl1, hn1⟩
      · exact Or.inl h
      · obtain ⟨c6, hc6, hcl6⟩ := Cond.classLink_spec hown hl1 e.platform hpl
        obtain ⟨a8, b8, h1, h2, h3⟩ := hn1
        cases Option.some.inj (h1.symm.trans hcl)
        cases Option.some.inj (h2.symm.trans hc6)
        exact Or.inr ⟨hz0, _, hcl6, h3⟩) hx (Or.inr ⟨h0, c4, hcl5, hasg⟩)
  obtain ⟨t, a1, b1⟩ := kk (T.setVm vm') hT X'
  exact ⟨t, st.trans a1, b1⟩
end Rows
section Ends
variable {p : Program} {l : Launch} {e : Env} {R : Room} {s : State} {m : MethodId} {args : Array Value} {below : List Frame} {meth : Method} {c : Code} {H : Heap} {locs : List Loc} {cells slots : Nat} {Q : State → Prop}
variable {mc ms : Nat} {free : Addr → Prop} {A0 A1 : Nat → Prop} {H0 : Heap} {a : Array Value} {ls : Array Slot} {st0 rest : List Value}
variable {Qc : Array Value → State → Outcome → State → Prop} {XC : String → State → State → Prop}
/-- what a body that may throw owes at its end -/
def vx_MQ (below : List Frame) (Qc : Array Value → State → Outcome → State → Prop) (XC : String → State → State → Prop) (a : Array Value) (s : State) (mc ms : Nat) (free : Addr → Prop) : State → Prop := fun t =>
  ∃ o, t.status = .running ∧ Ended t below o ∧ vx_Q Qc XC mc ms free a s o t
theorem vx_ret {g : JFrame} {mc ms : Nat} (k : W p l e R s m args below meth c H locs cells slots (MQ below Qc args s mc ms free) g) : W p l e R s m args below meth c H locs cells slots (vx_MQ below Qc XC args s mc ms free) g := by
  intro T hT X
  obtain ⟨t, a1, o, b1, b2, b3, b4⟩ := k T hT X
  exact ⟨t, a1, o, b1, b2, Or.inl ⟨b3, b4⟩⟩
/-- not caught here: it goes on to the caller -/
theorem vx_widen {g : JFrame} {q : Addr} {k n : Nat} (h1 : cells ≤ k) (h2 : slots ≤ n) (kk : vx_W p l e R s m args below meth c H locs k n Q g q) : vx_W p l e R s m args below meth c H locs cells slots Q g q := fun T hT X => kk T hT (stand_widen X h1 h2)
theorem vx_out {pc : Nat} {E : String} {ce : Cell} {q : Addr} {mc ms : Nat} (hout : ∀ x ∈ c.exceptionTable.toList, covers x pc = false) (hlocks : meth.locks = false) (hcell : H[q]? = some ce) (hv : ce.vm = .none) (hcl : s.vm.findClass E = some ce.cls)
    (hx : ∀ t : State, t.heap = H → s.vm.Alike t.vm → XC E s t) (hf : ∀ z ∈ locs, free z.base) (hc : cells ≤ mc) (hs : slots ≤ ms) :
    vx_W p l e R s m args below meth c H locs cells slots (vx_MQ below Qc XC args s mc ms free) (F0 m pc ls rest) q := by
  intro T hT X
  obtain ⟨st1, hrun, hend, hW, hsm⟩ := X.leaveThrown q (g := F0 m pc ls rest) rfl rfl rfl hout hlocks
  have hcell9 : (T.setFrames (.throwing q :: below)).heap[q]? = some ce := by
    show T.heap[q]? = some ce
    rw [hT]; exact hcell
  exact ⟨_, st1, .threw q, hrun, hend, Or.inr ⟨q, rfl, E, ce, locs, hx _ hT hW.alike, hcell9, hv, hcl, hW, hsm.mono hc hs, hf⟩⟩
theorem vx_frame {U : State} {k n : Nat} (h : s.sameButNew ({ U with vm := s.vm } : State) locs k n) : s.heap.size ≤ U.heap.size ∧ ∀ q : Nat, q < s.heap.size → (∀ z ∈ locs, z.base ≠ q) → U.heap[q]? = s.heap[q]? := by
  obtain ⟨-, h2, -, -, -, h6⟩ := h
  refine ⟨h2, fun q hq hz => ?_⟩
  obtain ⟨c9, e1, e2, e3, e4⟩ := h6 q _ (Array.getElem?_eq_getElem hq)
  have hs : c9.slots = (s.heap[q]).slots := Array.ext_getElem? fun i => e4 i fun hm => hz _ hm rfl
  have h9 : c9 = s.heap[q] := by
    rw [hs] at e2
    exact e2
  have e5 : U.heap[q]? = some c9 := e1
  rw [e5, h9, Array.getElem?_eq_getElem hq]
/-- the words of a throw but the four that speak of the heap -/
def vx_no (w : Cond) : Bool := decide (w ≠ .isRef (.static Bundle.tN "UNASSIGNED_STACK" Bundle.steD)) && decide (w ≠ .isRef (.static Bundle.tN "SUPPRESSED_SENTINEL" Bundle.listD)) && decide (w ≠ .laysStatic Bundle.tN "UNASSIGNED_STACK" Bundle.steD) && decide (w ≠ .laysStatic Bundle.tN "SUPPRESSED_SENTINEL" Bundle.listD)
def vx_at0 (own : String) (ic : Nat) (X : String) (names : List String) : List Cond := (Bundle.ownAtoms0 own ic X names).filter vx_no
def vx_atS (own : String) (ic : Nat) (X : String) (names : List String) : List Cond := (Bundle.ownAtoms own ic X names).filter vx_no
/-- a word that the tables alone decide, or a good one -/
def vx_ot (w : Cond) : Bool := w.onTables || goodWord w
theorem vx_ot_at {args a' : Array Value} {s U : State} {w : Cond} (hW : s.WarmedH U.vm) (hvm : s.vm = U.vm) (hg : vx_ot w = true) (h : w.before args s = true) : w.before a' U = true := by
  simp only [vx_ot, Bool.or_eq_true] at hg
  rcases hg with hg | hg
  · exact va_tabs hg hvm h
  · exact word_at hW (good_of_word hg) h
/-- a list's words: the good ones out of the method's own list, the others by premises of their own -/
theorem vx_hat {args : Array Value} {s : State} {L B : List Cond} (h1 : ∀ w ∈ L.filter goodWord, w.before args s = true) (h2 : ∀ w ∈ L.filter (fun w => !goodWord w), w ∈ B) (h3 : ∀ w ∈ B, w.before args s = true) : ∀ w ∈ L, w.before args s = true := by
  intro w hw
  by_cases g : goodWord w = true
  · exact h1 w (List.mem_filter.mpr ⟨hw, g⟩)
  · refine h3 w (h2 w (List.mem_filter.mpr ⟨hw, ?_⟩))
    show (!goodWord w) = true
    cases hgw : goodWord w
    · rfl
    · exact absurd hgw g
theorem vx_c {args : Array Value} {s : State} {w : Cond} {B : List Cond} (h : w.before args s = true) (t : ∀ w ∈ B, w.before args s = true) : ∀ w' ∈ w :: B, w'.before args s = true := fun w' h' => (List.mem_cons.mp h').elim (fun e => by rw [e]; exact h) (t w')
theorem vx_n {args : Array Value} {s : State} : ∀ w ∈ ([] : List Cond), w.before args s = true := fun _ h => nomatch h
theorem vx_own {args : Array Value} {s : State} {L : List Cond} (h1 : ∀ w ∈ L.filter vx_no, w.before args s = true)
    (hU : (Cond.isRef (.static Bundle.tN "UNASSIGNED_STACK" Bundle.steD)).before args s = true) (hN : (Cond.isRef (.static Bundle.tN "SUPPRESSED_SENTINEL" Bundle.listD)).before args s = true)
    (lU : (Cond.laysStatic Bundle.tN "UNASSIGNED_STACK" Bundle.steD).before args s = true) (lN : (Cond.laysStatic Bundle.tN "SUPPRESSED_SENTINEL" Bundle.listD).before args s = true) : ∀ w ∈ L, w.before args s = true := by
  intro w hw
  by_cases e1 : w = .isRef (.static Bundle.tN "UNASSIGNED_STACK" Bundle.steD)
  · rw [e1]; exact hU
  · by_cases e2 : w = .isRef (.static Bundle.tN "SUPPRESSED_SENTINEL" Bundle.listD)
    · rw [e2]; exact hN
    · by_cases e3 : w = .laysStatic Bundle.tN "UNASSIGNED_STACK" Bundle.steD
      · rw [e3]; exact lU
      · by_cases e4 : w = .laysStatic Bundle.tN "SUPPRESSED_SENTINEL" Bundle.listD
        · rw [e4]; exact lN
        · exact h1 w (List.mem_filter.mpr ⟨hw, by unfold vx_no; rw [decide_eq_true e1, decide_eq_true e2, decide_eq_true e3, decide_eq_true e4]; rfl⟩)
/-- where a static field lies, its class's statics cell in H -/
def vx_L (C n d : String) (A : Nat → Prop) (U : State) (H : Heap) : Prop := ∃ (c : ClassId) (k : Class) (i : Nat) (f : Field) (a : Nat) (cell : Cell), U.vm.findClass C = some c ∧ U.fieldFound? C n d = some (c, k, i, f) ∧ f.isStatic = true ∧ k.statics = some a ∧ H[a]? = some cell ∧ cell.vm.isStatics = true ∧ cell.cls = c ∧ f.slot < cell.slots.size ∧ k.staticTypes[f.slot]? = some f.type ∧ ¬ A a
theorem vx_L.moved {C n d : String} {A : Nat → Prop} {u U : State} {H : Heap} (hvm : u.vm.Alike U.vm) (h : vx_L C n d A u H) : vx_L C n d A U H := by
  obtain ⟨c, k, i, f, a, cell, h1, h2, h3, h4, h5, h6, h7, h8, h9, h10⟩ := h
  obtain ⟨k', hi', he⟩ := State.fieldFound?_setVm hvm h2
  exact ⟨c, k', i, f, a, cell, by rw [hvm.findClass]; exact h1, hi', h3, by rw [he]; exact h4, h5, h6, h7, h8, by rw [he]; exact h9, h10⟩
theorem vx_L.kept {C n d : String} {A : Nat → Prop} {U : State} {H H1 : Heap} (h : vx_L C n d A U H) (hq : ∀ a : Nat, a < H.size → ¬ A a → H1[a]? = H[a]?) : vx_L C n d A U H1 := by
  obtain ⟨c, k, i, f, a, cell, h1, h2, h3, h4, h5, h6, h7, h8, h9, h10⟩ := h
  exact ⟨c, k, i, f, a, cell, h1, h2, h3, h4, by rw [hq a (Array.getElem?_eq_some_iff.mp h5).1 h10]; exact h5, h6, h7, h8, h9, h10⟩
theorem vx_L.narrow {C n d : String} {A B : Nat → Prop} {U : State} {H : Heap} (h : vx_L C n d A U H) (hAB : ∀ q, B q → A q) : vx_L C n d B U H := by
  obtain ⟨c, k, i, f, a, cell, h1, h2, h3, h4, h5, h6, h7, h8, h9, h10⟩ := h
  exact ⟨c, k, i, f, a, cell, h1, h2, h3, h4, h5, h6, h7, h8, h9, fun z => h10 (hAB _ z)⟩
theorem vx_L.word {C n d : String} {A : Nat → Prop} {s : State} {args : Array Value} (h : vx_L C n d A s s.heap) : (Cond.laysStatic C n d).before args s = true := by
  obtain ⟨c, k, i, f, a, cell, h1, h2, h3, h4, h5, h6, h7, h8, h9, -⟩ := h
  show (Cond.laysStatic C n d).holds args s none s [] = true
  exact Cond.laysStatic_of h1 h2 h3 h4 h5 h6 h7 h8 h9
/-- .. and what it holds: null or some reference -/
def vx_Zq (C n d : String) (A : Nat → Prop) (U : State) (H : Heap) : Prop := va_Zq C n d A U H ∧ vx_L C n d A U H
theorem vx_Zq.moved {C n d : String} {A : Nat → Prop} {u U : State} {H : Heap} (hvm : u.vm.Alike U.vm) (h : vx_Zq C n d A u H) : vx_Zq C n d A U H := ⟨va_Zq.moved hvm h.1, vx_L.moved hvm h.2⟩
theorem vx_Zq.kept {C n d : String} {A : Nat → Prop} {U : State} {H H1 : Heap} (h : vx_Zq C n d A U H) (hq : ∀ a : Nat, a < H.size → ¬ A a → H1[a]? = H[a]?) : vx_Zq C n d A U H1 := ⟨va_Zq.kept h.1 hq, vx_L.kept h.2 hq⟩
theorem vx_Zq.narrow {C n d : String} {A B : Nat → Prop} {U : State} {H : Heap} (h : vx_Zq C n d A U H) (hAB : ∀ q, B q → A q) : vx_Zq C n d B U H := ⟨va_Zq.narrow h.1 hAB, vx_L.narrow h.2 hAB⟩
theorem vx_Zqof {args : Array Value} {s : State} {C n d : String} {A : Nat → Prop} (hl : (Cond.laysStatic C n d).before args s = true) (hini : (Cond.initialized C).before args s = true) (h : (Cond.isRef (.static C n d)).before args s = true) (hA : ∀ a : Nat, a < s.heap.size → ¬ A a) : vx_Zq C n d A s s.heap := by
  refine ⟨va_Zqof hl hini h hA, ?_⟩
  obtain ⟨c, k, i, f, a, cell, h1, h2, h3, h4, h5, h6, h7, h8, h9⟩ := Cond.laysStatic_spec hl
  exact ⟨c, k, i, f, a, cell, h1, h2, h3, h4, h5, h6, h7, h8, h9, hA a (Array.getElem?_eq_some_iff.mp h5).1⟩
theorem vx_isRef {C n d : String} {v : Value} {A : Nat → Prop} {s : State} {args : Array Value} (h : va_Z C n d v A s s.heap) (hv : v.isRef = true) : (Cond.isRef (.static C n d)).before args s = true := by
  obtain ⟨cf, kf, fi, f, a, cell, h1, h2, h3, h4, h5, h6, h7, -⟩ := h
  have he : (Term.static C n d).eval args s none [] s = some v := by
    simp [Term.eval, State.fieldNamed?, h1, h2, h4, h5, h6, h7]
  simp only [Cond.before, Cond.holds, Cond.value, he]
  cases v <;> simp_all [Value.isRef]
theorem vx_isRefq {C n d : String} {A : Nat → Prop} {s : State} {args : Array Value} (h : va_Zq C n d A s s.heap) : (Cond.isRef (.static C n d)).before args s = true := by
  rcases h with h | ⟨t, h⟩
  · exact vx_isRef h rfl
  · exact vx_isRef h rfl
/-- the same frame, seen from here: as if the method were called anew in this heap -/
theorem vx_rebase {T : State} (X : Stand p l e R s m args below meth c T locs cells slots) {R' : Room} (hf : R'.frames ≤ R.frames) (hl : R'.locals ≤ R.locals) (hc : cells + R'.cells ≤ R.cells) (hs : slots + R'.slots ≤ R.slots) :
    Stand p l e R' ((T.setVm s.vm).setFrames (.invoking m args :: below)) m args below meth c T [] 0 0 := by
  have htop : (T.setVm s.vm).topJava?.isSome := X.here.top
  have hF : ((T.setVm s.vm).setFrames (.invoking m args :: below)).frames = .invoking m args :: below := State.frames_setFrames _ (State.cur_lt_of_top htop)
  obtain ⟨g₀, hg0⟩ := Option.isSome_iff_exists.mp htop
  obtain ⟨r, hr⟩ := State.topJava?_eq_some.mp hg0
  have hl9 : e.platform.stackLimits (T.setVm s.vm).me = e.platform.stackLimits s.me := X.limits
  have hb9 : (T.setVm s.vm).me.stackBytes = s.me.stackBytes := X.bytes
  refine ⟨X.admits, X.cas, X.clock, hF, ?_, X.hears, X.method, X.code, X.here, X.tail, X.warmed, ?_, ?_, ?_⟩
  · have h := X.room
    have hU : ((T.setVm s.vm).setFrames (.invoking m args :: below)).localsInUse = s.localsInUse := by
      rw [State.localsInUse_invoking hF (meth := meth) (c := c) X.method X.code, State.localsInUse_invoking X.frames X.method X.code]
    simp only [State.hasRoom, Bool.and_eq_true, decide_eq_true_eq] at h ⊢
    obtain ⟨⟨⟨⟨h1, h2, h3, h4, h5, h6⟩, h7⟩, h8⟩, h9⟩ := h
    rw [X.frames, List.length_cons] at h2 h3
    have q1 := X.heapSize
    have q2 := X.used
    simp only [hF, hU, List.length_cons, State.stackLimits_setFrames, State.stackBytes_setFrames, hl9, hb9]
    refine ⟨⟨⟨⟨by omega, by omega, by omega, by omega, by omega, h6⟩, ?_⟩, ?_⟩, X.book⟩
    · show T.heap.size + R'.cells ≤ e.platform.maxCells
      omega
    · show T.slotsUsed + R'.slots ≤ e.platform.maxSlots
      omega
  · rw [State.stackLimits_setFrames]; rfl
  · rw [State.stackBytes_setFrames]; rfl
  · refine ⟨?_, Nat.le_refl _, Nat.le_refl _, ?_, ?_, fun a c9 h9 => ⟨c9, h9, rfl, rfl, fun _ _ => rfl⟩⟩
    · obtain ⟨t, ht, -⟩ := State.frames_cons hr
      show T.setVm s.vm = { ((T.setVm s.vm).setFrames (.invoking m args :: below)).setFrames (T.setVm s.vm).frames with heap := T.heap, slotsUsed := T.slotsUsed }
      rw [State.setFrames_setFrames, State.setFrames_self ht]
      rfl
    · show T.slotsUsed = T.slotsUsed + ((T.heap.toList.drop T.heap.size).map (·.slots.size)).sum
      rw [List.drop_eq_nil_of_le (Nat.le_of_eq Array.length_toList)]
      rfl
    · show ((T.heap.toList.drop T.heap.size).map (·.slots.size)).sum ≤ 0
      rw [List.drop_eq_nil_of_le (Nat.le_of_eq Array.length_toList)]
      exact Nat.le_refl _
/-- 'throw new E()': new; dup; invokespecial; athrow -/
theorem vx_throw0 {cc : ByteArray} {pc : Nat} (hexec : p.tables.exec = Jvm.exec) (hb : c.code = cc) (hl : l.stackTraces = false) {own cls : String} {names : List String} {ik ic mc ms : Nat} {A : Nat → Prop}
    (hown : s.vm.findClass own = some m.cls) (hcls : Bundle.fit cls = true) (hnames : ∀ n ∈ names, Bundle.fit n = true)
    (hk : (Cond.classLink own ik cls).before args s = true) (hini : (Cond.initialized cls).before args s = true) (hat : ∀ w ∈ vx_at0 own ic cls names, w.before args s = true)
    (hgood : ∀ w ∈ Cond.classLink own ik cls :: Cond.initialized cls :: vx_at0 own ic cls names, vx_ot w = true)
    (hU : vx_Zq Bundle.tN "UNASSIGNED_STACK" Bundle.steD A s s.heap) (hN : vx_Zq Bundle.tN "SUPPRESSED_SENTINEL" Bundle.listD A s s.heap) (hS : va_S A s.heap H locs) (hsize : ls.size = c.maxLocals)
    (d0 : decode cc pc = .ok (.new ik, 3)) (d3 : decode cc (pc + 3) = .ok (.dup, 1)) (d4 : decode cc (pc + 4) = .ok (.invokespecial ic, 3)) (d7 : decode cc (pc + 7) = .ok (.athrow, 1))
    (hout : ∀ x ∈ c.exceptionTable.toList, covers x (pc + 7) = false)
    (hRframes : names.length + 3 < R.frames) (hRlocals : (rest.map fun v => v.category).sum + (13 * (names.length + 1) + 42) ≤ R.locals) (hRcells : cells + 1 ≤ R.cells) (hRslots : slots + 6 ≤ R.slots) (hlocks : meth.locks = false)
    (hx : ∀ t : State, s.vm.Alike t.vm → H.size ≤ t.heap.size → (∀ q : Nat, q < H.size → t.heap[q]? = H[q]?) → XC cls s t)
    (hf : ∀ z ∈ locs, free z.base) (hc : cells + 1 ≤ mc) (hs : slots + 6 ≤ ms) :
    W p l e R s m args below meth c H locs cells slots (vx_MQ below Qc XC args s mc ms free) (F0 m pc ls rest) := by
  intro T hT X
  have htr : e.platform.stackTraces = false := (show e.platform.stackTraces = l.stackTraces by rw [X.admits.platform]).trans hl
  have Y := vx_rebase X (R' := { frames := R.frames, locals := R.locals, cells := 1, slots := 6 }) (Nat.le_refl _) (Nat.le_refl _) hRcells hRslots
  obtain ⟨s', hA⟩ : ∃ z, z = (T.setVm s.vm).setFrames (.invoking m args :: below) := ⟨_, rfl⟩
  rw [← hA] at Y
  have hvm : s'.vm = s.vm := by rw [hA]; rfl
  have hhp : s'.heap = H := by rw [hA]; exact hT
  have hW0 : s.WarmedH s'.vm := by rw [hvm]; exact State.WarmedH.refl s
  have hat' : ∀ w ∈ vx_at0 own ic cls names, w.before args s' = true := fun w hw => vx_ot_at hW0 hvm.symm (hgood w (List.mem_cons_of_mem _ (List.mem_cons_of_mem _ hw))) (hat w hw)
  have hk' : (Cond.classLink own ik cls).before args s' = true := vx_ot_at hW0 hvm.symm (hgood _ List.mem_cons_self) hk
  have hini' : (Cond.initialized cls).before args s' = true := vx_ot_at hW0 hvm.symm (hgood _ (List.mem_cons_of_mem _ List.mem_cons_self)) hini
  have hU' : vx_Zq Bundle.tN "UNASSIGNED_STACK" Bundle.steD A s' s'.heap := by rw [hhp]; exact vx_Zq.moved hW0.alike (hU.kept hS.2.1)
  have hN' : vx_Zq Bundle.tN "SUPPRESSED_SENTINEL" Bundle.listD A s' s'.heap := by rw [hhp]; exact vx_Zq.moved hW0.alike (hN.kept hS.2.1)
  have h : ∀ w ∈ Bundle.ownAtoms0 own ic cls names, w.before args s' = true := vx_own hat' (vx_isRefq hU'.1) (vx_isRefq hN'.1) hU'.2.word hN'.2.word
  have hown' : s'.vm.findClass own = some m.cls := by rw [hvm]; exact hown
  have hins : (Cond.instantiable cls 6).before args s' = true := h _ (by simp [Bundle.ownAtoms0])
  obtain ⟨vm₁, cX, kX, hfX, hkX, -, -, X₁, st1⟩ := Y.newCold hexec (own := own) (C := cls) (index := ik) (n := 6) hown' hk' hins hini'
    (g := F0 m pc ls rest) rfl (by rw [hb]; exact d0) (Nat.le_refl _) (Nat.le_refl _)
  generalize hT1 : (T.setVm vm₁).pushCell { cls := cX, slots := kX.instanceTypes.map defaultValue, vm := .none } = T1 at X₁ st1
  have hcat : (Value.ref T.heap.size).category = 1 := rfl
  have hcellA : T1.heap[T.heap.size]? = some (freshCell cX kX) := by rw [← hT1]; exact State.heap_pushCell_size _ _
  have d3' : decode c.code (pc + 3) = .ok (.dup, 1) := by rw [hb]; exact d3
  obtain ⟨U, hsteps, hrun, hend, hW, hsame, ce, hce, hO⟩ := X₁.ctorThrow0 hexec htr (own := own) (cls := cls) (names := names) (ic := ic) hown' hcls hnames h (fun x hx => nomatch hx) hfX hkX hcellA (by rw [hhp, hT]; exact Nat.le_refl _)
    (g := { method := m, pc := pc + 4, locals := ls, stack := .ref T.heap.size :: .ref T.heap.size :: rest, locked := none }) rfl hsize rfl rfl (rest := rest) rfl
    (by rw [hb]; exact d4) (by rw [hb]; exact d7) hout hRframes (by simp only [List.map_cons, List.sum_cons, hcat]; omega) hlocks
  obtain ⟨f1, f2⟩ := vx_frame hsame
  rw [hhp] at f1 f2
  have hWs : s.WarmedH U.vm := State.WarmedH.trans hW0 hW
  have hcl : s.vm.findClass cls = some ce.cls := by
    have h9 := hO.cls
    rw [hvm] at h9
    exact h9
  have hall : s.sameButNew ({ U with vm := s.vm } : State) locs mc ms := by
    subst hA
    obtain ⟨e1, e2⟩ := hsame
    rw [State.setFrames_setFrames] at e1
    have h2 : (T.setVm s.vm).sameButNew ({ U with vm := s.vm } : State) [] (0 + 1) (0 + 6) := ⟨e1, e2⟩
    have h3 := X.same.trans h2
    rw [List.append_nil] at h3
    exact h3.mono hc hs
  refine ⟨U, ?_, .threw T.heap.size, hrun, hend, Or.inr ⟨T.heap.size, rfl, cls, ce, locs, hx U hWs.alike f1 (fun q hq => f2 q hq (fun z hz => nomatch hz)), hce, hO.vm, hcl, hWs, hall, hf⟩⟩
  refine st1 _ ?_
  show Steps p.tables e below (T1.setTop { method := m, pc := pc + 3, locals := ls, stack := .ref T.heap.size :: rest, locked := none }) _
  jvm_step X₁.here [X₁.here.top, hexec, d3', Value.category]
  exact hsteps
/-- 'throw new E("text")': new; dup; ldc; invokespecial; athrow -/
theorem vx_throwS {cc : ByteArray} {pc : Nat} (hexec : p.tables.exec = Jvm.exec) (hb : c.code = cc) (hl : l.stackTraces = false) {own cls text : String} {names : List String} {ik is ic mc ms sa : Nat} {A : Nat → Prop}
    (hown : s.vm.findClass own = some m.cls) (hcls : Bundle.fit cls = true) (hnames : ∀ n ∈ names, Bundle.fit n = true)
    (hk : (Cond.classLink own ik cls).before args s = true) (hini : (Cond.initialized cls).before args s = true) (hstr : vk_R own is text sa s) (hat : ∀ w ∈ vx_atS own ic cls names, w.before args s = true)
    (hgood : ∀ w ∈ Cond.classLink own ik cls :: Cond.initialized cls :: vx_atS own ic cls names, vx_ot w = true)
    (hU : vx_Zq Bundle.tN "UNASSIGNED_STACK" Bundle.steD A s s.heap) (hN : vx_Zq Bundle.tN "SUPPRESSED_SENTINEL" Bundle.listD A s s.heap) (hS : va_S A s.heap H locs) (hsize : ls.size = c.maxLocals)
    (d0 : decode cc pc = .ok (.new ik, 3)) (d3 : decode cc (pc + 3) = .ok (.dup, 1)) (d4 : decode cc (pc + 4) = .ok (.ldc is, 2)) (d6 : decode cc (pc + 6) = .ok (.invokespecial ic, 3)) (d9 : decode cc (pc + 9) = .ok (.athrow, 1))
    (hout : ∀ x ∈ c.exceptionTable.toList, covers x (pc + 9) = false)
    (hRframes : names.length + 3 < R.frames) (hRlocals : (rest.map fun v => v.category).sum + (13 * (names.length + 1) + 43) ≤ R.locals) (hRcells : cells + 1 ≤ R.cells) (hRslots : slots + 6 ≤ R.slots) (hlocks : meth.locks = false)
    (hx : ∀ t : State, s.vm.Alike t.vm → H.size ≤ t.heap.size → (∀ q : Nat, q < H.size → t.heap[q]? = H[q]?) → XC cls s t)
    (hf : ∀ z ∈ locs, free z.base) (hc : cells + 1 ≤ mc) (hs : slots + 6 ≤ ms) :
    W p l e R s m args below meth c H locs cells slots (vx_MQ below Qc XC args s mc ms free) (F0 m pc ls rest) := by
  intro T hT X
  have htr : e.platform.stackTraces = false := (show e.platform.stackTraces = l.stackTraces by rw [X.admits.platform]).trans hl
  have Y := vx_rebase X (R' := { frames := R.frames, locals := R.locals, cells := 1, slots := 6 }) (Nat.le_refl _) (Nat.le_refl _) hRcells hRslots
  obtain ⟨s', hA⟩ : ∃ z, z = (T.setVm s.vm).setFrames (.invoking m args :: below) := ⟨_, rfl⟩
  rw [← hA] at Y
  have hvm : s'.vm = s.vm := by rw [hA]; rfl
  have hhp : s'.heap = H := by rw [hA]; exact hT
  have hW0 : s.WarmedH s'.vm := by rw [hvm]; exact State.WarmedH.refl s
  have hat' : ∀ w ∈ vx_atS own ic cls names, w.before args s' = true := fun w hw => vx_ot_at hW0 hvm.symm (hgood w (List.mem_cons_of_mem _ (List.mem_cons_of_mem _ hw))) (hat w hw)
  have hk' : (Cond.classLink own ik cls).before args s' = true := vx_ot_at hW0 hvm.symm (hgood _ List.mem_cons_self) hk
  have hini' : (Cond.initialized cls).before args s' = true := vx_ot_at hW0 hvm.symm (hgood _ (List.mem_cons_of_mem _ List.mem_cons_self)) hini
  have hU' : vx_Zq Bundle.tN "UNASSIGNED_STACK" Bundle.steD A s' s'.heap := by rw [hhp]; exact vx_Zq.moved hW0.alike (hU.kept hS.2.1)
  have hN' : vx_Zq Bundle.tN "SUPPRESSED_SENTINEL" Bundle.listD A s' s'.heap := by rw [hhp]; exact vx_Zq.moved hW0.alike (hN.kept hS.2.1)
  have h : ∀ w ∈ Bundle.ownAtoms own ic cls names, w.before args s' = true := vx_own hat' (vx_isRefq hU'.1) (vx_isRefq hN'.1) hU'.2.word hN'.2.word
  have hown' : s'.vm.findClass own = some m.cls := by rw [hvm]; exact hown
  have hins : (Cond.instantiable cls 6).before args s' = true := h _ (by simp [Bundle.ownAtoms])
  obtain ⟨vm₁, cX, kX, hfX, hkX, -, -, X₁, st1⟩ := Y.newCold hexec (own := own) (C := cls) (index := ik) (n := 6) hown' hk' hins hini'
    (g := F0 m pc ls rest) rfl (by rw [hb]; exact d0) (Nat.le_refl _) (Nat.le_refl _)
  generalize hT1 : (T.setVm vm₁).pushCell { cls := cX, slots := kX.instanceTypes.map defaultValue, vm := .none } = T1 at X₁ st1
  have hcat : (Value.ref T.heap.size).category = 1 := rfl
  have hcellA : T1.heap[T.heap.size]? = some (freshCell cX kX) := by rw [← hT1]; exact State.heap_pushCell_size _ _
  have d3' : decode c.code (pc + 3) = .ok (.dup, 1) := by rw [hb]; exact d3
  have d4' : decode c.code (pc + 4) = .ok (.ldc is, 2) := by rw [hb]; exact d4
  have hstr' : vk_R own is text sa s' := vk_R.warm hW0 hstr
  obtain ⟨U, hsteps, hrun, hend, hW, hsame, ce, hce, hO⟩ := X₁.ctorThrowS hexec htr (own := own) (cls := cls) (names := names) (ic := ic) hown' hcls hnames h (fun x hx => nomatch hx) hfX hkX hcellA (by rw [hhp, hT]; exact Nat.le_refl _) (msg := .ref sa) rfl
    (g := { method := m, pc := pc + 6, locals := ls, stack := .ref sa :: .ref T.heap.size :: .ref T.heap.size :: rest, locked := none }) rfl hsize rfl rfl (rest := rest) rfl
    (by rw [hb]; exact d6) (by rw [hb]; exact d9) hout hRframes (by simp only [List.map_cons, List.sum_cons, hcat]; omega) hlocks
  obtain ⟨f1, f2⟩ := vx_frame hsame
  rw [hhp] at f1 f2
  have hWs : s.WarmedH U.vm := State.WarmedH.trans hW0 hW
  have hcl : s.vm.findClass cls = some ce.cls := by
    have h9 := hO.cls
    rw [hvm] at h9
    exact h9
  have hall : s.sameButNew ({ U with vm := s.vm } : State) locs mc ms := by
    subst hA
    obtain ⟨e1, e2⟩ := hsame
    rw [State.setFrames_setFrames] at e1
    have h2 : (T.setVm s.vm).sameButNew ({ U with vm := s.vm } : State) [] (0 + 1) (0 + 6) := ⟨e1, e2⟩
    have h3 := X.same.trans h2
    rw [List.append_nil] at h3
    exact h3.mono hc hs
  refine ⟨U, ?_, .threw T.heap.size, hrun, hend, Or.inr ⟨T.heap.size, rfl, cls, ce, locs, hx U hWs.alike f1 (fun q hq => f2 q hq (fun z hz => nomatch hz)), hce, hO.vm, hcl, hWs, hall, hf⟩⟩
  refine st1 _ ?_
  show Steps p.tables e below (T1.setTop { method := m, pc := pc + 3, locals := ls, stack := .ref T.heap.size :: rest, locked := none }) _
  jvm_step X₁.here [X₁.here.top, hexec, d3', Value.category]
  exact X₁.ldcString hexec (own := own) (text := text) (index := is) (a := sa) hown' hstr'.1 hstr'.2
    (g := { method := m, pc := pc + 4, locals := ls, stack := .ref T.heap.size :: .ref T.heap.size :: rest, locked := none }) rfl d4' _ hsteps
/-- 'throw new E("text")', the text by a wide index -/
theorem vx_throwSW {cc : ByteArray} {pc : Nat} (hexec : p.tables.exec = Jvm.exec) (hb : c.code = cc) (hl : l.stackTraces = false) {own cls text : String} {names : List String} {ik is ic mc ms sa : Nat} {A : Nat → Prop}
    (hown : s.vm.findClass own = some m.cls) (hcls : Bundle.fit cls = true) (hnames : ∀ n ∈ names, Bundle.fit n = true)
    (hk : (Cond.classLink own ik cls).before args s = true) (hini : (Cond.initialized cls).before args s = true) (hstr : vk_R own is text sa s) (hat : ∀ w ∈ vx_atS own ic cls names, w.before args s = true)
    (hgood : ∀ w ∈ Cond.classLink own ik cls :: Cond.initialized cls :: vx_atS own ic cls names, vx_ot w = true)
    (hU : vx_Zq Bundle.tN "UNASSIGNED_STACK" Bundle.steD A s s.heap) (hN : vx_Zq Bundle.tN "SUPPRESSED_SENTINEL" Bundle.listD A s s.heap) (hS : va_S A s.heap H locs) (hsize : ls.size = c.maxLocals)
    (d0 : decode cc pc = .ok (.new ik, 3)) (d3 : decode cc (pc + 3) = .ok (.dup, 1)) (d4 : decode cc (pc + 4) = .ok (.ldc_w is, 3)) (d7 : decode cc (pc + 7) = .ok (.invokespecial ic, 3)) (d10 : decode cc (pc + 10) = .ok (.athrow, 1))
    (hout : ∀ x ∈ c.exceptionTable.toList, covers x (pc + 10) = false)
    (hRframes : names.length + 3 < R.frames) (hRlocals : (rest.map fun v => v.category).sum + (13 * (names.length + 1) + 43) ≤ R.locals) (hRcells : cells + 1 ≤ R.cells) (hRslots : slots + 6 ≤ R.slots) (hlocks : meth.locks = false)
    (hx : ∀ t : State, s.vm.Alike t.vm → H.size ≤ t.heap.size → (∀ q : Nat, q < H.size → t.heap[q]? = H[q]?) → XC cls s t)
    (hf : ∀ z ∈ locs, free z.base) (hc : cells + 1 ≤ mc) (hs : slots + 6 ≤ ms) :
    W p l e R s m args below meth c H locs cells slots (vx_MQ below Qc XC args s mc ms free) (F0 m pc ls rest) := by
  intro T hT X
  have htr : e.platform.stackTraces = false := (show e.platform.stackTraces = l.stackTraces by rw [X.admits.platform]).trans hl
  have Y := vx_rebase X (R' := { frames := R.frames, locals := R.locals, cells := 1, slots := 6 }) (Nat.le_refl _) (Nat.le_refl _) hRcells hRslots
  obtain ⟨s', hA⟩ : ∃ z, z = (T.setVm s.vm).setFrames (.invoking m args :: below) := ⟨_, rfl⟩
  rw [← hA] at Y
  have hvm : s'.vm = s.vm := by rw [hA]; rfl
  have hhp : s'.heap = H := by rw [hA]; exact hT
  have hW0 : s.WarmedH s'.vm := by rw [hvm]; exact State.WarmedH.refl s
  have hat' : ∀ w ∈ vx_atS own ic cls names, w.before args s' = true := fun w hw => vx_ot_at hW0 hvm.symm (hgood w (List.mem_cons_of_mem _ (List.mem_cons_of_mem _ hw))) (hat w hw)
  have hk' : (Cond.classLink own ik cls).before args s' = true := vx_ot_at hW0 hvm.symm (hgood _ List.mem_cons_self) hk
  have hini' : (Cond.initialized cls).before args s' = true := vx_ot_at hW0 hvm.symm (hgood _ (List.mem_cons_of_mem _ List.mem_cons_self)) hini
  have hU' : vx_Zq Bundle.tN "UNASSIGNED_STACK" Bundle.steD A s' s'.heap := by rw [hhp]; exact vx_Zq.moved hW0.alike (hU.kept hS.2.1)
  have hN' : vx_Zq Bundle.tN "SUPPRESSED_SENTINEL" Bundle.listD A s' s'.heap := by rw [hhp]; exact vx_Zq.moved hW0.alike (hN.kept hS.2.1)
  have h : ∀ w ∈ Bundle.ownAtoms own ic cls names, w.before args s' = true := vx_own hat' (vx_isRefq hU'.1) (vx_isRefq hN'.1) hU'.2.word hN'.2.word
  have hown' : s'.vm.findClass own = some m.cls := by rw [hvm]; exact hown
  have hins : (Cond.instantiable cls 6).before args s' = true := h _ (by simp [Bundle.ownAtoms])
  obtain ⟨vm₁, cX, kX, hfX, hkX, -, -, X₁, st1⟩ := Y.newCold hexec (own := own) (C := cls) (index := ik) (n := 6) hown' hk' hins hini'
    (g := F0 m pc ls rest) rfl (by rw [hb]; exact d0) (Nat.le_refl _) (Nat.le_refl _)
  generalize hT1 : (T.setVm vm₁).pushCell { cls := cX, slots := kX.instanceTypes.map defaultValue, vm := .none } = T1 at X₁ st1
  have hcat : (Value.ref T.heap.size).category = 1 := rfl
  have hcellA : T1.heap[T.heap.size]? = some (freshCell cX kX) := by rw [← hT1]; exact State.heap_pushCell_size _ _
  have d3' : decode c.code (pc + 3) = .ok (.dup, 1) := by rw [hb]; exact d3
  have d4' : decode c.code (pc + 4) = .ok (.ldc_w is, 3) := by rw [hb]; exact d4
  have hstr' : vk_R own is text sa s' := vk_R.warm hW0 hstr
  obtain ⟨U, hsteps, hrun, hend, hW, hsame, ce, hce, hO⟩ := X₁.ctorThrowS hexec htr (own := own) (cls := cls) (names := names) (ic := ic) hown' hcls hnames h (fun x hx => nomatch hx) hfX hkX hcellA (by rw [hhp, hT]; exact Nat.le_refl _) (msg := .ref sa) rfl
    (g := { method := m, pc := pc + 7, locals := ls, stack := .ref sa :: .ref T.heap.size :: .ref T.heap.size :: rest, locked := none }) rfl hsize rfl rfl (rest := rest) rfl
    (by rw [hb]; exact d7) (by rw [hb]; exact d10) hout hRframes (by simp only [List.map_cons, List.sum_cons, hcat]; omega) hlocks
  obtain ⟨f1, f2⟩ := vx_frame hsame
  rw [hhp] at f1 f2
  have hWs : s.WarmedH U.vm := State.WarmedH.trans hW0 hW
  have hcl : s.vm.findClass cls = some ce.cls := by
    have h9 := hO.cls
    rw [hvm] at h9
    exact h9
  have hall : s.sameButNew ({ U with vm := s.vm } : State) locs mc ms := by
    subst hA
    obtain ⟨e1, e2⟩ := hsame
    rw [State.setFrames_setFrames] at e1
    have h2 : (T.setVm s.vm).sameButNew ({ U with vm := s.vm } : State) [] (0 + 1) (0 + 6) := ⟨e1, e2⟩
    have h3 := X.same.trans h2
    rw [List.append_nil] at h3
    exact h3.mono hc hs
  refine ⟨U, ?_, .threw T.heap.size, hrun, hend, Or.inr ⟨T.heap.size, rfl, cls, ce, locs, hx U hWs.alike f1 (fun q hq => f2 q hq (fun z hz => nomatch hz)), hce, hO.vm, hcl, hWs, hall, hf⟩⟩
  refine st1 _ ?_
  show Steps p.tables e below (T1.setTop { method := m, pc := pc + 3, locals := ls, stack := .ref T.heap.size :: rest, locked := none }) _
  jvm_step X₁.here [X₁.here.top, hexec, d3', Value.category]
  exact X₁.ldcStringW hexec (own := own) (text := text) (index := is) (a := sa) hown' hstr'.1 hstr'.2
    (g := { method := m, pc := pc + 4, locals := ls, stack := .ref T.heap.size :: .ref T.heap.size :: rest, locked := none }) rfl d4' _ hsteps
end Ends
section Bodies
variable {l : Launch}
theorem vx_ofW {y : MethodName} {ws ws' : List Cond} {rm : Room} {Pc : Array Value → State → Prop} {Qc : Array Value → State → Outcome → State → Prop} {XC : String → State → State → Prop} {mc ms : Nat} {free : Addr → Prop} {cc : ByteArray} {maxL : Nat} {ret : Option FieldType}
    (hy : plainName y.cls = true) (hw : ws = Cond.code y cc maxL ret :: ws')
    (body : ∀ p e s m args below meth c s₁, BodyLoose p l y (headSpec ws rm) cc maxL ret e s m args below meth c s₁ → c.maxLocals = maxL → (∀ x ∈ c.exceptionTable.toList, False) → Pc args s →
      W p l e (headSpec ws rm).room s m args below meth c s.heap [] 0 0 (vx_MQ below Qc XC args s mc ms free) (entryFrame m args maxL)) : vx_Met l y ws rm Pc Qc XC mc ms free := by
  refine MetFree.of_bodyS (code := cc) (maxLocals := maxL) (ret := ret) hy ?_ ?_
  · intro args s m h hn
    obtain ⟨meth, c, h1, h2, h3, h4, h5, h6, -, -⟩ := Cond.code_spec hn (atoms_spec (ws := ws) h _ (by rw [hw]; exact List.mem_cons_self))
    exact ⟨meth, c, h1, h2, h3, h4, h5, h6⟩
  · intro p e s m args below meth c s₁ B hml hP _
    have hh0 : s₁.heap = s.heap := by rw [B.state]; rfl
    have ht : ∀ x ∈ c.exceptionTable.toList, False := by
      obtain ⟨meth9, c9, h1, h2, -, -, -, -, h7, -⟩ := Cond.code_spec B.named (atoms_spec (ws := ws) B.pre _ (by rw [hw]; exact List.mem_cons_self))
      cases Option.some.inj (h1.symm.trans B.method)
      cases Option.some.inj (h2.symm.trans (Stand.of_body B).code)
      intro x hx
      rw [Array.isEmpty_iff.mp h7] at hx
      cases hx
    obtain ⟨t, a1, o, b1, b2, b3⟩ := body p e s m args below meth c s₁ B hml ht hP s₁ hh0 (Stand.of_body B)
    exact ⟨t, o, a1, b1, b2, b3⟩
/-- the table of a body with handlers -/
theorem vx_table {p : Program} {x y : MethodName} {S : Spec} {cc bytes : ByteArray} {maxL maxL' : Nat} {ret ret' : Option FieldType} {e : Env} {s s₁ : State} {m : MethodId} {args : Array Value} {below : List Frame} {meth : Method} {c : Code} {hh : List (Nat × Nat × Nat × Nat)}
    (B : BodyLoose p l y S cc maxL ret e s m args below meth c s₁) (h : (Cond.codeWith y bytes maxL' ret' hh).before args s = true) : c.exceptionTable.toList = tableOf hh := by
  obtain ⟨m9, meth9, c9, hn9, h1, h2, -, -, h6, -⟩ := Cond.codeWith_spec h
  cases Option.some.inj (hn9.symm.trans B.named)
  cases Option.some.inj (h1.symm.trans B.method)
  cases Option.some.inj (h2.symm.trans (Stand.of_body B).code)
  rw [← h6, table_eq]
end Bodies
end VXA
/-! ===== END ===== -/
/-! ===== BEGIN a static call of a method with an exception table ===== -/
section VXS
variable {p : Program} {l : Launch} {e : Env} {R : Room} {s : State} {m : MethodId} {args : Array Value} {below : List Frame} {meth : Method} {c : Code} {T : State} {H : Heap} {locs : List Loc} {cells slots : Nat}
abbrev vx_CSW (R : Room) (s : State) (args : Array Value) (own : String) (index : Nat) (y : MethodName) (bytes : ByteArray) (maxL : Nat) (ret : Option FieldType) (hh : List (Nat × Nat × Nat × Nat)) (ws : List Cond) (rm : Room) (mc ms n : Nat) : Prop :=
  (rm.cells = mc ∧ rm.slots = ms ∧ rm.frames + 1 ≤ R.frames ∧ 8 + (maxL + 11) + rm.locals ≤ R.locals ∧ (∀ w ∈ ws, ∀ (a' : Array Value) (U : State), s.WarmedH U.vm → w.before a' U = true) ∧ Cond.codeWith y bytes maxL ret hh ∈ ws) ∧
  (Cond.codeWith y bytes maxL ret hh).before args s = true ∧ (Cond.initialized y.cls).before args s = true ∧ (y.cls ≠ "java/lang/invoke/MethodHandle" ∧ y.cls ≠ "java/lang/invoke/VarHandle") ∧
  (∀ sig, parseMethodDescriptor y.desc = some sig → n = sig.parameters.length) ∧ (Cond.methodLink own index y).before args s = true ∧ (Cond.static y).before args s = true
theorem vx_cwSW {own : String} {index maxL mc ms : Nat} {y : MethodName} {bytes : ByteArray} {ret : Option FieldType} {hh : List (Nat × Nat × Nat × Nat)} {Ts ws ws' : List Cond} {rm : Room} (n : Nat) (ht : ∀ w ∈ Ts, w.before args s = true) (hT : GoodIn Ts (va_wsS own index y ws)) (hw : ws = Cond.codeWith y bytes maxL ret hh :: ws') (hrc : rm.cells = mc) (hrs : rm.slots = ms)
    (hd : y.cls ≠ "java/lang/invoke/MethodHandle" ∧ y.cls ≠ "java/lang/invoke/VarHandle" ∧ (parseMethodDescriptor y.desc).map (fun d => d.parameters.length) = some n) (hR : rm.frames + 1 ≤ R.frames ∧ 8 + (maxL + 11) + rm.locals ≤ R.locals) :
    vx_CSW R s args own index y bytes maxL ret hh ws rm mc ms n := by
  have ok : ∀ w ∈ va_wsS own index y ws, w.before args s = true := fun w h => ht w (hT w h).1
  have hG : GoodIn Ts ws := fun w h => hT w (by unfold va_wsS; exact List.mem_append_right _ h)
  have hc : Cond.codeWith y bytes maxL ret hh ∈ ws := by rw [hw]; exact List.mem_cons_self
  refine ⟨⟨hrc, hrs, hR.1, hR.2, pay_in ht hG, hc⟩, ht _ (hG _ hc).1, ok _ (by simp [va_wsS]), ⟨hd.1, hd.2.1⟩, fun sig h => ?_, ok _ (by simp [va_wsS]), ok _ (by simp [va_wsS])⟩
  have h2 := hd.2.2
  rw [h] at h2
  exact (Option.some.inj h2).symm
theorem vx_callSW (X : Stand p l e R s m args below meth c T locs cells slots) (hexec : p.tables.exec = Jvm.exec) {own : String} {index : Nat} {y : MethodName} {bytes : ByteArray} {maxL : Nat} {ret : Option FieldType} {hh : List (Nat × Nat × Nat × Nat)}
    (hown : s.vm.findClass own = some m.cls) (hlink : (Cond.methodLink own index y).before args s = true) (hstat : (Cond.static y).before args s = true) (hinit : (Cond.initialized y.cls).before args s = true)
    (hcode : (Cond.codeWith y bytes maxL ret hh).before args s = true) (hy : y.cls ≠ "java/lang/invoke/MethodHandle" ∧ y.cls ≠ "java/lang/invoke/VarHandle")
    {W9 : Nat} {Pre : Pt → Array Value → Prop} {Post : Pt → Array Value → Option Value → Pt → Prop} (hK : Back l R p e below s args y 3 W9 Pre Post)
    {g : JFrame} (hg : g.method = m) (hsize : g.locals.size = c.maxLocals) {argsL rest : List Value} (hlen : ∀ sig, parseMethodDescriptor y.desc = some sig → argsL.length = sig.parameters.length)
    (hstack : g.stack = argsL.reverse ++ rest) (hW : 2 * g.monitorRoom + (rest.map fun v => v.category).sum ≤ W9) (hdg : decode c.code g.pc = .ok (.invokestatic index, 3))
    (hpre : ∀ vm₁, s.WarmedH vm₁ → Pre ⟨T.setVm vm₁, locs, cells, slots⟩ argsL.toArray) :
    ∃ (v : Option Value) (vm₁ : Vm) (B : Pt), s.WarmedH vm₁ ∧ Stand p l e R s m args below meth c B.U B.locs B.cells B.slots ∧ Post ⟨T.setVm vm₁, locs, cells, slots⟩ argsL.toArray v B ∧
      ∀ target, Steps p.tables e below (B.U.setTop { g with pc := g.pc + 3, stack := v.toList ++ rest }) target → Steps p.tables e below (T.setTop g) target := by
  obtain ⟨mk, methM, cM, hnamed, hmethM, -, -, -, -, -, -, hsigM⟩ := Cond.codeWith_spec hcode
  have hstatic : methM.isStatic = true := Cond.static_spec hnamed hmethM hstat
  obtain ⟨kP, hkP, -⟩ := className_of_methodNamed hnamed
  have hinitP : kP.init = .initialized := Cond.initialized_spec (findClass_of_methodNamed hnamed) hkP hinit
  obtain ⟨vm₁, X₁, hstep₁⟩ := X.invokestatic hexec hown hlink hnamed hmethM hstatic hkP hinitP hy (g := g) hg (argsL := argsL) (rest := rest) (hlen _ hsigM) hstack hdg
  obtain ⟨v, B, X', hpost, hsteps⟩ := hK m meth c ⟨T.setVm vm₁, locs, cells, slots⟩ { g with stack := rest } (.invokestatic index) mk argsL.toArray X₁ hg hsize hdg hW (X₁.named hnamed) (hpre vm₁ X₁.warmed)
  exact ⟨v, vm₁, B, X₁.warmed, X', hpost, fun target h => hstep₁ _ fun acts => by rw [doInvoke_state]; exact hsteps.trans h⟩
theorem vx_runSW {y : MethodName} {bytes cc : ByteArray} {maxL nL mc ms n index : Nat} {ret : Option FieldType} {hh : List (Nat × Nat × Nat × Nat)} {ws : List Cond} {rm : Room} {Pc : Array Value → State → Prop} {Qc : Array Value → State → Outcome → State → Prop} {free : Addr → Prop} {Ts : List Cond} {own : String} {As rest : List Value} {g : JFrame}
    (S : CallFix p m c cc nL s args Ts own) (hM : Met l y ws rm Pc Qc mc ms free) (cw : vx_CSW R s args own index y bytes maxL ret hh ws rm mc ms n) (hp : PreS s H Pc As)
    (hg : g.method = m) (hn : As.length = n) (hsize : g.locals.size = nL) (hstack : g.stack = As.reverse ++ rest) (hW : 2 * g.monitorRoom + (rest.map fun v => v.category).sum ≤ 8) (hdg : decode cc g.pc = .ok (.invokestatic index, 3)) (hf : cells + mc ≤ R.cells ∧ slots + ms ≤ R.slots) :
    va_Run p l e R s m args below meth c H locs cells slots mc ms g rest (Qc As.toArray) (free) := by
  obtain ⟨⟨hrc, hrs, hfr, hlo, hws, hcw⟩, hcode, hini, hy, hlen, hl, hstt⟩ := cw
  have hK : Back l R p e below s args y 3 8 (PreOf R mc ms Pc) (PostOf Qc mc ms free) := va_backW (hh := hh) (bytes := bytes) (maxL := maxL) (ret := ret) hM hp.1 hrc hrs hfr hlo hws hcw (fun a' U hW => word_at hW (Or.inl (by first | rfl | simp [Cond.onTables, Cond.keeps, Cond.steady])) hini)
  obtain ⟨hx, hb, hml, ho, -⟩ := S
  intro T hT X
  obtain ⟨v, vm₁, ⟨U', l2, c2, s2⟩, hW₁, X', ⟨g', mk, t, L, e1, e2, hq, h1, hL, h2, h3⟩, st⟩ := vx_callSW X hx (hh := hh) (bytes := bytes) (maxL := maxL) (ret := ret) ho hl hstt hini hcode hy hK hg (hsize.trans hml.symm) (argsL := As) (rest := rest) (fun sig h => hn.trans (hlen sig h)) hstack hW (by rw [hb]; exact hdg)
    (fun vm₁ hW₁ => ⟨hf.1, hf.2, hp.2 (T.setVm vm₁) hT hW₁⟩)
  dsimp only [Pt.U, Pt.locs, Pt.cells, Pt.slots] at X' e1 e2 h1 h2 h3 st
  subst h1; subst h2; subst h3
  exact ⟨v, (T.setVm vm₁).calling g' mk As.toArray, t, U', L, hT, X', hL, e1, e2, hq, st⟩
/-- not caught here, past rows that name other classes: it goes on to the caller -/
theorem vx_outP {p : Program} {l : Launch} {e : Env} {R : Room} {s : State} {m : MethodId} {args : Array Value} {below : List Frame} {meth : Method} {c : Code} {H : Heap} {locs : List Loc} {cells slots : Nat} {free : Addr → Prop} {ls : Array Slot} {rest : List Value} {Qc : Array Value → State → Outcome → State → Prop} {XC : String → State → State → Prop}
    {pc : Nat} {own E : String} {ce : Cell} {q : Addr} {mc ms : Nat} (hown : s.vm.findClass own = some m.cls) (hlocks : meth.locks = false)
    (hpass : ∀ z ∈ c.exceptionTable.toList, covers z pc = false ∨ (z.catchType ≠ 0 ∧ ∃ nm : String, (Cond.classLink own z.catchType nm).before args s = true ∧ va_Nc E nm s)) (hcell : H[q]? = some ce) (hv : ce.vm = .none) (hcl : s.vm.findClass E = some ce.cls)
    (hx : ∀ t : State, t.heap = H → s.vm.Alike t.vm → XC E s t) (hf : ∀ z ∈ locs, free z.base) (hc : cells ≤ mc) (hs : slots ≤ ms) :
    vx_W p l e R s m args below meth c H locs cells slots (vx_MQ below Qc XC args s mc ms free) (F0 m pc ls rest) q := by
  intro T hT X
  have hpl : e.platform.magicAccessors = ({} : Platform).magicAccessors := by rw [X.admits.platform]
  obtain ⟨vm', hW', X', st⟩ := Jvm.Stand.outThrough X hlocks q (g := F0 m pc ls rest) rfl rfl rfl (cell := ce) (by rw [hT]; exact hcell) (by rw [hv]; rfl)
    (by obtain ⟨k9, h9, -⟩ := Vm.findClass_spec hcl; exact ⟨k9, h9⟩) (fun z hz => by
      rcases hpass z hz with h | ⟨hz0, nm, hl1, hn1⟩
      · exact Or.inl h
      · obtain ⟨c6, hc6, hcl6⟩ := Cond.classLink_spec hown hl1 e.platform hpl
        obtain ⟨a8, b8, h1, h2, h3⟩ := hn1
        cases Option.some.inj (h1.symm.trans hcl)
        cases Option.some.inj (h2.symm.trans hc6)
        exact Or.inr ⟨hz0, _, hcl6, h3⟩)
  obtain ⟨g₀, hfr⟩ := X'.frames_eq
  have hcell9 : ((T.setVm vm').setFrames (.throwing q :: below)).heap[q]? = some ce := by
    show T.heap[q]? = some ce
    rw [hT]; exact hcell
  have hend : Ended ((T.setVm vm').setFrames (.throwing q :: below)) below (.threw q) := State.frames_setFrames _ (State.cur_lt_of_frames hfr)
  refine ⟨(T.setVm vm').setFrames (.throwing q :: below), ?_, .threw q, X'.here.running, hend, Or.inr ⟨q, rfl, E, ce, locs, hx _ hT (X'.ends _).1.alike, hcell9, hv, hcl, (X'.ends _).1, (X'.ends _).2.mono hc hs, hf⟩⟩
  rw [X.pushThrowing_eq]
  exact st
/-- a thing of a world lies in the heap -/
theorem vx_lt {D : va_G} {cl : List vw_C} {ws : va_W} {H1 : Heap} (h : va_P D cl ws H1) {k : Nat} {q : Nat × va_E} (hk : ws[k]? = some q) : q.1 < H1.size := (h k q hk).lt
end VXS
/-! ===== END ===== -/
/-! ===== BEGIN methods with a table of their own: called by a name, returning or throwing ===== -/
section VXH
/-! vx_backW, vx_callVX, vx_callSX, vx_callVW, vx_runVW, vx_runVX, vx_runSX, vx_ofWH follow the same proofs as their sisters above (Free/Laws.lean, Shelf42/LK1.lean); vx_outP calls Shelf42/NT130.lean (outThrough). -/
section
variable {l : Launch} {R : Room} {p : Program} {e : Env} {below : List Frame} {s : State} {sargs : Array Value} {y : MethodName} {len W9 : Nat}
theorem vx_backW {ws : List Cond} {rm : Room} {Pc : Array Value → State → Prop} {Qc : Array Value → State → Outcome → State → Prop} {XC : String → State → State → Prop} {mc ms : Nat} {free : Addr → Prop} {bytes : ByteArray} {maxL : Nat} {ret : Option FieldType} {hh : List (Nat × Nat × Nat × Nat)}
    (hM : vx_Met l y ws rm Pc Qc XC mc ms free) (hblind : FrameBlind Pc) (hrc : rm.cells = mc) (hrs : rm.slots = ms)
    (hframes : rm.frames + 1 ≤ R.frames) (hlocals : W9 + (maxL + 11) + rm.locals ≤ R.locals)
    (hws : ∀ w ∈ ws, ∀ a' U, s.WarmedH U.vm → w.before a' U = true) (hcode : Cond.codeWith y bytes maxL ret hh ∈ ws) (hinit : ∀ a' U, s.WarmedH U.vm → (Cond.initialized y.cls).before a' U = true) :
    vx_Back l R p e below s sargs y len W9 (PreOf R mc ms Pc) (PostOf Qc mc ms free) (vx_Post XC mc ms free) := by
  intro m meth c A g ig mk a X hg hsize hdg hW hn hp
  have h1 : (headSpec ws rm).pre.before a A.U = true := atoms_intro fun w hw => hws w hw _ _ X.warmed
  have h2 : (Cond.codeWith y bytes maxL ret hh).before a A.U = true := hws _ hcode _ _ X.warmed
  have h3 : (Cond.initialized y.cls).before a A.U = true := hinit _ _ X.warmed
  have h4 : A.cells + (headSpec ws rm).room.cells ≤ R.cells := by rw [show (headSpec ws rm).room.cells = mc from hrc]; exact hp.1
  have h5 : A.slots + (headSpec ws rm).room.slots ≤ R.slots := by rw [show (headSpec ws rm).room.slots = ms from hrs]; exact hp.2.1
  have hPc : Pc a (A.U.calling g mk a) := hblind _ _ _ _ hp.2.2
  obtain ⟨U, Ls, c0, s0⟩ := A
  dsimp only [Pt.U, Pt.locs, Pt.cells, Pt.slots] at h1 h2 h3 h4 h5 X hn hPc ⊢
  obtain ⟨m9, methY, cY, hn9, hmY, hcY, -, hlY, -⟩ := Cond.codeWith_spec h2
  cases Option.some.inj (hn9.symm.trans hn)
  obtain ⟨kY, hkY, -⟩ := className_of_methodNamed hn
  have hinitY : kY.init = .initialized := Cond.initialized_spec (findClass_of_methodNamed hn) hkY h3
  have h : At U g.method c below := by rw [hg]; exact X.here
  have hlocals9 : W9 + (maxL + 11) + (headSpec ws rm).room.locals ≤ R.locals := hlocals
  have happ : (headSpec ws rm).appliesLoose y e.platform (U.calling g mk a) = true :=
    Spec.appliesLoose_calling (g := g) h hdg hn hkY hinitY
      (X.room_calling (g := g) (R' := (headSpec ws rm).room) hsize hmY hcY hframes (by rw [hlY]; omega) h4 h5) h1
  obtain ⟨mid, hmid⟩ := h.above
  have hfr : (U.setTop g).frames = (.java g :: mid) ++ below := by rw [State.frames_setTop' g h.top, hmid]; rfl
  obtain ⟨o, s₂, hsteps, -, hend, hq⟩ := Steps.callFree hM p X.admits X.cas X.clock (acts := []) hfr happ hPc trivial
  have hq' : vx_Q Qc XC mc ms free a (U.calling g mk a) o s₂ := hq
  rw [State.frames_setTop' g h.top] at hend
  obtain ⟨g₀, hg0⟩ := Option.isSome_iff_exists.mp h.top
  obtain ⟨r, hr⟩ := State.topJava?_eq_some.mp hg0
  have hr' : (({ U with heap := s₂.heap, slotsUsed := s₂.slotsUsed } : State).setVm s₂.vm).frames = .java g₀ :: r := hr
  rcases hq' with ⟨hqc, L, hfe, hL⟩ | ⟨q, rfl, E, ce, L, hx, hce, hcv, hcl, hW₂, hsm, hL⟩
  · obtain ⟨⟨v, rfl⟩, hW₂, e2, q2, q3, q4, q5, q6⟩ := id hfe
    have e3 : s₂ = ({ (U.calling g mk a).setFrames s₂.frames with heap := s₂.heap, slotsUsed := s₂.slotsUsed } : State).setVm s₂.vm := by
      have : s₂ = ({ s₂ with vm := (U.calling g mk a).vm } : State).setVm s₂.vm := rfl
      rw [e2] at this
      exact this
    obtain ⟨c₂, i₂, len₂, hc₂, hd₂, hf₂⟩ := hend
    have hW' : U.WarmedH s₂.vm := hW₂
    have hcc : c₂ = c := by
      have h1 : s₂.code? g.method = U.code? g.method := by
        rw [State.code?_eq, State.code?_eq, hW'.alike.method?]
      exact Option.some.inj (hc₂.symm.trans (h1.trans h.code))
    subst hcc
    have hlen : len₂ = len := by rw [hdg] at hd₂; cases hd₂; rfl
    subst hlen
    have hs₂ : s₂ = (({ U with heap := s₂.heap, slotsUsed := s₂.slotsUsed } : State).setVm s₂.vm).setTop { g with pc := g.pc + len₂, stack := v.toList ++ g.stack } := by
      refine e3.trans ?_
      rw [hf₂, State.calling_eq h.top, State.setFrames_setFrames, State.setTop_of_frames _ hr', hr]
      rfl
    have hsame : U.sameButNew ({ U with heap := s₂.heap, slotsUsed := s₂.slotsUsed } : State) L mc ms := by
      refine ⟨?_, q2, q3, q4, q5, q6⟩
      obtain ⟨t, ht, -⟩ := State.frames_cons hr
      show ({ U with heap := s₂.heap, slotsUsed := s₂.slotsUsed } : State) = { U.setFrames U.frames with heap := s₂.heap, slotsUsed := s₂.slotsUsed }
      rw [State.setFrames_self ht]
    subst hg
    refine Or.inl ⟨v, ⟨(({ U with heap := s₂.heap, slotsUsed := s₂.slotsUsed } : State).setVm s₂.vm), Ls ++ L, c0 + mc, s0 + ms⟩,
      ⟨X.admits, X.cas, X.clock, X.frames, X.room, X.hears, X.method, X.code, (X.here.setHeapUsed s₂.heap s₂.slotsUsed).setVm hW'.alike, X.tail, State.WarmedH.trans X.warmed hW', X.limits, X.bytes, X.same.trans (hsame.setVm s.vm)⟩,
      ⟨g, mk, s₂, L, rfl, rfl, hqc, rfl, hL, rfl, rfl⟩, ?_⟩
    show Steps p.tables e below _ ((({ U with heap := s₂.heap, slotsUsed := s₂.slotsUsed } : State).setVm s₂.vm).setTop { g with pc := g.pc + len₂, stack := v.toList ++ g.stack })
    rw [← hs₂]
    exact hsteps
  · obtain ⟨e2, q2, q3, q4, q5, q6⟩ := id hsm
    have e3 : s₂ = ({ (U.calling g mk a).setFrames s₂.frames with heap := s₂.heap, slotsUsed := s₂.slotsUsed } : State).setVm s₂.vm := by
      have : s₂ = ({ s₂ with vm := (U.calling g mk a).vm } : State).setVm s₂.vm := rfl
      rw [e2] at this
      exact this
    have hf₂ : s₂.frames = .throwing q :: .java g :: U.frames.tail := hend
    have hW' : U.WarmedH s₂.vm := hW₂
    have hs₂ : s₂ = ((({ U with heap := s₂.heap, slotsUsed := s₂.slotsUsed } : State).setVm s₂.vm).setTop g).pushFrame (.throwing q) := by
      refine e3.trans ?_
      rw [hf₂, State.calling_eq h.top, State.setFrames_setFrames, State.pushFrame, State.frames_setTop _ hr', State.setTop_of_frames _ hr', State.setFrames_setFrames, hr]
      rfl
    have hsame : U.sameButNew ({ U with heap := s₂.heap, slotsUsed := s₂.slotsUsed } : State) L mc ms := by
      refine ⟨?_, q2, q3, q4, q5, q6⟩
      obtain ⟨t, ht, -⟩ := State.frames_cons hr
      show ({ U with heap := s₂.heap, slotsUsed := s₂.slotsUsed } : State) = { U.setFrames U.frames with heap := s₂.heap, slotsUsed := s₂.slotsUsed }
      rw [State.setFrames_self ht]
    subst hg
    refine Or.inr ⟨q, ⟨(({ U with heap := s₂.heap, slotsUsed := s₂.slotsUsed } : State).setVm s₂.vm), Ls ++ L, c0 + mc, s0 + ms⟩,
      ⟨X.admits, X.cas, X.clock, X.frames, X.room, X.hears, X.method, X.code, (X.here.setHeapUsed s₂.heap s₂.slotsUsed).setVm hW'.alike, X.tail, State.WarmedH.trans X.warmed hW', X.limits, X.bytes, X.same.trans (hsame.setVm s.vm)⟩,
      ⟨g, mk, s₂, L, E, ce, rfl, rfl, hx, hce, hcv, hcl, rfl, hL, rfl, rfl⟩, ?_⟩
    show Steps p.tables e below _ (((({ U with heap := s₂.heap, slotsUsed := s₂.slotsUsed } : State).setVm s₂.vm).setTop g).pushFrame (.throwing q))
    rw [← hs₂]
    exact hsteps
end
variable {p : Program} {l : Launch} {e : Env} {R : Room} {s : State} {m : MethodId} {args : Array Value} {below : List Frame} {meth : Method} {c : Code} {T : State} {H : Heap} {locs : List Loc} {cells slots : Nat}
theorem vx_callVX (X : Stand p l e R s m args below meth c T locs cells slots) (hexec : p.tables.exec = Jvm.exec) {own C : String} {index : Nat} {y : MethodName} {bytes : ByteArray} {maxL : Nat} {ret : Option FieldType} {hh : List (Nat × Nat × Nat × Nat)}
    (hown : s.vm.findClass own = some m.cls) (hlink : (Cond.methodLink own index y).before args s = true) (hinst : (Cond.instanceMethod y).before args s = true) (hsel : (Cond.selects C y y).before args s = true)
    (hcode : (Cond.codeWith y bytes maxL ret hh).before args s = true) (hy : y.cls ≠ "java/lang/invoke/MethodHandle" ∧ y.cls ≠ "java/lang/invoke/VarHandle")
    {W9 : Nat} {Pre : Pt → Array Value → Prop} {Post : Pt → Array Value → Option Value → Pt → Prop} {PostX : Pt → Array Value → Addr → Pt → Prop} (hK : vx_Back l R p e below s args y 3 W9 Pre Post PostX)
    {b : Addr} {cellB : Cell} (hcell : T.heap[b]? = some cellB) (hobj : cellB.vm.isStatics = false) (hcls : s.vm.findClass C = some cellB.cls)
    {g : JFrame} (hg : g.method = m) (hsize : g.locals.size = c.maxLocals) {argsL rest : List Value} (hlen : ∀ sig, parseMethodDescriptor y.desc = some sig → argsL.length = sig.parameters.length)
    (hstack : g.stack = argsL.reverse ++ .ref b :: rest) (hW : 2 * g.monitorRoom + (rest.map fun v => v.category).sum ≤ W9) (hdg : decode c.code g.pc = .ok (.invokevirtual index, 3))
    (hpre : ∀ vm₁, s.WarmedH vm₁ → Pre ⟨T.setVm vm₁, locs, cells, slots⟩ (Value.ref b :: argsL).toArray) :
    (∃ (v : Option Value) (vm₁ : Vm) (B : Pt), s.WarmedH vm₁ ∧ Stand p l e R s m args below meth c B.U B.locs B.cells B.slots ∧ Post ⟨T.setVm vm₁, locs, cells, slots⟩ (Value.ref b :: argsL).toArray v B ∧
      ∀ target, Steps p.tables e below (B.U.setTop { g with pc := g.pc + 3, stack := v.toList ++ rest }) target → Steps p.tables e below (T.setTop g) target) ∨
    (∃ (q : Addr) (vm₁ : Vm) (B : Pt), s.WarmedH vm₁ ∧ Stand p l e R s m args below meth c B.U B.locs B.cells B.slots ∧ PostX ⟨T.setVm vm₁, locs, cells, slots⟩ (Value.ref b :: argsL).toArray q B ∧
      Steps p.tables e below (T.setTop g) ((B.U.setTop { g with stack := rest }).pushFrame (.throwing q))) := by
  obtain ⟨mk, methM, hnamed, hmethM, hstM, habM⟩ := Cond.instanceMethod_spec hinst
  obtain ⟨m8, methM', cM, hn8, hmethM', -, -, -, -, -, -, hsigM⟩ := Cond.codeWith_spec hcode
  cases Option.some.inj (hn8.symm.trans hnamed)
  cases hmethM.symm.trans hmethM'
  obtain ⟨c2, r2, m2, q1, q2, q3, q4, kP, hkP, hkPi⟩ := Cond.selects_spec hsel
  cases hcls.symm.trans q1
  cases (State.methodFound?_of_named hnamed hy).symm.trans q2
  cases hnamed.symm.trans q3
  have hselP : selectMethod e.platform s.vm cellB.cls mk = .method mk := by rw [Launch.admits_selectMethod X.admits]; exact q4
  obtain ⟨vm₁, X₁, hstep₁⟩ := X.invokevirtual hexec hown hlink hnamed hmethM hstM hkP hkPi hy (a := b) (cell := cellB) hcell
    (fun z h => by rw [h] at hobj; cases hobj) hselP hmethM habM hkP hkPi (g := g) hg (argsL := argsL) (rest := rest) (hlen _ hsigM) hstack hdg
  rcases hK m meth c ⟨T.setVm vm₁, locs, cells, slots⟩ { g with stack := rest } (.invokevirtual index) mk (Value.ref b :: argsL).toArray X₁ hg hsize hdg hW (X₁.named hnamed) (hpre vm₁ X₁.warmed) with ⟨v, B, X', hpost, hsteps⟩ | ⟨q, B, X', hpost, hsteps⟩
  · exact Or.inl ⟨v, vm₁, B, X₁.warmed, X', hpost, fun target h => hstep₁ _ fun acts => by rw [doInvoke_state]; exact hsteps.trans h⟩
  · exact Or.inr ⟨q, vm₁, B, X₁.warmed, X', hpost, hstep₁ _ fun acts => by rw [doInvoke_state]; exact hsteps⟩
theorem vx_callSX (X : Stand p l e R s m args below meth c T locs cells slots) (hexec : p.tables.exec = Jvm.exec) {own : String} {index : Nat} {y : MethodName} {bytes : ByteArray} {maxL : Nat} {ret : Option FieldType} {hh : List (Nat × Nat × Nat × Nat)}
    (hown : s.vm.findClass own = some m.cls) (hlink : (Cond.methodLink own index y).before args s = true) (hstat : (Cond.static y).before args s = true) (hinit : (Cond.initialized y.cls).before args s = true)
    (hcode : (Cond.codeWith y bytes maxL ret hh).before args s = true) (hy : y.cls ≠ "java/lang/invoke/MethodHandle" ∧ y.cls ≠ "java/lang/invoke/VarHandle")
    {W9 : Nat} {Pre : Pt → Array Value → Prop} {Post : Pt → Array Value → Option Value → Pt → Prop} {PostX : Pt → Array Value → Addr → Pt → Prop} (hK : vx_Back l R p e below s args y 3 W9 Pre Post PostX)
    {g : JFrame} (hg : g.method = m) (hsize : g.locals.size = c.maxLocals) {argsL rest : List Value} (hlen : ∀ sig, parseMethodDescriptor y.desc = some sig → argsL.length = sig.parameters.length)
    (hstack : g.stack = argsL.reverse ++ rest) (hW : 2 * g.monitorRoom + (rest.map fun v => v.category).sum ≤ W9) (hdg : decode c.code g.pc = .ok (.invokestatic index, 3))
    (hpre : ∀ vm₁, s.WarmedH vm₁ → Pre ⟨T.setVm vm₁, locs, cells, slots⟩ argsL.toArray) :
    (∃ (v : Option Value) (vm₁ : Vm) (B : Pt), s.WarmedH vm₁ ∧ Stand p l e R s m args below meth c B.U B.locs B.cells B.slots ∧ Post ⟨T.setVm vm₁, locs, cells, slots⟩ argsL.toArray v B ∧
      ∀ target, Steps p.tables e below (B.U.setTop { g with pc := g.pc + 3, stack := v.toList ++ rest }) target → Steps p.tables e below (T.setTop g) target) ∨
    (∃ (q : Addr) (vm₁ : Vm) (B : Pt), s.WarmedH vm₁ ∧ Stand p l e R s m args below meth c B.U B.locs B.cells B.slots ∧ PostX ⟨T.setVm vm₁, locs, cells, slots⟩ argsL.toArray q B ∧
      Steps p.tables e below (T.setTop g) ((B.U.setTop { g with stack := rest }).pushFrame (.throwing q))) := by
  obtain ⟨mk, methM, cM, hnamed, hmethM, -, -, -, -, -, -, hsigM⟩ := Cond.codeWith_spec hcode
  have hstatic : methM.isStatic = true := Cond.static_spec hnamed hmethM hstat
  obtain ⟨kP, hkP, -⟩ := className_of_methodNamed hnamed
  have hinitP : kP.init = .initialized := Cond.initialized_spec (findClass_of_methodNamed hnamed) hkP hinit
  obtain ⟨vm₁, X₁, hstep₁⟩ := X.invokestatic hexec hown hlink hnamed hmethM hstatic hkP hinitP hy (g := g) hg (argsL := argsL) (rest := rest) (hlen _ hsigM) hstack hdg
  rcases hK m meth c ⟨T.setVm vm₁, locs, cells, slots⟩ { g with stack := rest } (.invokestatic index) mk argsL.toArray X₁ hg hsize hdg hW (X₁.named hnamed) (hpre vm₁ X₁.warmed) with ⟨v, B, X', hpost, hsteps⟩ | ⟨q, B, X', hpost, hsteps⟩
  · exact Or.inl ⟨v, vm₁, B, X₁.warmed, X', hpost, fun target h => hstep₁ _ fun acts => by rw [doInvoke_state]; exact hsteps.trans h⟩
  · exact Or.inr ⟨q, vm₁, B, X₁.warmed, X', hpost, hstep₁ _ fun acts => by rw [doInvoke_state]; exact hsteps⟩
theorem vx_callVW (X : Stand p l e R s m args below meth c T locs cells slots) (hexec : p.tables.exec = Jvm.exec) {own C : String} {index : Nat} {y : MethodName} {bytes : ByteArray} {maxL : Nat} {ret : Option FieldType} {hh : List (Nat × Nat × Nat × Nat)}
    (hown : s.vm.findClass own = some m.cls) (hlink : (Cond.methodLink own index y).before args s = true) (hinst : (Cond.instanceMethod y).before args s = true) (hsel : (Cond.selects C y y).before args s = true)
    (hcode : (Cond.codeWith y bytes maxL ret hh).before args s = true) (hy : y.cls ≠ "java/lang/invoke/MethodHandle" ∧ y.cls ≠ "java/lang/invoke/VarHandle")
    {W9 : Nat} {Pre : Pt → Array Value → Prop} {Post : Pt → Array Value → Option Value → Pt → Prop} (hK : Back l R p e below s args y 3 W9 Pre Post)
    {b : Addr} {cellB : Cell} (hcell : T.heap[b]? = some cellB) (hobj : cellB.vm.isStatics = false) (hcls : s.vm.findClass C = some cellB.cls)
    {g : JFrame} (hg : g.method = m) (hsize : g.locals.size = c.maxLocals) {argsL rest : List Value} (hlen : ∀ sig, parseMethodDescriptor y.desc = some sig → argsL.length = sig.parameters.length)
    (hstack : g.stack = argsL.reverse ++ .ref b :: rest) (hW : 2 * g.monitorRoom + (rest.map fun v => v.category).sum ≤ W9) (hdg : decode c.code g.pc = .ok (.invokevirtual index, 3))
    (hpre : ∀ vm₁, s.WarmedH vm₁ → Pre ⟨T.setVm vm₁, locs, cells, slots⟩ (Value.ref b :: argsL).toArray) :
    ∃ (v : Option Value) (vm₁ : Vm) (B : Pt), s.WarmedH vm₁ ∧ Stand p l e R s m args below meth c B.U B.locs B.cells B.slots ∧ Post ⟨T.setVm vm₁, locs, cells, slots⟩ (Value.ref b :: argsL).toArray v B ∧
      ∀ target, Steps p.tables e below (B.U.setTop { g with pc := g.pc + 3, stack := v.toList ++ rest }) target → Steps p.tables e below (T.setTop g) target := by
  obtain ⟨mk, methM, hnamed, hmethM, hstM, habM⟩ := Cond.instanceMethod_spec hinst
  obtain ⟨m8, methM', cM, hn8, hmethM', -, -, -, -, -, -, hsigM⟩ := Cond.codeWith_spec hcode
  cases Option.some.inj (hn8.symm.trans hnamed)
  cases hmethM.symm.trans hmethM'
  obtain ⟨c2, r2, m2, q1, q2, q3, q4, kP, hkP, hkPi⟩ := Cond.selects_spec hsel
  cases hcls.symm.trans q1
  cases (State.methodFound?_of_named hnamed hy).symm.trans q2
  cases hnamed.symm.trans q3
  have hselP : selectMethod e.platform s.vm cellB.cls mk = .method mk := by rw [Launch.admits_selectMethod X.admits]; exact q4
  obtain ⟨vm₁, X₁, hstep₁⟩ := X.invokevirtual hexec hown hlink hnamed hmethM hstM hkP hkPi hy (a := b) (cell := cellB) hcell
    (fun z h => by rw [h] at hobj; cases hobj) hselP hmethM habM hkP hkPi (g := g) hg (argsL := argsL) (rest := rest) (hlen _ hsigM) hstack hdg
  obtain ⟨v, B, X', hpost, hsteps⟩ := hK m meth c ⟨T.setVm vm₁, locs, cells, slots⟩ { g with stack := rest } (.invokevirtual index) mk (Value.ref b :: argsL).toArray X₁ hg hsize hdg hW (X₁.named hnamed) (hpre vm₁ X₁.warmed)
  exact ⟨v, vm₁, B, X₁.warmed, X', hpost, fun target h => hstep₁ _ fun acts => by rw [doInvoke_state]; exact hsteps.trans h⟩
abbrev vx_CVW (R : Room) (s : State) (args : Array Value) (own C : String) (index : Nat) (y : MethodName) (bytes : ByteArray) (maxL : Nat) (ret : Option FieldType) (hh : List (Nat × Nat × Nat × Nat)) (ws : List Cond) (rm : Room) (mc ms n : Nat) : Prop :=
  (rm.cells = mc ∧ rm.slots = ms ∧ rm.frames + 1 ≤ R.frames ∧ 8 + (maxL + 11) + rm.locals ≤ R.locals ∧ (∀ w ∈ ws, ∀ (a' : Array Value) (U : State), s.WarmedH U.vm → w.before a' U = true) ∧ Cond.codeWith y bytes maxL ret hh ∈ ws) ∧
  (Cond.codeWith y bytes maxL ret hh).before args s = true ∧ (Cond.initialized y.cls).before args s = true ∧ (y.cls ≠ "java/lang/invoke/MethodHandle" ∧ y.cls ≠ "java/lang/invoke/VarHandle") ∧
  (∀ sig, parseMethodDescriptor y.desc = some sig → n = sig.parameters.length) ∧ (Cond.methodLink own index y).before args s = true ∧ (Cond.instanceMethod y).before args s = true ∧ (Cond.selects C y y).before args s = true
theorem vx_cwVW {own C : String} {index maxL mc ms : Nat} {y : MethodName} {bytes : ByteArray} {ret : Option FieldType} {hh : List (Nat × Nat × Nat × Nat)} {Ts ws ws' : List Cond} {rm : Room} (n : Nat) (ht : ∀ w ∈ Ts, w.before args s = true) (hT : GoodIn Ts (wsV own index C y ws)) (hw : ws = Cond.codeWith y bytes maxL ret hh :: ws') (hrc : rm.cells = mc) (hrs : rm.slots = ms)
    (hd : y.cls = C ∧ y.cls ≠ "java/lang/invoke/MethodHandle" ∧ y.cls ≠ "java/lang/invoke/VarHandle" ∧ (parseMethodDescriptor y.desc).map (fun d => d.parameters.length) = some n) (hR : rm.frames + 1 ≤ R.frames ∧ 8 + (maxL + 11) + rm.locals ≤ R.locals) :
    vx_CVW R s args own C index y bytes maxL ret hh ws rm mc ms n := by
  obtain ⟨hC, hd⟩ := hd
  subst hC
  have ok : ∀ w ∈ wsV own index y.cls y ws, w.before args s = true := fun w h => ht w (hT w h).1
  have hG : GoodIn Ts ws := fun w h => hT w (by unfold wsV; exact List.mem_append_right _ h)
  have hc : Cond.codeWith y bytes maxL ret hh ∈ ws := by rw [hw]; exact List.mem_cons_self
  refine ⟨⟨hrc, hrs, hR.1, hR.2, pay_in ht hG, hc⟩, ht _ (hG _ hc).1, ok _ (by simp [wsV]), ⟨hd.1, hd.2.1⟩, fun sig h => ?_, ok _ (by simp [wsV]), ok _ (by simp [wsV]), ok _ (by simp [wsV])⟩
  have h2 := hd.2.2
  rw [h] at h2
  exact (Option.some.inj h2).symm
theorem vx_runVW {y : MethodName} {bytes cc : ByteArray} {maxL nL mc ms n index : Nat} {ret : Option FieldType} {hh : List (Nat × Nat × Nat × Nat)} {ws : List Cond} {rm : Room} {Pc : Array Value → State → Prop} {Qc : Array Value → State → Outcome → State → Prop} {free : Addr → Prop} {Ts : List Cond} {own C : String} {b : Addr} {As rest : List Value} {g : JFrame}
    (S : CallFix p m c cc nL s args Ts own) (hM : Met l y ws rm Pc Qc mc ms free) (cw : vx_CVW R s args own C index y bytes maxL ret hh ws rm mc ms n) (hp : PreV s H C b Pc As)
    (hg : g.method = m) (hn : As.length = n) (hsize : g.locals.size = nL) (hstack : g.stack = As.reverse ++ .ref b :: rest) (hW : 2 * g.monitorRoom + (rest.map fun v => v.category).sum ≤ 8) (hdg : decode cc g.pc = .ok (.invokevirtual index, 3)) (hf : cells + mc ≤ R.cells ∧ slots + ms ≤ R.slots) :
    va_Run p l e R s m args below meth c H locs cells slots mc ms g rest (Qc (Value.ref b :: As).toArray) free := by
  obtain ⟨⟨hrc, hrs, hfr, hlo, hws, hcw⟩, hcode, hini, hy, hlen, hl, hin, hse⟩ := cw
  have hK : Back l R p e below s args y 3 8 (PreOf R mc ms Pc) (PostOf Qc mc ms free) := va_backW (hh := hh) (bytes := bytes) (maxL := maxL) (ret := ret) hM hp.1 hrc hrs hfr hlo hws hcw (fun a' U hW => word_at hW (Or.inl (by first | rfl | simp [Cond.onTables, Cond.keeps, Cond.steady])) hini)
  obtain ⟨hx, hb, hml, ho, -⟩ := S
  obtain ⟨-, ⟨cellB, hcB, hoB, hclB⟩, hPc⟩ := hp
  intro T hT X
  obtain ⟨v, vm₁, ⟨U', l2, c2, s2⟩, hW₁, X', ⟨g', mk, t, L, e1, e2, hq, h1, hL, h2, h3⟩, st⟩ := vx_callVW X hx (C := C) (hh := hh) (bytes := bytes) (maxL := maxL) (ret := ret) ho hl hin hse hcode hy hK (by rw [hT]; exact hcB) hoB hclB hg (hsize.trans hml.symm) (argsL := As) (rest := rest) (fun sig h => hn.trans (hlen sig h)) hstack hW (by rw [hb]; exact hdg)
    (fun vm₁ hW₁ => ⟨hf.1, hf.2, hPc (T.setVm vm₁) hT hW₁⟩)
  dsimp only [Pt.U, Pt.locs, Pt.cells, Pt.slots] at X' e1 e2 h1 h2 h3 st
  subst h1; subst h2; subst h3
  exact ⟨v, (T.setVm vm₁).calling g' mk (Value.ref b :: As).toArray, t, U', L, hT, X', hL, e1, e2, hq, st⟩
section
variable {y : MethodName} {bytes cc : ByteArray} {maxL nL mc ms n index : Nat} {ret : Option FieldType} {ws : List Cond} {rm : Room} {Pc : Array Value → State → Prop} {Qc : Array Value → State → Outcome → State → Prop} {XC : String → State → State → Prop} {free : Addr → Prop} {Ts : List Cond} {own C : String} {b : Addr} {As rest : List Value} {g : JFrame}
theorem vx_runVX {hh : List (Nat × Nat × Nat × Nat)} (S : CallFix p m c cc nL s args Ts own) (hM : vx_Met l y ws rm Pc Qc XC mc ms free) (cw : vx_CVW R s args own C index y bytes maxL ret hh ws rm mc ms n) (hp : PreV s H C b Pc As)
    (hg : g.method = m) (hn : As.length = n) (hsize : g.locals.size = nL) (hstack : g.stack = As.reverse ++ .ref b :: rest) (hW : 2 * g.monitorRoom + (rest.map fun v => v.category).sum ≤ 8) (hdg : decode cc g.pc = .ok (.invokevirtual index, 3)) (hf : cells + mc ≤ R.cells ∧ slots + ms ≤ R.slots) :
    vx_Run p l e R s m args below meth c H locs cells slots mc ms g rest (Qc (Value.ref b :: As).toArray) XC free := by
  obtain ⟨⟨hrc, hrs, hfr, hlo, hws, hcw⟩, hcode, hini, hy, hlen, hl, hin, hse⟩ := cw
  have hK : vx_Back l R p e below s args y 3 8 (PreOf R mc ms Pc) (PostOf Qc mc ms free) (vx_Post XC mc ms free) := vx_backW (hh := hh) (bytes := bytes) (maxL := maxL) (ret := ret) hM hp.1 hrc hrs hfr hlo hws hcw (fun a' U hW => word_at hW (Or.inl (by first | rfl | simp [Cond.onTables, Cond.keeps, Cond.steady])) hini)
  obtain ⟨hx, hb, hml, ho, -⟩ := S
  obtain ⟨-, ⟨cellB, hcB, hoB, hclB⟩, hPc⟩ := hp
  intro T hT X
  rcases vx_callVX X hx (C := C) (hh := hh) (bytes := bytes) (maxL := maxL) (ret := ret) ho hl hin hse hcode hy hK (by rw [hT]; exact hcB) hoB hclB hg (hsize.trans hml.symm) (argsL := As) (rest := rest) (fun sig h => hn.trans (hlen sig h)) hstack hW (by rw [hb]; exact hdg)
    (fun vm₁ hW₁ => ⟨hf.1, hf.2, hPc (T.setVm vm₁) hT hW₁⟩) with ⟨v, vm₁, ⟨U', l2, c2, s2⟩, hW₁, X', ⟨g', mk, t, L, e1, e2, hq, h1, hL, h2, h3⟩, st⟩ | ⟨q, vm₁, ⟨U', l2, c2, s2⟩, hW₁, X', ⟨g', mk, t, L, E, ce, e1, e2, hq, hce, hcv, hcl, h1, hL, h2, h3⟩, st⟩
  · dsimp only [Pt.U, Pt.locs, Pt.cells, Pt.slots] at X' e1 e2 h1 h2 h3 st
    subst h1; subst h2; subst h3
    exact Or.inl ⟨v, (T.setVm vm₁).calling g' mk (Value.ref b :: As).toArray, t, U', L, hT, X', hL, e1, e2, hq, st⟩
  · dsimp only [Pt.U, Pt.locs, Pt.cells, Pt.slots] at X' e1 e2 h1 h2 h3 st hcl
    subst h1; subst h2; subst h3
    exact Or.inr ⟨q, (T.setVm vm₁).calling g' mk (Value.ref b :: As).toArray, t, U', L, E, ce, hT, X', hL, e1, e2, hq, hce, hcv, vx_cls hW₁ hcl, st⟩
theorem vx_runSX {hh : List (Nat × Nat × Nat × Nat)} (S : CallFix p m c cc nL s args Ts own) (hM : vx_Met l y ws rm Pc Qc XC mc ms free) (cw : vx_CSW R s args own index y bytes maxL ret hh ws rm mc ms n) (hp : PreS s H Pc As)
    (hg : g.method = m) (hn : As.length = n) (hsize : g.locals.size = nL) (hstack : g.stack = As.reverse ++ rest) (hW : 2 * g.monitorRoom + (rest.map fun v => v.category).sum ≤ 8) (hdg : decode cc g.pc = .ok (.invokestatic index, 3)) (hf : cells + mc ≤ R.cells ∧ slots + ms ≤ R.slots) :
    vx_Run p l e R s m args below meth c H locs cells slots mc ms g rest (Qc As.toArray) XC free := by
  obtain ⟨⟨hrc, hrs, hfr, hlo, hws, hcw⟩, hcode, hini, hy, hlen, hl, hstt⟩ := cw
  have hK : vx_Back l R p e below s args y 3 8 (PreOf R mc ms Pc) (PostOf Qc mc ms free) (vx_Post XC mc ms free) := vx_backW (hh := hh) (bytes := bytes) (maxL := maxL) (ret := ret) hM hp.1 hrc hrs hfr hlo hws hcw (fun a' U hW => word_at hW (Or.inl (by first | rfl | simp [Cond.onTables, Cond.keeps, Cond.steady])) hini)
  obtain ⟨hx, hb, hml, ho, -⟩ := S
  intro T hT X
  rcases vx_callSX X hx (hh := hh) (bytes := bytes) (maxL := maxL) (ret := ret) ho hl hstt hini hcode hy hK hg (hsize.trans hml.symm) (argsL := As) (rest := rest) (fun sig h => hn.trans (hlen sig h)) hstack hW (by rw [hb]; exact hdg)
    (fun vm₁ hW₁ => ⟨hf.1, hf.2, hp.2 (T.setVm vm₁) hT hW₁⟩) with ⟨v, vm₁, ⟨U', l2, c2, s2⟩, hW₁, X', ⟨g', mk, t, L, e1, e2, hq, h1, hL, h2, h3⟩, st⟩ | ⟨q, vm₁, ⟨U', l2, c2, s2⟩, hW₁, X', ⟨g', mk, t, L, E, ce, e1, e2, hq, hce, hcv, hcl, h1, hL, h2, h3⟩, st⟩
  · dsimp only [Pt.U, Pt.locs, Pt.cells, Pt.slots] at X' e1 e2 h1 h2 h3 st
    subst h1; subst h2; subst h3
    exact Or.inl ⟨v, (T.setVm vm₁).calling g' mk As.toArray, t, U', L, hT, X', hL, e1, e2, hq, st⟩
  · dsimp only [Pt.U, Pt.locs, Pt.cells, Pt.slots] at X' e1 e2 h1 h2 h3 st hcl
    subst h1; subst h2; subst h3
    exact Or.inr ⟨q, (T.setVm vm₁).calling g' mk As.toArray, t, U', L, E, ce, hT, X', hL, e1, e2, hq, hce, hcv, vx_cls hW₁ hcl, st⟩
end
end VXH
theorem vx_ofWH {l : Launch} {y : MethodName} {ws ws' : List Cond} {rm : Room} {Pc : Array Value → State → Prop} {Qc : Array Value → State → Outcome → State → Prop} {XC : String → State → State → Prop} {mc ms : Nat} {free : Addr → Prop} {cc : ByteArray} {maxL : Nat} {ret : Option FieldType} {hh : List (Nat × Nat × Nat × Nat)}
    (hy : plainName y.cls = true) (hw : ws = Cond.codeWith y cc maxL ret hh :: ws')
    (body : ∀ p e s m args below meth c s₁, BodyLoose p l y (headSpec ws rm) cc maxL ret e s m args below meth c s₁ → c.maxLocals = maxL → Pc args s →
      W p l e (headSpec ws rm).room s m args below meth c s.heap [] 0 0 (vx_MQ below Qc XC args s mc ms free) (entryFrame m args maxL)) : vx_Met l y ws rm Pc Qc XC mc ms free := by
  refine MetFree.of_bodyS (code := cc) (maxLocals := maxL) (ret := ret) hy ?_ ?_
  · intro args s m h hn
    obtain ⟨m9, meth, c, hn9, h1, h2, h3, h4, -, h5, h6, -⟩ := Cond.codeWith_spec (atoms_spec (ws := ws) h _ (by rw [hw]; exact List.mem_cons_self))
    cases hn.symm.trans hn9
    exact ⟨meth, c, h1, h2, h3, h4, h5, h6⟩
  · intro p e s m args below meth c s₁ B hml hP _
    have hh0 : s₁.heap = s.heap := by rw [B.state]; rfl
    obtain ⟨t, a1, o, b1, b2, b3⟩ := body p e s m args below meth c s₁ B hml hP s₁ hh0 (Stand.of_body B)
    exact ⟨t, o, a1, b1, b2, b3⟩
/-! ===== END ===== -/
end
section
/-! ===== BEGIN printed: names, fields, word lists, decode rows ===== -/
def RX0 : String := "SegmentMerges$Memory"
def TX0 : u_T := fun k => match k with
  | 0 => ("SegmentMerges$Memory", "keys", "[I", true)
  | 1 => ("SegmentMerges$Memory", "values", "[I", true)
  | _ => ("SegmentMerges$Memory", "size", "I", false)
def tyX0 : Nat → FieldType := fun k => match k with
  | 0 => .array .int
  | 1 => .array .int
  | _ => .int
abbrev wsX00 : List Cond := u_ws RX0 TX0 3
theorem nmX0 : ∀ a, a < 3 → ∀ b, b < 3 → a ≠ b → (TX0 a).2.1 ≠ (TX0 b).2.1 := by decide +kernel
theorem tyX0_ok : ∀ k, k < 3 → parseFieldDescriptor (TX0 k).2.2.1 = some (tyX0 k) := by decide +kernel
abbrev cX0_init : ByteArray := prog_2_method_1_code
def yX0_init : MethodName := ⟨RX0, "<init>", "()V"⟩
abbrev cX0_find : ByteArray := prog_2_method_2_code
def yX0_find : MethodName := ⟨RX0, "find", "(I)I"⟩
abbrev cX0_append : ByteArray := prog_2_method_3_code
def yX0_append : MethodName := ⟨RX0, "append", "(II)V"⟩
abbrev cX0_removeAt : ByteArray := prog_2_method_4_code
def yX0_removeAt : MethodName := ⟨RX0, "removeAt", "(I)V"⟩
abbrev cX0_asSegment : ByteArray := prog_2_method_5_code
def yX0_asSegment : MethodName := ⟨RX0, "asSegment", "(I)LSegmentMerges$Segment;"⟩
abbrev cX0_rankOf : ByteArray := prog_2_method_6_code
def yX0_rankOf : MethodName := ⟨RX0, "rankOf", "(I)I"⟩
def RX1 : String := "SegmentMerges$Merge"
def TX1 : u_T := fun k => match k with
  | 0 => ("SegmentMerges$Merge", "place", "I", true)
  | 1 => ("SegmentMerges$Merge", "sources", "[LSegmentMerges$Segment;", true)
  | 2 => ("SegmentMerges$Merge", "takenOf", "[I", true)
  | 3 => ("SegmentMerges$Merge", "taken", "I", false)
  | 4 => ("SegmentMerges$Merge", "written", "I", false)
  | _ => ("SegmentMerges$Merge", "left", "I", false)
def tyX1 : Nat → FieldType := fun k => match k with
  | 0 => .int
  | 1 => .array (.object "SegmentMerges$Segment")
  | 2 => .array .int
  | 3 => .int
  | 4 => .int
  | _ => .int
abbrev wsX10 : List Cond := u_ws RX1 TX1 6
theorem nmX1 : ∀ a, a < 6 → ∀ b, b < 6 → a ≠ b → (TX1 a).2.1 ≠ (TX1 b).2.1 := by decide +kernel
theorem tyX1_ok : ∀ k, k < 6 → parseFieldDescriptor (TX1 k).2.2.1 = some (tyX1 k) := by decide +kernel
abbrev cX1_init : ByteArray := prog_3_method_1_code
def yX1_init : MethodName := ⟨RX1, "<init>", "([LSegmentMerges$Segment;II)V"⟩
abbrev cX1_isOf : ByteArray := prog_3_method_2_code
def yX1_isOf : MethodName := ⟨RX1, "isOf", "(I)Z"⟩
abbrev cX1_sourceOf : ByteArray := prog_3_method_3_code
def yX1_sourceOf : MethodName := ⟨RX1, "sourceOf", "(I)LSegmentMerges$Segment;"⟩
abbrev cX1_takeOne : ByteArray := prog_3_method_4_code
def yX1_takeOne : MethodName := ⟨RX1, "takeOne", "()V"⟩
abbrev cX1_sourceOfLeastKey : ByteArray := prog_3_method_5_code
def yX1_sourceOfLeastKey : MethodName := ⟨RX1, "sourceOfLeastKey", "()I"⟩
abbrev cX1_asSegment : ByteArray := prog_3_method_6_code
def yX1_asSegment : MethodName := ⟨RX1, "asSegment", "(I)LSegmentMerges$Segment;"⟩
abbrev cX1_greatestTier : ByteArray := prog_3_method_7_code
def yX1_greatestTier : MethodName := ⟨RX1, "greatestTier", "()I"⟩
def RX2 : String := "SegmentMerges$Segment"
def TX2 : u_T := fun k => match k with
  | 0 => ("SegmentMerges$Segment", "number", "I", true)
  | 1 => ("SegmentMerges$Segment", "tier", "I", true)
  | 2 => ("SegmentMerges$Segment", "size", "I", true)
  | 3 => ("SegmentMerges$Segment", "keys", "[I", true)
  | 4 => ("SegmentMerges$Segment", "values", "[I", true)
  | 5 => ("SegmentMerges$Segment", "lives", "[Z", true)
  | 6 => ("SegmentMerges$Segment", "wentTo", "[I", true)
  | _ => ("SegmentMerges$Segment", "living", "I", false)
def tyX2 : Nat → FieldType := fun k => match k with
  | 0 => .int
  | 1 => .int
  | 2 => .int
  | 3 => .array .int
  | 4 => .array .int
  | 5 => .array .boolean
  | 6 => .array .int
  | _ => .int
abbrev wsX20 : List Cond := u_ws RX2 TX2 8
theorem nmX2 : ∀ a, a < 8 → ∀ b, b < 8 → a ≠ b → (TX2 a).2.1 ≠ (TX2 b).2.1 := by decide +kernel
theorem tyX2_ok : ∀ k, k < 8 → parseFieldDescriptor (TX2 k).2.2.1 = some (tyX2 k) := by decide +kernel
abbrev cX2_init : ByteArray := prog_4_method_1_code
def yX2_init : MethodName := ⟨RX2, "<init>", "(III)V"⟩
abbrev cX2_write : ByteArray := prog_4_method_2_code
def yX2_write : MethodName := ⟨RX2, "write", "(IIIZ)V"⟩
abbrev cX2_hasRow : ByteArray := prog_4_method_3_code
def yX2_hasRow : MethodName := ⟨RX2, "hasRow", "(I)Z"⟩
abbrev cX2_kill : ByteArray := prog_4_method_4_code
def yX2_kill : MethodName := ⟨RX2, "kill", "(I)V"⟩
abbrev cX2_isDeaderThan : ByteArray := prog_4_method_5_code
def yX2_isDeaderThan : MethodName := ⟨RX2, "isDeaderThan", "(LSegmentMerges$Segment;)Z"⟩
def RX3 : String := "SegmentMerges"
def TX3 : u_T := fun k => match k with
  | 0 => ("SegmentMerges", "valueOf", "[I", true)
  | 1 => ("SegmentMerges", "memory", "LSegmentMerges$Memory;", true)
  | 2 => ("SegmentMerges", "segments", "[LSegmentMerges$Segment;", true)
  | 3 => ("SegmentMerges", "segmentCount", "I", false)
  | 4 => ("SegmentMerges", "nextNumber", "I", false)
  | 5 => ("SegmentMerges", "writtenRows", "I", false)
  | 6 => ("SegmentMerges", "fullSize", "I", false)
  | 7 => ("SegmentMerges", "current", "LSegmentMerges$Merge;", false)
  | 8 => ("SegmentMerges", "ended", "LSegmentMerges$Merge;", false)
  | 9 => ("SegmentMerges", "viewed", "[[I", true)
  | _ => ("SegmentMerges", "viewOpen", "[Z", true)
def tyX3 : Nat → FieldType := fun k => match k with
  | 0 => .array .int
  | 1 => .object "SegmentMerges$Memory"
  | 2 => .array (.object "SegmentMerges$Segment")
  | 3 => .int
  | 4 => .int
  | 5 => .int
  | 6 => .int
  | 7 => .object "SegmentMerges$Merge"
  | 8 => .object "SegmentMerges$Merge"
  | 9 => .array (.array .int)
  | _ => .array .boolean
abbrev wsX30 : List Cond := u_ws RX3 TX3 11
theorem nmX3 : ∀ a, a < 11 → ∀ b, b < 11 → a ≠ b → (TX3 a).2.1 ≠ (TX3 b).2.1 := by decide +kernel
theorem tyX3_ok : ∀ k, k < 11 → parseFieldDescriptor (TX3 k).2.2.1 = some (tyX3 k) := by decide +kernel
abbrev cX3_init : ByteArray := prog_1_method_1_code
def yX3_init : MethodName := ⟨RX3, "<init>", "()V"⟩
abbrev cX3_put : ByteArray := prog_1_method_2_code
def yX3_put : MethodName := ⟨RX3, "put", "(II)I"⟩
abbrev cX3_drop : ByteArray := prog_1_method_3_code
def yX3_drop : MethodName := ⟨RX3, "drop", "(I)I"⟩
abbrev cX3_get : ByteArray := prog_1_method_4_code
def yX3_get : MethodName := ⟨RX3, "get", "(I)I"⟩
abbrev cX3_next : ByteArray := prog_1_method_5_code
def yX3_next : MethodName := ⟨RX3, "next", "(I)I"⟩
abbrev cX3_flush : ByteArray := prog_1_method_6_code
def yX3_flush : MethodName := ⟨RX3, "flush", "()I"⟩
abbrev cX3_count : ByteArray := prog_1_method_7_code
def yX3_count : MethodName := ⟨RX3, "count", "(I)I"⟩
abbrev cX3_segment : ByteArray := prog_1_method_8_code
def yX3_segment : MethodName := ⟨RX3, "segment", "(II)I"⟩
abbrev cX3_row : ByteArray := prog_1_method_9_code
def yX3_row : MethodName := ⟨RX3, "row", "(III)I"⟩
abbrev cX3_full : ByteArray := prog_1_method_10_code
def yX3_full : MethodName := ⟨RX3, "full", "(I)I"⟩
abbrev cX3_due : ByteArray := prog_1_method_11_code
def yX3_due : MethodName := ⟨RX3, "due", "()I"⟩
abbrev cX3_cheapest : ByteArray := prog_1_method_12_code
def yX3_cheapest : MethodName := ⟨RX3, "cheapest", "(I)I"⟩
abbrev cX3_worst : ByteArray := prog_1_method_13_code
def yX3_worst : MethodName := ⟨RX3, "worst", "()I"⟩
abbrev cX3_begin : ByteArray := prog_1_method_14_code
def yX3_begin : MethodName := ⟨RX3, "begin", "(II)I"⟩
abbrev cX3_step : ByteArray := prog_1_method_15_code
def yX3_step : MethodName := ⟨RX3, "step", "(I)I"⟩
abbrev cX3_stop : ByteArray := prog_1_method_16_code
def yX3_stop : MethodName := ⟨RX3, "stop", "()I"⟩
abbrev cX3_merging : ByteArray := prog_1_method_17_code
def yX3_merging : MethodName := ⟨RX3, "merging", "(I)I"⟩
abbrev cX3_moved : ByteArray := prog_1_method_18_code
def yX3_moved : MethodName := ⟨RX3, "moved", "(II)I"⟩
abbrev cX3_view : ByteArray := prog_1_method_19_code
def yX3_view : MethodName := ⟨RX3, "view", "()I"⟩
abbrev cX3_seen : ByteArray := prog_1_method_20_code
def yX3_seen : MethodName := ⟨RX3, "seen", "(II)I"⟩
abbrev cX3_shut : ByteArray := prog_1_method_21_code
def yX3_shut : MethodName := ⟨RX3, "shut", "(I)I"⟩
abbrev cX3_share : ByteArray := prog_1_method_22_code
def yX3_share : MethodName := ⟨RX3, "share", "()I"⟩
abbrev cX3_isKey : ByteArray := prog_1_method_23_code
def yX3_isKey : MethodName := ⟨RX3, "isKey", "(I)Z"⟩
abbrev cX3_canBeMerged : ByteArray := prog_1_method_24_code
def yX3_canBeMerged : MethodName := ⟨RX3, "canBeMerged", "(I)Z"⟩
abbrev cX3_isPlace : ByteArray := prog_1_method_25_code
def yX3_isPlace : MethodName := ⟨RX3, "isPlace", "(I)Z"⟩
abbrev cX3_isOpenView : ByteArray := prog_1_method_26_code
def yX3_isOpenView : MethodName := ⟨RX3, "isOpenView", "(I)Z"⟩
abbrev cX3_killRowOf : ByteArray := prog_1_method_27_code
def yX3_killRowOf : MethodName := ⟨RX3, "killRowOf", "(I)V"⟩
abbrev cX3_rowsInSegments : ByteArray := prog_1_method_28_code
def yX3_rowsInSegments : MethodName := ⟨RX3, "rowsInSegments", "()I"⟩
abbrev cX3_livingFrom : ByteArray := prog_1_method_29_code
def yX3_livingFrom : MethodName := ⟨RX3, "livingFrom", "(II)I"⟩
abbrev cX3_isOfOneTier : ByteArray := prog_1_method_30_code
def yX3_isOfOneTier : MethodName := ⟨RX3, "isOfOneTier", "(II)Z"⟩
abbrev cX3_endMerge : ByteArray := prog_1_method_31_code
def yX3_endMerge : MethodName := ⟨RX3, "endMerge", "(LSegmentMerges$Merge;)V"⟩
abbrev cX3_closeGap : ByteArray := prog_1_method_32_code
def yX3_closeGap : MethodName := ⟨RX3, "closeGap", "(II)V"⟩
def RX4 : String := "SegmentMergesModel"
def TX4 : u_T := fun k => match k with
  | 0 => ("SegmentMergesModel", "thrown", "I", false)
  | 1 => ("SegmentMergesModel", "value", "[I", true)
  | 2 => ("SegmentMergesModel", "turn", "[I", true)
  | 3 => ("SegmentMergesModel", "inSlot", "[I", true)
  | 4 => ("SegmentMergesModel", "inRow", "[I", true)
  | 5 => ("SegmentMergesModel", "remembered", "I", false)
  | 6 => ("SegmentMergesModel", "memory", "[I", true)
  | 7 => ("SegmentMergesModel", "segments", "I", false)
  | 8 => ("SegmentMergesModel", "order", "[I", true)
  | 9 => ("SegmentMergesModel", "isUsed", "[Z", true)
  | 10 => ("SegmentMergesModel", "number", "[I", true)
  | 11 => ("SegmentMergesModel", "tier", "[I", true)
  | 12 => ("SegmentMergesModel", "rows", "[I", true)
  | 13 => ("SegmentMergesModel", "rowKey", "[I", true)
  | 14 => ("SegmentMergesModel", "rowValue", "[I", true)
  | 15 => ("SegmentMergesModel", "lives", "[Z", true)
  | 16 => ("SegmentMergesModel", "numbers", "I", false)
  | 17 => ("SegmentMergesModel", "written", "I", false)
  | 18 => ("SegmentMergesModel", "full", "I", false)
  | 19 => ("SegmentMergesModel", "merged", "I", false)
  | 20 => ("SegmentMergesModel", "mergePlace", "I", false)
  | 21 => ("SegmentMergesModel", "taken", "I", false)
  | 22 => ("SegmentMergesModel", "wrote", "I", false)
  | 23 => ("SegmentMergesModel", "at", "[I", true)
  | 24 => ("SegmentMergesModel", "newKey", "[I", true)
  | 25 => ("SegmentMergesModel", "newValue", "[I", true)
  | 26 => ("SegmentMergesModel", "newTurn", "[I", true)
  | 27 => ("SegmentMergesModel", "goes", "[I", true)
  | 28 => ("SegmentMergesModel", "movedMany", "I", false)
  | 29 => ("SegmentMergesModel", "movedNumber", "[I", true)
  | 30 => ("SegmentMergesModel", "movedRows", "[I", true)
  | 31 => ("SegmentMergesModel", "movedTo", "[I", true)
  | 32 => ("SegmentMergesModel", "isView", "[Z", true)
  | _ => ("SegmentMergesModel", "viewed", "[I", true)
def tyX4 : Nat → FieldType := fun k => match k with
  | 0 => .int
  | 1 => .array .int
  | 2 => .array .int
  | 3 => .array .int
  | 4 => .array .int
  | 5 => .int
  | 6 => .array .int
  | 7 => .int
  | 8 => .array .int
  | 9 => .array .boolean
  | 10 => .array .int
  | 11 => .array .int
  | 12 => .array .int
  | 13 => .array .int
  | 14 => .array .int
  | 15 => .array .boolean
  | 16 => .int
  | 17 => .int
  | 18 => .int
  | 19 => .int
  | 20 => .int
  | 21 => .int
  | 22 => .int
  | 23 => .array .int
  | 24 => .array .int
  | 25 => .array .int
  | 26 => .array .int
  | 27 => .array .int
  | 28 => .int
  | 29 => .array .int
  | 30 => .array .int
  | 31 => .array .int
  | 32 => .array .boolean
  | _ => .array .int
abbrev wsX40 : List Cond := u_ws RX4 TX4 34
theorem nmX4 : ∀ a, a < 34 → ∀ b, b < 34 → a ≠ b → (TX4 a).2.1 ≠ (TX4 b).2.1 := by decide +kernel
theorem tyX4_ok : ∀ k, k < 34 → parseFieldDescriptor (TX4 k).2.2.1 = some (tyX4 k) := by decide +kernel
abbrev cX4_init : ByteArray := prog_6_method_1_code
def yX4_init : MethodName := ⟨RX4, "<init>", "()V"⟩
abbrev cX4_thrown : ByteArray := prog_6_method_2_code
def yX4_thrown : MethodName := ⟨RX4, "thrown", "()I"⟩
abbrev cX4_in : ByteArray := prog_6_method_3_code
def yX4_in : MethodName := ⟨RX4, "in", "(III)Z"⟩
abbrev cX4_memoryAt : ByteArray := prog_6_method_4_code
def yX4_memoryAt : MethodName := ⟨RX4, "memoryAt", "(I)I"⟩
abbrev cX4_die : ByteArray := prog_6_method_5_code
def yX4_die : MethodName := ⟨RX4, "die", "(I)V"⟩
abbrev cX4_put : ByteArray := prog_6_method_6_code
def yX4_put : MethodName := ⟨RX4, "put", "(II)I"⟩
abbrev cX4_drop : ByteArray := prog_6_method_7_code
def yX4_drop : MethodName := ⟨RX4, "drop", "(I)I"⟩
abbrev cX4_get : ByteArray := prog_6_method_8_code
def yX4_get : MethodName := ⟨RX4, "get", "(I)I"⟩
abbrev cX4_next : ByteArray := prog_6_method_9_code
def yX4_next : MethodName := ⟨RX4, "next", "(I)I"⟩
abbrev cX4_freeSlot : ByteArray := prog_6_method_10_code
def yX4_freeSlot : MethodName := ⟨RX4, "freeSlot", "()I"⟩
abbrev cX4_lay : ByteArray := prog_6_method_11_code
def yX4_lay : MethodName := ⟨RX4, "lay", "(IIIZ)V"⟩
abbrev cX4_flush : ByteArray := prog_6_method_12_code
def yX4_flush : MethodName := ⟨RX4, "flush", "()I"⟩
abbrev cX4_livingOf : ByteArray := prog_6_method_13_code
def yX4_livingOf : MethodName := ⟨RX4, "livingOf", "(I)I"⟩
abbrev cX4_all : ByteArray := prog_6_method_14_code
def yX4_all : MethodName := ⟨RX4, "all", "(Z)I"⟩
abbrev cX4_count : ByteArray := prog_6_method_15_code
def yX4_count : MethodName := ⟨RX4, "count", "(I)I"⟩
abbrev cX4_isPlace : ByteArray := prog_6_method_16_code
def yX4_isPlace : MethodName := ⟨RX4, "isPlace", "(I)Z"⟩
abbrev cX4_segment : ByteArray := prog_6_method_17_code
def yX4_segment : MethodName := ⟨RX4, "segment", "(II)I"⟩
abbrev cX4_row : ByteArray := prog_6_method_18_code
def yX4_row : MethodName := ⟨RX4, "row", "(III)I"⟩
abbrev cX4_full : ByteArray := prog_6_method_19_code
def yX4_full : MethodName := ⟨RX4, "full", "(I)I"⟩
abbrev cX4_due : ByteArray := prog_6_method_20_code
def yX4_due : MethodName := ⟨RX4, "due", "()I"⟩
abbrev cX4_cheapest : ByteArray := prog_6_method_21_code
def yX4_cheapest : MethodName := ⟨RX4, "cheapest", "(I)I"⟩
abbrev cX4_worst : ByteArray := prog_6_method_22_code
def yX4_worst : MethodName := ⟨RX4, "worst", "()I"⟩
abbrev cX4_begin : ByteArray := prog_6_method_23_code
def yX4_begin : MethodName := ⟨RX4, "begin", "(II)I"⟩
abbrev cX4_slotOf : ByteArray := prog_6_method_24_code
def yX4_slotOf : MethodName := ⟨RX4, "slotOf", "(I)I"⟩
abbrev cX4_left : ByteArray := prog_6_method_25_code
def yX4_left : MethodName := ⟨RX4, "left", "()I"⟩
abbrev cX4_takeOne : ByteArray := prog_6_method_26_code
def yX4_takeOne : MethodName := ⟨RX4, "takeOne", "()V"⟩
abbrev cX4_keyAt : ByteArray := prog_6_method_27_code
def yX4_keyAt : MethodName := ⟨RX4, "keyAt", "(I)I"⟩
abbrev cX4_step : ByteArray := prog_6_method_28_code
def yX4_step : MethodName := ⟨RX4, "step", "(I)I"⟩
abbrev cX4_end : ByteArray := prog_6_method_29_code
def yX4_end : MethodName := ⟨RX4, "end", "()V"⟩
abbrev cX4_stop : ByteArray := prog_6_method_30_code
def yX4_stop : MethodName := ⟨RX4, "stop", "()I"⟩
abbrev cX4_merging : ByteArray := prog_6_method_31_code
def yX4_merging : MethodName := ⟨RX4, "merging", "(I)I"⟩
abbrev cX4_moved : ByteArray := prog_6_method_32_code
def yX4_moved : MethodName := ⟨RX4, "moved", "(II)I"⟩
abbrev cX4_view : ByteArray := prog_6_method_33_code
def yX4_view : MethodName := ⟨RX4, "view", "()I"⟩
abbrev cX4_isOpen : ByteArray := prog_6_method_34_code
def yX4_isOpen : MethodName := ⟨RX4, "isOpen", "(I)Z"⟩
abbrev cX4_seen : ByteArray := prog_6_method_35_code
def yX4_seen : MethodName := ⟨RX4, "seen", "(II)I"⟩
abbrev cX4_shut : ByteArray := prog_6_method_36_code
def yX4_shut : MethodName := ⟨RX4, "shut", "(I)I"⟩
abbrev cX4_share : ByteArray := prog_6_method_37_code
def yX4_share : MethodName := ⟨RX4, "share", "()I"⟩
def RJ9 : String := "java/lang/Math"
def TJ9 : u_T := fun k => match k with
  | _ => ("", "", "", false)
def tyJ9 : Nat → FieldType := fun k => match k with
  | _ => .int
abbrev wsJ90 : List Cond := u_ws RJ9 TJ9 0
theorem nmJ9 : ∀ a, a < 0 → ∀ b, b < 0 → a ≠ b → (TJ9 a).2.1 ≠ (TJ9 b).2.1 := by decide +kernel
theorem tyJ9_ok : ∀ k, k < 0 → parseFieldDescriptor (TJ9 k).2.2.1 = some (tyJ9 k) := by decide +kernel
abbrev cJ9_max_7cf53 : ByteArray := prog_9_method_65_code
def yJ9_max_7cf53 : MethodName := ⟨RJ9, "max", "(II)I"⟩
def RJ0 : String := "java/lang/String"
def TJ0 : u_T := fun k => match k with
  | _ => ("", "", "", false)
def tyJ0 : Nat → FieldType := fun k => match k with
  | _ => .int
abbrev wsJ00 : List Cond := u_ws RJ0 TJ0 0
theorem nmJ0 : ∀ a, a < 0 → ∀ b, b < 0 → a ≠ b → (TJ0 a).2.1 ≠ (TJ0 b).2.1 := by decide +kernel
theorem tyJ0_ok : ∀ k, k < 0 → parseFieldDescriptor (TJ0 k).2.2.1 = some (tyJ0 k) := by decide +kernel
def RJ10 : String := "java/lang/System"
def TJ10 : u_T := fun k => match k with
  | _ => ("", "", "", false)
def tyJ10 : Nat → FieldType := fun k => match k with
  | _ => .int
abbrev wsJ100 : List Cond := u_ws RJ10 TJ10 0
theorem nmJ10 : ∀ a, a < 0 → ∀ b, b < 0 → a ≠ b → (TJ10 a).2.1 ≠ (TJ10 b).2.1 := by decide +kernel
theorem tyJ10_ok : ∀ k, k < 0 → parseFieldDescriptor (TJ10 k).2.2.1 = some (tyJ10 k) := by decide +kernel
def RJ7 : String := "java/util/Arrays"
def TJ7 : u_T := fun k => match k with
  | _ => ("", "", "", false)
def tyJ7 : Nat → FieldType := fun k => match k with
  | _ => .int
abbrev wsJ70 : List Cond := u_ws RJ7 TJ7 0
theorem nmJ7 : ∀ a, a < 0 → ∀ b, b < 0 → a ≠ b → (TJ7 a).2.1 ≠ (TJ7 b).2.1 := by decide +kernel
theorem tyJ7_ok : ∀ k, k < 0 → parseFieldDescriptor (TJ7 k).2.2.1 = some (tyJ7 k) := by decide +kernel
abbrev cJ7_fill_53178 : ByteArray := prog_14_method_103_code
def yJ7_fill_53178 : MethodName := ⟨RJ7, "fill", "([II)V"⟩
def RL : String := "SegmentMergesLaw"
abbrev cL_share : ByteArray := method_3_code
def yL_share : MethodName := ⟨RL, "share", "(LSegmentMerges;[J)I"⟩
abbrev cL_law : ByteArray := code
def yL_law : MethodName := ⟨RL, "law", "([I)Z"⟩
def wsX0_init : List Cond := .code yX0_init cX0_init 1 none :: ([.methodLink RX0 3 objectInit, .instanceMethod objectInit, .code objectInit ⟨#[0xb1]⟩ 1 none, .arrayClass .int, .fieldLink RX0 9 "SegmentMerges$Memory" "keys" "[I", .fieldLink RX0 15 "SegmentMerges$Memory" "values" "[I", .fieldLink RX0 18 "SegmentMerges$Memory" "size" "I"] ++ wsX00)
def wsX0_find : List Cond := .code yX0_find cX0_find 3 (some .int) :: ([.fieldLink RX0 18 "SegmentMerges$Memory" "size" "I", .fieldLink RX0 9 "SegmentMerges$Memory" "keys" "[I"] ++ wsX00)
def wsX0_append : List Cond := .code yX0_append cX0_append 3 none :: ([.fieldLink RX0 9 "SegmentMerges$Memory" "keys" "[I", .fieldLink RX0 18 "SegmentMerges$Memory" "size" "I", .fieldLink RX0 15 "SegmentMerges$Memory" "values" "[I"] ++ wsX00)
def wsX0_removeAt : List Cond := .code yX0_removeAt cX0_removeAt 3 none :: ([.fieldLink RX0 18 "SegmentMerges$Memory" "size" "I", .fieldLink RX0 9 "SegmentMerges$Memory" "keys" "[I", .fieldLink RX0 15 "SegmentMerges$Memory" "values" "[I"] ++ wsX00)
def wsX2_init : List Cond := .code yX2_init cX2_init 4 none :: ([.methodLink RX2 1 objectInit, .instanceMethod objectInit, .code objectInit ⟨#[0xb1]⟩ 1 none, .fieldLink RX2 7 "SegmentMerges$Segment" "living" "I", .fieldLink RX2 13 "SegmentMerges$Segment" "number" "I", .fieldLink RX2 16 "SegmentMerges$Segment" "tier" "I", .fieldLink RX2 19 "SegmentMerges$Segment" "size" "I", .arrayClass .int, .fieldLink RX2 22 "SegmentMerges$Segment" "keys" "[I", .fieldLink RX2 26 "SegmentMerges$Segment" "values" "[I", .arrayClass .boolean, .fieldLink RX2 29 "SegmentMerges$Segment" "lives" "[Z", .fieldLink RX2 33 "SegmentMerges$Segment" "wentTo" "[I"] ++ wsX20)
def wsX0_rankOf : List Cond := .code yX0_rankOf cX0_rankOf 4 (some .int) :: ([.fieldLink RX0 18 "SegmentMerges$Memory" "size" "I", .fieldLink RX0 9 "SegmentMerges$Memory" "keys" "[I"] ++ wsX00)
def wsX2_write : List Cond := .code yX2_write cX2_write 5 none :: ([.fieldLink RX2 22 "SegmentMerges$Segment" "keys" "[I", .fieldLink RX2 26 "SegmentMerges$Segment" "values" "[I", .fieldLink RX2 29 "SegmentMerges$Segment" "lives" "[Z", .fieldLink RX2 7 "SegmentMerges$Segment" "living" "I"] ++ wsX20)
def wsX0_asSegment_r1 : List Cond := [Cond.classLink RX0 22 RX2, Cond.instantiable RX2 8, Cond.initialized RX2, Cond.fieldLink RX0 18 "SegmentMerges$Memory" "size" "I", Cond.fieldLink RX0 9 "SegmentMerges$Memory" "keys" "[I", Cond.fieldLink RX0 15 "SegmentMerges$Memory" "values" "[I", Cond.methodLink RX0 24 yX2_init, Cond.instanceMethod yX2_init, Cond.code yX2_init cX2_init 4 none, Cond.methodLink RX2 1 objectInit, Cond.instanceMethod objectInit, Cond.code objectInit ⟨#[0xb1]⟩ 1 none, Cond.fieldLink RX2 7 "SegmentMerges$Segment" "living" "I", Cond.fieldLink RX2 13 "SegmentMerges$Segment" "number" "I", Cond.fieldLink RX2 16 "SegmentMerges$Segment" "tier" "I", Cond.fieldLink RX2 19 "SegmentMerges$Segment" "size" "I", Cond.arrayClass .int, Cond.fieldLink RX2 22 "SegmentMerges$Segment" "keys" "[I", Cond.fieldLink RX2 26 "SegmentMerges$Segment" "values" "[I", Cond.arrayClass .boolean, Cond.fieldLink RX2 29 "SegmentMerges$Segment" "lives" "[Z", Cond.fieldLink RX2 33 "SegmentMerges$Segment" "wentTo" "[I", Cond.methodLink RX0 27 yX0_rankOf, Cond.instanceMethod yX0_rankOf]
def wsX0_asSegment_r2 : List Cond := [Cond.selects RX0 yX0_rankOf yX0_rankOf, Cond.initialized RX0, Cond.code yX0_rankOf cX0_rankOf 4 (some .int), Cond.methodLink RX0 31 yX2_write, Cond.instanceMethod yX2_write, Cond.selects RX2 yX2_write yX2_write, Cond.code yX2_write cX2_write 5 none]
def wsX0_asSegment : List Cond := .code yX0_asSegment cX0_asSegment 4 (some (.object "SegmentMerges$Segment")) :: ((wsX0_asSegment_r1 ++ wsX0_asSegment_r2) ++ wsX20 ++ wsX00)
def wsX1_init : List Cond := .code yX1_init cX1_init 5 none :: ([.methodLink RX1 3 objectInit, .instanceMethod objectInit, .code objectInit ⟨#[0xb1]⟩ 1 none, .fieldLink RX1 9 "SegmentMerges$Merge" "taken" "I", .fieldLink RX1 15 "SegmentMerges$Merge" "written" "I", .fieldLink RX1 18 "SegmentMerges$Merge" "left" "I", .fieldLink RX1 21 "SegmentMerges$Merge" "place" "I", .classLink RX1 24 RX2, .fieldLink RX1 26 "SegmentMerges$Merge" "sources" "[LSegmentMerges$Segment;", .arrayClass .int, .fieldLink RX1 30 "SegmentMerges$Merge" "takenOf" "[I", .fieldLink RX1 34 "SegmentMerges$Segment" "size" "I"] ++ wsX10 ++ wsX20)
def wsX1_isOf : List Cond := .code yX1_isOf cX1_isOf 2 (some .boolean) :: ([.fieldLink RX1 21 "SegmentMerges$Merge" "place" "I", .fieldLink RX1 26 "SegmentMerges$Merge" "sources" "[LSegmentMerges$Segment;"] ++ wsX10)
def wsX1_sourceOf : List Cond := .code yX1_sourceOf cX1_sourceOf 3 (some (.object "SegmentMerges$Segment")) :: ([.fieldLink RX1 26 "SegmentMerges$Merge" "sources" "[LSegmentMerges$Segment;", .fieldLink RX1 37 "SegmentMerges$Segment" "number" "I"] ++ wsX10 ++ wsX20)
def wsX1_sourceOfLeastKey : List Cond := .code yX1_sourceOfLeastKey cX1_sourceOfLeastKey 4 (some .int) :: ([.fieldLink RX1 26 "SegmentMerges$Merge" "sources" "[LSegmentMerges$Segment;", .fieldLink RX1 30 "SegmentMerges$Merge" "takenOf" "[I", .fieldLink RX1 34 "SegmentMerges$Segment" "size" "I", .fieldLink RX1 51 "SegmentMerges$Segment" "keys" "[I"] ++ wsX10 ++ wsX20)
def wsX1_takeOne : List Cond := .code yX1_takeOne cX1_takeOne 4 none :: ([.fieldLink RX1 26 "SegmentMerges$Merge" "sources" "[LSegmentMerges$Segment;", .fieldLink RX1 30 "SegmentMerges$Merge" "takenOf" "[I", .fieldLink RX1 44 "SegmentMerges$Segment" "lives" "[Z", .fieldLink RX1 48 "SegmentMerges$Segment" "wentTo" "[I", .fieldLink RX1 15 "SegmentMerges$Merge" "written" "I", .fieldLink RX1 9 "SegmentMerges$Merge" "taken" "I", .fieldLink RX1 18 "SegmentMerges$Merge" "left" "I", .methodLink RX1 40 yX1_sourceOfLeastKey, .instanceMethod yX1_sourceOfLeastKey, .selects RX1 yX1_sourceOfLeastKey yX1_sourceOfLeastKey, .initialized RX1, .code yX1_sourceOfLeastKey cX1_sourceOfLeastKey 4 (some .int), .fieldLink RX1 34 "SegmentMerges$Segment" "size" "I", .fieldLink RX1 51 "SegmentMerges$Segment" "keys" "[I"] ++ wsX10 ++ wsX20)
def wsX1_greatestTier : List Cond := .code yX1_greatestTier cX1_greatestTier 3 (some .int) :: ([.fieldLink RX1 26 "SegmentMerges$Merge" "sources" "[LSegmentMerges$Segment;", .fieldLink RX1 67 "SegmentMerges$Segment" "tier" "I", .methodLink RX1 70 Lib.Math.max.name, .static Lib.Math.max.name, .initialized "java/lang/Math", .code Lib.Math.max.name Lib.Math.max.code 2 (some .int)] ++ wsX10 ++ wsX20)
def wsX1_asSegment_r1 : List Cond := [Cond.classLink RX1 24 RX2, Cond.instantiable RX2 8, Cond.initialized RX2, Cond.fieldLink RX1 15 "SegmentMerges$Merge" "written" "I", Cond.fieldLink RX1 26 "SegmentMerges$Merge" "sources" "[LSegmentMerges$Segment;", Cond.fieldLink RX1 34 "SegmentMerges$Segment" "size" "I", Cond.fieldLink RX1 48 "SegmentMerges$Segment" "wentTo" "[I", Cond.fieldLink RX1 51 "SegmentMerges$Segment" "keys" "[I", Cond.fieldLink RX1 60 "SegmentMerges$Segment" "values" "[I", Cond.fieldLink RX1 44 "SegmentMerges$Segment" "lives" "[Z", Cond.methodLink RX1 54 yX1_greatestTier, Cond.instanceMethod yX1_greatestTier, Cond.selects RX1 yX1_greatestTier yX1_greatestTier, Cond.initialized RX1, Cond.code yX1_greatestTier cX1_greatestTier 3 (some .int), Cond.fieldLink RX1 67 "SegmentMerges$Segment" "tier" "I", Cond.methodLink RX1 70 Lib.Math.max.name, Cond.static Lib.Math.max.name, Cond.initialized "java/lang/Math", Cond.code Lib.Math.max.name Lib.Math.max.code 2 (some .int), Cond.methodLink RX1 57 yX2_init, Cond.instanceMethod yX2_init, Cond.code yX2_init cX2_init 4 none, Cond.methodLink RX2 1 objectInit]
def wsX1_asSegment_r2 : List Cond := [Cond.instanceMethod objectInit, Cond.code objectInit ⟨#[0xb1]⟩ 1 none, Cond.fieldLink RX2 7 "SegmentMerges$Segment" "living" "I", Cond.fieldLink RX2 13 "SegmentMerges$Segment" "number" "I", Cond.fieldLink RX2 16 "SegmentMerges$Segment" "tier" "I", Cond.fieldLink RX2 19 "SegmentMerges$Segment" "size" "I", Cond.arrayClass .int, Cond.fieldLink RX2 22 "SegmentMerges$Segment" "keys" "[I", Cond.fieldLink RX2 26 "SegmentMerges$Segment" "values" "[I", Cond.arrayClass .boolean, Cond.fieldLink RX2 29 "SegmentMerges$Segment" "lives" "[Z", Cond.fieldLink RX2 33 "SegmentMerges$Segment" "wentTo" "[I", Cond.methodLink RX1 63 yX2_write, Cond.instanceMethod yX2_write, Cond.selects RX2 yX2_write yX2_write, Cond.code yX2_write cX2_write 5 none]
def wsX1_asSegment : List Cond := .code yX1_asSegment cX1_asSegment 6 (some (.object "SegmentMerges$Segment")) :: ((wsX1_asSegment_r1 ++ wsX1_asSegment_r2) ++ wsX20 ++ wsX10)
def wsX2_hasRow : List Cond := .code yX2_hasRow cX2_hasRow 2 (some .boolean) :: ([.fieldLink RX2 19 "SegmentMerges$Segment" "size" "I"] ++ wsX20)
def wsX2_kill : List Cond := .code yX2_kill cX2_kill 3 none :: ([.fieldLink RX2 19 "SegmentMerges$Segment" "size" "I", .fieldLink RX2 22 "SegmentMerges$Segment" "keys" "[I", .fieldLink RX2 29 "SegmentMerges$Segment" "lives" "[Z", .fieldLink RX2 7 "SegmentMerges$Segment" "living" "I"] ++ wsX20)
def wsX2_isDeaderThan : List Cond := .code yX2_isDeaderThan cX2_isDeaderThan 2 (some .boolean) :: ([.fieldLink RX2 19 "SegmentMerges$Segment" "size" "I", .fieldLink RX2 7 "SegmentMerges$Segment" "living" "I"] ++ wsX20)
def wsJ7_fill_53178 : List Cond := .code yJ7_fill_53178 cJ7_fill_53178 4 none :: ([])
def wsX3_init_r1 : List Cond := [Cond.methodLink RX3 1 objectInit, Cond.instanceMethod objectInit, Cond.code objectInit ⟨#[0xb1]⟩ 1 none, Cond.arrayClass .int, Cond.fieldLink RX3 9 "SegmentMerges" "valueOf" "[I", Cond.classLink RX3 13 RX0, Cond.instantiable RX0 3, Cond.initialized RX0, Cond.fieldLink RX3 16 "SegmentMerges" "memory" "LSegmentMerges$Memory;", Cond.classLink RX3 20 RX2, Cond.fieldLink RX3 22 "SegmentMerges" "segments" "[LSegmentMerges$Segment;", Cond.fieldLink RX3 26 "SegmentMerges" "segmentCount" "I", Cond.fieldLink RX3 30 "SegmentMerges" "nextNumber" "I", Cond.fieldLink RX3 33 "SegmentMerges" "writtenRows" "I", Cond.fieldLink RX3 36 "SegmentMerges" "fullSize" "I", Cond.fieldLink RX3 39 "SegmentMerges" "current" "LSegmentMerges$Merge;", Cond.fieldLink RX3 43 "SegmentMerges" "ended" "LSegmentMerges$Merge;", Cond.classLink RX3 46 "[[I", Cond.fieldLink RX3 48 "SegmentMerges" "viewed" "[[I", Cond.arrayClass .boolean, Cond.fieldLink RX3 51 "SegmentMerges" "viewOpen" "[Z", Cond.instanceMethod yX0_init, Cond.code yX0_init cX0_init 1 none, Cond.methodLink RX0 3 objectInit]
def wsX3_init_r2 : List Cond := [Cond.fieldLink RX0 9 "SegmentMerges$Memory" "keys" "[I", Cond.fieldLink RX0 15 "SegmentMerges$Memory" "values" "[I", Cond.fieldLink RX0 18 "SegmentMerges$Memory" "size" "I", Cond.methodLink RX3 55 yJ7_fill_53178, Cond.static yJ7_fill_53178, Cond.initialized RJ7, Cond.code yJ7_fill_53178 cJ7_fill_53178 4 none]
def wsX3_init : List Cond := .code yX3_init cX3_init 1 none :: ((wsX3_init_r1 ++ wsX3_init_r2) ++ wsX30 ++ wsX00)
def wsX3_isKey : List Cond := .code yX3_isKey cX3_isKey 1 (some .boolean) :: ([])
def wsX3_killRowOf : List Cond := .code yX3_killRowOf cX3_killRowOf 3 none :: ([.fieldLink RX3 26 "SegmentMerges" "segmentCount" "I", .fieldLink RX3 22 "SegmentMerges" "segments" "[LSegmentMerges$Segment;", .methodLink RX3 181 yX2_kill, .instanceMethod yX2_kill, .selects RX2 yX2_kill yX2_kill, .initialized RX2, .code yX2_kill cX2_kill 3 none, .fieldLink RX2 19 "SegmentMerges$Segment" "size" "I", .fieldLink RX2 22 "SegmentMerges$Segment" "keys" "[I", .fieldLink RX2 29 "SegmentMerges$Segment" "lives" "[Z", .fieldLink RX2 7 "SegmentMerges$Segment" "living" "I"] ++ wsX30 ++ wsX20)
def wsX3_put_r1 : List Cond := [Cond.fieldLink RX3 16 "SegmentMerges" "memory" "LSegmentMerges$Memory;", Cond.fieldLink RX3 69 "SegmentMerges$Memory" "size" "I", Cond.fieldLink RX3 80 "SegmentMerges$Memory" "values" "[I", Cond.fieldLink RX3 9 "SegmentMerges" "valueOf" "[I", Cond.methodLink RX3 61 yX3_isKey, Cond.static yX3_isKey, Cond.initialized RX3, Cond.code yX3_isKey cX3_isKey 1 (some .boolean), Cond.methodLink RX3 65 yX0_find, Cond.instanceMethod yX0_find, Cond.selects RX0 yX0_find yX0_find, Cond.initialized RX0, Cond.code yX0_find cX0_find 3 (some .int), Cond.fieldLink RX0 18 "SegmentMerges$Memory" "size" "I", Cond.fieldLink RX0 9 "SegmentMerges$Memory" "keys" "[I", Cond.methodLink RX3 72 yX3_killRowOf, Cond.instanceMethod yX3_killRowOf, Cond.selects RX3 yX3_killRowOf yX3_killRowOf, Cond.code yX3_killRowOf cX3_killRowOf 3 none, Cond.fieldLink RX3 26 "SegmentMerges" "segmentCount" "I", Cond.fieldLink RX3 22 "SegmentMerges" "segments" "[LSegmentMerges$Segment;", Cond.methodLink RX3 181 yX2_kill, Cond.instanceMethod yX2_kill, Cond.selects RX2 yX2_kill yX2_kill]
def wsX3_put_r2 : List Cond := [Cond.initialized RX2, Cond.code yX2_kill cX2_kill 3 none, Cond.fieldLink RX2 19 "SegmentMerges$Segment" "size" "I", Cond.fieldLink RX2 22 "SegmentMerges$Segment" "keys" "[I", Cond.fieldLink RX2 29 "SegmentMerges$Segment" "lives" "[Z", Cond.fieldLink RX2 7 "SegmentMerges$Segment" "living" "I", Cond.methodLink RX3 76 yX0_append, Cond.instanceMethod yX0_append, Cond.selects RX0 yX0_append yX0_append, Cond.code yX0_append cX0_append 3 none, Cond.fieldLink RX0 15 "SegmentMerges$Memory" "values" "[I"]
def wsX3_put : List Cond := .code yX3_put cX3_put 4 (some .int) :: ((wsX3_put_r1 ++ wsX3_put_r2) ++ wsX30 ++ wsX00 ++ wsX20)
def wsX3_drop_r1 : List Cond := [Cond.fieldLink RX3 9 "SegmentMerges" "valueOf" "[I", Cond.fieldLink RX3 16 "SegmentMerges" "memory" "LSegmentMerges$Memory;", Cond.methodLink RX3 61 yX3_isKey, Cond.static yX3_isKey, Cond.initialized RX3, Cond.code yX3_isKey cX3_isKey 1 (some .boolean), Cond.methodLink RX3 65 yX0_find, Cond.instanceMethod yX0_find, Cond.selects RX0 yX0_find yX0_find, Cond.initialized RX0, Cond.code yX0_find cX0_find 3 (some .int), Cond.fieldLink RX0 18 "SegmentMerges$Memory" "size" "I", Cond.fieldLink RX0 9 "SegmentMerges$Memory" "keys" "[I", Cond.methodLink RX3 72 yX3_killRowOf, Cond.instanceMethod yX3_killRowOf, Cond.selects RX3 yX3_killRowOf yX3_killRowOf, Cond.code yX3_killRowOf cX3_killRowOf 3 none, Cond.fieldLink RX3 26 "SegmentMerges" "segmentCount" "I", Cond.fieldLink RX3 22 "SegmentMerges" "segments" "[LSegmentMerges$Segment;", Cond.methodLink RX3 181 yX2_kill, Cond.instanceMethod yX2_kill, Cond.selects RX2 yX2_kill yX2_kill, Cond.initialized RX2, Cond.code yX2_kill cX2_kill 3 none]
def wsX3_drop_r2 : List Cond := [Cond.fieldLink RX2 19 "SegmentMerges$Segment" "size" "I", Cond.fieldLink RX2 22 "SegmentMerges$Segment" "keys" "[I", Cond.fieldLink RX2 29 "SegmentMerges$Segment" "lives" "[Z", Cond.fieldLink RX2 7 "SegmentMerges$Segment" "living" "I", Cond.methodLink RX3 83 yX0_removeAt, Cond.instanceMethod yX0_removeAt, Cond.selects RX0 yX0_removeAt yX0_removeAt, Cond.code yX0_removeAt cX0_removeAt 3 none, Cond.fieldLink RX0 15 "SegmentMerges$Memory" "values" "[I"]
def wsX3_drop : List Cond := .code yX3_drop cX3_drop 3 (some .int) :: ((wsX3_drop_r1 ++ wsX3_drop_r2) ++ wsX30 ++ wsX00 ++ wsX20)
def wsX3_get : List Cond := .code yX3_get cX3_get 2 (some .int) :: ([.fieldLink RX3 9 "SegmentMerges" "valueOf" "[I", .methodLink RX3 61 yX3_isKey, .static yX3_isKey, .initialized RX3, .code yX3_isKey cX3_isKey 1 (some .boolean)] ++ wsX30)
def wsX3_next : List Cond := .code yX3_next cX3_next 3 (some .int) :: ([.fieldLink RX3 9 "SegmentMerges" "valueOf" "[I", .methodLink RX3 61 yX3_isKey, .static yX3_isKey, .initialized RX3, .code yX3_isKey cX3_isKey 1 (some .boolean)] ++ wsX30)
def wsX3_flush_r1 : List Cond := [Cond.fieldLink RX3 16 "SegmentMerges" "memory" "LSegmentMerges$Memory;", Cond.fieldLink RX3 69 "SegmentMerges$Memory" "size" "I", Cond.fieldLink RX3 26 "SegmentMerges" "segmentCount" "I", Cond.fieldLink RX3 30 "SegmentMerges" "nextNumber" "I", Cond.fieldLink RX3 22 "SegmentMerges" "segments" "[LSegmentMerges$Segment;", Cond.fieldLink RX3 33 "SegmentMerges" "writtenRows" "I", Cond.fieldLink RX3 90 "SegmentMerges$Segment" "size" "I", Cond.fieldLink RX3 91 "SegmentMerges$Segment" "number" "I", Cond.methodLink RX3 86 yX0_asSegment, Cond.instanceMethod yX0_asSegment, Cond.selects RX0 yX0_asSegment yX0_asSegment, Cond.initialized RX0, Cond.code yX0_asSegment cX0_asSegment 4 (some (.object "SegmentMerges$Segment")), Cond.classLink RX0 22 RX2, Cond.instantiable RX2 8, Cond.initialized RX2, Cond.fieldLink RX0 18 "SegmentMerges$Memory" "size" "I", Cond.fieldLink RX0 9 "SegmentMerges$Memory" "keys" "[I", Cond.fieldLink RX0 15 "SegmentMerges$Memory" "values" "[I", Cond.methodLink RX0 24 yX2_init, Cond.instanceMethod yX2_init, Cond.code yX2_init cX2_init 4 none, Cond.methodLink RX2 1 objectInit, Cond.instanceMethod objectInit]
def wsX3_flush_r2 : List Cond := [Cond.code objectInit ⟨#[0xb1]⟩ 1 none, Cond.fieldLink RX2 7 "SegmentMerges$Segment" "living" "I", Cond.fieldLink RX2 13 "SegmentMerges$Segment" "number" "I", Cond.fieldLink RX2 16 "SegmentMerges$Segment" "tier" "I", Cond.fieldLink RX2 19 "SegmentMerges$Segment" "size" "I", Cond.arrayClass .int, Cond.fieldLink RX2 22 "SegmentMerges$Segment" "keys" "[I", Cond.fieldLink RX2 26 "SegmentMerges$Segment" "values" "[I", Cond.arrayClass .boolean, Cond.fieldLink RX2 29 "SegmentMerges$Segment" "lives" "[Z", Cond.fieldLink RX2 33 "SegmentMerges$Segment" "wentTo" "[I", Cond.methodLink RX0 27 yX0_rankOf, Cond.instanceMethod yX0_rankOf, Cond.selects RX0 yX0_rankOf yX0_rankOf, Cond.code yX0_rankOf cX0_rankOf 4 (some .int), Cond.methodLink RX0 31 yX2_write, Cond.instanceMethod yX2_write, Cond.selects RX2 yX2_write yX2_write, Cond.code yX2_write cX2_write 5 none]
def wsX3_flush : List Cond := .code yX3_flush cX3_flush 2 (some .int) :: ((wsX3_flush_r1 ++ wsX3_flush_r2) ++ wsX30 ++ wsX00 ++ wsX20)
def wsX3_rowsInSegments : List Cond := .code yX3_rowsInSegments cX3_rowsInSegments 3 (some .int) :: ([.fieldLink RX3 26 "SegmentMerges" "segmentCount" "I", .fieldLink RX3 22 "SegmentMerges" "segments" "[LSegmentMerges$Segment;", .fieldLink RX3 90 "SegmentMerges$Segment" "size" "I"] ++ wsX30 ++ wsX20)
def wsX3_livingFrom : List Cond := .code yX3_livingFrom cX3_livingFrom 5 (some .int) :: ([.fieldLink RX3 22 "SegmentMerges" "segments" "[LSegmentMerges$Segment;", .fieldLink RX3 108 "SegmentMerges$Segment" "living" "I"] ++ wsX30 ++ wsX20)
def wsX3_count : List Cond := .code yX3_count cX3_count 2 (some .int) :: ([.fieldLink RX3 16 "SegmentMerges" "memory" "LSegmentMerges$Memory;", .fieldLink RX3 69 "SegmentMerges$Memory" "size" "I", .fieldLink RX3 26 "SegmentMerges" "segmentCount" "I", .fieldLink RX3 33 "SegmentMerges" "writtenRows" "I", .methodLink RX3 94 yX3_rowsInSegments, .instanceMethod yX3_rowsInSegments, .selects RX3 yX3_rowsInSegments yX3_rowsInSegments, .initialized RX3, .code yX3_rowsInSegments cX3_rowsInSegments 3 (some .int), .fieldLink RX3 22 "SegmentMerges" "segments" "[LSegmentMerges$Segment;", .fieldLink RX3 90 "SegmentMerges$Segment" "size" "I", .methodLink RX3 98 yX3_livingFrom, .instanceMethod yX3_livingFrom, .selects RX3 yX3_livingFrom yX3_livingFrom, .code yX3_livingFrom cX3_livingFrom 5 (some .int), .fieldLink RX3 108 "SegmentMerges$Segment" "living" "I"] ++ wsX30 ++ wsX00 ++ wsX20)
def wsX3_isPlace : List Cond := .code yX3_isPlace cX3_isPlace 2 (some .boolean) :: ([.fieldLink RX3 26 "SegmentMerges" "segmentCount" "I"] ++ wsX30)
def wsX3_segment : List Cond := .code yX3_segment cX3_segment 4 (some .int) :: ([.fieldLink RX3 22 "SegmentMerges" "segments" "[LSegmentMerges$Segment;", .fieldLink RX3 91 "SegmentMerges$Segment" "number" "I", .fieldLink RX3 105 "SegmentMerges$Segment" "tier" "I", .fieldLink RX3 90 "SegmentMerges$Segment" "size" "I", .fieldLink RX3 108 "SegmentMerges$Segment" "living" "I", .fieldLink RX3 39 "SegmentMerges" "current" "LSegmentMerges$Merge;", .methodLink RX3 102 yX3_isPlace, .instanceMethod yX3_isPlace, .selects RX3 yX3_isPlace yX3_isPlace, .initialized RX3, .code yX3_isPlace cX3_isPlace 2 (some .boolean), .fieldLink RX3 26 "SegmentMerges" "segmentCount" "I", .methodLink RX3 111 yX1_isOf, .instanceMethod yX1_isOf, .selects RX1 yX1_isOf yX1_isOf, .initialized RX1, .code yX1_isOf cX1_isOf 2 (some .boolean), .fieldLink RX1 21 "SegmentMerges$Merge" "place" "I", .fieldLink RX1 26 "SegmentMerges$Merge" "sources" "[LSegmentMerges$Segment;"] ++ wsX30 ++ wsX20 ++ wsX10)
def wsX3_row : List Cond := .code yX3_row cX3_row 5 (some .int) :: ([.fieldLink RX3 22 "SegmentMerges" "segments" "[LSegmentMerges$Segment;", .fieldLink RX3 119 "SegmentMerges$Segment" "keys" "[I", .fieldLink RX3 122 "SegmentMerges$Segment" "values" "[I", .fieldLink RX3 123 "SegmentMerges$Segment" "lives" "[Z", .methodLink RX3 102 yX3_isPlace, .instanceMethod yX3_isPlace, .selects RX3 yX3_isPlace yX3_isPlace, .initialized RX3, .code yX3_isPlace cX3_isPlace 2 (some .boolean), .fieldLink RX3 26 "SegmentMerges" "segmentCount" "I", .methodLink RX3 116 yX2_hasRow, .instanceMethod yX2_hasRow, .selects RX2 yX2_hasRow yX2_hasRow, .initialized RX2, .code yX2_hasRow cX2_hasRow 2 (some .boolean), .fieldLink RX2 19 "SegmentMerges$Segment" "size" "I"] ++ wsX30 ++ wsX20)
def wsX3_full : List Cond := .code yX3_full cX3_full 3 (some .int) :: ([.fieldLink RX3 36 "SegmentMerges" "fullSize" "I"] ++ wsX30)
def wsX3_isOfOneTier : List Cond := .code yX3_isOfOneTier cX3_isOfOneTier 4 (some .boolean) :: ([.fieldLink RX3 22 "SegmentMerges" "segments" "[LSegmentMerges$Segment;", .fieldLink RX3 105 "SegmentMerges$Segment" "tier" "I"] ++ wsX30 ++ wsX20)
def wsX3_due : List Cond := .code yX3_due cX3_due 3 (some .int) :: ([.fieldLink RX3 36 "SegmentMerges" "fullSize" "I", .fieldLink RX3 26 "SegmentMerges" "segmentCount" "I", .fieldLink RX3 22 "SegmentMerges" "segments" "[LSegmentMerges$Segment;", .fieldLink RX3 105 "SegmentMerges$Segment" "tier" "I", .methodLink RX3 126 yX3_isOfOneTier, .instanceMethod yX3_isOfOneTier, .selects RX3 yX3_isOfOneTier yX3_isOfOneTier, .initialized RX3, .code yX3_isOfOneTier cX3_isOfOneTier 4 (some .boolean)] ++ wsX30 ++ wsX20)
def wsX3_canBeMerged : List Cond := .code yX3_canBeMerged cX3_canBeMerged 1 (some .boolean) :: ([])
def wsX3_cheapest : List Cond := .code yX3_cheapest cX3_cheapest 6 (some .int) :: ([.fieldLink RX3 26 "SegmentMerges" "segmentCount" "I", .methodLink RX3 130 yX3_canBeMerged, .static yX3_canBeMerged, .initialized RX3, .code yX3_canBeMerged cX3_canBeMerged 1 (some .boolean), .methodLink RX3 98 yX3_livingFrom, .instanceMethod yX3_livingFrom, .selects RX3 yX3_livingFrom yX3_livingFrom, .code yX3_livingFrom cX3_livingFrom 5 (some .int), .fieldLink RX3 22 "SegmentMerges" "segments" "[LSegmentMerges$Segment;", .fieldLink RX3 108 "SegmentMerges$Segment" "living" "I"] ++ wsX30 ++ wsX20)
def wsX3_worst : List Cond := .code yX3_worst cX3_worst 3 (some .int) :: ([.fieldLink RX3 26 "SegmentMerges" "segmentCount" "I", .fieldLink RX3 22 "SegmentMerges" "segments" "[LSegmentMerges$Segment;", .methodLink RX3 133 yX2_isDeaderThan, .instanceMethod yX2_isDeaderThan, .selects RX2 yX2_isDeaderThan yX2_isDeaderThan, .initialized RX2, .code yX2_isDeaderThan cX2_isDeaderThan 2 (some .boolean), .fieldLink RX2 19 "SegmentMerges$Segment" "size" "I", .fieldLink RX2 7 "SegmentMerges$Segment" "living" "I"] ++ wsX30 ++ wsX20)
def wsX3_begin_r1 : List Cond := [Cond.fieldLink RX3 39 "SegmentMerges" "current" "LSegmentMerges$Merge;", Cond.classLink RX3 112 RX1, Cond.instantiable RX1 6, Cond.initialized RX1, Cond.fieldLink RX3 22 "SegmentMerges" "segments" "[LSegmentMerges$Segment;", Cond.fieldLink RX3 140 "SegmentMerges$Merge" "left" "I", Cond.methodLink RX3 102 yX3_isPlace, Cond.instanceMethod yX3_isPlace, Cond.selects RX3 yX3_isPlace yX3_isPlace, Cond.initialized RX3, Cond.code yX3_isPlace cX3_isPlace 2 (some .boolean), Cond.fieldLink RX3 26 "SegmentMerges" "segmentCount" "I", Cond.methodLink RX3 130 yX3_canBeMerged, Cond.static yX3_canBeMerged, Cond.code yX3_canBeMerged cX3_canBeMerged 1 (some .boolean), Cond.methodLink RX3 137 yX1_init, Cond.instanceMethod yX1_init, Cond.code yX1_init cX1_init 5 none, Cond.methodLink RX1 3 objectInit, Cond.instanceMethod objectInit, Cond.code objectInit ⟨#[0xb1]⟩ 1 none, Cond.fieldLink RX1 9 "SegmentMerges$Merge" "taken" "I", Cond.fieldLink RX1 15 "SegmentMerges$Merge" "written" "I", Cond.fieldLink RX1 18 "SegmentMerges$Merge" "left" "I"]
def wsX3_begin_r2 : List Cond := [Cond.fieldLink RX1 21 "SegmentMerges$Merge" "place" "I", Cond.classLink RX1 24 RX2, Cond.fieldLink RX1 26 "SegmentMerges$Merge" "sources" "[LSegmentMerges$Segment;", Cond.arrayClass .int, Cond.fieldLink RX1 30 "SegmentMerges$Merge" "takenOf" "[I", Cond.fieldLink RX1 34 "SegmentMerges$Segment" "size" "I"]
def wsX3_begin : List Cond := .code yX3_begin cX3_begin 3 (some .int) :: ((wsX3_begin_r1 ++ wsX3_begin_r2) ++ wsX30 ++ wsX10 ++ wsX20)
def wsX3_closeGap : List Cond := .code yX3_closeGap cX3_closeGap 4 none :: ([.fieldLink RX3 26 "SegmentMerges" "segmentCount" "I", .fieldLink RX3 22 "SegmentMerges" "segments" "[LSegmentMerges$Segment;"] ++ wsX30)
def wsX3_endMerge_r1 : List Cond := [Cond.fieldLink RX3 153 "SegmentMerges$Merge" "written" "I", Cond.fieldLink RX3 22 "SegmentMerges" "segments" "[LSegmentMerges$Segment;", Cond.fieldLink RX3 156 "SegmentMerges$Merge" "place" "I", Cond.fieldLink RX3 30 "SegmentMerges" "nextNumber" "I", Cond.fieldLink RX3 185 "SegmentMerges$Merge" "sources" "[LSegmentMerges$Segment;", Cond.fieldLink RX3 33 "SegmentMerges" "writtenRows" "I", Cond.fieldLink RX3 43 "SegmentMerges" "ended" "LSegmentMerges$Merge;", Cond.fieldLink RX3 39 "SegmentMerges" "current" "LSegmentMerges$Merge;", Cond.methodLink RX3 184 yX1_asSegment, Cond.instanceMethod yX1_asSegment, Cond.selects RX1 yX1_asSegment yX1_asSegment, Cond.initialized RX1, Cond.code yX1_asSegment cX1_asSegment 6 (some (.object "SegmentMerges$Segment")), Cond.classLink RX1 24 RX2, Cond.instantiable RX2 8, Cond.initialized RX2, Cond.fieldLink RX1 15 "SegmentMerges$Merge" "written" "I", Cond.fieldLink RX1 26 "SegmentMerges$Merge" "sources" "[LSegmentMerges$Segment;", Cond.fieldLink RX1 34 "SegmentMerges$Segment" "size" "I", Cond.fieldLink RX1 48 "SegmentMerges$Segment" "wentTo" "[I", Cond.fieldLink RX1 51 "SegmentMerges$Segment" "keys" "[I", Cond.fieldLink RX1 60 "SegmentMerges$Segment" "values" "[I", Cond.fieldLink RX1 44 "SegmentMerges$Segment" "lives" "[Z", Cond.methodLink RX1 54 yX1_greatestTier]
def wsX3_endMerge_r2 : List Cond := [Cond.instanceMethod yX1_greatestTier, Cond.selects RX1 yX1_greatestTier yX1_greatestTier, Cond.code yX1_greatestTier cX1_greatestTier 3 (some .int), Cond.fieldLink RX1 67 "SegmentMerges$Segment" "tier" "I", Cond.methodLink RX1 70 Lib.Math.max.name, Cond.static Lib.Math.max.name, Cond.initialized "java/lang/Math", Cond.code Lib.Math.max.name Lib.Math.max.code 2 (some .int), Cond.methodLink RX1 57 yX2_init, Cond.instanceMethod yX2_init, Cond.code yX2_init cX2_init 4 none, Cond.methodLink RX2 1 objectInit, Cond.instanceMethod objectInit, Cond.code objectInit ⟨#[0xb1]⟩ 1 none, Cond.fieldLink RX2 7 "SegmentMerges$Segment" "living" "I", Cond.fieldLink RX2 13 "SegmentMerges$Segment" "number" "I", Cond.fieldLink RX2 16 "SegmentMerges$Segment" "tier" "I", Cond.fieldLink RX2 19 "SegmentMerges$Segment" "size" "I", Cond.arrayClass .int, Cond.fieldLink RX2 22 "SegmentMerges$Segment" "keys" "[I", Cond.fieldLink RX2 26 "SegmentMerges$Segment" "values" "[I", Cond.arrayClass .boolean, Cond.fieldLink RX2 29 "SegmentMerges$Segment" "lives" "[Z", Cond.fieldLink RX2 33 "SegmentMerges$Segment" "wentTo" "[I"]
def wsX3_endMerge_r3 : List Cond := [Cond.methodLink RX1 63 yX2_write, Cond.instanceMethod yX2_write, Cond.selects RX2 yX2_write yX2_write, Cond.code yX2_write cX2_write 5 none, Cond.methodLink RX3 188 yX3_closeGap, Cond.instanceMethod yX3_closeGap, Cond.selects RX3 yX3_closeGap yX3_closeGap, Cond.initialized RX3, Cond.code yX3_closeGap cX3_closeGap 4 none, Cond.fieldLink RX3 26 "SegmentMerges" "segmentCount" "I"]
def wsX3_endMerge : List Cond := .code yX3_endMerge cX3_endMerge 3 none :: ((wsX3_endMerge_r1 ++ (wsX3_endMerge_r2 ++ wsX3_endMerge_r3)) ++ wsX10 ++ wsX30 ++ wsX20)
def wsX3_step_r1 : List Cond := [Cond.fieldLink RX3 39 "SegmentMerges" "current" "LSegmentMerges$Merge;", Cond.fieldLink RX3 140 "SegmentMerges$Merge" "left" "I", Cond.methodLink RX3 143 yX1_takeOne, Cond.instanceMethod yX1_takeOne, Cond.selects RX1 yX1_takeOne yX1_takeOne, Cond.initialized RX1, Cond.code yX1_takeOne cX1_takeOne 4 none, Cond.fieldLink RX1 26 "SegmentMerges$Merge" "sources" "[LSegmentMerges$Segment;", Cond.fieldLink RX1 30 "SegmentMerges$Merge" "takenOf" "[I", Cond.fieldLink RX1 44 "SegmentMerges$Segment" "lives" "[Z", Cond.fieldLink RX1 48 "SegmentMerges$Segment" "wentTo" "[I", Cond.fieldLink RX1 15 "SegmentMerges$Merge" "written" "I", Cond.fieldLink RX1 9 "SegmentMerges$Merge" "taken" "I", Cond.fieldLink RX1 18 "SegmentMerges$Merge" "left" "I", Cond.methodLink RX1 40 yX1_sourceOfLeastKey, Cond.instanceMethod yX1_sourceOfLeastKey, Cond.selects RX1 yX1_sourceOfLeastKey yX1_sourceOfLeastKey, Cond.code yX1_sourceOfLeastKey cX1_sourceOfLeastKey 4 (some .int), Cond.fieldLink RX1 34 "SegmentMerges$Segment" "size" "I", Cond.fieldLink RX1 51 "SegmentMerges$Segment" "keys" "[I", Cond.methodLink RX3 146 yX3_endMerge, Cond.instanceMethod yX3_endMerge, Cond.selects RX3 yX3_endMerge yX3_endMerge, Cond.initialized RX3]
def wsX3_step_r2 : List Cond := [Cond.code yX3_endMerge cX3_endMerge 3 none, Cond.fieldLink RX3 153 "SegmentMerges$Merge" "written" "I", Cond.fieldLink RX3 22 "SegmentMerges" "segments" "[LSegmentMerges$Segment;", Cond.fieldLink RX3 156 "SegmentMerges$Merge" "place" "I", Cond.fieldLink RX3 30 "SegmentMerges" "nextNumber" "I", Cond.fieldLink RX3 185 "SegmentMerges$Merge" "sources" "[LSegmentMerges$Segment;", Cond.fieldLink RX3 33 "SegmentMerges" "writtenRows" "I", Cond.fieldLink RX3 43 "SegmentMerges" "ended" "LSegmentMerges$Merge;", Cond.methodLink RX3 184 yX1_asSegment, Cond.instanceMethod yX1_asSegment, Cond.selects RX1 yX1_asSegment yX1_asSegment, Cond.code yX1_asSegment cX1_asSegment 6 (some (.object "SegmentMerges$Segment")), Cond.classLink RX1 24 RX2, Cond.instantiable RX2 8, Cond.initialized RX2, Cond.fieldLink RX1 60 "SegmentMerges$Segment" "values" "[I", Cond.methodLink RX1 54 yX1_greatestTier, Cond.instanceMethod yX1_greatestTier, Cond.selects RX1 yX1_greatestTier yX1_greatestTier, Cond.code yX1_greatestTier cX1_greatestTier 3 (some .int), Cond.fieldLink RX1 67 "SegmentMerges$Segment" "tier" "I", Cond.methodLink RX1 70 Lib.Math.max.name, Cond.static Lib.Math.max.name, Cond.initialized "java/lang/Math"]
def wsX3_step_r3 : List Cond := [Cond.code Lib.Math.max.name Lib.Math.max.code 2 (some .int), Cond.methodLink RX1 57 yX2_init, Cond.instanceMethod yX2_init, Cond.code yX2_init cX2_init 4 none, Cond.methodLink RX2 1 objectInit, Cond.instanceMethod objectInit, Cond.code objectInit ⟨#[0xb1]⟩ 1 none, Cond.fieldLink RX2 7 "SegmentMerges$Segment" "living" "I", Cond.fieldLink RX2 13 "SegmentMerges$Segment" "number" "I", Cond.fieldLink RX2 16 "SegmentMerges$Segment" "tier" "I", Cond.fieldLink RX2 19 "SegmentMerges$Segment" "size" "I", Cond.arrayClass .int, Cond.fieldLink RX2 22 "SegmentMerges$Segment" "keys" "[I", Cond.fieldLink RX2 26 "SegmentMerges$Segment" "values" "[I", Cond.arrayClass .boolean, Cond.fieldLink RX2 29 "SegmentMerges$Segment" "lives" "[Z", Cond.fieldLink RX2 33 "SegmentMerges$Segment" "wentTo" "[I", Cond.methodLink RX1 63 yX2_write, Cond.instanceMethod yX2_write, Cond.selects RX2 yX2_write yX2_write, Cond.code yX2_write cX2_write 5 none, Cond.methodLink RX3 188 yX3_closeGap, Cond.instanceMethod yX3_closeGap, Cond.selects RX3 yX3_closeGap yX3_closeGap]
def wsX3_step_r4 : List Cond := [Cond.code yX3_closeGap cX3_closeGap 4 none, Cond.fieldLink RX3 26 "SegmentMerges" "segmentCount" "I"]
def wsX3_step : List Cond := .code yX3_step cX3_step 3 (some .int) :: ((wsX3_step_r1 ++ (wsX3_step_r2 ++ (wsX3_step_r3 ++ wsX3_step_r4))) ++ wsX30 ++ wsX10 ++ wsX20)
def wsX3_stop : List Cond := .code yX3_stop cX3_stop 2 (some .int) :: ([.fieldLink RX3 39 "SegmentMerges" "current" "LSegmentMerges$Merge;", .fieldLink RX3 150 "SegmentMerges$Merge" "taken" "I", .fieldLink RX3 33 "SegmentMerges" "writtenRows" "I", .fieldLink RX3 153 "SegmentMerges$Merge" "written" "I"] ++ wsX30 ++ wsX10)
def wsX3_merging : List Cond := .code yX3_merging cX3_merging 2 (some .int) :: ([.fieldLink RX3 39 "SegmentMerges" "current" "LSegmentMerges$Merge;", .fieldLink RX3 150 "SegmentMerges$Merge" "taken" "I", .fieldLink RX3 153 "SegmentMerges$Merge" "written" "I", .fieldLink RX3 140 "SegmentMerges$Merge" "left" "I", .fieldLink RX3 156 "SegmentMerges$Merge" "place" "I"] ++ wsX30 ++ wsX10)
def wsX3_moved : List Cond := .code yX3_moved cX3_moved 4 (some .int) :: ([.fieldLink RX3 43 "SegmentMerges" "ended" "LSegmentMerges$Merge;", .fieldLink RX3 162 "SegmentMerges$Segment" "wentTo" "[I", .methodLink RX3 159 yX1_sourceOf, .instanceMethod yX1_sourceOf, .selects RX1 yX1_sourceOf yX1_sourceOf, .initialized RX1, .code yX1_sourceOf cX1_sourceOf 3 (some (.object "SegmentMerges$Segment")), .fieldLink RX1 26 "SegmentMerges$Merge" "sources" "[LSegmentMerges$Segment;", .fieldLink RX1 37 "SegmentMerges$Segment" "number" "I", .methodLink RX3 116 yX2_hasRow, .instanceMethod yX2_hasRow, .selects RX2 yX2_hasRow yX2_hasRow, .initialized RX2, .code yX2_hasRow cX2_hasRow 2 (some .boolean), .fieldLink RX2 19 "SegmentMerges$Segment" "size" "I"] ++ wsX30 ++ wsX20 ++ wsX10)
def wsX3_view : List Cond := .code yX3_view cX3_view 2 (some .int) :: ([.fieldLink RX3 51 "SegmentMerges" "viewOpen" "[Z", .fieldLink RX3 9 "SegmentMerges" "valueOf" "[I", .fieldLink RX3 48 "SegmentMerges" "viewed" "[[I", .methodLink RX3 165 arraycopyName, .native arraycopyName, .static arraycopyName, .initialized "java/lang/System"] ++ wsX30)
def wsX3_isOpenView : List Cond := .code yX3_isOpenView cX3_isOpenView 2 (some .boolean) :: ([.fieldLink RX3 51 "SegmentMerges" "viewOpen" "[Z"] ++ wsX30)
def wsX3_seen : List Cond := .code yX3_seen cX3_seen 4 (some .int) :: ([.fieldLink RX3 48 "SegmentMerges" "viewed" "[[I", .methodLink RX3 171 yX3_isOpenView, .instanceMethod yX3_isOpenView, .selects RX3 yX3_isOpenView yX3_isOpenView, .initialized RX3, .code yX3_isOpenView cX3_isOpenView 2 (some .boolean), .fieldLink RX3 51 "SegmentMerges" "viewOpen" "[Z", .methodLink RX3 61 yX3_isKey, .static yX3_isKey, .code yX3_isKey cX3_isKey 1 (some .boolean)] ++ wsX30)
def wsX3_shut : List Cond := .code yX3_shut cX3_shut 4 (some .int) :: ([.fieldLink RX3 48 "SegmentMerges" "viewed" "[[I", .fieldLink RX3 9 "SegmentMerges" "valueOf" "[I", .fieldLink RX3 51 "SegmentMerges" "viewOpen" "[Z", .methodLink RX3 171 yX3_isOpenView, .instanceMethod yX3_isOpenView, .selects RX3 yX3_isOpenView yX3_isOpenView, .initialized RX3, .code yX3_isOpenView cX3_isOpenView 2 (some .boolean)] ++ wsX30)
def wsX3_share : List Cond := .code yX3_share cX3_share 2 (some .int) :: ([.classLink RX3 174 "java/lang/ArithmeticException", .initialized "java/lang/ArithmeticException", .fieldLink RX3 26 "SegmentMerges" "segmentCount" "I", .methodLink RX3 94 yX3_rowsInSegments, .instanceMethod yX3_rowsInSegments, .selects RX3 yX3_rowsInSegments yX3_rowsInSegments, .initialized RX3, .code yX3_rowsInSegments cX3_rowsInSegments 3 (some .int), .fieldLink RX3 22 "SegmentMerges" "segments" "[LSegmentMerges$Segment;", .fieldLink RX3 90 "SegmentMerges$Segment" "size" "I", .methodLink RX3 98 yX3_livingFrom, .instanceMethod yX3_livingFrom, .selects RX3 yX3_livingFrom yX3_livingFrom, .code yX3_livingFrom cX3_livingFrom 5 (some .int), .fieldLink RX3 108 "SegmentMerges$Segment" "living" "I"] ++ wsX30 ++ wsX20 ++ (vx_atS RX3 178 "java/lang/ArithmeticException" ["java/lang/RuntimeException", "java/lang/Exception"]).filter goodWord)
def wsX4_init_r1 : List Cond := [Cond.methodLink RX4 1 objectInit, Cond.instanceMethod objectInit, Cond.code objectInit ⟨#[0xb1]⟩ 1 none, Cond.arrayClass .int, Cond.fieldLink RX4 7 "SegmentMergesModel" "value" "[I", Cond.fieldLink RX4 13 "SegmentMergesModel" "turn" "[I", Cond.fieldLink RX4 16 "SegmentMergesModel" "inSlot" "[I", Cond.fieldLink RX4 19 "SegmentMergesModel" "inRow" "[I", Cond.fieldLink RX4 22 "SegmentMergesModel" "memory" "[I", Cond.fieldLink RX4 25 "SegmentMergesModel" "order" "[I", Cond.arrayClass .boolean, Cond.fieldLink RX4 28 "SegmentMergesModel" "isUsed" "[Z", Cond.fieldLink RX4 32 "SegmentMergesModel" "number" "[I", Cond.fieldLink RX4 35 "SegmentMergesModel" "tier" "[I", Cond.fieldLink RX4 38 "SegmentMergesModel" "rows" "[I", Cond.fieldLink RX4 41 "SegmentMergesModel" "rowKey" "[I", Cond.fieldLink RX4 44 "SegmentMergesModel" "rowValue" "[I", Cond.fieldLink RX4 47 "SegmentMergesModel" "lives" "[Z", Cond.fieldLink RX4 50 "SegmentMergesModel" "full" "I", Cond.fieldLink RX4 54 "SegmentMergesModel" "at" "[I", Cond.fieldLink RX4 57 "SegmentMergesModel" "newKey" "[I", Cond.fieldLink RX4 60 "SegmentMergesModel" "newValue" "[I", Cond.fieldLink RX4 63 "SegmentMergesModel" "newTurn" "[I", Cond.fieldLink RX4 66 "SegmentMergesModel" "goes" "[I"]
def wsX4_init_r2 : List Cond := [Cond.fieldLink RX4 69 "SegmentMergesModel" "movedNumber" "[I", Cond.fieldLink RX4 72 "SegmentMergesModel" "movedRows" "[I", Cond.fieldLink RX4 75 "SegmentMergesModel" "movedTo" "[I", Cond.fieldLink RX4 78 "SegmentMergesModel" "isView" "[Z", Cond.fieldLink RX4 81 "SegmentMergesModel" "viewed" "[I"]
def wsX4_init : List Cond := .code yX4_init cX4_init 2 none :: ((wsX4_init_r1 ++ wsX4_init_r2) ++ wsX40)
def wsX4_thrown : List Cond := .code yX4_thrown cX4_thrown 1 (some .int) :: ([.fieldLink RX4 84 "SegmentMergesModel" "thrown" "I"] ++ wsX40)
def wsX4_in : List Cond := .code yX4_in cX4_in 3 (some .boolean) :: ([])
def wsX4_memoryAt : List Cond := .code yX4_memoryAt cX4_memoryAt 4 (some .int) :: ([.fieldLink RX4 87 "SegmentMergesModel" "remembered" "I", .fieldLink RX4 22 "SegmentMergesModel" "memory" "[I"] ++ wsX40)
def wsX4_die : List Cond := .code yX4_die cX4_die 2 none :: ([.fieldLink RX4 16 "SegmentMergesModel" "inSlot" "[I", .fieldLink RX4 47 "SegmentMergesModel" "lives" "[Z", .fieldLink RX4 19 "SegmentMergesModel" "inRow" "[I"] ++ wsX40)
def wsX4_put : List Cond := .code yX4_put cX4_put 3 (some .int) :: ([.fieldLink RX4 84 "SegmentMergesModel" "thrown" "I", .fieldLink RX4 87 "SegmentMergesModel" "remembered" "I", .fieldLink RX4 22 "SegmentMergesModel" "memory" "[I", .fieldLink RX4 7 "SegmentMergesModel" "value" "[I", .fieldLink RX4 13 "SegmentMergesModel" "turn" "[I", .methodLink RX4 90 yX4_in, .static yX4_in, .initialized RX4, .code yX4_in cX4_in 3 (some .boolean), .methodLink RX4 94 yX4_memoryAt, .instanceMethod yX4_memoryAt, .selects RX4 yX4_memoryAt yX4_memoryAt, .code yX4_memoryAt cX4_memoryAt 4 (some .int), .methodLink RX4 98 yX4_die, .instanceMethod yX4_die, .selects RX4 yX4_die yX4_die, .code yX4_die cX4_die 2 none, .fieldLink RX4 16 "SegmentMergesModel" "inSlot" "[I", .fieldLink RX4 47 "SegmentMergesModel" "lives" "[Z", .fieldLink RX4 19 "SegmentMergesModel" "inRow" "[I"] ++ wsX40)
def wsX4_drop : List Cond := .code yX4_drop cX4_drop 4 (some .int) :: ([.fieldLink RX4 84 "SegmentMergesModel" "thrown" "I", .fieldLink RX4 7 "SegmentMergesModel" "value" "[I", .fieldLink RX4 87 "SegmentMergesModel" "remembered" "I", .fieldLink RX4 22 "SegmentMergesModel" "memory" "[I", .fieldLink RX4 13 "SegmentMergesModel" "turn" "[I", .methodLink RX4 90 yX4_in, .static yX4_in, .initialized RX4, .code yX4_in cX4_in 3 (some .boolean), .methodLink RX4 94 yX4_memoryAt, .instanceMethod yX4_memoryAt, .selects RX4 yX4_memoryAt yX4_memoryAt, .code yX4_memoryAt cX4_memoryAt 4 (some .int), .methodLink RX4 98 yX4_die, .instanceMethod yX4_die, .selects RX4 yX4_die yX4_die, .code yX4_die cX4_die 2 none, .fieldLink RX4 16 "SegmentMergesModel" "inSlot" "[I", .fieldLink RX4 47 "SegmentMergesModel" "lives" "[Z", .fieldLink RX4 19 "SegmentMergesModel" "inRow" "[I"] ++ wsX40)
def wsX4_get : List Cond := .code yX4_get cX4_get 2 (some .int) :: ([.fieldLink RX4 84 "SegmentMergesModel" "thrown" "I", .fieldLink RX4 7 "SegmentMergesModel" "value" "[I", .methodLink RX4 90 yX4_in, .static yX4_in, .initialized RX4, .code yX4_in cX4_in 3 (some .boolean)] ++ wsX40)
def wsX4_next : List Cond := .code yX4_next cX4_next 3 (some .int) :: ([.fieldLink RX4 84 "SegmentMergesModel" "thrown" "I", .fieldLink RX4 7 "SegmentMergesModel" "value" "[I", .methodLink RX4 90 yX4_in, .static yX4_in, .initialized RX4, .code yX4_in cX4_in 3 (some .boolean)] ++ wsX40)
def wsX4_freeSlot : List Cond := .code yX4_freeSlot cX4_freeSlot 2 (some .int) :: ([.fieldLink RX4 28 "SegmentMergesModel" "isUsed" "[Z", .fieldLink RX4 38 "SegmentMergesModel" "rows" "[I"] ++ wsX40)
def wsX4_lay : List Cond := .code yX4_lay cX4_lay 6 none :: ([.fieldLink RX4 38 "SegmentMergesModel" "rows" "[I", .fieldLink RX4 41 "SegmentMergesModel" "rowKey" "[I", .fieldLink RX4 44 "SegmentMergesModel" "rowValue" "[I", .fieldLink RX4 47 "SegmentMergesModel" "lives" "[Z", .fieldLink RX4 16 "SegmentMergesModel" "inSlot" "[I", .fieldLink RX4 19 "SegmentMergesModel" "inRow" "[I"] ++ wsX40)
def wsX4_flush_r1 : List Cond := [Cond.fieldLink RX4 84 "SegmentMergesModel" "thrown" "I", Cond.fieldLink RX4 87 "SegmentMergesModel" "remembered" "I", Cond.fieldLink RX4 102 "SegmentMergesModel" "segments" "I", Cond.fieldLink RX4 35 "SegmentMergesModel" "tier" "[I", Cond.fieldLink RX4 32 "SegmentMergesModel" "number" "[I", Cond.fieldLink RX4 109 "SegmentMergesModel" "numbers" "I", Cond.fieldLink RX4 7 "SegmentMergesModel" "value" "[I", Cond.fieldLink RX4 116 "SegmentMergesModel" "written" "I", Cond.fieldLink RX4 25 "SegmentMergesModel" "order" "[I", Cond.methodLink RX4 105 yX4_freeSlot, Cond.instanceMethod yX4_freeSlot, Cond.selects RX4 yX4_freeSlot yX4_freeSlot, Cond.initialized RX4, Cond.code yX4_freeSlot cX4_freeSlot 2 (some .int), Cond.fieldLink RX4 28 "SegmentMergesModel" "isUsed" "[Z", Cond.fieldLink RX4 38 "SegmentMergesModel" "rows" "[I", Cond.methodLink RX4 94 yX4_memoryAt, Cond.instanceMethod yX4_memoryAt, Cond.selects RX4 yX4_memoryAt yX4_memoryAt, Cond.code yX4_memoryAt cX4_memoryAt 4 (some .int), Cond.fieldLink RX4 22 "SegmentMergesModel" "memory" "[I", Cond.methodLink RX4 112 yX4_lay, Cond.instanceMethod yX4_lay, Cond.selects RX4 yX4_lay yX4_lay]
def wsX4_flush_r2 : List Cond := [Cond.code yX4_lay cX4_lay 6 none, Cond.fieldLink RX4 41 "SegmentMergesModel" "rowKey" "[I", Cond.fieldLink RX4 44 "SegmentMergesModel" "rowValue" "[I", Cond.fieldLink RX4 47 "SegmentMergesModel" "lives" "[Z", Cond.fieldLink RX4 16 "SegmentMergesModel" "inSlot" "[I", Cond.fieldLink RX4 19 "SegmentMergesModel" "inRow" "[I"]
def wsX4_flush : List Cond := .code yX4_flush cX4_flush 3 (some .int) :: ((wsX4_flush_r1 ++ wsX4_flush_r2) ++ wsX40)
def wsX4_livingOf : List Cond := .code yX4_livingOf cX4_livingOf 4 (some .int) :: ([.fieldLink RX4 38 "SegmentMergesModel" "rows" "[I", .fieldLink RX4 47 "SegmentMergesModel" "lives" "[Z"] ++ wsX40)
def wsX4_all : List Cond := .code yX4_all cX4_all 4 (some .int) :: ([.fieldLink RX4 102 "SegmentMergesModel" "segments" "I", .fieldLink RX4 25 "SegmentMergesModel" "order" "[I", .fieldLink RX4 38 "SegmentMergesModel" "rows" "[I", .methodLink RX4 119 yX4_livingOf, .instanceMethod yX4_livingOf, .selects RX4 yX4_livingOf yX4_livingOf, .initialized RX4, .code yX4_livingOf cX4_livingOf 4 (some .int), .fieldLink RX4 47 "SegmentMergesModel" "lives" "[Z"] ++ wsX40)
def wsX4_count : List Cond := .code yX4_count cX4_count 4 (some .int) :: ([.fieldLink RX4 84 "SegmentMergesModel" "thrown" "I", .fieldLink RX4 7 "SegmentMergesModel" "value" "[I", .fieldLink RX4 87 "SegmentMergesModel" "remembered" "I", .fieldLink RX4 102 "SegmentMergesModel" "segments" "I", .fieldLink RX4 116 "SegmentMergesModel" "written" "I", .methodLink RX4 122 yX4_all, .instanceMethod yX4_all, .selects RX4 yX4_all yX4_all, .initialized RX4, .code yX4_all cX4_all 4 (some .int), .fieldLink RX4 25 "SegmentMergesModel" "order" "[I", .fieldLink RX4 38 "SegmentMergesModel" "rows" "[I", .methodLink RX4 119 yX4_livingOf, .instanceMethod yX4_livingOf, .selects RX4 yX4_livingOf yX4_livingOf, .code yX4_livingOf cX4_livingOf 4 (some .int), .fieldLink RX4 47 "SegmentMergesModel" "lives" "[Z"] ++ wsX40)
def wsX4_isPlace : List Cond := .code yX4_isPlace cX4_isPlace 2 (some .boolean) :: ([.fieldLink RX4 102 "SegmentMergesModel" "segments" "I", .methodLink RX4 90 yX4_in, .static yX4_in, .initialized RX4, .code yX4_in cX4_in 3 (some .boolean)] ++ wsX40)
def wsX4_segment : List Cond := .code yX4_segment cX4_segment 4 (some .int) :: ([.fieldLink RX4 84 "SegmentMergesModel" "thrown" "I", .fieldLink RX4 25 "SegmentMergesModel" "order" "[I", .fieldLink RX4 32 "SegmentMergesModel" "number" "[I", .fieldLink RX4 35 "SegmentMergesModel" "tier" "[I", .fieldLink RX4 38 "SegmentMergesModel" "rows" "[I", .fieldLink RX4 130 "SegmentMergesModel" "merged" "I", .fieldLink RX4 133 "SegmentMergesModel" "mergePlace" "I", .methodLink RX4 126 yX4_isPlace, .instanceMethod yX4_isPlace, .selects RX4 yX4_isPlace yX4_isPlace, .initialized RX4, .code yX4_isPlace cX4_isPlace 2 (some .boolean), .fieldLink RX4 102 "SegmentMergesModel" "segments" "I", .methodLink RX4 90 yX4_in, .static yX4_in, .code yX4_in cX4_in 3 (some .boolean), .methodLink RX4 119 yX4_livingOf, .instanceMethod yX4_livingOf, .selects RX4 yX4_livingOf yX4_livingOf, .code yX4_livingOf cX4_livingOf 4 (some .int), .fieldLink RX4 47 "SegmentMergesModel" "lives" "[Z"] ++ wsX40)
def wsX4_row : List Cond := .code yX4_row cX4_row 5 (some .int) :: ([.fieldLink RX4 84 "SegmentMergesModel" "thrown" "I", .fieldLink RX4 38 "SegmentMergesModel" "rows" "[I", .fieldLink RX4 25 "SegmentMergesModel" "order" "[I", .fieldLink RX4 41 "SegmentMergesModel" "rowKey" "[I", .fieldLink RX4 44 "SegmentMergesModel" "rowValue" "[I", .fieldLink RX4 47 "SegmentMergesModel" "lives" "[Z", .methodLink RX4 126 yX4_isPlace, .instanceMethod yX4_isPlace, .selects RX4 yX4_isPlace yX4_isPlace, .initialized RX4, .code yX4_isPlace cX4_isPlace 2 (some .boolean), .fieldLink RX4 102 "SegmentMergesModel" "segments" "I", .methodLink RX4 90 yX4_in, .static yX4_in, .code yX4_in cX4_in 3 (some .boolean)] ++ wsX40)
def wsX4_full : List Cond := .code yX4_full cX4_full 3 (some .int) :: ([.fieldLink RX4 84 "SegmentMergesModel" "thrown" "I", .fieldLink RX4 50 "SegmentMergesModel" "full" "I", .methodLink RX4 90 yX4_in, .static yX4_in, .initialized RX4, .code yX4_in cX4_in 3 (some .boolean)] ++ wsX40)
def wsX4_due : List Cond := .code yX4_due cX4_due 5 (some .int) :: ([.fieldLink RX4 84 "SegmentMergesModel" "thrown" "I", .fieldLink RX4 50 "SegmentMergesModel" "full" "I", .fieldLink RX4 102 "SegmentMergesModel" "segments" "I", .fieldLink RX4 35 "SegmentMergesModel" "tier" "[I", .fieldLink RX4 25 "SegmentMergesModel" "order" "[I"] ++ wsX40)
def wsX4_cheapest : List Cond := .code yX4_cheapest cX4_cheapest 7 (some .int) :: ([.fieldLink RX4 84 "SegmentMergesModel" "thrown" "I", .fieldLink RX4 102 "SegmentMergesModel" "segments" "I", .fieldLink RX4 25 "SegmentMergesModel" "order" "[I", .methodLink RX4 90 yX4_in, .static yX4_in, .initialized RX4, .code yX4_in cX4_in 3 (some .boolean), .methodLink RX4 119 yX4_livingOf, .instanceMethod yX4_livingOf, .selects RX4 yX4_livingOf yX4_livingOf, .code yX4_livingOf cX4_livingOf 4 (some .int), .fieldLink RX4 38 "SegmentMergesModel" "rows" "[I", .fieldLink RX4 47 "SegmentMergesModel" "lives" "[Z"] ++ wsX40)
def wsX4_worst : List Cond := .code yX4_worst cX4_worst 7 (some .int) :: ([.fieldLink RX4 84 "SegmentMergesModel" "thrown" "I", .fieldLink RX4 102 "SegmentMergesModel" "segments" "I", .fieldLink RX4 25 "SegmentMergesModel" "order" "[I", .fieldLink RX4 38 "SegmentMergesModel" "rows" "[I", .methodLink RX4 119 yX4_livingOf, .instanceMethod yX4_livingOf, .selects RX4 yX4_livingOf yX4_livingOf, .initialized RX4, .code yX4_livingOf cX4_livingOf 4 (some .int), .fieldLink RX4 47 "SegmentMergesModel" "lives" "[Z"] ++ wsX40)
def wsX4_slotOf : List Cond := .code yX4_slotOf cX4_slotOf 2 (some .int) :: ([.fieldLink RX4 25 "SegmentMergesModel" "order" "[I", .fieldLink RX4 133 "SegmentMergesModel" "mergePlace" "I"] ++ wsX40)
def wsX4_left : List Cond := .code yX4_left cX4_left 3 (some .int) :: ([.fieldLink RX4 130 "SegmentMergesModel" "merged" "I", .fieldLink RX4 38 "SegmentMergesModel" "rows" "[I", .fieldLink RX4 54 "SegmentMergesModel" "at" "[I", .methodLink RX4 145 yX4_slotOf, .instanceMethod yX4_slotOf, .selects RX4 yX4_slotOf yX4_slotOf, .initialized RX4, .code yX4_slotOf cX4_slotOf 2 (some .int), .fieldLink RX4 25 "SegmentMergesModel" "order" "[I", .fieldLink RX4 133 "SegmentMergesModel" "mergePlace" "I"] ++ wsX40)
def wsX4_begin_r1 : List Cond := [Cond.fieldLink RX4 84 "SegmentMergesModel" "thrown" "I", Cond.fieldLink RX4 102 "SegmentMergesModel" "segments" "I", Cond.fieldLink RX4 130 "SegmentMergesModel" "merged" "I", Cond.fieldLink RX4 133 "SegmentMergesModel" "mergePlace" "I", Cond.fieldLink RX4 136 "SegmentMergesModel" "taken" "I", Cond.fieldLink RX4 139 "SegmentMergesModel" "wrote" "I", Cond.fieldLink RX4 54 "SegmentMergesModel" "at" "[I", Cond.methodLink RX4 126 yX4_isPlace, Cond.instanceMethod yX4_isPlace, Cond.selects RX4 yX4_isPlace yX4_isPlace, Cond.initialized RX4, Cond.code yX4_isPlace cX4_isPlace 2 (some .boolean), Cond.methodLink RX4 90 yX4_in, Cond.static yX4_in, Cond.code yX4_in cX4_in 3 (some .boolean), Cond.methodLink RX4 142 yX4_left, Cond.instanceMethod yX4_left, Cond.selects RX4 yX4_left yX4_left, Cond.code yX4_left cX4_left 3 (some .int), Cond.fieldLink RX4 38 "SegmentMergesModel" "rows" "[I", Cond.methodLink RX4 145 yX4_slotOf, Cond.instanceMethod yX4_slotOf, Cond.selects RX4 yX4_slotOf yX4_slotOf, Cond.code yX4_slotOf cX4_slotOf 2 (some .int)]
def wsX4_begin_r2 : List Cond := [Cond.fieldLink RX4 25 "SegmentMergesModel" "order" "[I"]
def wsX4_begin : List Cond := .code yX4_begin cX4_begin 4 (some .int) :: ((wsX4_begin_r1 ++ wsX4_begin_r2) ++ wsX40)
def wsX4_keyAt : List Cond := .code yX4_keyAt cX4_keyAt 2 (some .int) :: ([.fieldLink RX4 41 "SegmentMergesModel" "rowKey" "[I", .fieldLink RX4 54 "SegmentMergesModel" "at" "[I", .methodLink RX4 145 yX4_slotOf, .instanceMethod yX4_slotOf, .selects RX4 yX4_slotOf yX4_slotOf, .initialized RX4, .code yX4_slotOf cX4_slotOf 2 (some .int), .fieldLink RX4 25 "SegmentMergesModel" "order" "[I", .fieldLink RX4 133 "SegmentMergesModel" "mergePlace" "I"] ++ wsX40)
def wsX4_takeOne : List Cond := .code yX4_takeOne cX4_takeOne 3 none :: ([.fieldLink RX4 130 "SegmentMergesModel" "merged" "I", .fieldLink RX4 54 "SegmentMergesModel" "at" "[I", .fieldLink RX4 38 "SegmentMergesModel" "rows" "[I", .fieldLink RX4 66 "SegmentMergesModel" "goes" "[I", .fieldLink RX4 47 "SegmentMergesModel" "lives" "[Z", .fieldLink RX4 139 "SegmentMergesModel" "wrote" "I", .fieldLink RX4 57 "SegmentMergesModel" "newKey" "[I", .fieldLink RX4 41 "SegmentMergesModel" "rowKey" "[I", .fieldLink RX4 60 "SegmentMergesModel" "newValue" "[I", .fieldLink RX4 44 "SegmentMergesModel" "rowValue" "[I", .fieldLink RX4 63 "SegmentMergesModel" "newTurn" "[I", .fieldLink RX4 13 "SegmentMergesModel" "turn" "[I", .fieldLink RX4 136 "SegmentMergesModel" "taken" "I", .methodLink RX4 145 yX4_slotOf, .instanceMethod yX4_slotOf, .selects RX4 yX4_slotOf yX4_slotOf, .initialized RX4, .code yX4_slotOf cX4_slotOf 2 (some .int), .fieldLink RX4 25 "SegmentMergesModel" "order" "[I", .fieldLink RX4 133 "SegmentMergesModel" "mergePlace" "I", .methodLink RX4 148 yX4_keyAt, .instanceMethod yX4_keyAt, .selects RX4 yX4_keyAt yX4_keyAt, .code yX4_keyAt cX4_keyAt 2 (some .int)] ++ wsX40)
def wsX4_end_r1 : List Cond := [Cond.fieldLink RX4 130 "SegmentMergesModel" "merged" "I", Cond.fieldLink RX4 157 "SegmentMergesModel" "movedMany" "I", Cond.fieldLink RX4 116 "SegmentMergesModel" "written" "I", Cond.fieldLink RX4 139 "SegmentMergesModel" "wrote" "I", Cond.fieldLink RX4 69 "SegmentMergesModel" "movedNumber" "[I", Cond.fieldLink RX4 32 "SegmentMergesModel" "number" "[I", Cond.fieldLink RX4 72 "SegmentMergesModel" "movedRows" "[I", Cond.fieldLink RX4 38 "SegmentMergesModel" "rows" "[I", Cond.fieldLink RX4 75 "SegmentMergesModel" "movedTo" "[I", Cond.fieldLink RX4 66 "SegmentMergesModel" "goes" "[I", Cond.fieldLink RX4 35 "SegmentMergesModel" "tier" "[I", Cond.fieldLink RX4 28 "SegmentMergesModel" "isUsed" "[Z", Cond.fieldLink RX4 133 "SegmentMergesModel" "mergePlace" "I", Cond.fieldLink RX4 25 "SegmentMergesModel" "order" "[I", Cond.fieldLink RX4 102 "SegmentMergesModel" "segments" "I", Cond.fieldLink RX4 109 "SegmentMergesModel" "numbers" "I", Cond.fieldLink RX4 57 "SegmentMergesModel" "newKey" "[I", Cond.fieldLink RX4 60 "SegmentMergesModel" "newValue" "[I", Cond.fieldLink RX4 13 "SegmentMergesModel" "turn" "[I", Cond.fieldLink RX4 63 "SegmentMergesModel" "newTurn" "[I", Cond.methodLink RX4 145 yX4_slotOf, Cond.instanceMethod yX4_slotOf, Cond.selects RX4 yX4_slotOf yX4_slotOf, Cond.initialized RX4]
def wsX4_end_r2 : List Cond := [Cond.code yX4_slotOf cX4_slotOf 2 (some .int), Cond.methodLink RX4 105 yX4_freeSlot, Cond.instanceMethod yX4_freeSlot, Cond.selects RX4 yX4_freeSlot yX4_freeSlot, Cond.code yX4_freeSlot cX4_freeSlot 2 (some .int), Cond.methodLink RX4 112 yX4_lay, Cond.instanceMethod yX4_lay, Cond.selects RX4 yX4_lay yX4_lay, Cond.code yX4_lay cX4_lay 6 none, Cond.fieldLink RX4 41 "SegmentMergesModel" "rowKey" "[I", Cond.fieldLink RX4 44 "SegmentMergesModel" "rowValue" "[I", Cond.fieldLink RX4 47 "SegmentMergesModel" "lives" "[Z", Cond.fieldLink RX4 16 "SegmentMergesModel" "inSlot" "[I", Cond.fieldLink RX4 19 "SegmentMergesModel" "inRow" "[I"]
def wsX4_end : List Cond := .code yX4_end cX4_end 7 none :: ((wsX4_end_r1 ++ wsX4_end_r2) ++ wsX40)
def wsX4_step_r1 : List Cond := [Cond.fieldLink RX4 84 "SegmentMergesModel" "thrown" "I", Cond.fieldLink RX4 130 "SegmentMergesModel" "merged" "I", Cond.methodLink RX4 90 yX4_in, Cond.static yX4_in, Cond.initialized RX4, Cond.code yX4_in cX4_in 3 (some .boolean), Cond.methodLink RX4 142 yX4_left, Cond.instanceMethod yX4_left, Cond.selects RX4 yX4_left yX4_left, Cond.code yX4_left cX4_left 3 (some .int), Cond.fieldLink RX4 38 "SegmentMergesModel" "rows" "[I", Cond.fieldLink RX4 54 "SegmentMergesModel" "at" "[I", Cond.methodLink RX4 145 yX4_slotOf, Cond.instanceMethod yX4_slotOf, Cond.selects RX4 yX4_slotOf yX4_slotOf, Cond.code yX4_slotOf cX4_slotOf 2 (some .int), Cond.fieldLink RX4 25 "SegmentMergesModel" "order" "[I", Cond.fieldLink RX4 133 "SegmentMergesModel" "mergePlace" "I", Cond.methodLink RX4 151 yX4_takeOne, Cond.instanceMethod yX4_takeOne, Cond.selects RX4 yX4_takeOne yX4_takeOne, Cond.code yX4_takeOne cX4_takeOne 3 none, Cond.fieldLink RX4 66 "SegmentMergesModel" "goes" "[I", Cond.fieldLink RX4 47 "SegmentMergesModel" "lives" "[Z"]
def wsX4_step_r2 : List Cond := [Cond.fieldLink RX4 139 "SegmentMergesModel" "wrote" "I", Cond.fieldLink RX4 57 "SegmentMergesModel" "newKey" "[I", Cond.fieldLink RX4 41 "SegmentMergesModel" "rowKey" "[I", Cond.fieldLink RX4 60 "SegmentMergesModel" "newValue" "[I", Cond.fieldLink RX4 44 "SegmentMergesModel" "rowValue" "[I", Cond.fieldLink RX4 63 "SegmentMergesModel" "newTurn" "[I", Cond.fieldLink RX4 13 "SegmentMergesModel" "turn" "[I", Cond.fieldLink RX4 136 "SegmentMergesModel" "taken" "I", Cond.methodLink RX4 148 yX4_keyAt, Cond.instanceMethod yX4_keyAt, Cond.selects RX4 yX4_keyAt yX4_keyAt, Cond.code yX4_keyAt cX4_keyAt 2 (some .int), Cond.methodLink RX4 154 yX4_end, Cond.instanceMethod yX4_end, Cond.selects RX4 yX4_end yX4_end, Cond.code yX4_end cX4_end 7 none, Cond.fieldLink RX4 157 "SegmentMergesModel" "movedMany" "I", Cond.fieldLink RX4 116 "SegmentMergesModel" "written" "I", Cond.fieldLink RX4 69 "SegmentMergesModel" "movedNumber" "[I", Cond.fieldLink RX4 32 "SegmentMergesModel" "number" "[I", Cond.fieldLink RX4 72 "SegmentMergesModel" "movedRows" "[I", Cond.fieldLink RX4 75 "SegmentMergesModel" "movedTo" "[I", Cond.fieldLink RX4 35 "SegmentMergesModel" "tier" "[I", Cond.fieldLink RX4 28 "SegmentMergesModel" "isUsed" "[Z"]
def wsX4_step_r3 : List Cond := [Cond.fieldLink RX4 102 "SegmentMergesModel" "segments" "I", Cond.fieldLink RX4 109 "SegmentMergesModel" "numbers" "I", Cond.methodLink RX4 105 yX4_freeSlot, Cond.instanceMethod yX4_freeSlot, Cond.selects RX4 yX4_freeSlot yX4_freeSlot, Cond.code yX4_freeSlot cX4_freeSlot 2 (some .int), Cond.methodLink RX4 112 yX4_lay, Cond.instanceMethod yX4_lay, Cond.selects RX4 yX4_lay yX4_lay, Cond.code yX4_lay cX4_lay 6 none, Cond.fieldLink RX4 16 "SegmentMergesModel" "inSlot" "[I", Cond.fieldLink RX4 19 "SegmentMergesModel" "inRow" "[I"]
def wsX4_step : List Cond := .code yX4_step cX4_step 3 (some .int) :: ((wsX4_step_r1 ++ (wsX4_step_r2 ++ wsX4_step_r3)) ++ wsX40)
def wsX4_stop : List Cond := .code yX4_stop cX4_stop 1 (some .int) :: ([.fieldLink RX4 84 "SegmentMergesModel" "thrown" "I", .fieldLink RX4 130 "SegmentMergesModel" "merged" "I", .fieldLink RX4 116 "SegmentMergesModel" "written" "I", .fieldLink RX4 139 "SegmentMergesModel" "wrote" "I", .fieldLink RX4 136 "SegmentMergesModel" "taken" "I"] ++ wsX40)
def wsX4_merging : List Cond := .code yX4_merging cX4_merging 2 (some .int) :: ([.fieldLink RX4 84 "SegmentMergesModel" "thrown" "I", .fieldLink RX4 130 "SegmentMergesModel" "merged" "I", .fieldLink RX4 136 "SegmentMergesModel" "taken" "I", .fieldLink RX4 139 "SegmentMergesModel" "wrote" "I", .fieldLink RX4 133 "SegmentMergesModel" "mergePlace" "I", .methodLink RX4 90 yX4_in, .static yX4_in, .initialized RX4, .code yX4_in cX4_in 3 (some .boolean), .methodLink RX4 142 yX4_left, .instanceMethod yX4_left, .selects RX4 yX4_left yX4_left, .code yX4_left cX4_left 3 (some .int), .fieldLink RX4 38 "SegmentMergesModel" "rows" "[I", .fieldLink RX4 54 "SegmentMergesModel" "at" "[I", .methodLink RX4 145 yX4_slotOf, .instanceMethod yX4_slotOf, .selects RX4 yX4_slotOf yX4_slotOf, .code yX4_slotOf cX4_slotOf 2 (some .int), .fieldLink RX4 25 "SegmentMergesModel" "order" "[I"] ++ wsX40)
def wsX4_moved : List Cond := .code yX4_moved cX4_moved 4 (some .int) :: ([.fieldLink RX4 84 "SegmentMergesModel" "thrown" "I", .fieldLink RX4 157 "SegmentMergesModel" "movedMany" "I", .fieldLink RX4 69 "SegmentMergesModel" "movedNumber" "[I", .fieldLink RX4 72 "SegmentMergesModel" "movedRows" "[I", .fieldLink RX4 75 "SegmentMergesModel" "movedTo" "[I", .methodLink RX4 90 yX4_in, .static yX4_in, .initialized RX4, .code yX4_in cX4_in 3 (some .boolean)] ++ wsX40)
def wsX4_view : List Cond := .code yX4_view cX4_view 3 (some .int) :: ([.fieldLink RX4 84 "SegmentMergesModel" "thrown" "I", .fieldLink RX4 78 "SegmentMergesModel" "isView" "[Z", .fieldLink RX4 81 "SegmentMergesModel" "viewed" "[I", .fieldLink RX4 7 "SegmentMergesModel" "value" "[I"] ++ wsX40)
def wsX4_isOpen : List Cond := .code yX4_isOpen cX4_isOpen 2 (some .boolean) :: ([.fieldLink RX4 78 "SegmentMergesModel" "isView" "[Z", .methodLink RX4 90 yX4_in, .static yX4_in, .initialized RX4, .code yX4_in cX4_in 3 (some .boolean)] ++ wsX40)
def wsX4_seen : List Cond := .code yX4_seen cX4_seen 3 (some .int) :: ([.fieldLink RX4 84 "SegmentMergesModel" "thrown" "I", .fieldLink RX4 81 "SegmentMergesModel" "viewed" "[I", .methodLink RX4 160 yX4_isOpen, .instanceMethod yX4_isOpen, .selects RX4 yX4_isOpen yX4_isOpen, .initialized RX4, .code yX4_isOpen cX4_isOpen 2 (some .boolean), .fieldLink RX4 78 "SegmentMergesModel" "isView" "[Z", .methodLink RX4 90 yX4_in, .static yX4_in, .code yX4_in cX4_in 3 (some .boolean)] ++ wsX40)
def wsX4_shut : List Cond := .code yX4_shut cX4_shut 4 (some .int) :: ([.fieldLink RX4 84 "SegmentMergesModel" "thrown" "I", .fieldLink RX4 78 "SegmentMergesModel" "isView" "[Z", .fieldLink RX4 81 "SegmentMergesModel" "viewed" "[I", .fieldLink RX4 7 "SegmentMergesModel" "value" "[I", .methodLink RX4 160 yX4_isOpen, .instanceMethod yX4_isOpen, .selects RX4 yX4_isOpen yX4_isOpen, .initialized RX4, .code yX4_isOpen cX4_isOpen 2 (some .boolean), .methodLink RX4 90 yX4_in, .static yX4_in, .code yX4_in cX4_in 3 (some .boolean)] ++ wsX40)
def wsX4_share : List Cond := .code yX4_share cX4_share 2 (some .int) :: ([.fieldLink RX4 84 "SegmentMergesModel" "thrown" "I", .methodLink RX4 122 yX4_all, .instanceMethod yX4_all, .selects RX4 yX4_all yX4_all, .initialized RX4, .code yX4_all cX4_all 4 (some .int), .fieldLink RX4 102 "SegmentMergesModel" "segments" "I", .fieldLink RX4 25 "SegmentMergesModel" "order" "[I", .fieldLink RX4 38 "SegmentMergesModel" "rows" "[I", .methodLink RX4 119 yX4_livingOf, .instanceMethod yX4_livingOf, .selects RX4 yX4_livingOf yX4_livingOf, .code yX4_livingOf cX4_livingOf 4 (some .int), .fieldLink RX4 47 "SegmentMergesModel" "lives" "[Z"] ++ wsX40)
def wsJ9_max_7cf53 : List Cond := .code yJ9_max_7cf53 cJ9_max_7cf53 2 (some .int) :: ([])
def wsL_share : List Cond := .codeWith yL_share cL_share 3 (some .int) [(0, 8, 11, 13)] :: ([.classLink RL 13 "java/lang/ArithmeticException", .methodLink RL 7 yX3_share, .instanceMethod yX3_share, .selects RX3 yX3_share yX3_share, .initialized RX3, .code yX3_share cX3_share 2 (some .int), .classLink RX3 174 "java/lang/ArithmeticException", .initialized "java/lang/ArithmeticException", .fieldLink RX3 26 "SegmentMerges" "segmentCount" "I", .methodLink RX3 94 yX3_rowsInSegments, .instanceMethod yX3_rowsInSegments, .selects RX3 yX3_rowsInSegments yX3_rowsInSegments, .code yX3_rowsInSegments cX3_rowsInSegments 3 (some .int), .fieldLink RX3 22 "SegmentMerges" "segments" "[LSegmentMerges$Segment;", .fieldLink RX3 90 "SegmentMerges$Segment" "size" "I", .methodLink RX3 98 yX3_livingFrom, .instanceMethod yX3_livingFrom, .selects RX3 yX3_livingFrom yX3_livingFrom, .code yX3_livingFrom cX3_livingFrom 5 (some .int), .fieldLink RX3 108 "SegmentMerges$Segment" "living" "I"] ++ wsX30 ++ wsX20 ++ (vx_atS RX3 178 "java/lang/ArithmeticException" ["java/lang/RuntimeException", "java/lang/Exception"]).filter goodWord)
def wsL_law0_r1 : List Cond := [Cond.classLink RL 8 RX3, Cond.instantiable RX3 11, Cond.initialized RX3, Cond.classLink RL 16 RX4, Cond.instantiable RX4 34, Cond.initialized RX4, Cond.arrayClass .long, Cond.methodLink RL 15 yX3_init, Cond.instanceMethod yX3_init, Cond.code yX3_init cX3_init 1 none, Cond.methodLink RX3 1 objectInit, Cond.instanceMethod objectInit, Cond.code objectInit ⟨#[0xb1]⟩ 1 none, Cond.arrayClass .int, Cond.fieldLink RX3 9 "SegmentMerges" "valueOf" "[I", Cond.classLink RX3 13 RX0, Cond.instantiable RX0 3, Cond.initialized RX0, Cond.fieldLink RX3 16 "SegmentMerges" "memory" "LSegmentMerges$Memory;", Cond.classLink RX3 20 RX2, Cond.fieldLink RX3 22 "SegmentMerges" "segments" "[LSegmentMerges$Segment;", Cond.fieldLink RX3 26 "SegmentMerges" "segmentCount" "I", Cond.fieldLink RX3 30 "SegmentMerges" "nextNumber" "I", Cond.fieldLink RX3 33 "SegmentMerges" "writtenRows" "I"]
def wsL_law0_r2 : List Cond := [Cond.fieldLink RX3 36 "SegmentMerges" "fullSize" "I", Cond.fieldLink RX3 39 "SegmentMerges" "current" "LSegmentMerges$Merge;", Cond.fieldLink RX3 43 "SegmentMerges" "ended" "LSegmentMerges$Merge;", Cond.classLink RX3 46 "[[I", Cond.fieldLink RX3 48 "SegmentMerges" "viewed" "[[I", Cond.arrayClass .boolean, Cond.fieldLink RX3 51 "SegmentMerges" "viewOpen" "[Z", Cond.instanceMethod yX0_init, Cond.code yX0_init cX0_init 1 none, Cond.methodLink RX0 3 objectInit, Cond.fieldLink RX0 9 "SegmentMerges$Memory" "keys" "[I", Cond.fieldLink RX0 15 "SegmentMerges$Memory" "values" "[I", Cond.fieldLink RX0 18 "SegmentMerges$Memory" "size" "I", Cond.methodLink RX3 55 yJ7_fill_53178, Cond.static yJ7_fill_53178, Cond.initialized RJ7, Cond.code yJ7_fill_53178 cJ7_fill_53178 4 none, Cond.methodLink RL 18 yX4_init, Cond.instanceMethod yX4_init, Cond.code yX4_init cX4_init 2 none, Cond.methodLink RX4 1 objectInit, Cond.fieldLink RX4 7 "SegmentMergesModel" "value" "[I", Cond.fieldLink RX4 13 "SegmentMergesModel" "turn" "[I", Cond.fieldLink RX4 16 "SegmentMergesModel" "inSlot" "[I"]
def wsL_law0_r3 : List Cond := [Cond.fieldLink RX4 19 "SegmentMergesModel" "inRow" "[I", Cond.fieldLink RX4 22 "SegmentMergesModel" "memory" "[I", Cond.fieldLink RX4 25 "SegmentMergesModel" "order" "[I", Cond.fieldLink RX4 28 "SegmentMergesModel" "isUsed" "[Z", Cond.fieldLink RX4 32 "SegmentMergesModel" "number" "[I", Cond.fieldLink RX4 35 "SegmentMergesModel" "tier" "[I", Cond.fieldLink RX4 38 "SegmentMergesModel" "rows" "[I", Cond.fieldLink RX4 41 "SegmentMergesModel" "rowKey" "[I", Cond.fieldLink RX4 44 "SegmentMergesModel" "rowValue" "[I", Cond.fieldLink RX4 47 "SegmentMergesModel" "lives" "[Z", Cond.fieldLink RX4 50 "SegmentMergesModel" "full" "I", Cond.fieldLink RX4 54 "SegmentMergesModel" "at" "[I", Cond.fieldLink RX4 57 "SegmentMergesModel" "newKey" "[I", Cond.fieldLink RX4 60 "SegmentMergesModel" "newValue" "[I", Cond.fieldLink RX4 63 "SegmentMergesModel" "newTurn" "[I", Cond.fieldLink RX4 66 "SegmentMergesModel" "goes" "[I", Cond.fieldLink RX4 69 "SegmentMergesModel" "movedNumber" "[I", Cond.fieldLink RX4 72 "SegmentMergesModel" "movedRows" "[I", Cond.fieldLink RX4 75 "SegmentMergesModel" "movedTo" "[I", Cond.fieldLink RX4 78 "SegmentMergesModel" "isView" "[Z", Cond.fieldLink RX4 81 "SegmentMergesModel" "viewed" "[I", Cond.methodLink RL 19 yX3_put, Cond.instanceMethod yX3_put, Cond.selects RX3 yX3_put yX3_put]
def wsL_law0_r4 : List Cond := [Cond.code yX3_put cX3_put 4 (some .int), Cond.fieldLink RX3 69 "SegmentMerges$Memory" "size" "I", Cond.fieldLink RX3 80 "SegmentMerges$Memory" "values" "[I", Cond.methodLink RX3 61 yX3_isKey, Cond.static yX3_isKey, Cond.code yX3_isKey cX3_isKey 1 (some .boolean), Cond.methodLink RX3 65 yX0_find, Cond.instanceMethod yX0_find, Cond.selects RX0 yX0_find yX0_find, Cond.code yX0_find cX0_find 3 (some .int), Cond.methodLink RX3 72 yX3_killRowOf, Cond.instanceMethod yX3_killRowOf, Cond.selects RX3 yX3_killRowOf yX3_killRowOf, Cond.code yX3_killRowOf cX3_killRowOf 3 none, Cond.methodLink RX3 181 yX2_kill, Cond.instanceMethod yX2_kill, Cond.selects RX2 yX2_kill yX2_kill, Cond.initialized RX2, Cond.code yX2_kill cX2_kill 3 none, Cond.fieldLink RX2 19 "SegmentMerges$Segment" "size" "I", Cond.fieldLink RX2 22 "SegmentMerges$Segment" "keys" "[I", Cond.fieldLink RX2 29 "SegmentMerges$Segment" "lives" "[Z", Cond.fieldLink RX2 7 "SegmentMerges$Segment" "living" "I", Cond.methodLink RX3 76 yX0_append]
def wsL_law0_r5 : List Cond := [Cond.instanceMethod yX0_append, Cond.selects RX0 yX0_append yX0_append, Cond.code yX0_append cX0_append 3 none, Cond.methodLink RL 23 yX4_put, Cond.instanceMethod yX4_put, Cond.selects RX4 yX4_put yX4_put, Cond.code yX4_put cX4_put 3 (some .int), Cond.fieldLink RX4 84 "SegmentMergesModel" "thrown" "I", Cond.fieldLink RX4 87 "SegmentMergesModel" "remembered" "I", Cond.methodLink RX4 90 yX4_in, Cond.static yX4_in, Cond.code yX4_in cX4_in 3 (some .boolean), Cond.methodLink RX4 94 yX4_memoryAt, Cond.instanceMethod yX4_memoryAt, Cond.selects RX4 yX4_memoryAt yX4_memoryAt, Cond.code yX4_memoryAt cX4_memoryAt 4 (some .int), Cond.methodLink RX4 98 yX4_die, Cond.instanceMethod yX4_die, Cond.selects RX4 yX4_die yX4_die, Cond.code yX4_die cX4_die 2 none, Cond.methodLink RL 24 yX3_drop, Cond.instanceMethod yX3_drop, Cond.selects RX3 yX3_drop yX3_drop, Cond.code yX3_drop cX3_drop 3 (some .int)]
def wsL_law0_r6 : List Cond := [Cond.methodLink RX3 83 yX0_removeAt, Cond.instanceMethod yX0_removeAt, Cond.selects RX0 yX0_removeAt yX0_removeAt, Cond.code yX0_removeAt cX0_removeAt 3 none, Cond.methodLink RL 28 yX4_drop, Cond.instanceMethod yX4_drop, Cond.selects RX4 yX4_drop yX4_drop, Cond.code yX4_drop cX4_drop 4 (some .int), Cond.methodLink RL 29 yX3_get, Cond.instanceMethod yX3_get, Cond.selects RX3 yX3_get yX3_get, Cond.code yX3_get cX3_get 2 (some .int), Cond.methodLink RL 32 yX4_get, Cond.instanceMethod yX4_get, Cond.selects RX4 yX4_get yX4_get, Cond.code yX4_get cX4_get 2 (some .int), Cond.methodLink RL 33 yX3_next, Cond.instanceMethod yX3_next, Cond.selects RX3 yX3_next yX3_next, Cond.code yX3_next cX3_next 3 (some .int), Cond.methodLink RL 36 yX4_next, Cond.instanceMethod yX4_next, Cond.selects RX4 yX4_next yX4_next, Cond.code yX4_next cX4_next 3 (some .int)]
def wsL_law0_r7 : List Cond := [Cond.methodLink RL 37 yX3_flush, Cond.instanceMethod yX3_flush, Cond.selects RX3 yX3_flush yX3_flush, Cond.code yX3_flush cX3_flush 2 (some .int), Cond.fieldLink RX3 90 "SegmentMerges$Segment" "size" "I", Cond.fieldLink RX3 91 "SegmentMerges$Segment" "number" "I", Cond.methodLink RX3 86 yX0_asSegment, Cond.instanceMethod yX0_asSegment, Cond.selects RX0 yX0_asSegment yX0_asSegment, Cond.code yX0_asSegment cX0_asSegment 4 (some (.object "SegmentMerges$Segment")), Cond.classLink RX0 22 RX2, Cond.instantiable RX2 8, Cond.methodLink RX0 24 yX2_init, Cond.instanceMethod yX2_init, Cond.code yX2_init cX2_init 4 none, Cond.methodLink RX2 1 objectInit, Cond.fieldLink RX2 13 "SegmentMerges$Segment" "number" "I", Cond.fieldLink RX2 16 "SegmentMerges$Segment" "tier" "I", Cond.fieldLink RX2 26 "SegmentMerges$Segment" "values" "[I", Cond.fieldLink RX2 33 "SegmentMerges$Segment" "wentTo" "[I", Cond.methodLink RX0 27 yX0_rankOf, Cond.instanceMethod yX0_rankOf, Cond.selects RX0 yX0_rankOf yX0_rankOf, Cond.code yX0_rankOf cX0_rankOf 4 (some .int)]
def wsL_law0_r8 : List Cond := [Cond.methodLink RX0 31 yX2_write, Cond.instanceMethod yX2_write, Cond.selects RX2 yX2_write yX2_write, Cond.code yX2_write cX2_write 5 none, Cond.methodLink RL 40 yX4_flush, Cond.instanceMethod yX4_flush, Cond.selects RX4 yX4_flush yX4_flush, Cond.code yX4_flush cX4_flush 3 (some .int), Cond.fieldLink RX4 102 "SegmentMergesModel" "segments" "I", Cond.fieldLink RX4 109 "SegmentMergesModel" "numbers" "I", Cond.fieldLink RX4 116 "SegmentMergesModel" "written" "I", Cond.methodLink RX4 105 yX4_freeSlot, Cond.instanceMethod yX4_freeSlot, Cond.selects RX4 yX4_freeSlot yX4_freeSlot, Cond.code yX4_freeSlot cX4_freeSlot 2 (some .int), Cond.methodLink RX4 112 yX4_lay, Cond.instanceMethod yX4_lay, Cond.selects RX4 yX4_lay yX4_lay, Cond.code yX4_lay cX4_lay 6 none, Cond.methodLink RL 41 yX3_count, Cond.instanceMethod yX3_count, Cond.selects RX3 yX3_count yX3_count, Cond.code yX3_count cX3_count 2 (some .int), Cond.methodLink RX3 94 yX3_rowsInSegments]
def wsL_law0_r9 : List Cond := [Cond.instanceMethod yX3_rowsInSegments, Cond.selects RX3 yX3_rowsInSegments yX3_rowsInSegments, Cond.code yX3_rowsInSegments cX3_rowsInSegments 3 (some .int), Cond.methodLink RX3 98 yX3_livingFrom, Cond.instanceMethod yX3_livingFrom, Cond.selects RX3 yX3_livingFrom yX3_livingFrom, Cond.code yX3_livingFrom cX3_livingFrom 5 (some .int), Cond.fieldLink RX3 108 "SegmentMerges$Segment" "living" "I", Cond.methodLink RL 44 yX4_count, Cond.instanceMethod yX4_count, Cond.selects RX4 yX4_count yX4_count, Cond.code yX4_count cX4_count 4 (some .int), Cond.methodLink RX4 122 yX4_all, Cond.instanceMethod yX4_all, Cond.selects RX4 yX4_all yX4_all, Cond.code yX4_all cX4_all 4 (some .int), Cond.methodLink RX4 119 yX4_livingOf, Cond.instanceMethod yX4_livingOf, Cond.selects RX4 yX4_livingOf yX4_livingOf, Cond.code yX4_livingOf cX4_livingOf 4 (some .int), Cond.methodLink RL 45 yX3_segment, Cond.instanceMethod yX3_segment, Cond.selects RX3 yX3_segment yX3_segment, Cond.code yX3_segment cX3_segment 4 (some .int)]
def wsL_law0_r10 : List Cond := [Cond.fieldLink RX3 105 "SegmentMerges$Segment" "tier" "I", Cond.methodLink RX3 102 yX3_isPlace, Cond.instanceMethod yX3_isPlace, Cond.selects RX3 yX3_isPlace yX3_isPlace, Cond.code yX3_isPlace cX3_isPlace 2 (some .boolean), Cond.methodLink RX3 111 yX1_isOf, Cond.instanceMethod yX1_isOf, Cond.selects RX1 yX1_isOf yX1_isOf, Cond.initialized RX1, Cond.code yX1_isOf cX1_isOf 2 (some .boolean), Cond.fieldLink RX1 21 "SegmentMerges$Merge" "place" "I", Cond.fieldLink RX1 26 "SegmentMerges$Merge" "sources" "[LSegmentMerges$Segment;", Cond.methodLink RL 48 yX4_segment, Cond.instanceMethod yX4_segment, Cond.selects RX4 yX4_segment yX4_segment, Cond.code yX4_segment cX4_segment 4 (some .int), Cond.fieldLink RX4 130 "SegmentMergesModel" "merged" "I", Cond.fieldLink RX4 133 "SegmentMergesModel" "mergePlace" "I", Cond.methodLink RX4 126 yX4_isPlace, Cond.instanceMethod yX4_isPlace, Cond.selects RX4 yX4_isPlace yX4_isPlace, Cond.code yX4_isPlace cX4_isPlace 2 (some .boolean), Cond.methodLink RL 49 yX3_row, Cond.instanceMethod yX3_row]
def wsL_law0_r11 : List Cond := [Cond.selects RX3 yX3_row yX3_row, Cond.code yX3_row cX3_row 5 (some .int), Cond.fieldLink RX3 119 "SegmentMerges$Segment" "keys" "[I", Cond.fieldLink RX3 122 "SegmentMerges$Segment" "values" "[I", Cond.fieldLink RX3 123 "SegmentMerges$Segment" "lives" "[Z", Cond.methodLink RX3 116 yX2_hasRow, Cond.instanceMethod yX2_hasRow, Cond.selects RX2 yX2_hasRow yX2_hasRow, Cond.code yX2_hasRow cX2_hasRow 2 (some .boolean), Cond.methodLink RL 53 yX4_row, Cond.instanceMethod yX4_row, Cond.selects RX4 yX4_row yX4_row, Cond.code yX4_row cX4_row 5 (some .int), Cond.methodLink RL 54 yX3_full, Cond.instanceMethod yX3_full, Cond.selects RX3 yX3_full yX3_full, Cond.code yX3_full cX3_full 3 (some .int), Cond.methodLink RL 57 yX4_full, Cond.instanceMethod yX4_full, Cond.selects RX4 yX4_full yX4_full, Cond.code yX4_full cX4_full 3 (some .int), Cond.methodLink RL 58 yX3_due, Cond.instanceMethod yX3_due, Cond.selects RX3 yX3_due yX3_due]
def wsL_law0_r12 : List Cond := [Cond.code yX3_due cX3_due 3 (some .int), Cond.methodLink RX3 126 yX3_isOfOneTier, Cond.instanceMethod yX3_isOfOneTier, Cond.selects RX3 yX3_isOfOneTier yX3_isOfOneTier, Cond.code yX3_isOfOneTier cX3_isOfOneTier 4 (some .boolean), Cond.methodLink RL 61 yX4_due, Cond.instanceMethod yX4_due, Cond.selects RX4 yX4_due yX4_due, Cond.code yX4_due cX4_due 5 (some .int), Cond.methodLink RL 62 yX3_cheapest, Cond.instanceMethod yX3_cheapest, Cond.selects RX3 yX3_cheapest yX3_cheapest, Cond.code yX3_cheapest cX3_cheapest 6 (some .int), Cond.methodLink RX3 130 yX3_canBeMerged, Cond.static yX3_canBeMerged, Cond.code yX3_canBeMerged cX3_canBeMerged 1 (some .boolean), Cond.methodLink RL 65 yX4_cheapest, Cond.instanceMethod yX4_cheapest, Cond.selects RX4 yX4_cheapest yX4_cheapest, Cond.code yX4_cheapest cX4_cheapest 7 (some .int), Cond.methodLink RL 66 yX3_worst, Cond.instanceMethod yX3_worst, Cond.selects RX3 yX3_worst yX3_worst, Cond.code yX3_worst cX3_worst 3 (some .int)]
def wsL_law0_r13 : List Cond := [Cond.methodLink RX3 133 yX2_isDeaderThan, Cond.instanceMethod yX2_isDeaderThan, Cond.selects RX2 yX2_isDeaderThan yX2_isDeaderThan, Cond.code yX2_isDeaderThan cX2_isDeaderThan 2 (some .boolean), Cond.methodLink RL 69 yX4_worst, Cond.instanceMethod yX4_worst, Cond.selects RX4 yX4_worst yX4_worst, Cond.code yX4_worst cX4_worst 7 (some .int), Cond.methodLink RL 70 yX3_begin, Cond.instanceMethod yX3_begin, Cond.selects RX3 yX3_begin yX3_begin, Cond.code yX3_begin cX3_begin 3 (some .int), Cond.classLink RX3 112 RX1, Cond.instantiable RX1 6, Cond.fieldLink RX3 140 "SegmentMerges$Merge" "left" "I", Cond.methodLink RX3 137 yX1_init, Cond.instanceMethod yX1_init, Cond.code yX1_init cX1_init 5 none, Cond.methodLink RX1 3 objectInit, Cond.fieldLink RX1 9 "SegmentMerges$Merge" "taken" "I", Cond.fieldLink RX1 15 "SegmentMerges$Merge" "written" "I", Cond.fieldLink RX1 18 "SegmentMerges$Merge" "left" "I", Cond.classLink RX1 24 RX2, Cond.fieldLink RX1 30 "SegmentMerges$Merge" "takenOf" "[I"]
def wsL_law0_r14 : List Cond := [Cond.fieldLink RX1 34 "SegmentMerges$Segment" "size" "I", Cond.methodLink RL 73 yX4_begin, Cond.instanceMethod yX4_begin, Cond.selects RX4 yX4_begin yX4_begin, Cond.code yX4_begin cX4_begin 4 (some .int), Cond.fieldLink RX4 136 "SegmentMergesModel" "taken" "I", Cond.fieldLink RX4 139 "SegmentMergesModel" "wrote" "I", Cond.methodLink RX4 142 yX4_left, Cond.instanceMethod yX4_left, Cond.selects RX4 yX4_left yX4_left, Cond.code yX4_left cX4_left 3 (some .int), Cond.methodLink RX4 145 yX4_slotOf, Cond.instanceMethod yX4_slotOf, Cond.selects RX4 yX4_slotOf yX4_slotOf, Cond.code yX4_slotOf cX4_slotOf 2 (some .int), Cond.methodLink RL 74 yX3_step, Cond.instanceMethod yX3_step, Cond.selects RX3 yX3_step yX3_step, Cond.code yX3_step cX3_step 3 (some .int), Cond.methodLink RX3 143 yX1_takeOne, Cond.instanceMethod yX1_takeOne, Cond.selects RX1 yX1_takeOne yX1_takeOne, Cond.code yX1_takeOne cX1_takeOne 4 none, Cond.fieldLink RX1 44 "SegmentMerges$Segment" "lives" "[Z"]
def wsL_law0_r15 : List Cond := [Cond.fieldLink RX1 48 "SegmentMerges$Segment" "wentTo" "[I", Cond.methodLink RX1 40 yX1_sourceOfLeastKey, Cond.instanceMethod yX1_sourceOfLeastKey, Cond.selects RX1 yX1_sourceOfLeastKey yX1_sourceOfLeastKey, Cond.code yX1_sourceOfLeastKey cX1_sourceOfLeastKey 4 (some .int), Cond.fieldLink RX1 51 "SegmentMerges$Segment" "keys" "[I", Cond.methodLink RX3 146 yX3_endMerge, Cond.instanceMethod yX3_endMerge, Cond.selects RX3 yX3_endMerge yX3_endMerge, Cond.code yX3_endMerge cX3_endMerge 3 none, Cond.fieldLink RX3 153 "SegmentMerges$Merge" "written" "I", Cond.fieldLink RX3 156 "SegmentMerges$Merge" "place" "I", Cond.fieldLink RX3 185 "SegmentMerges$Merge" "sources" "[LSegmentMerges$Segment;", Cond.methodLink RX3 184 yX1_asSegment, Cond.instanceMethod yX1_asSegment, Cond.selects RX1 yX1_asSegment yX1_asSegment, Cond.code yX1_asSegment cX1_asSegment 6 (some (.object "SegmentMerges$Segment")), Cond.fieldLink RX1 60 "SegmentMerges$Segment" "values" "[I", Cond.methodLink RX1 54 yX1_greatestTier, Cond.instanceMethod yX1_greatestTier, Cond.selects RX1 yX1_greatestTier yX1_greatestTier, Cond.code yX1_greatestTier cX1_greatestTier 3 (some .int), Cond.fieldLink RX1 67 "SegmentMerges$Segment" "tier" "I", Cond.methodLink RX1 70 Lib.Math.max.name]
def wsL_law0_r16 : List Cond := [Cond.static Lib.Math.max.name, Cond.initialized "java/lang/Math", Cond.code Lib.Math.max.name Lib.Math.max.code 2 (some .int), Cond.methodLink RX1 57 yX2_init, Cond.methodLink RX1 63 yX2_write, Cond.methodLink RX3 188 yX3_closeGap, Cond.instanceMethod yX3_closeGap, Cond.selects RX3 yX3_closeGap yX3_closeGap, Cond.code yX3_closeGap cX3_closeGap 4 none, Cond.methodLink RL 77 yX4_step, Cond.instanceMethod yX4_step, Cond.selects RX4 yX4_step yX4_step, Cond.code yX4_step cX4_step 3 (some .int), Cond.methodLink RX4 151 yX4_takeOne, Cond.instanceMethod yX4_takeOne, Cond.selects RX4 yX4_takeOne yX4_takeOne, Cond.code yX4_takeOne cX4_takeOne 3 none, Cond.methodLink RX4 148 yX4_keyAt, Cond.instanceMethod yX4_keyAt, Cond.selects RX4 yX4_keyAt yX4_keyAt, Cond.code yX4_keyAt cX4_keyAt 2 (some .int), Cond.methodLink RX4 154 yX4_end, Cond.instanceMethod yX4_end, Cond.selects RX4 yX4_end yX4_end]
def wsL_law0_r17 : List Cond := [Cond.code yX4_end cX4_end 7 none, Cond.fieldLink RX4 157 "SegmentMergesModel" "movedMany" "I", Cond.methodLink RL 78 yX3_stop, Cond.instanceMethod yX3_stop, Cond.selects RX3 yX3_stop yX3_stop, Cond.code yX3_stop cX3_stop 2 (some .int), Cond.fieldLink RX3 150 "SegmentMerges$Merge" "taken" "I", Cond.methodLink RL 81 yX4_stop, Cond.instanceMethod yX4_stop, Cond.selects RX4 yX4_stop yX4_stop, Cond.code yX4_stop cX4_stop 1 (some .int), Cond.methodLink RL 82 yX3_merging, Cond.instanceMethod yX3_merging, Cond.selects RX3 yX3_merging yX3_merging, Cond.code yX3_merging cX3_merging 2 (some .int), Cond.methodLink RL 85 yX4_merging, Cond.instanceMethod yX4_merging, Cond.selects RX4 yX4_merging yX4_merging, Cond.code yX4_merging cX4_merging 2 (some .int), Cond.methodLink RL 86 yX3_moved, Cond.instanceMethod yX3_moved, Cond.selects RX3 yX3_moved yX3_moved, Cond.code yX3_moved cX3_moved 4 (some .int), Cond.fieldLink RX3 162 "SegmentMerges$Segment" "wentTo" "[I"]
def wsL_law0_r18 : List Cond := [Cond.methodLink RX3 159 yX1_sourceOf, Cond.instanceMethod yX1_sourceOf, Cond.selects RX1 yX1_sourceOf yX1_sourceOf, Cond.code yX1_sourceOf cX1_sourceOf 3 (some (.object "SegmentMerges$Segment")), Cond.fieldLink RX1 37 "SegmentMerges$Segment" "number" "I", Cond.methodLink RL 89 yX4_moved, Cond.instanceMethod yX4_moved, Cond.selects RX4 yX4_moved yX4_moved, Cond.code yX4_moved cX4_moved 4 (some .int), Cond.methodLink RL 90 yX3_view, Cond.instanceMethod yX3_view, Cond.selects RX3 yX3_view yX3_view, Cond.code yX3_view cX3_view 2 (some .int), Cond.methodLink RX3 165 arraycopyName, Cond.native arraycopyName, Cond.static arraycopyName, Cond.initialized "java/lang/System", Cond.methodLink RL 93 yX4_view, Cond.instanceMethod yX4_view, Cond.selects RX4 yX4_view yX4_view, Cond.code yX4_view cX4_view 3 (some .int), Cond.methodLink RL 94 yX3_seen, Cond.instanceMethod yX3_seen, Cond.selects RX3 yX3_seen yX3_seen]
def wsL_law0_r19 : List Cond := [Cond.code yX3_seen cX3_seen 4 (some .int), Cond.methodLink RX3 171 yX3_isOpenView, Cond.instanceMethod yX3_isOpenView, Cond.selects RX3 yX3_isOpenView yX3_isOpenView, Cond.code yX3_isOpenView cX3_isOpenView 2 (some .boolean), Cond.methodLink RL 97 yX4_seen, Cond.instanceMethod yX4_seen, Cond.selects RX4 yX4_seen yX4_seen, Cond.code yX4_seen cX4_seen 3 (some .int), Cond.methodLink RX4 160 yX4_isOpen, Cond.instanceMethod yX4_isOpen, Cond.selects RX4 yX4_isOpen yX4_isOpen, Cond.code yX4_isOpen cX4_isOpen 2 (some .boolean), Cond.methodLink RL 98 yX3_shut, Cond.instanceMethod yX3_shut, Cond.selects RX3 yX3_shut yX3_shut, Cond.code yX3_shut cX3_shut 4 (some .int), Cond.methodLink RL 101 yX4_shut, Cond.instanceMethod yX4_shut, Cond.selects RX4 yX4_shut yX4_shut, Cond.code yX4_shut cX4_shut 4 (some .int), Cond.methodLink RL 102 yL_share, Cond.static yL_share, Cond.initialized RL]
def wsL_law0_r20 : List Cond := [Cond.codeWith yL_share cL_share 3 (some .int) [(0, 8, 11, 13)], Cond.classLink RL 13 "java/lang/ArithmeticException", Cond.methodLink RL 7 yX3_share, Cond.instanceMethod yX3_share, Cond.selects RX3 yX3_share yX3_share, Cond.code yX3_share cX3_share 2 (some .int), Cond.classLink RX3 174 "java/lang/ArithmeticException", Cond.initialized "java/lang/ArithmeticException", Cond.methodLink RL 107 yX4_share, Cond.instanceMethod yX4_share, Cond.selects RX4 yX4_share yX4_share, Cond.code yX4_share cX4_share 2 (some .int), Cond.methodLink RL 108 yX4_thrown, Cond.instanceMethod yX4_thrown, Cond.selects RX4 yX4_thrown yX4_thrown, Cond.code yX4_thrown cX4_thrown 1 (some .int)]
def wsL_law0 : List Cond := (wsL_law0_r1 ++ (wsL_law0_r2 ++ (wsL_law0_r3 ++ (wsL_law0_r4 ++ (wsL_law0_r5 ++ (wsL_law0_r6 ++ (wsL_law0_r7 ++ (wsL_law0_r8 ++ (wsL_law0_r9 ++ (wsL_law0_r10 ++ (wsL_law0_r11 ++ (wsL_law0_r12 ++ (wsL_law0_r13 ++ (wsL_law0_r14 ++ (wsL_law0_r15 ++ (wsL_law0_r16 ++ (wsL_law0_r17 ++ (wsL_law0_r18 ++ (wsL_law0_r19 ++ wsL_law0_r20))))))))))))))))))) ++ wsX30 ++ wsX40 ++ wsX00 ++ wsX20 ++ wsX10 ++ ([] : List Cond)
def wsL_law : List Cond := wsL_law0 ++ (vx_atS RX3 178 "java/lang/ArithmeticException" ["java/lang/RuntimeException", "java/lang/Exception"]).filter goodWord
theorem mem_rr {big ws : List Cond} (ps : List Nat) (hp : ws = ps.filterMap (fun i => big[i]?)) : ∀ w ∈ ws, w ∈ big := by
  intro w hw
  rw [hp] at hw
  obtain ⟨i, -, hi⟩ := List.mem_filterMap.mp hw
  first | exact List.mem_of_getElem? hi | exact List.getElem?_mem hi
set_option maxRecDepth 20000 in
theorem lin_wsL_law0_r1 : ∀ w ∈ wsL_law0_r1, w ∈ lw_tbl := mem_rr [38, 39, 26, 444, 445, 29, 696, 40, 41, 42, 43, 44, 45, 64, 72, 46, 47, 27, 73, 65, 74, 75, 76, 77] (by decide +kernel)
set_option maxRecDepth 20000 in
theorem lin_wsL_law0_r2 : ∀ w ∈ wsL_law0_r2, w ∈ lw_tbl := mem_rr [78, 79, 80, 67, 81, 106, 82, 49, 50, 51, 52, 53, 55, 69, 70, 28, 71, 446, 447, 448, 449, 451, 452, 453] (by decide +kernel)
set_option maxRecDepth 20000 in
theorem lin_wsL_law0_r3 : ∀ w ∈ wsL_law0_r3, w ∈ lw_tbl := mem_rr [454, 456, 458, 459, 460, 461, 462, 463, 464, 465, 468, 473, 474, 475, 476, 477, 479, 480, 481, 482, 483, 107, 108, 109] (by decide +kernel)
set_option maxRecDepth 20000 in
theorem lin_wsL_law0_r4 : ∀ w ∈ wsL_law0_r4, w ∈ lw_tbl := mem_rr [110, 56, 54, 111, 112, 113, 114, 115, 116, 117, 118, 120, 0, 121, 122, 123, 124, 30, 125, 166, 169, 175, 181, 126] (by decide +kernel)
set_option maxRecDepth 20000 in
theorem lin_wsL_law0_r5 : ∀ w ∈ wsL_law0_r5, w ∈ lw_tbl := mem_rr [127, 128, 129, 557, 558, 559, 560, 450, 455, 561, 562, 563, 564, 566, 12, 567, 568, 570, 13, 571, 130, 131, 132, 133] (by decide +kernel)
set_option maxRecDepth 20000 in
theorem lin_wsL_law0_r6 : ∀ w ∈ wsL_law0_r6, w ∈ lw_tbl := mem_rr [134, 135, 136, 137, 572, 573, 574, 575, 138, 139, 140, 141, 576, 577, 578, 579, 142, 143, 144, 145, 580, 581, 582, 583] (by decide +kernel)
set_option maxRecDepth 20000 in
theorem lin_wsL_law0_r7 : ∀ w ∈ wsL_law0_r7, w ∈ lw_tbl := mem_rr [146, 147, 148, 149, 168, 162, 150, 151, 152, 153, 154, 155, 156, 157, 158, 159, 160, 163, 172, 178, 200, 202, 1, 203] (by decide +kernel)
set_option maxRecDepth 20000 in
theorem lin_wsL_law0_r8 : ∀ w ∈ wsL_law0_r8, w ∈ lw_tbl := mem_rr [204, 205, 206, 207, 584, 585, 586, 587, 457, 466, 467, 588, 590, 14, 591, 592, 594, 15, 595, 208, 209, 210, 211, 212] (by decide +kernel)
set_option maxRecDepth 20000 in
theorem lin_wsL_law0_r9 : ∀ w ∈ wsL_law0_r9, w ∈ lw_tbl := mem_rr [214, 2, 215, 216, 218, 3, 219, 182, 596, 597, 598, 599, 600, 602, 16, 603, 604, 606, 17, 607, 220, 221, 222, 223] (by decide +kernel)
set_option maxRecDepth 20000 in
theorem lin_wsL_law0_r10 : ∀ w ∈ wsL_law0_r10, w ∈ lw_tbl := mem_rr [165, 224, 226, 4, 227, 228, 229, 230, 31, 231, 278, 280, 608, 609, 610, 611, 469, 470, 612, 614, 18, 615, 232, 233] (by decide +kernel)
set_option maxRecDepth 20000 in
theorem lin_wsL_law0_r11 : ∀ w ∈ wsL_law0_r11, w ∈ lw_tbl := mem_rr [234, 235, 171, 174, 177, 236, 237, 238, 239, 616, 617, 618, 619, 240, 241, 242, 243, 620, 621, 622, 623, 244, 245, 246] (by decide +kernel)
set_option maxRecDepth 20000 in
theorem lin_wsL_law0_r12 : ∀ w ∈ wsL_law0_r12, w ∈ lw_tbl := mem_rr [247, 248, 250, 5, 251, 624, 625, 626, 627, 252, 253, 254, 255, 256, 257, 258, 628, 629, 630, 631, 259, 260, 261, 262] (by decide +kernel)
set_option maxRecDepth 20000 in
theorem lin_wsL_law0_r13 : ∀ w ∈ wsL_law0_r13, w ∈ lw_tbl := mem_rr [263, 264, 265, 266, 632, 633, 634, 635, 267, 268, 269, 270, 271, 272, 288, 273, 274, 275, 276, 283, 285, 287, 277, 282] (by decide +kernel)
set_option maxRecDepth 20000 in
theorem lin_wsL_law0_r14 : ∀ w ∈ wsL_law0_r14, w ∈ lw_tbl := mem_rr [167, 636, 637, 638, 639, 471, 472, 640, 642, 19, 643, 644, 646, 20, 647, 302, 303, 304, 305, 306, 307, 308, 309, 176] (by decide +kernel)
set_option maxRecDepth 20000 in
theorem lin_wsL_law0_r15 : ∀ w ∈ wsL_law0_r15, w ∈ lw_tbl := mem_rr [179, 310, 312, 6, 313, 170, 314, 316, 7, 317, 286, 279, 281, 318, 319, 320, 321, 173, 322, 324, 8, 325, 164, 326] (by decide +kernel)
set_option maxRecDepth 20000 in
theorem lin_wsL_law0_r16 : ∀ w ∈ wsL_law0_r16, w ∈ lw_tbl := mem_rr [327, 32, 328, 329, 330, 331, 333, 9, 334, 648, 649, 650, 651, 652, 654, 21, 655, 656, 658, 22, 659, 660, 662, 23] (by decide +kernel)
set_option maxRecDepth 20000 in
theorem lin_wsL_law0_r17 : ∀ w ∈ wsL_law0_r17, w ∈ lw_tbl := mem_rr [663, 478, 335, 336, 337, 338, 284, 664, 665, 666, 667, 339, 340, 341, 342, 668, 669, 670, 671, 343, 344, 345, 346, 180] (by decide +kernel)
set_option maxRecDepth 20000 in
theorem lin_wsL_law0_r18 : ∀ w ∈ wsL_law0_r18, w ∈ lw_tbl := mem_rr [347, 348, 349, 350, 161, 672, 673, 674, 675, 351, 352, 353, 354, 355, 357, 356, 33, 676, 677, 678, 679, 358, 359, 360] (by decide +kernel)
set_option maxRecDepth 20000 in
theorem lin_wsL_law0_r19 : ∀ w ∈ wsL_law0_r19, w ∈ lw_tbl := mem_rr [361, 362, 364, 10, 365, 680, 681, 682, 683, 684, 686, 24, 687, 366, 367, 368, 369, 688, 689, 690, 691, 370, 371, 25] (by decide +kernel)
set_option maxRecDepth 20000 in
theorem lin_wsL_law0_r20 : ∀ w ∈ wsL_law0_r20, w ∈ lw_tbl := mem_rr [372, 373, 374, 375, 376, 377, 378, 37, 692, 693, 694, 695, 553, 554, 555, 556] (by decide +kernel)
set_option maxRecDepth 20000 in
theorem lin_wsX30 : ∀ w ∈ wsX30, w ∈ lw_tbl := mem_rr [83, 85, 87, 89, 91, 93, 95, 97, 99, 101, 103] (by decide +kernel)
set_option maxRecDepth 20000 in
theorem lin_wsX40 : ∀ w ∈ wsX40, w ∈ lw_tbl := mem_rr [484, 486, 488, 490, 492, 494, 496, 498, 500, 502, 504, 506, 508, 510, 512, 514, 516, 518, 520, 522, 524, 526, 528, 530, 532, 534, 536, 538, 540, 542, 544, 546, 548, 550] (by decide +kernel)
set_option maxRecDepth 20000 in
theorem lin_wsX00 : ∀ w ∈ wsX00, w ∈ lw_tbl := mem_rr [57, 59, 61] (by decide +kernel)
set_option maxRecDepth 20000 in
theorem lin_wsX20 : ∀ w ∈ wsX20, w ∈ lw_tbl := mem_rr [183, 185, 187, 189, 191, 193, 195, 197] (by decide +kernel)
set_option maxRecDepth 20000 in
theorem lin_wsX10 : ∀ w ∈ wsX10, w ∈ lw_tbl := mem_rr [289, 291, 293, 295, 297, 299] (by decide +kernel)
theorem wsL_law_in0 : ∀ w ∈ wsL_law0, w ∈ lw_tbl := fun w h => (fun h => (List.mem_append.mp h).elim (fun h => (List.mem_append.mp h).elim (fun h => (List.mem_append.mp h).elim (fun h => (List.mem_append.mp h).elim (fun h => (List.mem_append.mp h).elim (fun h => (List.mem_append.mp h).elim (fun h => (List.mem_append.mp h).elim (fun h => lin_wsL_law0_r1 w h) (fun h => (List.mem_append.mp h).elim (fun h => lin_wsL_law0_r2 w h) (fun h => (List.mem_append.mp h).elim (fun h => lin_wsL_law0_r3 w h) (fun h => (List.mem_append.mp h).elim (fun h => lin_wsL_law0_r4 w h) (fun h => (List.mem_append.mp h).elim (fun h => lin_wsL_law0_r5 w h) (fun h => (List.mem_append.mp h).elim (fun h => lin_wsL_law0_r6 w h) (fun h => (List.mem_append.mp h).elim (fun h => lin_wsL_law0_r7 w h) (fun h => (List.mem_append.mp h).elim (fun h => lin_wsL_law0_r8 w h) (fun h => (List.mem_append.mp h).elim (fun h => lin_wsL_law0_r9 w h) (fun h => (List.mem_append.mp h).elim (fun h => lin_wsL_law0_r10 w h) (fun h => (List.mem_append.mp h).elim (fun h => lin_wsL_law0_r11 w h) (fun h => (List.mem_append.mp h).elim (fun h => lin_wsL_law0_r12 w h) (fun h => (List.mem_append.mp h).elim (fun h => lin_wsL_law0_r13 w h) (fun h => (List.mem_append.mp h).elim (fun h => lin_wsL_law0_r14 w h) (fun h => (List.mem_append.mp h).elim (fun h => lin_wsL_law0_r15 w h) (fun h => (List.mem_append.mp h).elim (fun h => lin_wsL_law0_r16 w h) (fun h => (List.mem_append.mp h).elim (fun h => lin_wsL_law0_r17 w h) (fun h => (List.mem_append.mp h).elim (fun h => lin_wsL_law0_r18 w h) (fun h => (List.mem_append.mp h).elim (fun h => lin_wsL_law0_r19 w h) (fun h => lin_wsL_law0_r20 w h)))))))))))))))))))) (fun h => lin_wsX30 w h)) (fun h => lin_wsX40 w h)) (fun h => lin_wsX00 w h)) (fun h => lin_wsX20 w h)) (fun h => lin_wsX10 w h)) (fun h => absurd h List.not_mem_nil)) h
theorem wsL_law_x0 : ∀ w ∈ (vx_atS RX3 178 "java/lang/ArithmeticException" ["java/lang/RuntimeException", "java/lang/Exception"]).filter goodWord, w ∈ lw_tbl := by decide +kernel
theorem wsL_law_in : ∀ w ∈ wsL_law, w ∈ lw_tbl := fun w h => (List.mem_append.mp h).elim (fun h => wsL_law_in0 w h) (fun h => wsL_law_x0 w h)
theorem inlX0 : ∀ w ∈ wsX00, w ∈ wsL_law := fun _ h => List.mem_append_left _ (List.mem_append_left _ (List.mem_append_left _ (List.mem_append_left _ (List.mem_append_right _ h))))
theorem inX0 : ∀ w ∈ wsX00, w ∈ lw_tbl := fun w h => wsL_law_in w (inlX0 w h)
theorem inlX1 : ∀ w ∈ wsX10, w ∈ wsL_law := fun _ h => List.mem_append_left _ (List.mem_append_left _ (List.mem_append_right _ h))
theorem inX1 : ∀ w ∈ wsX10, w ∈ lw_tbl := fun w h => wsL_law_in w (inlX1 w h)
theorem inlX2 : ∀ w ∈ wsX20, w ∈ wsL_law := fun _ h => List.mem_append_left _ (List.mem_append_left _ (List.mem_append_left _ (List.mem_append_right _ h)))
theorem inX2 : ∀ w ∈ wsX20, w ∈ lw_tbl := fun w h => wsL_law_in w (inlX2 w h)
theorem inlX3 : ∀ w ∈ wsX30, w ∈ wsL_law := fun _ h => List.mem_append_left _ (List.mem_append_left _ (List.mem_append_left _ (List.mem_append_left _ (List.mem_append_left _ (List.mem_append_left _ (List.mem_append_right _ h))))))
theorem inX3 : ∀ w ∈ wsX30, w ∈ lw_tbl := fun w h => wsL_law_in w (inlX3 w h)
theorem inlX4 : ∀ w ∈ wsX40, w ∈ wsL_law := fun _ h => List.mem_append_left _ (List.mem_append_left _ (List.mem_append_left _ (List.mem_append_left _ (List.mem_append_left _ (List.mem_append_right _ h)))))
theorem inX4 : ∀ w ∈ wsX40, w ∈ lw_tbl := fun w h => wsL_law_in w (inlX4 w h)
theorem inJ9 : ∀ w ∈ wsJ90, w ∈ lw_tbl := by decide +kernel
theorem inJ0 : ∀ w ∈ wsJ00, w ∈ lw_tbl := by decide +kernel
theorem inJ10 : ∀ w ∈ wsJ100, w ∈ lw_tbl := by decide +kernel
theorem inJ7 : ∀ w ∈ wsJ70, w ∈ lw_tbl := by decide +kernel
abbrev vwCl : List vw_C := [(RX0, TX0, 3), (RX1, TX1, 6), (RX2, TX2, 8), (RX3, TX3, 11), (RX4, TX4, 34)]
end
section
/-! The memory as the proof sees it: kinds, lengths, whole numbers, references, how many cells. Kinds 0 to 4: objects of vwCl; 5 int[], 6 boolean[], 7 Segment[], 8 int[][], 9 long[] (of numbers that fit an int); from 10 on: not ours -/
abbrev Mem : Type := (Nat → Nat) × (Nat → Nat) × (Nat → Nat → Int32) × (Nat → Nat → Option Nat) × Nat
def mK (m : Mem) : Nat → Nat := m.1
def mN (m : Mem) : Nat → Nat := m.2.1
def mI (m : Mem) : Nat → Nat → Int32 := m.2.2.1
def mR (m : Mem) : Nat → Nat → Option Nat := m.2.2.2.1
def mS (m : Mem) : Nat := m.2.2.2.2
def up2 {α : Type} (f : Nat → Nat → α) (a k : Nat) (v : α) : Nat → Nat → α := fun b j => if b = a ∧ j = k then v else f b j
def setI (m : Mem) (a k : Nat) (v : Int32) : Mem := (m.1, m.2.1, up2 m.2.2.1 a k v, m.2.2.2.1, m.2.2.2.2)
def setR (m : Mem) (a k : Nat) (v : Option Nat) : Mem := (m.1, m.2.1, m.2.2.1, up2 m.2.2.2.1 a k v, m.2.2.2.2)
def allo (m : Mem) (t n : Nat) : Mem := (fun b => if b = m.2.2.2.2 then t else m.1 b, fun b => if b = m.2.2.2.2 then n else m.2.1 b, fun b j => if b = m.2.2.2.2 then 0 else m.2.2.1 b j, fun b j => if b = m.2.2.2.2 then none else m.2.2.2.1 b j, m.2.2.2.2 + 1)
theorem mK_setI (m : Mem) (a k : Nat) (v : Int32) : mK (setI m a k v) = mK m := rfl
theorem mN_setI (m : Mem) (a k : Nat) (v : Int32) : mN (setI m a k v) = mN m := rfl
theorem mR_setI (m : Mem) (a k : Nat) (v : Int32) : mR (setI m a k v) = mR m := rfl
theorem mS_setI (m : Mem) (a k : Nat) (v : Int32) : mS (setI m a k v) = mS m := rfl
theorem mI_setI (m : Mem) (a k : Nat) (v : Int32) (b j : Nat) : mI (setI m a k v) b j = if b = a ∧ j = k then v else mI m b j := rfl
theorem mK_setR (m : Mem) (a k : Nat) (v : Option Nat) : mK (setR m a k v) = mK m := rfl
theorem mN_setR (m : Mem) (a k : Nat) (v : Option Nat) : mN (setR m a k v) = mN m := rfl
theorem mI_setR (m : Mem) (a k : Nat) (v : Option Nat) : mI (setR m a k v) = mI m := rfl
theorem mS_setR (m : Mem) (a k : Nat) (v : Option Nat) : mS (setR m a k v) = mS m := rfl
theorem mR_setR (m : Mem) (a k : Nat) (v : Option Nat) (b j : Nat) : mR (setR m a k v) b j = if b = a ∧ j = k then v else mR m b j := rfl
theorem mK_allo (m : Mem) (t n b : Nat) : mK (allo m t n) b = if b = mS m then t else mK m b := rfl
theorem mN_allo (m : Mem) (t n b : Nat) : mN (allo m t n) b = if b = mS m then n else mN m b := rfl
theorem mI_allo (m : Mem) (t n b j : Nat) : mI (allo m t n) b j = if b = mS m then 0 else mI m b j := rfl
theorem mR_allo (m : Mem) (t n b j : Nat) : mR (allo m t n) b j = if b = mS m then none else mR m b j := rfl
theorem mS_allo (m : Mem) (t n : Nat) : mS (allo m t n) = mS m + 1 := rfl
/-! A step of a program over that memory: an answer and the memory behind it, or none where the machine would throw or the proof's own bounds would be passed -/
abbrev HM (α : Type) : Type := Mem → Option (α × Mem)
def bnd {α β : Type} (x : HM α) (f : α → HM β) : HM β := fun m => match x m with
  | none => none
  | some (a, m') => f a m'
def rt {α : Type} (a : α) : HM α := fun m => some (a, m)
def rz (a : Int32) : HM Int32 := fun m => if a = 0 ∨ a = 1 then some (a, m) else none
def fl {α : Type} : HM α := fun _ => none
def ifc {α : Type} (c : Prop) [Decidable c] (x y : HM α) : HM α := fun m => if c then x m else y m
def ifn {α : Type} (r : Option Nat) (x : HM α) (y : Nat → HM α) : HM α := match r with
  | none => x
  | some a => y a
def gI (t a k : Nat) : HM Int32 := fun m => if mK m a = t then some (mI m a k, m) else none
def gR (t a k : Nat) : HM (Option Nat) := fun m => if mK m a = t then some (mR m a k, m) else none
def gN (t a k : Nat) : HM Nat := fun m => if mK m a = t then (match mR m a k with
  | none => none
  | some b => some (b, m)) else none
def pI (t a k : Nat) (v : Int32) : HM Unit := fun m => if mK m a = t then some ((), setI m a k v) else none
def pR (t a k : Nat) (v : Option Nat) : HM Unit := fun m => if mK m a = t then some ((), setR m a k v) else none
def lI (t a : Nat) (i : Int32) : HM Int32 := fun m => if mK m a = t ∧ ¬ (i < 0 ∨ mN m a ≤ i.toNatClampNeg) then some (mI m a i.toNatClampNeg, m) else none
def sI (t a : Nat) (i v : Int32) : HM Unit := fun m => if mK m a = t ∧ ¬ (i < 0 ∨ mN m a ≤ i.toNatClampNeg) then some ((), setI m a i.toNatClampNeg v) else none
def sZ (a : Nat) (i v : Int32) : HM Unit := fun m => if (mK m a = 6 ∧ ¬ (i < 0 ∨ mN m a ≤ i.toNatClampNeg)) ∧ (v = 0 ∨ v = 1) then some ((), setI m a i.toNatClampNeg v) else none
def lR (t a : Nat) (i : Int32) : HM Nat := fun m => if mK m a = t ∧ ¬ (i < 0 ∨ mN m a ≤ i.toNatClampNeg) then (match mR m a i.toNatClampNeg with
  | none => none
  | some b => some (b, m)) else none
def sR (a : Nat) (i : Int32) (x : Nat) : HM Unit := fun m => if (mK m a = 7 ∧ ¬ (i < 0 ∨ mN m a ≤ i.toNatClampNeg)) ∧ mK m x = 2 then some ((), setR m a i.toNatClampNeg (some x)) else none
def ln (t a : Nat) : HM Int32 := fun m => if mK m a = t then some (Int32.ofNat (mN m a), m) else none
def nO (t : Nat) : HM Nat := fun m => some (mS m, allo m t 0)
def nA (t B : Nat) (n : Int32) : HM Nat := fun m => if ¬ n < 0 ∧ n.toNatClampNeg ≤ B then some (mS m, allo m t n.toNatClampNeg) else none
def dv (x y : Int32) : HM Int32 := fun m => if y = 0 then none else some (x / y, m)
/-- new int[4][100] -/
def allo4 (m : Mem) : Mem := (fun b => if b = m.2.2.2.2 then 8 else if m.2.2.2.2 < b ∧ b ≤ m.2.2.2.2 + 4 then 5 else m.1 b, fun b => if b = m.2.2.2.2 then 4 else if m.2.2.2.2 < b ∧ b ≤ m.2.2.2.2 + 4 then 100 else m.2.1 b, fun b j => if m.2.2.2.2 ≤ b ∧ b ≤ m.2.2.2.2 + 4 then 0 else m.2.2.1 b j, fun b j => if b = m.2.2.2.2 then (if j < 4 then some (m.2.2.2.2 + 1 + j) else none) else if m.2.2.2.2 < b ∧ b ≤ m.2.2.2.2 + 4 then none else m.2.2.2.1 b j, m.2.2.2.2 + 5)
def n4 : HM Nat := fun m => some (mS m, allo4 m)
theorem mK_allo4 (m : Mem) (b : Nat) : mK (allo4 m) b = if b = mS m then 8 else if mS m < b ∧ b ≤ mS m + 4 then 5 else mK m b := rfl
theorem mN_allo4 (m : Mem) (b : Nat) : mN (allo4 m) b = if b = mS m then 4 else if mS m < b ∧ b ≤ mS m + 4 then 100 else mN m b := rfl
theorem mI_allo4 (m : Mem) (b j : Nat) : mI (allo4 m) b j = if mS m ≤ b ∧ b ≤ mS m + 4 then 0 else mI m b j := rfl
theorem mR_allo4 (m : Mem) (b j : Nat) : mR (allo4 m) b j = if b = mS m then (if j < 4 then some (mS m + 1 + j) else none) else if mS m < b ∧ b ≤ mS m + 4 then none else mR m b j := rfl
theorem mS_allo4 (m : Mem) : mS (allo4 m) = mS m + 5 := rfl
/-- System.arraycopy of whole int rows of 100 -/
def cpyI (m : Mem) (a b : Nat) : Mem := (m.1, m.2.1, fun c j => if c = b ∧ j < 100 then m.2.2.1 a j else m.2.2.1 c j, m.2.2.2.1, m.2.2.2.2)
def cp (a : Nat) (sp : Int32) (b : Nat) (dp n : Int32) : HM Unit := fun m => if (mK m a = 5 ∧ mK m b = 5 ∧ a ≠ b) ∧ (mN m a = 100 ∧ mN m b = 100) ∧ (sp = 0 ∧ dp = 0 ∧ n = 100) then some ((), cpyI m a b) else none
theorem mK_cpyI (m : Mem) (a b : Nat) : mK (cpyI m a b) = mK m := rfl
theorem mN_cpyI (m : Mem) (a b : Nat) : mN (cpyI m a b) = mN m := rfl
theorem mR_cpyI (m : Mem) (a b : Nat) : mR (cpyI m a b) = mR m := rfl
theorem mS_cpyI (m : Mem) (a b : Nat) : mS (cpyI m a b) = mS m := rfl
theorem mI_cpyI (m : Mem) (a b c j : Nat) : mI (cpyI m a b) c j = if c = b ∧ j < 100 then mI m a j else mI m c j := rfl
/-! what an equation 'program = some z' says -/
theorem bnd_inv {α β : Type} {x : HM α} {f : α → HM β} {m : Mem} {z : β × Mem} (h : bnd x f m = some z) : ∃ (a : α) (m' : Mem), x m = some (a, m') ∧ f a m' = some z := by
  unfold bnd at h
  cases hx : x m with
  | none => rw [hx] at h; cases h
  | some q => rw [hx] at h; exact ⟨q.1, q.2, rfl, h⟩
theorem ifc_t {α : Type} {c : Prop} {dc : Decidable c} {x y : HM α} {m : Mem} {z : α × Mem} (hc : c) (h : @ifc α c dc x y m = some z) : x m = some z := by
  unfold ifc at h
  rw [if_pos hc] at h
  exact h
theorem ifc_f {α : Type} {c : Prop} {dc : Decidable c} {x y : HM α} {m : Mem} {z : α × Mem} (hc : ¬ c) (h : @ifc α c dc x y m = some z) : y m = some z := by
  unfold ifc at h
  rw [if_neg hc] at h
  exact h
theorem ite_inv {α : Type} {c : Prop} {dc : Decidable c} {x : α} {z : α} (h : (@ite _ c dc (some x) none) = some z) : c ∧ x = z := by
  by_cases hc : c
  · rw [if_pos hc] at h; exact ⟨hc, Option.some.inj h⟩
  · rw [if_neg hc] at h; cases h
end
section
/-! The heap as that memory has it, and a row for each kind of instruction that reads or writes it -/
def isIL : List (List Bool) := [[false, false, true], [true, false, false, true, true, true], [true, true, true, false, false, false, false, true], [false, false, false, true, true, true, true, false, false, false, false], [true, false, false, false, false, true, false, true, false, false, false, false, false, false, false, false, true, true, true, true, true, true, true, false, false, false, false, false, true, false, false, false, false, false]]
def isI (t k : Nat) : Bool := (isIL.getD t []).getD k false
def oV (t : Nat) (I : Nat → Int32) (Rf : Nat → Option Nat) (k : Nat) : Value := if isI t k = true then .int (I k) else va_rf (Rf k)
def aV (t : Nat) (I : Nat → Int32) (Rf : Nat → Option Nat) (j : Nat) : Value := if t = 5 ∨ t = 6 then .int (I j) else if t = 9 then .long (I j).toInt64 else va_rf (Rf j)
def tyA (t : Nat) : FieldType := if t = 5 then .int else if t = 6 then .boolean else if t = 7 then .object "SegmentMerges$Segment" else if t = 8 then .array .int else .long
def mC (D : va_G) (cA : Nat → ClassId) (m : Mem) (a : Nat) (H : Heap) : Prop :=
  (mK m a < 5 → ∃ r : vw_C, vwCl[mK m a]? = some r ∧ t_OB a (D.1 (mK m a)) r.2.2 (D.2 (mK m a)) H (oV (mK m a) (mI m a) (mR m a))) ∧
  (5 ≤ mK m a → mK m a < 10 → H[a]? = some (arrV (cA (mK m a)) (mN m a) (aV (mK m a) (mI m a) (mR m a))))
def mH (D : va_G) (cA : Nat → ClassId) (base : Nat) (m : Mem) (H : Heap) : Prop := H.size = mS m ∧ base ≤ mS m ∧ (∀ a, mK m a < 10 → base ≤ a ∧ a < mS m) ∧ ∀ a, mC D cA m a H
def mT (D : va_G) (cA : Nat → ClassId) (U : State) : Prop := (∀ (k : Nat) (q : vw_C), vwCl[k]? = some q → u_Kn U q.1 q.2.1 q.2.2 (D.1 k) (D.2 k)) ∧ (∀ t, 5 ≤ t → t < 10 → ArrOfT U (cA t) (tyA t) ∧ va_RA U (cA t) (tyA t)) ∧ va_AO "SegmentMerges$Segment" U ∧ (Cond.arrayOver (.array .int)).before #[] U = true ∧ va_Nw (.methodLinkNest RX3 15 yX0_init RX3) U
def mU (D : va_G) (cA : Nat → ClassId) (base : Nat) (m : Mem) (U : State) : Prop := mH D cA base m U.heap ∧ mT D cA U
def mA (base : Nat) : Nat → Prop := fun q => base ≤ q
theorem AOA_moved {u U : State} (hvm : u.vm.Alike U.vm) (h : (Cond.arrayOver (.array .int)).before #[] u = true) : (Cond.arrayOver (.array .int)).before #[] U = true := by
  obtain ⟨comp, c, k, h1, h2, h3, h4, h5⟩ := arrayOverA_spec h
  obtain ⟨k', hk', he⟩ := hvm.2.2 _ _ h3
  have hi : (U.vm.classes.findIdx? fun (x : Class) => match x.kind with | .array component _ => component == comp | _ => false) = some c := by
    rw [hvm.findIdx?_eq _ (fun _ => rfl)]; exact h2
  have hkind : k'.kind = .array comp (.array .int) := by rw [he]; exact h4
  have f1 : U.vm.findClass (FieldType.array .int).toString = some comp := by rw [hvm.findClass]; exact h1
  have f2 : U.vm.findClass ("[" ++ (FieldType.array .int).toString) = some c := by rw [hvm.findClass]; exact h5
  unfold Cond.before Cond.holds
  simp only [Cond.value]
  rw [f1, Option.bind_some]
  refine (congrArg (fun o : Option Nat => (o.bind (fun c => (U.vm.classes[c]?).map fun (k : Class) => match k.kind with | .array _ ty => decide (ty = FieldType.array .int) && decide (U.vm.findClass ("[" ++ (FieldType.array .int).toString) = some c) | _ => false) == some true)) hi).trans ?_
  simp [hk', hkind, f2]
theorem mT.moved {D : va_G} {cA : Nat → ClassId} {u U : State} (hW : u.WarmedH U.vm) (h : mT D cA u) : mT D cA U := ⟨fun c q hq => u_Kn_moved hW.alike (h.1 c q hq), fun t h1 h2 => ⟨arrOfT_moved hW.alike (h.2.1 t h1 h2).1, (h.2.1 t h1 h2).2.moved hW.alike⟩, va_AO.moved hW.alike h.2.2.1, AOA_moved hW.alike h.2.2.2.1, va_Nw.warmM hW h.2.2.2.2⟩
theorem mT.same {D : va_G} {cA : Nat → ClassId} {u U : State} (hvm : u.vm = U.vm) (h : mT D cA u) : mT D cA U := by
  have ha : u.vm.Alike U.vm := by rw [← hvm]; exact Vm.Alike.refl u.vm
  exact ⟨fun c q hq => u_Kn_moved ha (h.1 c q hq), fun t h1 h2 => ⟨arrOfT_moved ha (h.2.1 t h1 h2).1, (h.2.1 t h1 h2).2.moved ha⟩, va_AO.moved ha h.2.2.1, AOA_moved ha h.2.2.2.1, va_Nw.same rfl hvm h.2.2.2.2⟩
theorem mC_keep {D : va_G} {cA : Nat → ClassId} {m m' : Mem} {b : Nat} {H H' : Heap} (hK : mK m' b = mK m b) (hN : mN m' b = mN m b) (hI : mI m' b = mI m b) (hR : mR m' b = mR m b) (hh : mK m b < 10 → H'[b]? = H[b]?) (h : mC D cA m b H) : mC D cA m' b H' := by
  unfold mC at h ⊢
  rw [hK, hN, hI, hR]
  refine ⟨fun q => ?_, fun q1 q2 => (hh q2).trans (h.2 q1 q2)⟩
  obtain ⟨r, h1, h2⟩ := h.1 q
  exact ⟨r, h1, h2.kept (hh (by omega))⟩
theorem mH_set {D : va_G} {cA : Nat → ClassId} {base : Nat} {m m' : Mem} {a : Nat} {H H' : Heap} (h : mH D cA base m H) (hK : mK m' = mK m) (hN : mN m' = mN m) (hS : mS m' = mS m) (hI : ∀ b, b ≠ a → mI m' b = mI m b) (hR : ∀ b, b ≠ a → mR m' b = mR m b) (hz : H'.size = H.size) (ho : ∀ q, q ≠ a → H'[q]? = H[q]?) (ha : mC D cA m' a H') : mH D cA base m' H' := by
  obtain ⟨h1, h2, h3, h4⟩ := h
  refine ⟨by rw [hz, hS]; exact h1, by rw [hS]; exact h2, by rw [hK, hS]; exact h3, fun b => ?_⟩
  by_cases hb : b = a
  · subst hb; exact ha
  · exact mC_keep (by rw [hK]) (by rw [hN]) (hI b hb) (hR b hb) (fun _ => ho b hb) (h4 b)
theorem up2_ne {α : Type} {f : Nat → Nat → α} {a k : Nat} {v : α} {b : Nat} (h : b ≠ a) : up2 f a k v b = f b := by
  funext j
  simp [up2, h]
theorem mI_setI_ne {m : Mem} {a k : Nat} {v : Int32} {b : Nat} (h : b ≠ a) : mI (setI m a k v) b = mI m b := up2_ne h
theorem mR_setR_ne {m : Mem} {a k : Nat} {v : Option Nat} {b : Nat} (h : b ≠ a) : mR (setR m a k v) b = mR m b := up2_ne h
section MR
variable {p : Program} {l : Launch} {e : Env} {R : Room} {s : State} {m : MethodId} {args : Array Value} {below : List Frame} {meth : Method} {c : Code} {H : Heap} {locs : List Loc} {cells slots : Nat} {Q : State → Prop}
variable {cc : ByteArray} {nL pc : Nat} {ls : Array Slot} {rest : List Value} {D : va_G} {cA : Nat → ClassId} {base : Nat} {H0 : Heap} {Ts : List Cond} {own : String} {β : Type} {mm : Mem} {z : β × Mem}
theorem r_obj (hT : mT D cA s) (hH : mH D cA base mm H) {t a : Nat} {Cn : String} {T : u_T} {N : Nat} (hc : vwCl[t]? = some (Cn, T, N)) (ht : t < 5) (hk : mK mm a = t) : t_OB a (D.1 t) N (D.2 t) H (oV t (mI mm a) (mR mm a)) := by
  obtain ⟨r, hr, hq⟩ := (hH.2.2.2 a).1 (by rw [hk]; exact ht)
  rw [hk] at hr hq
  rw [Option.some.inj (hr.symm.trans hc)] at hq
  exact hq
theorem r_getf {t k a index : Nat} {Cn : String} {T : u_T} {N : Nat} (C : CallFix p m c cc nL s args Ts own) (hT : mT D cA s) (hH : mH D cA base mm H) (hc : vwCl[t]? = some (Cn, T, N)) (hin : ∀ w ∈ u_ws Cn T N, w ∈ Ts) (hk : k < N) (ht : t < 5) (hlink : Cond.fieldLink own index (T k).1 (T k).2.1 (T k).2.2.1 ∈ Ts) (hdg : decode cc pc = .ok (.getfield index, 3)) (hK : mK mm a = t)
    (kk : W p l e R s m args below meth c H locs cells slots Q (F0 m (pc + 3) ls (oV t (mI mm a) (mR mm a) k :: rest))) : W p l e R s m args below meth c H locs cells slots Q (F0 m pc ls (.ref a :: rest)) := by
  obtain ⟨cell, q1, q2, q3, q4⟩ := r_obj hT hH hc ht hK
  obtain ⟨hS, hfc, kC, hkC, hkind⟩ := hT.1 t _ hc
  obtain ⟨cf, kf, fi, f, hi, hsl⟩ := hS k hk
  refine W.getf C.1 C.2.1 C.2.2.2.1 (C.2.2.2.2 _ hlink) hi (u_facts hfc hkC (u_lays C.2.2.2.2 hin hk) hi).1 q1 (by rw [q3]; exact fun h => by cases h) ?_ rfl rfl hdg kk
  rw [hsl, q4 k hk]
theorem r_gI {K : Int32 → HM β} {t k a index : Nat} {Cn : String} {T : u_T} {N : Nat} (C : CallFix p m c cc nL s args Ts own) (hT : mT D cA s) (hH : mH D cA base mm H) (hc : vwCl[t]? = some (Cn, T, N)) (hin : ∀ w ∈ u_ws Cn T N, w ∈ Ts) (hk : k < N) (ht : t < 5) (hi : isI t k = true) (hlink : Cond.fieldLink own index (T k).1 (T k).2.1 (T k).2.2.1 ∈ Ts) (hdg : decode cc pc = .ok (.getfield index, 3)) (h : bnd (gI t a k) K mm = some z)
    (kk : ∀ v, K v mm = some z → W p l e R s m args below meth c H locs cells slots Q (F0 m (pc + 3) ls (.int v :: rest))) : W p l e R s m args below meth c H locs cells slots Q (F0 m pc ls (.ref a :: rest)) := by
  obtain ⟨v, m', h1, h2⟩ := bnd_inv h
  obtain ⟨hK, e1⟩ := ite_inv h1
  cases e1
  refine r_getf C hT hH hc hin hk ht hlink hdg hK ?_
  rw [show oV t (mI mm a) (mR mm a) k = .int (mI mm a k) by simp [oV, hi]]
  exact kk _ h2
theorem r_gR {K : Option Nat → HM β} {t k a index : Nat} {Cn : String} {T : u_T} {N : Nat} (C : CallFix p m c cc nL s args Ts own) (hT : mT D cA s) (hH : mH D cA base mm H) (hc : vwCl[t]? = some (Cn, T, N)) (hin : ∀ w ∈ u_ws Cn T N, w ∈ Ts) (hk : k < N) (ht : t < 5) (hi : isI t k = false) (hlink : Cond.fieldLink own index (T k).1 (T k).2.1 (T k).2.2.1 ∈ Ts) (hdg : decode cc pc = .ok (.getfield index, 3)) (h : bnd (gR t a k) K mm = some z)
    (kk : ∀ v, K v mm = some z → W p l e R s m args below meth c H locs cells slots Q (F0 m (pc + 3) ls (va_rf v :: rest))) : W p l e R s m args below meth c H locs cells slots Q (F0 m pc ls (.ref a :: rest)) := by
  obtain ⟨v, m', h1, h2⟩ := bnd_inv h
  obtain ⟨hK, e1⟩ := ite_inv h1
  cases e1
  refine r_getf C hT hH hc hin hk ht hlink hdg hK ?_
  rw [show oV t (mI mm a) (mR mm a) k = va_rf (mR mm a k) by simp [oV, hi]]
  exact kk _ h2
theorem gN_inv {t a k : Nat} {b : Nat} {m' : Mem} (h : gN t a k mm = some (b, m')) : mK mm a = t ∧ mR mm a k = some b ∧ m' = mm := by
  unfold gN at h
  by_cases hc : mK mm a = t
  · rw [if_pos hc] at h
    cases hr : mR mm a k with
    | none => rw [hr] at h; cases h
    | some q => rw [hr] at h; cases h; exact ⟨hc, rfl, rfl⟩
  · rw [if_neg hc] at h; cases h
theorem r_gN {K : Nat → HM β} {t k a index : Nat} {Cn : String} {T : u_T} {N : Nat} (C : CallFix p m c cc nL s args Ts own) (hT : mT D cA s) (hH : mH D cA base mm H) (hc : vwCl[t]? = some (Cn, T, N)) (hin : ∀ w ∈ u_ws Cn T N, w ∈ Ts) (hk : k < N) (ht : t < 5) (hi : isI t k = false) (hlink : Cond.fieldLink own index (T k).1 (T k).2.1 (T k).2.2.1 ∈ Ts) (hdg : decode cc pc = .ok (.getfield index, 3)) (h : bnd (gN t a k) K mm = some z)
    (kk : ∀ v, K v mm = some z → W p l e R s m args below meth c H locs cells slots Q (F0 m (pc + 3) ls (.ref v :: rest))) : W p l e R s m args below meth c H locs cells slots Q (F0 m pc ls (.ref a :: rest)) := by
  obtain ⟨v, m', h1, h2⟩ := bnd_inv h
  obtain ⟨hK, e1, rfl⟩ := gN_inv h1
  refine r_getf C hT hH hc hin hk ht hlink hdg hK ?_
  rw [show oV t (mI m' a) (mR m' a) k = .ref v by simp [oV, hi, e1, va_rf]]
  exact kk _ h2
/-- what a store into a field leaves -/
theorem r_putf {t k a index : Nat} {Cn : String} {T : u_T} {N : Nat} {ty0 : Nat → FieldType} {m2 : Mem} {v : Value} (C : CallFix p m c cc nL s args Ts own) (hT : mT D cA s) (hH : mH D cA base mm H) (hS0 : va_S (mA base) H0 H locs) (hc : vwCl[t]? = some (Cn, T, N)) (hin : ∀ w ∈ u_ws Cn T N, w ∈ Ts) (hty : ∀ k, k < N → parseFieldDescriptor (T k).2.2.1 = some (ty0 k)) (hnm : ∀ a, a < N → ∀ b, b < N → a ≠ b → (T a).2.1 ≠ (T b).2.1) (hk : k < N) (ht : t < 5) (hlink : Cond.fieldLink own index (T k).1 (T k).2.1 (T k).2.2.1 ∈ Ts) (hfin : (T k).2.2.2 = false ∨ ((T k).2.2.2 = true ∧ meth.name = "<init>" ∧ (T k).1 = own)) (hdg : decode cc pc = .ok (.putfield index, 3)) (hK : mK mm a = t)
    (hn : narrow (ty0 k) v = v) (hfit : fits (ty0 k) v = true) (e1 : mK m2 = mK mm) (e2 : mN m2 = mN mm) (e3 : mS m2 = mS mm) (e4 : ∀ b, b ≠ a → mI m2 b = mI mm b) (e5 : ∀ b, b ≠ a → mR m2 b = mR mm b) (e6 : ∀ j, j < N → updV (oV t (mI mm a) (mR mm a)) k v j = oV t (mI m2 a) (mR m2 a) j)
    (kk : ∀ (H1 : Heap) (locs1 : List Loc), mH D cA base m2 H1 → va_S (mA base) H0 H1 locs1 → W p l e R s m args below meth c H1 locs1 cells slots Q (F0 m (pc + 3) ls rest)) : W p l e R s m args below meth c H locs cells slots Q (F0 m pc ls (v :: .ref a :: rest)) := by
  obtain ⟨cell, q1, q2, q3, q4⟩ := r_obj hT hH hc ht hK
  obtain ⟨hS, hfc, kC, hkC, hkind⟩ := hT.1 t _ hc
  obtain ⟨cf, kf, fi, f, hi, hsl⟩ := hS k hk
  have hap : ∀ x y, x < N → y < N → x ≠ y → D.2 t x ≠ D.2 t y := by
    intro x y hx hy hne
    obtain ⟨_, _, _, fa, hia, ea⟩ := hS x hx
    obtain ⟨_, _, _, fb, hib, eb⟩ := hS y hy
    rw [← ea, ← eb]
    refine u_apart (u_lays C.2.2.2.2 hin hx) (u_lays C.2.2.2.2 hin hy) hia hib ?_
    rw [(State.fieldFound?_type hia (hty x hx)).1, (State.fieldFound?_type hib (hty y hy)).1]
    exact hnm x hx y hy hne
  have hst := (u_facts hfc hkC (u_lays C.2.2.2.2 hin hk) hi).1
  have hd := hty k hk
  have hb : base ≤ a := (hH.2.2.1 a (by rw [hK]; omega)).1
  have fin : ∀ H' : Heap, H'[a]? = some (cell.setSlot f.slot v) → H'.size = H.size → (∀ q, q ≠ a → H'[q]? = H[q]?) → W p l e R s m args below meth c H' (locs ++ [⟨a, f.slot⟩]) cells slots Q (F0 m (pc + 3) ls rest) := by
    intro H' g1 g2 g3
    refine kk H' _ (mH_set hH e1 e2 e3 e4 e5 g2 g3 ?_) (hS0.put g2 g3 hb)
    have ek : mK m2 a = t := by rw [e1]; exact hK
    unfold mC
    rw [ek]
    refine ⟨fun _ => ⟨_, hc, ?_⟩, fun q => absurd ht (by omega)⟩
    rw [hsl] at g1
    exact t_OB.to (V := updV (oV t (mI mm a) (mR mm a)) k v) ⟨_, g1, q2, q3, t_set q4 hap hk v⟩ e6
  have hlay := C.2.2.2.2 _ (hin _ (u_in_lay hk))
  unfold u_lay at hlay
  rcases hfin with hfin | ⟨hfin, hin2, hdecl⟩
  · rw [if_neg (by rw [hfin]; decide)] at hlay
    have h6 := u_store hfc hkC hkind hlay hi hd hn hfit
    exact W.putK C.1 C.2.1 (f := f) ⟨C.2.2.2.1, C.2.2.2.2 _ hlink, ⟨_, _, _, hi⟩, hst⟩ (by rw [q2]; exact h6) q1 q3 (by rw [hsl]; exact k2_hasslot (q4 k hk)) rfl rfl hdg fin
  · rw [if_pos hfin] at hlay
    have hcf : m.cls = cf := by
      obtain ⟨_, _, c', _, _, _, -, -, hf', -, -, -, hown2, -⟩ := Cond.laysFinal_spec hlay
      have e9 : c' = cf := by have := hi.symm.trans hf'; simp at this; exact this.1.symm
      rw [hdecl] at hown2
      rw [← e9]; exact Option.some.inj (C.2.2.2.1.symm.trans hown2)
    have h6 := u_fits hfc hkC hkind (Or.inr hlay) hi hd hn hfit
    exact W.putFinK C.1 C.2.1 C.2.2.2.1 (C.2.2.2.2 _ hlink) hi hst hcf hin2 (by rw [q2]; exact h6) q1 q3 (by rw [hsl]; exact k2_hasslot (q4 k hk)) rfl rfl hdg fin
theorem r_pI {K : Unit → HM β} {t k a index : Nat} {Cn : String} {T : u_T} {N : Nat} {ty0 : Nat → FieldType} {v : Int32} (C : CallFix p m c cc nL s args Ts own) (hT : mT D cA s) (hH : mH D cA base mm H) (hS0 : va_S (mA base) H0 H locs) (hc : vwCl[t]? = some (Cn, T, N)) (hin : ∀ w ∈ u_ws Cn T N, w ∈ Ts) (hty : ∀ k, k < N → parseFieldDescriptor (T k).2.2.1 = some (ty0 k)) (hnm : ∀ a, a < N → ∀ b, b < N → a ≠ b → (T a).2.1 ≠ (T b).2.1) (hk : k < N) (ht : t < 5) (hi : isI t k = true) (hyk : ty0 k = .int) (hlink : Cond.fieldLink own index (T k).1 (T k).2.1 (T k).2.2.1 ∈ Ts) (hfin : (T k).2.2.2 = false ∨ ((T k).2.2.2 = true ∧ meth.name = "<init>" ∧ (T k).1 = own)) (hdg : decode cc pc = .ok (.putfield index, 3)) (h : bnd (pI t a k v) K mm = some z)
    (kk : ∀ (m2 : Mem) (H1 : Heap) (locs1 : List Loc), mH D cA base m2 H1 → va_S (mA base) H0 H1 locs1 → K () m2 = some z → W p l e R s m args below meth c H1 locs1 cells slots Q (F0 m (pc + 3) ls rest)) : W p l e R s m args below meth c H locs cells slots Q (F0 m pc ls (.int v :: .ref a :: rest)) := by
  obtain ⟨u, m', h1, h2⟩ := bnd_inv h
  obtain ⟨hK, e1⟩ := ite_inv h1
  cases e1
  refine r_putf (m2 := setI mm a k v) C hT hH hS0 hc hin hty hnm hk ht hlink hfin hdg hK (by rw [hyk]; rfl) (by rw [hyk]; rfl) rfl rfl rfl (fun b hb => mI_setI_ne hb) (fun b hb => rfl) (fun j _ => ?_) (fun H1 locs1 a1 a2 => kk _ H1 locs1 a1 a2 h2)
  by_cases hj : j = k
  · subst hj; simp [updV, oV, hi, mI_setI]
  · simp [updV, oV, hj, mI_setI, mR_setI]
theorem r_pR {K : Unit → HM β} {t k a b index : Nat} {Cn : String} {T : u_T} {N : Nat} {ty0 : Nat → FieldType} (C : CallFix p m c cc nL s args Ts own) (hT : mT D cA s) (hH : mH D cA base mm H) (hS0 : va_S (mA base) H0 H locs) (hc : vwCl[t]? = some (Cn, T, N)) (hin : ∀ w ∈ u_ws Cn T N, w ∈ Ts) (hty : ∀ k, k < N → parseFieldDescriptor (T k).2.2.1 = some (ty0 k)) (hnm : ∀ a, a < N → ∀ b, b < N → a ≠ b → (T a).2.1 ≠ (T b).2.1) (hk : k < N) (ht : t < 5) (hi : isI t k = false) (hn : narrow (ty0 k) (.ref b) = .ref b) (hfit : fits (ty0 k) (.ref b) = true) (hlink : Cond.fieldLink own index (T k).1 (T k).2.1 (T k).2.2.1 ∈ Ts) (hfin : (T k).2.2.2 = false ∨ ((T k).2.2.2 = true ∧ meth.name = "<init>" ∧ (T k).1 = own)) (hdg : decode cc pc = .ok (.putfield index, 3)) (h : bnd (pR t a k (some b)) K mm = some z)
    (kk : ∀ (m2 : Mem) (H1 : Heap) (locs1 : List Loc), mH D cA base m2 H1 → va_S (mA base) H0 H1 locs1 → K () m2 = some z → W p l e R s m args below meth c H1 locs1 cells slots Q (F0 m (pc + 3) ls rest)) : W p l e R s m args below meth c H locs cells slots Q (F0 m pc ls (.ref b :: .ref a :: rest)) := by
  obtain ⟨u, m', h1, h2⟩ := bnd_inv h
  obtain ⟨hK, e1⟩ := ite_inv h1
  cases e1
  refine r_putf (m2 := setR mm a k (some b)) C hT hH hS0 hc hin hty hnm hk ht hlink hfin hdg hK hn hfit rfl rfl rfl (fun b hb => rfl) (fun b hb => mR_setR_ne hb) (fun j _ => ?_) (fun H1 locs1 a1 a2 => kk _ H1 locs1 a1 a2 h2)
  by_cases hj : j = k
  · subst hj; simp [updV, oV, hi, mR_setR, va_rf]
  · simp [updV, oV, hj, mR_setR, mI_setR]
theorem r_pRN {K : Unit → HM β} {t k a index : Nat} {Cn : String} {T : u_T} {N : Nat} {ty0 : Nat → FieldType} (C : CallFix p m c cc nL s args Ts own) (hT : mT D cA s) (hH : mH D cA base mm H) (hS0 : va_S (mA base) H0 H locs) (hc : vwCl[t]? = some (Cn, T, N)) (hin : ∀ w ∈ u_ws Cn T N, w ∈ Ts) (hty : ∀ k, k < N → parseFieldDescriptor (T k).2.2.1 = some (ty0 k)) (hnm : ∀ a, a < N → ∀ b, b < N → a ≠ b → (T a).2.1 ≠ (T b).2.1) (hk : k < N) (ht : t < 5) (hi : isI t k = false) (hn : narrow (ty0 k) .null = .null) (hfit : fits (ty0 k) .null = true) (hlink : Cond.fieldLink own index (T k).1 (T k).2.1 (T k).2.2.1 ∈ Ts) (hfin : (T k).2.2.2 = false ∨ ((T k).2.2.2 = true ∧ meth.name = "<init>" ∧ (T k).1 = own)) (hdg : decode cc pc = .ok (.putfield index, 3)) (h : bnd (pR t a k none) K mm = some z)
    (kk : ∀ (m2 : Mem) (H1 : Heap) (locs1 : List Loc), mH D cA base m2 H1 → va_S (mA base) H0 H1 locs1 → K () m2 = some z → W p l e R s m args below meth c H1 locs1 cells slots Q (F0 m (pc + 3) ls rest)) : W p l e R s m args below meth c H locs cells slots Q (F0 m pc ls (.null :: .ref a :: rest)) := by
  obtain ⟨u, m', h1, h2⟩ := bnd_inv h
  obtain ⟨hK, e1⟩ := ite_inv h1
  cases e1
  refine r_putf (m2 := setR mm a k none) C hT hH hS0 hc hin hty hnm hk ht hlink hfin hdg hK hn hfit rfl rfl rfl (fun b hb => rfl) (fun b hb => mR_setR_ne hb) (fun j _ => ?_) (fun H1 locs1 a1 a2 => kk _ H1 locs1 a1 a2 h2)
  by_cases hj : j = k
  · subst hj; simp [updV, oV, hi, mR_setR, va_rf]
  · simp [updV, oV, hj, mR_setR, mI_setR]
/-! arrays -/
theorem r_arr (hH : mH D cA base mm H) {t a : Nat} (hk : mK mm a = t) (h5 : 5 ≤ t) (h10 : t < 10) : H[a]? = some (arrV (cA t) (mN mm a) (aV t (mI mm a) (mR mm a))) := by
  have h := (hH.2.2.2 a).2 (by rw [hk]; exact h5) (by rw [hk]; exact h10)
  rw [hk] at h
  exact h
theorem r_lI {K : Int32 → HM β} {a : Nat} {i : Int32} (C : CallFix p m c cc nL s args Ts own) (hT : mT D cA s) (hH : mH D cA base mm H) (hdg : decode cc pc = .ok (.iaload, 1)) (h : bnd (lI 5 a i) K mm = some z)
    (kk : ∀ v, K v mm = some z → W p l e R s m args below meth c H locs cells slots Q (F0 m (pc + 1) ls (.int v :: rest))) : W p l e R s m args below meth c H locs cells slots Q (F0 m pc ls (.int i :: .ref a :: rest)) := by
  obtain ⟨v, m', h1, h2⟩ := bnd_inv h
  obtain ⟨⟨hK, hin⟩, e1⟩ := ite_inv h1
  cases e1
  have hlt : i.toNatClampNeg < mN mm a := Nat.not_le.mp fun q => hin (Or.inr q)
  exact W.iald (v := .int (mI mm a i.toNatClampNeg)) C.1 C.2.1 (r_arr hH hK (by decide) (by decide)) ((hT.2.1 5 (by decide) (by decide)).1 _ _) (fun q => by cases q) (by rw [arrV_size]; exact hin) (by rw [arrV_read _ _ hlt]; simp [aV]) rfl rfl hdg (kk _ h2)
theorem r_lZ {K : Int32 → HM β} {a : Nat} {i : Int32} (C : CallFix p m c cc nL s args Ts own) (hT : mT D cA s) (hH : mH D cA base mm H) (hdg : decode cc pc = .ok (.baload, 1)) (h : bnd (lI 6 a i) K mm = some z)
    (kk : ∀ v, K v mm = some z → W p l e R s m args below meth c H locs cells slots Q (F0 m (pc + 1) ls (.int v :: rest))) : W p l e R s m args below meth c H locs cells slots Q (F0 m pc ls (.int i :: .ref a :: rest)) := by
  obtain ⟨v, m', h1, h2⟩ := bnd_inv h
  obtain ⟨⟨hK, hin⟩, e1⟩ := ite_inv h1
  cases e1
  have hlt : i.toNatClampNeg < mN mm a := Nat.not_le.mp fun q => hin (Or.inr q)
  exact W.zald (v := .int (mI mm a i.toNatClampNeg)) C.1 C.2.1 (r_arr hH hK (by decide) (by decide)) ((hT.2.1 6 (by decide) (by decide)).1 _ _) (fun q => by cases q) (by rw [arrV_size]; exact hin) (by rw [arrV_read _ _ hlt]; simp [aV]) rfl rfl hdg (kk _ h2)
theorem lR_inv {t a : Nat} {i : Int32} {b : Nat} {m' : Mem} (h : lR t a i mm = some (b, m')) : (mK mm a = t ∧ ¬ (i < 0 ∨ mN mm a ≤ i.toNatClampNeg)) ∧ mR mm a i.toNatClampNeg = some b ∧ m' = mm := by
  unfold lR at h
  by_cases hc : mK mm a = t ∧ ¬ (i < 0 ∨ mN mm a ≤ i.toNatClampNeg)
  · rw [if_pos hc] at h
    cases hr : mR mm a i.toNatClampNeg with
    | none => rw [hr] at h; cases h
    | some q => rw [hr] at h; cases h; exact ⟨hc, rfl, rfl⟩
  · rw [if_neg hc] at h; cases h
theorem r_lR {K : Nat → HM β} {t a : Nat} {i : Int32} (C : CallFix p m c cc nL s args Ts own) (hT : mT D cA s) (hH : mH D cA base mm H) (ht : t = 7 ∨ t = 8) (hdg : decode cc pc = .ok (.aaload, 1)) (h : bnd (lR t a i) K mm = some z)
    (kk : ∀ v, K v mm = some z → W p l e R s m args below meth c H locs cells slots Q (F0 m (pc + 1) ls (.ref v :: rest))) : W p l e R s m args below meth c H locs cells slots Q (F0 m pc ls (.int i :: .ref a :: rest)) := by
  obtain ⟨v, m', h1, h2⟩ := bnd_inv h
  obtain ⟨⟨hK, hin⟩, e1, rfl⟩ := lR_inv h1
  have hlt : i.toNatClampNeg < mN m' a := Nat.not_le.mp fun q => hin (Or.inr q)
  exact W.aald (v := .ref v) (ty := tyA t) C.1 C.2.1 (r_arr hH hK (by omega) (by omega)) ((hT.2.1 t (by omega) (by omega)).1 _ _) (by rcases ht with rfl | rfl <;> rfl) (fun q => by cases q) (by rw [arrV_size]; exact hin) (by rw [arrV_read _ _ hlt]; rcases ht with rfl | rfl <;> simp [aV, e1, va_rf]) rfl rfl hdg (kk _ h2)
theorem r_ln {K : Int32 → HM β} {t a : Nat} (C : CallFix p m c cc nL s args Ts own) (hT : mT D cA s) (hH : mH D cA base mm H) (h5 : 5 ≤ t) (h10 : t < 10) (hdg : decode cc pc = .ok (.arraylength, 1)) (h : bnd (ln t a) K mm = some z)
    (kk : ∀ v, K v mm = some z → W p l e R s m args below meth c H locs cells slots Q (F0 m (pc + 1) ls (.int v :: rest))) : W p l e R s m args below meth c H locs cells slots Q (F0 m pc ls (.ref a :: rest)) := by
  obtain ⟨v, m', h1, h2⟩ := bnd_inv h
  obtain ⟨hK, e1⟩ := ite_inv h1
  cases e1
  exact W.alen (n := Int32.ofNat (mN mm a)) C.1 C.2.1 (r_arr hH hK h5 h10) ((hT.2.1 t h5 h10).1 _ _) (by rw [arrV_size] <;> rfl) rfl rfl hdg (kk _ h2)
theorem r_arrset {t a k : Nat} {v : Value} {m2 : Mem} (hH : mH D cA base mm H) (hS0 : va_S (mA base) H0 H locs) (hK : mK mm a = t) (h5 : 5 ≤ t) (h10 : t < 10) (e1 : mK m2 = mK mm) (e2 : mN m2 = mN mm) (e3 : mS m2 = mS mm) (e4 : ∀ b, b ≠ a → mI m2 b = mI mm b) (e5 : ∀ b, b ≠ a → mR m2 b = mR mm b) (e6 : updV (aV t (mI mm a) (mR mm a)) k v = aV t (mI m2 a) (mR m2 a))
    {H1 : Heap} (g1 : H1[a]? = some ((arrV (cA t) (mN mm a) (aV t (mI mm a) (mR mm a))).setSlot k v)) (g2 : H1.size = H.size) (g3 : ∀ q, q ≠ a → H1[q]? = H[q]?) : mH D cA base m2 H1 ∧ va_S (mA base) H0 H1 (locs ++ [⟨a, k⟩]) := by
  refine ⟨mH_set hH e1 e2 e3 e4 e5 g2 g3 ?_, hS0.put g2 g3 (hH.2.2.1 a (by rw [hK]; exact h10)).1⟩
  have ek : mK m2 a = t := by rw [e1]; exact hK
  unfold mC
  rw [ek, e2]
  refine ⟨fun q => absurd h5 (by omega), fun _ _ => ?_⟩
  rw [g1, arrV_store, e6]
theorem r_sI {K : Unit → HM β} {a : Nat} {i v : Int32} (C : CallFix p m c cc nL s args Ts own) (hT : mT D cA s) (hH : mH D cA base mm H) (hS0 : va_S (mA base) H0 H locs) (hdg : decode cc pc = .ok (.iastore, 1)) (h : bnd (sI 5 a i v) K mm = some z)
    (kk : ∀ (m2 : Mem) (H1 : Heap) (locs1 : List Loc), mH D cA base m2 H1 → va_S (mA base) H0 H1 locs1 → K () m2 = some z → W p l e R s m args below meth c H1 locs1 cells slots Q (F0 m (pc + 1) ls rest)) : W p l e R s m args below meth c H locs cells slots Q (F0 m pc ls (.int v :: .int i :: .ref a :: rest)) := by
  obtain ⟨u, m', h1, h2⟩ := bnd_inv h
  obtain ⟨⟨hK, hin⟩, e1⟩ := ite_inv h1
  cases e1
  refine W.iast C.1 C.2.1 (r_arr hH hK (by decide) (by decide)) ((hT.2.1 5 (by decide) (by decide)).1 _ _) (fun q => by cases q) (by rw [arrV_size]; exact hin) rfl rfl hdg fun H1 g1 g2 g3 => ?_
  obtain ⟨a1, a2⟩ := r_arrset (m2 := setI mm a i.toNatClampNeg v) hH hS0 hK (by decide) (by decide) rfl rfl rfl (fun b hb => mI_setI_ne hb) (fun b hb => rfl) (by
    funext j
    by_cases hj : j = i.toNatClampNeg <;> simp [updV, aV, hj, mI_setI]) g1 g2 g3
  exact kk _ H1 _ a1 a2 h2
theorem r_sZ {K : Unit → HM β} {a : Nat} {i v : Int32} (C : CallFix p m c cc nL s args Ts own) (hT : mT D cA s) (hH : mH D cA base mm H) (hS0 : va_S (mA base) H0 H locs) (hdg : decode cc pc = .ok (.bastore, 1)) (h : bnd (sZ a i v) K mm = some z)
    (kk : ∀ (m2 : Mem) (H1 : Heap) (locs1 : List Loc), mH D cA base m2 H1 → va_S (mA base) H0 H1 locs1 → K () m2 = some z → W p l e R s m args below meth c H1 locs1 cells slots Q (F0 m (pc + 1) ls rest)) : W p l e R s m args below meth c H locs cells slots Q (F0 m pc ls (.int v :: .int i :: .ref a :: rest)) := by
  obtain ⟨u, m', h1, h2⟩ := bnd_inv h
  obtain ⟨⟨⟨hK, hin⟩, hv⟩, e1⟩ := ite_inv h1
  cases e1
  have hnr : narrow .boolean (.int v) = .int v := by rcases hv with rfl | rfl <;> rfl
  refine W.zast C.1 C.2.1 (r_arr hH hK (by decide) (by decide)) ((hT.2.1 6 (by decide) (by decide)).1 _ _) (fun q => by cases q) (by rw [arrV_size]; exact hin) rfl rfl hdg fun H1 g1 g2 g3 => ?_
  rw [hnr] at g1
  obtain ⟨a1, a2⟩ := r_arrset (m2 := setI mm a i.toNatClampNeg v) hH hS0 hK (by decide) (by decide) rfl rfl rfl (fun b hb => mI_setI_ne hb) (fun b hb => rfl) (by
    funext j
    by_cases hj : j = i.toNatClampNeg <;> simp [updV, aV, hj, mI_setI]) g1 g2 g3
  exact kk _ H1 _ a1 a2 h2
theorem r_sJ {K : Unit → HM β} {a : Nat} {i v : Int32} (C : CallFix p m c cc nL s args Ts own) (hT : mT D cA s) (hH : mH D cA base mm H) (hS0 : va_S (mA base) H0 H locs) (hdg : decode cc pc = .ok (.lastore, 1)) (h : bnd (sI 9 a i v) K mm = some z)
    (kk : ∀ (m2 : Mem) (H1 : Heap) (locs1 : List Loc), mH D cA base m2 H1 → va_S (mA base) H0 H1 locs1 → K () m2 = some z → W p l e R s m args below meth c H1 locs1 cells slots Q (F0 m (pc + 1) ls rest)) : W p l e R s m args below meth c H locs cells slots Q (F0 m pc ls (.long v.toInt64 :: .int i :: .ref a :: rest)) := by
  obtain ⟨u, m', h1, h2⟩ := bnd_inv h
  obtain ⟨⟨hK, hin⟩, e1⟩ := ite_inv h1
  cases e1
  refine W.last C.1 C.2.1 (r_arr hH hK (by decide) (by decide)) ((hT.2.1 9 (by decide) (by decide)).1 _ _) (fun q => by cases q) (by rw [arrV_size]; exact hin) rfl rfl hdg fun H1 g1 g2 g3 => ?_
  obtain ⟨a1, a2⟩ := r_arrset (m2 := setI mm a i.toNatClampNeg v) hH hS0 hK (by decide) (by decide) rfl rfl rfl (fun b hb => mI_setI_ne hb) (fun b hb => rfl) (by
    funext j
    by_cases hj : j = i.toNatClampNeg <;> simp [updV, aV, hj, mI_setI]) g1 g2 g3
  exact kk _ H1 _ a1 a2 h2
theorem r_lJ {K : Int32 → HM β} {a : Nat} {i : Int32} (C : CallFix p m c cc nL s args Ts own) (hT : mT D cA s) (hH : mH D cA base mm H) (hdg : decode cc pc = .ok (.laload, 1)) (h : bnd (lI 9 a i) K mm = some z)
    (kk : ∀ v : Int32, K v mm = some z → W p l e R s m args below meth c H locs cells slots Q (F0 m (pc + 1) ls (.long v.toInt64 :: rest))) : W p l e R s m args below meth c H locs cells slots Q (F0 m pc ls (.int i :: .ref a :: rest)) := by
  obtain ⟨v, m', h1, h2⟩ := bnd_inv h
  obtain ⟨⟨hK, hin⟩, e1⟩ := ite_inv h1
  cases e1
  have hlt : i.toNatClampNeg < mN mm a := Nat.not_le.mp fun q => hin (Or.inr q)
  exact W.lald (v := .long (mI mm a i.toNatClampNeg).toInt64) C.1 C.2.1 (r_arr hH hK (by decide) (by decide)) ((hT.2.1 9 (by decide) (by decide)).1 _ _) (fun q => by cases q) (by rw [arrV_size]; exact hin) (by rw [arrV_read _ _ hlt]; simp [aV]) rfl rfl hdg (kk _ h2)
theorem r_sR {K : Unit → HM β} {a x : Nat} {i : Int32} (C : CallFix p m c cc nL s args Ts own) (hT : mT D cA s) (hH : mH D cA base mm H) (hS0 : va_S (mA base) H0 H locs) (hdg : decode cc pc = .ok (.aastore, 1)) (h : bnd (sR a i x) K mm = some z)
    (kk : ∀ (m2 : Mem) (H1 : Heap) (locs1 : List Loc), mH D cA base m2 H1 → va_S (mA base) H0 H1 locs1 → K () m2 = some z → W p l e R s m args below meth c H1 locs1 cells slots Q (F0 m (pc + 1) ls rest)) : W p l e R s m args below meth c H locs cells slots Q (F0 m pc ls (.ref x :: .int i :: .ref a :: rest)) := by
  obtain ⟨u, m', h1, h2⟩ := bnd_inv h
  obtain ⟨⟨⟨hK, hin⟩, hv⟩, e1⟩ := ite_inv h1
  cases e1
  have hlt : i.toNatClampNeg < mN mm a := Nat.not_le.mp fun q => hin (Or.inr q)
  have h0 : ¬ i < 0 := fun q => hin (Or.inl q)
  obtain ⟨cellV, g1, g2, g3, -⟩ := r_obj (t := 2) hT hH rfl (by decide) hv
  have hcls := (hT.1 2 _ rfl).2
  obtain ⟨kA, comp, k1, k2, k3, -⟩ := (hT.2.1 7 (by decide) (by decide)).2
  have hcomp : comp = D.1 2 := Option.some.inj (k3.symm.trans hcls.1)
  subst hcomp
  obtain ⟨kC, hkC, -⟩ := hcls.2
  refine W.aast C.1 C.2.1 (r_arr hH hK (by decide) (by decide)) (fun q h => by cases h) (fun h => by cases h) k1 k2 rfl hkC ⟨h0, by rw [arrV_size]; exact hlt⟩ g1 (fun q h => by rw [g3] at h; cases h) (by rw [g2]; exact hkC) (by rw [g2]; exact va_assign hcls) rfl rfl hdg fun H1 g1 g2 g3 => ?_
  obtain ⟨a1, a2⟩ := r_arrset (m2 := setR mm a i.toNatClampNeg (some x)) hH hS0 hK (by decide) (by decide) rfl rfl rfl (fun b hb => rfl) (fun b hb => mR_setR_ne hb) (by
    funext j
    by_cases hj : j = i.toNatClampNeg <;> simp [updV, aV, hj, mR_setR, va_rf]) g1 g2 g3
  exact kk _ H1 _ a1 a2 h2
/-! new cells -/
theorem mH_allo {t n : Nat} {H1 : Heap} (hH : mH D cA base mm H) (ht : t < 10) (g2 : H1.size = mS mm + 1) (g3 : ∀ q, q < mS mm → H1[q]? = H[q]?) (g1 : mC D cA (allo mm t n) (mS mm) H1) : mH D cA base (allo mm t n) H1 := by
  obtain ⟨h1, h2, h3, h4⟩ := hH
  refine ⟨by rw [g2, mS_allo], by rw [mS_allo]; omega, fun a ha => ?_, fun b => ?_⟩
  · rw [mK_allo] at ha
    rw [mS_allo]
    by_cases q : a = mS mm
    · subst q; omega
    · rw [if_neg q] at ha
      have := h3 a ha
      omega
  · by_cases q : b = mS mm
    · subst q; exact g1
    · refine mC_keep (m := mm) (H := H) (by rw [mK_allo, if_neg q]) (by rw [mN_allo, if_neg q]) (funext fun j => by rw [mI_allo, if_neg q]) (funext fun j => by rw [mR_allo, if_neg q]) (fun hb => g3 b (h3 b hb).2) (h4 b)
theorem va_S_new {H1 : Heap} (hH : mH D cA base mm H) (hS0 : va_S (mA base) H0 H locs) (g2 : mS mm ≤ H1.size) (g3 : ∀ q, q < mS mm → H1[q]? = H[q]?) : va_S (mA base) H0 H1 locs := by
  have h1 := hH.1
  obtain ⟨a1, a2, a3⟩ := hS0
  exact ⟨by omega, fun q b1 b2 => by rw [g3 q (by omega)]; exact a2 q b1 b2, a3⟩
theorem r_nO {K : Nat → HM β} {t index : Nat} {Cn : String} {T : u_T} {N : Nat} {ty0 : Nat → FieldType} (C : CallFix p m c cc nL s args Ts own) (hT : mT D cA s) (hH : mH D cA base mm H) (hS0 : va_S (mA base) H0 H locs) (hc : vwCl[t]? = some (Cn, T, N)) (hin : ∀ w ∈ u_ws Cn T N, w ∈ Ts) (hty : ∀ k, k < N → parseFieldDescriptor (T k).2.2.1 = some (ty0 k)) (ht : t < 5) (hdf : ∀ k, k < N → defaultValue (ty0 k) = oV t (fun _ => 0) (fun _ => none) k) (hl : Cond.classLink own index Cn ∈ Ts) (hinst : Cond.instantiable Cn N ∈ Ts) (hini : Cond.initialized Cn ∈ Ts) (hcells : cells + 1 ≤ R.cells) (hslots : slots + N ≤ R.slots) (hdg : decode cc pc = .ok (.new index, 3)) (h : bnd (nO t) K mm = some z)
    (kk : ∀ (q : Nat) (m2 : Mem) (H1 : Heap), mH D cA base m2 H1 → va_S (mA base) H0 H1 locs → K q m2 = some z → W p l e R s m args below meth c H1 locs (cells + 1) (slots + N) Q (F0 m (pc + 3) ls (.ref q :: rest))) : W p l e R s m args below meth c H locs cells slots Q (F0 m pc ls rest) := by
  obtain ⟨u, m', h1, h2⟩ := bnd_inv h
  cases h1
  have hKn := hT.1 t _ hc
  refine W.newcK C.1 C.2.1 C.2.2.2.1 (C.2.2.2.2 _ hl) (C.2.2.2.2 _ hinst) (C.2.2.2.2 _ hini) rfl hdg hcells hslots hKn.2.1 hH.1 fun H1 kC hkC e1 z1 o1 => ?_
  refine kk (mS mm) _ H1 (mH_allo hH (by omega) z1 o1 ?_) (va_S_new hH hS0 (by omega) o1) h2
  unfold mC
  have ek : mK (allo mm t 0) (mS mm) = t := by rw [mK_allo, if_pos rfl]
  rw [ek]
  refine ⟨fun _ => ⟨_, hc, ?_⟩, fun q => absurd ht (by omega)⟩
  refine (u_born ty0 C.2.2.2.2 hin hKn hkC e1 hty).to (fun j hj => ?_)
  rw [hdf j hj, show mI (allo mm t 0) (mS mm) = fun _ => 0 from funext fun j => by rw [mI_allo, if_pos rfl], show mR (allo mm t 0) (mS mm) = fun _ => none from funext fun j => by rw [mR_allo, if_pos rfl]]
theorem r_nA {K : Nat → HM β} {t B : Nat} {n : Int32} {atype : ArrayType} (C : CallFix p m c cc nL s args Ts own) (hT : mT D cA s) (hH : mH D cA base mm H) (hS0 : va_S (mA base) H0 H locs) (ht : t = 5 ∨ t = 6 ∨ t = 9) (hat : newarray.typeOf atype = tyA t) (harr : Cond.arrayClass (newarray.typeOf atype) ∈ Ts) (hB : B ≤ 65536) (hcells : cells + 1 ≤ R.cells) (hslots : slots + B ≤ R.slots) (hdg : decode cc pc = .ok (.newarray atype, 2)) (h : bnd (nA t B n) K mm = some z)
    (kk : ∀ (q : Nat) (m2 : Mem) (H1 : Heap), mH D cA base m2 H1 → va_S (mA base) H0 H1 locs → K q m2 = some z → W p l e R s m args below meth c H1 locs (cells + 1) (slots + B) Q (F0 m (pc + 2) ls (.ref q :: rest))) : W p l e R s m args below meth c H locs cells slots Q (F0 m pc ls (.int n :: rest)) := by
  obtain ⟨u, m', h1, h2⟩ := bnd_inv h
  obtain ⟨⟨hn, hle⟩, e1⟩ := ite_inv h1
  cases e1
  have hby : componentBytes (newarray.typeOf atype) ≤ 8 := by rw [hat]; rcases ht with rfl | rfl | rfl <;> decide
  refine va_newaK C.1 C.2.1 (C.2.2.2.2 _ harr) rfl hdg rfl hn rfl (Nat.le_trans (Nat.mul_le_mul hle hby) (by omega)) hcells (by omega) hH.1 fun H1 cA' e1 z1 o1 hAr hNm => ?_
  refine W.widen (k := cells + 1) (n := slots + B) (Nat.le_refl _) (by omega) ?_
  have hcA : cA' = cA t := by
    have h9 := (hT.2.1 t (by omega) (by omega)).2
    rw [← hat] at h9
    have h8 : s.vm.findClass ("[" ++ (newarray.typeOf atype).toString) = some (cA t) := by
      rw [hat] at h9 ⊢
      rcases ht with rfl | rfl | rfl <;> exact h9
    exact Option.some.inj (hNm.symm.trans h8)
  subst hcA
  refine kk (mS mm) _ H1 (mH_allo hH (by omega) z1 o1 ?_) (va_S_new hH hS0 (by omega) o1) h2
  unfold mC
  have ek : mK (allo mm t n.toNatClampNeg) (mS mm) = t := by rw [mK_allo, if_pos rfl]
  rw [ek]
  refine ⟨fun q => absurd q (by omega), fun _ _ => ?_⟩
  rw [e1, hat, mN_allo, if_pos rfl, show mI (allo mm t n.toNatClampNeg) (mS mm) = fun _ => 0 from funext fun j => by rw [mI_allo, if_pos rfl], show mR (allo mm t n.toNatClampNeg) (mS mm) = fun _ => none from funext fun j => by rw [mR_allo, if_pos rfl]]
  rcases ht with rfl | rfl | rfl <;> rfl
theorem r_nS {K : Nat → HM β} {B index : Nat} {n : Int32} (C : CallFix p m c cc nL s args Ts own) (hT : mT D cA s) (hH : mH D cA base mm H) (hS0 : va_S (mA base) H0 H locs) (hl : Cond.classLink own index "SegmentMerges$Segment" ∈ Ts) (hB : B ≤ 65536) (hcells : cells + 1 ≤ R.cells) (hslots : slots + B ≤ R.slots) (hdg : decode cc pc = .ok (.anewarray index, 3)) (h : bnd (nA 7 B n) K mm = some z)
    (kk : ∀ (q : Nat) (m2 : Mem) (H1 : Heap), mH D cA base m2 H1 → va_S (mA base) H0 H1 locs → K q m2 = some z → W p l e R s m args below meth c H1 locs (cells + 1) (slots + B) Q (F0 m (pc + 3) ls (.ref q :: rest))) : W p l e R s m args below meth c H locs cells slots Q (F0 m pc ls (.int n :: rest)) := by
  obtain ⟨u, m', h1, h2⟩ := bnd_inv h
  obtain ⟨⟨hn, hle⟩, e1⟩ := ite_inv h1
  cases e1
  refine W.anew C.1 C.2.1 C.2.2.2.1 (C.2.2.2.2 _ hl) (va_AO.use hT.2.2.1) rfl hdg rfl hn (by omega) hcells (by omega) fun cA' kA comp k1 k2 k3 k4 => ?_
  refine W.widen (k := cells + 1) (n := slots + B) (Nat.le_refl _) (by omega) ?_
  obtain ⟨kA9, comp9, -, -, -, hnm⟩ := (hT.2.1 7 (by decide) (by decide)).2
  have hcA : cA' = cA 7 := Option.some.inj (k1.symm.trans hnm)
  subst hcA
  rw [arrV_new]
  have o1 : ∀ q, q < mS mm → (H.push (arrV (cA 7) n.toNatClampNeg (fun _ => .null)))[q]? = H[q]? := fun q hq => by
    rw [Array.getElem?_push, if_neg (by rw [hH.1]; omega)]
  have z1 : (H.push (arrV (cA 7) n.toNatClampNeg (fun _ => .null))).size = mS mm + 1 := by rw [Array.size_push, hH.1]
  have hz : H.size = mS mm := hH.1
  rw [hz]
  refine kk (mS mm) _ _ (mH_allo hH (by omega) z1 o1 ?_) (va_S_new hH hS0 (by omega) o1) h2
  unfold mC
  have ek : mK (allo mm 7 n.toNatClampNeg) (mS mm) = 7 := by rw [mK_allo, if_pos rfl]
  rw [ek]
  refine ⟨fun q => absurd q (by omega), fun _ _ => ?_⟩
  rw [Array.getElem?_push, if_pos hz.symm, mN_allo, if_pos rfl, show mI (allo mm 7 n.toNatClampNeg) (mS mm) = fun _ => 0 from funext fun j => by rw [mI_allo, if_pos rfl], show mR (allo mm 7 n.toNatClampNeg) (mS mm) = fun _ => none from funext fun j => by rw [mR_allo, if_pos rfl]]
  rfl
end MR
end
section
/-! Calls, returns and the other rows of the generated proofs -/
def cl {α : Type} (t b : Nat) (f : HM α) : HM α := fun m => if mK m b = t then f m else none
theorem cl_inv {α : Type} {t b : Nat} {f : HM α} {m : Mem} {z : α × Mem} (h : cl t b f m = some z) : mK m b = t ∧ f m = some z := by
  unfold cl at h
  by_cases hc : mK m b = t
  · rw [if_pos hc] at h; exact ⟨hc, h⟩
  · rw [if_neg hc] at h; cases h
theorem fl_inv {α : Type} {m : Mem} {z : α × Mem} (h : fl m = some z) : False := by
  unfold fl at h
  cases h
theorem rt_inv {α : Type} {a : α} {m : Mem} {z : α × Mem} (h : rt a m = some z) : z = (a, m) := (Option.some.inj h).symm
theorem ifn_n {α : Type} {x : HM α} {y : Nat → HM α} {m : Mem} {z : α × Mem} (h : ifn none x y m = some z) : x m = some z := h
theorem ifn_s {α : Type} {x : HM α} {y : Nat → HM α} {m : Mem} {z : α × Mem} {a : Nat} (h : ifn (some a) x y m = some z) : y a m = some z := h
theorem dv_inv {x y : Int32} {m m' : Mem} {r : Int32} (h : dv x y m = some (r, m')) : ¬ y = 0 ∧ r = x / y ∧ m' = m := by
  unfold dv at h
  by_cases hc : y = 0
  · rw [if_pos hc] at h; cases h
  · rw [if_neg hc] at h; cases h; exact ⟨hc, rfl, rfl⟩
def eI (r : Int32) : Option Value := some (.int r)
def eV (_ : Unit) : Option Value := none
def eN (r : Nat) : Option Value := some (.ref r)
def eQ (r : Option Nat) : Option Value := some (va_rf r)
def mQ {α : Type} (enc : α → Option Value) (D : va_G) (cA : Nat → ClassId) (base : Nat) (z : α × Mem) : Array Value → State → Outcome → State → Prop := fun _ st oc t => oc = .returned (enc z.1) ∧ mU D cA base z.2 t ∧ va_F (mA base) st t
theorem mU_blind {D : va_G} {cA : Nat → ClassId} {base : Nat} {m : Mem} {av : List Value} : FrameBlind (va_Pc av (mU D cA base m)) := fun a U g mk q => ⟨q.1, q.2.1, mT.same (u := U) (U := U.calling g mk a) rfl q.2.2⟩
section MCL
variable {p : Program} {l : Launch} {e : Env} {R : Room} {s : State} {m : MethodId} {args : Array Value} {below : List Frame} {meth : Method} {c : Code} {H : Heap} {locs : List Loc} {cells slots : Nat} {Q : State → Prop}
variable {cc : ByteArray} {nL pc : Nat} {ls : Array Slot} {rest st0 : List Value} {D : va_G} {cA : Nat → ClassId} {base : Nat} {H0 : Heap} {Ts : List Cond} {own : String} {β : Type} {mm : Mem} {z : β × Mem}
theorem r_after {α : Type} {enc : α → Option Value} {f : HM α} {K : α → HM β} {mc ms : Nat} {a : Array Value} (hS : va_S (mA base) H0 H locs) (hr : ∀ z1, f mm = some z1 → va_Run p l e R s m args below meth c H locs cells slots mc ms (F0 m pc ls st0) rest (mQ enc D cA base z1 a) (mA base)) (h : bnd f K mm = some z)
    (kk : ∀ (r : α) (m2 : Mem) (H1 : Heap) (locs1 : List Loc), mH D cA base m2 H1 → va_S (mA base) H0 H1 locs1 → K r m2 = some z → W p l e R s m args below meth c H1 locs1 (cells + mc) (slots + ms) Q (F0 m (pc + 3) ls ((enc r).toList ++ rest))) : W p l e R s m args below meth c H locs cells slots Q (F0 m pc ls st0) := by
  obtain ⟨r, m2, h1, h2⟩ := bnd_inv h
  intro T hT X
  obtain ⟨v, st₀, t, T', L, h0, X', hL, e1, e2, ⟨hv, hu, hz, hk⟩, st⟩ := hr (r, m2) h1 T hT X
  cases hv
  rw [h0] at hz hk
  have hH2 : mH D cA base m2 T'.heap := by rw [e1]; exact hu.1
  have hz2 : H.size ≤ T'.heap.size := by rw [e1]; exact hz
  obtain ⟨t2, a1, b1⟩ := kk r m2 T'.heap (locs ++ L) hH2
    ⟨Nat.le_trans hS.1 hz2, fun q g1 g2 => by rw [e1, hk q (Nat.lt_of_lt_of_le g1 hS.1) g2]; exact hS.2.1 q g1 g2, fun q hq => by
      rcases List.mem_append.mp hq with h | h
      · exact hS.2.2 q h
      · exact hL q h⟩ h2 T' rfl X'
  exact ⟨t2, st t2 a1, b1⟩
theorem r_callV {α : Type} {enc : α → Option Value} {f : HM α} {K : α → HM β} {y : MethodName} {bytes : ByteArray} {maxL mc ms n index t b N : Nat} {ret : Option FieldType} {ws : List Cond} {rm : Room} {As : List Value} {Cn : String} {T : u_T} (C : CallFix p m c cc nL s args Ts own) (hT : mT D cA s) (hH : mH D cA base mm H) (hS : va_S (mA base) H0 H locs)
    (hM : ∀ z1, f mm = some z1 → Met l y ws rm (va_Pc (.ref b :: As) (mU D cA base mm)) (mQ enc D cA base z1) mc ms (mA base)) (cw : CallW R s args own Cn index y bytes maxL ret ws rm mc ms n) (hc : vwCl[t]? = some (Cn, T, N)) (ht : t < 5) (hn : As.length = n) (hsize : ls.size = nL) (hstack : st0 = As.reverse ++ .ref b :: rest) (hW : (rest.map fun v => v.category).sum ≤ 8) (hdg : decode cc pc = .ok (.invokevirtual index, 3)) (hf : cells + mc ≤ R.cells ∧ slots + ms ≤ R.slots) (h : bnd (cl t b f) K mm = some z)
    (kk : ∀ (r : α) (m2 : Mem) (H1 : Heap) (locs1 : List Loc), mH D cA base m2 H1 → va_S (mA base) H0 H1 locs1 → K r m2 = some z → W p l e R s m args below meth c H1 locs1 (cells + mc) (slots + ms) Q (F0 m (pc + 3) ls ((enc r).toList ++ rest))) : W p l e R s m args below meth c H locs cells slots Q (F0 m pc ls st0) := by
  obtain ⟨r, m2, h1, h2⟩ := bnd_inv h
  obtain ⟨hb, h1⟩ := cl_inv h1
  have h9 : bnd f K mm = some z := by unfold bnd; rw [h1]; exact h2
  refine r_after (a := (Value.ref b :: As).toArray) hS (fun z1 hz1 => ?_) h9 kk
  refine va_runV C (hM z1 hz1) cw ⟨mU_blind, ?_, fun U hU hW => ⟨rfl, by rw [hU]; exact hH, mT.moved hW hT⟩⟩ rfl hn hsize hstack (lv_room hW) hdg hf
  obtain ⟨cell, q1, q2, q3, q4⟩ := r_obj hT hH hc ht hb
  exact ⟨cell, q1, by rw [q3]; rfl, by rw [q2]; exact (hT.1 t _ hc).2.1⟩
theorem r_callS {α : Type} {enc : α → Option Value} {f : HM α} {K : α → HM β} {y : MethodName} {bytes : ByteArray} {maxL mc ms n index : Nat} {ret : Option FieldType} {ws : List Cond} {rm : Room} {As : List Value} (C : CallFix p m c cc nL s args Ts own) (hT : mT D cA s) (hH : mH D cA base mm H) (hS : va_S (mA base) H0 H locs)
    (hM : ∀ z1, f mm = some z1 → Met l y ws rm (va_Pc As (mU D cA base mm)) (mQ enc D cA base z1) mc ms (mA base)) (cw : CallB R s args own index y bytes maxL ret ws rm mc ms n ∧ (Cond.static y).before args s = true) (hn : As.length = n) (hsize : ls.size = nL) (hstack : st0 = As.reverse ++ rest) (hW : (rest.map fun v => v.category).sum ≤ 8) (hdg : decode cc pc = .ok (.invokestatic index, 3)) (hf : cells + mc ≤ R.cells ∧ slots + ms ≤ R.slots) (h : bnd f K mm = some z)
    (kk : ∀ (r : α) (m2 : Mem) (H1 : Heap) (locs1 : List Loc), mH D cA base m2 H1 → va_S (mA base) H0 H1 locs1 → K r m2 = some z → W p l e R s m args below meth c H1 locs1 (cells + mc) (slots + ms) Q (F0 m (pc + 3) ls ((enc r).toList ++ rest))) : W p l e R s m args below meth c H locs cells slots Q (F0 m pc ls st0) := by
  refine r_after (a := As.toArray) hS (fun z1 hz1 => ?_) h kk
  exact va_runS C (hM z1 hz1) cw ⟨mU_blind, fun U hU hW => ⟨rfl, by rw [hU]; exact hH, mT.moved hW hT⟩⟩ rfl hn hsize hstack (lv_room hW) hdg hf
theorem r_callI {f : HM Unit} {K : Unit → HM β} {y : MethodName} {bytes : ByteArray} {maxL mc ms n index b : Nat} {ws : List Cond} {rm : Room} {As : List Value} (C : CallFix p m c cc nL s args Ts own) (hT : mT D cA s) (hH : mH D cA base mm H) (hS : va_S (mA base) H0 H locs)
    (hM : ∀ z1, f mm = some z1 → Met l y ws rm (va_Pc (.ref b :: As) (mU D cA base mm)) (mQ eV D cA base z1) mc ms (mA base)) (cw : CallB R s args own index y bytes maxL none ws rm mc ms n ∧ y.name = "<init>" ∧ (Cond.instanceMethod y).before args s = true) (hn : As.length = n) (hsize : ls.size = nL) (hstack : st0 = As.reverse ++ .ref b :: rest) (hW : (rest.map fun v => v.category).sum ≤ 8) (hdg : decode cc pc = .ok (.invokespecial index, 3)) (hf : cells + mc ≤ R.cells ∧ slots + ms ≤ R.slots) (h : bnd f K mm = some z)
    (kk : ∀ (r : Unit) (m2 : Mem) (H1 : Heap) (locs1 : List Loc), mH D cA base m2 H1 → va_S (mA base) H0 H1 locs1 → K r m2 = some z → W p l e R s m args below meth c H1 locs1 (cells + mc) (slots + ms) Q (F0 m (pc + 3) ls rest)) : W p l e R s m args below meth c H locs cells slots Q (F0 m pc ls st0) := by
  refine r_after (enc := eV) (rest := rest) (mc := mc) (ms := ms) (D := D) (cA := cA) (a := (Value.ref b :: As).toArray) hS (fun z1 hz1 => ?_) h kk
  exact va_runI C (hM z1 hz1) cw ⟨mU_blind, fun U hU hW => ⟨rfl, by rw [hU]; exact hH, mT.moved hW hT⟩⟩ rfl hn hsize hstack (lv_room hW) hdg hf
theorem r_callIN {f : HM Unit} {K : Unit → HM β} {y : MethodName} {bytes : ByteArray} {maxL mc ms n index b : Nat} {ws : List Cond} {rm : Room} {As : List Value} {host : String} (C : CallFix p m c cc nL s args Ts own) (hT : mT D cA s) (hH : mH D cA base mm H) (hS : va_S (mA base) H0 H locs)
    (hM : ∀ z1, f mm = some z1 → Met l y ws rm (va_Pc (.ref b :: As) (mU D cA base mm)) (mQ eV D cA base z1) mc ms (mA base)) (cw : va_CN R s args own index y host bytes maxL none ws rm mc ms n ∧ y.name = "<init>" ∧ (Cond.instanceMethod y).before args s = true) (hn : As.length = n) (hsize : ls.size = nL) (hstack : st0 = As.reverse ++ .ref b :: rest) (hW : (rest.map fun v => v.category).sum ≤ 8) (hdg : decode cc pc = .ok (.invokespecial index, 3)) (hf : cells + mc ≤ R.cells ∧ slots + ms ≤ R.slots) (h : bnd f K mm = some z)
    (kk : ∀ (r : Unit) (m2 : Mem) (H1 : Heap) (locs1 : List Loc), mH D cA base m2 H1 → va_S (mA base) H0 H1 locs1 → K r m2 = some z → W p l e R s m args below meth c H1 locs1 (cells + mc) (slots + ms) Q (F0 m (pc + 3) ls rest)) : W p l e R s m args below meth c H locs cells slots Q (F0 m pc ls st0) := by
  refine r_after (enc := eV) (rest := rest) (mc := mc) (ms := ms) (D := D) (cA := cA) (a := (Value.ref b :: As).toArray) hS (fun z1 hz1 => ?_) h kk
  exact va_runIN C (hM z1 hz1) cw ⟨mU_blind, fun U hU hW => ⟨rfl, by rw [hU]; exact hH, mT.moved hW hT⟩⟩ rfl hn hsize hstack (lv_room hW) hdg hf
theorem r_callVI {f : HM Int32} {K : Int32 → HM β} {y : MethodName} {bytes : ByteArray} {maxL mc ms n index t b N : Nat} {ret : Option FieldType} {ws : List Cond} {rm : Room} {As : List Value} {Cn : String} {T : u_T} (C : CallFix p m c cc nL s args Ts own) (hT : mT D cA s) (hH : mH D cA base mm H) (hS : va_S (mA base) H0 H locs)
    (hM : ∀ z1, f mm = some z1 → Met l y ws rm (va_Pc (.ref b :: As) (mU D cA base mm)) (mQ eI D cA base z1) mc ms (mA base)) (cw : CallW R s args own Cn index y bytes maxL ret ws rm mc ms n) (hc : vwCl[t]? = some (Cn, T, N)) (ht : t < 5) (hn : As.length = n) (hsize : ls.size = nL) (hstack : st0 = As.reverse ++ .ref b :: rest) (hW : (rest.map fun v => v.category).sum ≤ 8) (hdg : decode cc pc = .ok (.invokevirtual index, 3)) (hf : cells + mc ≤ R.cells ∧ slots + ms ≤ R.slots) (h : bnd (cl t b f) K mm = some z)
    (kk : ∀ (r : Int32) (m2 : Mem) (H1 : Heap) (locs1 : List Loc), mH D cA base m2 H1 → va_S (mA base) H0 H1 locs1 → K r m2 = some z → W p l e R s m args below meth c H1 locs1 (cells + mc) (slots + ms) Q (F0 m (pc + 3) ls (.int r :: rest))) : W p l e R s m args below meth c H locs cells slots Q (F0 m pc ls st0) := r_callV C hT hH hS hM cw hc ht hn hsize hstack hW hdg hf h kk
theorem r_callVV {f : HM Unit} {K : Unit → HM β} {y : MethodName} {bytes : ByteArray} {maxL mc ms n index t b N : Nat} {ret : Option FieldType} {ws : List Cond} {rm : Room} {As : List Value} {Cn : String} {T : u_T} (C : CallFix p m c cc nL s args Ts own) (hT : mT D cA s) (hH : mH D cA base mm H) (hS : va_S (mA base) H0 H locs)
    (hM : ∀ z1, f mm = some z1 → Met l y ws rm (va_Pc (.ref b :: As) (mU D cA base mm)) (mQ eV D cA base z1) mc ms (mA base)) (cw : CallW R s args own Cn index y bytes maxL ret ws rm mc ms n) (hc : vwCl[t]? = some (Cn, T, N)) (ht : t < 5) (hn : As.length = n) (hsize : ls.size = nL) (hstack : st0 = As.reverse ++ .ref b :: rest) (hW : (rest.map fun v => v.category).sum ≤ 8) (hdg : decode cc pc = .ok (.invokevirtual index, 3)) (hf : cells + mc ≤ R.cells ∧ slots + ms ≤ R.slots) (h : bnd (cl t b f) K mm = some z)
    (kk : ∀ (r : Unit) (m2 : Mem) (H1 : Heap) (locs1 : List Loc), mH D cA base m2 H1 → va_S (mA base) H0 H1 locs1 → K r m2 = some z → W p l e R s m args below meth c H1 locs1 (cells + mc) (slots + ms) Q (F0 m (pc + 3) ls rest)) : W p l e R s m args below meth c H locs cells slots Q (F0 m pc ls st0) := r_callV C hT hH hS hM cw hc ht hn hsize hstack hW hdg hf h kk
theorem r_callVN {f : HM Nat} {K : Nat → HM β} {y : MethodName} {bytes : ByteArray} {maxL mc ms n index t b N : Nat} {ret : Option FieldType} {ws : List Cond} {rm : Room} {As : List Value} {Cn : String} {T : u_T} (C : CallFix p m c cc nL s args Ts own) (hT : mT D cA s) (hH : mH D cA base mm H) (hS : va_S (mA base) H0 H locs)
    (hM : ∀ z1, f mm = some z1 → Met l y ws rm (va_Pc (.ref b :: As) (mU D cA base mm)) (mQ eN D cA base z1) mc ms (mA base)) (cw : CallW R s args own Cn index y bytes maxL ret ws rm mc ms n) (hc : vwCl[t]? = some (Cn, T, N)) (ht : t < 5) (hn : As.length = n) (hsize : ls.size = nL) (hstack : st0 = As.reverse ++ .ref b :: rest) (hW : (rest.map fun v => v.category).sum ≤ 8) (hdg : decode cc pc = .ok (.invokevirtual index, 3)) (hf : cells + mc ≤ R.cells ∧ slots + ms ≤ R.slots) (h : bnd (cl t b f) K mm = some z)
    (kk : ∀ (r : Nat) (m2 : Mem) (H1 : Heap) (locs1 : List Loc), mH D cA base m2 H1 → va_S (mA base) H0 H1 locs1 → K r m2 = some z → W p l e R s m args below meth c H1 locs1 (cells + mc) (slots + ms) Q (F0 m (pc + 3) ls (.ref r :: rest))) : W p l e R s m args below meth c H locs cells slots Q (F0 m pc ls st0) := r_callV C hT hH hS hM cw hc ht hn hsize hstack hW hdg hf h kk
theorem r_callVQ {f : HM (Option Nat)} {K : Option Nat → HM β} {y : MethodName} {bytes : ByteArray} {maxL mc ms n index t b N : Nat} {ret : Option FieldType} {ws : List Cond} {rm : Room} {As : List Value} {Cn : String} {T : u_T} (C : CallFix p m c cc nL s args Ts own) (hT : mT D cA s) (hH : mH D cA base mm H) (hS : va_S (mA base) H0 H locs)
    (hM : ∀ z1, f mm = some z1 → Met l y ws rm (va_Pc (.ref b :: As) (mU D cA base mm)) (mQ eQ D cA base z1) mc ms (mA base)) (cw : CallW R s args own Cn index y bytes maxL ret ws rm mc ms n) (hc : vwCl[t]? = some (Cn, T, N)) (ht : t < 5) (hn : As.length = n) (hsize : ls.size = nL) (hstack : st0 = As.reverse ++ .ref b :: rest) (hW : (rest.map fun v => v.category).sum ≤ 8) (hdg : decode cc pc = .ok (.invokevirtual index, 3)) (hf : cells + mc ≤ R.cells ∧ slots + ms ≤ R.slots) (h : bnd (cl t b f) K mm = some z)
    (kk : ∀ (r : Option Nat) (m2 : Mem) (H1 : Heap) (locs1 : List Loc), mH D cA base m2 H1 → va_S (mA base) H0 H1 locs1 → K r m2 = some z → W p l e R s m args below meth c H1 locs1 (cells + mc) (slots + ms) Q (F0 m (pc + 3) ls (va_rf r :: rest))) : W p l e R s m args below meth c H locs cells slots Q (F0 m pc ls st0) := r_callV C hT hH hS hM cw hc ht hn hsize hstack hW hdg hf h kk
theorem r_callSI {f : HM Int32} {K : Int32 → HM β} {y : MethodName} {bytes : ByteArray} {maxL mc ms n index : Nat} {ret : Option FieldType} {ws : List Cond} {rm : Room} {As : List Value} (C : CallFix p m c cc nL s args Ts own) (hT : mT D cA s) (hH : mH D cA base mm H) (hS : va_S (mA base) H0 H locs)
    (hM : ∀ z1, f mm = some z1 → Met l y ws rm (va_Pc As (mU D cA base mm)) (mQ eI D cA base z1) mc ms (mA base)) (cw : CallB R s args own index y bytes maxL ret ws rm mc ms n ∧ (Cond.static y).before args s = true) (hn : As.length = n) (hsize : ls.size = nL) (hstack : st0 = As.reverse ++ rest) (hW : (rest.map fun v => v.category).sum ≤ 8) (hdg : decode cc pc = .ok (.invokestatic index, 3)) (hf : cells + mc ≤ R.cells ∧ slots + ms ≤ R.slots) (h : bnd f K mm = some z)
    (kk : ∀ (r : Int32) (m2 : Mem) (H1 : Heap) (locs1 : List Loc), mH D cA base m2 H1 → va_S (mA base) H0 H1 locs1 → K r m2 = some z → W p l e R s m args below meth c H1 locs1 (cells + mc) (slots + ms) Q (F0 m (pc + 3) ls (.int r :: rest))) : W p l e R s m args below meth c H locs cells slots Q (F0 m pc ls st0) := r_callS C hT hH hS hM cw hn hsize hstack hW hdg hf h kk
theorem r_callSV {f : HM Unit} {K : Unit → HM β} {y : MethodName} {bytes : ByteArray} {maxL mc ms n index : Nat} {ret : Option FieldType} {ws : List Cond} {rm : Room} {As : List Value} (C : CallFix p m c cc nL s args Ts own) (hT : mT D cA s) (hH : mH D cA base mm H) (hS : va_S (mA base) H0 H locs)
    (hM : ∀ z1, f mm = some z1 → Met l y ws rm (va_Pc As (mU D cA base mm)) (mQ eV D cA base z1) mc ms (mA base)) (cw : CallB R s args own index y bytes maxL ret ws rm mc ms n ∧ (Cond.static y).before args s = true) (hn : As.length = n) (hsize : ls.size = nL) (hstack : st0 = As.reverse ++ rest) (hW : (rest.map fun v => v.category).sum ≤ 8) (hdg : decode cc pc = .ok (.invokestatic index, 3)) (hf : cells + mc ≤ R.cells ∧ slots + ms ≤ R.slots) (h : bnd f K mm = some z)
    (kk : ∀ (r : Unit) (m2 : Mem) (H1 : Heap) (locs1 : List Loc), mH D cA base m2 H1 → va_S (mA base) H0 H1 locs1 → K r m2 = some z → W p l e R s m args below meth c H1 locs1 (cells + mc) (slots + ms) Q (F0 m (pc + 3) ls rest)) : W p l e R s m args below meth c H locs cells slots Q (F0 m pc ls st0) := r_callS C hT hH hS hM cw hn hsize hstack hW hdg hf h kk
theorem r_dv {K : Int32 → HM β} {x y : Int32} (C : CallFix p m c cc nL s args Ts own) (hdg : decode cc pc = .ok (.idiv, 1)) (h : bnd (dv x y) K mm = some z)
    (kk : ∀ v, K v mm = some z → W p l e R s m args below meth c H locs cells slots Q (F0 m (pc + 1) ls (.int v :: rest))) : W p l e R s m args below meth c H locs cells slots Q (F0 m pc ls (.int y :: .int x :: rest)) := by
  obtain ⟨v, m', h1, h2⟩ := bnd_inv h
  obtain ⟨hy, rfl, rfl⟩ := dv_inv h1
  exact lv_idiv C.1 C.2.1 hdg hy (kk _ h2)
/-! returns -/
theorem r_iret {z : Int32 × Mem} {v : Int32} {mc ms : Nat} (C : CallFix p m c cc nL s args Ts own) (hT : mT D cA s) (hH : mH D cA base mm H) (hS : va_S (mA base) s.heap H locs) (hr : meth.sig.returnType = some .int) (hlocks : meth.locks = false) (hc : cells ≤ mc) (hs : slots ≤ ms) (hdg : decode cc pc = .ok (.ireturn, 1)) (h : rt v mm = some z) : W p l e R s m args below meth c H locs cells slots (MQ below (mQ eI D cA base z) args s mc ms (mA base)) (F0 m pc ls [.int v]) := by
  obtain rfl := rt_inv h
  refine W.widen hc hs ?_
  exact W.iret C.1 C.2.1 hr (fun t ht hW => ⟨rfl, ⟨by rw [ht]; exact hH, hT.moved hW⟩, hS.F ht⟩) hS.2.2 hdg hlocks
theorem r_zret {z : Int32 × Mem} {v : Int32} {mc ms : Nat} (C : CallFix p m c cc nL s args Ts own) (hT : mT D cA s) (hH : mH D cA base mm H) (hS : va_S (mA base) s.heap H locs) (hr : meth.sig.returnType = some .boolean) (hlocks : meth.locks = false) (hc : cells ≤ mc) (hs : slots ≤ ms) (hdg : decode cc pc = .ok (.ireturn, 1)) (h : rz v mm = some z) : W p l e R s m args below meth c H locs cells slots (MQ below (mQ eI D cA base z) args s mc ms (mA base)) (F0 m pc ls [.int v]) := by
  obtain ⟨hv, e1⟩ := ite_inv h
  subst e1
  refine W.widen hc hs ?_
  exact W.zret C.1 C.2.1 hr (by rcases hv with rfl | rfl <;> rfl) (fun t ht hW => ⟨rfl, ⟨by rw [ht]; exact hH, hT.moved hW⟩, hS.F ht⟩) hS.2.2 hdg hlocks
theorem r_vret {z : Unit × Mem} {mc ms : Nat} (C : CallFix p m c cc nL s args Ts own) (hT : mT D cA s) (hH : mH D cA base mm H) (hS : va_S (mA base) s.heap H locs) (hr : meth.sig.returnType = none) (hlocks : meth.locks = false) (hc : cells ≤ mc) (hs : slots ≤ ms) (hdg : decode cc pc = .ok (.return_, 1)) (h : rt () mm = some z) : W p l e R s m args below meth c H locs cells slots (MQ below (mQ eV D cA base z) args s mc ms (mA base)) (F0 m pc ls []) := by
  obtain rfl := rt_inv h
  refine W.widen hc hs ?_
  exact W.vret C.1 C.2.1 hr (fun t ht hW => ⟨rfl, ⟨by rw [ht]; exact hH, hT.moved hW⟩, hS.F ht⟩) hS.2.2 hdg hlocks
theorem r_aretN {z : Nat × Mem} {v : Nat} {mc ms : Nat} {Cs : String} (C : CallFix p m c cc nL s args Ts own) (hT : mT D cA s) (hH : mH D cA base mm H) (hS : va_S (mA base) s.heap H locs) (hr : meth.sig.returnType = some (.object Cs)) (hlocks : meth.locks = false) (hc : cells ≤ mc) (hs : slots ≤ ms) (hdg : decode cc pc = .ok (.areturn, 1)) (h : rt v mm = some z) : W p l e R s m args below meth c H locs cells slots (MQ below (mQ eN D cA base z) args s mc ms (mA base)) (F0 m pc ls [.ref v]) := by
  obtain rfl := rt_inv h
  refine W.widen hc hs ?_
  exact W.aret C.1 C.2.1 hr (Or.inl ⟨_, rfl⟩) (Or.inr ⟨_, rfl⟩) (fun t ht hW => ⟨rfl, ⟨by rw [ht]; exact hH, hT.moved hW⟩, hS.F ht⟩) hS.2.2 hdg hlocks
theorem r_aretQ {z : Option Nat × Mem} {v : Option Nat} {mc ms : Nat} {Cs : String} (C : CallFix p m c cc nL s args Ts own) (hT : mT D cA s) (hH : mH D cA base mm H) (hS : va_S (mA base) s.heap H locs) (hr : meth.sig.returnType = some (.object Cs)) (hlocks : meth.locks = false) (hc : cells ≤ mc) (hs : slots ≤ ms) (hdg : decode cc pc = .ok (.areturn, 1)) (h : rt v mm = some z) : W p l e R s m args below meth c H locs cells slots (MQ below (mQ eQ D cA base z) args s mc ms (mA base)) (F0 m pc ls [va_rf v]) := by
  obtain rfl := rt_inv h
  refine W.widen hc hs ?_
  exact W.aret C.1 C.2.1 hr (Or.inl ⟨_, rfl⟩) (by cases v with
    | none => exact Or.inl rfl
    | some a => exact Or.inr ⟨a, rfl⟩) (fun t ht hW => ⟨rfl, ⟨by rw [ht]; exact hH, hT.moved hW⟩, hS.F ht⟩) hS.2.2 hdg hlocks
end MCL
theorem dfX0 : ∀ k, k < 3 → defaultValue (tyX0 k) = oV 0 (fun _ => 0) (fun _ => none) k := by decide +kernel
theorem dfX1 : ∀ k, k < 6 → defaultValue (tyX1 k) = oV 1 (fun _ => 0) (fun _ => none) k := by decide +kernel
theorem dfX2 : ∀ k, k < 8 → defaultValue (tyX2 k) = oV 2 (fun _ => 0) (fun _ => none) k := by decide +kernel
theorem dfX3 : ∀ k, k < 11 → defaultValue (tyX3 k) = oV 3 (fun _ => 0) (fun _ => none) k := by decide +kernel
theorem dfX4 : ∀ k, k < 34 → defaultValue (tyX4 k) = oV 4 (fun _ => 0) (fun _ => none) k := by decide +kernel
theorem r_outer (c : ClassId) (N h0 : Nat) : ∀ i : Nat, Jvm.Free.Multi.outerC c N h0 i = arrV c N (fun j => va_rf (if j < i then some (h0 + 1 + j) else none)) := by
  intro i
  induction i with
  | zero =>
    show ({ cls := c, slots := Array.replicate N .null, vm := .none } : Cell) = _
    rw [arrV_new]
    refine congrArg (arrV c N) (funext fun j => ?_)
    simp [va_rf]
  | succ i ih =>
    show (Jvm.Free.Multi.outerC c N h0 i).setSlot i (.ref (h0 + 1 + i)) = _
    rw [ih, arrV_store]
    refine congrArg (arrV c N) (funext fun j => ?_)
    by_cases e : j = i
    · subst e
      simp [updV, va_rf]
    · by_cases h : j < i
      · simp [updV, e, h, Nat.lt_succ_of_lt h]
      · simp [updV, e, h, show ¬ j < i + 1 by omega]
section MN4
variable {p : Program} {l : Launch} {e : Env} {R : Room} {s : State} {m : MethodId} {args : Array Value} {below : List Frame} {meth : Method} {c : Code} {H : Heap} {locs : List Loc} {cells slots : Nat} {Q : State → Prop}
variable {cc : ByteArray} {nL pc : Nat} {ls : Array Slot} {rest st0 : List Value} {D : va_G} {cA : Nat → ClassId} {base : Nat} {H0 : Heap} {Ts : List Cond} {own : String} {β : Type} {mm : Mem} {z : β × Mem}
/-- new int[4][100] -/
theorem r_n4 {K : Nat → HM β} {index : Nat} (C : CallFix p m c cc nL s args Ts own) (hT : mT D cA s) (hH : mH D cA base mm H) (hS0 : va_S (mA base) H0 H locs) (hl : Cond.classLink own index ("[" ++ (FieldType.array .int).toString) ∈ Ts) (harr : Cond.arrayClass .int ∈ Ts) (hcells : cells + 5 ≤ R.cells) (hslots : slots + 404 ≤ R.slots) (hdg : decode cc pc = .ok (.multianewarray index 2, 4)) (h : bnd n4 K mm = some z)
    (kk : ∀ (q : Nat) (m2 : Mem) (H1 : Heap), mH D cA base m2 H1 → va_S (mA base) H0 H1 locs → K q m2 = some z → W p l e R s m args below meth c H1 locs (cells + 5) (slots + 404) Q (F0 m (pc + 4) ls (.ref q :: rest))) : W p l e R s m args below meth c H locs cells slots Q (F0 m pc ls (.int 100 :: .int 4 :: rest)) := by
  obtain ⟨u, m', h1, h2⟩ := bnd_inv h
  cases h1
  intro T hTh X
  have n4' : (4 : Int32).toNatClampNeg = 4 := by decide
  have n1' : (100 : Int32).toNatClampNeg = 100 := by decide
  have hov : (Cond.arrayOver (.array .int)).before args s = true := hT.2.2.2.1
  obtain ⟨vm₁, c1, comp, -, fA, fC, hO, -, X', step⟩ := Jvm.Stand.multianewarray2F X C.1 C.2.2.2.1 (C.2.2.2.2 _ hl) hov (C.2.2.2.2 _ harr) (g := F0 m pc ls (.int 100 :: .int 4 :: rest)) rfl (by rw [C.2.1]; exact hdg) rfl (by decide) (by decide) (by decide) (by decide) (by decide) (by decide) (by decide) (by rw [n4']; omega) (by rw [n4', n1']; omega)
  rw [n4', n1'] at X' step
  have e8 : c1 = cA 8 := Option.some.inj (fA.symm.trans (hT.2.1 8 (by decide) (by decide)).2)
  have e5 : comp = cA 5 := Option.some.inj (fC.symm.trans (hT.2.1 5 (by decide) (by decide)).2)
  subst e8
  subst e5
  generalize hF : Jvm.Free.Multi.fill (T.setVm vm₁) (cA 8) (cA 5) 4 100 (defaultValue .int) 4 = F at X' step
  have hTh2 : (T.setVm vm₁).heap = H := hTh
  obtain ⟨f1, f2, -, -⟩ := Jvm.Free.Multi.fill_facts (T.setVm vm₁) (cA 8) (cA 5) 4 100 (defaultValue .int) 4
  rw [hF, hTh2] at f1 f2
  have hold : ∀ x : Nat, x < H.size → F.heap[x]? = H[x]? := fun x hx => by
    have := Jvm.Free.Multi.fill_old (T.setVm vm₁) (cA 8) (cA 5) 4 100 (defaultValue .int) (a := x) (by rw [hTh2]; exact hx) 4
    rw [hF, hTh2] at this
    exact this
  have hrow : ∀ j : Nat, j < 4 → F.heap[H.size + 1 + j]? = some (arrV (cA 5) 100 (fun _ => defaultValue .int)) := fun j hj => by
    have := Jvm.Free.Multi.fill_inner (T.setVm vm₁) (cA 8) (cA 5) 4 100 (defaultValue .int) 4 j hj
    rw [hF, hTh2] at this
    rw [this, ← arrV_new]
    rfl
  rw [r_outer] at f2
  obtain ⟨q1, q2, q3, q4⟩ := id hH
  have hm : mH D cA base (allo4 mm) F.heap := by
    refine ⟨by rw [f1, mS_allo4]; omega, by rw [mS_allo4]; omega, fun a ha => ?_, fun b => ?_⟩
    · rw [mK_allo4] at ha
      rw [mS_allo4]
      by_cases g1 : a = mS mm
      · omega
      · rw [if_neg g1] at ha
        by_cases g2 : mS mm < a ∧ a ≤ mS mm + 4
        · omega
        · rw [if_neg g2] at ha
          have := q3 a ha
          omega
    · by_cases g1 : b = mS mm
      · subst g1
        unfold mC
        rw [mK_allo4, if_pos rfl]
        refine ⟨fun q => absurd q (by omega), fun _ _ => ?_⟩
        rw [← q1, f2, q1, mN_allo4, if_pos rfl]
        refine congrArg (fun f => some (arrV (cA 8) 4 f)) (funext fun j => ?_)
        have e : mR (allo4 mm) (mS mm) j = if j < 4 then some (mS mm + 1 + j) else none := by rw [mR_allo4, if_pos rfl]
        simp [aV, e]
      · by_cases g2 : mS mm < b ∧ b ≤ mS mm + 4
        · obtain ⟨j, hj, rfl⟩ : ∃ j, j < 4 ∧ b = mS mm + 1 + j := ⟨b - (mS mm + 1), by omega, by omega⟩
          unfold mC
          rw [mK_allo4, if_neg g1, if_pos g2]
          refine ⟨fun q => absurd q (by omega), fun _ _ => ?_⟩
          rw [← q1, hrow j hj, q1, mN_allo4, if_neg g1, if_pos g2]
          refine congrArg (fun f => some (arrV (cA 5) 100 f)) (funext fun k => ?_)
          have e : mI (allo4 mm) (mS mm + 1 + j) k = 0 := by rw [mI_allo4, if_pos (by omega)]
          simp [aV, e]
          rfl
        · refine mC_keep (m := mm) (H := H) (by rw [mK_allo4, if_neg g1, if_neg g2]) (by rw [mN_allo4, if_neg g1, if_neg g2]) (funext fun j => by rw [mI_allo4, if_neg (by omega)]) (funext fun j => by rw [mR_allo4, if_neg g1, if_neg g2]) (fun hb => hold b (by rw [q1]; exact (q3 b hb).2)) (q4 b)
  obtain ⟨t, a1, b1⟩ := kk (mS mm) _ F.heap hm (va_S_new hH hS0 (by rw [f1, q1]; omega) (fun q hq => hold q (by rw [q1]; exact hq))) h2 F rfl X'
  refine ⟨t, step t ?_, b1⟩
  have e : T.heap.size = mS mm := by rw [hTh, q1]
  rw [e]
  exact a1
/-- System.arraycopy of a whole int row -/
theorem r_cp {K : Unit → HM β} {index a b : Nat} {sp dp n : Int32} (C : CallFix p m c cc nL s args Ts own) (hT : mT D cA s) (hH : mH D cA base mm H) (hS0 : va_S (mA base) H0 H locs) (hsz : ls.size = nL) (hlink : Cond.methodLink own index arraycopyName ∈ Ts) (hnat : Cond.native arraycopyName ∈ Ts) (hstat : Cond.static arraycopyName ∈ Ts) (hini : Cond.initialized "java/lang/System" ∈ Ts) (hframes : 1 ≤ R.frames) (hlocals : (rest.map fun v => v.category).sum + (nativeFrameWords "java/lang/System" "arraycopy" 5 + 11) ≤ R.locals) (hdg : decode cc pc = .ok (.invokestatic index, 3)) (h : bnd (cp a sp b dp n) K mm = some z)
    (kk : ∀ (m2 : Mem) (H1 : Heap) (locs1 : List Loc), mH D cA base m2 H1 → va_S (mA base) H0 H1 locs1 → K () m2 = some z → W p l e R s m args below meth c H1 locs1 cells slots Q (F0 m (pc + 3) ls rest)) : W p l e R s m args below meth c H locs cells slots Q (F0 m pc ls (.int n :: .int dp :: .ref b :: .int sp :: .ref a :: rest)) := by
  obtain ⟨u, m', h1, h2⟩ := bnd_inv h
  obtain ⟨⟨⟨hKa, hKb, hab⟩, ⟨hNa, hNb⟩, rfl, rfl, rfl⟩, e1⟩ := ite_inv h1
  cases e1
  have hc0 := r_arr hH hKa (by decide) (by decide)
  have hc1 := r_arr hH hKb (by decide) (by decide)
  rw [hNa] at hc0
  rw [hNb] at hc1
  intro T hTh X
  obtain ⟨-, k0, hk0, cm0, hkk0⟩ := (hT.2.1 5 (by decide) (by decide)).1 100 (fun j => .int (mI mm a j))
  have n0 : (0 : Int32).toNatClampNeg = 0 := by decide
  have n1 : (100 : Int32).toNatClampNeg = 100 := by decide
  obtain ⟨vm', X', step⟩ := X.arraycopy C.1 C.2.2.2.1 (C.2.2.2.2 _ hlink) (C.2.2.2.2 _ hnat) (C.2.2.2.2 _ hstat) (C.2.2.2.2 _ hini) (src := a) (dst := b) (cs := vp_cell (cA 5) (100, .inl (mI mm a))) (cd := vp_cell (cA 5) (100, .inl (mI mm b))) (srcPos := 0) (destPos := 0) (n := 100) (by rw [hTh, hc0]; rfl) (by rw [hTh, hc1]; rfl)
    (fun _ h => by cases h) (fun _ h => by cases h) (fun h => by cases h) (fun h => by cases h) hk0 hk0 hkk0 hkk0 (by simp [tyA, refKind]) (by decide) (by decide) (by decide)
    (by have h9 : (vp_cell (cA 5) (100, .inl (mI mm a))).slots.size = 100 := arrV_size (cA 5) 100 (fun j => .int (mI mm a j)); rw [h9]; decide)
    (by have h9 : (vp_cell (cA 5) (100, .inl (mI mm b))).slots.size = 100 := arrV_size (cA 5) 100 (fun j => .int (mI mm b j)); rw [h9]; decide)
    (fun vm₁ _ i hi => by
      rw [n1] at hi
      have e : (vp_cell (cA 5) (100, .inl (mI mm a))).slots.getD ((0 : Int32).toNatClampNeg + i) .null = .int (mI mm a i) := by
        show (arrV (cA 5) 100 (fun j => .int (mI mm a j))).slots.getD _ _ = _
        rw [Array.getD_eq_getD_getElem?, n0, Nat.zero_add, arrV_read _ _ hi]
        rfl
      refine ⟨?_, ?_⟩
      · rw [e]
        rfl
      · rw [e]
        exact trivial)
    (g := F0 m pc ls (.int 100 :: .int 0 :: .ref b :: .int 0 :: .ref a :: rest)) rfl (by rw [C.2.2.1]; exact hsz) (rest := rest) rfl (by rw [C.2.1]; exact hdg) hframes (by show 2 * 0 + _ + _ ≤ _; omega)
  have e1 : copied (vp_cell (cA 5) (100, .inl (mI mm a))) (vp_cell (cA 5) (100, .inl (mI mm b))) 0 0 100 = vp_cell (cA 5) (100, .inl (va_cpy (mI mm a) (mI mm b) 0 0 100)) := by
    have := va_copied (fun z => .int z) (cA 5) (cA 5) (mI mm a) (mI mm b) (n0 := 100) (n1 := 100) (sp := 0) (dp := 0) (n := 100) (by decide)
    exact this
  rw [e1] at X' step
  have hbs : b < H.size := (Array.getElem?_eq_some_iff.mp hc1).1
  generalize hcell : vp_cell (cA 5) (100, .inl (va_cpy (mI mm a) (mI mm b) 0 0 100)) = cell at X' step
  have hheap : ((T.setVm vm').setCell b cell).heap = H.setIfInBounds b cell := by rw [← hTh]; rfl
  have oq : ∀ q : Nat, q ≠ b → (H.setIfInBounds b cell)[q]? = H[q]? := fun q hq => by simp [Array.getElem?_setIfInBounds, Ne.symm hq]
  have zq : (H.setIfInBounds b cell).size = H.size := by simp
  have hm : mH D cA base (cpyI mm a b) (H.setIfInBounds b cell) := by
    refine mH_set (a := b) hH rfl rfl rfl (fun c hc => funext fun j => ?_) (fun c hc => rfl) zq oq ?_
    · rw [mI_cpyI, if_neg (fun q => hc q.1)]
    · unfold mC
      rw [mK_cpyI, hKb]
      refine ⟨fun q => absurd q (by omega), fun _ _ => ?_⟩
      rw [Array.getElem?_setIfInBounds, if_pos rfl, if_pos hbs, mN_cpyI, hNb, ← hcell]
      refine congrArg some ?_
      show arrV (cA 5) 100 (fun j => .int (va_cpy (mI mm a) (mI mm b) 0 0 100 j)) = _
      refine congrArg (arrV (cA 5) 100) (funext fun j => ?_)
      by_cases hj : j < 100
      · simp [aV, va_cpy, mI_cpyI, hj]
      · simp [aV, va_cpy, mI_cpyI, hj]
  have hba : base ≤ b := (hH.2.2.1 b (by rw [hKb]; decide)).1
  obtain ⟨t, a1, b1⟩ := kk _ _ _ hm ⟨by rw [zq]; exact hS0.1, fun q g1 g2 => by
      rw [oq q (fun e => g2 (by rw [e]; exact hba))]
      exact hS0.2.1 q g1 g2, fun q hq => by
      rcases List.mem_append.mp hq with h | h
      · exact hS0.2.2 q h
      · obtain ⟨z, -, hz⟩ := List.mem_map.mp h
        rw [← hz]
        exact hba⟩ h2 _ hheap X'
  exact ⟨t, step t a1, b1⟩
end MN4
end
section
/-! The methods as functions over the memory: written by wip/tools/gen.py out of the bytecode; none is typed by hand -/
def f_J7_fill_53178_L5 : Nat → Nat → Int32 → Int32 → Int32 → HM (Int32)
  | 0, _, _, _, _ => fl
  | n + 1, x0, x1, x2, x3 => ifc (x3 ≤ x2) (rt x2) (bnd (sI 5 x0 x2 x1) fun _ => f_J7_fill_53178_L5 n x0 x1 (x2 + 1) x3)
def f_J7_fill_53178 (a0 : Nat) (a1 : Int32) : HM (Unit) := bnd (ln 5 a0) fun v1 => bnd (f_J7_fill_53178_L5 2100 a0 a1 0 v1) fun x2 => rt ()
def f_X2_init (a0 : Nat) (a1 : Int32) (a2 : Int32) (a3 : Int32) : HM (Unit) := bnd (pI 2 a0 7 0) fun _ => bnd (pI 2 a0 0 a1) fun _ => bnd (pI 2 a0 1 a2) fun _ => bnd (pI 2 a0 2 a3) fun _ => bnd (nA 5 100 a3) fun b1 => bnd (pR 2 a0 3 (some b1)) fun _ => bnd (nA 5 100 a3) fun b2 => bnd (pR 2 a0 4 (some b2)) fun _ => bnd (nA 6 100 a3) fun b3 => bnd (pR 2 a0 5 (some b3)) fun _ => bnd (nA 5 100 a3) fun b4 => bnd (pR 2 a0 6 (some b4)) fun _ => rt ()
def f_X2_write (a0 : Nat) (a1 : Int32) (a2 : Int32) (a3 : Int32) (a4 : Int32) : HM (Unit) := bnd (gN 2 a0 3) fun b1 => bnd (sI 5 b1 a1 a2) fun _ => bnd (gN 2 a0 4) fun b2 => bnd (sI 5 b2 a1 a3) fun _ => bnd (gN 2 a0 5) fun b3 => bnd (sZ b3 a1 a4) fun _ => ifc (a4 = 0) (rt ()) (bnd (gI 2 a0 7) fun v4 => bnd (pI 2 a0 7 (v4 + 1)) fun _ => rt ())
def f_X2_hasRow (a0 : Nat) (a1 : Int32) : HM (Int32) := ifc (a1 < 0) (rz 0) (bnd (gI 2 a0 2) fun v1 => ifc (v1 ≤ a1) (rz 0) (rz 1))
def f_X2_kill_L2 : Nat → Nat → Int32 → Int32 → HM (Int32)
  | 0, _, _, _ => fl
  | n + 1, x0, x1, x2 => bnd (gI 2 x0 2) fun v1 => ifc (v1 ≤ x2) (rt x2) (bnd (gN 2 x0 3) fun b2 => bnd (lI 5 b2 x2) fun v3 => ifc (x1 < v3) (rt x2) (bnd (gN 2 x0 3) fun b4 => bnd (lI 5 b4 x2) fun v5 => ifc (v5 = x1) (bnd (gN 2 x0 5) fun b6 => bnd (lI 6 b6 x2) fun v7 => ifc (v7 = 0) (f_X2_kill_L2 n x0 x1 (x2 + 1)) (bnd (gN 2 x0 5) fun b8 => bnd (sZ b8 x2 0) fun _ => bnd (gI 2 x0 7) fun v9 => bnd (pI 2 x0 7 (v9 - 1)) fun _ => f_X2_kill_L2 n x0 x1 (x2 + 1))) (f_X2_kill_L2 n x0 x1 (x2 + 1))))
def f_X2_kill (a0 : Nat) (a1 : Int32) : HM (Unit) := bnd (f_X2_kill_L2 2100 a0 a1 0) fun x10 => rt ()
def f_X2_isDeaderThan (a0 : Nat) (a1 : Nat) : HM (Int32) := bnd (gI 2 a0 2) fun v1 => bnd (gI 2 a0 7) fun v2 => bnd (gI 2 a1 2) fun v3 => bnd (gI 2 a1 2) fun v4 => bnd (gI 2 a1 7) fun v5 => bnd (gI 2 a0 2) fun v6 => ifc (((v1 - v2) * v3) ≤ ((v4 - v5) * v6)) (rz 0) (rz 1)
def f_X0_init (a0 : Nat) : HM (Unit) := bnd (nA 5 6 6) fun b1 => bnd (pR 0 a0 0 (some b1)) fun _ => bnd (nA 5 6 6) fun b2 => bnd (pR 0 a0 1 (some b2)) fun _ => bnd (pI 0 a0 2 0) fun _ => rt ()
def f_X0_find_L2 : Nat → Nat → Int32 → Int32 → HM (Int32)
  | 0, _, _, _ => fl
  | n + 1, x0, x1, x2 => bnd (gI 0 x0 2) fun v1 => ifc (v1 ≤ x2) (rt (-1)) (bnd (gN 0 x0 0) fun b2 => bnd (lI 5 b2 x2) fun v3 => ifc (v3 = x1) (rt x2) (f_X0_find_L2 n x0 x1 (x2 + 1)))
def f_X0_find (a0 : Nat) (a1 : Int32) : HM (Int32) := f_X0_find_L2 2100 a0 a1 0
def f_X0_append (a0 : Nat) (a1 : Int32) (a2 : Int32) : HM (Unit) := bnd (gN 0 a0 0) fun b1 => bnd (gI 0 a0 2) fun v2 => bnd (sI 5 b1 v2 a1) fun _ => bnd (gN 0 a0 1) fun b3 => bnd (gI 0 a0 2) fun v4 => bnd (sI 5 b3 v4 a2) fun _ => bnd (gI 0 a0 2) fun v5 => bnd (pI 0 a0 2 (v5 + 1)) fun _ => rt ()
def f_X0_removeAt_L2 : Nat → Nat → Int32 → Int32 → HM (Int32)
  | 0, _, _, _ => fl
  | n + 1, x0, x1, x2 => bnd (gI 0 x0 2) fun v1 => ifc (v1 ≤ (x2 + 1)) (rt x2) (bnd (gN 0 x0 0) fun b2 => bnd (gN 0 x0 0) fun b3 => bnd (lI 5 b3 (x2 + 1)) fun v4 => bnd (sI 5 b2 x2 v4) fun _ => bnd (gN 0 x0 1) fun b5 => bnd (gN 0 x0 1) fun b6 => bnd (lI 5 b6 (x2 + 1)) fun v7 => bnd (sI 5 b5 x2 v7) fun _ => f_X0_removeAt_L2 n x0 x1 (x2 + 1))
def f_X0_removeAt (a0 : Nat) (a1 : Int32) : HM (Unit) := bnd (f_X0_removeAt_L2 2100 a0 a1 a1) fun x8 => bnd (gI 0 a0 2) fun v9 => bnd (pI 0 a0 2 (v9 - 1)) fun _ => rt ()
def f_X0_rankOf_L4 : Nat → Nat → Int32 → Int32 → Int32 → HM (Int32 × Int32)
  | 0, _, _, _, _ => fl
  | n + 1, x0, x1, x2, x3 => bnd (gI 0 x0 2) fun v1 => ifc (v1 ≤ x3) (rt (x2, x3)) (bnd (gN 0 x0 0) fun b2 => bnd (lI 5 b2 x3) fun v3 => ifc (x1 ≤ v3) (f_X0_rankOf_L4 n x0 x1 x2 (x3 + 1)) (f_X0_rankOf_L4 n x0 x1 (x2 + 1) (x3 + 1)))
def f_X0_rankOf (a0 : Nat) (a1 : Int32) : HM (Int32) := bnd (f_X0_rankOf_L4 2100 a0 a1 0 0) fun x4 => rt x4.1
def f_X0_asSegment_L16 : Nat → Nat → Int32 → Nat → Int32 → HM (Int32)
  | 0, _, _, _, _ => fl
  | n + 1, x0, x1, x2, x3 => bnd (gI 0 x0 2) fun v3 => ifc (v3 ≤ x3) (rt x3) (bnd (gN 0 x0 0) fun b4 => bnd (lI 5 b4 x3) fun v5 => bnd (cl 0 x0 (f_X0_rankOf x0 v5)) fun v6 => bnd (gN 0 x0 0) fun b7 => bnd (lI 5 b7 x3) fun v8 => bnd (gN 0 x0 1) fun b9 => bnd (lI 5 b9 x3) fun v10 => bnd (cl 2 x2 (f_X2_write x2 v6 v8 v10 1)) fun _ => f_X0_asSegment_L16 n x0 x1 x2 (x3 + 1))
def f_X0_asSegment (a0 : Nat) (a1 : Int32) : HM (Nat) := bnd (nO 2) fun b1 => bnd (gI 0 a0 2) fun v2 => bnd (f_X2_init b1 a1 0 v2) fun _ => bnd (f_X0_asSegment_L16 2100 a0 a1 b1 0) fun x11 => rt b1
def f_X1_init_L42 : Nat → Nat → Nat → Int32 → Int32 → Int32 → HM (Int32)
  | 0, _, _, _, _, _ => fl
  | n + 1, x0, x1, x2, x3, x4 => ifc (x3 ≤ x4) (rt x4) (bnd (gN 1 x0 1) fun b3 => bnd (lR 7 x1 (x2 + x4)) fun b4 => bnd (sR b3 x4 b4) fun _ => bnd (gI 1 x0 5) fun v5 => bnd (gN 1 x0 1) fun b6 => bnd (lR 7 b6 x4) fun b7 => bnd (gI 2 b7 2) fun v8 => bnd (pI 1 x0 5 (v5 + v8)) fun _ => f_X1_init_L42 n x0 x1 x2 x3 (x4 + 1))
def f_X1_init (a0 : Nat) (a1 : Nat) (a2 : Int32) (a3 : Int32) : HM (Unit) := bnd (pI 1 a0 3 0) fun _ => bnd (pI 1 a0 4 0) fun _ => bnd (pI 1 a0 5 0) fun _ => bnd (pI 1 a0 0 a2) fun _ => bnd (nA 7 6 a3) fun b1 => bnd (pR 1 a0 1 (some b1)) fun _ => bnd (nA 5 6 a3) fun b2 => bnd (pR 1 a0 2 (some b2)) fun _ => bnd (f_X1_init_L42 2100 a0 a1 a2 a3 0) fun x9 => rt ()
def f_X1_isOf (a0 : Nat) (a1 : Int32) : HM (Int32) := bnd (gI 1 a0 0) fun v1 => ifc (a1 < v1) (rz 0) (bnd (gI 1 a0 0) fun v2 => bnd (gN 1 a0 1) fun b3 => bnd (ln 7 b3) fun v4 => ifc ((v2 + v4) ≤ a1) (rz 0) (rz 1))
def f_X1_sourceOf_L2 : Nat → Nat → Int32 → Int32 → HM (Option Nat)
  | 0, _, _, _ => fl
  | n + 1, x0, x1, x2 => bnd (gN 1 x0 1) fun b1 => bnd (ln 7 b1) fun v2 => ifc (v2 ≤ x2) (rt none) (bnd (gN 1 x0 1) fun b3 => bnd (lR 7 b3 x2) fun b4 => bnd (gI 2 b4 0) fun v5 => ifc (v5 = x1) (bnd (gN 1 x0 1) fun b6 => bnd (lR 7 b6 x2) fun b7 => rt (some b7)) (f_X1_sourceOf_L2 n x0 x1 (x2 + 1)))
def f_X1_sourceOf (a0 : Nat) (a1 : Int32) : HM (Option Nat) := f_X1_sourceOf_L2 2100 a0 a1 0
def f_X1_sourceOfLeastKey_L7 : Nat → Nat → Int32 → Int32 → Int32 → HM (Int32 × Int32 × Int32)
  | 0, _, _, _, _ => fl
  | n + 1, x0, x1, x2, x3 => bnd (gN 1 x0 1) fun b1 => bnd (ln 7 b1) fun v2 => ifc (v2 ≤ x3) (rt (x1, x2, x3)) (bnd (gN 1 x0 2) fun b3 => bnd (lI 5 b3 x3) fun v4 => bnd (gN 1 x0 1) fun b5 => bnd (lR 7 b5 x3) fun b6 => bnd (gI 2 b6 2) fun v7 => ifc (v7 ≤ v4) (f_X1_sourceOfLeastKey_L7 n x0 x1 x2 (x3 + 1)) (bnd (gN 1 x0 1) fun b8 => bnd (lR 7 b8 x3) fun b9 => bnd (gN 2 b9 3) fun b10 => bnd (gN 1 x0 2) fun b11 => bnd (lI 5 b11 x3) fun v12 => bnd (lI 5 b10 v12) fun v13 => ifc (x2 ≤ v13) (f_X1_sourceOfLeastKey_L7 n x0 x1 x2 (x3 + 1)) (bnd (gN 1 x0 1) fun b14 => bnd (lR 7 b14 x3) fun b15 => bnd (gN 2 b15 3) fun b16 => bnd (gN 1 x0 2) fun b17 => bnd (lI 5 b17 x3) fun v18 => bnd (lI 5 b16 v18) fun v19 => f_X1_sourceOfLeastKey_L7 n x0 x3 v19 (x3 + 1))))
def f_X1_sourceOfLeastKey (a0 : Nat) : HM (Int32) := bnd (f_X1_sourceOfLeastKey_L7 2100 a0 (-1) 100 0) fun x20 => rt x20.1
def f_X1_takeOne (a0 : Nat) : HM (Unit) := bnd (cl 1 a0 (f_X1_sourceOfLeastKey a0)) fun v1 => ifc (v1 = (-1)) (rt ()) (bnd (gN 1 a0 1) fun b2 => bnd (lR 7 b2 v1) fun b3 => bnd (gN 1 a0 2) fun b4 => bnd (lI 5 b4 v1) fun v5 => bnd (gN 2 b3 5) fun b6 => bnd (lI 6 b6 v5) fun v7 => ifc (v7 = 0) (bnd (gN 2 b3 6) fun b8 => bnd (sI 5 b8 v5 (-1)) fun _ => bnd (gN 1 a0 2) fun b9 => bnd (lI 5 b9 v1) fun v10 => bnd (sI 5 b9 v1 (v10 + 1)) fun _ => bnd (gI 1 a0 3) fun v11 => bnd (pI 1 a0 3 (v11 + 1)) fun _ => bnd (gI 1 a0 5) fun v12 => bnd (pI 1 a0 5 (v12 - 1)) fun _ => rt ()) (bnd (gN 2 b3 6) fun b13 => bnd (gI 1 a0 4) fun v14 => bnd (sI 5 b13 v5 v14) fun _ => bnd (gI 1 a0 4) fun v15 => bnd (pI 1 a0 4 (v15 + 1)) fun _ => bnd (gN 1 a0 2) fun b16 => bnd (lI 5 b16 v1) fun v17 => bnd (sI 5 b16 v1 (v17 + 1)) fun _ => bnd (gI 1 a0 3) fun v18 => bnd (pI 1 a0 3 (v18 + 1)) fun _ => bnd (gI 1 a0 5) fun v19 => bnd (pI 1 a0 5 (v19 - 1)) fun _ => rt ()))
def f_X1_greatestTier_L4 : Nat → Nat → Int32 → Int32 → HM (Int32 × Int32)
  | 0, _, _, _ => fl
  | n + 1, x0, x1, x2 => bnd (gN 1 x0 1) fun b1 => bnd (ln 7 b1) fun v2 => ifc (v2 ≤ x2) (rt (x1, x2)) (bnd (gN 1 x0 1) fun b3 => bnd (lR 7 b3 x2) fun b4 => bnd (gI 2 b4 1) fun v5 => f_X1_greatestTier_L4 n x0 (if x1 < v5 then v5 else x1) (x2 + 1))
def f_X1_greatestTier (a0 : Nat) : HM (Int32) := bnd (f_X1_greatestTier_L4 2100 a0 0 0) fun x6 => rt x6.1
def f_X1_asSegment_L41 : Nat → Nat → Int32 → Nat → Int32 → Nat → Int32 → HM (Int32)
  | 0, _, _, _, _, _, _ => fl
  | n + 1, x0, x1, x2, x3, x4, x5 => bnd (gI 2 x4 2) fun v8 => ifc (v8 ≤ x5) (rt x5) (bnd (gN 2 x4 6) fun b9 => bnd (lI 5 b9 x5) fun v10 => ifc (v10 = (-1)) (f_X1_asSegment_L41 n x0 x1 x2 x3 x4 (x5 + 1)) (bnd (gN 2 x4 6) fun b11 => bnd (lI 5 b11 x5) fun v12 => bnd (gN 2 x4 3) fun b13 => bnd (lI 5 b13 x5) fun v14 => bnd (gN 2 x4 4) fun b15 => bnd (lI 5 b15 x5) fun v16 => bnd (gN 2 x4 5) fun b17 => bnd (lI 6 b17 x5) fun v18 => bnd (cl 2 x2 (f_X2_write x2 v12 v14 v16 v18)) fun _ => f_X1_asSegment_L41 n x0 x1 x2 x3 x4 (x5 + 1)))
def f_X1_asSegment_L21 : Nat → Nat → Int32 → Nat → Int32 → HM (Int32)
  | 0, _, _, _, _ => fl
  | n + 1, x0, x1, x2, x3 => bnd (gN 1 x0 1) fun b4 => bnd (ln 7 b4) fun v5 => ifc (v5 ≤ x3) (rt x3) (bnd (gN 1 x0 1) fun b6 => bnd (lR 7 b6 x3) fun b7 => bnd (f_X1_asSegment_L41 2100 x0 x1 x2 x3 b7 0) fun x19 => f_X1_asSegment_L21 n x0 x1 x2 (x3 + 1))
def f_X1_asSegment (a0 : Nat) (a1 : Int32) : HM (Nat) := bnd (nO 2) fun b1 => bnd (cl 1 a0 (f_X1_greatestTier a0)) fun v2 => bnd (gI 1 a0 4) fun v3 => bnd (f_X2_init b1 a1 (v2 + 1) v3) fun _ => bnd (f_X1_asSegment_L21 2100 a0 a1 b1 0) fun x20 => rt b1
def f_X3_isKey (a0 : Int32) : HM (Int32) := ifc (a0 < 0) (rz 0) (ifc (100 ≤ a0) (rz 0) (rz 1))
def f_X3_canBeMerged (a0 : Int32) : HM (Int32) := ifc (a0 < 2) (rz 0) (ifc (6 < a0) (rz 0) (rz 1))
def f_X3_isPlace (a0 : Nat) (a1 : Int32) : HM (Int32) := ifc (a1 < 0) (rz 0) (bnd (gI 3 a0 3) fun v1 => ifc (v1 ≤ a1) (rz 0) (rz 1))
def f_X3_isOpenView (a0 : Nat) (a1 : Int32) : HM (Int32) := ifc (a1 < 0) (rz 0) (ifc (4 ≤ a1) (rz 0) (bnd (gN 3 a0 10) fun b1 => bnd (lI 6 b1 a1) fun v2 => ifc (v2 = 0) (rz 0) (rz 1)))
def f_X3_killRowOf_L2 : Nat → Nat → Int32 → Int32 → HM (Int32)
  | 0, _, _, _ => fl
  | n + 1, x0, x1, x2 => bnd (gI 3 x0 3) fun v1 => ifc (v1 ≤ x2) (rt x2) (bnd (gN 3 x0 2) fun b2 => bnd (lR 7 b2 x2) fun b3 => bnd (cl 2 b3 (f_X2_kill b3 x1)) fun _ => f_X3_killRowOf_L2 n x0 x1 (x2 + 1))
def f_X3_killRowOf (a0 : Nat) (a1 : Int32) : HM (Unit) := bnd (f_X3_killRowOf_L2 2100 a0 a1 0) fun x4 => rt ()
def f_X3_rowsInSegments_L4 : Nat → Nat → Int32 → Int32 → HM (Int32 × Int32)
  | 0, _, _, _ => fl
  | n + 1, x0, x1, x2 => bnd (gI 3 x0 3) fun v1 => ifc (v1 ≤ x2) (rt (x1, x2)) (bnd (gN 3 x0 2) fun b2 => bnd (lR 7 b2 x2) fun b3 => bnd (gI 2 b3 2) fun v4 => f_X3_rowsInSegments_L4 n x0 (x1 + v4) (x2 + 1))
def f_X3_rowsInSegments (a0 : Nat) : HM (Int32) := bnd (f_X3_rowsInSegments_L4 2100 a0 0 0) fun x5 => rt x5.1
def f_X3_livingFrom_L5 : Nat → Nat → Int32 → Int32 → Int32 → Int32 → HM (Int32 × Int32)
  | 0, _, _, _, _, _ => fl
  | n + 1, x0, x1, x2, x3, x4 => ifc ((x1 + x2) ≤ x4) (rt (x3, x4)) (bnd (gN 3 x0 2) fun b1 => bnd (lR 7 b1 x4) fun b2 => bnd (gI 2 b2 7) fun v3 => f_X3_livingFrom_L5 n x0 x1 x2 (x3 + v3) (x4 + 1))
def f_X3_livingFrom (a0 : Nat) (a1 : Int32) (a2 : Int32) : HM (Int32) := bnd (f_X3_livingFrom_L5 2100 a0 a1 a2 0 a1) fun x4 => rt x4.1
def f_X3_isOfOneTier_L4 : Nat → Nat → Int32 → Int32 → Int32 → HM (Int32)
  | 0, _, _, _, _ => fl
  | n + 1, x0, x1, x2, x3 => ifc ((x1 + x2) ≤ x3) (rz 1) (bnd (gN 3 x0 2) fun b1 => bnd (lR 7 b1 x3) fun b2 => bnd (gI 2 b2 1) fun v3 => bnd (gN 3 x0 2) fun b4 => bnd (lR 7 b4 x1) fun b5 => bnd (gI 2 b5 1) fun v6 => ifc (v3 = v6) (f_X3_isOfOneTier_L4 n x0 x1 x2 (x3 + 1)) (rz 0))
def f_X3_isOfOneTier (a0 : Nat) (a1 : Int32) (a2 : Int32) : HM (Int32) := f_X3_isOfOneTier_L4 2100 a0 a1 a2 (a1 + 1)
def f_X3_closeGap_L2 : Nat → Nat → Int32 → Int32 → Int32 → HM (Int32)
  | 0, _, _, _, _ => fl
  | n + 1, x0, x1, x2, x3 => bnd (gI 3 x0 3) fun v1 => ifc (v1 ≤ (x3 + x2)) (rt x3) (bnd (gN 3 x0 2) fun b2 => bnd (gN 3 x0 2) fun b3 => bnd (lR 7 b3 (x3 + x2)) fun b4 => bnd (sR b2 x3 b4) fun _ => f_X3_closeGap_L2 n x0 x1 x2 (x3 + 1))
def f_X3_closeGap (a0 : Nat) (a1 : Int32) (a2 : Int32) : HM (Unit) := bnd (f_X3_closeGap_L2 2100 a0 a1 a2 a1) fun x5 => bnd (gI 3 a0 3) fun v6 => bnd (pI 3 a0 3 (v6 - a2)) fun _ => rt ()
def f_X3_endMerge (a0 : Nat) (a1 : Nat) : HM (Unit) := bnd (gI 1 a1 4) fun v1 => ifc (v1 ≤ 0) (bnd (gI 1 a1 0) fun v2 => bnd (gN 1 a1 1) fun b3 => bnd (ln 7 b3) fun v4 => bnd (cl 3 a0 (f_X3_closeGap a0 (v2 + 0) (v4 - 0))) fun _ => bnd (gI 3 a0 5) fun v5 => bnd (gI 1 a1 4) fun v6 => bnd (pI 3 a0 5 (v5 + v6)) fun _ => bnd (pR 3 a0 8 (some a1)) fun _ => bnd (pR 3 a0 7 none) fun _ => rt ()) (bnd (gN 3 a0 2) fun b7 => bnd (gI 1 a1 0) fun v8 => bnd (gI 3 a0 4) fun v9 => bnd (cl 1 a1 (f_X1_asSegment a1 v9)) fun b10 => bnd (sR b7 v8 b10) fun _ => bnd (gI 3 a0 4) fun v11 => bnd (pI 3 a0 4 (v11 + 1)) fun _ => bnd (gI 1 a1 0) fun v12 => bnd (gN 1 a1 1) fun b13 => bnd (ln 7 b13) fun v14 => bnd (cl 3 a0 (f_X3_closeGap a0 (v12 + 1) (v14 - 1))) fun _ => bnd (gI 3 a0 5) fun v15 => bnd (gI 1 a1 4) fun v16 => bnd (pI 3 a0 5 (v15 + v16)) fun _ => bnd (pR 3 a0 8 (some a1)) fun _ => bnd (pR 3 a0 7 none) fun _ => rt ())
def f_X3_init (a0 : Nat) : HM (Unit) := bnd (nA 5 100 100) fun b1 => bnd (pR 3 a0 0 (some b1)) fun _ => bnd (nO 0) fun b2 => bnd (f_X0_init b2) fun _ => bnd (pR 3 a0 1 (some b2)) fun _ => bnd (nA 7 20 20) fun b3 => bnd (pR 3 a0 2 (some b3)) fun _ => bnd (pI 3 a0 3 0) fun _ => bnd (pI 3 a0 4 0) fun _ => bnd (pI 3 a0 5 0) fun _ => bnd (pI 3 a0 6 3) fun _ => bnd (pR 3 a0 7 none) fun _ => bnd (pR 3 a0 8 none) fun _ => bnd n4 fun b4 => bnd (pR 3 a0 9 (some b4)) fun _ => bnd (nA 6 4 4) fun b5 => bnd (pR 3 a0 10 (some b5)) fun _ => bnd (gN 3 a0 0) fun b6 => bnd (f_J7_fill_53178 b6 (-1)) fun _ => rt ()
def f_X3_put (a0 : Nat) (a1 : Int32) (a2 : Int32) : HM (Int32) := bnd (f_X3_isKey a1) fun v1 => ifc (v1 = 0) (rt (-1)) (ifc (a2 < 0) (rt (-2)) (ifc (a2 < 1000) (bnd (gN 3 a0 1) fun b2 => bnd (cl 0 b2 (f_X0_find b2 a1)) fun v3 => ifc (v3 = (-1)) (bnd (gN 3 a0 1) fun b13 => bnd (gI 0 b13 2) fun v14 => ifc (v14 = 6) (rt (-4)) (ifc (v3 = (-1)) (bnd (cl 3 a0 (f_X3_killRowOf a0 a1)) fun _ => bnd (gN 3 a0 1) fun b20 => bnd (cl 0 b20 (f_X0_append b20 a1 a2)) fun _ => bnd (gN 3 a0 0) fun b21 => bnd (sI 5 b21 a1 a2) fun _ => bnd (gN 3 a0 1) fun b22 => bnd (gI 0 b22 2) fun v23 => rt v23) (bnd (gN 3 a0 1) fun b15 => bnd (gN 0 b15 1) fun b16 => bnd (sI 5 b16 v3 a2) fun _ => bnd (gN 3 a0 0) fun b17 => bnd (sI 5 b17 a1 a2) fun _ => bnd (gN 3 a0 1) fun b18 => bnd (gI 0 b18 2) fun v19 => rt v19))) (ifc (v3 = (-1)) (bnd (cl 3 a0 (f_X3_killRowOf a0 a1)) fun _ => bnd (gN 3 a0 1) fun b9 => bnd (cl 0 b9 (f_X0_append b9 a1 a2)) fun _ => bnd (gN 3 a0 0) fun b10 => bnd (sI 5 b10 a1 a2) fun _ => bnd (gN 3 a0 1) fun b11 => bnd (gI 0 b11 2) fun v12 => rt v12) (bnd (gN 3 a0 1) fun b4 => bnd (gN 0 b4 1) fun b5 => bnd (sI 5 b5 v3 a2) fun _ => bnd (gN 3 a0 0) fun b6 => bnd (sI 5 b6 a1 a2) fun _ => bnd (gN 3 a0 1) fun b7 => bnd (gI 0 b7 2) fun v8 => rt v8))) (rt (-2))))
def f_X3_drop (a0 : Nat) (a1 : Int32) : HM (Int32) := bnd (f_X3_isKey a1) fun v1 => ifc (v1 = 0) (rt (-1)) (bnd (gN 3 a0 0) fun b2 => bnd (lI 5 b2 a1) fun v3 => ifc (v3 = (-1)) (rt 0) (bnd (gN 3 a0 1) fun b4 => bnd (cl 0 b4 (f_X0_find b4 a1)) fun v5 => ifc (v5 = (-1)) (bnd (cl 3 a0 (f_X3_killRowOf a0 a1)) fun _ => bnd (gN 3 a0 0) fun b8 => bnd (sI 5 b8 a1 (-1)) fun _ => rt 1) (bnd (gN 3 a0 1) fun b6 => bnd (cl 0 b6 (f_X0_removeAt b6 v5)) fun _ => bnd (gN 3 a0 0) fun b7 => bnd (sI 5 b7 a1 (-1)) fun _ => rt 1)))
def f_X3_get (a0 : Nat) (a1 : Int32) : HM (Int32) := bnd (f_X3_isKey a1) fun v1 => ifc (v1 = 0) (rt (-1)) (bnd (gN 3 a0 0) fun b2 => bnd (lI 5 b2 a1) fun v3 => ifc (v3 = (-1)) (rt (-3)) (bnd (gN 3 a0 0) fun b4 => bnd (lI 5 b4 a1) fun v5 => rt v5))
def f_X3_next_L11 : Nat → Nat → Int32 → Int32 → HM (Int32)
  | 0, _, _, _ => fl
  | n + 1, x0, x1, x2 => ifc (100 ≤ x2) (rt (-3)) (bnd (gN 3 x0 0) fun b2 => bnd (lI 5 b2 x2) fun v3 => ifc (v3 = (-1)) (f_X3_next_L11 n x0 x1 (x2 + 1)) (rt x2))
def f_X3_next (a0 : Nat) (a1 : Int32) : HM (Int32) := bnd (f_X3_isKey a1) fun v1 => ifc (v1 = 0) (rt (-1)) (f_X3_next_L11 2100 a0 a1 a1)
def f_X3_flush (a0 : Nat) : HM (Int32) := bnd (gN 3 a0 1) fun b1 => bnd (gI 0 b1 2) fun v2 => ifc (v2 = 0) (rt (-3)) (bnd (gI 3 a0 3) fun v3 => ifc (v3 = 20) (rt (-4)) (bnd (gN 3 a0 1) fun b4 => bnd (gI 3 a0 4) fun v5 => bnd (cl 0 b4 (f_X0_asSegment b4 v5)) fun b6 => bnd (gN 3 a0 2) fun b7 => bnd (gI 3 a0 3) fun v8 => bnd (sR b7 v8 b6) fun _ => bnd (gI 3 a0 3) fun v9 => bnd (pI 3 a0 3 (v9 + 1)) fun _ => bnd (gI 3 a0 4) fun v10 => bnd (pI 3 a0 4 (v10 + 1)) fun _ => bnd (gI 3 a0 5) fun v11 => bnd (gI 2 b6 2) fun v12 => bnd (pI 3 a0 5 (v11 + v12)) fun _ => bnd (gN 3 a0 1) fun b13 => bnd (pI 0 b13 2 0) fun _ => bnd (gI 2 b6 0) fun v14 => rt v14))
def f_X3_count (a0 : Nat) (a1 : Int32) : HM (Int32) := ifc (a1 = 0) (bnd (gN 3 a0 1) fun b1 => bnd (gI 0 b1 2) fun v2 => rt v2) (ifc (a1 = 1) (bnd (gI 3 a0 3) fun v3 => rt v3) (ifc (a1 = 2) (bnd (cl 3 a0 (f_X3_rowsInSegments a0)) fun v4 => rt v4) (ifc (a1 = 3) (bnd (gI 3 a0 3) fun v5 => bnd (cl 3 a0 (f_X3_livingFrom a0 0 v5)) fun v6 => rt v6) (ifc (a1 = 4) (bnd (gI 3 a0 5) fun v7 => rt v7) (ifc (a1 = 5) (bnd (gN 3 a0 1) fun b8 => bnd (gI 0 b8 2) fun v9 => bnd (gI 3 a0 3) fun v10 => bnd (cl 3 a0 (f_X3_livingFrom a0 0 v10)) fun v11 => rt (v9 + v11)) (rt (-2)))))))
def f_X3_segment (a0 : Nat) (a1 : Int32) (a2 : Int32) : HM (Int32) := bnd (cl 3 a0 (f_X3_isPlace a0 a1)) fun v1 => ifc (v1 = 0) (rt (-1)) (bnd (gN 3 a0 2) fun b2 => bnd (lR 7 b2 a1) fun b3 => ifc (a2 = 0) (bnd (gI 2 b3 0) fun v4 => rt v4) (ifc (a2 = 1) (bnd (gI 2 b3 1) fun v5 => rt v5) (ifc (a2 = 2) (bnd (gI 2 b3 2) fun v6 => rt v6) (ifc (a2 = 3) (bnd (gI 2 b3 7) fun v7 => rt v7) (ifc (a2 = 4) (bnd (gR 3 a0 7) fun r8 => ifn r8 (rt 0) (fun b9 => bnd (gR 3 a0 7) fun r10 => ifn r10 (fl) (fun b11 => bnd (cl 1 b11 (f_X1_isOf b11 a1)) fun v12 => ifc (v12 = 0) (rt 0) (rt 1)))) (rt (-2)))))))
def f_X3_row (a0 : Nat) (a1 : Int32) (a2 : Int32) (a3 : Int32) : HM (Int32) := bnd (cl 3 a0 (f_X3_isPlace a0 a1)) fun v1 => ifc (v1 = 0) (rt (-1)) (bnd (gN 3 a0 2) fun b2 => bnd (lR 7 b2 a1) fun b3 => bnd (cl 2 b3 (f_X2_hasRow b3 a2)) fun v4 => ifc (v4 = 0) (rt (-1)) (bnd (gN 3 a0 2) fun b5 => bnd (lR 7 b5 a1) fun b6 => ifc (a3 = 0) (bnd (gN 2 b6 3) fun b7 => bnd (lI 5 b7 a2) fun v8 => rt v8) (ifc (a3 = 1) (bnd (gN 2 b6 4) fun b9 => bnd (lI 5 b9 a2) fun v10 => rt v10) (ifc (a3 = 2) (bnd (gN 2 b6 5) fun b11 => bnd (lI 6 b11 a2) fun v12 => ifc (v12 = 0) (rt 0) (rt 1)) (rt (-2))))))
def f_X3_full (a0 : Nat) (a1 : Int32) : HM (Int32) := ifc (a1 < 2) (rt (-2)) (ifc (a1 ≤ 5) (bnd (gI 3 a0 6) fun v1 => bnd (pI 3 a0 6 a1) fun _ => rt v1) (rt (-2)))
def f_X3_due_L4 : Nat → Nat → Int32 → Int32 → HM (Int32 × Int32)
  | 0, _, _, _ => fl
  | n + 1, x0, x1, x2 => bnd (gI 3 x0 6) fun v1 => bnd (gI 3 x0 3) fun v2 => ifc (v2 < (x2 + v1)) (rt (x1, x2)) (bnd (gI 3 x0 6) fun v3 => bnd (cl 3 x0 (f_X3_isOfOneTier x0 x2 v3)) fun v4 => ifc (v4 = 0) (f_X3_due_L4 n x0 x1 (x2 + 1)) (ifc (x1 = (-1)) (f_X3_due_L4 n x0 x2 (x2 + 1)) (bnd (gN 3 x0 2) fun b5 => bnd (lR 7 b5 x2) fun b6 => bnd (gI 2 b6 1) fun v7 => bnd (gN 3 x0 2) fun b8 => bnd (lR 7 b8 x1) fun b9 => bnd (gI 2 b9 1) fun v10 => ifc (v10 ≤ v7) (f_X3_due_L4 n x0 x1 (x2 + 1)) (f_X3_due_L4 n x0 x2 (x2 + 1)))))
def f_X3_due (a0 : Nat) : HM (Int32) := bnd (f_X3_due_L4 2100 a0 (-1) 0) fun x11 => ifc (x11.1 = (-1)) (rt (-3)) (rt x11.1)
def f_X3_cheapest_L33 : Nat → Nat → Int32 → Int32 → Int32 → Int32 → HM (Int32 × Int32 × Int32)
  | 0, _, _, _, _, _ => fl
  | n + 1, x0, x1, x2, x3, x4 => bnd (gI 3 x0 3) fun v4 => ifc (v4 < (x4 + x1)) (rt (x2, x3, x4)) (bnd (cl 3 x0 (f_X3_livingFrom x0 x4 x1)) fun v5 => ifc (x3 ≤ v5) (f_X3_cheapest_L33 n x0 x1 x2 x3 (x4 + 1)) (f_X3_cheapest_L33 n x0 x1 x4 v5 (x4 + 1)))
def f_X3_cheapest (a0 : Nat) (a1 : Int32) : HM (Int32) := bnd (f_X3_canBeMerged a1) fun v1 => ifc (v1 = 0) (rt (-2)) (bnd (gI 3 a0 3) fun v2 => ifc (a1 ≤ v2) (bnd (cl 3 a0 (f_X3_livingFrom a0 0 a1)) fun v3 => bnd (f_X3_cheapest_L33 2100 a0 a1 0 v3 1) fun x6 => rt x6.1) (rt (-3)))
def f_X3_worst_L14 : Nat → Nat → Int32 → Int32 → HM (Int32 × Int32)
  | 0, _, _, _ => fl
  | n + 1, x0, x1, x2 => bnd (gI 3 x0 3) fun v2 => ifc (v2 ≤ x2) (rt (x1, x2)) (bnd (gN 3 x0 2) fun b3 => bnd (lR 7 b3 x2) fun b4 => bnd (gN 3 x0 2) fun b5 => bnd (lR 7 b5 x1) fun b6 => bnd (cl 2 b4 (f_X2_isDeaderThan b4 b6)) fun v7 => ifc (v7 = 0) (f_X3_worst_L14 n x0 x1 (x2 + 1)) (f_X3_worst_L14 n x0 x2 (x2 + 1)))
def f_X3_worst (a0 : Nat) : HM (Int32) := bnd (gI 3 a0 3) fun v1 => ifc (v1 = 0) (rt (-3)) (bnd (f_X3_worst_L14 2100 a0 0 1) fun x8 => rt x8.1)
def f_X3_begin (a0 : Nat) (a1 : Int32) (a2 : Int32) : HM (Int32) := bnd (cl 3 a0 (f_X3_isPlace a0 a1)) fun v1 => ifc (v1 = 0) (rt (-1)) (bnd (f_X3_canBeMerged a2) fun v2 => ifc (v2 = 0) (rt (-2)) (bnd (cl 3 a0 (f_X3_isPlace a0 ((a1 + a2) - 1))) fun v3 => ifc (v3 = 0) (rt (-1)) (bnd (gR 3 a0 7) fun r4 => ifn r4 (bnd (nO 1) fun b6 => bnd (gN 3 a0 2) fun b7 => bnd (f_X1_init b6 b7 a1 a2) fun _ => bnd (pR 3 a0 7 (some b6)) fun _ => bnd (gR 3 a0 7) fun r8 => ifn r8 (fl) (fun b9 => bnd (gI 1 b9 5) fun v10 => rt v10)) (fun b5 => rt (-3)))))
def f_X3_step_L26 : Nat → Nat → Int32 → Int32 → HM (Int32)
  | 0, _, _, _ => fl
  | n + 1, x0, x1, x2 => ifc (x1 ≤ x2) (rt x2) (bnd (gR 3 x0 7) fun r3 => ifn r3 (fl) (fun b4 => bnd (gI 1 b4 5) fun v5 => ifc (v5 ≤ 0) (rt x2) (bnd (gR 3 x0 7) fun r6 => ifn r6 (fl) (fun b7 => bnd (cl 1 b7 (f_X1_takeOne b7)) fun _ => f_X3_step_L26 n x0 x1 (x2 + 1)))))
def f_X3_step (a0 : Nat) (a1 : Int32) : HM (Int32) := ifc (a1 < 0) (rt (-2)) (ifc (a1 ≤ 1000) (bnd (gR 3 a0 7) fun r1 => ifn r1 (rt (-3)) (fun b2 => bnd (f_X3_step_L26 2100 a0 a1 0) fun x8 => bnd (gR 3 a0 7) fun r9 => ifn r9 (fl) (fun b10 => bnd (gI 1 b10 5) fun v11 => ifc (v11 = 0) (bnd (gR 3 a0 7) fun r12 => ifn r12 (fl) (fun b13 => bnd (cl 3 a0 (f_X3_endMerge a0 b13)) fun _ => rt x8)) (rt x8)))) (rt (-2)))
def f_X3_stop (a0 : Nat) : HM (Int32) := bnd (gR 3 a0 7) fun r1 => ifn r1 (rt (-3)) (fun b2 => bnd (gR 3 a0 7) fun r3 => ifn r3 (fl) (fun b4 => bnd (gI 1 b4 3) fun v5 => bnd (gI 3 a0 5) fun v6 => bnd (gR 3 a0 7) fun r7 => ifn r7 (fl) (fun b8 => bnd (gI 1 b8 4) fun v9 => bnd (pI 3 a0 5 (v6 + v9)) fun _ => bnd (pR 3 a0 7 none) fun _ => rt v5)))
def f_X3_merging (a0 : Nat) (a1 : Int32) : HM (Int32) := ifc (a1 < 0) (rt (-2)) (ifc (a1 ≤ 3) (bnd (gR 3 a0 7) fun r1 => ifn r1 (rt (-3)) (fun b2 => ifc (a1 = 0) (bnd (gR 3 a0 7) fun r3 => ifn r3 (fl) (fun b4 => bnd (gI 1 b4 3) fun v5 => rt v5)) (ifc (a1 = 1) (bnd (gR 3 a0 7) fun r6 => ifn r6 (fl) (fun b7 => bnd (gI 1 b7 4) fun v8 => rt v8)) (ifc (a1 = 2) (bnd (gR 3 a0 7) fun r9 => ifn r9 (fl) (fun b10 => bnd (gI 1 b10 5) fun v11 => rt v11)) (bnd (gR 3 a0 7) fun r12 => ifn r12 (fl) (fun b13 => bnd (gI 1 b13 0) fun v14 => rt v14)))))) (rt (-2)))
def f_X3_moved (a0 : Nat) (a1 : Int32) (a2 : Int32) : HM (Int32) := bnd (gR 3 a0 8) fun r1 => ifn r1 (rt (-1)) (fun b2 => bnd (gR 3 a0 8) fun r3 => ifn r3 (fl) (fun b4 => bnd (cl 1 b4 (f_X1_sourceOf b4 a1)) fun r5 => ifn r5 (rt (-1)) (fun b6 => bnd (cl 2 b6 (f_X2_hasRow b6 a2)) fun v7 => ifc (v7 = 0) (rt (-1)) (bnd (gN 2 b6 6) fun b8 => bnd (lI 5 b8 a2) fun v9 => ifc (v9 = (-1)) (rt (-3)) (bnd (gN 2 b6 6) fun b10 => bnd (lI 5 b10 a2) fun v11 => rt v11)))))
def f_X3_view_L2 : Nat → Nat → Int32 → HM (Int32)
  | 0, _, _ => fl
  | n + 1, x0, x1 => ifc (4 ≤ x1) (rt (-4)) (bnd (gN 3 x0 10) fun b1 => bnd (lI 6 b1 x1) fun v2 => ifc (v2 = 0) (bnd (gN 3 x0 10) fun b3 => bnd (sZ b3 x1 1) fun _ => bnd (gN 3 x0 0) fun b4 => bnd (gN 3 x0 9) fun b5 => bnd (lR 8 b5 x1) fun b6 => bnd (cp b4 0 b6 0 100) fun _ => rt x1) (f_X3_view_L2 n x0 (x1 + 1)))
def f_X3_view (a0 : Nat) : HM (Int32) := f_X3_view_L2 2100 a0 0
def f_X3_seen (a0 : Nat) (a1 : Int32) (a2 : Int32) : HM (Int32) := bnd (cl 3 a0 (f_X3_isOpenView a0 a1)) fun v1 => ifc (v1 = 0) (rt (-1)) (bnd (f_X3_isKey a2) fun v2 => ifc (v2 = 0) (rt (-1)) (bnd (gN 3 a0 9) fun b3 => bnd (lR 8 b3 a1) fun b4 => bnd (lI 5 b4 a2) fun v5 => ifc (v5 = (-1)) (rt (-3)) (rt v5)))
def f_X3_shut_L14 : Nat → Nat → Int32 → Int32 → Int32 → HM (Int32 × Int32)
  | 0, _, _, _, _ => fl
  | n + 1, x0, x1, x2, x3 => ifc (100 ≤ x3) (rt (x2, x3)) (bnd (gN 3 x0 9) fun b2 => bnd (lR 8 b2 x1) fun b3 => bnd (lI 5 b3 x3) fun v4 => bnd (gN 3 x0 0) fun b5 => bnd (lI 5 b5 x3) fun v6 => ifc (v4 = v6) (f_X3_shut_L14 n x0 x1 x2 (x3 + 1)) (f_X3_shut_L14 n x0 x1 (x2 + 1) (x3 + 1)))
def f_X3_shut (a0 : Nat) (a1 : Int32) : HM (Int32) := bnd (cl 3 a0 (f_X3_isOpenView a0 a1)) fun v1 => ifc (v1 = 0) (rt (-1)) (bnd (f_X3_shut_L14 2100 a0 a1 0 0) fun x7 => bnd (gN 3 a0 10) fun b8 => bnd (sZ b8 a1 0) fun _ => rt x7.1)
def f_X4_init_L200 : Nat → Nat → Int32 → HM (Int32)
  | 0, _, _ => fl
  | n + 1, x0, x1 => ifc (100 ≤ x1) (rt x1) (bnd (gN 4 x0 1) fun b24 => bnd (sI 5 b24 x1 (-1)) fun _ => bnd (gN 4 x0 3) fun b25 => bnd (sI 5 b25 x1 (-1)) fun _ => f_X4_init_L200 n x0 (x1 + 1))
def f_X4_init (a0 : Nat) : HM (Unit) := bnd (nA 5 100 100) fun b1 => bnd (pR 4 a0 1 (some b1)) fun _ => bnd (nA 5 100 100) fun b2 => bnd (pR 4 a0 2 (some b2)) fun _ => bnd (nA 5 100 100) fun b3 => bnd (pR 4 a0 3 (some b3)) fun _ => bnd (nA 5 100 100) fun b4 => bnd (pR 4 a0 4 (some b4)) fun _ => bnd (nA 5 6 6) fun b5 => bnd (pR 4 a0 6 (some b5)) fun _ => bnd (nA 5 20 20) fun b6 => bnd (pR 4 a0 8 (some b6)) fun _ => bnd (nA 6 21 21) fun b7 => bnd (pR 4 a0 9 (some b7)) fun _ => bnd (nA 5 21 21) fun b8 => bnd (pR 4 a0 10 (some b8)) fun _ => bnd (nA 5 21 21) fun b9 => bnd (pR 4 a0 11 (some b9)) fun _ => bnd (nA 5 21 21) fun b10 => bnd (pR 4 a0 12 (some b10)) fun _ => bnd (nA 5 2100 2100) fun b11 => bnd (pR 4 a0 13 (some b11)) fun _ => bnd (nA 5 2100 2100) fun b12 => bnd (pR 4 a0 14 (some b12)) fun _ => bnd (nA 6 2100 2100) fun b13 => bnd (pR 4 a0 15 (some b13)) fun _ => bnd (pI 4 a0 18 3) fun _ => bnd (nA 5 6 6) fun b14 => bnd (pR 4 a0 23 (some b14)) fun _ => bnd (nA 5 100 100) fun b15 => bnd (pR 4 a0 24 (some b15)) fun _ => bnd (nA 5 100 100) fun b16 => bnd (pR 4 a0 25 (some b16)) fun _ => bnd (nA 5 100 100) fun b17 => bnd (pR 4 a0 26 (some b17)) fun _ => bnd (nA 5 600 600) fun b18 => bnd (pR 4 a0 27 (some b18)) fun _ => bnd (nA 5 6 6) fun b19 => bnd (pR 4 a0 29 (some b19)) fun _ => bnd (nA 5 6 6) fun b20 => bnd (pR 4 a0 30 (some b20)) fun _ => bnd (nA 5 600 600) fun b21 => bnd (pR 4 a0 31 (some b21)) fun _ => bnd (nA 6 4 4) fun b22 => bnd (pR 4 a0 32 (some b22)) fun _ => bnd (nA 5 400 400) fun b23 => bnd (pR 4 a0 33 (some b23)) fun _ => bnd (f_X4_init_L200 2100 a0 0) fun x26 => rt ()
def f_X4_thrown (a0 : Nat) : HM (Int32) := bnd (gI 4 a0 0) fun v1 => rt v1
def f_X4_in (a0 : Int32) (a1 : Int32) (a2 : Int32) : HM (Int32) := ifc (a0 < a1) (rz 0) (ifc (a2 < a0) (rz 0) (rz 1))
def f_X4_memoryAt_L4 : Nat → Nat → Int32 → Int32 → Int32 → HM (Int32 × Int32)
  | 0, _, _, _, _ => fl
  | n + 1, x0, x1, x2, x3 => bnd (gI 4 x0 5) fun v1 => ifc (v1 ≤ x3) (rt (x2, x3)) (bnd (gN 4 x0 6) fun b2 => bnd (lI 5 b2 x3) fun v3 => ifc (v3 = x1) (f_X4_memoryAt_L4 n x0 x1 x3 (x3 + 1)) (f_X4_memoryAt_L4 n x0 x1 x2 (x3 + 1)))
def f_X4_memoryAt (a0 : Nat) (a1 : Int32) : HM (Int32) := bnd (f_X4_memoryAt_L4 2100 a0 a1 (-1) 0) fun x4 => rt x4.1
def f_X4_die (a0 : Nat) (a1 : Int32) : HM (Unit) := bnd (gN 4 a0 3) fun b1 => bnd (lI 5 b1 a1) fun v2 => ifc (v2 < 0) (rt ()) (bnd (gN 4 a0 15) fun b3 => bnd (gN 4 a0 3) fun b4 => bnd (lI 5 b4 a1) fun v5 => bnd (gN 4 a0 4) fun b6 => bnd (lI 5 b6 a1) fun v7 => bnd (sZ b3 ((100 * v5) + v7) 0) fun _ => bnd (gN 4 a0 3) fun b8 => bnd (sI 5 b8 a1 (-1)) fun _ => rt ())
def f_X4_put (a0 : Nat) (a1 : Int32) (a2 : Int32) : HM (Int32) := bnd (pI 4 a0 0 0) fun _ => bnd (f_X4_in a1 0 99) fun v1 => ifc (v1 = 0) (rt (-1)) (bnd (f_X4_in a2 0 999) fun v2 => ifc (v2 = 0) (rt (-2)) (bnd (cl 4 a0 (f_X4_memoryAt a0 a1)) fun v3 => ifc (0 ≤ v3) (bnd (cl 4 a0 (f_X4_die a0 a1)) fun _ => bnd (gN 4 a0 1) fun b4 => bnd (sI 5 b4 a1 a2) fun _ => bnd (gN 4 a0 2) fun b5 => bnd (lI 5 b5 a1) fun v6 => bnd (sI 5 b5 a1 (v6 + 1)) fun _ => bnd (gI 4 a0 5) fun v7 => rt v7) (bnd (gI 4 a0 5) fun v8 => ifc (v8 = 6) (rt (-4)) (bnd (gN 4 a0 6) fun b9 => bnd (gI 4 a0 5) fun v10 => bnd (sI 5 b9 v10 a1) fun _ => bnd (gI 4 a0 5) fun v11 => bnd (pI 4 a0 5 (v11 + 1)) fun _ => bnd (cl 4 a0 (f_X4_die a0 a1)) fun _ => bnd (gN 4 a0 1) fun b12 => bnd (sI 5 b12 a1 a2) fun _ => bnd (gN 4 a0 2) fun b13 => bnd (lI 5 b13 a1) fun v14 => bnd (sI 5 b13 a1 (v14 + 1)) fun _ => bnd (gI 4 a0 5) fun v15 => rt v15))))
def f_X4_drop_L50 : Nat → Nat → Int32 → Int32 → Int32 → HM (Int32)
  | 0, _, _, _, _ => fl
  | n + 1, x0, x1, x2, x3 => bnd (gI 4 x0 5) fun v9 => ifc (v9 ≤ x3) (rt x3) (bnd (gN 4 x0 6) fun b10 => bnd (gN 4 x0 6) fun b11 => bnd (lI 5 b11 (x3 + 1)) fun v12 => bnd (sI 5 b10 x3 v12) fun _ => f_X4_drop_L50 n x0 x1 x2 (x3 + 1))
def f_X4_drop (a0 : Nat) (a1 : Int32) : HM (Int32) := bnd (pI 4 a0 0 0) fun _ => bnd (f_X4_in a1 0 99) fun v1 => ifc (v1 = 0) (rt (-1)) (bnd (gN 4 a0 1) fun b2 => bnd (lI 5 b2 a1) fun v3 => ifc (0 ≤ v3) (bnd (cl 4 a0 (f_X4_memoryAt a0 a1)) fun v4 => ifc (v4 < 0) (bnd (cl 4 a0 (f_X4_die a0 a1)) fun _ => bnd (gN 4 a0 1) fun b5 => bnd (sI 5 b5 a1 (-1)) fun _ => bnd (gN 4 a0 2) fun b6 => bnd (lI 5 b6 a1) fun v7 => bnd (sI 5 b6 a1 (v7 + 1)) fun _ => rt 1) (bnd (gI 4 a0 5) fun v8 => bnd (pI 4 a0 5 (v8 - 1)) fun _ => bnd (f_X4_drop_L50 2100 a0 a1 v4 v4) fun x13 => bnd (cl 4 a0 (f_X4_die a0 a1)) fun _ => bnd (gN 4 a0 1) fun b14 => bnd (sI 5 b14 a1 (-1)) fun _ => bnd (gN 4 a0 2) fun b15 => bnd (lI 5 b15 a1) fun v16 => bnd (sI 5 b15 a1 (v16 + 1)) fun _ => rt 1)) (rt 0))
def f_X4_get (a0 : Nat) (a1 : Int32) : HM (Int32) := bnd (pI 4 a0 0 0) fun _ => bnd (f_X4_in a1 0 99) fun v1 => ifc (v1 = 0) (rt (-1)) (bnd (gN 4 a0 1) fun b2 => bnd (lI 5 b2 a1) fun v3 => ifc (0 ≤ v3) (bnd (gN 4 a0 1) fun b4 => bnd (lI 5 b4 a1) fun v5 => rt v5) (rt (-3)))
def f_X4_next_L19 : Nat → Nat → Int32 → Int32 → HM (Int32)
  | 0, _, _, _ => fl
  | n + 1, x0, x1, x2 => ifc (100 ≤ x2) (rt (-3)) (bnd (gN 4 x0 1) fun b2 => bnd (lI 5 b2 x2) fun v3 => ifc (v3 < 0) (f_X4_next_L19 n x0 x1 (x2 + 1)) (rt x2))
def f_X4_next (a0 : Nat) (a1 : Int32) : HM (Int32) := bnd (pI 4 a0 0 0) fun _ => bnd (f_X4_in a1 0 99) fun v1 => ifc (v1 = 0) (rt (-1)) (f_X4_next_L19 2100 a0 a1 a1)
def f_X4_freeSlot_L2 : Nat → Nat → Int32 → HM (Int32)
  | 0, _, _ => fl
  | n + 1, x0, x1 => bnd (gN 4 x0 9) fun b1 => bnd (lI 6 b1 x1) fun v2 => ifc (v2 = 0) (rt x1) (f_X4_freeSlot_L2 n x0 (x1 + 1))
def f_X4_freeSlot (a0 : Nat) : HM (Int32) := bnd (f_X4_freeSlot_L2 2100 a0 0) fun x3 => bnd (gN 4 a0 9) fun b4 => bnd (sZ b4 x3 1) fun _ => bnd (gN 4 a0 12) fun b5 => bnd (sI 5 b5 x3 0) fun _ => rt x3
def f_X4_lay (a0 : Nat) (a1 : Int32) (a2 : Int32) (a3 : Int32) (a4 : Int32) : HM (Unit) := bnd (gN 4 a0 12) fun b1 => bnd (lI 5 b1 a1) fun v2 => bnd (gN 4 a0 13) fun b3 => bnd (sI 5 b3 ((100 * a1) + v2) a2) fun _ => bnd (gN 4 a0 14) fun b4 => bnd (sI 5 b4 ((100 * a1) + v2) a3) fun _ => bnd (gN 4 a0 15) fun b5 => bnd (sZ b5 ((100 * a1) + v2) a4) fun _ => ifc (a4 = 0) (bnd (gN 4 a0 12) fun b6 => bnd (lI 5 b6 a1) fun v7 => bnd (sI 5 b6 a1 (v7 + 1)) fun _ => rt ()) (bnd (gN 4 a0 3) fun b8 => bnd (sI 5 b8 a2 a1) fun _ => bnd (gN 4 a0 4) fun b9 => bnd (gN 4 a0 12) fun b10 => bnd (lI 5 b10 a1) fun v11 => bnd (sI 5 b9 a2 v11) fun _ => bnd (gN 4 a0 12) fun b12 => bnd (lI 5 b12 a1) fun v13 => bnd (sI 5 b12 a1 (v13 + 1)) fun _ => rt ())
def f_X4_flush_L61 : Nat → Nat → Int32 → Int32 → HM (Int32)
  | 0, _, _, _ => fl
  | n + 1, x0, x1, x2 => ifc (100 ≤ x2) (rt x2) (bnd (cl 4 x0 (f_X4_memoryAt x0 x2)) fun v8 => ifc (v8 < 0) (f_X4_flush_L61 n x0 x1 (x2 + 1)) (bnd (gN 4 x0 1) fun b9 => bnd (lI 5 b9 x2) fun v10 => bnd (cl 4 x0 (f_X4_lay x0 x1 x2 v10 1)) fun _ => bnd (gI 4 x0 17) fun v11 => bnd (pI 4 x0 17 (v11 + 1)) fun _ => f_X4_flush_L61 n x0 x1 (x2 + 1)))
def f_X4_flush (a0 : Nat) : HM (Int32) := bnd (pI 4 a0 0 0) fun _ => bnd (gI 4 a0 5) fun v1 => ifc (v1 = 0) (rt (-3)) (bnd (gI 4 a0 7) fun v2 => ifc (v2 = 20) (rt (-4)) (bnd (cl 4 a0 (f_X4_freeSlot a0)) fun v3 => bnd (gN 4 a0 11) fun b4 => bnd (sI 5 b4 v3 0) fun _ => bnd (gN 4 a0 10) fun b5 => bnd (gI 4 a0 16) fun v6 => bnd (sI 5 b5 v3 v6) fun _ => bnd (gI 4 a0 16) fun v7 => bnd (pI 4 a0 16 (v7 + 1)) fun _ => bnd (f_X4_flush_L61 2100 a0 v3 0) fun x12 => bnd (pI 4 a0 5 0) fun _ => bnd (gN 4 a0 8) fun b13 => bnd (gI 4 a0 7) fun v14 => bnd (sI 5 b13 v14 v3) fun _ => bnd (gI 4 a0 7) fun v15 => bnd (pI 4 a0 7 (v15 + 1)) fun _ => bnd (gN 4 a0 10) fun b16 => bnd (lI 5 b16 v3) fun v17 => rt v17))
def f_X4_livingOf_L4 : Nat → Nat → Int32 → Int32 → Int32 → HM (Int32 × Int32)
  | 0, _, _, _, _ => fl
  | n + 1, x0, x1, x2, x3 => bnd (gN 4 x0 12) fun b1 => bnd (lI 5 b1 x1) fun v2 => ifc (v2 ≤ x3) (rt (x2, x3)) (bnd (gN 4 x0 15) fun b3 => bnd (lI 6 b3 ((100 * x1) + x3)) fun v4 => ifc (v4 = 0) (f_X4_livingOf_L4 n x0 x1 (x2 + 0) (x3 + 1)) (f_X4_livingOf_L4 n x0 x1 (x2 + 1) (x3 + 1)))
def f_X4_livingOf (a0 : Nat) (a1 : Int32) : HM (Int32) := bnd (f_X4_livingOf_L4 2100 a0 a1 0 0) fun x5 => rt x5.1
def f_X4_all_L4 : Nat → Nat → Int32 → Int32 → Int32 → HM (Int32 × Int32)
  | 0, _, _, _, _ => fl
  | n + 1, x0, x1, x2, x3 => bnd (gI 4 x0 7) fun v1 => ifc (v1 ≤ x3) (rt (x2, x3)) (ifc (x1 = 0) (bnd (gN 4 x0 12) fun b2 => bnd (gN 4 x0 8) fun b3 => bnd (lI 5 b3 x3) fun v4 => bnd (lI 5 b2 v4) fun v5 => f_X4_all_L4 n x0 x1 (x2 + v5) (x3 + 1)) (bnd (gN 4 x0 8) fun b6 => bnd (lI 5 b6 x3) fun v7 => bnd (cl 4 x0 (f_X4_livingOf x0 v7)) fun v8 => f_X4_all_L4 n x0 x1 (x2 + v8) (x3 + 1)))
def f_X4_all (a0 : Nat) (a1 : Int32) : HM (Int32) := bnd (f_X4_all_L4 2100 a0 a1 0 0) fun x9 => rt x9.1
def f_X4_count_L9 : Nat → Nat → Int32 → Int32 → Int32 → HM (Int32 × Int32)
  | 0, _, _, _, _ => fl
  | n + 1, x0, x1, x2, x3 => ifc (100 ≤ x3) (rt (x2, x3)) (bnd (gN 4 x0 1) fun b1 => bnd (lI 5 b1 x3) fun v2 => ifc (v2 < 0) (f_X4_count_L9 n x0 x1 (x2 + 0) (x3 + 1)) (f_X4_count_L9 n x0 x1 (x2 + 1) (x3 + 1)))
def f_X4_count (a0 : Nat) (a1 : Int32) : HM (Int32) := bnd (pI 4 a0 0 0) fun _ => bnd (f_X4_count_L9 2100 a0 a1 0 0) fun x3 => ifc (a1 = 0) (bnd (gI 4 a0 5) fun v8 => rt v8) (ifc (a1 = 1) (bnd (gI 4 a0 7) fun v7 => rt v7) (ifc (a1 = 2) (bnd (cl 4 a0 (f_X4_all a0 0)) fun v6 => rt v6) (ifc (a1 = 3) (bnd (cl 4 a0 (f_X4_all a0 1)) fun v5 => rt v5) (ifc (a1 = 4) (bnd (gI 4 a0 17) fun v4 => rt v4) (ifc (a1 = 5) (rt x3.1) (rt (-2)))))))
def f_X4_isPlace (a0 : Nat) (a1 : Int32) : HM (Int32) := bnd (gI 4 a0 7) fun v1 => bnd (f_X4_in a1 0 (v1 - 1)) fun v2 => rz v2
def f_X4_segment (a0 : Nat) (a1 : Int32) (a2 : Int32) : HM (Int32) := bnd (pI 4 a0 0 0) fun _ => bnd (cl 4 a0 (f_X4_isPlace a0 a1)) fun v1 => ifc (v1 = 0) (rt (-1)) (bnd (gN 4 a0 8) fun b2 => bnd (lI 5 b2 a1) fun v3 => ifc (a2 = 0) (bnd (gN 4 a0 10) fun b4 => bnd (lI 5 b4 v3) fun v5 => rt v5) (ifc (a2 = 1) (bnd (gN 4 a0 11) fun b6 => bnd (lI 5 b6 v3) fun v7 => rt v7) (ifc (a2 = 2) (bnd (gN 4 a0 12) fun b8 => bnd (lI 5 b8 v3) fun v9 => rt v9) (ifc (a2 = 3) (bnd (cl 4 a0 (f_X4_livingOf a0 v3)) fun v10 => rt v10) (ifc (a2 = 4) (bnd (gI 4 a0 19) fun v11 => ifc (v11 ≤ 0) (rt 0) (bnd (gI 4 a0 20) fun v12 => bnd (gI 4 a0 20) fun v13 => bnd (gI 4 a0 19) fun v14 => bnd (f_X4_in a1 v12 ((v13 + v14) - 1)) fun v15 => ifc (v15 = 0) (rt 0) (rt 1))) (rt (-2)))))))
def f_X4_row (a0 : Nat) (a1 : Int32) (a2 : Int32) (a3 : Int32) : HM (Int32) := bnd (pI 4 a0 0 0) fun _ => bnd (cl 4 a0 (f_X4_isPlace a0 a1)) fun v1 => ifc (v1 = 0) (rt (-1)) (bnd (gN 4 a0 12) fun b2 => bnd (gN 4 a0 8) fun b3 => bnd (lI 5 b3 a1) fun v4 => bnd (lI 5 b2 v4) fun v5 => bnd (f_X4_in a2 0 (v5 - 1)) fun v6 => ifc (v6 = 0) (rt (-1)) (bnd (gN 4 a0 8) fun b7 => bnd (lI 5 b7 a1) fun v8 => ifc (a3 = 0) (bnd (gN 4 a0 13) fun b13 => bnd (lI 5 b13 ((100 * v8) + a2)) fun v14 => rt v14) (ifc (a3 = 1) (bnd (gN 4 a0 14) fun b11 => bnd (lI 5 b11 ((100 * v8) + a2)) fun v12 => rt v12) (ifc (a3 = 2) (bnd (gN 4 a0 15) fun b9 => bnd (lI 6 b9 ((100 * v8) + a2)) fun v10 => ifc (v10 = 0) (rt 0) (rt 1)) (rt (-2))))))
def f_X4_full (a0 : Nat) (a1 : Int32) : HM (Int32) := bnd (pI 4 a0 0 0) fun _ => bnd (f_X4_in a1 2 5) fun v1 => ifc (v1 = 0) (rt (-2)) (bnd (gI 4 a0 18) fun v2 => bnd (pI 4 a0 18 a1) fun _ => rt v2)
def f_X4_due_L28 : Nat → Nat → Int32 → Int32 → Int32 → Int32 → HM (Int32 × Int32)
  | 0, _, _, _, _, _ => fl
  | n + 1, x0, x1, x2, x3, x4 => bnd (gI 4 x0 18) fun v3 => ifc (v3 ≤ x4) (rt (x3, x4)) (ifc (x3 = 0) (f_X4_due_L28 n x0 x1 x2 0 (x4 + 1)) (bnd (gN 4 x0 11) fun b4 => bnd (gN 4 x0 8) fun b5 => bnd (lI 5 b5 (x2 + x4)) fun v6 => bnd (lI 5 b4 v6) fun v7 => bnd (gN 4 x0 11) fun b8 => bnd (gN 4 x0 8) fun b9 => bnd (lI 5 b9 x2) fun v10 => bnd (lI 5 b8 v10) fun v11 => ifc (v7 = v11) (f_X4_due_L28 n x0 x1 x2 1 (x4 + 1)) (f_X4_due_L28 n x0 x1 x2 0 (x4 + 1))))
def f_X4_due_L10 : Nat → Nat → Int32 → Int32 → HM (Int32 × Int32)
  | 0, _, _, _ => fl
  | n + 1, x0, x1, x2 => bnd (gI 4 x0 18) fun v1 => bnd (gI 4 x0 7) fun v2 => ifc (v2 < (x2 + v1)) (rt (x1, x2)) (bnd (f_X4_due_L28 2100 x0 x1 x2 1 1) fun x12 => ifc (x12.1 = 0) (f_X4_due_L10 n x0 x1 (x2 + 1)) (ifc (x1 < 0) (f_X4_due_L10 n x0 x2 (x2 + 1)) (bnd (gN 4 x0 11) fun b13 => bnd (gN 4 x0 8) fun b14 => bnd (lI 5 b14 x2) fun v15 => bnd (lI 5 b13 v15) fun v16 => bnd (gN 4 x0 11) fun b17 => bnd (gN 4 x0 8) fun b18 => bnd (lI 5 b18 x1) fun v19 => bnd (lI 5 b17 v19) fun v20 => ifc (v20 ≤ v16) (f_X4_due_L10 n x0 x1 (x2 + 1)) (f_X4_due_L10 n x0 x2 (x2 + 1)))))
def f_X4_due (a0 : Nat) : HM (Int32) := bnd (pI 4 a0 0 0) fun _ => bnd (f_X4_due_L10 2100 a0 (-3) 0) fun x21 => rt x21.1
def f_X4_cheapest_L43 : Nat → Nat → Int32 → Int32 → Int32 → Int32 → Int32 → Int32 → HM (Int32 × Int32)
  | 0, _, _, _, _, _, _, _ => fl
  | n + 1, x0, x1, x2, x3, x4, x5, x6 => ifc (x1 ≤ x6) (rt (x5, x6)) (bnd (gN 4 x0 8) fun b3 => bnd (lI 5 b3 (x4 + x6)) fun v4 => bnd (cl 4 x0 (f_X4_livingOf x0 v4)) fun v5 => f_X4_cheapest_L43 n x0 x1 x2 x3 x4 (x5 + v5) (x6 + 1))
def f_X4_cheapest_L26 : Nat → Nat → Int32 → Int32 → Int32 → Int32 → HM (Int32 × Int32 × Int32)
  | 0, _, _, _, _, _ => fl
  | n + 1, x0, x1, x2, x3, x4 => bnd (gI 4 x0 7) fun v2 => ifc (v2 < (x4 + x1)) (rt (x2, x3, x4)) (bnd (f_X4_cheapest_L43 2100 x0 x1 x2 x3 x4 0 0) fun x6 => ifc (x2 < 0) (f_X4_cheapest_L26 n x0 x1 x4 x6.1 (x4 + 1)) (ifc (x3 ≤ x6.1) (f_X4_cheapest_L26 n x0 x1 x2 x3 (x4 + 1)) (f_X4_cheapest_L26 n x0 x1 x4 x6.1 (x4 + 1))))
def f_X4_cheapest (a0 : Nat) (a1 : Int32) : HM (Int32) := bnd (pI 4 a0 0 0) fun _ => bnd (f_X4_in a1 2 6) fun v1 => ifc (v1 = 0) (rt (-2)) (bnd (f_X4_cheapest_L26 2100 a0 a1 (-3) 0 0) fun x7 => rt x7.1)
def f_X4_worst_L10 : Nat → Nat → Int32 → Int32 → HM (Int32 × Int32)
  | 0, _, _, _ => fl
  | n + 1, x0, x1, x2 => bnd (gI 4 x0 7) fun v1 => ifc (v1 ≤ x2) (rt (x1, x2)) (bnd (gN 4 x0 8) fun b2 => bnd (lI 5 b2 x2) fun v3 => ifc (0 ≤ x1) (bnd (gN 4 x0 8) fun b4 => bnd (lI 5 b4 x1) fun v5 => bnd (gN 4 x0 12) fun b6 => bnd (lI 5 b6 v3) fun v7 => bnd (cl 4 x0 (f_X4_livingOf x0 v3)) fun v8 => bnd (gN 4 x0 12) fun b9 => bnd (lI 5 b9 v5) fun v10 => bnd (cl 4 x0 (f_X4_livingOf x0 v5)) fun v11 => ifc (x1 < 0) (f_X4_worst_L10 n x0 x2 (x2 + 1)) (bnd (gN 4 x0 12) fun b12 => bnd (lI 5 b12 v5) fun v13 => bnd (gN 4 x0 12) fun b14 => bnd (lI 5 b14 v3) fun v15 => ifc (((v7 - v8) * v13) ≤ ((v10 - v11) * v15)) (f_X4_worst_L10 n x0 x1 (x2 + 1)) (f_X4_worst_L10 n x0 x2 (x2 + 1)))) (bnd (gN 4 x0 12) fun b16 => bnd (lI 5 b16 v3) fun v17 => bnd (cl 4 x0 (f_X4_livingOf x0 v3)) fun v18 => bnd (gN 4 x0 12) fun b19 => bnd (lI 5 b19 v3) fun v20 => bnd (cl 4 x0 (f_X4_livingOf x0 v3)) fun v21 => ifc (x1 < 0) (f_X4_worst_L10 n x0 x2 (x2 + 1)) (bnd (gN 4 x0 12) fun b22 => bnd (lI 5 b22 v3) fun v23 => bnd (gN 4 x0 12) fun b24 => bnd (lI 5 b24 v3) fun v25 => ifc (((v17 - v18) * v23) ≤ ((v20 - v21) * v25)) (f_X4_worst_L10 n x0 x1 (x2 + 1)) (f_X4_worst_L10 n x0 x2 (x2 + 1)))))
def f_X4_worst (a0 : Nat) : HM (Int32) := bnd (pI 4 a0 0 0) fun _ => bnd (f_X4_worst_L10 2100 a0 (-3) 0) fun x26 => rt x26.1
def f_X4_slotOf (a0 : Nat) (a1 : Int32) : HM (Int32) := bnd (gN 4 a0 8) fun b1 => bnd (gI 4 a0 20) fun v2 => bnd (lI 5 b1 (v2 + a1)) fun v3 => rt v3
def f_X4_left_L4 : Nat → Nat → Int32 → Int32 → HM (Int32 × Int32)
  | 0, _, _, _ => fl
  | n + 1, x0, x1, x2 => bnd (gI 4 x0 19) fun v1 => ifc (v1 ≤ x2) (rt (x1, x2)) (bnd (gN 4 x0 12) fun b2 => bnd (cl 4 x0 (f_X4_slotOf x0 x2)) fun v3 => bnd (lI 5 b2 v3) fun v4 => bnd (gN 4 x0 23) fun b5 => bnd (lI 5 b5 x2) fun v6 => f_X4_left_L4 n x0 (x1 + (v4 - v6)) (x2 + 1))
def f_X4_left (a0 : Nat) : HM (Int32) := bnd (f_X4_left_L4 2100 a0 0 0) fun x7 => rt x7.1
def f_X4_begin_L72 : Nat → Nat → Int32 → Int32 → Int32 → HM (Int32)
  | 0, _, _, _, _ => fl
  | n + 1, x0, x1, x2, x3 => ifc (x2 ≤ x3) (rt x3) (bnd (gN 4 x0 23) fun b5 => bnd (sI 5 b5 x3 0) fun _ => f_X4_begin_L72 n x0 x1 x2 (x3 + 1))
def f_X4_begin (a0 : Nat) (a1 : Int32) (a2 : Int32) : HM (Int32) := bnd (pI 4 a0 0 0) fun _ => bnd (cl 4 a0 (f_X4_isPlace a0 a1)) fun v1 => ifc (v1 = 0) (rt (-1)) (bnd (f_X4_in a2 2 6) fun v2 => ifc (v2 = 0) (rt (-2)) (bnd (gI 4 a0 7) fun v3 => ifc ((a1 + a2) ≤ v3) (bnd (gI 4 a0 19) fun v4 => ifc (v4 ≤ 0) (bnd (pI 4 a0 19 a2) fun _ => bnd (pI 4 a0 20 a1) fun _ => bnd (pI 4 a0 21 0) fun _ => bnd (pI 4 a0 22 0) fun _ => bnd (f_X4_begin_L72 2100 a0 a1 a2 0) fun x6 => bnd (cl 4 a0 (f_X4_left a0)) fun v7 => rt v7) (rt (-3))) (rt (-1))))
def f_X4_keyAt (a0 : Nat) (a1 : Int32) : HM (Int32) := bnd (gN 4 a0 13) fun b1 => bnd (cl 4 a0 (f_X4_slotOf a0 a1)) fun v2 => bnd (gN 4 a0 23) fun b3 => bnd (lI 5 b3 a1) fun v4 => bnd (lI 5 b1 ((100 * v2) + v4)) fun v5 => rt v5
def f_X4_takeOne_L4 : Nat → Nat → Int32 → Int32 → HM (Int32 × Int32)
  | 0, _, _, _ => fl
  | n + 1, x0, x1, x2 => bnd (gI 4 x0 19) fun v1 => ifc (v1 ≤ x2) (rt (x1, x2)) (bnd (gN 4 x0 23) fun b2 => bnd (lI 5 b2 x2) fun v3 => bnd (gN 4 x0 12) fun b4 => bnd (cl 4 x0 (f_X4_slotOf x0 x2)) fun v5 => bnd (lI 5 b4 v5) fun v6 => ifc (v6 ≤ v3) (f_X4_takeOne_L4 n x0 x1 (x2 + 1)) (ifc (x1 < 0) (f_X4_takeOne_L4 n x0 x2 (x2 + 1)) (bnd (cl 4 x0 (f_X4_keyAt x0 x2)) fun v7 => bnd (cl 4 x0 (f_X4_keyAt x0 x1)) fun v8 => ifc (v8 ≤ v7) (f_X4_takeOne_L4 n x0 x1 (x2 + 1)) (f_X4_takeOne_L4 n x0 x2 (x2 + 1)))))
def f_X4_takeOne (a0 : Nat) : HM (Unit) := bnd (f_X4_takeOne_L4 2100 a0 (-1) 0) fun x9 => bnd (cl 4 a0 (f_X4_slotOf a0 x9.1)) fun v10 => bnd (gN 4 a0 23) fun b11 => bnd (lI 5 b11 x9.1) fun v12 => bnd (gN 4 a0 27) fun b13 => bnd (gN 4 a0 23) fun b14 => bnd (lI 5 b14 x9.1) fun v15 => bnd (sI 5 b13 ((100 * x9.1) + v15) (-1)) fun _ => bnd (gN 4 a0 15) fun b16 => bnd (lI 6 b16 ((100 * v10) + v12)) fun v17 => ifc (v17 = 0) (bnd (gN 4 a0 23) fun b18 => bnd (lI 5 b18 x9.1) fun v19 => bnd (sI 5 b18 x9.1 (v19 + 1)) fun _ => bnd (gI 4 a0 21) fun v20 => bnd (pI 4 a0 21 (v20 + 1)) fun _ => rt ()) (bnd (gN 4 a0 27) fun b21 => bnd (gN 4 a0 23) fun b22 => bnd (lI 5 b22 x9.1) fun v23 => bnd (gI 4 a0 22) fun v24 => bnd (sI 5 b21 ((100 * x9.1) + v23) v24) fun _ => bnd (gN 4 a0 24) fun b25 => bnd (gI 4 a0 22) fun v26 => bnd (gN 4 a0 13) fun b27 => bnd (lI 5 b27 ((100 * v10) + v12)) fun v28 => bnd (sI 5 b25 v26 v28) fun _ => bnd (gN 4 a0 25) fun b29 => bnd (gI 4 a0 22) fun v30 => bnd (gN 4 a0 14) fun b31 => bnd (lI 5 b31 ((100 * v10) + v12)) fun v32 => bnd (sI 5 b29 v30 v32) fun _ => bnd (gN 4 a0 26) fun b33 => bnd (gI 4 a0 22) fun v34 => bnd (gN 4 a0 2) fun b35 => bnd (gN 4 a0 13) fun b36 => bnd (lI 5 b36 ((100 * v10) + v12)) fun v37 => bnd (lI 5 b35 v37) fun v38 => bnd (sI 5 b33 v34 v38) fun _ => bnd (gI 4 a0 22) fun v39 => bnd (pI 4 a0 22 (v39 + 1)) fun _ => bnd (gN 4 a0 23) fun b40 => bnd (lI 5 b40 x9.1) fun v41 => bnd (sI 5 b40 x9.1 (v41 + 1)) fun _ => bnd (gI 4 a0 21) fun v42 => bnd (pI 4 a0 21 (v42 + 1)) fun _ => rt ())
def f_X4_end_L66 : Nat → Nat → Int32 → Int32 → Int32 → Int32 → HM (Int32)
  | 0, _, _, _, _, _ => fl
  | n + 1, x0, x1, x2, x3, x4 => bnd (gN 4 x0 12) fun b12 => bnd (lI 5 b12 x3) fun v13 => ifc (v13 ≤ x4) (rt x4) (bnd (gN 4 x0 31) fun b14 => bnd (gN 4 x0 27) fun b15 => bnd (lI 5 b15 ((100 * x2) + x4)) fun v16 => bnd (sI 5 b14 ((100 * x2) + x4) v16) fun _ => f_X4_end_L66 n x0 x1 x2 x3 (x4 + 1))
def f_X4_end_L25 : Nat → Nat → Int32 → Int32 → HM (Int32 × Int32)
  | 0, _, _, _ => fl
  | n + 1, x0, x1, x2 => bnd (gI 4 x0 19) fun v4 => ifc (v4 ≤ x2) (rt (x1, x2)) (bnd (cl 4 x0 (f_X4_slotOf x0 x2)) fun v5 => bnd (gN 4 x0 29) fun b6 => bnd (gN 4 x0 10) fun b7 => bnd (lI 5 b7 v5) fun v8 => bnd (sI 5 b6 x2 v8) fun _ => bnd (gN 4 x0 30) fun b9 => bnd (gN 4 x0 12) fun b10 => bnd (lI 5 b10 v5) fun v11 => bnd (sI 5 b9 x2 v11) fun _ => bnd (f_X4_end_L66 2100 x0 x1 x2 v5 0) fun x17 => bnd (gN 4 x0 11) fun b18 => bnd (lI 5 b18 v5) fun v19 => ifc (v19 ≤ x1) (bnd (gN 4 x0 9) fun b20 => bnd (sZ b20 v5 0) fun _ => f_X4_end_L25 n x0 x1 (x2 + 1)) (bnd (gN 4 x0 11) fun b21 => bnd (lI 5 b21 v5) fun v22 => bnd (gN 4 x0 9) fun b23 => bnd (sZ b23 v5 0) fun _ => f_X4_end_L25 n x0 v22 (x2 + 1)))
def f_X4_end_L219 : Nat → Nat → Int32 → Int32 → Int32 → Int32 → Int32 → Int32 → HM (Int32)
  | 0, _, _, _, _, _, _, _ => fl
  | n + 1, x0, x1, x2, x3, x4, x5, x6 => bnd (gI 4 x0 7) fun v34 => ifc (v34 ≤ x6) (rt x6) (bnd (gN 4 x0 8) fun b35 => bnd (gN 4 x0 8) fun b36 => bnd (lI 5 b36 x6) fun v37 => bnd (sI 5 b35 (x6 - x3) v37) fun _ => f_X4_end_L219 n x0 x1 x2 x3 x4 x5 (x6 + 1))
def f_X4_end_L299 : Nat → Nat → Int32 → Int32 → Int32 → Int32 → Int32 → Int32 → HM (Int32)
  | 0, _, _, _, _, _, _, _ => fl
  | n + 1, x0, x1, x2, x3, x4, x5, x6 => bnd (gI 4 x0 22) fun v52 => ifc (v52 ≤ x6) (rt x6) (bnd (gN 4 x0 24) fun b53 => bnd (lI 5 b53 x6) fun v54 => bnd (gN 4 x0 25) fun b55 => bnd (lI 5 b55 x6) fun v56 => bnd (gN 4 x0 2) fun b57 => bnd (gN 4 x0 24) fun b58 => bnd (lI 5 b58 x6) fun v59 => bnd (lI 5 b57 v59) fun v60 => bnd (gN 4 x0 26) fun b61 => bnd (lI 5 b61 x6) fun v62 => ifc (v60 = v62) (bnd (cl 4 x0 (f_X4_lay x0 x5 v54 v56 1)) fun _ => f_X4_end_L299 n x0 x1 x2 x3 x4 x5 (x6 + 1)) (bnd (cl 4 x0 (f_X4_lay x0 x5 v54 v56 0)) fun _ => f_X4_end_L299 n x0 x1 x2 x3 x4 x5 (x6 + 1)))
def f_X4_end (a0 : Nat) : HM (Unit) := bnd (gI 4 a0 19) fun v1 => bnd (pI 4 a0 28 v1) fun _ => bnd (gI 4 a0 17) fun v2 => bnd (gI 4 a0 22) fun v3 => bnd (pI 4 a0 17 (v2 + v3)) fun _ => bnd (f_X4_end_L25 2100 a0 0 0) fun x24 => bnd (gI 4 a0 22) fun v25 => ifc (v25 ≤ 0) (bnd (gI 4 a0 19) fun v26 => bnd (gI 4 a0 20) fun v27 => bnd (gI 4 a0 19) fun v28 => bnd (gN 4 a0 8) fun b29 => bnd (gI 4 a0 20) fun v30 => bnd (gN 4 a0 8) fun b31 => bnd (gI 4 a0 20) fun v32 => bnd (lI 5 b31 v32) fun v33 => bnd (sI 5 b29 v30 v33) fun _ => bnd (f_X4_end_L219 2100 a0 x24.1 0 (v26 - 0) (v27 + v28) 0 (v27 + v28)) fun x38 => bnd (gI 4 a0 7) fun v39 => bnd (pI 4 a0 7 (v39 - (v26 - 0))) fun _ => bnd (pI 4 a0 19 0) fun _ => rt ()) (bnd (gI 4 a0 19) fun v40 => bnd (gI 4 a0 20) fun v41 => bnd (gI 4 a0 19) fun v42 => bnd (cl 4 a0 (f_X4_freeSlot a0)) fun v43 => bnd (gN 4 a0 8) fun b44 => bnd (gI 4 a0 20) fun v45 => bnd (sI 5 b44 v45 v43) fun _ => bnd (f_X4_end_L219 2100 a0 x24.1 1 (v40 - 1) (v41 + v42) v43 (v41 + v42)) fun x46 => bnd (gI 4 a0 7) fun v47 => bnd (pI 4 a0 7 (v47 - (v40 - 1))) fun _ => bnd (gN 4 a0 11) fun b48 => bnd (sI 5 b48 v43 (x24.1 + 1)) fun _ => bnd (gN 4 a0 10) fun b49 => bnd (gI 4 a0 16) fun v50 => bnd (sI 5 b49 v43 v50) fun _ => bnd (gI 4 a0 16) fun v51 => bnd (pI 4 a0 16 (v51 + 1)) fun _ => bnd (f_X4_end_L299 2100 a0 x24.1 1 (v40 - 1) (v41 + v42) v43 0) fun x63 => bnd (pI 4 a0 19 0) fun _ => rt ())
def f_X4_step_L31 : Nat → Nat → Int32 → Int32 → HM (Int32)
  | 0, _, _, _ => fl
  | n + 1, x0, x1, x2 => ifc (x1 ≤ x2) (rt x2) (bnd (cl 4 x0 (f_X4_left x0)) fun v3 => ifc (v3 ≤ 0) (rt x2) (bnd (cl 4 x0 (f_X4_takeOne x0)) fun _ => f_X4_step_L31 n x0 x1 (x2 + 1)))
def f_X4_step (a0 : Nat) (a1 : Int32) : HM (Int32) := bnd (pI 4 a0 0 0) fun _ => bnd (f_X4_in a1 0 1000) fun v1 => ifc (v1 = 0) (rt (-2)) (bnd (gI 4 a0 19) fun v2 => ifc (v2 = 0) (rt (-3)) (bnd (f_X4_step_L31 2100 a0 a1 0) fun x4 => bnd (cl 4 a0 (f_X4_left a0)) fun v5 => ifc (v5 = 0) (bnd (cl 4 a0 (f_X4_end a0)) fun _ => rt x4) (rt x4)))
def f_X4_stop (a0 : Nat) : HM (Int32) := bnd (pI 4 a0 0 0) fun _ => bnd (gI 4 a0 19) fun v1 => ifc (v1 = 0) (rt (-3)) (bnd (pI 4 a0 19 0) fun _ => bnd (gI 4 a0 17) fun v2 => bnd (gI 4 a0 22) fun v3 => bnd (pI 4 a0 17 (v2 + v3)) fun _ => bnd (gI 4 a0 21) fun v4 => rt v4)
def f_X4_merging (a0 : Nat) (a1 : Int32) : HM (Int32) := bnd (pI 4 a0 0 0) fun _ => bnd (f_X4_in a1 0 3) fun v1 => ifc (v1 = 0) (rt (-2)) (bnd (gI 4 a0 19) fun v2 => ifc (v2 = 0) (rt (-3)) (ifc (a1 = 0) (bnd (gI 4 a0 21) fun v6 => rt v6) (ifc (a1 = 1) (bnd (gI 4 a0 22) fun v5 => rt v5) (ifc (a1 = 2) (bnd (cl 4 a0 (f_X4_left a0)) fun v4 => rt v4) (bnd (gI 4 a0 20) fun v3 => rt v3)))))
def f_X4_moved_L7 : Nat → Nat → Int32 → Int32 → Int32 → HM (Int32)
  | 0, _, _, _, _ => fl
  | n + 1, x0, x1, x2, x3 => bnd (gI 4 x0 28) fun v1 => ifc (v1 ≤ x3) (rt (-1)) (bnd (gN 4 x0 29) fun b2 => bnd (lI 5 b2 x3) fun v3 => ifc (v3 = x1) (bnd (gN 4 x0 30) fun b4 => bnd (lI 5 b4 x3) fun v5 => bnd (f_X4_in x2 0 (v5 - 1)) fun v6 => ifc (v6 = 0) (f_X4_moved_L7 n x0 x1 x2 (x3 + 1)) (bnd (gN 4 x0 31) fun b7 => bnd (lI 5 b7 ((100 * x3) + x2)) fun v8 => ifc (0 ≤ v8) (bnd (gN 4 x0 31) fun b9 => bnd (lI 5 b9 ((100 * x3) + x2)) fun v10 => rt v10) (rt (-3)))) (f_X4_moved_L7 n x0 x1 x2 (x3 + 1)))
def f_X4_moved (a0 : Nat) (a1 : Int32) (a2 : Int32) : HM (Int32) := bnd (pI 4 a0 0 0) fun _ => f_X4_moved_L7 2100 a0 a1 a2 0
def f_X4_view_L7 : Nat → Nat → Int32 → HM (Int32)
  | 0, _, _ => fl
  | n + 1, x0, x1 => ifc (4 ≤ x1) (rt x1) (bnd (gN 4 x0 32) fun b1 => bnd (lI 6 b1 x1) fun v2 => ifc (v2 = 0) (rt x1) (f_X4_view_L7 n x0 (x1 + 1)))
def f_X4_view_L44 : Nat → Nat → Int32 → Int32 → HM (Int32)
  | 0, _, _, _ => fl
  | n + 1, x0, x1, x2 => ifc (100 ≤ x2) (rt x2) (bnd (gN 4 x0 33) fun b5 => bnd (gN 4 x0 1) fun b6 => bnd (lI 5 b6 x2) fun v7 => bnd (sI 5 b5 ((100 * x1) + x2) v7) fun _ => f_X4_view_L44 n x0 x1 (x2 + 1))
def f_X4_view (a0 : Nat) : HM (Int32) := bnd (pI 4 a0 0 0) fun _ => bnd (f_X4_view_L7 2100 a0 0) fun x3 => ifc (x3 = 4) (rt (-4)) (bnd (gN 4 a0 32) fun b4 => bnd (sZ b4 x3 1) fun _ => bnd (f_X4_view_L44 2100 a0 x3 0) fun x8 => rt x3)
def f_X4_isOpen (a0 : Nat) (a1 : Int32) : HM (Int32) := bnd (f_X4_in a1 0 3) fun v1 => ifc (v1 = 0) (rz 0) (bnd (gN 4 a0 32) fun b2 => bnd (lI 6 b2 a1) fun v3 => ifc (v3 = 0) (rz 0) (rz 1))
def f_X4_seen (a0 : Nat) (a1 : Int32) (a2 : Int32) : HM (Int32) := bnd (pI 4 a0 0 0) fun _ => bnd (cl 4 a0 (f_X4_isOpen a0 a1)) fun v1 => ifc (v1 = 0) (rt (-1)) (bnd (f_X4_in a2 0 99) fun v2 => ifc (v2 = 0) (rt (-1)) (bnd (gN 4 a0 33) fun b3 => bnd (lI 5 b3 ((100 * a1) + a2)) fun v4 => ifc (0 ≤ v4) (bnd (gN 4 a0 33) fun b5 => bnd (lI 5 b5 ((100 * a1) + a2)) fun v6 => rt v6) (rt (-3))))
def f_X4_shut_L26 : Nat → Nat → Int32 → Int32 → Int32 → HM (Int32 × Int32)
  | 0, _, _, _, _ => fl
  | n + 1, x0, x1, x2, x3 => ifc (100 ≤ x3) (rt (x2, x3)) (bnd (gN 4 x0 33) fun b3 => bnd (lI 5 b3 ((100 * x1) + x3)) fun v4 => bnd (gN 4 x0 1) fun b5 => bnd (lI 5 b5 x3) fun v6 => ifc (v4 = v6) (f_X4_shut_L26 n x0 x1 (x2 + 0) (x3 + 1)) (f_X4_shut_L26 n x0 x1 (x2 + 1) (x3 + 1)))
def f_X4_shut (a0 : Nat) (a1 : Int32) : HM (Int32) := bnd (pI 4 a0 0 0) fun _ => bnd (cl 4 a0 (f_X4_isOpen a0 a1)) fun v1 => ifc (v1 = 0) (rt (-1)) (bnd (gN 4 a0 32) fun b2 => bnd (sZ b2 a1 0) fun _ => bnd (f_X4_shut_L26 2100 a0 a1 0 0) fun x7 => rt x7.1)
def f_X4_share (a0 : Nat) : HM (Int32) := bnd (pI 4 a0 0 0) fun _ => bnd (cl 4 a0 (f_X4_all a0 0)) fun v1 => ifc (v1 = 0) (bnd (pI 4 a0 0 1) fun _ => rt 0) (bnd (cl 4 a0 (f_X4_all a0 1)) fun v2 => bnd (dv (1000 * v2) v1) fun v3 => rt v3)
end
