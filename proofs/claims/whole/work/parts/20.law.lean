/-! The law: what it asks of the functions, and its walk. Written by wip/tools/genlaw.py -/
def stepP (x q o : Nat) (op a1 a2 a3 : Int32) (m : Mem) (post : Mem → Prop) : Prop :=
  if op = 0 then (∃ r m1 m2, cl 3 x (f_X3_put x a1 a2) m = some (r, m1) ∧ cl 4 q (f_X4_put q a1 a2) m1 = some (r, m2) ∧ post m2) else
  if op = 1 then (∃ r m1 m2, cl 3 x (f_X3_drop x a1) m = some (r, m1) ∧ cl 4 q (f_X4_drop q a1) m1 = some (r, m2) ∧ post m2) else
  if op = 2 then (∃ r m1 m2, cl 3 x (f_X3_get x a1) m = some (r, m1) ∧ cl 4 q (f_X4_get q a1) m1 = some (r, m2) ∧ post m2) else
  if op = 3 then (∃ r m1 m2, cl 3 x (f_X3_next x a1) m = some (r, m1) ∧ cl 4 q (f_X4_next q a1) m1 = some (r, m2) ∧ post m2) else
  if op = 4 then (∃ r m1 m2, cl 3 x (f_X3_flush x) m = some (r, m1) ∧ cl 4 q (f_X4_flush q) m1 = some (r, m2) ∧ post m2) else
  if op = 5 then (∃ r m1 m2, cl 3 x (f_X3_count x a1) m = some (r, m1) ∧ cl 4 q (f_X4_count q a1) m1 = some (r, m2) ∧ post m2) else
  if op = 6 then (∃ r m1 m2, cl 3 x (f_X3_segment x a1 a2) m = some (r, m1) ∧ cl 4 q (f_X4_segment q a1 a2) m1 = some (r, m2) ∧ post m2) else
  if op = 7 then (∃ r m1 m2, cl 3 x (f_X3_row x a1 a2 a3) m = some (r, m1) ∧ cl 4 q (f_X4_row q a1 a2 a3) m1 = some (r, m2) ∧ post m2) else
  if op = 8 then (∃ r m1 m2, cl 3 x (f_X3_full x a1) m = some (r, m1) ∧ cl 4 q (f_X4_full q a1) m1 = some (r, m2) ∧ post m2) else
  if op = 9 then (∃ r m1 m2, cl 3 x (f_X3_due x) m = some (r, m1) ∧ cl 4 q (f_X4_due q) m1 = some (r, m2) ∧ post m2) else
  if op = 10 then (∃ r m1 m2, cl 3 x (f_X3_cheapest x a1) m = some (r, m1) ∧ cl 4 q (f_X4_cheapest q a1) m1 = some (r, m2) ∧ post m2) else
  if op = 11 then (∃ r m1 m2, cl 3 x (f_X3_worst x) m = some (r, m1) ∧ cl 4 q (f_X4_worst q) m1 = some (r, m2) ∧ post m2) else
  if op = 12 then (∃ r m1 m2, cl 3 x (f_X3_begin x a1 a2) m = some (r, m1) ∧ cl 4 q (f_X4_begin q a1 a2) m1 = some (r, m2) ∧ post m2) else
  if op = 13 then (∃ r m1 m2, cl 3 x (f_X3_step x a1) m = some (r, m1) ∧ cl 4 q (f_X4_step q a1) m1 = some (r, m2) ∧ post m2) else
  if op = 14 then (∃ r m1 m2, cl 3 x (f_X3_stop x) m = some (r, m1) ∧ cl 4 q (f_X4_stop q) m1 = some (r, m2) ∧ post m2) else
  if op = 15 then (∃ r m1 m2, cl 3 x (f_X3_merging x a1) m = some (r, m1) ∧ cl 4 q (f_X4_merging q a1) m1 = some (r, m2) ∧ post m2) else
  if op = 16 then (∃ r m1 m2, cl 3 x (f_X3_moved x a1 a2) m = some (r, m1) ∧ cl 4 q (f_X4_moved q a1 a2) m1 = some (r, m2) ∧ post m2) else
  if op = 17 then (∃ r m1 m2, cl 3 x (f_X3_view x) m = some (r, m1) ∧ cl 4 q (f_X4_view q) m1 = some (r, m2) ∧ post m2) else
  if op = 18 then (∃ r m1 m2, cl 3 x (f_X3_seen x a1 a2) m = some (r, m1) ∧ cl 4 q (f_X4_seen q a1 a2) m1 = some (r, m2) ∧ post m2) else
  if op = 19 then (∃ r m1 m2, cl 3 x (f_X3_shut x a1) m = some (r, m1) ∧ cl 4 q (f_X4_shut q a1) m1 = some (r, m2) ∧ post m2) else
  if op = 20 then (∃ k m1, f_L_share x o m = some (k, m1) ∧ ∀ n, mS m1 ≤ n → ∃ b m2 m3, cl 4 q (f_X4_share q) (reS m1 n) = some (b, m2) ∧ cl 4 q (f_X4_thrown q) m2 = some (k, m3) ∧ (k = 0 → lI 9 o 0 m3 = some (b, m3)) ∧ post m3)
  else post m
def lawP (x q o : Nat) (xs : Nat → Int32) (L : Nat) : Nat → Nat → Mem → Prop
  | 0, _, _ => False
  | n + 1, i, m => if i + 4 ≤ L then stepP x q o (xs i &&& 31) (xs (i + 1)) (xs (i + 2)) (xs (i + 3)) m (fun m2 => lawP x q o xs L n (i + 4) m2) else True
def f_start : HM (Nat × Nat × Nat) := bnd (nO 3) fun x => bnd (f_X3_init x) fun _ => bnd (nO 4) fun q => bnd (f_X4_init q) fun _ => bnd (nA 9 1 1) fun o => rt (x, q, o)
def m00 (base : Nat) : Mem := (fun _ => 10, fun _ => 0, fun _ _ => 0, fun _ _ => none, base)
theorem bnd_rtI {α : Type} {f : HM α} {m : Mem} {z : α × Mem} (h : f m = some z) : bnd f rt m = some z := by
  unfold bnd
  rw [h]
  rfl
theorem nI_l4 {i L : Nat} (hi : i ≤ 4096) (hL : L ≤ 2048) : Int32.ofNat L - 4 < nI i ↔ ¬ i + 4 ≤ L := by
  have h1 : (nI L - nI 4).toInt = (L : Int) - 4 := pk_sub_toInt (by omega) (by decide)
  have h2 : (nI i).toInt = (i : Int) := nI_toInt (by omega)
  have h3 : Int32.ofNat L - 4 = nI L - nI 4 := rfl
  rw [h3, Int32.lt_iff_toInt_lt, h1, h2]
  omega
theorem lg_self (x : Int64) : lg_cmp x x = 0 := by
  simp [lg_cmp]
section LAWR
variable {p : Program} {l : Launch} {e : Env} {R : Room} {s : State} {m : MethodId} {args : Array Value} {below : List Frame} {meth : Method} {c : Code} {H : Heap} {locs : List Loc} {cells slots : Nat} {Q : State → Prop}
variable {cc : ByteArray} {nL pc : Nat} {ls : Array Slot} {rest st0 : List Value} {D : va_G} {cA : Nat → ClassId} {base : Nat} {Ts : List Cond} {own : String} {mm : Mem}
theorem r_sc (C : CallFix p m c cc nL s args Ts own) {b L : Nat} {xs : Nat → Int32} (hX : va_X b L xs s s.heap) (hbl : b < s.heap.size) (hbA : ¬ mA base b) (hS : va_S (mA base) s.heap H locs) (hL : L ≤ 2048) {i : Int32} {j : Nat} (hi : i = nI j) (hj : j < L) (hdg : decode cc pc = .ok (.iaload, 1))
    (kk : W p l e R s m args below meth c H locs cells slots Q (F0 m (pc + 1) ls (.int (xs j) :: rest))) : W p l e R s m args below meth c H locs cells slots Q (F0 m pc ls (.int i :: .ref b :: rest)) := by
  subst hi
  refine va_sld C.1 C.2.1 hX hbl hbA hS (vp_in_nI hj (by omega)) hdg ?_
  rw [nI_clamp (by omega)]
  exact kk
theorem r_shareL {x o : Nat} {sa : Nat} {z1 : Int32 × Mem} (hl0 : l.stackTraces = false) (C : CallFix p m c cc nL s args Ts own) (hT : mT D cA s) (hXX : mX base sa s) (hH : mH D cA base mm H) (hS : va_S (mA base) s.heap H locs) {index : Nat} (hG : GoodIn Ts (va_wsS own index yL_share wsL_share)) (hR : 8 ≤ R.frames ∧ 142 ≤ R.locals) (hsize : ls.size = nL) (hW : (rest.map fun v => v.category).sum ≤ 8) (hdg : decode cc pc = .ok (.invokestatic index, 3)) (hf : cells + 1 ≤ R.cells ∧ slots + 6 ≤ R.slots) (h : f_L_share x o mm = some z1)
    (kk : ∀ (n : Nat) (H1 : Heap) (locs1 : List Loc), mS z1.2 ≤ n → mH D cA base (reS z1.2 n) H1 → va_S (mA base) s.heap H1 locs1 → W p l e R s m args below meth c H1 locs1 (cells + 1) (slots + 6) Q (F0 m (pc + 3) ls (.int z1.1 :: rest))) : W p l e R s m args below meth c H locs cells slots Q (F0 m pc ls (.ref o :: .ref x :: rest)) := by
  have run := vx_runSW (R := R) (H := H) (locs := locs) (cells := cells) (slots := slots) (g := F0 m pc ls (.ref o :: .ref x :: rest)) (rest := rest) (As := [.ref x, .ref o]) (e := e) (below := below) (meth := meth) C (c_L_share l hl0 D cA base sa x o mm z1 h) (vx_cwSW 2 C.2.2.2.2 hG rfl rfl rfl (by decide +kernel) hR)
    ⟨fun a U g mk q => ⟨q.1, ⟨q.2.1.1, mT.same (u := U) (U := U.calling g mk a) rfl q.2.1.2⟩, mX.same (s := U) (U := U.calling g mk a) rfl rfl q.2.2⟩, fun U hU hW => ⟨rfl, ⟨by rw [hU]; exact hH, mT.moved hW hT⟩, hXX.moved hW (fun a h1 h2 => by rw [hU]; exact hS.2.1 a h1 h2)⟩⟩
    rfl rfl hsize rfl (lv_room hW) hdg hf
  intro T hTh X
  obtain ⟨v, st₀, t, T', L, h0, X', hL, e1, e2, ⟨hv, ⟨n, hn, hu⟩, hz, hk⟩, st⟩ := run T hTh X
  cases hv
  rw [h0] at hz hk
  have hz2 : H.size ≤ T'.heap.size := by rw [e1]; exact hz
  obtain ⟨t2, a1, b1⟩ := kk n T'.heap (locs ++ L) hn (by rw [e1]; exact hu)
    ⟨Nat.le_trans hS.1 hz2, fun q g1 g2 => by rw [e1, hk q (Nat.lt_of_lt_of_le g1 hS.1) g2]; exact hS.2.1 q g1 g2, fun q hq => by
      rcases List.mem_append.mp hq with h | h
      · exact hS.2.2 q h
      · exact hL q h⟩ T' rfl X'
  exact ⟨t2, st t2 a1, b1⟩
end LAWR
set_option maxHeartbeats 8000000 in
set_option maxRecDepth 100000 in
theorem law_loop {p : Program} {l : Launch} {e : Env} {s : State} {m : MethodId} {below : List Frame} {meth : Method} {c : Code} {D : va_G} {cA : Nat → ClassId} {base b L x q o sa : Nat} {xs : Nat → Int32} (hl0 : l.stackTraces = false) (hL : L ≤ 2048) (C : CallFix p m c code 7 s #[Value.ref b] wsL_law RL) (hr : meth.sig.returnType = ret) (hlocks : meth.locks = false) (hT : mT D cA s) (hXX : mX base sa s) (hX : va_X b L xs s s.heap) (hbl : b < s.heap.size) (hbA : ¬ mA base b) (hbs : base = s.heap.size) :
    ∀ (n i : Nat) (mm : Mem) (H : Heap) (locs : List Loc) (ls : Array Slot), n ≤ 2100 → i ≤ L + 4 → mH D cA base mm H → va_S (mA base) s.heap H locs → lv_has ls 7 [(0, .ref b), (1, .ref x), (2, .ref q), (3, .ref o), (4, .int (nI i))] → lawP x q o xs L n i mm → W p l e room_1 s m #[Value.ref b] below meth c H locs (601024 - 10 * n) (7293034 - 1000 * n) (lw_Z below #[Value.ref b] s) (F0 m 23 ls []) := by
  have hroomC : ∀ a mc : Nat, a + mc ≤ 601024 → a + mc ≤ room_1.cells := fun _ _ h => h
  have hroomS : ∀ a mc : Nat, a + mc ≤ 7293034 → a + mc ≤ room_1.slots := fun _ _ h => h
  have e1 : ∀ i, nI i + 1 = nI (i + 1) := fun i => nI_add i 1
  have e2 : ∀ i, nI i + 2 = nI (i + 2) := fun i => nI_add i 2
  have e3 : ∀ i, nI i + 3 = nI (i + 3) := fun i => nI_add i 3
  have e4 : ∀ i, nI i + 4 = nI (i + 4) := fun i => nI_add i 4
  intro n
  induction n with
  | zero =>
    intro i mm H locs ls hn hi hH hS hl hq
    exact hq.elim
  | succ n ih =>
    intro i mm H locs ls hn hi hH hS hl hq
    have tl : i + 4 ≤ L → ∀ (mm : Mem) (H : Heap) (locs : List Loc) (ls : Array Slot) (cells slots : Nat), mH D cA base mm H → va_S (mA base) s.heap H locs → lv_has ls 7 [(0, .ref b), (1, .ref x), (2, .ref q), (3, .ref o), (4, .int (nI i))] → lawP x q o xs L n (i + 4) mm → cells ≤ 601024 - 10 * n → slots ≤ 7293034 - 1000 * n → W p l e room_1 s m #[Value.ref b] below meth c H locs cells slots (lw_Z below #[Value.ref b] s) (F0 m 704 ls []) := by
      intro hiL mm H locs ls cells slots hH hS hl hq hc1 hc2
      refine lv_iinc (v := nI (i + 4)) (lv' := [(4, .int (nI (i + 4))), (0, .ref b), (1, .ref x), (2, .ref q), (3, .ref o)]) C.1 C.2.1 dL_law_704 hl (k := 4) rfl (e4 i) (by decide) rfl (fun ls hl => ?_)
      refine lv_goto (tgt := 23) C.1 C.2.1 dL_law_707 (by decide) ?_
      refine W.widen hc1 hc2 ?_
      exact ih (i + 4) _ _ _ _ (by omega) (by omega) hH hS (lv_sub hl [1, 2, 3, 4, 0] rfl) hq
    unfold lawP at hq
    refine lv_iload C.1 C.2.1 dL_law_23 (lv_at hl 4 rfl) ?_
    refine lv_aload_n C.1 C.2.1 dL_law_25 rfl (lv_at hl 0 rfl) ?_
    refine va_slen C.1 C.2.1 hX hbl hbA hS dL_law_26 ?_
    refine lv_iconst (v := 4) C.1 C.2.1 dL_law_27 (by decide) ?_
    refine lv_isub C.1 C.2.1 dL_law_28 ?_
    refine lv_icmp_gt (tgt := 710) C.1 C.2.1 dL_law_29 (by decide) (fun hc => ?_) (fun hc => ?_)
    · refine lv_iconst (v := 1) C.1 C.2.1 dL_law_710 (by decide) ?_
      refine va_forget (fun z hz => by have := hS.2.2 z hz; unfold mA at this; omega) ?_
      refine W.widen (k := 601024) (n := 7293034) (by omega) (by omega) ?_
      exact lw_ret C.1 C.2.1 hr hlocks dL_law_711
    · have hiL : i + 4 ≤ L := by
        rcases Nat.lt_or_ge L (i + 4) with g | g
        · exact absurd ((nI_l4 (by omega) hL).mpr (by omega)) hc
        · exact g
      rw [if_pos hiL] at hq
      refine lv_aload_n C.1 C.2.1 dL_law_32 rfl (lv_at hl 0 rfl) ?_
      refine lv_iload C.1 C.2.1 dL_law_33 (lv_at hl 4 rfl) ?_
      refine r_sc C hX hbl hbA hS hL rfl (j := i) (by omega) dL_law_35 ?_
      refine lv_bipush (v := 31) C.1 C.2.1 dL_law_36 (by decide) ?_
      refine lv_iand C.1 C.2.1 dL_law_38 ?_
      unfold stepP at hq
      by_cases n0 : xs i &&& 31 = 0
      · rw [if_pos n0] at hq
        refine lv_tableIn (tgt := 136) C.1 C.2.1 dL_law_39 (by rw [n0]; decide) (by rw [n0]; decide) (by rw [n0]; rfl) (by decide) ?_
        obtain ⟨r, m1, m2, g1, g2, hq⟩ := hq
        refine lv_aload_n C.1 C.2.1 dL_law_136 rfl (lv_at hl 1 rfl) ?_
        refine lv_aload_n C.1 C.2.1 dL_law_137 rfl (lv_at hl 0 rfl) ?_
        refine lv_iload C.1 C.2.1 dL_law_138 (lv_at hl 4 rfl) ?_
        refine lv_iconst (v := 1) C.1 C.2.1 dL_law_140 (by decide) ?_
        refine lv_iadd C.1 C.2.1 dL_law_141 ?_
        refine r_sc C hX hbl hbA hS hL (e1 i) (j := i + 1) (by omega) dL_law_142 ?_
        refine lv_aload_n C.1 C.2.1 dL_law_143 rfl (lv_at hl 0 rfl) ?_
        refine lv_iload C.1 C.2.1 dL_law_144 (lv_at hl 4 rfl) ?_
        refine lv_iconst (v := 2) C.1 C.2.1 dL_law_146 (by decide) ?_
        refine lv_iadd C.1 C.2.1 dL_law_147 ?_
        refine r_sc C hX hbl hbA hS hL (e2 i) (j := i + 2) (by omega) dL_law_148 ?_
        refine r_callVI C hT hH hS (t := 3) (As := [.int (xs (i + 1)), .int (xs (i + 2))]) (fun z1 hz => c_X3_put l D cA base x (xs (i + 1)) (xs (i + 2)) _ z1 hz) (cwV 2 C.2.2.2.2 gL_law_X3_put rfl rfl rfl (by decide +kernel) ⟨Nat.le_of_ble_eq_true rfl, Nat.le_of_ble_eq_true rfl⟩) rfl (by decide) rfl hl.1 rfl (Nat.le_of_ble_eq_true rfl) dL_law_149 ⟨hroomC _ 0 (by omega), hroomS _ 0 (by omega)⟩ (bnd_rtI g1) (fun v1 mm H locs hH hS h => ?_)
        cases h
        refine lv_aload_n C.1 C.2.1 dL_law_152 rfl (lv_at hl 2 rfl) ?_
        refine lv_aload_n C.1 C.2.1 dL_law_153 rfl (lv_at hl 0 rfl) ?_
        refine lv_iload C.1 C.2.1 dL_law_154 (lv_at hl 4 rfl) ?_
        refine lv_iconst (v := 1) C.1 C.2.1 dL_law_156 (by decide) ?_
        refine lv_iadd C.1 C.2.1 dL_law_157 ?_
        refine r_sc C hX hbl hbA hS hL (e1 i) (j := i + 1) (by omega) dL_law_158 ?_
        refine lv_aload_n C.1 C.2.1 dL_law_159 rfl (lv_at hl 0 rfl) ?_
        refine lv_iload C.1 C.2.1 dL_law_160 (lv_at hl 4 rfl) ?_
        refine lv_iconst (v := 2) C.1 C.2.1 dL_law_162 (by decide) ?_
        refine lv_iadd C.1 C.2.1 dL_law_163 ?_
        refine r_sc C hX hbl hbA hS hL (e2 i) (j := i + 2) (by omega) dL_law_164 ?_
        refine r_callVI C hT hH hS (t := 4) (As := [.int (xs (i + 1)), .int (xs (i + 2))]) (fun z1 hz => c_X4_put l D cA base q (xs (i + 1)) (xs (i + 2)) _ z1 hz) (cwV 2 C.2.2.2.2 gL_law_X4_put rfl rfl rfl (by decide +kernel) ⟨Nat.le_of_ble_eq_true rfl, Nat.le_of_ble_eq_true rfl⟩) rfl (by decide) rfl hl.1 rfl (Nat.le_of_ble_eq_true rfl) dL_law_165 ⟨hroomC _ 0 (by omega), hroomS _ 0 (by omega)⟩ (bnd_rtI g2) (fun v2 mm H locs hH hS h => ?_)
        cases h
        refine lv_icmp_eq (tgt := 704) C.1 C.2.1 dL_law_168 (by decide) (fun hc => ?_) (fun hc => absurd rfl hc)
        exact tl hiL _ _ _ _ _ _ hH hS hl hq (by omega) (by omega)
      · rw [if_neg n0] at hq
        by_cases n1 : xs i &&& 31 = 1
        · rw [if_pos n1] at hq
          refine lv_tableIn (tgt := 173) C.1 C.2.1 dL_law_39 (by rw [n1]; decide) (by rw [n1]; decide) (by rw [n1]; rfl) (by decide) ?_
          obtain ⟨r, m1, m2, g1, g2, hq⟩ := hq
          refine lv_aload_n C.1 C.2.1 dL_law_173 rfl (lv_at hl 1 rfl) ?_
          refine lv_aload_n C.1 C.2.1 dL_law_174 rfl (lv_at hl 0 rfl) ?_
          refine lv_iload C.1 C.2.1 dL_law_175 (lv_at hl 4 rfl) ?_
          refine lv_iconst (v := 1) C.1 C.2.1 dL_law_177 (by decide) ?_
          refine lv_iadd C.1 C.2.1 dL_law_178 ?_
          refine r_sc C hX hbl hbA hS hL (e1 i) (j := i + 1) (by omega) dL_law_179 ?_
          refine r_callVI C hT hH hS (t := 3) (As := [.int (xs (i + 1))]) (fun z1 hz => c_X3_drop l D cA base x (xs (i + 1)) _ z1 hz) (cwV 1 C.2.2.2.2 gL_law_X3_drop rfl rfl rfl (by decide +kernel) ⟨Nat.le_of_ble_eq_true rfl, Nat.le_of_ble_eq_true rfl⟩) rfl (by decide) rfl hl.1 rfl (Nat.le_of_ble_eq_true rfl) dL_law_180 ⟨hroomC _ 0 (by omega), hroomS _ 0 (by omega)⟩ (bnd_rtI g1) (fun v1 mm H locs hH hS h => ?_)
          cases h
          refine lv_aload_n C.1 C.2.1 dL_law_183 rfl (lv_at hl 2 rfl) ?_
          refine lv_aload_n C.1 C.2.1 dL_law_184 rfl (lv_at hl 0 rfl) ?_
          refine lv_iload C.1 C.2.1 dL_law_185 (lv_at hl 4 rfl) ?_
          refine lv_iconst (v := 1) C.1 C.2.1 dL_law_187 (by decide) ?_
          refine lv_iadd C.1 C.2.1 dL_law_188 ?_
          refine r_sc C hX hbl hbA hS hL (e1 i) (j := i + 1) (by omega) dL_law_189 ?_
          refine r_callVI C hT hH hS (t := 4) (As := [.int (xs (i + 1))]) (fun z1 hz => c_X4_drop l D cA base q (xs (i + 1)) _ z1 hz) (cwV 1 C.2.2.2.2 gL_law_X4_drop rfl rfl rfl (by decide +kernel) ⟨Nat.le_of_ble_eq_true rfl, Nat.le_of_ble_eq_true rfl⟩) rfl (by decide) rfl hl.1 rfl (Nat.le_of_ble_eq_true rfl) dL_law_190 ⟨hroomC _ 0 (by omega), hroomS _ 0 (by omega)⟩ (bnd_rtI g2) (fun v2 mm H locs hH hS h => ?_)
          cases h
          refine lv_icmp_eq (tgt := 704) C.1 C.2.1 dL_law_193 (by decide) (fun hc => ?_) (fun hc => absurd rfl hc)
          exact tl hiL _ _ _ _ _ _ hH hS hl hq (by omega) (by omega)
        · rw [if_neg n1] at hq
          by_cases n2 : xs i &&& 31 = 2
          · rw [if_pos n2] at hq
            refine lv_tableIn (tgt := 198) C.1 C.2.1 dL_law_39 (by rw [n2]; decide) (by rw [n2]; decide) (by rw [n2]; rfl) (by decide) ?_
            obtain ⟨r, m1, m2, g1, g2, hq⟩ := hq
            refine lv_aload_n C.1 C.2.1 dL_law_198 rfl (lv_at hl 1 rfl) ?_
            refine lv_aload_n C.1 C.2.1 dL_law_199 rfl (lv_at hl 0 rfl) ?_
            refine lv_iload C.1 C.2.1 dL_law_200 (lv_at hl 4 rfl) ?_
            refine lv_iconst (v := 1) C.1 C.2.1 dL_law_202 (by decide) ?_
            refine lv_iadd C.1 C.2.1 dL_law_203 ?_
            refine r_sc C hX hbl hbA hS hL (e1 i) (j := i + 1) (by omega) dL_law_204 ?_
            refine r_callVI C hT hH hS (t := 3) (As := [.int (xs (i + 1))]) (fun z1 hz => c_X3_get l D cA base x (xs (i + 1)) _ z1 hz) (cwV 1 C.2.2.2.2 gL_law_X3_get rfl rfl rfl (by decide +kernel) ⟨Nat.le_of_ble_eq_true rfl, Nat.le_of_ble_eq_true rfl⟩) rfl (by decide) rfl hl.1 rfl (Nat.le_of_ble_eq_true rfl) dL_law_205 ⟨hroomC _ 0 (by omega), hroomS _ 0 (by omega)⟩ (bnd_rtI g1) (fun v1 mm H locs hH hS h => ?_)
            cases h
            refine lv_aload_n C.1 C.2.1 dL_law_208 rfl (lv_at hl 2 rfl) ?_
            refine lv_aload_n C.1 C.2.1 dL_law_209 rfl (lv_at hl 0 rfl) ?_
            refine lv_iload C.1 C.2.1 dL_law_210 (lv_at hl 4 rfl) ?_
            refine lv_iconst (v := 1) C.1 C.2.1 dL_law_212 (by decide) ?_
            refine lv_iadd C.1 C.2.1 dL_law_213 ?_
            refine r_sc C hX hbl hbA hS hL (e1 i) (j := i + 1) (by omega) dL_law_214 ?_
            refine r_callVI C hT hH hS (t := 4) (As := [.int (xs (i + 1))]) (fun z1 hz => c_X4_get l D cA base q (xs (i + 1)) _ z1 hz) (cwV 1 C.2.2.2.2 gL_law_X4_get rfl rfl rfl (by decide +kernel) ⟨Nat.le_of_ble_eq_true rfl, Nat.le_of_ble_eq_true rfl⟩) rfl (by decide) rfl hl.1 rfl (Nat.le_of_ble_eq_true rfl) dL_law_215 ⟨hroomC _ 0 (by omega), hroomS _ 0 (by omega)⟩ (bnd_rtI g2) (fun v2 mm H locs hH hS h => ?_)
            cases h
            refine lv_icmp_eq (tgt := 704) C.1 C.2.1 dL_law_218 (by decide) (fun hc => ?_) (fun hc => absurd rfl hc)
            exact tl hiL _ _ _ _ _ _ hH hS hl hq (by omega) (by omega)
          · rw [if_neg n2] at hq
            by_cases n3 : xs i &&& 31 = 3
            · rw [if_pos n3] at hq
              refine lv_tableIn (tgt := 223) C.1 C.2.1 dL_law_39 (by rw [n3]; decide) (by rw [n3]; decide) (by rw [n3]; rfl) (by decide) ?_
              obtain ⟨r, m1, m2, g1, g2, hq⟩ := hq
              refine lv_aload_n C.1 C.2.1 dL_law_223 rfl (lv_at hl 1 rfl) ?_
              refine lv_aload_n C.1 C.2.1 dL_law_224 rfl (lv_at hl 0 rfl) ?_
              refine lv_iload C.1 C.2.1 dL_law_225 (lv_at hl 4 rfl) ?_
              refine lv_iconst (v := 1) C.1 C.2.1 dL_law_227 (by decide) ?_
              refine lv_iadd C.1 C.2.1 dL_law_228 ?_
              refine r_sc C hX hbl hbA hS hL (e1 i) (j := i + 1) (by omega) dL_law_229 ?_
              refine r_callVI C hT hH hS (t := 3) (As := [.int (xs (i + 1))]) (fun z1 hz => c_X3_next l D cA base x (xs (i + 1)) _ z1 hz) (cwV 1 C.2.2.2.2 gL_law_X3_next rfl rfl rfl (by decide +kernel) ⟨Nat.le_of_ble_eq_true rfl, Nat.le_of_ble_eq_true rfl⟩) rfl (by decide) rfl hl.1 rfl (Nat.le_of_ble_eq_true rfl) dL_law_230 ⟨hroomC _ 0 (by omega), hroomS _ 0 (by omega)⟩ (bnd_rtI g1) (fun v1 mm H locs hH hS h => ?_)
              cases h
              refine lv_aload_n C.1 C.2.1 dL_law_233 rfl (lv_at hl 2 rfl) ?_
              refine lv_aload_n C.1 C.2.1 dL_law_234 rfl (lv_at hl 0 rfl) ?_
              refine lv_iload C.1 C.2.1 dL_law_235 (lv_at hl 4 rfl) ?_
              refine lv_iconst (v := 1) C.1 C.2.1 dL_law_237 (by decide) ?_
              refine lv_iadd C.1 C.2.1 dL_law_238 ?_
              refine r_sc C hX hbl hbA hS hL (e1 i) (j := i + 1) (by omega) dL_law_239 ?_
              refine r_callVI C hT hH hS (t := 4) (As := [.int (xs (i + 1))]) (fun z1 hz => c_X4_next l D cA base q (xs (i + 1)) _ z1 hz) (cwV 1 C.2.2.2.2 gL_law_X4_next rfl rfl rfl (by decide +kernel) ⟨Nat.le_of_ble_eq_true rfl, Nat.le_of_ble_eq_true rfl⟩) rfl (by decide) rfl hl.1 rfl (Nat.le_of_ble_eq_true rfl) dL_law_240 ⟨hroomC _ 0 (by omega), hroomS _ 0 (by omega)⟩ (bnd_rtI g2) (fun v2 mm H locs hH hS h => ?_)
              cases h
              refine lv_icmp_eq (tgt := 704) C.1 C.2.1 dL_law_243 (by decide) (fun hc => ?_) (fun hc => absurd rfl hc)
              exact tl hiL _ _ _ _ _ _ hH hS hl hq (by omega) (by omega)
            · rw [if_neg n3] at hq
              by_cases n4 : xs i &&& 31 = 4
              · rw [if_pos n4] at hq
                refine lv_tableIn (tgt := 248) C.1 C.2.1 dL_law_39 (by rw [n4]; decide) (by rw [n4]; decide) (by rw [n4]; rfl) (by decide) ?_
                obtain ⟨r, m1, m2, g1, g2, hq⟩ := hq
                refine lv_aload_n C.1 C.2.1 dL_law_248 rfl (lv_at hl 1 rfl) ?_
                refine r_callVI C hT hH hS (t := 3) (As := []) (fun z1 hz => c_X3_flush l D cA base x _ z1 hz) (cwV 0 C.2.2.2.2 gL_law_X3_flush rfl rfl rfl (by decide +kernel) ⟨Nat.le_of_ble_eq_true rfl, Nat.le_of_ble_eq_true rfl⟩) rfl (by decide) rfl hl.1 rfl (Nat.le_of_ble_eq_true rfl) dL_law_249 ⟨hroomC _ 5 (by omega), hroomS _ 408 (by omega)⟩ (bnd_rtI g1) (fun v1 mm H locs hH hS h => ?_)
                cases h
                refine lv_aload_n C.1 C.2.1 dL_law_252 rfl (lv_at hl 2 rfl) ?_
                refine r_callVI C hT hH hS (t := 4) (As := []) (fun z1 hz => c_X4_flush l D cA base q _ z1 hz) (cwV 0 C.2.2.2.2 gL_law_X4_flush rfl rfl rfl (by decide +kernel) ⟨Nat.le_of_ble_eq_true rfl, Nat.le_of_ble_eq_true rfl⟩) rfl (by decide) rfl hl.1 rfl (Nat.le_of_ble_eq_true rfl) dL_law_253 ⟨hroomC _ 0 (by omega), hroomS _ 0 (by omega)⟩ (bnd_rtI g2) (fun v2 mm H locs hH hS h => ?_)
                cases h
                refine lv_icmp_eq (tgt := 704) C.1 C.2.1 dL_law_256 (by decide) (fun hc => ?_) (fun hc => absurd rfl hc)
                exact tl hiL _ _ _ _ _ _ hH hS hl hq (by omega) (by omega)
              · rw [if_neg n4] at hq
                by_cases n5 : xs i &&& 31 = 5
                · rw [if_pos n5] at hq
                  refine lv_tableIn (tgt := 261) C.1 C.2.1 dL_law_39 (by rw [n5]; decide) (by rw [n5]; decide) (by rw [n5]; rfl) (by decide) ?_
                  obtain ⟨r, m1, m2, g1, g2, hq⟩ := hq
                  refine lv_aload_n C.1 C.2.1 dL_law_261 rfl (lv_at hl 1 rfl) ?_
                  refine lv_aload_n C.1 C.2.1 dL_law_262 rfl (lv_at hl 0 rfl) ?_
                  refine lv_iload C.1 C.2.1 dL_law_263 (lv_at hl 4 rfl) ?_
                  refine lv_iconst (v := 1) C.1 C.2.1 dL_law_265 (by decide) ?_
                  refine lv_iadd C.1 C.2.1 dL_law_266 ?_
                  refine r_sc C hX hbl hbA hS hL (e1 i) (j := i + 1) (by omega) dL_law_267 ?_
                  refine r_callVI C hT hH hS (t := 3) (As := [.int (xs (i + 1))]) (fun z1 hz => c_X3_count l D cA base x (xs (i + 1)) _ z1 hz) (cwV 1 C.2.2.2.2 gL_law_X3_count rfl rfl rfl (by decide +kernel) ⟨Nat.le_of_ble_eq_true rfl, Nat.le_of_ble_eq_true rfl⟩) rfl (by decide) rfl hl.1 rfl (Nat.le_of_ble_eq_true rfl) dL_law_268 ⟨hroomC _ 0 (by omega), hroomS _ 0 (by omega)⟩ (bnd_rtI g1) (fun v1 mm H locs hH hS h => ?_)
                  cases h
                  refine lv_aload_n C.1 C.2.1 dL_law_271 rfl (lv_at hl 2 rfl) ?_
                  refine lv_aload_n C.1 C.2.1 dL_law_272 rfl (lv_at hl 0 rfl) ?_
                  refine lv_iload C.1 C.2.1 dL_law_273 (lv_at hl 4 rfl) ?_
                  refine lv_iconst (v := 1) C.1 C.2.1 dL_law_275 (by decide) ?_
                  refine lv_iadd C.1 C.2.1 dL_law_276 ?_
                  refine r_sc C hX hbl hbA hS hL (e1 i) (j := i + 1) (by omega) dL_law_277 ?_
                  refine r_callVI C hT hH hS (t := 4) (As := [.int (xs (i + 1))]) (fun z1 hz => c_X4_count l D cA base q (xs (i + 1)) _ z1 hz) (cwV 1 C.2.2.2.2 gL_law_X4_count rfl rfl rfl (by decide +kernel) ⟨Nat.le_of_ble_eq_true rfl, Nat.le_of_ble_eq_true rfl⟩) rfl (by decide) rfl hl.1 rfl (Nat.le_of_ble_eq_true rfl) dL_law_278 ⟨hroomC _ 0 (by omega), hroomS _ 0 (by omega)⟩ (bnd_rtI g2) (fun v2 mm H locs hH hS h => ?_)
                  cases h
                  refine lv_icmp_eq (tgt := 704) C.1 C.2.1 dL_law_281 (by decide) (fun hc => ?_) (fun hc => absurd rfl hc)
                  exact tl hiL _ _ _ _ _ _ hH hS hl hq (by omega) (by omega)
                · rw [if_neg n5] at hq
                  by_cases n6 : xs i &&& 31 = 6
                  · rw [if_pos n6] at hq
                    refine lv_tableIn (tgt := 286) C.1 C.2.1 dL_law_39 (by rw [n6]; decide) (by rw [n6]; decide) (by rw [n6]; rfl) (by decide) ?_
                    obtain ⟨r, m1, m2, g1, g2, hq⟩ := hq
                    refine lv_aload_n C.1 C.2.1 dL_law_286 rfl (lv_at hl 1 rfl) ?_
                    refine lv_aload_n C.1 C.2.1 dL_law_287 rfl (lv_at hl 0 rfl) ?_
                    refine lv_iload C.1 C.2.1 dL_law_288 (lv_at hl 4 rfl) ?_
                    refine lv_iconst (v := 1) C.1 C.2.1 dL_law_290 (by decide) ?_
                    refine lv_iadd C.1 C.2.1 dL_law_291 ?_
                    refine r_sc C hX hbl hbA hS hL (e1 i) (j := i + 1) (by omega) dL_law_292 ?_
                    refine lv_aload_n C.1 C.2.1 dL_law_293 rfl (lv_at hl 0 rfl) ?_
                    refine lv_iload C.1 C.2.1 dL_law_294 (lv_at hl 4 rfl) ?_
                    refine lv_iconst (v := 2) C.1 C.2.1 dL_law_296 (by decide) ?_
                    refine lv_iadd C.1 C.2.1 dL_law_297 ?_
                    refine r_sc C hX hbl hbA hS hL (e2 i) (j := i + 2) (by omega) dL_law_298 ?_
                    refine r_callVI C hT hH hS (t := 3) (As := [.int (xs (i + 1)), .int (xs (i + 2))]) (fun z1 hz => c_X3_segment l D cA base x (xs (i + 1)) (xs (i + 2)) _ z1 hz) (cwV 2 C.2.2.2.2 gL_law_X3_segment rfl rfl rfl (by decide +kernel) ⟨Nat.le_of_ble_eq_true rfl, Nat.le_of_ble_eq_true rfl⟩) rfl (by decide) rfl hl.1 rfl (Nat.le_of_ble_eq_true rfl) dL_law_299 ⟨hroomC _ 0 (by omega), hroomS _ 0 (by omega)⟩ (bnd_rtI g1) (fun v1 mm H locs hH hS h => ?_)
                    cases h
                    refine lv_aload_n C.1 C.2.1 dL_law_302 rfl (lv_at hl 2 rfl) ?_
                    refine lv_aload_n C.1 C.2.1 dL_law_303 rfl (lv_at hl 0 rfl) ?_
                    refine lv_iload C.1 C.2.1 dL_law_304 (lv_at hl 4 rfl) ?_
                    refine lv_iconst (v := 1) C.1 C.2.1 dL_law_306 (by decide) ?_
                    refine lv_iadd C.1 C.2.1 dL_law_307 ?_
                    refine r_sc C hX hbl hbA hS hL (e1 i) (j := i + 1) (by omega) dL_law_308 ?_
                    refine lv_aload_n C.1 C.2.1 dL_law_309 rfl (lv_at hl 0 rfl) ?_
                    refine lv_iload C.1 C.2.1 dL_law_310 (lv_at hl 4 rfl) ?_
                    refine lv_iconst (v := 2) C.1 C.2.1 dL_law_312 (by decide) ?_
                    refine lv_iadd C.1 C.2.1 dL_law_313 ?_
                    refine r_sc C hX hbl hbA hS hL (e2 i) (j := i + 2) (by omega) dL_law_314 ?_
                    refine r_callVI C hT hH hS (t := 4) (As := [.int (xs (i + 1)), .int (xs (i + 2))]) (fun z1 hz => c_X4_segment l D cA base q (xs (i + 1)) (xs (i + 2)) _ z1 hz) (cwV 2 C.2.2.2.2 gL_law_X4_segment rfl rfl rfl (by decide +kernel) ⟨Nat.le_of_ble_eq_true rfl, Nat.le_of_ble_eq_true rfl⟩) rfl (by decide) rfl hl.1 rfl (Nat.le_of_ble_eq_true rfl) dL_law_315 ⟨hroomC _ 0 (by omega), hroomS _ 0 (by omega)⟩ (bnd_rtI g2) (fun v2 mm H locs hH hS h => ?_)
                    cases h
                    refine lv_icmp_eq (tgt := 704) C.1 C.2.1 dL_law_318 (by decide) (fun hc => ?_) (fun hc => absurd rfl hc)
                    exact tl hiL _ _ _ _ _ _ hH hS hl hq (by omega) (by omega)
                  · rw [if_neg n6] at hq
                    by_cases n7 : xs i &&& 31 = 7
                    · rw [if_pos n7] at hq
                      refine lv_tableIn (tgt := 323) C.1 C.2.1 dL_law_39 (by rw [n7]; decide) (by rw [n7]; decide) (by rw [n7]; rfl) (by decide) ?_
                      obtain ⟨r, m1, m2, g1, g2, hq⟩ := hq
                      refine lv_aload_n C.1 C.2.1 dL_law_323 rfl (lv_at hl 1 rfl) ?_
                      refine lv_aload_n C.1 C.2.1 dL_law_324 rfl (lv_at hl 0 rfl) ?_
                      refine lv_iload C.1 C.2.1 dL_law_325 (lv_at hl 4 rfl) ?_
                      refine lv_iconst (v := 1) C.1 C.2.1 dL_law_327 (by decide) ?_
                      refine lv_iadd C.1 C.2.1 dL_law_328 ?_
                      refine r_sc C hX hbl hbA hS hL (e1 i) (j := i + 1) (by omega) dL_law_329 ?_
                      refine lv_aload_n C.1 C.2.1 dL_law_330 rfl (lv_at hl 0 rfl) ?_
                      refine lv_iload C.1 C.2.1 dL_law_331 (lv_at hl 4 rfl) ?_
                      refine lv_iconst (v := 2) C.1 C.2.1 dL_law_333 (by decide) ?_
                      refine lv_iadd C.1 C.2.1 dL_law_334 ?_
                      refine r_sc C hX hbl hbA hS hL (e2 i) (j := i + 2) (by omega) dL_law_335 ?_
                      refine lv_aload_n C.1 C.2.1 dL_law_336 rfl (lv_at hl 0 rfl) ?_
                      refine lv_iload C.1 C.2.1 dL_law_337 (lv_at hl 4 rfl) ?_
                      refine lv_iconst (v := 3) C.1 C.2.1 dL_law_339 (by decide) ?_
                      refine lv_iadd C.1 C.2.1 dL_law_340 ?_
                      refine r_sc C hX hbl hbA hS hL (e3 i) (j := i + 3) (by omega) dL_law_341 ?_
                      refine r_callVI C hT hH hS (t := 3) (As := [.int (xs (i + 1)), .int (xs (i + 2)), .int (xs (i + 3))]) (fun z1 hz => c_X3_row l D cA base x (xs (i + 1)) (xs (i + 2)) (xs (i + 3)) _ z1 hz) (cwV 3 C.2.2.2.2 gL_law_X3_row rfl rfl rfl (by decide +kernel) ⟨Nat.le_of_ble_eq_true rfl, Nat.le_of_ble_eq_true rfl⟩) rfl (by decide) rfl hl.1 rfl (Nat.le_of_ble_eq_true rfl) dL_law_342 ⟨hroomC _ 0 (by omega), hroomS _ 0 (by omega)⟩ (bnd_rtI g1) (fun v1 mm H locs hH hS h => ?_)
                      cases h
                      refine lv_aload_n C.1 C.2.1 dL_law_345 rfl (lv_at hl 2 rfl) ?_
                      refine lv_aload_n C.1 C.2.1 dL_law_346 rfl (lv_at hl 0 rfl) ?_
                      refine lv_iload C.1 C.2.1 dL_law_347 (lv_at hl 4 rfl) ?_
                      refine lv_iconst (v := 1) C.1 C.2.1 dL_law_349 (by decide) ?_
                      refine lv_iadd C.1 C.2.1 dL_law_350 ?_
                      refine r_sc C hX hbl hbA hS hL (e1 i) (j := i + 1) (by omega) dL_law_351 ?_
                      refine lv_aload_n C.1 C.2.1 dL_law_352 rfl (lv_at hl 0 rfl) ?_
                      refine lv_iload C.1 C.2.1 dL_law_353 (lv_at hl 4 rfl) ?_
                      refine lv_iconst (v := 2) C.1 C.2.1 dL_law_355 (by decide) ?_
                      refine lv_iadd C.1 C.2.1 dL_law_356 ?_
                      refine r_sc C hX hbl hbA hS hL (e2 i) (j := i + 2) (by omega) dL_law_357 ?_
                      refine lv_aload_n C.1 C.2.1 dL_law_358 rfl (lv_at hl 0 rfl) ?_
                      refine lv_iload C.1 C.2.1 dL_law_359 (lv_at hl 4 rfl) ?_
                      refine lv_iconst (v := 3) C.1 C.2.1 dL_law_361 (by decide) ?_
                      refine lv_iadd C.1 C.2.1 dL_law_362 ?_
                      refine r_sc C hX hbl hbA hS hL (e3 i) (j := i + 3) (by omega) dL_law_363 ?_
                      refine r_callVI C hT hH hS (t := 4) (As := [.int (xs (i + 1)), .int (xs (i + 2)), .int (xs (i + 3))]) (fun z1 hz => c_X4_row l D cA base q (xs (i + 1)) (xs (i + 2)) (xs (i + 3)) _ z1 hz) (cwV 3 C.2.2.2.2 gL_law_X4_row rfl rfl rfl (by decide +kernel) ⟨Nat.le_of_ble_eq_true rfl, Nat.le_of_ble_eq_true rfl⟩) rfl (by decide) rfl hl.1 rfl (Nat.le_of_ble_eq_true rfl) dL_law_364 ⟨hroomC _ 0 (by omega), hroomS _ 0 (by omega)⟩ (bnd_rtI g2) (fun v2 mm H locs hH hS h => ?_)
                      cases h
                      refine lv_icmp_eq (tgt := 704) C.1 C.2.1 dL_law_367 (by decide) (fun hc => ?_) (fun hc => absurd rfl hc)
                      exact tl hiL _ _ _ _ _ _ hH hS hl hq (by omega) (by omega)
                    · rw [if_neg n7] at hq
                      by_cases n8 : xs i &&& 31 = 8
                      · rw [if_pos n8] at hq
                        refine lv_tableIn (tgt := 372) C.1 C.2.1 dL_law_39 (by rw [n8]; decide) (by rw [n8]; decide) (by rw [n8]; rfl) (by decide) ?_
                        obtain ⟨r, m1, m2, g1, g2, hq⟩ := hq
                        refine lv_aload_n C.1 C.2.1 dL_law_372 rfl (lv_at hl 1 rfl) ?_
                        refine lv_aload_n C.1 C.2.1 dL_law_373 rfl (lv_at hl 0 rfl) ?_
                        refine lv_iload C.1 C.2.1 dL_law_374 (lv_at hl 4 rfl) ?_
                        refine lv_iconst (v := 1) C.1 C.2.1 dL_law_376 (by decide) ?_
                        refine lv_iadd C.1 C.2.1 dL_law_377 ?_
                        refine r_sc C hX hbl hbA hS hL (e1 i) (j := i + 1) (by omega) dL_law_378 ?_
                        refine r_callVI C hT hH hS (t := 3) (As := [.int (xs (i + 1))]) (fun z1 hz => c_X3_full l D cA base x (xs (i + 1)) _ z1 hz) (cwV 1 C.2.2.2.2 gL_law_X3_full rfl rfl rfl (by decide +kernel) ⟨Nat.le_of_ble_eq_true rfl, Nat.le_of_ble_eq_true rfl⟩) rfl (by decide) rfl hl.1 rfl (Nat.le_of_ble_eq_true rfl) dL_law_379 ⟨hroomC _ 0 (by omega), hroomS _ 0 (by omega)⟩ (bnd_rtI g1) (fun v1 mm H locs hH hS h => ?_)
                        cases h
                        refine lv_aload_n C.1 C.2.1 dL_law_382 rfl (lv_at hl 2 rfl) ?_
                        refine lv_aload_n C.1 C.2.1 dL_law_383 rfl (lv_at hl 0 rfl) ?_
                        refine lv_iload C.1 C.2.1 dL_law_384 (lv_at hl 4 rfl) ?_
                        refine lv_iconst (v := 1) C.1 C.2.1 dL_law_386 (by decide) ?_
                        refine lv_iadd C.1 C.2.1 dL_law_387 ?_
                        refine r_sc C hX hbl hbA hS hL (e1 i) (j := i + 1) (by omega) dL_law_388 ?_
                        refine r_callVI C hT hH hS (t := 4) (As := [.int (xs (i + 1))]) (fun z1 hz => c_X4_full l D cA base q (xs (i + 1)) _ z1 hz) (cwV 1 C.2.2.2.2 gL_law_X4_full rfl rfl rfl (by decide +kernel) ⟨Nat.le_of_ble_eq_true rfl, Nat.le_of_ble_eq_true rfl⟩) rfl (by decide) rfl hl.1 rfl (Nat.le_of_ble_eq_true rfl) dL_law_389 ⟨hroomC _ 0 (by omega), hroomS _ 0 (by omega)⟩ (bnd_rtI g2) (fun v2 mm H locs hH hS h => ?_)
                        cases h
                        refine lv_icmp_eq (tgt := 704) C.1 C.2.1 dL_law_392 (by decide) (fun hc => ?_) (fun hc => absurd rfl hc)
                        exact tl hiL _ _ _ _ _ _ hH hS hl hq (by omega) (by omega)
                      · rw [if_neg n8] at hq
                        by_cases n9 : xs i &&& 31 = 9
                        · rw [if_pos n9] at hq
                          refine lv_tableIn (tgt := 397) C.1 C.2.1 dL_law_39 (by rw [n9]; decide) (by rw [n9]; decide) (by rw [n9]; rfl) (by decide) ?_
                          obtain ⟨r, m1, m2, g1, g2, hq⟩ := hq
                          refine lv_aload_n C.1 C.2.1 dL_law_397 rfl (lv_at hl 1 rfl) ?_
                          refine r_callVI C hT hH hS (t := 3) (As := []) (fun z1 hz => c_X3_due l D cA base x _ z1 hz) (cwV 0 C.2.2.2.2 gL_law_X3_due rfl rfl rfl (by decide +kernel) ⟨Nat.le_of_ble_eq_true rfl, Nat.le_of_ble_eq_true rfl⟩) rfl (by decide) rfl hl.1 rfl (Nat.le_of_ble_eq_true rfl) dL_law_398 ⟨hroomC _ 0 (by omega), hroomS _ 0 (by omega)⟩ (bnd_rtI g1) (fun v1 mm H locs hH hS h => ?_)
                          cases h
                          refine lv_aload_n C.1 C.2.1 dL_law_401 rfl (lv_at hl 2 rfl) ?_
                          refine r_callVI C hT hH hS (t := 4) (As := []) (fun z1 hz => c_X4_due l D cA base q _ z1 hz) (cwV 0 C.2.2.2.2 gL_law_X4_due rfl rfl rfl (by decide +kernel) ⟨Nat.le_of_ble_eq_true rfl, Nat.le_of_ble_eq_true rfl⟩) rfl (by decide) rfl hl.1 rfl (Nat.le_of_ble_eq_true rfl) dL_law_402 ⟨hroomC _ 0 (by omega), hroomS _ 0 (by omega)⟩ (bnd_rtI g2) (fun v2 mm H locs hH hS h => ?_)
                          cases h
                          refine lv_icmp_eq (tgt := 704) C.1 C.2.1 dL_law_405 (by decide) (fun hc => ?_) (fun hc => absurd rfl hc)
                          exact tl hiL _ _ _ _ _ _ hH hS hl hq (by omega) (by omega)
                        · rw [if_neg n9] at hq
                          by_cases n10 : xs i &&& 31 = 10
                          · rw [if_pos n10] at hq
                            refine lv_tableIn (tgt := 410) C.1 C.2.1 dL_law_39 (by rw [n10]; decide) (by rw [n10]; decide) (by rw [n10]; rfl) (by decide) ?_
                            obtain ⟨r, m1, m2, g1, g2, hq⟩ := hq
                            refine lv_aload_n C.1 C.2.1 dL_law_410 rfl (lv_at hl 1 rfl) ?_
                            refine lv_aload_n C.1 C.2.1 dL_law_411 rfl (lv_at hl 0 rfl) ?_
                            refine lv_iload C.1 C.2.1 dL_law_412 (lv_at hl 4 rfl) ?_
                            refine lv_iconst (v := 1) C.1 C.2.1 dL_law_414 (by decide) ?_
                            refine lv_iadd C.1 C.2.1 dL_law_415 ?_
                            refine r_sc C hX hbl hbA hS hL (e1 i) (j := i + 1) (by omega) dL_law_416 ?_
                            refine r_callVI C hT hH hS (t := 3) (As := [.int (xs (i + 1))]) (fun z1 hz => c_X3_cheapest l D cA base x (xs (i + 1)) _ z1 hz) (cwV 1 C.2.2.2.2 gL_law_X3_cheapest rfl rfl rfl (by decide +kernel) ⟨Nat.le_of_ble_eq_true rfl, Nat.le_of_ble_eq_true rfl⟩) rfl (by decide) rfl hl.1 rfl (Nat.le_of_ble_eq_true rfl) dL_law_417 ⟨hroomC _ 0 (by omega), hroomS _ 0 (by omega)⟩ (bnd_rtI g1) (fun v1 mm H locs hH hS h => ?_)
                            cases h
                            refine lv_aload_n C.1 C.2.1 dL_law_420 rfl (lv_at hl 2 rfl) ?_
                            refine lv_aload_n C.1 C.2.1 dL_law_421 rfl (lv_at hl 0 rfl) ?_
                            refine lv_iload C.1 C.2.1 dL_law_422 (lv_at hl 4 rfl) ?_
                            refine lv_iconst (v := 1) C.1 C.2.1 dL_law_424 (by decide) ?_
                            refine lv_iadd C.1 C.2.1 dL_law_425 ?_
                            refine r_sc C hX hbl hbA hS hL (e1 i) (j := i + 1) (by omega) dL_law_426 ?_
                            refine r_callVI C hT hH hS (t := 4) (As := [.int (xs (i + 1))]) (fun z1 hz => c_X4_cheapest l D cA base q (xs (i + 1)) _ z1 hz) (cwV 1 C.2.2.2.2 gL_law_X4_cheapest rfl rfl rfl (by decide +kernel) ⟨Nat.le_of_ble_eq_true rfl, Nat.le_of_ble_eq_true rfl⟩) rfl (by decide) rfl hl.1 rfl (Nat.le_of_ble_eq_true rfl) dL_law_427 ⟨hroomC _ 0 (by omega), hroomS _ 0 (by omega)⟩ (bnd_rtI g2) (fun v2 mm H locs hH hS h => ?_)
                            cases h
                            refine lv_icmp_eq (tgt := 704) C.1 C.2.1 dL_law_430 (by decide) (fun hc => ?_) (fun hc => absurd rfl hc)
                            exact tl hiL _ _ _ _ _ _ hH hS hl hq (by omega) (by omega)
                          · rw [if_neg n10] at hq
                            by_cases n11 : xs i &&& 31 = 11
                            · rw [if_pos n11] at hq
                              refine lv_tableIn (tgt := 435) C.1 C.2.1 dL_law_39 (by rw [n11]; decide) (by rw [n11]; decide) (by rw [n11]; rfl) (by decide) ?_
                              obtain ⟨r, m1, m2, g1, g2, hq⟩ := hq
                              refine lv_aload_n C.1 C.2.1 dL_law_435 rfl (lv_at hl 1 rfl) ?_
                              refine r_callVI C hT hH hS (t := 3) (As := []) (fun z1 hz => c_X3_worst l D cA base x _ z1 hz) (cwV 0 C.2.2.2.2 gL_law_X3_worst rfl rfl rfl (by decide +kernel) ⟨Nat.le_of_ble_eq_true rfl, Nat.le_of_ble_eq_true rfl⟩) rfl (by decide) rfl hl.1 rfl (Nat.le_of_ble_eq_true rfl) dL_law_436 ⟨hroomC _ 0 (by omega), hroomS _ 0 (by omega)⟩ (bnd_rtI g1) (fun v1 mm H locs hH hS h => ?_)
                              cases h
                              refine lv_aload_n C.1 C.2.1 dL_law_439 rfl (lv_at hl 2 rfl) ?_
                              refine r_callVI C hT hH hS (t := 4) (As := []) (fun z1 hz => c_X4_worst l D cA base q _ z1 hz) (cwV 0 C.2.2.2.2 gL_law_X4_worst rfl rfl rfl (by decide +kernel) ⟨Nat.le_of_ble_eq_true rfl, Nat.le_of_ble_eq_true rfl⟩) rfl (by decide) rfl hl.1 rfl (Nat.le_of_ble_eq_true rfl) dL_law_440 ⟨hroomC _ 0 (by omega), hroomS _ 0 (by omega)⟩ (bnd_rtI g2) (fun v2 mm H locs hH hS h => ?_)
                              cases h
                              refine lv_icmp_eq (tgt := 704) C.1 C.2.1 dL_law_443 (by decide) (fun hc => ?_) (fun hc => absurd rfl hc)
                              exact tl hiL _ _ _ _ _ _ hH hS hl hq (by omega) (by omega)
                            · rw [if_neg n11] at hq
                              by_cases n12 : xs i &&& 31 = 12
                              · rw [if_pos n12] at hq
                                refine lv_tableIn (tgt := 448) C.1 C.2.1 dL_law_39 (by rw [n12]; decide) (by rw [n12]; decide) (by rw [n12]; rfl) (by decide) ?_
                                obtain ⟨r, m1, m2, g1, g2, hq⟩ := hq
                                refine lv_aload_n C.1 C.2.1 dL_law_448 rfl (lv_at hl 1 rfl) ?_
                                refine lv_aload_n C.1 C.2.1 dL_law_449 rfl (lv_at hl 0 rfl) ?_
                                refine lv_iload C.1 C.2.1 dL_law_450 (lv_at hl 4 rfl) ?_
                                refine lv_iconst (v := 1) C.1 C.2.1 dL_law_452 (by decide) ?_
                                refine lv_iadd C.1 C.2.1 dL_law_453 ?_
                                refine r_sc C hX hbl hbA hS hL (e1 i) (j := i + 1) (by omega) dL_law_454 ?_
                                refine lv_aload_n C.1 C.2.1 dL_law_455 rfl (lv_at hl 0 rfl) ?_
                                refine lv_iload C.1 C.2.1 dL_law_456 (lv_at hl 4 rfl) ?_
                                refine lv_iconst (v := 2) C.1 C.2.1 dL_law_458 (by decide) ?_
                                refine lv_iadd C.1 C.2.1 dL_law_459 ?_
                                refine r_sc C hX hbl hbA hS hL (e2 i) (j := i + 2) (by omega) dL_law_460 ?_
                                refine r_callVI C hT hH hS (t := 3) (As := [.int (xs (i + 1)), .int (xs (i + 2))]) (fun z1 hz => c_X3_begin l D cA base x (xs (i + 1)) (xs (i + 2)) _ z1 hz) (cwV 2 C.2.2.2.2 gL_law_X3_begin rfl rfl rfl (by decide +kernel) ⟨Nat.le_of_ble_eq_true rfl, Nat.le_of_ble_eq_true rfl⟩) rfl (by decide) rfl hl.1 rfl (Nat.le_of_ble_eq_true rfl) dL_law_461 ⟨hroomC _ 3 (by omega), hroomS _ 18 (by omega)⟩ (bnd_rtI g1) (fun v1 mm H locs hH hS h => ?_)
                                cases h
                                refine lv_aload_n C.1 C.2.1 dL_law_464 rfl (lv_at hl 2 rfl) ?_
                                refine lv_aload_n C.1 C.2.1 dL_law_465 rfl (lv_at hl 0 rfl) ?_
                                refine lv_iload C.1 C.2.1 dL_law_466 (lv_at hl 4 rfl) ?_
                                refine lv_iconst (v := 1) C.1 C.2.1 dL_law_468 (by decide) ?_
                                refine lv_iadd C.1 C.2.1 dL_law_469 ?_
                                refine r_sc C hX hbl hbA hS hL (e1 i) (j := i + 1) (by omega) dL_law_470 ?_
                                refine lv_aload_n C.1 C.2.1 dL_law_471 rfl (lv_at hl 0 rfl) ?_
                                refine lv_iload C.1 C.2.1 dL_law_472 (lv_at hl 4 rfl) ?_
                                refine lv_iconst (v := 2) C.1 C.2.1 dL_law_474 (by decide) ?_
                                refine lv_iadd C.1 C.2.1 dL_law_475 ?_
                                refine r_sc C hX hbl hbA hS hL (e2 i) (j := i + 2) (by omega) dL_law_476 ?_
                                refine r_callVI C hT hH hS (t := 4) (As := [.int (xs (i + 1)), .int (xs (i + 2))]) (fun z1 hz => c_X4_begin l D cA base q (xs (i + 1)) (xs (i + 2)) _ z1 hz) (cwV 2 C.2.2.2.2 gL_law_X4_begin rfl rfl rfl (by decide +kernel) ⟨Nat.le_of_ble_eq_true rfl, Nat.le_of_ble_eq_true rfl⟩) rfl (by decide) rfl hl.1 rfl (Nat.le_of_ble_eq_true rfl) dL_law_477 ⟨hroomC _ 0 (by omega), hroomS _ 0 (by omega)⟩ (bnd_rtI g2) (fun v2 mm H locs hH hS h => ?_)
                                cases h
                                refine lv_icmp_eq (tgt := 704) C.1 C.2.1 dL_law_480 (by decide) (fun hc => ?_) (fun hc => absurd rfl hc)
                                exact tl hiL _ _ _ _ _ _ hH hS hl hq (by omega) (by omega)
                              · rw [if_neg n12] at hq
                                by_cases n13 : xs i &&& 31 = 13
                                · rw [if_pos n13] at hq
                                  refine lv_tableIn (tgt := 485) C.1 C.2.1 dL_law_39 (by rw [n13]; decide) (by rw [n13]; decide) (by rw [n13]; rfl) (by decide) ?_
                                  obtain ⟨r, m1, m2, g1, g2, hq⟩ := hq
                                  refine lv_aload_n C.1 C.2.1 dL_law_485 rfl (lv_at hl 1 rfl) ?_
                                  refine lv_aload_n C.1 C.2.1 dL_law_486 rfl (lv_at hl 0 rfl) ?_
                                  refine lv_iload C.1 C.2.1 dL_law_487 (lv_at hl 4 rfl) ?_
                                  refine lv_iconst (v := 1) C.1 C.2.1 dL_law_489 (by decide) ?_
                                  refine lv_iadd C.1 C.2.1 dL_law_490 ?_
                                  refine r_sc C hX hbl hbA hS hL (e1 i) (j := i + 1) (by omega) dL_law_491 ?_
                                  refine r_callVI C hT hH hS (t := 3) (As := [.int (xs (i + 1))]) (fun z1 hz => c_X3_step l D cA base x (xs (i + 1)) _ z1 hz) (cwV 1 C.2.2.2.2 gL_law_X3_step rfl rfl rfl (by decide +kernel) ⟨Nat.le_of_ble_eq_true rfl, Nat.le_of_ble_eq_true rfl⟩) rfl (by decide) rfl hl.1 rfl (Nat.le_of_ble_eq_true rfl) dL_law_492 ⟨hroomC _ 5 (by omega), hroomS _ 408 (by omega)⟩ (bnd_rtI g1) (fun v1 mm H locs hH hS h => ?_)
                                  cases h
                                  refine lv_aload_n C.1 C.2.1 dL_law_495 rfl (lv_at hl 2 rfl) ?_
                                  refine lv_aload_n C.1 C.2.1 dL_law_496 rfl (lv_at hl 0 rfl) ?_
                                  refine lv_iload C.1 C.2.1 dL_law_497 (lv_at hl 4 rfl) ?_
                                  refine lv_iconst (v := 1) C.1 C.2.1 dL_law_499 (by decide) ?_
                                  refine lv_iadd C.1 C.2.1 dL_law_500 ?_
                                  refine r_sc C hX hbl hbA hS hL (e1 i) (j := i + 1) (by omega) dL_law_501 ?_
                                  refine r_callVI C hT hH hS (t := 4) (As := [.int (xs (i + 1))]) (fun z1 hz => c_X4_step l D cA base q (xs (i + 1)) _ z1 hz) (cwV 1 C.2.2.2.2 gL_law_X4_step rfl rfl rfl (by decide +kernel) ⟨Nat.le_of_ble_eq_true rfl, Nat.le_of_ble_eq_true rfl⟩) rfl (by decide) rfl hl.1 rfl (Nat.le_of_ble_eq_true rfl) dL_law_502 ⟨hroomC _ 0 (by omega), hroomS _ 0 (by omega)⟩ (bnd_rtI g2) (fun v2 mm H locs hH hS h => ?_)
                                  cases h
                                  refine lv_icmp_eq (tgt := 704) C.1 C.2.1 dL_law_505 (by decide) (fun hc => ?_) (fun hc => absurd rfl hc)
                                  exact tl hiL _ _ _ _ _ _ hH hS hl hq (by omega) (by omega)
                                · rw [if_neg n13] at hq
                                  by_cases n14 : xs i &&& 31 = 14
                                  · rw [if_pos n14] at hq
                                    refine lv_tableIn (tgt := 510) C.1 C.2.1 dL_law_39 (by rw [n14]; decide) (by rw [n14]; decide) (by rw [n14]; rfl) (by decide) ?_
                                    obtain ⟨r, m1, m2, g1, g2, hq⟩ := hq
                                    refine lv_aload_n C.1 C.2.1 dL_law_510 rfl (lv_at hl 1 rfl) ?_
                                    refine r_callVI C hT hH hS (t := 3) (As := []) (fun z1 hz => c_X3_stop l D cA base x _ z1 hz) (cwV 0 C.2.2.2.2 gL_law_X3_stop rfl rfl rfl (by decide +kernel) ⟨Nat.le_of_ble_eq_true rfl, Nat.le_of_ble_eq_true rfl⟩) rfl (by decide) rfl hl.1 rfl (Nat.le_of_ble_eq_true rfl) dL_law_511 ⟨hroomC _ 0 (by omega), hroomS _ 0 (by omega)⟩ (bnd_rtI g1) (fun v1 mm H locs hH hS h => ?_)
                                    cases h
                                    refine lv_aload_n C.1 C.2.1 dL_law_514 rfl (lv_at hl 2 rfl) ?_
                                    refine r_callVI C hT hH hS (t := 4) (As := []) (fun z1 hz => c_X4_stop l D cA base q _ z1 hz) (cwV 0 C.2.2.2.2 gL_law_X4_stop rfl rfl rfl (by decide +kernel) ⟨Nat.le_of_ble_eq_true rfl, Nat.le_of_ble_eq_true rfl⟩) rfl (by decide) rfl hl.1 rfl (Nat.le_of_ble_eq_true rfl) dL_law_515 ⟨hroomC _ 0 (by omega), hroomS _ 0 (by omega)⟩ (bnd_rtI g2) (fun v2 mm H locs hH hS h => ?_)
                                    cases h
                                    refine lv_icmp_eq (tgt := 704) C.1 C.2.1 dL_law_518 (by decide) (fun hc => ?_) (fun hc => absurd rfl hc)
                                    exact tl hiL _ _ _ _ _ _ hH hS hl hq (by omega) (by omega)
                                  · rw [if_neg n14] at hq
                                    by_cases n15 : xs i &&& 31 = 15
                                    · rw [if_pos n15] at hq
                                      refine lv_tableIn (tgt := 523) C.1 C.2.1 dL_law_39 (by rw [n15]; decide) (by rw [n15]; decide) (by rw [n15]; rfl) (by decide) ?_
                                      obtain ⟨r, m1, m2, g1, g2, hq⟩ := hq
                                      refine lv_aload_n C.1 C.2.1 dL_law_523 rfl (lv_at hl 1 rfl) ?_
                                      refine lv_aload_n C.1 C.2.1 dL_law_524 rfl (lv_at hl 0 rfl) ?_
                                      refine lv_iload C.1 C.2.1 dL_law_525 (lv_at hl 4 rfl) ?_
                                      refine lv_iconst (v := 1) C.1 C.2.1 dL_law_527 (by decide) ?_
                                      refine lv_iadd C.1 C.2.1 dL_law_528 ?_
                                      refine r_sc C hX hbl hbA hS hL (e1 i) (j := i + 1) (by omega) dL_law_529 ?_
                                      refine r_callVI C hT hH hS (t := 3) (As := [.int (xs (i + 1))]) (fun z1 hz => c_X3_merging l D cA base x (xs (i + 1)) _ z1 hz) (cwV 1 C.2.2.2.2 gL_law_X3_merging rfl rfl rfl (by decide +kernel) ⟨Nat.le_of_ble_eq_true rfl, Nat.le_of_ble_eq_true rfl⟩) rfl (by decide) rfl hl.1 rfl (Nat.le_of_ble_eq_true rfl) dL_law_530 ⟨hroomC _ 0 (by omega), hroomS _ 0 (by omega)⟩ (bnd_rtI g1) (fun v1 mm H locs hH hS h => ?_)
                                      cases h
                                      refine lv_aload_n C.1 C.2.1 dL_law_533 rfl (lv_at hl 2 rfl) ?_
                                      refine lv_aload_n C.1 C.2.1 dL_law_534 rfl (lv_at hl 0 rfl) ?_
                                      refine lv_iload C.1 C.2.1 dL_law_535 (lv_at hl 4 rfl) ?_
                                      refine lv_iconst (v := 1) C.1 C.2.1 dL_law_537 (by decide) ?_
                                      refine lv_iadd C.1 C.2.1 dL_law_538 ?_
                                      refine r_sc C hX hbl hbA hS hL (e1 i) (j := i + 1) (by omega) dL_law_539 ?_
                                      refine r_callVI C hT hH hS (t := 4) (As := [.int (xs (i + 1))]) (fun z1 hz => c_X4_merging l D cA base q (xs (i + 1)) _ z1 hz) (cwV 1 C.2.2.2.2 gL_law_X4_merging rfl rfl rfl (by decide +kernel) ⟨Nat.le_of_ble_eq_true rfl, Nat.le_of_ble_eq_true rfl⟩) rfl (by decide) rfl hl.1 rfl (Nat.le_of_ble_eq_true rfl) dL_law_540 ⟨hroomC _ 0 (by omega), hroomS _ 0 (by omega)⟩ (bnd_rtI g2) (fun v2 mm H locs hH hS h => ?_)
                                      cases h
                                      refine lv_icmp_eq (tgt := 704) C.1 C.2.1 dL_law_543 (by decide) (fun hc => ?_) (fun hc => absurd rfl hc)
                                      exact tl hiL _ _ _ _ _ _ hH hS hl hq (by omega) (by omega)
                                    · rw [if_neg n15] at hq
                                      by_cases n16 : xs i &&& 31 = 16
                                      · rw [if_pos n16] at hq
                                        refine lv_tableIn (tgt := 548) C.1 C.2.1 dL_law_39 (by rw [n16]; decide) (by rw [n16]; decide) (by rw [n16]; rfl) (by decide) ?_
                                        obtain ⟨r, m1, m2, g1, g2, hq⟩ := hq
                                        refine lv_aload_n C.1 C.2.1 dL_law_548 rfl (lv_at hl 1 rfl) ?_
                                        refine lv_aload_n C.1 C.2.1 dL_law_549 rfl (lv_at hl 0 rfl) ?_
                                        refine lv_iload C.1 C.2.1 dL_law_550 (lv_at hl 4 rfl) ?_
                                        refine lv_iconst (v := 1) C.1 C.2.1 dL_law_552 (by decide) ?_
                                        refine lv_iadd C.1 C.2.1 dL_law_553 ?_
                                        refine r_sc C hX hbl hbA hS hL (e1 i) (j := i + 1) (by omega) dL_law_554 ?_
                                        refine lv_aload_n C.1 C.2.1 dL_law_555 rfl (lv_at hl 0 rfl) ?_
                                        refine lv_iload C.1 C.2.1 dL_law_556 (lv_at hl 4 rfl) ?_
                                        refine lv_iconst (v := 2) C.1 C.2.1 dL_law_558 (by decide) ?_
                                        refine lv_iadd C.1 C.2.1 dL_law_559 ?_
                                        refine r_sc C hX hbl hbA hS hL (e2 i) (j := i + 2) (by omega) dL_law_560 ?_
                                        refine r_callVI C hT hH hS (t := 3) (As := [.int (xs (i + 1)), .int (xs (i + 2))]) (fun z1 hz => c_X3_moved l D cA base x (xs (i + 1)) (xs (i + 2)) _ z1 hz) (cwV 2 C.2.2.2.2 gL_law_X3_moved rfl rfl rfl (by decide +kernel) ⟨Nat.le_of_ble_eq_true rfl, Nat.le_of_ble_eq_true rfl⟩) rfl (by decide) rfl hl.1 rfl (Nat.le_of_ble_eq_true rfl) dL_law_561 ⟨hroomC _ 0 (by omega), hroomS _ 0 (by omega)⟩ (bnd_rtI g1) (fun v1 mm H locs hH hS h => ?_)
                                        cases h
                                        refine lv_aload_n C.1 C.2.1 dL_law_564 rfl (lv_at hl 2 rfl) ?_
                                        refine lv_aload_n C.1 C.2.1 dL_law_565 rfl (lv_at hl 0 rfl) ?_
                                        refine lv_iload C.1 C.2.1 dL_law_566 (lv_at hl 4 rfl) ?_
                                        refine lv_iconst (v := 1) C.1 C.2.1 dL_law_568 (by decide) ?_
                                        refine lv_iadd C.1 C.2.1 dL_law_569 ?_
                                        refine r_sc C hX hbl hbA hS hL (e1 i) (j := i + 1) (by omega) dL_law_570 ?_
                                        refine lv_aload_n C.1 C.2.1 dL_law_571 rfl (lv_at hl 0 rfl) ?_
                                        refine lv_iload C.1 C.2.1 dL_law_572 (lv_at hl 4 rfl) ?_
                                        refine lv_iconst (v := 2) C.1 C.2.1 dL_law_574 (by decide) ?_
                                        refine lv_iadd C.1 C.2.1 dL_law_575 ?_
                                        refine r_sc C hX hbl hbA hS hL (e2 i) (j := i + 2) (by omega) dL_law_576 ?_
                                        refine r_callVI C hT hH hS (t := 4) (As := [.int (xs (i + 1)), .int (xs (i + 2))]) (fun z1 hz => c_X4_moved l D cA base q (xs (i + 1)) (xs (i + 2)) _ z1 hz) (cwV 2 C.2.2.2.2 gL_law_X4_moved rfl rfl rfl (by decide +kernel) ⟨Nat.le_of_ble_eq_true rfl, Nat.le_of_ble_eq_true rfl⟩) rfl (by decide) rfl hl.1 rfl (Nat.le_of_ble_eq_true rfl) dL_law_577 ⟨hroomC _ 0 (by omega), hroomS _ 0 (by omega)⟩ (bnd_rtI g2) (fun v2 mm H locs hH hS h => ?_)
                                        cases h
                                        refine lv_icmp_eq (tgt := 704) C.1 C.2.1 dL_law_580 (by decide) (fun hc => ?_) (fun hc => absurd rfl hc)
                                        exact tl hiL _ _ _ _ _ _ hH hS hl hq (by omega) (by omega)
                                      · rw [if_neg n16] at hq
                                        by_cases n17 : xs i &&& 31 = 17
                                        · rw [if_pos n17] at hq
                                          refine lv_tableIn (tgt := 585) C.1 C.2.1 dL_law_39 (by rw [n17]; decide) (by rw [n17]; decide) (by rw [n17]; rfl) (by decide) ?_
                                          obtain ⟨r, m1, m2, g1, g2, hq⟩ := hq
                                          refine lv_aload_n C.1 C.2.1 dL_law_585 rfl (lv_at hl 1 rfl) ?_
                                          refine r_callVI C hT hH hS (t := 3) (As := []) (fun z1 hz => c_X3_view l D cA base x _ z1 hz) (cwV 0 C.2.2.2.2 gL_law_X3_view rfl rfl rfl (by decide +kernel) ⟨Nat.le_of_ble_eq_true rfl, Nat.le_of_ble_eq_true rfl⟩) rfl (by decide) rfl hl.1 rfl (Nat.le_of_ble_eq_true rfl) dL_law_586 ⟨hroomC _ 0 (by omega), hroomS _ 0 (by omega)⟩ (bnd_rtI g1) (fun v1 mm H locs hH hS h => ?_)
                                          cases h
                                          refine lv_aload_n C.1 C.2.1 dL_law_589 rfl (lv_at hl 2 rfl) ?_
                                          refine r_callVI C hT hH hS (t := 4) (As := []) (fun z1 hz => c_X4_view l D cA base q _ z1 hz) (cwV 0 C.2.2.2.2 gL_law_X4_view rfl rfl rfl (by decide +kernel) ⟨Nat.le_of_ble_eq_true rfl, Nat.le_of_ble_eq_true rfl⟩) rfl (by decide) rfl hl.1 rfl (Nat.le_of_ble_eq_true rfl) dL_law_590 ⟨hroomC _ 0 (by omega), hroomS _ 0 (by omega)⟩ (bnd_rtI g2) (fun v2 mm H locs hH hS h => ?_)
                                          cases h
                                          refine lv_icmp_eq (tgt := 704) C.1 C.2.1 dL_law_593 (by decide) (fun hc => ?_) (fun hc => absurd rfl hc)
                                          exact tl hiL _ _ _ _ _ _ hH hS hl hq (by omega) (by omega)
                                        · rw [if_neg n17] at hq
                                          by_cases n18 : xs i &&& 31 = 18
                                          · rw [if_pos n18] at hq
                                            refine lv_tableIn (tgt := 598) C.1 C.2.1 dL_law_39 (by rw [n18]; decide) (by rw [n18]; decide) (by rw [n18]; rfl) (by decide) ?_
                                            obtain ⟨r, m1, m2, g1, g2, hq⟩ := hq
                                            refine lv_aload_n C.1 C.2.1 dL_law_598 rfl (lv_at hl 1 rfl) ?_
                                            refine lv_aload_n C.1 C.2.1 dL_law_599 rfl (lv_at hl 0 rfl) ?_
                                            refine lv_iload C.1 C.2.1 dL_law_600 (lv_at hl 4 rfl) ?_
                                            refine lv_iconst (v := 1) C.1 C.2.1 dL_law_602 (by decide) ?_
                                            refine lv_iadd C.1 C.2.1 dL_law_603 ?_
                                            refine r_sc C hX hbl hbA hS hL (e1 i) (j := i + 1) (by omega) dL_law_604 ?_
                                            refine lv_aload_n C.1 C.2.1 dL_law_605 rfl (lv_at hl 0 rfl) ?_
                                            refine lv_iload C.1 C.2.1 dL_law_606 (lv_at hl 4 rfl) ?_
                                            refine lv_iconst (v := 2) C.1 C.2.1 dL_law_608 (by decide) ?_
                                            refine lv_iadd C.1 C.2.1 dL_law_609 ?_
                                            refine r_sc C hX hbl hbA hS hL (e2 i) (j := i + 2) (by omega) dL_law_610 ?_
                                            refine r_callVI C hT hH hS (t := 3) (As := [.int (xs (i + 1)), .int (xs (i + 2))]) (fun z1 hz => c_X3_seen l D cA base x (xs (i + 1)) (xs (i + 2)) _ z1 hz) (cwV 2 C.2.2.2.2 gL_law_X3_seen rfl rfl rfl (by decide +kernel) ⟨Nat.le_of_ble_eq_true rfl, Nat.le_of_ble_eq_true rfl⟩) rfl (by decide) rfl hl.1 rfl (Nat.le_of_ble_eq_true rfl) dL_law_611 ⟨hroomC _ 0 (by omega), hroomS _ 0 (by omega)⟩ (bnd_rtI g1) (fun v1 mm H locs hH hS h => ?_)
                                            cases h
                                            refine lv_aload_n C.1 C.2.1 dL_law_614 rfl (lv_at hl 2 rfl) ?_
                                            refine lv_aload_n C.1 C.2.1 dL_law_615 rfl (lv_at hl 0 rfl) ?_
                                            refine lv_iload C.1 C.2.1 dL_law_616 (lv_at hl 4 rfl) ?_
                                            refine lv_iconst (v := 1) C.1 C.2.1 dL_law_618 (by decide) ?_
                                            refine lv_iadd C.1 C.2.1 dL_law_619 ?_
                                            refine r_sc C hX hbl hbA hS hL (e1 i) (j := i + 1) (by omega) dL_law_620 ?_
                                            refine lv_aload_n C.1 C.2.1 dL_law_621 rfl (lv_at hl 0 rfl) ?_
                                            refine lv_iload C.1 C.2.1 dL_law_622 (lv_at hl 4 rfl) ?_
                                            refine lv_iconst (v := 2) C.1 C.2.1 dL_law_624 (by decide) ?_
                                            refine lv_iadd C.1 C.2.1 dL_law_625 ?_
                                            refine r_sc C hX hbl hbA hS hL (e2 i) (j := i + 2) (by omega) dL_law_626 ?_
                                            refine r_callVI C hT hH hS (t := 4) (As := [.int (xs (i + 1)), .int (xs (i + 2))]) (fun z1 hz => c_X4_seen l D cA base q (xs (i + 1)) (xs (i + 2)) _ z1 hz) (cwV 2 C.2.2.2.2 gL_law_X4_seen rfl rfl rfl (by decide +kernel) ⟨Nat.le_of_ble_eq_true rfl, Nat.le_of_ble_eq_true rfl⟩) rfl (by decide) rfl hl.1 rfl (Nat.le_of_ble_eq_true rfl) dL_law_627 ⟨hroomC _ 0 (by omega), hroomS _ 0 (by omega)⟩ (bnd_rtI g2) (fun v2 mm H locs hH hS h => ?_)
                                            cases h
                                            refine lv_icmp_eq (tgt := 704) C.1 C.2.1 dL_law_630 (by decide) (fun hc => ?_) (fun hc => absurd rfl hc)
                                            exact tl hiL _ _ _ _ _ _ hH hS hl hq (by omega) (by omega)
                                          · rw [if_neg n18] at hq
                                            by_cases n19 : xs i &&& 31 = 19
                                            · rw [if_pos n19] at hq
                                              refine lv_tableIn (tgt := 635) C.1 C.2.1 dL_law_39 (by rw [n19]; decide) (by rw [n19]; decide) (by rw [n19]; rfl) (by decide) ?_
                                              obtain ⟨r, m1, m2, g1, g2, hq⟩ := hq
                                              refine lv_aload_n C.1 C.2.1 dL_law_635 rfl (lv_at hl 1 rfl) ?_
                                              refine lv_aload_n C.1 C.2.1 dL_law_636 rfl (lv_at hl 0 rfl) ?_
                                              refine lv_iload C.1 C.2.1 dL_law_637 (lv_at hl 4 rfl) ?_
                                              refine lv_iconst (v := 1) C.1 C.2.1 dL_law_639 (by decide) ?_
                                              refine lv_iadd C.1 C.2.1 dL_law_640 ?_
                                              refine r_sc C hX hbl hbA hS hL (e1 i) (j := i + 1) (by omega) dL_law_641 ?_
                                              refine r_callVI C hT hH hS (t := 3) (As := [.int (xs (i + 1))]) (fun z1 hz => c_X3_shut l D cA base x (xs (i + 1)) _ z1 hz) (cwV 1 C.2.2.2.2 gL_law_X3_shut rfl rfl rfl (by decide +kernel) ⟨Nat.le_of_ble_eq_true rfl, Nat.le_of_ble_eq_true rfl⟩) rfl (by decide) rfl hl.1 rfl (Nat.le_of_ble_eq_true rfl) dL_law_642 ⟨hroomC _ 0 (by omega), hroomS _ 0 (by omega)⟩ (bnd_rtI g1) (fun v1 mm H locs hH hS h => ?_)
                                              cases h
                                              refine lv_aload_n C.1 C.2.1 dL_law_645 rfl (lv_at hl 2 rfl) ?_
                                              refine lv_aload_n C.1 C.2.1 dL_law_646 rfl (lv_at hl 0 rfl) ?_
                                              refine lv_iload C.1 C.2.1 dL_law_647 (lv_at hl 4 rfl) ?_
                                              refine lv_iconst (v := 1) C.1 C.2.1 dL_law_649 (by decide) ?_
                                              refine lv_iadd C.1 C.2.1 dL_law_650 ?_
                                              refine r_sc C hX hbl hbA hS hL (e1 i) (j := i + 1) (by omega) dL_law_651 ?_
                                              refine r_callVI C hT hH hS (t := 4) (As := [.int (xs (i + 1))]) (fun z1 hz => c_X4_shut l D cA base q (xs (i + 1)) _ z1 hz) (cwV 1 C.2.2.2.2 gL_law_X4_shut rfl rfl rfl (by decide +kernel) ⟨Nat.le_of_ble_eq_true rfl, Nat.le_of_ble_eq_true rfl⟩) rfl (by decide) rfl hl.1 rfl (Nat.le_of_ble_eq_true rfl) dL_law_652 ⟨hroomC _ 0 (by omega), hroomS _ 0 (by omega)⟩ (bnd_rtI g2) (fun v2 mm H locs hH hS h => ?_)
                                              cases h
                                              refine lv_icmp_eq (tgt := 704) C.1 C.2.1 dL_law_655 (by decide) (fun hc => ?_) (fun hc => absurd rfl hc)
                                              exact tl hiL _ _ _ _ _ _ hH hS hl hq (by omega) (by omega)
                                            · rw [if_neg n19] at hq
                                              by_cases n20 : xs i &&& 31 = 20
                                              · rw [if_pos n20] at hq
                                                refine lv_tableIn (tgt := 660) C.1 C.2.1 dL_law_39 (by rw [n20]; decide) (by rw [n20]; decide) (by rw [n20]; rfl) (by decide) ?_
                                                obtain ⟨k, m1, g1, hq⟩ := hq
                                                refine lv_aload_n C.1 C.2.1 dL_law_660 rfl (lv_at hl 1 rfl) ?_
                                                refine lv_aload_n C.1 C.2.1 dL_law_661 rfl (lv_at hl 3 rfl) ?_
                                                refine r_shareL hl0 C hT hXX hH hS gL_law_L_share ⟨by decide, by decide⟩ hl.1 (Nat.le_of_ble_eq_true rfl) dL_law_662 ⟨hroomC _ 1 (by omega), hroomS _ 6 (by omega)⟩ g1 (fun nn H locs hnn hH hS => ?_)
                                                obtain ⟨bb, m2, m3, g2, g3, g4, hq⟩ := hq nn hnn
                                                refine lv_istore (lv' := [(5, .int k), (0, .ref b), (1, .ref x), (2, .ref q), (3, .ref o), (4, .int (nI i))]) C.1 C.2.1 dL_law_665 hl (by decide) rfl (fun ls hl => ?_)
                                                refine lv_aload_n C.1 C.2.1 dL_law_667 rfl (lv_at hl 3 rfl) ?_
                                                refine r_callVI C hT hH hS (t := 4) (As := []) (fun z1 hz => c_X4_share l D cA base q _ z1 hz) (cwV 0 C.2.2.2.2 gL_law_X4_share rfl rfl rfl (by decide +kernel) ⟨Nat.le_of_ble_eq_true rfl, Nat.le_of_ble_eq_true rfl⟩) rfl (by decide) rfl hl.1 rfl (Nat.le_of_ble_eq_true rfl) dL_law_668 ⟨hroomC _ 0 (by omega), hroomS _ 0 (by omega)⟩ (bnd_rtI g2) (fun v1 mm H locs hH hS h => ?_)
                                                cases h
                                                refine lv_istore (lv' := [(6, .int bb), (5, .int k), (0, .ref b), (1, .ref x), (2, .ref q), (3, .ref o), (4, .int (nI i))]) C.1 C.2.1 dL_law_671 hl (by decide) rfl (fun ls hl => ?_)
                                                refine lv_aload_n C.1 C.2.1 dL_law_673 rfl (lv_at hl 4 rfl) ?_
                                                refine r_callVI C hT hH hS (t := 4) (As := []) (fun z1 hz => c_X4_thrown l D cA base q _ z1 hz) (cwV 0 C.2.2.2.2 gL_law_X4_thrown rfl rfl rfl (by decide +kernel) ⟨Nat.le_of_ble_eq_true rfl, Nat.le_of_ble_eq_true rfl⟩) rfl (by decide) rfl hl.1 rfl (Nat.le_of_ble_eq_true rfl) dL_law_674 ⟨hroomC _ 0 (by omega), hroomS _ 0 (by omega)⟩ (bnd_rtI g3) (fun v2 mm H locs hH hS h => ?_)
                                                cases h
                                                refine lv_iload C.1 C.2.1 dL_law_677 (lv_at hl 1 rfl) ?_
                                                refine lv_icmp_eq (tgt := 684) C.1 C.2.1 dL_law_679 (by decide) (fun hc => ?_) (fun hc => absurd rfl hc)
                                                refine lv_iload C.1 C.2.1 dL_law_684 (lv_at hl 1 rfl) ?_
                                                refine lv_if_ne (tgt := 701) C.1 C.2.1 dL_law_686 (by decide) (fun hc => ?_) (fun hc => ?_)
                                                · refine lv_goto (tgt := 704) C.1 C.2.1 dL_law_701 (by decide) ?_
                                                  exact tl hiL _ _ _ _ _ _ hH hS (lv_sub hl [2, 3, 4, 5, 6] rfl) hq (by omega) (by omega)
                                                · refine lv_aload_n C.1 C.2.1 dL_law_689 rfl (lv_at hl 5 rfl) ?_
                                                  refine lv_iconst (v := 0) C.1 C.2.1 dL_law_690 (by decide) ?_
                                                  refine r_lJ C hT hH dL_law_691 (bnd_rtI (g4 hc)) (fun v3 h => ?_)
                                                  cases h
                                                  refine lv_iload C.1 C.2.1 dL_law_692 (lv_at hl 0 rfl) ?_
                                                  refine lv_i2l (v := Int32.toInt64 bb) C.1 C.2.1 dL_law_694 rfl ?_
                                                  refine W.lcmp C.1 C.2.1 dL_law_695 ?_
                                                  refine lv_if_eq (tgt := 701) C.1 C.2.1 dL_law_696 (by decide) (fun hc => ?_) (fun hc => absurd (lg_self _) hc)
                                                  refine lv_goto (tgt := 704) C.1 C.2.1 dL_law_701 (by decide) ?_
                                                  exact tl hiL _ _ _ _ _ _ hH hS (lv_sub hl [2, 3, 4, 5, 6] rfl) hq (by omega) (by omega)
                                              · rw [if_neg n20] at hq
                                                have g0 := lv_neT n0 (a := 0) rfl
                                                have g1 := lv_neT n1 (a := 1) rfl
                                                have g2 := lv_neT n2 (a := 2) rfl
                                                have g3 := lv_neT n3 (a := 3) rfl
                                                have g4 := lv_neT n4 (a := 4) rfl
                                                have g5 := lv_neT n5 (a := 5) rfl
                                                have g6 := lv_neT n6 (a := 6) rfl
                                                have g7 := lv_neT n7 (a := 7) rfl
                                                have g8 := lv_neT n8 (a := 8) rfl
                                                have g9 := lv_neT n9 (a := 9) rfl
                                                have g10 := lv_neT n10 (a := 10) rfl
                                                have g11 := lv_neT n11 (a := 11) rfl
                                                have g12 := lv_neT n12 (a := 12) rfl
                                                have g13 := lv_neT n13 (a := 13) rfl
                                                have g14 := lv_neT n14 (a := 14) rfl
                                                have g15 := lv_neT n15 (a := 15) rfl
                                                have g16 := lv_neT n16 (a := 16) rfl
                                                have g17 := lv_neT n17 (a := 17) rfl
                                                have g18 := lv_neT n18 (a := 18) rfl
                                                have g19 := lv_neT n19 (a := 19) rfl
                                                have g20 := lv_neT n20 (a := 20) rfl
                                                refine lv_tableOut (tgt := 704) C.1 C.2.1 dL_law_39 (by omega) (by decide) ?_
                                                exact tl hiL _ _ _ _ _ _ hH hS hl hq (by omega) (by omega)
