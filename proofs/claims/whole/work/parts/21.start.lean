/-! The law from its entry; what is left to show of the functions is the hypothesis hok -/
def LawOK : Prop := ∀ (base L : Nat) (xs : Nat → Int32), L ≤ 2048 → ∃ x q o m, f_start (m00 base) = some ((x, q, o), m) ∧ lawP x q o xs L 600 0 m
theorem mH_00 {D : va_G} {cA : Nat → ClassId} {H : Heap} : mH D cA H.size (m00 H.size) H := ⟨rfl, Nat.le_refl _, fun a ha => absurd ha (by show ¬ 10 < 10; omega), fun a => ⟨fun h => absurd h (by show ¬ 10 < 5; omega), fun _ h => absurd h (by show ¬ 10 < 10; omega)⟩⟩
set_option maxHeartbeats 8000000 in
set_option maxRecDepth 100000 in
theorem whole_start_open (hok : LawOK) {p : Program} {e : Env} {s : State} {m : MethodId} {below : List Frame} {meth : Method} {c : Code} (l : Launch) (hl0 : l.stackTraces = false) {b L : Nat} {xs : Nat → Int32} (hL : L ≤ 2048) (C0 : lw_At p s m meth c b L xs) : W p l e room_1 s m #[Value.ref b] below meth c s.heap [] 0 0 (lw_Z below #[Value.ref b] s) (entryFrame m ([Value.ref b] : List Value).toArray 7) := by
  obtain ⟨hx, hb, hr, hml, hown, hts0, hX, hbl, hlocks, hgv⟩ := id C0
  have hflat := flat_of_before _ hgv
  have hts : ∀ w ∈ wsL_law, w.before #[Value.ref b] s = true := fun w h => hts0 w (wsL_law_in w h)
  have C : CallFix p m c code 7 s #[Value.ref b] wsL_law RL := ⟨hx, hb, hml, hown, hts⟩
  obtain ⟨c0, iS0, hKn0⟩ := u_known (C := RX0) (T := TX0) (N := 3) (n := 3) hts0 inX0 (hts0 (.instantiable RX0 3) (by decide +kernel))
  obtain ⟨c1, iS1, hKn1⟩ := u_known (C := RX1) (T := TX1) (N := 6) (n := 6) hts0 inX1 (hts0 (.instantiable RX1 6) (by decide +kernel))
  obtain ⟨c2, iS2, hKn2⟩ := u_known (C := RX2) (T := TX2) (N := 8) (n := 8) hts0 inX2 (hts0 (.instantiable RX2 8) (by decide +kernel))
  obtain ⟨c3, iS3, hKn3⟩ := u_known (C := RX3) (T := TX3) (N := 11) (n := 11) hts0 inX3 (hts0 (.instantiable RX3 11) (by decide +kernel))
  obtain ⟨c4, iS4, hKn4⟩ := u_known (C := RX4) (T := TX4) (N := 34) (n := 34) hts0 inX4 (hts0 (.instantiable RX4 34) (by decide +kernel))
  obtain ⟨a5, k5, p5, h51, h52, h53⟩ := Cond.arrayClass_spec (hts0 (.arrayClass .int) (by decide +kernel))
  obtain ⟨a6, k6, p6, h61, h62, h63⟩ := Cond.arrayClass_spec (hts0 (.arrayClass .boolean) (by decide +kernel))
  obtain ⟨a9, k9, p9, h91, h92, h93⟩ := Cond.arrayClass_spec (hts0 (.arrayClass .long) (by decide +kernel))
  have hAO := hts0 (.arrayOver (.object "SegmentMerges$Segment")) (by decide +kernel)
  have hAA := hts0 (.arrayOver (.array .int)) (by decide +kernel)
  obtain ⟨p7, a7, k7, h71, h72, h73, h74, h75⟩ := Cond.arrayOver_spec hAO
  obtain ⟨p8, a8, k8, h81, h82, h83, h84, h85⟩ := arrayOverA_spec hAA
  obtain ⟨D, hD⟩ : ∃ D : va_G, D = (fun k => if k = 0 then c0 else if k = 1 then c1 else if k = 2 then c2 else if k = 3 then c3 else c4, fun k => if k = 0 then iS0 else if k = 1 then iS1 else if k = 2 then iS2 else if k = 3 then iS3 else iS4) := ⟨_, rfl⟩
  obtain ⟨cA, hcA⟩ : ∃ cA : Nat → ClassId, cA = fun t => if t = 5 then a5 else if t = 6 then a6 else if t = 7 then a7 else if t = 8 then a8 else a9 := ⟨_, rfl⟩
  have hT : mT D cA s := by
    refine ⟨fun k q hq => ?_, fun t h1 h2 => ?_, hAO, hAA, va_Nw.of rfl (hts0 (.methodLinkNest RX3 15 yX0_init RX3) (by decide +kernel))⟩
    · subst hD
      match k, hq with
      | 0, hq => cases hq; exact hKn0
      | 1, hq => cases hq; exact hKn1
      | 2, hq => cases hq; exact hKn2
      | 3, hq => cases hq; exact hKn3
      | 4, hq => cases hq; exact hKn4
      | k + 5, hq => simp [vwCl] at hq
    · subst hcA
      rcases (show t = 5 ∨ t = 6 ∨ t = 7 ∨ t = 8 ∨ t = 9 by omega) with rfl | rfl | rfl | rfl | rfl
      · exact ⟨fun n z => ⟨fun k h => (by cases h), k5, h52, p5, h53⟩, h51⟩
      · exact ⟨fun n z => ⟨fun k h => (by cases h), k6, h62, p6, h63⟩, h61⟩
      · exact ⟨fun n z => ⟨fun k h => (by cases h), k7, h73, p7, h74⟩, ⟨k7, p7, h73, h74, h71, h75⟩⟩
      · exact ⟨fun n z => ⟨fun k h => (by cases h), k8, h83, p8, h84⟩, h85⟩
      · exact ⟨fun n z => ⟨fun k h => (by cases h), k9, h92, p9, h93⟩, h91⟩
  have hA0 : ∀ a : Nat, a < s.heap.size → ¬ mA s.heap.size a := fun a h => Nat.not_le.mpr h
  have hstr := hts0 (.stringRef RX3 176 "there are no rows in segments") (by decide +kernel)
  obtain ⟨kS, cfS, iSS, sa, -, -, -, -, -, hsa⟩ := Cond.stringRef_spec hKn3.2.1 hstr
  have hXX : mX s.heap.size sa s := ⟨va_Nw.of rfl (hts0 _ (by decide +kernel)), va_Nw.of rfl (hts0 _ (by decide +kernel)), va_Nw.of rfl (hts0 _ (by decide +kernel)), va_Nw.of rfl (hts0 _ (by decide +kernel)), vk_R.of (A := #[Value.ref b]) hstr hsa, vx_Zqof (hts0 _ (by decide +kernel)) (hts0 _ (by decide +kernel)) (hflat _ (by decide +kernel)) hA0, vx_Zqof (hts0 _ (by decide +kernel)) (hts0 _ (by decide +kernel)) (hflat _ (by decide +kernel)) hA0⟩
  have hbA : ¬ mA s.heap.size b := Nat.not_le.mpr hbl
  obtain ⟨x, q, o, m9, hst, hlaw⟩ := hok s.heap.size L xs hL
  have hS : va_S (mA s.heap.size) s.heap s.heap [] := va_S.rf
  have hH : mH D cA s.heap.size (m00 s.heap.size) s.heap := mH_00
  have hl := lv_entry ([.ref b]) (n := 7) (Nat.le_of_ble_eq_true rfl)
  rw [lg_entry_eq]
  generalize (lg_sl ([.ref b]) ++ List.replicate (7 - (lg_sl ([.ref b])).length) Slot.unset).toArray = ls at hl ⊢
  have hl : lv_has ls 7 [(0, .ref b)] := hl
  have h := hst
  unfold f_start at h
  refine r_nO C hT hH hS (t := 3) (T := TX3) rfl inlX3 tyX3_ok (by decide) dfX3 (by decide +kernel) (by decide +kernel) (by decide +kernel) (by decide) (by decide) dL_law_0 h (fun b1 mm H hH hS h => ?_)
  refine lv_dup C.1 C.2.1 dL_law_3 rfl ?_
  refine r_callI C hT hH hS (b := b1) (As := []) (fun z1 hz => c_X3_init l D cA s.heap.size b1 _ z1 hz) (cwI 0 C.2.2.2.2 gL_law_X3_init rfl rfl rfl (C.2.2.2.2 _ (by decide +kernel)) (C.2.2.2.2 _ (by decide +kernel)) (C.2.2.2.2 _ (by decide +kernel)) rfl (by decide +kernel) ⟨Nat.le_of_ble_eq_true rfl, Nat.le_of_ble_eq_true rfl⟩) rfl hl.1 rfl (Nat.le_of_ble_eq_true rfl) dL_law_4 ⟨by decide, by decide⟩ h (fun _ mm H locs hH hS h => ?_)
  refine lv_astore_n (lv' := [(1, .ref b1), (0, .ref b)]) C.1 C.2.1 dL_law_7 rfl hl (by decide) rfl (fun ls hl => ?_)
  refine r_nO C hT hH hS (t := 4) (T := TX4) rfl inlX4 tyX4_ok (by decide) dfX4 (by decide +kernel) (by decide +kernel) (by decide +kernel) (by decide) (by decide) dL_law_8 h (fun b2 mm H hH hS h => ?_)
  refine lv_dup C.1 C.2.1 dL_law_11 rfl ?_
  refine r_callI C hT hH hS (b := b2) (As := []) (fun z1 hz => c_X4_init l D cA s.heap.size b2 _ z1 hz) (cwI 0 C.2.2.2.2 gL_law_X4_init rfl rfl rfl (C.2.2.2.2 _ (by decide +kernel)) (C.2.2.2.2 _ (by decide +kernel)) (C.2.2.2.2 _ (by decide +kernel)) rfl (by decide +kernel) ⟨Nat.le_of_ble_eq_true rfl, Nat.le_of_ble_eq_true rfl⟩) rfl hl.1 rfl (Nat.le_of_ble_eq_true rfl) dL_law_12 ⟨by decide, by decide⟩ h (fun _ mm H locs hH hS h => ?_)
  refine lv_astore_n (lv' := [(2, .ref b2), (1, .ref b1), (0, .ref b)]) C.1 C.2.1 dL_law_15 rfl hl (by decide) rfl (fun ls hl => ?_)
  refine lv_iconst (v := 1) C.1 C.2.1 dL_law_16 (by decide) ?_
  refine r_nA C hT hH hS (t := 9) (B := 1) (by decide) rfl (by decide +kernel) (by decide) (by decide) (by decide) dL_law_17 h (fun b3 mm H hH hS h => ?_)
  refine lv_astore_n (lv' := [(3, .ref b3), (2, .ref b2), (1, .ref b1), (0, .ref b)]) C.1 C.2.1 dL_law_19 rfl hl (by decide) rfl (fun ls hl => ?_)
  refine lv_iconst (v := 0) C.1 C.2.1 dL_law_20 (by decide) ?_
  refine lv_istore (lv' := [(4, .int 0), (3, .ref b3), (2, .ref b2), (1, .ref b1), (0, .ref b)]) C.1 C.2.1 dL_law_21 hl (by decide) rfl (fun ls hl => ?_)
  cases h
  refine W.widen (k := 601024 - 10 * 600) (n := 7293034 - 1000 * 600) (by decide) (by decide) ?_
  exact law_loop hl0 hL C hr hlocks hT hXX hX hbl hbA rfl 600 0 _ _ _ _ (by decide) (Nat.zero_le _) hH hS (lv_sub hl [4, 3, 2, 1, 0] rfl) hlaw
