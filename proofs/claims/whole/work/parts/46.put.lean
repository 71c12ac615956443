/-! put, drop -/
section OPP
variable {X c : Nat} {m : Mem}
theorem Inv_key {nS nn : Nat} {us : Nat → Bool} {od sa sz num ti : Nat → Nat} {rk : Nat → Nat → Nat} {rv : Nat → Nat → Int32} {lv : Nat → Nat → Bool} {v : Nat → Int32} {nM : Nat} {mk : Nat → Nat} {loc : Nat → Option (Nat × Nat)} {tt : Nat → Nat} {gn ca : Nat} {S : Nat → Nat → Prop} {m2 : Mem} {k : Nat} {v2 : Nat → Int32} {nM2 : Nat} {mk2 : Nat → Nat}
    (hL : SL X m) (hw : IW X m) (hIS : IS X c nS nn us od sa sz num ti rk rv m) (hIL : IL X us sa sz rk lv v nM mk loc tt m) (hIG : IG X c nS gn ca us od sa sz rk rv lv tt m) (hID : ID X c gn ca us sa m) (hk : k < 100) (hA : Ag S m m2)
    (hS : ∀ b j, S b j → killS us sa b j ∨ b = X + 1 ∨ b = X + 3 ∨ b = X + 4 ∨ (b = X + 2 ∧ j = 2) ∨ b = X + 13 ∨ b = X + 14 ∨ b = X + 15 ∨ b = X + 16 ∨ b = X + 17 ∨ (b = X + 12 ∧ (j = 0 ∨ j = 5)) ∨ b = X + 25)
    (hRV : RV X v2 m2) (hok : okV (v2 k)) (hv : ∀ j, j ≠ k → v2 j = v j) (hRM : RM X v2 nM2 mk2 m2) (wm2 : WM nM2 mk2) (hx : ∀ a, a ≠ k → ((∃ j, j < nM2 ∧ mk2 j = a) ↔ ∃ j, j < nM ∧ mk j = a)) (hvk : v2 k ≠ -1 ↔ ∃ j, j < nM2 ∧ mk2 j = k)
    (hlv : RLv X us sa sz (fun s => killed (lv s) (rk s) k) m2) (hlo : RLo X (va_up loc k none) (va_up tt k (tt k + 1)) m2) : Inv X (c + 1) m2 := by
  obtain ⟨s1, s2, s3, s4, s5, F, rn, wn⟩ := hIS
  obtain ⟨l1, l2, l3, l4, l5, l6, l7⟩ := hIL
  obtain ⟨gp, gt, gw, gl, ga, gg, wk, wi, nk, nv, nt, hRG, hWG⟩ := hIG
  obtain ⟨dn, da, ea, dm, er, dg, hRD, hWD⟩ := hID
  have hz := hA.2.2.2.1
  have hsa : ∀ s, us s = true → X + 37 ≤ sa s := fun s hs => (s5.1 s hs).1
  have hst : ∀ b j, b < X + 37 → ¬ (b = X + 1 ∨ b = X + 3 ∨ b = X + 4 ∨ (b = X + 2 ∧ j = 2) ∨ b = X + 13 ∨ b = X + 14 ∨ b = X + 15 ∨ b = X + 16 ∨ b = X + 17 ∨ (b = X + 12 ∧ (j = 0 ∨ j = 5)) ∨ b = X + 25) → ¬ S b j := fun b j hb q z => by
    rcases hS b j z with ⟨s, hs, g⟩ | g
    · have := hsa s hs
      omega
    · exact q g
  have hdy : ∀ b j, X + 37 ≤ b → (∀ s, us s = true → ¬ (b = sa s ∧ j = 7) ∧ b ≠ sa s + 3) → ¬ S b j := fun b j hb q z => by
    rcases hS b j z with ⟨s, hs, g⟩ | g
    · have := q s hs
      omega
    · omega
  have hbk : ∀ s j, us s = true → j < 5 → j ≠ 0 → j ≠ 3 → ∀ i, ¬ S (sa s + j) i := fun s j hs hj h0 h3 i => by
    refine hdy _ _ (by have := hsa s hs; omega) (fun r hr => ?_)
    by_cases e : s = r
    · subst e
      exact ⟨by omega, by omega⟩
    · have := s5.2 s r hs hr e
      unfold dj at this
      exact ⟨by omega, by omega⟩
  have hb0 : ∀ s i, us s = true → i ≠ 7 → ¬ S (sa s) i := fun s i hs h7 => by
    refine hdy _ _ (hsa s hs) (fun r hr => ?_)
    by_cases e : s = r
    · subst e
      exact ⟨by omega, by omega⟩
    · have := s5.2 s r hs hr e
      unfold dj at this
      exact ⟨by omega, by omega⟩
  refine ⟨hA.SL hL, hA.IW hw (fun k => ⟨hst _ _ (by omega) (by omega), hst _ _ (by omega) (by omega), hst _ _ (by omega) (by omega), fun w hw => hst _ _ (by omega) (by omega)⟩), nS, nn, us, od, sa, sz, num, ti, rk, rv, fun s => killed (lv s) (rk s) k, v2, nM2, mk2, va_up loc k none, va_up tt k (tt k + 1), gn, ca, ⟨hA.RO s1 ⟨fun k => ⟨hst _ _ (by omega) (by omega), hst _ _ (by omega) (by omega)⟩, hst _ _ (by omega) (by omega), hst _ _ (by omega) (by omega)⟩, hA.RS s2 (fun k => ⟨hst _ _ (by omega) (by omega), hst _ _ (by omega) (by omega), hst _ _ (by omega) (by omega), hst _ _ (by omega) (by omega), hst _ _ (by omega) (by omega)⟩) (fun s hs => ⟨fun i => ⟨hbk s 1 hs (by decide) (by decide) (by decide) i, hbk s 2 hs (by decide) (by decide) (by decide) i⟩, hb0 s 0 hs (by decide), hb0 s 1 hs (by decide), hb0 s 2 hs (by decide)⟩), s3, s4, by rw [hz]; exact s5, F, hA.RN rn ⟨⟨hst _ _ (by omega) (by omega), hst _ _ (by omega) (by omega), hst _ _ (by omega) (by omega)⟩, hst _ _ (by omega) (by omega), hst _ _ (by omega) (by omega), hst _ _ (by omega) (by omega)⟩, Nat.le_succ_of_le wn.1, wn.2.1, fun s hs => ⟨(wn.2.2.1 s hs).1, Nat.le_succ_of_le (wn.2.2.1 s hs).2⟩, wn.2.2.2⟩, ⟨hRV, fun j hj => ?_, hRM, wm2, hlv, hlo, ?_⟩, ⟨gp, gt, gw, gl, ga, gg, wk, wi, nk, nv, nt, ?_, ?_⟩, ⟨dn, da, ea, dm, er, dg, ?_, ?_⟩⟩
  · by_cases e : j = k
    · rw [e]; exact hok
    · rw [hv j e]; exact l2 j hj
  · obtain ⟨w1, w2, w3, w4⟩ := l7
    refine ⟨fun a s i ha hl => ?_, fun s i hs hi hl => ?_, fun a ha => ?_, fun j hj => ?_⟩
    · by_cases e : a = k
      · rw [e, va_s] at hl; cases hl
      · rw [va_n e] at hl
        obtain ⟨x1, x2, x3, x4, x5⟩ := w1 a s i ha hl
        exact ⟨x1, x2, x3, x4, killed_t.mpr ⟨x5, by rw [x4]; exact e⟩⟩
    · obtain ⟨x1, x2⟩ := killed_t.mp hl
      rw [va_n x2]
      exact w2 s i hs hi x1
    · by_cases e : a = k
      · rw [e, hvk, va_s]
        exact ⟨Or.inl, fun q => q.resolve_right (fun z => z rfl)⟩
      · rw [hv a e, va_n e, hx a e]
        exact w3 a ha
    · by_cases e : mk2 j = k
      · rw [e, va_s]
      · rw [va_n e]
        obtain ⟨i, hi, he⟩ := (hx _ e).mp ⟨j, hj, rfl⟩
        rw [← he]
        exact w4 i hi
  · refine hA.RG hRG ⟨hst _ _ (by omega) (by omega), hst _ _ (by omega) (by omega), hst _ _ (by omega) (by omega), hst _ _ (by omega) (by omega)⟩ (fun k => ⟨hst _ _ (by omega) (by omega), hst _ _ (by omega) (by omega), hst _ _ (by omega) (by omega), hst _ _ (by omega) (by omega), hst _ _ (by omega) (by omega)⟩) (fun q => ?_) (fun q j i hj => ?_)
    · rcases hWG.2 with g | ⟨-, -, ⟨g1, g2, g3⟩, -⟩
      · omega
      · have hcc : ∀ j i, j < 3 → ¬ S (ca + j) i := fun j i hj => hdy _ _ (by omega) (fun r hr => by
          have := g3 r hr
          unfold dj at this
          exact ⟨by omega, by omega⟩)
        exact ⟨fun i => hcc 2 i (by decide), hcc 0 0 (by decide), hcc 0 3 (by decide), hcc 0 4 (by decide), hcc 0 5 (by decide)⟩
    · rcases hWG.2 with g | ⟨g, -⟩
      · omega
      · exact hbk _ 4 (s3.2.1 (gp + j) (by omega)).2 (by decide) (by decide) (by decide) i
  · rw [hz]
    obtain ⟨t1, t2⟩ := hWG
    refine ⟨fun a ha => ?_, ?_⟩
    · by_cases e : a = k
      · rw [e, va_s]; have := t1 k hk; omega
      · rw [va_n e]; have := t1 a ha; omega
    · rcases t2 with g | ⟨g1, g2, g3, g4, g5, g6, g7, g8, g9⟩
      · exact Or.inl g
      · refine Or.inr ⟨g1, g2, g3, g4, fun j hj => ?_, g6, g7, fun j a i hj ha h1 h2 h3 => ?_, fun a i ha hi hl => g9 a i ha hi (killed_t.mp hl).1⟩
        · obtain ⟨y1, y2, y3, y4, y5, y6, y7⟩ := g5 j hj
          refine ⟨y1, y2, y3, y4, y5, ?_, ?_⟩
          · by_cases e : nk j = k
            · rw [e, va_s]; rw [e] at y6; omega
            · rw [va_n e]; exact y6
          · by_cases e : nk j = k
            · have k1 : killed (lv (od (gp + wk j))) (rk (od (gp + wk j))) k (wi j) = false := killed_f (by rw [← y4]; exact e)
              show killed (lv (od (gp + wk j))) (rk (od (gp + wk j))) k (wi j) = true ↔ _
              rw [k1, e, va_s]
              rw [e] at y6
              exact ⟨fun q => absurd q (by decide), fun q => by omega⟩
            · have k1 : killed (lv (od (gp + wk j))) (rk (od (gp + wk j))) k (wi j) = lv (od (gp + wk j)) (wi j) := killed_n (fun _ => by rw [← y4]; exact e)
              show killed (lv (od (gp + wk j))) (rk (od (gp + wk j))) k (wi j) = true ↔ _
              rw [k1, va_n e]
              exact y7
        · have := g8 j a i hj ha h1 h2 h3
          simp [killed, this]
  · refine hA.RD hRD (hst _ _ (by omega) (by omega)) (fun k => ⟨hst _ _ (by omega) (by omega), hst _ _ (by omega) (by omega), hst _ _ (by omega) (by omega)⟩) (fun j hj => ?_)
    obtain ⟨-, -, ⟨u1, u2, u3, -⟩, -⟩ := hWD.2.1 j hj
    have hee : ∀ q i, q < 5 → ¬ S (ea j + q) i := fun q i hq => hdy _ _ (by omega) (fun r hr => by
      have := u3 r hr
      unfold dj at this
      exact ⟨by omega, by omega⟩)
    exact ⟨hee 0 0 (by decide), hee 0 2 (by decide), fun i => hee 4 i (by decide)⟩
  · rw [hz]
    exact WD_top hWD (Nat.le_refl _)
theorem tail_spec (hL : SL X m) {us : Nat → Bool} {sz : Nat → Nat} {rk : Nat → Nat → Nat} {lv : Nat → Nat → Bool} {v : Nat → Int32} {nM : Nat} {mk : Nat → Nat} {loc : Nat → Option (Nat × Nat)} {tt : Nat → Nat} (hr : RLo X loc tt m) (ws : WS us sz rk) (wl : WL v nM mk us sz rk lv loc) (hf : ∀ s, us s = true → RfL X m s (sz s) (lv s)) {k : Nat} (hk : k < 100) (x : Int32) :
    ∃ m2, (∀ {β : Type} (K : HM β), bnd (cl 4 (X + 12) (f_X4_die (X + 12) (nI k))) (fun _ => bnd (gN 4 (X + 12) 1) fun b4 => bnd (sI 5 b4 (nI k) x) fun _ => bnd (gN 4 (X + 12) 2) fun b5 => bnd (lI 5 b5 (nI k)) fun v6 => bnd (sI 5 b5 (nI k) (v6 + 1)) fun _ => K) m = K m2) ∧
      Ag (fun b j => b = X + 25 ∨ (b = X + 15 ∧ j = k) ∨ (b = X + 13 ∧ j = k) ∨ (b = X + 14 ∧ j = k)) m m2 ∧ mI m2 (X + 13) k = x ∧ RLo X (va_up loc k none) (va_up tt k (tt k + 1)) m2 ∧ ∀ s, us s = true → RfL X m2 s (sz s) (killed (lv s) (rk s) k) := by
  obtain ⟨w1, w2, w3, w4⟩ := wl
  have hl : ∀ s i, loc k = some (s, i) → s < 21 ∧ i < 100 := fun s i q => by
    obtain ⟨a1, a2, a3, -⟩ := w1 k s i hk q
    have := (ws s a1).1
    omega
  obtain ⟨m1, e1, e2, e3, e4⟩ := die_spec hL hr hk hl
  have hL1 : SL X m1 := e2.SL hL
  obtain ⟨m2, hm2⟩ : ∃ m2, m2 = setI (setI m1 (X + 13) k x) (X + 14) k (nI (tt k) + 1) := ⟨_, rfl⟩
  have hL2 : SL X (setI m1 (X + 13) k x) := hL1
  have hA : Ag (fun b j => b = X + 25 ∨ (b = X + 15 ∧ j = k) ∨ (b = X + 13 ∧ j = k) ∨ (b = X + 14 ∧ j = k)) m m2 := by
    rw [hm2]
    refine ((e2.trans Ag.setI).trans Ag.setI).mono (fun b j q => ?_)
    rcases q with (⟨q, -⟩ | q) | q <;> omega
  refine ⟨m2, fun K => ?_, hA, ?_, fun a ha => ?_, fun s hs i hi => ?_⟩
  · have t14 : mI (setI m1 (X + 13) k x) (X + 14) k = nI (tt k) := by
      rw [mI_setI, if_neg (by omega), e2.2.2.2.2 _ _ (fun q => by rcases q with ⟨q, -⟩ | q <;> omega)]; exact (hr k hk).1
    rw [q_cl12 hL, b_eq e1, q_gN12_1 hL1, q_sI13 hL1 hk, q_gN12_2 hL2, q_lI14 hL2 hk, t14, q_sI14 hL2 hk, ← hm2]
  · rw [hm2, mI_setI, if_neg (by omega), mI_setI, if_pos ⟨rfl, rfl⟩]
  · by_cases e : a = k
    · subst e
      rw [va_s, va_s]
      refine ⟨by rw [hm2, mI_setI, if_pos ⟨rfl, rfl⟩, nI_1], fun _ => ?_, fun s i q => by cases q⟩
      rw [hm2, mI_setI, if_neg (by omega), mI_setI, if_neg (by omega)]
      exact e3
    · rw [va_n e, va_n e, hA.2.2.2.2 _ _ (by omega), hA.2.2.2.2 _ _ (by omega), hA.2.2.2.2 _ _ (by omega)]
      exact hr a ha
  · have hs9 := (ws s hs).1
    rw [hm2, mI_setI, if_neg (by omega), mI_setI, if_neg (by omega)]
    by_cases e : loc k = some (s, i)
    · rw [e4 s i e, killed_f (w1 k s i hk e).2.2.2.1]; rfl
    · rw [e2.2.2.2.2 _ _ (fun q => by
        rcases q with ⟨-, s2, i2, q1, q2⟩ | q
        · have := hl s2 i2 q1
          have h1 : s2 = s := by omega
          have h2 : i2 = i := by omega
          subst h1 h2
          exact e q1
        · omega), killed_n (fun q1 q2 => e (by rw [← q2]; exact w2 s i hs hi q1))]
      exact hf s hs i hi
end OPP
