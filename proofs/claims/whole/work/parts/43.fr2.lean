/-! frames over memories that keep all cells that were made, but for static ones at S (numbers) and T (references) -/
def eqA (m m2 : Mem) (a : Nat) : Prop := mK m2 a = mK m a ∧ mN m2 a = mN m a ∧ mI m2 a = mI m a ∧ mR m2 a = mR m a
def Agd (X : Nat) (S T : Nat → Nat → Prop) (m m2 : Mem) : Prop := (∀ b, X + 37 ≤ b → b < mS m → eqA m m2 b) ∧ mS m ≤ mS m2 ∧ (∀ b j, b < X + 37 → ¬ S b j → mI m2 b j = mI m b j) ∧ (∀ b j, b < X + 37 → ¬ T b j → mR m2 b j = mR m b j) ∧ ∀ b, b < X + 37 → mK m2 b = mK m b ∧ mN m2 b = mN m b
section FD
variable {X c : Nat} {S T : Nat → Nat → Prop} {m m2 : Mem}
theorem Agd.SL (h : Agd X S T m m2) (g : SL X m) (hT : ∀ b j, T b j → (b = X ∧ (j = 7 ∨ j = 8)) ∨ b = X + 5) : SL X m2 :=
  SL_eq g h.2.1 (fun j hj => h.2.2.2.2 (X + j) (by omega)) (fun j k b hj h5 h0 hr => by
    rw [h.2.2.2.1 (X + j) k (by omega) (fun q => by have := hT _ _ q; omega)]; exact hr)
theorem SgS_e {a num ti sz : Nat} {rk : Nat → Nat} {rv : Nat → Int32} (g : SgS m a num ti sz rk rv) (h : ∀ j, j < 5 → eqA m m2 (a + j)) : SgS m2 a num ti sz rk rv := by
  obtain ⟨a1, a2, a3, a4⟩ := h 0 (by decide)
  obtain ⟨b1, b2, b3, b4⟩ := h 1 (by decide)
  obtain ⟨c1, c2, c3, c4⟩ := h 2 (by decide)
  obtain ⟨d1, d2, d3, d4⟩ := h 3 (by decide)
  obtain ⟨e1, e2, e3, e4⟩ := h 4 (by decide)
  rw [Nat.add_zero] at a1 a2 a3 a4
  unfold SgS at g ⊢
  rw [a1, a3, a4, b1, b2, b3, c1, c2, c3, d1, d2, e1, e2]
  exact g
theorem SgL_e {a sz : Nat} {lv : Nat → Bool} (g : SgL m a sz lv) (h : ∀ j, j < 5 → eqA m m2 (a + j)) : SgL m2 a sz lv := by
  obtain ⟨a1, a2, a3, a4⟩ := h 0 (by decide)
  obtain ⟨d1, d2, d3, d4⟩ := h 3 (by decide)
  rw [Nat.add_zero] at a3
  unfold SgL at g ⊢
  rw [a3, d3]
  exact g
theorem Mg_e {ca gp gn gt gw gl : Nat} {src ga : Nat → Nat} (g : Mg m ca gp gn gt gw gl src ga) (h : ∀ j, j < 3 → eqA m m2 (ca + j)) : Mg m2 ca gp gn gt gw gl src ga := by
  obtain ⟨a1, a2, a3, a4⟩ := h 0 (by decide)
  obtain ⟨b1, b2, b3, b4⟩ := h 1 (by decide)
  obtain ⟨c1, c2, c3, c4⟩ := h 2 (by decide)
  rw [Nat.add_zero] at a1 a3 a4
  unfold Mg at g ⊢
  rw [a1, a3, a4, b1, b2, b4, c1, c2, c3]
  exact g
theorem Agd.blk (h : Agd X S T m m2) {a n : Nat} (h1 : X + 37 ≤ a) (h2 : a + n ≤ mS m) : ∀ j, j < n → eqA m m2 (a + j) := fun j hj => h.1 (a + j) (by omega) (by omega)
theorem Agd.RV {v : Nat → Int32} (h : Agd X S T m m2) (g : RV X v m) (s : ∀ k, ¬ S (X + 1) k ∧ ¬ S (X + 13) k) : RV X v m2 := fun k hk => by
  rw [h.2.2.1 _ _ (by omega) (s k).1, h.2.2.1 _ _ (by omega) (s k).2]; exact g k hk
theorem Agd.RM {v : Nat → Int32} {nM : Nat} {mk : Nat → Nat} (h : Agd X S T m m2) (g : RM X v nM mk m) (s : (∀ k, ¬ S (X + 3) k ∧ ¬ S (X + 17) k ∧ ¬ S (X + 4) k) ∧ ¬ S (X + 2) 2 ∧ ¬ S (X + 12) 5) : RM X v nM mk m2 := by
  obtain ⟨⟨g1, g2⟩, g3⟩ := g
  refine ⟨⟨by rw [h.2.2.1 _ _ (by omega) s.2.1]; exact g1, by rw [h.2.2.1 _ _ (by omega) s.2.2]; exact g2⟩, fun j hj => ?_⟩
  rw [h.2.2.1 _ _ (by omega) (s.1 j).1, h.2.2.1 _ _ (by omega) (s.1 j).2.1, h.2.2.1 _ _ (by omega) (s.1 j).2.2]
  exact g3 j hj
theorem Agd.RO {nS : Nat} {od sa : Nat → Nat} {us : Nat → Bool} (h : Agd X S T m m2) (g : RO X nS od sa us m) (s : (∀ k, ¬ S (X + 18) k ∧ ¬ S (X + 19) k ∧ ¬ T (X + 5) k) ∧ ¬ S X 3 ∧ ¬ S (X + 12) 7) : RO X nS od sa us m2 := by
  obtain ⟨⟨g1, g2⟩, g3, g4⟩ := g
  refine ⟨⟨by rw [h.2.2.1 _ _ (by omega) s.2.1]; exact g1, by rw [h.2.2.1 _ _ (by omega) s.2.2]; exact g2⟩, fun p hp => ?_, fun q hq => ?_⟩
  · rw [h.2.2.2.1 _ _ (by omega) (s.1 p).2.2, h.2.2.1 _ _ (by omega) (s.1 p).1]
    exact g3 p hp
  · rw [h.2.2.1 _ _ (by omega) (s.1 q).2.1]
    exact g4 q hq
theorem Agd.RS {us : Nat → Bool} {sa num ti sz : Nat → Nat} {rk : Nat → Nat → Nat} {rv : Nat → Nat → Int32} (h : Agd X S T m m2) (g : RS X us sa num ti sz rk rv m) (wa : WA X (mS m) us sa) (s : ∀ k, ¬ S (X + 20) k ∧ ¬ S (X + 21) k ∧ ¬ S (X + 22) k ∧ ¬ S (X + 23) k ∧ ¬ S (X + 24) k) : RS X us sa num ti sz rk rv m2 := fun q hq => by
  obtain ⟨g1, g2, g3⟩ := g q hq
  have w := wa.1 q hq
  refine ⟨SgS_e g1 (h.blk w.1 w.2), by rw [h.2.2.1 _ _ (by omega) (s q).1, h.2.2.1 _ _ (by omega) (s q).2.1, h.2.2.1 _ _ (by omega) (s q).2.2.1]; exact g2, fun i hi => ?_⟩
  rw [h.2.2.1 _ _ (by omega) (s _).2.2.2.1, h.2.2.1 _ _ (by omega) (s _).2.2.2.2]
  exact g3 i hi
theorem Agd.RLv {us : Nat → Bool} {sa sz : Nat → Nat} {lv : Nat → Nat → Bool} (h : Agd X S T m m2) (g : RLv X us sa sz lv m) (wa : WA X (mS m) us sa) (s : ∀ k, ¬ S (X + 25) k) : RLv X us sa sz lv m2 := fun q hq => by
  obtain ⟨g1, g2⟩ := g q hq
  have w := wa.1 q hq
  exact ⟨SgL_e g1 (h.blk w.1 w.2), fun i hi => by rw [h.2.2.1 _ _ (by omega) (s _)]; exact g2 i hi⟩
theorem Agd.RLo {loc : Nat → Option (Nat × Nat)} {tt : Nat → Nat} (h : Agd X S T m m2) (g : RLo X loc tt m) (s : ∀ k, ¬ S (X + 14) k ∧ ¬ S (X + 15) k ∧ ¬ S (X + 16) k) : RLo X loc tt m2 := fun k hk => by
  rw [h.2.2.1 _ _ (by omega) (s k).1, h.2.2.1 _ _ (by omega) (s k).2.1, h.2.2.1 _ _ (by omega) (s k).2.2]; exact g k hk
theorem Agd.RN {nn F : Nat} (h : Agd X S T m m2) (g : RN X nn F m) (s : (¬ S X 4 ∧ ¬ S X 5 ∧ ¬ S X 6) ∧ ¬ S (X + 12) 16 ∧ ¬ S (X + 12) 17 ∧ ¬ S (X + 12) 18) : RN X nn F m2 := by
  unfold _root_.Jvm.Pilot.@@N@@.RN
  rw [h.2.2.1 _ _ (by omega) s.1.1, h.2.2.1 _ _ (by omega) s.1.2.1, h.2.2.1 _ _ (by omega) s.1.2.2, h.2.2.1 _ _ (by omega) s.2.1, h.2.2.1 _ _ (by omega) s.2.2.1, h.2.2.1 _ _ (by omega) s.2.2.2]
  exact g
theorem Agd.IW (h : Agd X S T m m2) (g : IW X m) (s : ∀ k, ¬ S (X + 11) k ∧ ¬ S (X + 34) k ∧ ¬ S (X + 35) k ∧ ∀ w, w < 4 → ¬ S (X + 7 + w) k) : IW X m2 := by
  obtain ⟨vo, vv, g1, g2⟩ := g
  refine ⟨vo, vv, fun w hw => ⟨by rw [h.2.2.1 _ _ (by omega) (s w).1, h.2.2.1 _ _ (by omega) (s w).2.1]; exact (g1 w hw).1, fun ho k hk => ?_⟩, g2⟩
  rw [h.2.2.1 _ _ (by omega) ((s k).2.2.2 w hw), h.2.2.1 _ _ (by omega) (s _).2.2.1]
  exact (g1 w hw).2 ho k hk
theorem Agd.RG {top c nS gn gp gt gw gl ca : Nat} {us : Nat → Bool} {od sa sz ga : Nat → Nat} {rk : Nat → Nat → Nat} {rv : Nat → Nat → Int32} {lv : Nat → Nat → Bool} {gg : Nat → Nat → Int32} {wk wi nk : Nat → Nat} {nv : Nat → Int32} {nt tt : Nat → Nat} (h : Agd X S T m m2) (g : RG X gn gp gt gw gl ca od sa ga gg nk nv nt m) (w : WG X top c nS gn gp gt gw gl ca us od sa sz ga rk rv lv gg wk wi nk nv nt tt) (ht : top ≤ mS m) (wa : ∀ p, p < nS → X + 37 ≤ sa (od p) ∧ sa (od p) + 5 ≤ mS m) (s1 : ¬ S (X + 12) 19 ∧ ¬ S (X + 12) 20 ∧ ¬ S (X + 12) 21 ∧ ¬ S (X + 12) 22) (s2 : ∀ k, ¬ S (X + 26) k ∧ ¬ S (X + 30) k ∧ ¬ S (X + 27) k ∧ ¬ S (X + 28) k ∧ ¬ S (X + 29) k) (s3 : ¬ T X 7) : RG X gn gp gt gw gl ca od sa ga gg nk nv nt m2 := by
  obtain ⟨g1, g2, g3⟩ := g
  refine ⟨by rw [h.2.2.1 _ _ (by omega) s1.1]; exact g1, fun q => by rw [h.2.2.2.1 _ _ (by omega) s3]; exact g2 q, fun q => ?_⟩
  obtain ⟨e1, e2, e3, e4, e5⟩ := g3 q
  rcases w.2 with w | ⟨w1, w2, w3, -⟩
  · omega
  refine ⟨by rw [h.2.2.2.1 _ _ (by omega) s3]; exact e1, Mg_e e2 (h.blk w3.1 (by omega)), by rw [h.2.2.1 _ _ (by omega) s1.2.1, h.2.2.1 _ _ (by omega) s1.2.2.1, h.2.2.1 _ _ (by omega) s1.2.2.2]; exact e3, fun k hk => ⟨by rw [h.2.2.1 _ _ (by omega) (s2 k).1]; exact (e4 k hk).1, fun i hi => ?_⟩, fun j hj => ?_⟩
  · have wp := wa (gp + k) (by omega)
    rw [h.2.2.1 _ _ (by omega) (s2 _).2.1, (h.blk wp.1 wp.2 4 (by decide)).2.2.1]
    exact (e4 k hk).2 i hi
  · rw [h.2.2.1 _ _ (by omega) (s2 j).2.2.1, h.2.2.1 _ _ (by omega) (s2 j).2.2.2.1, h.2.2.1 _ _ (by omega) (s2 j).2.2.2.2]
    exact e5 j hj
theorem Agd.RD {top c dn da gn ca : Nat} {us : Nat → Bool} {sa ea dm er : Nat → Nat} {dg : Nat → Nat → Int32} (h : Agd X S T m m2) (g : RD X dn da ea dm er dg m) (w : WD X top c dn da gn ca us sa ea dm er dg) (ht : top ≤ mS m) (s1 : ¬ S (X + 12) 28) (s2 : ∀ k, ¬ S (X + 31) k ∧ ¬ S (X + 32) k ∧ ¬ S (X + 33) k) (s3 : ¬ T X 8) : RD X dn da ea dm er dg m2 := by
  obtain ⟨g1, g2, g3⟩ := g
  refine ⟨by rw [h.2.2.1 _ _ (by omega) s1]; exact g1, fun q => by rw [h.2.2.2.1 _ _ (by omega) s3]; exact g2 q, fun q => ?_⟩
  obtain ⟨e1, e2, e3⟩ := g3 q
  obtain ⟨v1, v2, -⟩ := w.2.2.2 q
  have b0 := h.blk (n := 3) v1 (by omega) 0 (by decide)
  have b1 := h.blk (n := 3) v1 (by omega) 1 (by decide)
  rw [Nat.add_zero] at b0
  refine ⟨by rw [h.2.2.2.1 _ _ (by omega) s3]; exact e1, by rw [b0.1, b0.2.2.2, b1.1, b1.2.1]; exact e2, fun k hk => ?_⟩
  obtain ⟨f1, f2, f3⟩ := e3 k hk
  obtain ⟨-, -, ⟨u1, u2, -⟩, -⟩ := w.2.1 k hk
  have c0 := h.blk (n := 5) u1 (by omega) 0 (by decide)
  have c4 := h.blk (n := 5) u1 (by omega) 4 (by decide)
  rw [Nat.add_zero] at c0
  refine ⟨by rw [b1.2.2.2, c0.1, c0.2.2.2, c4.1, c4.2.1]; exact f1, ?_, fun i hi => ?_⟩
  · rw [c0.2.2.1, h.2.2.1 _ _ (by omega) (s2 k).1, h.2.2.1 _ _ (by omega) (s2 k).2.1]
    exact f2
  · rw [c4.2.2.1, h.2.2.1 _ _ (by omega) (s2 _).2.2]
    exact f3 i hi
theorem WA_top {top top2 : Nat} {us : Nat → Bool} {sa : Nat → Nat} (h : WA X top us sa) (ht : top ≤ top2) : WA X top2 us sa := ⟨fun s hs => ⟨(h.1 s hs).1, Nat.le_trans (h.1 s hs).2 ht⟩, h.2⟩
theorem WG_top {top top2 c nS gn gp gt gw gl ca : Nat} {us : Nat → Bool} {od sa sz ga : Nat → Nat} {rk : Nat → Nat → Nat} {rv : Nat → Nat → Int32} {lv : Nat → Nat → Bool} {gg : Nat → Nat → Int32} {wk wi nk : Nat → Nat} {nv : Nat → Int32} {nt tt : Nat → Nat} (g2 : WG X top c nS gn gp gt gw gl ca us od sa sz ga rk rv lv gg wk wi nk nv nt tt) (hn : top ≤ top2) : WG X top2 (c + 1) nS gn gp gt gw gl ca us od sa sz ga rk rv lv gg wk wi nk nv nt tt := by
  refine ⟨fun k hk => Nat.le_succ_of_le (g2.1 k hk), ?_⟩
  rcases g2.2 with g | ⟨e1, e2, ⟨e3, e4, e5⟩, e6⟩
  · exact Or.inl g
  · exact Or.inr ⟨e1, e2, ⟨e3, Nat.le_trans e4 hn, e5⟩, e6⟩
theorem WD_top {top top2 c dn da gn ca : Nat} {us : Nat → Bool} {sa ea dm er : Nat → Nat} {dg : Nat → Nat → Int32} (d2 : WD X top c dn da gn ca us sa ea dm er dg) (hn : top ≤ top2) : WD X top2 (c + 1) dn da gn ca us sa ea dm er dg := by
  refine ⟨d2.1, fun k hk => ?_, d2.2.2.1, fun q => ?_⟩
  · obtain ⟨e1, e2, ⟨e3, e4, e5⟩, e6⟩ := d2.2.1 k hk
    exact ⟨e1, Nat.le_succ_of_le e2, ⟨e3, Nat.le_trans e4 hn, e5⟩, e6⟩
  · obtain ⟨e1, e2, e3⟩ := d2.2.2.2 q
    exact ⟨e1, Nat.le_trans e2 hn, e3⟩
end FD
section OPS9
variable {X c : Nat} {m : Mem}
theorem op_stop (h : Inv X c m) : ∃ r m1 m2, cl 3 X (f_X3_stop X) m = some (r, m1) ∧ cl 4 (X + 12) (f_X4_stop (X + 12)) m1 = some (r, m2) ∧ Inv X (c + 1) m2 := by
  have hI := h
  have hL := h.1
  obtain ⟨-, hw, nS, nn, us, od, sa, sz, num, ti, rk, rv, lv, v, nM, mk, loc, tt, gn, ca, hIS, hIL, ⟨gp, gt, gw, gl, ga, gg, wk, wi, nk, nv, nt, hRG, hWG⟩, ⟨dn, da, ea, dm, er, dg, hRD, hWD⟩⟩ := h
  obtain ⟨g1, g2, g3⟩ := hRG
  by_cases hg : gn = 0
  · refine op_q hI ⟨-3, ?_, ?_⟩
    · unfold f_X3_stop
      rw [q_gR0 hL, g2 hg]; rfl
    · have hL2 : SL X (setI m (X + 12) 0 0) := hL
      unfold f_X4_stop
      rw [q_pI12 hL, q_gI12 hL2, mI_setI, if_neg (by omega), g1, hg, i_t (by rfl)]; rfl
  · obtain ⟨e1, ⟨⟨q1, q2, q3, q4, q5, q6, q7⟩, ⟨t1, t2, t3, t4⟩, t5⟩, ⟨u1, u2, u3⟩, u4, u5⟩ := g3 (by omega)
    obtain ⟨s1, s2, s3, s4, s5, F, rn, wn⟩ := hIS
    obtain ⟨l1, l2, l3, l4, l5, l6, l7⟩ := hIL
    have hc3 : X + 37 ≤ ca := by
      rcases hWG.2 with g | ⟨-, -, g, -⟩
      · omega
      · exact g.1
    obtain ⟨ma, hma⟩ : ∃ ma, ma = setI m X 5 (mI m X 5 + nI gw) := ⟨_, rfl⟩
    obtain ⟨mb, hmb⟩ : ∃ mb, mb = setR ma X 7 none := ⟨_, rfl⟩
    obtain ⟨m2, hm2⟩ : ∃ m2, m2 = setI (setI (setI mb (X + 12) 0 0) (X + 12) 19 0) (X + 12) 17 (mI m (X + 12) 17 + nI gw) := ⟨_, rfl⟩
    have hLa : SL X ma := by rw [hma]; exact hL
    have hLb : SL X mb := by rw [hmb]; exact SL_setR hLa (by omega)
    have hLc : SL X (setI mb (X + 12) 0 0) := hLb
    have hLd : SL X (setI (setI mb (X + 12) 0 0) (X + 12) 19 0) := hLb
    have hLe : SL X m2 := by rw [hm2]; exact hLb
    have ib : ∀ b j, ¬ (b = X ∧ j = 5) → mI mb b j = mI m b j := fun b j q => by
      rw [hmb, hma, mI_setR, mI_setI, if_neg q]
    have hA : Agd X (fun b j => (b = X ∧ j = 5) ∨ (b = X + 12 ∧ j = 0) ∨ (b = X + 12 ∧ j = 19) ∨ (b = X + 12 ∧ j = 17)) (fun b j => b = X ∧ j = 7) m m2 := by
      refine ⟨fun b h1 h2 => ⟨by rw [hm2, hmb, hma]; rfl, by rw [hm2, hmb, hma]; rfl, funext fun j => ?_, funext fun j => ?_⟩, by rw [hm2, hmb, hma]; exact Nat.le_refl _, fun b j h1 h2 => ?_, fun b j h1 h2 => ?_, fun b h1 => ⟨by rw [hm2, hmb, hma]; rfl, by rw [hm2, hmb, hma]; rfl⟩⟩
      · rw [hm2, mI_setI, if_neg (by omega), mI_setI, if_neg (by omega), mI_setI, if_neg (by omega), ib _ _ (by omega)]
      · rw [hm2, hmb, hma]
        show mR (setR _ X 7 none) b j = _
        rw [mR_setR, if_neg (by omega)]; rfl
      · rw [hm2, mI_setI, if_neg (by omega), mI_setI, if_neg (by omega), mI_setI, if_neg (by omega), ib _ _ (by omega)]
      · rw [hm2, hmb, hma]
        show mR (setR _ X 7 none) b j = _
        rw [mR_setR, if_neg (by omega)]; rfl
    have hz : mS m2 = mS m := by rw [hm2, hmb, hma]; rfl
    refine ⟨nI gt, mb, m2, ?_, ?_, ?_⟩
    · rw [q_ce0 hL]
      unfold f_X3_stop
      rw [q_gR0 hL, e1]
      show bnd _ _ m = _
      rw [q_gR0 hL, e1]
      show bnd _ _ m = _
      rw [b_gI q1, t2, q_gI0 hL, q_gR0 hL, e1]
      show bnd _ _ m = _
      rw [b_gI q1, t3, q_pI0 hL, ← hma, q_pR0 hLa, ← hmb]; rfl
    · rw [q_ce12 hLb]
      unfold f_X4_stop
      rw [q_pI12 hLb, q_gI12 hLc, mI_setI, if_neg (by omega), ib _ _ (by omega), g1, i_f (nI_ne0 (by omega) (by rcases hWG.2 with g | ⟨g, -⟩ <;> omega)), q_pI12 hLc, q_gI12 hLd, mI_setI, if_neg (by omega), mI_setI, if_neg (by omega), ib _ _ (by omega), q_gI12 hLd, mI_setI, if_neg (by omega), mI_setI, if_neg (by omega), ib _ _ (by omega), u3, q_pI12 hLd, ← hm2, q_gI12 hLe, hm2, mI_setI, if_neg (by omega), mI_setI, if_neg (by omega), mI_setI, if_neg (by omega), ib _ _ (by omega), u2]; rfl
    · refine ⟨hA.SL hL (fun b j q => Or.inl ⟨q.1, Or.inl q.2⟩), hA.IW hw (fun k => ⟨by omega, by omega, by omega, fun w hw => by omega⟩), nS, nn, us, od, sa, sz, num, ti, rk, rv, lv, v, nM, mk, loc, tt, 0, ca, ⟨hA.RO s1 ⟨fun k => ⟨by omega, by omega, by omega⟩, by omega, by omega⟩, hA.RS s2 s5 (fun k => ⟨by omega, by omega, by omega, by omega, by omega⟩), s3, s4, by rw [hz]; exact s5, F, ?_, Nat.le_succ_of_le wn.1, wn.2.1, fun s hs => ⟨(wn.2.2.1 s hs).1, Nat.le_succ_of_le (wn.2.2.1 s hs).2⟩, wn.2.2.2⟩, ⟨hA.RV l1 (fun k => ⟨by omega, by omega⟩), l2, hA.RM l3 ⟨fun k => ⟨by omega, by omega, by omega⟩, by omega, by omega⟩, l4, hA.RLv l5 s5 (fun k => by omega), hA.RLo l6 (fun k => ⟨by omega, by omega, by omega⟩), l7⟩, ⟨gp, gt, gw, gl, ga, gg, wk, wi, nk, nv, nt, ⟨?_, fun _ => ?_, fun q => absurd q (by omega)⟩, fun k hk => Nat.le_succ_of_le (hWG.1 k hk), Or.inl rfl⟩, ⟨dn, da, ea, dm, er, dg, hA.RD hRD hWD (Nat.le_refl _) (by omega) (fun k => ⟨by omega, by omega, by omega⟩) (by omega), ?_⟩⟩
      · obtain ⟨n1, n2, n3, n4⟩ := rn
        refine ⟨⟨by rw [hA.2.2.1 _ _ (by omega) (by omega)]; exact n1.1, by rw [hA.2.2.1 _ _ (by omega) (by omega)]; exact n1.2⟩, ?_, by rw [hA.2.2.1 _ _ (by omega) (by omega)]; exact n3, by rw [hA.2.2.1 _ _ (by omega) (by omega)]; exact n4⟩
        rw [hm2, mI_setI, if_neg (by omega), mI_setI, if_neg (by omega), mI_setI, if_neg (by omega), mI_setI, if_pos ⟨rfl, rfl⟩, hmb, mI_setR, hma, mI_setI, if_pos ⟨rfl, rfl⟩, n2]
      · rw [hm2, mI_setI, if_neg (by omega), mI_setI, if_pos ⟨rfl, rfl⟩]; rfl
      · rw [hm2]
        show mR mb X 7 = none
        rw [hmb, mR_setR, if_pos ⟨rfl, rfl⟩]
      · have hd := WD_top hWD (Nat.le_of_eq hz.symm)
        exact ⟨hd.1, fun k hk => ⟨(hd.2.1 k hk).1, (hd.2.1 k hk).2.1, ⟨(hd.2.1 k hk).2.2.1.1, (hd.2.1 k hk).2.2.1.2.1, (hd.2.1 k hk).2.2.1.2.2.1, fun q => absurd q (by omega)⟩, (hd.2.1 k hk).2.2.2⟩, hd.2.2.1, fun q => ⟨(hd.2.2.2 q).1, (hd.2.2.2 q).2.1, (hd.2.2.2 q).2.2.1, fun q => absurd q (by omega)⟩⟩
end OPS9
