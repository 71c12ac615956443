section ENDX2
variable {X c : Nat} {m : Mem}
variable {ca gp gn gt gw : Nat} {A N T Z : Nat → Nat} {R : Nat → Nat → Nat} {V : Nat → Nat → Int32} {Lv : Nat → Nat → Bool} {gg : Nat → Nat → Int32} {wk wi nk : Nat → Nat} {nv : Nat → Int32} {nt tt : Nat → Nat}
def EXf (X ca gp gn gw nS nn kp : Nat) (B : Nat → Nat) (m m2 : Mem) : Prop :=
  ((∀ b, X + 37 ≤ b → b < mS m → eqA m m2 b) ∧ mS m ≤ mS m2) ∧
  (∀ b j, b < X + 37 → ¬ (b = X ∧ (j = 3 ∨ j = 4 ∨ j = 5)) → mI m2 b j = mI m b j) ∧
  (∀ b j, b < X + 37 → ¬ (b = X ∧ (j = 7 ∨ j = 8)) → b ≠ X + 5 → mR m2 b j = mR m b j) ∧
  (∀ b, b < X + 37 → mK m2 b = mK m b ∧ mN m2 b = mN m b) ∧
  (mI m2 X 3 = nI (nS - gn + kp) ∧ mI m2 X 4 = nI (nn + kp) ∧ mI m2 X 5 = mI m X 5 + nI gw ∧ mR m2 X 7 = none ∧ mR m2 X 8 = some ca) ∧
  (∀ p, p < gp → mR m2 (X + 5) p = mR m (X + 5) p) ∧ ∀ p, gp + kp ≤ p → p < nS - gn + kp → mR m2 (X + 5) p = some (B (p + gn - kp))
theorem gap_x {nS n p : Nat} {B : Nat → Nat} (hn : 1 ≤ n) (h20 : nS ≤ 20) (hp : p + n ≤ nS) (hL : SL X m) (h3 : mI m X 3 = nI nS) (hR : ∀ q, p + n ≤ q → q < nS → mR m (X + 5) q = some (B q) ∧ mK m (B q) = 2) :
    ∃ m2, f_X3_closeGap X (nI p) (nI n) m = some ((), m2) ∧ (mK m2 = mK m ∧ mN m2 = mN m ∧ mS m2 = mS m) ∧ (∀ b j, ¬ (b = X ∧ j = 3) → mI m2 b j = mI m b j) ∧ mI m2 X 3 = nI (nS - n) ∧ (∀ b j, ¬ (b = X + 5 ∧ p ≤ j ∧ j + n < nS) → mR m2 b j = mR m b j) ∧ ∀ j, p ≤ j → j + n < nS → mR m2 (X + 5) j = some (B (j + n)) := by
  obtain ⟨ma, g1, ⟨g2, g3, g4, g5⟩, g6, g7⟩ := gap_L hn h20 (nI p) (nS - (p + n)) 2100 p m (by omega) (by omega) hL h3 hR
  have hLa : SL X ma := SL_eq hL (by omega) (fun j hj => by rw [g2, g3]; exact ⟨rfl, rfl⟩) (fun j k b hj h5 _ z => by rw [g6 _ _ (by omega)]; exact z)
  refine ⟨setI ma X 3 (nI (nS - n)), ?_, ⟨g2, g3, g5⟩, fun b j q => by rw [mI_setI, if_neg q, g4], by rw [mI_setI, if_pos ⟨rfl, rfl⟩], g6, g7⟩
  unfold f_X3_closeGap
  rw [b_eq g1, q_gI0 hLa, g4, h3, pk_sub (by omega), q_pI0 hLa]; rfl
theorem end_x0 {nS nn : Nat} {B : Nat → Nat} (hg : 2 ≤ gn) (h20 : nS ≤ 20) (hp : gp + gn ≤ nS) (w : WX X ca gp gn A) (hC : CM X ca gp gn gt 0 0 A N T Z Z R V Lv gg m) (h3 : mI m X 3 = nI nS) (h4 : mI m X 4 = nI nn) (hR : ∀ q, q < nS → mR m (X + 5) q = some (B q) ∧ mK m (B q) = 2) :
    ∃ m2, f_X3_endMerge X ca m = some ((), m2) ∧ SL X m2 ∧ EXf X ca gp gn 0 nS nn 0 B m m2 := by
  obtain ⟨hL, h7, ⟨⟨k0, k1, k2, k3, k4, k5, k6⟩, ⟨i0, i3, i4, i5⟩, hM⟩, hS⟩ := hC
  obtain ⟨w1, w2, w3, w4, w5⟩ := w
  obtain ⟨ma, g1, ⟨g2, g3, g4⟩, g5, g6, g7, g8⟩ := gap_x (B := B) (n := gn) (p := gp) (by omega) h20 hp hL h3 (fun q _ hq => hR q hq)
  have hLa : SL X ma := SL_eq hL (by omega) (fun j hj => by rw [g2, g3]; exact ⟨rfl, rfl⟩) (fun j k b hj h5 _ z => by rw [g7 _ _ (by omega)]; exact z)
  obtain ⟨mb, hmb⟩ : ∃ mb, mb = setI ma X 5 (mI m X 5 + nI 0) := ⟨_, rfl⟩
  have hLb : SL X mb := by rw [hmb]; exact hLa
  obtain ⟨mc, hmc⟩ : ∃ mc, mc = setR mb X 8 (some ca) := ⟨_, rfl⟩
  have hLc : SL X mc := by rw [hmc]; exact SL_setR hLb (by omega)
  obtain ⟨m2, hm2⟩ : ∃ m2, m2 = setR mc X 7 none := ⟨_, rfl⟩
  have hL2 : SL X m2 := by rw [hm2]; exact SL_setR hLc (by omega)
  have kk : mK m2 = mK m ∧ mN m2 = mN m ∧ mS m2 = mS m := by rw [hm2, hmc, hmb]; exact ⟨g2, g3, g4⟩
  have iI : ∀ b j, ¬ (b = X ∧ (j = 3 ∨ j = 5)) → mI m2 b j = mI m b j := fun b j q => by
    rw [hm2, mI_setR, hmc, mI_setR, hmb, mI_setI, if_neg (by omega), g5 _ _ (by omega)]
  have iR : ∀ b j, ¬ (b = X ∧ (j = 7 ∨ j = 8)) → mR m2 b j = mR ma b j := fun b j q => by
    rw [hm2, mR_setR, if_neg (by omega), hmc, mR_setR, if_neg (by omega), hmb]; rfl
  refine ⟨m2, ?_, hL2, ⟨fun b h1 h2 => ⟨by rw [kk.1], by rw [kk.2.1], funext fun j => iI b j (by omega), funext fun j => by rw [iR b j (by omega), g7 _ _ (by omega)]⟩, by rw [kk.2.2]; exact Nat.le_refl _⟩, fun b j h1 h2 => iI b j (by omega), fun b j h1 h2 h3 => by rw [iR b j h2, g7 _ _ (by omega)], fun b h1 => by rw [kk.1, kk.2.1]; exact ⟨rfl, rfl⟩, ⟨?_, ?_, ?_, ?_, ?_⟩, fun p hp => by rw [iR _ _ (by omega), g7 _ _ (by omega)], fun p h1 h2 => ?_⟩
  · unfold f_X3_endMerge
    have s0 : nI gn - 0 = nI gn := by
      have := pk_sub (a := gn) (b := 0) (Nat.zero_le _)
      exact this
    have k0a : mK ma ca = 1 := by rw [g2]; exact k0
    rw [b_gI k0, i4, i_t (by decide), b_gI k0, i0, b_gN k0 k1, b_ln k3 k5, nI_p0, s0, q_cl0 hL, b_eq g1, q_gI0 hLa, g5 _ _ (by omega), b_gI k0a, g5 _ _ (by omega), i4, q_pI0 hLa, ← hmb, q_pR0 hLb, ← hmc, q_pR0 hLc, ← hm2]; rfl
  · rw [hm2, mI_setR, hmc, mI_setR, hmb, mI_setI, if_neg (by omega)]; exact g6
  · rw [iI _ _ (by omega)]; exact h4
  · rw [hm2, mI_setR, hmc, mI_setR, hmb, mI_setI, if_pos ⟨rfl, rfl⟩]
  · rw [hm2, mR_setR, if_pos ⟨rfl, rfl⟩]
  · rw [hm2, mR_setR, if_neg (by omega), hmc, mR_setR, if_pos ⟨rfl, rfl⟩]
  · rw [iR _ _ (by omega), g8 p (by omega) (by omega)]; rfl
theorem end_x1 {nS nn bB : Nat} {B : Nat → Nat} (hB : bB < 2 ^ 31) (hT : ∀ k, k < gn → T k ≤ bB) (hg : 2 ≤ gn) (hw : 0 < gw) (h20 : nS ≤ 20) (hp : gp + gn ≤ nS) (h : WT gn gt gw 0 Z Z R V Lv gg wk wi nk nv nt tt) (z : WZ gn Z R Lv) (w : WX X ca gp gn A) (hC : CM X ca gp gn gt gw 0 A N T Z Z R V Lv gg m) (hct : ca + 3 ≤ mS m) (hat : ∀ k, k < gn → A k + 5 ≤ mS m) (h3 : mI m X 3 = nI nS) (h4 : mI m X 4 = nI nn) (hR : ∀ q, q < nS → mR m (X + 5) q = some (B q) ∧ mK m (B q) = 2 ∧ B q < mS m) :
    ∃ m2, f_X3_endMerge X ca m = some ((), m2) ∧ SL X m2 ∧ EXf X ca gp gn gw nS nn 1 B m m2 ∧ mR m2 (X + 5) gp = some (mS m) ∧ mS m2 = mS m + 5 ∧ SgK m2 (mS m) gw ∧ (mI m2 (mS m) 0 = nI nn ∧ mI m2 (mS m) 1 = nI (mxT T gn + 1) ∧ mI m2 (mS m) 2 = nI gw ∧ mI m2 (mS m) 7 = nI (cnt (fun j => Lv (wk j) (wi j)) gw)) ∧ ∀ j, j < gw → mI m2 (mS m + 1) j = nI (nk j) ∧ mI m2 (mS m + 2) j = nv j ∧ mI m2 (mS m + 3) j = b2i (Lv (wk j) (wi j)) := by
  obtain ⟨m0, s1, s2, s3, s4, ⟨s5, s6, s7, s8⟩, s9⟩ := asSeg_m hB hT h z w hC hct hat (nI nn)
  have hgw := WT_gw h z
  obtain ⟨hL, h7, ⟨⟨k0, k1, k2, k3, k4, k5, k6⟩, ⟨i0, i3, i4, i5⟩, hM⟩, hS⟩ := hC
  obtain ⟨w1, w2, w3, w4, w5⟩ := w
  have hX := hL.1
  obtain ⟨a, hae⟩ : ∃ a, a = mS m := ⟨_, rfl⟩
  rw [← hae] at s1 s2 s3 s4 s5 s6 s7 s8 s9 hct hX ⊢
  have hL0 : SL X m0 := SL_eq hL (by omega) (fun j hj => ⟨(s2 (X + j) (by omega)).1, (s2 (X + j) (by omega)).2.1⟩) (fun j k b hj _ _ z => by rw [(s2 (X + j) (by omega)).2.2.2]; exact z)
  have st : ∀ b j, b < X + 37 → mI m0 b j = mI m b j := fun b j hb => by rw [(s2 b (by omega)).2.2.1]
  obtain ⟨m1, hm1⟩ : ∃ m1, m1 = setR m0 (X + 5) gp (some a) := ⟨_, rfl⟩
  have hL1 : SL X m1 := by rw [hm1]; exact SL_setR hL0 (by omega)
  obtain ⟨mz, hmz⟩ : ∃ mz, mz = setI m1 X 4 (nI (nn + 1)) := ⟨_, rfl⟩
  have hLz : SL X mz := by rw [hmz]; exact hL1
  have kz : mK mz = mK m0 ∧ mN mz = mN m0 ∧ mS mz = mS m0 := by rw [hmz, hm1]; exact ⟨rfl, rfl, rfl⟩
  have iz : ∀ b j, ¬ (b = X ∧ j = 4) → mI mz b j = mI m0 b j := fun b j q => by rw [hmz, mI_setI, if_neg q, hm1]; rfl
  have rz9 : ∀ b j, ¬ (b = X + 5 ∧ j = gp) → mR mz b j = mR m0 b j := fun b j q => by rw [hmz]; show mR m1 b j = _; rw [hm1, mR_setR, if_neg q]
  obtain ⟨ma, g1, ⟨g2, g3, g4⟩, g5, g6, g7, g8⟩ := gap_x (m := mz) (B := B) (n := gn - 1) (p := gp + 1) (by omega) h20 (by omega) hLz (by rw [iz _ _ (by omega), st _ _ (by omega)]; exact h3) (fun q h1 hq => by
    obtain ⟨u1, u2, u3⟩ := hR q hq
    rw [rz9 _ _ (by omega), kz.1, (s2 (X + 5) (by omega)).2.2.2, (s2 (B q) (by omega)).1]
    exact ⟨u1, u2⟩)
  have hLa : SL X ma := SL_eq hLz (by omega) (fun j hj => by rw [g2, g3]; exact ⟨rfl, rfl⟩) (fun j k b hj h5 _ z => by rw [g7 _ _ (by omega)]; exact z)
  obtain ⟨mb, hmb⟩ : ∃ mb, mb = setI ma X 5 (mI m X 5 + nI gw) := ⟨_, rfl⟩
  have hLb : SL X mb := by rw [hmb]; exact hLa
  obtain ⟨mc, hmc⟩ : ∃ mc, mc = setR mb X 8 (some ca) := ⟨_, rfl⟩
  have hLc : SL X mc := by rw [hmc]; exact SL_setR hLb (by omega)
  obtain ⟨m2, hm2⟩ : ∃ m2, m2 = setR mc X 7 none := ⟨_, rfl⟩
  have hL2 : SL X m2 := by rw [hm2]; exact SL_setR hLc (by omega)
  have kk : mK m2 = mK m0 ∧ mN m2 = mN m0 ∧ mS m2 = mS m0 := by rw [hm2, hmc, hmb]; exact ⟨g2.trans kz.1, g3.trans kz.2.1, g4.trans kz.2.2⟩
  have iI : ∀ b j, ¬ (b = X ∧ (j = 3 ∨ j = 4 ∨ j = 5)) → mI m2 b j = mI m0 b j := fun b j q => by
    rw [hm2, mI_setR, hmc, mI_setR, hmb, mI_setI, if_neg (by omega), g5 _ _ (by omega), iz _ _ (by omega)]
  have iR : ∀ b j, ¬ (b = X ∧ (j = 7 ∨ j = 8)) → mR m2 b j = mR ma b j := fun b j q => by
    rw [hm2, mR_setR, if_neg (by omega), hmc, mR_setR, if_neg (by omega), hmb]; rfl
  have iR2 : ∀ b j, ¬ (b = X ∧ (j = 7 ∨ j = 8)) → b ≠ X + 5 → mR m2 b j = mR m0 b j := fun b j q q2 => by
    rw [iR b j q, g7 _ _ (by omega), rz9 _ _ (by omega)]
  have dy : ∀ b, X + 37 ≤ b → eqA m0 m2 b := fun b hb => ⟨by rw [kk.1], by rw [kk.2.1], funext fun j => iI b j (by omega), funext fun j => iR2 b j (by omega) (by omega)⟩
  refine ⟨m2, ?_, hL2, ⟨⟨fun b h1 h2 => ?_, by omega⟩, fun b j h1 h2 => by rw [iI b j h2, st b j h1], fun b j h1 h2 h3 => by rw [iR2 b j h2 h3, (s2 b (by omega)).2.2.2], fun b h1 => by rw [kk.1, kk.2.1, (s2 b (by omega)).1, (s2 b (by omega)).2.1]; exact ⟨rfl, rfl⟩, ⟨?_, ?_, ?_, ?_, ?_⟩, fun p hp => ?_, fun p h1 h2 => ?_⟩, ?_, by rw [kk.2.2]; exact s3, ?_, ?_, fun j hj => ?_⟩
  · unfold f_X3_endMerge
    have k0m : mK m0 ca = 1 := by rw [(s2 ca (by omega)).1]; exact k0
    have k0z : mK mz ca = 1 := by rw [kz.1]; exact k0m
    have k1z : mR mz ca 1 = some (ca + 1) := by rw [rz9 _ _ (by omega), (s2 ca (by omega)).2.2.2]; exact k1
    have k3z : mK mz (ca + 1) = 7 := by rw [kz.1, (s2 (ca + 1) (by omega)).1]; exact k3
    have k5z : mN mz (ca + 1) = gn := by rw [kz.2.1, (s2 (ca + 1) (by omega)).2.1]; exact k5
    have i0z : mI mz ca 0 = nI gp := by rw [iz _ _ (by omega), (s2 ca (by omega)).2.2.1]; exact i0
    have e4 : mI m1 X 4 = nI nn := by rw [hm1, mI_setR, st _ _ (by omega)]; exact h4
    have k0a : mK ma ca = 1 := by rw [g2]; exact k0z
    have e5 : mI ma X 5 = mI m X 5 := by rw [g5 _ _ (by omega), iz _ _ (by omega), st _ _ (by omega)]
    have e6 : mI ma ca 4 = nI gw := by rw [g5 _ _ (by omega), iz _ _ (by omega), (s2 ca (by omega)).2.2.1]; exact i4
    have sub1 : nI gn - 1 = nI (gn - 1) := by
      have := pk_sub (a := gn) (b := 1) (by omega)
      exact this
    rw [b_gI k0, i4, i_f (nI_nle hw (by omega)), q_gN0_2 hL, b_gI k0, i0, q_gI0 hL, h4, b_cl k0, b_eq s1, b_sR (sk5 hL0) (sn5 hL0) (by omega) (by decide) s4.1.1, ← hm1, q_gI0 hL1, e4, nI_1, q_pI0 hL1, ← hmz, b_gI k0z, i0z, b_gN k0z k1z, b_ln k3z k5z, nI_1, sub1, q_cl0 hLz, b_eq g1, q_gI0 hLa, e5, b_gI k0a, e6, q_pI0 hLa, ← hmb, q_pR0 hLb, ← hmc, q_pR0 hLc, ← hm2]; rfl
  · obtain ⟨x1, x2, x3, x4⟩ := dy b h1
    obtain ⟨y1, y2, y3, y4⟩ := s2 b (by omega)
    exact ⟨x1.trans y1, x2.trans y2, x3.trans y3, x4.trans y4⟩
  · rw [hm2, mI_setR, hmc, mI_setR, hmb, mI_setI, if_neg (by omega), g6, show nS - (gn - 1) = nS - gn + 1 by omega]
  · rw [hm2, mI_setR, hmc, mI_setR, hmb, mI_setI, if_neg (by omega), g5 _ _ (by omega), hmz, mI_setI, if_pos ⟨rfl, rfl⟩]
  · rw [hm2, mI_setR, hmc, mI_setR, hmb, mI_setI, if_pos ⟨rfl, rfl⟩]
  · rw [hm2, mR_setR, if_pos ⟨rfl, rfl⟩]
  · rw [hm2, mR_setR, if_neg (by omega), hmc, mR_setR, if_pos ⟨rfl, rfl⟩]
  · rw [iR _ _ (by omega), g7 _ _ (by omega), rz9 _ _ (by omega), (s2 (X + 5) (by omega)).2.2.2]
  · rw [iR _ _ (by omega), g8 p (by omega) (by omega), show p + (gn - 1) = p + gn - 1 by omega]
  · rw [iR _ _ (by omega), g7 _ _ (by omega), hmz]
    show mR m1 (X + 5) gp = _
    rw [hm1, mR_setR, if_pos ⟨rfl, rfl⟩]
  · unfold SgK at s4 ⊢
    rw [(dy a (by omega)).1, (dy a (by omega)).2.2.2, (dy (a + 1) (by omega)).1, (dy (a + 2) (by omega)).1, (dy (a + 3) (by omega)).1, (dy (a + 4) (by omega)).1, (dy (a + 1) (by omega)).2.1, (dy (a + 2) (by omega)).2.1, (dy (a + 3) (by omega)).2.1, (dy (a + 4) (by omega)).2.1]
    exact s4
  · rw [(dy a (by omega)).2.2.1]
    exact ⟨s5, s6, s7, s8⟩
  · rw [(dy (a + 1) (by omega)).2.2.1, (dy (a + 2) (by omega)).2.2.1, (dy (a + 3) (by omega)).2.2.1]
    exact s9 j hj
end ENDX2
