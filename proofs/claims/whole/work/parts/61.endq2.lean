section ENDQ2
variable {X c : Nat} {m : Mem}
variable {gp gn gt gw : Nat} {O N T Z : Nat → Nat} {R : Nat → Nat → Nat} {V : Nat → Nat → Int32} {Lv : Nat → Nat → Bool} {gg : Nat → Nat → Int32} {wk wi nk : Nat → Nat} {nv : Nat → Int32} {nt tt : Nat → Nat}
def S2 (X gp s0 b j : Nat) : Prop := (b = X + 12 ∧ (j = 7 ∨ j = 16 ∨ j = 17 ∨ j = 19 ∨ j = 28)) ∨ (b = X + 18 ∧ gp ≤ j) ∨ b = X + 19 ∨ ((b = X + 20 ∨ b = X + 21 ∨ b = X + 22) ∧ j = s0) ∨ ((b = X + 23 ∨ b = X + 24 ∨ b = X + 25) ∧ 100 * s0 ≤ j ∧ j < 100 * s0 + 100) ∨ b = X + 15 ∨ b = X + 16 ∨ b = X + 31 ∨ b = X + 32 ∨ b = X + 33
def EQf (X gp gn gw nS nn kp : Nat) (us2 : Nat → Bool) (od N Z : Nat → Nat) (gg : Nat → Nat → Int32) (m m2 : Mem) : Prop :=
  (mI m2 (X + 12) 7 = nI (nS - gn + kp) ∧ mI m2 (X + 12) 16 = nI (nn + kp) ∧ mI m2 (X + 12) 17 = mI m (X + 12) 17 + nI gw ∧ mI m2 (X + 12) 19 = 0 ∧ mI m2 (X + 12) 28 = nI gn) ∧
  (∀ p, gp + kp ≤ p → p < nS - gn + kp → mI m2 (X + 18) p = nI (od (p + gn - kp))) ∧
  (∀ s, s < 21 → mI m2 (X + 19) s = b2i (us2 s)) ∧
  ∀ r, r < gn → (mI m2 (X + 31) r = nI (N r) ∧ mI m2 (X + 32) r = nI (Z r)) ∧ ∀ i, i < Z r → mI m2 (X + 33) (100 * r + i) = gg r i
/-- the first part of end, common to both cases -/
theorem end_qa {nS B : Nat} {us us1 : Nat → Bool} (hB : B < 2 ^ 31) (hT : ∀ k, k < gn → T k ≤ B) (hg : gn ≤ 6) (hp : gp + gn ≤ 20) (z : WZ gn Z R Lv) (hO : ∀ k r, k < gn → r < gn → O k = O r → k = r) (hQ : QM X gp gn gt gw O N T Z Z R V Lv gg nk nv nt tt m) (hu : ∀ s, s < 21 → mI m (X + 19) s = b2i (us s)) (h1 : ∀ k, k < gn → us1 (O k) = false) (h2 : ∀ s, (∀ k, k < gn → O k ≠ s) → us1 s = us s) :
    ∃ m2, (∀ {β : Type} (K : Int32 × Int32 → HM β), bnd (gI 4 (X + 12) 19) (fun v1 => bnd (pI 4 (X + 12) 28 v1) fun _ => bnd (gI 4 (X + 12) 17) fun v2 => bnd (gI 4 (X + 12) 22) fun v3 => bnd (pI 4 (X + 12) 17 (v2 + v3)) fun _ => bnd (f_X4_end_L25 2100 (X + 12) 0 0) K) m = K (nI (mxT T gn), nI gn) m2) ∧ SL X m2 ∧
      Ag (fun b j => (b = X + 12 ∧ (j = 17 ∨ j = 28)) ∨ b = X + 19 ∨ b = X + 31 ∨ b = X + 32 ∨ b = X + 33) m m2 ∧ (mI m2 (X + 12) 17 = mI m (X + 12) 17 + nI gw ∧ mI m2 (X + 12) 28 = nI gn) ∧ (∀ s, s < 21 → mI m2 (X + 19) s = b2i (us1 s)) ∧ ∀ r, r < gn → (mI m2 (X + 31) r = nI (N r) ∧ mI m2 (X + 32) r = nI (Z r)) ∧ ∀ i, i < Z r → mI m2 (X + 33) (100 * r + i) = gg r i := by
  obtain ⟨hL, ⟨i19, i20, i21, i22⟩, hK, hN, hTt⟩ := hQ
  obtain ⟨ma, hma⟩ : ∃ ma, ma = setI m (X + 12) 28 (nI gn) := ⟨_, rfl⟩
  have hLa : SL X ma := by rw [hma]; exact hL
  obtain ⟨mb, hmb⟩ : ∃ mb, mb = setI ma (X + 12) 17 (mI m (X + 12) 17 + nI gw) := ⟨_, rfl⟩
  have hLb : SL X mb := by rw [hmb]; exact hLa
  have hAb : Ag (fun b j => b = X + 12 ∧ (j = 17 ∨ j = 28)) m mb := by
    rw [hmb, hma]
    exact (Ag.setI.trans Ag.setI).mono (fun b j q => by omega)
  obtain ⟨m2, g1, g2, g3⟩ := end_L25 (X := X) (gn := gn) (gp := gp) (O := O) (N := N) (T := T) (Z := Z) (gg := gg) hB hT hg hp (fun k hk => (z.1 k hk).1) hO gn 2100 0 mb (by omega) (by omega) hLb ⟨by rw [hAb.2.2.2.2 _ _ (by omega)]; exact i19, by rw [hAb.2.2.2.2 _ _ (by omega)]; exact i20⟩ (fun r hr => by
    obtain ⟨⟨r1, r2⟩, ⟨r3, r4⟩, ⟨⟨r5, r6, r7⟩, r8⟩, r9⟩ := hK r hr
    refine ⟨by rw [hAb.2.2.2.2 _ _ (by omega)]; exact r3, r4, ⟨by rw [hAb.2.2.2.2 _ _ (by omega)]; exact r5, by rw [hAb.2.2.2.2 _ _ (by omega)]; exact r6, by rw [hAb.2.2.2.2 _ _ (by omega)]; exact r7⟩, fun i hi => by rw [hAb.2.2.2.2 _ _ (by omega)]; exact r2 i hi⟩)
  have f2 : ∀ b j, ¬ (b = X + 19 ∨ b = X + 31 ∨ b = X + 32 ∨ b = X + 33) → mI m2 b j = mI mb b j := fun b j q => g2.2.2.2.2 _ _ (fun z => by
    rcases z with z | z | ⟨z, -⟩ <;> omega)
  refine ⟨m2, fun K => ?_, g2.SL hLb, (hAb.trans g2).mono (fun b j q => ?_), ⟨?_, ?_⟩, fun s hs => ?_, fun r hr => ⟨⟨(g3 r (by omega) hr).1.1, (g3 r (by omega) hr).1.2.1⟩, (g3 r (by omega) hr).2⟩⟩
  · have e17 : mI ma (X + 12) 17 = mI m (X + 12) 17 := by rw [hma, mI_setI, if_neg (by omega)]
    have e22 : mI ma (X + 12) 22 = nI gw := by rw [hma, mI_setI, if_neg (by omega)]; exact i22
    rw [q_gI12 hL, i19, q_pI12 hL, ← hma, q_gI12 hLa, e17, q_gI12 hLa, e22, q_pI12 hLa, ← hmb, b_eq (show f_X4_end_L25 2100 (X + 12) 0 0 mb = _ from g1)]
  · rcases q with q | (q | q | ⟨q, -⟩)
    · exact Or.inl q
    · rcases q.1 with e | e
      · exact Or.inr (Or.inr (Or.inl e))
      · exact Or.inr (Or.inr (Or.inr (Or.inl e)))
    · exact Or.inr (Or.inr (Or.inr (Or.inr q.1)))
    · exact Or.inr (Or.inl q)
  · rw [f2 _ _ (by omega), hmb, mI_setI, if_pos ⟨rfl, rfl⟩]
  · rw [f2 _ _ (by omega), hmb, mI_setI, if_neg (by omega), hma, mI_setI, if_pos ⟨rfl, rfl⟩]
  · by_cases e : ∃ k, k < gn ∧ O k = s
    · obtain ⟨k, hk, rfl⟩ := e
      rw [(g3 k (by omega) hk).1.2.2, h1 k hk]; rfl
    · rw [h2 s (fun k hk q => e ⟨k, hk, q⟩), ← hu s hs, g2.2.2.2.2 _ _ (fun q => by
        rcases q with q | q | ⟨-, r, -, r2, r3⟩
        · omega
        · omega
        · exact e ⟨r, r2, r3.symm⟩), hAb.2.2.2.2 _ _ (by omega)]
theorem end_q0 {nS nn B s0 : Nat} {us us1 : Nat → Bool} {od : Nat → Nat} (hB : B < 2 ^ 31) (hT : ∀ k, k < gn → T k ≤ B) (hg2 : 2 ≤ gn) (hg : gn ≤ 6) (h20 : nS ≤ 20) (hp : gp + gn ≤ nS) (z : WZ gn Z R Lv) (hO : ∀ k r, k < gn → r < gn → O k = O r → k = r) (hQ : QM X gp gn gt 0 O N T Z Z R V Lv gg nk nv nt tt m) (hu : ∀ s, s < 21 → mI m (X + 19) s = b2i (us s)) (h1 : ∀ k, k < gn → us1 (O k) = false) (h2 : ∀ s, (∀ k, k < gn → O k ≠ s) → us1 s = us s) (h7 : mI m (X + 12) 7 = nI nS) (h16 : mI m (X + 12) 16 = nI nn) (ho : ∀ p, p < nS → mI m (X + 18) p = nI (od p)) :
    ∃ m2, f_X4_end (X + 12) m = some ((), m2) ∧ SL X m2 ∧ Ag (S2 X gp s0) m m2 ∧ EQf X gp gn 0 nS nn 0 us1 od N Z gg m m2 ∧ ∀ a, mI m2 (X + 15) a = mI m (X + 15) a ∧ mI m2 (X + 16) a = mI m (X + 16) a := by
  obtain ⟨ma, a1, hLa, a2, ⟨a3, a4⟩, a5, a6⟩ := end_qa (nS := nS) hB hT hg (by omega) z hO hQ hu h1 h2
  obtain ⟨hL, ⟨i19, i20, i21, i22⟩, hK, hN, hTt⟩ := hQ
  obtain ⟨mb, hmb⟩ : ∃ mb, mb = setI ma (X + 18) gp (mI ma (X + 18) gp) := ⟨_, rfl⟩
  have hLb : SL X mb := by rw [hmb]; exact hLa
  have ib : ∀ b j, mI mb b j = mI ma b j := fun b j => by
    rw [hmb, mI_setI]
    by_cases q : b = X + 18 ∧ j = gp
    · rw [if_pos q, q.1, q.2]
    · rw [if_neg q]
  have hAb : Ag (fun _ _ => False) ma mb := ⟨by rw [hmb]; rfl, by rw [hmb]; rfl, by rw [hmb]; rfl, by rw [hmb]; rfl, fun b j _ => ib b j⟩
  obtain ⟨mc, c1, c2, c3⟩ := end_L219 (X := X) (nS := nS) (n := gn) (by omega) h20 (nI (mxT T gn)) 0 (nI (gp + gn)) 0 (nS - (gp + gn)) 2100 (gp + gn) mb (by omega) (by omega) (by omega) hLb (by rw [ib, a2.2.2.2.2 _ _ (by omega)]; exact h7)
  have hLc : SL X mc := c2.SL hLb
  obtain ⟨md, hmd⟩ : ∃ md, md = setI mc (X + 12) 7 (nI (nS - gn)) := ⟨_, rfl⟩
  have hLd : SL X md := by rw [hmd]; exact hLc
  obtain ⟨m2, hm2⟩ : ∃ m2, m2 = setI md (X + 12) 19 0 := ⟨_, rfl⟩
  have hL2 : SL X m2 := by rw [hm2]; exact hLd
  have f2 : ∀ b j, ¬ (b = X + 12 ∧ (j = 7 ∨ j = 19)) → b ≠ X + 18 → mI m2 b j = mI ma b j := fun b j q q2 => by
    rw [hm2, mI_setI, if_neg (by omega), hmd, mI_setI, if_neg (by omega), c2.2.2.2.2 _ _ (by omega), ib]
  refine ⟨m2, ?_, hL2, ?_, ⟨⟨?_, ?_, ?_, ?_, ?_⟩, fun p h1 h2 => ?_, fun s hs => ?_, fun r hr => ?_⟩, fun a => ?_⟩
  · unfold f_X4_end
    have s0 : nI gn - 0 = nI gn := pk_sub (a := gn) (b := 0) (Nat.zero_le _)
    have e22 : mI ma (X + 12) 22 = nI 0 := by rw [a2.2.2.2.2 _ _ (by omega)]; exact i22
    have e19 : mI ma (X + 12) 19 = nI gn := by rw [a2.2.2.2.2 _ _ (by omega)]; exact i19
    have e20 : mI ma (X + 12) 20 = nI gp := by rw [a2.2.2.2.2 _ _ (by omega)]; exact i20
    have e7 : mI mc (X + 12) 7 = nI nS := by rw [c2.2.2.2.2 _ _ (by omega), ib, a2.2.2.2.2 _ _ (by omega)]; exact h7
    rw [a1]
    rw [q_gI12 hLa, e22, i_t (by decide), q_gI12 hLa, e19, q_gI12 hLa, e20, q_gI12 hLa, e19, q_gN12_8 hLa, q_gI12 hLa, e20, q_gN12_8 hLa, q_gI12 hLa, e20, q_lI18 hLa (by omega), q_sI18 hLa (by omega), ← hmb, s0, nI_add]
    rw [b_eq (show f_X4_end_L219 2100 (X + 12) (nI (mxT T gn)) 0 (nI gn) (nI (gp + gn)) 0 (nI (gp + gn)) mb = _ from c1), q_gI12 hLc, e7, pk_sub (by omega), q_pI12 hLc, ← hmd, q_pI12 hLd, ← hm2]; rfl
  · refine ⟨by rw [hm2, hmd]; exact (c2.1.trans hAb.1).trans a2.1, by rw [hm2, hmd]; exact (c2.2.1.trans hAb.2.1).trans a2.2.1, by rw [hm2, hmd]; exact (c2.2.2.1.trans hAb.2.2.1).trans a2.2.2.1, by rw [hm2, hmd]; exact (c2.2.2.2.1.trans hAb.2.2.2.1).trans a2.2.2.2.1, fun b j q => ?_⟩
    have q1 : ¬ (b = X + 12 ∧ (j = 7 ∨ j = 16 ∨ j = 17 ∨ j = 19 ∨ j = 28)) := fun z => q (Or.inl z)
    have q2 : ¬ (b = X + 18 ∧ gp ≤ j) := fun z => q (Or.inr (Or.inl z))
    have q3 : ¬ (b = X + 19) := fun z => q (Or.inr (Or.inr (Or.inl z)))
    have q4 : ¬ (b = X + 31) := fun z => q (Or.inr (Or.inr (Or.inr (Or.inr (Or.inr (Or.inr (Or.inr (Or.inl z))))))))
    have q5 : ¬ (b = X + 32) := fun z => q (Or.inr (Or.inr (Or.inr (Or.inr (Or.inr (Or.inr (Or.inr (Or.inr (Or.inl z)))))))))
    have q6 : ¬ (b = X + 33) := fun z => q (Or.inr (Or.inr (Or.inr (Or.inr (Or.inr (Or.inr (Or.inr (Or.inr (Or.inr z)))))))))
    rw [hm2, mI_setI, if_neg (by omega), hmd, mI_setI, if_neg (by omega), c2.2.2.2.2 _ _ (by omega), ib, a2.2.2.2.2 _ _ (by omega)]
  · rw [hm2, mI_setI, if_neg (by omega), hmd, mI_setI, if_pos ⟨rfl, rfl⟩]; rfl
  · rw [f2 _ _ (by omega) (by omega), a2.2.2.2.2 _ _ (by omega)]; exact h16
  · rw [f2 _ _ (by omega) (by omega)]; exact a3
  · rw [hm2, mI_setI, if_pos ⟨rfl, rfl⟩]
  · rw [f2 _ _ (by omega) (by omega)]; exact a4
  · rw [hm2, mI_setI, if_neg (by omega), hmd, mI_setI, if_neg (by omega), c3 p (by omega) (by omega), ib, a2.2.2.2.2 _ _ (by omega), ho _ (by omega)]; rfl
  · rw [f2 _ _ (by omega) (by omega)]; exact a5 s hs
  · rw [f2 _ _ (by omega) (by omega), f2 _ _ (by omega) (by omega)]
    refine ⟨(a6 r hr).1, fun i hi => ?_⟩
    rw [f2 _ _ (by omega) (by omega)]
    exact (a6 r hr).2 i hi
  · rw [f2 _ _ (by omega) (by omega), f2 _ _ (by omega) (by omega), a2.2.2.2.2 _ _ (by omega), a2.2.2.2.2 _ _ (by omega)]
    exact ⟨rfl, rfl⟩
theorem end_q1 {nS nn B s0 : Nat} {us us1 al : Nat → Bool} {od : Nat → Nat} (hB : B < 2 ^ 31) (hT : ∀ k, k < gn → T k ≤ B) (hg2 : 2 ≤ gn) (hg : gn ≤ 6) (hw0 : 0 < gw) (hw : gw ≤ 100) (h20 : nS ≤ 20) (hp : gp + gn ≤ nS) (z : WZ gn Z R Lv) (hO : ∀ k r, k < gn → r < gn → O k = O r → k = r) (hQ : QM X gp gn gt gw O N T Z Z R V Lv gg nk nv nt tt m) (hu : ∀ s, s < 21 → mI m (X + 19) s = b2i (us s)) (h1 : ∀ k, k < gn → us1 (O k) = false) (h2 : ∀ s, (∀ k, k < gn → O k ≠ s) → us1 s = us s) (h7 : mI m (X + 12) 7 = nI nS) (h16 : mI m (X + 12) 16 = nI nn) (ho : ∀ p, p < nS → mI m (X + 18) p = nI (od p)) (hs0 : s0 < 21) (hf0 : us1 s0 = false) (hf1 : ∀ r, r < s0 → us1 r = true) (hnk : ∀ j, j < gw → nk j < 100) (hinc : ∀ i j, i < j → j < gw → nk i < nk j) (hal : ∀ j, j < gw → (al j = true ↔ nI (tt (nk j)) = nI (nt j))) :
    ∃ m2, f_X4_end (X + 12) m = some ((), m2) ∧ SL X m2 ∧ Ag (S2 X gp s0) m m2 ∧ EQf X gp gn gw nS nn 1 (va_up us1 s0 true) od N Z gg m m2 ∧ (∀ a, (∀ q, q < gw → al q = true → nk q ≠ a) → mI m2 (X + 15) a = mI m (X + 15) a ∧ mI m2 (X + 16) a = mI m (X + 16) a) ∧ (mI m2 (X + 18) gp = nI s0 ∧ mI m2 (X + 20) s0 = nI nn ∧ mI m2 (X + 21) s0 = nI (mxT T gn + 1) ∧ mI m2 (X + 22) s0 = nI gw) ∧ ∀ q, q < gw → (mI m2 (X + 23) (100 * s0 + q) = nI (nk q) ∧ mI m2 (X + 24) (100 * s0 + q) = nv q ∧ mI m2 (X + 25) (100 * s0 + q) = b2i (al q)) ∧ (al q = true → mI m2 (X + 15) (nk q) = nI s0 ∧ mI m2 (X + 16) (nk q) = nI q) := by
  obtain ⟨ma, a1, hLa, a2, ⟨a3, a4⟩, a5, a6⟩ := end_qa (nS := nS) hB hT hg (by omega) z hO hQ hu h1 h2
  obtain ⟨hL, ⟨i19, i20, i21, i22⟩, hK, hN, hTt⟩ := hQ
  have ef := free_spec hLa (us := us1) a5 hs0 hf0 hf1
  obtain ⟨mf, hmf⟩ : ∃ mf, mf = setI (setI ma (X + 19) s0 1) (X + 22) s0 0 := ⟨_, rfl⟩
  rw [← hmf] at ef
  have hLf : SL X mf := by rw [hmf]; exact hLa
  obtain ⟨mb, hmb⟩ : ∃ mb, mb = setI mf (X + 18) gp (nI s0) := ⟨_, rfl⟩
  have hLb : SL X mb := by rw [hmb]; exact hLf
  have ib : ∀ b j, ¬ (b = X + 18 ∧ j = gp) → ¬ ((b = X + 19 ∨ b = X + 22) ∧ j = s0) → mI mb b j = mI ma b j := fun b j q q2 => by
    rw [hmb, mI_setI, if_neg q, hmf, mI_setI, if_neg (by omega), mI_setI, if_neg (by omega)]
  obtain ⟨mc, c1, c2, c3⟩ := end_L219 (X := X) (nS := nS) (n := gn - 1) (by omega) h20 (nI (mxT T gn)) 1 (nI (gp + gn)) (nI s0) (nS - (gp + gn)) 2100 (gp + gn) mb (by omega) (by omega) (by omega) hLb (by rw [ib _ _ (by omega) (by omega), a2.2.2.2.2 _ _ (by omega)]; exact h7)
  have hLc : SL X mc := c2.SL hLb
  obtain ⟨md, hmd⟩ : ∃ md, md = setI mc (X + 12) 7 (nI (nS - (gn - 1))) := ⟨_, rfl⟩
  have hLd : SL X md := by rw [hmd]; exact hLc
  obtain ⟨me, hme⟩ : ∃ me, me = setI md (X + 21) s0 (nI (mxT T gn + 1)) := ⟨_, rfl⟩
  have hLe : SL X me := by rw [hme]; exact hLd
  obtain ⟨mg, hmg⟩ : ∃ mg, mg = setI me (X + 20) s0 (nI nn) := ⟨_, rfl⟩
  have hLg : SL X mg := by rw [hmg]; exact hLe
  obtain ⟨mh, hmh⟩ : ∃ mh, mh = setI mg (X + 12) 16 (nI (nn + 1)) := ⟨_, rfl⟩
  have hLh : SL X mh := by rw [hmh]; exact hLg
  have ih : ∀ b j, b ≠ X + 18 → ¬ ((b = X + 19 ∨ b = X + 20 ∨ b = X + 21 ∨ b = X + 22) ∧ j = s0) → ¬ (b = X + 12 ∧ (j = 7 ∨ j = 16)) → mI mh b j = mI ma b j := fun b j q q2 q3 => by
    rw [hmh, mI_setI, if_neg (by omega), hmg, mI_setI, if_neg (by omega), hme, mI_setI, if_neg (by omega), hmd, mI_setI, if_neg (by omega), c2.2.2.2.2 _ _ (by omega), ib _ _ (by omega) (by omega)]
  have ih0 : ∀ b j, b ≠ X + 18 → ¬ ((b = X + 19 ∨ b = X + 20 ∨ b = X + 21 ∨ b = X + 22) ∧ j = s0) → ¬ (b = X + 12 ∧ (j = 7 ∨ j = 16 ∨ j = 17 ∨ j = 28)) → ¬ (b = X + 19 ∨ b = X + 31 ∨ b = X + 32 ∨ b = X + 33) → mI mh b j = mI m b j := fun b j q q2 q3 q4 => by
    rw [ih b j q q2 (by omega), a2.2.2.2.2 _ _ (by omega)]
  obtain ⟨mi, j1, j2, j3, j4⟩ := end_L299 (X := X) (gw := gw) (nk := nk) (nv := nv) (nt := nt) (tt := tt) (s0 := s0) (al := al) hs0 hw hnk hinc hal (nI (mxT T gn)) 1 (nI (gn - 1)) (nI (gp + gn)) gw 2100 0 mh (by omega) (by omega) hLh (by rw [ih0 _ _ (by omega) (by omega) (by omega) (by omega)]; exact i22) (fun j hj => by rw [ih0 _ _ (by omega) (by omega) (by omega) (by omega), ih0 _ _ (by omega) (by omega) (by omega) (by omega), ih0 _ _ (by omega) (by omega) (by omega) (by omega)]; exact hN j hj) (fun a ha => by rw [ih0 _ _ (by omega) (by omega) (by omega) (by omega)]; exact hTt a ha) (by
    rw [hmh, mI_setI, if_neg (by omega), hmg, mI_setI, if_neg (by omega), hme, mI_setI, if_neg (by omega), hmd, mI_setI, if_neg (by omega), c2.2.2.2.2 _ _ (by omega), hmb, mI_setI, if_neg (by omega), hmf, mI_setI, if_pos ⟨rfl, rfl⟩]; rfl)
  have hLi : SL X mi := j2.SL hLh
  have fi : ∀ b j, ¬ (b = X + 23 ∨ b = X + 24 ∨ b = X + 25 ∨ b = X + 22 ∨ b = X + 15 ∨ b = X + 16) → mI mi b j = mI mh b j := fun b j q => j2.2.2.2.2 _ _ (fun z => by
    rcases z with z | z | ⟨z, -⟩ <;> omega)
  obtain ⟨m2, hm2⟩ : ∃ m2, m2 = setI mi (X + 12) 19 0 := ⟨_, rfl⟩
  have hL2 : SL X m2 := by rw [hm2]; exact hLi
  have f2 : ∀ b j, ¬ (b = X + 12 ∧ j = 19) → mI m2 b j = mI mi b j := fun b j q => by rw [hm2, mI_setI, if_neg q]
  have kk : mK m2 = mK m ∧ mN m2 = mN m ∧ mR m2 = mR m ∧ mS m2 = mS m := by
    have k1 : mK mh = mK mb ∧ mN mh = mN mb ∧ mR mh = mR mb ∧ mS mh = mS mb := by
      rw [hmh, hmg, hme, hmd]
      exact ⟨c2.1, c2.2.1, c2.2.2.1, c2.2.2.2.1⟩
    have k2 : mK mb = mK ma ∧ mN mb = mN ma ∧ mR mb = mR ma ∧ mS mb = mS ma := by
      rw [hmb, hmf]
      exact ⟨rfl, rfl, rfl, rfl⟩
    rw [hm2]
    exact ⟨((j2.1.trans k1.1).trans k2.1).trans a2.1, ((j2.2.1.trans k1.2.1).trans k2.2.1).trans a2.2.1, ((j2.2.2.1.trans k1.2.2.1).trans k2.2.2.1).trans a2.2.2.1, ((j2.2.2.2.1.trans k1.2.2.2).trans k2.2.2.2).trans a2.2.2.2.1⟩
  refine ⟨m2, ?_, hL2, ⟨kk.1, kk.2.1, kk.2.2.1, kk.2.2.2, fun b j q => ?_⟩, ⟨⟨?_, ?_, ?_, ?_, ?_⟩, fun p h1 h2 => ?_, fun s hs => ?_, fun r hr => ?_⟩, fun a ha => ?_, ⟨?_, ?_, ?_, ?_⟩, fun q hq => ?_⟩
  · unfold f_X4_end
    have sub1 : nI gn - 1 = nI (gn - 1) := pk_sub (a := gn) (b := 1) (by omega)
    have e22 : mI ma (X + 12) 22 = nI gw := by rw [a2.2.2.2.2 _ _ (by omega)]; exact i22
    have e19 : mI ma (X + 12) 19 = nI gn := by rw [a2.2.2.2.2 _ _ (by omega)]; exact i19
    have e20 : mI ma (X + 12) 20 = nI gp := by rw [a2.2.2.2.2 _ _ (by omega)]; exact i20
    have e20f : mI mf (X + 12) 20 = nI gp := by rw [hmf, mI_setI, if_neg (by omega), mI_setI, if_neg (by omega)]; exact e20
    have e7 : mI mc (X + 12) 7 = nI nS := by rw [c2.2.2.2.2 _ _ (by omega), ib _ _ (by omega) (by omega), a2.2.2.2.2 _ _ (by omega)]; exact h7
    have e16 : mI me (X + 12) 16 = nI nn := by rw [hme, mI_setI, if_neg (by omega), hmd, mI_setI, if_neg (by omega), c2.2.2.2.2 _ _ (by omega), ib _ _ (by omega) (by omega), a2.2.2.2.2 _ _ (by omega)]; exact h16
    have e16g : mI mg (X + 12) 16 = nI nn := by rw [hmg, mI_setI, if_neg (by omega)]; exact e16
    rw [a1]
    rw [q_gI12 hLa, e22, i_f (nI_nle hw0 (by omega)), q_gI12 hLa, e19, q_gI12 hLa, e20, q_gI12 hLa, e19, q_cl12 hLa, b_eq ef, q_gN12_8 hLf, q_gI12 hLf, e20f, q_sI18 hLf (by omega), ← hmb, sub1, nI_add]
    rw [b_eq (show f_X4_end_L219 2100 (X + 12) (nI (mxT T gn)) 1 (nI (gn - 1)) (nI (gp + gn)) (nI s0) (nI (gp + gn)) mb = _ from c1), q_gI12 hLc, e7, pk_sub (by omega), q_pI12 hLc, ← hmd, q_gN12_11 hLd]
    show bnd (sI 5 (X + 21) (nI s0) (nI (mxT T gn) + 1)) _ md = _
    rw [nI_1, q_sI21 hLd hs0, ← hme, q_gN12_10 hLe, q_gI12 hLe, e16, q_sI20 hLe hs0, ← hmg, q_gI12 hLg, e16g, nI_1, q_pI12 hLg, ← hmh]
    rw [b_eq (show f_X4_end_L299 2100 (X + 12) (nI (mxT T gn)) 1 (nI (gn - 1)) (nI (gp + gn)) (nI s0) 0 mh = _ from j1), q_pI12 hLi, ← hm2]; rfl
  · have q1 : ¬ (b = X + 12 ∧ (j = 7 ∨ j = 16 ∨ j = 17 ∨ j = 19 ∨ j = 28)) := fun z => q (Or.inl z)
    have q2 : ¬ (b = X + 18 ∧ gp ≤ j) := fun z => q (Or.inr (Or.inl z))
    have q3 : ¬ (b = X + 19) := fun z => q (Or.inr (Or.inr (Or.inl z)))
    have q31 : ¬ ((b = X + 20 ∨ b = X + 21 ∨ b = X + 22) ∧ j = s0) := fun z => q (Or.inr (Or.inr (Or.inr (Or.inl z))))
    have q32 : ¬ ((b = X + 23 ∨ b = X + 24 ∨ b = X + 25) ∧ 100 * s0 ≤ j ∧ j < 100 * s0 + 100) := fun z => q (Or.inr (Or.inr (Or.inr (Or.inr (Or.inl z)))))
    have q33 : ¬ (b = X + 15) := fun z => q (Or.inr (Or.inr (Or.inr (Or.inr (Or.inr (Or.inl z))))))
    have q34 : ¬ (b = X + 16) := fun z => q (Or.inr (Or.inr (Or.inr (Or.inr (Or.inr (Or.inr (Or.inl z)))))))
    have q4 : ¬ (b = X + 31) := fun z => q (Or.inr (Or.inr (Or.inr (Or.inr (Or.inr (Or.inr (Or.inr (Or.inl z))))))))
    have q5 : ¬ (b = X + 32) := fun z => q (Or.inr (Or.inr (Or.inr (Or.inr (Or.inr (Or.inr (Or.inr (Or.inr (Or.inl z)))))))))
    have q6 : ¬ (b = X + 33) := fun z => q (Or.inr (Or.inr (Or.inr (Or.inr (Or.inr (Or.inr (Or.inr (Or.inr (Or.inr z)))))))))
    have s1 : mI m2 b j = mI mh b j := by
      rw [f2 _ _ (by omega), j2.2.2.2.2 _ _ (fun z => by
        rcases z with z | z | ⟨z, -⟩
        · exact q32 ⟨z.1, by omega, by omega⟩
        · exact q31 ⟨Or.inr (Or.inr z.1), z.2⟩
        · omega)]
    have s2 : mI mh b j = mI mc b j := by
      rw [hmh, mI_setI, if_neg (by omega), hmg, mI_setI, if_neg (by omega), hme, mI_setI, if_neg (by omega), hmd, mI_setI, if_neg (by omega)]
    rw [s1, s2, c2.2.2.2.2 _ _ (by omega), ib _ _ (by omega) (by omega), a2.2.2.2.2 _ _ (by omega)]
  · rw [f2 _ _ (by omega), fi _ _ (by omega), hmh, mI_setI, if_neg (by omega), hmg, mI_setI, if_neg (by omega), hme, mI_setI, if_neg (by omega), hmd, mI_setI, if_pos ⟨rfl, rfl⟩, show nS - (gn - 1) = nS - gn + 1 by omega]
  · rw [f2 _ _ (by omega), fi _ _ (by omega), hmh, mI_setI, if_pos ⟨rfl, rfl⟩]
  · rw [f2 _ _ (by omega), fi _ _ (by omega), ih _ _ (by omega) (by omega) (by omega)]; exact a3
  · rw [hm2, mI_setI, if_pos ⟨rfl, rfl⟩]
  · rw [f2 _ _ (by omega), fi _ _ (by omega), ih _ _ (by omega) (by omega) (by omega)]; exact a4
  · rw [f2 _ _ (by omega), fi _ _ (by omega), hmh, mI_setI, if_neg (by omega), hmg, mI_setI, if_neg (by omega), hme, mI_setI, if_neg (by omega), hmd, mI_setI, if_neg (by omega), c3 p (by omega) (by omega), ib _ _ (by omega) (by omega), a2.2.2.2.2 _ _ (by omega), ho _ (by omega), show p + (gn - 1) = p + gn - 1 by omega]
  · rw [f2 _ _ (by omega), fi _ _ (by omega)]
    by_cases e : s = s0
    · subst e
      rw [va_s, hmh, mI_setI, if_neg (by omega), hmg, mI_setI, if_neg (by omega), hme, mI_setI, if_neg (by omega), hmd, mI_setI, if_neg (by omega), c2.2.2.2.2 _ _ (by omega), hmb, mI_setI, if_neg (by omega), hmf, mI_setI, if_neg (by omega), mI_setI, if_pos ⟨rfl, rfl⟩]; rfl
    · rw [va_n e, ih _ _ (by omega) (by omega) (by omega)]
      exact a5 s hs
  · have g : ∀ b j, b = X + 31 ∨ b = X + 32 ∨ b = X + 33 → mI m2 b j = mI ma b j := fun b j hb => by
      rw [f2 _ _ (by omega), fi _ _ (by omega), ih _ _ (by omega) (by omega) (by omega)]
    rw [g _ _ (Or.inl rfl), g _ _ (Or.inr (Or.inl rfl))]
    refine ⟨(a6 r hr).1, fun i hi => ?_⟩
    rw [g _ _ (Or.inr (Or.inr rfl))]
    exact (a6 r hr).2 i hi
  · have g : ∀ b, b = X + 15 ∨ b = X + 16 → mI m2 b a = mI m b a := fun b hb => by
      rw [f2 _ _ (by omega), j2.2.2.2.2 _ _ (fun z => by
        rcases z with z | z | ⟨-, r, -, r2, r3, r4⟩
        · omega
        · omega
        · exact ha r r2 r3 r4.symm), ih0 _ _ (by omega) (by omega) (by omega) (by omega)]
    exact ⟨g _ (Or.inl rfl), g _ (Or.inr rfl)⟩
  · rw [f2 _ _ (by omega), fi _ _ (by omega), hmh, mI_setI, if_neg (by omega), hmg, mI_setI, if_neg (by omega), hme, mI_setI, if_neg (by omega), hmd, mI_setI, if_neg (by omega), c2.2.2.2.2 _ _ (by omega), hmb, mI_setI, if_pos ⟨rfl, rfl⟩]
  · rw [f2 _ _ (by omega), fi _ _ (by omega), hmh, mI_setI, if_neg (by omega), hmg, mI_setI, if_pos ⟨rfl, rfl⟩]
  · rw [f2 _ _ (by omega), fi _ _ (by omega), hmh, mI_setI, if_neg (by omega), hmg, mI_setI, if_neg (by omega), hme, mI_setI, if_pos ⟨rfl, rfl⟩]
  · rw [f2 _ _ (by omega)]; exact j3
  · obtain ⟨⟨x1, x2, x3⟩, x4⟩ := j4 q (by omega) hq
    rw [f2 _ _ (by omega), f2 _ _ (by omega), f2 _ _ (by omega), f2 _ _ (by omega), f2 _ _ (by omega)]
    exact ⟨⟨x1, x2, x3⟩, x4⟩
end ENDQ2
