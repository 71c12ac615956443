section FLU2
variable {X c : Nat} {m : Mem}
theorem RG_congr {gn gp gt gw gl ca : Nat} {od sa od2 sa2 ga : Nat → Nat} {gg : Nat → Nat → Int32} {nk : Nat → Nat} {nv : Nat → Int32} {nt : Nat → Nat} (g : RG X gn gp gt gw gl ca od sa ga gg nk nv nt m) (h : ∀ k, k < gn → sa2 (od2 (gp + k)) = sa (od (gp + k))) : RG X gn gp gt gw gl ca od2 sa2 ga gg nk nv nt m := by
  obtain ⟨g1, g2, g3⟩ := g
  refine ⟨g1, g2, fun q => ?_⟩
  obtain ⟨e1, ⟨e2, e3, e4⟩, e5, e6, e7⟩ := g3 q
  refine ⟨e1, ⟨e2, e3, fun k hk => ?_⟩, e5, fun k hk => ?_, e7⟩
  · show mR m (ca + 1) k = some (sa2 (od2 (gp + k))) ∧ _
    rw [h k hk]; exact e4 k hk
  · rw [h k hk]; exact e6 k hk
theorem WG_congr {top top2 nS nS2 gn gp gt gw gl ca : Nat} {us us2 : Nat → Bool} {od sa sz od2 sa2 sz2 ga : Nat → Nat} {rk rk2 : Nat → Nat → Nat} {rv rv2 : Nat → Nat → Int32} {lv lv2 : Nat → Nat → Bool} {gg : Nat → Nat → Int32} {wk wi nk : Nat → Nat} {nv : Nat → Int32} {nt tt : Nat → Nat} (g : WG X top c nS gn gp gt gw gl ca us od sa sz ga rk rv lv gg wk wi nk nv nt tt) (ht : top ≤ top2) (hn : nS ≤ nS2)
    (h : ∀ p, p < nS → od2 p = od p ∧ sz2 (od p) = sz (od p) ∧ rk2 (od p) = rk (od p) ∧ rv2 (od p) = rv (od p) ∧ lv2 (od p) = lv (od p)) (hd : ∀ s, us2 s = true → (us s = true ∧ sa2 s = sa s) ∨ top ≤ sa2 s) : WG X top2 c nS2 gn gp gt gw gl ca us2 od2 sa2 sz2 ga rk2 rv2 lv2 gg wk wi nk nv nt tt := by
  obtain ⟨t1, t2⟩ := g
  refine ⟨t1, ?_⟩
  rcases t2 with t | ⟨⟨a1, a2, a3⟩, ⟨b1, b2, b3⟩, ⟨d1, d2, d3⟩, g4, g5, g6, g7, g8, g9⟩
  · exact Or.inl t
  · have H : ∀ k, k < gn → od2 (gp + k) = od (gp + k) ∧ sz2 (od (gp + k)) = sz (od (gp + k)) ∧ rk2 (od (gp + k)) = rk (od (gp + k)) ∧ rv2 (od (gp + k)) = rv (od (gp + k)) ∧ lv2 (od (gp + k)) = lv (od (gp + k)) := fun k hk => h (gp + k) (by omega)
    refine Or.inr ⟨⟨a1, a2, by omega⟩, ⟨fun k hk => ?_, b2, ?_⟩, ⟨d1, by omega, fun s hs => ?_⟩, g4, fun j hj => ?_, g6, fun k i r j hk hi hr hj hj2 => ?_, fun j k i hj hk h1 h2 h3 => ?_, fun k i hk hi hl => ?_⟩
    · obtain ⟨h1, h2, h3, h4, h5⟩ := H k hk
      rw [h1, h2]; exact b1 k hk
    · rw [b3]
      exact sumF_congr (fun k hk => by
        obtain ⟨h1, h2, h3, h4, h5⟩ := H k hk
        rw [h1, h2])
    · rcases hd s hs with ⟨q1, q2⟩ | q
      · rw [q2]; exact d3 s q1
      · exact Or.inl (by omega)
    · obtain ⟨y1, y2, y3, y4, y5, y6, y7⟩ := g5 j hj
      obtain ⟨h1, h2, h3, h4, h5⟩ := H _ y1
      rw [h1, h3, h4, h5]
      exact ⟨y1, y2, y3, y4, y5, y6, y7⟩
    · obtain ⟨h1, h2, h3, h4, h5⟩ := H k hk
      obtain ⟨k1, k2, k3, k4, k5⟩ := H r hr
      rw [k1, k2] at hj2
      rw [h1, h3, k1, k3]
      exact g7 k i r j hk hi hr hj hj2
    · obtain ⟨k1, k2, k3, k4, k5⟩ := H k hk
      rw [k1, k2] at h2
      rw [k1, k3] at h3
      rw [k1, k5]
      exact g8 j k i hj hk h1 h2 h3
    · obtain ⟨k1, k2, k3, k4, k5⟩ := H k hk
      rw [k1, k5] at hl
      exact g9 k i hk hi hl
def FS (X nS s0 nM : Nat) (b j : Nat) : Prop := (b = X ∧ (j = 3 ∨ j = 4 ∨ j = 5)) ∨ (b = X + 2 ∧ j = 2) ∨ (b = X + 12 ∧ (j = 0 ∨ j = 5 ∨ j = 7 ∨ j = 16 ∨ j = 17)) ∨ (b = X + 18 ∧ j = nS) ∨ ((b = X + 19 ∨ b = X + 20 ∨ b = X + 21 ∨ b = X + 22) ∧ j = s0) ∨ ((b = X + 23 ∨ b = X + 24 ∨ b = X + 25) ∧ 100 * s0 ≤ j ∧ j < 100 * s0 + nM) ∨ b = X + 15 ∨ b = X + 16
theorem FS_lt {nS s0 nM b j : Nat} (h : FS X nS s0 nM b j) : b < X + 37 := by
  unfold FS at h
  omega
theorem FS_b {nS s0 nM b j : Nat} (h : b ≠ X ∧ b ≠ X + 2 ∧ b ≠ X + 12 ∧ (b < X + 15 ∨ X + 16 < b) ∧ (b < X + 18 ∨ X + 25 < b)) : ¬ FS X nS s0 nM b j := fun q => by
  unfold FS at q
  omega
theorem FS_12 {nS s0 nM j : Nat} (h : j ≠ 0 ∧ j ≠ 5 ∧ j ≠ 7 ∧ j ≠ 16 ∧ j ≠ 17) : ¬ FS X nS s0 nM (X + 12) j := fun q => by
  unfold FS at q
  omega
theorem FS_0 {nS s0 nM j : Nat} (h : j ≠ 3 ∧ j ≠ 4 ∧ j ≠ 5) : ¬ FS X nS s0 nM X j := fun q => by
  unfold FS at q
  omega
theorem FS_18 {nS s0 nM j : Nat} (h : j ≠ nS) : ¬ FS X nS s0 nM (X + 18) j := fun q => by
  unfold FS at q
  omega
theorem FS_s {nS s0 nM b j : Nat} (hb : b = X + 19 ∨ b = X + 20 ∨ b = X + 21 ∨ b = X + 22) (h : j ≠ s0) : ¬ FS X nS s0 nM b j := fun q => by
  unfold FS at q
  omega
theorem FS_r {nS s0 nM b s i : Nat} (hb : b = X + 23 ∨ b = X + 24 ∨ b = X + 25) (h : s ≠ s0) (hi : i < 100) (hn : nM ≤ 100) : ¬ FS X nS s0 nM b (100 * s + i) := fun q => by
  unfold FS at q
  omega
/-- all that flush does to the memory -/
theorem flush_mem {nM nS nn s0 : Nat} {mk : Nat → Nat} {v : Nat → Int32} {us : Nat → Bool} (hL : SL X m) (l4 : WM nM mk) (hn0 : nM ≠ 0) (hn20 : nS < 20) (l3 : (mI m (X + 2) 2 = nI nM ∧ mI m (X + 12) 5 = nI nM) ∧ ∀ j, j < nM → mI m (X + 3) j = nI (mk j) ∧ mI m (X + 17) j = nI (mk j) ∧ mI m (X + 4) j = v (mk j)) (l1 : ∀ k, k < 100 → mI m (X + 13) k = v k) (s1 : mI m X 3 = nI nS ∧ mI m (X + 12) 7 = nI nS) (rn : mI m X 4 = nI nn ∧ mI m (X + 12) 16 = nI nn) (hu : ∀ s, s < 21 → mI m (X + 19) s = b2i (us s)) (hs0 : s0 < 21) (hf0 : us s0 = false) (hf1 : ∀ r, r < s0 → us r = true) :
    ∃ m1 m2, f_X3_flush X m = some (nI nn, m1) ∧ SL X m1 ∧ f_X4_flush (X + 12) m1 = some (nI nn, m2) ∧ SL X m2 ∧ mS m2 = mS m + 5 ∧ (Agd X (FS X nS s0 nM) (fun b j => b = X + 5 ∧ j = nS) m m2 ∧ (∀ k, (∀ q, q < nM → mk q ≠ k) → mI m2 (X + 15) k = mI m (X + 15) k ∧ mI m2 (X + 16) k = mI m (X + 16) k)) ∧
      (SgK m2 (mS m) nM ∧ mI m2 (mS m) 0 = nI nn ∧ mI m2 (mS m) 1 = 0 ∧ mI m2 (mS m) 2 = nI nM ∧ mI m2 (mS m) 7 = nI nM) ∧
      (mR m2 (X + 5) nS = some (mS m) ∧ mI m2 X 3 = nI (nS + 1) ∧ mI m2 X 4 = nI (nn + 1) ∧ mI m2 X 5 = mI m X 5 + nI nM ∧ mI m2 (X + 2) 2 = 0) ∧
      (mI m2 (X + 12) 5 = 0 ∧ mI m2 (X + 12) 7 = nI (nS + 1) ∧ mI m2 (X + 12) 16 = nI (nn + 1) ∧ mI m2 (X + 12) 17 = mI m (X + 12) 17 + nI nM) ∧
      (mI m2 (X + 18) nS = nI s0 ∧ mI m2 (X + 19) s0 = 1 ∧ mI m2 (X + 20) s0 = nI nn ∧ mI m2 (X + 21) s0 = 0 ∧ mI m2 (X + 22) s0 = nI nM) ∧
      ∀ q, q < nM → (mI m2 (mS m + 1) (rankN mk nM (mk q)) = nI (mk q) ∧ mI m2 (mS m + 2) (rankN mk nM (mk q)) = v (mk q) ∧ mI m2 (mS m + 3) (rankN mk nM (mk q)) = 1) ∧ (mI m2 (X + 23) (100 * s0 + rankN mk nM (mk q)) = nI (mk q) ∧ mI m2 (X + 24) (100 * s0 + rankN mk nM (mk q)) = v (mk q) ∧ mI m2 (X + 25) (100 * s0 + rankN mk nM (mk q)) = 1) ∧ mI m2 (X + 15) (mk q) = nI s0 ∧ mI m2 (X + 16) (mk q) = nI (rankN mk nM (mk q)) := by
  have h6 := l4.1
  have hX := hL.1
  have n20 : ¬ nI nS = (20 : Int32) := fun q => by
    have := (nI_eq (a := nS) (b := 20) (by omega) (by decide)).mp q
    omega
  obtain ⟨ma, a1, a2, a3, a4, ⟨a5, a6, a7, a8⟩, a9⟩ := asSeg_x (v := v) l4 hL l3.1.1 (fun j hj => ⟨(l3.2 j hj).1, (l3.2 j hj).2.2⟩) (nI nn)
  obtain ⟨a, hae⟩ : ∃ a, a = mS m := ⟨_, rfl⟩
  rw [← hae] at a1 a2 a3 a4 a5 a6 a7 a8 a9 hX ⊢
  have hLa : SL X ma := SL_eq hL (by omega) (fun j hj => ⟨(a2 (X + j) (by omega)).1, (a2 (X + j) (by omega)).2.1⟩) (fun j k b hj _ _ z => by rw [(a2 (X + j) (by omega)).2.2.2]; exact z)
  have iaa : ∀ b j, b < X + 37 → mI ma b j = mI m b j := fun b j hb => by rw [(a2 b (by omega)).2.2.1]
  obtain ⟨q0, hq0⟩ : ∃ q0, q0 = setR ma (X + 5) nS (some a) := ⟨_, rfl⟩
  have hLq0 : SL X q0 := by rw [hq0]; exact SL_setR hLa (by omega)
  have hk0 : mK q0 a = 2 := by rw [hq0]; exact a4.1.1
  have i0 : ∀ b j, mI q0 b j = mI ma b j := fun b j => by rw [hq0]; rfl
  obtain ⟨mb, hmb⟩ : ∃ mb, mb = setI q0 X 3 (nI (nS + 1)) := ⟨_, rfl⟩
  obtain ⟨mc, hmc⟩ : ∃ mc, mc = setI mb X 4 (nI (nn + 1)) := ⟨_, rfl⟩
  obtain ⟨md, hmd⟩ : ∃ md, md = setI mc X 5 (mI m X 5 + nI nM) := ⟨_, rfl⟩
  obtain ⟨m1, hm1⟩ : ∃ m1, m1 = setI md (X + 2) 2 0 := ⟨_, rfl⟩
  have hLb : SL X mb := by rw [hmb]; exact hLq0
  have hLc : SL X mc := by rw [hmc]; exact hLb
  have hLd : SL X md := by rw [hmd]; exact hLc
  have hL1 : SL X m1 := by rw [hm1]; exact hLd
  have hA1 : Ag (fun b j => (b = X ∧ (j = 3 ∨ j = 4 ∨ j = 5)) ∨ (b = X + 2 ∧ j = 2)) q0 m1 := by
    rw [hm1, hmd, hmc, hmb]
    refine (((Ag.setI.trans Ag.setI).trans Ag.setI).trans Ag.setI).mono (fun b j q => ?_)
    rcases q with ((⟨rfl, rfl⟩ | ⟨rfl, rfl⟩) | ⟨rfl, rfl⟩) | ⟨rfl, rfl⟩ <;> simp
  have i1 : ∀ b j, b < X + 37 → ¬ ((b = X ∧ (j = 3 ∨ j = 4 ∨ j = 5)) ∨ (b = X + 2 ∧ j = 2)) → mI m1 b j = mI m b j := fun b j hb q => by
    rw [hA1.2.2.2.2 _ _ q, i0, iaa b j hb]
  obtain ⟨me, hme⟩ : ∃ me, me = setI m1 (X + 12) 0 0 := ⟨_, rfl⟩
  have hLe : SL X me := by rw [hme]; exact hL1
  obtain ⟨mf, hmf⟩ : ∃ mf, mf = setI (setI me (X + 19) s0 1) (X + 22) s0 0 := ⟨_, rfl⟩
  have hLf : SL X mf := by rw [hmf]; exact hLe
  obtain ⟨mg, hmg⟩ : ∃ mg, mg = setI mf (X + 21) s0 0 := ⟨_, rfl⟩
  have hLg : SL X mg := by rw [hmg]; exact hLf
  obtain ⟨mh, hmh⟩ : ∃ mh, mh = setI mg (X + 20) s0 (nI nn) := ⟨_, rfl⟩
  have hLh : SL X mh := by rw [hmh]; exact hLg
  obtain ⟨mi, hmi⟩ : ∃ mi, mi = setI mh (X + 12) 16 (nI (nn + 1)) := ⟨_, rfl⟩
  have hLi : SL X mi := by rw [hmi]; exact hLh
  have hAi : Ag (fun b j => (b = X + 12 ∧ (j = 0 ∨ j = 16)) ∨ ((b = X + 19 ∨ b = X + 20 ∨ b = X + 21 ∨ b = X + 22) ∧ j = s0)) m1 mi := by
    rw [hmi, hmh, hmg, hmf, hme]
    refine (((((Ag.setI.trans Ag.setI).trans Ag.setI).trans Ag.setI).trans Ag.setI).trans Ag.setI).mono (fun b j q => ?_)
    rcases q with ((((⟨rfl, rfl⟩ | ⟨rfl, rfl⟩) | ⟨rfl, rfl⟩) | ⟨rfl, rfl⟩) | ⟨rfl, rfl⟩) | ⟨rfl, rfl⟩ <;> simp
  have ii : ∀ b j, b < X + 37 → ¬ ((b = X ∧ (j = 3 ∨ j = 4 ∨ j = 5)) ∨ (b = X + 2 ∧ j = 2)) → ¬ ((b = X + 12 ∧ (j = 0 ∨ j = 16)) ∨ ((b = X + 19 ∨ b = X + 20 ∨ b = X + 21 ∨ b = X + 22) ∧ j = s0)) → mI mi b j = mI m b j := fun b j hb q q2 => by
    rw [hAi.2.2.2.2 _ _ q2, i1 b j hb q]
  obtain ⟨mj, j1, j2, j3, j4, j5⟩ := flush_q (X := X) (v := v) (s := s0) l4 hs0 100 2100 0 mi (by omega) (by omega) hLi (by rw [ii _ _ (by omega) (by omega) (by omega)]; exact l3.1.2) (fun j hj => by rw [ii _ _ (by omega) (by omega) (by omega)]; exact (l3.2 j hj).2.1) (fun k hk => by rw [ii _ _ (by omega) (by omega) (by omega)]; exact l1 k hk) (by
    rw [hmi, mI_setI, if_neg (by omega), hmh, mI_setI, if_neg (by omega), hmg, mI_setI, if_neg (by omega), hmf, mI_setI, if_pos ⟨rfl, rfl⟩, rank_0]; rfl)
  have hLj : SL X mj := j2.SL hLi
  rw [rank_0] at j2 j4
  have jf : ∀ b j, ¬ (((b = X + 23 ∨ b = X + 24 ∨ b = X + 25) ∧ 100 * s0 ≤ j ∧ j < 100 * s0 + nM) ∨ (b = X + 22 ∧ j = s0) ∨ (b = X + 12 ∧ j = 17)) → ¬ (b = X + 15 ∨ b = X + 16) → mI mj b j = mI mi b j := fun b j z z2 => j2.2.2.2.2 _ _ (fun q => by
    rcases q with q | q | ⟨q, -⟩ | q
    · exact z (Or.inl q)
    · exact z (Or.inr (Or.inl q))
    · exact z2 q
    · exact z (Or.inr (Or.inr q)))
  obtain ⟨mk', hmk'⟩ : ∃ mk', mk' = setI mj (X + 12) 5 0 := ⟨_, rfl⟩
  have hLk : SL X mk' := by rw [hmk']; exact hLj
  obtain ⟨ml, hml⟩ : ∃ ml, ml = setI mk' (X + 18) nS (nI s0) := ⟨_, rfl⟩
  have hLl : SL X ml := by rw [hml]; exact hLk
  obtain ⟨m2, hm2⟩ : ∃ m2, m2 = setI ml (X + 12) 7 (nI (nS + 1)) := ⟨_, rfl⟩
  have hL2 : SL X m2 := by rw [hm2]; exact hLl
  have hA2 : Ag (fun b j => (b = X + 12 ∧ (j = 5 ∨ j = 7)) ∨ (b = X + 18 ∧ j = nS)) mj m2 := by
    rw [hm2, hml, hmk']
    refine ((Ag.setI.trans Ag.setI).trans Ag.setI).mono (fun b j q => ?_)
    rcases q with (⟨rfl, rfl⟩ | ⟨rfl, rfl⟩) | ⟨rfl, rfl⟩ <;> simp
  have hAA : Ag (FS X nS s0 nM) q0 m2 := by
    refine (((hA1.trans hAi).trans j2).trans hA2).mono (fun b j q => ?_)
    rcases q with ((q | q) | (q | q | ⟨q, -⟩ | q)) | q
    · rcases q with q | q
      · exact Or.inl q
      · exact Or.inr (Or.inl q)
    · rcases q with ⟨q, z⟩ | q
      · exact Or.inr (Or.inr (Or.inl ⟨q, by omega⟩))
      · exact Or.inr (Or.inr (Or.inr (Or.inr (Or.inl q))))
    · exact Or.inr (Or.inr (Or.inr (Or.inr (Or.inr (Or.inl ⟨q.1, by omega, q.2.2⟩)))))
    · exact Or.inr (Or.inr (Or.inr (Or.inr (Or.inl ⟨by omega, q.2⟩))))
    · exact Or.inr (Or.inr (Or.inr (Or.inr (Or.inr (Or.inr q)))))
    · exact Or.inr (Or.inr (Or.inl ⟨q.1, by omega⟩))
    · rcases q with ⟨q, z⟩ | q
      · exact Or.inr (Or.inr (Or.inl ⟨q, by omega⟩))
      · exact Or.inr (Or.inr (Or.inr (Or.inl q)))
  have hdy : ∀ b, X + 37 ≤ b → eqA ma m2 b := fun b hb => by
    refine ⟨by rw [hAA.1, hq0]; rfl, by rw [hAA.2.1, hq0]; rfl, funext fun j => ?_, ?_⟩
    · rw [hAA.2.2.2.2 b j (fun z => by have := FS_lt z; omega), i0]
    · rw [hAA.2.2.1, hq0]
      funext j
      rw [mR_setR, if_neg (by omega)]
  have hz2 : mS m2 = a + 5 := by rw [hAA.2.2.2.1, hq0]; exact a3
  have hAd : Agd X (FS X nS s0 nM) (fun b j => b = X + 5 ∧ j = nS) m m2 := by
    refine ⟨fun b h1 h2 => ?_, by omega, fun b j h1 h2 => ?_, fun b j h1 h2 => ?_, fun b h1 => ⟨?_, ?_⟩⟩
    · obtain ⟨x1, x2, x3, x4⟩ := hdy b h1
      obtain ⟨y1, y2, y3, y4⟩ := a2 b (by omega)
      exact ⟨x1.trans y1, x2.trans y2, x3.trans y3, x4.trans y4⟩
    · rw [hAA.2.2.2.2 _ _ h2, i0, iaa b j h1]
    · rw [hAA.2.2.1, hq0, mR_setR, if_neg h2, (a2 b (by omega)).2.2.2]
    · rw [hAA.1, hq0, mK_setR, (a2 b (by omega)).1]
    · rw [hAA.2.1, hq0, mN_setR, (a2 b (by omega)).2.1]
  have e20 : mI m2 (X + 20) s0 = nI nn := by rw [hA2.2.2.2.2 _ _ (by omega), jf _ _ (by omega) (by omega), hmi, mI_setI, if_neg (by omega), hmh, mI_setI, if_pos ⟨rfl, rfl⟩]
  refine ⟨m1, m2, ?_, hL1, ?_, hL2, hz2, ⟨hAd, fun k hk => ?_⟩, ?_, ⟨?_, ?_, ?_, ?_, ?_⟩, ⟨?_, ?_, ?_, ?_⟩, ⟨?_, ?_, e20, ?_, ?_⟩, fun q hq => ?_⟩
  · unfold f_X3_flush
    have e1 : mI q0 X 3 = nI nS := by rw [i0, iaa _ _ (by omega)]; exact s1.1
    have e2 : mI mb X 4 = nI nn := by rw [hmb, mI_setI, if_neg (by omega), i0, iaa _ _ (by omega)]; exact rn.1
    have e3 : mI mc X 5 = mI m X 5 := by rw [hmc, mI_setI, if_neg (by omega), hmb, mI_setI, if_neg (by omega), i0, iaa _ _ (by omega)]
    have e4 : mI mc a 2 = nI nM := by rw [hmc, mI_setI, if_neg (by omega), hmb, mI_setI, if_neg (by omega), i0]; exact a7
    have e5 : mI m1 a 0 = nI nn := by rw [hA1.2.2.2.2 _ _ (by omega), i0]; exact a5
    have k5 : mK mc a = 2 := by rw [hmc, hmb]; exact hk0
    have k6 : mK m1 a = 2 := by rw [hA1.1]; exact hk0
    rw [q_gN0_1 hL, q_gI2 hL, l3.1.1, i_f (nI_ne0 (by omega) (by omega)), q_gI0 hL, s1.1, i_f n20, q_gN0_1 hL, q_gI0 hL, rn.1, q_cl2 hL, b_eq a1, q_gN0_2 hLa, q_gI0 hLa, iaa _ _ (by omega), s1.1, b_sR (sk5 hLa) (sn5 hLa) (by omega) (by decide) a4.1.1, ← hq0, q_gI0 hLq0, e1, nI_1, q_pI0 hLq0, ← hmb, q_gI0 hLb, e2, nI_1, q_pI0 hLb, ← hmc, q_gI0 hLc, e3, b_gI k5, e4, q_pI0 hLc, ← hmd, q_gN0_1 hLd, q_pI2 hLd, ← hm1, b_gI k6, e5]; rfl
  · unfold f_X4_flush
    have e5 : mI me (X + 12) 5 = nI nM := by rw [hme, mI_setI, if_neg (by omega), i1 _ _ (by omega) (by omega)]; exact l3.1.2
    have e7 : mI me (X + 12) 7 = nI nS := by rw [hme, mI_setI, if_neg (by omega), i1 _ _ (by omega) (by omega)]; exact s1.2
    have ef := free_spec hLe (us := us) (fun s hs => by rw [hme, mI_setI, if_neg (by omega), i1 _ _ (by omega) (by omega)]; exact hu s hs) hs0 hf0 hf1
    rw [← hmf] at ef
    have e16 : mI mg (X + 12) 16 = nI nn := by rw [hmg, mI_setI, if_neg (by omega), hmf, mI_setI, if_neg (by omega), mI_setI, if_neg (by omega), hme, mI_setI, if_neg (by omega), i1 _ _ (by omega) (by omega)]; exact rn.2
    have e16' : mI mh (X + 12) 16 = nI nn := by rw [hmh, mI_setI, if_neg (by omega)]; exact e16
    have e7k : mI mk' (X + 12) 7 = nI nS := by rw [hmk', mI_setI, if_neg (by omega), jf _ _ (by omega) (by omega), ii _ _ (by omega) (by omega) (by omega)]; exact s1.2
    have e7l : mI ml (X + 12) 7 = nI nS := by rw [hml, mI_setI, if_neg (by omega)]; exact e7k
    rw [q_pI12 hL1, ← hme, q_gI12 hLe, e5, i_f (nI_ne0 (by omega) (by omega)), q_gI12 hLe, e7, i_f n20, q_cl12 hLe, b_eq ef, q_gN12_11 hLf, q_sI21 hLf hs0, ← hmg, q_gN12_10 hLg, q_gI12 hLg, e16, q_sI20 hLg hs0, ← hmh, q_gI12 hLh, e16', nI_1, q_pI12 hLh, ← hmi, b_eq (show f_X4_flush_L61 2100 (X + 12) (nI s0) 0 mi = _ from j1), q_pI12 hLj, ← hmk', q_gN12_8 hLk, q_gI12 hLk, e7k, q_sI18 hLk (by omega), ← hml, q_gI12 hLl, e7l, nI_1, q_pI12 hLl, ← hm2, q_gN12_10 hL2, q_lI20 hL2 hs0, e20]; rfl
  · have hq : ∀ b, b = X + 15 ∨ b = X + 16 → mI m2 b k = mI m b k := fun b hb => by
      rw [hA2.2.2.2.2 _ _ (by omega), j2.2.2.2.2 b k (fun z => by
        rcases z with z | z | ⟨z, p, p1, p2, p3⟩ | z
        · omega
        · omega
        · exact hk p p1 p3.symm
        · omega), ii _ _ (by omega) (by omega) (by omega)]
    exact ⟨hq _ (Or.inl rfl), hq _ (Or.inr rfl)⟩
  · have x0 := hdy a (by omega)
    have x1 := hdy (a + 1) (by omega)
    have x2 := hdy (a + 2) (by omega)
    have x3 := hdy (a + 3) (by omega)
    have x4 := hdy (a + 4) (by omega)
    unfold SgK at a4 ⊢
    rw [x0.1, x0.2.2.2, x1.1, x2.1, x3.1, x4.1, x1.2.1, x2.2.1, x3.2.1, x4.2.1, x0.2.2.1]
    exact ⟨a4, a5, a6, a7, a8⟩
  · rw [hAA.2.2.1, hq0, mR_setR, if_pos ⟨rfl, rfl⟩]
  · rw [hA2.2.2.2.2 _ _ (by omega), jf _ _ (by omega) (by omega), hAi.2.2.2.2 _ _ (by omega), hm1, mI_setI, if_neg (by omega), hmd, mI_setI, if_neg (by omega), hmc, mI_setI, if_neg (by omega), hmb, mI_setI, if_pos ⟨rfl, rfl⟩]
  · rw [hA2.2.2.2.2 _ _ (by omega), jf _ _ (by omega) (by omega), hAi.2.2.2.2 _ _ (by omega), hm1, mI_setI, if_neg (by omega), hmd, mI_setI, if_neg (by omega), hmc, mI_setI, if_pos ⟨rfl, rfl⟩]
  · rw [hA2.2.2.2.2 _ _ (by omega), jf _ _ (by omega) (by omega), hAi.2.2.2.2 _ _ (by omega), hm1, mI_setI, if_neg (by omega), hmd, mI_setI, if_pos ⟨rfl, rfl⟩]
  · rw [hA2.2.2.2.2 _ _ (by omega), jf _ _ (by omega) (by omega), hAi.2.2.2.2 _ _ (by omega), hm1, mI_setI, if_pos ⟨rfl, rfl⟩]
  · rw [hm2, mI_setI, if_neg (by omega), hml, mI_setI, if_neg (by omega), hmk', mI_setI, if_pos ⟨rfl, rfl⟩]
  · rw [hm2, mI_setI, if_pos ⟨rfl, rfl⟩]
  · rw [hA2.2.2.2.2 _ _ (by omega), jf _ _ (by omega) (by omega), hmi, mI_setI, if_pos ⟨rfl, rfl⟩]
  · rw [hA2.2.2.2.2 _ _ (by omega), j4, ii _ _ (by omega) (by omega) (by omega)]; rfl
  · rw [hm2, mI_setI, if_neg (by omega), hml, mI_setI, if_pos ⟨rfl, rfl⟩]
  · rw [hA2.2.2.2.2 _ _ (by omega), jf _ _ (by omega) (by omega), hmi, mI_setI, if_neg (by omega), hmh, mI_setI, if_neg (by omega), hmg, mI_setI, if_neg (by omega), hmf, mI_setI, if_neg (by omega), mI_setI, if_pos ⟨rfl, rfl⟩]
  · rw [hA2.2.2.2.2 _ _ (by omega), jf _ _ (by omega) (by omega), hmi, mI_setI, if_neg (by omega), hmh, mI_setI, if_neg (by omega), hmg, mI_setI, if_pos ⟨rfl, rfl⟩]
  · rw [hA2.2.2.2.2 _ _ (by omega)]; exact j3
  · obtain ⟨x1, x2, x3⟩ := j5 q hq (by omega)
    rw [(hdy (a + 1) (by omega)).2.2.1, (hdy (a + 2) (by omega)).2.2.1, (hdy (a + 3) (by omega)).2.2.1, hA2.2.2.2.2 _ _ (by omega), hA2.2.2.2.2 _ _ (by omega), hA2.2.2.2.2 _ _ (by omega), hA2.2.2.2.2 _ _ (by omega), hA2.2.2.2.2 _ _ (by omega)]
    exact ⟨a9 q hq, x1, x2, x3⟩
end FLU2
