/-! full, merging, stop, seen, shut, view -/
/-- the state's parts over a memory that differs at static cells only -/
theorem Ag.dyn {S : Nat → Nat → Prop} {m m2 : Mem} {X : Nat} (hS : ∀ b j, S b j → b < X + 37) {b : Nat} (hb : X + 37 ≤ b) (j : Nat) : ¬ S b j := fun q => by
  have := hS b j q
  omega
theorem Ag.IS' {S : Nat → Nat → Prop} {m m2 : Mem} {X c nS nn : Nat} {us : Nat → Bool} {od sa sz num ti : Nat → Nat} {rk : Nat → Nat → Nat} {rv : Nat → Nat → Int32} (h : Ag S m m2) (g : IS X c nS nn us od sa sz num ti rk rv m) (hS : ∀ b j, X + 37 ≤ b → ¬ S b j) (s1 : ∀ k, (¬ S (X + 18) k ∧ ¬ S (X + 19) k) ∧ ¬ S (X + 20) k ∧ ¬ S (X + 21) k ∧ ¬ S (X + 22) k ∧ ¬ S (X + 23) k ∧ ¬ S (X + 24) k) (s2 : (¬ S X 3 ∧ ¬ S (X + 12) 7) ∧ (¬ S X 4 ∧ ¬ S X 5 ∧ ¬ S X 6) ∧ ¬ S (X + 12) 16 ∧ ¬ S (X + 12) 17 ∧ ¬ S (X + 12) 18) : IS X c nS nn us od sa sz num ti rk rv m2 := by
  obtain ⟨g1, g2, g3, g4, g5, F, g6, g7⟩ := g
  refine ⟨h.RO g1 ⟨fun k => (s1 k).1, s2.1⟩, h.RS g2 (fun k => (s1 k).2) (fun s hs => ?_), g3, g4, by rw [h.2.2.2.1]; exact g5, F, h.RN g6 s2.2, g7⟩
  have := (g5.1 s hs).1
  exact ⟨fun k => ⟨hS _ _ (by omega), hS _ _ (by omega)⟩, hS _ _ (by omega), hS _ _ (by omega), hS _ _ (by omega)⟩
theorem Ag.IL' {S : Nat → Nat → Prop} {m m2 : Mem} {X : Nat} {us : Nat → Bool} {sa sz : Nat → Nat} {rk : Nat → Nat → Nat} {lv : Nat → Nat → Bool} {v : Nat → Int32} {nM : Nat} {mk : Nat → Nat} {loc : Nat → Option (Nat × Nat)} {tt : Nat → Nat} (h : Ag S m m2) (g : IL X us sa sz rk lv v nM mk loc tt m) (hsa : ∀ s, us s = true → X + 37 ≤ sa s) (hS : ∀ b j, X + 37 ≤ b → ¬ S b j) (s1 : ∀ k, (¬ S (X + 1) k ∧ ¬ S (X + 13) k) ∧ (¬ S (X + 3) k ∧ ¬ S (X + 17) k ∧ ¬ S (X + 4) k) ∧ ¬ S (X + 25) k ∧ ¬ S (X + 14) k ∧ ¬ S (X + 15) k ∧ ¬ S (X + 16) k) (s2 : ¬ S (X + 2) 2 ∧ ¬ S (X + 12) 5) : IL X us sa sz rk lv v nM mk loc tt m2 := by
  obtain ⟨g1, g2, g3, g4, g5, g6, g7⟩ := g
  refine ⟨h.RV g1 (fun k => (s1 k).1), g2, h.RM g3 ⟨fun k => (s1 k).2.1, s2⟩, g4, h.RLv g5 (fun k => (s1 k).2.2.1) (fun s hs => ?_), h.RLo g6 (fun k => (s1 k).2.2.2), g7⟩
  have := hsa s hs
  exact ⟨hS _ _ (by omega), fun k => hS _ _ (by omega)⟩
theorem Ag.IG' {S : Nat → Nat → Prop} {m m2 : Mem} {X c nS gn ca : Nat} {us : Nat → Bool} {od sa sz : Nat → Nat} {rk : Nat → Nat → Nat} {rv : Nat → Nat → Int32} {lv : Nat → Nat → Bool} {tt : Nat → Nat} (h : Ag S m m2) (g : IG X c nS gn ca us od sa sz rk rv lv tt m) (hsa : ∀ p, p < nS → X + 37 ≤ sa (od p)) (hS : ∀ b j, X + 37 ≤ b → ¬ S b j) (s1 : ∀ k, ¬ S (X + 26) k ∧ ¬ S (X + 30) k ∧ ¬ S (X + 27) k ∧ ¬ S (X + 28) k ∧ ¬ S (X + 29) k) (s2 : ¬ S (X + 12) 19 ∧ ¬ S (X + 12) 20 ∧ ¬ S (X + 12) 21 ∧ ¬ S (X + 12) 22) : IG X c nS gn ca us od sa sz rk rv lv tt m2 := by
  obtain ⟨gp, gt, gw, gl, ga, gg, wk, wi, nk, nv, nt, g1, g2⟩ := g
  refine ⟨gp, gt, gw, gl, ga, gg, wk, wi, nk, nv, nt, h.RG g1 s2 s1 (fun q => ?_) (fun q k i hk => ?_), by rw [h.2.2.2.1]; exact g2⟩
  · rcases g2.2 with g | g
    · omega
    · have := g.2.2.1.1
      exact ⟨fun k => hS _ _ (by omega), hS _ _ (by omega), hS _ _ (by omega), hS _ _ (by omega), hS _ _ (by omega)⟩
  · rcases g2.2 with g | g
    · omega
    · have := hsa (gp + k) (by omega)
      exact hS _ _ (by omega)
theorem Ag.ID' {S : Nat → Nat → Prop} {m m2 : Mem} {X c gn ca : Nat} {us : Nat → Bool} {sa : Nat → Nat} (h : Ag S m m2) (g : ID X c gn ca us sa m) (hS : ∀ b j, X + 37 ≤ b → ¬ S b j) (s1 : ∀ k, ¬ S (X + 31) k ∧ ¬ S (X + 32) k ∧ ¬ S (X + 33) k) (s2 : ¬ S (X + 12) 28) : ID X c gn ca us sa m2 := by
  obtain ⟨dn, da, ea, dm, er, dg, d1, d2⟩ := g
  refine ⟨dn, da, ea, dm, er, dg, h.RD d1 s2 s1 (fun k hk => ?_), by rw [h.2.2.2.1]; exact d2⟩
  have := (d2.2.1 k hk).2.2.1.1
  exact ⟨hS _ _ (by omega), hS _ _ (by omega), fun i => hS _ _ (by omega)⟩
theorem IS_c {X c nS nn : Nat} {us : Nat → Bool} {od sa sz num ti : Nat → Nat} {rk : Nat → Nat → Nat} {rv : Nat → Nat → Int32} {m : Mem} (g : IS X c nS nn us od sa sz num ti rk rv m) : IS X (c + 1) nS nn us od sa sz num ti rk rv m := by
  obtain ⟨g1, g2, g3, g4, g5, F, g6, g7⟩ := g
  exact ⟨g1, g2, g3, g4, g5, F, g6, Nat.le_succ_of_le g7.1, g7.2.1, fun s hs => ⟨(g7.2.2.1 s hs).1, Nat.le_succ_of_le (g7.2.2.1 s hs).2⟩, g7.2.2.2⟩
theorem IG_c {X c nS gn ca : Nat} {us : Nat → Bool} {od sa sz : Nat → Nat} {rk : Nat → Nat → Nat} {rv : Nat → Nat → Int32} {lv : Nat → Nat → Bool} {tt : Nat → Nat} {m : Mem} (g : IG X c nS gn ca us od sa sz rk rv lv tt m) : IG X (c + 1) nS gn ca us od sa sz rk rv lv tt m := by
  obtain ⟨gp, gt, gw, gl, ga, gg, wk, wi, nk, nv, nt, g1, g2⟩ := g
  exact ⟨gp, gt, gw, gl, ga, gg, wk, wi, nk, nv, nt, g1, fun k hk => Nat.le_succ_of_le (g2.1 k hk), g2.2⟩
theorem ID_c {X c gn ca : Nat} {us : Nat → Bool} {sa : Nat → Nat} {m : Mem} (g : ID X c gn ca us sa m) : ID X (c + 1) gn ca us sa m := by
  obtain ⟨dn, da, ea, dm, er, dg, d1, d2⟩ := g
  exact ⟨dn, da, ea, dm, er, dg, d1, d2.1, fun k hk => ⟨(d2.2.1 k hk).1, Nat.le_succ_of_le (d2.2.1 k hk).2.1, (d2.2.1 k hk).2.2⟩, d2.2.2⟩
theorem leL {k n : Nat} (h : k ≤ n) (hn : n < 2 ^ 31) : nI k ≤ nI n := (nI_leI (by omega) hn).mpr h
theorem ltL {k n : Nat} (h : n ≤ k) (hk : k < 2 ^ 31) : ¬ nI k < nI n := fun q => by rw [nI_ltI hk (by omega)] at q; omega
section OPS2
variable {X c : Nat} {m : Mem}
theorem IS_sa {nS nn : Nat} {us : Nat → Bool} {od sa sz num ti : Nat → Nat} {rk : Nat → Nat → Nat} {rv : Nat → Nat → Int32} (g : IS X c nS nn us od sa sz num ti rk rv m) : (∀ s, us s = true → X + 37 ≤ sa s) ∧ ∀ p, p < nS → X + 37 ≤ sa (od p) := ⟨fun s hs => (g.2.2.2.2.1.1 s hs).1, fun p hp => (g.2.2.2.2.1.1 _ (g.2.2.1.2.1 p hp).2).1⟩
theorem op_full (h : Inv X c m) (a : Int32) : ∃ r m1 m2, cl 3 X (f_X3_full X a) m = some (r, m1) ∧ cl 4 (X + 12) (f_X4_full (X + 12) a) m1 = some (r, m2) ∧ Inv X (c + 1) m2 := by
  have hL := h.1
  rcases in_spec a (lo := 2) (hi := 5) 2 6 rfl rfl (by decide) (setI m (X + 12) 0 0) with ⟨k, hk1, hk2, rfl, e⟩ | ⟨hk, e⟩
  · obtain ⟨-, hw, nS, nn, us, od, sa, sz, num, ti, rk, rv, lv, v, nM, mk, loc, tt, gn, ca, hIS, hIL, hIG, hID⟩ := h
    obtain ⟨F, rn, wn⟩ := hIS.2.2.2.2.2
    refine ⟨nI F, setI m X 6 (nI k), setI (setI (setI m X 6 (nI k)) (X + 12) 0 0) (X + 12) 18 (nI k), ?_, ?_, ?_⟩
    · rw [q_ce0 hL]
      unfold f_X3_full
      rw [i_f (fun q => by
        have q2 : nI k < nI 2 := q
        rw [nI_ltI (by omega) (by decide)] at q2
        omega), i_t (show nI k ≤ (5 : Int32) from leL (n := 5) (by omega) (by decide)), q_gI0 hL, q_pI0 hL, rn.2.2.1]
      rfl
    · have hL1 : SL X (setI m X 6 (nI k)) := hL
      have hL2 : SL X (setI (setI m X 6 (nI k)) (X + 12) 0 0) := hL
      rw [q_ce12 hL1]
      unfold f_X4_full
      rw [q_pI12 hL1]
      rcases in_spec (nI k) (lo := 2) (hi := 5) 2 6 rfl rfl (by decide) (setI (setI m X 6 (nI k)) (X + 12) 0 0) with ⟨k3, -, -, -, e3⟩ | ⟨hk3, e3⟩
      · rw [b_eq e3, i_f n10, q_gI12 hL2, q_pI12 hL2, mI_setI, if_neg (by omega), mI_setI, if_neg (by omega), rn.2.2.2]
        rfl
      · exact absurd rfl (hk3 k hk1 hk2)
    · have hA : Ag (fun b j => (b = X ∧ j = 6) ∨ (b = X + 12 ∧ j = 0) ∨ (b = X + 12 ∧ j = 18)) m (setI (setI (setI m X 6 (nI k)) (X + 12) 0 0) (X + 12) 18 (nI k)) := ((Ag.setI.trans Ag.setI).trans Ag.setI).mono (fun b j q => by omega)
      have hsa := IS_sa hIS
      obtain ⟨g1, g2, g3, g4, g5, -⟩ := hIS
      refine ⟨hA.SL hL, hA.IW hw (fun k => ⟨by omega, by omega, by omega, fun w hw => by omega⟩), nS, nn, us, od, sa, sz, num, ti, rk, rv, lv, v, nM, mk, loc, tt, gn, ca, ?_, hA.IL' hIL hsa.1 (fun b j hb => by omega) (fun k => ⟨⟨by omega, by omega⟩, ⟨by omega, by omega, by omega⟩, by omega, by omega, by omega, by omega⟩) ⟨by omega, by omega⟩, IG_c (hA.IG' hIG hsa.2 (fun b j hb => by omega) (fun k => ⟨by omega, by omega, by omega, by omega, by omega⟩) ⟨by omega, by omega, by omega, by omega⟩), ID_c (hA.ID' hID (fun b j hb => by omega) (fun k => ⟨by omega, by omega, by omega⟩) (by omega))⟩
      refine IS_c ⟨hA.RO g1 ⟨fun k => ⟨by omega, by omega⟩, by omega, by omega⟩, hA.RS g2 (fun k => ⟨by omega, by omega, by omega, by omega, by omega⟩) (fun s hs => ?_), g3, g4, g5, k, ?_, wn.1, ⟨hk1, by omega⟩, wn.2.2⟩
      · have := hsa.1 s hs
        exact ⟨fun k => ⟨by omega, by omega⟩, by omega, by omega, by omega⟩
      · obtain ⟨⟨n1, n2⟩, n3, n4, n5⟩ := rn
        refine ⟨⟨?_, ?_⟩, ?_, ?_, ?_⟩
        · rw [hA.2.2.2.2 _ _ (by omega)]; exact n1
        · rw [hA.2.2.2.2 _ _ (by omega)]; exact n2
        · rw [hA.2.2.2.2 _ _ (by omega), hA.2.2.2.2 _ _ (by omega)]; exact n3
        · rw [mI_setI, if_neg (by omega), mI_setI, if_neg (by omega), mI_setI, if_pos ⟨rfl, rfl⟩]
        · rw [mI_setI, if_pos ⟨rfl, rfl⟩]
  · refine op_q h ⟨-2, ?_, ?_⟩
    · unfold f_X3_full
      by_cases h2 : a < 2
      · rw [i_t h2]; rfl
      · rw [i_f h2, i_f (fun q => ?_)]
        · rfl
        · rw [Int32.lt_iff_toInt_lt] at h2
          rw [Int32.le_iff_toInt_le] at q
          have e2 : (2 : Int32).toInt = 2 := rfl
          have e5 : (5 : Int32).toInt = 5 := rfl
          obtain ⟨k, hk3, rfl⟩ := nI_ofInt (a := a) (n := 6) (by omega) (by omega) (by decide)
          rw [nI_toInt (by omega)] at h2
          exact hk k (by omega) hk3 rfl
    · unfold f_X4_full
      rw [q_pI12 hL, b_eq e, i_t (by rfl)]
      rfl
/-- the reference's left(): the sum that the program keeps -/
theorem sumF_congr {f g : Nat → Nat} {n : Nat} (h : ∀ k, k < n → f k = g k) : sumF f n = sumF g n := by
  induction n with
  | zero => rfl
  | succ n ih =>
    unfold sumF
    rw [ih (fun k hk => h k (by omega)), h n (by omega)]
theorem sumF_le {f : Nat → Nat} {n b : Nat} (h : ∀ k, k < n → f k ≤ b) : sumF f n ≤ b * n := by
  induction n with
  | zero => exact Nat.le_refl _
  | succ n ih =>
    unfold sumF
    have := ih (fun k hk => h k (by omega))
    have := h n (by omega)
    rw [Nat.mul_succ]
    omega
theorem slotOf_eq (hL : SL X m) {gp k : Nat} {od : Nat → Nat} (h20 : mI m (X + 12) 20 = nI gp) (ho : mI m (X + 18) (gp + k) = nI (od (gp + k))) (hk : gp + k < 20) : f_X4_slotOf (X + 12) (nI k) m = some (nI (od (gp + k)), m) := by
  unfold f_X4_slotOf
  rw [q_gN12_8 hL, q_gI12 hL, h20, nI_add, q_lI18 hL hk, ho]
  rfl
theorem left_eq (hL : SL X m) {gn gp : Nat} {od sz ga : Nat → Nat} (h19 : mI m (X + 12) 19 = nI gn) (h20 : mI m (X + 12) 20 = nI gp) (hg : gn ≤ 6) (hp : gp + gn ≤ 20) (ho : ∀ k, k < gn → mI m (X + 18) (gp + k) = nI (od (gp + k)) ∧ od (gp + k) < 21 ∧ mI m (X + 22) (od (gp + k)) = nI (sz (od (gp + k))) ∧ mI m (X + 26) k = nI (ga k) ∧ ga k ≤ sz (od (gp + k))) : f_X4_left (X + 12) m = some (nI (sumF (fun k => sz (od (gp + k)) - ga k) gn), m) := by
  have L : ∀ d f k, k + d = gn → d < f → f_X4_left_L4 f (X + 12) (nI (sumF (fun k => sz (od (gp + k)) - ga k) k)) (nI k) m = some ((nI (sumF (fun k => sz (od (gp + k)) - ga k) gn), nI gn), m) := by
    intro d
    induction d with
    | zero =>
      intro f k hk hf
      obtain ⟨f, rfl⟩ : ∃ g, f = g + 1 := ⟨f - 1, by omega⟩
      have : k = gn := by omega
      subst this
      unfold f_X4_left_L4
      rw [q_gI12 hL, h19, i_t ((nI_leI (by omega) (by omega)).mpr (Nat.le_refl _))]
      rfl
    | succ d ih =>
      intro f k hk hf
      obtain ⟨f, rfl⟩ : ∃ g, f = g + 1 := ⟨f - 1, by omega⟩
      obtain ⟨o1, o2, o3, o4, o5⟩ := ho k (by omega)
      unfold f_X4_left_L4
      rw [q_gI12 hL, h19, i_f (fun q => by rw [nI_leI (by omega) (by omega)] at q; omega), q_gN12_12 hL, q_cl12 hL, b_eq (slotOf_eq hL h20 o1 (by omega)), q_lI22 hL o2, o3, q_gN12_23 hL, q_lI26 hL (by omega), o4, pk_sub o5, nI_add, nI_1]
      exact ih f (k + 1) (by omega) (by omega)
  unfold f_X4_left
  have e := L gn 2100 0 (by omega) (by omega)
  rw [b_eq (show f_X4_left_L4 2100 (X + 12) 0 0 m = _ from e)]
  rfl
theorem op_merging (h : Inv X c m) (a : Int32) : ∃ r m1 m2, cl 3 X (f_X3_merging X a) m = some (r, m1) ∧ cl 4 (X + 12) (f_X4_merging (X + 12) a) m1 = some (r, m2) ∧ Inv X (c + 1) m2 := by
  refine op_q h ?_
  have hL := h.1
  obtain ⟨-, -, nS, nn, us, od, sa, sz, num, ti, rk, rv, lv, v, nM, mk, loc, tt, gn, ca, ⟨s1, s2, s3, -⟩, -, ⟨gp, gt, gw, gl, ga, gg, wk, wi, nk, nv, nt, ⟨g1, g2, g3⟩, g4⟩, -⟩ := h
  have hL2 : SL X (setI m (X + 12) 0 0) := hL
  unfold f_X3_merging f_X4_merging
  rw [q_pI12 hL]
  rcases in_spec a (lo := 0) (hi := 3) 0 4 rfl rfl (by decide) (setI m (X + 12) 0 0) with ⟨k, hk1, hk2, rfl, e⟩ | ⟨hk, e⟩
  · have n1 : ¬ nI k < 0 := nI_pos (by omega)
    have n2 : nI k ≤ (3 : Int32) := leL (n := 3) (by omega) (by decide)
    by_cases hg : gn = 0
    · refine ⟨-3, ?_, ?_⟩
      · rw [i_f n1, i_t n2, q_gR0 hL, g2 hg]; rfl
      · rw [b_eq e, i_f n10, q_gI12 hL2, mI_setI, if_neg (by omega), g1, hg, i_t (by rfl)]; rfl
    · obtain ⟨e1, ⟨⟨q1, q2, q3, q4, q5, q6, q7⟩, ⟨t1, t2, t3, t4⟩, t5⟩, ⟨u1, u2, u3⟩, u4, u5⟩ := g3 (by omega)
      rcases g4.2 with g4 | ⟨⟨w1, w2, w3⟩, ⟨w4, w5, w6⟩, -⟩
      · exact absurd g4 hg
      have h19 : ¬ nI gn = 0 := nI_ne0 (by omega) (by omega)
      have hb : ∀ j, j ≠ 0 → mI (setI m (X + 12) 0 0) (X + 12) j = mI m (X + 12) j := fun j hj => by rw [mI_setI, if_neg (by omega)]
      have hlf : f_X4_left (X + 12) (setI m (X + 12) 0 0) = some (nI gl, setI m (X + 12) 0 0) := by
        rw [w6]
        refine left_eq hL2 (by rw [hb 19 (by decide)]; exact g1) (by rw [hb 20 (by decide)]; exact u1) w2 (by have := s3.1; omega) (fun j hj => ?_)
        have o := s3.2.1 (gp + j) (by omega)
        refine ⟨?_, o.1, ?_, ?_, w4 j hj⟩
        · rw [mI_setI, if_neg (by omega)]; exact (s1.2.1 (gp + j) (by omega)).2
        · rw [mI_setI, if_neg (by omega)]; exact (s2 _ o.2).2.1.2.2
        · rw [mI_setI, if_neg (by omega)]; exact (u4 j hj).1
      rcases (show k = 0 ∨ k = 1 ∨ k = 2 ∨ k = 3 by omega) with rfl | rfl | rfl | rfl
      · refine ⟨nI gt, ?_, ?_⟩
        · rw [i_f n1, i_t n2, q_gR0 hL, e1]
          show ifc _ _ _ m = _
          rw [i_t (by rfl), q_gR0 hL, e1]
          show bnd _ _ m = _
          rw [b_gI q1, t2]; rfl
        · rw [b_eq e, i_f n10, q_gI12 hL2, hb 19 (by decide), g1, i_f h19, i_t (by rfl), q_gI12 hL2, hb 21 (by decide), u2]; rfl
      · refine ⟨nI gw, ?_, ?_⟩
        · rw [i_f n1, i_t n2, q_gR0 hL, e1]
          show ifc _ _ _ m = _
          rw [i_f (by decide), i_t (by rfl), q_gR0 hL, e1]
          show bnd _ _ m = _
          rw [b_gI q1, t3]; rfl
        · rw [b_eq e, i_f n10, q_gI12 hL2, hb 19 (by decide), g1, i_f h19, i_f (by decide), i_t (by rfl), q_gI12 hL2, hb 22 (by decide), u3]; rfl
      · refine ⟨nI gl, ?_, ?_⟩
        · rw [i_f n1, i_t n2, q_gR0 hL, e1]
          show ifc _ _ _ m = _
          rw [i_f (by decide), i_f (by decide), i_t (by rfl), q_gR0 hL, e1]
          show bnd _ _ m = _
          rw [b_gI q1, t4]; rfl
        · rw [b_eq e, i_f n10, q_gI12 hL2, hb 19 (by decide), g1, i_f h19, i_f (by decide), i_f (by decide), i_t (by rfl), q_cl12 hL2, b_eq hlf]; rfl
      · refine ⟨nI gp, ?_, ?_⟩
        · rw [i_f n1, i_t n2, q_gR0 hL, e1]
          show ifc _ _ _ m = _
          rw [i_f (by decide), i_f (by decide), i_f (by decide), q_gR0 hL, e1]
          show bnd _ _ m = _
          rw [b_gI q1, t1]; rfl
        · rw [b_eq e, i_f n10, q_gI12 hL2, hb 19 (by decide), g1, i_f h19, i_f (by decide), i_f (by decide), i_f (by decide), q_gI12 hL2, hb 20 (by decide), u1]; rfl
  · refine ⟨-2, ?_, ?_⟩
    · by_cases h0 : a < 0
      · rw [i_t h0]; rfl
      · rw [i_f h0, i_f (fun q => ?_)]
        · rfl
        · rw [Int32.lt_iff_toInt_lt] at h0
          rw [Int32.le_iff_toInt_le] at q
          have e2 : (0 : Int32).toInt = 0 := rfl
          have e5 : (3 : Int32).toInt = 3 := rfl
          obtain ⟨k, hk3, rfl⟩ := nI_ofInt (a := a) (n := 4) (by omega) (by omega) (by decide)
          exact hk k (by omega) hk3 rfl
    · rw [b_eq e, i_t (by rfl)]; rfl
end OPS2
