/-! The reference's 'thrown' belongs to no part of the state; the count of calls may grow -/
theorem Inv_c {X c d : Nat} {m : Mem} (h : Inv X c m) (hcd : c ≤ d) : Inv X d m := by
  obtain ⟨h1, h2, nS, nn, us, od, sa, sz, num, ti, rk, rv, lv, v, nM, mk, loc, tt, gn, ca, ⟨s1, s2, s3, s4, s5, F, s6, s7⟩, h4, ⟨gp, gt, gw, gl, ga, gg, wk, wi, nk, nv, nt, g1, g2⟩, ⟨dn, da, ea, dm, er, dg, d1, d2⟩⟩ := h
  refine ⟨h1, h2, nS, nn, us, od, sa, sz, num, ti, rk, rv, lv, v, nM, mk, loc, tt, gn, ca, ⟨s1, s2, s3, s4, s5, F, s6, ?_⟩, h4, ⟨gp, gt, gw, gl, ga, gg, wk, wi, nk, nv, nt, g1, ?_⟩, ⟨dn, da, ea, dm, er, dg, d1, ?_⟩⟩
  · exact ⟨Nat.le_trans s7.1 hcd, s7.2.1, fun s hs => ⟨(s7.2.2.1 s hs).1, Nat.le_trans (s7.2.2.1 s hs).2 hcd⟩, s7.2.2.2⟩
  · exact ⟨fun k hk => Nat.le_trans (g2.1 k hk) hcd, g2.2⟩
  · exact ⟨d2.1, fun k hk => ⟨(d2.2.1 k hk).1, Nat.le_trans (d2.2.1 k hk).2.1 hcd, (d2.2.1 k hk).2.2⟩, d2.2.2⟩
section FR
variable {S : Nat → Nat → Prop} {m m2 : Mem} {X : Nat}
theorem Ag.RG {gn gp gt gw gl ca : Nat} {od sa ga : Nat → Nat} {gg : Nat → Nat → Int32} {nk : Nat → Nat} {nv : Nat → Int32} {nt : Nat → Nat} (h : Ag S m m2) (g : RG X gn gp gt gw gl ca od sa ga gg nk nv nt m) (s1 : ¬ S (X + 12) 19 ∧ ¬ S (X + 12) 20 ∧ ¬ S (X + 12) 21 ∧ ¬ S (X + 12) 22) (s2 : ∀ k, ¬ S (X + 26) k ∧ ¬ S (X + 30) k ∧ ¬ S (X + 27) k ∧ ¬ S (X + 28) k ∧ ¬ S (X + 29) k) (s3 : 0 < gn → (∀ k, ¬ S (ca + 2) k) ∧ ¬ S ca 0 ∧ ¬ S ca 3 ∧ ¬ S ca 4 ∧ ¬ S ca 5) (s4 : 0 < gn → ∀ k i, k < gn → ¬ S (sa (od (gp + k)) + 4) i) : RG X gn gp gt gw gl ca od sa ga gg nk nv nt m2 := by
  obtain ⟨g1, g2, g3⟩ := g
  refine ⟨by rw [h.2.2.2.2 _ _ s1.1]; exact g1, fun q => by rw [h.2.2.1]; exact g2 q, fun q => ?_⟩
  obtain ⟨e1, e2, e3, e4, e5⟩ := g3 q
  refine ⟨by rw [h.2.2.1]; exact e1, h.Mg e2 (s3 q), by rw [h.2.2.2.2 _ _ s1.2.1, h.2.2.2.2 _ _ s1.2.2.1, h.2.2.2.2 _ _ s1.2.2.2]; exact e3, fun k hk => ⟨by rw [h.2.2.2.2 _ _ (s2 k).1]; exact (e4 k hk).1, fun i hi => ?_⟩, fun j hj => ?_⟩
  · rw [h.2.2.2.2 _ _ (s2 _).2.1, h.2.2.2.2 _ _ (s4 q k i hk)]
    exact (e4 k hk).2 i hi
  · rw [h.2.2.2.2 _ _ (s2 j).2.2.1, h.2.2.2.2 _ _ (s2 j).2.2.2.1, h.2.2.2.2 _ _ (s2 j).2.2.2.2]
    exact e5 j hj
theorem Ag.RD {dn da : Nat} {ea dm er : Nat → Nat} {dg : Nat → Nat → Int32} (h : Ag S m m2) (g : RD X dn da ea dm er dg m) (s1 : ¬ S (X + 12) 28) (s2 : ∀ k, ¬ S (X + 31) k ∧ ¬ S (X + 32) k ∧ ¬ S (X + 33) k) (s3 : ∀ k, k < dn → ¬ S (ea k) 0 ∧ ¬ S (ea k) 2 ∧ ∀ i, ¬ S (ea k + 4) i) : RD X dn da ea dm er dg m2 := by
  obtain ⟨g1, g2, g3⟩ := g
  refine ⟨by rw [h.2.2.2.2 _ _ s1]; exact g1, fun q => by rw [h.2.2.1]; exact g2 q, fun q => ?_⟩
  obtain ⟨e1, e2, e3⟩ := g3 q
  refine ⟨by rw [h.2.2.1]; exact e1, by rw [h.1, h.2.1, h.2.2.1]; exact e2, fun k hk => ?_⟩
  obtain ⟨f1, f2, f3⟩ := e3 k hk
  refine ⟨by rw [h.1, h.2.1, h.2.2.1]; exact f1, ?_, fun i hi => ?_⟩
  · rw [h.2.2.2.2 _ _ (s3 k hk).1, h.2.2.2.2 _ _ (s3 k hk).2.1, h.2.2.2.2 _ _ (s2 k).1, h.2.2.2.2 _ _ (s2 k).2.1]
    exact f2
  · rw [h.2.2.2.2 _ _ ((s3 k hk).2.2 i), h.2.2.2.2 _ _ (s2 _).2.2]
    exact f3 i hi
theorem Ag.RS {us : Nat → Bool} {sa num ti sz : Nat → Nat} {rk : Nat → Nat → Nat} {rv : Nat → Nat → Int32} (h : Ag S m m2) (g : RS X us sa num ti sz rk rv m) (s1 : ∀ k, ¬ S (X + 20) k ∧ ¬ S (X + 21) k ∧ ¬ S (X + 22) k ∧ ¬ S (X + 23) k ∧ ¬ S (X + 24) k) (s2 : ∀ s, us s = true → (∀ k, ¬ S (sa s + 1) k ∧ ¬ S (sa s + 2) k) ∧ ¬ S (sa s) 0 ∧ ¬ S (sa s) 1 ∧ ¬ S (sa s) 2) : RS X us sa num ti sz rk rv m2 := fun s hs => ⟨h.SgS (g s hs).1 (s2 s hs), h.RfS (g s hs).2 s1⟩
theorem Ag.RLv {us : Nat → Bool} {sa sz : Nat → Nat} {lv : Nat → Nat → Bool} (h : Ag S m m2) (g : RLv X us sa sz lv m) (s1 : ∀ k, ¬ S (X + 25) k) (s2 : ∀ s, us s = true → ¬ S (sa s) 7 ∧ ∀ k, ¬ S (sa s + 3) k) : RLv X us sa sz lv m2 := fun s hs => by
  obtain ⟨⟨g1, g2⟩, g3⟩ := g s hs
  refine ⟨⟨by rw [h.2.2.2.2 _ _ (s2 s hs).1]; exact g1, fun i hi => by rw [h.2.2.2.2 _ _ ((s2 s hs).2 i)]; exact g2 i hi⟩, fun i hi => by rw [h.2.2.2.2 _ _ (s1 _)]; exact g3 i hi⟩
theorem Ag.Inv {c : Nat} (h : Ag S m m2) (hS : ∀ b j, S b j → b = X + 12 ∧ j = 0) (g : Inv X c m) : Inv X c m2 := by
  obtain ⟨h1, h2, nS, nn, us, od, sa, sz, num, ti, rk, rv, lv, v, nM, mk, loc, tt, gn, ca, ⟨s1, s2, s3, s4, s5, F, s6, s7⟩, ⟨l1, l2, l3, l4, l5, l6, l7⟩, ⟨gp, gt, gw, gl, ga, gg, wk, wi, nk, nv, nt, g1, g2⟩, ⟨dn, da, ea, dm, er, dg, d1, d2⟩⟩ := g
  have nS' : ∀ b j, ¬ (b = X + 12 ∧ j = 0) → ¬ S b j := fun b j q z => q (hS b j z)
  have hsa : ∀ s, us s = true → X + 37 ≤ sa s := fun s hs => (s5.1 s hs).1
  have hz := h.2.2.2.1
  refine ⟨h.SL h1, h.IW h2 (fun k => ⟨nS' _ _ (by omega), nS' _ _ (by omega), nS' _ _ (by omega), fun w hw => nS' _ _ (by omega)⟩), nS, nn, us, od, sa, sz, num, ti, rk, rv, lv, v, nM, mk, loc, tt, gn, ca, ⟨h.RO s1 ⟨fun k => ⟨nS' _ _ (by omega), nS' _ _ (by omega)⟩, nS' _ _ (by omega), nS' _ _ (by omega)⟩, ?_, s3, s4, by rw [hz]; exact s5, F, ?_, s7⟩, ⟨?_, l2, ?_, l4, ?_, ?_, l7⟩, ⟨gp, gt, gw, gl, ga, gg, wk, wi, nk, nv, nt, ?_, by rw [hz]; exact g2⟩, ⟨dn, da, ea, dm, er, dg, ?_, by rw [hz]; exact d2⟩⟩
  · exact h.RS s2 (fun k => ⟨nS' _ _ (by omega), nS' _ _ (by omega), nS' _ _ (by omega), nS' _ _ (by omega), nS' _ _ (by omega)⟩) (fun s hs => by
      have := hsa s hs
      exact ⟨fun k => ⟨nS' _ _ (by omega), nS' _ _ (by omega)⟩, nS' _ _ (by omega), nS' _ _ (by omega), nS' _ _ (by omega)⟩)
  · exact h.RN s6 ⟨⟨nS' _ _ (by omega), nS' _ _ (by omega), nS' _ _ (by omega)⟩, nS' _ _ (by omega), nS' _ _ (by omega), nS' _ _ (by omega)⟩
  · exact h.RV l1 (fun k => ⟨nS' _ _ (by omega), nS' _ _ (by omega)⟩)
  · exact h.RM l3 ⟨fun k => ⟨nS' _ _ (by omega), nS' _ _ (by omega), nS' _ _ (by omega)⟩, nS' _ _ (by omega), nS' _ _ (by omega)⟩
  · exact h.RLv l5 (fun k => nS' _ _ (by omega)) (fun s hs => by
      have := hsa s hs
      exact ⟨nS' _ _ (by omega), fun k => nS' _ _ (by omega)⟩)
  · exact h.RLo l6 (fun k => ⟨nS' _ _ (by omega), nS' _ _ (by omega), nS' _ _ (by omega)⟩)
  · refine h.RG g1 ⟨nS' _ _ (by omega), nS' _ _ (by omega), nS' _ _ (by omega), nS' _ _ (by omega)⟩ (fun k => ⟨nS' _ _ (by omega), nS' _ _ (by omega), nS' _ _ (by omega), nS' _ _ (by omega), nS' _ _ (by omega)⟩) (fun q => ?_) (fun q k i hk => ?_)
    · rcases g2.2 with g | g
      · omega
      · have := g.2.2.1.1
        exact ⟨fun k => nS' _ _ (by omega), nS' _ _ (by omega), nS' _ _ (by omega), nS' _ _ (by omega), nS' _ _ (by omega)⟩
    · rcases g2.2 with g | g
      · omega
      · have := hsa (od (gp + k)) (s3.2.1 (gp + k) (by omega)).2
        exact nS' _ _ (by omega)
  · refine h.RD d1 (nS' _ _ (by omega)) (fun k => ⟨nS' _ _ (by omega), nS' _ _ (by omega), nS' _ _ (by omega)⟩) (fun k hk => ?_)
    have := (d2.2.1 k hk).2.2.1.1
    exact ⟨nS' _ _ (by omega), nS' _ _ (by omega), fun i => nS' _ _ (by omega)⟩
theorem Inv_thr {c : Nat} {v : Int32} (h : _root_.Jvm.Pilot.@@N@@.Inv X c m) : _root_.Jvm.Pilot.@@N@@.Inv X (c + 1) (setI m (X + 12) 0 v) := Inv_c (Ag.setI.Inv (fun b j q => q) h) (Nat.le_succ c)
end FR
