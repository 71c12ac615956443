/-! the loops of step -/
section LOOP
variable {X c : Nat} {m : Mem}
variable {ca gp gn : Nat} {A O N T Z : Nat → Nat} {R : Nat → Nat → Nat} {V : Nat → Nat → Int32} {Lv : Nat → Nat → Bool} {tt : Nat → Nat}
theorem left_q {gt gw : Nat} {ga : Nat → Nat} {gg : Nat → Nat → Int32} {nk : Nat → Nat} {nv : Nat → Int32} {nt : Nat → Nat} (h : QM X gp gn gt gw O N T Z ga R V Lv gg nk nv nt tt m) (hg : gn ≤ 6) (hp : gp + gn ≤ 20) (ht : ∀ k, k < gn → ga k ≤ Z k) : f_X4_left (X + 12) m = some (nI (sumF (fun k => Z k - ga k) gn), m) := by
  have hL := h.1
  have L : ∀ d f k, k + d = gn → d < f → f_X4_left_L4 f (X + 12) (nI (sumF (fun k => Z k - ga k) k)) (nI k) m = some ((nI (sumF (fun k => Z k - ga k) gn), nI gn), m) := by
    intro d
    induction d with
    | zero =>
      intro f k hk hf
      obtain ⟨f, rfl⟩ : ∃ g, f = g + 1 := ⟨f - 1, by omega⟩
      have : k = gn := by omega
      subst this
      unfold f_X4_left_L4
      rw [q_gI12 hL, h.2.1.1, i_t (leL (Nat.le_refl _) (by omega))]; rfl
    | succ d ih =>
      intro f k hk hf
      obtain ⟨f, rfl⟩ : ∃ g, f = g + 1 := ⟨f - 1, by omega⟩
      have hk2 : k < gn := by omega
      obtain ⟨⟨h1, -⟩, ⟨-, h3⟩, ⟨⟨-, -, h4⟩, h5⟩, -⟩ := h.2.2.1 k hk2
      unfold f_X4_left_L4
      rw [q_gI12 hL, h.2.1.1, i_f (leN hk2 (by omega)), q_gN12_12 hL, q_cl12 hL, b_eq (slot_q h hp hk2), q_lI22 hL h3, h4, q_gN12_23 hL, q_lI26 hL (by omega), h1, pk_sub (ht k hk2), nI_add, nI_1]
      exact ih f (k + 1) (by omega) (by omega)
  unfold f_X4_left
  rw [b_eq (show f_X4_left_L4 2100 (X + 12) 0 0 m = _ from L gn 2100 0 (by omega) (by omega))]; rfl
theorem gl_le {gt gw gl : Nat} {ga : Nat → Nat} {gg : Nat → Nat → Int32} {wk wi nk : Nat → Nat} {nv : Nat → Int32} {nt : Nat → Nat} (h : WT gn gt gw gl Z ga R V Lv gg wk wi nk nv nt tt) (z : WZ gn Z R Lv) (hg : gn ≤ 6) : gl ≤ 600 := by
  have := sumF_le (f := fun k => Z k - ga k) (n := gn) (b := 100) (fun k hk => by have := (z.1 k hk).1; show Z k - ga k ≤ 100; omega)
  have := h.1.2.2
  omega
theorem step_xq {n : Nat} (hn : n ≤ 1000) (z : WZ gn Z R Lv) (w : WX X ca gp gn A) : ∀ d f f2 t gt gw gl (ga : Nat → Nat) (gg : Nat → Nat → Int32) (wk wi nk : Nat → Nat) (nv : Nat → Int32) (nt : Nat → Nat), t + d = n → d < f → d < f2 → WT gn gt gw gl Z ga R V Lv gg wk wi nk nv nt tt →
    ∃ t' gt' gw' gl' ga' gg' wk' wi' nk' nv' nt', WT gn gt' gw' gl' Z ga' R V Lv gg' wk' wi' nk' nv' nt' tt ∧
      (∀ m, CM X ca gp gn gt gw gl A N T Z ga R V Lv gg m → ∃ m2, f_X3_step_L26 f X (nI n) (nI t) m = some (nI t', m2) ∧ CM X ca gp gn gt' gw' gl' A N T Z ga' R V Lv gg' m2 ∧ Ag (SC ca gn A) m m2) ∧
      ∀ m, QM X gp gn gt gw O N T Z ga R V Lv gg nk nv nt tt m → ∃ m2, f_X4_step_L31 f2 (X + 12) (nI n) (nI t) m = some (nI t', m2) ∧ QM X gp gn gt' gw' O N T Z ga' R V Lv gg' nk' nv' nt' tt m2 ∧ Ag (SQ X) m m2 := by
  intro d
  induction d with
  | zero =>
    intro f f2 t gt gw gl ga gg wk wi nk nv nt ht hf hf2 h
    obtain ⟨f, rfl⟩ : ∃ g, f = g + 1 := ⟨f - 1, by omega⟩
    obtain ⟨f2, rfl⟩ : ∃ g, f2 = g + 1 := ⟨f2 - 1, by omega⟩
    have : t = n := by omega
    subst this
    refine ⟨t, gt, gw, gl, ga, gg, wk, wi, nk, nv, nt, h, fun m hm => ⟨m, ?_, hm, Ag.refl⟩, fun m hm => ⟨m, ?_, hm, Ag.refl⟩⟩
    · unfold f_X3_step_L26
      rw [i_t (leL (Nat.le_refl _) (by omega))]; rfl
    · unfold f_X4_step_L31
      rw [i_t (leL (Nat.le_refl _) (by omega))]; rfl
  | succ d ih =>
    intro f f2 t gt gw gl ga gg wk wi nk nv nt ht hf hf2 h
    obtain ⟨f, rfl⟩ : ∃ g, f = g + 1 := ⟨f - 1, by omega⟩
    obtain ⟨f2, rfl⟩ : ∃ g, f2 = g + 1 := ⟨f2 - 1, by omega⟩
    have htn : ¬ nI n ≤ nI t := leN (by omega) (by omega)
    have hgl := gl_le h z w.1
    have hsum := h.1.2.2
    by_cases hl0 : gl = 0
    · refine ⟨t, gt, gw, gl, ga, gg, wk, wi, nk, nv, nt, h, fun m hm => ⟨m, ?_, hm, Ag.refl⟩, fun m hm => ⟨m, ?_, hm, Ag.refl⟩⟩
      · unfold f_X3_step_L26
        rw [i_f htn, q_gR0 hm.1, hm.2.1]
        show bnd _ _ m = _
        rw [b_gI hm.2.2.1.1.1, hm.2.2.1.2.1.2.2.2, hl0, i_t (by decide)]; rfl
      · unfold f_X4_step_L31
        rw [i_f htn, q_cl12 hm.1, b_eq (left_q hm w.1 w.2.1 h.1.1), ← hsum, hl0, i_t (by decide)]; rfl
    · obtain ⟨b, hb⟩ := bst_some h (by omega) (fun k => R k (ga k))
      obtain ⟨y1, y2, y3⟩ := (bst_spec ga Z (fun k => R k (ga k)) gn).2 b hb
      have nl : ¬ nI gl ≤ 0 := nI_nle (by omega) (by omega)
      have key : ∀ gw1 (gg1 : Nat → Nat → Int32) (wk1 wi1 nk1 : Nat → Nat) (nv1 : Nat → Int32) (nt1 : Nat → Nat), WT gn (gt + 1) gw1 (gl - 1) Z (va_up ga b (ga b + 1)) R V Lv gg1 wk1 wi1 nk1 nv1 nt1 tt → (∀ m, CM X ca gp gn gt gw gl A N T Z ga R V Lv gg m → ∃ m2, f_X1_takeOne ca m = some ((), m2) ∧ Ag (SC ca gn A) m m2 ∧ CM X ca gp gn (gt + 1) gw1 (gl - 1) A N T Z (va_up ga b (ga b + 1)) R V Lv gg1 m2) → (∀ m, QM X gp gn gt gw O N T Z ga R V Lv gg nk nv nt tt m → ∃ m2, f_X4_takeOne (X + 12) m = some ((), m2) ∧ Ag (SQ X) m m2 ∧ QM X gp gn (gt + 1) gw1 O N T Z (va_up ga b (ga b + 1)) R V Lv gg1 nk1 nv1 nt1 tt m2) →
        ∃ t' gt' gw' gl' ga' gg' wk' wi' nk' nv' nt', WT gn gt' gw' gl' Z ga' R V Lv gg' wk' wi' nk' nv' nt' tt ∧
      (∀ m, CM X ca gp gn gt gw gl A N T Z ga R V Lv gg m → ∃ m2, f_X3_step_L26 (f + 1) X (nI n) (nI t) m = some (nI t', m2) ∧ CM X ca gp gn gt' gw' gl' A N T Z ga' R V Lv gg' m2 ∧ Ag (SC ca gn A) m m2) ∧
      ∀ m, QM X gp gn gt gw O N T Z ga R V Lv gg nk nv nt tt m → ∃ m2, f_X4_step_L31 (f2 + 1) (X + 12) (nI n) (nI t) m = some (nI t', m2) ∧ QM X gp gn gt' gw' O N T Z ga' R V Lv gg' nk' nv' nt' tt m2 ∧ Ag (SQ X) m m2 := by
        intro gw1 gg1 wk1 wi1 nk1 nv1 nt1 hW hC hQ
        obtain ⟨t', gt', gw', gl', ga', gg', wk', wi', nk', nv', nt', r1, r2, r3⟩ := ih f f2 (t + 1) (gt + 1) gw1 (gl - 1) _ gg1 wk1 wi1 nk1 nv1 nt1 (by omega) (by omega) (by omega) hW
        refine ⟨t', gt', gw', gl', ga', gg', wk', wi', nk', nv', nt', r1, fun m hm => ?_, fun m hm => ?_⟩
        · obtain ⟨m1, e1, e2, e3⟩ := hC m hm
          obtain ⟨m2, e4, e5, e6⟩ := r2 m1 e3
          refine ⟨m2, ?_, e5, (e2.trans e6).mono (fun b j q => q.elim id id)⟩
          unfold f_X3_step_L26
          rw [i_f htn, q_gR0 hm.1, hm.2.1]
          show bnd _ _ m = _
          rw [b_gI hm.2.2.1.1.1, hm.2.2.1.2.1.2.2.2, i_f nl, q_gR0 hm.1, hm.2.1]
          show bnd _ _ m = _
          rw [b_cl hm.2.2.1.1.1, b_eq e1, nI_1]
          exact e4
        · obtain ⟨m1, e1, e2, e3⟩ := hQ m hm
          obtain ⟨m2, e4, e5, e6⟩ := r3 m1 e3
          refine ⟨m2, ?_, e5, (e2.trans e6).mono (fun b j q => q.elim id id)⟩
          unfold f_X4_step_L31
          rw [i_f htn, q_cl12 hm.1, b_eq (left_q hm w.1 w.2.1 h.1.1), ← hsum, i_f nl, q_cl12 hm.1, b_eq e1, nI_1]
          exact e4
      cases hl : Lv b (ga b) with
      | true =>
        have hW := take_alive h z y1 y2 y3 hl
        have hgw := WT_gw hW z
        refine key _ _ _ _ _ _ _ hW (fun m hm => ?_) (fun m hm => ?_)
        · obtain ⟨m2, e1, e2, e3, -⟩ := take_x hm z w h.1.1 (by omega) hb
          exact ⟨m2, e1, e2, e3 hl⟩
        · obtain ⟨m2, e1, e2, e3, -⟩ := take_q hm z w.1 w.2.1 h.1.1 hb (fun _ => by omega)
          exact ⟨m2, e1, e2, e3 hl⟩
      | false =>
        have hW := take_dead h z y1 y2 y3 hl
        refine key _ _ _ _ _ _ _ hW (fun m hm => ?_) (fun m hm => ?_)
        · obtain ⟨m2, e1, e2, -, e3⟩ := take_x hm z w h.1.1 (by omega) hb
          exact ⟨m2, e1, e2, e3 hl⟩
        · obtain ⟨m2, e1, e2, -, e3⟩ := take_q hm z w.1 w.2.1 h.1.1 hb (fun q => by rw [hl] at q; cases q)
          exact ⟨m2, e1, e2, e3 hl⟩
end LOOP
