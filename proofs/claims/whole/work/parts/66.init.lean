/-! The start: written by wip/tools/genini.py -/
section INI
variable {X n : Nat} {m : Mem} {l : List (Nat × Nat × Nat)} {w6 w18 : Int32} {f1 f13 : Bool}
def kdF : List Nat := [3, 5, 0, 5, 5, 7, 8, 5, 5, 5, 5, 6, 4, 5, 5, 5, 5, 5, 5, 6, 5, 5, 5, 5, 5, 6, 5, 5, 5, 5, 5, 5, 5, 5, 6, 5, 9]
def lnF : List Nat := [0, 100, 0, 6, 6, 20, 4, 100, 100, 100, 100, 4, 0, 100, 100, 100, 100, 6, 20, 21, 21, 21, 21, 2100, 2100, 2100, 6, 100, 100, 100, 600, 6, 6, 600, 4, 400, 1]
def lk (X : Nat) : List (Nat × Nat × Nat) → Nat → Nat → Option Nat
  | [], _, _ => none
  | (a, b, v) :: r, j, k => if j = a ∧ k = b then some (X + v) else lk X r j k
def BIR (X n : Nat) (l : List (Nat × Nat × Nat)) (w6 w18 : Int32) (f1 f13 : Bool) (m : Mem) : Prop := mS m = X + n ∧ (∀ j, j < n → mK m (X + j) = kdF.getD j 0 ∧ mN m (X + j) = lnF.getD j 0) ∧ (∀ b j, b ≠ X + 1 → b ≠ X + 13 → b ≠ X + 15 → mI m b j = if b = X ∧ j = 6 then w6 else if b = X + 12 ∧ j = 18 then w18 else 0) ∧ (∀ j k, mR m (X + j) k = lk X l j k) ∧ (f1 = true → ∀ j, j < 100 → mI m (X + 1) j = -1) ∧ (f13 = true → ∀ j, j < 100 → mI m (X + 13) j = -1 ∧ mI m (X + 15) j = -1)
theorem lk_none (h : l.all (fun t => decide (t.1 < n)) = true) (k : Nat) : lk X l n k = none := by
  induction l with
  | nil => rfl
  | cons t r ih =>
    obtain ⟨a, b, v⟩ := t
    rw [List.all_cons, Bool.and_eq_true] at h
    have h1 : a < n := of_decide_eq_true h.1
    show (if n = a ∧ k = b then _ else lk X r n k) = none
    rw [if_neg (by omega)]
    exact ih h.2
theorem BIR_A (h : BIR X n l w6 w18 f1 f13 m) {t len : Nat} (hk : kdF.getD n 0 = t) (hl : lnF.getD n 0 = len) (hr : l.all (fun t => decide (t.1 < n)) = true) (h0 : n = 0 → w6 = 0) (h12 : n = 12 → w18 = 0) (h1 : n = 1 → f1 = false) (h13 : n = 13 ∨ n = 15 → f13 = false) : BIR X (n + 1) l w6 w18 f1 f13 (allo m t len) := by
  obtain ⟨a1, a2, a3, a4, a5, a6⟩ := h
  refine ⟨by rw [mS_allo, a1]; rfl, fun j hj => ?_, fun b j q1 q2 q3 => ?_, fun j k => ?_, fun q j hj => ?_, fun q j hj => ?_⟩
  · rw [mK_allo, mN_allo, a1]
    by_cases e : j = n
    · subst e
      rw [if_pos rfl, if_pos rfl, hk, hl]
      exact ⟨rfl, rfl⟩
    · rw [if_neg (by omega), if_neg (by omega)]
      exact a2 j (by omega)
  · rw [mI_allo, a1]
    by_cases e : b = X + n
    · rw [if_pos e]
      by_cases e0 : b = X ∧ j = 6
      · rw [if_pos e0, h0 (by omega)]
      · rw [if_neg e0]
        by_cases e1 : b = X + 12 ∧ j = 18
        · rw [if_pos e1, h12 (by omega)]
        · rw [if_neg e1]
    · rw [if_neg e]
      exact a3 b j q1 q2 q3
  · rw [mR_allo, a1]
    by_cases e : j = n
    · subst e
      rw [if_pos rfl, lk_none hr]
    · rw [if_neg (by omega)]
      exact a4 j k
  · rw [mI_allo, a1, if_neg (by intro e; have := h1 (by omega); rw [q] at this; cases this)]
    exact a5 q j hj
  · rw [mI_allo, mI_allo, a1, if_neg (by intro e; have := h13 (by omega); rw [q] at this; cases this), if_neg (by intro e; have := h13 (by omega); rw [q] at this; cases this)]
    exact a6 q j hj
theorem BIR_R (h : BIR X n l w6 w18 f1 f13 m) (o k v : Nat) : BIR X n ((o, k, v) :: l) w6 w18 f1 f13 (setR m (X + o) k (some (X + v))) := by
  obtain ⟨a1, a2, a3, a4, a5, a6⟩ := h
  refine ⟨a1, a2, a3, fun j k2 => ?_, a5, a6⟩
  rw [mR_setR]
  show _ = if j = o ∧ k2 = k then some (X + v) else lk X l j k2
  by_cases e : j = o ∧ k2 = k
  · rw [if_pos e, if_pos ⟨by omega, e.2⟩]
  · rw [if_neg e, if_neg (by omega)]
    exact a4 j k2
theorem BIR_N (h : BIR X n l w6 w18 f1 f13 m) {k : Nat} (hk : lk X l 0 k = none) : BIR X n l w6 w18 f1 f13 (setR m X k none) := by
  obtain ⟨a1, a2, a3, a4, a5, a6⟩ := h
  refine ⟨a1, a2, a3, fun j k2 => ?_, a5, a6⟩
  rw [mR_setR]
  by_cases e : X + j = X ∧ k2 = k
  · have : j = 0 := by omega
    rw [if_pos e, this, e.2, hk]
  · rw [if_neg e]
    exact a4 j k2
theorem BIR_Z (h : BIR X n l w6 w18 f1 f13 m) {ad k : Nat} (h1 : ad ≠ X + 1 ∧ ad ≠ X + 13 ∧ ad ≠ X + 15) (h2 : ¬ (ad = X ∧ k = 6) ∧ ¬ (ad = X + 12 ∧ k = 18)) : BIR X n l w6 w18 f1 f13 (setI m ad k 0) := by
  obtain ⟨a1, a2, a3, a4, a5, a6⟩ := h
  refine ⟨a1, a2, fun b j q1 q2 q3 => ?_, a4, fun q j hj => by rw [mI_setI, if_neg (by omega)]; exact a5 q j hj, fun q j hj => by rw [mI_setI, if_neg (by omega), mI_setI, if_neg (by omega)]; exact a6 q j hj⟩
  rw [mI_setI]
  by_cases e : b = ad ∧ j = k
  · rw [if_pos e, if_neg (by rw [e.1, e.2]; exact h2.1), if_neg (by rw [e.1, e.2]; exact h2.2)]
  · rw [if_neg e]
    exact a3 b j q1 q2 q3
theorem BIR_6 (h : BIR X n l w6 w18 f1 f13 m) (x : Int32) : BIR X n l x w18 f1 f13 (setI m X 6 x) := by
  obtain ⟨a1, a2, a3, a4, a5, a6⟩ := h
  refine ⟨a1, a2, fun b j q1 q2 q3 => ?_, a4, fun q j hj => by rw [mI_setI, if_neg (by omega)]; exact a5 q j hj, fun q j hj => by rw [mI_setI, if_neg (by omega), mI_setI, if_neg (by omega)]; exact a6 q j hj⟩
  rw [mI_setI]
  by_cases e : b = X ∧ j = 6
  · rw [if_pos e, if_pos e]
  · rw [if_neg e, if_neg e, a3 b j q1 q2 q3, if_neg e]
theorem BIR_18 (h : BIR X n l w6 w18 f1 f13 m) (x : Int32) : BIR X n l w6 x f1 f13 (setI m (X + 12) 18 x) := by
  obtain ⟨a1, a2, a3, a4, a5, a6⟩ := h
  refine ⟨a1, a2, fun b j q1 q2 q3 => ?_, a4, fun q j hj => by rw [mI_setI, if_neg (by omega)]; exact a5 q j hj, fun q j hj => by rw [mI_setI, if_neg (by omega), mI_setI, if_neg (by omega)]; exact a6 q j hj⟩
  rw [mI_setI, a3 b j q1 q2 q3]
  by_cases e : b = X + 12 ∧ j = 18
  · rw [if_pos e, if_neg (by omega), if_pos e]
  · rw [if_neg e, if_neg e, if_neg e]
theorem BIR_p (h : BIR X n l w6 w18 f1 f13 m) {t len B T ad o k : Nat} {x : Int32} (hx : x = nI len) (hB : len ≤ B ∧ B < 2 ^ 31) (had : ad = X + o) (ho : o < n) (hT : kdF.getD o 0 = T) (hk : kdF.getD n 0 = t) (hl : lnF.getD n 0 = len) (hr : l.all (fun t => decide (t.1 < n)) = true) (h0 : n = 0 → w6 = 0) (h12 : n = 12 → w18 = 0) (h1 : n = 1 → f1 = false) (h13 : n = 13 ∨ n = 15 → f13 = false) :
    ∃ m2, (∀ {β : Type} (K : Nat → HM β), bnd (nA t B x) (fun b => bnd (pR T ad k (some b)) fun _ => K b) m = K (X + n) m2) ∧ BIR X (n + 1) ((o, k, n) :: l) w6 w18 f1 f13 m2 := by
  have hA := BIR_A h hk hl hr h0 h12 h1 h13
  refine ⟨setR (allo m t len) (X + o) k (some (X + n)), fun K => ?_, BIR_R hA o k n⟩
  have kT : mK (allo m t len) (X + o) = T := by rw [(hA.2.1 o (by omega)).1]; exact hT
  rw [hx, b_nA hB.1 hB.2, had, b_pR kT, h.1]
theorem BIR_4 (h : BIR X 6 l w6 w18 f1 f13 m) (hr : l.all (fun t => decide (t.1 < 6)) = true) (hf : f1 = false ∨ True) : BIR X 11 ((6, 0, 7) :: (6, 1, 8) :: (6, 2, 9) :: (6, 3, 10) :: l) w6 w18 f1 f13 (allo4 m) := by
  obtain ⟨a1, a2, a3, a4, a5, a6⟩ := h
  have hl6 : ∀ n k, 6 ≤ n → lk X l n k = none := fun n k hn => by
    refine lk_none ?_ k
    rw [List.all_eq_true] at hr ⊢
    intro t ht
    have := of_decide_eq_true (hr t ht)
    exact decide_eq_true (by omega)
  refine ⟨by rw [mS_allo4, a1], fun j hj => ?_, fun b j q1 q2 q3 => ?_, fun j k => ?_, fun q j hj => ?_, fun q j hj => ?_⟩
  · rw [mK_allo4, mN_allo4, a1]
    by_cases e : j < 6
    · rw [if_neg (by omega), if_neg (by omega), if_neg (by omega), if_neg (by omega)]
      exact a2 j e
    · by_cases e6 : j = 6
      · subst e6
        rw [if_pos rfl, if_pos rfl]
        exact ⟨rfl, rfl⟩
      · rw [if_neg (by omega), if_pos (by omega), if_neg (by omega), if_pos (by omega)]
        rcases (show j = 7 ∨ j = 8 ∨ j = 9 ∨ j = 10 by omega) with rfl | rfl | rfl | rfl <;> exact ⟨rfl, rfl⟩
  · rw [mI_allo4, a1]
    by_cases e : X + 6 ≤ b ∧ b ≤ X + 6 + 4
    · rw [if_pos e, if_neg (by omega), if_neg (by omega)]
    · rw [if_neg e]
      exact a3 b j q1 q2 q3
  · rw [mR_allo4, a1]
    by_cases e6 : j = 6
    · subst e6
      rw [if_pos rfl]
      by_cases e : k < 4
      · rw [if_pos e]
        rcases (show k = 0 ∨ k = 1 ∨ k = 2 ∨ k = 3 by omega) with rfl | rfl | rfl | rfl <;> simp [lk] <;> omega
      · rw [if_neg e]
        show none = if 6 = 6 ∧ k = 0 then _ else if 6 = 6 ∧ k = 1 then _ else if 6 = 6 ∧ k = 2 then _ else if 6 = 6 ∧ k = 3 then _ else lk X l 6 k
        rw [if_neg (by omega), if_neg (by omega), if_neg (by omega), if_neg (by omega), hl6 6 k (by omega)]
    · have hR : lk X ((6, 0, 7) :: (6, 1, 8) :: (6, 2, 9) :: (6, 3, 10) :: l) j k = lk X l j k := by
        show (if j = 6 ∧ k = 0 then _ else if j = 6 ∧ k = 1 then _ else if j = 6 ∧ k = 2 then _ else if j = 6 ∧ k = 3 then _ else lk X l j k) = _
        rw [if_neg (by omega), if_neg (by omega), if_neg (by omega), if_neg (by omega)]
      rw [if_neg (by omega), hR]
      by_cases e : X + 6 < X + j ∧ X + j ≤ X + 6 + 4
      · rw [if_pos e, hl6 j k (by omega)]
      · rw [if_neg e]
        exact a4 j k
  · rw [mI_allo4, a1, if_neg (by omega)]
    exact a5 q j hj
  · rw [mI_allo4, a1, if_neg (by omega), mI_allo4, a1, if_neg (by omega)]
    exact a6 q j hj
theorem fill_L {a : Nat} {x : Int32} : ∀ d f i (m : Mem), i + d = 100 → d < f → mK m a = 5 → mN m a = 100 → ∃ m2, f_J7_fill_53178_L5 f a x (nI i) (nI 100) m = some (nI 100, m2) ∧ Ag (fun b j => b = a) m m2 ∧ ∀ j, (i ≤ j → j < 100 → mI m2 a j = x) ∧ (j < i → mI m2 a j = mI m a j) := by
  intro d
  induction d with
  | zero =>
    intro f i m hi hf h1 h2
    obtain ⟨f, rfl⟩ : ∃ g, f = g + 1 := ⟨f - 1, by omega⟩
    have : i = 100 := by omega
    subst this
    refine ⟨m, ?_, Ag.refl, fun j => ⟨fun h1 h2 => absurd h2 (by omega), fun _ => rfl⟩⟩
    unfold f_J7_fill_53178_L5
    rw [i_t (leL (Nat.le_refl _) (by omega))]; rfl
  | succ d ih =>
    intro f i m hi hf h1 h2
    obtain ⟨f, rfl⟩ : ∃ g, f = g + 1 := ⟨f - 1, by omega⟩
    obtain ⟨m2, e1, e2, e3⟩ := ih f (i + 1) (setI m a i x) (by omega) (by omega) h1 h2
    refine ⟨m2, ?_, (Ag.setI.trans e2).mono (fun b j q => by omega), fun j => ⟨fun h3 h4 => ?_, fun h3 => ?_⟩⟩
    · unfold f_J7_fill_53178_L5
      rw [i_f (leN (by omega) (by omega)), b_sI h1 h2 (by omega) (by decide), nI_1]
      exact e1
    · by_cases e : j = i
      · subst e
        rw [(e3 j).2 (by omega), mI_setI, if_pos ⟨rfl, rfl⟩]
      · exact (e3 j).1 (by omega) h4
    · rw [(e3 j).2 (by omega), mI_setI, if_neg (by omega)]
theorem BIR_F (h : BIR X 12 l w6 w18 f1 f13 m) : ∃ m2, f_J7_fill_53178 (X + 1) (-1) m = some ((), m2) ∧ BIR X 12 l w6 w18 true f13 m2 := by
  obtain ⟨a1, a2, a3, a4, a5, a6⟩ := h
  have k1 : mK m (X + 1) = 5 := (a2 1 (by omega)).1
  have n1 : mN m (X + 1) = 100 := (a2 1 (by omega)).2
  obtain ⟨m2, e1, e2, e3⟩ := fill_L (x := -1) 100 2100 0 m (by omega) (by omega) k1 n1
  refine ⟨m2, ?_, by rw [e2.2.2.2.1]; exact a1, fun j hj => by rw [e2.1, e2.2.1]; exact a2 j hj, fun b j q1 q2 q3 => by rw [e2.2.2.2.2 _ _ (by omega)]; exact a3 b j q1 q2 q3, fun j k => by rw [e2.2.2.1]; exact a4 j k, fun _ j hj => (e3 j).1 (by omega) hj, fun q j hj => by rw [e2.2.2.2.2 _ _ (by omega), e2.2.2.2.2 _ _ (by omega)]; exact a6 q j hj⟩
  unfold f_J7_fill_53178
  rw [b_ln k1 n1, b_eq (show f_J7_fill_53178_L5 2100 (X + 1) (-1) 0 (nI 100) m = _ from e1)]; rfl
theorem ini_L (hL : mK m (X + 12) = 4 ∧ mR m (X + 12) 1 = some (X + 13) ∧ mR m (X + 12) 3 = some (X + 15) ∧ (mK m (X + 13) = 5 ∧ mN m (X + 13) = 100) ∧ mK m (X + 15) = 5 ∧ mN m (X + 15) = 100) : ∀ d f i (m0 : Mem), i + d = 100 → d < f → Ag (fun b j => b = X + 13 ∨ b = X + 15) m m0 → (∀ j, j < i → mI m0 (X + 13) j = -1 ∧ mI m0 (X + 15) j = -1) → ∃ m2, f_X4_init_L200 f (X + 12) (nI i) m0 = some (nI 100, m2) ∧ Ag (fun b j => b = X + 13 ∨ b = X + 15) m m2 ∧ ∀ j, j < 100 → mI m2 (X + 13) j = -1 ∧ mI m2 (X + 15) j = -1 := by
  intro d
  induction d with
  | zero =>
    intro f i m0 hi hf hA hv
    obtain ⟨f, rfl⟩ : ∃ g, f = g + 1 := ⟨f - 1, by omega⟩
    have : i = 100 := by omega
    subst this
    refine ⟨m0, ?_, hA, hv⟩
    unfold f_X4_init_L200
    rw [i_t (by decide)]; rfl
  | succ d ih =>
    intro f i m0 hi hf hA hv
    obtain ⟨f, rfl⟩ : ∃ g, f = g + 1 := ⟨f - 1, by omega⟩
    obtain ⟨l1, l2, l3, ⟨l4, l5⟩, l6, l7⟩ := hL
    obtain ⟨ma, hma⟩ : ∃ ma, ma = setI m0 (X + 13) i (-1) := ⟨_, rfl⟩
    have hAa : Ag (fun b j => b = X + 13 ∨ b = X + 15) m ma := by
      rw [hma]
      exact (hA.trans Ag.setI).mono (fun b j q => by omega)
    have hAb : Ag (fun b j => b = X + 13 ∨ b = X + 15) m (setI ma (X + 15) i (-1)) := (hAa.trans Ag.setI).mono (fun b j q => by omega)
    obtain ⟨m2, e1, e2, e3⟩ := ih f (i + 1) _ (by omega) (by omega) hAb (fun j hj => by
      rw [mI_setI, if_neg (by omega), mI_setI, hma, mI_setI, mI_setI, if_neg (show ¬ (X + 15 = X + 13 ∧ j = i) by omega)]
      by_cases e : j = i
      · rw [if_pos ⟨rfl, e⟩, if_pos ⟨rfl, e⟩]
        exact ⟨rfl, rfl⟩
      · rw [if_neg (by omega), if_neg (by omega)]
        exact hv j (by omega))
    refine ⟨m2, ?_, e2, e3⟩
    unfold f_X4_init_L200
    rw [i_f (show ¬ (100 : Int32) ≤ nI i from leN (n := 100) (by omega) (by decide)), b_gN (by rw [hA.1]; exact l1) (by rw [hA.2.2.1]; exact l2), b_sI (N := 100) (by rw [hA.1]; exact l4) (by rw [hA.2.1]; exact l5) (by omega) (by decide), ← hma, b_gN (by rw [hAa.1]; exact l1) (by rw [hAa.2.2.1]; exact l3), b_sI (N := 100) (by rw [hAa.1]; exact l6) (by rw [hAa.2.1]; exact l7) (by omega) (by decide), nI_1]
    exact e1
theorem start_m (X : Nat) : ∃ m l, f_start (m00 X) = some ((X, X + 12, X + 36), m) ∧ BIR X 37 l 3 3 true true m ∧ (SLr X m ∧ mR m X 7 = none ∧ mR m X 8 = none) := by
  have h0 : BIR X 0 [] 0 0 false false (m00 X) := ⟨rfl, fun j hj => absurd hj (by omega), fun b j _ _ _ => by
    show (0 : Int32) = _
    by_cases e : b = X ∧ j = 6
    · rw [if_pos e]
    · rw [if_neg e]
      by_cases e2 : b = X + 12 ∧ j = 18
      · rw [if_pos e2]
      · rw [if_neg e2], fun _ _ => rfl, fun q => (by cases q), fun q => (by cases q)⟩
  obtain ⟨m1, k1⟩ : ∃ z, z = allo (m00 X) 3 0 := ⟨_, rfl⟩
  have h1 : BIR X 1 [] 0 0 false false m1 := by rw [k1]; exact BIR_A h0 rfl rfl rfl (by decide) (by decide) (by decide) (by decide)
  have e1 : ∀ {β : Type} (K : Nat → HM β), bnd (nO 3) K (m00 X) = K X m1 := fun K => by rw [b_nO, h0.1, k1]; rfl
  obtain ⟨m2, e2, h2⟩ := BIR_p h1 (t := 5) (len := 100) (B := 100) (T := 3) (ad := X) (o := 0) (k := 0) (x := 100) rfl (by decide) rfl (by decide) rfl rfl rfl rfl (by decide) (by decide) (by decide) (by decide)
  obtain ⟨m3, k3⟩ : ∃ z, z = allo m2 0 0 := ⟨_, rfl⟩
  have h3 : BIR X 3 [(0, 0, 1)] 0 0 false false m3 := by rw [k3]; exact BIR_A h2 rfl rfl rfl (by decide) (by decide) (by decide) (by decide)
  have e3 : ∀ {β : Type} (K : Nat → HM β), bnd (nO 0) K m2 = K (X + 2) m3 := fun K => by rw [b_nO, h2.1, k3]
  obtain ⟨m4, e4, h4⟩ := BIR_p h3 (t := 5) (len := 6) (B := 6) (T := 0) (ad := (X + 2)) (o := 2) (k := 0) (x := 6) rfl (by decide) rfl (by decide) rfl rfl rfl rfl (by decide) (by decide) (by decide) (by decide)
  obtain ⟨m5, e5, h5⟩ := BIR_p h4 (t := 5) (len := 6) (B := 6) (T := 0) (ad := (X + 2)) (o := 2) (k := 1) (x := 6) rfl (by decide) rfl (by decide) rfl rfl rfl rfl (by decide) (by decide) (by decide) (by decide)
  obtain ⟨m6, k6⟩ : ∃ z, z = setI m5 (X + 2) 2 0 := ⟨_, rfl⟩
  have h6 : BIR X 5 [(2, 1, 4), (2, 0, 3), (0, 0, 1)] 0 0 false false m6 := by rw [k6]; exact BIR_Z h5 (by omega) (by omega)
  have e6 : ∀ {β : Type} (K : HM β), bnd (pI 0 (X + 2) 2 0) (fun _ => K) m5 = K m6 := fun K => by rw [b_pI (show mK m5 (X + 2) = 0 from (h5.2.1 2 (by decide)).1), k6]
  have x0 : f_X0_init (X + 2) m3 = some ((), m6) := by
    unfold f_X0_init
    rw [e4, e5, e6]; rfl
  obtain ⟨m7, k7⟩ : ∃ z, z = setR m6 X 1 (some (X + 2)) := ⟨_, rfl⟩
  have h7 : BIR X 5 [(0, 1, 2), (2, 1, 4), (2, 0, 3), (0, 0, 1)] 0 0 false false m7 := by rw [k7]; exact BIR_R h6 0 1 2
  have e7 : ∀ {β : Type} (K : HM β), bnd (pR 3 X 1 (some (X + 2))) (fun _ => K) m6 = K m7 := fun K => by rw [b_pR (show mK m6 X = 3 from (h6.2.1 0 (by decide)).1), k7]
  obtain ⟨m8, e8, h8⟩ := BIR_p h7 (t := 7) (len := 20) (B := 20) (T := 3) (ad := X) (o := 0) (k := 2) (x := 20) rfl (by decide) rfl (by decide) rfl rfl rfl rfl (by decide) (by decide) (by decide) (by decide)
  obtain ⟨m9, k9⟩ : ∃ z, z = setI m8 X 3 0 := ⟨_, rfl⟩
  have h9 : BIR X 6 [(0, 2, 5), (0, 1, 2), (2, 1, 4), (2, 0, 3), (0, 0, 1)] 0 0 false false m9 := by rw [k9]; exact BIR_Z h8 (by omega) (by omega)
  have e9 : ∀ {β : Type} (K : HM β), bnd (pI 3 X 3 0) (fun _ => K) m8 = K m9 := fun K => by rw [b_pI (show mK m8 X = 3 from (h8.2.1 0 (by decide)).1), k9]
  obtain ⟨m10, k10⟩ : ∃ z, z = setI m9 X 4 0 := ⟨_, rfl⟩
  have h10 : BIR X 6 [(0, 2, 5), (0, 1, 2), (2, 1, 4), (2, 0, 3), (0, 0, 1)] 0 0 false false m10 := by rw [k10]; exact BIR_Z h9 (by omega) (by omega)
  have e10 : ∀ {β : Type} (K : HM β), bnd (pI 3 X 4 0) (fun _ => K) m9 = K m10 := fun K => by rw [b_pI (show mK m9 X = 3 from (h9.2.1 0 (by decide)).1), k10]
  obtain ⟨m11, k11⟩ : ∃ z, z = setI m10 X 5 0 := ⟨_, rfl⟩
  have h11 : BIR X 6 [(0, 2, 5), (0, 1, 2), (2, 1, 4), (2, 0, 3), (0, 0, 1)] 0 0 false false m11 := by rw [k11]; exact BIR_Z h10 (by omega) (by omega)
  have e11 : ∀ {β : Type} (K : HM β), bnd (pI 3 X 5 0) (fun _ => K) m10 = K m11 := fun K => by rw [b_pI (show mK m10 X = 3 from (h10.2.1 0 (by decide)).1), k11]
  obtain ⟨m12, k12⟩ : ∃ z, z = setI m11 X 6 3 := ⟨_, rfl⟩
  have h12 : BIR X 6 [(0, 2, 5), (0, 1, 2), (2, 1, 4), (2, 0, 3), (0, 0, 1)] 3 0 false false m12 := by rw [k12]; exact BIR_6 h11 3
  have e12 : ∀ {β : Type} (K : HM β), bnd (pI 3 X 6 3) (fun _ => K) m11 = K m12 := fun K => by rw [b_pI (show mK m11 X = 3 from (h11.2.1 0 (by decide)).1), k12]
  obtain ⟨m13, k13⟩ : ∃ z, z = setR m12 X 7 none := ⟨_, rfl⟩
  have h13 : BIR X 6 [(0, 2, 5), (0, 1, 2), (2, 1, 4), (2, 0, 3), (0, 0, 1)] 3 0 false false m13 := by rw [k13]; exact BIR_N h12 rfl
  have e13 : ∀ {β : Type} (K : HM β), bnd (pR 3 X 7 none) (fun _ => K) m12 = K m13 := fun K => by rw [b_pR (show mK m12 X = 3 from (h12.2.1 0 (by decide)).1), k13]
  obtain ⟨m14, k14⟩ : ∃ z, z = setR m13 X 8 none := ⟨_, rfl⟩
  have h14 : BIR X 6 [(0, 2, 5), (0, 1, 2), (2, 1, 4), (2, 0, 3), (0, 0, 1)] 3 0 false false m14 := by rw [k14]; exact BIR_N h13 rfl
  have e14 : ∀ {β : Type} (K : HM β), bnd (pR 3 X 8 none) (fun _ => K) m13 = K m14 := fun K => by rw [b_pR (show mK m13 X = 3 from (h13.2.1 0 (by decide)).1), k14]
  obtain ⟨m15, k15⟩ : ∃ z, z = allo4 m14 := ⟨_, rfl⟩
  have h15 : BIR X 11 [(6, 0, 7), (6, 1, 8), (6, 2, 9), (6, 3, 10), (0, 2, 5), (0, 1, 2), (2, 1, 4), (2, 0, 3), (0, 0, 1)] 3 0 false false m15 := by rw [k15]; exact BIR_4 h14 rfl (Or.inr trivial)
  have e15 : ∀ {β : Type} (K : Nat → HM β), bnd n4 K m14 = K (X + 6) m15 := fun K => by rw [b_n4, h14.1, k15]
  obtain ⟨m16, k16⟩ : ∃ z, z = setR m15 X 9 (some (X + 6)) := ⟨_, rfl⟩
  have h16 : BIR X 11 [(0, 9, 6), (6, 0, 7), (6, 1, 8), (6, 2, 9), (6, 3, 10), (0, 2, 5), (0, 1, 2), (2, 1, 4), (2, 0, 3), (0, 0, 1)] 3 0 false false m16 := by rw [k16]; exact BIR_R h15 0 9 6
  have e16 : ∀ {β : Type} (K : HM β), bnd (pR 3 X 9 (some (X + 6))) (fun _ => K) m15 = K m16 := fun K => by rw [b_pR (show mK m15 X = 3 from (h15.2.1 0 (by decide)).1), k16]
  obtain ⟨m17, e17, h17⟩ := BIR_p h16 (t := 6) (len := 4) (B := 4) (T := 3) (ad := X) (o := 0) (k := 10) (x := 4) rfl (by decide) rfl (by decide) rfl rfl rfl rfl (by decide) (by decide) (by decide) (by decide)
  obtain ⟨m18, e18, h18⟩ := BIR_F h17
  have g18 : mR m17 X 0 = some (X + 1) := h17.2.2.2.1 0 0
  have x3 : f_X3_init X m1 = some ((), m18) := by
    unfold f_X3_init
    rw [e2, e3, b_eq x0, e7, e8, e9, e10, e11, e12, e13, e14, e15, e16, e17, b_gN (show mK m17 X = 3 from (h17.2.1 0 (by decide)).1) g18, b_eq e18]; rfl
  obtain ⟨m19, k19⟩ : ∃ z, z = allo m18 4 0 := ⟨_, rfl⟩
  have h19 : BIR X 13 [(0, 10, 11), (0, 9, 6), (6, 0, 7), (6, 1, 8), (6, 2, 9), (6, 3, 10), (0, 2, 5), (0, 1, 2), (2, 1, 4), (2, 0, 3), (0, 0, 1)] 3 0 true false m19 := by rw [k19]; exact BIR_A h18 rfl rfl rfl (by decide) (by decide) (by decide) (by decide)
  have e19 : ∀ {β : Type} (K : Nat → HM β), bnd (nO 4) K m18 = K (X + 12) m19 := fun K => by rw [b_nO, h18.1, k19]
  obtain ⟨m20, e20, h20⟩ := BIR_p h19 (t := 5) (len := 100) (B := 100) (T := 4) (ad := (X + 12)) (o := 12) (k := 1) (x := 100) rfl (by decide) rfl (by decide) rfl rfl rfl rfl (by decide) (by decide) (by decide) (by decide)
  obtain ⟨m21, e21, h21⟩ := BIR_p h20 (t := 5) (len := 100) (B := 100) (T := 4) (ad := (X + 12)) (o := 12) (k := 2) (x := 100) rfl (by decide) rfl (by decide) rfl rfl rfl rfl (by decide) (by decide) (by decide) (by decide)
  obtain ⟨m22, e22, h22⟩ := BIR_p h21 (t := 5) (len := 100) (B := 100) (T := 4) (ad := (X + 12)) (o := 12) (k := 3) (x := 100) rfl (by decide) rfl (by decide) rfl rfl rfl rfl (by decide) (by decide) (by decide) (by decide)
  obtain ⟨m23, e23, h23⟩ := BIR_p h22 (t := 5) (len := 100) (B := 100) (T := 4) (ad := (X + 12)) (o := 12) (k := 4) (x := 100) rfl (by decide) rfl (by decide) rfl rfl rfl rfl (by decide) (by decide) (by decide) (by decide)
  obtain ⟨m24, e24, h24⟩ := BIR_p h23 (t := 5) (len := 6) (B := 6) (T := 4) (ad := (X + 12)) (o := 12) (k := 6) (x := 6) rfl (by decide) rfl (by decide) rfl rfl rfl rfl (by decide) (by decide) (by decide) (by decide)
  obtain ⟨m25, e25, h25⟩ := BIR_p h24 (t := 5) (len := 20) (B := 20) (T := 4) (ad := (X + 12)) (o := 12) (k := 8) (x := 20) rfl (by decide) rfl (by decide) rfl rfl rfl rfl (by decide) (by decide) (by decide) (by decide)
  obtain ⟨m26, e26, h26⟩ := BIR_p h25 (t := 6) (len := 21) (B := 21) (T := 4) (ad := (X + 12)) (o := 12) (k := 9) (x := 21) rfl (by decide) rfl (by decide) rfl rfl rfl rfl (by decide) (by decide) (by decide) (by decide)
  obtain ⟨m27, e27, h27⟩ := BIR_p h26 (t := 5) (len := 21) (B := 21) (T := 4) (ad := (X + 12)) (o := 12) (k := 10) (x := 21) rfl (by decide) rfl (by decide) rfl rfl rfl rfl (by decide) (by decide) (by decide) (by decide)
  obtain ⟨m28, e28, h28⟩ := BIR_p h27 (t := 5) (len := 21) (B := 21) (T := 4) (ad := (X + 12)) (o := 12) (k := 11) (x := 21) rfl (by decide) rfl (by decide) rfl rfl rfl rfl (by decide) (by decide) (by decide) (by decide)
  obtain ⟨m29, e29, h29⟩ := BIR_p h28 (t := 5) (len := 21) (B := 21) (T := 4) (ad := (X + 12)) (o := 12) (k := 12) (x := 21) rfl (by decide) rfl (by decide) rfl rfl rfl rfl (by decide) (by decide) (by decide) (by decide)
  obtain ⟨m30, e30, h30⟩ := BIR_p h29 (t := 5) (len := 2100) (B := 2100) (T := 4) (ad := (X + 12)) (o := 12) (k := 13) (x := 2100) rfl (by decide) rfl (by decide) rfl rfl rfl rfl (by decide) (by decide) (by decide) (by decide)
  obtain ⟨m31, e31, h31⟩ := BIR_p h30 (t := 5) (len := 2100) (B := 2100) (T := 4) (ad := (X + 12)) (o := 12) (k := 14) (x := 2100) rfl (by decide) rfl (by decide) rfl rfl rfl rfl (by decide) (by decide) (by decide) (by decide)
  obtain ⟨m32, e32, h32⟩ := BIR_p h31 (t := 6) (len := 2100) (B := 2100) (T := 4) (ad := (X + 12)) (o := 12) (k := 15) (x := 2100) rfl (by decide) rfl (by decide) rfl rfl rfl rfl (by decide) (by decide) (by decide) (by decide)
  obtain ⟨m33, k33⟩ : ∃ z, z = setI m32 (X + 12) 18 3 := ⟨_, rfl⟩
  have h33 : BIR X 26 [(12, 15, 25), (12, 14, 24), (12, 13, 23), (12, 12, 22), (12, 11, 21), (12, 10, 20), (12, 9, 19), (12, 8, 18), (12, 6, 17), (12, 4, 16), (12, 3, 15), (12, 2, 14), (12, 1, 13), (0, 10, 11), (0, 9, 6), (6, 0, 7), (6, 1, 8), (6, 2, 9), (6, 3, 10), (0, 2, 5), (0, 1, 2), (2, 1, 4), (2, 0, 3), (0, 0, 1)] 3 3 true false m33 := by rw [k33]; exact BIR_18 h32 3
  have e33 : ∀ {β : Type} (K : HM β), bnd (pI 4 (X + 12) 18 3) (fun _ => K) m32 = K m33 := fun K => by rw [b_pI (show mK m32 (X + 12) = 4 from (h32.2.1 12 (by decide)).1), k33]
  obtain ⟨m34, e34, h34⟩ := BIR_p h33 (t := 5) (len := 6) (B := 6) (T := 4) (ad := (X + 12)) (o := 12) (k := 23) (x := 6) rfl (by decide) rfl (by decide) rfl rfl rfl rfl (by decide) (by decide) (by decide) (by decide)
  obtain ⟨m35, e35, h35⟩ := BIR_p h34 (t := 5) (len := 100) (B := 100) (T := 4) (ad := (X + 12)) (o := 12) (k := 24) (x := 100) rfl (by decide) rfl (by decide) rfl rfl rfl rfl (by decide) (by decide) (by decide) (by decide)
  obtain ⟨m36, e36, h36⟩ := BIR_p h35 (t := 5) (len := 100) (B := 100) (T := 4) (ad := (X + 12)) (o := 12) (k := 25) (x := 100) rfl (by decide) rfl (by decide) rfl rfl rfl rfl (by decide) (by decide) (by decide) (by decide)
  obtain ⟨m37, e37, h37⟩ := BIR_p h36 (t := 5) (len := 100) (B := 100) (T := 4) (ad := (X + 12)) (o := 12) (k := 26) (x := 100) rfl (by decide) rfl (by decide) rfl rfl rfl rfl (by decide) (by decide) (by decide) (by decide)
  obtain ⟨m38, e38, h38⟩ := BIR_p h37 (t := 5) (len := 600) (B := 600) (T := 4) (ad := (X + 12)) (o := 12) (k := 27) (x := 600) rfl (by decide) rfl (by decide) rfl rfl rfl rfl (by decide) (by decide) (by decide) (by decide)
  obtain ⟨m39, e39, h39⟩ := BIR_p h38 (t := 5) (len := 6) (B := 6) (T := 4) (ad := (X + 12)) (o := 12) (k := 29) (x := 6) rfl (by decide) rfl (by decide) rfl rfl rfl rfl (by decide) (by decide) (by decide) (by decide)
  obtain ⟨m40, e40, h40⟩ := BIR_p h39 (t := 5) (len := 6) (B := 6) (T := 4) (ad := (X + 12)) (o := 12) (k := 30) (x := 6) rfl (by decide) rfl (by decide) rfl rfl rfl rfl (by decide) (by decide) (by decide) (by decide)
  obtain ⟨m41, e41, h41⟩ := BIR_p h40 (t := 5) (len := 600) (B := 600) (T := 4) (ad := (X + 12)) (o := 12) (k := 31) (x := 600) rfl (by decide) rfl (by decide) rfl rfl rfl rfl (by decide) (by decide) (by decide) (by decide)
  obtain ⟨m42, e42, h42⟩ := BIR_p h41 (t := 6) (len := 4) (B := 4) (T := 4) (ad := (X + 12)) (o := 12) (k := 32) (x := 4) rfl (by decide) rfl (by decide) rfl rfl rfl rfl (by decide) (by decide) (by decide) (by decide)
  obtain ⟨m43, e43, h43⟩ := BIR_p h42 (t := 5) (len := 400) (B := 400) (T := 4) (ad := (X + 12)) (o := 12) (k := 33) (x := 400) rfl (by decide) rfl (by decide) rfl rfl rfl rfl (by decide) (by decide) (by decide) (by decide)
  obtain ⟨m44, e44, a44, v44⟩ := ini_L (X := X) (m := m43) ⟨(h43.2.1 12 (by decide)).1, h43.2.2.2.1 12 1, h43.2.2.2.1 12 3, ⟨(h43.2.1 13 (by decide)).1, (h43.2.1 13 (by decide)).2⟩, (h43.2.1 15 (by decide)).1, (h43.2.1 15 (by decide)).2⟩ 100 2100 0 m43 (by omega) (by omega) Ag.refl (fun j hj => absurd hj (by omega))
  have h44 : BIR X 36 [(12, 33, 35), (12, 32, 34), (12, 31, 33), (12, 30, 32), (12, 29, 31), (12, 27, 30), (12, 26, 29), (12, 25, 28), (12, 24, 27), (12, 23, 26), (12, 15, 25), (12, 14, 24), (12, 13, 23), (12, 12, 22), (12, 11, 21), (12, 10, 20), (12, 9, 19), (12, 8, 18), (12, 6, 17), (12, 4, 16), (12, 3, 15), (12, 2, 14), (12, 1, 13), (0, 10, 11), (0, 9, 6), (6, 0, 7), (6, 1, 8), (6, 2, 9), (6, 3, 10), (0, 2, 5), (0, 1, 2), (2, 1, 4), (2, 0, 3), (0, 0, 1)] 3 3 true true m44 := ⟨by rw [a44.2.2.2.1]; exact h43.1, fun j hj => by rw [a44.1, a44.2.1]; exact h43.2.1 j hj, fun b j q1 q2 q3 => by rw [a44.2.2.2.2 _ _ (by omega)]; exact h43.2.2.1 b j q1 q2 q3, fun j k => by rw [a44.2.2.1]; exact h43.2.2.2.1 j k, fun q j hj => by rw [a44.2.2.2.2 _ _ (by omega)]; exact h43.2.2.2.2.1 rfl j hj, fun _ => v44⟩
  have x4 : f_X4_init (X + 12) m19 = some ((), m44) := by
    unfold f_X4_init
    rw [e20, e21, e22, e23, e24, e25, e26, e27, e28, e29, e30, e31, e32, e33, e34, e35, e36, e37, e38, e39, e40, e41, e42, e43, b_eq (show f_X4_init_L200 2100 (X + 12) 0 m43 = _ from e44)]; rfl
  obtain ⟨m45, k45⟩ : ∃ z, z = allo m44 9 1 := ⟨_, rfl⟩
  have h45 : BIR X 37 [(12, 33, 35), (12, 32, 34), (12, 31, 33), (12, 30, 32), (12, 29, 31), (12, 27, 30), (12, 26, 29), (12, 25, 28), (12, 24, 27), (12, 23, 26), (12, 15, 25), (12, 14, 24), (12, 13, 23), (12, 12, 22), (12, 11, 21), (12, 10, 20), (12, 9, 19), (12, 8, 18), (12, 6, 17), (12, 4, 16), (12, 3, 15), (12, 2, 14), (12, 1, 13), (0, 10, 11), (0, 9, 6), (6, 0, 7), (6, 1, 8), (6, 2, 9), (6, 3, 10), (0, 2, 5), (0, 1, 2), (2, 1, 4), (2, 0, 3), (0, 0, 1)] 3 3 true true m45 := by rw [k45]; exact BIR_A h44 rfl rfl rfl (by decide) (by decide) (by decide) (by decide)
  have e45 : ∀ {β : Type} (K : Nat → HM β), bnd (nA 9 1 1) K m44 = K (X + 36) m45 := fun K => by rw [show (1 : Int32) = nI 1 from rfl, b_nA (Nat.le_refl 1) (by decide), h44.1, k45]
  refine ⟨m45, _, ?_, h45, ⟨h45.2.2.2.1 0 0, h45.2.2.2.1 0 1, h45.2.2.2.1 0 2, h45.2.2.2.1 0 9, h45.2.2.2.1 0 10, h45.2.2.2.1 2 0, h45.2.2.2.1 2 1, h45.2.2.2.1 6 0, h45.2.2.2.1 6 1, h45.2.2.2.1 6 2, h45.2.2.2.1 6 3, h45.2.2.2.1 12 1, h45.2.2.2.1 12 2, h45.2.2.2.1 12 3, h45.2.2.2.1 12 4, h45.2.2.2.1 12 6, h45.2.2.2.1 12 8, h45.2.2.2.1 12 9, h45.2.2.2.1 12 10, h45.2.2.2.1 12 11, h45.2.2.2.1 12 12, h45.2.2.2.1 12 13, h45.2.2.2.1 12 14, h45.2.2.2.1 12 15, h45.2.2.2.1 12 23, h45.2.2.2.1 12 24, h45.2.2.2.1 12 25, h45.2.2.2.1 12 26, h45.2.2.2.1 12 27, h45.2.2.2.1 12 29, h45.2.2.2.1 12 30, h45.2.2.2.1 12 31, h45.2.2.2.1 12 32, h45.2.2.2.1 12 33⟩, h45.2.2.2.1 0 7, h45.2.2.2.1 0 8⟩
  unfold f_start
  rw [e1, b_eq x3, e19, b_eq x4, e45]; rfl
theorem start_inv (X : Nat) : ∃ m, f_start (m00 X) = some ((X, X + 12, X + 36), m) ∧ Inv X 0 m := by
  obtain ⟨m, l, e, ⟨b1, b2, b3, -, b5, b6⟩, b7, b8, b9⟩ := start_m X
  have z : ∀ b j, b ≠ X + 1 → b ≠ X + 13 → b ≠ X + 15 → ¬ (b = X ∧ j = 6) → ¬ (b = X + 12 ∧ j = 18) → mI m b j = 0 := fun b j q1 q2 q3 q4 q5 => by rw [b3 b j q1 q2 q3, if_neg q4, if_neg q5]
  have hL : SL X m := ⟨by omega, ⟨(b2 0 (by decide)).1, (b2 1 (by decide)).1, (b2 2 (by decide)).1, (b2 3 (by decide)).1, (b2 4 (by decide)).1, (b2 5 (by decide)).1, (b2 6 (by decide)).1, (b2 7 (by decide)).1, (b2 8 (by decide)).1, (b2 9 (by decide)).1, (b2 10 (by decide)).1, (b2 11 (by decide)).1, (b2 12 (by decide)).1, (b2 13 (by decide)).1, (b2 14 (by decide)).1, (b2 15 (by decide)).1, (b2 16 (by decide)).1, (b2 17 (by decide)).1, (b2 18 (by decide)).1, (b2 19 (by decide)).1, (b2 20 (by decide)).1, (b2 21 (by decide)).1, (b2 22 (by decide)).1, (b2 23 (by decide)).1, (b2 24 (by decide)).1, (b2 25 (by decide)).1, (b2 26 (by decide)).1, (b2 27 (by decide)).1, (b2 28 (by decide)).1, (b2 29 (by decide)).1, (b2 30 (by decide)).1, (b2 31 (by decide)).1, (b2 32 (by decide)).1, (b2 33 (by decide)).1, (b2 34 (by decide)).1, (b2 35 (by decide)).1, (b2 36 (by decide)).1⟩, ⟨(b2 1 (by decide)).2, (b2 3 (by decide)).2, (b2 4 (by decide)).2, (b2 5 (by decide)).2, (b2 6 (by decide)).2, (b2 7 (by decide)).2, (b2 8 (by decide)).2, (b2 9 (by decide)).2, (b2 10 (by decide)).2, (b2 11 (by decide)).2, (b2 13 (by decide)).2, (b2 14 (by decide)).2, (b2 15 (by decide)).2, (b2 16 (by decide)).2, (b2 17 (by decide)).2, (b2 18 (by decide)).2, (b2 19 (by decide)).2, (b2 20 (by decide)).2, (b2 21 (by decide)).2, (b2 22 (by decide)).2, (b2 23 (by decide)).2, (b2 24 (by decide)).2, (b2 25 (by decide)).2, (b2 26 (by decide)).2, (b2 27 (by decide)).2, (b2 28 (by decide)).2, (b2 29 (by decide)).2, (b2 30 (by decide)).2, (b2 31 (by decide)).2, (b2 32 (by decide)).2, (b2 33 (by decide)).2, (b2 34 (by decide)).2, (b2 35 (by decide)).2, (b2 36 (by decide)).2⟩, b7⟩
  have z0 : ∀ b j, b ≠ X + 1 → b ≠ X + 13 → b ≠ X + 15 → ¬ (b = X ∧ j = 6) → ¬ (b = X + 12 ∧ j = 18) → mI m b j = nI 0 := z
  refine ⟨m, e, hL, ⟨fun _ => false, fun _ _ => -1, fun w hw => ⟨⟨z _ _ (by omega) (by omega) (by omega) (by omega) (by omega), z _ _ (by omega) (by omega) (by omega) (by omega) (by omega)⟩, fun q => (by cases q)⟩, fun w hw q => (by cases q)⟩, 0, 0, fun _ => false, fun _ => 0, fun _ => 0, fun _ => 0, fun _ => 0, fun _ => 0, fun _ _ => 0, fun _ _ => 0, fun _ _ => false, fun _ => -1, 0, fun _ => 0, fun _ => none, fun _ => 0, 0, 0, ⟨⟨⟨z0 _ _ (by omega) (by omega) (by omega) (by omega) (by omega), z0 _ _ (by omega) (by omega) (by omega) (by omega) (by omega)⟩, fun p hp => absurd hp (by omega), fun s hs => z _ _ (by omega) (by omega) (by omega) (by omega) (by omega)⟩, fun s hs => (by cases hs), ⟨by omega, fun p hp => absurd hp (by omega), fun p q hp => absurd hp (by omega), fun s hs => (by cases hs)⟩, fun s hs => (by cases hs), ⟨fun s hs => (by cases hs), fun s r hs => (by cases hs)⟩, 3, ⟨⟨z0 _ _ (by omega) (by omega) (by omega) (by omega) (by omega), z0 _ _ (by omega) (by omega) (by omega) (by omega) (by omega)⟩, ?_, ?_, ?_⟩, Nat.le_refl _, ⟨by decide, by decide⟩, fun s hs => (by cases hs), fun s r hs => (by cases hs)⟩, ⟨fun k hk => ⟨b5 rfl k hk, (b6 rfl k hk).1⟩, fun k hk => Or.inl rfl, ⟨⟨z0 _ _ (by omega) (by omega) (by omega) (by omega) (by omega), z0 _ _ (by omega) (by omega) (by omega) (by omega) (by omega)⟩, fun j hj => absurd hj (by omega)⟩, ⟨by omega, fun j hj => absurd hj (by omega), fun i j hi => absurd hi (by omega)⟩, fun s hs => (by cases hs), fun k hk => ⟨z0 _ _ (by omega) (by omega) (by omega) (by omega) (by omega), fun _ => (b6 rfl k hk).2, fun s i q => (by cases q)⟩, ⟨fun k s i hk q => (by cases q), fun s i hs => (by cases hs), fun k hk => ⟨fun q => absurd rfl q, fun q => (by
    rcases q with ⟨j, hj, -⟩ | q
    · omega
    · exact absurd rfl q)⟩, fun j hj => absurd hj (by omega)⟩⟩, ⟨0, 0, 0, 0, fun _ => 0, fun _ _ => 0, fun _ => 0, fun _ => 0, fun _ => 0, fun _ => 0, fun _ => 0, ⟨z0 _ _ (by omega) (by omega) (by omega) (by omega) (by omega), fun _ => b8, fun q => absurd q (by omega)⟩, fun k hk => Nat.le_refl _, Or.inl rfl⟩, ⟨0, 0, fun _ => 0, fun _ => 0, fun _ => 0, fun _ _ => 0, ⟨z0 _ _ (by omega) (by omega) (by omega) (by omega) (by omega), fun _ => b9, fun q => absurd q (by omega)⟩, ⟨by omega, fun k hk => absurd hk (by omega), fun i j hi => absurd hi (by omega), fun q => absurd q (by omega)⟩⟩⟩
  · rw [z _ _ (by omega) (by omega) (by omega) (by omega) (by omega), z _ _ (by omega) (by omega) (by omega) (by omega) (by omega)]
  · rw [b3 _ _ (by omega) (by omega) (by omega), if_pos ⟨rfl, rfl⟩]; rfl
  · rw [b3 _ _ (by omega) (by omega) (by omega), if_neg (by omega), if_pos ⟨rfl, rfl⟩]; rfl
end INI
