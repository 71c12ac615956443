/-! What a state of the two is: ghosts, how they lie in the memory (R..), what holds of them (W..) -/
def b2i (b : Bool) : Int32 := if b = true then 1 else 0
def cnt (f : Nat → Bool) : Nat → Nat
  | 0 => 0
  | n + 1 => cnt f n + (if f n = true then 1 else 0)
theorem cnt_le (f : Nat → Bool) (n : Nat) : cnt f n ≤ n := by
  induction n with
  | zero => exact Nat.le_refl _
  | succ n ih =>
    unfold cnt
    split <;> omega
theorem cnt_congr {f g : Nat → Bool} {n : Nat} (h : ∀ i, i < n → f i = g i) : cnt f n = cnt g n := by
  induction n with
  | zero => rfl
  | succ n ih =>
    unfold cnt
    rw [ih (fun i hi => h i (by omega)), h n (by omega)]
theorem cnt_off {f g : Nat → Bool} {n i : Nat} (hi : i < n) (h1 : f i = true) (h2 : g i = false) (h : ∀ j, j ≠ i → g j = f j) : cnt g n + 1 = cnt f n := by
  induction n with
  | zero => omega
  | succ n ih =>
    unfold cnt
    by_cases hq : i = n
    · subst hq
      rw [cnt_congr (f := g) (g := f) (fun j hj => h j (by omega)), h1, h2]
      simp
    · rw [h n (Ne.symm hq)]
      have := ih (by omega)
      omega
theorem b2i_0 {b : Bool} : b2i b = 0 ↔ b = false := by cases b <;> decide
theorem b2i_01 (b : Bool) : b2i b = 0 ∨ b2i b = 1 := by cases b <;> decide
/-- a value that a key may have, or none -/
def okV (v : Int32) : Prop := v = -1 ∨ ∃ u, u < 1000 ∧ v = nI u
theorem okV.neg {v : Int32} (h : okV v) : v < 0 ↔ v = -1 := by
  rcases h with rfl | ⟨u, hu, rfl⟩
  · decide
  · exact ⟨fun q => absurd q (nI_pos (by omega)), fun q => absurd q (nI_m1 (by omega))⟩
theorem okV.nn {v : Int32} (h : okV v) : 0 ≤ v ↔ v ≠ -1 := by
  rcases h with rfl | ⟨u, hu, rfl⟩
  · decide
  · exact ⟨fun q => nI_m1 (by omega), fun q => nI_pos' (by omega)⟩
/-- a segment's cells at a: what never changes, and its lives -/
def SgS (m : Mem) (a num ti sz : Nat) (rk : Nat → Nat) (rv : Nat → Int32) : Prop :=
  (mK m a = 2 ∧ mR m a 3 = some (a + 1) ∧ mR m a 4 = some (a + 2) ∧ mR m a 5 = some (a + 3) ∧ mR m a 6 = some (a + 4)) ∧
  (mK m (a + 1) = 5 ∧ mK m (a + 2) = 5 ∧ mK m (a + 3) = 6 ∧ mK m (a + 4) = 5) ∧ (mN m (a + 1) = sz ∧ mN m (a + 2) = sz ∧ mN m (a + 3) = sz ∧ mN m (a + 4) = sz) ∧
  (mI m a 0 = nI num ∧ mI m a 1 = nI ti ∧ mI m a 2 = nI sz) ∧ ∀ i, i < sz → mI m (a + 1) i = nI (rk i) ∧ mI m (a + 2) i = rv i
def SgL (m : Mem) (a sz : Nat) (lv : Nat → Bool) : Prop := mI m a 7 = nI (cnt lv sz) ∧ ∀ i, i < sz → mI m (a + 3) i = b2i (lv i)
/-- the reference's slot s -/
def RfS (X : Nat) (m : Mem) (s num ti sz : Nat) (rk : Nat → Nat) (rv : Nat → Int32) : Prop :=
  (mI m (X + 20) s = nI num ∧ mI m (X + 21) s = nI ti ∧ mI m (X + 22) s = nI sz) ∧ ∀ i, i < sz → mI m (X + 23) (100 * s + i) = nI (rk i) ∧ mI m (X + 24) (100 * s + i) = rv i
def RfL (X : Nat) (m : Mem) (s sz : Nat) (lv : Nat → Bool) : Prop := ∀ i, i < sz → mI m (X + 25) (100 * s + i) = b2i (lv i)
/-- values, memory, numbers -/
def RV (X : Nat) (v : Nat → Int32) (m : Mem) : Prop := ∀ k, k < 100 → mI m (X + 1) k = v k ∧ mI m (X + 13) k = v k
def WV (v : Nat → Int32) : Prop := ∀ k, k < 100 → okV (v k)
def RM (X : Nat) (v : Nat → Int32) (nM : Nat) (mk : Nat → Nat) (m : Mem) : Prop := (mI m (X + 2) 2 = nI nM ∧ mI m (X + 12) 5 = nI nM) ∧ ∀ j, j < nM → mI m (X + 3) j = nI (mk j) ∧ mI m (X + 17) j = nI (mk j) ∧ mI m (X + 4) j = v (mk j)
def WM (nM : Nat) (mk : Nat → Nat) : Prop := nM ≤ 6 ∧ (∀ j, j < nM → mk j < 100) ∧ ∀ i j, i < nM → j < nM → mk i = mk j → i = j
/-- the row of segments: od the slots by places; of a slot: sa its cells, num, ti, sz, rk, rv, lv -/
def RO (X : Nat) (nS : Nat) (od sa : Nat → Nat) (us : Nat → Bool) (m : Mem) : Prop := (mI m X 3 = nI nS ∧ mI m (X + 12) 7 = nI nS) ∧ (∀ p, p < nS → mR m (X + 5) p = some (sa (od p)) ∧ mI m (X + 18) p = nI (od p)) ∧ ∀ s, s < 21 → mI m (X + 19) s = b2i (us s)
def RS (X : Nat) (us : Nat → Bool) (sa num ti sz : Nat → Nat) (rk : Nat → Nat → Nat) (rv : Nat → Nat → Int32) (m : Mem) : Prop := ∀ s, us s = true → SgS m (sa s) (num s) (ti s) (sz s) (rk s) (rv s) ∧ RfS X m s (num s) (ti s) (sz s) (rk s) (rv s)
def RLv (X : Nat) (us : Nat → Bool) (sa sz : Nat → Nat) (lv : Nat → Nat → Bool) (m : Mem) : Prop := ∀ s, us s = true → SgL m (sa s) (sz s) (lv s) ∧ RfL X m s (sz s) (lv s)
def WO (nS : Nat) (od : Nat → Nat) (us : Nat → Bool) : Prop := nS ≤ 20 ∧ (∀ p, p < nS → od p < 21 ∧ us (od p) = true) ∧ (∀ p q, p < nS → q < nS → od p = od q → p = q) ∧ ∀ s, us s = true → ∃ p, p < nS ∧ od p = s
def WS (us : Nat → Bool) (sz : Nat → Nat) (rk : Nat → Nat → Nat) : Prop := ∀ s, us s = true → sz s ≤ 100 ∧ (∀ i, i < sz s → rk s i < 100) ∧ ∀ i j, i < j → j < sz s → rk s i < rk s j
/-- the cells apart -/
def dj (a n b k : Nat) : Prop := a + n ≤ b ∨ b + k ≤ a
def WA (X top : Nat) (us : Nat → Bool) (sa : Nat → Nat) : Prop := (∀ s, us s = true → X + 37 ≤ sa s ∧ sa s + 5 ≤ top) ∧ ∀ s r, us s = true → us r = true → s ≠ r → dj (sa s) 5 (sa r) 5
/-- where a key's living row is -/
def RLo (X : Nat) (loc : Nat → Option (Nat × Nat)) (tt : Nat → Nat) (m : Mem) : Prop := ∀ k, k < 100 → mI m (X + 14) k = nI (tt k) ∧ (loc k = none → mI m (X + 15) k = -1) ∧ ∀ s i, loc k = some (s, i) → mI m (X + 15) k = nI s ∧ mI m (X + 16) k = nI i
def WL (v : Nat → Int32) (nM : Nat) (mk : Nat → Nat) (us : Nat → Bool) (sz : Nat → Nat) (rk : Nat → Nat → Nat) (lv : Nat → Nat → Bool) (loc : Nat → Option (Nat × Nat)) : Prop :=
  (∀ k s i, k < 100 → loc k = some (s, i) → us s = true ∧ s < 21 ∧ i < sz s ∧ rk s i = k ∧ lv s i = true) ∧ (∀ s i, us s = true → i < sz s → lv s i = true → loc (rk s i) = some (s, i)) ∧
  (∀ k, k < 100 → (v k ≠ -1 ↔ (∃ j, j < nM ∧ mk j = k) ∨ loc k ≠ none)) ∧ ∀ j, j < nM → loc (mk j) = none
def RN (X nn F : Nat) (m : Mem) : Prop := (mI m X 4 = nI nn ∧ mI m (X + 12) 16 = nI nn) ∧ mI m X 5 = mI m (X + 12) 17 ∧ mI m X 6 = nI F ∧ mI m (X + 12) 18 = nI F
def WN (c nn F : Nat) (us : Nat → Bool) (num ti : Nat → Nat) : Prop := nn ≤ c ∧ (2 ≤ F ∧ F ≤ 5) ∧ (∀ s, us s = true → num s < nn ∧ ti s ≤ c) ∧ ∀ s r, us s = true → us r = true → num s = num r → s = r
/-- the views -/
def RW (X : Nat) (vo : Nat → Bool) (vv : Nat → Nat → Int32) (m : Mem) : Prop := ∀ w, w < 4 → (mI m (X + 11) w = b2i (vo w) ∧ mI m (X + 34) w = b2i (vo w)) ∧ (vo w = true → ∀ k, k < 100 → mI m (X + 7 + w) k = vv w k ∧ mI m (X + 35) (100 * w + k) = vv w k)
def WW (vo : Nat → Bool) (vv : Nat → Nat → Int32) : Prop := ∀ w, w < 4 → vo w = true → ∀ k, k < 100 → okV (vv w k)
/-- the merge that goes on: its own cells -/
def Mg (m : Mem) (ca gp gn gt gw gl : Nat) (src ga : Nat → Nat) : Prop :=
  (mK m ca = 1 ∧ mR m ca 1 = some (ca + 1) ∧ mR m ca 2 = some (ca + 2) ∧ mK m (ca + 1) = 7 ∧ mK m (ca + 2) = 5 ∧ mN m (ca + 1) = gn ∧ mN m (ca + 2) = gn) ∧
  (mI m ca 0 = nI gp ∧ mI m ca 3 = nI gt ∧ mI m ca 4 = nI gw ∧ mI m ca 5 = nI gl) ∧ ∀ k, k < gn → mR m (ca + 1) k = some (src k) ∧ mI m (ca + 2) k = nI (ga k)
def RG (X gn gp gt gw gl ca : Nat) (od sa ga : Nat → Nat) (gg : Nat → Nat → Int32) (nk : Nat → Nat) (nv : Nat → Int32) (nt : Nat → Nat) (m : Mem) : Prop :=
  mI m (X + 12) 19 = nI gn ∧ (gn = 0 → mR m X 7 = none) ∧ (0 < gn → mR m X 7 = some ca ∧ Mg m ca gp gn gt gw gl (fun k => sa (od (gp + k))) ga ∧ (mI m (X + 12) 20 = nI gp ∧ mI m (X + 12) 21 = nI gt ∧ mI m (X + 12) 22 = nI gw) ∧
    (∀ k, k < gn → mI m (X + 26) k = nI (ga k) ∧ ∀ i, i < ga k → mI m (X + 30) (100 * k + i) = gg k i ∧ mI m (sa (od (gp + k)) + 4) i = gg k i) ∧ ∀ j, j < gw → mI m (X + 27) j = nI (nk j) ∧ mI m (X + 28) j = nv j ∧ mI m (X + 29) j = nI (nt j))
def sumF (f : Nat → Nat) : Nat → Nat
  | 0 => 0
  | n + 1 => sumF f n + f n
def WG (X top c nS gn gp gt gw gl ca : Nat) (us : Nat → Bool) (od sa sz ga : Nat → Nat) (rk : Nat → Nat → Nat) (rv : Nat → Nat → Int32) (lv : Nat → Nat → Bool) (gg : Nat → Nat → Int32) (wk wi nk : Nat → Nat) (nv : Nat → Int32) (nt tt : Nat → Nat) : Prop :=
  (∀ k, k < 100 → tt k ≤ c) ∧ (gn = 0 ∨ ((2 ≤ gn ∧ gn ≤ 6 ∧ gp + gn ≤ nS) ∧ ((∀ k, k < gn → ga k ≤ sz (od (gp + k))) ∧ gt = sumF ga gn ∧ gl = sumF (fun k => sz (od (gp + k)) - ga k) gn) ∧
    (X + 37 ≤ ca ∧ ca + 3 ≤ top ∧ ∀ s, us s = true → dj ca 3 (sa s) 5) ∧
    (∀ k i, k < gn → i < ga k → gg k i = -1 ∨ ∃ j, j < gw ∧ gg k i = nI j ∧ wk j = k ∧ wi j = i) ∧
    (∀ j, j < gw → wk j < gn ∧ wi j < ga (wk j) ∧ gg (wk j) (wi j) = nI j ∧ nk j = rk (od (gp + wk j)) (wi j) ∧ nv j = rv (od (gp + wk j)) (wi j) ∧ nt j ≤ tt (nk j) ∧ (lv (od (gp + wk j)) (wi j) = true ↔ tt (nk j) = nt j)) ∧
    (∀ i j, i < j → j < gw → nk i < nk j) ∧
    (∀ k i r j, k < gn → i < ga k → r < gn → ga r ≤ j → j < sz (od (gp + r)) → rk (od (gp + k)) i ≤ rk (od (gp + r)) j) ∧
    (∀ j k i, j < gw → k < gn → ga k ≤ i → i < sz (od (gp + k)) → rk (od (gp + k)) i = nk j → lv (od (gp + k)) i = false) ∧
    ∀ k i, k < gn → i < ga k → lv (od (gp + k)) i = true → gg k i ≠ -1))
/-- the latest merge that ended -/
def RD (X dn da : Nat) (ea dm er : Nat → Nat) (dg : Nat → Nat → Int32) (m : Mem) : Prop :=
  mI m (X + 12) 28 = nI dn ∧ (dn = 0 → mR m X 8 = none) ∧ (0 < dn → mR m X 8 = some da ∧ (mK m da = 1 ∧ mR m da 1 = some (da + 1) ∧ mK m (da + 1) = 7 ∧ mN m (da + 1) = dn) ∧ ∀ k, k < dn → (mR m (da + 1) k = some (ea k) ∧ mK m (ea k) = 2 ∧ mR m (ea k) 6 = some (ea k + 4) ∧ mK m (ea k + 4) = 5 ∧ mN m (ea k + 4) = er k) ∧
    (mI m (ea k) 0 = nI (dm k) ∧ mI m (ea k) 2 = nI (er k) ∧ mI m (X + 31) k = nI (dm k) ∧ mI m (X + 32) k = nI (er k)) ∧ ∀ i, i < er k → mI m (ea k + 4) i = dg k i ∧ mI m (X + 33) (100 * k + i) = dg k i)
def WD (X top c dn da gn ca : Nat) (us : Nat → Bool) (sa ea dm er : Nat → Nat) (dg : Nat → Nat → Int32) : Prop :=
  dn ≤ 6 ∧ (∀ k, k < dn → er k ≤ 100 ∧ dm k ≤ c ∧ (X + 37 ≤ ea k ∧ ea k + 5 ≤ top ∧ (∀ s, us s = true → dj (ea k) 5 (sa s) 5) ∧ (0 < gn → dj (ea k) 5 ca 3)) ∧ ∀ i, i < er k → dg k i = -1 ∨ ∃ j, j < 2 ^ 31 ∧ dg k i = nI j) ∧
  (∀ i j, i < dn → j < dn → dm i = dm j → i = j) ∧ (0 < dn → X + 37 ≤ da ∧ da + 3 ≤ top ∧ (∀ s, us s = true → dj da 3 (sa s) 5) ∧ (0 < gn → dj da 3 ca 3))
def IW (X : Nat) (m : Mem) : Prop := ∃ vo vv, RW X vo vv m ∧ WW vo vv
def ID (X c gn ca : Nat) (us : Nat → Bool) (sa : Nat → Nat) (m : Mem) : Prop := ∃ dn da ea dm er dg, RD X dn da ea dm er dg m ∧ WD X (mS m) c dn da gn ca us sa ea dm er dg
def IG (X c nS : Nat) (gn ca : Nat) (us : Nat → Bool) (od sa sz : Nat → Nat) (rk : Nat → Nat → Nat) (rv : Nat → Nat → Int32) (lv : Nat → Nat → Bool) (tt : Nat → Nat) (m : Mem) : Prop := ∃ gp gt gw gl ga gg wk wi nk nv nt, RG X gn gp gt gw gl ca od sa ga gg nk nv nt m ∧ WG X (mS m) c nS gn gp gt gw gl ca us od sa sz ga rk rv lv gg wk wi nk nv nt tt
def IS (X c nS nn : Nat) (us : Nat → Bool) (od sa sz num ti : Nat → Nat) (rk : Nat → Nat → Nat) (rv : Nat → Nat → Int32) (m : Mem) : Prop := RO X nS od sa us m ∧ RS X us sa num ti sz rk rv m ∧ WO nS od us ∧ WS us sz rk ∧ WA X (mS m) us sa ∧ ∃ F, RN X nn F m ∧ WN c nn F us num ti
def IL (X : Nat) (us : Nat → Bool) (sa sz : Nat → Nat) (rk : Nat → Nat → Nat) (lv : Nat → Nat → Bool) (v : Nat → Int32) (nM : Nat) (mk : Nat → Nat) (loc : Nat → Option (Nat × Nat)) (tt : Nat → Nat) (m : Mem) : Prop := RV X v m ∧ WV v ∧ RM X v nM mk m ∧ WM nM mk ∧ RLv X us sa sz lv m ∧ RLo X loc tt m ∧ WL v nM mk us sz rk lv loc
def Inv (X c : Nat) (m : Mem) : Prop := SL X m ∧ IW X m ∧ ∃ nS nn us od sa sz num ti rk rv lv v nM mk loc tt gn ca, IS X c nS nn us od sa sz num ti rk rv m ∧ IL X us sa sz rk lv v nM mk loc tt m ∧ IG X c nS gn ca us od sa sz rk rv lv tt m ∧ ID X c gn ca us sa m
/-- m2 is m but for whole numbers at S -/
def Ag (S : Nat → Nat → Prop) (m m2 : Mem) : Prop := mK m2 = mK m ∧ mN m2 = mN m ∧ mR m2 = mR m ∧ mS m2 = mS m ∧ ∀ b j, ¬ S b j → mI m2 b j = mI m b j
theorem Ag.setI {m : Mem} {a k : Nat} {v : Int32} : Ag (fun b j => b = a ∧ j = k) m (setI m a k v) := ⟨rfl, rfl, rfl, rfl, fun b j h => by rw [mI_setI, if_neg h]⟩
theorem Ag.refl {S : Nat → Nat → Prop} {m : Mem} : Ag S m m := ⟨rfl, rfl, rfl, rfl, fun _ _ _ => rfl⟩
theorem Ag.trans {S T : Nat → Nat → Prop} {m m2 m3 : Mem} (h : Ag S m m2) (g : Ag T m2 m3) : Ag (fun b j => S b j ∨ T b j) m m3 := ⟨g.1.trans h.1, g.2.1.trans h.2.1, g.2.2.1.trans h.2.2.1, g.2.2.2.1.trans h.2.2.2.1, fun b j q => by rw [g.2.2.2.2 b j (fun z => q (Or.inr z)), h.2.2.2.2 b j (fun z => q (Or.inl z))]⟩
theorem Ag.mono {S T : Nat → Nat → Prop} {m m2 : Mem} (h : Ag S m m2) (hs : ∀ b j, S b j → T b j) : Ag T m m2 := ⟨h.1, h.2.1, h.2.2.1, h.2.2.2.1, fun b j q => h.2.2.2.2 b j (fun z => q (hs b j z))⟩
theorem Ag.SL {S : Nat → Nat → Prop} {m m2 : Mem} {X : Nat} (h : Ag S m m2) (g : SL X m) : SL X m2 := by
  refine SL_eq g (Nat.le_of_eq h.2.2.2.1.symm) (fun j _ => ⟨by rw [h.1], by rw [h.2.1]⟩) (fun j k b _ _ _ q => by rw [h.2.2.1]; exact q)
section AGS
variable {S : Nat → Nat → Prop} {m m2 : Mem} {X : Nat}
theorem Ag.RV {v : Nat → Int32} (h : Ag S m m2) (g : RV X v m) (s : ∀ k, ¬ S (X + 1) k ∧ ¬ S (X + 13) k) : RV X v m2 := fun k hk => by
  rw [h.2.2.2.2 _ _ (s k).1, h.2.2.2.2 _ _ (s k).2]; exact g k hk
theorem Ag.RM {v : Nat → Int32} {nM : Nat} {mk : Nat → Nat} (h : Ag S m m2) (g : RM X v nM mk m) (s : (∀ k, ¬ S (X + 3) k ∧ ¬ S (X + 17) k ∧ ¬ S (X + 4) k) ∧ ¬ S (X + 2) 2 ∧ ¬ S (X + 12) 5) : RM X v nM mk m2 := by
  obtain ⟨⟨g1, g2⟩, g3⟩ := g
  refine ⟨⟨by rw [h.2.2.2.2 _ _ s.2.1]; exact g1, by rw [h.2.2.2.2 _ _ s.2.2]; exact g2⟩, fun j hj => ?_⟩
  rw [h.2.2.2.2 _ _ (s.1 j).1, h.2.2.2.2 _ _ (s.1 j).2.1, h.2.2.2.2 _ _ (s.1 j).2.2]
  exact g3 j hj
theorem Ag.RO {nS : Nat} {od sa : Nat → Nat} {us : Nat → Bool} (h : Ag S m m2) (g : RO X nS od sa us m) (s : (∀ k, ¬ S (X + 18) k ∧ ¬ S (X + 19) k) ∧ ¬ S X 3 ∧ ¬ S (X + 12) 7) : RO X nS od sa us m2 := by
  obtain ⟨⟨g1, g2⟩, g3, g4⟩ := g
  refine ⟨⟨by rw [h.2.2.2.2 _ _ s.2.1]; exact g1, by rw [h.2.2.2.2 _ _ s.2.2]; exact g2⟩, fun p hp => ?_, fun q hq => ?_⟩
  · rw [h.2.2.1, h.2.2.2.2 _ _ (s.1 p).1]
    exact g3 p hp
  · rw [h.2.2.2.2 _ _ (s.1 q).2]
    exact g4 q hq
theorem Ag.SgS {a num ti sz : Nat} {rk : Nat → Nat} {rv : Nat → Int32} (h : Ag S m m2) (g : SgS m a num ti sz rk rv) (s : (∀ k, ¬ S (a + 1) k ∧ ¬ S (a + 2) k) ∧ ¬ S a 0 ∧ ¬ S a 1 ∧ ¬ S a 2) : SgS m2 a num ti sz rk rv := by
  obtain ⟨g1, g2, g3, g4, g5⟩ := g
  unfold _root_.Jvm.Pilot.@@N@@.SgS
  rw [h.1, h.2.1, h.2.2.1, h.2.2.2.2 _ _ s.2.1, h.2.2.2.2 _ _ s.2.2.1, h.2.2.2.2 _ _ s.2.2.2]
  refine ⟨g1, g2, g3, g4, fun i hi => ?_⟩
  rw [h.2.2.2.2 _ _ (s.1 i).1, h.2.2.2.2 _ _ (s.1 i).2]
  exact g5 i hi
theorem Ag.RfS {s0 num ti sz : Nat} {rk : Nat → Nat} {rv : Nat → Int32} (h : Ag S m m2) (g : RfS X m s0 num ti sz rk rv) (s : ∀ k, ¬ S (X + 20) k ∧ ¬ S (X + 21) k ∧ ¬ S (X + 22) k ∧ ¬ S (X + 23) k ∧ ¬ S (X + 24) k) : RfS X m2 s0 num ti sz rk rv := by
  obtain ⟨g1, g2⟩ := g
  unfold _root_.Jvm.Pilot.@@N@@.RfS
  rw [h.2.2.2.2 _ _ (s s0).1, h.2.2.2.2 _ _ (s s0).2.1, h.2.2.2.2 _ _ (s s0).2.2.1]
  refine ⟨g1, fun i hi => ?_⟩
  rw [h.2.2.2.2 _ _ (s _).2.2.2.1, h.2.2.2.2 _ _ (s _).2.2.2.2]
  exact g2 i hi
theorem Ag.RLo {loc : Nat → Option (Nat × Nat)} {tt : Nat → Nat} (h : Ag S m m2) (g : RLo X loc tt m) (s : ∀ k, ¬ S (X + 14) k ∧ ¬ S (X + 15) k ∧ ¬ S (X + 16) k) : RLo X loc tt m2 := fun k hk => by
  rw [h.2.2.2.2 _ _ (s k).1, h.2.2.2.2 _ _ (s k).2.1, h.2.2.2.2 _ _ (s k).2.2]; exact g k hk
theorem Ag.RN {nn F : Nat} (h : Ag S m m2) (g : RN X nn F m) (s : (¬ S X 4 ∧ ¬ S X 5 ∧ ¬ S X 6) ∧ ¬ S (X + 12) 16 ∧ ¬ S (X + 12) 17 ∧ ¬ S (X + 12) 18) : RN X nn F m2 := by
  unfold _root_.Jvm.Pilot.@@N@@.RN
  rw [h.2.2.2.2 _ _ s.1.1, h.2.2.2.2 _ _ s.1.2.1, h.2.2.2.2 _ _ s.1.2.2, h.2.2.2.2 _ _ s.2.1, h.2.2.2.2 _ _ s.2.2.1, h.2.2.2.2 _ _ s.2.2.2]
  exact g
theorem Ag.RW {vo : Nat → Bool} {vv : Nat → Nat → Int32} (h : Ag S m m2) (g : RW X vo vv m) (s : ∀ k, ¬ S (X + 11) k ∧ ¬ S (X + 34) k ∧ ¬ S (X + 35) k ∧ ∀ w, w < 4 → ¬ S (X + 7 + w) k) : RW X vo vv m2 := fun w hw => by
  refine ⟨by rw [h.2.2.2.2 _ _ (s w).1, h.2.2.2.2 _ _ (s w).2.1]; exact (g w hw).1, fun ho k hk => ?_⟩
  rw [h.2.2.2.2 _ _ ((s k).2.2.2 w hw), h.2.2.2.2 _ _ (s _).2.2.1]
  exact (g w hw).2 ho k hk
theorem Ag.IW (h : Ag S m m2) (g : IW X m) (s : ∀ k, ¬ S (X + 11) k ∧ ¬ S (X + 34) k ∧ ¬ S (X + 35) k ∧ ∀ w, w < 4 → ¬ S (X + 7 + w) k) : IW X m2 := by
  obtain ⟨vo, vv, g1, g2⟩ := g
  exact ⟨vo, vv, h.RW g1 s, g2⟩
theorem Ag.Mg {ca gp gn gt gw gl : Nat} {src ga : Nat → Nat} (h : Ag S m m2) (g : Mg m ca gp gn gt gw gl src ga) (s : (∀ k, ¬ S (ca + 2) k) ∧ ¬ S ca 0 ∧ ¬ S ca 3 ∧ ¬ S ca 4 ∧ ¬ S ca 5) : Mg m2 ca gp gn gt gw gl src ga := by
  obtain ⟨g1, g2, g3⟩ := g
  unfold _root_.Jvm.Pilot.@@N@@.Mg
  rw [h.1, h.2.1, h.2.2.1, h.2.2.2.2 _ _ s.2.1, h.2.2.2.2 _ _ s.2.2.1, h.2.2.2.2 _ _ s.2.2.2.1, h.2.2.2.2 _ _ s.2.2.2.2]
  exact ⟨g1, g2, fun k hk => by rw [h.2.2.2.2 _ _ (s.1 k)]; exact g3 k hk⟩
end AGS
