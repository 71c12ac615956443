/-! the merge ends: the program -/
section ENDX
variable {X c : Nat} {m : Mem}
variable {ca gp gn gt gw : Nat} {A N T Z : Nat → Nat} {R : Nat → Nat → Nat} {V : Nat → Nat → Int32} {Lv : Nat → Nat → Bool} {gg : Nat → Nat → Int32} {wk wi nk : Nat → Nat} {nv : Nat → Int32} {nt tt : Nat → Nat}
theorem cnt_false (n : Nat) : cnt (fun _ => false) n = 0 := by
  induction n with
  | zero => rfl
  | succ n ih => rw [cnt_sf rfl, ih]
def mxT (T : Nat → Nat) : Nat → Nat
  | 0 => 0
  | k + 1 => if mxT T k < T k then T k else mxT T k
theorem mxT_le {B : Nat} (h : ∀ k, k < gn → T k ≤ B) : mxT T gn ≤ B := by
  induction gn with
  | zero => exact Nat.zero_le _
  | succ n ih =>
    unfold mxT
    split
    · exact h n (by omega)
    · exact ih (fun k hk => h k (by omega))
theorem tier_g {B : Nat} (hB : B < 2 ^ 31) (h1 : mK m ca = 1 ∧ mR m ca 1 = some (ca + 1) ∧ mK m (ca + 1) = 7 ∧ mN m (ca + 1) = gn) (hg : gn ≤ 6) (hs : ∀ k, k < gn → mR m (ca + 1) k = some (A k) ∧ mK m (A k) = 2 ∧ mI m (A k) 1 = nI (T k) ∧ T k ≤ B) : f_X1_greatestTier ca m = some (nI (mxT T gn), m) := by
  obtain ⟨k0, k1, k2, k3⟩ := h1
  have L : ∀ d f k, k + d = gn → d < f → f_X1_greatestTier_L4 f ca (nI (mxT T k)) (nI k) m = some ((nI (mxT T gn), nI gn), m) := by
    intro d
    induction d with
    | zero =>
      intro f k hk hf
      obtain ⟨f, rfl⟩ : ∃ g, f = g + 1 := ⟨f - 1, by omega⟩
      have : k = gn := by omega
      subst this
      unfold f_X1_greatestTier_L4
      rw [b_gN k0 k1, b_ln k2 k3, i_t (leL (Nat.le_refl _) (by omega))]; rfl
    | succ d ih =>
      intro f k hk hf
      obtain ⟨f, rfl⟩ : ∃ g, f = g + 1 := ⟨f - 1, by omega⟩
      have hk2 : k < gn := by omega
      obtain ⟨e1, e2, e3, e4⟩ := hs k hk2
      have hm : mxT T k ≤ B := mxT_le (fun j hj => (hs j (by omega)).2.2.2)
      have ih2 := ih f (k + 1) (by omega) (by omega)
      unfold f_X1_greatestTier_L4
      rw [b_gN k0 k1, b_ln k2 k3, i_f (leN hk2 (by omega)), b_gN k0 k1, b_lR k2 k3 hk2 (by omega) e1, b_gI e2, e3, nI_1]
      have e5 : (if nI (mxT T k) < nI (T k) then nI (T k) else nI (mxT T k)) = nI (mxT T (k + 1)) := by
        show _ = nI (if mxT T k < T k then T k else mxT T k)
        by_cases q : mxT T k < T k
        · rw [if_pos q, if_pos ((nI_ltI (by omega) (by omega)).mpr q)]
        · rw [if_neg q, if_neg (ltL (by omega) (by omega))]
      rw [e5]
      exact ih2
  unfold f_X1_greatestTier
  rw [b_eq (show f_X1_greatestTier_L4 2100 ca 0 0 m = _ from L gn 2100 0 (by omega) (by omega))]; rfl
/-- the rows written when the loops stand at row i of source k -/
def dnb (wk wi : Nat → Nat) (k i j : Nat) : Bool := decide (wk j < k ∨ (wk j = k ∧ wi j < i))
theorem dnb_t {k i j : Nat} : dnb wk wi k i j = true ↔ wk j < k ∨ (wk j = k ∧ wi j < i) := by simp [dnb]
def FA (a b j : Nat) : Prop := (b = a ∧ j = 7) ∨ b = a + 1 ∨ b = a + 2 ∨ b = a + 3
def AS (a gw : Nat) (wk wi nk : Nat → Nat) (nv : Nat → Int32) (Lv : Nat → Nat → Bool) (m0 : Mem) (k i : Nat) (m : Mem) : Prop := Ag (FA a) m0 m ∧ mI m a 7 = nI (cnt (fun j => dnb wk wi k i j && Lv (wk j) (wi j)) gw) ∧ ∀ j, j < gw → dnb wk wi k i j = true → mI m (a + 1) j = nI (nk j) ∧ mI m (a + 2) j = nv j ∧ mI m (a + 3) j = b2i (Lv (wk j) (wi j))
theorem seg_L41 {a k : Nat} {m0 : Mem} (h : WT gn gt gw 0 Z Z R V Lv gg wk wi nk nv nt tt) (z : WZ gn Z R Lv) (hk : k < gn) (hgK : SgK m0 a gw) (hS : SgS m0 (A k) (N k) (T k) (Z k) (R k) (V k)) (hV : SgL m0 (A k) (Z k) (Lv k)) (hG : ∀ i, i < Z k → mI m0 (A k + 4) i = gg k i) (hA : A k + 5 ≤ a) (x1 x3 : Int32) : ∀ d f i (m : Mem), i + d = Z k → d < f → AS a gw wk wi nk nv Lv m0 k i m →
    ∃ m2, f_X1_asSegment_L41 f ca x1 a x3 (A k) (nI i) m = some (nI (Z k), m2) ∧ AS a gw wk wi nk nv Lv m0 k (Z k) m2 := by
  have hgw := WT_gw h z
  obtain ⟨z1, z2, z3⟩ := z.1 k hk
  obtain ⟨w1, w2, w3, w4, w5, w6, w7⟩ := h
  intro d
  induction d with
  | zero =>
    intro f i m hi hf hm
    obtain ⟨f, rfl⟩ : ∃ g, f = g + 1 := ⟨f - 1, by omega⟩
    have : i = Z k := by omega
    subst this
    refine ⟨m, ?_, hm⟩
    unfold f_X1_asSegment_L41
    rw [b_gI (by rw [hm.1.1]; exact hS.1.1), hm.1.2.2.2.2 _ _ (fun q => by unfold FA at q; omega), hS.2.2.2.1.2.2, i_t (leL (Nat.le_refl _) (by omega))]; rfl
  | succ d ih =>
    intro f i m hi hf hm
    obtain ⟨f, rfl⟩ : ∃ g, f = g + 1 := ⟨f - 1, by omega⟩
    have hi2 : i < Z k := by omega
    obtain ⟨hm1, hm2, hm3⟩ := hm
    have fr : ∀ b j, b < a → mI m b j = mI m0 b j := fun b j hb => hm1.2.2.2.2 _ _ (fun q => by unfold FA at q; omega)
    obtain ⟨⟨a0, a1, a2, a3, a4⟩, ⟨c1, c2, c3, c4⟩, ⟨n1, n2, n3, n4⟩, ⟨t1, t2, t3⟩, t5⟩ := hS
    rw [← hm1.1] at a0 c1 c2 c3 c4
    rw [← hm1.2.1] at n1 n2 n3 n4
    rw [← hm1.2.2.1] at a1 a2 a3 a4
    have e2 : mI m (A k) 2 = nI (Z k) := by rw [fr _ _ (by omega)]; exact t3
    have e4 : mI m (A k + 4) i = gg k i := by rw [fr _ _ (by omega)]; exact hG i hi2
    by_cases hq : gg k i = -1
    · have hno : ∀ j, j < gw → ¬ (wk j = k ∧ wi j = i) := fun j hj q => by
        have := (w3 j hj).2.2.1
        rw [q.1, q.2, hq] at this
        exact nI_m1 (by omega) this.symm
      have hsame : ∀ j, j < gw → dnb wk wi k (i + 1) j = dnb wk wi k i j := fun j hj => by
        have := hno j hj
        unfold dnb
        congr 1
        apply propext
        omega
      obtain ⟨m2, g1, g2⟩ := ih f (i + 1) m (by omega) (by omega) ⟨hm1, by rw [hm2]; congr 1; exact cnt_congr (fun j hj => by rw [hsame j hj]), fun j hj hd => hm3 j hj (by rw [← hsame j hj]; exact hd)⟩
      refine ⟨m2, ?_, g2⟩
      unfold f_X1_asSegment_L41
      rw [b_gI a0, e2, i_f (leN hi2 (by omega)), b_gN a0 a4, b_lI c4 n4 hi2 (by omega), e4, i_t hq, nI_1]
      exact g1
    · rcases w2 k i hk hi2 with q | ⟨j0, q1, q2, q3, q4⟩
      · exact absurd q hq
      obtain ⟨-, -, -, r4, r5, -⟩ := w3 j0 q1
      rw [q3, q4] at r4 r5
      have e5 : mI m (A k + 1) i = nI (nk j0) := by rw [fr _ _ (by omega), r4]; exact (t5 i hi2).1
      have e6 : mI m (A k + 2) i = nv j0 := by rw [fr _ _ (by omega), r5]; exact (t5 i hi2).2
      have e7 : mI m (A k + 3) i = b2i (Lv k i) := by rw [fr _ _ (by omega)]; exact hV.2 i hi2
      have hun : ∀ j, j < gw → wk j = k ∧ wi j = i → j = j0 := fun j hj q => by
        have := (w3 j hj).2.2.1
        rw [q.1, q.2, q2] at this
        exact ((nI_eq (by omega) (by omega)).mp this).symm
      have hd1 : dnb wk wi k (i + 1) j0 = true := dnb_t.mpr (Or.inr ⟨q3, by omega⟩)
      have hd0 : dnb wk wi k i j0 = false := by
        cases e : dnb wk wi k i j0 with
        | false => rfl
        | true =>
          have := dnb_t.mp e
          omega
      have hsame : ∀ j, j < gw → j ≠ j0 → dnb wk wi k (i + 1) j = dnb wk wi k i j := fun j hj hne => by
        have : ¬ (wk j = k ∧ wi j = i) := fun q => hne (hun j hj q)
        unfold dnb
        congr 1
        apply propext
        omega
      obtain ⟨m1, v1, v2, ⟨v3, v4, v5⟩, v6⟩ := write_spec (hm1.SgK hgK) hgw q1 (nI (nk j0)) (nv j0) (b2i (Lv k i)) (b2i_01 _)
      have hA1 : Ag (FA a) m0 m1 := (hm1.trans v2).mono (fun b j q => by
        rcases q with q | q | q
        · exact q
        · exact Or.inl q
        · unfold FA; omega)
      have hcn : mI m1 a 7 = nI (cnt (fun j => dnb wk wi k (i + 1) j && Lv (wk j) (wi j)) gw) := by
        rw [v6, hm2]
        cases hl : Lv k i with
        | false =>
          rw [if_pos (show b2i false = 0 from rfl)]
          congr 1
          refine cnt_congr (fun j hj => ?_)
          by_cases e : j = j0
          · subst e
            rw [q3, q4, hl]; simp
          · rw [hsame j hj e]
        | true =>
          rw [if_neg b2i_t, nI_1]
          congr 1
          refine cnt_off2 q1 (by rw [hd1, q3, q4, hl]; rfl) (by rw [hd0]; rfl) (fun j hj hne => by rw [hsame j hj hne])
      have hrw : ∀ j, j < gw → dnb wk wi k (i + 1) j = true → mI m1 (a + 1) j = nI (nk j) ∧ mI m1 (a + 2) j = nv j ∧ mI m1 (a + 3) j = b2i (Lv (wk j) (wi j)) := fun j hj hd => by
        by_cases e : j = j0
        · subst e
          rw [q3, q4]
          exact ⟨v3, v4, v5⟩
        · rw [hsame j hj e] at hd
          rw [v2.2.2.2.2 _ _ (by omega), v2.2.2.2.2 _ _ (by omega), v2.2.2.2.2 _ _ (by omega)]
          exact hm3 j hj hd
      obtain ⟨m2, g1, g2⟩ := ih f (i + 1) m1 (by omega) (by omega) ⟨hA1, hcn, hrw⟩
      refine ⟨m2, ?_, g2⟩
      unfold f_X1_asSegment_L41
      rw [b_gI a0, e2, i_f (leN hi2 (by omega)), b_gN a0 a4, b_lI c4 n4 hi2 (by omega), e4, i_f hq, b_gN a0 a4, b_lI c4 n4 hi2 (by omega), e4, q2, b_gN a0 a1, b_lI c1 n1 hi2 (by omega), e5, b_gN a0 a2, b_lI c2 n2 hi2 (by omega), e6, b_gN a0 a3, b_lI c3 n3 hi2 (by omega), e7, b_cl (hm1.SgK hgK).1.1, b_eq v1, nI_1]
      exact g1
theorem seg_L21 {a : Nat} {m0 : Mem} (h : WT gn gt gw 0 Z Z R V Lv gg wk wi nk nv nt tt) (z : WZ gn Z R Lv) (hg : gn ≤ 6) (hgK : SgK m0 a gw) (h1 : mK m0 ca = 1 ∧ mR m0 ca 1 = some (ca + 1) ∧ mK m0 (ca + 1) = 7 ∧ mN m0 (ca + 1) = gn) (hs : ∀ k, k < gn → mR m0 (ca + 1) k = some (A k) ∧ SgS m0 (A k) (N k) (T k) (Z k) (R k) (V k) ∧ SgL m0 (A k) (Z k) (Lv k) ∧ (∀ i, i < Z k → mI m0 (A k + 4) i = gg k i) ∧ A k + 5 ≤ a) (x1 : Int32) : ∀ d f k (m : Mem), k + d = gn → d < f → AS a gw wk wi nk nv Lv m0 k 0 m →
    ∃ m2, f_X1_asSegment_L21 f ca x1 a (nI k) m = some (nI gn, m2) ∧ AS a gw wk wi nk nv Lv m0 gn 0 m2 := by
  intro d
  induction d with
  | zero =>
    intro f k m hk hf hm
    obtain ⟨f, rfl⟩ : ∃ g, f = g + 1 := ⟨f - 1, by omega⟩
    have : k = gn := by omega
    subst this
    refine ⟨m, ?_, hm⟩
    have k0 : mK m ca = 1 := by rw [hm.1.1]; exact h1.1
    have k1 : mR m ca 1 = some (ca + 1) := by rw [hm.1.2.2.1]; exact h1.2.1
    have k2 : mK m (ca + 1) = 7 := by rw [hm.1.1]; exact h1.2.2.1
    have k3 : mN m (ca + 1) = k := by rw [hm.1.2.1]; exact h1.2.2.2
    unfold f_X1_asSegment_L21
    rw [b_gN k0 k1, b_ln k2 k3, i_t (leL (Nat.le_refl _) (by omega))]; rfl
  | succ d ih =>
    intro f k m hk hf hm
    obtain ⟨f, rfl⟩ : ∃ g, f = g + 1 := ⟨f - 1, by omega⟩
    have hk2 : k < gn := by omega
    obtain ⟨e1, e2, e3, e4, e5⟩ := hs k hk2
    obtain ⟨m1, g1, g2⟩ := seg_L41 (ca := ca) h z hk2 hgK e2 e3 e4 e5 x1 (nI k) (Z k) 2100 0 m (by omega) (by have := (z.1 k hk2).1; omega) hm
    have hsame : ∀ j, j < gw → dnb wk wi (k + 1) 0 j = dnb wk wi k (Z k) j := fun j hj => by
      obtain ⟨y1, y2, -⟩ := h.2.2.1 j hj
      have y3 : wk j = k → wi j < Z k := fun q => by rw [← q]; exact y2
      unfold dnb
      congr 1
      apply propext
      constructor
      · intro q
        by_cases e : wk j = k
        · exact Or.inr ⟨e, y3 e⟩
        · omega
      · intro q
        omega
    obtain ⟨m2, g3, g4⟩ := ih f (k + 1) m1 (by omega) (by omega) ⟨g2.1, by rw [g2.2.1]; congr 1; exact cnt_congr (fun j hj => by rw [hsame j hj]), fun j hj hd => g2.2.2 j hj (by rw [← hsame j hj]; exact hd)⟩
    refine ⟨m2, ?_, g4⟩
    unfold f_X1_asSegment_L21
    have k0 : mK m ca = 1 := by rw [hm.1.1]; exact h1.1
    have k1 : mR m ca 1 = some (ca + 1) := by rw [hm.1.2.2.1]; exact h1.2.1
    have k2 : mK m (ca + 1) = 7 := by rw [hm.1.1]; exact h1.2.2.1
    have k3 : mN m (ca + 1) = gn := by rw [hm.1.2.1]; exact h1.2.2.2
    rw [b_gN k0 k1, b_ln k2 k3, i_f (leN hk2 (by omega)), b_gN k0 k1, b_lR k2 k3 hk2 (by omega) (by rw [hm.1.2.2.1]; exact e1), b_eq (show f_X1_asSegment_L41 2100 ca x1 a (nI k) (A k) 0 m = _ from g1), nI_1]
    exact g3
theorem asSeg_m {B : Nat} (hB : B < 2 ^ 31) (hT : ∀ k, k < gn → T k ≤ B) (h : WT gn gt gw 0 Z Z R V Lv gg wk wi nk nv nt tt) (z : WZ gn Z R Lv) (w : WX X ca gp gn A) (hC : CM X ca gp gn gt gw 0 A N T Z Z R V Lv gg m) (hct : ca + 3 ≤ mS m) (hat : ∀ k, k < gn → A k + 5 ≤ mS m) (x1 : Int32) :
    ∃ m2, f_X1_asSegment ca x1 m = some (mS m, m2) ∧ (∀ b, b < mS m → eqA m m2 b) ∧ mS m2 = mS m + 5 ∧ SgK m2 (mS m) gw ∧ (mI m2 (mS m) 0 = x1 ∧ mI m2 (mS m) 1 = nI (mxT T gn + 1) ∧ mI m2 (mS m) 2 = nI gw ∧ mI m2 (mS m) 7 = nI (cnt (fun j => Lv (wk j) (wi j)) gw)) ∧ ∀ j, j < gw → mI m2 (mS m + 1) j = nI (nk j) ∧ mI m2 (mS m + 2) j = nv j ∧ mI m2 (mS m + 3) j = b2i (Lv (wk j) (wi j)) := by
  have hgw := WT_gw h z
  obtain ⟨hL, h7, ⟨⟨k0, k1, k2, k3, k4, k5, k6⟩, ⟨i0, i3, i4, i5⟩, hM⟩, hS⟩ := hC
  have hX := hL.1
  obtain ⟨w1, w2, w3, w4, w5⟩ := w
  obtain ⟨a, hae⟩ : ∃ a, a = mS m := ⟨_, rfl⟩
  rw [← hae] at hct hat hX ⊢
  have ia : ∀ b, b < a → eqA m (allo m 2 0) b := fun b hb => ⟨by rw [mK_allo, if_neg (by omega)], by rw [mN_allo, if_neg (by omega)], funext fun j => by rw [mI_allo, if_neg (by omega)], funext fun j => by rw [mR_allo, if_neg (by omega)]⟩
  obtain ⟨m0, b1, b2, b3, ⟨b4, b5, b6, b7⟩, b8⟩ := init_spec (m := allo m 2 0) (a := a) (sz := gw) (by rw [hae, mK_allo, if_pos rfl]) (by rw [hae]; rfl) hgw x1 (nI (mxT T gn + 1))
  have q0 : ∀ b, b < a → eqA m m0 b := fun b hb => by
    obtain ⟨x1, x2, x3, x4⟩ := b8 b hb
    obtain ⟨y1, y2, y3, y4⟩ := ia b hb
    exact ⟨x1.trans y1, x2.trans y2, x3.trans y3, x4.trans y4⟩
  have hs0 : ∀ k, k < gn → mR m0 (ca + 1) k = some (A k) ∧ SgS m0 (A k) (N k) (T k) (Z k) (R k) (V k) ∧ SgL m0 (A k) (Z k) (Lv k) ∧ (∀ i, i < Z k → mI m0 (A k + 4) i = gg k i) ∧ A k + 5 ≤ a := fun k hk => by
    have hk5 := hat k hk
    obtain ⟨p1, p2, p3⟩ := hS k hk
    have blk : ∀ j, j < 5 → eqA m m0 (A k + j) := fun j hj => q0 _ (by omega)
    refine ⟨by rw [(q0 (ca + 1) (by omega)).2.2.2]; exact (hM k hk).1, SgS_e p2 blk, SgL_e p3 blk, fun i hi => ?_, hk5⟩
    rw [(q0 (A k + 4) (by omega)).2.2.1]; exact p1 i hi
  have h10 : mK m0 ca = 1 ∧ mR m0 ca 1 = some (ca + 1) ∧ mK m0 (ca + 1) = 7 ∧ mN m0 (ca + 1) = gn := by
    rw [(q0 ca (by omega)).1, (q0 ca (by omega)).2.2.2, (q0 (ca + 1) (by omega)).1, (q0 (ca + 1) (by omega)).2.1]
    exact ⟨k0, k1, k3, k5⟩
  obtain ⟨m2, g1, g2, g3, g4⟩ := seg_L21 (ca := ca) (a := a) (m0 := m0) h z w1 b3 h10 hs0 x1 gn 2100 0 m0 (by omega) (by omega) ⟨Ag.refl, by
    rw [b7, cnt_congr (g := fun _ => false) (fun j hj => by
      have : dnb wk wi 0 0 j = false := by simp [dnb]
      rw [this]; rfl)]
    rw [cnt_false]; rfl, fun j hj hd => by simp [dnb] at hd⟩
  have hall : ∀ j, j < gw → dnb wk wi gn 0 j = true := fun j hj => dnb_t.mpr (Or.inl (h.2.2.1 j hj).1)
  refine ⟨m2, ?_, fun b hb => ?_, by rw [g2.2.2.2.1]; exact b2, g2.SgK b3, ⟨?_, ?_, ?_, ?_⟩, fun j hj => g4 j hj (hall j hj)⟩
  · unfold f_X1_asSegment
    have c0 : mK (allo m 2 0) ca = 1 := by rw [(ia ca (by omega)).1]; exact k0
    have et := tier_g (m := allo m 2 0) (ca := ca) (gn := gn) (A := A) (T := T) hB (by
      rw [(ia ca (by omega)).1, (ia ca (by omega)).2.2.2, (ia (ca + 1) (by omega)).1, (ia (ca + 1) (by omega)).2.1]
      exact ⟨k0, k1, k3, k5⟩) w1 (fun k hk => by
      have hk5 := hat k hk
      rw [(ia (ca + 1) (by omega)).2.2.2, (ia (A k) (by omega)).1, (ia (A k) (by omega)).2.2.1]
      exact ⟨(hM k hk).1, (hS k hk).2.1.1.1, (hS k hk).2.1.2.2.2.1.2.1, hT k hk⟩)
    rw [b_nO, ← hae, b_cl c0, b_eq et, b_gI c0, mI_allo, ← hae, if_neg (by omega), i4, nI_1, b_eq b1, b_eq (show f_X1_asSegment_L21 2100 ca x1 a 0 m0 = _ from g1)]; rfl
  · obtain ⟨q1, q2, q3, q4⟩ := q0 b hb
    exact ⟨by rw [g2.1]; exact q1, by rw [g2.2.1]; exact q2, by rw [← q3]; funext j; exact g2.2.2.2.2 _ _ (fun q => by unfold FA at q; omega), by rw [g2.2.2.1]; exact q4⟩
  · rw [g2.2.2.2.2 _ _ (fun q => by unfold FA at q; omega)]; exact b4
  · rw [g2.2.2.2.2 _ _ (fun q => by unfold FA at q; omega)]; exact b5
  · rw [g2.2.2.2.2 _ _ (fun q => by unfold FA at q; omega)]; exact b6
  · rw [g3, cnt_congr (g := fun j => Lv (wk j) (wi j)) (fun j hj => by rw [hall j hj]; exact Bool.true_and _)]
/-- segments move up -/
theorem gap_L {nS n : Nat} {B : Nat → Nat} (hn : 1 ≤ n) (h20 : nS ≤ 20) (x1 : Int32) : ∀ d f p (m : Mem), p + n + d = nS → d < f → SL X m → mI m X 3 = nI nS → (∀ q, p + n ≤ q → q < nS → mR m (X + 5) q = some (B q) ∧ mK m (B q) = 2) →
    ∃ m2, f_X3_closeGap_L2 f X x1 (nI n) (nI p) m = some (nI (nS - n), m2) ∧ (mK m2 = mK m ∧ mN m2 = mN m ∧ mI m2 = mI m ∧ mS m2 = mS m) ∧ (∀ b j, ¬ (b = X + 5 ∧ p ≤ j ∧ j + n < nS) → mR m2 b j = mR m b j) ∧ ∀ j, p ≤ j → j + n < nS → mR m2 (X + 5) j = some (B (j + n)) := by
  intro d
  induction d with
  | zero =>
    intro f p m hp hf hL h3 hR
    obtain ⟨f, rfl⟩ : ∃ g, f = g + 1 := ⟨f - 1, by omega⟩
    refine ⟨m, ?_, ⟨rfl, rfl, rfl, rfl⟩, fun _ _ _ => rfl, fun j h1 h2 => absurd h2 (by omega)⟩
    unfold f_X3_closeGap_L2
    rw [q_gI0 hL, h3, nI_add, i_t (leL (by omega) (by omega)), show nS - n = p by omega]; rfl
  | succ d ih =>
    intro f p m hp hf hL h3 hR
    obtain ⟨f, rfl⟩ : ∃ g, f = g + 1 := ⟨f - 1, by omega⟩
    obtain ⟨r1, r2⟩ := hR (p + n) (by omega) (by omega)
    obtain ⟨ma, hma⟩ : ∃ ma, ma = setR m (X + 5) p (some (B (p + n))) := ⟨_, rfl⟩
    have hLa : SL X ma := by rw [hma]; exact SL_setR hL (by omega)
    obtain ⟨m2, g1, ⟨g2, g3, g4, g5⟩, g6, g7⟩ := ih f (p + 1) ma (by omega) (by omega) hLa (by rw [hma]; exact h3) (fun q h1 h2 => by
      rw [hma, mR_setR, if_neg (by omega)]
      exact hR q (by omega) h2)
    refine ⟨m2, ?_, ⟨by rw [g2, hma]; rfl, by rw [g3, hma]; rfl, by rw [g4, hma]; rfl, by rw [g5, hma]; rfl⟩, fun b j q => ?_, fun j h1 h2 => ?_⟩
    · unfold f_X3_closeGap_L2
      rw [q_gI0 hL, h3, nI_add, i_f (leN (by omega) (by omega)), q_gN0_2 hL, q_gN0_2 hL, b_lR (sk5 hL) (sn5 hL) (by omega) (by decide) r1, b_sR (sk5 hL) (sn5 hL) (by omega) (by decide) r2, ← hma, nI_1]
      exact g1
    · rw [g6 b j (by omega), hma, mR_setR, if_neg (by omega)]
    · by_cases e : j = p
      · subst e
        rw [g6 _ _ (by omega), hma, mR_setR, if_pos ⟨rfl, rfl⟩]
      · exact g7 j (by omega) h2
end ENDX
