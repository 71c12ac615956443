/-! Level 2: the functions, without the machine. How a step of a function computes -/
section B2
variable {β : Type} {m : Mem} {t a k b j : Nat}
theorem b_gI {K : Int32 → HM β} (h : mK m a = t) : bnd (gI t a k) K m = K (mI m a k) m := by
  simp [bnd, gI, h]
theorem b_gR {K : Option Nat → HM β} (h : mK m a = t) : bnd (gR t a k) K m = K (mR m a k) m := by
  simp [bnd, gR, h]
theorem b_gN {K : Nat → HM β} (h : mK m a = t) (h2 : mR m a k = some b) : bnd (gN t a k) K m = K b m := by
  simp [bnd, gN, h, h2]
theorem b_pI {K : Unit → HM β} {v : Int32} (h : mK m a = t) : bnd (pI t a k v) K m = K () (setI m a k v) := by
  simp [bnd, pI, h]
theorem b_pR {K : Unit → HM β} {v : Option Nat} (h : mK m a = t) : bnd (pR t a k v) K m = K () (setR m a k v) := by
  simp [bnd, pR, h]
theorem in_ok {N : Nat} (hj : j < N) (hN : N < 2 ^ 31) : ¬ (nI j < 0 ∨ N ≤ (nI j).toNatClampNeg) := nI_in hj hN
theorem b_lI {K : Int32 → HM β} (h : mK m a = t) {N : Nat} (hn : mN m a = N) (hj : j < N) (hN : N < 2 ^ 31) : bnd (lI t a (nI j)) K m = K (mI m a j) m := by
  have e := in_ok hj hN
  have e2 : (nI j).toNatClampNeg = j := nI_clamp (by omega)
  unfold bnd lI
  rw [hn, if_pos ⟨h, e⟩, e2]
theorem b_sI {K : Unit → HM β} {v : Int32} (h : mK m a = t) {N : Nat} (hn : mN m a = N) (hj : j < N) (hN : N < 2 ^ 31) : bnd (sI t a (nI j) v) K m = K () (setI m a j v) := by
  have e := in_ok hj hN
  have e2 : (nI j).toNatClampNeg = j := nI_clamp (by omega)
  unfold bnd sI
  rw [hn, if_pos ⟨h, e⟩, e2]
theorem b_sZ {K : Unit → HM β} {v : Int32} (h : mK m a = 6) {N : Nat} (hn : mN m a = N) (hj : j < N) (hN : N < 2 ^ 31) (hv : v = 0 ∨ v = 1) : bnd (sZ a (nI j) v) K m = K () (setI m a j v) := by
  have e := in_ok hj hN
  have e2 : (nI j).toNatClampNeg = j := nI_clamp (by omega)
  unfold bnd sZ
  rw [hn, if_pos ⟨⟨h, e⟩, hv⟩, e2]
theorem b_lR {K : Nat → HM β} (h : mK m a = t) {N : Nat} (hn : mN m a = N) (hj : j < N) (hN : N < 2 ^ 31) (hb : mR m a j = some b) : bnd (lR t a (nI j)) K m = K b m := by
  have e := in_ok hj hN
  have e2 : (nI j).toNatClampNeg = j := nI_clamp (by omega)
  unfold bnd lR
  rw [hn, if_pos ⟨h, e⟩, e2, hb]
theorem b_sR {K : Unit → HM β} {x : Nat} (h : mK m a = 7) {N : Nat} (hn : mN m a = N) (hj : j < N) (hN : N < 2 ^ 31) (hx : mK m x = 2) : bnd (sR a (nI j) x) K m = K () (setR m a j (some x)) := by
  have e := in_ok hj hN
  have e2 : (nI j).toNatClampNeg = j := nI_clamp (by omega)
  unfold bnd sR
  rw [hn, if_pos ⟨⟨h, e⟩, hx⟩, e2]
theorem b_ln {K : Int32 → HM β} (h : mK m a = t) {N : Nat} (hn : mN m a = N) : bnd (ln t a) K m = K (nI N) m := by
  unfold bnd ln
  rw [if_pos h, hn]
  rfl
theorem b_nO {K : Nat → HM β} : bnd (nO t) K m = K (mS m) (allo m t 0) := rfl
theorem b_nA {K : Nat → HM β} {B n : Nat} (hn : n ≤ B) (hB : B < 2 ^ 31) : bnd (nA t B (nI n)) K m = K (mS m) (allo m t n) := by
  have e2 : (nI n).toNatClampNeg = n := nI_clamp (by omega)
  unfold bnd nA
  rw [if_pos ⟨nI_pos (by omega), by rw [e2]; exact hn⟩, e2]
theorem b_n4 {K : Nat → HM β} : bnd n4 K m = K (mS m) (allo4 m) := rfl
theorem b_dv {K : Int32 → HM β} {x y : Int32} (h : ¬ y = 0) : bnd (dv x y) K m = K (x / y) m := by
  unfold bnd dv
  rw [if_neg h]
theorem b_eq {α : Type} {f : HM α} {K : α → HM β} {r : α} {m' : Mem} (h : f m = some (r, m')) : bnd f K m = K r m' := by
  unfold bnd
  rw [h]
theorem cl_eq {α : Type} {f : HM α} (h : mK m b = t) : cl t b f m = f m := by
  unfold cl
  rw [if_pos h]
theorem b_cl {α : Type} {f : HM α} {K : α → HM β} (h : mK m b = t) : bnd (cl t b f) K m = bnd f K m := by
  unfold bnd
  rw [cl_eq h]
theorem b_cle {α : Type} {f : HM α} {K : α → HM β} {r : α} {m' : Mem} (h : mK m b = t) (h2 : f m = some (r, m')) : bnd (cl t b f) K m = K r m' := by
  rw [b_cl h, b_eq h2]
theorem i_t {α : Type} {c : Prop} {dc : Decidable c} {x y : HM α} (h : c) : @ifc α c dc x y m = x m := by
  unfold ifc
  rw [if_pos h]
theorem i_f {α : Type} {c : Prop} {dc : Decidable c} {x y : HM α} (h : ¬ c) : @ifc α c dc x y m = y m := by
  unfold ifc
  rw [if_neg h]
theorem rz_0 : rz 0 m = some (0, m) := rfl
theorem rz_1 : rz 1 m = some (1, m) := rfl
theorem rt_e {α : Type} {x : α} : rt x m = some (x, m) := rfl
end B2
theorem nI_m1 {n : Nat} (h : n < 2 ^ 31) : ¬ nI n = -1 := by
  intro q
  have a := nI_toInt h
  rw [q] at a
  have e : (-1 : Int32).toInt = -1 := by decide
  omega
theorem nI_lt0 {n : Nat} (h : n < 2 ^ 31) : ¬ nI n < 0 := nI_pos h
theorem m1_lt : (-1 : Int32) < 0 := by decide
/-- Memory.find -/
theorem find_spec {m : Mem} {a ka n : Nat} (hk : mK m a = 0) (hr : mR m a 0 = some ka) (hk2 : mK m ka = 5) (hn2 : mN m ka = 6) (hs : mI m a 2 = nI n) (hn : n ≤ 6) (key : Int32) :
    ∃ r, f_X0_find a key m = some (r, m) ∧ ((r = -1 ∧ ∀ j, j < n → mI m ka j ≠ key) ∨ ∃ j, j < n ∧ r = nI j ∧ mI m ka j = key) := by
  have L : ∀ d fuel i, i + d = n → d < fuel → (∀ j, j < i → mI m ka j ≠ key) → ∃ r, f_X0_find_L2 fuel a key (nI i) m = some (r, m) ∧ ((r = -1 ∧ ∀ j, j < n → mI m ka j ≠ key) ∨ ∃ j, j < n ∧ r = nI j ∧ mI m ka j = key) := by
    intro d
    induction d with
    | zero =>
      intro fuel i hi hf hj
      obtain ⟨f, rfl⟩ : ∃ f, fuel = f + 1 := ⟨fuel - 1, by omega⟩
      have : i = n := by omega
      subst this
      refine ⟨-1, ?_, Or.inl ⟨rfl, hj⟩⟩
      unfold f_X0_find_L2
      rw [b_gI hk, hs, i_t ((nI_leI (by omega) (by omega)).mpr (Nat.le_refl _)), rt_e]
    | succ d ih =>
      intro fuel i hi hf hj
      obtain ⟨f, rfl⟩ : ∃ f, fuel = f + 1 := ⟨fuel - 1, by omega⟩
      unfold f_X0_find_L2
      rw [b_gI hk, hs, i_f (fun q => by rw [nI_leI (by omega) (by omega)] at q; omega), b_gN hk hr, b_lI hk2 hn2 (by omega) (by decide)]
      by_cases hq : mI m ka i = key
      · rw [i_t hq]
        exact ⟨nI i, rfl, Or.inr ⟨i, by omega, rfl, hq⟩⟩
      · rw [i_f hq, nI_1]
        exact ih f (i + 1) (by omega) (by omega) (fun j hj9 => by
          rcases Nat.lt_succ_iff_lt_or_eq.mp hj9 with g | g
          · exact hj j g
          · rw [g]; exact hq)
  exact L n 2100 0 (by omega) (by omega) (fun j h => absurd h (by omega))
