/-! stop, view, shut -/
section OPS8
variable {X c : Nat} {m : Mem}
/-- all parts but the views, over a memory that differs at cells of the views and of 'thrown' only -/
theorem Inv_views {S : Nat → Nat → Prop} {m2 : Mem} (h : Inv X c m) (hA : Ag S m m2) (hS : ∀ b j, S b j → (X + 7 ≤ b ∧ b ≤ X + 11) ∨ b = X + 34 ∨ b = X + 35 ∨ (b = X + 12 ∧ j = 0)) (hw : IW X m2) : Inv X (c + 1) m2 := by
  obtain ⟨h1, h2, nS, nn, us, od, sa, sz, num, ti, rk, rv, lv, vv, nM, mk, loc, tt, gn, ca, hIS, hIL, hIG, hID⟩ := h
  have hsa := IS_sa hIS
  have hN : ∀ b j, ¬ ((X + 7 ≤ b ∧ b ≤ X + 11) ∨ b = X + 34 ∨ b = X + 35 ∨ (b = X + 12 ∧ j = 0)) → ¬ S b j := fun b j q z => q (hS b j z)
  exact ⟨hA.SL h1, hw, nS, nn, us, od, sa, sz, num, ti, rk, rv, lv, vv, nM, mk, loc, tt, gn, ca, IS_c (hA.IS' hIS (fun b j hb => hN _ _ (by omega)) (fun k => ⟨⟨hN _ _ (by omega), hN _ _ (by omega)⟩, hN _ _ (by omega), hN _ _ (by omega), hN _ _ (by omega), hN _ _ (by omega), hN _ _ (by omega)⟩) ⟨⟨hN _ _ (by omega), hN _ _ (by omega)⟩, ⟨hN _ _ (by omega), hN _ _ (by omega), hN _ _ (by omega)⟩, hN _ _ (by omega), hN _ _ (by omega), hN _ _ (by omega)⟩), hA.IL' hIL hsa.1 (fun b j hb => hN _ _ (by omega)) (fun k => ⟨⟨hN _ _ (by omega), hN _ _ (by omega)⟩, ⟨hN _ _ (by omega), hN _ _ (by omega), hN _ _ (by omega)⟩, hN _ _ (by omega), hN _ _ (by omega), hN _ _ (by omega), hN _ _ (by omega)⟩) ⟨hN _ _ (by omega), hN _ _ (by omega)⟩, IG_c (hA.IG' hIG hsa.2 (fun b j hb => hN _ _ (by omega)) (fun k => ⟨hN _ _ (by omega), hN _ _ (by omega), hN _ _ (by omega), hN _ _ (by omega), hN _ _ (by omega)⟩) ⟨hN _ _ (by omega), hN _ _ (by omega), hN _ _ (by omega), hN _ _ (by omega)⟩), ID_c (hA.ID' hID (fun b j hb => hN _ _ (by omega)) (fun k => ⟨hN _ _ (by omega), hN _ _ (by omega), hN _ _ (by omega)⟩) (hN _ _ (by omega)))⟩
theorem shut_x (hL : SL X m) {v u : Nat → Int32} {w : Nat} (hw : w < 4) (h1 : ∀ k, k < 100 → mI m (X + 7 + w) k = u k) (h2 : ∀ k, k < 100 → mI m (X + 1) k = v k) : f_X3_shut_L14 2100 X (nI w) 0 0 m = some ((nI (cnt (fun k => decide (u k ≠ v k)) 100), nI 100), m) := by
  have L : ∀ d f k, k + d = 100 → d < f → f_X3_shut_L14 f X (nI w) (nI (cnt (fun k => decide (u k ≠ v k)) k)) (nI k) m = some ((nI (cnt (fun k => decide (u k ≠ v k)) 100), nI 100), m) := by
    intro d
    induction d with
    | zero =>
      intro f k hk hf
      obtain ⟨f, rfl⟩ : ∃ g, f = g + 1 := ⟨f - 1, by omega⟩
      have : k = 100 := by omega
      subst this
      unfold f_X3_shut_L14
      rw [i_t (show (100 : Int32) ≤ nI 100 by decide)]
      rfl
    | succ d ih =>
      intro f k hk hf
      obtain ⟨f, rfl⟩ : ∃ g, f = g + 1 := ⟨f - 1, by omega⟩
      have hi := ih f (k + 1) (by omega) (by omega)
      unfold f_X3_shut_L14
      rw [i_f (show ¬ (100 : Int32) ≤ nI k from leN (n := 100) (by omega) (by decide)), q_gN0_9 hL, q_lR6 hL hw, b_lI (kVW hL hw).1 (kVW hL hw).2 (by omega) (by decide), h1 k (by omega), q_gN0_0 hL, q_lI1 hL (by omega), h2 k (by omega), nI_1]
      by_cases q : u k = v k
      · rw [i_t q]
        rw [cnt_sf (by simpa using q)] at hi
        exact hi
      · rw [i_f q, nI_1]
        rw [cnt_st (by simpa using q)] at hi
        exact hi
  exact L 100 2100 0 (by omega) (by omega)
theorem shut_q (hL : SL X m) {v u : Nat → Int32} {w : Nat} (hw : w < 4) (h1 : ∀ k, k < 100 → mI m (X + 35) (100 * w + k) = u k) (h2 : ∀ k, k < 100 → mI m (X + 13) k = v k) : f_X4_shut_L26 2100 (X + 12) (nI w) 0 0 m = some ((nI (cnt (fun k => decide (u k ≠ v k)) 100), nI 100), m) := by
  have L : ∀ d f k, k + d = 100 → d < f → f_X4_shut_L26 f (X + 12) (nI w) (nI (cnt (fun k => decide (u k ≠ v k)) k)) (nI k) m = some ((nI (cnt (fun k => decide (u k ≠ v k)) 100), nI 100), m) := by
    intro d
    induction d with
    | zero =>
      intro f k hk hf
      obtain ⟨f, rfl⟩ : ∃ g, f = g + 1 := ⟨f - 1, by omega⟩
      have : k = 100 := by omega
      subst this
      unfold f_X4_shut_L26
      rw [i_t (show (100 : Int32) ≤ nI 100 by decide)]
      rfl
    | succ d ih =>
      intro f k hk hf
      obtain ⟨f, rfl⟩ : ∃ g, f = g + 1 := ⟨f - 1, by omega⟩
      have hi := ih f (k + 1) (by omega) (by omega)
      unfold f_X4_shut_L26
      rw [i_f (show ¬ (100 : Int32) ≤ nI k from leN (n := 100) (by omega) (by decide)), q_gN12_33 hL, nI100, q_lI35 hL (by omega), h1 k (by omega), q_gN12_1 hL, q_lI13 hL (by omega), h2 k (by omega), nI_1]
      by_cases q : u k = v k
      · rw [i_t q, nI_p0]
        rw [cnt_sf (by simpa using q)] at hi
        exact hi
      · rw [i_f q, nI_1]
        rw [cnt_st (by simpa using q)] at hi
        exact hi
  exact L 100 2100 0 (by omega) (by omega)
theorem op_shut (h : Inv X c m) (a : Int32) : ∃ r m1 m2, cl 3 X (f_X3_shut X a) m = some (r, m1) ∧ cl 4 (X + 12) (f_X4_shut (X + 12) a) m1 = some (r, m2) ∧ Inv X (c + 1) m2 := by
  have hI := h
  have hL := h.1
  obtain ⟨-, ⟨vo, vv, rw1, ww⟩, nS, nn, us, od, sa, sz, num, ti, rk, rv, lv, v, nM, mk, loc, tt, gn, ca, -, hIL, -⟩ := h
  rcases openX hL (fun w hw => (rw1 w hw).1.1) a with ⟨w, hw, rfl, e⟩ | ⟨hw, e⟩
  · by_cases ho : vo w = true
    · rw [ho] at e
      have e2 := shut_x hL hw (u := vv w) (v := v) (fun k hk => ((rw1 w hw).2 ho k hk).1) (fun k hk => (hIL.1 k hk).1)
      obtain ⟨m2, hm2⟩ : ∃ m2, m2 = setI (setI (setI m (X + 11) w 0) (X + 12) 0 0) (X + 34) w 0 := ⟨_, rfl⟩
      have hL1 : SL X (setI m (X + 11) w 0) := hL
      have hL2 : SL X (setI (setI m (X + 11) w 0) (X + 12) 0 0) := hL
      have hL3 : SL X m2 := by rw [hm2]; exact hL
      have hA : Ag (fun b j => (b = X + 11 ∧ j = w) ∨ (b = X + 12 ∧ j = 0) ∨ (b = X + 34 ∧ j = w)) m m2 := by
        rw [hm2]
        exact ((Ag.setI.trans Ag.setI).trans Ag.setI).mono (fun b j q => by omega)
      refine ⟨nI (cnt (fun k => decide (vv w k ≠ v k)) 100), setI m (X + 11) w 0, m2, ?_, ?_, ?_⟩
      · rw [q_ce0 hL]
        unfold f_X3_shut
        rw [q_cl0 hL, b_eq e, i_f (by decide), b_eq e2, q_gN0_10 hL, q_sI11 hL hw (Or.inl rfl)]; rfl
      · rw [q_ce12 hL1]
        unfold f_X4_shut
        have e3 : f_X4_isOpen (X + 12) (nI w) (setI (setI m (X + 11) w 0) (X + 12) 0 0) = some (1, setI (setI m (X + 11) w 0) (X + 12) 0 0) := by
          rcases openQ hL2 (vo := vo) (fun w hw => by rw [mI_setI, if_neg (by omega), mI_setI, if_neg (by omega)]; exact (rw1 w hw).1.2) (nI w) with ⟨w2, hw2, ew, e3⟩ | ⟨hw2, e3⟩
          · rw [← (nI_eq (by omega) (by omega)).mp ew, ho] at e3
            exact e3
          · exact absurd rfl (hw2 w hw)
        have e4 := shut_q hL3 hw (u := vv w) (v := v) (fun k hk => by rw [hA.2.2.2.2 _ _ (by omega)]; exact ((rw1 w hw).2 ho k hk).2) (fun k hk => by rw [hA.2.2.2.2 _ _ (by omega)]; exact (hIL.1 k hk).2)
        rw [q_pI12 hL1, q_cl12 hL2, b_eq e3, i_f n10, q_gN12_32 hL2, q_sI34 hL2 hw (Or.inl rfl), ← hm2, b_eq e4]; rfl
      · refine Inv_views hI hA (fun b j q => by omega) ⟨va_up vo w false, vv, fun w2 hw2 => ?_, fun w2 hw2 ho2 => ?_⟩
        · by_cases q : w2 = w
          · subst q
            refine ⟨⟨?_, ?_⟩, fun ho2 => ?_⟩
            · rw [hm2, mI_setI, if_neg (by omega), mI_setI, if_neg (by omega), mI_setI, if_pos ⟨rfl, rfl⟩]; simp [va_up, b2i]
            · rw [hm2, mI_setI, if_pos ⟨rfl, rfl⟩]; simp [va_up, b2i]
            · simp [va_up] at ho2
          · have e5 : va_up vo w false w2 = vo w2 := by simp [va_up, q]
            rw [e5]
            refine ⟨⟨?_, ?_⟩, fun ho2 k hk => ?_⟩
            · rw [hA.2.2.2.2 _ _ (by omega)]; exact (rw1 w2 hw2).1.1
            · rw [hA.2.2.2.2 _ _ (by omega)]; exact (rw1 w2 hw2).1.2
            · rw [hA.2.2.2.2 _ _ (by omega), hA.2.2.2.2 _ _ (by omega)]; exact (rw1 w2 hw2).2 ho2 k hk
        · by_cases q : w2 = w
          · subst q
            simp [va_up] at ho2
          · have e5 : va_up vo w false w2 = vo w2 := by simp [va_up, q]
            rw [e5] at ho2
            exact ww w2 hw2 ho2
    · rw [Bool.not_eq_true] at ho
      rw [ho] at e
      refine op_q hI ⟨-1, ?_, ?_⟩
      · unfold f_X3_shut
        rw [q_cl0 hL, b_eq e, i_t (by rfl)]; rfl
      · have hL2 : SL X (setI m (X + 12) 0 0) := hL
        unfold f_X4_shut
        rcases openQ hL2 (vo := vo) (fun w hw => (RW_t rw1 w hw).1.2) (nI w) with ⟨w2, hw2, ew, e3⟩ | ⟨hw2, e3⟩
        · rw [← (nI_eq (by omega) (by omega)).mp ew, ho] at e3
          rw [q_pI12 hL, q_cl12 hL2, b_eq e3, i_t (by rfl)]; rfl
        · exact absurd rfl (hw2 w hw)
  · refine op_q hI ⟨-1, ?_, ?_⟩
    · unfold f_X3_shut
      rw [q_cl0 hL, b_eq e, i_t (by rfl)]; rfl
    · have hL2 : SL X (setI m (X + 12) 0 0) := hL
      unfold f_X4_shut
      rcases openQ hL2 (vo := vo) (fun w hw => (RW_t rw1 w hw).1.2) a with ⟨w2, hw2, ew, e3⟩ | ⟨hw2, e3⟩
      · exact absurd ew (hw w2 hw2)
      · rw [q_pI12 hL, q_cl12 hL2, b_eq e3, i_t (by rfl)]; rfl
end OPS8
