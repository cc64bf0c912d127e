/-! MATHEMATICS: what a text tells keeps the bounds -/
abbrev prQ (r : Int × Int × Int × Int × Int × Int × (Int → Int)) : Prop := ((2 ≤ r.2.1 ∧ r.2.1 ≤ 6) ∧ (1 ≤ r.2.2.1 ∧ r.2.2.1 ≤ 2)) ∧ (5 ≤ r.2.2.2.2.1 ∧ r.2.2.2.2.1 ≤ 99) ∧ (0 ≤ r.2.2.2.2.2.1 ∧ r.2.2.2.2.2.1 < r.2.1 * r.2.2.1) ∧ ∀ j : Int, 0 ≤ j → j < 12 → 1 ≤ r.2.2.2.2.2.2 j ∧ r.2.2.2.2.2.2 j ≤ 9
theorem prG_inv {f : Int → Int} {n : Int} : ∀ (k : Nat) (p it S C W L B lt bt : Int) (ld : Int → Int), 0 ≤ it → ((2 ≤ S ∧ S ≤ 6) ∧ (1 ≤ C ∧ C ≤ 2)) → W = S * C → (5 ≤ L ∧ L ≤ 99) → (0 ≤ B ∧ B < S * C) → (it = 0 → B = 0) → (∀ j : Int, 0 ≤ j → j < 12 → 1 ≤ ld j ∧ ld j ≤ 9) → prQ (prG f n k p it S C W L B lt bt ld)
  | 0, p, it, S, C, W, L, B, lt, bt, ld, h1, h2, h3, h4, h5, h6, h7 => ⟨h2, h4, h5, h7⟩
  | k + 1, p, it, S, C, W, L, B, lt, bt, ld, h1, h2, h3, h4, h5, h6, h7 => by
    by_cases e1 : tkK f n p = -1
    · rw [prG_end e1]
      exact ⟨h2, h4, h5, h7⟩
    · by_cases e2 : itB f n (tkE f n p) (tkK f n p) it lt bt W = true
      · rw [prG_ok e1 e2]
        have hi2 := e2
        unfold itB at hi2
        rw [decide_eq_true_eq] at hi2
        rcases hi2 with h | h | h | h
        · have h8 := h.2.2
          have h9 := shSC (sS := tkV f n (tkE f n p)) (sC := tkV f n (tkE f n (tkE f n p))) ⟨by omega, by omega⟩
          have h10 := h6 h.2.1
          simp only [h.1, Int.reduceEq, reduceIte, or_self, or_true, true_or, or_false, false_or]
          exact prG_inv k _ _ _ _ _ _ _ _ _ _ (by omega) ⟨by omega, by omega⟩ rfl h4 (by omega) (by omega) h7
        · have h8 := h.2
          simp only [h.1, Int.reduceEq, reduceIte, or_self, or_true, true_or, or_false, false_or]
          refine prG_inv k _ _ _ _ _ _ _ _ _ _ (by omega) h2 h3 h4 h5 (by omega) (fun j h9 h10 => ?_)
          have h11 := h7 j h9 h10
          unfold uZ
          split <;> omega
        · have h8 := h.2.2
          simp only [h.1, Int.reduceEq, reduceIte, or_self, or_true, true_or, or_false, false_or]
          exact prG_inv k _ _ _ _ _ _ _ _ _ _ (by omega) h2 h3 (by omega) h5 (by omega) h7
        · have h8 := h.2.2
          simp only [h.1, Int.reduceEq, reduceIte, or_self, or_true, true_or, or_false, false_or]
          exact prG_inv k _ _ _ _ _ _ _ _ _ _ (by omega) h2 h3 h4 (by omega) (by omega) h7
      · rw [prG_bad e1 e2]
        exact ⟨h2, h4, h5, h7⟩
theorem prZ_inv (f : Int → Int) (n : Int) : prQ (prZ f n) := prG_inv 200 0 0 2 2 4 20 0 0 0 (fun _ => 1) (by omega) (by omega) (by omega) (by omega) (by omega) (by omega) (fun j _ _ => by show (1 : Int) ≤ 1 ∧ (1 : Int) ≤ 9; omega)
theorem hB_of {S C : Int} (h : (2 ≤ S ∧ S ≤ 6) ∧ (1 ≤ C ∧ C ≤ 2)) : (2 ≤ S ∧ S ≤ 6) ∧ (C = 1 ∧ S * C = S ∨ C = 2 ∧ S * C = 2 * S) := by
  rcases (show C = 1 ∨ C = 2 by omega) with rfl | rfl <;> omega
