/-! MATHEMATICS: reach (the least closed set), round, the greatest common divisor -/
abbrev stp (S : Int) (W set w v : Nat) : Prop := ∃ t, t < W ∧ set.testBit t = true ∧ (fromZ S (w : Int) (t : Int)).toNat = v
theorem oneT_bit {S : Int} {set : Nat} {w : Int} (v : Nat) : ∀ k, (oneT S set w k).testBit v = true ↔ ∃ t, t < k ∧ set.testBit t = true ∧ (fromZ S w (t : Int)).toNat = v
  | 0 => by simp [oneT]
  | k + 1 => by
    unfold oneT
    by_cases h : set.testBit k = true
    · rw [if_pos h, or_bit, Bool.or_eq_true, oneT_bit v k, decide_eq_true_eq]
      constructor
      · rintro (⟨t, h1, h2, h3⟩ | h1)
        · exact ⟨t, by omega, h2, h3⟩
        · exact ⟨k, by omega, h, h1⟩
      · rintro ⟨t, h1, h2, h3⟩
        by_cases e : t = k
        · subst e; exact Or.inr h3
        · exact Or.inl ⟨t, by omega, h2, h3⟩
    · rw [if_neg h, oneT_bit v k]
      constructor
      · rintro ⟨t, h1, h2, h3⟩
        exact ⟨t, by omega, h2, h3⟩
      · rintro ⟨t, h1, h2, h3⟩
        by_cases e : t = k
        · subst e; exact absurd h2 h
        · exact ⟨t, by omega, h2, h3⟩
theorem rIn_bit {S : Int} {W set bf seen : Nat} (v : Nat) : ∀ k, (rIn S W set bf seen k).testBit v = true ↔ (seen.testBit v = true ∨ ∃ w, w < k ∧ bf.testBit w = true ∧ stp S W set w v)
  | 0 => by simp [rIn]
  | k + 1 => by
    unfold rIn
    by_cases h : bf.testBit k = true
    · rw [if_pos h, Nat.testBit_or, Bool.or_eq_true, rIn_bit v k, oneT_bit v W]
      constructor
      · rintro ((h1 | ⟨w, h1, h2, h3⟩) | h1)
        · exact Or.inl h1
        · exact Or.inr ⟨w, by omega, h2, h3⟩
        · exact Or.inr ⟨k, by omega, h, h1⟩
      · rintro (h1 | ⟨w, h1, h2, h3⟩)
        · exact Or.inl (Or.inl h1)
        · by_cases e : w = k
          · subst e; exact Or.inr h3
          · exact Or.inl (Or.inr ⟨w, by omega, h2, h3⟩)
    · rw [if_neg h, rIn_bit v k]
      constructor
      · rintro (h1 | ⟨w, h1, h2, h3⟩)
        · exact Or.inl h1
        · exact Or.inr ⟨w, by omega, h2, h3⟩
      · rintro (h1 | ⟨w, h1, h2, h3⟩)
        · exact Or.inl h1
        · by_cases e : w = k
          · subst e; exact absurd h2 h
          · exact Or.inr ⟨w, by omega, h2, h3⟩
theorem cnt_mono {x y : Nat} (h : ∀ v, x.testBit v = true → y.testBit v = true) : ∀ k, cntN x k ≤ cntN y k
  | 0 => Nat.le_refl _
  | k + 1 => by
    have h1 := cnt_mono h k
    unfold cntN
    by_cases e : x.testBit k = true
    · rw [if_pos e, if_pos (h k e)]; omega
    · rw [if_neg e]; omega
theorem cnt_lt {x y v : Nat} (h : ∀ v, x.testBit v = true → y.testBit v = true) (hy : y.testBit v = true) (hx : ¬ x.testBit v = true) : ∀ k, v < k → cntN x k + 1 ≤ cntN y k
  | 0, hk => by omega
  | k + 1, hk => by
    have h0 := cnt_mono h k
    unfold cntN
    by_cases e : v = k
    · subst e
      rw [if_pos hy, if_neg hx]; omega
    · have h1 := cnt_lt h hy hx k (by omega)
      by_cases e2 : x.testBit k = true
      · rw [if_pos e2, if_pos (h k e2)]; omega
      · rw [if_neg e2]; omega
theorem reS_in {S C Wy home : Int} {set : Nat} (hB : (2 ≤ S ∧ S ≤ 6) ∧ (C = 1 ∧ Wy = S ∨ C = 2 ∧ Wy = 2 * S)) (hh : 0 ≤ home ∧ home < Wy) : ∀ i v, (reS S Wy.toNat set home i).testBit v = true → v < Wy.toNat
  | 0, v, h => by
    have h1 : (2 ^ home.toNat).testBit v = true := h
    rw [Nat.testBit_two_pow, decide_eq_true_eq] at h1
    omega
  | i + 1, v, h => by
    rcases (rIn_bit v Wy.toNat).mp h with h1 | ⟨w, h1, h2, t, h3, h4, h5⟩
    · exact reS_in hB hh i v h1
    · have := fromZ_rng (w := (w : Int)) (t := (t : Int)) hB (by omega) (by omega)
      omega
theorem reS_sub {S : Int} {W set : Nat} {home : Int} {i v : Nat} (h : (reS S W set home i).testBit v = true) : (reS S W set home (i + 1)).testBit v = true := (rIn_bit v W).mpr (Or.inl h)
theorem reS_fix2 {S : Int} {W set : Nat} {home : Int} {j : Nat} (h : reS S W set home (j + 1) = reS S W set home j) : ∀ k, reS S W set home (j + k + 1) = reS S W set home (j + k)
  | 0 => h
  | k + 1 => by
    have h1 := reS_fix2 h k
    show rIn S W set (reS S W set home (j + k + 1)) (reS S W set home (j + k + 1)) W = _
    rw [h1]
    rfl
theorem reS_grow {S C Wy home : Int} {set : Nat} (hB : (2 ≤ S ∧ S ≤ 6) ∧ (C = 1 ∧ Wy = S ∨ C = 2 ∧ Wy = 2 * S)) (hh : 0 ≤ home ∧ home < Wy) : ∀ i, (∃ j, j < i ∧ reS S Wy.toNat set home (j + 1) = reS S Wy.toNat set home j) ∨ i + 1 ≤ cntN (reS S Wy.toNat set home i) Wy.toNat
  | 0 => Or.inr (by
      show 0 + 1 ≤ cntN (2 ^ home.toNat) Wy.toNat
      rw [cntN_one, if_pos (by omega)]
      omega)
  | i + 1 => by
    rcases reS_grow hB hh i with ⟨j, h1, h2⟩ | h
    · exact Or.inl ⟨j, by omega, h2⟩
    · by_cases e : reS S Wy.toNat set home (i + 1) = reS S Wy.toNat set home i
      · exact Or.inl ⟨i, by omega, e⟩
      · refine Or.inr ?_
        have hex : ∃ v, (reS S Wy.toNat set home (i + 1)).testBit v = true ∧ ¬ (reS S Wy.toNat set home i).testBit v = true := by
          apply Classical.byContradiction
          intro hn
          apply e
          apply Nat.eq_of_testBit_eq
          intro v
          cases hv : (reS S Wy.toNat set home i).testBit v with
          | true => exact reS_sub hv
          | false =>
            cases hv2 : (reS S Wy.toNat set home (i + 1)).testBit v with
            | false => rfl
            | true => exact absurd ⟨v, hv2, by rw [hv]; decide⟩ hn
        obtain ⟨v, h1, h2⟩ := hex
        have h3 := cnt_lt (fun v h => reS_sub h) h1 h2 Wy.toNat (reS_in hB hh (i + 1) v h1)
        omega
theorem reS_closed {S C Wy home : Int} {set : Nat} (hB : (2 ≤ S ∧ S ≤ 6) ∧ (C = 1 ∧ Wy = S ∨ C = 2 ∧ Wy = 2 * S)) (hh : 0 ≤ home ∧ home < Wy) {w v : Nat} (hw : (reS S Wy.toNat set home Wy.toNat).testBit w = true) (hs : stp S Wy.toNat set w v) : (reS S Wy.toNat set home Wy.toNat).testBit v = true := by
  have hf : reS S Wy.toNat set home (Wy.toNat + 1) = reS S Wy.toNat set home Wy.toNat := by
    rcases reS_grow (set := set) hB hh Wy.toNat with ⟨j, h1, h2⟩ | h
    · have h3 := reS_fix2 h2 (Wy.toNat - j)
      rw [show j + (Wy.toNat - j) = Wy.toNat by omega] at h3
      exact h3
    · have := cntN_le (reS S Wy.toNat set home Wy.toNat) Wy.toNat
      omega
  rw [← hf]
  exact (rIn_bit v Wy.toNat).mpr (Or.inr ⟨w, reS_in hB hh _ _ hw, hw, hs⟩)
theorem reS_home {S : Int} {W set : Nat} {home : Int} : ∀ i, (reS S W set home i).testBit home.toNat = true
  | 0 => by
    show (2 ^ home.toNat).testBit home.toNat = true
    rw [Nat.testBit_two_pow, decide_eq_true rfl]
  | i + 1 => reS_sub (reS_home i)
theorem rcT_sub {S : Int} {set : Nat} {w : Int} {x v : Nat} (h : x.testBit v = true) : ∀ k, (rcT S set w k x).testBit v = true
  | 0 => h
  | k + 1 => by
    have h1 := rcT_sub (S := S) (set := set) (w := w) h k
    unfold rcT
    split
    · rw [or_bit, h1, Bool.true_or]
    · exact h1
theorem rcT_all {S : Int} {set w x t : Nat} (hw : x.testBit w = true) (ht : set.testBit t = true) : ∀ k, t < k → (rcT S set (w : Int) k x).testBit (fromZ S (w : Int) (t : Int)).toNat = true
  | 0, h => by omega
  | k + 1, h => by
    have h0 : (rcT S set (w : Int) k x).testBit ((w : Int)).toNat = true := by rw [Int.toNat_natCast]; exact rcT_sub hw k
    unfold rcT
    by_cases e : t = k
    · subst e
      rw [if_pos ⟨h0, ht⟩, or_bit, decide_eq_true rfl, Bool.or_true]
    · have h1 := rcT_all (S := S) hw ht k (by omega)
      split
      · rw [or_bit, h1, Bool.true_or]
      · exact h1
theorem rcT_in {S : Int} {W set w x : Nat} {X : Nat → Prop} (hX : ∀ w v, X w → stp S W set w v → X v) (hx : ∀ v, x.testBit v = true → X v) : ∀ k, k ≤ W → ∀ v, (rcT S set (w : Int) k x).testBit v = true → X v
  | 0, _, v, h => hx v h
  | k + 1, hk, v, h => by
    have h1 := rcT_in (w := w) hX hx k (by omega)
    unfold rcT at h
    split at h
    · rename_i hc
      rw [Int.toNat_natCast] at hc
      rw [or_bit, Bool.or_eq_true, decide_eq_true_eq] at h
      rcases h with h | h
      · exact h1 v h
      · exact hX w v (h1 w hc.1) ⟨k, by omega, hc.2, h⟩
    · exact h1 v h
theorem rcW_sub {S : Int} {W set x v : Nat} (h : x.testBit v = true) : ∀ k, (rcW S W set k x).testBit v = true
  | 0 => h
  | k + 1 => rcT_sub (rcW_sub h k) W
theorem rcW_all {S : Int} {W set x w v : Nat} (hw : x.testBit w = true) (hs : stp S W set w v) : ∀ k, w < k → (rcW S W set k x).testBit v = true
  | 0, h => by omega
  | k + 1, h => by
    by_cases e : w = k
    · subst e
      obtain ⟨t, h1, h2, h3⟩ := hs
      rw [← h3]
      exact rcT_all (rcW_sub hw w) h2 W h1
    · exact rcT_sub (rcW_all hw hs k (by omega)) W
theorem rcW_in {S : Int} {W set x : Nat} {X : Nat → Prop} (hX : ∀ w v, X w → stp S W set w v → X v) (hx : ∀ v, x.testBit v = true → X v) : ∀ k v, (rcW S W set k x).testBit v = true → X v
  | 0, v, h => hx v h
  | k + 1, v, h => rcT_in hX (rcW_in hX hx k) W (Nat.le_refl _) v h
theorem rcK_in {S : Int} {W set : Nat} {home : Int} {X : Nat → Prop} (hX : ∀ w v, X w → stp S W set w v → X v) (hx : X home.toNat) : ∀ k v, (rcK S W set home k).testBit v = true → X v
  | 0, v, h => by
    have h1 : (2 ^ home.toNat).testBit v = true := h
    rw [Nat.testBit_two_pow, decide_eq_true_eq] at h1
    rw [← h1]
    exact hx
  | k + 1, v, h => rcW_in hX (rcK_in hX hx k) W v h
theorem rcK_re {S C Wy home : Int} {set : Nat} (hB : (2 ≤ S ∧ S ≤ 6) ∧ (C = 1 ∧ Wy = S ∨ C = 2 ∧ Wy = 2 * S)) (hh : 0 ≤ home ∧ home < Wy) : ∀ k v, (reS S Wy.toNat set home k).testBit v = true → (rcK S Wy.toNat set home k).testBit v = true
  | 0, v, h => h
  | k + 1, v, h => by
    rcases (rIn_bit v Wy.toNat).mp h with h1 | ⟨w, h1, h2, h3⟩
    · exact rcW_sub (rcK_re hB hh k v h1) _
    · exact rcW_all (rcK_re hB hh k w h2) h3 _ h1
theorem reach_eq {S C Wy home : Int} {set : Nat} (hB : (2 ≤ S ∧ S ≤ 6) ∧ (C = 1 ∧ Wy = S ∨ C = 2 ∧ Wy = 2 * S)) (hh : 0 ≤ home ∧ home < Wy) : reS S Wy.toNat set home Wy.toNat = rcK S Wy.toNat set home Wy.toNat := by
  apply Nat.eq_of_testBit_eq
  intro v
  cases h1 : (reS S Wy.toNat set home Wy.toNat).testBit v with
  | true => exact (rcK_re hB hh _ v h1).symm
  | false =>
    cases h2 : (rcK S Wy.toNat set home Wy.toNat).testBit v with
    | false => rfl
    | true =>
      have h3 := rcK_in (X := fun v => (reS S Wy.toNat set home Wy.toNat).testBit v = true) (fun w v hw hs => reS_closed hB hh hw hs) (reS_home _) _ v h2
      rw [h1] at h3
      exact absurd h3 (by decide)
theorem exM_cl {S C Wy home : Int} {set : Nat} (hB : (2 ≤ S ∧ S ≤ 6) ∧ (C = 1 ∧ Wy = S ∨ C = 2 ∧ Wy = 2 * S)) (hh : 0 ≤ home ∧ home < Wy) : ∀ (d : Nat) (way : Int) (mask : Nat), 0 ≤ way ∧ way < Wy → exM S Wy set home d way mask = true → (reS S Wy.toNat set home Wy.toNat).testBit way.toNat = true → ∀ j, j < Wy.toNat → mask.testBit j = true ∨ (reS S Wy.toNat set home Wy.toNat).testBit j = true
  | 0, way, mask, _, h, _, j, _ => by simp [exM] at h
  | d + 1, way, mask, hw, h, hc, j, hj => by
    obtain ⟨t, h1, h2⟩ := anyN_ex _ h
    have ht : 0 ≤ (t : Int) ∧ (t : Int) < Wy := by omega
    have hf := fromZ_rng hB hw ht
    by_cases hs : set.testBit t = true
    · have hs2 : set.testBit ((t : Int)).toNat = true := by rw [Int.toNat_natCast]; exact hs
      by_cases hm : mask = fullN Wy
      · left
        rw [hm]
        unfold fullN
        rw [Nat.testBit_two_pow_sub_one]
        exact decide_eq_true hj
      · have h3 := okM_on (S := S) (Wy := Wy) (set := set) (home := home) (ex := exM S Wy set home d) (way := way) (t := (t : Int)) (mask := mask) ht.1 hm hs2
        rw [Int.toNat_natCast, h2] at h3
        have h4 := h3.symm
        rw [Bool.and_eq_true] at h4
        have hto : (reS S Wy.toNat set home Wy.toNat).testBit (fromZ S way (t : Int)).toNat = true := by
          refine reS_closed (w := way.toNat) hB hh hc ⟨t, h1, hs, ?_⟩
          rw [Int.toNat_of_nonneg hw.1]
        rcases exM_cl hB hh d _ _ hf h4.2 hto j hj with h5 | h5
        · rw [or_bit, Bool.or_eq_true, decide_eq_true_eq] at h5
          rcases h5 with h5 | h5
          · exact Or.inl h5
          · right
            rw [← h5]
            exact hto
        · exact Or.inr h5
    · rw [okM_no hs] at h2
      exact absurd h2 (by decide)
theorem round_full {S C Wy home : Int} {set : Nat} (hB : (2 ≤ S ∧ S ≤ 6) ∧ (C = 1 ∧ Wy = S ∨ C = 2 ∧ Wy = 2 * S)) (hh : 0 ≤ home ∧ home < Wy) (h : exM S Wy set home 12 home (2 ^ home.toNat) = true) : reS S Wy.toNat set home Wy.toNat = fullN Wy := by
  apply Nat.eq_of_testBit_eq
  intro j
  unfold fullN
  rw [Nat.testBit_two_pow_sub_one]
  by_cases hj : j < Wy.toNat
  · rw [decide_eq_true hj]
    rcases exM_cl hB hh 12 home _ hh h (reS_home _) j hj with h1 | h1
    · rw [Nat.testBit_two_pow, decide_eq_true_eq] at h1
      rw [← h1]
      exact reS_home _
    · exact h1
  · rw [decide_eq_false hj]
    cases h1 : (reS S Wy.toNat set home Wy.toNat).testBit j with
    | false => rfl
    | true => exact absurd (reS_in hB hh _ j h1) hj
/-! the greatest common divisor -/
theorem gcG_gcd : ∀ (k : Nat) (a b : Int), 0 ≤ a → 0 ≤ b → b < 2 ^ k → gcG (2 * k + 1) a b = ((Nat.gcd a.toNat b.toNat : Nat) : Int)
  | 0, a, b, ha, hb, h => by
    have e : b = 0 := by
      have : b < 1 := h
      omega
    subst e
    show (if (0 : Int) = 0 then a else _) = _
    rw [if_pos rfl]
    show a = ((Nat.gcd a.toNat 0 : Nat) : Int)
    rw [Nat.gcd_zero_right]
    omega
  | k + 1, a, b, ha, hb, h => by
    show (if b = 0 then a else gcG (2 * (k + 1)) b (a % b)) = _
    by_cases e : b = 0
    · subst e
      rw [if_pos rfl]
      show a = ((Nat.gcd a.toNat 0 : Nat) : Int)
      rw [Nat.gcd_zero_right]
      omega
    · rw [if_neg e]
      have hm := mod_rng (a := a) (b := b) (by omega)
      show (if a % b = 0 then b else gcG (2 * k + 1) (a % b) (b % (a % b))) = _
      rw [← gcd_st ha (show 0 < b by omega)]
      by_cases e2 : a % b = 0
      · rw [if_pos e2, e2]
        show b = ((Nat.gcd b.toNat 0 : Nat) : Int)
        rw [Nat.gcd_zero_right]
        omega
      · rw [if_neg e2]
        have hm2 := mod_rng (a := b) (b := a % b) (by omega)
        rw [← gcd_st hb (show 0 < a % b by omega)]
        refine gcG_gcd k _ _ (by omega) (by omega) ?_
        have h2 : (2 : Int) ^ (k + 1) = 2 * 2 ^ k := by rw [Int.pow_succ, Int.mul_comm]
        rw [h2] at h
        have h3 : b = (a % b) * (b / (a % b)) + b % (a % b) := (Int.mul_ediv_add_emod b (a % b)).symm
        have h4 : 1 ≤ b / (a % b) := by
          have := Int.ediv_nonneg hb hm.1
          rcases (show b / (a % b) = 0 ∨ 1 ≤ b / (a % b) by omega) with h5 | h5
          · rw [h5, Int.mul_zero, Int.zero_add] at h3
            omega
          · exact h5
        have h5 : (a % b) * 1 ≤ (a % b) * (b / (a % b)) := Int.mul_le_mul_of_nonneg_left h4 hm.1
        omega
theorem gcd64 {a b : Int} (ha : 0 ≤ a) (hb : 0 ≤ b ∧ b ≤ 1000000) : gcG 64 a b = ((Nat.gcd a.toNat b.toNat : Nat) : Int) := by
  by_cases e : b = 0
  · subst e
    show (if (0 : Int) = 0 then a else _) = _
    rw [if_pos rfl]
    show a = ((Nat.gcd a.toNat 0 : Nat) : Int)
    rw [Nat.gcd_zero_right]
    omega
  · show (if b = 0 then a else gcG 63 b (a % b)) = _
    rw [if_neg e]
    have hm := mod_rng (a := a) (b := b) (by omega)
    have h := gcG_gcd 31 b (a % b) (by omega) hm.1 (by have : (2 : Int) ^ 31 = 2147483648 := by decide
                                                       omega)
    rw [← gcd_st ha (show 0 < b by omega)]
    exact h
