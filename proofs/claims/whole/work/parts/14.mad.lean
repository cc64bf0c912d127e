/-! MATHEMATICS: what a turn does again and again; lasts, latest, which -/
theorem tab_per : ∀ s : Fin 7, ∀ c : Fin 3, ∀ t : Fin 12, ∀ h : Fin 12, 2 ≤ s.val → 1 ≤ c.val → t.val < s.val * c.val → h.val < s.val * c.val → (1 ≤ ordZ (s.val : Int) (t.val : Int) ∧ ordZ (s.val : Int) (t.val : Int) ≤ 6) ∧ wyI (s.val : Int) (t.val : Int) (h.val : Int) (ordZ (s.val : Int) (t.val : Int)).toNat = (h.val : Int) ∧ ∀ k : Fin 6, 1 ≤ k.val → (k.val : Int) < ordZ (s.val : Int) (t.val : Int) → ¬ wyI (s.val : Int) (t.val : Int) (h.val : Int) k.val = (h.val : Int) := by decide +kernel
theorem per_rng {S C Wy t : Int} (hB : (2 ≤ S ∧ S ≤ 6) ∧ (C = 1 ∧ Wy = S ∨ C = 2 ∧ Wy = 2 * S)) (ht : 0 ≤ t ∧ t < Wy) : 1 ≤ ordZ S t ∧ ordZ S t ≤ 6 := by
  obtain ⟨s, c, rfl, rfl, rfl, h1, h2, h3, h4⟩ := shp hB
  obtain ⟨k, rfl⟩ := Int.eq_ofNat_of_zero_le ht.1
  have hk : k < s * c := by omega
  have h12 : s * c ≤ 6 * 2 := Nat.mul_le_mul h2 h4
  exact (tab_per ⟨s, by omega⟩ ⟨c, by omega⟩ ⟨k, by omega⟩ ⟨k, by omega⟩ h1 h3 hk hk).1
theorem per_home {S C Wy t h : Int} (hB : (2 ≤ S ∧ S ≤ 6) ∧ (C = 1 ∧ Wy = S ∨ C = 2 ∧ Wy = 2 * S)) (ht : 0 ≤ t ∧ t < Wy) (hh : 0 ≤ h ∧ h < Wy) : wyI S t h (ordZ S t).toNat = h ∧ ∀ k : Nat, 1 ≤ k → (k : Int) < ordZ S t → ¬ wyI S t h k = h := by
  have hp := per_rng hB ht
  obtain ⟨s, c, rfl, rfl, rfl, h1, h2, h3, h4⟩ := shp hB
  obtain ⟨k, rfl⟩ := Int.eq_ofNat_of_zero_le ht.1
  obtain ⟨j, rfl⟩ := Int.eq_ofNat_of_zero_le hh.1
  have hk : k < s * c := by omega
  have hj : j < s * c := by omega
  have h12 : s * c ≤ 6 * 2 := Nat.mul_le_mul h2 h4
  have h := (tab_per ⟨s, by omega⟩ ⟨c, by omega⟩ ⟨k, by omega⟩ ⟨j, by omega⟩ h1 h3 hk hj).2
  exact ⟨h.1, fun q hq1 hq2 => h.2 ⟨q, by omega⟩ hq1 hq2⟩
theorem wyI_add (S t h : Int) (i : Nat) : ∀ j, wyI S t h (i + j) = wyI S t (wyI S t h i) j
  | 0 => rfl
  | j + 1 => by
    show fromZ S (wyI S t h (i + j)) t = fromZ S (wyI S t (wyI S t h i) j) t
    rw [wyI_add S t h i j]
theorem wyI_mul {S C Wy t h : Int} (hB : (2 ≤ S ∧ S ≤ 6) ∧ (C = 1 ∧ Wy = S ∨ C = 2 ∧ Wy = 2 * S)) (ht : 0 ≤ t ∧ t < Wy) (hh : 0 ≤ h ∧ h < Wy) : ∀ q r, wyI S t h ((ordZ S t).toNat * q + r) = wyI S t h r
  | 0, r => by rw [Nat.mul_zero, Nat.zero_add]
  | q + 1, r => by
    rw [show (ordZ S t).toNat * (q + 1) + r = (ordZ S t).toNat + ((ordZ S t).toNat * q + r) by rw [Nat.mul_add, Nat.mul_one]; omega, wyI_add, (per_home hB ht hh).1]
    exact wyI_mul hB ht hh q r
/-- the same way again: a whole number of rounds between -/
theorem wyI_dvd {S C Wy t h : Int} (hB : (2 ≤ S ∧ S ≤ 6) ∧ (C = 1 ∧ Wy = S ∨ C = 2 ∧ Wy = 2 * S)) (ht : 0 ≤ t ∧ t < Wy) (hh : 0 ≤ h ∧ h < Wy) {i j : Nat} (hij : i ≤ j) (he : wyI S t h j = wyI S t h i) : ∃ q : Nat, j = i + (ordZ S t).toNat * q := by
  have hp := per_rng hB ht
  have hi := wyI_rng hB hh ht i
  have h1 : wyI S t (wyI S t h i) (j - i) = wyI S t h i := by
    rw [← wyI_add, show i + (j - i) = j by omega]
    exact he
  have h2 := Nat.div_add_mod (j - i) (ordZ S t).toNat
  have h3 := Nat.mod_lt (j - i) (show (ordZ S t).toNat > 0 by omega)
  rw [← h2, wyI_mul hB ht hi] at h1
  by_cases e : (j - i) % (ordZ S t).toNat = 0
  · exact ⟨(j - i) / (ordZ S t).toNat, by omega⟩
  · exact absurd h1 ((per_home hB ht hi).2 _ (by omega) (by omega))
/-- every way that is come to is one of the first round's -/
theorem wyI_idx {S C Wy t h : Int} (hB : (2 ≤ S ∧ S ≤ 6) ∧ (C = 1 ∧ Wy = S ∨ C = 2 ∧ Wy = 2 * S)) (ht : 0 ≤ t ∧ t < Wy) (hh : 0 ≤ h ∧ h < Wy) (k : Nat) : ∃ i : Nat, 1 ≤ i ∧ (i : Int) ≤ ordZ S t ∧ wyI S t h k = wyI S t h i := by
  have hp := per_rng hB ht
  have h2 := Nat.div_add_mod k (ordZ S t).toNat
  have h3 := Nat.mod_lt k (show (ordZ S t).toNat > 0 by omega)
  by_cases e : k % (ordZ S t).toNat = 0
  · refine ⟨(ordZ S t).toNat, by omega, by omega, ?_⟩
    rw [(per_home hB ht hh).1, ← h2, e, wyI_mul hB ht hh]
    rfl
  · refine ⟨k % (ordZ S t).toNat, by omega, by omega, ?_⟩
    rw [← h2, wyI_mul hB ht hh, Nat.mul_add_mod, Nat.mod_mod]
def vcN (S t home w : Int) : Nat → Int
  | 0 => 0
  | k + 1 => vcN S t home w k + (if wyI S t home (k + 1) = w then 1 else 0)
theorem lsW_vc (S t home : Int) (ld wn : Int → Int) (w : Int) : ∀ k, lsW S t home ld wn k w = wn w + ld w * vcN S t home w k
  | 0 => by
    show wn w = wn w + ld w * 0
    omega
  | k + 1 => by
    show uZ (lsW S t home ld wn k) (wyI S t home (k + 1)) (lsW S t home ld wn k (wyI S t home (k + 1)) + ld (wyI S t home (k + 1))) w = wn w + ld w * (vcN S t home w k + (if wyI S t home (k + 1) = w then 1 else 0))
    by_cases e : wyI S t home (k + 1) = w
    · rw [e, uZ_same, if_pos rfl, lsW_vc S t home ld wn w k, Int.mul_add, Int.mul_one, Int.add_assoc]
    · rw [uZ_ne _ _ (fun h => e h.symm), if_neg e, Int.add_zero, lsW_vc S t home ld wn w k]
theorem vc_zero {S t home w : Int} (h : ∀ i : Nat, 1 ≤ i → ¬ wyI S t home i = w) : ∀ k, vcN S t home w k = 0
  | 0 => rfl
  | k + 1 => by
    unfold vcN
    rw [vc_zero h k, if_neg (h (k + 1) (by omega))]
    rfl
theorem vc_prop {S C Wy t home : Int} (hB : (2 ≤ S ∧ S ≤ 6) ∧ (C = 1 ∧ Wy = S ∨ C = 2 ∧ Wy = 2 * S)) (ht : 0 ≤ t ∧ t < Wy) (hh : 0 ≤ home ∧ home < Wy) {i : Nat} (hi : 1 ≤ i ∧ (i : Int) ≤ ordZ S t) : ∀ k : Nat, (k < i → vcN S t home (wyI S t home i) k = 0) ∧ (i ≤ k → ordZ S t * (vcN S t home (wyI S t home i) k - 1) + (i : Int) ≤ (k : Int) ∧ (k : Int) < ordZ S t * vcN S t home (wyI S t home i) k + (i : Int))
  | 0 => ⟨fun _ => rfl, fun h => by omega⟩
  | k + 1 => by
    have hp := per_rng hB ht
    have h := vc_prop hB ht hh hi k
    have hstep : vcN S t home (wyI S t home i) (k + 1) = vcN S t home (wyI S t home i) k + (if wyI S t home (k + 1) = wyI S t home i then 1 else 0) := rfl
    rw [hstep]
    generalize hv : vcN S t home (wyI S t home i) k = v at h ⊢
    refine ⟨fun h1 => ?_, fun h1 => ?_⟩
    · rw [h.1 (by omega)]
      by_cases e : wyI S t home (k + 1) = wyI S t home i
      · obtain ⟨q, hq⟩ := wyI_dvd hB ht hh (show k + 1 ≤ i by omega) e.symm
        exfalso
        cases q with
        | zero => rw [Nat.mul_zero] at hq; omega
        | succ q => rw [Nat.mul_add, Nat.mul_one] at hq; omega
      · rw [if_neg e]; rfl
    · by_cases e0 : k + 1 = i
      · rw [h.1 (by omega), e0, if_pos rfl]
        constructor
        · show ordZ S t * (0 + 1 - 1) + (i : Int) ≤ (i : Int)
          rw [show (0 : Int) + 1 - 1 = 0 by omega, Int.mul_zero]
          omega
        · show (i : Int) < ordZ S t * (0 + 1) + (i : Int)
          rw [Int.zero_add, Int.mul_one]
          omega
      · obtain ⟨h2, h3⟩ := h.2 (by omega)
        by_cases e : wyI S t home (k + 1) = wyI S t home i
        · rw [if_pos e]
          obtain ⟨q, hq⟩ := wyI_dvd hB ht hh (show i ≤ k + 1 by omega) e
          have hq2 : ((k + 1 : Nat) : Int) = (i : Int) + ordZ S t * (q : Int) := by
            rw [hq, Int.natCast_add, Int.natCast_mul, Int.toNat_of_nonneg (by omega)]
          have h4 : v - 1 < (q : Int) := by
            apply Int.lt_of_mul_lt_mul_left (a := ordZ S t) _ (by omega)
            omega
          have h5 : (q : Int) ≤ v := by
            apply Int.le_of_mul_le_mul_left (a := ordZ S t) _ (by omega)
            omega
          have h6 : v = (q : Int) := by omega
          rw [h6, show (q : Int) + 1 - 1 = (q : Int) by omega, Int.mul_add, Int.mul_one]
          omega
        · rw [if_neg e, Int.add_zero]
          refine ⟨by omega, ?_⟩
          rcases (show ((k + 1 : Nat) : Int) < ordZ S t * v + (i : Int) ∨ ((k + 1 : Nat) : Int) = ordZ S t * v + (i : Int) by omega) with h4 | h4
          · exact h4
          · exfalso
            apply e
            have hv0 : 0 ≤ v := by
              rcases (show 0 ≤ v ∨ v ≤ -1 by omega) with h5 | h5
              · exact h5
              · have := Int.mul_le_mul_of_nonneg_left h5 (show 0 ≤ ordZ S t by omega)
                omega
            obtain ⟨q, rfl⟩ := Int.eq_ofNat_of_zero_le hv0
            have h5 : k + 1 = (ordZ S t).toNat * q + i := by
              have : (((ordZ S t).toNat * q + i : Nat) : Int) = ordZ S t * (q : Int) + (i : Int) := by
                rw [Int.natCast_add, Int.natCast_mul, Int.toNat_of_nonneg (by omega)]
              omega
            rw [h5, wyI_mul hB ht hh]
