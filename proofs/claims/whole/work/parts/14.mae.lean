/-! MATHEMATICS: lasts, latest, which -/
theorem sb_min (S t way per : Int) (vis : Int → Int) : ∀ k : Nat, (∀ i : Nat, 1 ≤ i → i ≤ k + 1 → sbZ S t way per vis k ≤ per * vis (wyI S t way i) - per + (i : Int)) ∧ ∃ i : Nat, 1 ≤ i ∧ i ≤ k + 1 ∧ sbZ S t way per vis k = per * vis (wyI S t way i) - per + (i : Int)
  | 0 => ⟨fun i h1 h2 => by
      have e : i = 1 := by omega
      subst e
      exact Int.le_refl _, 1, by omega, by omega, rfl⟩
  | k + 1 => by
    obtain ⟨h1, i, h2, h3, h4⟩ := sb_min S t way per vis k
    have hc : (((k + 2 : Nat)) : Int) = (k : Int) + 2 := by omega
    unfold sbZ
    by_cases e : per * vis (wyI S t way (k + 2)) - per + ((k : Int) + 2) < sbZ S t way per vis k
    · rw [if_pos e]
      refine ⟨fun j h5 h6 => ?_, k + 2, by omega, by omega, by rw [hc]⟩
      by_cases ej : j = k + 2
      · subst ej
        rw [hc]
        exact Int.le_refl _
      · have := h1 j h5 (by omega)
        omega
    · rw [if_neg e]
      refine ⟨fun j h5 h6 => ?_, i, h2, by omega, h4⟩
      by_cases ej : j = k + 2
      · subst ej
        rw [hc]
        omega
      · exact h1 j h5 (by omega)
theorem gr_lt {f : Int → Int} {b : Int} (hb : 0 < b) : ∀ k : Nat, (∀ i : Int, 0 ≤ i → i < k → f i < b) → grZ f k < b
  | 0, _ => hb
  | k + 1, h => by
    have h1 := gr_lt hb k (fun i h1 h2 => h i h1 (by omega))
    have h2 := h k (by omega) (by omega)
    unfold grZ
    split <;> omega
theorem vis_rng {a l : Int} (ha : 0 ≤ a ∧ a ≤ 98) (hl : 1 ≤ l ∧ l ≤ 9) : 0 ≤ a / l ∧ a / l ≤ 98 ∧ l * (a / l) ≤ a ∧ a < l * (a / l + 1) := by
  have h1 := Int.ediv_nonneg ha.1 (show 0 ≤ l by omega)
  have h2 := Int.mul_ediv_add_emod a l
  have h3 := mod_rng (a := a) (b := l) (by omega)
  have h4 : 1 * (a / l) ≤ l * (a / l) := Int.mul_le_mul_of_nonneg_right hl.1 h1
  rw [Int.mul_add, Int.mul_one]
  omega
theorem lasts_eq {S C Wy Li wy t : Int} {ld wn : Int → Int} (hB : (2 ≤ S ∧ S ≤ 6) ∧ (C = 1 ∧ Wy = S ∨ C = 2 ∧ Wy = 2 * S)) (hLi : 5 ≤ Li ∧ Li ≤ 99) (hld : ∀ i : Int, 0 ≤ i → i < 12 → 1 ≤ ld i ∧ ld i ≤ 9) (hwn : ∀ i : Int, 0 ≤ i → i < 12 → 0 ≤ wn i ∧ wn i ≤ 999) (hz : ∀ i : Int, Wy ≤ i → i < 12 → wn i = 0) (hwy : 0 ≤ wy ∧ wy < Wy) (ht : 0 ≤ t ∧ t < Wy) : seasZ S Li wy ld wn t = lsZ S t wy Li Wy ld wn := by
  have hg := gr12 (f := wn) (Wy := Wy) (by omega) (fun i h1 h2 => (hwn i h1 h2).1) hz
  have hp := per_rng hB ht
  unfold seasZ lsZ
  rw [hg]
  by_cases ho : Li ≤ grZ wn Wy.toNat
  · rw [if_pos ho]
    exact ls_fst (n := 0) (q := fun k => Li ≤ grZ (lsW S t wy ld wn k) Wy.toNat) (by omega) ho (fun j hj => by omega)
  · rw [if_neg ho]
    have hlt : ∀ w : Int, 0 ≤ w → w < Wy → wn w < Li := fun w h1 h2 => by
      have := grZ_ge (f := wn) Wy.toNat w h1 (by omega)
      omega
    obtain ⟨hmin, i0, hi1, hi2, hie⟩ := sb_min S t wy (ordZ S t) (visZ ld wn Li) (ordZ S t - 1).toNat
    generalize sbZ S t wy (ordZ S t) (visZ ld wn Li) (ordZ S t - 1).toNat = n0 at hmin hie ⊢
    have hw0 := wyI_rng hB hwy ht i0
    have hv0 := vis_rng (a := Li - 1 - wn (wyI S t wy i0)) (l := ld (wyI S t wy i0)) (by have := hlt _ hw0.1 hw0.2; have := hwn _ hw0.1 (by omega); omega) (hld _ hw0.1 (by omega))
    have hvd : visZ ld wn Li (wyI S t wy i0) = (Li - 1 - wn (wyI S t wy i0)) / ld (wyI S t wy i0) + 1 := rfl
    rw [hvd, Int.mul_add, Int.mul_one] at hie
    have hn0 : 0 ≤ ordZ S t * ((Li - 1 - wn (wyI S t wy i0)) / ld (wyI S t wy i0)) ∧ ordZ S t * ((Li - 1 - wn (wyI S t wy i0)) / ld (wyI S t wy i0)) ≤ 6 * 98 := ⟨Int.mul_nonneg (by omega) hv0.1, Int.le_trans (Int.mul_le_mul_of_nonneg_right hp.2 hv0.1) (Int.mul_le_mul_of_nonneg_left hv0.2.1 (by omega))⟩
    refine ls_fst (q := fun k => Li ≤ grZ (lsW S t wy ld wn k) Wy.toNat) (by omega) ?_ ?_
    · -- at n0 it is worn out
      have hvc := (vc_prop hB ht hwy (i := i0) ⟨hi1, by omega⟩ n0.toNat).2 (by omega)
      have hgw := grZ_ge (f := lsW S t wy ld wn n0.toNat) Wy.toNat (wyI S t wy i0) hw0.1 (by omega)
      rw [lsW_vc] at hgw
      generalize vcN S t wy (wyI S t wy i0) n0.toNat = v at hvc hgw
      have h1 : v - 1 ≤ (Li - 1 - wn (wyI S t wy i0)) / ld (wyI S t wy i0) := by
        apply Int.le_of_mul_le_mul_left (a := ordZ S t) _ (by omega)
        omega
      have h2 : (Li - 1 - wn (wyI S t wy i0)) / ld (wyI S t wy i0) < v := by
        apply Int.lt_of_mul_lt_mul_left (a := ordZ S t) _ (by omega)
        omega
      have h3 : v = (Li - 1 - wn (wyI S t wy i0)) / ld (wyI S t wy i0) + 1 := by omega
      rw [h3] at hgw
      show Li ≤ grZ (lsW S t wy ld wn n0.toNat) Wy.toNat
      omega
    · intro j hj hout
      have hout : Li ≤ grZ (lsW S t wy ld wn j) Wy.toNat := hout
      have : grZ (lsW S t wy ld wn j) Wy.toNat < Li := by
        refine gr_lt (by omega) _ (fun w h1 h2 => ?_)
        rw [lsW_vc]
        have hwl := hlt w h1 (by omega)
        by_cases hvis : ∃ k : Nat, 1 ≤ k ∧ wyI S t wy k = w
        · obtain ⟨k, _, hkw⟩ := hvis
          obtain ⟨i, hi3, hi4, hi5⟩ := wyI_idx hB ht hwy k
          rw [hkw] at hi5
          subst hi5
          have hvc := vc_prop hB ht hwy (i := i) ⟨hi3, hi4⟩ j
          have hmi := hmin i hi3 (by omega)
          have hvd2 : visZ ld wn Li (wyI S t wy i) = (Li - 1 - wn (wyI S t wy i)) / ld (wyI S t wy i) + 1 := rfl
          rw [hvd2, Int.mul_add, Int.mul_one] at hmi
          have hv1 := vis_rng (a := Li - 1 - wn (wyI S t wy i)) (l := ld (wyI S t wy i)) (by have := hwn _ h1 (by omega); omega) (hld _ h1 (by omega))
          have hl1 := hld _ h1 (show wyI S t wy i < 12 by omega)
          generalize vcN S t wy (wyI S t wy i) j = v at hvc ⊢
          have hle : v ≤ (Li - 1 - wn (wyI S t wy i)) / ld (wyI S t wy i) := by
            by_cases hji : j < i
            · rw [hvc.1 hji]
              exact hv1.1
            · have h3 := hvc.2 (by omega)
              have h4 : v - 1 < (Li - 1 - wn (wyI S t wy i)) / ld (wyI S t wy i) := by
                apply Int.lt_of_mul_lt_mul_left (a := ordZ S t) _ (by omega)
                omega
              omega
          have h5 := Int.mul_le_mul_of_nonneg_left hle (show 0 ≤ ld (wyI S t wy i) by omega)
          omega
        · rw [vc_zero (fun i hi1 hi2 => hvis ⟨i, hi1, hi2⟩), Int.mul_zero]
          omega
      omega
theorem latest_eq {S C Wy Li wy : Int} {ld wn : Int → Int} (hB : (2 ≤ S ∧ S ≤ 6) ∧ (C = 1 ∧ Wy = S ∨ C = 2 ∧ Wy = 2 * S)) (hLi : 5 ≤ Li ∧ Li ≤ 99) (hld : ∀ i : Int, 0 ≤ i → i < 12 → 1 ≤ ld i ∧ ld i ≤ 9) (hwn : ∀ i : Int, 0 ≤ i → i < 12 → 0 ≤ wn i ∧ wn i ≤ 999) (hz : ∀ i : Int, Wy ≤ i → i < 12 → wn i = 0) (hwy : 0 ≤ wy ∧ wy < Wy) : ∀ k : Nat, (k : Int) < Wy → ltM S wy Li Wy ld wn (k + 1) = (ltB S Li wy ld wn k, seasZ S Li wy ld wn (ltB S Li wy ld wn k))
  | 0, hk => by
    have h := lasts_eq (t := 0) hB hLi hld hwn hz hwy (by omega)
    have hr := lsZ_rng S 0 wy Li Wy ld wn
    show (if (-1 : Int) < lsZ S ((0 : Nat) : Int) wy Li Wy ld wn then (((0 : Nat) : Int), lsZ S ((0 : Nat) : Int) wy Li Wy ld wn) else _) = (0, seasZ S Li wy ld wn 0)
    rw [h]
    show (if (-1 : Int) < lsZ S 0 wy Li Wy ld wn then ((0 : Int), lsZ S 0 wy Li Wy ld wn) else _) = _
    rw [if_pos (by omega)]
  | k + 1, hk => by
    have ih := latest_eq hB hLi hld hwn hz hwy k (by omega)
    have h := lasts_eq (t := ((k + 1 : Nat) : Int)) hB hLi hld hwn hz hwy (by omega)
    show (if (ltM S wy Li Wy ld wn (k + 1)).2 < lsZ S ((k + 1 : Nat) : Int) wy Li Wy ld wn then (((k + 1 : Nat) : Int), lsZ S ((k + 1 : Nat) : Int) wy Li Wy ld wn) else ltM S wy Li Wy ld wn (k + 1)) = _
    have hb : ltB S Li wy ld wn (k + 1) = if seasZ S Li wy ld wn (ltB S Li wy ld wn k) < seasZ S Li wy ld wn ((k : Int) + 1) then (k : Int) + 1 else ltB S Li wy ld wn k := rfl
    have hc : (((k + 1 : Nat)) : Int) = (k : Int) + 1 := by omega
    rw [ih, ← h, hb, hc]
    generalize ltB S Li wy ld wn k = b
    show (if seasZ S Li wy ld wn b < seasZ S Li wy ld wn ((k : Int) + 1) then _ else _) = _
    by_cases e : seasZ S Li wy ld wn b < seasZ S Li wy ld wn ((k : Int) + 1)
    · rw [if_pos e, if_pos e]
    · rw [if_neg e, if_neg e]
/-! which -/
theorem vs_miss {S t way w per sea : Int} : ∀ k : Nat, (∀ j : Nat, 1 ≤ j → j ≤ k → ¬ wyI S t way j = w) → vsZ S t way w per sea k = 0
  | 0, _ => rfl
  | k + 1, h => by
    unfold vsZ
    rw [if_neg (h (k + 1) (by omega) (by omega))]
    exact vs_miss k (fun j h1 h2 => h j h1 (by omega))
theorem vs_hit {S t way w per sea : Int} {i : Nat} (hi : 1 ≤ i) (he : wyI S t way i = w) : ∀ k : Nat, i ≤ k → (∀ j : Nat, i < j → j ≤ k → ¬ wyI S t way j = w) → vsZ S t way w per sea k = (sea - (i : Int)) / per + 1
  | 0, h, _ => by omega
  | k + 1, h, hno => by
    unfold vsZ
    by_cases e : i = k + 1
    · rw [← e, if_pos he, e]
      congr 1
    · rw [if_neg (hno (k + 1) (by omega) (by omega))]
      exact vs_hit hi he k (by omega) (fun j h1 h2 => hno j h1 (by omega))
theorem vs_eq {S C Wy t wy w sea : Int} (hB : (2 ≤ S ∧ S ≤ 6) ∧ (C = 1 ∧ Wy = S ∨ C = 2 ∧ Wy = 2 * S)) (ht : 0 ≤ t ∧ t < Wy) (hwy : 0 ≤ wy ∧ wy < Wy) (hs : 0 ≤ sea) : vsZ S t wy w (ordZ S t) sea (min (ordZ S t) sea).toNat = vcN S t wy w sea.toNat := by
  have hp := per_rng hB ht
  by_cases hvis : ∃ k : Nat, 1 ≤ k ∧ wyI S t wy k = w
  · obtain ⟨k, _, hkw⟩ := hvis
    obtain ⟨i, hi3, hi4, hi5⟩ := wyI_idx hB ht hwy k
    rw [hkw] at hi5
    subst hi5
    have huniq : ∀ j : Nat, 1 ≤ j → (j : Int) ≤ ordZ S t → wyI S t wy j = wyI S t wy i → j = i := by
      intro j h1 h2 h3
      rcases Nat.lt_or_ge j i with hl | hl
      · obtain ⟨q, hq⟩ := wyI_dvd hB ht hwy (show j ≤ i by omega) h3.symm
        cases q with
        | zero => rw [Nat.mul_zero] at hq; omega
        | succ q => rw [Nat.mul_add, Nat.mul_one] at hq; omega
      · obtain ⟨q, hq⟩ := wyI_dvd hB ht hwy hl h3
        cases q with
        | zero => rw [Nat.mul_zero] at hq; omega
        | succ q => rw [Nat.mul_add, Nat.mul_one] at hq; omega
    have hvc := vc_prop hB ht hwy (i := i) ⟨hi3, hi4⟩ sea.toNat
    by_cases hle : (i : Int) ≤ sea
    · rw [vs_hit hi3 rfl _ (by omega) (fun j h1 h2 h3 => by have := huniq j (by omega) (by omega) h3; omega)]
      have h3 := hvc.2 (by omega)
      generalize vcN S t wy (wyI S t wy i) sea.toNat = v at h3 ⊢
      have h4 := Int.mul_ediv_add_emod (sea - (i : Int)) (ordZ S t)
      have h5 := mod_rng (a := sea - (i : Int)) (b := ordZ S t) (by omega)
      have h6 : v - 1 < (sea - (i : Int)) / ordZ S t + 1 := by
        apply Int.lt_of_mul_lt_mul_left (a := ordZ S t) _ (by omega)
        rw [Int.mul_add, Int.mul_one]
        omega
      have h7 : (sea - (i : Int)) / ordZ S t < v := by
        apply Int.lt_of_mul_lt_mul_left (a := ordZ S t) _ (by omega)
        omega
      omega
    · rw [hvc.1 (by omega)]
      exact vs_miss _ (fun j h1 h2 h3 => by have := huniq j h1 (by omega) h3; omega)
  · rw [vc_zero (fun i hi1 hi2 => hvis ⟨i, hi1, hi2⟩)]
    exact vs_miss _ (fun j h1 h2 h3 => hvis ⟨j, h1, h3⟩)
theorem wi_eq {S C Wy t wy w sea : Int} {ld wn : Int → Int} (hB : (2 ≤ S ∧ S ≤ 6) ∧ (C = 1 ∧ Wy = S ∨ C = 2 ∧ Wy = 2 * S)) (hld : ∀ i : Int, 0 ≤ i → i < 12 → 1 ≤ ld i ∧ ld i ≤ 9) (hwn : ∀ i : Int, 0 ≤ i → i < 12 → 0 ≤ wn i ∧ wn i ≤ 107) (ht : 0 ≤ t ∧ t < Wy) (hwy : 0 ≤ wy ∧ wy < Wy) (hw : 0 ≤ w ∧ w < 12) (hs : 0 ≤ sea ∧ sea ≤ 40) : wiZ S wy ld wn sea w t = lsW S t wy ld wn sea.toNat w := by
  have hr := lsW_rng (S := S) (t := t) (home := wy) (b := 107) hld (fun k => by have := wyI_rng hB hwy ht k; omega) hwn sea.toNat w hw.1 hw.2
  unfold wiZ
  rw [vs_eq hB ht hwy hs.1]
  rw [lsW_vc] at hr ⊢
  rw [Int.mul_comm (vcN S t wy w sea.toNat) (ld w), if_pos (by omega)]
theorem as_iff {S wy : Int} {ld wn hk hq hv : Int → Int} {t : Int} : ∀ k : Nat, asB S wy ld wn hk hq hv t k = true ↔ ∀ i : Nat, i < k → wiZ S wy ld wn (hk (i : Int)) (hq (i : Int)) t = hv (i : Int)
  | 0 => ⟨fun _ i h => by omega, fun _ => rfl⟩
  | k + 1 => by
    unfold asB
    rw [Bool.and_eq_true, decide_eq_true_eq, as_iff k]
    constructor
    · rintro ⟨h1, h2⟩ i hi
      by_cases e : i = k
      · subst e; exact h2
      · exact h1 i (by omega)
    · intro h
      exact ⟨fun i hi => h i (by omega), h k (by omega)⟩
theorem wkI_iff {wn hf : Int → Int} {k : Int} : ∀ n : Nat, wkI wn hf k n = true ↔ ∀ i : Nat, i < n → (¬ hf (3 * (i : Int)) = k ∨ wn (hf (3 * (i : Int) + 1)) = hf (3 * (i : Int) + 2))
  | 0 => ⟨fun _ i h => by omega, fun _ => rfl⟩
  | n + 1 => by
    unfold wkI
    rw [Bool.and_eq_true, decide_eq_true_eq, wkI_iff n]
    constructor
    · rintro ⟨h1, h2⟩ i hi
      by_cases e : i = n
      · subst e; exact h2
      · exact h1 i (by omega)
    · intro h
      exact ⟨fun i hi => h i (by omega), h n (by omega)⟩
theorem wkK_iff {S t home : Int} {ld wn hf : Int → Int} {hz : Nat} : ∀ n : Nat, wkK S t home ld wn hf hz n = true ↔ ∀ k : Nat, k < n → wkI (lsW S t home ld wn k) hf (k : Int) hz = true
  | 0 => ⟨fun _ i h => by omega, fun _ => rfl⟩
  | n + 1 => by
    unfold wkK
    rw [Bool.and_eq_true, wkK_iff n]
    constructor
    · rintro ⟨h1, h2⟩ i hi
      by_cases e : i = n
      · subst e; exact h2
      · exact h1 i (by omega)
    · intro h
      exact ⟨fun i hi => h i (by omega), h n (by omega)⟩
theorem which_t {S C Wy t wy hz : Int} {ld wn hf : Int → Int} (hB : (2 ≤ S ∧ S ≤ 6) ∧ (C = 1 ∧ Wy = S ∨ C = 2 ∧ Wy = 2 * S)) (hld : ∀ i : Int, 0 ≤ i → i < 12 → 1 ≤ ld i ∧ ld i ≤ 9) (hwn : ∀ i : Int, 0 ≤ i → i < 12 → 0 ≤ wn i ∧ wn i ≤ 107) (ht : 0 ≤ t ∧ t < Wy) (hwy : 0 ≤ wy ∧ wy < Wy) (hhf : ∀ i : Int, 0 ≤ i → i < hz → (0 ≤ hf (3 * i) ∧ hf (3 * i) ≤ 40) ∧ (0 ≤ hf (3 * i + 1) ∧ hf (3 * i + 1) < 12) ∧ (0 ≤ hf (3 * i + 2) ∧ hf (3 * i + 2) ≤ 999)) : asB S wy ld wn (fun i => hf (3 * i)) (fun i => hf (3 * i + 1)) (fun i => hf (3 * i + 2)) t hz.toNat = true ↔ wkK S t wy ld wn hf hz.toNat 41 = true := by
  rw [as_iff, wkK_iff]
  have hw : ∀ i : Nat, i < hz.toNat → wiZ S wy ld wn (hf (3 * (i : Int))) (hf (3 * (i : Int) + 1)) t = lsW S t wy ld wn (hf (3 * (i : Int))).toNat (hf (3 * (i : Int) + 1)) := fun i hi => by
    have h := hhf (i : Int) (by omega) (by omega)
    exact wi_eq hB hld hwn ht hwy (by omega) (by omega)
  constructor
  · intro h k hk
    rw [wkI_iff]
    intro i hi
    by_cases e : hf (3 * (i : Int)) = (k : Int)
    · right
      have h1 := h i hi
      have h1 : wiZ S wy ld wn (hf (3 * (i : Int))) (hf (3 * (i : Int) + 1)) t = hf (3 * (i : Int) + 2) := h1
      rw [hw i hi, e, Int.toNat_natCast] at h1
      exact h1
    · exact Or.inl e
  · intro h i hi
    have h0 := hhf (i : Int) (by omega) (by omega)
    show wiZ S wy ld wn (hf (3 * (i : Int))) (hf (3 * (i : Int) + 1)) t = hf (3 * (i : Int) + 2)
    rw [hw i hi]
    have h1 := (wkI_iff hz.toNat).mp (h (hf (3 * (i : Int))).toNat (by omega)) i hi
    rcases h1 with h1 | h1
    · exact absurd (by omega) h1
    · exact h1
theorem which_eq {S C Wy wy hz : Int} {ld wn hf : Int → Int} (hB : (2 ≤ S ∧ S ≤ 6) ∧ (C = 1 ∧ Wy = S ∨ C = 2 ∧ Wy = 2 * S)) (hld : ∀ i : Int, 0 ≤ i → i < 12 → 1 ≤ ld i ∧ ld i ≤ 9) (hwn : ∀ i : Int, 0 ≤ i → i < 12 → 0 ≤ wn i ∧ wn i ≤ 107) (hwy : 0 ≤ wy ∧ wy < Wy) (hhf : ∀ i : Int, 0 ≤ i → i < hz → (0 ≤ hf (3 * i) ∧ hf (3 * i) ≤ 40) ∧ (0 ≤ hf (3 * i + 1) ∧ hf (3 * i + 1) < 12) ∧ (0 ≤ hf (3 * i + 2) ∧ hf (3 * i + 2) ≤ 999)) : ∀ k : Nat, (k : Int) ≤ Wy → whC S wy ld wn (fun i => hf (3 * i)) (fun i => hf (3 * i + 1)) (fun i => hf (3 * i + 2)) hz.toNat k = whM S wy ld wn hf hz.toNat k
  | 0, _ => rfl
  | k + 1, hk => by
    have h := which_t (t := (k : Int)) hB hld hwn (by omega) hwy hhf
    unfold whC whM
    rw [which_eq hB hld hwn hwy hhf k (by omega)]
    by_cases e : wkK S (k : Int) wy ld wn hf hz.toNat 41 = true
    · rw [if_pos e, if_pos (h.mpr e)]
    · rw [if_neg e, if_neg (fun h2 => e (h.mp h2))]
