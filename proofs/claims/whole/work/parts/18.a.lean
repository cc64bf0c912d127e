theorem ob3 {a b c a2 b2 c2 : Int} {q r : Nat} (h1 : a = a2) (h2 : b = b2) (h3 : c = c2) : ((q, .inr (2, [.int (zI a), .int (zI b), .int (zI c), .ref r])) : Nat × va_E) = (q, .inr (2, [.int (zI a2), .int (zI b2), .int (zI c2), .ref r])) := by
  subst h1 h2 h3
  rfl
theorem P_cell {G : CX} {ws : va_W} {H : Heap} {q : Nat} {x y : Nat × va_E} (hq : ws[q]? = some x) (h : x = y) (hP : kP G ws H) : kP G (ws.set q y) H := by
  subst h
  intro k z hk
  rw [List.getElem?_set] at hk
  split at hk
  · rename_i hkq
    split at hk
    · cases hk
      exact hP q _ hq
    · cases hk
  · exact hP k z hk
theorem D_cell {A : Nat → Prop} {ws : va_W} {q : Nat} {x y : Nat × va_E} (hq : ws[q]? = some x) (h : x = y) (hD : va_D A ws) : va_D A (ws.set q y) := by
  subst h
  exact D_set (e := x.2) (e2 := x.2) (a := x.1) hq hD
theorem kpE {mf sf : Int → Int} {im k a : Int} (ha : 0 ≤ a ∧ a < 15) : uZ (fun k => mf (15 * k + a)) im (sf a) k = cpK mf (15 * im) sf 0 15 (15 * k + a) := by
  unfold uZ cpK
  by_cases e : k = im
  · rw [if_pos e, if_pos (by omega)]
    congr 1
    omega
  · rw [if_neg e, if_neg (by omega)]
theorem kp0 {mf sf : Int → Int} {im k : Int} : uZ (fun k => mf (15 * k)) im (sf 0) k = cpK mf (15 * im) sf 0 15 (15 * k) := by
  unfold uZ cpK
  by_cases e : k = im
  · rw [if_pos e, if_pos (by omega)]
    congr 1
    omega
  · rw [if_neg e, if_neg (by omega)]
theorem kpF {mf sf : Int → Int} {im k j : Int} (hj : 0 ≤ j ∧ j < 12) : uF (fun k i => mf (15 * k + 3 + i)) im (fun i => sf (3 + i)) k j = cpK mf (15 * im) sf 0 15 (15 * k + 3 + j) := by
  unfold uF cpK
  by_cases e : k = im
  · rw [if_pos e, if_pos (by omega)]
    congr 1
    omega
  · rw [if_neg e, if_neg (by omega)]
theorem bkE {mf sf : Int → Int} {im a : Int} (ha : 0 ≤ a ∧ a < 15) : mf (15 * im + a) = cpK sf 0 mf (15 * im) 15 a := by
  unfold cpK
  rw [if_pos (by omega)]
  congr 1
  omega
theorem im_keep {Wy im : Int} {ik mf sf : Int → Int} (hW : 0 ≤ Wy) (hs : stO Wy sf) (him : ∀ i : Int, 0 ≤ i → i < 2 → ik i = 1 → stO Wy (fun j => mf (15 * i + j))) : ∀ i : Int, 0 ≤ i → i < 2 → uZ ik im 1 i = 1 → stO Wy (fun j => cpK mf (15 * im) sf 0 15 (15 * i + j)) := by
  intro i h1 h2 h3
  by_cases e : i = im
  · refine stO_cong hW (fun j h4 h5 => ?_) hs
    show cpK mf (15 * im) sf 0 15 (15 * i + j) = sf j
    unfold cpK
    rw [if_pos (by omega)]
    congr 1
    omega
  · rw [uZ_ne _ _ e] at h3
    refine stO_cong hW (fun j h4 h5 => ?_) (him i h1 h2 h3)
    show cpK mf (15 * im) sf 0 15 (15 * i + j) = mf (15 * i + j)
    unfold cpK
    rw [if_neg (by omega)]
theorem rate_g {α : Type} {kd w Wy : Int} (n v0 v1 v2 v3 v4 v5 : α) : (if ¬ (0 ≤ w ∧ w < Wy) then n else if kd = 0 then v0 else if kd = 1 then v1 else if kd = 2 then v2 else if kd = 3 then v3 else if kd = 4 then v4 else if kd = 5 then v5 else n) = (if ¬ ((0 ≤ kd ∧ kd ≤ 5) ∧ (0 ≤ w ∧ w < Wy)) then n else if kd = 0 then v0 else if kd = 1 then v1 else if kd = 2 then v2 else if kd = 3 then v3 else if kd = 4 then v4 else v5) := by
  by_cases hw : 0 ≤ w ∧ w < Wy
  · have nw : ¬ ¬ (0 ≤ w ∧ w < Wy) := fun h => h hw
    by_cases k0 : kd = 0
    · have nk : ¬ ¬ ((0 ≤ kd ∧ kd ≤ 5) ∧ (0 ≤ w ∧ w < Wy)) := fun h => h ⟨by omega, hw⟩
      have hl : (if ¬ (0 ≤ w ∧ w < Wy) then n else if kd = 0 then v0 else if kd = 1 then v1 else if kd = 2 then v2 else if kd = 3 then v3 else if kd = 4 then v4 else if kd = 5 then v5 else n) = v0 := by rw [if_neg nw, if_pos k0]
      have hr : (if ¬ ((0 ≤ kd ∧ kd ≤ 5) ∧ (0 ≤ w ∧ w < Wy)) then n else if kd = 0 then v0 else if kd = 1 then v1 else if kd = 2 then v2 else if kd = 3 then v3 else if kd = 4 then v4 else v5) = v0 := by rw [if_neg nk, if_pos k0]
      exact hl.trans hr.symm
    by_cases k1 : kd = 1
    · have nk : ¬ ¬ ((0 ≤ kd ∧ kd ≤ 5) ∧ (0 ≤ w ∧ w < Wy)) := fun h => h ⟨by omega, hw⟩
      have hl : (if ¬ (0 ≤ w ∧ w < Wy) then n else if kd = 0 then v0 else if kd = 1 then v1 else if kd = 2 then v2 else if kd = 3 then v3 else if kd = 4 then v4 else if kd = 5 then v5 else n) = v1 := by rw [if_neg nw, if_neg k0, if_pos k1]
      have hr : (if ¬ ((0 ≤ kd ∧ kd ≤ 5) ∧ (0 ≤ w ∧ w < Wy)) then n else if kd = 0 then v0 else if kd = 1 then v1 else if kd = 2 then v2 else if kd = 3 then v3 else if kd = 4 then v4 else v5) = v1 := by rw [if_neg nk, if_neg k0, if_pos k1]
      exact hl.trans hr.symm
    by_cases k2 : kd = 2
    · have nk : ¬ ¬ ((0 ≤ kd ∧ kd ≤ 5) ∧ (0 ≤ w ∧ w < Wy)) := fun h => h ⟨by omega, hw⟩
      have hl : (if ¬ (0 ≤ w ∧ w < Wy) then n else if kd = 0 then v0 else if kd = 1 then v1 else if kd = 2 then v2 else if kd = 3 then v3 else if kd = 4 then v4 else if kd = 5 then v5 else n) = v2 := by rw [if_neg nw, if_neg k0, if_neg k1, if_pos k2]
      have hr : (if ¬ ((0 ≤ kd ∧ kd ≤ 5) ∧ (0 ≤ w ∧ w < Wy)) then n else if kd = 0 then v0 else if kd = 1 then v1 else if kd = 2 then v2 else if kd = 3 then v3 else if kd = 4 then v4 else v5) = v2 := by rw [if_neg nk, if_neg k0, if_neg k1, if_pos k2]
      exact hl.trans hr.symm
    by_cases k3 : kd = 3
    · have nk : ¬ ¬ ((0 ≤ kd ∧ kd ≤ 5) ∧ (0 ≤ w ∧ w < Wy)) := fun h => h ⟨by omega, hw⟩
      have hl : (if ¬ (0 ≤ w ∧ w < Wy) then n else if kd = 0 then v0 else if kd = 1 then v1 else if kd = 2 then v2 else if kd = 3 then v3 else if kd = 4 then v4 else if kd = 5 then v5 else n) = v3 := by rw [if_neg nw, if_neg k0, if_neg k1, if_neg k2, if_pos k3]
      have hr : (if ¬ ((0 ≤ kd ∧ kd ≤ 5) ∧ (0 ≤ w ∧ w < Wy)) then n else if kd = 0 then v0 else if kd = 1 then v1 else if kd = 2 then v2 else if kd = 3 then v3 else if kd = 4 then v4 else v5) = v3 := by rw [if_neg nk, if_neg k0, if_neg k1, if_neg k2, if_pos k3]
      exact hl.trans hr.symm
    by_cases k4 : kd = 4
    · have nk : ¬ ¬ ((0 ≤ kd ∧ kd ≤ 5) ∧ (0 ≤ w ∧ w < Wy)) := fun h => h ⟨by omega, hw⟩
      have hl : (if ¬ (0 ≤ w ∧ w < Wy) then n else if kd = 0 then v0 else if kd = 1 then v1 else if kd = 2 then v2 else if kd = 3 then v3 else if kd = 4 then v4 else if kd = 5 then v5 else n) = v4 := by rw [if_neg nw, if_neg k0, if_neg k1, if_neg k2, if_neg k3, if_pos k4]
      have hr : (if ¬ ((0 ≤ kd ∧ kd ≤ 5) ∧ (0 ≤ w ∧ w < Wy)) then n else if kd = 0 then v0 else if kd = 1 then v1 else if kd = 2 then v2 else if kd = 3 then v3 else if kd = 4 then v4 else v5) = v4 := by rw [if_neg nk, if_neg k0, if_neg k1, if_neg k2, if_neg k3, if_pos k4]
      exact hl.trans hr.symm
    by_cases k5 : kd = 5
    · have nk : ¬ ¬ ((0 ≤ kd ∧ kd ≤ 5) ∧ (0 ≤ w ∧ w < Wy)) := fun h => h ⟨by omega, hw⟩
      have hl : (if ¬ (0 ≤ w ∧ w < Wy) then n else if kd = 0 then v0 else if kd = 1 then v1 else if kd = 2 then v2 else if kd = 3 then v3 else if kd = 4 then v4 else if kd = 5 then v5 else n) = v5 := by rw [if_neg nw, if_neg k0, if_neg k1, if_neg k2, if_neg k3, if_neg k4, if_pos k5]
      have hr : (if ¬ ((0 ≤ kd ∧ kd ≤ 5) ∧ (0 ≤ w ∧ w < Wy)) then n else if kd = 0 then v0 else if kd = 1 then v1 else if kd = 2 then v2 else if kd = 3 then v3 else if kd = 4 then v4 else v5) = v5 := by rw [if_neg nk, if_neg k0, if_neg k1, if_neg k2, if_neg k3, if_neg k4]
      exact hl.trans hr.symm
    have hl : (if ¬ (0 ≤ w ∧ w < Wy) then n else if kd = 0 then v0 else if kd = 1 then v1 else if kd = 2 then v2 else if kd = 3 then v3 else if kd = 4 then v4 else if kd = 5 then v5 else n) = n := by rw [if_neg nw, if_neg k0, if_neg k1, if_neg k2, if_neg k3, if_neg k4, if_neg k5]
    have hr : (if ¬ ((0 ≤ kd ∧ kd ≤ 5) ∧ (0 ≤ w ∧ w < Wy)) then n else if kd = 0 then v0 else if kd = 1 then v1 else if kd = 2 then v2 else if kd = 3 then v3 else if kd = 4 then v4 else v5) = n := by rw [if_pos (show ¬ ((0 ≤ kd ∧ kd ≤ 5) ∧ (0 ≤ w ∧ w < Wy)) by omega)]
    exact hl.trans hr.symm
  · have hl : (if ¬ (0 ≤ w ∧ w < Wy) then n else if kd = 0 then v0 else if kd = 1 then v1 else if kd = 2 then v2 else if kd = 3 then v3 else if kd = 4 then v4 else if kd = 5 then v5 else n) = n := by rw [if_pos hw]
    have hr : (if ¬ ((0 ≤ kd ∧ kd ≤ 5) ∧ (0 ≤ w ∧ w < Wy)) then n else if kd = 0 then v0 else if kd = 1 then v1 else if kd = 2 then v2 else if kd = 3 then v3 else if kd = 4 then v4 else v5) = n := by rw [if_pos (show ¬ ((0 ≤ kd ∧ kd ≤ 5) ∧ (0 ≤ w ∧ w < Wy)) from fun h => hw h.2)]
    exact hl.trans hr.symm
theorem tu_eq {a : Int} (h : a ≤ 9999) : (if a + 1 < 9999 then a + 1 else 9999) = (if a < 9999 then a + 1 else a) := by
  by_cases e : a < 9999
  · rw [if_pos e]
    split <;> omega
  · rw [if_neg e, if_neg (by omega)]
    omega
theorem knR_rng {sz : Int} (h : 0 ≤ sz ∧ sz ≤ 10) : 0 ≤ knR sz ∧ knR sz ≤ 10 := by
  unfold knR
  split <;> omega
theorem nx_rng {nx : Int} (h : 0 ≤ nx ∧ nx < 10) : (0 ≤ (if nx + 1 < 10 then nx + 1 else 0) ∧ (if nx + 1 < 10 then nx + 1 else 0) < 10) ∧ (0 ≤ (if 0 < nx then nx - 1 else 9) ∧ (if 0 < nx then nx - 1 else 9) < 10) := by
  constructor
  · by_cases e : nx + 1 < 10
    · rw [if_pos e]; omega
    · rw [if_neg e]; omega
  · by_cases e : 0 < nx
    · rw [if_pos e]; omega
    · rw [if_neg e]; omega
