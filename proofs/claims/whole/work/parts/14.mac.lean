/-! MATHEMATICS: odds -/
def zrN (j : Nat) : Nat → Nat
  | 0 => 0
  | k + 1 => zrN j k + (if j.testBit k = true then 0 else 1)
theorem zrN_le (j : Nat) : ∀ k, zrN j k ≤ k
  | 0 => Nat.le_refl _
  | k + 1 => by
    have h := zrN_le j k
    unfold zrN
    split <;> omega
theorem oaI_zr (S t home : Int) (j : Nat) : ∀ k, oaI S t home j k = wyI S t home (zrN j k)
  | 0 => rfl
  | k + 1 => by
    unfold oaI zrN
    rw [oaI_zr S t home j k]
    split
    · rfl
    · rfl
def cWn (n : Nat) (x : Int) (m : Nat) : Nat → Int
  | 0 => 0
  | j + 1 => cWn n x m j + (if zrN j n = m then owI x j n else 0)
def ssM (sel : Nat → Prop) [DecidablePred sel] (v : Nat → Int) : Nat → Int
  | 0 => 0
  | m + 1 => ssM sel v m + (if sel m then v m else 0)
theorem ssM_add (sel : Nat → Prop) [DecidablePred sel] (v : Nat → Int) (z : Nat) (y : Int) : ∀ M, ssM sel (fun m => v m + (if z = m then y else 0)) M = ssM sel v M + (if z < M ∧ sel z then y else 0)
  | 0 => by
    rw [if_neg (by omega)]
    rfl
  | M + 1 => by
    unfold ssM
    rw [ssM_add sel v z y M]
    by_cases e : z = M
    · subst e
      rw [if_neg (show ¬ (z < z ∧ sel z) by omega), if_pos rfl]
      by_cases h : sel z
      · rw [if_pos h, if_pos h, if_pos ⟨by omega, h⟩]
        omega
      · rw [if_neg h, if_neg h, if_neg (fun h2 => h h2.2)]
    · rw [if_neg e, Int.add_zero]
      by_cases h : z < M ∧ sel z
      · rw [if_pos h, if_pos (show z < M + 1 ∧ sel z from ⟨by omega, h.2⟩)]
        split <;> omega
      · rw [if_neg h, if_neg (show ¬ (z < M + 1 ∧ sel z) from fun h2 => h ⟨by omega, h2.2⟩)]
        split <;> omega
theorem oaS_ss (S t home x w : Int) (n : Nat) : ∀ j, oaS S t home x w n j = ssM (fun k => wyI S t home k = w) (fun m => cWn n x m j) (n + 1)
  | 0 => by
    have h : ∀ M, ssM (fun k => wyI S t home k = w) (fun m => cWn n x m 0) M = 0 := by
      intro M
      induction M with
      | zero => rfl
      | succ M ih =>
        unfold ssM
        rw [ih]
        split <;> rfl
    rw [h]
    rfl
  | j + 1 => by
    have h := ssM_add (fun k => wyI S t home k = w) (fun m => cWn n x m j) (zrN j n) (owI x j n) (n + 1)
    show oaS S t home x w n j + (if oaI S t home j n = w then owI x j n else 0) = ssM (fun k => wyI S t home k = w) (fun m => cWn n x m j + (if zrN j n = m then owI x j n else 0)) (n + 1)
    rw [h, oaS_ss S t home x w n j, oaI_zr]
    have hz := zrN_le j n
    by_cases e : wyI S t home (zrN j n) = w
    · rw [if_pos e, if_pos ⟨by omega, e⟩]
    · rw [if_neg e, if_neg (fun h2 => e h2.2)]
theorem cW_tab : ∀ n : Fin 7, ∀ x : Fin 11, ∀ m : Fin 7, m.val ≤ n.val → cWn n.val (x.val : Int) m.val (2 ^ n.val) = roN (n.val : Int) m.val * pwZ (10 - (x.val : Int)) m.val * pwZ (x.val : Int) (n.val - m.val) := by decide +kernel
theorem ch_ss (n x : Int) (sel : Nat → Prop) [DecidablePred sel] : ∀ M, chZ n x sel M = ssM sel (fun m => roN n m * pwZ (10 - x) m * pwZ x (n - (m : Int)).toNat) M
  | 0 => rfl
  | M + 1 => by
    unfold chZ ssM
    rw [ch_ss n x sel M]
    split
    · rfl
    · rw [Int.add_zero]
theorem ssM_cong (sel : Nat → Prop) [DecidablePred sel] {v u : Nat → Int} : ∀ M, (∀ m, m < M → v m = u m) → ssM sel v M = ssM sel u M
  | 0, _ => rfl
  | M + 1, h => by
    unfold ssM
    rw [ssM_cong sel M (fun m hm => h m (by omega)), h M (by omega)]
theorem odds_eq {S t home x w n : Int} (hx : 0 ≤ x ∧ x ≤ 10) (hn : 0 ≤ n ∧ n ≤ 6) : chZ n x (fun k => wyI S t home k = w) (n + 1).toNat = oaS S t home x w n.toNat (2 ^ n.toNat) := by
  obtain ⟨m, rfl⟩ := Int.eq_ofNat_of_zero_le hn.1
  obtain ⟨y, rfl⟩ := Int.eq_ofNat_of_zero_le hx.1
  rw [ch_ss, oaS_ss, Int.toNat_natCast, show ((m : Int) + 1).toNat = m + 1 by omega]
  refine ssM_cong _ _ (fun k hk => ?_)
  have h := cW_tab ⟨m, by omega⟩ ⟨y, by omega⟩ ⟨k, by omega⟩ (by show k ≤ m; omega)
  rw [show ((m : Int) - (k : Int)).toNat = m - k by omega]
  exact h.symm
