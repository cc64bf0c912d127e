/-! MATHEMATICS: finite tables, greatest and sum, byTurns -/
theorem shp {S C Wy : Int} (hB : (2 ≤ S ∧ S ≤ 6) ∧ (C = 1 ∧ Wy = S ∨ C = 2 ∧ Wy = 2 * S)) : ∃ s c : Nat, S = (s : Int) ∧ C = (c : Int) ∧ Wy = ((s * c : Nat) : Int) ∧ 2 ≤ s ∧ s ≤ 6 ∧ 1 ≤ c ∧ c ≤ 2 := by
  obtain ⟨s, rfl⟩ := Int.eq_ofNat_of_zero_le (show 0 ≤ S by omega)
  rcases hB.2 with ⟨h1, h2⟩ | ⟨h1, h2⟩
  · exact ⟨s, 1, rfl, by omega, by omega, by omega, by omega, by omega, by omega⟩
  · exact ⟨s, 2, rfl, by omega, by omega, by omega, by omega, by omega, by omega⟩
theorem tab_ag : ∀ s : Fin 7, ∀ c : Fin 3, ∀ t : Fin 12, 2 ≤ s.val → 1 ≤ c.val → t.val < s.val * c.val → ordZ (s.val : Int) (t.val : Int) = agZ (s.val : Int) (t.val : Int) (s.val * c.val) := by decide +kernel
theorem ord_ag {S C Wy t : Int} (hB : (2 ≤ S ∧ S ≤ 6) ∧ (C = 1 ∧ Wy = S ∨ C = 2 ∧ Wy = 2 * S)) (ht : 0 ≤ t ∧ t < Wy) : ordZ S t = agZ S t Wy.toNat := by
  obtain ⟨s, c, rfl, rfl, rfl, h1, h2, h3, h4⟩ := shp hB
  obtain ⟨k, rfl⟩ := Int.eq_ofNat_of_zero_le ht.1
  rw [Int.toNat_natCast]
  have hk : k < s * c := by omega
  have h12 : s * c ≤ 6 * 2 := Nat.mul_le_mul h2 h4
  exact tab_ag ⟨s, by omega⟩ ⟨c, by omega⟩ ⟨k, by omega⟩ h1 h3 hk
theorem tab_all : ∀ s : Fin 7, ∀ c : Fin 3, ∀ h : Fin 12, 2 ≤ s.val → 1 ≤ c.val → h.val < s.val * c.val → alC (s.val : Int) ((s.val * c.val : Nat) : Int) (s.val * c.val) = alM (s.val : Int) ((s.val * c.val : Nat) : Int) (h.val : Int) (s.val * c.val) := by decide +kernel
theorem all_eq {S C Wy h : Int} (hB : (2 ≤ S ∧ S ≤ 6) ∧ (C = 1 ∧ Wy = S ∨ C = 2 ∧ Wy = 2 * S)) (hh : 0 ≤ h ∧ h < Wy) : alC S Wy Wy.toNat = alM S Wy h Wy.toNat := by
  obtain ⟨s, c, rfl, rfl, rfl, h1, h2, h3, h4⟩ := shp hB
  obtain ⟨k, rfl⟩ := Int.eq_ofNat_of_zero_le hh.1
  rw [Int.toNat_natCast]
  have hk : k < s * c := by omega
  have h12 : s * c ≤ 6 * 2 := Nat.mul_le_mul h2 h4
  exact tab_all ⟨s, by omega⟩ ⟨c, by omega⟩ ⟨k, by omega⟩ h1 h3 hk
theorem tab_same : ∀ s : Fin 7, ∀ c : Fin 3, 2 ≤ s.val → 1 ≤ c.val → saO (s.val : Int) ((s.val * c.val : Nat) : Int) (s.val * c.val) = smO (s.val : Int) ((s.val * c.val : Nat) : Int) (s.val * c.val) := by decide +kernel
theorem same_eq {S C Wy : Int} (hB : (2 ≤ S ∧ S ≤ 6) ∧ (C = 1 ∧ Wy = S ∨ C = 2 ∧ Wy = 2 * S)) : saO S Wy Wy.toNat = smO S Wy Wy.toNat := by
  obtain ⟨s, c, rfl, rfl, rfl, h1, h2, h3, h4⟩ := shp hB
  rw [Int.toNat_natCast]
  exact tab_same ⟨s, by omega⟩ ⟨c, by omega⟩ h1 h3
theorem gr_tail {f : Int → Int} {a : Nat} (h0 : ∀ i : Int, 0 ≤ i → i < 12 → 0 ≤ f i) (hz : ∀ i : Int, (a : Int) ≤ i → i < 12 → f i = 0) (ha : a ≤ 12) : ∀ k : Nat, a + k ≤ 12 → grZ f (a + k) = grZ f a
  | 0, _ => rfl
  | k + 1, hk => by
    show (if grZ f (a + k) < f ((a + k : Nat) : Int) then f ((a + k : Nat) : Int) else grZ f (a + k)) = _
    rw [hz ((a + k : Nat) : Int) (by omega) (by omega), gr_tail h0 hz ha k (by omega)]
    have hn : 0 ≤ grZ f a := by
      cases a with
      | zero => exact Int.le_refl _
      | succ b =>
        have h1 := grZ_ge (f := f) (b + 1) 0 (by omega) (by omega)
        have h2 := h0 0 (by omega) (by omega)
        omega
    rw [if_neg (by omega)]
theorem gr12 {f : Int → Int} {Wy : Int} (hW : 0 ≤ Wy ∧ Wy ≤ 12) (h0 : ∀ i : Int, 0 ≤ i → i < 12 → 0 ≤ f i) (hz : ∀ i : Int, Wy ≤ i → i < 12 → f i = 0) : grZ f 12 = grZ f Wy.toNat := by
  have h := gr_tail (a := Wy.toNat) h0 (fun i h1 h2 => hz i (by omega) h2) (by omega) (12 - Wy.toNat) (by omega)
  rw [show Wy.toNat + (12 - Wy.toNat) = 12 by omega] at h
  exact h
theorem sm_tail {f : Int → Int} {a : Nat} (hz : ∀ i : Int, (a : Int) ≤ i → i < 12 → f i = 0) : ∀ k : Nat, a + k ≤ 12 → smZ f (a + k) = smZ f a
  | 0, _ => rfl
  | k + 1, hk => by
    show smZ f (a + k) + f ((a + k : Nat) : Int) = _
    rw [hz ((a + k : Nat) : Int) (by omega) (by omega), sm_tail hz k (by omega), Int.add_zero]
theorem sm12 {f : Int → Int} {Wy : Int} (hW : 0 ≤ Wy ∧ Wy ≤ 12) (hz : ∀ i : Int, Wy ≤ i → i < 12 → f i = 0) : smZ f 12 = smZ f Wy.toNat := by
  have h := sm_tail (a := Wy.toNat) (fun i h1 h2 => hz i (by omega) h2) (12 - Wy.toNat) (by omega)
  rw [show Wy.toNat + (12 - Wy.toNat) = 12 by omega] at h
  exact h
/-! byTurns: upwards, the first kept; downwards, the last one kept -/
def upL (q : Int → Prop) [DecidablePred q] : List Int → Int × Int → Int × Int
  | [], s => s
  | x :: xs, s => upL q xs (if q x then (s.1 + 1, if s.1 = 0 then x else s.2) else s)
def dnL (q : Int → Prop) [DecidablePred q] : List Int → Int × Int → Int × Int
  | [], s => s
  | x :: xs, s => if q x then ((dnL q xs s).1 + 1, x) else dnL q xs s
theorem dnL_nn (q : Int → Prop) [DecidablePred q] (b : Int) : ∀ xs : List Int, 0 ≤ (dnL q xs (0, b)).1 ∧ ((dnL q xs (0, b)).1 = 0 → (dnL q xs (0, b)).2 = b)
  | [] => ⟨Int.le_refl _, fun _ => rfl⟩
  | x :: xs => by
    have h := dnL_nn q b xs
    unfold dnL
    split
    · exact ⟨by show 0 ≤ (dnL q xs (0, b)).1 + 1; omega, fun h2 => by have h3 : (dnL q xs (0, b)).1 + 1 = 0 := h2; omega⟩
    · exact h
theorem up_dn (q : Int → Prop) [DecidablePred q] (b : Int) : ∀ (xs : List Int) (n f : Int), 0 ≤ n → upL q xs (n, f) = (n + (dnL q xs (0, b)).1, if n = 0 then (if (dnL q xs (0, b)).1 = 0 then f else (dnL q xs (0, b)).2) else f)
  | [], n, f, _ => by
    show (n, f) = (n + 0, if n = 0 then (if (0 : Int) = 0 then f else b) else f)
    rw [Int.add_zero, if_pos rfl]
    split <;> rfl
  | x :: xs, n, f, hn => by
    have hd := dnL_nn q b xs
    unfold upL dnL
    by_cases h : q x
    · rw [if_pos h, if_pos h, up_dn q b xs _ _ (by show 0 ≤ n + 1; omega)]
      have h1 : ¬ n + 1 = 0 := by omega
      have h2 : ¬ (dnL q xs (0, b)).1 + 1 = 0 := by omega
      show (n + 1 + (dnL q xs (0, b)).1, if n + 1 = 0 then _ else (if n = 0 then x else f)) = (n + ((dnL q xs (0, b)).1 + 1), if n = 0 then (if (dnL q xs (0, b)).1 + 1 = 0 then f else x) else f)
      rw [if_neg h1, if_neg h2, show n + 1 + (dnL q xs (0, b)).1 = n + ((dnL q xs (0, b)).1 + 1) by omega]
    · rw [if_neg h, if_neg h, up_dn q b xs n f hn]
theorem upL_app (q : Int → Prop) [DecidablePred q] : ∀ (xs ys : List Int) (s : Int × Int), upL q (xs ++ ys) s = upL q ys (upL q xs s)
  | [], _, _ => rfl
  | x :: xs, ys, s => upL_app q xs ys _
theorem dnL_app (q : Int → Prop) [DecidablePred q] : ∀ (xs ys : List Int) (s : Int × Int), dnL q (xs ++ ys) s = dnL q xs (dnL q ys s)
  | [], _, _ => rfl
  | x :: xs, ys, s => by
    show (if q x then ((dnL q (xs ++ ys) s).1 + 1, x) else dnL q (xs ++ ys) s) = _
    rw [dnL_app q xs ys s]
    rfl
/-- the pairs (a, b), b from 0 up to k -/
def rwA (a : Int) : Nat → List Int
  | 0 => []
  | k + 1 => rwA a k ++ [100 * a + (k : Int)]
def rwO (W : Nat) : Nat → List Int
  | 0 => []
  | k + 1 => rwO W k ++ rwA (k : Int) W
def btQ (S Wy home : Int) (x : Int) : Prop := ¬ x / 100 = x % 100 ∧ thruS S (x / 100) (x % 100) home (2 * Wy).toNat = fullN Wy
theorem btQ_at {S Wy home a b : Int} (hb : 0 ≤ b ∧ b < 100) : btQ S Wy home (100 * a + b) ↔ (¬ a = b ∧ thruS S a b home (2 * Wy).toNat = fullN Wy) := by
  unfold btQ
  rw [show (100 * a + b) / 100 = a by omega, show (100 * a + b) % 100 = b by omega]
theorem btI_up (S Wy home : Int) [DecidablePred (btQ S Wy home)] (a : Int) (s : Int × Int) : ∀ k : Nat, k ≤ 100 → btI S Wy home a k s = upL (btQ S Wy home) (rwA a k) s
  | 0, _ => rfl
  | k + 1, hk => by
    rw [rwA, upL_app, ← btI_up S Wy home a s k (by omega)]
    show (if _ then _ else _) = (if btQ S Wy home (100 * a + (k : Int)) then _ else _)
    by_cases h : btQ S Wy home (100 * a + (k : Int))
    · rw [if_pos h, if_pos ((btQ_at (by omega)).mp h)]
    · rw [if_neg h, if_neg (fun h2 => h ((btQ_at (by omega)).mpr h2))]
theorem btO_up (S Wy home : Int) [DecidablePred (btQ S Wy home)] (hW : Wy ≤ 100) : ∀ k : Nat, btO S Wy home k = upL (btQ S Wy home) (rwO Wy.toNat k) (0, -9)
  | 0 => rfl
  | k + 1 => by
    rw [rwO, upL_app, ← btO_up S Wy home hW k, ← btI_up S Wy home _ _ _ (by omega)]
    rfl
/-- the pairs (a, b), the last k of b -/
def rdA (Wy a : Int) : Nat → List Int
  | 0 => []
  | k + 1 => (100 * a + (Wy - 1 - (k : Int))) :: rdA Wy a k
def rdO (Wy : Int) : Nat → List Int
  | 0 => []
  | k + 1 => rdA Wy (Wy - 1 - (k : Int)) Wy.toNat ++ rdO Wy k
theorem bmI_dn (S Wy home : Int) [DecidablePred (btQ S Wy home)] (a : Int) (s : Int × Int) : ∀ k : Nat, (k : Int) ≤ Wy → Wy ≤ 100 → bmI S Wy home a k s = dnL (btQ S Wy home) (rdA Wy a k) s
  | 0, _, _ => rfl
  | k + 1, hk, hW => by
    rw [rdA, dnL, ← bmI_dn S Wy home a s k (by omega) hW]
    show (if _ then _ else _) = _
    by_cases h : btQ S Wy home (100 * a + (Wy - 1 - (k : Int)))
    · rw [if_pos h, if_pos ((btQ_at (by omega)).mp h)]
    · rw [if_neg h, if_neg (fun h2 => h ((btQ_at (by omega)).mpr h2))]
theorem bmO_dn (S Wy home : Int) [DecidablePred (btQ S Wy home)] (h0 : 0 ≤ Wy) (hW : Wy ≤ 100) : ∀ k : Nat, bmO S Wy home k = dnL (btQ S Wy home) (rdO Wy k) (0, -9)
  | 0 => rfl
  | k + 1 => by
    rw [rdO, dnL_app, ← bmO_dn S Wy home h0 hW k, ← bmI_dn S Wy home _ _ _ (by omega) hW]
    rfl
theorem rdA_rwA (Wy a : Int) (h0 : 0 ≤ Wy) : ∀ k : Nat, (k : Int) ≤ Wy → rwA a (Wy.toNat - k) ++ rdA Wy a k = rwA a Wy.toNat
  | 0, _ => by
    rw [Nat.sub_zero, rdA, List.append_nil]
  | k + 1, hk => by
    rw [← rdA_rwA Wy a h0 k (by omega), rdA, show Wy.toNat - k = (Wy.toNat - (k + 1)) + 1 by omega, rwA, List.append_assoc, List.singleton_append, show (((Wy.toNat - (k + 1) : Nat)) : Int) = Wy - 1 - (k : Int) by omega]
theorem rdO_rwO (Wy : Int) (h0 : 0 ≤ Wy) : ∀ k : Nat, (k : Int) ≤ Wy → rwO Wy.toNat (Wy.toNat - k) ++ rdO Wy k = rwO Wy.toNat Wy.toNat
  | 0, _ => by
    rw [Nat.sub_zero, rdO, List.append_nil]
  | k + 1, hk => by
    have h := rdA_rwA Wy (Wy - 1 - (k : Int)) h0 Wy.toNat (by omega)
    rw [Nat.sub_self] at h
    rw [← rdO_rwO Wy h0 k (by omega), rdO, show Wy.toNat - k = (Wy.toNat - (k + 1)) + 1 by omega, rwO, List.append_assoc, show (((Wy.toNat - (k + 1) : Nat)) : Int) = Wy - 1 - (k : Int) by omega, ← h]
    rfl
theorem by_eq {S Wy home : Int} (h0 : 0 ≤ Wy) (hW : Wy ≤ 100) : btO S Wy home Wy.toNat = bmO S Wy home Wy.toNat := by
  have dec : DecidablePred (btQ S Wy home) := fun x => by unfold btQ; exact inferInstance
  have h := rdO_rwO Wy h0 Wy.toNat (by omega)
  rw [Nat.sub_self] at h
  have h2 : rdO Wy Wy.toNat = rwO Wy.toNat Wy.toNat := h
  have hd := dnL_nn (btQ S Wy home) (-9) (rwO Wy.toNat Wy.toNat)
  rw [btO_up S Wy home hW, bmO_dn S Wy home h0 hW, h2, up_dn (btQ S Wy home) (-9) _ 0 (-9) (Int.le_refl _), Int.zero_add, if_pos rfl]
  by_cases e : (dnL (btQ S Wy home) (rwO Wy.toNat Wy.toNat) (0, -9)).1 = 0
  · rw [if_pos e]
    exact Prod.ext rfl (hd.2 e).symm
  · rw [if_neg e]
