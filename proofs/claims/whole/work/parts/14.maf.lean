/-! MATHEMATICS: plan -/
theorem gr_le {f : Int → Int} {b : Int} (hb : 0 ≤ b) : ∀ k : Nat, (∀ i : Int, 0 ≤ i → i < k → f i ≤ b) → grZ f k ≤ b
  | 0, _ => hb
  | k + 1, h => by
    have h1 := gr_le hb k (fun i h1 h2 => h i h1 (by omega))
    have h2 := h k (by omega) (by omega)
    unfold grZ
    split <;> omega
theorem rm_step {f ld : Int → Int} {v w : Int} (hw : 0 ≤ w) (hl : 0 < ld w) : ∀ k : Nat, rmZ v (uZ f w (f w + ld w)) ld k = rmZ v f ld k - (if w < (k : Int) then 1 else 0)
  | 0 => by
    rw [if_neg (by omega)]
    rfl
  | k + 1 => by
    unfold rmZ
    rw [rm_step hw hl k]
    by_cases e : (k : Int) = w
    · rw [e, uZ_same, if_neg (by omega), if_pos (by omega), show v - (f w + ld w) = v - f w + (-1) * ld w by omega, Int.add_mul_ediv_right _ _ (by omega)]
      omega
    · rw [uZ_ne _ _ e]
      by_cases h : w < (k : Int)
      · rw [if_pos h, if_pos (by omega)]
        omega
      · rw [if_neg h, if_neg (by omega)]
        omega
theorem rm_nn {f ld : Int → Int} {v : Int} : ∀ k : Nat, (∀ i : Int, 0 ≤ i → i < k → f i ≤ v ∧ 0 < ld i) → 0 ≤ rmZ v f ld k
  | 0, _ => Int.le_refl _
  | k + 1, h => by
    have h1 := rm_nn k (fun i h1 h2 => h i h1 (by omega))
    have h2 := h k (by omega) (by omega)
    have h3 := Int.ediv_nonneg (show 0 ≤ v - f (k : Int) by omega) (show 0 ≤ ld (k : Int) by omega)
    unfold rmZ
    omega
theorem rm_pos {f ld : Int → Int} {v : Int} : ∀ k : Nat, (∀ i : Int, 0 ≤ i → i < k → f i ≤ v ∧ 0 < ld i) → 1 ≤ rmZ v f ld k → ∃ w : Int, 0 ≤ w ∧ w < (k : Int) ∧ f w + ld w ≤ v
  | 0, _, h => by
    have h : (1 : Int) ≤ 0 := h
    omega
  | k + 1, h, hr => by
    have h2 := h k (by omega) (by omega)
    by_cases e : f (k : Int) + ld (k : Int) ≤ v
    · exact ⟨(k : Int), by omega, by omega, e⟩
    · have h3 : (v - f (k : Int)) / ld (k : Int) = 0 := Int.ediv_eq_zero_of_lt (by omega) (by omega)
      unfold rmZ at hr
      obtain ⟨w, h4, h5, h6⟩ := rm_pos k (fun i h1 h2 => h i h1 (by omega)) (by omega)
      exact ⟨w, h4, by omega, h6⟩
theorem rm_big {f ld : Int → Int} {v : Int} : ∀ k : Nat, 1 ≤ k → (∀ i : Int, 0 ≤ i → i < k → f i + 36 ≤ v ∧ 1 ≤ ld i ∧ ld i ≤ 9) → 4 ≤ rmZ v f ld k
  | 0, h, _ => by omega
  | k + 1, hk, h => by
    have h2 := h k (by omega) (by omega)
    have h3 : 4 ≤ (v - f (k : Int)) / ld (k : Int) := by
      rw [Int.le_ediv_iff_mul_le (by omega)]
      omega
    have h1 := rm_nn (f := f) (ld := ld) (v := v) k (fun i h1 h2 => by have := h i h1 (by omega); omega)
    unfold rmZ
    omega
theorem lgG_spec {wn ld : Int → Int} {W : Nat} {n hi : Int} : ∀ (k : Nat) (x : Int), x ≤ hi → hi - x ≤ (k : Int) → (x ≤ lgG wn ld W n hi k x ∧ lgG wn ld W n hi k x ≤ hi) ∧ (∀ y : Int, x ≤ y → y < lgG wn ld W n hi k x → rmZ y wn ld W < n) ∧ (lgG wn ld W n hi k x < hi → n ≤ rmZ (lgG wn ld W n hi k x) wn ld W)
  | 0, x, h1, h2 => by
    show (x ≤ x ∧ x ≤ hi) ∧ (∀ y : Int, x ≤ y → y < x → rmZ y wn ld W < n) ∧ (x < hi → n ≤ rmZ x wn ld W)
    exact ⟨by omega, fun y h3 h4 => by omega, fun h3 => by omega⟩
  | k + 1, x, h1, h2 => by
    unfold lgG
    by_cases e : x < hi ∧ rmZ x wn ld W < n
    · rw [if_pos e]
      obtain ⟨h3, h4, h5⟩ := lgG_spec (wn := wn) (ld := ld) (W := W) (n := n) (hi := hi) k (x + 1) (by omega) (by omega)
      refine ⟨by omega, fun y h6 h7 => ?_, h5⟩
      by_cases ey : y = x
      · rw [ey]; exact e.2
      · exact h4 y (by omega) h7
    · rw [if_neg e]
      refine ⟨by omega, fun y h3 h4 => by omega, fun h3 => ?_⟩
      rcases (show rmZ x wn ld W < n ∨ n ≤ rmZ x wn ld W by omega) with h4 | h4
      · exact absurd ⟨h3, h4⟩ e
      · exact h4
/-- the least mark that leaves room -/
theorem lg_spec {S C Wy n : Int} {wn ld : Int → Int} (hB : (2 ≤ S ∧ S ≤ 6) ∧ (C = 1 ∧ Wy = S ∨ C = 2 ∧ Wy = 2 * S)) (hld : ∀ i : Int, 0 ≤ i → i < 12 → 1 ≤ ld i ∧ ld i ≤ 9) (hn : 1 ≤ n ∧ n ≤ 4) : grZ wn 12 ≤ lgZ wn ld Wy.toNat n ∧ (∀ y : Int, grZ wn 12 ≤ y → y < lgZ wn ld Wy.toNat n → rmZ y wn ld Wy.toNat < n) ∧ n ≤ rmZ (lgZ wn ld Wy.toNat n) wn ld Wy.toNat := by
  obtain ⟨h1, h2, h3⟩ := lgG_spec (wn := wn) (ld := ld) (W := Wy.toNat) (n := n) (hi := grZ wn 12 + 36) 36 (grZ wn 12) (by omega) (by omega)
  unfold lgZ
  refine ⟨h1.1, h2, ?_⟩
  rcases (show lgG wn ld Wy.toNat n (grZ wn 12 + 36) 36 (grZ wn 12) < grZ wn 12 + 36 ∨ lgG wn ld Wy.toNat n (grZ wn 12 + 36) 36 (grZ wn 12) = grZ wn 12 + 36 by omega) with h4 | h4
  · exact h3 h4
  · rw [h4]
    have h5 := rm_big (f := wn) (ld := ld) (v := grZ wn 12 + 36) Wy.toNat (by omega) (fun i h6 h7 => ⟨by have := grZ_ge (f := wn) 12 i h6 (by omega); omega, hld i h6 (by omega)⟩)
    omega
theorem plF_rm {S C Wy home v : Int} {r ld wn : Int → Int} {n : Nat} (hB : (2 ≤ S ∧ S ≤ 6) ∧ (C = 1 ∧ Wy = S ∨ C = 2 ∧ Wy = 2 * S)) (hh : 0 ≤ home ∧ home < Wy) (hr : ∀ i : Int, 0 ≤ i → i < n → 0 ≤ r i ∧ r i < Wy) (hld : ∀ i : Int, 0 ≤ i → i < 12 → 1 ≤ ld i ∧ ld i ≤ 9) : ∀ k : Nat, k ≤ n → rmZ v (plF S home r ld wn k) ld Wy.toNat = rmZ v wn ld Wy.toNat - (k : Int)
  | 0, _ => by
    show rmZ v wn ld Wy.toNat = _
    omega
  | k + 1, hk => by
    have hw := plw_rng hB hh hr (k + 1) hk
    have h := plF_rm (v := v) (wn := wn) hB hh hr hld k (by omega)
    have h2 := rm_step (f := plF S home r ld wn k) (ld := ld) (v := v) (w := plw S home r (k + 1)) hw.1 (by have := hld _ hw.1 (by omega); omega) Wy.toNat
    rw [if_pos (by omega), h] at h2
    show rmZ v (uZ (plF S home r ld wn k) (plw S home r (k + 1)) (plF S home r ld wn k (plw S home r (k + 1)) + ld (plw S home r (k + 1)))) ld Wy.toNat = _
    rw [h2]
    omega
theorem plF_up {S C Wy home : Int} {r ld wn : Int → Int} {n : Nat} (hB : (2 ≤ S ∧ S ≤ 6) ∧ (C = 1 ∧ Wy = S ∨ C = 2 ∧ Wy = 2 * S)) (hh : 0 ≤ home ∧ home < Wy) (hr : ∀ i : Int, 0 ≤ i → i < n → 0 ≤ r i ∧ r i < Wy) (hld : ∀ i : Int, 0 ≤ i → i < 12 → 1 ≤ ld i ∧ ld i ≤ 9) (i : Nat) (w : Int) : ∀ k : Nat, i + k ≤ n → plF S home r ld wn i w ≤ plF S home r ld wn (i + k) w
  | 0, _ => Int.le_refl _
  | k + 1, hk => by
    have hw := plw_rng hB hh hr (i + k + 1) (by omega)
    have h := plF_up (wn := wn) hB hh hr hld i w k (by omega)
    have hl := hld _ hw.1 (show plw S home r (i + k + 1) < 12 by omega)
    show _ ≤ uZ (plF S home r ld wn (i + k)) (plw S home r (i + k + 1)) (plF S home r ld wn (i + k) (plw S home r (i + k + 1)) + ld (plw S home r (i + k + 1))) w
    unfold uZ
    split
    · rename_i e
      rw [← e] at hl ⊢
      omega
    · exact h
/-- no row does better than the mark -/
theorem pl_low {S C Wy home n : Int} {r ld wn : Int → Int} (hB : (2 ≤ S ∧ S ≤ 6) ∧ (C = 1 ∧ Wy = S ∨ C = 2 ∧ Wy = 2 * S)) (hh : 0 ≤ home ∧ home < Wy) (hn : 1 ≤ n ∧ n ≤ 4) (hr : ∀ i : Int, 0 ≤ i → i < n → 0 ≤ r i ∧ r i < Wy) (hld : ∀ i : Int, 0 ≤ i → i < 12 → 1 ≤ ld i ∧ ld i ≤ 9) (hwn : ∀ i : Int, 0 ≤ i → i < 12 → 0 ≤ wn i) (hz : ∀ i : Int, Wy ≤ i → i < 12 → wn i = 0) : lgZ wn ld Wy.toNat n ≤ grZ (plF S home r ld wn n.toNat) Wy.toNat := by
  obtain ⟨h1, h2, h3⟩ := lg_spec (wn := wn) hB hld hn
  have hr2 : ∀ i : Int, 0 ≤ i → i < ((n.toNat : Nat) : Int) → 0 ≤ r i ∧ r i < Wy := fun i h4 h5 => hr i h4 (by omega)
  have hg := gr12 (f := wn) (Wy := Wy) (by omega) hwn hz
  have hge : ∀ w : Int, 0 ≤ w → w < (Wy.toNat : Int) → plF S home r ld wn n.toNat w ≤ grZ (plF S home r ld wn n.toNat) Wy.toNat := fun w h4 h5 => grZ_ge (f := plF S home r ld wn n.toNat) Wy.toNat w h4 h5
  generalize hv : grZ (plF S home r ld wn n.toNat) Wy.toNat = v at hge ⊢
  have hrm := plF_rm (v := v) (wn := wn) hB hh hr2 hld n.toNat (Nat.le_refl _)
  have hnn := rm_nn (f := plF S home r ld wn n.toNat) (ld := ld) (v := v) Wy.toNat (fun i h4 h5 => ⟨hge i h4 h5, by have := hld i h4 (by omega); omega⟩)
  have hvg : grZ wn 12 ≤ v := by
    rw [hg]
    have h0 := plF_up (wn := wn) hB hh hr2 hld 0
    refine gr_le ?_ _ (fun i h4 h5 => ?_)
    · have h6 := hge 0 (by omega) (by omega)
      have h7 := h0 0 n.toNat (by omega)
      rw [Nat.zero_add] at h7
      have h7 : wn 0 ≤ plF S home r ld wn n.toNat 0 := h7
      have h8 := hwn 0 (by omega) (by omega)
      omega
    · have h6 := hge i h4 h5
      have h7 := h0 i n.toNat (by omega)
      rw [Nat.zero_add] at h7
      have h7 : wn i ≤ plF S home r ld wn n.toNat i := h7
      omega
  rcases (show lgZ wn ld Wy.toNat n ≤ v ∨ v < lgZ wn ld Wy.toNat n by omega) with h4 | h4
  · exact h4
  · have := h2 v hvg h4
    omega
theorem ftG_spec {S W : Int} {ld f : Int → Int} {mark way : Int} : ∀ (k : Nat) (t : Int), (∃ u : Int, t ≤ u ∧ u < t + (k : Int) ∧ f (fromZ S way u) + ld (fromZ S way u) ≤ mark) → (t ≤ ftG S W ld f mark way k t ∧ ftG S W ld f mark way k t < t + (k : Int)) ∧ f (fromZ S way (ftG S W ld f mark way k t)) + ld (fromZ S way (ftG S W ld f mark way k t)) ≤ mark ∧ ∀ u : Int, t ≤ u → u < ftG S W ld f mark way k t → ¬ f (fromZ S way u) + ld (fromZ S way u) ≤ mark
  | 0, t, ⟨u, h1, h2, _⟩ => by omega
  | k + 1, t, ⟨u, h1, h2, h3⟩ => by
    unfold ftG
    by_cases e : f (fromZ S way t) + ld (fromZ S way t) ≤ mark
    · rw [if_pos e]
      exact ⟨by omega, e, fun u h4 h5 => by omega⟩
    · rw [if_neg e]
      have hne : u ≠ t := fun h => e (by rw [← h]; exact h3)
      obtain ⟨h4, h5, h6⟩ := ftG_spec (S := S) (W := W) (ld := ld) (f := f) (mark := mark) (way := way) k (t + 1) ⟨u, by omega, by omega, h3⟩
      refine ⟨by omega, h5, fun x h7 h8 => ?_⟩
      by_cases ex : x = t
      · rw [ex]; exact e
      · exact h6 x (by omega) h8
theorem tab_tr : ∀ s : Fin 7, ∀ c : Fin 3, ∀ a : Fin 12, ∀ b : Fin 12, 2 ≤ s.val → 1 ≤ c.val → a.val < s.val * c.val → b.val < s.val * c.val → ∃ t : Fin 12, t.val < s.val * c.val ∧ fromZ (s.val : Int) (a.val : Int) (t.val : Int) = (b.val : Int) := by decide +kernel
theorem from_tr {S C Wy a b : Int} (hB : (2 ≤ S ∧ S ≤ 6) ∧ (C = 1 ∧ Wy = S ∨ C = 2 ∧ Wy = 2 * S)) (ha : 0 ≤ a ∧ a < Wy) (hb : 0 ≤ b ∧ b < Wy) : ∃ t : Int, 0 ≤ t ∧ t < Wy ∧ fromZ S a t = b := by
  obtain ⟨s, c, rfl, rfl, rfl, h1, h2, h3, h4⟩ := shp hB
  obtain ⟨k, rfl⟩ := Int.eq_ofNat_of_zero_le ha.1
  obtain ⟨j, rfl⟩ := Int.eq_ofNat_of_zero_le hb.1
  have h12 : s * c ≤ 6 * 2 := Nat.mul_le_mul h2 h4
  obtain ⟨t, h5, h6⟩ := tab_tr ⟨s, by omega⟩ ⟨c, by omega⟩ ⟨k, by omega⟩ ⟨j, by omega⟩ h1 h3 (by show k < s * c; omega) (by show j < s * c; omega)
  have h5 : t.val < s * c := h5
  exact ⟨(t.val : Int), by omega, by omega, h6⟩
/-- the class's row -/
def gR (S W : Int) (ld : Int → Int) (mark wy : Int) (wn : Int → Int) : Int → Int := fun j => (plS S W ld mark wy wn (j.toNat + 1)).2.2
theorem pl_greedy {S C Wy wy n : Int} {ld wn : Int → Int} (hB : (2 ≤ S ∧ S ≤ 6) ∧ (C = 1 ∧ Wy = S ∨ C = 2 ∧ Wy = 2 * S)) (hwy : 0 ≤ wy ∧ wy < Wy) (hn : 1 ≤ n ∧ n ≤ 4) (hld : ∀ i : Int, 0 ≤ i → i < 12 → 1 ≤ ld i ∧ ld i ≤ 9) : ∀ i : Nat, (i : Int) ≤ n →
    ((0 ≤ (plS S Wy ld (lgZ wn ld Wy.toNat n) wy wn i).1 ∧ (plS S Wy ld (lgZ wn ld Wy.toNat n) wy wn i).1 < Wy) ∧ (∀ w : Int, 0 ≤ w → w < Wy → (plS S Wy ld (lgZ wn ld Wy.toNat n) wy wn i).2.1 w ≤ lgZ wn ld Wy.toNat n) ∧ rmZ (lgZ wn ld Wy.toNat n) (plS S Wy ld (lgZ wn ld Wy.toNat n) wy wn i).2.1 ld Wy.toNat = rmZ (lgZ wn ld Wy.toNat n) wn ld Wy.toNat - (i : Int)) ∧
    ((i : Int) < n → (0 ≤ (plS S Wy ld (lgZ wn ld Wy.toNat n) wy wn (i + 1)).2.2 ∧ (plS S Wy ld (lgZ wn ld Wy.toNat n) wy wn (i + 1)).2.2 < Wy) ∧ (plS S Wy ld (lgZ wn ld Wy.toNat n) wy wn i).2.1 (fromZ S (plS S Wy ld (lgZ wn ld Wy.toNat n) wy wn i).1 (plS S Wy ld (lgZ wn ld Wy.toNat n) wy wn (i + 1)).2.2) + ld (fromZ S (plS S Wy ld (lgZ wn ld Wy.toNat n) wy wn i).1 (plS S Wy ld (lgZ wn ld Wy.toNat n) wy wn (i + 1)).2.2) ≤ lgZ wn ld Wy.toNat n ∧ ∀ u : Int, 0 ≤ u → u < (plS S Wy ld (lgZ wn ld Wy.toNat n) wy wn (i + 1)).2.2 → ¬ (plS S Wy ld (lgZ wn ld Wy.toNat n) wy wn i).2.1 (fromZ S (plS S Wy ld (lgZ wn ld Wy.toNat n) wy wn i).1 u) + ld (fromZ S (plS S Wy ld (lgZ wn ld Wy.toNat n) wy wn i).1 u) ≤ lgZ wn ld Wy.toNat n) := by
  obtain ⟨hg1, hg2, hg3⟩ := lg_spec (wn := wn) hB hld hn
  generalize lgZ wn ld Wy.toNat n = mark at hg1 hg3 ⊢
  intro i
  induction i with
  | zero =>
    intro hi
    have hA : (0 ≤ (plS S Wy ld mark wy wn 0).1 ∧ (plS S Wy ld mark wy wn 0).1 < Wy) ∧ (∀ w : Int, 0 ≤ w → w < Wy → (plS S Wy ld mark wy wn 0).2.1 w ≤ mark) ∧ rmZ mark (plS S Wy ld mark wy wn 0).2.1 ld Wy.toNat = rmZ mark wn ld Wy.toNat - ((0 : Nat) : Int) := by
      refine ⟨hwy, fun w h1 h2 => ?_, ?_⟩
      · have := grZ_ge (f := wn) 12 w h1 (by omega)
        show wn w ≤ mark
        omega
      · show rmZ mark wn ld Wy.toNat = _
        omega
    refine ⟨hA, fun hi2 => ?_⟩
    obtain ⟨h1, h2, h3⟩ := hA
    obtain ⟨w, h4, h5, h6⟩ := rm_pos (f := (plS S Wy ld mark wy wn 0).2.1) (ld := ld) (v := mark) Wy.toNat (fun i h7 h8 => ⟨h2 i h7 (by omega), by have := hld i h7 (by omega); omega⟩) (by omega)
    obtain ⟨t, h7, h8, h9⟩ := from_tr hB h1 (b := w) ⟨h4, by omega⟩
    have hs := ftG_spec (S := S) (W := Wy) (ld := ld) (f := (plS S Wy ld mark wy wn 0).2.1) (mark := mark) (way := (plS S Wy ld mark wy wn 0).1) Wy.toNat 0 ⟨t, h7, by omega, by rw [h9]; exact h6⟩
    exact ⟨⟨hs.1.1, by have h10 := hs.1.2; rw [Int.zero_add, Int.toNat_of_nonneg (by omega)] at h10; exact h10⟩, hs.2.1, hs.2.2⟩
  | succ i ih =>
    intro hi
    obtain ⟨⟨h1, h2, h3⟩, hq⟩ := ih (by omega)
    obtain ⟨hq1, hq2, hq3⟩ := hq (by omega)
    have hw := fromZ_rng hB h1 hq1
    have hA : (0 ≤ (plS S Wy ld mark wy wn (i + 1)).1 ∧ (plS S Wy ld mark wy wn (i + 1)).1 < Wy) ∧ (∀ w : Int, 0 ≤ w → w < Wy → (plS S Wy ld mark wy wn (i + 1)).2.1 w ≤ mark) ∧ rmZ mark (plS S Wy ld mark wy wn (i + 1)).2.1 ld Wy.toNat = rmZ mark wn ld Wy.toNat - ((i + 1 : Nat) : Int) := by
      have e1 : (plS S Wy ld mark wy wn (i + 1)).1 = fromZ S (plS S Wy ld mark wy wn i).1 (plS S Wy ld mark wy wn (i + 1)).2.2 := rfl
      have e2 : (plS S Wy ld mark wy wn (i + 1)).2.1 = uZ (plS S Wy ld mark wy wn i).2.1 (fromZ S (plS S Wy ld mark wy wn i).1 (plS S Wy ld mark wy wn (i + 1)).2.2) ((plS S Wy ld mark wy wn i).2.1 (fromZ S (plS S Wy ld mark wy wn i).1 (plS S Wy ld mark wy wn (i + 1)).2.2) + ld (fromZ S (plS S Wy ld mark wy wn i).1 (plS S Wy ld mark wy wn (i + 1)).2.2)) := rfl
      rw [e1, e2]
      refine ⟨hw, fun w h4 h5 => ?_, ?_⟩
      · unfold uZ
        split
        · exact hq2
        · exact h2 w h4 h5
      · rw [rm_step hw.1 (by have := hld _ hw.1 (by omega); omega), if_pos (by omega), h3]
        omega
    refine ⟨hA, fun hi2 => ?_⟩
    obtain ⟨h1, h2, h3⟩ := hA
    obtain ⟨w, h4, h5, h6⟩ := rm_pos (f := (plS S Wy ld mark wy wn (i + 1)).2.1) (ld := ld) (v := mark) Wy.toNat (fun i h7 h8 => ⟨h2 i h7 (by omega), by have := hld i h7 (by omega); omega⟩) (by omega)
    obtain ⟨t, h7, h8, h9⟩ := from_tr hB h1 (b := w) ⟨h4, by omega⟩
    have hs := ftG_spec (S := S) (W := Wy) (ld := ld) (f := (plS S Wy ld mark wy wn (i + 1)).2.1) (mark := mark) (way := (plS S Wy ld mark wy wn (i + 1)).1) Wy.toNat 0 ⟨t, h7, by omega, by rw [h9]; exact h6⟩
    exact ⟨⟨hs.1.1, by have h10 := hs.1.2; rw [Int.zero_add, Int.toNat_of_nonneg (by omega)] at h10; exact h10⟩, hs.2.1, hs.2.2⟩
theorem gR_st (S W : Int) (ld : Int → Int) (mark wy : Int) (wn : Int → Int) : ∀ i : Nat, plw S wy (gR S W ld mark wy wn) i = (plS S W ld mark wy wn i).1 ∧ plF S wy (gR S W ld mark wy wn) ld wn i = (plS S W ld mark wy wn i).2.1
  | 0 => ⟨rfl, rfl⟩
  | i + 1 => by
    obtain ⟨h1, h2⟩ := gR_st S W ld mark wy wn i
    have e0 : gR S W ld mark wy wn (i : Int) = (plS S W ld mark wy wn (i + 1)).2.2 := by
      unfold gR
      rw [Int.toNat_natCast]
    have e1 : plw S wy (gR S W ld mark wy wn) (i + 1) = (plS S W ld mark wy wn (i + 1)).1 := by
      show fromZ S (plw S wy (gR S W ld mark wy wn) i) (gR S W ld mark wy wn (i : Int)) = _
      rw [h1, e0]
      rfl
    refine ⟨e1, ?_⟩
    show uZ (plF S wy (gR S W ld mark wy wn) ld wn i) (plw S wy (gR S W ld mark wy wn) (i + 1)) _ = _
    rw [e1, h2]
    rfl
/-! codes of rows -/
def enc (W : Int) (r : Int → Int) : Nat → Int
  | 0 => 0
  | k + 1 => enc W r k * W + r (k : Int)
theorem enc_rng {W : Int} {r : Int → Int} (hW : 1 ≤ W) : ∀ k : Nat, (∀ i : Int, 0 ≤ i → i < k → 0 ≤ r i ∧ r i < W) → 0 ≤ enc W r k ∧ enc W r k < pwZ W k
  | 0, _ => by
    show (0 : Int) ≤ 0 ∧ (0 : Int) < 1
    omega
  | k + 1, h => by
    have h1 := enc_rng hW k (fun i h1 h2 => h i h1 (by omega))
    have h2 := h k (by omega) (by omega)
    unfold enc pwZ
    have h3 : (enc W r k + 1) * W ≤ pwZ W k * W := Int.mul_le_mul_of_nonneg_right (by omega) (by omega)
    have h4 : 0 ≤ enc W r k * W := Int.mul_nonneg h1.1 (by omega)
    rw [Int.add_mul, Int.one_mul] at h3
    omega
theorem enc_dgL {W : Int} {r : Int → Int} (hW : 1 ≤ W) {n : Nat} (h : ∀ i : Int, 0 ≤ i → i < n → 0 ≤ r i ∧ r i < W) : ∀ j : Nat, j ≤ n → dgL W (enc W r n) j = enc W r (n - j)
  | 0, _ => rfl
  | j + 1, hj => by
    unfold dgL
    rw [enc_dgL hW h j (by omega), show n - j = (n - (j + 1)) + 1 by omega]
    have h2 := h ((n - (j + 1) : Nat) : Int) (by omega) (by omega)
    show (enc W r (n - (j + 1)) * W + r ((n - (j + 1) : Nat) : Int)) / W = enc W r (n - (j + 1))
    rw [Int.add_comm, Int.add_mul_ediv_right _ _ (by omega), Int.ediv_eq_zero_of_lt h2.1 h2.2, Int.zero_add]
theorem enc_row {W n : Int} {r : Int → Int} (hW : 1 ≤ W) (hn : 0 ≤ n) (h : ∀ i : Int, 0 ≤ i → i < n → 0 ≤ r i ∧ r i < W) {j : Int} (hj : 0 ≤ j ∧ j < n) : rowD W n (enc W r n.toNat) j = r j := by
  unfold rowD
  rw [enc_dgL (n := n.toNat) hW (fun i h1 h2 => h i h1 (by omega)) _ (by omega), show n.toNat - (n - 1 - j).toNat = j.toNat + 1 by omega]
  show (enc W r j.toNat * W + r ((j.toNat : Nat) : Int)) % W = r j
  have h2 := h j hj.1 hj.2
  rw [Int.toNat_of_nonneg hj.1, Int.add_comm, Int.add_mul_emod_self_right, Int.emod_eq_of_lt h2.1 h2.2]
theorem dgL_lt {W : Int} (hW : 1 ≤ W) {x : Int} (hx : 0 ≤ x) (k : Nat) : ∀ j : Nat, x < pwZ W (k + j) → dgL W x j < pwZ W k
  | 0, h => h
  | j + 1, h => by
    have h1 : pwZ W (k + 1 + j) = pwZ W (k + (j + 1)) := by rw [show k + 1 + j = k + (j + 1) by omega]
    have h2 := dgL_lt hW hx (k + 1) j (by rw [h1]; exact h)
    unfold dgL
    exact Int.ediv_lt_of_lt_mul (by omega) h2
theorem dgL_mono {W : Int} (hW : 1 ≤ W) {x y : Int} (h : x ≤ y) : ∀ j : Nat, dgL W x j ≤ dgL W y j
  | 0 => h
  | j + 1 => Int.ediv_le_ediv (by omega) (dgL_mono hW h j)
theorem pre_eq {W n x y : Int} (hW : 1 ≤ W) (hn : 0 ≤ n) (hx : 0 ≤ x ∧ x < pwZ W n.toNat) (hy : 0 ≤ y ∧ y < pwZ W n.toNat) : ∀ q : Nat, (q : Int) ≤ n → (∀ j : Int, 0 ≤ j → j < q → rowD W n x j = rowD W n y j) → dgL W x (n.toNat - q) = dgL W y (n.toNat - q)
  | 0, _, _ => by
    have h1 := dgL_lt hW hx.1 0 n.toNat (by rw [Nat.zero_add]; exact hx.2)
    have h2 := dgL_lt hW hy.1 0 n.toNat (by rw [Nat.zero_add]; exact hy.2)
    have h3 := dgL_rng hW hx.1 n.toNat
    have h4 := dgL_rng hW hy.1 n.toNat
    have h1 : dgL W x n.toNat < 1 := h1
    have h2 : dgL W y n.toNat < 1 := h2
    rw [Nat.sub_zero]
    omega
  | q + 1, hq, h => by
    have ih := pre_eq hW hn hx hy q (by omega) (fun j h1 h2 => h j h1 (by omega))
    have hd := h (q : Int) (by omega) (by omega)
    unfold rowD at hd
    rw [show (n - 1 - (q : Int)).toNat = n.toNat - (q + 1) by omega] at hd
    rw [show n.toNat - q = n.toNat - (q + 1) + 1 by omega] at ih
    have e1 := Int.mul_ediv_add_emod (dgL W x (n.toNat - (q + 1))) W
    have e2 := Int.mul_ediv_add_emod (dgL W y (n.toNat - (q + 1))) W
    unfold dgL at ih
    rw [← e1, ← e2, hd]
    rw [show dgL W x (n.toNat - (q + 1)) / W = dgL W y (n.toNat - (q + 1)) / W from ih]

theorem row_rng {W n x : Int} (hW : 1 ≤ W) (j : Int) : 0 ≤ rowD W n x j ∧ rowD W n x j < W := mod_rng (by omega)
/-- the reference's row is the class's -/
theorem plan_eq {S C Wy wy n bc : Int} {ld wn : Int → Int} (hB : (2 ≤ S ∧ S ≤ 6) ∧ (C = 1 ∧ Wy = S ∨ C = 2 ∧ Wy = 2 * S)) (hwy : 0 ≤ wy ∧ wy < Wy) (hn : 1 ≤ n ∧ n ≤ 4) (hld : ∀ i : Int, 0 ≤ i → i < 12 → 1 ≤ ld i ∧ ld i ≤ 9) (hwn : ∀ i : Int, 0 ≤ i → i < 12 → 0 ≤ wn i) (hz : ∀ i : Int, Wy ≤ i → i < 12 → wn i = 0)
    (hb : 0 ≤ bc ∧ bc < pwZ Wy n.toNat) (hb1 : ∀ x : Int, 0 ≤ x → x < pwZ Wy n.toNat → plV S wy ld wn Wy n bc ≤ plV S wy ld wn Wy n x) (hb2 : ∀ x : Int, 0 ≤ x → x < bc → plV S wy ld wn Wy n bc < plV S wy ld wn Wy n x) :
    plV S wy ld wn Wy n bc = lgZ wn ld Wy.toNat n ∧ ∀ i : Nat, (i : Int) < n → rowD Wy n bc (i : Int) = (plS S Wy ld (lgZ wn ld Wy.toNat n) wy wn (i + 1)).2.2 := by
  have hgr := pl_greedy (wn := wn) hB hwy hn hld
  have hW : 1 ≤ Wy := by omega
  have hg0 := (lg_spec (wn := wn) hB hld hn).1
  have hmark0 : 0 ≤ lgZ wn ld Wy.toNat n := by
    have h1 := grZ_ge (f := wn) 12 0 (by omega) (by omega)
    have h2 := hwn 0 (by omega) (by omega)
    omega
  have hlow : ∀ x : Int, lgZ wn ld Wy.toNat n ≤ plV S wy ld wn Wy n x := fun x => pl_low (r := rowD Wy n x) hB hwy hn (fun i _ _ => row_rng hW i) hld hwn hz
  generalize lgZ wn ld Wy.toNat n = mark at hgr hg0 hmark0 hlow ⊢
  have hgR : ∀ i : Nat, gR S Wy ld mark wy wn (i : Int) = (plS S Wy ld mark wy wn (i + 1)).2.2 := fun i => by unfold gR; rw [Int.toNat_natCast]
  have hgr2 : ∀ i : Int, 0 ≤ i → i < n → 0 ≤ gR S Wy ld mark wy wn i ∧ gR S Wy ld mark wy wn i < Wy := fun i h1 h2 => by
    obtain ⟨k, rfl⟩ := Int.eq_ofNat_of_zero_le h1
    rw [hgR]
    exact ((hgr k (by omega)).2 h2).1
  have hgc := enc_rng (r := gR S Wy ld mark wy wn) hW n.toNat (fun i h1 h2 => hgr2 i h1 (by omega))
  have hgrow : ∀ j : Int, 0 ≤ j → j < n → rowD Wy n (enc Wy (gR S Wy ld mark wy wn) n.toNat) j = gR S Wy ld mark wy wn j := fun j h1 h2 => enc_row hW (by omega) hgr2 ⟨h1, h2⟩
  have hgV : plV S wy ld wn Wy n (enc Wy (gR S Wy ld mark wy wn) n.toNat) ≤ mark := by
    unfold plV
    rw [plF_cong (r2 := gR S Wy ld mark wy wn) n.toNat (fun i h1 h2 => hgrow i h1 (by omega)), (gR_st S Wy ld mark wy wn n.toNat).2]
    exact gr_le hmark0 _ (fun i h1 h2 => (hgr n.toNat (by omega)).1.2.1 i h1 (by omega))
  have hgV2 : plV S wy ld wn Wy n (enc Wy (gR S Wy ld mark wy wn) n.toNat) = mark := by
    have := hlow (enc Wy (gR S Wy ld mark wy wn) n.toNat)
    omega
  have hbV : plV S wy ld wn Wy n bc = mark := by
    have h1 := hb1 _ hgc.1 hgc.2
    have h2 := hlow bc
    omega
  refine ⟨hbV, fun i hi => ?_⟩
  rw [← hgR]
  -- the rows agree, turn by turn
  have key : ∀ q : Nat, (q : Int) ≤ n → ∀ j : Int, 0 ≤ j → j < q → rowD Wy n bc j = gR S Wy ld mark wy wn j := by
    intro q
    induction q with
    | zero => intro _ j h1 h2; omega
    | succ q ih =>
      intro hq j h1 h2
      have ih := ih (by omega)
      by_cases ej : j < (q : Int)
      · exact ih j h1 ej
      · have ej : j = (q : Int) := by omega
        subst ej
        obtain ⟨⟨g1, g2, g3⟩, gq⟩ := hgr q (by omega)
        obtain ⟨gq1, gq2, gq3⟩ := gq (by omega)
        have hst := gR_st S Wy ld mark wy wn q
        have hw := plw_cong (S := S) (home := wy) (r := rowD Wy n bc) (r2 := gR S Wy ld mark wy wn) q (fun i h3 h4 => ih i h3 h4)
        have hF := plF_cong (S := S) (home := wy) (r := rowD Wy n bc) (r2 := gR S Wy ld mark wy wn) (ld := ld) (wn := wn) q (fun i h3 h4 => ih i h3 h4)
        have hrr := row_rng (n := n) (x := bc) hW (q : Int)
        have hto := fromZ_rng hB g1 hrr
        -- the reference's turn keeps the mark
        have hgood : (plS S Wy ld mark wy wn q).2.1 (fromZ S (plS S Wy ld mark wy wn q).1 (rowD Wy n bc (q : Int))) + ld (fromZ S (plS S Wy ld mark wy wn q).1 (rowD Wy n bc (q : Int))) ≤ mark := by
          have h3 := plF_up (wn := wn) (n := n.toNat) hB hwy (r := rowD Wy n bc) (fun i _ _ => row_rng hW i) hld (q + 1) (plw S wy (rowD Wy n bc) (q + 1)) (n.toNat - (q + 1)) (by omega)
          rw [show q + 1 + (n.toNat - (q + 1)) = n.toNat by omega] at h3
          have hwr := plw_rng (n := n.toNat) hB hwy (r := rowD Wy n bc) (fun i _ _ => row_rng hW i) (q + 1) (by omega)
          have h4 := grZ_ge (f := plF S wy (rowD Wy n bc) ld wn n.toNat) Wy.toNat (plw S wy (rowD Wy n bc) (q + 1)) hwr.1 (by omega)
          have h5 : grZ (plF S wy (rowD Wy n bc) ld wn n.toNat) Wy.toNat = mark := hbV
          have h6 : plF S wy (rowD Wy n bc) ld wn (q + 1) (plw S wy (rowD Wy n bc) (q + 1)) = plF S wy (rowD Wy n bc) ld wn q (plw S wy (rowD Wy n bc) (q + 1)) + ld (plw S wy (rowD Wy n bc) (q + 1)) := uZ_same _ _ _
          have h7 : plw S wy (rowD Wy n bc) (q + 1) = fromZ S (plS S Wy ld mark wy wn q).1 (rowD Wy n bc (q : Int)) := by
            show fromZ S (plw S wy (rowD Wy n bc) q) (rowD Wy n bc (q : Int)) = _
            rw [hw, hst.1]
          rw [hF, hst.2] at h6
          rw [h7] at h3 h4 h6
          omega
        rw [hgR]
        rcases (show rowD Wy n bc (q : Int) < (plS S Wy ld mark wy wn (q + 1)).2.2 ∨ rowD Wy n bc (q : Int) = (plS S Wy ld mark wy wn (q + 1)).2.2 ∨ (plS S Wy ld mark wy wn (q + 1)).2.2 < rowD Wy n bc (q : Int) by omega) with h3 | h3 | h3
        · exact absurd hgood (gq3 _ hrr.1 h3)
        · exact h3
        · exfalso
          have hpre := pre_eq hW (show 0 ≤ n by omega) hb hgc q (by omega) (fun j h4 h5 => by rw [ih j h4 h5, hgrow j h4 (by omega)])
          have e1 := Int.mul_ediv_add_emod (dgL Wy bc (n.toNat - (q + 1))) Wy
          have e2 := Int.mul_ediv_add_emod (dgL Wy (enc Wy (gR S Wy ld mark wy wn) n.toNat) (n.toNat - (q + 1))) Wy
          rw [show n.toNat - q = n.toNat - (q + 1) + 1 by omega] at hpre
          have hpre : dgL Wy bc (n.toNat - (q + 1)) / Wy = dgL Wy (enc Wy (gR S Wy ld mark wy wn) n.toNat) (n.toNat - (q + 1)) / Wy := hpre
          have d1 : rowD Wy n bc (q : Int) = dgL Wy bc (n.toNat - (q + 1)) % Wy := by unfold rowD; rw [show (n - 1 - (q : Int)).toNat = n.toNat - (q + 1) by omega]
          have d2 : (plS S Wy ld mark wy wn (q + 1)).2.2 = dgL Wy (enc Wy (gR S Wy ld mark wy wn) n.toNat) (n.toNat - (q + 1)) % Wy := by
            rw [← hgR, ← hgrow (q : Int) (by omega) (by omega)]
            unfold rowD
            rw [show (n - 1 - (q : Int)).toNat = n.toNat - (q + 1) by omega]
          rw [hpre] at e1
          have hlt : dgL Wy (enc Wy (gR S Wy ld mark wy wn) n.toNat) (n.toNat - (q + 1)) < dgL Wy bc (n.toNat - (q + 1)) := by omega
          rcases (show bc ≤ enc Wy (gR S Wy ld mark wy wn) n.toNat ∨ enc Wy (gR S Wy ld mark wy wn) n.toNat < bc by omega) with h6 | h6
          · have := dgL_mono hW h6 (n.toNat - (q + 1))
            omega
          · have := hb2 _ hgc.1 h6
            omega
  exact key (i + 1) (by omega) (i : Int) (by omega) (by omega)
theorem hpok_of {S C Wy wy : Int} {ld wn : Int → Int} (hB : (2 ≤ S ∧ S ≤ 6) ∧ (C = 1 ∧ Wy = S ∨ C = 2 ∧ Wy = 2 * S)) (hwy : 0 ≤ wy ∧ wy < Wy) (hld : ∀ i : Int, 0 ≤ i → i < 12 → 1 ≤ ld i ∧ ld i ≤ 9) : ∀ n : Int, 1 ≤ n → n ≤ 4 → ∀ i : Nat, (i : Int) < n → 0 ≤ (plS S Wy ld (lgZ wn ld Wy.toNat n) wy wn (i + 1)).2.2 := fun n h1 h2 i hi => ((pl_greedy (wn := wn) hB hwy ⟨h1, h2⟩ hld i (by omega)).2 hi).1.1
