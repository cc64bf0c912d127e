/-! MATHEMATICS: the state that both have -/
def stO (Wy : Int) (g : Int → Int) : Prop := (0 ≤ g 1 ∧ g 1 < Wy) ∧ (0 ≤ g 0 ∧ g 0 ≤ 999) ∧ (0 ≤ g 2 ∧ g 2 ≤ 9999) ∧ (∀ i : Int, 0 ≤ i → i < 12 → 0 ≤ g (3 + i) ∧ g (3 + i) ≤ 107) ∧ (∀ i : Int, Wy ≤ i → i < 12 → g (3 + i) = 0)
theorem stO_cong {Wy : Int} {g h : Int → Int} (hW : 0 ≤ Wy) (he : ∀ j : Int, 0 ≤ j → j < 15 → h j = g j) (hg : stO Wy g) : stO Wy h := by
  obtain ⟨h1, h2, h3, h4, h5⟩ := hg
  refine ⟨by rw [he 1 (by omega) (by omega)]; exact h1, by rw [he 0 (by omega) (by omega)]; exact h2, by rw [he 2 (by omega) (by omega)]; exact h3, fun i h6 h7 => ?_, fun i h6 h7 => ?_⟩
  · rw [he (3 + i) (by omega) (by omega)]
    exact h4 i h6 h7
  · rw [he (3 + i) (by omega) (by omega)]
    exact h5 i h6 h7
def rgI (nx sz k : Int) : Int := (nx - sz + k) % 10
def paR (Wy nx sz : Int) (wf rw rs rt : Int → Int) (rf : Int → Int → Int) : Prop := ∀ k : Int, 0 ≤ k → k < sz → stO Wy (fun j => wf (15 * k + j)) ∧ rs (rgI nx sz k) = wf (15 * k) ∧ rw (rgI nx sz k) = wf (15 * k + 1) ∧ rt (rgI nx sz k) = wf (15 * k + 2) ∧ ∀ i : Int, 0 ≤ i → i < 12 → rf (rgI nx sz k) i = wf (15 * k + 3 + i)
theorem knR_eq {sz : Int} (h : 0 ≤ sz ∧ sz ≤ 10) : (if sz + 1 < 10 then sz + 1 else 10) = knR sz := by
  unfold knR
  (repeat' split) <;> omega
theorem wfR_new {sz : Int} {wf sf : Int → Int} (h : 0 ≤ sz ∧ sz ≤ 10) {j : Int} (hj : 0 ≤ j ∧ j < 15) : wfR sz wf sf (15 * (knR sz - 1) + j) = sf j := by
  unfold wfR knR
  by_cases e : sz = 10
  · rw [if_pos e, if_pos e]
    unfold cpK
    rw [if_pos (by omega)]
    congr 1
    omega
  · rw [if_neg e, if_neg e]
    unfold cpK
    rw [if_pos (by omega)]
    congr 1
    omega
theorem wfR_old {sz : Int} {wf sf : Int → Int} (h : 0 ≤ sz ∧ sz ≤ 10) {k j : Int} (hk : 0 ≤ k ∧ k < knR sz - 1) (hj : 0 ≤ j ∧ j < 15) : wfR sz wf sf (15 * k + j) = wf (15 * (if sz = 10 then k + 1 else k) + j) := by
  unfold knR at hk
  unfold wfR
  by_cases e : sz = 10
  · rw [if_pos e] at hk
    rw [if_pos e, if_pos e]
    unfold cpK
    rw [if_neg (by omega)]
    unfold shW
    rw [if_pos (by omega)]
    congr 1
    omega
  · rw [if_neg e] at hk
    rw [if_neg e, if_neg e]
    unfold cpK
    rw [if_neg (by omega)]
theorem pa_rem {Wy nx sz : Int} {wf rw rs rt sf : Int → Int} {rf : Int → Int → Int} (hW : 0 ≤ Wy) (hnx : 0 ≤ nx ∧ nx < 10) (hsz : 0 ≤ sz ∧ sz ≤ 10) (hs : stO Wy sf) (hpa : paR Wy nx sz wf rw rs rt rf) : paR Wy (if nx + 1 < 10 then nx + 1 else 0) (knR sz) (wfR sz wf sf) (uZ rw nx (sf 1)) (uZ rs nx (sf 0)) (uZ rt nx (sf 2)) (uF rf nx (fun i => sf (3 + i))) := by
  have hn2 : ∃ n2 : Int, (if nx + 1 < 10 then nx + 1 else 0) = n2 ∧ n2 % 10 = (nx + 1) % 10 := by
    by_cases e : nx + 1 < 10
    · exact ⟨nx + 1, by rw [if_pos e], rfl⟩
    · exact ⟨0, by rw [if_neg e], by omega⟩
  obtain ⟨n2, hn2, hn3⟩ := hn2
  rw [hn2]
  have hkr : 1 ≤ knR sz ∧ knR sz ≤ 10 := by unfold knR; split <;> omega
  intro k h1 h2
  by_cases e : k = knR sz - 1
  · have er : rgI n2 (knR sz) k = nx := by unfold rgI; omega
    have hw : ∀ j : Int, 0 ≤ j → j < 15 → wfR sz wf sf (15 * k + j) = sf j := fun j h3 h4 => by rw [e]; exact wfR_new hsz ⟨h3, h4⟩
    rw [er]
    refine ⟨stO_cong hW hw hs, ?_, ?_, ?_, fun i h3 h4 => ?_⟩
    · rw [uZ_same]
      have := hw 0 (by omega) (by omega)
      rw [Int.add_zero] at this
      exact this.symm
    · rw [uZ_same]
      exact (hw 1 (by omega) (by omega)).symm
    · rw [uZ_same]
      exact (hw 2 (by omega) (by omega)).symm
    · show (uF rf nx (fun i => sf (3 + i))) nx i = _
      unfold uF
      rw [if_pos rfl, show 15 * k + 3 + i = 15 * k + (3 + i) by omega]
      exact (hw (3 + i) (by omega) (by omega)).symm
  · have hk : 0 ≤ k ∧ k < knR sz - 1 := by omega
    obtain ⟨k2, hk2, hk3⟩ : ∃ k2 : Int, (if sz = 10 then k + 1 else k) = k2 ∧ (0 ≤ k2 ∧ k2 < sz ∧ rgI nx sz k2 = rgI n2 (knR sz) k ∧ ¬ rgI nx sz k2 = nx) := by
      unfold knR at hk
      unfold rgI knR
      by_cases es : sz = 10
      · rw [if_pos es] at hk ⊢
        exact ⟨k + 1, rfl, by omega⟩
      · rw [if_neg es] at hk ⊢
        exact ⟨k, rfl, by omega⟩
    have hw : ∀ j : Int, 0 ≤ j → j < 15 → wfR sz wf sf (15 * k + j) = wf (15 * k2 + j) := fun j h3 h4 => by rw [wfR_old hsz hk ⟨h3, h4⟩, hk2]
    obtain ⟨q1, q2, q3, q4, q5⟩ := hpa k2 hk3.1 hk3.2.1
    rw [← hk3.2.2.1]
    refine ⟨stO_cong hW hw q1, ?_, ?_, ?_, fun i h3 h4 => ?_⟩
    · rw [uZ_ne _ _ hk3.2.2.2, q2]
      have := hw 0 (by omega) (by omega)
      rw [Int.add_zero, Int.add_zero] at this
      exact this.symm
    · rw [uZ_ne _ _ hk3.2.2.2, q3]
      exact (hw 1 (by omega) (by omega)).symm
    · rw [uZ_ne _ _ hk3.2.2.2, q4]
      exact (hw 2 (by omega) (by omega)).symm
    · unfold uF
      rw [if_neg hk3.2.2.2, q5 i h3 h4, show 15 * k + 3 + i = 15 * k + (3 + i) by omega, hw (3 + i) (by omega) (by omega), show 15 * k2 + 3 + i = 15 * k2 + (3 + i) by omega]
theorem pa_undo {Wy nx sz : Int} {wf rw rs rt sf : Int → Int} {rf : Int → Int → Int} (hW : 0 ≤ Wy) (hnx : 0 ≤ nx ∧ nx < 10) (hsz : 0 ≤ sz ∧ sz ≤ 10) (h0 : ¬ sz = 0) (hpa : paR Wy nx sz wf rw rs rt rf) : paR Wy (if 0 < nx then nx - 1 else 9) (sz - 1) wf rw rs rt rf ∧ stO Wy (cpK sf 0 wf (15 * (sz - 1)) 15) ∧ rs (if 0 < nx then nx - 1 else 9) = cpK sf 0 wf (15 * (sz - 1)) 15 0 ∧ rw (if 0 < nx then nx - 1 else 9) = cpK sf 0 wf (15 * (sz - 1)) 15 1 ∧ rt (if 0 < nx then nx - 1 else 9) = cpK sf 0 wf (15 * (sz - 1)) 15 2 ∧ ∀ i : Int, 0 ≤ i → i < 12 → rf (if 0 < nx then nx - 1 else 9) i = cpK sf 0 wf (15 * (sz - 1)) 15 (3 + i) := by
  obtain ⟨n2, hn2, hn3, hn4⟩ : ∃ n2 : Int, (if 0 < nx then nx - 1 else 9) = n2 ∧ n2 % 10 = (nx - 1) % 10 ∧ (0 ≤ n2 ∧ n2 < 10) := by
    by_cases e : 0 < nx
    · exact ⟨nx - 1, by rw [if_pos e], rfl, by omega⟩
    · exact ⟨9, by rw [if_neg e], by omega, by omega⟩
  rw [hn2]
  have hw : ∀ j : Int, 0 ≤ j → j < 15 → cpK sf 0 wf (15 * (sz - 1)) 15 j = wf (15 * (sz - 1) + j) := fun j h1 h2 => by
    unfold cpK
    rw [if_pos (by omega)]
    congr 1
    omega
  have er : rgI nx sz (sz - 1) = n2 := by unfold rgI; omega
  obtain ⟨q1, q2, q3, q4, q5⟩ := hpa (sz - 1) (by omega) (by omega)
  rw [er] at q2 q3 q4 q5
  refine ⟨fun k h1 h2 => ?_, stO_cong hW hw q1, ?_, ?_, ?_, fun i h1 h2 => ?_⟩
  · have e2 : rgI n2 (sz - 1) k = rgI nx sz k := by unfold rgI; omega
    rw [e2]
    exact hpa k h1 (by omega)
  · rw [hw 0 (by omega) (by omega), Int.add_zero]
    exact q2
  · rw [hw 1 (by omega) (by omega)]
    exact q3
  · rw [hw 2 (by omega) (by omega)]
    exact q4
  · rw [hw (3 + i) (by omega) (by omega), q5 i h1 h2]
    congr 1
    omega
theorem seas_ans {Li g se a : Int} (h0 : se ≤ 999) (ha : a ≤ 900) : (if (Li ≤ g ∨ 999 ≤ se) then (-2 : Int) else (if a < 999 then a else 999)) = (if (Li ≤ g ∨ se = 999) then (-2 : Int) else (if 999 < a then 999 else a)) := by
  by_cases e : Li ≤ g ∨ se = 999
  · rw [if_pos e, if_pos (by omega)]
  · rw [if_neg e, if_neg (by omega), if_pos (by omega), if_neg (by omega)]
theorem round_ans {P Q R : Prop} [Decidable P] [Decidable Q] [Decidable R] {a b c : Int} (h : Q → R) : (if ¬ P then a else if ¬ (R ∧ Q) then b else c) = (if ¬ P then a else if ¬ Q then b else c) := by
  by_cases e : P
  · have n1 : ¬ ¬ P := fun h2 => h2 e
    rw [if_neg n1, if_neg n1]
    by_cases e2 : Q
    · rw [if_neg (show ¬ ¬ (R ∧ Q) from fun h2 => h2 ⟨h e2, e2⟩), if_neg (show ¬ ¬ Q from fun h2 => h2 e2)]
    · rw [if_pos (show ¬ (R ∧ Q) from fun h2 => e2 h2.2), if_pos e2]
  · rw [if_pos e, if_pos e]
/-- a season goes by -/
theorem stO_season {Wy : Int} {sf ld : Int → Int} (hW : Wy ≤ 12) (hs : stO Wy sf) (hld : ∀ i : Int, 0 ≤ i → i < 12 → 1 ≤ ld i ∧ ld i ≤ 9) (h98 : sf (3 + sf 1) ≤ 98) (h9 : sf 0 < 999) {g : Int → Int} (hg : ∀ j : Int, 0 ≤ j → j < 15 → g j = uZ (uZ sf (3 + sf 1) (sf (3 + sf 1) + ld (sf 1))) 0 (sf 0 + 1) j) : stO Wy g := by
  obtain ⟨h1, h2, h3, h4, h5⟩ := hs
  have hl := hld (sf 1) (by omega) (by omega)
  refine ⟨?_, ?_, ?_, fun i h6 h7 => ?_, fun i h6 h7 => ?_⟩
  · rw [hg 1 (by omega) (by omega), uZ_ne _ _ (by omega), uZ_ne _ _ (by omega)]
    exact h1
  · rw [hg 0 (by omega) (by omega), uZ_same]
    omega
  · rw [hg 2 (by omega) (by omega), uZ_ne _ _ (by omega), uZ_ne _ _ (by omega)]
    exact h3
  · rw [hg (3 + i) (by omega) (by omega), uZ_ne _ _ (by omega)]
    have := h4 i h6 h7
    have := h4 (sf 1) (by omega) (by omega)
    unfold uZ
    split <;> omega
  · rw [hg (3 + i) (by omega) (by omega), uZ_ne _ _ (by omega), uZ_ne _ _ (by omega)]
    exact h5 i h6 h7
theorem stO_makes {S C Wy t v : Int} {sf : Int → Int} (hB : (2 ≤ S ∧ S ≤ 6) ∧ (C = 1 ∧ Wy = S ∨ C = 2 ∧ Wy = 2 * S)) (ht : 0 ≤ t ∧ t < Wy) (hs : stO Wy sf) (hv : 0 ≤ v ∧ v ≤ 9999) : stO Wy (uZ (uZ sf 1 (fromZ S (sf 1) t)) 2 v) := by
  obtain ⟨h1, h2, h3, h4, h5⟩ := hs
  have hf := fromZ_rng hB h1 ht
  refine ⟨?_, ?_, ?_, fun i h6 h7 => ?_, fun i h6 h7 => ?_⟩
  · rw [uZ_ne _ _ (by omega), uZ_same]
    exact hf
  · rw [uZ_ne _ _ (by omega), uZ_ne _ _ (by omega)]
    exact h2
  · rw [uZ_same]
    exact hv
  · rw [uZ_ne _ _ (by omega), uZ_ne _ _ (by omega)]
    exact h4 i h6 h7
  · rw [uZ_ne _ _ (by omega), uZ_ne _ _ (by omega)]
    exact h5 i h6 h7
theorem stO_stuffs {Wy w : Int} {sf : Int → Int} (hw : 0 ≤ w) (hs : stO Wy sf) : stO Wy (uZ sf (3 + w) 0) := by
  obtain ⟨h1, h2, h3, h4, h5⟩ := hs
  refine ⟨?_, ?_, ?_, fun i h6 h7 => ?_, fun i h6 h7 => ?_⟩
  · rw [uZ_ne _ _ (by omega)]
    exact h1
  · rw [uZ_ne _ _ (by omega)]
    exact h2
  · rw [uZ_ne _ _ (by omega)]
    exact h3
  · have := h4 i h6 h7
    unfold uZ
    split <;> omega
  · have := h5 i h6 h7
    unfold uZ
    split <;> omega
theorem stO_new {Wy B : Int} (hB : 0 ≤ B ∧ B < Wy) {g : Int → Int} (hg : ∀ j : Int, 0 ≤ j → j < 15 → g j = if j = 1 then B else 0) : stO Wy g := by
  refine ⟨?_, ?_, ?_, fun i h6 h7 => ?_, fun i h6 h7 => ?_⟩
  · rw [hg 1 (by omega) (by omega), if_pos rfl]
    exact hB
  · rw [hg 0 (by omega) (by omega), if_neg (by omega)]
    omega
  · rw [hg 2 (by omega) (by omega), if_neg (by omega)]
    omega
  · rw [hg (3 + i) (by omega) (by omega), if_neg (by omega)]
    omega
  · rw [hg (3 + i) (by omega) (by omega), if_neg (by omega)]
