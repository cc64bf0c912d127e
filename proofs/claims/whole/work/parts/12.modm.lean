abbrev riP (f : Int → Int) (n po it lt bt sS sC sL sW : Int) (qf : Int → Int) (cu2 sa2 to2 nu2 wr2 sS2 sC2 sL2 sW2 : Int) (qf2 : Int → Int) : Prop := (itB f n (tkE f n po) (tkK f n po) it lt bt (sS * sC) = true → tokR f n (nxP f n po) cu2 sa2 to2 nu2 ∧ wr2 = 0 ∧ sS2 = (if tkK f n po = 115 then tkV f n (tkE f n po) else sS) ∧ sC2 = (if tkK f n po = 115 then tkV f n (tkE f n (tkE f n po)) else sC) ∧ sL2 = (if tkK f n po = 109 then tkV f n (tkE f n po) else sL) ∧ sW2 = (if tkK f n po = 98 then tkV f n (tkE f n po) else sW) ∧ qf2 = (if tkK f n po = 108 then uZ qf (tkV f n (tkE f n po)) (tkV f n (tkE f n (tkE f n po))) else qf)) ∧ (¬ itB f n (tkE f n po) (tkK f n po) it lt bt (sS * sC) = true → wr2 = 1 ∧ sa2 = ftI f n (tkE f n po) (tkK f n po) it lt bt (sS * sC) (tkS f n po) ∧ (0 ≤ to2 ∧ to2 ≤ 4))

theorem itB_no {f : Int → Int} {n be k it lt bt W : Int} (h : ¬ ((k = 115 ∧ it = 0) ∨ k = 108 ∨ (k = 109 ∧ lt = 0) ∨ (k = 98 ∧ bt = 0))) : ¬ itB f n be k it lt bt W = true ∧ ∀ pl, ftI f n be k it lt bt W pl = pl := by
  refine ⟨?_, fun pl => ?_⟩
  · unfold itB
    rw [decide_eq_true_eq]
    intro h2
    apply h
    rcases h2 with h2 | h2 | h2 | h2
    · exact Or.inl ⟨h2.1, h2.2.1⟩
    · exact Or.inr (Or.inl h2.1)
    · exact Or.inr (Or.inr (Or.inl ⟨h2.1, h2.2.1⟩))
    · exact Or.inr (Or.inr (Or.inr ⟨h2.1, h2.2.1⟩))
  · unfold ftI
    rw [if_neg (fun e => h (Or.inl e)), if_neg (fun e => h (Or.inr (Or.inl e))), if_neg (fun e => h (Or.inr (Or.inr (Or.inl e)))), if_neg (fun e => h (Or.inr (Or.inr (Or.inr e))))]
theorem no_of {to nu it sL sW lt bt k : Int} (hto : to = mtk k) (hnk : 0 ≤ k → nu = k) (hlt : (lt = 0 ∧ sL = 0) ∨ (lt = 1 ∧ 0 < sL)) (hbt : (bt = 0 ∧ sW < 0) ∨ (bt = 1 ∧ 0 ≤ sW)) (hit : 0 ≤ it) (h : ¬ to = 1 ∨ ((nu = 115 ∧ 0 < it) ∨ (nu = 109 ∧ 0 < sL) ∨ (nu = 98 ∧ 0 ≤ sW))) : ¬ ((k = 115 ∧ it = 0) ∨ k = 108 ∨ (k = 109 ∧ lt = 0) ∨ (k = 98 ∧ bt = 0)) := by
  intro h2
  have hk : k = 115 ∨ k = 108 ∨ k = 109 ∨ k = 98 := by
    rcases h2 with h2 | h2 | h2 | h2
    · exact Or.inl h2.1
    · exact Or.inr (Or.inl h2)
    · exact Or.inr (Or.inr (Or.inl h2.1))
    · exact Or.inr (Or.inr (Or.inr h2.1))
  have h3 := (mtk1 k).mpr hk
  have h4 := hnk (by omega)
  rcases h with h | h
  · omega
  · rw [h4] at h
    rcases h2 with h2 | h2 | h2 | h2 <;> omega

theorem itB_s {f : Int → Int} {n be it lt bt W : Int} (hc : it = 0) : (itB f n be 115 it lt bt W = true ↔ ((tkK f n be = -2 ∧ 2 ≤ tkV f n be ∧ tkV f n be ≤ 6) ∧ (tkK f n (tkE f n be) = -2 ∧ 1 ≤ tkV f n (tkE f n be) ∧ tkV f n (tkE f n be) ≤ 2) ∧ tkK f n (tkE f n (tkE f n be)) = 59)) ∧ ∀ pl, ftI f n be 115 it lt bt W pl = (if ¬ (tkK f n be = -2 ∧ 2 ≤ tkV f n be ∧ tkV f n be ≤ 6) then tkS f n be else (if ¬ (tkK f n (tkE f n be) = -2 ∧ 1 ≤ tkV f n (tkE f n be) ∧ tkV f n (tkE f n be) ≤ 2) then tkS f n (tkE f n be) else tkS f n (tkE f n (tkE f n be)))) := by
  refine ⟨?_, fun pl => ?_⟩
  · unfold itB
    rw [decide_eq_true_eq]
    constructor
    · rintro (h | h | h | h)
      · exact h.2.2
      · exact absurd h.1 (by decide)
      · exact absurd h.1 (by decide)
      · exact absurd h.1 (by decide)
    · intro h
      exact Or.inl ⟨rfl, hc, h⟩
  · unfold ftI
    rw [if_pos ⟨rfl, hc⟩]

theorem ri_s_b1 {f : Int → Int} {n po it lt bt sS sC sL sW : Int} {qf : Int → Int} {cu2 to2 nu2 sS2 sC2 sL2 sW2 : Int} {qf2 : Int → Int} (hk : tkK f n po = 115) (hc : it = 0) (hb : ¬ (tkK f n (tkE f n po) = -2 ∧ 2 ≤ tkV f n (tkE f n po) ∧ tkV f n (tkE f n po) ≤ 6)) (ht : 0 ≤ to2 ∧ to2 ≤ 4) : riP f n po it lt bt sS sC sL sW qf cu2 (tkS f n (tkE f n po)) to2 nu2 1 sS2 sC2 sL2 sW2 qf2 := by
  have hn : ¬ itB f n (tkE f n po) (tkK f n po) it lt bt (sS * sC) = true := by rw [hk, (itB_s (hc := hc) (f := f) (n := n) (be := (tkE f n po)) (it := it) (lt := lt) (bt := bt) (W := sS * sC)).1]; exact fun h => hb h.1
  refine ⟨fun h => absurd h hn, fun _ => ⟨rfl, ?_, ht⟩⟩
  rw [hk, (itB_s (hc := hc) (f := f) (n := n) (be := (tkE f n po)) (it := it) (lt := lt) (bt := bt) (W := sS * sC)).2, if_pos hb]

theorem ri_s_b2 {f : Int → Int} {n po it lt bt sS sC sL sW : Int} {qf : Int → Int} {cu2 to2 nu2 sS2 sC2 sL2 sW2 : Int} {qf2 : Int → Int} (hk : tkK f n po = 115) (hc : it = 0) (h0 : (tkK f n (tkE f n po) = -2 ∧ 2 ≤ tkV f n (tkE f n po) ∧ tkV f n (tkE f n po) ≤ 6)) (hb : ¬ (tkK f n (tkE f n (tkE f n po)) = -2 ∧ 1 ≤ tkV f n (tkE f n (tkE f n po)) ∧ tkV f n (tkE f n (tkE f n po)) ≤ 2)) (ht : 0 ≤ to2 ∧ to2 ≤ 4) : riP f n po it lt bt sS sC sL sW qf cu2 (tkS f n (tkE f n (tkE f n po))) to2 nu2 1 sS2 sC2 sL2 sW2 qf2 := by
  have hn : ¬ itB f n (tkE f n po) (tkK f n po) it lt bt (sS * sC) = true := by rw [hk, (itB_s (hc := hc) (f := f) (n := n) (be := (tkE f n po)) (it := it) (lt := lt) (bt := bt) (W := sS * sC)).1]; exact fun h => hb h.2.1
  refine ⟨fun h => absurd h hn, fun _ => ⟨rfl, ?_, ht⟩⟩
  rw [hk, (itB_s (hc := hc) (f := f) (n := n) (be := (tkE f n po)) (it := it) (lt := lt) (bt := bt) (W := sS * sC)).2, if_neg (fun e => e h0), if_pos hb]

theorem ri_s_b3 {f : Int → Int} {n po it lt bt sS sC sL sW : Int} {qf : Int → Int} {cu2 to2 nu2 sS2 sC2 sL2 sW2 : Int} {qf2 : Int → Int} (hk : tkK f n po = 115) (hc : it = 0) (h0 : (tkK f n (tkE f n po) = -2 ∧ 2 ≤ tkV f n (tkE f n po) ∧ tkV f n (tkE f n po) ≤ 6)) (h1 : (tkK f n (tkE f n (tkE f n po)) = -2 ∧ 1 ≤ tkV f n (tkE f n (tkE f n po)) ∧ tkV f n (tkE f n (tkE f n po)) ≤ 2)) (hb : ¬ tkK f n (tkE f n (tkE f n (tkE f n po))) = 59) (ht : 0 ≤ to2 ∧ to2 ≤ 4) : riP f n po it lt bt sS sC sL sW qf cu2 (tkS f n (tkE f n (tkE f n (tkE f n po)))) to2 nu2 1 sS2 sC2 sL2 sW2 qf2 := by
  have hn : ¬ itB f n (tkE f n po) (tkK f n po) it lt bt (sS * sC) = true := by rw [hk, (itB_s (hc := hc) (f := f) (n := n) (be := (tkE f n po)) (it := it) (lt := lt) (bt := bt) (W := sS * sC)).1]; exact fun h => hb h.2.2
  refine ⟨fun h => absurd h hn, fun _ => ⟨rfl, ?_, ht⟩⟩
  rw [hk, (itB_s (hc := hc) (f := f) (n := n) (be := (tkE f n po)) (it := it) (lt := lt) (bt := bt) (W := sS * sC)).2, if_neg (fun e => e h0), if_neg (fun e => e h1)]

theorem ri_s_ok {f : Int → Int} {n po it lt bt sS sC sL sW : Int} {qf : Int → Int} {nu2 : Int} (hk : tkK f n po = 115) (hc : it = 0) (h0 : (tkK f n (tkE f n po) = -2 ∧ 2 ≤ tkV f n (tkE f n po) ∧ tkV f n (tkE f n po) ≤ 6)) (h1 : (tkK f n (tkE f n (tkE f n po)) = -2 ∧ 1 ≤ tkV f n (tkE f n (tkE f n po)) ∧ tkV f n (tkE f n (tkE f n po)) ≤ 2)) (hl : tkK f n (tkE f n (tkE f n (tkE f n po))) = 59) (hu : tkK f n (tkE f n (tkE f n (tkE f n (tkE f n po)))) = -2 → nu2 = tkV f n (tkE f n (tkE f n (tkE f n (tkE f n po))))) (hkk : 0 ≤ tkK f n (tkE f n (tkE f n (tkE f n (tkE f n po)))) → nu2 = tkK f n (tkE f n (tkE f n (tkE f n (tkE f n po))))) (hr : 0 ≤ nu2 ∧ nu2 ≤ 999) : riP f n po it lt bt sS sC sL sW qf (tkE f n (tkE f n (tkE f n (tkE f n (tkE f n po))))) (tkS f n (tkE f n (tkE f n (tkE f n (tkE f n po))))) (mtk (tkK f n (tkE f n (tkE f n (tkE f n (tkE f n po)))))) nu2 0 (tkV f n (tkE f n po)) (tkV f n (tkE f n (tkE f n po))) sL sW qf := by
  have hi : itB f n (tkE f n po) (tkK f n po) it lt bt (sS * sC) = true := by rw [hk, (itB_s (hc := hc) (f := f) (n := n) (be := (tkE f n po)) (it := it) (lt := lt) (bt := bt) (W := sS * sC)).1]; exact ⟨h0, h1, hl⟩
  refine ⟨fun _ => ⟨?_, rfl, ?_, ?_, ?_, ?_, ?_⟩, fun h => absurd hi h⟩
  · unfold nxP
    rw [hk, if_pos (by decide)]
    exact ⟨rfl, rfl, rfl, hu, hkk, hr⟩
  · rw [hk, if_pos rfl]
  · rw [hk, if_pos rfl]
  · rw [hk, if_neg (by decide)]
  · rw [hk, if_neg (by decide)]
  · rw [hk, if_neg (by decide)]

theorem itB_l {f : Int → Int} {n be it lt bt W : Int} : (itB f n be 108 it lt bt W = true ↔ ((tkK f n be = -2 ∧ 0 ≤ tkV f n be ∧ tkV f n be ≤ W - 1) ∧ (tkK f n (tkE f n be) = -2 ∧ 1 ≤ tkV f n (tkE f n be) ∧ tkV f n (tkE f n be) ≤ 9) ∧ tkK f n (tkE f n (tkE f n be)) = 59)) ∧ ∀ pl, ftI f n be 108 it lt bt W pl = (if ¬ (tkK f n be = -2 ∧ 0 ≤ tkV f n be ∧ tkV f n be ≤ W - 1) then tkS f n be else (if ¬ (tkK f n (tkE f n be) = -2 ∧ 1 ≤ tkV f n (tkE f n be) ∧ tkV f n (tkE f n be) ≤ 9) then tkS f n (tkE f n be) else tkS f n (tkE f n (tkE f n be)))) := by
  refine ⟨?_, fun pl => ?_⟩
  · unfold itB
    rw [decide_eq_true_eq]
    constructor
    · rintro (h | h | h | h)
      · exact absurd h.1 (by decide)
      · exact h.2
      · exact absurd h.1 (by decide)
      · exact absurd h.1 (by decide)
    · intro h
      exact Or.inr (Or.inl ⟨rfl, h⟩)
  · unfold ftI
    rw [if_neg (fun e => absurd e.1 (by decide)), if_pos rfl]

theorem ri_l_b1 {f : Int → Int} {n po it lt bt sS sC sL sW : Int} {qf : Int → Int} {cu2 to2 nu2 sS2 sC2 sL2 sW2 : Int} {qf2 : Int → Int} (hk : tkK f n po = 108) (hb : ¬ (tkK f n (tkE f n po) = -2 ∧ 0 ≤ tkV f n (tkE f n po) ∧ tkV f n (tkE f n po) ≤ sS * sC - 1)) (ht : 0 ≤ to2 ∧ to2 ≤ 4) : riP f n po it lt bt sS sC sL sW qf cu2 (tkS f n (tkE f n po)) to2 nu2 1 sS2 sC2 sL2 sW2 qf2 := by
  have hn : ¬ itB f n (tkE f n po) (tkK f n po) it lt bt (sS * sC) = true := by rw [hk, (itB_l (f := f) (n := n) (be := (tkE f n po)) (it := it) (lt := lt) (bt := bt) (W := sS * sC)).1]; exact fun h => hb h.1
  refine ⟨fun h => absurd h hn, fun _ => ⟨rfl, ?_, ht⟩⟩
  rw [hk, (itB_l (f := f) (n := n) (be := (tkE f n po)) (it := it) (lt := lt) (bt := bt) (W := sS * sC)).2, if_pos hb]

theorem ri_l_b2 {f : Int → Int} {n po it lt bt sS sC sL sW : Int} {qf : Int → Int} {cu2 to2 nu2 sS2 sC2 sL2 sW2 : Int} {qf2 : Int → Int} (hk : tkK f n po = 108) (h0 : (tkK f n (tkE f n po) = -2 ∧ 0 ≤ tkV f n (tkE f n po) ∧ tkV f n (tkE f n po) ≤ sS * sC - 1)) (hb : ¬ (tkK f n (tkE f n (tkE f n po)) = -2 ∧ 1 ≤ tkV f n (tkE f n (tkE f n po)) ∧ tkV f n (tkE f n (tkE f n po)) ≤ 9)) (ht : 0 ≤ to2 ∧ to2 ≤ 4) : riP f n po it lt bt sS sC sL sW qf cu2 (tkS f n (tkE f n (tkE f n po))) to2 nu2 1 sS2 sC2 sL2 sW2 qf2 := by
  have hn : ¬ itB f n (tkE f n po) (tkK f n po) it lt bt (sS * sC) = true := by rw [hk, (itB_l (f := f) (n := n) (be := (tkE f n po)) (it := it) (lt := lt) (bt := bt) (W := sS * sC)).1]; exact fun h => hb h.2.1
  refine ⟨fun h => absurd h hn, fun _ => ⟨rfl, ?_, ht⟩⟩
  rw [hk, (itB_l (f := f) (n := n) (be := (tkE f n po)) (it := it) (lt := lt) (bt := bt) (W := sS * sC)).2, if_neg (fun e => e h0), if_pos hb]

theorem ri_l_b3 {f : Int → Int} {n po it lt bt sS sC sL sW : Int} {qf : Int → Int} {cu2 to2 nu2 sS2 sC2 sL2 sW2 : Int} {qf2 : Int → Int} (hk : tkK f n po = 108) (h0 : (tkK f n (tkE f n po) = -2 ∧ 0 ≤ tkV f n (tkE f n po) ∧ tkV f n (tkE f n po) ≤ sS * sC - 1)) (h1 : (tkK f n (tkE f n (tkE f n po)) = -2 ∧ 1 ≤ tkV f n (tkE f n (tkE f n po)) ∧ tkV f n (tkE f n (tkE f n po)) ≤ 9)) (hb : ¬ tkK f n (tkE f n (tkE f n (tkE f n po))) = 59) (ht : 0 ≤ to2 ∧ to2 ≤ 4) : riP f n po it lt bt sS sC sL sW qf cu2 (tkS f n (tkE f n (tkE f n (tkE f n po)))) to2 nu2 1 sS2 sC2 sL2 sW2 qf2 := by
  have hn : ¬ itB f n (tkE f n po) (tkK f n po) it lt bt (sS * sC) = true := by rw [hk, (itB_l (f := f) (n := n) (be := (tkE f n po)) (it := it) (lt := lt) (bt := bt) (W := sS * sC)).1]; exact fun h => hb h.2.2
  refine ⟨fun h => absurd h hn, fun _ => ⟨rfl, ?_, ht⟩⟩
  rw [hk, (itB_l (f := f) (n := n) (be := (tkE f n po)) (it := it) (lt := lt) (bt := bt) (W := sS * sC)).2, if_neg (fun e => e h0), if_neg (fun e => e h1)]

theorem ri_l_ok {f : Int → Int} {n po it lt bt sS sC sL sW : Int} {qf : Int → Int} {nu2 : Int} (hk : tkK f n po = 108) (h0 : (tkK f n (tkE f n po) = -2 ∧ 0 ≤ tkV f n (tkE f n po) ∧ tkV f n (tkE f n po) ≤ sS * sC - 1)) (h1 : (tkK f n (tkE f n (tkE f n po)) = -2 ∧ 1 ≤ tkV f n (tkE f n (tkE f n po)) ∧ tkV f n (tkE f n (tkE f n po)) ≤ 9)) (hl : tkK f n (tkE f n (tkE f n (tkE f n po))) = 59) (hu : tkK f n (tkE f n (tkE f n (tkE f n (tkE f n po)))) = -2 → nu2 = tkV f n (tkE f n (tkE f n (tkE f n (tkE f n po))))) (hkk : 0 ≤ tkK f n (tkE f n (tkE f n (tkE f n (tkE f n po)))) → nu2 = tkK f n (tkE f n (tkE f n (tkE f n (tkE f n po))))) (hr : 0 ≤ nu2 ∧ nu2 ≤ 999) : riP f n po it lt bt sS sC sL sW qf (tkE f n (tkE f n (tkE f n (tkE f n (tkE f n po))))) (tkS f n (tkE f n (tkE f n (tkE f n (tkE f n po))))) (mtk (tkK f n (tkE f n (tkE f n (tkE f n (tkE f n po)))))) nu2 0 sS sC sL sW (uZ qf (tkV f n (tkE f n po)) (tkV f n (tkE f n (tkE f n po)))) := by
  have hi : itB f n (tkE f n po) (tkK f n po) it lt bt (sS * sC) = true := by rw [hk, (itB_l (f := f) (n := n) (be := (tkE f n po)) (it := it) (lt := lt) (bt := bt) (W := sS * sC)).1]; exact ⟨h0, h1, hl⟩
  refine ⟨fun _ => ⟨?_, rfl, ?_, ?_, ?_, ?_, ?_⟩, fun h => absurd hi h⟩
  · unfold nxP
    rw [hk, if_pos (by decide)]
    exact ⟨rfl, rfl, rfl, hu, hkk, hr⟩
  · rw [hk, if_neg (by decide)]
  · rw [hk, if_neg (by decide)]
  · rw [hk, if_neg (by decide)]
  · rw [hk, if_neg (by decide)]
  · rw [hk, if_pos rfl]

theorem itB_m {f : Int → Int} {n be it lt bt W : Int} (hc : lt = 0) : (itB f n be 109 it lt bt W = true ↔ ((tkK f n be = -2 ∧ 5 ≤ tkV f n be ∧ tkV f n be ≤ 99) ∧ tkK f n (tkE f n be) = 59)) ∧ ∀ pl, ftI f n be 109 it lt bt W pl = (if ¬ (tkK f n be = -2 ∧ 5 ≤ tkV f n be ∧ tkV f n be ≤ 99) then tkS f n be else tkS f n (tkE f n be)) := by
  refine ⟨?_, fun pl => ?_⟩
  · unfold itB
    rw [decide_eq_true_eq]
    constructor
    · rintro (h | h | h | h)
      · exact absurd h.1 (by decide)
      · exact absurd h.1 (by decide)
      · exact h.2.2
      · exact absurd h.1 (by decide)
    · intro h
      exact Or.inr (Or.inr (Or.inl ⟨rfl, hc, h⟩))
  · unfold ftI
    rw [if_neg (fun e => absurd e.1 (by decide)), if_neg (by decide), if_pos ⟨rfl, hc⟩]

theorem ri_m_b1 {f : Int → Int} {n po it lt bt sS sC sL sW : Int} {qf : Int → Int} {cu2 to2 nu2 sS2 sC2 sL2 sW2 : Int} {qf2 : Int → Int} (hk : tkK f n po = 109) (hc : lt = 0) (hb : ¬ (tkK f n (tkE f n po) = -2 ∧ 5 ≤ tkV f n (tkE f n po) ∧ tkV f n (tkE f n po) ≤ 99)) (ht : 0 ≤ to2 ∧ to2 ≤ 4) : riP f n po it lt bt sS sC sL sW qf cu2 (tkS f n (tkE f n po)) to2 nu2 1 sS2 sC2 sL2 sW2 qf2 := by
  have hn : ¬ itB f n (tkE f n po) (tkK f n po) it lt bt (sS * sC) = true := by rw [hk, (itB_m (hc := hc) (f := f) (n := n) (be := (tkE f n po)) (it := it) (lt := lt) (bt := bt) (W := sS * sC)).1]; exact fun h => hb h.1
  refine ⟨fun h => absurd h hn, fun _ => ⟨rfl, ?_, ht⟩⟩
  rw [hk, (itB_m (hc := hc) (f := f) (n := n) (be := (tkE f n po)) (it := it) (lt := lt) (bt := bt) (W := sS * sC)).2, if_pos hb]

theorem ri_m_b2 {f : Int → Int} {n po it lt bt sS sC sL sW : Int} {qf : Int → Int} {cu2 to2 nu2 sS2 sC2 sL2 sW2 : Int} {qf2 : Int → Int} (hk : tkK f n po = 109) (hc : lt = 0) (h0 : (tkK f n (tkE f n po) = -2 ∧ 5 ≤ tkV f n (tkE f n po) ∧ tkV f n (tkE f n po) ≤ 99)) (hb : ¬ tkK f n (tkE f n (tkE f n po)) = 59) (ht : 0 ≤ to2 ∧ to2 ≤ 4) : riP f n po it lt bt sS sC sL sW qf cu2 (tkS f n (tkE f n (tkE f n po))) to2 nu2 1 sS2 sC2 sL2 sW2 qf2 := by
  have hn : ¬ itB f n (tkE f n po) (tkK f n po) it lt bt (sS * sC) = true := by rw [hk, (itB_m (hc := hc) (f := f) (n := n) (be := (tkE f n po)) (it := it) (lt := lt) (bt := bt) (W := sS * sC)).1]; exact fun h => hb h.2
  refine ⟨fun h => absurd h hn, fun _ => ⟨rfl, ?_, ht⟩⟩
  rw [hk, (itB_m (hc := hc) (f := f) (n := n) (be := (tkE f n po)) (it := it) (lt := lt) (bt := bt) (W := sS * sC)).2, if_neg (fun e => e h0)]

theorem ri_m_ok {f : Int → Int} {n po it lt bt sS sC sL sW : Int} {qf : Int → Int} {nu2 : Int} (hk : tkK f n po = 109) (hc : lt = 0) (h0 : (tkK f n (tkE f n po) = -2 ∧ 5 ≤ tkV f n (tkE f n po) ∧ tkV f n (tkE f n po) ≤ 99)) (hl : tkK f n (tkE f n (tkE f n po)) = 59) (hu : tkK f n (tkE f n (tkE f n (tkE f n po))) = -2 → nu2 = tkV f n (tkE f n (tkE f n (tkE f n po)))) (hkk : 0 ≤ tkK f n (tkE f n (tkE f n (tkE f n po))) → nu2 = tkK f n (tkE f n (tkE f n (tkE f n po)))) (hr : 0 ≤ nu2 ∧ nu2 ≤ 999) : riP f n po it lt bt sS sC sL sW qf (tkE f n (tkE f n (tkE f n (tkE f n po)))) (tkS f n (tkE f n (tkE f n (tkE f n po)))) (mtk (tkK f n (tkE f n (tkE f n (tkE f n po))))) nu2 0 sS sC (tkV f n (tkE f n po)) sW qf := by
  have hi : itB f n (tkE f n po) (tkK f n po) it lt bt (sS * sC) = true := by rw [hk, (itB_m (hc := hc) (f := f) (n := n) (be := (tkE f n po)) (it := it) (lt := lt) (bt := bt) (W := sS * sC)).1]; exact ⟨h0, hl⟩
  refine ⟨fun _ => ⟨?_, rfl, ?_, ?_, ?_, ?_, ?_⟩, fun h => absurd hi h⟩
  · unfold nxP
    rw [hk, if_neg (by decide)]
    exact ⟨rfl, rfl, rfl, hu, hkk, hr⟩
  · rw [hk, if_neg (by decide)]
  · rw [hk, if_neg (by decide)]
  · rw [hk, if_pos rfl]
  · rw [hk, if_neg (by decide)]
  · rw [hk, if_neg (by decide)]

theorem itB_b {f : Int → Int} {n be it lt bt W : Int} (hc : bt = 0) : (itB f n be 98 it lt bt W = true ↔ ((tkK f n be = -2 ∧ 0 ≤ tkV f n be ∧ tkV f n be ≤ W - 1) ∧ tkK f n (tkE f n be) = 59)) ∧ ∀ pl, ftI f n be 98 it lt bt W pl = (if ¬ (tkK f n be = -2 ∧ 0 ≤ tkV f n be ∧ tkV f n be ≤ W - 1) then tkS f n be else tkS f n (tkE f n be)) := by
  refine ⟨?_, fun pl => ?_⟩
  · unfold itB
    rw [decide_eq_true_eq]
    constructor
    · rintro (h | h | h | h)
      · exact absurd h.1 (by decide)
      · exact absurd h.1 (by decide)
      · exact absurd h.1 (by decide)
      · exact h.2.2
    · intro h
      exact Or.inr (Or.inr (Or.inr ⟨rfl, hc, h⟩))
  · unfold ftI
    rw [if_neg (fun e => absurd e.1 (by decide)), if_neg (by decide), if_neg (fun e => absurd e.1 (by decide)), if_pos ⟨rfl, hc⟩]

theorem ri_b_b1 {f : Int → Int} {n po it lt bt sS sC sL sW : Int} {qf : Int → Int} {cu2 to2 nu2 sS2 sC2 sL2 sW2 : Int} {qf2 : Int → Int} (hk : tkK f n po = 98) (hc : bt = 0) (hb : ¬ (tkK f n (tkE f n po) = -2 ∧ 0 ≤ tkV f n (tkE f n po) ∧ tkV f n (tkE f n po) ≤ sS * sC - 1)) (ht : 0 ≤ to2 ∧ to2 ≤ 4) : riP f n po it lt bt sS sC sL sW qf cu2 (tkS f n (tkE f n po)) to2 nu2 1 sS2 sC2 sL2 sW2 qf2 := by
  have hn : ¬ itB f n (tkE f n po) (tkK f n po) it lt bt (sS * sC) = true := by rw [hk, (itB_b (hc := hc) (f := f) (n := n) (be := (tkE f n po)) (it := it) (lt := lt) (bt := bt) (W := sS * sC)).1]; exact fun h => hb h.1
  refine ⟨fun h => absurd h hn, fun _ => ⟨rfl, ?_, ht⟩⟩
  rw [hk, (itB_b (hc := hc) (f := f) (n := n) (be := (tkE f n po)) (it := it) (lt := lt) (bt := bt) (W := sS * sC)).2, if_pos hb]

theorem ri_b_b2 {f : Int → Int} {n po it lt bt sS sC sL sW : Int} {qf : Int → Int} {cu2 to2 nu2 sS2 sC2 sL2 sW2 : Int} {qf2 : Int → Int} (hk : tkK f n po = 98) (hc : bt = 0) (h0 : (tkK f n (tkE f n po) = -2 ∧ 0 ≤ tkV f n (tkE f n po) ∧ tkV f n (tkE f n po) ≤ sS * sC - 1)) (hb : ¬ tkK f n (tkE f n (tkE f n po)) = 59) (ht : 0 ≤ to2 ∧ to2 ≤ 4) : riP f n po it lt bt sS sC sL sW qf cu2 (tkS f n (tkE f n (tkE f n po))) to2 nu2 1 sS2 sC2 sL2 sW2 qf2 := by
  have hn : ¬ itB f n (tkE f n po) (tkK f n po) it lt bt (sS * sC) = true := by rw [hk, (itB_b (hc := hc) (f := f) (n := n) (be := (tkE f n po)) (it := it) (lt := lt) (bt := bt) (W := sS * sC)).1]; exact fun h => hb h.2
  refine ⟨fun h => absurd h hn, fun _ => ⟨rfl, ?_, ht⟩⟩
  rw [hk, (itB_b (hc := hc) (f := f) (n := n) (be := (tkE f n po)) (it := it) (lt := lt) (bt := bt) (W := sS * sC)).2, if_neg (fun e => e h0)]

theorem ri_b_ok {f : Int → Int} {n po it lt bt sS sC sL sW : Int} {qf : Int → Int} {nu2 : Int} (hk : tkK f n po = 98) (hc : bt = 0) (h0 : (tkK f n (tkE f n po) = -2 ∧ 0 ≤ tkV f n (tkE f n po) ∧ tkV f n (tkE f n po) ≤ sS * sC - 1)) (hl : tkK f n (tkE f n (tkE f n po)) = 59) (hu : tkK f n (tkE f n (tkE f n (tkE f n po))) = -2 → nu2 = tkV f n (tkE f n (tkE f n (tkE f n po)))) (hkk : 0 ≤ tkK f n (tkE f n (tkE f n (tkE f n po))) → nu2 = tkK f n (tkE f n (tkE f n (tkE f n po)))) (hr : 0 ≤ nu2 ∧ nu2 ≤ 999) : riP f n po it lt bt sS sC sL sW qf (tkE f n (tkE f n (tkE f n (tkE f n po)))) (tkS f n (tkE f n (tkE f n (tkE f n po)))) (mtk (tkK f n (tkE f n (tkE f n (tkE f n po))))) nu2 0 sS sC sL (tkV f n (tkE f n po)) qf := by
  have hi : itB f n (tkE f n po) (tkK f n po) it lt bt (sS * sC) = true := by rw [hk, (itB_b (hc := hc) (f := f) (n := n) (be := (tkE f n po)) (it := it) (lt := lt) (bt := bt) (W := sS * sC)).1]; exact ⟨h0, hl⟩
  refine ⟨fun _ => ⟨?_, rfl, ?_, ?_, ?_, ?_, ?_⟩, fun h => absurd hi h⟩
  · unfold nxP
    rw [hk, if_neg (by decide)]
    exact ⟨rfl, rfl, rfl, hu, hkk, hr⟩
  · rw [hk, if_neg (by decide)]
  · rw [hk, if_neg (by decide)]
  · rw [hk, if_neg (by decide)]
  · rw [hk, if_pos rfl]
  · rw [hk, if_neg (by decide)]


theorem ri_l_b {f : Int → Int} {n po it lt bt sS sC sL sW : Int} {qf : Int → Int} {cu2 sa2 to2 nu2 sS2 sC2 sL2 sW2 : Int} {qf2 : Int → Int} (hk : tkK f n po = 108) (h : ¬ ((tkK f n (tkE f n po) = -2 ∧ 0 ≤ tkV f n (tkE f n po) ∧ tkV f n (tkE f n po) ≤ sS * sC - 1) ∧ (tkK f n (tkE f n (tkE f n po)) = -2 ∧ 1 ≤ tkV f n (tkE f n (tkE f n po)) ∧ tkV f n (tkE f n (tkE f n po)) ≤ 9))) (hs : sa2 = (if (tkK f n (tkE f n po) = -2 ∧ 0 ≤ tkV f n (tkE f n po) ∧ tkV f n (tkE f n po) ≤ sS * sC - 1) then tkS f n (tkE f n (tkE f n po)) else tkS f n (tkE f n po))) (ht : 0 ≤ to2 ∧ to2 ≤ 4) : riP f n po it lt bt sS sC sL sW qf cu2 sa2 to2 nu2 1 sS2 sC2 sL2 sW2 qf2 := by
  by_cases h1 : (tkK f n (tkE f n po) = -2 ∧ 0 ≤ tkV f n (tkE f n po) ∧ tkV f n (tkE f n po) ≤ sS * sC - 1)
  · rw [if_pos h1] at hs
    rw [hs]
    exact ri_l_b2 hk h1 (fun h2 => h ⟨h1, h2⟩) ht
  · rw [if_neg h1] at hs
    rw [hs]
    exact ri_l_b1 hk h1 ht
theorem out_s {nu it sL sW : Int} (h : ¬ ((nu = 115 ∧ 0 < it) ∨ (nu = 109 ∧ 0 < sL) ∨ (nu = 98 ∧ 0 ≤ sW))) (hn : nu = 115) (hi : 0 ≤ it) : it = 0 := by omega
theorem out_m {nu it sL sW lt : Int} (h : ¬ ((nu = 115 ∧ 0 < it) ∨ (nu = 109 ∧ 0 < sL) ∨ (nu = 98 ∧ 0 ≤ sW))) (hn : nu = 109) (hlt : (lt = 0 ∧ sL = 0) ∨ (lt = 1 ∧ 0 < sL)) : lt = 0 := by omega
theorem out_b {nu it sL sW bt : Int} (h : ¬ ((nu = 115 ∧ 0 < it) ∨ (nu = 109 ∧ 0 < sL) ∨ (nu = 98 ∧ 0 ≤ sW))) (hn : nu = 98) (hbt : (bt = 0 ∧ sW < 0) ∨ (bt = 1 ∧ 0 ≤ sW)) : bt = 0 := by omega
theorem let_b {nu k : Int} (hk : k = 115 ∨ k = 108 ∨ k = 109 ∨ k = 98) (h : nu = k) (h1 : ¬ nu = 115) (h2 : ¬ nu = 108) (h3 : ¬ nu = 109) : k = 98 := by omega

theorem pd_X9_readItem : yX9_readItem.cls = RX9 ∧ yX9_readItem.cls ≠ "java/lang/invoke/MethodHandle" ∧ yX9_readItem.cls ≠ "java/lang/invoke/VarHandle" ∧ (parseMethodDescriptor yX9_readItem.desc).map (fun d => d.parameters.length) = some 0 := by decide +kernel
abbrev rmX9_readItem : Room := { frames := 5, cells := 0, slots := 0, locals := 109 }
set_option maxHeartbeats 4000000 in
set_option maxRecDepth 100000 in
theorem c_X9_readItem (l : Launch) (G : CX) (hm0 : Nat) (S : Int) (C : Int) (Wy : Int) (Li : Int) (ml : Nat) (ms : Nat) (mw : Nat) (kn : Int) (mi : Nat) (mk : Nat) (hz : Int) (mh : Nat) (tr : Int64) (mt : Nat) (tn : Int) (cu : Int) (sa : Int) (to : Int) (nu : Int) (wr : Int) (it : Int) (sS : Int) (sC : Int) (sL : Int) (sW : Int) (mq : Nat) (mn : Nat) (mc : Nat) (mr : Nat) (mb : Nat) (tf : Int → Int) (qf : Int → Int) (po : Int) (lt : Int) (bt : Int) (htn : 0 ≤ tn ∧ tn ≤ 200) (htf : ∀ i : Int, 0 ≤ i → i < tn → 0 ≤ tf i ∧ tf i ≤ 255) (hp : 0 ≤ po ∧ po ≤ tn) (hcu : cu = tkE tf tn po) (hto : to = mtk (tkK tf tn po)) (hnu : tkK tf tn po = -2 → nu = tkV tf tn po) (hnr : 0 ≤ nu ∧ nu ≤ 999) (hw0 : wr = 0) (hsa : sa = tkS tf tn po) (hnk : 0 ≤ tkK tf tn po → nu = tkK tf tn po) (hSW : 1 ≤ sS * sC ∧ sS * sC ≤ 12) (hit0 : 0 ≤ it ∧ it ≤ 1000) (hsl : 0 ≤ sL ∧ sL ≤ 99) (hsw : -1 ≤ sW ∧ sW ≤ 12) (hlt : (lt = 0 ∧ sL = 0) ∨ (lt = 1 ∧ 0 < sL)) (hbt : (bt = 0 ∧ sW < 0) ∨ (bt = 1 ∧ 0 ≤ sW)) : Met l yX9_readItem wsX9_readItem rmX9_readItem (wrP G [.ref hm0] [(hm0, .inr (9, [.int (zI S), .int (zI C), .int (zI Wy), .int (zI Li), .ref ml, .ref ms, .ref mw, .int (zI kn), .ref mi, .ref mk, .int (zI hz), .ref mh, .long tr, .ref mt, .int (zI tn), .int (zI cu), .int (zI sa), .int (zI to), .int (zI nu), .int (zI wr), .int (zI it), .int (zI sS), .int (zI sC), .int (zI sL), .int (zI sW), .ref mq, .ref mn, .ref mc, .ref mr, .ref mb])), (mt, .inl (G.2.1, 200, .inl (aZ tf))), (mq, .inl (G.2.1, 12, .inl (aZ qf)))]) (wrV G [(hm0, .inr (9, [.int (zI S), .int (zI C), .int (zI Wy), .int (zI Li), .ref ml, .ref ms, .ref mw, .int (zI kn), .ref mi, .ref mk, .int (zI hz), .ref mh, .long tr, .ref mt, .int (zI tn), .int (zI cu), .int (zI sa), .int (zI to), .int (zI nu), .int (zI wr), .int (zI it), .int (zI sS), .int (zI sC), .int (zI sL), .int (zI sW), .ref mq, .ref mn, .ref mc, .ref mr, .ref mb])), (mt, .inl (G.2.1, 200, .inl (aZ tf))), (mq, .inl (G.2.1, 12, .inl (aZ qf)))] (fun (u : Int × Int × Int × Int × Int × Int × Int × Int × Int × (Int → Int)) => match u with | (cu2, sa2, to2, nu2, wr2, sS2, sC2, sL2, sW2, qf2) => (riP tf tn po it lt bt sS sC sL sW qf cu2 sa2 to2 nu2 wr2 sS2 sC2 sL2 sW2 qf2)) (fun (u : Int × Int × Int × Int × Int × Int × Int × Int × Int × (Int → Int)) => match u with | (cu2, sa2, to2, nu2, wr2, sS2, sC2, sL2, sW2, qf2) => [(hm0, .inr (9, [.int (zI S), .int (zI C), .int (zI Wy), .int (zI Li), .ref ml, .ref ms, .ref mw, .int (zI kn), .ref mi, .ref mk, .int (zI hz), .ref mh, .long tr, .ref mt, .int (zI tn), .int (zI cu2), .int (zI sa2), .int (zI to2), .int (zI nu2), .int (zI wr2), .int (zI it), .int (zI sS2), .int (zI sC2), .int (zI sL2), .int (zI sW2), .ref mq, .ref mn, .ref mc, .ref mr, .ref mb])), (mt, .inl (G.2.1, 200, .inl (aZ tf))), (mq, .inl (G.2.1, 12, .inl (aZ qf2)))])) 0 0 (wrA [(hm0, .inr (9, [.int (zI S), .int (zI C), .int (zI Wy), .int (zI Li), .ref ml, .ref ms, .ref mw, .int (zI kn), .ref mi, .ref mk, .int (zI hz), .ref mh, .long tr, .ref mt, .int (zI tn), .int (zI cu), .int (zI sa), .int (zI to), .int (zI nu), .int (zI wr), .int (zI it), .int (zI sS), .int (zI sC), .int (zI sL), .int (zI sW), .ref mq, .ref mn, .ref mc, .ref mr, .ref mb])), (mt, .inl (G.2.1, 200, .inl (aZ tf))), (mq, .inl (G.2.1, 12, .inl (aZ qf)))]) := by
  refine wv_ofW (cc := cX9_readItem) (maxL := 3) (by decide) rfl (Nat.le_of_ble_eq_true rfl) ?_
  intro p e s m below meth c Q A hx hb hml hown hts hK hret H locs hP hD hS ls hl
  have hown : s.vm.findClass RX9 = some m.cls := hown
  have hl : lv_has ls 3 [(0, .ref hm0)] := hl
  have f77 := hts (.fieldLink RX9 77 "QuarterTurnsModel" "number" "I") (by decide +kernel)
  have i9 : ∀ w ∈ wsX90, w ∈ wsX9_readItem := fun w h => List.mem_cons_of_mem _ (List.mem_append_right _ h)
  have f80 := hts (.fieldLink RX9 80 "QuarterTurnsModel" "token" "I") (by decide +kernel)
  have f87 := hts (.fieldLink RX9 87 "QuarterTurnsModel" "isWrong" "Z") (by decide +kernel)
  have f94 := hts (.fieldLink RX9 94 "QuarterTurnsModel" "saidSteps" "I") (by decide +kernel)
  have f97 := hts (.fieldLink RX9 97 "QuarterTurnsModel" "saidFaces" "I") (by decide +kernel)
  have f110 := hts (.fieldLink RX9 110 "QuarterTurnsModel" "saidWay" "I") (by decide +kernel)
  have f107 := hts (.fieldLink RX9 107 "QuarterTurnsModel" "saidLimit" "I") (by decide +kernel)
  have f104 := hts (.fieldLink RX9 104 "QuarterTurnsModel" "items" "I") (by decide +kernel)
  subst hcu hsa hto hw0
  have hEr := tkE_rng (f := tf) (n := tn) (p := po) (by omega)
  have hSr := tkS_rng (f := tf) (n := tn) (p := po) (by omega)
  have hEr2 := tkE_rng (f := tf) (n := tn) (p := tkE tf tn po) (by omega)
  have hSr2 := tkS_rng (f := tf) (n := tn) (p := tkE tf tn po) (by omega)
  have hEr3 := tkE_rng (f := tf) (n := tn) (p := tkE tf tn (tkE tf tn po)) (by omega)
  have hSr3 := tkS_rng (f := tf) (n := tn) (p := tkE tf tn (tkE tf tn po)) (by omega)
  have hmr1 := mtk_rng (tkK tf tn po)
  have hmr2 := mtk_rng (tkK tf tn (tkE tf tn po))
  have hmr3 := mtk_rng (tkK tf tn (tkE tf tn (tkE tf tn po)))
  have hEr4 := tkE_rng (f := tf) (n := tn) (p := tkE tf tn (tkE tf tn (tkE tf tn po))) (by omega)
  have hSr4 := tkS_rng (f := tf) (n := tn) (p := tkE tf tn (tkE tf tn (tkE tf tn po))) (by omega)
  have hmr4 := mtk_rng (tkK tf tn (tkE tf tn (tkE tf tn (tkE tf tn po))))
  have hP : kP G [(hm0, .inr (9, [.int (zI S), .int (zI C), .int (zI Wy), .int (zI Li), .ref ml, .ref ms, .ref mw, .int (zI kn), .ref mi, .ref mk, .int (zI hz), .ref mh, .long tr, .ref mt, .int (zI tn), .int (zI (tkE tf tn po)), .int (zI (tkS tf tn po)), .int (zI (mtk (tkK tf tn po))), .int (zI nu), .int (zI 0), .int (zI it), .int (zI sS), .int (zI sC), .int (zI sL), .int (zI sW), .ref mq, .ref mn, .ref mc, .ref mr, .ref mb])), (mt, .inl (G.2.1, 200, .inl (aZ tf))), (mq, .inl (G.2.1, 12, .inl (aZ qf)))] H := hP
  have hD : va_D A [(hm0, .inr (9, [.int (zI S), .int (zI C), .int (zI Wy), .int (zI Li), .ref ml, .ref ms, .ref mw, .int (zI kn), .ref mi, .ref mk, .int (zI hz), .ref mh, .long tr, .ref mt, .int (zI tn), .int (zI (tkE tf tn po)), .int (zI (tkS tf tn po)), .int (zI (mtk (tkK tf tn po))), .int (zI nu), .int (zI 0), .int (zI it), .int (zI sS), .int (zI sC), .int (zI sL), .int (zI sW), .ref mq, .ref mn, .ref mc, .ref mr, .ref mb])), (mt, .inl (G.2.1, 200, .inl (aZ tf))), (mq, .inl (G.2.1, 12, .inl (aZ qf)))] := hD
  refine lv_aload_n hx hb dX9_readItem_0 rfl (lv_at hl 0 rfl) ?_
  refine va_get (ci := 9) (v := .int (zI nu)) (C := RX9) (T := TX9) (N := 30) hx hb hts i9 hown hK hP 0 rfl rfl 18 (by decide) f77 (fun _ h9 => h9) rfl dX9_readItem_1 ?_
  refine lv_istore_n (lv' := [(1, .int (zI nu)), (0, .ref hm0)]) hx hb dX9_readItem_4 rfl hl (by decide) rfl (fun ls hl => ?_)
  have join65 : ∀ (ou : Int) (H : Heap) (locs : List Loc) (ls : Array Slot), ((ou = 0 ∧ ¬ ((nu = 115 ∧ 0 < it) ∨ (nu = 109 ∧ 0 < sL) ∨ (nu = 98 ∧ 0 ≤ sW))) ∨ (ou = 1 ∧ ((nu = 115 ∧ 0 < it) ∨ (nu = 109 ∧ 0 < sL) ∨ (nu = 98 ∧ 0 ≤ sW)))) → kP G [(hm0, .inr (9, [.int (zI S), .int (zI C), .int (zI Wy), .int (zI Li), .ref ml, .ref ms, .ref mw, .int (zI kn), .ref mi, .ref mk, .int (zI hz), .ref mh, .long tr, .ref mt, .int (zI tn), .int (zI (tkE tf tn po)), .int (zI (tkS tf tn po)), .int (zI (mtk (tkK tf tn po))), .int (zI nu), .int (zI 0), .int (zI it), .int (zI sS), .int (zI sC), .int (zI sL), .int (zI sW), .ref mq, .ref mn, .ref mc, .ref mr, .ref mb])), (mt, .inl (G.2.1, 200, .inl (aZ tf))), (mq, .inl (G.2.1, 12, .inl (aZ qf)))] H → va_D A [(hm0, .inr (9, [.int (zI S), .int (zI C), .int (zI Wy), .int (zI Li), .ref ml, .ref ms, .ref mw, .int (zI kn), .ref mi, .ref mk, .int (zI hz), .ref mh, .long tr, .ref mt, .int (zI tn), .int (zI (tkE tf tn po)), .int (zI (tkS tf tn po)), .int (zI (mtk (tkK tf tn po))), .int (zI nu), .int (zI 0), .int (zI it), .int (zI sS), .int (zI sC), .int (zI sL), .int (zI sW), .ref mq, .ref mn, .ref mc, .ref mr, .ref mb])), (mt, .inl (G.2.1, 200, .inl (aZ tf))), (mq, .inl (G.2.1, 12, .inl (aZ qf)))] → va_S A s.heap H locs → lv_has ls 3 [(1, .int (zI nu)), (0, .ref hm0)] → W p l e rmX9_readItem s m ([.ref hm0] : List Value).toArray below meth c H locs 0 0 Q (F0 m 65 ls [.int (zI ou)]) := by
    intro ou H locs ls hou hP hD hS hl
    refine lv_istore_n (lv' := [(2, .int (zI ou)), (1, .int (zI nu)), (0, .ref hm0)]) hx hb dX9_readItem_65 rfl hl (by decide) rfl (fun ls hl => ?_)
    refine lv_aload_n hx hb dX9_readItem_66 rfl (lv_at hl 2 rfl) ?_
    refine va_get (ci := 9) (v := .int (zI (mtk (tkK tf tn po)))) (C := RX9) (T := TX9) (N := 30) hx hb hts i9 hown hK hP 0 rfl rfl 17 (by decide) f80 (fun _ h9 => h9) rfl dX9_readItem_67 ?_
    refine lv_iconst (v := zI 1) hx hb dX9_readItem_70 rfl ?_
    refine z_icmp_ne (tgt := 78) hx hb (by omega) dX9_readItem_71 (by decide) (fun c_1 => ?_) (fun c_1 => ?_)
    · have hno := no_of (to := mtk (tkK tf tn po)) (k := tkK tf tn po) rfl hnk hlt hbt hit0.1 (by first | exact Or.inl (by assumption) | exact Or.inr (by rcases hou with ⟨h8, _⟩ | ⟨_, h9⟩; exact absurd h8 (by assumption); exact h9))
      refine lv_aload_n hx hb dX9_readItem_78 rfl (lv_at hl 2 rfl) ?_
      refine lv_iconst (v := zI 1) hx hb dX9_readItem_79 rfl ?_
      refine va_put (ci := 9) (v := .int (zI 1)) (ty := .boolean) (C := RX9) (T := TX9) (N := 30) hx hb hts i9 tyX9 tyX9_ok nmX9 hown hK hP hD hS 0 rfl rfl 19 (by decide) f87 (fun _ h9 => h9) rfl (tyX9_ok 19 (by decide)) (by decide) (by decide) (Nat.le_of_ble_eq_true rfl) dX9_readItem_80 (fun H locs hP hD hS => ?_)
      have hP : kP G [(hm0, .inr (9, [.int (zI S), .int (zI C), .int (zI Wy), .int (zI Li), .ref ml, .ref ms, .ref mw, .int (zI kn), .ref mi, .ref mk, .int (zI hz), .ref mh, .long tr, .ref mt, .int (zI tn), .int (zI (tkE tf tn po)), .int (zI (tkS tf tn po)), .int (zI (mtk (tkK tf tn po))), .int (zI nu), .int (zI 1), .int (zI it), .int (zI sS), .int (zI sC), .int (zI sL), .int (zI sW), .ref mq, .ref mn, .ref mc, .ref mr, .ref mb])), (mt, .inl (G.2.1, 200, .inl (aZ tf))), (mq, .inl (G.2.1, 12, .inl (aZ qf)))] H := hP
      have hD : va_D A [(hm0, .inr (9, [.int (zI S), .int (zI C), .int (zI Wy), .int (zI Li), .ref ml, .ref ms, .ref mw, .int (zI kn), .ref mi, .ref mk, .int (zI hz), .ref mh, .long tr, .ref mt, .int (zI tn), .int (zI (tkE tf tn po)), .int (zI (tkS tf tn po)), .int (zI (mtk (tkK tf tn po))), .int (zI nu), .int (zI 1), .int (zI it), .int (zI sS), .int (zI sC), .int (zI sL), .int (zI sW), .ref mq, .ref mn, .ref mc, .ref mr, .ref mb])), (mt, .inl (G.2.1, 200, .inl (aZ tf))), (mq, .inl (G.2.1, 12, .inl (aZ qf)))] := hD
      exact hret H locs ls 83 (tkE tf tn po, tkS tf tn po, mtk (tkK tf tn po), nu, 1, sS, sC, sL, sW, qf) (by exact ⟨fun h => absurd h (itB_no hno).1, fun _ => ⟨rfl, by rw [(itB_no hno).2], mtk_rng _⟩⟩) hP hS dX9_readItem_83
    · refine lv_iload_n hx hb dX9_readItem_74 rfl (lv_at hl 0 rfl) ?_
      refine z_if_eq (tgt := 84) hx hb (by omega) dX9_readItem_75 (by decide) (fun c_2 => ?_) (fun c_2 => ?_)
      · refine lv_aload_n hx hb dX9_readItem_84 rfl (lv_at hl 2 rfl) ?_
        refine z_wVv (As := []) (rest := []) ⟨hx, hb, hml, hown, hts⟩ (c_X9_next l G hm0 S C Wy Li ml ms mw kn mi mk hz mh tr mt tn (tkE tf tn po) (tkS tf tn po) (mtk (tkK tf tn po)) nu 0 it sS sC sL sW mq mn mc mr mb tf (by first | assumption | omega) (by first | assumption | omega) (by first | assumption | rfl | omega)) (cwV 0 hts gX9_readItem_X9_next rfl rfl rfl pd_X9_next ⟨(Nat.le_of_ble_eq_true rfl), (Nat.le_of_ble_eq_true rfl)⟩) hK hP hD hS [0, 1] (by decide) rfl rfl rfl rfl (fun _ => Eq.trans (b := [hm0, mt]) rfl rfl) rfl hl.1 rfl (Nat.le_of_ble_eq_true rfl) dX9_readItem_85 ⟨Nat.zero_le _, Nat.zero_le _⟩ (fun u_ H locs hw_7 hP hD hS => ?_)
        obtain ⟨cu2_3, sa2_4, to2_5, nu2_6⟩ := u_
        try dsimp only at hw_7
        obtain ⟨rfl, rfl, rfl, hnu_8, hnk_9, hnr_10⟩ := hw_7
        have hP : kP G [(hm0, .inr (9, [.int (zI S), .int (zI C), .int (zI Wy), .int (zI Li), .ref ml, .ref ms, .ref mw, .int (zI kn), .ref mi, .ref mk, .int (zI hz), .ref mh, .long tr, .ref mt, .int (zI tn), .int (zI (tkE tf tn (tkE tf tn po))), .int (zI (tkS tf tn (tkE tf tn po))), .int (zI (mtk (tkK tf tn (tkE tf tn po)))), .int (zI nu2_6), .int (zI 0), .int (zI it), .int (zI sS), .int (zI sC), .int (zI sL), .int (zI sW), .ref mq, .ref mn, .ref mc, .ref mr, .ref mb])), (mt, .inl (G.2.1, 200, .inl (aZ tf))), (mq, .inl (G.2.1, 12, .inl (aZ qf)))] H := hP
        have hD : va_D A [(hm0, .inr (9, [.int (zI S), .int (zI C), .int (zI Wy), .int (zI Li), .ref ml, .ref ms, .ref mw, .int (zI kn), .ref mi, .ref mk, .int (zI hz), .ref mh, .long tr, .ref mt, .int (zI tn), .int (zI (tkE tf tn (tkE tf tn po))), .int (zI (tkS tf tn (tkE tf tn po))), .int (zI (mtk (tkK tf tn (tkE tf tn po)))), .int (zI nu2_6), .int (zI 0), .int (zI it), .int (zI sS), .int (zI sC), .int (zI sL), .int (zI sW), .ref mq, .ref mn, .ref mc, .ref mr, .ref mb])), (mt, .inl (G.2.1, 200, .inl (aZ tf))), (mq, .inl (G.2.1, 12, .inl (aZ qf)))] := hD
        have hq_11 := tkS_rng (f := tf) (n := tn) (p := (tkE tf tn po)) (by omega)
        have hq_12 := tkE_rng (f := tf) (n := tn) (p := (tkE tf tn po)) (by omega)
        have hq_13 := tkK_rng (f := tf) (n := tn) (p := (tkE tf tn po)) (by omega) (by first | assumption | omega)
        have hq_14 := tkV_rng (f := tf) (n := tn) (p := (tkE tf tn po))
        have hk1 := (mtk1 (tkK tf tn po)).mp (by assumption)
        have hnuk := hnk (by omega)
        have hout : ¬ ((nu = 115 ∧ 0 < it) ∨ (nu = 109 ∧ 0 < sL) ∨ (nu = 98 ∧ 0 ≤ sW)) := by rcases hou with ⟨_, h9⟩ | ⟨h8, _⟩; exact h9; exact absurd h8 (by omega)
        clear hou
        have hbu := hnu_8
        have hbk := hnk_9
        have hbr := hnr_10
        refine lv_iload_n hx hb dX9_readItem_88 rfl (lv_at hl 1 rfl) ?_
        refine lv_bipush (v := zI 115) hx hb dX9_readItem_89 (by decide) ?_
        refine z_icmp_ne (tgt := 118) hx hb (by omega) dX9_readItem_91 (by decide) (fun c_15 => ?_) (fun c_15 => ?_)
        · refine lv_iload_n hx hb dX9_readItem_118 rfl (lv_at hl 1 rfl) ?_
          refine lv_bipush (v := zI 108) hx hb dX9_readItem_119 (by decide) ?_
          refine z_icmp_ne (tgt := 131) hx hb (by omega) dX9_readItem_121 (by decide) (fun c_16 => ?_) (fun c_16 => ?_)
          · refine lv_iload_n hx hb dX9_readItem_131 rfl (lv_at hl 1 rfl) ?_
            refine lv_bipush (v := zI 109) hx hb dX9_readItem_132 (by decide) ?_
            refine z_icmp_ne (tgt := 151) hx hb (by omega) dX9_readItem_134 (by decide) (fun c_17 => ?_) (fun c_17 => ?_)
            · have hk : tkK tf tn po = 98 := let_b hk1 hnuk (by assumption) (by assumption) (by assumption)
              have hc := out_b hout (hnuk.trans hk) hbt
              clear hk1 hout hnk hlt hbt
              refine lv_aload_n hx hb dX9_readItem_151 rfl (lv_at hl 2 rfl) ?_
              refine lv_aload_n hx hb dX9_readItem_152 rfl (lv_at hl 2 rfl) ?_
              refine lv_iconst (v := zI 0) hx hb dX9_readItem_153 rfl ?_
              refine lv_aload_n hx hb dX9_readItem_154 rfl (lv_at hl 2 rfl) ?_
              refine va_get (ci := 9) (v := .int (zI sS)) (C := RX9) (T := TX9) (N := 30) hx hb hts i9 hown hK hP 0 rfl rfl 21 (by decide) f94 (fun _ h9 => h9) rfl dX9_readItem_155 ?_
              refine lv_aload_n hx hb dX9_readItem_158 rfl (lv_at hl 2 rfl) ?_
              refine va_get (ci := 9) (v := .int (zI sC)) (C := RX9) (T := TX9) (N := 30) hx hb hts i9 hown hK hP 0 rfl rfl 22 (by decide) f97 (fun _ h9 => h9) rfl dX9_readItem_159 ?_
              refine z_imul hx hb dX9_readItem_162 ?_
              refine lv_iconst (v := zI 1) hx hb dX9_readItem_163 rfl ?_
              refine z_isub hx hb dX9_readItem_164 ?_
              refine z_wV (As := [.int (zI 0), .int (zI ((sS * sC) - 1))]) (rest := [.ref hm0]) ⟨hx, hb, hml, hown, hts⟩ (c_X9_takes l G hm0 S C Wy Li ml ms mw kn mi mk hz mh tr mt tn (tkE tf tn (tkE tf tn po)) (tkS tf tn (tkE tf tn po)) (mtk (tkK tf tn (tkE tf tn po))) nu2_6 0 it sS sC sL sW mq mn mc mr mb tf (tkE tf tn po) 0 ((sS * sC) - 1) (by first | assumption | omega) (by first | assumption | omega) (by first | assumption | omega) (by first | assumption | rfl | omega) (by first | assumption | rfl) (by first | assumption | exact hok1u) (by first | assumption | exact hok1r) (by first | assumption | omega) (by first | assumption | omega)) (cwV 2 hts gX9_readItem_X9_takes rfl rfl rfl pd_X9_takes ⟨(Nat.le_of_ble_eq_true rfl), (Nat.le_of_ble_eq_true rfl)⟩) hK hP hD hS [0, 1] (by decide) rfl rfl rfl rfl (fun _ => Eq.trans (b := [hm0, mt]) rfl rfl) rfl hl.1 rfl (Nat.le_of_ble_eq_true rfl) dX9_readItem_165 ⟨Nat.zero_le _, Nat.zero_le _⟩ (fun r_ u_ H locs hw_23 hP hD hS => ?_)
              obtain ⟨cu2_18, sa2_19, to2_20, nu2_21, wr2_22⟩ := u_
              obtain ⟨rfl, hw_23⟩ := hw_23
              try dsimp only at hw_23
              obtain ⟨hA_24, hB_25⟩ := hw_23
              have hP : kP G [(hm0, .inr (9, [.int (zI S), .int (zI C), .int (zI Wy), .int (zI Li), .ref ml, .ref ms, .ref mw, .int (zI kn), .ref mi, .ref mk, .int (zI hz), .ref mh, .long tr, .ref mt, .int (zI tn), .int (zI cu2_18), .int (zI sa2_19), .int (zI to2_20), .int (zI nu2_21), .int (zI wr2_22), .int (zI it), .int (zI sS), .int (zI sC), .int (zI sL), .int (zI sW), .ref mq, .ref mn, .ref mc, .ref mr, .ref mb])), (mt, .inl (G.2.1, 200, .inl (aZ tf))), (mq, .inl (G.2.1, 12, .inl (aZ qf)))] H := hP
              have hD : va_D A [(hm0, .inr (9, [.int (zI S), .int (zI C), .int (zI Wy), .int (zI Li), .ref ml, .ref ms, .ref mw, .int (zI kn), .ref mi, .ref mk, .int (zI hz), .ref mh, .long tr, .ref mt, .int (zI tn), .int (zI cu2_18), .int (zI sa2_19), .int (zI to2_20), .int (zI nu2_21), .int (zI wr2_22), .int (zI it), .int (zI sS), .int (zI sC), .int (zI sL), .int (zI sW), .ref mq, .ref mn, .ref mc, .ref mr, .ref mb])), (mt, .inl (G.2.1, 200, .inl (aZ tf))), (mq, .inl (G.2.1, 12, .inl (aZ qf)))] := hD
              by_cases hok1 : ((0 : Int) = 0 ∧ tkK tf tn (tkE tf tn po) = -2 ∧ 0 ≤ tkV tf tn (tkE tf tn po) ∧ tkV tf tn (tkE tf tn po) ≤ sS * sC - 1)
              · obtain ⟨h_1, h_2, h_3, hok1u, hok1k, hok1r, h_7⟩ := hA_24 hok1
                subst cu2_18 sa2_19 to2_20 wr2_22
                clear hA_24 hB_25
                refine z_top (if_pos hok1) ?_
                refine va_put (ci := 9) (v := .int (zI (tkV tf tn (tkE tf tn po)))) (ty := .int) (C := RX9) (T := TX9) (N := 30) hx hb hts i9 tyX9 tyX9_ok nmX9 hown hK hP hD hS 0 rfl rfl 24 (by decide) f110 (fun _ h9 => h9) rfl (tyX9_ok 24 (by decide)) rfl rfl (Nat.le_of_ble_eq_true rfl) dX9_readItem_168 (fun H locs hP hD hS => ?_)
                have hP : kP G [(hm0, .inr (9, [.int (zI S), .int (zI C), .int (zI Wy), .int (zI Li), .ref ml, .ref ms, .ref mw, .int (zI kn), .ref mi, .ref mk, .int (zI hz), .ref mh, .long tr, .ref mt, .int (zI tn), .int (zI (tkE tf tn (tkE tf tn (tkE tf tn po)))), .int (zI (tkS tf tn (tkE tf tn (tkE tf tn po)))), .int (zI (mtk (tkK tf tn (tkE tf tn (tkE tf tn po))))), .int (zI nu2_21), .int (zI 0), .int (zI it), .int (zI sS), .int (zI sC), .int (zI sL), .int (zI (tkV tf tn (tkE tf tn po))), .ref mq, .ref mn, .ref mc, .ref mr, .ref mb])), (mt, .inl (G.2.1, 200, .inl (aZ tf))), (mq, .inl (G.2.1, 12, .inl (aZ qf)))] H := hP
                have hD : va_D A [(hm0, .inr (9, [.int (zI S), .int (zI C), .int (zI Wy), .int (zI Li), .ref ml, .ref ms, .ref mw, .int (zI kn), .ref mi, .ref mk, .int (zI hz), .ref mh, .long tr, .ref mt, .int (zI tn), .int (zI (tkE tf tn (tkE tf tn (tkE tf tn po)))), .int (zI (tkS tf tn (tkE tf tn (tkE tf tn po)))), .int (zI (mtk (tkK tf tn (tkE tf tn (tkE tf tn po))))), .int (zI nu2_21), .int (zI 0), .int (zI it), .int (zI sS), .int (zI sC), .int (zI sL), .int (zI (tkV tf tn (tkE tf tn po))), .ref mq, .ref mn, .ref mc, .ref mr, .ref mb])), (mt, .inl (G.2.1, 200, .inl (aZ tf))), (mq, .inl (G.2.1, 12, .inl (aZ qf)))] := hD
                refine lv_aload_n hx hb dX9_readItem_171 rfl (lv_at hl 2 rfl) ?_
                refine lv_aload_n hx hb dX9_readItem_172 rfl (lv_at hl 2 rfl) ?_
                refine va_get (ci := 9) (v := .int (zI 0)) (C := RX9) (T := TX9) (N := 30) hx hb hts i9 hown hK hP 0 rfl rfl 19 (by decide) f87 (fun _ h9 => h9) rfl dX9_readItem_173 ?_
                refine z_if_ne (tgt := 187) hx hb (by omega) dX9_readItem_176 (by decide) (fun c_26 => ?_) (fun c_26 => ?_)
                · exact absurd c_26 (by omega)
                · refine lv_aload_n hx hb dX9_readItem_179 rfl (lv_at hl 2 rfl) ?_
                  refine va_get (ci := 9) (v := .int (zI (mtk (tkK tf tn (tkE tf tn (tkE tf tn po)))))) (C := RX9) (T := TX9) (N := 30) hx hb hts i9 hown hK hP 0 rfl rfl 17 (by decide) f80 (fun _ h9 => h9) rfl dX9_readItem_180 ?_
                  refine lv_iconst (v := zI 3) hx hb dX9_readItem_183 rfl ?_
                  refine z_icmp_eq (tgt := 191) hx hb (by omega) dX9_readItem_184 (by decide) (fun c_27 => ?_) (fun c_27 => ?_)
                  · refine lv_iconst (v := zI 0) hx hb dX9_readItem_191 rfl ?_
                    refine va_put (ci := 9) (v := .int (zI 0)) (ty := .boolean) (C := RX9) (T := TX9) (N := 30) hx hb hts i9 tyX9 tyX9_ok nmX9 hown hK hP hD hS 0 rfl rfl 19 (by decide) f87 (fun _ h9 => h9) rfl (tyX9_ok 19 (by decide)) (by decide) (by decide) (Nat.le_of_ble_eq_true rfl) dX9_readItem_192 (fun H locs hP hD hS => ?_)
                    have hP : kP G [(hm0, .inr (9, [.int (zI S), .int (zI C), .int (zI Wy), .int (zI Li), .ref ml, .ref ms, .ref mw, .int (zI kn), .ref mi, .ref mk, .int (zI hz), .ref mh, .long tr, .ref mt, .int (zI tn), .int (zI (tkE tf tn (tkE tf tn (tkE tf tn po)))), .int (zI (tkS tf tn (tkE tf tn (tkE tf tn po)))), .int (zI (mtk (tkK tf tn (tkE tf tn (tkE tf tn po))))), .int (zI nu2_21), .int (zI 0), .int (zI it), .int (zI sS), .int (zI sC), .int (zI sL), .int (zI (tkV tf tn (tkE tf tn po))), .ref mq, .ref mn, .ref mc, .ref mr, .ref mb])), (mt, .inl (G.2.1, 200, .inl (aZ tf))), (mq, .inl (G.2.1, 12, .inl (aZ qf)))] H := hP
                    have hD : va_D A [(hm0, .inr (9, [.int (zI S), .int (zI C), .int (zI Wy), .int (zI Li), .ref ml, .ref ms, .ref mw, .int (zI kn), .ref mi, .ref mk, .int (zI hz), .ref mh, .long tr, .ref mt, .int (zI tn), .int (zI (tkE tf tn (tkE tf tn (tkE tf tn po)))), .int (zI (tkS tf tn (tkE tf tn (tkE tf tn po)))), .int (zI (mtk (tkK tf tn (tkE tf tn (tkE tf tn po))))), .int (zI nu2_21), .int (zI 0), .int (zI it), .int (zI sS), .int (zI sC), .int (zI sL), .int (zI (tkV tf tn (tkE tf tn po))), .ref mq, .ref mn, .ref mc, .ref mr, .ref mb])), (mt, .inl (G.2.1, 200, .inl (aZ tf))), (mq, .inl (G.2.1, 12, .inl (aZ qf)))] := hD
                    refine lv_aload_n hx hb dX9_readItem_195 rfl (lv_at hl 2 rfl) ?_
                    refine va_get (ci := 9) (v := .int (zI 0)) (C := RX9) (T := TX9) (N := 30) hx hb hts i9 hown hK hP 0 rfl rfl 19 (by decide) f87 (fun _ h9 => h9) rfl dX9_readItem_196 ?_
                    refine z_if_ne (tgt := 206) hx hb (by omega) dX9_readItem_199 (by decide) (fun c_28 => ?_) (fun c_28 => ?_)
                    · exact absurd c_28 (by omega)
                    · refine lv_aload_n hx hb dX9_readItem_202 rfl (lv_at hl 2 rfl) ?_
                      refine z_wVv (As := []) (rest := []) ⟨hx, hb, hml, hown, hts⟩ (c_X9_next l G hm0 S C Wy Li ml ms mw kn mi mk hz mh tr mt tn (tkE tf tn (tkE tf tn (tkE tf tn po))) (tkS tf tn (tkE tf tn (tkE tf tn po))) (mtk (tkK tf tn (tkE tf tn (tkE tf tn po)))) nu2_21 0 it sS sC sL (tkV tf tn (tkE tf tn po)) mq mn mc mr mb tf (by first | assumption | omega) (by first | assumption | omega) (by first | assumption | rfl | omega)) (cwV 0 hts gX9_readItem_X9_next rfl rfl rfl pd_X9_next ⟨(Nat.le_of_ble_eq_true rfl), (Nat.le_of_ble_eq_true rfl)⟩) hK hP hD hS [0, 1] (by decide) rfl rfl rfl rfl (fun _ => Eq.trans (b := [hm0, mt]) rfl rfl) rfl hl.1 rfl (Nat.le_of_ble_eq_true rfl) dX9_readItem_203 ⟨Nat.zero_le _, Nat.zero_le _⟩ (fun u_ H locs hw_33 hP hD hS => ?_)
                      obtain ⟨cu2_29, sa2_30, to2_31, nu2_32⟩ := u_
                      try dsimp only at hw_33
                      obtain ⟨rfl, rfl, rfl, hnu_34, hnk_35, hnr_36⟩ := hw_33
                      have hP : kP G [(hm0, .inr (9, [.int (zI S), .int (zI C), .int (zI Wy), .int (zI Li), .ref ml, .ref ms, .ref mw, .int (zI kn), .ref mi, .ref mk, .int (zI hz), .ref mh, .long tr, .ref mt, .int (zI tn), .int (zI (tkE tf tn (tkE tf tn (tkE tf tn (tkE tf tn po))))), .int (zI (tkS tf tn (tkE tf tn (tkE tf tn (tkE tf tn po))))), .int (zI (mtk (tkK tf tn (tkE tf tn (tkE tf tn (tkE tf tn po)))))), .int (zI nu2_32), .int (zI 0), .int (zI it), .int (zI sS), .int (zI sC), .int (zI sL), .int (zI (tkV tf tn (tkE tf tn po))), .ref mq, .ref mn, .ref mc, .ref mr, .ref mb])), (mt, .inl (G.2.1, 200, .inl (aZ tf))), (mq, .inl (G.2.1, 12, .inl (aZ qf)))] H := hP
                      have hD : va_D A [(hm0, .inr (9, [.int (zI S), .int (zI C), .int (zI Wy), .int (zI Li), .ref ml, .ref ms, .ref mw, .int (zI kn), .ref mi, .ref mk, .int (zI hz), .ref mh, .long tr, .ref mt, .int (zI tn), .int (zI (tkE tf tn (tkE tf tn (tkE tf tn (tkE tf tn po))))), .int (zI (tkS tf tn (tkE tf tn (tkE tf tn (tkE tf tn po))))), .int (zI (mtk (tkK tf tn (tkE tf tn (tkE tf tn (tkE tf tn po)))))), .int (zI nu2_32), .int (zI 0), .int (zI it), .int (zI sS), .int (zI sC), .int (zI sL), .int (zI (tkV tf tn (tkE tf tn po))), .ref mq, .ref mn, .ref mc, .ref mr, .ref mb])), (mt, .inl (G.2.1, 200, .inl (aZ tf))), (mq, .inl (G.2.1, 12, .inl (aZ qf)))] := hD
                      have hq_37 := tkS_rng (f := tf) (n := tn) (p := (tkE tf tn (tkE tf tn (tkE tf tn po)))) (by omega)
                      have hq_38 := tkE_rng (f := tf) (n := tn) (p := (tkE tf tn (tkE tf tn (tkE tf tn po)))) (by omega)
                      have hq_39 := tkK_rng (f := tf) (n := tn) (p := (tkE tf tn (tkE tf tn (tkE tf tn po)))) (by omega) (by first | assumption | omega)
                      have hq_40 := tkV_rng (f := tf) (n := tn) (p := (tkE tf tn (tkE tf tn (tkE tf tn po))))
                      exact hret H locs ls 206 (tkE tf tn (tkE tf tn (tkE tf tn (tkE tf tn po))), tkS tf tn (tkE tf tn (tkE tf tn (tkE tf tn po))), mtk (tkK tf tn (tkE tf tn (tkE tf tn (tkE tf tn po)))), nu2_32, 0, sS, sC, sL, tkV tf tn (tkE tf tn po), qf) (by exact ri_b_ok hk hc hok1.2 ((mtk3 _).mp (by assumption)) hnu_34 hnk_35 hnr_36) hP hS dX9_readItem_206
                  · refine lv_iconst (v := zI 1) hx hb dX9_readItem_187 rfl ?_
                    refine lv_goto (tgt := 192) hx hb dX9_readItem_188 (by decide) ?_
                    refine va_put (ci := 9) (v := .int (zI 1)) (ty := .boolean) (C := RX9) (T := TX9) (N := 30) hx hb hts i9 tyX9 tyX9_ok nmX9 hown hK hP hD hS 0 rfl rfl 19 (by decide) f87 (fun _ h9 => h9) rfl (tyX9_ok 19 (by decide)) (by decide) (by decide) (Nat.le_of_ble_eq_true rfl) dX9_readItem_192 (fun H locs hP hD hS => ?_)
                    have hP : kP G [(hm0, .inr (9, [.int (zI S), .int (zI C), .int (zI Wy), .int (zI Li), .ref ml, .ref ms, .ref mw, .int (zI kn), .ref mi, .ref mk, .int (zI hz), .ref mh, .long tr, .ref mt, .int (zI tn), .int (zI (tkE tf tn (tkE tf tn (tkE tf tn po)))), .int (zI (tkS tf tn (tkE tf tn (tkE tf tn po)))), .int (zI (mtk (tkK tf tn (tkE tf tn (tkE tf tn po))))), .int (zI nu2_21), .int (zI 1), .int (zI it), .int (zI sS), .int (zI sC), .int (zI sL), .int (zI (tkV tf tn (tkE tf tn po))), .ref mq, .ref mn, .ref mc, .ref mr, .ref mb])), (mt, .inl (G.2.1, 200, .inl (aZ tf))), (mq, .inl (G.2.1, 12, .inl (aZ qf)))] H := hP
                    have hD : va_D A [(hm0, .inr (9, [.int (zI S), .int (zI C), .int (zI Wy), .int (zI Li), .ref ml, .ref ms, .ref mw, .int (zI kn), .ref mi, .ref mk, .int (zI hz), .ref mh, .long tr, .ref mt, .int (zI tn), .int (zI (tkE tf tn (tkE tf tn (tkE tf tn po)))), .int (zI (tkS tf tn (tkE tf tn (tkE tf tn po)))), .int (zI (mtk (tkK tf tn (tkE tf tn (tkE tf tn po))))), .int (zI nu2_21), .int (zI 1), .int (zI it), .int (zI sS), .int (zI sC), .int (zI sL), .int (zI (tkV tf tn (tkE tf tn po))), .ref mq, .ref mn, .ref mc, .ref mr, .ref mb])), (mt, .inl (G.2.1, 200, .inl (aZ tf))), (mq, .inl (G.2.1, 12, .inl (aZ qf)))] := hD
                    refine lv_aload_n hx hb dX9_readItem_195 rfl (lv_at hl 2 rfl) ?_
                    refine va_get (ci := 9) (v := .int (zI 1)) (C := RX9) (T := TX9) (N := 30) hx hb hts i9 hown hK hP 0 rfl rfl 19 (by decide) f87 (fun _ h9 => h9) rfl dX9_readItem_196 ?_
                    refine z_if_ne (tgt := 206) hx hb (by omega) dX9_readItem_199 (by decide) (fun c_41 => ?_) (fun c_41 => ?_)
                    · exact hret H locs ls 206 (tkE tf tn (tkE tf tn (tkE tf tn po)), tkS tf tn (tkE tf tn (tkE tf tn po)), mtk (tkK tf tn (tkE tf tn (tkE tf tn po))), nu2_21, 1, sS, sC, sL, tkV tf tn (tkE tf tn po), qf) (by exact ri_b_b2 hk hc hok1.2 (fun h => absurd ((mtk3 _).mpr h) (by assumption)) (mtk_rng _)) hP hS dX9_readItem_206
                    · exact absurd c_41 (by omega)
              · obtain ⟨h_1, h_2, h_3, h_4, h_5⟩ := hB_25 hok1
                subst cu2_18 sa2_19 to2_20 nu2_21 wr2_22
                clear hA_24 hB_25
                refine z_top (if_neg hok1) ?_
                refine va_put (ci := 9) (v := .int (zI 0)) (ty := .int) (C := RX9) (T := TX9) (N := 30) hx hb hts i9 tyX9 tyX9_ok nmX9 hown hK hP hD hS 0 rfl rfl 24 (by decide) f110 (fun _ h9 => h9) rfl (tyX9_ok 24 (by decide)) rfl rfl (Nat.le_of_ble_eq_true rfl) dX9_readItem_168 (fun H locs hP hD hS => ?_)
                have hP : kP G [(hm0, .inr (9, [.int (zI S), .int (zI C), .int (zI Wy), .int (zI Li), .ref ml, .ref ms, .ref mw, .int (zI kn), .ref mi, .ref mk, .int (zI hz), .ref mh, .long tr, .ref mt, .int (zI tn), .int (zI (tkE tf tn (tkE tf tn po))), .int (zI (tkS tf tn (tkE tf tn po))), .int (zI (mtk (tkK tf tn (tkE tf tn po)))), .int (zI nu2_6), .int (zI 1), .int (zI it), .int (zI sS), .int (zI sC), .int (zI sL), .int (zI 0), .ref mq, .ref mn, .ref mc, .ref mr, .ref mb])), (mt, .inl (G.2.1, 200, .inl (aZ tf))), (mq, .inl (G.2.1, 12, .inl (aZ qf)))] H := hP
                have hD : va_D A [(hm0, .inr (9, [.int (zI S), .int (zI C), .int (zI Wy), .int (zI Li), .ref ml, .ref ms, .ref mw, .int (zI kn), .ref mi, .ref mk, .int (zI hz), .ref mh, .long tr, .ref mt, .int (zI tn), .int (zI (tkE tf tn (tkE tf tn po))), .int (zI (tkS tf tn (tkE tf tn po))), .int (zI (mtk (tkK tf tn (tkE tf tn po)))), .int (zI nu2_6), .int (zI 1), .int (zI it), .int (zI sS), .int (zI sC), .int (zI sL), .int (zI 0), .ref mq, .ref mn, .ref mc, .ref mr, .ref mb])), (mt, .inl (G.2.1, 200, .inl (aZ tf))), (mq, .inl (G.2.1, 12, .inl (aZ qf)))] := hD
                refine lv_aload_n hx hb dX9_readItem_171 rfl (lv_at hl 2 rfl) ?_
                refine lv_aload_n hx hb dX9_readItem_172 rfl (lv_at hl 2 rfl) ?_
                refine va_get (ci := 9) (v := .int (zI 1)) (C := RX9) (T := TX9) (N := 30) hx hb hts i9 hown hK hP 0 rfl rfl 19 (by decide) f87 (fun _ h9 => h9) rfl dX9_readItem_173 ?_
                refine z_if_ne (tgt := 187) hx hb (by omega) dX9_readItem_176 (by decide) (fun c_42 => ?_) (fun c_42 => ?_)
                · refine lv_iconst (v := zI 1) hx hb dX9_readItem_187 rfl ?_
                  refine lv_goto (tgt := 192) hx hb dX9_readItem_188 (by decide) ?_
                  refine va_put (ci := 9) (v := .int (zI 1)) (ty := .boolean) (C := RX9) (T := TX9) (N := 30) hx hb hts i9 tyX9 tyX9_ok nmX9 hown hK hP hD hS 0 rfl rfl 19 (by decide) f87 (fun _ h9 => h9) rfl (tyX9_ok 19 (by decide)) (by decide) (by decide) (Nat.le_of_ble_eq_true rfl) dX9_readItem_192 (fun H locs hP hD hS => ?_)
                  have hP : kP G [(hm0, .inr (9, [.int (zI S), .int (zI C), .int (zI Wy), .int (zI Li), .ref ml, .ref ms, .ref mw, .int (zI kn), .ref mi, .ref mk, .int (zI hz), .ref mh, .long tr, .ref mt, .int (zI tn), .int (zI (tkE tf tn (tkE tf tn po))), .int (zI (tkS tf tn (tkE tf tn po))), .int (zI (mtk (tkK tf tn (tkE tf tn po)))), .int (zI nu2_6), .int (zI 1), .int (zI it), .int (zI sS), .int (zI sC), .int (zI sL), .int (zI 0), .ref mq, .ref mn, .ref mc, .ref mr, .ref mb])), (mt, .inl (G.2.1, 200, .inl (aZ tf))), (mq, .inl (G.2.1, 12, .inl (aZ qf)))] H := hP
                  have hD : va_D A [(hm0, .inr (9, [.int (zI S), .int (zI C), .int (zI Wy), .int (zI Li), .ref ml, .ref ms, .ref mw, .int (zI kn), .ref mi, .ref mk, .int (zI hz), .ref mh, .long tr, .ref mt, .int (zI tn), .int (zI (tkE tf tn (tkE tf tn po))), .int (zI (tkS tf tn (tkE tf tn po))), .int (zI (mtk (tkK tf tn (tkE tf tn po)))), .int (zI nu2_6), .int (zI 1), .int (zI it), .int (zI sS), .int (zI sC), .int (zI sL), .int (zI 0), .ref mq, .ref mn, .ref mc, .ref mr, .ref mb])), (mt, .inl (G.2.1, 200, .inl (aZ tf))), (mq, .inl (G.2.1, 12, .inl (aZ qf)))] := hD
                  refine lv_aload_n hx hb dX9_readItem_195 rfl (lv_at hl 2 rfl) ?_
                  refine va_get (ci := 9) (v := .int (zI 1)) (C := RX9) (T := TX9) (N := 30) hx hb hts i9 hown hK hP 0 rfl rfl 19 (by decide) f87 (fun _ h9 => h9) rfl dX9_readItem_196 ?_
                  refine z_if_ne (tgt := 206) hx hb (by omega) dX9_readItem_199 (by decide) (fun c_43 => ?_) (fun c_43 => ?_)
                  · exact hret H locs ls 206 (tkE tf tn (tkE tf tn po), tkS tf tn (tkE tf tn po), mtk (tkK tf tn (tkE tf tn po)), nu2_6, 1, sS, sC, sL, 0, qf) (by exact ri_b_b1 hk hc (fun h => hok1 ⟨rfl, h⟩) (mtk_rng _)) hP hS dX9_readItem_206
                  · exact absurd c_43 (by omega)
                · exact absurd c_42 (by omega)
            · have hk : tkK tf tn po = 109 := hnuk.symm.trans (by assumption)
              have hc := out_m hout (by assumption) hlt
              clear hk1 hout hnk hlt hbt
              refine lv_aload_n hx hb dX9_readItem_137 rfl (lv_at hl 2 rfl) ?_
              refine lv_aload_n hx hb dX9_readItem_138 rfl (lv_at hl 2 rfl) ?_
              refine lv_iconst (v := zI 5) hx hb dX9_readItem_139 rfl ?_
              refine lv_bipush (v := zI 99) hx hb dX9_readItem_140 (by decide) ?_
              refine z_wV (As := [.int (zI 5), .int (zI 99)]) (rest := [.ref hm0]) ⟨hx, hb, hml, hown, hts⟩ (c_X9_takes l G hm0 S C Wy Li ml ms mw kn mi mk hz mh tr mt tn (tkE tf tn (tkE tf tn po)) (tkS tf tn (tkE tf tn po)) (mtk (tkK tf tn (tkE tf tn po))) nu2_6 0 it sS sC sL sW mq mn mc mr mb tf (tkE tf tn po) 5 99 (by first | assumption | omega) (by first | assumption | omega) (by first | assumption | omega) (by first | assumption | rfl | omega) (by first | assumption | rfl) (by first | assumption | exact hok1u) (by first | assumption | exact hok1r) (by first | assumption | omega) (by first | assumption | omega)) (cwV 2 hts gX9_readItem_X9_takes rfl rfl rfl pd_X9_takes ⟨(Nat.le_of_ble_eq_true rfl), (Nat.le_of_ble_eq_true rfl)⟩) hK hP hD hS [0, 1] (by decide) rfl rfl rfl rfl (fun _ => Eq.trans (b := [hm0, mt]) rfl rfl) rfl hl.1 rfl (Nat.le_of_ble_eq_true rfl) dX9_readItem_142 ⟨Nat.zero_le _, Nat.zero_le _⟩ (fun r_ u_ H locs hw_49 hP hD hS => ?_)
              obtain ⟨cu2_44, sa2_45, to2_46, nu2_47, wr2_48⟩ := u_
              obtain ⟨rfl, hw_49⟩ := hw_49
              try dsimp only at hw_49
              obtain ⟨hA_50, hB_51⟩ := hw_49
              have hP : kP G [(hm0, .inr (9, [.int (zI S), .int (zI C), .int (zI Wy), .int (zI Li), .ref ml, .ref ms, .ref mw, .int (zI kn), .ref mi, .ref mk, .int (zI hz), .ref mh, .long tr, .ref mt, .int (zI tn), .int (zI cu2_44), .int (zI sa2_45), .int (zI to2_46), .int (zI nu2_47), .int (zI wr2_48), .int (zI it), .int (zI sS), .int (zI sC), .int (zI sL), .int (zI sW), .ref mq, .ref mn, .ref mc, .ref mr, .ref mb])), (mt, .inl (G.2.1, 200, .inl (aZ tf))), (mq, .inl (G.2.1, 12, .inl (aZ qf)))] H := hP
              have hD : va_D A [(hm0, .inr (9, [.int (zI S), .int (zI C), .int (zI Wy), .int (zI Li), .ref ml, .ref ms, .ref mw, .int (zI kn), .ref mi, .ref mk, .int (zI hz), .ref mh, .long tr, .ref mt, .int (zI tn), .int (zI cu2_44), .int (zI sa2_45), .int (zI to2_46), .int (zI nu2_47), .int (zI wr2_48), .int (zI it), .int (zI sS), .int (zI sC), .int (zI sL), .int (zI sW), .ref mq, .ref mn, .ref mc, .ref mr, .ref mb])), (mt, .inl (G.2.1, 200, .inl (aZ tf))), (mq, .inl (G.2.1, 12, .inl (aZ qf)))] := hD
              by_cases hok1 : ((0 : Int) = 0 ∧ tkK tf tn (tkE tf tn po) = -2 ∧ 5 ≤ tkV tf tn (tkE tf tn po) ∧ tkV tf tn (tkE tf tn po) ≤ 99)
              · obtain ⟨h_1, h_2, h_3, hok1u, hok1k, hok1r, h_7⟩ := hA_50 hok1
                subst cu2_44 sa2_45 to2_46 wr2_48
                clear hA_50 hB_51
                refine z_top (if_pos hok1) ?_
                refine va_put (ci := 9) (v := .int (zI (tkV tf tn (tkE tf tn po)))) (ty := .int) (C := RX9) (T := TX9) (N := 30) hx hb hts i9 tyX9 tyX9_ok nmX9 hown hK hP hD hS 0 rfl rfl 23 (by decide) f107 (fun _ h9 => h9) rfl (tyX9_ok 23 (by decide)) rfl rfl (Nat.le_of_ble_eq_true rfl) dX9_readItem_145 (fun H locs hP hD hS => ?_)
                have hP : kP G [(hm0, .inr (9, [.int (zI S), .int (zI C), .int (zI Wy), .int (zI Li), .ref ml, .ref ms, .ref mw, .int (zI kn), .ref mi, .ref mk, .int (zI hz), .ref mh, .long tr, .ref mt, .int (zI tn), .int (zI (tkE tf tn (tkE tf tn (tkE tf tn po)))), .int (zI (tkS tf tn (tkE tf tn (tkE tf tn po)))), .int (zI (mtk (tkK tf tn (tkE tf tn (tkE tf tn po))))), .int (zI nu2_47), .int (zI 0), .int (zI it), .int (zI sS), .int (zI sC), .int (zI (tkV tf tn (tkE tf tn po))), .int (zI sW), .ref mq, .ref mn, .ref mc, .ref mr, .ref mb])), (mt, .inl (G.2.1, 200, .inl (aZ tf))), (mq, .inl (G.2.1, 12, .inl (aZ qf)))] H := hP
                have hD : va_D A [(hm0, .inr (9, [.int (zI S), .int (zI C), .int (zI Wy), .int (zI Li), .ref ml, .ref ms, .ref mw, .int (zI kn), .ref mi, .ref mk, .int (zI hz), .ref mh, .long tr, .ref mt, .int (zI tn), .int (zI (tkE tf tn (tkE tf tn (tkE tf tn po)))), .int (zI (tkS tf tn (tkE tf tn (tkE tf tn po)))), .int (zI (mtk (tkK tf tn (tkE tf tn (tkE tf tn po))))), .int (zI nu2_47), .int (zI 0), .int (zI it), .int (zI sS), .int (zI sC), .int (zI (tkV tf tn (tkE tf tn po))), .int (zI sW), .ref mq, .ref mn, .ref mc, .ref mr, .ref mb])), (mt, .inl (G.2.1, 200, .inl (aZ tf))), (mq, .inl (G.2.1, 12, .inl (aZ qf)))] := hD
                refine lv_goto (tgt := 171) hx hb dX9_readItem_148 (by decide) ?_
                refine lv_aload_n hx hb dX9_readItem_171 rfl (lv_at hl 2 rfl) ?_
                refine lv_aload_n hx hb dX9_readItem_172 rfl (lv_at hl 2 rfl) ?_
                refine va_get (ci := 9) (v := .int (zI 0)) (C := RX9) (T := TX9) (N := 30) hx hb hts i9 hown hK hP 0 rfl rfl 19 (by decide) f87 (fun _ h9 => h9) rfl dX9_readItem_173 ?_
                refine z_if_ne (tgt := 187) hx hb (by omega) dX9_readItem_176 (by decide) (fun c_52 => ?_) (fun c_52 => ?_)
                · exact absurd c_52 (by omega)
                · refine lv_aload_n hx hb dX9_readItem_179 rfl (lv_at hl 2 rfl) ?_
                  refine va_get (ci := 9) (v := .int (zI (mtk (tkK tf tn (tkE tf tn (tkE tf tn po)))))) (C := RX9) (T := TX9) (N := 30) hx hb hts i9 hown hK hP 0 rfl rfl 17 (by decide) f80 (fun _ h9 => h9) rfl dX9_readItem_180 ?_
                  refine lv_iconst (v := zI 3) hx hb dX9_readItem_183 rfl ?_
                  refine z_icmp_eq (tgt := 191) hx hb (by omega) dX9_readItem_184 (by decide) (fun c_53 => ?_) (fun c_53 => ?_)
                  · refine lv_iconst (v := zI 0) hx hb dX9_readItem_191 rfl ?_
                    refine va_put (ci := 9) (v := .int (zI 0)) (ty := .boolean) (C := RX9) (T := TX9) (N := 30) hx hb hts i9 tyX9 tyX9_ok nmX9 hown hK hP hD hS 0 rfl rfl 19 (by decide) f87 (fun _ h9 => h9) rfl (tyX9_ok 19 (by decide)) (by decide) (by decide) (Nat.le_of_ble_eq_true rfl) dX9_readItem_192 (fun H locs hP hD hS => ?_)
                    have hP : kP G [(hm0, .inr (9, [.int (zI S), .int (zI C), .int (zI Wy), .int (zI Li), .ref ml, .ref ms, .ref mw, .int (zI kn), .ref mi, .ref mk, .int (zI hz), .ref mh, .long tr, .ref mt, .int (zI tn), .int (zI (tkE tf tn (tkE tf tn (tkE tf tn po)))), .int (zI (tkS tf tn (tkE tf tn (tkE tf tn po)))), .int (zI (mtk (tkK tf tn (tkE tf tn (tkE tf tn po))))), .int (zI nu2_47), .int (zI 0), .int (zI it), .int (zI sS), .int (zI sC), .int (zI (tkV tf tn (tkE tf tn po))), .int (zI sW), .ref mq, .ref mn, .ref mc, .ref mr, .ref mb])), (mt, .inl (G.2.1, 200, .inl (aZ tf))), (mq, .inl (G.2.1, 12, .inl (aZ qf)))] H := hP
                    have hD : va_D A [(hm0, .inr (9, [.int (zI S), .int (zI C), .int (zI Wy), .int (zI Li), .ref ml, .ref ms, .ref mw, .int (zI kn), .ref mi, .ref mk, .int (zI hz), .ref mh, .long tr, .ref mt, .int (zI tn), .int (zI (tkE tf tn (tkE tf tn (tkE tf tn po)))), .int (zI (tkS tf tn (tkE tf tn (tkE tf tn po)))), .int (zI (mtk (tkK tf tn (tkE tf tn (tkE tf tn po))))), .int (zI nu2_47), .int (zI 0), .int (zI it), .int (zI sS), .int (zI sC), .int (zI (tkV tf tn (tkE tf tn po))), .int (zI sW), .ref mq, .ref mn, .ref mc, .ref mr, .ref mb])), (mt, .inl (G.2.1, 200, .inl (aZ tf))), (mq, .inl (G.2.1, 12, .inl (aZ qf)))] := hD
                    refine lv_aload_n hx hb dX9_readItem_195 rfl (lv_at hl 2 rfl) ?_
                    refine va_get (ci := 9) (v := .int (zI 0)) (C := RX9) (T := TX9) (N := 30) hx hb hts i9 hown hK hP 0 rfl rfl 19 (by decide) f87 (fun _ h9 => h9) rfl dX9_readItem_196 ?_
                    refine z_if_ne (tgt := 206) hx hb (by omega) dX9_readItem_199 (by decide) (fun c_54 => ?_) (fun c_54 => ?_)
                    · exact absurd c_54 (by omega)
                    · refine lv_aload_n hx hb dX9_readItem_202 rfl (lv_at hl 2 rfl) ?_
                      refine z_wVv (As := []) (rest := []) ⟨hx, hb, hml, hown, hts⟩ (c_X9_next l G hm0 S C Wy Li ml ms mw kn mi mk hz mh tr mt tn (tkE tf tn (tkE tf tn (tkE tf tn po))) (tkS tf tn (tkE tf tn (tkE tf tn po))) (mtk (tkK tf tn (tkE tf tn (tkE tf tn po)))) nu2_47 0 it sS sC (tkV tf tn (tkE tf tn po)) sW mq mn mc mr mb tf (by first | assumption | omega) (by first | assumption | omega) (by first | assumption | rfl | omega)) (cwV 0 hts gX9_readItem_X9_next rfl rfl rfl pd_X9_next ⟨(Nat.le_of_ble_eq_true rfl), (Nat.le_of_ble_eq_true rfl)⟩) hK hP hD hS [0, 1] (by decide) rfl rfl rfl rfl (fun _ => Eq.trans (b := [hm0, mt]) rfl rfl) rfl hl.1 rfl (Nat.le_of_ble_eq_true rfl) dX9_readItem_203 ⟨Nat.zero_le _, Nat.zero_le _⟩ (fun u_ H locs hw_59 hP hD hS => ?_)
                      obtain ⟨cu2_55, sa2_56, to2_57, nu2_58⟩ := u_
                      try dsimp only at hw_59
                      obtain ⟨rfl, rfl, rfl, hnu_60, hnk_61, hnr_62⟩ := hw_59
                      have hP : kP G [(hm0, .inr (9, [.int (zI S), .int (zI C), .int (zI Wy), .int (zI Li), .ref ml, .ref ms, .ref mw, .int (zI kn), .ref mi, .ref mk, .int (zI hz), .ref mh, .long tr, .ref mt, .int (zI tn), .int (zI (tkE tf tn (tkE tf tn (tkE tf tn (tkE tf tn po))))), .int (zI (tkS tf tn (tkE tf tn (tkE tf tn (tkE tf tn po))))), .int (zI (mtk (tkK tf tn (tkE tf tn (tkE tf tn (tkE tf tn po)))))), .int (zI nu2_58), .int (zI 0), .int (zI it), .int (zI sS), .int (zI sC), .int (zI (tkV tf tn (tkE tf tn po))), .int (zI sW), .ref mq, .ref mn, .ref mc, .ref mr, .ref mb])), (mt, .inl (G.2.1, 200, .inl (aZ tf))), (mq, .inl (G.2.1, 12, .inl (aZ qf)))] H := hP
                      have hD : va_D A [(hm0, .inr (9, [.int (zI S), .int (zI C), .int (zI Wy), .int (zI Li), .ref ml, .ref ms, .ref mw, .int (zI kn), .ref mi, .ref mk, .int (zI hz), .ref mh, .long tr, .ref mt, .int (zI tn), .int (zI (tkE tf tn (tkE tf tn (tkE tf tn (tkE tf tn po))))), .int (zI (tkS tf tn (tkE tf tn (tkE tf tn (tkE tf tn po))))), .int (zI (mtk (tkK tf tn (tkE tf tn (tkE tf tn (tkE tf tn po)))))), .int (zI nu2_58), .int (zI 0), .int (zI it), .int (zI sS), .int (zI sC), .int (zI (tkV tf tn (tkE tf tn po))), .int (zI sW), .ref mq, .ref mn, .ref mc, .ref mr, .ref mb])), (mt, .inl (G.2.1, 200, .inl (aZ tf))), (mq, .inl (G.2.1, 12, .inl (aZ qf)))] := hD
                      have hq_63 := tkS_rng (f := tf) (n := tn) (p := (tkE tf tn (tkE tf tn (tkE tf tn po)))) (by omega)
                      have hq_64 := tkE_rng (f := tf) (n := tn) (p := (tkE tf tn (tkE tf tn (tkE tf tn po)))) (by omega)
                      have hq_65 := tkK_rng (f := tf) (n := tn) (p := (tkE tf tn (tkE tf tn (tkE tf tn po)))) (by omega) (by first | assumption | omega)
                      have hq_66 := tkV_rng (f := tf) (n := tn) (p := (tkE tf tn (tkE tf tn (tkE tf tn po))))
                      exact hret H locs ls 206 (tkE tf tn (tkE tf tn (tkE tf tn (tkE tf tn po))), tkS tf tn (tkE tf tn (tkE tf tn (tkE tf tn po))), mtk (tkK tf tn (tkE tf tn (tkE tf tn (tkE tf tn po)))), nu2_58, 0, sS, sC, tkV tf tn (tkE tf tn po), sW, qf) (by exact ri_m_ok hk hc hok1.2 ((mtk3 _).mp (by assumption)) hnu_60 hnk_61 hnr_62) hP hS dX9_readItem_206
                  · refine lv_iconst (v := zI 1) hx hb dX9_readItem_187 rfl ?_
                    refine lv_goto (tgt := 192) hx hb dX9_readItem_188 (by decide) ?_
                    refine va_put (ci := 9) (v := .int (zI 1)) (ty := .boolean) (C := RX9) (T := TX9) (N := 30) hx hb hts i9 tyX9 tyX9_ok nmX9 hown hK hP hD hS 0 rfl rfl 19 (by decide) f87 (fun _ h9 => h9) rfl (tyX9_ok 19 (by decide)) (by decide) (by decide) (Nat.le_of_ble_eq_true rfl) dX9_readItem_192 (fun H locs hP hD hS => ?_)
                    have hP : kP G [(hm0, .inr (9, [.int (zI S), .int (zI C), .int (zI Wy), .int (zI Li), .ref ml, .ref ms, .ref mw, .int (zI kn), .ref mi, .ref mk, .int (zI hz), .ref mh, .long tr, .ref mt, .int (zI tn), .int (zI (tkE tf tn (tkE tf tn (tkE tf tn po)))), .int (zI (tkS tf tn (tkE tf tn (tkE tf tn po)))), .int (zI (mtk (tkK tf tn (tkE tf tn (tkE tf tn po))))), .int (zI nu2_47), .int (zI 1), .int (zI it), .int (zI sS), .int (zI sC), .int (zI (tkV tf tn (tkE tf tn po))), .int (zI sW), .ref mq, .ref mn, .ref mc, .ref mr, .ref mb])), (mt, .inl (G.2.1, 200, .inl (aZ tf))), (mq, .inl (G.2.1, 12, .inl (aZ qf)))] H := hP
                    have hD : va_D A [(hm0, .inr (9, [.int (zI S), .int (zI C), .int (zI Wy), .int (zI Li), .ref ml, .ref ms, .ref mw, .int (zI kn), .ref mi, .ref mk, .int (zI hz), .ref mh, .long tr, .ref mt, .int (zI tn), .int (zI (tkE tf tn (tkE tf tn (tkE tf tn po)))), .int (zI (tkS tf tn (tkE tf tn (tkE tf tn po)))), .int (zI (mtk (tkK tf tn (tkE tf tn (tkE tf tn po))))), .int (zI nu2_47), .int (zI 1), .int (zI it), .int (zI sS), .int (zI sC), .int (zI (tkV tf tn (tkE tf tn po))), .int (zI sW), .ref mq, .ref mn, .ref mc, .ref mr, .ref mb])), (mt, .inl (G.2.1, 200, .inl (aZ tf))), (mq, .inl (G.2.1, 12, .inl (aZ qf)))] := hD
                    refine lv_aload_n hx hb dX9_readItem_195 rfl (lv_at hl 2 rfl) ?_
                    refine va_get (ci := 9) (v := .int (zI 1)) (C := RX9) (T := TX9) (N := 30) hx hb hts i9 hown hK hP 0 rfl rfl 19 (by decide) f87 (fun _ h9 => h9) rfl dX9_readItem_196 ?_
                    refine z_if_ne (tgt := 206) hx hb (by omega) dX9_readItem_199 (by decide) (fun c_67 => ?_) (fun c_67 => ?_)
                    · exact hret H locs ls 206 (tkE tf tn (tkE tf tn (tkE tf tn po)), tkS tf tn (tkE tf tn (tkE tf tn po)), mtk (tkK tf tn (tkE tf tn (tkE tf tn po))), nu2_47, 1, sS, sC, tkV tf tn (tkE tf tn po), sW, qf) (by exact ri_m_b2 hk hc hok1.2 (fun h => absurd ((mtk3 _).mpr h) (by assumption)) (mtk_rng _)) hP hS dX9_readItem_206
                    · exact absurd c_67 (by omega)
              · obtain ⟨h_1, h_2, h_3, h_4, h_5⟩ := hB_51 hok1
                subst cu2_44 sa2_45 to2_46 nu2_47 wr2_48
                clear hA_50 hB_51
                refine z_top (if_neg hok1) ?_
                refine va_put (ci := 9) (v := .int (zI 0)) (ty := .int) (C := RX9) (T := TX9) (N := 30) hx hb hts i9 tyX9 tyX9_ok nmX9 hown hK hP hD hS 0 rfl rfl 23 (by decide) f107 (fun _ h9 => h9) rfl (tyX9_ok 23 (by decide)) rfl rfl (Nat.le_of_ble_eq_true rfl) dX9_readItem_145 (fun H locs hP hD hS => ?_)
                have hP : kP G [(hm0, .inr (9, [.int (zI S), .int (zI C), .int (zI Wy), .int (zI Li), .ref ml, .ref ms, .ref mw, .int (zI kn), .ref mi, .ref mk, .int (zI hz), .ref mh, .long tr, .ref mt, .int (zI tn), .int (zI (tkE tf tn (tkE tf tn po))), .int (zI (tkS tf tn (tkE tf tn po))), .int (zI (mtk (tkK tf tn (tkE tf tn po)))), .int (zI nu2_6), .int (zI 1), .int (zI it), .int (zI sS), .int (zI sC), .int (zI 0), .int (zI sW), .ref mq, .ref mn, .ref mc, .ref mr, .ref mb])), (mt, .inl (G.2.1, 200, .inl (aZ tf))), (mq, .inl (G.2.1, 12, .inl (aZ qf)))] H := hP
                have hD : va_D A [(hm0, .inr (9, [.int (zI S), .int (zI C), .int (zI Wy), .int (zI Li), .ref ml, .ref ms, .ref mw, .int (zI kn), .ref mi, .ref mk, .int (zI hz), .ref mh, .long tr, .ref mt, .int (zI tn), .int (zI (tkE tf tn (tkE tf tn po))), .int (zI (tkS tf tn (tkE tf tn po))), .int (zI (mtk (tkK tf tn (tkE tf tn po)))), .int (zI nu2_6), .int (zI 1), .int (zI it), .int (zI sS), .int (zI sC), .int (zI 0), .int (zI sW), .ref mq, .ref mn, .ref mc, .ref mr, .ref mb])), (mt, .inl (G.2.1, 200, .inl (aZ tf))), (mq, .inl (G.2.1, 12, .inl (aZ qf)))] := hD
                refine lv_goto (tgt := 171) hx hb dX9_readItem_148 (by decide) ?_
                refine lv_aload_n hx hb dX9_readItem_171 rfl (lv_at hl 2 rfl) ?_
                refine lv_aload_n hx hb dX9_readItem_172 rfl (lv_at hl 2 rfl) ?_
                refine va_get (ci := 9) (v := .int (zI 1)) (C := RX9) (T := TX9) (N := 30) hx hb hts i9 hown hK hP 0 rfl rfl 19 (by decide) f87 (fun _ h9 => h9) rfl dX9_readItem_173 ?_
                refine z_if_ne (tgt := 187) hx hb (by omega) dX9_readItem_176 (by decide) (fun c_68 => ?_) (fun c_68 => ?_)
                · refine lv_iconst (v := zI 1) hx hb dX9_readItem_187 rfl ?_
                  refine lv_goto (tgt := 192) hx hb dX9_readItem_188 (by decide) ?_
                  refine va_put (ci := 9) (v := .int (zI 1)) (ty := .boolean) (C := RX9) (T := TX9) (N := 30) hx hb hts i9 tyX9 tyX9_ok nmX9 hown hK hP hD hS 0 rfl rfl 19 (by decide) f87 (fun _ h9 => h9) rfl (tyX9_ok 19 (by decide)) (by decide) (by decide) (Nat.le_of_ble_eq_true rfl) dX9_readItem_192 (fun H locs hP hD hS => ?_)
                  have hP : kP G [(hm0, .inr (9, [.int (zI S), .int (zI C), .int (zI Wy), .int (zI Li), .ref ml, .ref ms, .ref mw, .int (zI kn), .ref mi, .ref mk, .int (zI hz), .ref mh, .long tr, .ref mt, .int (zI tn), .int (zI (tkE tf tn (tkE tf tn po))), .int (zI (tkS tf tn (tkE tf tn po))), .int (zI (mtk (tkK tf tn (tkE tf tn po)))), .int (zI nu2_6), .int (zI 1), .int (zI it), .int (zI sS), .int (zI sC), .int (zI 0), .int (zI sW), .ref mq, .ref mn, .ref mc, .ref mr, .ref mb])), (mt, .inl (G.2.1, 200, .inl (aZ tf))), (mq, .inl (G.2.1, 12, .inl (aZ qf)))] H := hP
                  have hD : va_D A [(hm0, .inr (9, [.int (zI S), .int (zI C), .int (zI Wy), .int (zI Li), .ref ml, .ref ms, .ref mw, .int (zI kn), .ref mi, .ref mk, .int (zI hz), .ref mh, .long tr, .ref mt, .int (zI tn), .int (zI (tkE tf tn (tkE tf tn po))), .int (zI (tkS tf tn (tkE tf tn po))), .int (zI (mtk (tkK tf tn (tkE tf tn po)))), .int (zI nu2_6), .int (zI 1), .int (zI it), .int (zI sS), .int (zI sC), .int (zI 0), .int (zI sW), .ref mq, .ref mn, .ref mc, .ref mr, .ref mb])), (mt, .inl (G.2.1, 200, .inl (aZ tf))), (mq, .inl (G.2.1, 12, .inl (aZ qf)))] := hD
                  refine lv_aload_n hx hb dX9_readItem_195 rfl (lv_at hl 2 rfl) ?_
                  refine va_get (ci := 9) (v := .int (zI 1)) (C := RX9) (T := TX9) (N := 30) hx hb hts i9 hown hK hP 0 rfl rfl 19 (by decide) f87 (fun _ h9 => h9) rfl dX9_readItem_196 ?_
                  refine z_if_ne (tgt := 206) hx hb (by omega) dX9_readItem_199 (by decide) (fun c_69 => ?_) (fun c_69 => ?_)
                  · exact hret H locs ls 206 (tkE tf tn (tkE tf tn po), tkS tf tn (tkE tf tn po), mtk (tkK tf tn (tkE tf tn po)), nu2_6, 1, sS, sC, 0, sW, qf) (by exact ri_m_b1 hk hc (fun h => hok1 ⟨rfl, h⟩) (mtk_rng _)) hP hS dX9_readItem_206
                  · exact absurd c_69 (by omega)
                · exact absurd c_68 (by omega)
          · have hk : tkK tf tn po = 108 := hnuk.symm.trans (by assumption)
            clear hk1 hout hnk hlt hbt
            refine lv_aload_n hx hb dX9_readItem_124 rfl (lv_at hl 2 rfl) ?_
            refine z_wVv (As := []) (rest := []) ⟨hx, hb, hml, hown, hts⟩ (c_X9_readLoad l G hm0 S C Wy Li ml ms mw kn mi mk hz mh tr mt tn (tkE tf tn (tkE tf tn po)) (tkS tf tn (tkE tf tn po)) (mtk (tkK tf tn (tkE tf tn po))) nu2_6 0 it sS sC sL sW mq mn mc mr mb tf qf (tkE tf tn po) (by first | assumption | omega) (by first | assumption | omega) (by first | assumption | omega) (by first | assumption | rfl | omega) (by first | assumption | rfl) (by first | assumption | exact hok1u) (by first | assumption | exact hok1r) (by first | assumption | rfl) (by first | assumption | omega)) (cwV 0 hts gX9_readItem_X9_readLoad rfl rfl rfl pd_X9_readLoad ⟨(Nat.le_of_ble_eq_true rfl), (Nat.le_of_ble_eq_true rfl)⟩) hK hP hD hS [0, 1, 2] (by decide) rfl rfl rfl rfl (fun _ => Eq.trans (b := [hm0, mt, mq]) rfl rfl) rfl hl.1 rfl (Nat.le_of_ble_eq_true rfl) dX9_readItem_125 ⟨Nat.zero_le _, Nat.zero_le _⟩ (fun u_ H locs hw_76 hP hD hS => ?_)
            obtain ⟨cu2_70, sa2_71, to2_72, nu2_73, wr2_74, qf2_75⟩ := u_
            try dsimp only at hw_76
            obtain ⟨hA_77, hB_78⟩ := hw_76
            have hP : kP G [(hm0, .inr (9, [.int (zI S), .int (zI C), .int (zI Wy), .int (zI Li), .ref ml, .ref ms, .ref mw, .int (zI kn), .ref mi, .ref mk, .int (zI hz), .ref mh, .long tr, .ref mt, .int (zI tn), .int (zI cu2_70), .int (zI sa2_71), .int (zI to2_72), .int (zI nu2_73), .int (zI wr2_74), .int (zI it), .int (zI sS), .int (zI sC), .int (zI sL), .int (zI sW), .ref mq, .ref mn, .ref mc, .ref mr, .ref mb])), (mt, .inl (G.2.1, 200, .inl (aZ tf))), (mq, .inl (G.2.1, 12, .inl (aZ qf2_75)))] H := hP
            have hD : va_D A [(hm0, .inr (9, [.int (zI S), .int (zI C), .int (zI Wy), .int (zI Li), .ref ml, .ref ms, .ref mw, .int (zI kn), .ref mi, .ref mk, .int (zI hz), .ref mh, .long tr, .ref mt, .int (zI tn), .int (zI cu2_70), .int (zI sa2_71), .int (zI to2_72), .int (zI nu2_73), .int (zI wr2_74), .int (zI it), .int (zI sS), .int (zI sC), .int (zI sL), .int (zI sW), .ref mq, .ref mn, .ref mc, .ref mr, .ref mb])), (mt, .inl (G.2.1, 200, .inl (aZ tf))), (mq, .inl (G.2.1, 12, .inl (aZ qf2_75)))] := hD
            by_cases hok2 : ((tkK tf tn (tkE tf tn po) = -2 ∧ 0 ≤ tkV tf tn (tkE tf tn po) ∧ tkV tf tn (tkE tf tn po) ≤ sS * sC - 1) ∧ (tkK tf tn (tkE tf tn (tkE tf tn po)) = -2 ∧ 1 ≤ tkV tf tn (tkE tf tn (tkE tf tn po)) ∧ tkV tf tn (tkE tf tn (tkE tf tn po)) ≤ 9))
            · obtain ⟨⟨h_1, h_2, h_3, hok2u, hok2k, hok2r⟩, h_7, h_8⟩ := hA_77 hok2
              subst cu2_70 sa2_71 to2_72 wr2_74 qf2_75
              clear hA_77 hB_78
              refine lv_goto (tgt := 171) hx hb dX9_readItem_128 (by decide) ?_
              refine lv_aload_n hx hb dX9_readItem_171 rfl (lv_at hl 2 rfl) ?_
              refine lv_aload_n hx hb dX9_readItem_172 rfl (lv_at hl 2 rfl) ?_
              refine va_get (ci := 9) (v := .int (zI 0)) (C := RX9) (T := TX9) (N := 30) hx hb hts i9 hown hK hP 0 rfl rfl 19 (by decide) f87 (fun _ h9 => h9) rfl dX9_readItem_173 ?_
              refine z_if_ne (tgt := 187) hx hb (by omega) dX9_readItem_176 (by decide) (fun c_79 => ?_) (fun c_79 => ?_)
              · exact absurd c_79 (by omega)
              · refine lv_aload_n hx hb dX9_readItem_179 rfl (lv_at hl 2 rfl) ?_
                refine va_get (ci := 9) (v := .int (zI (mtk (tkK tf tn (tkE tf tn (tkE tf tn (tkE tf tn po))))))) (C := RX9) (T := TX9) (N := 30) hx hb hts i9 hown hK hP 0 rfl rfl 17 (by decide) f80 (fun _ h9 => h9) rfl dX9_readItem_180 ?_
                refine lv_iconst (v := zI 3) hx hb dX9_readItem_183 rfl ?_
                refine z_icmp_eq (tgt := 191) hx hb (by omega) dX9_readItem_184 (by decide) (fun c_80 => ?_) (fun c_80 => ?_)
                · refine lv_iconst (v := zI 0) hx hb dX9_readItem_191 rfl ?_
                  refine va_put (ci := 9) (v := .int (zI 0)) (ty := .boolean) (C := RX9) (T := TX9) (N := 30) hx hb hts i9 tyX9 tyX9_ok nmX9 hown hK hP hD hS 0 rfl rfl 19 (by decide) f87 (fun _ h9 => h9) rfl (tyX9_ok 19 (by decide)) (by decide) (by decide) (Nat.le_of_ble_eq_true rfl) dX9_readItem_192 (fun H locs hP hD hS => ?_)
                  have hP : kP G [(hm0, .inr (9, [.int (zI S), .int (zI C), .int (zI Wy), .int (zI Li), .ref ml, .ref ms, .ref mw, .int (zI kn), .ref mi, .ref mk, .int (zI hz), .ref mh, .long tr, .ref mt, .int (zI tn), .int (zI (tkE tf tn (tkE tf tn (tkE tf tn (tkE tf tn po))))), .int (zI (tkS tf tn (tkE tf tn (tkE tf tn (tkE tf tn po))))), .int (zI (mtk (tkK tf tn (tkE tf tn (tkE tf tn (tkE tf tn po)))))), .int (zI nu2_73), .int (zI 0), .int (zI it), .int (zI sS), .int (zI sC), .int (zI sL), .int (zI sW), .ref mq, .ref mn, .ref mc, .ref mr, .ref mb])), (mt, .inl (G.2.1, 200, .inl (aZ tf))), (mq, .inl (G.2.1, 12, .inl (aZ (uZ qf (tkV tf tn (tkE tf tn po)) (tkV tf tn (tkE tf tn (tkE tf tn po)))))))] H := hP
                  have hD : va_D A [(hm0, .inr (9, [.int (zI S), .int (zI C), .int (zI Wy), .int (zI Li), .ref ml, .ref ms, .ref mw, .int (zI kn), .ref mi, .ref mk, .int (zI hz), .ref mh, .long tr, .ref mt, .int (zI tn), .int (zI (tkE tf tn (tkE tf tn (tkE tf tn (tkE tf tn po))))), .int (zI (tkS tf tn (tkE tf tn (tkE tf tn (tkE tf tn po))))), .int (zI (mtk (tkK tf tn (tkE tf tn (tkE tf tn (tkE tf tn po)))))), .int (zI nu2_73), .int (zI 0), .int (zI it), .int (zI sS), .int (zI sC), .int (zI sL), .int (zI sW), .ref mq, .ref mn, .ref mc, .ref mr, .ref mb])), (mt, .inl (G.2.1, 200, .inl (aZ tf))), (mq, .inl (G.2.1, 12, .inl (aZ (uZ qf (tkV tf tn (tkE tf tn po)) (tkV tf tn (tkE tf tn (tkE tf tn po)))))))] := hD
                  refine lv_aload_n hx hb dX9_readItem_195 rfl (lv_at hl 2 rfl) ?_
                  refine va_get (ci := 9) (v := .int (zI 0)) (C := RX9) (T := TX9) (N := 30) hx hb hts i9 hown hK hP 0 rfl rfl 19 (by decide) f87 (fun _ h9 => h9) rfl dX9_readItem_196 ?_
                  refine z_if_ne (tgt := 206) hx hb (by omega) dX9_readItem_199 (by decide) (fun c_81 => ?_) (fun c_81 => ?_)
                  · exact absurd c_81 (by omega)
                  · refine lv_aload_n hx hb dX9_readItem_202 rfl (lv_at hl 2 rfl) ?_
                    refine z_wVv (As := []) (rest := []) ⟨hx, hb, hml, hown, hts⟩ (c_X9_next l G hm0 S C Wy Li ml ms mw kn mi mk hz mh tr mt tn (tkE tf tn (tkE tf tn (tkE tf tn (tkE tf tn po)))) (tkS tf tn (tkE tf tn (tkE tf tn (tkE tf tn po)))) (mtk (tkK tf tn (tkE tf tn (tkE tf tn (tkE tf tn po))))) nu2_73 0 it sS sC sL sW mq mn mc mr mb tf (by first | assumption | omega) (by first | assumption | omega) (by first | assumption | rfl | omega)) (cwV 0 hts gX9_readItem_X9_next rfl rfl rfl pd_X9_next ⟨(Nat.le_of_ble_eq_true rfl), (Nat.le_of_ble_eq_true rfl)⟩) hK hP hD hS [0, 1] (by decide) rfl rfl rfl rfl (fun _ => Eq.trans (b := [hm0, mt]) rfl rfl) rfl hl.1 rfl (Nat.le_of_ble_eq_true rfl) dX9_readItem_203 ⟨Nat.zero_le _, Nat.zero_le _⟩ (fun u_ H locs hw_86 hP hD hS => ?_)
                    obtain ⟨cu2_82, sa2_83, to2_84, nu2_85⟩ := u_
                    try dsimp only at hw_86
                    obtain ⟨rfl, rfl, rfl, hnu_87, hnk_88, hnr_89⟩ := hw_86
                    have hP : kP G [(hm0, .inr (9, [.int (zI S), .int (zI C), .int (zI Wy), .int (zI Li), .ref ml, .ref ms, .ref mw, .int (zI kn), .ref mi, .ref mk, .int (zI hz), .ref mh, .long tr, .ref mt, .int (zI tn), .int (zI (tkE tf tn (tkE tf tn (tkE tf tn (tkE tf tn (tkE tf tn po)))))), .int (zI (tkS tf tn (tkE tf tn (tkE tf tn (tkE tf tn (tkE tf tn po)))))), .int (zI (mtk (tkK tf tn (tkE tf tn (tkE tf tn (tkE tf tn (tkE tf tn po))))))), .int (zI nu2_85), .int (zI 0), .int (zI it), .int (zI sS), .int (zI sC), .int (zI sL), .int (zI sW), .ref mq, .ref mn, .ref mc, .ref mr, .ref mb])), (mt, .inl (G.2.1, 200, .inl (aZ tf))), (mq, .inl (G.2.1, 12, .inl (aZ (uZ qf (tkV tf tn (tkE tf tn po)) (tkV tf tn (tkE tf tn (tkE tf tn po)))))))] H := hP
                    have hD : va_D A [(hm0, .inr (9, [.int (zI S), .int (zI C), .int (zI Wy), .int (zI Li), .ref ml, .ref ms, .ref mw, .int (zI kn), .ref mi, .ref mk, .int (zI hz), .ref mh, .long tr, .ref mt, .int (zI tn), .int (zI (tkE tf tn (tkE tf tn (tkE tf tn (tkE tf tn (tkE tf tn po)))))), .int (zI (tkS tf tn (tkE tf tn (tkE tf tn (tkE tf tn (tkE tf tn po)))))), .int (zI (mtk (tkK tf tn (tkE tf tn (tkE tf tn (tkE tf tn (tkE tf tn po))))))), .int (zI nu2_85), .int (zI 0), .int (zI it), .int (zI sS), .int (zI sC), .int (zI sL), .int (zI sW), .ref mq, .ref mn, .ref mc, .ref mr, .ref mb])), (mt, .inl (G.2.1, 200, .inl (aZ tf))), (mq, .inl (G.2.1, 12, .inl (aZ (uZ qf (tkV tf tn (tkE tf tn po)) (tkV tf tn (tkE tf tn (tkE tf tn po)))))))] := hD
                    have hq_90 := tkS_rng (f := tf) (n := tn) (p := (tkE tf tn (tkE tf tn (tkE tf tn (tkE tf tn po))))) (by omega)
                    have hq_91 := tkE_rng (f := tf) (n := tn) (p := (tkE tf tn (tkE tf tn (tkE tf tn (tkE tf tn po))))) (by omega)
                    have hq_92 := tkK_rng (f := tf) (n := tn) (p := (tkE tf tn (tkE tf tn (tkE tf tn (tkE tf tn po))))) (by omega) (by first | assumption | omega)
                    have hq_93 := tkV_rng (f := tf) (n := tn) (p := (tkE tf tn (tkE tf tn (tkE tf tn (tkE tf tn po)))))
                    exact hret H locs ls 206 (tkE tf tn (tkE tf tn (tkE tf tn (tkE tf tn (tkE tf tn po)))), tkS tf tn (tkE tf tn (tkE tf tn (tkE tf tn (tkE tf tn po)))), mtk (tkK tf tn (tkE tf tn (tkE tf tn (tkE tf tn (tkE tf tn po))))), nu2_85, 0, sS, sC, sL, sW, uZ qf (tkV tf tn (tkE tf tn po)) (tkV tf tn (tkE tf tn (tkE tf tn po)))) (by exact ri_l_ok hk hok2.1 hok2.2 ((mtk3 _).mp (by assumption)) hnu_87 hnk_88 hnr_89) hP hS dX9_readItem_206
                · refine lv_iconst (v := zI 1) hx hb dX9_readItem_187 rfl ?_
                  refine lv_goto (tgt := 192) hx hb dX9_readItem_188 (by decide) ?_
                  refine va_put (ci := 9) (v := .int (zI 1)) (ty := .boolean) (C := RX9) (T := TX9) (N := 30) hx hb hts i9 tyX9 tyX9_ok nmX9 hown hK hP hD hS 0 rfl rfl 19 (by decide) f87 (fun _ h9 => h9) rfl (tyX9_ok 19 (by decide)) (by decide) (by decide) (Nat.le_of_ble_eq_true rfl) dX9_readItem_192 (fun H locs hP hD hS => ?_)
                  have hP : kP G [(hm0, .inr (9, [.int (zI S), .int (zI C), .int (zI Wy), .int (zI Li), .ref ml, .ref ms, .ref mw, .int (zI kn), .ref mi, .ref mk, .int (zI hz), .ref mh, .long tr, .ref mt, .int (zI tn), .int (zI (tkE tf tn (tkE tf tn (tkE tf tn (tkE tf tn po))))), .int (zI (tkS tf tn (tkE tf tn (tkE tf tn (tkE tf tn po))))), .int (zI (mtk (tkK tf tn (tkE tf tn (tkE tf tn (tkE tf tn po)))))), .int (zI nu2_73), .int (zI 1), .int (zI it), .int (zI sS), .int (zI sC), .int (zI sL), .int (zI sW), .ref mq, .ref mn, .ref mc, .ref mr, .ref mb])), (mt, .inl (G.2.1, 200, .inl (aZ tf))), (mq, .inl (G.2.1, 12, .inl (aZ (uZ qf (tkV tf tn (tkE tf tn po)) (tkV tf tn (tkE tf tn (tkE tf tn po)))))))] H := hP
                  have hD : va_D A [(hm0, .inr (9, [.int (zI S), .int (zI C), .int (zI Wy), .int (zI Li), .ref ml, .ref ms, .ref mw, .int (zI kn), .ref mi, .ref mk, .int (zI hz), .ref mh, .long tr, .ref mt, .int (zI tn), .int (zI (tkE tf tn (tkE tf tn (tkE tf tn (tkE tf tn po))))), .int (zI (tkS tf tn (tkE tf tn (tkE tf tn (tkE tf tn po))))), .int (zI (mtk (tkK tf tn (tkE tf tn (tkE tf tn (tkE tf tn po)))))), .int (zI nu2_73), .int (zI 1), .int (zI it), .int (zI sS), .int (zI sC), .int (zI sL), .int (zI sW), .ref mq, .ref mn, .ref mc, .ref mr, .ref mb])), (mt, .inl (G.2.1, 200, .inl (aZ tf))), (mq, .inl (G.2.1, 12, .inl (aZ (uZ qf (tkV tf tn (tkE tf tn po)) (tkV tf tn (tkE tf tn (tkE tf tn po)))))))] := hD
                  refine lv_aload_n hx hb dX9_readItem_195 rfl (lv_at hl 2 rfl) ?_
                  refine va_get (ci := 9) (v := .int (zI 1)) (C := RX9) (T := TX9) (N := 30) hx hb hts i9 hown hK hP 0 rfl rfl 19 (by decide) f87 (fun _ h9 => h9) rfl dX9_readItem_196 ?_
                  refine z_if_ne (tgt := 206) hx hb (by omega) dX9_readItem_199 (by decide) (fun c_94 => ?_) (fun c_94 => ?_)
                  · exact hret H locs ls 206 (tkE tf tn (tkE tf tn (tkE tf tn (tkE tf tn po))), tkS tf tn (tkE tf tn (tkE tf tn (tkE tf tn po))), mtk (tkK tf tn (tkE tf tn (tkE tf tn (tkE tf tn po)))), nu2_73, 1, sS, sC, sL, sW, uZ qf (tkV tf tn (tkE tf tn po)) (tkV tf tn (tkE tf tn (tkE tf tn po)))) (by exact ri_l_b3 hk hok2.1 hok2.2 (fun h => absurd ((mtk3 _).mpr h) (by assumption)) (mtk_rng _)) hP hS dX9_readItem_206
                  · exact absurd c_94 (by omega)
            · obtain ⟨h_1, hsaL, htoL, h_4⟩ := hB_78 hok2
              subst wr2_74 qf2_75
              clear hA_77 hB_78
              refine lv_goto (tgt := 171) hx hb dX9_readItem_128 (by decide) ?_
              refine lv_aload_n hx hb dX9_readItem_171 rfl (lv_at hl 2 rfl) ?_
              refine lv_aload_n hx hb dX9_readItem_172 rfl (lv_at hl 2 rfl) ?_
              refine va_get (ci := 9) (v := .int (zI 1)) (C := RX9) (T := TX9) (N := 30) hx hb hts i9 hown hK hP 0 rfl rfl 19 (by decide) f87 (fun _ h9 => h9) rfl dX9_readItem_173 ?_
              refine z_if_ne (tgt := 187) hx hb (by omega) dX9_readItem_176 (by decide) (fun c_95 => ?_) (fun c_95 => ?_)
              · refine lv_iconst (v := zI 1) hx hb dX9_readItem_187 rfl ?_
                refine lv_goto (tgt := 192) hx hb dX9_readItem_188 (by decide) ?_
                refine va_put (ci := 9) (v := .int (zI 1)) (ty := .boolean) (C := RX9) (T := TX9) (N := 30) hx hb hts i9 tyX9 tyX9_ok nmX9 hown hK hP hD hS 0 rfl rfl 19 (by decide) f87 (fun _ h9 => h9) rfl (tyX9_ok 19 (by decide)) (by decide) (by decide) (Nat.le_of_ble_eq_true rfl) dX9_readItem_192 (fun H locs hP hD hS => ?_)
                have hP : kP G [(hm0, .inr (9, [.int (zI S), .int (zI C), .int (zI Wy), .int (zI Li), .ref ml, .ref ms, .ref mw, .int (zI kn), .ref mi, .ref mk, .int (zI hz), .ref mh, .long tr, .ref mt, .int (zI tn), .int (zI cu2_70), .int (zI sa2_71), .int (zI to2_72), .int (zI nu2_73), .int (zI 1), .int (zI it), .int (zI sS), .int (zI sC), .int (zI sL), .int (zI sW), .ref mq, .ref mn, .ref mc, .ref mr, .ref mb])), (mt, .inl (G.2.1, 200, .inl (aZ tf))), (mq, .inl (G.2.1, 12, .inl (aZ qf)))] H := hP
                have hD : va_D A [(hm0, .inr (9, [.int (zI S), .int (zI C), .int (zI Wy), .int (zI Li), .ref ml, .ref ms, .ref mw, .int (zI kn), .ref mi, .ref mk, .int (zI hz), .ref mh, .long tr, .ref mt, .int (zI tn), .int (zI cu2_70), .int (zI sa2_71), .int (zI to2_72), .int (zI nu2_73), .int (zI 1), .int (zI it), .int (zI sS), .int (zI sC), .int (zI sL), .int (zI sW), .ref mq, .ref mn, .ref mc, .ref mr, .ref mb])), (mt, .inl (G.2.1, 200, .inl (aZ tf))), (mq, .inl (G.2.1, 12, .inl (aZ qf)))] := hD
                refine lv_aload_n hx hb dX9_readItem_195 rfl (lv_at hl 2 rfl) ?_
                refine va_get (ci := 9) (v := .int (zI 1)) (C := RX9) (T := TX9) (N := 30) hx hb hts i9 hown hK hP 0 rfl rfl 19 (by decide) f87 (fun _ h9 => h9) rfl dX9_readItem_196 ?_
                refine z_if_ne (tgt := 206) hx hb (by omega) dX9_readItem_199 (by decide) (fun c_96 => ?_) (fun c_96 => ?_)
                · exact hret H locs ls 206 (cu2_70, sa2_71, to2_72, nu2_73, 1, sS, sC, sL, sW, qf) (by exact ri_l_b hk hok2 hsaL htoL) hP hS dX9_readItem_206
                · exact absurd c_96 (by omega)
              · exact absurd c_95 (by omega)
        · have hk : tkK tf tn po = 115 := hnuk.symm.trans (by assumption)
          have hc := out_s hout (by assumption) hit0.1
          clear hk1 hout hnk hlt hbt
          refine lv_aload_n hx hb dX9_readItem_94 rfl (lv_at hl 2 rfl) ?_
          refine lv_aload_n hx hb dX9_readItem_95 rfl (lv_at hl 2 rfl) ?_
          refine lv_iconst (v := zI 2) hx hb dX9_readItem_96 rfl ?_
          refine lv_bipush (v := zI 6) hx hb dX9_readItem_97 (by decide) ?_
          refine z_wV (As := [.int (zI 2), .int (zI 6)]) (rest := [.ref hm0]) ⟨hx, hb, hml, hown, hts⟩ (c_X9_takes l G hm0 S C Wy Li ml ms mw kn mi mk hz mh tr mt tn (tkE tf tn (tkE tf tn po)) (tkS tf tn (tkE tf tn po)) (mtk (tkK tf tn (tkE tf tn po))) nu2_6 0 it sS sC sL sW mq mn mc mr mb tf (tkE tf tn po) 2 6 (by first | assumption | omega) (by first | assumption | omega) (by first | assumption | omega) (by first | assumption | rfl | omega) (by first | assumption | rfl) (by first | assumption | exact hok1u) (by first | assumption | exact hok1r) (by first | assumption | omega) (by first | assumption | omega)) (cwV 2 hts gX9_readItem_X9_takes rfl rfl rfl pd_X9_takes ⟨(Nat.le_of_ble_eq_true rfl), (Nat.le_of_ble_eq_true rfl)⟩) hK hP hD hS [0, 1] (by decide) rfl rfl rfl rfl (fun _ => Eq.trans (b := [hm0, mt]) rfl rfl) rfl hl.1 rfl (Nat.le_of_ble_eq_true rfl) dX9_readItem_99 ⟨Nat.zero_le _, Nat.zero_le _⟩ (fun r_ u_ H locs hw_102 hP hD hS => ?_)
          obtain ⟨cu2_97, sa2_98, to2_99, nu2_100, wr2_101⟩ := u_
          obtain ⟨rfl, hw_102⟩ := hw_102
          try dsimp only at hw_102
          obtain ⟨hA_103, hB_104⟩ := hw_102
          have hP : kP G [(hm0, .inr (9, [.int (zI S), .int (zI C), .int (zI Wy), .int (zI Li), .ref ml, .ref ms, .ref mw, .int (zI kn), .ref mi, .ref mk, .int (zI hz), .ref mh, .long tr, .ref mt, .int (zI tn), .int (zI cu2_97), .int (zI sa2_98), .int (zI to2_99), .int (zI nu2_100), .int (zI wr2_101), .int (zI it), .int (zI sS), .int (zI sC), .int (zI sL), .int (zI sW), .ref mq, .ref mn, .ref mc, .ref mr, .ref mb])), (mt, .inl (G.2.1, 200, .inl (aZ tf))), (mq, .inl (G.2.1, 12, .inl (aZ qf)))] H := hP
          have hD : va_D A [(hm0, .inr (9, [.int (zI S), .int (zI C), .int (zI Wy), .int (zI Li), .ref ml, .ref ms, .ref mw, .int (zI kn), .ref mi, .ref mk, .int (zI hz), .ref mh, .long tr, .ref mt, .int (zI tn), .int (zI cu2_97), .int (zI sa2_98), .int (zI to2_99), .int (zI nu2_100), .int (zI wr2_101), .int (zI it), .int (zI sS), .int (zI sC), .int (zI sL), .int (zI sW), .ref mq, .ref mn, .ref mc, .ref mr, .ref mb])), (mt, .inl (G.2.1, 200, .inl (aZ tf))), (mq, .inl (G.2.1, 12, .inl (aZ qf)))] := hD
          by_cases hok1 : ((0 : Int) = 0 ∧ tkK tf tn (tkE tf tn po) = -2 ∧ 2 ≤ tkV tf tn (tkE tf tn po) ∧ tkV tf tn (tkE tf tn po) ≤ 6)
          · obtain ⟨h_1, h_2, h_3, hok1u, hok1k, hok1r, h_7⟩ := hA_103 hok1
            subst cu2_97 sa2_98 to2_99 wr2_101
            clear hA_103 hB_104
            refine z_top (if_pos hok1) ?_
            refine va_put (ci := 9) (v := .int (zI (tkV tf tn (tkE tf tn po)))) (ty := .int) (C := RX9) (T := TX9) (N := 30) hx hb hts i9 tyX9 tyX9_ok nmX9 hown hK hP hD hS 0 rfl rfl 21 (by decide) f94 (fun _ h9 => h9) rfl (tyX9_ok 21 (by decide)) rfl rfl (Nat.le_of_ble_eq_true rfl) dX9_readItem_102 (fun H locs hP hD hS => ?_)
            have hP : kP G [(hm0, .inr (9, [.int (zI S), .int (zI C), .int (zI Wy), .int (zI Li), .ref ml, .ref ms, .ref mw, .int (zI kn), .ref mi, .ref mk, .int (zI hz), .ref mh, .long tr, .ref mt, .int (zI tn), .int (zI (tkE tf tn (tkE tf tn (tkE tf tn po)))), .int (zI (tkS tf tn (tkE tf tn (tkE tf tn po)))), .int (zI (mtk (tkK tf tn (tkE tf tn (tkE tf tn po))))), .int (zI nu2_100), .int (zI 0), .int (zI it), .int (zI (tkV tf tn (tkE tf tn po))), .int (zI sC), .int (zI sL), .int (zI sW), .ref mq, .ref mn, .ref mc, .ref mr, .ref mb])), (mt, .inl (G.2.1, 200, .inl (aZ tf))), (mq, .inl (G.2.1, 12, .inl (aZ qf)))] H := hP
            have hD : va_D A [(hm0, .inr (9, [.int (zI S), .int (zI C), .int (zI Wy), .int (zI Li), .ref ml, .ref ms, .ref mw, .int (zI kn), .ref mi, .ref mk, .int (zI hz), .ref mh, .long tr, .ref mt, .int (zI tn), .int (zI (tkE tf tn (tkE tf tn (tkE tf tn po)))), .int (zI (tkS tf tn (tkE tf tn (tkE tf tn po)))), .int (zI (mtk (tkK tf tn (tkE tf tn (tkE tf tn po))))), .int (zI nu2_100), .int (zI 0), .int (zI it), .int (zI (tkV tf tn (tkE tf tn po))), .int (zI sC), .int (zI sL), .int (zI sW), .ref mq, .ref mn, .ref mc, .ref mr, .ref mb])), (mt, .inl (G.2.1, 200, .inl (aZ tf))), (mq, .inl (G.2.1, 12, .inl (aZ qf)))] := hD
            refine lv_aload_n hx hb dX9_readItem_105 rfl (lv_at hl 2 rfl) ?_
            refine lv_aload_n hx hb dX9_readItem_106 rfl (lv_at hl 2 rfl) ?_
            refine lv_iconst (v := zI 1) hx hb dX9_readItem_107 rfl ?_
            refine lv_iconst (v := zI 2) hx hb dX9_readItem_108 rfl ?_
            refine z_wV (As := [.int (zI 1), .int (zI 2)]) (rest := [.ref hm0]) ⟨hx, hb, hml, hown, hts⟩ (c_X9_takes l G hm0 S C Wy Li ml ms mw kn mi mk hz mh tr mt tn (tkE tf tn (tkE tf tn (tkE tf tn po))) (tkS tf tn (tkE tf tn (tkE tf tn po))) (mtk (tkK tf tn (tkE tf tn (tkE tf tn po)))) nu2_100 0 it (tkV tf tn (tkE tf tn po)) sC sL sW mq mn mc mr mb tf (tkE tf tn (tkE tf tn po)) 1 2 (by first | assumption | omega) (by first | assumption | omega) (by first | assumption | omega) (by first | assumption | rfl | omega) (by first | assumption | rfl) (by first | assumption | exact hok1u) (by first | assumption | exact hok1r) (by first | assumption | omega) (by first | assumption | omega)) (cwV 2 hts gX9_readItem_X9_takes rfl rfl rfl pd_X9_takes ⟨(Nat.le_of_ble_eq_true rfl), (Nat.le_of_ble_eq_true rfl)⟩) hK hP hD hS [0, 1] (by decide) rfl rfl rfl rfl (fun _ => Eq.trans (b := [hm0, mt]) rfl rfl) rfl hl.1 rfl (Nat.le_of_ble_eq_true rfl) dX9_readItem_109 ⟨Nat.zero_le _, Nat.zero_le _⟩ (fun r_ u_ H locs hw_110 hP hD hS => ?_)
            obtain ⟨cu2_105, sa2_106, to2_107, nu2_108, wr2_109⟩ := u_
            obtain ⟨rfl, hw_110⟩ := hw_110
            try dsimp only at hw_110
            obtain ⟨hA_111, hB_112⟩ := hw_110
            have hP : kP G [(hm0, .inr (9, [.int (zI S), .int (zI C), .int (zI Wy), .int (zI Li), .ref ml, .ref ms, .ref mw, .int (zI kn), .ref mi, .ref mk, .int (zI hz), .ref mh, .long tr, .ref mt, .int (zI tn), .int (zI cu2_105), .int (zI sa2_106), .int (zI to2_107), .int (zI nu2_108), .int (zI wr2_109), .int (zI it), .int (zI (tkV tf tn (tkE tf tn po))), .int (zI sC), .int (zI sL), .int (zI sW), .ref mq, .ref mn, .ref mc, .ref mr, .ref mb])), (mt, .inl (G.2.1, 200, .inl (aZ tf))), (mq, .inl (G.2.1, 12, .inl (aZ qf)))] H := hP
            have hD : va_D A [(hm0, .inr (9, [.int (zI S), .int (zI C), .int (zI Wy), .int (zI Li), .ref ml, .ref ms, .ref mw, .int (zI kn), .ref mi, .ref mk, .int (zI hz), .ref mh, .long tr, .ref mt, .int (zI tn), .int (zI cu2_105), .int (zI sa2_106), .int (zI to2_107), .int (zI nu2_108), .int (zI wr2_109), .int (zI it), .int (zI (tkV tf tn (tkE tf tn po))), .int (zI sC), .int (zI sL), .int (zI sW), .ref mq, .ref mn, .ref mc, .ref mr, .ref mb])), (mt, .inl (G.2.1, 200, .inl (aZ tf))), (mq, .inl (G.2.1, 12, .inl (aZ qf)))] := hD
            by_cases hok2 : ((0 : Int) = 0 ∧ tkK tf tn (tkE tf tn (tkE tf tn po)) = -2 ∧ 1 ≤ tkV tf tn (tkE tf tn (tkE tf tn po)) ∧ tkV tf tn (tkE tf tn (tkE tf tn po)) ≤ 2)
            · obtain ⟨h_1, h_2, h_3, hok2u, hok2k, hok2r, h_7⟩ := hA_111 hok2
              subst cu2_105 sa2_106 to2_107 wr2_109
              clear hA_111 hB_112
              refine z_top (if_pos hok2) ?_
              refine va_put (ci := 9) (v := .int (zI (tkV tf tn (tkE tf tn (tkE tf tn po))))) (ty := .int) (C := RX9) (T := TX9) (N := 30) hx hb hts i9 tyX9 tyX9_ok nmX9 hown hK hP hD hS 0 rfl rfl 22 (by decide) f97 (fun _ h9 => h9) rfl (tyX9_ok 22 (by decide)) rfl rfl (Nat.le_of_ble_eq_true rfl) dX9_readItem_112 (fun H locs hP hD hS => ?_)
              have hP : kP G [(hm0, .inr (9, [.int (zI S), .int (zI C), .int (zI Wy), .int (zI Li), .ref ml, .ref ms, .ref mw, .int (zI kn), .ref mi, .ref mk, .int (zI hz), .ref mh, .long tr, .ref mt, .int (zI tn), .int (zI (tkE tf tn (tkE tf tn (tkE tf tn (tkE tf tn po))))), .int (zI (tkS tf tn (tkE tf tn (tkE tf tn (tkE tf tn po))))), .int (zI (mtk (tkK tf tn (tkE tf tn (tkE tf tn (tkE tf tn po)))))), .int (zI nu2_108), .int (zI 0), .int (zI it), .int (zI (tkV tf tn (tkE tf tn po))), .int (zI (tkV tf tn (tkE tf tn (tkE tf tn po)))), .int (zI sL), .int (zI sW), .ref mq, .ref mn, .ref mc, .ref mr, .ref mb])), (mt, .inl (G.2.1, 200, .inl (aZ tf))), (mq, .inl (G.2.1, 12, .inl (aZ qf)))] H := hP
              have hD : va_D A [(hm0, .inr (9, [.int (zI S), .int (zI C), .int (zI Wy), .int (zI Li), .ref ml, .ref ms, .ref mw, .int (zI kn), .ref mi, .ref mk, .int (zI hz), .ref mh, .long tr, .ref mt, .int (zI tn), .int (zI (tkE tf tn (tkE tf tn (tkE tf tn (tkE tf tn po))))), .int (zI (tkS tf tn (tkE tf tn (tkE tf tn (tkE tf tn po))))), .int (zI (mtk (tkK tf tn (tkE tf tn (tkE tf tn (tkE tf tn po)))))), .int (zI nu2_108), .int (zI 0), .int (zI it), .int (zI (tkV tf tn (tkE tf tn po))), .int (zI (tkV tf tn (tkE tf tn (tkE tf tn po)))), .int (zI sL), .int (zI sW), .ref mq, .ref mn, .ref mc, .ref mr, .ref mb])), (mt, .inl (G.2.1, 200, .inl (aZ tf))), (mq, .inl (G.2.1, 12, .inl (aZ qf)))] := hD
              refine lv_goto (tgt := 171) hx hb dX9_readItem_115 (by decide) ?_
              refine lv_aload_n hx hb dX9_readItem_171 rfl (lv_at hl 2 rfl) ?_
              refine lv_aload_n hx hb dX9_readItem_172 rfl (lv_at hl 2 rfl) ?_
              refine va_get (ci := 9) (v := .int (zI 0)) (C := RX9) (T := TX9) (N := 30) hx hb hts i9 hown hK hP 0 rfl rfl 19 (by decide) f87 (fun _ h9 => h9) rfl dX9_readItem_173 ?_
              refine z_if_ne (tgt := 187) hx hb (by omega) dX9_readItem_176 (by decide) (fun c_113 => ?_) (fun c_113 => ?_)
              · exact absurd c_113 (by omega)
              · refine lv_aload_n hx hb dX9_readItem_179 rfl (lv_at hl 2 rfl) ?_
                refine va_get (ci := 9) (v := .int (zI (mtk (tkK tf tn (tkE tf tn (tkE tf tn (tkE tf tn po))))))) (C := RX9) (T := TX9) (N := 30) hx hb hts i9 hown hK hP 0 rfl rfl 17 (by decide) f80 (fun _ h9 => h9) rfl dX9_readItem_180 ?_
                refine lv_iconst (v := zI 3) hx hb dX9_readItem_183 rfl ?_
                refine z_icmp_eq (tgt := 191) hx hb (by omega) dX9_readItem_184 (by decide) (fun c_114 => ?_) (fun c_114 => ?_)
                · refine lv_iconst (v := zI 0) hx hb dX9_readItem_191 rfl ?_
                  refine va_put (ci := 9) (v := .int (zI 0)) (ty := .boolean) (C := RX9) (T := TX9) (N := 30) hx hb hts i9 tyX9 tyX9_ok nmX9 hown hK hP hD hS 0 rfl rfl 19 (by decide) f87 (fun _ h9 => h9) rfl (tyX9_ok 19 (by decide)) (by decide) (by decide) (Nat.le_of_ble_eq_true rfl) dX9_readItem_192 (fun H locs hP hD hS => ?_)
                  have hP : kP G [(hm0, .inr (9, [.int (zI S), .int (zI C), .int (zI Wy), .int (zI Li), .ref ml, .ref ms, .ref mw, .int (zI kn), .ref mi, .ref mk, .int (zI hz), .ref mh, .long tr, .ref mt, .int (zI tn), .int (zI (tkE tf tn (tkE tf tn (tkE tf tn (tkE tf tn po))))), .int (zI (tkS tf tn (tkE tf tn (tkE tf tn (tkE tf tn po))))), .int (zI (mtk (tkK tf tn (tkE tf tn (tkE tf tn (tkE tf tn po)))))), .int (zI nu2_108), .int (zI 0), .int (zI it), .int (zI (tkV tf tn (tkE tf tn po))), .int (zI (tkV tf tn (tkE tf tn (tkE tf tn po)))), .int (zI sL), .int (zI sW), .ref mq, .ref mn, .ref mc, .ref mr, .ref mb])), (mt, .inl (G.2.1, 200, .inl (aZ tf))), (mq, .inl (G.2.1, 12, .inl (aZ qf)))] H := hP
                  have hD : va_D A [(hm0, .inr (9, [.int (zI S), .int (zI C), .int (zI Wy), .int (zI Li), .ref ml, .ref ms, .ref mw, .int (zI kn), .ref mi, .ref mk, .int (zI hz), .ref mh, .long tr, .ref mt, .int (zI tn), .int (zI (tkE tf tn (tkE tf tn (tkE tf tn (tkE tf tn po))))), .int (zI (tkS tf tn (tkE tf tn (tkE tf tn (tkE tf tn po))))), .int (zI (mtk (tkK tf tn (tkE tf tn (tkE tf tn (tkE tf tn po)))))), .int (zI nu2_108), .int (zI 0), .int (zI it), .int (zI (tkV tf tn (tkE tf tn po))), .int (zI (tkV tf tn (tkE tf tn (tkE tf tn po)))), .int (zI sL), .int (zI sW), .ref mq, .ref mn, .ref mc, .ref mr, .ref mb])), (mt, .inl (G.2.1, 200, .inl (aZ tf))), (mq, .inl (G.2.1, 12, .inl (aZ qf)))] := hD
                  refine lv_aload_n hx hb dX9_readItem_195 rfl (lv_at hl 2 rfl) ?_
                  refine va_get (ci := 9) (v := .int (zI 0)) (C := RX9) (T := TX9) (N := 30) hx hb hts i9 hown hK hP 0 rfl rfl 19 (by decide) f87 (fun _ h9 => h9) rfl dX9_readItem_196 ?_
                  refine z_if_ne (tgt := 206) hx hb (by omega) dX9_readItem_199 (by decide) (fun c_115 => ?_) (fun c_115 => ?_)
                  · exact absurd c_115 (by omega)
                  · refine lv_aload_n hx hb dX9_readItem_202 rfl (lv_at hl 2 rfl) ?_
                    refine z_wVv (As := []) (rest := []) ⟨hx, hb, hml, hown, hts⟩ (c_X9_next l G hm0 S C Wy Li ml ms mw kn mi mk hz mh tr mt tn (tkE tf tn (tkE tf tn (tkE tf tn (tkE tf tn po)))) (tkS tf tn (tkE tf tn (tkE tf tn (tkE tf tn po)))) (mtk (tkK tf tn (tkE tf tn (tkE tf tn (tkE tf tn po))))) nu2_108 0 it (tkV tf tn (tkE tf tn po)) (tkV tf tn (tkE tf tn (tkE tf tn po))) sL sW mq mn mc mr mb tf (by first | assumption | omega) (by first | assumption | omega) (by first | assumption | rfl | omega)) (cwV 0 hts gX9_readItem_X9_next rfl rfl rfl pd_X9_next ⟨(Nat.le_of_ble_eq_true rfl), (Nat.le_of_ble_eq_true rfl)⟩) hK hP hD hS [0, 1] (by decide) rfl rfl rfl rfl (fun _ => Eq.trans (b := [hm0, mt]) rfl rfl) rfl hl.1 rfl (Nat.le_of_ble_eq_true rfl) dX9_readItem_203 ⟨Nat.zero_le _, Nat.zero_le _⟩ (fun u_ H locs hw_120 hP hD hS => ?_)
                    obtain ⟨cu2_116, sa2_117, to2_118, nu2_119⟩ := u_
                    try dsimp only at hw_120
                    obtain ⟨rfl, rfl, rfl, hnu_121, hnk_122, hnr_123⟩ := hw_120
                    have hP : kP G [(hm0, .inr (9, [.int (zI S), .int (zI C), .int (zI Wy), .int (zI Li), .ref ml, .ref ms, .ref mw, .int (zI kn), .ref mi, .ref mk, .int (zI hz), .ref mh, .long tr, .ref mt, .int (zI tn), .int (zI (tkE tf tn (tkE tf tn (tkE tf tn (tkE tf tn (tkE tf tn po)))))), .int (zI (tkS tf tn (tkE tf tn (tkE tf tn (tkE tf tn (tkE tf tn po)))))), .int (zI (mtk (tkK tf tn (tkE tf tn (tkE tf tn (tkE tf tn (tkE tf tn po))))))), .int (zI nu2_119), .int (zI 0), .int (zI it), .int (zI (tkV tf tn (tkE tf tn po))), .int (zI (tkV tf tn (tkE tf tn (tkE tf tn po)))), .int (zI sL), .int (zI sW), .ref mq, .ref mn, .ref mc, .ref mr, .ref mb])), (mt, .inl (G.2.1, 200, .inl (aZ tf))), (mq, .inl (G.2.1, 12, .inl (aZ qf)))] H := hP
                    have hD : va_D A [(hm0, .inr (9, [.int (zI S), .int (zI C), .int (zI Wy), .int (zI Li), .ref ml, .ref ms, .ref mw, .int (zI kn), .ref mi, .ref mk, .int (zI hz), .ref mh, .long tr, .ref mt, .int (zI tn), .int (zI (tkE tf tn (tkE tf tn (tkE tf tn (tkE tf tn (tkE tf tn po)))))), .int (zI (tkS tf tn (tkE tf tn (tkE tf tn (tkE tf tn (tkE tf tn po)))))), .int (zI (mtk (tkK tf tn (tkE tf tn (tkE tf tn (tkE tf tn (tkE tf tn po))))))), .int (zI nu2_119), .int (zI 0), .int (zI it), .int (zI (tkV tf tn (tkE tf tn po))), .int (zI (tkV tf tn (tkE tf tn (tkE tf tn po)))), .int (zI sL), .int (zI sW), .ref mq, .ref mn, .ref mc, .ref mr, .ref mb])), (mt, .inl (G.2.1, 200, .inl (aZ tf))), (mq, .inl (G.2.1, 12, .inl (aZ qf)))] := hD
                    have hq_124 := tkS_rng (f := tf) (n := tn) (p := (tkE tf tn (tkE tf tn (tkE tf tn (tkE tf tn po))))) (by omega)
                    have hq_125 := tkE_rng (f := tf) (n := tn) (p := (tkE tf tn (tkE tf tn (tkE tf tn (tkE tf tn po))))) (by omega)
                    have hq_126 := tkK_rng (f := tf) (n := tn) (p := (tkE tf tn (tkE tf tn (tkE tf tn (tkE tf tn po))))) (by omega) (by first | assumption | omega)
                    have hq_127 := tkV_rng (f := tf) (n := tn) (p := (tkE tf tn (tkE tf tn (tkE tf tn (tkE tf tn po)))))
                    exact hret H locs ls 206 (tkE tf tn (tkE tf tn (tkE tf tn (tkE tf tn (tkE tf tn po)))), tkS tf tn (tkE tf tn (tkE tf tn (tkE tf tn (tkE tf tn po)))), mtk (tkK tf tn (tkE tf tn (tkE tf tn (tkE tf tn (tkE tf tn po))))), nu2_119, 0, tkV tf tn (tkE tf tn po), tkV tf tn (tkE tf tn (tkE tf tn po)), sL, sW, qf) (by exact ri_s_ok hk hc hok1.2 hok2.2 ((mtk3 _).mp (by assumption)) hnu_121 hnk_122 hnr_123) hP hS dX9_readItem_206
                · refine lv_iconst (v := zI 1) hx hb dX9_readItem_187 rfl ?_
                  refine lv_goto (tgt := 192) hx hb dX9_readItem_188 (by decide) ?_
                  refine va_put (ci := 9) (v := .int (zI 1)) (ty := .boolean) (C := RX9) (T := TX9) (N := 30) hx hb hts i9 tyX9 tyX9_ok nmX9 hown hK hP hD hS 0 rfl rfl 19 (by decide) f87 (fun _ h9 => h9) rfl (tyX9_ok 19 (by decide)) (by decide) (by decide) (Nat.le_of_ble_eq_true rfl) dX9_readItem_192 (fun H locs hP hD hS => ?_)
                  have hP : kP G [(hm0, .inr (9, [.int (zI S), .int (zI C), .int (zI Wy), .int (zI Li), .ref ml, .ref ms, .ref mw, .int (zI kn), .ref mi, .ref mk, .int (zI hz), .ref mh, .long tr, .ref mt, .int (zI tn), .int (zI (tkE tf tn (tkE tf tn (tkE tf tn (tkE tf tn po))))), .int (zI (tkS tf tn (tkE tf tn (tkE tf tn (tkE tf tn po))))), .int (zI (mtk (tkK tf tn (tkE tf tn (tkE tf tn (tkE tf tn po)))))), .int (zI nu2_108), .int (zI 1), .int (zI it), .int (zI (tkV tf tn (tkE tf tn po))), .int (zI (tkV tf tn (tkE tf tn (tkE tf tn po)))), .int (zI sL), .int (zI sW), .ref mq, .ref mn, .ref mc, .ref mr, .ref mb])), (mt, .inl (G.2.1, 200, .inl (aZ tf))), (mq, .inl (G.2.1, 12, .inl (aZ qf)))] H := hP
                  have hD : va_D A [(hm0, .inr (9, [.int (zI S), .int (zI C), .int (zI Wy), .int (zI Li), .ref ml, .ref ms, .ref mw, .int (zI kn), .ref mi, .ref mk, .int (zI hz), .ref mh, .long tr, .ref mt, .int (zI tn), .int (zI (tkE tf tn (tkE tf tn (tkE tf tn (tkE tf tn po))))), .int (zI (tkS tf tn (tkE tf tn (tkE tf tn (tkE tf tn po))))), .int (zI (mtk (tkK tf tn (tkE tf tn (tkE tf tn (tkE tf tn po)))))), .int (zI nu2_108), .int (zI 1), .int (zI it), .int (zI (tkV tf tn (tkE tf tn po))), .int (zI (tkV tf tn (tkE tf tn (tkE tf tn po)))), .int (zI sL), .int (zI sW), .ref mq, .ref mn, .ref mc, .ref mr, .ref mb])), (mt, .inl (G.2.1, 200, .inl (aZ tf))), (mq, .inl (G.2.1, 12, .inl (aZ qf)))] := hD
                  refine lv_aload_n hx hb dX9_readItem_195 rfl (lv_at hl 2 rfl) ?_
                  refine va_get (ci := 9) (v := .int (zI 1)) (C := RX9) (T := TX9) (N := 30) hx hb hts i9 hown hK hP 0 rfl rfl 19 (by decide) f87 (fun _ h9 => h9) rfl dX9_readItem_196 ?_
                  refine z_if_ne (tgt := 206) hx hb (by omega) dX9_readItem_199 (by decide) (fun c_128 => ?_) (fun c_128 => ?_)
                  · exact hret H locs ls 206 (tkE tf tn (tkE tf tn (tkE tf tn (tkE tf tn po))), tkS tf tn (tkE tf tn (tkE tf tn (tkE tf tn po))), mtk (tkK tf tn (tkE tf tn (tkE tf tn (tkE tf tn po)))), nu2_108, 1, tkV tf tn (tkE tf tn po), tkV tf tn (tkE tf tn (tkE tf tn po)), sL, sW, qf) (by exact ri_s_b3 hk hc hok1.2 hok2.2 (fun h => absurd ((mtk3 _).mpr h) (by assumption)) (mtk_rng _)) hP hS dX9_readItem_206
                  · exact absurd c_128 (by omega)
            · obtain ⟨h_1, h_2, h_3, h_4, h_5⟩ := hB_112 hok2
              subst cu2_105 sa2_106 to2_107 nu2_108 wr2_109
              clear hA_111 hB_112
              refine z_top (if_neg hok2) ?_
              refine va_put (ci := 9) (v := .int (zI 0)) (ty := .int) (C := RX9) (T := TX9) (N := 30) hx hb hts i9 tyX9 tyX9_ok nmX9 hown hK hP hD hS 0 rfl rfl 22 (by decide) f97 (fun _ h9 => h9) rfl (tyX9_ok 22 (by decide)) rfl rfl (Nat.le_of_ble_eq_true rfl) dX9_readItem_112 (fun H locs hP hD hS => ?_)
              have hP : kP G [(hm0, .inr (9, [.int (zI S), .int (zI C), .int (zI Wy), .int (zI Li), .ref ml, .ref ms, .ref mw, .int (zI kn), .ref mi, .ref mk, .int (zI hz), .ref mh, .long tr, .ref mt, .int (zI tn), .int (zI (tkE tf tn (tkE tf tn (tkE tf tn po)))), .int (zI (tkS tf tn (tkE tf tn (tkE tf tn po)))), .int (zI (mtk (tkK tf tn (tkE tf tn (tkE tf tn po))))), .int (zI nu2_100), .int (zI 1), .int (zI it), .int (zI (tkV tf tn (tkE tf tn po))), .int (zI 0), .int (zI sL), .int (zI sW), .ref mq, .ref mn, .ref mc, .ref mr, .ref mb])), (mt, .inl (G.2.1, 200, .inl (aZ tf))), (mq, .inl (G.2.1, 12, .inl (aZ qf)))] H := hP
              have hD : va_D A [(hm0, .inr (9, [.int (zI S), .int (zI C), .int (zI Wy), .int (zI Li), .ref ml, .ref ms, .ref mw, .int (zI kn), .ref mi, .ref mk, .int (zI hz), .ref mh, .long tr, .ref mt, .int (zI tn), .int (zI (tkE tf tn (tkE tf tn (tkE tf tn po)))), .int (zI (tkS tf tn (tkE tf tn (tkE tf tn po)))), .int (zI (mtk (tkK tf tn (tkE tf tn (tkE tf tn po))))), .int (zI nu2_100), .int (zI 1), .int (zI it), .int (zI (tkV tf tn (tkE tf tn po))), .int (zI 0), .int (zI sL), .int (zI sW), .ref mq, .ref mn, .ref mc, .ref mr, .ref mb])), (mt, .inl (G.2.1, 200, .inl (aZ tf))), (mq, .inl (G.2.1, 12, .inl (aZ qf)))] := hD
              refine lv_goto (tgt := 171) hx hb dX9_readItem_115 (by decide) ?_
              refine lv_aload_n hx hb dX9_readItem_171 rfl (lv_at hl 2 rfl) ?_
              refine lv_aload_n hx hb dX9_readItem_172 rfl (lv_at hl 2 rfl) ?_
              refine va_get (ci := 9) (v := .int (zI 1)) (C := RX9) (T := TX9) (N := 30) hx hb hts i9 hown hK hP 0 rfl rfl 19 (by decide) f87 (fun _ h9 => h9) rfl dX9_readItem_173 ?_
              refine z_if_ne (tgt := 187) hx hb (by omega) dX9_readItem_176 (by decide) (fun c_129 => ?_) (fun c_129 => ?_)
              · refine lv_iconst (v := zI 1) hx hb dX9_readItem_187 rfl ?_
                refine lv_goto (tgt := 192) hx hb dX9_readItem_188 (by decide) ?_
                refine va_put (ci := 9) (v := .int (zI 1)) (ty := .boolean) (C := RX9) (T := TX9) (N := 30) hx hb hts i9 tyX9 tyX9_ok nmX9 hown hK hP hD hS 0 rfl rfl 19 (by decide) f87 (fun _ h9 => h9) rfl (tyX9_ok 19 (by decide)) (by decide) (by decide) (Nat.le_of_ble_eq_true rfl) dX9_readItem_192 (fun H locs hP hD hS => ?_)
                have hP : kP G [(hm0, .inr (9, [.int (zI S), .int (zI C), .int (zI Wy), .int (zI Li), .ref ml, .ref ms, .ref mw, .int (zI kn), .ref mi, .ref mk, .int (zI hz), .ref mh, .long tr, .ref mt, .int (zI tn), .int (zI (tkE tf tn (tkE tf tn (tkE tf tn po)))), .int (zI (tkS tf tn (tkE tf tn (tkE tf tn po)))), .int (zI (mtk (tkK tf tn (tkE tf tn (tkE tf tn po))))), .int (zI nu2_100), .int (zI 1), .int (zI it), .int (zI (tkV tf tn (tkE tf tn po))), .int (zI 0), .int (zI sL), .int (zI sW), .ref mq, .ref mn, .ref mc, .ref mr, .ref mb])), (mt, .inl (G.2.1, 200, .inl (aZ tf))), (mq, .inl (G.2.1, 12, .inl (aZ qf)))] H := hP
                have hD : va_D A [(hm0, .inr (9, [.int (zI S), .int (zI C), .int (zI Wy), .int (zI Li), .ref ml, .ref ms, .ref mw, .int (zI kn), .ref mi, .ref mk, .int (zI hz), .ref mh, .long tr, .ref mt, .int (zI tn), .int (zI (tkE tf tn (tkE tf tn (tkE tf tn po)))), .int (zI (tkS tf tn (tkE tf tn (tkE tf tn po)))), .int (zI (mtk (tkK tf tn (tkE tf tn (tkE tf tn po))))), .int (zI nu2_100), .int (zI 1), .int (zI it), .int (zI (tkV tf tn (tkE tf tn po))), .int (zI 0), .int (zI sL), .int (zI sW), .ref mq, .ref mn, .ref mc, .ref mr, .ref mb])), (mt, .inl (G.2.1, 200, .inl (aZ tf))), (mq, .inl (G.2.1, 12, .inl (aZ qf)))] := hD
                refine lv_aload_n hx hb dX9_readItem_195 rfl (lv_at hl 2 rfl) ?_
                refine va_get (ci := 9) (v := .int (zI 1)) (C := RX9) (T := TX9) (N := 30) hx hb hts i9 hown hK hP 0 rfl rfl 19 (by decide) f87 (fun _ h9 => h9) rfl dX9_readItem_196 ?_
                refine z_if_ne (tgt := 206) hx hb (by omega) dX9_readItem_199 (by decide) (fun c_130 => ?_) (fun c_130 => ?_)
                · exact hret H locs ls 206 (tkE tf tn (tkE tf tn (tkE tf tn po)), tkS tf tn (tkE tf tn (tkE tf tn po)), mtk (tkK tf tn (tkE tf tn (tkE tf tn po))), nu2_100, 1, tkV tf tn (tkE tf tn po), 0, sL, sW, qf) (by exact ri_s_b2 hk hc hok1.2 (fun h => hok2 ⟨rfl, h⟩) (mtk_rng _)) hP hS dX9_readItem_206
                · exact absurd c_130 (by omega)
              · exact absurd c_129 (by omega)
          · obtain ⟨h_1, h_2, h_3, h_4, h_5⟩ := hB_104 hok1
            subst cu2_97 sa2_98 to2_99 nu2_100 wr2_101
            clear hA_103 hB_104
            refine z_top (if_neg hok1) ?_
            refine va_put (ci := 9) (v := .int (zI 0)) (ty := .int) (C := RX9) (T := TX9) (N := 30) hx hb hts i9 tyX9 tyX9_ok nmX9 hown hK hP hD hS 0 rfl rfl 21 (by decide) f94 (fun _ h9 => h9) rfl (tyX9_ok 21 (by decide)) rfl rfl (Nat.le_of_ble_eq_true rfl) dX9_readItem_102 (fun H locs hP hD hS => ?_)
            have hP : kP G [(hm0, .inr (9, [.int (zI S), .int (zI C), .int (zI Wy), .int (zI Li), .ref ml, .ref ms, .ref mw, .int (zI kn), .ref mi, .ref mk, .int (zI hz), .ref mh, .long tr, .ref mt, .int (zI tn), .int (zI (tkE tf tn (tkE tf tn po))), .int (zI (tkS tf tn (tkE tf tn po))), .int (zI (mtk (tkK tf tn (tkE tf tn po)))), .int (zI nu2_6), .int (zI 1), .int (zI it), .int (zI 0), .int (zI sC), .int (zI sL), .int (zI sW), .ref mq, .ref mn, .ref mc, .ref mr, .ref mb])), (mt, .inl (G.2.1, 200, .inl (aZ tf))), (mq, .inl (G.2.1, 12, .inl (aZ qf)))] H := hP
            have hD : va_D A [(hm0, .inr (9, [.int (zI S), .int (zI C), .int (zI Wy), .int (zI Li), .ref ml, .ref ms, .ref mw, .int (zI kn), .ref mi, .ref mk, .int (zI hz), .ref mh, .long tr, .ref mt, .int (zI tn), .int (zI (tkE tf tn (tkE tf tn po))), .int (zI (tkS tf tn (tkE tf tn po))), .int (zI (mtk (tkK tf tn (tkE tf tn po)))), .int (zI nu2_6), .int (zI 1), .int (zI it), .int (zI 0), .int (zI sC), .int (zI sL), .int (zI sW), .ref mq, .ref mn, .ref mc, .ref mr, .ref mb])), (mt, .inl (G.2.1, 200, .inl (aZ tf))), (mq, .inl (G.2.1, 12, .inl (aZ qf)))] := hD
            refine lv_aload_n hx hb dX9_readItem_105 rfl (lv_at hl 2 rfl) ?_
            refine lv_aload_n hx hb dX9_readItem_106 rfl (lv_at hl 2 rfl) ?_
            refine lv_iconst (v := zI 1) hx hb dX9_readItem_107 rfl ?_
            refine lv_iconst (v := zI 2) hx hb dX9_readItem_108 rfl ?_
            refine z_wV (As := [.int (zI 1), .int (zI 2)]) (rest := [.ref hm0]) ⟨hx, hb, hml, hown, hts⟩ (c_X9_takes l G hm0 S C Wy Li ml ms mw kn mi mk hz mh tr mt tn (tkE tf tn (tkE tf tn po)) (tkS tf tn (tkE tf tn po)) (mtk (tkK tf tn (tkE tf tn po))) nu2_6 1 it 0 sC sL sW mq mn mc mr mb tf (tkE tf tn po) 1 2 (by first | assumption | omega) (by first | assumption | omega) (by first | assumption | omega) (by first | assumption | rfl | omega) (by first | assumption | rfl) (by first | assumption | exact hok1u) (by first | assumption | exact hok1r) (by first | assumption | omega) (by first | assumption | omega)) (cwV 2 hts gX9_readItem_X9_takes rfl rfl rfl pd_X9_takes ⟨(Nat.le_of_ble_eq_true rfl), (Nat.le_of_ble_eq_true rfl)⟩) hK hP hD hS [0, 1] (by decide) rfl rfl rfl rfl (fun _ => Eq.trans (b := [hm0, mt]) rfl rfl) rfl hl.1 rfl (Nat.le_of_ble_eq_true rfl) dX9_readItem_109 ⟨Nat.zero_le _, Nat.zero_le _⟩ (fun r_ u_ H locs hw_136 hP hD hS => ?_)
            obtain ⟨cu2_131, sa2_132, to2_133, nu2_134, wr2_135⟩ := u_
            obtain ⟨rfl, hw_136⟩ := hw_136
            try dsimp only at hw_136
            obtain ⟨hA_137, hB_138⟩ := hw_136
            have hP : kP G [(hm0, .inr (9, [.int (zI S), .int (zI C), .int (zI Wy), .int (zI Li), .ref ml, .ref ms, .ref mw, .int (zI kn), .ref mi, .ref mk, .int (zI hz), .ref mh, .long tr, .ref mt, .int (zI tn), .int (zI cu2_131), .int (zI sa2_132), .int (zI to2_133), .int (zI nu2_134), .int (zI wr2_135), .int (zI it), .int (zI 0), .int (zI sC), .int (zI sL), .int (zI sW), .ref mq, .ref mn, .ref mc, .ref mr, .ref mb])), (mt, .inl (G.2.1, 200, .inl (aZ tf))), (mq, .inl (G.2.1, 12, .inl (aZ qf)))] H := hP
            have hD : va_D A [(hm0, .inr (9, [.int (zI S), .int (zI C), .int (zI Wy), .int (zI Li), .ref ml, .ref ms, .ref mw, .int (zI kn), .ref mi, .ref mk, .int (zI hz), .ref mh, .long tr, .ref mt, .int (zI tn), .int (zI cu2_131), .int (zI sa2_132), .int (zI to2_133), .int (zI nu2_134), .int (zI wr2_135), .int (zI it), .int (zI 0), .int (zI sC), .int (zI sL), .int (zI sW), .ref mq, .ref mn, .ref mc, .ref mr, .ref mb])), (mt, .inl (G.2.1, 200, .inl (aZ tf))), (mq, .inl (G.2.1, 12, .inl (aZ qf)))] := hD
            by_cases hok2 : ((1 : Int) = 0 ∧ tkK tf tn (tkE tf tn po) = -2 ∧ 1 ≤ tkV tf tn (tkE tf tn po) ∧ tkV tf tn (tkE tf tn po) ≤ 2)
            · exact absurd hok2.1 (by decide)
            · obtain ⟨h_1, h_2, h_3, h_4, h_5⟩ := hB_138 hok2
              subst cu2_131 sa2_132 to2_133 nu2_134 wr2_135
              clear hA_137 hB_138
              refine z_top (if_neg hok2) ?_
              refine va_put (ci := 9) (v := .int (zI 0)) (ty := .int) (C := RX9) (T := TX9) (N := 30) hx hb hts i9 tyX9 tyX9_ok nmX9 hown hK hP hD hS 0 rfl rfl 22 (by decide) f97 (fun _ h9 => h9) rfl (tyX9_ok 22 (by decide)) rfl rfl (Nat.le_of_ble_eq_true rfl) dX9_readItem_112 (fun H locs hP hD hS => ?_)
              have hP : kP G [(hm0, .inr (9, [.int (zI S), .int (zI C), .int (zI Wy), .int (zI Li), .ref ml, .ref ms, .ref mw, .int (zI kn), .ref mi, .ref mk, .int (zI hz), .ref mh, .long tr, .ref mt, .int (zI tn), .int (zI (tkE tf tn (tkE tf tn po))), .int (zI (tkS tf tn (tkE tf tn po))), .int (zI (mtk (tkK tf tn (tkE tf tn po)))), .int (zI nu2_6), .int (zI 1), .int (zI it), .int (zI 0), .int (zI 0), .int (zI sL), .int (zI sW), .ref mq, .ref mn, .ref mc, .ref mr, .ref mb])), (mt, .inl (G.2.1, 200, .inl (aZ tf))), (mq, .inl (G.2.1, 12, .inl (aZ qf)))] H := hP
              have hD : va_D A [(hm0, .inr (9, [.int (zI S), .int (zI C), .int (zI Wy), .int (zI Li), .ref ml, .ref ms, .ref mw, .int (zI kn), .ref mi, .ref mk, .int (zI hz), .ref mh, .long tr, .ref mt, .int (zI tn), .int (zI (tkE tf tn (tkE tf tn po))), .int (zI (tkS tf tn (tkE tf tn po))), .int (zI (mtk (tkK tf tn (tkE tf tn po)))), .int (zI nu2_6), .int (zI 1), .int (zI it), .int (zI 0), .int (zI 0), .int (zI sL), .int (zI sW), .ref mq, .ref mn, .ref mc, .ref mr, .ref mb])), (mt, .inl (G.2.1, 200, .inl (aZ tf))), (mq, .inl (G.2.1, 12, .inl (aZ qf)))] := hD
              refine lv_goto (tgt := 171) hx hb dX9_readItem_115 (by decide) ?_
              refine lv_aload_n hx hb dX9_readItem_171 rfl (lv_at hl 2 rfl) ?_
              refine lv_aload_n hx hb dX9_readItem_172 rfl (lv_at hl 2 rfl) ?_
              refine va_get (ci := 9) (v := .int (zI 1)) (C := RX9) (T := TX9) (N := 30) hx hb hts i9 hown hK hP 0 rfl rfl 19 (by decide) f87 (fun _ h9 => h9) rfl dX9_readItem_173 ?_
              refine z_if_ne (tgt := 187) hx hb (by omega) dX9_readItem_176 (by decide) (fun c_139 => ?_) (fun c_139 => ?_)
              · refine lv_iconst (v := zI 1) hx hb dX9_readItem_187 rfl ?_
                refine lv_goto (tgt := 192) hx hb dX9_readItem_188 (by decide) ?_
                refine va_put (ci := 9) (v := .int (zI 1)) (ty := .boolean) (C := RX9) (T := TX9) (N := 30) hx hb hts i9 tyX9 tyX9_ok nmX9 hown hK hP hD hS 0 rfl rfl 19 (by decide) f87 (fun _ h9 => h9) rfl (tyX9_ok 19 (by decide)) (by decide) (by decide) (Nat.le_of_ble_eq_true rfl) dX9_readItem_192 (fun H locs hP hD hS => ?_)
                have hP : kP G [(hm0, .inr (9, [.int (zI S), .int (zI C), .int (zI Wy), .int (zI Li), .ref ml, .ref ms, .ref mw, .int (zI kn), .ref mi, .ref mk, .int (zI hz), .ref mh, .long tr, .ref mt, .int (zI tn), .int (zI (tkE tf tn (tkE tf tn po))), .int (zI (tkS tf tn (tkE tf tn po))), .int (zI (mtk (tkK tf tn (tkE tf tn po)))), .int (zI nu2_6), .int (zI 1), .int (zI it), .int (zI 0), .int (zI 0), .int (zI sL), .int (zI sW), .ref mq, .ref mn, .ref mc, .ref mr, .ref mb])), (mt, .inl (G.2.1, 200, .inl (aZ tf))), (mq, .inl (G.2.1, 12, .inl (aZ qf)))] H := hP
                have hD : va_D A [(hm0, .inr (9, [.int (zI S), .int (zI C), .int (zI Wy), .int (zI Li), .ref ml, .ref ms, .ref mw, .int (zI kn), .ref mi, .ref mk, .int (zI hz), .ref mh, .long tr, .ref mt, .int (zI tn), .int (zI (tkE tf tn (tkE tf tn po))), .int (zI (tkS tf tn (tkE tf tn po))), .int (zI (mtk (tkK tf tn (tkE tf tn po)))), .int (zI nu2_6), .int (zI 1), .int (zI it), .int (zI 0), .int (zI 0), .int (zI sL), .int (zI sW), .ref mq, .ref mn, .ref mc, .ref mr, .ref mb])), (mt, .inl (G.2.1, 200, .inl (aZ tf))), (mq, .inl (G.2.1, 12, .inl (aZ qf)))] := hD
                refine lv_aload_n hx hb dX9_readItem_195 rfl (lv_at hl 2 rfl) ?_
                refine va_get (ci := 9) (v := .int (zI 1)) (C := RX9) (T := TX9) (N := 30) hx hb hts i9 hown hK hP 0 rfl rfl 19 (by decide) f87 (fun _ h9 => h9) rfl dX9_readItem_196 ?_
                refine z_if_ne (tgt := 206) hx hb (by omega) dX9_readItem_199 (by decide) (fun c_140 => ?_) (fun c_140 => ?_)
                · exact hret H locs ls 206 (tkE tf tn (tkE tf tn po), tkS tf tn (tkE tf tn po), mtk (tkK tf tn (tkE tf tn po)), nu2_6, 1, 0, 0, sL, sW, qf) (by exact ri_s_b1 hk hc (fun h => hok1 ⟨rfl, h⟩) (mtk_rng _)) hP hS dX9_readItem_206
                · exact absurd c_140 (by omega)
              · exact absurd c_139 (by omega)
      · have hno := no_of (to := mtk (tkK tf tn po)) (k := tkK tf tn po) rfl hnk hlt hbt hit0.1 (by first | exact Or.inl (by assumption) | exact Or.inr (by rcases hou with ⟨h8, _⟩ | ⟨_, h9⟩; exact absurd h8 (by assumption); exact h9))
        refine lv_aload_n hx hb dX9_readItem_78 rfl (lv_at hl 2 rfl) ?_
        refine lv_iconst (v := zI 1) hx hb dX9_readItem_79 rfl ?_
        refine va_put (ci := 9) (v := .int (zI 1)) (ty := .boolean) (C := RX9) (T := TX9) (N := 30) hx hb hts i9 tyX9 tyX9_ok nmX9 hown hK hP hD hS 0 rfl rfl 19 (by decide) f87 (fun _ h9 => h9) rfl (tyX9_ok 19 (by decide)) (by decide) (by decide) (Nat.le_of_ble_eq_true rfl) dX9_readItem_80 (fun H locs hP hD hS => ?_)
        have hP : kP G [(hm0, .inr (9, [.int (zI S), .int (zI C), .int (zI Wy), .int (zI Li), .ref ml, .ref ms, .ref mw, .int (zI kn), .ref mi, .ref mk, .int (zI hz), .ref mh, .long tr, .ref mt, .int (zI tn), .int (zI (tkE tf tn po)), .int (zI (tkS tf tn po)), .int (zI (mtk (tkK tf tn po))), .int (zI nu), .int (zI 1), .int (zI it), .int (zI sS), .int (zI sC), .int (zI sL), .int (zI sW), .ref mq, .ref mn, .ref mc, .ref mr, .ref mb])), (mt, .inl (G.2.1, 200, .inl (aZ tf))), (mq, .inl (G.2.1, 12, .inl (aZ qf)))] H := hP
        have hD : va_D A [(hm0, .inr (9, [.int (zI S), .int (zI C), .int (zI Wy), .int (zI Li), .ref ml, .ref ms, .ref mw, .int (zI kn), .ref mi, .ref mk, .int (zI hz), .ref mh, .long tr, .ref mt, .int (zI tn), .int (zI (tkE tf tn po)), .int (zI (tkS tf tn po)), .int (zI (mtk (tkK tf tn po))), .int (zI nu), .int (zI 1), .int (zI it), .int (zI sS), .int (zI sC), .int (zI sL), .int (zI sW), .ref mq, .ref mn, .ref mc, .ref mr, .ref mb])), (mt, .inl (G.2.1, 200, .inl (aZ tf))), (mq, .inl (G.2.1, 12, .inl (aZ qf)))] := hD
        exact hret H locs ls 83 (tkE tf tn po, tkS tf tn po, mtk (tkK tf tn po), nu, 1, sS, sC, sL, sW, qf) (by exact ⟨fun h => absurd h (itB_no hno).1, fun _ => ⟨rfl, by rw [(itB_no hno).2], mtk_rng _⟩⟩) hP hS dX9_readItem_83
  refine lv_iload_n hx hb dX9_readItem_5 rfl (lv_at hl 0 rfl) ?_
  refine lv_bipush (v := zI 115) hx hb dX9_readItem_6 (by decide) ?_
  refine z_icmp_ne (tgt := 26) hx hb (by omega) dX9_readItem_8 (by decide) (fun c_141 => ?_) (fun c_141 => ?_)
  · refine lv_iload_n hx hb dX9_readItem_26 rfl (lv_at hl 0 rfl) ?_
    refine lv_bipush (v := zI 109) hx hb dX9_readItem_27 (by decide) ?_
    refine z_icmp_ne (tgt := 47) hx hb (by omega) dX9_readItem_29 (by decide) (fun c_142 => ?_) (fun c_142 => ?_)
    · refine lv_iload_n hx hb dX9_readItem_47 rfl (lv_at hl 0 rfl) ?_
      refine lv_bipush (v := zI 98) hx hb dX9_readItem_48 (by decide) ?_
      refine z_icmp_ne (tgt := 64) hx hb (by omega) dX9_readItem_50 (by decide) (fun c_143 => ?_) (fun c_143 => ?_)
      · refine lv_iconst (v := zI 0) hx hb dX9_readItem_64 rfl ?_
        exact join65 0 H locs ls (by omega) hP hD hS (lv_sub hl [0, 1] rfl)
      · refine lv_aload_n hx hb dX9_readItem_53 rfl (lv_at hl 1 rfl) ?_
        refine va_get (ci := 9) (v := .int (zI sW)) (C := RX9) (T := TX9) (N := 30) hx hb hts i9 hown hK hP 0 rfl rfl 24 (by decide) f110 (fun _ h9 => h9) rfl dX9_readItem_54 ?_
        refine z_if_lt (tgt := 64) hx hb (by omega) dX9_readItem_57 (by decide) (fun c_144 => ?_) (fun c_144 => ?_)
        · refine lv_iconst (v := zI 0) hx hb dX9_readItem_64 rfl ?_
          exact join65 0 H locs ls (by omega) hP hD hS (lv_sub hl [0, 1] rfl)
        · refine lv_iconst (v := zI 1) hx hb dX9_readItem_60 rfl ?_
          refine lv_goto (tgt := 65) hx hb dX9_readItem_61 (by decide) ?_
          exact join65 1 H locs ls (by omega) hP hD hS (lv_sub hl [0, 1] rfl)
    · refine lv_aload_n hx hb dX9_readItem_32 rfl (lv_at hl 1 rfl) ?_
      refine va_get (ci := 9) (v := .int (zI sL)) (C := RX9) (T := TX9) (N := 30) hx hb hts i9 hown hK hP 0 rfl rfl 23 (by decide) f107 (fun _ h9 => h9) rfl dX9_readItem_33 ?_
      refine z_if_le (tgt := 43) hx hb (by omega) dX9_readItem_36 (by decide) (fun c_145 => ?_) (fun c_145 => ?_)
      · refine lv_iconst (v := zI 0) hx hb dX9_readItem_43 rfl ?_
        refine lv_goto (tgt := 65) hx hb dX9_readItem_44 (by decide) ?_
        exact join65 0 H locs ls (by omega) hP hD hS (lv_sub hl [0, 1] rfl)
      · refine lv_iconst (v := zI 1) hx hb dX9_readItem_39 rfl ?_
        refine lv_goto (tgt := 65) hx hb dX9_readItem_40 (by decide) ?_
        exact join65 1 H locs ls (by omega) hP hD hS (lv_sub hl [0, 1] rfl)
  · refine lv_aload_n hx hb dX9_readItem_11 rfl (lv_at hl 1 rfl) ?_
    refine va_get (ci := 9) (v := .int (zI it)) (C := RX9) (T := TX9) (N := 30) hx hb hts i9 hown hK hP 0 rfl rfl 20 (by decide) f104 (fun _ h9 => h9) rfl dX9_readItem_12 ?_
    refine z_if_le (tgt := 22) hx hb (by omega) dX9_readItem_15 (by decide) (fun c_146 => ?_) (fun c_146 => ?_)
    · refine lv_iconst (v := zI 0) hx hb dX9_readItem_22 rfl ?_
      refine lv_goto (tgt := 65) hx hb dX9_readItem_23 (by decide) ?_
      exact join65 0 H locs ls (by omega) hP hD hS (lv_sub hl [0, 1] rfl)
    · refine lv_iconst (v := zI 1) hx hb dX9_readItem_18 rfl ?_
      refine lv_goto (tgt := 65) hx hb dX9_readItem_19 (by decide) ?_
      exact join65 1 H locs ls (by omega) hP hD hS (lv_sub hl [0, 1] rfl)
