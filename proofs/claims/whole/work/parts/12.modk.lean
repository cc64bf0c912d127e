
def dgL (W code : Int) : Nat → Int
  | 0 => code
  | j + 1 => dgL W code j / W
def rowD (W n code : Int) : Int → Int := fun j => dgL W code (n - 1 - j).toNat % W
theorem dgL_rng {W code : Int} (hW : 1 ≤ W) (hc : 0 ≤ code) : ∀ j, 0 ≤ dgL W code j ∧ dgL W code j ≤ code
  | 0 => ⟨hc, Int.le_refl _⟩
  | j + 1 => by
    have h := dgL_rng hW hc j
    have h1 := div_rng (a := dgL W code j) (b := W) (by omega) (by omega)
    unfold dgL
    omega
def plw (S home : Int) (r : Int → Int) : Nat → Int
  | 0 => home
  | j + 1 => fromZ S (plw S home r j) (r (j : Int))
def plF (S home : Int) (r ld wn : Int → Int) : Nat → Int → Int
  | 0 => wn
  | j + 1 => uZ (plF S home r ld wn j) (plw S home r (j + 1)) (plF S home r ld wn j (plw S home r (j + 1)) + ld (plw S home r (j + 1)))
theorem plw_cong {S home : Int} {r r2 : Int → Int} : ∀ k : Nat, (∀ i : Int, 0 ≤ i → i < k → r i = r2 i) → plw S home r k = plw S home r2 k
  | 0, _ => rfl
  | k + 1, h => by
    unfold plw
    rw [plw_cong k (fun i h1 h2 => h i h1 (by omega)), h (k : Int) (by omega) (by omega)]
theorem plF_cong {S home : Int} {r r2 ld wn : Int → Int} : ∀ k : Nat, (∀ i : Int, 0 ≤ i → i < k → r i = r2 i) → plF S home r ld wn k = plF S home r2 ld wn k
  | 0, _ => rfl
  | k + 1, h => by
    unfold plF
    rw [plF_cong k (fun i h1 h2 => h i h1 (by omega)), plw_cong (k + 1) h]
theorem plw_rng {S C Wy home : Int} {r : Int → Int} {n : Nat} (hB : (2 ≤ S ∧ S ≤ 6) ∧ (C = 1 ∧ Wy = S ∨ C = 2 ∧ Wy = 2 * S)) (hh : 0 ≤ home ∧ home < Wy) (hr : ∀ i : Int, 0 ≤ i → i < n → 0 ≤ r i ∧ r i < Wy) : ∀ k : Nat, k ≤ n → 0 ≤ plw S home r k ∧ plw S home r k < Wy
  | 0, _ => hh
  | k + 1, h => fromZ_rng hB (plw_rng hB hh hr k (by omega)) (hr k (by omega) (by omega))
theorem plF_rng {S C Wy home b : Int} {r ld wn : Int → Int} {n : Nat} (hB : (2 ≤ S ∧ S ≤ 6) ∧ (C = 1 ∧ Wy = S ∨ C = 2 ∧ Wy = 2 * S)) (hh : 0 ≤ home ∧ home < Wy) (hr : ∀ i : Int, 0 ≤ i → i < n → 0 ≤ r i ∧ r i < Wy) (hld : ∀ i : Int, 0 ≤ i → i < 12 → 1 ≤ ld i ∧ ld i ≤ 9) (hwn : ∀ i : Int, 0 ≤ i → i < 12 → 0 ≤ wn i ∧ wn i ≤ b) : ∀ (k : Nat) (i : Int), k ≤ n → 0 ≤ i → i < 12 → 0 ≤ plF S home r ld wn k i ∧ plF S home r ld wn k i ≤ b + 9 * (k : Int)
  | 0, i, _, h1, h2 => by
    have h := hwn i h1 h2
    show 0 ≤ wn i ∧ wn i ≤ b + 9 * ((0 : Nat) : Int)
    omega
  | k + 1, i, hk, h1, h2 => by
    have h := plF_rng hB hh hr hld hwn k i (by omega) h1 h2
    have hw := plw_rng hB hh hr (k + 1) hk
    have h3 := plF_rng hB hh hr hld hwn k (plw S home r (k + 1)) (by omega) hw.1 (by omega)
    have h4 := hld (plw S home r (k + 1)) hw.1 (by omega)
    show 0 ≤ uZ _ _ _ i ∧ uZ _ _ _ i ≤ _
    unfold uZ
    split <;> omega
abbrev stP (S home : Int) (r ld wn : Int → Int) (k : Nat) (g : Int → Int) : Prop := g 1 = plw S home r k ∧ ∀ i : Int, 0 ≤ i → i < 12 → g (3 + i) = plF S home r ld wn k i
theorem stP_step {S C Wy home j : Int} {r ld wn g : Int → Int} (hB : (2 ≤ S ∧ S ≤ 6) ∧ (C = 1 ∧ Wy = S ∨ C = 2 ∧ Wy = 2 * S)) (hj : 0 ≤ j) (hg : 0 ≤ g 1 ∧ g 1 < Wy) (hr : 0 ≤ r j ∧ r j < Wy) (hld : ∀ i : Int, 0 ≤ i → i < 12 → 1 ≤ ld i ∧ ld i ≤ 9) (hs : stP S home r ld wn j.toNat g) (hl : g (3 + fromZ S (g 1) (r j)) ≤ 900) : stP S home r ld wn (j + 1).toNat (tgF S (r j) ld g) := by
  have hq := tg_step hB hg hr hl hld
  have hf := fromZ_rng hB hg hr
  rw [tn1 hj]
  have e : plw S home r (j.toNat + 1) = fromZ S (g 1) (r j) := by
    show fromZ S (plw S home r j.toNat) (r ((j.toNat : Nat) : Int)) = _
    rw [Int.toNat_of_nonneg hj, ← hs.1]
  refine ⟨by rw [e]; exact hq.1, fun i h1 h2 => ?_⟩
  rw [hq.2 i h1 h2]
  show _ = uZ (plF S home r ld wn j.toNat) (plw S home r (j.toNat + 1)) (plF S home r ld wn j.toNat (plw S home r (j.toNat + 1)) + ld (plw S home r (j.toNat + 1))) i
  rw [e, ← hs.2 (fromZ S (g 1) (r j)) (by omega) (by omega)]
  unfold uZ
  split
  · rfl
  · exact hs.2 i h1 h2
def plV (S home : Int) (ld wn : Int → Int) (Wy n code : Int) : Int := grZ (plF S home (rowD Wy n code) ld wn n.toNat) Wy.toNat
theorem plV_eq {S home Wy n code : Int} {r ld wn g : Int → Int} (hn : 0 ≤ n) (hW : Wy ≤ 12) (hs : stP S home r ld wn n.toNat g) (hrow : ∀ q : Int, 0 ≤ q → q < n → r q = rowD Wy n code q) : grZ (fun i => g (3 + i)) Wy.toNat = plV S home ld wn Wy n code := by
  unfold plV
  rw [← plF_cong (r := r) n.toNat (fun i h1 h2 => hrow i h1 (by omega))]
  exact grZ_cong _ (fun i h1 h2 => hs.2 i h1 (by omega))
abbrev plI (S home : Int) (ld wn : Int → Int) (Wy n code le : Int) (b0 : Int → Int) : Prop := (code = 0 ∧ le = 1000000) ∨ (∃ b : Int, (0 ≤ b ∧ b < code) ∧ le = plV S home ld wn Wy n b ∧ (∀ x : Int, 0 ≤ x → x < code → plV S home ld wn Wy n b ≤ plV S home ld wn Wy n x) ∧ (∀ x : Int, 0 ≤ x → x < b → plV S home ld wn Wy n b < plV S home ld wn Wy n x) ∧ ∀ j : Int, 0 ≤ j → j < n → b0 j = rowD Wy n b j)
theorem pl_step {S home Wy n code le le2 v : Int} {ld wn b0 b2 : Int → Int} (hc : 0 ≤ code) (hI : plI S home ld wn Wy n code le b0) (hv : v = plV S home ld wn Wy n code) (hvr : v ≤ 999) (h : (v < le ∧ le2 = v ∧ ∀ j : Int, 0 ≤ j → j < n → b2 j = rowD Wy n code j) ∨ (¬ v < le ∧ le2 = le ∧ b2 = b0)) : plI S home ld wn Wy n (code + 1) le2 b2 := by
  refine Or.inr ?_
  rcases h with ⟨h1, h2, h3⟩ | ⟨h1, h2, h3⟩
  · have hlt : ∀ x : Int, 0 ≤ x → x < code → plV S home ld wn Wy n code < plV S home ld wn Wy n x := by
      intro x hx1 hx2
      rcases hI with ⟨h4, _⟩ | ⟨b, h4, h5, h6, h7, h8⟩
      · omega
      · have := h6 x hx1 hx2
        omega
    refine ⟨code, by omega, by omega, fun x hx1 hx2 => ?_, hlt, h3⟩
    by_cases e : x = code
    · rw [e]
      exact Int.le_refl _
    · exact Int.le_of_lt (hlt x hx1 (by omega))
  · rcases hI with ⟨h4, h5⟩ | ⟨b, h4, h5, h6, h7, h8⟩
    · omega
    · refine ⟨b, by omega, by omega, fun x hx1 hx2 => ?_, h7, by rw [h3]; exact h8⟩
      by_cases e : x = code
      · rw [e]
        omega
      · exact h6 x hx1 (by omega)
theorem pwW_tab : ∀ w : Fin 13, ∀ k : Fin 5, 0 ≤ pwZ ((w : Nat) : Int) k ∧ pwZ ((w : Nat) : Int) k ≤ 20736 ∧ (1 ≤ (w : Nat) → 1 ≤ pwZ ((w : Nat) : Int) k) := by decide +kernel
theorem pwW_rng {Wy n : Int} (hW : 1 ≤ Wy ∧ Wy ≤ 12) (hn : 0 ≤ n ∧ n ≤ 4) : 1 ≤ pwZ Wy n.toNat ∧ pwZ Wy n.toNat ≤ 20736 := by
  obtain ⟨w, rfl⟩ := Int.eq_ofNat_of_zero_le (show 0 ≤ Wy by omega)
  have h := pwW_tab ⟨w, by omega⟩ ⟨n.toNat, by omega⟩
  exact ⟨h.2.2 (by show 1 ≤ w; omega), h.2.1⟩

theorem pd_X9_plan : yX9_plan.cls = RX9 ∧ yX9_plan.cls ≠ "java/lang/invoke/MethodHandle" ∧ yX9_plan.cls ≠ "java/lang/invoke/VarHandle" ∧ (parseMethodDescriptor yX9_plan.desc).map (fun d => d.parameters.length) = some 2 := by decide +kernel
abbrev rmX9_plan : Room := { frames := 2, cells := 0, slots := 0, locals := 45 }
set_option maxHeartbeats 4000000 in
set_option maxRecDepth 100000 in
theorem c_X9_plan (l : Launch) (G : CX) (hm0 : Nat) (S : Int) (C : Int) (Wy : Int) (Li : Int) (ml : Nat) (ms : Nat) (mw : Nat) (kn : Int) (mi : Nat) (mk : Nat) (hz : Int) (mh : Nat) (tr : Int64) (mt : Nat) (tn : Int) (cu : Int) (sa : Int) (to : Int) (nu : Int) (wr : Int) (it : Int) (sS : Int) (sC : Int) (sL : Int) (sW : Int) (mq : Nat) (mn : Nat) (mc : Nat) (mr : Nat) (mb : Nat) (nf : Int → Int) (sf : Int → Int) (ld : Int → Int) (rf0 : Int → Int) (bf : Int → Int) (n : Int) (k : Int) (hB : (2 ≤ S ∧ S ≤ 6) ∧ (C = 1 ∧ Wy = S ∨ C = 2 ∧ Wy = 2 * S)) (hl1 : 0 ≤ sf 1 ∧ sf 1 < Wy) (hs7 : ∀ i : Int, 0 ≤ i → i < 12 → 0 ≤ sf (3 + i) ∧ sf (3 + i) ≤ 107) (hld : ∀ i : Int, 0 ≤ i → i < 12 → 1 ≤ ld i ∧ ld i ≤ 9) (hr_n : -2147483648 ≤ n ∧ n < 2147483648) (hr_k : -2147483648 ≤ k ∧ k < 2147483648) : Met l yX9_plan wsX9_plan rmX9_plan (wrP G [.ref hm0, .int (zI n), .int (zI k)] [(hm0, .inr (9, [.int (zI S), .int (zI C), .int (zI Wy), .int (zI Li), .ref ml, .ref ms, .ref mw, .int (zI kn), .ref mi, .ref mk, .int (zI hz), .ref mh, .long tr, .ref mt, .int (zI tn), .int (zI cu), .int (zI sa), .int (zI to), .int (zI nu), .int (zI wr), .int (zI it), .int (zI sS), .int (zI sC), .int (zI sL), .int (zI sW), .ref mq, .ref mn, .ref mc, .ref mr, .ref mb])), (mn, .inl (G.2.1, 15, .inl (aZ nf))), (ms, .inl (G.2.1, 15, .inl (aZ sf))), (ml, .inl (G.2.1, 12, .inl (aZ ld))), (mr, .inl (G.2.1, 4, .inl (aZ rf0))), (mb, .inl (G.2.1, 4, .inl (aZ bf)))]) (wrQ G [(hm0, .inr (9, [.int (zI S), .int (zI C), .int (zI Wy), .int (zI Li), .ref ml, .ref ms, .ref mw, .int (zI kn), .ref mi, .ref mk, .int (zI hz), .ref mh, .long tr, .ref mt, .int (zI tn), .int (zI cu), .int (zI sa), .int (zI to), .int (zI nu), .int (zI wr), .int (zI it), .int (zI sS), .int (zI sC), .int (zI sL), .int (zI sW), .ref mq, .ref mn, .ref mc, .ref mr, .ref mb])), (mn, .inl (G.2.1, 15, .inl (aZ nf))), (ms, .inl (G.2.1, 15, .inl (aZ sf))), (ml, .inl (G.2.1, 12, .inl (aZ ld))), (mr, .inl (G.2.1, 4, .inl (aZ rf0))), (mb, .inl (G.2.1, 4, .inl (aZ bf)))] (fun (r_ : Int32) (u : (Int → Int) × (Int → Int) × (Int → Int) × Int) => match u with | (nf2, rf2, bf2, bc) => r_ = zI (if (n < 1 ∨ 4 < n ∨ k < -1 ∨ 3 < k) then -1 else if k < 0 then plV S (sf 1) ld (fun i => sf (3 + i)) Wy n bc else if k < n then rowD Wy n bc k else -9) ∧ (¬ (n < 1 ∨ 4 < n ∨ k < -1 ∨ 3 < k) → (0 ≤ bc ∧ bc < pwZ Wy n.toNat) ∧ (∀ x : Int, 0 ≤ x → x < pwZ Wy n.toNat → plV S (sf 1) ld (fun i => sf (3 + i)) Wy n bc ≤ plV S (sf 1) ld (fun i => sf (3 + i)) Wy n x) ∧ (∀ x : Int, 0 ≤ x → x < bc → plV S (sf 1) ld (fun i => sf (3 + i)) Wy n bc < plV S (sf 1) ld (fun i => sf (3 + i)) Wy n x))) (fun (u : (Int → Int) × (Int → Int) × (Int → Int) × Int) => match u with | (nf2, rf2, bf2, bc) => [(hm0, .inr (9, [.int (zI S), .int (zI C), .int (zI Wy), .int (zI Li), .ref ml, .ref ms, .ref mw, .int (zI kn), .ref mi, .ref mk, .int (zI hz), .ref mh, .long tr, .ref mt, .int (zI tn), .int (zI cu), .int (zI sa), .int (zI to), .int (zI nu), .int (zI wr), .int (zI it), .int (zI sS), .int (zI sC), .int (zI sL), .int (zI sW), .ref mq, .ref mn, .ref mc, .ref mr, .ref mb])), (mn, .inl (G.2.1, 15, .inl (aZ nf2))), (ms, .inl (G.2.1, 15, .inl (aZ sf))), (ml, .inl (G.2.1, 12, .inl (aZ ld))), (mr, .inl (G.2.1, 4, .inl (aZ rf2))), (mb, .inl (G.2.1, 4, .inl (aZ bf2)))])) 0 0 (wrA [(hm0, .inr (9, [.int (zI S), .int (zI C), .int (zI Wy), .int (zI Li), .ref ml, .ref ms, .ref mw, .int (zI kn), .ref mi, .ref mk, .int (zI hz), .ref mh, .long tr, .ref mt, .int (zI tn), .int (zI cu), .int (zI sa), .int (zI to), .int (zI nu), .int (zI wr), .int (zI it), .int (zI sS), .int (zI sC), .int (zI sL), .int (zI sW), .ref mq, .ref mn, .ref mc, .ref mr, .ref mb])), (mn, .inl (G.2.1, 15, .inl (aZ nf))), (ms, .inl (G.2.1, 15, .inl (aZ sf))), (ml, .inl (G.2.1, 12, .inl (aZ ld))), (mr, .inl (G.2.1, 4, .inl (aZ rf0))), (mb, .inl (G.2.1, 4, .inl (aZ bf)))]) := by
  refine wr_ofW (cc := cX9_plan) (maxL := 9) (ty := .int) (by decide) rfl (Nat.le_of_ble_eq_true rfl) ?_
  intro p e s m below meth c Q A hx hb hml hown hts hK hret H locs hP hD hS ls hl
  have hown : s.vm.findClass RX9 = some m.cls := hown
  have hl : lv_has ls 9 [(0, .ref hm0), (1, .int (zI n)), (2, .int (zI k))] := hl
  have f57 := hts (.fieldLink RX9 57 "QuarterTurnsModel" "best" "[I") (by decide +kernel)
  have i9 : ∀ w ∈ wsX90, w ∈ wsX9_plan := fun w h => List.mem_cons_of_mem _ (List.mem_append_right _ h)
  have f54 := hts (.fieldLink RX9 54 "QuarterTurnsModel" "row" "[I") (by decide +kernel)
  have f16 := hts (.fieldLink RX9 16 "QuarterTurnsModel" "ways" "I") (by decide +kernel)
  refine lv_iload_n hx hb dX9_plan_0 rfl (lv_at hl 1 rfl) ?_
  refine lv_iconst (v := zI 1) hx hb dX9_plan_1 rfl ?_
  refine lv_iconst (v := zI 4) hx hb dX9_plan_2 rfl ?_
  refine z_cS (As := [.int (zI n), .int (zI 1), .int (zI 4)]) (rest := []) ⟨hx, hb, hml, hown, hts⟩ (c_X9_in l G n 1 4 (by first | assumption | omega)) (va_cwS 3 hts gX9_plan_X9_in rfl rfl rfl pd_X9_in.2 ⟨(Nat.le_of_ble_eq_true rfl), (Nat.le_of_ble_eq_true rfl)⟩) hK hP hS [] rfl rfl hl.1 rfl (Nat.le_of_ble_eq_true rfl) dX9_plan_3 ⟨Nat.zero_le _, Nat.zero_le _⟩ (fun H locs hP hS => ?_)
  refine z_ifeq_b (tgt := 18) hx hb dX9_plan_6 (by decide) (fun c_1 => ?_) (fun c_1 => ?_)
  · refine lv_iconst (v := zI (-1)) hx hb dX9_plan_18 rfl ?_
    exact hret H locs ls 19 _ (nf, rf0, bf, 0) rfl ⟨congrArg zI (by rw [if_pos (by omega)]), by exact fun h => absurd h (by omega)⟩ hP hS dX9_plan_19
  · refine lv_iload_n hx hb dX9_plan_9 rfl (lv_at hl 2 rfl) ?_
    refine lv_iconst (v := zI (-1)) hx hb dX9_plan_10 rfl ?_
    refine lv_iconst (v := zI 3) hx hb dX9_plan_11 rfl ?_
    refine z_cS (As := [.int (zI k), .int (zI (-1)), .int (zI 3)]) (rest := []) ⟨hx, hb, hml, hown, hts⟩ (c_X9_in l G k (-1) 3 (by first | assumption | omega)) (va_cwS 3 hts gX9_plan_X9_in rfl rfl rfl pd_X9_in.2 ⟨(Nat.le_of_ble_eq_true rfl), (Nat.le_of_ble_eq_true rfl)⟩) hK hP hS [] rfl rfl hl.1 rfl (Nat.le_of_ble_eq_true rfl) dX9_plan_12 ⟨Nat.zero_le _, Nat.zero_le _⟩ (fun H locs hP hS => ?_)
    refine z_ifne_b (tgt := 20) hx hb dX9_plan_15 (by decide) (fun c_2 => ?_) (fun c_2 => ?_)
    · refine lv_iconst (v := zI 1) hx hb dX9_plan_20 rfl ?_
      refine lv_istore_n (lv' := [(3, .int (zI 1)), (0, .ref hm0), (1, .int (zI n)), (2, .int (zI k))]) hx hb dX9_plan_21 rfl hl (by decide) rfl (fun ls hl => ?_)
      refine lv_iconst (v := zI 0) hx hb dX9_plan_22 rfl ?_
      refine lv_istore (lv' := [(4, .int (zI 0)), (3, .int (zI 1)), (0, .ref hm0), (1, .int (zI n)), (2, .int (zI k))]) hx hb dX9_plan_23 hl (by decide) rfl (fun ls hl => ?_)
      have loop25 : ∀ (n_ : Nat) (i0 : Int) (co : Int) (H : Heap) (locs : List Loc) (ls : Array Slot), (0 ≤ i0 ∧ i0 ≤ n) → (co = pwZ Wy i0.toNat) → (n - i0).toNat < n_ → kP G [(hm0, .inr (9, [.int (zI S), .int (zI C), .int (zI Wy), .int (zI Li), .ref ml, .ref ms, .ref mw, .int (zI kn), .ref mi, .ref mk, .int (zI hz), .ref mh, .long tr, .ref mt, .int (zI tn), .int (zI cu), .int (zI sa), .int (zI to), .int (zI nu), .int (zI wr), .int (zI it), .int (zI sS), .int (zI sC), .int (zI sL), .int (zI sW), .ref mq, .ref mn, .ref mc, .ref mr, .ref mb])), (mn, .inl (G.2.1, 15, .inl (aZ nf))), (ms, .inl (G.2.1, 15, .inl (aZ sf))), (ml, .inl (G.2.1, 12, .inl (aZ ld))), (mr, .inl (G.2.1, 4, .inl (aZ rf0))), (mb, .inl (G.2.1, 4, .inl (aZ bf)))] H → va_D A [(hm0, .inr (9, [.int (zI S), .int (zI C), .int (zI Wy), .int (zI Li), .ref ml, .ref ms, .ref mw, .int (zI kn), .ref mi, .ref mk, .int (zI hz), .ref mh, .long tr, .ref mt, .int (zI tn), .int (zI cu), .int (zI sa), .int (zI to), .int (zI nu), .int (zI wr), .int (zI it), .int (zI sS), .int (zI sC), .int (zI sL), .int (zI sW), .ref mq, .ref mn, .ref mc, .ref mr, .ref mb])), (mn, .inl (G.2.1, 15, .inl (aZ nf))), (ms, .inl (G.2.1, 15, .inl (aZ sf))), (ml, .inl (G.2.1, 12, .inl (aZ ld))), (mr, .inl (G.2.1, 4, .inl (aZ rf0))), (mb, .inl (G.2.1, 4, .inl (aZ bf)))] → va_S A s.heap H locs → lv_has ls 9 [(4, .int (zI i0)), (3, .int (zI co)), (0, .ref hm0), (1, .int (zI n)), (2, .int (zI k))] → W p l e rmX9_plan s m ([.ref hm0, .int (zI n), .int (zI k)] : List Value).toArray below meth c H locs 0 0 Q (F0 m 25 ls []) := by
        intro n_
        induction n_ with
        | zero =>
          intro i0 co H locs ls hi0 hco hm
          exact absurd hm (Nat.not_lt_zero _)
        | succ n_ ih25 =>
          intro i0 co H locs ls hi0 hco hm25 hP hD hS hl
          refine lv_iload hx hb dX9_plan_25 (lv_at hl 0 rfl) ?_
          refine lv_iload_n hx hb dX9_plan_27 rfl (lv_at hl 3 rfl) ?_
          refine z_icmp_ge (tgt := 44) hx hb (by omega) dX9_plan_28 (by decide) (fun c_3 => ?_) (fun c_3 => ?_)
          · have hcoF : co = pwZ Wy n.toNat := by rw [hco, show i0 = n by omega]
            have hcoR := pwW_rng (Wy := Wy) (n := n) (by omega) (by omega)
            refine lv_ldc (v := zI 1000000) hx hb hown (hts (.constant RX9 183 (1000000)) (by decide +kernel)) dX9_plan_44 ?_
            refine lv_istore (lv' := [(4, .int (zI 1000000)), (3, .int (zI co)), (0, .ref hm0), (1, .int (zI n)), (2, .int (zI k))]) hx hb dX9_plan_46 hl (by decide) rfl (fun ls hl => ?_)
            refine lv_iconst (v := zI 0) hx hb dX9_plan_48 rfl ?_
            refine lv_istore (lv' := [(5, .int (zI 0)), (4, .int (zI 1000000)), (3, .int (zI co)), (0, .ref hm0), (1, .int (zI n)), (2, .int (zI k))]) hx hb dX9_plan_49 hl (by decide) rfl (fun ls hl => ?_)
            have loop51 : ∀ (n_ : Nat) (code : Int) (le : Int) (g0 : Int → Int) (r0 : Int → Int) (b0 : Int → Int) (H : Heap) (locs : List Loc) (ls : Array Slot), (0 ≤ code ∧ code ≤ co) → (0 ≤ le ∧ le ≤ 1000000) → (plI S (sf 1) ld (fun i => sf (3 + i)) Wy n code le b0) → (co - code).toNat < n_ → kP G [(hm0, .inr (9, [.int (zI S), .int (zI C), .int (zI Wy), .int (zI Li), .ref ml, .ref ms, .ref mw, .int (zI kn), .ref mi, .ref mk, .int (zI hz), .ref mh, .long tr, .ref mt, .int (zI tn), .int (zI cu), .int (zI sa), .int (zI to), .int (zI nu), .int (zI wr), .int (zI it), .int (zI sS), .int (zI sC), .int (zI sL), .int (zI sW), .ref mq, .ref mn, .ref mc, .ref mr, .ref mb])), (mn, .inl (G.2.1, 15, .inl (aZ g0))), (ms, .inl (G.2.1, 15, .inl (aZ sf))), (ml, .inl (G.2.1, 12, .inl (aZ ld))), (mr, .inl (G.2.1, 4, .inl (aZ r0))), (mb, .inl (G.2.1, 4, .inl (aZ b0)))] H → va_D A [(hm0, .inr (9, [.int (zI S), .int (zI C), .int (zI Wy), .int (zI Li), .ref ml, .ref ms, .ref mw, .int (zI kn), .ref mi, .ref mk, .int (zI hz), .ref mh, .long tr, .ref mt, .int (zI tn), .int (zI cu), .int (zI sa), .int (zI to), .int (zI nu), .int (zI wr), .int (zI it), .int (zI sS), .int (zI sC), .int (zI sL), .int (zI sW), .ref mq, .ref mn, .ref mc, .ref mr, .ref mb])), (mn, .inl (G.2.1, 15, .inl (aZ g0))), (ms, .inl (G.2.1, 15, .inl (aZ sf))), (ml, .inl (G.2.1, 12, .inl (aZ ld))), (mr, .inl (G.2.1, 4, .inl (aZ r0))), (mb, .inl (G.2.1, 4, .inl (aZ b0)))] → va_S A s.heap H locs → lv_has ls 9 [(5, .int (zI code)), (4, .int (zI le)), (3, .int (zI co)), (0, .ref hm0), (1, .int (zI n)), (2, .int (zI k))] → W p l e rmX9_plan s m ([.ref hm0, .int (zI n), .int (zI k)] : List Value).toArray below meth c H locs 0 0 Q (F0 m 51 ls []) := by
              intro n_
              induction n_ with
              | zero =>
                intro code le g0 r0 b0 H locs ls hcode hler hpI hm
                exact absurd hm (Nat.not_lt_zero _)
              | succ n_ ih51 =>
                intro code le g0 r0 b0 H locs ls hcode hler hpI hm51 hP hD hS hl
                refine lv_iload hx hb dX9_plan_51 (lv_at hl 0 rfl) ?_
                refine lv_iload_n hx hb dX9_plan_53 rfl (lv_at hl 2 rfl) ?_
                refine z_icmp_ge (tgt := 199) hx hb (by omega) dX9_plan_54 (by decide) (fun c_4 => ?_) (fun c_4 => ?_)
                · obtain ⟨hx1, hx2⟩ | ⟨bc, hx1, hx2, hx3, hx4, hx5⟩ := hpI
                  · exfalso; omega
                  rw [show code = pwZ Wy n.toNat by omega] at hx1 hx3
                  refine lv_iload_n hx hb dX9_plan_199 rfl (lv_at hl 5 rfl) ?_
                  refine z_if_ge (tgt := 208) hx hb (by omega) dX9_plan_200 (by decide) (fun c_5 => ?_) (fun c_5 => ?_)
                  · refine lv_iload_n hx hb dX9_plan_208 rfl (lv_at hl 5 rfl) ?_
                    refine lv_iload_n hx hb dX9_plan_209 rfl (lv_at hl 4 rfl) ?_
                    refine z_icmp_ge (tgt := 222) hx hb (by omega) dX9_plan_210 (by decide) (fun c_6 => ?_) (fun c_6 => ?_)
                    · refine lv_bipush (v := zI (-9)) hx hb dX9_plan_222 (by decide) ?_
                      exact hret H locs ls 224 _ (g0, r0, b0, bc) rfl ⟨congrArg zI (by rw [if_neg (by omega), if_neg (by omega), if_neg (by omega)]), by exact fun h => ⟨hx1, hx3, hx4⟩⟩ hP hS dX9_plan_224
                    · refine lv_aload_n hx hb dX9_plan_213 rfl (lv_at hl 3 rfl) ?_
                      refine va_get (ci := 9) (v := .ref mb) (C := RX9) (T := TX9) (N := 30) hx hb hts i9 hown hK hP 0 rfl rfl 29 (by decide) f57 (fun _ h9 => h9) rfl dX9_plan_214 ?_
                      refine lv_iload_n hx hb dX9_plan_217 rfl (lv_at hl 5 rfl) ?_
                      refine z_iald (n := 4) (f := b0) hx hb hK hP 5 rfl (by omega) dX9_plan_218 ?_
                      refine lv_goto (tgt := 224) hx hb dX9_plan_219 (by decide) ?_
                      exact hret H locs ls 224 _ (g0, r0, b0, bc) rfl ⟨congrArg zI (by rw [if_neg (by omega)]; first | (rw [if_pos (by omega)]; exact hx2) | (rw [if_neg (by omega), if_pos (by omega)]; exact hx5 k (by omega) (by omega))), by exact fun h => ⟨hx1, hx3, hx4⟩⟩ hP hS dX9_plan_224
                  · refine lv_iload hx hb dX9_plan_203 (lv_at hl 1 rfl) ?_
                    refine lv_goto (tgt := 224) hx hb dX9_plan_205 (by decide) ?_
                    exact hret H locs ls 224 _ (g0, r0, b0, bc) rfl ⟨congrArg zI (by rw [if_neg (by omega)]; first | (rw [if_pos (by omega)]; exact hx2) | (rw [if_neg (by omega), if_pos (by omega)]; exact hx5 k (by omega) (by omega))), by exact fun h => ⟨hx1, hx3, hx4⟩⟩ hP hS dX9_plan_224
                · have hdr := dgL_rng (W := Wy) (code := code) (by omega) hcode.1
                  refine lv_iload hx hb dX9_plan_57 (lv_at hl 0 rfl) ?_
                  refine lv_istore (lv' := [(6, .int (zI code)), (5, .int (zI code)), (4, .int (zI le)), (3, .int (zI co)), (0, .ref hm0), (1, .int (zI n)), (2, .int (zI k))]) hx hb dX9_plan_59 hl (by decide) rfl (fun ls hl => ?_)
                  refine lv_iload_n hx hb dX9_plan_61 rfl (lv_at hl 5 rfl) ?_
                  refine lv_iconst (v := zI 1) hx hb dX9_plan_62 rfl ?_
                  refine z_isub hx hb dX9_plan_63 ?_
                  refine lv_istore (lv' := [(7, .int (zI (n - 1))), (6, .int (zI code)), (5, .int (zI code)), (4, .int (zI le)), (3, .int (zI co)), (0, .ref hm0), (1, .int (zI n)), (2, .int (zI k))]) hx hb dX9_plan_64 hl (by decide) rfl (fun ls hl => ?_)
                  have loop66 : ∀ (n_ : Nat) (i : Int) (lf : Int) (r1 : Int → Int) (H : Heap) (locs : List Loc) (ls : Array Slot), (-1 ≤ i ∧ i ≤ n - 1) → (lf = dgL Wy code (n - 1 - i).toNat) → (∀ q : Int, i < q → q < n → r1 q = rowD Wy n code q) → (i + 1).toNat < n_ → kP G [(hm0, .inr (9, [.int (zI S), .int (zI C), .int (zI Wy), .int (zI Li), .ref ml, .ref ms, .ref mw, .int (zI kn), .ref mi, .ref mk, .int (zI hz), .ref mh, .long tr, .ref mt, .int (zI tn), .int (zI cu), .int (zI sa), .int (zI to), .int (zI nu), .int (zI wr), .int (zI it), .int (zI sS), .int (zI sC), .int (zI sL), .int (zI sW), .ref mq, .ref mn, .ref mc, .ref mr, .ref mb])), (mn, .inl (G.2.1, 15, .inl (aZ g0))), (ms, .inl (G.2.1, 15, .inl (aZ sf))), (ml, .inl (G.2.1, 12, .inl (aZ ld))), (mr, .inl (G.2.1, 4, .inl (aZ r1))), (mb, .inl (G.2.1, 4, .inl (aZ b0)))] H → va_D A [(hm0, .inr (9, [.int (zI S), .int (zI C), .int (zI Wy), .int (zI Li), .ref ml, .ref ms, .ref mw, .int (zI kn), .ref mi, .ref mk, .int (zI hz), .ref mh, .long tr, .ref mt, .int (zI tn), .int (zI cu), .int (zI sa), .int (zI to), .int (zI nu), .int (zI wr), .int (zI it), .int (zI sS), .int (zI sC), .int (zI sL), .int (zI sW), .ref mq, .ref mn, .ref mc, .ref mr, .ref mb])), (mn, .inl (G.2.1, 15, .inl (aZ g0))), (ms, .inl (G.2.1, 15, .inl (aZ sf))), (ml, .inl (G.2.1, 12, .inl (aZ ld))), (mr, .inl (G.2.1, 4, .inl (aZ r1))), (mb, .inl (G.2.1, 4, .inl (aZ b0)))] → va_S A s.heap H locs → lv_has ls 9 [(7, .int (zI i)), (6, .int (zI lf)), (5, .int (zI code)), (4, .int (zI le)), (3, .int (zI co)), (0, .ref hm0), (1, .int (zI n)), (2, .int (zI k))] → W p l e rmX9_plan s m ([.ref hm0, .int (zI n), .int (zI k)] : List Value).toArray below meth c H locs 0 0 Q (F0 m 66 ls []) := by
                    intro n_
                    induction n_ with
                    | zero =>
                      intro i lf r1 H locs ls hi hlf hr1 hm
                      exact absurd hm (Nat.not_lt_zero _)
                    | succ n_ ih66 =>
                      intro i lf r1 H locs ls hi hlf hr1 hm66 hP hD hS hl
                      have hlr := hdr (n - 1 - i).toNat
                      rw [← hlf] at hlr
                      refine lv_iload hx hb dX9_plan_66 (lv_at hl 0 rfl) ?_
                      refine z_if_lt (tgt := 100) hx hb (by omega) dX9_plan_68 (by decide) (fun c_7 => ?_) (fun c_7 => ?_)
                      · have hrow : ∀ q : Int, 0 ≤ q → q < n → r1 q = rowD Wy n code q ∧ 0 ≤ r1 q ∧ r1 q < Wy := fun q h1 h2 => ⟨hr1 q (by omega) h2, by rw [hr1 q (by omega) h2]; exact mod_rng (by omega)⟩
                        refine lv_aload_n hx hb dX9_plan_100 rfl (lv_at hl 5 rfl) ?_
                        refine z_wVv (As := []) (rest := []) ⟨hx, hb, hml, hown, hts⟩ (c_X9_asItIs l G hm0 S C Wy Li ml ms mw kn mi mk hz mh tr mt tn cu sa to nu wr it sS sC sL sW mq mn mc mr mb g0 sf ) (cwV 0 hts gX9_plan_X9_asItIs rfl rfl rfl pd_X9_asItIs ⟨(Nat.le_of_ble_eq_true rfl), (Nat.le_of_ble_eq_true rfl)⟩) hK hP hD hS [0, 1, 2] (by decide) rfl rfl rfl rfl (fun _ => Eq.trans (b := [hm0, mn, ms]) rfl rfl) rfl hl.1 rfl (Nat.le_of_ble_eq_true rfl) dX9_plan_101 ⟨Nat.zero_le _, Nat.zero_le _⟩ (fun u_ H locs hw_8 hP hD hS => ?_)
                        try dsimp only at hw_8
                        have hP : kP G [(hm0, .inr (9, [.int (zI S), .int (zI C), .int (zI Wy), .int (zI Li), .ref ml, .ref ms, .ref mw, .int (zI kn), .ref mi, .ref mk, .int (zI hz), .ref mh, .long tr, .ref mt, .int (zI tn), .int (zI cu), .int (zI sa), .int (zI to), .int (zI nu), .int (zI wr), .int (zI it), .int (zI sS), .int (zI sC), .int (zI sL), .int (zI sW), .ref mq, .ref mn, .ref mc, .ref mr, .ref mb])), (mn, .inl (G.2.1, 15, .inl (aZ (cpK g0 0 sf 0 15)))), (ms, .inl (G.2.1, 15, .inl (aZ sf))), (ml, .inl (G.2.1, 12, .inl (aZ ld))), (mr, .inl (G.2.1, 4, .inl (aZ r1))), (mb, .inl (G.2.1, 4, .inl (aZ b0)))] H := hP
                        have hD : va_D A [(hm0, .inr (9, [.int (zI S), .int (zI C), .int (zI Wy), .int (zI Li), .ref ml, .ref ms, .ref mw, .int (zI kn), .ref mi, .ref mk, .int (zI hz), .ref mh, .long tr, .ref mt, .int (zI tn), .int (zI cu), .int (zI sa), .int (zI to), .int (zI nu), .int (zI wr), .int (zI it), .int (zI sS), .int (zI sC), .int (zI sL), .int (zI sW), .ref mq, .ref mn, .ref mc, .ref mr, .ref mb])), (mn, .inl (G.2.1, 15, .inl (aZ (cpK g0 0 sf 0 15)))), (ms, .inl (G.2.1, 15, .inl (aZ sf))), (ml, .inl (G.2.1, 12, .inl (aZ ld))), (mr, .inl (G.2.1, 4, .inl (aZ r1))), (mb, .inl (G.2.1, 4, .inl (aZ b0)))] := hD
                        refine lv_iconst (v := zI 0) hx hb dX9_plan_104 rfl ?_
                        refine lv_istore (lv' := [(7, .int (zI 0)), (6, .int (zI lf)), (5, .int (zI code)), (4, .int (zI le)), (3, .int (zI co)), (0, .ref hm0), (1, .int (zI n)), (2, .int (zI k))]) hx hb dX9_plan_105 hl (by decide) rfl (fun ls hl => ?_)
                        have loop107 : ∀ (n_ : Nat) (j : Int) (g : Int → Int) (H : Heap) (locs : List Loc) (ls : Array Slot), (0 ≤ j ∧ j ≤ n) → (stP S (sf 1) r1 ld (fun i => sf (3 + i)) j.toNat g) → (n - j).toNat < n_ → kP G [(hm0, .inr (9, [.int (zI S), .int (zI C), .int (zI Wy), .int (zI Li), .ref ml, .ref ms, .ref mw, .int (zI kn), .ref mi, .ref mk, .int (zI hz), .ref mh, .long tr, .ref mt, .int (zI tn), .int (zI cu), .int (zI sa), .int (zI to), .int (zI nu), .int (zI wr), .int (zI it), .int (zI sS), .int (zI sC), .int (zI sL), .int (zI sW), .ref mq, .ref mn, .ref mc, .ref mr, .ref mb])), (mn, .inl (G.2.1, 15, .inl (aZ g))), (ms, .inl (G.2.1, 15, .inl (aZ sf))), (ml, .inl (G.2.1, 12, .inl (aZ ld))), (mr, .inl (G.2.1, 4, .inl (aZ r1))), (mb, .inl (G.2.1, 4, .inl (aZ b0)))] H → va_D A [(hm0, .inr (9, [.int (zI S), .int (zI C), .int (zI Wy), .int (zI Li), .ref ml, .ref ms, .ref mw, .int (zI kn), .ref mi, .ref mk, .int (zI hz), .ref mh, .long tr, .ref mt, .int (zI tn), .int (zI cu), .int (zI sa), .int (zI to), .int (zI nu), .int (zI wr), .int (zI it), .int (zI sS), .int (zI sC), .int (zI sL), .int (zI sW), .ref mq, .ref mn, .ref mc, .ref mr, .ref mb])), (mn, .inl (G.2.1, 15, .inl (aZ g))), (ms, .inl (G.2.1, 15, .inl (aZ sf))), (ml, .inl (G.2.1, 12, .inl (aZ ld))), (mr, .inl (G.2.1, 4, .inl (aZ r1))), (mb, .inl (G.2.1, 4, .inl (aZ b0)))] → va_S A s.heap H locs → lv_has ls 9 [(7, .int (zI j)), (6, .int (zI lf)), (5, .int (zI code)), (4, .int (zI le)), (3, .int (zI co)), (0, .ref hm0), (1, .int (zI n)), (2, .int (zI k))] → W p l e rmX9_plan s m ([.ref hm0, .int (zI n), .int (zI k)] : List Value).toArray below meth c H locs 0 0 Q (F0 m 107 ls []) := by
                          intro n_
                          induction n_ with
                          | zero =>
                            intro j g H locs ls hj hst hm
                            exact absurd hm (Nat.not_lt_zero _)
                          | succ n_ ih107 =>
                            intro j g H locs ls hj hst hm107 hP hD hS hl
                            have hg1 : 0 ≤ g 1 ∧ g 1 < Wy := by rw [hst.1]; exact plw_rng (n := n.toNat) hB hl1 (fun i h1 h2 => (hrow i h1 (by omega)).2) _ (by omega)
                            have hgr : ∀ i : Int, 0 ≤ i → i < 12 → 0 ≤ g (3 + i) ∧ g (3 + i) ≤ 900 := fun i h1 h2 => by rw [hst.2 i h1 h2]; have h9 := plF_rng (b := 107) (n := n.toNat) hB hl1 (fun i h1 h2 => (hrow i h1 (by omega)).2) hld hs7 j.toNat i (by omega) h1 h2; omega
                            refine lv_iload hx hb dX9_plan_107 (lv_at hl 0 rfl) ?_
                            refine lv_iload_n hx hb dX9_plan_109 rfl (lv_at hl 6 rfl) ?_
                            refine z_icmp_ge (tgt := 135) hx hb (by omega) dX9_plan_110 (by decide) (fun c_9 => ?_) (fun c_9 => ?_)
                            · refine lv_aload_n hx hb dX9_plan_135 rfl (lv_at hl 5 rfl) ?_
                              refine z_cV (As := []) (rest := []) ⟨hx, hb, hml, hown, hts⟩ (c_X9_greatest l G hm0 S C Wy Li ml ms mw kn mi mk hz mh tr mt tn cu sa to nu wr it sS sC sL sW mq mn mc mr mb g (by first | assumption | omega) (by exact fun i h1 h2 => by have := hgr i h1 h2; omega)) (cwV 0 hts gX9_plan_X9_greatest rfl rfl rfl pd_X9_greatest ⟨(Nat.le_of_ble_eq_true rfl), (Nat.le_of_ble_eq_true rfl)⟩) hK hP hS [0, 1] rfl rfl rfl rfl rfl hl.1 rfl (Nat.le_of_ble_eq_true rfl) dX9_plan_136 ⟨Nat.zero_le _, Nat.zero_le _⟩ (fun H locs hP hS => ?_)
                              have hq_10 := grZ_rng (f := fun i => g (3 + i)) (N := 12) (b := 999) (by omega) ((by exact fun i h1 h2 => by have := hgr i h1 h2; omega)) Wy.toNat (by omega)
                              have hvq := plV_eq (code := code) (by omega) (by omega) (by rw [show n.toNat = j.toNat by omega]; exact hst) (fun q h1 h2 => (hrow q h1 h2).1)
                              obtain ⟨v, hv⟩ : ∃ v : Int, grZ (fun i => g (3 + i)) Wy.toNat = v := ⟨_, rfl⟩
                              have hvr : 0 ≤ v ∧ v ≤ 999 := by rw [← hv]; exact grZ_rng (f := fun i => g (3 + i)) (N := 12) (b := 999) (by omega) (fun i h1 h2 => by have := hgr i h1 h2; omega) Wy.toNat (by omega)
                              refine z_top hv ?_
                              rw [hv] at hvq
                              refine lv_istore (lv' := [(7, .int (zI v)), (6, .int (zI lf)), (5, .int (zI code)), (4, .int (zI le)), (3, .int (zI co)), (0, .ref hm0), (1, .int (zI n)), (2, .int (zI k))]) hx hb dX9_plan_139 hl (by decide) rfl (fun ls hl => ?_)
                              refine lv_iconst (v := zI 0) hx hb dX9_plan_141 rfl ?_
                              refine lv_istore (lv' := [(8, .int (zI 0)), (7, .int (zI v)), (6, .int (zI lf)), (5, .int (zI code)), (4, .int (zI le)), (3, .int (zI co)), (0, .ref hm0), (1, .int (zI n)), (2, .int (zI k))]) hx hb dX9_plan_142 hl (by decide) rfl (fun ls hl => ?_)
                              have loop144 : ∀ (n_ : Nat) (q : Int) (b2 : Int → Int) (H : Heap) (locs : List Loc) (ls : Array Slot), (0 ≤ q ∧ q ≤ n) → (0 < q → v < le) → (q = 0 → b2 = b0) → (∀ j : Int, 0 ≤ j → j < q → b2 j = r1 j) → (n - q).toNat < n_ → kP G [(hm0, .inr (9, [.int (zI S), .int (zI C), .int (zI Wy), .int (zI Li), .ref ml, .ref ms, .ref mw, .int (zI kn), .ref mi, .ref mk, .int (zI hz), .ref mh, .long tr, .ref mt, .int (zI tn), .int (zI cu), .int (zI sa), .int (zI to), .int (zI nu), .int (zI wr), .int (zI it), .int (zI sS), .int (zI sC), .int (zI sL), .int (zI sW), .ref mq, .ref mn, .ref mc, .ref mr, .ref mb])), (mn, .inl (G.2.1, 15, .inl (aZ g))), (ms, .inl (G.2.1, 15, .inl (aZ sf))), (ml, .inl (G.2.1, 12, .inl (aZ ld))), (mr, .inl (G.2.1, 4, .inl (aZ r1))), (mb, .inl (G.2.1, 4, .inl (aZ b2)))] H → va_D A [(hm0, .inr (9, [.int (zI S), .int (zI C), .int (zI Wy), .int (zI Li), .ref ml, .ref ms, .ref mw, .int (zI kn), .ref mi, .ref mk, .int (zI hz), .ref mh, .long tr, .ref mt, .int (zI tn), .int (zI cu), .int (zI sa), .int (zI to), .int (zI nu), .int (zI wr), .int (zI it), .int (zI sS), .int (zI sC), .int (zI sL), .int (zI sW), .ref mq, .ref mn, .ref mc, .ref mr, .ref mb])), (mn, .inl (G.2.1, 15, .inl (aZ g))), (ms, .inl (G.2.1, 15, .inl (aZ sf))), (ml, .inl (G.2.1, 12, .inl (aZ ld))), (mr, .inl (G.2.1, 4, .inl (aZ r1))), (mb, .inl (G.2.1, 4, .inl (aZ b2)))] → va_S A s.heap H locs → lv_has ls 9 [(8, .int (zI q)), (7, .int (zI v)), (6, .int (zI lf)), (5, .int (zI code)), (4, .int (zI le)), (3, .int (zI co)), (0, .ref hm0), (1, .int (zI n)), (2, .int (zI k))] → W p l e rmX9_plan s m ([.ref hm0, .int (zI n), .int (zI k)] : List Value).toArray below meth c H locs 0 0 Q (F0 m 144 ls []) := by
                                intro n_
                                induction n_ with
                                | zero =>
                                  intro q b2 H locs ls hq hqv hb20 hb2 hm
                                  exact absurd hm (Nat.not_lt_zero _)
                                | succ n_ ih144 =>
                                  intro q b2 H locs ls hq hqv hb20 hb2 hm144 hP hD hS hl
                                  refine lv_iload hx hb dX9_plan_144 (lv_at hl 0 rfl) ?_
                                  refine lv_iload_n hx hb dX9_plan_146 rfl (lv_at hl 7 rfl) ?_
                                  refine z_icmp_ge (tgt := 177) hx hb (by omega) dX9_plan_147 (by decide) (fun c_11 => ?_) (fun c_11 => ?_)
                                  · refine lv_iload hx hb dX9_plan_177 (lv_at hl 1 rfl) ?_
                                    refine lv_iload hx hb dX9_plan_179 (lv_at hl 4 rfl) ?_
                                    refine z_icmp_ge (tgt := 189) hx hb (by omega) dX9_plan_181 (by decide) (fun c_12 => ?_) (fun c_12 => ?_)
                                    · refine lv_iload hx hb dX9_plan_189 (lv_at hl 4 rfl) ?_
                                      refine lv_istore (lv' := [(4, .int (zI le)), (8, .int (zI q)), (7, .int (zI v)), (6, .int (zI lf)), (5, .int (zI code)), (3, .int (zI co)), (0, .ref hm0), (1, .int (zI n)), (2, .int (zI k))]) hx hb dX9_plan_191 hl (by decide) rfl (fun ls hl => ?_)
                                      refine lv_iinc (v := zI (code + 1)) (lv' := [(5, .int (zI (code + 1))), (4, .int (zI le)), (8, .int (zI q)), (7, .int (zI v)), (6, .int (zI lf)), (3, .int (zI co)), (0, .ref hm0), (1, .int (zI n)), (2, .int (zI k))]) hx hb dX9_plan_193 hl (k := 4) rfl (zI_add _ _) (by decide) rfl (fun ls hl => ?_)
                                      refine lv_goto (tgt := 51) hx hb dX9_plan_196 (by decide) ?_
                                      exact ih51 (code + 1) le g r1 b2 H locs ls (by omega) (by omega) (by exact pl_step hcode.1 hpI hvq (by omega) (by first | exact Or.inl ⟨by omega, rfl, fun j h1 h2 => by rw [hb2 j h1 (by omega)]; exact (hrow j h1 h2).1⟩ | exact Or.inr ⟨by omega, rfl, hb20 (by omega)⟩ | (exfalso; omega))) (by omega) hP hD hS (lv_sub hl [0, 1, 5, 6, 7, 8] rfl)
                                    · refine lv_iload hx hb dX9_plan_184 (lv_at hl 1 rfl) ?_
                                      refine lv_goto (tgt := 191) hx hb dX9_plan_186 (by decide) ?_
                                      refine lv_istore (lv' := [(4, .int (zI v)), (8, .int (zI q)), (7, .int (zI v)), (6, .int (zI lf)), (5, .int (zI code)), (3, .int (zI co)), (0, .ref hm0), (1, .int (zI n)), (2, .int (zI k))]) hx hb dX9_plan_191 hl (by decide) rfl (fun ls hl => ?_)
                                      refine lv_iinc (v := zI (code + 1)) (lv' := [(5, .int (zI (code + 1))), (4, .int (zI v)), (8, .int (zI q)), (7, .int (zI v)), (6, .int (zI lf)), (3, .int (zI co)), (0, .ref hm0), (1, .int (zI n)), (2, .int (zI k))]) hx hb dX9_plan_193 hl (k := 4) rfl (zI_add _ _) (by decide) rfl (fun ls hl => ?_)
                                      refine lv_goto (tgt := 51) hx hb dX9_plan_196 (by decide) ?_
                                      exact ih51 (code + 1) v g r1 b2 H locs ls (by omega) (by omega) (by exact pl_step hcode.1 hpI hvq (by omega) (by first | exact Or.inl ⟨by omega, rfl, fun j h1 h2 => by rw [hb2 j h1 (by omega)]; exact (hrow j h1 h2).1⟩ | exact Or.inr ⟨by omega, rfl, hb20 (by omega)⟩ | (exfalso; omega))) (by omega) hP hD hS (lv_sub hl [0, 1, 5, 6, 7, 8] rfl)
                                  · refine lv_iload hx hb dX9_plan_150 (lv_at hl 1 rfl) ?_
                                    refine lv_iload hx hb dX9_plan_152 (lv_at hl 4 rfl) ?_
                                    refine z_icmp_ge (tgt := 177) hx hb (by omega) dX9_plan_154 (by decide) (fun c_13 => ?_) (fun c_13 => ?_)
                                    · refine lv_iload hx hb dX9_plan_177 (lv_at hl 1 rfl) ?_
                                      refine lv_iload hx hb dX9_plan_179 (lv_at hl 4 rfl) ?_
                                      refine z_icmp_ge (tgt := 189) hx hb (by omega) dX9_plan_181 (by decide) (fun c_14 => ?_) (fun c_14 => ?_)
                                      · refine lv_iload hx hb dX9_plan_189 (lv_at hl 4 rfl) ?_
                                        refine lv_istore (lv' := [(4, .int (zI le)), (8, .int (zI q)), (7, .int (zI v)), (6, .int (zI lf)), (5, .int (zI code)), (3, .int (zI co)), (0, .ref hm0), (1, .int (zI n)), (2, .int (zI k))]) hx hb dX9_plan_191 hl (by decide) rfl (fun ls hl => ?_)
                                        refine lv_iinc (v := zI (code + 1)) (lv' := [(5, .int (zI (code + 1))), (4, .int (zI le)), (8, .int (zI q)), (7, .int (zI v)), (6, .int (zI lf)), (3, .int (zI co)), (0, .ref hm0), (1, .int (zI n)), (2, .int (zI k))]) hx hb dX9_plan_193 hl (k := 4) rfl (zI_add _ _) (by decide) rfl (fun ls hl => ?_)
                                        refine lv_goto (tgt := 51) hx hb dX9_plan_196 (by decide) ?_
                                        exact ih51 (code + 1) le g r1 b2 H locs ls (by omega) (by omega) (by exact pl_step hcode.1 hpI hvq (by omega) (by first | exact Or.inl ⟨by omega, rfl, fun j h1 h2 => by rw [hb2 j h1 (by omega)]; exact (hrow j h1 h2).1⟩ | exact Or.inr ⟨by omega, rfl, hb20 (by omega)⟩ | (exfalso; omega))) (by omega) hP hD hS (lv_sub hl [0, 1, 5, 6, 7, 8] rfl)
                                      · refine lv_iload hx hb dX9_plan_184 (lv_at hl 1 rfl) ?_
                                        refine lv_goto (tgt := 191) hx hb dX9_plan_186 (by decide) ?_
                                        refine lv_istore (lv' := [(4, .int (zI v)), (8, .int (zI q)), (7, .int (zI v)), (6, .int (zI lf)), (5, .int (zI code)), (3, .int (zI co)), (0, .ref hm0), (1, .int (zI n)), (2, .int (zI k))]) hx hb dX9_plan_191 hl (by decide) rfl (fun ls hl => ?_)
                                        refine lv_iinc (v := zI (code + 1)) (lv' := [(5, .int (zI (code + 1))), (4, .int (zI v)), (8, .int (zI q)), (7, .int (zI v)), (6, .int (zI lf)), (3, .int (zI co)), (0, .ref hm0), (1, .int (zI n)), (2, .int (zI k))]) hx hb dX9_plan_193 hl (k := 4) rfl (zI_add _ _) (by decide) rfl (fun ls hl => ?_)
                                        refine lv_goto (tgt := 51) hx hb dX9_plan_196 (by decide) ?_
                                        exact ih51 (code + 1) v g r1 b2 H locs ls (by omega) (by omega) (by exact pl_step hcode.1 hpI hvq (by omega) (by first | exact Or.inl ⟨by omega, rfl, fun j h1 h2 => by rw [hb2 j h1 (by omega)]; exact (hrow j h1 h2).1⟩ | exact Or.inr ⟨by omega, rfl, hb20 (by omega)⟩ | (exfalso; omega))) (by omega) hP hD hS (lv_sub hl [0, 1, 5, 6, 7, 8] rfl)
                                    · refine lv_aload_n hx hb dX9_plan_157 rfl (lv_at hl 6 rfl) ?_
                                      refine va_get (ci := 9) (v := .ref mb) (C := RX9) (T := TX9) (N := 30) hx hb hts i9 hown hK hP 0 rfl rfl 29 (by decide) f57 (fun _ h9 => h9) rfl dX9_plan_158 ?_
                                      refine lv_iload hx hb dX9_plan_161 (lv_at hl 0 rfl) ?_
                                      refine lv_aload_n hx hb dX9_plan_163 rfl (lv_at hl 6 rfl) ?_
                                      refine va_get (ci := 9) (v := .ref mr) (C := RX9) (T := TX9) (N := 30) hx hb hts i9 hown hK hP 0 rfl rfl 28 (by decide) f54 (fun _ h9 => h9) rfl dX9_plan_164 ?_
                                      refine lv_iload hx hb dX9_plan_167 (lv_at hl 0 rfl) ?_
                                      refine z_iald (n := 4) (f := r1) hx hb hK hP 4 rfl (by omega) dX9_plan_169 ?_
                                      refine z_iast (n := 4) (f := b2) (i := q) (v := r1 q) hx hb hK hP hD hS 5 rfl (by omega) dX9_plan_170 (fun H locs hP hD hS => ?_)
                                      have hP : kP G [(hm0, .inr (9, [.int (zI S), .int (zI C), .int (zI Wy), .int (zI Li), .ref ml, .ref ms, .ref mw, .int (zI kn), .ref mi, .ref mk, .int (zI hz), .ref mh, .long tr, .ref mt, .int (zI tn), .int (zI cu), .int (zI sa), .int (zI to), .int (zI nu), .int (zI wr), .int (zI it), .int (zI sS), .int (zI sC), .int (zI sL), .int (zI sW), .ref mq, .ref mn, .ref mc, .ref mr, .ref mb])), (mn, .inl (G.2.1, 15, .inl (aZ g))), (ms, .inl (G.2.1, 15, .inl (aZ sf))), (ml, .inl (G.2.1, 12, .inl (aZ ld))), (mr, .inl (G.2.1, 4, .inl (aZ r1))), (mb, .inl (G.2.1, 4, .inl (aZ (uZ b2 q (r1 q)))))] H := hP
                                      have hD : va_D A [(hm0, .inr (9, [.int (zI S), .int (zI C), .int (zI Wy), .int (zI Li), .ref ml, .ref ms, .ref mw, .int (zI kn), .ref mi, .ref mk, .int (zI hz), .ref mh, .long tr, .ref mt, .int (zI tn), .int (zI cu), .int (zI sa), .int (zI to), .int (zI nu), .int (zI wr), .int (zI it), .int (zI sS), .int (zI sC), .int (zI sL), .int (zI sW), .ref mq, .ref mn, .ref mc, .ref mr, .ref mb])), (mn, .inl (G.2.1, 15, .inl (aZ g))), (ms, .inl (G.2.1, 15, .inl (aZ sf))), (ml, .inl (G.2.1, 12, .inl (aZ ld))), (mr, .inl (G.2.1, 4, .inl (aZ r1))), (mb, .inl (G.2.1, 4, .inl (aZ (uZ b2 q (r1 q)))))] := hD
                                      refine lv_iinc (v := zI (q + 1)) (lv' := [(8, .int (zI (q + 1))), (7, .int (zI v)), (6, .int (zI lf)), (5, .int (zI code)), (4, .int (zI le)), (3, .int (zI co)), (0, .ref hm0), (1, .int (zI n)), (2, .int (zI k))]) hx hb dX9_plan_171 hl (k := 0) rfl (zI_add _ _) (by decide) rfl (fun ls hl => ?_)
                                      refine lv_goto (tgt := 144) hx hb dX9_plan_174 (by decide) ?_
                                      exact ih144 (q + 1) (uZ b2 q (r1 q)) H locs ls (by omega) (by omega) (by intro h8; omega) (by intro j h1 h2; unfold uZ; split; (rename_i e; rw [e]); exact hb2 j h1 (by omega)) (by omega) hP hD hS (lv_sub hl [0, 1, 2, 3, 4, 5, 6, 7, 8] rfl)
                              exact loop144 _ 0 b0 H locs ls (by omega) (by omega) (by exact fun _ => rfl) (by intro j h1 h2; omega) (Nat.lt_succ_self _) hP hD hS (lv_sub hl [0, 1, 2, 3, 4, 5, 6, 7, 8] rfl)
                            · have hrj := hrow j hj.1 (by omega)
                              have hfr := fromZ_rng hB hg1 hrj.2
                              refine lv_aload_n hx hb dX9_plan_113 rfl (lv_at hl 5 rfl) ?_
                              refine lv_aload_n hx hb dX9_plan_114 rfl (lv_at hl 5 rfl) ?_
                              refine va_get (ci := 9) (v := .ref mr) (C := RX9) (T := TX9) (N := 30) hx hb hts i9 hown hK hP 0 rfl rfl 28 (by decide) f54 (fun _ h9 => h9) rfl dX9_plan_115 ?_
                              refine lv_iload hx hb dX9_plan_118 (lv_at hl 0 rfl) ?_
                              refine z_iald (n := 4) (f := r1) hx hb hK hP 4 rfl (by omega) dX9_plan_120 ?_
                              refine z_wVv (As := [.int (zI (r1 j))]) (rest := []) ⟨hx, hb, hml, hown, hts⟩ (c_X9_turns l G hm0 S C Wy Li ml ms mw kn mi mk hz mh tr mt tn cu sa to nu wr it sS sC sL sW mq mn mc mr mb g (r1 j) (by first | assumption | omega) (by first | assumption | (rw [uZ_same]; omega)) (by first | assumption | omega)) (cwV 1 hts gX9_plan_X9_turns rfl rfl rfl pd_X9_turns ⟨(Nat.le_of_ble_eq_true rfl), (Nat.le_of_ble_eq_true rfl)⟩) hK hP hD hS [0, 1] (by decide) rfl rfl rfl rfl (fun _ => Eq.trans (b := [hm0, mn]) rfl rfl) rfl hl.1 rfl (Nat.le_of_ble_eq_true rfl) dX9_plan_121 ⟨Nat.zero_le _, Nat.zero_le _⟩ (fun u_ H locs hw_15 hP hD hS => ?_)
                              try dsimp only at hw_15
                              have hP : kP G [(hm0, .inr (9, [.int (zI S), .int (zI C), .int (zI Wy), .int (zI Li), .ref ml, .ref ms, .ref mw, .int (zI kn), .ref mi, .ref mk, .int (zI hz), .ref mh, .long tr, .ref mt, .int (zI tn), .int (zI cu), .int (zI sa), .int (zI to), .int (zI nu), .int (zI wr), .int (zI it), .int (zI sS), .int (zI sC), .int (zI sL), .int (zI sW), .ref mq, .ref mn, .ref mc, .ref mr, .ref mb])), (mn, .inl (G.2.1, 15, .inl (aZ (uZ g 1 (fromZ S (g 1) (r1 j)))))), (ms, .inl (G.2.1, 15, .inl (aZ sf))), (ml, .inl (G.2.1, 12, .inl (aZ ld))), (mr, .inl (G.2.1, 4, .inl (aZ r1))), (mb, .inl (G.2.1, 4, .inl (aZ b0)))] H := hP
                              have hD : va_D A [(hm0, .inr (9, [.int (zI S), .int (zI C), .int (zI Wy), .int (zI Li), .ref ml, .ref ms, .ref mw, .int (zI kn), .ref mi, .ref mk, .int (zI hz), .ref mh, .long tr, .ref mt, .int (zI tn), .int (zI cu), .int (zI sa), .int (zI to), .int (zI nu), .int (zI wr), .int (zI it), .int (zI sS), .int (zI sC), .int (zI sL), .int (zI sW), .ref mq, .ref mn, .ref mc, .ref mr, .ref mb])), (mn, .inl (G.2.1, 15, .inl (aZ (uZ g 1 (fromZ S (g 1) (r1 j)))))), (ms, .inl (G.2.1, 15, .inl (aZ sf))), (ml, .inl (G.2.1, 12, .inl (aZ ld))), (mr, .inl (G.2.1, 4, .inl (aZ r1))), (mb, .inl (G.2.1, 4, .inl (aZ b0)))] := hD
                              refine lv_aload_n hx hb dX9_plan_124 rfl (lv_at hl 5 rfl) ?_
                              refine z_wV (As := []) (rest := []) ⟨hx, hb, hml, hown, hts⟩ (c_X9_goes l G hm0 S C Wy Li ml ms mw kn mi mk hz mh tr mt tn cu sa to nu wr it sS sC sL sW mq mn mc mr mb (uZ g 1 (fromZ S (g 1) (r1 j))) ld (by first | assumption | omega) (by first | assumption | (rw [uZ_same]; omega)) (by exact fun i h1 h2 => by rw [uZ_ne _ _ (by omega)]; have := hgr i h1 h2; omega) (by first | assumption | omega)) (cwV 0 hts gX9_plan_X9_goes rfl rfl rfl pd_X9_goes ⟨(Nat.le_of_ble_eq_true rfl), (Nat.le_of_ble_eq_true rfl)⟩) hK hP hD hS [0, 1, 3] (by decide) rfl rfl rfl rfl (fun _ => Eq.trans (b := [hm0, mn, ml]) rfl rfl) rfl hl.1 rfl (Nat.le_of_ble_eq_true rfl) dX9_plan_125 ⟨Nat.zero_le _, Nat.zero_le _⟩ (fun r_ u_ H locs hw_17 hP hD hS => ?_)
                              obtain ⟨nf2_16, rfl⟩ : ∃ z, z = u_ := ⟨_, rfl⟩
                              obtain ⟨rfl, hw_17⟩ := hw_17
                              try dsimp only at hw_17
                              obtain rfl := hw_17
                              have hP : kP G [(hm0, .inr (9, [.int (zI S), .int (zI C), .int (zI Wy), .int (zI Li), .ref ml, .ref ms, .ref mw, .int (zI kn), .ref mi, .ref mk, .int (zI hz), .ref mh, .long tr, .ref mt, .int (zI tn), .int (zI cu), .int (zI sa), .int (zI to), .int (zI nu), .int (zI wr), .int (zI it), .int (zI sS), .int (zI sC), .int (zI sL), .int (zI sW), .ref mq, .ref mn, .ref mc, .ref mr, .ref mb])), (mn, .inl (G.2.1, 15, .inl (aZ (uZ (uZ (uZ g 1 (fromZ S (g 1) (r1 j))) (3 + (uZ g 1 (fromZ S (g 1) (r1 j))) 1) (if 999 < (uZ g 1 (fromZ S (g 1) (r1 j))) (3 + (uZ g 1 (fromZ S (g 1) (r1 j))) 1) + ld ((uZ g 1 (fromZ S (g 1) (r1 j))) 1) then 999 else (uZ g 1 (fromZ S (g 1) (r1 j))) (3 + (uZ g 1 (fromZ S (g 1) (r1 j))) 1) + ld ((uZ g 1 (fromZ S (g 1) (r1 j))) 1))) 0 ((uZ g 1 (fromZ S (g 1) (r1 j))) 0 + 1))))), (ms, .inl (G.2.1, 15, .inl (aZ sf))), (ml, .inl (G.2.1, 12, .inl (aZ ld))), (mr, .inl (G.2.1, 4, .inl (aZ r1))), (mb, .inl (G.2.1, 4, .inl (aZ b0)))] H := hP
                              have hD : va_D A [(hm0, .inr (9, [.int (zI S), .int (zI C), .int (zI Wy), .int (zI Li), .ref ml, .ref ms, .ref mw, .int (zI kn), .ref mi, .ref mk, .int (zI hz), .ref mh, .long tr, .ref mt, .int (zI tn), .int (zI cu), .int (zI sa), .int (zI to), .int (zI nu), .int (zI wr), .int (zI it), .int (zI sS), .int (zI sC), .int (zI sL), .int (zI sW), .ref mq, .ref mn, .ref mc, .ref mr, .ref mb])), (mn, .inl (G.2.1, 15, .inl (aZ (uZ (uZ (uZ g 1 (fromZ S (g 1) (r1 j))) (3 + (uZ g 1 (fromZ S (g 1) (r1 j))) 1) (if 999 < (uZ g 1 (fromZ S (g 1) (r1 j))) (3 + (uZ g 1 (fromZ S (g 1) (r1 j))) 1) + ld ((uZ g 1 (fromZ S (g 1) (r1 j))) 1) then 999 else (uZ g 1 (fromZ S (g 1) (r1 j))) (3 + (uZ g 1 (fromZ S (g 1) (r1 j))) 1) + ld ((uZ g 1 (fromZ S (g 1) (r1 j))) 1))) 0 ((uZ g 1 (fromZ S (g 1) (r1 j))) 0 + 1))))), (ms, .inl (G.2.1, 15, .inl (aZ sf))), (ml, .inl (G.2.1, 12, .inl (aZ ld))), (mr, .inl (G.2.1, 4, .inl (aZ r1))), (mb, .inl (G.2.1, 4, .inl (aZ b0)))] := hD
                              refine lv_pop hx hb dX9_plan_128 rfl ?_
                              refine lv_iinc (v := zI (j + 1)) (lv' := [(7, .int (zI (j + 1))), (6, .int (zI lf)), (5, .int (zI code)), (4, .int (zI le)), (3, .int (zI co)), (0, .ref hm0), (1, .int (zI n)), (2, .int (zI k))]) hx hb dX9_plan_129 hl (k := 0) rfl (zI_add _ _) (by decide) rfl (fun ls hl => ?_)
                              refine lv_goto (tgt := 107) hx hb dX9_plan_132 (by decide) ?_
                              exact ih107 (j + 1) (uZ (uZ (uZ g 1 (fromZ S (g 1) (r1 j))) (3 + (uZ g 1 (fromZ S (g 1) (r1 j))) 1) (if 999 < (uZ g 1 (fromZ S (g 1) (r1 j))) (3 + (uZ g 1 (fromZ S (g 1) (r1 j))) 1) + ld ((uZ g 1 (fromZ S (g 1) (r1 j))) 1) then 999 else (uZ g 1 (fromZ S (g 1) (r1 j))) (3 + (uZ g 1 (fromZ S (g 1) (r1 j))) 1) + ld ((uZ g 1 (fromZ S (g 1) (r1 j))) 1))) 0 ((uZ g 1 (fromZ S (g 1) (r1 j))) 0 + 1)) H locs ls (by omega) (by exact stP_step hB hj.1 hg1 hrj.2 hld hst (hgr _ (by omega) (by omega)).2) (by omega) hP hD hS (lv_sub hl [0, 1, 2, 3, 4, 5, 6, 7] rfl)
                        exact loop107 _ 0 (cpK g0 0 sf 0 15) H locs ls (by omega) (by exact ⟨cp15 (by omega), fun i h1 h2 => cp15 (by omega)⟩) (Nat.lt_succ_self _) hP hD hS (lv_sub hl [0, 1, 2, 3, 4, 5, 6, 7] rfl)
                      · refine lv_aload_n hx hb dX9_plan_71 rfl (lv_at hl 5 rfl) ?_
                        refine va_get (ci := 9) (v := .ref mr) (C := RX9) (T := TX9) (N := 30) hx hb hts i9 hown hK hP 0 rfl rfl 28 (by decide) f54 (fun _ h9 => h9) rfl dX9_plan_72 ?_
                        refine lv_iload hx hb dX9_plan_75 (lv_at hl 0 rfl) ?_
                        refine lv_iload hx hb dX9_plan_77 (lv_at hl 1 rfl) ?_
                        refine lv_aload_n hx hb dX9_plan_79 rfl (lv_at hl 5 rfl) ?_
                        refine va_get (ci := 9) (v := .int (zI Wy)) (C := RX9) (T := TX9) (N := 30) hx hb hts i9 hown hK hP 0 rfl rfl 2 (by decide) f16 (fun _ h9 => h9) rfl dX9_plan_80 ?_
                        refine z_irem hx hb (by omega) dX9_plan_83 ?_
                        refine z_iast (n := 4) (f := r1) (i := i) (v := lf % Wy) hx hb hK hP hD hS 4 rfl (by omega) dX9_plan_84 (fun H locs hP hD hS => ?_)
                        have hP : kP G [(hm0, .inr (9, [.int (zI S), .int (zI C), .int (zI Wy), .int (zI Li), .ref ml, .ref ms, .ref mw, .int (zI kn), .ref mi, .ref mk, .int (zI hz), .ref mh, .long tr, .ref mt, .int (zI tn), .int (zI cu), .int (zI sa), .int (zI to), .int (zI nu), .int (zI wr), .int (zI it), .int (zI sS), .int (zI sC), .int (zI sL), .int (zI sW), .ref mq, .ref mn, .ref mc, .ref mr, .ref mb])), (mn, .inl (G.2.1, 15, .inl (aZ g0))), (ms, .inl (G.2.1, 15, .inl (aZ sf))), (ml, .inl (G.2.1, 12, .inl (aZ ld))), (mr, .inl (G.2.1, 4, .inl (aZ (uZ r1 i (lf % Wy))))), (mb, .inl (G.2.1, 4, .inl (aZ b0)))] H := hP
                        have hD : va_D A [(hm0, .inr (9, [.int (zI S), .int (zI C), .int (zI Wy), .int (zI Li), .ref ml, .ref ms, .ref mw, .int (zI kn), .ref mi, .ref mk, .int (zI hz), .ref mh, .long tr, .ref mt, .int (zI tn), .int (zI cu), .int (zI sa), .int (zI to), .int (zI nu), .int (zI wr), .int (zI it), .int (zI sS), .int (zI sC), .int (zI sL), .int (zI sW), .ref mq, .ref mn, .ref mc, .ref mr, .ref mb])), (mn, .inl (G.2.1, 15, .inl (aZ g0))), (ms, .inl (G.2.1, 15, .inl (aZ sf))), (ml, .inl (G.2.1, 12, .inl (aZ ld))), (mr, .inl (G.2.1, 4, .inl (aZ (uZ r1 i (lf % Wy))))), (mb, .inl (G.2.1, 4, .inl (aZ b0)))] := hD
                        refine lv_iload hx hb dX9_plan_85 (lv_at hl 1 rfl) ?_
                        refine lv_aload_n hx hb dX9_plan_87 rfl (lv_at hl 5 rfl) ?_
                        refine va_get (ci := 9) (v := .int (zI Wy)) (C := RX9) (T := TX9) (N := 30) hx hb hts i9 hown hK hP 0 rfl rfl 2 (by decide) f16 (fun _ h9 => h9) rfl dX9_plan_88 ?_
                        refine z_idiv hx hb (by omega) dX9_plan_91 ?_
                        refine lv_istore (lv' := [(6, .int (zI (lf / Wy))), (7, .int (zI i)), (5, .int (zI code)), (4, .int (zI le)), (3, .int (zI co)), (0, .ref hm0), (1, .int (zI n)), (2, .int (zI k))]) hx hb dX9_plan_92 hl (by decide) rfl (fun ls hl => ?_)
                        refine lv_iinc (v := zI (i + (-1))) (lv' := [(7, .int (zI (i + (-1)))), (6, .int (zI (lf / Wy))), (5, .int (zI code)), (4, .int (zI le)), (3, .int (zI co)), (0, .ref hm0), (1, .int (zI n)), (2, .int (zI k))]) hx hb dX9_plan_94 hl (k := 1) rfl (zI_add _ _) (by decide) rfl (fun ls hl => ?_)
                        refine lv_goto (tgt := 66) hx hb dX9_plan_97 (by decide) ?_
                        exact ih66 (i + -1) (lf / Wy) (uZ r1 i (lf % Wy)) H locs ls (by omega) (by rw [show (n - 1 - (i + -1)).toNat = (n - 1 - i).toNat + 1 by omega, dgL, ← hlf]) (by intro q h1 h2; unfold uZ; split; (rename_i e; rw [e, hlf]; rfl); exact hr1 q (by omega) h2) (by omega) hP hD hS (lv_sub hl [0, 1, 2, 3, 4, 5, 6, 7] rfl)
                  exact loop66 _ (n - 1) code r0 H locs ls (by omega) (by rw [show (n - 1 - (n - 1)).toNat = 0 by omega]; rfl) (by intro q h1 h2; omega) (Nat.lt_succ_self _) hP hD hS (lv_sub hl [0, 1, 2, 3, 4, 5, 6, 7] rfl)
            exact loop51 _ 0 1000000 nf rf0 bf H locs ls (by omega) (by omega) (by exact Or.inl ⟨rfl, rfl⟩) (Nat.lt_succ_self _) hP hD hS (lv_sub hl [0, 1, 2, 3, 4, 5] rfl)
          · refine lv_iload_n hx hb dX9_plan_31 rfl (lv_at hl 1 rfl) ?_
            refine lv_aload_n hx hb dX9_plan_32 rfl (lv_at hl 2 rfl) ?_
            refine va_get (ci := 9) (v := .int (zI Wy)) (C := RX9) (T := TX9) (N := 30) hx hb hts i9 hown hK hP 0 rfl rfl 2 (by decide) f16 (fun _ h9 => h9) rfl dX9_plan_33 ?_
            refine z_imul hx hb dX9_plan_36 ?_
            refine lv_istore_n (lv' := [(3, .int (zI (co * Wy))), (4, .int (zI i0)), (0, .ref hm0), (1, .int (zI n)), (2, .int (zI k))]) hx hb dX9_plan_37 rfl hl (by decide) rfl (fun ls hl => ?_)
            refine lv_iinc (v := zI (i0 + 1)) (lv' := [(4, .int (zI (i0 + 1))), (3, .int (zI (co * Wy))), (0, .ref hm0), (1, .int (zI n)), (2, .int (zI k))]) hx hb dX9_plan_38 hl (k := 1) rfl (zI_add _ _) (by decide) rfl (fun ls hl => ?_)
            refine lv_goto (tgt := 25) hx hb dX9_plan_41 (by decide) ?_
            exact ih25 (i0 + 1) (co * Wy) H locs ls (by omega) (by rw [tn1 hi0.1, pwZ, ← hco]) (by omega) hP hD hS (lv_sub hl [0, 1, 2, 3, 4] rfl)
      exact loop25 _ 0 1 H locs ls (by omega) rfl (Nat.lt_succ_self _) hP hD hS (lv_sub hl [0, 1, 2, 3, 4] rfl)
    · refine lv_iconst (v := zI (-1)) hx hb dX9_plan_18 rfl ?_
      exact hret H locs ls 19 _ (nf, rf0, bf, 0) rfl ⟨congrArg zI (by rw [if_pos (by omega)]), by exact fun h => absurd h (by omega)⟩ hP hS dX9_plan_19
