
abbrev bdI (f : Int → Int) (n po cu sa to nu it sS sC sL sW : Int) (qf : Int → Int) : Prop := tokR f n po cu sa to nu ∧ (0 ≤ po ∧ po ≤ n) ∧ (0 ≤ it ∧ it ≤ po) ∧ ((2 ≤ sS ∧ sS ≤ 6) ∧ (1 ≤ sC ∧ sC ≤ 2)) ∧ (sL = 0 ∨ (5 ≤ sL ∧ sL ≤ 99)) ∧ (-1 ≤ sW ∧ sW ≤ 12) ∧ ∃ (fu : Nat) (L : Int → Int), n - po ≤ (fu : Int) ∧ prG f n fu po it sS sC (sS * sC) (if sL = 0 then 20 else sL) (if sW < 0 then 0 else sW) (if sL = 0 then 0 else 1) (if sW < 0 then 0 else 1) L = prZ f n ∧ ∀ j : Int, 0 ≤ j → j < 12 → qf j = L j
theorem shSC {sS sC : Int} (h : (2 ≤ sS ∧ sS ≤ 6) ∧ (1 ≤ sC ∧ sC ≤ 2)) : 1 ≤ sS * sC ∧ sS * sC ≤ 12 := by
  rcases (show sC = 1 ∨ sC = 2 by omega) with rfl | rfl <;> omega
theorem ltx {sL : Int} (h : sL = 0 ∨ (5 ≤ sL ∧ sL ≤ 99)) : ((if sL = 0 then (0 : Int) else 1) = 0 ∧ sL = 0) ∨ ((if sL = 0 then (0 : Int) else 1) = 1 ∧ 0 < sL) := by
  by_cases e : sL = 0
  · rw [if_pos e]; omega
  · rw [if_neg e]; omega
theorem btx (sW : Int) : ((if sW < 0 then (0 : Int) else 1) = 0 ∧ sW < 0) ∨ ((if sW < 0 then (0 : Int) else 1) = 1 ∧ 0 ≤ sW) := by
  by_cases e : sW < 0
  · rw [if_pos e]; omega
  · rw [if_neg e]; omega
theorem bd_bad {f : Int → Int} {n po cu sa to nu it sS sC sL sW : Int} {qf : Int → Int} (hb : bdI f n po cu sa to nu it sS sC sL sW qf) (hne : ¬ tkK f n po = -1) (hi : ¬ itB f n (tkE f n po) (tkK f n po) it (if sL = 0 then 0 else 1) (if sW < 0 then 0 else 1) (sS * sC) = true) : (prZ f n).1 = -10 - ftI f n (tkE f n po) (tkK f n po) it (if sL = 0 then 0 else 1) (if sW < 0 then 0 else 1) (sS * sC) (tkS f n po) := by
  obtain ⟨ht, hpo, hit, hsh, hsl, hsw, fu, L, hfu, hpr, hq⟩ := hb
  have hg := tkE_gt hpo.2 hne
  have hs := tkS_rng (f := f) hpo.2
  cases fu with
  | zero => exfalso; omega
  | succ k =>
    rw [prG_bad hne hi] at hpr
    rw [← hpr]
theorem bd_end {f : Int → Int} {n po cu sa to nu it sS sC sL sW : Int} {qf : Int → Int} (hb : bdI f n po cu sa to nu it sS sC sL sW qf) (he : tkK f n po = -1) : ∃ L : Int → Int, prZ f n = (it, sS, sC, sS * sC, (if sL = 0 then 20 else sL), (if sW < 0 then 0 else sW), L) ∧ ∀ j : Int, 0 ≤ j → j < 12 → qf j = L j := by
  obtain ⟨ht, hpo, hit, hsh, hsl, hsw, fu, L, hfu, hpr, hq⟩ := hb
  rw [prG_end he] at hpr
  exact ⟨L, hpr.symm, hq⟩
theorem bd_ok {f : Int → Int} {n po cu sa to nu it sS sC sL sW : Int} {qf : Int → Int} {cu2 sa2 to2 nu2 wr2 sS2 sC2 sL2 sW2 : Int} {qf2 : Int → Int} (hb : bdI f n po cu sa to nu it sS sC sL sW qf) (hne : ¬ tkK f n po = -1) (hi : itB f n (tkE f n po) (tkK f n po) it (if sL = 0 then 0 else 1) (if sW < 0 then 0 else 1) (sS * sC) = true) (hA : tokR f n (nxP f n po) cu2 sa2 to2 nu2 ∧ wr2 = 0 ∧ sS2 = (if tkK f n po = 115 then tkV f n (tkE f n po) else sS) ∧ sC2 = (if tkK f n po = 115 then tkV f n (tkE f n (tkE f n po)) else sC) ∧ sL2 = (if tkK f n po = 109 then tkV f n (tkE f n po) else sL) ∧ sW2 = (if tkK f n po = 98 then tkV f n (tkE f n po) else sW) ∧ qf2 = (if tkK f n po = 108 then uZ qf (tkV f n (tkE f n po)) (tkV f n (tkE f n (tkE f n po))) else qf)) : bdI f n (nxP f n po) cu2 sa2 to2 nu2 (it + 1) sS2 sC2 sL2 sW2 qf2 := by
  obtain ⟨ht, hpo, hit, hsh, hsl, hsw, fu, L, hfu, hpr, hq⟩ := hb
  obtain ⟨hA1, _, hS2, hC2, hL2, hW2, hQ2⟩ := hA
  have hg := tkE_gt hpo.2 hne
  have hs := tkS_rng (f := f) hpo.2
  have hx := nxP_rng (f := f) hpo.2 hne
  have hsc := shSC hsh
  cases fu with
  | zero => exfalso; omega
  | succ k =>
    rw [prG_ok hne hi] at hpr
    have hi2 := hi
    unfold itB at hi2
    rw [decide_eq_true_eq] at hi2
    rcases hi2 with h | h | h | h
    · have h1 := h.2.2
      simp only [h.1, Int.reduceEq, reduceIte, or_self, or_true, true_or, or_false, false_or] at hpr hS2 hC2 hL2 hW2 hQ2
      subst hS2 hC2 hL2 hW2 hQ2
      refine ⟨hA1, by omega, by omega, by omega, hsl, hsw, k, L, by omega, ?_, hq⟩
      rw [show nxP f n po = tkE f n (tkE f n (tkE f n (tkE f n po))) by unfold nxP; rw [h.1, if_pos (by decide)]]
      exact hpr
    · have h1 := h.2
      simp only [h.1, Int.reduceEq, reduceIte, or_self, or_true, true_or, or_false, false_or] at hpr hS2 hC2 hL2 hW2 hQ2
      subst hS2 hC2 hL2 hW2 hQ2
      refine ⟨hA1, by omega, by omega, hsh, hsl, hsw, k, uZ L (tkV f n (tkE f n po)) (tkV f n (tkE f n (tkE f n po))), by omega, ?_, fun j h2 h3 => ?_⟩
      · rw [show nxP f n po = tkE f n (tkE f n (tkE f n (tkE f n po))) by unfold nxP; rw [h.1, if_pos (by decide)]]
        exact hpr
      · unfold uZ
        split
        · rfl
        · exact hq j h2 h3
    · have h1 := h.2.2
      simp only [h.1, Int.reduceEq, reduceIte, or_self, or_true, true_or, or_false, false_or] at hpr hS2 hC2 hL2 hW2 hQ2
      subst hS2 hC2 hL2 hW2 hQ2
      refine ⟨hA1, by omega, by omega, hsh, by omega, hsw, k, L, by omega, ?_, hq⟩
      rw [show nxP f n po = tkE f n (tkE f n (tkE f n po)) by unfold nxP; rw [h.1, if_neg (by decide)], if_neg (show ¬ tkV f n (tkE f n po) = 0 by omega), if_neg (show ¬ tkV f n (tkE f n po) = 0 by omega)]
      exact hpr
    · have h1 := h.2.2
      simp only [h.1, Int.reduceEq, reduceIte, or_self, or_true, true_or, or_false, false_or] at hpr hS2 hC2 hL2 hW2 hQ2
      subst hS2 hC2 hL2 hW2 hQ2
      refine ⟨hA1, by omega, by omega, hsh, hsl, by omega, k, L, by omega, ?_, hq⟩
      rw [show nxP f n po = tkE f n (tkE f n (tkE f n po)) by unfold nxP; rw [h.1, if_neg (by decide)], if_neg (show ¬ tkV f n (tkE f n po) < 0 by omega), if_neg (show ¬ tkV f n (tkE f n po) < 0 by omega)]
      exact hpr

theorem pd_X9_bed : yX9_bed.cls = RX9 ∧ yX9_bed.cls ≠ "java/lang/invoke/MethodHandle" ∧ yX9_bed.cls ≠ "java/lang/invoke/VarHandle" ∧ (parseMethodDescriptor yX9_bed.desc).map (fun d => d.parameters.length) = some 0 := by decide +kernel
abbrev rmX9_bed : Room := { frames := 6, cells := 0, slots := 0, locals := 131 }
set_option maxHeartbeats 4000000 in
set_option maxRecDepth 100000 in
theorem c_X9_bed (l : Launch) (G : CX) (hm0 : Nat) (S : Int) (C : Int) (Wy : Int) (Li : Int) (ml : Nat) (ms : Nat) (mw : Nat) (kn : Int) (mi : Nat) (mk : Nat) (hz : Int) (mh : Nat) (tr : Int64) (mt : Nat) (tn : Int) (cu : Int) (sa : Int) (to : Int) (nu : Int) (wr : Int) (it : Int) (sS : Int) (sC : Int) (sL : Int) (sW : Int) (mq : Nat) (mn : Nat) (mc : Nat) (mr : Nat) (mb : Nat) (tf : Int → Int) (qf : Int → Int) (sf : Int → Int) (ld : Int → Int) (kf : Int → Int) (htn : 0 ≤ tn ∧ tn ≤ 200) (htf : ∀ i : Int, 0 ≤ i → i < tn → 0 ≤ tf i ∧ tf i ≤ 255) : Met l yX9_bed wsX9_bed rmX9_bed (wrP G [.ref hm0] [(hm0, .inr (9, [.int (zI S), .int (zI C), .int (zI Wy), .int (zI Li), .ref ml, .ref ms, .ref mw, .int (zI kn), .ref mi, .ref mk, .int (zI hz), .ref mh, .long tr, .ref mt, .int (zI tn), .int (zI cu), .int (zI sa), .int (zI to), .int (zI nu), .int (zI wr), .int (zI it), .int (zI sS), .int (zI sC), .int (zI sL), .int (zI sW), .ref mq, .ref mn, .ref mc, .ref mr, .ref mb])), (mt, .inl (G.2.1, 200, .inl (aZ tf))), (mq, .inl (G.2.1, 12, .inl (aZ qf))), (ms, .inl (G.2.1, 15, .inl (aZ sf))), (ml, .inl (G.2.1, 12, .inl (aZ ld))), (mk, .inl (G.2.2.1, 2, .inl (aZ kf)))]) (wrQ G [(hm0, .inr (9, [.int (zI S), .int (zI C), .int (zI Wy), .int (zI Li), .ref ml, .ref ms, .ref mw, .int (zI kn), .ref mi, .ref mk, .int (zI hz), .ref mh, .long tr, .ref mt, .int (zI tn), .int (zI cu), .int (zI sa), .int (zI to), .int (zI nu), .int (zI wr), .int (zI it), .int (zI sS), .int (zI sC), .int (zI sL), .int (zI sW), .ref mq, .ref mn, .ref mc, .ref mr, .ref mb])), (mt, .inl (G.2.1, 200, .inl (aZ tf))), (mq, .inl (G.2.1, 12, .inl (aZ qf))), (ms, .inl (G.2.1, 15, .inl (aZ sf))), (ml, .inl (G.2.1, 12, .inl (aZ ld))), (mk, .inl (G.2.2.1, 2, .inl (aZ kf)))] (fun (r_ : Int32) (u : Int × Int × Int × Int × Int × Int × Int × Int × Int × Int × (Int → Int) × Int × Int × Int × Int × Int × Int × Int × (Int → Int) × (Int → Int) × (Int → Int)) => match u with | (cu2, sa2, to2, nu2, wr2, it2, sS2, sC2, sL2, sW2, qf2, tn2, S2, C2, Wy2, Li2, kn2, hz2, sf2, ld2, kf2) => r_ = zI ((prZ tf tn).1) ∧ (((prZ tf tn).1 < 0 → tn2 = tn ∧ S2 = S ∧ C2 = C ∧ Wy2 = Wy ∧ Li2 = Li ∧ kn2 = kn ∧ hz2 = hz ∧ sf2 = sf ∧ ld2 = ld ∧ kf2 = kf) ∧ (¬ (prZ tf tn).1 < 0 → tn2 = 0 ∧ S2 = (prZ tf tn).2.1 ∧ C2 = (prZ tf tn).2.2.1 ∧ Wy2 = (prZ tf tn).2.1 * (prZ tf tn).2.2.1 ∧ Li2 = (prZ tf tn).2.2.2.2.1 ∧ (∀ j : Int, 0 ≤ j → j < 15 → sf2 j = if j = 1 then (prZ tf tn).2.2.2.2.2.1 else 0) ∧ (∀ j : Int, 0 ≤ j → j < 12 → ld2 j = (prZ tf tn).2.2.2.2.2.2 j) ∧ kn2 = 0 ∧ hz2 = 0 ∧ kf2 = uZ (uZ kf 0 0) 1 0))) (fun (u : Int × Int × Int × Int × Int × Int × Int × Int × Int × Int × (Int → Int) × Int × Int × Int × Int × Int × Int × Int × (Int → Int) × (Int → Int) × (Int → Int)) => match u with | (cu2, sa2, to2, nu2, wr2, it2, sS2, sC2, sL2, sW2, qf2, tn2, S2, C2, Wy2, Li2, kn2, hz2, sf2, ld2, kf2) => [(hm0, .inr (9, [.int (zI S2), .int (zI C2), .int (zI Wy2), .int (zI Li2), .ref ml, .ref ms, .ref mw, .int (zI kn2), .ref mi, .ref mk, .int (zI hz2), .ref mh, .long tr, .ref mt, .int (zI tn2), .int (zI cu2), .int (zI sa2), .int (zI to2), .int (zI nu2), .int (zI wr2), .int (zI it2), .int (zI sS2), .int (zI sC2), .int (zI sL2), .int (zI sW2), .ref mq, .ref mn, .ref mc, .ref mr, .ref mb])), (mt, .inl (G.2.1, 200, .inl (aZ tf))), (mq, .inl (G.2.1, 12, .inl (aZ qf2))), (ms, .inl (G.2.1, 15, .inl (aZ sf2))), (ml, .inl (G.2.1, 12, .inl (aZ ld2))), (mk, .inl (G.2.2.1, 2, .inl (aZ kf2)))])) 0 0 (wrA [(hm0, .inr (9, [.int (zI S), .int (zI C), .int (zI Wy), .int (zI Li), .ref ml, .ref ms, .ref mw, .int (zI kn), .ref mi, .ref mk, .int (zI hz), .ref mh, .long tr, .ref mt, .int (zI tn), .int (zI cu), .int (zI sa), .int (zI to), .int (zI nu), .int (zI wr), .int (zI it), .int (zI sS), .int (zI sC), .int (zI sL), .int (zI sW), .ref mq, .ref mn, .ref mc, .ref mr, .ref mb])), (mt, .inl (G.2.1, 200, .inl (aZ tf))), (mq, .inl (G.2.1, 12, .inl (aZ qf))), (ms, .inl (G.2.1, 15, .inl (aZ sf))), (ml, .inl (G.2.1, 12, .inl (aZ ld))), (mk, .inl (G.2.2.1, 2, .inl (aZ kf)))]) := by
  refine wr_ofW (cc := cX9_bed) (maxL := 2) (ty := .int) (by decide) rfl (Nat.le_of_ble_eq_true rfl) ?_
  intro p e s m below meth c Q A hx hb hml hown hts hK hret H locs hP hD hS ls hl
  have hown : s.vm.findClass RX9 = some m.cls := hown
  have hl : lv_has ls 2 [(0, .ref hm0)] := hl
  have f67 := hts (.fieldLink RX9 67 "QuarterTurnsModel" "cursor" "I") (by decide +kernel)
  have i9 : ∀ w ∈ wsX90, w ∈ wsX9_bed := fun w h => List.mem_cons_of_mem _ (List.mem_append_right _ h)
  have f87 := hts (.fieldLink RX9 87 "QuarterTurnsModel" "isWrong" "Z") (by decide +kernel)
  have f104 := hts (.fieldLink RX9 104 "QuarterTurnsModel" "items" "I") (by decide +kernel)
  have f94 := hts (.fieldLink RX9 94 "QuarterTurnsModel" "saidSteps" "I") (by decide +kernel)
  have f97 := hts (.fieldLink RX9 97 "QuarterTurnsModel" "saidFaces" "I") (by decide +kernel)
  have f107 := hts (.fieldLink RX9 107 "QuarterTurnsModel" "saidLimit" "I") (by decide +kernel)
  have f110 := hts (.fieldLink RX9 110 "QuarterTurnsModel" "saidWay" "I") (by decide +kernel)
  have f80 := hts (.fieldLink RX9 80 "QuarterTurnsModel" "token" "I") (by decide +kernel)
  have f74 := hts (.fieldLink RX9 74 "QuarterTurnsModel" "start" "I") (by decide +kernel)
  have f45 := hts (.fieldLink RX9 45 "QuarterTurnsModel" "saidLoad" "[I") (by decide +kernel)
  refine lv_aload_n hx hb dX9_bed_0 rfl (lv_at hl 0 rfl) ?_
  refine lv_iconst (v := zI 0) hx hb dX9_bed_1 rfl ?_
  refine va_put (ci := 9) (v := .int (zI 0)) (ty := .int) (C := RX9) (T := TX9) (N := 30) hx hb hts i9 tyX9 tyX9_ok nmX9 hown hK hP hD hS 0 rfl rfl 15 (by decide) f67 (fun _ h9 => h9) rfl (tyX9_ok 15 (by decide)) rfl rfl (Nat.le_of_ble_eq_true rfl) dX9_bed_2 (fun H locs hP hD hS => ?_)
  have hP : kP G [(hm0, .inr (9, [.int (zI S), .int (zI C), .int (zI Wy), .int (zI Li), .ref ml, .ref ms, .ref mw, .int (zI kn), .ref mi, .ref mk, .int (zI hz), .ref mh, .long tr, .ref mt, .int (zI tn), .int (zI 0), .int (zI sa), .int (zI to), .int (zI nu), .int (zI wr), .int (zI it), .int (zI sS), .int (zI sC), .int (zI sL), .int (zI sW), .ref mq, .ref mn, .ref mc, .ref mr, .ref mb])), (mt, .inl (G.2.1, 200, .inl (aZ tf))), (mq, .inl (G.2.1, 12, .inl (aZ qf))), (ms, .inl (G.2.1, 15, .inl (aZ sf))), (ml, .inl (G.2.1, 12, .inl (aZ ld))), (mk, .inl (G.2.2.1, 2, .inl (aZ kf)))] H := hP
  have hD : va_D A [(hm0, .inr (9, [.int (zI S), .int (zI C), .int (zI Wy), .int (zI Li), .ref ml, .ref ms, .ref mw, .int (zI kn), .ref mi, .ref mk, .int (zI hz), .ref mh, .long tr, .ref mt, .int (zI tn), .int (zI 0), .int (zI sa), .int (zI to), .int (zI nu), .int (zI wr), .int (zI it), .int (zI sS), .int (zI sC), .int (zI sL), .int (zI sW), .ref mq, .ref mn, .ref mc, .ref mr, .ref mb])), (mt, .inl (G.2.1, 200, .inl (aZ tf))), (mq, .inl (G.2.1, 12, .inl (aZ qf))), (ms, .inl (G.2.1, 15, .inl (aZ sf))), (ml, .inl (G.2.1, 12, .inl (aZ ld))), (mk, .inl (G.2.2.1, 2, .inl (aZ kf)))] := hD
  refine lv_aload_n hx hb dX9_bed_5 rfl (lv_at hl 0 rfl) ?_
  refine lv_iconst (v := zI 0) hx hb dX9_bed_6 rfl ?_
  refine va_put (ci := 9) (v := .int (zI 0)) (ty := .boolean) (C := RX9) (T := TX9) (N := 30) hx hb hts i9 tyX9 tyX9_ok nmX9 hown hK hP hD hS 0 rfl rfl 19 (by decide) f87 (fun _ h9 => h9) rfl (tyX9_ok 19 (by decide)) (by decide) (by decide) (Nat.le_of_ble_eq_true rfl) dX9_bed_7 (fun H locs hP hD hS => ?_)
  have hP : kP G [(hm0, .inr (9, [.int (zI S), .int (zI C), .int (zI Wy), .int (zI Li), .ref ml, .ref ms, .ref mw, .int (zI kn), .ref mi, .ref mk, .int (zI hz), .ref mh, .long tr, .ref mt, .int (zI tn), .int (zI 0), .int (zI sa), .int (zI to), .int (zI nu), .int (zI 0), .int (zI it), .int (zI sS), .int (zI sC), .int (zI sL), .int (zI sW), .ref mq, .ref mn, .ref mc, .ref mr, .ref mb])), (mt, .inl (G.2.1, 200, .inl (aZ tf))), (mq, .inl (G.2.1, 12, .inl (aZ qf))), (ms, .inl (G.2.1, 15, .inl (aZ sf))), (ml, .inl (G.2.1, 12, .inl (aZ ld))), (mk, .inl (G.2.2.1, 2, .inl (aZ kf)))] H := hP
  have hD : va_D A [(hm0, .inr (9, [.int (zI S), .int (zI C), .int (zI Wy), .int (zI Li), .ref ml, .ref ms, .ref mw, .int (zI kn), .ref mi, .ref mk, .int (zI hz), .ref mh, .long tr, .ref mt, .int (zI tn), .int (zI 0), .int (zI sa), .int (zI to), .int (zI nu), .int (zI 0), .int (zI it), .int (zI sS), .int (zI sC), .int (zI sL), .int (zI sW), .ref mq, .ref mn, .ref mc, .ref mr, .ref mb])), (mt, .inl (G.2.1, 200, .inl (aZ tf))), (mq, .inl (G.2.1, 12, .inl (aZ qf))), (ms, .inl (G.2.1, 15, .inl (aZ sf))), (ml, .inl (G.2.1, 12, .inl (aZ ld))), (mk, .inl (G.2.2.1, 2, .inl (aZ kf)))] := hD
  refine lv_aload_n hx hb dX9_bed_10 rfl (lv_at hl 0 rfl) ?_
  refine lv_iconst (v := zI 0) hx hb dX9_bed_11 rfl ?_
  refine va_put (ci := 9) (v := .int (zI 0)) (ty := .int) (C := RX9) (T := TX9) (N := 30) hx hb hts i9 tyX9 tyX9_ok nmX9 hown hK hP hD hS 0 rfl rfl 20 (by decide) f104 (fun _ h9 => h9) rfl (tyX9_ok 20 (by decide)) rfl rfl (Nat.le_of_ble_eq_true rfl) dX9_bed_12 (fun H locs hP hD hS => ?_)
  have hP : kP G [(hm0, .inr (9, [.int (zI S), .int (zI C), .int (zI Wy), .int (zI Li), .ref ml, .ref ms, .ref mw, .int (zI kn), .ref mi, .ref mk, .int (zI hz), .ref mh, .long tr, .ref mt, .int (zI tn), .int (zI 0), .int (zI sa), .int (zI to), .int (zI nu), .int (zI 0), .int (zI 0), .int (zI sS), .int (zI sC), .int (zI sL), .int (zI sW), .ref mq, .ref mn, .ref mc, .ref mr, .ref mb])), (mt, .inl (G.2.1, 200, .inl (aZ tf))), (mq, .inl (G.2.1, 12, .inl (aZ qf))), (ms, .inl (G.2.1, 15, .inl (aZ sf))), (ml, .inl (G.2.1, 12, .inl (aZ ld))), (mk, .inl (G.2.2.1, 2, .inl (aZ kf)))] H := hP
  have hD : va_D A [(hm0, .inr (9, [.int (zI S), .int (zI C), .int (zI Wy), .int (zI Li), .ref ml, .ref ms, .ref mw, .int (zI kn), .ref mi, .ref mk, .int (zI hz), .ref mh, .long tr, .ref mt, .int (zI tn), .int (zI 0), .int (zI sa), .int (zI to), .int (zI nu), .int (zI 0), .int (zI 0), .int (zI sS), .int (zI sC), .int (zI sL), .int (zI sW), .ref mq, .ref mn, .ref mc, .ref mr, .ref mb])), (mt, .inl (G.2.1, 200, .inl (aZ tf))), (mq, .inl (G.2.1, 12, .inl (aZ qf))), (ms, .inl (G.2.1, 15, .inl (aZ sf))), (ml, .inl (G.2.1, 12, .inl (aZ ld))), (mk, .inl (G.2.2.1, 2, .inl (aZ kf)))] := hD
  refine lv_aload_n hx hb dX9_bed_15 rfl (lv_at hl 0 rfl) ?_
  refine lv_iconst (v := zI 2) hx hb dX9_bed_16 rfl ?_
  refine va_put (ci := 9) (v := .int (zI 2)) (ty := .int) (C := RX9) (T := TX9) (N := 30) hx hb hts i9 tyX9 tyX9_ok nmX9 hown hK hP hD hS 0 rfl rfl 21 (by decide) f94 (fun _ h9 => h9) rfl (tyX9_ok 21 (by decide)) rfl rfl (Nat.le_of_ble_eq_true rfl) dX9_bed_17 (fun H locs hP hD hS => ?_)
  have hP : kP G [(hm0, .inr (9, [.int (zI S), .int (zI C), .int (zI Wy), .int (zI Li), .ref ml, .ref ms, .ref mw, .int (zI kn), .ref mi, .ref mk, .int (zI hz), .ref mh, .long tr, .ref mt, .int (zI tn), .int (zI 0), .int (zI sa), .int (zI to), .int (zI nu), .int (zI 0), .int (zI 0), .int (zI 2), .int (zI sC), .int (zI sL), .int (zI sW), .ref mq, .ref mn, .ref mc, .ref mr, .ref mb])), (mt, .inl (G.2.1, 200, .inl (aZ tf))), (mq, .inl (G.2.1, 12, .inl (aZ qf))), (ms, .inl (G.2.1, 15, .inl (aZ sf))), (ml, .inl (G.2.1, 12, .inl (aZ ld))), (mk, .inl (G.2.2.1, 2, .inl (aZ kf)))] H := hP
  have hD : va_D A [(hm0, .inr (9, [.int (zI S), .int (zI C), .int (zI Wy), .int (zI Li), .ref ml, .ref ms, .ref mw, .int (zI kn), .ref mi, .ref mk, .int (zI hz), .ref mh, .long tr, .ref mt, .int (zI tn), .int (zI 0), .int (zI sa), .int (zI to), .int (zI nu), .int (zI 0), .int (zI 0), .int (zI 2), .int (zI sC), .int (zI sL), .int (zI sW), .ref mq, .ref mn, .ref mc, .ref mr, .ref mb])), (mt, .inl (G.2.1, 200, .inl (aZ tf))), (mq, .inl (G.2.1, 12, .inl (aZ qf))), (ms, .inl (G.2.1, 15, .inl (aZ sf))), (ml, .inl (G.2.1, 12, .inl (aZ ld))), (mk, .inl (G.2.2.1, 2, .inl (aZ kf)))] := hD
  refine lv_aload_n hx hb dX9_bed_20 rfl (lv_at hl 0 rfl) ?_
  refine lv_iconst (v := zI 2) hx hb dX9_bed_21 rfl ?_
  refine va_put (ci := 9) (v := .int (zI 2)) (ty := .int) (C := RX9) (T := TX9) (N := 30) hx hb hts i9 tyX9 tyX9_ok nmX9 hown hK hP hD hS 0 rfl rfl 22 (by decide) f97 (fun _ h9 => h9) rfl (tyX9_ok 22 (by decide)) rfl rfl (Nat.le_of_ble_eq_true rfl) dX9_bed_22 (fun H locs hP hD hS => ?_)
  have hP : kP G [(hm0, .inr (9, [.int (zI S), .int (zI C), .int (zI Wy), .int (zI Li), .ref ml, .ref ms, .ref mw, .int (zI kn), .ref mi, .ref mk, .int (zI hz), .ref mh, .long tr, .ref mt, .int (zI tn), .int (zI 0), .int (zI sa), .int (zI to), .int (zI nu), .int (zI 0), .int (zI 0), .int (zI 2), .int (zI 2), .int (zI sL), .int (zI sW), .ref mq, .ref mn, .ref mc, .ref mr, .ref mb])), (mt, .inl (G.2.1, 200, .inl (aZ tf))), (mq, .inl (G.2.1, 12, .inl (aZ qf))), (ms, .inl (G.2.1, 15, .inl (aZ sf))), (ml, .inl (G.2.1, 12, .inl (aZ ld))), (mk, .inl (G.2.2.1, 2, .inl (aZ kf)))] H := hP
  have hD : va_D A [(hm0, .inr (9, [.int (zI S), .int (zI C), .int (zI Wy), .int (zI Li), .ref ml, .ref ms, .ref mw, .int (zI kn), .ref mi, .ref mk, .int (zI hz), .ref mh, .long tr, .ref mt, .int (zI tn), .int (zI 0), .int (zI sa), .int (zI to), .int (zI nu), .int (zI 0), .int (zI 0), .int (zI 2), .int (zI 2), .int (zI sL), .int (zI sW), .ref mq, .ref mn, .ref mc, .ref mr, .ref mb])), (mt, .inl (G.2.1, 200, .inl (aZ tf))), (mq, .inl (G.2.1, 12, .inl (aZ qf))), (ms, .inl (G.2.1, 15, .inl (aZ sf))), (ml, .inl (G.2.1, 12, .inl (aZ ld))), (mk, .inl (G.2.2.1, 2, .inl (aZ kf)))] := hD
  refine lv_aload_n hx hb dX9_bed_25 rfl (lv_at hl 0 rfl) ?_
  refine lv_iconst (v := zI 0) hx hb dX9_bed_26 rfl ?_
  refine va_put (ci := 9) (v := .int (zI 0)) (ty := .int) (C := RX9) (T := TX9) (N := 30) hx hb hts i9 tyX9 tyX9_ok nmX9 hown hK hP hD hS 0 rfl rfl 23 (by decide) f107 (fun _ h9 => h9) rfl (tyX9_ok 23 (by decide)) rfl rfl (Nat.le_of_ble_eq_true rfl) dX9_bed_27 (fun H locs hP hD hS => ?_)
  have hP : kP G [(hm0, .inr (9, [.int (zI S), .int (zI C), .int (zI Wy), .int (zI Li), .ref ml, .ref ms, .ref mw, .int (zI kn), .ref mi, .ref mk, .int (zI hz), .ref mh, .long tr, .ref mt, .int (zI tn), .int (zI 0), .int (zI sa), .int (zI to), .int (zI nu), .int (zI 0), .int (zI 0), .int (zI 2), .int (zI 2), .int (zI 0), .int (zI sW), .ref mq, .ref mn, .ref mc, .ref mr, .ref mb])), (mt, .inl (G.2.1, 200, .inl (aZ tf))), (mq, .inl (G.2.1, 12, .inl (aZ qf))), (ms, .inl (G.2.1, 15, .inl (aZ sf))), (ml, .inl (G.2.1, 12, .inl (aZ ld))), (mk, .inl (G.2.2.1, 2, .inl (aZ kf)))] H := hP
  have hD : va_D A [(hm0, .inr (9, [.int (zI S), .int (zI C), .int (zI Wy), .int (zI Li), .ref ml, .ref ms, .ref mw, .int (zI kn), .ref mi, .ref mk, .int (zI hz), .ref mh, .long tr, .ref mt, .int (zI tn), .int (zI 0), .int (zI sa), .int (zI to), .int (zI nu), .int (zI 0), .int (zI 0), .int (zI 2), .int (zI 2), .int (zI 0), .int (zI sW), .ref mq, .ref mn, .ref mc, .ref mr, .ref mb])), (mt, .inl (G.2.1, 200, .inl (aZ tf))), (mq, .inl (G.2.1, 12, .inl (aZ qf))), (ms, .inl (G.2.1, 15, .inl (aZ sf))), (ml, .inl (G.2.1, 12, .inl (aZ ld))), (mk, .inl (G.2.2.1, 2, .inl (aZ kf)))] := hD
  refine lv_aload_n hx hb dX9_bed_30 rfl (lv_at hl 0 rfl) ?_
  refine lv_iconst (v := zI (-1)) hx hb dX9_bed_31 rfl ?_
  refine va_put (ci := 9) (v := .int (zI (-1))) (ty := .int) (C := RX9) (T := TX9) (N := 30) hx hb hts i9 tyX9 tyX9_ok nmX9 hown hK hP hD hS 0 rfl rfl 24 (by decide) f110 (fun _ h9 => h9) rfl (tyX9_ok 24 (by decide)) rfl rfl (Nat.le_of_ble_eq_true rfl) dX9_bed_32 (fun H locs hP hD hS => ?_)
  have hP : kP G [(hm0, .inr (9, [.int (zI S), .int (zI C), .int (zI Wy), .int (zI Li), .ref ml, .ref ms, .ref mw, .int (zI kn), .ref mi, .ref mk, .int (zI hz), .ref mh, .long tr, .ref mt, .int (zI tn), .int (zI 0), .int (zI sa), .int (zI to), .int (zI nu), .int (zI 0), .int (zI 0), .int (zI 2), .int (zI 2), .int (zI 0), .int (zI (-1)), .ref mq, .ref mn, .ref mc, .ref mr, .ref mb])), (mt, .inl (G.2.1, 200, .inl (aZ tf))), (mq, .inl (G.2.1, 12, .inl (aZ qf))), (ms, .inl (G.2.1, 15, .inl (aZ sf))), (ml, .inl (G.2.1, 12, .inl (aZ ld))), (mk, .inl (G.2.2.1, 2, .inl (aZ kf)))] H := hP
  have hD : va_D A [(hm0, .inr (9, [.int (zI S), .int (zI C), .int (zI Wy), .int (zI Li), .ref ml, .ref ms, .ref mw, .int (zI kn), .ref mi, .ref mk, .int (zI hz), .ref mh, .long tr, .ref mt, .int (zI tn), .int (zI 0), .int (zI sa), .int (zI to), .int (zI nu), .int (zI 0), .int (zI 0), .int (zI 2), .int (zI 2), .int (zI 0), .int (zI (-1)), .ref mq, .ref mn, .ref mc, .ref mr, .ref mb])), (mt, .inl (G.2.1, 200, .inl (aZ tf))), (mq, .inl (G.2.1, 12, .inl (aZ qf))), (ms, .inl (G.2.1, 15, .inl (aZ sf))), (ml, .inl (G.2.1, 12, .inl (aZ ld))), (mk, .inl (G.2.2.1, 2, .inl (aZ kf)))] := hD
  refine lv_iconst (v := zI 0) hx hb dX9_bed_35 rfl ?_
  refine lv_istore_n (lv' := [(1, .int (zI 0)), (0, .ref hm0)]) hx hb dX9_bed_36 rfl hl (by decide) rfl (fun ls hl => ?_)
  have loop37 : ∀ (n_ : Nat) (w : Int) (g : Int → Int) (H : Heap) (locs : List Loc) (ls : Array Slot), (0 ≤ w ∧ w ≤ 12) → (∀ j : Int, 0 ≤ j → j < w → g j = 1) → (12 - w).toNat < n_ → kP G [(hm0, .inr (9, [.int (zI S), .int (zI C), .int (zI Wy), .int (zI Li), .ref ml, .ref ms, .ref mw, .int (zI kn), .ref mi, .ref mk, .int (zI hz), .ref mh, .long tr, .ref mt, .int (zI tn), .int (zI 0), .int (zI sa), .int (zI to), .int (zI nu), .int (zI 0), .int (zI 0), .int (zI 2), .int (zI 2), .int (zI 0), .int (zI (-1)), .ref mq, .ref mn, .ref mc, .ref mr, .ref mb])), (mt, .inl (G.2.1, 200, .inl (aZ tf))), (mq, .inl (G.2.1, 12, .inl (aZ g))), (ms, .inl (G.2.1, 15, .inl (aZ sf))), (ml, .inl (G.2.1, 12, .inl (aZ ld))), (mk, .inl (G.2.2.1, 2, .inl (aZ kf)))] H → va_D A [(hm0, .inr (9, [.int (zI S), .int (zI C), .int (zI Wy), .int (zI Li), .ref ml, .ref ms, .ref mw, .int (zI kn), .ref mi, .ref mk, .int (zI hz), .ref mh, .long tr, .ref mt, .int (zI tn), .int (zI 0), .int (zI sa), .int (zI to), .int (zI nu), .int (zI 0), .int (zI 0), .int (zI 2), .int (zI 2), .int (zI 0), .int (zI (-1)), .ref mq, .ref mn, .ref mc, .ref mr, .ref mb])), (mt, .inl (G.2.1, 200, .inl (aZ tf))), (mq, .inl (G.2.1, 12, .inl (aZ g))), (ms, .inl (G.2.1, 15, .inl (aZ sf))), (ml, .inl (G.2.1, 12, .inl (aZ ld))), (mk, .inl (G.2.2.1, 2, .inl (aZ kf)))] → va_S A s.heap H locs → lv_has ls 2 [(1, .int (zI w)), (0, .ref hm0)] → W p l e rmX9_bed s m ([.ref hm0] : List Value).toArray below meth c H locs 0 0 Q (F0 m 37 ls []) := by
    intro n_
    induction n_ with
    | zero =>
      intro w g H locs ls hw hg hm
      exact absurd hm (Nat.not_lt_zero _)
    | succ n_ ih37 =>
      intro w g H locs ls hw hg hm37 hP hD hS hl
      refine lv_iload_n hx hb dX9_bed_37 rfl (lv_at hl 0 rfl) ?_
      refine lv_bipush (v := zI 12) hx hb dX9_bed_38 (by decide) ?_
      refine z_icmp_ge (tgt := 56) hx hb (by omega) dX9_bed_40 (by decide) (fun c_1 => ?_) (fun c_1 => ?_)
      · refine lv_aload_n hx hb dX9_bed_56 rfl (lv_at hl 1 rfl) ?_
        refine z_wVv (As := []) (rest := []) ⟨hx, hb, hml, hown, hts⟩ (c_X9_next l G hm0 S C Wy Li ml ms mw kn mi mk hz mh tr mt tn 0 sa to nu 0 0 2 2 0 (-1) mq mn mc mr mb tf (by first | assumption | omega) (by first | assumption | omega) (by first | assumption | omega)) (cwV 0 hts gX9_bed_X9_next rfl rfl rfl pd_X9_next ⟨(Nat.le_of_ble_eq_true rfl), (Nat.le_of_ble_eq_true rfl)⟩) hK hP hD hS [0, 1] (by decide) rfl rfl rfl rfl (fun _ => Eq.trans (b := [hm0, mt]) rfl rfl) rfl hl.1 rfl (Nat.le_of_ble_eq_true rfl) dX9_bed_57 ⟨Nat.zero_le _, Nat.zero_le _⟩ (fun u_ H locs hw_6 hP hD hS => ?_)
        obtain ⟨cu2_2, sa2_3, to2_4, nu2_5⟩ := u_
        try dsimp only at hw_6
        obtain ⟨rfl, rfl, rfl, hnu_7, hnk_8, hnr_9⟩ := hw_6
        have hP : kP G [(hm0, .inr (9, [.int (zI S), .int (zI C), .int (zI Wy), .int (zI Li), .ref ml, .ref ms, .ref mw, .int (zI kn), .ref mi, .ref mk, .int (zI hz), .ref mh, .long tr, .ref mt, .int (zI tn), .int (zI (tkE tf tn 0)), .int (zI (tkS tf tn 0)), .int (zI (mtk (tkK tf tn 0))), .int (zI nu2_5), .int (zI 0), .int (zI 0), .int (zI 2), .int (zI 2), .int (zI 0), .int (zI (-1)), .ref mq, .ref mn, .ref mc, .ref mr, .ref mb])), (mt, .inl (G.2.1, 200, .inl (aZ tf))), (mq, .inl (G.2.1, 12, .inl (aZ g))), (ms, .inl (G.2.1, 15, .inl (aZ sf))), (ml, .inl (G.2.1, 12, .inl (aZ ld))), (mk, .inl (G.2.2.1, 2, .inl (aZ kf)))] H := hP
        have hD : va_D A [(hm0, .inr (9, [.int (zI S), .int (zI C), .int (zI Wy), .int (zI Li), .ref ml, .ref ms, .ref mw, .int (zI kn), .ref mi, .ref mk, .int (zI hz), .ref mh, .long tr, .ref mt, .int (zI tn), .int (zI (tkE tf tn 0)), .int (zI (tkS tf tn 0)), .int (zI (mtk (tkK tf tn 0))), .int (zI nu2_5), .int (zI 0), .int (zI 0), .int (zI 2), .int (zI 2), .int (zI 0), .int (zI (-1)), .ref mq, .ref mn, .ref mc, .ref mr, .ref mb])), (mt, .inl (G.2.1, 200, .inl (aZ tf))), (mq, .inl (G.2.1, 12, .inl (aZ g))), (ms, .inl (G.2.1, 15, .inl (aZ sf))), (ml, .inl (G.2.1, 12, .inl (aZ ld))), (mk, .inl (G.2.2.1, 2, .inl (aZ kf)))] := hD
        have hq_10 := tkS_rng (f := tf) (n := tn) (p := 0) (by omega)
        have hq_11 := tkE_rng (f := tf) (n := tn) (p := 0) (by omega)
        have hq_12 := tkK_rng (f := tf) (n := tn) (p := 0) (by omega) (by first | assumption | omega)
        have hq_13 := tkV_rng (f := tf) (n := tn) (p := 0)
        have loop60 : ∀ (n_ : Nat) (po1 : Int) (cu1 : Int) (sa1 : Int) (to1 : Int) (nu1 : Int) (wr1 : Int) (it1 : Int) (sS1 : Int) (sC1 : Int) (sL1 : Int) (sW1 : Int) (q1 : Int → Int) (H : Heap) (locs : List Loc) (ls : Array Slot), (0 ≤ po1 ∧ po1 ≤ tn) → ((wr1 = 0 ∧ bdI tf tn po1 cu1 sa1 to1 nu1 it1 sS1 sC1 sL1 sW1 q1) ∨ (wr1 = 1 ∧ (prZ tf tn).1 = -10 - sa1 ∧ (0 ≤ to1 ∧ to1 ≤ 4) ∧ (0 ≤ sa1 ∧ sa1 ≤ 200))) → (2 * (tn + 1 - po1) - wr1).toNat < n_ → kP G [(hm0, .inr (9, [.int (zI S), .int (zI C), .int (zI Wy), .int (zI Li), .ref ml, .ref ms, .ref mw, .int (zI kn), .ref mi, .ref mk, .int (zI hz), .ref mh, .long tr, .ref mt, .int (zI tn), .int (zI cu1), .int (zI sa1), .int (zI to1), .int (zI nu1), .int (zI wr1), .int (zI it1), .int (zI sS1), .int (zI sC1), .int (zI sL1), .int (zI sW1), .ref mq, .ref mn, .ref mc, .ref mr, .ref mb])), (mt, .inl (G.2.1, 200, .inl (aZ tf))), (mq, .inl (G.2.1, 12, .inl (aZ q1))), (ms, .inl (G.2.1, 15, .inl (aZ sf))), (ml, .inl (G.2.1, 12, .inl (aZ ld))), (mk, .inl (G.2.2.1, 2, .inl (aZ kf)))] H → va_D A [(hm0, .inr (9, [.int (zI S), .int (zI C), .int (zI Wy), .int (zI Li), .ref ml, .ref ms, .ref mw, .int (zI kn), .ref mi, .ref mk, .int (zI hz), .ref mh, .long tr, .ref mt, .int (zI tn), .int (zI cu1), .int (zI sa1), .int (zI to1), .int (zI nu1), .int (zI wr1), .int (zI it1), .int (zI sS1), .int (zI sC1), .int (zI sL1), .int (zI sW1), .ref mq, .ref mn, .ref mc, .ref mr, .ref mb])), (mt, .inl (G.2.1, 200, .inl (aZ tf))), (mq, .inl (G.2.1, 12, .inl (aZ q1))), (ms, .inl (G.2.1, 15, .inl (aZ sf))), (ml, .inl (G.2.1, 12, .inl (aZ ld))), (mk, .inl (G.2.2.1, 2, .inl (aZ kf)))] → va_S A s.heap H locs → lv_has ls 2 [(0, .ref hm0)] → W p l e rmX9_bed s m ([.ref hm0] : List Value).toArray below meth c H locs 0 0 Q (F0 m 60 ls []) := by
          intro n_
          induction n_ with
          | zero =>
            intro po1 cu1 sa1 to1 nu1 wr1 it1 sS1 sC1 sL1 sW1 q1 H locs ls hpo1 hinv hm
            exact absurd hm (Nat.not_lt_zero _)
          | succ n_ ih60 =>
            intro po1 cu1 sa1 to1 nu1 wr1 it1 sS1 sC1 sL1 sW1 q1 H locs ls hpo1 hinv hm60 hP hD hS hl
            have hto4 : 0 ≤ to1 ∧ to1 ≤ 4 := by rcases hinv with ⟨_, h9⟩ | ⟨_, _, h9, _⟩; rw [h9.1.2.2.1]; exact mtk_rng _; exact h9
            have hwr1 : wr1 = 0 ∨ wr1 = 1 := by rcases hinv with ⟨h, _⟩ | ⟨h, _⟩; exact Or.inl h; exact Or.inr h
            refine lv_aload_n hx hb dX9_bed_60 rfl (lv_at hl 0 rfl) ?_
            refine va_get (ci := 9) (v := .int (zI to1)) (C := RX9) (T := TX9) (N := 30) hx hb hts i9 hown hK hP 0 rfl rfl 17 (by decide) f80 (fun _ h9 => h9) rfl dX9_bed_61 ?_
            refine z_if_eq (tgt := 91) hx hb (by omega) dX9_bed_64 (by decide) (fun c_14 => ?_) (fun c_14 => ?_)
            · refine lv_aload_n hx hb dX9_bed_91 rfl (lv_at hl 0 rfl) ?_
              refine va_get (ci := 9) (v := .int (zI wr1)) (C := RX9) (T := TX9) (N := 30) hx hb hts i9 hown hK hP 0 rfl rfl 19 (by decide) f87 (fun _ h9 => h9) rfl dX9_bed_92 ?_
              refine z_if_eq (tgt := 106) hx hb (by omega) dX9_bed_95 (by decide) (fun c_15 => ?_) (fun c_15 => ?_)
              · have hbd : bdI tf tn po1 cu1 sa1 to1 nu1 it1 sS1 sC1 sL1 sW1 q1 := by rcases hinv with ⟨_, h9⟩ | ⟨h8, _⟩; exact h9; (exfalso; omega)
                obtain ⟨ht1, ht2, ht3, ht4, ht5, ht6⟩ := hbd.1
                have hbi := hbd.2.2.1
                have hbs := hbd.2.2.2.1
                have hbl := hbd.2.2.2.2.1
                have hbw := hbd.2.2.2.2.2.1
                have hke : tkK tf tn po1 = -1 := by first | exact (mtk0 _).mp (by omega) | (exfalso; omega)
                obtain ⟨L, hpz, hqL⟩ := bd_end hbd hke
                refine lv_aload_n hx hb dX9_bed_106 rfl (lv_at hl 0 rfl) ?_
                refine z_wVv (As := []) (rest := []) ⟨hx, hb, hml, hown, hts⟩ (c_X9_settles l G hm0 S C Wy Li ml ms mw kn mi mk hz mh tr mt tn cu1 sa1 to1 nu1 wr1 it1 sS1 sC1 sL1 sW1 mq mn mc mr mb sf ld q1 kf (by first | assumption | omega) (by first | assumption | omega)) (cwV 0 hts gX9_bed_X9_settles rfl rfl rfl pd_X9_settles ⟨(Nat.le_of_ble_eq_true rfl), (Nat.le_of_ble_eq_true rfl)⟩) hK hP hD hS [0, 3, 4, 2, 5] (by decide) rfl rfl rfl rfl (fun _ => Eq.trans (b := [hm0, ms, ml, mq, mk]) rfl rfl) rfl hl.1 rfl (Nat.le_of_ble_eq_true rfl) dX9_bed_107 ⟨Nat.zero_le _, Nat.zero_le _⟩ (fun u_ H locs hw_19 hP hD hS => ?_)
                obtain ⟨Li2_16, sf2_17, ld2_18⟩ := u_
                try dsimp only at hw_19
                obtain ⟨hA_20, hB_21, hC_22⟩ := hw_19
                have hP : kP G [(hm0, .inr (9, [.int (zI sS1), .int (zI sC1), .int (zI (sS1 * sC1)), .int (zI Li2_16), .ref ml, .ref ms, .ref mw, .int (zI 0), .ref mi, .ref mk, .int (zI 0), .ref mh, .long tr, .ref mt, .int (zI 0), .int (zI cu1), .int (zI sa1), .int (zI to1), .int (zI nu1), .int (zI wr1), .int (zI it1), .int (zI sS1), .int (zI sC1), .int (zI sL1), .int (zI sW1), .ref mq, .ref mn, .ref mc, .ref mr, .ref mb])), (mt, .inl (G.2.1, 200, .inl (aZ tf))), (mq, .inl (G.2.1, 12, .inl (aZ q1))), (ms, .inl (G.2.1, 15, .inl (aZ sf2_17))), (ml, .inl (G.2.1, 12, .inl (aZ ld2_18))), (mk, .inl (G.2.2.1, 2, .inl (aZ (uZ (uZ kf 0 0) 1 0))))] H := hP
                have hD : va_D A [(hm0, .inr (9, [.int (zI sS1), .int (zI sC1), .int (zI (sS1 * sC1)), .int (zI Li2_16), .ref ml, .ref ms, .ref mw, .int (zI 0), .ref mi, .ref mk, .int (zI 0), .ref mh, .long tr, .ref mt, .int (zI 0), .int (zI cu1), .int (zI sa1), .int (zI to1), .int (zI nu1), .int (zI wr1), .int (zI it1), .int (zI sS1), .int (zI sC1), .int (zI sL1), .int (zI sW1), .ref mq, .ref mn, .ref mc, .ref mr, .ref mb])), (mt, .inl (G.2.1, 200, .inl (aZ tf))), (mq, .inl (G.2.1, 12, .inl (aZ q1))), (ms, .inl (G.2.1, 15, .inl (aZ sf2_17))), (ml, .inl (G.2.1, 12, .inl (aZ ld2_18))), (mk, .inl (G.2.2.1, 2, .inl (aZ (uZ (uZ kf 0 0) 1 0))))] := hD
                refine lv_aload_n hx hb dX9_bed_110 rfl (lv_at hl 0 rfl) ?_
                refine va_get (ci := 9) (v := .int (zI it1)) (C := RX9) (T := TX9) (N := 30) hx hb hts i9 hown hK hP 0 rfl rfl 20 (by decide) f104 (fun _ h9 => h9) rfl dX9_bed_111 ?_
                exact hret H locs ls 114 _ (cu1, sa1, to1, nu1, wr1, it1, sS1, sC1, sL1, sW1, q1, 0, sS1, sC1, sS1 * sC1, Li2_16, 0, 0, sf2_17, ld2_18, uZ (uZ kf 0 0) 1 0) rfl ⟨congrArg zI (by rw [hpz]), by exact ⟨fun h => absurd h (by rw [hpz]; show ¬ it1 < 0; omega), fun _ => by rw [hpz]; exact ⟨rfl, rfl, rfl, rfl, hA_20, hB_21, fun j h1 h2 => (hC_22 j h1 h2).trans (hqL j h1 h2), rfl, rfl, rfl⟩⟩⟩ hP hS dX9_bed_114
              · have hprz : (prZ tf tn).1 = -10 - sa1 := by rcases hinv with ⟨h8, _⟩ | ⟨_, h9, _⟩; (exfalso; omega); exact h9
                have hsa1 : 0 ≤ sa1 := by rcases hinv with ⟨h8, _⟩ | ⟨_, _, _, h9⟩; (exfalso; omega); exact h9.1
                refine lv_bipush (v := zI (-10)) hx hb dX9_bed_98 (by decide) ?_
                refine lv_aload_n hx hb dX9_bed_100 rfl (lv_at hl 0 rfl) ?_
                refine va_get (ci := 9) (v := .int (zI sa1)) (C := RX9) (T := TX9) (N := 30) hx hb hts i9 hown hK hP 0 rfl rfl 16 (by decide) f74 (fun _ h9 => h9) rfl dX9_bed_101 ?_
                refine z_isub hx hb dX9_bed_104 ?_
                exact hret H locs ls 105 _ (cu1, sa1, to1, nu1, wr1, it1, sS1, sC1, sL1, sW1, q1, tn, S, C, Wy, Li, kn, hz, sf, ld, kf) rfl ⟨congrArg zI (by exact hprz.symm), by exact ⟨fun _ => ⟨rfl, rfl, rfl, rfl, rfl, rfl, rfl, rfl, rfl, rfl⟩, fun h => absurd (show (prZ tf tn).1 < 0 by omega) h⟩⟩ hP hS dX9_bed_105
            · refine lv_aload_n hx hb dX9_bed_67 rfl (lv_at hl 0 rfl) ?_
              refine va_get (ci := 9) (v := .int (zI wr1)) (C := RX9) (T := TX9) (N := 30) hx hb hts i9 hown hK hP 0 rfl rfl 19 (by decide) f87 (fun _ h9 => h9) rfl dX9_bed_68 ?_
              refine z_if_ne (tgt := 91) hx hb (by omega) dX9_bed_71 (by decide) (fun c_23 => ?_) (fun c_23 => ?_)
              · refine lv_aload_n hx hb dX9_bed_91 rfl (lv_at hl 0 rfl) ?_
                refine va_get (ci := 9) (v := .int (zI wr1)) (C := RX9) (T := TX9) (N := 30) hx hb hts i9 hown hK hP 0 rfl rfl 19 (by decide) f87 (fun _ h9 => h9) rfl dX9_bed_92 ?_
                refine z_if_eq (tgt := 106) hx hb (by omega) dX9_bed_95 (by decide) (fun c_24 => ?_) (fun c_24 => ?_)
                · have hbd : bdI tf tn po1 cu1 sa1 to1 nu1 it1 sS1 sC1 sL1 sW1 q1 := by rcases hinv with ⟨_, h9⟩ | ⟨h8, _⟩; exact h9; (exfalso; omega)
                  obtain ⟨ht1, ht2, ht3, ht4, ht5, ht6⟩ := hbd.1
                  have hbi := hbd.2.2.1
                  have hbs := hbd.2.2.2.1
                  have hbl := hbd.2.2.2.2.1
                  have hbw := hbd.2.2.2.2.2.1
                  have hke : tkK tf tn po1 = -1 := by first | exact (mtk0 _).mp (by omega) | (exfalso; omega)
                  obtain ⟨L, hpz, hqL⟩ := bd_end hbd hke
                  refine lv_aload_n hx hb dX9_bed_106 rfl (lv_at hl 0 rfl) ?_
                  refine z_wVv (As := []) (rest := []) ⟨hx, hb, hml, hown, hts⟩ (c_X9_settles l G hm0 S C Wy Li ml ms mw kn mi mk hz mh tr mt tn cu1 sa1 to1 nu1 wr1 it1 sS1 sC1 sL1 sW1 mq mn mc mr mb sf ld q1 kf (by first | assumption | omega) (by first | assumption | omega)) (cwV 0 hts gX9_bed_X9_settles rfl rfl rfl pd_X9_settles ⟨(Nat.le_of_ble_eq_true rfl), (Nat.le_of_ble_eq_true rfl)⟩) hK hP hD hS [0, 3, 4, 2, 5] (by decide) rfl rfl rfl rfl (fun _ => Eq.trans (b := [hm0, ms, ml, mq, mk]) rfl rfl) rfl hl.1 rfl (Nat.le_of_ble_eq_true rfl) dX9_bed_107 ⟨Nat.zero_le _, Nat.zero_le _⟩ (fun u_ H locs hw_28 hP hD hS => ?_)
                  obtain ⟨Li2_25, sf2_26, ld2_27⟩ := u_
                  try dsimp only at hw_28
                  obtain ⟨hA_29, hB_30, hC_31⟩ := hw_28
                  have hP : kP G [(hm0, .inr (9, [.int (zI sS1), .int (zI sC1), .int (zI (sS1 * sC1)), .int (zI Li2_25), .ref ml, .ref ms, .ref mw, .int (zI 0), .ref mi, .ref mk, .int (zI 0), .ref mh, .long tr, .ref mt, .int (zI 0), .int (zI cu1), .int (zI sa1), .int (zI to1), .int (zI nu1), .int (zI wr1), .int (zI it1), .int (zI sS1), .int (zI sC1), .int (zI sL1), .int (zI sW1), .ref mq, .ref mn, .ref mc, .ref mr, .ref mb])), (mt, .inl (G.2.1, 200, .inl (aZ tf))), (mq, .inl (G.2.1, 12, .inl (aZ q1))), (ms, .inl (G.2.1, 15, .inl (aZ sf2_26))), (ml, .inl (G.2.1, 12, .inl (aZ ld2_27))), (mk, .inl (G.2.2.1, 2, .inl (aZ (uZ (uZ kf 0 0) 1 0))))] H := hP
                  have hD : va_D A [(hm0, .inr (9, [.int (zI sS1), .int (zI sC1), .int (zI (sS1 * sC1)), .int (zI Li2_25), .ref ml, .ref ms, .ref mw, .int (zI 0), .ref mi, .ref mk, .int (zI 0), .ref mh, .long tr, .ref mt, .int (zI 0), .int (zI cu1), .int (zI sa1), .int (zI to1), .int (zI nu1), .int (zI wr1), .int (zI it1), .int (zI sS1), .int (zI sC1), .int (zI sL1), .int (zI sW1), .ref mq, .ref mn, .ref mc, .ref mr, .ref mb])), (mt, .inl (G.2.1, 200, .inl (aZ tf))), (mq, .inl (G.2.1, 12, .inl (aZ q1))), (ms, .inl (G.2.1, 15, .inl (aZ sf2_26))), (ml, .inl (G.2.1, 12, .inl (aZ ld2_27))), (mk, .inl (G.2.2.1, 2, .inl (aZ (uZ (uZ kf 0 0) 1 0))))] := hD
                  refine lv_aload_n hx hb dX9_bed_110 rfl (lv_at hl 0 rfl) ?_
                  refine va_get (ci := 9) (v := .int (zI it1)) (C := RX9) (T := TX9) (N := 30) hx hb hts i9 hown hK hP 0 rfl rfl 20 (by decide) f104 (fun _ h9 => h9) rfl dX9_bed_111 ?_
                  exact hret H locs ls 114 _ (cu1, sa1, to1, nu1, wr1, it1, sS1, sC1, sL1, sW1, q1, 0, sS1, sC1, sS1 * sC1, Li2_25, 0, 0, sf2_26, ld2_27, uZ (uZ kf 0 0) 1 0) rfl ⟨congrArg zI (by rw [hpz]), by exact ⟨fun h => absurd h (by rw [hpz]; show ¬ it1 < 0; omega), fun _ => by rw [hpz]; exact ⟨rfl, rfl, rfl, rfl, hA_29, hB_30, fun j h1 h2 => (hC_31 j h1 h2).trans (hqL j h1 h2), rfl, rfl, rfl⟩⟩⟩ hP hS dX9_bed_114
                · have hprz : (prZ tf tn).1 = -10 - sa1 := by rcases hinv with ⟨h8, _⟩ | ⟨_, h9, _⟩; (exfalso; omega); exact h9
                  have hsa1 : 0 ≤ sa1 := by rcases hinv with ⟨h8, _⟩ | ⟨_, _, _, h9⟩; (exfalso; omega); exact h9.1
                  refine lv_bipush (v := zI (-10)) hx hb dX9_bed_98 (by decide) ?_
                  refine lv_aload_n hx hb dX9_bed_100 rfl (lv_at hl 0 rfl) ?_
                  refine va_get (ci := 9) (v := .int (zI sa1)) (C := RX9) (T := TX9) (N := 30) hx hb hts i9 hown hK hP 0 rfl rfl 16 (by decide) f74 (fun _ h9 => h9) rfl dX9_bed_101 ?_
                  refine z_isub hx hb dX9_bed_104 ?_
                  exact hret H locs ls 105 _ (cu1, sa1, to1, nu1, wr1, it1, sS1, sC1, sL1, sW1, q1, tn, S, C, Wy, Li, kn, hz, sf, ld, kf) rfl ⟨congrArg zI (by exact hprz.symm), by exact ⟨fun _ => ⟨rfl, rfl, rfl, rfl, rfl, rfl, rfl, rfl, rfl, rfl⟩, fun h => absurd (show (prZ tf tn).1 < 0 by omega) h⟩⟩ hP hS dX9_bed_105
              · have hbd : bdI tf tn po1 cu1 sa1 to1 nu1 it1 sS1 sC1 sL1 sW1 q1 := by rcases hinv with ⟨_, h9⟩ | ⟨h8, _⟩; exact h9; (exfalso; omega)
                obtain ⟨ht1, ht2, ht3, ht4, ht5, ht6⟩ := hbd.1
                have hbi := hbd.2.2.1
                have hbs := hbd.2.2.2.1
                have hbl := hbd.2.2.2.2.1
                have hbw := hbd.2.2.2.2.2.1
                have hSW1 := shSC hbs
                have hne : ¬ tkK tf tn po1 = -1 := fun h => by have h7 := (mtk0 _).mpr h; omega
                have hnx := nxP_rng (f := tf) hpo1.2 hne
                have hsr1 := tkS_rng (f := tf) hpo1.2
                refine lv_aload_n hx hb dX9_bed_74 rfl (lv_at hl 0 rfl) ?_
                refine z_wVv (As := []) (rest := []) ⟨hx, hb, hml, hown, hts⟩ (c_X9_readItem l G hm0 S C Wy Li ml ms mw kn mi mk hz mh tr mt tn cu1 sa1 to1 nu1 wr1 it1 sS1 sC1 sL1 sW1 mq mn mc mr mb tf q1 po1 (if sL1 = 0 then 0 else 1) (if sW1 < 0 then 0 else 1) (by first | assumption | omega) (by first | assumption | omega) (by first | assumption | omega) (by first | assumption | omega) (by first | assumption | omega) (by first | assumption | omega) (by first | assumption | omega) (by first | assumption | omega) (by first | assumption | omega) (by first | assumption | omega) (by first | assumption | omega) (by first | assumption | omega) (by first | assumption | omega) (by first | assumption | omega) (by exact ltx hbl) (by exact btx _)) (cwV 0 hts gX9_bed_X9_readItem rfl rfl rfl pd_X9_readItem ⟨(Nat.le_of_ble_eq_true rfl), (Nat.le_of_ble_eq_true rfl)⟩) hK hP hD hS [0, 1, 2] (by decide) rfl rfl rfl rfl (fun _ => Eq.trans (b := [hm0, mt, mq]) rfl rfl) rfl hl.1 rfl (Nat.le_of_ble_eq_true rfl) dX9_bed_75 ⟨Nat.zero_le _, Nat.zero_le _⟩ (fun u_ H locs hw_42 hP hD hS => ?_)
                obtain ⟨cu2_32, sa2_33, to2_34, nu2_35, wr2_36, sS2_37, sC2_38, sL2_39, sW2_40, qf2_41⟩ := u_
                try dsimp only at hw_42
                obtain ⟨hA_43, hB_44⟩ := hw_42
                have hP : kP G [(hm0, .inr (9, [.int (zI S), .int (zI C), .int (zI Wy), .int (zI Li), .ref ml, .ref ms, .ref mw, .int (zI kn), .ref mi, .ref mk, .int (zI hz), .ref mh, .long tr, .ref mt, .int (zI tn), .int (zI cu2_32), .int (zI sa2_33), .int (zI to2_34), .int (zI nu2_35), .int (zI wr2_36), .int (zI it1), .int (zI sS2_37), .int (zI sC2_38), .int (zI sL2_39), .int (zI sW2_40), .ref mq, .ref mn, .ref mc, .ref mr, .ref mb])), (mt, .inl (G.2.1, 200, .inl (aZ tf))), (mq, .inl (G.2.1, 12, .inl (aZ qf2_41))), (ms, .inl (G.2.1, 15, .inl (aZ sf))), (ml, .inl (G.2.1, 12, .inl (aZ ld))), (mk, .inl (G.2.2.1, 2, .inl (aZ kf)))] H := hP
                have hD : va_D A [(hm0, .inr (9, [.int (zI S), .int (zI C), .int (zI Wy), .int (zI Li), .ref ml, .ref ms, .ref mw, .int (zI kn), .ref mi, .ref mk, .int (zI hz), .ref mh, .long tr, .ref mt, .int (zI tn), .int (zI cu2_32), .int (zI sa2_33), .int (zI to2_34), .int (zI nu2_35), .int (zI wr2_36), .int (zI it1), .int (zI sS2_37), .int (zI sC2_38), .int (zI sL2_39), .int (zI sW2_40), .ref mq, .ref mn, .ref mc, .ref mr, .ref mb])), (mt, .inl (G.2.1, 200, .inl (aZ tf))), (mq, .inl (G.2.1, 12, .inl (aZ qf2_41))), (ms, .inl (G.2.1, 15, .inl (aZ sf))), (ml, .inl (G.2.1, 12, .inl (aZ ld))), (mk, .inl (G.2.2.1, 2, .inl (aZ kf)))] := hD
                by_cases hok : itB tf tn (tkE tf tn po1) (tkK tf tn po1) it1 (if sL1 = 0 then 0 else 1) (if sW1 < 0 then 0 else 1) (sS1 * sC1) = true
                · have hbo := bd_ok hbd hne hok (hA_43 hok)
                  have hw2 := (hA_43 hok).2.1
                  clear hA_43 hB_44
                  refine lv_aload_n hx hb dX9_bed_78 rfl (lv_at hl 0 rfl) ?_
                  refine lv_dup hx hb dX9_bed_79 rfl ?_
                  refine va_get (ci := 9) (v := .int (zI it1)) (C := RX9) (T := TX9) (N := 30) hx hb hts i9 hown hK hP 0 rfl rfl 20 (by decide) f104 (fun _ h9 => h9) rfl dX9_bed_80 ?_
                  refine lv_iconst (v := zI 1) hx hb dX9_bed_83 rfl ?_
                  refine z_iadd hx hb dX9_bed_84 ?_
                  refine va_put (ci := 9) (v := .int (zI (it1 + 1))) (ty := .int) (C := RX9) (T := TX9) (N := 30) hx hb hts i9 tyX9 tyX9_ok nmX9 hown hK hP hD hS 0 rfl rfl 20 (by decide) f104 (fun _ h9 => h9) rfl (tyX9_ok 20 (by decide)) rfl rfl (Nat.le_of_ble_eq_true rfl) dX9_bed_85 (fun H locs hP hD hS => ?_)
                  have hP : kP G [(hm0, .inr (9, [.int (zI S), .int (zI C), .int (zI Wy), .int (zI Li), .ref ml, .ref ms, .ref mw, .int (zI kn), .ref mi, .ref mk, .int (zI hz), .ref mh, .long tr, .ref mt, .int (zI tn), .int (zI cu2_32), .int (zI sa2_33), .int (zI to2_34), .int (zI nu2_35), .int (zI wr2_36), .int (zI (it1 + 1)), .int (zI sS2_37), .int (zI sC2_38), .int (zI sL2_39), .int (zI sW2_40), .ref mq, .ref mn, .ref mc, .ref mr, .ref mb])), (mt, .inl (G.2.1, 200, .inl (aZ tf))), (mq, .inl (G.2.1, 12, .inl (aZ qf2_41))), (ms, .inl (G.2.1, 15, .inl (aZ sf))), (ml, .inl (G.2.1, 12, .inl (aZ ld))), (mk, .inl (G.2.2.1, 2, .inl (aZ kf)))] H := hP
                  have hD : va_D A [(hm0, .inr (9, [.int (zI S), .int (zI C), .int (zI Wy), .int (zI Li), .ref ml, .ref ms, .ref mw, .int (zI kn), .ref mi, .ref mk, .int (zI hz), .ref mh, .long tr, .ref mt, .int (zI tn), .int (zI cu2_32), .int (zI sa2_33), .int (zI to2_34), .int (zI nu2_35), .int (zI wr2_36), .int (zI (it1 + 1)), .int (zI sS2_37), .int (zI sC2_38), .int (zI sL2_39), .int (zI sW2_40), .ref mq, .ref mn, .ref mc, .ref mr, .ref mb])), (mt, .inl (G.2.1, 200, .inl (aZ tf))), (mq, .inl (G.2.1, 12, .inl (aZ qf2_41))), (ms, .inl (G.2.1, 15, .inl (aZ sf))), (ml, .inl (G.2.1, 12, .inl (aZ ld))), (mk, .inl (G.2.2.1, 2, .inl (aZ kf)))] := hD
                  refine lv_goto (tgt := 60) hx hb dX9_bed_88 (by decide) ?_
                  exact ih60 (nxP tf tn po1) cu2_32 sa2_33 to2_34 nu2_35 wr2_36 (it1 + 1) sS2_37 sC2_38 sL2_39 sW2_40 qf2_41 H locs ls (by first | assumption | omega) (by first | exact Or.inl ⟨hw2, hbo⟩ | exact Or.inr ⟨hw2, by rw [hbb, hs2], hto2, by omega⟩) (by omega) hP hD hS (lv_sub hl [0] rfl)
                · have hbb := bd_bad hbd hne hok
                  obtain ⟨hw2, hs2, hto2⟩ := hB_44 hok
                  have hfg := ftI_ge (f := tf) (n := tn) (p := po1) (it := it1) (lt := if sL1 = 0 then 0 else 1) (bt := if sW1 < 0 then 0 else 1) (W := sS1 * sC1) hpo1
                  have hfe := ftI_le (f := tf) (n := tn) (p := po1) (it := it1) (lt := if sL1 = 0 then 0 else 1) (bt := if sW1 < 0 then 0 else 1) (W := sS1 * sC1) hpo1
                  clear hA_43 hB_44
                  refine lv_aload_n hx hb dX9_bed_78 rfl (lv_at hl 0 rfl) ?_
                  refine lv_dup hx hb dX9_bed_79 rfl ?_
                  refine va_get (ci := 9) (v := .int (zI it1)) (C := RX9) (T := TX9) (N := 30) hx hb hts i9 hown hK hP 0 rfl rfl 20 (by decide) f104 (fun _ h9 => h9) rfl dX9_bed_80 ?_
                  refine lv_iconst (v := zI 1) hx hb dX9_bed_83 rfl ?_
                  refine z_iadd hx hb dX9_bed_84 ?_
                  refine va_put (ci := 9) (v := .int (zI (it1 + 1))) (ty := .int) (C := RX9) (T := TX9) (N := 30) hx hb hts i9 tyX9 tyX9_ok nmX9 hown hK hP hD hS 0 rfl rfl 20 (by decide) f104 (fun _ h9 => h9) rfl (tyX9_ok 20 (by decide)) rfl rfl (Nat.le_of_ble_eq_true rfl) dX9_bed_85 (fun H locs hP hD hS => ?_)
                  have hP : kP G [(hm0, .inr (9, [.int (zI S), .int (zI C), .int (zI Wy), .int (zI Li), .ref ml, .ref ms, .ref mw, .int (zI kn), .ref mi, .ref mk, .int (zI hz), .ref mh, .long tr, .ref mt, .int (zI tn), .int (zI cu2_32), .int (zI sa2_33), .int (zI to2_34), .int (zI nu2_35), .int (zI wr2_36), .int (zI (it1 + 1)), .int (zI sS2_37), .int (zI sC2_38), .int (zI sL2_39), .int (zI sW2_40), .ref mq, .ref mn, .ref mc, .ref mr, .ref mb])), (mt, .inl (G.2.1, 200, .inl (aZ tf))), (mq, .inl (G.2.1, 12, .inl (aZ qf2_41))), (ms, .inl (G.2.1, 15, .inl (aZ sf))), (ml, .inl (G.2.1, 12, .inl (aZ ld))), (mk, .inl (G.2.2.1, 2, .inl (aZ kf)))] H := hP
                  have hD : va_D A [(hm0, .inr (9, [.int (zI S), .int (zI C), .int (zI Wy), .int (zI Li), .ref ml, .ref ms, .ref mw, .int (zI kn), .ref mi, .ref mk, .int (zI hz), .ref mh, .long tr, .ref mt, .int (zI tn), .int (zI cu2_32), .int (zI sa2_33), .int (zI to2_34), .int (zI nu2_35), .int (zI wr2_36), .int (zI (it1 + 1)), .int (zI sS2_37), .int (zI sC2_38), .int (zI sL2_39), .int (zI sW2_40), .ref mq, .ref mn, .ref mc, .ref mr, .ref mb])), (mt, .inl (G.2.1, 200, .inl (aZ tf))), (mq, .inl (G.2.1, 12, .inl (aZ qf2_41))), (ms, .inl (G.2.1, 15, .inl (aZ sf))), (ml, .inl (G.2.1, 12, .inl (aZ ld))), (mk, .inl (G.2.2.1, 2, .inl (aZ kf)))] := hD
                  refine lv_goto (tgt := 60) hx hb dX9_bed_88 (by decide) ?_
                  exact ih60 po1 cu2_32 sa2_33 to2_34 nu2_35 wr2_36 (it1 + 1) sS2_37 sC2_38 sL2_39 sW2_40 qf2_41 H locs ls (by first | assumption | omega) (by first | exact Or.inl ⟨hw2, hbo⟩ | exact Or.inr ⟨hw2, by rw [hbb, hs2], hto2, by omega⟩) (by omega) hP hD hS (lv_sub hl [0] rfl)
        exact loop60 _ 0 (tkE tf tn 0) (tkS tf tn 0) (mtk (tkK tf tn 0)) nu2_5 0 0 2 2 0 (-1) g H locs ls (by omega) (by refine Or.inl ⟨rfl, ⟨rfl, rfl, rfl, by assumption, by assumption, by assumption⟩, by omega, by omega, by omega, Or.inl rfl, by omega, 200, (fun _ => 1), by omega, rfl, fun j h1 h2 => hg j h1 (by omega)⟩) (Nat.lt_succ_self _) hP hD hS (lv_sub hl [1] rfl)
      · refine lv_aload_n hx hb dX9_bed_43 rfl (lv_at hl 1 rfl) ?_
        refine va_get (ci := 9) (v := .ref mq) (C := RX9) (T := TX9) (N := 30) hx hb hts i9 hown hK hP 0 rfl rfl 25 (by decide) f45 (fun _ h9 => h9) rfl dX9_bed_44 ?_
        refine lv_iload_n hx hb dX9_bed_47 rfl (lv_at hl 0 rfl) ?_
        refine lv_iconst (v := zI 1) hx hb dX9_bed_48 rfl ?_
        refine z_iast (n := 12) (f := g) (i := w) (v := 1) hx hb hK hP hD hS 2 rfl (by omega) dX9_bed_49 (fun H locs hP hD hS => ?_)
        have hP : kP G [(hm0, .inr (9, [.int (zI S), .int (zI C), .int (zI Wy), .int (zI Li), .ref ml, .ref ms, .ref mw, .int (zI kn), .ref mi, .ref mk, .int (zI hz), .ref mh, .long tr, .ref mt, .int (zI tn), .int (zI 0), .int (zI sa), .int (zI to), .int (zI nu), .int (zI 0), .int (zI 0), .int (zI 2), .int (zI 2), .int (zI 0), .int (zI (-1)), .ref mq, .ref mn, .ref mc, .ref mr, .ref mb])), (mt, .inl (G.2.1, 200, .inl (aZ tf))), (mq, .inl (G.2.1, 12, .inl (aZ (uZ g w 1)))), (ms, .inl (G.2.1, 15, .inl (aZ sf))), (ml, .inl (G.2.1, 12, .inl (aZ ld))), (mk, .inl (G.2.2.1, 2, .inl (aZ kf)))] H := hP
        have hD : va_D A [(hm0, .inr (9, [.int (zI S), .int (zI C), .int (zI Wy), .int (zI Li), .ref ml, .ref ms, .ref mw, .int (zI kn), .ref mi, .ref mk, .int (zI hz), .ref mh, .long tr, .ref mt, .int (zI tn), .int (zI 0), .int (zI sa), .int (zI to), .int (zI nu), .int (zI 0), .int (zI 0), .int (zI 2), .int (zI 2), .int (zI 0), .int (zI (-1)), .ref mq, .ref mn, .ref mc, .ref mr, .ref mb])), (mt, .inl (G.2.1, 200, .inl (aZ tf))), (mq, .inl (G.2.1, 12, .inl (aZ (uZ g w 1)))), (ms, .inl (G.2.1, 15, .inl (aZ sf))), (ml, .inl (G.2.1, 12, .inl (aZ ld))), (mk, .inl (G.2.2.1, 2, .inl (aZ kf)))] := hD
        refine lv_iinc (v := zI (w + 1)) (lv' := [(1, .int (zI (w + 1))), (0, .ref hm0)]) hx hb dX9_bed_50 hl (k := 0) rfl (zI_add _ _) (by decide) rfl (fun ls hl => ?_)
        refine lv_goto (tgt := 37) hx hb dX9_bed_53 (by decide) ?_
        exact ih37 (w + 1) (uZ g w 1) H locs ls (by omega) (by intro j h1 h2; unfold uZ; split; rfl; exact hg j h1 (by omega)) (by omega) hP hD hS (lv_sub hl [0, 1] rfl)
  exact loop37 _ 0 qf H locs ls (by omega) (by intro j h1 h2; omega) (Nat.lt_succ_self _) hP hD hS (lv_sub hl [0, 1] rfl)
