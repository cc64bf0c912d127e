
abbrev tokR (f : Int → Int) (n po cu sa to nu : Int) : Prop := cu = tkE f n po ∧ sa = tkS f n po ∧ to = mtk (tkK f n po) ∧ (tkK f n po = -2 → nu = tkV f n po) ∧ (0 ≤ tkK f n po → nu = tkK f n po) ∧ (0 ≤ nu ∧ nu ≤ 999)
theorem mtk1 (k : Int) : mtk k = 1 ↔ (k = 115 ∨ k = 108 ∨ k = 109 ∨ k = 98) := by
  unfold mtk
  (repeat' split) <;> omega
theorem mtk3 (k : Int) : mtk k = 3 ↔ k = 59 := by
  unfold mtk
  (repeat' split) <;> omega
theorem mtk0 (k : Int) : mtk k = 0 ↔ k = -1 := by
  unfold mtk
  (repeat' split) <;> omega

theorem pd_X9_readLoad : yX9_readLoad.cls = RX9 ∧ yX9_readLoad.cls ≠ "java/lang/invoke/MethodHandle" ∧ yX9_readLoad.cls ≠ "java/lang/invoke/VarHandle" ∧ (parseMethodDescriptor yX9_readLoad.desc).map (fun d => d.parameters.length) = some 0 := by decide +kernel
abbrev rmX9_readLoad : Room := { frames := 4, cells := 0, slots := 0, locals := 87 }
set_option maxHeartbeats 4000000 in
set_option maxRecDepth 100000 in
theorem c_X9_readLoad (l : Launch) (G : CX) (hm0 : Nat) (S : Int) (C : Int) (Wy : Int) (Li : Int) (ml : Nat) (ms : Nat) (mw : Nat) (kn : Int) (mi : Nat) (mk : Nat) (hz : Int) (mh : Nat) (tr : Int64) (mt : Nat) (tn : Int) (cu : Int) (sa : Int) (to : Int) (nu : Int) (wr : Int) (it : Int) (sS : Int) (sC : Int) (sL : Int) (sW : Int) (mq : Nat) (mn : Nat) (mc : Nat) (mr : Nat) (mb : Nat) (tf : Int → Int) (qf : Int → Int) (po : Int) (htn : 0 ≤ tn ∧ tn ≤ 200) (htf : ∀ i : Int, 0 ≤ i → i < tn → 0 ≤ tf i ∧ tf i ≤ 255) (hp : 0 ≤ po ∧ po ≤ tn) (hcu : cu = tkE tf tn po) (hto : to = mtk (tkK tf tn po)) (hnu : tkK tf tn po = -2 → nu = tkV tf tn po) (hnr : 0 ≤ nu ∧ nu ≤ 999) (hw0 : wr = 0) (hSW : 1 ≤ sS * sC ∧ sS * sC ≤ 12) : Met l yX9_readLoad wsX9_readLoad rmX9_readLoad (wrP G [.ref hm0] [(hm0, .inr (9, [.int (zI S), .int (zI C), .int (zI Wy), .int (zI Li), .ref ml, .ref ms, .ref mw, .int (zI kn), .ref mi, .ref mk, .int (zI hz), .ref mh, .long tr, .ref mt, .int (zI tn), .int (zI cu), .int (zI sa), .int (zI to), .int (zI nu), .int (zI wr), .int (zI it), .int (zI sS), .int (zI sC), .int (zI sL), .int (zI sW), .ref mq, .ref mn, .ref mc, .ref mr, .ref mb])), (mt, .inl (G.2.1, 200, .inl (aZ tf))), (mq, .inl (G.2.1, 12, .inl (aZ qf)))]) (wrV G [(hm0, .inr (9, [.int (zI S), .int (zI C), .int (zI Wy), .int (zI Li), .ref ml, .ref ms, .ref mw, .int (zI kn), .ref mi, .ref mk, .int (zI hz), .ref mh, .long tr, .ref mt, .int (zI tn), .int (zI cu), .int (zI sa), .int (zI to), .int (zI nu), .int (zI wr), .int (zI it), .int (zI sS), .int (zI sC), .int (zI sL), .int (zI sW), .ref mq, .ref mn, .ref mc, .ref mr, .ref mb])), (mt, .inl (G.2.1, 200, .inl (aZ tf))), (mq, .inl (G.2.1, 12, .inl (aZ qf)))] (fun (u : Int × Int × Int × Int × Int × (Int → Int)) => match u with | (cu2, sa2, to2, nu2, wr2, qf2) => (((tkK tf tn po = -2 ∧ 0 ≤ tkV tf tn po ∧ tkV tf tn po ≤ sS * sC - 1) ∧ (tkK tf tn (tkE tf tn po) = -2 ∧ 1 ≤ tkV tf tn (tkE tf tn po) ∧ tkV tf tn (tkE tf tn po) ≤ 9) → tokR tf tn (tkE tf tn (tkE tf tn po)) cu2 sa2 to2 nu2 ∧ wr2 = 0 ∧ qf2 = uZ qf (tkV tf tn po) (tkV tf tn (tkE tf tn po))) ∧ (¬ ((tkK tf tn po = -2 ∧ 0 ≤ tkV tf tn po ∧ tkV tf tn po ≤ sS * sC - 1) ∧ (tkK tf tn (tkE tf tn po) = -2 ∧ 1 ≤ tkV tf tn (tkE tf tn po) ∧ tkV tf tn (tkE tf tn po) ≤ 9)) → wr2 = 1 ∧ sa2 = (if (tkK tf tn po = -2 ∧ 0 ≤ tkV tf tn po ∧ tkV tf tn po ≤ sS * sC - 1) then tkS tf tn (tkE tf tn po) else sa) ∧ (0 ≤ to2 ∧ to2 ≤ 4) ∧ qf2 = qf))) (fun (u : Int × Int × Int × Int × Int × (Int → Int)) => match u with | (cu2, sa2, to2, nu2, wr2, qf2) => [(hm0, .inr (9, [.int (zI S), .int (zI C), .int (zI Wy), .int (zI Li), .ref ml, .ref ms, .ref mw, .int (zI kn), .ref mi, .ref mk, .int (zI hz), .ref mh, .long tr, .ref mt, .int (zI tn), .int (zI cu2), .int (zI sa2), .int (zI to2), .int (zI nu2), .int (zI wr2), .int (zI it), .int (zI sS), .int (zI sC), .int (zI sL), .int (zI sW), .ref mq, .ref mn, .ref mc, .ref mr, .ref mb])), (mt, .inl (G.2.1, 200, .inl (aZ tf))), (mq, .inl (G.2.1, 12, .inl (aZ qf2)))])) 0 0 (wrA [(hm0, .inr (9, [.int (zI S), .int (zI C), .int (zI Wy), .int (zI Li), .ref ml, .ref ms, .ref mw, .int (zI kn), .ref mi, .ref mk, .int (zI hz), .ref mh, .long tr, .ref mt, .int (zI tn), .int (zI cu), .int (zI sa), .int (zI to), .int (zI nu), .int (zI wr), .int (zI it), .int (zI sS), .int (zI sC), .int (zI sL), .int (zI sW), .ref mq, .ref mn, .ref mc, .ref mr, .ref mb])), (mt, .inl (G.2.1, 200, .inl (aZ tf))), (mq, .inl (G.2.1, 12, .inl (aZ qf)))]) := by
  refine wv_ofW (cc := cX9_readLoad) (maxL := 3) (by decide) rfl (Nat.le_of_ble_eq_true rfl) ?_
  intro p e s m below meth c Q A hx hb hml hown hts hK hret H locs hP hD hS ls hl
  have hown : s.vm.findClass RX9 = some m.cls := hown
  have hl : lv_has ls 3 [(0, .ref hm0)] := hl
  have f94 := hts (.fieldLink RX9 94 "QuarterTurnsModel" "saidSteps" "I") (by decide +kernel)
  have i9 : ∀ w ∈ wsX90, w ∈ wsX9_readLoad := fun w h => List.mem_cons_of_mem _ (List.mem_append_right _ h)
  have f97 := hts (.fieldLink RX9 97 "QuarterTurnsModel" "saidFaces" "I") (by decide +kernel)
  have f87 := hts (.fieldLink RX9 87 "QuarterTurnsModel" "isWrong" "Z") (by decide +kernel)
  have f45 := hts (.fieldLink RX9 45 "QuarterTurnsModel" "saidLoad" "[I") (by decide +kernel)
  have hEr := tkE_rng (f := tf) (n := tn) (p := po) (by omega)
  have hSr := tkS_rng (f := tf) (n := tn) (p := po) (by omega)
  have hEr2 := tkE_rng (f := tf) (n := tn) (p := tkE tf tn po) (by omega)
  have hSr2 := tkS_rng (f := tf) (n := tn) (p := tkE tf tn po) (by omega)
  have hEr3 := tkE_rng (f := tf) (n := tn) (p := tkE tf tn (tkE tf tn po)) (by omega)
  have hSr3 := tkS_rng (f := tf) (n := tn) (p := tkE tf tn (tkE tf tn po)) (by omega)
  have hmr1 := mtk_rng (tkK tf tn po)
  have hmr2 := mtk_rng (tkK tf tn (tkE tf tn po))
  have hmr3 := mtk_rng (tkK tf tn (tkE tf tn (tkE tf tn po)))
  refine lv_aload_n hx hb dX9_readLoad_0 rfl (lv_at hl 0 rfl) ?_
  refine lv_iconst (v := zI 0) hx hb dX9_readLoad_1 rfl ?_
  refine lv_aload_n hx hb dX9_readLoad_2 rfl (lv_at hl 0 rfl) ?_
  refine va_get (ci := 9) (v := .int (zI sS)) (C := RX9) (T := TX9) (N := 30) hx hb hts i9 hown hK hP 0 rfl rfl 21 (by decide) f94 (fun _ h9 => h9) rfl dX9_readLoad_3 ?_
  refine lv_aload_n hx hb dX9_readLoad_6 rfl (lv_at hl 0 rfl) ?_
  refine va_get (ci := 9) (v := .int (zI sC)) (C := RX9) (T := TX9) (N := 30) hx hb hts i9 hown hK hP 0 rfl rfl 22 (by decide) f97 (fun _ h9 => h9) rfl dX9_readLoad_7 ?_
  refine z_imul hx hb dX9_readLoad_10 ?_
  refine lv_iconst (v := zI 1) hx hb dX9_readLoad_11 rfl ?_
  refine z_isub hx hb dX9_readLoad_12 ?_
  refine z_wV (As := [.int (zI 0), .int (zI ((sS * sC) - 1))]) (rest := []) ⟨hx, hb, hml, hown, hts⟩ (c_X9_takes l G hm0 S C Wy Li ml ms mw kn mi mk hz mh tr mt tn cu sa to nu wr it sS sC sL sW mq mn mc mr mb tf po 0 ((sS * sC) - 1) (by first | assumption | omega) (by first | assumption | omega) (by first | assumption | omega) (by first | assumption | rfl) (by first | assumption | rfl) (by first | assumption | exact hok1u) (by first | assumption | exact hok1r) (by first | assumption | omega) (by first | assumption | omega)) (cwV 2 hts gX9_readLoad_X9_takes rfl rfl rfl pd_X9_takes ⟨(Nat.le_of_ble_eq_true rfl), (Nat.le_of_ble_eq_true rfl)⟩) hK hP hD hS [0, 1] (by decide) rfl rfl rfl rfl (fun _ => Eq.trans (b := [hm0, mt]) rfl rfl) rfl hl.1 rfl (Nat.le_of_ble_eq_true rfl) dX9_readLoad_13 ⟨Nat.zero_le _, Nat.zero_le _⟩ (fun r_ u_ H locs hw_6 hP hD hS => ?_)
  obtain ⟨cu2_1, sa2_2, to2_3, nu2_4, wr2_5⟩ := u_
  obtain ⟨rfl, hw_6⟩ := hw_6
  try dsimp only at hw_6
  obtain ⟨hA_7, hB_8⟩ := hw_6
  have hP : kP G [(hm0, .inr (9, [.int (zI S), .int (zI C), .int (zI Wy), .int (zI Li), .ref ml, .ref ms, .ref mw, .int (zI kn), .ref mi, .ref mk, .int (zI hz), .ref mh, .long tr, .ref mt, .int (zI tn), .int (zI cu2_1), .int (zI sa2_2), .int (zI to2_3), .int (zI nu2_4), .int (zI wr2_5), .int (zI it), .int (zI sS), .int (zI sC), .int (zI sL), .int (zI sW), .ref mq, .ref mn, .ref mc, .ref mr, .ref mb])), (mt, .inl (G.2.1, 200, .inl (aZ tf))), (mq, .inl (G.2.1, 12, .inl (aZ qf)))] H := hP
  have hD : va_D A [(hm0, .inr (9, [.int (zI S), .int (zI C), .int (zI Wy), .int (zI Li), .ref ml, .ref ms, .ref mw, .int (zI kn), .ref mi, .ref mk, .int (zI hz), .ref mh, .long tr, .ref mt, .int (zI tn), .int (zI cu2_1), .int (zI sa2_2), .int (zI to2_3), .int (zI nu2_4), .int (zI wr2_5), .int (zI it), .int (zI sS), .int (zI sC), .int (zI sL), .int (zI sW), .ref mq, .ref mn, .ref mc, .ref mr, .ref mb])), (mt, .inl (G.2.1, 200, .inl (aZ tf))), (mq, .inl (G.2.1, 12, .inl (aZ qf)))] := hD
  by_cases hok1 : ((wr : Int) = 0 ∧ tkK tf tn po = -2 ∧ 0 ≤ tkV tf tn po ∧ tkV tf tn po ≤ sS * sC - 1)
  · obtain ⟨h_1, h_2, h_3, hok1u, hok1k, hok1r, h_7⟩ := hA_7 hok1
    subst cu2_1 sa2_2 to2_3 wr2_5
    clear hA_7 hB_8
    refine z_top (if_pos hok1) ?_
    refine lv_istore_n (lv' := [(1, .int (zI (tkV tf tn po))), (0, .ref hm0)]) hx hb dX9_readLoad_16 rfl hl (by decide) rfl (fun ls hl => ?_)
    refine lv_aload_n hx hb dX9_readLoad_17 rfl (lv_at hl 1 rfl) ?_
    refine lv_iconst (v := zI 1) hx hb dX9_readLoad_18 rfl ?_
    refine lv_bipush (v := zI 9) hx hb dX9_readLoad_19 (by decide) ?_
    refine z_wV (As := [.int (zI 1), .int (zI 9)]) (rest := []) ⟨hx, hb, hml, hown, hts⟩ (c_X9_takes l G hm0 S C Wy Li ml ms mw kn mi mk hz mh tr mt tn (tkE tf tn (tkE tf tn po)) (tkS tf tn (tkE tf tn po)) (mtk (tkK tf tn (tkE tf tn po))) nu2_4 0 it sS sC sL sW mq mn mc mr mb tf (tkE tf tn po) 1 9 (by first | assumption | omega) (by first | assumption | omega) (by first | assumption | omega) (by first | assumption | rfl) (by first | assumption | rfl) (by first | assumption | exact hok1u) (by first | assumption | exact hok1r) (by first | assumption | omega) (by first | assumption | omega)) (cwV 2 hts gX9_readLoad_X9_takes rfl rfl rfl pd_X9_takes ⟨(Nat.le_of_ble_eq_true rfl), (Nat.le_of_ble_eq_true rfl)⟩) hK hP hD hS [0, 1] (by decide) rfl rfl rfl rfl (fun _ => Eq.trans (b := [hm0, mt]) rfl rfl) rfl hl.1 rfl (Nat.le_of_ble_eq_true rfl) dX9_readLoad_21 ⟨Nat.zero_le _, Nat.zero_le _⟩ (fun r_ u_ H locs hw_14 hP hD hS => ?_)
    obtain ⟨cu2_9, sa2_10, to2_11, nu2_12, wr2_13⟩ := u_
    obtain ⟨rfl, hw_14⟩ := hw_14
    try dsimp only at hw_14
    obtain ⟨hA_15, hB_16⟩ := hw_14
    have hP : kP G [(hm0, .inr (9, [.int (zI S), .int (zI C), .int (zI Wy), .int (zI Li), .ref ml, .ref ms, .ref mw, .int (zI kn), .ref mi, .ref mk, .int (zI hz), .ref mh, .long tr, .ref mt, .int (zI tn), .int (zI cu2_9), .int (zI sa2_10), .int (zI to2_11), .int (zI nu2_12), .int (zI wr2_13), .int (zI it), .int (zI sS), .int (zI sC), .int (zI sL), .int (zI sW), .ref mq, .ref mn, .ref mc, .ref mr, .ref mb])), (mt, .inl (G.2.1, 200, .inl (aZ tf))), (mq, .inl (G.2.1, 12, .inl (aZ qf)))] H := hP
    have hD : va_D A [(hm0, .inr (9, [.int (zI S), .int (zI C), .int (zI Wy), .int (zI Li), .ref ml, .ref ms, .ref mw, .int (zI kn), .ref mi, .ref mk, .int (zI hz), .ref mh, .long tr, .ref mt, .int (zI tn), .int (zI cu2_9), .int (zI sa2_10), .int (zI to2_11), .int (zI nu2_12), .int (zI wr2_13), .int (zI it), .int (zI sS), .int (zI sC), .int (zI sL), .int (zI sW), .ref mq, .ref mn, .ref mc, .ref mr, .ref mb])), (mt, .inl (G.2.1, 200, .inl (aZ tf))), (mq, .inl (G.2.1, 12, .inl (aZ qf)))] := hD
    by_cases hok2 : ((0 : Int) = 0 ∧ tkK tf tn (tkE tf tn po) = -2 ∧ 1 ≤ tkV tf tn (tkE tf tn po) ∧ tkV tf tn (tkE tf tn po) ≤ 9)
    · obtain ⟨h_1, h_2, h_3, hok2u, hok2k, hok2r, h_7⟩ := hA_15 hok2
      subst cu2_9 sa2_10 to2_11 wr2_13
      clear hA_15 hB_16
      refine z_top (if_pos hok2) ?_
      refine lv_istore_n (lv' := [(2, .int (zI (tkV tf tn (tkE tf tn po)))), (1, .int (zI (tkV tf tn po))), (0, .ref hm0)]) hx hb dX9_readLoad_24 rfl hl (by decide) rfl (fun ls hl => ?_)
      refine lv_aload_n hx hb dX9_readLoad_25 rfl (lv_at hl 2 rfl) ?_
      refine va_get (ci := 9) (v := .int (zI 0)) (C := RX9) (T := TX9) (N := 30) hx hb hts i9 hown hK hP 0 rfl rfl 19 (by decide) f87 (fun _ h9 => h9) rfl dX9_readLoad_26 ?_
      refine z_if_ne (tgt := 39) hx hb (by omega) dX9_readLoad_29 (by decide) (fun c_17 => ?_) (fun c_17 => ?_)
      · exact absurd c_17 (by omega)
      · refine lv_aload_n hx hb dX9_readLoad_32 rfl (lv_at hl 2 rfl) ?_
        refine va_get (ci := 9) (v := .ref mq) (C := RX9) (T := TX9) (N := 30) hx hb hts i9 hown hK hP 0 rfl rfl 25 (by decide) f45 (fun _ h9 => h9) rfl dX9_readLoad_33 ?_
        refine lv_iload_n hx hb dX9_readLoad_36 rfl (lv_at hl 1 rfl) ?_
        refine lv_iload_n hx hb dX9_readLoad_37 rfl (lv_at hl 0 rfl) ?_
        refine z_iast (n := 12) (f := qf) (i := tkV tf tn po) (v := tkV tf tn (tkE tf tn po)) hx hb hK hP hD hS 2 rfl (by omega) dX9_readLoad_38 (fun H locs hP hD hS => ?_)
        have hP : kP G [(hm0, .inr (9, [.int (zI S), .int (zI C), .int (zI Wy), .int (zI Li), .ref ml, .ref ms, .ref mw, .int (zI kn), .ref mi, .ref mk, .int (zI hz), .ref mh, .long tr, .ref mt, .int (zI tn), .int (zI (tkE tf tn (tkE tf tn (tkE tf tn po)))), .int (zI (tkS tf tn (tkE tf tn (tkE tf tn po)))), .int (zI (mtk (tkK tf tn (tkE tf tn (tkE tf tn po))))), .int (zI nu2_12), .int (zI 0), .int (zI it), .int (zI sS), .int (zI sC), .int (zI sL), .int (zI sW), .ref mq, .ref mn, .ref mc, .ref mr, .ref mb])), (mt, .inl (G.2.1, 200, .inl (aZ tf))), (mq, .inl (G.2.1, 12, .inl (aZ (uZ qf (tkV tf tn po) (tkV tf tn (tkE tf tn po))))))] H := hP
        have hD : va_D A [(hm0, .inr (9, [.int (zI S), .int (zI C), .int (zI Wy), .int (zI Li), .ref ml, .ref ms, .ref mw, .int (zI kn), .ref mi, .ref mk, .int (zI hz), .ref mh, .long tr, .ref mt, .int (zI tn), .int (zI (tkE tf tn (tkE tf tn (tkE tf tn po)))), .int (zI (tkS tf tn (tkE tf tn (tkE tf tn po)))), .int (zI (mtk (tkK tf tn (tkE tf tn (tkE tf tn po))))), .int (zI nu2_12), .int (zI 0), .int (zI it), .int (zI sS), .int (zI sC), .int (zI sL), .int (zI sW), .ref mq, .ref mn, .ref mc, .ref mr, .ref mb])), (mt, .inl (G.2.1, 200, .inl (aZ tf))), (mq, .inl (G.2.1, 12, .inl (aZ (uZ qf (tkV tf tn po) (tkV tf tn (tkE tf tn po))))))] := hD
        exact hret H locs ls 39 (tkE tf tn (tkE tf tn (tkE tf tn po)), tkS tf tn (tkE tf tn (tkE tf tn po)), mtk (tkK tf tn (tkE tf tn (tkE tf tn po))), nu2_12, 0, uZ qf (tkV tf tn po) (tkV tf tn (tkE tf tn po))) (by exact ⟨fun _ => ⟨⟨rfl, rfl, rfl, hok2u, hok2k, hok2r⟩, rfl, rfl⟩, fun h => absurd ⟨by omega, by omega⟩ h⟩) hP hS dX9_readLoad_39
    · obtain ⟨h_1, h_2, h_3, h_4, h_5⟩ := hB_16 hok2
      subst cu2_9 sa2_10 to2_11 nu2_12 wr2_13
      clear hA_15 hB_16
      refine z_top (if_neg hok2) ?_
      refine lv_istore_n (lv' := [(2, .int (zI 0)), (1, .int (zI (tkV tf tn po))), (0, .ref hm0)]) hx hb dX9_readLoad_24 rfl hl (by decide) rfl (fun ls hl => ?_)
      refine lv_aload_n hx hb dX9_readLoad_25 rfl (lv_at hl 2 rfl) ?_
      refine va_get (ci := 9) (v := .int (zI 1)) (C := RX9) (T := TX9) (N := 30) hx hb hts i9 hown hK hP 0 rfl rfl 19 (by decide) f87 (fun _ h9 => h9) rfl dX9_readLoad_26 ?_
      refine z_if_ne (tgt := 39) hx hb (by omega) dX9_readLoad_29 (by decide) (fun c_18 => ?_) (fun c_18 => ?_)
      · exact hret H locs ls 39 (tkE tf tn (tkE tf tn po), tkS tf tn (tkE tf tn po), mtk (tkK tf tn (tkE tf tn po)), nu2_4, 1, qf) (by refine ⟨fun h => ?_, fun h => ⟨rfl, ?_, ?_, rfl⟩⟩ <;> first | (exfalso; omega) | (rw [if_pos (by omega)]; done) | (rw [if_neg (by omega)]; done) | omega) hP hS dX9_readLoad_39
      · exact absurd c_18 (by omega)
  · obtain ⟨h_1, h_2, h_3, h_4, h_5⟩ := hB_8 hok1
    subst cu2_1 sa2_2 to2_3 nu2_4 wr2_5
    clear hA_7 hB_8
    refine z_top (if_neg hok1) ?_
    refine lv_istore_n (lv' := [(1, .int (zI 0)), (0, .ref hm0)]) hx hb dX9_readLoad_16 rfl hl (by decide) rfl (fun ls hl => ?_)
    refine lv_aload_n hx hb dX9_readLoad_17 rfl (lv_at hl 1 rfl) ?_
    refine lv_iconst (v := zI 1) hx hb dX9_readLoad_18 rfl ?_
    refine lv_bipush (v := zI 9) hx hb dX9_readLoad_19 (by decide) ?_
    refine z_wV (As := [.int (zI 1), .int (zI 9)]) (rest := []) ⟨hx, hb, hml, hown, hts⟩ (c_X9_takes l G hm0 S C Wy Li ml ms mw kn mi mk hz mh tr mt tn cu sa to nu 1 it sS sC sL sW mq mn mc mr mb tf po 1 9 (by first | assumption | omega) (by first | assumption | omega) (by first | assumption | omega) (by first | assumption | rfl) (by first | assumption | rfl) (by first | assumption | exact hok1u) (by first | assumption | exact hok1r) (by first | assumption | omega) (by first | assumption | omega)) (cwV 2 hts gX9_readLoad_X9_takes rfl rfl rfl pd_X9_takes ⟨(Nat.le_of_ble_eq_true rfl), (Nat.le_of_ble_eq_true rfl)⟩) hK hP hD hS [0, 1] (by decide) rfl rfl rfl rfl (fun _ => Eq.trans (b := [hm0, mt]) rfl rfl) rfl hl.1 rfl (Nat.le_of_ble_eq_true rfl) dX9_readLoad_21 ⟨Nat.zero_le _, Nat.zero_le _⟩ (fun r_ u_ H locs hw_24 hP hD hS => ?_)
    obtain ⟨cu2_19, sa2_20, to2_21, nu2_22, wr2_23⟩ := u_
    obtain ⟨rfl, hw_24⟩ := hw_24
    try dsimp only at hw_24
    obtain ⟨hA_25, hB_26⟩ := hw_24
    have hP : kP G [(hm0, .inr (9, [.int (zI S), .int (zI C), .int (zI Wy), .int (zI Li), .ref ml, .ref ms, .ref mw, .int (zI kn), .ref mi, .ref mk, .int (zI hz), .ref mh, .long tr, .ref mt, .int (zI tn), .int (zI cu2_19), .int (zI sa2_20), .int (zI to2_21), .int (zI nu2_22), .int (zI wr2_23), .int (zI it), .int (zI sS), .int (zI sC), .int (zI sL), .int (zI sW), .ref mq, .ref mn, .ref mc, .ref mr, .ref mb])), (mt, .inl (G.2.1, 200, .inl (aZ tf))), (mq, .inl (G.2.1, 12, .inl (aZ qf)))] H := hP
    have hD : va_D A [(hm0, .inr (9, [.int (zI S), .int (zI C), .int (zI Wy), .int (zI Li), .ref ml, .ref ms, .ref mw, .int (zI kn), .ref mi, .ref mk, .int (zI hz), .ref mh, .long tr, .ref mt, .int (zI tn), .int (zI cu2_19), .int (zI sa2_20), .int (zI to2_21), .int (zI nu2_22), .int (zI wr2_23), .int (zI it), .int (zI sS), .int (zI sC), .int (zI sL), .int (zI sW), .ref mq, .ref mn, .ref mc, .ref mr, .ref mb])), (mt, .inl (G.2.1, 200, .inl (aZ tf))), (mq, .inl (G.2.1, 12, .inl (aZ qf)))] := hD
    by_cases hok2 : ((1 : Int) = 0 ∧ tkK tf tn po = -2 ∧ 1 ≤ tkV tf tn po ∧ tkV tf tn po ≤ 9)
    · exact absurd hok2.1 (by decide)
    · obtain ⟨h_1, h_2, h_3, h_4, h_5⟩ := hB_26 hok2
      subst cu2_19 sa2_20 to2_21 nu2_22 wr2_23
      clear hA_25 hB_26
      refine z_top (if_neg hok2) ?_
      refine lv_istore_n (lv' := [(2, .int (zI 0)), (1, .int (zI 0)), (0, .ref hm0)]) hx hb dX9_readLoad_24 rfl hl (by decide) rfl (fun ls hl => ?_)
      refine lv_aload_n hx hb dX9_readLoad_25 rfl (lv_at hl 2 rfl) ?_
      refine va_get (ci := 9) (v := .int (zI 1)) (C := RX9) (T := TX9) (N := 30) hx hb hts i9 hown hK hP 0 rfl rfl 19 (by decide) f87 (fun _ h9 => h9) rfl dX9_readLoad_26 ?_
      refine z_if_ne (tgt := 39) hx hb (by omega) dX9_readLoad_29 (by decide) (fun c_27 => ?_) (fun c_27 => ?_)
      · exact hret H locs ls 39 (cu, sa, to, nu, 1, qf) (by refine ⟨fun h => ?_, fun h => ⟨rfl, ?_, ?_, rfl⟩⟩ <;> first | (exfalso; omega) | (rw [if_pos (by omega)]; done) | (rw [if_neg (by omega)]; done) | omega) hP hS dX9_readLoad_39
      · exact absurd c_27 (by omega)
