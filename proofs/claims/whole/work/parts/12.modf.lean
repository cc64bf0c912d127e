
theorem mtk2 (k : Int) : mtk k = 2 ↔ k = -2 := by
  unfold mtk
  (repeat' split) <;> omega
theorem mtk_rng (k : Int) : 0 ≤ mtk k ∧ mtk k ≤ 4 := by
  unfold mtk
  (repeat' split) <;> omega

theorem pd_X9_takes : yX9_takes.cls = RX9 ∧ yX9_takes.cls ≠ "java/lang/invoke/MethodHandle" ∧ yX9_takes.cls ≠ "java/lang/invoke/VarHandle" ∧ (parseMethodDescriptor yX9_takes.desc).map (fun d => d.parameters.length) = some 2 := by decide +kernel
abbrev rmX9_takes : Room := { frames := 3, cells := 0, slots := 0, locals := 63 }
set_option maxHeartbeats 4000000 in
set_option maxRecDepth 100000 in
theorem c_X9_takes (l : Launch) (G : CX) (hm0 : Nat) (S : Int) (C : Int) (Wy : Int) (Li : Int) (ml : Nat) (ms : Nat) (mw : Nat) (kn : Int) (mi : Nat) (mk : Nat) (hz : Int) (mh : Nat) (tr : Int64) (mt : Nat) (tn : Int) (cu : Int) (sa : Int) (to : Int) (nu : Int) (wr : Int) (it : Int) (sS : Int) (sC : Int) (sL : Int) (sW : Int) (mq : Nat) (mn : Nat) (mc : Nat) (mr : Nat) (mb : Nat) (tf : Int → Int) (po : Int) (lo : Int) (hi : Int) (htn : 0 ≤ tn ∧ tn ≤ 200) (htf : ∀ i : Int, 0 ≤ i → i < tn → 0 ≤ tf i ∧ tf i ≤ 255) (hp : 0 ≤ po ∧ po ≤ tn) (hcu : cu = tkE tf tn po) (hto : to = mtk (tkK tf tn po)) (hnu : tkK tf tn po = -2 → nu = tkV tf tn po) (hnr : 0 ≤ nu ∧ nu ≤ 999) (hwr : wr = 0 ∨ wr = 1) (hlh : (-10 ≤ lo ∧ lo ≤ 100) ∧ -10 ≤ hi ∧ hi ≤ 100) : Met l yX9_takes wsX9_takes rmX9_takes (wrP G [.ref hm0, .int (zI lo), .int (zI hi)] [(hm0, .inr (9, [.int (zI S), .int (zI C), .int (zI Wy), .int (zI Li), .ref ml, .ref ms, .ref mw, .int (zI kn), .ref mi, .ref mk, .int (zI hz), .ref mh, .long tr, .ref mt, .int (zI tn), .int (zI cu), .int (zI sa), .int (zI to), .int (zI nu), .int (zI wr), .int (zI it), .int (zI sS), .int (zI sC), .int (zI sL), .int (zI sW), .ref mq, .ref mn, .ref mc, .ref mr, .ref mb])), (mt, .inl (G.2.1, 200, .inl (aZ tf)))]) (wrQ G [(hm0, .inr (9, [.int (zI S), .int (zI C), .int (zI Wy), .int (zI Li), .ref ml, .ref ms, .ref mw, .int (zI kn), .ref mi, .ref mk, .int (zI hz), .ref mh, .long tr, .ref mt, .int (zI tn), .int (zI cu), .int (zI sa), .int (zI to), .int (zI nu), .int (zI wr), .int (zI it), .int (zI sS), .int (zI sC), .int (zI sL), .int (zI sW), .ref mq, .ref mn, .ref mc, .ref mr, .ref mb])), (mt, .inl (G.2.1, 200, .inl (aZ tf)))] (fun (r_ : Int32) (u : Int × Int × Int × Int × Int) => match u with | (cu2, sa2, to2, nu2, wr2) => r_ = zI (if (wr = 0 ∧ tkK tf tn po = -2 ∧ lo ≤ tkV tf tn po ∧ tkV tf tn po ≤ hi) then tkV tf tn po else 0) ∧ (((wr = 0 ∧ tkK tf tn po = -2 ∧ lo ≤ tkV tf tn po ∧ tkV tf tn po ≤ hi) → cu2 = tkE tf tn (tkE tf tn po) ∧ sa2 = tkS tf tn (tkE tf tn po) ∧ to2 = mtk (tkK tf tn (tkE tf tn po)) ∧ (tkK tf tn (tkE tf tn po) = -2 → nu2 = tkV tf tn (tkE tf tn po)) ∧ (0 ≤ tkK tf tn (tkE tf tn po) → nu2 = tkK tf tn (tkE tf tn po)) ∧ (0 ≤ nu2 ∧ nu2 ≤ 999) ∧ wr2 = 0) ∧ (¬ (wr = 0 ∧ tkK tf tn po = -2 ∧ lo ≤ tkV tf tn po ∧ tkV tf tn po ≤ hi) → cu2 = cu ∧ sa2 = sa ∧ to2 = to ∧ nu2 = nu ∧ wr2 = 1))) (fun (u : Int × Int × Int × Int × Int) => match u with | (cu2, sa2, to2, nu2, wr2) => [(hm0, .inr (9, [.int (zI S), .int (zI C), .int (zI Wy), .int (zI Li), .ref ml, .ref ms, .ref mw, .int (zI kn), .ref mi, .ref mk, .int (zI hz), .ref mh, .long tr, .ref mt, .int (zI tn), .int (zI cu2), .int (zI sa2), .int (zI to2), .int (zI nu2), .int (zI wr2), .int (zI it), .int (zI sS), .int (zI sC), .int (zI sL), .int (zI sW), .ref mq, .ref mn, .ref mc, .ref mr, .ref mb])), (mt, .inl (G.2.1, 200, .inl (aZ tf)))])) 0 0 (wrA [(hm0, .inr (9, [.int (zI S), .int (zI C), .int (zI Wy), .int (zI Li), .ref ml, .ref ms, .ref mw, .int (zI kn), .ref mi, .ref mk, .int (zI hz), .ref mh, .long tr, .ref mt, .int (zI tn), .int (zI cu), .int (zI sa), .int (zI to), .int (zI nu), .int (zI wr), .int (zI it), .int (zI sS), .int (zI sC), .int (zI sL), .int (zI sW), .ref mq, .ref mn, .ref mc, .ref mr, .ref mb])), (mt, .inl (G.2.1, 200, .inl (aZ tf)))]) := by
  refine wr_ofW (cc := cX9_takes) (maxL := 5) (ty := .int) (by decide) rfl (Nat.le_of_ble_eq_true rfl) ?_
  intro p e s m below meth c Q A hx hb hml hown hts hK hret H locs hP hD hS ls hl
  have hown : s.vm.findClass RX9 = some m.cls := hown
  have hl : lv_has ls 5 [(0, .ref hm0), (1, .int (zI lo)), (2, .int (zI hi))] := hl
  have f87 := hts (.fieldLink RX9 87 "QuarterTurnsModel" "isWrong" "Z") (by decide +kernel)
  have i9 : ∀ w ∈ wsX90, w ∈ wsX9_takes := fun w h => List.mem_cons_of_mem _ (List.mem_append_right _ h)
  have f77 := hts (.fieldLink RX9 77 "QuarterTurnsModel" "number" "I") (by decide +kernel)
  have f80 := hts (.fieldLink RX9 80 "QuarterTurnsModel" "token" "I") (by decide +kernel)
  have hmr := mtk_rng (tkK tf tn po)
  have hm2 := mtk2 (tkK tf tn po)
  have hEr := tkE_rng (f := tf) (n := tn) (p := po) (by omega)
  have hSr := tkS_rng (f := tf) (n := tn) (p := po) (by omega)
  refine lv_aload_n hx hb dX9_takes_0 rfl (lv_at hl 0 rfl) ?_
  refine va_get (ci := 9) (v := .int (zI wr)) (C := RX9) (T := TX9) (N := 30) hx hb hts i9 hown hK hP 0 rfl rfl 19 (by decide) f87 (fun _ h9 => h9) rfl dX9_takes_1 ?_
  refine z_if_ne (tgt := 31) hx hb (by omega) dX9_takes_4 (by decide) (fun c_1 => ?_) (fun c_1 => ?_)
  · refine lv_iconst (v := zI 0) hx hb dX9_takes_31 rfl ?_
    refine lv_istore_n (lv' := [(3, .int (zI 0)), (0, .ref hm0), (1, .int (zI lo)), (2, .int (zI hi))]) hx hb dX9_takes_32 rfl hl (by decide) rfl (fun ls hl => ?_)
    refine lv_aload_n hx hb dX9_takes_33 rfl (lv_at hl 1 rfl) ?_
    refine lv_iload_n hx hb dX9_takes_34 rfl (lv_at hl 0 rfl) ?_
    refine z_if_ne (tgt := 42) hx hb (by omega) dX9_takes_35 (by decide) (fun c_2 => ?_) (fun c_2 => ?_)
    · exact absurd c_2 (by omega)
    · refine lv_iconst (v := zI 1) hx hb dX9_takes_38 rfl ?_
      refine lv_goto (tgt := 43) hx hb dX9_takes_39 (by decide) ?_
      refine va_put (ci := 9) (v := .int (zI 1)) (ty := .boolean) (C := RX9) (T := TX9) (N := 30) hx hb hts i9 tyX9 tyX9_ok nmX9 hown hK hP hD hS 0 rfl rfl 19 (by decide) f87 (fun _ h9 => h9) rfl (tyX9_ok 19 (by decide)) (by decide) (by decide) (Nat.le_of_ble_eq_true rfl) dX9_takes_43 (fun H locs hP hD hS => ?_)
      have hP : kP G [(hm0, .inr (9, [.int (zI S), .int (zI C), .int (zI Wy), .int (zI Li), .ref ml, .ref ms, .ref mw, .int (zI kn), .ref mi, .ref mk, .int (zI hz), .ref mh, .long tr, .ref mt, .int (zI tn), .int (zI cu), .int (zI sa), .int (zI to), .int (zI nu), .int (zI 1), .int (zI it), .int (zI sS), .int (zI sC), .int (zI sL), .int (zI sW), .ref mq, .ref mn, .ref mc, .ref mr, .ref mb])), (mt, .inl (G.2.1, 200, .inl (aZ tf)))] H := hP
      have hD : va_D A [(hm0, .inr (9, [.int (zI S), .int (zI C), .int (zI Wy), .int (zI Li), .ref ml, .ref ms, .ref mw, .int (zI kn), .ref mi, .ref mk, .int (zI hz), .ref mh, .long tr, .ref mt, .int (zI tn), .int (zI cu), .int (zI sa), .int (zI to), .int (zI nu), .int (zI 1), .int (zI it), .int (zI sS), .int (zI sC), .int (zI sL), .int (zI sW), .ref mq, .ref mn, .ref mc, .ref mr, .ref mb])), (mt, .inl (G.2.1, 200, .inl (aZ tf)))] := hD
      refine lv_aload_n hx hb dX9_takes_46 rfl (lv_at hl 1 rfl) ?_
      refine va_get (ci := 9) (v := .int (zI nu)) (C := RX9) (T := TX9) (N := 30) hx hb hts i9 hown hK hP 0 rfl rfl 18 (by decide) f77 (fun _ h9 => h9) rfl dX9_takes_47 ?_
      refine lv_istore (lv' := [(4, .int (zI nu)), (3, .int (zI 0)), (0, .ref hm0), (1, .int (zI lo)), (2, .int (zI hi))]) hx hb dX9_takes_50 hl (by decide) rfl (fun ls hl => ?_)
      refine lv_iload_n hx hb dX9_takes_52 rfl (lv_at hl 1 rfl) ?_
      refine z_if_eq (tgt := 60) hx hb (by omega) dX9_takes_53 (by decide) (fun c_3 => ?_) (fun c_3 => ?_)
      · refine lv_iload_n hx hb dX9_takes_60 rfl (lv_at hl 1 rfl) ?_
        refine z_if_eq (tgt := 69) hx hb (by omega) dX9_takes_61 (by decide) (fun c_4 => ?_) (fun c_4 => ?_)
        · refine lv_iconst (v := zI 0) hx hb dX9_takes_69 rfl ?_
          exact hret H locs ls 70 _ (cu, sa, to, nu, 1) rfl ⟨congrArg zI (by rw [if_neg (by omega)]), by refine ⟨fun h => ?_, fun h => ⟨rfl, rfl, rfl, rfl, rfl⟩⟩; omega⟩ hP hS dX9_takes_70
        · exact absurd c_4 (by omega)
      · exact absurd c_3 (by omega)
  · refine lv_aload_n hx hb dX9_takes_7 rfl (lv_at hl 0 rfl) ?_
    refine va_get (ci := 9) (v := .int (zI to)) (C := RX9) (T := TX9) (N := 30) hx hb hts i9 hown hK hP 0 rfl rfl 17 (by decide) f80 (fun _ h9 => h9) rfl dX9_takes_8 ?_
    refine lv_iconst (v := zI 2) hx hb dX9_takes_11 rfl ?_
    refine z_icmp_ne (tgt := 31) hx hb (by omega) dX9_takes_12 (by decide) (fun c_5 => ?_) (fun c_5 => ?_)
    · refine lv_iconst (v := zI 0) hx hb dX9_takes_31 rfl ?_
      refine lv_istore_n (lv' := [(3, .int (zI 0)), (0, .ref hm0), (1, .int (zI lo)), (2, .int (zI hi))]) hx hb dX9_takes_32 rfl hl (by decide) rfl (fun ls hl => ?_)
      refine lv_aload_n hx hb dX9_takes_33 rfl (lv_at hl 1 rfl) ?_
      refine lv_iload_n hx hb dX9_takes_34 rfl (lv_at hl 0 rfl) ?_
      refine z_if_ne (tgt := 42) hx hb (by omega) dX9_takes_35 (by decide) (fun c_6 => ?_) (fun c_6 => ?_)
      · exact absurd c_6 (by omega)
      · refine lv_iconst (v := zI 1) hx hb dX9_takes_38 rfl ?_
        refine lv_goto (tgt := 43) hx hb dX9_takes_39 (by decide) ?_
        refine va_put (ci := 9) (v := .int (zI 1)) (ty := .boolean) (C := RX9) (T := TX9) (N := 30) hx hb hts i9 tyX9 tyX9_ok nmX9 hown hK hP hD hS 0 rfl rfl 19 (by decide) f87 (fun _ h9 => h9) rfl (tyX9_ok 19 (by decide)) (by decide) (by decide) (Nat.le_of_ble_eq_true rfl) dX9_takes_43 (fun H locs hP hD hS => ?_)
        have hP : kP G [(hm0, .inr (9, [.int (zI S), .int (zI C), .int (zI Wy), .int (zI Li), .ref ml, .ref ms, .ref mw, .int (zI kn), .ref mi, .ref mk, .int (zI hz), .ref mh, .long tr, .ref mt, .int (zI tn), .int (zI cu), .int (zI sa), .int (zI to), .int (zI nu), .int (zI 1), .int (zI it), .int (zI sS), .int (zI sC), .int (zI sL), .int (zI sW), .ref mq, .ref mn, .ref mc, .ref mr, .ref mb])), (mt, .inl (G.2.1, 200, .inl (aZ tf)))] H := hP
        have hD : va_D A [(hm0, .inr (9, [.int (zI S), .int (zI C), .int (zI Wy), .int (zI Li), .ref ml, .ref ms, .ref mw, .int (zI kn), .ref mi, .ref mk, .int (zI hz), .ref mh, .long tr, .ref mt, .int (zI tn), .int (zI cu), .int (zI sa), .int (zI to), .int (zI nu), .int (zI 1), .int (zI it), .int (zI sS), .int (zI sC), .int (zI sL), .int (zI sW), .ref mq, .ref mn, .ref mc, .ref mr, .ref mb])), (mt, .inl (G.2.1, 200, .inl (aZ tf)))] := hD
        refine lv_aload_n hx hb dX9_takes_46 rfl (lv_at hl 1 rfl) ?_
        refine va_get (ci := 9) (v := .int (zI nu)) (C := RX9) (T := TX9) (N := 30) hx hb hts i9 hown hK hP 0 rfl rfl 18 (by decide) f77 (fun _ h9 => h9) rfl dX9_takes_47 ?_
        refine lv_istore (lv' := [(4, .int (zI nu)), (3, .int (zI 0)), (0, .ref hm0), (1, .int (zI lo)), (2, .int (zI hi))]) hx hb dX9_takes_50 hl (by decide) rfl (fun ls hl => ?_)
        refine lv_iload_n hx hb dX9_takes_52 rfl (lv_at hl 1 rfl) ?_
        refine z_if_eq (tgt := 60) hx hb (by omega) dX9_takes_53 (by decide) (fun c_7 => ?_) (fun c_7 => ?_)
        · refine lv_iload_n hx hb dX9_takes_60 rfl (lv_at hl 1 rfl) ?_
          refine z_if_eq (tgt := 69) hx hb (by omega) dX9_takes_61 (by decide) (fun c_8 => ?_) (fun c_8 => ?_)
          · refine lv_iconst (v := zI 0) hx hb dX9_takes_69 rfl ?_
            exact hret H locs ls 70 _ (cu, sa, to, nu, 1) rfl ⟨congrArg zI (by rw [if_neg (by omega)]), by refine ⟨fun h => ?_, fun h => ⟨rfl, rfl, rfl, rfl, rfl⟩⟩; omega⟩ hP hS dX9_takes_70
          · exact absurd c_8 (by omega)
        · exact absurd c_7 (by omega)
    · refine lv_aload_n hx hb dX9_takes_15 rfl (lv_at hl 0 rfl) ?_
      refine va_get (ci := 9) (v := .int (zI nu)) (C := RX9) (T := TX9) (N := 30) hx hb hts i9 hown hK hP 0 rfl rfl 18 (by decide) f77 (fun _ h9 => h9) rfl dX9_takes_16 ?_
      refine lv_iload_n hx hb dX9_takes_19 rfl (lv_at hl 1 rfl) ?_
      refine lv_iload_n hx hb dX9_takes_20 rfl (lv_at hl 2 rfl) ?_
      refine z_cS (As := [.int (zI nu), .int (zI lo), .int (zI hi)]) (rest := []) ⟨hx, hb, hml, hown, hts⟩ (c_X9_in l G nu lo hi (by first | assumption | omega)) (va_cwS 3 hts gX9_takes_X9_in rfl rfl rfl pd_X9_in.2 ⟨(Nat.le_of_ble_eq_true rfl), (Nat.le_of_ble_eq_true rfl)⟩) hK hP hS [] rfl rfl hl.1 rfl (Nat.le_of_ble_eq_true rfl) dX9_takes_21 ⟨Nat.zero_le _, Nat.zero_le _⟩ (fun H locs hP hS => ?_)
      refine z_ifeq_b (tgt := 31) hx hb dX9_takes_24 (by decide) (fun c_9 => ?_) (fun c_9 => ?_)
      · refine lv_iconst (v := zI 0) hx hb dX9_takes_31 rfl ?_
        refine lv_istore_n (lv' := [(3, .int (zI 0)), (0, .ref hm0), (1, .int (zI lo)), (2, .int (zI hi))]) hx hb dX9_takes_32 rfl hl (by decide) rfl (fun ls hl => ?_)
        refine lv_aload_n hx hb dX9_takes_33 rfl (lv_at hl 1 rfl) ?_
        refine lv_iload_n hx hb dX9_takes_34 rfl (lv_at hl 0 rfl) ?_
        refine z_if_ne (tgt := 42) hx hb (by omega) dX9_takes_35 (by decide) (fun c_10 => ?_) (fun c_10 => ?_)
        · exact absurd c_10 (by omega)
        · refine lv_iconst (v := zI 1) hx hb dX9_takes_38 rfl ?_
          refine lv_goto (tgt := 43) hx hb dX9_takes_39 (by decide) ?_
          refine va_put (ci := 9) (v := .int (zI 1)) (ty := .boolean) (C := RX9) (T := TX9) (N := 30) hx hb hts i9 tyX9 tyX9_ok nmX9 hown hK hP hD hS 0 rfl rfl 19 (by decide) f87 (fun _ h9 => h9) rfl (tyX9_ok 19 (by decide)) (by decide) (by decide) (Nat.le_of_ble_eq_true rfl) dX9_takes_43 (fun H locs hP hD hS => ?_)
          have hP : kP G [(hm0, .inr (9, [.int (zI S), .int (zI C), .int (zI Wy), .int (zI Li), .ref ml, .ref ms, .ref mw, .int (zI kn), .ref mi, .ref mk, .int (zI hz), .ref mh, .long tr, .ref mt, .int (zI tn), .int (zI cu), .int (zI sa), .int (zI to), .int (zI nu), .int (zI 1), .int (zI it), .int (zI sS), .int (zI sC), .int (zI sL), .int (zI sW), .ref mq, .ref mn, .ref mc, .ref mr, .ref mb])), (mt, .inl (G.2.1, 200, .inl (aZ tf)))] H := hP
          have hD : va_D A [(hm0, .inr (9, [.int (zI S), .int (zI C), .int (zI Wy), .int (zI Li), .ref ml, .ref ms, .ref mw, .int (zI kn), .ref mi, .ref mk, .int (zI hz), .ref mh, .long tr, .ref mt, .int (zI tn), .int (zI cu), .int (zI sa), .int (zI to), .int (zI nu), .int (zI 1), .int (zI it), .int (zI sS), .int (zI sC), .int (zI sL), .int (zI sW), .ref mq, .ref mn, .ref mc, .ref mr, .ref mb])), (mt, .inl (G.2.1, 200, .inl (aZ tf)))] := hD
          refine lv_aload_n hx hb dX9_takes_46 rfl (lv_at hl 1 rfl) ?_
          refine va_get (ci := 9) (v := .int (zI nu)) (C := RX9) (T := TX9) (N := 30) hx hb hts i9 hown hK hP 0 rfl rfl 18 (by decide) f77 (fun _ h9 => h9) rfl dX9_takes_47 ?_
          refine lv_istore (lv' := [(4, .int (zI nu)), (3, .int (zI 0)), (0, .ref hm0), (1, .int (zI lo)), (2, .int (zI hi))]) hx hb dX9_takes_50 hl (by decide) rfl (fun ls hl => ?_)
          refine lv_iload_n hx hb dX9_takes_52 rfl (lv_at hl 1 rfl) ?_
          refine z_if_eq (tgt := 60) hx hb (by omega) dX9_takes_53 (by decide) (fun c_11 => ?_) (fun c_11 => ?_)
          · refine lv_iload_n hx hb dX9_takes_60 rfl (lv_at hl 1 rfl) ?_
            refine z_if_eq (tgt := 69) hx hb (by omega) dX9_takes_61 (by decide) (fun c_12 => ?_) (fun c_12 => ?_)
            · refine lv_iconst (v := zI 0) hx hb dX9_takes_69 rfl ?_
              exact hret H locs ls 70 _ (cu, sa, to, nu, 1) rfl ⟨congrArg zI (by rw [if_neg (by omega)]), by refine ⟨fun h => ?_, fun h => ⟨rfl, rfl, rfl, rfl, rfl⟩⟩; omega⟩ hP hS dX9_takes_70
            · exact absurd c_12 (by omega)
          · exact absurd c_11 (by omega)
      · refine lv_iconst (v := zI 1) hx hb dX9_takes_27 rfl ?_
        refine lv_goto (tgt := 32) hx hb dX9_takes_28 (by decide) ?_
        refine lv_istore_n (lv' := [(3, .int (zI 1)), (0, .ref hm0), (1, .int (zI lo)), (2, .int (zI hi))]) hx hb dX9_takes_32 rfl hl (by decide) rfl (fun ls hl => ?_)
        refine lv_aload_n hx hb dX9_takes_33 rfl (lv_at hl 1 rfl) ?_
        refine lv_iload_n hx hb dX9_takes_34 rfl (lv_at hl 0 rfl) ?_
        refine z_if_ne (tgt := 42) hx hb (by omega) dX9_takes_35 (by decide) (fun c_13 => ?_) (fun c_13 => ?_)
        · refine lv_iconst (v := zI 0) hx hb dX9_takes_42 rfl ?_
          refine va_put (ci := 9) (v := .int (zI 0)) (ty := .boolean) (C := RX9) (T := TX9) (N := 30) hx hb hts i9 tyX9 tyX9_ok nmX9 hown hK hP hD hS 0 rfl rfl 19 (by decide) f87 (fun _ h9 => h9) rfl (tyX9_ok 19 (by decide)) (by decide) (by decide) (Nat.le_of_ble_eq_true rfl) dX9_takes_43 (fun H locs hP hD hS => ?_)
          have hP : kP G [(hm0, .inr (9, [.int (zI S), .int (zI C), .int (zI Wy), .int (zI Li), .ref ml, .ref ms, .ref mw, .int (zI kn), .ref mi, .ref mk, .int (zI hz), .ref mh, .long tr, .ref mt, .int (zI tn), .int (zI cu), .int (zI sa), .int (zI to), .int (zI nu), .int (zI 0), .int (zI it), .int (zI sS), .int (zI sC), .int (zI sL), .int (zI sW), .ref mq, .ref mn, .ref mc, .ref mr, .ref mb])), (mt, .inl (G.2.1, 200, .inl (aZ tf)))] H := hP
          have hD : va_D A [(hm0, .inr (9, [.int (zI S), .int (zI C), .int (zI Wy), .int (zI Li), .ref ml, .ref ms, .ref mw, .int (zI kn), .ref mi, .ref mk, .int (zI hz), .ref mh, .long tr, .ref mt, .int (zI tn), .int (zI cu), .int (zI sa), .int (zI to), .int (zI nu), .int (zI 0), .int (zI it), .int (zI sS), .int (zI sC), .int (zI sL), .int (zI sW), .ref mq, .ref mn, .ref mc, .ref mr, .ref mb])), (mt, .inl (G.2.1, 200, .inl (aZ tf)))] := hD
          refine lv_aload_n hx hb dX9_takes_46 rfl (lv_at hl 1 rfl) ?_
          refine va_get (ci := 9) (v := .int (zI nu)) (C := RX9) (T := TX9) (N := 30) hx hb hts i9 hown hK hP 0 rfl rfl 18 (by decide) f77 (fun _ h9 => h9) rfl dX9_takes_47 ?_
          refine lv_istore (lv' := [(4, .int (zI nu)), (3, .int (zI 1)), (0, .ref hm0), (1, .int (zI lo)), (2, .int (zI hi))]) hx hb dX9_takes_50 hl (by decide) rfl (fun ls hl => ?_)
          refine lv_iload_n hx hb dX9_takes_52 rfl (lv_at hl 1 rfl) ?_
          refine z_if_eq (tgt := 60) hx hb (by omega) dX9_takes_53 (by decide) (fun c_14 => ?_) (fun c_14 => ?_)
          · exact absurd c_14 (by omega)
          · refine lv_aload_n hx hb dX9_takes_56 rfl (lv_at hl 2 rfl) ?_
            refine z_wVv (As := []) (rest := []) ⟨hx, hb, hml, hown, hts⟩ (c_X9_next l G hm0 S C Wy Li ml ms mw kn mi mk hz mh tr mt tn cu sa to nu 0 it sS sC sL sW mq mn mc mr mb tf (by first | assumption | omega) (by first | assumption | omega) (by omega)) (cwV 0 hts gX9_takes_X9_next rfl rfl rfl pd_X9_next ⟨(Nat.le_of_ble_eq_true rfl), (Nat.le_of_ble_eq_true rfl)⟩) hK hP hD hS [0, 1] (by decide) rfl rfl rfl rfl (fun _ => Eq.trans (b := [hm0, mt]) rfl rfl) rfl hl.1 rfl (Nat.le_of_ble_eq_true rfl) dX9_takes_57 ⟨Nat.zero_le _, Nat.zero_le _⟩ (fun u_ H locs hw_19 hP hD hS => ?_)
            obtain ⟨cu2_15, sa2_16, to2_17, nu2_18⟩ := u_
            try dsimp only at hw_19
            obtain ⟨rfl, rfl, rfl, hnu_20, hnk_21, hnr_22⟩ := hw_19
            have hP : kP G [(hm0, .inr (9, [.int (zI S), .int (zI C), .int (zI Wy), .int (zI Li), .ref ml, .ref ms, .ref mw, .int (zI kn), .ref mi, .ref mk, .int (zI hz), .ref mh, .long tr, .ref mt, .int (zI tn), .int (zI (tkE tf tn cu)), .int (zI (tkS tf tn cu)), .int (zI (mtk (tkK tf tn cu))), .int (zI nu2_18), .int (zI 0), .int (zI it), .int (zI sS), .int (zI sC), .int (zI sL), .int (zI sW), .ref mq, .ref mn, .ref mc, .ref mr, .ref mb])), (mt, .inl (G.2.1, 200, .inl (aZ tf)))] H := hP
            have hD : va_D A [(hm0, .inr (9, [.int (zI S), .int (zI C), .int (zI Wy), .int (zI Li), .ref ml, .ref ms, .ref mw, .int (zI kn), .ref mi, .ref mk, .int (zI hz), .ref mh, .long tr, .ref mt, .int (zI tn), .int (zI (tkE tf tn cu)), .int (zI (tkS tf tn cu)), .int (zI (mtk (tkK tf tn cu))), .int (zI nu2_18), .int (zI 0), .int (zI it), .int (zI sS), .int (zI sC), .int (zI sL), .int (zI sW), .ref mq, .ref mn, .ref mc, .ref mr, .ref mb])), (mt, .inl (G.2.1, 200, .inl (aZ tf)))] := hD
            have hq_23 := tkS_rng (f := tf) (n := tn) (p := cu) (by omega)
            have hq_24 := tkE_rng (f := tf) (n := tn) (p := cu) (by omega)
            have hq_25 := tkK_rng (f := tf) (n := tn) (p := cu) (by omega) (by first | assumption | omega)
            have hq_26 := tkV_rng (f := tf) (n := tn) (p := cu)
            refine lv_iload_n hx hb dX9_takes_60 rfl (lv_at hl 1 rfl) ?_
            refine z_if_eq (tgt := 69) hx hb (by omega) dX9_takes_61 (by decide) (fun c_27 => ?_) (fun c_27 => ?_)
            · exact absurd c_27 (by omega)
            · refine lv_iload hx hb dX9_takes_64 (lv_at hl 0 rfl) ?_
              refine lv_goto (tgt := 70) hx hb dX9_takes_66 (by decide) ?_
              exact hret H locs ls 70 _ (tkE tf tn cu, tkS tf tn cu, mtk (tkK tf tn cu), nu2_18, 0) rfl ⟨congrArg zI (by have hk := hm2.mp (by omega); have hn := hnu hk; rw [if_pos (by omega)]; exact hn), by subst hcu; refine ⟨fun h => ⟨rfl, rfl, rfl, hnu_20, hnk_21, hnr_22, rfl⟩, fun h => ?_⟩; exact absurd ⟨by omega, hm2.mp (by omega), by have := hnu (hm2.mp (by omega)); omega⟩ h⟩ hP hS dX9_takes_70
        · exact absurd c_13 (by omega)
