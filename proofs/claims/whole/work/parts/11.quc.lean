def cL1 : Int64 := 1
def cL10 : Int64 := 10
def cL100 : Int64 := 100
def cL1000 : Int64 := 1000
def cL10000 : Int64 := 10000
def cL100000 : Int64 := 100000
theorem pd_X8_asWay : yX8_asWay.cls = RX8 ∧ yX8_asWay.cls ≠ "java/lang/invoke/MethodHandle" ∧ yX8_asWay.cls ≠ "java/lang/invoke/VarHandle" ∧ (parseMethodDescriptor yX8_asWay.desc).map (fun d => d.parameters.length) = some 1 := by decide +kernel
abbrev rmX8_asWay : Room := { frames := 0, cells := 0, slots := 0, locals := 0 }
set_option maxHeartbeats 4000000 in
set_option maxRecDepth 100000 in
theorem c_X8_asWay (l : Launch) (G : CX) (hq0 : Nat) (hx0 : Nat) (hr0 : Nat) (hb0 : Nat) (hy0 : Nat) (hp0 : Nat) (hn0 : Nat) (hw0 : Nat) (hh0 : Nat) (aim : Nat) (aik : Nat) (tr : Int64) (aw : Nat) (wy : Int) (se : Int) (tu : Int) (wn : Int → Int) (al : Nat) (S : Int) (C : Int) (Wy : Int) (Li : Int) (St : Int) (ld : Int → Int) (w : Int) (hB : (2 ≤ S ∧ S ≤ 6) ∧ (C = 1 ∧ Wy = S ∨ C = 2 ∧ Wy = 2 * S)) (hw : 0 ≤ w ∧ w < Wy) : Met l yX8_asWay wsX8_asWay rmX8_asWay (wrP G [.ref hq0, .int (zI w)] [(hq0, .inr (8, [.ref hx0, .ref hr0, .ref hb0, .ref hy0, .ref hp0, .ref hn0, .ref hw0, .ref hh0, .ref aim, .ref aik, .long tr])), (hy0, .inr (2, [.int (zI wy), .int (zI se), .int (zI tu), .ref aw])), (aw, .inl (G.2.1, 12, .inl (aZ wn))), (hb0, .inr (0, [.int (zI S), .int (zI C), .int (zI Wy), .int (zI Li), .int (zI St), .ref al])), (al, .inl (G.2.1, 12, .inl (aZ ld)))]) (wrQ G [(hq0, .inr (8, [.ref hx0, .ref hr0, .ref hb0, .ref hy0, .ref hp0, .ref hn0, .ref hw0, .ref hh0, .ref aim, .ref aik, .long tr])), (hy0, .inr (2, [.int (zI wy), .int (zI se), .int (zI tu), .ref aw])), (aw, .inl (G.2.1, 12, .inl (aZ wn))), (hb0, .inr (0, [.int (zI S), .int (zI C), .int (zI Wy), .int (zI Li), .int (zI St), .ref al])), (al, .inl (G.2.1, 12, .inl (aZ ld)))] (fun (r_ : Int32) (u : Unit) => match u with | _ => r_ = zI (wn w) ∧ (True)) (fun (u : Unit) => match u with | _ => [(hq0, .inr (8, [.ref hx0, .ref hr0, .ref hb0, .ref hy0, .ref hp0, .ref hn0, .ref hw0, .ref hh0, .ref aim, .ref aik, .long (tr + cL1)])), (hy0, .inr (2, [.int (zI wy), .int (zI se), .int (zI tu), .ref aw])), (aw, .inl (G.2.1, 12, .inl (aZ wn))), (hb0, .inr (0, [.int (zI S), .int (zI C), .int (zI Wy), .int (zI Li), .int (zI St), .ref al])), (al, .inl (G.2.1, 12, .inl (aZ ld)))])) 0 0 (wrA [(hq0, .inr (8, [.ref hx0, .ref hr0, .ref hb0, .ref hy0, .ref hp0, .ref hn0, .ref hw0, .ref hh0, .ref aim, .ref aik, .long tr])), (hy0, .inr (2, [.int (zI wy), .int (zI se), .int (zI tu), .ref aw])), (aw, .inl (G.2.1, 12, .inl (aZ wn))), (hb0, .inr (0, [.int (zI S), .int (zI C), .int (zI Wy), .int (zI Li), .int (zI St), .ref al])), (al, .inl (G.2.1, 12, .inl (aZ ld)))]) := by
  refine wr_ofW (cc := cX8_asWay) (maxL := 2) (ty := .int) (by decide) rfl (Nat.le_of_ble_eq_true rfl) ?_
  intro p e s m below meth c Q A hx hb hml hown hts hK hret H locs hP hD hS ls hl
  have hown : s.vm.findClass RX8 = some m.cls := hown
  have hl : lv_has ls 2 [(0, .ref hq0), (1, .int (zI w))] := hl
  have f79 := hts (.fieldLink RX8 79 "QuarterTurns" "traced" "J") (by decide +kernel)
  have i8 : ∀ w ∈ wsX80, w ∈ wsX8_asWay := fun w h => List.mem_cons_of_mem _ (List.mem_append_left _ (List.mem_append_right _ h))
  have f35 := hts (.fieldLink RX8 35 "QuarterTurns" "lying" "LQuarterTurns$Lying;") (by decide +kernel)
  have f121 := hts (.fieldLink RX8 121 "QuarterTurns$Lying" "worn" "[I") (by decide +kernel)
  have i2 : ∀ w ∈ wsX20, w ∈ wsX8_asWay := fun w h => List.mem_cons_of_mem _ (List.mem_append_right _ h)
  refine lv_aload_n hx hb dX8_asWay_0 rfl (lv_at hl 0 rfl) ?_
  refine lv_dup hx hb dX8_asWay_1 rfl ?_
  refine va_get (ci := 8) (v := .long tr) (C := RX8) (T := TX8) (N := 11) hx hb hts i8 hown hK hP 0 rfl rfl 10 (by decide) f79 (fun _ h9 => h9) rfl dX8_asWay_2 ?_
  refine lv_lconst (v := cL1) hx hb dX8_asWay_5 rfl ?_
  refine lv_ladd hx hb dX8_asWay_6 ?_
  refine va_put (ci := 8) (v := .long (tr + cL1)) (ty := .long) (C := RX8) (T := TX8) (N := 11) hx hb hts i8 tyX8 tyX8_ok nmX8 hown hK hP hD hS 0 rfl rfl 10 (by decide) f79 (fun _ h9 => h9) rfl (tyX8_ok 10 (by decide)) rfl rfl (Nat.le_of_ble_eq_true rfl) dX8_asWay_7 (fun H locs hP hD hS => ?_)
  have hP : kP G [(hq0, .inr (8, [.ref hx0, .ref hr0, .ref hb0, .ref hy0, .ref hp0, .ref hn0, .ref hw0, .ref hh0, .ref aim, .ref aik, .long (tr + cL1)])), (hy0, .inr (2, [.int (zI wy), .int (zI se), .int (zI tu), .ref aw])), (aw, .inl (G.2.1, 12, .inl (aZ wn))), (hb0, .inr (0, [.int (zI S), .int (zI C), .int (zI Wy), .int (zI Li), .int (zI St), .ref al])), (al, .inl (G.2.1, 12, .inl (aZ ld)))] H := hP
  have hD : va_D A [(hq0, .inr (8, [.ref hx0, .ref hr0, .ref hb0, .ref hy0, .ref hp0, .ref hn0, .ref hw0, .ref hh0, .ref aim, .ref aik, .long (tr + cL1)])), (hy0, .inr (2, [.int (zI wy), .int (zI se), .int (zI tu), .ref aw])), (aw, .inl (G.2.1, 12, .inl (aZ wn))), (hb0, .inr (0, [.int (zI S), .int (zI C), .int (zI Wy), .int (zI Li), .int (zI St), .ref al])), (al, .inl (G.2.1, 12, .inl (aZ ld)))] := hD
  refine lv_aload_n hx hb dX8_asWay_10 rfl (lv_at hl 0 rfl) ?_
  refine va_get (ci := 8) (v := .ref hy0) (C := RX8) (T := TX8) (N := 11) hx hb hts i8 hown hK hP 0 rfl rfl 3 (by decide) f35 (fun _ h9 => h9) rfl dX8_asWay_11 ?_
  refine va_get (ci := 2) (v := .ref aw) (C := RX2) (T := TX2) (N := 4) hx hb hts i2 hown hK hP 1 rfl rfl 3 (by decide) f121 (fun _ h9 => h9) rfl dX8_asWay_14 ?_
  refine lv_iload_n hx hb dX8_asWay_17 rfl (lv_at hl 1 rfl) ?_
  refine z_iald (n := 12) (f := wn) hx hb hK hP 2 rfl (by omega) dX8_asWay_18 ?_
  exact hret H locs ls 19 _ () rfl ⟨congrArg zI (by rfl), by trivial⟩ hP hS dX8_asWay_19
theorem pd_X8_asEnd : yX8_asEnd.cls = RX8 ∧ yX8_asEnd.cls ≠ "java/lang/invoke/MethodHandle" ∧ yX8_asEnd.cls ≠ "java/lang/invoke/VarHandle" ∧ (parseMethodDescriptor yX8_asEnd.desc).map (fun d => d.parameters.length) = some 1 := by decide +kernel
abbrev rmX8_asEnd : Room := { frames := 1, cells := 0, slots := 0, locals := 21 }
set_option maxHeartbeats 4000000 in
set_option maxRecDepth 100000 in
theorem c_X8_asEnd (l : Launch) (G : CX) (hq0 : Nat) (hx0 : Nat) (hr0 : Nat) (hb0 : Nat) (hy0 : Nat) (hp0 : Nat) (hn0 : Nat) (hw0 : Nat) (hh0 : Nat) (aim : Nat) (aik : Nat) (tr : Int64) (aw : Nat) (wy : Int) (se : Int) (tu : Int) (wn : Int → Int) (al : Nat) (S : Int) (C : Int) (Wy : Int) (Li : Int) (St : Int) (ld : Int → Int) (w : Int) (hB : (2 ≤ S ∧ S ≤ 6) ∧ (C = 1 ∧ Wy = S ∨ C = 2 ∧ Wy = 2 * S)) (hw : 0 ≤ w ∧ w < Wy) : Met l yX8_asEnd wsX8_asEnd rmX8_asEnd (wrP G [.ref hq0, .int (zI w)] [(hq0, .inr (8, [.ref hx0, .ref hr0, .ref hb0, .ref hy0, .ref hp0, .ref hn0, .ref hw0, .ref hh0, .ref aim, .ref aik, .long tr])), (hy0, .inr (2, [.int (zI wy), .int (zI se), .int (zI tu), .ref aw])), (aw, .inl (G.2.1, 12, .inl (aZ wn))), (hb0, .inr (0, [.int (zI S), .int (zI C), .int (zI Wy), .int (zI Li), .int (zI St), .ref al])), (al, .inl (G.2.1, 12, .inl (aZ ld)))]) (wrQ G [(hq0, .inr (8, [.ref hx0, .ref hr0, .ref hb0, .ref hy0, .ref hp0, .ref hn0, .ref hw0, .ref hh0, .ref aim, .ref aik, .long tr])), (hy0, .inr (2, [.int (zI wy), .int (zI se), .int (zI tu), .ref aw])), (aw, .inl (G.2.1, 12, .inl (aZ wn))), (hb0, .inr (0, [.int (zI S), .int (zI C), .int (zI Wy), .int (zI Li), .int (zI St), .ref al])), (al, .inl (G.2.1, 12, .inl (aZ ld)))] (fun (r_ : Int32) (u : Unit) => match u with | _ => r_ = zI (wn w + ld w) ∧ (True)) (fun (u : Unit) => match u with | _ => [(hq0, .inr (8, [.ref hx0, .ref hr0, .ref hb0, .ref hy0, .ref hp0, .ref hn0, .ref hw0, .ref hh0, .ref aim, .ref aik, .long (tr + cL10 + cL1)])), (hy0, .inr (2, [.int (zI wy), .int (zI se), .int (zI tu), .ref aw])), (aw, .inl (G.2.1, 12, .inl (aZ wn))), (hb0, .inr (0, [.int (zI S), .int (zI C), .int (zI Wy), .int (zI Li), .int (zI St), .ref al])), (al, .inl (G.2.1, 12, .inl (aZ ld)))])) 0 0 (wrA [(hq0, .inr (8, [.ref hx0, .ref hr0, .ref hb0, .ref hy0, .ref hp0, .ref hn0, .ref hw0, .ref hh0, .ref aim, .ref aik, .long tr])), (hy0, .inr (2, [.int (zI wy), .int (zI se), .int (zI tu), .ref aw])), (aw, .inl (G.2.1, 12, .inl (aZ wn))), (hb0, .inr (0, [.int (zI S), .int (zI C), .int (zI Wy), .int (zI Li), .int (zI St), .ref al])), (al, .inl (G.2.1, 12, .inl (aZ ld)))]) := by
  refine wr_ofW (cc := cX8_asEnd) (maxL := 2) (ty := .int) (by decide) rfl (Nat.le_of_ble_eq_true rfl) ?_
  intro p e s m below meth c Q A hx hb hml hown hts hK hret H locs hP hD hS ls hl
  have hown : s.vm.findClass RX8 = some m.cls := hown
  have hl : lv_has ls 2 [(0, .ref hq0), (1, .int (zI w))] := hl
  have f79 := hts (.fieldLink RX8 79 "QuarterTurns" "traced" "J") (by decide +kernel)
  have i8 : ∀ w ∈ wsX80, w ∈ wsX8_asEnd := fun w h => List.mem_cons_of_mem _ (List.mem_append_left _ (List.mem_append_left _ (List.mem_append_right _ h)))
  have f28 := hts (.fieldLink RX8 28 "QuarterTurns" "bed" "LQuarterTurns$Bed;") (by decide +kernel)
  have f117 := hts (.fieldLink RX8 117 "QuarterTurns$Bed" "loads" "[I") (by decide +kernel)
  have i0 : ∀ w ∈ wsX00, w ∈ wsX8_asEnd := fun w h => List.mem_cons_of_mem _ (List.mem_append_left _ (List.mem_append_right _ h))
  refine lv_aload_n hx hb dX8_asEnd_0 rfl (lv_at hl 0 rfl) ?_
  refine lv_dup hx hb dX8_asEnd_1 rfl ?_
  refine va_get (ci := 8) (v := .long tr) (C := RX8) (T := TX8) (N := 11) hx hb hts i8 hown hK hP 0 rfl rfl 10 (by decide) f79 (fun _ h9 => h9) rfl dX8_asEnd_2 ?_
  refine lv_ldc2 (v := cL10) hx hb hown (hts (.constantLong RX8 252 (10)) (by decide +kernel)) dX8_asEnd_5 ?_
  refine lv_ladd hx hb dX8_asEnd_8 ?_
  refine va_put (ci := 8) (v := .long (tr + cL10)) (ty := .long) (C := RX8) (T := TX8) (N := 11) hx hb hts i8 tyX8 tyX8_ok nmX8 hown hK hP hD hS 0 rfl rfl 10 (by decide) f79 (fun _ h9 => h9) rfl (tyX8_ok 10 (by decide)) rfl rfl (Nat.le_of_ble_eq_true rfl) dX8_asEnd_9 (fun H locs hP hD hS => ?_)
  have hP : kP G [(hq0, .inr (8, [.ref hx0, .ref hr0, .ref hb0, .ref hy0, .ref hp0, .ref hn0, .ref hw0, .ref hh0, .ref aim, .ref aik, .long (tr + cL10)])), (hy0, .inr (2, [.int (zI wy), .int (zI se), .int (zI tu), .ref aw])), (aw, .inl (G.2.1, 12, .inl (aZ wn))), (hb0, .inr (0, [.int (zI S), .int (zI C), .int (zI Wy), .int (zI Li), .int (zI St), .ref al])), (al, .inl (G.2.1, 12, .inl (aZ ld)))] H := hP
  have hD : va_D A [(hq0, .inr (8, [.ref hx0, .ref hr0, .ref hb0, .ref hy0, .ref hp0, .ref hn0, .ref hw0, .ref hh0, .ref aim, .ref aik, .long (tr + cL10)])), (hy0, .inr (2, [.int (zI wy), .int (zI se), .int (zI tu), .ref aw])), (aw, .inl (G.2.1, 12, .inl (aZ wn))), (hb0, .inr (0, [.int (zI S), .int (zI C), .int (zI Wy), .int (zI Li), .int (zI St), .ref al])), (al, .inl (G.2.1, 12, .inl (aZ ld)))] := hD
  refine lv_aload_n hx hb dX8_asEnd_12 rfl (lv_at hl 0 rfl) ?_
  refine lv_iload_n hx hb dX8_asEnd_13 rfl (lv_at hl 1 rfl) ?_
  refine z_wV (As := [.int (zI w)]) (rest := []) ⟨hx, hb, hml, hown, hts⟩ (c_X8_asWay l G hq0 hx0 hr0 hb0 hy0 hp0 hn0 hw0 hh0 aim aik (tr + cL10) aw wy se tu wn al S C Wy Li St ld w (by first | assumption | omega) (by first | assumption | omega)) (cwV 1 hts gX8_asEnd_X8_asWay rfl rfl rfl pd_X8_asWay ⟨(Nat.le_of_ble_eq_true rfl), (Nat.le_of_ble_eq_true rfl)⟩) hK hP hD hS [0, 1, 2, 3, 4] (by decide) rfl rfl rfl rfl (fun _ => Eq.trans (b := [hq0, hy0, aw, hb0, al]) rfl rfl) rfl hl.1 rfl (Nat.le_of_ble_eq_true rfl) dX8_asEnd_14 ⟨Nat.zero_le _, Nat.zero_le _⟩ (fun r_ u_ H locs hw_1 hP hD hS => ?_)
  obtain ⟨rfl, hw_1⟩ := hw_1
  try dsimp only at hw_1
  have hP : kP G [(hq0, .inr (8, [.ref hx0, .ref hr0, .ref hb0, .ref hy0, .ref hp0, .ref hn0, .ref hw0, .ref hh0, .ref aim, .ref aik, .long ((tr + cL10) + cL1)])), (hy0, .inr (2, [.int (zI wy), .int (zI se), .int (zI tu), .ref aw])), (aw, .inl (G.2.1, 12, .inl (aZ wn))), (hb0, .inr (0, [.int (zI S), .int (zI C), .int (zI Wy), .int (zI Li), .int (zI St), .ref al])), (al, .inl (G.2.1, 12, .inl (aZ ld)))] H := hP
  have hD : va_D A [(hq0, .inr (8, [.ref hx0, .ref hr0, .ref hb0, .ref hy0, .ref hp0, .ref hn0, .ref hw0, .ref hh0, .ref aim, .ref aik, .long ((tr + cL10) + cL1)])), (hy0, .inr (2, [.int (zI wy), .int (zI se), .int (zI tu), .ref aw])), (aw, .inl (G.2.1, 12, .inl (aZ wn))), (hb0, .inr (0, [.int (zI S), .int (zI C), .int (zI Wy), .int (zI Li), .int (zI St), .ref al])), (al, .inl (G.2.1, 12, .inl (aZ ld)))] := hD
  refine lv_aload_n hx hb dX8_asEnd_17 rfl (lv_at hl 0 rfl) ?_
  refine va_get (ci := 8) (v := .ref hb0) (C := RX8) (T := TX8) (N := 11) hx hb hts i8 hown hK hP 0 rfl rfl 2 (by decide) f28 (fun _ h9 => h9) rfl dX8_asEnd_18 ?_
  refine va_get (ci := 0) (v := .ref al) (C := RX0) (T := TX0) (N := 6) hx hb hts i0 hown hK hP 3 rfl rfl 5 (by decide) f117 (fun _ h9 => h9) rfl dX8_asEnd_21 ?_
  refine lv_iload_n hx hb dX8_asEnd_24 rfl (lv_at hl 1 rfl) ?_
  refine z_iald (n := 12) (f := ld) hx hb hK hP 4 rfl (by omega) dX8_asEnd_25 ?_
  refine z_iadd hx hb dX8_asEnd_26 ?_
  exact hret H locs ls 27 _ () rfl ⟨congrArg zI (by rfl), by trivial⟩ hP hS dX8_asEnd_27
theorem pd_X8_asSide : yX8_asSide.cls = RX8 ∧ yX8_asSide.cls ≠ "java/lang/invoke/MethodHandle" ∧ yX8_asSide.cls ≠ "java/lang/invoke/VarHandle" ∧ (parseMethodDescriptor yX8_asSide.desc).map (fun d => d.parameters.length) = some 1 := by decide +kernel
abbrev rmX8_asSide : Room := { frames := 3, cells := 0, slots := 0, locals := 68 }
set_option maxHeartbeats 4000000 in
set_option maxRecDepth 100000 in
theorem c_X8_asSide (l : Launch) (G : CX) (hq0 : Nat) (hx0 : Nat) (hr0 : Nat) (hb0 : Nat) (hy0 : Nat) (hp0 : Nat) (hn0 : Nat) (hw0 : Nat) (hh0 : Nat) (aim : Nat) (aik : Nat) (tr : Int64) (aw : Nat) (wy : Int) (se : Int) (tu : Int) (wn : Int → Int) (al : Nat) (S : Int) (C : Int) (Wy : Int) (Li : Int) (St : Int) (ld : Int → Int) (w : Int) (hB : (2 ≤ S ∧ S ≤ 6) ∧ (C = 1 ∧ Wy = S ∨ C = 2 ∧ Wy = 2 * S)) (hw : 0 ≤ w ∧ w < Wy) : Met l yX8_asSide wsX8_asSide rmX8_asSide (wrP G [.ref hq0, .int (zI w)] [(hq0, .inr (8, [.ref hx0, .ref hr0, .ref hb0, .ref hy0, .ref hp0, .ref hn0, .ref hw0, .ref hh0, .ref aim, .ref aik, .long tr])), (hy0, .inr (2, [.int (zI wy), .int (zI se), .int (zI tu), .ref aw])), (aw, .inl (G.2.1, 12, .inl (aZ wn))), (hb0, .inr (0, [.int (zI S), .int (zI C), .int (zI Wy), .int (zI Li), .int (zI St), .ref al])), (al, .inl (G.2.1, 12, .inl (aZ ld)))]) (wrQ G [(hq0, .inr (8, [.ref hx0, .ref hr0, .ref hb0, .ref hy0, .ref hp0, .ref hn0, .ref hw0, .ref hh0, .ref aim, .ref aik, .long tr])), (hy0, .inr (2, [.int (zI wy), .int (zI se), .int (zI tu), .ref aw])), (aw, .inl (G.2.1, 12, .inl (aZ wn))), (hb0, .inr (0, [.int (zI S), .int (zI C), .int (zI Wy), .int (zI Li), .int (zI St), .ref al])), (al, .inl (G.2.1, 12, .inl (aZ ld)))] (fun (r_ : Int32) (u : Unit) => match u with | _ => r_ = zI (wn w - ordZ S w) ∧ (True)) (fun (u : Unit) => match u with | _ => [(hq0, .inr (8, [.ref hx0, .ref hr0, .ref hb0, .ref hy0, .ref hp0, .ref hn0, .ref hw0, .ref hh0, .ref aim, .ref aik, .long (tr + cL100 + cL1)])), (hy0, .inr (2, [.int (zI wy), .int (zI se), .int (zI tu), .ref aw])), (aw, .inl (G.2.1, 12, .inl (aZ wn))), (hb0, .inr (0, [.int (zI S), .int (zI C), .int (zI Wy), .int (zI Li), .int (zI St), .ref al])), (al, .inl (G.2.1, 12, .inl (aZ ld)))])) 0 0 (wrA [(hq0, .inr (8, [.ref hx0, .ref hr0, .ref hb0, .ref hy0, .ref hp0, .ref hn0, .ref hw0, .ref hh0, .ref aim, .ref aik, .long tr])), (hy0, .inr (2, [.int (zI wy), .int (zI se), .int (zI tu), .ref aw])), (aw, .inl (G.2.1, 12, .inl (aZ wn))), (hb0, .inr (0, [.int (zI S), .int (zI C), .int (zI Wy), .int (zI Li), .int (zI St), .ref al])), (al, .inl (G.2.1, 12, .inl (aZ ld)))]) := by
  refine wr_ofW (cc := cX8_asSide) (maxL := 2) (ty := .int) (by decide) rfl (Nat.le_of_ble_eq_true rfl) ?_
  intro p e s m below meth c Q A hx hb hml hown hts hK hret H locs hP hD hS ls hl
  have hown : s.vm.findClass RX8 = some m.cls := hown
  have hl : lv_has ls 2 [(0, .ref hq0), (1, .int (zI w))] := hl
  have f79 := hts (.fieldLink RX8 79 "QuarterTurns" "traced" "J") (by decide +kernel)
  have i8 : ∀ w ∈ wsX80, w ∈ wsX8_asSide := fun w h => List.mem_cons_of_mem _ (List.mem_append_left _ (List.mem_append_left _ (List.mem_append_right _ h)))
  have f28 := hts (.fieldLink RX8 28 "QuarterTurns" "bed" "LQuarterTurns$Bed;") (by decide +kernel)
  refine lv_aload_n hx hb dX8_asSide_0 rfl (lv_at hl 0 rfl) ?_
  refine lv_dup hx hb dX8_asSide_1 rfl ?_
  refine va_get (ci := 8) (v := .long tr) (C := RX8) (T := TX8) (N := 11) hx hb hts i8 hown hK hP 0 rfl rfl 10 (by decide) f79 (fun _ h9 => h9) rfl dX8_asSide_2 ?_
  refine lv_ldc2 (v := cL100) hx hb hown (hts (.constantLong RX8 254 (100)) (by decide +kernel)) dX8_asSide_5 ?_
  refine lv_ladd hx hb dX8_asSide_8 ?_
  refine va_put (ci := 8) (v := .long (tr + cL100)) (ty := .long) (C := RX8) (T := TX8) (N := 11) hx hb hts i8 tyX8 tyX8_ok nmX8 hown hK hP hD hS 0 rfl rfl 10 (by decide) f79 (fun _ h9 => h9) rfl (tyX8_ok 10 (by decide)) rfl rfl (Nat.le_of_ble_eq_true rfl) dX8_asSide_9 (fun H locs hP hD hS => ?_)
  have hP : kP G [(hq0, .inr (8, [.ref hx0, .ref hr0, .ref hb0, .ref hy0, .ref hp0, .ref hn0, .ref hw0, .ref hh0, .ref aim, .ref aik, .long (tr + cL100)])), (hy0, .inr (2, [.int (zI wy), .int (zI se), .int (zI tu), .ref aw])), (aw, .inl (G.2.1, 12, .inl (aZ wn))), (hb0, .inr (0, [.int (zI S), .int (zI C), .int (zI Wy), .int (zI Li), .int (zI St), .ref al])), (al, .inl (G.2.1, 12, .inl (aZ ld)))] H := hP
  have hD : va_D A [(hq0, .inr (8, [.ref hx0, .ref hr0, .ref hb0, .ref hy0, .ref hp0, .ref hn0, .ref hw0, .ref hh0, .ref aim, .ref aik, .long (tr + cL100)])), (hy0, .inr (2, [.int (zI wy), .int (zI se), .int (zI tu), .ref aw])), (aw, .inl (G.2.1, 12, .inl (aZ wn))), (hb0, .inr (0, [.int (zI S), .int (zI C), .int (zI Wy), .int (zI Li), .int (zI St), .ref al])), (al, .inl (G.2.1, 12, .inl (aZ ld)))] := hD
  refine lv_aload_n hx hb dX8_asSide_12 rfl (lv_at hl 0 rfl) ?_
  refine lv_iload_n hx hb dX8_asSide_13 rfl (lv_at hl 1 rfl) ?_
  refine z_wV (As := [.int (zI w)]) (rest := []) ⟨hx, hb, hml, hown, hts⟩ (c_X8_asWay l G hq0 hx0 hr0 hb0 hy0 hp0 hn0 hw0 hh0 aim aik (tr + cL100) aw wy se tu wn al S C Wy Li St ld w (by first | assumption | omega) (by first | assumption | omega)) (cwV 1 hts gX8_asSide_X8_asWay rfl rfl rfl pd_X8_asWay ⟨(Nat.le_of_ble_eq_true rfl), (Nat.le_of_ble_eq_true rfl)⟩) hK hP hD hS [0, 1, 2, 3, 4] (by decide) rfl rfl rfl rfl (fun _ => Eq.trans (b := [hq0, hy0, aw, hb0, al]) rfl rfl) rfl hl.1 rfl (Nat.le_of_ble_eq_true rfl) dX8_asSide_14 ⟨Nat.zero_le _, Nat.zero_le _⟩ (fun r_ u_ H locs hw_1 hP hD hS => ?_)
  obtain ⟨rfl, hw_1⟩ := hw_1
  try dsimp only at hw_1
  have hP : kP G [(hq0, .inr (8, [.ref hx0, .ref hr0, .ref hb0, .ref hy0, .ref hp0, .ref hn0, .ref hw0, .ref hh0, .ref aim, .ref aik, .long ((tr + cL100) + cL1)])), (hy0, .inr (2, [.int (zI wy), .int (zI se), .int (zI tu), .ref aw])), (aw, .inl (G.2.1, 12, .inl (aZ wn))), (hb0, .inr (0, [.int (zI S), .int (zI C), .int (zI Wy), .int (zI Li), .int (zI St), .ref al])), (al, .inl (G.2.1, 12, .inl (aZ ld)))] H := hP
  have hD : va_D A [(hq0, .inr (8, [.ref hx0, .ref hr0, .ref hb0, .ref hy0, .ref hp0, .ref hn0, .ref hw0, .ref hh0, .ref aim, .ref aik, .long ((tr + cL100) + cL1)])), (hy0, .inr (2, [.int (zI wy), .int (zI se), .int (zI tu), .ref aw])), (aw, .inl (G.2.1, 12, .inl (aZ wn))), (hb0, .inr (0, [.int (zI S), .int (zI C), .int (zI Wy), .int (zI Li), .int (zI St), .ref al])), (al, .inl (G.2.1, 12, .inl (aZ ld)))] := hD
  refine lv_aload_n hx hb dX8_asSide_17 rfl (lv_at hl 0 rfl) ?_
  refine va_get (ci := 8) (v := .ref hb0) (C := RX8) (T := TX8) (N := 11) hx hb hts i8 hown hK hP 0 rfl rfl 2 (by decide) f28 (fun _ h9 => h9) rfl dX8_asSide_18 ?_
  refine lv_iload_n hx hb dX8_asSide_21 rfl (lv_at hl 1 rfl) ?_
  refine z_cV (As := [.int (zI w)]) (rest := [.int (zI (wn w))]) ⟨hx, hb, hml, hown, hts⟩ (c_X0_orderOf l G hb0 al S C Wy Li St w (by first | assumption | omega) (by first | assumption | omega)) (cwV 1 hts gX8_asSide_X0_orderOf rfl rfl rfl pd_X0_orderOf ⟨(Nat.le_of_ble_eq_true rfl), (Nat.le_of_ble_eq_true rfl)⟩) hK hP hS [3] rfl rfl rfl rfl rfl hl.1 rfl (Nat.le_of_ble_eq_true rfl) dX8_asSide_22 ⟨Nat.zero_le _, Nat.zero_le _⟩ (fun H locs hP hS => ?_)
  have hq_2 := ordZ_rng S w
  refine z_isub hx hb dX8_asSide_25 ?_
  exact hret H locs ls 26 _ () rfl ⟨congrArg zI (by rfl), by trivial⟩ hP hS dX8_asSide_26
theorem pd_X8_asHead : yX8_asHead.cls = RX8 ∧ yX8_asHead.cls ≠ "java/lang/invoke/MethodHandle" ∧ yX8_asHead.cls ≠ "java/lang/invoke/VarHandle" ∧ (parseMethodDescriptor yX8_asHead.desc).map (fun d => d.parameters.length) = some 1 := by decide +kernel
abbrev rmX8_asHead : Room := { frames := 2, cells := 0, slots := 0, locals := 42 }
set_option maxHeartbeats 4000000 in
set_option maxRecDepth 100000 in
theorem c_X8_asHead (l : Launch) (G : CX) (hq0 : Nat) (hx0 : Nat) (hr0 : Nat) (hb0 : Nat) (hy0 : Nat) (hp0 : Nat) (hn0 : Nat) (hw0 : Nat) (hh0 : Nat) (aim : Nat) (aik : Nat) (tr : Int64) (aw : Nat) (wy : Int) (se : Int) (tu : Int) (wn : Int → Int) (al : Nat) (S : Int) (C : Int) (Wy : Int) (Li : Int) (St : Int) (ld : Int → Int) (w : Int) (hB : (2 ≤ S ∧ S ≤ 6) ∧ (C = 1 ∧ Wy = S ∨ C = 2 ∧ Wy = 2 * S)) (hw : 0 ≤ w ∧ w < Wy) : Met l yX8_asHead wsX8_asHead rmX8_asHead (wrP G [.ref hq0, .int (zI w)] [(hq0, .inr (8, [.ref hx0, .ref hr0, .ref hb0, .ref hy0, .ref hp0, .ref hn0, .ref hw0, .ref hh0, .ref aim, .ref aik, .long tr])), (hy0, .inr (2, [.int (zI wy), .int (zI se), .int (zI tu), .ref aw])), (aw, .inl (G.2.1, 12, .inl (aZ wn))), (hb0, .inr (0, [.int (zI S), .int (zI C), .int (zI Wy), .int (zI Li), .int (zI St), .ref al])), (al, .inl (G.2.1, 12, .inl (aZ ld)))]) (wrQ G [(hq0, .inr (8, [.ref hx0, .ref hr0, .ref hb0, .ref hy0, .ref hp0, .ref hn0, .ref hw0, .ref hh0, .ref aim, .ref aik, .long tr])), (hy0, .inr (2, [.int (zI wy), .int (zI se), .int (zI tu), .ref aw])), (aw, .inl (G.2.1, 12, .inl (aZ wn))), (hb0, .inr (0, [.int (zI S), .int (zI C), .int (zI Wy), .int (zI Li), .int (zI St), .ref al])), (al, .inl (G.2.1, 12, .inl (aZ ld)))] (fun (r_ : Int32) (u : Unit) => match u with | _ => r_ = zI (2 * (wn w + ld w)) ∧ (True)) (fun (u : Unit) => match u with | _ => [(hq0, .inr (8, [.ref hx0, .ref hr0, .ref hb0, .ref hy0, .ref hp0, .ref hn0, .ref hw0, .ref hh0, .ref aim, .ref aik, .long (tr + cL1000 + cL10 + cL1)])), (hy0, .inr (2, [.int (zI wy), .int (zI se), .int (zI tu), .ref aw])), (aw, .inl (G.2.1, 12, .inl (aZ wn))), (hb0, .inr (0, [.int (zI S), .int (zI C), .int (zI Wy), .int (zI Li), .int (zI St), .ref al])), (al, .inl (G.2.1, 12, .inl (aZ ld)))])) 0 0 (wrA [(hq0, .inr (8, [.ref hx0, .ref hr0, .ref hb0, .ref hy0, .ref hp0, .ref hn0, .ref hw0, .ref hh0, .ref aim, .ref aik, .long tr])), (hy0, .inr (2, [.int (zI wy), .int (zI se), .int (zI tu), .ref aw])), (aw, .inl (G.2.1, 12, .inl (aZ wn))), (hb0, .inr (0, [.int (zI S), .int (zI C), .int (zI Wy), .int (zI Li), .int (zI St), .ref al])), (al, .inl (G.2.1, 12, .inl (aZ ld)))]) := by
  refine wr_ofW (cc := cX8_asHead) (maxL := 2) (ty := .int) (by decide) rfl (Nat.le_of_ble_eq_true rfl) ?_
  intro p e s m below meth c Q A hx hb hml hown hts hK hret H locs hP hD hS ls hl
  have hown : s.vm.findClass RX8 = some m.cls := hown
  have hl : lv_has ls 2 [(0, .ref hq0), (1, .int (zI w))] := hl
  have f79 := hts (.fieldLink RX8 79 "QuarterTurns" "traced" "J") (by decide +kernel)
  have i8 : ∀ w ∈ wsX80, w ∈ wsX8_asHead := fun w h => List.mem_cons_of_mem _ (List.mem_append_left _ (List.mem_append_left _ (List.mem_append_right _ h)))
  refine lv_aload_n hx hb dX8_asHead_0 rfl (lv_at hl 0 rfl) ?_
  refine lv_dup hx hb dX8_asHead_1 rfl ?_
  refine va_get (ci := 8) (v := .long tr) (C := RX8) (T := TX8) (N := 11) hx hb hts i8 hown hK hP 0 rfl rfl 10 (by decide) f79 (fun _ h9 => h9) rfl dX8_asHead_2 ?_
  refine lv_ldc2 (v := cL1000) hx hb hown (hts (.constantLong RX8 256 (1000)) (by decide +kernel)) dX8_asHead_5 ?_
  refine lv_ladd hx hb dX8_asHead_8 ?_
  refine va_put (ci := 8) (v := .long (tr + cL1000)) (ty := .long) (C := RX8) (T := TX8) (N := 11) hx hb hts i8 tyX8 tyX8_ok nmX8 hown hK hP hD hS 0 rfl rfl 10 (by decide) f79 (fun _ h9 => h9) rfl (tyX8_ok 10 (by decide)) rfl rfl (Nat.le_of_ble_eq_true rfl) dX8_asHead_9 (fun H locs hP hD hS => ?_)
  have hP : kP G [(hq0, .inr (8, [.ref hx0, .ref hr0, .ref hb0, .ref hy0, .ref hp0, .ref hn0, .ref hw0, .ref hh0, .ref aim, .ref aik, .long (tr + cL1000)])), (hy0, .inr (2, [.int (zI wy), .int (zI se), .int (zI tu), .ref aw])), (aw, .inl (G.2.1, 12, .inl (aZ wn))), (hb0, .inr (0, [.int (zI S), .int (zI C), .int (zI Wy), .int (zI Li), .int (zI St), .ref al])), (al, .inl (G.2.1, 12, .inl (aZ ld)))] H := hP
  have hD : va_D A [(hq0, .inr (8, [.ref hx0, .ref hr0, .ref hb0, .ref hy0, .ref hp0, .ref hn0, .ref hw0, .ref hh0, .ref aim, .ref aik, .long (tr + cL1000)])), (hy0, .inr (2, [.int (zI wy), .int (zI se), .int (zI tu), .ref aw])), (aw, .inl (G.2.1, 12, .inl (aZ wn))), (hb0, .inr (0, [.int (zI S), .int (zI C), .int (zI Wy), .int (zI Li), .int (zI St), .ref al])), (al, .inl (G.2.1, 12, .inl (aZ ld)))] := hD
  refine lv_iconst (v := zI 2) hx hb dX8_asHead_12 rfl ?_
  refine lv_aload_n hx hb dX8_asHead_13 rfl (lv_at hl 0 rfl) ?_
  refine lv_iload_n hx hb dX8_asHead_14 rfl (lv_at hl 1 rfl) ?_
  refine z_wV (As := [.int (zI w)]) (rest := [.int (zI 2)]) ⟨hx, hb, hml, hown, hts⟩ (c_X8_asEnd l G hq0 hx0 hr0 hb0 hy0 hp0 hn0 hw0 hh0 aim aik (tr + cL1000) aw wy se tu wn al S C Wy Li St ld w (by first | assumption | omega) (by first | assumption | omega)) (cwV 1 hts gX8_asHead_X8_asEnd rfl rfl rfl pd_X8_asEnd ⟨(Nat.le_of_ble_eq_true rfl), (Nat.le_of_ble_eq_true rfl)⟩) hK hP hD hS [0, 1, 2, 3, 4] (by decide) rfl rfl rfl rfl (fun _ => Eq.trans (b := [hq0, hy0, aw, hb0, al]) rfl rfl) rfl hl.1 rfl (Nat.le_of_ble_eq_true rfl) dX8_asHead_15 ⟨Nat.zero_le _, Nat.zero_le _⟩ (fun r_ u_ H locs hw_1 hP hD hS => ?_)
  obtain ⟨rfl, hw_1⟩ := hw_1
  try dsimp only at hw_1
  have hP : kP G [(hq0, .inr (8, [.ref hx0, .ref hr0, .ref hb0, .ref hy0, .ref hp0, .ref hn0, .ref hw0, .ref hh0, .ref aim, .ref aik, .long ((tr + cL1000) + cL10 + cL1)])), (hy0, .inr (2, [.int (zI wy), .int (zI se), .int (zI tu), .ref aw])), (aw, .inl (G.2.1, 12, .inl (aZ wn))), (hb0, .inr (0, [.int (zI S), .int (zI C), .int (zI Wy), .int (zI Li), .int (zI St), .ref al])), (al, .inl (G.2.1, 12, .inl (aZ ld)))] H := hP
  have hD : va_D A [(hq0, .inr (8, [.ref hx0, .ref hr0, .ref hb0, .ref hy0, .ref hp0, .ref hn0, .ref hw0, .ref hh0, .ref aim, .ref aik, .long ((tr + cL1000) + cL10 + cL1)])), (hy0, .inr (2, [.int (zI wy), .int (zI se), .int (zI tu), .ref aw])), (aw, .inl (G.2.1, 12, .inl (aZ wn))), (hb0, .inr (0, [.int (zI S), .int (zI C), .int (zI Wy), .int (zI Li), .int (zI St), .ref al])), (al, .inl (G.2.1, 12, .inl (aZ ld)))] := hD
  refine z_imul hx hb dX8_asHead_18 ?_
  exact hret H locs ls 19 _ () rfl ⟨congrArg zI (by rfl), by trivial⟩ hP hS dX8_asHead_19
theorem pd_X8_asFoot : yX8_asFoot.cls = RX8 ∧ yX8_asFoot.cls ≠ "java/lang/invoke/MethodHandle" ∧ yX8_asFoot.cls ≠ "java/lang/invoke/VarHandle" ∧ (parseMethodDescriptor yX8_asFoot.desc).map (fun d => d.parameters.length) = some 1 := by decide +kernel
abbrev rmX8_asFoot : Room := { frames := 4, cells := 0, slots := 0, locals := 89 }
set_option maxHeartbeats 4000000 in
set_option maxRecDepth 100000 in
theorem c_X8_asFoot (l : Launch) (G : CX) (hq0 : Nat) (hx0 : Nat) (hr0 : Nat) (hb0 : Nat) (hy0 : Nat) (hp0 : Nat) (hn0 : Nat) (hw0 : Nat) (hh0 : Nat) (aim : Nat) (aik : Nat) (tr : Int64) (aw : Nat) (wy : Int) (se : Int) (tu : Int) (wn : Int → Int) (al : Nat) (S : Int) (C : Int) (Wy : Int) (Li : Int) (St : Int) (ld : Int → Int) (w : Int) (hB : (2 ≤ S ∧ S ≤ 6) ∧ (C = 1 ∧ Wy = S ∨ C = 2 ∧ Wy = 2 * S)) (hw : 0 ≤ w ∧ w < Wy) : Met l yX8_asFoot wsX8_asFoot rmX8_asFoot (wrP G [.ref hq0, .int (zI w)] [(hq0, .inr (8, [.ref hx0, .ref hr0, .ref hb0, .ref hy0, .ref hp0, .ref hn0, .ref hw0, .ref hh0, .ref aim, .ref aik, .long tr])), (hy0, .inr (2, [.int (zI wy), .int (zI se), .int (zI tu), .ref aw])), (aw, .inl (G.2.1, 12, .inl (aZ wn))), (hb0, .inr (0, [.int (zI S), .int (zI C), .int (zI Wy), .int (zI Li), .int (zI St), .ref al])), (al, .inl (G.2.1, 12, .inl (aZ ld)))]) (wrQ G [(hq0, .inr (8, [.ref hx0, .ref hr0, .ref hb0, .ref hy0, .ref hp0, .ref hn0, .ref hw0, .ref hh0, .ref aim, .ref aik, .long tr])), (hy0, .inr (2, [.int (zI wy), .int (zI se), .int (zI tu), .ref aw])), (aw, .inl (G.2.1, 12, .inl (aZ wn))), (hb0, .inr (0, [.int (zI S), .int (zI C), .int (zI Wy), .int (zI Li), .int (zI St), .ref al])), (al, .inl (G.2.1, 12, .inl (aZ ld)))] (fun (r_ : Int32) (u : Unit) => match u with | _ => r_ = zI (wn w - ordZ S w + w) ∧ (True)) (fun (u : Unit) => match u with | _ => [(hq0, .inr (8, [.ref hx0, .ref hr0, .ref hb0, .ref hy0, .ref hp0, .ref hn0, .ref hw0, .ref hh0, .ref aim, .ref aik, .long (tr + cL10000 + cL100 + cL1)])), (hy0, .inr (2, [.int (zI wy), .int (zI se), .int (zI tu), .ref aw])), (aw, .inl (G.2.1, 12, .inl (aZ wn))), (hb0, .inr (0, [.int (zI S), .int (zI C), .int (zI Wy), .int (zI Li), .int (zI St), .ref al])), (al, .inl (G.2.1, 12, .inl (aZ ld)))])) 0 0 (wrA [(hq0, .inr (8, [.ref hx0, .ref hr0, .ref hb0, .ref hy0, .ref hp0, .ref hn0, .ref hw0, .ref hh0, .ref aim, .ref aik, .long tr])), (hy0, .inr (2, [.int (zI wy), .int (zI se), .int (zI tu), .ref aw])), (aw, .inl (G.2.1, 12, .inl (aZ wn))), (hb0, .inr (0, [.int (zI S), .int (zI C), .int (zI Wy), .int (zI Li), .int (zI St), .ref al])), (al, .inl (G.2.1, 12, .inl (aZ ld)))]) := by
  refine wr_ofW (cc := cX8_asFoot) (maxL := 2) (ty := .int) (by decide) rfl (Nat.le_of_ble_eq_true rfl) ?_
  intro p e s m below meth c Q A hx hb hml hown hts hK hret H locs hP hD hS ls hl
  have hown : s.vm.findClass RX8 = some m.cls := hown
  have hl : lv_has ls 2 [(0, .ref hq0), (1, .int (zI w))] := hl
  have f79 := hts (.fieldLink RX8 79 "QuarterTurns" "traced" "J") (by decide +kernel)
  have i8 : ∀ w ∈ wsX80, w ∈ wsX8_asFoot := fun w h => List.mem_cons_of_mem _ (List.mem_append_left _ (List.mem_append_left _ (List.mem_append_right _ h)))
  refine lv_aload_n hx hb dX8_asFoot_0 rfl (lv_at hl 0 rfl) ?_
  refine lv_dup hx hb dX8_asFoot_1 rfl ?_
  refine va_get (ci := 8) (v := .long tr) (C := RX8) (T := TX8) (N := 11) hx hb hts i8 hown hK hP 0 rfl rfl 10 (by decide) f79 (fun _ h9 => h9) rfl dX8_asFoot_2 ?_
  refine lv_ldc2 (v := cL10000) hx hb hown (hts (.constantLong RX8 258 (10000)) (by decide +kernel)) dX8_asFoot_5 ?_
  refine lv_ladd hx hb dX8_asFoot_8 ?_
  refine va_put (ci := 8) (v := .long (tr + cL10000)) (ty := .long) (C := RX8) (T := TX8) (N := 11) hx hb hts i8 tyX8 tyX8_ok nmX8 hown hK hP hD hS 0 rfl rfl 10 (by decide) f79 (fun _ h9 => h9) rfl (tyX8_ok 10 (by decide)) rfl rfl (Nat.le_of_ble_eq_true rfl) dX8_asFoot_9 (fun H locs hP hD hS => ?_)
  have hP : kP G [(hq0, .inr (8, [.ref hx0, .ref hr0, .ref hb0, .ref hy0, .ref hp0, .ref hn0, .ref hw0, .ref hh0, .ref aim, .ref aik, .long (tr + cL10000)])), (hy0, .inr (2, [.int (zI wy), .int (zI se), .int (zI tu), .ref aw])), (aw, .inl (G.2.1, 12, .inl (aZ wn))), (hb0, .inr (0, [.int (zI S), .int (zI C), .int (zI Wy), .int (zI Li), .int (zI St), .ref al])), (al, .inl (G.2.1, 12, .inl (aZ ld)))] H := hP
  have hD : va_D A [(hq0, .inr (8, [.ref hx0, .ref hr0, .ref hb0, .ref hy0, .ref hp0, .ref hn0, .ref hw0, .ref hh0, .ref aim, .ref aik, .long (tr + cL10000)])), (hy0, .inr (2, [.int (zI wy), .int (zI se), .int (zI tu), .ref aw])), (aw, .inl (G.2.1, 12, .inl (aZ wn))), (hb0, .inr (0, [.int (zI S), .int (zI C), .int (zI Wy), .int (zI Li), .int (zI St), .ref al])), (al, .inl (G.2.1, 12, .inl (aZ ld)))] := hD
  refine lv_aload_n hx hb dX8_asFoot_12 rfl (lv_at hl 0 rfl) ?_
  refine lv_iload_n hx hb dX8_asFoot_13 rfl (lv_at hl 1 rfl) ?_
  refine z_wV (As := [.int (zI w)]) (rest := []) ⟨hx, hb, hml, hown, hts⟩ (c_X8_asSide l G hq0 hx0 hr0 hb0 hy0 hp0 hn0 hw0 hh0 aim aik (tr + cL10000) aw wy se tu wn al S C Wy Li St ld w (by first | assumption | omega) (by first | assumption | omega)) (cwV 1 hts gX8_asFoot_X8_asSide rfl rfl rfl pd_X8_asSide ⟨(Nat.le_of_ble_eq_true rfl), (Nat.le_of_ble_eq_true rfl)⟩) hK hP hD hS [0, 1, 2, 3, 4] (by decide) rfl rfl rfl rfl (fun _ => Eq.trans (b := [hq0, hy0, aw, hb0, al]) rfl rfl) rfl hl.1 rfl (Nat.le_of_ble_eq_true rfl) dX8_asFoot_14 ⟨Nat.zero_le _, Nat.zero_le _⟩ (fun r_ u_ H locs hw_1 hP hD hS => ?_)
  obtain ⟨rfl, hw_1⟩ := hw_1
  try dsimp only at hw_1
  have hP : kP G [(hq0, .inr (8, [.ref hx0, .ref hr0, .ref hb0, .ref hy0, .ref hp0, .ref hn0, .ref hw0, .ref hh0, .ref aim, .ref aik, .long ((tr + cL10000) + cL100 + cL1)])), (hy0, .inr (2, [.int (zI wy), .int (zI se), .int (zI tu), .ref aw])), (aw, .inl (G.2.1, 12, .inl (aZ wn))), (hb0, .inr (0, [.int (zI S), .int (zI C), .int (zI Wy), .int (zI Li), .int (zI St), .ref al])), (al, .inl (G.2.1, 12, .inl (aZ ld)))] H := hP
  have hD : va_D A [(hq0, .inr (8, [.ref hx0, .ref hr0, .ref hb0, .ref hy0, .ref hp0, .ref hn0, .ref hw0, .ref hh0, .ref aim, .ref aik, .long ((tr + cL10000) + cL100 + cL1)])), (hy0, .inr (2, [.int (zI wy), .int (zI se), .int (zI tu), .ref aw])), (aw, .inl (G.2.1, 12, .inl (aZ wn))), (hb0, .inr (0, [.int (zI S), .int (zI C), .int (zI Wy), .int (zI Li), .int (zI St), .ref al])), (al, .inl (G.2.1, 12, .inl (aZ ld)))] := hD
  refine lv_iload_n hx hb dX8_asFoot_17 rfl (lv_at hl 1 rfl) ?_
  refine z_iadd hx hb dX8_asFoot_18 ?_
  exact hret H locs ls 19 _ () rfl ⟨congrArg zI (by rfl), by trivial⟩ hP hS dX8_asFoot_19
theorem pd_X8_asHollow : yX8_asHollow.cls = RX8 ∧ yX8_asHollow.cls ≠ "java/lang/invoke/MethodHandle" ∧ yX8_asHollow.cls ≠ "java/lang/invoke/VarHandle" ∧ (parseMethodDescriptor yX8_asHollow.desc).map (fun d => d.parameters.length) = some 1 := by decide +kernel
abbrev rmX8_asHollow : Room := { frames := 1, cells := 0, slots := 0, locals := 21 }
set_option maxHeartbeats 4000000 in
set_option maxRecDepth 100000 in
theorem c_X8_asHollow (l : Launch) (G : CX) (hq0 : Nat) (hx0 : Nat) (hr0 : Nat) (hb0 : Nat) (hy0 : Nat) (hp0 : Nat) (hn0 : Nat) (hw0 : Nat) (hh0 : Nat) (aim : Nat) (aik : Nat) (tr : Int64) (aw : Nat) (wy : Int) (se : Int) (tu : Int) (wn : Int → Int) (al : Nat) (S : Int) (C : Int) (Wy : Int) (Li : Int) (St : Int) (ld : Int → Int) (w : Int) (hB : (2 ≤ S ∧ S ≤ 6) ∧ (C = 1 ∧ Wy = S ∨ C = 2 ∧ Wy = 2 * S)) (hw : 0 ≤ w ∧ w < Wy) : Met l yX8_asHollow wsX8_asHollow rmX8_asHollow (wrP G [.ref hq0, .int (zI w)] [(hq0, .inr (8, [.ref hx0, .ref hr0, .ref hb0, .ref hy0, .ref hp0, .ref hn0, .ref hw0, .ref hh0, .ref aim, .ref aik, .long tr])), (hy0, .inr (2, [.int (zI wy), .int (zI se), .int (zI tu), .ref aw])), (aw, .inl (G.2.1, 12, .inl (aZ wn))), (hb0, .inr (0, [.int (zI S), .int (zI C), .int (zI Wy), .int (zI Li), .int (zI St), .ref al])), (al, .inl (G.2.1, 12, .inl (aZ ld)))]) (wrQ G [(hq0, .inr (8, [.ref hx0, .ref hr0, .ref hb0, .ref hy0, .ref hp0, .ref hn0, .ref hw0, .ref hh0, .ref aim, .ref aik, .long tr])), (hy0, .inr (2, [.int (zI wy), .int (zI se), .int (zI tu), .ref aw])), (aw, .inl (G.2.1, 12, .inl (aZ wn))), (hb0, .inr (0, [.int (zI S), .int (zI C), .int (zI Wy), .int (zI Li), .int (zI St), .ref al])), (al, .inl (G.2.1, 12, .inl (aZ ld)))] (fun (r_ : Int32) (u : Unit) => match u with | _ => r_ = zI (wn w + se) ∧ (True)) (fun (u : Unit) => match u with | _ => [(hq0, .inr (8, [.ref hx0, .ref hr0, .ref hb0, .ref hy0, .ref hp0, .ref hn0, .ref hw0, .ref hh0, .ref aim, .ref aik, .long (tr + cL100000 + cL1)])), (hy0, .inr (2, [.int (zI wy), .int (zI se), .int (zI tu), .ref aw])), (aw, .inl (G.2.1, 12, .inl (aZ wn))), (hb0, .inr (0, [.int (zI S), .int (zI C), .int (zI Wy), .int (zI Li), .int (zI St), .ref al])), (al, .inl (G.2.1, 12, .inl (aZ ld)))])) 0 0 (wrA [(hq0, .inr (8, [.ref hx0, .ref hr0, .ref hb0, .ref hy0, .ref hp0, .ref hn0, .ref hw0, .ref hh0, .ref aim, .ref aik, .long tr])), (hy0, .inr (2, [.int (zI wy), .int (zI se), .int (zI tu), .ref aw])), (aw, .inl (G.2.1, 12, .inl (aZ wn))), (hb0, .inr (0, [.int (zI S), .int (zI C), .int (zI Wy), .int (zI Li), .int (zI St), .ref al])), (al, .inl (G.2.1, 12, .inl (aZ ld)))]) := by
  refine wr_ofW (cc := cX8_asHollow) (maxL := 2) (ty := .int) (by decide) rfl (Nat.le_of_ble_eq_true rfl) ?_
  intro p e s m below meth c Q A hx hb hml hown hts hK hret H locs hP hD hS ls hl
  have hown : s.vm.findClass RX8 = some m.cls := hown
  have hl : lv_has ls 2 [(0, .ref hq0), (1, .int (zI w))] := hl
  have f79 := hts (.fieldLink RX8 79 "QuarterTurns" "traced" "J") (by decide +kernel)
  have i8 : ∀ w ∈ wsX80, w ∈ wsX8_asHollow := fun w h => List.mem_cons_of_mem _ (List.mem_append_left _ (List.mem_append_right _ h))
  have f35 := hts (.fieldLink RX8 35 "QuarterTurns" "lying" "LQuarterTurns$Lying;") (by decide +kernel)
  have f128 := hts (.fieldLink RX8 128 "QuarterTurns$Lying" "seasons" "I") (by decide +kernel)
  have i2 : ∀ w ∈ wsX20, w ∈ wsX8_asHollow := fun w h => List.mem_cons_of_mem _ (List.mem_append_right _ h)
  refine lv_aload_n hx hb dX8_asHollow_0 rfl (lv_at hl 0 rfl) ?_
  refine lv_dup hx hb dX8_asHollow_1 rfl ?_
  refine va_get (ci := 8) (v := .long tr) (C := RX8) (T := TX8) (N := 11) hx hb hts i8 hown hK hP 0 rfl rfl 10 (by decide) f79 (fun _ h9 => h9) rfl dX8_asHollow_2 ?_
  refine lv_ldc2 (v := cL100000) hx hb hown (hts (.constantLong RX8 260 (100000)) (by decide +kernel)) dX8_asHollow_5 ?_
  refine lv_ladd hx hb dX8_asHollow_8 ?_
  refine va_put (ci := 8) (v := .long (tr + cL100000)) (ty := .long) (C := RX8) (T := TX8) (N := 11) hx hb hts i8 tyX8 tyX8_ok nmX8 hown hK hP hD hS 0 rfl rfl 10 (by decide) f79 (fun _ h9 => h9) rfl (tyX8_ok 10 (by decide)) rfl rfl (Nat.le_of_ble_eq_true rfl) dX8_asHollow_9 (fun H locs hP hD hS => ?_)
  have hP : kP G [(hq0, .inr (8, [.ref hx0, .ref hr0, .ref hb0, .ref hy0, .ref hp0, .ref hn0, .ref hw0, .ref hh0, .ref aim, .ref aik, .long (tr + cL100000)])), (hy0, .inr (2, [.int (zI wy), .int (zI se), .int (zI tu), .ref aw])), (aw, .inl (G.2.1, 12, .inl (aZ wn))), (hb0, .inr (0, [.int (zI S), .int (zI C), .int (zI Wy), .int (zI Li), .int (zI St), .ref al])), (al, .inl (G.2.1, 12, .inl (aZ ld)))] H := hP
  have hD : va_D A [(hq0, .inr (8, [.ref hx0, .ref hr0, .ref hb0, .ref hy0, .ref hp0, .ref hn0, .ref hw0, .ref hh0, .ref aim, .ref aik, .long (tr + cL100000)])), (hy0, .inr (2, [.int (zI wy), .int (zI se), .int (zI tu), .ref aw])), (aw, .inl (G.2.1, 12, .inl (aZ wn))), (hb0, .inr (0, [.int (zI S), .int (zI C), .int (zI Wy), .int (zI Li), .int (zI St), .ref al])), (al, .inl (G.2.1, 12, .inl (aZ ld)))] := hD
  refine lv_aload_n hx hb dX8_asHollow_12 rfl (lv_at hl 0 rfl) ?_
  refine lv_iload_n hx hb dX8_asHollow_13 rfl (lv_at hl 1 rfl) ?_
  refine z_wV (As := [.int (zI w)]) (rest := []) ⟨hx, hb, hml, hown, hts⟩ (c_X8_asWay l G hq0 hx0 hr0 hb0 hy0 hp0 hn0 hw0 hh0 aim aik (tr + cL100000) aw wy se tu wn al S C Wy Li St ld w (by first | assumption | omega) (by first | assumption | omega)) (cwV 1 hts gX8_asHollow_X8_asWay rfl rfl rfl pd_X8_asWay ⟨(Nat.le_of_ble_eq_true rfl), (Nat.le_of_ble_eq_true rfl)⟩) hK hP hD hS [0, 1, 2, 3, 4] (by decide) rfl rfl rfl rfl (fun _ => Eq.trans (b := [hq0, hy0, aw, hb0, al]) rfl rfl) rfl hl.1 rfl (Nat.le_of_ble_eq_true rfl) dX8_asHollow_14 ⟨Nat.zero_le _, Nat.zero_le _⟩ (fun r_ u_ H locs hw_1 hP hD hS => ?_)
  obtain ⟨rfl, hw_1⟩ := hw_1
  try dsimp only at hw_1
  have hP : kP G [(hq0, .inr (8, [.ref hx0, .ref hr0, .ref hb0, .ref hy0, .ref hp0, .ref hn0, .ref hw0, .ref hh0, .ref aim, .ref aik, .long ((tr + cL100000) + cL1)])), (hy0, .inr (2, [.int (zI wy), .int (zI se), .int (zI tu), .ref aw])), (aw, .inl (G.2.1, 12, .inl (aZ wn))), (hb0, .inr (0, [.int (zI S), .int (zI C), .int (zI Wy), .int (zI Li), .int (zI St), .ref al])), (al, .inl (G.2.1, 12, .inl (aZ ld)))] H := hP
  have hD : va_D A [(hq0, .inr (8, [.ref hx0, .ref hr0, .ref hb0, .ref hy0, .ref hp0, .ref hn0, .ref hw0, .ref hh0, .ref aim, .ref aik, .long ((tr + cL100000) + cL1)])), (hy0, .inr (2, [.int (zI wy), .int (zI se), .int (zI tu), .ref aw])), (aw, .inl (G.2.1, 12, .inl (aZ wn))), (hb0, .inr (0, [.int (zI S), .int (zI C), .int (zI Wy), .int (zI Li), .int (zI St), .ref al])), (al, .inl (G.2.1, 12, .inl (aZ ld)))] := hD
  refine lv_aload_n hx hb dX8_asHollow_17 rfl (lv_at hl 0 rfl) ?_
  refine va_get (ci := 8) (v := .ref hy0) (C := RX8) (T := TX8) (N := 11) hx hb hts i8 hown hK hP 0 rfl rfl 3 (by decide) f35 (fun _ h9 => h9) rfl dX8_asHollow_18 ?_
  refine va_get (ci := 2) (v := .int (zI se)) (C := RX2) (T := TX2) (N := 4) hx hb hts i2 hown hK hP 1 rfl rfl 1 (by decide) f128 (fun _ h9 => h9) rfl dX8_asHollow_21 ?_
  refine z_iadd hx hb dX8_asHollow_24 ?_
  exact hret H locs ls 25 _ () rfl ⟨congrArg zI (by rfl), by trivial⟩ hP hS dX8_asHollow_25
theorem pd_X8_rate : yX8_rate.cls = RX8 ∧ yX8_rate.cls ≠ "java/lang/invoke/MethodHandle" ∧ yX8_rate.cls ≠ "java/lang/invoke/VarHandle" ∧ (parseMethodDescriptor yX8_rate.desc).map (fun d => d.parameters.length) = some 2 := by decide +kernel
abbrev rmX8_rate : Room := { frames := 5, cells := 0, slots := 0, locals := 110 }
set_option maxHeartbeats 4000000 in
set_option maxRecDepth 100000 in
theorem c_X8_rate (l : Launch) (G : CX) (hq0 : Nat) (hx0 : Nat) (hr0 : Nat) (hb0 : Nat) (hy0 : Nat) (hp0 : Nat) (hn0 : Nat) (hw0 : Nat) (hh0 : Nat) (aim : Nat) (aik : Nat) (tr : Int64) (aw : Nat) (wy : Int) (se : Int) (tu : Int) (wn : Int → Int) (al : Nat) (S : Int) (C : Int) (Wy : Int) (Li : Int) (St : Int) (ld : Int → Int) (w : Int) (kind : Int) (hB : (2 ≤ S ∧ S ≤ 6) ∧ (C = 1 ∧ Wy = S ∨ C = 2 ∧ Wy = 2 * S)) (hr_w : -2147483648 ≤ w ∧ w < 2147483648) (hr_kind : -2147483648 ≤ kind ∧ kind < 2147483648) : Met l yX8_rate wsX8_rate rmX8_rate (wrP G [.ref hq0, .int (zI kind), .int (zI w)] [(hq0, .inr (8, [.ref hx0, .ref hr0, .ref hb0, .ref hy0, .ref hp0, .ref hn0, .ref hw0, .ref hh0, .ref aim, .ref aik, .long tr])), (hy0, .inr (2, [.int (zI wy), .int (zI se), .int (zI tu), .ref aw])), (aw, .inl (G.2.1, 12, .inl (aZ wn))), (hb0, .inr (0, [.int (zI S), .int (zI C), .int (zI Wy), .int (zI Li), .int (zI St), .ref al])), (al, .inl (G.2.1, 12, .inl (aZ ld)))]) (wrQ G [(hq0, .inr (8, [.ref hx0, .ref hr0, .ref hb0, .ref hy0, .ref hp0, .ref hn0, .ref hw0, .ref hh0, .ref aim, .ref aik, .long tr])), (hy0, .inr (2, [.int (zI wy), .int (zI se), .int (zI tu), .ref aw])), (aw, .inl (G.2.1, 12, .inl (aZ wn))), (hb0, .inr (0, [.int (zI S), .int (zI C), .int (zI Wy), .int (zI Li), .int (zI St), .ref al])), (al, .inl (G.2.1, 12, .inl (aZ ld)))] (fun (r_ : Int32) (u : Int64) => match u with | tr2 => r_ = zI (if ¬ (0 ≤ w ∧ w < Wy) then -1000000 else if kind = 0 then wn w else if kind = 1 then wn w + ld w else if kind = 2 then wn w - ordZ S w else if kind = 3 then 2 * (wn w + ld w) else if kind = 4 then wn w - ordZ S w + w else if kind = 5 then wn w + se else -1000000) ∧ (tr2 = (if ¬ (0 ≤ w ∧ w < Wy) then tr else if kind = 0 then tr + cL1 else if kind = 1 then tr + cL10 + cL1 else if kind = 2 then tr + cL100 + cL1 else if kind = 3 then tr + cL1000 + cL10 + cL1 else if kind = 4 then tr + cL10000 + cL100 + cL1 else if kind = 5 then tr + cL100000 + cL1 else tr))) (fun (u : Int64) => match u with | tr2 => [(hq0, .inr (8, [.ref hx0, .ref hr0, .ref hb0, .ref hy0, .ref hp0, .ref hn0, .ref hw0, .ref hh0, .ref aim, .ref aik, .long tr2])), (hy0, .inr (2, [.int (zI wy), .int (zI se), .int (zI tu), .ref aw])), (aw, .inl (G.2.1, 12, .inl (aZ wn))), (hb0, .inr (0, [.int (zI S), .int (zI C), .int (zI Wy), .int (zI Li), .int (zI St), .ref al])), (al, .inl (G.2.1, 12, .inl (aZ ld)))])) 0 0 (wrA [(hq0, .inr (8, [.ref hx0, .ref hr0, .ref hb0, .ref hy0, .ref hp0, .ref hn0, .ref hw0, .ref hh0, .ref aim, .ref aik, .long tr])), (hy0, .inr (2, [.int (zI wy), .int (zI se), .int (zI tu), .ref aw])), (aw, .inl (G.2.1, 12, .inl (aZ wn))), (hb0, .inr (0, [.int (zI S), .int (zI C), .int (zI Wy), .int (zI Li), .int (zI St), .ref al])), (al, .inl (G.2.1, 12, .inl (aZ ld)))]) := by
  refine wr_ofW (cc := cX8_rate) (maxL := 3) (ty := .int) (by decide) rfl (Nat.le_of_ble_eq_true rfl) ?_
  intro p e s m below meth c Q A hx hb hml hown hts hK hret H locs hP hD hS ls hl
  have hown : s.vm.findClass RX8 = some m.cls := hown
  have hl : lv_has ls 3 [(0, .ref hq0), (1, .int (zI kind)), (2, .int (zI w))] := hl
  have f28 := hts (.fieldLink RX8 28 "QuarterTurns" "bed" "LQuarterTurns$Bed;") (by decide +kernel)
  have i8 : ∀ w ∈ wsX80, w ∈ wsX8_rate := fun w h => List.mem_cons_of_mem _ (List.mem_append_left _ (List.mem_append_left _ (List.mem_append_right _ h)))
  refine lv_aload_n hx hb dX8_rate_0 rfl (lv_at hl 0 rfl) ?_
  refine va_get (ci := 8) (v := .ref hb0) (C := RX8) (T := TX8) (N := 11) hx hb hts i8 hown hK hP 0 rfl rfl 2 (by decide) f28 (fun _ h9 => h9) rfl dX8_rate_1 ?_
  refine lv_iload_n hx hb dX8_rate_4 rfl (lv_at hl 2 rfl) ?_
  refine z_cV (As := [.int (zI w)]) (rest := []) ⟨hx, hb, hml, hown, hts⟩ (c_X0_has l G hb0 al S C Wy Li St w (by first | assumption | omega) (by first | assumption | omega)) (cwV 1 hts gX8_rate_X0_has rfl rfl rfl pd_X0_has ⟨(Nat.le_of_ble_eq_true rfl), (Nat.le_of_ble_eq_true rfl)⟩) hK hP hS [3] rfl rfl rfl rfl rfl hl.1 rfl (Nat.le_of_ble_eq_true rfl) dX8_rate_5 ⟨Nat.zero_le _, Nat.zero_le _⟩ (fun H locs hP hS => ?_)
  refine z_ifne_b (tgt := 14) hx hb dX8_rate_8 (by decide) (fun c_1 => ?_) (fun c_1 => ?_)
  · refine lv_iload_n hx hb dX8_rate_14 rfl (lv_at hl 1 rfl) ?_
    rcases (show (kind < 0 ∨ 5 < kind) ∨ kind = 0 ∨ kind = 1 ∨ kind = 2 ∨ kind = 3 ∨ kind = 4 ∨ kind = 5 by omega) with c_2 | c_2 | c_2 | c_2 | c_2 | c_2 | c_2
    · refine z_tabOut (tgt := 88) hx hb (by omega) dX8_rate_15 c_2 (by decide) ?_
      refine lv_ldc (v := zI (-1000000)) hx hb hown (hts (.constant RX8 218 (-1000000)) (by decide +kernel)) dX8_rate_88 ?_
      exact hret H locs ls 90 _ (tr) rfl ⟨congrArg zI (by rw [if_neg (by omega), if_neg (by omega), if_neg (by omega), if_neg (by omega), if_neg (by omega), if_neg (by omega), if_neg (by omega)]), by rw [if_neg (by omega), if_neg (by omega), if_neg (by omega), if_neg (by omega), if_neg (by omega), if_neg (by omega), if_neg (by omega)]⟩ hP hS dX8_rate_90
    · refine z_tabIn (tgt := 52) (k := 0) hx hb (by omega) dX8_rate_15 (by omega) (by omega) (by omega) rfl (by decide) ?_
      refine lv_aload_n hx hb dX8_rate_52 rfl (lv_at hl 0 rfl) ?_
      refine lv_iload_n hx hb dX8_rate_53 rfl (lv_at hl 2 rfl) ?_
      refine z_wV (As := [.int (zI w)]) (rest := []) ⟨hx, hb, hml, hown, hts⟩ (c_X8_asWay l G hq0 hx0 hr0 hb0 hy0 hp0 hn0 hw0 hh0 aim aik tr aw wy se tu wn al S C Wy Li St ld w (by first | assumption | omega) (by first | assumption | omega)) (cwV 1 hts gX8_rate_X8_asWay rfl rfl rfl pd_X8_asWay ⟨(Nat.le_of_ble_eq_true rfl), (Nat.le_of_ble_eq_true rfl)⟩) hK hP hD hS [0, 1, 2, 3, 4] (by decide) rfl rfl rfl rfl (fun _ => Eq.trans (b := [hq0, hy0, aw, hb0, al]) rfl rfl) rfl hl.1 rfl (Nat.le_of_ble_eq_true rfl) dX8_rate_54 ⟨Nat.zero_le _, Nat.zero_le _⟩ (fun r_ u_ H locs hw_3 hP hD hS => ?_)
      obtain ⟨rfl, hw_3⟩ := hw_3
      try dsimp only at hw_3
      have hP : kP G [(hq0, .inr (8, [.ref hx0, .ref hr0, .ref hb0, .ref hy0, .ref hp0, .ref hn0, .ref hw0, .ref hh0, .ref aim, .ref aik, .long (tr + cL1)])), (hy0, .inr (2, [.int (zI wy), .int (zI se), .int (zI tu), .ref aw])), (aw, .inl (G.2.1, 12, .inl (aZ wn))), (hb0, .inr (0, [.int (zI S), .int (zI C), .int (zI Wy), .int (zI Li), .int (zI St), .ref al])), (al, .inl (G.2.1, 12, .inl (aZ ld)))] H := hP
      have hD : va_D A [(hq0, .inr (8, [.ref hx0, .ref hr0, .ref hb0, .ref hy0, .ref hp0, .ref hn0, .ref hw0, .ref hh0, .ref aim, .ref aik, .long (tr + cL1)])), (hy0, .inr (2, [.int (zI wy), .int (zI se), .int (zI tu), .ref aw])), (aw, .inl (G.2.1, 12, .inl (aZ wn))), (hb0, .inr (0, [.int (zI S), .int (zI C), .int (zI Wy), .int (zI Li), .int (zI St), .ref al])), (al, .inl (G.2.1, 12, .inl (aZ ld)))] := hD
      exact hret H locs ls 57 _ (tr + cL1) rfl ⟨congrArg zI (by rw [if_neg (by omega), if_pos (by omega)]), by rw [if_neg (by omega), if_pos (by omega)]⟩ hP hS dX8_rate_57
    · refine z_tabIn (tgt := 58) (k := 1) hx hb (by omega) dX8_rate_15 (by omega) (by omega) (by omega) rfl (by decide) ?_
      refine lv_aload_n hx hb dX8_rate_58 rfl (lv_at hl 0 rfl) ?_
      refine lv_iload_n hx hb dX8_rate_59 rfl (lv_at hl 2 rfl) ?_
      refine z_wV (As := [.int (zI w)]) (rest := []) ⟨hx, hb, hml, hown, hts⟩ (c_X8_asEnd l G hq0 hx0 hr0 hb0 hy0 hp0 hn0 hw0 hh0 aim aik tr aw wy se tu wn al S C Wy Li St ld w (by first | assumption | omega) (by first | assumption | omega)) (cwV 1 hts gX8_rate_X8_asEnd rfl rfl rfl pd_X8_asEnd ⟨(Nat.le_of_ble_eq_true rfl), (Nat.le_of_ble_eq_true rfl)⟩) hK hP hD hS [0, 1, 2, 3, 4] (by decide) rfl rfl rfl rfl (fun _ => Eq.trans (b := [hq0, hy0, aw, hb0, al]) rfl rfl) rfl hl.1 rfl (Nat.le_of_ble_eq_true rfl) dX8_rate_60 ⟨Nat.zero_le _, Nat.zero_le _⟩ (fun r_ u_ H locs hw_4 hP hD hS => ?_)
      obtain ⟨rfl, hw_4⟩ := hw_4
      try dsimp only at hw_4
      have hP : kP G [(hq0, .inr (8, [.ref hx0, .ref hr0, .ref hb0, .ref hy0, .ref hp0, .ref hn0, .ref hw0, .ref hh0, .ref aim, .ref aik, .long (tr + cL10 + cL1)])), (hy0, .inr (2, [.int (zI wy), .int (zI se), .int (zI tu), .ref aw])), (aw, .inl (G.2.1, 12, .inl (aZ wn))), (hb0, .inr (0, [.int (zI S), .int (zI C), .int (zI Wy), .int (zI Li), .int (zI St), .ref al])), (al, .inl (G.2.1, 12, .inl (aZ ld)))] H := hP
      have hD : va_D A [(hq0, .inr (8, [.ref hx0, .ref hr0, .ref hb0, .ref hy0, .ref hp0, .ref hn0, .ref hw0, .ref hh0, .ref aim, .ref aik, .long (tr + cL10 + cL1)])), (hy0, .inr (2, [.int (zI wy), .int (zI se), .int (zI tu), .ref aw])), (aw, .inl (G.2.1, 12, .inl (aZ wn))), (hb0, .inr (0, [.int (zI S), .int (zI C), .int (zI Wy), .int (zI Li), .int (zI St), .ref al])), (al, .inl (G.2.1, 12, .inl (aZ ld)))] := hD
      exact hret H locs ls 63 _ (tr + cL10 + cL1) rfl ⟨congrArg zI (by rw [if_neg (by omega), if_neg (by omega), if_pos (by omega)]), by rw [if_neg (by omega), if_neg (by omega), if_pos (by omega)]⟩ hP hS dX8_rate_63
    · refine z_tabIn (tgt := 64) (k := 2) hx hb (by omega) dX8_rate_15 (by omega) (by omega) (by omega) rfl (by decide) ?_
      refine lv_aload_n hx hb dX8_rate_64 rfl (lv_at hl 0 rfl) ?_
      refine lv_iload_n hx hb dX8_rate_65 rfl (lv_at hl 2 rfl) ?_
      refine z_wV (As := [.int (zI w)]) (rest := []) ⟨hx, hb, hml, hown, hts⟩ (c_X8_asSide l G hq0 hx0 hr0 hb0 hy0 hp0 hn0 hw0 hh0 aim aik tr aw wy se tu wn al S C Wy Li St ld w (by first | assumption | omega) (by first | assumption | omega)) (cwV 1 hts gX8_rate_X8_asSide rfl rfl rfl pd_X8_asSide ⟨(Nat.le_of_ble_eq_true rfl), (Nat.le_of_ble_eq_true rfl)⟩) hK hP hD hS [0, 1, 2, 3, 4] (by decide) rfl rfl rfl rfl (fun _ => Eq.trans (b := [hq0, hy0, aw, hb0, al]) rfl rfl) rfl hl.1 rfl (Nat.le_of_ble_eq_true rfl) dX8_rate_66 ⟨Nat.zero_le _, Nat.zero_le _⟩ (fun r_ u_ H locs hw_5 hP hD hS => ?_)
      obtain ⟨rfl, hw_5⟩ := hw_5
      try dsimp only at hw_5
      have hP : kP G [(hq0, .inr (8, [.ref hx0, .ref hr0, .ref hb0, .ref hy0, .ref hp0, .ref hn0, .ref hw0, .ref hh0, .ref aim, .ref aik, .long (tr + cL100 + cL1)])), (hy0, .inr (2, [.int (zI wy), .int (zI se), .int (zI tu), .ref aw])), (aw, .inl (G.2.1, 12, .inl (aZ wn))), (hb0, .inr (0, [.int (zI S), .int (zI C), .int (zI Wy), .int (zI Li), .int (zI St), .ref al])), (al, .inl (G.2.1, 12, .inl (aZ ld)))] H := hP
      have hD : va_D A [(hq0, .inr (8, [.ref hx0, .ref hr0, .ref hb0, .ref hy0, .ref hp0, .ref hn0, .ref hw0, .ref hh0, .ref aim, .ref aik, .long (tr + cL100 + cL1)])), (hy0, .inr (2, [.int (zI wy), .int (zI se), .int (zI tu), .ref aw])), (aw, .inl (G.2.1, 12, .inl (aZ wn))), (hb0, .inr (0, [.int (zI S), .int (zI C), .int (zI Wy), .int (zI Li), .int (zI St), .ref al])), (al, .inl (G.2.1, 12, .inl (aZ ld)))] := hD
      exact hret H locs ls 69 _ (tr + cL100 + cL1) rfl ⟨congrArg zI (by rw [if_neg (by omega), if_neg (by omega), if_neg (by omega), if_pos (by omega)]), by rw [if_neg (by omega), if_neg (by omega), if_neg (by omega), if_pos (by omega)]⟩ hP hS dX8_rate_69
    · refine z_tabIn (tgt := 70) (k := 3) hx hb (by omega) dX8_rate_15 (by omega) (by omega) (by omega) rfl (by decide) ?_
      refine lv_aload_n hx hb dX8_rate_70 rfl (lv_at hl 0 rfl) ?_
      refine lv_iload_n hx hb dX8_rate_71 rfl (lv_at hl 2 rfl) ?_
      refine z_wV (As := [.int (zI w)]) (rest := []) ⟨hx, hb, hml, hown, hts⟩ (c_X8_asHead l G hq0 hx0 hr0 hb0 hy0 hp0 hn0 hw0 hh0 aim aik tr aw wy se tu wn al S C Wy Li St ld w (by first | assumption | omega) (by first | assumption | omega)) (cwV 1 hts gX8_rate_X8_asHead rfl rfl rfl pd_X8_asHead ⟨(Nat.le_of_ble_eq_true rfl), (Nat.le_of_ble_eq_true rfl)⟩) hK hP hD hS [0, 1, 2, 3, 4] (by decide) rfl rfl rfl rfl (fun _ => Eq.trans (b := [hq0, hy0, aw, hb0, al]) rfl rfl) rfl hl.1 rfl (Nat.le_of_ble_eq_true rfl) dX8_rate_72 ⟨Nat.zero_le _, Nat.zero_le _⟩ (fun r_ u_ H locs hw_6 hP hD hS => ?_)
      obtain ⟨rfl, hw_6⟩ := hw_6
      try dsimp only at hw_6
      have hP : kP G [(hq0, .inr (8, [.ref hx0, .ref hr0, .ref hb0, .ref hy0, .ref hp0, .ref hn0, .ref hw0, .ref hh0, .ref aim, .ref aik, .long (tr + cL1000 + cL10 + cL1)])), (hy0, .inr (2, [.int (zI wy), .int (zI se), .int (zI tu), .ref aw])), (aw, .inl (G.2.1, 12, .inl (aZ wn))), (hb0, .inr (0, [.int (zI S), .int (zI C), .int (zI Wy), .int (zI Li), .int (zI St), .ref al])), (al, .inl (G.2.1, 12, .inl (aZ ld)))] H := hP
      have hD : va_D A [(hq0, .inr (8, [.ref hx0, .ref hr0, .ref hb0, .ref hy0, .ref hp0, .ref hn0, .ref hw0, .ref hh0, .ref aim, .ref aik, .long (tr + cL1000 + cL10 + cL1)])), (hy0, .inr (2, [.int (zI wy), .int (zI se), .int (zI tu), .ref aw])), (aw, .inl (G.2.1, 12, .inl (aZ wn))), (hb0, .inr (0, [.int (zI S), .int (zI C), .int (zI Wy), .int (zI Li), .int (zI St), .ref al])), (al, .inl (G.2.1, 12, .inl (aZ ld)))] := hD
      exact hret H locs ls 75 _ (tr + cL1000 + cL10 + cL1) rfl ⟨congrArg zI (by rw [if_neg (by omega), if_neg (by omega), if_neg (by omega), if_neg (by omega), if_pos (by omega)]), by rw [if_neg (by omega), if_neg (by omega), if_neg (by omega), if_neg (by omega), if_pos (by omega)]⟩ hP hS dX8_rate_75
    · refine z_tabIn (tgt := 76) (k := 4) hx hb (by omega) dX8_rate_15 (by omega) (by omega) (by omega) rfl (by decide) ?_
      refine lv_aload_n hx hb dX8_rate_76 rfl (lv_at hl 0 rfl) ?_
      refine lv_iload_n hx hb dX8_rate_77 rfl (lv_at hl 2 rfl) ?_
      refine z_wV (As := [.int (zI w)]) (rest := []) ⟨hx, hb, hml, hown, hts⟩ (c_X8_asFoot l G hq0 hx0 hr0 hb0 hy0 hp0 hn0 hw0 hh0 aim aik tr aw wy se tu wn al S C Wy Li St ld w (by first | assumption | omega) (by first | assumption | omega)) (cwV 1 hts gX8_rate_X8_asFoot rfl rfl rfl pd_X8_asFoot ⟨(Nat.le_of_ble_eq_true rfl), (Nat.le_of_ble_eq_true rfl)⟩) hK hP hD hS [0, 1, 2, 3, 4] (by decide) rfl rfl rfl rfl (fun _ => Eq.trans (b := [hq0, hy0, aw, hb0, al]) rfl rfl) rfl hl.1 rfl (Nat.le_of_ble_eq_true rfl) dX8_rate_78 ⟨Nat.zero_le _, Nat.zero_le _⟩ (fun r_ u_ H locs hw_7 hP hD hS => ?_)
      obtain ⟨rfl, hw_7⟩ := hw_7
      try dsimp only at hw_7
      have hP : kP G [(hq0, .inr (8, [.ref hx0, .ref hr0, .ref hb0, .ref hy0, .ref hp0, .ref hn0, .ref hw0, .ref hh0, .ref aim, .ref aik, .long (tr + cL10000 + cL100 + cL1)])), (hy0, .inr (2, [.int (zI wy), .int (zI se), .int (zI tu), .ref aw])), (aw, .inl (G.2.1, 12, .inl (aZ wn))), (hb0, .inr (0, [.int (zI S), .int (zI C), .int (zI Wy), .int (zI Li), .int (zI St), .ref al])), (al, .inl (G.2.1, 12, .inl (aZ ld)))] H := hP
      have hD : va_D A [(hq0, .inr (8, [.ref hx0, .ref hr0, .ref hb0, .ref hy0, .ref hp0, .ref hn0, .ref hw0, .ref hh0, .ref aim, .ref aik, .long (tr + cL10000 + cL100 + cL1)])), (hy0, .inr (2, [.int (zI wy), .int (zI se), .int (zI tu), .ref aw])), (aw, .inl (G.2.1, 12, .inl (aZ wn))), (hb0, .inr (0, [.int (zI S), .int (zI C), .int (zI Wy), .int (zI Li), .int (zI St), .ref al])), (al, .inl (G.2.1, 12, .inl (aZ ld)))] := hD
      exact hret H locs ls 81 _ (tr + cL10000 + cL100 + cL1) rfl ⟨congrArg zI (by rw [if_neg (by omega), if_neg (by omega), if_neg (by omega), if_neg (by omega), if_neg (by omega), if_pos (by omega)]), by rw [if_neg (by omega), if_neg (by omega), if_neg (by omega), if_neg (by omega), if_neg (by omega), if_pos (by omega)]⟩ hP hS dX8_rate_81
    · refine z_tabIn (tgt := 82) (k := 5) hx hb (by omega) dX8_rate_15 (by omega) (by omega) (by omega) rfl (by decide) ?_
      refine lv_aload_n hx hb dX8_rate_82 rfl (lv_at hl 0 rfl) ?_
      refine lv_iload_n hx hb dX8_rate_83 rfl (lv_at hl 2 rfl) ?_
      refine z_wV (As := [.int (zI w)]) (rest := []) ⟨hx, hb, hml, hown, hts⟩ (c_X8_asHollow l G hq0 hx0 hr0 hb0 hy0 hp0 hn0 hw0 hh0 aim aik tr aw wy se tu wn al S C Wy Li St ld w (by first | assumption | omega) (by first | assumption | omega)) (cwV 1 hts gX8_rate_X8_asHollow rfl rfl rfl pd_X8_asHollow ⟨(Nat.le_of_ble_eq_true rfl), (Nat.le_of_ble_eq_true rfl)⟩) hK hP hD hS [0, 1, 2, 3, 4] (by decide) rfl rfl rfl rfl (fun _ => Eq.trans (b := [hq0, hy0, aw, hb0, al]) rfl rfl) rfl hl.1 rfl (Nat.le_of_ble_eq_true rfl) dX8_rate_84 ⟨Nat.zero_le _, Nat.zero_le _⟩ (fun r_ u_ H locs hw_8 hP hD hS => ?_)
      obtain ⟨rfl, hw_8⟩ := hw_8
      try dsimp only at hw_8
      have hP : kP G [(hq0, .inr (8, [.ref hx0, .ref hr0, .ref hb0, .ref hy0, .ref hp0, .ref hn0, .ref hw0, .ref hh0, .ref aim, .ref aik, .long (tr + cL100000 + cL1)])), (hy0, .inr (2, [.int (zI wy), .int (zI se), .int (zI tu), .ref aw])), (aw, .inl (G.2.1, 12, .inl (aZ wn))), (hb0, .inr (0, [.int (zI S), .int (zI C), .int (zI Wy), .int (zI Li), .int (zI St), .ref al])), (al, .inl (G.2.1, 12, .inl (aZ ld)))] H := hP
      have hD : va_D A [(hq0, .inr (8, [.ref hx0, .ref hr0, .ref hb0, .ref hy0, .ref hp0, .ref hn0, .ref hw0, .ref hh0, .ref aim, .ref aik, .long (tr + cL100000 + cL1)])), (hy0, .inr (2, [.int (zI wy), .int (zI se), .int (zI tu), .ref aw])), (aw, .inl (G.2.1, 12, .inl (aZ wn))), (hb0, .inr (0, [.int (zI S), .int (zI C), .int (zI Wy), .int (zI Li), .int (zI St), .ref al])), (al, .inl (G.2.1, 12, .inl (aZ ld)))] := hD
      exact hret H locs ls 87 _ (tr + cL100000 + cL1) rfl ⟨congrArg zI (by rw [if_neg (by omega), if_neg (by omega), if_neg (by omega), if_neg (by omega), if_neg (by omega), if_neg (by omega), if_pos (by omega)]), by rw [if_neg (by omega), if_neg (by omega), if_neg (by omega), if_neg (by omega), if_neg (by omega), if_neg (by omega), if_pos (by omega)]⟩ hP hS dX8_rate_87
  · refine lv_ldc (v := zI (-1000000)) hx hb hown (hts (.constant RX8 218 (-1000000)) (by decide +kernel)) dX8_rate_11 ?_
    exact hret H locs ls 13 _ (tr) rfl ⟨congrArg zI (by rw [if_pos (by omega)]), by rw [if_pos (by omega)]⟩ hP hS dX8_rate_13
theorem pd_X8_count : yX8_count.cls = RX8 ∧ yX8_count.cls ≠ "java/lang/invoke/MethodHandle" ∧ yX8_count.cls ≠ "java/lang/invoke/VarHandle" ∧ (parseMethodDescriptor yX8_count.desc).map (fun d => d.parameters.length) = some 1 := by decide +kernel
abbrev rmX8_count : Room := { frames := 0, cells := 0, slots := 0, locals := 0 }
set_option maxHeartbeats 4000000 in
set_option maxRecDepth 100000 in
theorem c_X8_count (l : Launch) (G : CX) (hq0 : Nat) (hx0 : Nat) (hr0 : Nat) (hb0 : Nat) (hy0 : Nat) (hp0 : Nat) (hn0 : Nat) (hw0 : Nat) (hh0 : Nat) (aim : Nat) (aik : Nat) (tr : Int64) (al : Nat) (S : Int) (C : Int) (Wy : Int) (Li : Int) (St : Int) (ak : Nat) (aq : Nat) (av : Nat) (hz : Int) (ax : Nat) (tn : Int) (what : Int) (hr_what : -2147483648 ≤ what ∧ what < 2147483648) : Met l yX8_count wsX8_count rmX8_count (rdP G [.ref hq0, .int (zI what)] [(hq0, .inr (8, [.ref hx0, .ref hr0, .ref hb0, .ref hy0, .ref hp0, .ref hn0, .ref hw0, .ref hh0, .ref aim, .ref aik, .long tr])), (hb0, .inr (0, [.int (zI S), .int (zI C), .int (zI Wy), .int (zI Li), .int (zI St), .ref al])), (hh0, .inr (1, [.ref ak, .ref aq, .ref av, .int (zI hz)])), (hx0, .inr (6, [.ref ax, .int (zI tn)]))]) (rdQ (zI (if what = 0 then S else if what = 1 then C else if what = 2 then Wy else if what = 3 then Li else if what = 4 then hz else if what = 5 then tn else -1))) 0 0 noA := by
  refine rd_ofW (cc := cX8_count) (maxL := 2) (ty := .int) (by decide) rfl (Nat.le_of_ble_eq_true rfl) rfl ?_
  intro p e s m below meth c Q A hx hb hml hown hts hK hret H locs hP hS ls hl
  have hown : s.vm.findClass RX8 = some m.cls := hown
  have hl : lv_has ls 2 [(0, .ref hq0), (1, .int (zI what))] := hl
  have f28 := hts (.fieldLink RX8 28 "QuarterTurns" "bed" "LQuarterTurns$Bed;") (by decide +kernel)
  have i8 : ∀ w ∈ wsX80, w ∈ wsX8_count := fun w h => List.mem_cons_of_mem _ (List.mem_append_left _ (List.mem_append_left _ (List.mem_append_left _ (List.mem_append_right _ h))))
  have f239 := hts (.fieldLink RX8 239 "QuarterTurns$Bed" "steps" "I") (by decide +kernel)
  have i0 : ∀ w ∈ wsX00, w ∈ wsX8_count := fun w h => List.mem_cons_of_mem _ (List.mem_append_left _ (List.mem_append_left _ (List.mem_append_right _ h)))
  have f242 := hts (.fieldLink RX8 242 "QuarterTurns$Bed" "covers" "I") (by decide +kernel)
  have f166 := hts (.fieldLink RX8 166 "QuarterTurns$Bed" "ways" "I") (by decide +kernel)
  have f195 := hts (.fieldLink RX8 195 "QuarterTurns$Bed" "limit" "I") (by decide +kernel)
  have f67 := hts (.fieldLink RX8 67 "QuarterTurns" "hollows" "LQuarterTurns$Hollows;") (by decide +kernel)
  have f203 := hts (.fieldLink RX8 203 "QuarterTurns$Hollows" "size" "I") (by decide +kernel)
  have i1 : ∀ w ∈ wsX10, w ∈ wsX8_count := fun w h => List.mem_cons_of_mem _ (List.mem_append_left _ (List.mem_append_right _ h))
  have f10 := hts (.fieldLink RX8 10 "QuarterTurns" "text" "LQuarterTurns$Text;") (by decide +kernel)
  have f87 := hts (.fieldLink RX8 87 "QuarterTurns$Text" "length" "I") (by decide +kernel)
  have i6 : ∀ w ∈ wsX60, w ∈ wsX8_count := fun w h => List.mem_cons_of_mem _ (List.mem_append_right _ h)
  refine lv_iload_n hx hb dX8_count_0 rfl (lv_at hl 1 rfl) ?_
  rcases (show (what < 0 ∨ 5 < what) ∨ what = 0 ∨ what = 1 ∨ what = 2 ∨ what = 3 ∨ what = 4 ∨ what = 5 by omega) with c_1 | c_1 | c_1 | c_1 | c_1 | c_1 | c_1
  · refine z_tabOut (tgt := 88) hx hb (by omega) dX8_count_1 c_1 (by decide) ?_
    refine lv_iconst (v := zI (-1)) hx hb dX8_count_88 rfl ?_
    exact hret H locs ls 89 _ (congrArg zI (by (repeat' split) <;> first | omega | rfl)) hS dX8_count_89
  · refine z_tabIn (tgt := 40) (k := 0) hx hb (by omega) dX8_count_1 (by omega) (by omega) (by omega) rfl (by decide) ?_
    refine lv_aload_n hx hb dX8_count_40 rfl (lv_at hl 0 rfl) ?_
    refine va_get (ci := 8) (v := .ref hb0) (C := RX8) (T := TX8) (N := 11) hx hb hts i8 hown hK hP 0 rfl rfl 2 (by decide) f28 (fun _ h9 => h9) rfl dX8_count_41 ?_
    refine va_get (ci := 0) (v := .int (zI S)) (C := RX0) (T := TX0) (N := 6) hx hb hts i0 hown hK hP 1 rfl rfl 0 (by decide) f239 (fun _ h9 => h9) rfl dX8_count_44 ?_
    exact hret H locs ls 47 _ (congrArg zI (by (repeat' split) <;> first | omega | rfl)) hS dX8_count_47
  · refine z_tabIn (tgt := 48) (k := 1) hx hb (by omega) dX8_count_1 (by omega) (by omega) (by omega) rfl (by decide) ?_
    refine lv_aload_n hx hb dX8_count_48 rfl (lv_at hl 0 rfl) ?_
    refine va_get (ci := 8) (v := .ref hb0) (C := RX8) (T := TX8) (N := 11) hx hb hts i8 hown hK hP 0 rfl rfl 2 (by decide) f28 (fun _ h9 => h9) rfl dX8_count_49 ?_
    refine va_get (ci := 0) (v := .int (zI C)) (C := RX0) (T := TX0) (N := 6) hx hb hts i0 hown hK hP 1 rfl rfl 1 (by decide) f242 (fun _ h9 => h9) rfl dX8_count_52 ?_
    exact hret H locs ls 55 _ (congrArg zI (by (repeat' split) <;> first | omega | rfl)) hS dX8_count_55
  · refine z_tabIn (tgt := 56) (k := 2) hx hb (by omega) dX8_count_1 (by omega) (by omega) (by omega) rfl (by decide) ?_
    refine lv_aload_n hx hb dX8_count_56 rfl (lv_at hl 0 rfl) ?_
    refine va_get (ci := 8) (v := .ref hb0) (C := RX8) (T := TX8) (N := 11) hx hb hts i8 hown hK hP 0 rfl rfl 2 (by decide) f28 (fun _ h9 => h9) rfl dX8_count_57 ?_
    refine va_get (ci := 0) (v := .int (zI Wy)) (C := RX0) (T := TX0) (N := 6) hx hb hts i0 hown hK hP 1 rfl rfl 2 (by decide) f166 (fun _ h9 => h9) rfl dX8_count_60 ?_
    exact hret H locs ls 63 _ (congrArg zI (by (repeat' split) <;> first | omega | rfl)) hS dX8_count_63
  · refine z_tabIn (tgt := 64) (k := 3) hx hb (by omega) dX8_count_1 (by omega) (by omega) (by omega) rfl (by decide) ?_
    refine lv_aload_n hx hb dX8_count_64 rfl (lv_at hl 0 rfl) ?_
    refine va_get (ci := 8) (v := .ref hb0) (C := RX8) (T := TX8) (N := 11) hx hb hts i8 hown hK hP 0 rfl rfl 2 (by decide) f28 (fun _ h9 => h9) rfl dX8_count_65 ?_
    refine va_get (ci := 0) (v := .int (zI Li)) (C := RX0) (T := TX0) (N := 6) hx hb hts i0 hown hK hP 1 rfl rfl 3 (by decide) f195 (fun _ h9 => h9) rfl dX8_count_68 ?_
    exact hret H locs ls 71 _ (congrArg zI (by (repeat' split) <;> first | omega | rfl)) hS dX8_count_71
  · refine z_tabIn (tgt := 72) (k := 4) hx hb (by omega) dX8_count_1 (by omega) (by omega) (by omega) rfl (by decide) ?_
    refine lv_aload_n hx hb dX8_count_72 rfl (lv_at hl 0 rfl) ?_
    refine va_get (ci := 8) (v := .ref hh0) (C := RX8) (T := TX8) (N := 11) hx hb hts i8 hown hK hP 0 rfl rfl 7 (by decide) f67 (fun _ h9 => h9) rfl dX8_count_73 ?_
    refine va_get (ci := 1) (v := .int (zI hz)) (C := RX1) (T := TX1) (N := 4) hx hb hts i1 hown hK hP 2 rfl rfl 3 (by decide) f203 (fun _ h9 => h9) rfl dX8_count_76 ?_
    exact hret H locs ls 79 _ (congrArg zI (by (repeat' split) <;> first | omega | rfl)) hS dX8_count_79
  · refine z_tabIn (tgt := 80) (k := 5) hx hb (by omega) dX8_count_1 (by omega) (by omega) (by omega) rfl (by decide) ?_
    refine lv_aload_n hx hb dX8_count_80 rfl (lv_at hl 0 rfl) ?_
    refine va_get (ci := 8) (v := .ref hx0) (C := RX8) (T := TX8) (N := 11) hx hb hts i8 hown hK hP 0 rfl rfl 0 (by decide) f10 (fun _ h9 => h9) rfl dX8_count_81 ?_
    refine va_get (ci := 6) (v := .int (zI tn)) (C := RX6) (T := TX6) (N := 2) hx hb hts i6 hown hK hP 3 rfl rfl 1 (by decide) f87 (fun _ h9 => h9) rfl dX8_count_84 ?_
    exact hret H locs ls 87 _ (congrArg zI (by (repeat' split) <;> first | omega | rfl)) hS dX8_count_87
