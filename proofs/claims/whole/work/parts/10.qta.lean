theorem pd_X8_type : yX8_type.cls = RX8 ∧ yX8_type.cls ≠ "java/lang/invoke/MethodHandle" ∧ yX8_type.cls ≠ "java/lang/invoke/VarHandle" ∧ (parseMethodDescriptor yX8_type.desc).map (fun d => d.parameters.length) = some 1 := by decide +kernel
abbrev rmX8_type : Room := { frames := 1, cells := 0, slots := 0, locals := 21 }
set_option maxHeartbeats 4000000 in
set_option maxRecDepth 100000 in
theorem c_X8_type (l : Launch) (G : CX) (hq0 : Nat) (hx0 : Nat) (hr0 : Nat) (hb0 : Nat) (hy0 : Nat) (hp0 : Nat) (hn0 : Nat) (hw0 : Nat) (hh0 : Nat) (aim : Nat) (aik : Nat) (tr : Int64) (ax : Nat) (tf : Int → Int) (tn : Int) (x : Int) (htn : 0 ≤ tn ∧ tn ≤ 200) (hr_x : -2147483648 ≤ x ∧ x < 2147483648) : Met l yX8_type wsX8_type rmX8_type (wrP G [.ref hq0, .int (zI x)] [(hq0, .inr (8, [.ref hx0, .ref hr0, .ref hb0, .ref hy0, .ref hp0, .ref hn0, .ref hw0, .ref hh0, .ref aim, .ref aik, .long tr])), (hx0, .inr (6, [.ref ax, .int (zI tn)])), (ax, .inl (G.2.1, 200, .inl (aZ tf)))]) (wrQ G [(hq0, .inr (8, [.ref hx0, .ref hr0, .ref hb0, .ref hy0, .ref hp0, .ref hn0, .ref hw0, .ref hh0, .ref aim, .ref aik, .long tr])), (hx0, .inr (6, [.ref ax, .int (zI tn)])), (ax, .inl (G.2.1, 200, .inl (aZ tf)))] (fun (r_ : Int32) (u : (Int → Int) × Int) => match u with | (tf2, tn2) => r_ = zI (if x < 0 ∨ 255 < x then -1 else if tn < 200 then tn + 1 else -3) ∧ (((0 ≤ x ∧ x ≤ 255) ∧ tn < 200 → tf2 = uZ tf tn x ∧ tn2 = tn + 1) ∧ (¬ ((0 ≤ x ∧ x ≤ 255) ∧ tn < 200) → tf2 = tf ∧ tn2 = tn))) (fun (u : (Int → Int) × Int) => match u with | (tf2, tn2) => [(hq0, .inr (8, [.ref hx0, .ref hr0, .ref hb0, .ref hy0, .ref hp0, .ref hn0, .ref hw0, .ref hh0, .ref aim, .ref aik, .long tr])), (hx0, .inr (6, [.ref ax, .int (zI tn2)])), (ax, .inl (G.2.1, 200, .inl (aZ tf2)))])) 0 0 (wrA [(hq0, .inr (8, [.ref hx0, .ref hr0, .ref hb0, .ref hy0, .ref hp0, .ref hn0, .ref hw0, .ref hh0, .ref aim, .ref aik, .long tr])), (hx0, .inr (6, [.ref ax, .int (zI tn)])), (ax, .inl (G.2.1, 200, .inl (aZ tf)))]) := by
  refine wr_ofW (cc := cX8_type) (maxL := 2) (ty := .int) (by decide) rfl (Nat.le_of_ble_eq_true rfl) ?_
  intro p e s m below meth c Q A hx hb hml hown hts hK hret H locs hP hD hS ls hl
  have hown : s.vm.findClass RX8 = some m.cls := hown
  have hl : lv_has ls 2 [(0, .ref hq0), (1, .int (zI x))] := hl
  have f10 := hts (.fieldLink RX8 10 "QuarterTurns" "text" "LQuarterTurns$Text;") (by decide +kernel)
  have i8 : ∀ w ∈ wsX80, w ∈ wsX8_type := fun w h => List.mem_cons_of_mem _ (List.mem_append_left _ (List.mem_append_right _ h))
  have f87 := hts (.fieldLink RX8 87 "QuarterTurns$Text" "length" "I") (by decide +kernel)
  have i6 : ∀ w ∈ wsX60, w ∈ wsX8_type := fun w h => List.mem_cons_of_mem _ (List.mem_append_right _ h)
  refine lv_iload_n hx hb dX8_type_0 rfl (lv_at hl 1 rfl) ?_
  refine z_if_lt (tgt := 11) hx hb (by omega) dX8_type_1 (by decide) (fun c_1 => ?_) (fun c_1 => ?_)
  · refine lv_iconst (v := zI (-1)) hx hb dX8_type_11 rfl ?_
    exact hret H locs ls 12 _ (tf, tn) rfl ⟨congrArg zI (by (repeat' split) <;> first | omega | rfl), by refine ⟨fun h => ?_, fun h => ⟨rfl, rfl⟩⟩; omega⟩ hP hS dX8_type_12
  · refine lv_iload_n hx hb dX8_type_4 rfl (lv_at hl 1 rfl) ?_
    refine lv_sipush (v := zI 255) hx hb dX8_type_5 (by decide) ?_
    refine z_icmp_le (tgt := 13) hx hb (by omega) dX8_type_8 (by decide) (fun c_2 => ?_) (fun c_2 => ?_)
    · refine lv_aload_n hx hb dX8_type_13 rfl (lv_at hl 0 rfl) ?_
      refine va_get (ci := 8) (v := .ref hx0) (C := RX8) (T := TX8) (N := 11) hx hb hts i8 hown hK hP 0 rfl rfl 0 (by decide) f10 (fun _ h9 => h9) rfl dX8_type_14 ?_
      refine lv_iload_n hx hb dX8_type_17 rfl (lv_at hl 1 rfl) ?_
      refine z_wV (As := [.int (zI x)]) (rest := []) ⟨hx, hb, hml, hown, hts⟩ (c_X6_add l G hx0 ax tf tn x (by first | assumption | omega)) (cwV 1 hts gX8_type_X6_add rfl rfl rfl pd_X6_add ⟨(Nat.le_of_ble_eq_true rfl), (Nat.le_of_ble_eq_true rfl)⟩) hK hP hD hS [1, 2] (by decide) rfl rfl rfl rfl (fun _ => rfl) rfl hl.1 rfl (Nat.le_of_ble_eq_true rfl) dX8_type_18 ⟨Nat.zero_le _, Nat.zero_le _⟩ (fun r_ u_ H locs hw_5 hP hD hS => ?_)
      obtain ⟨tf2_3, tn2_4⟩ := u_
      obtain ⟨rfl, hw_5⟩ := hw_5
      try dsimp only at hw_5
      obtain ⟨hz1_6, hz2_7⟩ := hw_5
      have hP : kP G [(hq0, .inr (8, [.ref hx0, .ref hr0, .ref hb0, .ref hy0, .ref hp0, .ref hn0, .ref hw0, .ref hh0, .ref aim, .ref aik, .long tr])), (hx0, .inr (6, [.ref ax, .int (zI tn2_4)])), (ax, .inl (G.2.1, 200, .inl (aZ tf2_3)))] H := hP
      have hD : va_D A [(hq0, .inr (8, [.ref hx0, .ref hr0, .ref hb0, .ref hy0, .ref hp0, .ref hn0, .ref hw0, .ref hh0, .ref aim, .ref aik, .long tr])), (hx0, .inr (6, [.ref ax, .int (zI tn2_4)])), (ax, .inl (G.2.1, 200, .inl (aZ tf2_3)))] := hD
      refine z_ifeq_b (tgt := 34) hx hb dX8_type_21 (by decide) (fun c_8 => ?_) (fun c_8 => ?_)
      · obtain ⟨hz3, hz4⟩ := hz2_7 (by assumption)
        refine lv_bipush (v := zI (-3)) hx hb dX8_type_34 (by decide) ?_
        exact hret H locs ls 36 _ (tf2_3, tn2_4) rfl ⟨congrArg zI (by (repeat' split) <;> first | omega | rfl), by refine ⟨fun h => ?_, fun h => ?_⟩ <;> first | exact ⟨hz3, hz4⟩ | omega⟩ hP hS dX8_type_36
      · obtain ⟨hz3, hz4⟩ := hz1_6 (by assumption)
        refine lv_aload_n hx hb dX8_type_24 rfl (lv_at hl 0 rfl) ?_
        refine va_get (ci := 8) (v := .ref hx0) (C := RX8) (T := TX8) (N := 11) hx hb hts i8 hown hK hP 0 rfl rfl 0 (by decide) f10 (fun _ h9 => h9) rfl dX8_type_25 ?_
        refine va_get (ci := 6) (v := .int (zI tn2_4)) (C := RX6) (T := TX6) (N := 2) hx hb hts i6 hown hK hP 1 rfl rfl 1 (by decide) f87 (fun _ h9 => h9) rfl dX8_type_28 ?_
        refine lv_goto (tgt := 36) hx hb dX8_type_31 (by decide) ?_
        exact hret H locs ls 36 _ (tf2_3, tn2_4) rfl ⟨congrArg zI (by (repeat' split) <;> first | omega | rfl), by refine ⟨fun h => ?_, fun h => ?_⟩ <;> first | exact ⟨hz3, hz4⟩ | omega⟩ hP hS dX8_type_36
    · refine lv_iconst (v := zI (-1)) hx hb dX8_type_11 rfl ?_
      exact hret H locs ls 12 _ (tf, tn) rfl ⟨congrArg zI (by (repeat' split) <;> first | omega | rfl), by refine ⟨fun h => ?_, fun h => ⟨rfl, rfl⟩⟩; omega⟩ hP hS dX8_type_12
theorem pd_X8_clear : yX8_clear.cls = RX8 ∧ yX8_clear.cls ≠ "java/lang/invoke/MethodHandle" ∧ yX8_clear.cls ≠ "java/lang/invoke/VarHandle" ∧ (parseMethodDescriptor yX8_clear.desc).map (fun d => d.parameters.length) = some 0 := by decide +kernel
abbrev rmX8_clear : Room := { frames := 1, cells := 0, slots := 0, locals := 21 }
set_option maxHeartbeats 4000000 in
set_option maxRecDepth 100000 in
theorem c_X8_clear (l : Launch) (G : CX) (hq0 : Nat) (hx0 : Nat) (hr0 : Nat) (hb0 : Nat) (hy0 : Nat) (hp0 : Nat) (hn0 : Nat) (hw0 : Nat) (hh0 : Nat) (aim : Nat) (aik : Nat) (tr : Int64) (ax : Nat) (tn : Int)  : Met l yX8_clear wsX8_clear rmX8_clear (wrP G [.ref hq0] [(hq0, .inr (8, [.ref hx0, .ref hr0, .ref hb0, .ref hy0, .ref hp0, .ref hn0, .ref hw0, .ref hh0, .ref aim, .ref aik, .long tr])), (hx0, .inr (6, [.ref ax, .int (zI tn)]))]) (wrQ G [(hq0, .inr (8, [.ref hx0, .ref hr0, .ref hb0, .ref hy0, .ref hp0, .ref hn0, .ref hw0, .ref hh0, .ref aim, .ref aik, .long tr])), (hx0, .inr (6, [.ref ax, .int (zI tn)]))] (fun (r_ : Int32) (u : Unit) => match u with | _ => r_ = zI tn ∧ (True)) (fun (u : Unit) => match u with | _ => [(hq0, .inr (8, [.ref hx0, .ref hr0, .ref hb0, .ref hy0, .ref hp0, .ref hn0, .ref hw0, .ref hh0, .ref aim, .ref aik, .long tr])), (hx0, .inr (6, [.ref ax, .int (zI 0)]))])) 0 0 (wrA [(hq0, .inr (8, [.ref hx0, .ref hr0, .ref hb0, .ref hy0, .ref hp0, .ref hn0, .ref hw0, .ref hh0, .ref aim, .ref aik, .long tr])), (hx0, .inr (6, [.ref ax, .int (zI tn)]))]) := by
  refine wr_ofW (cc := cX8_clear) (maxL := 1) (ty := .int) (by decide) rfl (Nat.le_of_ble_eq_true rfl) ?_
  intro p e s m below meth c Q A hx hb hml hown hts hK hret H locs hP hD hS ls hl
  have hown : s.vm.findClass RX8 = some m.cls := hown
  have hl : lv_has ls 1 [(0, .ref hq0)] := hl
  have f10 := hts (.fieldLink RX8 10 "QuarterTurns" "text" "LQuarterTurns$Text;") (by decide +kernel)
  have i8 : ∀ w ∈ wsX80, w ∈ wsX8_clear := fun w h => List.mem_cons_of_mem _ (List.mem_append_left _ (List.mem_append_right _ h))
  refine lv_aload_n hx hb dX8_clear_0 rfl (lv_at hl 0 rfl) ?_
  refine va_get (ci := 8) (v := .ref hx0) (C := RX8) (T := TX8) (N := 11) hx hb hts i8 hown hK hP 0 rfl rfl 0 (by decide) f10 (fun _ h9 => h9) rfl dX8_clear_1 ?_
  refine z_wV (As := []) (rest := []) ⟨hx, hb, hml, hown, hts⟩ (c_X6_empty l G hx0 ax tn ) (cwV 0 hts gX8_clear_X6_empty rfl rfl rfl pd_X6_empty ⟨(Nat.le_of_ble_eq_true rfl), (Nat.le_of_ble_eq_true rfl)⟩) hK hP hD hS [1] (by decide) rfl rfl rfl rfl (fun _ => rfl) rfl hl.1 rfl (Nat.le_of_ble_eq_true rfl) dX8_clear_4 ⟨Nat.zero_le _, Nat.zero_le _⟩ (fun r_ u_ H locs hw_1 hP hD hS => ?_)
  obtain ⟨rfl, hw_1⟩ := hw_1
  try dsimp only at hw_1
  have hP : kP G [(hq0, .inr (8, [.ref hx0, .ref hr0, .ref hb0, .ref hy0, .ref hp0, .ref hn0, .ref hw0, .ref hh0, .ref aim, .ref aik, .long tr])), (hx0, .inr (6, [.ref ax, .int (zI 0)]))] H := hP
  have hD : va_D A [(hq0, .inr (8, [.ref hx0, .ref hr0, .ref hb0, .ref hy0, .ref hp0, .ref hn0, .ref hw0, .ref hh0, .ref aim, .ref aik, .long tr])), (hx0, .inr (6, [.ref ax, .int (zI 0)]))] := hD
  exact hret H locs ls 7 _ () rfl ⟨congrArg zI (by rfl), by trivial⟩ hP hS dX8_clear_7
theorem pd_X8_lie : yX8_lie.cls = RX8 ∧ yX8_lie.cls ≠ "java/lang/invoke/MethodHandle" ∧ yX8_lie.cls ≠ "java/lang/invoke/VarHandle" ∧ (parseMethodDescriptor yX8_lie.desc).map (fun d => d.parameters.length) = some 2 := by decide +kernel
abbrev rmX8_lie : Room := { frames := 1, cells := 0, slots := 0, locals := 21 }
set_option maxHeartbeats 4000000 in
set_option maxRecDepth 100000 in
theorem c_X8_lie (l : Launch) (G : CX) (hq0 : Nat) (hx0 : Nat) (hr0 : Nat) (hb0 : Nat) (hy0 : Nat) (hp0 : Nat) (hn0 : Nat) (hw0 : Nat) (hh0 : Nat) (aim : Nat) (aik : Nat) (tr : Int64) (al : Nat) (S : Int) (C : Int) (Wy : Int) (Li : Int) (St : Int) (ld : Int → Int) (aw : Nat) (wy : Int) (se : Int) (tu : Int) (wn : Int → Int) (w : Int) (what : Int) (hB : (2 ≤ S ∧ S ≤ 6) ∧ (C = 1 ∧ Wy = S ∨ C = 2 ∧ Wy = 2 * S)) (hr_w : -2147483648 ≤ w ∧ w < 2147483648) (hr_what : -2147483648 ≤ what ∧ what < 2147483648) : Met l yX8_lie wsX8_lie rmX8_lie (rdP G [.ref hq0, .int (zI w), .int (zI what)] [(hq0, .inr (8, [.ref hx0, .ref hr0, .ref hb0, .ref hy0, .ref hp0, .ref hn0, .ref hw0, .ref hh0, .ref aim, .ref aik, .long tr])), (hb0, .inr (0, [.int (zI S), .int (zI C), .int (zI Wy), .int (zI Li), .int (zI St), .ref al])), (al, .inl (G.2.1, 12, .inl (aZ ld))), (hy0, .inr (2, [.int (zI wy), .int (zI se), .int (zI tu), .ref aw])), (aw, .inl (G.2.1, 12, .inl (aZ wn)))]) (rdQ (zI (if ¬ (0 ≤ w ∧ w < Wy) then -1 else if what = 0 then stepZ S w else if what = 1 then covZ S w else if what = 2 then ld w else if what = 3 then wn w else -1))) 0 0 noA := by
  refine rd_ofW (cc := cX8_lie) (maxL := 3) (ty := .int) (by decide) rfl (Nat.le_of_ble_eq_true rfl) rfl ?_
  intro p e s m below meth c Q A hx hb hml hown hts hK hret H locs hP hS ls hl
  have hown : s.vm.findClass RX8 = some m.cls := hown
  have hl : lv_has ls 3 [(0, .ref hq0), (1, .int (zI w)), (2, .int (zI what))] := hl
  have f28 := hts (.fieldLink RX8 28 "QuarterTurns" "bed" "LQuarterTurns$Bed;") (by decide +kernel)
  have i8 : ∀ w ∈ wsX80, w ∈ wsX8_lie := fun w h => List.mem_cons_of_mem _ (List.mem_append_left _ (List.mem_append_left _ (List.mem_append_right _ h)))
  have f117 := hts (.fieldLink RX8 117 "QuarterTurns$Bed" "loads" "[I") (by decide +kernel)
  have i0 : ∀ w ∈ wsX00, w ∈ wsX8_lie := fun w h => List.mem_cons_of_mem _ (List.mem_append_left _ (List.mem_append_right _ h))
  have f35 := hts (.fieldLink RX8 35 "QuarterTurns" "lying" "LQuarterTurns$Lying;") (by decide +kernel)
  have f121 := hts (.fieldLink RX8 121 "QuarterTurns$Lying" "worn" "[I") (by decide +kernel)
  have i2 : ∀ w ∈ wsX20, w ∈ wsX8_lie := fun w h => List.mem_cons_of_mem _ (List.mem_append_right _ h)
  refine lv_aload_n hx hb dX8_lie_0 rfl (lv_at hl 0 rfl) ?_
  refine va_get (ci := 8) (v := .ref hb0) (C := RX8) (T := TX8) (N := 11) hx hb hts i8 hown hK hP 0 rfl rfl 2 (by decide) f28 (fun _ h9 => h9) rfl dX8_lie_1 ?_
  refine lv_iload_n hx hb dX8_lie_4 rfl (lv_at hl 1 rfl) ?_
  refine z_cV (As := [.int (zI w)]) (rest := []) ⟨hx, hb, hml, hown, hts⟩ (c_X0_has l G hb0 al S C Wy Li St w (by first | assumption | omega) (by first | assumption | omega)) (cwV 1 hts gX8_lie_X0_has rfl rfl rfl pd_X0_has ⟨(Nat.le_of_ble_eq_true rfl), (Nat.le_of_ble_eq_true rfl)⟩) hK hP hS [1] rfl rfl rfl rfl rfl hl.1 rfl (Nat.le_of_ble_eq_true rfl) dX8_lie_5 ⟨Nat.zero_le _, Nat.zero_le _⟩ (fun H locs hP hS => ?_)
  refine z_ifne_b (tgt := 13) hx hb dX8_lie_8 (by decide) (fun c_1 => ?_) (fun c_1 => ?_)
  · refine lv_iload_n hx hb dX8_lie_13 rfl (lv_at hl 2 rfl) ?_
    rcases (show (what < 0 ∨ 3 < what) ∨ what = 0 ∨ what = 1 ∨ what = 2 ∨ what = 3 by omega) with c_2 | c_2 | c_2 | c_2 | c_2
    · refine z_tabOut (tgt := 82) hx hb (by omega) dX8_lie_14 c_2 (by decide) ?_
      refine lv_iconst (v := zI (-1)) hx hb dX8_lie_82 rfl ?_
      exact hret H locs ls 83 _ (congrArg zI (by (repeat' split) <;> first | omega | rfl)) hS dX8_lie_83
    · refine z_tabIn (tgt := 44) (k := 0) hx hb (by omega) dX8_lie_14 (by omega) (by omega) (by omega) rfl (by decide) ?_
      refine lv_aload_n hx hb dX8_lie_44 rfl (lv_at hl 0 rfl) ?_
      refine va_get (ci := 8) (v := .ref hb0) (C := RX8) (T := TX8) (N := 11) hx hb hts i8 hown hK hP 0 rfl rfl 2 (by decide) f28 (fun _ h9 => h9) rfl dX8_lie_45 ?_
      refine lv_iload_n hx hb dX8_lie_48 rfl (lv_at hl 1 rfl) ?_
      refine z_cV (As := [.int (zI w)]) (rest := []) ⟨hx, hb, hml, hown, hts⟩ (c_X0_stepOf l G hb0 al S C Wy Li St w (by first | assumption | omega) (by first | assumption | omega)) (cwV 1 hts gX8_lie_X0_stepOf rfl rfl rfl pd_X0_stepOf ⟨(Nat.le_of_ble_eq_true rfl), (Nat.le_of_ble_eq_true rfl)⟩) hK hP hS [1] rfl rfl rfl rfl rfl hl.1 rfl (Nat.le_of_ble_eq_true rfl) dX8_lie_49 ⟨Nat.zero_le _, Nat.zero_le _⟩ (fun H locs hP hS => ?_)
      have hq_3 := stepZ_rng (C := C) (Wy := Wy) (w := w) ((by first | assumption | omega)) ((by first | assumption | omega))
      exact hret H locs ls 52 _ (congrArg zI (by (repeat' split) <;> first | omega | rfl)) hS dX8_lie_52
    · refine z_tabIn (tgt := 53) (k := 1) hx hb (by omega) dX8_lie_14 (by omega) (by omega) (by omega) rfl (by decide) ?_
      refine lv_aload_n hx hb dX8_lie_53 rfl (lv_at hl 0 rfl) ?_
      refine va_get (ci := 8) (v := .ref hb0) (C := RX8) (T := TX8) (N := 11) hx hb hts i8 hown hK hP 0 rfl rfl 2 (by decide) f28 (fun _ h9 => h9) rfl dX8_lie_54 ?_
      refine lv_iload_n hx hb dX8_lie_57 rfl (lv_at hl 1 rfl) ?_
      refine z_cV (As := [.int (zI w)]) (rest := []) ⟨hx, hb, hml, hown, hts⟩ (c_X0_coverOf l G hb0 al S C Wy Li St w (by first | assumption | omega) (by first | assumption | omega)) (cwV 1 hts gX8_lie_X0_coverOf rfl rfl rfl pd_X0_coverOf ⟨(Nat.le_of_ble_eq_true rfl), (Nat.le_of_ble_eq_true rfl)⟩) hK hP hS [1] rfl rfl rfl rfl rfl hl.1 rfl (Nat.le_of_ble_eq_true rfl) dX8_lie_58 ⟨Nat.zero_le _, Nat.zero_le _⟩ (fun H locs hP hS => ?_)
      have hq_4 := covZ_rng (C := C) (Wy := Wy) (w := w) ((by first | assumption | omega)) ((by first | assumption | omega))
      exact hret H locs ls 61 _ (congrArg zI (by (repeat' split) <;> first | omega | rfl)) hS dX8_lie_61
    · refine z_tabIn (tgt := 62) (k := 2) hx hb (by omega) dX8_lie_14 (by omega) (by omega) (by omega) rfl (by decide) ?_
      refine lv_aload_n hx hb dX8_lie_62 rfl (lv_at hl 0 rfl) ?_
      refine va_get (ci := 8) (v := .ref hb0) (C := RX8) (T := TX8) (N := 11) hx hb hts i8 hown hK hP 0 rfl rfl 2 (by decide) f28 (fun _ h9 => h9) rfl dX8_lie_63 ?_
      refine va_get (ci := 0) (v := .ref al) (C := RX0) (T := TX0) (N := 6) hx hb hts i0 hown hK hP 1 rfl rfl 5 (by decide) f117 (fun _ h9 => h9) rfl dX8_lie_66 ?_
      refine lv_iload_n hx hb dX8_lie_69 rfl (lv_at hl 1 rfl) ?_
      refine z_iald (n := 12) (f := ld) hx hb hK hP 2 rfl (by omega) dX8_lie_70 ?_
      exact hret H locs ls 71 _ (congrArg zI (by (repeat' split) <;> first | omega | rfl)) hS dX8_lie_71
    · refine z_tabIn (tgt := 72) (k := 3) hx hb (by omega) dX8_lie_14 (by omega) (by omega) (by omega) rfl (by decide) ?_
      refine lv_aload_n hx hb dX8_lie_72 rfl (lv_at hl 0 rfl) ?_
      refine va_get (ci := 8) (v := .ref hy0) (C := RX8) (T := TX8) (N := 11) hx hb hts i8 hown hK hP 0 rfl rfl 3 (by decide) f35 (fun _ h9 => h9) rfl dX8_lie_73 ?_
      refine va_get (ci := 2) (v := .ref aw) (C := RX2) (T := TX2) (N := 4) hx hb hts i2 hown hK hP 3 rfl rfl 3 (by decide) f121 (fun _ h9 => h9) rfl dX8_lie_76 ?_
      refine lv_iload_n hx hb dX8_lie_79 rfl (lv_at hl 1 rfl) ?_
      refine z_iald (n := 12) (f := wn) hx hb hK hP 4 rfl (by omega) dX8_lie_80 ?_
      exact hret H locs ls 81 _ (congrArg zI (by (repeat' split) <;> first | omega | rfl)) hS dX8_lie_81
  · refine lv_iconst (v := zI (-1)) hx hb dX8_lie_11 rfl ?_
    exact hret H locs ls 12 _ (congrArg zI (by (repeat' split) <;> first | omega | rfl)) hS dX8_lie_12
theorem pd_X8_turned : yX8_turned.cls = RX8 ∧ yX8_turned.cls ≠ "java/lang/invoke/MethodHandle" ∧ yX8_turned.cls ≠ "java/lang/invoke/VarHandle" ∧ (parseMethodDescriptor yX8_turned.desc).map (fun d => d.parameters.length) = some 2 := by decide +kernel
abbrev rmX8_turned : Room := { frames := 2, cells := 0, slots := 0, locals := 45 }
set_option maxHeartbeats 4000000 in
set_option maxRecDepth 100000 in
theorem c_X8_turned (l : Launch) (G : CX) (hq0 : Nat) (hx0 : Nat) (hr0 : Nat) (hb0 : Nat) (hy0 : Nat) (hp0 : Nat) (hn0 : Nat) (hw0 : Nat) (hh0 : Nat) (aim : Nat) (aik : Nat) (tr : Int64) (al : Nat) (S : Int) (C : Int) (Wy : Int) (Li : Int) (St : Int) (w : Int) (t : Int) (hB : (2 ≤ S ∧ S ≤ 6) ∧ (C = 1 ∧ Wy = S ∨ C = 2 ∧ Wy = 2 * S)) (hr_w : -2147483648 ≤ w ∧ w < 2147483648) (hr_t : -2147483648 ≤ t ∧ t < 2147483648) : Met l yX8_turned wsX8_turned rmX8_turned (rdP G [.ref hq0, .int (zI w), .int (zI t)] [(hq0, .inr (8, [.ref hx0, .ref hr0, .ref hb0, .ref hy0, .ref hp0, .ref hn0, .ref hw0, .ref hh0, .ref aim, .ref aik, .long tr])), (hb0, .inr (0, [.int (zI S), .int (zI C), .int (zI Wy), .int (zI Li), .int (zI St), .ref al]))]) (rdQ (zI (if (0 ≤ w ∧ w < Wy) ∧ (0 ≤ t ∧ t < Wy) then fromZ S w t else -1))) 0 0 noA := by
  refine rd_ofW (cc := cX8_turned) (maxL := 3) (ty := .int) (by decide) rfl (Nat.le_of_ble_eq_true rfl) rfl ?_
  intro p e s m below meth c Q A hx hb hml hown hts hK hret H locs hP hS ls hl
  have hown : s.vm.findClass RX8 = some m.cls := hown
  have hl : lv_has ls 3 [(0, .ref hq0), (1, .int (zI w)), (2, .int (zI t))] := hl
  have f28 := hts (.fieldLink RX8 28 "QuarterTurns" "bed" "LQuarterTurns$Bed;") (by decide +kernel)
  have i8 : ∀ w ∈ wsX80, w ∈ wsX8_turned := fun w h => List.mem_cons_of_mem _ (List.mem_append_left _ (List.mem_append_right _ h))
  refine lv_aload_n hx hb dX8_turned_0 rfl (lv_at hl 0 rfl) ?_
  refine va_get (ci := 8) (v := .ref hb0) (C := RX8) (T := TX8) (N := 11) hx hb hts i8 hown hK hP 0 rfl rfl 2 (by decide) f28 (fun _ h9 => h9) rfl dX8_turned_1 ?_
  refine lv_iload_n hx hb dX8_turned_4 rfl (lv_at hl 1 rfl) ?_
  refine z_cV (As := [.int (zI w)]) (rest := []) ⟨hx, hb, hml, hown, hts⟩ (c_X0_has l G hb0 al S C Wy Li St w (by first | assumption | omega) (by first | assumption | omega)) (cwV 1 hts gX8_turned_X0_has rfl rfl rfl pd_X0_has ⟨(Nat.le_of_ble_eq_true rfl), (Nat.le_of_ble_eq_true rfl)⟩) hK hP hS [1] rfl rfl rfl rfl rfl hl.1 rfl (Nat.le_of_ble_eq_true rfl) dX8_turned_5 ⟨Nat.zero_le _, Nat.zero_le _⟩ (fun H locs hP hS => ?_)
  refine z_ifeq_b (tgt := 34) hx hb dX8_turned_8 (by decide) (fun c_1 => ?_) (fun c_1 => ?_)
  · refine lv_iconst (v := zI (-1)) hx hb dX8_turned_34 rfl ?_
    exact hret H locs ls 35 _ (congrArg zI (by (repeat' split) <;> first | omega | rfl)) hS dX8_turned_35
  · refine lv_aload_n hx hb dX8_turned_11 rfl (lv_at hl 0 rfl) ?_
    refine va_get (ci := 8) (v := .ref hb0) (C := RX8) (T := TX8) (N := 11) hx hb hts i8 hown hK hP 0 rfl rfl 2 (by decide) f28 (fun _ h9 => h9) rfl dX8_turned_12 ?_
    refine lv_iload_n hx hb dX8_turned_15 rfl (lv_at hl 2 rfl) ?_
    refine z_cV (As := [.int (zI t)]) (rest := []) ⟨hx, hb, hml, hown, hts⟩ (c_X0_has l G hb0 al S C Wy Li St t (by first | assumption | omega) (by first | assumption | omega)) (cwV 1 hts gX8_turned_X0_has rfl rfl rfl pd_X0_has ⟨(Nat.le_of_ble_eq_true rfl), (Nat.le_of_ble_eq_true rfl)⟩) hK hP hS [1] rfl rfl rfl rfl rfl hl.1 rfl (Nat.le_of_ble_eq_true rfl) dX8_turned_16 ⟨Nat.zero_le _, Nat.zero_le _⟩ (fun H locs hP hS => ?_)
    refine z_ifeq_b (tgt := 34) hx hb dX8_turned_19 (by decide) (fun c_2 => ?_) (fun c_2 => ?_)
    · refine lv_iconst (v := zI (-1)) hx hb dX8_turned_34 rfl ?_
      exact hret H locs ls 35 _ (congrArg zI (by (repeat' split) <;> first | omega | rfl)) hS dX8_turned_35
    · refine lv_aload_n hx hb dX8_turned_22 rfl (lv_at hl 0 rfl) ?_
      refine va_get (ci := 8) (v := .ref hb0) (C := RX8) (T := TX8) (N := 11) hx hb hts i8 hown hK hP 0 rfl rfl 2 (by decide) f28 (fun _ h9 => h9) rfl dX8_turned_23 ?_
      refine lv_iload_n hx hb dX8_turned_26 rfl (lv_at hl 1 rfl) ?_
      refine lv_iload_n hx hb dX8_turned_27 rfl (lv_at hl 2 rfl) ?_
      refine z_cV (As := [.int (zI w), .int (zI t)]) (rest := []) ⟨hx, hb, hml, hown, hts⟩ (c_X0_from l G hb0 al S C Wy Li St w t (by first | assumption | omega) (by first | assumption | omega) (by first | assumption | omega)) (cwV 2 hts gX8_turned_X0_from rfl rfl rfl pd_X0_from ⟨(Nat.le_of_ble_eq_true rfl), (Nat.le_of_ble_eq_true rfl)⟩) hK hP hS [1] rfl rfl rfl rfl rfl hl.1 rfl (Nat.le_of_ble_eq_true rfl) dX8_turned_28 ⟨Nat.zero_le _, Nat.zero_le _⟩ (fun H locs hP hS => ?_)
      have hq_3 := fromZ_rng (C := C) (Wy := Wy) (w := w) (t := t) ((by first | assumption | omega)) ((by first | assumption | omega)) ((by first | assumption | omega))
      refine lv_goto (tgt := 35) hx hb dX8_turned_31 (by decide) ?_
      exact hret H locs ls 35 _ (congrArg zI (by (repeat' split) <;> first | omega | rfl)) hS dX8_turned_35
theorem pd_X8_now : yX8_now.cls = RX8 ∧ yX8_now.cls ≠ "java/lang/invoke/MethodHandle" ∧ yX8_now.cls ≠ "java/lang/invoke/VarHandle" ∧ (parseMethodDescriptor yX8_now.desc).map (fun d => d.parameters.length) = some 1 := by decide +kernel
abbrev rmX8_now : Room := { frames := 3, cells := 0, slots := 0, locals := 72 }
set_option maxHeartbeats 4000000 in
set_option maxRecDepth 100000 in
theorem c_X8_now (l : Launch) (G : CX) (hq0 : Nat) (hx0 : Nat) (hr0 : Nat) (hb0 : Nat) (hy0 : Nat) (hp0 : Nat) (hn0 : Nat) (hw0 : Nat) (hh0 : Nat) (aim : Nat) (aik : Nat) (tr : Int64) (ap : Nat) (al : Nat) (S : Int) (C : Int) (Wy : Int) (Li : Int) (St : Int) (aw : Nat) (wy : Int) (se : Int) (tu : Int) (wn : Int → Int) (ld : Int → Int) (ar : Nat) (nx : Int) (sz : Int) (what : Int) (hwn : ∀ i : Int, 0 ≤ i → i < 12 → 0 ≤ wn i ∧ wn i ≤ 999) (hLi : 5 ≤ Li ∧ Li ≤ 99) (hr_what : -2147483648 ≤ what ∧ what < 2147483648) : Met l yX8_now wsX8_now rmX8_now (rdP G [.ref hq0, .int (zI what)] [(hq0, .inr (8, [.ref hx0, .ref hr0, .ref hb0, .ref hy0, .ref hp0, .ref hn0, .ref hw0, .ref hh0, .ref aim, .ref aik, .long tr])), (hw0, .inr (7, [.ref hb0, .ref hy0, .ref ap])), (hb0, .inr (0, [.int (zI S), .int (zI C), .int (zI Wy), .int (zI Li), .int (zI St), .ref al])), (hy0, .inr (2, [.int (zI wy), .int (zI se), .int (zI tu), .ref aw])), (al, .inl (G.2.1, 12, .inl (aZ ld))), (aw, .inl (G.2.1, 12, .inl (aZ wn))), (hp0, .inr (3, [.ref ar, .int (zI nx), .int (zI sz)]))]) (rdQ (zI (if what = 0 then se else if what = 1 then wy else if what = 2 then tu else if what = 3 then (if Li ≤ grZ wn 12 then 1 else 0) else if what = 4 then grZ wn 12 else if what = 5 then smZ wn 12 else if what = 6 then sz else -1))) 0 0 noA := by
  refine rd_ofW (cc := cX8_now) (maxL := 2) (ty := .int) (by decide) rfl (Nat.le_of_ble_eq_true rfl) rfl ?_
  intro p e s m below meth c Q A hx hb hml hown hts hK hret H locs hP hS ls hl
  have hown : s.vm.findClass RX8 = some m.cls := hown
  have hl : lv_has ls 2 [(0, .ref hq0), (1, .int (zI what))] := hl
  have f35 := hts (.fieldLink RX8 35 "QuarterTurns" "lying" "LQuarterTurns$Lying;") (by decide +kernel)
  have i8 : ∀ w ∈ wsX80, w ∈ wsX8_now := fun w h => List.mem_cons_of_mem _ (List.mem_append_left _ (List.mem_append_left _ (List.mem_append_left _ (List.mem_append_left _ (List.mem_append_right _ h)))))
  have f128 := hts (.fieldLink RX8 128 "QuarterTurns$Lying" "seasons" "I") (by decide +kernel)
  have i2 : ∀ w ∈ wsX20, w ∈ wsX8_now := fun w h => List.mem_cons_of_mem _ (List.mem_append_left _ (List.mem_append_left _ (List.mem_append_left _ (List.mem_append_right _ h))))
  have f131 := hts (.fieldLink RX8 131 "QuarterTurns$Lying" "way" "I") (by decide +kernel)
  have f134 := hts (.fieldLink RX8 134 "QuarterTurns$Lying" "turns" "I") (by decide +kernel)
  have f60 := hts (.fieldLink RX8 60 "QuarterTurns" "wear" "LQuarterTurns$Wear;") (by decide +kernel)
  have f42 := hts (.fieldLink RX8 42 "QuarterTurns" "past" "LQuarterTurns$Past;") (by decide +kernel)
  have f147 := hts (.fieldLink RX8 147 "QuarterTurns$Past" "size" "I") (by decide +kernel)
  have i3 : ∀ w ∈ wsX30, w ∈ wsX8_now := fun w h => List.mem_cons_of_mem _ (List.mem_append_left _ (List.mem_append_left _ (List.mem_append_right _ h)))
  refine lv_iload_n hx hb dX8_now_0 rfl (lv_at hl 1 rfl) ?_
  rcases (show (what < 0 ∨ 6 < what) ∨ what = 0 ∨ what = 1 ∨ what = 2 ∨ what = 3 ∨ what = 4 ∨ what = 5 ∨ what = 6 by omega) with c_1 | c_1 | c_1 | c_1 | c_1 | c_1 | c_1 | c_1
  · refine z_tabOut (tgt := 108) hx hb (by omega) dX8_now_1 c_1 (by decide) ?_
    refine lv_iconst (v := zI (-1)) hx hb dX8_now_108 rfl ?_
    exact hret H locs ls 109 _ (congrArg zI (by (repeat' split) <;> first | omega | rfl)) hS dX8_now_109
  · refine z_tabIn (tgt := 44) (k := 0) hx hb (by omega) dX8_now_1 (by omega) (by omega) (by omega) rfl (by decide) ?_
    refine lv_aload_n hx hb dX8_now_44 rfl (lv_at hl 0 rfl) ?_
    refine va_get (ci := 8) (v := .ref hy0) (C := RX8) (T := TX8) (N := 11) hx hb hts i8 hown hK hP 0 rfl rfl 3 (by decide) f35 (fun _ h9 => h9) rfl dX8_now_45 ?_
    refine va_get (ci := 2) (v := .int (zI se)) (C := RX2) (T := TX2) (N := 4) hx hb hts i2 hown hK hP 3 rfl rfl 1 (by decide) f128 (fun _ h9 => h9) rfl dX8_now_48 ?_
    exact hret H locs ls 51 _ (congrArg zI (by (repeat' split) <;> first | omega | rfl)) hS dX8_now_51
  · refine z_tabIn (tgt := 52) (k := 1) hx hb (by omega) dX8_now_1 (by omega) (by omega) (by omega) rfl (by decide) ?_
    refine lv_aload_n hx hb dX8_now_52 rfl (lv_at hl 0 rfl) ?_
    refine va_get (ci := 8) (v := .ref hy0) (C := RX8) (T := TX8) (N := 11) hx hb hts i8 hown hK hP 0 rfl rfl 3 (by decide) f35 (fun _ h9 => h9) rfl dX8_now_53 ?_
    refine va_get (ci := 2) (v := .int (zI wy)) (C := RX2) (T := TX2) (N := 4) hx hb hts i2 hown hK hP 3 rfl rfl 0 (by decide) f131 (fun _ h9 => h9) rfl dX8_now_56 ?_
    exact hret H locs ls 59 _ (congrArg zI (by (repeat' split) <;> first | omega | rfl)) hS dX8_now_59
  · refine z_tabIn (tgt := 60) (k := 2) hx hb (by omega) dX8_now_1 (by omega) (by omega) (by omega) rfl (by decide) ?_
    refine lv_aload_n hx hb dX8_now_60 rfl (lv_at hl 0 rfl) ?_
    refine va_get (ci := 8) (v := .ref hy0) (C := RX8) (T := TX8) (N := 11) hx hb hts i8 hown hK hP 0 rfl rfl 3 (by decide) f35 (fun _ h9 => h9) rfl dX8_now_61 ?_
    refine va_get (ci := 2) (v := .int (zI tu)) (C := RX2) (T := TX2) (N := 4) hx hb hts i2 hown hK hP 3 rfl rfl 2 (by decide) f134 (fun _ h9 => h9) rfl dX8_now_64 ?_
    exact hret H locs ls 67 _ (congrArg zI (by (repeat' split) <;> first | omega | rfl)) hS dX8_now_67
  · refine z_tabIn (tgt := 68) (k := 3) hx hb (by omega) dX8_now_1 (by omega) (by omega) (by omega) rfl (by decide) ?_
    refine lv_aload_n hx hb dX8_now_68 rfl (lv_at hl 0 rfl) ?_
    refine va_get (ci := 8) (v := .ref hw0) (C := RX8) (T := TX8) (N := 11) hx hb hts i8 hown hK hP 0 rfl rfl 6 (by decide) f60 (fun _ h9 => h9) rfl dX8_now_69 ?_
    refine z_cV (As := []) (rest := []) ⟨hx, hb, hml, hown, hts⟩ (c_X7_isOut l G hw0 ap hb0 al S C Wy Li St hy0 aw wy se tu wn ld (by first | assumption | omega) (by first | assumption | omega)) (cwV 0 hts gX8_now_X7_isOut rfl rfl rfl pd_X7_isOut ⟨(Nat.le_of_ble_eq_true rfl), (Nat.le_of_ble_eq_true rfl)⟩) hK hP hS [1, 2, 3, 4, 5] rfl rfl rfl rfl rfl hl.1 rfl (Nat.le_of_ble_eq_true rfl) dX8_now_72 ⟨Nat.zero_le _, Nat.zero_le _⟩ (fun H locs hP hS => ?_)
    refine z_ifeq_b (tgt := 82) hx hb dX8_now_75 (by decide) (fun c_2 => ?_) (fun c_2 => ?_)
    · refine lv_iconst (v := zI 0) hx hb dX8_now_82 rfl ?_
      exact hret H locs ls 83 _ (congrArg zI (by (repeat' split) <;> first | omega | rfl)) hS dX8_now_83
    · refine lv_iconst (v := zI 1) hx hb dX8_now_78 rfl ?_
      refine lv_goto (tgt := 83) hx hb dX8_now_79 (by decide) ?_
      exact hret H locs ls 83 _ (congrArg zI (by (repeat' split) <;> first | omega | rfl)) hS dX8_now_83
  · refine z_tabIn (tgt := 84) (k := 4) hx hb (by omega) dX8_now_1 (by omega) (by omega) (by omega) rfl (by decide) ?_
    refine lv_aload_n hx hb dX8_now_84 rfl (lv_at hl 0 rfl) ?_
    refine va_get (ci := 8) (v := .ref hy0) (C := RX8) (T := TX8) (N := 11) hx hb hts i8 hown hK hP 0 rfl rfl 3 (by decide) f35 (fun _ h9 => h9) rfl dX8_now_85 ?_
    refine z_cV (As := []) (rest := []) ⟨hx, hb, hml, hown, hts⟩ (c_X2_greatest l G hy0 aw wy se tu wn (by first | assumption | omega)) (cwV 0 hts gX8_now_X2_greatest rfl rfl rfl pd_X2_greatest ⟨(Nat.le_of_ble_eq_true rfl), (Nat.le_of_ble_eq_true rfl)⟩) hK hP hS [3, 5] rfl rfl rfl rfl rfl hl.1 rfl (Nat.le_of_ble_eq_true rfl) dX8_now_88 ⟨Nat.zero_le _, Nat.zero_le _⟩ (fun H locs hP hS => ?_)
    have hq_3 := grZ_rng (f := wn) (N := 12) (b := 999) (by omega) ((by first | assumption | omega)) 12 (by omega)
    exact hret H locs ls 91 _ (congrArg zI (by (repeat' split) <;> first | omega | rfl)) hS dX8_now_91
  · refine z_tabIn (tgt := 92) (k := 5) hx hb (by omega) dX8_now_1 (by omega) (by omega) (by omega) rfl (by decide) ?_
    refine lv_aload_n hx hb dX8_now_92 rfl (lv_at hl 0 rfl) ?_
    refine va_get (ci := 8) (v := .ref hy0) (C := RX8) (T := TX8) (N := 11) hx hb hts i8 hown hK hP 0 rfl rfl 3 (by decide) f35 (fun _ h9 => h9) rfl dX8_now_93 ?_
    refine z_cV (As := []) (rest := []) ⟨hx, hb, hml, hown, hts⟩ (c_X2_together l G hy0 aw wy se tu wn ) (cwV 0 hts gX8_now_X2_together rfl rfl rfl pd_X2_together ⟨(Nat.le_of_ble_eq_true rfl), (Nat.le_of_ble_eq_true rfl)⟩) hK hP hS [3, 5] rfl rfl rfl rfl rfl hl.1 rfl (Nat.le_of_ble_eq_true rfl) dX8_now_96 ⟨Nat.zero_le _, Nat.zero_le _⟩ (fun H locs hP hS => ?_)
    exact hret H locs ls 99 _ (congrArg zI (by (repeat' split) <;> first | omega | rfl)) hS dX8_now_99
  · refine z_tabIn (tgt := 100) (k := 6) hx hb (by omega) dX8_now_1 (by omega) (by omega) (by omega) rfl (by decide) ?_
    refine lv_aload_n hx hb dX8_now_100 rfl (lv_at hl 0 rfl) ?_
    refine va_get (ci := 8) (v := .ref hp0) (C := RX8) (T := TX8) (N := 11) hx hb hts i8 hown hK hP 0 rfl rfl 4 (by decide) f42 (fun _ h9 => h9) rfl dX8_now_101 ?_
    refine va_get (ci := 3) (v := .int (zI sz)) (C := RX3) (T := TX3) (N := 3) hx hb hts i3 hown hK hP 6 rfl rfl 2 (by decide) f147 (fun _ h9 => h9) rfl dX8_now_104 ?_
    exact hret H locs ls 107 _ (congrArg zI (by (repeat' split) <;> first | omega | rfl)) hS dX8_now_107
