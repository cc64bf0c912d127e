
def stepZ (S w : Int) : Int := if w < S then w else w - S
def covZ (S w : Int) : Int := if w < S then 0 else 1
def fromZ (S w t : Int) : Int :=
  if covZ S w = covZ S t then
    (if S ≤ (if covZ S w = 0 then stepZ S w + stepZ S t else stepZ S w - stepZ S t) then (if covZ S w = 0 then stepZ S w + stepZ S t else stepZ S w - stepZ S t) - S
     else if (if covZ S w = 0 then stepZ S w + stepZ S t else stepZ S w - stepZ S t) < 0 then (if covZ S w = 0 then stepZ S w + stepZ S t else stepZ S w - stepZ S t) + S
     else (if covZ S w = 0 then stepZ S w + stepZ S t else stepZ S w - stepZ S t))
  else S + (if S ≤ (if covZ S w = 0 then stepZ S w + stepZ S t else stepZ S w - stepZ S t) then (if covZ S w = 0 then stepZ S w + stepZ S t else stepZ S w - stepZ S t) - S
     else if (if covZ S w = 0 then stepZ S w + stepZ S t else stepZ S w - stepZ S t) < 0 then (if covZ S w = 0 then stepZ S w + stepZ S t else stepZ S w - stepZ S t) + S
     else (if covZ S w = 0 then stepZ S w + stepZ S t else stepZ S w - stepZ S t))
theorem stepZ_rng {S C Wy w : Int} (hB : (2 ≤ S ∧ S ≤ 6) ∧ (C = 1 ∧ Wy = S ∨ C = 2 ∧ Wy = 2 * S)) (hw : 0 ≤ w ∧ w < Wy) : 0 ≤ stepZ S w ∧ stepZ S w < S := by
  unfold stepZ
  split <;> omega
theorem covZ_rng {S C Wy w : Int} (hB : (2 ≤ S ∧ S ≤ 6) ∧ (C = 1 ∧ Wy = S ∨ C = 2 ∧ Wy = 2 * S)) (hw : 0 ≤ w ∧ w < Wy) : 0 ≤ covZ S w ∧ covZ S w ≤ 1 ∧ (C = 1 → covZ S w = 0) := by
  unfold covZ
  split <;> omega
theorem fromZ_rng {S C Wy w t : Int} (hB : (2 ≤ S ∧ S ≤ 6) ∧ (C = 1 ∧ Wy = S ∨ C = 2 ∧ Wy = 2 * S)) (hw : 0 ≤ w ∧ w < Wy) (ht : 0 ≤ t ∧ t < Wy) : 0 ≤ fromZ S w t ∧ fromZ S w t < Wy := by
  have h1 := stepZ_rng hB hw
  have h2 := stepZ_rng hB ht
  have h3 := covZ_rng hB hw
  have h4 := covZ_rng hB ht
  unfold fromZ
  repeat' split
  all_goals omega

theorem pd_X0_shape : yX0_shape.cls = RX0 ∧ yX0_shape.cls ≠ "java/lang/invoke/MethodHandle" ∧ yX0_shape.cls ≠ "java/lang/invoke/VarHandle" ∧ (parseMethodDescriptor yX0_shape.desc).map (fun d => d.parameters.length) = some 2 := by decide +kernel
abbrev rmX0_shape : Room := { frames := 0, cells := 0, slots := 0, locals := 0 }
set_option maxHeartbeats 4000000 in
set_option maxRecDepth 100000 in
theorem c_X0_shape (l : Launch) (G : CX) (hb0 : Nat) (al : Nat) (S : Int) (C : Int) (Wy : Int) (Li : Int) (St : Int) (s0 : Int) (c0 : Int)  : Met l yX0_shape wsX0_shape rmX0_shape (wrP G [.ref hb0, .int (zI s0), .int (zI c0)] [(hb0, .inr (0, [.int (zI S), .int (zI C), .int (zI Wy), .int (zI Li), .int (zI St), .ref al]))]) (wrV G [(hb0, .inr (0, [.int (zI S), .int (zI C), .int (zI Wy), .int (zI Li), .int (zI St), .ref al]))] (fun (u : Unit) => match u with | _ => (True)) (fun (u : Unit) => match u with | _ => [(hb0, .inr (0, [.int (zI s0), .int (zI c0), .int (zI (s0 * c0)), .int (zI Li), .int (zI St), .ref al]))])) 0 0 (wrA [(hb0, .inr (0, [.int (zI S), .int (zI C), .int (zI Wy), .int (zI Li), .int (zI St), .ref al]))]) := by
  refine wv_ofW (cc := cX0_shape) (maxL := 3) (by decide) rfl (Nat.le_of_ble_eq_true rfl) ?_
  intro p e s m below meth c Q A hx hb hml hown hts hK hret H locs hP hD hS ls hl
  have hown : s.vm.findClass RX0 = some m.cls := hown
  have hl : lv_has ls 3 [(0, .ref hb0), (1, .int (zI s0)), (2, .int (zI c0))] := hl
  have f35 := hts (.fieldLink RX0 35 "QuarterTurns$Bed" "steps" "I") (by decide +kernel)
  have i0 : ∀ w ∈ wsX00, w ∈ wsX0_shape := fun w h => List.mem_cons_of_mem _ (List.mem_append_right _ h)
  have f38 := hts (.fieldLink RX0 38 "QuarterTurns$Bed" "covers" "I") (by decide +kernel)
  have f41 := hts (.fieldLink RX0 41 "QuarterTurns$Bed" "ways" "I") (by decide +kernel)
  refine lv_aload_n hx hb dX0_shape_0 rfl (lv_at hl 0 rfl) ?_
  refine lv_iload_n hx hb dX0_shape_1 rfl (lv_at hl 1 rfl) ?_
  refine va_put (ci := 0) (v := .int (zI s0)) (ty := .int) (C := RX0) (T := TX0) (N := 6) hx hb hts i0 tyX0 tyX0_ok nmX0 hown hK hP hD hS 0 rfl rfl 0 (by decide) f35 (fun _ h9 => h9) rfl (tyX0_ok 0 (by decide)) rfl rfl (Nat.le_of_ble_eq_true rfl) dX0_shape_2 (fun H locs hP hD hS => ?_)
  have hP : kP G [(hb0, .inr (0, [.int (zI s0), .int (zI C), .int (zI Wy), .int (zI Li), .int (zI St), .ref al]))] H := hP
  have hD : va_D A [(hb0, .inr (0, [.int (zI s0), .int (zI C), .int (zI Wy), .int (zI Li), .int (zI St), .ref al]))] := hD
  refine lv_aload_n hx hb dX0_shape_5 rfl (lv_at hl 0 rfl) ?_
  refine lv_iload_n hx hb dX0_shape_6 rfl (lv_at hl 2 rfl) ?_
  refine va_put (ci := 0) (v := .int (zI c0)) (ty := .int) (C := RX0) (T := TX0) (N := 6) hx hb hts i0 tyX0 tyX0_ok nmX0 hown hK hP hD hS 0 rfl rfl 1 (by decide) f38 (fun _ h9 => h9) rfl (tyX0_ok 1 (by decide)) rfl rfl (Nat.le_of_ble_eq_true rfl) dX0_shape_7 (fun H locs hP hD hS => ?_)
  have hP : kP G [(hb0, .inr (0, [.int (zI s0), .int (zI c0), .int (zI Wy), .int (zI Li), .int (zI St), .ref al]))] H := hP
  have hD : va_D A [(hb0, .inr (0, [.int (zI s0), .int (zI c0), .int (zI Wy), .int (zI Li), .int (zI St), .ref al]))] := hD
  refine lv_aload_n hx hb dX0_shape_10 rfl (lv_at hl 0 rfl) ?_
  refine lv_iload_n hx hb dX0_shape_11 rfl (lv_at hl 1 rfl) ?_
  refine lv_iload_n hx hb dX0_shape_12 rfl (lv_at hl 2 rfl) ?_
  refine z_imul hx hb dX0_shape_13 ?_
  refine va_put (ci := 0) (v := .int (zI (s0 * c0))) (ty := .int) (C := RX0) (T := TX0) (N := 6) hx hb hts i0 tyX0 tyX0_ok nmX0 hown hK hP hD hS 0 rfl rfl 2 (by decide) f41 (fun _ h9 => h9) rfl (tyX0_ok 2 (by decide)) rfl rfl (Nat.le_of_ble_eq_true rfl) dX0_shape_14 (fun H locs hP hD hS => ?_)
  have hP : kP G [(hb0, .inr (0, [.int (zI s0), .int (zI c0), .int (zI (s0 * c0)), .int (zI Li), .int (zI St), .ref al]))] H := hP
  have hD : va_D A [(hb0, .inr (0, [.int (zI s0), .int (zI c0), .int (zI (s0 * c0)), .int (zI Li), .int (zI St), .ref al]))] := hD
  exact hret H locs ls 17 () (by trivial) hP hS dX0_shape_17
theorem pd_X0_has : yX0_has.cls = RX0 ∧ yX0_has.cls ≠ "java/lang/invoke/MethodHandle" ∧ yX0_has.cls ≠ "java/lang/invoke/VarHandle" ∧ (parseMethodDescriptor yX0_has.desc).map (fun d => d.parameters.length) = some 1 := by decide +kernel
abbrev rmX0_has : Room := { frames := 0, cells := 0, slots := 0, locals := 0 }
set_option maxHeartbeats 4000000 in
set_option maxRecDepth 100000 in
theorem c_X0_has (l : Launch) (G : CX) (hb0 : Nat) (al : Nat) (S : Int) (C : Int) (Wy : Int) (Li : Int) (St : Int) (w : Int) (hw0 : -2147483648 ≤ w ∧ w < 2147483648) (hW0 : 0 ≤ Wy ∧ Wy ≤ 12) : Met l yX0_has wsX0_has rmX0_has (rdP G [.ref hb0, .int (zI w)] [(hb0, .inr (0, [.int (zI S), .int (zI C), .int (zI Wy), .int (zI Li), .int (zI St), .ref al]))]) (rdQ (zI (if (0 ≤ w ∧ w < Wy) then 1 else 0))) 0 0 noA := by
  refine rd_ofW (cc := cX0_has) (maxL := 2) (ty := .boolean) (by decide) rfl (Nat.le_of_ble_eq_true rfl) (nb _) ?_
  intro p e s m below meth c Q A hx hb hml hown hts hK hret H locs hP hS ls hl
  have hown : s.vm.findClass RX0 = some m.cls := hown
  have hl : lv_has ls 2 [(0, .ref hb0), (1, .int (zI w))] := hl
  have f41 := hts (.fieldLink RX0 41 "QuarterTurns$Bed" "ways" "I") (by decide +kernel)
  have i0 : ∀ w ∈ wsX00, w ∈ wsX0_has := fun w h => List.mem_cons_of_mem _ (List.mem_append_right _ h)
  refine lv_iload_n hx hb dX0_has_0 rfl (lv_at hl 1 rfl) ?_
  refine z_if_lt (tgt := 16) hx hb (by omega) dX0_has_1 (by decide) (fun c_1 => ?_) (fun c_1 => ?_)
  · refine lv_iconst (v := zI 0) hx hb dX0_has_16 rfl ?_
    exact hret H locs ls 17 _ (congrArg zI (if_neg (by omega)).symm) hS dX0_has_17
  · refine lv_iload_n hx hb dX0_has_4 rfl (lv_at hl 1 rfl) ?_
    refine lv_aload_n hx hb dX0_has_5 rfl (lv_at hl 0 rfl) ?_
    refine va_get (ci := 0) (v := .int (zI Wy)) (C := RX0) (T := TX0) (N := 6) hx hb hts i0 hown hK hP 0 rfl rfl 2 (by decide) f41 (fun _ h9 => h9) rfl dX0_has_6 ?_
    refine z_icmp_ge (tgt := 16) hx hb (by omega) dX0_has_9 (by decide) (fun c_2 => ?_) (fun c_2 => ?_)
    · refine lv_iconst (v := zI 0) hx hb dX0_has_16 rfl ?_
      exact hret H locs ls 17 _ (congrArg zI (if_neg (by omega)).symm) hS dX0_has_17
    · refine lv_iconst (v := zI 1) hx hb dX0_has_12 rfl ?_
      refine lv_goto (tgt := 17) hx hb dX0_has_13 (by decide) ?_
      exact hret H locs ls 17 _ (congrArg zI (if_pos (by omega)).symm) hS dX0_has_17
theorem pd_X0_stepOf : yX0_stepOf.cls = RX0 ∧ yX0_stepOf.cls ≠ "java/lang/invoke/MethodHandle" ∧ yX0_stepOf.cls ≠ "java/lang/invoke/VarHandle" ∧ (parseMethodDescriptor yX0_stepOf.desc).map (fun d => d.parameters.length) = some 1 := by decide +kernel
abbrev rmX0_stepOf : Room := { frames := 0, cells := 0, slots := 0, locals := 0 }
set_option maxHeartbeats 4000000 in
set_option maxRecDepth 100000 in
theorem c_X0_stepOf (l : Launch) (G : CX) (hb0 : Nat) (al : Nat) (S : Int) (C : Int) (Wy : Int) (Li : Int) (St : Int) (w : Int) (hB : (2 ≤ S ∧ S ≤ 6) ∧ (C = 1 ∧ Wy = S ∨ C = 2 ∧ Wy = 2 * S)) (hw : 0 ≤ w ∧ w < Wy) : Met l yX0_stepOf wsX0_stepOf rmX0_stepOf (rdP G [.ref hb0, .int (zI w)] [(hb0, .inr (0, [.int (zI S), .int (zI C), .int (zI Wy), .int (zI Li), .int (zI St), .ref al]))]) (rdQ (zI (stepZ S w))) 0 0 noA := by
  refine rd_ofW (cc := cX0_stepOf) (maxL := 2) (ty := .int) (by decide) rfl (Nat.le_of_ble_eq_true rfl) rfl ?_
  intro p e s m below meth c Q A hx hb hml hown hts hK hret H locs hP hS ls hl
  have hown : s.vm.findClass RX0 = some m.cls := hown
  have hl : lv_has ls 2 [(0, .ref hb0), (1, .int (zI w))] := hl
  have f35 := hts (.fieldLink RX0 35 "QuarterTurns$Bed" "steps" "I") (by decide +kernel)
  have i0 : ∀ w ∈ wsX00, w ∈ wsX0_stepOf := fun w h => List.mem_cons_of_mem _ (List.mem_append_right _ h)
  refine lv_iload_n hx hb dX0_stepOf_0 rfl (lv_at hl 1 rfl) ?_
  refine lv_aload_n hx hb dX0_stepOf_1 rfl (lv_at hl 0 rfl) ?_
  refine va_get (ci := 0) (v := .int (zI S)) (C := RX0) (T := TX0) (N := 6) hx hb hts i0 hown hK hP 0 rfl rfl 0 (by decide) f35 (fun _ h9 => h9) rfl dX0_stepOf_2 ?_
  refine z_icmp_ge (tgt := 12) hx hb (by omega) dX0_stepOf_5 (by decide) (fun c_1 => ?_) (fun c_1 => ?_)
  · refine lv_iload_n hx hb dX0_stepOf_12 rfl (lv_at hl 1 rfl) ?_
    refine lv_aload_n hx hb dX0_stepOf_13 rfl (lv_at hl 0 rfl) ?_
    refine va_get (ci := 0) (v := .int (zI S)) (C := RX0) (T := TX0) (N := 6) hx hb hts i0 hown hK hP 0 rfl rfl 0 (by decide) f35 (fun _ h9 => h9) rfl dX0_stepOf_14 ?_
    refine z_isub hx hb dX0_stepOf_17 ?_
    exact hret H locs ls 18 _ (congrArg zI (by unfold stepZ; split <;> omega)) hS dX0_stepOf_18
  · refine lv_iload_n hx hb dX0_stepOf_8 rfl (lv_at hl 1 rfl) ?_
    refine lv_goto (tgt := 18) hx hb dX0_stepOf_9 (by decide) ?_
    exact hret H locs ls 18 _ (congrArg zI (by unfold stepZ; split <;> omega)) hS dX0_stepOf_18
theorem pd_X0_coverOf : yX0_coverOf.cls = RX0 ∧ yX0_coverOf.cls ≠ "java/lang/invoke/MethodHandle" ∧ yX0_coverOf.cls ≠ "java/lang/invoke/VarHandle" ∧ (parseMethodDescriptor yX0_coverOf.desc).map (fun d => d.parameters.length) = some 1 := by decide +kernel
abbrev rmX0_coverOf : Room := { frames := 0, cells := 0, slots := 0, locals := 0 }
set_option maxHeartbeats 4000000 in
set_option maxRecDepth 100000 in
theorem c_X0_coverOf (l : Launch) (G : CX) (hb0 : Nat) (al : Nat) (S : Int) (C : Int) (Wy : Int) (Li : Int) (St : Int) (w : Int) (hB : (2 ≤ S ∧ S ≤ 6) ∧ (C = 1 ∧ Wy = S ∨ C = 2 ∧ Wy = 2 * S)) (hw : 0 ≤ w ∧ w < Wy) : Met l yX0_coverOf wsX0_coverOf rmX0_coverOf (rdP G [.ref hb0, .int (zI w)] [(hb0, .inr (0, [.int (zI S), .int (zI C), .int (zI Wy), .int (zI Li), .int (zI St), .ref al]))]) (rdQ (zI (covZ S w))) 0 0 noA := by
  refine rd_ofW (cc := cX0_coverOf) (maxL := 2) (ty := .int) (by decide) rfl (Nat.le_of_ble_eq_true rfl) rfl ?_
  intro p e s m below meth c Q A hx hb hml hown hts hK hret H locs hP hS ls hl
  have hown : s.vm.findClass RX0 = some m.cls := hown
  have hl : lv_has ls 2 [(0, .ref hb0), (1, .int (zI w))] := hl
  have f35 := hts (.fieldLink RX0 35 "QuarterTurns$Bed" "steps" "I") (by decide +kernel)
  have i0 : ∀ w ∈ wsX00, w ∈ wsX0_coverOf := fun w h => List.mem_cons_of_mem _ (List.mem_append_right _ h)
  refine lv_iload_n hx hb dX0_coverOf_0 rfl (lv_at hl 1 rfl) ?_
  refine lv_aload_n hx hb dX0_coverOf_1 rfl (lv_at hl 0 rfl) ?_
  refine va_get (ci := 0) (v := .int (zI S)) (C := RX0) (T := TX0) (N := 6) hx hb hts i0 hown hK hP 0 rfl rfl 0 (by decide) f35 (fun _ h9 => h9) rfl dX0_coverOf_2 ?_
  refine z_icmp_ge (tgt := 12) hx hb (by omega) dX0_coverOf_5 (by decide) (fun c_1 => ?_) (fun c_1 => ?_)
  · refine lv_iconst (v := zI 1) hx hb dX0_coverOf_12 rfl ?_
    exact hret H locs ls 13 _ (congrArg zI (by unfold covZ; split <;> omega)) hS dX0_coverOf_13
  · refine lv_iconst (v := zI 0) hx hb dX0_coverOf_8 rfl ?_
    refine lv_goto (tgt := 13) hx hb dX0_coverOf_9 (by decide) ?_
    exact hret H locs ls 13 _ (congrArg zI (by unfold covZ; split <;> omega)) hS dX0_coverOf_13
theorem pd_X0_from : yX0_from.cls = RX0 ∧ yX0_from.cls ≠ "java/lang/invoke/MethodHandle" ∧ yX0_from.cls ≠ "java/lang/invoke/VarHandle" ∧ (parseMethodDescriptor yX0_from.desc).map (fun d => d.parameters.length) = some 2 := by decide +kernel
abbrev rmX0_from : Room := { frames := 1, cells := 0, slots := 0, locals := 21 }
set_option maxHeartbeats 4000000 in
set_option maxRecDepth 100000 in
theorem c_X0_from (l : Launch) (G : CX) (hb0 : Nat) (al : Nat) (S : Int) (C : Int) (Wy : Int) (Li : Int) (St : Int) (w : Int) (t : Int) (hB : (2 ≤ S ∧ S ≤ 6) ∧ (C = 1 ∧ Wy = S ∨ C = 2 ∧ Wy = 2 * S)) (hw : 0 ≤ w ∧ w < Wy) (ht : 0 ≤ t ∧ t < Wy) : Met l yX0_from wsX0_from rmX0_from (rdP G [.ref hb0, .int (zI w), .int (zI t)] [(hb0, .inr (0, [.int (zI S), .int (zI C), .int (zI Wy), .int (zI Li), .int (zI St), .ref al]))]) (rdQ (zI (fromZ S w t))) 0 0 noA := by
  refine rd_ofW (cc := cX0_from) (maxL := 5) (ty := .int) (by decide) rfl (Nat.le_of_ble_eq_true rfl) rfl ?_
  intro p e s m below meth c Q A hx hb hml hown hts hK hret H locs hP hS ls hl
  have hown : s.vm.findClass RX0 = some m.cls := hown
  have hl : lv_has ls 5 [(0, .ref hb0), (1, .int (zI w)), (2, .int (zI t))] := hl
  have f35 := hts (.fieldLink RX0 35 "QuarterTurns$Bed" "steps" "I") (by decide +kernel)
  have i0 : ∀ w ∈ wsX00, w ∈ wsX0_from := fun w h => List.mem_cons_of_mem _ (List.mem_append_right _ h)
  refine lv_aload_n hx hb dX0_from_0 rfl (lv_at hl 0 rfl) ?_
  refine lv_iload_n hx hb dX0_from_1 rfl (lv_at hl 2 rfl) ?_
  refine z_cV (As := [.int (zI t)]) (rest := []) ⟨hx, hb, hml, hown, hts⟩ (c_X0_stepOf l G hb0 al S C Wy Li St t (by first | assumption | omega) (by first | assumption | omega)) (cwV 1 hts gX0_from_X0_stepOf rfl rfl rfl pd_X0_stepOf ⟨(Nat.le_of_ble_eq_true rfl), (Nat.le_of_ble_eq_true rfl)⟩) hK hP hS [0] rfl rfl rfl rfl rfl hl.1 rfl (Nat.le_of_ble_eq_true rfl) dX0_from_2 ⟨Nat.zero_le _, Nat.zero_le _⟩ (fun H locs hP hS => ?_)
  have hq_1 := stepZ_rng (C := C) (Wy := Wy) (w := t) ((by first | assumption | omega)) ((by first | assumption | omega))
  refine lv_istore_n (lv' := [(3, .int (zI (stepZ S t))), (0, .ref hb0), (1, .int (zI w)), (2, .int (zI t))]) hx hb dX0_from_5 rfl hl (by decide) rfl (fun ls hl => ?_)
  refine lv_aload_n hx hb dX0_from_6 rfl (lv_at hl 1 rfl) ?_
  refine lv_iload_n hx hb dX0_from_7 rfl (lv_at hl 2 rfl) ?_
  refine z_cV (As := [.int (zI w)]) (rest := []) ⟨hx, hb, hml, hown, hts⟩ (c_X0_coverOf l G hb0 al S C Wy Li St w (by first | assumption | omega) (by first | assumption | omega)) (cwV 1 hts gX0_from_X0_coverOf rfl rfl rfl pd_X0_coverOf ⟨(Nat.le_of_ble_eq_true rfl), (Nat.le_of_ble_eq_true rfl)⟩) hK hP hS [0] rfl rfl rfl rfl rfl hl.1 rfl (Nat.le_of_ble_eq_true rfl) dX0_from_8 ⟨Nat.zero_le _, Nat.zero_le _⟩ (fun H locs hP hS => ?_)
  have hq_2 := covZ_rng (C := C) (Wy := Wy) (w := w) ((by first | assumption | omega)) ((by first | assumption | omega))
  refine z_if_ne (tgt := 24) hx hb (by omega) dX0_from_11 (by decide) (fun c_3 => ?_) (fun c_3 => ?_)
  · refine lv_aload_n hx hb dX0_from_24 rfl (lv_at hl 1 rfl) ?_
    refine lv_iload_n hx hb dX0_from_25 rfl (lv_at hl 2 rfl) ?_
    refine z_cV (As := [.int (zI w)]) (rest := []) ⟨hx, hb, hml, hown, hts⟩ (c_X0_stepOf l G hb0 al S C Wy Li St w (by first | assumption | omega) (by first | assumption | omega)) (cwV 1 hts gX0_from_X0_stepOf rfl rfl rfl pd_X0_stepOf ⟨(Nat.le_of_ble_eq_true rfl), (Nat.le_of_ble_eq_true rfl)⟩) hK hP hS [0] rfl rfl rfl rfl rfl hl.1 rfl (Nat.le_of_ble_eq_true rfl) dX0_from_26 ⟨Nat.zero_le _, Nat.zero_le _⟩ (fun H locs hP hS => ?_)
    have hq_4 := stepZ_rng (C := C) (Wy := Wy) (w := w) ((by first | assumption | omega)) ((by first | assumption | omega))
    refine lv_iload_n hx hb dX0_from_29 rfl (lv_at hl 0 rfl) ?_
    refine z_isub hx hb dX0_from_30 ?_
    refine lv_istore (lv' := [(4, .int (zI ((stepZ S w) - (stepZ S t)))), (3, .int (zI (stepZ S t))), (0, .ref hb0), (1, .int (zI w)), (2, .int (zI t))]) hx hb dX0_from_31 hl (by decide) rfl (fun ls hl => ?_)
    refine lv_iload hx hb dX0_from_33 (lv_at hl 0 rfl) ?_
    refine lv_aload_n hx hb dX0_from_35 rfl (lv_at hl 2 rfl) ?_
    refine va_get (ci := 0) (v := .int (zI S)) (C := RX0) (T := TX0) (N := 6) hx hb hts i0 hown hK hP 0 rfl rfl 0 (by decide) f35 (fun _ h9 => h9) rfl dX0_from_36 ?_
    refine z_icmp_lt (tgt := 54) hx hb (by omega) dX0_from_39 (by decide) (fun c_5 => ?_) (fun c_5 => ?_)
    · refine lv_iload hx hb dX0_from_54 (lv_at hl 0 rfl) ?_
      refine z_if_ge (tgt := 68) hx hb (by omega) dX0_from_56 (by decide) (fun c_6 => ?_) (fun c_6 => ?_)
      · refine lv_aload_n hx hb dX0_from_68 rfl (lv_at hl 2 rfl) ?_
        refine lv_iload_n hx hb dX0_from_69 rfl (lv_at hl 3 rfl) ?_
        refine z_cV (As := [.int (zI w)]) (rest := []) ⟨hx, hb, hml, hown, hts⟩ (c_X0_coverOf l G hb0 al S C Wy Li St w (by first | assumption | omega) (by first | assumption | omega)) (cwV 1 hts gX0_from_X0_coverOf rfl rfl rfl pd_X0_coverOf ⟨(Nat.le_of_ble_eq_true rfl), (Nat.le_of_ble_eq_true rfl)⟩) hK hP hS [0] rfl rfl rfl rfl rfl hl.1 rfl (Nat.le_of_ble_eq_true rfl) dX0_from_70 ⟨Nat.zero_le _, Nat.zero_le _⟩ (fun H locs hP hS => ?_)
        have hq_7 := covZ_rng (C := C) (Wy := Wy) (w := w) ((by first | assumption | omega)) ((by first | assumption | omega))
        refine lv_aload_n hx hb dX0_from_73 rfl (lv_at hl 2 rfl) ?_
        refine lv_iload_n hx hb dX0_from_74 rfl (lv_at hl 4 rfl) ?_
        refine z_cV (As := [.int (zI t)]) (rest := [.int (zI (covZ S w))]) ⟨hx, hb, hml, hown, hts⟩ (c_X0_coverOf l G hb0 al S C Wy Li St t (by first | assumption | omega) (by first | assumption | omega)) (cwV 1 hts gX0_from_X0_coverOf rfl rfl rfl pd_X0_coverOf ⟨(Nat.le_of_ble_eq_true rfl), (Nat.le_of_ble_eq_true rfl)⟩) hK hP hS [0] rfl rfl rfl rfl rfl hl.1 rfl (Nat.le_of_ble_eq_true rfl) dX0_from_75 ⟨Nat.zero_le _, Nat.zero_le _⟩ (fun H locs hP hS => ?_)
        have hq_8 := covZ_rng (C := C) (Wy := Wy) (w := t) ((by first | assumption | omega)) ((by first | assumption | omega))
        refine z_icmp_ne (tgt := 86) hx hb (by omega) dX0_from_78 (by decide) (fun c_9 => ?_) (fun c_9 => ?_)
        · refine lv_aload_n hx hb dX0_from_86 rfl (lv_at hl 2 rfl) ?_
          refine va_get (ci := 0) (v := .int (zI S)) (C := RX0) (T := TX0) (N := 6) hx hb hts i0 hown hK hP 0 rfl rfl 0 (by decide) f35 (fun _ h9 => h9) rfl dX0_from_87 ?_
          refine lv_iload hx hb dX0_from_90 (lv_at hl 0 rfl) ?_
          refine z_iadd hx hb dX0_from_92 ?_
          exact hret H locs ls 93 _ (congrArg zI (by unfold fromZ; (repeat' split) <;> omega)) hS dX0_from_93
        · refine lv_iload hx hb dX0_from_81 (lv_at hl 0 rfl) ?_
          refine lv_goto (tgt := 93) hx hb dX0_from_83 (by decide) ?_
          exact hret H locs ls 93 _ (congrArg zI (by unfold fromZ; (repeat' split) <;> omega)) hS dX0_from_93
      · refine lv_iload hx hb dX0_from_59 (lv_at hl 0 rfl) ?_
        refine lv_aload_n hx hb dX0_from_61 rfl (lv_at hl 2 rfl) ?_
        refine va_get (ci := 0) (v := .int (zI S)) (C := RX0) (T := TX0) (N := 6) hx hb hts i0 hown hK hP 0 rfl rfl 0 (by decide) f35 (fun _ h9 => h9) rfl dX0_from_62 ?_
        refine z_iadd hx hb dX0_from_65 ?_
        refine lv_istore (lv' := [(4, .int (zI (((stepZ S w) - (stepZ S t)) + S))), (3, .int (zI (stepZ S t))), (0, .ref hb0), (1, .int (zI w)), (2, .int (zI t))]) hx hb dX0_from_66 hl (by decide) rfl (fun ls hl => ?_)
        refine lv_aload_n hx hb dX0_from_68 rfl (lv_at hl 2 rfl) ?_
        refine lv_iload_n hx hb dX0_from_69 rfl (lv_at hl 3 rfl) ?_
        refine z_cV (As := [.int (zI w)]) (rest := []) ⟨hx, hb, hml, hown, hts⟩ (c_X0_coverOf l G hb0 al S C Wy Li St w (by first | assumption | omega) (by first | assumption | omega)) (cwV 1 hts gX0_from_X0_coverOf rfl rfl rfl pd_X0_coverOf ⟨(Nat.le_of_ble_eq_true rfl), (Nat.le_of_ble_eq_true rfl)⟩) hK hP hS [0] rfl rfl rfl rfl rfl hl.1 rfl (Nat.le_of_ble_eq_true rfl) dX0_from_70 ⟨Nat.zero_le _, Nat.zero_le _⟩ (fun H locs hP hS => ?_)
        have hq_10 := covZ_rng (C := C) (Wy := Wy) (w := w) ((by first | assumption | omega)) ((by first | assumption | omega))
        refine lv_aload_n hx hb dX0_from_73 rfl (lv_at hl 2 rfl) ?_
        refine lv_iload_n hx hb dX0_from_74 rfl (lv_at hl 4 rfl) ?_
        refine z_cV (As := [.int (zI t)]) (rest := [.int (zI (covZ S w))]) ⟨hx, hb, hml, hown, hts⟩ (c_X0_coverOf l G hb0 al S C Wy Li St t (by first | assumption | omega) (by first | assumption | omega)) (cwV 1 hts gX0_from_X0_coverOf rfl rfl rfl pd_X0_coverOf ⟨(Nat.le_of_ble_eq_true rfl), (Nat.le_of_ble_eq_true rfl)⟩) hK hP hS [0] rfl rfl rfl rfl rfl hl.1 rfl (Nat.le_of_ble_eq_true rfl) dX0_from_75 ⟨Nat.zero_le _, Nat.zero_le _⟩ (fun H locs hP hS => ?_)
        have hq_11 := covZ_rng (C := C) (Wy := Wy) (w := t) ((by first | assumption | omega)) ((by first | assumption | omega))
        refine z_icmp_ne (tgt := 86) hx hb (by omega) dX0_from_78 (by decide) (fun c_12 => ?_) (fun c_12 => ?_)
        · refine lv_aload_n hx hb dX0_from_86 rfl (lv_at hl 2 rfl) ?_
          refine va_get (ci := 0) (v := .int (zI S)) (C := RX0) (T := TX0) (N := 6) hx hb hts i0 hown hK hP 0 rfl rfl 0 (by decide) f35 (fun _ h9 => h9) rfl dX0_from_87 ?_
          refine lv_iload hx hb dX0_from_90 (lv_at hl 0 rfl) ?_
          refine z_iadd hx hb dX0_from_92 ?_
          exact hret H locs ls 93 _ (congrArg zI (by unfold fromZ; (repeat' split) <;> omega)) hS dX0_from_93
        · refine lv_iload hx hb dX0_from_81 (lv_at hl 0 rfl) ?_
          refine lv_goto (tgt := 93) hx hb dX0_from_83 (by decide) ?_
          exact hret H locs ls 93 _ (congrArg zI (by unfold fromZ; (repeat' split) <;> omega)) hS dX0_from_93
    · refine lv_iload hx hb dX0_from_42 (lv_at hl 0 rfl) ?_
      refine lv_aload_n hx hb dX0_from_44 rfl (lv_at hl 2 rfl) ?_
      refine va_get (ci := 0) (v := .int (zI S)) (C := RX0) (T := TX0) (N := 6) hx hb hts i0 hown hK hP 0 rfl rfl 0 (by decide) f35 (fun _ h9 => h9) rfl dX0_from_45 ?_
      refine z_isub hx hb dX0_from_48 ?_
      refine lv_istore (lv' := [(4, .int (zI (((stepZ S w) - (stepZ S t)) - S))), (3, .int (zI (stepZ S t))), (0, .ref hb0), (1, .int (zI w)), (2, .int (zI t))]) hx hb dX0_from_49 hl (by decide) rfl (fun ls hl => ?_)
      refine lv_goto (tgt := 68) hx hb dX0_from_51 (by decide) ?_
      refine lv_aload_n hx hb dX0_from_68 rfl (lv_at hl 2 rfl) ?_
      refine lv_iload_n hx hb dX0_from_69 rfl (lv_at hl 3 rfl) ?_
      refine z_cV (As := [.int (zI w)]) (rest := []) ⟨hx, hb, hml, hown, hts⟩ (c_X0_coverOf l G hb0 al S C Wy Li St w (by first | assumption | omega) (by first | assumption | omega)) (cwV 1 hts gX0_from_X0_coverOf rfl rfl rfl pd_X0_coverOf ⟨(Nat.le_of_ble_eq_true rfl), (Nat.le_of_ble_eq_true rfl)⟩) hK hP hS [0] rfl rfl rfl rfl rfl hl.1 rfl (Nat.le_of_ble_eq_true rfl) dX0_from_70 ⟨Nat.zero_le _, Nat.zero_le _⟩ (fun H locs hP hS => ?_)
      have hq_13 := covZ_rng (C := C) (Wy := Wy) (w := w) ((by first | assumption | omega)) ((by first | assumption | omega))
      refine lv_aload_n hx hb dX0_from_73 rfl (lv_at hl 2 rfl) ?_
      refine lv_iload_n hx hb dX0_from_74 rfl (lv_at hl 4 rfl) ?_
      refine z_cV (As := [.int (zI t)]) (rest := [.int (zI (covZ S w))]) ⟨hx, hb, hml, hown, hts⟩ (c_X0_coverOf l G hb0 al S C Wy Li St t (by first | assumption | omega) (by first | assumption | omega)) (cwV 1 hts gX0_from_X0_coverOf rfl rfl rfl pd_X0_coverOf ⟨(Nat.le_of_ble_eq_true rfl), (Nat.le_of_ble_eq_true rfl)⟩) hK hP hS [0] rfl rfl rfl rfl rfl hl.1 rfl (Nat.le_of_ble_eq_true rfl) dX0_from_75 ⟨Nat.zero_le _, Nat.zero_le _⟩ (fun H locs hP hS => ?_)
      have hq_14 := covZ_rng (C := C) (Wy := Wy) (w := t) ((by first | assumption | omega)) ((by first | assumption | omega))
      refine z_icmp_ne (tgt := 86) hx hb (by omega) dX0_from_78 (by decide) (fun c_15 => ?_) (fun c_15 => ?_)
      · refine lv_aload_n hx hb dX0_from_86 rfl (lv_at hl 2 rfl) ?_
        refine va_get (ci := 0) (v := .int (zI S)) (C := RX0) (T := TX0) (N := 6) hx hb hts i0 hown hK hP 0 rfl rfl 0 (by decide) f35 (fun _ h9 => h9) rfl dX0_from_87 ?_
        refine lv_iload hx hb dX0_from_90 (lv_at hl 0 rfl) ?_
        refine z_iadd hx hb dX0_from_92 ?_
        exact hret H locs ls 93 _ (congrArg zI (by unfold fromZ; (repeat' split) <;> omega)) hS dX0_from_93
      · refine lv_iload hx hb dX0_from_81 (lv_at hl 0 rfl) ?_
        refine lv_goto (tgt := 93) hx hb dX0_from_83 (by decide) ?_
        exact hret H locs ls 93 _ (congrArg zI (by unfold fromZ; (repeat' split) <;> omega)) hS dX0_from_93
  · refine lv_aload_n hx hb dX0_from_14 rfl (lv_at hl 1 rfl) ?_
    refine lv_iload_n hx hb dX0_from_15 rfl (lv_at hl 2 rfl) ?_
    refine z_cV (As := [.int (zI w)]) (rest := []) ⟨hx, hb, hml, hown, hts⟩ (c_X0_stepOf l G hb0 al S C Wy Li St w (by first | assumption | omega) (by first | assumption | omega)) (cwV 1 hts gX0_from_X0_stepOf rfl rfl rfl pd_X0_stepOf ⟨(Nat.le_of_ble_eq_true rfl), (Nat.le_of_ble_eq_true rfl)⟩) hK hP hS [0] rfl rfl rfl rfl rfl hl.1 rfl (Nat.le_of_ble_eq_true rfl) dX0_from_16 ⟨Nat.zero_le _, Nat.zero_le _⟩ (fun H locs hP hS => ?_)
    have hq_16 := stepZ_rng (C := C) (Wy := Wy) (w := w) ((by first | assumption | omega)) ((by first | assumption | omega))
    refine lv_iload_n hx hb dX0_from_19 rfl (lv_at hl 0 rfl) ?_
    refine z_iadd hx hb dX0_from_20 ?_
    refine lv_goto (tgt := 31) hx hb dX0_from_21 (by decide) ?_
    refine lv_istore (lv' := [(4, .int (zI ((stepZ S w) + (stepZ S t)))), (3, .int (zI (stepZ S t))), (0, .ref hb0), (1, .int (zI w)), (2, .int (zI t))]) hx hb dX0_from_31 hl (by decide) rfl (fun ls hl => ?_)
    refine lv_iload hx hb dX0_from_33 (lv_at hl 0 rfl) ?_
    refine lv_aload_n hx hb dX0_from_35 rfl (lv_at hl 2 rfl) ?_
    refine va_get (ci := 0) (v := .int (zI S)) (C := RX0) (T := TX0) (N := 6) hx hb hts i0 hown hK hP 0 rfl rfl 0 (by decide) f35 (fun _ h9 => h9) rfl dX0_from_36 ?_
    refine z_icmp_lt (tgt := 54) hx hb (by omega) dX0_from_39 (by decide) (fun c_17 => ?_) (fun c_17 => ?_)
    · refine lv_iload hx hb dX0_from_54 (lv_at hl 0 rfl) ?_
      refine z_if_ge (tgt := 68) hx hb (by omega) dX0_from_56 (by decide) (fun c_18 => ?_) (fun c_18 => ?_)
      · refine lv_aload_n hx hb dX0_from_68 rfl (lv_at hl 2 rfl) ?_
        refine lv_iload_n hx hb dX0_from_69 rfl (lv_at hl 3 rfl) ?_
        refine z_cV (As := [.int (zI w)]) (rest := []) ⟨hx, hb, hml, hown, hts⟩ (c_X0_coverOf l G hb0 al S C Wy Li St w (by first | assumption | omega) (by first | assumption | omega)) (cwV 1 hts gX0_from_X0_coverOf rfl rfl rfl pd_X0_coverOf ⟨(Nat.le_of_ble_eq_true rfl), (Nat.le_of_ble_eq_true rfl)⟩) hK hP hS [0] rfl rfl rfl rfl rfl hl.1 rfl (Nat.le_of_ble_eq_true rfl) dX0_from_70 ⟨Nat.zero_le _, Nat.zero_le _⟩ (fun H locs hP hS => ?_)
        have hq_19 := covZ_rng (C := C) (Wy := Wy) (w := w) ((by first | assumption | omega)) ((by first | assumption | omega))
        refine lv_aload_n hx hb dX0_from_73 rfl (lv_at hl 2 rfl) ?_
        refine lv_iload_n hx hb dX0_from_74 rfl (lv_at hl 4 rfl) ?_
        refine z_cV (As := [.int (zI t)]) (rest := [.int (zI (covZ S w))]) ⟨hx, hb, hml, hown, hts⟩ (c_X0_coverOf l G hb0 al S C Wy Li St t (by first | assumption | omega) (by first | assumption | omega)) (cwV 1 hts gX0_from_X0_coverOf rfl rfl rfl pd_X0_coverOf ⟨(Nat.le_of_ble_eq_true rfl), (Nat.le_of_ble_eq_true rfl)⟩) hK hP hS [0] rfl rfl rfl rfl rfl hl.1 rfl (Nat.le_of_ble_eq_true rfl) dX0_from_75 ⟨Nat.zero_le _, Nat.zero_le _⟩ (fun H locs hP hS => ?_)
        have hq_20 := covZ_rng (C := C) (Wy := Wy) (w := t) ((by first | assumption | omega)) ((by first | assumption | omega))
        refine z_icmp_ne (tgt := 86) hx hb (by omega) dX0_from_78 (by decide) (fun c_21 => ?_) (fun c_21 => ?_)
        · refine lv_aload_n hx hb dX0_from_86 rfl (lv_at hl 2 rfl) ?_
          refine va_get (ci := 0) (v := .int (zI S)) (C := RX0) (T := TX0) (N := 6) hx hb hts i0 hown hK hP 0 rfl rfl 0 (by decide) f35 (fun _ h9 => h9) rfl dX0_from_87 ?_
          refine lv_iload hx hb dX0_from_90 (lv_at hl 0 rfl) ?_
          refine z_iadd hx hb dX0_from_92 ?_
          exact hret H locs ls 93 _ (congrArg zI (by unfold fromZ; (repeat' split) <;> omega)) hS dX0_from_93
        · refine lv_iload hx hb dX0_from_81 (lv_at hl 0 rfl) ?_
          refine lv_goto (tgt := 93) hx hb dX0_from_83 (by decide) ?_
          exact hret H locs ls 93 _ (congrArg zI (by unfold fromZ; (repeat' split) <;> omega)) hS dX0_from_93
      · refine lv_iload hx hb dX0_from_59 (lv_at hl 0 rfl) ?_
        refine lv_aload_n hx hb dX0_from_61 rfl (lv_at hl 2 rfl) ?_
        refine va_get (ci := 0) (v := .int (zI S)) (C := RX0) (T := TX0) (N := 6) hx hb hts i0 hown hK hP 0 rfl rfl 0 (by decide) f35 (fun _ h9 => h9) rfl dX0_from_62 ?_
        refine z_iadd hx hb dX0_from_65 ?_
        refine lv_istore (lv' := [(4, .int (zI (((stepZ S w) + (stepZ S t)) + S))), (3, .int (zI (stepZ S t))), (0, .ref hb0), (1, .int (zI w)), (2, .int (zI t))]) hx hb dX0_from_66 hl (by decide) rfl (fun ls hl => ?_)
        refine lv_aload_n hx hb dX0_from_68 rfl (lv_at hl 2 rfl) ?_
        refine lv_iload_n hx hb dX0_from_69 rfl (lv_at hl 3 rfl) ?_
        refine z_cV (As := [.int (zI w)]) (rest := []) ⟨hx, hb, hml, hown, hts⟩ (c_X0_coverOf l G hb0 al S C Wy Li St w (by first | assumption | omega) (by first | assumption | omega)) (cwV 1 hts gX0_from_X0_coverOf rfl rfl rfl pd_X0_coverOf ⟨(Nat.le_of_ble_eq_true rfl), (Nat.le_of_ble_eq_true rfl)⟩) hK hP hS [0] rfl rfl rfl rfl rfl hl.1 rfl (Nat.le_of_ble_eq_true rfl) dX0_from_70 ⟨Nat.zero_le _, Nat.zero_le _⟩ (fun H locs hP hS => ?_)
        have hq_22 := covZ_rng (C := C) (Wy := Wy) (w := w) ((by first | assumption | omega)) ((by first | assumption | omega))
        refine lv_aload_n hx hb dX0_from_73 rfl (lv_at hl 2 rfl) ?_
        refine lv_iload_n hx hb dX0_from_74 rfl (lv_at hl 4 rfl) ?_
        refine z_cV (As := [.int (zI t)]) (rest := [.int (zI (covZ S w))]) ⟨hx, hb, hml, hown, hts⟩ (c_X0_coverOf l G hb0 al S C Wy Li St t (by first | assumption | omega) (by first | assumption | omega)) (cwV 1 hts gX0_from_X0_coverOf rfl rfl rfl pd_X0_coverOf ⟨(Nat.le_of_ble_eq_true rfl), (Nat.le_of_ble_eq_true rfl)⟩) hK hP hS [0] rfl rfl rfl rfl rfl hl.1 rfl (Nat.le_of_ble_eq_true rfl) dX0_from_75 ⟨Nat.zero_le _, Nat.zero_le _⟩ (fun H locs hP hS => ?_)
        have hq_23 := covZ_rng (C := C) (Wy := Wy) (w := t) ((by first | assumption | omega)) ((by first | assumption | omega))
        refine z_icmp_ne (tgt := 86) hx hb (by omega) dX0_from_78 (by decide) (fun c_24 => ?_) (fun c_24 => ?_)
        · refine lv_aload_n hx hb dX0_from_86 rfl (lv_at hl 2 rfl) ?_
          refine va_get (ci := 0) (v := .int (zI S)) (C := RX0) (T := TX0) (N := 6) hx hb hts i0 hown hK hP 0 rfl rfl 0 (by decide) f35 (fun _ h9 => h9) rfl dX0_from_87 ?_
          refine lv_iload hx hb dX0_from_90 (lv_at hl 0 rfl) ?_
          refine z_iadd hx hb dX0_from_92 ?_
          exact hret H locs ls 93 _ (congrArg zI (by unfold fromZ; (repeat' split) <;> omega)) hS dX0_from_93
        · refine lv_iload hx hb dX0_from_81 (lv_at hl 0 rfl) ?_
          refine lv_goto (tgt := 93) hx hb dX0_from_83 (by decide) ?_
          exact hret H locs ls 93 _ (congrArg zI (by unfold fromZ; (repeat' split) <;> omega)) hS dX0_from_93
    · refine lv_iload hx hb dX0_from_42 (lv_at hl 0 rfl) ?_
      refine lv_aload_n hx hb dX0_from_44 rfl (lv_at hl 2 rfl) ?_
      refine va_get (ci := 0) (v := .int (zI S)) (C := RX0) (T := TX0) (N := 6) hx hb hts i0 hown hK hP 0 rfl rfl 0 (by decide) f35 (fun _ h9 => h9) rfl dX0_from_45 ?_
      refine z_isub hx hb dX0_from_48 ?_
      refine lv_istore (lv' := [(4, .int (zI (((stepZ S w) + (stepZ S t)) - S))), (3, .int (zI (stepZ S t))), (0, .ref hb0), (1, .int (zI w)), (2, .int (zI t))]) hx hb dX0_from_49 hl (by decide) rfl (fun ls hl => ?_)
      refine lv_goto (tgt := 68) hx hb dX0_from_51 (by decide) ?_
      refine lv_aload_n hx hb dX0_from_68 rfl (lv_at hl 2 rfl) ?_
      refine lv_iload_n hx hb dX0_from_69 rfl (lv_at hl 3 rfl) ?_
      refine z_cV (As := [.int (zI w)]) (rest := []) ⟨hx, hb, hml, hown, hts⟩ (c_X0_coverOf l G hb0 al S C Wy Li St w (by first | assumption | omega) (by first | assumption | omega)) (cwV 1 hts gX0_from_X0_coverOf rfl rfl rfl pd_X0_coverOf ⟨(Nat.le_of_ble_eq_true rfl), (Nat.le_of_ble_eq_true rfl)⟩) hK hP hS [0] rfl rfl rfl rfl rfl hl.1 rfl (Nat.le_of_ble_eq_true rfl) dX0_from_70 ⟨Nat.zero_le _, Nat.zero_le _⟩ (fun H locs hP hS => ?_)
      have hq_25 := covZ_rng (C := C) (Wy := Wy) (w := w) ((by first | assumption | omega)) ((by first | assumption | omega))
      refine lv_aload_n hx hb dX0_from_73 rfl (lv_at hl 2 rfl) ?_
      refine lv_iload_n hx hb dX0_from_74 rfl (lv_at hl 4 rfl) ?_
      refine z_cV (As := [.int (zI t)]) (rest := [.int (zI (covZ S w))]) ⟨hx, hb, hml, hown, hts⟩ (c_X0_coverOf l G hb0 al S C Wy Li St t (by first | assumption | omega) (by first | assumption | omega)) (cwV 1 hts gX0_from_X0_coverOf rfl rfl rfl pd_X0_coverOf ⟨(Nat.le_of_ble_eq_true rfl), (Nat.le_of_ble_eq_true rfl)⟩) hK hP hS [0] rfl rfl rfl rfl rfl hl.1 rfl (Nat.le_of_ble_eq_true rfl) dX0_from_75 ⟨Nat.zero_le _, Nat.zero_le _⟩ (fun H locs hP hS => ?_)
      have hq_26 := covZ_rng (C := C) (Wy := Wy) (w := t) ((by first | assumption | omega)) ((by first | assumption | omega))
      refine z_icmp_ne (tgt := 86) hx hb (by omega) dX0_from_78 (by decide) (fun c_27 => ?_) (fun c_27 => ?_)
      · refine lv_aload_n hx hb dX0_from_86 rfl (lv_at hl 2 rfl) ?_
        refine va_get (ci := 0) (v := .int (zI S)) (C := RX0) (T := TX0) (N := 6) hx hb hts i0 hown hK hP 0 rfl rfl 0 (by decide) f35 (fun _ h9 => h9) rfl dX0_from_87 ?_
        refine lv_iload hx hb dX0_from_90 (lv_at hl 0 rfl) ?_
        refine z_iadd hx hb dX0_from_92 ?_
        exact hret H locs ls 93 _ (congrArg zI (by unfold fromZ; (repeat' split) <;> omega)) hS dX0_from_93
      · refine lv_iload hx hb dX0_from_81 (lv_at hl 0 rfl) ?_
        refine lv_goto (tgt := 93) hx hb dX0_from_83 (by decide) ?_
        exact hret H locs ls 93 _ (congrArg zI (by unfold fromZ; (repeat' split) <;> omega)) hS dX0_from_93

def fullN (W : Int) : Nat := 2 ^ W.toNat - 1
theorem fullN_eq (W : Int) : ((2 ^ W.toNat : Nat) : Int) - 1 = ((fullN W : Nat) : Int) := by
  have h := Nat.one_le_two_pow (n := W.toNat)
  unfold fullN
  omega
theorem fullN_lt {W : Int} (h : W ≤ 12) : fullN W < 4096 := by
  have h1 : 2 ^ W.toNat ≤ 2 ^ 12 := Nat.pow_le_pow_right (by omega) (by omega)
  have h := Nat.one_le_two_pow (n := W.toNat)
  unfold fullN
  omega
def itZ (S t : Int) : Nat → Int
  | 0 => 0
  | k + 1 => fromZ S (itZ S t k) t
def ordG (S t : Int) : Nat → Nat → Int
  | 0, k => k
  | f + 1, k => if itZ S t k = 0 then k else ordG S t f (k + 1)
def ordZ (S t : Int) : Int := ordG S t 11 1
theorem ordZ_done {S t x : Int} (h : ordG S t (12 - x).toNat x.toNat = ordZ S t) (h1 : 1 ≤ x) (h2 : itZ S t x.toNat = 0 ∨ 12 ≤ x) : x = ordZ S t := by
  rw [← h]
  cases hf : (12 - x).toNat with
  | zero =>
    show x = ((x.toNat : Nat) : Int)
    omega
  | succ f =>
    rcases h2 with h2 | h2
    · show x = if itZ S t x.toNat = 0 then ((x.toNat : Nat) : Int) else _
      rw [if_pos h2]
      omega
    · omega
theorem ordZ_step {S t x : Int} (h : ordG S t (12 - x).toNat x.toNat = ordZ S t) (h1 : 1 ≤ x) (h2 : ¬ itZ S t x.toNat = 0) (h3 : x < 12) : ordG S t (12 - (x + 1)).toNat (x + 1).toNat = ordZ S t := by
  rw [← h, tn1 (by omega), show (12 - x).toNat = (12 - (x + 1)).toNat + 1 by omega]
  show _ = if itZ S t x.toNat = 0 then ((x.toNat : Nat) : Int) else _
  rw [if_neg h2]
theorem ordG_rng (S t : Int) : ∀ f k : Nat, (k : Int) ≤ ordG S t f k ∧ ordG S t f k ≤ k + f
  | 0, k => by simp [ordG]
  | f + 1, k => by
    have h := ordG_rng S t f (k + 1)
    unfold ordG
    split <;> omega
theorem ordZ_rng (S t : Int) : 1 ≤ ordZ S t ∧ ordZ S t ≤ 12 := by
  have h := ordG_rng S t 11 1
  unfold ordZ
  omega
def thruW (S t u home : Int) : Nat → Int
  | 0 => home
  | k + 1 => fromZ S (thruW S t u home k) (if (k : Int) % 2 = 0 then t else u)
def thruS (S t u home : Int) : Nat → Nat
  | 0 => 2 ^ home.toNat
  | k + 1 => thruS S t u home k ||| 2 ^ (thruW S t u home (k + 1)).toNat
def oneT (S : Int) (set : Nat) (w : Int) : Nat → Nat
  | 0 => 0
  | k + 1 => if set.testBit k = true then oneT S set w k ||| 2 ^ (fromZ S w (k : Int)).toNat else oneT S set w k
def rIn (S : Int) (W : Nat) (set before seen : Nat) : Nat → Nat
  | 0 => seen
  | k + 1 => if before.testBit k = true then rIn S W set before seen k ||| oneT S set (k : Int) W else rIn S W set before seen k
def reS (S : Int) (W : Nat) (set : Nat) (home : Int) : Nat → Nat
  | 0 => 2 ^ home.toNat
  | i + 1 => rIn S W set (reS S W set home i) (reS S W set home i) W
theorem oneT_lt {S C Wy w : Int} (set : Nat) (hB : (2 ≤ S ∧ S ≤ 6) ∧ (C = 1 ∧ Wy = S ∨ C = 2 ∧ Wy = 2 * S)) (hw : 0 ≤ w ∧ w < Wy) : ∀ k : Nat, (k : Int) ≤ Wy → oneT S set w k < 4096
  | 0, _ => by simp [oneT]
  | k + 1, hk => by
    have h := oneT_lt set hB hw k (by omega)
    have h2 := fromZ_rng hB hw (t := (k : Int)) ⟨by omega, by omega⟩
    unfold oneT
    split
    · exact or_lt h (bit_lt (by omega))
    · exact h
theorem rIn_lt {S C Wy : Int} (set before seen : Nat) (hB : (2 ≤ S ∧ S ≤ 6) ∧ (C = 1 ∧ Wy = S ∨ C = 2 ∧ Wy = 2 * S)) (hs : seen < 4096) : ∀ k : Nat, (k : Int) ≤ Wy → rIn S Wy.toNat set before seen k < 4096
  | 0, _ => by simpa [rIn] using hs
  | k + 1, hk => by
    have h := rIn_lt set before seen hB hs k (by omega)
    unfold rIn
    split
    · exact or_lt h (oneT_lt set hB (w := (k : Int)) ⟨by omega, by omega⟩ _ (by omega))
    · exact h
theorem reS_lt {S C Wy home : Int} (set : Nat) (hB : (2 ≤ S ∧ S ≤ 6) ∧ (C = 1 ∧ Wy = S ∨ C = 2 ∧ Wy = 2 * S)) (hw : 0 ≤ home ∧ home < Wy) : ∀ k : Nat, reS S Wy.toNat set home k < 4096
  | 0 => bit_lt (by omega)
  | k + 1 => by
    unfold reS
    exact rIn_lt set _ _ hB (reS_lt set hB hw k) _ (by omega)
theorem reS_fix {S : Int} {W set : Nat} {home : Int} {j : Nat} (h : reS S W set home (j + 1) = reS S W set home j) : ∀ k, reS S W set home (j + k) = reS S W set home j
  | 0 => rfl
  | k + 1 => by
    show rIn S W set (reS S W set home (j + k)) (reS S W set home (j + k)) W = _
    rw [reS_fix h k]
    exact h


theorem re_end {S Wy home i : Int} {set seen : Nat} (h : i = Wy) (hsn : seen = reS S Wy.toNat set home i.toNat) : ((seen : Nat) : Int) = ((reS S Wy.toNat set home Wy.toNat : Nat) : Int) := by
  rw [hsn, h]
theorem re_early {S Wy home i : Int} {set seen bef : Nat} (hi : 0 ≤ i ∧ i ≤ Wy) (hsn : seen = reS S Wy.toNat set home i.toNat) (hbf : (i = 0 ∧ bef = 0) ∨ (0 < i ∧ bef = reS S Wy.toNat set home (i - 1).toNat)) (h : seen = bef) (hh : 0 ≤ home) : ((seen : Nat) : Int) = ((reS S Wy.toNat set home Wy.toNat : Nat) : Int) := by
  rcases hbf with ⟨h1, h2⟩ | ⟨h1, h2⟩
  · subst h1
    have h3 : seen = 2 ^ home.toNat := hsn
    have h4 := Nat.one_le_two_pow (n := home.toNat)
    omega
  · have h3 : reS S Wy.toNat set home ((i - 1).toNat + 1) = reS S Wy.toNat set home (i - 1).toNat := by
      rw [show (i - 1).toNat + 1 = i.toNat by omega, ← hsn, ← h2, h]
    have h4 := reS_fix h3 (Wy.toNat - (i - 1).toNat)
    rw [show (i - 1).toNat + (Wy.toNat - (i - 1).toNat) = Wy.toNat by omega] at h4
    rw [h4, ← h2, h]

theorem pd_X0_allBits : yX0_allBits.cls = RX0 ∧ yX0_allBits.cls ≠ "java/lang/invoke/MethodHandle" ∧ yX0_allBits.cls ≠ "java/lang/invoke/VarHandle" ∧ (parseMethodDescriptor yX0_allBits.desc).map (fun d => d.parameters.length) = some 0 := by decide +kernel
abbrev rmX0_allBits : Room := { frames := 0, cells := 0, slots := 0, locals := 0 }
set_option maxHeartbeats 4000000 in
set_option maxRecDepth 100000 in
theorem c_X0_allBits (l : Launch) (G : CX) (hb0 : Nat) (al : Nat) (S : Int) (C : Int) (Wy : Int) (Li : Int) (St : Int) (hW0 : 0 ≤ Wy ∧ Wy ≤ 12) : Met l yX0_allBits wsX0_allBits rmX0_allBits (rdP G [.ref hb0] [(hb0, .inr (0, [.int (zI S), .int (zI C), .int (zI Wy), .int (zI Li), .int (zI St), .ref al]))]) (rdQ (zI ((fullN Wy : Nat) : Int))) 0 0 noA := by
  refine rd_ofW (cc := cX0_allBits) (maxL := 1) (ty := .int) (by decide) rfl (Nat.le_of_ble_eq_true rfl) rfl ?_
  intro p e s m below meth c Q A hx hb hml hown hts hK hret H locs hP hS ls hl
  have hown : s.vm.findClass RX0 = some m.cls := hown
  have hl : lv_has ls 1 [(0, .ref hb0)] := hl
  have f41 := hts (.fieldLink RX0 41 "QuarterTurns$Bed" "ways" "I") (by decide +kernel)
  have i0 : ∀ w ∈ wsX00, w ∈ wsX0_allBits := fun w h => List.mem_cons_of_mem _ (List.mem_append_right _ h)
  refine lv_iconst (v := zI 1) hx hb dX0_allBits_0 rfl ?_
  refine lv_aload_n hx hb dX0_allBits_1 rfl (lv_at hl 0 rfl) ?_
  refine va_get (ci := 0) (v := .int (zI Wy)) (C := RX0) (T := TX0) (N := 6) hx hb hts i0 hown hK hP 0 rfl rfl 2 (by decide) f41 (fun _ h9 => h9) rfl dX0_allBits_2 ?_
  refine z_shl1 hx hb (by omega) dX0_allBits_5 ?_
  refine lv_iconst (v := zI 1) hx hb dX0_allBits_6 rfl ?_
  refine z_isub hx hb dX0_allBits_7 ?_
  exact hret H locs ls 8 _ (congrArg zI (by exact fullN_eq Wy)) hS dX0_allBits_8
theorem pd_X0_hasSet : yX0_hasSet.cls = RX0 ∧ yX0_hasSet.cls ≠ "java/lang/invoke/MethodHandle" ∧ yX0_hasSet.cls ≠ "java/lang/invoke/VarHandle" ∧ (parseMethodDescriptor yX0_hasSet.desc).map (fun d => d.parameters.length) = some 1 := by decide +kernel
abbrev rmX0_hasSet : Room := { frames := 1, cells := 0, slots := 0, locals := 20 }
set_option maxHeartbeats 4000000 in
set_option maxRecDepth 100000 in
theorem c_X0_hasSet (l : Launch) (G : CX) (hb0 : Nat) (al : Nat) (S : Int) (C : Int) (Wy : Int) (Li : Int) (St : Int) (set : Int) (hs0 : -2147483648 ≤ set ∧ set < 2147483648) (hW0 : 0 ≤ Wy ∧ Wy ≤ 12) : Met l yX0_hasSet wsX0_hasSet rmX0_hasSet (rdP G [.ref hb0, .int (zI set)] [(hb0, .inr (0, [.int (zI S), .int (zI C), .int (zI Wy), .int (zI Li), .int (zI St), .ref al]))]) (rdQ (zI (if (0 ≤ set ∧ set ≤ ((fullN Wy : Nat) : Int)) then 1 else 0))) 0 0 noA := by
  refine rd_ofW (cc := cX0_hasSet) (maxL := 2) (ty := .boolean) (by decide) rfl (Nat.le_of_ble_eq_true rfl) (nb _) ?_
  intro p e s m below meth c Q A hx hb hml hown hts hK hret H locs hP hS ls hl
  have hown : s.vm.findClass RX0 = some m.cls := hown
  have hl : lv_has ls 2 [(0, .ref hb0), (1, .int (zI set))] := hl
  refine lv_iload_n hx hb dX0_hasSet_0 rfl (lv_at hl 1 rfl) ?_
  refine z_if_lt (tgt := 16) hx hb (by omega) dX0_hasSet_1 (by decide) (fun c_1 => ?_) (fun c_1 => ?_)
  · refine lv_iconst (v := zI 0) hx hb dX0_hasSet_16 rfl ?_
    exact hret H locs ls 17 _ (congrArg zI (if_neg (by omega)).symm) hS dX0_hasSet_17
  · refine lv_iload_n hx hb dX0_hasSet_4 rfl (lv_at hl 1 rfl) ?_
    refine lv_aload_n hx hb dX0_hasSet_5 rfl (lv_at hl 0 rfl) ?_
    refine z_cV (As := []) (rest := [.int (zI set)]) ⟨hx, hb, hml, hown, hts⟩ (c_X0_allBits l G hb0 al S C Wy Li St (by first | assumption | omega)) (cwV 0 hts gX0_hasSet_X0_allBits rfl rfl rfl pd_X0_allBits ⟨(Nat.le_of_ble_eq_true rfl), (Nat.le_of_ble_eq_true rfl)⟩) hK hP hS [0] rfl rfl rfl rfl rfl hl.1 rfl (Nat.le_of_ble_eq_true rfl) dX0_hasSet_6 ⟨Nat.zero_le _, Nat.zero_le _⟩ (fun H locs hP hS => ?_)
    have hq_2 := fullN_lt (W := Wy) (by omega)
    refine z_icmp_gt (tgt := 16) hx hb (by omega) dX0_hasSet_9 (by decide) (fun c_3 => ?_) (fun c_3 => ?_)
    · refine lv_iconst (v := zI 0) hx hb dX0_hasSet_16 rfl ?_
      exact hret H locs ls 17 _ (congrArg zI (if_neg (by omega)).symm) hS dX0_hasSet_17
    · refine lv_iconst (v := zI 1) hx hb dX0_hasSet_12 rfl ?_
      refine lv_goto (tgt := 17) hx hb dX0_hasSet_13 (by decide) ?_
      exact hret H locs ls 17 _ (congrArg zI (if_pos (by omega)).symm) hS dX0_hasSet_17
theorem pd_X0_orderOf : yX0_orderOf.cls = RX0 ∧ yX0_orderOf.cls ≠ "java/lang/invoke/MethodHandle" ∧ yX0_orderOf.cls ≠ "java/lang/invoke/VarHandle" ∧ (parseMethodDescriptor yX0_orderOf.desc).map (fun d => d.parameters.length) = some 1 := by decide +kernel
abbrev rmX0_orderOf : Room := { frames := 2, cells := 0, slots := 0, locals := 45 }
set_option maxHeartbeats 4000000 in
set_option maxRecDepth 100000 in
theorem c_X0_orderOf (l : Launch) (G : CX) (hb0 : Nat) (al : Nat) (S : Int) (C : Int) (Wy : Int) (Li : Int) (St : Int) (t : Int) (hB : (2 ≤ S ∧ S ≤ 6) ∧ (C = 1 ∧ Wy = S ∨ C = 2 ∧ Wy = 2 * S)) (ht : 0 ≤ t ∧ t < Wy) : Met l yX0_orderOf wsX0_orderOf rmX0_orderOf (rdP G [.ref hb0, .int (zI t)] [(hb0, .inr (0, [.int (zI S), .int (zI C), .int (zI Wy), .int (zI Li), .int (zI St), .ref al]))]) (rdQ (zI (ordZ S t))) 0 0 noA := by
  refine rd_ofW (cc := cX0_orderOf) (maxL := 4) (ty := .int) (by decide) rfl (Nat.le_of_ble_eq_true rfl) rfl ?_
  intro p e s m below meth c Q A hx hb hml hown hts hK hret H locs hP hS ls hl
  have hown : s.vm.findClass RX0 = some m.cls := hown
  have hl : lv_has ls 4 [(0, .ref hb0), (1, .int (zI t))] := hl
  refine lv_aload_n hx hb dX0_orderOf_0 rfl (lv_at hl 0 rfl) ?_
  refine lv_iconst (v := zI 0) hx hb dX0_orderOf_1 rfl ?_
  refine lv_iload_n hx hb dX0_orderOf_2 rfl (lv_at hl 1 rfl) ?_
  refine z_cV (As := [.int (zI 0), .int (zI t)]) (rest := []) ⟨hx, hb, hml, hown, hts⟩ (c_X0_from l G hb0 al S C Wy Li St 0 t (by first | assumption | omega) (by first | assumption | omega) (by first | assumption | omega)) (cwV 2 hts gX0_orderOf_X0_from rfl rfl rfl pd_X0_from ⟨(Nat.le_of_ble_eq_true rfl), (Nat.le_of_ble_eq_true rfl)⟩) hK hP hS [0] rfl rfl rfl rfl rfl hl.1 rfl (Nat.le_of_ble_eq_true rfl) dX0_orderOf_3 ⟨Nat.zero_le _, Nat.zero_le _⟩ (fun H locs hP hS => ?_)
  have hq_1 := fromZ_rng (C := C) (Wy := Wy) (w := 0) (t := t) ((by first | assumption | omega)) ((by first | assumption | omega)) ((by first | assumption | omega))
  refine lv_istore_n (lv' := [(2, .int (zI (fromZ S 0 t))), (0, .ref hb0), (1, .int (zI t))]) hx hb dX0_orderOf_6 rfl hl (by decide) rfl (fun ls hl => ?_)
  refine lv_iconst (v := zI 1) hx hb dX0_orderOf_7 rfl ?_
  refine lv_istore_n (lv' := [(3, .int (zI 1)), (2, .int (zI (fromZ S 0 t))), (0, .ref hb0), (1, .int (zI t))]) hx hb dX0_orderOf_8 rfl hl (by decide) rfl (fun ls hl => ?_)
  have loop9 : ∀ (n_ : Nat) (way : Int) (times : Int) (H : Heap) (locs : List Loc) (ls : Array Slot), (way = itZ S t times.toNat) → (0 ≤ way ∧ way < Wy) → (1 ≤ times ∧ times ≤ 12) → (ordG S t (12 - times).toNat times.toNat = ordZ S t) → (12 - times).toNat < n_ → kP G [(hb0, .inr (0, [.int (zI S), .int (zI C), .int (zI Wy), .int (zI Li), .int (zI St), .ref al]))] H → va_S A s.heap H locs → lv_has ls 4 [(3, .int (zI times)), (2, .int (zI way)), (0, .ref hb0), (1, .int (zI t))] → W p l e rmX0_orderOf s m ([.ref hb0, .int (zI t)] : List Value).toArray below meth c H locs 0 0 Q (F0 m 9 ls []) := by
    intro n_
    induction n_ with
    | zero =>
      intro way times H locs ls hwy hwr htm hfu hm
      exact absurd hm (Nat.not_lt_zero _)
    | succ n_ ih9 =>
      intro way times H locs ls hwy hwr htm hfu hm9 hP hS hl
      refine lv_iload_n hx hb dX0_orderOf_9 rfl (lv_at hl 1 rfl) ?_
      refine z_if_eq (tgt := 32) hx hb (by omega) dX0_orderOf_10 (by decide) (fun c_2 => ?_) (fun c_2 => ?_)
      · refine lv_iload_n hx hb dX0_orderOf_32 rfl (lv_at hl 0 rfl) ?_
        exact hret H locs ls 33 _ (congrArg zI (by exact ordZ_done hfu (by omega) (by omega))) hS dX0_orderOf_33
      · refine lv_iload_n hx hb dX0_orderOf_13 rfl (lv_at hl 0 rfl) ?_
        refine lv_bipush (v := zI 12) hx hb dX0_orderOf_14 (by decide) ?_
        refine z_icmp_ge (tgt := 32) hx hb (by omega) dX0_orderOf_16 (by decide) (fun c_3 => ?_) (fun c_3 => ?_)
        · refine lv_iload_n hx hb dX0_orderOf_32 rfl (lv_at hl 0 rfl) ?_
          exact hret H locs ls 33 _ (congrArg zI (by exact ordZ_done hfu (by omega) (by omega))) hS dX0_orderOf_33
        · refine lv_aload_n hx hb dX0_orderOf_19 rfl (lv_at hl 2 rfl) ?_
          refine lv_iload_n hx hb dX0_orderOf_20 rfl (lv_at hl 1 rfl) ?_
          refine lv_iload_n hx hb dX0_orderOf_21 rfl (lv_at hl 3 rfl) ?_
          refine z_cV (As := [.int (zI way), .int (zI t)]) (rest := []) ⟨hx, hb, hml, hown, hts⟩ (c_X0_from l G hb0 al S C Wy Li St way t (by first | assumption | omega) (by first | assumption | omega) (by first | assumption | omega)) (cwV 2 hts gX0_orderOf_X0_from rfl rfl rfl pd_X0_from ⟨(Nat.le_of_ble_eq_true rfl), (Nat.le_of_ble_eq_true rfl)⟩) hK hP hS [0] rfl rfl rfl rfl rfl hl.1 rfl (Nat.le_of_ble_eq_true rfl) dX0_orderOf_22 ⟨Nat.zero_le _, Nat.zero_le _⟩ (fun H locs hP hS => ?_)
          have hq_4 := fromZ_rng (C := C) (Wy := Wy) (w := way) (t := t) ((by first | assumption | omega)) ((by first | assumption | omega)) ((by first | assumption | omega))
          refine lv_istore_n (lv' := [(2, .int (zI (fromZ S way t))), (3, .int (zI times)), (0, .ref hb0), (1, .int (zI t))]) hx hb dX0_orderOf_25 rfl hl (by decide) rfl (fun ls hl => ?_)
          refine lv_iinc (v := zI (times + 1)) (lv' := [(3, .int (zI (times + 1))), (2, .int (zI (fromZ S way t))), (0, .ref hb0), (1, .int (zI t))]) hx hb dX0_orderOf_26 hl (k := 1) rfl (zI_add _ _) (by decide) rfl (fun ls hl => ?_)
          refine lv_goto (tgt := 9) hx hb dX0_orderOf_29 (by decide) ?_
          exact ih9 (fromZ S way t) (times + 1) H locs ls (by rw [tn1 (by omega), itZ, ← hwy]) (by omega) (by omega) (ordZ_step hfu (by omega) (by omega) (by omega)) (by omega) hP hS (lv_sub hl [0, 1, 2, 3] rfl)
  exact loop9 _ (fromZ S 0 t) 1 H locs ls rfl (by omega) (by omega) rfl (Nat.lt_succ_self _) hP hS (lv_sub hl [0, 1, 2, 3] rfl)
theorem pd_X0_comesThroughAll : yX0_comesThroughAll.cls = RX0 ∧ yX0_comesThroughAll.cls ≠ "java/lang/invoke/MethodHandle" ∧ yX0_comesThroughAll.cls ≠ "java/lang/invoke/VarHandle" ∧ (parseMethodDescriptor yX0_comesThroughAll.desc).map (fun d => d.parameters.length) = some 3 := by decide +kernel
abbrev rmX0_comesThroughAll : Room := { frames := 2, cells := 0, slots := 0, locals := 45 }
set_option maxHeartbeats 4000000 in
set_option maxRecDepth 100000 in
theorem c_X0_comesThroughAll (l : Launch) (G : CX) (hb0 : Nat) (al : Nat) (S : Int) (C : Int) (Wy : Int) (Li : Int) (St : Int) (home : Int) (a : Int) (b : Int) (hB : (2 ≤ S ∧ S ≤ 6) ∧ (C = 1 ∧ Wy = S ∨ C = 2 ∧ Wy = 2 * S)) (hh : 0 ≤ home ∧ home < Wy) (ha : 0 ≤ a ∧ a < Wy) (hbb : 0 ≤ b ∧ b < Wy) : Met l yX0_comesThroughAll wsX0_comesThroughAll rmX0_comesThroughAll (rdP G [.ref hb0, .int (zI home), .int (zI a), .int (zI b)] [(hb0, .inr (0, [.int (zI S), .int (zI C), .int (zI Wy), .int (zI Li), .int (zI St), .ref al]))]) (rdQ (zI (if thruS S a b home (2 * Wy).toNat = fullN Wy then 1 else 0))) 0 0 noA := by
  refine rd_ofW (cc := cX0_comesThroughAll) (maxL := 7) (ty := .boolean) (by decide) rfl (Nat.le_of_ble_eq_true rfl) (nb _) ?_
  intro p e s m below meth c Q A hx hb hml hown hts hK hret H locs hP hS ls hl
  have hown : s.vm.findClass RX0 = some m.cls := hown
  have hl : lv_has ls 7 [(0, .ref hb0), (1, .int (zI home)), (2, .int (zI a)), (3, .int (zI b))] := hl
  have f41 := hts (.fieldLink RX0 41 "QuarterTurns$Bed" "ways" "I") (by decide +kernel)
  have i0 : ∀ w ∈ wsX00, w ∈ wsX0_comesThroughAll := fun w h => List.mem_cons_of_mem _ (List.mem_append_right _ h)
  refine lv_iload_n hx hb dX0_comesThroughAll_0 rfl (lv_at hl 1 rfl) ?_
  refine lv_istore (lv' := [(4, .int (zI home)), (0, .ref hb0), (1, .int (zI home)), (2, .int (zI a)), (3, .int (zI b))]) hx hb dX0_comesThroughAll_1 hl (by decide) rfl (fun ls hl => ?_)
  refine lv_iconst (v := zI 1) hx hb dX0_comesThroughAll_3 rfl ?_
  refine lv_iload_n hx hb dX0_comesThroughAll_4 rfl (lv_at hl 2 rfl) ?_
  refine z_shl1 hx hb (by omega) dX0_comesThroughAll_5 ?_
  refine lv_istore (lv' := [(5, .int (zI ((2 ^ home.toNat : Nat) : Int))), (4, .int (zI home)), (0, .ref hb0), (1, .int (zI home)), (2, .int (zI a)), (3, .int (zI b))]) hx hb dX0_comesThroughAll_6 hl (by decide) rfl (fun ls hl => ?_)
  refine lv_iconst (v := zI 0) hx hb dX0_comesThroughAll_8 rfl ?_
  refine lv_istore (lv' := [(6, .int (zI 0)), (5, .int (zI ((2 ^ home.toNat : Nat) : Int))), (4, .int (zI home)), (0, .ref hb0), (1, .int (zI home)), (2, .int (zI a)), (3, .int (zI b))]) hx hb dX0_comesThroughAll_9 hl (by decide) rfl (fun ls hl => ?_)
  have loop11 : ∀ (n_ : Nat) (i : Int) (way : Int) (seen : Nat) (H : Heap) (locs : List Loc) (ls : Array Slot), (0 ≤ i ∧ i ≤ 2 * Wy) → (0 ≤ way ∧ way < Wy) → (way = thruW S a b home i.toNat) → (seen = thruS S a b home i.toNat) → (seen < 4096) → (2 * Wy - i).toNat < n_ → kP G [(hb0, .inr (0, [.int (zI S), .int (zI C), .int (zI Wy), .int (zI Li), .int (zI St), .ref al]))] H → va_S A s.heap H locs → lv_has ls 7 [(6, .int (zI i)), (5, .int (zI ((seen : Nat) : Int))), (4, .int (zI way)), (0, .ref hb0), (1, .int (zI home)), (2, .int (zI a)), (3, .int (zI b))] → W p l e rmX0_comesThroughAll s m ([.ref hb0, .int (zI home), .int (zI a), .int (zI b)] : List Value).toArray below meth c H locs 0 0 Q (F0 m 11 ls []) := by
    intro n_
    induction n_ with
    | zero =>
      intro i way seen H locs ls hi hwr hwy hsn hsl hm
      exact absurd hm (Nat.not_lt_zero _)
    | succ n_ ih11 =>
      intro i way seen H locs ls hi hwr hwy hsn hsl hm11 hP hS hl
      refine lv_iload hx hb dX0_comesThroughAll_11 (lv_at hl 0 rfl) ?_
      refine lv_iconst (v := zI 2) hx hb dX0_comesThroughAll_13 rfl ?_
      refine lv_aload_n hx hb dX0_comesThroughAll_14 rfl (lv_at hl 3 rfl) ?_
      refine va_get (ci := 0) (v := .int (zI Wy)) (C := RX0) (T := TX0) (N := 6) hx hb hts i0 hown hK hP 0 rfl rfl 2 (by decide) f41 (fun _ h9 => h9) rfl dX0_comesThroughAll_15 ?_
      refine z_imul hx hb dX0_comesThroughAll_18 ?_
      refine z_icmp_ge (tgt := 57) hx hb (by omega) dX0_comesThroughAll_19 (by decide) (fun c_1 => ?_) (fun c_1 => ?_)
      · refine lv_iload hx hb dX0_comesThroughAll_57 (lv_at hl 1 rfl) ?_
        refine lv_aload_n hx hb dX0_comesThroughAll_59 rfl (lv_at hl 3 rfl) ?_
        refine z_cV (As := []) (rest := [.int (zI ((seen : Nat) : Int))]) ⟨hx, hb, hml, hown, hts⟩ (c_X0_allBits l G hb0 al S C Wy Li St (by first | assumption | omega)) (cwV 0 hts gX0_comesThroughAll_X0_allBits rfl rfl rfl pd_X0_allBits ⟨(Nat.le_of_ble_eq_true rfl), (Nat.le_of_ble_eq_true rfl)⟩) hK hP hS [0] rfl rfl rfl rfl rfl hl.1 rfl (Nat.le_of_ble_eq_true rfl) dX0_comesThroughAll_60 ⟨Nat.zero_le _, Nat.zero_le _⟩ (fun H locs hP hS => ?_)
        have hq_2 := fullN_lt (W := Wy) (by omega)
        refine z_icmp_ne (tgt := 70) hx hb (by omega) dX0_comesThroughAll_63 (by decide) (fun c_3 => ?_) (fun c_3 => ?_)
        · refine lv_iconst (v := zI 0) hx hb dX0_comesThroughAll_70 rfl ?_
          exact hret H locs ls 71 _ (congrArg zI (if_neg (by rw [show (2 * Wy).toNat = i.toNat by omega, ← hsn]; omega)).symm) hS dX0_comesThroughAll_71
        · refine lv_iconst (v := zI 1) hx hb dX0_comesThroughAll_66 rfl ?_
          refine lv_goto (tgt := 71) hx hb dX0_comesThroughAll_67 (by decide) ?_
          exact hret H locs ls 71 _ (congrArg zI (if_pos (by rw [show (2 * Wy).toNat = i.toNat by omega, ← hsn]; omega)).symm) hS dX0_comesThroughAll_71
      · refine lv_aload_n hx hb dX0_comesThroughAll_22 rfl (lv_at hl 3 rfl) ?_
        refine lv_iload hx hb dX0_comesThroughAll_23 (lv_at hl 2 rfl) ?_
        refine lv_iload hx hb dX0_comesThroughAll_25 (lv_at hl 0 rfl) ?_
        refine lv_iconst (v := zI 1) hx hb dX0_comesThroughAll_27 rfl ?_
        refine z_and1 hx hb (by omega) dX0_comesThroughAll_28 ?_
        refine z_if_ne (tgt := 36) hx hb (by omega) dX0_comesThroughAll_29 (by decide) (fun c_4 => ?_) (fun c_4 => ?_)
        · refine lv_iload_n hx hb dX0_comesThroughAll_36 rfl (lv_at hl 6 rfl) ?_
          refine z_cV (As := [.int (zI way), .int (zI b)]) (rest := []) ⟨hx, hb, hml, hown, hts⟩ (c_X0_from l G hb0 al S C Wy Li St way b (by first | assumption | omega) (by first | assumption | omega) (by first | assumption | omega)) (cwV 2 hts gX0_comesThroughAll_X0_from rfl rfl rfl pd_X0_from ⟨(Nat.le_of_ble_eq_true rfl), (Nat.le_of_ble_eq_true rfl)⟩) hK hP hS [0] rfl rfl rfl rfl rfl hl.1 rfl (Nat.le_of_ble_eq_true rfl) dX0_comesThroughAll_37 ⟨Nat.zero_le _, Nat.zero_le _⟩ (fun H locs hP hS => ?_)
          have hq_5 := fromZ_rng (C := C) (Wy := Wy) (w := way) (t := b) ((by first | assumption | omega)) ((by first | assumption | omega)) ((by first | assumption | omega))
          refine lv_istore (lv' := [(4, .int (zI (fromZ S way b))), (6, .int (zI i)), (5, .int (zI ((seen : Nat) : Int))), (0, .ref hb0), (1, .int (zI home)), (2, .int (zI a)), (3, .int (zI b))]) hx hb dX0_comesThroughAll_40 hl (by decide) rfl (fun ls hl => ?_)
          refine lv_iload hx hb dX0_comesThroughAll_42 (lv_at hl 2 rfl) ?_
          refine lv_iconst (v := zI 1) hx hb dX0_comesThroughAll_44 rfl ?_
          refine lv_iload hx hb dX0_comesThroughAll_45 (lv_at hl 0 rfl) ?_
          refine z_shl1 hx hb (by omega) dX0_comesThroughAll_47 ?_
          refine z_ior (a := seen) (b := (2 ^ (fromZ S way b).toNat)) hx hb dX0_comesThroughAll_48 ?_
          refine lv_istore (lv' := [(5, .int (zI ((seen ||| (2 ^ (fromZ S way b).toNat) : Nat) : Int))), (4, .int (zI (fromZ S way b))), (6, .int (zI i)), (0, .ref hb0), (1, .int (zI home)), (2, .int (zI a)), (3, .int (zI b))]) hx hb dX0_comesThroughAll_49 hl (by decide) rfl (fun ls hl => ?_)
          refine lv_iinc (v := zI (i + 1)) (lv' := [(6, .int (zI (i + 1))), (5, .int (zI ((seen ||| (2 ^ (fromZ S way b).toNat) : Nat) : Int))), (4, .int (zI (fromZ S way b))), (0, .ref hb0), (1, .int (zI home)), (2, .int (zI a)), (3, .int (zI b))]) hx hb dX0_comesThroughAll_51 hl (k := 2) rfl (zI_add _ _) (by decide) rfl (fun ls hl => ?_)
          refine lv_goto (tgt := 11) hx hb dX0_comesThroughAll_54 (by decide) ?_
          exact ih11 (i + 1) (fromZ S way b) (seen ||| (2 ^ (fromZ S way b).toNat)) H locs ls (by omega) (by omega) (by first | rw [tn1 hi.1, thruW, ← hwy, if_pos (by omega)] | rw [tn1 hi.1, thruW, ← hwy, if_neg (by omega)]) (by rw [tn1 hi.1, thruS, thruW, ← hwy, ← hsn]; first | rw [if_pos (by omega)] | rw [if_neg (by omega)]) (by exact or_lt hsl (bit_lt (by omega))) (by omega) hP hS (lv_sub hl [0, 1, 2, 3, 4, 5, 6] rfl)
        · refine lv_iload_n hx hb dX0_comesThroughAll_32 rfl (lv_at hl 5 rfl) ?_
          refine lv_goto (tgt := 37) hx hb dX0_comesThroughAll_33 (by decide) ?_
          refine z_cV (As := [.int (zI way), .int (zI a)]) (rest := []) ⟨hx, hb, hml, hown, hts⟩ (c_X0_from l G hb0 al S C Wy Li St way a (by first | assumption | omega) (by first | assumption | omega) (by first | assumption | omega)) (cwV 2 hts gX0_comesThroughAll_X0_from rfl rfl rfl pd_X0_from ⟨(Nat.le_of_ble_eq_true rfl), (Nat.le_of_ble_eq_true rfl)⟩) hK hP hS [0] rfl rfl rfl rfl rfl hl.1 rfl (Nat.le_of_ble_eq_true rfl) dX0_comesThroughAll_37 ⟨Nat.zero_le _, Nat.zero_le _⟩ (fun H locs hP hS => ?_)
          have hq_6 := fromZ_rng (C := C) (Wy := Wy) (w := way) (t := a) ((by first | assumption | omega)) ((by first | assumption | omega)) ((by first | assumption | omega))
          refine lv_istore (lv' := [(4, .int (zI (fromZ S way a))), (6, .int (zI i)), (5, .int (zI ((seen : Nat) : Int))), (0, .ref hb0), (1, .int (zI home)), (2, .int (zI a)), (3, .int (zI b))]) hx hb dX0_comesThroughAll_40 hl (by decide) rfl (fun ls hl => ?_)
          refine lv_iload hx hb dX0_comesThroughAll_42 (lv_at hl 2 rfl) ?_
          refine lv_iconst (v := zI 1) hx hb dX0_comesThroughAll_44 rfl ?_
          refine lv_iload hx hb dX0_comesThroughAll_45 (lv_at hl 0 rfl) ?_
          refine z_shl1 hx hb (by omega) dX0_comesThroughAll_47 ?_
          refine z_ior (a := seen) (b := (2 ^ (fromZ S way a).toNat)) hx hb dX0_comesThroughAll_48 ?_
          refine lv_istore (lv' := [(5, .int (zI ((seen ||| (2 ^ (fromZ S way a).toNat) : Nat) : Int))), (4, .int (zI (fromZ S way a))), (6, .int (zI i)), (0, .ref hb0), (1, .int (zI home)), (2, .int (zI a)), (3, .int (zI b))]) hx hb dX0_comesThroughAll_49 hl (by decide) rfl (fun ls hl => ?_)
          refine lv_iinc (v := zI (i + 1)) (lv' := [(6, .int (zI (i + 1))), (5, .int (zI ((seen ||| (2 ^ (fromZ S way a).toNat) : Nat) : Int))), (4, .int (zI (fromZ S way a))), (0, .ref hb0), (1, .int (zI home)), (2, .int (zI a)), (3, .int (zI b))]) hx hb dX0_comesThroughAll_51 hl (k := 2) rfl (zI_add _ _) (by decide) rfl (fun ls hl => ?_)
          refine lv_goto (tgt := 11) hx hb dX0_comesThroughAll_54 (by decide) ?_
          exact ih11 (i + 1) (fromZ S way a) (seen ||| (2 ^ (fromZ S way a).toNat)) H locs ls (by omega) (by omega) (by first | rw [tn1 hi.1, thruW, ← hwy, if_pos (by omega)] | rw [tn1 hi.1, thruW, ← hwy, if_neg (by omega)]) (by rw [tn1 hi.1, thruS, thruW, ← hwy, ← hsn]; first | rw [if_pos (by omega)] | rw [if_neg (by omega)]) (by exact or_lt hsl (bit_lt (by omega))) (by omega) hP hS (lv_sub hl [0, 1, 2, 3, 4, 5, 6] rfl)
  exact loop11 _ 0 home (2 ^ home.toNat) H locs ls (by omega) (by omega) rfl rfl (by exact bit_lt (by omega)) (Nat.lt_succ_self _) hP hS (lv_sub hl [0, 1, 2, 3, 4, 5, 6] rfl)
theorem pd_X0_oneTurnFrom : yX0_oneTurnFrom.cls = RX0 ∧ yX0_oneTurnFrom.cls ≠ "java/lang/invoke/MethodHandle" ∧ yX0_oneTurnFrom.cls ≠ "java/lang/invoke/VarHandle" ∧ (parseMethodDescriptor yX0_oneTurnFrom.desc).map (fun d => d.parameters.length) = some 2 := by decide +kernel
abbrev rmX0_oneTurnFrom : Room := { frames := 2, cells := 0, slots := 0, locals := 45 }
set_option maxHeartbeats 4000000 in
set_option maxRecDepth 100000 in
theorem c_X0_oneTurnFrom (l : Launch) (G : CX) (hb0 : Nat) (al : Nat) (S : Int) (C : Int) (Wy : Int) (Li : Int) (St : Int) (w : Int) (set : Int) (hB : (2 ≤ S ∧ S ≤ 6) ∧ (C = 1 ∧ Wy = S ∨ C = 2 ∧ Wy = 2 * S)) (hw : 0 ≤ w ∧ w < Wy) (hset : 0 ≤ set ∧ set < 4096) : Met l yX0_oneTurnFrom wsX0_oneTurnFrom rmX0_oneTurnFrom (rdP G [.ref hb0, .int (zI w), .int (zI set)] [(hb0, .inr (0, [.int (zI S), .int (zI C), .int (zI Wy), .int (zI Li), .int (zI St), .ref al]))]) (rdQ (zI ((oneT S set.toNat w Wy.toNat : Nat) : Int))) 0 0 noA := by
  refine rd_ofW (cc := cX0_oneTurnFrom) (maxL := 5) (ty := .int) (by decide) rfl (Nat.le_of_ble_eq_true rfl) rfl ?_
  intro p e s m below meth c Q A hx hb hml hown hts hK hret H locs hP hS ls hl
  have hown : s.vm.findClass RX0 = some m.cls := hown
  have hl : lv_has ls 5 [(0, .ref hb0), (1, .int (zI w)), (2, .int (zI set))] := hl
  have f41 := hts (.fieldLink RX0 41 "QuarterTurns$Bed" "ways" "I") (by decide +kernel)
  have i0 : ∀ w ∈ wsX00, w ∈ wsX0_oneTurnFrom := fun w h => List.mem_cons_of_mem _ (List.mem_append_right _ h)
  refine lv_iconst (v := zI 0) hx hb dX0_oneTurnFrom_0 rfl ?_
  refine lv_istore_n (lv' := [(3, .int (zI 0)), (0, .ref hb0), (1, .int (zI w)), (2, .int (zI set))]) hx hb dX0_oneTurnFrom_1 rfl hl (by decide) rfl (fun ls hl => ?_)
  refine lv_iconst (v := zI 0) hx hb dX0_oneTurnFrom_2 rfl ?_
  refine lv_istore (lv' := [(4, .int (zI 0)), (3, .int (zI 0)), (0, .ref hb0), (1, .int (zI w)), (2, .int (zI set))]) hx hb dX0_oneTurnFrom_3 hl (by decide) rfl (fun ls hl => ?_)
  have loop5 : ∀ (n_ : Nat) (t : Int) (bits : Nat) (H : Heap) (locs : List Loc) (ls : Array Slot), (0 ≤ t ∧ t ≤ Wy) → (bits = oneT S set.toNat w t.toNat) → (Wy - t).toNat < n_ → kP G [(hb0, .inr (0, [.int (zI S), .int (zI C), .int (zI Wy), .int (zI Li), .int (zI St), .ref al]))] H → va_S A s.heap H locs → lv_has ls 5 [(4, .int (zI t)), (3, .int (zI ((bits : Nat) : Int))), (0, .ref hb0), (1, .int (zI w)), (2, .int (zI set))] → W p l e rmX0_oneTurnFrom s m ([.ref hb0, .int (zI w), .int (zI set)] : List Value).toArray below meth c H locs 0 0 Q (F0 m 5 ls []) := by
    intro n_
    induction n_ with
    | zero =>
      intro t bits H locs ls hti hbt hm
      exact absurd hm (Nat.not_lt_zero _)
    | succ n_ ih5 =>
      intro t bits H locs ls hti hbt hm5 hP hS hl
      refine lv_iload hx hb dX0_oneTurnFrom_5 (lv_at hl 0 rfl) ?_
      refine lv_aload_n hx hb dX0_oneTurnFrom_7 rfl (lv_at hl 2 rfl) ?_
      refine va_get (ci := 0) (v := .int (zI Wy)) (C := RX0) (T := TX0) (N := 6) hx hb hts i0 hown hK hP 0 rfl rfl 2 (by decide) f41 (fun _ h9 => h9) rfl dX0_oneTurnFrom_8 ?_
      refine z_icmp_ge (tgt := 41) hx hb (by omega) dX0_oneTurnFrom_11 (by decide) (fun c_1 => ?_) (fun c_1 => ?_)
      · refine lv_iload_n hx hb dX0_oneTurnFrom_41 rfl (lv_at hl 1 rfl) ?_
        exact hret H locs ls 42 _ (congrArg zI (by rw [show Wy.toNat = t.toNat by omega, ← hbt])) hS dX0_oneTurnFrom_42
      · refine lv_iload_n hx hb dX0_oneTurnFrom_14 rfl (lv_at hl 4 rfl) ?_
        refine lv_iload hx hb dX0_oneTurnFrom_15 (lv_at hl 0 rfl) ?_
        refine z_ishrZ (a := set) hx hb (by omega) (by omega) dX0_oneTurnFrom_17 ?_
        refine lv_iconst (v := zI 1) hx hb dX0_oneTurnFrom_18 rfl ?_
        refine z_iand (a := set.toNat >>> t.toNat) (b := 1) hx hb dX0_oneTurnFrom_19 ?_
        refine z_top (bit_ite set.toNat t.toNat) ?_
        refine z_ifeq_b (tgt := 35) hx hb dX0_oneTurnFrom_20 (by decide) (fun c_2 => ?_) (fun c_2 => ?_)
        · refine lv_iinc (v := zI (t + 1)) (lv' := [(4, .int (zI (t + 1))), (3, .int (zI ((bits : Nat) : Int))), (0, .ref hb0), (1, .int (zI w)), (2, .int (zI set))]) hx hb dX0_oneTurnFrom_35 hl (k := 0) rfl (zI_add _ _) (by decide) rfl (fun ls hl => ?_)
          refine lv_goto (tgt := 5) hx hb dX0_oneTurnFrom_38 (by decide) ?_
          exact ih5 (t + 1) bits H locs ls (by omega) (by rw [tn1 hti.1, oneT, ← hbt, Int.toNat_of_nonneg hti.1]; first | rw [if_pos (by assumption)] | rw [if_neg (by assumption)]) (by omega) hP hS (lv_sub hl [0, 1, 2, 3, 4] rfl)
        · refine lv_iload_n hx hb dX0_oneTurnFrom_23 rfl (lv_at hl 1 rfl) ?_
          refine lv_iconst (v := zI 1) hx hb dX0_oneTurnFrom_24 rfl ?_
          refine lv_aload_n hx hb dX0_oneTurnFrom_25 rfl (lv_at hl 2 rfl) ?_
          refine lv_iload_n hx hb dX0_oneTurnFrom_26 rfl (lv_at hl 3 rfl) ?_
          refine lv_iload hx hb dX0_oneTurnFrom_27 (lv_at hl 0 rfl) ?_
          refine z_cV (As := [.int (zI w), .int (zI t)]) (rest := [.int (zI 1), .int (zI ((bits : Nat) : Int))]) ⟨hx, hb, hml, hown, hts⟩ (c_X0_from l G hb0 al S C Wy Li St w t (by first | assumption | omega) (by first | assumption | omega) (by first | assumption | omega)) (cwV 2 hts gX0_oneTurnFrom_X0_from rfl rfl rfl pd_X0_from ⟨(Nat.le_of_ble_eq_true rfl), (Nat.le_of_ble_eq_true rfl)⟩) hK hP hS [0] rfl rfl rfl rfl rfl hl.1 rfl (Nat.le_of_ble_eq_true rfl) dX0_oneTurnFrom_29 ⟨Nat.zero_le _, Nat.zero_le _⟩ (fun H locs hP hS => ?_)
          have hq_3 := fromZ_rng (C := C) (Wy := Wy) (w := w) (t := t) ((by first | assumption | omega)) ((by first | assumption | omega)) ((by first | assumption | omega))
          refine z_shl1 hx hb (by omega) dX0_oneTurnFrom_32 ?_
          refine z_ior (a := bits) (b := (2 ^ (fromZ S w t).toNat)) hx hb dX0_oneTurnFrom_33 ?_
          refine lv_istore_n (lv' := [(3, .int (zI ((bits ||| (2 ^ (fromZ S w t).toNat) : Nat) : Int))), (4, .int (zI t)), (0, .ref hb0), (1, .int (zI w)), (2, .int (zI set))]) hx hb dX0_oneTurnFrom_34 rfl hl (by decide) rfl (fun ls hl => ?_)
          refine lv_iinc (v := zI (t + 1)) (lv' := [(4, .int (zI (t + 1))), (3, .int (zI ((bits ||| (2 ^ (fromZ S w t).toNat) : Nat) : Int))), (0, .ref hb0), (1, .int (zI w)), (2, .int (zI set))]) hx hb dX0_oneTurnFrom_35 hl (k := 1) rfl (zI_add _ _) (by decide) rfl (fun ls hl => ?_)
          refine lv_goto (tgt := 5) hx hb dX0_oneTurnFrom_38 (by decide) ?_
          exact ih5 (t + 1) (bits ||| (2 ^ (fromZ S w t).toNat)) H locs ls (by omega) (by rw [tn1 hti.1, oneT, ← hbt, Int.toNat_of_nonneg hti.1]; first | rw [if_pos (by assumption)] | rw [if_neg (by assumption)]) (by omega) hP hS (lv_sub hl [0, 1, 2, 3, 4] rfl)
  exact loop5 _ 0 0 H locs ls (by omega) rfl (Nat.lt_succ_self _) hP hS (lv_sub hl [0, 1, 2, 3, 4] rfl)
theorem pd_X0_reached : yX0_reached.cls = RX0 ∧ yX0_reached.cls ≠ "java/lang/invoke/MethodHandle" ∧ yX0_reached.cls ≠ "java/lang/invoke/VarHandle" ∧ (parseMethodDescriptor yX0_reached.desc).map (fun d => d.parameters.length) = some 2 := by decide +kernel
abbrev rmX0_reached : Room := { frames := 3, cells := 0, slots := 0, locals := 69 }
set_option maxHeartbeats 4000000 in
set_option maxRecDepth 100000 in
theorem c_X0_reached (l : Launch) (G : CX) (hb0 : Nat) (al : Nat) (S : Int) (C : Int) (Wy : Int) (Li : Int) (St : Int) (home : Int) (set : Int) (hB : (2 ≤ S ∧ S ≤ 6) ∧ (C = 1 ∧ Wy = S ∨ C = 2 ∧ Wy = 2 * S)) (hh : 0 ≤ home ∧ home < Wy) (hset : 0 ≤ set ∧ set < 4096) : Met l yX0_reached wsX0_reached rmX0_reached (rdP G [.ref hb0, .int (zI home), .int (zI set)] [(hb0, .inr (0, [.int (zI S), .int (zI C), .int (zI Wy), .int (zI Li), .int (zI St), .ref al]))]) (rdQ (zI ((reS S Wy.toNat set.toNat home Wy.toNat : Nat) : Int))) 0 0 noA := by
  refine rd_ofW (cc := cX0_reached) (maxL := 7) (ty := .int) (by decide) rfl (Nat.le_of_ble_eq_true rfl) rfl ?_
  intro p e s m below meth c Q A hx hb hml hown hts hK hret H locs hP hS ls hl
  have hown : s.vm.findClass RX0 = some m.cls := hown
  have hl : lv_has ls 7 [(0, .ref hb0), (1, .int (zI home)), (2, .int (zI set))] := hl
  have f41 := hts (.fieldLink RX0 41 "QuarterTurns$Bed" "ways" "I") (by decide +kernel)
  have i0 : ∀ w ∈ wsX00, w ∈ wsX0_reached := fun w h => List.mem_cons_of_mem _ (List.mem_append_right _ h)
  refine lv_iconst (v := zI 1) hx hb dX0_reached_0 rfl ?_
  refine lv_iload_n hx hb dX0_reached_1 rfl (lv_at hl 1 rfl) ?_
  refine z_shl1 hx hb (by omega) dX0_reached_2 ?_
  refine lv_istore_n (lv' := [(3, .int (zI ((2 ^ home.toNat : Nat) : Int))), (0, .ref hb0), (1, .int (zI home)), (2, .int (zI set))]) hx hb dX0_reached_3 rfl hl (by decide) rfl (fun ls hl => ?_)
  refine lv_iconst (v := zI 0) hx hb dX0_reached_4 rfl ?_
  refine lv_istore (lv' := [(4, .int (zI 0)), (3, .int (zI ((2 ^ home.toNat : Nat) : Int))), (0, .ref hb0), (1, .int (zI home)), (2, .int (zI set))]) hx hb dX0_reached_5 hl (by decide) rfl (fun ls hl => ?_)
  refine lv_iconst (v := zI 0) hx hb dX0_reached_7 rfl ?_
  refine lv_istore (lv' := [(5, .int (zI 0)), (4, .int (zI 0)), (3, .int (zI ((2 ^ home.toNat : Nat) : Int))), (0, .ref hb0), (1, .int (zI home)), (2, .int (zI set))]) hx hb dX0_reached_8 hl (by decide) rfl (fun ls hl => ?_)
  have loop10 : ∀ (n_ : Nat) (i : Int) (seen : Nat) (bef : Nat) (H : Heap) (locs : List Loc) (ls : Array Slot), (0 ≤ i ∧ i ≤ Wy) → (seen = reS S Wy.toNat set.toNat home i.toNat) → ((i = 0 ∧ bef = 0) ∨ (0 < i ∧ bef = reS S Wy.toNat set.toNat home (i - 1).toNat)) → (bef < 4096) → (Wy - i).toNat < n_ → kP G [(hb0, .inr (0, [.int (zI S), .int (zI C), .int (zI Wy), .int (zI Li), .int (zI St), .ref al]))] H → va_S A s.heap H locs → lv_has ls 7 [(5, .int (zI i)), (4, .int (zI ((bef : Nat) : Int))), (3, .int (zI ((seen : Nat) : Int))), (0, .ref hb0), (1, .int (zI home)), (2, .int (zI set))] → W p l e rmX0_reached s m ([.ref hb0, .int (zI home), .int (zI set)] : List Value).toArray below meth c H locs 0 0 Q (F0 m 10 ls []) := by
    intro n_
    induction n_ with
    | zero =>
      intro i seen bef H locs ls hi hsn hbf hbl hm
      exact absurd hm (Nat.not_lt_zero _)
    | succ n_ ih10 =>
      intro i seen bef H locs ls hi hsn hbf hbl hm10 hP hS hl
      have hsl : seen < 4096 := by rw [hsn]; exact reS_lt _ hB hh _
      refine lv_iload hx hb dX0_reached_10 (lv_at hl 0 rfl) ?_
      refine lv_aload_n hx hb dX0_reached_12 rfl (lv_at hl 3 rfl) ?_
      refine va_get (ci := 0) (v := .int (zI Wy)) (C := RX0) (T := TX0) (N := 6) hx hb hts i0 hown hK hP 0 rfl rfl 2 (by decide) f41 (fun _ h9 => h9) rfl dX0_reached_13 ?_
      refine z_icmp_ge (tgt := 72) hx hb (by omega) dX0_reached_16 (by decide) (fun c_1 => ?_) (fun c_1 => ?_)
      · refine lv_iload_n hx hb dX0_reached_72 rfl (lv_at hl 2 rfl) ?_
        exact hret H locs ls 73 _ (congrArg zI (by first | exact re_end (by omega) hsn | exact re_early hi hsn hbf (by omega) (by omega))) hS dX0_reached_73
      · refine lv_iload_n hx hb dX0_reached_19 rfl (lv_at hl 2 rfl) ?_
        refine lv_iload hx hb dX0_reached_20 (lv_at hl 1 rfl) ?_
        refine z_icmp_eq (tgt := 72) hx hb (by omega) dX0_reached_22 (by decide) (fun c_2 => ?_) (fun c_2 => ?_)
        · refine lv_iload_n hx hb dX0_reached_72 rfl (lv_at hl 2 rfl) ?_
          exact hret H locs ls 73 _ (congrArg zI (by first | exact re_end (by omega) hsn | exact re_early hi hsn hbf (by omega) (by omega))) hS dX0_reached_73
        · refine lv_iload_n hx hb dX0_reached_25 rfl (lv_at hl 2 rfl) ?_
          refine lv_istore (lv' := [(4, .int (zI ((seen : Nat) : Int))), (5, .int (zI i)), (3, .int (zI ((seen : Nat) : Int))), (0, .ref hb0), (1, .int (zI home)), (2, .int (zI set))]) hx hb dX0_reached_26 hl (by decide) rfl (fun ls hl => ?_)
          refine lv_iconst (v := zI 0) hx hb dX0_reached_28 rfl ?_
          refine lv_istore (lv' := [(6, .int (zI 0)), (4, .int (zI ((seen : Nat) : Int))), (5, .int (zI i)), (3, .int (zI ((seen : Nat) : Int))), (0, .ref hb0), (1, .int (zI home)), (2, .int (zI set))]) hx hb dX0_reached_29 hl (by decide) rfl (fun ls hl => ?_)
          have loop31 : ∀ (n_ : Nat) (way : Int) (se : Nat) (H : Heap) (locs : List Loc) (ls : Array Slot), (0 ≤ way ∧ way ≤ Wy) → (se = rIn S Wy.toNat set.toNat seen seen way.toNat) → (se < 4096) → (Wy - way).toNat < n_ → kP G [(hb0, .inr (0, [.int (zI S), .int (zI C), .int (zI Wy), .int (zI Li), .int (zI St), .ref al]))] H → va_S A s.heap H locs → lv_has ls 7 [(6, .int (zI way)), (4, .int (zI ((seen : Nat) : Int))), (5, .int (zI i)), (3, .int (zI ((se : Nat) : Int))), (0, .ref hb0), (1, .int (zI home)), (2, .int (zI set))] → W p l e rmX0_reached s m ([.ref hb0, .int (zI home), .int (zI set)] : List Value).toArray below meth c H locs 0 0 Q (F0 m 31 ls []) := by
            intro n_
            induction n_ with
            | zero =>
              intro way se H locs ls hwi hse hse2 hm
              exact absurd hm (Nat.not_lt_zero _)
            | succ n_ ih31 =>
              intro way se H locs ls hwi hse hse2 hm31 hP hS hl
              refine lv_iload hx hb dX0_reached_31 (lv_at hl 0 rfl) ?_
              refine lv_aload_n hx hb dX0_reached_33 rfl (lv_at hl 4 rfl) ?_
              refine va_get (ci := 0) (v := .int (zI Wy)) (C := RX0) (T := TX0) (N := 6) hx hb hts i0 hown hK hP 0 rfl rfl 2 (by decide) f41 (fun _ h9 => h9) rfl dX0_reached_34 ?_
              refine z_icmp_ge (tgt := 66) hx hb (by omega) dX0_reached_37 (by decide) (fun c_3 => ?_) (fun c_3 => ?_)
              · refine lv_iinc (v := zI (i + 1)) (lv' := [(5, .int (zI (i + 1))), (6, .int (zI way)), (4, .int (zI ((seen : Nat) : Int))), (3, .int (zI ((se : Nat) : Int))), (0, .ref hb0), (1, .int (zI home)), (2, .int (zI set))]) hx hb dX0_reached_66 hl (k := 2) rfl (zI_add _ _) (by decide) rfl (fun ls hl => ?_)
                refine lv_goto (tgt := 10) hx hb dX0_reached_69 (by decide) ?_
                exact ih10 (i + 1) se seen H locs ls (by omega) (by rw [tn1 hi.1, reS, ← hsn, hse, show way = Wy by omega]) (by right; exact ⟨by omega, by rw [show (i + 1 - 1).toNat = i.toNat by omega]; exact hsn⟩) hsl (by omega) hP hS (lv_sub hl [0, 2, 3, 4, 5, 6] rfl)
              · refine lv_iload hx hb dX0_reached_40 (lv_at hl 1 rfl) ?_
                refine lv_iload hx hb dX0_reached_42 (lv_at hl 0 rfl) ?_
                refine z_ishr (a := seen) hx hb (by omega) (by omega) dX0_reached_44 ?_
                refine lv_iconst (v := zI 1) hx hb dX0_reached_45 rfl ?_
                refine z_iand (a := seen >>> way.toNat) (b := 1) hx hb dX0_reached_46 ?_
                refine z_top (bit_ite seen way.toNat) ?_
                refine z_ifeq_b (tgt := 60) hx hb dX0_reached_47 (by decide) (fun c_4 => ?_) (fun c_4 => ?_)
                · refine lv_iinc (v := zI (way + 1)) (lv' := [(6, .int (zI (way + 1))), (4, .int (zI ((seen : Nat) : Int))), (5, .int (zI i)), (3, .int (zI ((se : Nat) : Int))), (0, .ref hb0), (1, .int (zI home)), (2, .int (zI set))]) hx hb dX0_reached_60 hl (k := 0) rfl (zI_add _ _) (by decide) rfl (fun ls hl => ?_)
                  refine lv_goto (tgt := 31) hx hb dX0_reached_63 (by decide) ?_
                  exact ih31 (way + 1) se H locs ls (by omega) (by rw [tn1 hwi.1, rIn, ← hse, Int.toNat_of_nonneg hwi.1]; first | rw [if_pos (by assumption)] | rw [if_neg (by assumption)]) (by first | exact hse2 | exact or_lt hse2 (by assumption)) (by omega) hP hS (lv_sub hl [0, 1, 2, 3, 4, 5, 6] rfl)
                · refine lv_iload_n hx hb dX0_reached_50 rfl (lv_at hl 3 rfl) ?_
                  refine lv_aload_n hx hb dX0_reached_51 rfl (lv_at hl 4 rfl) ?_
                  refine lv_iload hx hb dX0_reached_52 (lv_at hl 0 rfl) ?_
                  refine lv_iload_n hx hb dX0_reached_54 rfl (lv_at hl 6 rfl) ?_
                  refine z_cV (As := [.int (zI way), .int (zI set)]) (rest := [.int (zI ((se : Nat) : Int))]) ⟨hx, hb, hml, hown, hts⟩ (c_X0_oneTurnFrom l G hb0 al S C Wy Li St way set (by first | assumption | omega) (by first | assumption | omega) (by first | assumption | omega)) (cwV 2 hts gX0_reached_X0_oneTurnFrom rfl rfl rfl pd_X0_oneTurnFrom ⟨(Nat.le_of_ble_eq_true rfl), (Nat.le_of_ble_eq_true rfl)⟩) hK hP hS [0] rfl rfl rfl rfl rfl hl.1 rfl (Nat.le_of_ble_eq_true rfl) dX0_reached_55 ⟨Nat.zero_le _, Nat.zero_le _⟩ (fun H locs hP hS => ?_)
                  have hq_5 := oneT_lt (Wy := Wy) (C := C) (w := way) (set.toNat) ((by first | assumption | omega)) ((by first | assumption | omega)) (Wy.toNat) (by omega)
                  refine z_ior (a := se) (b := (oneT S set.toNat way Wy.toNat)) hx hb dX0_reached_58 ?_
                  refine lv_istore_n (lv' := [(3, .int (zI ((se ||| (oneT S set.toNat way Wy.toNat) : Nat) : Int))), (6, .int (zI way)), (4, .int (zI ((seen : Nat) : Int))), (5, .int (zI i)), (0, .ref hb0), (1, .int (zI home)), (2, .int (zI set))]) hx hb dX0_reached_59 rfl hl (by decide) rfl (fun ls hl => ?_)
                  refine lv_iinc (v := zI (way + 1)) (lv' := [(6, .int (zI (way + 1))), (3, .int (zI ((se ||| (oneT S set.toNat way Wy.toNat) : Nat) : Int))), (4, .int (zI ((seen : Nat) : Int))), (5, .int (zI i)), (0, .ref hb0), (1, .int (zI home)), (2, .int (zI set))]) hx hb dX0_reached_60 hl (k := 1) rfl (zI_add _ _) (by decide) rfl (fun ls hl => ?_)
                  refine lv_goto (tgt := 31) hx hb dX0_reached_63 (by decide) ?_
                  exact ih31 (way + 1) (se ||| (oneT S set.toNat way Wy.toNat)) H locs ls (by omega) (by rw [tn1 hwi.1, rIn, ← hse, Int.toNat_of_nonneg hwi.1]; first | rw [if_pos (by assumption)] | rw [if_neg (by assumption)]) (by first | exact hse2 | exact or_lt hse2 (by assumption)) (by omega) hP hS (lv_sub hl [0, 2, 3, 1, 4, 5, 6] rfl)
          exact loop31 _ 0 seen H locs ls (by omega) rfl hsl (Nat.lt_succ_self _) hP hS (lv_sub hl [0, 1, 2, 3, 4, 5, 6] rfl)
  exact loop10 _ 0 (2 ^ home.toNat) 0 H locs ls (by omega) rfl (by omega) (by omega) (Nat.lt_succ_self _) hP hS (lv_sub hl [0, 1, 2, 3, 4, 5] rfl)
theorem pd_J7_fill_53178 : yJ7_fill_53178.cls = RJ7 ∧ yJ7_fill_53178.cls ≠ "java/lang/invoke/MethodHandle" ∧ yJ7_fill_53178.cls ≠ "java/lang/invoke/VarHandle" ∧ (parseMethodDescriptor yJ7_fill_53178.desc).map (fun d => d.parameters.length) = some 2 := by decide +kernel
abbrev rmJ7_fill_53178 : Room := { frames := 0, cells := 0, slots := 0, locals := 0 }
set_option maxHeartbeats 4000000 in
set_option maxRecDepth 100000 in
theorem c_J7_fill_53178 (l : Launch) (G : CX) (aa : Nat) (f : Int → Int) (v : Int)  : Met l yJ7_fill_53178 wsJ7_fill_53178 rmJ7_fill_53178 (wrP G [.ref aa, .int (zI v)] [(aa, .inl (G.2.1, 12, .inl (aZ f)))]) (wrV G [(aa, .inl (G.2.1, 12, .inl (aZ f)))] (fun (u : Unit) => match u with | _ => (True)) (fun (u : Unit) => match u with | _ => [(aa, .inl (G.2.1, 12, .inl (aZ (fun _ => v))))])) 0 0 (wrA [(aa, .inl (G.2.1, 12, .inl (aZ f)))]) := by
  refine wv_ofW (cc := cJ7_fill_53178) (maxL := 4) (by decide) rfl (Nat.le_of_ble_eq_true rfl) ?_
  intro p e s m below meth c Q A hx hb hml hown hts hK hret H locs hP hD hS ls hl
  have hown : s.vm.findClass RJ7 = some m.cls := hown
  have hl : lv_has ls 4 [(0, .ref aa), (1, .int (zI v))] := hl
  refine lv_iconst (v := zI 0) hx hb dJ7_fill_53178_0 rfl ?_
  refine lv_istore_n (lv' := [(2, .int (zI 0)), (0, .ref aa), (1, .int (zI v))]) hx hb dJ7_fill_53178_1 rfl hl (by decide) rfl (fun ls hl => ?_)
  refine lv_aload_n hx hb dJ7_fill_53178_2 rfl (lv_at hl 1 rfl) ?_
  refine va_alen (v := zI 12) hx hb hK hP 0 0 rfl rfl rfl dJ7_fill_53178_3 ?_
  refine lv_istore_n (lv' := [(3, .int (zI 12)), (2, .int (zI 0)), (0, .ref aa), (1, .int (zI v))]) hx hb dJ7_fill_53178_4 rfl hl (by decide) rfl (fun ls hl => ?_)
  have loop5 : ∀ (n_ : Nat) (i : Int) (g : Int → Int) (H : Heap) (locs : List Loc) (ls : Array Slot), (0 ≤ i ∧ i ≤ 12) → (∀ j : Int, 0 ≤ j → j < i → g j = v) → (12 - i).toNat < n_ → kP G [(aa, .inl (G.2.1, 12, .inl (aZ g)))] H → va_D A [(aa, .inl (G.2.1, 12, .inl (aZ g)))] → va_S A s.heap H locs → lv_has ls 4 [(3, .int (zI 12)), (2, .int (zI i)), (0, .ref aa), (1, .int (zI v))] → W p l e rmJ7_fill_53178 s m ([.ref aa, .int (zI v)] : List Value).toArray below meth c H locs 0 0 Q (F0 m 5 ls []) := by
    intro n_
    induction n_ with
    | zero =>
      intro i g H locs ls hi hg hm
      exact absurd hm (Nat.not_lt_zero _)
    | succ n_ ih5 =>
      intro i g H locs ls hi hg hm5 hP hD hS hl
      refine lv_iload_n hx hb dJ7_fill_53178_5 rfl (lv_at hl 1 rfl) ?_
      refine lv_iload_n hx hb dJ7_fill_53178_6 rfl (lv_at hl 0 rfl) ?_
      refine z_icmp_ge (tgt := 20) hx hb (by omega) dJ7_fill_53178_7 (by decide) (fun c_1 => ?_) (fun c_1 => ?_)
      · have hP : kP G [(aa, .inl (G.2.1, 12, .inl (aZ (fun _ => v))))] H := one_ext (fun j h1 h2 => hg j h1 (by omega)) hP
        exact hret H locs ls 20 () (by trivial) hP hS dJ7_fill_53178_20
      · refine lv_aload_n hx hb dJ7_fill_53178_10 rfl (lv_at hl 2 rfl) ?_
        refine lv_iload_n hx hb dJ7_fill_53178_11 rfl (lv_at hl 1 rfl) ?_
        refine lv_iload_n hx hb dJ7_fill_53178_12 rfl (lv_at hl 3 rfl) ?_
        refine z_iast (n := 12) (f := g) (i := i) (v := v) hx hb hK hP hD hS 0 rfl (by omega) dJ7_fill_53178_13 (fun H locs hP hD hS => ?_)
        have hP : kP G [(aa, .inl (G.2.1, 12, .inl (aZ (uZ g i v))))] H := hP
        have hD : va_D A [(aa, .inl (G.2.1, 12, .inl (aZ (uZ g i v))))] := hD
        refine lv_iinc (v := zI (i + 1)) (lv' := [(2, .int (zI (i + 1))), (3, .int (zI 12)), (0, .ref aa), (1, .int (zI v))]) hx hb dJ7_fill_53178_14 hl (k := 1) rfl (zI_add _ _) (by decide) rfl (fun ls hl => ?_)
        refine lv_goto (tgt := 5) hx hb dJ7_fill_53178_17 (by decide) ?_
        exact ih5 (i + 1) (uZ g i v) H locs ls (by omega) (by intro j h1 h2; unfold uZ; split; rfl; exact hg j h1 (by omega)) (by omega) hP hD hS (lv_sub hl [1, 0, 2, 3] rfl)
  exact loop5 _ 0 f H locs ls (by omega) (by intro j h1 h2; omega) (Nat.lt_succ_self _) hP hD hS (lv_sub hl [0, 1, 2, 3] rfl)
theorem pd_X0_reset : yX0_reset.cls = RX0 ∧ yX0_reset.cls ≠ "java/lang/invoke/MethodHandle" ∧ yX0_reset.cls ≠ "java/lang/invoke/VarHandle" ∧ (parseMethodDescriptor yX0_reset.desc).map (fun d => d.parameters.length) = some 0 := by decide +kernel
abbrev rmX0_reset : Room := { frames := 1, cells := 0, slots := 0, locals := 23 }
set_option maxHeartbeats 4000000 in
set_option maxRecDepth 100000 in
theorem c_X0_reset (l : Launch) (G : CX) (hb0 : Nat) (al : Nat) (S : Int) (C : Int) (Wy : Int) (Li : Int) (St : Int) (ld : Int → Int)  : Met l yX0_reset wsX0_reset rmX0_reset (wrP G [.ref hb0] [(hb0, .inr (0, [.int (zI S), .int (zI C), .int (zI Wy), .int (zI Li), .int (zI St), .ref al])), (al, .inl (G.2.1, 12, .inl (aZ ld)))]) (wrV G [(hb0, .inr (0, [.int (zI S), .int (zI C), .int (zI Wy), .int (zI Li), .int (zI St), .ref al])), (al, .inl (G.2.1, 12, .inl (aZ ld)))] (fun (u : Unit) => match u with | _ => (True)) (fun (u : Unit) => match u with | _ => [(hb0, .inr (0, [.int (zI 2), .int (zI 2), .int (zI (2 * 2)), .int (zI 20), .int (zI 0), .ref al])), (al, .inl (G.2.1, 12, .inl (aZ (fun _ => 1))))])) 0 0 (wrA [(hb0, .inr (0, [.int (zI S), .int (zI C), .int (zI Wy), .int (zI Li), .int (zI St), .ref al])), (al, .inl (G.2.1, 12, .inl (aZ ld)))]) := by
  refine wv_ofW (cc := cX0_reset) (maxL := 1) (by decide) rfl (Nat.le_of_ble_eq_true rfl) ?_
  intro p e s m below meth c Q A hx hb hml hown hts hK hret H locs hP hD hS ls hl
  have hown : s.vm.findClass RX0 = some m.cls := hown
  have hl : lv_has ls 1 [(0, .ref hb0)] := hl
  have f22 := hts (.fieldLink RX0 22 "QuarterTurns$Bed" "limit" "I") (by decide +kernel)
  have i0 : ∀ w ∈ wsX00, w ∈ wsX0_reset := fun w h => List.mem_cons_of_mem _ (List.mem_append_right _ h)
  have f26 := hts (.fieldLink RX0 26 "QuarterTurns$Bed" "start" "I") (by decide +kernel)
  have f9 := hts (.fieldLink RX0 9 "QuarterTurns$Bed" "loads" "[I") (by decide +kernel)
  refine lv_aload_n hx hb dX0_reset_0 rfl (lv_at hl 0 rfl) ?_
  refine lv_iconst (v := zI 2) hx hb dX0_reset_1 rfl ?_
  refine lv_iconst (v := zI 2) hx hb dX0_reset_2 rfl ?_
  refine z_wVv (As := [.int (zI 2), .int (zI 2)]) (rest := []) ⟨hx, hb, hml, hown, hts⟩ (c_X0_shape l G hb0 al S C Wy Li St 2 2 ) (cwV 2 hts gX0_reset_X0_shape rfl rfl rfl pd_X0_shape ⟨(Nat.le_of_ble_eq_true rfl), (Nat.le_of_ble_eq_true rfl)⟩) hK hP hD hS [0] (by decide) rfl rfl rfl rfl (fun _ => rfl) rfl hl.1 rfl (Nat.le_of_ble_eq_true rfl) dX0_reset_3 ⟨Nat.zero_le _, Nat.zero_le _⟩ (fun u_ H locs hw_1 hP hD hS => ?_)
  try dsimp only at hw_1
  have hP : kP G [(hb0, .inr (0, [.int (zI 2), .int (zI 2), .int (zI (2 * 2)), .int (zI Li), .int (zI St), .ref al])), (al, .inl (G.2.1, 12, .inl (aZ ld)))] H := hP
  have hD : va_D A [(hb0, .inr (0, [.int (zI 2), .int (zI 2), .int (zI (2 * 2)), .int (zI Li), .int (zI St), .ref al])), (al, .inl (G.2.1, 12, .inl (aZ ld)))] := hD
  refine lv_aload_n hx hb dX0_reset_6 rfl (lv_at hl 0 rfl) ?_
  refine lv_bipush (v := zI 20) hx hb dX0_reset_7 (by decide) ?_
  refine va_put (ci := 0) (v := .int (zI 20)) (ty := .int) (C := RX0) (T := TX0) (N := 6) hx hb hts i0 tyX0 tyX0_ok nmX0 hown hK hP hD hS 0 rfl rfl 3 (by decide) f22 (fun _ h9 => h9) rfl (tyX0_ok 3 (by decide)) rfl rfl (Nat.le_of_ble_eq_true rfl) dX0_reset_9 (fun H locs hP hD hS => ?_)
  have hP : kP G [(hb0, .inr (0, [.int (zI 2), .int (zI 2), .int (zI (2 * 2)), .int (zI 20), .int (zI St), .ref al])), (al, .inl (G.2.1, 12, .inl (aZ ld)))] H := hP
  have hD : va_D A [(hb0, .inr (0, [.int (zI 2), .int (zI 2), .int (zI (2 * 2)), .int (zI 20), .int (zI St), .ref al])), (al, .inl (G.2.1, 12, .inl (aZ ld)))] := hD
  refine lv_aload_n hx hb dX0_reset_12 rfl (lv_at hl 0 rfl) ?_
  refine lv_iconst (v := zI 0) hx hb dX0_reset_13 rfl ?_
  refine va_put (ci := 0) (v := .int (zI 0)) (ty := .int) (C := RX0) (T := TX0) (N := 6) hx hb hts i0 tyX0 tyX0_ok nmX0 hown hK hP hD hS 0 rfl rfl 4 (by decide) f26 (fun _ h9 => h9) rfl (tyX0_ok 4 (by decide)) rfl rfl (Nat.le_of_ble_eq_true rfl) dX0_reset_14 (fun H locs hP hD hS => ?_)
  have hP : kP G [(hb0, .inr (0, [.int (zI 2), .int (zI 2), .int (zI (2 * 2)), .int (zI 20), .int (zI 0), .ref al])), (al, .inl (G.2.1, 12, .inl (aZ ld)))] H := hP
  have hD : va_D A [(hb0, .inr (0, [.int (zI 2), .int (zI 2), .int (zI (2 * 2)), .int (zI 20), .int (zI 0), .ref al])), (al, .inl (G.2.1, 12, .inl (aZ ld)))] := hD
  refine lv_aload_n hx hb dX0_reset_17 rfl (lv_at hl 0 rfl) ?_
  refine va_get (ci := 0) (v := .ref al) (C := RX0) (T := TX0) (N := 6) hx hb hts i0 hown hK hP 0 rfl rfl 5 (by decide) f9 (fun _ h9 => h9) rfl dX0_reset_18 ?_
  refine lv_iconst (v := zI 1) hx hb dX0_reset_21 rfl ?_
  refine z_wSv (As := [.ref al, .int (zI 1)]) (rest := []) ⟨hx, hb, hml, hown, hts⟩ (c_J7_fill_53178 l G al ld 1 ) (va_cwS 2 hts gX0_reset_J7_fill_53178 rfl rfl rfl pd_J7_fill_53178.2 ⟨(Nat.le_of_ble_eq_true rfl), (Nat.le_of_ble_eq_true rfl)⟩) hK hP hD hS [1] (by decide) rfl (fun _ => rfl) rfl hl.1 rfl (Nat.le_of_ble_eq_true rfl) dX0_reset_22 ⟨Nat.zero_le _, Nat.zero_le _⟩ (fun u_ H locs hw_2 hP hD hS => ?_)
  try dsimp only at hw_2
  have hP : kP G [(hb0, .inr (0, [.int (zI 2), .int (zI 2), .int (zI (2 * 2)), .int (zI 20), .int (zI 0), .ref al])), (al, .inl (G.2.1, 12, .inl (aZ (fun _ => 1))))] H := hP
  have hD : va_D A [(hb0, .inr (0, [.int (zI 2), .int (zI 2), .int (zI (2 * 2)), .int (zI 20), .int (zI 0), .ref al])), (al, .inl (G.2.1, 12, .inl (aZ (fun _ => 1))))] := hD
  exact hret H locs ls 25 () (by trivial) hP hS dX0_reset_25
theorem pd_X0_copy : yX0_copy.cls = RX0 ∧ yX0_copy.cls ≠ "java/lang/invoke/MethodHandle" ∧ yX0_copy.cls ≠ "java/lang/invoke/VarHandle" ∧ (parseMethodDescriptor yX0_copy.desc).map (fun d => d.parameters.length) = some 1 := by decide +kernel
abbrev rmX0_copy : Room := { frames := 1, cells := 0, slots := 0, locals := 60 }
set_option maxHeartbeats 4000000 in
set_option maxRecDepth 100000 in
theorem c_X0_copy (l : Launch) (G : CX) (hb0 : Nat) (al : Nat) (S : Int) (C : Int) (Wy : Int) (Li : Int) (St : Int) (ld : Int → Int) (hb1 : Nat) (al1 : Nat) (S1 : Int) (C1 : Int) (Wy1 : Int) (Li1 : Int) (St1 : Int) (ld1 : Int → Int)  : Met l yX0_copy wsX0_copy rmX0_copy (wrP G [.ref hb0, .ref hb1] [(hb0, .inr (0, [.int (zI S), .int (zI C), .int (zI Wy), .int (zI Li), .int (zI St), .ref al])), (al, .inl (G.2.1, 12, .inl (aZ ld))), (hb1, .inr (0, [.int (zI S1), .int (zI C1), .int (zI Wy1), .int (zI Li1), .int (zI St1), .ref al1])), (al1, .inl (G.2.1, 12, .inl (aZ ld1)))]) (wrV G [(hb0, .inr (0, [.int (zI S), .int (zI C), .int (zI Wy), .int (zI Li), .int (zI St), .ref al])), (al, .inl (G.2.1, 12, .inl (aZ ld))), (hb1, .inr (0, [.int (zI S1), .int (zI C1), .int (zI Wy1), .int (zI Li1), .int (zI St1), .ref al1])), (al1, .inl (G.2.1, 12, .inl (aZ ld1)))] (fun (u : Unit) => match u with | _ => (True)) (fun (u : Unit) => match u with | _ => [(hb0, .inr (0, [.int (zI S1), .int (zI C1), .int (zI (S1 * C1)), .int (zI Li1), .int (zI St1), .ref al])), (al, .inl (G.2.1, 12, .inl (aZ ld1))), (hb1, .inr (0, [.int (zI S1), .int (zI C1), .int (zI Wy1), .int (zI Li1), .int (zI St1), .ref al1])), (al1, .inl (G.2.1, 12, .inl (aZ ld1)))])) 0 0 (wrA [(hb0, .inr (0, [.int (zI S), .int (zI C), .int (zI Wy), .int (zI Li), .int (zI St), .ref al])), (al, .inl (G.2.1, 12, .inl (aZ ld))), (hb1, .inr (0, [.int (zI S1), .int (zI C1), .int (zI Wy1), .int (zI Li1), .int (zI St1), .ref al1])), (al1, .inl (G.2.1, 12, .inl (aZ ld1)))]) := by
  refine wv_ofW (cc := cX0_copy) (maxL := 2) (by decide) rfl (Nat.le_of_ble_eq_true rfl) ?_
  intro p e s m below meth c Q A hx hb hml hown hts hK hret H locs hP hD hS ls hl
  have hown : s.vm.findClass RX0 = some m.cls := hown
  have hl : lv_has ls 2 [(0, .ref hb0), (1, .ref hb1)] := hl
  have f35 := hts (.fieldLink RX0 35 "QuarterTurns$Bed" "steps" "I") (by decide +kernel)
  have i0 : ∀ w ∈ wsX00, w ∈ wsX0_copy := fun w h => List.mem_cons_of_mem _ (List.mem_append_right _ h)
  have f38 := hts (.fieldLink RX0 38 "QuarterTurns$Bed" "covers" "I") (by decide +kernel)
  have f22 := hts (.fieldLink RX0 22 "QuarterTurns$Bed" "limit" "I") (by decide +kernel)
  have f26 := hts (.fieldLink RX0 26 "QuarterTurns$Bed" "start" "I") (by decide +kernel)
  have f9 := hts (.fieldLink RX0 9 "QuarterTurns$Bed" "loads" "[I") (by decide +kernel)
  have ac1 := hts (.methodLink RX0 44 arraycopyName) (by decide +kernel)
  have ac2 := hts (.native arraycopyName) (by decide +kernel)
  have ac3 := hts (.static arraycopyName) (by decide +kernel)
  have ac4 := hts (.initialized "java/lang/System") (by decide +kernel)
  refine lv_aload_n hx hb dX0_copy_0 rfl (lv_at hl 0 rfl) ?_
  refine lv_aload_n hx hb dX0_copy_1 rfl (lv_at hl 1 rfl) ?_
  refine va_get (ci := 0) (v := .int (zI S1)) (C := RX0) (T := TX0) (N := 6) hx hb hts i0 hown hK hP 2 rfl rfl 0 (by decide) f35 (fun _ h9 => h9) rfl dX0_copy_2 ?_
  refine lv_aload_n hx hb dX0_copy_5 rfl (lv_at hl 1 rfl) ?_
  refine va_get (ci := 0) (v := .int (zI C1)) (C := RX0) (T := TX0) (N := 6) hx hb hts i0 hown hK hP 2 rfl rfl 1 (by decide) f38 (fun _ h9 => h9) rfl dX0_copy_6 ?_
  refine z_wVv (As := [.int (zI S1), .int (zI C1)]) (rest := []) ⟨hx, hb, hml, hown, hts⟩ (c_X0_shape l G hb0 al S C Wy Li St S1 C1 ) (cwV 2 hts gX0_copy_X0_shape rfl rfl rfl pd_X0_shape ⟨(Nat.le_of_ble_eq_true rfl), (Nat.le_of_ble_eq_true rfl)⟩) hK hP hD hS [0] (by decide) rfl rfl rfl rfl (fun _ => rfl) rfl hl.1 rfl (Nat.le_of_ble_eq_true rfl) dX0_copy_9 ⟨Nat.zero_le _, Nat.zero_le _⟩ (fun u_ H locs hw_1 hP hD hS => ?_)
  try dsimp only at hw_1
  have hP : kP G [(hb0, .inr (0, [.int (zI S1), .int (zI C1), .int (zI (S1 * C1)), .int (zI Li), .int (zI St), .ref al])), (al, .inl (G.2.1, 12, .inl (aZ ld))), (hb1, .inr (0, [.int (zI S1), .int (zI C1), .int (zI Wy1), .int (zI Li1), .int (zI St1), .ref al1])), (al1, .inl (G.2.1, 12, .inl (aZ ld1)))] H := hP
  have hD : va_D A [(hb0, .inr (0, [.int (zI S1), .int (zI C1), .int (zI (S1 * C1)), .int (zI Li), .int (zI St), .ref al])), (al, .inl (G.2.1, 12, .inl (aZ ld))), (hb1, .inr (0, [.int (zI S1), .int (zI C1), .int (zI Wy1), .int (zI Li1), .int (zI St1), .ref al1])), (al1, .inl (G.2.1, 12, .inl (aZ ld1)))] := hD
  refine lv_aload_n hx hb dX0_copy_12 rfl (lv_at hl 0 rfl) ?_
  refine lv_aload_n hx hb dX0_copy_13 rfl (lv_at hl 1 rfl) ?_
  refine va_get (ci := 0) (v := .int (zI Li1)) (C := RX0) (T := TX0) (N := 6) hx hb hts i0 hown hK hP 2 rfl rfl 3 (by decide) f22 (fun _ h9 => h9) rfl dX0_copy_14 ?_
  refine va_put (ci := 0) (v := .int (zI Li1)) (ty := .int) (C := RX0) (T := TX0) (N := 6) hx hb hts i0 tyX0 tyX0_ok nmX0 hown hK hP hD hS 0 rfl rfl 3 (by decide) f22 (fun _ h9 => h9) rfl (tyX0_ok 3 (by decide)) rfl rfl (Nat.le_of_ble_eq_true rfl) dX0_copy_17 (fun H locs hP hD hS => ?_)
  have hP : kP G [(hb0, .inr (0, [.int (zI S1), .int (zI C1), .int (zI (S1 * C1)), .int (zI Li1), .int (zI St), .ref al])), (al, .inl (G.2.1, 12, .inl (aZ ld))), (hb1, .inr (0, [.int (zI S1), .int (zI C1), .int (zI Wy1), .int (zI Li1), .int (zI St1), .ref al1])), (al1, .inl (G.2.1, 12, .inl (aZ ld1)))] H := hP
  have hD : va_D A [(hb0, .inr (0, [.int (zI S1), .int (zI C1), .int (zI (S1 * C1)), .int (zI Li1), .int (zI St), .ref al])), (al, .inl (G.2.1, 12, .inl (aZ ld))), (hb1, .inr (0, [.int (zI S1), .int (zI C1), .int (zI Wy1), .int (zI Li1), .int (zI St1), .ref al1])), (al1, .inl (G.2.1, 12, .inl (aZ ld1)))] := hD
  refine lv_aload_n hx hb dX0_copy_20 rfl (lv_at hl 0 rfl) ?_
  refine lv_aload_n hx hb dX0_copy_21 rfl (lv_at hl 1 rfl) ?_
  refine va_get (ci := 0) (v := .int (zI St1)) (C := RX0) (T := TX0) (N := 6) hx hb hts i0 hown hK hP 2 rfl rfl 4 (by decide) f26 (fun _ h9 => h9) rfl dX0_copy_22 ?_
  refine va_put (ci := 0) (v := .int (zI St1)) (ty := .int) (C := RX0) (T := TX0) (N := 6) hx hb hts i0 tyX0 tyX0_ok nmX0 hown hK hP hD hS 0 rfl rfl 4 (by decide) f26 (fun _ h9 => h9) rfl (tyX0_ok 4 (by decide)) rfl rfl (Nat.le_of_ble_eq_true rfl) dX0_copy_25 (fun H locs hP hD hS => ?_)
  have hP : kP G [(hb0, .inr (0, [.int (zI S1), .int (zI C1), .int (zI (S1 * C1)), .int (zI Li1), .int (zI St1), .ref al])), (al, .inl (G.2.1, 12, .inl (aZ ld))), (hb1, .inr (0, [.int (zI S1), .int (zI C1), .int (zI Wy1), .int (zI Li1), .int (zI St1), .ref al1])), (al1, .inl (G.2.1, 12, .inl (aZ ld1)))] H := hP
  have hD : va_D A [(hb0, .inr (0, [.int (zI S1), .int (zI C1), .int (zI (S1 * C1)), .int (zI Li1), .int (zI St1), .ref al])), (al, .inl (G.2.1, 12, .inl (aZ ld))), (hb1, .inr (0, [.int (zI S1), .int (zI C1), .int (zI Wy1), .int (zI Li1), .int (zI St1), .ref al1])), (al1, .inl (G.2.1, 12, .inl (aZ ld1)))] := hD
  refine lv_aload_n hx hb dX0_copy_28 rfl (lv_at hl 1 rfl) ?_
  refine va_get (ci := 0) (v := .ref al1) (C := RX0) (T := TX0) (N := 6) hx hb hts i0 hown hK hP 2 rfl rfl 5 (by decide) f9 (fun _ h9 => h9) rfl dX0_copy_29 ?_
  refine lv_iconst (v := zI 0) hx hb dX0_copy_32 rfl ?_
  refine lv_aload_n hx hb dX0_copy_33 rfl (lv_at hl 0 rfl) ?_
  refine va_get (ci := 0) (v := .ref al) (C := RX0) (T := TX0) (N := 6) hx hb hts i0 hown hK hP 0 rfl rfl 5 (by decide) f9 (fun _ h9 => h9) rfl dX0_copy_34 ?_
  refine lv_iconst (v := zI 0) hx hb dX0_copy_37 rfl ?_
  refine lv_bipush (v := zI 12) hx hb dX0_copy_38 (by decide) ?_
  refine z_copy (n := 12) (f := ld1) (g := ld) hx hb (hml.trans hl.1.symm) hown ac1 ac2 ac3 ac4 hK hP hD hS 3 1 rfl rfl (by decide) (Nat.le_of_ble_eq_true rfl) (Nat.le_of_ble_eq_true rfl) dX0_copy_40 (fun H locs hP hD hS => ?_)
  have hP : kP G [(hb0, .inr (0, [.int (zI S1), .int (zI C1), .int (zI (S1 * C1)), .int (zI Li1), .int (zI St1), .ref al])), (al, .inl (G.2.1, 12, .inl (aZ ld1))), (hb1, .inr (0, [.int (zI S1), .int (zI C1), .int (zI Wy1), .int (zI Li1), .int (zI St1), .ref al1])), (al1, .inl (G.2.1, 12, .inl (aZ ld1)))] H := hP
  have hD : va_D A [(hb0, .inr (0, [.int (zI S1), .int (zI C1), .int (zI (S1 * C1)), .int (zI Li1), .int (zI St1), .ref al])), (al, .inl (G.2.1, 12, .inl (aZ ld1))), (hb1, .inr (0, [.int (zI S1), .int (zI C1), .int (zI Wy1), .int (zI Li1), .int (zI St1), .ref al1])), (al1, .inl (G.2.1, 12, .inl (aZ ld1)))] := hD
  exact hret H locs ls 43 () (by trivial) hP hS dX0_copy_43
