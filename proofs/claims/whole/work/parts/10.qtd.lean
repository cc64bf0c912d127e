theorem pd_X8_lasts : yX8_lasts.cls = RX8 ∧ yX8_lasts.cls ≠ "java/lang/invoke/MethodHandle" ∧ yX8_lasts.cls ≠ "java/lang/invoke/VarHandle" ∧ (parseMethodDescriptor yX8_lasts.desc).map (fun d => d.parameters.length) = some 1 := by decide +kernel
abbrev rmX8_lasts : Room := { frames := 4, cells := 0, slots := 0, locals := 97 }
set_option maxHeartbeats 4000000 in
set_option maxRecDepth 100000 in
theorem c_X8_lasts (l : Launch) (G : CX) (hq0 : Nat) (hx0 : Nat) (hr0 : Nat) (hb0 : Nat) (hy0 : Nat) (hp0 : Nat) (hn0 : Nat) (hw0 : Nat) (hh0 : Nat) (aim : Nat) (aik : Nat) (tr : Int64) (ap : Nat) (al : Nat) (S : Int) (C : Int) (Wy : Int) (Li : Int) (St : Int) (aw : Nat) (wy : Int) (se : Int) (tu : Int) (wn : Int → Int) (ld : Int → Int) (t : Int) (hB : (2 ≤ S ∧ S ≤ 6) ∧ (C = 1 ∧ Wy = S ∨ C = 2 ∧ Wy = 2 * S)) (hwn : ∀ i : Int, 0 ≤ i → i < 12 → 0 ≤ wn i ∧ wn i ≤ 999) (hld : ∀ i : Int, 0 ≤ i → i < 12 → 1 ≤ ld i ∧ ld i ≤ 9) (hLi : 5 ≤ Li ∧ Li ≤ 99) (hwy : 0 ≤ wy ∧ wy < Wy) (hr_t : -2147483648 ≤ t ∧ t < 2147483648) : Met l yX8_lasts wsX8_lasts rmX8_lasts (rdP G [.ref hq0, .int (zI t)] [(hq0, .inr (8, [.ref hx0, .ref hr0, .ref hb0, .ref hy0, .ref hp0, .ref hn0, .ref hw0, .ref hh0, .ref aim, .ref aik, .long tr])), (hw0, .inr (7, [.ref hb0, .ref hy0, .ref ap])), (hb0, .inr (0, [.int (zI S), .int (zI C), .int (zI Wy), .int (zI Li), .int (zI St), .ref al])), (hy0, .inr (2, [.int (zI wy), .int (zI se), .int (zI tu), .ref aw])), (al, .inl (G.2.1, 12, .inl (aZ ld))), (aw, .inl (G.2.1, 12, .inl (aZ wn)))]) (rdQ (zI (if 0 ≤ t ∧ t < Wy then seasZ S Li wy ld wn t else -1))) 0 0 noA := by
  refine rd_ofW (cc := cX8_lasts) (maxL := 2) (ty := .int) (by decide) rfl (Nat.le_of_ble_eq_true rfl) rfl ?_
  intro p e s m below meth c Q A hx hb hml hown hts hK hret H locs hP hS ls hl
  have hown : s.vm.findClass RX8 = some m.cls := hown
  have hl : lv_has ls 2 [(0, .ref hq0), (1, .int (zI t))] := hl
  have f28 := hts (.fieldLink RX8 28 "QuarterTurns" "bed" "LQuarterTurns$Bed;") (by decide +kernel)
  have i8 : ∀ w ∈ wsX80, w ∈ wsX8_lasts := fun w h => List.mem_cons_of_mem _ (List.mem_append_left _ (List.mem_append_left _ (List.mem_append_left _ (List.mem_append_right _ h))))
  have f60 := hts (.fieldLink RX8 60 "QuarterTurns" "wear" "LQuarterTurns$Wear;") (by decide +kernel)
  refine lv_aload_n hx hb dX8_lasts_0 rfl (lv_at hl 0 rfl) ?_
  refine va_get (ci := 8) (v := .ref hb0) (C := RX8) (T := TX8) (N := 11) hx hb hts i8 hown hK hP 0 rfl rfl 2 (by decide) f28 (fun _ h9 => h9) rfl dX8_lasts_1 ?_
  refine lv_iload_n hx hb dX8_lasts_4 rfl (lv_at hl 1 rfl) ?_
  refine z_cV (As := [.int (zI t)]) (rest := []) ⟨hx, hb, hml, hown, hts⟩ (c_X0_has l G hb0 al S C Wy Li St t (by first | assumption | omega) (by first | assumption | omega)) (cwV 1 hts gX8_lasts_X0_has rfl rfl rfl pd_X0_has ⟨(Nat.le_of_ble_eq_true rfl), (Nat.le_of_ble_eq_true rfl)⟩) hK hP hS [2] rfl rfl rfl rfl rfl hl.1 rfl (Nat.le_of_ble_eq_true rfl) dX8_lasts_5 ⟨Nat.zero_le _, Nat.zero_le _⟩ (fun H locs hP hS => ?_)
  refine z_ifeq_b (tgt := 22) hx hb dX8_lasts_8 (by decide) (fun c_1 => ?_) (fun c_1 => ?_)
  · refine lv_iconst (v := zI (-1)) hx hb dX8_lasts_22 rfl ?_
    exact hret H locs ls 23 _ (congrArg zI (by (repeat' split) <;> first | omega | rfl)) hS dX8_lasts_23
  · refine lv_aload_n hx hb dX8_lasts_11 rfl (lv_at hl 0 rfl) ?_
    refine va_get (ci := 8) (v := .ref hw0) (C := RX8) (T := TX8) (N := 11) hx hb hts i8 hown hK hP 0 rfl rfl 6 (by decide) f60 (fun _ h9 => h9) rfl dX8_lasts_12 ?_
    refine lv_iload_n hx hb dX8_lasts_15 rfl (lv_at hl 1 rfl) ?_
    refine z_cV (As := [.int (zI t)]) (rest := []) ⟨hx, hb, hml, hown, hts⟩ (c_X7_seasonsBy l G hw0 ap hb0 al S C Wy Li St hy0 aw wy se tu wn ld t (by first | assumption | omega) (by first | assumption | omega) (by first | assumption | omega) (by first | assumption | omega) (by first | assumption | omega) (by first | assumption | omega)) (cwV 1 hts gX8_lasts_X7_seasonsBy rfl rfl rfl pd_X7_seasonsBy ⟨(Nat.le_of_ble_eq_true rfl), (Nat.le_of_ble_eq_true rfl)⟩) hK hP hS [1, 2, 3, 4, 5] rfl rfl rfl rfl rfl hl.1 rfl (Nat.le_of_ble_eq_true rfl) dX8_lasts_16 ⟨Nat.zero_le _, Nat.zero_le _⟩ (fun H locs hP hS => ?_)
    have hq_2 := seasZ_rng (S := S) (C := C) (Wy := Wy) (Li := Li) (wy := wy) (t := t) (ld := ld) (wn := wn) ((by first | assumption | omega)) ((by first | assumption | omega)) ((by first | assumption | omega)) ((by first | assumption | omega)) ((by first | assumption | omega)) ((by first | assumption | omega))
    refine lv_goto (tgt := 23) hx hb dX8_lasts_19 (by decide) ?_
    exact hret H locs ls 23 _ (congrArg zI (by (repeat' split) <;> first | omega | rfl)) hS dX8_lasts_23
theorem pd_X8_latest : yX8_latest.cls = RX8 ∧ yX8_latest.cls ≠ "java/lang/invoke/MethodHandle" ∧ yX8_latest.cls ≠ "java/lang/invoke/VarHandle" ∧ (parseMethodDescriptor yX8_latest.desc).map (fun d => d.parameters.length) = some 0 := by decide +kernel
abbrev rmX8_latest : Room := { frames := 4, cells := 0, slots := 0, locals := 97 }
set_option maxHeartbeats 4000000 in
set_option maxRecDepth 100000 in
theorem c_X8_latest (l : Launch) (G : CX) (hq0 : Nat) (hx0 : Nat) (hr0 : Nat) (hb0 : Nat) (hy0 : Nat) (hp0 : Nat) (hn0 : Nat) (hw0 : Nat) (hh0 : Nat) (aim : Nat) (aik : Nat) (tr : Int64) (ap : Nat) (al : Nat) (S : Int) (C : Int) (Wy : Int) (Li : Int) (St : Int) (aw : Nat) (wy : Int) (se : Int) (tu : Int) (wn : Int → Int) (ld : Int → Int) (hB : (2 ≤ S ∧ S ≤ 6) ∧ (C = 1 ∧ Wy = S ∨ C = 2 ∧ Wy = 2 * S)) (hwn : ∀ i : Int, 0 ≤ i → i < 12 → 0 ≤ wn i ∧ wn i ≤ 999) (hld : ∀ i : Int, 0 ≤ i → i < 12 → 1 ≤ ld i ∧ ld i ≤ 9) (hLi : 5 ≤ Li ∧ Li ≤ 99) (hwy : 0 ≤ wy ∧ wy < Wy) : Met l yX8_latest wsX8_latest rmX8_latest (rdP G [.ref hq0] [(hq0, .inr (8, [.ref hx0, .ref hr0, .ref hb0, .ref hy0, .ref hp0, .ref hn0, .ref hw0, .ref hh0, .ref aim, .ref aik, .long tr])), (hw0, .inr (7, [.ref hb0, .ref hy0, .ref ap])), (hb0, .inr (0, [.int (zI S), .int (zI C), .int (zI Wy), .int (zI Li), .int (zI St), .ref al])), (hy0, .inr (2, [.int (zI wy), .int (zI se), .int (zI tu), .ref aw])), (al, .inl (G.2.1, 12, .inl (aZ ld))), (aw, .inl (G.2.1, 12, .inl (aZ wn)))]) (rdQ (zI (ltB S Li wy ld wn (Wy - 1).toNat))) 0 0 noA := by
  refine rd_ofW (cc := cX8_latest) (maxL := 5) (ty := .int) (by decide) rfl (Nat.le_of_ble_eq_true rfl) rfl ?_
  intro p e s m below meth c Q A hx hb hml hown hts hK hret H locs hP hS ls hl
  have hown : s.vm.findClass RX8 = some m.cls := hown
  have hl : lv_has ls 5 [(0, .ref hq0)] := hl
  have f60 := hts (.fieldLink RX8 60 "QuarterTurns" "wear" "LQuarterTurns$Wear;") (by decide +kernel)
  have i8 : ∀ w ∈ wsX80, w ∈ wsX8_latest := fun w h => List.mem_cons_of_mem _ (List.mem_append_left _ (List.mem_append_left _ (List.mem_append_left _ (List.mem_append_right _ h))))
  have f28 := hts (.fieldLink RX8 28 "QuarterTurns" "bed" "LQuarterTurns$Bed;") (by decide +kernel)
  have f166 := hts (.fieldLink RX8 166 "QuarterTurns$Bed" "ways" "I") (by decide +kernel)
  have i0 : ∀ w ∈ wsX00, w ∈ wsX8_latest := fun w h => List.mem_cons_of_mem _ (List.mem_append_left _ (List.mem_append_left _ (List.mem_append_right _ h)))
  refine lv_iconst (v := zI 0) hx hb dX8_latest_0 rfl ?_
  refine lv_istore_n (lv' := [(1, .int (zI 0)), (0, .ref hq0)]) hx hb dX8_latest_1 rfl hl (by decide) rfl (fun ls hl => ?_)
  refine lv_aload_n hx hb dX8_latest_2 rfl (lv_at hl 1 rfl) ?_
  refine va_get (ci := 8) (v := .ref hw0) (C := RX8) (T := TX8) (N := 11) hx hb hts i8 hown hK hP 0 rfl rfl 6 (by decide) f60 (fun _ h9 => h9) rfl dX8_latest_3 ?_
  refine lv_iconst (v := zI 0) hx hb dX8_latest_6 rfl ?_
  refine z_cV (As := [.int (zI 0)]) (rest := []) ⟨hx, hb, hml, hown, hts⟩ (c_X7_seasonsBy l G hw0 ap hb0 al S C Wy Li St hy0 aw wy se tu wn ld 0 (by first | assumption | omega) (by first | assumption | omega) (by first | assumption | omega) (by first | assumption | omega) (by first | assumption | omega) (by first | assumption | omega)) (cwV 1 hts gX8_latest_X7_seasonsBy rfl rfl rfl pd_X7_seasonsBy ⟨(Nat.le_of_ble_eq_true rfl), (Nat.le_of_ble_eq_true rfl)⟩) hK hP hS [1, 2, 3, 4, 5] rfl rfl rfl rfl rfl hl.1 rfl (Nat.le_of_ble_eq_true rfl) dX8_latest_7 ⟨Nat.zero_le _, Nat.zero_le _⟩ (fun H locs hP hS => ?_)
  have hq_1 := seasZ_rng (S := S) (C := C) (Wy := Wy) (Li := Li) (wy := wy) (t := 0) (ld := ld) (wn := wn) ((by first | assumption | omega)) ((by first | assumption | omega)) ((by first | assumption | omega)) ((by first | assumption | omega)) ((by first | assumption | omega)) ((by first | assumption | omega))
  refine lv_istore_n (lv' := [(2, .int (zI (seasZ S Li wy ld wn 0))), (1, .int (zI 0)), (0, .ref hq0)]) hx hb dX8_latest_10 rfl hl (by decide) rfl (fun ls hl => ?_)
  refine lv_iconst (v := zI 1) hx hb dX8_latest_11 rfl ?_
  refine lv_istore_n (lv' := [(3, .int (zI 1)), (2, .int (zI (seasZ S Li wy ld wn 0))), (1, .int (zI 0)), (0, .ref hq0)]) hx hb dX8_latest_12 rfl hl (by decide) rfl (fun ls hl => ?_)
  have loop13 : ∀ (n_ : Nat) (t : Int) (be : Int) (lo : Int) (H : Heap) (locs : List Loc) (ls : Array Slot), (1 ≤ t ∧ t ≤ Wy) → (be = ltB S Li wy ld wn (t - 1).toNat) → (0 ≤ be ∧ be < t) → (lo = seasZ S Li wy ld wn be) → (0 ≤ lo ∧ lo ≤ 2000) → (Wy - t).toNat < n_ → kP G [(hq0, .inr (8, [.ref hx0, .ref hr0, .ref hb0, .ref hy0, .ref hp0, .ref hn0, .ref hw0, .ref hh0, .ref aim, .ref aik, .long tr])), (hw0, .inr (7, [.ref hb0, .ref hy0, .ref ap])), (hb0, .inr (0, [.int (zI S), .int (zI C), .int (zI Wy), .int (zI Li), .int (zI St), .ref al])), (hy0, .inr (2, [.int (zI wy), .int (zI se), .int (zI tu), .ref aw])), (al, .inl (G.2.1, 12, .inl (aZ ld))), (aw, .inl (G.2.1, 12, .inl (aZ wn)))] H → va_S A s.heap H locs → lv_has ls 5 [(3, .int (zI t)), (2, .int (zI lo)), (1, .int (zI be)), (0, .ref hq0)] → W p l e rmX8_latest s m ([.ref hq0] : List Value).toArray below meth c H locs 0 0 Q (F0 m 13 ls []) := by
    intro n_
    induction n_ with
    | zero =>
      intro t be lo H locs ls ht hbe hbr hlo hlr hm
      exact absurd hm (Nat.not_lt_zero _)
    | succ n_ ih13 =>
      intro t be lo H locs ls ht hbe hbr hlo hlr hm13 hP hS hl
      refine lv_iload_n hx hb dX8_latest_13 rfl (lv_at hl 0 rfl) ?_
      refine lv_aload_n hx hb dX8_latest_14 rfl (lv_at hl 3 rfl) ?_
      refine va_get (ci := 8) (v := .ref hb0) (C := RX8) (T := TX8) (N := 11) hx hb hts i8 hown hK hP 0 rfl rfl 2 (by decide) f28 (fun _ h9 => h9) rfl dX8_latest_15 ?_
      refine va_get (ci := 0) (v := .int (zI Wy)) (C := RX0) (T := TX0) (N := 6) hx hb hts i0 hown hK hP 2 rfl rfl 2 (by decide) f166 (fun _ h9 => h9) rfl dX8_latest_18 ?_
      refine z_icmp_ge (tgt := 51) hx hb (by omega) dX8_latest_21 (by decide) (fun c_2 => ?_) (fun c_2 => ?_)
      · refine lv_iload_n hx hb dX8_latest_51 rfl (lv_at hl 2 rfl) ?_
        exact hret H locs ls 52 _ (congrArg zI (by rw [hbe, show t = Wy by omega])) hS dX8_latest_52
      · refine lv_aload_n hx hb dX8_latest_24 rfl (lv_at hl 3 rfl) ?_
        refine va_get (ci := 8) (v := .ref hw0) (C := RX8) (T := TX8) (N := 11) hx hb hts i8 hown hK hP 0 rfl rfl 6 (by decide) f60 (fun _ h9 => h9) rfl dX8_latest_25 ?_
        refine lv_iload_n hx hb dX8_latest_28 rfl (lv_at hl 0 rfl) ?_
        refine z_cV (As := [.int (zI t)]) (rest := []) ⟨hx, hb, hml, hown, hts⟩ (c_X7_seasonsBy l G hw0 ap hb0 al S C Wy Li St hy0 aw wy se tu wn ld t (by first | assumption | omega) (by first | assumption | omega) (by first | assumption | omega) (by first | assumption | omega) (by first | assumption | omega) (by first | assumption | omega)) (cwV 1 hts gX8_latest_X7_seasonsBy rfl rfl rfl pd_X7_seasonsBy ⟨(Nat.le_of_ble_eq_true rfl), (Nat.le_of_ble_eq_true rfl)⟩) hK hP hS [1, 2, 3, 4, 5] rfl rfl rfl rfl rfl hl.1 rfl (Nat.le_of_ble_eq_true rfl) dX8_latest_29 ⟨Nat.zero_le _, Nat.zero_le _⟩ (fun H locs hP hS => ?_)
        have hq_3 := seasZ_rng (S := S) (C := C) (Wy := Wy) (Li := Li) (wy := wy) (t := t) (ld := ld) (wn := wn) ((by first | assumption | omega)) ((by first | assumption | omega)) ((by first | assumption | omega)) ((by first | assumption | omega)) ((by first | assumption | omega)) ((by first | assumption | omega))
        refine lv_istore (lv' := [(4, .int (zI (seasZ S Li wy ld wn t))), (3, .int (zI t)), (2, .int (zI lo)), (1, .int (zI be)), (0, .ref hq0)]) hx hb dX8_latest_32 hl (by decide) rfl (fun ls hl => ?_)
        refine lv_iload hx hb dX8_latest_34 (lv_at hl 0 rfl) ?_
        refine lv_iload_n hx hb dX8_latest_36 rfl (lv_at hl 2 rfl) ?_
        refine z_icmp_le (tgt := 45) hx hb (by omega) dX8_latest_37 (by decide) (fun c_4 => ?_) (fun c_4 => ?_)
        · refine lv_iinc (v := zI (t + 1)) (lv' := [(3, .int (zI (t + 1))), (4, .int (zI (seasZ S Li wy ld wn t))), (2, .int (zI lo)), (1, .int (zI be)), (0, .ref hq0)]) hx hb dX8_latest_45 hl (k := 1) rfl (zI_add _ _) (by decide) rfl (fun ls hl => ?_)
          refine lv_goto (tgt := 13) hx hb dX8_latest_48 (by decide) ?_
          exact ih13 (t + 1) be lo H locs ls (by omega) (by rw [show (t + 1 - 1).toNat = (t - 1).toNat + 1 by omega, ltB, ← hbe, show (((t - 1).toNat : Nat) : Int) + 1 = t by omega, ← hlo]; first | rw [if_pos (by omega)] | rw [if_neg (by omega)]) (by omega) (by first | rfl | exact hlo) (by omega) (by omega) hP hS (lv_sub hl [0, 2, 3, 4] rfl)
        · refine lv_iload hx hb dX8_latest_40 (lv_at hl 0 rfl) ?_
          refine lv_istore_n (lv' := [(2, .int (zI (seasZ S Li wy ld wn t))), (4, .int (zI (seasZ S Li wy ld wn t))), (3, .int (zI t)), (1, .int (zI be)), (0, .ref hq0)]) hx hb dX8_latest_42 rfl hl (by decide) rfl (fun ls hl => ?_)
          refine lv_iload_n hx hb dX8_latest_43 rfl (lv_at hl 2 rfl) ?_
          refine lv_istore_n (lv' := [(1, .int (zI t)), (2, .int (zI (seasZ S Li wy ld wn t))), (4, .int (zI (seasZ S Li wy ld wn t))), (3, .int (zI t)), (0, .ref hq0)]) hx hb dX8_latest_44 rfl hl (by decide) rfl (fun ls hl => ?_)
          refine lv_iinc (v := zI (t + 1)) (lv' := [(3, .int (zI (t + 1))), (1, .int (zI t)), (2, .int (zI (seasZ S Li wy ld wn t))), (4, .int (zI (seasZ S Li wy ld wn t))), (0, .ref hq0)]) hx hb dX8_latest_45 hl (k := 3) rfl (zI_add _ _) (by decide) rfl (fun ls hl => ?_)
          refine lv_goto (tgt := 13) hx hb dX8_latest_48 (by decide) ?_
          exact ih13 (t + 1) t (seasZ S Li wy ld wn t) H locs ls (by omega) (by rw [show (t + 1 - 1).toNat = (t - 1).toNat + 1 by omega, ltB, ← hbe, show (((t - 1).toNat : Nat) : Int) + 1 = t by omega, ← hlo]; first | rw [if_pos (by omega)] | rw [if_neg (by omega)]) (by omega) (by first | rfl | exact hlo) (by omega) (by omega) hP hS (lv_sub hl [0, 2, 1, 4] rfl)
  exact loop13 _ 1 0 (seasZ S Li wy ld wn 0) H locs ls (by omega) rfl (by omega) rfl (by omega) (Nat.lt_succ_self _) hP hS (lv_sub hl [0, 1, 2, 3] rfl)
theorem pd_X8_most : yX8_most.cls = RX8 ∧ yX8_most.cls ≠ "java/lang/invoke/MethodHandle" ∧ yX8_most.cls ≠ "java/lang/invoke/VarHandle" ∧ (parseMethodDescriptor yX8_most.desc).map (fun d => d.parameters.length) = some 0 := by decide +kernel
abbrev rmX8_most : Room := { frames := 3, cells := 0, slots := 0, locals := 72 }
set_option maxHeartbeats 4000000 in
set_option maxRecDepth 100000 in
theorem c_X8_most (l : Launch) (G : CX) (hq0 : Nat) (hx0 : Nat) (hr0 : Nat) (hb0 : Nat) (hy0 : Nat) (hp0 : Nat) (hn0 : Nat) (hw0 : Nat) (hh0 : Nat) (aim : Nat) (aik : Nat) (tr : Int64) (ap : Nat) (al : Nat) (S : Int) (C : Int) (Wy : Int) (Li : Int) (St : Int) (aw : Nat) (wy : Int) (se : Int) (tu : Int) (wn : Int → Int) (ld : Int → Int) (hB : (2 ≤ S ∧ S ≤ 6) ∧ (C = 1 ∧ Wy = S ∨ C = 2 ∧ Wy = 2 * S)) (hwn : ∀ i : Int, 0 ≤ i → i < 12 → 0 ≤ wn i ∧ wn i ≤ 999) (hld : ∀ i : Int, 0 ≤ i → i < 12 → 1 ≤ ld i ∧ ld i ≤ 9) (hLi : 5 ≤ Li ∧ Li ≤ 99) : Met l yX8_most wsX8_most rmX8_most (rdP G [.ref hq0] [(hq0, .inr (8, [.ref hx0, .ref hr0, .ref hb0, .ref hy0, .ref hp0, .ref hn0, .ref hw0, .ref hh0, .ref aim, .ref aik, .long tr])), (hw0, .inr (7, [.ref hb0, .ref hy0, .ref ap])), (hb0, .inr (0, [.int (zI S), .int (zI C), .int (zI Wy), .int (zI Li), .int (zI St), .ref al])), (hy0, .inr (2, [.int (zI wy), .int (zI se), .int (zI tu), .ref aw])), (al, .inl (G.2.1, 12, .inl (aZ ld))), (aw, .inl (G.2.1, 12, .inl (aZ wn)))]) (rdQ (zI (if Li ≤ grZ wn 12 then 0 else rmZ (Li - 1) wn ld Wy.toNat + 1))) 0 0 noA := by
  refine rd_ofW (cc := cX8_most) (maxL := 1) (ty := .int) (by decide) rfl (Nat.le_of_ble_eq_true rfl) rfl ?_
  intro p e s m below meth c Q A hx hb hml hown hts hK hret H locs hP hS ls hl
  have hown : s.vm.findClass RX8 = some m.cls := hown
  have hl : lv_has ls 1 [(0, .ref hq0)] := hl
  have f60 := hts (.fieldLink RX8 60 "QuarterTurns" "wear" "LQuarterTurns$Wear;") (by decide +kernel)
  have i8 : ∀ w ∈ wsX80, w ∈ wsX8_most := fun w h => List.mem_cons_of_mem _ (List.mem_append_left _ (List.mem_append_left _ (List.mem_append_left _ (List.mem_append_right _ h))))
  have f28 := hts (.fieldLink RX8 28 "QuarterTurns" "bed" "LQuarterTurns$Bed;") (by decide +kernel)
  have f195 := hts (.fieldLink RX8 195 "QuarterTurns$Bed" "limit" "I") (by decide +kernel)
  have i0 : ∀ w ∈ wsX00, w ∈ wsX8_most := fun w h => List.mem_cons_of_mem _ (List.mem_append_left _ (List.mem_append_left _ (List.mem_append_right _ h)))
  refine lv_aload_n hx hb dX8_most_0 rfl (lv_at hl 0 rfl) ?_
  refine va_get (ci := 8) (v := .ref hw0) (C := RX8) (T := TX8) (N := 11) hx hb hts i8 hown hK hP 0 rfl rfl 6 (by decide) f60 (fun _ h9 => h9) rfl dX8_most_1 ?_
  refine z_cV (As := []) (rest := []) ⟨hx, hb, hml, hown, hts⟩ (c_X7_isOut l G hw0 ap hb0 al S C Wy Li St hy0 aw wy se tu wn ld (by first | assumption | omega) (by first | assumption | omega)) (cwV 0 hts gX8_most_X7_isOut rfl rfl rfl pd_X7_isOut ⟨(Nat.le_of_ble_eq_true rfl), (Nat.le_of_ble_eq_true rfl)⟩) hK hP hS [1, 2, 3, 4, 5] rfl rfl rfl rfl rfl hl.1 rfl (Nat.le_of_ble_eq_true rfl) dX8_most_4 ⟨Nat.zero_le _, Nat.zero_le _⟩ (fun H locs hP hS => ?_)
  refine z_ifeq_b (tgt := 14) hx hb dX8_most_7 (by decide) (fun c_1 => ?_) (fun c_1 => ?_)
  · refine lv_aload_n hx hb dX8_most_14 rfl (lv_at hl 0 rfl) ?_
    refine va_get (ci := 8) (v := .ref hw0) (C := RX8) (T := TX8) (N := 11) hx hb hts i8 hown hK hP 0 rfl rfl 6 (by decide) f60 (fun _ h9 => h9) rfl dX8_most_15 ?_
    refine lv_aload_n hx hb dX8_most_18 rfl (lv_at hl 0 rfl) ?_
    refine va_get (ci := 8) (v := .ref hb0) (C := RX8) (T := TX8) (N := 11) hx hb hts i8 hown hK hP 0 rfl rfl 2 (by decide) f28 (fun _ h9 => h9) rfl dX8_most_19 ?_
    refine va_get (ci := 0) (v := .int (zI Li)) (C := RX0) (T := TX0) (N := 6) hx hb hts i0 hown hK hP 2 rfl rfl 3 (by decide) f195 (fun _ h9 => h9) rfl dX8_most_22 ?_
    refine lv_iconst (v := zI 1) hx hb dX8_most_25 rfl ?_
    refine z_isub hx hb dX8_most_26 ?_
    refine z_cV (As := [.int (zI (Li - 1))]) (rest := []) ⟨hx, hb, hml, hown, hts⟩ (c_X7_room l G hw0 ap hb0 al S C Wy Li St hy0 aw wy se tu wn ld (Li - 1) (by first | assumption | omega) (by first | assumption | omega) (by first | assumption | omega) (by exact fun i h1 h2 => ⟨(hwn i h1 h2).1, by have := grZ_ge (f := wn) 12 i h1 (by omega); omega⟩)) (cwV 1 hts gX8_most_X7_room rfl rfl rfl pd_X7_room ⟨(Nat.le_of_ble_eq_true rfl), (Nat.le_of_ble_eq_true rfl)⟩) hK hP hS [1, 2, 3, 4, 5] rfl rfl rfl rfl rfl hl.1 rfl (Nat.le_of_ble_eq_true rfl) dX8_most_27 ⟨Nat.zero_le _, Nat.zero_le _⟩ (fun H locs hP hS => ?_)
    have hq_2 := rmZ_rng (mark := (Li - 1)) (wn := wn) (ld := ld) (by omega) ((by exact fun i h1 h2 => ⟨(hwn i h1 h2).1, by have := grZ_ge (f := wn) 12 i h1 (by omega); omega⟩)) ((by first | assumption | omega)) Wy.toNat (by omega)
    refine lv_iconst (v := zI 1) hx hb dX8_most_30 rfl ?_
    refine z_iadd hx hb dX8_most_31 ?_
    exact hret H locs ls 32 _ (congrArg zI (by (repeat' split) <;> first | omega | rfl)) hS dX8_most_32
  · refine lv_iconst (v := zI 0) hx hb dX8_most_10 rfl ?_
    refine lv_goto (tgt := 32) hx hb dX8_most_11 (by decide) ?_
    exact hret H locs ls 32 _ (congrArg zI (by (repeat' split) <;> first | omega | rfl)) hS dX8_most_32
theorem pd_X8_plan : yX8_plan.cls = RX8 ∧ yX8_plan.cls ≠ "java/lang/invoke/MethodHandle" ∧ yX8_plan.cls ≠ "java/lang/invoke/VarHandle" ∧ (parseMethodDescriptor yX8_plan.desc).map (fun d => d.parameters.length) = some 2 := by decide +kernel
abbrev rmX8_plan : Room := { frames := 4, cells := 0, slots := 0, locals := 94 }
set_option maxHeartbeats 4000000 in
set_option maxRecDepth 100000 in
theorem c_X8_plan (l : Launch) (G : CX) (hq0 : Nat) (hx0 : Nat) (hr0 : Nat) (hb0 : Nat) (hy0 : Nat) (hp0 : Nat) (hn0 : Nat) (hw0 : Nat) (hh0 : Nat) (aim : Nat) (aik : Nat) (tr : Int64) (ap : Nat) (al : Nat) (S : Int) (C : Int) (Wy : Int) (Li : Int) (St : Int) (aw : Nat) (wy : Int) (se : Int) (tu : Int) (wn : Int → Int) (ld : Int → Int) (pf : Int → Int) (n : Int) (k : Int) (hB : (2 ≤ S ∧ S ≤ 6) ∧ (C = 1 ∧ Wy = S ∨ C = 2 ∧ Wy = 2 * S)) (hwn : ∀ i : Int, 0 ≤ i → i < 12 → 0 ≤ wn i ∧ wn i ≤ 999) (hld : ∀ i : Int, 0 ≤ i → i < 12 → 1 ≤ ld i ∧ ld i ≤ 9) (hwy : 0 ≤ wy ∧ wy < Wy) (hr_n : -2147483648 ≤ n ∧ n < 2147483648) (hr_k : -2147483648 ≤ k ∧ k < 2147483648) (hpok : ∀ n : Int, 1 ≤ n → n ≤ 4 → ∀ i : Nat, (i : Int) < n → 0 ≤ (plS S Wy ld (lgZ wn ld Wy.toNat n) wy wn (i + 1)).2.2) : Met l yX8_plan wsX8_plan rmX8_plan (wrP G [.ref hq0, .int (zI n), .int (zI k)] [(hq0, .inr (8, [.ref hx0, .ref hr0, .ref hb0, .ref hy0, .ref hp0, .ref hn0, .ref hw0, .ref hh0, .ref aim, .ref aik, .long tr])), (hw0, .inr (7, [.ref hb0, .ref hy0, .ref ap])), (hb0, .inr (0, [.int (zI S), .int (zI C), .int (zI Wy), .int (zI Li), .int (zI St), .ref al])), (hy0, .inr (2, [.int (zI wy), .int (zI se), .int (zI tu), .ref aw])), (al, .inl (G.2.1, 12, .inl (aZ ld))), (aw, .inl (G.2.1, 12, .inl (aZ wn))), (ap, .inl (G.2.1, 12, .inl (aZ pf)))]) (wrQ G [(hq0, .inr (8, [.ref hx0, .ref hr0, .ref hb0, .ref hy0, .ref hp0, .ref hn0, .ref hw0, .ref hh0, .ref aim, .ref aik, .long tr])), (hw0, .inr (7, [.ref hb0, .ref hy0, .ref ap])), (hb0, .inr (0, [.int (zI S), .int (zI C), .int (zI Wy), .int (zI Li), .int (zI St), .ref al])), (hy0, .inr (2, [.int (zI wy), .int (zI se), .int (zI tu), .ref aw])), (al, .inl (G.2.1, 12, .inl (aZ ld))), (aw, .inl (G.2.1, 12, .inl (aZ wn))), (ap, .inl (G.2.1, 12, .inl (aZ pf)))] (fun (r_ : Int32) (u : (Int → Int)) => match u with | pf2 => r_ = zI (if n < 1 ∨ 4 < n ∨ k < -1 ∨ 3 < k then -1 else if k < 0 then lgZ wn ld Wy.toNat n else if k < n then (plS S Wy ld (lgZ wn ld Wy.toNat n) wy wn (k + 1).toNat).2.2 else -9) ∧ (True)) (fun (u : (Int → Int)) => match u with | pf2 => [(hq0, .inr (8, [.ref hx0, .ref hr0, .ref hb0, .ref hy0, .ref hp0, .ref hn0, .ref hw0, .ref hh0, .ref aim, .ref aik, .long tr])), (hw0, .inr (7, [.ref hb0, .ref hy0, .ref ap])), (hb0, .inr (0, [.int (zI S), .int (zI C), .int (zI Wy), .int (zI Li), .int (zI St), .ref al])), (hy0, .inr (2, [.int (zI wy), .int (zI se), .int (zI tu), .ref aw])), (al, .inl (G.2.1, 12, .inl (aZ ld))), (aw, .inl (G.2.1, 12, .inl (aZ wn))), (ap, .inl (G.2.1, 12, .inl (aZ pf2)))])) 0 0 (wrA [(hq0, .inr (8, [.ref hx0, .ref hr0, .ref hb0, .ref hy0, .ref hp0, .ref hn0, .ref hw0, .ref hh0, .ref aim, .ref aik, .long tr])), (hw0, .inr (7, [.ref hb0, .ref hy0, .ref ap])), (hb0, .inr (0, [.int (zI S), .int (zI C), .int (zI Wy), .int (zI Li), .int (zI St), .ref al])), (hy0, .inr (2, [.int (zI wy), .int (zI se), .int (zI tu), .ref aw])), (al, .inl (G.2.1, 12, .inl (aZ ld))), (aw, .inl (G.2.1, 12, .inl (aZ wn))), (ap, .inl (G.2.1, 12, .inl (aZ pf)))]) := by
  refine wr_ofW (cc := cX8_plan) (maxL := 4) (ty := .int) (by decide) rfl (Nat.le_of_ble_eq_true rfl) ?_
  intro p e s m below meth c Q A hx hb hml hown hts hK hret H locs hP hD hS ls hl
  have hown : s.vm.findClass RX8 = some m.cls := hown
  have hl : lv_has ls 4 [(0, .ref hq0), (1, .int (zI n)), (2, .int (zI k))] := hl
  have f60 := hts (.fieldLink RX8 60 "QuarterTurns" "wear" "LQuarterTurns$Wear;") (by decide +kernel)
  have i8 : ∀ w ∈ wsX80, w ∈ wsX8_plan := fun w h => List.mem_cons_of_mem _ (List.mem_append_left _ (List.mem_append_left _ (List.mem_append_left _ (List.mem_append_right _ h))))
  refine lv_iload_n hx hb dX8_plan_0 rfl (lv_at hl 1 rfl) ?_
  refine lv_iconst (v := zI 1) hx hb dX8_plan_1 rfl ?_
  refine z_icmp_lt (tgt := 20) hx hb (by omega) dX8_plan_2 (by decide) (fun c_1 => ?_) (fun c_1 => ?_)
  · refine lv_iconst (v := zI (-1)) hx hb dX8_plan_20 rfl ?_
    exact hret H locs ls 21 _ (pf) rfl ⟨congrArg zI (by rw [if_pos (by omega)]), by trivial⟩ hP hS dX8_plan_21
  · refine lv_iload_n hx hb dX8_plan_5 rfl (lv_at hl 1 rfl) ?_
    refine lv_iconst (v := zI 4) hx hb dX8_plan_6 rfl ?_
    refine z_icmp_gt (tgt := 20) hx hb (by omega) dX8_plan_7 (by decide) (fun c_2 => ?_) (fun c_2 => ?_)
    · refine lv_iconst (v := zI (-1)) hx hb dX8_plan_20 rfl ?_
      exact hret H locs ls 21 _ (pf) rfl ⟨congrArg zI (by rw [if_pos (by omega)]), by trivial⟩ hP hS dX8_plan_21
    · refine lv_iload_n hx hb dX8_plan_10 rfl (lv_at hl 2 rfl) ?_
      refine lv_iconst (v := zI (-1)) hx hb dX8_plan_11 rfl ?_
      refine z_icmp_lt (tgt := 20) hx hb (by omega) dX8_plan_12 (by decide) (fun c_3 => ?_) (fun c_3 => ?_)
      · refine lv_iconst (v := zI (-1)) hx hb dX8_plan_20 rfl ?_
        exact hret H locs ls 21 _ (pf) rfl ⟨congrArg zI (by rw [if_pos (by omega)]), by trivial⟩ hP hS dX8_plan_21
      · refine lv_iload_n hx hb dX8_plan_15 rfl (lv_at hl 2 rfl) ?_
        refine lv_iconst (v := zI 4) hx hb dX8_plan_16 rfl ?_
        refine z_icmp_lt (tgt := 22) hx hb (by omega) dX8_plan_17 (by decide) (fun c_4 => ?_) (fun c_4 => ?_)
        · refine lv_aload_n hx hb dX8_plan_22 rfl (lv_at hl 0 rfl) ?_
          refine va_get (ci := 8) (v := .ref hw0) (C := RX8) (T := TX8) (N := 11) hx hb hts i8 hown hK hP 0 rfl rfl 6 (by decide) f60 (fun _ h9 => h9) rfl dX8_plan_23 ?_
          refine lv_iload_n hx hb dX8_plan_26 rfl (lv_at hl 1 rfl) ?_
          refine z_cV (As := [.int (zI n)]) (rest := []) ⟨hx, hb, hml, hown, hts⟩ (c_X7_leastGreatest l G hw0 ap hb0 al S C Wy Li St hy0 aw wy se tu wn ld n (by first | assumption | omega) (by first | assumption | omega) (by first | assumption | omega) (by first | assumption | omega)) (cwV 1 hts gX8_plan_X7_leastGreatest rfl rfl rfl pd_X7_leastGreatest ⟨(Nat.le_of_ble_eq_true rfl), (Nat.le_of_ble_eq_true rfl)⟩) hK hP hS [1, 2, 3, 4, 5] rfl rfl rfl rfl rfl hl.1 rfl (Nat.le_of_ble_eq_true rfl) dX8_plan_27 ⟨Nat.zero_le _, Nat.zero_le _⟩ (fun H locs hP hS => ?_)
          have hq_5 := lgG_rng wn ld Wy.toNat n (grZ wn 12 + 36) 36 (grZ wn 12)
          have hq_6 := grZ_rng (f := wn) (N := 12) (b := 999) (by omega) ((by first | assumption | omega)) 12 (by omega)
          refine lv_istore_n (lv' := [(3, .int (zI (lgZ wn ld Wy.toNat n))), (0, .ref hq0), (1, .int (zI n)), (2, .int (zI k))]) hx hb dX8_plan_30 rfl hl (by decide) rfl (fun ls hl => ?_)
          refine lv_iload_n hx hb dX8_plan_31 rfl (lv_at hl 3 rfl) ?_
          refine z_if_ge (tgt := 37) hx hb (by omega) dX8_plan_32 (by decide) (fun c_7 => ?_) (fun c_7 => ?_)
          · refine lv_iload_n hx hb dX8_plan_37 rfl (lv_at hl 3 rfl) ?_
            refine lv_iload_n hx hb dX8_plan_38 rfl (lv_at hl 2 rfl) ?_
            refine z_icmp_ge (tgt := 54) hx hb (by omega) dX8_plan_39 (by decide) (fun c_8 => ?_) (fun c_8 => ?_)
            · refine lv_bipush (v := zI (-9)) hx hb dX8_plan_54 (by decide) ?_
              exact hret H locs ls 56 _ (pf) rfl ⟨congrArg zI (by rw [if_neg (by omega), if_neg (by omega), if_neg (by omega)]), by trivial⟩ hP hS dX8_plan_56
            · have hlz : 0 ≤ lgZ wn ld Wy.toNat n ∧ lgZ wn ld Wy.toNat n ≤ 2000 := by unfold lgZ; omega
              refine lv_aload_n hx hb dX8_plan_42 rfl (lv_at hl 1 rfl) ?_
              refine va_get (ci := 8) (v := .ref hw0) (C := RX8) (T := TX8) (N := 11) hx hb hts i8 hown hK hP 0 rfl rfl 6 (by decide) f60 (fun _ h9 => h9) rfl dX8_plan_43 ?_
              refine lv_iload_n hx hb dX8_plan_46 rfl (lv_at hl 0 rfl) ?_
              refine lv_iload_n hx hb dX8_plan_47 rfl (lv_at hl 3 rfl) ?_
              refine z_wV (As := [.int (zI (lgZ wn ld Wy.toNat n)), .int (zI k)]) (rest := []) ⟨hx, hb, hml, hown, hts⟩ (c_X7_plannedTurn l G hw0 ap hb0 al S C Wy Li St hy0 aw wy se tu wn ld pf (lgZ wn ld Wy.toNat n) k (by first | assumption | omega) (by first | assumption | omega) (by first | assumption | omega) (by first | assumption | omega) (by first | assumption | omega) (by first | assumption | omega) (by exact fun i hi => hpok n (by omega) (by omega) i (by omega))) (cwV 2 hts gX8_plan_X7_plannedTurn rfl rfl rfl pd_X7_plannedTurn ⟨(Nat.le_of_ble_eq_true rfl), (Nat.le_of_ble_eq_true rfl)⟩) hK hP hD hS [1, 2, 3, 4, 5, 6] (by decide) rfl rfl rfl rfl (fun _ => rfl) rfl hl.1 rfl (Nat.le_of_ble_eq_true rfl) dX8_plan_48 ⟨Nat.zero_le _, Nat.zero_le _⟩ (fun r_ u_ H locs hw_10 hP hD hS => ?_)
              obtain ⟨pf2_9, rfl⟩ : ∃ z, z = u_ := ⟨_, rfl⟩
              obtain ⟨rfl, hw_10⟩ := hw_10
              try dsimp only at hw_10
              have hP : kP G [(hq0, .inr (8, [.ref hx0, .ref hr0, .ref hb0, .ref hy0, .ref hp0, .ref hn0, .ref hw0, .ref hh0, .ref aim, .ref aik, .long tr])), (hw0, .inr (7, [.ref hb0, .ref hy0, .ref ap])), (hb0, .inr (0, [.int (zI S), .int (zI C), .int (zI Wy), .int (zI Li), .int (zI St), .ref al])), (hy0, .inr (2, [.int (zI wy), .int (zI se), .int (zI tu), .ref aw])), (al, .inl (G.2.1, 12, .inl (aZ ld))), (aw, .inl (G.2.1, 12, .inl (aZ wn))), (ap, .inl (G.2.1, 12, .inl (aZ pf2_9)))] H := hP
              have hD : va_D A [(hq0, .inr (8, [.ref hx0, .ref hr0, .ref hb0, .ref hy0, .ref hp0, .ref hn0, .ref hw0, .ref hh0, .ref aim, .ref aik, .long tr])), (hw0, .inr (7, [.ref hb0, .ref hy0, .ref ap])), (hb0, .inr (0, [.int (zI S), .int (zI C), .int (zI Wy), .int (zI Li), .int (zI St), .ref al])), (hy0, .inr (2, [.int (zI wy), .int (zI se), .int (zI tu), .ref aw])), (al, .inl (G.2.1, 12, .inl (aZ ld))), (aw, .inl (G.2.1, 12, .inl (aZ wn))), (ap, .inl (G.2.1, 12, .inl (aZ pf2_9)))] := hD
              refine lv_goto (tgt := 56) hx hb dX8_plan_51 (by decide) ?_
              exact hret H locs ls 56 _ (pf2_9) rfl ⟨congrArg zI (by rw [if_neg (by omega), if_neg (by omega), if_pos (by omega)]), by trivial⟩ hP hS dX8_plan_56
          · refine lv_iload_n hx hb dX8_plan_35 rfl (lv_at hl 0 rfl) ?_
            exact hret H locs ls 36 _ (pf) rfl ⟨congrArg zI (by rw [if_neg (by omega), if_pos (by omega)]), by trivial⟩ hP hS dX8_plan_36
        · refine lv_iconst (v := zI (-1)) hx hb dX8_plan_20 rfl ?_
          exact hret H locs ls 21 _ (pf) rfl ⟨congrArg zI (by rw [if_pos (by omega)]), by trivial⟩ hP hS dX8_plan_21
theorem pd_X8_hollows : yX8_hollows.cls = RX8 ∧ yX8_hollows.cls ≠ "java/lang/invoke/MethodHandle" ∧ yX8_hollows.cls ≠ "java/lang/invoke/VarHandle" ∧ (parseMethodDescriptor yX8_hollows.desc).map (fun d => d.parameters.length) = some 3 := by decide +kernel
abbrev rmX8_hollows : Room := { frames := 1, cells := 0, slots := 0, locals := 23 }
set_option maxHeartbeats 4000000 in
set_option maxRecDepth 100000 in
theorem c_X8_hollows (l : Launch) (G : CX) (hq0 : Nat) (hx0 : Nat) (hr0 : Nat) (hb0 : Nat) (hy0 : Nat) (hp0 : Nat) (hn0 : Nat) (hw0 : Nat) (hh0 : Nat) (aim : Nat) (aik : Nat) (tr : Int64) (al : Nat) (S : Int) (C : Int) (Wy : Int) (Li : Int) (St : Int) (ak : Nat) (aq : Nat) (av : Nat) (hz : Int) (hk : Int → Int) (hq : Int → Int) (hv : Int → Int) (k : Int) (w : Int) (v : Int) (hW0 : 0 ≤ Wy ∧ Wy ≤ 12) (hhz : 0 ≤ hz ∧ hz ≤ 5) (hr_k : -2147483648 ≤ k ∧ k < 2147483648) (hr_w : -2147483648 ≤ w ∧ w < 2147483648) (hr_v : -2147483648 ≤ v ∧ v < 2147483648) : Met l yX8_hollows wsX8_hollows rmX8_hollows (wrP G [.ref hq0, .int (zI k), .int (zI w), .int (zI v)] [(hq0, .inr (8, [.ref hx0, .ref hr0, .ref hb0, .ref hy0, .ref hp0, .ref hn0, .ref hw0, .ref hh0, .ref aim, .ref aik, .long tr])), (hb0, .inr (0, [.int (zI S), .int (zI C), .int (zI Wy), .int (zI Li), .int (zI St), .ref al])), (hh0, .inr (1, [.ref ak, .ref aq, .ref av, .int (zI hz)])), (ak, .inl (G.2.1, 5, .inl (aZ hk))), (aq, .inl (G.2.1, 5, .inl (aZ hq))), (av, .inl (G.2.1, 5, .inl (aZ hv)))]) (wrQ G [(hq0, .inr (8, [.ref hx0, .ref hr0, .ref hb0, .ref hy0, .ref hp0, .ref hn0, .ref hw0, .ref hh0, .ref aim, .ref aik, .long tr])), (hb0, .inr (0, [.int (zI S), .int (zI C), .int (zI Wy), .int (zI Li), .int (zI St), .ref al])), (hh0, .inr (1, [.ref ak, .ref aq, .ref av, .int (zI hz)])), (ak, .inl (G.2.1, 5, .inl (aZ hk))), (aq, .inl (G.2.1, 5, .inl (aZ hq))), (av, .inl (G.2.1, 5, .inl (aZ hv)))] (fun (r_ : Int32) (u : Int × (Int → Int) × (Int → Int) × (Int → Int)) => match u with | (hz2, hk2, hq2, hv2) => r_ = zI (if ¬ ((0 ≤ k ∧ k ≤ 40) ∧ (0 ≤ w ∧ w < Wy) ∧ (0 ≤ v ∧ v ≤ 999)) then -1 else if hz < 5 then hz + 1 else -3) ∧ ((((0 ≤ k ∧ k ≤ 40) ∧ (0 ≤ w ∧ w < Wy) ∧ (0 ≤ v ∧ v ≤ 999)) ∧ hz < 5 → hz2 = hz + 1 ∧ hk2 = uZ hk hz k ∧ hq2 = uZ hq hz w ∧ hv2 = uZ hv hz v) ∧ (¬ (((0 ≤ k ∧ k ≤ 40) ∧ (0 ≤ w ∧ w < Wy) ∧ (0 ≤ v ∧ v ≤ 999)) ∧ hz < 5) → hz2 = hz ∧ hk2 = hk ∧ hq2 = hq ∧ hv2 = hv))) (fun (u : Int × (Int → Int) × (Int → Int) × (Int → Int)) => match u with | (hz2, hk2, hq2, hv2) => [(hq0, .inr (8, [.ref hx0, .ref hr0, .ref hb0, .ref hy0, .ref hp0, .ref hn0, .ref hw0, .ref hh0, .ref aim, .ref aik, .long tr])), (hb0, .inr (0, [.int (zI S), .int (zI C), .int (zI Wy), .int (zI Li), .int (zI St), .ref al])), (hh0, .inr (1, [.ref ak, .ref aq, .ref av, .int (zI hz2)])), (ak, .inl (G.2.1, 5, .inl (aZ hk2))), (aq, .inl (G.2.1, 5, .inl (aZ hq2))), (av, .inl (G.2.1, 5, .inl (aZ hv2)))])) 0 0 (wrA [(hq0, .inr (8, [.ref hx0, .ref hr0, .ref hb0, .ref hy0, .ref hp0, .ref hn0, .ref hw0, .ref hh0, .ref aim, .ref aik, .long tr])), (hb0, .inr (0, [.int (zI S), .int (zI C), .int (zI Wy), .int (zI Li), .int (zI St), .ref al])), (hh0, .inr (1, [.ref ak, .ref aq, .ref av, .int (zI hz)])), (ak, .inl (G.2.1, 5, .inl (aZ hk))), (aq, .inl (G.2.1, 5, .inl (aZ hq))), (av, .inl (G.2.1, 5, .inl (aZ hv)))]) := by
  refine wr_ofW (cc := cX8_hollows) (maxL := 4) (ty := .int) (by decide) rfl (Nat.le_of_ble_eq_true rfl) ?_
  intro p e s m below meth c Q A hx hb hml hown hts hK hret H locs hP hD hS ls hl
  have hown : s.vm.findClass RX8 = some m.cls := hown
  have hl : lv_has ls 4 [(0, .ref hq0), (1, .int (zI k)), (2, .int (zI w)), (3, .int (zI v))] := hl
  have f28 := hts (.fieldLink RX8 28 "QuarterTurns" "bed" "LQuarterTurns$Bed;") (by decide +kernel)
  have i8 : ∀ w ∈ wsX80, w ∈ wsX8_hollows := fun w h => List.mem_cons_of_mem _ (List.mem_append_left _ (List.mem_append_left _ (List.mem_append_right _ h)))
  have f67 := hts (.fieldLink RX8 67 "QuarterTurns" "hollows" "LQuarterTurns$Hollows;") (by decide +kernel)
  have f203 := hts (.fieldLink RX8 203 "QuarterTurns$Hollows" "size" "I") (by decide +kernel)
  have i1 : ∀ w ∈ wsX10, w ∈ wsX8_hollows := fun w h => List.mem_cons_of_mem _ (List.mem_append_left _ (List.mem_append_right _ h))
  refine lv_iload_n hx hb dX8_hollows_0 rfl (lv_at hl 1 rfl) ?_
  refine z_if_lt (tgt := 32) hx hb (by omega) dX8_hollows_1 (by decide) (fun c_1 => ?_) (fun c_1 => ?_)
  · refine lv_iconst (v := zI (-1)) hx hb dX8_hollows_32 rfl ?_
    exact hret H locs ls 33 _ (hz, hk, hq, hv) rfl ⟨congrArg zI (by rw [if_pos (by omega)]), by refine ⟨fun h => ?_, fun h => ⟨rfl, rfl, rfl, rfl⟩⟩; omega⟩ hP hS dX8_hollows_33
  · refine lv_iload_n hx hb dX8_hollows_4 rfl (lv_at hl 1 rfl) ?_
    refine lv_bipush (v := zI 40) hx hb dX8_hollows_5 (by decide) ?_
    refine z_icmp_gt (tgt := 32) hx hb (by omega) dX8_hollows_7 (by decide) (fun c_2 => ?_) (fun c_2 => ?_)
    · refine lv_iconst (v := zI (-1)) hx hb dX8_hollows_32 rfl ?_
      exact hret H locs ls 33 _ (hz, hk, hq, hv) rfl ⟨congrArg zI (by rw [if_pos (by omega)]), by refine ⟨fun h => ?_, fun h => ⟨rfl, rfl, rfl, rfl⟩⟩; omega⟩ hP hS dX8_hollows_33
    · refine lv_aload_n hx hb dX8_hollows_10 rfl (lv_at hl 0 rfl) ?_
      refine va_get (ci := 8) (v := .ref hb0) (C := RX8) (T := TX8) (N := 11) hx hb hts i8 hown hK hP 0 rfl rfl 2 (by decide) f28 (fun _ h9 => h9) rfl dX8_hollows_11 ?_
      refine lv_iload_n hx hb dX8_hollows_14 rfl (lv_at hl 2 rfl) ?_
      refine z_cV (As := [.int (zI w)]) (rest := []) ⟨hx, hb, hml, hown, hts⟩ (c_X0_has l G hb0 al S C Wy Li St w (by first | assumption | omega) (by first | assumption | omega)) (cwV 1 hts gX8_hollows_X0_has rfl rfl rfl pd_X0_has ⟨(Nat.le_of_ble_eq_true rfl), (Nat.le_of_ble_eq_true rfl)⟩) hK hP hS [1] rfl rfl rfl rfl rfl hl.1 rfl (Nat.le_of_ble_eq_true rfl) dX8_hollows_15 ⟨Nat.zero_le _, Nat.zero_le _⟩ (fun H locs hP hS => ?_)
      refine z_ifeq_b (tgt := 32) hx hb dX8_hollows_18 (by decide) (fun c_3 => ?_) (fun c_3 => ?_)
      · refine lv_iconst (v := zI (-1)) hx hb dX8_hollows_32 rfl ?_
        exact hret H locs ls 33 _ (hz, hk, hq, hv) rfl ⟨congrArg zI (by rw [if_pos (by omega)]), by refine ⟨fun h => ?_, fun h => ⟨rfl, rfl, rfl, rfl⟩⟩; omega⟩ hP hS dX8_hollows_33
      · refine lv_iload_n hx hb dX8_hollows_21 rfl (lv_at hl 3 rfl) ?_
        refine z_if_lt (tgt := 32) hx hb (by omega) dX8_hollows_22 (by decide) (fun c_4 => ?_) (fun c_4 => ?_)
        · refine lv_iconst (v := zI (-1)) hx hb dX8_hollows_32 rfl ?_
          exact hret H locs ls 33 _ (hz, hk, hq, hv) rfl ⟨congrArg zI (by rw [if_pos (by omega)]), by refine ⟨fun h => ?_, fun h => ⟨rfl, rfl, rfl, rfl⟩⟩; omega⟩ hP hS dX8_hollows_33
        · refine lv_iload_n hx hb dX8_hollows_25 rfl (lv_at hl 3 rfl) ?_
          refine lv_sipush (v := zI 999) hx hb dX8_hollows_26 (by decide) ?_
          refine z_icmp_le (tgt := 34) hx hb (by omega) dX8_hollows_29 (by decide) (fun c_5 => ?_) (fun c_5 => ?_)
          · refine lv_aload_n hx hb dX8_hollows_34 rfl (lv_at hl 0 rfl) ?_
            refine va_get (ci := 8) (v := .ref hh0) (C := RX8) (T := TX8) (N := 11) hx hb hts i8 hown hK hP 0 rfl rfl 7 (by decide) f67 (fun _ h9 => h9) rfl dX8_hollows_35 ?_
            refine lv_iload_n hx hb dX8_hollows_38 rfl (lv_at hl 1 rfl) ?_
            refine lv_iload_n hx hb dX8_hollows_39 rfl (lv_at hl 2 rfl) ?_
            refine lv_iload_n hx hb dX8_hollows_40 rfl (lv_at hl 3 rfl) ?_
            refine z_wV (As := [.int (zI k), .int (zI w), .int (zI v)]) (rest := []) ⟨hx, hb, hml, hown, hts⟩ (c_X1_add l G hh0 ak aq av hz hk hq hv k w v (by first | assumption | omega)) (cwV 3 hts gX8_hollows_X1_add rfl rfl rfl pd_X1_add ⟨(Nat.le_of_ble_eq_true rfl), (Nat.le_of_ble_eq_true rfl)⟩) hK hP hD hS [2, 3, 4, 5] (by decide) rfl rfl rfl rfl (fun _ => rfl) rfl hl.1 rfl (Nat.le_of_ble_eq_true rfl) dX8_hollows_41 ⟨Nat.zero_le _, Nat.zero_le _⟩ (fun r_ u_ H locs hw_10 hP hD hS => ?_)
            obtain ⟨hz2_6, hk2_7, hq2_8, hv2_9⟩ := u_
            obtain ⟨rfl, hw_10⟩ := hw_10
            try dsimp only at hw_10
            obtain ⟨hz1_11, hz2_12⟩ := hw_10
            have hP : kP G [(hq0, .inr (8, [.ref hx0, .ref hr0, .ref hb0, .ref hy0, .ref hp0, .ref hn0, .ref hw0, .ref hh0, .ref aim, .ref aik, .long tr])), (hb0, .inr (0, [.int (zI S), .int (zI C), .int (zI Wy), .int (zI Li), .int (zI St), .ref al])), (hh0, .inr (1, [.ref ak, .ref aq, .ref av, .int (zI hz2_6)])), (ak, .inl (G.2.1, 5, .inl (aZ hk2_7))), (aq, .inl (G.2.1, 5, .inl (aZ hq2_8))), (av, .inl (G.2.1, 5, .inl (aZ hv2_9)))] H := hP
            have hD : va_D A [(hq0, .inr (8, [.ref hx0, .ref hr0, .ref hb0, .ref hy0, .ref hp0, .ref hn0, .ref hw0, .ref hh0, .ref aim, .ref aik, .long tr])), (hb0, .inr (0, [.int (zI S), .int (zI C), .int (zI Wy), .int (zI Li), .int (zI St), .ref al])), (hh0, .inr (1, [.ref ak, .ref aq, .ref av, .int (zI hz2_6)])), (ak, .inl (G.2.1, 5, .inl (aZ hk2_7))), (aq, .inl (G.2.1, 5, .inl (aZ hq2_8))), (av, .inl (G.2.1, 5, .inl (aZ hv2_9)))] := hD
            refine z_ifeq_b (tgt := 57) hx hb dX8_hollows_44 (by decide) (fun c_13 => ?_) (fun c_13 => ?_)
            · have hz3 := hz2_12 (by assumption)
              refine lv_bipush (v := zI (-3)) hx hb dX8_hollows_57 (by decide) ?_
              exact hret H locs ls 59 _ (hz2_6, hk2_7, hq2_8, hv2_9) rfl ⟨congrArg zI (by rw [if_neg (by omega), if_neg (by omega)]), by refine ⟨fun h => ?_, fun h => ?_⟩ <;> first | exact hz3 | omega⟩ hP hS dX8_hollows_59
            · have hz3 := hz1_11 (by assumption)
              refine lv_aload_n hx hb dX8_hollows_47 rfl (lv_at hl 0 rfl) ?_
              refine va_get (ci := 8) (v := .ref hh0) (C := RX8) (T := TX8) (N := 11) hx hb hts i8 hown hK hP 0 rfl rfl 7 (by decide) f67 (fun _ h9 => h9) rfl dX8_hollows_48 ?_
              refine va_get (ci := 1) (v := .int (zI hz2_6)) (C := RX1) (T := TX1) (N := 4) hx hb hts i1 hown hK hP 2 rfl rfl 3 (by decide) f203 (fun _ h9 => h9) rfl dX8_hollows_51 ?_
              refine lv_goto (tgt := 59) hx hb dX8_hollows_54 (by decide) ?_
              exact hret H locs ls 59 _ (hz2_6, hk2_7, hq2_8, hv2_9) rfl ⟨congrArg zI (by rw [if_neg (by omega), if_pos (by omega)]; exact hz3.1), by refine ⟨fun h => ?_, fun h => ?_⟩ <;> first | exact hz3 | omega⟩ hP hS dX8_hollows_59
          · refine lv_iconst (v := zI (-1)) hx hb dX8_hollows_32 rfl ?_
            exact hret H locs ls 33 _ (hz, hk, hq, hv) rfl ⟨congrArg zI (by rw [if_pos (by omega)]), by refine ⟨fun h => ?_, fun h => ⟨rfl, rfl, rfl, rfl⟩⟩; omega⟩ hP hS dX8_hollows_33
theorem pd_X8_forget : yX8_forget.cls = RX8 ∧ yX8_forget.cls ≠ "java/lang/invoke/MethodHandle" ∧ yX8_forget.cls ≠ "java/lang/invoke/VarHandle" ∧ (parseMethodDescriptor yX8_forget.desc).map (fun d => d.parameters.length) = some 0 := by decide +kernel
abbrev rmX8_forget : Room := { frames := 0, cells := 0, slots := 0, locals := 0 }
set_option maxHeartbeats 4000000 in
set_option maxRecDepth 100000 in
theorem c_X8_forget (l : Launch) (G : CX) (hq0 : Nat) (hx0 : Nat) (hr0 : Nat) (hb0 : Nat) (hy0 : Nat) (hp0 : Nat) (hn0 : Nat) (hw0 : Nat) (hh0 : Nat) (aim : Nat) (aik : Nat) (tr : Int64) (ak : Nat) (aq : Nat) (av : Nat) (hz : Int) (hk : Int → Int) (hq : Int → Int) (hv : Int → Int)  : Met l yX8_forget wsX8_forget rmX8_forget (wrP G [.ref hq0] [(hq0, .inr (8, [.ref hx0, .ref hr0, .ref hb0, .ref hy0, .ref hp0, .ref hn0, .ref hw0, .ref hh0, .ref aim, .ref aik, .long tr])), (hh0, .inr (1, [.ref ak, .ref aq, .ref av, .int (zI hz)]))]) (wrQ G [(hq0, .inr (8, [.ref hx0, .ref hr0, .ref hb0, .ref hy0, .ref hp0, .ref hn0, .ref hw0, .ref hh0, .ref aim, .ref aik, .long tr])), (hh0, .inr (1, [.ref ak, .ref aq, .ref av, .int (zI hz)]))] (fun (r_ : Int32) (u : Unit) => match u with | _ => r_ = zI hz ∧ (True)) (fun (u : Unit) => match u with | _ => [(hq0, .inr (8, [.ref hx0, .ref hr0, .ref hb0, .ref hy0, .ref hp0, .ref hn0, .ref hw0, .ref hh0, .ref aim, .ref aik, .long tr])), (hh0, .inr (1, [.ref ak, .ref aq, .ref av, .int (zI 0)]))])) 0 0 (wrA [(hq0, .inr (8, [.ref hx0, .ref hr0, .ref hb0, .ref hy0, .ref hp0, .ref hn0, .ref hw0, .ref hh0, .ref aim, .ref aik, .long tr])), (hh0, .inr (1, [.ref ak, .ref aq, .ref av, .int (zI hz)]))]) := by
  refine wr_ofW (cc := cX8_forget) (maxL := 2) (ty := .int) (by decide) rfl (Nat.le_of_ble_eq_true rfl) ?_
  intro p e s m below meth c Q A hx hb hml hown hts hK hret H locs hP hD hS ls hl
  have hown : s.vm.findClass RX8 = some m.cls := hown
  have hl : lv_has ls 2 [(0, .ref hq0)] := hl
  have f67 := hts (.fieldLink RX8 67 "QuarterTurns" "hollows" "LQuarterTurns$Hollows;") (by decide +kernel)
  have i8 : ∀ w ∈ wsX80, w ∈ wsX8_forget := fun w h => List.mem_cons_of_mem _ (List.mem_append_left _ (List.mem_append_right _ h))
  have f203 := hts (.fieldLink RX8 203 "QuarterTurns$Hollows" "size" "I") (by decide +kernel)
  have i1 : ∀ w ∈ wsX10, w ∈ wsX8_forget := fun w h => List.mem_cons_of_mem _ (List.mem_append_right _ h)
  refine lv_aload_n hx hb dX8_forget_0 rfl (lv_at hl 0 rfl) ?_
  refine va_get (ci := 8) (v := .ref hh0) (C := RX8) (T := TX8) (N := 11) hx hb hts i8 hown hK hP 0 rfl rfl 7 (by decide) f67 (fun _ h9 => h9) rfl dX8_forget_1 ?_
  refine va_get (ci := 1) (v := .int (zI hz)) (C := RX1) (T := TX1) (N := 4) hx hb hts i1 hown hK hP 1 rfl rfl 3 (by decide) f203 (fun _ h9 => h9) rfl dX8_forget_4 ?_
  refine lv_istore_n (lv' := [(1, .int (zI hz)), (0, .ref hq0)]) hx hb dX8_forget_7 rfl hl (by decide) rfl (fun ls hl => ?_)
  refine lv_aload_n hx hb dX8_forget_8 rfl (lv_at hl 1 rfl) ?_
  refine va_get (ci := 8) (v := .ref hh0) (C := RX8) (T := TX8) (N := 11) hx hb hts i8 hown hK hP 0 rfl rfl 7 (by decide) f67 (fun _ h9 => h9) rfl dX8_forget_9 ?_
  refine lv_iconst (v := zI 0) hx hb dX8_forget_12 rfl ?_
  refine va_put (ci := 1) (v := .int (zI 0)) (ty := .int) (C := RX1) (T := TX1) (N := 4) hx hb hts i1 tyX1 tyX1_ok nmX1 hown hK hP hD hS 1 rfl rfl 3 (by decide) f203 (fun _ h9 => h9) rfl (tyX1_ok 3 (by decide)) rfl rfl (Nat.le_of_ble_eq_true rfl) dX8_forget_13 (fun H locs hP hD hS => ?_)
  have hP : kP G [(hq0, .inr (8, [.ref hx0, .ref hr0, .ref hb0, .ref hy0, .ref hp0, .ref hn0, .ref hw0, .ref hh0, .ref aim, .ref aik, .long tr])), (hh0, .inr (1, [.ref ak, .ref aq, .ref av, .int (zI 0)]))] H := hP
  have hD : va_D A [(hq0, .inr (8, [.ref hx0, .ref hr0, .ref hb0, .ref hy0, .ref hp0, .ref hn0, .ref hw0, .ref hh0, .ref aim, .ref aik, .long tr])), (hh0, .inr (1, [.ref ak, .ref aq, .ref av, .int (zI 0)]))] := hD
  refine lv_iload_n hx hb dX8_forget_16 rfl (lv_at hl 0 rfl) ?_
  exact hret H locs ls 17 _ () rfl ⟨congrArg zI (by rfl), by trivial⟩ hP hS dX8_forget_17
theorem pd_X8_which : yX8_which.cls = RX8 ∧ yX8_which.cls ≠ "java/lang/invoke/MethodHandle" ∧ yX8_which.cls ≠ "java/lang/invoke/VarHandle" ∧ (parseMethodDescriptor yX8_which.desc).map (fun d => d.parameters.length) = some 0 := by decide +kernel
abbrev rmX8_which : Room := { frames := 5, cells := 0, slots := 0, locals := 118 }
set_option maxHeartbeats 4000000 in
set_option maxRecDepth 100000 in
theorem c_X8_which (l : Launch) (G : CX) (hq0 : Nat) (hx0 : Nat) (hr0 : Nat) (hb0 : Nat) (hy0 : Nat) (hp0 : Nat) (hn0 : Nat) (hw0 : Nat) (hh0 : Nat) (aim : Nat) (aik : Nat) (tr : Int64) (ap : Nat) (al : Nat) (S : Int) (C : Int) (Wy : Int) (Li : Int) (St : Int) (aw : Nat) (wy : Int) (se : Int) (tu : Int) (wn : Int → Int) (ld : Int → Int) (ak : Nat) (aq : Nat) (av : Nat) (hz : Int) (hk : Int → Int) (hq : Int → Int) (hv : Int → Int) (hB : (2 ≤ S ∧ S ≤ 6) ∧ (C = 1 ∧ Wy = S ∨ C = 2 ∧ Wy = 2 * S)) (hwn : ∀ i : Int, 0 ≤ i → i < 12 → 0 ≤ wn i ∧ wn i ≤ 999) (hld : ∀ i : Int, 0 ≤ i → i < 12 → 1 ≤ ld i ∧ ld i ≤ 9) (hwy : 0 ≤ wy ∧ wy < Wy) (hhz : 0 ≤ hz ∧ hz ≤ 5) (hhk : ∀ i : Int, 0 ≤ i → i < hz → (0 ≤ hk i ∧ hk i ≤ 40) ∧ (0 ≤ hq i ∧ hq i < Wy) ∧ (0 ≤ hv i ∧ hv i ≤ 999)) : Met l yX8_which wsX8_which rmX8_which (rdP G [.ref hq0] [(hq0, .inr (8, [.ref hx0, .ref hr0, .ref hb0, .ref hy0, .ref hp0, .ref hn0, .ref hw0, .ref hh0, .ref aim, .ref aik, .long tr])), (hw0, .inr (7, [.ref hb0, .ref hy0, .ref ap])), (hb0, .inr (0, [.int (zI S), .int (zI C), .int (zI Wy), .int (zI Li), .int (zI St), .ref al])), (hy0, .inr (2, [.int (zI wy), .int (zI se), .int (zI tu), .ref aw])), (al, .inl (G.2.1, 12, .inl (aZ ld))), (aw, .inl (G.2.1, 12, .inl (aZ wn))), (hh0, .inr (1, [.ref ak, .ref aq, .ref av, .int (zI hz)])), (ak, .inl (G.2.1, 5, .inl (aZ hk))), (aq, .inl (G.2.1, 5, .inl (aZ hq))), (av, .inl (G.2.1, 5, .inl (aZ hv)))]) (rdQ (zI ((whC S wy ld wn hk hq hv hz.toNat Wy.toNat : Nat) : Int))) 0 0 noA := by
  refine rd_ofW (cc := cX8_which) (maxL := 3) (ty := .int) (by decide) rfl (Nat.le_of_ble_eq_true rfl) rfl ?_
  intro p e s m below meth c Q A hx hb hml hown hts hK hret H locs hP hS ls hl
  have hown : s.vm.findClass RX8 = some m.cls := hown
  have hl : lv_has ls 3 [(0, .ref hq0)] := hl
  have f28 := hts (.fieldLink RX8 28 "QuarterTurns" "bed" "LQuarterTurns$Bed;") (by decide +kernel)
  have i8 : ∀ w ∈ wsX80, w ∈ wsX8_which := fun w h => List.mem_cons_of_mem _ (List.mem_append_left _ (List.mem_append_left _ (List.mem_append_left _ (List.mem_append_left _ (List.mem_append_right _ h)))))
  have f166 := hts (.fieldLink RX8 166 "QuarterTurns$Bed" "ways" "I") (by decide +kernel)
  have i0 : ∀ w ∈ wsX00, w ∈ wsX8_which := fun w h => List.mem_cons_of_mem _ (List.mem_append_left _ (List.mem_append_left _ (List.mem_append_left _ (List.mem_append_right _ h))))
  have f67 := hts (.fieldLink RX8 67 "QuarterTurns" "hollows" "LQuarterTurns$Hollows;") (by decide +kernel)
  have f60 := hts (.fieldLink RX8 60 "QuarterTurns" "wear" "LQuarterTurns$Wear;") (by decide +kernel)
  refine lv_iconst (v := zI 0) hx hb dX8_which_0 rfl ?_
  refine lv_istore_n (lv' := [(1, .int (zI 0)), (0, .ref hq0)]) hx hb dX8_which_1 rfl hl (by decide) rfl (fun ls hl => ?_)
  refine lv_iconst (v := zI 0) hx hb dX8_which_2 rfl ?_
  refine lv_istore_n (lv' := [(2, .int (zI 0)), (1, .int (zI 0)), (0, .ref hq0)]) hx hb dX8_which_3 rfl hl (by decide) rfl (fun ls hl => ?_)
  have loop4 : ∀ (n_ : Nat) (t : Int) (bits : Nat) (H : Heap) (locs : List Loc) (ls : Array Slot), (0 ≤ t ∧ t ≤ Wy) → (bits = whC S wy ld wn hk hq hv hz.toNat t.toNat) → (Wy - t).toNat < n_ → kP G [(hq0, .inr (8, [.ref hx0, .ref hr0, .ref hb0, .ref hy0, .ref hp0, .ref hn0, .ref hw0, .ref hh0, .ref aim, .ref aik, .long tr])), (hw0, .inr (7, [.ref hb0, .ref hy0, .ref ap])), (hb0, .inr (0, [.int (zI S), .int (zI C), .int (zI Wy), .int (zI Li), .int (zI St), .ref al])), (hy0, .inr (2, [.int (zI wy), .int (zI se), .int (zI tu), .ref aw])), (al, .inl (G.2.1, 12, .inl (aZ ld))), (aw, .inl (G.2.1, 12, .inl (aZ wn))), (hh0, .inr (1, [.ref ak, .ref aq, .ref av, .int (zI hz)])), (ak, .inl (G.2.1, 5, .inl (aZ hk))), (aq, .inl (G.2.1, 5, .inl (aZ hq))), (av, .inl (G.2.1, 5, .inl (aZ hv)))] H → va_S A s.heap H locs → lv_has ls 3 [(2, .int (zI t)), (1, .int (zI ((bits : Nat) : Int))), (0, .ref hq0)] → W p l e rmX8_which s m ([.ref hq0] : List Value).toArray below meth c H locs 0 0 Q (F0 m 4 ls []) := by
    intro n_
    induction n_ with
    | zero =>
      intro t bits H locs ls ht hbi hm
      exact absurd hm (Nat.not_lt_zero _)
    | succ n_ ih4 =>
      intro t bits H locs ls ht hbi hm4 hP hS hl
      refine lv_iload_n hx hb dX8_which_4 rfl (lv_at hl 0 rfl) ?_
      refine lv_aload_n hx hb dX8_which_5 rfl (lv_at hl 2 rfl) ?_
      refine va_get (ci := 8) (v := .ref hb0) (C := RX8) (T := TX8) (N := 11) hx hb hts i8 hown hK hP 0 rfl rfl 2 (by decide) f28 (fun _ h9 => h9) rfl dX8_which_6 ?_
      refine va_get (ci := 0) (v := .int (zI Wy)) (C := RX0) (T := TX0) (N := 6) hx hb hts i0 hown hK hP 2 rfl rfl 2 (by decide) f166 (fun _ h9 => h9) rfl dX8_which_9 ?_
      refine z_icmp_ge (tgt := 42) hx hb (by omega) dX8_which_12 (by decide) (fun c_1 => ?_) (fun c_1 => ?_)
      · refine lv_iload_n hx hb dX8_which_42 rfl (lv_at hl 1 rfl) ?_
        exact hret H locs ls 43 _ (congrArg zI (by rw [hbi, show t = Wy by omega])) hS dX8_which_43
      · refine lv_aload_n hx hb dX8_which_15 rfl (lv_at hl 2 rfl) ?_
        refine va_get (ci := 8) (v := .ref hh0) (C := RX8) (T := TX8) (N := 11) hx hb hts i8 hown hK hP 0 rfl rfl 7 (by decide) f67 (fun _ h9 => h9) rfl dX8_which_16 ?_
        refine lv_iload_n hx hb dX8_which_19 rfl (lv_at hl 0 rfl) ?_
        refine lv_aload_n hx hb dX8_which_20 rfl (lv_at hl 2 rfl) ?_
        refine va_get (ci := 8) (v := .ref hw0) (C := RX8) (T := TX8) (N := 11) hx hb hts i8 hown hK hP 0 rfl rfl 6 (by decide) f60 (fun _ h9 => h9) rfl dX8_which_21 ?_
        refine z_cV (As := [.int (zI t), .ref hw0]) (rest := []) ⟨hx, hb, hml, hown, hts⟩ (c_X1_allSoBy l G hh0 ak aq av hz hk hq hv hw0 ap hb0 al S C Wy Li St hy0 aw wy se tu wn ld t (by first | assumption | omega) (by first | assumption | omega) (by first | assumption | omega) (by first | assumption | omega) (by first | assumption | omega) (by first | assumption | omega) (by first | assumption | omega)) (cwV 2 hts gX8_which_X1_allSoBy rfl rfl rfl pd_X1_allSoBy ⟨(Nat.le_of_ble_eq_true rfl), (Nat.le_of_ble_eq_true rfl)⟩) hK hP hS [6, 7, 8, 9, 1, 2, 3, 4, 5] rfl rfl rfl rfl rfl hl.1 rfl (Nat.le_of_ble_eq_true rfl) dX8_which_24 ⟨Nat.zero_le _, Nat.zero_le _⟩ (fun H locs hP hS => ?_)
        refine z_ifeq_b (tgt := 36) hx hb dX8_which_27 (by decide) (fun c_2 => ?_) (fun c_2 => ?_)
        · refine lv_iinc (v := zI (t + 1)) (lv' := [(2, .int (zI (t + 1))), (1, .int (zI ((bits : Nat) : Int))), (0, .ref hq0)]) hx hb dX8_which_36 hl (k := 0) rfl (zI_add _ _) (by decide) rfl (fun ls hl => ?_)
          refine lv_goto (tgt := 4) hx hb dX8_which_39 (by decide) ?_
          exact ih4 (t + 1) bits H locs ls (by omega) (by rw [tn1 ht.1, whC, Int.toNat_of_nonneg ht.1, ← hbi]; first | rw [if_pos (by assumption)] | rw [if_neg (by assumption)]) (by omega) hP hS (lv_sub hl [0, 1, 2] rfl)
        · refine lv_iload_n hx hb dX8_which_30 rfl (lv_at hl 1 rfl) ?_
          refine lv_iconst (v := zI 1) hx hb dX8_which_31 rfl ?_
          refine lv_iload_n hx hb dX8_which_32 rfl (lv_at hl 0 rfl) ?_
          refine z_shl1 hx hb (by omega) dX8_which_33 ?_
          refine z_ior (a := bits) (b := (2 ^ t.toNat)) hx hb dX8_which_34 ?_
          refine lv_istore_n (lv' := [(1, .int (zI ((bits ||| (2 ^ t.toNat) : Nat) : Int))), (2, .int (zI t)), (0, .ref hq0)]) hx hb dX8_which_35 rfl hl (by decide) rfl (fun ls hl => ?_)
          refine lv_iinc (v := zI (t + 1)) (lv' := [(2, .int (zI (t + 1))), (1, .int (zI ((bits ||| (2 ^ t.toNat) : Nat) : Int))), (0, .ref hq0)]) hx hb dX8_which_36 hl (k := 1) rfl (zI_add _ _) (by decide) rfl (fun ls hl => ?_)
          refine lv_goto (tgt := 4) hx hb dX8_which_39 (by decide) ?_
          exact ih4 (t + 1) (bits ||| (2 ^ t.toNat)) H locs ls (by omega) (by rw [tn1 ht.1, whC, Int.toNat_of_nonneg ht.1, ← hbi]; first | rw [if_pos (by assumption)] | rw [if_neg (by assumption)]) (by omega) hP hS (lv_sub hl [0, 1, 2] rfl)
  exact loop4 _ 0 0 H locs ls (by omega) rfl (Nat.lt_succ_self _) hP hS (lv_sub hl [0, 1, 2] rfl)
