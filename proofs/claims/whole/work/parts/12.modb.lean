theorem pd_X9_lie : yX9_lie.cls = RX9 ∧ yX9_lie.cls ≠ "java/lang/invoke/MethodHandle" ∧ yX9_lie.cls ≠ "java/lang/invoke/VarHandle" ∧ (parseMethodDescriptor yX9_lie.desc).map (fun d => d.parameters.length) = some 2 := by decide +kernel
abbrev rmX9_lie : Room := { frames := 2, cells := 0, slots := 0, locals := 43 }
set_option maxHeartbeats 4000000 in
set_option maxRecDepth 100000 in
theorem c_X9_lie (l : Launch) (G : CX) (hm0 : Nat) (S : Int) (C : Int) (Wy : Int) (Li : Int) (ml : Nat) (ms : Nat) (mw : Nat) (kn : Int) (mi : Nat) (mk : Nat) (hz : Int) (mh : Nat) (tr : Int64) (mt : Nat) (tn : Int) (cu : Int) (sa : Int) (to : Int) (nu : Int) (wr : Int) (it : Int) (sS : Int) (sC : Int) (sL : Int) (sW : Int) (mq : Nat) (mn : Nat) (mc : Nat) (mr : Nat) (mb : Nat) (ld : Int → Int) (sf : Int → Int) (w : Int) (what : Int) (hB : (2 ≤ S ∧ S ≤ 6) ∧ (C = 1 ∧ Wy = S ∨ C = 2 ∧ Wy = 2 * S)) (hr_w : -2147483648 ≤ w ∧ w < 2147483648) (hr_what : -2147483648 ≤ what ∧ what < 2147483648) : Met l yX9_lie wsX9_lie rmX9_lie (rdP G [.ref hm0, .int (zI w), .int (zI what)] [(hm0, .inr (9, [.int (zI S), .int (zI C), .int (zI Wy), .int (zI Li), .ref ml, .ref ms, .ref mw, .int (zI kn), .ref mi, .ref mk, .int (zI hz), .ref mh, .long tr, .ref mt, .int (zI tn), .int (zI cu), .int (zI sa), .int (zI to), .int (zI nu), .int (zI wr), .int (zI it), .int (zI sS), .int (zI sC), .int (zI sL), .int (zI sW), .ref mq, .ref mn, .ref mc, .ref mr, .ref mb])), (ml, .inl (G.2.1, 12, .inl (aZ ld))), (ms, .inl (G.2.1, 15, .inl (aZ sf)))]) (rdQ (zI (if ¬ (0 ≤ w ∧ w < Wy) then -1 else if what = 0 then stepZ S w else if what = 1 then covZ S w else if what = 2 then ld w else if what = 3 then sf (3 + w) else -1))) 0 0 noA := by
  refine rd_ofW (cc := cX9_lie) (maxL := 3) (ty := .int) (by decide) rfl (Nat.le_of_ble_eq_true rfl) rfl ?_
  intro p e s m below meth c Q A hx hb hml hown hts hK hret H locs hP hS ls hl
  have hown : s.vm.findClass RX9 = some m.cls := hown
  have hl : lv_has ls 3 [(0, .ref hm0), (1, .int (zI w)), (2, .int (zI what))] := hl
  have f7 := hts (.fieldLink RX9 7 "QuarterTurnsModel" "steps" "I") (by decide +kernel)
  have i9 : ∀ w ∈ wsX90, w ∈ wsX9_lie := fun w h => List.mem_cons_of_mem _ (List.mem_append_right _ h)
  have f22 := hts (.fieldLink RX9 22 "QuarterTurnsModel" "load" "[I") (by decide +kernel)
  have f26 := hts (.fieldLink RX9 26 "QuarterTurnsModel" "st" "[I") (by decide +kernel)
  refine lv_aload_n hx hb dX9_lie_0 rfl (lv_at hl 0 rfl) ?_
  refine lv_iload_n hx hb dX9_lie_1 rfl (lv_at hl 1 rfl) ?_
  refine z_cV (As := [.int (zI w)]) (rest := []) ⟨hx, hb, hml, hown, hts⟩ (c_X9_isWay l G hm0 S C Wy Li ml ms mw kn mi mk hz mh tr mt tn cu sa to nu wr it sS sC sL sW mq mn mc mr mb w (by first | assumption | omega) (by first | assumption | omega)) (cwV 1 hts gX9_lie_X9_isWay rfl rfl rfl pd_X9_isWay ⟨(Nat.le_of_ble_eq_true rfl), (Nat.le_of_ble_eq_true rfl)⟩) hK hP hS [0] rfl rfl rfl rfl rfl hl.1 rfl (Nat.le_of_ble_eq_true rfl) dX9_lie_2 ⟨Nat.zero_le _, Nat.zero_le _⟩ (fun H locs hP hS => ?_)
  refine z_ifne_b (tgt := 10) hx hb dX9_lie_5 (by decide) (fun c_1 => ?_) (fun c_1 => ?_)
  · obtain ⟨hs1, hs2⟩ := stepM hB (by omega)
    refine lv_iload_n hx hb dX9_lie_10 rfl (lv_at hl 2 rfl) ?_
    rcases (show (what < 0 ∨ 3 < what) ∨ what = 0 ∨ what = 1 ∨ what = 2 ∨ what = 3 by omega) with c_2 | c_2 | c_2 | c_2 | c_2
    · refine z_tabOut (tgt := 70) hx hb (by omega) dX9_lie_11 c_2 (by decide) ?_
      refine lv_iconst (v := zI (-1)) hx hb dX9_lie_70 rfl ?_
      exact hret H locs ls 71 _ (congrArg zI (by (repeat' split) <;> first | rfl | omega)) hS dX9_lie_71
    · refine z_tabIn (tgt := 40) (k := 0) hx hb (by omega) dX9_lie_11 (by omega) (by omega) (by omega) rfl (by decide) ?_
      refine lv_iload_n hx hb dX9_lie_40 rfl (lv_at hl 1 rfl) ?_
      refine lv_aload_n hx hb dX9_lie_41 rfl (lv_at hl 0 rfl) ?_
      refine va_get (ci := 9) (v := .int (zI S)) (C := RX9) (T := TX9) (N := 30) hx hb hts i9 hown hK hP 0 rfl rfl 0 (by decide) f7 (fun _ h9 => h9) rfl dX9_lie_42 ?_
      refine z_irem hx hb (by omega) dX9_lie_45 ?_
      exact hret H locs ls 46 _ (congrArg zI (by rw [hs1]; (repeat' split) <;> first | omega | rfl)) hS dX9_lie_46
    · refine z_tabIn (tgt := 47) (k := 1) hx hb (by omega) dX9_lie_11 (by omega) (by omega) (by omega) rfl (by decide) ?_
      refine lv_iload_n hx hb dX9_lie_47 rfl (lv_at hl 1 rfl) ?_
      refine lv_aload_n hx hb dX9_lie_48 rfl (lv_at hl 0 rfl) ?_
      refine va_get (ci := 9) (v := .int (zI S)) (C := RX9) (T := TX9) (N := 30) hx hb hts i9 hown hK hP 0 rfl rfl 0 (by decide) f7 (fun _ h9 => h9) rfl dX9_lie_49 ?_
      refine z_idiv hx hb (by omega) dX9_lie_52 ?_
      exact hret H locs ls 53 _ (congrArg zI (by rw [hs2]; (repeat' split) <;> first | omega | rfl)) hS dX9_lie_53
    · refine z_tabIn (tgt := 54) (k := 2) hx hb (by omega) dX9_lie_11 (by omega) (by omega) (by omega) rfl (by decide) ?_
      refine lv_aload_n hx hb dX9_lie_54 rfl (lv_at hl 0 rfl) ?_
      refine va_get (ci := 9) (v := .ref ml) (C := RX9) (T := TX9) (N := 30) hx hb hts i9 hown hK hP 0 rfl rfl 4 (by decide) f22 (fun _ h9 => h9) rfl dX9_lie_55 ?_
      refine lv_iload_n hx hb dX9_lie_58 rfl (lv_at hl 1 rfl) ?_
      refine z_iald (n := 12) (f := ld) hx hb hK hP 1 rfl (by omega) dX9_lie_59 ?_
      exact hret H locs ls 60 _ (congrArg zI (by (repeat' split) <;> first | rfl | omega)) hS dX9_lie_60
    · refine z_tabIn (tgt := 61) (k := 3) hx hb (by omega) dX9_lie_11 (by omega) (by omega) (by omega) rfl (by decide) ?_
      refine lv_aload_n hx hb dX9_lie_61 rfl (lv_at hl 0 rfl) ?_
      refine va_get (ci := 9) (v := .ref ms) (C := RX9) (T := TX9) (N := 30) hx hb hts i9 hown hK hP 0 rfl rfl 5 (by decide) f26 (fun _ h9 => h9) rfl dX9_lie_62 ?_
      refine lv_iconst (v := zI 3) hx hb dX9_lie_65 rfl ?_
      refine lv_iload_n hx hb dX9_lie_66 rfl (lv_at hl 1 rfl) ?_
      refine z_iadd hx hb dX9_lie_67 ?_
      refine z_iald (n := 15) (f := sf) hx hb hK hP 2 rfl (by omega) dX9_lie_68 ?_
      exact hret H locs ls 69 _ (congrArg zI (by (repeat' split) <;> first | rfl | omega)) hS dX9_lie_69
  · refine lv_iconst (v := zI (-1)) hx hb dX9_lie_8 rfl ?_
    exact hret H locs ls 9 _ (congrArg zI (by (repeat' split) <;> first | rfl | omega)) hS dX9_lie_9
theorem pd_X9_turned : yX9_turned.cls = RX9 ∧ yX9_turned.cls ≠ "java/lang/invoke/MethodHandle" ∧ yX9_turned.cls ≠ "java/lang/invoke/VarHandle" ∧ (parseMethodDescriptor yX9_turned.desc).map (fun d => d.parameters.length) = some 2 := by decide +kernel
abbrev rmX9_turned : Room := { frames := 2, cells := 0, slots := 0, locals := 43 }
set_option maxHeartbeats 4000000 in
set_option maxRecDepth 100000 in
theorem c_X9_turned (l : Launch) (G : CX) (hm0 : Nat) (S : Int) (C : Int) (Wy : Int) (Li : Int) (ml : Nat) (ms : Nat) (mw : Nat) (kn : Int) (mi : Nat) (mk : Nat) (hz : Int) (mh : Nat) (tr : Int64) (mt : Nat) (tn : Int) (cu : Int) (sa : Int) (to : Int) (nu : Int) (wr : Int) (it : Int) (sS : Int) (sC : Int) (sL : Int) (sW : Int) (mq : Nat) (mn : Nat) (mc : Nat) (mr : Nat) (mb : Nat) (w : Int) (t : Int) (hB : (2 ≤ S ∧ S ≤ 6) ∧ (C = 1 ∧ Wy = S ∨ C = 2 ∧ Wy = 2 * S)) (hr_w : -2147483648 ≤ w ∧ w < 2147483648) (hr_t : -2147483648 ≤ t ∧ t < 2147483648) : Met l yX9_turned wsX9_turned rmX9_turned (rdP G [.ref hm0, .int (zI w), .int (zI t)] [(hm0, .inr (9, [.int (zI S), .int (zI C), .int (zI Wy), .int (zI Li), .ref ml, .ref ms, .ref mw, .int (zI kn), .ref mi, .ref mk, .int (zI hz), .ref mh, .long tr, .ref mt, .int (zI tn), .int (zI cu), .int (zI sa), .int (zI to), .int (zI nu), .int (zI wr), .int (zI it), .int (zI sS), .int (zI sC), .int (zI sL), .int (zI sW), .ref mq, .ref mn, .ref mc, .ref mr, .ref mb]))]) (rdQ (zI (if (0 ≤ w ∧ w < Wy) ∧ (0 ≤ t ∧ t < Wy) then fromZ S w t else -1))) 0 0 noA := by
  refine rd_ofW (cc := cX9_turned) (maxL := 3) (ty := .int) (by decide) rfl (Nat.le_of_ble_eq_true rfl) rfl ?_
  intro p e s m below meth c Q A hx hb hml hown hts hK hret H locs hP hS ls hl
  have hown : s.vm.findClass RX9 = some m.cls := hown
  have hl : lv_has ls 3 [(0, .ref hm0), (1, .int (zI w)), (2, .int (zI t))] := hl
  refine lv_aload_n hx hb dX9_turned_0 rfl (lv_at hl 0 rfl) ?_
  refine lv_iload_n hx hb dX9_turned_1 rfl (lv_at hl 1 rfl) ?_
  refine z_cV (As := [.int (zI w)]) (rest := []) ⟨hx, hb, hml, hown, hts⟩ (c_X9_isWay l G hm0 S C Wy Li ml ms mw kn mi mk hz mh tr mt tn cu sa to nu wr it sS sC sL sW mq mn mc mr mb w (by first | assumption | omega) (by first | assumption | omega)) (cwV 1 hts gX9_turned_X9_isWay rfl rfl rfl pd_X9_isWay ⟨(Nat.le_of_ble_eq_true rfl), (Nat.le_of_ble_eq_true rfl)⟩) hK hP hS [0] rfl rfl rfl rfl rfl hl.1 rfl (Nat.le_of_ble_eq_true rfl) dX9_turned_2 ⟨Nat.zero_le _, Nat.zero_le _⟩ (fun H locs hP hS => ?_)
  refine z_ifeq_b (tgt := 25) hx hb dX9_turned_5 (by decide) (fun c_1 => ?_) (fun c_1 => ?_)
  · refine lv_iconst (v := zI (-1)) hx hb dX9_turned_25 rfl ?_
    exact hret H locs ls 26 _ (congrArg zI (by (repeat' split) <;> first | rfl | omega)) hS dX9_turned_26
  · refine lv_aload_n hx hb dX9_turned_8 rfl (lv_at hl 0 rfl) ?_
    refine lv_iload_n hx hb dX9_turned_9 rfl (lv_at hl 2 rfl) ?_
    refine z_cV (As := [.int (zI t)]) (rest := []) ⟨hx, hb, hml, hown, hts⟩ (c_X9_isWay l G hm0 S C Wy Li ml ms mw kn mi mk hz mh tr mt tn cu sa to nu wr it sS sC sL sW mq mn mc mr mb t (by first | assumption | omega) (by first | assumption | omega)) (cwV 1 hts gX9_turned_X9_isWay rfl rfl rfl pd_X9_isWay ⟨(Nat.le_of_ble_eq_true rfl), (Nat.le_of_ble_eq_true rfl)⟩) hK hP hS [0] rfl rfl rfl rfl rfl hl.1 rfl (Nat.le_of_ble_eq_true rfl) dX9_turned_10 ⟨Nat.zero_le _, Nat.zero_le _⟩ (fun H locs hP hS => ?_)
    refine z_ifeq_b (tgt := 25) hx hb dX9_turned_13 (by decide) (fun c_2 => ?_) (fun c_2 => ?_)
    · refine lv_iconst (v := zI (-1)) hx hb dX9_turned_25 rfl ?_
      exact hret H locs ls 26 _ (congrArg zI (by (repeat' split) <;> first | rfl | omega)) hS dX9_turned_26
    · refine lv_aload_n hx hb dX9_turned_16 rfl (lv_at hl 0 rfl) ?_
      refine lv_iload_n hx hb dX9_turned_17 rfl (lv_at hl 1 rfl) ?_
      refine lv_iload_n hx hb dX9_turned_18 rfl (lv_at hl 2 rfl) ?_
      refine z_cV (As := [.int (zI w), .int (zI t)]) (rest := []) ⟨hx, hb, hml, hown, hts⟩ (c_X9_from l G hm0 S C Wy Li ml ms mw kn mi mk hz mh tr mt tn cu sa to nu wr it sS sC sL sW mq mn mc mr mb w t (by first | assumption | omega) (by first | assumption | omega) (by first | assumption | omega)) (cwV 2 hts gX9_turned_X9_from rfl rfl rfl pd_X9_from ⟨(Nat.le_of_ble_eq_true rfl), (Nat.le_of_ble_eq_true rfl)⟩) hK hP hS [0] rfl rfl rfl rfl rfl hl.1 rfl (Nat.le_of_ble_eq_true rfl) dX9_turned_19 ⟨Nat.zero_le _, Nat.zero_le _⟩ (fun H locs hP hS => ?_)
      have hq_3 := fromZ_rng (C := C) (Wy := Wy) (w := w) (t := t) ((by first | assumption | omega)) ((by first | assumption | omega)) ((by first | assumption | omega))
      refine lv_goto (tgt := 26) hx hb dX9_turned_22 (by decide) ?_
      exact hret H locs ls 26 _ (congrArg zI (by (repeat' split) <;> first | rfl | omega)) hS dX9_turned_26

def shW (f : Int → Int) (k : Int) : Int → Int := fun j => if 0 ≤ j ∧ j < k then f (j + 15) else f j
theorem shW_0 (f : Int → Int) : shW f 0 = f := by
  funext j
  unfold shW
  rw [if_neg (by omega)]
theorem shW_step (f : Int → Int) (k : Int) (hk : 0 ≤ k) : uZ (shW f k) k (shW f k (k + 15)) = shW f (k + 1) := by
  funext j
  unfold uZ shW
  rw [if_neg (show ¬ (0 ≤ k + 15 ∧ k + 15 < k) by omega)]
  by_cases h : j = k
  · rw [if_pos h, if_pos ⟨by omega, by omega⟩, h]
  · rw [if_neg h]
    by_cases h2 : 0 ≤ j ∧ j < k
    · rw [if_pos h2, if_pos ⟨by omega, by omega⟩]
    · rw [if_neg h2, if_neg (by omega)]
def knR (kn : Int) : Int := if kn = 10 then 10 else kn + 1
def wfR (kn : Int) (wf sf : Int → Int) : Int → Int := if kn = 10 then cpK (shW wf 135) 135 sf 0 15 else cpK wf (15 * kn) sf 0 15

theorem pd_X9_remembers : yX9_remembers.cls = RX9 ∧ yX9_remembers.cls ≠ "java/lang/invoke/MethodHandle" ∧ yX9_remembers.cls ≠ "java/lang/invoke/VarHandle" ∧ (parseMethodDescriptor yX9_remembers.desc).map (fun d => d.parameters.length) = some 0 := by decide +kernel
abbrev rmX9_remembers : Room := { frames := 1, cells := 0, slots := 0, locals := 24 }
set_option maxHeartbeats 4000000 in
set_option maxRecDepth 100000 in
theorem c_X9_remembers (l : Launch) (G : CX) (hm0 : Nat) (S : Int) (C : Int) (Wy : Int) (Li : Int) (ml : Nat) (ms : Nat) (mw : Nat) (kn : Int) (mi : Nat) (mk : Nat) (hz : Int) (mh : Nat) (tr : Int64) (mt : Nat) (tn : Int) (cu : Int) (sa : Int) (to : Int) (nu : Int) (wr : Int) (it : Int) (sS : Int) (sC : Int) (sL : Int) (sW : Int) (mq : Nat) (mn : Nat) (mc : Nat) (mr : Nat) (mb : Nat) (wf : Int → Int) (sf : Int → Int) (hkn : 0 ≤ kn ∧ kn ≤ 10) : Met l yX9_remembers wsX9_remembers rmX9_remembers (wrP G [.ref hm0] [(hm0, .inr (9, [.int (zI S), .int (zI C), .int (zI Wy), .int (zI Li), .ref ml, .ref ms, .ref mw, .int (zI kn), .ref mi, .ref mk, .int (zI hz), .ref mh, .long tr, .ref mt, .int (zI tn), .int (zI cu), .int (zI sa), .int (zI to), .int (zI nu), .int (zI wr), .int (zI it), .int (zI sS), .int (zI sC), .int (zI sL), .int (zI sW), .ref mq, .ref mn, .ref mc, .ref mr, .ref mb])), (mw, .inl (G.2.1, 150, .inl (aZ wf))), (ms, .inl (G.2.1, 15, .inl (aZ sf)))]) (wrV G [(hm0, .inr (9, [.int (zI S), .int (zI C), .int (zI Wy), .int (zI Li), .ref ml, .ref ms, .ref mw, .int (zI kn), .ref mi, .ref mk, .int (zI hz), .ref mh, .long tr, .ref mt, .int (zI tn), .int (zI cu), .int (zI sa), .int (zI to), .int (zI nu), .int (zI wr), .int (zI it), .int (zI sS), .int (zI sC), .int (zI sL), .int (zI sW), .ref mq, .ref mn, .ref mc, .ref mr, .ref mb])), (mw, .inl (G.2.1, 150, .inl (aZ wf))), (ms, .inl (G.2.1, 15, .inl (aZ sf)))] (fun (u : Int × (Int → Int)) => match u with | (kn2, wf2) => (kn2 = knR kn ∧ wf2 = wfR kn wf sf)) (fun (u : Int × (Int → Int)) => match u with | (kn2, wf2) => [(hm0, .inr (9, [.int (zI S), .int (zI C), .int (zI Wy), .int (zI Li), .ref ml, .ref ms, .ref mw, .int (zI kn2), .ref mi, .ref mk, .int (zI hz), .ref mh, .long tr, .ref mt, .int (zI tn), .int (zI cu), .int (zI sa), .int (zI to), .int (zI nu), .int (zI wr), .int (zI it), .int (zI sS), .int (zI sC), .int (zI sL), .int (zI sW), .ref mq, .ref mn, .ref mc, .ref mr, .ref mb])), (mw, .inl (G.2.1, 150, .inl (aZ wf2))), (ms, .inl (G.2.1, 15, .inl (aZ sf)))])) 0 0 (wrA [(hm0, .inr (9, [.int (zI S), .int (zI C), .int (zI Wy), .int (zI Li), .ref ml, .ref ms, .ref mw, .int (zI kn), .ref mi, .ref mk, .int (zI hz), .ref mh, .long tr, .ref mt, .int (zI tn), .int (zI cu), .int (zI sa), .int (zI to), .int (zI nu), .int (zI wr), .int (zI it), .int (zI sS), .int (zI sC), .int (zI sL), .int (zI sW), .ref mq, .ref mn, .ref mc, .ref mr, .ref mb])), (mw, .inl (G.2.1, 150, .inl (aZ wf))), (ms, .inl (G.2.1, 15, .inl (aZ sf)))]) := by
  refine wv_ofW (cc := cX9_remembers) (maxL := 2) (by decide) rfl (Nat.le_of_ble_eq_true rfl) ?_
  intro p e s m below meth c Q A hx hb hml hown hts hK hret H locs hP hD hS ls hl
  have hown : s.vm.findClass RX9 = some m.cls := hown
  have hl : lv_has ls 2 [(0, .ref hm0)] := hl
  have f122 := hts (.fieldLink RX9 122 "QuarterTurnsModel" "known" "I") (by decide +kernel)
  have i9 : ∀ w ∈ wsX90, w ∈ wsX9_remembers := fun w h => List.mem_cons_of_mem _ (List.mem_append_right _ h)
  have f29 := hts (.fieldLink RX9 29 "QuarterTurnsModel" "was" "[I") (by decide +kernel)
  have f26 := hts (.fieldLink RX9 26 "QuarterTurnsModel" "st" "[I") (by decide +kernel)
  refine lv_aload_n hx hb dX9_remembers_0 rfl (lv_at hl 0 rfl) ?_
  refine va_get (ci := 9) (v := .int (zI kn)) (C := RX9) (T := TX9) (N := 30) hx hb hts i9 hown hK hP 0 rfl rfl 7 (by decide) f122 (fun _ h9 => h9) rfl dX9_remembers_1 ?_
  refine lv_bipush (v := zI 10) hx hb dX9_remembers_4 (by decide) ?_
  refine z_icmp_ne (tgt := 49) hx hb (by omega) dX9_remembers_6 (by decide) (fun c_1 => ?_) (fun c_1 => ?_)
  · refine lv_aload_n hx hb dX9_remembers_49 rfl (lv_at hl 0 rfl) ?_
    refine va_get (ci := 9) (v := .ref mw) (C := RX9) (T := TX9) (N := 30) hx hb hts i9 hown hK hP 0 rfl rfl 6 (by decide) f29 (fun _ h9 => h9) rfl dX9_remembers_50 ?_
    refine lv_bipush (v := zI 15) hx hb dX9_remembers_53 (by decide) ?_
    refine lv_aload_n hx hb dX9_remembers_55 rfl (lv_at hl 0 rfl) ?_
    refine va_get (ci := 9) (v := .int (zI kn)) (C := RX9) (T := TX9) (N := 30) hx hb hts i9 hown hK hP 0 rfl rfl 7 (by decide) f122 (fun _ h9 => h9) rfl dX9_remembers_56 ?_
    refine z_imul hx hb dX9_remembers_59 ?_
    refine lv_aload_n hx hb dX9_remembers_60 rfl (lv_at hl 0 rfl) ?_
    refine va_get (ci := 9) (v := .ref ms) (C := RX9) (T := TX9) (N := 30) hx hb hts i9 hown hK hP 0 rfl rfl 5 (by decide) f26 (fun _ h9 => h9) rfl dX9_remembers_61 ?_
    refine lv_iconst (v := zI 0) hx hb dX9_remembers_64 rfl ?_
    refine z_wSv (As := [.ref mw, .int (zI (15 * kn)), .ref ms, .int (zI 0)]) (rest := []) ⟨hx, hb, hml, hown, hts⟩ (c_X9_copy l G mw 150 wf (15 * kn) ms 15 sf 0 (by first | assumption | omega)) (va_cwS 4 hts gX9_remembers_X9_copy rfl rfl rfl pd_X9_copy.2 ⟨(Nat.le_of_ble_eq_true rfl), (Nat.le_of_ble_eq_true rfl)⟩) hK hP hD hS [1, 2] (by decide) rfl (fun _ => rfl) rfl hl.1 rfl (Nat.le_of_ble_eq_true rfl) dX9_remembers_65 ⟨Nat.zero_le _, Nat.zero_le _⟩ (fun u_ H locs hw_3 hP hD hS => ?_)
    obtain ⟨g2_2, rfl⟩ : ∃ z, z = u_ := ⟨_, rfl⟩
    try dsimp only at hw_3
    obtain rfl := hw_3
    have hP : kP G [(hm0, .inr (9, [.int (zI S), .int (zI C), .int (zI Wy), .int (zI Li), .ref ml, .ref ms, .ref mw, .int (zI kn), .ref mi, .ref mk, .int (zI hz), .ref mh, .long tr, .ref mt, .int (zI tn), .int (zI cu), .int (zI sa), .int (zI to), .int (zI nu), .int (zI wr), .int (zI it), .int (zI sS), .int (zI sC), .int (zI sL), .int (zI sW), .ref mq, .ref mn, .ref mc, .ref mr, .ref mb])), (mw, .inl (G.2.1, 150, .inl (aZ (cpK wf (15 * kn) sf 0 15)))), (ms, .inl (G.2.1, 15, .inl (aZ sf)))] H := hP
    have hD : va_D A [(hm0, .inr (9, [.int (zI S), .int (zI C), .int (zI Wy), .int (zI Li), .ref ml, .ref ms, .ref mw, .int (zI kn), .ref mi, .ref mk, .int (zI hz), .ref mh, .long tr, .ref mt, .int (zI tn), .int (zI cu), .int (zI sa), .int (zI to), .int (zI nu), .int (zI wr), .int (zI it), .int (zI sS), .int (zI sC), .int (zI sL), .int (zI sW), .ref mq, .ref mn, .ref mc, .ref mr, .ref mb])), (mw, .inl (G.2.1, 150, .inl (aZ (cpK wf (15 * kn) sf 0 15)))), (ms, .inl (G.2.1, 15, .inl (aZ sf)))] := hD
    refine lv_aload_n hx hb dX9_remembers_68 rfl (lv_at hl 0 rfl) ?_
    refine lv_dup hx hb dX9_remembers_69 rfl ?_
    refine va_get (ci := 9) (v := .int (zI kn)) (C := RX9) (T := TX9) (N := 30) hx hb hts i9 hown hK hP 0 rfl rfl 7 (by decide) f122 (fun _ h9 => h9) rfl dX9_remembers_70 ?_
    refine lv_iconst (v := zI 1) hx hb dX9_remembers_73 rfl ?_
    refine z_iadd hx hb dX9_remembers_74 ?_
    refine va_put (ci := 9) (v := .int (zI (kn + 1))) (ty := .int) (C := RX9) (T := TX9) (N := 30) hx hb hts i9 tyX9 tyX9_ok nmX9 hown hK hP hD hS 0 rfl rfl 7 (by decide) f122 (fun _ h9 => h9) rfl (tyX9_ok 7 (by decide)) rfl rfl (Nat.le_of_ble_eq_true rfl) dX9_remembers_75 (fun H locs hP hD hS => ?_)
    have hP : kP G [(hm0, .inr (9, [.int (zI S), .int (zI C), .int (zI Wy), .int (zI Li), .ref ml, .ref ms, .ref mw, .int (zI (kn + 1)), .ref mi, .ref mk, .int (zI hz), .ref mh, .long tr, .ref mt, .int (zI tn), .int (zI cu), .int (zI sa), .int (zI to), .int (zI nu), .int (zI wr), .int (zI it), .int (zI sS), .int (zI sC), .int (zI sL), .int (zI sW), .ref mq, .ref mn, .ref mc, .ref mr, .ref mb])), (mw, .inl (G.2.1, 150, .inl (aZ (cpK wf (15 * kn) sf 0 15)))), (ms, .inl (G.2.1, 15, .inl (aZ sf)))] H := hP
    have hD : va_D A [(hm0, .inr (9, [.int (zI S), .int (zI C), .int (zI Wy), .int (zI Li), .ref ml, .ref ms, .ref mw, .int (zI (kn + 1)), .ref mi, .ref mk, .int (zI hz), .ref mh, .long tr, .ref mt, .int (zI tn), .int (zI cu), .int (zI sa), .int (zI to), .int (zI nu), .int (zI wr), .int (zI it), .int (zI sS), .int (zI sC), .int (zI sL), .int (zI sW), .ref mq, .ref mn, .ref mc, .ref mr, .ref mb])), (mw, .inl (G.2.1, 150, .inl (aZ (cpK wf (15 * kn) sf 0 15)))), (ms, .inl (G.2.1, 15, .inl (aZ sf)))] := hD
    exact hret H locs ls 78 (kn + 1, cpK wf (15 * kn) sf 0 15) (by exact ⟨by unfold knR; rw [if_neg (by omega)], by unfold wfR; rw [if_neg (by omega)]⟩) hP hS dX9_remembers_78
  · refine lv_iconst (v := zI 0) hx hb dX9_remembers_9 rfl ?_
    refine lv_istore_n (lv' := [(1, .int (zI 0)), (0, .ref hm0)]) hx hb dX9_remembers_10 rfl hl (by decide) rfl (fun ls hl => ?_)
    have loop11 : ∀ (n_ : Nat) (k : Int) (g : Int → Int) (H : Heap) (locs : List Loc) (ls : Array Slot), (0 ≤ k ∧ k ≤ 135) → (g = shW wf k) → (135 - k).toNat < n_ → kP G [(hm0, .inr (9, [.int (zI S), .int (zI C), .int (zI Wy), .int (zI Li), .ref ml, .ref ms, .ref mw, .int (zI kn), .ref mi, .ref mk, .int (zI hz), .ref mh, .long tr, .ref mt, .int (zI tn), .int (zI cu), .int (zI sa), .int (zI to), .int (zI nu), .int (zI wr), .int (zI it), .int (zI sS), .int (zI sC), .int (zI sL), .int (zI sW), .ref mq, .ref mn, .ref mc, .ref mr, .ref mb])), (mw, .inl (G.2.1, 150, .inl (aZ g))), (ms, .inl (G.2.1, 15, .inl (aZ sf)))] H → va_D A [(hm0, .inr (9, [.int (zI S), .int (zI C), .int (zI Wy), .int (zI Li), .ref ml, .ref ms, .ref mw, .int (zI kn), .ref mi, .ref mk, .int (zI hz), .ref mh, .long tr, .ref mt, .int (zI tn), .int (zI cu), .int (zI sa), .int (zI to), .int (zI nu), .int (zI wr), .int (zI it), .int (zI sS), .int (zI sC), .int (zI sL), .int (zI sW), .ref mq, .ref mn, .ref mc, .ref mr, .ref mb])), (mw, .inl (G.2.1, 150, .inl (aZ g))), (ms, .inl (G.2.1, 15, .inl (aZ sf)))] → va_S A s.heap H locs → lv_has ls 2 [(1, .int (zI k)), (0, .ref hm0)] → W p l e rmX9_remembers s m ([.ref hm0] : List Value).toArray below meth c H locs 0 0 Q (F0 m 11 ls []) := by
      intro n_
      induction n_ with
      | zero =>
        intro k g H locs ls hk hg hm
        exact absurd hm (Nat.not_lt_zero _)
      | succ n_ ih11 =>
        intro k g H locs ls hk hg hm11 hP hD hS hl
        refine lv_iload_n hx hb dX9_remembers_11 rfl (lv_at hl 0 rfl) ?_
        refine lv_sipush (v := zI 135) hx hb dX9_remembers_12 (by decide) ?_
        refine z_icmp_ge (tgt := 39) hx hb (by omega) dX9_remembers_15 (by decide) (fun c_4 => ?_) (fun c_4 => ?_)
        · refine lv_aload_n hx hb dX9_remembers_39 rfl (lv_at hl 1 rfl) ?_
          refine lv_dup hx hb dX9_remembers_40 rfl ?_
          refine va_get (ci := 9) (v := .int (zI kn)) (C := RX9) (T := TX9) (N := 30) hx hb hts i9 hown hK hP 0 rfl rfl 7 (by decide) f122 (fun _ h9 => h9) rfl dX9_remembers_41 ?_
          refine lv_iconst (v := zI 1) hx hb dX9_remembers_44 rfl ?_
          refine z_isub hx hb dX9_remembers_45 ?_
          refine va_put (ci := 9) (v := .int (zI (kn - 1))) (ty := .int) (C := RX9) (T := TX9) (N := 30) hx hb hts i9 tyX9 tyX9_ok nmX9 hown hK hP hD hS 0 rfl rfl 7 (by decide) f122 (fun _ h9 => h9) rfl (tyX9_ok 7 (by decide)) rfl rfl (Nat.le_of_ble_eq_true rfl) dX9_remembers_46 (fun H locs hP hD hS => ?_)
          have hP : kP G [(hm0, .inr (9, [.int (zI S), .int (zI C), .int (zI Wy), .int (zI Li), .ref ml, .ref ms, .ref mw, .int (zI (kn - 1)), .ref mi, .ref mk, .int (zI hz), .ref mh, .long tr, .ref mt, .int (zI tn), .int (zI cu), .int (zI sa), .int (zI to), .int (zI nu), .int (zI wr), .int (zI it), .int (zI sS), .int (zI sC), .int (zI sL), .int (zI sW), .ref mq, .ref mn, .ref mc, .ref mr, .ref mb])), (mw, .inl (G.2.1, 150, .inl (aZ g))), (ms, .inl (G.2.1, 15, .inl (aZ sf)))] H := hP
          have hD : va_D A [(hm0, .inr (9, [.int (zI S), .int (zI C), .int (zI Wy), .int (zI Li), .ref ml, .ref ms, .ref mw, .int (zI (kn - 1)), .ref mi, .ref mk, .int (zI hz), .ref mh, .long tr, .ref mt, .int (zI tn), .int (zI cu), .int (zI sa), .int (zI to), .int (zI nu), .int (zI wr), .int (zI it), .int (zI sS), .int (zI sC), .int (zI sL), .int (zI sW), .ref mq, .ref mn, .ref mc, .ref mr, .ref mb])), (mw, .inl (G.2.1, 150, .inl (aZ g))), (ms, .inl (G.2.1, 15, .inl (aZ sf)))] := hD
          refine lv_aload_n hx hb dX9_remembers_49 rfl (lv_at hl 1 rfl) ?_
          refine va_get (ci := 9) (v := .ref mw) (C := RX9) (T := TX9) (N := 30) hx hb hts i9 hown hK hP 0 rfl rfl 6 (by decide) f29 (fun _ h9 => h9) rfl dX9_remembers_50 ?_
          refine lv_bipush (v := zI 15) hx hb dX9_remembers_53 (by decide) ?_
          refine lv_aload_n hx hb dX9_remembers_55 rfl (lv_at hl 1 rfl) ?_
          refine va_get (ci := 9) (v := .int (zI (kn - 1))) (C := RX9) (T := TX9) (N := 30) hx hb hts i9 hown hK hP 0 rfl rfl 7 (by decide) f122 (fun _ h9 => h9) rfl dX9_remembers_56 ?_
          refine z_imul hx hb dX9_remembers_59 ?_
          refine lv_aload_n hx hb dX9_remembers_60 rfl (lv_at hl 1 rfl) ?_
          refine va_get (ci := 9) (v := .ref ms) (C := RX9) (T := TX9) (N := 30) hx hb hts i9 hown hK hP 0 rfl rfl 5 (by decide) f26 (fun _ h9 => h9) rfl dX9_remembers_61 ?_
          refine lv_iconst (v := zI 0) hx hb dX9_remembers_64 rfl ?_
          refine z_wSv (As := [.ref mw, .int (zI (15 * (kn - 1))), .ref ms, .int (zI 0)]) (rest := []) ⟨hx, hb, hml, hown, hts⟩ (c_X9_copy l G mw 150 g (15 * (kn - 1)) ms 15 sf 0 (by first | assumption | omega)) (va_cwS 4 hts gX9_remembers_X9_copy rfl rfl rfl pd_X9_copy.2 ⟨(Nat.le_of_ble_eq_true rfl), (Nat.le_of_ble_eq_true rfl)⟩) hK hP hD hS [1, 2] (by decide) rfl (fun _ => rfl) rfl hl.1 rfl (Nat.le_of_ble_eq_true rfl) dX9_remembers_65 ⟨Nat.zero_le _, Nat.zero_le _⟩ (fun u_ H locs hw_6 hP hD hS => ?_)
          obtain ⟨g2_5, rfl⟩ : ∃ z, z = u_ := ⟨_, rfl⟩
          try dsimp only at hw_6
          obtain rfl := hw_6
          have hP : kP G [(hm0, .inr (9, [.int (zI S), .int (zI C), .int (zI Wy), .int (zI Li), .ref ml, .ref ms, .ref mw, .int (zI (kn - 1)), .ref mi, .ref mk, .int (zI hz), .ref mh, .long tr, .ref mt, .int (zI tn), .int (zI cu), .int (zI sa), .int (zI to), .int (zI nu), .int (zI wr), .int (zI it), .int (zI sS), .int (zI sC), .int (zI sL), .int (zI sW), .ref mq, .ref mn, .ref mc, .ref mr, .ref mb])), (mw, .inl (G.2.1, 150, .inl (aZ (cpK g (15 * (kn - 1)) sf 0 15)))), (ms, .inl (G.2.1, 15, .inl (aZ sf)))] H := hP
          have hD : va_D A [(hm0, .inr (9, [.int (zI S), .int (zI C), .int (zI Wy), .int (zI Li), .ref ml, .ref ms, .ref mw, .int (zI (kn - 1)), .ref mi, .ref mk, .int (zI hz), .ref mh, .long tr, .ref mt, .int (zI tn), .int (zI cu), .int (zI sa), .int (zI to), .int (zI nu), .int (zI wr), .int (zI it), .int (zI sS), .int (zI sC), .int (zI sL), .int (zI sW), .ref mq, .ref mn, .ref mc, .ref mr, .ref mb])), (mw, .inl (G.2.1, 150, .inl (aZ (cpK g (15 * (kn - 1)) sf 0 15)))), (ms, .inl (G.2.1, 15, .inl (aZ sf)))] := hD
          refine lv_aload_n hx hb dX9_remembers_68 rfl (lv_at hl 1 rfl) ?_
          refine lv_dup hx hb dX9_remembers_69 rfl ?_
          refine va_get (ci := 9) (v := .int (zI (kn - 1))) (C := RX9) (T := TX9) (N := 30) hx hb hts i9 hown hK hP 0 rfl rfl 7 (by decide) f122 (fun _ h9 => h9) rfl dX9_remembers_70 ?_
          refine lv_iconst (v := zI 1) hx hb dX9_remembers_73 rfl ?_
          refine z_iadd hx hb dX9_remembers_74 ?_
          refine va_put (ci := 9) (v := .int (zI ((kn - 1) + 1))) (ty := .int) (C := RX9) (T := TX9) (N := 30) hx hb hts i9 tyX9 tyX9_ok nmX9 hown hK hP hD hS 0 rfl rfl 7 (by decide) f122 (fun _ h9 => h9) rfl (tyX9_ok 7 (by decide)) rfl rfl (Nat.le_of_ble_eq_true rfl) dX9_remembers_75 (fun H locs hP hD hS => ?_)
          have hP : kP G [(hm0, .inr (9, [.int (zI S), .int (zI C), .int (zI Wy), .int (zI Li), .ref ml, .ref ms, .ref mw, .int (zI ((kn - 1) + 1)), .ref mi, .ref mk, .int (zI hz), .ref mh, .long tr, .ref mt, .int (zI tn), .int (zI cu), .int (zI sa), .int (zI to), .int (zI nu), .int (zI wr), .int (zI it), .int (zI sS), .int (zI sC), .int (zI sL), .int (zI sW), .ref mq, .ref mn, .ref mc, .ref mr, .ref mb])), (mw, .inl (G.2.1, 150, .inl (aZ (cpK g (15 * (kn - 1)) sf 0 15)))), (ms, .inl (G.2.1, 15, .inl (aZ sf)))] H := hP
          have hD : va_D A [(hm0, .inr (9, [.int (zI S), .int (zI C), .int (zI Wy), .int (zI Li), .ref ml, .ref ms, .ref mw, .int (zI ((kn - 1) + 1)), .ref mi, .ref mk, .int (zI hz), .ref mh, .long tr, .ref mt, .int (zI tn), .int (zI cu), .int (zI sa), .int (zI to), .int (zI nu), .int (zI wr), .int (zI it), .int (zI sS), .int (zI sC), .int (zI sL), .int (zI sW), .ref mq, .ref mn, .ref mc, .ref mr, .ref mb])), (mw, .inl (G.2.1, 150, .inl (aZ (cpK g (15 * (kn - 1)) sf 0 15)))), (ms, .inl (G.2.1, 15, .inl (aZ sf)))] := hD
          exact hret H locs ls 78 ((kn - 1) + 1, cpK g (15 * (kn - 1)) sf 0 15) (by exact ⟨by unfold knR; rw [if_pos (by omega)]; omega, by unfold wfR; rw [if_pos (by omega), hg, show k = 135 by omega, show (15 : Int) * (kn - 1) = 135 by omega]⟩) hP hS dX9_remembers_78
        · refine lv_aload_n hx hb dX9_remembers_18 rfl (lv_at hl 1 rfl) ?_
          refine va_get (ci := 9) (v := .ref mw) (C := RX9) (T := TX9) (N := 30) hx hb hts i9 hown hK hP 0 rfl rfl 6 (by decide) f29 (fun _ h9 => h9) rfl dX9_remembers_19 ?_
          refine lv_iload_n hx hb dX9_remembers_22 rfl (lv_at hl 0 rfl) ?_
          refine lv_aload_n hx hb dX9_remembers_23 rfl (lv_at hl 1 rfl) ?_
          refine va_get (ci := 9) (v := .ref mw) (C := RX9) (T := TX9) (N := 30) hx hb hts i9 hown hK hP 0 rfl rfl 6 (by decide) f29 (fun _ h9 => h9) rfl dX9_remembers_24 ?_
          refine lv_iload_n hx hb dX9_remembers_27 rfl (lv_at hl 0 rfl) ?_
          refine lv_bipush (v := zI 15) hx hb dX9_remembers_28 (by decide) ?_
          refine z_iadd hx hb dX9_remembers_30 ?_
          refine z_iald (n := 150) (f := g) hx hb hK hP 1 rfl (by omega) dX9_remembers_31 ?_
          refine z_iast (n := 150) (f := g) (i := k) (v := g (k + 15)) hx hb hK hP hD hS 1 rfl (by omega) dX9_remembers_32 (fun H locs hP hD hS => ?_)
          have hP : kP G [(hm0, .inr (9, [.int (zI S), .int (zI C), .int (zI Wy), .int (zI Li), .ref ml, .ref ms, .ref mw, .int (zI kn), .ref mi, .ref mk, .int (zI hz), .ref mh, .long tr, .ref mt, .int (zI tn), .int (zI cu), .int (zI sa), .int (zI to), .int (zI nu), .int (zI wr), .int (zI it), .int (zI sS), .int (zI sC), .int (zI sL), .int (zI sW), .ref mq, .ref mn, .ref mc, .ref mr, .ref mb])), (mw, .inl (G.2.1, 150, .inl (aZ (uZ g k (g (k + 15)))))), (ms, .inl (G.2.1, 15, .inl (aZ sf)))] H := hP
          have hD : va_D A [(hm0, .inr (9, [.int (zI S), .int (zI C), .int (zI Wy), .int (zI Li), .ref ml, .ref ms, .ref mw, .int (zI kn), .ref mi, .ref mk, .int (zI hz), .ref mh, .long tr, .ref mt, .int (zI tn), .int (zI cu), .int (zI sa), .int (zI to), .int (zI nu), .int (zI wr), .int (zI it), .int (zI sS), .int (zI sC), .int (zI sL), .int (zI sW), .ref mq, .ref mn, .ref mc, .ref mr, .ref mb])), (mw, .inl (G.2.1, 150, .inl (aZ (uZ g k (g (k + 15)))))), (ms, .inl (G.2.1, 15, .inl (aZ sf)))] := hD
          refine lv_iinc (v := zI (k + 1)) (lv' := [(1, .int (zI (k + 1))), (0, .ref hm0)]) hx hb dX9_remembers_33 hl (k := 0) rfl (zI_add _ _) (by decide) rfl (fun ls hl => ?_)
          refine lv_goto (tgt := 11) hx hb dX9_remembers_36 (by decide) ?_
          exact ih11 (k + 1) (uZ g k (g (k + 15))) H locs ls (by omega) (by rw [hg]; exact shW_step _ _ hk.1) (by omega) hP hD hS (lv_sub hl [0, 1] rfl)
    exact loop11 _ 0 wf H locs ls (by omega) (by exact (shW_0 _).symm) (Nat.lt_succ_self _) hP hD hS (lv_sub hl [0, 1] rfl)
theorem pd_X9_makes : yX9_makes.cls = RX9 ∧ yX9_makes.cls ≠ "java/lang/invoke/MethodHandle" ∧ yX9_makes.cls ≠ "java/lang/invoke/VarHandle" ∧ (parseMethodDescriptor yX9_makes.desc).map (fun d => d.parameters.length) = some 1 := by decide +kernel
abbrev rmX9_makes : Room := { frames := 2, cells := 0, slots := 0, locals := 45 }
set_option maxHeartbeats 4000000 in
set_option maxRecDepth 100000 in
theorem c_X9_makes (l : Launch) (G : CX) (hm0 : Nat) (S : Int) (C : Int) (Wy : Int) (Li : Int) (ml : Nat) (ms : Nat) (mw : Nat) (kn : Int) (mi : Nat) (mk : Nat) (hz : Int) (mh : Nat) (tr : Int64) (mt : Nat) (tn : Int) (cu : Int) (sa : Int) (to : Int) (nu : Int) (wr : Int) (it : Int) (sS : Int) (sC : Int) (sL : Int) (sW : Int) (mq : Nat) (mn : Nat) (mc : Nat) (mr : Nat) (mb : Nat) (wf : Int → Int) (sf : Int → Int) (t : Int) (hB : (2 ≤ S ∧ S ≤ 6) ∧ (C = 1 ∧ Wy = S ∨ C = 2 ∧ Wy = 2 * S)) (hkn : 0 ≤ kn ∧ kn ≤ 10) (hl1 : 0 ≤ sf 1 ∧ sf 1 < Wy) (hm2 : 0 ≤ sf 2 ∧ sf 2 ≤ 9999) (hr_t : -2147483648 ≤ t ∧ t < 2147483648) : Met l yX9_makes wsX9_makes rmX9_makes (wrP G [.ref hm0, .int (zI t)] [(hm0, .inr (9, [.int (zI S), .int (zI C), .int (zI Wy), .int (zI Li), .ref ml, .ref ms, .ref mw, .int (zI kn), .ref mi, .ref mk, .int (zI hz), .ref mh, .long tr, .ref mt, .int (zI tn), .int (zI cu), .int (zI sa), .int (zI to), .int (zI nu), .int (zI wr), .int (zI it), .int (zI sS), .int (zI sC), .int (zI sL), .int (zI sW), .ref mq, .ref mn, .ref mc, .ref mr, .ref mb])), (mw, .inl (G.2.1, 150, .inl (aZ wf))), (ms, .inl (G.2.1, 15, .inl (aZ sf)))]) (wrQ G [(hm0, .inr (9, [.int (zI S), .int (zI C), .int (zI Wy), .int (zI Li), .ref ml, .ref ms, .ref mw, .int (zI kn), .ref mi, .ref mk, .int (zI hz), .ref mh, .long tr, .ref mt, .int (zI tn), .int (zI cu), .int (zI sa), .int (zI to), .int (zI nu), .int (zI wr), .int (zI it), .int (zI sS), .int (zI sC), .int (zI sL), .int (zI sW), .ref mq, .ref mn, .ref mc, .ref mr, .ref mb])), (mw, .inl (G.2.1, 150, .inl (aZ wf))), (ms, .inl (G.2.1, 15, .inl (aZ sf)))] (fun (r_ : Int32) (u : Int × (Int → Int) × (Int → Int)) => match u with | (kn2, wf2, sf2) => r_ = zI (if ¬ (0 ≤ t ∧ t < Wy) then -1 else fromZ S (sf 1) t) ∧ ((¬ (0 ≤ t ∧ t < Wy) → kn2 = kn ∧ wf2 = wf ∧ sf2 = sf) ∧ ((0 ≤ t ∧ t < Wy) → kn2 = knR kn ∧ wf2 = wfR kn wf sf ∧ sf2 = uZ (uZ sf 1 (fromZ S (sf 1) t)) 2 (if sf 2 < 9999 then sf 2 + 1 else sf 2)))) (fun (u : Int × (Int → Int) × (Int → Int)) => match u with | (kn2, wf2, sf2) => [(hm0, .inr (9, [.int (zI S), .int (zI C), .int (zI Wy), .int (zI Li), .ref ml, .ref ms, .ref mw, .int (zI kn2), .ref mi, .ref mk, .int (zI hz), .ref mh, .long tr, .ref mt, .int (zI tn), .int (zI cu), .int (zI sa), .int (zI to), .int (zI nu), .int (zI wr), .int (zI it), .int (zI sS), .int (zI sC), .int (zI sL), .int (zI sW), .ref mq, .ref mn, .ref mc, .ref mr, .ref mb])), (mw, .inl (G.2.1, 150, .inl (aZ wf2))), (ms, .inl (G.2.1, 15, .inl (aZ sf2)))])) 0 0 (wrA [(hm0, .inr (9, [.int (zI S), .int (zI C), .int (zI Wy), .int (zI Li), .ref ml, .ref ms, .ref mw, .int (zI kn), .ref mi, .ref mk, .int (zI hz), .ref mh, .long tr, .ref mt, .int (zI tn), .int (zI cu), .int (zI sa), .int (zI to), .int (zI nu), .int (zI wr), .int (zI it), .int (zI sS), .int (zI sC), .int (zI sL), .int (zI sW), .ref mq, .ref mn, .ref mc, .ref mr, .ref mb])), (mw, .inl (G.2.1, 150, .inl (aZ wf))), (ms, .inl (G.2.1, 15, .inl (aZ sf)))]) := by
  refine wr_ofW (cc := cX9_makes) (maxL := 2) (ty := .int) (by decide) rfl (Nat.le_of_ble_eq_true rfl) ?_
  intro p e s m below meth c Q A hx hb hml hown hts hK hret H locs hP hD hS ls hl
  have hown : s.vm.findClass RX9 = some m.cls := hown
  have hl : lv_has ls 2 [(0, .ref hm0), (1, .int (zI t))] := hl
  have f26 := hts (.fieldLink RX9 26 "QuarterTurnsModel" "st" "[I") (by decide +kernel)
  have i9 : ∀ w ∈ wsX90, w ∈ wsX9_makes := fun w h => List.mem_cons_of_mem _ (List.mem_append_right _ h)
  refine lv_aload_n hx hb dX9_makes_0 rfl (lv_at hl 0 rfl) ?_
  refine lv_iload_n hx hb dX9_makes_1 rfl (lv_at hl 1 rfl) ?_
  refine z_cV (As := [.int (zI t)]) (rest := []) ⟨hx, hb, hml, hown, hts⟩ (c_X9_isWay l G hm0 S C Wy Li ml ms mw kn mi mk hz mh tr mt tn cu sa to nu wr it sS sC sL sW mq mn mc mr mb t (by first | assumption | omega) (by first | assumption | omega)) (cwV 1 hts gX9_makes_X9_isWay rfl rfl rfl pd_X9_isWay ⟨(Nat.le_of_ble_eq_true rfl), (Nat.le_of_ble_eq_true rfl)⟩) hK hP hS [0] rfl rfl rfl rfl rfl hl.1 rfl (Nat.le_of_ble_eq_true rfl) dX9_makes_2 ⟨Nat.zero_le _, Nat.zero_le _⟩ (fun H locs hP hS => ?_)
  refine z_ifne_b (tgt := 10) hx hb dX9_makes_5 (by decide) (fun c_1 => ?_) (fun c_1 => ?_)
  · refine lv_aload_n hx hb dX9_makes_10 rfl (lv_at hl 0 rfl) ?_
    refine z_wVv (As := []) (rest := []) ⟨hx, hb, hml, hown, hts⟩ (c_X9_remembers l G hm0 S C Wy Li ml ms mw kn mi mk hz mh tr mt tn cu sa to nu wr it sS sC sL sW mq mn mc mr mb wf sf (by first | assumption | omega)) (cwV 0 hts gX9_makes_X9_remembers rfl rfl rfl pd_X9_remembers ⟨(Nat.le_of_ble_eq_true rfl), (Nat.le_of_ble_eq_true rfl)⟩) hK hP hD hS [0, 1, 2] (by decide) rfl rfl rfl rfl (fun _ => Eq.trans (b := [hm0, mw, ms]) rfl rfl) rfl hl.1 rfl (Nat.le_of_ble_eq_true rfl) dX9_makes_11 ⟨Nat.zero_le _, Nat.zero_le _⟩ (fun u_ H locs hw_4 hP hD hS => ?_)
    obtain ⟨kn2_2, wf2_3⟩ := u_
    try dsimp only at hw_4
    obtain ⟨rfl, rfl⟩ := hw_4
    have hP : kP G [(hm0, .inr (9, [.int (zI S), .int (zI C), .int (zI Wy), .int (zI Li), .ref ml, .ref ms, .ref mw, .int (zI (knR kn)), .ref mi, .ref mk, .int (zI hz), .ref mh, .long tr, .ref mt, .int (zI tn), .int (zI cu), .int (zI sa), .int (zI to), .int (zI nu), .int (zI wr), .int (zI it), .int (zI sS), .int (zI sC), .int (zI sL), .int (zI sW), .ref mq, .ref mn, .ref mc, .ref mr, .ref mb])), (mw, .inl (G.2.1, 150, .inl (aZ (wfR kn wf sf)))), (ms, .inl (G.2.1, 15, .inl (aZ sf)))] H := hP
    have hD : va_D A [(hm0, .inr (9, [.int (zI S), .int (zI C), .int (zI Wy), .int (zI Li), .ref ml, .ref ms, .ref mw, .int (zI (knR kn)), .ref mi, .ref mk, .int (zI hz), .ref mh, .long tr, .ref mt, .int (zI tn), .int (zI cu), .int (zI sa), .int (zI to), .int (zI nu), .int (zI wr), .int (zI it), .int (zI sS), .int (zI sC), .int (zI sL), .int (zI sW), .ref mq, .ref mn, .ref mc, .ref mr, .ref mb])), (mw, .inl (G.2.1, 150, .inl (aZ (wfR kn wf sf)))), (ms, .inl (G.2.1, 15, .inl (aZ sf)))] := hD
    refine lv_aload_n hx hb dX9_makes_14 rfl (lv_at hl 0 rfl) ?_
    refine va_get (ci := 9) (v := .ref ms) (C := RX9) (T := TX9) (N := 30) hx hb hts i9 hown hK hP 0 rfl rfl 5 (by decide) f26 (fun _ h9 => h9) rfl dX9_makes_15 ?_
    refine lv_iconst (v := zI 1) hx hb dX9_makes_18 rfl ?_
    refine lv_aload_n hx hb dX9_makes_19 rfl (lv_at hl 0 rfl) ?_
    refine lv_aload_n hx hb dX9_makes_20 rfl (lv_at hl 0 rfl) ?_
    refine va_get (ci := 9) (v := .ref ms) (C := RX9) (T := TX9) (N := 30) hx hb hts i9 hown hK hP 0 rfl rfl 5 (by decide) f26 (fun _ h9 => h9) rfl dX9_makes_21 ?_
    refine lv_iconst (v := zI 1) hx hb dX9_makes_24 rfl ?_
    refine z_iald (n := 15) (f := sf) hx hb hK hP 2 rfl (by omega) dX9_makes_25 ?_
    refine lv_iload_n hx hb dX9_makes_26 rfl (lv_at hl 1 rfl) ?_
    refine z_cV (As := [.int (zI (sf 1)), .int (zI t)]) (rest := [.int (zI 1), .ref ms]) ⟨hx, hb, hml, hown, hts⟩ (c_X9_from l G hm0 S C Wy Li ml ms mw (knR kn) mi mk hz mh tr mt tn cu sa to nu wr it sS sC sL sW mq mn mc mr mb (sf 1) t (by first | assumption | omega) (by first | assumption | omega) (by first | assumption | omega)) (cwV 2 hts gX9_makes_X9_from rfl rfl rfl pd_X9_from ⟨(Nat.le_of_ble_eq_true rfl), (Nat.le_of_ble_eq_true rfl)⟩) hK hP hS [0] rfl rfl rfl rfl rfl hl.1 rfl (Nat.le_of_ble_eq_true rfl) dX9_makes_27 ⟨Nat.zero_le _, Nat.zero_le _⟩ (fun H locs hP hS => ?_)
    have hq_5 := fromZ_rng (C := C) (Wy := Wy) (w := (sf 1)) (t := t) ((by first | assumption | omega)) ((by first | assumption | omega)) ((by first | assumption | omega))
    refine z_iast (n := 15) (f := sf) (i := 1) (v := fromZ S (sf 1) t) hx hb hK hP hD hS 2 rfl (by omega) dX9_makes_30 (fun H locs hP hD hS => ?_)
    have hP : kP G [(hm0, .inr (9, [.int (zI S), .int (zI C), .int (zI Wy), .int (zI Li), .ref ml, .ref ms, .ref mw, .int (zI (knR kn)), .ref mi, .ref mk, .int (zI hz), .ref mh, .long tr, .ref mt, .int (zI tn), .int (zI cu), .int (zI sa), .int (zI to), .int (zI nu), .int (zI wr), .int (zI it), .int (zI sS), .int (zI sC), .int (zI sL), .int (zI sW), .ref mq, .ref mn, .ref mc, .ref mr, .ref mb])), (mw, .inl (G.2.1, 150, .inl (aZ (wfR kn wf sf)))), (ms, .inl (G.2.1, 15, .inl (aZ (uZ sf 1 (fromZ S (sf 1) t)))))] H := hP
    have hD : va_D A [(hm0, .inr (9, [.int (zI S), .int (zI C), .int (zI Wy), .int (zI Li), .ref ml, .ref ms, .ref mw, .int (zI (knR kn)), .ref mi, .ref mk, .int (zI hz), .ref mh, .long tr, .ref mt, .int (zI tn), .int (zI cu), .int (zI sa), .int (zI to), .int (zI nu), .int (zI wr), .int (zI it), .int (zI sS), .int (zI sC), .int (zI sL), .int (zI sW), .ref mq, .ref mn, .ref mc, .ref mr, .ref mb])), (mw, .inl (G.2.1, 150, .inl (aZ (wfR kn wf sf)))), (ms, .inl (G.2.1, 15, .inl (aZ (uZ sf 1 (fromZ S (sf 1) t)))))] := hD
    refine lv_aload_n hx hb dX9_makes_31 rfl (lv_at hl 0 rfl) ?_
    refine va_get (ci := 9) (v := .ref ms) (C := RX9) (T := TX9) (N := 30) hx hb hts i9 hown hK hP 0 rfl rfl 5 (by decide) f26 (fun _ h9 => h9) rfl dX9_makes_32 ?_
    refine lv_iconst (v := zI 2) hx hb dX9_makes_35 rfl ?_
    refine lv_dup2_11 hx hb dX9_makes_36 rfl rfl ?_
    refine z_iald (n := 15) (f := uZ sf 1 (fromZ S (sf 1) t)) hx hb hK hP 2 rfl (by omega) dX9_makes_37 ?_
    refine z_top (uZ_ne sf _ (by omega)) ?_
    refine lv_aload_n hx hb dX9_makes_38 rfl (lv_at hl 0 rfl) ?_
    refine va_get (ci := 9) (v := .ref ms) (C := RX9) (T := TX9) (N := 30) hx hb hts i9 hown hK hP 0 rfl rfl 5 (by decide) f26 (fun _ h9 => h9) rfl dX9_makes_39 ?_
    refine lv_iconst (v := zI 2) hx hb dX9_makes_42 rfl ?_
    refine z_iald (n := 15) (f := uZ sf 1 (fromZ S (sf 1) t)) hx hb hK hP 2 rfl (by omega) dX9_makes_43 ?_
    refine z_top (uZ_ne sf _ (by omega)) ?_
    refine lv_sipush (v := zI 9999) hx hb dX9_makes_44 (by decide) ?_
    refine z_icmp_ge (tgt := 54) hx hb (by omega) dX9_makes_47 (by decide) (fun c_6 => ?_) (fun c_6 => ?_)
    · refine lv_iconst (v := zI 0) hx hb dX9_makes_54 rfl ?_
      refine z_iadd hx hb dX9_makes_55 ?_
      refine z_iast (n := 15) (f := uZ sf 1 (fromZ S (sf 1) t)) (i := 2) (v := (sf 2) + 0) hx hb hK hP hD hS 2 rfl (by omega) dX9_makes_56 (fun H locs hP hD hS => ?_)
      have hP : kP G [(hm0, .inr (9, [.int (zI S), .int (zI C), .int (zI Wy), .int (zI Li), .ref ml, .ref ms, .ref mw, .int (zI (knR kn)), .ref mi, .ref mk, .int (zI hz), .ref mh, .long tr, .ref mt, .int (zI tn), .int (zI cu), .int (zI sa), .int (zI to), .int (zI nu), .int (zI wr), .int (zI it), .int (zI sS), .int (zI sC), .int (zI sL), .int (zI sW), .ref mq, .ref mn, .ref mc, .ref mr, .ref mb])), (mw, .inl (G.2.1, 150, .inl (aZ (wfR kn wf sf)))), (ms, .inl (G.2.1, 15, .inl (aZ (uZ (uZ sf 1 (fromZ S (sf 1) t)) 2 ((sf 2) + 0)))))] H := hP
      have hD : va_D A [(hm0, .inr (9, [.int (zI S), .int (zI C), .int (zI Wy), .int (zI Li), .ref ml, .ref ms, .ref mw, .int (zI (knR kn)), .ref mi, .ref mk, .int (zI hz), .ref mh, .long tr, .ref mt, .int (zI tn), .int (zI cu), .int (zI sa), .int (zI to), .int (zI nu), .int (zI wr), .int (zI it), .int (zI sS), .int (zI sC), .int (zI sL), .int (zI sW), .ref mq, .ref mn, .ref mc, .ref mr, .ref mb])), (mw, .inl (G.2.1, 150, .inl (aZ (wfR kn wf sf)))), (ms, .inl (G.2.1, 15, .inl (aZ (uZ (uZ sf 1 (fromZ S (sf 1) t)) 2 ((sf 2) + 0)))))] := hD
      refine lv_aload_n hx hb dX9_makes_57 rfl (lv_at hl 0 rfl) ?_
      refine va_get (ci := 9) (v := .ref ms) (C := RX9) (T := TX9) (N := 30) hx hb hts i9 hown hK hP 0 rfl rfl 5 (by decide) f26 (fun _ h9 => h9) rfl dX9_makes_58 ?_
      refine lv_iconst (v := zI 1) hx hb dX9_makes_61 rfl ?_
      refine z_iald (n := 15) (f := uZ (uZ sf 1 (fromZ S (sf 1) t)) 2 ((sf 2) + 0)) hx hb hK hP 2 rfl (by omega) dX9_makes_62 ?_
      exact hret H locs ls 63 _ (knR kn, wfR kn wf sf, uZ (uZ sf 1 (fromZ S (sf 1) t)) 2 ((sf 2) + 0)) rfl ⟨congrArg zI (by rw [if_neg (by omega), uZ_ne _ _ (by omega), uZ_same]), by refine ⟨fun h => ?_, fun h => ⟨rfl, rfl, ?_⟩⟩ <;> first | omega | (rw [if_pos (by omega)]; done) | (rw [if_neg (by omega), Int.add_zero]; done)⟩ hP hS dX9_makes_63
    · refine lv_iconst (v := zI 1) hx hb dX9_makes_50 rfl ?_
      refine lv_goto (tgt := 55) hx hb dX9_makes_51 (by decide) ?_
      refine z_iadd hx hb dX9_makes_55 ?_
      refine z_iast (n := 15) (f := uZ sf 1 (fromZ S (sf 1) t)) (i := 2) (v := (sf 2) + 1) hx hb hK hP hD hS 2 rfl (by omega) dX9_makes_56 (fun H locs hP hD hS => ?_)
      have hP : kP G [(hm0, .inr (9, [.int (zI S), .int (zI C), .int (zI Wy), .int (zI Li), .ref ml, .ref ms, .ref mw, .int (zI (knR kn)), .ref mi, .ref mk, .int (zI hz), .ref mh, .long tr, .ref mt, .int (zI tn), .int (zI cu), .int (zI sa), .int (zI to), .int (zI nu), .int (zI wr), .int (zI it), .int (zI sS), .int (zI sC), .int (zI sL), .int (zI sW), .ref mq, .ref mn, .ref mc, .ref mr, .ref mb])), (mw, .inl (G.2.1, 150, .inl (aZ (wfR kn wf sf)))), (ms, .inl (G.2.1, 15, .inl (aZ (uZ (uZ sf 1 (fromZ S (sf 1) t)) 2 ((sf 2) + 1)))))] H := hP
      have hD : va_D A [(hm0, .inr (9, [.int (zI S), .int (zI C), .int (zI Wy), .int (zI Li), .ref ml, .ref ms, .ref mw, .int (zI (knR kn)), .ref mi, .ref mk, .int (zI hz), .ref mh, .long tr, .ref mt, .int (zI tn), .int (zI cu), .int (zI sa), .int (zI to), .int (zI nu), .int (zI wr), .int (zI it), .int (zI sS), .int (zI sC), .int (zI sL), .int (zI sW), .ref mq, .ref mn, .ref mc, .ref mr, .ref mb])), (mw, .inl (G.2.1, 150, .inl (aZ (wfR kn wf sf)))), (ms, .inl (G.2.1, 15, .inl (aZ (uZ (uZ sf 1 (fromZ S (sf 1) t)) 2 ((sf 2) + 1)))))] := hD
      refine lv_aload_n hx hb dX9_makes_57 rfl (lv_at hl 0 rfl) ?_
      refine va_get (ci := 9) (v := .ref ms) (C := RX9) (T := TX9) (N := 30) hx hb hts i9 hown hK hP 0 rfl rfl 5 (by decide) f26 (fun _ h9 => h9) rfl dX9_makes_58 ?_
      refine lv_iconst (v := zI 1) hx hb dX9_makes_61 rfl ?_
      refine z_iald (n := 15) (f := uZ (uZ sf 1 (fromZ S (sf 1) t)) 2 ((sf 2) + 1)) hx hb hK hP 2 rfl (by omega) dX9_makes_62 ?_
      exact hret H locs ls 63 _ (knR kn, wfR kn wf sf, uZ (uZ sf 1 (fromZ S (sf 1) t)) 2 ((sf 2) + 1)) rfl ⟨congrArg zI (by rw [if_neg (by omega), uZ_ne _ _ (by omega), uZ_same]), by refine ⟨fun h => ?_, fun h => ⟨rfl, rfl, ?_⟩⟩ <;> first | omega | (rw [if_pos (by omega)]; done) | (rw [if_neg (by omega), Int.add_zero]; done)⟩ hP hS dX9_makes_63
  · refine lv_iconst (v := zI (-1)) hx hb dX9_makes_8 rfl ?_
    exact hret H locs ls 9 _ (kn, wf, sf) rfl ⟨congrArg zI (by rw [if_pos (by omega)]), by refine ⟨fun h => ⟨rfl, rfl, rfl⟩, fun h => ?_⟩; omega⟩ hP hS dX9_makes_9
theorem pd_X9_stuffs : yX9_stuffs.cls = RX9 ∧ yX9_stuffs.cls ≠ "java/lang/invoke/MethodHandle" ∧ yX9_stuffs.cls ≠ "java/lang/invoke/VarHandle" ∧ (parseMethodDescriptor yX9_stuffs.desc).map (fun d => d.parameters.length) = some 1 := by decide +kernel
abbrev rmX9_stuffs : Room := { frames := 2, cells := 0, slots := 0, locals := 45 }
set_option maxHeartbeats 4000000 in
set_option maxRecDepth 100000 in
theorem c_X9_stuffs (l : Launch) (G : CX) (hm0 : Nat) (S : Int) (C : Int) (Wy : Int) (Li : Int) (ml : Nat) (ms : Nat) (mw : Nat) (kn : Int) (mi : Nat) (mk : Nat) (hz : Int) (mh : Nat) (tr : Int64) (mt : Nat) (tn : Int) (cu : Int) (sa : Int) (to : Int) (nu : Int) (wr : Int) (it : Int) (sS : Int) (sC : Int) (sL : Int) (sW : Int) (mq : Nat) (mn : Nat) (mc : Nat) (mr : Nat) (mb : Nat) (wf : Int → Int) (sf : Int → Int) (w : Int) (hW0 : 0 ≤ Wy ∧ Wy ≤ 12) (hkn : 0 ≤ kn ∧ kn ≤ 10) (hr_w : -2147483648 ≤ w ∧ w < 2147483648) : Met l yX9_stuffs wsX9_stuffs rmX9_stuffs (wrP G [.ref hm0, .int (zI w)] [(hm0, .inr (9, [.int (zI S), .int (zI C), .int (zI Wy), .int (zI Li), .ref ml, .ref ms, .ref mw, .int (zI kn), .ref mi, .ref mk, .int (zI hz), .ref mh, .long tr, .ref mt, .int (zI tn), .int (zI cu), .int (zI sa), .int (zI to), .int (zI nu), .int (zI wr), .int (zI it), .int (zI sS), .int (zI sC), .int (zI sL), .int (zI sW), .ref mq, .ref mn, .ref mc, .ref mr, .ref mb])), (mw, .inl (G.2.1, 150, .inl (aZ wf))), (ms, .inl (G.2.1, 15, .inl (aZ sf)))]) (wrQ G [(hm0, .inr (9, [.int (zI S), .int (zI C), .int (zI Wy), .int (zI Li), .ref ml, .ref ms, .ref mw, .int (zI kn), .ref mi, .ref mk, .int (zI hz), .ref mh, .long tr, .ref mt, .int (zI tn), .int (zI cu), .int (zI sa), .int (zI to), .int (zI nu), .int (zI wr), .int (zI it), .int (zI sS), .int (zI sC), .int (zI sL), .int (zI sW), .ref mq, .ref mn, .ref mc, .ref mr, .ref mb])), (mw, .inl (G.2.1, 150, .inl (aZ wf))), (ms, .inl (G.2.1, 15, .inl (aZ sf)))] (fun (r_ : Int32) (u : Int × (Int → Int) × (Int → Int)) => match u with | (kn2, wf2, sf2) => r_ = zI (if ¬ (0 ≤ w ∧ w < Wy) then -1 else sf (3 + w)) ∧ ((¬ (0 ≤ w ∧ w < Wy) → kn2 = kn ∧ wf2 = wf ∧ sf2 = sf) ∧ ((0 ≤ w ∧ w < Wy) → kn2 = knR kn ∧ wf2 = wfR kn wf sf ∧ sf2 = uZ sf (3 + w) 0))) (fun (u : Int × (Int → Int) × (Int → Int)) => match u with | (kn2, wf2, sf2) => [(hm0, .inr (9, [.int (zI S), .int (zI C), .int (zI Wy), .int (zI Li), .ref ml, .ref ms, .ref mw, .int (zI kn2), .ref mi, .ref mk, .int (zI hz), .ref mh, .long tr, .ref mt, .int (zI tn), .int (zI cu), .int (zI sa), .int (zI to), .int (zI nu), .int (zI wr), .int (zI it), .int (zI sS), .int (zI sC), .int (zI sL), .int (zI sW), .ref mq, .ref mn, .ref mc, .ref mr, .ref mb])), (mw, .inl (G.2.1, 150, .inl (aZ wf2))), (ms, .inl (G.2.1, 15, .inl (aZ sf2)))])) 0 0 (wrA [(hm0, .inr (9, [.int (zI S), .int (zI C), .int (zI Wy), .int (zI Li), .ref ml, .ref ms, .ref mw, .int (zI kn), .ref mi, .ref mk, .int (zI hz), .ref mh, .long tr, .ref mt, .int (zI tn), .int (zI cu), .int (zI sa), .int (zI to), .int (zI nu), .int (zI wr), .int (zI it), .int (zI sS), .int (zI sC), .int (zI sL), .int (zI sW), .ref mq, .ref mn, .ref mc, .ref mr, .ref mb])), (mw, .inl (G.2.1, 150, .inl (aZ wf))), (ms, .inl (G.2.1, 15, .inl (aZ sf)))]) := by
  refine wr_ofW (cc := cX9_stuffs) (maxL := 3) (ty := .int) (by decide) rfl (Nat.le_of_ble_eq_true rfl) ?_
  intro p e s m below meth c Q A hx hb hml hown hts hK hret H locs hP hD hS ls hl
  have hown : s.vm.findClass RX9 = some m.cls := hown
  have hl : lv_has ls 3 [(0, .ref hm0), (1, .int (zI w))] := hl
  have f26 := hts (.fieldLink RX9 26 "QuarterTurnsModel" "st" "[I") (by decide +kernel)
  have i9 : ∀ w ∈ wsX90, w ∈ wsX9_stuffs := fun w h => List.mem_cons_of_mem _ (List.mem_append_right _ h)
  refine lv_aload_n hx hb dX9_stuffs_0 rfl (lv_at hl 0 rfl) ?_
  refine lv_iload_n hx hb dX9_stuffs_1 rfl (lv_at hl 1 rfl) ?_
  refine z_cV (As := [.int (zI w)]) (rest := []) ⟨hx, hb, hml, hown, hts⟩ (c_X9_isWay l G hm0 S C Wy Li ml ms mw kn mi mk hz mh tr mt tn cu sa to nu wr it sS sC sL sW mq mn mc mr mb w (by first | assumption | omega) (by first | assumption | omega)) (cwV 1 hts gX9_stuffs_X9_isWay rfl rfl rfl pd_X9_isWay ⟨(Nat.le_of_ble_eq_true rfl), (Nat.le_of_ble_eq_true rfl)⟩) hK hP hS [0] rfl rfl rfl rfl rfl hl.1 rfl (Nat.le_of_ble_eq_true rfl) dX9_stuffs_2 ⟨Nat.zero_le _, Nat.zero_le _⟩ (fun H locs hP hS => ?_)
  refine z_ifne_b (tgt := 10) hx hb dX9_stuffs_5 (by decide) (fun c_1 => ?_) (fun c_1 => ?_)
  · refine lv_aload_n hx hb dX9_stuffs_10 rfl (lv_at hl 0 rfl) ?_
    refine z_wVv (As := []) (rest := []) ⟨hx, hb, hml, hown, hts⟩ (c_X9_remembers l G hm0 S C Wy Li ml ms mw kn mi mk hz mh tr mt tn cu sa to nu wr it sS sC sL sW mq mn mc mr mb wf sf (by first | assumption | omega)) (cwV 0 hts gX9_stuffs_X9_remembers rfl rfl rfl pd_X9_remembers ⟨(Nat.le_of_ble_eq_true rfl), (Nat.le_of_ble_eq_true rfl)⟩) hK hP hD hS [0, 1, 2] (by decide) rfl rfl rfl rfl (fun _ => Eq.trans (b := [hm0, mw, ms]) rfl rfl) rfl hl.1 rfl (Nat.le_of_ble_eq_true rfl) dX9_stuffs_11 ⟨Nat.zero_le _, Nat.zero_le _⟩ (fun u_ H locs hw_4 hP hD hS => ?_)
    obtain ⟨kn2_2, wf2_3⟩ := u_
    try dsimp only at hw_4
    obtain ⟨rfl, rfl⟩ := hw_4
    have hP : kP G [(hm0, .inr (9, [.int (zI S), .int (zI C), .int (zI Wy), .int (zI Li), .ref ml, .ref ms, .ref mw, .int (zI (knR kn)), .ref mi, .ref mk, .int (zI hz), .ref mh, .long tr, .ref mt, .int (zI tn), .int (zI cu), .int (zI sa), .int (zI to), .int (zI nu), .int (zI wr), .int (zI it), .int (zI sS), .int (zI sC), .int (zI sL), .int (zI sW), .ref mq, .ref mn, .ref mc, .ref mr, .ref mb])), (mw, .inl (G.2.1, 150, .inl (aZ (wfR kn wf sf)))), (ms, .inl (G.2.1, 15, .inl (aZ sf)))] H := hP
    have hD : va_D A [(hm0, .inr (9, [.int (zI S), .int (zI C), .int (zI Wy), .int (zI Li), .ref ml, .ref ms, .ref mw, .int (zI (knR kn)), .ref mi, .ref mk, .int (zI hz), .ref mh, .long tr, .ref mt, .int (zI tn), .int (zI cu), .int (zI sa), .int (zI to), .int (zI nu), .int (zI wr), .int (zI it), .int (zI sS), .int (zI sC), .int (zI sL), .int (zI sW), .ref mq, .ref mn, .ref mc, .ref mr, .ref mb])), (mw, .inl (G.2.1, 150, .inl (aZ (wfR kn wf sf)))), (ms, .inl (G.2.1, 15, .inl (aZ sf)))] := hD
    refine lv_aload_n hx hb dX9_stuffs_14 rfl (lv_at hl 0 rfl) ?_
    refine va_get (ci := 9) (v := .ref ms) (C := RX9) (T := TX9) (N := 30) hx hb hts i9 hown hK hP 0 rfl rfl 5 (by decide) f26 (fun _ h9 => h9) rfl dX9_stuffs_15 ?_
    refine lv_iconst (v := zI 3) hx hb dX9_stuffs_18 rfl ?_
    refine lv_iload_n hx hb dX9_stuffs_19 rfl (lv_at hl 1 rfl) ?_
    refine z_iadd hx hb dX9_stuffs_20 ?_
    refine z_iald (n := 15) (f := sf) hx hb hK hP 2 rfl (by omega) dX9_stuffs_21 ?_
    refine lv_istore_n (lv' := [(2, .int (zI (sf (3 + w)))), (0, .ref hm0), (1, .int (zI w))]) hx hb dX9_stuffs_22 rfl hl (by decide) rfl (fun ls hl => ?_)
    refine lv_aload_n hx hb dX9_stuffs_23 rfl (lv_at hl 1 rfl) ?_
    refine va_get (ci := 9) (v := .ref ms) (C := RX9) (T := TX9) (N := 30) hx hb hts i9 hown hK hP 0 rfl rfl 5 (by decide) f26 (fun _ h9 => h9) rfl dX9_stuffs_24 ?_
    refine lv_iconst (v := zI 3) hx hb dX9_stuffs_27 rfl ?_
    refine lv_iload_n hx hb dX9_stuffs_28 rfl (lv_at hl 2 rfl) ?_
    refine z_iadd hx hb dX9_stuffs_29 ?_
    refine lv_iconst (v := zI 0) hx hb dX9_stuffs_30 rfl ?_
    refine z_iast (n := 15) (f := sf) (i := 3 + w) (v := 0) hx hb hK hP hD hS 2 rfl (by omega) dX9_stuffs_31 (fun H locs hP hD hS => ?_)
    have hP : kP G [(hm0, .inr (9, [.int (zI S), .int (zI C), .int (zI Wy), .int (zI Li), .ref ml, .ref ms, .ref mw, .int (zI (knR kn)), .ref mi, .ref mk, .int (zI hz), .ref mh, .long tr, .ref mt, .int (zI tn), .int (zI cu), .int (zI sa), .int (zI to), .int (zI nu), .int (zI wr), .int (zI it), .int (zI sS), .int (zI sC), .int (zI sL), .int (zI sW), .ref mq, .ref mn, .ref mc, .ref mr, .ref mb])), (mw, .inl (G.2.1, 150, .inl (aZ (wfR kn wf sf)))), (ms, .inl (G.2.1, 15, .inl (aZ (uZ sf (3 + w) 0))))] H := hP
    have hD : va_D A [(hm0, .inr (9, [.int (zI S), .int (zI C), .int (zI Wy), .int (zI Li), .ref ml, .ref ms, .ref mw, .int (zI (knR kn)), .ref mi, .ref mk, .int (zI hz), .ref mh, .long tr, .ref mt, .int (zI tn), .int (zI cu), .int (zI sa), .int (zI to), .int (zI nu), .int (zI wr), .int (zI it), .int (zI sS), .int (zI sC), .int (zI sL), .int (zI sW), .ref mq, .ref mn, .ref mc, .ref mr, .ref mb])), (mw, .inl (G.2.1, 150, .inl (aZ (wfR kn wf sf)))), (ms, .inl (G.2.1, 15, .inl (aZ (uZ sf (3 + w) 0))))] := hD
    refine lv_iload_n hx hb dX9_stuffs_32 rfl (lv_at hl 0 rfl) ?_
    exact hret H locs ls 33 _ (knR kn, wfR kn wf sf, uZ sf (3 + w) 0) rfl ⟨congrArg zI (by rw [if_neg (by omega)]), by refine ⟨fun h => ?_, fun h => ⟨rfl, rfl, rfl⟩⟩; omega⟩ hP hS dX9_stuffs_33
  · refine lv_iconst (v := zI (-1)) hx hb dX9_stuffs_8 rfl ?_
    exact hret H locs ls 9 _ (kn, wf, sf) rfl ⟨congrArg zI (by rw [if_pos (by omega)]), by refine ⟨fun h => ⟨rfl, rfl, rfl⟩, fun h => ?_⟩; omega⟩ hP hS dX9_stuffs_9
theorem pd_X9_undo : yX9_undo.cls = RX9 ∧ yX9_undo.cls ≠ "java/lang/invoke/MethodHandle" ∧ yX9_undo.cls ≠ "java/lang/invoke/VarHandle" ∧ (parseMethodDescriptor yX9_undo.desc).map (fun d => d.parameters.length) = some 0 := by decide +kernel
abbrev rmX9_undo : Room := { frames := 1, cells := 0, slots := 0, locals := 24 }
set_option maxHeartbeats 4000000 in
set_option maxRecDepth 100000 in
theorem c_X9_undo (l : Launch) (G : CX) (hm0 : Nat) (S : Int) (C : Int) (Wy : Int) (Li : Int) (ml : Nat) (ms : Nat) (mw : Nat) (kn : Int) (mi : Nat) (mk : Nat) (hz : Int) (mh : Nat) (tr : Int64) (mt : Nat) (tn : Int) (cu : Int) (sa : Int) (to : Int) (nu : Int) (wr : Int) (it : Int) (sS : Int) (sC : Int) (sL : Int) (sW : Int) (mq : Nat) (mn : Nat) (mc : Nat) (mr : Nat) (mb : Nat) (wf : Int → Int) (sf : Int → Int) (hkn : 0 ≤ kn ∧ kn ≤ 10) : Met l yX9_undo wsX9_undo rmX9_undo (wrP G [.ref hm0] [(hm0, .inr (9, [.int (zI S), .int (zI C), .int (zI Wy), .int (zI Li), .ref ml, .ref ms, .ref mw, .int (zI kn), .ref mi, .ref mk, .int (zI hz), .ref mh, .long tr, .ref mt, .int (zI tn), .int (zI cu), .int (zI sa), .int (zI to), .int (zI nu), .int (zI wr), .int (zI it), .int (zI sS), .int (zI sC), .int (zI sL), .int (zI sW), .ref mq, .ref mn, .ref mc, .ref mr, .ref mb])), (mw, .inl (G.2.1, 150, .inl (aZ wf))), (ms, .inl (G.2.1, 15, .inl (aZ sf)))]) (wrQ G [(hm0, .inr (9, [.int (zI S), .int (zI C), .int (zI Wy), .int (zI Li), .ref ml, .ref ms, .ref mw, .int (zI kn), .ref mi, .ref mk, .int (zI hz), .ref mh, .long tr, .ref mt, .int (zI tn), .int (zI cu), .int (zI sa), .int (zI to), .int (zI nu), .int (zI wr), .int (zI it), .int (zI sS), .int (zI sC), .int (zI sL), .int (zI sW), .ref mq, .ref mn, .ref mc, .ref mr, .ref mb])), (mw, .inl (G.2.1, 150, .inl (aZ wf))), (ms, .inl (G.2.1, 15, .inl (aZ sf)))] (fun (r_ : Int32) (u : Int × (Int → Int)) => match u with | (kn2, sf2) => r_ = zI (if kn = 0 then -2 else kn - 1) ∧ ((kn = 0 → kn2 = kn ∧ sf2 = sf) ∧ (¬ kn = 0 → kn2 = kn - 1 ∧ sf2 = cpK sf 0 wf (15 * (kn - 1)) 15))) (fun (u : Int × (Int → Int)) => match u with | (kn2, sf2) => [(hm0, .inr (9, [.int (zI S), .int (zI C), .int (zI Wy), .int (zI Li), .ref ml, .ref ms, .ref mw, .int (zI kn2), .ref mi, .ref mk, .int (zI hz), .ref mh, .long tr, .ref mt, .int (zI tn), .int (zI cu), .int (zI sa), .int (zI to), .int (zI nu), .int (zI wr), .int (zI it), .int (zI sS), .int (zI sC), .int (zI sL), .int (zI sW), .ref mq, .ref mn, .ref mc, .ref mr, .ref mb])), (mw, .inl (G.2.1, 150, .inl (aZ wf))), (ms, .inl (G.2.1, 15, .inl (aZ sf2)))])) 0 0 (wrA [(hm0, .inr (9, [.int (zI S), .int (zI C), .int (zI Wy), .int (zI Li), .ref ml, .ref ms, .ref mw, .int (zI kn), .ref mi, .ref mk, .int (zI hz), .ref mh, .long tr, .ref mt, .int (zI tn), .int (zI cu), .int (zI sa), .int (zI to), .int (zI nu), .int (zI wr), .int (zI it), .int (zI sS), .int (zI sC), .int (zI sL), .int (zI sW), .ref mq, .ref mn, .ref mc, .ref mr, .ref mb])), (mw, .inl (G.2.1, 150, .inl (aZ wf))), (ms, .inl (G.2.1, 15, .inl (aZ sf)))]) := by
  refine wr_ofW (cc := cX9_undo) (maxL := 1) (ty := .int) (by decide) rfl (Nat.le_of_ble_eq_true rfl) ?_
  intro p e s m below meth c Q A hx hb hml hown hts hK hret H locs hP hD hS ls hl
  have hown : s.vm.findClass RX9 = some m.cls := hown
  have hl : lv_has ls 1 [(0, .ref hm0)] := hl
  have f122 := hts (.fieldLink RX9 122 "QuarterTurnsModel" "known" "I") (by decide +kernel)
  have i9 : ∀ w ∈ wsX90, w ∈ wsX9_undo := fun w h => List.mem_cons_of_mem _ (List.mem_append_right _ h)
  have f26 := hts (.fieldLink RX9 26 "QuarterTurnsModel" "st" "[I") (by decide +kernel)
  have f29 := hts (.fieldLink RX9 29 "QuarterTurnsModel" "was" "[I") (by decide +kernel)
  refine lv_aload_n hx hb dX9_undo_0 rfl (lv_at hl 0 rfl) ?_
  refine va_get (ci := 9) (v := .int (zI kn)) (C := RX9) (T := TX9) (N := 30) hx hb hts i9 hown hK hP 0 rfl rfl 7 (by decide) f122 (fun _ h9 => h9) rfl dX9_undo_1 ?_
  refine z_if_ne (tgt := 10) hx hb (by omega) dX9_undo_4 (by decide) (fun c_1 => ?_) (fun c_1 => ?_)
  · refine lv_aload_n hx hb dX9_undo_10 rfl (lv_at hl 0 rfl) ?_
    refine lv_dup hx hb dX9_undo_11 rfl ?_
    refine va_get (ci := 9) (v := .int (zI kn)) (C := RX9) (T := TX9) (N := 30) hx hb hts i9 hown hK hP 0 rfl rfl 7 (by decide) f122 (fun _ h9 => h9) rfl dX9_undo_12 ?_
    refine lv_iconst (v := zI 1) hx hb dX9_undo_15 rfl ?_
    refine z_isub hx hb dX9_undo_16 ?_
    refine va_put (ci := 9) (v := .int (zI (kn - 1))) (ty := .int) (C := RX9) (T := TX9) (N := 30) hx hb hts i9 tyX9 tyX9_ok nmX9 hown hK hP hD hS 0 rfl rfl 7 (by decide) f122 (fun _ h9 => h9) rfl (tyX9_ok 7 (by decide)) rfl rfl (Nat.le_of_ble_eq_true rfl) dX9_undo_17 (fun H locs hP hD hS => ?_)
    have hP : kP G [(hm0, .inr (9, [.int (zI S), .int (zI C), .int (zI Wy), .int (zI Li), .ref ml, .ref ms, .ref mw, .int (zI (kn - 1)), .ref mi, .ref mk, .int (zI hz), .ref mh, .long tr, .ref mt, .int (zI tn), .int (zI cu), .int (zI sa), .int (zI to), .int (zI nu), .int (zI wr), .int (zI it), .int (zI sS), .int (zI sC), .int (zI sL), .int (zI sW), .ref mq, .ref mn, .ref mc, .ref mr, .ref mb])), (mw, .inl (G.2.1, 150, .inl (aZ wf))), (ms, .inl (G.2.1, 15, .inl (aZ sf)))] H := hP
    have hD : va_D A [(hm0, .inr (9, [.int (zI S), .int (zI C), .int (zI Wy), .int (zI Li), .ref ml, .ref ms, .ref mw, .int (zI (kn - 1)), .ref mi, .ref mk, .int (zI hz), .ref mh, .long tr, .ref mt, .int (zI tn), .int (zI cu), .int (zI sa), .int (zI to), .int (zI nu), .int (zI wr), .int (zI it), .int (zI sS), .int (zI sC), .int (zI sL), .int (zI sW), .ref mq, .ref mn, .ref mc, .ref mr, .ref mb])), (mw, .inl (G.2.1, 150, .inl (aZ wf))), (ms, .inl (G.2.1, 15, .inl (aZ sf)))] := hD
    refine lv_aload_n hx hb dX9_undo_20 rfl (lv_at hl 0 rfl) ?_
    refine va_get (ci := 9) (v := .ref ms) (C := RX9) (T := TX9) (N := 30) hx hb hts i9 hown hK hP 0 rfl rfl 5 (by decide) f26 (fun _ h9 => h9) rfl dX9_undo_21 ?_
    refine lv_iconst (v := zI 0) hx hb dX9_undo_24 rfl ?_
    refine lv_aload_n hx hb dX9_undo_25 rfl (lv_at hl 0 rfl) ?_
    refine va_get (ci := 9) (v := .ref mw) (C := RX9) (T := TX9) (N := 30) hx hb hts i9 hown hK hP 0 rfl rfl 6 (by decide) f29 (fun _ h9 => h9) rfl dX9_undo_26 ?_
    refine lv_bipush (v := zI 15) hx hb dX9_undo_29 (by decide) ?_
    refine lv_aload_n hx hb dX9_undo_31 rfl (lv_at hl 0 rfl) ?_
    refine va_get (ci := 9) (v := .int (zI (kn - 1))) (C := RX9) (T := TX9) (N := 30) hx hb hts i9 hown hK hP 0 rfl rfl 7 (by decide) f122 (fun _ h9 => h9) rfl dX9_undo_32 ?_
    refine z_imul hx hb dX9_undo_35 ?_
    refine z_wSv (As := [.ref ms, .int (zI 0), .ref mw, .int (zI (15 * (kn - 1)))]) (rest := []) ⟨hx, hb, hml, hown, hts⟩ (c_X9_copy l G ms 15 sf 0 mw 150 wf (15 * (kn - 1)) (by first | assumption | omega)) (va_cwS 4 hts gX9_undo_X9_copy rfl rfl rfl pd_X9_copy.2 ⟨(Nat.le_of_ble_eq_true rfl), (Nat.le_of_ble_eq_true rfl)⟩) hK hP hD hS [2, 1] (by decide) rfl (fun _ => rfl) rfl hl.1 rfl (Nat.le_of_ble_eq_true rfl) dX9_undo_36 ⟨Nat.zero_le _, Nat.zero_le _⟩ (fun u_ H locs hw_3 hP hD hS => ?_)
    obtain ⟨g2_2, rfl⟩ : ∃ z, z = u_ := ⟨_, rfl⟩
    try dsimp only at hw_3
    obtain rfl := hw_3
    have hP : kP G [(hm0, .inr (9, [.int (zI S), .int (zI C), .int (zI Wy), .int (zI Li), .ref ml, .ref ms, .ref mw, .int (zI (kn - 1)), .ref mi, .ref mk, .int (zI hz), .ref mh, .long tr, .ref mt, .int (zI tn), .int (zI cu), .int (zI sa), .int (zI to), .int (zI nu), .int (zI wr), .int (zI it), .int (zI sS), .int (zI sC), .int (zI sL), .int (zI sW), .ref mq, .ref mn, .ref mc, .ref mr, .ref mb])), (mw, .inl (G.2.1, 150, .inl (aZ wf))), (ms, .inl (G.2.1, 15, .inl (aZ (cpK sf 0 wf (15 * (kn - 1)) 15))))] H := hP
    have hD : va_D A [(hm0, .inr (9, [.int (zI S), .int (zI C), .int (zI Wy), .int (zI Li), .ref ml, .ref ms, .ref mw, .int (zI (kn - 1)), .ref mi, .ref mk, .int (zI hz), .ref mh, .long tr, .ref mt, .int (zI tn), .int (zI cu), .int (zI sa), .int (zI to), .int (zI nu), .int (zI wr), .int (zI it), .int (zI sS), .int (zI sC), .int (zI sL), .int (zI sW), .ref mq, .ref mn, .ref mc, .ref mr, .ref mb])), (mw, .inl (G.2.1, 150, .inl (aZ wf))), (ms, .inl (G.2.1, 15, .inl (aZ (cpK sf 0 wf (15 * (kn - 1)) 15))))] := hD
    refine lv_aload_n hx hb dX9_undo_39 rfl (lv_at hl 0 rfl) ?_
    refine va_get (ci := 9) (v := .int (zI (kn - 1))) (C := RX9) (T := TX9) (N := 30) hx hb hts i9 hown hK hP 0 rfl rfl 7 (by decide) f122 (fun _ h9 => h9) rfl dX9_undo_40 ?_
    exact hret H locs ls 43 _ (kn - 1, cpK sf 0 wf (15 * (kn - 1)) 15) rfl ⟨congrArg zI (by rw [if_neg (by omega)]), by refine ⟨fun h => ?_, fun h => ⟨rfl, rfl⟩⟩; omega⟩ hP hS dX9_undo_43
  · refine lv_bipush (v := zI (-2)) hx hb dX9_undo_7 (by decide) ?_
    exact hret H locs ls 9 _ (kn, sf) rfl ⟨congrArg zI (by rw [if_pos (by omega)]), by refine ⟨fun h => ⟨rfl, rfl⟩, fun h => ?_⟩; omega⟩ hP hS dX9_undo_9

theorem thruW_rng {S C Wy t u home : Int} (hB : (2 ≤ S ∧ S ≤ 6) ∧ (C = 1 ∧ Wy = S ∨ C = 2 ∧ Wy = 2 * S)) (ht : 0 ≤ t ∧ t < Wy) (hu : 0 ≤ u ∧ u < Wy) (hh : 0 ≤ home ∧ home < Wy) : ∀ k : Nat, 0 ≤ thruW S t u home k ∧ thruW S t u home k < Wy
  | 0 => hh
  | k + 1 => by
    unfold thruW
    exact fromZ_rng hB (thruW_rng hB ht hu hh k) (by split <;> assumption)
theorem thruS_lt {S C Wy t u home : Int} (hB : (2 ≤ S ∧ S ≤ 6) ∧ (C = 1 ∧ Wy = S ∨ C = 2 ∧ Wy = 2 * S)) (ht : 0 ≤ t ∧ t < Wy) (hu : 0 ≤ u ∧ u < Wy) (hh : 0 ≤ home ∧ home < Wy) : ∀ k : Nat, thruS S t u home k < 4096
  | 0 => bit_lt (by omega)
  | k + 1 => by
    unfold thruS
    exact or_lt (thruS_lt hB ht hu hh k) (bit_lt (by have := thruW_rng hB ht hu hh (k + 1); omega))
theorem pd_X9_through : yX9_through.cls = RX9 ∧ yX9_through.cls ≠ "java/lang/invoke/MethodHandle" ∧ yX9_through.cls ≠ "java/lang/invoke/VarHandle" ∧ (parseMethodDescriptor yX9_through.desc).map (fun d => d.parameters.length) = some 3 := by decide +kernel
abbrev rmX9_through : Room := { frames := 1, cells := 0, slots := 0, locals := 24 }
set_option maxHeartbeats 4000000 in
set_option maxRecDepth 100000 in
theorem c_X9_through (l : Launch) (G : CX) (hm0 : Nat) (S : Int) (C : Int) (Wy : Int) (Li : Int) (ml : Nat) (ms : Nat) (mw : Nat) (kn : Int) (mi : Nat) (mk : Nat) (hz : Int) (mh : Nat) (tr : Int64) (mt : Nat) (tn : Int) (cu : Int) (sa : Int) (to : Int) (nu : Int) (wr : Int) (it : Int) (sS : Int) (sC : Int) (sL : Int) (sW : Int) (mq : Nat) (mn : Nat) (mc : Nat) (mr : Nat) (mb : Nat) (sf : Int → Int) (t : Int) (v : Int) (n : Int) (hB : (2 ≤ S ∧ S ≤ 6) ∧ (C = 1 ∧ Wy = S ∨ C = 2 ∧ Wy = 2 * S)) (hl1 : 0 ≤ sf 1 ∧ sf 1 < Wy) (ht : 0 ≤ t ∧ t < Wy) (hv : 0 ≤ v ∧ v < Wy) (hn : 0 ≤ n ∧ n ≤ 100) : Met l yX9_through wsX9_through rmX9_through (rdP G [.ref hm0, .int (zI t), .int (zI v), .int (zI n)] [(hm0, .inr (9, [.int (zI S), .int (zI C), .int (zI Wy), .int (zI Li), .ref ml, .ref ms, .ref mw, .int (zI kn), .ref mi, .ref mk, .int (zI hz), .ref mh, .long tr, .ref mt, .int (zI tn), .int (zI cu), .int (zI sa), .int (zI to), .int (zI nu), .int (zI wr), .int (zI it), .int (zI sS), .int (zI sC), .int (zI sL), .int (zI sW), .ref mq, .ref mn, .ref mc, .ref mr, .ref mb])), (ms, .inl (G.2.1, 15, .inl (aZ sf)))]) (rdQ (zI ((thruS S t v (sf 1) n.toNat : Nat) : Int))) 0 0 noA := by
  refine rd_ofW (cc := cX9_through) (maxL := 7) (ty := .int) (by decide) rfl (Nat.le_of_ble_eq_true rfl) rfl ?_
  intro p e s m below meth c Q A hx hb hml hown hts hK hret H locs hP hS ls hl
  have hown : s.vm.findClass RX9 = some m.cls := hown
  have hl : lv_has ls 7 [(0, .ref hm0), (1, .int (zI t)), (2, .int (zI v)), (3, .int (zI n))] := hl
  have f26 := hts (.fieldLink RX9 26 "QuarterTurnsModel" "st" "[I") (by decide +kernel)
  have i9 : ∀ w ∈ wsX90, w ∈ wsX9_through := fun w h => List.mem_cons_of_mem _ (List.mem_append_right _ h)
  refine lv_aload_n hx hb dX9_through_0 rfl (lv_at hl 0 rfl) ?_
  refine va_get (ci := 9) (v := .ref ms) (C := RX9) (T := TX9) (N := 30) hx hb hts i9 hown hK hP 0 rfl rfl 5 (by decide) f26 (fun _ h9 => h9) rfl dX9_through_1 ?_
  refine lv_iconst (v := zI 1) hx hb dX9_through_4 rfl ?_
  refine z_iald (n := 15) (f := sf) hx hb hK hP 1 rfl (by omega) dX9_through_5 ?_
  refine lv_istore (lv' := [(4, .int (zI (sf 1))), (0, .ref hm0), (1, .int (zI t)), (2, .int (zI v)), (3, .int (zI n))]) hx hb dX9_through_6 hl (by decide) rfl (fun ls hl => ?_)
  refine lv_iconst (v := zI 1) hx hb dX9_through_8 rfl ?_
  refine lv_iload hx hb dX9_through_9 (lv_at hl 0 rfl) ?_
  refine z_shl1 hx hb (by omega) dX9_through_11 ?_
  refine lv_istore (lv' := [(5, .int (zI ((2 ^ (sf 1).toNat : Nat) : Int))), (4, .int (zI (sf 1))), (0, .ref hm0), (1, .int (zI t)), (2, .int (zI v)), (3, .int (zI n))]) hx hb dX9_through_12 hl (by decide) rfl (fun ls hl => ?_)
  refine lv_iconst (v := zI 0) hx hb dX9_through_14 rfl ?_
  refine lv_istore (lv' := [(6, .int (zI 0)), (5, .int (zI ((2 ^ (sf 1).toNat : Nat) : Int))), (4, .int (zI (sf 1))), (0, .ref hm0), (1, .int (zI t)), (2, .int (zI v)), (3, .int (zI n))]) hx hb dX9_through_15 hl (by decide) rfl (fun ls hl => ?_)
  have loop17 : ∀ (n_ : Nat) (k : Int) (at1 : Int) (seen : Nat) (H : Heap) (locs : List Loc) (ls : Array Slot), (0 ≤ k ∧ k ≤ n) → (0 ≤ at1 ∧ at1 < Wy) → (at1 = thruW S t v (sf 1) k.toNat) → (seen = thruS S t v (sf 1) k.toNat) → (n - k).toNat < n_ → kP G [(hm0, .inr (9, [.int (zI S), .int (zI C), .int (zI Wy), .int (zI Li), .ref ml, .ref ms, .ref mw, .int (zI kn), .ref mi, .ref mk, .int (zI hz), .ref mh, .long tr, .ref mt, .int (zI tn), .int (zI cu), .int (zI sa), .int (zI to), .int (zI nu), .int (zI wr), .int (zI it), .int (zI sS), .int (zI sC), .int (zI sL), .int (zI sW), .ref mq, .ref mn, .ref mc, .ref mr, .ref mb])), (ms, .inl (G.2.1, 15, .inl (aZ sf)))] H → va_S A s.heap H locs → lv_has ls 7 [(6, .int (zI k)), (5, .int (zI ((seen : Nat) : Int))), (4, .int (zI at1)), (0, .ref hm0), (1, .int (zI t)), (2, .int (zI v)), (3, .int (zI n))] → W p l e rmX9_through s m ([.ref hm0, .int (zI t), .int (zI v), .int (zI n)] : List Value).toArray below meth c H locs 0 0 Q (F0 m 17 ls []) := by
    intro n_
    induction n_ with
    | zero =>
      intro k at1 seen H locs ls hk har hat hsn hm
      exact absurd hm (Nat.not_lt_zero _)
    | succ n_ ih17 =>
      intro k at1 seen H locs ls hk har hat hsn hm17 hP hS hl
      refine lv_iload hx hb dX9_through_17 (lv_at hl 0 rfl) ?_
      refine lv_iload_n hx hb dX9_through_19 rfl (lv_at hl 6 rfl) ?_
      refine z_icmp_ge (tgt := 58) hx hb (by omega) dX9_through_20 (by decide) (fun c_1 => ?_) (fun c_1 => ?_)
      · refine lv_iload hx hb dX9_through_58 (lv_at hl 1 rfl) ?_
        exact hret H locs ls 60 _ (congrArg zI (by rw [hsn, show k = n by omega])) hS dX9_through_60
      · refine lv_aload_n hx hb dX9_through_23 rfl (lv_at hl 3 rfl) ?_
        refine lv_iload hx hb dX9_through_24 (lv_at hl 2 rfl) ?_
        refine lv_iload hx hb dX9_through_26 (lv_at hl 0 rfl) ?_
        refine lv_iconst (v := zI 2) hx hb dX9_through_28 rfl ?_
        refine z_irem hx hb (by omega) dX9_through_29 ?_
        refine z_if_ne (tgt := 37) hx hb (by omega) dX9_through_30 (by decide) (fun c_2 => ?_) (fun c_2 => ?_)
        · refine lv_iload_n hx hb dX9_through_37 rfl (lv_at hl 5 rfl) ?_
          refine z_cV (As := [.int (zI at1), .int (zI v)]) (rest := []) ⟨hx, hb, hml, hown, hts⟩ (c_X9_from l G hm0 S C Wy Li ml ms mw kn mi mk hz mh tr mt tn cu sa to nu wr it sS sC sL sW mq mn mc mr mb at1 v (by first | assumption | omega) (by first | assumption | omega) (by first | assumption | omega)) (cwV 2 hts gX9_through_X9_from rfl rfl rfl pd_X9_from ⟨(Nat.le_of_ble_eq_true rfl), (Nat.le_of_ble_eq_true rfl)⟩) hK hP hS [0] rfl rfl rfl rfl rfl hl.1 rfl (Nat.le_of_ble_eq_true rfl) dX9_through_38 ⟨Nat.zero_le _, Nat.zero_le _⟩ (fun H locs hP hS => ?_)
          have hq_3 := fromZ_rng (C := C) (Wy := Wy) (w := at1) (t := v) ((by first | assumption | omega)) ((by first | assumption | omega)) ((by first | assumption | omega))
          refine lv_istore (lv' := [(4, .int (zI (fromZ S at1 v))), (6, .int (zI k)), (5, .int (zI ((seen : Nat) : Int))), (0, .ref hm0), (1, .int (zI t)), (2, .int (zI v)), (3, .int (zI n))]) hx hb dX9_through_41 hl (by decide) rfl (fun ls hl => ?_)
          refine lv_iload hx hb dX9_through_43 (lv_at hl 2 rfl) ?_
          refine lv_iconst (v := zI 1) hx hb dX9_through_45 rfl ?_
          refine lv_iload hx hb dX9_through_46 (lv_at hl 0 rfl) ?_
          refine z_shl1 hx hb (by omega) dX9_through_48 ?_
          refine z_ior (a := seen) (b := (2 ^ (fromZ S at1 v).toNat)) hx hb dX9_through_49 ?_
          refine lv_istore (lv' := [(5, .int (zI ((seen ||| (2 ^ (fromZ S at1 v).toNat) : Nat) : Int))), (4, .int (zI (fromZ S at1 v))), (6, .int (zI k)), (0, .ref hm0), (1, .int (zI t)), (2, .int (zI v)), (3, .int (zI n))]) hx hb dX9_through_50 hl (by decide) rfl (fun ls hl => ?_)
          refine lv_iinc (v := zI (k + 1)) (lv' := [(6, .int (zI (k + 1))), (5, .int (zI ((seen ||| (2 ^ (fromZ S at1 v).toNat) : Nat) : Int))), (4, .int (zI (fromZ S at1 v))), (0, .ref hm0), (1, .int (zI t)), (2, .int (zI v)), (3, .int (zI n))]) hx hb dX9_through_52 hl (k := 2) rfl (zI_add _ _) (by decide) rfl (fun ls hl => ?_)
          refine lv_goto (tgt := 17) hx hb dX9_through_55 (by decide) ?_
          exact ih17 (k + 1) (fromZ S at1 v) (seen ||| (2 ^ (fromZ S at1 v).toNat)) H locs ls (by omega) (by omega) (by rw [tn1 hk.1, thruW, ← hat, Int.toNat_of_nonneg hk.1]; first | rw [if_pos (by omega)] | rw [if_neg (by omega)]) (by rw [tn1 hk.1, thruS, thruW, ← hat, ← hsn, Int.toNat_of_nonneg hk.1]; first | rw [if_pos (by omega)] | rw [if_neg (by omega)]) (by omega) hP hS (lv_sub hl [0, 1, 2, 3, 4, 5, 6] rfl)
        · refine lv_iload_n hx hb dX9_through_33 rfl (lv_at hl 4 rfl) ?_
          refine lv_goto (tgt := 38) hx hb dX9_through_34 (by decide) ?_
          refine z_cV (As := [.int (zI at1), .int (zI t)]) (rest := []) ⟨hx, hb, hml, hown, hts⟩ (c_X9_from l G hm0 S C Wy Li ml ms mw kn mi mk hz mh tr mt tn cu sa to nu wr it sS sC sL sW mq mn mc mr mb at1 t (by first | assumption | omega) (by first | assumption | omega) (by first | assumption | omega)) (cwV 2 hts gX9_through_X9_from rfl rfl rfl pd_X9_from ⟨(Nat.le_of_ble_eq_true rfl), (Nat.le_of_ble_eq_true rfl)⟩) hK hP hS [0] rfl rfl rfl rfl rfl hl.1 rfl (Nat.le_of_ble_eq_true rfl) dX9_through_38 ⟨Nat.zero_le _, Nat.zero_le _⟩ (fun H locs hP hS => ?_)
          have hq_4 := fromZ_rng (C := C) (Wy := Wy) (w := at1) (t := t) ((by first | assumption | omega)) ((by first | assumption | omega)) ((by first | assumption | omega))
          refine lv_istore (lv' := [(4, .int (zI (fromZ S at1 t))), (6, .int (zI k)), (5, .int (zI ((seen : Nat) : Int))), (0, .ref hm0), (1, .int (zI t)), (2, .int (zI v)), (3, .int (zI n))]) hx hb dX9_through_41 hl (by decide) rfl (fun ls hl => ?_)
          refine lv_iload hx hb dX9_through_43 (lv_at hl 2 rfl) ?_
          refine lv_iconst (v := zI 1) hx hb dX9_through_45 rfl ?_
          refine lv_iload hx hb dX9_through_46 (lv_at hl 0 rfl) ?_
          refine z_shl1 hx hb (by omega) dX9_through_48 ?_
          refine z_ior (a := seen) (b := (2 ^ (fromZ S at1 t).toNat)) hx hb dX9_through_49 ?_
          refine lv_istore (lv' := [(5, .int (zI ((seen ||| (2 ^ (fromZ S at1 t).toNat) : Nat) : Int))), (4, .int (zI (fromZ S at1 t))), (6, .int (zI k)), (0, .ref hm0), (1, .int (zI t)), (2, .int (zI v)), (3, .int (zI n))]) hx hb dX9_through_50 hl (by decide) rfl (fun ls hl => ?_)
          refine lv_iinc (v := zI (k + 1)) (lv' := [(6, .int (zI (k + 1))), (5, .int (zI ((seen ||| (2 ^ (fromZ S at1 t).toNat) : Nat) : Int))), (4, .int (zI (fromZ S at1 t))), (0, .ref hm0), (1, .int (zI t)), (2, .int (zI v)), (3, .int (zI n))]) hx hb dX9_through_52 hl (k := 2) rfl (zI_add _ _) (by decide) rfl (fun ls hl => ?_)
          refine lv_goto (tgt := 17) hx hb dX9_through_55 (by decide) ?_
          exact ih17 (k + 1) (fromZ S at1 t) (seen ||| (2 ^ (fromZ S at1 t).toNat)) H locs ls (by omega) (by omega) (by rw [tn1 hk.1, thruW, ← hat, Int.toNat_of_nonneg hk.1]; first | rw [if_pos (by omega)] | rw [if_neg (by omega)]) (by rw [tn1 hk.1, thruS, thruW, ← hat, ← hsn, Int.toNat_of_nonneg hk.1]; first | rw [if_pos (by omega)] | rw [if_neg (by omega)]) (by omega) hP hS (lv_sub hl [0, 1, 2, 3, 4, 5, 6] rfl)
  exact loop17 _ 0 (sf 1) (2 ^ (sf 1).toNat) H locs ls (by omega) (by omega) rfl rfl (Nat.lt_succ_self _) hP hS (lv_sub hl [0, 1, 2, 3, 4, 5, 6] rfl)
theorem pd_X9_count : yX9_count.cls = RX9 ∧ yX9_count.cls ≠ "java/lang/invoke/MethodHandle" ∧ yX9_count.cls ≠ "java/lang/invoke/VarHandle" ∧ (parseMethodDescriptor yX9_count.desc).map (fun d => d.parameters.length) = some 1 := by decide +kernel
abbrev rmX9_count : Room := { frames := 0, cells := 0, slots := 0, locals := 0 }
set_option maxHeartbeats 4000000 in
set_option maxRecDepth 100000 in
theorem c_X9_count (l : Launch) (G : CX) (hm0 : Nat) (S : Int) (C : Int) (Wy : Int) (Li : Int) (ml : Nat) (ms : Nat) (mw : Nat) (kn : Int) (mi : Nat) (mk : Nat) (hz : Int) (mh : Nat) (tr : Int64) (mt : Nat) (tn : Int) (cu : Int) (sa : Int) (to : Int) (nu : Int) (wr : Int) (it : Int) (sS : Int) (sC : Int) (sL : Int) (sW : Int) (mq : Nat) (mn : Nat) (mc : Nat) (mr : Nat) (mb : Nat) (what : Int) (hr_what : -2147483648 ≤ what ∧ what < 2147483648) : Met l yX9_count wsX9_count rmX9_count (rdP G [.ref hm0, .int (zI what)] [(hm0, .inr (9, [.int (zI S), .int (zI C), .int (zI Wy), .int (zI Li), .ref ml, .ref ms, .ref mw, .int (zI kn), .ref mi, .ref mk, .int (zI hz), .ref mh, .long tr, .ref mt, .int (zI tn), .int (zI cu), .int (zI sa), .int (zI to), .int (zI nu), .int (zI wr), .int (zI it), .int (zI sS), .int (zI sC), .int (zI sL), .int (zI sW), .ref mq, .ref mn, .ref mc, .ref mr, .ref mb]))]) (rdQ (zI (if what = 0 then S else if what = 1 then C else if what = 2 then Wy else if what = 3 then Li else if what = 4 then hz else if what = 5 then tn else -1))) 0 0 noA := by
  refine rd_ofW (cc := cX9_count) (maxL := 2) (ty := .int) (by decide) rfl (Nat.le_of_ble_eq_true rfl) rfl ?_
  intro p e s m below meth c Q A hx hb hml hown hts hK hret H locs hP hS ls hl
  have hown : s.vm.findClass RX9 = some m.cls := hown
  have hl : lv_has ls 2 [(0, .ref hm0), (1, .int (zI what))] := hl
  have f7 := hts (.fieldLink RX9 7 "QuarterTurnsModel" "steps" "I") (by decide +kernel)
  have i9 : ∀ w ∈ wsX90, w ∈ wsX9_count := fun w h => List.mem_cons_of_mem _ (List.mem_append_right _ h)
  have f13 := hts (.fieldLink RX9 13 "QuarterTurnsModel" "faces" "I") (by decide +kernel)
  have f16 := hts (.fieldLink RX9 16 "QuarterTurnsModel" "ways" "I") (by decide +kernel)
  have f19 := hts (.fieldLink RX9 19 "QuarterTurnsModel" "limit" "I") (by decide +kernel)
  have f125 := hts (.fieldLink RX9 125 "QuarterTurnsModel" "hollowMany" "I") (by decide +kernel)
  have f64 := hts (.fieldLink RX9 64 "QuarterTurnsModel" "texted" "I") (by decide +kernel)
  refine lv_iload_n hx hb dX9_count_0 rfl (lv_at hl 1 rfl) ?_
  rcases (show (what < 0 ∨ 5 < what) ∨ what = 0 ∨ what = 1 ∨ what = 2 ∨ what = 3 ∨ what = 4 ∨ what = 5 by omega) with c_1 | c_1 | c_1 | c_1 | c_1 | c_1 | c_1
  · refine z_tabOut (tgt := 70) hx hb (by omega) dX9_count_1 c_1 (by decide) ?_
    refine lv_iconst (v := zI (-1)) hx hb dX9_count_70 rfl ?_
    exact hret H locs ls 71 _ (congrArg zI (by (repeat' split) <;> first | rfl | omega)) hS dX9_count_71
  · refine z_tabIn (tgt := 40) (k := 0) hx hb (by omega) dX9_count_1 (by omega) (by omega) (by omega) rfl (by decide) ?_
    refine lv_aload_n hx hb dX9_count_40 rfl (lv_at hl 0 rfl) ?_
    refine va_get (ci := 9) (v := .int (zI S)) (C := RX9) (T := TX9) (N := 30) hx hb hts i9 hown hK hP 0 rfl rfl 0 (by decide) f7 (fun _ h9 => h9) rfl dX9_count_41 ?_
    exact hret H locs ls 44 _ (congrArg zI (by (repeat' split) <;> first | rfl | omega)) hS dX9_count_44
  · refine z_tabIn (tgt := 45) (k := 1) hx hb (by omega) dX9_count_1 (by omega) (by omega) (by omega) rfl (by decide) ?_
    refine lv_aload_n hx hb dX9_count_45 rfl (lv_at hl 0 rfl) ?_
    refine va_get (ci := 9) (v := .int (zI C)) (C := RX9) (T := TX9) (N := 30) hx hb hts i9 hown hK hP 0 rfl rfl 1 (by decide) f13 (fun _ h9 => h9) rfl dX9_count_46 ?_
    exact hret H locs ls 49 _ (congrArg zI (by (repeat' split) <;> first | rfl | omega)) hS dX9_count_49
  · refine z_tabIn (tgt := 50) (k := 2) hx hb (by omega) dX9_count_1 (by omega) (by omega) (by omega) rfl (by decide) ?_
    refine lv_aload_n hx hb dX9_count_50 rfl (lv_at hl 0 rfl) ?_
    refine va_get (ci := 9) (v := .int (zI Wy)) (C := RX9) (T := TX9) (N := 30) hx hb hts i9 hown hK hP 0 rfl rfl 2 (by decide) f16 (fun _ h9 => h9) rfl dX9_count_51 ?_
    exact hret H locs ls 54 _ (congrArg zI (by (repeat' split) <;> first | rfl | omega)) hS dX9_count_54
  · refine z_tabIn (tgt := 55) (k := 3) hx hb (by omega) dX9_count_1 (by omega) (by omega) (by omega) rfl (by decide) ?_
    refine lv_aload_n hx hb dX9_count_55 rfl (lv_at hl 0 rfl) ?_
    refine va_get (ci := 9) (v := .int (zI Li)) (C := RX9) (T := TX9) (N := 30) hx hb hts i9 hown hK hP 0 rfl rfl 3 (by decide) f19 (fun _ h9 => h9) rfl dX9_count_56 ?_
    exact hret H locs ls 59 _ (congrArg zI (by (repeat' split) <;> first | rfl | omega)) hS dX9_count_59
  · refine z_tabIn (tgt := 60) (k := 4) hx hb (by omega) dX9_count_1 (by omega) (by omega) (by omega) rfl (by decide) ?_
    refine lv_aload_n hx hb dX9_count_60 rfl (lv_at hl 0 rfl) ?_
    refine va_get (ci := 9) (v := .int (zI hz)) (C := RX9) (T := TX9) (N := 30) hx hb hts i9 hown hK hP 0 rfl rfl 10 (by decide) f125 (fun _ h9 => h9) rfl dX9_count_61 ?_
    exact hret H locs ls 64 _ (congrArg zI (by (repeat' split) <;> first | rfl | omega)) hS dX9_count_64
  · refine z_tabIn (tgt := 65) (k := 5) hx hb (by omega) dX9_count_1 (by omega) (by omega) (by omega) rfl (by decide) ?_
    refine lv_aload_n hx hb dX9_count_65 rfl (lv_at hl 0 rfl) ?_
    refine va_get (ci := 9) (v := .int (zI tn)) (C := RX9) (T := TX9) (N := 30) hx hb hts i9 hown hK hP 0 rfl rfl 14 (by decide) f64 (fun _ h9 => h9) rfl dX9_count_66 ?_
    exact hret H locs ls 69 _ (congrArg zI (by (repeat' split) <;> first | rfl | omega)) hS dX9_count_69
theorem pd_X9_forget : yX9_forget.cls = RX9 ∧ yX9_forget.cls ≠ "java/lang/invoke/MethodHandle" ∧ yX9_forget.cls ≠ "java/lang/invoke/VarHandle" ∧ (parseMethodDescriptor yX9_forget.desc).map (fun d => d.parameters.length) = some 0 := by decide +kernel
abbrev rmX9_forget : Room := { frames := 0, cells := 0, slots := 0, locals := 0 }
set_option maxHeartbeats 4000000 in
set_option maxRecDepth 100000 in
theorem c_X9_forget (l : Launch) (G : CX) (hm0 : Nat) (S : Int) (C : Int) (Wy : Int) (Li : Int) (ml : Nat) (ms : Nat) (mw : Nat) (kn : Int) (mi : Nat) (mk : Nat) (hz : Int) (mh : Nat) (tr : Int64) (mt : Nat) (tn : Int) (cu : Int) (sa : Int) (to : Int) (nu : Int) (wr : Int) (it : Int) (sS : Int) (sC : Int) (sL : Int) (sW : Int) (mq : Nat) (mn : Nat) (mc : Nat) (mr : Nat) (mb : Nat)  : Met l yX9_forget wsX9_forget rmX9_forget (wrP G [.ref hm0] [(hm0, .inr (9, [.int (zI S), .int (zI C), .int (zI Wy), .int (zI Li), .ref ml, .ref ms, .ref mw, .int (zI kn), .ref mi, .ref mk, .int (zI hz), .ref mh, .long tr, .ref mt, .int (zI tn), .int (zI cu), .int (zI sa), .int (zI to), .int (zI nu), .int (zI wr), .int (zI it), .int (zI sS), .int (zI sC), .int (zI sL), .int (zI sW), .ref mq, .ref mn, .ref mc, .ref mr, .ref mb]))]) (wrQ G [(hm0, .inr (9, [.int (zI S), .int (zI C), .int (zI Wy), .int (zI Li), .ref ml, .ref ms, .ref mw, .int (zI kn), .ref mi, .ref mk, .int (zI hz), .ref mh, .long tr, .ref mt, .int (zI tn), .int (zI cu), .int (zI sa), .int (zI to), .int (zI nu), .int (zI wr), .int (zI it), .int (zI sS), .int (zI sC), .int (zI sL), .int (zI sW), .ref mq, .ref mn, .ref mc, .ref mr, .ref mb]))] (fun (r_ : Int32) (u : Unit) => match u with | _ => r_ = zI hz ∧ (True)) (fun (u : Unit) => match u with | _ => [(hm0, .inr (9, [.int (zI S), .int (zI C), .int (zI Wy), .int (zI Li), .ref ml, .ref ms, .ref mw, .int (zI kn), .ref mi, .ref mk, .int (zI 0), .ref mh, .long tr, .ref mt, .int (zI tn), .int (zI cu), .int (zI sa), .int (zI to), .int (zI nu), .int (zI wr), .int (zI it), .int (zI sS), .int (zI sC), .int (zI sL), .int (zI sW), .ref mq, .ref mn, .ref mc, .ref mr, .ref mb]))])) 0 0 (wrA [(hm0, .inr (9, [.int (zI S), .int (zI C), .int (zI Wy), .int (zI Li), .ref ml, .ref ms, .ref mw, .int (zI kn), .ref mi, .ref mk, .int (zI hz), .ref mh, .long tr, .ref mt, .int (zI tn), .int (zI cu), .int (zI sa), .int (zI to), .int (zI nu), .int (zI wr), .int (zI it), .int (zI sS), .int (zI sC), .int (zI sL), .int (zI sW), .ref mq, .ref mn, .ref mc, .ref mr, .ref mb]))]) := by
  refine wr_ofW (cc := cX9_forget) (maxL := 2) (ty := .int) (by decide) rfl (Nat.le_of_ble_eq_true rfl) ?_
  intro p e s m below meth c Q A hx hb hml hown hts hK hret H locs hP hD hS ls hl
  have hown : s.vm.findClass RX9 = some m.cls := hown
  have hl : lv_has ls 2 [(0, .ref hm0)] := hl
  have f125 := hts (.fieldLink RX9 125 "QuarterTurnsModel" "hollowMany" "I") (by decide +kernel)
  have i9 : ∀ w ∈ wsX90, w ∈ wsX9_forget := fun w h => List.mem_cons_of_mem _ (List.mem_append_right _ h)
  refine lv_aload_n hx hb dX9_forget_0 rfl (lv_at hl 0 rfl) ?_
  refine va_get (ci := 9) (v := .int (zI hz)) (C := RX9) (T := TX9) (N := 30) hx hb hts i9 hown hK hP 0 rfl rfl 10 (by decide) f125 (fun _ h9 => h9) rfl dX9_forget_1 ?_
  refine lv_istore_n (lv' := [(1, .int (zI hz)), (0, .ref hm0)]) hx hb dX9_forget_4 rfl hl (by decide) rfl (fun ls hl => ?_)
  refine lv_aload_n hx hb dX9_forget_5 rfl (lv_at hl 1 rfl) ?_
  refine lv_iconst (v := zI 0) hx hb dX9_forget_6 rfl ?_
  refine va_put (ci := 9) (v := .int (zI 0)) (ty := .int) (C := RX9) (T := TX9) (N := 30) hx hb hts i9 tyX9 tyX9_ok nmX9 hown hK hP hD hS 0 rfl rfl 10 (by decide) f125 (fun _ h9 => h9) rfl (tyX9_ok 10 (by decide)) rfl rfl (Nat.le_of_ble_eq_true rfl) dX9_forget_7 (fun H locs hP hD hS => ?_)
  have hP : kP G [(hm0, .inr (9, [.int (zI S), .int (zI C), .int (zI Wy), .int (zI Li), .ref ml, .ref ms, .ref mw, .int (zI kn), .ref mi, .ref mk, .int (zI 0), .ref mh, .long tr, .ref mt, .int (zI tn), .int (zI cu), .int (zI sa), .int (zI to), .int (zI nu), .int (zI wr), .int (zI it), .int (zI sS), .int (zI sC), .int (zI sL), .int (zI sW), .ref mq, .ref mn, .ref mc, .ref mr, .ref mb]))] H := hP
  have hD : va_D A [(hm0, .inr (9, [.int (zI S), .int (zI C), .int (zI Wy), .int (zI Li), .ref ml, .ref ms, .ref mw, .int (zI kn), .ref mi, .ref mk, .int (zI 0), .ref mh, .long tr, .ref mt, .int (zI tn), .int (zI cu), .int (zI sa), .int (zI to), .int (zI nu), .int (zI wr), .int (zI it), .int (zI sS), .int (zI sC), .int (zI sL), .int (zI sW), .ref mq, .ref mn, .ref mc, .ref mr, .ref mb]))] := hD
  refine lv_iload_n hx hb dX9_forget_10 rfl (lv_at hl 0 rfl) ?_
  exact hret H locs ls 11 _ () rfl ⟨congrArg zI (by rfl), by trivial⟩ hP hS dX9_forget_11
