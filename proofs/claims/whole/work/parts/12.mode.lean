
def mvZ (f : Int → Int) (a : Int) : Nat → Int
  | 0 => 0
  | k + 1 => if 99 < mvZ f a k then mvZ f a k else 10 * mvZ f a k + f (a + (k : Int)) - 48
/-- the reference's word for a token's kind -/
def mtk (k : Int) : Int := if k = -1 then 0 else if k = -2 then 2 else if k = -3 then 4 else if k = 115 ∨ k = 108 ∨ k = 109 ∨ k = 98 then 1 else if k = 59 then 3 else 4
theorem mvZ_rng {f : Int → Int} {a b : Int} (h : ∀ j : Int, a ≤ j → j < b → 48 ≤ f j ∧ f j ≤ 57) : ∀ k : Nat, a + k ≤ b → (0 ≤ mvZ f a k ∧ mvZ f a k ≤ 999) ∧ nmZ f a k = (if mvZ f a k < 100 then mvZ f a k else 100)
  | 0, _ => by simp [mvZ, nmZ]
  | k + 1, hk => by
    have h1 := mvZ_rng h k (by omega)
    have h2 := h (a + k) (by omega) (by omega)
    unfold mvZ nmZ
    rw [h1.2]
    (repeat' split) <;> omega

theorem pd_X9_letterAt : yX9_letterAt.cls = RX9 ∧ yX9_letterAt.cls ≠ "java/lang/invoke/MethodHandle" ∧ yX9_letterAt.cls ≠ "java/lang/invoke/VarHandle" ∧ (parseMethodDescriptor yX9_letterAt.desc).map (fun d => d.parameters.length) = some 1 := by decide +kernel
abbrev rmX9_letterAt : Room := { frames := 0, cells := 0, slots := 0, locals := 0 }
set_option maxHeartbeats 4000000 in
set_option maxRecDepth 100000 in
theorem c_X9_letterAt (l : Launch) (G : CX) (hm0 : Nat) (S : Int) (C : Int) (Wy : Int) (Li : Int) (ml : Nat) (ms : Nat) (mw : Nat) (kn : Int) (mi : Nat) (mk : Nat) (hz : Int) (mh : Nat) (tr : Int64) (mt : Nat) (tn : Int) (cu : Int) (sa : Int) (to : Int) (nu : Int) (wr : Int) (it : Int) (sS : Int) (sC : Int) (sL : Int) (sW : Int) (mq : Nat) (mn : Nat) (mc : Nat) (mr : Nat) (mb : Nat) (tf : Int → Int) (k : Int) (htn : 0 ≤ tn ∧ tn ≤ 200) (htf : ∀ i : Int, 0 ≤ i → i < tn → 0 ≤ tf i ∧ tf i ≤ 255) (hk : 0 ≤ k ∧ k ≤ 200) : Met l yX9_letterAt wsX9_letterAt rmX9_letterAt (rdP G [.ref hm0, .int (zI k)] [(hm0, .inr (9, [.int (zI S), .int (zI C), .int (zI Wy), .int (zI Li), .ref ml, .ref ms, .ref mw, .int (zI kn), .ref mi, .ref mk, .int (zI hz), .ref mh, .long tr, .ref mt, .int (zI tn), .int (zI cu), .int (zI sa), .int (zI to), .int (zI nu), .int (zI wr), .int (zI it), .int (zI sS), .int (zI sC), .int (zI sL), .int (zI sW), .ref mq, .ref mn, .ref mc, .ref mr, .ref mb])), (mt, .inl (G.2.1, 200, .inl (aZ tf)))]) (rdQ (zI (lA tf tn k))) 0 0 noA := by
  refine rd_ofW (cc := cX9_letterAt) (maxL := 2) (ty := .int) (by decide) rfl (Nat.le_of_ble_eq_true rfl) rfl ?_
  intro p e s m below meth c Q A hx hb hml hown hts hK hret H locs hP hS ls hl
  have hown : s.vm.findClass RX9 = some m.cls := hown
  have hl : lv_has ls 2 [(0, .ref hm0), (1, .int (zI k))] := hl
  have f64 := hts (.fieldLink RX9 64 "QuarterTurnsModel" "texted" "I") (by decide +kernel)
  have i9 : ∀ w ∈ wsX90, w ∈ wsX9_letterAt := fun w h => List.mem_cons_of_mem _ (List.mem_append_right _ h)
  have f42 := hts (.fieldLink RX9 42 "QuarterTurnsModel" "text" "[I") (by decide +kernel)
  refine lv_iload_n hx hb dX9_letterAt_0 rfl (lv_at hl 1 rfl) ?_
  refine lv_aload_n hx hb dX9_letterAt_1 rfl (lv_at hl 0 rfl) ?_
  refine va_get (ci := 9) (v := .int (zI tn)) (C := RX9) (T := TX9) (N := 30) hx hb hts i9 hown hK hP 0 rfl rfl 14 (by decide) f64 (fun _ h9 => h9) rfl dX9_letterAt_2 ?_
  refine z_icmp_ge (tgt := 17) hx hb (by omega) dX9_letterAt_5 (by decide) (fun c_1 => ?_) (fun c_1 => ?_)
  · refine lv_iconst (v := zI (-1)) hx hb dX9_letterAt_17 rfl ?_
    exact hret H locs ls 18 _ (congrArg zI (by unfold lA; first | rw [if_pos (by omega)] | rw [if_neg (by omega)])) hS dX9_letterAt_18
  · refine lv_aload_n hx hb dX9_letterAt_8 rfl (lv_at hl 0 rfl) ?_
    refine va_get (ci := 9) (v := .ref mt) (C := RX9) (T := TX9) (N := 30) hx hb hts i9 hown hK hP 0 rfl rfl 13 (by decide) f42 (fun _ h9 => h9) rfl dX9_letterAt_9 ?_
    refine lv_iload_n hx hb dX9_letterAt_12 rfl (lv_at hl 1 rfl) ?_
    refine z_iald (n := 200) (f := tf) hx hb hK hP 1 rfl (by omega) dX9_letterAt_13 ?_
    refine lv_goto (tgt := 18) hx hb dX9_letterAt_14 (by decide) ?_
    exact hret H locs ls 18 _ (congrArg zI (by unfold lA; first | rw [if_pos (by omega)] | rw [if_neg (by omega)])) hS dX9_letterAt_18
theorem pd_X9_isFigure : yX9_isFigure.cls = RX9 ∧ yX9_isFigure.cls ≠ "java/lang/invoke/MethodHandle" ∧ yX9_isFigure.cls ≠ "java/lang/invoke/VarHandle" ∧ (parseMethodDescriptor yX9_isFigure.desc).map (fun d => d.parameters.length) = some 1 := by decide +kernel
abbrev rmX9_isFigure : Room := { frames := 1, cells := 0, slots := 0, locals := 22 }
set_option maxHeartbeats 4000000 in
set_option maxRecDepth 100000 in
theorem c_X9_isFigure (l : Launch) (G : CX) (x : Int) (hr_x : -2147483648 ≤ x ∧ x < 2147483648) : Met l yX9_isFigure wsX9_isFigure rmX9_isFigure (rdP G [.int (zI x)] []) (rdQ (zI (if (48 ≤ x ∧ x ≤ 57) then 1 else 0))) 0 0 noA := by
  refine rd_ofW (cc := cX9_isFigure) (maxL := 1) (ty := .boolean) (by decide) rfl (Nat.le_of_ble_eq_true rfl) (nb _) ?_
  intro p e s m below meth c Q A hx hb hml hown hts hK hret H locs hP hS ls hl
  have hown : s.vm.findClass RX9 = some m.cls := hown
  have hl : lv_has ls 1 [(0, .int (zI x))] := hl
  refine lv_iload_n hx hb dX9_isFigure_0 rfl (lv_at hl 0 rfl) ?_
  refine lv_bipush (v := zI 48) hx hb dX9_isFigure_1 (by decide) ?_
  refine lv_bipush (v := zI 57) hx hb dX9_isFigure_3 (by decide) ?_
  refine z_cS (As := [.int (zI x), .int (zI 48), .int (zI 57)]) (rest := []) ⟨hx, hb, hml, hown, hts⟩ (c_X9_in l G x 48 57 (by first | assumption | omega)) (va_cwS 3 hts gX9_isFigure_X9_in rfl rfl rfl pd_X9_in.2 ⟨(Nat.le_of_ble_eq_true rfl), (Nat.le_of_ble_eq_true rfl)⟩) hK hP hS [] rfl rfl hl.1 rfl (Nat.le_of_ble_eq_true rfl) dX9_isFigure_5 ⟨Nat.zero_le _, Nat.zero_le _⟩ (fun H locs hP hS => ?_)
  exact hret H locs ls 8 _ (congrArg zI (by rfl)) hS dX9_isFigure_8

theorem nxt1 {f : Int → Int} {n cu q : Int} (h : tkS f n cu = q) (h1 : n ≤ q) : q = tkE f n cu ∧ q = tkS f n cu ∧ 0 = mtk (tkK f n cu) ∧ (tkK f n cu = -2 → 0 = tkV f n cu) ∧ (0 ≤ tkK f n cu → 0 = tkK f n cu) ∧ ((0 : Int) ≤ 0 ∧ (0 : Int) ≤ 999) := by
  have e2 : tkK f n cu = -1 := by unfold tkK; rw [h, if_pos h1]
  refine ⟨?_, h.symm, ?_, fun h3 => ?_, fun h3 => ?_, by omega⟩
  · unfold tkE; rw [h, if_pos h1]
  · rw [e2]; rfl
  · omega
  · omega
theorem nxt2 {f : Int → Int} {n cu q r nv tk : Int} (h : tkS f n cu = q) (hr : dgZ f n q = r) (h1 : q < n) (h2 : q < r) (hnv : nv = mvZ f q (r - q).toNat) (hnr : 0 ≤ nv ∧ nv ≤ 999) (ht : (tk = 4 ∧ (99 < nv ∨ (f q = 48 ∧ 1 < r - q))) ∨ (tk = 2 ∧ ¬ (99 < nv ∨ (f q = 48 ∧ 1 < r - q)))) : r = tkE f n cu ∧ q = tkS f n cu ∧ tk = mtk (tkK f n cu) ∧ (tkK f n cu = -2 → nv = tkV f n cu) ∧ (0 ≤ tkK f n cu → nv = tkK f n cu) ∧ (0 ≤ nv ∧ nv ≤ 999) := by
  have hm := (mvZ_rng (f := f) (a := q) (b := r) (fun j h3 h4 => (dgZ_in (f := f) (n := n) (e := q) h3 (by omega)).2) (r - q).toNat (by omega)).2
  rw [← hnv] at hm
  have ek : tkK f n cu = nkZ f q r := by unfold tkK; rw [h, if_neg (by omega), hr, if_pos h2]
  have ev : tkV f n cu = nmZ f q (r - q).toNat := by unfold tkV; rw [h, hr]
  have ec : nkZ f q r = -3 ∧ tk = 4 ∨ nkZ f q r = -2 ∧ tk = 2 ∧ nv < 100 := by
    unfold nkZ
    rw [hm]
    (repeat' split) <;> omega
  refine ⟨?_, h.symm, ?_, fun h3 => ?_, fun h3 => ?_, hnr⟩
  · unfold tkE; rw [h, if_neg (by omega), hr, if_pos h2]
  · rw [ek]; unfold mtk; rcases ec with ⟨e, e2⟩ | ⟨e, e2, _⟩ <;> rw [e, e2] <;> rfl
  · rw [ev, hm, if_pos (by omega)]
  · omega
theorem nxt3 {f : Int → Int} {n cu q c tk : Int} (h : tkS f n cu = q) (h1 : q < n) (hc : c = f q) (hf : 0 ≤ c ∧ c ≤ 255 ∧ ¬ (48 ≤ c ∧ c ≤ 57)) (ht : (tk = 1 ∧ (c = 115 ∨ c = 108 ∨ c = 109 ∨ c = 98)) ∨ (tk = 3 ∧ c = 59) ∨ (tk = 4 ∧ ¬ (c = 115 ∨ c = 108 ∨ c = 109 ∨ c = 98) ∧ ¬ c = 59)) : q + 1 = tkE f n cu ∧ q = tkS f n cu ∧ tk = mtk (tkK f n cu) ∧ (tkK f n cu = -2 → c = tkV f n cu) ∧ (0 ≤ tkK f n cu → c = tkK f n cu) ∧ (0 ≤ c ∧ c ≤ 999) := by
  have hd : dgZ f n q = q := dgE_stop (by omega)
  have ek : tkK f n cu = c := by unfold tkK; rw [h, if_neg (by omega), hd, if_neg (by omega), hc]
  refine ⟨?_, h.symm, ?_, fun h3 => ?_, fun h3 => ek.symm, by omega⟩
  · unfold tkE; rw [h, if_neg (by omega), hd, if_neg (by omega)]
  · rw [ek]; unfold mtk; (repeat' split) <;> omega
  · omega

theorem pd_X9_next : yX9_next.cls = RX9 ∧ yX9_next.cls ≠ "java/lang/invoke/MethodHandle" ∧ yX9_next.cls ≠ "java/lang/invoke/VarHandle" ∧ (parseMethodDescriptor yX9_next.desc).map (fun d => d.parameters.length) = some 0 := by decide +kernel
abbrev rmX9_next : Room := { frames := 2, cells := 0, slots := 0, locals := 42 }
set_option maxHeartbeats 4000000 in
set_option maxRecDepth 100000 in
theorem c_X9_next (l : Launch) (G : CX) (hm0 : Nat) (S : Int) (C : Int) (Wy : Int) (Li : Int) (ml : Nat) (ms : Nat) (mw : Nat) (kn : Int) (mi : Nat) (mk : Nat) (hz : Int) (mh : Nat) (tr : Int64) (mt : Nat) (tn : Int) (cu : Int) (sa : Int) (to : Int) (nu : Int) (wr : Int) (it : Int) (sS : Int) (sC : Int) (sL : Int) (sW : Int) (mq : Nat) (mn : Nat) (mc : Nat) (mr : Nat) (mb : Nat) (tf : Int → Int) (htn : 0 ≤ tn ∧ tn ≤ 200) (htf : ∀ i : Int, 0 ≤ i → i < tn → 0 ≤ tf i ∧ tf i ≤ 255) (hcu : 0 ≤ cu ∧ cu ≤ tn) : Met l yX9_next wsX9_next rmX9_next (wrP G [.ref hm0] [(hm0, .inr (9, [.int (zI S), .int (zI C), .int (zI Wy), .int (zI Li), .ref ml, .ref ms, .ref mw, .int (zI kn), .ref mi, .ref mk, .int (zI hz), .ref mh, .long tr, .ref mt, .int (zI tn), .int (zI cu), .int (zI sa), .int (zI to), .int (zI nu), .int (zI wr), .int (zI it), .int (zI sS), .int (zI sC), .int (zI sL), .int (zI sW), .ref mq, .ref mn, .ref mc, .ref mr, .ref mb])), (mt, .inl (G.2.1, 200, .inl (aZ tf)))]) (wrV G [(hm0, .inr (9, [.int (zI S), .int (zI C), .int (zI Wy), .int (zI Li), .ref ml, .ref ms, .ref mw, .int (zI kn), .ref mi, .ref mk, .int (zI hz), .ref mh, .long tr, .ref mt, .int (zI tn), .int (zI cu), .int (zI sa), .int (zI to), .int (zI nu), .int (zI wr), .int (zI it), .int (zI sS), .int (zI sC), .int (zI sL), .int (zI sW), .ref mq, .ref mn, .ref mc, .ref mr, .ref mb])), (mt, .inl (G.2.1, 200, .inl (aZ tf)))] (fun (u : Int × Int × Int × Int) => match u with | (cu2, sa2, to2, nu2) => (cu2 = tkE tf tn cu ∧ sa2 = tkS tf tn cu ∧ to2 = mtk (tkK tf tn cu) ∧ (tkK tf tn cu = -2 → nu2 = tkV tf tn cu) ∧ (0 ≤ tkK tf tn cu → nu2 = tkK tf tn cu) ∧ (0 ≤ nu2 ∧ nu2 ≤ 999))) (fun (u : Int × Int × Int × Int) => match u with | (cu2, sa2, to2, nu2) => [(hm0, .inr (9, [.int (zI S), .int (zI C), .int (zI Wy), .int (zI Li), .ref ml, .ref ms, .ref mw, .int (zI kn), .ref mi, .ref mk, .int (zI hz), .ref mh, .long tr, .ref mt, .int (zI tn), .int (zI cu2), .int (zI sa2), .int (zI to2), .int (zI nu2), .int (zI wr), .int (zI it), .int (zI sS), .int (zI sC), .int (zI sL), .int (zI sW), .ref mq, .ref mn, .ref mc, .ref mr, .ref mb])), (mt, .inl (G.2.1, 200, .inl (aZ tf)))])) 0 0 (wrA [(hm0, .inr (9, [.int (zI S), .int (zI C), .int (zI Wy), .int (zI Li), .ref ml, .ref ms, .ref mw, .int (zI kn), .ref mi, .ref mk, .int (zI hz), .ref mh, .long tr, .ref mt, .int (zI tn), .int (zI cu), .int (zI sa), .int (zI to), .int (zI nu), .int (zI wr), .int (zI it), .int (zI sS), .int (zI sC), .int (zI sL), .int (zI sW), .ref mq, .ref mn, .ref mc, .ref mr, .ref mb])), (mt, .inl (G.2.1, 200, .inl (aZ tf)))]) := by
  refine wv_ofW (cc := cX9_next) (maxL := 2) (by decide) rfl (Nat.le_of_ble_eq_true rfl) ?_
  intro p e s m below meth c Q A hx hb hml hown hts hK hret H locs hP hD hS ls hl
  have hown : s.vm.findClass RX9 = some m.cls := hown
  have hl : lv_has ls 2 [(0, .ref hm0)] := hl
  have f67 := hts (.fieldLink RX9 67 "QuarterTurnsModel" "cursor" "I") (by decide +kernel)
  have i9 : ∀ w ∈ wsX90, w ∈ wsX9_next := fun w h => List.mem_cons_of_mem _ (List.mem_append_right _ h)
  have f74 := hts (.fieldLink RX9 74 "QuarterTurnsModel" "start" "I") (by decide +kernel)
  have f77 := hts (.fieldLink RX9 77 "QuarterTurnsModel" "number" "I") (by decide +kernel)
  have f80 := hts (.fieldLink RX9 80 "QuarterTurnsModel" "token" "I") (by decide +kernel)
  have loop0 : ∀ (n_ : Nat) (q : Int) (H : Heap) (locs : List Loc) (ls : Array Slot), (cu ≤ q ∧ q ≤ tn) → (tkS tf tn q = tkS tf tn cu) → (tn - q).toNat < n_ → kP G [(hm0, .inr (9, [.int (zI S), .int (zI C), .int (zI Wy), .int (zI Li), .ref ml, .ref ms, .ref mw, .int (zI kn), .ref mi, .ref mk, .int (zI hz), .ref mh, .long tr, .ref mt, .int (zI tn), .int (zI q), .int (zI sa), .int (zI to), .int (zI nu), .int (zI wr), .int (zI it), .int (zI sS), .int (zI sC), .int (zI sL), .int (zI sW), .ref mq, .ref mn, .ref mc, .ref mr, .ref mb])), (mt, .inl (G.2.1, 200, .inl (aZ tf)))] H → va_D A [(hm0, .inr (9, [.int (zI S), .int (zI C), .int (zI Wy), .int (zI Li), .ref ml, .ref ms, .ref mw, .int (zI kn), .ref mi, .ref mk, .int (zI hz), .ref mh, .long tr, .ref mt, .int (zI tn), .int (zI q), .int (zI sa), .int (zI to), .int (zI nu), .int (zI wr), .int (zI it), .int (zI sS), .int (zI sC), .int (zI sL), .int (zI sW), .ref mq, .ref mn, .ref mc, .ref mr, .ref mb])), (mt, .inl (G.2.1, 200, .inl (aZ tf)))] → va_S A s.heap H locs → lv_has ls 2 [(0, .ref hm0)] → W p l e rmX9_next s m ([.ref hm0] : List Value).toArray below meth c H locs 0 0 Q (F0 m 0 ls []) := by
    intro n_
    induction n_ with
    | zero =>
      intro q H locs ls hq hqs hm
      exact absurd hm (Nat.not_lt_zero _)
    | succ n_ ih0 =>
      intro q H locs ls hq hqs hmz0 hP hD hS hl
      refine lv_aload_n hx hb dX9_next_0 rfl (lv_at hl 0 rfl) ?_
      refine lv_aload_n hx hb dX9_next_1 rfl (lv_at hl 0 rfl) ?_
      refine va_get (ci := 9) (v := .int (zI q)) (C := RX9) (T := TX9) (N := 30) hx hb hts i9 hown hK hP 0 rfl rfl 15 (by decide) f67 (fun _ h9 => h9) rfl dX9_next_2 ?_
      refine z_cV (As := [.int (zI q)]) (rest := []) ⟨hx, hb, hml, hown, hts⟩ (c_X9_letterAt l G hm0 S C Wy Li ml ms mw kn mi mk hz mh tr mt tn q sa to nu wr it sS sC sL sW mq mn mc mr mb tf q (by first | assumption | omega) (by first | assumption | omega) (by first | assumption | omega)) (cwV 1 hts gX9_next_X9_letterAt rfl rfl rfl pd_X9_letterAt ⟨(Nat.le_of_ble_eq_true rfl), (Nat.le_of_ble_eq_true rfl)⟩) hK hP hS [0, 1] rfl rfl rfl rfl rfl hl.1 rfl (Nat.le_of_ble_eq_true rfl) dX9_next_5 ⟨Nat.zero_le _, Nat.zero_le _⟩ (fun H locs hP hS => ?_)
      have hq_1 := lA_rng (f := tf) (n := tn) (k := q) (by omega) ((by first | assumption | omega))
      refine lv_bipush (v := zI 32) hx hb dX9_next_8 (by decide) ?_
      refine z_icmp_ne (tgt := 26) hx hb (by omega) dX9_next_10 (by decide) (fun c_2 => ?_) (fun c_2 => ?_)
      · have hqe : tkS tf tn cu = q := by rw [← hqs]; exact tkS_stop (by omega)
        refine lv_aload_n hx hb dX9_next_26 rfl (lv_at hl 0 rfl) ?_
        refine lv_aload_n hx hb dX9_next_27 rfl (lv_at hl 0 rfl) ?_
        refine va_get (ci := 9) (v := .int (zI q)) (C := RX9) (T := TX9) (N := 30) hx hb hts i9 hown hK hP 0 rfl rfl 15 (by decide) f67 (fun _ h9 => h9) rfl dX9_next_28 ?_
        refine va_put (ci := 9) (v := .int (zI q)) (ty := .int) (C := RX9) (T := TX9) (N := 30) hx hb hts i9 tyX9 tyX9_ok nmX9 hown hK hP hD hS 0 rfl rfl 16 (by decide) f74 (fun _ h9 => h9) rfl (tyX9_ok 16 (by decide)) rfl rfl (Nat.le_of_ble_eq_true rfl) dX9_next_31 (fun H locs hP hD hS => ?_)
        have hP : kP G [(hm0, .inr (9, [.int (zI S), .int (zI C), .int (zI Wy), .int (zI Li), .ref ml, .ref ms, .ref mw, .int (zI kn), .ref mi, .ref mk, .int (zI hz), .ref mh, .long tr, .ref mt, .int (zI tn), .int (zI q), .int (zI q), .int (zI to), .int (zI nu), .int (zI wr), .int (zI it), .int (zI sS), .int (zI sC), .int (zI sL), .int (zI sW), .ref mq, .ref mn, .ref mc, .ref mr, .ref mb])), (mt, .inl (G.2.1, 200, .inl (aZ tf)))] H := hP
        have hD : va_D A [(hm0, .inr (9, [.int (zI S), .int (zI C), .int (zI Wy), .int (zI Li), .ref ml, .ref ms, .ref mw, .int (zI kn), .ref mi, .ref mk, .int (zI hz), .ref mh, .long tr, .ref mt, .int (zI tn), .int (zI q), .int (zI q), .int (zI to), .int (zI nu), .int (zI wr), .int (zI it), .int (zI sS), .int (zI sC), .int (zI sL), .int (zI sW), .ref mq, .ref mn, .ref mc, .ref mr, .ref mb])), (mt, .inl (G.2.1, 200, .inl (aZ tf)))] := hD
        refine lv_aload_n hx hb dX9_next_34 rfl (lv_at hl 0 rfl) ?_
        refine lv_aload_n hx hb dX9_next_35 rfl (lv_at hl 0 rfl) ?_
        refine va_get (ci := 9) (v := .int (zI q)) (C := RX9) (T := TX9) (N := 30) hx hb hts i9 hown hK hP 0 rfl rfl 15 (by decide) f67 (fun _ h9 => h9) rfl dX9_next_36 ?_
        refine z_cV (As := [.int (zI q)]) (rest := []) ⟨hx, hb, hml, hown, hts⟩ (c_X9_letterAt l G hm0 S C Wy Li ml ms mw kn mi mk hz mh tr mt tn q q to nu wr it sS sC sL sW mq mn mc mr mb tf q (by first | assumption | omega) (by first | assumption | omega) (by first | assumption | omega)) (cwV 1 hts gX9_next_X9_letterAt rfl rfl rfl pd_X9_letterAt ⟨(Nat.le_of_ble_eq_true rfl), (Nat.le_of_ble_eq_true rfl)⟩) hK hP hS [0, 1] rfl rfl rfl rfl rfl hl.1 rfl (Nat.le_of_ble_eq_true rfl) dX9_next_39 ⟨Nat.zero_le _, Nat.zero_le _⟩ (fun H locs hP hS => ?_)
        have hq_3 := lA_rng (f := tf) (n := tn) (k := q) (by omega) ((by first | assumption | omega))
        refine lv_istore_n (lv' := [(1, .int (zI (lA tf tn q))), (0, .ref hm0)]) hx hb dX9_next_42 rfl hl (by decide) rfl (fun ls hl => ?_)
        refine lv_aload_n hx hb dX9_next_43 rfl (lv_at hl 1 rfl) ?_
        refine lv_iconst (v := zI 0) hx hb dX9_next_44 rfl ?_
        refine va_put (ci := 9) (v := .int (zI 0)) (ty := .int) (C := RX9) (T := TX9) (N := 30) hx hb hts i9 tyX9 tyX9_ok nmX9 hown hK hP hD hS 0 rfl rfl 18 (by decide) f77 (fun _ h9 => h9) rfl (tyX9_ok 18 (by decide)) rfl rfl (Nat.le_of_ble_eq_true rfl) dX9_next_45 (fun H locs hP hD hS => ?_)
        have hP : kP G [(hm0, .inr (9, [.int (zI S), .int (zI C), .int (zI Wy), .int (zI Li), .ref ml, .ref ms, .ref mw, .int (zI kn), .ref mi, .ref mk, .int (zI hz), .ref mh, .long tr, .ref mt, .int (zI tn), .int (zI q), .int (zI q), .int (zI to), .int (zI 0), .int (zI wr), .int (zI it), .int (zI sS), .int (zI sC), .int (zI sL), .int (zI sW), .ref mq, .ref mn, .ref mc, .ref mr, .ref mb])), (mt, .inl (G.2.1, 200, .inl (aZ tf)))] H := hP
        have hD : va_D A [(hm0, .inr (9, [.int (zI S), .int (zI C), .int (zI Wy), .int (zI Li), .ref ml, .ref ms, .ref mw, .int (zI kn), .ref mi, .ref mk, .int (zI hz), .ref mh, .long tr, .ref mt, .int (zI tn), .int (zI q), .int (zI q), .int (zI to), .int (zI 0), .int (zI wr), .int (zI it), .int (zI sS), .int (zI sC), .int (zI sL), .int (zI sW), .ref mq, .ref mn, .ref mc, .ref mr, .ref mb])), (mt, .inl (G.2.1, 200, .inl (aZ tf)))] := hD
        refine lv_iload_n hx hb dX9_next_48 rfl (lv_at hl 0 rfl) ?_
        refine z_if_ge (tgt := 60) hx hb (by omega) dX9_next_49 (by decide) (fun c_4 => ?_) (fun c_4 => ?_)
        · refine lv_iload_n hx hb dX9_next_60 rfl (lv_at hl 0 rfl) ?_
          refine z_cS (As := [.int (zI (lA tf tn q))]) (rest := []) ⟨hx, hb, hml, hown, hts⟩ (c_X9_isFigure l G (lA tf tn q) (by first | assumption | omega)) (va_cwS 1 hts gX9_next_X9_isFigure rfl rfl rfl pd_X9_isFigure.2 ⟨(Nat.le_of_ble_eq_true rfl), (Nat.le_of_ble_eq_true rfl)⟩) hK hP hS [] rfl rfl hl.1 rfl (Nat.le_of_ble_eq_true rfl) dX9_next_61 ⟨Nat.zero_le _, Nat.zero_le _⟩ (fun H locs hP hS => ?_)
          refine z_ifeq_b (tgt := 173) hx hb dX9_next_64 (by decide) (fun c_5 => ?_) (fun c_5 => ?_)
          · refine lv_aload_n hx hb dX9_next_173 rfl (lv_at hl 1 rfl) ?_
            refine lv_iload_n hx hb dX9_next_174 rfl (lv_at hl 0 rfl) ?_
            refine lv_bipush (v := zI 115) hx hb dX9_next_175 (by decide) ?_
            refine z_icmp_eq (tgt := 198) hx hb (by omega) dX9_next_177 (by decide) (fun c_6 => ?_) (fun c_6 => ?_)
            · refine lv_iconst (v := zI 1) hx hb dX9_next_198 rfl ?_
              refine lv_goto (tgt := 213) hx hb dX9_next_199 (by decide) ?_
              refine va_put (ci := 9) (v := .int (zI 1)) (ty := .int) (C := RX9) (T := TX9) (N := 30) hx hb hts i9 tyX9 tyX9_ok nmX9 hown hK hP hD hS 0 rfl rfl 17 (by decide) f80 (fun _ h9 => h9) rfl (tyX9_ok 17 (by decide)) rfl rfl (Nat.le_of_ble_eq_true rfl) dX9_next_213 (fun H locs hP hD hS => ?_)
              have hP : kP G [(hm0, .inr (9, [.int (zI S), .int (zI C), .int (zI Wy), .int (zI Li), .ref ml, .ref ms, .ref mw, .int (zI kn), .ref mi, .ref mk, .int (zI hz), .ref mh, .long tr, .ref mt, .int (zI tn), .int (zI q), .int (zI q), .int (zI 1), .int (zI 0), .int (zI wr), .int (zI it), .int (zI sS), .int (zI sC), .int (zI sL), .int (zI sW), .ref mq, .ref mn, .ref mc, .ref mr, .ref mb])), (mt, .inl (G.2.1, 200, .inl (aZ tf)))] H := hP
              have hD : va_D A [(hm0, .inr (9, [.int (zI S), .int (zI C), .int (zI Wy), .int (zI Li), .ref ml, .ref ms, .ref mw, .int (zI kn), .ref mi, .ref mk, .int (zI hz), .ref mh, .long tr, .ref mt, .int (zI tn), .int (zI q), .int (zI q), .int (zI 1), .int (zI 0), .int (zI wr), .int (zI it), .int (zI sS), .int (zI sC), .int (zI sL), .int (zI sW), .ref mq, .ref mn, .ref mc, .ref mr, .ref mb])), (mt, .inl (G.2.1, 200, .inl (aZ tf)))] := hD
              refine lv_aload_n hx hb dX9_next_216 rfl (lv_at hl 1 rfl) ?_
              refine lv_iload_n hx hb dX9_next_217 rfl (lv_at hl 0 rfl) ?_
              refine va_put (ci := 9) (v := .int (zI (lA tf tn q))) (ty := .int) (C := RX9) (T := TX9) (N := 30) hx hb hts i9 tyX9 tyX9_ok nmX9 hown hK hP hD hS 0 rfl rfl 18 (by decide) f77 (fun _ h9 => h9) rfl (tyX9_ok 18 (by decide)) rfl rfl (Nat.le_of_ble_eq_true rfl) dX9_next_218 (fun H locs hP hD hS => ?_)
              have hP : kP G [(hm0, .inr (9, [.int (zI S), .int (zI C), .int (zI Wy), .int (zI Li), .ref ml, .ref ms, .ref mw, .int (zI kn), .ref mi, .ref mk, .int (zI hz), .ref mh, .long tr, .ref mt, .int (zI tn), .int (zI q), .int (zI q), .int (zI 1), .int (zI (lA tf tn q)), .int (zI wr), .int (zI it), .int (zI sS), .int (zI sC), .int (zI sL), .int (zI sW), .ref mq, .ref mn, .ref mc, .ref mr, .ref mb])), (mt, .inl (G.2.1, 200, .inl (aZ tf)))] H := hP
              have hD : va_D A [(hm0, .inr (9, [.int (zI S), .int (zI C), .int (zI Wy), .int (zI Li), .ref ml, .ref ms, .ref mw, .int (zI kn), .ref mi, .ref mk, .int (zI hz), .ref mh, .long tr, .ref mt, .int (zI tn), .int (zI q), .int (zI q), .int (zI 1), .int (zI (lA tf tn q)), .int (zI wr), .int (zI it), .int (zI sS), .int (zI sC), .int (zI sL), .int (zI sW), .ref mq, .ref mn, .ref mc, .ref mr, .ref mb])), (mt, .inl (G.2.1, 200, .inl (aZ tf)))] := hD
              refine lv_aload_n hx hb dX9_next_221 rfl (lv_at hl 1 rfl) ?_
              refine lv_dup hx hb dX9_next_222 rfl ?_
              refine va_get (ci := 9) (v := .int (zI q)) (C := RX9) (T := TX9) (N := 30) hx hb hts i9 hown hK hP 0 rfl rfl 15 (by decide) f67 (fun _ h9 => h9) rfl dX9_next_223 ?_
              refine lv_iconst (v := zI 1) hx hb dX9_next_226 rfl ?_
              refine z_iadd hx hb dX9_next_227 ?_
              refine va_put (ci := 9) (v := .int (zI (q + 1))) (ty := .int) (C := RX9) (T := TX9) (N := 30) hx hb hts i9 tyX9 tyX9_ok nmX9 hown hK hP hD hS 0 rfl rfl 15 (by decide) f67 (fun _ h9 => h9) rfl (tyX9_ok 15 (by decide)) rfl rfl (Nat.le_of_ble_eq_true rfl) dX9_next_228 (fun H locs hP hD hS => ?_)
              have hP : kP G [(hm0, .inr (9, [.int (zI S), .int (zI C), .int (zI Wy), .int (zI Li), .ref ml, .ref ms, .ref mw, .int (zI kn), .ref mi, .ref mk, .int (zI hz), .ref mh, .long tr, .ref mt, .int (zI tn), .int (zI (q + 1)), .int (zI q), .int (zI 1), .int (zI (lA tf tn q)), .int (zI wr), .int (zI it), .int (zI sS), .int (zI sC), .int (zI sL), .int (zI sW), .ref mq, .ref mn, .ref mc, .ref mr, .ref mb])), (mt, .inl (G.2.1, 200, .inl (aZ tf)))] H := hP
              have hD : va_D A [(hm0, .inr (9, [.int (zI S), .int (zI C), .int (zI Wy), .int (zI Li), .ref ml, .ref ms, .ref mw, .int (zI kn), .ref mi, .ref mk, .int (zI hz), .ref mh, .long tr, .ref mt, .int (zI tn), .int (zI (q + 1)), .int (zI q), .int (zI 1), .int (zI (lA tf tn q)), .int (zI wr), .int (zI it), .int (zI sS), .int (zI sC), .int (zI sL), .int (zI sW), .ref mq, .ref mn, .ref mc, .ref mr, .ref mb])), (mt, .inl (G.2.1, 200, .inl (aZ tf)))] := hD
              exact hret H locs ls 231 (q + 1, q, 1, lA tf tn q) (by first | exact nxt1 hqe (by omega) | exact nxt3 hqe (by omega) (by omega) (by omega) (by omega) | exact nxt2 hqe hre (by omega) (by omega) hnv hnr (by omega)) hP hS dX9_next_231
            · refine lv_iload_n hx hb dX9_next_180 rfl (lv_at hl 0 rfl) ?_
              refine lv_bipush (v := zI 108) hx hb dX9_next_181 (by decide) ?_
              refine z_icmp_eq (tgt := 198) hx hb (by omega) dX9_next_183 (by decide) (fun c_7 => ?_) (fun c_7 => ?_)
              · refine lv_iconst (v := zI 1) hx hb dX9_next_198 rfl ?_
                refine lv_goto (tgt := 213) hx hb dX9_next_199 (by decide) ?_
                refine va_put (ci := 9) (v := .int (zI 1)) (ty := .int) (C := RX9) (T := TX9) (N := 30) hx hb hts i9 tyX9 tyX9_ok nmX9 hown hK hP hD hS 0 rfl rfl 17 (by decide) f80 (fun _ h9 => h9) rfl (tyX9_ok 17 (by decide)) rfl rfl (Nat.le_of_ble_eq_true rfl) dX9_next_213 (fun H locs hP hD hS => ?_)
                have hP : kP G [(hm0, .inr (9, [.int (zI S), .int (zI C), .int (zI Wy), .int (zI Li), .ref ml, .ref ms, .ref mw, .int (zI kn), .ref mi, .ref mk, .int (zI hz), .ref mh, .long tr, .ref mt, .int (zI tn), .int (zI q), .int (zI q), .int (zI 1), .int (zI 0), .int (zI wr), .int (zI it), .int (zI sS), .int (zI sC), .int (zI sL), .int (zI sW), .ref mq, .ref mn, .ref mc, .ref mr, .ref mb])), (mt, .inl (G.2.1, 200, .inl (aZ tf)))] H := hP
                have hD : va_D A [(hm0, .inr (9, [.int (zI S), .int (zI C), .int (zI Wy), .int (zI Li), .ref ml, .ref ms, .ref mw, .int (zI kn), .ref mi, .ref mk, .int (zI hz), .ref mh, .long tr, .ref mt, .int (zI tn), .int (zI q), .int (zI q), .int (zI 1), .int (zI 0), .int (zI wr), .int (zI it), .int (zI sS), .int (zI sC), .int (zI sL), .int (zI sW), .ref mq, .ref mn, .ref mc, .ref mr, .ref mb])), (mt, .inl (G.2.1, 200, .inl (aZ tf)))] := hD
                refine lv_aload_n hx hb dX9_next_216 rfl (lv_at hl 1 rfl) ?_
                refine lv_iload_n hx hb dX9_next_217 rfl (lv_at hl 0 rfl) ?_
                refine va_put (ci := 9) (v := .int (zI (lA tf tn q))) (ty := .int) (C := RX9) (T := TX9) (N := 30) hx hb hts i9 tyX9 tyX9_ok nmX9 hown hK hP hD hS 0 rfl rfl 18 (by decide) f77 (fun _ h9 => h9) rfl (tyX9_ok 18 (by decide)) rfl rfl (Nat.le_of_ble_eq_true rfl) dX9_next_218 (fun H locs hP hD hS => ?_)
                have hP : kP G [(hm0, .inr (9, [.int (zI S), .int (zI C), .int (zI Wy), .int (zI Li), .ref ml, .ref ms, .ref mw, .int (zI kn), .ref mi, .ref mk, .int (zI hz), .ref mh, .long tr, .ref mt, .int (zI tn), .int (zI q), .int (zI q), .int (zI 1), .int (zI (lA tf tn q)), .int (zI wr), .int (zI it), .int (zI sS), .int (zI sC), .int (zI sL), .int (zI sW), .ref mq, .ref mn, .ref mc, .ref mr, .ref mb])), (mt, .inl (G.2.1, 200, .inl (aZ tf)))] H := hP
                have hD : va_D A [(hm0, .inr (9, [.int (zI S), .int (zI C), .int (zI Wy), .int (zI Li), .ref ml, .ref ms, .ref mw, .int (zI kn), .ref mi, .ref mk, .int (zI hz), .ref mh, .long tr, .ref mt, .int (zI tn), .int (zI q), .int (zI q), .int (zI 1), .int (zI (lA tf tn q)), .int (zI wr), .int (zI it), .int (zI sS), .int (zI sC), .int (zI sL), .int (zI sW), .ref mq, .ref mn, .ref mc, .ref mr, .ref mb])), (mt, .inl (G.2.1, 200, .inl (aZ tf)))] := hD
                refine lv_aload_n hx hb dX9_next_221 rfl (lv_at hl 1 rfl) ?_
                refine lv_dup hx hb dX9_next_222 rfl ?_
                refine va_get (ci := 9) (v := .int (zI q)) (C := RX9) (T := TX9) (N := 30) hx hb hts i9 hown hK hP 0 rfl rfl 15 (by decide) f67 (fun _ h9 => h9) rfl dX9_next_223 ?_
                refine lv_iconst (v := zI 1) hx hb dX9_next_226 rfl ?_
                refine z_iadd hx hb dX9_next_227 ?_
                refine va_put (ci := 9) (v := .int (zI (q + 1))) (ty := .int) (C := RX9) (T := TX9) (N := 30) hx hb hts i9 tyX9 tyX9_ok nmX9 hown hK hP hD hS 0 rfl rfl 15 (by decide) f67 (fun _ h9 => h9) rfl (tyX9_ok 15 (by decide)) rfl rfl (Nat.le_of_ble_eq_true rfl) dX9_next_228 (fun H locs hP hD hS => ?_)
                have hP : kP G [(hm0, .inr (9, [.int (zI S), .int (zI C), .int (zI Wy), .int (zI Li), .ref ml, .ref ms, .ref mw, .int (zI kn), .ref mi, .ref mk, .int (zI hz), .ref mh, .long tr, .ref mt, .int (zI tn), .int (zI (q + 1)), .int (zI q), .int (zI 1), .int (zI (lA tf tn q)), .int (zI wr), .int (zI it), .int (zI sS), .int (zI sC), .int (zI sL), .int (zI sW), .ref mq, .ref mn, .ref mc, .ref mr, .ref mb])), (mt, .inl (G.2.1, 200, .inl (aZ tf)))] H := hP
                have hD : va_D A [(hm0, .inr (9, [.int (zI S), .int (zI C), .int (zI Wy), .int (zI Li), .ref ml, .ref ms, .ref mw, .int (zI kn), .ref mi, .ref mk, .int (zI hz), .ref mh, .long tr, .ref mt, .int (zI tn), .int (zI (q + 1)), .int (zI q), .int (zI 1), .int (zI (lA tf tn q)), .int (zI wr), .int (zI it), .int (zI sS), .int (zI sC), .int (zI sL), .int (zI sW), .ref mq, .ref mn, .ref mc, .ref mr, .ref mb])), (mt, .inl (G.2.1, 200, .inl (aZ tf)))] := hD
                exact hret H locs ls 231 (q + 1, q, 1, lA tf tn q) (by first | exact nxt1 hqe (by omega) | exact nxt3 hqe (by omega) (by omega) (by omega) (by omega) | exact nxt2 hqe hre (by omega) (by omega) hnv hnr (by omega)) hP hS dX9_next_231
              · refine lv_iload_n hx hb dX9_next_186 rfl (lv_at hl 0 rfl) ?_
                refine lv_bipush (v := zI 109) hx hb dX9_next_187 (by decide) ?_
                refine z_icmp_eq (tgt := 198) hx hb (by omega) dX9_next_189 (by decide) (fun c_8 => ?_) (fun c_8 => ?_)
                · refine lv_iconst (v := zI 1) hx hb dX9_next_198 rfl ?_
                  refine lv_goto (tgt := 213) hx hb dX9_next_199 (by decide) ?_
                  refine va_put (ci := 9) (v := .int (zI 1)) (ty := .int) (C := RX9) (T := TX9) (N := 30) hx hb hts i9 tyX9 tyX9_ok nmX9 hown hK hP hD hS 0 rfl rfl 17 (by decide) f80 (fun _ h9 => h9) rfl (tyX9_ok 17 (by decide)) rfl rfl (Nat.le_of_ble_eq_true rfl) dX9_next_213 (fun H locs hP hD hS => ?_)
                  have hP : kP G [(hm0, .inr (9, [.int (zI S), .int (zI C), .int (zI Wy), .int (zI Li), .ref ml, .ref ms, .ref mw, .int (zI kn), .ref mi, .ref mk, .int (zI hz), .ref mh, .long tr, .ref mt, .int (zI tn), .int (zI q), .int (zI q), .int (zI 1), .int (zI 0), .int (zI wr), .int (zI it), .int (zI sS), .int (zI sC), .int (zI sL), .int (zI sW), .ref mq, .ref mn, .ref mc, .ref mr, .ref mb])), (mt, .inl (G.2.1, 200, .inl (aZ tf)))] H := hP
                  have hD : va_D A [(hm0, .inr (9, [.int (zI S), .int (zI C), .int (zI Wy), .int (zI Li), .ref ml, .ref ms, .ref mw, .int (zI kn), .ref mi, .ref mk, .int (zI hz), .ref mh, .long tr, .ref mt, .int (zI tn), .int (zI q), .int (zI q), .int (zI 1), .int (zI 0), .int (zI wr), .int (zI it), .int (zI sS), .int (zI sC), .int (zI sL), .int (zI sW), .ref mq, .ref mn, .ref mc, .ref mr, .ref mb])), (mt, .inl (G.2.1, 200, .inl (aZ tf)))] := hD
                  refine lv_aload_n hx hb dX9_next_216 rfl (lv_at hl 1 rfl) ?_
                  refine lv_iload_n hx hb dX9_next_217 rfl (lv_at hl 0 rfl) ?_
                  refine va_put (ci := 9) (v := .int (zI (lA tf tn q))) (ty := .int) (C := RX9) (T := TX9) (N := 30) hx hb hts i9 tyX9 tyX9_ok nmX9 hown hK hP hD hS 0 rfl rfl 18 (by decide) f77 (fun _ h9 => h9) rfl (tyX9_ok 18 (by decide)) rfl rfl (Nat.le_of_ble_eq_true rfl) dX9_next_218 (fun H locs hP hD hS => ?_)
                  have hP : kP G [(hm0, .inr (9, [.int (zI S), .int (zI C), .int (zI Wy), .int (zI Li), .ref ml, .ref ms, .ref mw, .int (zI kn), .ref mi, .ref mk, .int (zI hz), .ref mh, .long tr, .ref mt, .int (zI tn), .int (zI q), .int (zI q), .int (zI 1), .int (zI (lA tf tn q)), .int (zI wr), .int (zI it), .int (zI sS), .int (zI sC), .int (zI sL), .int (zI sW), .ref mq, .ref mn, .ref mc, .ref mr, .ref mb])), (mt, .inl (G.2.1, 200, .inl (aZ tf)))] H := hP
                  have hD : va_D A [(hm0, .inr (9, [.int (zI S), .int (zI C), .int (zI Wy), .int (zI Li), .ref ml, .ref ms, .ref mw, .int (zI kn), .ref mi, .ref mk, .int (zI hz), .ref mh, .long tr, .ref mt, .int (zI tn), .int (zI q), .int (zI q), .int (zI 1), .int (zI (lA tf tn q)), .int (zI wr), .int (zI it), .int (zI sS), .int (zI sC), .int (zI sL), .int (zI sW), .ref mq, .ref mn, .ref mc, .ref mr, .ref mb])), (mt, .inl (G.2.1, 200, .inl (aZ tf)))] := hD
                  refine lv_aload_n hx hb dX9_next_221 rfl (lv_at hl 1 rfl) ?_
                  refine lv_dup hx hb dX9_next_222 rfl ?_
                  refine va_get (ci := 9) (v := .int (zI q)) (C := RX9) (T := TX9) (N := 30) hx hb hts i9 hown hK hP 0 rfl rfl 15 (by decide) f67 (fun _ h9 => h9) rfl dX9_next_223 ?_
                  refine lv_iconst (v := zI 1) hx hb dX9_next_226 rfl ?_
                  refine z_iadd hx hb dX9_next_227 ?_
                  refine va_put (ci := 9) (v := .int (zI (q + 1))) (ty := .int) (C := RX9) (T := TX9) (N := 30) hx hb hts i9 tyX9 tyX9_ok nmX9 hown hK hP hD hS 0 rfl rfl 15 (by decide) f67 (fun _ h9 => h9) rfl (tyX9_ok 15 (by decide)) rfl rfl (Nat.le_of_ble_eq_true rfl) dX9_next_228 (fun H locs hP hD hS => ?_)
                  have hP : kP G [(hm0, .inr (9, [.int (zI S), .int (zI C), .int (zI Wy), .int (zI Li), .ref ml, .ref ms, .ref mw, .int (zI kn), .ref mi, .ref mk, .int (zI hz), .ref mh, .long tr, .ref mt, .int (zI tn), .int (zI (q + 1)), .int (zI q), .int (zI 1), .int (zI (lA tf tn q)), .int (zI wr), .int (zI it), .int (zI sS), .int (zI sC), .int (zI sL), .int (zI sW), .ref mq, .ref mn, .ref mc, .ref mr, .ref mb])), (mt, .inl (G.2.1, 200, .inl (aZ tf)))] H := hP
                  have hD : va_D A [(hm0, .inr (9, [.int (zI S), .int (zI C), .int (zI Wy), .int (zI Li), .ref ml, .ref ms, .ref mw, .int (zI kn), .ref mi, .ref mk, .int (zI hz), .ref mh, .long tr, .ref mt, .int (zI tn), .int (zI (q + 1)), .int (zI q), .int (zI 1), .int (zI (lA tf tn q)), .int (zI wr), .int (zI it), .int (zI sS), .int (zI sC), .int (zI sL), .int (zI sW), .ref mq, .ref mn, .ref mc, .ref mr, .ref mb])), (mt, .inl (G.2.1, 200, .inl (aZ tf)))] := hD
                  exact hret H locs ls 231 (q + 1, q, 1, lA tf tn q) (by first | exact nxt1 hqe (by omega) | exact nxt3 hqe (by omega) (by omega) (by omega) (by omega) | exact nxt2 hqe hre (by omega) (by omega) hnv hnr (by omega)) hP hS dX9_next_231
                · refine lv_iload_n hx hb dX9_next_192 rfl (lv_at hl 0 rfl) ?_
                  refine lv_bipush (v := zI 98) hx hb dX9_next_193 (by decide) ?_
                  refine z_icmp_ne (tgt := 202) hx hb (by omega) dX9_next_195 (by decide) (fun c_9 => ?_) (fun c_9 => ?_)
                  · refine lv_iload_n hx hb dX9_next_202 rfl (lv_at hl 0 rfl) ?_
                    refine lv_bipush (v := zI 59) hx hb dX9_next_203 (by decide) ?_
                    refine z_icmp_ne (tgt := 212) hx hb (by omega) dX9_next_205 (by decide) (fun c_10 => ?_) (fun c_10 => ?_)
                    · refine lv_iconst (v := zI 4) hx hb dX9_next_212 rfl ?_
                      refine va_put (ci := 9) (v := .int (zI 4)) (ty := .int) (C := RX9) (T := TX9) (N := 30) hx hb hts i9 tyX9 tyX9_ok nmX9 hown hK hP hD hS 0 rfl rfl 17 (by decide) f80 (fun _ h9 => h9) rfl (tyX9_ok 17 (by decide)) rfl rfl (Nat.le_of_ble_eq_true rfl) dX9_next_213 (fun H locs hP hD hS => ?_)
                      have hP : kP G [(hm0, .inr (9, [.int (zI S), .int (zI C), .int (zI Wy), .int (zI Li), .ref ml, .ref ms, .ref mw, .int (zI kn), .ref mi, .ref mk, .int (zI hz), .ref mh, .long tr, .ref mt, .int (zI tn), .int (zI q), .int (zI q), .int (zI 4), .int (zI 0), .int (zI wr), .int (zI it), .int (zI sS), .int (zI sC), .int (zI sL), .int (zI sW), .ref mq, .ref mn, .ref mc, .ref mr, .ref mb])), (mt, .inl (G.2.1, 200, .inl (aZ tf)))] H := hP
                      have hD : va_D A [(hm0, .inr (9, [.int (zI S), .int (zI C), .int (zI Wy), .int (zI Li), .ref ml, .ref ms, .ref mw, .int (zI kn), .ref mi, .ref mk, .int (zI hz), .ref mh, .long tr, .ref mt, .int (zI tn), .int (zI q), .int (zI q), .int (zI 4), .int (zI 0), .int (zI wr), .int (zI it), .int (zI sS), .int (zI sC), .int (zI sL), .int (zI sW), .ref mq, .ref mn, .ref mc, .ref mr, .ref mb])), (mt, .inl (G.2.1, 200, .inl (aZ tf)))] := hD
                      refine lv_aload_n hx hb dX9_next_216 rfl (lv_at hl 1 rfl) ?_
                      refine lv_iload_n hx hb dX9_next_217 rfl (lv_at hl 0 rfl) ?_
                      refine va_put (ci := 9) (v := .int (zI (lA tf tn q))) (ty := .int) (C := RX9) (T := TX9) (N := 30) hx hb hts i9 tyX9 tyX9_ok nmX9 hown hK hP hD hS 0 rfl rfl 18 (by decide) f77 (fun _ h9 => h9) rfl (tyX9_ok 18 (by decide)) rfl rfl (Nat.le_of_ble_eq_true rfl) dX9_next_218 (fun H locs hP hD hS => ?_)
                      have hP : kP G [(hm0, .inr (9, [.int (zI S), .int (zI C), .int (zI Wy), .int (zI Li), .ref ml, .ref ms, .ref mw, .int (zI kn), .ref mi, .ref mk, .int (zI hz), .ref mh, .long tr, .ref mt, .int (zI tn), .int (zI q), .int (zI q), .int (zI 4), .int (zI (lA tf tn q)), .int (zI wr), .int (zI it), .int (zI sS), .int (zI sC), .int (zI sL), .int (zI sW), .ref mq, .ref mn, .ref mc, .ref mr, .ref mb])), (mt, .inl (G.2.1, 200, .inl (aZ tf)))] H := hP
                      have hD : va_D A [(hm0, .inr (9, [.int (zI S), .int (zI C), .int (zI Wy), .int (zI Li), .ref ml, .ref ms, .ref mw, .int (zI kn), .ref mi, .ref mk, .int (zI hz), .ref mh, .long tr, .ref mt, .int (zI tn), .int (zI q), .int (zI q), .int (zI 4), .int (zI (lA tf tn q)), .int (zI wr), .int (zI it), .int (zI sS), .int (zI sC), .int (zI sL), .int (zI sW), .ref mq, .ref mn, .ref mc, .ref mr, .ref mb])), (mt, .inl (G.2.1, 200, .inl (aZ tf)))] := hD
                      refine lv_aload_n hx hb dX9_next_221 rfl (lv_at hl 1 rfl) ?_
                      refine lv_dup hx hb dX9_next_222 rfl ?_
                      refine va_get (ci := 9) (v := .int (zI q)) (C := RX9) (T := TX9) (N := 30) hx hb hts i9 hown hK hP 0 rfl rfl 15 (by decide) f67 (fun _ h9 => h9) rfl dX9_next_223 ?_
                      refine lv_iconst (v := zI 1) hx hb dX9_next_226 rfl ?_
                      refine z_iadd hx hb dX9_next_227 ?_
                      refine va_put (ci := 9) (v := .int (zI (q + 1))) (ty := .int) (C := RX9) (T := TX9) (N := 30) hx hb hts i9 tyX9 tyX9_ok nmX9 hown hK hP hD hS 0 rfl rfl 15 (by decide) f67 (fun _ h9 => h9) rfl (tyX9_ok 15 (by decide)) rfl rfl (Nat.le_of_ble_eq_true rfl) dX9_next_228 (fun H locs hP hD hS => ?_)
                      have hP : kP G [(hm0, .inr (9, [.int (zI S), .int (zI C), .int (zI Wy), .int (zI Li), .ref ml, .ref ms, .ref mw, .int (zI kn), .ref mi, .ref mk, .int (zI hz), .ref mh, .long tr, .ref mt, .int (zI tn), .int (zI (q + 1)), .int (zI q), .int (zI 4), .int (zI (lA tf tn q)), .int (zI wr), .int (zI it), .int (zI sS), .int (zI sC), .int (zI sL), .int (zI sW), .ref mq, .ref mn, .ref mc, .ref mr, .ref mb])), (mt, .inl (G.2.1, 200, .inl (aZ tf)))] H := hP
                      have hD : va_D A [(hm0, .inr (9, [.int (zI S), .int (zI C), .int (zI Wy), .int (zI Li), .ref ml, .ref ms, .ref mw, .int (zI kn), .ref mi, .ref mk, .int (zI hz), .ref mh, .long tr, .ref mt, .int (zI tn), .int (zI (q + 1)), .int (zI q), .int (zI 4), .int (zI (lA tf tn q)), .int (zI wr), .int (zI it), .int (zI sS), .int (zI sC), .int (zI sL), .int (zI sW), .ref mq, .ref mn, .ref mc, .ref mr, .ref mb])), (mt, .inl (G.2.1, 200, .inl (aZ tf)))] := hD
                      exact hret H locs ls 231 (q + 1, q, 4, lA tf tn q) (by first | exact nxt1 hqe (by omega) | exact nxt3 hqe (by omega) (by omega) (by omega) (by omega) | exact nxt2 hqe hre (by omega) (by omega) hnv hnr (by omega)) hP hS dX9_next_231
                    · refine lv_iconst (v := zI 3) hx hb dX9_next_208 rfl ?_
                      refine lv_goto (tgt := 213) hx hb dX9_next_209 (by decide) ?_
                      refine va_put (ci := 9) (v := .int (zI 3)) (ty := .int) (C := RX9) (T := TX9) (N := 30) hx hb hts i9 tyX9 tyX9_ok nmX9 hown hK hP hD hS 0 rfl rfl 17 (by decide) f80 (fun _ h9 => h9) rfl (tyX9_ok 17 (by decide)) rfl rfl (Nat.le_of_ble_eq_true rfl) dX9_next_213 (fun H locs hP hD hS => ?_)
                      have hP : kP G [(hm0, .inr (9, [.int (zI S), .int (zI C), .int (zI Wy), .int (zI Li), .ref ml, .ref ms, .ref mw, .int (zI kn), .ref mi, .ref mk, .int (zI hz), .ref mh, .long tr, .ref mt, .int (zI tn), .int (zI q), .int (zI q), .int (zI 3), .int (zI 0), .int (zI wr), .int (zI it), .int (zI sS), .int (zI sC), .int (zI sL), .int (zI sW), .ref mq, .ref mn, .ref mc, .ref mr, .ref mb])), (mt, .inl (G.2.1, 200, .inl (aZ tf)))] H := hP
                      have hD : va_D A [(hm0, .inr (9, [.int (zI S), .int (zI C), .int (zI Wy), .int (zI Li), .ref ml, .ref ms, .ref mw, .int (zI kn), .ref mi, .ref mk, .int (zI hz), .ref mh, .long tr, .ref mt, .int (zI tn), .int (zI q), .int (zI q), .int (zI 3), .int (zI 0), .int (zI wr), .int (zI it), .int (zI sS), .int (zI sC), .int (zI sL), .int (zI sW), .ref mq, .ref mn, .ref mc, .ref mr, .ref mb])), (mt, .inl (G.2.1, 200, .inl (aZ tf)))] := hD
                      refine lv_aload_n hx hb dX9_next_216 rfl (lv_at hl 1 rfl) ?_
                      refine lv_iload_n hx hb dX9_next_217 rfl (lv_at hl 0 rfl) ?_
                      refine va_put (ci := 9) (v := .int (zI (lA tf tn q))) (ty := .int) (C := RX9) (T := TX9) (N := 30) hx hb hts i9 tyX9 tyX9_ok nmX9 hown hK hP hD hS 0 rfl rfl 18 (by decide) f77 (fun _ h9 => h9) rfl (tyX9_ok 18 (by decide)) rfl rfl (Nat.le_of_ble_eq_true rfl) dX9_next_218 (fun H locs hP hD hS => ?_)
                      have hP : kP G [(hm0, .inr (9, [.int (zI S), .int (zI C), .int (zI Wy), .int (zI Li), .ref ml, .ref ms, .ref mw, .int (zI kn), .ref mi, .ref mk, .int (zI hz), .ref mh, .long tr, .ref mt, .int (zI tn), .int (zI q), .int (zI q), .int (zI 3), .int (zI (lA tf tn q)), .int (zI wr), .int (zI it), .int (zI sS), .int (zI sC), .int (zI sL), .int (zI sW), .ref mq, .ref mn, .ref mc, .ref mr, .ref mb])), (mt, .inl (G.2.1, 200, .inl (aZ tf)))] H := hP
                      have hD : va_D A [(hm0, .inr (9, [.int (zI S), .int (zI C), .int (zI Wy), .int (zI Li), .ref ml, .ref ms, .ref mw, .int (zI kn), .ref mi, .ref mk, .int (zI hz), .ref mh, .long tr, .ref mt, .int (zI tn), .int (zI q), .int (zI q), .int (zI 3), .int (zI (lA tf tn q)), .int (zI wr), .int (zI it), .int (zI sS), .int (zI sC), .int (zI sL), .int (zI sW), .ref mq, .ref mn, .ref mc, .ref mr, .ref mb])), (mt, .inl (G.2.1, 200, .inl (aZ tf)))] := hD
                      refine lv_aload_n hx hb dX9_next_221 rfl (lv_at hl 1 rfl) ?_
                      refine lv_dup hx hb dX9_next_222 rfl ?_
                      refine va_get (ci := 9) (v := .int (zI q)) (C := RX9) (T := TX9) (N := 30) hx hb hts i9 hown hK hP 0 rfl rfl 15 (by decide) f67 (fun _ h9 => h9) rfl dX9_next_223 ?_
                      refine lv_iconst (v := zI 1) hx hb dX9_next_226 rfl ?_
                      refine z_iadd hx hb dX9_next_227 ?_
                      refine va_put (ci := 9) (v := .int (zI (q + 1))) (ty := .int) (C := RX9) (T := TX9) (N := 30) hx hb hts i9 tyX9 tyX9_ok nmX9 hown hK hP hD hS 0 rfl rfl 15 (by decide) f67 (fun _ h9 => h9) rfl (tyX9_ok 15 (by decide)) rfl rfl (Nat.le_of_ble_eq_true rfl) dX9_next_228 (fun H locs hP hD hS => ?_)
                      have hP : kP G [(hm0, .inr (9, [.int (zI S), .int (zI C), .int (zI Wy), .int (zI Li), .ref ml, .ref ms, .ref mw, .int (zI kn), .ref mi, .ref mk, .int (zI hz), .ref mh, .long tr, .ref mt, .int (zI tn), .int (zI (q + 1)), .int (zI q), .int (zI 3), .int (zI (lA tf tn q)), .int (zI wr), .int (zI it), .int (zI sS), .int (zI sC), .int (zI sL), .int (zI sW), .ref mq, .ref mn, .ref mc, .ref mr, .ref mb])), (mt, .inl (G.2.1, 200, .inl (aZ tf)))] H := hP
                      have hD : va_D A [(hm0, .inr (9, [.int (zI S), .int (zI C), .int (zI Wy), .int (zI Li), .ref ml, .ref ms, .ref mw, .int (zI kn), .ref mi, .ref mk, .int (zI hz), .ref mh, .long tr, .ref mt, .int (zI tn), .int (zI (q + 1)), .int (zI q), .int (zI 3), .int (zI (lA tf tn q)), .int (zI wr), .int (zI it), .int (zI sS), .int (zI sC), .int (zI sL), .int (zI sW), .ref mq, .ref mn, .ref mc, .ref mr, .ref mb])), (mt, .inl (G.2.1, 200, .inl (aZ tf)))] := hD
                      exact hret H locs ls 231 (q + 1, q, 3, lA tf tn q) (by first | exact nxt1 hqe (by omega) | exact nxt3 hqe (by omega) (by omega) (by omega) (by omega) | exact nxt2 hqe hre (by omega) (by omega) hnv hnr (by omega)) hP hS dX9_next_231
                  · refine lv_iconst (v := zI 1) hx hb dX9_next_198 rfl ?_
                    refine lv_goto (tgt := 213) hx hb dX9_next_199 (by decide) ?_
                    refine va_put (ci := 9) (v := .int (zI 1)) (ty := .int) (C := RX9) (T := TX9) (N := 30) hx hb hts i9 tyX9 tyX9_ok nmX9 hown hK hP hD hS 0 rfl rfl 17 (by decide) f80 (fun _ h9 => h9) rfl (tyX9_ok 17 (by decide)) rfl rfl (Nat.le_of_ble_eq_true rfl) dX9_next_213 (fun H locs hP hD hS => ?_)
                    have hP : kP G [(hm0, .inr (9, [.int (zI S), .int (zI C), .int (zI Wy), .int (zI Li), .ref ml, .ref ms, .ref mw, .int (zI kn), .ref mi, .ref mk, .int (zI hz), .ref mh, .long tr, .ref mt, .int (zI tn), .int (zI q), .int (zI q), .int (zI 1), .int (zI 0), .int (zI wr), .int (zI it), .int (zI sS), .int (zI sC), .int (zI sL), .int (zI sW), .ref mq, .ref mn, .ref mc, .ref mr, .ref mb])), (mt, .inl (G.2.1, 200, .inl (aZ tf)))] H := hP
                    have hD : va_D A [(hm0, .inr (9, [.int (zI S), .int (zI C), .int (zI Wy), .int (zI Li), .ref ml, .ref ms, .ref mw, .int (zI kn), .ref mi, .ref mk, .int (zI hz), .ref mh, .long tr, .ref mt, .int (zI tn), .int (zI q), .int (zI q), .int (zI 1), .int (zI 0), .int (zI wr), .int (zI it), .int (zI sS), .int (zI sC), .int (zI sL), .int (zI sW), .ref mq, .ref mn, .ref mc, .ref mr, .ref mb])), (mt, .inl (G.2.1, 200, .inl (aZ tf)))] := hD
                    refine lv_aload_n hx hb dX9_next_216 rfl (lv_at hl 1 rfl) ?_
                    refine lv_iload_n hx hb dX9_next_217 rfl (lv_at hl 0 rfl) ?_
                    refine va_put (ci := 9) (v := .int (zI (lA tf tn q))) (ty := .int) (C := RX9) (T := TX9) (N := 30) hx hb hts i9 tyX9 tyX9_ok nmX9 hown hK hP hD hS 0 rfl rfl 18 (by decide) f77 (fun _ h9 => h9) rfl (tyX9_ok 18 (by decide)) rfl rfl (Nat.le_of_ble_eq_true rfl) dX9_next_218 (fun H locs hP hD hS => ?_)
                    have hP : kP G [(hm0, .inr (9, [.int (zI S), .int (zI C), .int (zI Wy), .int (zI Li), .ref ml, .ref ms, .ref mw, .int (zI kn), .ref mi, .ref mk, .int (zI hz), .ref mh, .long tr, .ref mt, .int (zI tn), .int (zI q), .int (zI q), .int (zI 1), .int (zI (lA tf tn q)), .int (zI wr), .int (zI it), .int (zI sS), .int (zI sC), .int (zI sL), .int (zI sW), .ref mq, .ref mn, .ref mc, .ref mr, .ref mb])), (mt, .inl (G.2.1, 200, .inl (aZ tf)))] H := hP
                    have hD : va_D A [(hm0, .inr (9, [.int (zI S), .int (zI C), .int (zI Wy), .int (zI Li), .ref ml, .ref ms, .ref mw, .int (zI kn), .ref mi, .ref mk, .int (zI hz), .ref mh, .long tr, .ref mt, .int (zI tn), .int (zI q), .int (zI q), .int (zI 1), .int (zI (lA tf tn q)), .int (zI wr), .int (zI it), .int (zI sS), .int (zI sC), .int (zI sL), .int (zI sW), .ref mq, .ref mn, .ref mc, .ref mr, .ref mb])), (mt, .inl (G.2.1, 200, .inl (aZ tf)))] := hD
                    refine lv_aload_n hx hb dX9_next_221 rfl (lv_at hl 1 rfl) ?_
                    refine lv_dup hx hb dX9_next_222 rfl ?_
                    refine va_get (ci := 9) (v := .int (zI q)) (C := RX9) (T := TX9) (N := 30) hx hb hts i9 hown hK hP 0 rfl rfl 15 (by decide) f67 (fun _ h9 => h9) rfl dX9_next_223 ?_
                    refine lv_iconst (v := zI 1) hx hb dX9_next_226 rfl ?_
                    refine z_iadd hx hb dX9_next_227 ?_
                    refine va_put (ci := 9) (v := .int (zI (q + 1))) (ty := .int) (C := RX9) (T := TX9) (N := 30) hx hb hts i9 tyX9 tyX9_ok nmX9 hown hK hP hD hS 0 rfl rfl 15 (by decide) f67 (fun _ h9 => h9) rfl (tyX9_ok 15 (by decide)) rfl rfl (Nat.le_of_ble_eq_true rfl) dX9_next_228 (fun H locs hP hD hS => ?_)
                    have hP : kP G [(hm0, .inr (9, [.int (zI S), .int (zI C), .int (zI Wy), .int (zI Li), .ref ml, .ref ms, .ref mw, .int (zI kn), .ref mi, .ref mk, .int (zI hz), .ref mh, .long tr, .ref mt, .int (zI tn), .int (zI (q + 1)), .int (zI q), .int (zI 1), .int (zI (lA tf tn q)), .int (zI wr), .int (zI it), .int (zI sS), .int (zI sC), .int (zI sL), .int (zI sW), .ref mq, .ref mn, .ref mc, .ref mr, .ref mb])), (mt, .inl (G.2.1, 200, .inl (aZ tf)))] H := hP
                    have hD : va_D A [(hm0, .inr (9, [.int (zI S), .int (zI C), .int (zI Wy), .int (zI Li), .ref ml, .ref ms, .ref mw, .int (zI kn), .ref mi, .ref mk, .int (zI hz), .ref mh, .long tr, .ref mt, .int (zI tn), .int (zI (q + 1)), .int (zI q), .int (zI 1), .int (zI (lA tf tn q)), .int (zI wr), .int (zI it), .int (zI sS), .int (zI sC), .int (zI sL), .int (zI sW), .ref mq, .ref mn, .ref mc, .ref mr, .ref mb])), (mt, .inl (G.2.1, 200, .inl (aZ tf)))] := hD
                    exact hret H locs ls 231 (q + 1, q, 1, lA tf tn q) (by first | exact nxt1 hqe (by omega) | exact nxt3 hqe (by omega) (by omega) (by omega) (by omega) | exact nxt2 hqe hre (by omega) (by omega) hnv hnr (by omega)) hP hS dX9_next_231
          · have loop67 : ∀ (n_ : Nat) (r : Int) (nv : Int) (H : Heap) (locs : List Loc) (ls : Array Slot), (q ≤ r ∧ r ≤ tn) → (dgZ tf tn r = dgZ tf tn q) → (nv = mvZ tf q (r - q).toNat) → (0 ≤ nv ∧ nv ≤ 999) → (tn - r).toNat < n_ → kP G [(hm0, .inr (9, [.int (zI S), .int (zI C), .int (zI Wy), .int (zI Li), .ref ml, .ref ms, .ref mw, .int (zI kn), .ref mi, .ref mk, .int (zI hz), .ref mh, .long tr, .ref mt, .int (zI tn), .int (zI r), .int (zI q), .int (zI to), .int (zI nv), .int (zI wr), .int (zI it), .int (zI sS), .int (zI sC), .int (zI sL), .int (zI sW), .ref mq, .ref mn, .ref mc, .ref mr, .ref mb])), (mt, .inl (G.2.1, 200, .inl (aZ tf)))] H → va_D A [(hm0, .inr (9, [.int (zI S), .int (zI C), .int (zI Wy), .int (zI Li), .ref ml, .ref ms, .ref mw, .int (zI kn), .ref mi, .ref mk, .int (zI hz), .ref mh, .long tr, .ref mt, .int (zI tn), .int (zI r), .int (zI q), .int (zI to), .int (zI nv), .int (zI wr), .int (zI it), .int (zI sS), .int (zI sC), .int (zI sL), .int (zI sW), .ref mq, .ref mn, .ref mc, .ref mr, .ref mb])), (mt, .inl (G.2.1, 200, .inl (aZ tf)))] → va_S A s.heap H locs → lv_has ls 2 [(1, .int (zI (lA tf tn q))), (0, .ref hm0)] → W p l e rmX9_next s m ([.ref hm0] : List Value).toArray below meth c H locs 0 0 Q (F0 m 67 ls []) := by
              intro n_
              induction n_ with
              | zero =>
                intro r nv H locs ls hr hdg hnv hnr hm
                exact absurd hm (Nat.not_lt_zero _)
              | succ n_ ih67 =>
                intro r nv H locs ls hr hdg hnv hnr hm67 hP hD hS hl
                refine lv_aload_n hx hb dX9_next_67 rfl (lv_at hl 1 rfl) ?_
                refine lv_aload_n hx hb dX9_next_68 rfl (lv_at hl 1 rfl) ?_
                refine va_get (ci := 9) (v := .int (zI r)) (C := RX9) (T := TX9) (N := 30) hx hb hts i9 hown hK hP 0 rfl rfl 15 (by decide) f67 (fun _ h9 => h9) rfl dX9_next_69 ?_
                refine z_cV (As := [.int (zI r)]) (rest := []) ⟨hx, hb, hml, hown, hts⟩ (c_X9_letterAt l G hm0 S C Wy Li ml ms mw kn mi mk hz mh tr mt tn r q to nv wr it sS sC sL sW mq mn mc mr mb tf r (by first | assumption | omega) (by first | assumption | omega) (by first | assumption | omega)) (cwV 1 hts gX9_next_X9_letterAt rfl rfl rfl pd_X9_letterAt ⟨(Nat.le_of_ble_eq_true rfl), (Nat.le_of_ble_eq_true rfl)⟩) hK hP hS [0, 1] rfl rfl rfl rfl rfl hl.1 rfl (Nat.le_of_ble_eq_true rfl) dX9_next_72 ⟨Nat.zero_le _, Nat.zero_le _⟩ (fun H locs hP hS => ?_)
                have hq_11 := lA_rng (f := tf) (n := tn) (k := r) (by omega) ((by first | assumption | omega))
                refine z_cS (As := [.int (zI (lA tf tn r))]) (rest := []) ⟨hx, hb, hml, hown, hts⟩ (c_X9_isFigure l G (lA tf tn r) (by first | assumption | omega)) (va_cwS 1 hts gX9_next_X9_isFigure rfl rfl rfl pd_X9_isFigure.2 ⟨(Nat.le_of_ble_eq_true rfl), (Nat.le_of_ble_eq_true rfl)⟩) hK hP hS [] rfl rfl hl.1 rfl (Nat.le_of_ble_eq_true rfl) dX9_next_75 ⟨Nat.zero_le _, Nat.zero_le _⟩ (fun H locs hP hS => ?_)
                refine z_ifeq_b (tgt := 133) hx hb dX9_next_78 (by decide) (fun c_12 => ?_) (fun c_12 => ?_)
                · have hre : dgZ tf tn q = r := by rw [← hdg]; exact dgE_stop (by omega)
                  have hqr : q < r := by rcases (show q = r ∨ q < r by omega) with e | e; (exfalso; subst e; omega); exact e
                  refine lv_aload_n hx hb dX9_next_133 rfl (lv_at hl 1 rfl) ?_
                  refine lv_aload_n hx hb dX9_next_134 rfl (lv_at hl 1 rfl) ?_
                  refine va_get (ci := 9) (v := .int (zI nv)) (C := RX9) (T := TX9) (N := 30) hx hb hts i9 hown hK hP 0 rfl rfl 18 (by decide) f77 (fun _ h9 => h9) rfl dX9_next_135 ?_
                  refine lv_bipush (v := zI 99) hx hb dX9_next_138 (by decide) ?_
                  refine z_icmp_gt (tgt := 162) hx hb (by omega) dX9_next_140 (by decide) (fun c_13 => ?_) (fun c_13 => ?_)
                  · refine lv_iconst (v := zI 4) hx hb dX9_next_162 rfl ?_
                    refine lv_goto (tgt := 167) hx hb dX9_next_163 (by decide) ?_
                    refine va_put (ci := 9) (v := .int (zI 4)) (ty := .int) (C := RX9) (T := TX9) (N := 30) hx hb hts i9 tyX9 tyX9_ok nmX9 hown hK hP hD hS 0 rfl rfl 17 (by decide) f80 (fun _ h9 => h9) rfl (tyX9_ok 17 (by decide)) rfl rfl (Nat.le_of_ble_eq_true rfl) dX9_next_167 (fun H locs hP hD hS => ?_)
                    have hP : kP G [(hm0, .inr (9, [.int (zI S), .int (zI C), .int (zI Wy), .int (zI Li), .ref ml, .ref ms, .ref mw, .int (zI kn), .ref mi, .ref mk, .int (zI hz), .ref mh, .long tr, .ref mt, .int (zI tn), .int (zI r), .int (zI q), .int (zI 4), .int (zI nv), .int (zI wr), .int (zI it), .int (zI sS), .int (zI sC), .int (zI sL), .int (zI sW), .ref mq, .ref mn, .ref mc, .ref mr, .ref mb])), (mt, .inl (G.2.1, 200, .inl (aZ tf)))] H := hP
                    have hD : va_D A [(hm0, .inr (9, [.int (zI S), .int (zI C), .int (zI Wy), .int (zI Li), .ref ml, .ref ms, .ref mw, .int (zI kn), .ref mi, .ref mk, .int (zI hz), .ref mh, .long tr, .ref mt, .int (zI tn), .int (zI r), .int (zI q), .int (zI 4), .int (zI nv), .int (zI wr), .int (zI it), .int (zI sS), .int (zI sC), .int (zI sL), .int (zI sW), .ref mq, .ref mn, .ref mc, .ref mr, .ref mb])), (mt, .inl (G.2.1, 200, .inl (aZ tf)))] := hD
                    refine lv_goto (tgt := 231) hx hb dX9_next_170 (by decide) ?_
                    exact hret H locs ls 231 (r, q, 4, nv) (by first | exact nxt1 hqe (by omega) | exact nxt3 hqe (by omega) (by omega) (by omega) (by omega) | exact nxt2 hqe hre (by omega) (by omega) hnv hnr (by omega)) hP hS dX9_next_231
                  · refine lv_iload_n hx hb dX9_next_143 rfl (lv_at hl 0 rfl) ?_
                    refine lv_bipush (v := zI 48) hx hb dX9_next_144 (by decide) ?_
                    refine z_icmp_ne (tgt := 166) hx hb (by omega) dX9_next_146 (by decide) (fun c_14 => ?_) (fun c_14 => ?_)
                    · refine lv_iconst (v := zI 2) hx hb dX9_next_166 rfl ?_
                      refine va_put (ci := 9) (v := .int (zI 2)) (ty := .int) (C := RX9) (T := TX9) (N := 30) hx hb hts i9 tyX9 tyX9_ok nmX9 hown hK hP hD hS 0 rfl rfl 17 (by decide) f80 (fun _ h9 => h9) rfl (tyX9_ok 17 (by decide)) rfl rfl (Nat.le_of_ble_eq_true rfl) dX9_next_167 (fun H locs hP hD hS => ?_)
                      have hP : kP G [(hm0, .inr (9, [.int (zI S), .int (zI C), .int (zI Wy), .int (zI Li), .ref ml, .ref ms, .ref mw, .int (zI kn), .ref mi, .ref mk, .int (zI hz), .ref mh, .long tr, .ref mt, .int (zI tn), .int (zI r), .int (zI q), .int (zI 2), .int (zI nv), .int (zI wr), .int (zI it), .int (zI sS), .int (zI sC), .int (zI sL), .int (zI sW), .ref mq, .ref mn, .ref mc, .ref mr, .ref mb])), (mt, .inl (G.2.1, 200, .inl (aZ tf)))] H := hP
                      have hD : va_D A [(hm0, .inr (9, [.int (zI S), .int (zI C), .int (zI Wy), .int (zI Li), .ref ml, .ref ms, .ref mw, .int (zI kn), .ref mi, .ref mk, .int (zI hz), .ref mh, .long tr, .ref mt, .int (zI tn), .int (zI r), .int (zI q), .int (zI 2), .int (zI nv), .int (zI wr), .int (zI it), .int (zI sS), .int (zI sC), .int (zI sL), .int (zI sW), .ref mq, .ref mn, .ref mc, .ref mr, .ref mb])), (mt, .inl (G.2.1, 200, .inl (aZ tf)))] := hD
                      refine lv_goto (tgt := 231) hx hb dX9_next_170 (by decide) ?_
                      exact hret H locs ls 231 (r, q, 2, nv) (by first | exact nxt1 hqe (by omega) | exact nxt3 hqe (by omega) (by omega) (by omega) (by omega) | exact nxt2 hqe hre (by omega) (by omega) hnv hnr (by omega)) hP hS dX9_next_231
                    · refine lv_aload_n hx hb dX9_next_149 rfl (lv_at hl 1 rfl) ?_
                      refine va_get (ci := 9) (v := .int (zI r)) (C := RX9) (T := TX9) (N := 30) hx hb hts i9 hown hK hP 0 rfl rfl 15 (by decide) f67 (fun _ h9 => h9) rfl dX9_next_150 ?_
                      refine lv_aload_n hx hb dX9_next_153 rfl (lv_at hl 1 rfl) ?_
                      refine va_get (ci := 9) (v := .int (zI q)) (C := RX9) (T := TX9) (N := 30) hx hb hts i9 hown hK hP 0 rfl rfl 16 (by decide) f74 (fun _ h9 => h9) rfl dX9_next_154 ?_
                      refine z_isub hx hb dX9_next_157 ?_
                      refine lv_iconst (v := zI 1) hx hb dX9_next_158 rfl ?_
                      refine z_icmp_le (tgt := 166) hx hb (by omega) dX9_next_159 (by decide) (fun c_15 => ?_) (fun c_15 => ?_)
                      · refine lv_iconst (v := zI 2) hx hb dX9_next_166 rfl ?_
                        refine va_put (ci := 9) (v := .int (zI 2)) (ty := .int) (C := RX9) (T := TX9) (N := 30) hx hb hts i9 tyX9 tyX9_ok nmX9 hown hK hP hD hS 0 rfl rfl 17 (by decide) f80 (fun _ h9 => h9) rfl (tyX9_ok 17 (by decide)) rfl rfl (Nat.le_of_ble_eq_true rfl) dX9_next_167 (fun H locs hP hD hS => ?_)
                        have hP : kP G [(hm0, .inr (9, [.int (zI S), .int (zI C), .int (zI Wy), .int (zI Li), .ref ml, .ref ms, .ref mw, .int (zI kn), .ref mi, .ref mk, .int (zI hz), .ref mh, .long tr, .ref mt, .int (zI tn), .int (zI r), .int (zI q), .int (zI 2), .int (zI nv), .int (zI wr), .int (zI it), .int (zI sS), .int (zI sC), .int (zI sL), .int (zI sW), .ref mq, .ref mn, .ref mc, .ref mr, .ref mb])), (mt, .inl (G.2.1, 200, .inl (aZ tf)))] H := hP
                        have hD : va_D A [(hm0, .inr (9, [.int (zI S), .int (zI C), .int (zI Wy), .int (zI Li), .ref ml, .ref ms, .ref mw, .int (zI kn), .ref mi, .ref mk, .int (zI hz), .ref mh, .long tr, .ref mt, .int (zI tn), .int (zI r), .int (zI q), .int (zI 2), .int (zI nv), .int (zI wr), .int (zI it), .int (zI sS), .int (zI sC), .int (zI sL), .int (zI sW), .ref mq, .ref mn, .ref mc, .ref mr, .ref mb])), (mt, .inl (G.2.1, 200, .inl (aZ tf)))] := hD
                        refine lv_goto (tgt := 231) hx hb dX9_next_170 (by decide) ?_
                        exact hret H locs ls 231 (r, q, 2, nv) (by first | exact nxt1 hqe (by omega) | exact nxt3 hqe (by omega) (by omega) (by omega) (by omega) | exact nxt2 hqe hre (by omega) (by omega) hnv hnr (by omega)) hP hS dX9_next_231
                      · refine lv_iconst (v := zI 4) hx hb dX9_next_162 rfl ?_
                        refine lv_goto (tgt := 167) hx hb dX9_next_163 (by decide) ?_
                        refine va_put (ci := 9) (v := .int (zI 4)) (ty := .int) (C := RX9) (T := TX9) (N := 30) hx hb hts i9 tyX9 tyX9_ok nmX9 hown hK hP hD hS 0 rfl rfl 17 (by decide) f80 (fun _ h9 => h9) rfl (tyX9_ok 17 (by decide)) rfl rfl (Nat.le_of_ble_eq_true rfl) dX9_next_167 (fun H locs hP hD hS => ?_)
                        have hP : kP G [(hm0, .inr (9, [.int (zI S), .int (zI C), .int (zI Wy), .int (zI Li), .ref ml, .ref ms, .ref mw, .int (zI kn), .ref mi, .ref mk, .int (zI hz), .ref mh, .long tr, .ref mt, .int (zI tn), .int (zI r), .int (zI q), .int (zI 4), .int (zI nv), .int (zI wr), .int (zI it), .int (zI sS), .int (zI sC), .int (zI sL), .int (zI sW), .ref mq, .ref mn, .ref mc, .ref mr, .ref mb])), (mt, .inl (G.2.1, 200, .inl (aZ tf)))] H := hP
                        have hD : va_D A [(hm0, .inr (9, [.int (zI S), .int (zI C), .int (zI Wy), .int (zI Li), .ref ml, .ref ms, .ref mw, .int (zI kn), .ref mi, .ref mk, .int (zI hz), .ref mh, .long tr, .ref mt, .int (zI tn), .int (zI r), .int (zI q), .int (zI 4), .int (zI nv), .int (zI wr), .int (zI it), .int (zI sS), .int (zI sC), .int (zI sL), .int (zI sW), .ref mq, .ref mn, .ref mc, .ref mr, .ref mb])), (mt, .inl (G.2.1, 200, .inl (aZ tf)))] := hD
                        refine lv_goto (tgt := 231) hx hb dX9_next_170 (by decide) ?_
                        exact hret H locs ls 231 (r, q, 4, nv) (by first | exact nxt1 hqe (by omega) | exact nxt3 hqe (by omega) (by omega) (by omega) (by omega) | exact nxt2 hqe hre (by omega) (by omega) hnv hnr (by omega)) hP hS dX9_next_231
                · refine lv_aload_n hx hb dX9_next_81 rfl (lv_at hl 1 rfl) ?_
                  refine lv_aload_n hx hb dX9_next_82 rfl (lv_at hl 1 rfl) ?_
                  refine va_get (ci := 9) (v := .int (zI nv)) (C := RX9) (T := TX9) (N := 30) hx hb hts i9 hown hK hP 0 rfl rfl 18 (by decide) f77 (fun _ h9 => h9) rfl dX9_next_83 ?_
                  refine lv_bipush (v := zI 99) hx hb dX9_next_86 (by decide) ?_
                  refine z_icmp_le (tgt := 98) hx hb (by omega) dX9_next_88 (by decide) (fun c_16 => ?_) (fun c_16 => ?_)
                  · refine lv_bipush (v := zI 10) hx hb dX9_next_98 (by decide) ?_
                    refine lv_aload_n hx hb dX9_next_100 rfl (lv_at hl 1 rfl) ?_
                    refine va_get (ci := 9) (v := .int (zI nv)) (C := RX9) (T := TX9) (N := 30) hx hb hts i9 hown hK hP 0 rfl rfl 18 (by decide) f77 (fun _ h9 => h9) rfl dX9_next_101 ?_
                    refine z_imul hx hb dX9_next_104 ?_
                    refine lv_aload_n hx hb dX9_next_105 rfl (lv_at hl 1 rfl) ?_
                    refine lv_aload_n hx hb dX9_next_106 rfl (lv_at hl 1 rfl) ?_
                    refine va_get (ci := 9) (v := .int (zI r)) (C := RX9) (T := TX9) (N := 30) hx hb hts i9 hown hK hP 0 rfl rfl 15 (by decide) f67 (fun _ h9 => h9) rfl dX9_next_107 ?_
                    refine z_cV (As := [.int (zI r)]) (rest := [.int (zI (10 * nv)), .ref hm0]) ⟨hx, hb, hml, hown, hts⟩ (c_X9_letterAt l G hm0 S C Wy Li ml ms mw kn mi mk hz mh tr mt tn r q to nv wr it sS sC sL sW mq mn mc mr mb tf r (by first | assumption | omega) (by first | assumption | omega) (by first | assumption | omega)) (cwV 1 hts gX9_next_X9_letterAt rfl rfl rfl pd_X9_letterAt ⟨(Nat.le_of_ble_eq_true rfl), (Nat.le_of_ble_eq_true rfl)⟩) hK hP hS [0, 1] rfl rfl rfl rfl rfl hl.1 rfl (Nat.le_of_ble_eq_true rfl) dX9_next_110 ⟨Nat.zero_le _, Nat.zero_le _⟩ (fun H locs hP hS => ?_)
                    have hq_17 := lA_rng (f := tf) (n := tn) (k := r) (by omega) ((by first | assumption | omega))
                    refine z_iadd hx hb dX9_next_113 ?_
                    refine lv_bipush (v := zI 48) hx hb dX9_next_114 (by decide) ?_
                    refine z_isub hx hb dX9_next_116 ?_
                    refine va_put (ci := 9) (v := .int (zI (((10 * nv) + (lA tf tn r)) - 48))) (ty := .int) (C := RX9) (T := TX9) (N := 30) hx hb hts i9 tyX9 tyX9_ok nmX9 hown hK hP hD hS 0 rfl rfl 18 (by decide) f77 (fun _ h9 => h9) rfl (tyX9_ok 18 (by decide)) rfl rfl (Nat.le_of_ble_eq_true rfl) dX9_next_117 (fun H locs hP hD hS => ?_)
                    have hP : kP G [(hm0, .inr (9, [.int (zI S), .int (zI C), .int (zI Wy), .int (zI Li), .ref ml, .ref ms, .ref mw, .int (zI kn), .ref mi, .ref mk, .int (zI hz), .ref mh, .long tr, .ref mt, .int (zI tn), .int (zI r), .int (zI q), .int (zI to), .int (zI (((10 * nv) + (lA tf tn r)) - 48)), .int (zI wr), .int (zI it), .int (zI sS), .int (zI sC), .int (zI sL), .int (zI sW), .ref mq, .ref mn, .ref mc, .ref mr, .ref mb])), (mt, .inl (G.2.1, 200, .inl (aZ tf)))] H := hP
                    have hD : va_D A [(hm0, .inr (9, [.int (zI S), .int (zI C), .int (zI Wy), .int (zI Li), .ref ml, .ref ms, .ref mw, .int (zI kn), .ref mi, .ref mk, .int (zI hz), .ref mh, .long tr, .ref mt, .int (zI tn), .int (zI r), .int (zI q), .int (zI to), .int (zI (((10 * nv) + (lA tf tn r)) - 48)), .int (zI wr), .int (zI it), .int (zI sS), .int (zI sC), .int (zI sL), .int (zI sW), .ref mq, .ref mn, .ref mc, .ref mr, .ref mb])), (mt, .inl (G.2.1, 200, .inl (aZ tf)))] := hD
                    refine lv_aload_n hx hb dX9_next_120 rfl (lv_at hl 1 rfl) ?_
                    refine lv_dup hx hb dX9_next_121 rfl ?_
                    refine va_get (ci := 9) (v := .int (zI r)) (C := RX9) (T := TX9) (N := 30) hx hb hts i9 hown hK hP 0 rfl rfl 15 (by decide) f67 (fun _ h9 => h9) rfl dX9_next_122 ?_
                    refine lv_iconst (v := zI 1) hx hb dX9_next_125 rfl ?_
                    refine z_iadd hx hb dX9_next_126 ?_
                    refine va_put (ci := 9) (v := .int (zI (r + 1))) (ty := .int) (C := RX9) (T := TX9) (N := 30) hx hb hts i9 tyX9 tyX9_ok nmX9 hown hK hP hD hS 0 rfl rfl 15 (by decide) f67 (fun _ h9 => h9) rfl (tyX9_ok 15 (by decide)) rfl rfl (Nat.le_of_ble_eq_true rfl) dX9_next_127 (fun H locs hP hD hS => ?_)
                    have hP : kP G [(hm0, .inr (9, [.int (zI S), .int (zI C), .int (zI Wy), .int (zI Li), .ref ml, .ref ms, .ref mw, .int (zI kn), .ref mi, .ref mk, .int (zI hz), .ref mh, .long tr, .ref mt, .int (zI tn), .int (zI (r + 1)), .int (zI q), .int (zI to), .int (zI (((10 * nv) + (lA tf tn r)) - 48)), .int (zI wr), .int (zI it), .int (zI sS), .int (zI sC), .int (zI sL), .int (zI sW), .ref mq, .ref mn, .ref mc, .ref mr, .ref mb])), (mt, .inl (G.2.1, 200, .inl (aZ tf)))] H := hP
                    have hD : va_D A [(hm0, .inr (9, [.int (zI S), .int (zI C), .int (zI Wy), .int (zI Li), .ref ml, .ref ms, .ref mw, .int (zI kn), .ref mi, .ref mk, .int (zI hz), .ref mh, .long tr, .ref mt, .int (zI tn), .int (zI (r + 1)), .int (zI q), .int (zI to), .int (zI (((10 * nv) + (lA tf tn r)) - 48)), .int (zI wr), .int (zI it), .int (zI sS), .int (zI sC), .int (zI sL), .int (zI sW), .ref mq, .ref mn, .ref mc, .ref mr, .ref mb])), (mt, .inl (G.2.1, 200, .inl (aZ tf)))] := hD
                    refine lv_goto (tgt := 67) hx hb dX9_next_130 (by decide) ?_
                    exact ih67 (r + 1) (((10 * nv) + (lA tf tn r)) - 48) H locs ls (by omega) (by rw [← dgE_step (by omega)]; exact hdg) (by rw [show (r + 1 - q).toNat = (r - q).toNat + 1 by omega, mvZ, ← hnv, show q + (((r - q).toNat : Nat) : Int) = r by omega]; first | (rw [if_pos (by omega)]; done) | (rw [if_neg (by omega)]; omega)) (by omega) (by omega) hP hD hS (lv_sub hl [0, 1] rfl)
                  · refine lv_aload_n hx hb dX9_next_91 rfl (lv_at hl 1 rfl) ?_
                    refine va_get (ci := 9) (v := .int (zI nv)) (C := RX9) (T := TX9) (N := 30) hx hb hts i9 hown hK hP 0 rfl rfl 18 (by decide) f77 (fun _ h9 => h9) rfl dX9_next_92 ?_
                    refine lv_goto (tgt := 117) hx hb dX9_next_95 (by decide) ?_
                    refine va_put (ci := 9) (v := .int (zI nv)) (ty := .int) (C := RX9) (T := TX9) (N := 30) hx hb hts i9 tyX9 tyX9_ok nmX9 hown hK hP hD hS 0 rfl rfl 18 (by decide) f77 (fun _ h9 => h9) rfl (tyX9_ok 18 (by decide)) rfl rfl (Nat.le_of_ble_eq_true rfl) dX9_next_117 (fun H locs hP hD hS => ?_)
                    have hP : kP G [(hm0, .inr (9, [.int (zI S), .int (zI C), .int (zI Wy), .int (zI Li), .ref ml, .ref ms, .ref mw, .int (zI kn), .ref mi, .ref mk, .int (zI hz), .ref mh, .long tr, .ref mt, .int (zI tn), .int (zI r), .int (zI q), .int (zI to), .int (zI nv), .int (zI wr), .int (zI it), .int (zI sS), .int (zI sC), .int (zI sL), .int (zI sW), .ref mq, .ref mn, .ref mc, .ref mr, .ref mb])), (mt, .inl (G.2.1, 200, .inl (aZ tf)))] H := hP
                    have hD : va_D A [(hm0, .inr (9, [.int (zI S), .int (zI C), .int (zI Wy), .int (zI Li), .ref ml, .ref ms, .ref mw, .int (zI kn), .ref mi, .ref mk, .int (zI hz), .ref mh, .long tr, .ref mt, .int (zI tn), .int (zI r), .int (zI q), .int (zI to), .int (zI nv), .int (zI wr), .int (zI it), .int (zI sS), .int (zI sC), .int (zI sL), .int (zI sW), .ref mq, .ref mn, .ref mc, .ref mr, .ref mb])), (mt, .inl (G.2.1, 200, .inl (aZ tf)))] := hD
                    refine lv_aload_n hx hb dX9_next_120 rfl (lv_at hl 1 rfl) ?_
                    refine lv_dup hx hb dX9_next_121 rfl ?_
                    refine va_get (ci := 9) (v := .int (zI r)) (C := RX9) (T := TX9) (N := 30) hx hb hts i9 hown hK hP 0 rfl rfl 15 (by decide) f67 (fun _ h9 => h9) rfl dX9_next_122 ?_
                    refine lv_iconst (v := zI 1) hx hb dX9_next_125 rfl ?_
                    refine z_iadd hx hb dX9_next_126 ?_
                    refine va_put (ci := 9) (v := .int (zI (r + 1))) (ty := .int) (C := RX9) (T := TX9) (N := 30) hx hb hts i9 tyX9 tyX9_ok nmX9 hown hK hP hD hS 0 rfl rfl 15 (by decide) f67 (fun _ h9 => h9) rfl (tyX9_ok 15 (by decide)) rfl rfl (Nat.le_of_ble_eq_true rfl) dX9_next_127 (fun H locs hP hD hS => ?_)
                    have hP : kP G [(hm0, .inr (9, [.int (zI S), .int (zI C), .int (zI Wy), .int (zI Li), .ref ml, .ref ms, .ref mw, .int (zI kn), .ref mi, .ref mk, .int (zI hz), .ref mh, .long tr, .ref mt, .int (zI tn), .int (zI (r + 1)), .int (zI q), .int (zI to), .int (zI nv), .int (zI wr), .int (zI it), .int (zI sS), .int (zI sC), .int (zI sL), .int (zI sW), .ref mq, .ref mn, .ref mc, .ref mr, .ref mb])), (mt, .inl (G.2.1, 200, .inl (aZ tf)))] H := hP
                    have hD : va_D A [(hm0, .inr (9, [.int (zI S), .int (zI C), .int (zI Wy), .int (zI Li), .ref ml, .ref ms, .ref mw, .int (zI kn), .ref mi, .ref mk, .int (zI hz), .ref mh, .long tr, .ref mt, .int (zI tn), .int (zI (r + 1)), .int (zI q), .int (zI to), .int (zI nv), .int (zI wr), .int (zI it), .int (zI sS), .int (zI sC), .int (zI sL), .int (zI sW), .ref mq, .ref mn, .ref mc, .ref mr, .ref mb])), (mt, .inl (G.2.1, 200, .inl (aZ tf)))] := hD
                    refine lv_goto (tgt := 67) hx hb dX9_next_130 (by decide) ?_
                    exact ih67 (r + 1) nv H locs ls (by omega) (by rw [← dgE_step (by omega)]; exact hdg) (by rw [show (r + 1 - q).toNat = (r - q).toNat + 1 by omega, mvZ, ← hnv, show q + (((r - q).toNat : Nat) : Int) = r by omega]; first | (rw [if_pos (by omega)]; done) | (rw [if_neg (by omega)]; omega)) (by omega) (by omega) hP hD hS (lv_sub hl [0, 1] rfl)
            exact loop67 _ q 0 H locs ls (by omega) rfl (by rw [show (q - q).toNat = 0 by omega]; rfl) (by omega) (Nat.lt_succ_self _) hP hD hS (lv_sub hl [0, 1] rfl)
        · refine lv_aload_n hx hb dX9_next_52 rfl (lv_at hl 1 rfl) ?_
          refine lv_iconst (v := zI 0) hx hb dX9_next_53 rfl ?_
          refine va_put (ci := 9) (v := .int (zI 0)) (ty := .int) (C := RX9) (T := TX9) (N := 30) hx hb hts i9 tyX9 tyX9_ok nmX9 hown hK hP hD hS 0 rfl rfl 17 (by decide) f80 (fun _ h9 => h9) rfl (tyX9_ok 17 (by decide)) rfl rfl (Nat.le_of_ble_eq_true rfl) dX9_next_54 (fun H locs hP hD hS => ?_)
          have hP : kP G [(hm0, .inr (9, [.int (zI S), .int (zI C), .int (zI Wy), .int (zI Li), .ref ml, .ref ms, .ref mw, .int (zI kn), .ref mi, .ref mk, .int (zI hz), .ref mh, .long tr, .ref mt, .int (zI tn), .int (zI q), .int (zI q), .int (zI 0), .int (zI 0), .int (zI wr), .int (zI it), .int (zI sS), .int (zI sC), .int (zI sL), .int (zI sW), .ref mq, .ref mn, .ref mc, .ref mr, .ref mb])), (mt, .inl (G.2.1, 200, .inl (aZ tf)))] H := hP
          have hD : va_D A [(hm0, .inr (9, [.int (zI S), .int (zI C), .int (zI Wy), .int (zI Li), .ref ml, .ref ms, .ref mw, .int (zI kn), .ref mi, .ref mk, .int (zI hz), .ref mh, .long tr, .ref mt, .int (zI tn), .int (zI q), .int (zI q), .int (zI 0), .int (zI 0), .int (zI wr), .int (zI it), .int (zI sS), .int (zI sC), .int (zI sL), .int (zI sW), .ref mq, .ref mn, .ref mc, .ref mr, .ref mb])), (mt, .inl (G.2.1, 200, .inl (aZ tf)))] := hD
          refine lv_goto (tgt := 231) hx hb dX9_next_57 (by decide) ?_
          exact hret H locs ls 231 (q, q, 0, 0) (by first | exact nxt1 hqe (by omega) | exact nxt3 hqe (by omega) (by omega) (by omega) (by omega) | exact nxt2 hqe hre (by omega) (by omega) hnv hnr (by omega)) hP hS dX9_next_231
      · refine lv_aload_n hx hb dX9_next_13 rfl (lv_at hl 0 rfl) ?_
        refine lv_dup hx hb dX9_next_14 rfl ?_
        refine va_get (ci := 9) (v := .int (zI q)) (C := RX9) (T := TX9) (N := 30) hx hb hts i9 hown hK hP 0 rfl rfl 15 (by decide) f67 (fun _ h9 => h9) rfl dX9_next_15 ?_
        refine lv_iconst (v := zI 1) hx hb dX9_next_18 rfl ?_
        refine z_iadd hx hb dX9_next_19 ?_
        refine va_put (ci := 9) (v := .int (zI (q + 1))) (ty := .int) (C := RX9) (T := TX9) (N := 30) hx hb hts i9 tyX9 tyX9_ok nmX9 hown hK hP hD hS 0 rfl rfl 15 (by decide) f67 (fun _ h9 => h9) rfl (tyX9_ok 15 (by decide)) rfl rfl (Nat.le_of_ble_eq_true rfl) dX9_next_20 (fun H locs hP hD hS => ?_)
        have hP : kP G [(hm0, .inr (9, [.int (zI S), .int (zI C), .int (zI Wy), .int (zI Li), .ref ml, .ref ms, .ref mw, .int (zI kn), .ref mi, .ref mk, .int (zI hz), .ref mh, .long tr, .ref mt, .int (zI tn), .int (zI (q + 1)), .int (zI sa), .int (zI to), .int (zI nu), .int (zI wr), .int (zI it), .int (zI sS), .int (zI sC), .int (zI sL), .int (zI sW), .ref mq, .ref mn, .ref mc, .ref mr, .ref mb])), (mt, .inl (G.2.1, 200, .inl (aZ tf)))] H := hP
        have hD : va_D A [(hm0, .inr (9, [.int (zI S), .int (zI C), .int (zI Wy), .int (zI Li), .ref ml, .ref ms, .ref mw, .int (zI kn), .ref mi, .ref mk, .int (zI hz), .ref mh, .long tr, .ref mt, .int (zI tn), .int (zI (q + 1)), .int (zI sa), .int (zI to), .int (zI nu), .int (zI wr), .int (zI it), .int (zI sS), .int (zI sC), .int (zI sL), .int (zI sW), .ref mq, .ref mn, .ref mc, .ref mr, .ref mb])), (mt, .inl (G.2.1, 200, .inl (aZ tf)))] := hD
        refine lv_goto (tgt := 0) hx hb dX9_next_23 (by decide) ?_
        exact ih0 (q + 1) H locs ls (by omega) (by rw [← tkS_step (by omega)]; exact hqs) (by omega) hP hD hS (lv_sub hl [0] rfl)
  exact loop0 _ cu H locs ls (by omega) rfl (Nat.lt_succ_self _) hP hD hS (lv_sub hl [0] rfl)
