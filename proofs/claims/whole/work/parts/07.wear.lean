
theorem mul_rng {a b x y : Int} (ha : 0 ≤ a ∧ a ≤ x) (hb : 0 ≤ b ∧ b ≤ y) : 0 ≤ a * b ∧ a * b ≤ x * y := ⟨Int.mul_nonneg ha.1 hb.1, Int.mul_le_mul ha.2 hb.2 hb.1 (by omega)⟩
theorem div_rng {a b : Int} (ha : 0 ≤ a) (hb : 1 ≤ b) : 0 ≤ a / b ∧ a / b ≤ a := ⟨Int.ediv_nonneg ha (by omega), Int.ediv_le_self _ ha⟩
theorem grZ_ge {f : Int → Int} : ∀ (k : Nat) (i : Int), 0 ≤ i → i < k → f i ≤ grZ f k
  | 0, i, h1, h2 => by omega
  | k + 1, i, h1, h2 => by
    by_cases h : i = k
    · subst h
      unfold grZ
      split <;> omega
    · have h3 := grZ_ge (f := f) k i h1 (by omega)
      unfold grZ
      split <;> omega
def visZ (ld wn : Int → Int) (Li w : Int) : Int := (Li - 1 - wn w) / ld w + 1
def wyI (S t way : Int) : Nat → Int
  | 0 => way
  | k + 1 => fromZ S (wyI S t way k) t
def sbZ (S t way per : Int) (vis : Int → Int) : Nat → Int
  | 0 => per * vis (wyI S t way 1) - per + 1
  | k + 1 => if per * vis (wyI S t way (k + 2)) - per + ((k : Int) + 2) < sbZ S t way per vis k then per * vis (wyI S t way (k + 2)) - per + ((k : Int) + 2) else sbZ S t way per vis k
def seasZ (S Li wy : Int) (ld wn : Int → Int) (t : Int) : Int := if Li ≤ grZ wn 12 then 0 else sbZ S t wy (ordZ S t) (visZ ld wn Li) (ordZ S t - 1).toNat
def rmZ (mark : Int) (wn ld : Int → Int) : Nat → Int
  | 0 => 0
  | k + 1 => rmZ mark wn ld k + (mark - wn (k : Int)) / ld (k : Int)
theorem rmZ_rng {mark : Int} {wn ld : Int → Int} (hm : mark ≤ 2000) (h1 : ∀ i : Int, 0 ≤ i → i < 12 → 0 ≤ wn i ∧ wn i ≤ mark) (h2 : ∀ i : Int, 0 ≤ i → i < 12 → 1 ≤ ld i ∧ ld i ≤ 9) : ∀ k : Nat, (k : Int) ≤ 12 → 0 ≤ rmZ mark wn ld k ∧ rmZ mark wn ld k ≤ 2000 * k
  | 0, _ => by simp [rmZ]
  | k + 1, hk => by
    have h := rmZ_rng hm h1 h2 k (by omega)
    have h3 := h1 k (by omega) (by omega)
    have h4 := h2 k (by omega) (by omega)
    have h5 := div_rng (a := mark - wn (k : Int)) (b := ld (k : Int)) (by omega) (by omega)
    unfold rmZ
    omega
def lgG (wn ld : Int → Int) (W : Nat) (n hi : Int) : Nat → Int → Int
  | 0, m => m
  | k + 1, m => if m < hi ∧ rmZ m wn ld W < n then lgG wn ld W n hi k (m + 1) else m
def lgZ (wn ld : Int → Int) (W : Nat) (n : Int) : Int := lgG wn ld W n (grZ wn 12 + 36) 36 (grZ wn 12)
theorem lgG_step {wn ld : Int → Int} {W : Nat} {n hi m : Int} (h : m < hi) (h2 : rmZ m wn ld W < n) : lgG wn ld W n hi (hi - m).toNat m = lgG wn ld W n hi (hi - (m + 1)).toNat (m + 1) := by
  rw [show (hi - m).toNat = (hi - (m + 1)).toNat + 1 by omega]
  show (if _ then _ else _) = _
  rw [if_pos ⟨h, h2⟩]
theorem lgG_stop {wn ld : Int → Int} {W : Nat} {n hi m : Int} (h : ¬ (m < hi ∧ rmZ m wn ld W < n)) (k : Nat) : lgG wn ld W n hi k m = m := by
  cases k with
  | zero => rfl
  | succ k =>
    show (if _ then _ else _) = _
    rw [if_neg h]
theorem lgG_rng (wn ld : Int → Int) (W : Nat) (n hi : Int) : ∀ (k : Nat) (m : Int), m ≤ lgG wn ld W n hi k m ∧ lgG wn ld W n hi k m ≤ m + k
  | 0, m => by simp [lgG]
  | k + 1, m => by
    have h := lgG_rng wn ld W n hi k (m + 1)
    unfold lgG
    split <;> omega
def ftG (S : Int) (W : Int) (ld f : Int → Int) (mark way : Int) : Nat → Int → Int
  | 0, _ => -9
  | k + 1, t => if f (fromZ S way t) + ld (fromZ S way t) ≤ mark then t else ftG S W ld f mark way k (t + 1)
def ftZ (S W : Int) (ld f : Int → Int) (mark way : Int) : Int := ftG S W ld f mark way W.toNat 0
theorem ftG_rng (S W : Int) (ld f : Int → Int) (mark way : Int) : ∀ (k : Nat) (t : Int), 0 ≤ t → t + k ≤ W → ftG S W ld f mark way k t = -9 ∨ (0 ≤ ftG S W ld f mark way k t ∧ ftG S W ld f mark way k t < W)
  | 0, t, _, _ => Or.inl rfl
  | k + 1, t, h1, h2 => by
    have h := ftG_rng S W ld f mark way k (t + 1) (by omega) (by omega)
    unfold ftG
    split <;> omega
theorem ftZ_rng {S W : Int} {ld f : Int → Int} {mark way : Int} (h : 0 ≤ W) : ftZ S W ld f mark way = -9 ∨ (0 ≤ ftZ S W ld f mark way ∧ ftZ S W ld f mark way < W) := ftG_rng S W ld f mark way W.toNat 0 (by omega) (by omega)
def plS (S W : Int) (ld : Int → Int) (mark wy : Int) (wn : Int → Int) : Nat → Int × (Int → Int) × Int
  | 0 => (wy, wn, -9)
  | i + 1 => (fromZ S (plS S W ld mark wy wn i).1 (ftZ S W ld (plS S W ld mark wy wn i).2.1 mark (plS S W ld mark wy wn i).1),
      uZ (plS S W ld mark wy wn i).2.1 (fromZ S (plS S W ld mark wy wn i).1 (ftZ S W ld (plS S W ld mark wy wn i).2.1 mark (plS S W ld mark wy wn i).1)) ((plS S W ld mark wy wn i).2.1 (fromZ S (plS S W ld mark wy wn i).1 (ftZ S W ld (plS S W ld mark wy wn i).2.1 mark (plS S W ld mark wy wn i).1)) + ld (fromZ S (plS S W ld mark wy wn i).1 (ftZ S W ld (plS S W ld mark wy wn i).2.1 mark (plS S W ld mark wy wn i).1))),
      ftZ S W ld (plS S W ld mark wy wn i).2.1 mark (plS S W ld mark wy wn i).1)
def vsZ (S t way w per sea : Int) : Nat → Int
  | 0 => 0
  | k + 1 => if wyI S t way (k + 1) = w then (sea - ((k : Int) + 1)) / per + 1 else vsZ S t way w per sea k
def wiZ (S wy : Int) (ld wn : Int → Int) (sea w t : Int) : Int :=
  if wn w + vsZ S t wy w (ordZ S t) sea (min (ordZ S t) sea).toNat * ld w < 999 then wn w + vsZ S t wy w (ordZ S t) sea (min (ordZ S t) sea).toNat * ld w else 999
def asB (S wy : Int) (ld wn hk hq hv : Int → Int) (t : Int) : Nat → Bool
  | 0 => true
  | k + 1 => asB S wy ld wn hk hq hv t k && decide (wiZ S wy ld wn (hk (k : Int)) (hq (k : Int)) t = hv (k : Int))

theorem pd_X7_quotient : yX7_quotient.cls = RX7 ∧ yX7_quotient.cls ≠ "java/lang/invoke/MethodHandle" ∧ yX7_quotient.cls ≠ "java/lang/invoke/VarHandle" ∧ (parseMethodDescriptor yX7_quotient.desc).map (fun d => d.parameters.length) = some 2 := by decide +kernel
abbrev rmX7_quotient : Room := { frames := 0, cells := 0, slots := 0, locals := 0 }
set_option maxHeartbeats 4000000 in
set_option maxRecDepth 100000 in
theorem c_X7_quotient (l : Launch) (G : CX) (a : Int) (b : Int) (hq : 0 ≤ a ∧ a < 2147483648 ∧ 0 < b ∧ b < 2147483648) : Met l yX7_quotient wsX7_quotient rmX7_quotient (rdP G [.int (zI a), .int (zI b)] []) (rdQ (zI (a / b))) 0 0 noA := by
  refine rd_ofW (cc := cX7_quotient) (maxL := 2) (ty := .int) (by decide) rfl (Nat.le_of_ble_eq_true rfl) rfl ?_
  intro p e s m below meth c Q A hx hb hml hown hts hK hret H locs hP hS ls hl
  have hown : s.vm.findClass RX7 = some m.cls := hown
  have hl : lv_has ls 2 [(0, .int (zI a)), (1, .int (zI b))] := hl
  refine lv_iload_n hx hb dX7_quotient_0 rfl (lv_at hl 1 rfl) ?_
  refine z_if_le (tgt := 10) hx hb (by omega) dX7_quotient_1 (by decide) (fun c_1 => ?_) (fun c_1 => ?_)
  · exact absurd c_1 (by omega)
  · refine lv_iload_n hx hb dX7_quotient_4 rfl (lv_at hl 0 rfl) ?_
    refine lv_iload_n hx hb dX7_quotient_5 rfl (lv_at hl 1 rfl) ?_
    refine z_idiv hx hb (by omega) dX7_quotient_6 ?_
    refine lv_goto (tgt := 11) hx hb dX7_quotient_7 (by decide) ?_
    exact hret H locs ls 11 _ (congrArg zI (by first | rfl | omega)) hS dX7_quotient_11
theorem pd_X7_isOut : yX7_isOut.cls = RX7 ∧ yX7_isOut.cls ≠ "java/lang/invoke/MethodHandle" ∧ yX7_isOut.cls ≠ "java/lang/invoke/VarHandle" ∧ (parseMethodDescriptor yX7_isOut.desc).map (fun d => d.parameters.length) = some 0 := by decide +kernel
abbrev rmX7_isOut : Room := { frames := 2, cells := 0, slots := 0, locals := 52 }
set_option maxHeartbeats 4000000 in
set_option maxRecDepth 100000 in
theorem c_X7_isOut (l : Launch) (G : CX) (hw0 : Nat) (ap : Nat) (hb0 : Nat) (al : Nat) (S : Int) (C : Int) (Wy : Int) (Li : Int) (St : Int) (hy0 : Nat) (aw : Nat) (wy : Int) (se : Int) (tu : Int) (wn : Int → Int) (ld : Int → Int) (hwn : ∀ i : Int, 0 ≤ i → i < 12 → 0 ≤ wn i ∧ wn i ≤ 999) (hLi : 5 ≤ Li ∧ Li ≤ 99) : Met l yX7_isOut wsX7_isOut rmX7_isOut (rdP G [.ref hw0] [(hw0, .inr (7, [.ref hb0, .ref hy0, .ref ap])), (hb0, .inr (0, [.int (zI S), .int (zI C), .int (zI Wy), .int (zI Li), .int (zI St), .ref al])), (hy0, .inr (2, [.int (zI wy), .int (zI se), .int (zI tu), .ref aw])), (al, .inl (G.2.1, 12, .inl (aZ ld))), (aw, .inl (G.2.1, 12, .inl (aZ wn)))]) (rdQ (zI (if Li ≤ grZ wn 12 then 1 else 0))) 0 0 noA := by
  refine rd_ofW (cc := cX7_isOut) (maxL := 1) (ty := .boolean) (by decide) rfl (Nat.le_of_ble_eq_true rfl) (nb _) ?_
  intro p e s m below meth c Q A hx hb hml hown hts hK hret H locs hP hS ls hl
  have hown : s.vm.findClass RX7 = some m.cls := hown
  have hl : lv_has ls 1 [(0, .ref hw0)] := hl
  have f19 := hts (.fieldLink RX7 19 "QuarterTurns$Wear" "lying" "LQuarterTurns$Lying;") (by decide +kernel)
  have i7 : ∀ w ∈ wsX70, w ∈ wsX7_isOut := fun w h => List.mem_cons_of_mem _ (List.mem_append_left _ (List.mem_append_left _ (List.mem_append_right _ h)))
  have f15 := hts (.fieldLink RX7 15 "QuarterTurns$Wear" "bed" "LQuarterTurns$Bed;") (by decide +kernel)
  have f29 := hts (.fieldLink RX7 29 "QuarterTurns$Bed" "limit" "I") (by decide +kernel)
  have i0 : ∀ w ∈ wsX00, w ∈ wsX7_isOut := fun w h => List.mem_cons_of_mem _ (List.mem_append_left _ (List.mem_append_right _ h))
  refine lv_aload_n hx hb dX7_isOut_0 rfl (lv_at hl 0 rfl) ?_
  refine va_get (ci := 7) (v := .ref hy0) (C := RX7) (T := TX7) (N := 3) hx hb hts i7 hown hK hP 0 rfl rfl 1 (by decide) f19 (fun _ h9 => h9) rfl dX7_isOut_1 ?_
  refine z_cV (As := []) (rest := []) ⟨hx, hb, hml, hown, hts⟩ (c_X2_greatest l G hy0 aw wy se tu wn (by first | assumption | omega)) (cwV 0 hts gX7_isOut_X2_greatest rfl rfl rfl pd_X2_greatest ⟨(Nat.le_of_ble_eq_true rfl), (Nat.le_of_ble_eq_true rfl)⟩) hK hP hS [2, 4] rfl rfl rfl rfl rfl hl.1 rfl (Nat.le_of_ble_eq_true rfl) dX7_isOut_4 ⟨Nat.zero_le _, Nat.zero_le _⟩ (fun H locs hP hS => ?_)
  have hq_1 := grZ_rng (f := wn) (N := 12) (b := 999) (by omega) ((by first | assumption | omega)) 12 (by omega)
  refine lv_aload_n hx hb dX7_isOut_7 rfl (lv_at hl 0 rfl) ?_
  refine va_get (ci := 7) (v := .ref hb0) (C := RX7) (T := TX7) (N := 3) hx hb hts i7 hown hK hP 0 rfl rfl 0 (by decide) f15 (fun _ h9 => h9) rfl dX7_isOut_8 ?_
  refine va_get (ci := 0) (v := .int (zI Li)) (C := RX0) (T := TX0) (N := 6) hx hb hts i0 hown hK hP 1 rfl rfl 3 (by decide) f29 (fun _ h9 => h9) rfl dX7_isOut_11 ?_
  refine z_icmp_lt (tgt := 21) hx hb (by omega) dX7_isOut_14 (by decide) (fun c_2 => ?_) (fun c_2 => ?_)
  · refine lv_iconst (v := zI 0) hx hb dX7_isOut_21 rfl ?_
    exact hret H locs ls 22 _ (congrArg zI (if_neg (by omega)).symm) hS dX7_isOut_22
  · refine lv_iconst (v := zI 1) hx hb dX7_isOut_17 rfl ?_
    refine lv_goto (tgt := 22) hx hb dX7_isOut_18 (by decide) ?_
    exact hret H locs ls 22 _ (congrArg zI (if_pos (by omega)).symm) hS dX7_isOut_22

theorem visZ_rng {ld wn : Int → Int} {Li w : Int} (hwn : ∀ i : Int, 0 ≤ i → i < 12 → 0 ≤ wn i ∧ wn i ≤ 999) (hld : ∀ i : Int, 0 ≤ i → i < 12 → 1 ≤ ld i ∧ ld i ≤ 9) (hLi : 5 ≤ Li ∧ Li ≤ 99) (hw : 0 ≤ w ∧ w < 12) (hno : wn w < Li) : 1 ≤ visZ ld wn Li w ∧ visZ ld wn Li w ≤ 99 := by
  have h1 := hwn w hw.1 hw.2
  have h2 := hld w hw.1 hw.2
  have h3 := div_rng (a := Li - 1 - wn w) (b := ld w) (by omega) (by omega)
  unfold visZ
  omega
theorem pd_X7_visitsToLimit : yX7_visitsToLimit.cls = RX7 ∧ yX7_visitsToLimit.cls ≠ "java/lang/invoke/MethodHandle" ∧ yX7_visitsToLimit.cls ≠ "java/lang/invoke/VarHandle" ∧ (parseMethodDescriptor yX7_visitsToLimit.desc).map (fun d => d.parameters.length) = some 1 := by decide +kernel
abbrev rmX7_visitsToLimit : Room := { frames := 1, cells := 0, slots := 0, locals := 21 }
set_option maxHeartbeats 4000000 in
set_option maxRecDepth 100000 in
theorem c_X7_visitsToLimit (l : Launch) (G : CX) (hw0 : Nat) (ap : Nat) (hb0 : Nat) (al : Nat) (S : Int) (C : Int) (Wy : Int) (Li : Int) (St : Int) (hy0 : Nat) (aw : Nat) (wy : Int) (se : Int) (tu : Int) (wn : Int → Int) (ld : Int → Int) (w : Int) (hwn : ∀ i : Int, 0 ≤ i → i < 12 → 0 ≤ wn i ∧ wn i ≤ 999) (hld : ∀ i : Int, 0 ≤ i → i < 12 → 1 ≤ ld i ∧ ld i ≤ 9) (hLi : 5 ≤ Li ∧ Li ≤ 99) (hw : 0 ≤ w ∧ w < 12) (hno : wn w < Li) : Met l yX7_visitsToLimit wsX7_visitsToLimit rmX7_visitsToLimit (rdP G [.ref hw0, .int (zI w)] [(hw0, .inr (7, [.ref hb0, .ref hy0, .ref ap])), (hb0, .inr (0, [.int (zI S), .int (zI C), .int (zI Wy), .int (zI Li), .int (zI St), .ref al])), (hy0, .inr (2, [.int (zI wy), .int (zI se), .int (zI tu), .ref aw])), (al, .inl (G.2.1, 12, .inl (aZ ld))), (aw, .inl (G.2.1, 12, .inl (aZ wn)))]) (rdQ (zI (visZ ld wn Li w))) 0 0 noA := by
  refine rd_ofW (cc := cX7_visitsToLimit) (maxL := 2) (ty := .int) (by decide) rfl (Nat.le_of_ble_eq_true rfl) rfl ?_
  intro p e s m below meth c Q A hx hb hml hown hts hK hret H locs hP hS ls hl
  have hown : s.vm.findClass RX7 = some m.cls := hown
  have hl : lv_has ls 2 [(0, .ref hw0), (1, .int (zI w))] := hl
  have f15 := hts (.fieldLink RX7 15 "QuarterTurns$Wear" "bed" "LQuarterTurns$Bed;") (by decide +kernel)
  have i7 : ∀ w ∈ wsX70, w ∈ wsX7_visitsToLimit := fun w h => List.mem_cons_of_mem _ (List.mem_append_left _ (List.mem_append_left _ (List.mem_append_right _ h)))
  have f29 := hts (.fieldLink RX7 29 "QuarterTurns$Bed" "limit" "I") (by decide +kernel)
  have i0 : ∀ w ∈ wsX00, w ∈ wsX7_visitsToLimit := fun w h => List.mem_cons_of_mem _ (List.mem_append_left _ (List.mem_append_right _ h))
  have f19 := hts (.fieldLink RX7 19 "QuarterTurns$Wear" "lying" "LQuarterTurns$Lying;") (by decide +kernel)
  have f58 := hts (.fieldLink RX7 58 "QuarterTurns$Lying" "worn" "[I") (by decide +kernel)
  have i2 : ∀ w ∈ wsX20, w ∈ wsX7_visitsToLimit := fun w h => List.mem_cons_of_mem _ (List.mem_append_right _ h)
  have f61 := hts (.fieldLink RX7 61 "QuarterTurns$Bed" "loads" "[I") (by decide +kernel)
  refine lv_aload_n hx hb dX7_visitsToLimit_0 rfl (lv_at hl 0 rfl) ?_
  refine va_get (ci := 7) (v := .ref hb0) (C := RX7) (T := TX7) (N := 3) hx hb hts i7 hown hK hP 0 rfl rfl 0 (by decide) f15 (fun _ h9 => h9) rfl dX7_visitsToLimit_1 ?_
  refine va_get (ci := 0) (v := .int (zI Li)) (C := RX0) (T := TX0) (N := 6) hx hb hts i0 hown hK hP 1 rfl rfl 3 (by decide) f29 (fun _ h9 => h9) rfl dX7_visitsToLimit_4 ?_
  refine lv_iconst (v := zI 1) hx hb dX7_visitsToLimit_7 rfl ?_
  refine z_isub hx hb dX7_visitsToLimit_8 ?_
  refine lv_aload_n hx hb dX7_visitsToLimit_9 rfl (lv_at hl 0 rfl) ?_
  refine va_get (ci := 7) (v := .ref hy0) (C := RX7) (T := TX7) (N := 3) hx hb hts i7 hown hK hP 0 rfl rfl 1 (by decide) f19 (fun _ h9 => h9) rfl dX7_visitsToLimit_10 ?_
  refine va_get (ci := 2) (v := .ref aw) (C := RX2) (T := TX2) (N := 4) hx hb hts i2 hown hK hP 2 rfl rfl 3 (by decide) f58 (fun _ h9 => h9) rfl dX7_visitsToLimit_13 ?_
  refine lv_iload_n hx hb dX7_visitsToLimit_16 rfl (lv_at hl 1 rfl) ?_
  refine z_iald (n := 12) (f := wn) hx hb hK hP 4 rfl (by omega) dX7_visitsToLimit_17 ?_
  have he_1 := hwn w (by omega) (by omega)
  refine z_isub hx hb dX7_visitsToLimit_18 ?_
  refine lv_aload_n hx hb dX7_visitsToLimit_19 rfl (lv_at hl 0 rfl) ?_
  refine va_get (ci := 7) (v := .ref hb0) (C := RX7) (T := TX7) (N := 3) hx hb hts i7 hown hK hP 0 rfl rfl 0 (by decide) f15 (fun _ h9 => h9) rfl dX7_visitsToLimit_20 ?_
  refine va_get (ci := 0) (v := .ref al) (C := RX0) (T := TX0) (N := 6) hx hb hts i0 hown hK hP 1 rfl rfl 5 (by decide) f61 (fun _ h9 => h9) rfl dX7_visitsToLimit_23 ?_
  refine lv_iload_n hx hb dX7_visitsToLimit_26 rfl (lv_at hl 1 rfl) ?_
  refine z_iald (n := 12) (f := ld) hx hb hK hP 3 rfl (by omega) dX7_visitsToLimit_27 ?_
  have he_2 := hld w (by omega) (by omega)
  refine z_cS (As := [.int (zI ((Li - 1) - (wn w))), .int (zI (ld w))]) (rest := []) ⟨hx, hb, hml, hown, hts⟩ (c_X7_quotient l G ((Li - 1) - (wn w)) (ld w) (by first | assumption | omega)) (va_cwS 2 hts gX7_visitsToLimit_X7_quotient rfl rfl rfl pd_X7_quotient.2 ⟨(Nat.le_of_ble_eq_true rfl), (Nat.le_of_ble_eq_true rfl)⟩) hK hP hS [] rfl rfl hl.1 rfl (Nat.le_of_ble_eq_true rfl) dX7_visitsToLimit_28 ⟨Nat.zero_le _, Nat.zero_le _⟩ (fun H locs hP hS => ?_)
  refine lv_iconst (v := zI 1) hx hb dX7_visitsToLimit_31 rfl ?_
  refine z_iadd hx hb dX7_visitsToLimit_32 ?_
  exact hret H locs ls 33 _ (congrArg zI (by rfl)) hS dX7_visitsToLimit_33

theorem sbZ_rng {S t way per x : Int} {vis : Int → Int} (hp : 1 ≤ per ∧ per ≤ 12) (hv : ∀ k : Nat, 1 ≤ vis (wyI S t way (k + 1)) ∧ vis (wyI S t way (k + 1)) ≤ 99) : ∀ k : Nat, (k : Int) < per → 1 ≤ sbZ S t way per vis k ∧ sbZ S t way per vis k ≤ 2000
  | 0, _ => by
    have h := mul_rng (a := per) (b := vis (wyI S t way 1) - 1) (x := 12) (y := 98) (by omega) (by have h0 : 1 ≤ vis (wyI S t way 1) ∧ vis (wyI S t way 1) ≤ 99 := hv 0; omega)
    have h2 : per * (vis (wyI S t way 1) - 1) = per * vis (wyI S t way 1) - per := by rw [Int.mul_sub, Int.mul_one]
    unfold sbZ
    omega
  | k + 1, hk => by
    have h := mul_rng (a := per) (b := vis (wyI S t way (k + 2)) - 1) (x := 12) (y := 98) (by omega) (by have h0 : 1 ≤ vis (wyI S t way (k + 2)) ∧ vis (wyI S t way (k + 2)) ≤ 99 := hv (k + 1); omega)
    have h2 : per * (vis (wyI S t way (k + 2)) - 1) = per * vis (wyI S t way (k + 2)) - per := by rw [Int.mul_sub, Int.mul_one]
    have h3 := sbZ_rng (x := x) hp hv k (by omega)
    unfold sbZ
    split <;> omega
theorem wyI_rng {S C Wy t way : Int} (hB : (2 ≤ S ∧ S ≤ 6) ∧ (C = 1 ∧ Wy = S ∨ C = 2 ∧ Wy = 2 * S)) (hw : 0 ≤ way ∧ way < Wy) (ht : 0 ≤ t ∧ t < Wy) : ∀ k : Nat, 0 ≤ wyI S t way k ∧ wyI S t way k < Wy
  | 0 => hw
  | k + 1 => fromZ_rng hB (wyI_rng hB hw ht k) ht
theorem seasZ_rng {S C Wy Li wy t : Int} {ld wn : Int → Int} (hB : (2 ≤ S ∧ S ≤ 6) ∧ (C = 1 ∧ Wy = S ∨ C = 2 ∧ Wy = 2 * S)) (hwn : ∀ i : Int, 0 ≤ i → i < 12 → 0 ≤ wn i ∧ wn i ≤ 999) (hld : ∀ i : Int, 0 ≤ i → i < 12 → 1 ≤ ld i ∧ ld i ≤ 9) (hLi : 5 ≤ Li ∧ Li ≤ 99) (hwy : 0 ≤ wy ∧ wy < Wy) (ht : 0 ≤ t ∧ t < Wy) : 0 ≤ seasZ S Li wy ld wn t ∧ seasZ S Li wy ld wn t ≤ 2000 := by
  unfold seasZ
  split
  · omega
  · rename_i hc
    have ho := ordZ_rng S t
    have h := sbZ_rng (x := 0) (S := S) (t := t) (way := wy) (vis := visZ ld wn Li) ho (fun k => by
      have h1 := wyI_rng hB hwy ht (k + 1)
      exact visZ_rng hwn hld hLi (by omega) (by have := grZ_ge (f := wn) 12 (wyI S t wy (k + 1)) h1.1 (by omega); omega)) (ordZ S t - 1).toNat (by omega)
    omega
theorem pd_X7_seasonsBy : yX7_seasonsBy.cls = RX7 ∧ yX7_seasonsBy.cls ≠ "java/lang/invoke/MethodHandle" ∧ yX7_seasonsBy.cls ≠ "java/lang/invoke/VarHandle" ∧ (parseMethodDescriptor yX7_seasonsBy.desc).map (fun d => d.parameters.length) = some 1 := by decide +kernel
abbrev rmX7_seasonsBy : Room := { frames := 3, cells := 0, slots := 0, locals := 72 }
set_option maxHeartbeats 4000000 in
set_option maxRecDepth 100000 in
theorem c_X7_seasonsBy (l : Launch) (G : CX) (hw0 : Nat) (ap : Nat) (hb0 : Nat) (al : Nat) (S : Int) (C : Int) (Wy : Int) (Li : Int) (St : Int) (hy0 : Nat) (aw : Nat) (wy : Int) (se : Int) (tu : Int) (wn : Int → Int) (ld : Int → Int) (t : Int) (hB : (2 ≤ S ∧ S ≤ 6) ∧ (C = 1 ∧ Wy = S ∨ C = 2 ∧ Wy = 2 * S)) (hwn : ∀ i : Int, 0 ≤ i → i < 12 → 0 ≤ wn i ∧ wn i ≤ 999) (hld : ∀ i : Int, 0 ≤ i → i < 12 → 1 ≤ ld i ∧ ld i ≤ 9) (hLi : 5 ≤ Li ∧ Li ≤ 99) (hwy : 0 ≤ wy ∧ wy < Wy) (ht : 0 ≤ t ∧ t < Wy) : Met l yX7_seasonsBy wsX7_seasonsBy rmX7_seasonsBy (rdP G [.ref hw0, .int (zI t)] [(hw0, .inr (7, [.ref hb0, .ref hy0, .ref ap])), (hb0, .inr (0, [.int (zI S), .int (zI C), .int (zI Wy), .int (zI Li), .int (zI St), .ref al])), (hy0, .inr (2, [.int (zI wy), .int (zI se), .int (zI tu), .ref aw])), (al, .inl (G.2.1, 12, .inl (aZ ld))), (aw, .inl (G.2.1, 12, .inl (aZ wn)))]) (rdQ (zI (seasZ S Li wy ld wn t))) 0 0 noA := by
  refine rd_ofW (cc := cX7_seasonsBy) (maxL := 6) (ty := .int) (by decide) rfl (Nat.le_of_ble_eq_true rfl) rfl ?_
  intro p e s m below meth c Q A hx hb hml hown hts hK hret H locs hP hS ls hl
  have hown : s.vm.findClass RX7 = some m.cls := hown
  have hl : lv_has ls 6 [(0, .ref hw0), (1, .int (zI t))] := hl
  have f15 := hts (.fieldLink RX7 15 "QuarterTurns$Wear" "bed" "LQuarterTurns$Bed;") (by decide +kernel)
  have i7 : ∀ w ∈ wsX70, w ∈ wsX7_seasonsBy := fun w h => List.mem_cons_of_mem _ (List.mem_append_left _ (List.mem_append_left _ (List.mem_append_right _ h)))
  have f19 := hts (.fieldLink RX7 19 "QuarterTurns$Wear" "lying" "LQuarterTurns$Lying;") (by decide +kernel)
  have f43 := hts (.fieldLink RX7 43 "QuarterTurns$Lying" "way" "I") (by decide +kernel)
  have i2 : ∀ w ∈ wsX20, w ∈ wsX7_seasonsBy := fun w h => List.mem_cons_of_mem _ (List.mem_append_left _ (List.mem_append_right _ h))
  have mlk53 := hts (.methodLink RX7 53 Lib.Math.min.name) (by decide +kernel)
  have mstmin := hts (.static Lib.Math.min.name) (by decide +kernel)
  have mini := hts (.initialized "java/lang/Math") (by decide +kernel)
  have mcdmin := hts (.code Lib.Math.min.name Lib.Math.min.code 2 (some .int)) (by decide +kernel)
  refine lv_aload_n hx hb dX7_seasonsBy_0 rfl (lv_at hl 0 rfl) ?_
  refine z_cV (As := []) (rest := []) ⟨hx, hb, hml, hown, hts⟩ (c_X7_isOut l G hw0 ap hb0 al S C Wy Li St hy0 aw wy se tu wn ld (by first | assumption | omega) (by first | assumption | omega)) (cwV 0 hts gX7_seasonsBy_X7_isOut rfl rfl rfl pd_X7_isOut ⟨(Nat.le_of_ble_eq_true rfl), (Nat.le_of_ble_eq_true rfl)⟩) hK hP hS [0, 1, 2, 3, 4] rfl rfl rfl rfl rfl hl.1 rfl (Nat.le_of_ble_eq_true rfl) dX7_seasonsBy_1 ⟨Nat.zero_le _, Nat.zero_le _⟩ (fun H locs hP hS => ?_)
  refine z_ifeq_b (tgt := 9) hx hb dX7_seasonsBy_4 (by decide) (fun c_1 => ?_) (fun c_1 => ?_)
  · have hno : ∀ i : Int, 0 ≤ i → i < 12 → wn i < Li := fun i h1 h2 => by have := grZ_ge (f := wn) 12 i h1 (by omega); omega
    refine lv_aload_n hx hb dX7_seasonsBy_9 rfl (lv_at hl 0 rfl) ?_
    refine va_get (ci := 7) (v := .ref hb0) (C := RX7) (T := TX7) (N := 3) hx hb hts i7 hown hK hP 0 rfl rfl 0 (by decide) f15 (fun _ h9 => h9) rfl dX7_seasonsBy_10 ?_
    refine lv_iload_n hx hb dX7_seasonsBy_13 rfl (lv_at hl 1 rfl) ?_
    refine z_cV (As := [.int (zI t)]) (rest := []) ⟨hx, hb, hml, hown, hts⟩ (c_X0_orderOf l G hb0 al S C Wy Li St t (by first | assumption | omega) (by first | assumption | omega)) (cwV 1 hts gX7_seasonsBy_X0_orderOf rfl rfl rfl pd_X0_orderOf ⟨(Nat.le_of_ble_eq_true rfl), (Nat.le_of_ble_eq_true rfl)⟩) hK hP hS [1] rfl rfl rfl rfl rfl hl.1 rfl (Nat.le_of_ble_eq_true rfl) dX7_seasonsBy_14 ⟨Nat.zero_le _, Nat.zero_le _⟩ (fun H locs hP hS => ?_)
    have hq_2 := ordZ_rng S t
    refine lv_istore_n (lv' := [(2, .int (zI (ordZ S t))), (0, .ref hw0), (1, .int (zI t))]) hx hb dX7_seasonsBy_17 rfl hl (by decide) rfl (fun ls hl => ?_)
    refine lv_aload_n hx hb dX7_seasonsBy_18 rfl (lv_at hl 1 rfl) ?_
    refine va_get (ci := 7) (v := .ref hb0) (C := RX7) (T := TX7) (N := 3) hx hb hts i7 hown hK hP 0 rfl rfl 0 (by decide) f15 (fun _ h9 => h9) rfl dX7_seasonsBy_19 ?_
    refine lv_aload_n hx hb dX7_seasonsBy_22 rfl (lv_at hl 1 rfl) ?_
    refine va_get (ci := 7) (v := .ref hy0) (C := RX7) (T := TX7) (N := 3) hx hb hts i7 hown hK hP 0 rfl rfl 1 (by decide) f19 (fun _ h9 => h9) rfl dX7_seasonsBy_23 ?_
    refine va_get (ci := 2) (v := .int (zI wy)) (C := RX2) (T := TX2) (N := 4) hx hb hts i2 hown hK hP 2 rfl rfl 0 (by decide) f43 (fun _ h9 => h9) rfl dX7_seasonsBy_26 ?_
    refine lv_iload_n hx hb dX7_seasonsBy_29 rfl (lv_at hl 2 rfl) ?_
    refine z_cV (As := [.int (zI wy), .int (zI t)]) (rest := []) ⟨hx, hb, hml, hown, hts⟩ (c_X0_from l G hb0 al S C Wy Li St wy t (by first | assumption | omega) (by first | assumption | omega) (by first | assumption | omega)) (cwV 2 hts gX7_seasonsBy_X0_from rfl rfl rfl pd_X0_from ⟨(Nat.le_of_ble_eq_true rfl), (Nat.le_of_ble_eq_true rfl)⟩) hK hP hS [1] rfl rfl rfl rfl rfl hl.1 rfl (Nat.le_of_ble_eq_true rfl) dX7_seasonsBy_30 ⟨Nat.zero_le _, Nat.zero_le _⟩ (fun H locs hP hS => ?_)
    have hq_3 := fromZ_rng (C := C) (Wy := Wy) (w := wy) (t := t) ((by first | assumption | omega)) ((by first | assumption | omega)) ((by first | assumption | omega))
    refine lv_istore_n (lv' := [(3, .int (zI (fromZ S wy t))), (2, .int (zI (ordZ S t))), (0, .ref hw0), (1, .int (zI t))]) hx hb dX7_seasonsBy_33 rfl hl (by decide) rfl (fun ls hl => ?_)
    refine lv_iload_n hx hb dX7_seasonsBy_34 rfl (lv_at hl 1 rfl) ?_
    refine lv_aload_n hx hb dX7_seasonsBy_35 rfl (lv_at hl 2 rfl) ?_
    refine lv_iload_n hx hb dX7_seasonsBy_36 rfl (lv_at hl 0 rfl) ?_
    refine z_cV (As := [.int (zI (fromZ S wy t))]) (rest := [.int (zI (ordZ S t))]) ⟨hx, hb, hml, hown, hts⟩ (c_X7_visitsToLimit l G hw0 ap hb0 al S C Wy Li St hy0 aw wy se tu wn ld (fromZ S wy t) (by first | assumption | omega) (by first | assumption | omega) (by first | assumption | omega) (by first | assumption | omega) (by exact hno _ (by omega) (by omega))) (cwV 1 hts gX7_seasonsBy_X7_visitsToLimit rfl rfl rfl pd_X7_visitsToLimit ⟨(Nat.le_of_ble_eq_true rfl), (Nat.le_of_ble_eq_true rfl)⟩) hK hP hS [0, 1, 2, 3, 4] rfl rfl rfl rfl rfl hl.1 rfl (Nat.le_of_ble_eq_true rfl) dX7_seasonsBy_37 ⟨Nat.zero_le _, Nat.zero_le _⟩ (fun H locs hP hS => ?_)
    have hq_4 := visZ_rng (ld := ld) (wn := wn) (Li := Li) (w := (fromZ S wy t)) ((by first | assumption | omega)) ((by first | assumption | omega)) ((by first | assumption | omega)) ((by first | assumption | omega)) ((by exact hno _ (by omega) (by omega)))
    refine z_imul hx hb dX7_seasonsBy_40 ?_
    refine lv_iload_n hx hb dX7_seasonsBy_41 rfl (lv_at hl 1 rfl) ?_
    refine z_isub hx hb dX7_seasonsBy_42 ?_
    refine lv_iconst (v := zI 1) hx hb dX7_seasonsBy_43 rfl ?_
    refine z_iadd hx hb dX7_seasonsBy_44 ?_
    have hm0 := mul_rng (a := ordZ S t) (b := visZ ld wn Li (fromZ S wy t) - 1) (x := 12) (y := 98) (by omega) (by omega)
    rw [Int.mul_sub, Int.mul_one] at hm0
    refine lv_istore (lv' := [(4, .int (zI ((((ordZ S t) * (visZ ld wn Li (fromZ S wy t))) - (ordZ S t)) + 1))), (3, .int (zI (fromZ S wy t))), (2, .int (zI (ordZ S t))), (0, .ref hw0), (1, .int (zI t))]) hx hb dX7_seasonsBy_45 hl (by decide) rfl (fun ls hl => ?_)
    refine lv_iconst (v := zI 2) hx hb dX7_seasonsBy_47 rfl ?_
    refine lv_istore (lv' := [(5, .int (zI 2)), (4, .int (zI ((((ordZ S t) * (visZ ld wn Li (fromZ S wy t))) - (ordZ S t)) + 1))), (3, .int (zI (fromZ S wy t))), (2, .int (zI (ordZ S t))), (0, .ref hw0), (1, .int (zI t))]) hx hb dX7_seasonsBy_48 hl (by decide) rfl (fun ls hl => ?_)
    have loop50 : ∀ (n_ : Nat) (i : Int) (way : Int) (le : Int) (H : Heap) (locs : List Loc) (ls : Array Slot), (2 ≤ i ∧ i ≤ ordZ S t + 1) → (0 ≤ way ∧ way < Wy) → (way = wyI S t wy (i - 1).toNat) → (le = sbZ S t wy (ordZ S t) (visZ ld wn Li) (i - 2).toNat) → (0 ≤ le ∧ le ≤ 2000) → (ordZ S t + 1 - i).toNat < n_ → kP G [(hw0, .inr (7, [.ref hb0, .ref hy0, .ref ap])), (hb0, .inr (0, [.int (zI S), .int (zI C), .int (zI Wy), .int (zI Li), .int (zI St), .ref al])), (hy0, .inr (2, [.int (zI wy), .int (zI se), .int (zI tu), .ref aw])), (al, .inl (G.2.1, 12, .inl (aZ ld))), (aw, .inl (G.2.1, 12, .inl (aZ wn)))] H → va_S A s.heap H locs → lv_has ls 6 [(5, .int (zI i)), (4, .int (zI le)), (3, .int (zI way)), (2, .int (zI (ordZ S t))), (0, .ref hw0), (1, .int (zI t))] → W p l e rmX7_seasonsBy s m ([.ref hw0, .int (zI t)] : List Value).toArray below meth c H locs 0 0 Q (F0 m 50 ls []) := by
      intro n_
      induction n_ with
      | zero =>
        intro i way le H locs ls hi hwr hwe hle hlr hm
        exact absurd hm (Nat.not_lt_zero _)
      | succ n_ ih50 =>
        intro i way le H locs ls hi hwr hwe hle hlr hm50 hP hS hl
        refine lv_iload hx hb dX7_seasonsBy_50 (lv_at hl 0 rfl) ?_
        refine lv_iload_n hx hb dX7_seasonsBy_52 rfl (lv_at hl 3 rfl) ?_
        refine z_icmp_gt (tgt := 91) hx hb (by omega) dX7_seasonsBy_53 (by decide) (fun c_5 => ?_) (fun c_5 => ?_)
        · refine lv_iload hx hb dX7_seasonsBy_91 (lv_at hl 1 rfl) ?_
          exact hret H locs ls 93 _ (congrArg zI (by unfold seasZ; rw [if_neg (by omega), hle, show (i - 2).toNat = (ordZ S t - 1).toNat by omega])) hS dX7_seasonsBy_93
        · refine lv_aload_n hx hb dX7_seasonsBy_56 rfl (lv_at hl 4 rfl) ?_
          refine va_get (ci := 7) (v := .ref hb0) (C := RX7) (T := TX7) (N := 3) hx hb hts i7 hown hK hP 0 rfl rfl 0 (by decide) f15 (fun _ h9 => h9) rfl dX7_seasonsBy_57 ?_
          refine lv_iload_n hx hb dX7_seasonsBy_60 rfl (lv_at hl 2 rfl) ?_
          refine lv_iload_n hx hb dX7_seasonsBy_61 rfl (lv_at hl 5 rfl) ?_
          refine z_cV (As := [.int (zI way), .int (zI t)]) (rest := []) ⟨hx, hb, hml, hown, hts⟩ (c_X0_from l G hb0 al S C Wy Li St way t (by first | assumption | omega) (by first | assumption | omega) (by first | assumption | omega)) (cwV 2 hts gX7_seasonsBy_X0_from rfl rfl rfl pd_X0_from ⟨(Nat.le_of_ble_eq_true rfl), (Nat.le_of_ble_eq_true rfl)⟩) hK hP hS [1] rfl rfl rfl rfl rfl hl.1 rfl (Nat.le_of_ble_eq_true rfl) dX7_seasonsBy_62 ⟨Nat.zero_le _, Nat.zero_le _⟩ (fun H locs hP hS => ?_)
          have hq_6 := fromZ_rng (C := C) (Wy := Wy) (w := way) (t := t) ((by first | assumption | omega)) ((by first | assumption | omega)) ((by first | assumption | omega))
          refine lv_istore_n (lv' := [(3, .int (zI (fromZ S way t))), (5, .int (zI i)), (4, .int (zI le)), (2, .int (zI (ordZ S t))), (0, .ref hw0), (1, .int (zI t))]) hx hb dX7_seasonsBy_65 rfl hl (by decide) rfl (fun ls hl => ?_)
          refine lv_iload hx hb dX7_seasonsBy_66 (lv_at hl 2 rfl) ?_
          refine lv_iload_n hx hb dX7_seasonsBy_68 rfl (lv_at hl 3 rfl) ?_
          refine lv_aload_n hx hb dX7_seasonsBy_69 rfl (lv_at hl 4 rfl) ?_
          refine lv_iload_n hx hb dX7_seasonsBy_70 rfl (lv_at hl 0 rfl) ?_
          refine z_cV (As := [.int (zI (fromZ S way t))]) (rest := [.int (zI (ordZ S t)), .int (zI le)]) ⟨hx, hb, hml, hown, hts⟩ (c_X7_visitsToLimit l G hw0 ap hb0 al S C Wy Li St hy0 aw wy se tu wn ld (fromZ S way t) (by first | assumption | omega) (by first | assumption | omega) (by first | assumption | omega) (by first | assumption | omega) (by exact hno _ (by omega) (by omega))) (cwV 1 hts gX7_seasonsBy_X7_visitsToLimit rfl rfl rfl pd_X7_visitsToLimit ⟨(Nat.le_of_ble_eq_true rfl), (Nat.le_of_ble_eq_true rfl)⟩) hK hP hS [0, 1, 2, 3, 4] rfl rfl rfl rfl rfl hl.1 rfl (Nat.le_of_ble_eq_true rfl) dX7_seasonsBy_71 ⟨Nat.zero_le _, Nat.zero_le _⟩ (fun H locs hP hS => ?_)
          have hq_7 := visZ_rng (ld := ld) (wn := wn) (Li := Li) (w := (fromZ S way t)) ((by first | assumption | omega)) ((by first | assumption | omega)) ((by first | assumption | omega)) ((by first | assumption | omega)) ((by exact hno _ (by omega) (by omega)))
          refine z_imul hx hb dX7_seasonsBy_74 ?_
          refine lv_iload_n hx hb dX7_seasonsBy_75 rfl (lv_at hl 3 rfl) ?_
          refine z_isub hx hb dX7_seasonsBy_76 ?_
          refine lv_iload hx hb dX7_seasonsBy_77 (lv_at hl 1 rfl) ?_
          refine z_iadd hx hb dX7_seasonsBy_79 ?_
          have hm1 := mul_rng (a := ordZ S t) (b := visZ ld wn Li (fromZ S way t) - 1) (x := 12) (y := 98) (by omega) (by omega)
          rw [Int.mul_sub, Int.mul_one] at hm1
          refine z_mmin hx hb (hml.trans hl.1.symm) hown mlk53 mstmin mini mcdmin (Nat.le_of_ble_eq_true rfl) (Nat.le_of_ble_eq_true rfl) (Nat.zero_le _) (Nat.zero_le _) (by omega) dX7_seasonsBy_80 ?_
          refine lv_istore (lv' := [(4, .int (zI (if ((((ordZ S t) * (visZ ld wn Li (fromZ S way t))) - (ordZ S t)) + i) < le then ((((ordZ S t) * (visZ ld wn Li (fromZ S way t))) - (ordZ S t)) + i) else le))), (3, .int (zI (fromZ S way t))), (5, .int (zI i)), (2, .int (zI (ordZ S t))), (0, .ref hw0), (1, .int (zI t))]) hx hb dX7_seasonsBy_83 hl (by decide) rfl (fun ls hl => ?_)
          refine lv_iinc (v := zI (i + 1)) (lv' := [(5, .int (zI (i + 1))), (4, .int (zI (if ((((ordZ S t) * (visZ ld wn Li (fromZ S way t))) - (ordZ S t)) + i) < le then ((((ordZ S t) * (visZ ld wn Li (fromZ S way t))) - (ordZ S t)) + i) else le))), (3, .int (zI (fromZ S way t))), (2, .int (zI (ordZ S t))), (0, .ref hw0), (1, .int (zI t))]) hx hb dX7_seasonsBy_85 hl (k := 2) rfl (zI_add _ _) (by decide) rfl (fun ls hl => ?_)
          refine lv_goto (tgt := 50) hx hb dX7_seasonsBy_88 (by decide) ?_
          exact ih50 (i + 1) (fromZ S way t) (if ((((ordZ S t) * (visZ ld wn Li (fromZ S way t))) - (ordZ S t)) + i) < le then ((((ordZ S t) * (visZ ld wn Li (fromZ S way t))) - (ordZ S t)) + i) else le) H locs ls (by omega) (by omega) (by rw [show (i + 1 - 1).toNat = (i - 1).toNat + 1 by omega, wyI, ← hwe]) (by rw [show (i + 1 - 2).toNat = (i - 2).toNat + 1 by omega, sbZ, ← hle, show (i - 2).toNat + 2 = (i - 1).toNat + 1 by omega, wyI, ← hwe, show (((i - 2).toNat : Nat) : Int) + 2 = i by omega]) (by split <;> omega) (by omega) hP hS (lv_sub hl [0, 1, 2, 3, 4, 5] rfl)
    exact loop50 _ 2 (fromZ S wy t) ((((ordZ S t) * (visZ ld wn Li (fromZ S wy t))) - (ordZ S t)) + 1) H locs ls (by omega) (by omega) rfl rfl (by omega) (Nat.lt_succ_self _) hP hS (lv_sub hl [0, 1, 2, 3, 4, 5] rfl)
  · refine lv_iconst (v := zI 0) hx hb dX7_seasonsBy_7 rfl ?_
    exact hret H locs ls 8 _ (congrArg zI (by unfold seasZ; rw [if_pos (by omega)])) hS dX7_seasonsBy_8
theorem pd_X7_room : yX7_room.cls = RX7 ∧ yX7_room.cls ≠ "java/lang/invoke/MethodHandle" ∧ yX7_room.cls ≠ "java/lang/invoke/VarHandle" ∧ (parseMethodDescriptor yX7_room.desc).map (fun d => d.parameters.length) = some 1 := by decide +kernel
abbrev rmX7_room : Room := { frames := 1, cells := 0, slots := 0, locals := 21 }
set_option maxHeartbeats 4000000 in
set_option maxRecDepth 100000 in
theorem c_X7_room (l : Launch) (G : CX) (hw0 : Nat) (ap : Nat) (hb0 : Nat) (al : Nat) (S : Int) (C : Int) (Wy : Int) (Li : Int) (St : Int) (hy0 : Nat) (aw : Nat) (wy : Int) (se : Int) (tu : Int) (wn : Int → Int) (ld : Int → Int) (mark : Int) (hB : (2 ≤ S ∧ S ≤ 6) ∧ (C = 1 ∧ Wy = S ∨ C = 2 ∧ Wy = 2 * S)) (hld : ∀ i : Int, 0 ≤ i → i < 12 → 1 ≤ ld i ∧ ld i ≤ 9) (hmk : 0 ≤ mark ∧ mark ≤ 2000) (hwm : ∀ i : Int, 0 ≤ i → i < 12 → 0 ≤ wn i ∧ wn i ≤ mark) : Met l yX7_room wsX7_room rmX7_room (rdP G [.ref hw0, .int (zI mark)] [(hw0, .inr (7, [.ref hb0, .ref hy0, .ref ap])), (hb0, .inr (0, [.int (zI S), .int (zI C), .int (zI Wy), .int (zI Li), .int (zI St), .ref al])), (hy0, .inr (2, [.int (zI wy), .int (zI se), .int (zI tu), .ref aw])), (al, .inl (G.2.1, 12, .inl (aZ ld))), (aw, .inl (G.2.1, 12, .inl (aZ wn)))]) (rdQ (zI (rmZ mark wn ld Wy.toNat))) 0 0 noA := by
  refine rd_ofW (cc := cX7_room) (maxL := 4) (ty := .int) (by decide) rfl (Nat.le_of_ble_eq_true rfl) rfl ?_
  intro p e s m below meth c Q A hx hb hml hown hts hK hret H locs hP hS ls hl
  have hown : s.vm.findClass RX7 = some m.cls := hown
  have hl : lv_has ls 4 [(0, .ref hw0), (1, .int (zI mark))] := hl
  have f15 := hts (.fieldLink RX7 15 "QuarterTurns$Wear" "bed" "LQuarterTurns$Bed;") (by decide +kernel)
  have i7 : ∀ w ∈ wsX70, w ∈ wsX7_room := fun w h => List.mem_cons_of_mem _ (List.mem_append_left _ (List.mem_append_left _ (List.mem_append_right _ h)))
  have f67 := hts (.fieldLink RX7 67 "QuarterTurns$Bed" "ways" "I") (by decide +kernel)
  have i0 : ∀ w ∈ wsX00, w ∈ wsX7_room := fun w h => List.mem_cons_of_mem _ (List.mem_append_left _ (List.mem_append_right _ h))
  have f19 := hts (.fieldLink RX7 19 "QuarterTurns$Wear" "lying" "LQuarterTurns$Lying;") (by decide +kernel)
  have f58 := hts (.fieldLink RX7 58 "QuarterTurns$Lying" "worn" "[I") (by decide +kernel)
  have i2 : ∀ w ∈ wsX20, w ∈ wsX7_room := fun w h => List.mem_cons_of_mem _ (List.mem_append_right _ h)
  have f61 := hts (.fieldLink RX7 61 "QuarterTurns$Bed" "loads" "[I") (by decide +kernel)
  refine lv_iconst (v := zI 0) hx hb dX7_room_0 rfl ?_
  refine lv_istore_n (lv' := [(2, .int (zI 0)), (0, .ref hw0), (1, .int (zI mark))]) hx hb dX7_room_1 rfl hl (by decide) rfl (fun ls hl => ?_)
  refine lv_iconst (v := zI 0) hx hb dX7_room_2 rfl ?_
  refine lv_istore_n (lv' := [(3, .int (zI 0)), (2, .int (zI 0)), (0, .ref hw0), (1, .int (zI mark))]) hx hb dX7_room_3 rfl hl (by decide) rfl (fun ls hl => ?_)
  have loop4 : ∀ (n_ : Nat) (w : Int) (su : Int) (H : Heap) (locs : List Loc) (ls : Array Slot), (0 ≤ w ∧ w ≤ Wy) → (su = rmZ mark wn ld w.toNat) → (Wy - w).toNat < n_ → kP G [(hw0, .inr (7, [.ref hb0, .ref hy0, .ref ap])), (hb0, .inr (0, [.int (zI S), .int (zI C), .int (zI Wy), .int (zI Li), .int (zI St), .ref al])), (hy0, .inr (2, [.int (zI wy), .int (zI se), .int (zI tu), .ref aw])), (al, .inl (G.2.1, 12, .inl (aZ ld))), (aw, .inl (G.2.1, 12, .inl (aZ wn)))] H → va_S A s.heap H locs → lv_has ls 4 [(3, .int (zI w)), (2, .int (zI su)), (0, .ref hw0), (1, .int (zI mark))] → W p l e rmX7_room s m ([.ref hw0, .int (zI mark)] : List Value).toArray below meth c H locs 0 0 Q (F0 m 4 ls []) := by
    intro n_
    induction n_ with
    | zero =>
      intro w su H locs ls hw hsu hm
      exact absurd hm (Nat.not_lt_zero _)
    | succ n_ ih4 =>
      intro w su H locs ls hw hsu hm4 hP hS hl
      refine lv_iload_n hx hb dX7_room_4 rfl (lv_at hl 0 rfl) ?_
      refine lv_aload_n hx hb dX7_room_5 rfl (lv_at hl 2 rfl) ?_
      refine va_get (ci := 7) (v := .ref hb0) (C := RX7) (T := TX7) (N := 3) hx hb hts i7 hown hK hP 0 rfl rfl 0 (by decide) f15 (fun _ h9 => h9) rfl dX7_room_6 ?_
      refine va_get (ci := 0) (v := .int (zI Wy)) (C := RX0) (T := TX0) (N := 6) hx hb hts i0 hown hK hP 1 rfl rfl 2 (by decide) f67 (fun _ h9 => h9) rfl dX7_room_9 ?_
      refine z_icmp_ge (tgt := 47) hx hb (by omega) dX7_room_12 (by decide) (fun c_1 => ?_) (fun c_1 => ?_)
      · refine lv_iload_n hx hb dX7_room_47 rfl (lv_at hl 1 rfl) ?_
        exact hret H locs ls 48 _ (congrArg zI (by rw [hsu, show w = Wy by omega])) hS dX7_room_48
      · refine lv_iload_n hx hb dX7_room_15 rfl (lv_at hl 1 rfl) ?_
        refine lv_iload_n hx hb dX7_room_16 rfl (lv_at hl 3 rfl) ?_
        refine lv_aload_n hx hb dX7_room_17 rfl (lv_at hl 2 rfl) ?_
        refine va_get (ci := 7) (v := .ref hy0) (C := RX7) (T := TX7) (N := 3) hx hb hts i7 hown hK hP 0 rfl rfl 1 (by decide) f19 (fun _ h9 => h9) rfl dX7_room_18 ?_
        refine va_get (ci := 2) (v := .ref aw) (C := RX2) (T := TX2) (N := 4) hx hb hts i2 hown hK hP 2 rfl rfl 3 (by decide) f58 (fun _ h9 => h9) rfl dX7_room_21 ?_
        refine lv_iload_n hx hb dX7_room_24 rfl (lv_at hl 0 rfl) ?_
        refine z_iald (n := 12) (f := wn) hx hb hK hP 4 rfl (by omega) dX7_room_25 ?_
        have he_2 := hwm w (by omega) (by omega)
        refine z_isub hx hb dX7_room_26 ?_
        refine lv_aload_n hx hb dX7_room_27 rfl (lv_at hl 2 rfl) ?_
        refine va_get (ci := 7) (v := .ref hb0) (C := RX7) (T := TX7) (N := 3) hx hb hts i7 hown hK hP 0 rfl rfl 0 (by decide) f15 (fun _ h9 => h9) rfl dX7_room_28 ?_
        refine va_get (ci := 0) (v := .ref al) (C := RX0) (T := TX0) (N := 6) hx hb hts i0 hown hK hP 1 rfl rfl 5 (by decide) f61 (fun _ h9 => h9) rfl dX7_room_31 ?_
        refine lv_iload_n hx hb dX7_room_34 rfl (lv_at hl 0 rfl) ?_
        refine z_iald (n := 12) (f := ld) hx hb hK hP 3 rfl (by omega) dX7_room_35 ?_
        have he_3 := hld w (by omega) (by omega)
        refine z_cS (As := [.int (zI (mark - (wn w))), .int (zI (ld w))]) (rest := [.int (zI su)]) ⟨hx, hb, hml, hown, hts⟩ (c_X7_quotient l G (mark - (wn w)) (ld w) (by first | assumption | omega)) (va_cwS 2 hts gX7_room_X7_quotient rfl rfl rfl pd_X7_quotient.2 ⟨(Nat.le_of_ble_eq_true rfl), (Nat.le_of_ble_eq_true rfl)⟩) hK hP hS [] rfl rfl hl.1 rfl (Nat.le_of_ble_eq_true rfl) dX7_room_36 ⟨Nat.zero_le _, Nat.zero_le _⟩ (fun H locs hP hS => ?_)
        refine z_iadd hx hb dX7_room_39 ?_
        refine lv_istore_n (lv' := [(2, .int (zI (su + ((mark - (wn w)) / (ld w))))), (3, .int (zI w)), (0, .ref hw0), (1, .int (zI mark))]) hx hb dX7_room_40 rfl hl (by decide) rfl (fun ls hl => ?_)
        refine lv_iinc (v := zI (w + 1)) (lv' := [(3, .int (zI (w + 1))), (2, .int (zI (su + ((mark - (wn w)) / (ld w))))), (0, .ref hw0), (1, .int (zI mark))]) hx hb dX7_room_41 hl (k := 1) rfl (zI_add _ _) (by decide) rfl (fun ls hl => ?_)
        refine lv_goto (tgt := 4) hx hb dX7_room_44 (by decide) ?_
        exact ih4 (w + 1) (su + ((mark - (wn w)) / (ld w))) H locs ls (by omega) (by rw [tn1 hw.1, rmZ, ← hsu, Int.toNat_of_nonneg hw.1]) (by omega) hP hS (lv_sub hl [0, 1, 2, 3] rfl)
  exact loop4 _ 0 0 H locs ls (by omega) rfl (Nat.lt_succ_self _) hP hS (lv_sub hl [0, 1, 2, 3] rfl)
theorem pd_X7_leastGreatest : yX7_leastGreatest.cls = RX7 ∧ yX7_leastGreatest.cls ≠ "java/lang/invoke/MethodHandle" ∧ yX7_leastGreatest.cls ≠ "java/lang/invoke/VarHandle" ∧ (parseMethodDescriptor yX7_leastGreatest.desc).map (fun d => d.parameters.length) = some 1 := by decide +kernel
abbrev rmX7_leastGreatest : Room := { frames := 2, cells := 0, slots := 0, locals := 52 }
set_option maxHeartbeats 4000000 in
set_option maxRecDepth 100000 in
theorem c_X7_leastGreatest (l : Launch) (G : CX) (hw0 : Nat) (ap : Nat) (hb0 : Nat) (al : Nat) (S : Int) (C : Int) (Wy : Int) (Li : Int) (St : Int) (hy0 : Nat) (aw : Nat) (wy : Int) (se : Int) (tu : Int) (wn : Int → Int) (ld : Int → Int) (n : Int) (hB : (2 ≤ S ∧ S ≤ 6) ∧ (C = 1 ∧ Wy = S ∨ C = 2 ∧ Wy = 2 * S)) (hwn : ∀ i : Int, 0 ≤ i → i < 12 → 0 ≤ wn i ∧ wn i ≤ 999) (hld : ∀ i : Int, 0 ≤ i → i < 12 → 1 ≤ ld i ∧ ld i ≤ 9) (hn : 1 ≤ n ∧ n ≤ 4) : Met l yX7_leastGreatest wsX7_leastGreatest rmX7_leastGreatest (rdP G [.ref hw0, .int (zI n)] [(hw0, .inr (7, [.ref hb0, .ref hy0, .ref ap])), (hb0, .inr (0, [.int (zI S), .int (zI C), .int (zI Wy), .int (zI Li), .int (zI St), .ref al])), (hy0, .inr (2, [.int (zI wy), .int (zI se), .int (zI tu), .ref aw])), (al, .inl (G.2.1, 12, .inl (aZ ld))), (aw, .inl (G.2.1, 12, .inl (aZ wn)))]) (rdQ (zI (lgZ wn ld Wy.toNat n))) 0 0 noA := by
  refine rd_ofW (cc := cX7_leastGreatest) (maxL := 4) (ty := .int) (by decide) rfl (Nat.le_of_ble_eq_true rfl) rfl ?_
  intro p e s m below meth c Q A hx hb hml hown hts hK hret H locs hP hS ls hl
  have hown : s.vm.findClass RX7 = some m.cls := hown
  have hl : lv_has ls 4 [(0, .ref hw0), (1, .int (zI n))] := hl
  have f19 := hts (.fieldLink RX7 19 "QuarterTurns$Wear" "lying" "LQuarterTurns$Lying;") (by decide +kernel)
  have i7 : ∀ w ∈ wsX70, w ∈ wsX7_leastGreatest := fun w h => List.mem_cons_of_mem _ (List.mem_append_left _ (List.mem_append_left _ (List.mem_append_right _ h)))
  refine lv_aload_n hx hb dX7_leastGreatest_0 rfl (lv_at hl 0 rfl) ?_
  refine va_get (ci := 7) (v := .ref hy0) (C := RX7) (T := TX7) (N := 3) hx hb hts i7 hown hK hP 0 rfl rfl 1 (by decide) f19 (fun _ h9 => h9) rfl dX7_leastGreatest_1 ?_
  refine z_cV (As := []) (rest := []) ⟨hx, hb, hml, hown, hts⟩ (c_X2_greatest l G hy0 aw wy se tu wn (by first | assumption | omega)) (cwV 0 hts gX7_leastGreatest_X2_greatest rfl rfl rfl pd_X2_greatest ⟨(Nat.le_of_ble_eq_true rfl), (Nat.le_of_ble_eq_true rfl)⟩) hK hP hS [2, 4] rfl rfl rfl rfl rfl hl.1 rfl (Nat.le_of_ble_eq_true rfl) dX7_leastGreatest_4 ⟨Nat.zero_le _, Nat.zero_le _⟩ (fun H locs hP hS => ?_)
  have hq_1 := grZ_rng (f := wn) (N := 12) (b := 999) (by omega) ((by first | assumption | omega)) 12 (by omega)
  refine lv_istore_n (lv' := [(2, .int (zI (grZ wn 12))), (0, .ref hw0), (1, .int (zI n))]) hx hb dX7_leastGreatest_7 rfl hl (by decide) rfl (fun ls hl => ?_)
  refine lv_iload_n hx hb dX7_leastGreatest_8 rfl (lv_at hl 0 rfl) ?_
  refine lv_bipush (v := zI 36) hx hb dX7_leastGreatest_9 (by decide) ?_
  refine z_iadd hx hb dX7_leastGreatest_11 ?_
  refine lv_istore_n (lv' := [(3, .int (zI ((grZ wn 12) + 36))), (2, .int (zI (grZ wn 12))), (0, .ref hw0), (1, .int (zI n))]) hx hb dX7_leastGreatest_12 rfl hl (by decide) rfl (fun ls hl => ?_)
  have loop13 : ∀ (n_ : Nat) (mk : Int) (H : Heap) (locs : List Loc) (ls : Array Slot), (grZ wn 12 ≤ mk ∧ mk ≤ grZ wn 12 + 36) → (lgG wn ld Wy.toNat n (grZ wn 12 + 36) (grZ wn 12 + 36 - mk).toNat mk = lgZ wn ld Wy.toNat n) → (grZ wn 12 + 36 - mk).toNat < n_ → kP G [(hw0, .inr (7, [.ref hb0, .ref hy0, .ref ap])), (hb0, .inr (0, [.int (zI S), .int (zI C), .int (zI Wy), .int (zI Li), .int (zI St), .ref al])), (hy0, .inr (2, [.int (zI wy), .int (zI se), .int (zI tu), .ref aw])), (al, .inl (G.2.1, 12, .inl (aZ ld))), (aw, .inl (G.2.1, 12, .inl (aZ wn)))] H → va_S A s.heap H locs → lv_has ls 4 [(3, .int (zI ((grZ wn 12) + 36))), (2, .int (zI mk)), (0, .ref hw0), (1, .int (zI n))] → W p l e rmX7_leastGreatest s m ([.ref hw0, .int (zI n)] : List Value).toArray below meth c H locs 0 0 Q (F0 m 13 ls []) := by
    intro n_
    induction n_ with
    | zero =>
      intro mk H locs ls hmr hlg hm
      exact absurd hm (Nat.not_lt_zero _)
    | succ n_ ih13 =>
      intro mk H locs ls hmr hlg hm13 hP hS hl
      refine lv_iload_n hx hb dX7_leastGreatest_13 rfl (lv_at hl 1 rfl) ?_
      refine lv_iload_n hx hb dX7_leastGreatest_14 rfl (lv_at hl 0 rfl) ?_
      refine z_icmp_ge (tgt := 33) hx hb (by omega) dX7_leastGreatest_15 (by decide) (fun c_2 => ?_) (fun c_2 => ?_)
      · refine lv_iload_n hx hb dX7_leastGreatest_33 rfl (lv_at hl 1 rfl) ?_
        exact hret H locs ls 34 _ (congrArg zI (by rw [← hlg, lgG_stop (by omega)])) hS dX7_leastGreatest_34
      · refine lv_aload_n hx hb dX7_leastGreatest_18 rfl (lv_at hl 2 rfl) ?_
        refine lv_iload_n hx hb dX7_leastGreatest_19 rfl (lv_at hl 1 rfl) ?_
        refine z_cV (As := [.int (zI mk)]) (rest := []) ⟨hx, hb, hml, hown, hts⟩ (c_X7_room l G hw0 ap hb0 al S C Wy Li St hy0 aw wy se tu wn ld mk (by first | assumption | omega) (by first | assumption | omega) (by first | assumption | omega) (by exact fun i h1 h2 => ⟨(hwn i h1 h2).1, Int.le_trans (grZ_ge (f := wn) 12 i h1 (by omega)) hmr.1⟩)) (cwV 1 hts gX7_leastGreatest_X7_room rfl rfl rfl pd_X7_room ⟨(Nat.le_of_ble_eq_true rfl), (Nat.le_of_ble_eq_true rfl)⟩) hK hP hS [0, 1, 2, 3, 4] rfl rfl rfl rfl rfl hl.1 rfl (Nat.le_of_ble_eq_true rfl) dX7_leastGreatest_20 ⟨Nat.zero_le _, Nat.zero_le _⟩ (fun H locs hP hS => ?_)
        have hq_3 := rmZ_rng (mark := mk) (wn := wn) (ld := ld) (by omega) ((by exact fun i h1 h2 => ⟨(hwn i h1 h2).1, Int.le_trans (grZ_ge (f := wn) 12 i h1 (by omega)) hmr.1⟩)) ((by first | assumption | omega)) Wy.toNat (by omega)
        refine lv_iload_n hx hb dX7_leastGreatest_23 rfl (lv_at hl 3 rfl) ?_
        refine z_icmp_ge (tgt := 33) hx hb (by omega) dX7_leastGreatest_24 (by decide) (fun c_4 => ?_) (fun c_4 => ?_)
        · refine lv_iload_n hx hb dX7_leastGreatest_33 rfl (lv_at hl 1 rfl) ?_
          exact hret H locs ls 34 _ (congrArg zI (by rw [← hlg, lgG_stop (by omega)])) hS dX7_leastGreatest_34
        · refine lv_iinc (v := zI (mk + 1)) (lv' := [(2, .int (zI (mk + 1))), (3, .int (zI ((grZ wn 12) + 36))), (0, .ref hw0), (1, .int (zI n))]) hx hb dX7_leastGreatest_27 hl (k := 1) rfl (zI_add _ _) (by decide) rfl (fun ls hl => ?_)
          refine lv_goto (tgt := 13) hx hb dX7_leastGreatest_30 (by decide) ?_
          exact ih13 (mk + 1) H locs ls (by omega) (by rw [← lgG_step (by omega) (by omega)]; exact hlg) (by omega) hP hS (lv_sub hl [1, 0, 2, 3] rfl)
  exact loop13 _ (grZ wn 12) H locs ls (by omega) (by unfold lgZ; rw [show (grZ wn 12 + 36 - grZ wn 12).toNat = 36 by omega]) (Nat.lt_succ_self _) hP hS (lv_sub hl [0, 1, 2, 3] rfl)
theorem pd_X7_firstTurnUnder : yX7_firstTurnUnder.cls = RX7 ∧ yX7_firstTurnUnder.cls ≠ "java/lang/invoke/MethodHandle" ∧ yX7_firstTurnUnder.cls ≠ "java/lang/invoke/VarHandle" ∧ (parseMethodDescriptor yX7_firstTurnUnder.desc).map (fun d => d.parameters.length) = some 2 := by decide +kernel
abbrev rmX7_firstTurnUnder : Room := { frames := 2, cells := 0, slots := 0, locals := 45 }
set_option maxHeartbeats 4000000 in
set_option maxRecDepth 100000 in
theorem c_X7_firstTurnUnder (l : Launch) (G : CX) (hw0 : Nat) (ap : Nat) (hb0 : Nat) (al : Nat) (S : Int) (C : Int) (Wy : Int) (Li : Int) (St : Int) (hy0 : Nat) (aw : Nat) (wy : Int) (se : Int) (tu : Int) (wn : Int → Int) (ld : Int → Int) (pf : Int → Int) (mark : Int) (way : Int) (hB : (2 ≤ S ∧ S ≤ 6) ∧ (C = 1 ∧ Wy = S ∨ C = 2 ∧ Wy = 2 * S)) (hld : ∀ i : Int, 0 ≤ i → i < 12 → 1 ≤ ld i ∧ ld i ≤ 9) (hmk : 0 ≤ mark ∧ mark ≤ 2000) (hpf : ∀ i : Int, 0 ≤ i → i < 12 → 0 ≤ pf i ∧ pf i ≤ 2000) (hwr : 0 ≤ way ∧ way < Wy) : Met l yX7_firstTurnUnder wsX7_firstTurnUnder rmX7_firstTurnUnder (rdP G [.ref hw0, .int (zI mark), .int (zI way)] [(hw0, .inr (7, [.ref hb0, .ref hy0, .ref ap])), (hb0, .inr (0, [.int (zI S), .int (zI C), .int (zI Wy), .int (zI Li), .int (zI St), .ref al])), (hy0, .inr (2, [.int (zI wy), .int (zI se), .int (zI tu), .ref aw])), (al, .inl (G.2.1, 12, .inl (aZ ld))), (aw, .inl (G.2.1, 12, .inl (aZ wn))), (ap, .inl (G.2.1, 12, .inl (aZ pf)))]) (rdQ (zI (ftZ S Wy ld pf mark way))) 0 0 noA := by
  refine rd_ofW (cc := cX7_firstTurnUnder) (maxL := 5) (ty := .int) (by decide) rfl (Nat.le_of_ble_eq_true rfl) rfl ?_
  intro p e s m below meth c Q A hx hb hml hown hts hK hret H locs hP hS ls hl
  have hown : s.vm.findClass RX7 = some m.cls := hown
  have hl : lv_has ls 5 [(0, .ref hw0), (1, .int (zI mark)), (2, .int (zI way))] := hl
  have f15 := hts (.fieldLink RX7 15 "QuarterTurns$Wear" "bed" "LQuarterTurns$Bed;") (by decide +kernel)
  have i7 : ∀ w ∈ wsX70, w ∈ wsX7_firstTurnUnder := fun w h => List.mem_cons_of_mem _ (List.mem_append_left _ (List.mem_append_right _ h))
  have f67 := hts (.fieldLink RX7 67 "QuarterTurns$Bed" "ways" "I") (by decide +kernel)
  have i0 : ∀ w ∈ wsX00, w ∈ wsX7_firstTurnUnder := fun w h => List.mem_cons_of_mem _ (List.mem_append_right _ h)
  have f9 := hts (.fieldLink RX7 9 "QuarterTurns$Wear" "planned" "[I") (by decide +kernel)
  have f61 := hts (.fieldLink RX7 61 "QuarterTurns$Bed" "loads" "[I") (by decide +kernel)
  refine lv_iconst (v := zI 0) hx hb dX7_firstTurnUnder_0 rfl ?_
  refine lv_istore_n (lv' := [(3, .int (zI 0)), (0, .ref hw0), (1, .int (zI mark)), (2, .int (zI way))]) hx hb dX7_firstTurnUnder_1 rfl hl (by decide) rfl (fun ls hl => ?_)
  have loop2 : ∀ (n_ : Nat) (t : Int) (H : Heap) (locs : List Loc) (ls : Array Slot), (0 ≤ t ∧ t ≤ Wy) → (ftG S Wy ld pf mark way (Wy - t).toNat t = ftZ S Wy ld pf mark way) → (Wy - t).toNat < n_ → kP G [(hw0, .inr (7, [.ref hb0, .ref hy0, .ref ap])), (hb0, .inr (0, [.int (zI S), .int (zI C), .int (zI Wy), .int (zI Li), .int (zI St), .ref al])), (hy0, .inr (2, [.int (zI wy), .int (zI se), .int (zI tu), .ref aw])), (al, .inl (G.2.1, 12, .inl (aZ ld))), (aw, .inl (G.2.1, 12, .inl (aZ wn))), (ap, .inl (G.2.1, 12, .inl (aZ pf)))] H → va_S A s.heap H locs → lv_has ls 5 [(3, .int (zI t)), (0, .ref hw0), (1, .int (zI mark)), (2, .int (zI way))] → W p l e rmX7_firstTurnUnder s m ([.ref hw0, .int (zI mark), .int (zI way)] : List Value).toArray below meth c H locs 0 0 Q (F0 m 2 ls []) := by
    intro n_
    induction n_ with
    | zero =>
      intro t H locs ls ht hft hm
      exact absurd hm (Nat.not_lt_zero _)
    | succ n_ ih2 =>
      intro t H locs ls ht hft hm2 hP hS hl
      refine lv_iload_n hx hb dX7_firstTurnUnder_2 rfl (lv_at hl 0 rfl) ?_
      refine lv_aload_n hx hb dX7_firstTurnUnder_3 rfl (lv_at hl 1 rfl) ?_
      refine va_get (ci := 7) (v := .ref hb0) (C := RX7) (T := TX7) (N := 3) hx hb hts i7 hown hK hP 0 rfl rfl 0 (by decide) f15 (fun _ h9 => h9) rfl dX7_firstTurnUnder_4 ?_
      refine va_get (ci := 0) (v := .int (zI Wy)) (C := RX0) (T := TX0) (N := 6) hx hb hts i0 hown hK hP 1 rfl rfl 2 (by decide) f67 (fun _ h9 => h9) rfl dX7_firstTurnUnder_7 ?_
      refine z_icmp_ge (tgt := 54) hx hb (by omega) dX7_firstTurnUnder_10 (by decide) (fun c_1 => ?_) (fun c_1 => ?_)
      · refine lv_bipush (v := zI (-9)) hx hb dX7_firstTurnUnder_54 (by decide) ?_
        exact hret H locs ls 56 _ (congrArg zI (by rw [← hft, show (Wy - t).toNat = 0 by omega]; rfl)) hS dX7_firstTurnUnder_56
      · refine lv_aload_n hx hb dX7_firstTurnUnder_13 rfl (lv_at hl 1 rfl) ?_
        refine va_get (ci := 7) (v := .ref hb0) (C := RX7) (T := TX7) (N := 3) hx hb hts i7 hown hK hP 0 rfl rfl 0 (by decide) f15 (fun _ h9 => h9) rfl dX7_firstTurnUnder_14 ?_
        refine lv_iload_n hx hb dX7_firstTurnUnder_17 rfl (lv_at hl 3 rfl) ?_
        refine lv_iload_n hx hb dX7_firstTurnUnder_18 rfl (lv_at hl 0 rfl) ?_
        refine z_cV (As := [.int (zI way), .int (zI t)]) (rest := []) ⟨hx, hb, hml, hown, hts⟩ (c_X0_from l G hb0 al S C Wy Li St way t (by first | assumption | omega) (by first | assumption | omega) (by first | assumption | omega)) (cwV 2 hts gX7_firstTurnUnder_X0_from rfl rfl rfl pd_X0_from ⟨(Nat.le_of_ble_eq_true rfl), (Nat.le_of_ble_eq_true rfl)⟩) hK hP hS [1] rfl rfl rfl rfl rfl hl.1 rfl (Nat.le_of_ble_eq_true rfl) dX7_firstTurnUnder_19 ⟨Nat.zero_le _, Nat.zero_le _⟩ (fun H locs hP hS => ?_)
        have hq_2 := fromZ_rng (C := C) (Wy := Wy) (w := way) (t := t) ((by first | assumption | omega)) ((by first | assumption | omega)) ((by first | assumption | omega))
        refine lv_istore (lv' := [(4, .int (zI (fromZ S way t))), (3, .int (zI t)), (0, .ref hw0), (1, .int (zI mark)), (2, .int (zI way))]) hx hb dX7_firstTurnUnder_22 hl (by decide) rfl (fun ls hl => ?_)
        refine lv_aload_n hx hb dX7_firstTurnUnder_24 rfl (lv_at hl 2 rfl) ?_
        refine va_get (ci := 7) (v := .ref ap) (C := RX7) (T := TX7) (N := 3) hx hb hts i7 hown hK hP 0 rfl rfl 2 (by decide) f9 (fun _ h9 => h9) rfl dX7_firstTurnUnder_25 ?_
        refine lv_iload hx hb dX7_firstTurnUnder_28 (lv_at hl 0 rfl) ?_
        refine z_iald (n := 12) (f := pf) hx hb hK hP 5 rfl (by omega) dX7_firstTurnUnder_30 ?_
        have he_3 := hpf (fromZ S way t) (by omega) (by omega)
        refine lv_aload_n hx hb dX7_firstTurnUnder_31 rfl (lv_at hl 2 rfl) ?_
        refine va_get (ci := 7) (v := .ref hb0) (C := RX7) (T := TX7) (N := 3) hx hb hts i7 hown hK hP 0 rfl rfl 0 (by decide) f15 (fun _ h9 => h9) rfl dX7_firstTurnUnder_32 ?_
        refine va_get (ci := 0) (v := .ref al) (C := RX0) (T := TX0) (N := 6) hx hb hts i0 hown hK hP 1 rfl rfl 5 (by decide) f61 (fun _ h9 => h9) rfl dX7_firstTurnUnder_35 ?_
        refine lv_iload hx hb dX7_firstTurnUnder_38 (lv_at hl 0 rfl) ?_
        refine z_iald (n := 12) (f := ld) hx hb hK hP 3 rfl (by omega) dX7_firstTurnUnder_40 ?_
        have he_4 := hld (fromZ S way t) (by omega) (by omega)
        refine z_iadd hx hb dX7_firstTurnUnder_41 ?_
        refine lv_iload_n hx hb dX7_firstTurnUnder_42 rfl (lv_at hl 3 rfl) ?_
        refine z_icmp_gt (tgt := 48) hx hb (by omega) dX7_firstTurnUnder_43 (by decide) (fun c_5 => ?_) (fun c_5 => ?_)
        · refine lv_iinc (v := zI (t + 1)) (lv' := [(3, .int (zI (t + 1))), (4, .int (zI (fromZ S way t))), (0, .ref hw0), (1, .int (zI mark)), (2, .int (zI way))]) hx hb dX7_firstTurnUnder_48 hl (k := 1) rfl (zI_add _ _) (by decide) rfl (fun ls hl => ?_)
          refine lv_goto (tgt := 2) hx hb dX7_firstTurnUnder_51 (by decide) ?_
          exact ih2 (t + 1) H locs ls (by omega) (by rw [← hft, show (Wy - t).toNat = (Wy - (t + 1)).toNat + 1 by omega, ftG, if_neg (by omega)]) (by omega) hP hS (lv_sub hl [0, 2, 3, 4] rfl)
        · refine lv_iload_n hx hb dX7_firstTurnUnder_46 rfl (lv_at hl 1 rfl) ?_
          exact hret H locs ls 47 _ (congrArg zI (by rw [← hft, show (Wy - t).toNat = (Wy - (t + 1)).toNat + 1 by omega, ftG, if_pos (by omega)])) hS dX7_firstTurnUnder_47
  exact loop2 _ 0 H locs ls (by omega) (by unfold ftZ; rw [show (Wy - 0).toNat = Wy.toNat by omega]) (Nat.lt_succ_self _) hP hS (lv_sub hl [0, 1, 2, 3] rfl)
theorem pd_X7_plannedTurn : yX7_plannedTurn.cls = RX7 ∧ yX7_plannedTurn.cls ≠ "java/lang/invoke/MethodHandle" ∧ yX7_plannedTurn.cls ≠ "java/lang/invoke/VarHandle" ∧ (parseMethodDescriptor yX7_plannedTurn.desc).map (fun d => d.parameters.length) = some 2 := by decide +kernel
abbrev rmX7_plannedTurn : Room := { frames := 3, cells := 0, slots := 0, locals := 69 }
set_option maxHeartbeats 4000000 in
set_option maxRecDepth 100000 in
theorem c_X7_plannedTurn (l : Launch) (G : CX) (hw0 : Nat) (ap : Nat) (hb0 : Nat) (al : Nat) (S : Int) (C : Int) (Wy : Int) (Li : Int) (St : Int) (hy0 : Nat) (aw : Nat) (wy : Int) (se : Int) (tu : Int) (wn : Int → Int) (ld : Int → Int) (pf : Int → Int) (mark : Int) (k : Int) (hB : (2 ≤ S ∧ S ≤ 6) ∧ (C = 1 ∧ Wy = S ∨ C = 2 ∧ Wy = 2 * S)) (hwn : ∀ i : Int, 0 ≤ i → i < 12 → 0 ≤ wn i ∧ wn i ≤ 999) (hld : ∀ i : Int, 0 ≤ i → i < 12 → 1 ≤ ld i ∧ ld i ≤ 9) (hmk : 0 ≤ mark ∧ mark ≤ 2000) (hwy : 0 ≤ wy ∧ wy < Wy) (hk : 0 ≤ k ∧ k ≤ 3) (hok : ∀ i : Nat, (i : Int) ≤ k → 0 ≤ (plS S Wy ld mark wy wn  (i + 1)).2.2) : Met l yX7_plannedTurn wsX7_plannedTurn rmX7_plannedTurn (wrP G [.ref hw0, .int (zI mark), .int (zI k)] [(hw0, .inr (7, [.ref hb0, .ref hy0, .ref ap])), (hb0, .inr (0, [.int (zI S), .int (zI C), .int (zI Wy), .int (zI Li), .int (zI St), .ref al])), (hy0, .inr (2, [.int (zI wy), .int (zI se), .int (zI tu), .ref aw])), (al, .inl (G.2.1, 12, .inl (aZ ld))), (aw, .inl (G.2.1, 12, .inl (aZ wn))), (ap, .inl (G.2.1, 12, .inl (aZ pf)))]) (wrQ G [(hw0, .inr (7, [.ref hb0, .ref hy0, .ref ap])), (hb0, .inr (0, [.int (zI S), .int (zI C), .int (zI Wy), .int (zI Li), .int (zI St), .ref al])), (hy0, .inr (2, [.int (zI wy), .int (zI se), .int (zI tu), .ref aw])), (al, .inl (G.2.1, 12, .inl (aZ ld))), (aw, .inl (G.2.1, 12, .inl (aZ wn))), (ap, .inl (G.2.1, 12, .inl (aZ pf)))] (fun (r_ : Int32) (u : (Int → Int)) => match u with | pf2 => r_ = zI ((plS S Wy ld mark wy wn  (k + 1).toNat).2.2) ∧ (True)) (fun (u : (Int → Int)) => match u with | pf2 => [(hw0, .inr (7, [.ref hb0, .ref hy0, .ref ap])), (hb0, .inr (0, [.int (zI S), .int (zI C), .int (zI Wy), .int (zI Li), .int (zI St), .ref al])), (hy0, .inr (2, [.int (zI wy), .int (zI se), .int (zI tu), .ref aw])), (al, .inl (G.2.1, 12, .inl (aZ ld))), (aw, .inl (G.2.1, 12, .inl (aZ wn))), (ap, .inl (G.2.1, 12, .inl (aZ pf2)))])) 0 0 (wrA [(hw0, .inr (7, [.ref hb0, .ref hy0, .ref ap])), (hb0, .inr (0, [.int (zI S), .int (zI C), .int (zI Wy), .int (zI Li), .int (zI St), .ref al])), (hy0, .inr (2, [.int (zI wy), .int (zI se), .int (zI tu), .ref aw])), (al, .inl (G.2.1, 12, .inl (aZ ld))), (aw, .inl (G.2.1, 12, .inl (aZ wn))), (ap, .inl (G.2.1, 12, .inl (aZ pf)))]) := by
  refine wr_ofW (cc := cX7_plannedTurn) (maxL := 6) (ty := .int) (by decide) rfl (Nat.le_of_ble_eq_true rfl) ?_
  intro p e s m below meth c Q A hx hb hml hown hts hK hret H locs hP hD hS ls hl
  have hown : s.vm.findClass RX7 = some m.cls := hown
  have hl : lv_has ls 6 [(0, .ref hw0), (1, .int (zI mark)), (2, .int (zI k))] := hl
  have f19 := hts (.fieldLink RX7 19 "QuarterTurns$Wear" "lying" "LQuarterTurns$Lying;") (by decide +kernel)
  have i7 : ∀ w ∈ wsX70, w ∈ wsX7_plannedTurn := fun w h => List.mem_cons_of_mem _ (List.mem_append_left _ (List.mem_append_left _ (List.mem_append_right _ h)))
  have f58 := hts (.fieldLink RX7 58 "QuarterTurns$Lying" "worn" "[I") (by decide +kernel)
  have i2 : ∀ w ∈ wsX20, w ∈ wsX7_plannedTurn := fun w h => List.mem_cons_of_mem _ (List.mem_append_left _ (List.mem_append_right _ h))
  have f9 := hts (.fieldLink RX7 9 "QuarterTurns$Wear" "planned" "[I") (by decide +kernel)
  have ac1 := hts (.methodLink RX7 73 arraycopyName) (by decide +kernel)
  have ac2 := hts (.native arraycopyName) (by decide +kernel)
  have ac3 := hts (.static arraycopyName) (by decide +kernel)
  have ac4 := hts (.initialized "java/lang/System") (by decide +kernel)
  have f43 := hts (.fieldLink RX7 43 "QuarterTurns$Lying" "way" "I") (by decide +kernel)
  have f15 := hts (.fieldLink RX7 15 "QuarterTurns$Wear" "bed" "LQuarterTurns$Bed;") (by decide +kernel)
  have f61 := hts (.fieldLink RX7 61 "QuarterTurns$Bed" "loads" "[I") (by decide +kernel)
  have i0 : ∀ w ∈ wsX00, w ∈ wsX7_plannedTurn := fun w h => List.mem_cons_of_mem _ (List.mem_append_right _ h)
  refine lv_aload_n hx hb dX7_plannedTurn_0 rfl (lv_at hl 0 rfl) ?_
  refine va_get (ci := 7) (v := .ref hy0) (C := RX7) (T := TX7) (N := 3) hx hb hts i7 hown hK hP 0 rfl rfl 1 (by decide) f19 (fun _ h9 => h9) rfl dX7_plannedTurn_1 ?_
  refine va_get (ci := 2) (v := .ref aw) (C := RX2) (T := TX2) (N := 4) hx hb hts i2 hown hK hP 2 rfl rfl 3 (by decide) f58 (fun _ h9 => h9) rfl dX7_plannedTurn_4 ?_
  refine lv_iconst (v := zI 0) hx hb dX7_plannedTurn_7 rfl ?_
  refine lv_aload_n hx hb dX7_plannedTurn_8 rfl (lv_at hl 0 rfl) ?_
  refine va_get (ci := 7) (v := .ref ap) (C := RX7) (T := TX7) (N := 3) hx hb hts i7 hown hK hP 0 rfl rfl 2 (by decide) f9 (fun _ h9 => h9) rfl dX7_plannedTurn_9 ?_
  refine lv_iconst (v := zI 0) hx hb dX7_plannedTurn_12 rfl ?_
  refine lv_bipush (v := zI 12) hx hb dX7_plannedTurn_13 (by decide) ?_
  refine z_copy (n := 12) (f := wn) (g := pf) hx hb (hml.trans hl.1.symm) hown ac1 ac2 ac3 ac4 hK hP hD hS 4 5 rfl rfl (by decide) (Nat.le_of_ble_eq_true rfl) (Nat.le_of_ble_eq_true rfl) dX7_plannedTurn_15 (fun H locs hP hD hS => ?_)
  have hP : kP G [(hw0, .inr (7, [.ref hb0, .ref hy0, .ref ap])), (hb0, .inr (0, [.int (zI S), .int (zI C), .int (zI Wy), .int (zI Li), .int (zI St), .ref al])), (hy0, .inr (2, [.int (zI wy), .int (zI se), .int (zI tu), .ref aw])), (al, .inl (G.2.1, 12, .inl (aZ ld))), (aw, .inl (G.2.1, 12, .inl (aZ wn))), (ap, .inl (G.2.1, 12, .inl (aZ wn)))] H := hP
  have hD : va_D A [(hw0, .inr (7, [.ref hb0, .ref hy0, .ref ap])), (hb0, .inr (0, [.int (zI S), .int (zI C), .int (zI Wy), .int (zI Li), .int (zI St), .ref al])), (hy0, .inr (2, [.int (zI wy), .int (zI se), .int (zI tu), .ref aw])), (al, .inl (G.2.1, 12, .inl (aZ ld))), (aw, .inl (G.2.1, 12, .inl (aZ wn))), (ap, .inl (G.2.1, 12, .inl (aZ wn)))] := hD
  refine lv_aload_n hx hb dX7_plannedTurn_18 rfl (lv_at hl 0 rfl) ?_
  refine va_get (ci := 7) (v := .ref hy0) (C := RX7) (T := TX7) (N := 3) hx hb hts i7 hown hK hP 0 rfl rfl 1 (by decide) f19 (fun _ h9 => h9) rfl dX7_plannedTurn_19 ?_
  refine va_get (ci := 2) (v := .int (zI wy)) (C := RX2) (T := TX2) (N := 4) hx hb hts i2 hown hK hP 2 rfl rfl 0 (by decide) f43 (fun _ h9 => h9) rfl dX7_plannedTurn_22 ?_
  refine lv_istore_n (lv' := [(3, .int (zI wy)), (0, .ref hw0), (1, .int (zI mark)), (2, .int (zI k))]) hx hb dX7_plannedTurn_25 rfl hl (by decide) rfl (fun ls hl => ?_)
  refine lv_bipush (v := zI (-9)) hx hb dX7_plannedTurn_26 (by decide) ?_
  refine lv_istore (lv' := [(4, .int (zI (-9))), (3, .int (zI wy)), (0, .ref hw0), (1, .int (zI mark)), (2, .int (zI k))]) hx hb dX7_plannedTurn_28 hl (by decide) rfl (fun ls hl => ?_)
  refine lv_iconst (v := zI 0) hx hb dX7_plannedTurn_30 rfl ?_
  refine lv_istore (lv' := [(5, .int (zI 0)), (4, .int (zI (-9))), (3, .int (zI wy)), (0, .ref hw0), (1, .int (zI mark)), (2, .int (zI k))]) hx hb dX7_plannedTurn_31 hl (by decide) rfl (fun ls hl => ?_)
  have loop33 : ∀ (n_ : Nat) (i : Int) (way : Int) (tu2 : Int) (g : Int → Int) (H : Heap) (locs : List Loc) (ls : Array Slot), (0 ≤ i ∧ i ≤ k + 1) → (0 ≤ way ∧ way < Wy) → (way = (plS S Wy ld mark wy wn  i.toNat).1) → (g = (plS S Wy ld mark wy wn  i.toNat).2.1) → (tu2 = (plS S Wy ld mark wy wn  i.toNat).2.2) → (∀ j : Int, 0 ≤ j → j < 12 → 0 ≤ g j ∧ g j ≤ 999 + 9 * i) → (k + 1 - i).toNat < n_ → kP G [(hw0, .inr (7, [.ref hb0, .ref hy0, .ref ap])), (hb0, .inr (0, [.int (zI S), .int (zI C), .int (zI Wy), .int (zI Li), .int (zI St), .ref al])), (hy0, .inr (2, [.int (zI wy), .int (zI se), .int (zI tu), .ref aw])), (al, .inl (G.2.1, 12, .inl (aZ ld))), (aw, .inl (G.2.1, 12, .inl (aZ wn))), (ap, .inl (G.2.1, 12, .inl (aZ g)))] H → va_D A [(hw0, .inr (7, [.ref hb0, .ref hy0, .ref ap])), (hb0, .inr (0, [.int (zI S), .int (zI C), .int (zI Wy), .int (zI Li), .int (zI St), .ref al])), (hy0, .inr (2, [.int (zI wy), .int (zI se), .int (zI tu), .ref aw])), (al, .inl (G.2.1, 12, .inl (aZ ld))), (aw, .inl (G.2.1, 12, .inl (aZ wn))), (ap, .inl (G.2.1, 12, .inl (aZ g)))] → va_S A s.heap H locs → lv_has ls 6 [(5, .int (zI i)), (4, .int (zI tu2)), (3, .int (zI way)), (0, .ref hw0), (1, .int (zI mark)), (2, .int (zI k))] → W p l e rmX7_plannedTurn s m ([.ref hw0, .int (zI mark), .int (zI k)] : List Value).toArray below meth c H locs 0 0 Q (F0 m 33 ls []) := by
    intro n_
    induction n_ with
    | zero =>
      intro i way tu2 g H locs ls hi hwr hw1 hw2 hw3 hgr hm
      exact absurd hm (Nat.not_lt_zero _)
    | succ n_ ih33 =>
      intro i way tu2 g H locs ls hi hwr hw1 hw2 hw3 hgr hm33 hP hD hS hl
      refine lv_iload hx hb dX7_plannedTurn_33 (lv_at hl 0 rfl) ?_
      refine lv_iload_n hx hb dX7_plannedTurn_35 rfl (lv_at hl 5 rfl) ?_
      refine z_icmp_gt (tgt := 90) hx hb (by omega) dX7_plannedTurn_36 (by decide) (fun c_1 => ?_) (fun c_1 => ?_)
      · refine lv_iload hx hb dX7_plannedTurn_90 (lv_at hl 1 rfl) ?_
        exact hret H locs ls 92 _ (g) rfl ⟨congrArg zI (by rw [hw3, show i = k + 1 by omega]), by trivial⟩ hP hS dX7_plannedTurn_92
      · refine lv_aload_n hx hb dX7_plannedTurn_39 rfl (lv_at hl 3 rfl) ?_
        refine lv_iload_n hx hb dX7_plannedTurn_40 rfl (lv_at hl 4 rfl) ?_
        refine lv_iload_n hx hb dX7_plannedTurn_41 rfl (lv_at hl 2 rfl) ?_
        refine z_cV (As := [.int (zI mark), .int (zI way)]) (rest := []) ⟨hx, hb, hml, hown, hts⟩ (c_X7_firstTurnUnder l G hw0 ap hb0 al S C Wy Li St hy0 aw wy se tu wn ld g mark way (by first | assumption | omega) (by first | assumption | omega) (by first | assumption | omega) (by exact fun i h1 h2 => by have := hgr i h1 h2; omega) (by first | assumption | omega)) (cwV 2 hts gX7_plannedTurn_X7_firstTurnUnder rfl rfl rfl pd_X7_firstTurnUnder ⟨(Nat.le_of_ble_eq_true rfl), (Nat.le_of_ble_eq_true rfl)⟩) hK hP hS [0, 1, 2, 3, 4, 5] rfl rfl rfl rfl rfl hl.1 rfl (Nat.le_of_ble_eq_true rfl) dX7_plannedTurn_42 ⟨Nat.zero_le _, Nat.zero_le _⟩ (fun H locs hP hS => ?_)
        have hq_2 := ftZ_rng (S := S) (W := Wy) (ld := ld) (f := g) (mark := mark) (way := way) (by omega)
        refine lv_istore (lv' := [(4, .int (zI (ftZ S Wy ld g mark way))), (5, .int (zI i)), (3, .int (zI way)), (0, .ref hw0), (1, .int (zI mark)), (2, .int (zI k))]) hx hb dX7_plannedTurn_45 hl (by decide) rfl (fun ls hl => ?_)
        have hk1 : 0 ≤ ftZ S Wy ld g mark way := by have h9 := hok i.toNat (by omega); rw [plS, ← hw1, ← hw2] at h9; exact h9
        refine lv_iload hx hb dX7_plannedTurn_47 (lv_at hl 0 rfl) ?_
        refine z_if_ge (tgt := 55) hx hb (by omega) dX7_plannedTurn_49 (by decide) (fun c_3 => ?_) (fun c_3 => ?_)
        · refine lv_aload_n hx hb dX7_plannedTurn_55 rfl (lv_at hl 3 rfl) ?_
          refine va_get (ci := 7) (v := .ref hb0) (C := RX7) (T := TX7) (N := 3) hx hb hts i7 hown hK hP 0 rfl rfl 0 (by decide) f15 (fun _ h9 => h9) rfl dX7_plannedTurn_56 ?_
          refine lv_iload_n hx hb dX7_plannedTurn_59 rfl (lv_at hl 2 rfl) ?_
          refine lv_iload hx hb dX7_plannedTurn_60 (lv_at hl 0 rfl) ?_
          refine z_cV (As := [.int (zI way), .int (zI (ftZ S Wy ld g mark way))]) (rest := []) ⟨hx, hb, hml, hown, hts⟩ (c_X0_from l G hb0 al S C Wy Li St way (ftZ S Wy ld g mark way) (by first | assumption | omega) (by first | assumption | omega) (by first | assumption | omega)) (cwV 2 hts gX7_plannedTurn_X0_from rfl rfl rfl pd_X0_from ⟨(Nat.le_of_ble_eq_true rfl), (Nat.le_of_ble_eq_true rfl)⟩) hK hP hS [1] rfl rfl rfl rfl rfl hl.1 rfl (Nat.le_of_ble_eq_true rfl) dX7_plannedTurn_62 ⟨Nat.zero_le _, Nat.zero_le _⟩ (fun H locs hP hS => ?_)
          have hq_4 := fromZ_rng (C := C) (Wy := Wy) (w := way) (t := (ftZ S Wy ld g mark way)) ((by first | assumption | omega)) ((by first | assumption | omega)) ((by first | assumption | omega))
          refine lv_istore_n (lv' := [(3, .int (zI (fromZ S way (ftZ S Wy ld g mark way)))), (4, .int (zI (ftZ S Wy ld g mark way))), (5, .int (zI i)), (0, .ref hw0), (1, .int (zI mark)), (2, .int (zI k))]) hx hb dX7_plannedTurn_65 rfl hl (by decide) rfl (fun ls hl => ?_)
          have hfr := fromZ_rng (S := S) (C := C) (Wy := Wy) (w := way) (t := ftZ S Wy ld g mark way) hB hwr (by omega)
          refine lv_aload_n hx hb dX7_plannedTurn_66 rfl (lv_at hl 3 rfl) ?_
          refine va_get (ci := 7) (v := .ref ap) (C := RX7) (T := TX7) (N := 3) hx hb hts i7 hown hK hP 0 rfl rfl 2 (by decide) f9 (fun _ h9 => h9) rfl dX7_plannedTurn_67 ?_
          refine lv_iload_n hx hb dX7_plannedTurn_70 rfl (lv_at hl 0 rfl) ?_
          refine lv_dup2_11 hx hb dX7_plannedTurn_71 rfl rfl ?_
          refine z_iald (n := 12) (f := g) hx hb hK hP 5 rfl (by omega) dX7_plannedTurn_72 ?_
          refine lv_aload_n hx hb dX7_plannedTurn_73 rfl (lv_at hl 3 rfl) ?_
          refine va_get (ci := 7) (v := .ref hb0) (C := RX7) (T := TX7) (N := 3) hx hb hts i7 hown hK hP 0 rfl rfl 0 (by decide) f15 (fun _ h9 => h9) rfl dX7_plannedTurn_74 ?_
          refine va_get (ci := 0) (v := .ref al) (C := RX0) (T := TX0) (N := 6) hx hb hts i0 hown hK hP 1 rfl rfl 5 (by decide) f61 (fun _ h9 => h9) rfl dX7_plannedTurn_77 ?_
          refine lv_iload_n hx hb dX7_plannedTurn_80 rfl (lv_at hl 0 rfl) ?_
          refine z_iald (n := 12) (f := ld) hx hb hK hP 3 rfl (by omega) dX7_plannedTurn_81 ?_
          have he_5 := hld (fromZ S way (ftZ S Wy ld g mark way)) (by omega) (by omega)
          refine z_iadd hx hb dX7_plannedTurn_82 ?_
          refine z_iast (n := 12) (f := g) (i := fromZ S way (ftZ S Wy ld g mark way)) (v := (g (fromZ S way (ftZ S Wy ld g mark way))) + (ld (fromZ S way (ftZ S Wy ld g mark way)))) hx hb hK hP hD hS 5 rfl (by omega) dX7_plannedTurn_83 (fun H locs hP hD hS => ?_)
          have hP : kP G [(hw0, .inr (7, [.ref hb0, .ref hy0, .ref ap])), (hb0, .inr (0, [.int (zI S), .int (zI C), .int (zI Wy), .int (zI Li), .int (zI St), .ref al])), (hy0, .inr (2, [.int (zI wy), .int (zI se), .int (zI tu), .ref aw])), (al, .inl (G.2.1, 12, .inl (aZ ld))), (aw, .inl (G.2.1, 12, .inl (aZ wn))), (ap, .inl (G.2.1, 12, .inl (aZ (uZ g (fromZ S way (ftZ S Wy ld g mark way)) ((g (fromZ S way (ftZ S Wy ld g mark way))) + (ld (fromZ S way (ftZ S Wy ld g mark way))))))))] H := hP
          have hD : va_D A [(hw0, .inr (7, [.ref hb0, .ref hy0, .ref ap])), (hb0, .inr (0, [.int (zI S), .int (zI C), .int (zI Wy), .int (zI Li), .int (zI St), .ref al])), (hy0, .inr (2, [.int (zI wy), .int (zI se), .int (zI tu), .ref aw])), (al, .inl (G.2.1, 12, .inl (aZ ld))), (aw, .inl (G.2.1, 12, .inl (aZ wn))), (ap, .inl (G.2.1, 12, .inl (aZ (uZ g (fromZ S way (ftZ S Wy ld g mark way)) ((g (fromZ S way (ftZ S Wy ld g mark way))) + (ld (fromZ S way (ftZ S Wy ld g mark way))))))))] := hD
          refine lv_iinc (v := zI (i + 1)) (lv' := [(5, .int (zI (i + 1))), (3, .int (zI (fromZ S way (ftZ S Wy ld g mark way)))), (4, .int (zI (ftZ S Wy ld g mark way))), (0, .ref hw0), (1, .int (zI mark)), (2, .int (zI k))]) hx hb dX7_plannedTurn_84 hl (k := 2) rfl (zI_add _ _) (by decide) rfl (fun ls hl => ?_)
          refine lv_goto (tgt := 33) hx hb dX7_plannedTurn_87 (by decide) ?_
          exact ih33 (i + 1) (fromZ S way (ftZ S Wy ld g mark way)) (ftZ S Wy ld g mark way) (uZ g (fromZ S way (ftZ S Wy ld g mark way)) ((g (fromZ S way (ftZ S Wy ld g mark way))) + (ld (fromZ S way (ftZ S Wy ld g mark way))))) H locs ls (by omega) (by omega) (by rw [tn1 hi.1, plS, ← hw1, ← hw2]) (by rw [tn1 hi.1, plS, ← hw1, ← hw2]) (by rw [tn1 hi.1, plS, ← hw1, ← hw2]) (by intro j h1 h2; have h3 := hgr j h1 h2; unfold uZ; split; (have h4 := hgr _ hfr.1 (by omega)); omega; omega) (by omega) hP hD hS (lv_sub hl [0, 2, 1, 3, 4, 5] rfl)
        · exact absurd c_3 (by omega)
  exact loop33 _ 0 wy (-9) wn H locs ls (by omega) (by omega) rfl rfl rfl (by intro j h1 h2; have := hwn j h1 h2; omega) (Nat.lt_succ_self _) hP hD hS (lv_sub hl [0, 1, 2, 3, 4, 5] rfl)
theorem pd_X7_wornIn : yX7_wornIn.cls = RX7 ∧ yX7_wornIn.cls ≠ "java/lang/invoke/MethodHandle" ∧ yX7_wornIn.cls ≠ "java/lang/invoke/VarHandle" ∧ (parseMethodDescriptor yX7_wornIn.desc).map (fun d => d.parameters.length) = some 3 := by decide +kernel
abbrev rmX7_wornIn : Room := { frames := 3, cells := 0, slots := 0, locals := 68 }
set_option maxHeartbeats 4000000 in
set_option maxRecDepth 100000 in
theorem c_X7_wornIn (l : Launch) (G : CX) (hw0 : Nat) (ap : Nat) (hb0 : Nat) (al : Nat) (S : Int) (C : Int) (Wy : Int) (Li : Int) (St : Int) (hy0 : Nat) (aw : Nat) (wy : Int) (se : Int) (tu : Int) (wn : Int → Int) (ld : Int → Int) (sea : Int) (w : Int) (t : Int) (hB : (2 ≤ S ∧ S ≤ 6) ∧ (C = 1 ∧ Wy = S ∨ C = 2 ∧ Wy = 2 * S)) (hwn : ∀ i : Int, 0 ≤ i → i < 12 → 0 ≤ wn i ∧ wn i ≤ 999) (hld : ∀ i : Int, 0 ≤ i → i < 12 → 1 ≤ ld i ∧ ld i ≤ 9) (hwy : 0 ≤ wy ∧ wy < Wy) (hsea : 0 ≤ sea ∧ sea ≤ 40) (hw : 0 ≤ w ∧ w < Wy) (ht : 0 ≤ t ∧ t < Wy) : Met l yX7_wornIn wsX7_wornIn rmX7_wornIn (rdP G [.ref hw0, .int (zI sea), .int (zI w), .int (zI t)] [(hw0, .inr (7, [.ref hb0, .ref hy0, .ref ap])), (hb0, .inr (0, [.int (zI S), .int (zI C), .int (zI Wy), .int (zI Li), .int (zI St), .ref al])), (hy0, .inr (2, [.int (zI wy), .int (zI se), .int (zI tu), .ref aw])), (al, .inl (G.2.1, 12, .inl (aZ ld))), (aw, .inl (G.2.1, 12, .inl (aZ wn)))]) (rdQ (zI (wiZ S wy ld wn sea w t))) 0 0 noA := by
  refine rd_ofW (cc := cX7_wornIn) (maxL := 8) (ty := .int) (by decide) rfl (Nat.le_of_ble_eq_true rfl) rfl ?_
  intro p e s m below meth c Q A hx hb hml hown hts hK hret H locs hP hS ls hl
  have hown : s.vm.findClass RX7 = some m.cls := hown
  have hl : lv_has ls 8 [(0, .ref hw0), (1, .int (zI sea)), (2, .int (zI w)), (3, .int (zI t))] := hl
  have f15 := hts (.fieldLink RX7 15 "QuarterTurns$Wear" "bed" "LQuarterTurns$Bed;") (by decide +kernel)
  have i7 : ∀ w ∈ wsX70, w ∈ wsX7_wornIn := fun w h => List.mem_cons_of_mem _ (List.mem_append_left _ (List.mem_append_left _ (List.mem_append_right _ h)))
  have f19 := hts (.fieldLink RX7 19 "QuarterTurns$Wear" "lying" "LQuarterTurns$Lying;") (by decide +kernel)
  have f43 := hts (.fieldLink RX7 43 "QuarterTurns$Lying" "way" "I") (by decide +kernel)
  have i2 : ∀ w ∈ wsX20, w ∈ wsX7_wornIn := fun w h => List.mem_cons_of_mem _ (List.mem_append_left _ (List.mem_append_right _ h))
  have f58 := hts (.fieldLink RX7 58 "QuarterTurns$Lying" "worn" "[I") (by decide +kernel)
  have f61 := hts (.fieldLink RX7 61 "QuarterTurns$Bed" "loads" "[I") (by decide +kernel)
  have i0 : ∀ w ∈ wsX00, w ∈ wsX7_wornIn := fun w h => List.mem_cons_of_mem _ (List.mem_append_right _ h)
  have mlk53 := hts (.methodLink RX7 53 Lib.Math.min.name) (by decide +kernel)
  have mstmin := hts (.static Lib.Math.min.name) (by decide +kernel)
  have mini := hts (.initialized "java/lang/Math") (by decide +kernel)
  have mcdmin := hts (.code Lib.Math.min.name Lib.Math.min.code 2 (some .int)) (by decide +kernel)
  refine lv_aload_n hx hb dX7_wornIn_0 rfl (lv_at hl 0 rfl) ?_
  refine va_get (ci := 7) (v := .ref hb0) (C := RX7) (T := TX7) (N := 3) hx hb hts i7 hown hK hP 0 rfl rfl 0 (by decide) f15 (fun _ h9 => h9) rfl dX7_wornIn_1 ?_
  refine lv_iload_n hx hb dX7_wornIn_4 rfl (lv_at hl 3 rfl) ?_
  refine z_cV (As := [.int (zI t)]) (rest := []) ⟨hx, hb, hml, hown, hts⟩ (c_X0_orderOf l G hb0 al S C Wy Li St t (by first | assumption | omega) (by first | assumption | omega)) (cwV 1 hts gX7_wornIn_X0_orderOf rfl rfl rfl pd_X0_orderOf ⟨(Nat.le_of_ble_eq_true rfl), (Nat.le_of_ble_eq_true rfl)⟩) hK hP hS [1] rfl rfl rfl rfl rfl hl.1 rfl (Nat.le_of_ble_eq_true rfl) dX7_wornIn_5 ⟨Nat.zero_le _, Nat.zero_le _⟩ (fun H locs hP hS => ?_)
  have hq_1 := ordZ_rng S t
  refine lv_istore (lv' := [(4, .int (zI (ordZ S t))), (0, .ref hw0), (1, .int (zI sea)), (2, .int (zI w)), (3, .int (zI t))]) hx hb dX7_wornIn_8 hl (by decide) rfl (fun ls hl => ?_)
  refine lv_aload_n hx hb dX7_wornIn_10 rfl (lv_at hl 1 rfl) ?_
  refine va_get (ci := 7) (v := .ref hy0) (C := RX7) (T := TX7) (N := 3) hx hb hts i7 hown hK hP 0 rfl rfl 1 (by decide) f19 (fun _ h9 => h9) rfl dX7_wornIn_11 ?_
  refine va_get (ci := 2) (v := .int (zI wy)) (C := RX2) (T := TX2) (N := 4) hx hb hts i2 hown hK hP 2 rfl rfl 0 (by decide) f43 (fun _ h9 => h9) rfl dX7_wornIn_14 ?_
  refine lv_istore (lv' := [(5, .int (zI wy)), (4, .int (zI (ordZ S t))), (0, .ref hw0), (1, .int (zI sea)), (2, .int (zI w)), (3, .int (zI t))]) hx hb dX7_wornIn_17 hl (by decide) rfl (fun ls hl => ?_)
  refine lv_iconst (v := zI 0) hx hb dX7_wornIn_19 rfl ?_
  refine lv_istore (lv' := [(6, .int (zI 0)), (5, .int (zI wy)), (4, .int (zI (ordZ S t))), (0, .ref hw0), (1, .int (zI sea)), (2, .int (zI w)), (3, .int (zI t))]) hx hb dX7_wornIn_20 hl (by decide) rfl (fun ls hl => ?_)
  refine lv_iconst (v := zI 1) hx hb dX7_wornIn_22 rfl ?_
  refine lv_istore (lv' := [(7, .int (zI 1)), (6, .int (zI 0)), (5, .int (zI wy)), (4, .int (zI (ordZ S t))), (0, .ref hw0), (1, .int (zI sea)), (2, .int (zI w)), (3, .int (zI t))]) hx hb dX7_wornIn_23 hl (by decide) rfl (fun ls hl => ?_)
  have loop25 : ∀ (n_ : Nat) (i : Int) (way : Int) (vi : Int) (H : Heap) (locs : List Loc) (ls : Array Slot), (1 ≤ i ∧ i ≤ ordZ S t + 1 ∧ i ≤ sea + 1) → (0 ≤ way ∧ way < Wy) → (way = wyI S t wy (i - 1).toNat) → (vi = vsZ S t wy w (ordZ S t) sea (i - 1).toNat) → (0 ≤ vi ∧ vi ≤ 41) → (ordZ S t + 1 - i).toNat < n_ → kP G [(hw0, .inr (7, [.ref hb0, .ref hy0, .ref ap])), (hb0, .inr (0, [.int (zI S), .int (zI C), .int (zI Wy), .int (zI Li), .int (zI St), .ref al])), (hy0, .inr (2, [.int (zI wy), .int (zI se), .int (zI tu), .ref aw])), (al, .inl (G.2.1, 12, .inl (aZ ld))), (aw, .inl (G.2.1, 12, .inl (aZ wn)))] H → va_S A s.heap H locs → lv_has ls 8 [(7, .int (zI i)), (6, .int (zI vi)), (5, .int (zI way)), (4, .int (zI (ordZ S t))), (0, .ref hw0), (1, .int (zI sea)), (2, .int (zI w)), (3, .int (zI t))] → W p l e rmX7_wornIn s m ([.ref hw0, .int (zI sea), .int (zI w), .int (zI t)] : List Value).toArray below meth c H locs 0 0 Q (F0 m 25 ls []) := by
    intro n_
    induction n_ with
    | zero =>
      intro i way vi H locs ls hi hwr hwe hvi hvr hm
      exact absurd hm (Nat.not_lt_zero _)
    | succ n_ ih25 =>
      intro i way vi H locs ls hi hwr hwe hvi hvr hm25 hP hS hl
      refine lv_iload hx hb dX7_wornIn_25 (lv_at hl 0 rfl) ?_
      refine lv_iload hx hb dX7_wornIn_27 (lv_at hl 3 rfl) ?_
      refine z_icmp_gt (tgt := 75) hx hb (by omega) dX7_wornIn_29 (by decide) (fun c_2 => ?_) (fun c_2 => ?_)
      · refine lv_sipush (v := zI 999) hx hb dX7_wornIn_75 (by decide) ?_
        refine lv_aload_n hx hb dX7_wornIn_78 rfl (lv_at hl 4 rfl) ?_
        refine va_get (ci := 7) (v := .ref hy0) (C := RX7) (T := TX7) (N := 3) hx hb hts i7 hown hK hP 0 rfl rfl 1 (by decide) f19 (fun _ h9 => h9) rfl dX7_wornIn_79 ?_
        refine va_get (ci := 2) (v := .ref aw) (C := RX2) (T := TX2) (N := 4) hx hb hts i2 hown hK hP 2 rfl rfl 3 (by decide) f58 (fun _ h9 => h9) rfl dX7_wornIn_82 ?_
        refine lv_iload_n hx hb dX7_wornIn_85 rfl (lv_at hl 6 rfl) ?_
        refine z_iald (n := 12) (f := wn) hx hb hK hP 4 rfl (by omega) dX7_wornIn_86 ?_
        have he_3 := hwn w (by omega) (by omega)
        refine lv_iload hx hb dX7_wornIn_87 (lv_at hl 1 rfl) ?_
        refine lv_aload_n hx hb dX7_wornIn_89 rfl (lv_at hl 4 rfl) ?_
        refine va_get (ci := 7) (v := .ref hb0) (C := RX7) (T := TX7) (N := 3) hx hb hts i7 hown hK hP 0 rfl rfl 0 (by decide) f15 (fun _ h9 => h9) rfl dX7_wornIn_90 ?_
        refine va_get (ci := 0) (v := .ref al) (C := RX0) (T := TX0) (N := 6) hx hb hts i0 hown hK hP 1 rfl rfl 5 (by decide) f61 (fun _ h9 => h9) rfl dX7_wornIn_93 ?_
        refine lv_iload_n hx hb dX7_wornIn_96 rfl (lv_at hl 6 rfl) ?_
        refine z_iald (n := 12) (f := ld) hx hb hK hP 3 rfl (by omega) dX7_wornIn_97 ?_
        have he_4 := hld w (by omega) (by omega)
        refine z_imul hx hb dX7_wornIn_98 ?_
        refine z_iadd hx hb dX7_wornIn_99 ?_
        have hm1 := mul_rng (a := vi) (b := ld w) (x := 41) (y := 9) (by omega) (by omega)
        refine z_mmin hx hb (hml.trans hl.1.symm) hown mlk53 mstmin mini mcdmin (Nat.le_of_ble_eq_true rfl) (Nat.le_of_ble_eq_true rfl) (Nat.zero_le _) (Nat.zero_le _) (by omega) dX7_wornIn_100 ?_
        exact hret H locs ls 103 _ (congrArg zI (by unfold wiZ; rw [hvi, show (min (ordZ S t) sea).toNat = (i - 1).toNat by omega])) hS dX7_wornIn_103
      · refine lv_iload hx hb dX7_wornIn_32 (lv_at hl 0 rfl) ?_
        refine lv_iload_n hx hb dX7_wornIn_34 rfl (lv_at hl 5 rfl) ?_
        refine z_icmp_gt (tgt := 75) hx hb (by omega) dX7_wornIn_35 (by decide) (fun c_5 => ?_) (fun c_5 => ?_)
        · refine lv_sipush (v := zI 999) hx hb dX7_wornIn_75 (by decide) ?_
          refine lv_aload_n hx hb dX7_wornIn_78 rfl (lv_at hl 4 rfl) ?_
          refine va_get (ci := 7) (v := .ref hy0) (C := RX7) (T := TX7) (N := 3) hx hb hts i7 hown hK hP 0 rfl rfl 1 (by decide) f19 (fun _ h9 => h9) rfl dX7_wornIn_79 ?_
          refine va_get (ci := 2) (v := .ref aw) (C := RX2) (T := TX2) (N := 4) hx hb hts i2 hown hK hP 2 rfl rfl 3 (by decide) f58 (fun _ h9 => h9) rfl dX7_wornIn_82 ?_
          refine lv_iload_n hx hb dX7_wornIn_85 rfl (lv_at hl 6 rfl) ?_
          refine z_iald (n := 12) (f := wn) hx hb hK hP 4 rfl (by omega) dX7_wornIn_86 ?_
          have he_6 := hwn w (by omega) (by omega)
          refine lv_iload hx hb dX7_wornIn_87 (lv_at hl 1 rfl) ?_
          refine lv_aload_n hx hb dX7_wornIn_89 rfl (lv_at hl 4 rfl) ?_
          refine va_get (ci := 7) (v := .ref hb0) (C := RX7) (T := TX7) (N := 3) hx hb hts i7 hown hK hP 0 rfl rfl 0 (by decide) f15 (fun _ h9 => h9) rfl dX7_wornIn_90 ?_
          refine va_get (ci := 0) (v := .ref al) (C := RX0) (T := TX0) (N := 6) hx hb hts i0 hown hK hP 1 rfl rfl 5 (by decide) f61 (fun _ h9 => h9) rfl dX7_wornIn_93 ?_
          refine lv_iload_n hx hb dX7_wornIn_96 rfl (lv_at hl 6 rfl) ?_
          refine z_iald (n := 12) (f := ld) hx hb hK hP 3 rfl (by omega) dX7_wornIn_97 ?_
          have he_7 := hld w (by omega) (by omega)
          refine z_imul hx hb dX7_wornIn_98 ?_
          refine z_iadd hx hb dX7_wornIn_99 ?_
          have hm1 := mul_rng (a := vi) (b := ld w) (x := 41) (y := 9) (by omega) (by omega)
          refine z_mmin hx hb (hml.trans hl.1.symm) hown mlk53 mstmin mini mcdmin (Nat.le_of_ble_eq_true rfl) (Nat.le_of_ble_eq_true rfl) (Nat.zero_le _) (Nat.zero_le _) (by omega) dX7_wornIn_100 ?_
          exact hret H locs ls 103 _ (congrArg zI (by unfold wiZ; rw [hvi, show (min (ordZ S t) sea).toNat = (i - 1).toNat by omega])) hS dX7_wornIn_103
        · refine lv_aload_n hx hb dX7_wornIn_38 rfl (lv_at hl 4 rfl) ?_
          refine va_get (ci := 7) (v := .ref hb0) (C := RX7) (T := TX7) (N := 3) hx hb hts i7 hown hK hP 0 rfl rfl 0 (by decide) f15 (fun _ h9 => h9) rfl dX7_wornIn_39 ?_
          refine lv_iload hx hb dX7_wornIn_42 (lv_at hl 2 rfl) ?_
          refine lv_iload_n hx hb dX7_wornIn_44 rfl (lv_at hl 7 rfl) ?_
          refine z_cV (As := [.int (zI way), .int (zI t)]) (rest := []) ⟨hx, hb, hml, hown, hts⟩ (c_X0_from l G hb0 al S C Wy Li St way t (by first | assumption | omega) (by first | assumption | omega) (by first | assumption | omega)) (cwV 2 hts gX7_wornIn_X0_from rfl rfl rfl pd_X0_from ⟨(Nat.le_of_ble_eq_true rfl), (Nat.le_of_ble_eq_true rfl)⟩) hK hP hS [1] rfl rfl rfl rfl rfl hl.1 rfl (Nat.le_of_ble_eq_true rfl) dX7_wornIn_45 ⟨Nat.zero_le _, Nat.zero_le _⟩ (fun H locs hP hS => ?_)
          have hq_8 := fromZ_rng (C := C) (Wy := Wy) (w := way) (t := t) ((by first | assumption | omega)) ((by first | assumption | omega)) ((by first | assumption | omega))
          refine lv_istore (lv' := [(5, .int (zI (fromZ S way t))), (7, .int (zI i)), (6, .int (zI vi)), (4, .int (zI (ordZ S t))), (0, .ref hw0), (1, .int (zI sea)), (2, .int (zI w)), (3, .int (zI t))]) hx hb dX7_wornIn_48 hl (by decide) rfl (fun ls hl => ?_)
          refine lv_iload hx hb dX7_wornIn_50 (lv_at hl 0 rfl) ?_
          refine lv_iload_n hx hb dX7_wornIn_52 rfl (lv_at hl 6 rfl) ?_
          refine z_icmp_ne (tgt := 69) hx hb (by omega) dX7_wornIn_53 (by decide) (fun c_9 => ?_) (fun c_9 => ?_)
          · have hdr := div_rng (a := sea - i) (b := ordZ S t) (by omega) (by omega)
            refine lv_iinc (v := zI (i + 1)) (lv' := [(7, .int (zI (i + 1))), (5, .int (zI (fromZ S way t))), (6, .int (zI vi)), (4, .int (zI (ordZ S t))), (0, .ref hw0), (1, .int (zI sea)), (2, .int (zI w)), (3, .int (zI t))]) hx hb dX7_wornIn_69 hl (k := 1) rfl (zI_add _ _) (by decide) rfl (fun ls hl => ?_)
            refine lv_goto (tgt := 25) hx hb dX7_wornIn_72 (by decide) ?_
            exact ih25 (i + 1) (fromZ S way t) vi H locs ls (by omega) (by omega) (by rw [show (i + 1 - 1).toNat = (i - 1).toNat + 1 by omega, wyI, ← hwe]) (by rw [show (i + 1 - 1).toNat = (i - 1).toNat + 1 by omega, vsZ, wyI, ← hwe, ← hvi, show (((i - 1).toNat : Nat) : Int) + 1 = i by omega]; first | rw [if_pos (by omega)] | rw [if_neg (by omega)]) (by omega) (by omega) hP hS (lv_sub hl [0, 2, 1, 3, 4, 5, 6, 7] rfl)
          · refine lv_iload_n hx hb dX7_wornIn_56 rfl (lv_at hl 5 rfl) ?_
            refine lv_iload hx hb dX7_wornIn_57 (lv_at hl 1 rfl) ?_
            refine z_isub hx hb dX7_wornIn_59 ?_
            refine lv_iload hx hb dX7_wornIn_60 (lv_at hl 3 rfl) ?_
            refine z_cS (As := [.int (zI (sea - i)), .int (zI (ordZ S t))]) (rest := []) ⟨hx, hb, hml, hown, hts⟩ (c_X7_quotient l G (sea - i) (ordZ S t) (by first | assumption | omega)) (va_cwS 2 hts gX7_wornIn_X7_quotient rfl rfl rfl pd_X7_quotient.2 ⟨(Nat.le_of_ble_eq_true rfl), (Nat.le_of_ble_eq_true rfl)⟩) hK hP hS [] rfl rfl hl.1 rfl (Nat.le_of_ble_eq_true rfl) dX7_wornIn_62 ⟨Nat.zero_le _, Nat.zero_le _⟩ (fun H locs hP hS => ?_)
            refine lv_iconst (v := zI 1) hx hb dX7_wornIn_65 rfl ?_
            refine z_iadd hx hb dX7_wornIn_66 ?_
            refine lv_istore (lv' := [(6, .int (zI (((sea - i) / (ordZ S t)) + 1))), (5, .int (zI (fromZ S way t))), (7, .int (zI i)), (4, .int (zI (ordZ S t))), (0, .ref hw0), (1, .int (zI sea)), (2, .int (zI w)), (3, .int (zI t))]) hx hb dX7_wornIn_67 hl (by decide) rfl (fun ls hl => ?_)
            have hdr := div_rng (a := sea - i) (b := ordZ S t) (by omega) (by omega)
            refine lv_iinc (v := zI (i + 1)) (lv' := [(7, .int (zI (i + 1))), (6, .int (zI (((sea - i) / (ordZ S t)) + 1))), (5, .int (zI (fromZ S way t))), (4, .int (zI (ordZ S t))), (0, .ref hw0), (1, .int (zI sea)), (2, .int (zI w)), (3, .int (zI t))]) hx hb dX7_wornIn_69 hl (k := 2) rfl (zI_add _ _) (by decide) rfl (fun ls hl => ?_)
            refine lv_goto (tgt := 25) hx hb dX7_wornIn_72 (by decide) ?_
            exact ih25 (i + 1) (fromZ S way t) (((sea - i) / (ordZ S t)) + 1) H locs ls (by omega) (by omega) (by rw [show (i + 1 - 1).toNat = (i - 1).toNat + 1 by omega, wyI, ← hwe]) (by rw [show (i + 1 - 1).toNat = (i - 1).toNat + 1 by omega, vsZ, wyI, ← hwe, ← hvi, show (((i - 1).toNat : Nat) : Int) + 1 = i by omega]; first | rw [if_pos (by omega)] | rw [if_neg (by omega)]) (by omega) (by omega) hP hS (lv_sub hl [0, 1, 2, 3, 4, 5, 6, 7] rfl)
  exact loop25 _ 1 wy 0 H locs ls (by omega) (by omega) rfl rfl (by omega) (Nat.lt_succ_self _) hP hS (lv_sub hl [0, 1, 2, 3, 4, 5, 6, 7] rfl)

theorem vsZ_rng {S t way w per sea : Int} (hs : 0 ≤ sea ∧ sea ≤ 40) (hp : 1 ≤ per) : ∀ k : Nat, (k : Int) ≤ sea → 0 ≤ vsZ S t way w per sea k ∧ vsZ S t way w per sea k ≤ 41
  | 0, _ => by simp [vsZ]
  | k + 1, hk => by
    have h := vsZ_rng (S := S) (t := t) (way := way) (w := w) hs hp k (by omega)
    have h2 := div_rng (a := sea - ((k : Int) + 1)) (b := per) (by omega) hp
    unfold vsZ
    split <;> omega
theorem wiZ_rng {S wy : Int} {ld wn : Int → Int} {sea w t : Int} (hs : 0 ≤ sea ∧ sea ≤ 40) (hw : 0 ≤ wn w ∧ wn w ≤ 999) (hl : 1 ≤ ld w ∧ ld w ≤ 9) : 0 ≤ wiZ S wy ld wn sea w t ∧ wiZ S wy ld wn sea w t ≤ 999 := by
  have ho := ordZ_rng S t
  have h1 := vsZ_rng (S := S) (t := t) (way := wy) (w := w) (per := ordZ S t) hs ho.1 (min (ordZ S t) sea).toNat (by omega)
  have h2 := mul_rng (a := vsZ S t wy w (ordZ S t) sea (min (ordZ S t) sea).toNat) (b := ld w) (x := 41) (y := 9) h1 (by omega)
  unfold wiZ
  split <;> omega
theorem asB_false {S wy t hz i : Int} {ld wn hk hq hv : Int → Int} (h0 : 0 ≤ i) (h1 : i < hz) (h : ¬ wiZ S wy ld wn (hk i) (hq i) t = hv i) : ¬ asB S wy ld wn hk hq hv t hz.toNat = true := by
  have key : ∀ k : Nat, i < k → asB S wy ld wn hk hq hv t k = false := by
    intro k
    induction k with
    | zero => intro hk; omega
    | succ k ih =>
      intro hk2
      unfold asB
      by_cases hik : i = k
      · subst hik
        rw [decide_eq_false h, Bool.and_false]
      · rw [ih (by omega), Bool.false_and]
  rw [key hz.toNat (by omega)]
  decide
theorem pd_X1_allSoBy : yX1_allSoBy.cls = RX1 ∧ yX1_allSoBy.cls ≠ "java/lang/invoke/MethodHandle" ∧ yX1_allSoBy.cls ≠ "java/lang/invoke/VarHandle" ∧ (parseMethodDescriptor yX1_allSoBy.desc).map (fun d => d.parameters.length) = some 2 := by decide +kernel
abbrev rmX1_allSoBy : Room := { frames := 4, cells := 0, slots := 0, locals := 95 }
set_option maxHeartbeats 4000000 in
set_option maxRecDepth 100000 in
theorem c_X1_allSoBy (l : Launch) (G : CX) (hh0 : Nat) (ak : Nat) (aq : Nat) (av : Nat) (hz : Int) (hk : Int → Int) (hq : Int → Int) (hv : Int → Int) (hw0 : Nat) (ap : Nat) (hb0 : Nat) (al : Nat) (S : Int) (C : Int) (Wy : Int) (Li : Int) (St : Int) (hy0 : Nat) (aw : Nat) (wy : Int) (se : Int) (tu : Int) (wn : Int → Int) (ld : Int → Int) (t : Int) (hB : (2 ≤ S ∧ S ≤ 6) ∧ (C = 1 ∧ Wy = S ∨ C = 2 ∧ Wy = 2 * S)) (hwn : ∀ i : Int, 0 ≤ i → i < 12 → 0 ≤ wn i ∧ wn i ≤ 999) (hld : ∀ i : Int, 0 ≤ i → i < 12 → 1 ≤ ld i ∧ ld i ≤ 9) (hwy : 0 ≤ wy ∧ wy < Wy) (ht : 0 ≤ t ∧ t < Wy) (hhz : 0 ≤ hz ∧ hz ≤ 5) (hhk : ∀ i : Int, 0 ≤ i → i < hz → (0 ≤ hk i ∧ hk i ≤ 40) ∧ (0 ≤ hq i ∧ hq i < Wy) ∧ (0 ≤ hv i ∧ hv i ≤ 999)) : Met l yX1_allSoBy wsX1_allSoBy rmX1_allSoBy (rdP G [.ref hh0, .int (zI t), .ref hw0] [(hh0, .inr (1, [.ref ak, .ref aq, .ref av, .int (zI hz)])), (ak, .inl (G.2.1, 5, .inl (aZ hk))), (aq, .inl (G.2.1, 5, .inl (aZ hq))), (av, .inl (G.2.1, 5, .inl (aZ hv))), (hw0, .inr (7, [.ref hb0, .ref hy0, .ref ap])), (hb0, .inr (0, [.int (zI S), .int (zI C), .int (zI Wy), .int (zI Li), .int (zI St), .ref al])), (hy0, .inr (2, [.int (zI wy), .int (zI se), .int (zI tu), .ref aw])), (al, .inl (G.2.1, 12, .inl (aZ ld))), (aw, .inl (G.2.1, 12, .inl (aZ wn)))]) (rdQ (zI (if asB S wy ld wn hk hq hv t hz.toNat = true then 1 else 0))) 0 0 noA := by
  refine rd_ofW (cc := cX1_allSoBy) (maxL := 4) (ty := .boolean) (by decide) rfl (Nat.le_of_ble_eq_true rfl) (nb _) ?_
  intro p e s m below meth c Q A hx hb hml hown hts hK hret H locs hP hS ls hl
  have hown : s.vm.findClass RX1 = some m.cls := hown
  have hl : lv_has ls 4 [(0, .ref hh0), (1, .int (zI t)), (2, .ref hw0)] := hl
  have f21 := hts (.fieldLink RX1 21 "QuarterTurns$Hollows" "size" "I") (by decide +kernel)
  have i1 : ∀ w ∈ wsX10, w ∈ wsX1_allSoBy := fun w h => List.mem_cons_of_mem _ (List.mem_append_left _ (List.mem_append_left _ (List.mem_append_left _ (List.mem_append_right _ h))))
  have f9 := hts (.fieldLink RX1 9 "QuarterTurns$Hollows" "seasons" "[I") (by decide +kernel)
  have f15 := hts (.fieldLink RX1 15 "QuarterTurns$Hollows" "ways" "[I") (by decide +kernel)
  have f18 := hts (.fieldLink RX1 18 "QuarterTurns$Hollows" "values" "[I") (by decide +kernel)
  refine lv_iconst (v := zI 0) hx hb dX1_allSoBy_0 rfl ?_
  refine lv_istore_n (lv' := [(3, .int (zI 0)), (0, .ref hh0), (1, .int (zI t)), (2, .ref hw0)]) hx hb dX1_allSoBy_1 rfl hl (by decide) rfl (fun ls hl => ?_)
  have loop2 : ∀ (n_ : Nat) (i : Int) (H : Heap) (locs : List Loc) (ls : Array Slot), (0 ≤ i ∧ i ≤ hz) → (asB S wy ld wn hk hq hv t i.toNat = true) → (hz - i).toNat < n_ → kP G [(hh0, .inr (1, [.ref ak, .ref aq, .ref av, .int (zI hz)])), (ak, .inl (G.2.1, 5, .inl (aZ hk))), (aq, .inl (G.2.1, 5, .inl (aZ hq))), (av, .inl (G.2.1, 5, .inl (aZ hv))), (hw0, .inr (7, [.ref hb0, .ref hy0, .ref ap])), (hb0, .inr (0, [.int (zI S), .int (zI C), .int (zI Wy), .int (zI Li), .int (zI St), .ref al])), (hy0, .inr (2, [.int (zI wy), .int (zI se), .int (zI tu), .ref aw])), (al, .inl (G.2.1, 12, .inl (aZ ld))), (aw, .inl (G.2.1, 12, .inl (aZ wn)))] H → va_S A s.heap H locs → lv_has ls 4 [(3, .int (zI i)), (0, .ref hh0), (1, .int (zI t)), (2, .ref hw0)] → W p l e rmX1_allSoBy s m ([.ref hh0, .int (zI t), .ref hw0] : List Value).toArray below meth c H locs 0 0 Q (F0 m 2 ls []) := by
    intro n_
    induction n_ with
    | zero =>
      intro i H locs ls hi has hm
      exact absurd hm (Nat.not_lt_zero _)
    | succ n_ ih2 =>
      intro i H locs ls hi has hm2 hP hS hl
      refine lv_iload_n hx hb dX1_allSoBy_2 rfl (lv_at hl 0 rfl) ?_
      refine lv_aload_n hx hb dX1_allSoBy_3 rfl (lv_at hl 1 rfl) ?_
      refine va_get (ci := 1) (v := .int (zI hz)) (C := RX1) (T := TX1) (N := 4) hx hb hts i1 hown hK hP 0 rfl rfl 3 (by decide) f21 (fun _ h9 => h9) rfl dX1_allSoBy_4 ?_
      refine z_icmp_ge (tgt := 44) hx hb (by omega) dX1_allSoBy_7 (by decide) (fun c_1 => ?_) (fun c_1 => ?_)
      · refine lv_iconst (v := zI 1) hx hb dX1_allSoBy_44 rfl ?_
        exact hret H locs ls 45 _ (congrArg zI (if_pos (by rw [show hz = i by omega]; exact has)).symm) hS dX1_allSoBy_45
      · have hki := hhk i hi.1 (by omega)
        refine lv_aload_n hx hb dX1_allSoBy_10 rfl (lv_at hl 3 rfl) ?_
        refine lv_aload_n hx hb dX1_allSoBy_11 rfl (lv_at hl 1 rfl) ?_
        refine va_get (ci := 1) (v := .ref ak) (C := RX1) (T := TX1) (N := 4) hx hb hts i1 hown hK hP 0 rfl rfl 0 (by decide) f9 (fun _ h9 => h9) rfl dX1_allSoBy_12 ?_
        refine lv_iload_n hx hb dX1_allSoBy_15 rfl (lv_at hl 0 rfl) ?_
        refine z_iald (n := 5) (f := hk) hx hb hK hP 1 rfl (by omega) dX1_allSoBy_16 ?_
        refine lv_aload_n hx hb dX1_allSoBy_17 rfl (lv_at hl 1 rfl) ?_
        refine va_get (ci := 1) (v := .ref aq) (C := RX1) (T := TX1) (N := 4) hx hb hts i1 hown hK hP 0 rfl rfl 1 (by decide) f15 (fun _ h9 => h9) rfl dX1_allSoBy_18 ?_
        refine lv_iload_n hx hb dX1_allSoBy_21 rfl (lv_at hl 0 rfl) ?_
        refine z_iald (n := 5) (f := hq) hx hb hK hP 2 rfl (by omega) dX1_allSoBy_22 ?_
        refine lv_iload_n hx hb dX1_allSoBy_23 rfl (lv_at hl 2 rfl) ?_
        refine z_cV (As := [.int (zI (hk i)), .int (zI (hq i)), .int (zI t)]) (rest := []) ⟨hx, hb, hml, hown, hts⟩ (c_X7_wornIn l G hw0 ap hb0 al S C Wy Li St hy0 aw wy se tu wn ld (hk i) (hq i) t (by first | assumption | omega) (by first | assumption | omega) (by first | assumption | omega) (by first | assumption | omega) (by first | assumption | omega) (by first | assumption | omega) (by first | assumption | omega)) (cwV 3 hts gX1_allSoBy_X7_wornIn rfl rfl rfl pd_X7_wornIn ⟨(Nat.le_of_ble_eq_true rfl), (Nat.le_of_ble_eq_true rfl)⟩) hK hP hS [4, 5, 6, 7, 8] rfl rfl rfl rfl rfl hl.1 rfl (Nat.le_of_ble_eq_true rfl) dX1_allSoBy_24 ⟨Nat.zero_le _, Nat.zero_le _⟩ (fun H locs hP hS => ?_)
        have hwr := wiZ_rng (S := S) (wy := wy) (ld := ld) (wn := wn) (sea := hk i) (w := hq i) (t := t) hki.1 (hwn _ (by omega) (by omega)) (hld _ (by omega) (by omega))
        refine lv_aload_n hx hb dX1_allSoBy_27 rfl (lv_at hl 1 rfl) ?_
        refine va_get (ci := 1) (v := .ref av) (C := RX1) (T := TX1) (N := 4) hx hb hts i1 hown hK hP 0 rfl rfl 2 (by decide) f18 (fun _ h9 => h9) rfl dX1_allSoBy_28 ?_
        refine lv_iload_n hx hb dX1_allSoBy_31 rfl (lv_at hl 0 rfl) ?_
        refine z_iald (n := 5) (f := hv) hx hb hK hP 3 rfl (by omega) dX1_allSoBy_32 ?_
        refine z_icmp_eq (tgt := 38) hx hb (by omega) dX1_allSoBy_33 (by decide) (fun c_2 => ?_) (fun c_2 => ?_)
        · refine lv_iinc (v := zI (i + 1)) (lv' := [(3, .int (zI (i + 1))), (0, .ref hh0), (1, .int (zI t)), (2, .ref hw0)]) hx hb dX1_allSoBy_38 hl (k := 0) rfl (zI_add _ _) (by decide) rfl (fun ls hl => ?_)
          refine lv_goto (tgt := 2) hx hb dX1_allSoBy_41 (by decide) ?_
          exact ih2 (i + 1) H locs ls (by omega) (by rw [tn1 hi.1, asB, has, Int.toNat_of_nonneg hi.1, Bool.true_and, decide_eq_true_eq]; assumption) (by omega) hP hS (lv_sub hl [0, 1, 2, 3] rfl)
        · refine lv_iconst (v := zI 0) hx hb dX1_allSoBy_36 rfl ?_
          exact hret H locs ls 37 _ (congrArg zI (if_neg (by exact asB_false hi.1 (by omega) (by assumption))).symm) hS dX1_allSoBy_37
  exact loop2 _ 0 H locs ls (by omega) rfl (Nat.lt_succ_self _) hP hS (lv_sub hl [0, 1, 2, 3] rfl)
