theorem pd_X8_again : yX8_again.cls = RX8 ∧ yX8_again.cls ≠ "java/lang/invoke/MethodHandle" ∧ yX8_again.cls ≠ "java/lang/invoke/VarHandle" ∧ (parseMethodDescriptor yX8_again.desc).map (fun d => d.parameters.length) = some 1 := by decide +kernel
abbrev rmX8_again : Room := { frames := 3, cells := 0, slots := 0, locals := 68 }
set_option maxHeartbeats 4000000 in
set_option maxRecDepth 100000 in
theorem c_X8_again (l : Launch) (G : CX) (hq0 : Nat) (hx0 : Nat) (hr0 : Nat) (hb0 : Nat) (hy0 : Nat) (hp0 : Nat) (hn0 : Nat) (hw0 : Nat) (hh0 : Nat) (aim : Nat) (aik : Nat) (tr : Int64) (al : Nat) (S : Int) (C : Int) (Wy : Int) (Li : Int) (St : Int) (t : Int) (hB : (2 ≤ S ∧ S ≤ 6) ∧ (C = 1 ∧ Wy = S ∨ C = 2 ∧ Wy = 2 * S)) (hr_t : -2147483648 ≤ t ∧ t < 2147483648) : Met l yX8_again wsX8_again rmX8_again (rdP G [.ref hq0, .int (zI t)] [(hq0, .inr (8, [.ref hx0, .ref hr0, .ref hb0, .ref hy0, .ref hp0, .ref hn0, .ref hw0, .ref hh0, .ref aim, .ref aik, .long tr])), (hb0, .inr (0, [.int (zI S), .int (zI C), .int (zI Wy), .int (zI Li), .int (zI St), .ref al]))]) (rdQ (zI (if 0 ≤ t ∧ t < Wy then ordZ S t else -1))) 0 0 noA := by
  refine rd_ofW (cc := cX8_again) (maxL := 2) (ty := .int) (by decide) rfl (Nat.le_of_ble_eq_true rfl) rfl ?_
  intro p e s m below meth c Q A hx hb hml hown hts hK hret H locs hP hS ls hl
  have hown : s.vm.findClass RX8 = some m.cls := hown
  have hl : lv_has ls 2 [(0, .ref hq0), (1, .int (zI t))] := hl
  have f28 := hts (.fieldLink RX8 28 "QuarterTurns" "bed" "LQuarterTurns$Bed;") (by decide +kernel)
  have i8 : ∀ w ∈ wsX80, w ∈ wsX8_again := fun w h => List.mem_cons_of_mem _ (List.mem_append_left _ (List.mem_append_right _ h))
  refine lv_aload_n hx hb dX8_again_0 rfl (lv_at hl 0 rfl) ?_
  refine va_get (ci := 8) (v := .ref hb0) (C := RX8) (T := TX8) (N := 11) hx hb hts i8 hown hK hP 0 rfl rfl 2 (by decide) f28 (fun _ h9 => h9) rfl dX8_again_1 ?_
  refine lv_iload_n hx hb dX8_again_4 rfl (lv_at hl 1 rfl) ?_
  refine z_cV (As := [.int (zI t)]) (rest := []) ⟨hx, hb, hml, hown, hts⟩ (c_X0_has l G hb0 al S C Wy Li St t (by first | assumption | omega) (by first | assumption | omega)) (cwV 1 hts gX8_again_X0_has rfl rfl rfl pd_X0_has ⟨(Nat.le_of_ble_eq_true rfl), (Nat.le_of_ble_eq_true rfl)⟩) hK hP hS [1] rfl rfl rfl rfl rfl hl.1 rfl (Nat.le_of_ble_eq_true rfl) dX8_again_5 ⟨Nat.zero_le _, Nat.zero_le _⟩ (fun H locs hP hS => ?_)
  refine z_ifeq_b (tgt := 22) hx hb dX8_again_8 (by decide) (fun c_1 => ?_) (fun c_1 => ?_)
  · refine lv_iconst (v := zI (-1)) hx hb dX8_again_22 rfl ?_
    exact hret H locs ls 23 _ (congrArg zI (by (repeat' split) <;> first | omega | rfl)) hS dX8_again_23
  · refine lv_aload_n hx hb dX8_again_11 rfl (lv_at hl 0 rfl) ?_
    refine va_get (ci := 8) (v := .ref hb0) (C := RX8) (T := TX8) (N := 11) hx hb hts i8 hown hK hP 0 rfl rfl 2 (by decide) f28 (fun _ h9 => h9) rfl dX8_again_12 ?_
    refine lv_iload_n hx hb dX8_again_15 rfl (lv_at hl 1 rfl) ?_
    refine z_cV (As := [.int (zI t)]) (rest := []) ⟨hx, hb, hml, hown, hts⟩ (c_X0_orderOf l G hb0 al S C Wy Li St t (by first | assumption | omega) (by first | assumption | omega)) (cwV 1 hts gX8_again_X0_orderOf rfl rfl rfl pd_X0_orderOf ⟨(Nat.le_of_ble_eq_true rfl), (Nat.le_of_ble_eq_true rfl)⟩) hK hP hS [1] rfl rfl rfl rfl rfl hl.1 rfl (Nat.le_of_ble_eq_true rfl) dX8_again_16 ⟨Nat.zero_le _, Nat.zero_le _⟩ (fun H locs hP hS => ?_)
    have hq_2 := ordZ_rng S t
    refine lv_goto (tgt := 23) hx hb dX8_again_19 (by decide) ?_
    exact hret H locs ls 23 _ (congrArg zI (by (repeat' split) <;> first | omega | rfl)) hS dX8_again_23

def alC (S Wy : Int) : Nat → Nat
  | 0 => 0
  | k + 1 => if ordZ S (k : Int) = Wy then alC S Wy k ||| 2 ^ k else alC S Wy k
def btI (S Wy home a : Int) : Nat → Int × Int → Int × Int
  | 0, s => s
  | b + 1, s => if ¬ a = (b : Int) ∧ thruS S a (b : Int) home (2 * Wy).toNat = fullN Wy then ((btI S Wy home a b s).1 + 1, if (btI S Wy home a b s).1 = 0 then 100 * a + (b : Int) else (btI S Wy home a b s).2) else btI S Wy home a b s
def btO (S Wy home : Int) : Nat → Int × Int
  | 0 => (0, -9)
  | a + 1 => btI S Wy home (a : Int) Wy.toNat (btO S Wy home a)
def saI (S a : Int) (W : Nat) : Nat → Int → Int
  | 0, s => s
  | k + 1, s => if fromZ S (fromZ S 0 a) (a + 1 + (k : Int)) = fromZ S (fromZ S 0 (a + 1 + (k : Int))) a then saI S a W k s + 1 else saI S a W k s
def saO (S Wy : Int) : Nat → Int
  | 0 => 0
  | a + 1 => saI S (a : Int) Wy.toNat (Wy - ((a : Int) + 1)).toNat (saO S Wy a)
def ltB (S Li wy : Int) (ld wn : Int → Int) : Nat → Int
  | 0 => 0
  | k + 1 => if seasZ S Li wy ld wn (ltB S Li wy ld wn k) < seasZ S Li wy ld wn ((k : Int) + 1) then (k : Int) + 1 else ltB S Li wy ld wn k
def whC (S wy : Int) (ld wn hk hq hv : Int → Int) (hz : Nat) : Nat → Nat
  | 0 => 0
  | k + 1 => if asB S wy ld wn hk hq hv (k : Int) hz = true then whC S wy ld wn hk hq hv hz k ||| 2 ^ k else whC S wy ld wn hk hq hv hz k
theorem alC_lt {S Wy : Int} (h : Wy ≤ 12) : ∀ k : Nat, (k : Int) ≤ Wy → alC S Wy k < 4096
  | 0, _ => by simp [alC]
  | k + 1, hk => by
    have h1 := alC_lt (S := S) h k (by omega)
    unfold alC
    split
    · exact or_lt h1 (by have := bit_lt (x := (k : Int)) (by omega); simpa using this)
    · exact h1

theorem pd_X8_all : yX8_all.cls = RX8 ∧ yX8_all.cls ≠ "java/lang/invoke/MethodHandle" ∧ yX8_all.cls ≠ "java/lang/invoke/VarHandle" ∧ (parseMethodDescriptor yX8_all.desc).map (fun d => d.parameters.length) = some 0 := by decide +kernel
abbrev rmX8_all : Room := { frames := 3, cells := 0, slots := 0, locals := 68 }
set_option maxHeartbeats 4000000 in
set_option maxRecDepth 100000 in
theorem c_X8_all (l : Launch) (G : CX) (hq0 : Nat) (hx0 : Nat) (hr0 : Nat) (hb0 : Nat) (hy0 : Nat) (hp0 : Nat) (hn0 : Nat) (hw0 : Nat) (hh0 : Nat) (aim : Nat) (aik : Nat) (tr : Int64) (al : Nat) (S : Int) (C : Int) (Wy : Int) (Li : Int) (St : Int) (hB : (2 ≤ S ∧ S ≤ 6) ∧ (C = 1 ∧ Wy = S ∨ C = 2 ∧ Wy = 2 * S)) : Met l yX8_all wsX8_all rmX8_all (rdP G [.ref hq0] [(hq0, .inr (8, [.ref hx0, .ref hr0, .ref hb0, .ref hy0, .ref hp0, .ref hn0, .ref hw0, .ref hh0, .ref aim, .ref aik, .long tr])), (hb0, .inr (0, [.int (zI S), .int (zI C), .int (zI Wy), .int (zI Li), .int (zI St), .ref al]))]) (rdQ (zI ((alC S Wy Wy.toNat : Nat) : Int))) 0 0 noA := by
  refine rd_ofW (cc := cX8_all) (maxL := 3) (ty := .int) (by decide) rfl (Nat.le_of_ble_eq_true rfl) rfl ?_
  intro p e s m below meth c Q A hx hb hml hown hts hK hret H locs hP hS ls hl
  have hown : s.vm.findClass RX8 = some m.cls := hown
  have hl : lv_has ls 3 [(0, .ref hq0)] := hl
  have f28 := hts (.fieldLink RX8 28 "QuarterTurns" "bed" "LQuarterTurns$Bed;") (by decide +kernel)
  have i8 : ∀ w ∈ wsX80, w ∈ wsX8_all := fun w h => List.mem_cons_of_mem _ (List.mem_append_left _ (List.mem_append_right _ h))
  have f166 := hts (.fieldLink RX8 166 "QuarterTurns$Bed" "ways" "I") (by decide +kernel)
  have i0 : ∀ w ∈ wsX00, w ∈ wsX8_all := fun w h => List.mem_cons_of_mem _ (List.mem_append_right _ h)
  refine lv_iconst (v := zI 0) hx hb dX8_all_0 rfl ?_
  refine lv_istore_n (lv' := [(1, .int (zI 0)), (0, .ref hq0)]) hx hb dX8_all_1 rfl hl (by decide) rfl (fun ls hl => ?_)
  refine lv_iconst (v := zI 0) hx hb dX8_all_2 rfl ?_
  refine lv_istore_n (lv' := [(2, .int (zI 0)), (1, .int (zI 0)), (0, .ref hq0)]) hx hb dX8_all_3 rfl hl (by decide) rfl (fun ls hl => ?_)
  have loop4 : ∀ (n_ : Nat) (t : Int) (bits : Nat) (H : Heap) (locs : List Loc) (ls : Array Slot), (0 ≤ t ∧ t ≤ Wy) → (bits = alC S Wy t.toNat) → (Wy - t).toNat < n_ → kP G [(hq0, .inr (8, [.ref hx0, .ref hr0, .ref hb0, .ref hy0, .ref hp0, .ref hn0, .ref hw0, .ref hh0, .ref aim, .ref aik, .long tr])), (hb0, .inr (0, [.int (zI S), .int (zI C), .int (zI Wy), .int (zI Li), .int (zI St), .ref al]))] H → va_S A s.heap H locs → lv_has ls 3 [(2, .int (zI t)), (1, .int (zI ((bits : Nat) : Int))), (0, .ref hq0)] → W p l e rmX8_all s m ([.ref hq0] : List Value).toArray below meth c H locs 0 0 Q (F0 m 4 ls []) := by
    intro n_
    induction n_ with
    | zero =>
      intro t bits H locs ls ht hbi hm
      exact absurd hm (Nat.not_lt_zero _)
    | succ n_ ih4 =>
      intro t bits H locs ls ht hbi hm4 hP hS hl
      refine lv_iload_n hx hb dX8_all_4 rfl (lv_at hl 0 rfl) ?_
      refine lv_aload_n hx hb dX8_all_5 rfl (lv_at hl 2 rfl) ?_
      refine va_get (ci := 8) (v := .ref hb0) (C := RX8) (T := TX8) (N := 11) hx hb hts i8 hown hK hP 0 rfl rfl 2 (by decide) f28 (fun _ h9 => h9) rfl dX8_all_6 ?_
      refine va_get (ci := 0) (v := .int (zI Wy)) (C := RX0) (T := TX0) (N := 6) hx hb hts i0 hown hK hP 1 rfl rfl 2 (by decide) f166 (fun _ h9 => h9) rfl dX8_all_9 ?_
      refine z_icmp_ge (tgt := 45) hx hb (by omega) dX8_all_12 (by decide) (fun c_1 => ?_) (fun c_1 => ?_)
      · refine lv_iload_n hx hb dX8_all_45 rfl (lv_at hl 1 rfl) ?_
        exact hret H locs ls 46 _ (congrArg zI (by rw [hbi, show t = Wy by omega])) hS dX8_all_46
      · refine lv_aload_n hx hb dX8_all_15 rfl (lv_at hl 2 rfl) ?_
        refine va_get (ci := 8) (v := .ref hb0) (C := RX8) (T := TX8) (N := 11) hx hb hts i8 hown hK hP 0 rfl rfl 2 (by decide) f28 (fun _ h9 => h9) rfl dX8_all_16 ?_
        refine lv_iload_n hx hb dX8_all_19 rfl (lv_at hl 0 rfl) ?_
        refine z_cV (As := [.int (zI t)]) (rest := []) ⟨hx, hb, hml, hown, hts⟩ (c_X0_orderOf l G hb0 al S C Wy Li St t (by first | assumption | omega) (by first | assumption | omega)) (cwV 1 hts gX8_all_X0_orderOf rfl rfl rfl pd_X0_orderOf ⟨(Nat.le_of_ble_eq_true rfl), (Nat.le_of_ble_eq_true rfl)⟩) hK hP hS [1] rfl rfl rfl rfl rfl hl.1 rfl (Nat.le_of_ble_eq_true rfl) dX8_all_20 ⟨Nat.zero_le _, Nat.zero_le _⟩ (fun H locs hP hS => ?_)
        have hq_2 := ordZ_rng S t
        refine lv_aload_n hx hb dX8_all_23 rfl (lv_at hl 2 rfl) ?_
        refine va_get (ci := 8) (v := .ref hb0) (C := RX8) (T := TX8) (N := 11) hx hb hts i8 hown hK hP 0 rfl rfl 2 (by decide) f28 (fun _ h9 => h9) rfl dX8_all_24 ?_
        refine va_get (ci := 0) (v := .int (zI Wy)) (C := RX0) (T := TX0) (N := 6) hx hb hts i0 hown hK hP 1 rfl rfl 2 (by decide) f166 (fun _ h9 => h9) rfl dX8_all_27 ?_
        refine z_icmp_ne (tgt := 39) hx hb (by omega) dX8_all_30 (by decide) (fun c_3 => ?_) (fun c_3 => ?_)
        · refine lv_iinc (v := zI (t + 1)) (lv' := [(2, .int (zI (t + 1))), (1, .int (zI ((bits : Nat) : Int))), (0, .ref hq0)]) hx hb dX8_all_39 hl (k := 0) rfl (zI_add _ _) (by decide) rfl (fun ls hl => ?_)
          refine lv_goto (tgt := 4) hx hb dX8_all_42 (by decide) ?_
          exact ih4 (t + 1) bits H locs ls (by omega) (by rw [tn1 ht.1, alC, Int.toNat_of_nonneg ht.1, ← hbi]; first | rw [if_pos (by assumption)] | rw [if_neg (by assumption)]) (by omega) hP hS (lv_sub hl [0, 1, 2] rfl)
        · refine lv_iload_n hx hb dX8_all_33 rfl (lv_at hl 1 rfl) ?_
          refine lv_iconst (v := zI 1) hx hb dX8_all_34 rfl ?_
          refine lv_iload_n hx hb dX8_all_35 rfl (lv_at hl 0 rfl) ?_
          refine z_shl1 hx hb (by omega) dX8_all_36 ?_
          refine z_ior (a := bits) (b := (2 ^ t.toNat)) hx hb dX8_all_37 ?_
          refine lv_istore_n (lv' := [(1, .int (zI ((bits ||| (2 ^ t.toNat) : Nat) : Int))), (2, .int (zI t)), (0, .ref hq0)]) hx hb dX8_all_38 rfl hl (by decide) rfl (fun ls hl => ?_)
          refine lv_iinc (v := zI (t + 1)) (lv' := [(2, .int (zI (t + 1))), (1, .int (zI ((bits ||| (2 ^ t.toNat) : Nat) : Int))), (0, .ref hq0)]) hx hb dX8_all_39 hl (k := 1) rfl (zI_add _ _) (by decide) rfl (fun ls hl => ?_)
          refine lv_goto (tgt := 4) hx hb dX8_all_42 (by decide) ?_
          exact ih4 (t + 1) (bits ||| (2 ^ t.toNat)) H locs ls (by omega) (by rw [tn1 ht.1, alC, Int.toNat_of_nonneg ht.1, ← hbi]; first | rw [if_pos (by assumption)] | rw [if_neg (by assumption)]) (by omega) hP hS (lv_sub hl [0, 1, 2] rfl)
  exact loop4 _ 0 0 H locs ls (by omega) rfl (Nat.lt_succ_self _) hP hS (lv_sub hl [0, 1, 2] rfl)
theorem pd_X8_byTurns : yX8_byTurns.cls = RX8 ∧ yX8_byTurns.cls ≠ "java/lang/invoke/MethodHandle" ∧ yX8_byTurns.cls ≠ "java/lang/invoke/VarHandle" ∧ (parseMethodDescriptor yX8_byTurns.desc).map (fun d => d.parameters.length) = some 1 := by decide +kernel
abbrev rmX8_byTurns : Room := { frames := 3, cells := 0, slots := 0, locals := 71 }
set_option maxHeartbeats 4000000 in
set_option maxRecDepth 100000 in
theorem c_X8_byTurns (l : Launch) (G : CX) (hq0 : Nat) (hx0 : Nat) (hr0 : Nat) (hb0 : Nat) (hy0 : Nat) (hp0 : Nat) (hn0 : Nat) (hw0 : Nat) (hh0 : Nat) (aim : Nat) (aik : Nat) (tr : Int64) (al : Nat) (S : Int) (C : Int) (Wy : Int) (Li : Int) (St : Int) (aw : Nat) (wy : Int) (se : Int) (tu : Int) (wn : Int → Int) (what : Int) (hB : (2 ≤ S ∧ S ≤ 6) ∧ (C = 1 ∧ Wy = S ∨ C = 2 ∧ Wy = 2 * S)) (hwy : 0 ≤ wy ∧ wy < Wy) (hr_what : -2147483648 ≤ what ∧ what < 2147483648) : Met l yX8_byTurns wsX8_byTurns rmX8_byTurns (rdP G [.ref hq0, .int (zI what)] [(hq0, .inr (8, [.ref hx0, .ref hr0, .ref hb0, .ref hy0, .ref hp0, .ref hn0, .ref hw0, .ref hh0, .ref aim, .ref aik, .long tr])), (hb0, .inr (0, [.int (zI S), .int (zI C), .int (zI Wy), .int (zI Li), .int (zI St), .ref al])), (hy0, .inr (2, [.int (zI wy), .int (zI se), .int (zI tu), .ref aw]))]) (rdQ (zI (if ¬ (what = 0 ∨ what = 1) then -1 else if what = 0 then (btO S Wy wy Wy.toNat).1 else (btO S Wy wy Wy.toNat).2))) 0 0 noA := by
  refine rd_ofW (cc := cX8_byTurns) (maxL := 6) (ty := .int) (by decide) rfl (Nat.le_of_ble_eq_true rfl) rfl ?_
  intro p e s m below meth c Q A hx hb hml hown hts hK hret H locs hP hS ls hl
  have hown : s.vm.findClass RX8 = some m.cls := hown
  have hl : lv_has ls 6 [(0, .ref hq0), (1, .int (zI what))] := hl
  have f28 := hts (.fieldLink RX8 28 "QuarterTurns" "bed" "LQuarterTurns$Bed;") (by decide +kernel)
  have i8 : ∀ w ∈ wsX80, w ∈ wsX8_byTurns := fun w h => List.mem_cons_of_mem _ (List.mem_append_left _ (List.mem_append_left _ (List.mem_append_right _ h)))
  have f166 := hts (.fieldLink RX8 166 "QuarterTurns$Bed" "ways" "I") (by decide +kernel)
  have i0 : ∀ w ∈ wsX00, w ∈ wsX8_byTurns := fun w h => List.mem_cons_of_mem _ (List.mem_append_left _ (List.mem_append_right _ h))
  have f35 := hts (.fieldLink RX8 35 "QuarterTurns" "lying" "LQuarterTurns$Lying;") (by decide +kernel)
  have f131 := hts (.fieldLink RX8 131 "QuarterTurns$Lying" "way" "I") (by decide +kernel)
  have i2 : ∀ w ∈ wsX20, w ∈ wsX8_byTurns := fun w h => List.mem_cons_of_mem _ (List.mem_append_right _ h)
  refine lv_iload_n hx hb dX8_byTurns_0 rfl (lv_at hl 1 rfl) ?_
  refine z_if_eq (tgt := 11) hx hb (by omega) dX8_byTurns_1 (by decide) (fun c_1 => ?_) (fun c_1 => ?_)
  · refine lv_iconst (v := zI 0) hx hb dX8_byTurns_11 rfl ?_
    refine lv_istore_n (lv' := [(2, .int (zI 0)), (0, .ref hq0), (1, .int (zI what))]) hx hb dX8_byTurns_12 rfl hl (by decide) rfl (fun ls hl => ?_)
    refine lv_bipush (v := zI (-9)) hx hb dX8_byTurns_13 (by decide) ?_
    refine lv_istore_n (lv' := [(3, .int (zI (-9))), (2, .int (zI 0)), (0, .ref hq0), (1, .int (zI what))]) hx hb dX8_byTurns_15 rfl hl (by decide) rfl (fun ls hl => ?_)
    refine lv_iconst (v := zI 0) hx hb dX8_byTurns_16 rfl ?_
    refine lv_istore (lv' := [(4, .int (zI 0)), (3, .int (zI (-9))), (2, .int (zI 0)), (0, .ref hq0), (1, .int (zI what))]) hx hb dX8_byTurns_17 hl (by decide) rfl (fun ls hl => ?_)
    have loop19 : ∀ (n_ : Nat) (a : Int) (mn : Int) (fi : Int) (H : Heap) (locs : List Loc) (ls : Array Slot), (0 ≤ a ∧ a ≤ Wy) → (0 ≤ mn ∧ mn ≤ 12 * a) → (mn = (btO S Wy wy a.toNat).1) → (fi = (btO S Wy wy a.toNat).2) → (Wy - a).toNat < n_ → kP G [(hq0, .inr (8, [.ref hx0, .ref hr0, .ref hb0, .ref hy0, .ref hp0, .ref hn0, .ref hw0, .ref hh0, .ref aim, .ref aik, .long tr])), (hb0, .inr (0, [.int (zI S), .int (zI C), .int (zI Wy), .int (zI Li), .int (zI St), .ref al])), (hy0, .inr (2, [.int (zI wy), .int (zI se), .int (zI tu), .ref aw]))] H → va_S A s.heap H locs → lv_has ls 6 [(4, .int (zI a)), (3, .int (zI fi)), (2, .int (zI mn)), (0, .ref hq0), (1, .int (zI what))] → W p l e rmX8_byTurns s m ([.ref hq0, .int (zI what)] : List Value).toArray below meth c H locs 0 0 Q (F0 m 19 ls []) := by
      intro n_
      induction n_ with
      | zero =>
        intro a mn fi H locs ls ha hmr hmn hfi hm
        exact absurd hm (Nat.not_lt_zero _)
      | succ n_ ih19 =>
        intro a mn fi H locs ls ha hmr hmn hfi hm19 hP hS hl
        refine lv_iload hx hb dX8_byTurns_19 (lv_at hl 0 rfl) ?_
        refine lv_aload_n hx hb dX8_byTurns_21 rfl (lv_at hl 3 rfl) ?_
        refine va_get (ci := 8) (v := .ref hb0) (C := RX8) (T := TX8) (N := 11) hx hb hts i8 hown hK hP 0 rfl rfl 2 (by decide) f28 (fun _ h9 => h9) rfl dX8_byTurns_22 ?_
        refine va_get (ci := 0) (v := .int (zI Wy)) (C := RX0) (T := TX0) (N := 6) hx hb hts i0 hown hK hP 1 rfl rfl 2 (by decide) f166 (fun _ h9 => h9) rfl dX8_byTurns_25 ?_
        refine z_icmp_ge (tgt := 106) hx hb (by omega) dX8_byTurns_28 (by decide) (fun c_2 => ?_) (fun c_2 => ?_)
        · refine lv_iload_n hx hb dX8_byTurns_106 rfl (lv_at hl 4 rfl) ?_
          refine z_if_ne (tgt := 114) hx hb (by omega) dX8_byTurns_107 (by decide) (fun c_3 => ?_) (fun c_3 => ?_)
          · refine lv_iload_n hx hb dX8_byTurns_114 rfl (lv_at hl 1 rfl) ?_
            exact hret H locs ls 115 _ (congrArg zI (by rw [if_neg (by omega)]; first | (rw [if_pos (by omega), hmn, show a = Wy by omega]) | (rw [if_neg (by omega), hfi, show a = Wy by omega]))) hS dX8_byTurns_115
          · refine lv_iload_n hx hb dX8_byTurns_110 rfl (lv_at hl 2 rfl) ?_
            refine lv_goto (tgt := 115) hx hb dX8_byTurns_111 (by decide) ?_
            exact hret H locs ls 115 _ (congrArg zI (by rw [if_neg (by omega)]; first | (rw [if_pos (by omega), hmn, show a = Wy by omega]) | (rw [if_neg (by omega), hfi, show a = Wy by omega]))) hS dX8_byTurns_115
        · refine lv_iconst (v := zI 0) hx hb dX8_byTurns_31 rfl ?_
          refine lv_istore (lv' := [(5, .int (zI 0)), (4, .int (zI a)), (3, .int (zI fi)), (2, .int (zI mn)), (0, .ref hq0), (1, .int (zI what))]) hx hb dX8_byTurns_32 hl (by decide) rfl (fun ls hl => ?_)
          have loop34 : ∀ (n_ : Nat) (b : Int) (m2 : Int) (f2 : Int) (H : Heap) (locs : List Loc) (ls : Array Slot), (0 ≤ b ∧ b ≤ Wy) → (0 ≤ m2 ∧ m2 ≤ 12 * a + b) → (m2 = (btI S Wy wy a b.toNat (btO S Wy wy a.toNat)).1) → (f2 = (btI S Wy wy a b.toNat (btO S Wy wy a.toNat)).2) → (Wy - b).toNat < n_ → kP G [(hq0, .inr (8, [.ref hx0, .ref hr0, .ref hb0, .ref hy0, .ref hp0, .ref hn0, .ref hw0, .ref hh0, .ref aim, .ref aik, .long tr])), (hb0, .inr (0, [.int (zI S), .int (zI C), .int (zI Wy), .int (zI Li), .int (zI St), .ref al])), (hy0, .inr (2, [.int (zI wy), .int (zI se), .int (zI tu), .ref aw]))] H → va_S A s.heap H locs → lv_has ls 6 [(5, .int (zI b)), (4, .int (zI a)), (3, .int (zI f2)), (2, .int (zI m2)), (0, .ref hq0), (1, .int (zI what))] → W p l e rmX8_byTurns s m ([.ref hq0, .int (zI what)] : List Value).toArray below meth c H locs 0 0 Q (F0 m 34 ls []) := by
            intro n_
            induction n_ with
            | zero =>
              intro b m2 f2 H locs ls hb2 hm3 hm2 hf2 hm
              exact absurd hm (Nat.not_lt_zero _)
            | succ n_ ih34 =>
              intro b m2 f2 H locs ls hb2 hm3 hm2 hf2 hm34 hP hS hl
              refine lv_iload hx hb dX8_byTurns_34 (lv_at hl 0 rfl) ?_
              refine lv_aload_n hx hb dX8_byTurns_36 rfl (lv_at hl 4 rfl) ?_
              refine va_get (ci := 8) (v := .ref hb0) (C := RX8) (T := TX8) (N := 11) hx hb hts i8 hown hK hP 0 rfl rfl 2 (by decide) f28 (fun _ h9 => h9) rfl dX8_byTurns_37 ?_
              refine va_get (ci := 0) (v := .int (zI Wy)) (C := RX0) (T := TX0) (N := 6) hx hb hts i0 hown hK hP 1 rfl rfl 2 (by decide) f166 (fun _ h9 => h9) rfl dX8_byTurns_40 ?_
              refine z_icmp_ge (tgt := 100) hx hb (by omega) dX8_byTurns_43 (by decide) (fun c_4 => ?_) (fun c_4 => ?_)
              · refine lv_iinc (v := zI (a + 1)) (lv' := [(4, .int (zI (a + 1))), (5, .int (zI b)), (3, .int (zI f2)), (2, .int (zI m2)), (0, .ref hq0), (1, .int (zI what))]) hx hb dX8_byTurns_100 hl (k := 1) rfl (zI_add _ _) (by decide) rfl (fun ls hl => ?_)
                refine lv_goto (tgt := 19) hx hb dX8_byTurns_103 (by decide) ?_
                exact ih19 (a + 1) m2 f2 H locs ls (by omega) (by omega) (by rw [tn1 ha.1, btO, Int.toNat_of_nonneg ha.1, hm2, show b.toNat = Wy.toNat by omega]) (by rw [tn1 ha.1, btO, Int.toNat_of_nonneg ha.1, hf2, show b.toNat = Wy.toNat by omega]) (by omega) hP hS (lv_sub hl [0, 2, 3, 4, 5] rfl)
              · refine lv_iload hx hb dX8_byTurns_46 (lv_at hl 1 rfl) ?_
                refine lv_iload hx hb dX8_byTurns_48 (lv_at hl 0 rfl) ?_
                refine z_icmp_eq (tgt := 94) hx hb (by omega) dX8_byTurns_50 (by decide) (fun c_5 => ?_) (fun c_5 => ?_)
                · refine lv_iinc (v := zI (b + 1)) (lv' := [(5, .int (zI (b + 1))), (4, .int (zI a)), (3, .int (zI f2)), (2, .int (zI m2)), (0, .ref hq0), (1, .int (zI what))]) hx hb dX8_byTurns_94 hl (k := 0) rfl (zI_add _ _) (by decide) rfl (fun ls hl => ?_)
                  refine lv_goto (tgt := 34) hx hb dX8_byTurns_97 (by decide) ?_
                  exact ih34 (b + 1) m2 f2 H locs ls (by omega) (by omega) (by rw [tn1 hb2.1, btI, Int.toNat_of_nonneg hb2.1]; first | (rw [if_pos ⟨by omega, by assumption⟩, ← hm2]) | (rw [if_neg (by rintro ⟨h1, h2⟩; first | omega | exact absurd h2 (by assumption))]; exact hm2)) (by rw [tn1 hb2.1, btI, Int.toNat_of_nonneg hb2.1]; first | (rw [if_pos ⟨by omega, by assumption⟩, ← hm2, ← hf2]; first | rw [if_pos (by omega)] | rw [if_neg (by omega)]) | (rw [if_neg (by rintro ⟨h1, h2⟩; first | omega | exact absurd h2 (by assumption))]; exact hf2)) (by omega) hP hS (lv_sub hl [0, 1, 2, 3, 4, 5] rfl)
                · refine lv_aload_n hx hb dX8_byTurns_53 rfl (lv_at hl 4 rfl) ?_
                  refine va_get (ci := 8) (v := .ref hb0) (C := RX8) (T := TX8) (N := 11) hx hb hts i8 hown hK hP 0 rfl rfl 2 (by decide) f28 (fun _ h9 => h9) rfl dX8_byTurns_54 ?_
                  refine lv_aload_n hx hb dX8_byTurns_57 rfl (lv_at hl 4 rfl) ?_
                  refine va_get (ci := 8) (v := .ref hy0) (C := RX8) (T := TX8) (N := 11) hx hb hts i8 hown hK hP 0 rfl rfl 3 (by decide) f35 (fun _ h9 => h9) rfl dX8_byTurns_58 ?_
                  refine va_get (ci := 2) (v := .int (zI wy)) (C := RX2) (T := TX2) (N := 4) hx hb hts i2 hown hK hP 2 rfl rfl 0 (by decide) f131 (fun _ h9 => h9) rfl dX8_byTurns_61 ?_
                  refine lv_iload hx hb dX8_byTurns_64 (lv_at hl 1 rfl) ?_
                  refine lv_iload hx hb dX8_byTurns_66 (lv_at hl 0 rfl) ?_
                  refine z_cV (As := [.int (zI wy), .int (zI a), .int (zI b)]) (rest := []) ⟨hx, hb, hml, hown, hts⟩ (c_X0_comesThroughAll l G hb0 al S C Wy Li St wy a b (by first | assumption | omega) (by first | assumption | omega) (by first | assumption | omega) (by first | assumption | omega)) (cwV 3 hts gX8_byTurns_X0_comesThroughAll rfl rfl rfl pd_X0_comesThroughAll ⟨(Nat.le_of_ble_eq_true rfl), (Nat.le_of_ble_eq_true rfl)⟩) hK hP hS [1] rfl rfl rfl rfl rfl hl.1 rfl (Nat.le_of_ble_eq_true rfl) dX8_byTurns_68 ⟨Nat.zero_le _, Nat.zero_le _⟩ (fun H locs hP hS => ?_)
                  refine z_ifeq_b (tgt := 94) hx hb dX8_byTurns_71 (by decide) (fun c_6 => ?_) (fun c_6 => ?_)
                  · refine lv_iinc (v := zI (b + 1)) (lv' := [(5, .int (zI (b + 1))), (4, .int (zI a)), (3, .int (zI f2)), (2, .int (zI m2)), (0, .ref hq0), (1, .int (zI what))]) hx hb dX8_byTurns_94 hl (k := 0) rfl (zI_add _ _) (by decide) rfl (fun ls hl => ?_)
                    refine lv_goto (tgt := 34) hx hb dX8_byTurns_97 (by decide) ?_
                    exact ih34 (b + 1) m2 f2 H locs ls (by omega) (by omega) (by rw [tn1 hb2.1, btI, Int.toNat_of_nonneg hb2.1]; first | (rw [if_pos ⟨by omega, by assumption⟩, ← hm2]) | (rw [if_neg (by rintro ⟨h1, h2⟩; first | omega | exact absurd h2 (by assumption))]; exact hm2)) (by rw [tn1 hb2.1, btI, Int.toNat_of_nonneg hb2.1]; first | (rw [if_pos ⟨by omega, by assumption⟩, ← hm2, ← hf2]; first | rw [if_pos (by omega)] | rw [if_neg (by omega)]) | (rw [if_neg (by rintro ⟨h1, h2⟩; first | omega | exact absurd h2 (by assumption))]; exact hf2)) (by omega) hP hS (lv_sub hl [0, 1, 2, 3, 4, 5] rfl)
                  · refine lv_iload_n hx hb dX8_byTurns_74 rfl (lv_at hl 3 rfl) ?_
                    refine z_if_ne (tgt := 89) hx hb (by omega) dX8_byTurns_75 (by decide) (fun c_7 => ?_) (fun c_7 => ?_)
                    · refine lv_iload_n hx hb dX8_byTurns_89 rfl (lv_at hl 2 rfl) ?_
                      refine lv_istore_n (lv' := [(3, .int (zI f2)), (5, .int (zI b)), (4, .int (zI a)), (2, .int (zI m2)), (0, .ref hq0), (1, .int (zI what))]) hx hb dX8_byTurns_90 rfl hl (by decide) rfl (fun ls hl => ?_)
                      refine lv_iinc (v := zI (m2 + 1)) (lv' := [(2, .int (zI (m2 + 1))), (3, .int (zI f2)), (5, .int (zI b)), (4, .int (zI a)), (0, .ref hq0), (1, .int (zI what))]) hx hb dX8_byTurns_91 hl (k := 3) rfl (zI_add _ _) (by decide) rfl (fun ls hl => ?_)
                      refine lv_iinc (v := zI (b + 1)) (lv' := [(5, .int (zI (b + 1))), (2, .int (zI (m2 + 1))), (3, .int (zI f2)), (4, .int (zI a)), (0, .ref hq0), (1, .int (zI what))]) hx hb dX8_byTurns_94 hl (k := 2) rfl (zI_add _ _) (by decide) rfl (fun ls hl => ?_)
                      refine lv_goto (tgt := 34) hx hb dX8_byTurns_97 (by decide) ?_
                      exact ih34 (b + 1) (m2 + 1) f2 H locs ls (by omega) (by omega) (by rw [tn1 hb2.1, btI, Int.toNat_of_nonneg hb2.1]; first | (rw [if_pos ⟨by omega, by assumption⟩, ← hm2]) | (rw [if_neg (by rintro ⟨h1, h2⟩; first | omega | exact absurd h2 (by assumption))]; exact hm2)) (by rw [tn1 hb2.1, btI, Int.toNat_of_nonneg hb2.1]; first | (rw [if_pos ⟨by omega, by assumption⟩, ← hm2, ← hf2]; first | rw [if_pos (by omega)] | rw [if_neg (by omega)]) | (rw [if_neg (by rintro ⟨h1, h2⟩; first | omega | exact absurd h2 (by assumption))]; exact hf2)) (by omega) hP hS (lv_sub hl [0, 3, 2, 1, 4, 5] rfl)
                    · refine lv_bipush (v := zI 100) hx hb dX8_byTurns_78 (by decide) ?_
                      refine lv_iload hx hb dX8_byTurns_80 (lv_at hl 1 rfl) ?_
                      refine z_imul hx hb dX8_byTurns_82 ?_
                      refine lv_iload hx hb dX8_byTurns_83 (lv_at hl 0 rfl) ?_
                      refine z_iadd hx hb dX8_byTurns_85 ?_
                      refine lv_goto (tgt := 90) hx hb dX8_byTurns_86 (by decide) ?_
                      refine lv_istore_n (lv' := [(3, .int (zI ((100 * a) + b))), (5, .int (zI b)), (4, .int (zI a)), (2, .int (zI m2)), (0, .ref hq0), (1, .int (zI what))]) hx hb dX8_byTurns_90 rfl hl (by decide) rfl (fun ls hl => ?_)
                      refine lv_iinc (v := zI (m2 + 1)) (lv' := [(2, .int (zI (m2 + 1))), (3, .int (zI ((100 * a) + b))), (5, .int (zI b)), (4, .int (zI a)), (0, .ref hq0), (1, .int (zI what))]) hx hb dX8_byTurns_91 hl (k := 3) rfl (zI_add _ _) (by decide) rfl (fun ls hl => ?_)
                      refine lv_iinc (v := zI (b + 1)) (lv' := [(5, .int (zI (b + 1))), (2, .int (zI (m2 + 1))), (3, .int (zI ((100 * a) + b))), (4, .int (zI a)), (0, .ref hq0), (1, .int (zI what))]) hx hb dX8_byTurns_94 hl (k := 2) rfl (zI_add _ _) (by decide) rfl (fun ls hl => ?_)
                      refine lv_goto (tgt := 34) hx hb dX8_byTurns_97 (by decide) ?_
                      exact ih34 (b + 1) (m2 + 1) ((100 * a) + b) H locs ls (by omega) (by omega) (by rw [tn1 hb2.1, btI, Int.toNat_of_nonneg hb2.1]; first | (rw [if_pos ⟨by omega, by assumption⟩, ← hm2]) | (rw [if_neg (by rintro ⟨h1, h2⟩; first | omega | exact absurd h2 (by assumption))]; exact hm2)) (by rw [tn1 hb2.1, btI, Int.toNat_of_nonneg hb2.1]; first | (rw [if_pos ⟨by omega, by assumption⟩, ← hm2, ← hf2]; first | rw [if_pos (by omega)] | rw [if_neg (by omega)]) | (rw [if_neg (by rintro ⟨h1, h2⟩; first | omega | exact absurd h2 (by assumption))]; exact hf2)) (by omega) hP hS (lv_sub hl [0, 3, 2, 1, 4, 5] rfl)
          exact loop34 _ 0 mn fi H locs ls (by omega) (by omega) hmn hfi (Nat.lt_succ_self _) hP hS (lv_sub hl [0, 1, 2, 3, 4, 5] rfl)
    exact loop19 _ 0 0 (-9) H locs ls (by omega) (by omega) rfl rfl (Nat.lt_succ_self _) hP hS (lv_sub hl [0, 1, 2, 3, 4] rfl)
  · refine lv_iload_n hx hb dX8_byTurns_4 rfl (lv_at hl 1 rfl) ?_
    refine lv_iconst (v := zI 1) hx hb dX8_byTurns_5 rfl ?_
    refine z_icmp_eq (tgt := 11) hx hb (by omega) dX8_byTurns_6 (by decide) (fun c_8 => ?_) (fun c_8 => ?_)
    · refine lv_iconst (v := zI 0) hx hb dX8_byTurns_11 rfl ?_
      refine lv_istore_n (lv' := [(2, .int (zI 0)), (0, .ref hq0), (1, .int (zI what))]) hx hb dX8_byTurns_12 rfl hl (by decide) rfl (fun ls hl => ?_)
      refine lv_bipush (v := zI (-9)) hx hb dX8_byTurns_13 (by decide) ?_
      refine lv_istore_n (lv' := [(3, .int (zI (-9))), (2, .int (zI 0)), (0, .ref hq0), (1, .int (zI what))]) hx hb dX8_byTurns_15 rfl hl (by decide) rfl (fun ls hl => ?_)
      refine lv_iconst (v := zI 0) hx hb dX8_byTurns_16 rfl ?_
      refine lv_istore (lv' := [(4, .int (zI 0)), (3, .int (zI (-9))), (2, .int (zI 0)), (0, .ref hq0), (1, .int (zI what))]) hx hb dX8_byTurns_17 hl (by decide) rfl (fun ls hl => ?_)
      have loop19 : ∀ (n_ : Nat) (a : Int) (mn : Int) (fi : Int) (H : Heap) (locs : List Loc) (ls : Array Slot), (0 ≤ a ∧ a ≤ Wy) → (0 ≤ mn ∧ mn ≤ 12 * a) → (mn = (btO S Wy wy a.toNat).1) → (fi = (btO S Wy wy a.toNat).2) → (Wy - a).toNat < n_ → kP G [(hq0, .inr (8, [.ref hx0, .ref hr0, .ref hb0, .ref hy0, .ref hp0, .ref hn0, .ref hw0, .ref hh0, .ref aim, .ref aik, .long tr])), (hb0, .inr (0, [.int (zI S), .int (zI C), .int (zI Wy), .int (zI Li), .int (zI St), .ref al])), (hy0, .inr (2, [.int (zI wy), .int (zI se), .int (zI tu), .ref aw]))] H → va_S A s.heap H locs → lv_has ls 6 [(4, .int (zI a)), (3, .int (zI fi)), (2, .int (zI mn)), (0, .ref hq0), (1, .int (zI what))] → W p l e rmX8_byTurns s m ([.ref hq0, .int (zI what)] : List Value).toArray below meth c H locs 0 0 Q (F0 m 19 ls []) := by
        intro n_
        induction n_ with
        | zero =>
          intro a mn fi H locs ls ha hmr hmn hfi hm
          exact absurd hm (Nat.not_lt_zero _)
        | succ n_ ih19 =>
          intro a mn fi H locs ls ha hmr hmn hfi hm19 hP hS hl
          refine lv_iload hx hb dX8_byTurns_19 (lv_at hl 0 rfl) ?_
          refine lv_aload_n hx hb dX8_byTurns_21 rfl (lv_at hl 3 rfl) ?_
          refine va_get (ci := 8) (v := .ref hb0) (C := RX8) (T := TX8) (N := 11) hx hb hts i8 hown hK hP 0 rfl rfl 2 (by decide) f28 (fun _ h9 => h9) rfl dX8_byTurns_22 ?_
          refine va_get (ci := 0) (v := .int (zI Wy)) (C := RX0) (T := TX0) (N := 6) hx hb hts i0 hown hK hP 1 rfl rfl 2 (by decide) f166 (fun _ h9 => h9) rfl dX8_byTurns_25 ?_
          refine z_icmp_ge (tgt := 106) hx hb (by omega) dX8_byTurns_28 (by decide) (fun c_9 => ?_) (fun c_9 => ?_)
          · refine lv_iload_n hx hb dX8_byTurns_106 rfl (lv_at hl 4 rfl) ?_
            refine z_if_ne (tgt := 114) hx hb (by omega) dX8_byTurns_107 (by decide) (fun c_10 => ?_) (fun c_10 => ?_)
            · refine lv_iload_n hx hb dX8_byTurns_114 rfl (lv_at hl 1 rfl) ?_
              exact hret H locs ls 115 _ (congrArg zI (by rw [if_neg (by omega)]; first | (rw [if_pos (by omega), hmn, show a = Wy by omega]) | (rw [if_neg (by omega), hfi, show a = Wy by omega]))) hS dX8_byTurns_115
            · refine lv_iload_n hx hb dX8_byTurns_110 rfl (lv_at hl 2 rfl) ?_
              refine lv_goto (tgt := 115) hx hb dX8_byTurns_111 (by decide) ?_
              exact hret H locs ls 115 _ (congrArg zI (by rw [if_neg (by omega)]; first | (rw [if_pos (by omega), hmn, show a = Wy by omega]) | (rw [if_neg (by omega), hfi, show a = Wy by omega]))) hS dX8_byTurns_115
          · refine lv_iconst (v := zI 0) hx hb dX8_byTurns_31 rfl ?_
            refine lv_istore (lv' := [(5, .int (zI 0)), (4, .int (zI a)), (3, .int (zI fi)), (2, .int (zI mn)), (0, .ref hq0), (1, .int (zI what))]) hx hb dX8_byTurns_32 hl (by decide) rfl (fun ls hl => ?_)
            have loop34 : ∀ (n_ : Nat) (b : Int) (m2 : Int) (f2 : Int) (H : Heap) (locs : List Loc) (ls : Array Slot), (0 ≤ b ∧ b ≤ Wy) → (0 ≤ m2 ∧ m2 ≤ 12 * a + b) → (m2 = (btI S Wy wy a b.toNat (btO S Wy wy a.toNat)).1) → (f2 = (btI S Wy wy a b.toNat (btO S Wy wy a.toNat)).2) → (Wy - b).toNat < n_ → kP G [(hq0, .inr (8, [.ref hx0, .ref hr0, .ref hb0, .ref hy0, .ref hp0, .ref hn0, .ref hw0, .ref hh0, .ref aim, .ref aik, .long tr])), (hb0, .inr (0, [.int (zI S), .int (zI C), .int (zI Wy), .int (zI Li), .int (zI St), .ref al])), (hy0, .inr (2, [.int (zI wy), .int (zI se), .int (zI tu), .ref aw]))] H → va_S A s.heap H locs → lv_has ls 6 [(5, .int (zI b)), (4, .int (zI a)), (3, .int (zI f2)), (2, .int (zI m2)), (0, .ref hq0), (1, .int (zI what))] → W p l e rmX8_byTurns s m ([.ref hq0, .int (zI what)] : List Value).toArray below meth c H locs 0 0 Q (F0 m 34 ls []) := by
              intro n_
              induction n_ with
              | zero =>
                intro b m2 f2 H locs ls hb2 hm3 hm2 hf2 hm
                exact absurd hm (Nat.not_lt_zero _)
              | succ n_ ih34 =>
                intro b m2 f2 H locs ls hb2 hm3 hm2 hf2 hm34 hP hS hl
                refine lv_iload hx hb dX8_byTurns_34 (lv_at hl 0 rfl) ?_
                refine lv_aload_n hx hb dX8_byTurns_36 rfl (lv_at hl 4 rfl) ?_
                refine va_get (ci := 8) (v := .ref hb0) (C := RX8) (T := TX8) (N := 11) hx hb hts i8 hown hK hP 0 rfl rfl 2 (by decide) f28 (fun _ h9 => h9) rfl dX8_byTurns_37 ?_
                refine va_get (ci := 0) (v := .int (zI Wy)) (C := RX0) (T := TX0) (N := 6) hx hb hts i0 hown hK hP 1 rfl rfl 2 (by decide) f166 (fun _ h9 => h9) rfl dX8_byTurns_40 ?_
                refine z_icmp_ge (tgt := 100) hx hb (by omega) dX8_byTurns_43 (by decide) (fun c_11 => ?_) (fun c_11 => ?_)
                · refine lv_iinc (v := zI (a + 1)) (lv' := [(4, .int (zI (a + 1))), (5, .int (zI b)), (3, .int (zI f2)), (2, .int (zI m2)), (0, .ref hq0), (1, .int (zI what))]) hx hb dX8_byTurns_100 hl (k := 1) rfl (zI_add _ _) (by decide) rfl (fun ls hl => ?_)
                  refine lv_goto (tgt := 19) hx hb dX8_byTurns_103 (by decide) ?_
                  exact ih19 (a + 1) m2 f2 H locs ls (by omega) (by omega) (by rw [tn1 ha.1, btO, Int.toNat_of_nonneg ha.1, hm2, show b.toNat = Wy.toNat by omega]) (by rw [tn1 ha.1, btO, Int.toNat_of_nonneg ha.1, hf2, show b.toNat = Wy.toNat by omega]) (by omega) hP hS (lv_sub hl [0, 2, 3, 4, 5] rfl)
                · refine lv_iload hx hb dX8_byTurns_46 (lv_at hl 1 rfl) ?_
                  refine lv_iload hx hb dX8_byTurns_48 (lv_at hl 0 rfl) ?_
                  refine z_icmp_eq (tgt := 94) hx hb (by omega) dX8_byTurns_50 (by decide) (fun c_12 => ?_) (fun c_12 => ?_)
                  · refine lv_iinc (v := zI (b + 1)) (lv' := [(5, .int (zI (b + 1))), (4, .int (zI a)), (3, .int (zI f2)), (2, .int (zI m2)), (0, .ref hq0), (1, .int (zI what))]) hx hb dX8_byTurns_94 hl (k := 0) rfl (zI_add _ _) (by decide) rfl (fun ls hl => ?_)
                    refine lv_goto (tgt := 34) hx hb dX8_byTurns_97 (by decide) ?_
                    exact ih34 (b + 1) m2 f2 H locs ls (by omega) (by omega) (by rw [tn1 hb2.1, btI, Int.toNat_of_nonneg hb2.1]; first | (rw [if_pos ⟨by omega, by assumption⟩, ← hm2]) | (rw [if_neg (by rintro ⟨h1, h2⟩; first | omega | exact absurd h2 (by assumption))]; exact hm2)) (by rw [tn1 hb2.1, btI, Int.toNat_of_nonneg hb2.1]; first | (rw [if_pos ⟨by omega, by assumption⟩, ← hm2, ← hf2]; first | rw [if_pos (by omega)] | rw [if_neg (by omega)]) | (rw [if_neg (by rintro ⟨h1, h2⟩; first | omega | exact absurd h2 (by assumption))]; exact hf2)) (by omega) hP hS (lv_sub hl [0, 1, 2, 3, 4, 5] rfl)
                  · refine lv_aload_n hx hb dX8_byTurns_53 rfl (lv_at hl 4 rfl) ?_
                    refine va_get (ci := 8) (v := .ref hb0) (C := RX8) (T := TX8) (N := 11) hx hb hts i8 hown hK hP 0 rfl rfl 2 (by decide) f28 (fun _ h9 => h9) rfl dX8_byTurns_54 ?_
                    refine lv_aload_n hx hb dX8_byTurns_57 rfl (lv_at hl 4 rfl) ?_
                    refine va_get (ci := 8) (v := .ref hy0) (C := RX8) (T := TX8) (N := 11) hx hb hts i8 hown hK hP 0 rfl rfl 3 (by decide) f35 (fun _ h9 => h9) rfl dX8_byTurns_58 ?_
                    refine va_get (ci := 2) (v := .int (zI wy)) (C := RX2) (T := TX2) (N := 4) hx hb hts i2 hown hK hP 2 rfl rfl 0 (by decide) f131 (fun _ h9 => h9) rfl dX8_byTurns_61 ?_
                    refine lv_iload hx hb dX8_byTurns_64 (lv_at hl 1 rfl) ?_
                    refine lv_iload hx hb dX8_byTurns_66 (lv_at hl 0 rfl) ?_
                    refine z_cV (As := [.int (zI wy), .int (zI a), .int (zI b)]) (rest := []) ⟨hx, hb, hml, hown, hts⟩ (c_X0_comesThroughAll l G hb0 al S C Wy Li St wy a b (by first | assumption | omega) (by first | assumption | omega) (by first | assumption | omega) (by first | assumption | omega)) (cwV 3 hts gX8_byTurns_X0_comesThroughAll rfl rfl rfl pd_X0_comesThroughAll ⟨(Nat.le_of_ble_eq_true rfl), (Nat.le_of_ble_eq_true rfl)⟩) hK hP hS [1] rfl rfl rfl rfl rfl hl.1 rfl (Nat.le_of_ble_eq_true rfl) dX8_byTurns_68 ⟨Nat.zero_le _, Nat.zero_le _⟩ (fun H locs hP hS => ?_)
                    refine z_ifeq_b (tgt := 94) hx hb dX8_byTurns_71 (by decide) (fun c_13 => ?_) (fun c_13 => ?_)
                    · refine lv_iinc (v := zI (b + 1)) (lv' := [(5, .int (zI (b + 1))), (4, .int (zI a)), (3, .int (zI f2)), (2, .int (zI m2)), (0, .ref hq0), (1, .int (zI what))]) hx hb dX8_byTurns_94 hl (k := 0) rfl (zI_add _ _) (by decide) rfl (fun ls hl => ?_)
                      refine lv_goto (tgt := 34) hx hb dX8_byTurns_97 (by decide) ?_
                      exact ih34 (b + 1) m2 f2 H locs ls (by omega) (by omega) (by rw [tn1 hb2.1, btI, Int.toNat_of_nonneg hb2.1]; first | (rw [if_pos ⟨by omega, by assumption⟩, ← hm2]) | (rw [if_neg (by rintro ⟨h1, h2⟩; first | omega | exact absurd h2 (by assumption))]; exact hm2)) (by rw [tn1 hb2.1, btI, Int.toNat_of_nonneg hb2.1]; first | (rw [if_pos ⟨by omega, by assumption⟩, ← hm2, ← hf2]; first | rw [if_pos (by omega)] | rw [if_neg (by omega)]) | (rw [if_neg (by rintro ⟨h1, h2⟩; first | omega | exact absurd h2 (by assumption))]; exact hf2)) (by omega) hP hS (lv_sub hl [0, 1, 2, 3, 4, 5] rfl)
                    · refine lv_iload_n hx hb dX8_byTurns_74 rfl (lv_at hl 3 rfl) ?_
                      refine z_if_ne (tgt := 89) hx hb (by omega) dX8_byTurns_75 (by decide) (fun c_14 => ?_) (fun c_14 => ?_)
                      · refine lv_iload_n hx hb dX8_byTurns_89 rfl (lv_at hl 2 rfl) ?_
                        refine lv_istore_n (lv' := [(3, .int (zI f2)), (5, .int (zI b)), (4, .int (zI a)), (2, .int (zI m2)), (0, .ref hq0), (1, .int (zI what))]) hx hb dX8_byTurns_90 rfl hl (by decide) rfl (fun ls hl => ?_)
                        refine lv_iinc (v := zI (m2 + 1)) (lv' := [(2, .int (zI (m2 + 1))), (3, .int (zI f2)), (5, .int (zI b)), (4, .int (zI a)), (0, .ref hq0), (1, .int (zI what))]) hx hb dX8_byTurns_91 hl (k := 3) rfl (zI_add _ _) (by decide) rfl (fun ls hl => ?_)
                        refine lv_iinc (v := zI (b + 1)) (lv' := [(5, .int (zI (b + 1))), (2, .int (zI (m2 + 1))), (3, .int (zI f2)), (4, .int (zI a)), (0, .ref hq0), (1, .int (zI what))]) hx hb dX8_byTurns_94 hl (k := 2) rfl (zI_add _ _) (by decide) rfl (fun ls hl => ?_)
                        refine lv_goto (tgt := 34) hx hb dX8_byTurns_97 (by decide) ?_
                        exact ih34 (b + 1) (m2 + 1) f2 H locs ls (by omega) (by omega) (by rw [tn1 hb2.1, btI, Int.toNat_of_nonneg hb2.1]; first | (rw [if_pos ⟨by omega, by assumption⟩, ← hm2]) | (rw [if_neg (by rintro ⟨h1, h2⟩; first | omega | exact absurd h2 (by assumption))]; exact hm2)) (by rw [tn1 hb2.1, btI, Int.toNat_of_nonneg hb2.1]; first | (rw [if_pos ⟨by omega, by assumption⟩, ← hm2, ← hf2]; first | rw [if_pos (by omega)] | rw [if_neg (by omega)]) | (rw [if_neg (by rintro ⟨h1, h2⟩; first | omega | exact absurd h2 (by assumption))]; exact hf2)) (by omega) hP hS (lv_sub hl [0, 3, 2, 1, 4, 5] rfl)
                      · refine lv_bipush (v := zI 100) hx hb dX8_byTurns_78 (by decide) ?_
                        refine lv_iload hx hb dX8_byTurns_80 (lv_at hl 1 rfl) ?_
                        refine z_imul hx hb dX8_byTurns_82 ?_
                        refine lv_iload hx hb dX8_byTurns_83 (lv_at hl 0 rfl) ?_
                        refine z_iadd hx hb dX8_byTurns_85 ?_
                        refine lv_goto (tgt := 90) hx hb dX8_byTurns_86 (by decide) ?_
                        refine lv_istore_n (lv' := [(3, .int (zI ((100 * a) + b))), (5, .int (zI b)), (4, .int (zI a)), (2, .int (zI m2)), (0, .ref hq0), (1, .int (zI what))]) hx hb dX8_byTurns_90 rfl hl (by decide) rfl (fun ls hl => ?_)
                        refine lv_iinc (v := zI (m2 + 1)) (lv' := [(2, .int (zI (m2 + 1))), (3, .int (zI ((100 * a) + b))), (5, .int (zI b)), (4, .int (zI a)), (0, .ref hq0), (1, .int (zI what))]) hx hb dX8_byTurns_91 hl (k := 3) rfl (zI_add _ _) (by decide) rfl (fun ls hl => ?_)
                        refine lv_iinc (v := zI (b + 1)) (lv' := [(5, .int (zI (b + 1))), (2, .int (zI (m2 + 1))), (3, .int (zI ((100 * a) + b))), (4, .int (zI a)), (0, .ref hq0), (1, .int (zI what))]) hx hb dX8_byTurns_94 hl (k := 2) rfl (zI_add _ _) (by decide) rfl (fun ls hl => ?_)
                        refine lv_goto (tgt := 34) hx hb dX8_byTurns_97 (by decide) ?_
                        exact ih34 (b + 1) (m2 + 1) ((100 * a) + b) H locs ls (by omega) (by omega) (by rw [tn1 hb2.1, btI, Int.toNat_of_nonneg hb2.1]; first | (rw [if_pos ⟨by omega, by assumption⟩, ← hm2]) | (rw [if_neg (by rintro ⟨h1, h2⟩; first | omega | exact absurd h2 (by assumption))]; exact hm2)) (by rw [tn1 hb2.1, btI, Int.toNat_of_nonneg hb2.1]; first | (rw [if_pos ⟨by omega, by assumption⟩, ← hm2, ← hf2]; first | rw [if_pos (by omega)] | rw [if_neg (by omega)]) | (rw [if_neg (by rintro ⟨h1, h2⟩; first | omega | exact absurd h2 (by assumption))]; exact hf2)) (by omega) hP hS (lv_sub hl [0, 3, 2, 1, 4, 5] rfl)
            exact loop34 _ 0 mn fi H locs ls (by omega) (by omega) hmn hfi (Nat.lt_succ_self _) hP hS (lv_sub hl [0, 1, 2, 3, 4, 5] rfl)
      exact loop19 _ 0 0 (-9) H locs ls (by omega) (by omega) rfl rfl (Nat.lt_succ_self _) hP hS (lv_sub hl [0, 1, 2, 3, 4] rfl)
    · refine lv_iconst (v := zI (-1)) hx hb dX8_byTurns_9 rfl ?_
      exact hret H locs ls 10 _ (congrArg zI (by rw [if_pos (by omega)])) hS dX8_byTurns_10
theorem pd_X8_reach : yX8_reach.cls = RX8 ∧ yX8_reach.cls ≠ "java/lang/invoke/MethodHandle" ∧ yX8_reach.cls ≠ "java/lang/invoke/VarHandle" ∧ (parseMethodDescriptor yX8_reach.desc).map (fun d => d.parameters.length) = some 1 := by decide +kernel
abbrev rmX8_reach : Room := { frames := 4, cells := 0, slots := 0, locals := 95 }
set_option maxHeartbeats 4000000 in
set_option maxRecDepth 100000 in
theorem c_X8_reach (l : Launch) (G : CX) (hq0 : Nat) (hx0 : Nat) (hr0 : Nat) (hb0 : Nat) (hy0 : Nat) (hp0 : Nat) (hn0 : Nat) (hw0 : Nat) (hh0 : Nat) (aim : Nat) (aik : Nat) (tr : Int64) (al : Nat) (S : Int) (C : Int) (Wy : Int) (Li : Int) (St : Int) (aw : Nat) (wy : Int) (se : Int) (tu : Int) (wn : Int → Int) (set : Int) (hB : (2 ≤ S ∧ S ≤ 6) ∧ (C = 1 ∧ Wy = S ∨ C = 2 ∧ Wy = 2 * S)) (hwy : 0 ≤ wy ∧ wy < Wy) (hr_set : -2147483648 ≤ set ∧ set < 2147483648) : Met l yX8_reach wsX8_reach rmX8_reach (rdP G [.ref hq0, .int (zI set)] [(hq0, .inr (8, [.ref hx0, .ref hr0, .ref hb0, .ref hy0, .ref hp0, .ref hn0, .ref hw0, .ref hh0, .ref aim, .ref aik, .long tr])), (hb0, .inr (0, [.int (zI S), .int (zI C), .int (zI Wy), .int (zI Li), .int (zI St), .ref al])), (hy0, .inr (2, [.int (zI wy), .int (zI se), .int (zI tu), .ref aw]))]) (rdQ (zI (if 0 ≤ set ∧ set ≤ ((fullN Wy : Nat) : Int) then ((reS S Wy.toNat set.toNat wy Wy.toNat : Nat) : Int) else -1))) 0 0 noA := by
  refine rd_ofW (cc := cX8_reach) (maxL := 2) (ty := .int) (by decide) rfl (Nat.le_of_ble_eq_true rfl) rfl ?_
  intro p e s m below meth c Q A hx hb hml hown hts hK hret H locs hP hS ls hl
  have hown : s.vm.findClass RX8 = some m.cls := hown
  have hl : lv_has ls 2 [(0, .ref hq0), (1, .int (zI set))] := hl
  have f28 := hts (.fieldLink RX8 28 "QuarterTurns" "bed" "LQuarterTurns$Bed;") (by decide +kernel)
  have i8 : ∀ w ∈ wsX80, w ∈ wsX8_reach := fun w h => List.mem_cons_of_mem _ (List.mem_append_left _ (List.mem_append_left _ (List.mem_append_right _ h)))
  have f35 := hts (.fieldLink RX8 35 "QuarterTurns" "lying" "LQuarterTurns$Lying;") (by decide +kernel)
  have f131 := hts (.fieldLink RX8 131 "QuarterTurns$Lying" "way" "I") (by decide +kernel)
  have i2 : ∀ w ∈ wsX20, w ∈ wsX8_reach := fun w h => List.mem_cons_of_mem _ (List.mem_append_left _ (List.mem_append_right _ h))
  refine lv_aload_n hx hb dX8_reach_0 rfl (lv_at hl 0 rfl) ?_
  refine va_get (ci := 8) (v := .ref hb0) (C := RX8) (T := TX8) (N := 11) hx hb hts i8 hown hK hP 0 rfl rfl 2 (by decide) f28 (fun _ h9 => h9) rfl dX8_reach_1 ?_
  refine lv_iload_n hx hb dX8_reach_4 rfl (lv_at hl 1 rfl) ?_
  refine z_cV (As := [.int (zI set)]) (rest := []) ⟨hx, hb, hml, hown, hts⟩ (c_X0_hasSet l G hb0 al S C Wy Li St set (by first | assumption | omega) (by first | assumption | omega)) (cwV 1 hts gX8_reach_X0_hasSet rfl rfl rfl pd_X0_hasSet ⟨(Nat.le_of_ble_eq_true rfl), (Nat.le_of_ble_eq_true rfl)⟩) hK hP hS [1] rfl rfl rfl rfl rfl hl.1 rfl (Nat.le_of_ble_eq_true rfl) dX8_reach_5 ⟨Nat.zero_le _, Nat.zero_le _⟩ (fun H locs hP hS => ?_)
  refine z_ifeq_b (tgt := 29) hx hb dX8_reach_8 (by decide) (fun c_1 => ?_) (fun c_1 => ?_)
  · refine lv_iconst (v := zI (-1)) hx hb dX8_reach_29 rfl ?_
    exact hret H locs ls 30 _ (congrArg zI (by (repeat' split) <;> first | omega | rfl)) hS dX8_reach_30
  · have hfl := fullN_lt (W := Wy) (by omega)
    refine lv_aload_n hx hb dX8_reach_11 rfl (lv_at hl 0 rfl) ?_
    refine va_get (ci := 8) (v := .ref hb0) (C := RX8) (T := TX8) (N := 11) hx hb hts i8 hown hK hP 0 rfl rfl 2 (by decide) f28 (fun _ h9 => h9) rfl dX8_reach_12 ?_
    refine lv_aload_n hx hb dX8_reach_15 rfl (lv_at hl 0 rfl) ?_
    refine va_get (ci := 8) (v := .ref hy0) (C := RX8) (T := TX8) (N := 11) hx hb hts i8 hown hK hP 0 rfl rfl 3 (by decide) f35 (fun _ h9 => h9) rfl dX8_reach_16 ?_
    refine va_get (ci := 2) (v := .int (zI wy)) (C := RX2) (T := TX2) (N := 4) hx hb hts i2 hown hK hP 2 rfl rfl 0 (by decide) f131 (fun _ h9 => h9) rfl dX8_reach_19 ?_
    refine lv_iload_n hx hb dX8_reach_22 rfl (lv_at hl 1 rfl) ?_
    refine z_cV (As := [.int (zI wy), .int (zI set)]) (rest := []) ⟨hx, hb, hml, hown, hts⟩ (c_X0_reached l G hb0 al S C Wy Li St wy set (by first | assumption | omega) (by first | assumption | omega) (by first | assumption | omega)) (cwV 2 hts gX8_reach_X0_reached rfl rfl rfl pd_X0_reached ⟨(Nat.le_of_ble_eq_true rfl), (Nat.le_of_ble_eq_true rfl)⟩) hK hP hS [1] rfl rfl rfl rfl rfl hl.1 rfl (Nat.le_of_ble_eq_true rfl) dX8_reach_23 ⟨Nat.zero_le _, Nat.zero_le _⟩ (fun H locs hP hS => ?_)
    have hq_2 := reS_lt (Wy := Wy) (C := C) (home := wy) (set.toNat) ((by first | assumption | omega)) ((by first | assumption | omega)) (Wy.toNat)
    refine lv_goto (tgt := 30) hx hb dX8_reach_26 (by decide) ?_
    exact hret H locs ls 30 _ (congrArg zI (by (repeat' split) <;> first | omega | rfl)) hS dX8_reach_30
theorem pd_X8_round : yX8_round.cls = RX8 ∧ yX8_round.cls ≠ "java/lang/invoke/MethodHandle" ∧ yX8_round.cls ≠ "java/lang/invoke/VarHandle" ∧ (parseMethodDescriptor yX8_round.desc).map (fun d => d.parameters.length) = some 2 := by decide +kernel
abbrev rmX8_round : Room := { frames := 18, cells := 0, slots := 0, locals := 649 }
set_option maxHeartbeats 4000000 in
set_option maxRecDepth 100000 in
theorem c_X8_round (l : Launch) (G : CX) (hq0 : Nat) (hx0 : Nat) (hr0 : Nat) (hb0 : Nat) (hy0 : Nat) (hp0 : Nat) (hn0 : Nat) (hw0 : Nat) (hh0 : Nat) (aim : Nat) (aik : Nat) (tr : Int64) (hm : Int) (rse : Int) (aro : Nat) (al : Nat) (S : Int) (C : Int) (Wy : Int) (Li : Int) (St : Int) (aw : Nat) (wy : Int) (se : Int) (tu : Int) (wn : Int → Int) (rr : Int → Int) (set : Int) (k : Int) (hB : (2 ≤ S ∧ S ≤ 6) ∧ (C = 1 ∧ Wy = S ∨ C = 2 ∧ Wy = 2 * S)) (hwy : 0 ≤ wy ∧ wy < Wy) (hr_set : -2147483648 ≤ set ∧ set < 2147483648) (hr_k : -2147483648 ≤ k ∧ k < 2147483648) : Met l yX8_round wsX8_round rmX8_round (wrP G [.ref hq0, .int (zI set), .int (zI k)] [(hq0, .inr (8, [.ref hx0, .ref hr0, .ref hb0, .ref hy0, .ref hp0, .ref hn0, .ref hw0, .ref hh0, .ref aim, .ref aik, .long tr])), (hn0, .inr (5, [.ref hb0, .ref aro, .int (zI hm), .int (zI rse)])), (hb0, .inr (0, [.int (zI S), .int (zI C), .int (zI Wy), .int (zI Li), .int (zI St), .ref al])), (aro, .inl (G.2.1, 12, .inl (aZ rr))), (hy0, .inr (2, [.int (zI wy), .int (zI se), .int (zI tu), .ref aw]))]) (wrQ G [(hq0, .inr (8, [.ref hx0, .ref hr0, .ref hb0, .ref hy0, .ref hp0, .ref hn0, .ref hw0, .ref hh0, .ref aim, .ref aik, .long tr])), (hn0, .inr (5, [.ref hb0, .ref aro, .int (zI hm), .int (zI rse)])), (hb0, .inr (0, [.int (zI S), .int (zI C), .int (zI Wy), .int (zI Li), .int (zI St), .ref al])), (aro, .inl (G.2.1, 12, .inl (aZ rr))), (hy0, .inr (2, [.int (zI wy), .int (zI se), .int (zI tu), .ref aw]))] (fun (r_ : Int32) (u : Int × Int × (Int → Int)) => match u with | (hm2, rse2, rr2) => r_ = zI (if ¬ ((0 ≤ set ∧ set ≤ ((fullN Wy : Nat) : Int)) ∧ 0 ≤ k) then -1 else if ¬ (reS S Wy.toNat set.toNat wy Wy.toNat = fullN Wy ∧ exM S Wy set.toNat wy 12 wy (2 ^ wy.toNat) = true) then -9 else if k < Wy then rwM S Wy set.toNat wy 12 wy (2 ^ wy.toNat) k.toNat else -5) ∧ (True)) (fun (u : Int × Int × (Int → Int)) => match u with | (hm2, rse2, rr2) => [(hq0, .inr (8, [.ref hx0, .ref hr0, .ref hb0, .ref hy0, .ref hp0, .ref hn0, .ref hw0, .ref hh0, .ref aim, .ref aik, .long tr])), (hn0, .inr (5, [.ref hb0, .ref aro, .int (zI hm2), .int (zI rse2)])), (hb0, .inr (0, [.int (zI S), .int (zI C), .int (zI Wy), .int (zI Li), .int (zI St), .ref al])), (aro, .inl (G.2.1, 12, .inl (aZ rr2))), (hy0, .inr (2, [.int (zI wy), .int (zI se), .int (zI tu), .ref aw]))])) 0 0 (wrA [(hq0, .inr (8, [.ref hx0, .ref hr0, .ref hb0, .ref hy0, .ref hp0, .ref hn0, .ref hw0, .ref hh0, .ref aim, .ref aik, .long tr])), (hn0, .inr (5, [.ref hb0, .ref aro, .int (zI hm), .int (zI rse)])), (hb0, .inr (0, [.int (zI S), .int (zI C), .int (zI Wy), .int (zI Li), .int (zI St), .ref al])), (aro, .inl (G.2.1, 12, .inl (aZ rr))), (hy0, .inr (2, [.int (zI wy), .int (zI se), .int (zI tu), .ref aw]))]) := by
  refine wr_ofW (cc := cX8_round) (maxL := 3) (ty := .int) (by decide) rfl (Nat.le_of_ble_eq_true rfl) ?_
  intro p e s m below meth c Q A hx hb hml hown hts hK hret H locs hP hD hS ls hl
  have hown : s.vm.findClass RX8 = some m.cls := hown
  have hl : lv_has ls 3 [(0, .ref hq0), (1, .int (zI set)), (2, .int (zI k))] := hl
  have f28 := hts (.fieldLink RX8 28 "QuarterTurns" "bed" "LQuarterTurns$Bed;") (by decide +kernel)
  have i8 : ∀ w ∈ wsX80, w ∈ wsX8_round := fun w h => List.mem_cons_of_mem _ (List.mem_append_left _ (List.mem_append_left _ (List.mem_append_left _ (List.mem_append_right _ h))))
  have f51 := hts (.fieldLink RX8 51 "QuarterTurns" "rounds" "LQuarterTurns$Rounds;") (by decide +kernel)
  have f35 := hts (.fieldLink RX8 35 "QuarterTurns" "lying" "LQuarterTurns$Lying;") (by decide +kernel)
  have f131 := hts (.fieldLink RX8 131 "QuarterTurns$Lying" "way" "I") (by decide +kernel)
  have i2 : ∀ w ∈ wsX20, w ∈ wsX8_round := fun w h => List.mem_cons_of_mem _ (List.mem_append_left _ (List.mem_append_left _ (List.mem_append_right _ h)))
  have f166 := hts (.fieldLink RX8 166 "QuarterTurns$Bed" "ways" "I") (by decide +kernel)
  have i0 : ∀ w ∈ wsX00, w ∈ wsX8_round := fun w h => List.mem_cons_of_mem _ (List.mem_append_left _ (List.mem_append_right _ h))
  have f183 := hts (.fieldLink RX8 183 "QuarterTurns$Rounds" "row" "[I") (by decide +kernel)
  have i5 : ∀ w ∈ wsX50, w ∈ wsX8_round := fun w h => List.mem_cons_of_mem _ (List.mem_append_right _ h)
  refine lv_aload_n hx hb dX8_round_0 rfl (lv_at hl 0 rfl) ?_
  refine va_get (ci := 8) (v := .ref hb0) (C := RX8) (T := TX8) (N := 11) hx hb hts i8 hown hK hP 0 rfl rfl 2 (by decide) f28 (fun _ h9 => h9) rfl dX8_round_1 ?_
  refine lv_iload_n hx hb dX8_round_4 rfl (lv_at hl 1 rfl) ?_
  refine z_cV (As := [.int (zI set)]) (rest := []) ⟨hx, hb, hml, hown, hts⟩ (c_X0_hasSet l G hb0 al S C Wy Li St set (by first | assumption | omega) (by first | assumption | omega)) (cwV 1 hts gX8_round_X0_hasSet rfl rfl rfl pd_X0_hasSet ⟨(Nat.le_of_ble_eq_true rfl), (Nat.le_of_ble_eq_true rfl)⟩) hK hP hS [2] rfl rfl rfl rfl rfl hl.1 rfl (Nat.le_of_ble_eq_true rfl) dX8_round_5 ⟨Nat.zero_le _, Nat.zero_le _⟩ (fun H locs hP hS => ?_)
  refine z_ifeq_b (tgt := 15) hx hb dX8_round_8 (by decide) (fun c_1 => ?_) (fun c_1 => ?_)
  · refine lv_iconst (v := zI (-1)) hx hb dX8_round_15 rfl ?_
    exact hret H locs ls 16 _ (hm, rse, rr) rfl ⟨congrArg zI (by rw [if_pos (by omega)]), by trivial⟩ hP hS dX8_round_16
  · refine lv_iload_n hx hb dX8_round_11 rfl (lv_at hl 2 rfl) ?_
    refine z_if_ge (tgt := 17) hx hb (by omega) dX8_round_12 (by decide) (fun c_2 => ?_) (fun c_2 => ?_)
    · have hfl := fullN_lt (W := Wy) (by omega)
      refine lv_aload_n hx hb dX8_round_17 rfl (lv_at hl 0 rfl) ?_
      refine va_get (ci := 8) (v := .ref hn0) (C := RX8) (T := TX8) (N := 11) hx hb hts i8 hown hK hP 0 rfl rfl 5 (by decide) f51 (fun _ h9 => h9) rfl dX8_round_18 ?_
      refine lv_aload_n hx hb dX8_round_21 rfl (lv_at hl 0 rfl) ?_
      refine va_get (ci := 8) (v := .ref hy0) (C := RX8) (T := TX8) (N := 11) hx hb hts i8 hown hK hP 0 rfl rfl 3 (by decide) f35 (fun _ h9 => h9) rfl dX8_round_22 ?_
      refine va_get (ci := 2) (v := .int (zI wy)) (C := RX2) (T := TX2) (N := 4) hx hb hts i2 hown hK hP 4 rfl rfl 0 (by decide) f131 (fun _ h9 => h9) rfl dX8_round_25 ?_
      refine lv_iload_n hx hb dX8_round_28 rfl (lv_at hl 1 rfl) ?_
      refine z_wV (As := [.int (zI wy), .int (zI set)]) (rest := []) ⟨hx, hb, hml, hown, hts⟩ (c_X5_find l G hn0 aro hm rse hb0 al S C Wy Li St rr wy set (by first | assumption | omega) (by first | assumption | omega) (by first | assumption | omega)) (cwV 2 hts gX8_round_X5_find rfl rfl rfl pd_X5_find ⟨(Nat.le_of_ble_eq_true rfl), (Nat.le_of_ble_eq_true rfl)⟩) hK hP hD hS [1, 2, 3] (by decide) rfl rfl rfl rfl (fun _ => rfl) rfl hl.1 rfl (Nat.le_of_ble_eq_true rfl) dX8_round_29 ⟨Nat.zero_le _, Nat.zero_le _⟩ (fun r_ u_ H locs hw_4 hP hD hS => ?_)
      obtain ⟨rr2_3, rfl⟩ : ∃ z, z = u_ := ⟨_, rfl⟩
      obtain ⟨rfl, hw_4⟩ := hw_4
      try dsimp only at hw_4
      have hrw_5 := hw_4
      have hP : kP G [(hq0, .inr (8, [.ref hx0, .ref hr0, .ref hb0, .ref hy0, .ref hp0, .ref hn0, .ref hw0, .ref hh0, .ref aim, .ref aik, .long tr])), (hn0, .inr (5, [.ref hb0, .ref aro, .int (zI wy), .int (zI set)])), (hb0, .inr (0, [.int (zI S), .int (zI C), .int (zI Wy), .int (zI Li), .int (zI St), .ref al])), (aro, .inl (G.2.1, 12, .inl (aZ rr2_3))), (hy0, .inr (2, [.int (zI wy), .int (zI se), .int (zI tu), .ref aw]))] H := hP
      have hD : va_D A [(hq0, .inr (8, [.ref hx0, .ref hr0, .ref hb0, .ref hy0, .ref hp0, .ref hn0, .ref hw0, .ref hh0, .ref aim, .ref aik, .long tr])), (hn0, .inr (5, [.ref hb0, .ref aro, .int (zI wy), .int (zI set)])), (hb0, .inr (0, [.int (zI S), .int (zI C), .int (zI Wy), .int (zI Li), .int (zI St), .ref al])), (aro, .inl (G.2.1, 12, .inl (aZ rr2_3))), (hy0, .inr (2, [.int (zI wy), .int (zI se), .int (zI tu), .ref aw]))] := hD
      refine z_ifne_b (tgt := 38) hx hb dX8_round_32 (by decide) (fun c_6 => ?_) (fun c_6 => ?_)
      · refine lv_iload_n hx hb dX8_round_38 rfl (lv_at hl 2 rfl) ?_
        refine lv_aload_n hx hb dX8_round_39 rfl (lv_at hl 0 rfl) ?_
        refine va_get (ci := 8) (v := .ref hb0) (C := RX8) (T := TX8) (N := 11) hx hb hts i8 hown hK hP 0 rfl rfl 2 (by decide) f28 (fun _ h9 => h9) rfl dX8_round_40 ?_
        refine va_get (ci := 0) (v := .int (zI Wy)) (C := RX0) (T := TX0) (N := 6) hx hb hts i0 hown hK hP 2 rfl rfl 2 (by decide) f166 (fun _ h9 => h9) rfl dX8_round_43 ?_
        refine z_icmp_ge (tgt := 61) hx hb (by omega) dX8_round_46 (by decide) (fun c_7 => ?_) (fun c_7 => ?_)
        · refine lv_bipush (v := zI (-5)) hx hb dX8_round_61 (by decide) ?_
          exact hret H locs ls 63 _ (wy, set, rr2_3) rfl ⟨congrArg zI (by rw [if_neg (by omega), if_neg (fun h => h (by assumption)), if_neg (by omega)]), by trivial⟩ hP hS dX8_round_63
        · refine lv_aload_n hx hb dX8_round_49 rfl (lv_at hl 0 rfl) ?_
          refine va_get (ci := 8) (v := .ref hn0) (C := RX8) (T := TX8) (N := 11) hx hb hts i8 hown hK hP 0 rfl rfl 5 (by decide) f51 (fun _ h9 => h9) rfl dX8_round_50 ?_
          refine va_get (ci := 5) (v := .ref aro) (C := RX5) (T := TX5) (N := 4) hx hb hts i5 hown hK hP 1 rfl rfl 1 (by decide) f183 (fun _ h9 => h9) rfl dX8_round_53 ?_
          refine lv_iload_n hx hb dX8_round_56 rfl (lv_at hl 2 rfl) ?_
          refine z_iald (n := 12) (f := rr2_3) hx hb hK hP 3 rfl (by omega) dX8_round_57 ?_
          have hk2 := hrw_5 (by assumption) k (by omega) (by omega)
          refine lv_goto (tgt := 63) hx hb dX8_round_58 (by decide) ?_
          exact hret H locs ls 63 _ (wy, set, rr2_3) rfl ⟨congrArg zI (by rw [if_neg (by omega), if_neg (fun h => h (by assumption)), if_pos (by omega)]; exact hk2), by trivial⟩ hP hS dX8_round_63
      · refine lv_bipush (v := zI (-9)) hx hb dX8_round_35 (by decide) ?_
        exact hret H locs ls 37 _ (wy, set, rr2_3) rfl ⟨congrArg zI (by rw [if_neg (by omega), if_pos (by assumption)]), by trivial⟩ hP hS dX8_round_37
    · refine lv_iconst (v := zI (-1)) hx hb dX8_round_15 rfl ?_
      exact hret H locs ls 16 _ (hm, rse, rr) rfl ⟨congrArg zI (by rw [if_pos (by omega)]), by trivial⟩ hP hS dX8_round_16
theorem pd_X8_same : yX8_same.cls = RX8 ∧ yX8_same.cls ≠ "java/lang/invoke/MethodHandle" ∧ yX8_same.cls ≠ "java/lang/invoke/VarHandle" ∧ (parseMethodDescriptor yX8_same.desc).map (fun d => d.parameters.length) = some 0 := by decide +kernel
abbrev rmX8_same : Room := { frames := 2, cells := 0, slots := 0, locals := 45 }
set_option maxHeartbeats 4000000 in
set_option maxRecDepth 100000 in
theorem c_X8_same (l : Launch) (G : CX) (hq0 : Nat) (hx0 : Nat) (hr0 : Nat) (hb0 : Nat) (hy0 : Nat) (hp0 : Nat) (hn0 : Nat) (hw0 : Nat) (hh0 : Nat) (aim : Nat) (aik : Nat) (tr : Int64) (al : Nat) (S : Int) (C : Int) (Wy : Int) (Li : Int) (St : Int) (hB : (2 ≤ S ∧ S ≤ 6) ∧ (C = 1 ∧ Wy = S ∨ C = 2 ∧ Wy = 2 * S)) : Met l yX8_same wsX8_same rmX8_same (rdP G [.ref hq0] [(hq0, .inr (8, [.ref hx0, .ref hr0, .ref hb0, .ref hy0, .ref hp0, .ref hn0, .ref hw0, .ref hh0, .ref aim, .ref aik, .long tr])), (hb0, .inr (0, [.int (zI S), .int (zI C), .int (zI Wy), .int (zI Li), .int (zI St), .ref al]))]) (rdQ (zI (saO S Wy Wy.toNat))) 0 0 noA := by
  refine rd_ofW (cc := cX8_same) (maxL := 4) (ty := .int) (by decide) rfl (Nat.le_of_ble_eq_true rfl) rfl ?_
  intro p e s m below meth c Q A hx hb hml hown hts hK hret H locs hP hS ls hl
  have hown : s.vm.findClass RX8 = some m.cls := hown
  have hl : lv_has ls 4 [(0, .ref hq0)] := hl
  have f28 := hts (.fieldLink RX8 28 "QuarterTurns" "bed" "LQuarterTurns$Bed;") (by decide +kernel)
  have i8 : ∀ w ∈ wsX80, w ∈ wsX8_same := fun w h => List.mem_cons_of_mem _ (List.mem_append_left _ (List.mem_append_right _ h))
  have f166 := hts (.fieldLink RX8 166 "QuarterTurns$Bed" "ways" "I") (by decide +kernel)
  have i0 : ∀ w ∈ wsX00, w ∈ wsX8_same := fun w h => List.mem_cons_of_mem _ (List.mem_append_right _ h)
  refine lv_iconst (v := zI 0) hx hb dX8_same_0 rfl ?_
  refine lv_istore_n (lv' := [(1, .int (zI 0)), (0, .ref hq0)]) hx hb dX8_same_1 rfl hl (by decide) rfl (fun ls hl => ?_)
  refine lv_iconst (v := zI 0) hx hb dX8_same_2 rfl ?_
  refine lv_istore_n (lv' := [(2, .int (zI 0)), (1, .int (zI 0)), (0, .ref hq0)]) hx hb dX8_same_3 rfl hl (by decide) rfl (fun ls hl => ?_)
  have loop4 : ∀ (n_ : Nat) (a : Int) (mn : Int) (H : Heap) (locs : List Loc) (ls : Array Slot), (0 ≤ a ∧ a ≤ Wy) → (mn = saO S Wy a.toNat) → (Wy - a).toNat < n_ → kP G [(hq0, .inr (8, [.ref hx0, .ref hr0, .ref hb0, .ref hy0, .ref hp0, .ref hn0, .ref hw0, .ref hh0, .ref aim, .ref aik, .long tr])), (hb0, .inr (0, [.int (zI S), .int (zI C), .int (zI Wy), .int (zI Li), .int (zI St), .ref al]))] H → va_S A s.heap H locs → lv_has ls 4 [(2, .int (zI a)), (1, .int (zI mn)), (0, .ref hq0)] → W p l e rmX8_same s m ([.ref hq0] : List Value).toArray below meth c H locs 0 0 Q (F0 m 4 ls []) := by
    intro n_
    induction n_ with
    | zero =>
      intro a mn H locs ls ha hmn hm
      exact absurd hm (Nat.not_lt_zero _)
    | succ n_ ih4 =>
      intro a mn H locs ls ha hmn hm4 hP hS hl
      refine lv_iload_n hx hb dX8_same_4 rfl (lv_at hl 0 rfl) ?_
      refine lv_aload_n hx hb dX8_same_5 rfl (lv_at hl 2 rfl) ?_
      refine va_get (ci := 8) (v := .ref hb0) (C := RX8) (T := TX8) (N := 11) hx hb hts i8 hown hK hP 0 rfl rfl 2 (by decide) f28 (fun _ h9 => h9) rfl dX8_same_6 ?_
      refine va_get (ci := 0) (v := .int (zI Wy)) (C := RX0) (T := TX0) (N := 6) hx hb hts i0 hown hK hP 1 rfl rfl 2 (by decide) f166 (fun _ h9 => h9) rfl dX8_same_9 ?_
      refine z_icmp_ge (tgt := 82) hx hb (by omega) dX8_same_12 (by decide) (fun c_1 => ?_) (fun c_1 => ?_)
      · refine lv_iload_n hx hb dX8_same_82 rfl (lv_at hl 1 rfl) ?_
        exact hret H locs ls 83 _ (congrArg zI (by rw [hmn, show a = Wy by omega])) hS dX8_same_83
      · refine lv_iload_n hx hb dX8_same_15 rfl (lv_at hl 0 rfl) ?_
        refine lv_iconst (v := zI 1) hx hb dX8_same_16 rfl ?_
        refine z_iadd hx hb dX8_same_17 ?_
        refine lv_istore_n (lv' := [(3, .int (zI (a + 1))), (2, .int (zI a)), (1, .int (zI mn)), (0, .ref hq0)]) hx hb dX8_same_18 rfl hl (by decide) rfl (fun ls hl => ?_)
        have loop19 : ∀ (n_ : Nat) (b : Int) (m2 : Int) (H : Heap) (locs : List Loc) (ls : Array Slot), (a + 1 ≤ b ∧ b ≤ Wy) → (m2 = saI S a Wy.toNat (b - (a + 1)).toNat (saO S Wy a.toNat)) → (Wy - b).toNat < n_ → kP G [(hq0, .inr (8, [.ref hx0, .ref hr0, .ref hb0, .ref hy0, .ref hp0, .ref hn0, .ref hw0, .ref hh0, .ref aim, .ref aik, .long tr])), (hb0, .inr (0, [.int (zI S), .int (zI C), .int (zI Wy), .int (zI Li), .int (zI St), .ref al]))] H → va_S A s.heap H locs → lv_has ls 4 [(3, .int (zI b)), (2, .int (zI a)), (1, .int (zI m2)), (0, .ref hq0)] → W p l e rmX8_same s m ([.ref hq0] : List Value).toArray below meth c H locs 0 0 Q (F0 m 19 ls []) := by
          intro n_
          induction n_ with
          | zero =>
            intro b m2 H locs ls hb2 hm2 hm
            exact absurd hm (Nat.not_lt_zero _)
          | succ n_ ih19 =>
            intro b m2 H locs ls hb2 hm2 hm19 hP hS hl
            refine lv_iload_n hx hb dX8_same_19 rfl (lv_at hl 0 rfl) ?_
            refine lv_aload_n hx hb dX8_same_20 rfl (lv_at hl 3 rfl) ?_
            refine va_get (ci := 8) (v := .ref hb0) (C := RX8) (T := TX8) (N := 11) hx hb hts i8 hown hK hP 0 rfl rfl 2 (by decide) f28 (fun _ h9 => h9) rfl dX8_same_21 ?_
            refine va_get (ci := 0) (v := .int (zI Wy)) (C := RX0) (T := TX0) (N := 6) hx hb hts i0 hown hK hP 1 rfl rfl 2 (by decide) f166 (fun _ h9 => h9) rfl dX8_same_24 ?_
            refine z_icmp_ge (tgt := 76) hx hb (by omega) dX8_same_27 (by decide) (fun c_2 => ?_) (fun c_2 => ?_)
            · refine lv_iinc (v := zI (a + 1)) (lv' := [(2, .int (zI (a + 1))), (3, .int (zI b)), (1, .int (zI m2)), (0, .ref hq0)]) hx hb dX8_same_76 hl (k := 1) rfl (zI_add _ _) (by decide) rfl (fun ls hl => ?_)
              refine lv_goto (tgt := 4) hx hb dX8_same_79 (by decide) ?_
              exact ih4 (a + 1) m2 H locs ls (by omega) (by rw [tn1 ha.1, saO, Int.toNat_of_nonneg ha.1, hm2, show (b - (a + 1)).toNat = (Wy - (a + 1)).toNat by omega]) (by omega) hP hS (lv_sub hl [0, 2, 3] rfl)
            · refine lv_aload_n hx hb dX8_same_30 rfl (lv_at hl 3 rfl) ?_
              refine va_get (ci := 8) (v := .ref hb0) (C := RX8) (T := TX8) (N := 11) hx hb hts i8 hown hK hP 0 rfl rfl 2 (by decide) f28 (fun _ h9 => h9) rfl dX8_same_31 ?_
              refine lv_aload_n hx hb dX8_same_34 rfl (lv_at hl 3 rfl) ?_
              refine va_get (ci := 8) (v := .ref hb0) (C := RX8) (T := TX8) (N := 11) hx hb hts i8 hown hK hP 0 rfl rfl 2 (by decide) f28 (fun _ h9 => h9) rfl dX8_same_35 ?_
              refine lv_iconst (v := zI 0) hx hb dX8_same_38 rfl ?_
              refine lv_iload_n hx hb dX8_same_39 rfl (lv_at hl 1 rfl) ?_
              refine z_cV (As := [.int (zI 0), .int (zI a)]) (rest := [.ref hb0]) ⟨hx, hb, hml, hown, hts⟩ (c_X0_from l G hb0 al S C Wy Li St 0 a (by first | assumption | omega) (by first | assumption | omega) (by first | assumption | omega)) (cwV 2 hts gX8_same_X0_from rfl rfl rfl pd_X0_from ⟨(Nat.le_of_ble_eq_true rfl), (Nat.le_of_ble_eq_true rfl)⟩) hK hP hS [1] rfl rfl rfl rfl rfl hl.1 rfl (Nat.le_of_ble_eq_true rfl) dX8_same_40 ⟨Nat.zero_le _, Nat.zero_le _⟩ (fun H locs hP hS => ?_)
              have hq_3 := fromZ_rng (C := C) (Wy := Wy) (w := 0) (t := a) ((by first | assumption | omega)) ((by first | assumption | omega)) ((by first | assumption | omega))
              refine lv_iload_n hx hb dX8_same_43 rfl (lv_at hl 0 rfl) ?_
              refine z_cV (As := [.int (zI (fromZ S 0 a)), .int (zI b)]) (rest := []) ⟨hx, hb, hml, hown, hts⟩ (c_X0_from l G hb0 al S C Wy Li St (fromZ S 0 a) b (by first | assumption | omega) (by first | assumption | omega) (by first | assumption | omega)) (cwV 2 hts gX8_same_X0_from rfl rfl rfl pd_X0_from ⟨(Nat.le_of_ble_eq_true rfl), (Nat.le_of_ble_eq_true rfl)⟩) hK hP hS [1] rfl rfl rfl rfl rfl hl.1 rfl (Nat.le_of_ble_eq_true rfl) dX8_same_44 ⟨Nat.zero_le _, Nat.zero_le _⟩ (fun H locs hP hS => ?_)
              have hq_4 := fromZ_rng (C := C) (Wy := Wy) (w := (fromZ S 0 a)) (t := b) ((by first | assumption | omega)) ((by first | assumption | omega)) ((by first | assumption | omega))
              refine lv_aload_n hx hb dX8_same_47 rfl (lv_at hl 3 rfl) ?_
              refine va_get (ci := 8) (v := .ref hb0) (C := RX8) (T := TX8) (N := 11) hx hb hts i8 hown hK hP 0 rfl rfl 2 (by decide) f28 (fun _ h9 => h9) rfl dX8_same_48 ?_
              refine lv_aload_n hx hb dX8_same_51 rfl (lv_at hl 3 rfl) ?_
              refine va_get (ci := 8) (v := .ref hb0) (C := RX8) (T := TX8) (N := 11) hx hb hts i8 hown hK hP 0 rfl rfl 2 (by decide) f28 (fun _ h9 => h9) rfl dX8_same_52 ?_
              refine lv_iconst (v := zI 0) hx hb dX8_same_55 rfl ?_
              refine lv_iload_n hx hb dX8_same_56 rfl (lv_at hl 0 rfl) ?_
              refine z_cV (As := [.int (zI 0), .int (zI b)]) (rest := [.ref hb0, .int (zI (fromZ S (fromZ S 0 a) b))]) ⟨hx, hb, hml, hown, hts⟩ (c_X0_from l G hb0 al S C Wy Li St 0 b (by first | assumption | omega) (by first | assumption | omega) (by first | assumption | omega)) (cwV 2 hts gX8_same_X0_from rfl rfl rfl pd_X0_from ⟨(Nat.le_of_ble_eq_true rfl), (Nat.le_of_ble_eq_true rfl)⟩) hK hP hS [1] rfl rfl rfl rfl rfl hl.1 rfl (Nat.le_of_ble_eq_true rfl) dX8_same_57 ⟨Nat.zero_le _, Nat.zero_le _⟩ (fun H locs hP hS => ?_)
              have hq_5 := fromZ_rng (C := C) (Wy := Wy) (w := 0) (t := b) ((by first | assumption | omega)) ((by first | assumption | omega)) ((by first | assumption | omega))
              refine lv_iload_n hx hb dX8_same_60 rfl (lv_at hl 1 rfl) ?_
              refine z_cV (As := [.int (zI (fromZ S 0 b)), .int (zI a)]) (rest := [.int (zI (fromZ S (fromZ S 0 a) b))]) ⟨hx, hb, hml, hown, hts⟩ (c_X0_from l G hb0 al S C Wy Li St (fromZ S 0 b) a (by first | assumption | omega) (by first | assumption | omega) (by first | assumption | omega)) (cwV 2 hts gX8_same_X0_from rfl rfl rfl pd_X0_from ⟨(Nat.le_of_ble_eq_true rfl), (Nat.le_of_ble_eq_true rfl)⟩) hK hP hS [1] rfl rfl rfl rfl rfl hl.1 rfl (Nat.le_of_ble_eq_true rfl) dX8_same_61 ⟨Nat.zero_le _, Nat.zero_le _⟩ (fun H locs hP hS => ?_)
              have hq_6 := fromZ_rng (C := C) (Wy := Wy) (w := (fromZ S 0 b)) (t := a) ((by first | assumption | omega)) ((by first | assumption | omega)) ((by first | assumption | omega))
              refine z_icmp_ne (tgt := 70) hx hb (by omega) dX8_same_64 (by decide) (fun c_7 => ?_) (fun c_7 => ?_)
              · refine lv_iinc (v := zI (b + 1)) (lv' := [(3, .int (zI (b + 1))), (2, .int (zI a)), (1, .int (zI m2)), (0, .ref hq0)]) hx hb dX8_same_70 hl (k := 0) rfl (zI_add _ _) (by decide) rfl (fun ls hl => ?_)
                refine lv_goto (tgt := 19) hx hb dX8_same_73 (by decide) ?_
                exact ih19 (b + 1) m2 H locs ls (by omega) (by rw [show (b + 1 - (a + 1)).toNat = (b - (a + 1)).toNat + 1 by omega, saI, show a + 1 + (((b - (a + 1)).toNat : Nat) : Int) = b by omega, ← hm2]; first | rw [if_pos (by assumption)] | rw [if_neg (by assumption)]) (by omega) hP hS (lv_sub hl [0, 1, 2, 3] rfl)
              · refine lv_iinc (v := zI (m2 + 1)) (lv' := [(1, .int (zI (m2 + 1))), (3, .int (zI b)), (2, .int (zI a)), (0, .ref hq0)]) hx hb dX8_same_67 hl (k := 2) rfl (zI_add _ _) (by decide) rfl (fun ls hl => ?_)
                refine lv_iinc (v := zI (b + 1)) (lv' := [(3, .int (zI (b + 1))), (1, .int (zI (m2 + 1))), (2, .int (zI a)), (0, .ref hq0)]) hx hb dX8_same_70 hl (k := 1) rfl (zI_add _ _) (by decide) rfl (fun ls hl => ?_)
                refine lv_goto (tgt := 19) hx hb dX8_same_73 (by decide) ?_
                exact ih19 (b + 1) (m2 + 1) H locs ls (by omega) (by rw [show (b + 1 - (a + 1)).toNat = (b - (a + 1)).toNat + 1 by omega, saI, show a + 1 + (((b - (a + 1)).toNat : Nat) : Int) = b by omega, ← hm2]; first | rw [if_pos (by assumption)] | rw [if_neg (by assumption)]) (by omega) hP hS (lv_sub hl [0, 2, 1, 3] rfl)
        exact loop19 _ (a + 1) mn H locs ls (by omega) (by rw [show (a + 1 - (a + 1)).toNat = 0 by omega]; exact hmn) (Nat.lt_succ_self _) hP hS (lv_sub hl [0, 1, 2, 3] rfl)
  exact loop4 _ 0 0 H locs ls (by omega) rfl (Nat.lt_succ_self _) hP hS (lv_sub hl [0, 1, 2] rfl)
