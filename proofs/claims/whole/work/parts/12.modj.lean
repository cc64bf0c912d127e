
abbrev goP (S Wy : Int) (set mask : Nat) (home w t : Int) (cf : Int → Int) : Prop := set.testBit t.toNat = true ∧ ((mask = fullN Wy ∧ fromZ S w t = home) ∨ (¬ mask.testBit (fromZ S w t).toNat = true ∧ (cf ((mask ||| 2 ^ (fromZ S w t).toNat : Nat) : Int)).toNat.testBit (fromZ S w t).toNat = true))

theorem pd_X9_goesOn : yX9_goesOn.cls = RX9 ∧ yX9_goesOn.cls ≠ "java/lang/invoke/MethodHandle" ∧ yX9_goesOn.cls ≠ "java/lang/invoke/VarHandle" ∧ (parseMethodDescriptor yX9_goesOn.desc).map (fun d => d.parameters.length) = some 4 := by decide +kernel
abbrev rmX9_goesOn : Room := { frames := 1, cells := 0, slots := 0, locals := 24 }
set_option maxHeartbeats 4000000 in
set_option maxRecDepth 100000 in
theorem c_X9_goesOn (l : Launch) (G : CX) (hm0 : Nat) (S : Int) (C : Int) (Wy : Int) (Li : Int) (ml : Nat) (ms : Nat) (mw : Nat) (kn : Int) (mi : Nat) (mk : Nat) (hz : Int) (mh : Nat) (tr : Int64) (mt : Nat) (tn : Int) (cu : Int) (sa : Int) (to : Int) (nu : Int) (wr : Int) (it : Int) (sS : Int) (sC : Int) (sL : Int) (sW : Int) (mq : Nat) (mn : Nat) (mc : Nat) (mr : Nat) (mb : Nat) (sf : Int → Int) (cf : Int → Int) (set : Int) (mask : Int) (w : Int) (t : Int) (hB : (2 ≤ S ∧ S ≤ 6) ∧ (C = 1 ∧ Wy = S ∨ C = 2 ∧ Wy = 2 * S)) (hl1 : 0 ≤ sf 1 ∧ sf 1 < Wy) (hcf : ∀ i : Int, 0 ≤ i → i < 4096 → 0 ≤ cf i ∧ cf i < 4096) (hset : 0 ≤ set ∧ set < 4096) (hmask : 0 ≤ mask ∧ mask < 4096) (hw : 0 ≤ w ∧ w < Wy) (ht : 0 ≤ t ∧ t < Wy) : Met l yX9_goesOn wsX9_goesOn rmX9_goesOn (rdP G [.ref hm0, .int (zI set), .int (zI mask), .int (zI w), .int (zI t)] [(hm0, .inr (9, [.int (zI S), .int (zI C), .int (zI Wy), .int (zI Li), .ref ml, .ref ms, .ref mw, .int (zI kn), .ref mi, .ref mk, .int (zI hz), .ref mh, .long tr, .ref mt, .int (zI tn), .int (zI cu), .int (zI sa), .int (zI to), .int (zI nu), .int (zI wr), .int (zI it), .int (zI sS), .int (zI sC), .int (zI sL), .int (zI sW), .ref mq, .ref mn, .ref mc, .ref mr, .ref mb])), (ms, .inl (G.2.1, 15, .inl (aZ sf))), (mc, .inl (G.2.1, 4096, .inl (aZ cf)))]) (rdQ (zI (if goP S Wy set.toNat mask.toNat (sf 1) w t cf then 1 else 0))) 0 0 noA := by
  refine rd_ofW (cc := cX9_goesOn) (maxL := 7) (ty := .boolean) (by decide) rfl (Nat.le_of_ble_eq_true rfl) (nb _) ?_
  intro p e s m below meth c Q A hx hb hml hown hts hK hret H locs hP hS ls hl
  have hown : s.vm.findClass RX9 = some m.cls := hown
  have hl : lv_has ls 7 [(0, .ref hm0), (1, .int (zI set)), (2, .int (zI mask)), (3, .int (zI w)), (4, .int (zI t))] := hl
  have f16 := hts (.fieldLink RX9 16 "QuarterTurnsModel" "ways" "I") (by decide +kernel)
  have i9 : ∀ w ∈ wsX90, w ∈ wsX9_goesOn := fun w h => List.mem_cons_of_mem _ (List.mem_append_right _ h)
  have f51 := hts (.fieldLink RX9 51 "QuarterTurnsModel" "can" "[I") (by decide +kernel)
  have f26 := hts (.fieldLink RX9 26 "QuarterTurnsModel" "st" "[I") (by decide +kernel)
  refine lv_aload_n hx hb dX9_goesOn_0 rfl (lv_at hl 0 rfl) ?_
  refine lv_iload_n hx hb dX9_goesOn_1 rfl (lv_at hl 3 rfl) ?_
  refine lv_iload hx hb dX9_goesOn_2 (lv_at hl 4 rfl) ?_
  refine z_cV (As := [.int (zI w), .int (zI t)]) (rest := []) ⟨hx, hb, hml, hown, hts⟩ (c_X9_from l G hm0 S C Wy Li ml ms mw kn mi mk hz mh tr mt tn cu sa to nu wr it sS sC sL sW mq mn mc mr mb w t (by first | assumption | omega) (by first | assumption | omega) (by first | assumption | omega)) (cwV 2 hts gX9_goesOn_X9_from rfl rfl rfl pd_X9_from ⟨(Nat.le_of_ble_eq_true rfl), (Nat.le_of_ble_eq_true rfl)⟩) hK hP hS [0] rfl rfl rfl rfl rfl hl.1 rfl (Nat.le_of_ble_eq_true rfl) dX9_goesOn_4 ⟨Nat.zero_le _, Nat.zero_le _⟩ (fun H locs hP hS => ?_)
  have hq_1 := fromZ_rng (C := C) (Wy := Wy) (w := w) (t := t) ((by first | assumption | omega)) ((by first | assumption | omega)) ((by first | assumption | omega))
  refine lv_istore (lv' := [(5, .int (zI (fromZ S w t))), (0, .ref hm0), (1, .int (zI set)), (2, .int (zI mask)), (3, .int (zI w)), (4, .int (zI t))]) hx hb dX9_goesOn_7 hl (by decide) rfl (fun ls hl => ?_)
  refine lv_iload_n hx hb dX9_goesOn_9 rfl (lv_at hl 3 rfl) ?_
  refine lv_iconst (v := zI 1) hx hb dX9_goesOn_10 rfl ?_
  refine lv_aload_n hx hb dX9_goesOn_11 rfl (lv_at hl 1 rfl) ?_
  refine va_get (ci := 9) (v := .int (zI Wy)) (C := RX9) (T := TX9) (N := 30) hx hb hts i9 hown hK hP 0 rfl rfl 2 (by decide) f16 (fun _ h9 => h9) rfl dX9_goesOn_12 ?_
  refine z_shl1 hx hb (by omega) dX9_goesOn_15 ?_
  refine lv_iconst (v := zI 1) hx hb dX9_goesOn_16 rfl ?_
  refine z_isub hx hb dX9_goesOn_17 ?_
  refine z_top (fullN_eq Wy) ?_
  have hfl := fullN_lt (W := Wy) (by omega)
  refine z_icmp_ne (tgt := 36) hx hb (by omega) dX9_goesOn_18 (by decide) (fun c_2 => ?_) (fun c_2 => ?_)
  · refine lv_iconst (v := zI 0) hx hb dX9_goesOn_36 rfl ?_
    refine lv_istore (lv' := [(6, .int (zI 0)), (5, .int (zI (fromZ S w t))), (0, .ref hm0), (1, .int (zI set)), (2, .int (zI mask)), (3, .int (zI w)), (4, .int (zI t))]) hx hb dX9_goesOn_37 hl (by decide) rfl (fun ls hl => ?_)
    refine lv_iload_n hx hb dX9_goesOn_39 rfl (lv_at hl 3 rfl) ?_
    refine lv_iload hx hb dX9_goesOn_40 (lv_at hl 6 rfl) ?_
    refine z_cS (As := [.int (zI set), .int (zI t)]) (rest := []) ⟨hx, hb, hml, hown, hts⟩ (c_X9_has l G set t (by first | assumption | omega) (by first | assumption | omega)) (va_cwS 2 hts gX9_goesOn_X9_has rfl rfl rfl pd_X9_has.2 ⟨(Nat.le_of_ble_eq_true rfl), (Nat.le_of_ble_eq_true rfl)⟩) hK hP hS [] rfl rfl hl.1 rfl (Nat.le_of_ble_eq_true rfl) dX9_goesOn_42 ⟨Nat.zero_le _, Nat.zero_le _⟩ (fun H locs hP hS => ?_)
    refine z_ifeq_b (tgt := 85) hx hb dX9_goesOn_45 (by decide) (fun c_3 => ?_) (fun c_3 => ?_)
    · refine lv_iconst (v := zI 0) hx hb dX9_goesOn_85 rfl ?_
      exact hret H locs ls 86 _ (congrArg zI (if_neg (by intro h8; obtain ⟨h81, h82 | h82⟩ := h8 <;> first | contradiction | omega | exact h82.1 (by assumption) | exact absurd h82.2 (by assumption))).symm) hS dX9_goesOn_86
    · refine lv_iload hx hb dX9_goesOn_48 (lv_at hl 0 rfl) ?_
      refine z_if_ne (tgt := 81) hx hb (by omega) dX9_goesOn_50 (by decide) (fun c_4 => ?_) (fun c_4 => ?_)
      · exact absurd c_4 (by omega)
      · refine lv_iload_n hx hb dX9_goesOn_53 rfl (lv_at hl 4 rfl) ?_
        refine lv_iload hx hb dX9_goesOn_54 (lv_at hl 1 rfl) ?_
        refine z_cS (As := [.int (zI mask), .int (zI (fromZ S w t))]) (rest := []) ⟨hx, hb, hml, hown, hts⟩ (c_X9_has l G mask (fromZ S w t) (by first | assumption | omega) (by first | assumption | omega)) (va_cwS 2 hts gX9_goesOn_X9_has rfl rfl rfl pd_X9_has.2 ⟨(Nat.le_of_ble_eq_true rfl), (Nat.le_of_ble_eq_true rfl)⟩) hK hP hS [] rfl rfl hl.1 rfl (Nat.le_of_ble_eq_true rfl) dX9_goesOn_56 ⟨Nat.zero_le _, Nat.zero_le _⟩ (fun H locs hP hS => ?_)
        refine z_ifne_b (tgt := 85) hx hb dX9_goesOn_59 (by decide) (fun c_5 => ?_) (fun c_5 => ?_)
        · refine lv_iconst (v := zI 0) hx hb dX9_goesOn_85 rfl ?_
          exact hret H locs ls 86 _ (congrArg zI (if_neg (by intro h8; obtain ⟨h81, h82 | h82⟩ := h8 <;> first | contradiction | omega | exact h82.1 (by assumption) | exact absurd h82.2 (by assumption))).symm) hS dX9_goesOn_86
        · refine lv_aload_n hx hb dX9_goesOn_62 rfl (lv_at hl 2 rfl) ?_
          refine va_get (ci := 9) (v := .ref mc) (C := RX9) (T := TX9) (N := 30) hx hb hts i9 hown hK hP 0 rfl rfl 27 (by decide) f51 (fun _ h9 => h9) rfl dX9_goesOn_63 ?_
          refine lv_iload_n hx hb dX9_goesOn_66 rfl (lv_at hl 4 rfl) ?_
          refine z_top (show mask = ((mask.toNat : Nat) : Int) by omega) ?_
          refine lv_iconst (v := zI 1) hx hb dX9_goesOn_67 rfl ?_
          refine lv_iload hx hb dX9_goesOn_68 (lv_at hl 1 rfl) ?_
          refine z_shl1 hx hb (by omega) dX9_goesOn_70 ?_
          refine z_ior (a := mask.toNat) (b := (2 ^ (fromZ S w t).toNat)) hx hb dX9_goesOn_71 ?_
          have hor := or_lt (a := mask.toNat) (b := 2 ^ (fromZ S w t).toNat) (by omega) (bit_lt (by omega))
          have hcq := hcf ((mask.toNat ||| 2 ^ (fromZ S w t).toNat : Nat) : Int) (by omega) (by omega)
          refine z_iald (n := 4096) (f := cf) hx hb hK hP 2 rfl (by omega) dX9_goesOn_72 ?_
          refine lv_iload hx hb dX9_goesOn_73 (lv_at hl 1 rfl) ?_
          refine z_cS (As := [.int (zI (cf ((mask.toNat ||| (2 ^ (fromZ S w t).toNat) : Nat) : Int))), .int (zI (fromZ S w t))]) (rest := []) ⟨hx, hb, hml, hown, hts⟩ (c_X9_has l G (cf ((mask.toNat ||| (2 ^ (fromZ S w t).toNat) : Nat) : Int)) (fromZ S w t) (by first | assumption | omega) (by first | assumption | omega)) (va_cwS 2 hts gX9_goesOn_X9_has rfl rfl rfl pd_X9_has.2 ⟨(Nat.le_of_ble_eq_true rfl), (Nat.le_of_ble_eq_true rfl)⟩) hK hP hS [] rfl rfl hl.1 rfl (Nat.le_of_ble_eq_true rfl) dX9_goesOn_75 ⟨Nat.zero_le _, Nat.zero_le _⟩ (fun H locs hP hS => ?_)
          refine z_ifeq_b (tgt := 85) hx hb dX9_goesOn_78 (by decide) (fun c_6 => ?_) (fun c_6 => ?_)
          · refine lv_iconst (v := zI 0) hx hb dX9_goesOn_85 rfl ?_
            exact hret H locs ls 86 _ (congrArg zI (if_neg (by intro h8; obtain ⟨h81, h82 | h82⟩ := h8 <;> first | contradiction | omega | exact h82.1 (by assumption) | exact absurd h82.2 (by assumption))).symm) hS dX9_goesOn_86
          · refine lv_iconst (v := zI 1) hx hb dX9_goesOn_81 rfl ?_
            refine lv_goto (tgt := 86) hx hb dX9_goesOn_82 (by decide) ?_
            exact hret H locs ls 86 _ (congrArg zI (if_pos (by first | exact ⟨by assumption, Or.inl ⟨by omega, by omega⟩⟩ | exact ⟨by assumption, Or.inr ⟨by assumption, by assumption⟩⟩)).symm) hS dX9_goesOn_86
  · refine lv_iload hx hb dX9_goesOn_21 (lv_at hl 0 rfl) ?_
    refine lv_aload_n hx hb dX9_goesOn_23 rfl (lv_at hl 1 rfl) ?_
    refine va_get (ci := 9) (v := .ref ms) (C := RX9) (T := TX9) (N := 30) hx hb hts i9 hown hK hP 0 rfl rfl 5 (by decide) f26 (fun _ h9 => h9) rfl dX9_goesOn_24 ?_
    refine lv_iconst (v := zI 1) hx hb dX9_goesOn_27 rfl ?_
    refine z_iald (n := 15) (f := sf) hx hb hK hP 1 rfl (by omega) dX9_goesOn_28 ?_
    refine z_icmp_ne (tgt := 36) hx hb (by omega) dX9_goesOn_29 (by decide) (fun c_7 => ?_) (fun c_7 => ?_)
    · refine lv_iconst (v := zI 0) hx hb dX9_goesOn_36 rfl ?_
      refine lv_istore (lv' := [(6, .int (zI 0)), (5, .int (zI (fromZ S w t))), (0, .ref hm0), (1, .int (zI set)), (2, .int (zI mask)), (3, .int (zI w)), (4, .int (zI t))]) hx hb dX9_goesOn_37 hl (by decide) rfl (fun ls hl => ?_)
      refine lv_iload_n hx hb dX9_goesOn_39 rfl (lv_at hl 3 rfl) ?_
      refine lv_iload hx hb dX9_goesOn_40 (lv_at hl 6 rfl) ?_
      refine z_cS (As := [.int (zI set), .int (zI t)]) (rest := []) ⟨hx, hb, hml, hown, hts⟩ (c_X9_has l G set t (by first | assumption | omega) (by first | assumption | omega)) (va_cwS 2 hts gX9_goesOn_X9_has rfl rfl rfl pd_X9_has.2 ⟨(Nat.le_of_ble_eq_true rfl), (Nat.le_of_ble_eq_true rfl)⟩) hK hP hS [] rfl rfl hl.1 rfl (Nat.le_of_ble_eq_true rfl) dX9_goesOn_42 ⟨Nat.zero_le _, Nat.zero_le _⟩ (fun H locs hP hS => ?_)
      refine z_ifeq_b (tgt := 85) hx hb dX9_goesOn_45 (by decide) (fun c_8 => ?_) (fun c_8 => ?_)
      · refine lv_iconst (v := zI 0) hx hb dX9_goesOn_85 rfl ?_
        exact hret H locs ls 86 _ (congrArg zI (if_neg (by intro h8; obtain ⟨h81, h82 | h82⟩ := h8 <;> first | contradiction | omega | exact h82.1 (by assumption) | exact absurd h82.2 (by assumption))).symm) hS dX9_goesOn_86
      · refine lv_iload hx hb dX9_goesOn_48 (lv_at hl 0 rfl) ?_
        refine z_if_ne (tgt := 81) hx hb (by omega) dX9_goesOn_50 (by decide) (fun c_9 => ?_) (fun c_9 => ?_)
        · exact absurd c_9 (by omega)
        · refine lv_iload_n hx hb dX9_goesOn_53 rfl (lv_at hl 4 rfl) ?_
          refine lv_iload hx hb dX9_goesOn_54 (lv_at hl 1 rfl) ?_
          refine z_cS (As := [.int (zI mask), .int (zI (fromZ S w t))]) (rest := []) ⟨hx, hb, hml, hown, hts⟩ (c_X9_has l G mask (fromZ S w t) (by first | assumption | omega) (by first | assumption | omega)) (va_cwS 2 hts gX9_goesOn_X9_has rfl rfl rfl pd_X9_has.2 ⟨(Nat.le_of_ble_eq_true rfl), (Nat.le_of_ble_eq_true rfl)⟩) hK hP hS [] rfl rfl hl.1 rfl (Nat.le_of_ble_eq_true rfl) dX9_goesOn_56 ⟨Nat.zero_le _, Nat.zero_le _⟩ (fun H locs hP hS => ?_)
          refine z_ifne_b (tgt := 85) hx hb dX9_goesOn_59 (by decide) (fun c_10 => ?_) (fun c_10 => ?_)
          · refine lv_iconst (v := zI 0) hx hb dX9_goesOn_85 rfl ?_
            exact hret H locs ls 86 _ (congrArg zI (if_neg (by intro h8; obtain ⟨h81, h82 | h82⟩ := h8 <;> first | contradiction | omega | exact h82.1 (by assumption) | exact absurd h82.2 (by assumption))).symm) hS dX9_goesOn_86
          · refine lv_aload_n hx hb dX9_goesOn_62 rfl (lv_at hl 2 rfl) ?_
            refine va_get (ci := 9) (v := .ref mc) (C := RX9) (T := TX9) (N := 30) hx hb hts i9 hown hK hP 0 rfl rfl 27 (by decide) f51 (fun _ h9 => h9) rfl dX9_goesOn_63 ?_
            refine lv_iload_n hx hb dX9_goesOn_66 rfl (lv_at hl 4 rfl) ?_
            refine z_top (show mask = ((mask.toNat : Nat) : Int) by omega) ?_
            refine lv_iconst (v := zI 1) hx hb dX9_goesOn_67 rfl ?_
            refine lv_iload hx hb dX9_goesOn_68 (lv_at hl 1 rfl) ?_
            refine z_shl1 hx hb (by omega) dX9_goesOn_70 ?_
            refine z_ior (a := mask.toNat) (b := (2 ^ (fromZ S w t).toNat)) hx hb dX9_goesOn_71 ?_
            have hor := or_lt (a := mask.toNat) (b := 2 ^ (fromZ S w t).toNat) (by omega) (bit_lt (by omega))
            have hcq := hcf ((mask.toNat ||| 2 ^ (fromZ S w t).toNat : Nat) : Int) (by omega) (by omega)
            refine z_iald (n := 4096) (f := cf) hx hb hK hP 2 rfl (by omega) dX9_goesOn_72 ?_
            refine lv_iload hx hb dX9_goesOn_73 (lv_at hl 1 rfl) ?_
            refine z_cS (As := [.int (zI (cf ((mask.toNat ||| (2 ^ (fromZ S w t).toNat) : Nat) : Int))), .int (zI (fromZ S w t))]) (rest := []) ⟨hx, hb, hml, hown, hts⟩ (c_X9_has l G (cf ((mask.toNat ||| (2 ^ (fromZ S w t).toNat) : Nat) : Int)) (fromZ S w t) (by first | assumption | omega) (by first | assumption | omega)) (va_cwS 2 hts gX9_goesOn_X9_has rfl rfl rfl pd_X9_has.2 ⟨(Nat.le_of_ble_eq_true rfl), (Nat.le_of_ble_eq_true rfl)⟩) hK hP hS [] rfl rfl hl.1 rfl (Nat.le_of_ble_eq_true rfl) dX9_goesOn_75 ⟨Nat.zero_le _, Nat.zero_le _⟩ (fun H locs hP hS => ?_)
            refine z_ifeq_b (tgt := 85) hx hb dX9_goesOn_78 (by decide) (fun c_11 => ?_) (fun c_11 => ?_)
            · refine lv_iconst (v := zI 0) hx hb dX9_goesOn_85 rfl ?_
              exact hret H locs ls 86 _ (congrArg zI (if_neg (by intro h8; obtain ⟨h81, h82 | h82⟩ := h8 <;> first | contradiction | omega | exact h82.1 (by assumption) | exact absurd h82.2 (by assumption))).symm) hS dX9_goesOn_86
            · refine lv_iconst (v := zI 1) hx hb dX9_goesOn_81 rfl ?_
              refine lv_goto (tgt := 86) hx hb dX9_goesOn_82 (by decide) ?_
              exact hret H locs ls 86 _ (congrArg zI (if_pos (by first | exact ⟨by assumption, Or.inl ⟨by omega, by omega⟩⟩ | exact ⟨by assumption, Or.inr ⟨by assumption, by assumption⟩⟩)).symm) hS dX9_goesOn_86
    · refine lv_iconst (v := zI 1) hx hb dX9_goesOn_32 rfl ?_
      refine lv_goto (tgt := 37) hx hb dX9_goesOn_33 (by decide) ?_
      refine lv_istore (lv' := [(6, .int (zI 1)), (5, .int (zI (fromZ S w t))), (0, .ref hm0), (1, .int (zI set)), (2, .int (zI mask)), (3, .int (zI w)), (4, .int (zI t))]) hx hb dX9_goesOn_37 hl (by decide) rfl (fun ls hl => ?_)
      refine lv_iload_n hx hb dX9_goesOn_39 rfl (lv_at hl 3 rfl) ?_
      refine lv_iload hx hb dX9_goesOn_40 (lv_at hl 6 rfl) ?_
      refine z_cS (As := [.int (zI set), .int (zI t)]) (rest := []) ⟨hx, hb, hml, hown, hts⟩ (c_X9_has l G set t (by first | assumption | omega) (by first | assumption | omega)) (va_cwS 2 hts gX9_goesOn_X9_has rfl rfl rfl pd_X9_has.2 ⟨(Nat.le_of_ble_eq_true rfl), (Nat.le_of_ble_eq_true rfl)⟩) hK hP hS [] rfl rfl hl.1 rfl (Nat.le_of_ble_eq_true rfl) dX9_goesOn_42 ⟨Nat.zero_le _, Nat.zero_le _⟩ (fun H locs hP hS => ?_)
      refine z_ifeq_b (tgt := 85) hx hb dX9_goesOn_45 (by decide) (fun c_12 => ?_) (fun c_12 => ?_)
      · refine lv_iconst (v := zI 0) hx hb dX9_goesOn_85 rfl ?_
        exact hret H locs ls 86 _ (congrArg zI (if_neg (by intro h8; obtain ⟨h81, h82 | h82⟩ := h8 <;> first | contradiction | omega | exact h82.1 (by assumption) | exact absurd h82.2 (by assumption))).symm) hS dX9_goesOn_86
      · refine lv_iload hx hb dX9_goesOn_48 (lv_at hl 0 rfl) ?_
        refine z_if_ne (tgt := 81) hx hb (by omega) dX9_goesOn_50 (by decide) (fun c_13 => ?_) (fun c_13 => ?_)
        · refine lv_iconst (v := zI 1) hx hb dX9_goesOn_81 rfl ?_
          refine lv_goto (tgt := 86) hx hb dX9_goesOn_82 (by decide) ?_
          exact hret H locs ls 86 _ (congrArg zI (if_pos (by first | exact ⟨by assumption, Or.inl ⟨by omega, by omega⟩⟩ | exact ⟨by assumption, Or.inr ⟨by assumption, by assumption⟩⟩)).symm) hS dX9_goesOn_86
        · exact absurd c_13 (by omega)

def frT (S Wy : Int) (set : Nat) (home : Int) (g : Int → Int) (mk : Int) : Prop := ∀ i : Nat, mk < (i : Int) → i < 2 ^ Wy.toNat → i.testBit home.toNat = true → ∀ j : Nat, j < Wy.toNat → (g (i : Int)).toNat.testBit j = (i.testBit j && exM S Wy set home (13 - cntN i Wy.toNat) (j : Int) i)
theorem uZ_uZ (f : Int → Int) (i v v2 : Int) : uZ (uZ f i v) i v2 = uZ f i v2 := by
  funext j
  unfold uZ
  split <;> rfl
theorem full_bit {Wy x : Int} (h0 : 0 ≤ x) (h : x < Wy) : (fullN Wy).testBit x.toNat = true := by
  unfold fullN
  rw [Nat.testBit_two_pow_sub_one]
  exact decide_eq_true (by omega)
theorem or_gt {x j : Nat} (h : ¬ x.testBit j = true) : x < x ||| 2 ^ j := by
  have h1 : x ≤ x ||| 2 ^ j := Nat.left_le_or
  have h2 : x ≠ x ||| 2 ^ j := by
    intro e
    apply h
    rw [e, or_bit, decide_eq_true rfl, Bool.or_true]
  omega
theorem goP_ok {S C Wy : Int} {set acc : Nat} {home w t mk : Int} {g g2 : Int → Int} (hB : (2 ≤ S ∧ S ≤ 6) ∧ (C = 1 ∧ Wy = S ∨ C = 2 ∧ Wy = 2 * S)) (hw : 0 ≤ w ∧ w < Wy) (ht : 0 ≤ t ∧ t < Wy) (hmk : 0 ≤ mk ∧ mk ≤ ((fullN Wy : Nat) : Int)) (hT : frT S Wy set home g mk) (hg2 : g2 = uZ g mk ((acc : Nat) : Int)) (hh : mk.toNat.testBit home.toNat = true) :
    goP S Wy set mk.toNat home w t g2 ↔ okM S Wy set home (exM S Wy set home (12 - cntN mk.toNat Wy.toNat)) w mk.toNat t.toNat = true := by
  have hf := fromZ_rng hB hw ht
  have hfull : fullN Wy < 2 ^ Wy.toNat := by
    unfold fullN
    have := Nat.one_le_two_pow (n := Wy.toNat)
    omega
  by_cases hs : set.testBit t.toNat = true
  · by_cases hm : mk.toNat = fullN Wy
    · rw [okM_last ht.1 hm hs, decide_eq_true_eq]
      constructor
      · rintro ⟨_, ⟨_, h⟩ | ⟨h, _⟩⟩
        · exact h
        · exact absurd (by rw [hm]; exact full_bit hf.1 hf.2) h
      · intro h
        exact ⟨hs, Or.inl ⟨hm, h⟩⟩
    · rw [okM_on ht.1 hm hs, Bool.and_eq_true, Bool.not_eq_true']
      by_cases hb : mk.toNat.testBit (fromZ S w t).toNat = true
      · constructor
        · rintro ⟨_, ⟨h, _⟩ | ⟨h, _⟩⟩
          · exact absurd h hm
          · exact absurd hb h
        · rintro ⟨h, _⟩
          rw [hb] at h
          exact absurd h (by decide)
      · have hlt := or_gt hb
        have hl2 : mk.toNat ||| 2 ^ (fromZ S w t).toNat < 2 ^ Wy.toNat := Nat.or_lt_two_pow (by omega) (bit_ltW hf.1 hf.2)
        have hq := hT (mk.toNat ||| 2 ^ (fromZ S w t).toNat) (by omega) hl2 (by rw [or_bit, hh, Bool.true_or]) (fromZ S w t).toNat (by omega)
        rw [or_bit, decide_eq_true rfl, Bool.or_true, Bool.true_and, cntN_or hb, if_pos (by omega), Int.toNat_of_nonneg hf.1, show 13 - (cntN mk.toNat Wy.toNat + 1) = 12 - cntN mk.toNat Wy.toNat by omega] at hq
        have hg : g2 ((mk.toNat ||| 2 ^ (fromZ S w t).toNat : Nat) : Int) = g ((mk.toNat ||| 2 ^ (fromZ S w t).toNat : Nat) : Int) := by rw [hg2, uZ_ne _ _ (by omega)]
        rw [← hq]
        constructor
        · rintro ⟨_, ⟨h, _⟩ | ⟨_, h⟩⟩
          · exact absurd h hm
          · rw [hg] at h
            exact ⟨by rw [Bool.not_eq_true] at hb; exact hb, h⟩
        · rintro ⟨_, h⟩
          exact ⟨hs, Or.inr ⟨hb, by rw [hg]; exact h⟩⟩
  · rw [okM_no hs]
    constructor
    · rintro ⟨h, _⟩
      exact absurd h hs
    · intro h
      exact absurd h (by decide)
theorem is_step {P B : Prop} [Decidable P] {q : Nat → Bool} {t : Int} (h0 : 0 ≤ t) (hp : P ↔ q t.toNat = true) (hf : anyN q t.toNat = false) (hb : B) : ((if P then (1 : Int) else 0) = 1 ∧ B ∧ anyN q (t + 1).toNat = true) ∨ ((if P then (1 : Int) else 0) = 0 ∧ anyN q (t + 1).toNat = false) := by
  rw [tn1 h0]
  show (_ ∧ B ∧ (anyN q t.toNat || q t.toNat) = true) ∨ (_ ∧ (anyN q t.toNat || q t.toNat) = false)
  rw [hf, Bool.false_or]
  by_cases h : P
  · rw [if_pos h]
    exact Or.inl ⟨rfl, hb, hp.mp h⟩
  · rw [if_neg h]
    refine Or.inr ⟨rfl, ?_⟩
    rw [← Bool.not_eq_true]
    exact fun h2 => h (hp.mpr h2)
theorem bw_of {is1 t Wy : Int} {q : Nat → Bool} {b ex : Bool} (hex : ex = anyN q Wy.toNat) (ht : 0 ≤ t ∧ t ≤ Wy) (his : (is1 = 1 ∧ b = true ∧ anyN q t.toNat = true) ∨ (is1 = 0 ∧ anyN q t.toNat = false)) (hx : Wy ≤ t ∨ ¬ b = true ∨ ¬ is1 = 0) : (is1 = 1 ∧ (b && ex) = true) ∨ (is1 = 0 ∧ (b && ex) = false) := by
  rcases his with ⟨h1, h2, h3⟩ | ⟨h1, h2⟩
  · obtain ⟨j, h4, h5⟩ := anyN_ex _ h3
    exact Or.inl ⟨h1, by rw [h2, hex, anyN_true h5 _ (by omega)]; rfl⟩
  · refine Or.inr ⟨h1, ?_⟩
    rcases hx with h | h | h
    · rw [hex, show Wy.toNat = t.toNat by omega, h2, Bool.and_false]
    · rw [Bool.not_eq_true] at h
      rw [h, Bool.false_and]
    · exact absurd h1 h
theorem bt_step {acc acc2 : Nat} {w : Int} {q : Nat → Bool} (hw : 0 ≤ w) (hbt : ∀ j : Nat, acc.testBit j = (decide ((j : Int) < w) && q j)) (h : (acc2 = acc ||| 2 ^ w.toNat ∧ q w.toNat = true) ∨ (acc2 = acc ||| 0 ∧ q w.toNat = false)) : ∀ j : Nat, acc2.testBit j = (decide ((j : Int) < w + 1) && q j) := by
  intro j
  rcases h with ⟨rfl, h⟩ | ⟨rfl, h⟩
  · rw [or_bit, hbt]
    by_cases e : w.toNat = j
    · subst e
      rw [h, decide_eq_true rfl, Bool.or_true, decide_eq_true (by omega)]
      rfl
    · rw [decide_eq_false e, Bool.or_false, decide_eq_decide.mpr (show (j : Int) < w ↔ (j : Int) < w + 1 by omega)]
  · rw [Nat.or_zero, hbt]
    by_cases e : w.toNat = j
    · subst e
      rw [h, Bool.and_false, Bool.and_false]
    · rw [decide_eq_decide.mpr (show (j : Int) < w ↔ (j : Int) < w + 1 by omega)]
theorem fr_step {S Wy : Int} {set acc : Nat} {home mk w : Int} {g g2 : Int → Int} (hmk : 0 ≤ mk) (hT : frT S Wy set home g mk) (hg2 : g2 = uZ g mk ((acc : Nat) : Int)) (hbt : ∀ j : Nat, acc.testBit j = (decide ((j : Int) < w) && (mk.toNat.testBit j && exM S Wy set home (13 - cntN mk.toNat Wy.toNat) (j : Int) mk.toNat))) (hx : Wy ≤ w ∨ ¬ mk.toNat.testBit home.toNat = true) : frT S Wy set home g2 (mk + -1) := by
  intro i h1 h2 h3 j h4
  by_cases e : (i : Int) = mk
  · rw [hg2, e, uZ_same]
    have e2 : mk.toNat = i := by omega
    rw [e2] at hbt hx
    rw [Int.toNat_natCast, hbt]
    rcases hx with h | h
    · rw [decide_eq_true (by omega), Bool.true_and]
    · exact absurd h3 h
  · rw [hg2, uZ_ne _ _ e]
    exact hT i (by omega) h2 h3 j h4
theorem full_lt2 (Wy : Int) : fullN Wy < 2 ^ Wy.toNat := by
  unfold fullN
  have := Nat.one_le_two_pow (n := Wy.toNat)
  omega

theorem pd_X9_findRounds : yX9_findRounds.cls = RX9 ∧ yX9_findRounds.cls ≠ "java/lang/invoke/MethodHandle" ∧ yX9_findRounds.cls ≠ "java/lang/invoke/VarHandle" ∧ (parseMethodDescriptor yX9_findRounds.desc).map (fun d => d.parameters.length) = some 1 := by decide +kernel
abbrev rmX9_findRounds : Room := { frames := 2, cells := 0, slots := 0, locals := 50 }
set_option maxHeartbeats 4000000 in
set_option maxRecDepth 100000 in
theorem c_X9_findRounds (l : Launch) (G : CX) (hm0 : Nat) (S : Int) (C : Int) (Wy : Int) (Li : Int) (ml : Nat) (ms : Nat) (mw : Nat) (kn : Int) (mi : Nat) (mk : Nat) (hz : Int) (mh : Nat) (tr : Int64) (mt : Nat) (tn : Int) (cu : Int) (sa : Int) (to : Int) (nu : Int) (wr : Int) (it : Int) (sS : Int) (sC : Int) (sL : Int) (sW : Int) (mq : Nat) (mn : Nat) (mc : Nat) (mr : Nat) (mb : Nat) (sf : Int → Int) (cf : Int → Int) (set : Int) (hB : (2 ≤ S ∧ S ≤ 6) ∧ (C = 1 ∧ Wy = S ∨ C = 2 ∧ Wy = 2 * S)) (hl1 : 0 ≤ sf 1 ∧ sf 1 < Wy) (hcf : ∀ i : Int, 0 ≤ i → i < 4096 → 0 ≤ cf i ∧ cf i < 4096) (hset : 0 ≤ set ∧ set ≤ ((fullN Wy : Nat) : Int)) : Met l yX9_findRounds wsX9_findRounds rmX9_findRounds (wrP G [.ref hm0, .int (zI set)] [(hm0, .inr (9, [.int (zI S), .int (zI C), .int (zI Wy), .int (zI Li), .ref ml, .ref ms, .ref mw, .int (zI kn), .ref mi, .ref mk, .int (zI hz), .ref mh, .long tr, .ref mt, .int (zI tn), .int (zI cu), .int (zI sa), .int (zI to), .int (zI nu), .int (zI wr), .int (zI it), .int (zI sS), .int (zI sC), .int (zI sL), .int (zI sW), .ref mq, .ref mn, .ref mc, .ref mr, .ref mb])), (ms, .inl (G.2.1, 15, .inl (aZ sf))), (mc, .inl (G.2.1, 4096, .inl (aZ cf)))]) (wrV G [(hm0, .inr (9, [.int (zI S), .int (zI C), .int (zI Wy), .int (zI Li), .ref ml, .ref ms, .ref mw, .int (zI kn), .ref mi, .ref mk, .int (zI hz), .ref mh, .long tr, .ref mt, .int (zI tn), .int (zI cu), .int (zI sa), .int (zI to), .int (zI nu), .int (zI wr), .int (zI it), .int (zI sS), .int (zI sC), .int (zI sL), .int (zI sW), .ref mq, .ref mn, .ref mc, .ref mr, .ref mb])), (ms, .inl (G.2.1, 15, .inl (aZ sf))), (mc, .inl (G.2.1, 4096, .inl (aZ cf)))] (fun (u : (Int → Int)) => match u with | cf2 => (frT S Wy set.toNat (sf 1) cf2 0 ∧ (∀ i : Int, 0 ≤ i → i < 4096 → 0 ≤ cf2 i ∧ cf2 i < 4096))) (fun (u : (Int → Int)) => match u with | cf2 => [(hm0, .inr (9, [.int (zI S), .int (zI C), .int (zI Wy), .int (zI Li), .ref ml, .ref ms, .ref mw, .int (zI kn), .ref mi, .ref mk, .int (zI hz), .ref mh, .long tr, .ref mt, .int (zI tn), .int (zI cu), .int (zI sa), .int (zI to), .int (zI nu), .int (zI wr), .int (zI it), .int (zI sS), .int (zI sC), .int (zI sL), .int (zI sW), .ref mq, .ref mn, .ref mc, .ref mr, .ref mb])), (ms, .inl (G.2.1, 15, .inl (aZ sf))), (mc, .inl (G.2.1, 4096, .inl (aZ cf2)))])) 0 0 (wrA [(hm0, .inr (9, [.int (zI S), .int (zI C), .int (zI Wy), .int (zI Li), .ref ml, .ref ms, .ref mw, .int (zI kn), .ref mi, .ref mk, .int (zI hz), .ref mh, .long tr, .ref mt, .int (zI tn), .int (zI cu), .int (zI sa), .int (zI to), .int (zI nu), .int (zI wr), .int (zI it), .int (zI sS), .int (zI sC), .int (zI sL), .int (zI sW), .ref mq, .ref mn, .ref mc, .ref mr, .ref mb])), (ms, .inl (G.2.1, 15, .inl (aZ sf))), (mc, .inl (G.2.1, 4096, .inl (aZ cf)))]) := by
  refine wv_ofW (cc := cX9_findRounds) (maxL := 6) (by decide) rfl (Nat.le_of_ble_eq_true rfl) ?_
  intro p e s m below meth c Q A hx hb hml hown hts hK hret H locs hP hD hS ls hl
  have hown : s.vm.findClass RX9 = some m.cls := hown
  have hl : lv_has ls 6 [(0, .ref hm0), (1, .int (zI set))] := hl
  have f16 := hts (.fieldLink RX9 16 "QuarterTurnsModel" "ways" "I") (by decide +kernel)
  have i9 : ∀ w ∈ wsX90, w ∈ wsX9_findRounds := fun w h => List.mem_cons_of_mem _ (List.mem_append_right _ h)
  have f51 := hts (.fieldLink RX9 51 "QuarterTurnsModel" "can" "[I") (by decide +kernel)
  have f26 := hts (.fieldLink RX9 26 "QuarterTurnsModel" "st" "[I") (by decide +kernel)
  have hfl := fullN_lt (W := Wy) (by omega)
  refine lv_iconst (v := zI 1) hx hb dX9_findRounds_0 rfl ?_
  refine lv_aload_n hx hb dX9_findRounds_1 rfl (lv_at hl 0 rfl) ?_
  refine va_get (ci := 9) (v := .int (zI Wy)) (C := RX9) (T := TX9) (N := 30) hx hb hts i9 hown hK hP 0 rfl rfl 2 (by decide) f16 (fun _ h9 => h9) rfl dX9_findRounds_2 ?_
  refine z_shl1 hx hb (by omega) dX9_findRounds_5 ?_
  refine lv_iconst (v := zI 1) hx hb dX9_findRounds_6 rfl ?_
  refine z_isub hx hb dX9_findRounds_7 ?_
  refine z_top (fullN_eq Wy) ?_
  refine lv_istore_n (lv' := [(2, .int (zI ((fullN Wy : Nat) : Int))), (0, .ref hm0), (1, .int (zI set))]) hx hb dX9_findRounds_8 rfl hl (by decide) rfl (fun ls hl => ?_)
  have loop9 : ∀ (n_ : Nat) (ma : Int) (g : Int → Int) (H : Heap) (locs : List Loc) (ls : Array Slot), (0 ≤ ma ∧ ma ≤ ((fullN Wy : Nat) : Int)) → (frT S Wy set.toNat (sf 1) g ma) → (∀ i : Int, 0 ≤ i → i < 4096 → 0 ≤ g i ∧ g i < 4096) → ma.toNat < n_ → kP G [(hm0, .inr (9, [.int (zI S), .int (zI C), .int (zI Wy), .int (zI Li), .ref ml, .ref ms, .ref mw, .int (zI kn), .ref mi, .ref mk, .int (zI hz), .ref mh, .long tr, .ref mt, .int (zI tn), .int (zI cu), .int (zI sa), .int (zI to), .int (zI nu), .int (zI wr), .int (zI it), .int (zI sS), .int (zI sC), .int (zI sL), .int (zI sW), .ref mq, .ref mn, .ref mc, .ref mr, .ref mb])), (ms, .inl (G.2.1, 15, .inl (aZ sf))), (mc, .inl (G.2.1, 4096, .inl (aZ g)))] H → va_D A [(hm0, .inr (9, [.int (zI S), .int (zI C), .int (zI Wy), .int (zI Li), .ref ml, .ref ms, .ref mw, .int (zI kn), .ref mi, .ref mk, .int (zI hz), .ref mh, .long tr, .ref mt, .int (zI tn), .int (zI cu), .int (zI sa), .int (zI to), .int (zI nu), .int (zI wr), .int (zI it), .int (zI sS), .int (zI sC), .int (zI sL), .int (zI sW), .ref mq, .ref mn, .ref mc, .ref mr, .ref mb])), (ms, .inl (G.2.1, 15, .inl (aZ sf))), (mc, .inl (G.2.1, 4096, .inl (aZ g)))] → va_S A s.heap H locs → lv_has ls 6 [(2, .int (zI ma)), (0, .ref hm0), (1, .int (zI set))] → W p l e rmX9_findRounds s m ([.ref hm0, .int (zI set)] : List Value).toArray below meth c H locs 0 0 Q (F0 m 9 ls []) := by
    intro n_
    induction n_ with
    | zero =>
      intro ma g H locs ls hma hT hR hm
      exact absurd hm (Nat.not_lt_zero _)
    | succ n_ ih9 =>
      intro ma g H locs ls hma hT hR hm9 hP hD hS hl
      refine lv_iload_n hx hb dX9_findRounds_9 rfl (lv_at hl 0 rfl) ?_
      refine z_if_le (tgt := 121) hx hb (by omega) dX9_findRounds_10 (by decide) (fun c_1 => ?_) (fun c_1 => ?_)
      · exact hret H locs ls 121 (g) (by exact ⟨by rw [show ma = 0 by omega] at hT; exact hT, hR⟩) hP hS dX9_findRounds_121
      · refine lv_aload_n hx hb dX9_findRounds_13 rfl (lv_at hl 1 rfl) ?_
        refine va_get (ci := 9) (v := .ref mc) (C := RX9) (T := TX9) (N := 30) hx hb hts i9 hown hK hP 0 rfl rfl 27 (by decide) f51 (fun _ h9 => h9) rfl dX9_findRounds_14 ?_
        refine lv_iload_n hx hb dX9_findRounds_17 rfl (lv_at hl 0 rfl) ?_
        refine lv_iconst (v := zI 0) hx hb dX9_findRounds_18 rfl ?_
        refine z_iast (n := 4096) (f := g) (i := ma) (v := 0) hx hb hK hP hD hS 2 rfl (by omega) dX9_findRounds_19 (fun H locs hP hD hS => ?_)
        have hP : kP G [(hm0, .inr (9, [.int (zI S), .int (zI C), .int (zI Wy), .int (zI Li), .ref ml, .ref ms, .ref mw, .int (zI kn), .ref mi, .ref mk, .int (zI hz), .ref mh, .long tr, .ref mt, .int (zI tn), .int (zI cu), .int (zI sa), .int (zI to), .int (zI nu), .int (zI wr), .int (zI it), .int (zI sS), .int (zI sC), .int (zI sL), .int (zI sW), .ref mq, .ref mn, .ref mc, .ref mr, .ref mb])), (ms, .inl (G.2.1, 15, .inl (aZ sf))), (mc, .inl (G.2.1, 4096, .inl (aZ (uZ g ma 0))))] H := hP
        have hD : va_D A [(hm0, .inr (9, [.int (zI S), .int (zI C), .int (zI Wy), .int (zI Li), .ref ml, .ref ms, .ref mw, .int (zI kn), .ref mi, .ref mk, .int (zI hz), .ref mh, .long tr, .ref mt, .int (zI tn), .int (zI cu), .int (zI sa), .int (zI to), .int (zI nu), .int (zI wr), .int (zI it), .int (zI sS), .int (zI sC), .int (zI sL), .int (zI sW), .ref mq, .ref mn, .ref mc, .ref mr, .ref mb])), (ms, .inl (G.2.1, 15, .inl (aZ sf))), (mc, .inl (G.2.1, 4096, .inl (aZ (uZ g ma 0))))] := hD
        refine lv_iconst (v := zI 0) hx hb dX9_findRounds_20 rfl ?_
        refine lv_istore_n (lv' := [(3, .int (zI 0)), (2, .int (zI ma)), (0, .ref hm0), (1, .int (zI set))]) hx hb dX9_findRounds_21 rfl hl (by decide) rfl (fun ls hl => ?_)
        have loop22 : ∀ (n_ : Nat) (w : Int) (g2 : Int → Int) (acc : Nat) (H : Heap) (locs : List Loc) (ls : Array Slot), (0 ≤ w ∧ w ≤ Wy) → (g2 = uZ g ma ((acc : Nat) : Int)) → (acc < 4096) → (∀ j : Nat, acc.testBit j = (decide ((j : Int) < w) && (ma.toNat.testBit j && exM S Wy set.toNat (sf 1) (13 - cntN ma.toNat Wy.toNat) (j : Int) ma.toNat))) → (Wy - w).toNat < n_ → kP G [(hm0, .inr (9, [.int (zI S), .int (zI C), .int (zI Wy), .int (zI Li), .ref ml, .ref ms, .ref mw, .int (zI kn), .ref mi, .ref mk, .int (zI hz), .ref mh, .long tr, .ref mt, .int (zI tn), .int (zI cu), .int (zI sa), .int (zI to), .int (zI nu), .int (zI wr), .int (zI it), .int (zI sS), .int (zI sC), .int (zI sL), .int (zI sW), .ref mq, .ref mn, .ref mc, .ref mr, .ref mb])), (ms, .inl (G.2.1, 15, .inl (aZ sf))), (mc, .inl (G.2.1, 4096, .inl (aZ g2)))] H → va_D A [(hm0, .inr (9, [.int (zI S), .int (zI C), .int (zI Wy), .int (zI Li), .ref ml, .ref ms, .ref mw, .int (zI kn), .ref mi, .ref mk, .int (zI hz), .ref mh, .long tr, .ref mt, .int (zI tn), .int (zI cu), .int (zI sa), .int (zI to), .int (zI nu), .int (zI wr), .int (zI it), .int (zI sS), .int (zI sC), .int (zI sL), .int (zI sW), .ref mq, .ref mn, .ref mc, .ref mr, .ref mb])), (ms, .inl (G.2.1, 15, .inl (aZ sf))), (mc, .inl (G.2.1, 4096, .inl (aZ g2)))] → va_S A s.heap H locs → lv_has ls 6 [(3, .int (zI w)), (2, .int (zI ma)), (0, .ref hm0), (1, .int (zI set))] → W p l e rmX9_findRounds s m ([.ref hm0, .int (zI set)] : List Value).toArray below meth c H locs 0 0 Q (F0 m 22 ls []) := by
          intro n_
          induction n_ with
          | zero =>
            intro w g2 acc H locs ls hw hg2 hacc hbt hm
            exact absurd hm (Nat.not_lt_zero _)
          | succ n_ ih22 =>
            intro w g2 acc H locs ls hw hg2 hacc hbt hm22 hP hD hS hl
            refine lv_iload_n hx hb dX9_findRounds_22 rfl (lv_at hl 0 rfl) ?_
            refine lv_aload_n hx hb dX9_findRounds_23 rfl (lv_at hl 2 rfl) ?_
            refine va_get (ci := 9) (v := .int (zI Wy)) (C := RX9) (T := TX9) (N := 30) hx hb hts i9 hown hK hP 0 rfl rfl 2 (by decide) f16 (fun _ h9 => h9) rfl dX9_findRounds_24 ?_
            refine z_icmp_ge (tgt := 115) hx hb (by omega) dX9_findRounds_27 (by decide) (fun c_2 => ?_) (fun c_2 => ?_)
            · refine lv_iinc (v := zI (ma + (-1))) (lv' := [(2, .int (zI (ma + (-1)))), (3, .int (zI w)), (0, .ref hm0), (1, .int (zI set))]) hx hb dX9_findRounds_115 hl (k := 1) rfl (zI_add _ _) (by decide) rfl (fun ls hl => ?_)
              refine lv_goto (tgt := 9) hx hb dX9_findRounds_118 (by decide) ?_
              exact ih9 (ma + -1) g2 H locs ls (by omega) (by exact fr_step hma.1 hT hg2 hbt (by first | exact Or.inl (by omega) | exact Or.inr (by assumption))) (by intro i h1 h2; rw [hg2]; have h9 := hR i h1 h2; unfold uZ; split <;> omega) (by omega) hP hD hS (lv_sub hl [0, 2, 3] rfl)
            · refine lv_iload_n hx hb dX9_findRounds_30 rfl (lv_at hl 1 rfl) ?_
              refine lv_aload_n hx hb dX9_findRounds_31 rfl (lv_at hl 2 rfl) ?_
              refine va_get (ci := 9) (v := .ref ms) (C := RX9) (T := TX9) (N := 30) hx hb hts i9 hown hK hP 0 rfl rfl 5 (by decide) f26 (fun _ h9 => h9) rfl dX9_findRounds_32 ?_
              refine lv_iconst (v := zI 1) hx hb dX9_findRounds_35 rfl ?_
              refine z_iald (n := 15) (f := sf) hx hb hK hP 1 rfl (by omega) dX9_findRounds_36 ?_
              refine z_cS (As := [.int (zI ma), .int (zI (sf 1))]) (rest := []) ⟨hx, hb, hml, hown, hts⟩ (c_X9_has l G ma (sf 1) (by first | assumption | omega) (by first | assumption | omega)) (va_cwS 2 hts gX9_findRounds_X9_has rfl rfl rfl pd_X9_has.2 ⟨(Nat.le_of_ble_eq_true rfl), (Nat.le_of_ble_eq_true rfl)⟩) hK hP hS [] rfl rfl hl.1 rfl (Nat.le_of_ble_eq_true rfl) dX9_findRounds_37 ⟨Nat.zero_le _, Nat.zero_le _⟩ (fun H locs hP hS => ?_)
              refine z_ifeq_b (tgt := 115) hx hb dX9_findRounds_40 (by decide) (fun c_3 => ?_) (fun c_3 => ?_)
              · refine lv_iinc (v := zI (ma + (-1))) (lv' := [(2, .int (zI (ma + (-1)))), (3, .int (zI w)), (0, .ref hm0), (1, .int (zI set))]) hx hb dX9_findRounds_115 hl (k := 1) rfl (zI_add _ _) (by decide) rfl (fun ls hl => ?_)
                refine lv_goto (tgt := 9) hx hb dX9_findRounds_118 (by decide) ?_
                exact ih9 (ma + -1) g2 H locs ls (by omega) (by exact fr_step hma.1 hT hg2 hbt (by first | exact Or.inl (by omega) | exact Or.inr (by assumption))) (by intro i h1 h2; rw [hg2]; have h9 := hR i h1 h2; unfold uZ; split <;> omega) (by omega) hP hD hS (lv_sub hl [0, 2, 3] rfl)
              · refine lv_iconst (v := zI 0) hx hb dX9_findRounds_43 rfl ?_
                refine lv_istore (lv' := [(4, .int (zI 0)), (3, .int (zI w)), (2, .int (zI ma)), (0, .ref hm0), (1, .int (zI set))]) hx hb dX9_findRounds_44 hl (by decide) rfl (fun ls hl => ?_)
                refine lv_iconst (v := zI 0) hx hb dX9_findRounds_46 rfl ?_
                refine lv_istore (lv' := [(5, .int (zI 0)), (4, .int (zI 0)), (3, .int (zI w)), (2, .int (zI ma)), (0, .ref hm0), (1, .int (zI set))]) hx hb dX9_findRounds_47 hl (by decide) rfl (fun ls hl => ?_)
                have loop49 : ∀ (n_ : Nat) (t : Int) (is1 : Int) (H : Heap) (locs : List Loc) (ls : Array Slot), (0 ≤ t ∧ t ≤ Wy) → ((is1 = 1 ∧ ma.toNat.testBit w.toNat = true ∧ anyN (okM S Wy set.toNat (sf 1) (exM S Wy set.toNat (sf 1) (12 - cntN ma.toNat Wy.toNat)) w ma.toNat) t.toNat = true) ∨ (is1 = 0 ∧ anyN (okM S Wy set.toNat (sf 1) (exM S Wy set.toNat (sf 1) (12 - cntN ma.toNat Wy.toNat)) w ma.toNat) t.toNat = false)) → (Wy - t).toNat < n_ → kP G [(hm0, .inr (9, [.int (zI S), .int (zI C), .int (zI Wy), .int (zI Li), .ref ml, .ref ms, .ref mw, .int (zI kn), .ref mi, .ref mk, .int (zI hz), .ref mh, .long tr, .ref mt, .int (zI tn), .int (zI cu), .int (zI sa), .int (zI to), .int (zI nu), .int (zI wr), .int (zI it), .int (zI sS), .int (zI sC), .int (zI sL), .int (zI sW), .ref mq, .ref mn, .ref mc, .ref mr, .ref mb])), (ms, .inl (G.2.1, 15, .inl (aZ sf))), (mc, .inl (G.2.1, 4096, .inl (aZ g2)))] H → va_D A [(hm0, .inr (9, [.int (zI S), .int (zI C), .int (zI Wy), .int (zI Li), .ref ml, .ref ms, .ref mw, .int (zI kn), .ref mi, .ref mk, .int (zI hz), .ref mh, .long tr, .ref mt, .int (zI tn), .int (zI cu), .int (zI sa), .int (zI to), .int (zI nu), .int (zI wr), .int (zI it), .int (zI sS), .int (zI sC), .int (zI sL), .int (zI sW), .ref mq, .ref mn, .ref mc, .ref mr, .ref mb])), (ms, .inl (G.2.1, 15, .inl (aZ sf))), (mc, .inl (G.2.1, 4096, .inl (aZ g2)))] → va_S A s.heap H locs → lv_has ls 6 [(5, .int (zI t)), (4, .int (zI is1)), (3, .int (zI w)), (2, .int (zI ma)), (0, .ref hm0), (1, .int (zI set))] → W p l e rmX9_findRounds s m ([.ref hm0, .int (zI set)] : List Value).toArray below meth c H locs 0 0 Q (F0 m 49 ls []) := by
                  intro n_
                  induction n_ with
                  | zero =>
                    intro t is1 H locs ls ht his hm
                    exact absurd hm (Nat.not_lt_zero _)
                  | succ n_ ih49 =>
                    intro t is1 H locs ls ht his hm49 hP hD hS hl
                    refine lv_iload hx hb dX9_findRounds_49 (lv_at hl 0 rfl) ?_
                    refine lv_aload_n hx hb dX9_findRounds_51 rfl (lv_at hl 4 rfl) ?_
                    refine va_get (ci := 9) (v := .int (zI Wy)) (C := RX9) (T := TX9) (N := 30) hx hb hts i9 hown hK hP 0 rfl rfl 2 (by decide) f16 (fun _ h9 => h9) rfl dX9_findRounds_52 ?_
                    refine z_icmp_ge (tgt := 88) hx hb (by omega) dX9_findRounds_55 (by decide) (fun c_4 => ?_) (fun c_4 => ?_)
                    · have hcl := cntN_le ma.toNat Wy.toNat
                      have hbw := bw_of (ex := exM S Wy set.toNat (sf 1) (13 - cntN ma.toNat Wy.toNat) w ma.toNat) (show _ = _ by rw [show 13 - cntN ma.toNat Wy.toNat = (12 - cntN ma.toNat Wy.toNat) + 1 by omega]; rfl) ht his (by first | exact Or.inl (by omega) | exact Or.inr (Or.inl (by assumption)) | exact Or.inr (Or.inr (by omega)))
                      refine lv_aload_n hx hb dX9_findRounds_88 rfl (lv_at hl 4 rfl) ?_
                      refine va_get (ci := 9) (v := .ref mc) (C := RX9) (T := TX9) (N := 30) hx hb hts i9 hown hK hP 0 rfl rfl 27 (by decide) f51 (fun _ h9 => h9) rfl dX9_findRounds_89 ?_
                      refine lv_iload_n hx hb dX9_findRounds_92 rfl (lv_at hl 3 rfl) ?_
                      refine lv_dup2_11 hx hb dX9_findRounds_93 rfl rfl ?_
                      refine z_iald (n := 4096) (f := g2) hx hb hK hP 2 rfl (by omega) dX9_findRounds_94 ?_
                      refine z_top (show g2 ma = ((acc : Nat) : Int) by rw [hg2, uZ_same]) ?_
                      refine lv_iload hx hb dX9_findRounds_95 (lv_at hl 1 rfl) ?_
                      refine z_if_eq (tgt := 106) hx hb (by omega) dX9_findRounds_97 (by decide) (fun c_5 => ?_) (fun c_5 => ?_)
                      · refine lv_iconst (v := zI 0) hx hb dX9_findRounds_106 rfl ?_
                        refine z_ior (a := acc) (b := 0) hx hb dX9_findRounds_107 ?_
                        refine z_iast (n := 4096) (f := g2) (i := ma) (v := ((acc ||| 0 : Nat) : Int)) hx hb hK hP hD hS 2 rfl (by omega) dX9_findRounds_108 (fun H locs hP hD hS => ?_)
                        have hP : kP G [(hm0, .inr (9, [.int (zI S), .int (zI C), .int (zI Wy), .int (zI Li), .ref ml, .ref ms, .ref mw, .int (zI kn), .ref mi, .ref mk, .int (zI hz), .ref mh, .long tr, .ref mt, .int (zI tn), .int (zI cu), .int (zI sa), .int (zI to), .int (zI nu), .int (zI wr), .int (zI it), .int (zI sS), .int (zI sC), .int (zI sL), .int (zI sW), .ref mq, .ref mn, .ref mc, .ref mr, .ref mb])), (ms, .inl (G.2.1, 15, .inl (aZ sf))), (mc, .inl (G.2.1, 4096, .inl (aZ (uZ g2 ma ((acc ||| 0 : Nat) : Int)))))] H := hP
                        have hD : va_D A [(hm0, .inr (9, [.int (zI S), .int (zI C), .int (zI Wy), .int (zI Li), .ref ml, .ref ms, .ref mw, .int (zI kn), .ref mi, .ref mk, .int (zI hz), .ref mh, .long tr, .ref mt, .int (zI tn), .int (zI cu), .int (zI sa), .int (zI to), .int (zI nu), .int (zI wr), .int (zI it), .int (zI sS), .int (zI sC), .int (zI sL), .int (zI sW), .ref mq, .ref mn, .ref mc, .ref mr, .ref mb])), (ms, .inl (G.2.1, 15, .inl (aZ sf))), (mc, .inl (G.2.1, 4096, .inl (aZ (uZ g2 ma ((acc ||| 0 : Nat) : Int)))))] := hD
                        refine lv_iinc (v := zI (w + 1)) (lv' := [(3, .int (zI (w + 1))), (5, .int (zI t)), (4, .int (zI is1)), (2, .int (zI ma)), (0, .ref hm0), (1, .int (zI set))]) hx hb dX9_findRounds_109 hl (k := 2) rfl (zI_add _ _) (by decide) rfl (fun ls hl => ?_)
                        refine lv_goto (tgt := 22) hx hb dX9_findRounds_112 (by decide) ?_
                        exact ih22 (w + 1) (uZ g2 ma ((acc ||| 0 : Nat) : Int)) (acc ||| 0) H locs ls (by omega) (by rw [hg2, uZ_uZ]) (by first | exact or_lt hacc (bit_lt (by omega)) | exact or_lt hacc (by omega)) (by exact bt_step (q := fun j => ma.toNat.testBit j && exM S Wy set.toNat (sf 1) (13 - cntN ma.toNat Wy.toNat) (j : Int) ma.toNat) hw.1 hbt (by rcases hbw with ⟨h8, h9⟩ | ⟨h8, h9⟩ <;> first | (exfalso; omega) | exact Or.inl ⟨rfl, by show (_ && exM _ _ _ _ _ ((w.toNat : Nat) : Int) _) = true; rw [Int.toNat_of_nonneg hw.1]; exact h9⟩ | exact Or.inr ⟨rfl, by show (_ && exM _ _ _ _ _ ((w.toNat : Nat) : Int) _) = false; rw [Int.toNat_of_nonneg hw.1]; exact h9⟩)) (by omega) hP hD hS (lv_sub hl [0, 3, 4, 5] rfl)
                      · refine lv_iconst (v := zI 1) hx hb dX9_findRounds_100 rfl ?_
                        refine lv_iload_n hx hb dX9_findRounds_101 rfl (lv_at hl 2 rfl) ?_
                        refine z_shl1 hx hb (by omega) dX9_findRounds_102 ?_
                        refine lv_goto (tgt := 107) hx hb dX9_findRounds_103 (by decide) ?_
                        refine z_ior (a := acc) (b := (2 ^ w.toNat)) hx hb dX9_findRounds_107 ?_
                        refine z_iast (n := 4096) (f := g2) (i := ma) (v := ((acc ||| (2 ^ w.toNat) : Nat) : Int)) hx hb hK hP hD hS 2 rfl (by omega) dX9_findRounds_108 (fun H locs hP hD hS => ?_)
                        have hP : kP G [(hm0, .inr (9, [.int (zI S), .int (zI C), .int (zI Wy), .int (zI Li), .ref ml, .ref ms, .ref mw, .int (zI kn), .ref mi, .ref mk, .int (zI hz), .ref mh, .long tr, .ref mt, .int (zI tn), .int (zI cu), .int (zI sa), .int (zI to), .int (zI nu), .int (zI wr), .int (zI it), .int (zI sS), .int (zI sC), .int (zI sL), .int (zI sW), .ref mq, .ref mn, .ref mc, .ref mr, .ref mb])), (ms, .inl (G.2.1, 15, .inl (aZ sf))), (mc, .inl (G.2.1, 4096, .inl (aZ (uZ g2 ma ((acc ||| (2 ^ w.toNat) : Nat) : Int)))))] H := hP
                        have hD : va_D A [(hm0, .inr (9, [.int (zI S), .int (zI C), .int (zI Wy), .int (zI Li), .ref ml, .ref ms, .ref mw, .int (zI kn), .ref mi, .ref mk, .int (zI hz), .ref mh, .long tr, .ref mt, .int (zI tn), .int (zI cu), .int (zI sa), .int (zI to), .int (zI nu), .int (zI wr), .int (zI it), .int (zI sS), .int (zI sC), .int (zI sL), .int (zI sW), .ref mq, .ref mn, .ref mc, .ref mr, .ref mb])), (ms, .inl (G.2.1, 15, .inl (aZ sf))), (mc, .inl (G.2.1, 4096, .inl (aZ (uZ g2 ma ((acc ||| (2 ^ w.toNat) : Nat) : Int)))))] := hD
                        refine lv_iinc (v := zI (w + 1)) (lv' := [(3, .int (zI (w + 1))), (5, .int (zI t)), (4, .int (zI is1)), (2, .int (zI ma)), (0, .ref hm0), (1, .int (zI set))]) hx hb dX9_findRounds_109 hl (k := 2) rfl (zI_add _ _) (by decide) rfl (fun ls hl => ?_)
                        refine lv_goto (tgt := 22) hx hb dX9_findRounds_112 (by decide) ?_
                        exact ih22 (w + 1) (uZ g2 ma ((acc ||| (2 ^ w.toNat) : Nat) : Int)) (acc ||| (2 ^ w.toNat)) H locs ls (by omega) (by rw [hg2, uZ_uZ]) (by first | exact or_lt hacc (bit_lt (by omega)) | exact or_lt hacc (by omega)) (by exact bt_step (q := fun j => ma.toNat.testBit j && exM S Wy set.toNat (sf 1) (13 - cntN ma.toNat Wy.toNat) (j : Int) ma.toNat) hw.1 hbt (by rcases hbw with ⟨h8, h9⟩ | ⟨h8, h9⟩ <;> first | (exfalso; omega) | exact Or.inl ⟨rfl, by show (_ && exM _ _ _ _ _ ((w.toNat : Nat) : Int) _) = true; rw [Int.toNat_of_nonneg hw.1]; exact h9⟩ | exact Or.inr ⟨rfl, by show (_ && exM _ _ _ _ _ ((w.toNat : Nat) : Int) _) = false; rw [Int.toNat_of_nonneg hw.1]; exact h9⟩)) (by omega) hP hD hS (lv_sub hl [0, 3, 4, 5] rfl)
                    · refine lv_iload_n hx hb dX9_findRounds_58 rfl (lv_at hl 3 rfl) ?_
                      refine lv_iload_n hx hb dX9_findRounds_59 rfl (lv_at hl 2 rfl) ?_
                      refine z_cS (As := [.int (zI ma), .int (zI w)]) (rest := []) ⟨hx, hb, hml, hown, hts⟩ (c_X9_has l G ma w (by first | assumption | omega) (by first | assumption | omega)) (va_cwS 2 hts gX9_findRounds_X9_has rfl rfl rfl pd_X9_has.2 ⟨(Nat.le_of_ble_eq_true rfl), (Nat.le_of_ble_eq_true rfl)⟩) hK hP hS [] rfl rfl hl.1 rfl (Nat.le_of_ble_eq_true rfl) dX9_findRounds_60 ⟨Nat.zero_le _, Nat.zero_le _⟩ (fun H locs hP hS => ?_)
                      refine z_ifeq_b (tgt := 88) hx hb dX9_findRounds_63 (by decide) (fun c_6 => ?_) (fun c_6 => ?_)
                      · have hcl := cntN_le ma.toNat Wy.toNat
                        have hbw := bw_of (ex := exM S Wy set.toNat (sf 1) (13 - cntN ma.toNat Wy.toNat) w ma.toNat) (show _ = _ by rw [show 13 - cntN ma.toNat Wy.toNat = (12 - cntN ma.toNat Wy.toNat) + 1 by omega]; rfl) ht his (by first | exact Or.inl (by omega) | exact Or.inr (Or.inl (by assumption)) | exact Or.inr (Or.inr (by omega)))
                        refine lv_aload_n hx hb dX9_findRounds_88 rfl (lv_at hl 4 rfl) ?_
                        refine va_get (ci := 9) (v := .ref mc) (C := RX9) (T := TX9) (N := 30) hx hb hts i9 hown hK hP 0 rfl rfl 27 (by decide) f51 (fun _ h9 => h9) rfl dX9_findRounds_89 ?_
                        refine lv_iload_n hx hb dX9_findRounds_92 rfl (lv_at hl 3 rfl) ?_
                        refine lv_dup2_11 hx hb dX9_findRounds_93 rfl rfl ?_
                        refine z_iald (n := 4096) (f := g2) hx hb hK hP 2 rfl (by omega) dX9_findRounds_94 ?_
                        refine z_top (show g2 ma = ((acc : Nat) : Int) by rw [hg2, uZ_same]) ?_
                        refine lv_iload hx hb dX9_findRounds_95 (lv_at hl 1 rfl) ?_
                        refine z_if_eq (tgt := 106) hx hb (by omega) dX9_findRounds_97 (by decide) (fun c_7 => ?_) (fun c_7 => ?_)
                        · refine lv_iconst (v := zI 0) hx hb dX9_findRounds_106 rfl ?_
                          refine z_ior (a := acc) (b := 0) hx hb dX9_findRounds_107 ?_
                          refine z_iast (n := 4096) (f := g2) (i := ma) (v := ((acc ||| 0 : Nat) : Int)) hx hb hK hP hD hS 2 rfl (by omega) dX9_findRounds_108 (fun H locs hP hD hS => ?_)
                          have hP : kP G [(hm0, .inr (9, [.int (zI S), .int (zI C), .int (zI Wy), .int (zI Li), .ref ml, .ref ms, .ref mw, .int (zI kn), .ref mi, .ref mk, .int (zI hz), .ref mh, .long tr, .ref mt, .int (zI tn), .int (zI cu), .int (zI sa), .int (zI to), .int (zI nu), .int (zI wr), .int (zI it), .int (zI sS), .int (zI sC), .int (zI sL), .int (zI sW), .ref mq, .ref mn, .ref mc, .ref mr, .ref mb])), (ms, .inl (G.2.1, 15, .inl (aZ sf))), (mc, .inl (G.2.1, 4096, .inl (aZ (uZ g2 ma ((acc ||| 0 : Nat) : Int)))))] H := hP
                          have hD : va_D A [(hm0, .inr (9, [.int (zI S), .int (zI C), .int (zI Wy), .int (zI Li), .ref ml, .ref ms, .ref mw, .int (zI kn), .ref mi, .ref mk, .int (zI hz), .ref mh, .long tr, .ref mt, .int (zI tn), .int (zI cu), .int (zI sa), .int (zI to), .int (zI nu), .int (zI wr), .int (zI it), .int (zI sS), .int (zI sC), .int (zI sL), .int (zI sW), .ref mq, .ref mn, .ref mc, .ref mr, .ref mb])), (ms, .inl (G.2.1, 15, .inl (aZ sf))), (mc, .inl (G.2.1, 4096, .inl (aZ (uZ g2 ma ((acc ||| 0 : Nat) : Int)))))] := hD
                          refine lv_iinc (v := zI (w + 1)) (lv' := [(3, .int (zI (w + 1))), (5, .int (zI t)), (4, .int (zI is1)), (2, .int (zI ma)), (0, .ref hm0), (1, .int (zI set))]) hx hb dX9_findRounds_109 hl (k := 2) rfl (zI_add _ _) (by decide) rfl (fun ls hl => ?_)
                          refine lv_goto (tgt := 22) hx hb dX9_findRounds_112 (by decide) ?_
                          exact ih22 (w + 1) (uZ g2 ma ((acc ||| 0 : Nat) : Int)) (acc ||| 0) H locs ls (by omega) (by rw [hg2, uZ_uZ]) (by first | exact or_lt hacc (bit_lt (by omega)) | exact or_lt hacc (by omega)) (by exact bt_step (q := fun j => ma.toNat.testBit j && exM S Wy set.toNat (sf 1) (13 - cntN ma.toNat Wy.toNat) (j : Int) ma.toNat) hw.1 hbt (by rcases hbw with ⟨h8, h9⟩ | ⟨h8, h9⟩ <;> first | (exfalso; omega) | exact Or.inl ⟨rfl, by show (_ && exM _ _ _ _ _ ((w.toNat : Nat) : Int) _) = true; rw [Int.toNat_of_nonneg hw.1]; exact h9⟩ | exact Or.inr ⟨rfl, by show (_ && exM _ _ _ _ _ ((w.toNat : Nat) : Int) _) = false; rw [Int.toNat_of_nonneg hw.1]; exact h9⟩)) (by omega) hP hD hS (lv_sub hl [0, 3, 4, 5] rfl)
                        · refine lv_iconst (v := zI 1) hx hb dX9_findRounds_100 rfl ?_
                          refine lv_iload_n hx hb dX9_findRounds_101 rfl (lv_at hl 2 rfl) ?_
                          refine z_shl1 hx hb (by omega) dX9_findRounds_102 ?_
                          refine lv_goto (tgt := 107) hx hb dX9_findRounds_103 (by decide) ?_
                          refine z_ior (a := acc) (b := (2 ^ w.toNat)) hx hb dX9_findRounds_107 ?_
                          refine z_iast (n := 4096) (f := g2) (i := ma) (v := ((acc ||| (2 ^ w.toNat) : Nat) : Int)) hx hb hK hP hD hS 2 rfl (by omega) dX9_findRounds_108 (fun H locs hP hD hS => ?_)
                          have hP : kP G [(hm0, .inr (9, [.int (zI S), .int (zI C), .int (zI Wy), .int (zI Li), .ref ml, .ref ms, .ref mw, .int (zI kn), .ref mi, .ref mk, .int (zI hz), .ref mh, .long tr, .ref mt, .int (zI tn), .int (zI cu), .int (zI sa), .int (zI to), .int (zI nu), .int (zI wr), .int (zI it), .int (zI sS), .int (zI sC), .int (zI sL), .int (zI sW), .ref mq, .ref mn, .ref mc, .ref mr, .ref mb])), (ms, .inl (G.2.1, 15, .inl (aZ sf))), (mc, .inl (G.2.1, 4096, .inl (aZ (uZ g2 ma ((acc ||| (2 ^ w.toNat) : Nat) : Int)))))] H := hP
                          have hD : va_D A [(hm0, .inr (9, [.int (zI S), .int (zI C), .int (zI Wy), .int (zI Li), .ref ml, .ref ms, .ref mw, .int (zI kn), .ref mi, .ref mk, .int (zI hz), .ref mh, .long tr, .ref mt, .int (zI tn), .int (zI cu), .int (zI sa), .int (zI to), .int (zI nu), .int (zI wr), .int (zI it), .int (zI sS), .int (zI sC), .int (zI sL), .int (zI sW), .ref mq, .ref mn, .ref mc, .ref mr, .ref mb])), (ms, .inl (G.2.1, 15, .inl (aZ sf))), (mc, .inl (G.2.1, 4096, .inl (aZ (uZ g2 ma ((acc ||| (2 ^ w.toNat) : Nat) : Int)))))] := hD
                          refine lv_iinc (v := zI (w + 1)) (lv' := [(3, .int (zI (w + 1))), (5, .int (zI t)), (4, .int (zI is1)), (2, .int (zI ma)), (0, .ref hm0), (1, .int (zI set))]) hx hb dX9_findRounds_109 hl (k := 2) rfl (zI_add _ _) (by decide) rfl (fun ls hl => ?_)
                          refine lv_goto (tgt := 22) hx hb dX9_findRounds_112 (by decide) ?_
                          exact ih22 (w + 1) (uZ g2 ma ((acc ||| (2 ^ w.toNat) : Nat) : Int)) (acc ||| (2 ^ w.toNat)) H locs ls (by omega) (by rw [hg2, uZ_uZ]) (by first | exact or_lt hacc (bit_lt (by omega)) | exact or_lt hacc (by omega)) (by exact bt_step (q := fun j => ma.toNat.testBit j && exM S Wy set.toNat (sf 1) (13 - cntN ma.toNat Wy.toNat) (j : Int) ma.toNat) hw.1 hbt (by rcases hbw with ⟨h8, h9⟩ | ⟨h8, h9⟩ <;> first | (exfalso; omega) | exact Or.inl ⟨rfl, by show (_ && exM _ _ _ _ _ ((w.toNat : Nat) : Int) _) = true; rw [Int.toNat_of_nonneg hw.1]; exact h9⟩ | exact Or.inr ⟨rfl, by show (_ && exM _ _ _ _ _ ((w.toNat : Nat) : Int) _) = false; rw [Int.toNat_of_nonneg hw.1]; exact h9⟩)) (by omega) hP hD hS (lv_sub hl [0, 3, 4, 5] rfl)
                      · refine lv_iload hx hb dX9_findRounds_66 (lv_at hl 1 rfl) ?_
                        refine z_if_ne (tgt := 88) hx hb (by omega) dX9_findRounds_68 (by decide) (fun c_8 => ?_) (fun c_8 => ?_)
                        · have hcl := cntN_le ma.toNat Wy.toNat
                          have hbw := bw_of (ex := exM S Wy set.toNat (sf 1) (13 - cntN ma.toNat Wy.toNat) w ma.toNat) (show _ = _ by rw [show 13 - cntN ma.toNat Wy.toNat = (12 - cntN ma.toNat Wy.toNat) + 1 by omega]; rfl) ht his (by first | exact Or.inl (by omega) | exact Or.inr (Or.inl (by assumption)) | exact Or.inr (Or.inr (by omega)))
                          refine lv_aload_n hx hb dX9_findRounds_88 rfl (lv_at hl 4 rfl) ?_
                          refine va_get (ci := 9) (v := .ref mc) (C := RX9) (T := TX9) (N := 30) hx hb hts i9 hown hK hP 0 rfl rfl 27 (by decide) f51 (fun _ h9 => h9) rfl dX9_findRounds_89 ?_
                          refine lv_iload_n hx hb dX9_findRounds_92 rfl (lv_at hl 3 rfl) ?_
                          refine lv_dup2_11 hx hb dX9_findRounds_93 rfl rfl ?_
                          refine z_iald (n := 4096) (f := g2) hx hb hK hP 2 rfl (by omega) dX9_findRounds_94 ?_
                          refine z_top (show g2 ma = ((acc : Nat) : Int) by rw [hg2, uZ_same]) ?_
                          refine lv_iload hx hb dX9_findRounds_95 (lv_at hl 1 rfl) ?_
                          refine z_if_eq (tgt := 106) hx hb (by omega) dX9_findRounds_97 (by decide) (fun c_9 => ?_) (fun c_9 => ?_)
                          · refine lv_iconst (v := zI 0) hx hb dX9_findRounds_106 rfl ?_
                            refine z_ior (a := acc) (b := 0) hx hb dX9_findRounds_107 ?_
                            refine z_iast (n := 4096) (f := g2) (i := ma) (v := ((acc ||| 0 : Nat) : Int)) hx hb hK hP hD hS 2 rfl (by omega) dX9_findRounds_108 (fun H locs hP hD hS => ?_)
                            have hP : kP G [(hm0, .inr (9, [.int (zI S), .int (zI C), .int (zI Wy), .int (zI Li), .ref ml, .ref ms, .ref mw, .int (zI kn), .ref mi, .ref mk, .int (zI hz), .ref mh, .long tr, .ref mt, .int (zI tn), .int (zI cu), .int (zI sa), .int (zI to), .int (zI nu), .int (zI wr), .int (zI it), .int (zI sS), .int (zI sC), .int (zI sL), .int (zI sW), .ref mq, .ref mn, .ref mc, .ref mr, .ref mb])), (ms, .inl (G.2.1, 15, .inl (aZ sf))), (mc, .inl (G.2.1, 4096, .inl (aZ (uZ g2 ma ((acc ||| 0 : Nat) : Int)))))] H := hP
                            have hD : va_D A [(hm0, .inr (9, [.int (zI S), .int (zI C), .int (zI Wy), .int (zI Li), .ref ml, .ref ms, .ref mw, .int (zI kn), .ref mi, .ref mk, .int (zI hz), .ref mh, .long tr, .ref mt, .int (zI tn), .int (zI cu), .int (zI sa), .int (zI to), .int (zI nu), .int (zI wr), .int (zI it), .int (zI sS), .int (zI sC), .int (zI sL), .int (zI sW), .ref mq, .ref mn, .ref mc, .ref mr, .ref mb])), (ms, .inl (G.2.1, 15, .inl (aZ sf))), (mc, .inl (G.2.1, 4096, .inl (aZ (uZ g2 ma ((acc ||| 0 : Nat) : Int)))))] := hD
                            refine lv_iinc (v := zI (w + 1)) (lv' := [(3, .int (zI (w + 1))), (5, .int (zI t)), (4, .int (zI is1)), (2, .int (zI ma)), (0, .ref hm0), (1, .int (zI set))]) hx hb dX9_findRounds_109 hl (k := 2) rfl (zI_add _ _) (by decide) rfl (fun ls hl => ?_)
                            refine lv_goto (tgt := 22) hx hb dX9_findRounds_112 (by decide) ?_
                            exact ih22 (w + 1) (uZ g2 ma ((acc ||| 0 : Nat) : Int)) (acc ||| 0) H locs ls (by omega) (by rw [hg2, uZ_uZ]) (by first | exact or_lt hacc (bit_lt (by omega)) | exact or_lt hacc (by omega)) (by exact bt_step (q := fun j => ma.toNat.testBit j && exM S Wy set.toNat (sf 1) (13 - cntN ma.toNat Wy.toNat) (j : Int) ma.toNat) hw.1 hbt (by rcases hbw with ⟨h8, h9⟩ | ⟨h8, h9⟩ <;> first | (exfalso; omega) | exact Or.inl ⟨rfl, by show (_ && exM _ _ _ _ _ ((w.toNat : Nat) : Int) _) = true; rw [Int.toNat_of_nonneg hw.1]; exact h9⟩ | exact Or.inr ⟨rfl, by show (_ && exM _ _ _ _ _ ((w.toNat : Nat) : Int) _) = false; rw [Int.toNat_of_nonneg hw.1]; exact h9⟩)) (by omega) hP hD hS (lv_sub hl [0, 3, 4, 5] rfl)
                          · refine lv_iconst (v := zI 1) hx hb dX9_findRounds_100 rfl ?_
                            refine lv_iload_n hx hb dX9_findRounds_101 rfl (lv_at hl 2 rfl) ?_
                            refine z_shl1 hx hb (by omega) dX9_findRounds_102 ?_
                            refine lv_goto (tgt := 107) hx hb dX9_findRounds_103 (by decide) ?_
                            refine z_ior (a := acc) (b := (2 ^ w.toNat)) hx hb dX9_findRounds_107 ?_
                            refine z_iast (n := 4096) (f := g2) (i := ma) (v := ((acc ||| (2 ^ w.toNat) : Nat) : Int)) hx hb hK hP hD hS 2 rfl (by omega) dX9_findRounds_108 (fun H locs hP hD hS => ?_)
                            have hP : kP G [(hm0, .inr (9, [.int (zI S), .int (zI C), .int (zI Wy), .int (zI Li), .ref ml, .ref ms, .ref mw, .int (zI kn), .ref mi, .ref mk, .int (zI hz), .ref mh, .long tr, .ref mt, .int (zI tn), .int (zI cu), .int (zI sa), .int (zI to), .int (zI nu), .int (zI wr), .int (zI it), .int (zI sS), .int (zI sC), .int (zI sL), .int (zI sW), .ref mq, .ref mn, .ref mc, .ref mr, .ref mb])), (ms, .inl (G.2.1, 15, .inl (aZ sf))), (mc, .inl (G.2.1, 4096, .inl (aZ (uZ g2 ma ((acc ||| (2 ^ w.toNat) : Nat) : Int)))))] H := hP
                            have hD : va_D A [(hm0, .inr (9, [.int (zI S), .int (zI C), .int (zI Wy), .int (zI Li), .ref ml, .ref ms, .ref mw, .int (zI kn), .ref mi, .ref mk, .int (zI hz), .ref mh, .long tr, .ref mt, .int (zI tn), .int (zI cu), .int (zI sa), .int (zI to), .int (zI nu), .int (zI wr), .int (zI it), .int (zI sS), .int (zI sC), .int (zI sL), .int (zI sW), .ref mq, .ref mn, .ref mc, .ref mr, .ref mb])), (ms, .inl (G.2.1, 15, .inl (aZ sf))), (mc, .inl (G.2.1, 4096, .inl (aZ (uZ g2 ma ((acc ||| (2 ^ w.toNat) : Nat) : Int)))))] := hD
                            refine lv_iinc (v := zI (w + 1)) (lv' := [(3, .int (zI (w + 1))), (5, .int (zI t)), (4, .int (zI is1)), (2, .int (zI ma)), (0, .ref hm0), (1, .int (zI set))]) hx hb dX9_findRounds_109 hl (k := 2) rfl (zI_add _ _) (by decide) rfl (fun ls hl => ?_)
                            refine lv_goto (tgt := 22) hx hb dX9_findRounds_112 (by decide) ?_
                            exact ih22 (w + 1) (uZ g2 ma ((acc ||| (2 ^ w.toNat) : Nat) : Int)) (acc ||| (2 ^ w.toNat)) H locs ls (by omega) (by rw [hg2, uZ_uZ]) (by first | exact or_lt hacc (bit_lt (by omega)) | exact or_lt hacc (by omega)) (by exact bt_step (q := fun j => ma.toNat.testBit j && exM S Wy set.toNat (sf 1) (13 - cntN ma.toNat Wy.toNat) (j : Int) ma.toNat) hw.1 hbt (by rcases hbw with ⟨h8, h9⟩ | ⟨h8, h9⟩ <;> first | (exfalso; omega) | exact Or.inl ⟨rfl, by show (_ && exM _ _ _ _ _ ((w.toNat : Nat) : Int) _) = true; rw [Int.toNat_of_nonneg hw.1]; exact h9⟩ | exact Or.inr ⟨rfl, by show (_ && exM _ _ _ _ _ ((w.toNat : Nat) : Int) _) = false; rw [Int.toNat_of_nonneg hw.1]; exact h9⟩)) (by omega) hP hD hS (lv_sub hl [0, 3, 4, 5] rfl)
                        · have hf0 : anyN (okM S Wy set.toNat (sf 1) (exM S Wy set.toNat (sf 1) (12 - cntN ma.toNat Wy.toNat)) w ma.toNat) t.toNat = false := by rcases his with ⟨h8, _, _⟩ | ⟨_, h9⟩ <;> first | exact h9 | (exfalso; omega)
                          refine lv_aload_n hx hb dX9_findRounds_71 rfl (lv_at hl 4 rfl) ?_
                          refine lv_iload_n hx hb dX9_findRounds_72 rfl (lv_at hl 5 rfl) ?_
                          refine lv_iload_n hx hb dX9_findRounds_73 rfl (lv_at hl 3 rfl) ?_
                          refine lv_iload_n hx hb dX9_findRounds_74 rfl (lv_at hl 2 rfl) ?_
                          refine lv_iload hx hb dX9_findRounds_75 (lv_at hl 0 rfl) ?_
                          refine z_cV (As := [.int (zI set), .int (zI ma), .int (zI w), .int (zI t)]) (rest := []) ⟨hx, hb, hml, hown, hts⟩ (c_X9_goesOn l G hm0 S C Wy Li ml ms mw kn mi mk hz mh tr mt tn cu sa to nu wr it sS sC sL sW mq mn mc mr mb sf g2 set ma w t (by first | assumption | omega) (by first | assumption | omega) (by intro i h1 h2; rw [hg2]; have h9 := hR i h1 h2; unfold uZ; split <;> omega) (by first | assumption | omega) (by first | assumption | omega) (by first | assumption | omega) (by first | assumption | omega)) (cwV 4 hts gX9_findRounds_X9_goesOn rfl rfl rfl pd_X9_goesOn ⟨(Nat.le_of_ble_eq_true rfl), (Nat.le_of_ble_eq_true rfl)⟩) hK hP hS [0, 1, 2] rfl rfl rfl rfl rfl hl.1 rfl (Nat.le_of_ble_eq_true rfl) dX9_findRounds_77 ⟨Nat.zero_le _, Nat.zero_le _⟩ (fun H locs hP hS => ?_)
                          refine lv_istore (lv' := [(4, .int (zI (if goP S Wy set.toNat ma.toNat (sf 1) w t g2 then 1 else 0))), (5, .int (zI t)), (3, .int (zI w)), (2, .int (zI ma)), (0, .ref hm0), (1, .int (zI set))]) hx hb dX9_findRounds_80 hl (by decide) rfl (fun ls hl => ?_)
                          refine lv_iinc (v := zI (t + 1)) (lv' := [(5, .int (zI (t + 1))), (4, .int (zI (if goP S Wy set.toNat ma.toNat (sf 1) w t g2 then 1 else 0))), (3, .int (zI w)), (2, .int (zI ma)), (0, .ref hm0), (1, .int (zI set))]) hx hb dX9_findRounds_82 hl (k := 1) rfl (zI_add _ _) (by decide) rfl (fun ls hl => ?_)
                          refine lv_goto (tgt := 49) hx hb dX9_findRounds_85 (by decide) ?_
                          exact ih49 (t + 1) (if goP S Wy set.toNat ma.toNat (sf 1) w t g2 then 1 else 0) H locs ls (by omega) (by exact is_step ht.1 (goP_ok hB (by omega) (by omega) hma hT hg2 (by assumption)) hf0 (by assumption)) (by omega) hP hD hS (lv_sub hl [0, 1, 2, 3, 4, 5] rfl)
                exact loop49 _ 0 0 H locs ls (by omega) (by exact Or.inr ⟨rfl, rfl⟩) (Nat.lt_succ_self _) hP hD hS (lv_sub hl [0, 1, 2, 3, 4, 5] rfl)
        exact loop22 _ 0 (uZ g ma 0) 0 H locs ls (by omega) rfl (by omega) (by intro j; rw [Nat.zero_testBit, decide_eq_false (by omega), Bool.false_and]) (Nat.lt_succ_self _) hP hD hS (lv_sub hl [0, 1, 2, 3] rfl)
  exact loop9 _ ((fullN Wy : Nat) : Int) cf H locs ls (by omega) (by intro i h1 h2; exfalso; have h9 := full_lt2 Wy; unfold fullN at h1; omega) (by exact hcf) (Nat.lt_succ_self _) hP hD hS (lv_sub hl [0, 1, 2] rfl)

theorem fr_home {S C Wy : Int} {set : Nat} {home : Int} {g : Int → Int} (hB : (2 ≤ S ∧ S ≤ 6) ∧ (C = 1 ∧ Wy = S ∨ C = 2 ∧ Wy = 2 * S)) (hh : 0 ≤ home ∧ home < Wy) (hT : frT S Wy set home g 0) : (g ((2 ^ home.toNat : Nat) : Int)).toNat.testBit home.toNat = exM S Wy set home 12 home (2 ^ home.toNat) := by
  have h := hT (2 ^ home.toNat) (by have := Nat.one_le_two_pow (n := home.toNat); omega) (bit_ltW hh.1 hh.2) (by rw [Nat.testBit_two_pow, decide_eq_true rfl]) home.toNat (by omega)
  rw [Nat.testBit_two_pow, decide_eq_true rfl, Bool.true_and, cntN_one, if_pos (by omega), Int.toNat_of_nonneg hh.1] at h
  exact h
/-- the reference, i turns behind home -/
abbrev rdy (S Wy : Int) (set : Nat) (home i at1 : Int) (mk : Nat) : Prop := (0 ≤ at1 ∧ at1 < Wy) ∧ mk < 2 ^ Wy.toNat ∧ mk.testBit home.toNat = true ∧ cntN mk Wy.toNat = i.toNat + 1 ∧ exM S Wy set home (12 - i.toNat) at1 mk = true ∧ ∀ j : Nat, rwM S Wy set home 12 home (2 ^ home.toNat) (i.toNat + j) = rwM S Wy set home (12 - i.toNat) at1 mk j
theorem goP_ok2 {S C Wy : Int} {set mk : Nat} {home w t : Int} {g : Int → Int} (hB : (2 ≤ S ∧ S ≤ 6) ∧ (C = 1 ∧ Wy = S ∨ C = 2 ∧ Wy = 2 * S)) (hw : 0 ≤ w ∧ w < Wy) (ht : 0 ≤ t ∧ t < Wy) (hmk : mk < 2 ^ Wy.toNat) (hT : frT S Wy set home g 0) (hh : mk.testBit home.toNat = true) :
    goP S Wy set ((mk : Nat) : Int).toNat home w t g ↔ okM S Wy set home (exM S Wy set home (12 - cntN mk Wy.toNat)) w mk t.toNat = true := by
  have h9 := full_lt2 Wy
  have h8 : fullN Wy = 2 ^ Wy.toNat - 1 := rfl
  have h := goP_ok (acc := (g (mk : Int)).toNat) (mk := (mk : Int)) (g2 := uZ g (mk : Int) (((g (mk : Int)).toNat : Nat) : Int)) hB hw ht (by omega) (fun i h1 h2 h3 j h4 => hT i (by omega) h2 h3 j h4) rfl hh
  rw [Int.toNat_natCast] at h ⊢
  rw [← h]
  have hne : ∀ x : Nat, ¬ mk.testBit x = true → uZ g (mk : Int) (((g (mk : Int)).toNat : Nat) : Int) ((mk ||| 2 ^ x : Nat) : Int) = g ((mk ||| 2 ^ x : Nat) : Int) := by
    intro x hx
    have := or_gt hx
    rw [uZ_ne _ _ (by omega)]
  constructor
  · rintro ⟨h1, h2 | ⟨h2, h3⟩⟩
    · exact ⟨h1, Or.inl h2⟩
    · exact ⟨h1, Or.inr ⟨h2, by rw [hne _ h2]; exact h3⟩⟩
  · rintro ⟨h1, h2 | ⟨h2, h3⟩⟩
    · exact ⟨h1, Or.inl h2⟩
    · exact ⟨h1, Or.inr ⟨h2, by rw [hne _ h2] at h3; exact h3⟩⟩
theorem rdy_0 {S C Wy : Int} {set : Nat} {home : Int} (hB : (2 ≤ S ∧ S ≤ 6) ∧ (C = 1 ∧ Wy = S ∨ C = 2 ∧ Wy = 2 * S)) (hh : 0 ≤ home ∧ home < Wy) (hex : exM S Wy set home 12 home (2 ^ home.toNat) = true) : rdy S Wy set home 0 home (2 ^ home.toNat) := by
  refine ⟨hh, bit_ltW hh.1 hh.2, by rw [Nat.testBit_two_pow, decide_eq_true rfl], ?_, hex, fun j => ?_⟩
  · rw [cntN_one, if_pos (by omega)]
    rfl
  · show rwM _ _ _ _ _ _ _ (0 + j) = _
    rw [Nat.zero_add]
    rfl
theorem rdy_cnt {S C Wy : Int} {set mk : Nat} {home i at1 : Int} (hB : (2 ≤ S ∧ S ≤ 6) ∧ (C = 1 ∧ Wy = S ∨ C = 2 ∧ Wy = 2 * S)) (hi : 0 ≤ i ∧ i < Wy) (hr : rdy S Wy set home i at1 mk) : 12 - cntN mk Wy.toNat = 11 - i.toNat ∧ anyN (okM S Wy set home (exM S Wy set home (11 - i.toNat)) at1 mk) Wy.toNat = true ∧ ((i = Wy - 1) ↔ mk = fullN Wy) := by
  obtain ⟨h1, h2, h3, h4, h5, h6⟩ := hr
  rw [show 12 - i.toNat = (11 - i.toNat) + 1 by omega] at h5
  have h7 := last_iff (made := i) (by omega) h2 (by omega)
  exact ⟨by omega, h5, h7.symm⟩
theorem tu_step {q : Nat → Bool} {tu Wy : Int} (hex : anyN q Wy.toNat = true) (htu : 0 ≤ tu ∧ tu < Wy) (hno : ∀ j : Nat, (j : Int) < tu → q j = false) (hp : q tu.toNat = false) : (0 ≤ tu + 1 ∧ tu + 1 < Wy) ∧ ∀ j : Nat, (j : Int) < tu + 1 → q j = false := by
  have h2 : ∀ j : Nat, (j : Int) < tu + 1 → q j = false := hno_step htu.1 hp hno
  refine ⟨⟨by omega, ?_⟩, h2⟩
  obtain ⟨j, h3, h4⟩ := anyN_ex _ hex
  by_cases e : tu + 1 < Wy
  · exact e
  · rw [h2 j (by omega)] at h4
    exact absurd h4 (by decide)
theorem rdy_step {S C Wy : Int} {set mk : Nat} {home i at1 tu k : Int} (hB : (2 ≤ S ∧ S ≤ 6) ∧ (C = 1 ∧ Wy = S ∨ C = 2 ∧ Wy = 2 * S)) (hi : 0 ≤ i ∧ i ≤ k ∧ k < Wy) (hr : rdy S Wy set home i at1 mk) (htu : 0 ≤ tu ∧ tu < Wy) (hno : ∀ j : Nat, (j : Int) < tu → okM S Wy set home (exM S Wy set home (11 - i.toNat)) at1 mk j = false) (hp : okM S Wy set home (exM S Wy set home (11 - i.toNat)) at1 mk tu.toNat = true) :
    (i + 1 ≤ k → rdy S Wy set home (i + 1) (fromZ S at1 tu) (mk ||| 2 ^ (fromZ S at1 tu).toNat)) ∧ (i + 1 = k + 1 → tu = rwM S Wy set home 12 home (2 ^ home.toNat) k.toNat) := by
  obtain ⟨c1, c2, c3⟩ := rdy_cnt hB (by omega) hr
  obtain ⟨h1, h2, h3, h4, h5, h6⟩ := hr
  have hft : ftM S Wy set home (11 - i.toNat) at1 mk = tu.toNat := fstN_eq (by omega) hp (fun j hj => hno j (by omega))
  have hf := fromZ_rng hB h1 htu
  rw [show 12 - i.toNat = (11 - i.toNat) + 1 by omega] at h6
  refine ⟨fun hk => ?_, fun hk => ?_⟩
  · have hm : ¬ mk = fullN Wy := fun e => by have := c3.mpr e; omega
    have hs : set.testBit tu.toNat = true := by
      by_cases e : set.testBit tu.toNat = true
      · exact e
      · rw [okM_no e] at hp
        exact absurd hp (by decide)
    rw [okM_on htu.1 hm hs, Bool.and_eq_true, Bool.not_eq_true'] at hp
    have hb : ¬ mk.testBit (fromZ S at1 tu).toNat = true := by rw [hp.1]; decide
    refine ⟨hf, Nat.or_lt_two_pow h2 (bit_ltW hf.1 hf.2), by rw [or_bit, h3, Bool.true_or], ?_, ?_, fun j => ?_⟩
    · rw [cntN_or hb, h4, if_pos (by omega)]
      omega
    · rw [show 12 - (i + 1).toNat = 11 - i.toNat by omega]
      exact hp.2
    · have h7 := h6 (j + 1)
      rw [show 12 - (i + 1).toNat = 11 - i.toNat by omega, show (i + 1).toNat + j = i.toNat + (j + 1) by omega, h7]
      show rwM S Wy set home (11 - i.toNat) (fromZ S at1 (ftM S Wy set home (11 - i.toNat) at1 mk : Int)) (mk ||| 2 ^ (fromZ S at1 (ftM S Wy set home (11 - i.toNat) at1 mk : Int)).toNat) j = _
      rw [hft, Int.toNat_of_nonneg htu.1]
  · have h7 := h6 0
    rw [show k.toNat = i.toNat + 0 by omega, h7]
    show tu = (ftM S Wy set home (11 - i.toNat) at1 mk : Int)
    rw [hft]
    omega

theorem pd_X9_round : yX9_round.cls = RX9 ∧ yX9_round.cls ≠ "java/lang/invoke/MethodHandle" ∧ yX9_round.cls ≠ "java/lang/invoke/VarHandle" ∧ (parseMethodDescriptor yX9_round.desc).map (fun d => d.parameters.length) = some 2 := by decide +kernel
abbrev rmX9_round : Room := { frames := 3, cells := 0, slots := 0, locals := 75 }
set_option maxHeartbeats 4000000 in
set_option maxRecDepth 100000 in
theorem c_X9_round (l : Launch) (G : CX) (hm0 : Nat) (S : Int) (C : Int) (Wy : Int) (Li : Int) (ml : Nat) (ms : Nat) (mw : Nat) (kn : Int) (mi : Nat) (mk : Nat) (hz : Int) (mh : Nat) (tr : Int64) (mt : Nat) (tn : Int) (cu : Int) (sa : Int) (to : Int) (nu : Int) (wr : Int) (it : Int) (sS : Int) (sC : Int) (sL : Int) (sW : Int) (mq : Nat) (mn : Nat) (mc : Nat) (mr : Nat) (mb : Nat) (sf : Int → Int) (cf : Int → Int) (set : Int) (k : Int) (hB : (2 ≤ S ∧ S ≤ 6) ∧ (C = 1 ∧ Wy = S ∨ C = 2 ∧ Wy = 2 * S)) (hl1 : 0 ≤ sf 1 ∧ sf 1 < Wy) (hcf : ∀ i : Int, 0 ≤ i → i < 4096 → 0 ≤ cf i ∧ cf i < 4096) (hr_set : -2147483648 ≤ set ∧ set < 2147483648) (hr_k : -2147483648 ≤ k ∧ k < 2147483648) : Met l yX9_round wsX9_round rmX9_round (wrP G [.ref hm0, .int (zI set), .int (zI k)] [(hm0, .inr (9, [.int (zI S), .int (zI C), .int (zI Wy), .int (zI Li), .ref ml, .ref ms, .ref mw, .int (zI kn), .ref mi, .ref mk, .int (zI hz), .ref mh, .long tr, .ref mt, .int (zI tn), .int (zI cu), .int (zI sa), .int (zI to), .int (zI nu), .int (zI wr), .int (zI it), .int (zI sS), .int (zI sC), .int (zI sL), .int (zI sW), .ref mq, .ref mn, .ref mc, .ref mr, .ref mb])), (ms, .inl (G.2.1, 15, .inl (aZ sf))), (mc, .inl (G.2.1, 4096, .inl (aZ cf)))]) (wrQ G [(hm0, .inr (9, [.int (zI S), .int (zI C), .int (zI Wy), .int (zI Li), .ref ml, .ref ms, .ref mw, .int (zI kn), .ref mi, .ref mk, .int (zI hz), .ref mh, .long tr, .ref mt, .int (zI tn), .int (zI cu), .int (zI sa), .int (zI to), .int (zI nu), .int (zI wr), .int (zI it), .int (zI sS), .int (zI sC), .int (zI sL), .int (zI sW), .ref mq, .ref mn, .ref mc, .ref mr, .ref mb])), (ms, .inl (G.2.1, 15, .inl (aZ sf))), (mc, .inl (G.2.1, 4096, .inl (aZ cf)))] (fun (r_ : Int32) (u : (Int → Int)) => match u with | cf2 => r_ = zI (if ¬ ((0 ≤ set ∧ set ≤ ((fullN Wy : Nat) : Int)) ∧ 0 ≤ k) then -1 else if ¬ exM S Wy set.toNat (sf 1) 12 (sf 1) (2 ^ (sf 1).toNat) = true then -9 else if k < Wy then rwM S Wy set.toNat (sf 1) 12 (sf 1) (2 ^ (sf 1).toNat) k.toNat else -5) ∧ (∀ i : Int, 0 ≤ i → i < 4096 → 0 ≤ cf2 i ∧ cf2 i < 4096)) (fun (u : (Int → Int)) => match u with | cf2 => [(hm0, .inr (9, [.int (zI S), .int (zI C), .int (zI Wy), .int (zI Li), .ref ml, .ref ms, .ref mw, .int (zI kn), .ref mi, .ref mk, .int (zI hz), .ref mh, .long tr, .ref mt, .int (zI tn), .int (zI cu), .int (zI sa), .int (zI to), .int (zI nu), .int (zI wr), .int (zI it), .int (zI sS), .int (zI sC), .int (zI sL), .int (zI sW), .ref mq, .ref mn, .ref mc, .ref mr, .ref mb])), (ms, .inl (G.2.1, 15, .inl (aZ sf))), (mc, .inl (G.2.1, 4096, .inl (aZ cf2)))])) 0 0 (wrA [(hm0, .inr (9, [.int (zI S), .int (zI C), .int (zI Wy), .int (zI Li), .ref ml, .ref ms, .ref mw, .int (zI kn), .ref mi, .ref mk, .int (zI hz), .ref mh, .long tr, .ref mt, .int (zI tn), .int (zI cu), .int (zI sa), .int (zI to), .int (zI nu), .int (zI wr), .int (zI it), .int (zI sS), .int (zI sC), .int (zI sL), .int (zI sW), .ref mq, .ref mn, .ref mc, .ref mr, .ref mb])), (ms, .inl (G.2.1, 15, .inl (aZ sf))), (mc, .inl (G.2.1, 4096, .inl (aZ cf)))]) := by
  refine wr_ofW (cc := cX9_round) (maxL := 7) (ty := .int) (by decide) rfl (Nat.le_of_ble_eq_true rfl) ?_
  intro p e s m below meth c Q A hx hb hml hown hts hK hret H locs hP hD hS ls hl
  have hown : s.vm.findClass RX9 = some m.cls := hown
  have hl : lv_has ls 7 [(0, .ref hm0), (1, .int (zI set)), (2, .int (zI k))] := hl
  have f26 := hts (.fieldLink RX9 26 "QuarterTurnsModel" "st" "[I") (by decide +kernel)
  have i9 : ∀ w ∈ wsX90, w ∈ wsX9_round := fun w h => List.mem_cons_of_mem _ (List.mem_append_right _ h)
  have f51 := hts (.fieldLink RX9 51 "QuarterTurnsModel" "can" "[I") (by decide +kernel)
  have f16 := hts (.fieldLink RX9 16 "QuarterTurnsModel" "ways" "I") (by decide +kernel)
  have hfl := fullN_lt (W := Wy) (by omega)
  refine lv_aload_n hx hb dX9_round_0 rfl (lv_at hl 0 rfl) ?_
  refine lv_iload_n hx hb dX9_round_1 rfl (lv_at hl 1 rfl) ?_
  refine z_cV (As := [.int (zI set)]) (rest := []) ⟨hx, hb, hml, hown, hts⟩ (c_X9_isSet l G hm0 S C Wy Li ml ms mw kn mi mk hz mh tr mt tn cu sa to nu wr it sS sC sL sW mq mn mc mr mb set (by first | assumption | omega) (by first | assumption | omega)) (cwV 1 hts gX9_round_X9_isSet rfl rfl rfl pd_X9_isSet ⟨(Nat.le_of_ble_eq_true rfl), (Nat.le_of_ble_eq_true rfl)⟩) hK hP hS [0] rfl rfl rfl rfl rfl hl.1 rfl (Nat.le_of_ble_eq_true rfl) dX9_round_2 ⟨Nat.zero_le _, Nat.zero_le _⟩ (fun H locs hP hS => ?_)
  refine z_ifeq_b (tgt := 12) hx hb dX9_round_5 (by decide) (fun c_1 => ?_) (fun c_1 => ?_)
  · refine lv_iconst (v := zI (-1)) hx hb dX9_round_12 rfl ?_
    exact hret H locs ls 13 _ (cf) rfl ⟨congrArg zI (by rw [if_pos (by omega)]), by exact hcf⟩ hP hS dX9_round_13
  · refine lv_iload_n hx hb dX9_round_8 rfl (lv_at hl 2 rfl) ?_
    refine z_if_ge (tgt := 14) hx hb (by omega) dX9_round_9 (by decide) (fun c_2 => ?_) (fun c_2 => ?_)
    · refine lv_aload_n hx hb dX9_round_14 rfl (lv_at hl 0 rfl) ?_
      refine lv_iload_n hx hb dX9_round_15 rfl (lv_at hl 1 rfl) ?_
      refine z_wVv (As := [.int (zI set)]) (rest := []) ⟨hx, hb, hml, hown, hts⟩ (c_X9_findRounds l G hm0 S C Wy Li ml ms mw kn mi mk hz mh tr mt tn cu sa to nu wr it sS sC sL sW mq mn mc mr mb sf cf set (by first | assumption | omega) (by first | assumption | omega) (by exact hcf) (by first | assumption | omega)) (cwV 1 hts gX9_round_X9_findRounds rfl rfl rfl pd_X9_findRounds ⟨(Nat.le_of_ble_eq_true rfl), (Nat.le_of_ble_eq_true rfl)⟩) hK hP hD hS [0, 1, 2] (by decide) rfl rfl rfl rfl (fun _ => Eq.trans (b := [hm0, ms, mc]) rfl rfl) rfl hl.1 rfl (Nat.le_of_ble_eq_true rfl) dX9_round_16 ⟨Nat.zero_le _, Nat.zero_le _⟩ (fun u_ H locs hw_4 hP hD hS => ?_)
      obtain ⟨cf2_3, rfl⟩ : ∃ z, z = u_ := ⟨_, rfl⟩
      try dsimp only at hw_4
      obtain ⟨hT_5, hR_6⟩ := hw_4
      have hP : kP G [(hm0, .inr (9, [.int (zI S), .int (zI C), .int (zI Wy), .int (zI Li), .ref ml, .ref ms, .ref mw, .int (zI kn), .ref mi, .ref mk, .int (zI hz), .ref mh, .long tr, .ref mt, .int (zI tn), .int (zI cu), .int (zI sa), .int (zI to), .int (zI nu), .int (zI wr), .int (zI it), .int (zI sS), .int (zI sC), .int (zI sL), .int (zI sW), .ref mq, .ref mn, .ref mc, .ref mr, .ref mb])), (ms, .inl (G.2.1, 15, .inl (aZ sf))), (mc, .inl (G.2.1, 4096, .inl (aZ cf2_3)))] H := hP
      have hD : va_D A [(hm0, .inr (9, [.int (zI S), .int (zI C), .int (zI Wy), .int (zI Li), .ref ml, .ref ms, .ref mw, .int (zI kn), .ref mi, .ref mk, .int (zI hz), .ref mh, .long tr, .ref mt, .int (zI tn), .int (zI cu), .int (zI sa), .int (zI to), .int (zI nu), .int (zI wr), .int (zI it), .int (zI sS), .int (zI sC), .int (zI sL), .int (zI sW), .ref mq, .ref mn, .ref mc, .ref mr, .ref mb])), (ms, .inl (G.2.1, 15, .inl (aZ sf))), (mc, .inl (G.2.1, 4096, .inl (aZ cf2_3)))] := hD
      have hT := hT_5
      have hR := hR_6
      have hb1 := bit_lt (x := sf 1) (by omega)
      have hb0 : (0 : Int) ≤ ((2 ^ (sf 1).toNat : Nat) : Int) := Int.natCast_nonneg _
      have hcq := hR ((2 ^ (sf 1).toNat : Nat) : Int) hb0 (by omega)
      have hhas := fr_home hB hl1 hT
      refine lv_aload_n hx hb dX9_round_19 rfl (lv_at hl 0 rfl) ?_
      refine va_get (ci := 9) (v := .ref ms) (C := RX9) (T := TX9) (N := 30) hx hb hts i9 hown hK hP 0 rfl rfl 5 (by decide) f26 (fun _ h9 => h9) rfl dX9_round_20 ?_
      refine lv_iconst (v := zI 1) hx hb dX9_round_23 rfl ?_
      refine z_iald (n := 15) (f := sf) hx hb hK hP 1 rfl (by omega) dX9_round_24 ?_
      refine lv_istore_n (lv' := [(3, .int (zI (sf 1))), (0, .ref hm0), (1, .int (zI set)), (2, .int (zI k))]) hx hb dX9_round_25 rfl hl (by decide) rfl (fun ls hl => ?_)
      refine lv_iconst (v := zI 1) hx hb dX9_round_26 rfl ?_
      refine lv_iload_n hx hb dX9_round_27 rfl (lv_at hl 0 rfl) ?_
      refine z_shl1 hx hb (by omega) dX9_round_28 ?_
      refine lv_istore (lv' := [(4, .int (zI ((2 ^ (sf 1).toNat : Nat) : Int))), (3, .int (zI (sf 1))), (0, .ref hm0), (1, .int (zI set)), (2, .int (zI k))]) hx hb dX9_round_29 hl (by decide) rfl (fun ls hl => ?_)
      refine lv_aload_n hx hb dX9_round_31 rfl (lv_at hl 2 rfl) ?_
      refine va_get (ci := 9) (v := .ref mc) (C := RX9) (T := TX9) (N := 30) hx hb hts i9 hown hK hP 0 rfl rfl 27 (by decide) f51 (fun _ h9 => h9) rfl dX9_round_32 ?_
      refine lv_iload hx hb dX9_round_35 (lv_at hl 0 rfl) ?_
      refine z_iald (n := 4096) (f := cf2_3) hx hb hK hP 2 rfl (by omega) dX9_round_37 ?_
      refine lv_iload_n hx hb dX9_round_38 rfl (lv_at hl 1 rfl) ?_
      refine z_cS (As := [.int (zI (cf2_3 ((2 ^ (sf 1).toNat : Nat) : Int))), .int (zI (sf 1))]) (rest := []) ⟨hx, hb, hml, hown, hts⟩ (c_X9_has l G (cf2_3 ((2 ^ (sf 1).toNat : Nat) : Int)) (sf 1) (by first | assumption | omega) (by first | assumption | omega)) (va_cwS 2 hts gX9_round_X9_has rfl rfl rfl pd_X9_has.2 ⟨(Nat.le_of_ble_eq_true rfl), (Nat.le_of_ble_eq_true rfl)⟩) hK hP hS [] rfl rfl hl.1 rfl (Nat.le_of_ble_eq_true rfl) dX9_round_39 ⟨Nat.zero_le _, Nat.zero_le _⟩ (fun H locs hP hS => ?_)
      refine z_ifne_b (tgt := 48) hx hb dX9_round_42 (by decide) (fun c_7 => ?_) (fun c_7 => ?_)
      · refine lv_iload_n hx hb dX9_round_48 rfl (lv_at hl 4 rfl) ?_
        refine lv_aload_n hx hb dX9_round_49 rfl (lv_at hl 2 rfl) ?_
        refine va_get (ci := 9) (v := .int (zI Wy)) (C := RX9) (T := TX9) (N := 30) hx hb hts i9 hown hK hP 0 rfl rfl 2 (by decide) f16 (fun _ h9 => h9) rfl dX9_round_50 ?_
        refine z_icmp_lt (tgt := 59) hx hb (by omega) dX9_round_53 (by decide) (fun c_8 => ?_) (fun c_8 => ?_)
        · refine lv_iconst (v := zI 0) hx hb dX9_round_59 rfl ?_
          refine lv_istore (lv' := [(5, .int (zI 0)), (4, .int (zI ((2 ^ (sf 1).toNat : Nat) : Int))), (3, .int (zI (sf 1))), (0, .ref hm0), (1, .int (zI set)), (2, .int (zI k))]) hx hb dX9_round_60 hl (by decide) rfl (fun ls hl => ?_)
          refine lv_iconst (v := zI 0) hx hb dX9_round_62 rfl ?_
          refine lv_istore (lv' := [(6, .int (zI 0)), (5, .int (zI 0)), (4, .int (zI ((2 ^ (sf 1).toNat : Nat) : Int))), (3, .int (zI (sf 1))), (0, .ref hm0), (1, .int (zI set)), (2, .int (zI k))]) hx hb dX9_round_63 hl (by decide) rfl (fun ls hl => ?_)
          have loop65 : ∀ (n_ : Nat) (i : Int) (tn0 : Int) (at1 : Int) (ma : Nat) (H : Heap) (locs : List Loc) (ls : Array Slot), (0 ≤ i ∧ i ≤ k + 1) → (i ≤ k → rdy S Wy set.toNat (sf 1) i at1 ma) → (i = k + 1 → tn0 = rwM S Wy set.toNat (sf 1) 12 (sf 1) (2 ^ (sf 1).toNat) k.toNat) → (k + 1 - i).toNat < n_ → kP G [(hm0, .inr (9, [.int (zI S), .int (zI C), .int (zI Wy), .int (zI Li), .ref ml, .ref ms, .ref mw, .int (zI kn), .ref mi, .ref mk, .int (zI hz), .ref mh, .long tr, .ref mt, .int (zI tn), .int (zI cu), .int (zI sa), .int (zI to), .int (zI nu), .int (zI wr), .int (zI it), .int (zI sS), .int (zI sC), .int (zI sL), .int (zI sW), .ref mq, .ref mn, .ref mc, .ref mr, .ref mb])), (ms, .inl (G.2.1, 15, .inl (aZ sf))), (mc, .inl (G.2.1, 4096, .inl (aZ cf2_3)))] H → va_D A [(hm0, .inr (9, [.int (zI S), .int (zI C), .int (zI Wy), .int (zI Li), .ref ml, .ref ms, .ref mw, .int (zI kn), .ref mi, .ref mk, .int (zI hz), .ref mh, .long tr, .ref mt, .int (zI tn), .int (zI cu), .int (zI sa), .int (zI to), .int (zI nu), .int (zI wr), .int (zI it), .int (zI sS), .int (zI sC), .int (zI sL), .int (zI sW), .ref mq, .ref mn, .ref mc, .ref mr, .ref mb])), (ms, .inl (G.2.1, 15, .inl (aZ sf))), (mc, .inl (G.2.1, 4096, .inl (aZ cf2_3)))] → va_S A s.heap H locs → lv_has ls 7 [(6, .int (zI i)), (5, .int (zI tn0)), (4, .int (zI ((ma : Nat) : Int))), (3, .int (zI at1)), (0, .ref hm0), (1, .int (zI set)), (2, .int (zI k))] → W p l e rmX9_round s m ([.ref hm0, .int (zI set), .int (zI k)] : List Value).toArray below meth c H locs 0 0 Q (F0 m 65 ls []) := by
            intro n_
            induction n_ with
            | zero =>
              intro i tn0 at1 ma H locs ls hi hin htu hm
              exact absurd hm (Nat.not_lt_zero _)
            | succ n_ ih65 =>
              intro i tn0 at1 ma H locs ls hi hin htu hm65 hP hD hS hl
              refine lv_iload hx hb dX9_round_65 (lv_at hl 0 rfl) ?_
              refine lv_iload_n hx hb dX9_round_67 rfl (lv_at hl 6 rfl) ?_
              refine z_icmp_gt (tgt := 115) hx hb (by omega) dX9_round_68 (by decide) (fun c_9 => ?_) (fun c_9 => ?_)
              · refine lv_iload hx hb dX9_round_115 (lv_at hl 1 rfl) ?_
                exact hret H locs ls 117 _ (cf2_3) rfl ⟨congrArg zI (by rw [if_neg (by omega), if_neg (fun h => h (by rw [← hhas]; assumption)), if_pos (by omega)]; exact htu (by omega)), by exact hR⟩ hP hS dX9_round_117
              · refine lv_iconst (v := zI 0) hx hb dX9_round_71 rfl ?_
                refine lv_istore (lv' := [(5, .int (zI 0)), (6, .int (zI i)), (4, .int (zI ((ma : Nat) : Int))), (3, .int (zI at1)), (0, .ref hm0), (1, .int (zI set)), (2, .int (zI k))]) hx hb dX9_round_72 hl (by decide) rfl (fun ls hl => ?_)
                have hrd := hin (by omega)
                have hrc := rdy_cnt hB (by omega) hrd
                have hm4 : ma < 4096 := by have h8 : (2 : Nat) ^ Wy.toNat ≤ 4096 := Nat.le_trans (Nat.pow_le_pow_right (by decide) (show Wy.toNat ≤ 12 by omega)) (by decide); have h9 := hrd.2.1; omega
                have loop74 : ∀ (n_ : Nat) (tu : Int) (H : Heap) (locs : List Loc) (ls : Array Slot), (0 ≤ tu ∧ tu < Wy) → (∀ j : Nat, (j : Int) < tu → okM S Wy set.toNat (sf 1) (exM S Wy set.toNat (sf 1) (11 - i.toNat)) at1 ma j = false) → (Wy - tu).toNat < n_ → kP G [(hm0, .inr (9, [.int (zI S), .int (zI C), .int (zI Wy), .int (zI Li), .ref ml, .ref ms, .ref mw, .int (zI kn), .ref mi, .ref mk, .int (zI hz), .ref mh, .long tr, .ref mt, .int (zI tn), .int (zI cu), .int (zI sa), .int (zI to), .int (zI nu), .int (zI wr), .int (zI it), .int (zI sS), .int (zI sC), .int (zI sL), .int (zI sW), .ref mq, .ref mn, .ref mc, .ref mr, .ref mb])), (ms, .inl (G.2.1, 15, .inl (aZ sf))), (mc, .inl (G.2.1, 4096, .inl (aZ cf2_3)))] H → va_D A [(hm0, .inr (9, [.int (zI S), .int (zI C), .int (zI Wy), .int (zI Li), .ref ml, .ref ms, .ref mw, .int (zI kn), .ref mi, .ref mk, .int (zI hz), .ref mh, .long tr, .ref mt, .int (zI tn), .int (zI cu), .int (zI sa), .int (zI to), .int (zI nu), .int (zI wr), .int (zI it), .int (zI sS), .int (zI sC), .int (zI sL), .int (zI sW), .ref mq, .ref mn, .ref mc, .ref mr, .ref mb])), (ms, .inl (G.2.1, 15, .inl (aZ sf))), (mc, .inl (G.2.1, 4096, .inl (aZ cf2_3)))] → va_S A s.heap H locs → lv_has ls 7 [(5, .int (zI tu)), (6, .int (zI i)), (4, .int (zI ((ma : Nat) : Int))), (3, .int (zI at1)), (0, .ref hm0), (1, .int (zI set)), (2, .int (zI k))] → W p l e rmX9_round s m ([.ref hm0, .int (zI set), .int (zI k)] : List Value).toArray below meth c H locs 0 0 Q (F0 m 74 ls []) := by
                  intro n_
                  induction n_ with
                  | zero =>
                    intro tu H locs ls htu2 hno hm
                    exact absurd hm (Nat.not_lt_zero _)
                  | succ n_ ih74 =>
                    intro tu H locs ls htu2 hno hm74 hP hD hS hl
                    have hgk := goP_ok2 (set := set.toNat) (t := tu) hB hrd.1 htu2 hrd.2.1 hT hrd.2.2.1
                    rw [hrc.1] at hgk
                    refine lv_aload_n hx hb dX9_round_74 rfl (lv_at hl 4 rfl) ?_
                    refine lv_iload_n hx hb dX9_round_75 rfl (lv_at hl 5 rfl) ?_
                    refine lv_iload hx hb dX9_round_76 (lv_at hl 2 rfl) ?_
                    refine lv_iload_n hx hb dX9_round_78 rfl (lv_at hl 3 rfl) ?_
                    refine lv_iload hx hb dX9_round_79 (lv_at hl 0 rfl) ?_
                    refine z_cV (As := [.int (zI set), .int (zI ((ma : Nat) : Int)), .int (zI at1), .int (zI tu)]) (rest := []) ⟨hx, hb, hml, hown, hts⟩ (c_X9_goesOn l G hm0 S C Wy Li ml ms mw kn mi mk hz mh tr mt tn cu sa to nu wr it sS sC sL sW mq mn mc mr mb sf cf2_3 set ((ma : Nat) : Int) at1 tu (by first | assumption | omega) (by first | assumption | omega) (by exact hR) (by first | assumption | omega) (by first | assumption | omega) (by exact hrd.1) (by first | assumption | omega)) (cwV 4 hts gX9_round_X9_goesOn rfl rfl rfl pd_X9_goesOn ⟨(Nat.le_of_ble_eq_true rfl), (Nat.le_of_ble_eq_true rfl)⟩) hK hP hS [0, 1, 2] rfl rfl rfl rfl rfl hl.1 rfl (Nat.le_of_ble_eq_true rfl) dX9_round_81 ⟨Nat.zero_le _, Nat.zero_le _⟩ (fun H locs hP hS => ?_)
                    refine z_ifne_b (tgt := 93) hx hb dX9_round_84 (by decide) (fun c_10 => ?_) (fun c_10 => ?_)
                    · have hsp := rdy_step (k := k) hB (by omega) hrd htu2 hno (hgk.mp (by assumption))
                      have hat1 := hrd.1
                      refine lv_aload_n hx hb dX9_round_93 rfl (lv_at hl 4 rfl) ?_
                      refine lv_iload_n hx hb dX9_round_94 rfl (lv_at hl 3 rfl) ?_
                      refine lv_iload hx hb dX9_round_95 (lv_at hl 0 rfl) ?_
                      refine z_cV (As := [.int (zI at1), .int (zI tu)]) (rest := []) ⟨hx, hb, hml, hown, hts⟩ (c_X9_from l G hm0 S C Wy Li ml ms mw kn mi mk hz mh tr mt tn cu sa to nu wr it sS sC sL sW mq mn mc mr mb at1 tu (by first | assumption | omega) (by exact hrd.1) (by first | assumption | omega)) (cwV 2 hts gX9_round_X9_from rfl rfl rfl pd_X9_from ⟨(Nat.le_of_ble_eq_true rfl), (Nat.le_of_ble_eq_true rfl)⟩) hK hP hS [0] rfl rfl rfl rfl rfl hl.1 rfl (Nat.le_of_ble_eq_true rfl) dX9_round_97 ⟨Nat.zero_le _, Nat.zero_le _⟩ (fun H locs hP hS => ?_)
                      have hq_11 := fromZ_rng (C := C) (Wy := Wy) (w := at1) (t := tu) ((by first | assumption | omega)) ((by exact hrd.1)) ((by first | assumption | omega))
                      refine lv_istore_n (lv' := [(3, .int (zI (fromZ S at1 tu))), (5, .int (zI tu)), (6, .int (zI i)), (4, .int (zI ((ma : Nat) : Int))), (0, .ref hm0), (1, .int (zI set)), (2, .int (zI k))]) hx hb dX9_round_100 rfl hl (by decide) rfl (fun ls hl => ?_)
                      refine lv_iload hx hb dX9_round_101 (lv_at hl 3 rfl) ?_
                      refine lv_iconst (v := zI 1) hx hb dX9_round_103 rfl ?_
                      refine lv_iload_n hx hb dX9_round_104 rfl (lv_at hl 0 rfl) ?_
                      refine z_shl1 hx hb (by omega) dX9_round_105 ?_
                      refine z_ior (a := ma) (b := (2 ^ (fromZ S at1 tu).toNat)) hx hb dX9_round_106 ?_
                      refine lv_istore (lv' := [(4, .int (zI ((ma ||| (2 ^ (fromZ S at1 tu).toNat) : Nat) : Int))), (3, .int (zI (fromZ S at1 tu))), (5, .int (zI tu)), (6, .int (zI i)), (0, .ref hm0), (1, .int (zI set)), (2, .int (zI k))]) hx hb dX9_round_107 hl (by decide) rfl (fun ls hl => ?_)
                      refine lv_iinc (v := zI (i + 1)) (lv' := [(6, .int (zI (i + 1))), (4, .int (zI ((ma ||| (2 ^ (fromZ S at1 tu).toNat) : Nat) : Int))), (3, .int (zI (fromZ S at1 tu))), (5, .int (zI tu)), (0, .ref hm0), (1, .int (zI set)), (2, .int (zI k))]) hx hb dX9_round_109 hl (k := 3) rfl (zI_add _ _) (by decide) rfl (fun ls hl => ?_)
                      refine lv_goto (tgt := 65) hx hb dX9_round_112 (by decide) ?_
                      exact ih65 (i + 1) tu (fromZ S at1 tu) (ma ||| (2 ^ (fromZ S at1 tu).toNat)) H locs ls (by omega) (by exact hsp.1) (by exact hsp.2) (by omega) hP hD hS (lv_sub hl [0, 3, 1, 2, 4, 5, 6] rfl)
                    · refine lv_iinc (v := zI (tu + 1)) (lv' := [(5, .int (zI (tu + 1))), (6, .int (zI i)), (4, .int (zI ((ma : Nat) : Int))), (3, .int (zI at1)), (0, .ref hm0), (1, .int (zI set)), (2, .int (zI k))]) hx hb dX9_round_87 hl (k := 0) rfl (zI_add _ _) (by decide) rfl (fun ls hl => ?_)
                      refine lv_goto (tgt := 74) hx hb dX9_round_90 (by decide) ?_
                      have hts9 := tu_step hrc.2.1 htu2 hno (by rw [← Bool.not_eq_true]; exact fun h8 => absurd (hgk.mpr h8) (by assumption))
                      exact ih74 (tu + 1) H locs ls (by exact hts9.1) (by exact hts9.2) (by omega) hP hD hS (lv_sub hl [0, 1, 2, 3, 4, 5, 6] rfl)
                exact loop74 _ 0 H locs ls (by omega) (by intro j hj; omega) (Nat.lt_succ_self _) hP hD hS (lv_sub hl [0, 1, 2, 3, 4, 5, 6] rfl)
          exact loop65 _ 0 0 (sf 1) (2 ^ (sf 1).toNat) H locs ls (by omega) (by exact fun _ => rdy_0 hB hl1 (by rw [← hhas]; assumption)) (by intro h8; omega) (Nat.lt_succ_self _) hP hD hS (lv_sub hl [0, 1, 2, 3, 4, 5, 6] rfl)
        · refine lv_bipush (v := zI (-5)) hx hb dX9_round_56 (by decide) ?_
          exact hret H locs ls 58 _ (cf2_3) rfl ⟨congrArg zI (by rw [if_neg (by omega), if_neg (fun h => h (by rw [← hhas]; assumption)), if_neg (by omega)]), by exact hR⟩ hP hS dX9_round_58
      · refine lv_bipush (v := zI (-9)) hx hb dX9_round_45 (by decide) ?_
        exact hret H locs ls 47 _ (cf2_3) rfl ⟨congrArg zI (by rw [if_neg (by omega), if_pos (by rw [← hhas]; assumption)]), by exact hR⟩ hP hS dX9_round_47
    · refine lv_iconst (v := zI (-1)) hx hb dX9_round_12 rfl ?_
      exact hret H locs ls 13 _ (cf) rfl ⟨congrArg zI (by rw [if_pos (by omega)]), by exact hcf⟩ hP hS dX9_round_13
