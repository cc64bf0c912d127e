
def alM (S Wy home : Int) : Nat → Nat
  | 0 => 0
  | k + 1 => if thruS S (k : Int) (k : Int) home (12 : Int).toNat = fullN Wy then alM S Wy home k ||| 2 ^ k else alM S Wy home k
def bmI (S Wy home t : Int) : Nat → Int × Int → Int × Int
  | 0, s => s
  | j + 1, s => if ¬ t = Wy - 1 - (j : Int) ∧ thruS S t (Wy - 1 - (j : Int)) home (2 * Wy).toNat = fullN Wy then ((bmI S Wy home t j s).1 + 1, 100 * t + (Wy - 1 - (j : Int))) else bmI S Wy home t j s
def bmO (S Wy home : Int) : Nat → Int × Int
  | 0 => (0, -9)
  | j + 1 => bmI S Wy home (Wy - 1 - (j : Int)) Wy.toNat (bmO S Wy home j)

theorem pd_X9_all : yX9_all.cls = RX9 ∧ yX9_all.cls ≠ "java/lang/invoke/MethodHandle" ∧ yX9_all.cls ≠ "java/lang/invoke/VarHandle" ∧ (parseMethodDescriptor yX9_all.desc).map (fun d => d.parameters.length) = some 0 := by decide +kernel
abbrev rmX9_all : Room := { frames := 2, cells := 0, slots := 0, locals := 50 }
set_option maxHeartbeats 4000000 in
set_option maxRecDepth 100000 in
theorem c_X9_all (l : Launch) (G : CX) (hm0 : Nat) (S : Int) (C : Int) (Wy : Int) (Li : Int) (ml : Nat) (ms : Nat) (mw : Nat) (kn : Int) (mi : Nat) (mk : Nat) (hz : Int) (mh : Nat) (tr : Int64) (mt : Nat) (tn : Int) (cu : Int) (sa : Int) (to : Int) (nu : Int) (wr : Int) (it : Int) (sS : Int) (sC : Int) (sL : Int) (sW : Int) (mq : Nat) (mn : Nat) (mc : Nat) (mr : Nat) (mb : Nat) (sf : Int → Int) (hB : (2 ≤ S ∧ S ≤ 6) ∧ (C = 1 ∧ Wy = S ∨ C = 2 ∧ Wy = 2 * S)) (hl1 : 0 ≤ sf 1 ∧ sf 1 < Wy) : Met l yX9_all wsX9_all rmX9_all (rdP G [.ref hm0] [(hm0, .inr (9, [.int (zI S), .int (zI C), .int (zI Wy), .int (zI Li), .ref ml, .ref ms, .ref mw, .int (zI kn), .ref mi, .ref mk, .int (zI hz), .ref mh, .long tr, .ref mt, .int (zI tn), .int (zI cu), .int (zI sa), .int (zI to), .int (zI nu), .int (zI wr), .int (zI it), .int (zI sS), .int (zI sC), .int (zI sL), .int (zI sW), .ref mq, .ref mn, .ref mc, .ref mr, .ref mb])), (ms, .inl (G.2.1, 15, .inl (aZ sf)))]) (rdQ (zI ((alM S Wy (sf 1) Wy.toNat : Nat) : Int))) 0 0 noA := by
  refine rd_ofW (cc := cX9_all) (maxL := 3) (ty := .int) (by decide) rfl (Nat.le_of_ble_eq_true rfl) rfl ?_
  intro p e s m below meth c Q A hx hb hml hown hts hK hret H locs hP hS ls hl
  have hown : s.vm.findClass RX9 = some m.cls := hown
  have hl : lv_has ls 3 [(0, .ref hm0)] := hl
  have f16 := hts (.fieldLink RX9 16 "QuarterTurnsModel" "ways" "I") (by decide +kernel)
  have i9 : ∀ w ∈ wsX90, w ∈ wsX9_all := fun w h => List.mem_cons_of_mem _ (List.mem_append_right _ h)
  refine lv_iconst (v := zI 0) hx hb dX9_all_0 rfl ?_
  refine lv_istore_n (lv' := [(1, .int (zI 0)), (0, .ref hm0)]) hx hb dX9_all_1 rfl hl (by decide) rfl (fun ls hl => ?_)
  refine lv_iconst (v := zI 0) hx hb dX9_all_2 rfl ?_
  refine lv_istore_n (lv' := [(2, .int (zI 0)), (1, .int (zI 0)), (0, .ref hm0)]) hx hb dX9_all_3 rfl hl (by decide) rfl (fun ls hl => ?_)
  have loop4 : ∀ (n_ : Nat) (t : Int) (bits : Nat) (H : Heap) (locs : List Loc) (ls : Array Slot), (0 ≤ t ∧ t ≤ Wy) → (bits = alM S Wy (sf 1) t.toNat) → (Wy - t).toNat < n_ → kP G [(hm0, .inr (9, [.int (zI S), .int (zI C), .int (zI Wy), .int (zI Li), .ref ml, .ref ms, .ref mw, .int (zI kn), .ref mi, .ref mk, .int (zI hz), .ref mh, .long tr, .ref mt, .int (zI tn), .int (zI cu), .int (zI sa), .int (zI to), .int (zI nu), .int (zI wr), .int (zI it), .int (zI sS), .int (zI sC), .int (zI sL), .int (zI sW), .ref mq, .ref mn, .ref mc, .ref mr, .ref mb])), (ms, .inl (G.2.1, 15, .inl (aZ sf)))] H → va_S A s.heap H locs → lv_has ls 3 [(2, .int (zI t)), (1, .int (zI ((bits : Nat) : Int))), (0, .ref hm0)] → W p l e rmX9_all s m ([.ref hm0] : List Value).toArray below meth c H locs 0 0 Q (F0 m 4 ls []) := by
    intro n_
    induction n_ with
    | zero =>
      intro t bits H locs ls ht hbi hm
      exact absurd hm (Nat.not_lt_zero _)
    | succ n_ ih4 =>
      intro t bits H locs ls ht hbi hm4 hP hS hl
      refine lv_iload_n hx hb dX9_all_4 rfl (lv_at hl 0 rfl) ?_
      refine lv_aload_n hx hb dX9_all_5 rfl (lv_at hl 2 rfl) ?_
      refine va_get (ci := 9) (v := .int (zI Wy)) (C := RX9) (T := TX9) (N := 30) hx hb hts i9 hown hK hP 0 rfl rfl 2 (by decide) f16 (fun _ h9 => h9) rfl dX9_all_6 ?_
      refine z_icmp_ge (tgt := 47) hx hb (by omega) dX9_all_9 (by decide) (fun c_1 => ?_) (fun c_1 => ?_)
      · refine lv_iload_n hx hb dX9_all_47 rfl (lv_at hl 1 rfl) ?_
        exact hret H locs ls 48 _ (congrArg zI (by rw [hbi, show t = Wy by omega])) hS dX9_all_48
      · refine lv_iload_n hx hb dX9_all_12 rfl (lv_at hl 1 rfl) ?_
        refine lv_aload_n hx hb dX9_all_13 rfl (lv_at hl 2 rfl) ?_
        refine lv_iload_n hx hb dX9_all_14 rfl (lv_at hl 0 rfl) ?_
        refine lv_iload_n hx hb dX9_all_15 rfl (lv_at hl 0 rfl) ?_
        refine lv_bipush (v := zI 12) hx hb dX9_all_16 (by decide) ?_
        refine z_cV (As := [.int (zI t), .int (zI t), .int (zI 12)]) (rest := [.int (zI ((bits : Nat) : Int))]) ⟨hx, hb, hml, hown, hts⟩ (c_X9_through l G hm0 S C Wy Li ml ms mw kn mi mk hz mh tr mt tn cu sa to nu wr it sS sC sL sW mq mn mc mr mb sf t t 12 (by first | assumption | omega) (by first | assumption | omega) (by first | assumption | omega) (by first | assumption | omega) (by first | assumption | omega)) (cwV 3 hts gX9_all_X9_through rfl rfl rfl pd_X9_through ⟨(Nat.le_of_ble_eq_true rfl), (Nat.le_of_ble_eq_true rfl)⟩) hK hP hS [0, 1] rfl rfl rfl rfl rfl hl.1 rfl (Nat.le_of_ble_eq_true rfl) dX9_all_18 ⟨Nat.zero_le _, Nat.zero_le _⟩ (fun H locs hP hS => ?_)
        have hq_2 := thruS_lt (S := S) (C := C) (Wy := Wy) (t := t) (u := t) (home := sf 1) ((by first | assumption | omega)) ((by first | assumption | omega)) ((by first | assumption | omega)) ((by first | assumption | omega)) (12 : Int).toNat
        refine lv_iconst (v := zI 1) hx hb dX9_all_21 rfl ?_
        refine lv_aload_n hx hb dX9_all_22 rfl (lv_at hl 2 rfl) ?_
        refine va_get (ci := 9) (v := .int (zI Wy)) (C := RX9) (T := TX9) (N := 30) hx hb hts i9 hown hK hP 0 rfl rfl 2 (by decide) f16 (fun _ h9 => h9) rfl dX9_all_23 ?_
        refine z_shl1 hx hb (by omega) dX9_all_26 ?_
        refine lv_iconst (v := zI 1) hx hb dX9_all_27 rfl ?_
        refine z_isub hx hb dX9_all_28 ?_
        refine z_top (fullN_eq Wy) ?_
        have hfl := fullN_lt (W := Wy) (by omega)
        refine z_icmp_ne (tgt := 38) hx hb (by omega) dX9_all_29 (by decide) (fun c_3 => ?_) (fun c_3 => ?_)
        · refine lv_iconst (v := zI 0) hx hb dX9_all_38 rfl ?_
          refine z_ior (a := bits) (b := 0) hx hb dX9_all_39 ?_
          refine lv_istore_n (lv' := [(1, .int (zI ((bits ||| 0 : Nat) : Int))), (2, .int (zI t)), (0, .ref hm0)]) hx hb dX9_all_40 rfl hl (by decide) rfl (fun ls hl => ?_)
          refine lv_iinc (v := zI (t + 1)) (lv' := [(2, .int (zI (t + 1))), (1, .int (zI ((bits ||| 0 : Nat) : Int))), (0, .ref hm0)]) hx hb dX9_all_41 hl (k := 1) rfl (zI_add _ _) (by decide) rfl (fun ls hl => ?_)
          refine lv_goto (tgt := 4) hx hb dX9_all_44 (by decide) ?_
          exact ih4 (t + 1) (bits ||| 0) H locs ls (by omega) (by rw [tn1 ht.1, alM, Int.toNat_of_nonneg ht.1, ← hbi]; first | (rw [if_pos (show thruS S t t (sf 1) (12 : Int).toNat = fullN Wy by omega)]; done) | (rw [if_neg (show ¬ thruS S t t (sf 1) (12 : Int).toNat = fullN Wy by omega), Nat.or_zero]; done)) (by omega) hP hS (lv_sub hl [0, 1, 2] rfl)
        · refine lv_iconst (v := zI 1) hx hb dX9_all_32 rfl ?_
          refine lv_iload_n hx hb dX9_all_33 rfl (lv_at hl 0 rfl) ?_
          refine z_shl1 hx hb (by omega) dX9_all_34 ?_
          refine lv_goto (tgt := 39) hx hb dX9_all_35 (by decide) ?_
          refine z_ior (a := bits) (b := (2 ^ t.toNat)) hx hb dX9_all_39 ?_
          refine lv_istore_n (lv' := [(1, .int (zI ((bits ||| (2 ^ t.toNat) : Nat) : Int))), (2, .int (zI t)), (0, .ref hm0)]) hx hb dX9_all_40 rfl hl (by decide) rfl (fun ls hl => ?_)
          refine lv_iinc (v := zI (t + 1)) (lv' := [(2, .int (zI (t + 1))), (1, .int (zI ((bits ||| (2 ^ t.toNat) : Nat) : Int))), (0, .ref hm0)]) hx hb dX9_all_41 hl (k := 1) rfl (zI_add _ _) (by decide) rfl (fun ls hl => ?_)
          refine lv_goto (tgt := 4) hx hb dX9_all_44 (by decide) ?_
          exact ih4 (t + 1) (bits ||| (2 ^ t.toNat)) H locs ls (by omega) (by rw [tn1 ht.1, alM, Int.toNat_of_nonneg ht.1, ← hbi]; first | (rw [if_pos (show thruS S t t (sf 1) (12 : Int).toNat = fullN Wy by omega)]; done) | (rw [if_neg (show ¬ thruS S t t (sf 1) (12 : Int).toNat = fullN Wy by omega), Nat.or_zero]; done)) (by omega) hP hS (lv_sub hl [0, 1, 2] rfl)
  exact loop4 _ 0 0 H locs ls (by omega) rfl (Nat.lt_succ_self _) hP hS (lv_sub hl [0, 1, 2] rfl)
theorem pd_X9_byTurns : yX9_byTurns.cls = RX9 ∧ yX9_byTurns.cls ≠ "java/lang/invoke/MethodHandle" ∧ yX9_byTurns.cls ≠ "java/lang/invoke/VarHandle" ∧ (parseMethodDescriptor yX9_byTurns.desc).map (fun d => d.parameters.length) = some 1 := by decide +kernel
abbrev rmX9_byTurns : Room := { frames := 2, cells := 0, slots := 0, locals := 50 }
set_option maxHeartbeats 4000000 in
set_option maxRecDepth 100000 in
theorem c_X9_byTurns (l : Launch) (G : CX) (hm0 : Nat) (S : Int) (C : Int) (Wy : Int) (Li : Int) (ml : Nat) (ms : Nat) (mw : Nat) (kn : Int) (mi : Nat) (mk : Nat) (hz : Int) (mh : Nat) (tr : Int64) (mt : Nat) (tn : Int) (cu : Int) (sa : Int) (to : Int) (nu : Int) (wr : Int) (it : Int) (sS : Int) (sC : Int) (sL : Int) (sW : Int) (mq : Nat) (mn : Nat) (mc : Nat) (mr : Nat) (mb : Nat) (sf : Int → Int) (what : Int) (hB : (2 ≤ S ∧ S ≤ 6) ∧ (C = 1 ∧ Wy = S ∨ C = 2 ∧ Wy = 2 * S)) (hl1 : 0 ≤ sf 1 ∧ sf 1 < Wy) (hr_what : -2147483648 ≤ what ∧ what < 2147483648) : Met l yX9_byTurns wsX9_byTurns rmX9_byTurns (rdP G [.ref hm0, .int (zI what)] [(hm0, .inr (9, [.int (zI S), .int (zI C), .int (zI Wy), .int (zI Li), .ref ml, .ref ms, .ref mw, .int (zI kn), .ref mi, .ref mk, .int (zI hz), .ref mh, .long tr, .ref mt, .int (zI tn), .int (zI cu), .int (zI sa), .int (zI to), .int (zI nu), .int (zI wr), .int (zI it), .int (zI sS), .int (zI sC), .int (zI sL), .int (zI sW), .ref mq, .ref mn, .ref mc, .ref mr, .ref mb])), (ms, .inl (G.2.1, 15, .inl (aZ sf)))]) (rdQ (zI (if ¬ (what = 0 ∨ what = 1) then -1 else if what = 0 then (bmO S Wy (sf 1) Wy.toNat).1 else (bmO S Wy (sf 1) Wy.toNat).2))) 0 0 noA := by
  refine rd_ofW (cc := cX9_byTurns) (maxL := 7) (ty := .int) (by decide) rfl (Nat.le_of_ble_eq_true rfl) rfl ?_
  intro p e s m below meth c Q A hx hb hml hown hts hK hret H locs hP hS ls hl
  have hown : s.vm.findClass RX9 = some m.cls := hown
  have hl : lv_has ls 7 [(0, .ref hm0), (1, .int (zI what))] := hl
  have f16 := hts (.fieldLink RX9 16 "QuarterTurnsModel" "ways" "I") (by decide +kernel)
  have i9 : ∀ w ∈ wsX90, w ∈ wsX9_byTurns := fun w h => List.mem_cons_of_mem _ (List.mem_append_right _ h)
  refine lv_iload_n hx hb dX9_byTurns_0 rfl (lv_at hl 1 rfl) ?_
  refine lv_iconst (v := zI 0) hx hb dX9_byTurns_1 rfl ?_
  refine lv_iconst (v := zI 1) hx hb dX9_byTurns_2 rfl ?_
  refine z_cS (As := [.int (zI what), .int (zI 0), .int (zI 1)]) (rest := []) ⟨hx, hb, hml, hown, hts⟩ (c_X9_in l G what 0 1 (by first | assumption | omega)) (va_cwS 3 hts gX9_byTurns_X9_in rfl rfl rfl pd_X9_in.2 ⟨(Nat.le_of_ble_eq_true rfl), (Nat.le_of_ble_eq_true rfl)⟩) hK hP hS [] rfl rfl hl.1 rfl (Nat.le_of_ble_eq_true rfl) dX9_byTurns_3 ⟨Nat.zero_le _, Nat.zero_le _⟩ (fun H locs hP hS => ?_)
  refine z_ifne_b (tgt := 11) hx hb dX9_byTurns_6 (by decide) (fun c_1 => ?_) (fun c_1 => ?_)
  · refine lv_iconst (v := zI 0) hx hb dX9_byTurns_11 rfl ?_
    refine lv_istore_n (lv' := [(2, .int (zI 0)), (0, .ref hm0), (1, .int (zI what))]) hx hb dX9_byTurns_12 rfl hl (by decide) rfl (fun ls hl => ?_)
    refine lv_bipush (v := zI (-9)) hx hb dX9_byTurns_13 (by decide) ?_
    refine lv_istore_n (lv' := [(3, .int (zI (-9))), (2, .int (zI 0)), (0, .ref hm0), (1, .int (zI what))]) hx hb dX9_byTurns_15 rfl hl (by decide) rfl (fun ls hl => ?_)
    refine lv_aload_n hx hb dX9_byTurns_16 rfl (lv_at hl 2 rfl) ?_
    refine va_get (ci := 9) (v := .int (zI Wy)) (C := RX9) (T := TX9) (N := 30) hx hb hts i9 hown hK hP 0 rfl rfl 2 (by decide) f16 (fun _ h9 => h9) rfl dX9_byTurns_17 ?_
    refine lv_iconst (v := zI 1) hx hb dX9_byTurns_20 rfl ?_
    refine z_isub hx hb dX9_byTurns_21 ?_
    refine lv_istore (lv' := [(4, .int (zI (Wy - 1))), (3, .int (zI (-9))), (2, .int (zI 0)), (0, .ref hm0), (1, .int (zI what))]) hx hb dX9_byTurns_22 hl (by decide) rfl (fun ls hl => ?_)
    have loop24 : ∀ (n_ : Nat) (t : Int) (n : Int) (fi : Int) (H : Heap) (locs : List Loc) (ls : Array Slot), (-1 ≤ t ∧ t ≤ Wy - 1) → (n = (bmO S Wy (sf 1) (Wy - 1 - t).toNat).1) → (fi = (bmO S Wy (sf 1) (Wy - 1 - t).toNat).2) → (t + 1).toNat < n_ → kP G [(hm0, .inr (9, [.int (zI S), .int (zI C), .int (zI Wy), .int (zI Li), .ref ml, .ref ms, .ref mw, .int (zI kn), .ref mi, .ref mk, .int (zI hz), .ref mh, .long tr, .ref mt, .int (zI tn), .int (zI cu), .int (zI sa), .int (zI to), .int (zI nu), .int (zI wr), .int (zI it), .int (zI sS), .int (zI sC), .int (zI sL), .int (zI sW), .ref mq, .ref mn, .ref mc, .ref mr, .ref mb])), (ms, .inl (G.2.1, 15, .inl (aZ sf)))] H → va_S A s.heap H locs → lv_has ls 7 [(4, .int (zI t)), (3, .int (zI fi)), (2, .int (zI n)), (0, .ref hm0), (1, .int (zI what))] → W p l e rmX9_byTurns s m ([.ref hm0, .int (zI what)] : List Value).toArray below meth c H locs 0 0 Q (F0 m 24 ls []) := by
      intro n_
      induction n_ with
      | zero =>
        intro t n fi H locs ls ht hn hfi hm
        exact absurd hm (Nat.not_lt_zero _)
      | succ n_ ih24 =>
        intro t n fi H locs ls ht hn hfi hm24 hP hS hl
        refine lv_iload hx hb dX9_byTurns_24 (lv_at hl 0 rfl) ?_
        refine z_if_lt (tgt := 124) hx hb (by omega) dX9_byTurns_26 (by decide) (fun c_2 => ?_) (fun c_2 => ?_)
        · refine lv_iload_n hx hb dX9_byTurns_124 rfl (lv_at hl 4 rfl) ?_
          refine z_if_ne (tgt := 132) hx hb (by omega) dX9_byTurns_125 (by decide) (fun c_3 => ?_) (fun c_3 => ?_)
          · refine lv_iload_n hx hb dX9_byTurns_132 rfl (lv_at hl 1 rfl) ?_
            exact hret H locs ls 133 _ (congrArg zI (by rw [if_neg (by omega)]; first | (rw [if_pos (by omega), hn, show (Wy - 1 - t).toNat = Wy.toNat by omega]; done) | (rw [if_neg (by omega), hfi, show (Wy - 1 - t).toNat = Wy.toNat by omega]; done))) hS dX9_byTurns_133
          · refine lv_iload_n hx hb dX9_byTurns_128 rfl (lv_at hl 2 rfl) ?_
            refine lv_goto (tgt := 133) hx hb dX9_byTurns_129 (by decide) ?_
            exact hret H locs ls 133 _ (congrArg zI (by rw [if_neg (by omega)]; first | (rw [if_pos (by omega), hn, show (Wy - 1 - t).toNat = Wy.toNat by omega]; done) | (rw [if_neg (by omega), hfi, show (Wy - 1 - t).toNat = Wy.toNat by omega]; done))) hS dX9_byTurns_133
        · refine lv_aload_n hx hb dX9_byTurns_29 rfl (lv_at hl 3 rfl) ?_
          refine va_get (ci := 9) (v := .int (zI Wy)) (C := RX9) (T := TX9) (N := 30) hx hb hts i9 hown hK hP 0 rfl rfl 2 (by decide) f16 (fun _ h9 => h9) rfl dX9_byTurns_30 ?_
          refine lv_iconst (v := zI 1) hx hb dX9_byTurns_33 rfl ?_
          refine z_isub hx hb dX9_byTurns_34 ?_
          refine lv_istore (lv' := [(5, .int (zI (Wy - 1))), (4, .int (zI t)), (3, .int (zI fi)), (2, .int (zI n)), (0, .ref hm0), (1, .int (zI what))]) hx hb dX9_byTurns_35 hl (by decide) rfl (fun ls hl => ?_)
          have loop37 : ∀ (n_ : Nat) (v : Int) (n2 : Int) (f2 : Int) (H : Heap) (locs : List Loc) (ls : Array Slot), (-1 ≤ v ∧ v ≤ Wy - 1) → (n2 = (bmI S Wy (sf 1) t (Wy - 1 - v).toNat (bmO S Wy (sf 1) (Wy - 1 - t).toNat)).1) → (f2 = (bmI S Wy (sf 1) t (Wy - 1 - v).toNat (bmO S Wy (sf 1) (Wy - 1 - t).toNat)).2) → (v + 1).toNat < n_ → kP G [(hm0, .inr (9, [.int (zI S), .int (zI C), .int (zI Wy), .int (zI Li), .ref ml, .ref ms, .ref mw, .int (zI kn), .ref mi, .ref mk, .int (zI hz), .ref mh, .long tr, .ref mt, .int (zI tn), .int (zI cu), .int (zI sa), .int (zI to), .int (zI nu), .int (zI wr), .int (zI it), .int (zI sS), .int (zI sC), .int (zI sL), .int (zI sW), .ref mq, .ref mn, .ref mc, .ref mr, .ref mb])), (ms, .inl (G.2.1, 15, .inl (aZ sf)))] H → va_S A s.heap H locs → lv_has ls 7 [(5, .int (zI v)), (4, .int (zI t)), (3, .int (zI f2)), (2, .int (zI n2)), (0, .ref hm0), (1, .int (zI what))] → W p l e rmX9_byTurns s m ([.ref hm0, .int (zI what)] : List Value).toArray below meth c H locs 0 0 Q (F0 m 37 ls []) := by
            intro n_
            induction n_ with
            | zero =>
              intro v n2 f2 H locs ls hv hn2 hf2 hm
              exact absurd hm (Nat.not_lt_zero _)
            | succ n_ ih37 =>
              intro v n2 f2 H locs ls hv hn2 hf2 hm37 hP hS hl
              refine lv_iload hx hb dX9_byTurns_37 (lv_at hl 0 rfl) ?_
              refine z_if_lt (tgt := 118) hx hb (by omega) dX9_byTurns_39 (by decide) (fun c_4 => ?_) (fun c_4 => ?_)
              · refine lv_iinc (v := zI (t + (-1))) (lv' := [(4, .int (zI (t + (-1)))), (5, .int (zI v)), (3, .int (zI f2)), (2, .int (zI n2)), (0, .ref hm0), (1, .int (zI what))]) hx hb dX9_byTurns_118 hl (k := 1) rfl (zI_add _ _) (by decide) rfl (fun ls hl => ?_)
                refine lv_goto (tgt := 24) hx hb dX9_byTurns_121 (by decide) ?_
                exact ih24 (t + (-1)) n2 f2 H locs ls (by omega) (by rw [show (Wy - 1 - (t + -1)).toNat = (Wy - 1 - t).toNat + 1 by omega, bmO, show Wy - 1 - (((Wy - 1 - t).toNat : Nat) : Int) = t by omega, hn2, show (Wy - 1 - v).toNat = Wy.toNat by omega]) (by rw [show (Wy - 1 - (t + -1)).toNat = (Wy - 1 - t).toNat + 1 by omega, bmO, show Wy - 1 - (((Wy - 1 - t).toNat : Nat) : Int) = t by omega, hf2, show (Wy - 1 - v).toNat = Wy.toNat by omega]) (by omega) hP hS (lv_sub hl [0, 2, 3, 4, 5] rfl)
              · refine lv_iload hx hb dX9_byTurns_42 (lv_at hl 1 rfl) ?_
                refine lv_iload hx hb dX9_byTurns_44 (lv_at hl 0 rfl) ?_
                refine z_icmp_eq (tgt := 78) hx hb (by omega) dX9_byTurns_46 (by decide) (fun c_5 => ?_) (fun c_5 => ?_)
                · refine lv_iconst (v := zI 0) hx hb dX9_byTurns_78 rfl ?_
                  refine lv_istore (lv' := [(6, .int (zI 0)), (5, .int (zI v)), (4, .int (zI t)), (3, .int (zI f2)), (2, .int (zI n2)), (0, .ref hm0), (1, .int (zI what))]) hx hb dX9_byTurns_79 hl (by decide) rfl (fun ls hl => ?_)
                  refine lv_iload_n hx hb dX9_byTurns_81 rfl (lv_at hl 4 rfl) ?_
                  refine lv_iload hx hb dX9_byTurns_82 (lv_at hl 0 rfl) ?_
                  refine z_if_eq (tgt := 91) hx hb (by omega) dX9_byTurns_84 (by decide) (fun c_6 => ?_) (fun c_6 => ?_)
                  · refine lv_iconst (v := zI 0) hx hb dX9_byTurns_91 rfl ?_
                    refine z_iadd hx hb dX9_byTurns_92 ?_
                    refine lv_istore_n (lv' := [(2, .int (zI (n2 + 0))), (6, .int (zI 0)), (5, .int (zI v)), (4, .int (zI t)), (3, .int (zI f2)), (0, .ref hm0), (1, .int (zI what))]) hx hb dX9_byTurns_93 rfl hl (by decide) rfl (fun ls hl => ?_)
                    refine lv_iload hx hb dX9_byTurns_94 (lv_at hl 1 rfl) ?_
                    refine z_if_eq (tgt := 110) hx hb (by omega) dX9_byTurns_96 (by decide) (fun c_7 => ?_) (fun c_7 => ?_)
                    · refine lv_iload_n hx hb dX9_byTurns_110 rfl (lv_at hl 4 rfl) ?_
                      refine lv_istore_n (lv' := [(3, .int (zI f2)), (2, .int (zI (n2 + 0))), (6, .int (zI 0)), (5, .int (zI v)), (4, .int (zI t)), (0, .ref hm0), (1, .int (zI what))]) hx hb dX9_byTurns_111 rfl hl (by decide) rfl (fun ls hl => ?_)
                      refine lv_iinc (v := zI (v + (-1))) (lv' := [(5, .int (zI (v + (-1)))), (3, .int (zI f2)), (2, .int (zI (n2 + 0))), (6, .int (zI 0)), (4, .int (zI t)), (0, .ref hm0), (1, .int (zI what))]) hx hb dX9_byTurns_112 hl (k := 3) rfl (zI_add _ _) (by decide) rfl (fun ls hl => ?_)
                      refine lv_goto (tgt := 37) hx hb dX9_byTurns_115 (by decide) ?_
                      exact ih37 (v + (-1)) (n2 + 0) f2 H locs ls (by omega) (by rw [show (Wy - 1 - (v + -1)).toNat = (Wy - 1 - v).toNat + 1 by omega, bmI, show Wy - 1 - (((Wy - 1 - v).toNat : Nat) : Int) = v by omega, ← hn2]; first | (rw [if_pos (show (¬ t = v ∧ thruS S t v (sf 1) (2 * Wy).toNat = fullN Wy) by omega)]; done) | (rw [if_neg (show ¬ (¬ t = v ∧ thruS S t v (sf 1) (2 * Wy).toNat = fullN Wy) by omega), ← hn2]; omega)) (by rw [show (Wy - 1 - (v + -1)).toNat = (Wy - 1 - v).toNat + 1 by omega, bmI, show Wy - 1 - (((Wy - 1 - v).toNat : Nat) : Int) = v by omega]; first | (rw [if_pos (show (¬ t = v ∧ thruS S t v (sf 1) (2 * Wy).toNat = fullN Wy) by omega)]; done) | (rw [if_neg (show ¬ (¬ t = v ∧ thruS S t v (sf 1) (2 * Wy).toNat = fullN Wy) by omega), ← hf2]; done)) (by omega) hP hS (lv_sub hl [0, 4, 1, 2, 5, 6] rfl)
                    · exact absurd c_7 (by omega)
                  · exact absurd c_6 (by omega)
                · refine lv_aload_n hx hb dX9_byTurns_49 rfl (lv_at hl 4 rfl) ?_
                  refine lv_iload hx hb dX9_byTurns_50 (lv_at hl 1 rfl) ?_
                  refine lv_iload hx hb dX9_byTurns_52 (lv_at hl 0 rfl) ?_
                  refine lv_iconst (v := zI 2) hx hb dX9_byTurns_54 rfl ?_
                  refine lv_aload_n hx hb dX9_byTurns_55 rfl (lv_at hl 4 rfl) ?_
                  refine va_get (ci := 9) (v := .int (zI Wy)) (C := RX9) (T := TX9) (N := 30) hx hb hts i9 hown hK hP 0 rfl rfl 2 (by decide) f16 (fun _ h9 => h9) rfl dX9_byTurns_56 ?_
                  refine z_imul hx hb dX9_byTurns_59 ?_
                  refine z_cV (As := [.int (zI t), .int (zI v), .int (zI (2 * Wy))]) (rest := []) ⟨hx, hb, hml, hown, hts⟩ (c_X9_through l G hm0 S C Wy Li ml ms mw kn mi mk hz mh tr mt tn cu sa to nu wr it sS sC sL sW mq mn mc mr mb sf t v (2 * Wy) (by first | assumption | omega) (by first | assumption | omega) (by first | assumption | omega) (by first | assumption | omega) (by first | assumption | omega)) (cwV 3 hts gX9_byTurns_X9_through rfl rfl rfl pd_X9_through ⟨(Nat.le_of_ble_eq_true rfl), (Nat.le_of_ble_eq_true rfl)⟩) hK hP hS [0, 1] rfl rfl rfl rfl rfl hl.1 rfl (Nat.le_of_ble_eq_true rfl) dX9_byTurns_60 ⟨Nat.zero_le _, Nat.zero_le _⟩ (fun H locs hP hS => ?_)
                  have hq_8 := thruS_lt (S := S) (C := C) (Wy := Wy) (t := t) (u := v) (home := sf 1) ((by first | assumption | omega)) ((by first | assumption | omega)) ((by first | assumption | omega)) ((by first | assumption | omega)) (2 * Wy).toNat
                  refine lv_iconst (v := zI 1) hx hb dX9_byTurns_63 rfl ?_
                  refine lv_aload_n hx hb dX9_byTurns_64 rfl (lv_at hl 4 rfl) ?_
                  refine va_get (ci := 9) (v := .int (zI Wy)) (C := RX9) (T := TX9) (N := 30) hx hb hts i9 hown hK hP 0 rfl rfl 2 (by decide) f16 (fun _ h9 => h9) rfl dX9_byTurns_65 ?_
                  refine z_shl1 hx hb (by omega) dX9_byTurns_68 ?_
                  refine lv_iconst (v := zI 1) hx hb dX9_byTurns_69 rfl ?_
                  refine z_isub hx hb dX9_byTurns_70 ?_
                  refine z_top (fullN_eq Wy) ?_
                  have hfl := fullN_lt (W := Wy) (by omega)
                  refine z_icmp_ne (tgt := 78) hx hb (by omega) dX9_byTurns_71 (by decide) (fun c_9 => ?_) (fun c_9 => ?_)
                  · refine lv_iconst (v := zI 0) hx hb dX9_byTurns_78 rfl ?_
                    refine lv_istore (lv' := [(6, .int (zI 0)), (5, .int (zI v)), (4, .int (zI t)), (3, .int (zI f2)), (2, .int (zI n2)), (0, .ref hm0), (1, .int (zI what))]) hx hb dX9_byTurns_79 hl (by decide) rfl (fun ls hl => ?_)
                    refine lv_iload_n hx hb dX9_byTurns_81 rfl (lv_at hl 4 rfl) ?_
                    refine lv_iload hx hb dX9_byTurns_82 (lv_at hl 0 rfl) ?_
                    refine z_if_eq (tgt := 91) hx hb (by omega) dX9_byTurns_84 (by decide) (fun c_10 => ?_) (fun c_10 => ?_)
                    · refine lv_iconst (v := zI 0) hx hb dX9_byTurns_91 rfl ?_
                      refine z_iadd hx hb dX9_byTurns_92 ?_
                      refine lv_istore_n (lv' := [(2, .int (zI (n2 + 0))), (6, .int (zI 0)), (5, .int (zI v)), (4, .int (zI t)), (3, .int (zI f2)), (0, .ref hm0), (1, .int (zI what))]) hx hb dX9_byTurns_93 rfl hl (by decide) rfl (fun ls hl => ?_)
                      refine lv_iload hx hb dX9_byTurns_94 (lv_at hl 1 rfl) ?_
                      refine z_if_eq (tgt := 110) hx hb (by omega) dX9_byTurns_96 (by decide) (fun c_11 => ?_) (fun c_11 => ?_)
                      · refine lv_iload_n hx hb dX9_byTurns_110 rfl (lv_at hl 4 rfl) ?_
                        refine lv_istore_n (lv' := [(3, .int (zI f2)), (2, .int (zI (n2 + 0))), (6, .int (zI 0)), (5, .int (zI v)), (4, .int (zI t)), (0, .ref hm0), (1, .int (zI what))]) hx hb dX9_byTurns_111 rfl hl (by decide) rfl (fun ls hl => ?_)
                        refine lv_iinc (v := zI (v + (-1))) (lv' := [(5, .int (zI (v + (-1)))), (3, .int (zI f2)), (2, .int (zI (n2 + 0))), (6, .int (zI 0)), (4, .int (zI t)), (0, .ref hm0), (1, .int (zI what))]) hx hb dX9_byTurns_112 hl (k := 3) rfl (zI_add _ _) (by decide) rfl (fun ls hl => ?_)
                        refine lv_goto (tgt := 37) hx hb dX9_byTurns_115 (by decide) ?_
                        exact ih37 (v + (-1)) (n2 + 0) f2 H locs ls (by omega) (by rw [show (Wy - 1 - (v + -1)).toNat = (Wy - 1 - v).toNat + 1 by omega, bmI, show Wy - 1 - (((Wy - 1 - v).toNat : Nat) : Int) = v by omega, ← hn2]; first | (rw [if_pos (show (¬ t = v ∧ thruS S t v (sf 1) (2 * Wy).toNat = fullN Wy) by omega)]; done) | (rw [if_neg (show ¬ (¬ t = v ∧ thruS S t v (sf 1) (2 * Wy).toNat = fullN Wy) by omega), ← hn2]; omega)) (by rw [show (Wy - 1 - (v + -1)).toNat = (Wy - 1 - v).toNat + 1 by omega, bmI, show Wy - 1 - (((Wy - 1 - v).toNat : Nat) : Int) = v by omega]; first | (rw [if_pos (show (¬ t = v ∧ thruS S t v (sf 1) (2 * Wy).toNat = fullN Wy) by omega)]; done) | (rw [if_neg (show ¬ (¬ t = v ∧ thruS S t v (sf 1) (2 * Wy).toNat = fullN Wy) by omega), ← hf2]; done)) (by omega) hP hS (lv_sub hl [0, 4, 1, 2, 5, 6] rfl)
                      · exact absurd c_11 (by omega)
                    · exact absurd c_10 (by omega)
                  · refine lv_iconst (v := zI 1) hx hb dX9_byTurns_74 rfl ?_
                    refine lv_goto (tgt := 79) hx hb dX9_byTurns_75 (by decide) ?_
                    refine lv_istore (lv' := [(6, .int (zI 1)), (5, .int (zI v)), (4, .int (zI t)), (3, .int (zI f2)), (2, .int (zI n2)), (0, .ref hm0), (1, .int (zI what))]) hx hb dX9_byTurns_79 hl (by decide) rfl (fun ls hl => ?_)
                    refine lv_iload_n hx hb dX9_byTurns_81 rfl (lv_at hl 4 rfl) ?_
                    refine lv_iload hx hb dX9_byTurns_82 (lv_at hl 0 rfl) ?_
                    refine z_if_eq (tgt := 91) hx hb (by omega) dX9_byTurns_84 (by decide) (fun c_12 => ?_) (fun c_12 => ?_)
                    · exact absurd c_12 (by omega)
                    · refine lv_iconst (v := zI 1) hx hb dX9_byTurns_87 rfl ?_
                      refine lv_goto (tgt := 92) hx hb dX9_byTurns_88 (by decide) ?_
                      refine z_iadd hx hb dX9_byTurns_92 ?_
                      refine lv_istore_n (lv' := [(2, .int (zI (n2 + 1))), (6, .int (zI 1)), (5, .int (zI v)), (4, .int (zI t)), (3, .int (zI f2)), (0, .ref hm0), (1, .int (zI what))]) hx hb dX9_byTurns_93 rfl hl (by decide) rfl (fun ls hl => ?_)
                      refine lv_iload hx hb dX9_byTurns_94 (lv_at hl 1 rfl) ?_
                      refine z_if_eq (tgt := 110) hx hb (by omega) dX9_byTurns_96 (by decide) (fun c_13 => ?_) (fun c_13 => ?_)
                      · exact absurd c_13 (by omega)
                      · refine lv_bipush (v := zI 100) hx hb dX9_byTurns_99 (by decide) ?_
                        refine lv_iload hx hb dX9_byTurns_101 (lv_at hl 3 rfl) ?_
                        refine z_imul hx hb dX9_byTurns_103 ?_
                        refine lv_iload hx hb dX9_byTurns_104 (lv_at hl 2 rfl) ?_
                        refine z_iadd hx hb dX9_byTurns_106 ?_
                        refine lv_goto (tgt := 111) hx hb dX9_byTurns_107 (by decide) ?_
                        refine lv_istore_n (lv' := [(3, .int (zI ((100 * t) + v))), (2, .int (zI (n2 + 1))), (6, .int (zI 1)), (5, .int (zI v)), (4, .int (zI t)), (0, .ref hm0), (1, .int (zI what))]) hx hb dX9_byTurns_111 rfl hl (by decide) rfl (fun ls hl => ?_)
                        refine lv_iinc (v := zI (v + (-1))) (lv' := [(5, .int (zI (v + (-1)))), (3, .int (zI ((100 * t) + v))), (2, .int (zI (n2 + 1))), (6, .int (zI 1)), (4, .int (zI t)), (0, .ref hm0), (1, .int (zI what))]) hx hb dX9_byTurns_112 hl (k := 3) rfl (zI_add _ _) (by decide) rfl (fun ls hl => ?_)
                        refine lv_goto (tgt := 37) hx hb dX9_byTurns_115 (by decide) ?_
                        exact ih37 (v + (-1)) (n2 + 1) ((100 * t) + v) H locs ls (by omega) (by rw [show (Wy - 1 - (v + -1)).toNat = (Wy - 1 - v).toNat + 1 by omega, bmI, show Wy - 1 - (((Wy - 1 - v).toNat : Nat) : Int) = v by omega, ← hn2]; first | (rw [if_pos (show (¬ t = v ∧ thruS S t v (sf 1) (2 * Wy).toNat = fullN Wy) by omega)]; done) | (rw [if_neg (show ¬ (¬ t = v ∧ thruS S t v (sf 1) (2 * Wy).toNat = fullN Wy) by omega), ← hn2]; omega)) (by rw [show (Wy - 1 - (v + -1)).toNat = (Wy - 1 - v).toNat + 1 by omega, bmI, show Wy - 1 - (((Wy - 1 - v).toNat : Nat) : Int) = v by omega]; first | (rw [if_pos (show (¬ t = v ∧ thruS S t v (sf 1) (2 * Wy).toNat = fullN Wy) by omega)]; done) | (rw [if_neg (show ¬ (¬ t = v ∧ thruS S t v (sf 1) (2 * Wy).toNat = fullN Wy) by omega), ← hf2]; done)) (by omega) hP hS (lv_sub hl [0, 4, 1, 2, 5, 6] rfl)
          exact loop37 _ (Wy - 1) n fi H locs ls (by omega) (by rw [show (Wy - 1 - (Wy - 1)).toNat = 0 by omega]; exact hn) (by rw [show (Wy - 1 - (Wy - 1)).toNat = 0 by omega]; exact hfi) (Nat.lt_succ_self _) hP hS (lv_sub hl [0, 1, 2, 3, 4, 5] rfl)
    exact loop24 _ (Wy - 1) 0 (-9) H locs ls (by omega) (by rw [show (Wy - 1 - (Wy - 1)).toNat = 0 by omega]; rfl) (by rw [show (Wy - 1 - (Wy - 1)).toNat = 0 by omega]; rfl) (Nat.lt_succ_self _) hP hS (lv_sub hl [0, 1, 2, 3, 4] rfl)
  · refine lv_iconst (v := zI (-1)) hx hb dX9_byTurns_9 rfl ?_
    exact hret H locs ls 10 _ (congrArg zI (by rw [if_pos (by omega)])) hS dX9_byTurns_10
theorem pd_X9_most : yX9_most.cls = RX9 ∧ yX9_most.cls ≠ "java/lang/invoke/MethodHandle" ∧ yX9_most.cls ≠ "java/lang/invoke/VarHandle" ∧ (parseMethodDescriptor yX9_most.desc).map (fun d => d.parameters.length) = some 0 := by decide +kernel
abbrev rmX9_most : Room := { frames := 2, cells := 0, slots := 0, locals := 44 }
set_option maxHeartbeats 4000000 in
set_option maxRecDepth 100000 in
theorem c_X9_most (l : Launch) (G : CX) (hm0 : Nat) (S : Int) (C : Int) (Wy : Int) (Li : Int) (ml : Nat) (ms : Nat) (mw : Nat) (kn : Int) (mi : Nat) (mk : Nat) (hz : Int) (mh : Nat) (tr : Int64) (mt : Nat) (tn : Int) (cu : Int) (sa : Int) (to : Int) (nu : Int) (wr : Int) (it : Int) (sS : Int) (sC : Int) (sL : Int) (sW : Int) (mq : Nat) (mn : Nat) (mc : Nat) (mr : Nat) (mb : Nat) (nf : Int → Int) (sf : Int → Int) (ld : Int → Int) (hB : (2 ≤ S ∧ S ≤ 6) ∧ (C = 1 ∧ Wy = S ∨ C = 2 ∧ Wy = 2 * S)) (hLi : 5 ≤ Li ∧ Li ≤ 99) (hsr : ∀ i : Int, 0 ≤ i → i < 12 → 0 ≤ sf (3 + i) ∧ sf (3 + i) ≤ 999) (hld : ∀ i : Int, 0 ≤ i → i < 12 → 1 ≤ ld i ∧ ld i ≤ 9) : Met l yX9_most wsX9_most rmX9_most (wrP G [.ref hm0] [(hm0, .inr (9, [.int (zI S), .int (zI C), .int (zI Wy), .int (zI Li), .ref ml, .ref ms, .ref mw, .int (zI kn), .ref mi, .ref mk, .int (zI hz), .ref mh, .long tr, .ref mt, .int (zI tn), .int (zI cu), .int (zI sa), .int (zI to), .int (zI nu), .int (zI wr), .int (zI it), .int (zI sS), .int (zI sC), .int (zI sL), .int (zI sW), .ref mq, .ref mn, .ref mc, .ref mr, .ref mb])), (mn, .inl (G.2.1, 15, .inl (aZ nf))), (ms, .inl (G.2.1, 15, .inl (aZ sf))), (ml, .inl (G.2.1, 12, .inl (aZ ld)))]) (wrQ G [(hm0, .inr (9, [.int (zI S), .int (zI C), .int (zI Wy), .int (zI Li), .ref ml, .ref ms, .ref mw, .int (zI kn), .ref mi, .ref mk, .int (zI hz), .ref mh, .long tr, .ref mt, .int (zI tn), .int (zI cu), .int (zI sa), .int (zI to), .int (zI nu), .int (zI wr), .int (zI it), .int (zI sS), .int (zI sC), .int (zI sL), .int (zI sW), .ref mq, .ref mn, .ref mc, .ref mr, .ref mb])), (mn, .inl (G.2.1, 15, .inl (aZ nf))), (ms, .inl (G.2.1, 15, .inl (aZ sf))), (ml, .inl (G.2.1, 12, .inl (aZ ld)))] (fun (r_ : Int32) (u : (Int → Int)) => match u with | nf2 => r_ = zI (if Li ≤ grZ (fun i => sf (3 + i)) Wy.toNat then 0 else rmZ (Li - 1) (fun i => sf (3 + i)) ld Wy.toNat + 1) ∧ (True)) (fun (u : (Int → Int)) => match u with | nf2 => [(hm0, .inr (9, [.int (zI S), .int (zI C), .int (zI Wy), .int (zI Li), .ref ml, .ref ms, .ref mw, .int (zI kn), .ref mi, .ref mk, .int (zI hz), .ref mh, .long tr, .ref mt, .int (zI tn), .int (zI cu), .int (zI sa), .int (zI to), .int (zI nu), .int (zI wr), .int (zI it), .int (zI sS), .int (zI sC), .int (zI sL), .int (zI sW), .ref mq, .ref mn, .ref mc, .ref mr, .ref mb])), (mn, .inl (G.2.1, 15, .inl (aZ nf2))), (ms, .inl (G.2.1, 15, .inl (aZ sf))), (ml, .inl (G.2.1, 12, .inl (aZ ld)))])) 0 0 (wrA [(hm0, .inr (9, [.int (zI S), .int (zI C), .int (zI Wy), .int (zI Li), .ref ml, .ref ms, .ref mw, .int (zI kn), .ref mi, .ref mk, .int (zI hz), .ref mh, .long tr, .ref mt, .int (zI tn), .int (zI cu), .int (zI sa), .int (zI to), .int (zI nu), .int (zI wr), .int (zI it), .int (zI sS), .int (zI sC), .int (zI sL), .int (zI sW), .ref mq, .ref mn, .ref mc, .ref mr, .ref mb])), (mn, .inl (G.2.1, 15, .inl (aZ nf))), (ms, .inl (G.2.1, 15, .inl (aZ sf))), (ml, .inl (G.2.1, 12, .inl (aZ ld)))]) := by
  refine wr_ofW (cc := cX9_most) (maxL := 3) (ty := .int) (by decide) rfl (Nat.le_of_ble_eq_true rfl) ?_
  intro p e s m below meth c Q A hx hb hml hown hts hK hret H locs hP hD hS ls hl
  have hown : s.vm.findClass RX9 = some m.cls := hown
  have hl : lv_has ls 3 [(0, .ref hm0)] := hl
  have f16 := hts (.fieldLink RX9 16 "QuarterTurnsModel" "ways" "I") (by decide +kernel)
  have i9 : ∀ w ∈ wsX90, w ∈ wsX9_most := fun w h => List.mem_cons_of_mem _ (List.mem_append_right _ h)
  have f19 := hts (.fieldLink RX9 19 "QuarterTurnsModel" "limit" "I") (by decide +kernel)
  have f26 := hts (.fieldLink RX9 26 "QuarterTurnsModel" "st" "[I") (by decide +kernel)
  have f22 := hts (.fieldLink RX9 22 "QuarterTurnsModel" "load" "[I") (by decide +kernel)
  have hgg := cpg (nf := nf) (sf := sf) (k := Wy.toNat) (by omega)
  refine lv_aload_n hx hb dX9_most_0 rfl (lv_at hl 0 rfl) ?_
  refine z_wVv (As := []) (rest := []) ⟨hx, hb, hml, hown, hts⟩ (c_X9_asItIs l G hm0 S C Wy Li ml ms mw kn mi mk hz mh tr mt tn cu sa to nu wr it sS sC sL sW mq mn mc mr mb nf sf ) (cwV 0 hts gX9_most_X9_asItIs rfl rfl rfl pd_X9_asItIs ⟨(Nat.le_of_ble_eq_true rfl), (Nat.le_of_ble_eq_true rfl)⟩) hK hP hD hS [0, 1, 2] (by decide) rfl rfl rfl rfl (fun _ => Eq.trans (b := [hm0, mn, ms]) rfl rfl) rfl hl.1 rfl (Nat.le_of_ble_eq_true rfl) dX9_most_1 ⟨Nat.zero_le _, Nat.zero_le _⟩ (fun u_ H locs hw_1 hP hD hS => ?_)
  try dsimp only at hw_1
  have hP : kP G [(hm0, .inr (9, [.int (zI S), .int (zI C), .int (zI Wy), .int (zI Li), .ref ml, .ref ms, .ref mw, .int (zI kn), .ref mi, .ref mk, .int (zI hz), .ref mh, .long tr, .ref mt, .int (zI tn), .int (zI cu), .int (zI sa), .int (zI to), .int (zI nu), .int (zI wr), .int (zI it), .int (zI sS), .int (zI sC), .int (zI sL), .int (zI sW), .ref mq, .ref mn, .ref mc, .ref mr, .ref mb])), (mn, .inl (G.2.1, 15, .inl (aZ (cpK nf 0 sf 0 15)))), (ms, .inl (G.2.1, 15, .inl (aZ sf))), (ml, .inl (G.2.1, 12, .inl (aZ ld)))] H := hP
  have hD : va_D A [(hm0, .inr (9, [.int (zI S), .int (zI C), .int (zI Wy), .int (zI Li), .ref ml, .ref ms, .ref mw, .int (zI kn), .ref mi, .ref mk, .int (zI hz), .ref mh, .long tr, .ref mt, .int (zI tn), .int (zI cu), .int (zI sa), .int (zI to), .int (zI nu), .int (zI wr), .int (zI it), .int (zI sS), .int (zI sC), .int (zI sL), .int (zI sW), .ref mq, .ref mn, .ref mc, .ref mr, .ref mb])), (mn, .inl (G.2.1, 15, .inl (aZ (cpK nf 0 sf 0 15)))), (ms, .inl (G.2.1, 15, .inl (aZ sf))), (ml, .inl (G.2.1, 12, .inl (aZ ld)))] := hD
  refine lv_aload_n hx hb dX9_most_4 rfl (lv_at hl 0 rfl) ?_
  refine z_cV (As := []) (rest := []) ⟨hx, hb, hml, hown, hts⟩ (c_X9_isOut l G hm0 S C Wy Li ml ms mw kn mi mk hz mh tr mt tn cu sa to nu wr it sS sC sL sW mq mn mc mr mb (cpK nf 0 sf 0 15) (by first | assumption | omega) (by exact fun i h1 h2 => by rw [cp15 (by omega)]; exact hsr i h1 h2) (by first | assumption | omega)) (cwV 0 hts gX9_most_X9_isOut rfl rfl rfl pd_X9_isOut ⟨(Nat.le_of_ble_eq_true rfl), (Nat.le_of_ble_eq_true rfl)⟩) hK hP hS [0, 1] rfl rfl rfl rfl rfl hl.1 rfl (Nat.le_of_ble_eq_true rfl) dX9_most_5 ⟨Nat.zero_le _, Nat.zero_le _⟩ (fun H locs hP hS => ?_)
  refine z_ifeq_b (tgt := 13) hx hb dX9_most_8 (by decide) (fun c_2 => ?_) (fun c_2 => ?_)
  · refine lv_iconst (v := zI 1) hx hb dX9_most_13 rfl ?_
    refine lv_istore_n (lv' := [(1, .int (zI 1)), (0, .ref hm0)]) hx hb dX9_most_14 rfl hl (by decide) rfl (fun ls hl => ?_)
    refine lv_iconst (v := zI 0) hx hb dX9_most_15 rfl ?_
    refine lv_istore_n (lv' := [(2, .int (zI 0)), (1, .int (zI 1)), (0, .ref hm0)]) hx hb dX9_most_16 rfl hl (by decide) rfl (fun ls hl => ?_)
    have loop17 : ∀ (n_ : Nat) (w : Int) (su : Int) (H : Heap) (locs : List Loc) (ls : Array Slot), (0 ≤ w ∧ w ≤ Wy) → (su = rmZ (Li - 1) (fun i => sf (3 + i)) ld w.toNat + 1) → (Wy - w).toNat < n_ → kP G [(hm0, .inr (9, [.int (zI S), .int (zI C), .int (zI Wy), .int (zI Li), .ref ml, .ref ms, .ref mw, .int (zI kn), .ref mi, .ref mk, .int (zI hz), .ref mh, .long tr, .ref mt, .int (zI tn), .int (zI cu), .int (zI sa), .int (zI to), .int (zI nu), .int (zI wr), .int (zI it), .int (zI sS), .int (zI sC), .int (zI sL), .int (zI sW), .ref mq, .ref mn, .ref mc, .ref mr, .ref mb])), (mn, .inl (G.2.1, 15, .inl (aZ (cpK nf 0 sf 0 15)))), (ms, .inl (G.2.1, 15, .inl (aZ sf))), (ml, .inl (G.2.1, 12, .inl (aZ ld)))] H → va_D A [(hm0, .inr (9, [.int (zI S), .int (zI C), .int (zI Wy), .int (zI Li), .ref ml, .ref ms, .ref mw, .int (zI kn), .ref mi, .ref mk, .int (zI hz), .ref mh, .long tr, .ref mt, .int (zI tn), .int (zI cu), .int (zI sa), .int (zI to), .int (zI nu), .int (zI wr), .int (zI it), .int (zI sS), .int (zI sC), .int (zI sL), .int (zI sW), .ref mq, .ref mn, .ref mc, .ref mr, .ref mb])), (mn, .inl (G.2.1, 15, .inl (aZ (cpK nf 0 sf 0 15)))), (ms, .inl (G.2.1, 15, .inl (aZ sf))), (ml, .inl (G.2.1, 12, .inl (aZ ld)))] → va_S A s.heap H locs → lv_has ls 3 [(2, .int (zI w)), (1, .int (zI su)), (0, .ref hm0)] → W p l e rmX9_most s m ([.ref hm0] : List Value).toArray below meth c H locs 0 0 Q (F0 m 17 ls []) := by
      intro n_
      induction n_ with
      | zero =>
        intro w su H locs ls hw hsu hm
        exact absurd hm (Nat.not_lt_zero _)
      | succ n_ ih17 =>
        intro w su H locs ls hw hsu hm17 hP hD hS hl
        refine lv_iload_n hx hb dX9_most_17 rfl (lv_at hl 0 rfl) ?_
        refine lv_aload_n hx hb dX9_most_18 rfl (lv_at hl 2 rfl) ?_
        refine va_get (ci := 9) (v := .int (zI Wy)) (C := RX9) (T := TX9) (N := 30) hx hb hts i9 hown hK hP 0 rfl rfl 2 (by decide) f16 (fun _ h9 => h9) rfl dX9_most_19 ?_
        refine z_icmp_ge (tgt := 56) hx hb (by omega) dX9_most_22 (by decide) (fun c_3 => ?_) (fun c_3 => ?_)
        · refine lv_iload_n hx hb dX9_most_56 rfl (lv_at hl 1 rfl) ?_
          exact hret H locs ls 57 _ (cpK nf 0 sf 0 15) rfl ⟨congrArg zI (by rw [if_neg (by omega), hsu, show w = Wy by omega]), by trivial⟩ hP hS dX9_most_57
        · have hgw := grZ_ge (f := fun i => sf (3 + i)) Wy.toNat w hw.1 (by omega)
          have hsw := hsr w hw.1 (by omega)
          refine lv_iload_n hx hb dX9_most_25 rfl (lv_at hl 1 rfl) ?_
          refine lv_aload_n hx hb dX9_most_26 rfl (lv_at hl 2 rfl) ?_
          refine va_get (ci := 9) (v := .int (zI Li)) (C := RX9) (T := TX9) (N := 30) hx hb hts i9 hown hK hP 0 rfl rfl 3 (by decide) f19 (fun _ h9 => h9) rfl dX9_most_27 ?_
          refine lv_iconst (v := zI 1) hx hb dX9_most_30 rfl ?_
          refine z_isub hx hb dX9_most_31 ?_
          refine lv_aload_n hx hb dX9_most_32 rfl (lv_at hl 2 rfl) ?_
          refine va_get (ci := 9) (v := .ref ms) (C := RX9) (T := TX9) (N := 30) hx hb hts i9 hown hK hP 0 rfl rfl 5 (by decide) f26 (fun _ h9 => h9) rfl dX9_most_33 ?_
          refine lv_iconst (v := zI 3) hx hb dX9_most_36 rfl ?_
          refine lv_iload_n hx hb dX9_most_37 rfl (lv_at hl 0 rfl) ?_
          refine z_iadd hx hb dX9_most_38 ?_
          refine z_iald (n := 15) (f := sf) hx hb hK hP 2 rfl (by omega) dX9_most_39 ?_
          refine z_isub hx hb dX9_most_40 ?_
          refine lv_aload_n hx hb dX9_most_41 rfl (lv_at hl 2 rfl) ?_
          refine va_get (ci := 9) (v := .ref ml) (C := RX9) (T := TX9) (N := 30) hx hb hts i9 hown hK hP 0 rfl rfl 4 (by decide) f22 (fun _ h9 => h9) rfl dX9_most_42 ?_
          refine lv_iload_n hx hb dX9_most_45 rfl (lv_at hl 0 rfl) ?_
          refine z_iald (n := 12) (f := ld) hx hb hK hP 3 rfl (by omega) dX9_most_46 ?_
          have he_4 := hld w (by omega) (by omega)
          refine z_idiv hx hb (by omega) dX9_most_47 ?_
          refine z_iadd hx hb dX9_most_48 ?_
          refine lv_istore_n (lv' := [(1, .int (zI (su + (((Li - 1) - (sf (3 + w))) / (ld w))))), (2, .int (zI w)), (0, .ref hm0)]) hx hb dX9_most_49 rfl hl (by decide) rfl (fun ls hl => ?_)
          refine lv_iinc (v := zI (w + 1)) (lv' := [(2, .int (zI (w + 1))), (1, .int (zI (su + (((Li - 1) - (sf (3 + w))) / (ld w))))), (0, .ref hm0)]) hx hb dX9_most_50 hl (k := 1) rfl (zI_add _ _) (by decide) rfl (fun ls hl => ?_)
          refine lv_goto (tgt := 17) hx hb dX9_most_53 (by decide) ?_
          exact ih17 (w + 1) (su + (((Li - 1) - (sf (3 + w))) / (ld w))) H locs ls (by omega) (by rw [tn1 hw.1, rmZ, Int.toNat_of_nonneg hw.1, hsu]; omega) (by omega) hP hD hS (lv_sub hl [0, 1, 2] rfl)
    exact loop17 _ 0 1 H locs ls (by omega) rfl (Nat.lt_succ_self _) hP hD hS (lv_sub hl [0, 1, 2] rfl)
  · refine lv_iconst (v := zI 0) hx hb dX9_most_11 rfl ?_
    exact hret H locs ls 12 _ (cpK nf 0 sf 0 15) rfl ⟨congrArg zI (by rw [if_pos (by omega)]), by trivial⟩ hP hS dX9_most_12
theorem pd_X9_hollows : yX9_hollows.cls = RX9 ∧ yX9_hollows.cls ≠ "java/lang/invoke/MethodHandle" ∧ yX9_hollows.cls ≠ "java/lang/invoke/VarHandle" ∧ (parseMethodDescriptor yX9_hollows.desc).map (fun d => d.parameters.length) = some 3 := by decide +kernel
abbrev rmX9_hollows : Room := { frames := 2, cells := 0, slots := 0, locals := 43 }
set_option maxHeartbeats 4000000 in
set_option maxRecDepth 100000 in
theorem c_X9_hollows (l : Launch) (G : CX) (hm0 : Nat) (S : Int) (C : Int) (Wy : Int) (Li : Int) (ml : Nat) (ms : Nat) (mw : Nat) (kn : Int) (mi : Nat) (mk : Nat) (hz : Int) (mh : Nat) (tr : Int64) (mt : Nat) (tn : Int) (cu : Int) (sa : Int) (to : Int) (nu : Int) (wr : Int) (it : Int) (sS : Int) (sC : Int) (sL : Int) (sW : Int) (mq : Nat) (mn : Nat) (mc : Nat) (mr : Nat) (mb : Nat) (hf : Int → Int) (k : Int) (w : Int) (v : Int) (hW0 : 0 ≤ Wy ∧ Wy ≤ 12) (hhz : 0 ≤ hz ∧ hz ≤ 5) (hr_k : -2147483648 ≤ k ∧ k < 2147483648) (hr_w : -2147483648 ≤ w ∧ w < 2147483648) (hr_v : -2147483648 ≤ v ∧ v < 2147483648) : Met l yX9_hollows wsX9_hollows rmX9_hollows (wrP G [.ref hm0, .int (zI k), .int (zI w), .int (zI v)] [(hm0, .inr (9, [.int (zI S), .int (zI C), .int (zI Wy), .int (zI Li), .ref ml, .ref ms, .ref mw, .int (zI kn), .ref mi, .ref mk, .int (zI hz), .ref mh, .long tr, .ref mt, .int (zI tn), .int (zI cu), .int (zI sa), .int (zI to), .int (zI nu), .int (zI wr), .int (zI it), .int (zI sS), .int (zI sC), .int (zI sL), .int (zI sW), .ref mq, .ref mn, .ref mc, .ref mr, .ref mb])), (mh, .inl (G.2.1, 15, .inl (aZ hf)))]) (wrQ G [(hm0, .inr (9, [.int (zI S), .int (zI C), .int (zI Wy), .int (zI Li), .ref ml, .ref ms, .ref mw, .int (zI kn), .ref mi, .ref mk, .int (zI hz), .ref mh, .long tr, .ref mt, .int (zI tn), .int (zI cu), .int (zI sa), .int (zI to), .int (zI nu), .int (zI wr), .int (zI it), .int (zI sS), .int (zI sC), .int (zI sL), .int (zI sW), .ref mq, .ref mn, .ref mc, .ref mr, .ref mb])), (mh, .inl (G.2.1, 15, .inl (aZ hf)))] (fun (r_ : Int32) (u : Int × (Int → Int)) => match u with | (hz2, hf2) => r_ = zI (if ¬ ((0 ≤ k ∧ k ≤ 40) ∧ (0 ≤ w ∧ w < Wy) ∧ (0 ≤ v ∧ v ≤ 999)) then -1 else if hz < 5 then hz + 1 else -3) ∧ ((((0 ≤ k ∧ k ≤ 40) ∧ (0 ≤ w ∧ w < Wy) ∧ (0 ≤ v ∧ v ≤ 999)) ∧ hz < 5 → hz2 = hz + 1 ∧ hf2 = uZ (uZ (uZ hf (3 * hz) k) (3 * hz + 1) w) (3 * hz + 2) v) ∧ (¬ (((0 ≤ k ∧ k ≤ 40) ∧ (0 ≤ w ∧ w < Wy) ∧ (0 ≤ v ∧ v ≤ 999)) ∧ hz < 5) → hz2 = hz ∧ hf2 = hf))) (fun (u : Int × (Int → Int)) => match u with | (hz2, hf2) => [(hm0, .inr (9, [.int (zI S), .int (zI C), .int (zI Wy), .int (zI Li), .ref ml, .ref ms, .ref mw, .int (zI kn), .ref mi, .ref mk, .int (zI hz2), .ref mh, .long tr, .ref mt, .int (zI tn), .int (zI cu), .int (zI sa), .int (zI to), .int (zI nu), .int (zI wr), .int (zI it), .int (zI sS), .int (zI sC), .int (zI sL), .int (zI sW), .ref mq, .ref mn, .ref mc, .ref mr, .ref mb])), (mh, .inl (G.2.1, 15, .inl (aZ hf2)))])) 0 0 (wrA [(hm0, .inr (9, [.int (zI S), .int (zI C), .int (zI Wy), .int (zI Li), .ref ml, .ref ms, .ref mw, .int (zI kn), .ref mi, .ref mk, .int (zI hz), .ref mh, .long tr, .ref mt, .int (zI tn), .int (zI cu), .int (zI sa), .int (zI to), .int (zI nu), .int (zI wr), .int (zI it), .int (zI sS), .int (zI sC), .int (zI sL), .int (zI sW), .ref mq, .ref mn, .ref mc, .ref mr, .ref mb])), (mh, .inl (G.2.1, 15, .inl (aZ hf)))]) := by
  refine wr_ofW (cc := cX9_hollows) (maxL := 4) (ty := .int) (by decide) rfl (Nat.le_of_ble_eq_true rfl) ?_
  intro p e s m below meth c Q A hx hb hml hown hts hK hret H locs hP hD hS ls hl
  have hown : s.vm.findClass RX9 = some m.cls := hown
  have hl : lv_has ls 4 [(0, .ref hm0), (1, .int (zI k)), (2, .int (zI w)), (3, .int (zI v))] := hl
  have f125 := hts (.fieldLink RX9 125 "QuarterTurnsModel" "hollowMany" "I") (by decide +kernel)
  have i9 : ∀ w ∈ wsX90, w ∈ wsX9_hollows := fun w h => List.mem_cons_of_mem _ (List.mem_append_right _ h)
  have f39 := hts (.fieldLink RX9 39 "QuarterTurnsModel" "hollow" "[I") (by decide +kernel)
  refine lv_iload_n hx hb dX9_hollows_0 rfl (lv_at hl 1 rfl) ?_
  refine lv_iconst (v := zI 0) hx hb dX9_hollows_1 rfl ?_
  refine lv_bipush (v := zI 40) hx hb dX9_hollows_2 (by decide) ?_
  refine z_cS (As := [.int (zI k), .int (zI 0), .int (zI 40)]) (rest := []) ⟨hx, hb, hml, hown, hts⟩ (c_X9_in l G k 0 40 (by first | assumption | omega)) (va_cwS 3 hts gX9_hollows_X9_in rfl rfl rfl pd_X9_in.2 ⟨(Nat.le_of_ble_eq_true rfl), (Nat.le_of_ble_eq_true rfl)⟩) hK hP hS [] rfl rfl hl.1 rfl (Nat.le_of_ble_eq_true rfl) dX9_hollows_4 ⟨Nat.zero_le _, Nat.zero_le _⟩ (fun H locs hP hS => ?_)
  refine z_ifeq_b (tgt := 29) hx hb dX9_hollows_7 (by decide) (fun c_1 => ?_) (fun c_1 => ?_)
  · refine lv_iconst (v := zI (-1)) hx hb dX9_hollows_29 rfl ?_
    exact hret H locs ls 30 _ (hz, hf) rfl ⟨congrArg zI (by rw [if_pos (by omega)]), by refine ⟨fun h => ?_, fun h => ?_⟩ <;> first | exact ⟨rfl, rfl⟩ | omega⟩ hP hS dX9_hollows_30
  · refine lv_aload_n hx hb dX9_hollows_10 rfl (lv_at hl 0 rfl) ?_
    refine lv_iload_n hx hb dX9_hollows_11 rfl (lv_at hl 2 rfl) ?_
    refine z_cV (As := [.int (zI w)]) (rest := []) ⟨hx, hb, hml, hown, hts⟩ (c_X9_isWay l G hm0 S C Wy Li ml ms mw kn mi mk hz mh tr mt tn cu sa to nu wr it sS sC sL sW mq mn mc mr mb w (by first | assumption | omega) (by first | assumption | omega)) (cwV 1 hts gX9_hollows_X9_isWay rfl rfl rfl pd_X9_isWay ⟨(Nat.le_of_ble_eq_true rfl), (Nat.le_of_ble_eq_true rfl)⟩) hK hP hS [0] rfl rfl rfl rfl rfl hl.1 rfl (Nat.le_of_ble_eq_true rfl) dX9_hollows_12 ⟨Nat.zero_le _, Nat.zero_le _⟩ (fun H locs hP hS => ?_)
    refine z_ifeq_b (tgt := 29) hx hb dX9_hollows_15 (by decide) (fun c_2 => ?_) (fun c_2 => ?_)
    · refine lv_iconst (v := zI (-1)) hx hb dX9_hollows_29 rfl ?_
      exact hret H locs ls 30 _ (hz, hf) rfl ⟨congrArg zI (by rw [if_pos (by omega)]), by refine ⟨fun h => ?_, fun h => ?_⟩ <;> first | exact ⟨rfl, rfl⟩ | omega⟩ hP hS dX9_hollows_30
    · refine lv_iload_n hx hb dX9_hollows_18 rfl (lv_at hl 3 rfl) ?_
      refine lv_iconst (v := zI 0) hx hb dX9_hollows_19 rfl ?_
      refine lv_sipush (v := zI 999) hx hb dX9_hollows_20 (by decide) ?_
      refine z_cS (As := [.int (zI v), .int (zI 0), .int (zI 999)]) (rest := []) ⟨hx, hb, hml, hown, hts⟩ (c_X9_in l G v 0 999 (by first | assumption | omega)) (va_cwS 3 hts gX9_hollows_X9_in rfl rfl rfl pd_X9_in.2 ⟨(Nat.le_of_ble_eq_true rfl), (Nat.le_of_ble_eq_true rfl)⟩) hK hP hS [] rfl rfl hl.1 rfl (Nat.le_of_ble_eq_true rfl) dX9_hollows_23 ⟨Nat.zero_le _, Nat.zero_le _⟩ (fun H locs hP hS => ?_)
      refine z_ifne_b (tgt := 31) hx hb dX9_hollows_26 (by decide) (fun c_3 => ?_) (fun c_3 => ?_)
      · refine lv_aload_n hx hb dX9_hollows_31 rfl (lv_at hl 0 rfl) ?_
        refine va_get (ci := 9) (v := .int (zI hz)) (C := RX9) (T := TX9) (N := 30) hx hb hts i9 hown hK hP 0 rfl rfl 10 (by decide) f125 (fun _ h9 => h9) rfl dX9_hollows_32 ?_
        refine lv_iconst (v := zI 5) hx hb dX9_hollows_35 rfl ?_
        refine z_icmp_ne (tgt := 42) hx hb (by omega) dX9_hollows_36 (by decide) (fun c_4 => ?_) (fun c_4 => ?_)
        · refine lv_aload_n hx hb dX9_hollows_42 rfl (lv_at hl 0 rfl) ?_
          refine va_get (ci := 9) (v := .ref mh) (C := RX9) (T := TX9) (N := 30) hx hb hts i9 hown hK hP 0 rfl rfl 11 (by decide) f39 (fun _ h9 => h9) rfl dX9_hollows_43 ?_
          refine lv_iconst (v := zI 3) hx hb dX9_hollows_46 rfl ?_
          refine lv_aload_n hx hb dX9_hollows_47 rfl (lv_at hl 0 rfl) ?_
          refine va_get (ci := 9) (v := .int (zI hz)) (C := RX9) (T := TX9) (N := 30) hx hb hts i9 hown hK hP 0 rfl rfl 10 (by decide) f125 (fun _ h9 => h9) rfl dX9_hollows_48 ?_
          refine z_imul hx hb dX9_hollows_51 ?_
          refine lv_iload_n hx hb dX9_hollows_52 rfl (lv_at hl 1 rfl) ?_
          refine z_iast (n := 15) (f := hf) (i := 3 * hz) (v := k) hx hb hK hP hD hS 1 rfl (by omega) dX9_hollows_53 (fun H locs hP hD hS => ?_)
          have hP : kP G [(hm0, .inr (9, [.int (zI S), .int (zI C), .int (zI Wy), .int (zI Li), .ref ml, .ref ms, .ref mw, .int (zI kn), .ref mi, .ref mk, .int (zI hz), .ref mh, .long tr, .ref mt, .int (zI tn), .int (zI cu), .int (zI sa), .int (zI to), .int (zI nu), .int (zI wr), .int (zI it), .int (zI sS), .int (zI sC), .int (zI sL), .int (zI sW), .ref mq, .ref mn, .ref mc, .ref mr, .ref mb])), (mh, .inl (G.2.1, 15, .inl (aZ (uZ hf (3 * hz) k))))] H := hP
          have hD : va_D A [(hm0, .inr (9, [.int (zI S), .int (zI C), .int (zI Wy), .int (zI Li), .ref ml, .ref ms, .ref mw, .int (zI kn), .ref mi, .ref mk, .int (zI hz), .ref mh, .long tr, .ref mt, .int (zI tn), .int (zI cu), .int (zI sa), .int (zI to), .int (zI nu), .int (zI wr), .int (zI it), .int (zI sS), .int (zI sC), .int (zI sL), .int (zI sW), .ref mq, .ref mn, .ref mc, .ref mr, .ref mb])), (mh, .inl (G.2.1, 15, .inl (aZ (uZ hf (3 * hz) k))))] := hD
          refine lv_aload_n hx hb dX9_hollows_54 rfl (lv_at hl 0 rfl) ?_
          refine va_get (ci := 9) (v := .ref mh) (C := RX9) (T := TX9) (N := 30) hx hb hts i9 hown hK hP 0 rfl rfl 11 (by decide) f39 (fun _ h9 => h9) rfl dX9_hollows_55 ?_
          refine lv_iconst (v := zI 3) hx hb dX9_hollows_58 rfl ?_
          refine lv_aload_n hx hb dX9_hollows_59 rfl (lv_at hl 0 rfl) ?_
          refine va_get (ci := 9) (v := .int (zI hz)) (C := RX9) (T := TX9) (N := 30) hx hb hts i9 hown hK hP 0 rfl rfl 10 (by decide) f125 (fun _ h9 => h9) rfl dX9_hollows_60 ?_
          refine z_imul hx hb dX9_hollows_63 ?_
          refine lv_iconst (v := zI 1) hx hb dX9_hollows_64 rfl ?_
          refine z_iadd hx hb dX9_hollows_65 ?_
          refine lv_iload_n hx hb dX9_hollows_66 rfl (lv_at hl 2 rfl) ?_
          refine z_iast (n := 15) (f := uZ hf (3 * hz) k) (i := (3 * hz) + 1) (v := w) hx hb hK hP hD hS 1 rfl (by omega) dX9_hollows_67 (fun H locs hP hD hS => ?_)
          have hP : kP G [(hm0, .inr (9, [.int (zI S), .int (zI C), .int (zI Wy), .int (zI Li), .ref ml, .ref ms, .ref mw, .int (zI kn), .ref mi, .ref mk, .int (zI hz), .ref mh, .long tr, .ref mt, .int (zI tn), .int (zI cu), .int (zI sa), .int (zI to), .int (zI nu), .int (zI wr), .int (zI it), .int (zI sS), .int (zI sC), .int (zI sL), .int (zI sW), .ref mq, .ref mn, .ref mc, .ref mr, .ref mb])), (mh, .inl (G.2.1, 15, .inl (aZ (uZ (uZ hf (3 * hz) k) ((3 * hz) + 1) w))))] H := hP
          have hD : va_D A [(hm0, .inr (9, [.int (zI S), .int (zI C), .int (zI Wy), .int (zI Li), .ref ml, .ref ms, .ref mw, .int (zI kn), .ref mi, .ref mk, .int (zI hz), .ref mh, .long tr, .ref mt, .int (zI tn), .int (zI cu), .int (zI sa), .int (zI to), .int (zI nu), .int (zI wr), .int (zI it), .int (zI sS), .int (zI sC), .int (zI sL), .int (zI sW), .ref mq, .ref mn, .ref mc, .ref mr, .ref mb])), (mh, .inl (G.2.1, 15, .inl (aZ (uZ (uZ hf (3 * hz) k) ((3 * hz) + 1) w))))] := hD
          refine lv_aload_n hx hb dX9_hollows_68 rfl (lv_at hl 0 rfl) ?_
          refine va_get (ci := 9) (v := .ref mh) (C := RX9) (T := TX9) (N := 30) hx hb hts i9 hown hK hP 0 rfl rfl 11 (by decide) f39 (fun _ h9 => h9) rfl dX9_hollows_69 ?_
          refine lv_iconst (v := zI 3) hx hb dX9_hollows_72 rfl ?_
          refine lv_aload_n hx hb dX9_hollows_73 rfl (lv_at hl 0 rfl) ?_
          refine va_get (ci := 9) (v := .int (zI hz)) (C := RX9) (T := TX9) (N := 30) hx hb hts i9 hown hK hP 0 rfl rfl 10 (by decide) f125 (fun _ h9 => h9) rfl dX9_hollows_74 ?_
          refine z_imul hx hb dX9_hollows_77 ?_
          refine lv_iconst (v := zI 2) hx hb dX9_hollows_78 rfl ?_
          refine z_iadd hx hb dX9_hollows_79 ?_
          refine lv_iload_n hx hb dX9_hollows_80 rfl (lv_at hl 3 rfl) ?_
          refine z_iast (n := 15) (f := uZ (uZ hf (3 * hz) k) ((3 * hz) + 1) w) (i := (3 * hz) + 2) (v := v) hx hb hK hP hD hS 1 rfl (by omega) dX9_hollows_81 (fun H locs hP hD hS => ?_)
          have hP : kP G [(hm0, .inr (9, [.int (zI S), .int (zI C), .int (zI Wy), .int (zI Li), .ref ml, .ref ms, .ref mw, .int (zI kn), .ref mi, .ref mk, .int (zI hz), .ref mh, .long tr, .ref mt, .int (zI tn), .int (zI cu), .int (zI sa), .int (zI to), .int (zI nu), .int (zI wr), .int (zI it), .int (zI sS), .int (zI sC), .int (zI sL), .int (zI sW), .ref mq, .ref mn, .ref mc, .ref mr, .ref mb])), (mh, .inl (G.2.1, 15, .inl (aZ (uZ (uZ (uZ hf (3 * hz) k) ((3 * hz) + 1) w) ((3 * hz) + 2) v))))] H := hP
          have hD : va_D A [(hm0, .inr (9, [.int (zI S), .int (zI C), .int (zI Wy), .int (zI Li), .ref ml, .ref ms, .ref mw, .int (zI kn), .ref mi, .ref mk, .int (zI hz), .ref mh, .long tr, .ref mt, .int (zI tn), .int (zI cu), .int (zI sa), .int (zI to), .int (zI nu), .int (zI wr), .int (zI it), .int (zI sS), .int (zI sC), .int (zI sL), .int (zI sW), .ref mq, .ref mn, .ref mc, .ref mr, .ref mb])), (mh, .inl (G.2.1, 15, .inl (aZ (uZ (uZ (uZ hf (3 * hz) k) ((3 * hz) + 1) w) ((3 * hz) + 2) v))))] := hD
          refine lv_aload_n hx hb dX9_hollows_82 rfl (lv_at hl 0 rfl) ?_
          refine lv_dup hx hb dX9_hollows_83 rfl ?_
          refine va_get (ci := 9) (v := .int (zI hz)) (C := RX9) (T := TX9) (N := 30) hx hb hts i9 hown hK hP 0 rfl rfl 10 (by decide) f125 (fun _ h9 => h9) rfl dX9_hollows_84 ?_
          refine lv_iconst (v := zI 1) hx hb dX9_hollows_87 rfl ?_
          refine z_iadd hx hb dX9_hollows_88 ?_
          refine va_put (ci := 9) (v := .int (zI (hz + 1))) (ty := .int) (C := RX9) (T := TX9) (N := 30) hx hb hts i9 tyX9 tyX9_ok nmX9 hown hK hP hD hS 0 rfl rfl 10 (by decide) f125 (fun _ h9 => h9) rfl (tyX9_ok 10 (by decide)) rfl rfl (Nat.le_of_ble_eq_true rfl) dX9_hollows_89 (fun H locs hP hD hS => ?_)
          have hP : kP G [(hm0, .inr (9, [.int (zI S), .int (zI C), .int (zI Wy), .int (zI Li), .ref ml, .ref ms, .ref mw, .int (zI kn), .ref mi, .ref mk, .int (zI (hz + 1)), .ref mh, .long tr, .ref mt, .int (zI tn), .int (zI cu), .int (zI sa), .int (zI to), .int (zI nu), .int (zI wr), .int (zI it), .int (zI sS), .int (zI sC), .int (zI sL), .int (zI sW), .ref mq, .ref mn, .ref mc, .ref mr, .ref mb])), (mh, .inl (G.2.1, 15, .inl (aZ (uZ (uZ (uZ hf (3 * hz) k) ((3 * hz) + 1) w) ((3 * hz) + 2) v))))] H := hP
          have hD : va_D A [(hm0, .inr (9, [.int (zI S), .int (zI C), .int (zI Wy), .int (zI Li), .ref ml, .ref ms, .ref mw, .int (zI kn), .ref mi, .ref mk, .int (zI (hz + 1)), .ref mh, .long tr, .ref mt, .int (zI tn), .int (zI cu), .int (zI sa), .int (zI to), .int (zI nu), .int (zI wr), .int (zI it), .int (zI sS), .int (zI sC), .int (zI sL), .int (zI sW), .ref mq, .ref mn, .ref mc, .ref mr, .ref mb])), (mh, .inl (G.2.1, 15, .inl (aZ (uZ (uZ (uZ hf (3 * hz) k) ((3 * hz) + 1) w) ((3 * hz) + 2) v))))] := hD
          refine lv_aload_n hx hb dX9_hollows_92 rfl (lv_at hl 0 rfl) ?_
          refine va_get (ci := 9) (v := .int (zI (hz + 1))) (C := RX9) (T := TX9) (N := 30) hx hb hts i9 hown hK hP 0 rfl rfl 10 (by decide) f125 (fun _ h9 => h9) rfl dX9_hollows_93 ?_
          exact hret H locs ls 96 _ (hz + 1, uZ (uZ (uZ hf (3 * hz) k) ((3 * hz) + 1) w) ((3 * hz) + 2) v) rfl ⟨congrArg zI (by rw [if_neg (by omega), if_pos (by omega)]), by refine ⟨fun h => ?_, fun h => ?_⟩ <;> first | exact ⟨rfl, rfl⟩ | omega⟩ hP hS dX9_hollows_96
        · refine lv_bipush (v := zI (-3)) hx hb dX9_hollows_39 (by decide) ?_
          exact hret H locs ls 41 _ (hz, hf) rfl ⟨congrArg zI (by rw [if_neg (by omega), if_neg (by omega)]), by refine ⟨fun h => ?_, fun h => ?_⟩ <;> first | exact ⟨rfl, rfl⟩ | omega⟩ hP hS dX9_hollows_41
      · refine lv_iconst (v := zI (-1)) hx hb dX9_hollows_29 rfl ?_
        exact hret H locs ls 30 _ (hz, hf) rfl ⟨congrArg zI (by rw [if_pos (by omega)]), by refine ⟨fun h => ?_, fun h => ?_⟩ <;> first | exact ⟨rfl, rfl⟩ | omega⟩ hP hS dX9_hollows_30
theorem pd_X9_wayRate : yX9_wayRate.cls = RX9 ∧ yX9_wayRate.cls ≠ "java/lang/invoke/MethodHandle" ∧ yX9_wayRate.cls ≠ "java/lang/invoke/VarHandle" ∧ (parseMethodDescriptor yX9_wayRate.desc).map (fun d => d.parameters.length) = some 1 := by decide +kernel
abbrev rmX9_wayRate : Room := { frames := 0, cells := 0, slots := 0, locals := 0 }
set_option maxHeartbeats 4000000 in
set_option maxRecDepth 100000 in
theorem c_X9_wayRate (l : Launch) (G : CX) (hm0 : Nat) (S : Int) (C : Int) (Wy : Int) (Li : Int) (ml : Nat) (ms : Nat) (mw : Nat) (kn : Int) (mi : Nat) (mk : Nat) (hz : Int) (mh : Nat) (tr : Int64) (mt : Nat) (tn : Int) (cu : Int) (sa : Int) (to : Int) (nu : Int) (wr : Int) (it : Int) (sS : Int) (sC : Int) (sL : Int) (sW : Int) (mq : Nat) (mn : Nat) (mc : Nat) (mr : Nat) (mb : Nat) (sf : Int → Int) (ld : Int → Int) (w : Int) (hB : (2 ≤ S ∧ S ≤ 6) ∧ (C = 1 ∧ Wy = S ∨ C = 2 ∧ Wy = 2 * S)) (hw : 0 ≤ w ∧ w < Wy) : Met l yX9_wayRate wsX9_wayRate rmX9_wayRate (wrP G [.ref hm0, .int (zI w)] [(hm0, .inr (9, [.int (zI S), .int (zI C), .int (zI Wy), .int (zI Li), .ref ml, .ref ms, .ref mw, .int (zI kn), .ref mi, .ref mk, .int (zI hz), .ref mh, .long tr, .ref mt, .int (zI tn), .int (zI cu), .int (zI sa), .int (zI to), .int (zI nu), .int (zI wr), .int (zI it), .int (zI sS), .int (zI sC), .int (zI sL), .int (zI sW), .ref mq, .ref mn, .ref mc, .ref mr, .ref mb])), (ms, .inl (G.2.1, 15, .inl (aZ sf))), (ml, .inl (G.2.1, 12, .inl (aZ ld)))]) (wrQ G [(hm0, .inr (9, [.int (zI S), .int (zI C), .int (zI Wy), .int (zI Li), .ref ml, .ref ms, .ref mw, .int (zI kn), .ref mi, .ref mk, .int (zI hz), .ref mh, .long tr, .ref mt, .int (zI tn), .int (zI cu), .int (zI sa), .int (zI to), .int (zI nu), .int (zI wr), .int (zI it), .int (zI sS), .int (zI sC), .int (zI sL), .int (zI sW), .ref mq, .ref mn, .ref mc, .ref mr, .ref mb])), (ms, .inl (G.2.1, 15, .inl (aZ sf))), (ml, .inl (G.2.1, 12, .inl (aZ ld)))] (fun (r_ : Int32) (u : Unit) => match u with | _ => r_ = zI (sf (3 + w)) ∧ (True)) (fun (u : Unit) => match u with | _ => [(hm0, .inr (9, [.int (zI S), .int (zI C), .int (zI Wy), .int (zI Li), .ref ml, .ref ms, .ref mw, .int (zI kn), .ref mi, .ref mk, .int (zI hz), .ref mh, .long (tr + cL1), .ref mt, .int (zI tn), .int (zI cu), .int (zI sa), .int (zI to), .int (zI nu), .int (zI wr), .int (zI it), .int (zI sS), .int (zI sC), .int (zI sL), .int (zI sW), .ref mq, .ref mn, .ref mc, .ref mr, .ref mb])), (ms, .inl (G.2.1, 15, .inl (aZ sf))), (ml, .inl (G.2.1, 12, .inl (aZ ld)))])) 0 0 (wrA [(hm0, .inr (9, [.int (zI S), .int (zI C), .int (zI Wy), .int (zI Li), .ref ml, .ref ms, .ref mw, .int (zI kn), .ref mi, .ref mk, .int (zI hz), .ref mh, .long tr, .ref mt, .int (zI tn), .int (zI cu), .int (zI sa), .int (zI to), .int (zI nu), .int (zI wr), .int (zI it), .int (zI sS), .int (zI sC), .int (zI sL), .int (zI sW), .ref mq, .ref mn, .ref mc, .ref mr, .ref mb])), (ms, .inl (G.2.1, 15, .inl (aZ sf))), (ml, .inl (G.2.1, 12, .inl (aZ ld)))]) := by
  refine wr_ofW (cc := cX9_wayRate) (maxL := 2) (ty := .int) (by decide) rfl (Nat.le_of_ble_eq_true rfl) ?_
  intro p e s m below meth c Q A hx hb hml hown hts hK hret H locs hP hD hS ls hl
  have hown : s.vm.findClass RX9 = some m.cls := hown
  have hl : lv_has ls 2 [(0, .ref hm0), (1, .int (zI w))] := hl
  have f184 := hts (.fieldLink RX9 184 "QuarterTurnsModel" "trace" "J") (by decide +kernel)
  have i9 : ∀ w ∈ wsX90, w ∈ wsX9_wayRate := fun w h => List.mem_cons_of_mem _ (List.mem_append_right _ h)
  have f26 := hts (.fieldLink RX9 26 "QuarterTurnsModel" "st" "[I") (by decide +kernel)
  refine lv_aload_n hx hb dX9_wayRate_0 rfl (lv_at hl 0 rfl) ?_
  refine lv_dup hx hb dX9_wayRate_1 rfl ?_
  refine va_get (ci := 9) (v := .long tr) (C := RX9) (T := TX9) (N := 30) hx hb hts i9 hown hK hP 0 rfl rfl 12 (by decide) f184 (fun _ h9 => h9) rfl dX9_wayRate_2 ?_
  refine lv_lconst (v := cL1) hx hb dX9_wayRate_5 rfl ?_
  refine lv_ladd hx hb dX9_wayRate_6 ?_
  refine va_put (ci := 9) (v := .long (tr + cL1)) (ty := .long) (C := RX9) (T := TX9) (N := 30) hx hb hts i9 tyX9 tyX9_ok nmX9 hown hK hP hD hS 0 rfl rfl 12 (by decide) f184 (fun _ h9 => h9) rfl (tyX9_ok 12 (by decide)) rfl rfl (Nat.le_of_ble_eq_true rfl) dX9_wayRate_7 (fun H locs hP hD hS => ?_)
  have hP : kP G [(hm0, .inr (9, [.int (zI S), .int (zI C), .int (zI Wy), .int (zI Li), .ref ml, .ref ms, .ref mw, .int (zI kn), .ref mi, .ref mk, .int (zI hz), .ref mh, .long (tr + cL1), .ref mt, .int (zI tn), .int (zI cu), .int (zI sa), .int (zI to), .int (zI nu), .int (zI wr), .int (zI it), .int (zI sS), .int (zI sC), .int (zI sL), .int (zI sW), .ref mq, .ref mn, .ref mc, .ref mr, .ref mb])), (ms, .inl (G.2.1, 15, .inl (aZ sf))), (ml, .inl (G.2.1, 12, .inl (aZ ld)))] H := hP
  have hD : va_D A [(hm0, .inr (9, [.int (zI S), .int (zI C), .int (zI Wy), .int (zI Li), .ref ml, .ref ms, .ref mw, .int (zI kn), .ref mi, .ref mk, .int (zI hz), .ref mh, .long (tr + cL1), .ref mt, .int (zI tn), .int (zI cu), .int (zI sa), .int (zI to), .int (zI nu), .int (zI wr), .int (zI it), .int (zI sS), .int (zI sC), .int (zI sL), .int (zI sW), .ref mq, .ref mn, .ref mc, .ref mr, .ref mb])), (ms, .inl (G.2.1, 15, .inl (aZ sf))), (ml, .inl (G.2.1, 12, .inl (aZ ld)))] := hD
  refine lv_aload_n hx hb dX9_wayRate_10 rfl (lv_at hl 0 rfl) ?_
  refine va_get (ci := 9) (v := .ref ms) (C := RX9) (T := TX9) (N := 30) hx hb hts i9 hown hK hP 0 rfl rfl 5 (by decide) f26 (fun _ h9 => h9) rfl dX9_wayRate_11 ?_
  refine lv_iconst (v := zI 3) hx hb dX9_wayRate_14 rfl ?_
  refine lv_iload_n hx hb dX9_wayRate_15 rfl (lv_at hl 1 rfl) ?_
  refine z_iadd hx hb dX9_wayRate_16 ?_
  refine z_iald (n := 15) (f := sf) hx hb hK hP 1 rfl (by omega) dX9_wayRate_17 ?_
  exact hret H locs ls 18 _ () rfl ⟨congrArg zI (by rfl), by trivial⟩ hP hS dX9_wayRate_18
theorem pd_X9_endRate : yX9_endRate.cls = RX9 ∧ yX9_endRate.cls ≠ "java/lang/invoke/MethodHandle" ∧ yX9_endRate.cls ≠ "java/lang/invoke/VarHandle" ∧ (parseMethodDescriptor yX9_endRate.desc).map (fun d => d.parameters.length) = some 1 := by decide +kernel
abbrev rmX9_endRate : Room := { frames := 1, cells := 0, slots := 0, locals := 21 }
set_option maxHeartbeats 4000000 in
set_option maxRecDepth 100000 in
theorem c_X9_endRate (l : Launch) (G : CX) (hm0 : Nat) (S : Int) (C : Int) (Wy : Int) (Li : Int) (ml : Nat) (ms : Nat) (mw : Nat) (kn : Int) (mi : Nat) (mk : Nat) (hz : Int) (mh : Nat) (tr : Int64) (mt : Nat) (tn : Int) (cu : Int) (sa : Int) (to : Int) (nu : Int) (wr : Int) (it : Int) (sS : Int) (sC : Int) (sL : Int) (sW : Int) (mq : Nat) (mn : Nat) (mc : Nat) (mr : Nat) (mb : Nat) (sf : Int → Int) (ld : Int → Int) (w : Int) (hB : (2 ≤ S ∧ S ≤ 6) ∧ (C = 1 ∧ Wy = S ∨ C = 2 ∧ Wy = 2 * S)) (hw : 0 ≤ w ∧ w < Wy) : Met l yX9_endRate wsX9_endRate rmX9_endRate (wrP G [.ref hm0, .int (zI w)] [(hm0, .inr (9, [.int (zI S), .int (zI C), .int (zI Wy), .int (zI Li), .ref ml, .ref ms, .ref mw, .int (zI kn), .ref mi, .ref mk, .int (zI hz), .ref mh, .long tr, .ref mt, .int (zI tn), .int (zI cu), .int (zI sa), .int (zI to), .int (zI nu), .int (zI wr), .int (zI it), .int (zI sS), .int (zI sC), .int (zI sL), .int (zI sW), .ref mq, .ref mn, .ref mc, .ref mr, .ref mb])), (ms, .inl (G.2.1, 15, .inl (aZ sf))), (ml, .inl (G.2.1, 12, .inl (aZ ld)))]) (wrQ G [(hm0, .inr (9, [.int (zI S), .int (zI C), .int (zI Wy), .int (zI Li), .ref ml, .ref ms, .ref mw, .int (zI kn), .ref mi, .ref mk, .int (zI hz), .ref mh, .long tr, .ref mt, .int (zI tn), .int (zI cu), .int (zI sa), .int (zI to), .int (zI nu), .int (zI wr), .int (zI it), .int (zI sS), .int (zI sC), .int (zI sL), .int (zI sW), .ref mq, .ref mn, .ref mc, .ref mr, .ref mb])), (ms, .inl (G.2.1, 15, .inl (aZ sf))), (ml, .inl (G.2.1, 12, .inl (aZ ld)))] (fun (r_ : Int32) (u : Unit) => match u with | _ => r_ = zI (sf (3 + w) + ld w) ∧ (True)) (fun (u : Unit) => match u with | _ => [(hm0, .inr (9, [.int (zI S), .int (zI C), .int (zI Wy), .int (zI Li), .ref ml, .ref ms, .ref mw, .int (zI kn), .ref mi, .ref mk, .int (zI hz), .ref mh, .long (tr + cL10 + cL1), .ref mt, .int (zI tn), .int (zI cu), .int (zI sa), .int (zI to), .int (zI nu), .int (zI wr), .int (zI it), .int (zI sS), .int (zI sC), .int (zI sL), .int (zI sW), .ref mq, .ref mn, .ref mc, .ref mr, .ref mb])), (ms, .inl (G.2.1, 15, .inl (aZ sf))), (ml, .inl (G.2.1, 12, .inl (aZ ld)))])) 0 0 (wrA [(hm0, .inr (9, [.int (zI S), .int (zI C), .int (zI Wy), .int (zI Li), .ref ml, .ref ms, .ref mw, .int (zI kn), .ref mi, .ref mk, .int (zI hz), .ref mh, .long tr, .ref mt, .int (zI tn), .int (zI cu), .int (zI sa), .int (zI to), .int (zI nu), .int (zI wr), .int (zI it), .int (zI sS), .int (zI sC), .int (zI sL), .int (zI sW), .ref mq, .ref mn, .ref mc, .ref mr, .ref mb])), (ms, .inl (G.2.1, 15, .inl (aZ sf))), (ml, .inl (G.2.1, 12, .inl (aZ ld)))]) := by
  refine wr_ofW (cc := cX9_endRate) (maxL := 2) (ty := .int) (by decide) rfl (Nat.le_of_ble_eq_true rfl) ?_
  intro p e s m below meth c Q A hx hb hml hown hts hK hret H locs hP hD hS ls hl
  have hown : s.vm.findClass RX9 = some m.cls := hown
  have hl : lv_has ls 2 [(0, .ref hm0), (1, .int (zI w))] := hl
  have f184 := hts (.fieldLink RX9 184 "QuarterTurnsModel" "trace" "J") (by decide +kernel)
  have i9 : ∀ w ∈ wsX90, w ∈ wsX9_endRate := fun w h => List.mem_cons_of_mem _ (List.mem_append_right _ h)
  have f22 := hts (.fieldLink RX9 22 "QuarterTurnsModel" "load" "[I") (by decide +kernel)
  refine lv_aload_n hx hb dX9_endRate_0 rfl (lv_at hl 0 rfl) ?_
  refine lv_dup hx hb dX9_endRate_1 rfl ?_
  refine va_get (ci := 9) (v := .long tr) (C := RX9) (T := TX9) (N := 30) hx hb hts i9 hown hK hP 0 rfl rfl 12 (by decide) f184 (fun _ h9 => h9) rfl dX9_endRate_2 ?_
  refine lv_ldc2 (v := cL10) hx hb hown (hts (.constantLong RX9 188 (10)) (by decide +kernel)) dX9_endRate_5 ?_
  refine lv_ladd hx hb dX9_endRate_8 ?_
  refine va_put (ci := 9) (v := .long (tr + cL10)) (ty := .long) (C := RX9) (T := TX9) (N := 30) hx hb hts i9 tyX9 tyX9_ok nmX9 hown hK hP hD hS 0 rfl rfl 12 (by decide) f184 (fun _ h9 => h9) rfl (tyX9_ok 12 (by decide)) rfl rfl (Nat.le_of_ble_eq_true rfl) dX9_endRate_9 (fun H locs hP hD hS => ?_)
  have hP : kP G [(hm0, .inr (9, [.int (zI S), .int (zI C), .int (zI Wy), .int (zI Li), .ref ml, .ref ms, .ref mw, .int (zI kn), .ref mi, .ref mk, .int (zI hz), .ref mh, .long (tr + cL10), .ref mt, .int (zI tn), .int (zI cu), .int (zI sa), .int (zI to), .int (zI nu), .int (zI wr), .int (zI it), .int (zI sS), .int (zI sC), .int (zI sL), .int (zI sW), .ref mq, .ref mn, .ref mc, .ref mr, .ref mb])), (ms, .inl (G.2.1, 15, .inl (aZ sf))), (ml, .inl (G.2.1, 12, .inl (aZ ld)))] H := hP
  have hD : va_D A [(hm0, .inr (9, [.int (zI S), .int (zI C), .int (zI Wy), .int (zI Li), .ref ml, .ref ms, .ref mw, .int (zI kn), .ref mi, .ref mk, .int (zI hz), .ref mh, .long (tr + cL10), .ref mt, .int (zI tn), .int (zI cu), .int (zI sa), .int (zI to), .int (zI nu), .int (zI wr), .int (zI it), .int (zI sS), .int (zI sC), .int (zI sL), .int (zI sW), .ref mq, .ref mn, .ref mc, .ref mr, .ref mb])), (ms, .inl (G.2.1, 15, .inl (aZ sf))), (ml, .inl (G.2.1, 12, .inl (aZ ld)))] := hD
  refine lv_aload_n hx hb dX9_endRate_12 rfl (lv_at hl 0 rfl) ?_
  refine lv_iload_n hx hb dX9_endRate_13 rfl (lv_at hl 1 rfl) ?_
  refine z_wV (As := [.int (zI w)]) (rest := []) ⟨hx, hb, hml, hown, hts⟩ (c_X9_wayRate l G hm0 S C Wy Li ml ms mw kn mi mk hz mh (tr + cL10) mt tn cu sa to nu wr it sS sC sL sW mq mn mc mr mb sf ld w (by first | assumption | omega) (by first | assumption | omega)) (cwV 1 hts gX9_endRate_X9_wayRate rfl rfl rfl pd_X9_wayRate ⟨(Nat.le_of_ble_eq_true rfl), (Nat.le_of_ble_eq_true rfl)⟩) hK hP hD hS [0, 1, 2] (by decide) rfl rfl rfl rfl (fun _ => Eq.trans (b := [hm0, ms, ml]) rfl rfl) rfl hl.1 rfl (Nat.le_of_ble_eq_true rfl) dX9_endRate_14 ⟨Nat.zero_le _, Nat.zero_le _⟩ (fun r_ u_ H locs hw_1 hP hD hS => ?_)
  obtain ⟨rfl, hw_1⟩ := hw_1
  try dsimp only at hw_1
  have hP : kP G [(hm0, .inr (9, [.int (zI S), .int (zI C), .int (zI Wy), .int (zI Li), .ref ml, .ref ms, .ref mw, .int (zI kn), .ref mi, .ref mk, .int (zI hz), .ref mh, .long ((tr + cL10) + cL1), .ref mt, .int (zI tn), .int (zI cu), .int (zI sa), .int (zI to), .int (zI nu), .int (zI wr), .int (zI it), .int (zI sS), .int (zI sC), .int (zI sL), .int (zI sW), .ref mq, .ref mn, .ref mc, .ref mr, .ref mb])), (ms, .inl (G.2.1, 15, .inl (aZ sf))), (ml, .inl (G.2.1, 12, .inl (aZ ld)))] H := hP
  have hD : va_D A [(hm0, .inr (9, [.int (zI S), .int (zI C), .int (zI Wy), .int (zI Li), .ref ml, .ref ms, .ref mw, .int (zI kn), .ref mi, .ref mk, .int (zI hz), .ref mh, .long ((tr + cL10) + cL1), .ref mt, .int (zI tn), .int (zI cu), .int (zI sa), .int (zI to), .int (zI nu), .int (zI wr), .int (zI it), .int (zI sS), .int (zI sC), .int (zI sL), .int (zI sW), .ref mq, .ref mn, .ref mc, .ref mr, .ref mb])), (ms, .inl (G.2.1, 15, .inl (aZ sf))), (ml, .inl (G.2.1, 12, .inl (aZ ld)))] := hD
  refine lv_aload_n hx hb dX9_endRate_17 rfl (lv_at hl 0 rfl) ?_
  refine va_get (ci := 9) (v := .ref ml) (C := RX9) (T := TX9) (N := 30) hx hb hts i9 hown hK hP 0 rfl rfl 4 (by decide) f22 (fun _ h9 => h9) rfl dX9_endRate_18 ?_
  refine lv_iload_n hx hb dX9_endRate_21 rfl (lv_at hl 1 rfl) ?_
  refine z_iald (n := 12) (f := ld) hx hb hK hP 2 rfl (by omega) dX9_endRate_22 ?_
  refine z_iadd hx hb dX9_endRate_23 ?_
  exact hret H locs ls 24 _ () rfl ⟨congrArg zI (by rfl), by trivial⟩ hP hS dX9_endRate_24
theorem pd_X9_sideRate : yX9_sideRate.cls = RX9 ∧ yX9_sideRate.cls ≠ "java/lang/invoke/MethodHandle" ∧ yX9_sideRate.cls ≠ "java/lang/invoke/VarHandle" ∧ (parseMethodDescriptor yX9_sideRate.desc).map (fun d => d.parameters.length) = some 1 := by decide +kernel
abbrev rmX9_sideRate : Room := { frames := 2, cells := 0, slots := 0, locals := 51 }
set_option maxHeartbeats 4000000 in
set_option maxRecDepth 100000 in
theorem c_X9_sideRate (l : Launch) (G : CX) (hm0 : Nat) (S : Int) (C : Int) (Wy : Int) (Li : Int) (ml : Nat) (ms : Nat) (mw : Nat) (kn : Int) (mi : Nat) (mk : Nat) (hz : Int) (mh : Nat) (tr : Int64) (mt : Nat) (tn : Int) (cu : Int) (sa : Int) (to : Int) (nu : Int) (wr : Int) (it : Int) (sS : Int) (sC : Int) (sL : Int) (sW : Int) (mq : Nat) (mn : Nat) (mc : Nat) (mr : Nat) (mb : Nat) (sf : Int → Int) (ld : Int → Int) (w : Int) (hB : (2 ≤ S ∧ S ≤ 6) ∧ (C = 1 ∧ Wy = S ∨ C = 2 ∧ Wy = 2 * S)) (hw : 0 ≤ w ∧ w < Wy) : Met l yX9_sideRate wsX9_sideRate rmX9_sideRate (wrP G [.ref hm0, .int (zI w)] [(hm0, .inr (9, [.int (zI S), .int (zI C), .int (zI Wy), .int (zI Li), .ref ml, .ref ms, .ref mw, .int (zI kn), .ref mi, .ref mk, .int (zI hz), .ref mh, .long tr, .ref mt, .int (zI tn), .int (zI cu), .int (zI sa), .int (zI to), .int (zI nu), .int (zI wr), .int (zI it), .int (zI sS), .int (zI sC), .int (zI sL), .int (zI sW), .ref mq, .ref mn, .ref mc, .ref mr, .ref mb])), (ms, .inl (G.2.1, 15, .inl (aZ sf))), (ml, .inl (G.2.1, 12, .inl (aZ ld)))]) (wrQ G [(hm0, .inr (9, [.int (zI S), .int (zI C), .int (zI Wy), .int (zI Li), .ref ml, .ref ms, .ref mw, .int (zI kn), .ref mi, .ref mk, .int (zI hz), .ref mh, .long tr, .ref mt, .int (zI tn), .int (zI cu), .int (zI sa), .int (zI to), .int (zI nu), .int (zI wr), .int (zI it), .int (zI sS), .int (zI sC), .int (zI sL), .int (zI sW), .ref mq, .ref mn, .ref mc, .ref mr, .ref mb])), (ms, .inl (G.2.1, 15, .inl (aZ sf))), (ml, .inl (G.2.1, 12, .inl (aZ ld)))] (fun (r_ : Int32) (u : Unit) => match u with | _ => r_ = zI (sf (3 + w) - agZ S w Wy.toNat) ∧ (True)) (fun (u : Unit) => match u with | _ => [(hm0, .inr (9, [.int (zI S), .int (zI C), .int (zI Wy), .int (zI Li), .ref ml, .ref ms, .ref mw, .int (zI kn), .ref mi, .ref mk, .int (zI hz), .ref mh, .long (tr + cL100 + cL1), .ref mt, .int (zI tn), .int (zI cu), .int (zI sa), .int (zI to), .int (zI nu), .int (zI wr), .int (zI it), .int (zI sS), .int (zI sC), .int (zI sL), .int (zI sW), .ref mq, .ref mn, .ref mc, .ref mr, .ref mb])), (ms, .inl (G.2.1, 15, .inl (aZ sf))), (ml, .inl (G.2.1, 12, .inl (aZ ld)))])) 0 0 (wrA [(hm0, .inr (9, [.int (zI S), .int (zI C), .int (zI Wy), .int (zI Li), .ref ml, .ref ms, .ref mw, .int (zI kn), .ref mi, .ref mk, .int (zI hz), .ref mh, .long tr, .ref mt, .int (zI tn), .int (zI cu), .int (zI sa), .int (zI to), .int (zI nu), .int (zI wr), .int (zI it), .int (zI sS), .int (zI sC), .int (zI sL), .int (zI sW), .ref mq, .ref mn, .ref mc, .ref mr, .ref mb])), (ms, .inl (G.2.1, 15, .inl (aZ sf))), (ml, .inl (G.2.1, 12, .inl (aZ ld)))]) := by
  refine wr_ofW (cc := cX9_sideRate) (maxL := 2) (ty := .int) (by decide) rfl (Nat.le_of_ble_eq_true rfl) ?_
  intro p e s m below meth c Q A hx hb hml hown hts hK hret H locs hP hD hS ls hl
  have hown : s.vm.findClass RX9 = some m.cls := hown
  have hl : lv_has ls 2 [(0, .ref hm0), (1, .int (zI w))] := hl
  have f184 := hts (.fieldLink RX9 184 "QuarterTurnsModel" "trace" "J") (by decide +kernel)
  have i9 : ∀ w ∈ wsX90, w ∈ wsX9_sideRate := fun w h => List.mem_cons_of_mem _ (List.mem_append_right _ h)
  refine lv_aload_n hx hb dX9_sideRate_0 rfl (lv_at hl 0 rfl) ?_
  refine lv_dup hx hb dX9_sideRate_1 rfl ?_
  refine va_get (ci := 9) (v := .long tr) (C := RX9) (T := TX9) (N := 30) hx hb hts i9 hown hK hP 0 rfl rfl 12 (by decide) f184 (fun _ h9 => h9) rfl dX9_sideRate_2 ?_
  refine lv_ldc2 (v := cL100) hx hb hown (hts (.constantLong RX9 193 (100)) (by decide +kernel)) dX9_sideRate_5 ?_
  refine lv_ladd hx hb dX9_sideRate_8 ?_
  refine va_put (ci := 9) (v := .long (tr + cL100)) (ty := .long) (C := RX9) (T := TX9) (N := 30) hx hb hts i9 tyX9 tyX9_ok nmX9 hown hK hP hD hS 0 rfl rfl 12 (by decide) f184 (fun _ h9 => h9) rfl (tyX9_ok 12 (by decide)) rfl rfl (Nat.le_of_ble_eq_true rfl) dX9_sideRate_9 (fun H locs hP hD hS => ?_)
  have hP : kP G [(hm0, .inr (9, [.int (zI S), .int (zI C), .int (zI Wy), .int (zI Li), .ref ml, .ref ms, .ref mw, .int (zI kn), .ref mi, .ref mk, .int (zI hz), .ref mh, .long (tr + cL100), .ref mt, .int (zI tn), .int (zI cu), .int (zI sa), .int (zI to), .int (zI nu), .int (zI wr), .int (zI it), .int (zI sS), .int (zI sC), .int (zI sL), .int (zI sW), .ref mq, .ref mn, .ref mc, .ref mr, .ref mb])), (ms, .inl (G.2.1, 15, .inl (aZ sf))), (ml, .inl (G.2.1, 12, .inl (aZ ld)))] H := hP
  have hD : va_D A [(hm0, .inr (9, [.int (zI S), .int (zI C), .int (zI Wy), .int (zI Li), .ref ml, .ref ms, .ref mw, .int (zI kn), .ref mi, .ref mk, .int (zI hz), .ref mh, .long (tr + cL100), .ref mt, .int (zI tn), .int (zI cu), .int (zI sa), .int (zI to), .int (zI nu), .int (zI wr), .int (zI it), .int (zI sS), .int (zI sC), .int (zI sL), .int (zI sW), .ref mq, .ref mn, .ref mc, .ref mr, .ref mb])), (ms, .inl (G.2.1, 15, .inl (aZ sf))), (ml, .inl (G.2.1, 12, .inl (aZ ld)))] := hD
  refine lv_aload_n hx hb dX9_sideRate_12 rfl (lv_at hl 0 rfl) ?_
  refine lv_iload_n hx hb dX9_sideRate_13 rfl (lv_at hl 1 rfl) ?_
  refine z_wV (As := [.int (zI w)]) (rest := []) ⟨hx, hb, hml, hown, hts⟩ (c_X9_wayRate l G hm0 S C Wy Li ml ms mw kn mi mk hz mh (tr + cL100) mt tn cu sa to nu wr it sS sC sL sW mq mn mc mr mb sf ld w (by first | assumption | omega) (by first | assumption | omega)) (cwV 1 hts gX9_sideRate_X9_wayRate rfl rfl rfl pd_X9_wayRate ⟨(Nat.le_of_ble_eq_true rfl), (Nat.le_of_ble_eq_true rfl)⟩) hK hP hD hS [0, 1, 2] (by decide) rfl rfl rfl rfl (fun _ => Eq.trans (b := [hm0, ms, ml]) rfl rfl) rfl hl.1 rfl (Nat.le_of_ble_eq_true rfl) dX9_sideRate_14 ⟨Nat.zero_le _, Nat.zero_le _⟩ (fun r_ u_ H locs hw_1 hP hD hS => ?_)
  obtain ⟨rfl, hw_1⟩ := hw_1
  try dsimp only at hw_1
  have hP : kP G [(hm0, .inr (9, [.int (zI S), .int (zI C), .int (zI Wy), .int (zI Li), .ref ml, .ref ms, .ref mw, .int (zI kn), .ref mi, .ref mk, .int (zI hz), .ref mh, .long ((tr + cL100) + cL1), .ref mt, .int (zI tn), .int (zI cu), .int (zI sa), .int (zI to), .int (zI nu), .int (zI wr), .int (zI it), .int (zI sS), .int (zI sC), .int (zI sL), .int (zI sW), .ref mq, .ref mn, .ref mc, .ref mr, .ref mb])), (ms, .inl (G.2.1, 15, .inl (aZ sf))), (ml, .inl (G.2.1, 12, .inl (aZ ld)))] H := hP
  have hD : va_D A [(hm0, .inr (9, [.int (zI S), .int (zI C), .int (zI Wy), .int (zI Li), .ref ml, .ref ms, .ref mw, .int (zI kn), .ref mi, .ref mk, .int (zI hz), .ref mh, .long ((tr + cL100) + cL1), .ref mt, .int (zI tn), .int (zI cu), .int (zI sa), .int (zI to), .int (zI nu), .int (zI wr), .int (zI it), .int (zI sS), .int (zI sC), .int (zI sL), .int (zI sW), .ref mq, .ref mn, .ref mc, .ref mr, .ref mb])), (ms, .inl (G.2.1, 15, .inl (aZ sf))), (ml, .inl (G.2.1, 12, .inl (aZ ld)))] := hD
  refine lv_aload_n hx hb dX9_sideRate_17 rfl (lv_at hl 0 rfl) ?_
  refine lv_iload_n hx hb dX9_sideRate_18 rfl (lv_at hl 1 rfl) ?_
  refine z_cV (As := [.int (zI w)]) (rest := [.int (zI (sf (3 + w)))]) ⟨hx, hb, hml, hown, hts⟩ (c_X9_againOf l G hm0 S C Wy Li ml ms mw kn mi mk hz mh ((tr + cL100) + cL1) mt tn cu sa to nu wr it sS sC sL sW mq mn mc mr mb w (by first | assumption | omega) (by first | assumption | omega)) (cwV 1 hts gX9_sideRate_X9_againOf rfl rfl rfl pd_X9_againOf ⟨(Nat.le_of_ble_eq_true rfl), (Nat.le_of_ble_eq_true rfl)⟩) hK hP hS [0] rfl rfl rfl rfl rfl hl.1 rfl (Nat.le_of_ble_eq_true rfl) dX9_sideRate_19 ⟨Nat.zero_le _, Nat.zero_le _⟩ (fun H locs hP hS => ?_)
  refine z_isub hx hb dX9_sideRate_22 ?_
  exact hret H locs ls 23 _ () rfl ⟨congrArg zI (by rfl), by trivial⟩ hP hS dX9_sideRate_23
theorem pd_X9_rate : yX9_rate.cls = RX9 ∧ yX9_rate.cls ≠ "java/lang/invoke/MethodHandle" ∧ yX9_rate.cls ≠ "java/lang/invoke/VarHandle" ∧ (parseMethodDescriptor yX9_rate.desc).map (fun d => d.parameters.length) = some 2 := by decide +kernel
abbrev rmX9_rate : Room := { frames := 3, cells := 0, slots := 0, locals := 72 }
set_option maxHeartbeats 4000000 in
set_option maxRecDepth 100000 in
theorem c_X9_rate (l : Launch) (G : CX) (hm0 : Nat) (S : Int) (C : Int) (Wy : Int) (Li : Int) (ml : Nat) (ms : Nat) (mw : Nat) (kn : Int) (mi : Nat) (mk : Nat) (hz : Int) (mh : Nat) (tr : Int64) (mt : Nat) (tn : Int) (cu : Int) (sa : Int) (to : Int) (nu : Int) (wr : Int) (it : Int) (sS : Int) (sC : Int) (sL : Int) (sW : Int) (mq : Nat) (mn : Nat) (mc : Nat) (mr : Nat) (mb : Nat) (sf : Int → Int) (ld : Int → Int) (w : Int) (kind : Int) (hB : (2 ≤ S ∧ S ≤ 6) ∧ (C = 1 ∧ Wy = S ∨ C = 2 ∧ Wy = 2 * S)) (hr_w : -2147483648 ≤ w ∧ w < 2147483648) (hr_kind : -2147483648 ≤ kind ∧ kind < 2147483648) : Met l yX9_rate wsX9_rate rmX9_rate (wrP G [.ref hm0, .int (zI kind), .int (zI w)] [(hm0, .inr (9, [.int (zI S), .int (zI C), .int (zI Wy), .int (zI Li), .ref ml, .ref ms, .ref mw, .int (zI kn), .ref mi, .ref mk, .int (zI hz), .ref mh, .long tr, .ref mt, .int (zI tn), .int (zI cu), .int (zI sa), .int (zI to), .int (zI nu), .int (zI wr), .int (zI it), .int (zI sS), .int (zI sC), .int (zI sL), .int (zI sW), .ref mq, .ref mn, .ref mc, .ref mr, .ref mb])), (ms, .inl (G.2.1, 15, .inl (aZ sf))), (ml, .inl (G.2.1, 12, .inl (aZ ld)))]) (wrQ G [(hm0, .inr (9, [.int (zI S), .int (zI C), .int (zI Wy), .int (zI Li), .ref ml, .ref ms, .ref mw, .int (zI kn), .ref mi, .ref mk, .int (zI hz), .ref mh, .long tr, .ref mt, .int (zI tn), .int (zI cu), .int (zI sa), .int (zI to), .int (zI nu), .int (zI wr), .int (zI it), .int (zI sS), .int (zI sC), .int (zI sL), .int (zI sW), .ref mq, .ref mn, .ref mc, .ref mr, .ref mb])), (ms, .inl (G.2.1, 15, .inl (aZ sf))), (ml, .inl (G.2.1, 12, .inl (aZ ld)))] (fun (r_ : Int32) (u : Int64) => match u with | tr2 => r_ = zI (if ¬ ((0 ≤ kind ∧ kind ≤ 5) ∧ (0 ≤ w ∧ w < Wy)) then -1000000 else if kind = 0 then sf (3 + w) else if kind = 1 then sf (3 + w) + ld w else if kind = 2 then sf (3 + w) - agZ S w Wy.toNat else if kind = 3 then 2 * (sf (3 + w) + ld w) else if kind = 4 then sf (3 + w) - agZ S w Wy.toNat + w else sf (3 + w) + sf 0) ∧ (tr2 = (if ¬ ((0 ≤ kind ∧ kind ≤ 5) ∧ (0 ≤ w ∧ w < Wy)) then tr else if kind = 0 then tr + cL1 else if kind = 1 then tr + cL10 + cL1 else if kind = 2 then tr + cL100 + cL1 else if kind = 3 then tr + cL1000 + cL10 + cL1 else if kind = 4 then tr + cL10000 + cL100 + cL1 else tr + cL100000 + cL1))) (fun (u : Int64) => match u with | tr2 => [(hm0, .inr (9, [.int (zI S), .int (zI C), .int (zI Wy), .int (zI Li), .ref ml, .ref ms, .ref mw, .int (zI kn), .ref mi, .ref mk, .int (zI hz), .ref mh, .long tr2, .ref mt, .int (zI tn), .int (zI cu), .int (zI sa), .int (zI to), .int (zI nu), .int (zI wr), .int (zI it), .int (zI sS), .int (zI sC), .int (zI sL), .int (zI sW), .ref mq, .ref mn, .ref mc, .ref mr, .ref mb])), (ms, .inl (G.2.1, 15, .inl (aZ sf))), (ml, .inl (G.2.1, 12, .inl (aZ ld)))])) 0 0 (wrA [(hm0, .inr (9, [.int (zI S), .int (zI C), .int (zI Wy), .int (zI Li), .ref ml, .ref ms, .ref mw, .int (zI kn), .ref mi, .ref mk, .int (zI hz), .ref mh, .long tr, .ref mt, .int (zI tn), .int (zI cu), .int (zI sa), .int (zI to), .int (zI nu), .int (zI wr), .int (zI it), .int (zI sS), .int (zI sC), .int (zI sL), .int (zI sW), .ref mq, .ref mn, .ref mc, .ref mr, .ref mb])), (ms, .inl (G.2.1, 15, .inl (aZ sf))), (ml, .inl (G.2.1, 12, .inl (aZ ld)))]) := by
  refine wr_ofW (cc := cX9_rate) (maxL := 3) (ty := .int) (by decide) rfl (Nat.le_of_ble_eq_true rfl) ?_
  intro p e s m below meth c Q A hx hb hml hown hts hK hret H locs hP hD hS ls hl
  have hown : s.vm.findClass RX9 = some m.cls := hown
  have hl : lv_has ls 3 [(0, .ref hm0), (1, .int (zI kind)), (2, .int (zI w))] := hl
  have f184 := hts (.fieldLink RX9 184 "QuarterTurnsModel" "trace" "J") (by decide +kernel)
  have i9 : ∀ w ∈ wsX90, w ∈ wsX9_rate := fun w h => List.mem_cons_of_mem _ (List.mem_append_right _ h)
  have f26 := hts (.fieldLink RX9 26 "QuarterTurnsModel" "st" "[I") (by decide +kernel)
  refine lv_iload_n hx hb dX9_rate_0 rfl (lv_at hl 1 rfl) ?_
  refine lv_iconst (v := zI 0) hx hb dX9_rate_1 rfl ?_
  refine lv_iconst (v := zI 5) hx hb dX9_rate_2 rfl ?_
  refine z_cS (As := [.int (zI kind), .int (zI 0), .int (zI 5)]) (rest := []) ⟨hx, hb, hml, hown, hts⟩ (c_X9_in l G kind 0 5 (by first | assumption | omega)) (va_cwS 3 hts gX9_rate_X9_in rfl rfl rfl pd_X9_in.2 ⟨(Nat.le_of_ble_eq_true rfl), (Nat.le_of_ble_eq_true rfl)⟩) hK hP hS [] rfl rfl hl.1 rfl (Nat.le_of_ble_eq_true rfl) dX9_rate_3 ⟨Nat.zero_le _, Nat.zero_le _⟩ (fun H locs hP hS => ?_)
  refine z_ifeq_b (tgt := 17) hx hb dX9_rate_6 (by decide) (fun c_1 => ?_) (fun c_1 => ?_)
  · refine lv_ldc (v := zI (-1000000)) hx hb hown (hts (.constant RX9 195 (-1000000)) (by decide +kernel)) dX9_rate_17 ?_
    exact hret H locs ls 19 _ (tr) rfl ⟨congrArg zI (by rw [if_pos (by omega)]), by rw [if_pos (by omega)]⟩ hP hS dX9_rate_19
  · refine lv_aload_n hx hb dX9_rate_9 rfl (lv_at hl 0 rfl) ?_
    refine lv_iload_n hx hb dX9_rate_10 rfl (lv_at hl 2 rfl) ?_
    refine z_cV (As := [.int (zI w)]) (rest := []) ⟨hx, hb, hml, hown, hts⟩ (c_X9_isWay l G hm0 S C Wy Li ml ms mw kn mi mk hz mh tr mt tn cu sa to nu wr it sS sC sL sW mq mn mc mr mb w (by first | assumption | omega) (by first | assumption | omega)) (cwV 1 hts gX9_rate_X9_isWay rfl rfl rfl pd_X9_isWay ⟨(Nat.le_of_ble_eq_true rfl), (Nat.le_of_ble_eq_true rfl)⟩) hK hP hS [0] rfl rfl rfl rfl rfl hl.1 rfl (Nat.le_of_ble_eq_true rfl) dX9_rate_11 ⟨Nat.zero_le _, Nat.zero_le _⟩ (fun H locs hP hS => ?_)
    refine z_ifne_b (tgt := 20) hx hb dX9_rate_14 (by decide) (fun c_2 => ?_) (fun c_2 => ?_)
    · refine lv_iload_n hx hb dX9_rate_20 rfl (lv_at hl 1 rfl) ?_
      rcases (show (kind < 0 ∨ 4 < kind) ∨ kind = 0 ∨ kind = 1 ∨ kind = 2 ∨ kind = 3 ∨ kind = 4 by omega) with c_3 | c_3 | c_3 | c_3 | c_3 | c_3
      · refine z_tabOut (tgt := 114) hx hb (by omega) dX9_rate_21 c_3 (by decide) ?_
        refine lv_aload_n hx hb dX9_rate_114 rfl (lv_at hl 0 rfl) ?_
        refine lv_dup hx hb dX9_rate_115 rfl ?_
        refine va_get (ci := 9) (v := .long tr) (C := RX9) (T := TX9) (N := 30) hx hb hts i9 hown hK hP 0 rfl rfl 12 (by decide) f184 (fun _ h9 => h9) rfl dX9_rate_116 ?_
        refine lv_ldc2 (v := cL100000) hx hb hown (hts (.constantLong RX9 206 (100000)) (by decide +kernel)) dX9_rate_119 ?_
        refine lv_ladd hx hb dX9_rate_122 ?_
        refine va_put (ci := 9) (v := .long (tr + cL100000)) (ty := .long) (C := RX9) (T := TX9) (N := 30) hx hb hts i9 tyX9 tyX9_ok nmX9 hown hK hP hD hS 0 rfl rfl 12 (by decide) f184 (fun _ h9 => h9) rfl (tyX9_ok 12 (by decide)) rfl rfl (Nat.le_of_ble_eq_true rfl) dX9_rate_123 (fun H locs hP hD hS => ?_)
        have hP : kP G [(hm0, .inr (9, [.int (zI S), .int (zI C), .int (zI Wy), .int (zI Li), .ref ml, .ref ms, .ref mw, .int (zI kn), .ref mi, .ref mk, .int (zI hz), .ref mh, .long (tr + cL100000), .ref mt, .int (zI tn), .int (zI cu), .int (zI sa), .int (zI to), .int (zI nu), .int (zI wr), .int (zI it), .int (zI sS), .int (zI sC), .int (zI sL), .int (zI sW), .ref mq, .ref mn, .ref mc, .ref mr, .ref mb])), (ms, .inl (G.2.1, 15, .inl (aZ sf))), (ml, .inl (G.2.1, 12, .inl (aZ ld)))] H := hP
        have hD : va_D A [(hm0, .inr (9, [.int (zI S), .int (zI C), .int (zI Wy), .int (zI Li), .ref ml, .ref ms, .ref mw, .int (zI kn), .ref mi, .ref mk, .int (zI hz), .ref mh, .long (tr + cL100000), .ref mt, .int (zI tn), .int (zI cu), .int (zI sa), .int (zI to), .int (zI nu), .int (zI wr), .int (zI it), .int (zI sS), .int (zI sC), .int (zI sL), .int (zI sW), .ref mq, .ref mn, .ref mc, .ref mr, .ref mb])), (ms, .inl (G.2.1, 15, .inl (aZ sf))), (ml, .inl (G.2.1, 12, .inl (aZ ld)))] := hD
        refine lv_aload_n hx hb dX9_rate_126 rfl (lv_at hl 0 rfl) ?_
        refine lv_iload_n hx hb dX9_rate_127 rfl (lv_at hl 2 rfl) ?_
        refine z_wV (As := [.int (zI w)]) (rest := []) ⟨hx, hb, hml, hown, hts⟩ (c_X9_wayRate l G hm0 S C Wy Li ml ms mw kn mi mk hz mh (tr + cL100000) mt tn cu sa to nu wr it sS sC sL sW mq mn mc mr mb sf ld w (by first | assumption | omega) (by first | assumption | omega)) (cwV 1 hts gX9_rate_X9_wayRate rfl rfl rfl pd_X9_wayRate ⟨(Nat.le_of_ble_eq_true rfl), (Nat.le_of_ble_eq_true rfl)⟩) hK hP hD hS [0, 1, 2] (by decide) rfl rfl rfl rfl (fun _ => Eq.trans (b := [hm0, ms, ml]) rfl rfl) rfl hl.1 rfl (Nat.le_of_ble_eq_true rfl) dX9_rate_128 ⟨Nat.zero_le _, Nat.zero_le _⟩ (fun r_ u_ H locs hw_4 hP hD hS => ?_)
        obtain ⟨rfl, hw_4⟩ := hw_4
        try dsimp only at hw_4
        have hP : kP G [(hm0, .inr (9, [.int (zI S), .int (zI C), .int (zI Wy), .int (zI Li), .ref ml, .ref ms, .ref mw, .int (zI kn), .ref mi, .ref mk, .int (zI hz), .ref mh, .long ((tr + cL100000) + cL1), .ref mt, .int (zI tn), .int (zI cu), .int (zI sa), .int (zI to), .int (zI nu), .int (zI wr), .int (zI it), .int (zI sS), .int (zI sC), .int (zI sL), .int (zI sW), .ref mq, .ref mn, .ref mc, .ref mr, .ref mb])), (ms, .inl (G.2.1, 15, .inl (aZ sf))), (ml, .inl (G.2.1, 12, .inl (aZ ld)))] H := hP
        have hD : va_D A [(hm0, .inr (9, [.int (zI S), .int (zI C), .int (zI Wy), .int (zI Li), .ref ml, .ref ms, .ref mw, .int (zI kn), .ref mi, .ref mk, .int (zI hz), .ref mh, .long ((tr + cL100000) + cL1), .ref mt, .int (zI tn), .int (zI cu), .int (zI sa), .int (zI to), .int (zI nu), .int (zI wr), .int (zI it), .int (zI sS), .int (zI sC), .int (zI sL), .int (zI sW), .ref mq, .ref mn, .ref mc, .ref mr, .ref mb])), (ms, .inl (G.2.1, 15, .inl (aZ sf))), (ml, .inl (G.2.1, 12, .inl (aZ ld)))] := hD
        refine lv_aload_n hx hb dX9_rate_131 rfl (lv_at hl 0 rfl) ?_
        refine va_get (ci := 9) (v := .ref ms) (C := RX9) (T := TX9) (N := 30) hx hb hts i9 hown hK hP 0 rfl rfl 5 (by decide) f26 (fun _ h9 => h9) rfl dX9_rate_132 ?_
        refine lv_iconst (v := zI 0) hx hb dX9_rate_135 rfl ?_
        refine z_iald (n := 15) (f := sf) hx hb hK hP 1 rfl (by omega) dX9_rate_136 ?_
        refine z_iadd hx hb dX9_rate_137 ?_
        exact hret H locs ls 138 _ ((tr + cL100000) + cL1) rfl ⟨congrArg zI (by rw [if_neg (by omega), if_neg (by omega), if_neg (by omega), if_neg (by omega), if_neg (by omega), if_neg (by omega)]), by rw [if_neg (by omega), if_neg (by omega), if_neg (by omega), if_neg (by omega), if_neg (by omega), if_neg (by omega)]⟩ hP hS dX9_rate_138
      · refine z_tabIn (tgt := 56) (k := 0) hx hb (by omega) dX9_rate_21 (by omega) (by omega) (by omega) rfl (by decide) ?_
        refine lv_aload_n hx hb dX9_rate_56 rfl (lv_at hl 0 rfl) ?_
        refine lv_iload_n hx hb dX9_rate_57 rfl (lv_at hl 2 rfl) ?_
        refine z_wV (As := [.int (zI w)]) (rest := []) ⟨hx, hb, hml, hown, hts⟩ (c_X9_wayRate l G hm0 S C Wy Li ml ms mw kn mi mk hz mh tr mt tn cu sa to nu wr it sS sC sL sW mq mn mc mr mb sf ld w (by first | assumption | omega) (by first | assumption | omega)) (cwV 1 hts gX9_rate_X9_wayRate rfl rfl rfl pd_X9_wayRate ⟨(Nat.le_of_ble_eq_true rfl), (Nat.le_of_ble_eq_true rfl)⟩) hK hP hD hS [0, 1, 2] (by decide) rfl rfl rfl rfl (fun _ => Eq.trans (b := [hm0, ms, ml]) rfl rfl) rfl hl.1 rfl (Nat.le_of_ble_eq_true rfl) dX9_rate_58 ⟨Nat.zero_le _, Nat.zero_le _⟩ (fun r_ u_ H locs hw_5 hP hD hS => ?_)
        obtain ⟨rfl, hw_5⟩ := hw_5
        try dsimp only at hw_5
        have hP : kP G [(hm0, .inr (9, [.int (zI S), .int (zI C), .int (zI Wy), .int (zI Li), .ref ml, .ref ms, .ref mw, .int (zI kn), .ref mi, .ref mk, .int (zI hz), .ref mh, .long (tr + cL1), .ref mt, .int (zI tn), .int (zI cu), .int (zI sa), .int (zI to), .int (zI nu), .int (zI wr), .int (zI it), .int (zI sS), .int (zI sC), .int (zI sL), .int (zI sW), .ref mq, .ref mn, .ref mc, .ref mr, .ref mb])), (ms, .inl (G.2.1, 15, .inl (aZ sf))), (ml, .inl (G.2.1, 12, .inl (aZ ld)))] H := hP
        have hD : va_D A [(hm0, .inr (9, [.int (zI S), .int (zI C), .int (zI Wy), .int (zI Li), .ref ml, .ref ms, .ref mw, .int (zI kn), .ref mi, .ref mk, .int (zI hz), .ref mh, .long (tr + cL1), .ref mt, .int (zI tn), .int (zI cu), .int (zI sa), .int (zI to), .int (zI nu), .int (zI wr), .int (zI it), .int (zI sS), .int (zI sC), .int (zI sL), .int (zI sW), .ref mq, .ref mn, .ref mc, .ref mr, .ref mb])), (ms, .inl (G.2.1, 15, .inl (aZ sf))), (ml, .inl (G.2.1, 12, .inl (aZ ld)))] := hD
        exact hret H locs ls 61 _ (tr + cL1) rfl ⟨congrArg zI (by rw [if_neg (by omega), if_pos (by omega)]), by rw [if_neg (by omega), if_pos (by omega)]⟩ hP hS dX9_rate_61
      · refine z_tabIn (tgt := 62) (k := 1) hx hb (by omega) dX9_rate_21 (by omega) (by omega) (by omega) rfl (by decide) ?_
        refine lv_aload_n hx hb dX9_rate_62 rfl (lv_at hl 0 rfl) ?_
        refine lv_iload_n hx hb dX9_rate_63 rfl (lv_at hl 2 rfl) ?_
        refine z_wV (As := [.int (zI w)]) (rest := []) ⟨hx, hb, hml, hown, hts⟩ (c_X9_endRate l G hm0 S C Wy Li ml ms mw kn mi mk hz mh tr mt tn cu sa to nu wr it sS sC sL sW mq mn mc mr mb sf ld w (by first | assumption | omega) (by first | assumption | omega)) (cwV 1 hts gX9_rate_X9_endRate rfl rfl rfl pd_X9_endRate ⟨(Nat.le_of_ble_eq_true rfl), (Nat.le_of_ble_eq_true rfl)⟩) hK hP hD hS [0, 1, 2] (by decide) rfl rfl rfl rfl (fun _ => Eq.trans (b := [hm0, ms, ml]) rfl rfl) rfl hl.1 rfl (Nat.le_of_ble_eq_true rfl) dX9_rate_64 ⟨Nat.zero_le _, Nat.zero_le _⟩ (fun r_ u_ H locs hw_6 hP hD hS => ?_)
        obtain ⟨rfl, hw_6⟩ := hw_6
        try dsimp only at hw_6
        have hP : kP G [(hm0, .inr (9, [.int (zI S), .int (zI C), .int (zI Wy), .int (zI Li), .ref ml, .ref ms, .ref mw, .int (zI kn), .ref mi, .ref mk, .int (zI hz), .ref mh, .long (tr + cL10 + cL1), .ref mt, .int (zI tn), .int (zI cu), .int (zI sa), .int (zI to), .int (zI nu), .int (zI wr), .int (zI it), .int (zI sS), .int (zI sC), .int (zI sL), .int (zI sW), .ref mq, .ref mn, .ref mc, .ref mr, .ref mb])), (ms, .inl (G.2.1, 15, .inl (aZ sf))), (ml, .inl (G.2.1, 12, .inl (aZ ld)))] H := hP
        have hD : va_D A [(hm0, .inr (9, [.int (zI S), .int (zI C), .int (zI Wy), .int (zI Li), .ref ml, .ref ms, .ref mw, .int (zI kn), .ref mi, .ref mk, .int (zI hz), .ref mh, .long (tr + cL10 + cL1), .ref mt, .int (zI tn), .int (zI cu), .int (zI sa), .int (zI to), .int (zI nu), .int (zI wr), .int (zI it), .int (zI sS), .int (zI sC), .int (zI sL), .int (zI sW), .ref mq, .ref mn, .ref mc, .ref mr, .ref mb])), (ms, .inl (G.2.1, 15, .inl (aZ sf))), (ml, .inl (G.2.1, 12, .inl (aZ ld)))] := hD
        exact hret H locs ls 67 _ (tr + cL10 + cL1) rfl ⟨congrArg zI (by rw [if_neg (by omega), if_neg (by omega), if_pos (by omega)]), by rw [if_neg (by omega), if_neg (by omega), if_pos (by omega)]⟩ hP hS dX9_rate_67
      · refine z_tabIn (tgt := 68) (k := 2) hx hb (by omega) dX9_rate_21 (by omega) (by omega) (by omega) rfl (by decide) ?_
        refine lv_aload_n hx hb dX9_rate_68 rfl (lv_at hl 0 rfl) ?_
        refine lv_iload_n hx hb dX9_rate_69 rfl (lv_at hl 2 rfl) ?_
        refine z_wV (As := [.int (zI w)]) (rest := []) ⟨hx, hb, hml, hown, hts⟩ (c_X9_sideRate l G hm0 S C Wy Li ml ms mw kn mi mk hz mh tr mt tn cu sa to nu wr it sS sC sL sW mq mn mc mr mb sf ld w (by first | assumption | omega) (by first | assumption | omega)) (cwV 1 hts gX9_rate_X9_sideRate rfl rfl rfl pd_X9_sideRate ⟨(Nat.le_of_ble_eq_true rfl), (Nat.le_of_ble_eq_true rfl)⟩) hK hP hD hS [0, 1, 2] (by decide) rfl rfl rfl rfl (fun _ => Eq.trans (b := [hm0, ms, ml]) rfl rfl) rfl hl.1 rfl (Nat.le_of_ble_eq_true rfl) dX9_rate_70 ⟨Nat.zero_le _, Nat.zero_le _⟩ (fun r_ u_ H locs hw_7 hP hD hS => ?_)
        obtain ⟨rfl, hw_7⟩ := hw_7
        try dsimp only at hw_7
        have hP : kP G [(hm0, .inr (9, [.int (zI S), .int (zI C), .int (zI Wy), .int (zI Li), .ref ml, .ref ms, .ref mw, .int (zI kn), .ref mi, .ref mk, .int (zI hz), .ref mh, .long (tr + cL100 + cL1), .ref mt, .int (zI tn), .int (zI cu), .int (zI sa), .int (zI to), .int (zI nu), .int (zI wr), .int (zI it), .int (zI sS), .int (zI sC), .int (zI sL), .int (zI sW), .ref mq, .ref mn, .ref mc, .ref mr, .ref mb])), (ms, .inl (G.2.1, 15, .inl (aZ sf))), (ml, .inl (G.2.1, 12, .inl (aZ ld)))] H := hP
        have hD : va_D A [(hm0, .inr (9, [.int (zI S), .int (zI C), .int (zI Wy), .int (zI Li), .ref ml, .ref ms, .ref mw, .int (zI kn), .ref mi, .ref mk, .int (zI hz), .ref mh, .long (tr + cL100 + cL1), .ref mt, .int (zI tn), .int (zI cu), .int (zI sa), .int (zI to), .int (zI nu), .int (zI wr), .int (zI it), .int (zI sS), .int (zI sC), .int (zI sL), .int (zI sW), .ref mq, .ref mn, .ref mc, .ref mr, .ref mb])), (ms, .inl (G.2.1, 15, .inl (aZ sf))), (ml, .inl (G.2.1, 12, .inl (aZ ld)))] := hD
        exact hret H locs ls 73 _ (tr + cL100 + cL1) rfl ⟨congrArg zI (by rw [if_neg (by omega), if_neg (by omega), if_neg (by omega), if_pos (by omega)]), by rw [if_neg (by omega), if_neg (by omega), if_neg (by omega), if_pos (by omega)]⟩ hP hS dX9_rate_73
      · refine z_tabIn (tgt := 74) (k := 3) hx hb (by omega) dX9_rate_21 (by omega) (by omega) (by omega) rfl (by decide) ?_
        refine lv_aload_n hx hb dX9_rate_74 rfl (lv_at hl 0 rfl) ?_
        refine lv_dup hx hb dX9_rate_75 rfl ?_
        refine va_get (ci := 9) (v := .long tr) (C := RX9) (T := TX9) (N := 30) hx hb hts i9 hown hK hP 0 rfl rfl 12 (by decide) f184 (fun _ h9 => h9) rfl dX9_rate_76 ?_
        refine lv_ldc2 (v := cL1000) hx hb hown (hts (.constantLong RX9 202 (1000)) (by decide +kernel)) dX9_rate_79 ?_
        refine lv_ladd hx hb dX9_rate_82 ?_
        refine va_put (ci := 9) (v := .long (tr + cL1000)) (ty := .long) (C := RX9) (T := TX9) (N := 30) hx hb hts i9 tyX9 tyX9_ok nmX9 hown hK hP hD hS 0 rfl rfl 12 (by decide) f184 (fun _ h9 => h9) rfl (tyX9_ok 12 (by decide)) rfl rfl (Nat.le_of_ble_eq_true rfl) dX9_rate_83 (fun H locs hP hD hS => ?_)
        have hP : kP G [(hm0, .inr (9, [.int (zI S), .int (zI C), .int (zI Wy), .int (zI Li), .ref ml, .ref ms, .ref mw, .int (zI kn), .ref mi, .ref mk, .int (zI hz), .ref mh, .long (tr + cL1000), .ref mt, .int (zI tn), .int (zI cu), .int (zI sa), .int (zI to), .int (zI nu), .int (zI wr), .int (zI it), .int (zI sS), .int (zI sC), .int (zI sL), .int (zI sW), .ref mq, .ref mn, .ref mc, .ref mr, .ref mb])), (ms, .inl (G.2.1, 15, .inl (aZ sf))), (ml, .inl (G.2.1, 12, .inl (aZ ld)))] H := hP
        have hD : va_D A [(hm0, .inr (9, [.int (zI S), .int (zI C), .int (zI Wy), .int (zI Li), .ref ml, .ref ms, .ref mw, .int (zI kn), .ref mi, .ref mk, .int (zI hz), .ref mh, .long (tr + cL1000), .ref mt, .int (zI tn), .int (zI cu), .int (zI sa), .int (zI to), .int (zI nu), .int (zI wr), .int (zI it), .int (zI sS), .int (zI sC), .int (zI sL), .int (zI sW), .ref mq, .ref mn, .ref mc, .ref mr, .ref mb])), (ms, .inl (G.2.1, 15, .inl (aZ sf))), (ml, .inl (G.2.1, 12, .inl (aZ ld)))] := hD
        refine lv_iconst (v := zI 2) hx hb dX9_rate_86 rfl ?_
        refine lv_aload_n hx hb dX9_rate_87 rfl (lv_at hl 0 rfl) ?_
        refine lv_iload_n hx hb dX9_rate_88 rfl (lv_at hl 2 rfl) ?_
        refine z_wV (As := [.int (zI w)]) (rest := [.int (zI 2)]) ⟨hx, hb, hml, hown, hts⟩ (c_X9_endRate l G hm0 S C Wy Li ml ms mw kn mi mk hz mh (tr + cL1000) mt tn cu sa to nu wr it sS sC sL sW mq mn mc mr mb sf ld w (by first | assumption | omega) (by first | assumption | omega)) (cwV 1 hts gX9_rate_X9_endRate rfl rfl rfl pd_X9_endRate ⟨(Nat.le_of_ble_eq_true rfl), (Nat.le_of_ble_eq_true rfl)⟩) hK hP hD hS [0, 1, 2] (by decide) rfl rfl rfl rfl (fun _ => Eq.trans (b := [hm0, ms, ml]) rfl rfl) rfl hl.1 rfl (Nat.le_of_ble_eq_true rfl) dX9_rate_89 ⟨Nat.zero_le _, Nat.zero_le _⟩ (fun r_ u_ H locs hw_8 hP hD hS => ?_)
        obtain ⟨rfl, hw_8⟩ := hw_8
        try dsimp only at hw_8
        have hP : kP G [(hm0, .inr (9, [.int (zI S), .int (zI C), .int (zI Wy), .int (zI Li), .ref ml, .ref ms, .ref mw, .int (zI kn), .ref mi, .ref mk, .int (zI hz), .ref mh, .long ((tr + cL1000) + cL10 + cL1), .ref mt, .int (zI tn), .int (zI cu), .int (zI sa), .int (zI to), .int (zI nu), .int (zI wr), .int (zI it), .int (zI sS), .int (zI sC), .int (zI sL), .int (zI sW), .ref mq, .ref mn, .ref mc, .ref mr, .ref mb])), (ms, .inl (G.2.1, 15, .inl (aZ sf))), (ml, .inl (G.2.1, 12, .inl (aZ ld)))] H := hP
        have hD : va_D A [(hm0, .inr (9, [.int (zI S), .int (zI C), .int (zI Wy), .int (zI Li), .ref ml, .ref ms, .ref mw, .int (zI kn), .ref mi, .ref mk, .int (zI hz), .ref mh, .long ((tr + cL1000) + cL10 + cL1), .ref mt, .int (zI tn), .int (zI cu), .int (zI sa), .int (zI to), .int (zI nu), .int (zI wr), .int (zI it), .int (zI sS), .int (zI sC), .int (zI sL), .int (zI sW), .ref mq, .ref mn, .ref mc, .ref mr, .ref mb])), (ms, .inl (G.2.1, 15, .inl (aZ sf))), (ml, .inl (G.2.1, 12, .inl (aZ ld)))] := hD
        refine z_imul hx hb dX9_rate_92 ?_
        exact hret H locs ls 93 _ ((tr + cL1000) + cL10 + cL1) rfl ⟨congrArg zI (by rw [if_neg (by omega), if_neg (by omega), if_neg (by omega), if_neg (by omega), if_pos (by omega)]), by rw [if_neg (by omega), if_neg (by omega), if_neg (by omega), if_neg (by omega), if_pos (by omega)]⟩ hP hS dX9_rate_93
      · refine z_tabIn (tgt := 94) (k := 4) hx hb (by omega) dX9_rate_21 (by omega) (by omega) (by omega) rfl (by decide) ?_
        refine lv_aload_n hx hb dX9_rate_94 rfl (lv_at hl 0 rfl) ?_
        refine lv_dup hx hb dX9_rate_95 rfl ?_
        refine va_get (ci := 9) (v := .long tr) (C := RX9) (T := TX9) (N := 30) hx hb hts i9 hown hK hP 0 rfl rfl 12 (by decide) f184 (fun _ h9 => h9) rfl dX9_rate_96 ?_
        refine lv_ldc2 (v := cL10000) hx hb hown (hts (.constantLong RX9 204 (10000)) (by decide +kernel)) dX9_rate_99 ?_
        refine lv_ladd hx hb dX9_rate_102 ?_
        refine va_put (ci := 9) (v := .long (tr + cL10000)) (ty := .long) (C := RX9) (T := TX9) (N := 30) hx hb hts i9 tyX9 tyX9_ok nmX9 hown hK hP hD hS 0 rfl rfl 12 (by decide) f184 (fun _ h9 => h9) rfl (tyX9_ok 12 (by decide)) rfl rfl (Nat.le_of_ble_eq_true rfl) dX9_rate_103 (fun H locs hP hD hS => ?_)
        have hP : kP G [(hm0, .inr (9, [.int (zI S), .int (zI C), .int (zI Wy), .int (zI Li), .ref ml, .ref ms, .ref mw, .int (zI kn), .ref mi, .ref mk, .int (zI hz), .ref mh, .long (tr + cL10000), .ref mt, .int (zI tn), .int (zI cu), .int (zI sa), .int (zI to), .int (zI nu), .int (zI wr), .int (zI it), .int (zI sS), .int (zI sC), .int (zI sL), .int (zI sW), .ref mq, .ref mn, .ref mc, .ref mr, .ref mb])), (ms, .inl (G.2.1, 15, .inl (aZ sf))), (ml, .inl (G.2.1, 12, .inl (aZ ld)))] H := hP
        have hD : va_D A [(hm0, .inr (9, [.int (zI S), .int (zI C), .int (zI Wy), .int (zI Li), .ref ml, .ref ms, .ref mw, .int (zI kn), .ref mi, .ref mk, .int (zI hz), .ref mh, .long (tr + cL10000), .ref mt, .int (zI tn), .int (zI cu), .int (zI sa), .int (zI to), .int (zI nu), .int (zI wr), .int (zI it), .int (zI sS), .int (zI sC), .int (zI sL), .int (zI sW), .ref mq, .ref mn, .ref mc, .ref mr, .ref mb])), (ms, .inl (G.2.1, 15, .inl (aZ sf))), (ml, .inl (G.2.1, 12, .inl (aZ ld)))] := hD
        refine lv_aload_n hx hb dX9_rate_106 rfl (lv_at hl 0 rfl) ?_
        refine lv_iload_n hx hb dX9_rate_107 rfl (lv_at hl 2 rfl) ?_
        refine z_wV (As := [.int (zI w)]) (rest := []) ⟨hx, hb, hml, hown, hts⟩ (c_X9_sideRate l G hm0 S C Wy Li ml ms mw kn mi mk hz mh (tr + cL10000) mt tn cu sa to nu wr it sS sC sL sW mq mn mc mr mb sf ld w (by first | assumption | omega) (by first | assumption | omega)) (cwV 1 hts gX9_rate_X9_sideRate rfl rfl rfl pd_X9_sideRate ⟨(Nat.le_of_ble_eq_true rfl), (Nat.le_of_ble_eq_true rfl)⟩) hK hP hD hS [0, 1, 2] (by decide) rfl rfl rfl rfl (fun _ => Eq.trans (b := [hm0, ms, ml]) rfl rfl) rfl hl.1 rfl (Nat.le_of_ble_eq_true rfl) dX9_rate_108 ⟨Nat.zero_le _, Nat.zero_le _⟩ (fun r_ u_ H locs hw_9 hP hD hS => ?_)
        obtain ⟨rfl, hw_9⟩ := hw_9
        try dsimp only at hw_9
        have hP : kP G [(hm0, .inr (9, [.int (zI S), .int (zI C), .int (zI Wy), .int (zI Li), .ref ml, .ref ms, .ref mw, .int (zI kn), .ref mi, .ref mk, .int (zI hz), .ref mh, .long ((tr + cL10000) + cL100 + cL1), .ref mt, .int (zI tn), .int (zI cu), .int (zI sa), .int (zI to), .int (zI nu), .int (zI wr), .int (zI it), .int (zI sS), .int (zI sC), .int (zI sL), .int (zI sW), .ref mq, .ref mn, .ref mc, .ref mr, .ref mb])), (ms, .inl (G.2.1, 15, .inl (aZ sf))), (ml, .inl (G.2.1, 12, .inl (aZ ld)))] H := hP
        have hD : va_D A [(hm0, .inr (9, [.int (zI S), .int (zI C), .int (zI Wy), .int (zI Li), .ref ml, .ref ms, .ref mw, .int (zI kn), .ref mi, .ref mk, .int (zI hz), .ref mh, .long ((tr + cL10000) + cL100 + cL1), .ref mt, .int (zI tn), .int (zI cu), .int (zI sa), .int (zI to), .int (zI nu), .int (zI wr), .int (zI it), .int (zI sS), .int (zI sC), .int (zI sL), .int (zI sW), .ref mq, .ref mn, .ref mc, .ref mr, .ref mb])), (ms, .inl (G.2.1, 15, .inl (aZ sf))), (ml, .inl (G.2.1, 12, .inl (aZ ld)))] := hD
        refine lv_iload_n hx hb dX9_rate_111 rfl (lv_at hl 2 rfl) ?_
        refine z_iadd hx hb dX9_rate_112 ?_
        exact hret H locs ls 113 _ ((tr + cL10000) + cL100 + cL1) rfl ⟨congrArg zI (by rw [if_neg (by omega), if_neg (by omega), if_neg (by omega), if_neg (by omega), if_neg (by omega), if_pos (by omega)]), by rw [if_neg (by omega), if_neg (by omega), if_neg (by omega), if_neg (by omega), if_neg (by omega), if_pos (by omega)]⟩ hP hS dX9_rate_113
    · refine lv_ldc (v := zI (-1000000)) hx hb hown (hts (.constant RX9 195 (-1000000)) (by decide +kernel)) dX9_rate_17 ?_
      exact hret H locs ls 19 _ (tr) rfl ⟨congrArg zI (by rw [if_pos (by omega)]), by rw [if_pos (by omega)]⟩ hP hS dX9_rate_19
theorem pd_X9_keep : yX9_keep.cls = RX9 ∧ yX9_keep.cls ≠ "java/lang/invoke/MethodHandle" ∧ yX9_keep.cls ≠ "java/lang/invoke/VarHandle" ∧ (parseMethodDescriptor yX9_keep.desc).map (fun d => d.parameters.length) = some 1 := by decide +kernel
abbrev rmX9_keep : Room := { frames := 1, cells := 0, slots := 0, locals := 24 }
set_option maxHeartbeats 4000000 in
set_option maxRecDepth 100000 in
theorem c_X9_keep (l : Launch) (G : CX) (hm0 : Nat) (S : Int) (C : Int) (Wy : Int) (Li : Int) (ml : Nat) (ms : Nat) (mw : Nat) (kn : Int) (mi : Nat) (mk : Nat) (hz : Int) (mh : Nat) (tr : Int64) (mt : Nat) (tn : Int) (cu : Int) (sa : Int) (to : Int) (nu : Int) (wr : Int) (it : Int) (sS : Int) (sC : Int) (sL : Int) (sW : Int) (mq : Nat) (mn : Nat) (mc : Nat) (mr : Nat) (mb : Nat) (mf : Int → Int) (sf : Int → Int) (kf : Int → Int) (im : Int) (hr_im : -2147483648 ≤ im ∧ im < 2147483648) : Met l yX9_keep wsX9_keep rmX9_keep (wrP G [.ref hm0, .int (zI im)] [(hm0, .inr (9, [.int (zI S), .int (zI C), .int (zI Wy), .int (zI Li), .ref ml, .ref ms, .ref mw, .int (zI kn), .ref mi, .ref mk, .int (zI hz), .ref mh, .long tr, .ref mt, .int (zI tn), .int (zI cu), .int (zI sa), .int (zI to), .int (zI nu), .int (zI wr), .int (zI it), .int (zI sS), .int (zI sC), .int (zI sL), .int (zI sW), .ref mq, .ref mn, .ref mc, .ref mr, .ref mb])), (mi, .inl (G.2.1, 30, .inl (aZ mf))), (ms, .inl (G.2.1, 15, .inl (aZ sf))), (mk, .inl (G.2.2.1, 2, .inl (aZ kf)))]) (wrQ G [(hm0, .inr (9, [.int (zI S), .int (zI C), .int (zI Wy), .int (zI Li), .ref ml, .ref ms, .ref mw, .int (zI kn), .ref mi, .ref mk, .int (zI hz), .ref mh, .long tr, .ref mt, .int (zI tn), .int (zI cu), .int (zI sa), .int (zI to), .int (zI nu), .int (zI wr), .int (zI it), .int (zI sS), .int (zI sC), .int (zI sL), .int (zI sW), .ref mq, .ref mn, .ref mc, .ref mr, .ref mb])), (mi, .inl (G.2.1, 30, .inl (aZ mf))), (ms, .inl (G.2.1, 15, .inl (aZ sf))), (mk, .inl (G.2.2.1, 2, .inl (aZ kf)))] (fun (r_ : Int32) (u : (Int → Int) × (Int → Int)) => match u with | (mf2, kf2) => r_ = zI (if ¬ (0 ≤ im ∧ im < 2) then -1 else sf 0) ∧ ((¬ (0 ≤ im ∧ im < 2) → mf2 = mf ∧ kf2 = kf) ∧ ((0 ≤ im ∧ im < 2) → mf2 = cpK mf (15 * im) sf 0 15 ∧ kf2 = uZ kf im 1))) (fun (u : (Int → Int) × (Int → Int)) => match u with | (mf2, kf2) => [(hm0, .inr (9, [.int (zI S), .int (zI C), .int (zI Wy), .int (zI Li), .ref ml, .ref ms, .ref mw, .int (zI kn), .ref mi, .ref mk, .int (zI hz), .ref mh, .long tr, .ref mt, .int (zI tn), .int (zI cu), .int (zI sa), .int (zI to), .int (zI nu), .int (zI wr), .int (zI it), .int (zI sS), .int (zI sC), .int (zI sL), .int (zI sW), .ref mq, .ref mn, .ref mc, .ref mr, .ref mb])), (mi, .inl (G.2.1, 30, .inl (aZ mf2))), (ms, .inl (G.2.1, 15, .inl (aZ sf))), (mk, .inl (G.2.2.1, 2, .inl (aZ kf2)))])) 0 0 (wrA [(hm0, .inr (9, [.int (zI S), .int (zI C), .int (zI Wy), .int (zI Li), .ref ml, .ref ms, .ref mw, .int (zI kn), .ref mi, .ref mk, .int (zI hz), .ref mh, .long tr, .ref mt, .int (zI tn), .int (zI cu), .int (zI sa), .int (zI to), .int (zI nu), .int (zI wr), .int (zI it), .int (zI sS), .int (zI sC), .int (zI sL), .int (zI sW), .ref mq, .ref mn, .ref mc, .ref mr, .ref mb])), (mi, .inl (G.2.1, 30, .inl (aZ mf))), (ms, .inl (G.2.1, 15, .inl (aZ sf))), (mk, .inl (G.2.2.1, 2, .inl (aZ kf)))]) := by
  refine wr_ofW (cc := cX9_keep) (maxL := 2) (ty := .int) (by decide) rfl (Nat.le_of_ble_eq_true rfl) ?_
  intro p e s m below meth c Q A hx hb hml hown hts hK hret H locs hP hD hS ls hl
  have hown : s.vm.findClass RX9 = some m.cls := hown
  have hl : lv_has ls 2 [(0, .ref hm0), (1, .int (zI im))] := hl
  have f32 := hts (.fieldLink RX9 32 "QuarterTurnsModel" "images" "[I") (by decide +kernel)
  have i9 : ∀ w ∈ wsX90, w ∈ wsX9_keep := fun w h => List.mem_cons_of_mem _ (List.mem_append_right _ h)
  have f26 := hts (.fieldLink RX9 26 "QuarterTurnsModel" "st" "[I") (by decide +kernel)
  have f35 := hts (.fieldLink RX9 35 "QuarterTurnsModel" "isKept" "[Z") (by decide +kernel)
  refine lv_iload_n hx hb dX9_keep_0 rfl (lv_at hl 1 rfl) ?_
  refine lv_iconst (v := zI 0) hx hb dX9_keep_1 rfl ?_
  refine lv_iconst (v := zI 1) hx hb dX9_keep_2 rfl ?_
  refine z_cS (As := [.int (zI im), .int (zI 0), .int (zI 1)]) (rest := []) ⟨hx, hb, hml, hown, hts⟩ (c_X9_in l G im 0 1 (by first | assumption | omega)) (va_cwS 3 hts gX9_keep_X9_in rfl rfl rfl pd_X9_in.2 ⟨(Nat.le_of_ble_eq_true rfl), (Nat.le_of_ble_eq_true rfl)⟩) hK hP hS [] rfl rfl hl.1 rfl (Nat.le_of_ble_eq_true rfl) dX9_keep_3 ⟨Nat.zero_le _, Nat.zero_le _⟩ (fun H locs hP hS => ?_)
  refine z_ifne_b (tgt := 11) hx hb dX9_keep_6 (by decide) (fun c_1 => ?_) (fun c_1 => ?_)
  · refine lv_aload_n hx hb dX9_keep_11 rfl (lv_at hl 0 rfl) ?_
    refine va_get (ci := 9) (v := .ref mi) (C := RX9) (T := TX9) (N := 30) hx hb hts i9 hown hK hP 0 rfl rfl 8 (by decide) f32 (fun _ h9 => h9) rfl dX9_keep_12 ?_
    refine lv_bipush (v := zI 15) hx hb dX9_keep_15 (by decide) ?_
    refine lv_iload_n hx hb dX9_keep_17 rfl (lv_at hl 1 rfl) ?_
    refine z_imul hx hb dX9_keep_18 ?_
    refine lv_aload_n hx hb dX9_keep_19 rfl (lv_at hl 0 rfl) ?_
    refine va_get (ci := 9) (v := .ref ms) (C := RX9) (T := TX9) (N := 30) hx hb hts i9 hown hK hP 0 rfl rfl 5 (by decide) f26 (fun _ h9 => h9) rfl dX9_keep_20 ?_
    refine lv_iconst (v := zI 0) hx hb dX9_keep_23 rfl ?_
    refine z_wSv (As := [.ref mi, .int (zI (15 * im)), .ref ms, .int (zI 0)]) (rest := []) ⟨hx, hb, hml, hown, hts⟩ (c_X9_copy l G mi 30 mf (15 * im) ms 15 sf 0 (by first | assumption | omega)) (va_cwS 4 hts gX9_keep_X9_copy rfl rfl rfl pd_X9_copy.2 ⟨(Nat.le_of_ble_eq_true rfl), (Nat.le_of_ble_eq_true rfl)⟩) hK hP hD hS [1, 2] (by decide) rfl (fun _ => rfl) rfl hl.1 rfl (Nat.le_of_ble_eq_true rfl) dX9_keep_24 ⟨Nat.zero_le _, Nat.zero_le _⟩ (fun u_ H locs hw_3 hP hD hS => ?_)
    obtain ⟨g2_2, rfl⟩ : ∃ z, z = u_ := ⟨_, rfl⟩
    try dsimp only at hw_3
    obtain rfl := hw_3
    have hP : kP G [(hm0, .inr (9, [.int (zI S), .int (zI C), .int (zI Wy), .int (zI Li), .ref ml, .ref ms, .ref mw, .int (zI kn), .ref mi, .ref mk, .int (zI hz), .ref mh, .long tr, .ref mt, .int (zI tn), .int (zI cu), .int (zI sa), .int (zI to), .int (zI nu), .int (zI wr), .int (zI it), .int (zI sS), .int (zI sC), .int (zI sL), .int (zI sW), .ref mq, .ref mn, .ref mc, .ref mr, .ref mb])), (mi, .inl (G.2.1, 30, .inl (aZ (cpK mf (15 * im) sf 0 15)))), (ms, .inl (G.2.1, 15, .inl (aZ sf))), (mk, .inl (G.2.2.1, 2, .inl (aZ kf)))] H := hP
    have hD : va_D A [(hm0, .inr (9, [.int (zI S), .int (zI C), .int (zI Wy), .int (zI Li), .ref ml, .ref ms, .ref mw, .int (zI kn), .ref mi, .ref mk, .int (zI hz), .ref mh, .long tr, .ref mt, .int (zI tn), .int (zI cu), .int (zI sa), .int (zI to), .int (zI nu), .int (zI wr), .int (zI it), .int (zI sS), .int (zI sC), .int (zI sL), .int (zI sW), .ref mq, .ref mn, .ref mc, .ref mr, .ref mb])), (mi, .inl (G.2.1, 30, .inl (aZ (cpK mf (15 * im) sf 0 15)))), (ms, .inl (G.2.1, 15, .inl (aZ sf))), (mk, .inl (G.2.2.1, 2, .inl (aZ kf)))] := hD
    refine lv_aload_n hx hb dX9_keep_27 rfl (lv_at hl 0 rfl) ?_
    refine va_get (ci := 9) (v := .ref mk) (C := RX9) (T := TX9) (N := 30) hx hb hts i9 hown hK hP 0 rfl rfl 9 (by decide) f35 (fun _ h9 => h9) rfl dX9_keep_28 ?_
    refine lv_iload_n hx hb dX9_keep_31 rfl (lv_at hl 1 rfl) ?_
    refine lv_iconst (v := zI 1) hx hb dX9_keep_32 rfl ?_
    refine z_zast (n := 2) (f := kf) (i := im) (v := 1) hx hb hK hP hD hS 3 rfl (by omega) (by omega) dX9_keep_33 (fun H locs hP hD hS => ?_)
    have hP : kP G [(hm0, .inr (9, [.int (zI S), .int (zI C), .int (zI Wy), .int (zI Li), .ref ml, .ref ms, .ref mw, .int (zI kn), .ref mi, .ref mk, .int (zI hz), .ref mh, .long tr, .ref mt, .int (zI tn), .int (zI cu), .int (zI sa), .int (zI to), .int (zI nu), .int (zI wr), .int (zI it), .int (zI sS), .int (zI sC), .int (zI sL), .int (zI sW), .ref mq, .ref mn, .ref mc, .ref mr, .ref mb])), (mi, .inl (G.2.1, 30, .inl (aZ (cpK mf (15 * im) sf 0 15)))), (ms, .inl (G.2.1, 15, .inl (aZ sf))), (mk, .inl (G.2.2.1, 2, .inl (aZ (uZ kf im 1))))] H := hP
    have hD : va_D A [(hm0, .inr (9, [.int (zI S), .int (zI C), .int (zI Wy), .int (zI Li), .ref ml, .ref ms, .ref mw, .int (zI kn), .ref mi, .ref mk, .int (zI hz), .ref mh, .long tr, .ref mt, .int (zI tn), .int (zI cu), .int (zI sa), .int (zI to), .int (zI nu), .int (zI wr), .int (zI it), .int (zI sS), .int (zI sC), .int (zI sL), .int (zI sW), .ref mq, .ref mn, .ref mc, .ref mr, .ref mb])), (mi, .inl (G.2.1, 30, .inl (aZ (cpK mf (15 * im) sf 0 15)))), (ms, .inl (G.2.1, 15, .inl (aZ sf))), (mk, .inl (G.2.2.1, 2, .inl (aZ (uZ kf im 1))))] := hD
    refine lv_aload_n hx hb dX9_keep_34 rfl (lv_at hl 0 rfl) ?_
    refine va_get (ci := 9) (v := .ref ms) (C := RX9) (T := TX9) (N := 30) hx hb hts i9 hown hK hP 0 rfl rfl 5 (by decide) f26 (fun _ h9 => h9) rfl dX9_keep_35 ?_
    refine lv_iconst (v := zI 0) hx hb dX9_keep_38 rfl ?_
    refine z_iald (n := 15) (f := sf) hx hb hK hP 2 rfl (by omega) dX9_keep_39 ?_
    exact hret H locs ls 40 _ (cpK mf (15 * im) sf 0 15, uZ kf im 1) rfl ⟨congrArg zI (by (repeat' split) <;> omega), by refine ⟨fun h => ?_, fun h => ?_⟩ <;> first | exact ⟨rfl, rfl⟩ | omega⟩ hP hS dX9_keep_40
  · refine lv_iconst (v := zI (-1)) hx hb dX9_keep_9 rfl ?_
    exact hret H locs ls 10 _ (mf, kf) rfl ⟨congrArg zI (by (repeat' split) <;> omega), by refine ⟨fun h => ?_, fun h => ?_⟩ <;> first | exact ⟨rfl, rfl⟩ | omega⟩ hP hS dX9_keep_10
theorem pd_X9_back : yX9_back.cls = RX9 ∧ yX9_back.cls ≠ "java/lang/invoke/MethodHandle" ∧ yX9_back.cls ≠ "java/lang/invoke/VarHandle" ∧ (parseMethodDescriptor yX9_back.desc).map (fun d => d.parameters.length) = some 1 := by decide +kernel
abbrev rmX9_back : Room := { frames := 1, cells := 0, slots := 0, locals := 24 }
set_option maxHeartbeats 4000000 in
set_option maxRecDepth 100000 in
theorem c_X9_back (l : Launch) (G : CX) (hm0 : Nat) (S : Int) (C : Int) (Wy : Int) (Li : Int) (ml : Nat) (ms : Nat) (mw : Nat) (kn : Int) (mi : Nat) (mk : Nat) (hz : Int) (mh : Nat) (tr : Int64) (mt : Nat) (tn : Int) (cu : Int) (sa : Int) (to : Int) (nu : Int) (wr : Int) (it : Int) (sS : Int) (sC : Int) (sL : Int) (sW : Int) (mq : Nat) (mn : Nat) (mc : Nat) (mr : Nat) (mb : Nat) (mf : Int → Int) (sf : Int → Int) (kf : Int → Int) (im : Int) (hkf : ∀ i : Int, 0 ≤ i → i < 2 → kf i = 0 ∨ kf i = 1) (hr_im : -2147483648 ≤ im ∧ im < 2147483648) : Met l yX9_back wsX9_back rmX9_back (wrP G [.ref hm0, .int (zI im)] [(hm0, .inr (9, [.int (zI S), .int (zI C), .int (zI Wy), .int (zI Li), .ref ml, .ref ms, .ref mw, .int (zI kn), .ref mi, .ref mk, .int (zI hz), .ref mh, .long tr, .ref mt, .int (zI tn), .int (zI cu), .int (zI sa), .int (zI to), .int (zI nu), .int (zI wr), .int (zI it), .int (zI sS), .int (zI sC), .int (zI sL), .int (zI sW), .ref mq, .ref mn, .ref mc, .ref mr, .ref mb])), (mi, .inl (G.2.1, 30, .inl (aZ mf))), (ms, .inl (G.2.1, 15, .inl (aZ sf))), (mk, .inl (G.2.2.1, 2, .inl (aZ kf)))]) (wrQ G [(hm0, .inr (9, [.int (zI S), .int (zI C), .int (zI Wy), .int (zI Li), .ref ml, .ref ms, .ref mw, .int (zI kn), .ref mi, .ref mk, .int (zI hz), .ref mh, .long tr, .ref mt, .int (zI tn), .int (zI cu), .int (zI sa), .int (zI to), .int (zI nu), .int (zI wr), .int (zI it), .int (zI sS), .int (zI sC), .int (zI sL), .int (zI sW), .ref mq, .ref mn, .ref mc, .ref mr, .ref mb])), (mi, .inl (G.2.1, 30, .inl (aZ mf))), (ms, .inl (G.2.1, 15, .inl (aZ sf))), (mk, .inl (G.2.2.1, 2, .inl (aZ kf)))] (fun (r_ : Int32) (u : (Int → Int) × Int) => match u with | (sf2, kn2) => r_ = zI (if ¬ (0 ≤ im ∧ im < 2) then -1 else if kf im = 0 then -2 else mf (15 * im)) ∧ ((¬ ((0 ≤ im ∧ im < 2) ∧ ¬ kf im = 0) → sf2 = sf ∧ kn2 = kn) ∧ ((0 ≤ im ∧ im < 2) ∧ ¬ kf im = 0 → sf2 = cpK sf 0 mf (15 * im) 15 ∧ kn2 = 0))) (fun (u : (Int → Int) × Int) => match u with | (sf2, kn2) => [(hm0, .inr (9, [.int (zI S), .int (zI C), .int (zI Wy), .int (zI Li), .ref ml, .ref ms, .ref mw, .int (zI kn2), .ref mi, .ref mk, .int (zI hz), .ref mh, .long tr, .ref mt, .int (zI tn), .int (zI cu), .int (zI sa), .int (zI to), .int (zI nu), .int (zI wr), .int (zI it), .int (zI sS), .int (zI sC), .int (zI sL), .int (zI sW), .ref mq, .ref mn, .ref mc, .ref mr, .ref mb])), (mi, .inl (G.2.1, 30, .inl (aZ mf))), (ms, .inl (G.2.1, 15, .inl (aZ sf2))), (mk, .inl (G.2.2.1, 2, .inl (aZ kf)))])) 0 0 (wrA [(hm0, .inr (9, [.int (zI S), .int (zI C), .int (zI Wy), .int (zI Li), .ref ml, .ref ms, .ref mw, .int (zI kn), .ref mi, .ref mk, .int (zI hz), .ref mh, .long tr, .ref mt, .int (zI tn), .int (zI cu), .int (zI sa), .int (zI to), .int (zI nu), .int (zI wr), .int (zI it), .int (zI sS), .int (zI sC), .int (zI sL), .int (zI sW), .ref mq, .ref mn, .ref mc, .ref mr, .ref mb])), (mi, .inl (G.2.1, 30, .inl (aZ mf))), (ms, .inl (G.2.1, 15, .inl (aZ sf))), (mk, .inl (G.2.2.1, 2, .inl (aZ kf)))]) := by
  refine wr_ofW (cc := cX9_back) (maxL := 2) (ty := .int) (by decide) rfl (Nat.le_of_ble_eq_true rfl) ?_
  intro p e s m below meth c Q A hx hb hml hown hts hK hret H locs hP hD hS ls hl
  have hown : s.vm.findClass RX9 = some m.cls := hown
  have hl : lv_has ls 2 [(0, .ref hm0), (1, .int (zI im))] := hl
  have f35 := hts (.fieldLink RX9 35 "QuarterTurnsModel" "isKept" "[Z") (by decide +kernel)
  have i9 : ∀ w ∈ wsX90, w ∈ wsX9_back := fun w h => List.mem_cons_of_mem _ (List.mem_append_right _ h)
  have f26 := hts (.fieldLink RX9 26 "QuarterTurnsModel" "st" "[I") (by decide +kernel)
  have f32 := hts (.fieldLink RX9 32 "QuarterTurnsModel" "images" "[I") (by decide +kernel)
  have f122 := hts (.fieldLink RX9 122 "QuarterTurnsModel" "known" "I") (by decide +kernel)
  refine lv_iload_n hx hb dX9_back_0 rfl (lv_at hl 1 rfl) ?_
  refine lv_iconst (v := zI 0) hx hb dX9_back_1 rfl ?_
  refine lv_iconst (v := zI 1) hx hb dX9_back_2 rfl ?_
  refine z_cS (As := [.int (zI im), .int (zI 0), .int (zI 1)]) (rest := []) ⟨hx, hb, hml, hown, hts⟩ (c_X9_in l G im 0 1 (by first | assumption | omega)) (va_cwS 3 hts gX9_back_X9_in rfl rfl rfl pd_X9_in.2 ⟨(Nat.le_of_ble_eq_true rfl), (Nat.le_of_ble_eq_true rfl)⟩) hK hP hS [] rfl rfl hl.1 rfl (Nat.le_of_ble_eq_true rfl) dX9_back_3 ⟨Nat.zero_le _, Nat.zero_le _⟩ (fun H locs hP hS => ?_)
  refine z_ifne_b (tgt := 11) hx hb dX9_back_6 (by decide) (fun c_1 => ?_) (fun c_1 => ?_)
  · refine lv_aload_n hx hb dX9_back_11 rfl (lv_at hl 0 rfl) ?_
    refine va_get (ci := 9) (v := .ref mk) (C := RX9) (T := TX9) (N := 30) hx hb hts i9 hown hK hP 0 rfl rfl 9 (by decide) f35 (fun _ h9 => h9) rfl dX9_back_12 ?_
    refine lv_iload_n hx hb dX9_back_15 rfl (lv_at hl 1 rfl) ?_
    refine z_zald (n := 2) (f := kf) hx hb hK hP 3 rfl (by omega) dX9_back_16 ?_
    have he_2 := hkf im (by omega) (by omega)
    refine z_if_ne (tgt := 23) hx hb (by omega) dX9_back_17 (by decide) (fun c_3 => ?_) (fun c_3 => ?_)
    · refine lv_aload_n hx hb dX9_back_23 rfl (lv_at hl 0 rfl) ?_
      refine va_get (ci := 9) (v := .ref ms) (C := RX9) (T := TX9) (N := 30) hx hb hts i9 hown hK hP 0 rfl rfl 5 (by decide) f26 (fun _ h9 => h9) rfl dX9_back_24 ?_
      refine lv_iconst (v := zI 0) hx hb dX9_back_27 rfl ?_
      refine lv_aload_n hx hb dX9_back_28 rfl (lv_at hl 0 rfl) ?_
      refine va_get (ci := 9) (v := .ref mi) (C := RX9) (T := TX9) (N := 30) hx hb hts i9 hown hK hP 0 rfl rfl 8 (by decide) f32 (fun _ h9 => h9) rfl dX9_back_29 ?_
      refine lv_bipush (v := zI 15) hx hb dX9_back_32 (by decide) ?_
      refine lv_iload_n hx hb dX9_back_34 rfl (lv_at hl 1 rfl) ?_
      refine z_imul hx hb dX9_back_35 ?_
      refine z_wSv (As := [.ref ms, .int (zI 0), .ref mi, .int (zI (15 * im))]) (rest := []) ⟨hx, hb, hml, hown, hts⟩ (c_X9_copy l G ms 15 sf 0 mi 30 mf (15 * im) (by first | assumption | omega)) (va_cwS 4 hts gX9_back_X9_copy rfl rfl rfl pd_X9_copy.2 ⟨(Nat.le_of_ble_eq_true rfl), (Nat.le_of_ble_eq_true rfl)⟩) hK hP hD hS [2, 1] (by decide) rfl (fun _ => rfl) rfl hl.1 rfl (Nat.le_of_ble_eq_true rfl) dX9_back_36 ⟨Nat.zero_le _, Nat.zero_le _⟩ (fun u_ H locs hw_5 hP hD hS => ?_)
      obtain ⟨g2_4, rfl⟩ : ∃ z, z = u_ := ⟨_, rfl⟩
      try dsimp only at hw_5
      obtain rfl := hw_5
      have hP : kP G [(hm0, .inr (9, [.int (zI S), .int (zI C), .int (zI Wy), .int (zI Li), .ref ml, .ref ms, .ref mw, .int (zI kn), .ref mi, .ref mk, .int (zI hz), .ref mh, .long tr, .ref mt, .int (zI tn), .int (zI cu), .int (zI sa), .int (zI to), .int (zI nu), .int (zI wr), .int (zI it), .int (zI sS), .int (zI sC), .int (zI sL), .int (zI sW), .ref mq, .ref mn, .ref mc, .ref mr, .ref mb])), (mi, .inl (G.2.1, 30, .inl (aZ mf))), (ms, .inl (G.2.1, 15, .inl (aZ (cpK sf 0 mf (15 * im) 15)))), (mk, .inl (G.2.2.1, 2, .inl (aZ kf)))] H := hP
      have hD : va_D A [(hm0, .inr (9, [.int (zI S), .int (zI C), .int (zI Wy), .int (zI Li), .ref ml, .ref ms, .ref mw, .int (zI kn), .ref mi, .ref mk, .int (zI hz), .ref mh, .long tr, .ref mt, .int (zI tn), .int (zI cu), .int (zI sa), .int (zI to), .int (zI nu), .int (zI wr), .int (zI it), .int (zI sS), .int (zI sC), .int (zI sL), .int (zI sW), .ref mq, .ref mn, .ref mc, .ref mr, .ref mb])), (mi, .inl (G.2.1, 30, .inl (aZ mf))), (ms, .inl (G.2.1, 15, .inl (aZ (cpK sf 0 mf (15 * im) 15)))), (mk, .inl (G.2.2.1, 2, .inl (aZ kf)))] := hD
      refine lv_aload_n hx hb dX9_back_39 rfl (lv_at hl 0 rfl) ?_
      refine lv_iconst (v := zI 0) hx hb dX9_back_40 rfl ?_
      refine va_put (ci := 9) (v := .int (zI 0)) (ty := .int) (C := RX9) (T := TX9) (N := 30) hx hb hts i9 tyX9 tyX9_ok nmX9 hown hK hP hD hS 0 rfl rfl 7 (by decide) f122 (fun _ h9 => h9) rfl (tyX9_ok 7 (by decide)) rfl rfl (Nat.le_of_ble_eq_true rfl) dX9_back_41 (fun H locs hP hD hS => ?_)
      have hP : kP G [(hm0, .inr (9, [.int (zI S), .int (zI C), .int (zI Wy), .int (zI Li), .ref ml, .ref ms, .ref mw, .int (zI 0), .ref mi, .ref mk, .int (zI hz), .ref mh, .long tr, .ref mt, .int (zI tn), .int (zI cu), .int (zI sa), .int (zI to), .int (zI nu), .int (zI wr), .int (zI it), .int (zI sS), .int (zI sC), .int (zI sL), .int (zI sW), .ref mq, .ref mn, .ref mc, .ref mr, .ref mb])), (mi, .inl (G.2.1, 30, .inl (aZ mf))), (ms, .inl (G.2.1, 15, .inl (aZ (cpK sf 0 mf (15 * im) 15)))), (mk, .inl (G.2.2.1, 2, .inl (aZ kf)))] H := hP
      have hD : va_D A [(hm0, .inr (9, [.int (zI S), .int (zI C), .int (zI Wy), .int (zI Li), .ref ml, .ref ms, .ref mw, .int (zI 0), .ref mi, .ref mk, .int (zI hz), .ref mh, .long tr, .ref mt, .int (zI tn), .int (zI cu), .int (zI sa), .int (zI to), .int (zI nu), .int (zI wr), .int (zI it), .int (zI sS), .int (zI sC), .int (zI sL), .int (zI sW), .ref mq, .ref mn, .ref mc, .ref mr, .ref mb])), (mi, .inl (G.2.1, 30, .inl (aZ mf))), (ms, .inl (G.2.1, 15, .inl (aZ (cpK sf 0 mf (15 * im) 15)))), (mk, .inl (G.2.2.1, 2, .inl (aZ kf)))] := hD
      refine lv_aload_n hx hb dX9_back_44 rfl (lv_at hl 0 rfl) ?_
      refine va_get (ci := 9) (v := .ref ms) (C := RX9) (T := TX9) (N := 30) hx hb hts i9 hown hK hP 0 rfl rfl 5 (by decide) f26 (fun _ h9 => h9) rfl dX9_back_45 ?_
      refine lv_iconst (v := zI 0) hx hb dX9_back_48 rfl ?_
      refine z_iald (n := 15) (f := cpK sf 0 mf (15 * im) 15) hx hb hK hP 2 rfl (by omega) dX9_back_49 ?_
      exact hret H locs ls 50 _ (cpK sf 0 mf (15 * im) 15, 0) rfl ⟨congrArg zI (by (repeat' split) <;> first | omega | (unfold cpK; rw [if_pos (by omega)]; congr 1; omega)), by refine ⟨fun h => ?_, fun h => ?_⟩ <;> first | exact ⟨rfl, rfl⟩ | omega⟩ hP hS dX9_back_50
    · refine lv_bipush (v := zI (-2)) hx hb dX9_back_20 (by decide) ?_
      exact hret H locs ls 22 _ (sf, kn) rfl ⟨congrArg zI (by (repeat' split) <;> first | omega | (unfold cpK; rw [if_pos (by omega)]; congr 1; omega)), by refine ⟨fun h => ?_, fun h => ?_⟩ <;> first | exact ⟨rfl, rfl⟩ | omega⟩ hP hS dX9_back_22
  · refine lv_iconst (v := zI (-1)) hx hb dX9_back_9 rfl ?_
    exact hret H locs ls 10 _ (sf, kn) rfl ⟨congrArg zI (by (repeat' split) <;> first | omega | (unfold cpK; rw [if_pos (by omega)]; congr 1; omega)), by refine ⟨fun h => ?_, fun h => ?_⟩ <;> first | exact ⟨rfl, rfl⟩ | omega⟩ hP hS dX9_back_10
