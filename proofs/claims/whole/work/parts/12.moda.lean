
section ZB
variable {p : Program} {l : Launch} {e : Env} {R : Room} {s : State} {m : MethodId} {args : Array Value} {below : List Frame} {meth : Method} {c : Code} {H : Heap} {locs : List Loc} {cells slots : Nat} {Q : State → Prop}
variable {cc : ByteArray} {pc : Nat} {ls : Array Slot} {rest : List Value}
theorem z_bne1 (hx : p.tables.exec = Jvm.exec) (hb : c.code = cc) {P : Prop} [Decidable P] {off : Int} {tgt : Nat} (hdg : decode cc pc = .ok (.if_icmp .ne off, 3)) (ht : (pc : Int) + off = (tgt : Int)) (kt : ¬ P → W p l e R s m args below meth c H locs cells slots Q (F0 m tgt ls (rest))) (kf : P → W p l e R s m args below meth c H locs cells slots Q (F0 m (pc + 3) ls (rest))) : W p l e R s m args below meth c H locs cells slots Q (F0 m pc ls (.int (zI 1) :: .int (zI (if P then 1 else 0)) :: rest)) := by
  by_cases h : P
  · rw [if_pos h]
    exact lv_icmp_ne hx hb hdg ht (fun h2 => absurd rfl h2) (fun _ => kf h)
  · rw [if_neg h]
    exact lv_icmp_ne hx hb hdg ht (fun _ => kt h) (fun h2 => absurd h2 (by decide))
end ZB
def cpK (f : Int → Int) (a : Int) (g : Int → Int) (b k : Int) : Int → Int := fun j => if a ≤ j ∧ j < a + k then g (b + (j - a)) else f j
theorem cpK_step (f g : Int → Int) (a b k : Int) (hk : 0 ≤ k) : uZ (cpK f a g b k) (a + k) (g (b + k)) = cpK f a g b (k + 1) := by
  funext j
  unfold uZ cpK
  by_cases h1 : j = a + k
  · rw [if_pos h1, if_pos ⟨by omega, by omega⟩]
    congr 1
    omega
  · rw [if_neg h1]
    by_cases h2 : a ≤ j ∧ j < a + k
    · rw [if_pos h2, if_pos ⟨by omega, by omega⟩]
    · rw [if_neg h2, if_neg (by omega)]
theorem cpK_0 (f g : Int → Int) (a b : Int) : cpK f a g b 0 = f := by
  funext j
  unfold cpK
  rw [if_neg (by omega)]
def lA (f : Int → Int) (n k : Int) : Int := if k < n then f k else -1
theorem lA_rng {f : Int → Int} {n k : Int} (hk : 0 ≤ k) (hf : ∀ i : Int, 0 ≤ i → i < n → 0 ≤ f i ∧ f i ≤ 255) : -1 ≤ lA f n k ∧ lA f n k ≤ 255 ∧ (k < n → lA f n k = f k) ∧ (¬ k < n → lA f n k = -1) ∧ (k < n → 0 ≤ lA f n k) := by
  unfold lA
  split
  · rename_i h
    have := hf k hk h
    omega
  · omega
theorem fromM {S C Wy w t : Int} (hB : (2 ≤ S ∧ S ≤ 6) ∧ (C = 1 ∧ Wy = S ∨ C = 2 ∧ Wy = 2 * S)) (hw : 0 ≤ w ∧ w < Wy) (ht : 0 ≤ t ∧ t < Wy) : (w / S = 0 → S * ((w / S + t / S) % 2) + (w % S + t % S) % S = fromZ S w t) ∧ (¬ w / S = 0 → S * ((w / S + t / S) % 2) + (w % S + (S - t % S)) % S = fromZ S w t) := by
  unfold fromZ stepZ covZ
  rcases (show S = 2 ∨ S = 3 ∨ S = 4 ∨ S = 5 ∨ S = 6 by omega) with rfl | rfl | rfl | rfl | rfl
  all_goals
    refine ⟨fun h => ?_, fun h => ?_⟩
    all_goals
      (repeat' split) <;> omega
theorem mod_rng {a b : Int} (hb : 0 < b) : 0 ≤ a % b ∧ a % b < b := ⟨Int.emod_nonneg _ (by omega), Int.emod_lt_of_pos _ hb⟩
theorem stepM {S C Wy w : Int} (hB : (2 ≤ S ∧ S ≤ 6) ∧ (C = 1 ∧ Wy = S ∨ C = 2 ∧ Wy = 2 * S)) (hw : 0 ≤ w ∧ w < Wy) : w % S = stepZ S w ∧ w / S = covZ S w := by
  unfold stepZ covZ
  rcases (show S = 2 ∨ S = 3 ∨ S = 4 ∨ S = 5 ∨ S = 6 by omega) with rfl | rfl | rfl | rfl | rfl
  all_goals
    refine ⟨?_, ?_⟩ <;> split <;> omega

theorem pd_X9_in : yX9_in.cls = RX9 ∧ yX9_in.cls ≠ "java/lang/invoke/MethodHandle" ∧ yX9_in.cls ≠ "java/lang/invoke/VarHandle" ∧ (parseMethodDescriptor yX9_in.desc).map (fun d => d.parameters.length) = some 3 := by decide +kernel
abbrev rmX9_in : Room := { frames := 0, cells := 0, slots := 0, locals := 0 }
set_option maxHeartbeats 4000000 in
set_option maxRecDepth 100000 in
theorem c_X9_in (l : Launch) (G : CX) (v : Int) (lo : Int) (hi : Int) (hv : (-2147483648 ≤ v ∧ v < 2147483648) ∧ (-2147483648 ≤ lo ∧ lo < 2147483648) ∧ (-2147483648 ≤ hi ∧ hi < 2147483648)) : Met l yX9_in wsX9_in rmX9_in (rdP G [.int (zI v), .int (zI lo), .int (zI hi)] []) (rdQ (zI (if (lo ≤ v ∧ v ≤ hi) then 1 else 0))) 0 0 noA := by
  refine rd_ofW (cc := cX9_in) (maxL := 3) (ty := .boolean) (by decide) rfl (Nat.le_of_ble_eq_true rfl) (nb _) ?_
  intro p e s m below meth c Q A hx hb hml hown hts hK hret H locs hP hS ls hl
  have hown : s.vm.findClass RX9 = some m.cls := hown
  have hl : lv_has ls 3 [(0, .int (zI v)), (1, .int (zI lo)), (2, .int (zI hi))] := hl
  refine lv_iload_n hx hb dX9_in_0 rfl (lv_at hl 0 rfl) ?_
  refine lv_iload_n hx hb dX9_in_1 rfl (lv_at hl 1 rfl) ?_
  refine z_icmp_lt (tgt := 14) hx hb (by omega) dX9_in_2 (by decide) (fun c_1 => ?_) (fun c_1 => ?_)
  · refine lv_iconst (v := zI 0) hx hb dX9_in_14 rfl ?_
    exact hret H locs ls 15 _ (congrArg zI (if_neg (by omega)).symm) hS dX9_in_15
  · refine lv_iload_n hx hb dX9_in_5 rfl (lv_at hl 0 rfl) ?_
    refine lv_iload_n hx hb dX9_in_6 rfl (lv_at hl 2 rfl) ?_
    refine z_icmp_gt (tgt := 14) hx hb (by omega) dX9_in_7 (by decide) (fun c_2 => ?_) (fun c_2 => ?_)
    · refine lv_iconst (v := zI 0) hx hb dX9_in_14 rfl ?_
      exact hret H locs ls 15 _ (congrArg zI (if_neg (by omega)).symm) hS dX9_in_15
    · refine lv_iconst (v := zI 1) hx hb dX9_in_10 rfl ?_
      refine lv_goto (tgt := 15) hx hb dX9_in_11 (by decide) ?_
      exact hret H locs ls 15 _ (congrArg zI (if_pos (by omega)).symm) hS dX9_in_15
theorem pd_X9_has : yX9_has.cls = RX9 ∧ yX9_has.cls ≠ "java/lang/invoke/MethodHandle" ∧ yX9_has.cls ≠ "java/lang/invoke/VarHandle" ∧ (parseMethodDescriptor yX9_has.desc).map (fun d => d.parameters.length) = some 2 := by decide +kernel
abbrev rmX9_has : Room := { frames := 0, cells := 0, slots := 0, locals := 0 }
set_option maxHeartbeats 4000000 in
set_option maxRecDepth 100000 in
theorem c_X9_has (l : Launch) (G : CX) (set : Int) (k : Int) (hs : 0 ≤ set ∧ set < 2147483648) (hk : 0 ≤ k ∧ k < 31) : Met l yX9_has wsX9_has rmX9_has (rdP G [.int (zI set), .int (zI k)] []) (rdQ (zI (if set.toNat.testBit k.toNat = true then 1 else 0))) 0 0 noA := by
  refine rd_ofW (cc := cX9_has) (maxL := 2) (ty := .boolean) (by decide) rfl (Nat.le_of_ble_eq_true rfl) (nb _) ?_
  intro p e s m below meth c Q A hx hb hml hown hts hK hret H locs hP hS ls hl
  have hown : s.vm.findClass RX9 = some m.cls := hown
  have hl : lv_has ls 2 [(0, .int (zI set)), (1, .int (zI k))] := hl
  refine lv_iload_n hx hb dX9_has_0 rfl (lv_at hl 0 rfl) ?_
  refine lv_iload_n hx hb dX9_has_1 rfl (lv_at hl 1 rfl) ?_
  refine z_ishrZ (a := set) hx hb (by omega) (by omega) dX9_has_2 ?_
  refine lv_iconst (v := zI 1) hx hb dX9_has_3 rfl ?_
  refine z_iand (a := set.toNat >>> k.toNat) (b := 1) hx hb dX9_has_4 ?_
  refine z_top (bit_ite set.toNat k.toNat) ?_
  refine lv_iconst (v := zI 1) hx hb dX9_has_5 rfl ?_
  refine z_bne1 (tgt := 13) hx hb dX9_has_6 (by decide) (fun c_1 => ?_) (fun c_1 => ?_)
  · refine lv_iconst (v := zI 0) hx hb dX9_has_13 rfl ?_
    exact hret H locs ls 14 _ (congrArg zI (if_neg (by assumption)).symm) hS dX9_has_14
  · refine lv_iconst (v := zI 1) hx hb dX9_has_9 rfl ?_
    refine lv_goto (tgt := 14) hx hb dX9_has_10 (by decide) ?_
    exact hret H locs ls 14 _ (congrArg zI (if_pos (by assumption)).symm) hS dX9_has_14
theorem pd_X9_isWay : yX9_isWay.cls = RX9 ∧ yX9_isWay.cls ≠ "java/lang/invoke/MethodHandle" ∧ yX9_isWay.cls ≠ "java/lang/invoke/VarHandle" ∧ (parseMethodDescriptor yX9_isWay.desc).map (fun d => d.parameters.length) = some 1 := by decide +kernel
abbrev rmX9_isWay : Room := { frames := 1, cells := 0, slots := 0, locals := 22 }
set_option maxHeartbeats 4000000 in
set_option maxRecDepth 100000 in
theorem c_X9_isWay (l : Launch) (G : CX) (hm0 : Nat) (S : Int) (C : Int) (Wy : Int) (Li : Int) (ml : Nat) (ms : Nat) (mw : Nat) (kn : Int) (mi : Nat) (mk : Nat) (hz : Int) (mh : Nat) (tr : Int64) (mt : Nat) (tn : Int) (cu : Int) (sa : Int) (to : Int) (nu : Int) (wr : Int) (it : Int) (sS : Int) (sC : Int) (sL : Int) (sW : Int) (mq : Nat) (mn : Nat) (mc : Nat) (mr : Nat) (mb : Nat) (w : Int) (hW0 : 0 ≤ Wy ∧ Wy ≤ 12) (hr_w : -2147483648 ≤ w ∧ w < 2147483648) : Met l yX9_isWay wsX9_isWay rmX9_isWay (rdP G [.ref hm0, .int (zI w)] [(hm0, .inr (9, [.int (zI S), .int (zI C), .int (zI Wy), .int (zI Li), .ref ml, .ref ms, .ref mw, .int (zI kn), .ref mi, .ref mk, .int (zI hz), .ref mh, .long tr, .ref mt, .int (zI tn), .int (zI cu), .int (zI sa), .int (zI to), .int (zI nu), .int (zI wr), .int (zI it), .int (zI sS), .int (zI sC), .int (zI sL), .int (zI sW), .ref mq, .ref mn, .ref mc, .ref mr, .ref mb]))]) (rdQ (zI (if (0 ≤ w ∧ w < Wy) then 1 else 0))) 0 0 noA := by
  refine rd_ofW (cc := cX9_isWay) (maxL := 2) (ty := .boolean) (by decide) rfl (Nat.le_of_ble_eq_true rfl) (nb _) ?_
  intro p e s m below meth c Q A hx hb hml hown hts hK hret H locs hP hS ls hl
  have hown : s.vm.findClass RX9 = some m.cls := hown
  have hl : lv_has ls 2 [(0, .ref hm0), (1, .int (zI w))] := hl
  have f16 := hts (.fieldLink RX9 16 "QuarterTurnsModel" "ways" "I") (by decide +kernel)
  have i9 : ∀ w ∈ wsX90, w ∈ wsX9_isWay := fun w h => List.mem_cons_of_mem _ (List.mem_append_right _ h)
  refine lv_iload_n hx hb dX9_isWay_0 rfl (lv_at hl 1 rfl) ?_
  refine lv_iconst (v := zI 0) hx hb dX9_isWay_1 rfl ?_
  refine lv_aload_n hx hb dX9_isWay_2 rfl (lv_at hl 0 rfl) ?_
  refine va_get (ci := 9) (v := .int (zI Wy)) (C := RX9) (T := TX9) (N := 30) hx hb hts i9 hown hK hP 0 rfl rfl 2 (by decide) f16 (fun _ h9 => h9) rfl dX9_isWay_3 ?_
  refine lv_iconst (v := zI 1) hx hb dX9_isWay_6 rfl ?_
  refine z_isub hx hb dX9_isWay_7 ?_
  refine z_cS (As := [.int (zI w), .int (zI 0), .int (zI (Wy - 1))]) (rest := []) ⟨hx, hb, hml, hown, hts⟩ (c_X9_in l G w 0 (Wy - 1) (by first | assumption | omega)) (va_cwS 3 hts gX9_isWay_X9_in rfl rfl rfl pd_X9_in.2 ⟨(Nat.le_of_ble_eq_true rfl), (Nat.le_of_ble_eq_true rfl)⟩) hK hP hS [] rfl rfl hl.1 rfl (Nat.le_of_ble_eq_true rfl) dX9_isWay_8 ⟨Nat.zero_le _, Nat.zero_le _⟩ (fun H locs hP hS => ?_)
  exact hret H locs ls 11 _ (congrArg zI (by split <;> split <;> omega)) hS dX9_isWay_11
theorem pd_X9_isSet : yX9_isSet.cls = RX9 ∧ yX9_isSet.cls ≠ "java/lang/invoke/MethodHandle" ∧ yX9_isSet.cls ≠ "java/lang/invoke/VarHandle" ∧ (parseMethodDescriptor yX9_isSet.desc).map (fun d => d.parameters.length) = some 1 := by decide +kernel
abbrev rmX9_isSet : Room := { frames := 1, cells := 0, slots := 0, locals := 22 }
set_option maxHeartbeats 4000000 in
set_option maxRecDepth 100000 in
theorem c_X9_isSet (l : Launch) (G : CX) (hm0 : Nat) (S : Int) (C : Int) (Wy : Int) (Li : Int) (ml : Nat) (ms : Nat) (mw : Nat) (kn : Int) (mi : Nat) (mk : Nat) (hz : Int) (mh : Nat) (tr : Int64) (mt : Nat) (tn : Int) (cu : Int) (sa : Int) (to : Int) (nu : Int) (wr : Int) (it : Int) (sS : Int) (sC : Int) (sL : Int) (sW : Int) (mq : Nat) (mn : Nat) (mc : Nat) (mr : Nat) (mb : Nat) (set : Int) (hW0 : 0 ≤ Wy ∧ Wy ≤ 12) (hr_set : -2147483648 ≤ set ∧ set < 2147483648) : Met l yX9_isSet wsX9_isSet rmX9_isSet (rdP G [.ref hm0, .int (zI set)] [(hm0, .inr (9, [.int (zI S), .int (zI C), .int (zI Wy), .int (zI Li), .ref ml, .ref ms, .ref mw, .int (zI kn), .ref mi, .ref mk, .int (zI hz), .ref mh, .long tr, .ref mt, .int (zI tn), .int (zI cu), .int (zI sa), .int (zI to), .int (zI nu), .int (zI wr), .int (zI it), .int (zI sS), .int (zI sC), .int (zI sL), .int (zI sW), .ref mq, .ref mn, .ref mc, .ref mr, .ref mb]))]) (rdQ (zI (if (0 ≤ set ∧ set ≤ ((fullN Wy : Nat) : Int)) then 1 else 0))) 0 0 noA := by
  refine rd_ofW (cc := cX9_isSet) (maxL := 2) (ty := .boolean) (by decide) rfl (Nat.le_of_ble_eq_true rfl) (nb _) ?_
  intro p e s m below meth c Q A hx hb hml hown hts hK hret H locs hP hS ls hl
  have hown : s.vm.findClass RX9 = some m.cls := hown
  have hl : lv_has ls 2 [(0, .ref hm0), (1, .int (zI set))] := hl
  have f16 := hts (.fieldLink RX9 16 "QuarterTurnsModel" "ways" "I") (by decide +kernel)
  have i9 : ∀ w ∈ wsX90, w ∈ wsX9_isSet := fun w h => List.mem_cons_of_mem _ (List.mem_append_right _ h)
  refine lv_iload_n hx hb dX9_isSet_0 rfl (lv_at hl 1 rfl) ?_
  refine lv_iconst (v := zI 0) hx hb dX9_isSet_1 rfl ?_
  refine lv_iconst (v := zI 1) hx hb dX9_isSet_2 rfl ?_
  refine lv_aload_n hx hb dX9_isSet_3 rfl (lv_at hl 0 rfl) ?_
  refine va_get (ci := 9) (v := .int (zI Wy)) (C := RX9) (T := TX9) (N := 30) hx hb hts i9 hown hK hP 0 rfl rfl 2 (by decide) f16 (fun _ h9 => h9) rfl dX9_isSet_4 ?_
  refine z_shl1 hx hb (by omega) dX9_isSet_7 ?_
  refine lv_iconst (v := zI 1) hx hb dX9_isSet_8 rfl ?_
  refine z_isub hx hb dX9_isSet_9 ?_
  refine z_top (fullN_eq Wy) ?_
  have hfl := fullN_lt (W := Wy) (by omega)
  refine z_cS (As := [.int (zI set), .int (zI 0), .int (zI ((fullN Wy : Nat) : Int))]) (rest := []) ⟨hx, hb, hml, hown, hts⟩ (c_X9_in l G set 0 ((fullN Wy : Nat) : Int) (by first | assumption | omega)) (va_cwS 3 hts gX9_isSet_X9_in rfl rfl rfl pd_X9_in.2 ⟨(Nat.le_of_ble_eq_true rfl), (Nat.le_of_ble_eq_true rfl)⟩) hK hP hS [] rfl rfl hl.1 rfl (Nat.le_of_ble_eq_true rfl) dX9_isSet_10 ⟨Nat.zero_le _, Nat.zero_le _⟩ (fun H locs hP hS => ?_)
  exact hret H locs ls 13 _ (congrArg zI (by rfl)) hS dX9_isSet_13
theorem pd_X9_copy : yX9_copy.cls = RX9 ∧ yX9_copy.cls ≠ "java/lang/invoke/MethodHandle" ∧ yX9_copy.cls ≠ "java/lang/invoke/VarHandle" ∧ (parseMethodDescriptor yX9_copy.desc).map (fun d => d.parameters.length) = some 4 := by decide +kernel
abbrev rmX9_copy : Room := { frames := 0, cells := 0, slots := 0, locals := 0 }
set_option maxHeartbeats 4000000 in
set_option maxRecDepth 100000 in
theorem c_X9_copy (l : Launch) (G : CX) (ta : Nat) (n1 : Nat) (f1 : Int → Int) (at0 : Int) (tb : Nat) (n2 : Nat) (f2 : Int → Int) (fr : Int) (hn : 0 ≤ at0 ∧ at0 + 15 ≤ n1 ∧ n1 < 100000 ∧ 0 ≤ fr ∧ fr + 15 ≤ n2 ∧ n2 < 100000) : Met l yX9_copy wsX9_copy rmX9_copy (wrP G [.ref ta, .int (zI at0), .ref tb, .int (zI fr)] [(ta, .inl (G.2.1, n1, .inl (aZ f1))), (tb, .inl (G.2.1, n2, .inl (aZ f2)))]) (wrV G [(ta, .inl (G.2.1, n1, .inl (aZ f1))), (tb, .inl (G.2.1, n2, .inl (aZ f2)))] (fun (u : (Int → Int)) => match u with | g2 => (g2 = cpK f1 at0 f2 fr 15)) (fun (u : (Int → Int)) => match u with | g2 => [(ta, .inl (G.2.1, n1, .inl (aZ g2))), (tb, .inl (G.2.1, n2, .inl (aZ f2)))])) 0 0 (wrA [(ta, .inl (G.2.1, n1, .inl (aZ f1))), (tb, .inl (G.2.1, n2, .inl (aZ f2)))]) := by
  refine wv_ofW (cc := cX9_copy) (maxL := 5) (by decide) rfl (Nat.le_of_ble_eq_true rfl) ?_
  intro p e s m below meth c Q A hx hb hml hown hts hK hret H locs hP hD hS ls hl
  have hown : s.vm.findClass RX9 = some m.cls := hown
  have hl : lv_has ls 5 [(0, .ref ta), (1, .int (zI at0)), (2, .ref tb), (3, .int (zI fr))] := hl
  refine lv_iconst (v := zI 0) hx hb dX9_copy_0 rfl ?_
  refine lv_istore (lv' := [(4, .int (zI 0)), (0, .ref ta), (1, .int (zI at0)), (2, .ref tb), (3, .int (zI fr))]) hx hb dX9_copy_1 hl (by decide) rfl (fun ls hl => ?_)
  have loop3 : ∀ (n_ : Nat) (k : Int) (g : Int → Int) (H : Heap) (locs : List Loc) (ls : Array Slot), (0 ≤ k ∧ k ≤ 15) → (g = cpK f1 at0 f2 fr k) → (15 - k).toNat < n_ → kP G [(ta, .inl (G.2.1, n1, .inl (aZ g))), (tb, .inl (G.2.1, n2, .inl (aZ f2)))] H → va_D A [(ta, .inl (G.2.1, n1, .inl (aZ g))), (tb, .inl (G.2.1, n2, .inl (aZ f2)))] → va_S A s.heap H locs → lv_has ls 5 [(4, .int (zI k)), (0, .ref ta), (1, .int (zI at0)), (2, .ref tb), (3, .int (zI fr))] → W p l e rmX9_copy s m ([.ref ta, .int (zI at0), .ref tb, .int (zI fr)] : List Value).toArray below meth c H locs 0 0 Q (F0 m 3 ls []) := by
    intro n_
    induction n_ with
    | zero =>
      intro k g H locs ls hk hg hm
      exact absurd hm (Nat.not_lt_zero _)
    | succ n_ ih3 =>
      intro k g H locs ls hk hg hm3 hP hD hS hl
      refine lv_iload hx hb dX9_copy_3 (lv_at hl 0 rfl) ?_
      refine lv_bipush (v := zI 15) hx hb dX9_copy_5 (by decide) ?_
      refine z_icmp_ge (tgt := 28) hx hb (by omega) dX9_copy_7 (by decide) (fun c_1 => ?_) (fun c_1 => ?_)
      · exact hret H locs ls 28 (g) (by rw [hg, show k = 15 by omega]) hP hS dX9_copy_28
      · refine lv_aload_n hx hb dX9_copy_10 rfl (lv_at hl 1 rfl) ?_
        refine lv_iload_n hx hb dX9_copy_11 rfl (lv_at hl 2 rfl) ?_
        refine lv_iload hx hb dX9_copy_12 (lv_at hl 0 rfl) ?_
        refine z_iadd hx hb dX9_copy_14 ?_
        refine lv_aload_n hx hb dX9_copy_15 rfl (lv_at hl 3 rfl) ?_
        refine lv_iload_n hx hb dX9_copy_16 rfl (lv_at hl 4 rfl) ?_
        refine lv_iload hx hb dX9_copy_17 (lv_at hl 0 rfl) ?_
        refine z_iadd hx hb dX9_copy_19 ?_
        refine z_iald (n := n2) (f := f2) hx hb hK hP 1 rfl (by omega) dX9_copy_20 ?_
        refine z_iast (n := n1) (f := g) (i := at0 + k) (v := f2 (fr + k)) hx hb hK hP hD hS 0 rfl (by omega) dX9_copy_21 (fun H locs hP hD hS => ?_)
        have hP : kP G [(ta, .inl (G.2.1, n1, .inl (aZ (uZ g (at0 + k) (f2 (fr + k)))))), (tb, .inl (G.2.1, n2, .inl (aZ f2)))] H := hP
        have hD : va_D A [(ta, .inl (G.2.1, n1, .inl (aZ (uZ g (at0 + k) (f2 (fr + k)))))), (tb, .inl (G.2.1, n2, .inl (aZ f2)))] := hD
        refine lv_iinc (v := zI (k + 1)) (lv' := [(4, .int (zI (k + 1))), (0, .ref ta), (1, .int (zI at0)), (2, .ref tb), (3, .int (zI fr))]) hx hb dX9_copy_22 hl (k := 0) rfl (zI_add _ _) (by decide) rfl (fun ls hl => ?_)
        refine lv_goto (tgt := 3) hx hb dX9_copy_25 (by decide) ?_
        exact ih3 (k + 1) (uZ g (at0 + k) (f2 (fr + k))) H locs ls (by omega) (by rw [hg]; exact cpK_step _ _ _ _ _ hk.1) (by omega) hP hD hS (lv_sub hl [0, 1, 2, 3, 4] rfl)
  exact loop3 _ 0 f1 H locs ls (by omega) (by exact (cpK_0 _ _ _ _).symm) (Nat.lt_succ_self _) hP hD hS (lv_sub hl [0, 1, 2, 3, 4] rfl)
theorem pd_X9_type : yX9_type.cls = RX9 ∧ yX9_type.cls ≠ "java/lang/invoke/MethodHandle" ∧ yX9_type.cls ≠ "java/lang/invoke/VarHandle" ∧ (parseMethodDescriptor yX9_type.desc).map (fun d => d.parameters.length) = some 1 := by decide +kernel
abbrev rmX9_type : Room := { frames := 1, cells := 0, slots := 0, locals := 22 }
set_option maxHeartbeats 4000000 in
set_option maxRecDepth 100000 in
theorem c_X9_type (l : Launch) (G : CX) (hm0 : Nat) (S : Int) (C : Int) (Wy : Int) (Li : Int) (ml : Nat) (ms : Nat) (mw : Nat) (kn : Int) (mi : Nat) (mk : Nat) (hz : Int) (mh : Nat) (tr : Int64) (mt : Nat) (tn : Int) (cu : Int) (sa : Int) (to : Int) (nu : Int) (wr : Int) (it : Int) (sS : Int) (sC : Int) (sL : Int) (sW : Int) (mq : Nat) (mn : Nat) (mc : Nat) (mr : Nat) (mb : Nat) (tf : Int → Int) (x : Int) (htn : 0 ≤ tn ∧ tn ≤ 200) (hr_x : -2147483648 ≤ x ∧ x < 2147483648) : Met l yX9_type wsX9_type rmX9_type (wrP G [.ref hm0, .int (zI x)] [(hm0, .inr (9, [.int (zI S), .int (zI C), .int (zI Wy), .int (zI Li), .ref ml, .ref ms, .ref mw, .int (zI kn), .ref mi, .ref mk, .int (zI hz), .ref mh, .long tr, .ref mt, .int (zI tn), .int (zI cu), .int (zI sa), .int (zI to), .int (zI nu), .int (zI wr), .int (zI it), .int (zI sS), .int (zI sC), .int (zI sL), .int (zI sW), .ref mq, .ref mn, .ref mc, .ref mr, .ref mb])), (mt, .inl (G.2.1, 200, .inl (aZ tf)))]) (wrQ G [(hm0, .inr (9, [.int (zI S), .int (zI C), .int (zI Wy), .int (zI Li), .ref ml, .ref ms, .ref mw, .int (zI kn), .ref mi, .ref mk, .int (zI hz), .ref mh, .long tr, .ref mt, .int (zI tn), .int (zI cu), .int (zI sa), .int (zI to), .int (zI nu), .int (zI wr), .int (zI it), .int (zI sS), .int (zI sC), .int (zI sL), .int (zI sW), .ref mq, .ref mn, .ref mc, .ref mr, .ref mb])), (mt, .inl (G.2.1, 200, .inl (aZ tf)))] (fun (r_ : Int32) (u : (Int → Int) × Int) => match u with | (tf2, tn2) => r_ = zI (if x < 0 ∨ 255 < x then -1 else if tn < 200 then tn + 1 else -3) ∧ (((0 ≤ x ∧ x ≤ 255) ∧ tn < 200 → tf2 = uZ tf tn x ∧ tn2 = tn + 1) ∧ (¬ ((0 ≤ x ∧ x ≤ 255) ∧ tn < 200) → tf2 = tf ∧ tn2 = tn))) (fun (u : (Int → Int) × Int) => match u with | (tf2, tn2) => [(hm0, .inr (9, [.int (zI S), .int (zI C), .int (zI Wy), .int (zI Li), .ref ml, .ref ms, .ref mw, .int (zI kn), .ref mi, .ref mk, .int (zI hz), .ref mh, .long tr, .ref mt, .int (zI tn2), .int (zI cu), .int (zI sa), .int (zI to), .int (zI nu), .int (zI wr), .int (zI it), .int (zI sS), .int (zI sC), .int (zI sL), .int (zI sW), .ref mq, .ref mn, .ref mc, .ref mr, .ref mb])), (mt, .inl (G.2.1, 200, .inl (aZ tf2)))])) 0 0 (wrA [(hm0, .inr (9, [.int (zI S), .int (zI C), .int (zI Wy), .int (zI Li), .ref ml, .ref ms, .ref mw, .int (zI kn), .ref mi, .ref mk, .int (zI hz), .ref mh, .long tr, .ref mt, .int (zI tn), .int (zI cu), .int (zI sa), .int (zI to), .int (zI nu), .int (zI wr), .int (zI it), .int (zI sS), .int (zI sC), .int (zI sL), .int (zI sW), .ref mq, .ref mn, .ref mc, .ref mr, .ref mb])), (mt, .inl (G.2.1, 200, .inl (aZ tf)))]) := by
  refine wr_ofW (cc := cX9_type) (maxL := 2) (ty := .int) (by decide) rfl (Nat.le_of_ble_eq_true rfl) ?_
  intro p e s m below meth c Q A hx hb hml hown hts hK hret H locs hP hD hS ls hl
  have hown : s.vm.findClass RX9 = some m.cls := hown
  have hl : lv_has ls 2 [(0, .ref hm0), (1, .int (zI x))] := hl
  have f64 := hts (.fieldLink RX9 64 "QuarterTurnsModel" "texted" "I") (by decide +kernel)
  have i9 : ∀ w ∈ wsX90, w ∈ wsX9_type := fun w h => List.mem_cons_of_mem _ (List.mem_append_right _ h)
  have f42 := hts (.fieldLink RX9 42 "QuarterTurnsModel" "text" "[I") (by decide +kernel)
  refine lv_iload_n hx hb dX9_type_0 rfl (lv_at hl 1 rfl) ?_
  refine lv_iconst (v := zI 0) hx hb dX9_type_1 rfl ?_
  refine lv_sipush (v := zI 255) hx hb dX9_type_2 (by decide) ?_
  refine z_cS (As := [.int (zI x), .int (zI 0), .int (zI 255)]) (rest := []) ⟨hx, hb, hml, hown, hts⟩ (c_X9_in l G x 0 255 (by first | assumption | omega)) (va_cwS 3 hts gX9_type_X9_in rfl rfl rfl pd_X9_in.2 ⟨(Nat.le_of_ble_eq_true rfl), (Nat.le_of_ble_eq_true rfl)⟩) hK hP hS [] rfl rfl hl.1 rfl (Nat.le_of_ble_eq_true rfl) dX9_type_5 ⟨Nat.zero_le _, Nat.zero_le _⟩ (fun H locs hP hS => ?_)
  refine z_ifne_b (tgt := 13) hx hb dX9_type_8 (by decide) (fun c_1 => ?_) (fun c_1 => ?_)
  · refine lv_aload_n hx hb dX9_type_13 rfl (lv_at hl 0 rfl) ?_
    refine va_get (ci := 9) (v := .int (zI tn)) (C := RX9) (T := TX9) (N := 30) hx hb hts i9 hown hK hP 0 rfl rfl 14 (by decide) f64 (fun _ h9 => h9) rfl dX9_type_14 ?_
    refine lv_sipush (v := zI 200) hx hb dX9_type_17 (by decide) ?_
    refine z_icmp_ne (tgt := 26) hx hb (by omega) dX9_type_20 (by decide) (fun c_2 => ?_) (fun c_2 => ?_)
    · refine lv_aload_n hx hb dX9_type_26 rfl (lv_at hl 0 rfl) ?_
      refine va_get (ci := 9) (v := .ref mt) (C := RX9) (T := TX9) (N := 30) hx hb hts i9 hown hK hP 0 rfl rfl 13 (by decide) f42 (fun _ h9 => h9) rfl dX9_type_27 ?_
      refine lv_aload_n hx hb dX9_type_30 rfl (lv_at hl 0 rfl) ?_
      refine va_get (ci := 9) (v := .int (zI tn)) (C := RX9) (T := TX9) (N := 30) hx hb hts i9 hown hK hP 0 rfl rfl 14 (by decide) f64 (fun _ h9 => h9) rfl dX9_type_31 ?_
      refine lv_iload_n hx hb dX9_type_34 rfl (lv_at hl 1 rfl) ?_
      refine z_iast (n := 200) (f := tf) (i := tn) (v := x) hx hb hK hP hD hS 1 rfl (by omega) dX9_type_35 (fun H locs hP hD hS => ?_)
      have hP : kP G [(hm0, .inr (9, [.int (zI S), .int (zI C), .int (zI Wy), .int (zI Li), .ref ml, .ref ms, .ref mw, .int (zI kn), .ref mi, .ref mk, .int (zI hz), .ref mh, .long tr, .ref mt, .int (zI tn), .int (zI cu), .int (zI sa), .int (zI to), .int (zI nu), .int (zI wr), .int (zI it), .int (zI sS), .int (zI sC), .int (zI sL), .int (zI sW), .ref mq, .ref mn, .ref mc, .ref mr, .ref mb])), (mt, .inl (G.2.1, 200, .inl (aZ (uZ tf tn x))))] H := hP
      have hD : va_D A [(hm0, .inr (9, [.int (zI S), .int (zI C), .int (zI Wy), .int (zI Li), .ref ml, .ref ms, .ref mw, .int (zI kn), .ref mi, .ref mk, .int (zI hz), .ref mh, .long tr, .ref mt, .int (zI tn), .int (zI cu), .int (zI sa), .int (zI to), .int (zI nu), .int (zI wr), .int (zI it), .int (zI sS), .int (zI sC), .int (zI sL), .int (zI sW), .ref mq, .ref mn, .ref mc, .ref mr, .ref mb])), (mt, .inl (G.2.1, 200, .inl (aZ (uZ tf tn x))))] := hD
      refine lv_aload_n hx hb dX9_type_36 rfl (lv_at hl 0 rfl) ?_
      refine lv_dup hx hb dX9_type_37 rfl ?_
      refine va_get (ci := 9) (v := .int (zI tn)) (C := RX9) (T := TX9) (N := 30) hx hb hts i9 hown hK hP 0 rfl rfl 14 (by decide) f64 (fun _ h9 => h9) rfl dX9_type_38 ?_
      refine lv_iconst (v := zI 1) hx hb dX9_type_41 rfl ?_
      refine z_iadd hx hb dX9_type_42 ?_
      refine va_put (ci := 9) (v := .int (zI (tn + 1))) (ty := .int) (C := RX9) (T := TX9) (N := 30) hx hb hts i9 tyX9 tyX9_ok nmX9 hown hK hP hD hS 0 rfl rfl 14 (by decide) f64 (fun _ h9 => h9) rfl (tyX9_ok 14 (by decide)) rfl rfl (Nat.le_of_ble_eq_true rfl) dX9_type_43 (fun H locs hP hD hS => ?_)
      have hP : kP G [(hm0, .inr (9, [.int (zI S), .int (zI C), .int (zI Wy), .int (zI Li), .ref ml, .ref ms, .ref mw, .int (zI kn), .ref mi, .ref mk, .int (zI hz), .ref mh, .long tr, .ref mt, .int (zI (tn + 1)), .int (zI cu), .int (zI sa), .int (zI to), .int (zI nu), .int (zI wr), .int (zI it), .int (zI sS), .int (zI sC), .int (zI sL), .int (zI sW), .ref mq, .ref mn, .ref mc, .ref mr, .ref mb])), (mt, .inl (G.2.1, 200, .inl (aZ (uZ tf tn x))))] H := hP
      have hD : va_D A [(hm0, .inr (9, [.int (zI S), .int (zI C), .int (zI Wy), .int (zI Li), .ref ml, .ref ms, .ref mw, .int (zI kn), .ref mi, .ref mk, .int (zI hz), .ref mh, .long tr, .ref mt, .int (zI (tn + 1)), .int (zI cu), .int (zI sa), .int (zI to), .int (zI nu), .int (zI wr), .int (zI it), .int (zI sS), .int (zI sC), .int (zI sL), .int (zI sW), .ref mq, .ref mn, .ref mc, .ref mr, .ref mb])), (mt, .inl (G.2.1, 200, .inl (aZ (uZ tf tn x))))] := hD
      refine lv_aload_n hx hb dX9_type_46 rfl (lv_at hl 0 rfl) ?_
      refine va_get (ci := 9) (v := .int (zI (tn + 1))) (C := RX9) (T := TX9) (N := 30) hx hb hts i9 hown hK hP 0 rfl rfl 14 (by decide) f64 (fun _ h9 => h9) rfl dX9_type_47 ?_
      exact hret H locs ls 50 _ (uZ tf tn x, tn + 1) rfl ⟨congrArg zI (by (repeat' split) <;> first | rfl | omega), by refine ⟨fun h => ?_, fun h => ?_⟩ <;> first | exact ⟨rfl, rfl⟩ | omega⟩ hP hS dX9_type_50
    · refine lv_bipush (v := zI (-3)) hx hb dX9_type_23 (by decide) ?_
      exact hret H locs ls 25 _ (tf, tn) rfl ⟨congrArg zI (by (repeat' split) <;> first | rfl | omega), by refine ⟨fun h => ?_, fun h => ?_⟩ <;> first | exact ⟨rfl, rfl⟩ | omega⟩ hP hS dX9_type_25
  · refine lv_iconst (v := zI (-1)) hx hb dX9_type_11 rfl ?_
    exact hret H locs ls 12 _ (tf, tn) rfl ⟨congrArg zI (by (repeat' split) <;> first | rfl | omega), by refine ⟨fun h => ?_, fun h => ?_⟩ <;> first | exact ⟨rfl, rfl⟩ | omega⟩ hP hS dX9_type_12
theorem pd_X9_clear : yX9_clear.cls = RX9 ∧ yX9_clear.cls ≠ "java/lang/invoke/MethodHandle" ∧ yX9_clear.cls ≠ "java/lang/invoke/VarHandle" ∧ (parseMethodDescriptor yX9_clear.desc).map (fun d => d.parameters.length) = some 0 := by decide +kernel
abbrev rmX9_clear : Room := { frames := 0, cells := 0, slots := 0, locals := 0 }
set_option maxHeartbeats 4000000 in
set_option maxRecDepth 100000 in
theorem c_X9_clear (l : Launch) (G : CX) (hm0 : Nat) (S : Int) (C : Int) (Wy : Int) (Li : Int) (ml : Nat) (ms : Nat) (mw : Nat) (kn : Int) (mi : Nat) (mk : Nat) (hz : Int) (mh : Nat) (tr : Int64) (mt : Nat) (tn : Int) (cu : Int) (sa : Int) (to : Int) (nu : Int) (wr : Int) (it : Int) (sS : Int) (sC : Int) (sL : Int) (sW : Int) (mq : Nat) (mn : Nat) (mc : Nat) (mr : Nat) (mb : Nat)  : Met l yX9_clear wsX9_clear rmX9_clear (wrP G [.ref hm0] [(hm0, .inr (9, [.int (zI S), .int (zI C), .int (zI Wy), .int (zI Li), .ref ml, .ref ms, .ref mw, .int (zI kn), .ref mi, .ref mk, .int (zI hz), .ref mh, .long tr, .ref mt, .int (zI tn), .int (zI cu), .int (zI sa), .int (zI to), .int (zI nu), .int (zI wr), .int (zI it), .int (zI sS), .int (zI sC), .int (zI sL), .int (zI sW), .ref mq, .ref mn, .ref mc, .ref mr, .ref mb]))]) (wrQ G [(hm0, .inr (9, [.int (zI S), .int (zI C), .int (zI Wy), .int (zI Li), .ref ml, .ref ms, .ref mw, .int (zI kn), .ref mi, .ref mk, .int (zI hz), .ref mh, .long tr, .ref mt, .int (zI tn), .int (zI cu), .int (zI sa), .int (zI to), .int (zI nu), .int (zI wr), .int (zI it), .int (zI sS), .int (zI sC), .int (zI sL), .int (zI sW), .ref mq, .ref mn, .ref mc, .ref mr, .ref mb]))] (fun (r_ : Int32) (u : Unit) => match u with | _ => r_ = zI tn ∧ (True)) (fun (u : Unit) => match u with | _ => [(hm0, .inr (9, [.int (zI S), .int (zI C), .int (zI Wy), .int (zI Li), .ref ml, .ref ms, .ref mw, .int (zI kn), .ref mi, .ref mk, .int (zI hz), .ref mh, .long tr, .ref mt, .int (zI 0), .int (zI cu), .int (zI sa), .int (zI to), .int (zI nu), .int (zI wr), .int (zI it), .int (zI sS), .int (zI sC), .int (zI sL), .int (zI sW), .ref mq, .ref mn, .ref mc, .ref mr, .ref mb]))])) 0 0 (wrA [(hm0, .inr (9, [.int (zI S), .int (zI C), .int (zI Wy), .int (zI Li), .ref ml, .ref ms, .ref mw, .int (zI kn), .ref mi, .ref mk, .int (zI hz), .ref mh, .long tr, .ref mt, .int (zI tn), .int (zI cu), .int (zI sa), .int (zI to), .int (zI nu), .int (zI wr), .int (zI it), .int (zI sS), .int (zI sC), .int (zI sL), .int (zI sW), .ref mq, .ref mn, .ref mc, .ref mr, .ref mb]))]) := by
  refine wr_ofW (cc := cX9_clear) (maxL := 2) (ty := .int) (by decide) rfl (Nat.le_of_ble_eq_true rfl) ?_
  intro p e s m below meth c Q A hx hb hml hown hts hK hret H locs hP hD hS ls hl
  have hown : s.vm.findClass RX9 = some m.cls := hown
  have hl : lv_has ls 2 [(0, .ref hm0)] := hl
  have f64 := hts (.fieldLink RX9 64 "QuarterTurnsModel" "texted" "I") (by decide +kernel)
  have i9 : ∀ w ∈ wsX90, w ∈ wsX9_clear := fun w h => List.mem_cons_of_mem _ (List.mem_append_right _ h)
  refine lv_aload_n hx hb dX9_clear_0 rfl (lv_at hl 0 rfl) ?_
  refine va_get (ci := 9) (v := .int (zI tn)) (C := RX9) (T := TX9) (N := 30) hx hb hts i9 hown hK hP 0 rfl rfl 14 (by decide) f64 (fun _ h9 => h9) rfl dX9_clear_1 ?_
  refine lv_istore_n (lv' := [(1, .int (zI tn)), (0, .ref hm0)]) hx hb dX9_clear_4 rfl hl (by decide) rfl (fun ls hl => ?_)
  refine lv_aload_n hx hb dX9_clear_5 rfl (lv_at hl 1 rfl) ?_
  refine lv_iconst (v := zI 0) hx hb dX9_clear_6 rfl ?_
  refine va_put (ci := 9) (v := .int (zI 0)) (ty := .int) (C := RX9) (T := TX9) (N := 30) hx hb hts i9 tyX9 tyX9_ok nmX9 hown hK hP hD hS 0 rfl rfl 14 (by decide) f64 (fun _ h9 => h9) rfl (tyX9_ok 14 (by decide)) rfl rfl (Nat.le_of_ble_eq_true rfl) dX9_clear_7 (fun H locs hP hD hS => ?_)
  have hP : kP G [(hm0, .inr (9, [.int (zI S), .int (zI C), .int (zI Wy), .int (zI Li), .ref ml, .ref ms, .ref mw, .int (zI kn), .ref mi, .ref mk, .int (zI hz), .ref mh, .long tr, .ref mt, .int (zI 0), .int (zI cu), .int (zI sa), .int (zI to), .int (zI nu), .int (zI wr), .int (zI it), .int (zI sS), .int (zI sC), .int (zI sL), .int (zI sW), .ref mq, .ref mn, .ref mc, .ref mr, .ref mb]))] H := hP
  have hD : va_D A [(hm0, .inr (9, [.int (zI S), .int (zI C), .int (zI Wy), .int (zI Li), .ref ml, .ref ms, .ref mw, .int (zI kn), .ref mi, .ref mk, .int (zI hz), .ref mh, .long tr, .ref mt, .int (zI 0), .int (zI cu), .int (zI sa), .int (zI to), .int (zI nu), .int (zI wr), .int (zI it), .int (zI sS), .int (zI sC), .int (zI sL), .int (zI sW), .ref mq, .ref mn, .ref mc, .ref mr, .ref mb]))] := hD
  refine lv_iload_n hx hb dX9_clear_10 rfl (lv_at hl 0 rfl) ?_
  exact hret H locs ls 11 _ () rfl ⟨congrArg zI (by rfl), by trivial⟩ hP hS dX9_clear_11
theorem pd_X9_asItIs : yX9_asItIs.cls = RX9 ∧ yX9_asItIs.cls ≠ "java/lang/invoke/MethodHandle" ∧ yX9_asItIs.cls ≠ "java/lang/invoke/VarHandle" ∧ (parseMethodDescriptor yX9_asItIs.desc).map (fun d => d.parameters.length) = some 0 := by decide +kernel
abbrev rmX9_asItIs : Room := { frames := 1, cells := 0, slots := 0, locals := 24 }
set_option maxHeartbeats 4000000 in
set_option maxRecDepth 100000 in
theorem c_X9_asItIs (l : Launch) (G : CX) (hm0 : Nat) (S : Int) (C : Int) (Wy : Int) (Li : Int) (ml : Nat) (ms : Nat) (mw : Nat) (kn : Int) (mi : Nat) (mk : Nat) (hz : Int) (mh : Nat) (tr : Int64) (mt : Nat) (tn : Int) (cu : Int) (sa : Int) (to : Int) (nu : Int) (wr : Int) (it : Int) (sS : Int) (sC : Int) (sL : Int) (sW : Int) (mq : Nat) (mn : Nat) (mc : Nat) (mr : Nat) (mb : Nat) (nf : Int → Int) (sf : Int → Int)  : Met l yX9_asItIs wsX9_asItIs rmX9_asItIs (wrP G [.ref hm0] [(hm0, .inr (9, [.int (zI S), .int (zI C), .int (zI Wy), .int (zI Li), .ref ml, .ref ms, .ref mw, .int (zI kn), .ref mi, .ref mk, .int (zI hz), .ref mh, .long tr, .ref mt, .int (zI tn), .int (zI cu), .int (zI sa), .int (zI to), .int (zI nu), .int (zI wr), .int (zI it), .int (zI sS), .int (zI sC), .int (zI sL), .int (zI sW), .ref mq, .ref mn, .ref mc, .ref mr, .ref mb])), (mn, .inl (G.2.1, 15, .inl (aZ nf))), (ms, .inl (G.2.1, 15, .inl (aZ sf)))]) (wrV G [(hm0, .inr (9, [.int (zI S), .int (zI C), .int (zI Wy), .int (zI Li), .ref ml, .ref ms, .ref mw, .int (zI kn), .ref mi, .ref mk, .int (zI hz), .ref mh, .long tr, .ref mt, .int (zI tn), .int (zI cu), .int (zI sa), .int (zI to), .int (zI nu), .int (zI wr), .int (zI it), .int (zI sS), .int (zI sC), .int (zI sL), .int (zI sW), .ref mq, .ref mn, .ref mc, .ref mr, .ref mb])), (mn, .inl (G.2.1, 15, .inl (aZ nf))), (ms, .inl (G.2.1, 15, .inl (aZ sf)))] (fun (u : Unit) => match u with | _ => (True)) (fun (u : Unit) => match u with | _ => [(hm0, .inr (9, [.int (zI S), .int (zI C), .int (zI Wy), .int (zI Li), .ref ml, .ref ms, .ref mw, .int (zI kn), .ref mi, .ref mk, .int (zI hz), .ref mh, .long tr, .ref mt, .int (zI tn), .int (zI cu), .int (zI sa), .int (zI to), .int (zI nu), .int (zI wr), .int (zI it), .int (zI sS), .int (zI sC), .int (zI sL), .int (zI sW), .ref mq, .ref mn, .ref mc, .ref mr, .ref mb])), (mn, .inl (G.2.1, 15, .inl (aZ (cpK nf 0 sf 0 15)))), (ms, .inl (G.2.1, 15, .inl (aZ sf)))])) 0 0 (wrA [(hm0, .inr (9, [.int (zI S), .int (zI C), .int (zI Wy), .int (zI Li), .ref ml, .ref ms, .ref mw, .int (zI kn), .ref mi, .ref mk, .int (zI hz), .ref mh, .long tr, .ref mt, .int (zI tn), .int (zI cu), .int (zI sa), .int (zI to), .int (zI nu), .int (zI wr), .int (zI it), .int (zI sS), .int (zI sC), .int (zI sL), .int (zI sW), .ref mq, .ref mn, .ref mc, .ref mr, .ref mb])), (mn, .inl (G.2.1, 15, .inl (aZ nf))), (ms, .inl (G.2.1, 15, .inl (aZ sf)))]) := by
  refine wv_ofW (cc := cX9_asItIs) (maxL := 1) (by decide) rfl (Nat.le_of_ble_eq_true rfl) ?_
  intro p e s m below meth c Q A hx hb hml hown hts hK hret H locs hP hD hS ls hl
  have hown : s.vm.findClass RX9 = some m.cls := hown
  have hl : lv_has ls 1 [(0, .ref hm0)] := hl
  have f48 := hts (.fieldLink RX9 48 "QuarterTurnsModel" "now" "[I") (by decide +kernel)
  have i9 : ∀ w ∈ wsX90, w ∈ wsX9_asItIs := fun w h => List.mem_cons_of_mem _ (List.mem_append_right _ h)
  have f26 := hts (.fieldLink RX9 26 "QuarterTurnsModel" "st" "[I") (by decide +kernel)
  refine lv_aload_n hx hb dX9_asItIs_0 rfl (lv_at hl 0 rfl) ?_
  refine va_get (ci := 9) (v := .ref mn) (C := RX9) (T := TX9) (N := 30) hx hb hts i9 hown hK hP 0 rfl rfl 26 (by decide) f48 (fun _ h9 => h9) rfl dX9_asItIs_1 ?_
  refine lv_iconst (v := zI 0) hx hb dX9_asItIs_4 rfl ?_
  refine lv_aload_n hx hb dX9_asItIs_5 rfl (lv_at hl 0 rfl) ?_
  refine va_get (ci := 9) (v := .ref ms) (C := RX9) (T := TX9) (N := 30) hx hb hts i9 hown hK hP 0 rfl rfl 5 (by decide) f26 (fun _ h9 => h9) rfl dX9_asItIs_6 ?_
  refine lv_iconst (v := zI 0) hx hb dX9_asItIs_9 rfl ?_
  refine z_wSv (As := [.ref mn, .int (zI 0), .ref ms, .int (zI 0)]) (rest := []) ⟨hx, hb, hml, hown, hts⟩ (c_X9_copy l G mn 15 nf 0 ms 15 sf 0 (by first | assumption | omega)) (va_cwS 4 hts gX9_asItIs_X9_copy rfl rfl rfl pd_X9_copy.2 ⟨(Nat.le_of_ble_eq_true rfl), (Nat.le_of_ble_eq_true rfl)⟩) hK hP hD hS [1, 2] (by decide) rfl (fun _ => rfl) rfl hl.1 rfl (Nat.le_of_ble_eq_true rfl) dX9_asItIs_10 ⟨Nat.zero_le _, Nat.zero_le _⟩ (fun u_ H locs hw_2 hP hD hS => ?_)
  obtain ⟨g2_1, rfl⟩ : ∃ z, z = u_ := ⟨_, rfl⟩
  try dsimp only at hw_2
  obtain rfl := hw_2
  have hP : kP G [(hm0, .inr (9, [.int (zI S), .int (zI C), .int (zI Wy), .int (zI Li), .ref ml, .ref ms, .ref mw, .int (zI kn), .ref mi, .ref mk, .int (zI hz), .ref mh, .long tr, .ref mt, .int (zI tn), .int (zI cu), .int (zI sa), .int (zI to), .int (zI nu), .int (zI wr), .int (zI it), .int (zI sS), .int (zI sC), .int (zI sL), .int (zI sW), .ref mq, .ref mn, .ref mc, .ref mr, .ref mb])), (mn, .inl (G.2.1, 15, .inl (aZ (cpK nf 0 sf 0 15)))), (ms, .inl (G.2.1, 15, .inl (aZ sf)))] H := hP
  have hD : va_D A [(hm0, .inr (9, [.int (zI S), .int (zI C), .int (zI Wy), .int (zI Li), .ref ml, .ref ms, .ref mw, .int (zI kn), .ref mi, .ref mk, .int (zI hz), .ref mh, .long tr, .ref mt, .int (zI tn), .int (zI cu), .int (zI sa), .int (zI to), .int (zI nu), .int (zI wr), .int (zI it), .int (zI sS), .int (zI sC), .int (zI sL), .int (zI sW), .ref mq, .ref mn, .ref mc, .ref mr, .ref mb])), (mn, .inl (G.2.1, 15, .inl (aZ (cpK nf 0 sf 0 15)))), (ms, .inl (G.2.1, 15, .inl (aZ sf)))] := hD
  exact hret H locs ls 13 () (by trivial) hP hS dX9_asItIs_13
theorem pd_X9_from : yX9_from.cls = RX9 ∧ yX9_from.cls ≠ "java/lang/invoke/MethodHandle" ∧ yX9_from.cls ≠ "java/lang/invoke/VarHandle" ∧ (parseMethodDescriptor yX9_from.desc).map (fun d => d.parameters.length) = some 2 := by decide +kernel
abbrev rmX9_from : Room := { frames := 0, cells := 0, slots := 0, locals := 0 }
set_option maxHeartbeats 4000000 in
set_option maxRecDepth 100000 in
theorem c_X9_from (l : Launch) (G : CX) (hm0 : Nat) (S : Int) (C : Int) (Wy : Int) (Li : Int) (ml : Nat) (ms : Nat) (mw : Nat) (kn : Int) (mi : Nat) (mk : Nat) (hz : Int) (mh : Nat) (tr : Int64) (mt : Nat) (tn : Int) (cu : Int) (sa : Int) (to : Int) (nu : Int) (wr : Int) (it : Int) (sS : Int) (sC : Int) (sL : Int) (sW : Int) (mq : Nat) (mn : Nat) (mc : Nat) (mr : Nat) (mb : Nat) (w : Int) (t : Int) (hB : (2 ≤ S ∧ S ≤ 6) ∧ (C = 1 ∧ Wy = S ∨ C = 2 ∧ Wy = 2 * S)) (hw : 0 ≤ w ∧ w < Wy) (ht : 0 ≤ t ∧ t < Wy) : Met l yX9_from wsX9_from rmX9_from (rdP G [.ref hm0, .int (zI w), .int (zI t)] [(hm0, .inr (9, [.int (zI S), .int (zI C), .int (zI Wy), .int (zI Li), .ref ml, .ref ms, .ref mw, .int (zI kn), .ref mi, .ref mk, .int (zI hz), .ref mh, .long tr, .ref mt, .int (zI tn), .int (zI cu), .int (zI sa), .int (zI to), .int (zI nu), .int (zI wr), .int (zI it), .int (zI sS), .int (zI sC), .int (zI sL), .int (zI sW), .ref mq, .ref mn, .ref mc, .ref mr, .ref mb]))]) (rdQ (zI (fromZ S w t))) 0 0 noA := by
  refine rd_ofW (cc := cX9_from) (maxL := 5) (ty := .int) (by decide) rfl (Nat.le_of_ble_eq_true rfl) rfl ?_
  intro p e s m below meth c Q A hx hb hml hown hts hK hret H locs hP hS ls hl
  have hown : s.vm.findClass RX9 = some m.cls := hown
  have hl : lv_has ls 5 [(0, .ref hm0), (1, .int (zI w)), (2, .int (zI t))] := hl
  have f7 := hts (.fieldLink RX9 7 "QuarterTurnsModel" "steps" "I") (by decide +kernel)
  have i9 : ∀ w ∈ wsX90, w ∈ wsX9_from := fun w h => List.mem_cons_of_mem _ (List.mem_append_right _ h)
  have hd1 := div_rng (a := w) (b := S) (by omega) (by omega)
  have hd2 := div_rng (a := t) (b := S) (by omega) (by omega)
  have hm1 := mod_rng (a := t) (b := S) (by omega)
  have hm2 := mod_rng (a := w) (b := S) (by omega)
  obtain ⟨hfa, hfb⟩ := fromM hB hw ht
  refine lv_iload_n hx hb dX9_from_0 rfl (lv_at hl 1 rfl) ?_
  refine lv_aload_n hx hb dX9_from_1 rfl (lv_at hl 0 rfl) ?_
  refine va_get (ci := 9) (v := .int (zI S)) (C := RX9) (T := TX9) (N := 30) hx hb hts i9 hown hK hP 0 rfl rfl 0 (by decide) f7 (fun _ h9 => h9) rfl dX9_from_2 ?_
  refine z_idiv hx hb (by omega) dX9_from_5 ?_
  refine lv_istore_n (lv' := [(3, .int (zI (w / S))), (0, .ref hm0), (1, .int (zI w)), (2, .int (zI t))]) hx hb dX9_from_6 rfl hl (by decide) rfl (fun ls hl => ?_)
  refine lv_iload_n hx hb dX9_from_7 rfl (lv_at hl 0 rfl) ?_
  refine z_if_ne (tgt := 20) hx hb (by omega) dX9_from_8 (by decide) (fun c_1 => ?_) (fun c_1 => ?_)
  · refine lv_aload_n hx hb dX9_from_20 rfl (lv_at hl 1 rfl) ?_
    refine va_get (ci := 9) (v := .int (zI S)) (C := RX9) (T := TX9) (N := 30) hx hb hts i9 hown hK hP 0 rfl rfl 0 (by decide) f7 (fun _ h9 => h9) rfl dX9_from_21 ?_
    refine lv_iload_n hx hb dX9_from_24 rfl (lv_at hl 3 rfl) ?_
    refine lv_aload_n hx hb dX9_from_25 rfl (lv_at hl 1 rfl) ?_
    refine va_get (ci := 9) (v := .int (zI S)) (C := RX9) (T := TX9) (N := 30) hx hb hts i9 hown hK hP 0 rfl rfl 0 (by decide) f7 (fun _ h9 => h9) rfl dX9_from_26 ?_
    refine z_irem hx hb (by omega) dX9_from_29 ?_
    refine z_isub hx hb dX9_from_30 ?_
    refine lv_istore (lv' := [(4, .int (zI (S - (t % S)))), (3, .int (zI (w / S))), (0, .ref hm0), (1, .int (zI w)), (2, .int (zI t))]) hx hb dX9_from_31 hl (by decide) rfl (fun ls hl => ?_)
    refine lv_aload_n hx hb dX9_from_33 rfl (lv_at hl 2 rfl) ?_
    refine va_get (ci := 9) (v := .int (zI S)) (C := RX9) (T := TX9) (N := 30) hx hb hts i9 hown hK hP 0 rfl rfl 0 (by decide) f7 (fun _ h9 => h9) rfl dX9_from_34 ?_
    refine lv_iload_n hx hb dX9_from_37 rfl (lv_at hl 1 rfl) ?_
    refine lv_iload_n hx hb dX9_from_38 rfl (lv_at hl 4 rfl) ?_
    refine lv_aload_n hx hb dX9_from_39 rfl (lv_at hl 2 rfl) ?_
    refine va_get (ci := 9) (v := .int (zI S)) (C := RX9) (T := TX9) (N := 30) hx hb hts i9 hown hK hP 0 rfl rfl 0 (by decide) f7 (fun _ h9 => h9) rfl dX9_from_40 ?_
    refine z_idiv hx hb (by omega) dX9_from_43 ?_
    refine z_iadd hx hb dX9_from_44 ?_
    refine lv_iconst (v := zI 2) hx hb dX9_from_45 rfl ?_
    refine z_irem hx hb (by omega) dX9_from_46 ?_
    refine z_imul hx hb dX9_from_47 ?_
    refine lv_iload_n hx hb dX9_from_48 rfl (lv_at hl 3 rfl) ?_
    refine lv_aload_n hx hb dX9_from_49 rfl (lv_at hl 2 rfl) ?_
    refine va_get (ci := 9) (v := .int (zI S)) (C := RX9) (T := TX9) (N := 30) hx hb hts i9 hown hK hP 0 rfl rfl 0 (by decide) f7 (fun _ h9 => h9) rfl dX9_from_50 ?_
    refine z_irem hx hb (by omega) dX9_from_53 ?_
    refine lv_iload hx hb dX9_from_54 (lv_at hl 0 rfl) ?_
    refine z_iadd hx hb dX9_from_56 ?_
    refine lv_aload_n hx hb dX9_from_57 rfl (lv_at hl 2 rfl) ?_
    refine va_get (ci := 9) (v := .int (zI S)) (C := RX9) (T := TX9) (N := 30) hx hb hts i9 hown hK hP 0 rfl rfl 0 (by decide) f7 (fun _ h9 => h9) rfl dX9_from_58 ?_
    refine z_irem hx hb (by omega) dX9_from_61 ?_
    refine z_iadd hx hb dX9_from_62 ?_
    exact hret H locs ls 63 _ (congrArg zI (by first | exact hfa (by assumption) | exact hfb (by assumption))) hS dX9_from_63
  · refine lv_iload_n hx hb dX9_from_11 rfl (lv_at hl 3 rfl) ?_
    refine lv_aload_n hx hb dX9_from_12 rfl (lv_at hl 1 rfl) ?_
    refine va_get (ci := 9) (v := .int (zI S)) (C := RX9) (T := TX9) (N := 30) hx hb hts i9 hown hK hP 0 rfl rfl 0 (by decide) f7 (fun _ h9 => h9) rfl dX9_from_13 ?_
    refine z_irem hx hb (by omega) dX9_from_16 ?_
    refine lv_goto (tgt := 31) hx hb dX9_from_17 (by decide) ?_
    refine lv_istore (lv' := [(4, .int (zI (t % S))), (3, .int (zI (w / S))), (0, .ref hm0), (1, .int (zI w)), (2, .int (zI t))]) hx hb dX9_from_31 hl (by decide) rfl (fun ls hl => ?_)
    refine lv_aload_n hx hb dX9_from_33 rfl (lv_at hl 2 rfl) ?_
    refine va_get (ci := 9) (v := .int (zI S)) (C := RX9) (T := TX9) (N := 30) hx hb hts i9 hown hK hP 0 rfl rfl 0 (by decide) f7 (fun _ h9 => h9) rfl dX9_from_34 ?_
    refine lv_iload_n hx hb dX9_from_37 rfl (lv_at hl 1 rfl) ?_
    refine lv_iload_n hx hb dX9_from_38 rfl (lv_at hl 4 rfl) ?_
    refine lv_aload_n hx hb dX9_from_39 rfl (lv_at hl 2 rfl) ?_
    refine va_get (ci := 9) (v := .int (zI S)) (C := RX9) (T := TX9) (N := 30) hx hb hts i9 hown hK hP 0 rfl rfl 0 (by decide) f7 (fun _ h9 => h9) rfl dX9_from_40 ?_
    refine z_idiv hx hb (by omega) dX9_from_43 ?_
    refine z_iadd hx hb dX9_from_44 ?_
    refine lv_iconst (v := zI 2) hx hb dX9_from_45 rfl ?_
    refine z_irem hx hb (by omega) dX9_from_46 ?_
    refine z_imul hx hb dX9_from_47 ?_
    refine lv_iload_n hx hb dX9_from_48 rfl (lv_at hl 3 rfl) ?_
    refine lv_aload_n hx hb dX9_from_49 rfl (lv_at hl 2 rfl) ?_
    refine va_get (ci := 9) (v := .int (zI S)) (C := RX9) (T := TX9) (N := 30) hx hb hts i9 hown hK hP 0 rfl rfl 0 (by decide) f7 (fun _ h9 => h9) rfl dX9_from_50 ?_
    refine z_irem hx hb (by omega) dX9_from_53 ?_
    refine lv_iload hx hb dX9_from_54 (lv_at hl 0 rfl) ?_
    refine z_iadd hx hb dX9_from_56 ?_
    refine lv_aload_n hx hb dX9_from_57 rfl (lv_at hl 2 rfl) ?_
    refine va_get (ci := 9) (v := .int (zI S)) (C := RX9) (T := TX9) (N := 30) hx hb hts i9 hown hK hP 0 rfl rfl 0 (by decide) f7 (fun _ h9 => h9) rfl dX9_from_58 ?_
    refine z_irem hx hb (by omega) dX9_from_61 ?_
    refine z_iadd hx hb dX9_from_62 ?_
    exact hret H locs ls 63 _ (congrArg zI (by first | exact hfa (by assumption) | exact hfb (by assumption))) hS dX9_from_63

theorem grZ_cong {f g : Int → Int} : ∀ k : Nat, (∀ i : Int, 0 ≤ i → i < k → f i = g i) → grZ f k = grZ g k
  | 0, _ => rfl
  | k + 1, h => by
    unfold grZ
    rw [grZ_cong k (fun i h1 h2 => h i h1 (by omega)), h k (by omega) (by omega)]

theorem pd_X9_greatest : yX9_greatest.cls = RX9 ∧ yX9_greatest.cls ≠ "java/lang/invoke/MethodHandle" ∧ yX9_greatest.cls ≠ "java/lang/invoke/VarHandle" ∧ (parseMethodDescriptor yX9_greatest.desc).map (fun d => d.parameters.length) = some 0 := by decide +kernel
abbrev rmX9_greatest : Room := { frames := 0, cells := 0, slots := 0, locals := 0 }
set_option maxHeartbeats 4000000 in
set_option maxRecDepth 100000 in
theorem c_X9_greatest (l : Launch) (G : CX) (hm0 : Nat) (S : Int) (C : Int) (Wy : Int) (Li : Int) (ml : Nat) (ms : Nat) (mw : Nat) (kn : Int) (mi : Nat) (mk : Nat) (hz : Int) (mh : Nat) (tr : Int64) (mt : Nat) (tn : Int) (cu : Int) (sa : Int) (to : Int) (nu : Int) (wr : Int) (it : Int) (sS : Int) (sC : Int) (sL : Int) (sW : Int) (mq : Nat) (mn : Nat) (mc : Nat) (mr : Nat) (mb : Nat) (nf : Int → Int) (hW0 : 0 ≤ Wy ∧ Wy ≤ 12) (hnr : ∀ i : Int, 0 ≤ i → i < 12 → 0 ≤ nf (3 + i) ∧ nf (3 + i) ≤ 999) : Met l yX9_greatest wsX9_greatest rmX9_greatest (rdP G [.ref hm0] [(hm0, .inr (9, [.int (zI S), .int (zI C), .int (zI Wy), .int (zI Li), .ref ml, .ref ms, .ref mw, .int (zI kn), .ref mi, .ref mk, .int (zI hz), .ref mh, .long tr, .ref mt, .int (zI tn), .int (zI cu), .int (zI sa), .int (zI to), .int (zI nu), .int (zI wr), .int (zI it), .int (zI sS), .int (zI sC), .int (zI sL), .int (zI sW), .ref mq, .ref mn, .ref mc, .ref mr, .ref mb])), (mn, .inl (G.2.1, 15, .inl (aZ nf)))]) (rdQ (zI (grZ (fun i => nf (3 + i)) Wy.toNat))) 0 0 noA := by
  refine rd_ofW (cc := cX9_greatest) (maxL := 3) (ty := .int) (by decide) rfl (Nat.le_of_ble_eq_true rfl) rfl ?_
  intro p e s m below meth c Q A hx hb hml hown hts hK hret H locs hP hS ls hl
  have hown : s.vm.findClass RX9 = some m.cls := hown
  have hl : lv_has ls 3 [(0, .ref hm0)] := hl
  have f16 := hts (.fieldLink RX9 16 "QuarterTurnsModel" "ways" "I") (by decide +kernel)
  have i9 : ∀ w ∈ wsX90, w ∈ wsX9_greatest := fun w h => List.mem_cons_of_mem _ (List.mem_append_right _ h)
  have f48 := hts (.fieldLink RX9 48 "QuarterTurnsModel" "now" "[I") (by decide +kernel)
  refine lv_iconst (v := zI 0) hx hb dX9_greatest_0 rfl ?_
  refine lv_istore_n (lv' := [(1, .int (zI 0)), (0, .ref hm0)]) hx hb dX9_greatest_1 rfl hl (by decide) rfl (fun ls hl => ?_)
  refine lv_iconst (v := zI 0) hx hb dX9_greatest_2 rfl ?_
  refine lv_istore_n (lv' := [(2, .int (zI 0)), (1, .int (zI 0)), (0, .ref hm0)]) hx hb dX9_greatest_3 rfl hl (by decide) rfl (fun ls hl => ?_)
  have loop4 : ∀ (n_ : Nat) (w : Int) (mo : Int) (H : Heap) (locs : List Loc) (ls : Array Slot), (0 ≤ w ∧ w ≤ Wy) → (mo = grZ (fun i => nf (3 + i)) w.toNat) → (0 ≤ mo ∧ mo ≤ 999) → (Wy - w).toNat < n_ → kP G [(hm0, .inr (9, [.int (zI S), .int (zI C), .int (zI Wy), .int (zI Li), .ref ml, .ref ms, .ref mw, .int (zI kn), .ref mi, .ref mk, .int (zI hz), .ref mh, .long tr, .ref mt, .int (zI tn), .int (zI cu), .int (zI sa), .int (zI to), .int (zI nu), .int (zI wr), .int (zI it), .int (zI sS), .int (zI sC), .int (zI sL), .int (zI sW), .ref mq, .ref mn, .ref mc, .ref mr, .ref mb])), (mn, .inl (G.2.1, 15, .inl (aZ nf)))] H → va_S A s.heap H locs → lv_has ls 3 [(2, .int (zI w)), (1, .int (zI mo)), (0, .ref hm0)] → W p l e rmX9_greatest s m ([.ref hm0] : List Value).toArray below meth c H locs 0 0 Q (F0 m 4 ls []) := by
    intro n_
    induction n_ with
    | zero =>
      intro w mo H locs ls hw hmo hmr hm
      exact absurd hm (Nat.not_lt_zero _)
    | succ n_ ih4 =>
      intro w mo H locs ls hw hmo hmr hm4 hP hS hl
      have hnw := fun h => hnr w hw.1 h
      refine lv_iload_n hx hb dX9_greatest_4 rfl (lv_at hl 0 rfl) ?_
      refine lv_aload_n hx hb dX9_greatest_5 rfl (lv_at hl 2 rfl) ?_
      refine va_get (ci := 9) (v := .int (zI Wy)) (C := RX9) (T := TX9) (N := 30) hx hb hts i9 hown hK hP 0 rfl rfl 2 (by decide) f16 (fun _ h9 => h9) rfl dX9_greatest_6 ?_
      refine z_icmp_ge (tgt := 43) hx hb (by omega) dX9_greatest_9 (by decide) (fun c_1 => ?_) (fun c_1 => ?_)
      · refine lv_iload_n hx hb dX9_greatest_43 rfl (lv_at hl 1 rfl) ?_
        exact hret H locs ls 44 _ (congrArg zI (by rw [hmo, show w = Wy by omega])) hS dX9_greatest_44
      · have hn2 := hnr w (by omega) (by omega)
        refine lv_aload_n hx hb dX9_greatest_12 rfl (lv_at hl 2 rfl) ?_
        refine va_get (ci := 9) (v := .ref mn) (C := RX9) (T := TX9) (N := 30) hx hb hts i9 hown hK hP 0 rfl rfl 26 (by decide) f48 (fun _ h9 => h9) rfl dX9_greatest_13 ?_
        refine lv_iconst (v := zI 3) hx hb dX9_greatest_16 rfl ?_
        refine lv_iload_n hx hb dX9_greatest_17 rfl (lv_at hl 0 rfl) ?_
        refine z_iadd hx hb dX9_greatest_18 ?_
        refine z_iald (n := 15) (f := nf) hx hb hK hP 1 rfl (by omega) dX9_greatest_19 ?_
        refine lv_iload_n hx hb dX9_greatest_20 rfl (lv_at hl 1 rfl) ?_
        refine z_icmp_le (tgt := 35) hx hb (by omega) dX9_greatest_21 (by decide) (fun c_2 => ?_) (fun c_2 => ?_)
        · refine lv_iload_n hx hb dX9_greatest_35 rfl (lv_at hl 1 rfl) ?_
          refine lv_istore_n (lv' := [(1, .int (zI mo)), (2, .int (zI w)), (0, .ref hm0)]) hx hb dX9_greatest_36 rfl hl (by decide) rfl (fun ls hl => ?_)
          refine lv_iinc (v := zI (w + 1)) (lv' := [(2, .int (zI (w + 1))), (1, .int (zI mo)), (0, .ref hm0)]) hx hb dX9_greatest_37 hl (k := 1) rfl (zI_add _ _) (by decide) rfl (fun ls hl => ?_)
          refine lv_goto (tgt := 4) hx hb dX9_greatest_40 (by decide) ?_
          exact ih4 (w + 1) mo H locs ls (by omega) (by rw [tn1 hw.1, grZ, ← hmo, Int.toNat_of_nonneg hw.1]; first | rw [if_pos (by omega)] | rw [if_neg (by omega)]) (by omega) (by omega) hP hS (lv_sub hl [0, 1, 2] rfl)
        · refine lv_aload_n hx hb dX9_greatest_24 rfl (lv_at hl 2 rfl) ?_
          refine va_get (ci := 9) (v := .ref mn) (C := RX9) (T := TX9) (N := 30) hx hb hts i9 hown hK hP 0 rfl rfl 26 (by decide) f48 (fun _ h9 => h9) rfl dX9_greatest_25 ?_
          refine lv_iconst (v := zI 3) hx hb dX9_greatest_28 rfl ?_
          refine lv_iload_n hx hb dX9_greatest_29 rfl (lv_at hl 0 rfl) ?_
          refine z_iadd hx hb dX9_greatest_30 ?_
          refine z_iald (n := 15) (f := nf) hx hb hK hP 1 rfl (by omega) dX9_greatest_31 ?_
          refine lv_goto (tgt := 36) hx hb dX9_greatest_32 (by decide) ?_
          refine lv_istore_n (lv' := [(1, .int (zI (nf (3 + w)))), (2, .int (zI w)), (0, .ref hm0)]) hx hb dX9_greatest_36 rfl hl (by decide) rfl (fun ls hl => ?_)
          refine lv_iinc (v := zI (w + 1)) (lv' := [(2, .int (zI (w + 1))), (1, .int (zI (nf (3 + w)))), (0, .ref hm0)]) hx hb dX9_greatest_37 hl (k := 1) rfl (zI_add _ _) (by decide) rfl (fun ls hl => ?_)
          refine lv_goto (tgt := 4) hx hb dX9_greatest_40 (by decide) ?_
          exact ih4 (w + 1) (nf (3 + w)) H locs ls (by omega) (by rw [tn1 hw.1, grZ, ← hmo, Int.toNat_of_nonneg hw.1]; first | rw [if_pos (by omega)] | rw [if_neg (by omega)]) (by omega) (by omega) hP hS (lv_sub hl [0, 1, 2] rfl)
  exact loop4 _ 0 0 H locs ls (by omega) rfl (by omega) (Nat.lt_succ_self _) hP hS (lv_sub hl [0, 1, 2] rfl)
theorem pd_X9_isOut : yX9_isOut.cls = RX9 ∧ yX9_isOut.cls ≠ "java/lang/invoke/MethodHandle" ∧ yX9_isOut.cls ≠ "java/lang/invoke/VarHandle" ∧ (parseMethodDescriptor yX9_isOut.desc).map (fun d => d.parameters.length) = some 0 := by decide +kernel
abbrev rmX9_isOut : Room := { frames := 1, cells := 0, slots := 0, locals := 22 }
set_option maxHeartbeats 4000000 in
set_option maxRecDepth 100000 in
theorem c_X9_isOut (l : Launch) (G : CX) (hm0 : Nat) (S : Int) (C : Int) (Wy : Int) (Li : Int) (ml : Nat) (ms : Nat) (mw : Nat) (kn : Int) (mi : Nat) (mk : Nat) (hz : Int) (mh : Nat) (tr : Int64) (mt : Nat) (tn : Int) (cu : Int) (sa : Int) (to : Int) (nu : Int) (wr : Int) (it : Int) (sS : Int) (sC : Int) (sL : Int) (sW : Int) (mq : Nat) (mn : Nat) (mc : Nat) (mr : Nat) (mb : Nat) (nf : Int → Int) (hW0 : 0 ≤ Wy ∧ Wy ≤ 12) (hnr : ∀ i : Int, 0 ≤ i → i < 12 → 0 ≤ nf (3 + i) ∧ nf (3 + i) ≤ 999) (hLi : 5 ≤ Li ∧ Li ≤ 99) : Met l yX9_isOut wsX9_isOut rmX9_isOut (rdP G [.ref hm0] [(hm0, .inr (9, [.int (zI S), .int (zI C), .int (zI Wy), .int (zI Li), .ref ml, .ref ms, .ref mw, .int (zI kn), .ref mi, .ref mk, .int (zI hz), .ref mh, .long tr, .ref mt, .int (zI tn), .int (zI cu), .int (zI sa), .int (zI to), .int (zI nu), .int (zI wr), .int (zI it), .int (zI sS), .int (zI sC), .int (zI sL), .int (zI sW), .ref mq, .ref mn, .ref mc, .ref mr, .ref mb])), (mn, .inl (G.2.1, 15, .inl (aZ nf)))]) (rdQ (zI (if Li ≤ grZ (fun i => nf (3 + i)) Wy.toNat then 1 else 0))) 0 0 noA := by
  refine rd_ofW (cc := cX9_isOut) (maxL := 1) (ty := .boolean) (by decide) rfl (Nat.le_of_ble_eq_true rfl) (nb _) ?_
  intro p e s m below meth c Q A hx hb hml hown hts hK hret H locs hP hS ls hl
  have hown : s.vm.findClass RX9 = some m.cls := hown
  have hl : lv_has ls 1 [(0, .ref hm0)] := hl
  have f19 := hts (.fieldLink RX9 19 "QuarterTurnsModel" "limit" "I") (by decide +kernel)
  have i9 : ∀ w ∈ wsX90, w ∈ wsX9_isOut := fun w h => List.mem_cons_of_mem _ (List.mem_append_right _ h)
  refine lv_aload_n hx hb dX9_isOut_0 rfl (lv_at hl 0 rfl) ?_
  refine z_cV (As := []) (rest := []) ⟨hx, hb, hml, hown, hts⟩ (c_X9_greatest l G hm0 S C Wy Li ml ms mw kn mi mk hz mh tr mt tn cu sa to nu wr it sS sC sL sW mq mn mc mr mb nf (by first | assumption | omega) (by first | assumption | omega)) (cwV 0 hts gX9_isOut_X9_greatest rfl rfl rfl pd_X9_greatest ⟨(Nat.le_of_ble_eq_true rfl), (Nat.le_of_ble_eq_true rfl)⟩) hK hP hS [0, 1] rfl rfl rfl rfl rfl hl.1 rfl (Nat.le_of_ble_eq_true rfl) dX9_isOut_1 ⟨Nat.zero_le _, Nat.zero_le _⟩ (fun H locs hP hS => ?_)
  have hq_1 := grZ_rng (f := fun i => nf (3 + i)) (N := 12) (b := 999) (by omega) ((by first | assumption | omega)) Wy.toNat (by omega)
  refine lv_aload_n hx hb dX9_isOut_4 rfl (lv_at hl 0 rfl) ?_
  refine va_get (ci := 9) (v := .int (zI Li)) (C := RX9) (T := TX9) (N := 30) hx hb hts i9 hown hK hP 0 rfl rfl 3 (by decide) f19 (fun _ h9 => h9) rfl dX9_isOut_5 ?_
  refine z_icmp_lt (tgt := 15) hx hb (by omega) dX9_isOut_8 (by decide) (fun c_2 => ?_) (fun c_2 => ?_)
  · refine lv_iconst (v := zI 0) hx hb dX9_isOut_15 rfl ?_
    exact hret H locs ls 16 _ (congrArg zI (if_neg (by omega)).symm) hS dX9_isOut_16
  · refine lv_iconst (v := zI 1) hx hb dX9_isOut_11 rfl ?_
    refine lv_goto (tgt := 16) hx hb dX9_isOut_12 (by decide) ?_
    exact hret H locs ls 16 _ (congrArg zI (if_pos (by omega)).symm) hS dX9_isOut_16
theorem pd_X9_goes : yX9_goes.cls = RX9 ∧ yX9_goes.cls ≠ "java/lang/invoke/MethodHandle" ∧ yX9_goes.cls ≠ "java/lang/invoke/VarHandle" ∧ (parseMethodDescriptor yX9_goes.desc).map (fun d => d.parameters.length) = some 0 := by decide +kernel
abbrev rmX9_goes : Room := { frames := 0, cells := 0, slots := 0, locals := 0 }
set_option maxHeartbeats 4000000 in
set_option maxRecDepth 100000 in
theorem c_X9_goes (l : Launch) (G : CX) (hm0 : Nat) (S : Int) (C : Int) (Wy : Int) (Li : Int) (ml : Nat) (ms : Nat) (mw : Nat) (kn : Int) (mi : Nat) (mk : Nat) (hz : Int) (mh : Nat) (tr : Int64) (mt : Nat) (tn : Int) (cu : Int) (sa : Int) (to : Int) (nu : Int) (wr : Int) (it : Int) (sS : Int) (sC : Int) (sL : Int) (sW : Int) (mq : Nat) (mn : Nat) (mc : Nat) (mr : Nat) (mb : Nat) (nf : Int → Int) (ld : Int → Int) (hW0 : 0 ≤ Wy ∧ Wy ≤ 12) (hnl : 0 ≤ nf 1 ∧ nf 1 < Wy) (hnr : ∀ i : Int, 0 ≤ i → i < 12 → 0 ≤ nf (3 + i) ∧ nf (3 + i) ≤ 999) (hld : ∀ i : Int, 0 ≤ i → i < 12 → 1 ≤ ld i ∧ ld i ≤ 9) : Met l yX9_goes wsX9_goes rmX9_goes (wrP G [.ref hm0] [(hm0, .inr (9, [.int (zI S), .int (zI C), .int (zI Wy), .int (zI Li), .ref ml, .ref ms, .ref mw, .int (zI kn), .ref mi, .ref mk, .int (zI hz), .ref mh, .long tr, .ref mt, .int (zI tn), .int (zI cu), .int (zI sa), .int (zI to), .int (zI nu), .int (zI wr), .int (zI it), .int (zI sS), .int (zI sC), .int (zI sL), .int (zI sW), .ref mq, .ref mn, .ref mc, .ref mr, .ref mb])), (mn, .inl (G.2.1, 15, .inl (aZ nf))), (ml, .inl (G.2.1, 12, .inl (aZ ld)))]) (wrQ G [(hm0, .inr (9, [.int (zI S), .int (zI C), .int (zI Wy), .int (zI Li), .ref ml, .ref ms, .ref mw, .int (zI kn), .ref mi, .ref mk, .int (zI hz), .ref mh, .long tr, .ref mt, .int (zI tn), .int (zI cu), .int (zI sa), .int (zI to), .int (zI nu), .int (zI wr), .int (zI it), .int (zI sS), .int (zI sC), .int (zI sL), .int (zI sW), .ref mq, .ref mn, .ref mc, .ref mr, .ref mb])), (mn, .inl (G.2.1, 15, .inl (aZ nf))), (ml, .inl (G.2.1, 12, .inl (aZ ld)))] (fun (r_ : Int32) (u : (Int → Int)) => match u with | nf2 => r_ = zI (if 999 < nf (3 + nf 1) + ld (nf 1) then 999 else nf (3 + nf 1) + ld (nf 1)) ∧ (nf2 = uZ (uZ nf (3 + nf 1) (if 999 < nf (3 + nf 1) + ld (nf 1) then 999 else nf (3 + nf 1) + ld (nf 1))) 0 (nf 0 + 1))) (fun (u : (Int → Int)) => match u with | nf2 => [(hm0, .inr (9, [.int (zI S), .int (zI C), .int (zI Wy), .int (zI Li), .ref ml, .ref ms, .ref mw, .int (zI kn), .ref mi, .ref mk, .int (zI hz), .ref mh, .long tr, .ref mt, .int (zI tn), .int (zI cu), .int (zI sa), .int (zI to), .int (zI nu), .int (zI wr), .int (zI it), .int (zI sS), .int (zI sC), .int (zI sL), .int (zI sW), .ref mq, .ref mn, .ref mc, .ref mr, .ref mb])), (mn, .inl (G.2.1, 15, .inl (aZ nf2))), (ml, .inl (G.2.1, 12, .inl (aZ ld)))])) 0 0 (wrA [(hm0, .inr (9, [.int (zI S), .int (zI C), .int (zI Wy), .int (zI Li), .ref ml, .ref ms, .ref mw, .int (zI kn), .ref mi, .ref mk, .int (zI hz), .ref mh, .long tr, .ref mt, .int (zI tn), .int (zI cu), .int (zI sa), .int (zI to), .int (zI nu), .int (zI wr), .int (zI it), .int (zI sS), .int (zI sC), .int (zI sL), .int (zI sW), .ref mq, .ref mn, .ref mc, .ref mr, .ref mb])), (mn, .inl (G.2.1, 15, .inl (aZ nf))), (ml, .inl (G.2.1, 12, .inl (aZ ld)))]) := by
  refine wr_ofW (cc := cX9_goes) (maxL := 3) (ty := .int) (by decide) rfl (Nat.le_of_ble_eq_true rfl) ?_
  intro p e s m below meth c Q A hx hb hml hown hts hK hret H locs hP hD hS ls hl
  have hown : s.vm.findClass RX9 = some m.cls := hown
  have hl : lv_has ls 3 [(0, .ref hm0)] := hl
  have f48 := hts (.fieldLink RX9 48 "QuarterTurnsModel" "now" "[I") (by decide +kernel)
  have i9 : ∀ w ∈ wsX90, w ∈ wsX9_goes := fun w h => List.mem_cons_of_mem _ (List.mem_append_right _ h)
  have f22 := hts (.fieldLink RX9 22 "QuarterTurnsModel" "load" "[I") (by decide +kernel)
  have hn1 := hnr (nf 1) (by omega) (by omega)
  have hl1 := hld (nf 1) (by omega) (by omega)
  refine lv_iconst (v := zI 3) hx hb dX9_goes_0 rfl ?_
  refine lv_aload_n hx hb dX9_goes_1 rfl (lv_at hl 0 rfl) ?_
  refine va_get (ci := 9) (v := .ref mn) (C := RX9) (T := TX9) (N := 30) hx hb hts i9 hown hK hP 0 rfl rfl 26 (by decide) f48 (fun _ h9 => h9) rfl dX9_goes_2 ?_
  refine lv_iconst (v := zI 1) hx hb dX9_goes_5 rfl ?_
  refine z_iald (n := 15) (f := nf) hx hb hK hP 1 rfl (by omega) dX9_goes_6 ?_
  refine z_iadd hx hb dX9_goes_7 ?_
  refine lv_istore_n (lv' := [(1, .int (zI (3 + (nf 1)))), (0, .ref hm0)]) hx hb dX9_goes_8 rfl hl (by decide) rfl (fun ls hl => ?_)
  refine lv_aload_n hx hb dX9_goes_9 rfl (lv_at hl 1 rfl) ?_
  refine va_get (ci := 9) (v := .ref mn) (C := RX9) (T := TX9) (N := 30) hx hb hts i9 hown hK hP 0 rfl rfl 26 (by decide) f48 (fun _ h9 => h9) rfl dX9_goes_10 ?_
  refine lv_iload_n hx hb dX9_goes_13 rfl (lv_at hl 0 rfl) ?_
  refine z_iald (n := 15) (f := nf) hx hb hK hP 1 rfl (by omega) dX9_goes_14 ?_
  refine lv_aload_n hx hb dX9_goes_15 rfl (lv_at hl 1 rfl) ?_
  refine va_get (ci := 9) (v := .ref ml) (C := RX9) (T := TX9) (N := 30) hx hb hts i9 hown hK hP 0 rfl rfl 4 (by decide) f22 (fun _ h9 => h9) rfl dX9_goes_16 ?_
  refine lv_aload_n hx hb dX9_goes_19 rfl (lv_at hl 1 rfl) ?_
  refine va_get (ci := 9) (v := .ref mn) (C := RX9) (T := TX9) (N := 30) hx hb hts i9 hown hK hP 0 rfl rfl 26 (by decide) f48 (fun _ h9 => h9) rfl dX9_goes_20 ?_
  refine lv_iconst (v := zI 1) hx hb dX9_goes_23 rfl ?_
  refine z_iald (n := 15) (f := nf) hx hb hK hP 1 rfl (by omega) dX9_goes_24 ?_
  refine z_iald (n := 12) (f := ld) hx hb hK hP 2 rfl (by omega) dX9_goes_25 ?_
  refine z_iadd hx hb dX9_goes_26 ?_
  refine lv_istore_n (lv' := [(2, .int (zI ((nf (3 + (nf 1))) + (ld (nf 1))))), (1, .int (zI (3 + (nf 1)))), (0, .ref hm0)]) hx hb dX9_goes_27 rfl hl (by decide) rfl (fun ls hl => ?_)
  refine lv_aload_n hx hb dX9_goes_28 rfl (lv_at hl 2 rfl) ?_
  refine va_get (ci := 9) (v := .ref mn) (C := RX9) (T := TX9) (N := 30) hx hb hts i9 hown hK hP 0 rfl rfl 26 (by decide) f48 (fun _ h9 => h9) rfl dX9_goes_29 ?_
  refine lv_iload_n hx hb dX9_goes_32 rfl (lv_at hl 1 rfl) ?_
  refine lv_iload_n hx hb dX9_goes_33 rfl (lv_at hl 0 rfl) ?_
  refine lv_sipush (v := zI 999) hx hb dX9_goes_34 (by decide) ?_
  refine z_icmp_le (tgt := 46) hx hb (by omega) dX9_goes_37 (by decide) (fun c_1 => ?_) (fun c_1 => ?_)
  · refine lv_iload_n hx hb dX9_goes_46 rfl (lv_at hl 0 rfl) ?_
    refine z_iast (n := 15) (f := nf) (i := 3 + (nf 1)) (v := (nf (3 + (nf 1))) + (ld (nf 1))) hx hb hK hP hD hS 1 rfl (by omega) dX9_goes_47 (fun H locs hP hD hS => ?_)
    have hP : kP G [(hm0, .inr (9, [.int (zI S), .int (zI C), .int (zI Wy), .int (zI Li), .ref ml, .ref ms, .ref mw, .int (zI kn), .ref mi, .ref mk, .int (zI hz), .ref mh, .long tr, .ref mt, .int (zI tn), .int (zI cu), .int (zI sa), .int (zI to), .int (zI nu), .int (zI wr), .int (zI it), .int (zI sS), .int (zI sC), .int (zI sL), .int (zI sW), .ref mq, .ref mn, .ref mc, .ref mr, .ref mb])), (mn, .inl (G.2.1, 15, .inl (aZ (uZ nf (3 + (nf 1)) ((nf (3 + (nf 1))) + (ld (nf 1))))))), (ml, .inl (G.2.1, 12, .inl (aZ ld)))] H := hP
    have hD : va_D A [(hm0, .inr (9, [.int (zI S), .int (zI C), .int (zI Wy), .int (zI Li), .ref ml, .ref ms, .ref mw, .int (zI kn), .ref mi, .ref mk, .int (zI hz), .ref mh, .long tr, .ref mt, .int (zI tn), .int (zI cu), .int (zI sa), .int (zI to), .int (zI nu), .int (zI wr), .int (zI it), .int (zI sS), .int (zI sC), .int (zI sL), .int (zI sW), .ref mq, .ref mn, .ref mc, .ref mr, .ref mb])), (mn, .inl (G.2.1, 15, .inl (aZ (uZ nf (3 + (nf 1)) ((nf (3 + (nf 1))) + (ld (nf 1))))))), (ml, .inl (G.2.1, 12, .inl (aZ ld)))] := hD
    refine lv_aload_n hx hb dX9_goes_48 rfl (lv_at hl 2 rfl) ?_
    refine va_get (ci := 9) (v := .ref mn) (C := RX9) (T := TX9) (N := 30) hx hb hts i9 hown hK hP 0 rfl rfl 26 (by decide) f48 (fun _ h9 => h9) rfl dX9_goes_49 ?_
    refine lv_iconst (v := zI 0) hx hb dX9_goes_52 rfl ?_
    refine lv_dup2_11 hx hb dX9_goes_53 rfl rfl ?_
    refine z_iald (n := 15) (f := uZ nf (3 + (nf 1)) ((nf (3 + (nf 1))) + (ld (nf 1)))) hx hb hK hP 1 rfl (by omega) dX9_goes_54 ?_
    refine lv_iconst (v := zI 1) hx hb dX9_goes_55 rfl ?_
    refine z_iadd hx hb dX9_goes_56 ?_
    refine z_iast (n := 15) (f := uZ nf (3 + (nf 1)) ((nf (3 + (nf 1))) + (ld (nf 1)))) (i := 0) (v := ((uZ nf (3 + (nf 1)) ((nf (3 + (nf 1))) + (ld (nf 1)))) 0) + 1) hx hb hK hP hD hS 1 rfl (by omega) dX9_goes_57 (fun H locs hP hD hS => ?_)
    have hP : kP G [(hm0, .inr (9, [.int (zI S), .int (zI C), .int (zI Wy), .int (zI Li), .ref ml, .ref ms, .ref mw, .int (zI kn), .ref mi, .ref mk, .int (zI hz), .ref mh, .long tr, .ref mt, .int (zI tn), .int (zI cu), .int (zI sa), .int (zI to), .int (zI nu), .int (zI wr), .int (zI it), .int (zI sS), .int (zI sC), .int (zI sL), .int (zI sW), .ref mq, .ref mn, .ref mc, .ref mr, .ref mb])), (mn, .inl (G.2.1, 15, .inl (aZ (uZ (uZ nf (3 + (nf 1)) ((nf (3 + (nf 1))) + (ld (nf 1)))) 0 (((uZ nf (3 + (nf 1)) ((nf (3 + (nf 1))) + (ld (nf 1)))) 0) + 1))))), (ml, .inl (G.2.1, 12, .inl (aZ ld)))] H := hP
    have hD : va_D A [(hm0, .inr (9, [.int (zI S), .int (zI C), .int (zI Wy), .int (zI Li), .ref ml, .ref ms, .ref mw, .int (zI kn), .ref mi, .ref mk, .int (zI hz), .ref mh, .long tr, .ref mt, .int (zI tn), .int (zI cu), .int (zI sa), .int (zI to), .int (zI nu), .int (zI wr), .int (zI it), .int (zI sS), .int (zI sC), .int (zI sL), .int (zI sW), .ref mq, .ref mn, .ref mc, .ref mr, .ref mb])), (mn, .inl (G.2.1, 15, .inl (aZ (uZ (uZ nf (3 + (nf 1)) ((nf (3 + (nf 1))) + (ld (nf 1)))) 0 (((uZ nf (3 + (nf 1)) ((nf (3 + (nf 1))) + (ld (nf 1)))) 0) + 1))))), (ml, .inl (G.2.1, 12, .inl (aZ ld)))] := hD
    refine lv_aload_n hx hb dX9_goes_58 rfl (lv_at hl 2 rfl) ?_
    refine va_get (ci := 9) (v := .ref mn) (C := RX9) (T := TX9) (N := 30) hx hb hts i9 hown hK hP 0 rfl rfl 26 (by decide) f48 (fun _ h9 => h9) rfl dX9_goes_59 ?_
    refine lv_iload_n hx hb dX9_goes_62 rfl (lv_at hl 1 rfl) ?_
    refine z_iald (n := 15) (f := uZ (uZ nf (3 + (nf 1)) ((nf (3 + (nf 1))) + (ld (nf 1)))) 0 (((uZ nf (3 + (nf 1)) ((nf (3 + (nf 1))) + (ld (nf 1)))) 0) + 1)) hx hb hK hP 1 rfl (by omega) dX9_goes_63 ?_
    exact hret H locs ls 64 _ (uZ (uZ nf (3 + (nf 1)) ((nf (3 + (nf 1))) + (ld (nf 1)))) 0 (((uZ nf (3 + (nf 1)) ((nf (3 + (nf 1))) + (ld (nf 1)))) 0) + 1)) rfl ⟨congrArg zI (by rw [uZ_ne _ _ (by omega), uZ_same]; first | rw [if_pos (by omega)] | rw [if_neg (by omega)]), by rw [show uZ nf (3 + nf 1) _ 0 = nf 0 from uZ_ne _ _ (by omega)]; first | rw [if_pos (by omega)] | rw [if_neg (by omega)]⟩ hP hS dX9_goes_64
  · refine lv_sipush (v := zI 999) hx hb dX9_goes_40 (by decide) ?_
    refine lv_goto (tgt := 47) hx hb dX9_goes_43 (by decide) ?_
    refine z_iast (n := 15) (f := nf) (i := 3 + (nf 1)) (v := 999) hx hb hK hP hD hS 1 rfl (by omega) dX9_goes_47 (fun H locs hP hD hS => ?_)
    have hP : kP G [(hm0, .inr (9, [.int (zI S), .int (zI C), .int (zI Wy), .int (zI Li), .ref ml, .ref ms, .ref mw, .int (zI kn), .ref mi, .ref mk, .int (zI hz), .ref mh, .long tr, .ref mt, .int (zI tn), .int (zI cu), .int (zI sa), .int (zI to), .int (zI nu), .int (zI wr), .int (zI it), .int (zI sS), .int (zI sC), .int (zI sL), .int (zI sW), .ref mq, .ref mn, .ref mc, .ref mr, .ref mb])), (mn, .inl (G.2.1, 15, .inl (aZ (uZ nf (3 + (nf 1)) 999)))), (ml, .inl (G.2.1, 12, .inl (aZ ld)))] H := hP
    have hD : va_D A [(hm0, .inr (9, [.int (zI S), .int (zI C), .int (zI Wy), .int (zI Li), .ref ml, .ref ms, .ref mw, .int (zI kn), .ref mi, .ref mk, .int (zI hz), .ref mh, .long tr, .ref mt, .int (zI tn), .int (zI cu), .int (zI sa), .int (zI to), .int (zI nu), .int (zI wr), .int (zI it), .int (zI sS), .int (zI sC), .int (zI sL), .int (zI sW), .ref mq, .ref mn, .ref mc, .ref mr, .ref mb])), (mn, .inl (G.2.1, 15, .inl (aZ (uZ nf (3 + (nf 1)) 999)))), (ml, .inl (G.2.1, 12, .inl (aZ ld)))] := hD
    refine lv_aload_n hx hb dX9_goes_48 rfl (lv_at hl 2 rfl) ?_
    refine va_get (ci := 9) (v := .ref mn) (C := RX9) (T := TX9) (N := 30) hx hb hts i9 hown hK hP 0 rfl rfl 26 (by decide) f48 (fun _ h9 => h9) rfl dX9_goes_49 ?_
    refine lv_iconst (v := zI 0) hx hb dX9_goes_52 rfl ?_
    refine lv_dup2_11 hx hb dX9_goes_53 rfl rfl ?_
    refine z_iald (n := 15) (f := uZ nf (3 + (nf 1)) 999) hx hb hK hP 1 rfl (by omega) dX9_goes_54 ?_
    refine lv_iconst (v := zI 1) hx hb dX9_goes_55 rfl ?_
    refine z_iadd hx hb dX9_goes_56 ?_
    refine z_iast (n := 15) (f := uZ nf (3 + (nf 1)) 999) (i := 0) (v := ((uZ nf (3 + (nf 1)) 999) 0) + 1) hx hb hK hP hD hS 1 rfl (by omega) dX9_goes_57 (fun H locs hP hD hS => ?_)
    have hP : kP G [(hm0, .inr (9, [.int (zI S), .int (zI C), .int (zI Wy), .int (zI Li), .ref ml, .ref ms, .ref mw, .int (zI kn), .ref mi, .ref mk, .int (zI hz), .ref mh, .long tr, .ref mt, .int (zI tn), .int (zI cu), .int (zI sa), .int (zI to), .int (zI nu), .int (zI wr), .int (zI it), .int (zI sS), .int (zI sC), .int (zI sL), .int (zI sW), .ref mq, .ref mn, .ref mc, .ref mr, .ref mb])), (mn, .inl (G.2.1, 15, .inl (aZ (uZ (uZ nf (3 + (nf 1)) 999) 0 (((uZ nf (3 + (nf 1)) 999) 0) + 1))))), (ml, .inl (G.2.1, 12, .inl (aZ ld)))] H := hP
    have hD : va_D A [(hm0, .inr (9, [.int (zI S), .int (zI C), .int (zI Wy), .int (zI Li), .ref ml, .ref ms, .ref mw, .int (zI kn), .ref mi, .ref mk, .int (zI hz), .ref mh, .long tr, .ref mt, .int (zI tn), .int (zI cu), .int (zI sa), .int (zI to), .int (zI nu), .int (zI wr), .int (zI it), .int (zI sS), .int (zI sC), .int (zI sL), .int (zI sW), .ref mq, .ref mn, .ref mc, .ref mr, .ref mb])), (mn, .inl (G.2.1, 15, .inl (aZ (uZ (uZ nf (3 + (nf 1)) 999) 0 (((uZ nf (3 + (nf 1)) 999) 0) + 1))))), (ml, .inl (G.2.1, 12, .inl (aZ ld)))] := hD
    refine lv_aload_n hx hb dX9_goes_58 rfl (lv_at hl 2 rfl) ?_
    refine va_get (ci := 9) (v := .ref mn) (C := RX9) (T := TX9) (N := 30) hx hb hts i9 hown hK hP 0 rfl rfl 26 (by decide) f48 (fun _ h9 => h9) rfl dX9_goes_59 ?_
    refine lv_iload_n hx hb dX9_goes_62 rfl (lv_at hl 1 rfl) ?_
    refine z_iald (n := 15) (f := uZ (uZ nf (3 + (nf 1)) 999) 0 (((uZ nf (3 + (nf 1)) 999) 0) + 1)) hx hb hK hP 1 rfl (by omega) dX9_goes_63 ?_
    exact hret H locs ls 64 _ (uZ (uZ nf (3 + (nf 1)) 999) 0 (((uZ nf (3 + (nf 1)) 999) 0) + 1)) rfl ⟨congrArg zI (by rw [uZ_ne _ _ (by omega), uZ_same]; first | rw [if_pos (by omega)] | rw [if_neg (by omega)]), by rw [show uZ nf (3 + nf 1) _ 0 = nf 0 from uZ_ne _ _ (by omega)]; first | rw [if_pos (by omega)] | rw [if_neg (by omega)]⟩ hP hS dX9_goes_64
theorem pd_X9_turns : yX9_turns.cls = RX9 ∧ yX9_turns.cls ≠ "java/lang/invoke/MethodHandle" ∧ yX9_turns.cls ≠ "java/lang/invoke/VarHandle" ∧ (parseMethodDescriptor yX9_turns.desc).map (fun d => d.parameters.length) = some 1 := by decide +kernel
abbrev rmX9_turns : Room := { frames := 1, cells := 0, slots := 0, locals := 24 }
set_option maxHeartbeats 4000000 in
set_option maxRecDepth 100000 in
theorem c_X9_turns (l : Launch) (G : CX) (hm0 : Nat) (S : Int) (C : Int) (Wy : Int) (Li : Int) (ml : Nat) (ms : Nat) (mw : Nat) (kn : Int) (mi : Nat) (mk : Nat) (hz : Int) (mh : Nat) (tr : Int64) (mt : Nat) (tn : Int) (cu : Int) (sa : Int) (to : Int) (nu : Int) (wr : Int) (it : Int) (sS : Int) (sC : Int) (sL : Int) (sW : Int) (mq : Nat) (mn : Nat) (mc : Nat) (mr : Nat) (mb : Nat) (nf : Int → Int) (t : Int) (hB : (2 ≤ S ∧ S ≤ 6) ∧ (C = 1 ∧ Wy = S ∨ C = 2 ∧ Wy = 2 * S)) (hnl : 0 ≤ nf 1 ∧ nf 1 < Wy) (ht : 0 ≤ t ∧ t < Wy) : Met l yX9_turns wsX9_turns rmX9_turns (wrP G [.ref hm0, .int (zI t)] [(hm0, .inr (9, [.int (zI S), .int (zI C), .int (zI Wy), .int (zI Li), .ref ml, .ref ms, .ref mw, .int (zI kn), .ref mi, .ref mk, .int (zI hz), .ref mh, .long tr, .ref mt, .int (zI tn), .int (zI cu), .int (zI sa), .int (zI to), .int (zI nu), .int (zI wr), .int (zI it), .int (zI sS), .int (zI sC), .int (zI sL), .int (zI sW), .ref mq, .ref mn, .ref mc, .ref mr, .ref mb])), (mn, .inl (G.2.1, 15, .inl (aZ nf)))]) (wrV G [(hm0, .inr (9, [.int (zI S), .int (zI C), .int (zI Wy), .int (zI Li), .ref ml, .ref ms, .ref mw, .int (zI kn), .ref mi, .ref mk, .int (zI hz), .ref mh, .long tr, .ref mt, .int (zI tn), .int (zI cu), .int (zI sa), .int (zI to), .int (zI nu), .int (zI wr), .int (zI it), .int (zI sS), .int (zI sC), .int (zI sL), .int (zI sW), .ref mq, .ref mn, .ref mc, .ref mr, .ref mb])), (mn, .inl (G.2.1, 15, .inl (aZ nf)))] (fun (u : Unit) => match u with | _ => (True)) (fun (u : Unit) => match u with | _ => [(hm0, .inr (9, [.int (zI S), .int (zI C), .int (zI Wy), .int (zI Li), .ref ml, .ref ms, .ref mw, .int (zI kn), .ref mi, .ref mk, .int (zI hz), .ref mh, .long tr, .ref mt, .int (zI tn), .int (zI cu), .int (zI sa), .int (zI to), .int (zI nu), .int (zI wr), .int (zI it), .int (zI sS), .int (zI sC), .int (zI sL), .int (zI sW), .ref mq, .ref mn, .ref mc, .ref mr, .ref mb])), (mn, .inl (G.2.1, 15, .inl (aZ (uZ nf 1 (fromZ S (nf 1) t)))))])) 0 0 (wrA [(hm0, .inr (9, [.int (zI S), .int (zI C), .int (zI Wy), .int (zI Li), .ref ml, .ref ms, .ref mw, .int (zI kn), .ref mi, .ref mk, .int (zI hz), .ref mh, .long tr, .ref mt, .int (zI tn), .int (zI cu), .int (zI sa), .int (zI to), .int (zI nu), .int (zI wr), .int (zI it), .int (zI sS), .int (zI sC), .int (zI sL), .int (zI sW), .ref mq, .ref mn, .ref mc, .ref mr, .ref mb])), (mn, .inl (G.2.1, 15, .inl (aZ nf)))]) := by
  refine wv_ofW (cc := cX9_turns) (maxL := 2) (by decide) rfl (Nat.le_of_ble_eq_true rfl) ?_
  intro p e s m below meth c Q A hx hb hml hown hts hK hret H locs hP hD hS ls hl
  have hown : s.vm.findClass RX9 = some m.cls := hown
  have hl : lv_has ls 2 [(0, .ref hm0), (1, .int (zI t))] := hl
  have f48 := hts (.fieldLink RX9 48 "QuarterTurnsModel" "now" "[I") (by decide +kernel)
  have i9 : ∀ w ∈ wsX90, w ∈ wsX9_turns := fun w h => List.mem_cons_of_mem _ (List.mem_append_right _ h)
  refine lv_aload_n hx hb dX9_turns_0 rfl (lv_at hl 0 rfl) ?_
  refine va_get (ci := 9) (v := .ref mn) (C := RX9) (T := TX9) (N := 30) hx hb hts i9 hown hK hP 0 rfl rfl 26 (by decide) f48 (fun _ h9 => h9) rfl dX9_turns_1 ?_
  refine lv_iconst (v := zI 1) hx hb dX9_turns_4 rfl ?_
  refine lv_aload_n hx hb dX9_turns_5 rfl (lv_at hl 0 rfl) ?_
  refine lv_aload_n hx hb dX9_turns_6 rfl (lv_at hl 0 rfl) ?_
  refine va_get (ci := 9) (v := .ref mn) (C := RX9) (T := TX9) (N := 30) hx hb hts i9 hown hK hP 0 rfl rfl 26 (by decide) f48 (fun _ h9 => h9) rfl dX9_turns_7 ?_
  refine lv_iconst (v := zI 1) hx hb dX9_turns_10 rfl ?_
  refine z_iald (n := 15) (f := nf) hx hb hK hP 1 rfl (by omega) dX9_turns_11 ?_
  refine lv_iload_n hx hb dX9_turns_12 rfl (lv_at hl 1 rfl) ?_
  refine z_cV (As := [.int (zI (nf 1)), .int (zI t)]) (rest := [.int (zI 1), .ref mn]) ⟨hx, hb, hml, hown, hts⟩ (c_X9_from l G hm0 S C Wy Li ml ms mw kn mi mk hz mh tr mt tn cu sa to nu wr it sS sC sL sW mq mn mc mr mb (nf 1) t (by first | assumption | omega) (by first | assumption | omega) (by first | assumption | omega)) (cwV 2 hts gX9_turns_X9_from rfl rfl rfl pd_X9_from ⟨(Nat.le_of_ble_eq_true rfl), (Nat.le_of_ble_eq_true rfl)⟩) hK hP hS [0] rfl rfl rfl rfl rfl hl.1 rfl (Nat.le_of_ble_eq_true rfl) dX9_turns_13 ⟨Nat.zero_le _, Nat.zero_le _⟩ (fun H locs hP hS => ?_)
  have hq_1 := fromZ_rng (C := C) (Wy := Wy) (w := (nf 1)) (t := t) ((by first | assumption | omega)) ((by first | assumption | omega)) ((by first | assumption | omega))
  refine z_iast (n := 15) (f := nf) (i := 1) (v := fromZ S (nf 1) t) hx hb hK hP hD hS 1 rfl (by omega) dX9_turns_16 (fun H locs hP hD hS => ?_)
  have hP : kP G [(hm0, .inr (9, [.int (zI S), .int (zI C), .int (zI Wy), .int (zI Li), .ref ml, .ref ms, .ref mw, .int (zI kn), .ref mi, .ref mk, .int (zI hz), .ref mh, .long tr, .ref mt, .int (zI tn), .int (zI cu), .int (zI sa), .int (zI to), .int (zI nu), .int (zI wr), .int (zI it), .int (zI sS), .int (zI sC), .int (zI sL), .int (zI sW), .ref mq, .ref mn, .ref mc, .ref mr, .ref mb])), (mn, .inl (G.2.1, 15, .inl (aZ (uZ nf 1 (fromZ S (nf 1) t)))))] H := hP
  have hD : va_D A [(hm0, .inr (9, [.int (zI S), .int (zI C), .int (zI Wy), .int (zI Li), .ref ml, .ref ms, .ref mw, .int (zI kn), .ref mi, .ref mk, .int (zI hz), .ref mh, .long tr, .ref mt, .int (zI tn), .int (zI cu), .int (zI sa), .int (zI to), .int (zI nu), .int (zI wr), .int (zI it), .int (zI sS), .int (zI sC), .int (zI sL), .int (zI sW), .ref mq, .ref mn, .ref mc, .ref mr, .ref mb])), (mn, .inl (G.2.1, 15, .inl (aZ (uZ nf 1 (fromZ S (nf 1) t)))))] := hD
  exact hret H locs ls 17 () (by trivial) hP hS dX9_turns_17
